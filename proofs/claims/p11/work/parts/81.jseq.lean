section JSQ
variable {R : Nat → Nat → Nat} {σ τ : SG} {m k j : Nat} {c d : Ce} {x1 x2 x3 x4 : Int32}
def J_add (c1 c2 c3 : Ce) : Ce := if c2.1 = 0 then (0, c1.2) else if c3.1 = 0 then (0, c1.2) else if c2.1 = 2 then (2, c1.2) else if c3.1 = 2 then (2, c1.2) else J_make c1 1 (c2.2.1 + c3.2.1) (c2.2.2.1 + c3.2.2.1) (gJ c2.2.2.2 c3.2.2.2)
theorem zj_isPlain : Z_X10_isPlain R σ m x1 x2 x3 = (if (cC R m σ x2.toNatClampNeg).1 = 0 then (wC R m σ x1.toNatClampNeg (0, (cC R m σ x1.toNatClampNeg).2), 1) else if (cC R m σ x3.toNatClampNeg).1 = 0 then (wC R m σ x1.toNatClampNeg (0, (cC R m σ x1.toNatClampNeg).2), 1) else if (cC R m σ x2.toNatClampNeg).1 = 2 then (wC R m σ x1.toNatClampNeg (2, (cC R m σ x1.toNatClampNeg).2), 1) else if (cC R m σ x3.toNatClampNeg).1 = 2 then (wC R m σ x1.toNatClampNeg (2, (cC R m σ x1.toNatClampNeg).2), 1) else (σ, 0)) := by
  unfold Z_X10_isPlain
  rw [wC_s, wC_s]
  rfl
theorem zj_add (hD : D4 R m) : Z_X10_add R σ m x1 x2 x3 = wC R m σ x1.toNatClampNeg (J_add (cC R m σ x1.toNatClampNeg) (cC R m σ x2.toNatClampNeg) (cC R m σ x3.toNatClampNeg)) := by
  unfold Z_X10_add J_add
  rw [zj_isPlain]
  by_cases h1 : (cC R m σ x2.toNatClampNeg).1 = 0
  · simp [h1]
  · by_cases h2 : (cC R m σ x3.toNatClampNeg).1 = 0
    · simp [h1, h2]
    · by_cases h3 : (cC R m σ x2.toNatClampNeg).1 = 2
      · simp [h2, h3]
      · by_cases h4 : (cC R m σ x3.toNatClampNeg).1 = 2
        · simp [h1, h3, h4]
        · simp only [h1, h2, h3, h4, ↓reduceIte]
          exact zj_make hD
theorem zj_subtract (hD : D4 R m) (h1 : x1.toNatClampNeg ≠ 4930) (h2 : x2.toNatClampNeg ≠ 4930) : Z_X10_subtract R σ m x1 x2 x3 = wC R m (wC R m σ 4930 (J_negate (cC R m σ 4930) (cC R m σ x3.toNatClampNeg))) x1.toNatClampNeg (J_add (cC R m σ x1.toNatClampNeg) (cC R m σ x2.toNatClampNeg) (J_negate (cC R m σ 4930) (cC R m σ x3.toNatClampNeg))) := by
  show Z_X10_add R (Z_X10_negate R σ m 4930 x3) m x1 x2 4930 = _
  rw [zj_add hD, zj_negate hD]
  have e : (4930 : Int32).toNatClampNeg = 4930 := rfl
  rw [e, cC_wC hD, cC_wCn h1, cC_wCn h2]
def J_times (c1 c2 c3 : Ce) : Ce :=
  if c2.1 = 0 then (0, c1.2) else if c3.1 = 0 then (0, c1.2)
  else if J_isNumber c2 0 = 0 then (if J_isNumber c3 0 = 0 then
    (if c2.1 = 2 then (2, c1.2) else if c3.1 = 2 then (2, c1.2)
     else if c2.2.1 < (-1073741824 : Int64) then (2, c1.2) else if (1073741824 : Int64) < c2.2.2.1 then (2, c1.2)
     else if c3.2.1 < (-1073741824 : Int64) then (2, c1.2) else if (1073741824 : Int64) < c3.2.2.1 then (2, c1.2)
     else J_times_p128 c1 c2 c3) else J_one c1 0) else J_one c1 0
theorem zj_times (hD : D4 R m) : Z_X10_times R σ m x1 x2 x3 = wC R m σ x1.toNatClampNeg (J_times (cC R m σ x1.toNatClampNeg) (cC R m σ x2.toNatClampNeg) (cC R m σ x3.toNatClampNeg)) := by
  unfold Z_X10_times J_times
  refine ite_c (fun _ => wC_s) (fun g1 => ite_c (fun _ => wC_s) (fun g2 => ite_c (fun _ => ite_c (fun _ => ?_) (fun _ => zj_one hD)) (fun _ => zj_one hD)))
  rw [zj_isPlain]
  have h1 : ¬ (cC R m σ x2.toNatClampNeg).1 = 0 := g1
  have h2 : ¬ (cC R m σ x3.toNatClampNeg).1 = 0 := g2
  by_cases h3 : (cC R m σ x2.toNatClampNeg).1 = 2
  · simp [h2, h3]
  · by_cases h4 : (cC R m σ x3.toNatClampNeg).1 = 2
    · simp [h1, h3, h4]
    · simp only [h1, h2, h3, h4, ↓reduceIte]
      exact ite_c (fun _ => wC_s) (fun _ => ite_c (fun _ => wC_s) (fun _ => ite_c (fun _ => wC_s) (fun _ => ite_c (fun _ => wC_s) (fun _ => zj_times_p128 hD))))
def J_wide1 (h c1 c2 c3 : Ce) : Ce :=
  if h.1 = 1 then if c2.1 = 1 then if c3.1 = 1 then if (0 : Int64) < h.2.2.2 then
    J_make h 1 (if h.2.1 < c2.2.1 then h.2.1 - (h.2.1 + 2305843009213693952) / h.2.2.2 * h.2.2.2 else h.2.1) (if c2.2.2.1 < h.2.2.1 then h.2.2.1 + (2305843009213693952 - h.2.2.1) / h.2.2.2 * h.2.2.2 else h.2.2.1) h.2.2.2
  else h else h else h else h
theorem zj_widen (hD : D4 R m) (h1 : x1.toNatClampNeg ≠ 4930) (h2 : x2.toNatClampNeg ≠ 4930) (h3 : x3.toNatClampNeg ≠ 4930) : Z_X10_widen R σ m x1 x2 x3 = wC R m (wC R m σ 4930 (J_wide1 (J_join (cC R m σ 4930) (cC R m σ x2.toNatClampNeg) (cC R m σ x3.toNatClampNeg)) (cC R m σ x1.toNatClampNeg) (cC R m σ x2.toNatClampNeg) (cC R m σ x3.toNatClampNeg))) x1.toNatClampNeg (J_wide1 (J_join (cC R m σ 4930) (cC R m σ x2.toNatClampNeg) (cC R m σ x3.toNatClampNeg)) (cC R m σ x1.toNatClampNeg) (cC R m σ x2.toNatClampNeg) (cC R m σ x3.toNatClampNeg)) := by
  unfold Z_X10_widen J_wide1
  have e : (4930 : Int32).toNatClampNeg = 4930 := rfl
  simp only [zj_join hD, zj_make hD, zj_copy hD, e, cC_wC hD, wC_wC]
  generalize hH : J_join (cC R m σ 4930) (cC R m σ x2.toNatClampNeg) (cC R m σ x3.toNatClampNeg) = H
  have a1 : mi (wC R m σ 4930 H) (R 643 m) 4930 = H.1 := congrArg (fun q => q.1) (cC_wC (σ := σ) (k := 4930) (c := H) hD)
  have a2 : mj (wC R m σ 4930 H) (R 644 m) 4930 = H.2.1 := congrArg (fun q => q.2.1) (cC_wC (σ := σ) (k := 4930) (c := H) hD)
  have a3 : mj (wC R m σ 4930 H) (R 645 m) 4930 = H.2.2.1 := congrArg (fun q => q.2.2.1) (cC_wC (σ := σ) (k := 4930) (c := H) hD)
  have a4 : mj (wC R m σ 4930 H) (R 646 m) 4930 = H.2.2.2 := congrArg (fun q => q.2.2.2) (cC_wC (σ := σ) (k := 4930) (c := H) hD)
  have b1 : mi (wC R m σ 4930 H) (R 643 m) x2.toNatClampNeg = (cC R m σ x2.toNatClampNeg).1 := congrArg (fun q => q.1) (cC_wCn (R := R) (m := m) (σ := σ) (c := H) h2)
  have b2 : mj (wC R m σ 4930 H) (R 644 m) x2.toNatClampNeg = (cC R m σ x2.toNatClampNeg).2.1 := congrArg (fun q => q.2.1) (cC_wCn (R := R) (m := m) (σ := σ) (c := H) h2)
  have b3 : mj (wC R m σ 4930 H) (R 645 m) x2.toNatClampNeg = (cC R m σ x2.toNatClampNeg).2.2.1 := congrArg (fun q => q.2.2.1) (cC_wCn (R := R) (m := m) (σ := σ) (c := H) h2)
  have d1 : mi (wC R m σ 4930 H) (R 643 m) x3.toNatClampNeg = (cC R m σ x3.toNatClampNeg).1 := congrArg (fun q => q.1) (cC_wCn (R := R) (m := m) (σ := σ) (c := H) h3)
  rw [a1, a2, a3, a4, b1, b2, b3, d1]
  by_cases p1 : H.1 = 1
  · by_cases p2 : (cC R m σ x2.toNatClampNeg).1 = 1
    · by_cases p3 : (cC R m σ x3.toNatClampNeg).1 = 1
      · by_cases p4 : (0 : Int64) < H.2.2.2
        · by_cases p5 : H.2.1 < (cC R m σ x2.toNatClampNeg).2.1
          · by_cases p6 : (cC R m σ x2.toNatClampNeg).2.2.1 < H.2.2.1
            · simp only [p1, p2, p3, p4, p5, p6, ↓reduceIte]
            · simp only [p1, p2, p3, p4, p5, p6, ↓reduceIte]
          · by_cases p6 : (cC R m σ x2.toNatClampNeg).2.2.1 < H.2.2.1
            · simp only [p1, p2, p3, p4, p5, p6, ↓reduceIte]
            · simp only [p1, p2, p3, p4, p5, p6, ↓reduceIte]
        · simp only [p1, p2, p3, p4, ↓reduceIte]
      · simp only [p1, p2, p3, ↓reduceIte]
    · simp only [p1, p2, ↓reduceIte]
  · simp only [p1, ↓reduceIte]
def J_signed (c1 c2 : Ce) : Ce :=
  if (J_lowPart c1 c2).1 = 0 then J_lowPart c1 c2 else if (J_lowPart c1 c2).2.2.1 < (2147483648 : Int64) then J_lowPart c1 c2
  else if (J_lowPart c1 c2).2.1 < (2147483648 : Int64) then
    J_make c1 1 ((J_lowPart c1 c2).2.1 - ((((J_lowPart c1 c2).2.1 + 2147483648) / (gJ (J_lowPart c1 c2).2.2.2 4294967296)) * (gJ (J_lowPart c1 c2).2.2.2 4294967296))) (((J_lowPart c1 c2).2.1 - ((((J_lowPart c1 c2).2.1 + 2147483648) / (gJ (J_lowPart c1 c2).2.2.2 4294967296)) * (gJ (J_lowPart c1 c2).2.2.2 4294967296))) + ((((2147483648 - 1) - ((J_lowPart c1 c2).2.1 - ((((J_lowPart c1 c2).2.1 + 2147483648) / (gJ (J_lowPart c1 c2).2.2.2 4294967296)) * (gJ (J_lowPart c1 c2).2.2.2 4294967296)))) / (gJ (J_lowPart c1 c2).2.2.2 4294967296)) * (gJ (J_lowPart c1 c2).2.2.2 4294967296))) (gJ (J_lowPart c1 c2).2.2.2 4294967296)
  else J_make c1 1 ((J_lowPart c1 c2).2.1 - 4294967296) ((J_lowPart c1 c2).2.2.1 - 4294967296) (J_lowPart c1 c2).2.2.2
theorem J_make_i {c1 c2 : Ce} {s : Int32} {l u e : Int64} : J_make c1 s l u e = J_make c2 s l u e := rfl
theorem zj_signed (hD : D4 R m) : Z_X10_signed R σ m x1 x2 = wC R m σ x1.toNatClampNeg (J_signed (cC R m σ x1.toNatClampNeg) (cC R m σ x2.toNatClampNeg)) := by
  unfold Z_X10_signed J_signed
  simp only [zj_lowPart hD, zj_make hD, wC_wC]
  generalize J_lowPart (cC R m σ x1.toNatClampNeg) (cC R m σ x2.toNatClampNeg) = H
  have a1 : mi (wC R m σ x1.toNatClampNeg H) (R 643 m) x1.toNatClampNeg = H.1 := congrArg (fun q => q.1) (cC_wC (σ := σ) (c := H) hD)
  have a2 : mj (wC R m σ x1.toNatClampNeg H) (R 644 m) x1.toNatClampNeg = H.2.1 := congrArg (fun q => q.2.1) (cC_wC (σ := σ) (c := H) hD)
  have a3 : mj (wC R m σ x1.toNatClampNeg H) (R 645 m) x1.toNatClampNeg = H.2.2.1 := congrArg (fun q => q.2.2.1) (cC_wC (σ := σ) (c := H) hD)
  have a4 : mj (wC R m σ x1.toNatClampNeg H) (R 646 m) x1.toNatClampNeg = H.2.2.2 := congrArg (fun q => q.2.2.2) (cC_wC (σ := σ) (c := H) hD)
  rw [a1, a2, a3, a4]
  exact ite_c (fun _ => rfl) (fun _ => ite_c (fun _ => rfl) (fun _ => ite_c (fun _ => rfl) (fun _ => rfl)))
def J_without (c1 c2 : Ce) (y3 : Int64) : Ce :=
  if c2.1 = 1 then if J_isNumber c2 y3 = 0 then
      if c2.2.1 = y3 then J_make c2 1 (c2.2.1 + c2.2.2.2) c2.2.2.1 c2.2.2.2
      else if c2.2.2.1 = y3 then J_make c2 1 c2.2.1 (c2.2.2.1 - c2.2.2.2) c2.2.2.2 else c2
    else (0, c2.2)
  else c2
theorem zj_without {y3 : Int64} (hD : D4 R m) (hn : x2.toNatClampNeg ≠ x1.toNatClampNeg) : Z_X10_without R σ m x1 x2 y3 = wC R m σ x1.toNatClampNeg (J_without (cC R m σ x1.toNatClampNeg) (cC R m σ x2.toNatClampNeg) y3) := by
  unfold Z_X10_without J_without
  have eI : Z_X10_isNumber R (wC R m σ x1.toNatClampNeg (cC R m σ x2.toNatClampNeg)) m x2 y3 = J_isNumber (cC R m σ x2.toNatClampNeg) y3 := by rw [zj_isNumber hD, cC_wCn hn]
  simp only [zj_copy hD, zj_make hD, wC_wC, eI, wC_s, cC_wC hD]
  have b1 : mi (wC R m σ x1.toNatClampNeg (cC R m σ x2.toNatClampNeg)) (R 643 m) x2.toNatClampNeg = (cC R m σ x2.toNatClampNeg).1 := congrArg (fun q => q.1) (cC_wCn (R := R) (m := m) (σ := σ) hn)
  have b2 : mj (wC R m σ x1.toNatClampNeg (cC R m σ x2.toNatClampNeg)) (R 644 m) x2.toNatClampNeg = (cC R m σ x2.toNatClampNeg).2.1 := congrArg (fun q => q.2.1) (cC_wCn (R := R) (m := m) (σ := σ) hn)
  have b3 : mj (wC R m σ x1.toNatClampNeg (cC R m σ x2.toNatClampNeg)) (R 645 m) x2.toNatClampNeg = (cC R m σ x2.toNatClampNeg).2.2.1 := congrArg (fun q => q.2.2.1) (cC_wCn (R := R) (m := m) (σ := σ) hn)
  have b4 : mj (wC R m σ x1.toNatClampNeg (cC R m σ x2.toNatClampNeg)) (R 646 m) x2.toNatClampNeg = (cC R m σ x2.toNatClampNeg).2.2.2 := congrArg (fun q => q.2.2.2) (cC_wCn (R := R) (m := m) (σ := σ) hn)
  rw [b1, b2, b3, b4]
  exact ite_c (fun _ => ite_c (fun _ => ite_c (fun _ => rfl) (fun _ => ite_c (fun _ => rfl) (fun _ => rfl))) (fun _ => rfl)) (fun _ => rfl)
/-- or's loop -/
def orL : Nat → Int64 → Int64 → Int64
  | 0, _, y => y
  | n + 1, x, y => if y < x then orL n x (2 * y + 1) else y
theorem zj_or168 {y5 : Int64} : ∀ (fu : Nat) (y7 : Int64), Ofu fu y7 → Z_X10_or_p168 fu R σ m x1 x2 x3 x4 y5 y7 = Z_X10_or_p189 R σ m x1 x2 x3 x4 (orL fu y5 y7) := by
  intro fu
  induction fu with
  | zero => intro y7 h; exact absurd h of_z
  | succ fu ih =>
    intro y7 h
    have e0 : Z_X10_or_p168 (fu + 1) R σ m x1 x2 x3 x4 y5 y7 = Z_X10_or_p168_b (Z_X10_or_p168 fu) R σ m x1 x2 x3 x4 y5 y7 := rfl
    rw [e0]
    unfold Z_X10_or_p168_b orL
    by_cases c : y7 < y5
    · rw [if_pos c, if_pos c]; exact ih _ (of_n h c)
    · rw [if_neg c, if_neg c]
def J_or132 (c1 c2 c3 : Ce) (x4 : Int32) : Ce := J_or_p189 c1 c2 c3 x4 (orL 64 (if c3.2.2.1 < c2.2.2.1 then c2.2.2.1 else c3.2.2.1) 0)
theorem zj_or132 (hD : D4 R m) : Z_X10_or_p132 R σ m x1 x2 x3 x4 = wC R m σ x1.toNatClampNeg (J_or132 (cC R m σ x1.toNatClampNeg) (cC R m σ x2.toNatClampNeg) (cC R m σ x3.toNatClampNeg) x4) := by
  unfold Z_X10_or_p132 J_or132
  rw [zj_or168 _ _ of_0, zj_or168 _ _ of_0]
  by_cases c : mj σ (R 645 m) x3.toNatClampNeg < mj σ (R 645 m) x2.toNatClampNeg
  · have c' : (cC R m σ x3.toNatClampNeg).2.2.1 < (cC R m σ x2.toNatClampNeg).2.2.1 := c
    rw [if_pos c, if_pos c']; exact zj_or_p189 hD
  · have c' : ¬ (cC R m σ x3.toNatClampNeg).2.2.1 < (cC R m σ x2.toNatClampNeg).2.2.1 := c
    rw [if_neg c, if_neg c']; exact zj_or_p189 hD
def J_or2 (c1 c2 c3 : Ce) (x4 : Int32) : Ce := if c2.1 = 2 then (2, c1.2) else if c3.1 = 2 then (2, c1.2) else if c2.2.1 < (0 : Int64) then (2, c1.2) else if c3.2.1 < (0 : Int64) then (2, c1.2) else J_or132 c1 c2 c3 x4
def J_or (c1 c2 c3 : Ce) (x4 : Int32) : Ce :=
  if c2.1 = 0 then (0, c1.2) else if c3.1 = 0 then (0, c1.2)
  else if J_isOne c2 = 0 then J_or2 c1 c2 c3 x4 else if J_isOne c3 = 0 then J_or2 c1 c2 c3 x4
  else if x4 = 0 then J_one c1 (c2.2.1 ||| c3.2.1) else J_one c1 (c2.2.1 ^^^ c3.2.1)
theorem zj_or (hD : D4 R m) : Z_X10_or R σ m x1 x2 x3 x4 = wC R m σ x1.toNatClampNeg (J_or (cC R m σ x1.toNatClampNeg) (cC R m σ x2.toNatClampNeg) (cC R m σ x3.toNatClampNeg) x4) := by
  unfold Z_X10_or J_or J_or2
  exact ite_c (fun _ => wC_s) (fun _ => ite_c (fun _ => wC_s) (fun _ => ite_c (fun _ => ite_c (fun _ => wC_s) (fun _ => ite_c (fun _ => wC_s) (fun _ => ite_c (fun _ => wC_s) (fun _ => ite_c (fun _ => wC_s) (fun _ => zj_or132 hD))))) (fun _ => ite_c (fun _ => ite_c (fun _ => wC_s) (fun _ => ite_c (fun _ => wC_s) (fun _ => ite_c (fun _ => wC_s) (fun _ => ite_c (fun _ => wC_s) (fun _ => zj_or132 hD))))) (fun _ => ite_c (fun _ => zj_one hD) (fun _ => zj_one hD)))))
end JSQ
