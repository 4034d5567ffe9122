/-! cells -/
abbrev Ce : Type := Int32 × Int64 × Int64 × Int64
def cC (R : Nat → Nat → Nat) (m : Nat) (σ : SG) (k : Nat) : Ce := (mi σ (R 643 m) k, mj σ (R 644 m) k, mj σ (R 645 m) k, mj σ (R 646 m) k)
def wC (R : Nat → Nat → Nat) (m : Nat) (σ : SG) (k : Nat) (c : Ce) : SG := uj (uj (uj (ui σ (R 643 m) k c.1) (R 644 m) k c.2.1) (R 645 m) k c.2.2.1) (R 646 m) k c.2.2.2
def D4 (R : Nat → Nat → Nat) (m : Nat) : Prop := R 644 m ≠ R 645 m ∧ R 644 m ≠ R 646 m ∧ R 645 m ≠ R 646 m
theorem mi_ui {σ : SG} {a i b j : Nat} {v : Int32} : mi (ui σ a i v) b j = if b = a ∧ j = i then v else mi σ b j := by
  show va_up (mi σ) a (upd (mi σ a) i v) b j = _
  unfold va_up
  by_cases h1 : b = a
  · subst h1
    simp only [↓reduceIte, true_and, upd]
  · simp [h1]
section CES
variable {R : Nat → Nat → Nat} {σ τ : SG} {m k j : Nat} {c d : Ce}
theorem sg_ext2 (h1 : mJ σ = mJ τ) (h2 : ∀ a i, mj σ a i = mj τ a i) (h3 : mI σ = mI τ) (h4 : ∀ a i, mi σ a i = mi τ a i) : σ = τ := sg_ext (fun k a => by rw [h1]) (funext fun a => funext fun i => h2 a i) h3 (funext fun a => funext fun i => h4 a i)
theorem mi_wC {a i : Nat} : mi (wC R m σ k c) a i = if a = R 643 m ∧ i = k then c.1 else mi σ a i := by
  show mi (ui σ (R 643 m) k c.1) a i = _
  rw [mi_ui]
theorem mj_wC {a i : Nat} : mj (wC R m σ k c) a i = if a = R 646 m ∧ i = k then c.2.2.2 else if a = R 645 m ∧ i = k then c.2.2.1 else if a = R 644 m ∧ i = k then c.2.1 else mj σ a i := by
  unfold wC
  rw [mj_uj, mj_uj, mj_uj]
  rfl
theorem cC_wC (hD : D4 R m) : cC R m (wC R m σ k c) k = c := by
  obtain ⟨h1, h2, h3⟩ := hD
  unfold cC
  rw [mi_wC, mj_wC, mj_wC, mj_wC]
  simp [h1, h2, h3]
theorem cC_wCn (h : j ≠ k) : cC R m (wC R m σ k c) j = cC R m σ j := by
  unfold cC
  rw [mi_wC, mj_wC, mj_wC, mj_wC]
  simp [h]
theorem wC_wC : wC R m (wC R m σ k c) k d = wC R m σ k d := by
  refine sg_ext2 rfl (fun a i => ?_) rfl (fun a i => ?_)
  · rw [mj_wC, mj_wC, mj_wC]
    repeat' split
    all_goals rfl
  · rw [mi_wC, mi_wC, mi_wC]
    repeat' split
    all_goals rfl
theorem wC_self : wC R m σ k (cC R m σ k) = σ := by
  refine sg_ext2 rfl (fun a i => ?_) rfl (fun a i => ?_)
  · rw [mj_wC]
    unfold cC
    split
    · rename_i h; rw [h.1, h.2]
    · split
      · rename_i h; rw [h.1, h.2]
      · split
        · rename_i h; rw [h.1, h.2]
        · rfl
  · rw [mi_wC]
    unfold cC
    split
    · rename_i h; rw [h.1, h.2]
    · rfl
theorem wC_s {s : Int32} : ui σ (R 643 m) k s = wC R m σ k (s, (cC R m σ k).2) := by
  refine sg_ext2 rfl (fun a i => ?_) rfl (fun a i => ?_)
  · rw [mj_wC]
    unfold cC
    split
    · rename_i h; rw [h.1, h.2]; rfl
    · split
      · rename_i h; rw [h.1, h.2]; rfl
      · split
        · rename_i h; rw [h.1, h.2]; rfl
        · rfl
  · rw [mi_wC, mi_ui]
theorem ite_c {p : Prop} {i1 i2 : Decidable p} {a b : SG} {x y : Ce} (h1 : p → a = wC R m σ k x) (h2 : ¬ p → b = wC R m σ k y) : @ite SG p i1 a b = wC R m σ k (@ite Ce p i2 x y) := by
  by_cases h : p
  · rw [if_pos h, if_pos h]; exact h1 h
  · rw [if_neg h, if_neg h]; exact h2 h
theorem zj_copy {x1 x2 : Int32} (hD : D4 R m) : Z_X10_copy R σ m x1 x2 = wC R m σ x1.toNatClampNeg (cC R m σ x2.toNatClampNeg) := by
  obtain ⟨h1, h2, h3⟩ := hD
  unfold Z_X10_copy wC cC
  simp only [mj_uj, h1.symm, h2.symm, h3.symm, false_and, ↓reduceIte]
  rfl
end CES
def J_copy (c1 c2 : Ce) : Ce := c2
def J_make (c1 : Ce) (x2 : Int32) (y3 : Int64) (y5 : Int64) (y7 : Int64) : Ce :=
  if x2 = 1 then
    if y3 < ((-2305843009213693952) : Int64) then
      if y3 = y5 then
        (2, y3, y5, 0)
      else
        (2, y3, y5, y7)
    else
      if (2305843009213693952 : Int64) < y5 then
        if y3 = y5 then
          (2, y3, y5, 0)
        else
          (2, y3, y5, y7)
      else
        if y5 < ((-2305843009213693952) : Int64) then
          if y3 = y5 then
            (2, y3, y5, 0)
          else
            (2, y3, y5, y7)
        else
          if (2305843009213693952 : Int64) < y3 then
            if y3 = y5 then
              (2, y3, y5, 0)
            else
              (2, y3, y5, y7)
          else
            if y3 = y5 then
              (x2, y3, y5, 0)
            else
              (x2, y3, y5, y7)
  else
    if y3 = y5 then
      (x2, y3, y5, 0)
    else
      (x2, y3, y5, y7)
theorem zj_make {R : Nat → Nat → Nat} {σ : SG} {m : Nat} {x1 : Int32} {x2 : Int32} {y3 : Int64} {y5 : Int64} {y7 : Int64} (hD : D4 R m) : Z_X10_make R σ m x1 x2 y3 y5 y7 = wC R m σ x1.toNatClampNeg (J_make (cC R m σ x1.toNatClampNeg) x2 y3 y5 y7) := by
  unfold Z_X10_make J_make
  exact (ite_c (fun _ => (ite_c (fun _ => (ite_c (fun _ => rfl) (fun _ => rfl))) (fun _ => (ite_c (fun _ => (ite_c (fun _ => rfl) (fun _ => rfl))) (fun _ => (ite_c (fun _ => (ite_c (fun _ => rfl) (fun _ => rfl))) (fun _ => (ite_c (fun _ => (ite_c (fun _ => rfl) (fun _ => rfl))) (fun _ => (ite_c (fun _ => rfl) (fun _ => rfl))))))))))) (fun _ => (ite_c (fun _ => rfl) (fun _ => rfl))))
def J_isSame (c1 : Ce) (c2 : Ce) : Int32 :=
  if c1.1 = c2.1 then
    if c1.1 = 1 then
      if c1.2.1 = c2.2.1 then
        if c1.2.2.1 = c2.2.2.1 then
          if c1.2.2.2 = c2.2.2.2 then
            1
          else
            0
        else
          0
      else
        0
    else
      1
  else
    0
theorem zj_isSame {R : Nat → Nat → Nat} {σ : SG} {m : Nat} {x1 : Int32} {x2 : Int32} (hD : D4 R m) : Z_X10_isSame R σ m x1 x2 = J_isSame (cC R m σ x1.toNatClampNeg) (cC R m σ x2.toNatClampNeg) := rfl
def J_isOne (c1 : Ce) : Int32 :=
  if c1.1 = 1 then
    if c1.2.1 = c1.2.2.1 then
      1
    else
      0
  else
    0
theorem zj_isOne {R : Nat → Nat → Nat} {σ : SG} {m : Nat} {x1 : Int32} (hD : D4 R m) : Z_X10_isOne R σ m x1 = J_isOne (cC R m σ x1.toNatClampNeg) := rfl
def J_isNumber (c1 : Ce) (y2 : Int64) : Int32 :=
  if (J_isOne c1) = 0 then
    0
  else
    if c1.2.1 = y2 then
      1
    else
      0
theorem zj_isNumber {R : Nat → Nat → Nat} {σ : SG} {m : Nat} {x1 : Int32} {y2 : Int64} (hD : D4 R m) : Z_X10_isNumber R σ m x1 y2 = J_isNumber (cC R m σ x1.toNatClampNeg) y2 := rfl
def J_one (c1 : Ce) (y2 : Int64) : Ce :=
  J_make c1 (1) (y2) (y2) (0)
theorem zj_one {R : Nat → Nat → Nat} {σ : SG} {m : Nat} {x1 : Int32} {y2 : Int64} (hD : D4 R m) : Z_X10_one R σ m x1 y2 = wC R m σ x1.toNatClampNeg (J_one (cC R m σ x1.toNatClampNeg) y2) := by
  unfold Z_X10_one J_one
  exact (zj_make hD)
def J_contains (c1 : Ce) (y2 : Int64) : Int32 :=
  if c1.1 = 2 then
    1
  else
    if c1.1 = 1 then
      if (Z_X10_isIn (y2) (c1.2.1) (c1.2.2.1)) = 0 then
        0
      else
        if c1.2.2.2 = (0 : Int64) then
          1
        else
          if ((y2 - c1.2.1) - (y2 - c1.2.1) / c1.2.2.2 * c1.2.2.2) = (0 : Int64) then
            1
          else
            0
    else
      0
theorem zj_contains {R : Nat → Nat → Nat} {σ : SG} {m : Nat} {x1 : Int32} {y2 : Int64} (hD : D4 R m) : Z_X10_contains R σ m x1 y2 = J_contains (cC R m σ x1.toNatClampNeg) y2 := rfl
def J_join (c1 : Ce) (c2 : Ce) (c3 : Ce) : Ce :=
  if c2.1 = 0 then
    J_copy c1 c3
  else
    if c3.1 = 0 then
      J_copy c1 c2
    else
      if c2.1 = 2 then
        (2, c1.2)
      else
        if c3.1 = 2 then
          (2, c1.2)
        else
          if c2.2.1 < c3.2.1 then
            if c3.2.2.1 < c2.2.2.1 then
              J_make c1 (1) (c2.2.1) (c2.2.2.1) ((gJ ((gJ (c2.2.2.2) (c3.2.2.2))) ((c2.2.1 - c3.2.1))))
            else
              J_make c1 (1) (c2.2.1) (c3.2.2.1) ((gJ ((gJ (c2.2.2.2) (c3.2.2.2))) ((c2.2.1 - c3.2.1))))
          else
            if c3.2.2.1 < c2.2.2.1 then
              J_make c1 (1) (c3.2.1) (c2.2.2.1) ((gJ ((gJ (c2.2.2.2) (c3.2.2.2))) ((c2.2.1 - c3.2.1))))
            else
              J_make c1 (1) (c3.2.1) (c3.2.2.1) ((gJ ((gJ (c2.2.2.2) (c3.2.2.2))) ((c2.2.1 - c3.2.1))))
theorem zj_join {R : Nat → Nat → Nat} {σ : SG} {m : Nat} {x1 : Int32} {x2 : Int32} {x3 : Int32} (hD : D4 R m) : Z_X10_join R σ m x1 x2 x3 = wC R m σ x1.toNatClampNeg (J_join (cC R m σ x1.toNatClampNeg) (cC R m σ x2.toNatClampNeg) (cC R m σ x3.toNatClampNeg)) := by
  unfold Z_X10_join J_join
  exact (ite_c (fun _ => (zj_copy hD)) (fun _ => (ite_c (fun _ => (zj_copy hD)) (fun _ => (ite_c (fun _ => wC_s) (fun _ => (ite_c (fun _ => wC_s) (fun _ => (ite_c (fun _ => (ite_c (fun _ => (zj_make hD)) (fun _ => (zj_make hD)))) (fun _ => (ite_c (fun _ => (zj_make hD)) (fun _ => (zj_make hD)))))))))))))
def J_cut_p168 (c1 : Ce) (y9 : Int64) (y11 : Int64) (y13 : Int64) : Ce :=
  if y11 < y9 then
    (0, c1.2)
  else
    J_make c1 (1) (y9) (y11) (y13)
theorem zj_cut_p168 {R : Nat → Nat → Nat} {σ : SG} {m : Nat} {x1 : Int32} {y9 : Int64} {y11 : Int64} {y13 : Int64} (hD : D4 R m) : Z_X10_cut_p168 R σ m x1 y9 y11 y13 = wC R m σ x1.toNatClampNeg (J_cut_p168 (cC R m σ x1.toNatClampNeg) y9 y11 y13) := by
  unfold Z_X10_cut_p168 J_cut_p168
  exact (ite_c (fun _ => wC_s) (fun _ => (zj_make hD)))
def J_cut_p102 (c1 : Ce) (c2 : Ce) (x6 : Int32) (y7 : Int64) (y9 : Int64) (y11 : Int64) (y13 : Int64) : Ce :=
  if x6 = 0 then
    J_cut_p168 c1 (y9) (y11) (y13)
  else
    if y7 < y11 then
      if y7 < c2.2.1 then
        (0, c1.2)
      else
        if y13 = (0 : Int64) then
          J_cut_p168 c1 (y9) (y11) (y13)
        else
          J_cut_p168 c1 (y9) ((y11 - (((((y11 - y7) + y13) - 1) / y13) * y13))) (y13)
    else
      J_cut_p168 c1 (y9) (y11) (y13)
theorem zj_cut_p102 {R : Nat → Nat → Nat} {σ : SG} {m : Nat} {x1 : Int32} {x2 : Int32} {x6 : Int32} {y7 : Int64} {y9 : Int64} {y11 : Int64} {y13 : Int64} (hD : D4 R m) : Z_X10_cut_p102 R σ m x1 x2 x6 y7 y9 y11 y13 = wC R m σ x1.toNatClampNeg (J_cut_p102 (cC R m σ x1.toNatClampNeg) (cC R m σ x2.toNatClampNeg) x6 y7 y9 y11 y13) := by
  unfold Z_X10_cut_p102 J_cut_p102
  exact (ite_c (fun _ => (zj_cut_p168 hD)) (fun _ => (ite_c (fun _ => (ite_c (fun _ => wC_s) (fun _ => (ite_c (fun _ => (zj_cut_p168 hD)) (fun _ => (zj_cut_p168 hD)))))) (fun _ => (zj_cut_p168 hD)))))
def J_cut_p17 (c1 : Ce) (c2 : Ce) (x3 : Int32) (y4 : Int64) (x6 : Int32) (y7 : Int64) : Ce :=
  if x3 = 0 then
    J_cut_p102 c1 c2 (x6) (y7) (c2.2.1) (c2.2.2.1) (c2.2.2.2)
  else
    if c2.2.1 < y4 then
      if c2.2.2.1 < y4 then
        (0, c1.2)
      else
        if c2.2.2.2 = (0 : Int64) then
          J_cut_p102 c1 c2 (x6) (y7) (c2.2.1) (c2.2.2.1) (c2.2.2.2)
        else
          J_cut_p102 c1 c2 (x6) (y7) ((c2.2.1 + (((((y4 - c2.2.1) + c2.2.2.2) - 1) / c2.2.2.2) * c2.2.2.2))) (c2.2.2.1) (c2.2.2.2)
    else
      J_cut_p102 c1 c2 (x6) (y7) (c2.2.1) (c2.2.2.1) (c2.2.2.2)
theorem zj_cut_p17 {R : Nat → Nat → Nat} {σ : SG} {m : Nat} {x1 : Int32} {x2 : Int32} {x3 : Int32} {y4 : Int64} {x6 : Int32} {y7 : Int64} (hD : D4 R m) : Z_X10_cut_p17 R σ m x1 x2 x3 y4 x6 y7 = wC R m σ x1.toNatClampNeg (J_cut_p17 (cC R m σ x1.toNatClampNeg) (cC R m σ x2.toNatClampNeg) x3 y4 x6 y7) := by
  unfold Z_X10_cut_p17 J_cut_p17
  exact (ite_c (fun _ => (zj_cut_p102 hD)) (fun _ => (ite_c (fun _ => (ite_c (fun _ => wC_s) (fun _ => (ite_c (fun _ => (zj_cut_p102 hD)) (fun _ => (zj_cut_p102 hD)))))) (fun _ => (zj_cut_p102 hD)))))
def J_cut (c1 : Ce) (c2 : Ce) (x3 : Int32) (y4 : Int64) (x6 : Int32) (y7 : Int64) : Ce :=
  if c2.1 = 1 then
    J_cut_p17 c1 c2 (x3) (y4) (x6) (y7)
  else
    J_copy c1 c2
theorem zj_cut {R : Nat → Nat → Nat} {σ : SG} {m : Nat} {x1 : Int32} {x2 : Int32} {x3 : Int32} {y4 : Int64} {x6 : Int32} {y7 : Int64} (hD : D4 R m) : Z_X10_cut R σ m x1 x2 x3 y4 x6 y7 = wC R m σ x1.toNatClampNeg (J_cut (cC R m σ x1.toNatClampNeg) (cC R m σ x2.toNatClampNeg) x3 y4 x6 y7) := by
  unfold Z_X10_cut J_cut
  exact (ite_c (fun _ => (zj_cut_p17 hD)) (fun _ => (zj_copy hD)))
def J_negate (c1 : Ce) (c2 : Ce) : Ce :=
  if c2.1 = 1 then
    J_make c1 (1) ((-c2.2.2.1)) ((-c2.2.1)) (c2.2.2.2)
  else
    (c2.1, c1.2)
theorem zj_negate {R : Nat → Nat → Nat} {σ : SG} {m : Nat} {x1 : Int32} {x2 : Int32} (hD : D4 R m) : Z_X10_negate R σ m x1 x2 = wC R m σ x1.toNatClampNeg (J_negate (cC R m σ x1.toNatClampNeg) (cC R m σ x2.toNatClampNeg)) := by
  unfold Z_X10_negate J_negate
  exact (ite_c (fun _ => (zj_make hD)) (fun _ => wC_s))
def J_times_p290 (c1 : Ce) (c2 : Ce) (c3 : Ce) (y14 : Int64) (y16 : Int64) : Ce :=
  J_make c1 (1) (y14) (y16) ((gJ ((gJ ((c2.2.2.2 * c3.2.1)) ((c3.2.2.2 * c2.2.1)))) ((c2.2.2.2 * c3.2.2.2))))
theorem zj_times_p290 {R : Nat → Nat → Nat} {σ : SG} {m : Nat} {x1 : Int32} {x2 : Int32} {x3 : Int32} {y14 : Int64} {y16 : Int64} (hD : D4 R m) : Z_X10_times_p290 R σ m x1 x2 x3 y14 y16 = wC R m σ x1.toNatClampNeg (J_times_p290 (cC R m σ x1.toNatClampNeg) (cC R m σ x2.toNatClampNeg) (cC R m σ x3.toNatClampNeg) y14 y16) := by
  unfold Z_X10_times_p290 J_times_p290
  exact (zj_make hD)
def J_times_p273 (c1 : Ce) (c2 : Ce) (c3 : Ce) (y12 : Int64) (y14 : Int64) (y16 : Int64) : Ce :=
  if y16 < y12 then
    J_times_p290 c1 c2 c3 (y14) (y12)
  else
    J_times_p290 c1 c2 c3 (y14) (y16)
theorem zj_times_p273 {R : Nat → Nat → Nat} {σ : SG} {m : Nat} {x1 : Int32} {x2 : Int32} {x3 : Int32} {y12 : Int64} {y14 : Int64} {y16 : Int64} (hD : D4 R m) : Z_X10_times_p273 R σ m x1 x2 x3 y12 y14 y16 = wC R m σ x1.toNatClampNeg (J_times_p273 (cC R m σ x1.toNatClampNeg) (cC R m σ x2.toNatClampNeg) (cC R m σ x3.toNatClampNeg) y12 y14 y16) := by
  unfold Z_X10_times_p273 J_times_p273
  exact (ite_c (fun _ => (zj_times_p290 hD)) (fun _ => (zj_times_p290 hD)))
def J_times_p256 (c1 : Ce) (c2 : Ce) (c3 : Ce) (y10 : Int64) (y12 : Int64) (y14 : Int64) (y16 : Int64) : Ce :=
  if y16 < y10 then
    J_times_p273 c1 c2 c3 (y12) (y14) (y10)
  else
    J_times_p273 c1 c2 c3 (y12) (y14) (y16)
theorem zj_times_p256 {R : Nat → Nat → Nat} {σ : SG} {m : Nat} {x1 : Int32} {x2 : Int32} {x3 : Int32} {y10 : Int64} {y12 : Int64} {y14 : Int64} {y16 : Int64} (hD : D4 R m) : Z_X10_times_p256 R σ m x1 x2 x3 y10 y12 y14 y16 = wC R m σ x1.toNatClampNeg (J_times_p256 (cC R m σ x1.toNatClampNeg) (cC R m σ x2.toNatClampNeg) (cC R m σ x3.toNatClampNeg) y10 y12 y14 y16) := by
  unfold Z_X10_times_p256 J_times_p256
  exact (ite_c (fun _ => (zj_times_p273 hD)) (fun _ => (zj_times_p273 hD)))
def J_times_p239 (c1 : Ce) (c2 : Ce) (c3 : Ce) (y6 : Int64) (y8 : Int64) (y10 : Int64) (y12 : Int64) (y14 : Int64) : Ce :=
  if y8 < y6 then
    J_times_p256 c1 c2 c3 (y10) (y12) (y14) (y6)
  else
    J_times_p256 c1 c2 c3 (y10) (y12) (y14) (y8)
theorem zj_times_p239 {R : Nat → Nat → Nat} {σ : SG} {m : Nat} {x1 : Int32} {x2 : Int32} {x3 : Int32} {y6 : Int64} {y8 : Int64} {y10 : Int64} {y12 : Int64} {y14 : Int64} (hD : D4 R m) : Z_X10_times_p239 R σ m x1 x2 x3 y6 y8 y10 y12 y14 = wC R m σ x1.toNatClampNeg (J_times_p239 (cC R m σ x1.toNatClampNeg) (cC R m σ x2.toNatClampNeg) (cC R m σ x3.toNatClampNeg) y6 y8 y10 y12 y14) := by
  unfold Z_X10_times_p239 J_times_p239
  exact (ite_c (fun _ => (zj_times_p256 hD)) (fun _ => (zj_times_p256 hD)))
def J_times_p222 (c1 : Ce) (c2 : Ce) (c3 : Ce) (y6 : Int64) (y8 : Int64) (y10 : Int64) (y12 : Int64) (y14 : Int64) : Ce :=
  if y12 < y14 then
    J_times_p239 c1 c2 c3 (y6) (y8) (y10) (y12) (y12)
  else
    J_times_p239 c1 c2 c3 (y6) (y8) (y10) (y12) (y14)
theorem zj_times_p222 {R : Nat → Nat → Nat} {σ : SG} {m : Nat} {x1 : Int32} {x2 : Int32} {x3 : Int32} {y6 : Int64} {y8 : Int64} {y10 : Int64} {y12 : Int64} {y14 : Int64} (hD : D4 R m) : Z_X10_times_p222 R σ m x1 x2 x3 y6 y8 y10 y12 y14 = wC R m σ x1.toNatClampNeg (J_times_p222 (cC R m σ x1.toNatClampNeg) (cC R m σ x2.toNatClampNeg) (cC R m σ x3.toNatClampNeg) y6 y8 y10 y12 y14) := by
  unfold Z_X10_times_p222 J_times_p222
  exact (ite_c (fun _ => (zj_times_p239 hD)) (fun _ => (zj_times_p239 hD)))
def J_times_p205 (c1 : Ce) (c2 : Ce) (c3 : Ce) (y6 : Int64) (y8 : Int64) (y10 : Int64) (y12 : Int64) (y14 : Int64) : Ce :=
  if y10 < y14 then
    J_times_p222 c1 c2 c3 (y6) (y8) (y10) (y12) (y10)
  else
    J_times_p222 c1 c2 c3 (y6) (y8) (y10) (y12) (y14)
theorem zj_times_p205 {R : Nat → Nat → Nat} {σ : SG} {m : Nat} {x1 : Int32} {x2 : Int32} {x3 : Int32} {y6 : Int64} {y8 : Int64} {y10 : Int64} {y12 : Int64} {y14 : Int64} (hD : D4 R m) : Z_X10_times_p205 R σ m x1 x2 x3 y6 y8 y10 y12 y14 = wC R m σ x1.toNatClampNeg (J_times_p205 (cC R m σ x1.toNatClampNeg) (cC R m σ x2.toNatClampNeg) (cC R m σ x3.toNatClampNeg) y6 y8 y10 y12 y14) := by
  unfold Z_X10_times_p205 J_times_p205
  exact (ite_c (fun _ => (zj_times_p222 hD)) (fun _ => (zj_times_p222 hD)))
def J_times_p128 (c1 : Ce) (c2 : Ce) (c3 : Ce) : Ce :=
  if (c2.2.1 * c3.2.1) < (c2.2.1 * c3.2.2.1) then
    J_times_p205 c1 c2 c3 ((c2.2.1 * c3.2.1)) ((c2.2.1 * c3.2.2.1)) ((c2.2.2.1 * c3.2.1)) ((c2.2.2.1 * c3.2.2.1)) ((c2.2.1 * c3.2.1))
  else
    J_times_p205 c1 c2 c3 ((c2.2.1 * c3.2.1)) ((c2.2.1 * c3.2.2.1)) ((c2.2.2.1 * c3.2.1)) ((c2.2.2.1 * c3.2.2.1)) ((c2.2.1 * c3.2.2.1))
theorem zj_times_p128 {R : Nat → Nat → Nat} {σ : SG} {m : Nat} {x1 : Int32} {x2 : Int32} {x3 : Int32} (hD : D4 R m) : Z_X10_times_p128 R σ m x1 x2 x3 = wC R m σ x1.toNatClampNeg (J_times_p128 (cC R m σ x1.toNatClampNeg) (cC R m σ x2.toNatClampNeg) (cC R m σ x3.toNatClampNeg)) := by
  unfold Z_X10_times_p128 J_times_p128
  exact (ite_c (fun _ => (zj_times_p205 hD)) (fun _ => (zj_times_p205 hD)))
def J_and_p178 (c1 : Ce) (c2 : Ce) (c3 : Ce) (y6 : Int64) : Ce :=
  if (J_isNumber c2 (y6)) = 0 then
    if (J_isNumber c3 (y6)) = 0 then
      J_make c1 (1) (0) (y6) (1)
    else
      J_make c1 (1) (0) (y6) ((y6 &&& (-y6)))
  else
    J_make c1 (1) (0) (y6) ((y6 &&& (-y6)))
theorem zj_and_p178 {R : Nat → Nat → Nat} {σ : SG} {m : Nat} {x1 : Int32} {x2 : Int32} {x3 : Int32} {y6 : Int64} (hD : D4 R m) : Z_X10_and_p178 R σ m x1 x2 x3 y6 = wC R m σ x1.toNatClampNeg (J_and_p178 (cC R m σ x1.toNatClampNeg) (cC R m σ x2.toNatClampNeg) (cC R m σ x3.toNatClampNeg) y6) := by
  unfold Z_X10_and_p178 J_and_p178
  exact (ite_c (fun _ => (ite_c (fun _ => (zj_make hD)) (fun _ => (zj_make hD)))) (fun _ => (zj_make hD)))
def J_and_p135 (c1 : Ce) (c2 : Ce) (c3 : Ce) (x4 : Int32) (x5 : Int32) : Ce :=
  if x4 = 0 then
    J_and_p178 c1 c2 c3 (c3.2.2.1)
  else
    if x5 = 0 then
      J_and_p178 c1 c2 c3 (c2.2.2.1)
    else
      if c2.2.2.1 < c3.2.2.1 then
        J_and_p178 c1 c2 c3 (c2.2.2.1)
      else
        J_and_p178 c1 c2 c3 (c3.2.2.1)
theorem zj_and_p135 {R : Nat → Nat → Nat} {σ : SG} {m : Nat} {x1 : Int32} {x2 : Int32} {x3 : Int32} {x4 : Int32} {x5 : Int32} (hD : D4 R m) : Z_X10_and_p135 R σ m x1 x2 x3 x4 x5 = wC R m σ x1.toNatClampNeg (J_and_p135 (cC R m σ x1.toNatClampNeg) (cC R m σ x2.toNatClampNeg) (cC R m σ x3.toNatClampNeg) x4 x5) := by
  unfold Z_X10_and_p135 J_and_p135
  exact (ite_c (fun _ => (zj_and_p178 hD)) (fun _ => (ite_c (fun _ => (zj_and_p178 hD)) (fun _ => (ite_c (fun _ => (zj_and_p178 hD)) (fun _ => (zj_and_p178 hD)))))))
def J_and_p117 (c1 : Ce) (c2 : Ce) (c3 : Ce) (x4 : Int32) (x5 : Int32) : Ce :=
  if x4 = 0 then
    if x5 = 0 then
      (2, c1.2)
    else
      J_and_p135 c1 c2 c3 (x4) (x5)
  else
    J_and_p135 c1 c2 c3 (x4) (x5)
theorem zj_and_p117 {R : Nat → Nat → Nat} {σ : SG} {m : Nat} {x1 : Int32} {x2 : Int32} {x3 : Int32} {x4 : Int32} {x5 : Int32} (hD : D4 R m) : Z_X10_and_p117 R σ m x1 x2 x3 x4 x5 = wC R m σ x1.toNatClampNeg (J_and_p117 (cC R m σ x1.toNatClampNeg) (cC R m σ x2.toNatClampNeg) (cC R m σ x3.toNatClampNeg) x4 x5) := by
  unfold Z_X10_and_p117 J_and_p117
  exact (ite_c (fun _ => (ite_c (fun _ => wC_s) (fun _ => (zj_and_p135 hD)))) (fun _ => (zj_and_p135 hD)))
def J_and_p89 (c1 : Ce) (c2 : Ce) (c3 : Ce) (x4 : Int32) : Ce :=
  if c3.1 = 1 then
    if c3.2.1 < (0 : Int64) then
      J_and_p117 c1 c2 c3 (x4) (0)
    else
      J_and_p117 c1 c2 c3 (x4) (1)
  else
    J_and_p117 c1 c2 c3 (x4) (0)
theorem zj_and_p89 {R : Nat → Nat → Nat} {σ : SG} {m : Nat} {x1 : Int32} {x2 : Int32} {x3 : Int32} {x4 : Int32} (hD : D4 R m) : Z_X10_and_p89 R σ m x1 x2 x3 x4 = wC R m σ x1.toNatClampNeg (J_and_p89 (cC R m σ x1.toNatClampNeg) (cC R m σ x2.toNatClampNeg) (cC R m σ x3.toNatClampNeg) x4) := by
  unfold Z_X10_and_p89 J_and_p89
  exact (ite_c (fun _ => (ite_c (fun _ => (zj_and_p117 hD)) (fun _ => (zj_and_p117 hD)))) (fun _ => (zj_and_p117 hD)))
def J_and_p61 (c1 : Ce) (c2 : Ce) (c3 : Ce) : Ce :=
  if c2.1 = 1 then
    if c2.2.1 < (0 : Int64) then
      J_and_p89 c1 c2 c3 (0)
    else
      J_and_p89 c1 c2 c3 (1)
  else
    J_and_p89 c1 c2 c3 (0)
theorem zj_and_p61 {R : Nat → Nat → Nat} {σ : SG} {m : Nat} {x1 : Int32} {x2 : Int32} {x3 : Int32} (hD : D4 R m) : Z_X10_and_p61 R σ m x1 x2 x3 = wC R m σ x1.toNatClampNeg (J_and_p61 (cC R m σ x1.toNatClampNeg) (cC R m σ x2.toNatClampNeg) (cC R m σ x3.toNatClampNeg)) := by
  unfold Z_X10_and_p61 J_and_p61
  exact (ite_c (fun _ => (ite_c (fun _ => (zj_and_p89 hD)) (fun _ => (zj_and_p89 hD)))) (fun _ => (zj_and_p89 hD)))
def J_and (c1 : Ce) (c2 : Ce) (c3 : Ce) : Ce :=
  if c2.1 = 0 then
    (0, c1.2)
  else
    if c3.1 = 0 then
      (0, c1.2)
    else
      if (J_isOne c2) = 0 then
        J_and_p61 c1 c2 c3
      else
        if (J_isOne c3) = 0 then
          J_and_p61 c1 c2 c3
        else
          J_one c1 ((c2.2.1 &&& c3.2.1))
theorem zj_and {R : Nat → Nat → Nat} {σ : SG} {m : Nat} {x1 : Int32} {x2 : Int32} {x3 : Int32} (hD : D4 R m) : Z_X10_and R σ m x1 x2 x3 = wC R m σ x1.toNatClampNeg (J_and (cC R m σ x1.toNatClampNeg) (cC R m σ x2.toNatClampNeg) (cC R m σ x3.toNatClampNeg)) := by
  unfold Z_X10_and J_and
  exact (ite_c (fun _ => wC_s) (fun _ => (ite_c (fun _ => wC_s) (fun _ => (ite_c (fun _ => (zj_and_p61 hD)) (fun _ => (ite_c (fun _ => (zj_and_p61 hD)) (fun _ => (zj_one hD)))))))))
def J_shiftDown (c1 : Ce) (c2 : Ce) (x3 : Int32) : Ce :=
  if x3 = 0 then
    J_copy c1 c2
  else
    if c2.1 = 0 then
      J_copy c1 c2
    else
      if c2.1 = 2 then
        J_make c1 (1) (((-((1 <<< (((63 - x3) : Int32).toInt64 &&& 63)) - 1)) - 1)) (((1 <<< (((63 - x3) : Int32).toInt64 &&& 63)) - 1)) (1)
      else
        if (c2.2.2.2 &&& ((1 <<< ((x3 : Int32).toInt64 &&& 63)) - 1)) = (0 : Int64) then
          if (c2.2.1 &&& ((1 <<< ((x3 : Int32).toInt64 &&& 63)) - 1)) = (0 : Int64) then
            J_make c1 (1) ((c2.2.1 >>> ((x3 : Int32).toInt64 &&& 63))) ((c2.2.2.1 >>> ((x3 : Int32).toInt64 &&& 63))) ((c2.2.2.2 >>> ((x3 : Int32).toInt64 &&& 63)))
          else
            J_make c1 (1) ((c2.2.1 >>> ((x3 : Int32).toInt64 &&& 63))) ((c2.2.2.1 >>> ((x3 : Int32).toInt64 &&& 63))) (1)
        else
          J_make c1 (1) ((c2.2.1 >>> ((x3 : Int32).toInt64 &&& 63))) ((c2.2.2.1 >>> ((x3 : Int32).toInt64 &&& 63))) (1)
theorem zj_shiftDown {R : Nat → Nat → Nat} {σ : SG} {m : Nat} {x1 : Int32} {x2 : Int32} {x3 : Int32} (hD : D4 R m) : Z_X10_shiftDown R σ m x1 x2 x3 = wC R m σ x1.toNatClampNeg (J_shiftDown (cC R m σ x1.toNatClampNeg) (cC R m σ x2.toNatClampNeg) x3) := by
  unfold Z_X10_shiftDown J_shiftDown
  exact (ite_c (fun _ => (zj_copy hD)) (fun _ => (ite_c (fun _ => (zj_copy hD)) (fun _ => (ite_c (fun _ => (zj_make hD)) (fun _ => (ite_c (fun _ => (ite_c (fun _ => (zj_make hD)) (fun _ => (zj_make hD)))) (fun _ => (zj_make hD)))))))))
def J_shiftZero (c1 : Ce) (c2 : Ce) (x3 : Int32) : Ce :=
  if x3 = 0 then
    J_shiftDown c1 c2 (x3)
  else
    if c2.1 = 0 then
      J_shiftDown c1 c2 (x3)
    else
      if c2.1 = 1 then
        if c2.2.1 < (0 : Int64) then
          J_make c1 (1) (0) (((((-1) : Int64).toUInt64 >>> ((x3 : Int32).toInt64.toUInt64 &&& Int64.toUInt64 63)).toInt64)) (1)
        else
          J_shiftDown c1 c2 (x3)
      else
        J_make c1 (1) (0) (((((-1) : Int64).toUInt64 >>> ((x3 : Int32).toInt64.toUInt64 &&& Int64.toUInt64 63)).toInt64)) (1)
theorem zj_shiftZero {R : Nat → Nat → Nat} {σ : SG} {m : Nat} {x1 : Int32} {x2 : Int32} {x3 : Int32} (hD : D4 R m) : Z_X10_shiftZero R σ m x1 x2 x3 = wC R m σ x1.toNatClampNeg (J_shiftZero (cC R m σ x1.toNatClampNeg) (cC R m σ x2.toNatClampNeg) x3) := by
  unfold Z_X10_shiftZero J_shiftZero
  exact (ite_c (fun _ => (zj_shiftDown hD)) (fun _ => (ite_c (fun _ => (zj_shiftDown hD)) (fun _ => (ite_c (fun _ => (ite_c (fun _ => (zj_make hD)) (fun _ => (zj_shiftDown hD)))) (fun _ => (zj_make hD)))))))
def J_lowPart (c1 : Ce) (c2 : Ce) : Ce :=
  if c2.1 = 0 then
    (0, c1.2)
  else
    if (J_isOne c2) = 0 then
      if c2.1 = 1 then
        if c2.2.1 < (0 : Int64) then
          if c2.1 = 2 then
            if (0 : Int64) < (0 : Int64) then
              J_make c1 (1) ((0 + 1)) (((0 + 1) + (((4294967295 - (0 + 1)) / 1) * 1))) (1)
            else
              J_make c1 (1) (0) ((0 + (((4294967295 - 0) / 1) * 1))) (1)
          else
            if (c2.2.1 - c2.2.1 / (gJ (c2.2.2.2) (4294967296)) * (gJ (c2.2.2.2) (4294967296))) < (0 : Int64) then
              J_make c1 (1) (((c2.2.1 - c2.2.1 / (gJ (c2.2.2.2) (4294967296)) * (gJ (c2.2.2.2) (4294967296))) + (gJ (c2.2.2.2) (4294967296)))) ((((c2.2.1 - c2.2.1 / (gJ (c2.2.2.2) (4294967296)) * (gJ (c2.2.2.2) (4294967296))) + (gJ (c2.2.2.2) (4294967296))) + (((4294967295 - ((c2.2.1 - c2.2.1 / (gJ (c2.2.2.2) (4294967296)) * (gJ (c2.2.2.2) (4294967296))) + (gJ (c2.2.2.2) (4294967296)))) / (gJ (c2.2.2.2) (4294967296))) * (gJ (c2.2.2.2) (4294967296))))) ((gJ (c2.2.2.2) (4294967296)))
            else
              J_make c1 (1) ((c2.2.1 - c2.2.1 / (gJ (c2.2.2.2) (4294967296)) * (gJ (c2.2.2.2) (4294967296)))) (((c2.2.1 - c2.2.1 / (gJ (c2.2.2.2) (4294967296)) * (gJ (c2.2.2.2) (4294967296))) + (((4294967295 - (c2.2.1 - c2.2.1 / (gJ (c2.2.2.2) (4294967296)) * (gJ (c2.2.2.2) (4294967296)))) / (gJ (c2.2.2.2) (4294967296))) * (gJ (c2.2.2.2) (4294967296))))) ((gJ (c2.2.2.2) (4294967296)))
        else
          if c2.2.2.1 < (4294967296 : Int64) then
            J_copy c1 c2
          else
            if c2.1 = 2 then
              if (0 : Int64) < (0 : Int64) then
                J_make c1 (1) ((0 + 1)) (((0 + 1) + (((4294967295 - (0 + 1)) / 1) * 1))) (1)
              else
                J_make c1 (1) (0) ((0 + (((4294967295 - 0) / 1) * 1))) (1)
            else
              if (c2.2.1 - c2.2.1 / (gJ (c2.2.2.2) (4294967296)) * (gJ (c2.2.2.2) (4294967296))) < (0 : Int64) then
                J_make c1 (1) (((c2.2.1 - c2.2.1 / (gJ (c2.2.2.2) (4294967296)) * (gJ (c2.2.2.2) (4294967296))) + (gJ (c2.2.2.2) (4294967296)))) ((((c2.2.1 - c2.2.1 / (gJ (c2.2.2.2) (4294967296)) * (gJ (c2.2.2.2) (4294967296))) + (gJ (c2.2.2.2) (4294967296))) + (((4294967295 - ((c2.2.1 - c2.2.1 / (gJ (c2.2.2.2) (4294967296)) * (gJ (c2.2.2.2) (4294967296))) + (gJ (c2.2.2.2) (4294967296)))) / (gJ (c2.2.2.2) (4294967296))) * (gJ (c2.2.2.2) (4294967296))))) ((gJ (c2.2.2.2) (4294967296)))
              else
                J_make c1 (1) ((c2.2.1 - c2.2.1 / (gJ (c2.2.2.2) (4294967296)) * (gJ (c2.2.2.2) (4294967296)))) (((c2.2.1 - c2.2.1 / (gJ (c2.2.2.2) (4294967296)) * (gJ (c2.2.2.2) (4294967296))) + (((4294967295 - (c2.2.1 - c2.2.1 / (gJ (c2.2.2.2) (4294967296)) * (gJ (c2.2.2.2) (4294967296)))) / (gJ (c2.2.2.2) (4294967296))) * (gJ (c2.2.2.2) (4294967296))))) ((gJ (c2.2.2.2) (4294967296)))
      else
        if c2.1 = 2 then
          if (0 : Int64) < (0 : Int64) then
            J_make c1 (1) ((0 + 1)) (((0 + 1) + (((4294967295 - (0 + 1)) / 1) * 1))) (1)
          else
            J_make c1 (1) (0) ((0 + (((4294967295 - 0) / 1) * 1))) (1)
        else
          if (c2.2.1 - c2.2.1 / (gJ (c2.2.2.2) (4294967296)) * (gJ (c2.2.2.2) (4294967296))) < (0 : Int64) then
            J_make c1 (1) (((c2.2.1 - c2.2.1 / (gJ (c2.2.2.2) (4294967296)) * (gJ (c2.2.2.2) (4294967296))) + (gJ (c2.2.2.2) (4294967296)))) ((((c2.2.1 - c2.2.1 / (gJ (c2.2.2.2) (4294967296)) * (gJ (c2.2.2.2) (4294967296))) + (gJ (c2.2.2.2) (4294967296))) + (((4294967295 - ((c2.2.1 - c2.2.1 / (gJ (c2.2.2.2) (4294967296)) * (gJ (c2.2.2.2) (4294967296))) + (gJ (c2.2.2.2) (4294967296)))) / (gJ (c2.2.2.2) (4294967296))) * (gJ (c2.2.2.2) (4294967296))))) ((gJ (c2.2.2.2) (4294967296)))
          else
            J_make c1 (1) ((c2.2.1 - c2.2.1 / (gJ (c2.2.2.2) (4294967296)) * (gJ (c2.2.2.2) (4294967296)))) (((c2.2.1 - c2.2.1 / (gJ (c2.2.2.2) (4294967296)) * (gJ (c2.2.2.2) (4294967296))) + (((4294967295 - (c2.2.1 - c2.2.1 / (gJ (c2.2.2.2) (4294967296)) * (gJ (c2.2.2.2) (4294967296)))) / (gJ (c2.2.2.2) (4294967296))) * (gJ (c2.2.2.2) (4294967296))))) ((gJ (c2.2.2.2) (4294967296)))
    else
      J_one c1 ((c2.2.1 &&& 4294967295))
theorem zj_lowPart {R : Nat → Nat → Nat} {σ : SG} {m : Nat} {x1 : Int32} {x2 : Int32} (hD : D4 R m) : Z_X10_lowPart R σ m x1 x2 = wC R m σ x1.toNatClampNeg (J_lowPart (cC R m σ x1.toNatClampNeg) (cC R m σ x2.toNatClampNeg)) := by
  unfold Z_X10_lowPart J_lowPart
  exact (ite_c (fun _ => wC_s) (fun _ => (ite_c (fun _ => (ite_c (fun _ => (ite_c (fun _ => (ite_c (fun _ => (ite_c (fun _ => (zj_make hD)) (fun _ => (zj_make hD)))) (fun _ => (ite_c (fun _ => (zj_make hD)) (fun _ => (zj_make hD)))))) (fun _ => (ite_c (fun _ => (zj_copy hD)) (fun _ => (ite_c (fun _ => (ite_c (fun _ => (zj_make hD)) (fun _ => (zj_make hD)))) (fun _ => (ite_c (fun _ => (zj_make hD)) (fun _ => (zj_make hD)))))))))) (fun _ => (ite_c (fun _ => (ite_c (fun _ => (zj_make hD)) (fun _ => (zj_make hD)))) (fun _ => (ite_c (fun _ => (zj_make hD)) (fun _ => (zj_make hD)))))))) (fun _ => (zj_one hD)))))
def J_or_p222 (c1 : Ce) (x4 : Int32) (y7 : Int64) (y9 : Int64) : Ce :=
  if x4 = 0 then
    J_make c1 (1) (y9) (y7) (1)
  else
    J_make c1 (1) (0) (y7) (1)
theorem zj_or_p222 {R : Nat → Nat → Nat} {σ : SG} {m : Nat} {x1 : Int32} {x4 : Int32} {y7 : Int64} {y9 : Int64} (hD : D4 R m) : Z_X10_or_p222 R σ m x1 x4 y7 y9 = wC R m σ x1.toNatClampNeg (J_or_p222 (cC R m σ x1.toNatClampNeg) x4 y7 y9) := by
  unfold Z_X10_or_p222 J_or_p222
  exact (ite_c (fun _ => (zj_make hD)) (fun _ => (zj_make hD)))
def J_or_p189 (c1 : Ce) (c2 : Ce) (c3 : Ce) (x4 : Int32) (y7 : Int64) : Ce :=
  if c3.2.1 < c2.2.1 then
    J_or_p222 c1 (x4) (y7) (c2.2.1)
  else
    J_or_p222 c1 (x4) (y7) (c3.2.1)
theorem zj_or_p189 {R : Nat → Nat → Nat} {σ : SG} {m : Nat} {x1 : Int32} {x2 : Int32} {x3 : Int32} {x4 : Int32} {y7 : Int64} (hD : D4 R m) : Z_X10_or_p189 R σ m x1 x2 x3 x4 y7 = wC R m σ x1.toNatClampNeg (J_or_p189 (cC R m σ x1.toNatClampNeg) (cC R m σ x2.toNatClampNeg) (cC R m σ x3.toNatClampNeg) x4 y7) := by
  unfold Z_X10_or_p189 J_or_p189
  exact (ite_c (fun _ => (zj_or_p222 hD)) (fun _ => (zj_or_p222 hD)))
def J_only (c1 : Ce) (c2 : Ce) (y3 : Int64) : Ce :=
  if (J_contains c2 (y3)) = 0 then
    (0, c1.2)
  else
    J_one c1 (y3)
theorem zj_only {R : Nat → Nat → Nat} {σ : SG} {m : Nat} {x1 : Int32} {x2 : Int32} {y3 : Int64} (hD : D4 R m) : Z_X10_only R σ m x1 x2 y3 = wC R m σ x1.toNatClampNeg (J_only (cC R m σ x1.toNatClampNeg) (cC R m σ x2.toNatClampNeg) y3) := by
  unfold Z_X10_only J_only
  exact (ite_c (fun _ => wC_s) (fun _ => (zj_one hD)))
