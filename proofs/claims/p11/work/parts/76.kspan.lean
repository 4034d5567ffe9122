/-! triples -/
abbrev Tr : Type := Int64 × Int64 × Int64
def rS (σ : SG) (o : Nat) : Tr := (mJ σ 448 o, mJ σ 449 o, mJ σ 450 o)
def w3 (σ : SG) (o : Nat) (t : Tr) : SG := uJ (uJ (uJ σ 448 o t.1) 449 o t.2.1) 450 o t.2.2
theorem mJ_uJ {σ : SG} {k a k2 a2 : Nat} {v : Int64} : mJ (uJ σ k a v) k2 a2 = if k2 = k ∧ a2 = a then v else mJ σ k2 a2 := by
  show up_2 (mJ σ) k a v k2 a2 = _
  unfold up_2 va_up
  by_cases h1 : k2 = k
  · subst h1
    by_cases h2 : a2 = a
    · subst h2; simp
    · simp [h2]
  · simp [h1]
theorem mI_uI {σ : SG} {k a k2 a2 : Nat} {v : Int32} : mI (uI σ k a v) k2 a2 = if k2 = k ∧ a2 = a then v else mI σ k2 a2 := by
  show up_2 (mI σ) k a v k2 a2 = _
  unfold up_2 va_up
  by_cases h1 : k2 = k
  · subst h1
    by_cases h2 : a2 = a
    · subst h2; simp
    · simp [h2]
  · simp [h1]
section TRS
variable {σ : SG} {o q k : Nat} {t u : Tr}
theorem sg_ext {σ τ : SG} (h1 : ∀ k a, mJ σ k a = mJ τ k a) (h2 : mj σ = mj τ) (h3 : mI σ = mI τ) (h4 : mi σ = mi τ) : σ = τ := by
  have h0 : mJ σ = mJ τ := funext fun k => funext fun a => h1 k a
  obtain ⟨a, b, c, d⟩ := σ
  obtain ⟨a', b', c', d'⟩ := τ
  simp only [mJ, mj, mI, mi] at h0 h2 h3 h4
  subst h0 h2 h3 h4
  rfl
theorem mJ_w3 : mJ (w3 σ o t) k q = if q = o then (if k = 448 then t.1 else if k = 449 then t.2.1 else if k = 450 then t.2.2 else mJ σ k q) else mJ σ k q := by
  unfold w3
  rw [mJ_uJ, mJ_uJ, mJ_uJ]
  by_cases h1 : q = o
  · subst h1
    by_cases a : k = 450
    · subst a; simp
    · by_cases b : k = 449
      · subst b; simp
      · by_cases c : k = 448
        · subst c; simp
        · simp [a, b, c]
  · simp [h1]
theorem mj_w3 : mj (w3 σ o t) = mj σ := rfl
theorem mI_w3 : mI (w3 σ o t) = mI σ := rfl
theorem mi_w3 : mi (w3 σ o t) = mi σ := rfl
theorem rS_w3 : rS (w3 σ o t) o = t := by unfold rS; rw [mJ_w3, mJ_w3, mJ_w3]; simp
theorem rS_w3n (h : q ≠ o) : rS (w3 σ o t) q = rS σ q := by unfold rS; rw [mJ_w3, mJ_w3, mJ_w3]; simp [h]
theorem mJ_w3n (h : k ≠ 448 ∧ k ≠ 449 ∧ k ≠ 450 := by decide) : mJ (w3 σ o t) k q = mJ σ k q := by rw [mJ_w3]; simp [h.1, h.2.1, h.2.2]
theorem w3_w3 : w3 (w3 σ o t) o u = w3 σ o u := by
  refine sg_ext (fun k a => ?_) rfl rfl rfl
  rw [mJ_w3, mJ_w3, mJ_w3]
  by_cases h : a = o
  · subst h; simp only [↓reduceIte]; repeat' split
    all_goals rfl
  · simp [h]
theorem w3_self : w3 σ o (rS σ o) = σ := by
  refine sg_ext (fun k a => ?_) rfl rfl rfl
  rw [mJ_w3]
  by_cases h : a = o
  · subst h
    by_cases a1 : k = 448
    · subst a1; simp [rS]
    · by_cases a2 : k = 449
      · subst a2; simp [rS]
      · by_cases a3 : k = 450
        · subst a3; simp [rS]
        · simp [a1, a2, a3]
  · simp [h]
theorem w3_1 {x : Int64} : uJ σ 448 o x = w3 σ o (x, (rS σ o).2.1, (rS σ o).2.2) := by
  refine sg_ext (fun k a => ?_) rfl rfl rfl
  rw [mJ_w3, mJ_uJ]
  by_cases h : a = o
  · subst h
    by_cases a1 : k = 448
    · subst a1; simp
    · by_cases a2 : k = 449
      · subst a2; simp [rS]
      · by_cases a3 : k = 450
        · subst a3; simp [rS]
        · simp [a1, a2, a3]
  · simp [h]
theorem w3_2 {x : Int64} : uJ σ 449 o x = w3 σ o ((rS σ o).1, x, (rS σ o).2.2) := by
  refine sg_ext (fun k a => ?_) rfl rfl rfl
  rw [mJ_w3, mJ_uJ]
  by_cases h : a = o
  · subst h
    by_cases a1 : k = 448
    · subst a1; simp [rS]
    · by_cases a2 : k = 449
      · subst a2; simp
      · by_cases a3 : k = 450
        · subst a3; simp [rS]
        · simp [a1, a2, a3]
  · simp [h]
theorem w3_12 {x y : Int64} : uJ (uJ σ 448 o x) 449 o y = w3 σ o (x, y, (rS σ o).2.2) := by
  rw [w3_1, w3_2, w3_w3, rS_w3]
theorem ite_w {c : Prop} {i1 i2 : Decidable c} {a b : SG} {x y : Tr} (h1 : c → a = w3 σ o x) (h2 : ¬ c → b = w3 σ o y) : @ite SG c i1 a b = w3 σ o (@ite Tr c i2 x y) := by
  by_cases h : c
  · rw [if_pos h, if_pos h]; exact h1 h
  · rw [if_neg h, if_neg h]; exact h2 h
end TRS
def K_isAny (t0 : Tr) : Int32 :=
  if t0.2.2 = ((-1) : Int64) then
    1
  else
    0
theorem zk_isAny {R : Nat → Nat → Nat} {σ : SG} {o0 : Nat} : Z_X7_isAny R σ o0 = K_isAny (rS σ o0) := rfl
def K_isNone (t0 : Tr) : Int32 :=
  if t0.2.2 = ((-2) : Int64) then
    1
  else
    0
theorem zk_isNone {R : Nat → Nat → Nat} {σ : SG} {o0 : Nat} : Z_X7_isNone R σ o0 = K_isNone (rS σ o0) := rfl
def K_isSingle (t0 : Tr) : Int32 :=
  if t0.2.2 = (0 : Int64) then
    1
  else
    0
theorem zk_isSingle {R : Nat → Nat → Nat} {σ : SG} {o0 : Nat} : Z_X7_isSingle R σ o0 = K_isSingle (rS σ o0) := rfl
def K_isNatural (t0 : Tr) : Int32 :=
  if t0.2.2 < (0 : Int64) then
    0
  else
    if t0.1 < (0 : Int64) then
      0
    else
      1
theorem zk_isNatural {R : Nat → Nat → Nat} {σ : SG} {o0 : Nat} : Z_X7_isNatural R σ o0 = K_isNatural (rS σ o0) := rfl
def K_isFactor (t0 : Tr) : Int32 :=
  if t0.2.2 < (0 : Int64) then
    0
  else
    if t0.1 < ((-1073741824) : Int64) then
      0
    else
      if (1073741824 : Int64) < t0.2.1 then
        0
      else
        1
theorem zk_isFactor {R : Nat → Nat → Nat} {σ : SG} {o0 : Nat} : Z_X7_isFactor R σ o0 = K_isFactor (rS σ o0) := rfl
def K_become (t0 : Tr) (y1 : Int64) (y3 : Int64) (y5 : Int64) : Tr :=
  if y1 < ((-2305843009213693952) : Int64) then
    (0, 0, (-1))
  else
    if (2305843009213693952 : Int64) < y3 then
      (0, 0, (-1))
    else
      if y1 = y3 then
        (y1, y3, 0)
      else
        (y1, y3, y5)
theorem zk_become {R : Nat → Nat → Nat} {σ : SG} {o0 : Nat} {y1 : Int64} {y3 : Int64} {y5 : Int64} : Z_X7_become R σ o0 y1 y3 y5 = w3 σ o0 (K_become (rS σ o0) y1 y3 y5) := by
  unfold Z_X7_become K_become
  exact (ite_w (fun _ => rfl) (fun _ => (ite_w (fun _ => rfl) (fun _ => (ite_w (fun _ => rfl) (fun _ => rfl))))))
def K_becomeAny (t0 : Tr) : Tr :=
  (0, 0, (-1))
theorem zk_becomeAny {R : Nat → Nat → Nat} {σ : SG} {o0 : Nat} : Z_X7_becomeAny R σ o0 = w3 σ o0 (K_becomeAny (rS σ o0)) := by
  unfold Z_X7_becomeAny K_becomeAny
  exact rfl
def K_becomeNone (t0 : Tr) : Tr :=
  (0, 0, (-2))
theorem zk_becomeNone {R : Nat → Nat → Nat} {σ : SG} {o0 : Nat} : Z_X7_becomeNone R σ o0 = w3 σ o0 (K_becomeNone (rS σ o0)) := by
  unfold Z_X7_becomeNone K_becomeNone
  exact rfl
def K_copyFrom (t0 : Tr) (t1 : Tr) : Tr :=
  (t1.1, t1.2.1, t1.2.2)
theorem zk_copyFrom {R : Nat → Nat → Nat} {σ : SG} {o0 : Nat} {o1 : Nat} : Z_X7_copyFrom R σ o0 o1 = w3 σ o0 (K_copyFrom (rS σ o0) (rS σ o1)) := by
  unfold Z_X7_copyFrom K_copyFrom
  exact rfl
def K_drop (t0 : Tr) (y1 : Int64) : Tr :=
  if t0.2.2 < (0 : Int64) then
    t0
  else
    if (K_isSingle t0) = 0 then
      if y1 = t0.1 then
        K_become t0 ((t0.1 + t0.2.2)) (t0.2.1) (t0.2.2)
      else
        if y1 = t0.2.1 then
          K_become t0 (t0.1) ((t0.2.1 - t0.2.2)) (t0.2.2)
        else
          t0
    else
      if y1 = t0.1 then
        K_becomeNone t0
      else
        t0
theorem zk_drop {R : Nat → Nat → Nat} {σ : SG} {o0 : Nat} {y1 : Int64} : Z_X7_drop R σ o0 y1 = w3 σ o0 (K_drop (rS σ o0) y1) := by
  unfold Z_X7_drop K_drop
  exact (ite_w (fun _ => w3_self.symm) (fun _ => (ite_w (fun _ => (ite_w (fun _ => zk_become) (fun _ => (ite_w (fun _ => zk_become) (fun _ => w3_self.symm))))) (fun _ => (ite_w (fun _ => zk_becomeNone) (fun _ => w3_self.symm))))))
def K_cut (t0 : Tr) (y1 : Int64) (y3 : Int64) : Tr :=
  if t0.2.2 < (0 : Int64) then
    t0
  else
    if t0.2.1 < y1 then
      K_becomeNone t0
    else
      if y3 < t0.1 then
        K_becomeNone t0
      else
        if t0.1 < y1 then
          if (0 : Int64) < t0.2.2 then
            if y3 < t0.2.1 then
              if (y3 - (Z_J9_floorMod_f86c9 ((y3 - t0.2.1)) (t0.2.2))) < (y1 + (Z_J9_floorMod_f86c9 ((t0.1 - y1)) (t0.2.2))) then
                K_becomeNone t0
              else
                K_become t0 ((y1 + (Z_J9_floorMod_f86c9 ((t0.1 - y1)) (t0.2.2)))) ((y3 - (Z_J9_floorMod_f86c9 ((y3 - t0.2.1)) (t0.2.2)))) (t0.2.2)
            else
              if t0.2.1 < (y1 + (Z_J9_floorMod_f86c9 ((t0.1 - y1)) (t0.2.2))) then
                K_becomeNone t0
              else
                K_become t0 ((y1 + (Z_J9_floorMod_f86c9 ((t0.1 - y1)) (t0.2.2)))) (t0.2.1) (t0.2.2)
          else
            if y3 < t0.2.1 then
              if t0.2.1 < t0.1 then
                K_becomeNone t0
              else
                K_become t0 (t0.1) (t0.2.1) (t0.2.2)
            else
              if t0.2.1 < t0.1 then
                K_becomeNone t0
              else
                K_become t0 (t0.1) (t0.2.1) (t0.2.2)
        else
          if y3 < t0.2.1 then
            if (0 : Int64) < t0.2.2 then
              if (y3 - (Z_J9_floorMod_f86c9 ((y3 - t0.2.1)) (t0.2.2))) < t0.1 then
                K_becomeNone t0
              else
                K_become t0 (t0.1) ((y3 - (Z_J9_floorMod_f86c9 ((y3 - t0.2.1)) (t0.2.2)))) (t0.2.2)
            else
              if t0.2.1 < t0.1 then
                K_becomeNone t0
              else
                K_become t0 (t0.1) (t0.2.1) (t0.2.2)
          else
            if t0.2.1 < t0.1 then
              K_becomeNone t0
            else
              K_become t0 (t0.1) (t0.2.1) (t0.2.2)
theorem zk_cut {R : Nat → Nat → Nat} {σ : SG} {o0 : Nat} {y1 : Int64} {y3 : Int64} : Z_X7_cut R σ o0 y1 y3 = w3 σ o0 (K_cut (rS σ o0) y1 y3) := by
  unfold Z_X7_cut K_cut
  exact (ite_w (fun _ => w3_self.symm) (fun _ => (ite_w (fun _ => zk_becomeNone) (fun _ => (ite_w (fun _ => zk_becomeNone) (fun _ => (ite_w (fun _ => (ite_w (fun _ => (ite_w (fun _ => (ite_w (fun _ => zk_becomeNone) (fun _ => zk_become))) (fun _ => (ite_w (fun _ => zk_becomeNone) (fun _ => zk_become))))) (fun _ => (ite_w (fun _ => (ite_w (fun _ => zk_becomeNone) (fun _ => zk_become))) (fun _ => (ite_w (fun _ => zk_becomeNone) (fun _ => zk_become))))))) (fun _ => (ite_w (fun _ => (ite_w (fun _ => (ite_w (fun _ => zk_becomeNone) (fun _ => zk_become))) (fun _ => (ite_w (fun _ => zk_becomeNone) (fun _ => zk_become))))) (fun _ => (ite_w (fun _ => zk_becomeNone) (fun _ => zk_become))))))))))))
def K_stretchFrom (t0 : Tr) (t1 : Tr) : Tr :=
  if (0 : Int64) < t0.2.2 then
    if t0.1 < t1.1 then
      if t1.2.1 < t0.2.1 then
        (((-2305843009213693952) + ((t0.1 + 2305843009213693952) - (t0.1 + 2305843009213693952) / t0.2.2 * t0.2.2)), (2305843009213693952 - ((2305843009213693952 - t0.2.1) - (2305843009213693952 - t0.2.1) / t0.2.2 * t0.2.2)), t0.2.2)
      else
        (((-2305843009213693952) + ((t0.1 + 2305843009213693952) - (t0.1 + 2305843009213693952) / t0.2.2 * t0.2.2)), t0.2.1, t0.2.2)
    else
      if t1.2.1 < t0.2.1 then
        (t0.1, (2305843009213693952 - ((2305843009213693952 - t0.2.1) - (2305843009213693952 - t0.2.1) / t0.2.2 * t0.2.2)), t0.2.2)
      else
        t0
  else
    t0
theorem zk_stretchFrom {R : Nat → Nat → Nat} {σ : SG} {o0 : Nat} {o1 : Nat} : Z_X7_stretchFrom R σ o0 o1 = w3 σ o0 (K_stretchFrom (rS σ o0) (rS σ o1)) := by
  unfold Z_X7_stretchFrom K_stretchFrom
  exact (ite_w (fun _ => (ite_w (fun _ => (ite_w (fun _ => w3_12) (fun _ => w3_1))) (fun _ => (ite_w (fun _ => w3_2) (fun _ => w3_self.symm))))) (fun _ => w3_self.symm))
def K_holds (t0 : Tr) (y1 : Int64) : Int32 :=
  if t0.2.2 = ((-1) : Int64) then
    1
  else
    if t0.2.2 < (0 : Int64) then
      0
    else
      if y1 < t0.1 then
        0
      else
        if t0.2.1 < y1 then
          0
        else
          if t0.2.2 = (0 : Int64) then
            1
          else
            if ((y1 - t0.1) - (y1 - t0.1) / t0.2.2 * t0.2.2) = (0 : Int64) then
              1
            else
              0
theorem zk_holds {R : Nat → Nat → Nat} {σ : SG} {o0 : Nat} {y1 : Int64} : Z_X7_holds R σ o0 y1 = K_holds (rS σ o0) y1 := rfl
def K_join (t0 : Tr) (t1 : Tr) (t2 : Tr) : Tr :=
  if (K_isAny t1) = 0 then
    if (K_isAny t2) = 0 then
      K_become t0 ((Z_J9_min_f86c9 (t1.1) (t2.1))) ((Z_J9_max_f86c9 (t1.2.1) (t2.2.1))) ((Z_X7_gcd ((Z_X7_gcd (t1.2.2) (t2.2.2))) ((t1.1 - t2.1))))
    else
      K_becomeAny t0
  else
    K_becomeAny t0
theorem zk_join {R : Nat → Nat → Nat} {σ : SG} {o0 : Nat} {o1 : Nat} {o2 : Nat} : Z_X7_join R σ o0 o1 o2 = w3 σ o0 (K_join (rS σ o0) (rS σ o1) (rS σ o2)) := by
  unfold Z_X7_join K_join
  exact (ite_w (fun _ => (ite_w (fun _ => zk_become) (fun _ => zk_becomeAny))) (fun _ => zk_becomeAny))
def K_add (t0 : Tr) (t1 : Tr) (t2 : Tr) : Tr :=
  if (K_isAny t1) = 0 then
    if (K_isAny t2) = 0 then
      K_become t0 ((t1.1 + t2.1)) ((t1.2.1 + t2.2.1)) ((Z_X7_gcd (t1.2.2) (t2.2.2)))
    else
      K_becomeAny t0
  else
    K_becomeAny t0
theorem zk_add {R : Nat → Nat → Nat} {σ : SG} {o0 : Nat} {o1 : Nat} {o2 : Nat} : Z_X7_add R σ o0 o1 o2 = w3 σ o0 (K_add (rS σ o0) (rS σ o1) (rS σ o2)) := by
  unfold Z_X7_add K_add
  exact (ite_w (fun _ => (ite_w (fun _ => zk_become) (fun _ => zk_becomeAny))) (fun _ => zk_becomeAny))
def K_subtract (t0 : Tr) (t1 : Tr) (t2 : Tr) : Tr :=
  if (K_isAny t1) = 0 then
    if (K_isAny t2) = 0 then
      K_become t0 ((t1.1 - t2.2.1)) ((t1.2.1 - t2.1)) ((Z_X7_gcd (t1.2.2) (t2.2.2)))
    else
      K_becomeAny t0
  else
    K_becomeAny t0
theorem zk_subtract {R : Nat → Nat → Nat} {σ : SG} {o0 : Nat} {o1 : Nat} {o2 : Nat} : Z_X7_subtract R σ o0 o1 o2 = w3 σ o0 (K_subtract (rS σ o0) (rS σ o1) (rS σ o2)) := by
  unfold Z_X7_subtract K_subtract
  exact (ite_w (fun _ => (ite_w (fun _ => zk_become) (fun _ => zk_becomeAny))) (fun _ => zk_becomeAny))
def K_subtractFrom (t0 : Tr) (y1 : Int64) (t3 : Tr) : Tr :=
  if (K_isAny t3) = 0 then
    K_become t0 ((y1 - t3.2.1)) ((y1 - t3.1)) (t3.2.2)
  else
    K_becomeAny t0
theorem zk_subtractFrom {R : Nat → Nat → Nat} {σ : SG} {o0 : Nat} {y1 : Int64} {o3 : Nat} : Z_X7_subtractFrom R σ o0 y1 o3 = w3 σ o0 (K_subtractFrom (rS σ o0) y1 (rS σ o3)) := by
  unfold Z_X7_subtractFrom K_subtractFrom
  exact (ite_w (fun _ => zk_become) (fun _ => zk_becomeAny))
def K_mix (t0 : Tr) (x1 : Int32) (t2 : Tr) (t3 : Tr) : Tr :=
  if (K_isSingle t2) = 0 then
    if (K_isNatural t2) = 0 then
      K_becomeAny t0
    else
      if (K_isNatural t3) = 0 then
        K_becomeAny t0
      else
        if x1 = 0 then
          K_become t0 (0) (((2 * (Z_J13_highestOneBit_067f4 ((Z_J9_max_f86c9 (t2.2.1) (t3.2.1))))) - 1)) (1)
        else
          K_become t0 ((Z_J9_max_f86c9 (t2.1) (t3.1))) (((2 * (Z_J13_highestOneBit_067f4 ((Z_J9_max_f86c9 (t2.2.1) (t3.2.1))))) - 1)) (1)
  else
    if (K_isSingle t3) = 0 then
      if (K_isNatural t2) = 0 then
        K_becomeAny t0
      else
        if (K_isNatural t3) = 0 then
          K_becomeAny t0
        else
          if x1 = 0 then
            K_become t0 (0) (((2 * (Z_J13_highestOneBit_067f4 ((Z_J9_max_f86c9 (t2.2.1) (t3.2.1))))) - 1)) (1)
          else
            K_become t0 ((Z_J9_max_f86c9 (t2.1) (t3.1))) (((2 * (Z_J13_highestOneBit_067f4 ((Z_J9_max_f86c9 (t2.2.1) (t3.2.1))))) - 1)) (1)
    else
      if x1 = 0 then
        K_become t0 ((t2.1 ^^^ t3.1)) ((t2.1 ^^^ t3.1)) (0)
      else
        K_become t0 ((t2.1 ||| t3.1)) ((t2.1 ||| t3.1)) (0)
theorem zk_mix {R : Nat → Nat → Nat} {σ : SG} {o0 : Nat} {x1 : Int32} {o2 : Nat} {o3 : Nat} : Z_X7_mix R σ o0 x1 o2 o3 = w3 σ o0 (K_mix (rS σ o0) x1 (rS σ o2) (rS σ o3)) := by
  unfold Z_X7_mix K_mix
  exact (ite_w (fun _ => (ite_w (fun _ => zk_becomeAny) (fun _ => (ite_w (fun _ => zk_becomeAny) (fun _ => (ite_w (fun _ => zk_become) (fun _ => zk_become))))))) (fun _ => (ite_w (fun _ => (ite_w (fun _ => zk_becomeAny) (fun _ => (ite_w (fun _ => zk_becomeAny) (fun _ => (ite_w (fun _ => zk_become) (fun _ => zk_become))))))) (fun _ => (ite_w (fun _ => zk_become) (fun _ => zk_become))))))
def K_shiftRight (t0 : Tr) (t1 : Tr) (x2 : Int32) : Tr :=
  if x2 = 0 then
    K_copyFrom t0 t1
  else
    if (K_isAny t1) = 0 then
      if (t1.2.2 &&& ((1 <<< ((x2 : Int32).toInt64 &&& 63)) - 1)) = (0 : Int64) then
        if (t1.1 &&& ((1 <<< ((x2 : Int32).toInt64 &&& 63)) - 1)) = (0 : Int64) then
          K_become t0 ((t1.1 >>> ((x2 : Int32).toInt64 &&& 63))) ((t1.2.1 >>> ((x2 : Int32).toInt64 &&& 63))) ((t1.2.2 >>> ((x2 : Int32).toInt64 &&& 63)))
        else
          K_become t0 ((t1.1 >>> ((x2 : Int32).toInt64 &&& 63))) ((t1.2.1 >>> ((x2 : Int32).toInt64 &&& 63))) (1)
      else
        K_become t0 ((t1.1 >>> ((x2 : Int32).toInt64 &&& 63))) ((t1.2.1 >>> ((x2 : Int32).toInt64 &&& 63))) (1)
    else
      K_become t0 ((-(1 <<< (((63 - x2) : Int32).toInt64 &&& 63)))) (((1 <<< (((63 - x2) : Int32).toInt64 &&& 63)) - 1)) (1)
theorem zk_shiftRight {R : Nat → Nat → Nat} {σ : SG} {o0 : Nat} {o1 : Nat} {x2 : Int32} : Z_X7_shiftRight R σ o0 o1 x2 = w3 σ o0 (K_shiftRight (rS σ o0) (rS σ o1) x2) := by
  unfold Z_X7_shiftRight K_shiftRight
  exact (ite_w (fun _ => zk_copyFrom) (fun _ => (ite_w (fun _ => (ite_w (fun _ => (ite_w (fun _ => zk_become) (fun _ => zk_become))) (fun _ => zk_become))) (fun _ => zk_become))))
def K_takeLowHalf (t0 : Tr) : Tr :=
  if (K_isAny t0) = 0 then
    if (K_isSingle t0) = 0 then
      if t0.1 < (0 : Int64) then
        K_become t0 ((t0.1 &&& ((Z_J9_min_f86c9 ((Z_J13_lowestOneBit_067f4 (t0.2.2))) (4294967296)) - 1))) (((4294967296 - (Z_J9_min_f86c9 ((Z_J13_lowestOneBit_067f4 (t0.2.2))) (4294967296))) + (t0.1 &&& ((Z_J9_min_f86c9 ((Z_J13_lowestOneBit_067f4 (t0.2.2))) (4294967296)) - 1)))) ((Z_J9_min_f86c9 ((Z_J13_lowestOneBit_067f4 (t0.2.2))) (4294967296)))
      else
        if t0.2.1 < (4294967296 : Int64) then
          t0
        else
          K_become t0 ((t0.1 &&& ((Z_J9_min_f86c9 ((Z_J13_lowestOneBit_067f4 (t0.2.2))) (4294967296)) - 1))) (((4294967296 - (Z_J9_min_f86c9 ((Z_J13_lowestOneBit_067f4 (t0.2.2))) (4294967296))) + (t0.1 &&& ((Z_J9_min_f86c9 ((Z_J13_lowestOneBit_067f4 (t0.2.2))) (4294967296)) - 1)))) ((Z_J9_min_f86c9 ((Z_J13_lowestOneBit_067f4 (t0.2.2))) (4294967296)))
    else
      K_become t0 ((t0.1 &&& 4294967295)) ((t0.1 &&& 4294967295)) (0)
  else
    K_become t0 (0) (4294967295) (1)
theorem zk_takeLowHalf {R : Nat → Nat → Nat} {σ : SG} {o0 : Nat} : Z_X7_takeLowHalf R σ o0 = w3 σ o0 (K_takeLowHalf (rS σ o0)) := by
  unfold Z_X7_takeLowHalf K_takeLowHalf
  exact (ite_w (fun _ => (ite_w (fun _ => (ite_w (fun _ => zk_become) (fun _ => (ite_w (fun _ => w3_self.symm) (fun _ => zk_become))))) (fun _ => zk_become))) (fun _ => zk_become))
def K_takeSignedHalf (t0 : Tr) : Tr :=
  if (K_takeLowHalf t0).2.1 < (2147483648 : Int64) then K_takeLowHalf t0
  else if (K_takeLowHalf t0).1 < (2147483648 : Int64) then
    K_become t0 ((((K_takeLowHalf t0).1 &&& ((Z_J13_lowestOneBit_067f4 (K_takeLowHalf t0).2.2) - 1)) - 2147483648)) (((2147483648 - (Z_J13_lowestOneBit_067f4 (K_takeLowHalf t0).2.2)) + ((K_takeLowHalf t0).1 &&& ((Z_J13_lowestOneBit_067f4 (K_takeLowHalf t0).2.2) - 1)))) (Z_J13_lowestOneBit_067f4 (K_takeLowHalf t0).2.2)
  else K_become t0 ((K_takeLowHalf t0).1 - 4294967296) ((K_takeLowHalf t0).2.1 - 4294967296) (K_takeLowHalf t0).2.2
theorem zk_takeSignedHalf {R : Nat → Nat → Nat} {σ : SG} {o0 : Nat} : Z_X7_takeSignedHalf R σ o0 = w3 σ o0 (K_takeSignedHalf (rS σ o0)) := by
  unfold Z_X7_takeSignedHalf K_takeSignedHalf
  simp only [zk_takeLowHalf, zk_become]
  have e1 : mJ (w3 σ o0 (K_takeLowHalf (rS σ o0))) 448 o0 = (K_takeLowHalf (rS σ o0)).1 := congrArg (fun q => q.1) rS_w3
  have e2 : mJ (w3 σ o0 (K_takeLowHalf (rS σ o0))) 449 o0 = (K_takeLowHalf (rS σ o0)).2.1 := congrArg (fun q => q.2.1) rS_w3
  have e3 : mJ (w3 σ o0 (K_takeLowHalf (rS σ o0))) 450 o0 = (K_takeLowHalf (rS σ o0)).2.2 := congrArg (fun q => q.2.2) rS_w3
  rw [e1, e2, e3, w3_w3, w3_w3]
  exact ite_w (fun _ => rfl) (fun _ => ite_w (fun _ => rfl) (fun _ => rfl))
def K_multiply_p59 (t0 : Tr) (t1 : Tr) (t2 : Tr) : Tr :=
  K_become t0 ((Z_J9_min_f86c9 ((Z_J9_min_f86c9 ((t1.1 * t2.1)) ((t1.1 * t2.2.1)))) ((Z_J9_min_f86c9 ((t1.2.1 * t2.1)) ((t1.2.1 * t2.2.1)))))) ((Z_J9_max_f86c9 ((Z_J9_max_f86c9 ((t1.1 * t2.1)) ((t1.1 * t2.2.1)))) ((Z_J9_max_f86c9 ((t1.2.1 * t2.1)) ((t1.2.1 * t2.2.1)))))) ((Z_X7_gcd ((Z_X7_gcd ((t1.2.2 * t2.1)) ((t2.2.2 * t1.1)))) ((t1.2.2 * t2.2.2))))
theorem zk_multiply_p59 {R : Nat → Nat → Nat} {σ : SG} {o0 : Nat} {o1 : Nat} {o2 : Nat} : Z_X7_multiply_p59 R σ o0 o1 o2 = w3 σ o0 (K_multiply_p59 (rS σ o0) (rS σ o1) (rS σ o2)) := by
  unfold Z_X7_multiply_p59 K_multiply_p59
  exact zk_become
def K_multiply_p40 (t0 : Tr) (t1 : Tr) (t2 : Tr) : Tr :=
  if (K_isFactor t1) = 0 then
    K_becomeAny t0
  else
    if (K_isFactor t2) = 0 then
      K_becomeAny t0
    else
      K_multiply_p59 t0 t1 t2
theorem zk_multiply_p40 {R : Nat → Nat → Nat} {σ : SG} {o0 : Nat} {o1 : Nat} {o2 : Nat} : Z_X7_multiply_p40 R σ o0 o1 o2 = w3 σ o0 (K_multiply_p40 (rS σ o0) (rS σ o1) (rS σ o2)) := by
  unfold Z_X7_multiply_p40 K_multiply_p40
  exact (ite_w (fun _ => zk_becomeAny) (fun _ => (ite_w (fun _ => zk_becomeAny) (fun _ => zk_multiply_p59))))
def K_multiply (t0 : Tr) (t1 : Tr) (t2 : Tr) : Tr :=
  if (K_isSingle t1) = 0 then
    if (K_isSingle t2) = 0 then
      K_multiply_p40 t0 t1 t2
    else
      if t2.1 = (0 : Int64) then
        K_become t0 (0) (0) (0)
      else
        K_multiply_p40 t0 t1 t2
  else
    if t1.1 = (0 : Int64) then
      K_become t0 (0) (0) (0)
    else
      if (K_isSingle t2) = 0 then
        K_multiply_p40 t0 t1 t2
      else
        if t2.1 = (0 : Int64) then
          K_become t0 (0) (0) (0)
        else
          K_multiply_p40 t0 t1 t2
theorem zk_multiply {R : Nat → Nat → Nat} {σ : SG} {o0 : Nat} {o1 : Nat} {o2 : Nat} : Z_X7_multiply R σ o0 o1 o2 = w3 σ o0 (K_multiply (rS σ o0) (rS σ o1) (rS σ o2)) := by
  unfold Z_X7_multiply K_multiply
  exact (ite_w (fun _ => (ite_w (fun _ => zk_multiply_p40) (fun _ => (ite_w (fun _ => zk_become) (fun _ => zk_multiply_p40))))) (fun _ => (ite_w (fun _ => zk_become) (fun _ => (ite_w (fun _ => zk_multiply_p40) (fun _ => (ite_w (fun _ => zk_become) (fun _ => zk_multiply_p40))))))))
def K_and_p131 (t0 : Tr) (y3 : Int64) (x5 : Int32) : Tr :=
  if x5 = 0 then
    K_become t0 (0) (y3) (1)
  else
    K_become t0 (0) (y3) ((Z_J13_lowestOneBit_067f4 (y3)))
theorem zk_and_p131 {R : Nat → Nat → Nat} {σ : SG} {o0 : Nat} {y3 : Int64} {x5 : Int32} : Z_X7_and_p131 R σ o0 y3 x5 = w3 σ o0 (K_and_p131 (rS σ o0) y3 x5) := by
  unfold Z_X7_and_p131 K_and_p131
  exact (ite_w (fun _ => zk_become) (fun _ => zk_become))
def K_and_p92 (t0 : Tr) (t1 : Tr) (t2 : Tr) (y3 : Int64) : Tr :=
  if (K_isSingle t1) = 0 then
    if (K_isSingle t2) = 0 then
      K_and_p131 t0 (y3) (0)
    else
      if t2.1 = y3 then
        K_and_p131 t0 (y3) (1)
      else
        K_and_p131 t0 (y3) (0)
  else
    if t1.1 = y3 then
      K_and_p131 t0 (y3) (1)
    else
      if (K_isSingle t2) = 0 then
        K_and_p131 t0 (y3) (0)
      else
        if t2.1 = y3 then
          K_and_p131 t0 (y3) (1)
        else
          K_and_p131 t0 (y3) (0)
theorem zk_and_p92 {R : Nat → Nat → Nat} {σ : SG} {o0 : Nat} {o1 : Nat} {o2 : Nat} {y3 : Int64} : Z_X7_and_p92 R σ o0 o1 o2 y3 = w3 σ o0 (K_and_p92 (rS σ o0) (rS σ o1) (rS σ o2) y3) := by
  unfold Z_X7_and_p92 K_and_p92
  exact (ite_w (fun _ => (ite_w (fun _ => zk_and_p131) (fun _ => (ite_w (fun _ => zk_and_p131) (fun _ => zk_and_p131))))) (fun _ => (ite_w (fun _ => zk_and_p131) (fun _ => (ite_w (fun _ => zk_and_p131) (fun _ => (ite_w (fun _ => zk_and_p131) (fun _ => zk_and_p131))))))))
def K_and_p76 (t0 : Tr) (t1 : Tr) (t2 : Tr) (y3 : Int64) : Tr :=
  if (K_isNatural t2) = 0 then
    K_and_p92 t0 t1 t2 (y3)
  else
    K_and_p92 t0 t1 t2 ((Z_J9_min_f86c9 (y3) (t2.2.1)))
theorem zk_and_p76 {R : Nat → Nat → Nat} {σ : SG} {o0 : Nat} {o1 : Nat} {o2 : Nat} {y3 : Int64} : Z_X7_and_p76 R σ o0 o1 o2 y3 = w3 σ o0 (K_and_p76 (rS σ o0) (rS σ o1) (rS σ o2) y3) := by
  unfold Z_X7_and_p76 K_and_p76
  exact (ite_w (fun _ => zk_and_p92) (fun _ => zk_and_p92))
def K_and_p57 (t0 : Tr) (t1 : Tr) (t2 : Tr) : Tr :=
  if (K_isNatural t1) = 0 then
    K_and_p76 t0 t1 t2 (t2.2.1)
  else
    K_and_p76 t0 t1 t2 (t1.2.1)
theorem zk_and_p57 {R : Nat → Nat → Nat} {σ : SG} {o0 : Nat} {o1 : Nat} {o2 : Nat} : Z_X7_and_p57 R σ o0 o1 o2 = w3 σ o0 (K_and_p57 (rS σ o0) (rS σ o1) (rS σ o2)) := by
  unfold Z_X7_and_p57 K_and_p57
  exact (ite_w (fun _ => zk_and_p76) (fun _ => zk_and_p76))
def K_and (t0 : Tr) (t1 : Tr) (t2 : Tr) : Tr :=
  if (K_isSingle t1) = 0 then
    if (K_isNatural t1) = 0 then
      if (K_isNatural t2) = 0 then
        K_becomeAny t0
      else
        K_and_p57 t0 t1 t2
    else
      K_and_p57 t0 t1 t2
  else
    if (K_isSingle t2) = 0 then
      if (K_isNatural t1) = 0 then
        if (K_isNatural t2) = 0 then
          K_becomeAny t0
        else
          K_and_p57 t0 t1 t2
      else
        K_and_p57 t0 t1 t2
    else
      K_become t0 ((t1.1 &&& t2.1)) ((t1.1 &&& t2.1)) (0)
theorem zk_and {R : Nat → Nat → Nat} {σ : SG} {o0 : Nat} {o1 : Nat} {o2 : Nat} : Z_X7_and R σ o0 o1 o2 = w3 σ o0 (K_and (rS σ o0) (rS σ o1) (rS σ o2)) := by
  unfold Z_X7_and K_and
  exact (ite_w (fun _ => (ite_w (fun _ => (ite_w (fun _ => zk_becomeAny) (fun _ => zk_and_p57))) (fun _ => zk_and_p57))) (fun _ => (ite_w (fun _ => (ite_w (fun _ => (ite_w (fun _ => zk_becomeAny) (fun _ => zk_and_p57))) (fun _ => zk_and_p57))) (fun _ => zk_become))))
def K_operate (t0 : Tr) (x1 : Int32) (t2 : Tr) (t3 : Tr) (x4 : Int32) : Tr :=
  if x1 = 0 then
    K_add t0 t2 t3
  else
    if x1 = 1 then
      K_mix t0 (1) t2 t3
    else
      if x1 = 2 then
        K_copyFrom t0 t3
      else
        if x1 = 3 then
          K_copyFrom t0 t3
        else
          if x1 = 4 then
            K_and t0 t2 t3
          else
            if x1 = 5 then
              K_subtract t0 t2 t3
            else
              if x1 = 6 then
                K_mix t0 (0) t2 t3
              else
                if x1 = 7 then
                  K_copyFrom t0 t3
                else
                  if x1 = 8 then
                    K_copyFrom t0 t3
                  else
                    if x1 = 9 then
                      K_subtractFrom t0 ((-1)) t2
                    else
                      if x1 = 10 then
                        K_subtractFrom t0 (0) t2
                      else
                        if x1 = 11 then
                          K_add t0 t2 t3
                        else
                          if x1 = 12 then
                            K_subtract t0 t2 t3
                          else
                            if x1 = 13 then
                              K_copyFrom t0 t3
                            else
                              if x1 = 14 then
                                K_multiply t0 t2 t3
                              else
                                if x1 = 15 then
                                  if x4 = 0 then
                                    K_shiftRight t0 t2 (x4)
                                  else
                                    if (K_isNatural t2) = 0 then
                                      K_become t0 (0) (((((-1) : Int64).toUInt64 >>> ((x4 : Int32).toInt64.toUInt64 &&& Int64.toUInt64 63)).toInt64)) (1)
                                    else
                                      K_shiftRight t0 t2 (x4)
                                else
                                  if x1 = 16 then
                                    K_shiftRight t0 t2 (x4)
                                  else
                                    if x1 = 17 then
                                      K_multiply t0 t2 t3
                                    else
                                      K_copyFrom t0 t3
theorem zk_operate {R : Nat → Nat → Nat} {σ : SG} {o0 : Nat} {x1 : Int32} {o2 : Nat} {o3 : Nat} {x4 : Int32} : Z_X7_operate R σ o0 x1 o2 o3 x4 = w3 σ o0 (K_operate (rS σ o0) x1 (rS σ o2) (rS σ o3) x4) := by
  unfold Z_X7_operate K_operate
  exact (ite_w (fun _ => zk_add) (fun _ => (ite_w (fun _ => zk_mix) (fun _ => (ite_w (fun _ => zk_copyFrom) (fun _ => (ite_w (fun _ => zk_copyFrom) (fun _ => (ite_w (fun _ => zk_and) (fun _ => (ite_w (fun _ => zk_subtract) (fun _ => (ite_w (fun _ => zk_mix) (fun _ => (ite_w (fun _ => zk_copyFrom) (fun _ => (ite_w (fun _ => zk_copyFrom) (fun _ => (ite_w (fun _ => zk_subtractFrom) (fun _ => (ite_w (fun _ => zk_subtractFrom) (fun _ => (ite_w (fun _ => zk_add) (fun _ => (ite_w (fun _ => zk_subtract) (fun _ => (ite_w (fun _ => zk_copyFrom) (fun _ => (ite_w (fun _ => zk_multiply) (fun _ => (ite_w (fun _ => (ite_w (fun _ => zk_shiftRight) (fun _ => (ite_w (fun _ => zk_become) (fun _ => zk_shiftRight))))) (fun _ => (ite_w (fun _ => zk_shiftRight) (fun _ => (ite_w (fun _ => zk_multiply) (fun _ => zk_copyFrom))))))))))))))))))))))))))))))))))))
