/-! compared, in the reference -/
def EDG : List Nat := (List.range 24).map (fun k => 4904 + k)
theorem mem_edg {j : Nat} : j ∈ EDG ↔ 4904 ≤ j ∧ j < 4928 := by
  unfold EDG
  rw [List.mem_map]
  constructor
  · rintro ⟨k, hk, rfl⟩
    have := List.mem_range.mp hk
    omega
  · intro h
    exact ⟨j - 4904, List.mem_range.mpr (by omega), by omega⟩
def SE : List Nat := SCR ++ EDG
section LAY
variable {R : Nat → Nat → Nat} {σ τ ρ : SG} {m : Nat} {x y k1 k2 c : Int32}
theorem fx_uI {ks : List Nat} {v : Int32} : Fx R m ks σ (uI σ 676 m v) := ⟨rfl, fun k q hk => by rw [mI_uI]; simp [hk], fun _ _ => rfl, fun _ _ => rfl, fun _ _ _ _ => rfl⟩
theorem cC_uI {v : Int32} {j : Nat} : cC R m (uI σ 676 m v) j = cC R m σ j := rfl
theorem lay_z (hD : D4 R m) (hx : Rg (-1) 23 x) : Z_X10_lay R σ m x k1 = (if x = -1 then uI σ 676 m (if mI σ 676 m = 0 then (if (cC R m σ k1.toNatClampNeg).1 = 0 then 1 else 0) else 1) else wC R m (uI σ 676 m (if mI σ 676 m = 0 then (if (cC R m σ k1.toNatClampNeg).1 = 0 then 1 else 0) else 1)) (4904 + x.toNatClampNeg) (cC R m σ k1.toNatClampNeg)) := by
  obtain ⟨s1, s2⟩ := neg1 hx
  have e : mi σ (R 643 m) k1.toNatClampNeg = (cC R m σ k1.toNatClampNeg).1 := rfl
  unfold Z_X10_lay
  simp only [zj_copy hD, cC_uI, e]
  by_cases c : x = -1
  · have cl := s1.mpr c
    simp only [if_pos cl, if_pos c]
    by_cases d : mI σ 676 m = 0
    · simp only [d, ↓reduceIte]
      split <;> rfl
    · simp only [d, ↓reduceIte]
  · have cl : ¬ x < 0 := fun z => c (s1.mp z)
    have ix : (4904 + x).toNatClampNeg = 4904 + x.toNatClampNeg := ix_add (b := 4904) (B := 4904) rfl (s2 c)
    simp only [if_neg cl, if_neg c, ix]
    by_cases d : mI σ 676 m = 0
    · simp only [d, ↓reduceIte]
      split <;> rfl
    · simp only [d, ↓reduceIte]
theorem lay_ok (hD : D4 R m) (hx : Rg (-1) 23 x) : (mI (Z_X10_lay R σ m x k1) 676 m = 0 ↔ mI σ 676 m = 0 ∧ ¬ (cC R m σ k1.toNatClampNeg).1 = 0) ∧ (∀ j, cC R m (Z_X10_lay R σ m x k1) j = if ¬ x = -1 ∧ j = 4904 + x.toNatClampNeg then cC R m σ k1.toNatClampNeg else cC R m σ j) ∧ Fx R m EDG σ (Z_X10_lay R σ m x k1) := by
  rw [lay_z hD hx]
  have flag : (if mI σ 676 m = 0 then (if (cC R m σ k1.toNatClampNeg).1 = 0 then (1 : Int32) else 0) else 1) = 0 ↔ mI σ 676 m = 0 ∧ ¬ (cC R m σ k1.toNatClampNeg).1 = 0 := by
    by_cases d : mI σ 676 m = 0
    · by_cases d2 : (cC R m σ k1.toNatClampNeg).1 = 0
      · simp [d, d2]
      · simp [d, d2]
    · simp [d]
  generalize (if mI σ 676 m = 0 then (if (cC R m σ k1.toNatClampNeg).1 = 0 then (1 : Int32) else 0) else 1) = V at flag ⊢
  by_cases c : x = -1
  · rw [if_pos c]
    refine ⟨?_, fun j => ?_, fx_uI⟩
    · rw [mI_uI]; simp only [and_self, ↓reduceIte]; exact flag
    · rw [cC_uI, if_neg (fun z => z.1 c)]
  · rw [if_neg c]
    have lx := cl_23 ((neg1 hx).2 c)
    refine ⟨?_, fun j => ?_, fx_tr fx_uI (fx_wC (mem_edg.mpr ⟨by omega, by omega⟩))⟩
    · show mI (uI σ 676 m V) 676 m = 0 ↔ _
      rw [mI_uI]; simp only [and_self, ↓reduceIte]; exact flag
    · by_cases ej : j = 4904 + x.toNatClampNeg
      · subst ej
        rw [cC_wC hD, if_pos ⟨c, rfl⟩]
      · rw [cC_wCn ej, if_neg (fun z => ej z.2), cC_uI]
/-- what compared leaves: P on the place x, Q on y, dead if one is none -/
def Ld (R : Nat → Nat → Nat) (m : Nat) (x y : Int32) (P Q : Ce) (σ ρ : SG) : Prop := (mI ρ 676 m = 0 ↔ ¬ P.1 = 0 ∧ ¬ Q.1 = 0) ∧ (∀ k, k < 24 → cC R m ρ (4904 + k) = if ¬ y = -1 ∧ k = y.toNatClampNeg then Q else if ¬ x = -1 ∧ k = x.toNatClampNeg then P else cC R m σ (4904 + k)) ∧ Fx R m SE σ ρ
theorem se_s {j : Nat} (h : j ∈ SCR) : j ∈ SE := List.mem_append_left _ h
theorem se_e {j : Nat} (h : j ∈ EDG) : j ∈ SE := List.mem_append_right _ h
theorem lay2 (hD : D4 R m) (hx : Rg (-1) 23 x) (hy : Rg (-1) 23 y) (h1 : ¬ (4904 ≤ k1.toNatClampNeg ∧ k1.toNatClampNeg < 4928)) (h2 : ¬ (4904 ≤ k2.toNatClampNeg ∧ k2.toNatClampNeg < 4928)) (hf : Fx R m SCR σ ρ) (h0 : mI ρ 676 m = 0) : Ld R m x y (cC R m ρ k1.toNatClampNeg) (cC R m ρ k2.toNatClampNeg) σ (Z_X10_lay R (Z_X10_lay R ρ m x k1) m y k2) := by
  obtain ⟨a1, a2, a3⟩ := lay_ok (σ := ρ) (k1 := k1) hD hx
  obtain ⟨b1, b2, b3⟩ := lay_ok (σ := Z_X10_lay R ρ m x k1) (k1 := k2) hD hy
  have e2 : cC R m (Z_X10_lay R ρ m x k1) k2.toNatClampNeg = cC R m ρ k2.toNatClampNeg := a3.2.2.1 _ (fun z => h2 (mem_edg.mp z))
  rw [e2] at b1 b2
  refine ⟨by rw [b1, a1]; simp [h0], fun k hk => ?_, fx_tr (fx_w hf (fun _ h => se_s h)) (fx_tr (fx_w a3 (fun _ h => se_e h)) (fx_w b3 (fun _ h => se_e h)))⟩
  rw [b2, a2]
  have es : cC R m ρ (4904 + k) = cC R m σ (4904 + k) := hf.2.2.1 _ (by simp only [List.mem_cons, List.not_mem_nil, or_false]; omega)
  rw [es]
  have q1 : (4904 + k = 4904 + y.toNatClampNeg) = (k = y.toNatClampNeg) := by simp
  have q2 : (4904 + k = 4904 + x.toNatClampNeg) = (k = x.toNatClampNeg) := by simp
  simp only [q1, q2]
/-- the two sets as the condition c leaves them -/
def KCn (c : Int32) (a b : Tr) : Tr × Tr :=
  if c = 4 then K_eqP a b else if c = 5 then K_unP a b
  else if c = 12 then K_ord a b 1 else if c = 13 then swp (K_ord b a 0) else if c = 14 then K_ord a b 0 else if c = 15 then swp (K_ord b a 1)
  else if c = 2 then K_oru a b 1 else if c = 3 then swp (K_oru b a 0) else if c = 6 then K_oru a b 0 else if c = 7 then swp (K_oru b a 1) else (a, b)
theorem eq2_sw {P Q : Ce} {p : Tr × Tr} (h : EQ2 P Q p) : EQ2 Q P (swp p) := by
  rcases h with ⟨h1, h2⟩ | ⟨h1, h2, h3, h4⟩
  · exact Or.inl ⟨h1.symm, h2.symm⟩
  · exact Or.inr ⟨h2, h1, h4, h3⟩
end LAY
