section LAW
variable {R : Nat → Nat → Nat} {σ τ ρ : SG} {m : Nat} {x y c x3 x5 x6 : Int32} {P Q P' Q' : Ce} {y7 : Int64} {n5 n6 : Nat}
theorem p126_z (hD : D4 R m) (hx : Rg (-1) 23 x) (hy : Rg (-1) 23 y) (h0 : mI σ 676 m = 0) : Ld R m x y (if x3 = 0 then P else Q) (if x3 = 0 then Q else P) σ (Z_X10_below_p126 R (W2 R m σ P Q) m x y x3) := by
  unfold Z_X10_below_p126
  by_cases c3 : x3 = 0
  · simp only [if_pos c3]
    have l := lay2 (k1 := 4850) (k2 := 4851) hD hx hy (by decide) (by decide) (w2_fx (σ := σ) (P := P) (Q := Q)) h0
    rw [c50, c51, w2_50 hD, w2_51 hD] at l
    exact l
  · simp only [if_neg c3]
    have l := lay2 (k1 := 4851) (k2 := 4850) hD hx hy (by decide) (by decide) (w2_fx (σ := σ) (P := P) (Q := Q)) h0
    rw [c50, c51, w2_50 hD, w2_51 hD] at l
    exact l
theorem p192_z (hD : D4 R m) (hx : Rg (-1) 23 x) (hy : Rg (-1) 23 y) (h0 : mI σ 676 m = 0) : Ld R m x y (if x3 = 0 then P else Q) (if x3 = 0 then Q else P) σ (Z_X10_lower_p192 R (W2 R m σ P Q) m x y x3) := p126_z hD hx hy h0
theorem w2_c {j : Nat} (h : j ≠ 4850 ∧ j ≠ 4851) : mi (W2 R m σ P Q) (R 643 m) j = (cC R m σ j).1 ∧ mj (W2 R m σ P Q) (R 644 m) j = (cC R m σ j).2.1 ∧ mj (W2 R m σ P Q) (R 645 m) j = (cC R m σ j).2.2.1 := ⟨congrArg (fun q => q.1) (w2_n (R := R) (m := m) (σ := σ) (P := P) (Q := Q) h), congrArg (fun q => q.2.1) (w2_n (R := R) (m := m) (σ := σ) (P := P) (Q := Q) h), congrArg (fun q => q.2.2.1) (w2_n (R := R) (m := m) (σ := σ) (P := P) (Q := Q) h)⟩
theorem b93 (hD : D4 R m) (h5 : x5.toNatClampNeg = n5) (h6 : x6.toNatClampNeg = n6) (k5 : n5 ≠ 4850 ∧ n5 ≠ 4851) (k6 : n6 ≠ 4850 ∧ n6 ≠ 4851) : Z_X10_below_p93 R (W2 R m σ P Q) m x y x3 x5 x6 y7 = Z_X10_below_p126 R (W2 R m σ P (if (cC R m σ n5).1 = 1 then J_cut Q (cC R m σ n6) 1 ((cC R m σ n5).2.1 + y7) 0 0 else Q)) m x y x3 := by
  obtain ⟨q1, q2, -⟩ := w2_c (R := R) (m := m) (σ := σ) (P := P) (Q := Q) k5
  have h : ∀ z, Z_X10_cut R (W2 R m σ P Q) m 4851 x6 1 z 0 0 = W2 R m σ P (J_cut Q (cC R m σ n6) 1 z 0 0) := fun z => by rw [zj_cut hD, c51, h6, w2_51 hD, w2_n k6, w2_Q]
  unfold Z_X10_below_p93
  simp only [h5, q1, q2, h]
  by_cases z : (cC R m σ n5).1 = 1
  · simp only [if_pos z]
  · simp only [if_neg z]
theorem b42 (hD : D4 R m) (h5 : x5.toNatClampNeg = n5) (h6 : x6.toNatClampNeg = n6) (k5 : n5 ≠ 4850 ∧ n5 ≠ 4851) (k6 : n6 ≠ 4850 ∧ n6 ≠ 4851) : Z_X10_below_p42 R σ m x y x3 x5 x6 y7 = Z_X10_below_p126 R (W2 R m σ (if (cC R m σ n6).1 = 1 then J_cut (cC R m σ n5) (cC R m σ n5) 0 0 1 ((cC R m σ n6).2.2.1 - y7) else cC R m σ n5) (if (cC R m σ n5).1 = 1 then J_cut (cC R m σ n6) (cC R m σ n6) 1 ((cC R m σ n5).2.1 + y7) 0 0 else cC R m σ n6)) m x y x3 := by
  have e0 : Z_X10_copy R (Z_X10_copy R σ m 4850 x5) m 4851 x6 = W2 R m σ (cC R m σ n5) (cC R m σ n6) := by
    rw [zj_copy hD, zj_copy hD, c50, c51, h5, h6, cC_wCn k6.1]; rfl
  obtain ⟨q1, q2, q3⟩ := w2_c (R := R) (m := m) (σ := σ) (P := cC R m σ n5) (Q := cC R m σ n6) k6
  have h : ∀ z, Z_X10_cut R (W2 R m σ (cC R m σ n5) (cC R m σ n6)) m 4850 x5 0 0 1 z = W2 R m σ (J_cut (cC R m σ n5) (cC R m σ n5) 0 0 1 z) (cC R m σ n6) := fun z => by rw [zj_cut hD, c50, h5, w2_50 hD, w2_n k5, w2_P]
  unfold Z_X10_below_p42
  simp only [e0, h6, q1, q3, h]
  by_cases z : (cC R m σ n6).1 = 1
  · simp only [if_pos z]
    rw [b93 hD h5 h6 k5 k6]
  · simp only [if_neg z]
    rw [b93 hD h5 h6 k5 k6]
theorem below_z {x4 : Int32} (hD : D4 R m) (hX : Gc (cC R m σ 4928)) (hY : Gc (cC R m σ 4929)) (hx : Rg (-1) 23 x) (hy : Rg (-1) 23 y) (h0 : mI σ 676 m = 0) (g : Int32) (hg : (x4 = 0 ∧ g = 0) ∨ (¬ x4 = 0 ∧ g = 1)) : ∃ P Q, EQ2 P Q (if x3 = 0 then K_ord (ab (cC R m σ 4928)) (ab (cC R m σ 4929)) g else swp (K_ord (ab (cC R m σ 4929)) (ab (cC R m σ 4928)) g)) ∧ Ld R m x y P Q σ (Z_X10_below R σ m x y x3 x4) := by
  unfold Z_X10_below Z_X10_below_p30
  have k8 : (4928 : Nat) ≠ 4850 ∧ (4928 : Nat) ≠ 4851 := by decide
  have k9 : (4929 : Nat) ≠ 4850 ∧ (4929 : Nat) ≠ 4851 := by decide
  by_cases c3 : x3 = 0
  · simp only [if_pos c3]
    have key : ∀ y7 : Int64, y7 = g.toInt64 → ∃ P Q, EQ2 P Q (K_ord (ab (cC R m σ 4928)) (ab (cC R m σ 4929)) g) ∧ Ld R m x y P Q σ (Z_X10_below_p42 R σ m x y x3 4928 4929 y7) := by
      intro y7 h7
      rw [b42 hD c28 c29 k8 k9]
      have l := p126_z (x3 := x3) (P := (if (cC R m σ 4929).1 = 1 then J_cut (cC R m σ 4928) (cC R m σ 4928) 0 0 1 ((cC R m σ 4929).2.2.1 - y7) else cC R m σ 4928)) (Q := (if (cC R m σ 4928).1 = 1 then J_cut (cC R m σ 4929) (cC R m σ 4929) 1 ((cC R m σ 4928).2.1 + y7) 0 0 else cC R m σ 4929)) hD hx hy h0
      rw [if_pos c3, if_pos c3] at l
      exact ⟨_, _, ord_ok hX hY h7, l⟩
    rcases hg with ⟨h4, rfl⟩ | ⟨h4, rfl⟩
    · simp only [if_pos h4]; exact key 0 rfl
    · simp only [if_neg h4]; exact key 1 rfl
  · simp only [if_neg c3]
    have key : ∀ y7 : Int64, y7 = g.toInt64 → ∃ P Q, EQ2 P Q (swp (K_ord (ab (cC R m σ 4929)) (ab (cC R m σ 4928)) g)) ∧ Ld R m x y P Q σ (Z_X10_below_p42 R σ m x y x3 4929 4928 y7) := by
      intro y7 h7
      rw [b42 hD c29 c28 k9 k8]
      have l := p126_z (x3 := x3) (P := (if (cC R m σ 4928).1 = 1 then J_cut (cC R m σ 4929) (cC R m σ 4929) 0 0 1 ((cC R m σ 4928).2.2.1 - y7) else cC R m σ 4929)) (Q := (if (cC R m σ 4929).1 = 1 then J_cut (cC R m σ 4928) (cC R m σ 4928) 1 ((cC R m σ 4929).2.1 + y7) 0 0 else cC R m σ 4928)) hD hx hy h0
      rw [if_neg c3, if_neg c3] at l
      exact ⟨_, _, eq2_sw (ord_ok hY hX h7), l⟩
    rcases hg with ⟨h4, rfl⟩ | ⟨h4, rfl⟩
    · simp only [if_pos h4]; exact key 0 rfl
    · simp only [if_neg h4]; exact key 1 rfl
end LAW
