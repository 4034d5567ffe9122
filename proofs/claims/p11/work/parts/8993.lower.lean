section LAV
variable {R : Nat → Nat → Nat} {σ τ ρ : SG} {m : Nat} {x y c x3 x5 x6 : Int32} {P Q P' Q' : Ce} {y7 : Int64} {n5 n6 : Nat}
theorem ld_id (hX : Gc (cC R m σ 4928)) (hY : Gc (cC R m σ 4929)) (h0 : mI σ 676 m = 0) (eX : cC R m σ (4904 + x.toNatClampNeg) = cC R m σ 4928) (eY : ¬ y = -1 → cC R m σ (4904 + y.toNatClampNeg) = cC R m σ 4929) : Ld R m x y (cC R m σ 4928) (cC R m σ 4929) σ σ := by
  refine ⟨⟨fun _ => ⟨gc_n0 hX, gc_n0 hY⟩, fun _ => h0⟩, fun k hk => ?_, fx_rf⟩
  by_cases c1 : ¬ y = -1 ∧ k = y.toNatClampNeg
  · rw [if_pos c1, c1.2, eY c1.1]
  · rw [if_neg c1]
    by_cases c2 : ¬ x = -1 ∧ k = x.toNatClampNeg
    · rw [if_pos c2, c2.2, eX]
    · rw [if_neg c2]
theorem l42 (hD : D4 R m) (h5 : x5.toNatClampNeg = n5) (h6 : x6.toNatClampNeg = n6) (k5 : n5 ≠ 4850 ∧ n5 ≠ 4851) (k6 : n6 ≠ 4850 ∧ n6 ≠ 4851) (q6 : (cC R m σ n6).1 = 1) (l6 : ¬ (cC R m σ n6).2.1 < 0) : Z_X10_lower_p42 R σ m x y x3 x5 x6 y7 = Z_X10_lower_p192 R (W2 R m σ (if (cC R m σ n5).1 = 1 then J_cut (cC R m σ 4850) (cC R m σ n5) 1 0 1 ((cC R m σ n6).2.2.1 - y7) else if (cC R m σ n6).2.2.1 - y7 < 0 then (0, (cC R m σ 4850).2) else J_make (cC R m σ 4850) 1 0 ((cC R m σ n6).2.2.1 - y7) 1) (if (cC R m σ n5).1 = 1 then (if (cC R m σ n5).2.1 < 0 then cC R m σ n6 else J_cut (cC R m σ n6) (cC R m σ n6) 1 ((cC R m σ n5).2.1 + y7) 0 0) else cC R m σ n6)) m x y x3 := by
  have e0 : Z_X10_copy R σ m 4851 x6 = W2 R m σ (cC R m σ 4850) (cC R m σ n6) := by
    unfold W2; rw [zj_copy hD, c51, h6, wC_self]
  have m6 : mi σ (R 643 m) x6.toNatClampNeg = 1 := by rw [h6]; exact q6
  have m7 : ¬ mj σ (R 644 m) x6.toNatClampNeg < 0 := by rw [h6]; exact l6
  have q5 := fun P Q => w2_c (R := R) (m := m) (σ := σ) (P := P) (Q := Q) k5
  have q6' := fun P Q => w2_c (R := R) (m := m) (σ := σ) (P := P) (Q := Q) k6
  have hc : ∀ z, Z_X10_cut R (W2 R m σ (cC R m σ 4850) (cC R m σ n6)) m 4850 x5 1 0 1 z = W2 R m σ (J_cut (cC R m σ 4850) (cC R m σ n5) 1 0 1 z) (cC R m σ n6) := fun z => by rw [zj_cut hD, c50, h5, w2_50 hD, w2_n k5, w2_P]
  have hc2 : ∀ P z, Z_X10_cut R (W2 R m σ P (cC R m σ n6)) m 4851 x6 1 z 0 0 = W2 R m σ P (J_cut (cC R m σ n6) (cC R m σ n6) 1 z 0 0) := fun P z => by rw [zj_cut hD, c51, h6, w2_51 hD, w2_n k6, w2_Q]
  have hu : ui (W2 R m σ (cC R m σ 4850) (cC R m σ n6)) (R 643 m) (4850 : Int32).toNatClampNeg 0 = W2 R m σ (0, (cC R m σ 4850).2) (cC R m σ n6) := by rw [wC_s, c50, w2_50 hD, w2_P]
  have hm : ∀ z, Z_X10_make R (W2 R m σ (cC R m σ 4850) (cC R m σ n6)) m 4850 1 0 z 1 = W2 R m σ (J_make (cC R m σ 4850) 1 0 z 1) (cC R m σ n6) := fun z => by rw [zj_make hD, c50, w2_50 hD, w2_P]
  unfold Z_X10_lower_p42
  rw [if_pos m6, if_neg m7]
  simp only [e0, h5, h6, (q5 _ _).1, (q5 _ _).2.1, (q6' _ _).2.2, hc, hc2, hu, hm]
  by_cases z : (cC R m σ n5).1 = 1
  · simp only [if_pos z]
    by_cases z2 : (cC R m σ n5).2.1 < 0
    · simp only [if_pos z2]
    · simp only [if_neg z2]
  · simp only [if_neg z]
    by_cases z2 : (cC R m σ n6).2.2.1 - y7 < 0
    · simp only [if_pos z2]
    · simp only [if_neg z2]
theorem l42_0 (h6 : x6.toNatClampNeg = n6) (hn : ¬ ((cC R m σ n6).1 = 1 ∧ ¬ (cC R m σ n6).2.1 < 0)) : Z_X10_lower_p42 R σ m x y x3 x5 x6 y7 = σ := by
  unfold Z_X10_lower_p42
  by_cases q : mi σ (R 643 m) x6.toNatClampNeg = 1
  · rw [if_pos q]
    by_cases l : mj σ (R 644 m) x6.toNatClampNeg < 0
    · rw [if_pos l]
    · exfalso
      rw [h6] at q l
      exact hn ⟨q, l⟩
  · rw [if_neg q]
theorem nat_c {c : Ce} (h : Gc c) : ¬ K_isNatural (ab c) = 0 ↔ (c.1 = 1 ∧ ¬ c.2.1 < 0) := by
  rcases h with q | ⟨q, v⟩
  · constructor
    · intro z; exact absurd (by rw [ab_2 q]; rfl) z
    · intro z; rw [q] at z; exact absurd z.1 n21
  · rw [ab_1 q]
    constructor
    · intro z; exact ⟨q, fun w => z ((nat_v v).mpr w)⟩
    · intro z w; exact z.2 ((nat_v v).mp w)
theorem lower_z {x4 : Int32} (hD : D4 R m) (hX : Gc (cC R m σ 4928)) (hY : Gc (cC R m σ 4929)) (hx : Rg (-1) 23 x) (hy : Rg (-1) 23 y) (h0 : mI σ 676 m = 0) (eX : cC R m σ (4904 + x.toNatClampNeg) = cC R m σ 4928) (eY : ¬ y = -1 → cC R m σ (4904 + y.toNatClampNeg) = cC R m σ 4929) (g : Int32) (hg : (x4 = 0 ∧ g = 0) ∨ (¬ x4 = 0 ∧ g = 1)) : ∃ P Q, EQ2 P Q (if x3 = 0 then K_oru (ab (cC R m σ 4928)) (ab (cC R m σ 4929)) g else swp (K_oru (ab (cC R m σ 4929)) (ab (cC R m σ 4928)) g)) ∧ Ld R m x y P Q σ (Z_X10_lower R σ m x y x3 x4) := by
  unfold Z_X10_lower Z_X10_lower_p30
  have k8 : (4928 : Nat) ≠ 4850 ∧ (4928 : Nat) ≠ 4851 := by decide
  have k9 : (4929 : Nat) ≠ 4850 ∧ (4929 : Nat) ≠ 4851 := by decide
  have ident := ld_id hX hY h0 eX eY
  by_cases c3 : x3 = 0
  · simp only [if_pos c3]
    have key : ∀ y7 : Int64, y7 = g.toInt64 → ∃ P Q, EQ2 P Q (K_oru (ab (cC R m σ 4928)) (ab (cC R m σ 4929)) g) ∧ Ld R m x y P Q σ (Z_X10_lower_p42 R σ m x y x3 4928 4929 y7) := by
      intro y7 h7
      by_cases hn : K_isNatural (ab (cC R m σ 4929)) = 0
      · rw [l42_0 c29 (fun z => (nat_c hY).mpr z hn)]
        refine ⟨_, _, ?_, ident⟩
        unfold K_oru
        rw [if_pos hn]
        exact eq2_gn (gn_of hX) (gn_of hY) rfl rfl
      · obtain ⟨q6, l6⟩ := (nat_c hY).mp hn
        rw [l42 hD c28 c29 k8 k9 q6 l6]
        have l := p192_z (x3 := x3) (P := (if (cC R m σ 4928).1 = 1 then J_cut (cC R m σ 4850) (cC R m σ 4928) 1 0 1 ((cC R m σ 4929).2.2.1 - y7) else if (cC R m σ 4929).2.2.1 - y7 < 0 then (0, (cC R m σ 4850).2) else J_make (cC R m σ 4850) 1 0 ((cC R m σ 4929).2.2.1 - y7) 1)) (Q := (if (cC R m σ 4928).1 = 1 then (if (cC R m σ 4928).2.1 < 0 then cC R m σ 4929 else J_cut (cC R m σ 4929) (cC R m σ 4929) 1 ((cC R m σ 4928).2.1 + y7) 0 0) else cC R m σ 4929)) hD hx hy h0
        rw [if_pos c3, if_pos c3] at l
        exact ⟨_, _, oru_ok hX hY h7 hn, l⟩
    rcases hg with ⟨h4, rfl⟩ | ⟨h4, rfl⟩
    · simp only [if_pos h4]; exact key 0 rfl
    · simp only [if_neg h4]; exact key 1 rfl
  · simp only [if_neg c3]
    have key : ∀ y7 : Int64, y7 = g.toInt64 → ∃ P Q, EQ2 P Q (swp (K_oru (ab (cC R m σ 4929)) (ab (cC R m σ 4928)) g)) ∧ Ld R m x y P Q σ (Z_X10_lower_p42 R σ m x y x3 4929 4928 y7) := by
      intro y7 h7
      by_cases hn : K_isNatural (ab (cC R m σ 4928)) = 0
      · rw [l42_0 c28 (fun z => (nat_c hX).mpr z hn)]
        refine ⟨_, _, ?_, ident⟩
        unfold K_oru
        rw [if_pos hn]
        exact eq2_gn (gn_of hX) (gn_of hY) rfl rfl
      · obtain ⟨q6, l6⟩ := (nat_c hX).mp hn
        rw [l42 hD c29 c28 k9 k8 q6 l6]
        have l := p192_z (x3 := x3) (P := (if (cC R m σ 4929).1 = 1 then J_cut (cC R m σ 4850) (cC R m σ 4929) 1 0 1 ((cC R m σ 4928).2.2.1 - y7) else if (cC R m σ 4928).2.2.1 - y7 < 0 then (0, (cC R m σ 4850).2) else J_make (cC R m σ 4850) 1 0 ((cC R m σ 4928).2.2.1 - y7) 1)) (Q := (if (cC R m σ 4929).1 = 1 then (if (cC R m σ 4929).2.1 < 0 then cC R m σ 4928 else J_cut (cC R m σ 4928) (cC R m σ 4928) 1 ((cC R m σ 4929).2.1 + y7) 0 0) else cC R m σ 4928)) hD hx hy h0
        rw [if_neg c3, if_neg c3] at l
        exact ⟨_, _, eq2_sw (oru_ok hY hX h7 hn), l⟩
    rcases hg with ⟨h4, rfl⟩ | ⟨h4, rfl⟩
    · simp only [if_pos h4]; exact key 0 rfl
    · simp only [if_neg h4]; exact key 1 rfl
theorem compared_z (hD : D4 R m) (hX : Gc (cC R m σ 4928)) (hY : Gc (cC R m σ 4929)) (hx : Rg (-1) 23 x) (hy : Rg (-1) 23 y) (h0 : mI σ 676 m = 0) (eX : cC R m σ (4904 + x.toNatClampNeg) = cC R m σ 4928) (eY : ¬ y = -1 → cC R m σ (4904 + y.toNatClampNeg) = cC R m σ 4929) (hc : Rg 0 15 c) : ∃ P Q, EQ2 P Q (KCn c (ab (cC R m σ 4928)) (ab (cC R m σ 4929))) ∧ Ld R m x y P Q σ (Z_X10_compared R σ m x y c) := by
  have EQ := fun x3 => equal_z (x3 := x3) hD hX hY hx hy h0
  have BE := fun x3 x4 => below_z (x3 := x3) (x4 := x4) hD hX hY hx hy h0
  have LO := fun x3 x4 => lower_z (x3 := x3) (x4 := x4) hD hX hY hx hy h0 eX eY
  have ident := ld_id hX hY h0 eX eY
  have same : EQ2 (cC R m σ 4928) (cC R m σ 4929) (ab (cC R m σ 4928), ab (cC R m σ 4929)) := eq2_gn (gn_of hX) (gn_of hY) rfl rfl
  unfold Z_X10_compared KCn
  by_cases h4 : c = 4
  · simp only [if_pos h4]; have := EQ 1; simp only [n10, ↓reduceIte] at this; exact this
  by_cases h5 : c = 5
  · simp only [if_neg h4, if_pos h5]; have := EQ 0; simp only [↓reduceIte] at this; exact this
  simp only [if_neg h4, if_neg h5]
  by_cases h12 : c = 12
  · subst h12
    have := BE 0 1 1 (Or.inr ⟨n10, rfl⟩)
    simp only [↓reduceIte] at this
    simpa using this
  by_cases h13 : c = 13
  · subst h13
    have := BE 1 0 0 (Or.inl ⟨rfl, rfl⟩)
    simp only [n10, ↓reduceIte] at this
    simpa using this
  by_cases h14 : c = 14
  · subst h14
    have := BE 0 0 0 (Or.inl ⟨rfl, rfl⟩)
    simp only [↓reduceIte] at this
    simpa using this
  by_cases h15 : c = 15
  · subst h15
    have := BE 1 1 1 (Or.inr ⟨n10, rfl⟩)
    simp only [n10, ↓reduceIte] at this
    simpa using this
  have h11 : c ≤ 11 := by
    have q : ∀ k : Int32, c = k ↔ c.toInt = k.toInt := fun k => Int32.toInt_inj.symm
    rw [q, show (12 : Int32).toInt = 12 from rfl] at h12
    rw [q, show (13 : Int32).toInt = 13 from rfl] at h13
    rw [q, show (14 : Int32).toInt = 14 from rfl] at h14
    rw [q, show (15 : Int32).toInt = 15 from rfl] at h15
    rw [Int32.le_iff_toInt_le, show (11 : Int32).toInt = 11 from rfl]
    have := hc.2
    omega
  simp only [if_pos h11, if_neg h12, if_neg h13, if_neg h14, if_neg h15]
  by_cases h2 : c = 2
  · subst h2
    have := LO 0 1 1 (Or.inr ⟨n10, rfl⟩)
    simp only [↓reduceIte] at this
    simpa using this
  by_cases h3 : c = 3
  · subst h3
    have := LO 1 0 0 (Or.inl ⟨rfl, rfl⟩)
    simp only [n10, ↓reduceIte] at this
    simpa using this
  by_cases h6 : c = 6
  · subst h6
    have := LO 0 0 0 (Or.inl ⟨rfl, rfl⟩)
    simp only [↓reduceIte] at this
    simpa using this
  by_cases h7 : c = 7
  · subst h7
    have := LO 1 1 1 (Or.inr ⟨n10, rfl⟩)
    simp only [n10, ↓reduceIte] at this
    simpa using this
  simp only [if_neg h2, if_neg h3, if_neg h6, if_neg h7]
  exact ⟨_, _, same, ident⟩
end LAV
