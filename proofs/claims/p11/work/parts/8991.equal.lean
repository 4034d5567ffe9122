section LAZ
variable {R : Nat → Nat → Nat} {σ τ ρ : SG} {m : Nat} {x y k1 k2 c : Int32} {P Q P' Q' : Ce}
def W2 (R : Nat → Nat → Nat) (m : Nat) (σ : SG) (P Q : Ce) : SG := wC R m (wC R m σ 4850 P) 4851 Q
theorem c50 : (4850 : Int32).toNatClampNeg = 4850 := rfl
theorem c51 : (4851 : Int32).toNatClampNeg = 4851 := rfl
theorem c28 : (4928 : Int32).toNatClampNeg = 4928 := rfl
theorem c29 : (4929 : Int32).toNatClampNeg = 4929 := rfl
theorem w2_n {j : Nat} (h : j ≠ 4850 ∧ j ≠ 4851) : cC R m (W2 R m σ P Q) j = cC R m σ j := by unfold W2; rw [cC_wCn h.2, cC_wCn h.1]
theorem w2_50 (hD : D4 R m) : cC R m (W2 R m σ P Q) 4850 = P := by unfold W2; rw [cC_wCn (by decide), cC_wC hD]
theorem w2_51 (hD : D4 R m) : cC R m (W2 R m σ P Q) 4851 = Q := by unfold W2; rw [cC_wC hD]
theorem w2_Q : wC R m (W2 R m σ P Q) 4851 Q' = W2 R m σ P Q' := wC_wC
theorem mJ_wC {k : Nat} {c : Ce} : mJ (wC R m σ k c) = mJ σ := rfl
theorem mI_wC {k : Nat} {c : Ce} : mI (wC R m σ k c) = mI σ := rfl
theorem wC_comm {i j : Nat} {c d : Ce} (h : i ≠ j) : wC R m (wC R m σ i c) j d = wC R m (wC R m σ j d) i c := by
  refine sg_ext2 (by rw [mJ_wC, mJ_wC, mJ_wC, mJ_wC]) (fun a n => ?_) (by rw [mI_wC, mI_wC, mI_wC, mI_wC]) (fun a n => ?_)
  · simp only [mj_wC]
    by_cases z : n = i
    · have z2 : ¬ n = j := fun e => h (z.symm.trans e)
      simp only [z2, and_false, ↓reduceIte]
    · simp only [z, and_false, ↓reduceIte]
  · simp only [mi_wC]
    by_cases z : n = i
    · have z2 : ¬ n = j := fun e => h (z.symm.trans e)
      simp only [z2, and_false, ↓reduceIte]
    · simp only [z, and_false, ↓reduceIte]
theorem w2_P : wC R m (W2 R m σ P Q) 4850 P' = W2 R m σ P' Q := by
  unfold W2
  rw [wC_comm (i := 4850) (j := 4851) (show (4850 : Nat) ≠ 4851 by decide), wC_wC, wC_comm (i := 4851) (j := 4850) (show (4851 : Nat) ≠ 4850 by decide)]
theorem w2_fx : Fx R m SCR σ (W2 R m σ P Q) := fx_tr (fx_wC (by decide)) (fx_wC (by decide))
theorem w2_28 : cC R m (W2 R m σ P Q) 4928 = cC R m σ 4928 := w2_n (by decide)
theorem w2_29 : cC R m (W2 R m σ P Q) 4929 = cC R m σ 4929 := w2_n (by decide)
theorem base292 (hD : D4 R m) (hx : Rg (-1) 23 x) (hy : Rg (-1) 23 y) (h0 : mI σ 676 m = 0) : Ld R m x y P Q σ (Z_X10_equal_p292 R (W2 R m σ P Q) m x y) := by
  have l := lay2 (k1 := 4850) (k2 := 4851) hD hx hy (by decide) (by decide) (w2_fx (σ := σ) (P := P) (Q := Q)) h0
  rw [c50, c51, w2_50 hD, w2_51 hD] at l
  exact l
theorem e52 (hD : D4 R m) : Z_X10_equal_p52 R (W2 R m σ P Q) m x y = if J_isOne (cC R m σ 4928) = 0 then Z_X10_equal_p292 R (W2 R m σ P Q) m x y else Z_X10_equal_p292 R (W2 R m σ P (J_without Q (cC R m σ 4929) (cC R m σ 4928).2.1)) m x y := by
  have h1 : Z_X10_isOne R (W2 R m σ P Q) m 4928 = J_isOne (cC R m σ 4928) := by rw [zj_isOne hD, c28, w2_28]
  have h2 : mj (W2 R m σ P Q) (R 644 m) (4928 : Int32).toNatClampNeg = (cC R m σ 4928).2.1 := congrArg (fun q => q.2.1) (w2_28 (R := R) (m := m) (σ := σ) (P := P) (Q := Q))
  have h3 : Z_X10_without R (W2 R m σ P Q) m 4851 4929 (cC R m σ 4928).2.1 = W2 R m σ P (J_without Q (cC R m σ 4929) (cC R m σ 4928).2.1) := by rw [zj_without hD (by decide), c51, c29, w2_51 hD, w2_29, w2_Q]
  unfold Z_X10_equal_p52
  simp only [h1, h2, h3]
theorem e131 (hD : D4 R m) : Z_X10_equal_p131 R (W2 R m σ P Q) m x y = if J_isOne (cC R m σ 4928) = 0 then Z_X10_equal_p292 R (W2 R m σ P Q) m x y else Z_X10_equal_p292 R (W2 R m σ P (J_only Q (cC R m σ 4929) (cC R m σ 4928).2.1)) m x y := by
  have h1 : Z_X10_isOne R (W2 R m σ P Q) m 4928 = J_isOne (cC R m σ 4928) := by rw [zj_isOne hD, c28, w2_28]
  have h2 : mj (W2 R m σ P Q) (R 644 m) (4928 : Int32).toNatClampNeg = (cC R m σ 4928).2.1 := congrArg (fun q => q.2.1) (w2_28 (R := R) (m := m) (σ := σ) (P := P) (Q := Q))
  have h3 : Z_X10_only R (W2 R m σ P Q) m 4851 4929 (cC R m σ 4928).2.1 = W2 R m σ P (J_only Q (cC R m σ 4929) (cC R m σ 4928).2.1) := by rw [zj_only hD, c51, c29, w2_51 hD, w2_29, w2_Q]
  unfold Z_X10_equal_p131
  simp only [h1, h2, h3]
theorem e103 (hD : D4 R m) : Z_X10_equal_p103 R (W2 R m σ P Q) m x y = if J_isOne (cC R m σ 4929) = 0 then Z_X10_equal_p131 R (W2 R m σ P Q) m x y else Z_X10_equal_p131 R (W2 R m σ (J_only P (cC R m σ 4928) (cC R m σ 4929).2.1) Q) m x y := by
  have h1 : Z_X10_isOne R (W2 R m σ P Q) m 4929 = J_isOne (cC R m σ 4929) := by rw [zj_isOne hD, c29, w2_29]
  have h2 : mj (W2 R m σ P Q) (R 644 m) (4929 : Int32).toNatClampNeg = (cC R m σ 4929).2.1 := congrArg (fun q => q.2.1) (w2_29 (R := R) (m := m) (σ := σ) (P := P) (Q := Q))
  have h3 : Z_X10_only R (W2 R m σ P Q) m 4850 4928 (cC R m σ 4929).2.1 = W2 R m σ (J_only P (cC R m σ 4928) (cC R m σ 4929).2.1) Q := by rw [zj_only hD, c50, c28, w2_50 hD, w2_28, w2_P]
  unfold Z_X10_equal_p103
  simp only [h1, h2, h3]
theorem e227 (hD : D4 R m) : Z_X10_equal_p227 R (W2 R m σ P Q) m x y = if (cC R m σ 4928).1 = 1 then (if (cC R m σ 4929).1 = 2 then Z_X10_equal_p292 R (W2 R m σ P (cC R m σ 4928)) m x y else Z_X10_equal_p292 R (W2 R m σ P (J_cut Q (cC R m σ 4929) 1 (cC R m σ 4928).2.1 1 (cC R m σ 4928).2.2.1)) m x y) else Z_X10_equal_p292 R (W2 R m σ P Q) m x y := by
  have h1 : mi (W2 R m σ P Q) (R 643 m) (4928 : Int32).toNatClampNeg = (cC R m σ 4928).1 := congrArg (fun q => q.1) (w2_28 (R := R) (m := m) (σ := σ) (P := P) (Q := Q))
  have h2 : mi (W2 R m σ P Q) (R 643 m) (4929 : Int32).toNatClampNeg = (cC R m σ 4929).1 := congrArg (fun q => q.1) (w2_29 (R := R) (m := m) (σ := σ) (P := P) (Q := Q))
  have h3 : mj (W2 R m σ P Q) (R 644 m) (4928 : Int32).toNatClampNeg = (cC R m σ 4928).2.1 := congrArg (fun q => q.2.1) (w2_28 (R := R) (m := m) (σ := σ) (P := P) (Q := Q))
  have h4 : mj (W2 R m σ P Q) (R 645 m) (4928 : Int32).toNatClampNeg = (cC R m σ 4928).2.2.1 := congrArg (fun q => q.2.2.1) (w2_28 (R := R) (m := m) (σ := σ) (P := P) (Q := Q))
  have h5 : Z_X10_copy R (W2 R m σ P Q) m 4851 4928 = W2 R m σ P (cC R m σ 4928) := by rw [zj_copy hD, c51, c28, w2_28, w2_Q]
  have h6 : Z_X10_cut R (W2 R m σ P Q) m 4851 4929 1 (cC R m σ 4928).2.1 1 (cC R m σ 4928).2.2.1 = W2 R m σ P (J_cut Q (cC R m σ 4929) 1 (cC R m σ 4928).2.1 1 (cC R m σ 4928).2.2.1) := by rw [zj_cut hD, c51, c29, w2_51 hD, w2_29, w2_Q]
  unfold Z_X10_equal_p227
  simp only [h1, h2, h3, h4, h5, h6]
theorem e162 (hD : D4 R m) : Z_X10_equal_p162 R (W2 R m σ P Q) m x y = if (cC R m σ 4929).1 = 1 then (if (cC R m σ 4928).1 = 2 then Z_X10_equal_p227 R (W2 R m σ (cC R m σ 4929) Q) m x y else Z_X10_equal_p227 R (W2 R m σ (J_cut P (cC R m σ 4928) 1 (cC R m σ 4929).2.1 1 (cC R m σ 4929).2.2.1) Q) m x y) else Z_X10_equal_p227 R (W2 R m σ P Q) m x y := by
  have h1 : mi (W2 R m σ P Q) (R 643 m) (4928 : Int32).toNatClampNeg = (cC R m σ 4928).1 := congrArg (fun q => q.1) (w2_28 (R := R) (m := m) (σ := σ) (P := P) (Q := Q))
  have h2 : mi (W2 R m σ P Q) (R 643 m) (4929 : Int32).toNatClampNeg = (cC R m σ 4929).1 := congrArg (fun q => q.1) (w2_29 (R := R) (m := m) (σ := σ) (P := P) (Q := Q))
  have h3 : mj (W2 R m σ P Q) (R 644 m) (4929 : Int32).toNatClampNeg = (cC R m σ 4929).2.1 := congrArg (fun q => q.2.1) (w2_29 (R := R) (m := m) (σ := σ) (P := P) (Q := Q))
  have h4 : mj (W2 R m σ P Q) (R 645 m) (4929 : Int32).toNatClampNeg = (cC R m σ 4929).2.2.1 := congrArg (fun q => q.2.2.1) (w2_29 (R := R) (m := m) (σ := σ) (P := P) (Q := Q))
  have h5 : Z_X10_copy R (W2 R m σ P Q) m 4850 4929 = W2 R m σ (cC R m σ 4929) Q := by rw [zj_copy hD, c50, c29, w2_29, w2_P]
  have h6 : Z_X10_cut R (W2 R m σ P Q) m 4850 4928 1 (cC R m σ 4929).2.1 1 (cC R m σ 4929).2.2.1 = W2 R m σ (J_cut P (cC R m σ 4928) 1 (cC R m σ 4929).2.1 1 (cC R m σ 4929).2.2.1) Q := by rw [zj_cut hD, c50, c28, w2_50 hD, w2_28, w2_P]
  unfold Z_X10_equal_p162
  simp only [h1, h2, h3, h4, h5, h6]
theorem eq0 {x3 : Int32} (hD : D4 R m) : Z_X10_equal R σ m x y x3 = if x3 = 0 then (if J_isOne (cC R m σ 4929) = 0 then Z_X10_equal_p52 R (W2 R m σ (cC R m σ 4928) (cC R m σ 4929)) m x y else Z_X10_equal_p52 R (W2 R m σ (J_without (cC R m σ 4928) (cC R m σ 4928) (cC R m σ 4929).2.1) (cC R m σ 4929)) m x y) else (if J_isOne (cC R m σ 4929) = 0 then (if J_isOne (cC R m σ 4928) = 0 then Z_X10_equal_p162 R (W2 R m σ (cC R m σ 4928) (cC R m σ 4929)) m x y else Z_X10_equal_p103 R (W2 R m σ (cC R m σ 4928) (cC R m σ 4929)) m x y) else Z_X10_equal_p103 R (W2 R m σ (cC R m σ 4928) (cC R m σ 4929)) m x y) := by
  have h0 : Z_X10_copy R (Z_X10_copy R σ m 4850 4928) m 4851 4929 = W2 R m σ (cC R m σ 4928) (cC R m σ 4929) := by
    rw [zj_copy hD, zj_copy hD, c50, c51, c28, c29, cC_wCn (by decide)]; rfl
  have h1 : Z_X10_isOne R (W2 R m σ (cC R m σ 4928) (cC R m σ 4929)) m 4928 = J_isOne (cC R m σ 4928) := by rw [zj_isOne hD, c28, w2_28]
  have h2 : Z_X10_isOne R (W2 R m σ (cC R m σ 4928) (cC R m σ 4929)) m 4929 = J_isOne (cC R m σ 4929) := by rw [zj_isOne hD, c29, w2_29]
  have h3 : mj (W2 R m σ (cC R m σ 4928) (cC R m σ 4929)) (R 644 m) (4929 : Int32).toNatClampNeg = (cC R m σ 4929).2.1 := congrArg (fun q => q.2.1) (w2_29 (R := R) (m := m) (σ := σ) (P := cC R m σ 4928) (Q := cC R m σ 4929))
  have h4 : Z_X10_without R (W2 R m σ (cC R m σ 4928) (cC R m σ 4929)) m 4850 4928 (cC R m σ 4929).2.1 = W2 R m σ (J_without (cC R m σ 4928) (cC R m σ 4928) (cC R m σ 4929).2.1) (cC R m σ 4929) := by rw [zj_without hD (by decide), c50, c28, w2_50 hD, w2_28, w2_P]
  unfold Z_X10_equal
  simp only [h0, h1, h2, h3, h4]
theorem equal_z {x3 : Int32} (hD : D4 R m) (hX : Gc (cC R m σ 4928)) (hY : Gc (cC R m σ 4929)) (hx : Rg (-1) 23 x) (hy : Rg (-1) 23 y) (h0 : mI σ 676 m = 0) : ∃ P Q, EQ2 P Q (if x3 = 0 then K_unP (ab (cC R m σ 4928)) (ab (cC R m σ 4929)) else K_eqP (ab (cC R m σ 4928)) (ab (cC R m σ 4929))) ∧ Ld R m x y P Q σ (Z_X10_equal R σ m x y x3) := by
  rw [eq0 hD]
  have b : ∀ P Q, Ld R m x y P Q σ (Z_X10_equal_p292 R (W2 R m σ P Q) m x y) := fun P Q => base292 hD hx hy h0
  by_cases c3 : x3 = 0
  · rw [if_pos c3, if_pos c3]
    have u := uneq_ok (c := cC R m σ 4928) (d := cC R m σ 4929) hX hY
    refine ⟨_, _, u, ?_⟩
    by_cases oY : J_isOne (cC R m σ 4929) = 0
    · rw [if_pos oY, if_pos oY, e52 hD]
      by_cases oX : J_isOne (cC R m σ 4928) = 0
      · rw [if_pos oX, if_pos oX]; exact b _ _
      · rw [if_neg oX, if_neg oX]; exact b _ _
    · rw [if_neg oY, if_neg oY, e52 hD]
      by_cases oX : J_isOne (cC R m σ 4928) = 0
      · rw [if_pos oX, if_pos oX]; exact b _ _
      · rw [if_neg oX, if_neg oX]; exact b _ _
  · rw [if_neg c3, if_neg c3]
    have u := eq_ok (c := cC R m σ 4928) (d := cC R m σ 4929) hX hY
    refine ⟨_, _, u, ?_⟩
    by_cases oY : J_isOne (cC R m σ 4929) = 0
    · by_cases oX : J_isOne (cC R m σ 4928) = 0
      · have cc : J_isOne (cC R m σ 4929) = 0 ∧ J_isOne (cC R m σ 4928) = 0 := ⟨oY, oX⟩
        simp only [if_pos oY, if_pos oX, if_pos cc, e162 hD, e227 hD]
        by_cases qY : (cC R m σ 4929).1 = 1
        · simp only [if_pos qY]
          have qY2 : ¬ (cC R m σ 4929).1 = 2 := by rw [qY]; exact n12
          by_cases qX2 : (cC R m σ 4928).1 = 2
          · have qX : ¬ (cC R m σ 4928).1 = 1 := by rw [qX2]; exact n21
            simp only [if_pos qX2, if_neg qX]; exact b _ _
          · have qX : (cC R m σ 4928).1 = 1 := by rcases hX with z | ⟨z, -⟩; exact absurd z qX2; exact z
            simp only [if_neg qX2, if_pos qX, if_neg qY2]; exact b _ _
        · simp only [if_neg qY]
          have qY2 : (cC R m σ 4929).1 = 2 := by rcases hY with z | ⟨z, -⟩; exact z; exact absurd z qY
          by_cases qX : (cC R m σ 4928).1 = 1
          · simp only [if_pos qX, if_pos qY2]; exact b _ _
          · simp only [if_neg qX]; exact b _ _
      · have nc : ¬ (J_isOne (cC R m σ 4929) = 0 ∧ J_isOne (cC R m σ 4928) = 0) := fun z => oX z.2
        simp only [if_pos oY, if_neg oX, if_neg nc, e103 hD, e131 hD]; exact b _ _
    · have nc : ¬ (J_isOne (cC R m σ 4929) = 0 ∧ J_isOne (cC R m σ 4928) = 0) := fun z => oY z.1
      simp only [if_neg oY, if_neg nc, e103 hD, e131 hD]
      by_cases oX : J_isOne (cC R m σ 4928) = 0
      · simp only [if_pos oX]; exact b _ _
      · simp only [if_neg oX]; exact b _ _
end LAZ
