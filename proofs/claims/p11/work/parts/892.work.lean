/-! the reference works on cells -/
def Fx (R : Nat → Nat → Nat) (m : Nat) (ks : List Nat) (σ τ : SG) : Prop := mJ τ = mJ σ ∧ (∀ k q, k ≠ 676 → mI τ k q = mI σ k q) ∧ (∀ j, j ∉ ks → cC R m τ j = cC R m σ j) ∧ (∀ a, a ≠ R 643 m → mi τ a = mi σ a) ∧ (∀ a, a ≠ R 644 m → a ≠ R 645 m → a ≠ R 646 m → mj τ a = mj σ a)
section FXS
variable {R : Nat → Nat → Nat} {σ τ υ : SG} {m k : Nat} {ks ls : List Nat} {c : Ce}
theorem fx_rf : Fx R m ks σ σ := ⟨rfl, fun _ _ _ => rfl, fun _ _ => rfl, fun _ _ => rfl, fun _ _ _ _ => rfl⟩
theorem fx_tr (h : Fx R m ks σ τ) (h2 : Fx R m ks τ υ) : Fx R m ks σ υ := ⟨h2.1.trans h.1, fun k q s => (h2.2.1 k q s).trans (h.2.1 k q s), fun j s => (h2.2.2.1 j s).trans (h.2.2.1 j s), fun a s => (h2.2.2.2.1 a s).trans (h.2.2.2.1 a s), fun a p q s => (h2.2.2.2.2 a p q s).trans (h.2.2.2.2 a p q s)⟩
theorem fx_w (h : Fx R m ks σ τ) (hs : ∀ j ∈ ks, j ∈ ls) : Fx R m ls σ τ := ⟨h.1, h.2.1, fun j q => h.2.2.1 j (fun z => q (hs j z)), h.2.2.2.1, h.2.2.2.2⟩
theorem fx_wC (hk : k ∈ ks) : Fx R m ks σ (wC R m σ k c) := by
  refine ⟨rfl, fun _ _ _ => rfl, fun j hj => cC_wCn (fun e => hj (e ▸ hk)), fun a ha => ?_, fun a h1 h2 h3 => ?_⟩
  · funext i; rw [mi_wC]; simp [ha]
  · funext i; rw [mj_wC]; simp [h1, h2, h3]
end FXS
abbrev SCR : List Nat := [4848, 4849, 4850, 4851, 4928, 4929, 4930, 4931]
def K_wk (op dt : Int32) (a b : Tr) : Tr := if op = 18 then K_takeSignedHalf b else if op = 14 then (if dt ≤ 30 then K_multiply tANY a (K_become tANY (1 <<< (dt.toInt64 &&& 63)) (1 <<< (dt.toInt64 &&& 63)) 0) else tANY) else K_operate tANY op a b dt
theorem gc_n0 {c : Ce} (h : Gc c) : ¬ c.1 = 0 := by rcases h with h | ⟨h, -⟩ <;> rw [h] <;> decide
section WKS
variable {R : Nat → Nat → Nat} {σ τ : SG} {m : Nat}
theorem more_ok (hD : D4 R m) (hL : Gc (cC R m σ 4848)) (hR : Gc (cC R m σ 4849)) (hdt : Rg 0 63 (mI σ 659 m)) (hop : mI σ 655 m = 14 ∨ mI σ 655 m = 15 ∨ mI σ 655 m = 16 ∨ mI σ 655 m = 17) : Gc (cC R m (Z_X10_workMore R σ m) 4850) ∧ ab (cC R m (Z_X10_workMore R σ m) 4850) = K_wk (mI σ 655 m) (mI σ 659 m) (ab (cC R m σ 4848)) (ab (cC R m σ 4849)) ∧ Fx R m SCR σ (Z_X10_workMore R σ m) := by
  have a1 : (4848 : Int32).toNatClampNeg = 4848 := rfl
  have a2 : (4849 : Int32).toNatClampNeg = 4849 := rfl
  have a3 : (4850 : Int32).toNatClampNeg = 4850 := rfl
  have a4 : (4931 : Int32).toNatClampNeg = 4931 := rfl
  unfold Z_X10_workMore K_wk
  rcases hop with h | h | h | h
  · rw [h]
    simp only [show ¬ (14 : Int32) = 18 by decide, ↓reduceIte]
    by_cases c : mI σ 659 m ≤ 30
    · simp only [c, ↓reduceIte]
      rw [zj_one hD, zj_times hD, a1, a3, a4, cC_wC hD, cC_wC hD, cC_wCn (by decide), cC_wCn (by decide)]
      obtain ⟨o1, o2⟩ := one_ok (c := cC R m σ 4931) (t0 := tANY) (v := 1 <<< ((mI σ 659 m).toInt64 &&& 63))
      obtain ⟨t1, t2⟩ := times_ok (c := cC R m σ 4850) (t0 := tANY) hL o1
      rw [o2] at t2
      exact ⟨t1, t2, fx_tr (fx_wC (by decide)) (fx_wC (by decide))⟩
    · simp only [c, ↓reduceIte]
      have n0 : ¬ mi σ (R 643 m) (4848 : Int32).toNatClampNeg = 0 := gc_n0 hL
      rw [if_neg n0, wC_s, a3, cC_wC hD]
      exact ⟨Or.inl rfl, rfl, fx_wC (by decide)⟩
  · rw [h]
    simp only [show ¬ (15 : Int32) = 18 by decide, show ¬ (15 : Int32) = 14 by decide, ↓reduceIte]
    rw [zj_shiftZero hD, a1, a3, cC_wC hD]
    obtain ⟨t1, t2⟩ := shz_ok (c := cC R m σ 4850) (t0 := tANY) hdt hL
    refine ⟨t1, t2.trans ?_, fx_wC (by decide)⟩
    unfold K_operate
    simp only [show ¬ (15 : Int32) = 0 by decide, show ¬ (15 : Int32) = 1 by decide, show ¬ (15 : Int32) = 2 by decide, show ¬ (15 : Int32) = 3 by decide, show ¬ (15 : Int32) = 4 by decide, show ¬ (15 : Int32) = 5 by decide, show ¬ (15 : Int32) = 6 by decide, show ¬ (15 : Int32) = 7 by decide, show ¬ (15 : Int32) = 8 by decide, show ¬ (15 : Int32) = 9 by decide, show ¬ (15 : Int32) = 10 by decide, show ¬ (15 : Int32) = 11 by decide, show ¬ (15 : Int32) = 12 by decide, show ¬ (15 : Int32) = 13 by decide, show ¬ (15 : Int32) = 14 by decide, ↓reduceIte]
  · rw [h]
    simp only [show ¬ (16 : Int32) = 18 by decide, show ¬ (16 : Int32) = 14 by decide, show ¬ (16 : Int32) = 15 by decide, ↓reduceIte]
    rw [zj_shiftDown hD, a1, a3, cC_wC hD]
    obtain ⟨t1, t2⟩ := shr_ok (c := cC R m σ 4850) (t0 := tANY) hdt hL
    refine ⟨t1, t2.trans ?_, fx_wC (by decide)⟩
    unfold K_operate
    simp
  · rw [h]
    simp only [show ¬ (17 : Int32) = 18 by decide, show ¬ (17 : Int32) = 14 by decide, show ¬ (17 : Int32) = 15 by decide, show ¬ (17 : Int32) = 16 by decide, ↓reduceIte]
    rw [zj_times hD, a1, a2, a3, cC_wC hD]
    obtain ⟨t1, t2⟩ := times_ok (c := cC R m σ 4850) (t0 := tANY) hL hR
    refine ⟨t1, t2.trans ?_, fx_wC (by decide)⟩
    unfold K_operate
    simp
theorem work_ok (hD : D4 R m) (hL : Gc (cC R m σ 4848)) (hR : Gc (cC R m σ 4849)) (hdt : Rg 0 63 (mI σ 659 m)) (hop : Rg 0 18 (mI σ 655 m)) (hn : ¬ mI σ 655 m = 2 ∧ ¬ mI σ 655 m = 3 ∧ ¬ mI σ 655 m = 7 ∧ ¬ mI σ 655 m = 8) : Gc (cC R m (Z_X10_work R σ m) 4850) ∧ ab (cC R m (Z_X10_work R σ m) 4850) = K_wk (mI σ 655 m) (mI σ 659 m) (ab (cC R m σ 4848)) (ab (cC R m σ 4849)) ∧ Fx R m SCR σ (Z_X10_work R σ m) := by
  have a1 : (4848 : Int32).toNatClampNeg = 4848 := rfl
  have a2 : (4849 : Int32).toNatClampNeg = 4849 := rfl
  have a3 : (4850 : Int32).toNatClampNeg = 4850 := rfl
  have a4 : (4931 : Int32).toNatClampNeg = 4931 := rfl
  obtain ⟨m2, m3, m7, m8⟩ := hn
  have hm := more_ok hD hL hR hdt
  unfold Z_X10_work
  by_cases h0 : mI σ 655 m = 0
  · rw [if_pos h0, h0, zj_add hD, a1, a2, a3, cC_wC hD]
    obtain ⟨t1, t2⟩ := add_ok (c := cC R m σ 4850) (t0 := tANY) hL hR
    exact ⟨t1, t2.trans (by unfold K_wk K_operate; simp), fx_wC (by decide)⟩
  rw [if_neg h0]
  by_cases h1 : mI σ 655 m = 1
  · have n6 : ¬ mI σ 655 m = 6 := by rw [h1]; decide
    rw [if_pos h1, if_neg n6, h1, zj_or hD, a1, a2, a3, cC_wC hD]
    obtain ⟨t1, t2⟩ := or_ok (c := cC R m σ 4850) (t0 := tANY) (x4 := 0) (x1 := 1) hL hR (Or.inl ⟨rfl, rfl⟩)
    exact ⟨t1, t2.trans (by unfold K_wk K_operate; simp), fx_wC (by decide)⟩
  rw [if_neg h1, if_neg m2, if_neg m3]
  by_cases h4 : mI σ 655 m = 4
  · rw [if_pos h4, h4, zj_and hD, a1, a2, a3, cC_wC hD]
    obtain ⟨t1, t2⟩ := and_ok (c := cC R m σ 4850) (t0 := tANY) hL hR
    exact ⟨t1, t2.trans (by unfold K_wk K_operate; simp), fx_wC (by decide)⟩
  rw [if_neg h4]
  by_cases h5 : mI σ 655 m = 5
  · rw [if_pos h5, h5, zj_subtract hD (by decide) (by decide), a1, a2, a3, cC_wC hD]
    obtain ⟨t1, t2⟩ := sub_ok (c := cC R m σ 4850) (h := cC R m σ 4930) (t0 := tANY) hL hR
    exact ⟨t1, t2.trans (by unfold K_wk K_operate; simp), fx_tr (fx_wC (by decide)) (fx_wC (by decide))⟩
  rw [if_neg h5]
  by_cases h6 : mI σ 655 m = 6
  · rw [if_pos h6, h6, zj_or hD, a1, a2, a3, cC_wC hD]
    obtain ⟨t1, t2⟩ := or_ok (c := cC R m σ 4850) (t0 := tANY) (x4 := 1) (x1 := 0) hL hR (Or.inr ⟨rfl, rfl⟩)
    exact ⟨t1, t2.trans (by unfold K_wk K_operate; simp), fx_wC (by decide)⟩
  rw [if_neg h6, if_neg m7, if_neg m8]
  by_cases h9 : mI σ 655 m = 9
  · have e9 : Z_X10_subtract R (Z_X10_one R σ m 4931 (-1)) m 4850 4931 4848 = wC R m (wC R m (wC R m σ 4931 (J_one (cC R m σ 4931) (-1))) 4930 (J_negate (cC R m σ 4930) (cC R m σ 4848))) 4850 (J_add (cC R m σ 4850) (J_one (cC R m σ 4931) (-1)) (J_negate (cC R m σ 4930) (cC R m σ 4848))) := by
      rw [zj_one hD, zj_subtract hD (by decide) (by decide), a1, a3, a4, cC_wC hD, cC_wCn (by decide), cC_wCn (by decide), cC_wCn (by decide)]
    rw [if_pos h9, h9]
    simp only [e9]
    rw [cC_wC hD]
    obtain ⟨t1, t2⟩ := not_ok (c := cC R m σ 4850) (h := cC R m σ 4930) (o := cC R m σ 4931) (t0 := tANY) hL
    exact ⟨t1, t2.trans (by unfold K_wk K_operate; simp), fx_tr (fx_wC (by decide)) (fx_tr (fx_wC (by decide)) (fx_wC (by decide)))⟩
  rw [if_neg h9]
  by_cases h10 : mI σ 655 m = 10
  · rw [if_pos h10, h10, zj_negate hD, a1, a3, cC_wC hD]
    obtain ⟨t1, t2⟩ := neg_eff (c := cC R m σ 4850) (t0 := tANY) hL
    exact ⟨t1, t2.trans (by unfold K_wk K_operate; simp), fx_wC (by decide)⟩
  rw [if_neg h10]
  by_cases h11 : mI σ 655 m = 11
  · rw [if_pos h11, h11, zj_add hD, a1, a2, a3, cC_wC hD]
    obtain ⟨t1, t2⟩ := add_ok (c := cC R m σ 4850) (t0 := tANY) hL hR
    exact ⟨t1, t2.trans (by unfold K_wk K_operate; simp), fx_wC (by decide)⟩
  rw [if_neg h11]
  by_cases h12 : mI σ 655 m = 12
  · rw [if_pos h12, h12, zj_subtract hD (by decide) (by decide), a1, a2, a3, cC_wC hD]
    obtain ⟨t1, t2⟩ := sub_ok (c := cC R m σ 4850) (h := cC R m σ 4930) (t0 := tANY) hL hR
    exact ⟨t1, t2.trans (by unfold K_wk K_operate; simp), fx_tr (fx_wC (by decide)) (fx_wC (by decide))⟩
  rw [if_neg h12]
  by_cases h13 : mI σ 655 m = 13
  · rw [if_pos h13, h13, zj_copy hD, a2, a3, cC_wC hD]
    exact ⟨hR, by unfold K_wk K_operate; simp [cp_t], fx_wC (by decide)⟩
  rw [if_neg h13]
  by_cases h14 : mI σ 655 m = 14
  · rw [if_pos h14]; exact hm (Or.inl h14)
  rw [if_neg h14]
  by_cases h15 : mI σ 655 m = 15
  · rw [if_pos h15]; exact hm (Or.inr (Or.inl h15))
  rw [if_neg h15]
  by_cases h16 : mI σ 655 m = 16
  · rw [if_pos h16]; exact hm (Or.inr (Or.inr (Or.inl h16)))
  rw [if_neg h16]
  by_cases h17 : mI σ 655 m = 17
  · rw [if_pos h17]; exact hm (Or.inr (Or.inr (Or.inr h17)))
  rw [if_neg h17]
  have h18 : mI σ 655 m = 18 := by
    have q : ∀ k : Int32, ¬ mI σ 655 m = k → ¬ (mI σ 655 m).toInt = k.toInt := fun k h e => h (Int32.toInt_inj.mp e)
    have b0 := q 0 h0
    have b1 := q 1 h1
    have b2 := q 2 m2
    have b3 := q 3 m3
    have b4 := q 4 h4
    have b5 := q 5 h5
    have b6 := q 6 h6
    have b7 := q 7 m7
    have b8 := q 8 m8
    have b9 := q 9 h9
    have b10 := q 10 h10
    have b11 := q 11 h11
    have b12 := q 12 h12
    have b13 := q 13 h13
    have b14 := q 14 h14
    have b15 := q 15 h15
    have b16 := q 16 h16
    have b17 := q 17 h17
    obtain ⟨r1, r2⟩ := hop
    apply Int32.toInt_inj.mp
    show _ = (18 : Int)
    change ¬ _ = (0 : Int) at b0
    change ¬ _ = (1 : Int) at b1
    change ¬ _ = (2 : Int) at b2
    change ¬ _ = (3 : Int) at b3
    change ¬ _ = (4 : Int) at b4
    change ¬ _ = (5 : Int) at b5
    change ¬ _ = (6 : Int) at b6
    change ¬ _ = (7 : Int) at b7
    change ¬ _ = (8 : Int) at b8
    change ¬ _ = (9 : Int) at b9
    change ¬ _ = (10 : Int) at b10
    change ¬ _ = (11 : Int) at b11
    change ¬ _ = (12 : Int) at b12
    change ¬ _ = (13 : Int) at b13
    change ¬ _ = (14 : Int) at b14
    change ¬ _ = (15 : Int) at b15
    change ¬ _ = (16 : Int) at b16
    change ¬ _ = (17 : Int) at b17
    omega
  rw [if_pos h18, h18, zj_signed hD, a2, a3, cC_wC hD]
  obtain ⟨t1, t2⟩ := signed_ok (c := cC R m σ 4850) hR
  exact ⟨t1, t2.trans (by unfold K_wk; simp), fx_wC (by decide)⟩
end WKS
