section GOA
variable {R : Nat → Nat → Nat} {σ τ ρ : SG} {m : Nat} {x y c : Int32} {P Q : Ce} {r : Rc}
theorem loc_24 {x4 : Int32} (hx : Rg 0 24 x4) : (24 ≤ x4 → x4.toNatClampNeg = 24) ∧ (¬ 24 ≤ x4 → Rg 0 23 x4) := by
  constructor
  · intro h
    have hle := Int32.le_iff_toInt_le.mp h
    rw [show (24 : Int32).toInt = 24 from rfl] at hle
    have := cl_in hx
    have := hx.2
    omega
  · intro h
    exact rg_lt_l hx (⟨by decide, by decide⟩ : Rg 24 24 24) (Int32.not_le.mp h)
/-- NOW is copied to EDGE -/
theorem cp_loop (hD : D4 R m) : ∀ (fu : Nat) (σ : SG) (x2 : Int32), Rg 0 24 x2 → (24 - x2.toInt).toNat < fu → ∃ ρ, Z_X10_goAlong_p7 fu R σ m c x2 = Z_X10_goAlong_p33 R ρ m c ∧ mI ρ = mI σ ∧ Fx R m EDG σ ρ ∧ ∀ k, k < 24 → cC R m ρ (4904 + k) = if x2.toNatClampNeg ≤ k then cC R m σ (4856 + k) else cC R m σ (4904 + k) := by
  intro fu
  induction fu with
  | zero => intro σ x2 _ h; exact absurd h (Nat.not_lt_zero _)
  | succ fu ih =>
    intro σ x2 hx hf
    have e0 : Z_X10_goAlong_p7 (fu + 1) R σ m c x2 = Z_X10_goAlong_p7_b (Z_X10_goAlong_p7 fu) R σ m c x2 := rfl
    rw [e0]
    unfold Z_X10_goAlong_p7_b
    by_cases h24 : 24 ≤ x2
    · rw [if_pos h24]
      have ec := (loc_24 hx).1 h24
      exact ⟨σ, rfl, rfl, fx_rf, fun k hk => by rw [ec, if_neg (by omega)]⟩
    · rw [if_neg h24]
      have hx2 := (loc_24 hx).2 h24
      obtain ⟨u1, u2⟩ := cl_up hx2
      have i1 : (4904 + x2).toNatClampNeg = 4904 + x2.toNatClampNeg := ix_add (b := 4904) (B := 4904) rfl hx2
      have i2 : (4856 + x2).toNatClampNeg = 4856 + x2.toNatClampNeg := ix_add (b := 4856) (B := 4856) rfl hx2
      have lt := cl_23 hx2
      simp only [zj_copy hD, i1, i2]
      obtain ⟨ρ, r1, r2, r3, r4⟩ := ih (wC R m σ (4904 + x2.toNatClampNeg) (cC R m σ (4856 + x2.toNatClampNeg))) (x2 + 1) u2 (lp_fu hf hx2)
      refine ⟨ρ, r1, r2, fx_tr (fx_wC (mem_edg.mpr ⟨by omega, by omega⟩)) r3, fun k hk => ?_⟩
      rw [r4 k hk, u1]
      by_cases ek : k = x2.toNatClampNeg
      · subst ek
        rw [if_neg (by omega), if_pos (Nat.le_refl _), cC_wC hD]
      · by_cases c1 : x2.toNatClampNeg ≤ k
        · rw [if_pos (by omega), if_pos c1, cC_wCn (by omega)]
        · rw [if_neg (by omega), if_neg c1, cC_wCn (by omega)]
/-- no set from n on is none -/
def AllE (R : Nat → Nat → Nat) (m : Nat) (σ : SG) (n : Nat) : Prop := ∀ k, n ≤ k → k < 24 → ¬ (cC R m σ (4904 + k)).1 = 0
theorem all_loop : ∀ (fu : Nat) (x3 x4 : Int32), Rg 0 24 x4 → (24 - x4.toInt).toNat < fu → (x3 = 0 ∨ x3 = 1) → (Z_X10_goAlong_p244 fu R σ m x3 x4).1 = σ ∧ (x3 = 1 → AllE R m σ x4.toNatClampNeg → (Z_X10_goAlong_p244 fu R σ m x3 x4).2 = 1) ∧ (¬ (x3 = 1 ∧ AllE R m σ x4.toNatClampNeg) → (Z_X10_goAlong_p244 fu R σ m x3 x4).2 = 0) := by
  intro fu
  induction fu with
  | zero => intro x3 x4 _ h; exact absurd h (Nat.not_lt_zero _)
  | succ fu ih =>
    intro x3 x4 hx hf h3
    have e0 : Z_X10_goAlong_p244 (fu + 1) R σ m x3 x4 = Z_X10_goAlong_p244_b (Z_X10_goAlong_p244 fu) R σ m x3 x4 := rfl
    rw [e0]
    unfold Z_X10_goAlong_p244_b
    by_cases h24 : 24 ≤ x4
    · rw [if_pos h24]
      have ec := (loc_24 hx).1 h24
      refine ⟨rfl, fun h _ => h, fun h => ?_⟩
      rcases h3 with h3 | h3
      · exact h3
      · exact absurd ⟨h3, fun k h1 h2 => by omega⟩ h
    · rw [if_neg h24]
      have hx2 := (loc_24 hx).2 h24
      obtain ⟨u1, u2⟩ := cl_up hx2
      have i1 : (4904 + x4).toNatClampNeg = 4904 + x4.toNatClampNeg := ix_add (b := 4904) (B := 4904) rfl hx2
      have lt := cl_23 hx2
      have em : mi σ (R 643 m) (4904 + x4).toNatClampNeg = (cC R m σ (4904 + x4.toNatClampNeg)).1 := by rw [i1]; rfl
      rw [em]
      obtain ⟨a1, -, a2⟩ := ih 0 (x4 + 1) u2 (lp_fu hf hx2) (Or.inl rfl)
      obtain ⟨b1, b2, b3⟩ := ih 1 (x4 + 1) u2 (lp_fu hf hx2) (Or.inr rfl)
      have a3 := a2 (fun z => absurd z.1 (by decide))
      rcases h3 with rfl | rfl
      · rw [if_pos rfl]
        exact ⟨a1, fun h => absurd h (by decide), fun _ => a3⟩
      · rw [if_neg n10]
        by_cases z : (cC R m σ (4904 + x4.toNatClampNeg)).1 = 0
        · rw [if_pos z]
          exact ⟨a1, fun _ h => absurd z (h _ (Nat.le_refl _) lt), fun _ => a3⟩
        · rw [if_neg z]
          have iff : AllE R m σ x4.toNatClampNeg ↔ AllE R m σ (x4 + 1).toNatClampNeg := by
            rw [u1]
            constructor
            · intro h k h1 h2; exact h k (by omega) h2
            · intro h k h1 h2
              by_cases ek : k = x4.toNatClampNeg
              · rw [ek]; exact z
              · exact h k (by omega) h2
          exact ⟨b1, fun h1 h2 => b2 rfl (iff.mp h2), fun h => b3 (fun q => h ⟨rfl, iff.mpr q.2⟩)⟩
theorem p228_ok : (Z_X10_goAlong_p228 R σ m).1 = σ ∧ (mI σ 676 m = 0 → AllE R m σ 0 → (Z_X10_goAlong_p228 R σ m).2 = 1) ∧ (¬ (mI σ 676 m = 0 ∧ AllE R m σ 0) → (Z_X10_goAlong_p228 R σ m).2 = 0) := by
  unfold Z_X10_goAlong_p228
  by_cases c : mI σ 676 m = 0
  · rw [if_pos c]
    obtain ⟨a, b, d⟩ := all_loop (R := R) (m := m) (σ := σ) 25 1 0 ⟨by decide, by decide⟩ (by decide) (Or.inr rfl)
    exact ⟨a, fun _ h => b rfl h, fun h => d (fun q => h ⟨c, q.2⟩)⟩
  · rw [if_neg c]
    obtain ⟨a, b, d⟩ := all_loop (R := R) (m := m) (σ := σ) 25 0 0 ⟨by decide, by decide⟩ (by decide) (Or.inl rfl)
    exact ⟨a, fun h => absurd h c, fun _ => d (fun q => absurd q.1 (by decide))⟩
/-- the class's narrowing, by the reference's condition -/
def KRn (c rc : Int32) (a b : Tr) : Tr × Tr := if c = 4 then K_eqP a b else if c = 5 then K_unP a b else if rc = 1 then KCn c a b else if c = 8 then (K_cut a (-9223372036854775808) (-1), b) else if c = 9 then (K_cut a 0 9223372036854775807, b) else (a, b)
def kr9 (c h : Int32) : Prop := ∀ rc a b, K_n82 (c &&& 14) (K_so c h) rc a b = KRn (if h = 1 then c else c ^^^ 1) rc a b
theorem kr_0_0 : kr9 0 0 := by
  intro rc a b
  have e1 : (((0 : Int32) &&& 14)) = 0 := rfl
  have e2 : K_so 0 0 = 0 := rfl
  have e3 : (if (0 : Int32) = 1 then (0 : Int32) else 0 ^^^ 1) = 1 := rfl
  rw [e1, e2, e3]
  unfold K_n82 KRn KCn K_cmp
  simp
theorem kr_1_0 : kr9 1 0 := by
  intro rc a b
  have e1 : (((1 : Int32) &&& 14)) = 0 := rfl
  have e2 : K_so 1 0 = 1 := rfl
  have e3 : (if (0 : Int32) = 1 then (1 : Int32) else 1 ^^^ 1) = 0 := rfl
  rw [e1, e2, e3]
  unfold K_n82 KRn KCn K_cmp
  simp
theorem kr_2_0 : kr9 2 0 := by
  intro rc a b
  have e1 : (((2 : Int32) &&& 14)) = 2 := rfl
  have e2 : K_so 2 0 = 0 := rfl
  have e3 : (if (0 : Int32) = 1 then (2 : Int32) else 2 ^^^ 1) = 3 := rfl
  rw [e1, e2, e3]
  unfold K_n82 KRn KCn K_cmp
  simp
theorem kr_3_0 : kr9 3 0 := by
  intro rc a b
  have e1 : (((3 : Int32) &&& 14)) = 2 := rfl
  have e2 : K_so 3 0 = 1 := rfl
  have e3 : (if (0 : Int32) = 1 then (3 : Int32) else 3 ^^^ 1) = 2 := rfl
  rw [e1, e2, e3]
  unfold K_n82 KRn KCn K_cmp
  simp
theorem kr_4_0 : kr9 4 0 := by
  intro rc a b
  have e1 : (((4 : Int32) &&& 14)) = 4 := rfl
  have e2 : K_so 4 0 = 0 := rfl
  have e3 : (if (0 : Int32) = 1 then (4 : Int32) else 4 ^^^ 1) = 5 := rfl
  rw [e1, e2, e3]
  unfold K_n82 KRn KCn K_cmp
  simp
theorem kr_5_0 : kr9 5 0 := by
  intro rc a b
  have e1 : (((5 : Int32) &&& 14)) = 4 := rfl
  have e2 : K_so 5 0 = 1 := rfl
  have e3 : (if (0 : Int32) = 1 then (5 : Int32) else 5 ^^^ 1) = 4 := rfl
  rw [e1, e2, e3]
  unfold K_n82 KRn KCn K_cmp
  simp
theorem kr_6_0 : kr9 6 0 := by
  intro rc a b
  have e1 : (((6 : Int32) &&& 14)) = 6 := rfl
  have e2 : K_so 6 0 = 0 := rfl
  have e3 : (if (0 : Int32) = 1 then (6 : Int32) else 6 ^^^ 1) = 7 := rfl
  rw [e1, e2, e3]
  unfold K_n82 KRn KCn K_cmp
  simp
theorem kr_7_0 : kr9 7 0 := by
  intro rc a b
  have e1 : (((7 : Int32) &&& 14)) = 6 := rfl
  have e2 : K_so 7 0 = 1 := rfl
  have e3 : (if (0 : Int32) = 1 then (7 : Int32) else 7 ^^^ 1) = 6 := rfl
  rw [e1, e2, e3]
  unfold K_n82 KRn KCn K_cmp
  simp
theorem kr_8_0 : kr9 8 0 := by
  intro rc a b
  have e1 : (((8 : Int32) &&& 14)) = 8 := rfl
  have e2 : K_so 8 0 = 0 := rfl
  have e3 : (if (0 : Int32) = 1 then (8 : Int32) else 8 ^^^ 1) = 9 := rfl
  rw [e1, e2, e3]
  unfold K_n82 KRn KCn K_cmp
  simp
theorem kr_9_0 : kr9 9 0 := by
  intro rc a b
  have e1 : (((9 : Int32) &&& 14)) = 8 := rfl
  have e2 : K_so 9 0 = 1 := rfl
  have e3 : (if (0 : Int32) = 1 then (9 : Int32) else 9 ^^^ 1) = 8 := rfl
  rw [e1, e2, e3]
  unfold K_n82 KRn KCn K_cmp
  simp
theorem kr_10_0 : kr9 10 0 := by
  intro rc a b
  have e1 : (((10 : Int32) &&& 14)) = 10 := rfl
  have e2 : K_so 10 0 = 0 := rfl
  have e3 : (if (0 : Int32) = 1 then (10 : Int32) else 10 ^^^ 1) = 11 := rfl
  rw [e1, e2, e3]
  unfold K_n82 KRn KCn K_cmp
  simp
theorem kr_11_0 : kr9 11 0 := by
  intro rc a b
  have e1 : (((11 : Int32) &&& 14)) = 10 := rfl
  have e2 : K_so 11 0 = 1 := rfl
  have e3 : (if (0 : Int32) = 1 then (11 : Int32) else 11 ^^^ 1) = 10 := rfl
  rw [e1, e2, e3]
  unfold K_n82 KRn KCn K_cmp
  simp
theorem kr_12_0 : kr9 12 0 := by
  intro rc a b
  have e1 : (((12 : Int32) &&& 14)) = 12 := rfl
  have e2 : K_so 12 0 = 0 := rfl
  have e3 : (if (0 : Int32) = 1 then (12 : Int32) else 12 ^^^ 1) = 13 := rfl
  rw [e1, e2, e3]
  unfold K_n82 KRn KCn K_cmp
  simp
theorem kr_13_0 : kr9 13 0 := by
  intro rc a b
  have e1 : (((13 : Int32) &&& 14)) = 12 := rfl
  have e2 : K_so 13 0 = 1 := rfl
  have e3 : (if (0 : Int32) = 1 then (13 : Int32) else 13 ^^^ 1) = 12 := rfl
  rw [e1, e2, e3]
  unfold K_n82 KRn KCn K_cmp
  simp
theorem kr_14_0 : kr9 14 0 := by
  intro rc a b
  have e1 : (((14 : Int32) &&& 14)) = 14 := rfl
  have e2 : K_so 14 0 = 0 := rfl
  have e3 : (if (0 : Int32) = 1 then (14 : Int32) else 14 ^^^ 1) = 15 := rfl
  rw [e1, e2, e3]
  unfold K_n82 KRn KCn K_cmp
  simp
theorem kr_15_0 : kr9 15 0 := by
  intro rc a b
  have e1 : (((15 : Int32) &&& 14)) = 14 := rfl
  have e2 : K_so 15 0 = 1 := rfl
  have e3 : (if (0 : Int32) = 1 then (15 : Int32) else 15 ^^^ 1) = 14 := rfl
  rw [e1, e2, e3]
  unfold K_n82 KRn KCn K_cmp
  simp
theorem kr_0_1 : kr9 0 1 := by
  intro rc a b
  have e1 : (((0 : Int32) &&& 14)) = 0 := rfl
  have e2 : K_so 0 1 = 1 := rfl
  have e3 : (if (1 : Int32) = 1 then (0 : Int32) else 0 ^^^ 1) = 0 := rfl
  rw [e1, e2, e3]
  unfold K_n82 KRn KCn K_cmp
  simp
theorem kr_1_1 : kr9 1 1 := by
  intro rc a b
  have e1 : (((1 : Int32) &&& 14)) = 0 := rfl
  have e2 : K_so 1 1 = 0 := rfl
  have e3 : (if (1 : Int32) = 1 then (1 : Int32) else 1 ^^^ 1) = 1 := rfl
  rw [e1, e2, e3]
  unfold K_n82 KRn KCn K_cmp
  simp
theorem kr_2_1 : kr9 2 1 := by
  intro rc a b
  have e1 : (((2 : Int32) &&& 14)) = 2 := rfl
  have e2 : K_so 2 1 = 1 := rfl
  have e3 : (if (1 : Int32) = 1 then (2 : Int32) else 2 ^^^ 1) = 2 := rfl
  rw [e1, e2, e3]
  unfold K_n82 KRn KCn K_cmp
  simp
theorem kr_3_1 : kr9 3 1 := by
  intro rc a b
  have e1 : (((3 : Int32) &&& 14)) = 2 := rfl
  have e2 : K_so 3 1 = 0 := rfl
  have e3 : (if (1 : Int32) = 1 then (3 : Int32) else 3 ^^^ 1) = 3 := rfl
  rw [e1, e2, e3]
  unfold K_n82 KRn KCn K_cmp
  simp
theorem kr_4_1 : kr9 4 1 := by
  intro rc a b
  have e1 : (((4 : Int32) &&& 14)) = 4 := rfl
  have e2 : K_so 4 1 = 1 := rfl
  have e3 : (if (1 : Int32) = 1 then (4 : Int32) else 4 ^^^ 1) = 4 := rfl
  rw [e1, e2, e3]
  unfold K_n82 KRn KCn K_cmp
  simp
theorem kr_5_1 : kr9 5 1 := by
  intro rc a b
  have e1 : (((5 : Int32) &&& 14)) = 4 := rfl
  have e2 : K_so 5 1 = 0 := rfl
  have e3 : (if (1 : Int32) = 1 then (5 : Int32) else 5 ^^^ 1) = 5 := rfl
  rw [e1, e2, e3]
  unfold K_n82 KRn KCn K_cmp
  simp
theorem kr_6_1 : kr9 6 1 := by
  intro rc a b
  have e1 : (((6 : Int32) &&& 14)) = 6 := rfl
  have e2 : K_so 6 1 = 1 := rfl
  have e3 : (if (1 : Int32) = 1 then (6 : Int32) else 6 ^^^ 1) = 6 := rfl
  rw [e1, e2, e3]
  unfold K_n82 KRn KCn K_cmp
  simp
theorem kr_7_1 : kr9 7 1 := by
  intro rc a b
  have e1 : (((7 : Int32) &&& 14)) = 6 := rfl
  have e2 : K_so 7 1 = 0 := rfl
  have e3 : (if (1 : Int32) = 1 then (7 : Int32) else 7 ^^^ 1) = 7 := rfl
  rw [e1, e2, e3]
  unfold K_n82 KRn KCn K_cmp
  simp
theorem kr_8_1 : kr9 8 1 := by
  intro rc a b
  have e1 : (((8 : Int32) &&& 14)) = 8 := rfl
  have e2 : K_so 8 1 = 1 := rfl
  have e3 : (if (1 : Int32) = 1 then (8 : Int32) else 8 ^^^ 1) = 8 := rfl
  rw [e1, e2, e3]
  unfold K_n82 KRn KCn K_cmp
  simp
theorem kr_9_1 : kr9 9 1 := by
  intro rc a b
  have e1 : (((9 : Int32) &&& 14)) = 8 := rfl
  have e2 : K_so 9 1 = 0 := rfl
  have e3 : (if (1 : Int32) = 1 then (9 : Int32) else 9 ^^^ 1) = 9 := rfl
  rw [e1, e2, e3]
  unfold K_n82 KRn KCn K_cmp
  simp
theorem kr_10_1 : kr9 10 1 := by
  intro rc a b
  have e1 : (((10 : Int32) &&& 14)) = 10 := rfl
  have e2 : K_so 10 1 = 1 := rfl
  have e3 : (if (1 : Int32) = 1 then (10 : Int32) else 10 ^^^ 1) = 10 := rfl
  rw [e1, e2, e3]
  unfold K_n82 KRn KCn K_cmp
  simp
theorem kr_11_1 : kr9 11 1 := by
  intro rc a b
  have e1 : (((11 : Int32) &&& 14)) = 10 := rfl
  have e2 : K_so 11 1 = 0 := rfl
  have e3 : (if (1 : Int32) = 1 then (11 : Int32) else 11 ^^^ 1) = 11 := rfl
  rw [e1, e2, e3]
  unfold K_n82 KRn KCn K_cmp
  simp
theorem kr_12_1 : kr9 12 1 := by
  intro rc a b
  have e1 : (((12 : Int32) &&& 14)) = 12 := rfl
  have e2 : K_so 12 1 = 1 := rfl
  have e3 : (if (1 : Int32) = 1 then (12 : Int32) else 12 ^^^ 1) = 12 := rfl
  rw [e1, e2, e3]
  unfold K_n82 KRn KCn K_cmp
  simp
theorem kr_13_1 : kr9 13 1 := by
  intro rc a b
  have e1 : (((13 : Int32) &&& 14)) = 12 := rfl
  have e2 : K_so 13 1 = 0 := rfl
  have e3 : (if (1 : Int32) = 1 then (13 : Int32) else 13 ^^^ 1) = 13 := rfl
  rw [e1, e2, e3]
  unfold K_n82 KRn KCn K_cmp
  simp
theorem kr_14_1 : kr9 14 1 := by
  intro rc a b
  have e1 : (((14 : Int32) &&& 14)) = 14 := rfl
  have e2 : K_so 14 1 = 1 := rfl
  have e3 : (if (1 : Int32) = 1 then (14 : Int32) else 14 ^^^ 1) = 14 := rfl
  rw [e1, e2, e3]
  unfold K_n82 KRn KCn K_cmp
  simp
theorem kr_15_1 : kr9 15 1 := by
  intro rc a b
  have e1 : (((15 : Int32) &&& 14)) = 14 := rfl
  have e2 : K_so 15 1 = 0 := rfl
  have e3 : (if (1 : Int32) = 1 then (15 : Int32) else 15 ^^^ 1) = 15 := rfl
  rw [e1, e2, e3]
  unfold K_n82 KRn KCn K_cmp
  simp
theorem kr_ok {c h : Int32} (hc : Rg 0 15 c) (hh : h = 0 ∨ h = 1) : kr9 c h := by
  have key : c.toInt = 0 ∨ c.toInt = 1 ∨ c.toInt = 2 ∨ c.toInt = 3 ∨ c.toInt = 4 ∨ c.toInt = 5 ∨ c.toInt = 6 ∨ c.toInt = 7 ∨ c.toInt = 8 ∨ c.toInt = 9 ∨ c.toInt = 10 ∨ c.toInt = 11 ∨ c.toInt = 12 ∨ c.toInt = 13 ∨ c.toInt = 14 ∨ c.toInt = 15 := by
    obtain ⟨a, b⟩ := hc
    omega
  have q : ∀ k : Int32, c.toInt = k.toInt → kr9 k h → kr9 c h := fun k e z => Int32.toInt_inj.mp e ▸ z
  rcases hh with rfl | rfl
  · rcases key with e | e | e | e | e | e | e | e | e | e | e | e | e | e | e | e
    · exact q 0 e kr_0_0
    · exact q 1 e kr_1_0
    · exact q 2 e kr_2_0
    · exact q 3 e kr_3_0
    · exact q 4 e kr_4_0
    · exact q 5 e kr_5_0
    · exact q 6 e kr_6_0
    · exact q 7 e kr_7_0
    · exact q 8 e kr_8_0
    · exact q 9 e kr_9_0
    · exact q 10 e kr_10_0
    · exact q 11 e kr_11_0
    · exact q 12 e kr_12_0
    · exact q 13 e kr_13_0
    · exact q 14 e kr_14_0
    · exact q 15 e kr_15_0
  · rcases key with e | e | e | e | e | e | e | e | e | e | e | e | e | e | e | e
    · exact q 0 e kr_0_1
    · exact q 1 e kr_1_1
    · exact q 2 e kr_2_1
    · exact q 3 e kr_3_1
    · exact q 4 e kr_4_1
    · exact q 5 e kr_5_1
    · exact q 6 e kr_6_1
    · exact q 7 e kr_7_1
    · exact q 8 e kr_8_1
    · exact q 9 e kr_9_1
    · exact q 10 e kr_10_1
    · exact q 11 e kr_11_1
    · exact q 12 e kr_12_1
    · exact q 13 e kr_13_1
    · exact q 14 e kr_14_1
    · exact q 15 e kr_15_1
end GOA
