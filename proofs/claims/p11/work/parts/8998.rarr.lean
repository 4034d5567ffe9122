/-! arriving, in the reference -/
def PXl (i : Nat) : List Nat := [4848, 4850, 4930] ++ (List.range 24).map (fun k => 24 * i + k)
theorem mem_px {i j : Nat} : j ∈ PXl i ↔ (j = 4848 ∨ j = 4850 ∨ j = 4930) ∨ (24 * i ≤ j ∧ j < 24 * i + 24) := by
  unfold PXl
  rw [List.mem_append, List.mem_map]
  constructor
  · rintro (h | ⟨k, hk, rfl⟩)
    · simp only [List.mem_cons, List.not_mem_nil, or_false] at h
      exact Or.inl h
    · have := List.mem_range.mp hk
      exact Or.inr ⟨by omega, by omega⟩
  · rintro (h | h)
    · exact Or.inl (by simp only [List.mem_cons, List.not_mem_nil, or_false]; exact h)
    · exact Or.inr ⟨j - 24 * i, List.mem_range.mpr (by omega), by omega⟩
def D8 (R : Nat → Nat → Nat) (m : Nat) : Prop := R 647 m ≠ R 648 m ∧ (R 647 m ≠ R 643 m ∧ R 647 m ≠ R 649 m ∧ R 647 m ≠ R 650 m ∧ R 647 m ≠ R 651 m) ∧ R 648 m ≠ R 643 m ∧ R 648 m ≠ R 649 m ∧ R 648 m ≠ R 650 m ∧ R 648 m ≠ R 651 m
theorem ix_24 {x4 x5 : Int32} {hi : Int} (h4 : Rg 0 199 x4) (h5 : Rg 0 hi x5) (hh : hi ≤ 100 := by decide) : (24 * x4 + x5).toNatClampNeg = 24 * x4.toNatClampNeg + x5.toNatClampNeg := by
  obtain ⟨a1, a2⟩ := h4
  obtain ⟨b1, b2⟩ := h5
  have e1 : (24 * x4).toInt = 24 * x4.toInt := by rw [Int32.toInt_mul, show (24 : Int32).toInt = 24 from rfl, bmod_in (by omega) (by omega)]
  have e2 : (24 * x4 + x5).toInt = 24 * x4.toInt + x5.toInt := by rw [Int32.toInt_add, e1, bmod_in (by omega) (by omega)]
  have c1 : (24 * x4 + x5).toNatClampNeg = (24 * x4 + x5).toInt.toNat := rfl
  have c2 : x4.toNatClampNeg = x4.toInt.toNat := rfl
  have c3 : x5.toNatClampNeg = x5.toInt.toNat := rfl
  rw [c1, c2, c3, e2]
  omega
def smF (c v : Ce) : Int32 := if c.1 = v.1 then (if c.1 = 1 then (if c.2.1 = v.2.1 then (if c.2.2.1 = v.2.2.1 then (if c.2.2.2 = v.2.2.2 then 1 else 0) else 0) else 0) else 1) else 0
theorem smF_ok {c v : Ce} (h1 : Gc c) (h2 : Gc v) : (smF c v = 0 ↔ ¬ ab v = ab c) := by
  have any : ∀ {u : Ce}, Vs u.2 → ¬ u.2 = tANY := fun h e => by
    have := h.2.2.2.1
    rw [e] at this
    exact absurd this (by decide)
  unfold smF
  rcases h1 with h1 | ⟨h1, v1⟩
  · rcases h2 with h2 | ⟨h2, v2⟩
    · rw [h1, h2, if_pos rfl, if_neg n21, ab_2 h1, ab_2 h2]
      exact ⟨fun h => absurd h n10, fun h => absurd rfl h⟩
    · rw [h1, h2, if_neg n21, ab_2 h1, ab_1 h2]
      exact ⟨fun _ => any v2, fun _ => rfl⟩
  · rcases h2 with h2 | ⟨h2, v2⟩
    · rw [h1, h2, if_neg n12, ab_1 h1, ab_2 h2]
      exact ⟨fun _ e => any v1 e.symm, fun _ => rfl⟩
    · rw [h1, h2, if_pos rfl, if_pos rfl, ab_1 h1, ab_1 h2]
      obtain ⟨s, l, u, d⟩ := c
      obtain ⟨s2, l2, u2, d2⟩ := v
      by_cases e1 : l = l2
      · by_cases e2 : u = u2
        · by_cases e3 : d = d2
          · subst e1; subst e2; subst e3
            simp
          · simp [e1, e2, e3, Ne.symm e3]
        · simp [e2, Ne.symm e2]
      · simp [e1, Ne.symm e1]
section RAR
variable {R : Nat → Nat → Nat} {σ τ ρ : SG} {m : Nat} {fr x4 x5 x6 : Int32}
theorem isSame_z {x1 x2 : Int32} : Z_X10_isSame R σ m x1 x2 = smF (cC R m σ x1.toNatClampNeg) (cC R m σ x2.toNatClampNeg) := rfl
theorem c48 : (4848 : Int32).toNatClampNeg = 4848 := rfl
theorem fin5 {f : (Nat → Nat → Nat) → SG → Nat → Int32 → Int32 → Int32 → Int32 → SG} {c v : Ce} {x1 x2 : Int32} (h1 : cC R m τ x1.toNatClampNeg = c) (h2 : cC R m τ x2.toNatClampNeg = v) (g1 : Gc c) (g2 : Gc v) (h5 : x5 = 0 ∨ x5 = 1) : ∃ y, (if x5 = 0 then (if Z_X10_isSame R τ m x1 x2 = 0 then f R τ m fr x4 1 (x6 + 1) else f R τ m fr x4 0 (x6 + 1)) else f R τ m fr x4 1 (x6 + 1)) = f R τ m fr x4 y (x6 + 1) ∧ (y = 0 ∨ y = 1) ∧ (y = 0 ↔ x5 = 0 ∧ ab v = ab c) := by
  rw [isSame_z, h1, h2]
  have s := smF_ok g1 g2
  rcases h5 with rfl | rfl
  · rw [if_pos rfl]
    by_cases z : smF c v = 0
    · rw [if_pos z]
      exact ⟨1, rfl, Or.inr rfl, fun q => absurd q n10, fun q => absurd q.2 (s.mp z)⟩
    · rw [if_neg z]
      have : ab v = ab c := Classical.byContradiction fun q => z (s.mpr q)
      exact ⟨0, rfl, Or.inl rfl, fun _ => ⟨rfl, this⟩, fun _ => rfl⟩
  · rw [if_neg n10]
    exact ⟨1, rfl, Or.inr rfl, fun q => absurd q n10, fun q => absurd q.1 n10⟩
theorem step96 {f : (Nat → Nat → Nat) → SG → Nat → Int32 → Int32 → Int32 → Int32 → SG} (hD : D4 R m) (hD8 : D8 R m) (h4 : Rg 0 199 x4) (h6 : Rg 0 23 x6) (gc : Gc (cC R m σ (24 * x4.toNatClampNeg + x6.toNatClampNeg))) (ge : Gc (cC R m σ (4904 + x6.toNatClampNeg))) (h5 : x5 = 0 ∨ x5 = 1) : ∃ τ y, Z_X10_arrive_p96_b f R σ m fr x4 x5 x6 = f R τ m fr x4 y (x6 + 1) ∧ (y = 0 ∨ y = 1) ∧ Fx R m [24 * x4.toNatClampNeg + x6.toNatClampNeg, 4848, 4850, 4930] σ τ ∧ mI τ = mI σ ∧ Gc (cC R m τ (24 * x4.toNatClampNeg + x6.toNatClampNeg)) ∧ ab (cC R m τ (24 * x4.toNatClampNeg + x6.toNatClampNeg)) = K_ab1 (wdn x4 fr (mi σ (R 647 m) x4.toNatClampNeg)) (ab (cC R m σ (24 * x4.toNatClampNeg + x6.toNatClampNeg))) (ab (cC R m σ (4904 + x6.toNatClampNeg))) ∧ (y = 0 ↔ x5 = 0 ∧ K_ab1 (wdn x4 fr (mi σ (R 647 m) x4.toNatClampNeg)) (ab (cC R m σ (24 * x4.toNatClampNeg + x6.toNatClampNeg))) (ab (cC R m σ (4904 + x6.toNatClampNeg))) = ab (cC R m σ (24 * x4.toNatClampNeg + x6.toNatClampNeg))) := by
  have n24 : ¬ 24 ≤ x6 := by rw [Int32.le_iff_toInt_le, show (24 : Int32).toInt = 24 from rfl]; have := h6.2; omega
  have iC := ix_24 h4 h6
  have iE : (4904 + x6).toNatClampNeg = 4904 + x6.toNatClampNeg := ix_add (b := 4904) (B := 4904) rfl h6
  have l4 : x4.toNatClampNeg < 200 := rg_cl h4
  have l6 := cl_23 h6
  generalize hK : 24 * x4.toNatClampNeg + x6.toNatClampNeg = K at *
  have lK : K < 4800 := by omega
  generalize hc : cC R m σ K = c at *
  generalize he : cC R m σ (4904 + x6.toNatClampNeg) = e at *
  unfold Z_X10_arrive_p96_b
  rw [if_neg n24]
  dsimp only
  have e1 : Z_X10_copy R σ m 4848 (24 * x4 + x6) = wC R m σ 4848 c := by rw [zj_copy hD, c48, iC, hc]
  rw [e1]
  have g647 : mi (wC R m σ 4848 c) (R 647 m) x4.toNatClampNeg = mi σ (R 647 m) x4.toNatClampNeg := by rw [mi_wC, if_neg (fun z => hD8.2.1.1 z.1)]
  rw [g647]
  have s1 : cC R m (wC R m σ 4848 c) 4848 = c := cC_wC hD
  have s2 : cC R m (wC R m σ 4848 c) (4904 + x6.toNatClampNeg) = e := by rw [cC_wCn (by omega), he]
  have fm : ∀ j, j = K ∨ j = 4848 ∨ j = 4850 ∨ j = 4930 → j ∈ [K, 4848, 4850, 4930] := fun j h => by simp only [List.mem_cons, List.not_mem_nil, or_false]; exact h
  have hV := vt_ab gc
  -- joined
  have J : wdn x4 fr (mi σ (R 647 m) x4.toNatClampNeg) = 0 → ∃ τ y, (if x5 = 0 then (if Z_X10_isSame R (Z_X10_copy R (Z_X10_join R (wC R m σ 4848 c) m 4850 4848 (4904 + x6)) m (24 * x4 + x6) 4850) m 4848 (24 * x4 + x6) = 0 then f R (Z_X10_copy R (Z_X10_join R (wC R m σ 4848 c) m 4850 4848 (4904 + x6)) m (24 * x4 + x6) 4850) m fr x4 1 (x6 + 1) else f R (Z_X10_copy R (Z_X10_join R (wC R m σ 4848 c) m 4850 4848 (4904 + x6)) m (24 * x4 + x6) 4850) m fr x4 0 (x6 + 1)) else f R (Z_X10_copy R (Z_X10_join R (wC R m σ 4848 c) m 4850 4848 (4904 + x6)) m (24 * x4 + x6) 4850) m fr x4 1 (x6 + 1)) = f R τ m fr x4 y (x6 + 1) ∧ (y = 0 ∨ y = 1) ∧ Fx R m [K, 4848, 4850, 4930] σ τ ∧ mI τ = mI σ ∧ Gc (cC R m τ K) ∧ ab (cC R m τ K) = K_ab1 (wdn x4 fr (mi σ (R 647 m) x4.toNatClampNeg)) (ab c) (ab e) ∧ (y = 0 ↔ x5 = 0 ∧ K_ab1 (wdn x4 fr (mi σ (R 647 m) x4.toNatClampNeg)) (ab c) (ab e) = ab c) := by
    intro hw
    obtain ⟨j1, j2⟩ := join_ok (c := cC R m (wC R m σ 4848 c) 4850) (t0 := tANY) gc ge
    have eJ1 : Z_X10_join R (wC R m σ 4848 c) m 4850 4848 (4904 + x6) = wC R m (wC R m σ 4848 c) 4850 (J_join (cC R m (wC R m σ 4848 c) 4850) c e) := by rw [zj_join hD, c50, c48, iE, s1, s2]
    rw [eJ1]
    generalize J_join (cC R m (wC R m σ 4848 c) 4850) c e = v at *
    have eC : Z_X10_copy R (wC R m (wC R m σ 4848 c) 4850 v) m (24 * x4 + x6) 4850 = wC R m (wC R m (wC R m σ 4848 c) 4850 v) K v := by rw [zj_copy hD, c50, iC, cC_wC hD]
    rw [eC, hw, ab1_eq hV, if_pos rfl, ← j2]
    have t1 : cC R m (wC R m (wC R m (wC R m σ 4848 c) 4850 v) K v) (4848 : Int32).toNatClampNeg = c := by rw [c48, cC_wCn (by omega), cC_wCn (by decide), cC_wC hD]
    have t2 : cC R m (wC R m (wC R m (wC R m σ 4848 c) 4850 v) K v) (24 * x4 + x6).toNatClampNeg = v := by rw [iC, cC_wC hD]
    obtain ⟨y, y1, y2, y3⟩ := fin5 (f := f) (fr := fr) (x4 := x4) (x6 := x6) t1 t2 gc j1 h5
    refine ⟨_, y, y1, y2, fx_tr (fx_wC (fm _ (by omega))) (fx_tr (fx_wC (fm _ (by omega))) (fx_wC (fm _ (by omega)))), rfl, ?_, ?_, y3⟩
    · rw [cC_wC hD]; exact j1
    · rw [cC_wC hD]
  by_cases c1 : fr < x4
  · rw [if_pos c1]
    exact J (by unfold wdn; rw [if_neg (Int32.not_le.mpr c1)])
  · rw [if_neg c1]
    have c1' := Int32.not_lt.mp c1
    by_cases c2 : mi σ (R 647 m) x4.toNatClampNeg < 3
    · rw [if_pos c2]
      exact J (by unfold wdn; rw [if_pos c1', if_pos c2])
    · rw [if_neg c2]
      have hw : wdn x4 fr (mi σ (R 647 m) x4.toNatClampNeg) = 1 := by unfold wdn; rw [if_pos c1', if_neg c2]
      obtain ⟨j1, j2⟩ := widen_ok (h := cC R m (wC R m σ 4848 c) 4930) (c := cC R m (wC R m σ 4848 c) K) (t0 := tANY) gc ge
      have eW : Z_X10_widen R (wC R m σ 4848 c) m (24 * x4 + x6) 4848 (4904 + x6) = wC R m (wC R m (wC R m σ 4848 c) 4930 (J_wide1 (J_join (cC R m (wC R m σ 4848 c) 4930) c e) (cC R m (wC R m σ 4848 c) K) c e)) K (J_wide1 (J_join (cC R m (wC R m σ 4848 c) 4930) c e) (cC R m (wC R m σ 4848 c) K) c e) := by
        rw [zj_widen hD (by rw [iC]; omega) (by rw [c48]; decide) (by rw [iE]; omega), iC, c48, iE, s1, s2]
      rw [eW, hw, ab1_eq hV, if_neg n10, ← j2]
      generalize J_wide1 (J_join (cC R m (wC R m σ 4848 c) 4930) c e) (cC R m (wC R m σ 4848 c) K) c e = v at *
      have t1 : cC R m (wC R m (wC R m (wC R m σ 4848 c) 4930 v) K v) (4848 : Int32).toNatClampNeg = c := by rw [c48, cC_wCn (by omega), cC_wCn (by decide), cC_wC hD]
      have t2 : cC R m (wC R m (wC R m (wC R m σ 4848 c) 4930 v) K v) (24 * x4 + x6).toNatClampNeg = v := by rw [iC, cC_wC hD]
      obtain ⟨y, y1, y2, y3⟩ := fin5 (f := f) (fr := fr) (x4 := x4) (x6 := x6) t1 t2 gc j1 h5
      refine ⟨_, y, y1, y2, fx_tr (fx_wC (fm _ (by omega))) (fx_tr (fx_wC (fm _ (by omega))) (fx_wC (fm _ (by omega)))), rfl, ?_, ?_, y3⟩
      · rw [cC_wC hD]; exact j1
      · rw [cC_wC hD]
end RAR
