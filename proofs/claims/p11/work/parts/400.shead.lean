def OrInv (t : Nat) (y : Int64) : Prop := t ≤ 63 ∧ y.toInt = ((2 ^ (63 - t) : Nat) : Int) - 1
theorem or_init : OrInv 63 0 := ⟨Nat.le_refl _, rfl⟩
theorem or_pos {t : Nat} {y w : Int64} (h : OrInv t y) (q : y < w) : 0 < t := by
  obtain ⟨h1, h2⟩ := h
  rcases Nat.eq_zero_or_pos t with e | e
  · subst e
    have h3 := Int64.lt_iff_toInt_lt.mp q
    have h4 := Int64.toInt_lt w
    have h5 : y.toInt = 9223372036854775807 := by rw [h2]; rfl
    omega
  · exact e
theorem or_dec {t : Nat} {y w : Int64} (h : OrInv t y) (q : y < w) : t - 1 < t := by
  have := or_pos h q
  omega
theorem or_nxt {t : Nat} {y w : Int64} (h : OrInv t y) (q : y < w) : OrInv (t - 1) (2 * y + 1) := by
  have hp := or_pos h q
  obtain ⟨h1, h2⟩ := h
  refine ⟨by omega, ?_⟩
  have e : 63 - (t - 1) = (63 - t) + 1 := by omega
  rw [e, Nat.pow_succ]
  have hb : (2 : Nat) ^ (63 - t) ≤ 2 ^ 62 := Nat.pow_le_pow_right (by decide) (by omega)
  have hb0 : (0 : Nat) < 2 ^ (63 - t) := Nat.pow_pos (by decide)
  generalize (2 : Nat) ^ (63 - t) = w at h2 hb hb0
  have hm : (2 * y).toInt = 2 * y.toInt := by
    rw [Int64.toInt_mul, show (2 : Int64).toInt = 2 from rfl, Int.bmod_eq_of_le (by rw [h2]; omega) (by rw [h2]; omega)]
  rw [Int64.toInt_add, hm, show (1 : Int64).toInt = 1 from rfl, h2, Int.bmod_eq_of_le (by omega) (by omega)]
  omega
theorem rg_div {a b lo hi : Int} {x : Int32} (hx : Rg a b x) {y : Int32} (ha : 0 ≤ a := by decide) (hy : 0 < y.toInt := by decide) (h1 : lo ≤ a / y.toInt := by decide) (h2 : b / y.toInt ≤ hi := by decide) : Rg lo hi (x / y) := by
  obtain ⟨x1, x2⟩ := hx
  have h0 : 0 ≤ x.toInt := Int.le_trans ha x1
  have hm := (rg_all x).2
  have hle : x.toInt / y.toInt ≤ x.toInt := Int.ediv_le_self _ h0
  have hge : 0 ≤ x.toInt / y.toInt := Int.ediv_nonneg h0 (Int.le_of_lt hy)
  have e : (x / y).toInt = x.toInt / y.toInt := by
    rw [Int32.toInt_div, Int.tdiv_eq_ediv_of_nonneg h0, bmod_in (by omega) (by omega)]
  rw [show Rg lo hi (x / y) = (lo ≤ (x / y).toInt ∧ (x / y).toInt ≤ hi) from rfl, e]
  exact ⟨Int.le_trans h1 (Int.ediv_le_ediv hy x1), Int.le_trans (Int.ediv_le_ediv hy x2) h2⟩
theorem in_rl {a b c d : Int} {v l u : Int64} (h : ¬ v < l ∧ ¬ u < v) (hl : Rl a b l) (hu : Rl c d u) : Rl a d v := by
  obtain ⟨h1, h2⟩ := h
  rw [Int64.lt_iff_toInt_lt] at h1 h2
  exact ⟨by have := hl.1; omega, by have := hu.2; omega⟩
theorem rg_of_l {a b : Int} {x : Int32} (h : Rl a b x.toInt64) : Rg a b x := by
  have e : x.toInt64.toInt = x.toInt := Int32.toInt_toInt64 x
  unfold Rl at h
  rw [e] at h
  exact h
theorem feed_rg {a b lo hi lo2 hi2 : Int} {c n s : Int32} (hc : Rg a b c) (q : c < n) (hn : Rg lo hi n) (hs2 : Rg lo2 hi2 (s + n)) (hs : Rg 0 200 s) (h1 : 0 ≤ a := by decide) (h2 : hi ≤ 16 := by decide) (h3 : hi2 ≤ 200 := by decide) (h4 : 0 ≤ lo := by decide) : Rg 0 199 (s + c) := by
  have hq := Int32.lt_iff_toInt_lt.mp q
  obtain ⟨c1, c2⟩ := hc
  obtain ⟨n1, n2⟩ := hn
  obtain ⟨s1, s2⟩ := hs
  obtain ⟨t1, t2⟩ := hs2
  rw [Int32.toInt_add, bmod_in (by omega) (by omega)] at t2
  have e : (s + c).toInt = s.toInt + c.toInt := by rw [Int32.toInt_add, bmod_in (by omega) (by omega)]
  exact ⟨by rw [e]; omega, by rw [e]; omega⟩
theorem ex_g {x y : Int32} {a b : Int} (h : Rg 19 22 x ∨ Rg 0 23 y) (hx : Rg a b x) (hb : b < 19 := by decide) : Rg 0 23 y := by
  rcases h with h | h
  · obtain ⟨h1, h2⟩ := h
    obtain ⟨x1, x2⟩ := hx
    omega
  · exact h
theorem gL_ne9 : ∀ (n : Nat) (x y : Int64), ¬ y = 0 → y.toInt.natAbs ≤ n → ¬ gL n x y = 0 := by
  intro n
  induction n with
  | zero =>
    intro x y hy hn
    exact absurd (Int64.toInt_inj.mp (by have : y.toInt = 0 := by omega
                                         rw [this]; rfl)) hy
  | succ n ih =>
    intro x y hy hn
    simp only [gL, hy, if_false]
    by_cases hr : x - x / y * y = 0
    · rw [hr, gL_0]
      exact hy
    · exact ih y _ hr (by have := lr_lt x y hy; omega)
theorem gJ_w9 (a : Int64) : ¬ gJ a 4294967296 = 0 := gL_ne9 _ _ _ (by decide) (Nat.le_refl _)
theorem cs_X10_gcd {xi : SX} {S : Hp} {E : List Nat} {kc nc : Nat} {P : Po} {y0 y2 : Int64} (hG : GI S E) (hP : ∀ r T x y, PV E [] S kc nc rJ (fun v T => T = S ∧ (y2 = 4294967296 → ∀ z, v = some (.long z) → ¬ z = 0)) [] r T x y → P r T x y) : TT xi M_X10_gcd 0 [(0, .long y0), (2, .long y2)] [] S kc nc P :=
  cm_gcd (hP _ _ _ _ ⟨hG, af_rf, Or.inl ⟨_, rfl, ⟨_, rfl⟩, ⟨rfl, fun e z q => by injection q with q; injection q with q; rw [← q, e]; exact gJ_w9 _⟩, rfl, rfl⟩⟩)
theorem bI_rg {p : Prop} [Decidable p] : Rg 0 1 (bI p) := by
  by_cases h : p
  · rw [bI_t h]; exact ⟨by decide, by decide⟩
  · rw [bI_f h]; exact ⟨by decide, by decide⟩
theorem cs_X10_isIn {xi : SX} {S : Hp} {E : List Nat} {kc nc : Nat} {P : Po} {y0 y2 y4 : Int64} (hG : GI S E) (hP : ∀ r T x y, PV E [] S kc nc (rI 0 1) (fun v T => T = S ∧ ∀ z, v = some (.int z) → (¬ z = 0 → ¬ y0 < y2 ∧ ¬ y4 < y0) ∧ (z = 0 → ¬ (¬ y0 < y2 ∧ ¬ y4 < y0))) [] r T x y → P r T x y) : TT xi M_X10_isIn 0 [(0, .long y0), (2, .long y2), (4, .long y4)] [] S kc nc P :=
  cm_isIn (hP _ _ _ _ ⟨hG, af_rf, Or.inl ⟨_, rfl, ⟨_, rfl, bI_rg⟩, ⟨rfl, fun z e => by injection e with e; injection e with e; rw [← e, bI_eq0]; exact ⟨Classical.not_not.mp, fun q => q⟩⟩, rfl, rfl⟩⟩)
