/-! sets that are sound, and that both say the same of them -/
abbrev tNO : Tr := (0, 0, -2)
def Vs (t : Tr) : Prop := -2305843009213693952 ≤ t.1.toInt ∧ t.1.toInt ≤ t.2.1.toInt ∧ t.2.1.toInt ≤ 2305843009213693952 ∧ 0 ≤ t.2.2.toInt ∧ t.2.2.toInt ∣ t.2.1.toInt - t.1.toInt ∧ (t.2.2.toInt = 0 ↔ t.1 = t.2.1)
def Vt (t : Tr) : Prop := t = tANY ∨ Vs t
def Gc (c : Ce) : Prop := c.1 = 2 ∨ (c.1 = 1 ∧ Vs c.2)
def Gn (c : Ce) : Prop := c.1 = 0 ∨ Gc c
def ab (c : Ce) : Tr := if c.1 = 2 then tANY else if c.1 = 0 then tNO else c.2
theorem ab_2 {c : Ce} (h : c.1 = 2) : ab c = tANY := by unfold ab; rw [if_pos h]
theorem ab_0 {c : Ce} (h : c.1 = 0) : ab c = tNO := by unfold ab; rw [h]; rfl
theorem ab_1 {c : Ce} (h : c.1 = 1) : ab c = c.2 := by unfold ab; rw [h]; rfl
theorem vt_ab {c : Ce} (h : Gc c) : Vt (ab c) := by
  rcases h with h | ⟨h, h2⟩
  · exact Or.inl (ab_2 h)
  · rw [ab_1 h]; exact Or.inr h2
section I64
variable {x y l u d : Int64}
theorem i_add (h1 : -9223372036854775808 ≤ x.toInt + y.toInt) (h2 : x.toInt + y.toInt ≤ 9223372036854775807) : (x + y).toInt = x.toInt + y.toInt := by rw [Int64.toInt_add]; exact Int.bmod_eq_of_le (by omega) (by omega)
theorem i_sub (h1 : -9223372036854775808 ≤ x.toInt - y.toInt) (h2 : x.toInt - y.toInt ≤ 9223372036854775807) : (x - y).toInt = x.toInt - y.toInt := by rw [Int64.toInt_sub]; exact Int.bmod_eq_of_le (by omega) (by omega)
theorem i_neg (h1 : -9223372036854775808 < x.toInt) : (-x).toInt = -x.toInt := by
  have := Int64.toInt_lt x
  rw [Int64.toInt_neg]; exact Int.bmod_eq_of_le (by omega) (by omega)
theorem i_mul (h1 : -9223372036854775808 ≤ x.toInt * y.toInt) (h2 : x.toInt * y.toInt ≤ 9223372036854775807) : (x * y).toInt = x.toInt * y.toInt := by rw [Int64.toInt_mul]; exact Int.bmod_eq_of_le (by omega) (by omega)
theorem i_lt : x < y ↔ x.toInt < y.toInt := Int64.lt_iff_toInt_lt
theorem i_eq : x = y ↔ x.toInt = y.toInt := Int64.toInt_inj.symm
theorem i_rg (x : Int64) : -9223372036854775808 ≤ x.toInt ∧ x.toInt ≤ 9223372036854775807 := rl_all x
theorem i_div (h : 0 ≤ x.toInt) (h2 : 0 < y.toInt) : (x / y).toInt = x.toInt / y.toInt := by
  rw [Int64.toInt_div, Int.tdiv_eq_ediv_of_nonneg h]
  have h3 : 0 ≤ x.toInt / y.toInt := Int.ediv_nonneg h (by omega)
  have h4 : x.toInt / y.toInt ≤ x.toInt := Int.ediv_le_self _ h
  have := (i_rg x).2
  exact Int.bmod_eq_of_le (by omega) (by omega)
end I64
theorem iz0 : (0 : Int64).toInt = 0 := rfl
theorem iz1 : (1 : Int64).toInt = 1 := rfl
theorem izm1 : (-1 : Int64).toInt = -1 := rfl
theorem izm2 : (-2 : Int64).toInt = -2 := rfl
theorem izB : (2305843009213693952 : Int64).toInt = 2305843009213693952 := rfl
theorem izmB : (-2305843009213693952 : Int64).toInt = -2305843009213693952 := rfl
/-- Euclid -/
theorem aJ_abs {a : Int64} (h : -9223372036854775808 < a.toInt) : (aJ a).toInt.toNat = a.toInt.natAbs ∧ 0 ≤ (aJ a).toInt := by
  unfold aJ
  by_cases c : a < 0
  · rw [if_pos c, i_neg h]
    rw [i_lt, iz0] at c
    omega
  · rw [if_neg c]
    rw [i_lt, iz0] at c
    omega
theorem gj_p {a b : Int64} (ha : -9223372036854775808 < a.toInt) (hb : -9223372036854775808 < b.toInt) : 0 ≤ (gJ a b).toInt ∧ (gJ a b).toInt ∣ a.toInt ∧ (gJ a b).toInt ∣ b.toInt ∧ ((gJ a b).toInt = 0 → a.toInt = 0 ∧ b.toInt = 0) := by
  rw [gJ_gcd ha hb, (aJ_abs ha).1, (aJ_abs hb).1]
  refine ⟨by omega, ?_, ?_, fun h => ?_⟩
  · exact Int.ofNat_dvd_left.mpr (Nat.gcd_dvd_left _ _)
  · exact Int.ofNat_dvd_left.mpr (Nat.gcd_dvd_right _ _)
  · have h2 : a.toInt.natAbs.gcd b.toInt.natAbs = 0 := by omega
    have h3 := Nat.gcd_eq_zero_iff.mp h2
    omega
theorem z7g {a b : Int64} (ha : -9223372036854775808 < a.toInt) (hb : -9223372036854775808 < b.toInt) : Z_X7_gcd a b = gJ a b := gJ_128 ha hb
theorem gj_0 {s : Int64} (h : 0 ≤ s.toInt) : gJ 0 s = s := by
  rw [i_eq, gJ_gcd (by decide) (by omega), (aJ_abs (a := 0) (by decide)).1, (aJ_abs (a := s) (by omega)).1, iz0]
  simp only [Int.natAbs_zero, Nat.gcd_zero_left]
  omega
theorem gj_s0 {s : Int64} (h : 0 ≤ s.toInt) : gJ s 0 = s := by
  rw [i_eq, gJ_gcd (by omega) (by decide), (aJ_abs (a := 0) (by decide)).1, (aJ_abs (a := s) (by omega)).1, iz0]
  simp only [Int.natAbs_zero, Nat.gcd_zero_right]
  omega
theorem gj_ss {s : Int64} (h : 0 ≤ s.toInt) : gJ s s = s := by
  rw [i_eq, gJ_gcd (by omega) (by omega), (aJ_abs (a := s) (by omega)).1]
  simp only [Nat.gcd_self]
  omega
theorem vs_le {t : Tr} (h : Vs t) : t.2.2.toInt ≤ 4611686018427387904 := by
  obtain ⟨h1, h2, h3, h4, h5, h6⟩ := h
  by_cases c : t.2.1.toInt - t.1.toInt = 0
  · have : t.1 = t.2.1 := i_eq.mpr (by omega)
    have := h6.mpr this
    omega
  · have := Int.le_of_dvd (by omega) h5
    omega
theorem mk_ok {c : Ce} {t0 : Tr} {l u d : Int64} (h : l.toInt ≤ u.toInt) (h0 : 0 ≤ d.toInt) (hd : d.toInt ∣ u.toInt - l.toInt) (hz : d.toInt = 0 → l.toInt = u.toInt) : Gc (J_make c 1 l u d) ∧ ab (J_make c 1 l u d) = K_become t0 l u d := by
  unfold J_make K_become
  rw [if_pos rfl]
  by_cases c1 : l < -2305843009213693952
  · simp only [c1, ↓reduceIte]
    split
    · exact ⟨Or.inl rfl, rfl⟩
    · exact ⟨Or.inl rfl, rfl⟩
  · by_cases c2 : 2305843009213693952 < u
    · simp only [c1, c2, ↓reduceIte]
      split
      · exact ⟨Or.inl rfl, rfl⟩
      · exact ⟨Or.inl rfl, rfl⟩
    · have c3 : ¬ u < -2305843009213693952 := by rw [i_lt, izmB] at c1 ⊢; omega
      have c4 : ¬ (2305843009213693952 : Int64) < l := by rw [i_lt, izB] at c2 ⊢; omega
      simp only [c1, c2, c3, c4, ↓reduceIte]
      rw [i_lt, izmB] at c1
      rw [i_lt, izB] at c2
      by_cases c5 : l = u
      · simp only [c5, ↓reduceIte]
        exact ⟨Or.inr ⟨rfl, by show _ ≤ u.toInt; rw [← c5]; omega, Int.le_refl _, by show u.toInt ≤ _; omega, by show (0 : Int) ≤ (0 : Int64).toInt; decide, by rw [Int.sub_self]; exact Int.dvd_zero _, by simp⟩, rfl⟩
      · simp only [c5, ↓reduceIte]
        refine ⟨Or.inr ⟨rfl, by show _ ≤ l.toInt; omega, h, by show u.toInt ≤ _; omega, h0, hd, ?_⟩, rfl⟩
        constructor
        · intro q; exact i_eq.mpr (hz q)
        · intro q; exact absurd q c5
theorem one_ok {c : Ce} {t0 : Tr} {v : Int64} : Gc (J_one c v) ∧ ab (J_one c v) = K_become t0 v v 0 := mk_ok (Int.le_refl _) (by decide) (by rw [Int.sub_self]; exact Int.dvd_zero _) (fun _ => rfl)
theorem zmin_eq {a b : Int64} : Z_J9_min_f86c9 a b = if a < b then a else b := by
  unfold Z_J9_min_f86c9
  by_cases c : b < a
  · have : ¬ a < b := by rw [i_lt] at c ⊢; omega
    simp only [c, this, ↓reduceIte]
  · by_cases c2 : a < b
    · simp only [c, c2, ↓reduceIte]
    · simp only [c, c2, ↓reduceIte]
      rw [i_eq]; rw [i_lt] at c c2; omega
theorem zmax_eq {a b : Int64} : Z_J9_max_f86c9 a b = if b < a then a else b := by
  unfold Z_J9_max_f86c9
  by_cases c : a < b
  · have : ¬ b < a := by rw [i_lt] at c ⊢; omega
    simp only [c, this, ↓reduceIte]
  · by_cases c2 : b < a
    · simp only [c, c2, ↓reduceIte]
    · simp only [c, c2, ↓reduceIte]
      rw [i_eq]; rw [i_lt] at c c2; omega
theorem any_1 : K_isAny tANY = 1 := rfl
theorem any_0 {t : Tr} (h : Vs t) : K_isAny t = 0 := by
  unfold K_isAny
  rw [if_neg]
  intro e
  have := h.2.2.2.1
  rw [e, izm1] at this
  omega
/-- join -/
theorem join_ok {c c2 c3 : Ce} {t0 : Tr} (h2 : Gc c2) (h3 : Gc c3) : Gc (J_join c c2 c3) ∧ ab (J_join c c2 c3) = K_join t0 (ab c2) (ab c3) := by
  unfold J_join K_join
  rcases h2 with h2 | ⟨h2, v2⟩
  · rw [ab_2 h2, h2]
    rcases h3 with h3 | ⟨h3, -⟩
    · rw [h3]; exact ⟨Or.inl rfl, rfl⟩
    · rw [h3]; exact ⟨Or.inl rfl, rfl⟩
  · rcases h3 with h3 | ⟨h3, v3⟩
    · rw [ab_2 h3, h2, h3, ab_1 h2, any_0 v2]; exact ⟨Or.inl rfl, rfl⟩
    · rw [h2, h3, ab_1 h2, ab_1 h3, any_0 v2, any_0 v3, zmin_eq, zmax_eq]
      obtain ⟨s, l2, u2, d2⟩ := c2
      obtain ⟨s', l3, u3, d3⟩ := c3
      have b2 := vs_le v2
      have b3 := vs_le v3
      obtain ⟨p1, p2, p3, p4, p5, p6⟩ := v2
      obtain ⟨q1, q2, q3, q4, q5, q6⟩ := v3
      simp only at p1 p2 p3 p4 p5 p6 q1 q2 q3 q4 q5 q6 b2 b3 ⊢
      have es : (l2 - l3).toInt = l2.toInt - l3.toInt := i_sub (by omega) (by omega)
      obtain ⟨g1, g2, g3, g4⟩ := gj_p (a := d2) (b := d3) (by omega) (by omega)
      obtain ⟨k1, k2, k3, k4⟩ := gj_p (a := gJ d2 d3) (b := l2 - l3) (by omega) (by omega)
      rw [z7g (a := d2) (b := d3) (by omega) (by omega), z7g (a := gJ d2 d3) (b := l2 - l3) (by omega) (by omega)]
      rw [es] at k3 k4
      generalize gJ (gJ d2 d3) (l2 - l3) = g at k1 k2 k3 k4 ⊢
      have f2 : g.toInt ∣ u2.toInt - l2.toInt := Int.dvd_trans (Int.dvd_trans k2 g2) p5
      have f3 : g.toInt ∣ u3.toInt - l3.toInt := Int.dvd_trans (Int.dvd_trans k2 g3) q5
      have hz : g.toInt = 0 → l2.toInt = u2.toInt ∧ l3.toInt = u3.toInt ∧ l2.toInt = l3.toInt := by
        intro e
        obtain ⟨z1, z2⟩ := k4 e
        obtain ⟨z3, z4⟩ := g4 z1
        have a := p6.mp z3
        have b := q6.mp z4
        rw [i_eq] at a b
        omega
      have f1 := k3
      have da : g.toInt ∣ u3.toInt - l2.toInt := by have := Int.dvd_sub f3 f1; rwa [show u3.toInt - l3.toInt - (l2.toInt - l3.toInt) = u3.toInt - l2.toInt by omega] at this
      have db : g.toInt ∣ u2.toInt - l3.toInt := by have := Int.dvd_add f2 f1; rwa [show u2.toInt - l2.toInt + (l2.toInt - l3.toInt) = u2.toInt - l3.toInt by omega] at this
      have n10 : ¬ (1 : Int32) = 0 := by decide
      have n12 : ¬ (1 : Int32) = 2 := by decide
      by_cases c1 : l2 < l3
      · by_cases c4 : u3 < u2
        · simp only [n10, n12, c1, c4, ↓reduceIte]
          rw [i_lt] at c1 c4
          exact mk_ok (by omega) k1 f2 (fun e => (hz e).1)
        · simp only [n10, n12, c1, c4, ↓reduceIte]
          rw [i_lt] at c1 c4
          exact mk_ok (by omega) k1 da (fun e => by have := hz e; omega)
      · by_cases c4 : u3 < u2
        · simp only [n10, n12, c1, c4, ↓reduceIte]
          rw [i_lt] at c1 c4
          exact mk_ok (by omega) k1 db (fun e => by have := hz e; omega)
        · simp only [n10, n12, c1, c4, ↓reduceIte]
          rw [i_lt] at c1 c4
          exact mk_ok (by omega) k1 f3 (fun e => (hz e).2.1)
/-- a set joined with itself -/
theorem join_id {t : Tr} {t0 : Tr} (h : Vt t) : K_join t0 t t = t := by
  rcases h with rfl | h
  · rfl
  · unfold K_join
    have b := vs_le h
    rw [any_0 h]
    obtain ⟨l, u, d⟩ := t
    obtain ⟨p1, p2, p3, p4, p5, p6⟩ := h
    simp only at p1 p2 p3 p4 p5 p6 b ⊢
    have es : l - l = 0 := by rw [i_eq, i_sub (by omega) (by omega), iz0]; omega
    rw [es, z7g (a := d) (b := d) (by omega) (by omega), gj_ss p4, z7g (a := d) (by omega) (by decide), gj_s0 p4, zmin_eq, zmax_eq]
    have c1 : ¬ l < l := by rw [i_lt]; omega
    have c2 : ¬ u < u := by rw [i_lt]; omega
    simp only [c1, c2, ↓reduceIte]
    unfold K_become
    have c3 : ¬ l < -2305843009213693952 := by rw [i_lt, izmB]; omega
    have c4 : ¬ (2305843009213693952 : Int64) < u := by rw [i_lt, izB]; omega
    simp only [c3, c4, ↓reduceIte]
    by_cases c5 : l = u
    · rw [if_pos c5, i_eq.mpr ((p6.mpr c5).trans iz0.symm)]
    · rw [if_neg c5]
