theorem bec_in {t0 : Tr} {l u d : Int64} (h1 : -2305843009213693952 ≤ l.toInt) (h2 : u.toInt ≤ 2305843009213693952) (h3 : ¬ l.toInt = u.toInt) : K_become t0 l u d = (l, u, d) := by
  unfold K_become
  have c1 : ¬ l < -2305843009213693952 := by rw [i_lt, izmB]; omega
  have c2 : ¬ (2305843009213693952 : Int64) < u := by rw [i_lt, izB]; omega
  have c3 : ¬ l = u := by rw [i_eq]; exact h3
  rw [if_neg c1, if_neg c2, if_neg c3]
theorem bec_vs {t0 t : Tr} (h : Vs t) : K_become t0 t.1 t.2.1 t.2.2 = t := by
  obtain ⟨p1, p2, p3, p4, p5, p6⟩ := h
  obtain ⟨l, u, d⟩ := t
  simp only at p1 p2 p3 p4 p5 p6 ⊢
  by_cases c : l = u
  · have hd : d = 0 := i_eq.mpr ((p6.mpr c).trans iz0.symm)
    unfold K_become
    have c1 : ¬ l < -2305843009213693952 := by rw [i_lt, izmB]; omega
    have c2 : ¬ (2305843009213693952 : Int64) < u := by rw [i_lt, izB]; omega
    rw [if_neg c1, if_neg c2, if_pos c, hd]
  · exact bec_in p1 p3 (fun e => c (i_eq.mpr e))
theorem q_ok {x s : Int64} (h : 0 ≤ x.toInt) (h2 : 0 < s.toInt) : (x / s * s).toInt = x.toInt / s.toInt * s.toInt ∧ 0 ≤ x.toInt / s.toInt * s.toInt ∧ x.toInt / s.toInt * s.toInt ≤ x.toInt := by
  have e := i_div h h2
  have a : 0 ≤ x.toInt / s.toInt := Int.ediv_nonneg h (by omega)
  have b : x.toInt / s.toInt * s.toInt ≤ x.toInt := Int.ediv_mul_le _ (by omega)
  have c : 0 ≤ x.toInt / s.toInt * s.toInt := Int.mul_nonneg a (by omega)
  have d := (i_rg x).2
  exact ⟨by rw [i_mul (by rw [e]; omega) (by rw [e]; omega), e], c, b⟩
theorem jj_1 {c c2 c3 : Ce} (h2 : Gc c2) (h3 : Gc c3) (h : (J_join c c2 c3).1 = 1) : c2.1 = 1 ∧ c3.1 = 1 := by
  rcases h2 with h2 | ⟨h2, -⟩
  · exfalso
    unfold J_join at h
    rw [h2] at h
    rcases h3 with h3 | ⟨h3, -⟩
    · rw [h3] at h; exact absurd (show (2 : Int32) = 1 from h) (by decide)
    · rw [h3] at h; exact absurd (show (2 : Int32) = 1 from h) (by decide)
  · rcases h3 with h3 | ⟨h3, -⟩
    · exfalso
      unfold J_join at h
      rw [h2, h3] at h
      exact absurd (show (2 : Int32) = 1 from h) (by decide)
    · exact ⟨h2, h3⟩
theorem widen_ok {h c c2 c3 : Ce} {t0 : Tr} (h2 : Gc c2) (h3 : Gc c3) : Gc (J_wide1 (J_join h c2 c3) c c2 c3) ∧ ab (J_wide1 (J_join h c2 c3) c c2 c3) = K_stretchFrom (K_join t0 (ab c2) (ab c3)) (ab c2) := by
  obtain ⟨j1, j2⟩ := join_ok (c := h) (t0 := t0) h2 h3
  have j3 := jj_1 (c := h) h2 h3
  rw [← j2]
  generalize J_join h c2 c3 = H at j1 j2 j3
  unfold J_wide1
  rcases j1 with j1 | ⟨j1, v⟩
  · have n : ¬ H.1 = 1 := by rw [j1]; decide
    rw [if_neg n, ab_2 j1]
    exact ⟨Or.inl j1, rfl⟩
  · obtain ⟨k2, k3⟩ := j3 j1
    rw [if_pos j1, if_pos k2, if_pos k3, ab_1 j1, ab_1 k2]
    unfold K_stretchFrom
    by_cases c0 : (0 : Int64) < H.2.2.2
    · rw [if_pos c0, if_pos c0]
      obtain ⟨s, l, u, d⟩ := H
      obtain ⟨p1, p2, p3, p4, p5, p6⟩ := v
      simp only at p1 p2 p3 p4 p5 p6 c0 ⊢
      rw [i_lt, iz0] at c0
      have eL : (l + 2305843009213693952).toInt = l.toInt + 2305843009213693952 := i_add (by rw [izB]; omega) (by rw [izB]; omega)
      have eU : (2305843009213693952 - u).toInt = 2305843009213693952 - u.toInt := i_sub (by rw [izB]; omega) (by rw [izB]; omega)
      obtain ⟨a1, a2, a3⟩ := q_ok (x := l + 2305843009213693952) (s := d) (by rw [eL]; omega) c0
      obtain ⟨b1, b2, b3⟩ := q_ok (x := 2305843009213693952 - u) (s := d) (by rw [eU]; omega) c0
      have dL : d.toInt ∣ (l + 2305843009213693952).toInt / d.toInt * d.toInt := Int.dvd_mul_left _ _
      have dU : d.toInt ∣ (2305843009213693952 - u).toInt / d.toInt * d.toInt := Int.dvd_mul_left _ _
      rw [eL] at a1 a2 a3 dL
      rw [eU] at b1 b2 b3 dU
      rw [wd_lo, wd_hi]
      generalize (l + 2305843009213693952) / d * d = q at a1 ⊢
      generalize (2305843009213693952 - u) / d * d = r at b1 ⊢
      rw [← a1] at a2 a3 dL
      rw [← b1] at b2 b3 dU
      have f1 : (l - q).toInt = l.toInt - q.toInt := i_sub (by omega) (by omega)
      have f2 : (u + r).toInt = u.toInt + r.toInt := i_add (by omega) (by omega)
      have lu : ¬ l.toInt = u.toInt := fun e => by have := p6.mpr (i_eq.mpr e); omega
      have g1 : d.toInt ∣ u.toInt - (l.toInt - q.toInt) := by have := Int.dvd_add p5 dL; rwa [show u.toInt - l.toInt + q.toInt = u.toInt - (l.toInt - q.toInt) by omega] at this
      have g2 : d.toInt ∣ u.toInt + r.toInt - l.toInt := by have := Int.dvd_add p5 dU; rwa [show u.toInt - l.toInt + r.toInt = u.toInt + r.toInt - l.toInt by omega] at this
      have g3 : d.toInt ∣ u.toInt + r.toInt - (l.toInt - q.toInt) := by have := Int.dvd_add g1 dU; rwa [show u.toInt - (l.toInt - q.toInt) + r.toInt = u.toInt + r.toInt - (l.toInt - q.toInt) by omega] at this
      by_cases c1 : l < c2.2.1
      · by_cases c4 : c2.2.2.1 < u
        · rw [if_pos c1, if_pos c4, if_pos c1, if_pos c4]
          have := mk_ok (c := (s, l, u, d)) (t0 := t0) (l := l - q) (u := u + r) (d := d) (by omega) p4 (by rw [f1, f2]; exact g3) (fun e => by omega)
          rw [bec_in (by omega) (by omega) (by omega)] at this
          exact this
        · rw [if_pos c1, if_neg c4, if_pos c1, if_neg c4]
          have := mk_ok (c := (s, l, u, d)) (t0 := t0) (l := l - q) (u := u) (d := d) (by omega) p4 (by rw [f1]; exact g1) (fun e => by omega)
          rw [bec_in (by omega) (by omega) (by omega)] at this
          exact this
      · by_cases c4 : c2.2.2.1 < u
        · rw [if_neg c1, if_pos c4, if_neg c1, if_pos c4]
          have := mk_ok (c := (s, l, u, d)) (t0 := t0) (l := l) (u := u + r) (d := d) (by omega) p4 (by rw [f2]; exact g2) (fun e => by omega)
          rw [bec_in (by omega) (by omega) (by omega)] at this
          exact this
        · rw [if_neg c1, if_neg c4, if_neg c1, if_neg c4]
          have := mk_ok (c := (s, l, u, d)) (t0 := t0) (l := l) (u := u) (d := d) p2 p4 p5 (fun e => by omega)
          rw [bec_in p1 p3 lu] at this
          exact this
    · rw [if_neg c0, if_neg c0]
      exact ⟨Or.inr ⟨j1, v⟩, ab_1 j1⟩
/-- absorb: a set that is the same as what comes -/
theorem ab1_eq {w : Int32} {t u : Tr} (h : Vt t) : K_ab1 w t u = if w = 0 then K_join tANY t u else K_stretchFrom (K_join tANY t u) t := by
  unfold K_ab1
  by_cases e : t = u
  · rw [if_pos e, ← e, join_id h]
    have : K_stretchFrom t t = t := by
      unfold K_stretchFrom
      have c1 : ¬ t.1 < t.1 := by rw [i_lt]; omega
      have c2 : ¬ t.2.1 < t.2.1 := by rw [i_lt]; omega
      simp only [c1, c2, ↓reduceIte, ite_self]
    rw [this, ite_self]
  · rw [if_neg e]
theorem n10 : ¬ (1 : Int32) = 0 := by decide
theorem n12 : ¬ (1 : Int32) = 2 := by decide
theorem n20 : ¬ (2 : Int32) = 0 := by decide
theorem n21 : ¬ (2 : Int32) = 1 := by decide
/-- add -/
theorem add_ok {c c2 c3 : Ce} {t0 : Tr} (h2 : Gc c2) (h3 : Gc c3) : Gc (J_add c c2 c3) ∧ ab (J_add c c2 c3) = K_add t0 (ab c2) (ab c3) := by
  unfold J_add K_add
  rcases h2 with h2 | ⟨h2, v2⟩
  · rw [ab_2 h2, h2]
    rcases h3 with h3 | ⟨h3, -⟩
    · rw [h3]; exact ⟨Or.inl rfl, rfl⟩
    · rw [h3]; exact ⟨Or.inl rfl, rfl⟩
  · rcases h3 with h3 | ⟨h3, v3⟩
    · rw [ab_2 h3, h2, h3, ab_1 h2, any_0 v2]; exact ⟨Or.inl rfl, rfl⟩
    · rw [h2, h3, ab_1 h2, ab_1 h3, any_0 v2, any_0 v3]
      obtain ⟨s, l2, u2, d2⟩ := c2
      obtain ⟨s', l3, u3, d3⟩ := c3
      obtain ⟨p1, p2, p3, p4, p5, p6⟩ := v2
      obtain ⟨q1, q2, q3, q4, q5, q6⟩ := v3
      simp only at p1 p2 p3 p4 p5 p6 q1 q2 q3 q4 q5 q6 ⊢
      have f1 : (l2 + l3).toInt = l2.toInt + l3.toInt := i_add (by omega) (by omega)
      have f2 : (u2 + u3).toInt = u2.toInt + u3.toInt := i_add (by omega) (by omega)
      obtain ⟨g1, g2, g3, g4⟩ := gj_p (a := d2) (b := d3) (by omega) (by omega)
      rw [z7g (a := d2) (b := d3) (by omega) (by omega)]
      simp only [n10, n12, ↓reduceIte]
      refine mk_ok (by omega) g1 ?_ (fun e => ?_)
      · rw [f1, f2]
        have := Int.dvd_add (Int.dvd_trans g2 p5) (Int.dvd_trans g3 q5)
        rwa [show u2.toInt - l2.toInt + (u3.toInt - l3.toInt) = u2.toInt + u3.toInt - (l2.toInt + l3.toInt) by omega] at this
      · obtain ⟨z1, z2⟩ := g4 e
        have a := p6.mp z1
        have b := q6.mp z2
        rw [i_eq] at a b
        omega
theorem neg_1 {h c3 : Ce} (h3 : c3.1 = 1) (v : Vs c3.2) : J_negate h c3 = (1, -c3.2.2.1, -c3.2.1, c3.2.2.2) ∧ Vs (-c3.2.2.1, -c3.2.1, c3.2.2.2) := by
  unfold J_negate
  rw [if_pos h3]
  obtain ⟨s', l3, u3, d3⟩ := c3
  obtain ⟨q1, q2, q3, q4, q5, q6⟩ := v
  simp only at q1 q2 q3 q4 q5 q6 ⊢
  have f1 : (-l3).toInt = -l3.toInt := i_neg (by omega)
  have f2 : (-u3).toInt = -u3.toInt := i_neg (by omega)
  have hv : Vs (-u3, -l3, d3) := by
    refine ⟨by show _ ≤ (-u3).toInt; omega, by show (-u3).toInt ≤ (-l3).toInt; omega, by show (-l3).toInt ≤ _; omega, q4, by show d3.toInt ∣ (-l3).toInt - (-u3).toInt; rw [f1, f2, show -l3.toInt - -u3.toInt = u3.toInt - l3.toInt by omega]; exact q5, ?_⟩
    show d3.toInt = 0 ↔ -u3 = -l3
    rw [q6, i_eq, i_eq (x := -u3), f1, f2]
    omega
  obtain ⟨m1, m2⟩ := mk_ok (c := h) (t0 := tANY) (l := -u3) (u := -l3) (d := d3) hv.2.1 q4 hv.2.2.2.2.1 (fun e => i_eq.mp (hv.2.2.2.2.2.mp e))
  refine ⟨?_, hv⟩
  have m3 := bec_vs (t0 := tANY) hv
  simp only at m3
  rw [m3] at m2
  rcases m1 with m1 | ⟨m1, -⟩
  · rw [ab_2 m1] at m2
    have : (-1 : Int64) = d3 := congrArg (fun q => q.2.2) m2
    rw [← this, izm1] at q4
    omega
  · rw [ab_1 m1] at m2
    exact Prod.ext m1 m2
theorem neg_ok {h c3 : Ce} (h3 : Gc c3) : Gc (J_negate h c3) ∧ (c3.1 = 2 → ab (J_negate h c3) = tANY) := by
  rcases h3 with h3 | ⟨h3, v⟩
  · have : J_negate h c3 = (2, h.2) := by unfold J_negate; rw [h3]; rfl
    rw [this]
    exact ⟨Or.inl rfl, fun _ => rfl⟩
  · rw [(neg_1 h3 v).1]
    exact ⟨Or.inr ⟨rfl, (neg_1 (h := h) h3 v).2⟩, fun e => absurd (h3.symm.trans e) n12⟩
theorem sub_an {x y : Int64} : x + -y = x - y := (Int64.sub_eq_add_neg x y).symm
theorem sub_ok {c h c2 c3 : Ce} {t0 : Tr} (h2 : Gc c2) (h3 : Gc c3) : Gc (J_add c c2 (J_negate h c3)) ∧ ab (J_add c c2 (J_negate h c3)) = K_subtract t0 (ab c2) (ab c3) := by
  obtain ⟨n1, n2⟩ := neg_ok (h := h) h3
  obtain ⟨a1, a2⟩ := add_ok (c := c) (t0 := t0) h2 n1
  refine ⟨a1, a2.trans ?_⟩
  unfold K_add K_subtract
  rcases h3 with h3 | ⟨h3, v3⟩
  · rw [n2 h3, ab_2 h3, any_1]
    simp only [n10, ↓reduceIte]
  · rw [(neg_1 h3 v3).1, ab_1 h3]
    have e : ab (1, -c3.2.2.1, -c3.2.1, c3.2.2.2) = (-c3.2.2.1, -c3.2.1, c3.2.2.2) := ab_1 rfl
    rw [e, any_0 (neg_1 (h := h) h3 v3).2, any_0 v3]
    simp only [sub_an]
theorem one_m1 {c : Ce} : J_one c (-1) = (1, -1, -1, 0) := rfl
theorem one_eq {c : Ce} {v : Int64} (h1 : -2305843009213693952 ≤ v.toInt) (h2 : v.toInt ≤ 2305843009213693952) : J_one c v = (1, v, v, 0) := by
  unfold J_one J_make
  have c1 : ¬ v < -2305843009213693952 := by rw [i_lt, izmB]; omega
  have c2 : ¬ (2305843009213693952 : Int64) < v := by rw [i_lt, izB]; omega
  simp only [c1, c2, ↓reduceIte]
theorem not_ok {c h o c3 : Ce} {t0 : Tr} (h3 : Gc c3) : Gc (J_add c (J_one o (-1)) (J_negate h c3)) ∧ ab (J_add c (J_one o (-1)) (J_negate h c3)) = K_subtractFrom t0 (-1) (ab c3) := by
  have g : Gc (J_one o (-1)) := (one_ok (t0 := tANY)).1
  obtain ⟨a1, a2⟩ := sub_ok (c := c) (h := h) (t0 := t0) g h3
  refine ⟨a1, a2.trans ?_⟩
  rw [one_m1]
  have e : ab ((1, -1, -1, 0) : Ce) = (-1, -1, 0) := rfl
  rw [e]
  unfold K_subtract K_subtractFrom
  have e2 : K_isAny ((-1, -1, 0) : Tr) = 0 := rfl
  rw [e2]
  rcases h3 with h3 | ⟨h3, v3⟩
  · rw [ab_2 h3]; rfl
  · rw [ab_1 h3, any_0 v3]
    have v4 := v3.2.2.2.1
    have : Z_X7_gcd 0 c3.2.2.2 = c3.2.2.2 := by rw [z7g (by decide) (by omega), gj_0 v4]
    simp only [this, ↓reduceIte]
theorem neg_eff {c c3 : Ce} {t0 : Tr} (h3 : Gc c3) : Gc (J_negate c c3) ∧ ab (J_negate c c3) = K_subtractFrom t0 0 (ab c3) := by
  obtain ⟨n1, n2⟩ := neg_ok (h := c) h3
  refine ⟨n1, ?_⟩
  unfold K_subtractFrom
  rcases h3 with h3 | ⟨h3, v3⟩
  · rw [n2 h3, ab_2 h3]; rfl
  · obtain ⟨e, v⟩ := neg_1 (h := c) h3 v3
    rw [e, ab_1 h3, any_0 v3]
    have z : ∀ x : Int64, 0 - x = -x := fun x => Int64.zero_sub x
    simp only [z]
    exact (bec_vs (t0 := t0) v).symm
/-- drop -/
theorem sgl {t : Tr} (h : Vs t) : K_isSingle t = 0 ↔ ¬ t.1 = t.2.1 := by
  unfold K_isSingle
  have h6 := h.2.2.2.2.2
  by_cases c : t.2.2 = 0
  · rw [if_pos c]
    have : t.1 = t.2.1 := h6.mp (by rw [c]; rfl)
    simp [this]
  · rw [if_neg c]
    have : ¬ t.1 = t.2.1 := fun e => c (i_eq.mpr ((h6.mpr e).trans iz0.symm))
    simp [this]
theorem isnum {c : Ce} {v : Int64} (h : c.1 = 1) : J_isNumber c v = 0 ↔ ¬ (c.2.1 = c.2.2.1 ∧ c.2.1 = v) := by
  unfold J_isNumber J_isOne
  rw [if_pos h]
  by_cases c1 : c.2.1 = c.2.2.1
  · by_cases c2 : c.2.1 = v
    · simp [← c1, c2]
    · simp [← c1, c2]
  · simp [c1]
theorem drop_ok {c c2 : Ce} {v : Int64} (h2 : Gc c2) : Gn (J_without c c2 v) ∧ ab (J_without c c2 v) = K_drop (ab c2) v := by
  unfold J_without K_drop
  rcases h2 with h2 | ⟨h2, v2⟩
  · have n : ¬ c2.1 = 1 := by rw [h2]; decide
    rw [if_neg n, ab_2 h2]
    exact ⟨Or.inr (Or.inl h2), rfl⟩
  · rw [if_pos h2, ab_1 h2]
    have hv := v2
    obtain ⟨p1, p2, p3, p4, p5, p6⟩ := v2
    have n0 : ¬ c2.2.2.2 < 0 := by rw [i_lt, iz0]; omega
    rw [if_neg n0]
    by_cases cs : c2.2.1 = c2.2.2.1
    · have k1 : ¬ K_isSingle c2.2 = 0 := fun q => (sgl hv).mp q cs
      rw [if_neg k1]
      by_cases cv : v = c2.2.1
      · have k2 : ¬ J_isNumber c2 v = 0 := fun q => (isnum h2).mp q ⟨cs, cv.symm⟩
        rw [if_neg k2, if_pos cv]
        exact ⟨Or.inl rfl, rfl⟩
      · have k2 : J_isNumber c2 v = 0 := (isnum h2).mpr (fun q => cv q.2.symm)
        have k3 : ¬ c2.2.1 = v := fun q => cv q.symm
        have k4 : ¬ c2.2.2.1 = v := fun q => cv (q.symm.trans cs.symm)
        rw [if_pos k2, if_neg k3, if_neg k4, if_neg cv]
        exact ⟨Or.inr (Or.inr ⟨h2, hv⟩), ab_1 h2⟩
    · have k1 : K_isSingle c2.2 = 0 := (sgl hv).mpr cs
      have k2 : J_isNumber c2 v = 0 := (isnum h2).mpr (fun q => cs q.1)
      rw [if_pos k1, if_pos k2]
      have hs : 0 < c2.2.2.2.toInt := by
        rcases Int.lt_or_eq_of_le p4 with q | q
        · exact q
        · exact absurd (p6.mp q.symm) cs
      have hlt : c2.2.1.toInt < c2.2.2.1.toInt := by
        rcases Int.lt_or_eq_of_le p2 with q | q
        · exact q
        · exact absurd (i_eq.mpr q) cs
      have hle : c2.2.2.2.toInt ≤ c2.2.2.1.toInt - c2.2.1.toInt := Int.le_of_dvd (by omega) p5
      have f1 : (c2.2.1 + c2.2.2.2).toInt = c2.2.1.toInt + c2.2.2.2.toInt := i_add (by omega) (by omega)
      have f2 : (c2.2.2.1 - c2.2.2.2).toInt = c2.2.2.1.toInt - c2.2.2.2.toInt := i_sub (by omega) (by omega)
      by_cases cv : v = c2.2.1
      · rw [if_pos cv.symm, if_pos cv]
        obtain ⟨m1, m2⟩ := mk_ok (c := c2) (t0 := c2.2) (l := c2.2.1 + c2.2.2.2) (u := c2.2.2.1) (d := c2.2.2.2) (by omega) p4 (by rw [f1]; have := Int.dvd_sub p5 (Int.dvd_refl c2.2.2.2.toInt); rwa [show c2.2.2.1.toInt - c2.2.1.toInt - c2.2.2.2.toInt = c2.2.2.1.toInt - (c2.2.1.toInt + c2.2.2.2.toInt) by omega] at this) (fun e => by omega)
        exact ⟨Or.inr m1, m2⟩
      · have k3 : ¬ c2.2.1 = v := fun q => cv q.symm
        rw [if_neg k3, if_neg cv]
        by_cases cu : v = c2.2.2.1
        · rw [if_pos cu.symm, if_pos cu]
          obtain ⟨m1, m2⟩ := mk_ok (c := c2) (t0 := c2.2) (l := c2.2.1) (u := c2.2.2.1 - c2.2.2.2) (d := c2.2.2.2) (by omega) p4 (by rw [f2]; have := Int.dvd_sub p5 (Int.dvd_refl c2.2.2.2.toInt); rwa [show c2.2.2.1.toInt - c2.2.1.toInt - c2.2.2.2.toInt = c2.2.2.1.toInt - c2.2.2.2.toInt - c2.2.1.toInt by omega] at this) (fun e => by omega)
          exact ⟨Or.inr m1, m2⟩
        · have k4 : ¬ c2.2.2.1 = v := fun q => cu q.symm
          rw [if_neg k4, if_neg cu]
          exact ⟨Or.inr (Or.inr ⟨h2, hv⟩), ab_1 h2⟩
