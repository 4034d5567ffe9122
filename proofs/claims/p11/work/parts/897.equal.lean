/-! along an edge, in the reference: two cells P, Q against the class's two sets -/
def EQ2 (P Q : Ce) (p : Tr × Tr) : Prop := ((P.1 = 0 ∨ Q.1 = 0) ∧ (p.1 = tNO ∨ p.2 = tNO)) ∨ (Gc P ∧ Gc Q ∧ ab P = p.1 ∧ ab Q = p.2)
theorem eq2_gn {P Q : Ce} {p : Tr × Tr} (h1 : Gn P) (h2 : Gn Q) (e1 : ab P = p.1) (e2 : ab Q = p.2) : EQ2 P Q p := by
  rcases h1 with h1 | h1
  · exact Or.inl ⟨Or.inl h1, Or.inl (by rw [← e1, ab_0 h1])⟩
  · rcases h2 with h2 | h2
    · exact Or.inl ⟨Or.inr h2, Or.inr (by rw [← e2, ab_0 h2])⟩
    · exact Or.inr ⟨h1, h2, e1, e2⟩
theorem gn_of {c : Ce} (h : Gc c) : Gn c := Or.inr h
/-- unequal -/
theorem uneq_ok {X Y c d : Ce} (hX : Gc X) (hY : Gc Y) : EQ2 (if J_isOne Y = 0 then X else J_without c X Y.2.1) (if J_isOne X = 0 then Y else J_without d Y X.2.1) (K_unP (ab X) (ab Y)) := by
  have iX := isone hX
  have iY := isone hY
  obtain ⟨x1, x2⟩ := drop_ok (c := c) (v := Y.2.1) hX
  obtain ⟨y1, y2⟩ := drop_ok (c := d) (v := X.2.1) hY
  have oX : ¬ J_isOne X = 0 → (ab X).1 = X.2.1 := fun h => by
    rcases hX with q | ⟨q, -⟩
    · exfalso; apply h; unfold J_isOne; rw [q]; rfl
    · rw [ab_1 q]
  have oY : ¬ J_isOne Y = 0 → (ab Y).1 = Y.2.1 := fun h => by
    rcases hY with q | ⟨q, -⟩
    · exfalso; apply h; unfold J_isOne; rw [q]; rfl
    · rw [ab_1 q]
  unfold K_unP
  by_cases cY : J_isOne Y = 0
  · rw [if_pos cY, if_pos (iY.mp cY)]
    by_cases cX : J_isOne X = 0
    · rw [if_pos cX, if_pos (iX.mp cX)]
      exact eq2_gn (gn_of hX) (gn_of hY) rfl rfl
    · rw [if_neg cX, if_neg (fun z => cX (iX.mpr z)), oX cX]
      exact eq2_gn (gn_of hX) y1 rfl y2
  · rw [if_neg cY, if_neg (fun z => cY (iY.mpr z)), oY cY]
    by_cases cX : J_isOne X = 0
    · rw [if_pos cX, if_pos (iX.mp cX)]
      exact eq2_gn x1 (gn_of hY) x2 rfl
    · rw [if_neg cX, if_neg (fun z => cX (iX.mpr z)), oX cX]
      exact eq2_gn x1 y1 x2 y2
/-- a set cut to one number -/
theorem cut_one {t : Tr} {v : Int64} (h : Vs t) : K_cut t v v = (if t.1.toInt ≤ v.toInt ∧ v.toInt ≤ t.2.1.toInt ∧ t.2.2.toInt ∣ v.toInt - t.1.toInt then (v, v, 0) else tNO) := by
  have sL := vs_le h
  obtain ⟨p1, p2, p3, p4, p5, p6⟩ := h
  unfold K_cut
  have n0 : ¬ t.2.2 < 0 := by rw [i_lt, iz0]; omega
  rw [if_neg n0]
  by_cases c1 : t.2.1 < v
  · rw [if_pos c1]
    rw [i_lt] at c1
    rw [if_neg (by omega)]; rfl
  · rw [if_neg c1]
    rw [i_lt] at c1
    by_cases c2 : v < t.1
    · rw [if_pos c2]
      rw [i_lt] at c2
      rw [if_neg (by omega)]; rfl
    · rw [if_neg c2]
      rw [i_lt] at c2
      have one : K_become t v v t.2.2 = (v, v, 0) := by
        unfold K_become
        have z1 : ¬ v < -2305843009213693952 := by rw [i_lt, izmB]; omega
        have z2 : ¬ (2305843009213693952 : Int64) < v := by rw [i_lt, izB]; omega
        rw [if_neg z1, if_neg z2, if_pos rfl]
      by_cases s0 : t.2.2 = 0
      · -- a single number
        have e := p6.mp (by rw [s0]; rfl)
        have ev : t.1 = v := i_eq.mpr (by have := i_eq.mp e; omega)
        have ns : ¬ (0 : Int64) < t.2.2 := by rw [s0]; decide
        have l1 : ¬ t.1 < v := by rw [ev, i_lt]; omega
        have l2 : ¬ v < t.2.1 := by rw [← e, ev, i_lt]; omega
        have l3 : ¬ t.2.1 < t.1 := by rw [i_lt]; omega
        rw [if_neg l1, if_neg l2, if_neg l3, if_pos ⟨by omega, by omega, by rw [ev, Int.sub_self]; exact Int.dvd_zero _⟩, ← e, ev]
        exact one
      · have sp : 0 < t.2.2.toInt := by
          rcases Int.lt_or_eq_of_le p4 with q | q
          · exact q
          · exact absurd (i_eq.mpr (q.symm.trans iz0.symm)) s0
        have ns : (0 : Int64) < t.2.2 := by rw [i_lt, iz0]; exact sp
        have fl : (t.1 - v).toInt = t.1.toInt - v.toInt := i_sub (by omega) (by omega)
        have fh : (v - t.2.1).toInt = v.toInt - t.2.1.toInt := i_sub (by omega) (by omega)
        have m1 := fmod (x := t.1 - v) sp
        have m2 := fmod (x := v - t.2.1) sp
        rw [fl] at m1
        rw [fh] at m2
        have b1 := Int.emod_nonneg (t.1.toInt - v.toInt) (show t.2.2.toInt ≠ 0 by omega)
        have b2 := Int.emod_lt_of_pos (t.1.toInt - v.toInt) sp
        have b3 := Int.emod_nonneg (v.toInt - t.2.1.toInt) (show t.2.2.toInt ≠ 0 by omega)
        have b4 := Int.emod_lt_of_pos (v.toInt - t.2.1.toInt) sp
        have gl : (v + Z_J9_floorMod_f86c9 (t.1 - v) t.2.2).toInt = v.toInt + (t.1.toInt - v.toInt) % t.2.2.toInt := by rw [i_add (by rw [m1]; omega) (by rw [m1]; omega), m1]
        have gh : (v - Z_J9_floorMod_f86c9 (v - t.2.1) t.2.2).toInt = v.toInt - (v.toInt - t.2.1.toInt) % t.2.2.toInt := by rw [i_sub (by rw [m2]; omega) (by rw [m2]; omega), m2]
        have dl : t.2.2.toInt ∣ v.toInt - t.1.toInt ↔ (t.1.toInt - v.toInt) % t.2.2.toInt = 0 := by
          rw [show v.toInt - t.1.toInt = -(t.1.toInt - v.toInt) by omega, Int.dvd_neg]
          exact Int.dvd_iff_emod_eq_zero
        have dh : t.2.2.toInt ∣ v.toInt - t.1.toInt ↔ (v.toInt - t.2.1.toInt) % t.2.2.toInt = 0 := by
          have q : v.toInt - t.2.1.toInt = v.toInt - t.1.toInt - (t.2.1.toInt - t.1.toInt) := by omega
          rw [q, ← Int.dvd_iff_emod_eq_zero]
          constructor
          · intro z; exact Int.dvd_sub z p5
          · intro z
            have := Int.dvd_add z p5
            rwa [show v.toInt - t.1.toInt - (t.2.1.toInt - t.1.toInt) + (t.2.1.toInt - t.1.toInt) = v.toInt - t.1.toInt by omega] at this
        simp only [if_pos ns]
        by_cases dv : t.2.2.toInt ∣ v.toInt - t.1.toInt
        · have cond : t.1.toInt ≤ v.toInt ∧ v.toInt ≤ t.2.1.toInt ∧ t.2.2.toInt ∣ v.toInt - t.1.toInt := ⟨by omega, by omega, dv⟩
          rw [if_pos cond]
          have z1 := dl.mp dv
          have z2 := dh.mp dv
          have el : v + Z_J9_floorMod_f86c9 (t.1 - v) t.2.2 = v := by rw [i_eq, gl, z1]; omega
          have eh : v - Z_J9_floorMod_f86c9 (v - t.2.1) t.2.2 = v := by rw [i_eq, gh, z2]; omega
          rw [el, eh]
          have nv : ¬ v < v := by rw [i_lt]; omega
          by_cases k1 : t.1 < v
          · by_cases k2 : v < t.2.1
            · rw [if_pos k1, if_pos k2, if_neg nv, one]
            · have e2 : t.2.1 = v := i_eq.mpr (by rw [i_lt] at k2; omega)
              rw [if_pos k1, if_neg k2, e2, if_neg nv, one]
          · have e1 : t.1 = v := i_eq.mpr (by rw [i_lt] at k1; omega)
            by_cases k2 : v < t.2.1
            · rw [if_neg k1, if_pos k2, e1, if_neg nv, one]
            · have e2 : t.2.1 = v := i_eq.mpr (by rw [i_lt] at k2; omega)
              rw [if_neg k1, if_neg k2, e1, e2, if_neg nv, one]
        · have cond : ¬ (t.1.toInt ≤ v.toInt ∧ v.toInt ≤ t.2.1.toInt ∧ t.2.2.toInt ∣ v.toInt - t.1.toInt) := fun z => dv z.2.2
          rw [if_neg cond]
          have z1 : ¬ (t.1.toInt - v.toInt) % t.2.2.toInt = 0 := fun z => dv (dl.mpr z)
          have z2 : ¬ (v.toInt - t.2.1.toInt) % t.2.2.toInt = 0 := fun z => dv (dh.mpr z)
          have k1 : t.1 < v := by
            rw [i_lt]
            rcases Int.lt_or_eq_of_le (show t.1.toInt ≤ v.toInt by omega) with q | q
            · exact q
            · exfalso; apply z1; rw [q, Int.sub_self]; exact Int.zero_emod _
          have k2 : v < t.2.1 := by
            rw [i_lt]
            rcases Int.lt_or_eq_of_le (show v.toInt ≤ t.2.1.toInt by omega) with q | q
            · exact q
            · exfalso; apply z2; rw [q, Int.sub_self]; exact Int.zero_emod _
          have lt : (v - Z_J9_floorMod_f86c9 (v - t.2.1) t.2.2) < (v + Z_J9_floorMod_f86c9 (t.1 - v) t.2.2) := by rw [i_lt, gl, gh]; omega
          rw [if_pos k1, if_pos k2, if_pos lt]; rfl
theorem isin9 {y a b : Int64} : Z_X10_isIn y a b = 0 ↔ ¬ (a.toInt ≤ y.toInt ∧ y.toInt ≤ b.toInt) := by
  unfold Z_X10_isIn
  by_cases c1 : y < a
  · rw [if_pos c1]
    rw [i_lt] at c1
    constructor
    · intro _ z; omega
    · intro _; rfl
  · rw [if_neg c1]
    rw [i_lt] at c1
    by_cases c2 : b < y
    · rw [if_pos c2]
      rw [i_lt] at c2
      constructor
      · intro _ z; omega
      · intro _; rfl
    · rw [if_neg c2]
      rw [i_lt] at c2
      constructor
      · intro z; exact absurd z n10
      · intro z; exact absurd ⟨by omega, by omega⟩ z
/-- one number taken out of a set, or none -/
theorem only_ok {c X : Ce} {v : Int64} (hX : Gc X) (h1 : -2305843009213693952 ≤ v.toInt) (h2 : v.toInt ≤ 2305843009213693952) : Gn (J_only c X v) ∧ ab (J_only c X v) = (if X.1 = 2 then (v, v, 0) else K_cut (ab X) v v) := by
  have eO := one_eq (c := c) h1 h2
  have gO : Gc (J_one c v) := (one_ok (t0 := tANY)).1
  have aO : ab (J_one c v) = (v, v, 0) := by rw [eO]; rfl
  unfold J_only J_contains
  rcases hX with q | ⟨q, hv⟩
  · simp only [q, n10, ↓reduceIte]
    exact ⟨Or.inr gO, aO⟩
  · have k2 : ¬ X.1 = 2 := by rw [q]; exact n12
    rw [if_neg k2, if_neg k2, if_pos q, ab_1 q, cut_one hv]
    have hs := hv.2.2.2.1
    by_cases ci : Z_X10_isIn v X.2.1 X.2.2.1 = 0
    · have nc : ¬ (X.2.1.toInt ≤ v.toInt ∧ v.toInt ≤ X.2.2.1.toInt ∧ X.2.2.2.toInt ∣ v.toInt - X.2.1.toInt) := fun z => (isin9.mp ci) ⟨z.1, z.2.1⟩
      rw [if_pos ci, if_neg nc]
      simp only [↓reduceIte]
      exact ⟨Or.inl rfl, rfl⟩
    · have hin : X.2.1.toInt ≤ v.toInt ∧ v.toInt ≤ X.2.2.1.toInt := Classical.byContradiction fun z => ci (isin9.mpr z)
      rw [if_neg ci]
      by_cases s0 : X.2.2.2 = 0
      · have e := i_eq.mp (hv.2.2.2.2.2.mp (by show X.2.2.2.toInt = 0; rw [s0]; rfl))
        have cond : X.2.1.toInt ≤ v.toInt ∧ v.toInt ≤ X.2.2.1.toInt ∧ X.2.2.2.toInt ∣ v.toInt - X.2.1.toInt := ⟨hin.1, hin.2, by rw [show v.toInt - X.2.1.toInt = 0 by have : X.2.1.toInt = X.2.2.1.toInt := e; omega]; exact Int.dvd_zero _⟩
        rw [if_pos s0, if_pos cond]
        simp only [n10, ↓reduceIte]
        exact ⟨Or.inr gO, aO⟩
      · have sp : 0 < X.2.2.2.toInt := by
          rcases Int.lt_or_eq_of_le hs with z | z
          · exact z
          · exact absurd (i_eq.mpr (z.symm.trans iz0.symm)) s0
        rw [if_neg s0]
        have b1 := hv.1
        have b3 := hv.2.2.1
        have fs : (v - X.2.1).toInt = v.toInt - X.2.1.toInt := i_sub (by omega) (by omega)
        obtain ⟨r1, r2, r3, r4, r5, r6⟩ := rem_e (x := v - X.2.1) sp
        have r0 := r5 (by omega)
        have re := r2 (by omega)
        rw [fs] at re
        by_cases cz : (v - X.2.1) - (v - X.2.1) / X.2.2.2 * X.2.2.2 = 0
        · have dz : (v.toInt - X.2.1.toInt) % X.2.2.2.toInt = 0 := by rw [re, cz]; rfl
          have cond : X.2.1.toInt ≤ v.toInt ∧ v.toInt ≤ X.2.2.1.toInt ∧ X.2.2.2.toInt ∣ v.toInt - X.2.1.toInt := ⟨hin.1, hin.2, Int.dvd_of_emod_eq_zero dz⟩
          rw [if_pos cz, if_pos cond]
          simp only [n10, ↓reduceIte]
          exact ⟨Or.inr gO, aO⟩
        · have nc : ¬ (X.2.1.toInt ≤ v.toInt ∧ v.toInt ≤ X.2.2.1.toInt ∧ X.2.2.2.toInt ∣ v.toInt - X.2.1.toInt) := fun z => cz (i_eq.mpr (by rw [← re, iz0]; exact Int.emod_eq_zero_of_dvd z.2.2))
          rw [if_neg cz, if_neg nc]
          simp only [↓reduceIte]
          exact ⟨Or.inl rfl, rfl⟩
