theorem p2_b {e k B : Nat} (h : e ≤ k) (hB : 2 ^ k ≤ B) : (2 : Int) ^ e ≤ (B : Int) := by
  have h1 : (2 : Nat) ^ e ≤ B := Nat.le_trans (Nat.pow_le_pow_right (by decide) h) hB
  have h2 : ((2 ^ e : Nat) : Int) = (2 : Int) ^ e := by simp
  rw [← h2]
  exact Int.ofNat_le.mpr h1
theorem w32 : (4294967296 : Int) = 2 ^ 32 := by simp
theorem w31 : (2147483648 : Int) = 2 ^ 31 := by simp
theorem gkey {c : Ce} {t0 : Tr} {R g : Int64} (m : Int) (hM : 4294967296 = g.toInt * m) (gp : 0 < g.toInt) (gb : g.toInt ≤ 4294967296) (m1 : 0 ≤ R.toInt) (m2 : R.toInt < g.toInt) : Gc (J_make c 1 R (R + ((4294967295 - R) / g * g)) g) ∧ ab (J_make c 1 R (R + ((4294967295 - R) / g * g)) g) = K_become t0 R ((4294967296 - g) + R) g ∧ (J_make c 1 R (R + ((4294967295 - R) / g * g)) g).1 = 1 ∧ 0 ≤ (J_make c 1 R (R + ((4294967295 - R) / g * g)) g).2.1.toInt ∧ (J_make c 1 R (R + ((4294967295 - R) / g * g)) g).2.2.1.toInt < 4294967296 := by
  have iw : (4294967295 : Int64).toInt = 4294967295 := rfl
  have f3 : (4294967295 - R.toInt) / g.toInt * g.toInt = 4294967296 - g.toInt := by
    have := q_up (N := 4294967296) (r := R.toInt) (g := g.toInt) (m := m) gp hM m1 m2
    rwa [show (4294967296 : Int) - 1 - R.toInt = 4294967295 - R.toInt by omega] at this
  have hd0 : g.toInt ∣ 4294967296 := ⟨m, hM⟩
  clear hM
  have f1 : (4294967295 - R).toInt = 4294967295 - R.toInt := by rw [i_sub (by rw [iw]; omega) (by rw [iw]; omega), iw]
  have f2 := (q_ok (x := 4294967295 - R) (s := g) (by rw [f1]; omega) gp).1
  rw [f1, f3] at f2
  generalize hQ : (4294967295 - R) / g * g = Q at f2 ⊢
  have f4 : (R + Q).toInt = 4294967296 - g.toInt + R.toInt := by rw [i_add (by rw [f2]; omega) (by rw [f2]; omega), f2]; omega
  have f5 : (4294967296 - g).toInt = 4294967296 - g.toInt := by rw [i_sub (by rw [iz32]; omega) (by rw [iz32]; omega), iz32]
  have f6 : R + Q = 4294967296 - g + R := by rw [i_eq, f4, i_add (by rw [f5]; omega) (by rw [f5]; omega), f5]
  rw [f6] at f4 ⊢
  generalize 4294967296 - g + R = U at f4 ⊢
  have hd : g.toInt ∣ U.toInt - R.toInt := by
    rw [f4, show 4294967296 - g.toInt + R.toInt - R.toInt = 4294967296 - g.toInt by omega]
    exact Int.dvd_sub hd0 (Int.dvd_refl _)
  obtain ⟨k1, k2⟩ := mk_ok (c := c) (t0 := t0) (l := R) (u := U) (d := g) (by omega) (by omega) hd (fun z => by omega)
  have n1 : ¬ R < -2305843009213693952 := by rw [i_lt, izmB]; omega
  have n2 : ¬ (2305843009213693952 : Int64) < U := by rw [i_lt, izB, f4]; omega
  have n3 : ¬ U < -2305843009213693952 := by rw [i_lt, izmB, f4]; omega
  have n4 : ¬ (2305843009213693952 : Int64) < R := by rw [i_lt, izB]; omega
  refine ⟨k1, k2, ?_⟩
  unfold J_make
  simp only [n1, n2, n3, n4, ↓reduceIte]
  by_cases z : R = U
  · rw [if_pos z]; exact ⟨rfl, m1, by show U.toInt < _; omega⟩
  · rw [if_neg z]; exact ⟨rfl, m1, by show U.toInt < _; omega⟩
theorem g_facts {s l : Int64} (hs : 0 < s.toInt) : 0 < (gJ s 4294967296).toInt ∧ (gJ s 4294967296).toInt ≤ 4294967296 ∧ (∃ m : Int, 4294967296 = (gJ s 4294967296).toInt * m) ∧ (l &&& (gJ s 4294967296 - 1)).toInt = l.toInt % (gJ s 4294967296).toInt ∧ (s.toInt < 4294967296 → gJ s 4294967296 = Z_J13_lowestOneBit_067f4 s ∧ (gJ s 4294967296).toInt ≤ 2147483648 ∧ ∃ m : Int, 2147483648 = (gJ s 4294967296).toInt * m) := by
  obtain ⟨-, e, e1, e2, e3⟩ := g32 hs
  have hm := land_mask (x := l) e1 e2
  rw [← e2] at hm
  have hb9 := p2_b (B := 4294967296) e1 (Nat.le_of_ble_eq_true rfl)
  have hp : (0 : Int) < 2 ^ e := Int.pow_pos (by decide)
  refine ⟨by rw [e2]; exact hp, by rw [e2]; exact hb9, ⟨2 ^ (32 - e), by rw [e2, w32]; exact dv32 e1⟩, hm, fun h => ⟨(e3 h).1, ?_, ⟨2 ^ (31 - e), by rw [e2, w31]; exact dv32 (e3 h).2⟩⟩⟩
  rw [e2]
  exact p2_b (B := 2147483648) (e3 h).2 (Nat.le_of_ble_eq_true rfl)
theorem gcase {c : Ce} {t0 : Tr} {l s : Int64} (hs : 0 < s.toInt) : ∃ X : Ce, (if (l - l / (gJ s 4294967296) * (gJ s 4294967296)) < (0 : Int64) then J_make c 1 ((l - l / (gJ s 4294967296) * (gJ s 4294967296)) + (gJ s 4294967296)) (((l - l / (gJ s 4294967296) * (gJ s 4294967296)) + (gJ s 4294967296)) + (((4294967295 - ((l - l / (gJ s 4294967296) * (gJ s 4294967296)) + (gJ s 4294967296))) / (gJ s 4294967296)) * (gJ s 4294967296))) (gJ s 4294967296) else J_make c 1 (l - l / (gJ s 4294967296) * (gJ s 4294967296)) ((l - l / (gJ s 4294967296) * (gJ s 4294967296)) + (((4294967295 - (l - l / (gJ s 4294967296) * (gJ s 4294967296))) / (gJ s 4294967296)) * (gJ s 4294967296))) (gJ s 4294967296)) = X ∧ Gc X ∧ ab X = K_become t0 (l &&& (Z_J9_min_f86c9 (Z_J13_lowestOneBit_067f4 s) 4294967296 - 1)) ((4294967296 - Z_J9_min_f86c9 (Z_J13_lowestOneBit_067f4 s) 4294967296) + (l &&& (Z_J9_min_f86c9 (Z_J13_lowestOneBit_067f4 s) 4294967296 - 1))) (Z_J9_min_f86c9 (Z_J13_lowestOneBit_067f4 s) 4294967296) ∧ X.1 = 1 ∧ 0 ≤ X.2.1.toInt ∧ X.2.2.1.toInt < 4294967296 := by
  obtain ⟨g0, -⟩ := g32 hs
  obtain ⟨gp, gb, ⟨m, hM⟩, hm, -⟩ := g_facts (l := l) hs
  rw [← g0]
  generalize gJ s 4294967296 = g at gp gb hM hm ⊢
  obtain ⟨r1, r2, r3, r4, r5, r6⟩ := rem_e (x := l) gp
  have m1 := Int.emod_nonneg l.toInt (show g.toInt ≠ 0 by omega)
  have m2 := Int.emod_lt_of_pos l.toInt gp
  have hL : ∀ r : Int64, r.toInt = l.toInt % g.toInt → r = (l &&& (g - 1)) := fun r h => by rw [i_eq, hm, h]
  have key := gkey (c := c) (t0 := t0) (R := l &&& (g - 1)) (g := g) m hM gp gb (by rw [hm]; exact m1) (by rw [hm]; exact m2)
  by_cases c1 : (l - l / g * g) < (0 : Int64)
  · have c2 := c1
    rw [i_lt, iz0] at c2
    have eR := hL ((l - l / g * g) + g) (by rw [i_add (by omega) (by omega), r1 c2])
    refine ⟨_, by rw [if_pos c1, eR], key⟩
  · have c2 := c1
    rw [i_lt, iz0] at c2
    have eR := hL (l - l / g * g) (r2 c2).symm
    refine ⟨_, by rw [if_neg c1, eR], key⟩
theorem skey {c : Ce} {t0 : Tr} {R g L : Int64} (f4 : L.toInt = R.toInt - 2147483648) (gp : 0 < g.toInt) (gb : g.toInt ≤ 2147483648) (hd0 : g.toInt ∣ 4294967296) (f7 : (4294967295 - R.toInt) / g.toInt * g.toInt = 4294967296 - g.toInt) (m1 : 0 ≤ R.toInt) (m2 : R.toInt < g.toInt) : Gc (J_make c 1 L (L + (((2147483648 - 1) - L) / g * g)) g) ∧ ab (J_make c 1 L (L + (((2147483648 - 1) - L) / g * g)) g) = K_become t0 L (2147483648 - g + R) g := by
  have iv : (2147483648 - 1 : Int64).toInt = 2147483647 := by
    have a := i_sub (x := 2147483648) (y := 1) (by rw [iz31, iz1]; omega) (by rw [iz31, iz1]; omega)
    rw [iz31, iz1] at a
    omega
  generalize (2147483648 - 1 : Int64) = V at iv ⊢
  have f6 : (V - L).toInt = 4294967295 - R.toInt := by
    have a := i_sub (x := V) (y := L) (by rw [iv, f4]; omega) (by rw [iv, f4]; omega)
    omega
  have w := (q_ok (x := V - L) (s := g) (by rw [f6]; omega) gp).1
  rw [f6, f7] at w
  generalize (V - L) / g * g = Q2 at w ⊢
  have f8 : (L + Q2).toInt = 2147483648 - g.toInt + R.toInt := by
    have a := i_add (x := L) (y := Q2) (by rw [w, f4]; omega) (by rw [w, f4]; omega)
    omega
  have f9 : (2147483648 - g).toInt = 2147483648 - g.toInt := (i_sub (x := 2147483648) (y := g) (by rw [iz31]; omega) (by rw [iz31]; omega)).trans (by rw [iz31])
  generalize 2147483648 - g = D at f9 ⊢
  have f10 : L + Q2 = D + R := by
    have a := i_add (x := D) (y := R) (by rw [f9]; omega) (by rw [f9]; omega)
    exact i_eq.mpr (by rw [f8, a, f9])
  rw [← f10]
  generalize L + Q2 = U at f8 ⊢
  refine mk_ok (by omega) (by omega) ?_ (fun z => by omega)
  rw [f8, f4, show 2147483648 - g.toInt + R.toInt - (R.toInt - 2147483648) = 4294967296 - g.toInt by omega]
  exact Int.dvd_sub hd0 (Int.dvd_refl _)
theorem low_ok {c c2 : Ce} (h2 : Gc c2) : Gc (J_lowPart c c2) ∧ ab (J_lowPart c c2) = K_takeLowHalf (ab c2) ∧ (J_lowPart c c2).1 = 1 ∧ 0 ≤ (J_lowPart c c2).2.1.toInt ∧ (J_lowPart c c2).2.2.1.toInt < 4294967296 := by
  unfold J_lowPart K_takeLowHalf
  rcases h2 with h2 | ⟨h2, v2⟩
  · have i1 : J_isOne c2 = 0 := by unfold J_isOne; rw [h2]; rfl
    rw [i1, h2, ab_2 h2, any_1]
    simp only [n20, n21, n10, ↓reduceIte]
    have z : ¬ (0 : Int64) < 0 := by decide
    rw [if_neg z]
    have e : (0 + (4294967295 - 0) / 1 * 1 : Int64) = 4294967295 := by rw [Int64.sub_zero, Int64.div_one, Int64.mul_one, Int64.zero_add]
    rw [e]
    have iw : (4294967295 : Int64).toInt = 4294967295 := rfl
    obtain ⟨k1, k2⟩ := mk_ok (c := c) (t0 := tANY) (l := 0) (u := 4294967295) (d := 1) (by rw [iz0, iw]; omega) (by rw [iz1]; omega) (by rw [iz1]; exact Int.one_dvd _) (fun q => by rw [iz1] at q; omega)
    refine ⟨k1, k2, ?_⟩
    have m1 : ¬ (0 : Int64) < -2305843009213693952 := by rw [i_lt, izmB, iz0]; omega
    have m2 : ¬ (2305843009213693952 : Int64) < 4294967295 := by rw [i_lt, izB, iw]; omega
    have m3 : ¬ (4294967295 : Int64) < -2305843009213693952 := by rw [i_lt, izmB, iw]; omega
    have m4 : ¬ (2305843009213693952 : Int64) < 0 := by rw [i_lt, izB, iz0]; omega
    have m5 : ¬ (0 : Int64) = 4294967295 := by rw [i_eq, iz0, iw]; omega
    unfold J_make
    simp only [m1, m2, m3, m4, m5, ↓reduceIte]
    exact ⟨trivial, by rw [iz0]; omega, by rw [iw]; omega⟩
  · have nz : ¬ c2.1 = 0 := by rw [h2]; decide
    rw [if_neg nz, ab_1 h2, any_0 v2]
    simp only [↓reduceIte]
    have hv := v2
    obtain ⟨p1, p2, p3, p4, p5, p6⟩ := v2
    by_cases cs : c2.2.1 = c2.2.2.1
    · have s1 : ¬ K_isSingle c2.2 = 0 := fun q => (sgl hv).mp q cs
      have s2 : ¬ J_isOne c2 = 0 := fun q => s1 (by have := (isone (Or.inr ⟨h2, hv⟩)).mp q; rwa [ab_1 h2] at this)
      rw [if_neg s1, if_neg s2]
      have hm := land_mask (x := c2.2.1) (g := 4294967296) (e := 32) (Nat.le_refl _) (iz32.trans w32)
      have iw : (4294967295 : Int64).toInt = 4294967295 := rfl
      have a9 := i_sub (x := 4294967296) (y := 1) (by rw [iz32, iz1]; omega) (by rw [iz32, iz1]; omega)
      rw [iz32, iz1] at a9
      have e9 : (4294967296 - 1 : Int64) = 4294967295 := i_eq.mpr (by rw [iw]; omega)
      rw [e9] at hm
      have m1 := Int.emod_nonneg c2.2.1.toInt (show (2 : Int) ^ 32 ≠ 0 by rw [← w32]; omega)
      have m2 := Int.emod_lt_of_pos c2.2.1.toInt (show (0 : Int) < 2 ^ 32 by rw [← w32]; omega)
      rw [← hm] at m1 m2
      rw [← w32] at m2
      obtain ⟨k1, k2⟩ := one_ok (c := c) (t0 := c2.2) (v := c2.2.1 &&& 4294967295)
      have e := one_eq (c := c) (v := c2.2.1 &&& 4294967295) (by omega) (by omega)
      refine ⟨k1, k2, ?_⟩
      rw [e]
      exact ⟨rfl, m1, m2⟩
    · have s1 : K_isSingle c2.2 = 0 := (sgl hv).mpr cs
      have s2 : J_isOne c2 = 0 := (isone (Or.inr ⟨h2, hv⟩)).mpr (by rw [ab_1 h2]; exact s1)
      rw [if_pos s1, if_pos s2, if_pos h2]
      have n2 : ¬ c2.1 = 2 := by rw [h2]; decide
      have hs : 0 < c2.2.2.2.toInt := by
        rcases Int.lt_or_eq_of_le p4 with q | q
        · exact q
        · exact absurd (p6.mp q.symm) cs
      obtain ⟨X, x1, x2, x3, x4⟩ := gcase (c := c) (t0 := c2.2) (l := c2.2.1) hs
      by_cases c1 : c2.2.1 < 0
      · rw [if_pos c1, if_pos c1, if_neg n2, x1]
        exact ⟨x2, x3, x4⟩
      · rw [if_neg c1, if_neg c1]
        by_cases c4 : c2.2.2.1 < 4294967296
        · rw [if_pos c4, if_pos c4]
          rw [i_lt, iz0] at c1
          rw [i_lt, iz32] at c4
          exact ⟨Or.inr ⟨h2, hv⟩, ab_1 (c := c2) h2, h2, by show 0 ≤ c2.2.1.toInt; omega, c4⟩
        · rw [if_neg c4, if_neg c4, if_neg n2, x1]
          exact ⟨x2, x3, x4⟩
theorem signed_ok {c c2 : Ce} (h2 : Gc c2) : Gc (J_signed c c2) ∧ ab (J_signed c c2) = K_takeSignedHalf (ab c2) := by
  obtain ⟨a1, a2, a3, a4, a5⟩ := low_ok (c := c) h2
  unfold J_signed K_takeSignedHalf
  rw [← a2, ab_1 a3]
  have v : Vs (J_lowPart c c2).2 := by
    rcases a1 with q | q
    · rw [a3] at q; exact absurd q n12
    · exact q.2
  generalize hX : J_lowPart c c2 = X at a1 a2 a3 a4 a5 v ⊢
  have n0 : ¬ X.1 = 0 := by rw [a3]; decide
  rw [if_neg n0]
  have hv := v
  obtain ⟨p1, p2, p3, p4, p5, p6⟩ := v
  by_cases c1 : X.2.2.1 < 2147483648
  · rw [if_pos c1, if_pos c1]
    exact ⟨a1, ab_1 a3⟩
  · rw [if_neg c1, if_neg c1]
    rw [i_lt, iz31] at c1
    by_cases c3 : X.2.1 < 2147483648
    · rw [if_pos c3, if_pos c3]
      rw [i_lt, iz31] at c3
      have hs : 0 < X.2.2.2.toInt := by
        rcases Int.lt_or_eq_of_le p4 with q | q
        · exact q
        · have := p6.mp q.symm; rw [i_eq] at this; omega
      have hs2 : X.2.2.2.toInt < 4294967296 := by
        have := Int.le_of_dvd (by omega) p5
        omega
      obtain ⟨gp, -, ⟨m32, hM⟩, hm, e3⟩ := g_facts (s := X.2.2.2) (l := X.2.1) hs
      obtain ⟨e4, gb, ⟨m31, hM1⟩⟩ := e3 hs2
      clear e3
      rw [← e4]
      clear e4
      generalize gJ X.2.2.2 4294967296 = g at gp gb hM hM1 hm ⊢
      have m1 := Int.emod_nonneg X.2.1.toInt (show g.toInt ≠ 0 by omega)
      have m2 := Int.emod_lt_of_pos X.2.1.toInt gp
      have z2 : (X.2.1.toInt + 2147483648) % g.toInt = X.2.1.toInt % g.toInt := by rw [hM1, Int.add_mul_emod_self_left]
      rw [← hm] at m1 m2 z2
      clear hm
      generalize (X.2.1 &&& (g - 1)) = R at m1 m2 z2 ⊢
      have f7 : (4294967295 - R.toInt) / g.toInt * g.toInt = 4294967296 - g.toInt := by
        have := q_up (N := 4294967296) (r := R.toInt) (g := g.toInt) (m := m32) gp hM m1 m2
        rwa [show (4294967296 : Int) - 1 - R.toInt = 4294967295 - R.toInt by omega] at this
      have hd0 : g.toInt ∣ 4294967296 := ⟨m32, hM⟩
      clear hM hM1
      have f1 : (X.2.1 + 2147483648).toInt = X.2.1.toInt + 2147483648 := by rw [i_add (by rw [iz31]; omega) (by rw [iz31]; omega), iz31]
      have q1 := (q_ok (x := X.2.1 + 2147483648) (s := g) (by rw [f1]; omega) gp).1
      have f2 : (X.2.1.toInt + 2147483648) / g.toInt * g.toInt = X.2.1.toInt + 2147483648 - R.toInt := by
        have z := Int.mul_ediv_add_emod (X.2.1.toInt + 2147483648) g.toInt
        rw [z2, Int.mul_comm] at z
        omega
      rw [f1, f2] at q1
      generalize (X.2.1 + 2147483648) / g * g = Q at q1 ⊢
      have f3 : (X.2.1 - Q).toInt = R.toInt - 2147483648 := by rw [i_sub (by rw [q1]; omega) (by rw [q1]; omega), q1]; omega
      have f4 : (R - 2147483648).toInt = R.toInt - 2147483648 := by rw [i_sub (by rw [iz31]; omega) (by rw [iz31]; omega), iz31]
      have f5 : X.2.1 - Q = R - 2147483648 := by rw [i_eq, f3, f4]
      rw [f5]
      exact skey (L := R - 2147483648) f4 gp gb hd0 f7 m1 m2
    · rw [if_neg c3, if_neg c3]
      rw [i_lt, iz31] at c3
      have f1 : (X.2.1 - 4294967296).toInt = X.2.1.toInt - 4294967296 := i_sub (by rw [iz32]; omega) (by rw [iz32]; omega)
      have f2 : (X.2.2.1 - 4294967296).toInt = X.2.2.1.toInt - 4294967296 := i_sub (by rw [iz32]; omega) (by rw [iz32]; omega)
      refine mk_ok (by omega) p4 ?_ (fun z => ?_)
      · rw [f1, f2, show X.2.2.1.toInt - 4294967296 - (X.2.1.toInt - 4294967296) = X.2.2.1.toInt - X.2.1.toInt by omega]; exact p5
      · have := p6.mp z; rw [i_eq] at this; omega
