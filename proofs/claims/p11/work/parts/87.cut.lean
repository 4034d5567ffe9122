/-! remainders -/
theorem rem_e {x s : Int64} (hs : 0 < s.toInt) : ((x - x / s * s).toInt < 0 → x.toInt % s.toInt = (x - x / s * s).toInt + s.toInt) ∧ (¬ (x - x / s * s).toInt < 0 → x.toInt % s.toInt = (x - x / s * s).toInt) ∧ -s.toInt < (x - x / s * s).toInt ∧ (x - x / s * s).toInt < s.toInt ∧ (0 ≤ x.toInt → 0 ≤ (x - x / s * s).toInt) ∧ (x.toInt ≤ 0 → (x - x / s * s).toInt ≤ 0) := by
  have hn : ¬ s = 0 := fun e => by rw [e, iz0] at hs; omega
  rw [lr_toInt x s hn]
  have h1 : (x.toInt.tmod s.toInt).natAbs < s.toInt.natAbs := by rw [Int.natAbs_tmod]; exact Nat.mod_lt _ (by omega)
  have h2 : s.toInt * x.toInt.tdiv s.toInt + x.toInt.tmod s.toInt = x.toInt := Int.mul_tdiv_add_tmod _ _
  have h3 : x.toInt % s.toInt = (x.toInt.tmod s.toInt) % s.toInt := by
    conv => lhs; rw [← h2]
    rw [Int.add_comm, Int.add_mul_emod_self_left]
  refine ⟨fun h => ?_, fun h => ?_, by omega, by omega, fun h => Int.tmod_nonneg _ h, fun h => ?_⟩
  · have e := Int.add_mul_emod_self_left (x.toInt.tmod s.toInt) s.toInt 1
    rw [Int.mul_one] at e
    rw [h3, ← e]
    exact Int.emod_eq_of_lt (by omega) (by omega)
  · rw [h3]; exact Int.emod_eq_of_lt (by omega) (by omega)
  · have := Int.tmod_nonneg (a := -x.toInt) s.toInt (by omega)
    rw [Int.neg_tmod] at this
    omega
theorem neg_msb {x : Int64} : x.toInt < 0 ↔ x.toBitVec.msb = true := by
  rw [BitVec.msb_eq_toInt]
  have h5 : x.toInt = x.toBitVec.toInt := rfl
  rw [h5]
  simp
theorem fmod {x s : Int64} (hs : 0 < s.toInt) : (Z_J9_floorMod_f86c9 x s).toInt = x.toInt % s.toInt := by
  obtain ⟨r1, r2, r3, r4, r5, r6⟩ := rem_e (x := x) hs
  have hx : (x ^^^ s) < 0 ↔ x.toInt < 0 := by
    rw [i_lt, iz0, neg_msb, neg_msb]
    have e : (x ^^^ s).toBitVec = x.toBitVec ^^^ s.toBitVec := rfl
    rw [e, BitVec.msb_xor]
    have : s.toBitVec.msb = false := by
      cases hm : s.toBitVec.msb with
      | false => rfl
      | true => have := neg_msb.mpr hm; omega
    rw [this]
    simp
  unfold Z_J9_floorMod_f86c9
  have b1 := i_rg s
  by_cases c : x.toInt < 0
  · rw [if_pos (hx.mpr c)]
    by_cases c2 : x - x / s * s = 0
    · rw [if_pos c2]
      rw [r2 (by rw [c2, iz0]; omega)]
    · rw [if_neg c2]
      have n0 : ¬ (x - x / s * s).toInt = 0 := fun e => c2 (i_eq.mpr (e.trans iz0.symm))
      have n1 := r6 (by omega)
      rw [i_add (by omega) (by omega), r1 (by omega)]
  · rw [if_neg (fun z => c (hx.mp z))]
    rw [r2 (by have := r5 (by omega); omega)]
theorem up_ok {d s : Int64} (hd : 0 < d.toInt) (hd2 : d.toInt ≤ 4611686018427387904) (hs : 0 < s.toInt) (hs2 : s.toInt ≤ 4611686018427387904) : ((d + s - 1) / s * s).toInt = (if d.toInt % s.toInt = 0 then d.toInt else d.toInt - d.toInt % s.toInt + s.toInt) := by
  have e1 : (d + s).toInt = d.toInt + s.toInt ∨ d.toInt + s.toInt = 9223372036854775808 := by
    by_cases z : d.toInt + s.toInt = 9223372036854775808
    · exact Or.inr z
    · exact Or.inl (i_add (by omega) (by omega))
  have e2 : (d + s - 1).toInt = d.toInt + s.toInt - 1 := by
    rw [Int64.toInt_sub, Int64.toInt_add, iz1, Int.bmod_sub_bmod]
    exact Int.bmod_eq_of_le (by omega) (by omega)
  rw [(q_ok (x := d + s - 1) (s := s) (by omega) hs).1, e2]
  exact up_div hs
theorem K_cut_any {y1 y3 : Int64} : K_cut tANY y1 y3 = tANY := rfl
theorem cut_ok {c c2 : Ce} {x3 x6 : Int32} {y1 y3 y4 y7 : Int64} (h2 : Gc c2) (hl : (x3 = 0 ∧ y1 = -9223372036854775808) ∨ (x3 = 1 ∧ y1 = y4)) (hm : (x6 = 0 ∧ y3 = 9223372036854775807) ∨ (x6 = 1 ∧ y3 = y7)) : Gn (J_cut c c2 x3 y4 x6 y7) ∧ ab (J_cut c c2 x3 y4 x6 y7) = K_cut (ab c2) y1 y3 := by
  unfold J_cut
  rcases h2 with h2 | ⟨h2, v2⟩
  · have n : ¬ c2.1 = 1 := by rw [h2]; decide
    rw [if_neg n]
    exact ⟨Or.inr (Or.inl h2), by rw [ab_2 h2]; exact (ab_2 (c := c2) h2)⟩
  · rw [if_pos h2, ab_1 h2]
    have hv := v2
    have sL := vs_le v2
    obtain ⟨p1, p2, p3, p4, p5, p6⟩ := v2
    have n0 : ¬ c2.2.2.2 < 0 := by rw [i_lt, iz0]; omega
    -- the bounds as J has them
    have rl := i_rg y1
    have rm := i_rg y3
    have iMin : (-9223372036854775808 : Int64).toInt = -9223372036854775808 := rfl
    have iMax : (9223372036854775807 : Int64).toInt = 9223372036854775807 := rfl
    have J1 : J_cut_p17 c c2 x3 y4 x6 y7 = (if c2.2.1 < y1 then (if c2.2.2.1 < y1 then (0, c.2) else if c2.2.2.2 = 0 then J_cut_p102 c c2 x6 y7 c2.2.1 c2.2.2.1 c2.2.2.2 else J_cut_p102 c c2 x6 y7 (c2.2.1 + (y1 - c2.2.1 + c2.2.2.2 - 1) / c2.2.2.2 * c2.2.2.2) c2.2.2.1 c2.2.2.2) else J_cut_p102 c c2 x6 y7 c2.2.1 c2.2.2.1 c2.2.2.2) := by
      unfold J_cut_p17
      rcases hl with ⟨rfl, rfl⟩ | ⟨rfl, rfl⟩
      · have : ¬ c2.2.1 < -9223372036854775808 := by rw [i_lt, iMin]; have := (i_rg c2.2.1).1; omega
        rw [if_pos rfl, if_neg this]
      · rw [if_neg n10]
    have J2 : ∀ a, J_cut_p102 c c2 x6 y7 a c2.2.2.1 c2.2.2.2 = (if y3 < c2.2.2.1 then (if y3 < c2.2.1 then (0, c.2) else if c2.2.2.2 = 0 then J_cut_p168 c a c2.2.2.1 c2.2.2.2 else J_cut_p168 c a (c2.2.2.1 - (c2.2.2.1 - y3 + c2.2.2.2 - 1) / c2.2.2.2 * c2.2.2.2) c2.2.2.2) else J_cut_p168 c a c2.2.2.1 c2.2.2.2) := by
      intro a
      unfold J_cut_p102
      rcases hm with ⟨rfl, rfl⟩ | ⟨rfl, rfl⟩
      · have : ¬ (9223372036854775807 : Int64) < c2.2.2.1 := by rw [i_lt, iMax]; have := (i_rg c2.2.2.1).2; omega
        rw [if_pos rfl, if_neg this]
      · rw [if_neg n10]
    rw [J1]
    simp only [J2]
    clear J1 J2 hl hm
    unfold K_cut
    rw [if_neg n0]
    -- the end
    have fin : ∀ a b : Int64, (-2305843009213693952 ≤ a.toInt) → b.toInt ≤ 2305843009213693952 → c2.2.2.2.toInt ∣ b.toInt - a.toInt → (c2.2.2.2.toInt = 0 → a.toInt = b.toInt) → Gn (J_cut_p168 c a b c2.2.2.2) ∧ ab (J_cut_p168 c a b c2.2.2.2) = (if b < a then tNO else K_become c2.2 a b c2.2.2.2) := by
      intro a b ha hb hd hz
      unfold J_cut_p168
      by_cases z : b < a
      · rw [if_pos z, if_pos z]; exact ⟨Or.inl rfl, rfl⟩
      · rw [if_neg z, if_neg z]
        rw [i_lt] at z
        obtain ⟨m1, m2⟩ := mk_ok (c := c) (t0 := c2.2) (l := a) (u := b) (d := c2.2.2.2) (by omega) p4 hd hz
        exact ⟨Or.inr m1, m2⟩
    by_cases cu : c2.2.2.1 < y1
    · have : c2.2.1 < y1 := by rw [i_lt] at cu ⊢; omega
      simp only [if_pos this, if_pos cu]
      exact ⟨Or.inl rfl, rfl⟩
    · simp only [if_neg cu]
      by_cases cl : y3 < c2.2.1
      · have q : y3 < c2.2.2.1 := by rw [i_lt] at cl ⊢; omega
        simp only [if_pos cl, if_pos q, ite_self]
        exact ⟨Or.inl rfl, rfl⟩
      · simp only [if_neg cl]
        rw [i_lt] at cu cl
        by_cases s0 : c2.2.2.2 = 0
        · have ns : ¬ (0 : Int64) < c2.2.2.2 := by rw [s0]; decide
          simp only [if_pos s0, if_neg ns, ite_self]
          exact fin _ _ p1 p3 p5 (fun e => i_eq.mp (p6.mp e))
        · have sp : 0 < c2.2.2.2.toInt := by
            rcases Int.lt_or_eq_of_le p4 with q | q
            · exact q
            · exact absurd (i_eq.mpr (q.symm.trans iz0.symm)) s0
          have ns : (0 : Int64) < c2.2.2.2 := by rw [i_lt, iz0]; exact sp
          simp only [if_neg s0, if_pos ns]
          -- the lower end
          have low : c2.2.1 < y1 → c2.2.1 + (y1 - c2.2.1 + c2.2.2.2 - 1) / c2.2.2.2 * c2.2.2.2 = y1 + Z_J9_floorMod_f86c9 (c2.2.1 - y1) c2.2.2.2 ∧ -2305843009213693952 ≤ (y1 + Z_J9_floorMod_f86c9 (c2.2.1 - y1) c2.2.2.2).toInt ∧ c2.2.2.2.toInt ∣ (y1 + Z_J9_floorMod_f86c9 (c2.2.1 - y1) c2.2.2.2).toInt - c2.2.1.toInt := by
            intro q
            rw [i_lt] at q
            have f1 : (y1 - c2.2.1).toInt = y1.toInt - c2.2.1.toInt := i_sub (by omega) (by omega)
            have f2 : (c2.2.1 - y1).toInt = c2.2.1.toInt - y1.toInt := i_sub (by omega) (by omega)
            have u := up_ok (d := y1 - c2.2.1) (s := c2.2.2.2) (by omega) (by omega) sp sL
            rw [f1] at u
            have m := fmod (x := c2.2.1 - y1) sp
            rw [f2] at m
            have e1 : (c2.2.1.toInt - y1.toInt) % c2.2.2.2.toInt = if (y1.toInt - c2.2.1.toInt) % c2.2.2.2.toInt = 0 then 0 else c2.2.2.2.toInt - (y1.toInt - c2.2.1.toInt) % c2.2.2.2.toInt := by
              rw [show c2.2.1.toInt - y1.toInt = -(y1.toInt - c2.2.1.toInt) by omega]
              generalize y1.toInt - c2.2.1.toInt = D
              have b1 := Int.emod_nonneg D (show c2.2.2.2.toInt ≠ 0 by omega)
              have b2 := Int.emod_lt_of_pos D sp
              by_cases z : D % c2.2.2.2.toInt = 0
              · rw [if_pos z]
                exact Int.emod_eq_zero_of_dvd (Int.dvd_neg.mpr (Int.dvd_of_emod_eq_zero z))
              · rw [if_neg z]
                have : -D = (c2.2.2.2.toInt - D % c2.2.2.2.toInt) + c2.2.2.2.toInt * (-(D / c2.2.2.2.toInt) - 1) := by
                  have := Int.mul_ediv_add_emod D c2.2.2.2.toInt
                  rw [Int.mul_sub, Int.mul_neg, Int.mul_one]
                  omega
                rw [this, Int.add_mul_emod_self_left]
                exact Int.emod_eq_of_lt (by omega) (by omega)
            have b1 := Int.emod_nonneg (y1.toInt - c2.2.1.toInt) (show c2.2.2.2.toInt ≠ 0 by omega)
            have b2 := Int.emod_lt_of_pos (y1.toInt - c2.2.1.toInt) sp
            have key : ((y1 - c2.2.1 + c2.2.2.2 - 1) / c2.2.2.2 * c2.2.2.2).toInt = y1.toInt - c2.2.1.toInt + (c2.2.1.toInt - y1.toInt) % c2.2.2.2.toInt := by
              rw [u, e1]
              split
              · omega
              · omega
            have b3 := Int.emod_nonneg (c2.2.1.toInt - y1.toInt) (show c2.2.2.2.toInt ≠ 0 by omega)
            have b4 := Int.emod_lt_of_pos (c2.2.1.toInt - y1.toInt) sp
            have g1 : (y1 + Z_J9_floorMod_f86c9 (c2.2.1 - y1) c2.2.2.2).toInt = y1.toInt + (c2.2.1.toInt - y1.toInt) % c2.2.2.2.toInt := by rw [i_add (by omega) (by omega), m]
            refine ⟨?_, by rw [g1]; omega, ?_⟩
            · rw [i_eq, g1, i_add (by rw [key]; omega) (by rw [key]; omega), key]
              omega
            · rw [g1]
              have := Int.mul_ediv_add_emod (c2.2.1.toInt - y1.toInt) c2.2.2.2.toInt
              refine ⟨-((c2.2.1.toInt - y1.toInt) / c2.2.2.2.toInt), ?_⟩
              rw [Int.mul_neg]
              omega
          have high : y3 < c2.2.2.1 → c2.2.2.1 - (c2.2.2.1 - y3 + c2.2.2.2 - 1) / c2.2.2.2 * c2.2.2.2 = y3 - Z_J9_floorMod_f86c9 (y3 - c2.2.2.1) c2.2.2.2 ∧ (y3 - Z_J9_floorMod_f86c9 (y3 - c2.2.2.1) c2.2.2.2).toInt ≤ 2305843009213693952 ∧ c2.2.2.2.toInt ∣ c2.2.2.1.toInt - (y3 - Z_J9_floorMod_f86c9 (y3 - c2.2.2.1) c2.2.2.2).toInt := by
            intro q
            rw [i_lt] at q
            have f1 : (c2.2.2.1 - y3).toInt = c2.2.2.1.toInt - y3.toInt := i_sub (by omega) (by omega)
            have f2 : (y3 - c2.2.2.1).toInt = y3.toInt - c2.2.2.1.toInt := i_sub (by omega) (by omega)
            have u := up_ok (d := c2.2.2.1 - y3) (s := c2.2.2.2) (by omega) (by omega) sp sL
            rw [f1] at u
            have m := fmod (x := y3 - c2.2.2.1) sp
            rw [f2] at m
            have e1 : (y3.toInt - c2.2.2.1.toInt) % c2.2.2.2.toInt = if (c2.2.2.1.toInt - y3.toInt) % c2.2.2.2.toInt = 0 then 0 else c2.2.2.2.toInt - (c2.2.2.1.toInt - y3.toInt) % c2.2.2.2.toInt := by
              rw [show y3.toInt - c2.2.2.1.toInt = -(c2.2.2.1.toInt - y3.toInt) by omega]
              generalize c2.2.2.1.toInt - y3.toInt = D
              have b1 := Int.emod_nonneg D (show c2.2.2.2.toInt ≠ 0 by omega)
              have b2 := Int.emod_lt_of_pos D sp
              by_cases z : D % c2.2.2.2.toInt = 0
              · rw [if_pos z]
                exact Int.emod_eq_zero_of_dvd (Int.dvd_neg.mpr (Int.dvd_of_emod_eq_zero z))
              · rw [if_neg z]
                have : -D = (c2.2.2.2.toInt - D % c2.2.2.2.toInt) + c2.2.2.2.toInt * (-(D / c2.2.2.2.toInt) - 1) := by
                  have := Int.mul_ediv_add_emod D c2.2.2.2.toInt
                  rw [Int.mul_sub, Int.mul_neg, Int.mul_one]
                  omega
                rw [this, Int.add_mul_emod_self_left]
                exact Int.emod_eq_of_lt (by omega) (by omega)
            have b1 := Int.emod_nonneg (c2.2.2.1.toInt - y3.toInt) (show c2.2.2.2.toInt ≠ 0 by omega)
            have b2 := Int.emod_lt_of_pos (c2.2.2.1.toInt - y3.toInt) sp
            have key : ((c2.2.2.1 - y3 + c2.2.2.2 - 1) / c2.2.2.2 * c2.2.2.2).toInt = c2.2.2.1.toInt - y3.toInt + (y3.toInt - c2.2.2.1.toInt) % c2.2.2.2.toInt := by
              rw [u, e1]
              split
              · omega
              · omega
            have b3 := Int.emod_nonneg (y3.toInt - c2.2.2.1.toInt) (show c2.2.2.2.toInt ≠ 0 by omega)
            have b4 := Int.emod_lt_of_pos (y3.toInt - c2.2.2.1.toInt) sp
            have g1 : (y3 - Z_J9_floorMod_f86c9 (y3 - c2.2.2.1) c2.2.2.2).toInt = y3.toInt - (y3.toInt - c2.2.2.1.toInt) % c2.2.2.2.toInt := by rw [i_sub (by omega) (by omega), m]
            refine ⟨?_, by rw [g1]; omega, ?_⟩
            · rw [i_eq, g1, i_sub (by rw [key]; omega) (by rw [key]; omega), key]
              omega
            · rw [g1]
              have := Int.mul_ediv_add_emod (y3.toInt - c2.2.2.1.toInt) c2.2.2.2.toInt
              refine ⟨-((y3.toInt - c2.2.2.1.toInt) / c2.2.2.2.toInt), ?_⟩
              rw [Int.mul_neg]
              omega
          by_cases cL : c2.2.1 < y1
          · obtain ⟨l1, l2, l3⟩ := low cL
            by_cases cH : y3 < c2.2.2.1
            · obtain ⟨k1, k2, k3⟩ := high cH
              simp only [if_pos cL, if_pos cH]
              rw [l1, k1]
              refine fin _ _ l2 k2 ?_ (fun e => by omega)
              have := Int.dvd_sub (Int.dvd_sub p5 l3) k3
              generalize (y1 + Z_J9_floorMod_f86c9 (c2.2.1 - y1) c2.2.2.2).toInt = A at this ⊢
              generalize (y3 - Z_J9_floorMod_f86c9 (y3 - c2.2.2.1) c2.2.2.2).toInt = B at this ⊢
              rwa [show c2.2.2.1.toInt - c2.2.1.toInt - (A - c2.2.1.toInt) - (c2.2.2.1.toInt - B) = B - A by omega] at this
            · simp only [if_pos cL, if_neg cH]
              rw [l1]
              refine fin _ _ l2 p3 ?_ (fun e => by omega)
              have := Int.dvd_sub p5 l3
              generalize (y1 + Z_J9_floorMod_f86c9 (c2.2.1 - y1) c2.2.2.2).toInt = A at this ⊢
              rwa [show c2.2.2.1.toInt - c2.2.1.toInt - (A - c2.2.1.toInt) = c2.2.2.1.toInt - A by omega] at this
          · by_cases cH : y3 < c2.2.2.1
            · obtain ⟨k1, k2, k3⟩ := high cH
              simp only [if_neg cL, if_pos cH]
              rw [k1]
              refine fin _ _ p1 k2 ?_ (fun e => by omega)
              have := Int.dvd_sub p5 k3
              generalize (y3 - Z_J9_floorMod_f86c9 (y3 - c2.2.2.1) c2.2.2.2).toInt = B at this ⊢
              rwa [show c2.2.2.1.toInt - c2.2.1.toInt - (c2.2.2.1.toInt - B) = B - c2.2.1.toInt by omega] at this
            · simp only [if_neg cL, if_neg cH]
              exact fin _ _ p1 p3 p5 (fun e => i_eq.mp (p6.mp e))
