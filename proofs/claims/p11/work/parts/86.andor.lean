theorem p2_mono {a b : Nat} (h : (2 : Int) ^ a < 2 ^ b) : a < b := by
  have : (2 : Nat) ^ a < 2 ^ b := by exact_mod_cast h
  exact (Nat.pow_lt_pow_iff_right (by decide)).mp this
theorem p2_uniq {y : Int} {j k : Nat} (h1 : (2 : Int) ^ j ≤ y) (h2 : y < 2 ^ (j + 1)) (h3 : (2 : Int) ^ k ≤ y) (h4 : y < 2 ^ (k + 1)) : j = k := by
  have a := p2_mono (Int.lt_of_le_of_lt h1 h4)
  have b := p2_mono (Int.lt_of_le_of_lt h3 h2)
  omega
theorem orL_sp {y : Int64} (hy : 0 < y.toInt) : ∀ (fu : Nat) (m : Int64) (i : Nat), i ≤ 63 → 63 < fu + i → m.toInt = 2 ^ i - 1 → (i = 0 ∨ ∃ k, i = k + 1 ∧ (2 : Int) ^ k ≤ y.toInt) → ∃ k : Nat, (orL fu y m).toInt = 2 ^ (k + 1) - 1 ∧ (2 : Int) ^ k ≤ y.toInt ∧ y.toInt < 2 ^ (k + 1) := by
  intro fu
  induction fu with
  | zero => intro m i h1 h2; omega
  | succ fu ih =>
    intro m i h1 h2 h3 h4
    unfold orL
    by_cases c : m < y
    · rw [if_pos c]
      obtain ⟨j, j1, j2, j3⟩ := of_n (fu := fu) ⟨i, h1, by omega, h3⟩ c
      rw [i_lt, h3] at c
      have hm : (2 * m + 1).toInt = 2 ^ (i + 1) - 1 := by
        have hyl := (i_rg y).2
        have hp : (2 : Int) ^ (i + 1) = 2 * 2 ^ i := by rw [Int.pow_succ, Int.mul_comm]
        have hq : (0 : Int) < 2 ^ i := Int.pow_pos (by decide)
        have e1 : (2 * m).toInt = 2 * (2 ^ i - 1) ∨ True := Or.inr trivial
        rw [Int64.toInt_add, Int64.toInt_mul, h3, show (2 : Int64).toInt = 2 from rfl, iz1, Int.bmod_add_bmod, hp]
        have hb : (2 : Int) ^ i ≤ 2 ^ 62 := by
          rcases Nat.lt_or_ge i 63 with q | q
          · exact_mod_cast Nat.pow_le_pow_right (by decide) (by omega)
          · exfalso
            have : i = 63 := by omega
            subst this
            omega
        rw [Int.bmod_eq_of_le (by omega) (by omega)]
        omega
      refine ih (2 * m + 1) (i + 1) ?_ (by omega) hm (Or.inr ⟨i, rfl, by omega⟩)
      rcases Nat.lt_or_ge i 63 with q | q
      · omega
      · exfalso
        have : i = 63 := by omega
        subst this
        have hyl := (i_rg y).2
        omega
    · rw [if_neg c]
      rw [i_lt, h3] at c
      rcases h4 with h4 | ⟨k, k1, k2⟩
      · subst h4; exfalso; simp at c; omega
      · subst k1; exact ⟨k, h3, k2, by omega⟩
def shp9 (k : Nat) : Prop := ((((-9223372036854775808) : Int64).toUInt64 >>> ((Int32.ofNat k).toInt64.toUInt64 &&& Int64.toUInt64 63)).toInt64).toBitVec.toNat = 2 ^ (63 - k)
theorem shp_ok {k : Nat} (h : k < 64) : shp9 k := (show ∀ k : Fin 64, shp9 k.val by unfold shp9; decide +kernel) ⟨k, h⟩
theorem nlz64 {y : Int64} (h : 0 < y.toInt) (h2 : y.toInt ≤ 2305843009213693952) : ∃ j : Nat, (Z_J13_numberOfLeadingZeros_95d88 y).toInt = 63 - (j : Int) ∧ (2 : Int) ^ j ≤ y.toInt ∧ y.toInt < 2 ^ (j + 1) := by
  have hn := bv_nn (x := y) (by omega)
  have hU : y.toUInt64.toNat = y.toInt.toNat := by have : y.toUInt64.toNat = y.toBitVec.toNat := rfl; omega
  have eS : (y.toUInt64 >>> ((32 : Int32).toInt64.toUInt64 &&& Int64.toUInt64 63)).toNat = y.toInt.toNat / 2 ^ 32 := by
    rw [UInt64.toNat_shiftRight, show ((32 : Int32).toInt64.toUInt64 &&& Int64.toUInt64 63).toNat % 64 = 32 from rfl, hU, Nat.shiftRight_eq_div_pow]
  have eI : ((y.toUInt64 >>> ((32 : Int32).toInt64.toUInt64 &&& Int64.toUInt64 63)).toInt64).toInt = y.toInt / 4294967296 := by
    have e : ((y.toUInt64 >>> ((32 : Int32).toInt64.toUInt64 &&& Int64.toUInt64 63)).toInt64).toBitVec.toNat = (y.toUInt64 >>> ((32 : Int32).toInt64.toUInt64 &&& Int64.toUInt64 63)).toNat := rfl
    rw [nn_bv (by rw [e, eS]; omega), e, eS]
    omega
  have eH : ((y.toUInt64 >>> ((32 : Int32).toInt64.toUInt64 &&& Int64.toUInt64 63)).toInt64).toInt32.toInt = y.toInt / 4294967296 := by
    rw [Int64.toInt_toInt32, eI, bmod_in (by omega) (by omega)]
  unfold Z_J13_numberOfLeadingZeros_95d88
  generalize ((y.toUInt64 >>> ((32 : Int32).toInt64.toUInt64 &&& Int64.toUInt64 63)).toInt64).toInt32 = H at eH ⊢
  by_cases c : H = 0
  · rw [if_pos c]
    have e0' : y.toInt / 4294967296 = 0 := by rw [← eH, c]; rfl
    have hlt : y.toInt < 4294967296 := by omega
    have eL : y.toInt32.toInt = y.toInt.bmod (2 ^ 32) := Int64.toInt_toInt32 y
    by_cases c2 : y.toInt < 2147483648
    · have eL2 : y.toInt32.toInt = y.toInt := by rw [eL, bmod_in (by omega) (by omega)]
      obtain ⟨j, j1, j2, j3⟩ := nlz32 (x := y.toInt32) (by omega)
      rw [eL2] at j2 j3
      refine ⟨j, ?_, j2, j3⟩
      have hj : j < 32 := p2_mono (b := 32) (by omega)
      rw [Int32.toInt_add, j1, show (32 : Int32).toInt = 32 from rfl, bmod_in (by omega) (by omega)]
      omega
    · have eL2 : y.toInt32.toInt < 0 := by
        rw [eL, Int.bmod_def]
        split
        · omega
        · omega
      have z : Z_J6_numberOfLeadingZeros_0f7a4 y.toInt32 = 0 := by
        unfold Z_J6_numberOfLeadingZeros_0f7a4
        have n1 : ¬ 0 < y.toInt32 := by rw [Int32.lt_iff_toInt_lt, show (0 : Int32).toInt = 0 from rfl]; omega
        have n2 : ¬ y.toInt32 = 0 := fun e => by rw [e] at eL2; exact absurd eL2 (by decide)
        rw [if_neg n1]
        simp [n2]
      rw [z]
      exact ⟨31, by decide, by omega, by omega⟩
  · rw [if_neg c]
    have hp : 0 < H.toInt := by
      rcases Int.lt_or_eq_of_le (show 0 ≤ H.toInt by omega) with q | q
      · exact q
      · exact absurd (Int32.toInt_inj.mp (q.symm.trans (show (0 : Int) = (0 : Int32).toInt from rfl))) c
    obtain ⟨j, j1, j2, j3⟩ := nlz32 hp
    rw [eH] at j2 j3
    have p1 : (2 : Int) ^ (j + 32) = 2 ^ j * 4294967296 := by rw [Int.pow_add, show (2 : Int) ^ 32 = 4294967296 from rfl]
    have p2 : (2 : Int) ^ (j + 32 + 1) = 2 ^ (j + 1) * 4294967296 := by rw [show j + 32 + 1 = (j + 1) + 32 by omega, Int.pow_add, show (2 : Int) ^ 32 = 4294967296 from rfl]
    refine ⟨j + 32, by rw [j1]; omega, by rw [p1]; omega, by rw [p2]; omega⟩
theorem hob {y : Int64} (h : 0 < y.toInt) (h2 : y.toInt ≤ 2305843009213693952) : ∃ j : Nat, j ≤ 61 ∧ (Z_J13_highestOneBit_067f4 y).toInt = 2 ^ j ∧ (2 : Int) ^ j ≤ y.toInt ∧ y.toInt < 2 ^ (j + 1) := by
  obtain ⟨j, j1, j2, j3⟩ := nlz64 h h2
  have hj : j < 62 := p2_mono (b := 62) (by omega)
  refine ⟨j, by omega, ?_, j2, j3⟩
  unfold Z_J13_highestOneBit_067f4
  have eN : Z_J13_numberOfLeadingZeros_95d88 y = Int32.ofNat (63 - j) := Int32.toInt_inj.mp (by have := (show ∀ k : Fin 64, (Int32.ofNat k.val).toInt = (k.val : Int) by decide) ⟨63 - j, by omega⟩; rw [j1, this]; show 63 - (j : Int) = ((63 - j : Nat) : Int); omega)
  rw [eN]
  have hs : shp9 (63 - j) := shp_ok (by omega)
  unfold shp9 at hs
  rw [show 63 - (63 - j) = j by omega] at hs
  generalize ((((-9223372036854775808) : Int64).toUInt64 >>> ((Int32.ofNat (63 - j)).toInt64.toUInt64 &&& Int64.toUInt64 63)).toInt64) = W at hs ⊢
  have hn := bv_nn (x := y) (by omega)
  have e1 : (y &&& W).toBitVec = y.toBitVec &&& W.toBitVec := rfl
  have q2 : 2 ^ j ≤ y.toBitVec.toNat := by have : ((2 ^ j : Nat) : Int) ≤ (y.toBitVec.toNat : Int) := by rw [hn]; exact_mod_cast j2
                                           exact_mod_cast this
  have q3 : y.toBitVec.toNat < 2 ^ (j + 1) := by have : (y.toBitVec.toNat : Int) < ((2 ^ (j + 1) : Nat) : Int) := by rw [hn]; exact_mod_cast j3
                                                 exact_mod_cast this
  have e2 : (y &&& W).toBitVec.toNat = 2 ^ j := by
    rw [e1, BitVec.toNat_and, hs]
    generalize y.toBitVec.toNat = n at q2 q3
    have hd : n / 2 ^ j = 1 := Nat.div_eq_of_lt_le (by rw [Nat.one_mul]; exact q2) (by rw [show (1 + 1) * 2 ^ j = 2 ^ (j + 1) by rw [Nat.pow_succ, Nat.mul_comm]]; exact q3)
    apply Nat.eq_of_testBit_eq
    intro i
    rw [Nat.testBit_and, Nat.testBit_two_pow]
    by_cases e : j = i
    · subst e
      rw [Nat.testBit_eq_decide_div_mod_eq, hd]
      simp
    · simp [e]
  have q4 : 2 ^ j < 9223372036854775808 := Nat.lt_of_lt_of_le (Nat.pow_lt_pow_right (by decide) (show j < 63 by omega)) (by decide)
  rw [nn_bv (by rw [e2]; exact q4), e2]
  simp
theorem hob_or {y : Int64} (h : 0 < y.toInt) (h2 : y.toInt ≤ 2305843009213693952) : 2 * Z_J13_highestOneBit_067f4 y - 1 = orL 64 y 0 ∧ y.toInt ≤ (orL 64 y 0).toInt := by
  obtain ⟨j, j0, j1, j2, j3⟩ := hob h h2
  obtain ⟨k, k1, k2, k3⟩ := orL_sp h 64 0 0 (by decide) (by decide) (by decide) (Or.inl rfl)
  have e := p2_uniq j2 j3 k2 k3
  subst e
  have hb : (2 : Int) ^ j ≤ 2 ^ 61 := by exact_mod_cast Nat.pow_le_pow_right (by decide) j0
  have hp : (2 : Int) ^ (j + 1) = 2 * 2 ^ j := by rw [Int.pow_succ, Int.mul_comm]
  refine ⟨?_, by omega⟩
  have f1 : (2 * Z_J13_highestOneBit_067f4 y).toInt = 2 * 2 ^ j := by rw [i_mul (by rw [j1, show (2 : Int64).toInt = 2 from rfl]; omega) (by rw [j1, show (2 : Int64).toInt = 2 from rfl]; omega), j1]; rfl
  rw [i_eq, i_sub (by rw [f1, iz1]; omega) (by rw [f1, iz1]; omega), f1, iz1, k1, hp]
theorem isone {c : Ce} (h : Gc c) : J_isOne c = 0 ↔ K_isSingle (ab c) = 0 := by
  rcases h with h | ⟨h, v⟩
  · rw [ab_2 h]
    unfold J_isOne
    rw [h]
    exact ⟨fun _ => rfl, fun _ => rfl⟩
  · rw [ab_1 h, sgl v]
    unfold J_isOne
    rw [if_pos h]
    by_cases c1 : c.2.1 = c.2.2.1
    · simp [c1]
    · simp [c1]
theorem nat_v {t : Tr} (h : Vs t) : K_isNatural t = 0 ↔ t.1 < 0 := by
  unfold K_isNatural
  have n0 : ¬ t.2.2 < 0 := by rw [i_lt, iz0]; have := h.2.2.2.1; omega
  rw [if_neg n0]
  by_cases c1 : t.1 < 0
  · simp [c1]
  · simp [c1]
theorem or_ok {c c2 c3 : Ce} {t0 : Tr} {x4 x1 : Int32} (h2 : Gc c2) (h3 : Gc c3) (hx : (x4 = 0 ∧ x1 = 1) ∨ (x4 = 1 ∧ x1 = 0)) : Gc (J_or c c2 c3 x4) ∧ ab (J_or c c2 c3 x4) = K_mix t0 x1 (ab c2) (ab c3) := by
  have hN2 : ¬ c2.1 = 0 := by rcases h2 with h | ⟨h, -⟩ <;> rw [h] <;> decide
  have hN3 : ¬ c3.1 = 0 := by rcases h3 with h | ⟨h, -⟩ <;> rw [h] <;> decide
  unfold J_or
  rw [if_neg hN2, if_neg hN3]
  have key : (J_isOne c2 = 0 ∨ J_isOne c3 = 0) → Gc (J_or2 c c2 c3 x4) ∧ ab (J_or2 c c2 c3 x4) = (if K_isNatural (ab c2) = 0 then tANY else if K_isNatural (ab c3) = 0 then tANY else if x1 = 0 then K_become t0 0 (2 * Z_J13_highestOneBit_067f4 (Z_J9_max_f86c9 (ab c2).2.1 (ab c3).2.1) - 1) 1 else K_become t0 (Z_J9_max_f86c9 (ab c2).1 (ab c3).1) (2 * Z_J13_highestOneBit_067f4 (Z_J9_max_f86c9 (ab c2).2.1 (ab c3).2.1) - 1) 1) := by
    intro h1
    have nA : K_isNatural tANY = 0 := rfl
    unfold J_or2
    have hone := h1
    rw [isone h2, isone h3] at hone
    rcases h2 with h2 | ⟨h2, v2⟩
    · rw [if_pos h2, ab_2 h2, if_pos nA]; exact ⟨Or.inl rfl, rfl⟩
    · rw [h2, if_neg n12, ab_1 h2]
      rw [ab_1 h2] at hone
      rcases h3 with h3 | ⟨h3, v3⟩
      · rw [if_pos h3, ab_2 h3, if_pos nA, ite_self]; exact ⟨Or.inl rfl, rfl⟩
      · rw [h3, if_neg n12, ab_1 h3]
        rw [ab_1 h3] at hone
        by_cases k2 : c2.2.1 < 0
        · rw [if_pos k2, if_pos ((nat_v v2).mpr k2)]; exact ⟨Or.inl rfl, rfl⟩
        · have k2' : ¬ K_isNatural c2.2 = 0 := fun z => k2 ((nat_v v2).mp z)
          rw [if_neg k2, if_neg k2']
          by_cases k3 : c3.2.1 < 0
          · rw [if_pos k3, if_pos ((nat_v v3).mpr k3)]; exact ⟨Or.inl rfl, rfl⟩
          · have k3' : ¬ K_isNatural c3.2 = 0 := fun z => k3 ((nat_v v3).mp z)
            rw [if_neg k3, if_neg k3']
            rw [i_lt, iz0] at k2 k3
            rw [zmax_eq, zmax_eq]
            have s2 := sgl v2
            have s3 := sgl v3
            obtain ⟨s, l2, u2, d2⟩ := c2
            obtain ⟨s', l3, u3, d3⟩ := c3
            obtain ⟨p1, p2, p3, p4, p5, p6⟩ := v2
            obtain ⟨q1, q2, q3, q4, q5, q6⟩ := v3
            simp only at p1 p2 p3 p4 p5 p6 q1 q2 q3 q4 q5 q6 k2 k3 hone s2 s3 ⊢
            have gM := if_ge1 (a := u2) (b := u3)
            have gL9 := if_ge1 (a := l2) (b := l3)
            have mMx : (if u3 < u2 then u2 else u3).toInt ≤ 2305843009213693952 := by split <;> omega
            have lM : (if l3 < l2 then l2 else l3).toInt ≤ (if u3 < u2 then u2 else u3).toInt := by
              by_cases z : l3 < l2
              · rw [if_pos z]; omega
              · rw [if_neg z]; omega
            have pos : 0 < (if u3 < u2 then u2 else u3).toInt := by
              rcases hone with z | z
              · have := s2.mp z
                rw [i_eq] at this
                omega
              · have := s3.mp z
                rw [i_eq] at this
                omega
            unfold J_or132 J_or_p189 J_or_p222
            simp only
            generalize (if u3 < u2 then u2 else u3) = M at gM mMx lM pos ⊢
            obtain ⟨o1, o2⟩ := hob_or pos mMx
            rw [o1]
            have dv : ∀ x : Int, (1 : Int64).toInt ∣ x := fun x => by rw [iz1]; exact Int.one_dvd x
            rcases hx with ⟨rfl, rfl⟩ | ⟨rfl, rfl⟩
            · by_cases z : l3 < l2
              · simp only [z, n10, ↓reduceIte] at lM ⊢
                exact mk_ok (by omega) (by decide) (dv _) (fun e => absurd e (by decide))
              · simp only [z, n10, ↓reduceIte] at lM ⊢
                exact mk_ok (by omega) (by decide) (dv _) (fun e => absurd e (by decide))
            · by_cases z : l3 < l2
              · simp only [z, n10, ↓reduceIte]
                exact mk_ok (by rw [iz0]; omega) (by decide) (dv _) (fun e => absurd e (by decide))
              · simp only [z, n10, ↓reduceIte]
                exact mk_ok (by rw [iz0]; omega) (by decide) (dv _) (fun e => absurd e (by decide))
  unfold K_mix
  by_cases s2 : J_isOne c2 = 0
  · rw [if_pos s2, if_pos ((isone h2).mp s2)]
    exact key (Or.inl s2)
  · have s2' : ¬ K_isSingle (ab c2) = 0 := fun z => s2 ((isone h2).mpr z)
    rw [if_neg s2, if_neg s2']
    by_cases s3 : J_isOne c3 = 0
    · rw [if_pos s3, if_pos ((isone h3).mp s3)]
      exact key (Or.inr s3)
    · have s3' : ¬ K_isSingle (ab c3) = 0 := fun z => s3 ((isone h3).mpr z)
      rw [if_neg s3, if_neg s3']
      have g2 : c2.1 = 1 := by
        rcases h2 with h | ⟨h, -⟩
        · exfalso; apply s2; unfold J_isOne; rw [h]; rfl
        · exact h
      have g3 : c3.1 = 1 := by
        rcases h3 with h | ⟨h, -⟩
        · exfalso; apply s3; unfold J_isOne; rw [h]; rfl
        · exact h
      rw [ab_1 g2, ab_1 g3]
      rcases hx with ⟨rfl, rfl⟩ | ⟨rfl, rfl⟩
      · simp only [n10, ↓reduceIte]; exact one_ok
      · simp only [n10, ↓reduceIte]; exact one_ok
theorem and_ok {c c2 c3 : Ce} {t0 : Tr} (h2 : Gc c2) (h3 : Gc c3) : Gc (J_and c c2 c3) ∧ ab (J_and c c2 c3) = K_and t0 (ab c2) (ab c3) := by
  have hN2 : ¬ c2.1 = 0 := by rcases h2 with h | ⟨h, -⟩ <;> rw [h] <;> decide
  have hN3 : ¬ c3.1 = 0 := by rcases h3 with h | ⟨h, -⟩ <;> rw [h] <;> decide
  -- the last step
  have p178 : ∀ y : Int64, 0 ≤ y.toInt → Gc (J_and_p178 c c2 c3 y) ∧ ab (J_and_p178 c c2 c3 y) = K_and_p92 t0 (ab c2) (ab c3) y := by
    intro y hy
    have num : ∀ {x : Ce}, Gc x → (J_isNumber x y = 0 ↔ (K_isSingle (ab x) = 0 ∨ ¬ (ab x).1 = y)) := by
      intro x hx
      rcases hx with hx | ⟨hx, vx⟩
      · rw [ab_2 hx]
        have : J_isNumber x y = 0 := by unfold J_isNumber J_isOne; rw [hx]; rfl
        exact ⟨fun _ => Or.inl rfl, fun _ => this⟩
      · rw [ab_1 hx, isnum hx, sgl vx]
        constructor
        · intro h
          by_cases q : x.2.1 = x.2.2.1
          · exact Or.inr (fun z => h ⟨q, z⟩)
          · exact Or.inl q
        · rintro (h | h) ⟨q1, q2⟩
          · exact h q1
          · exact h q2
    obtain ⟨b1, b2, b3⟩ := lowb hy
    have mA : Gc (J_make c 1 0 y (y &&& -y)) ∧ ab (J_make c 1 0 y (y &&& -y)) = K_become t0 0 y (Z_J13_lowestOneBit_067f4 y) := mk_ok (by rw [iz0]; exact hy) b1 (by rw [iz0, Int.sub_zero]; exact b2) (fun e => (b3 e).symm ▸ iz0)
    have mB : Gc (J_make c 1 0 y 1) ∧ ab (J_make c 1 0 y 1) = K_become t0 0 y 1 := mk_ok (by rw [iz0]; exact hy) (by decide) (by rw [iz1]; exact Int.one_dvd _) (fun e => absurd e (by decide))
    unfold J_and_p178 K_and_p92 K_and_p131
    simp only [n10, ↓reduceIte]
    by_cases m2 : J_isNumber c2 y = 0
    · by_cases m3 : J_isNumber c3 y = 0
      · rw [if_pos m2, if_pos m3]
        refine ⟨mB.1, mB.2.trans ?_⟩
        rcases (num h2).mp m2 with z2 | z2
        · rcases (num h3).mp m3 with z3 | z3
          · simp only [z2, z3, ↓reduceIte]
          · simp only [z2, z3, ↓reduceIte, ite_self]
        · rcases (num h3).mp m3 with z3 | z3
          · simp only [z2, z3, ↓reduceIte, ite_self]
          · simp only [z2, z3, ↓reduceIte, ite_self]
      · rw [if_pos m2, if_neg m3]
        refine ⟨mA.1, mA.2.trans ?_⟩
        have z3 : ¬ K_isSingle (ab c3) = 0 ∧ (ab c3).1 = y := ⟨fun z => m3 ((num h3).mpr (Or.inl z)), Classical.byContradiction fun z => m3 ((num h3).mpr (Or.inr z))⟩
        rcases (num h2).mp m2 with z2 | z2
        · simp only [z2, z3.1, z3.2, ↓reduceIte]
        · simp only [z2, z3.1, z3.2, ↓reduceIte, ite_self]
    · rw [if_neg m2]
      refine ⟨mA.1, mA.2.trans ?_⟩
      have z2 : ¬ K_isSingle (ab c2) = 0 ∧ (ab c2).1 = y := ⟨fun z => m2 ((num h2).mpr (Or.inl z)), Classical.byContradiction fun z => m2 ((num h2).mpr (Or.inr z))⟩
      simp only [z2.1, z2.2, ↓reduceIte]
  have p61 : Gc (J_and_p61 c c2 c3) ∧ ab (J_and_p61 c c2 c3) = (if K_isNatural (ab c2) = 0 then (if K_isNatural (ab c3) = 0 then tANY else K_and_p57 t0 (ab c2) (ab c3)) else K_and_p57 t0 (ab c2) (ab c3)) := by
    have nA : K_isNatural tANY = 0 := rfl
    have h2' := h2
    have h3' := h3
    unfold J_and_p61 J_and_p89 J_and_p117 J_and_p135 K_and_p57 K_and_p76
    simp only [n10, ↓reduceIte]
    rcases h2 with h2 | ⟨h2, v2⟩
    · have m2 : ¬ c2.1 = 1 := by rw [h2]; decide
      rw [if_neg m2, ab_2 h2]
      rcases h3 with h3 | ⟨h3, v3⟩
      · have m3 : ¬ c3.1 = 1 := by rw [h3]; decide
        rw [if_neg m3, ab_2 h3, if_pos nA, if_pos nA]; exact ⟨Or.inl rfl, rfl⟩
      · rw [if_pos h3, ab_1 h3]
        by_cases k3 : c3.2.1 < 0
        · rw [if_pos k3, if_pos nA, if_pos ((nat_v v3).mpr k3)]; exact ⟨Or.inl rfl, rfl⟩
        · have k3' : ¬ K_isNatural c3.2 = 0 := fun z => k3 ((nat_v v3).mp z)
          rw [if_neg k3, if_pos nA, if_neg k3', if_pos nA, if_neg k3', zmin_eq, if_neg (by rw [i_lt]; omega)]
          have := p178 c3.2.2.1 (by rw [i_lt, iz0] at k3; have := v3.2.1; omega)
          rw [ab_2 h2, ab_1 h3] at this
          exact this
    · rw [if_pos h2, ab_1 h2]
      by_cases k2 : c2.2.1 < 0
      · have k2' := (nat_v v2).mpr k2
        rw [if_pos k2, if_pos k2', if_pos k2']
        rcases h3 with h3 | ⟨h3, v3⟩
        · have m3 : ¬ c3.1 = 1 := by rw [h3]; decide
          rw [if_neg m3, ab_2 h3, if_pos nA]; exact ⟨Or.inl rfl, rfl⟩
        · rw [if_pos h3, ab_1 h3]
          by_cases k3 : c3.2.1 < 0
          · rw [if_pos k3, if_pos ((nat_v v3).mpr k3)]; exact ⟨Or.inl rfl, rfl⟩
          · have k3' : ¬ K_isNatural c3.2 = 0 := fun z => k3 ((nat_v v3).mp z)
            rw [if_neg k3, if_neg k3', if_neg k3', zmin_eq, if_neg (by rw [i_lt]; omega)]
            have := p178 c3.2.2.1 (by rw [i_lt, iz0] at k3; have := v3.2.1; omega)
            rw [ab_1 h2, ab_1 h3] at this
            exact this
      · have k2' : ¬ K_isNatural c2.2 = 0 := fun z => k2 ((nat_v v2).mp z)
        rw [if_neg k2, if_neg k2', if_neg k2']
        have hu2 : 0 ≤ c2.2.2.1.toInt := by rw [i_lt, iz0] at k2; have := v2.2.1; omega
        rcases h3 with h3 | ⟨h3, v3⟩
        · have m3 : ¬ c3.1 = 1 := by rw [h3]; decide
          rw [if_neg m3, ab_2 h3, if_pos nA]
          have := p178 c2.2.2.1 hu2
          rw [ab_1 h2, ab_2 h3] at this
          exact this
        · rw [if_pos h3, ab_1 h3]
          by_cases k3 : c3.2.1 < 0
          · rw [if_pos k3, if_pos ((nat_v v3).mpr k3)]
            have := p178 c2.2.2.1 hu2
            rw [ab_1 h2, ab_1 h3] at this
            exact this
          · have k3' : ¬ K_isNatural c3.2 = 0 := fun z => k3 ((nat_v v3).mp z)
            rw [if_neg k3, if_neg k3', zmin_eq]
            have hu3 : 0 ≤ c3.2.2.1.toInt := by rw [i_lt, iz0] at k3; have := v3.2.1; omega
            by_cases z : c2.2.2.1 < c3.2.2.1
            · rw [if_pos z, if_pos z]
              have := p178 c2.2.2.1 hu2
              rw [ab_1 h2, ab_1 h3] at this
              exact this
            · rw [if_neg z, if_neg z]
              have := p178 c3.2.2.1 hu3
              rw [ab_1 h2, ab_1 h3] at this
              exact this
  unfold J_and K_and
  rw [if_neg hN2, if_neg hN3]
  by_cases s2 : J_isOne c2 = 0
  · rw [if_pos s2, if_pos ((isone h2).mp s2)]
    exact p61
  · have s2' : ¬ K_isSingle (ab c2) = 0 := fun z => s2 ((isone h2).mpr z)
    rw [if_neg s2, if_neg s2']
    by_cases s3 : J_isOne c3 = 0
    · rw [if_pos s3, if_pos ((isone h3).mp s3)]
      exact p61
    · have s3' : ¬ K_isSingle (ab c3) = 0 := fun z => s3 ((isone h3).mpr z)
      rw [if_neg s3, if_neg s3']
      have g2 : c2.1 = 1 := by
        rcases h2 with h | ⟨h, -⟩
        · exfalso; apply s2; unfold J_isOne; rw [h]; rfl
        · exact h
      have g3 : c3.1 = 1 := by
        rcases h3 with h | ⟨h, -⟩
        · exfalso; apply s3; unfold J_isOne; rw [h]; rfl
        · exact h
      rw [ab_1 g2, ab_1 g3]
      exact one_ok
