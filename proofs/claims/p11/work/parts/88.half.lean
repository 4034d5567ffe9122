/-! halves -/
theorem lob_pow : ∀ (w n : Nat), 0 < n → n < 2 ^ w → ∃ e, lob w n = 2 ^ e := by
  intro w
  induction w with
  | zero => intro n h1 h2; simp at h2; omega
  | succ w ih =>
    intro n h1 h2
    have hp : 2 ^ (w + 1) = 2 * 2 ^ w := by rw [Nat.pow_succ, Nat.mul_comm]
    rcases Nat.mod_two_eq_zero_or_one n with h | h
    · have e : n = 2 * (n / 2) := by omega
      rw [e, lob_even]
      obtain ⟨k, hk⟩ := ih (n / 2) (by omega) (by omega)
      exact ⟨k + 1, by rw [hk, Nat.pow_succ, Nat.mul_comm]⟩
    · have e : n = 2 * (n / 2) + 1 := by omega
      rw [e, lob_odd (by omega)]
      exact ⟨0, rfl⟩
theorem iz32 : (4294967296 : Int64).toInt = 4294967296 := rfl
theorem iz31 : (2147483648 : Int64).toInt = 2147483648 := rfl
theorem p2_le {e k : Nat} (h : (2 : Nat) ^ e ≤ 2 ^ k) : e ≤ k := (Nat.pow_le_pow_iff_right (by decide)).mp h
/-- the greatest common divisor with a power of two -/
theorem g32 {s : Int64} (hs : 0 < s.toInt) : gJ s 4294967296 = Z_J9_min_f86c9 (Z_J13_lowestOneBit_067f4 s) 4294967296 ∧ ∃ e : Nat, e ≤ 32 ∧ (gJ s 4294967296).toInt = 2 ^ e ∧ (s.toInt < 4294967296 → gJ s 4294967296 = Z_J13_lowestOneBit_067f4 s ∧ e ≤ 31) := by
  have hl := lob64 hs
  have hr := (i_rg s).2
  obtain ⟨e, he⟩ := lob_pow 64 s.toInt.toNat (by omega) (by omega)
  have hle := lob_le 64 s.toInt.toNat
  have hg : (gJ s 4294967296).toInt = ((min (lob 64 s.toInt.toNat) (2 ^ 32) : Nat) : Int) := by
    rw [gJ_gcd (by omega) (by decide), (aJ_abs (a := s) (by omega)).1, (aJ_abs (a := 4294967296) (by decide)).1, iz32]
    rw [show s.toInt.natAbs = s.toInt.toNat by omega, show (4294967296 : Int).natAbs = 2 ^ 32 from rfl, gcd_lob 32 64 s.toInt.toNat (by omega) (by omega)]
  have hlow : (Z_J13_lowestOneBit_067f4 s).toInt = (lob 64 s.toInt.toNat : Int) := hl
  have em : gJ s 4294967296 = Z_J9_min_f86c9 (Z_J13_lowestOneBit_067f4 s) 4294967296 := by
    rw [i_eq, hg, zmin_eq]
    by_cases c : Z_J13_lowestOneBit_067f4 s < 4294967296
    · rw [if_pos c, hlow]
      rw [i_lt, hlow, iz32] at c
      rw [Nat.min_eq_left (by omega)]
    · rw [if_neg c, iz32]
      rw [i_lt, hlow, iz32] at c
      rw [Nat.min_eq_right (by omega)]
      rfl
  refine ⟨em, ?_⟩
  by_cases c : e ≤ 32
  · have hm : min (lob 64 s.toInt.toNat) (2 ^ 32) = 2 ^ e := by rw [he]; exact Nat.min_eq_left (Nat.pow_le_pow_right (by decide) c)
    refine ⟨e, c, by rw [hg, hm]; simp, fun h => ⟨?_, ?_⟩⟩
    · rw [i_eq, hg, hm, hlow, he]
    · rcases Nat.lt_or_ge e 32 with q | q
      · omega
      · exfalso
        have : e = 32 := by omega
        subst this
        omega
  · have hm : min (lob 64 s.toInt.toNat) (2 ^ 32) = 2 ^ 32 := by rw [he]; exact Nat.min_eq_right (Nat.pow_le_pow_right (by decide) (by omega))
    refine ⟨32, Nat.le_refl _, by rw [hg, hm]; simp, fun h => ?_⟩
    exfalso
    have : 2 ^ 32 ≤ 2 ^ e := Nat.pow_le_pow_right (by decide) (by omega)
    omega
theorem land_mask {x g : Int64} {e : Nat} (he : e ≤ 32) (hg : g.toInt = 2 ^ e) : (x &&& (g - 1)).toInt = x.toInt % 2 ^ e := by
  have hb : (2 : Nat) ^ e ≤ 2 ^ 32 := Nat.pow_le_pow_right (by decide) he
  have hp : 0 < (2 : Nat) ^ e := Nat.pow_pos (by decide)
  have hg2 : g.toInt = ((2 ^ e : Nat) : Int) := by rw [hg]; simp
  have f1 : (g - 1).toInt = g.toInt - 1 := i_sub (by rw [iz1]; omega) (by rw [iz1]; omega)
  have n1 := bv_nn (x := g - 1) (by omega)
  have n2 : (g - 1).toBitVec.toNat = 2 ^ e - 1 := by omega
  have e1 : (x &&& (g - 1)).toBitVec = x.toBitVec &&& (g - 1).toBitVec := rfl
  have e2 : (x &&& (g - 1)).toBitVec.toNat = x.toBitVec.toNat % 2 ^ e := by
    rw [e1, BitVec.toNat_and, n2, Nat.and_two_pow_sub_one_eq_mod]
  have hlt : x.toBitVec.toNat % 2 ^ e < 2 ^ e := Nat.mod_lt _ hp
  rw [nn_bv (by rw [e2]; omega), e2]
  have h3 := BitVec.toInt_eq_toNat_cond x.toBitVec
  have h5 : x.toInt = x.toBitVec.toInt := rfl
  rw [h5, h3]
  split
  · rw [Int.natCast_emod]; simp
  · rw [Int.natCast_emod]
    have p : ((2 ^ 64 : Nat) : Int) = 2 ^ e * 2 ^ (64 - e) := by
      rw [← Int.pow_add, show e + (64 - e) = 64 by omega]; rfl
    have q : (x.toBitVec.toNat : Int) - ((2 ^ 64 : Nat) : Int) = (x.toBitVec.toNat : Int) + 2 ^ e * (-(2 ^ (64 - e))) := by rw [p, Int.mul_neg]; omega
    rw [q, Int.add_mul_emod_self_left]
    simp
theorem dv32 {e k : Nat} (h : e ≤ k) : (2 : Int) ^ k = 2 ^ e * 2 ^ (k - e) := by rw [← Int.pow_add, show e + (k - e) = k by omega]
theorem q_up {N r g : Int} {m : Int} (hg : 0 < g) (hN : N = g * m) (h1 : 0 ≤ r) (h2 : r < g) : (N - 1 - r) / g * g = N - g := by
  have : (N - 1 - r) / g = m - 1 := by
    have e : N - 1 - r = (g - 1 - r) + g * (m - 1) := by rw [hN, Int.mul_sub, Int.mul_one]; omega
    rw [e, Int.add_mul_ediv_left _ _ (by omega), Int.ediv_eq_zero_of_lt (by omega) (by omega), Int.zero_add]
  rw [this, Int.sub_mul, Int.one_mul, hN, Int.mul_comm]
