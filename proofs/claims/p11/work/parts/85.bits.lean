/-! bits -/
theorem bv_nn {x : Int64} (h : 0 ≤ x.toInt) : (x.toBitVec.toNat : Int) = x.toInt := by
  have h3 := BitVec.toInt_eq_toNat_cond x.toBitVec
  have h4 := x.toBitVec.isLt
  have h5 : x.toInt = x.toBitVec.toInt := rfl
  rw [h5] at h ⊢
  rw [h3] at h ⊢
  split at h
  · rename_i q; rw [if_pos q]
  · omega
theorem nn_bv {x : Int64} (h : x.toBitVec.toNat < 9223372036854775808) : x.toInt = (x.toBitVec.toNat : Int) := by
  have h3 := BitVec.toInt_eq_toNat_cond x.toBitVec
  have h5 : x.toInt = x.toBitVec.toInt := rfl
  rw [h5, h3, if_pos (by omega)]
theorem lob_le (w n : Nat) : lob w n ≤ n := Nat.and_le_left
theorem lob64 {x : Int64} (h : 0 < x.toInt) : (x &&& -x).toInt = (lob 64 x.toInt.toNat : Int) := by
  have h1 := bv_nn (x := x) (by omega)
  have h2 := (i_rg x).2
  have h0 : x.toBitVec.toNat = x.toInt.toNat := by omega
  have e1 : (x &&& -x).toBitVec = x.toBitVec &&& -x.toBitVec := rfl
  have e2 : (x &&& -x).toBitVec.toNat = lob 64 x.toInt.toNat := by
    rw [e1, BitVec.toNat_and, BitVec.toNat_neg, h0]
    unfold lob
    rw [Nat.mod_eq_of_lt (by omega)]
  have h3 := lob_le 64 x.toInt.toNat
  rw [nn_bv (by rw [e2]; omega), e2]
theorem lob_gcd {x : Int64} (h : 0 < x.toInt) : lob 64 x.toInt.toNat = Nat.gcd x.toInt.toNat (2 ^ 64) := by
  have h2 := (i_rg x).2
  rw [gcd_lob 64 64 x.toInt.toNat (by omega) (by omega)]
  have h3 := lob_le 64 x.toInt.toNat
  exact (Nat.min_eq_left (by omega)).symm
theorem lowb {x : Int64} (h : 0 ≤ x.toInt) : 0 ≤ (x &&& -x).toInt ∧ (x &&& -x).toInt ∣ x.toInt ∧ ((x &&& -x).toInt = 0 → x.toInt = 0) := by
  by_cases c : x.toInt = 0
  · have : x = 0 := i_eq.mpr (c.trans iz0.symm)
    subst this
    exact ⟨by decide, by decide, fun _ => c⟩
  · have hp : 0 < x.toInt := by omega
    rw [lob64 hp]
    refine ⟨by omega, ?_, fun e => ?_⟩
    · have hd : lob 64 x.toInt.toNat ∣ x.toInt.toNat := by rw [lob_gcd hp]; exact Nat.gcd_dvd_left _ _
      have := Int.ofNat_dvd.mpr hd
      rwa [show ((x.toInt.toNat : Nat) : Int) = x.toInt by omega] at this
    · have := lob_pos 64 x.toInt.toNat (by omega) (by have := (i_rg x).2; omega)
      omega
/-- shifting an int down -/
theorem sr32 {x : Int32} (h : 0 ≤ x.toInt) (k : Nat) (c : Int32) (hc : (c.toUInt32 &&& 31).toNat = k) : ((x.toUInt32 >>> (c.toUInt32 &&& 31)).toInt32).toInt = x.toInt / 2 ^ k := by
  have hx : x.toUInt32.toNat = x.toInt.toNat := by
    have h3 := BitVec.toInt_eq_toNat_cond x.toBitVec
    have h4 := x.toBitVec.isLt
    have h5 : x.toInt = x.toBitVec.toInt := rfl
    have h6 : x.toUInt32.toNat = x.toBitVec.toNat := rfl
    rw [h5] at h ⊢
    rw [h3] at h ⊢
    split at h
    · rename_i q; rw [if_pos q]; omega
    · omega
  have hk : k < 32 := by rw [← hc, UInt32.toNat_and]; exact Nat.lt_of_le_of_lt Nat.and_le_right (by decide)
  have h7 : (x.toUInt32 >>> (c.toUInt32 &&& 31)).toNat = x.toInt.toNat / 2 ^ k := by
    rw [UInt32.toNat_shiftRight, hc, Nat.mod_eq_of_lt hk, hx, Nat.shiftRight_eq_div_pow]
  have h8 : x.toInt.toNat / 2 ^ k ≤ x.toInt.toNat := Nat.div_le_self _ _
  have h9 := (rg_all x).2
  have h10 : ((x.toUInt32 >>> (c.toUInt32 &&& 31)).toInt32).toInt = ((x.toUInt32 >>> (c.toUInt32 &&& 31)).toNat : Int) := by
    have e : ((x.toUInt32 >>> (c.toUInt32 &&& 31)).toInt32).toInt = (x.toUInt32 >>> (c.toUInt32 &&& 31)).toBitVec.toInt := rfl
    have e2 : (x.toUInt32 >>> (c.toUInt32 &&& 31)).toBitVec.toNat = (x.toUInt32 >>> (c.toUInt32 &&& 31)).toNat := rfl
    rw [e, BitVec.toInt_eq_toNat_cond, if_pos (by rw [e2, h7]; omega), e2]
  rw [h10, h7]
  rw [Int.natCast_ediv]
  have : ((x.toInt.toNat : Nat) : Int) = x.toInt := by omega
  rw [this]
  simp

theorem i3_sub {x y : Int32} (a : Int) (hx : x.toInt = a) (h1 : -2147483648 ≤ a - y.toInt) (h2 : a - y.toInt ≤ 2147483647) : (x - y).toInt = a - y.toInt := by rw [Int32.toInt_sub, hx, bmod_in h1 h2]
set_option maxHeartbeats 4000000 in
theorem nlz32 {x : Int32} (h : 0 < x.toInt) : ∃ j : Nat, (Z_J6_numberOfLeadingZeros_0f7a4 x).toInt = 31 - (j : Int) ∧ (2 : Int) ^ j ≤ x.toInt ∧ x.toInt < 2 ^ (j + 1) := by
  have hb := (rg_all x).2
  unfold Z_J6_numberOfLeadingZeros_0f7a4
  rw [if_pos (Int32.lt_iff_toInt_lt.mpr (by rw [show (0 : Int32).toInt = 0 from rfl]; exact h))]
  by_cases c0 : x < 65536
  · rw [if_pos c0]
    rw [Int32.lt_iff_toInt_lt, show (65536 : Int32).toInt = 65536 from rfl] at c0
    by_cases c1 : x < 256
    · rw [if_pos c1]
      rw [Int32.lt_iff_toInt_lt, show (256 : Int32).toInt = 256 from rfl] at c1
      by_cases c2 : x < 16
      · rw [if_pos c2]
        rw [Int32.lt_iff_toInt_lt, show (16 : Int32).toInt = 16 from rfl] at c2
        by_cases c3 : x < 4
        · rw [if_pos c3]
          rw [Int32.lt_iff_toInt_lt, show (4 : Int32).toInt = 4 from rfl] at c3
          have w1 := sr32 (x := x) (by omega) 1 1 rfl
          rw [i3_sub (x := 31) (y := (((x : Int32).toUInt32 >>> ((1 : Int32).toUInt32 &&& 31)).toInt32)) 31 rfl (by rw [w1]; omega) (by rw [w1]; omega), w1]
          by_cases cc : x.toInt < 2
          · exact ⟨0, by omega, by omega, by omega⟩
          · exact ⟨1, by omega, by omega, by omega⟩
        · rw [if_neg c3]
          rw [Int32.lt_iff_toInt_lt, show (4 : Int32).toInt = 4 from rfl] at c3
          have w3x := sr32 (x := x) (by omega) 2 2 rfl
          generalize (((x : Int32).toUInt32 >>> ((2 : Int32).toUInt32 &&& 31)).toInt32) = a3 at w3x ⊢
          have w1 := sr32 (x := a3) (by omega) 1 1 rfl
          rw [i3_sub (x := 29) (y := (((a3 : Int32).toUInt32 >>> ((1 : Int32).toUInt32 &&& 31)).toInt32)) 29 rfl (by rw [w1]; omega) (by rw [w1]; omega), w1]
          by_cases cc : a3.toInt < 2
          · exact ⟨2, by omega, by omega, by omega⟩
          · exact ⟨3, by omega, by omega, by omega⟩
      · rw [if_neg c2]
        rw [Int32.lt_iff_toInt_lt, show (16 : Int32).toInt = 16 from rfl] at c2
        have w2x := sr32 (x := x) (by omega) 4 4 rfl
        generalize (((x : Int32).toUInt32 >>> ((4 : Int32).toUInt32 &&& 31)).toInt32) = a2 at w2x ⊢
        by_cases c3 : a2 < 4
        · rw [if_pos c3]
          rw [Int32.lt_iff_toInt_lt, show (4 : Int32).toInt = 4 from rfl] at c3
          have w1 := sr32 (x := a2) (by omega) 1 1 rfl
          rw [i3_sub (x := 27) (y := (((a2 : Int32).toUInt32 >>> ((1 : Int32).toUInt32 &&& 31)).toInt32)) 27 rfl (by rw [w1]; omega) (by rw [w1]; omega), w1]
          by_cases cc : a2.toInt < 2
          · exact ⟨4, by omega, by omega, by omega⟩
          · exact ⟨5, by omega, by omega, by omega⟩
        · rw [if_neg c3]
          rw [Int32.lt_iff_toInt_lt, show (4 : Int32).toInt = 4 from rfl] at c3
          have w3x := sr32 (x := a2) (by omega) 2 2 rfl
          generalize (((a2 : Int32).toUInt32 >>> ((2 : Int32).toUInt32 &&& 31)).toInt32) = a3 at w3x ⊢
          have w1 := sr32 (x := a3) (by omega) 1 1 rfl
          rw [i3_sub (x := 25) (y := (((a3 : Int32).toUInt32 >>> ((1 : Int32).toUInt32 &&& 31)).toInt32)) 25 rfl (by rw [w1]; omega) (by rw [w1]; omega), w1]
          by_cases cc : a3.toInt < 2
          · exact ⟨6, by omega, by omega, by omega⟩
          · exact ⟨7, by omega, by omega, by omega⟩
    · rw [if_neg c1]
      rw [Int32.lt_iff_toInt_lt, show (256 : Int32).toInt = 256 from rfl] at c1
      have w1x := sr32 (x := x) (by omega) 8 8 rfl
      generalize (((x : Int32).toUInt32 >>> ((8 : Int32).toUInt32 &&& 31)).toInt32) = a1 at w1x ⊢
      by_cases c2 : a1 < 16
      · rw [if_pos c2]
        rw [Int32.lt_iff_toInt_lt, show (16 : Int32).toInt = 16 from rfl] at c2
        by_cases c3 : a1 < 4
        · rw [if_pos c3]
          rw [Int32.lt_iff_toInt_lt, show (4 : Int32).toInt = 4 from rfl] at c3
          have w1 := sr32 (x := a1) (by omega) 1 1 rfl
          rw [i3_sub (x := 23) (y := (((a1 : Int32).toUInt32 >>> ((1 : Int32).toUInt32 &&& 31)).toInt32)) 23 rfl (by rw [w1]; omega) (by rw [w1]; omega), w1]
          by_cases cc : a1.toInt < 2
          · exact ⟨8, by omega, by omega, by omega⟩
          · exact ⟨9, by omega, by omega, by omega⟩
        · rw [if_neg c3]
          rw [Int32.lt_iff_toInt_lt, show (4 : Int32).toInt = 4 from rfl] at c3
          have w3x := sr32 (x := a1) (by omega) 2 2 rfl
          generalize (((a1 : Int32).toUInt32 >>> ((2 : Int32).toUInt32 &&& 31)).toInt32) = a3 at w3x ⊢
          have w1 := sr32 (x := a3) (by omega) 1 1 rfl
          rw [i3_sub (x := 21) (y := (((a3 : Int32).toUInt32 >>> ((1 : Int32).toUInt32 &&& 31)).toInt32)) 21 rfl (by rw [w1]; omega) (by rw [w1]; omega), w1]
          by_cases cc : a3.toInt < 2
          · exact ⟨10, by omega, by omega, by omega⟩
          · exact ⟨11, by omega, by omega, by omega⟩
      · rw [if_neg c2]
        rw [Int32.lt_iff_toInt_lt, show (16 : Int32).toInt = 16 from rfl] at c2
        have w2x := sr32 (x := a1) (by omega) 4 4 rfl
        generalize (((a1 : Int32).toUInt32 >>> ((4 : Int32).toUInt32 &&& 31)).toInt32) = a2 at w2x ⊢
        by_cases c3 : a2 < 4
        · rw [if_pos c3]
          rw [Int32.lt_iff_toInt_lt, show (4 : Int32).toInt = 4 from rfl] at c3
          have w1 := sr32 (x := a2) (by omega) 1 1 rfl
          rw [i3_sub (x := 19) (y := (((a2 : Int32).toUInt32 >>> ((1 : Int32).toUInt32 &&& 31)).toInt32)) 19 rfl (by rw [w1]; omega) (by rw [w1]; omega), w1]
          by_cases cc : a2.toInt < 2
          · exact ⟨12, by omega, by omega, by omega⟩
          · exact ⟨13, by omega, by omega, by omega⟩
        · rw [if_neg c3]
          rw [Int32.lt_iff_toInt_lt, show (4 : Int32).toInt = 4 from rfl] at c3
          have w3x := sr32 (x := a2) (by omega) 2 2 rfl
          generalize (((a2 : Int32).toUInt32 >>> ((2 : Int32).toUInt32 &&& 31)).toInt32) = a3 at w3x ⊢
          have w1 := sr32 (x := a3) (by omega) 1 1 rfl
          rw [i3_sub (x := 17) (y := (((a3 : Int32).toUInt32 >>> ((1 : Int32).toUInt32 &&& 31)).toInt32)) 17 rfl (by rw [w1]; omega) (by rw [w1]; omega), w1]
          by_cases cc : a3.toInt < 2
          · exact ⟨14, by omega, by omega, by omega⟩
          · exact ⟨15, by omega, by omega, by omega⟩
  · rw [if_neg c0]
    rw [Int32.lt_iff_toInt_lt, show (65536 : Int32).toInt = 65536 from rfl] at c0
    have w0x := sr32 (x := x) (by omega) 16 16 rfl
    generalize (((x : Int32).toUInt32 >>> ((16 : Int32).toUInt32 &&& 31)).toInt32) = a0 at w0x ⊢
    by_cases c1 : a0 < 256
    · rw [if_pos c1]
      rw [Int32.lt_iff_toInt_lt, show (256 : Int32).toInt = 256 from rfl] at c1
      by_cases c2 : a0 < 16
      · rw [if_pos c2]
        rw [Int32.lt_iff_toInt_lt, show (16 : Int32).toInt = 16 from rfl] at c2
        by_cases c3 : a0 < 4
        · rw [if_pos c3]
          rw [Int32.lt_iff_toInt_lt, show (4 : Int32).toInt = 4 from rfl] at c3
          have w1 := sr32 (x := a0) (by omega) 1 1 rfl
          rw [i3_sub (x := 15) (y := (((a0 : Int32).toUInt32 >>> ((1 : Int32).toUInt32 &&& 31)).toInt32)) 15 rfl (by rw [w1]; omega) (by rw [w1]; omega), w1]
          by_cases cc : a0.toInt < 2
          · exact ⟨16, by omega, by omega, by omega⟩
          · exact ⟨17, by omega, by omega, by omega⟩
        · rw [if_neg c3]
          rw [Int32.lt_iff_toInt_lt, show (4 : Int32).toInt = 4 from rfl] at c3
          have w3x := sr32 (x := a0) (by omega) 2 2 rfl
          generalize (((a0 : Int32).toUInt32 >>> ((2 : Int32).toUInt32 &&& 31)).toInt32) = a3 at w3x ⊢
          have w1 := sr32 (x := a3) (by omega) 1 1 rfl
          rw [i3_sub (x := 13) (y := (((a3 : Int32).toUInt32 >>> ((1 : Int32).toUInt32 &&& 31)).toInt32)) 13 rfl (by rw [w1]; omega) (by rw [w1]; omega), w1]
          by_cases cc : a3.toInt < 2
          · exact ⟨18, by omega, by omega, by omega⟩
          · exact ⟨19, by omega, by omega, by omega⟩
      · rw [if_neg c2]
        rw [Int32.lt_iff_toInt_lt, show (16 : Int32).toInt = 16 from rfl] at c2
        have w2x := sr32 (x := a0) (by omega) 4 4 rfl
        generalize (((a0 : Int32).toUInt32 >>> ((4 : Int32).toUInt32 &&& 31)).toInt32) = a2 at w2x ⊢
        by_cases c3 : a2 < 4
        · rw [if_pos c3]
          rw [Int32.lt_iff_toInt_lt, show (4 : Int32).toInt = 4 from rfl] at c3
          have w1 := sr32 (x := a2) (by omega) 1 1 rfl
          rw [i3_sub (x := 11) (y := (((a2 : Int32).toUInt32 >>> ((1 : Int32).toUInt32 &&& 31)).toInt32)) 11 rfl (by rw [w1]; omega) (by rw [w1]; omega), w1]
          by_cases cc : a2.toInt < 2
          · exact ⟨20, by omega, by omega, by omega⟩
          · exact ⟨21, by omega, by omega, by omega⟩
        · rw [if_neg c3]
          rw [Int32.lt_iff_toInt_lt, show (4 : Int32).toInt = 4 from rfl] at c3
          have w3x := sr32 (x := a2) (by omega) 2 2 rfl
          generalize (((a2 : Int32).toUInt32 >>> ((2 : Int32).toUInt32 &&& 31)).toInt32) = a3 at w3x ⊢
          have w1 := sr32 (x := a3) (by omega) 1 1 rfl
          rw [i3_sub (x := 9) (y := (((a3 : Int32).toUInt32 >>> ((1 : Int32).toUInt32 &&& 31)).toInt32)) 9 rfl (by rw [w1]; omega) (by rw [w1]; omega), w1]
          by_cases cc : a3.toInt < 2
          · exact ⟨22, by omega, by omega, by omega⟩
          · exact ⟨23, by omega, by omega, by omega⟩
    · rw [if_neg c1]
      rw [Int32.lt_iff_toInt_lt, show (256 : Int32).toInt = 256 from rfl] at c1
      have w1x := sr32 (x := a0) (by omega) 8 8 rfl
      generalize (((a0 : Int32).toUInt32 >>> ((8 : Int32).toUInt32 &&& 31)).toInt32) = a1 at w1x ⊢
      by_cases c2 : a1 < 16
      · rw [if_pos c2]
        rw [Int32.lt_iff_toInt_lt, show (16 : Int32).toInt = 16 from rfl] at c2
        by_cases c3 : a1 < 4
        · rw [if_pos c3]
          rw [Int32.lt_iff_toInt_lt, show (4 : Int32).toInt = 4 from rfl] at c3
          have w1 := sr32 (x := a1) (by omega) 1 1 rfl
          rw [i3_sub (x := 7) (y := (((a1 : Int32).toUInt32 >>> ((1 : Int32).toUInt32 &&& 31)).toInt32)) 7 rfl (by rw [w1]; omega) (by rw [w1]; omega), w1]
          by_cases cc : a1.toInt < 2
          · exact ⟨24, by omega, by omega, by omega⟩
          · exact ⟨25, by omega, by omega, by omega⟩
        · rw [if_neg c3]
          rw [Int32.lt_iff_toInt_lt, show (4 : Int32).toInt = 4 from rfl] at c3
          have w3x := sr32 (x := a1) (by omega) 2 2 rfl
          generalize (((a1 : Int32).toUInt32 >>> ((2 : Int32).toUInt32 &&& 31)).toInt32) = a3 at w3x ⊢
          have w1 := sr32 (x := a3) (by omega) 1 1 rfl
          rw [i3_sub (x := 5) (y := (((a3 : Int32).toUInt32 >>> ((1 : Int32).toUInt32 &&& 31)).toInt32)) 5 rfl (by rw [w1]; omega) (by rw [w1]; omega), w1]
          by_cases cc : a3.toInt < 2
          · exact ⟨26, by omega, by omega, by omega⟩
          · exact ⟨27, by omega, by omega, by omega⟩
      · rw [if_neg c2]
        rw [Int32.lt_iff_toInt_lt, show (16 : Int32).toInt = 16 from rfl] at c2
        have w2x := sr32 (x := a1) (by omega) 4 4 rfl
        generalize (((a1 : Int32).toUInt32 >>> ((4 : Int32).toUInt32 &&& 31)).toInt32) = a2 at w2x ⊢
        by_cases c3 : a2 < 4
        · rw [if_pos c3]
          rw [Int32.lt_iff_toInt_lt, show (4 : Int32).toInt = 4 from rfl] at c3
          have w1 := sr32 (x := a2) (by omega) 1 1 rfl
          rw [i3_sub (x := 3) (y := (((a2 : Int32).toUInt32 >>> ((1 : Int32).toUInt32 &&& 31)).toInt32)) 3 rfl (by rw [w1]; omega) (by rw [w1]; omega), w1]
          by_cases cc : a2.toInt < 2
          · exact ⟨28, by omega, by omega, by omega⟩
          · exact ⟨29, by omega, by omega, by omega⟩
        · rw [if_neg c3]
          rw [Int32.lt_iff_toInt_lt, show (4 : Int32).toInt = 4 from rfl] at c3
          have w3x := sr32 (x := a2) (by omega) 2 2 rfl
          generalize (((a2 : Int32).toUInt32 >>> ((2 : Int32).toUInt32 &&& 31)).toInt32) = a3 at w3x ⊢
          have w1 := sr32 (x := a3) (by omega) 1 1 rfl
          rw [i3_sub (x := 1) (y := (((a3 : Int32).toUInt32 >>> ((1 : Int32).toUInt32 &&& 31)).toInt32)) 1 rfl (by rw [w1]; omega) (by rw [w1]; omega), w1]
          by_cases cc : a3.toInt < 2
          · exact ⟨30, by omega, by omega, by omega⟩
          · exact ⟨31, by omega, by omega, by omega⟩
