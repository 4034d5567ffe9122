/-! shifts -/
def sm9 (k : Int32) : Prop := ((k.toInt64 &&& 63).toBitVec.smod 64#64).toNat = k.toInt.toNat
theorem sm_ok {k : Int32} (h : Rg 0 63 k) : sm9 k := by256 (p := fun k => 63 < k.toInt ∨ sm9 k) (by unfold sm9; decide +kernel) (rg_w h) |>.resolve_left (by have := h.2; omega)
theorem ash {x : Int64} {k : Int32} (hk : Rg 0 63 k) : (x >>> (k.toInt64 &&& 63)).toInt = x.toInt / 2 ^ k.toInt.toNat := by
  have e : (x >>> (k.toInt64 &&& 63)).toInt = (x.toBitVec.sshiftRight ((k.toInt64 &&& 63).toBitVec.smod 64#64).toNat).toInt := rfl
  have h := sm_ok hk
  unfold sm9 at h
  rw [e, h, BitVec.toInt_sshiftRight, Int.shiftRight_eq_div_pow]
  rfl
def mk9 (k : Int32) : Prop := (((1 : Int64) <<< (k.toInt64 &&& 63)) - 1).toBitVec.toNat = 2 ^ k.toInt.toNat - 1
theorem mk9_ok {k : Int32} (h : Rg 0 63 k) : mk9 k := by256 (p := fun k => 63 < k.toInt ∨ mk9 k) (by unfold mk9; decide +kernel) (rg_w h) |>.resolve_left (by have := h.2; omega)
/-- no bit below k is set -/
theorem and_0 {x : Int64} {k : Int32} (hk : Rg 0 63 k) (h : (x &&& (((1 : Int64) <<< (k.toInt64 &&& 63)) - 1)) = 0) : (2 : Int) ^ k.toInt.toNat ∣ x.toInt := by
  have hm := mk9_ok hk
  unfold mk9 at hm
  have h1 : (x &&& (((1 : Int64) <<< (k.toInt64 &&& 63)) - 1)).toBitVec = x.toBitVec &&& (((1 : Int64) <<< (k.toInt64 &&& 63)) - 1).toBitVec := rfl
  have h2 : (x.toBitVec &&& (((1 : Int64) <<< (k.toInt64 &&& 63)) - 1).toBitVec).toNat = 0 := by rw [← h1, h]; rfl
  rw [BitVec.toNat_and, hm, Nat.and_two_pow_sub_one_eq_mod] at h2
  have h3 : 2 ^ k.toInt.toNat ∣ x.toBitVec.toNat := Nat.dvd_of_mod_eq_zero h2
  have h4 : ((2 ^ k.toInt.toNat : Nat) : Int) ∣ (x.toBitVec.toNat : Int) := Int.ofNat_dvd.mpr h3
  have h5 : ((2 ^ k.toInt.toNat : Nat) : Int) = (2 : Int) ^ k.toInt.toNat := by simp
  rw [h5] at h4
  have h6 := BitVec.toInt_eq_toNat_cond x.toBitVec
  have h7 : x.toInt = x.toBitVec.toInt := rfl
  rw [h7, h6]
  split
  · exact h4
  · refine Int.dvd_sub h4 ?_
    have : 2 ^ k.toInt.toNat ∣ 2 ^ 64 := Nat.pow_dvd_pow 2 (by have := hk.2; omega)
    have := Int.ofNat_dvd.mpr this
    rwa [h5] at this
theorem neg_h {h : Int64} : -(h - 1) - 1 = -h := by
  rw [Int64.neg_sub, Int64.sub_eq_add_neg, Int64.sub_eq_add_neg, Int64.add_comm 1 (-h), Int64.add_assoc, Int64.add_right_neg, Int64.add_zero]
def hf9 (k : Int32) : Prop := (-((1 : Int64) <<< (((63 - k) : Int32).toInt64 &&& 63))).toInt ≤ (((1 : Int64) <<< (((63 - k) : Int32).toInt64 &&& 63)) - 1).toInt
theorem hf_ok {k : Int32} (h : Rg 0 63 k) : hf9 k := by256 (p := fun k => 63 < k.toInt ∨ hf9 k) (by unfold hf9; decide +kernel) (rg_w h) |>.resolve_left (by have := h.2; omega)
def us9 (k : Int32) : Prop := k = 0 ∨ 0 ≤ (((((-1) : Int64).toUInt64 >>> (k.toInt64.toUInt64 &&& Int64.toUInt64 63)).toInt64)).toInt
theorem us_ok {k : Int32} (h : Rg 0 63 k) : us9 k := by256 (p := fun k => 63 < k.toInt ∨ us9 k) (by unfold us9; decide +kernel) (rg_w h) |>.resolve_left (by have := h.2; omega)
theorem dv1 (x : Int) : (1 : Int64).toInt ∣ x := by rw [iz1]; exact Int.one_dvd x
theorem cp_t {t0 t : Tr} : K_copyFrom t0 t = t := rfl
theorem shr_ok {c c2 : Ce} {t0 : Tr} {x : Int32} (hx : Rg 0 63 x) (h2 : Gc c2) : Gc (J_shiftDown c c2 x) ∧ ab (J_shiftDown c c2 x) = K_shiftRight t0 (ab c2) x := by
  unfold J_shiftDown K_shiftRight
  by_cases c0 : x = 0
  · rw [if_pos c0, if_pos c0, cp_t]
    exact ⟨h2, rfl⟩
  · rw [if_neg c0, if_neg c0]
    rcases h2 with h2 | ⟨h2, v2⟩
    · rw [h2, if_neg n20, if_pos rfl, ab_2 h2, any_1, if_neg n10, neg_h]
      have hh := hf_ok hx
      unfold hf9 at hh
      exact mk_ok hh (by rw [iz1]; omega) (dv1 _) (fun q => by rw [iz1] at q; omega)
    · rw [h2, if_neg n10, if_neg n12, ab_1 h2, any_0 v2, if_pos rfl]
      obtain ⟨p1, p2, p3, p4, p5, p6⟩ := v2
      have eL := ash (x := c2.2.1) hx
      have eU := ash (x := c2.2.2.1) hx
      have eS := ash (x := c2.2.2.2) hx
      have hp : (0 : Int) < 2 ^ x.toInt.toNat := Int.pow_pos (by decide)
      have hle : (c2.2.1 >>> (x.toInt64 &&& 63)).toInt ≤ (c2.2.2.1 >>> (x.toInt64 &&& 63)).toInt := by rw [eL, eU]; exact Int.ediv_le_ediv hp p2
      by_cases a1 : (c2.2.2.2 &&& ((1 <<< (x.toInt64 &&& 63)) - 1)) = 0
      · by_cases a2 : (c2.2.1 &&& ((1 <<< (x.toInt64 &&& 63)) - 1)) = 0
        · rw [if_pos a1, if_pos a2, if_pos a1, if_pos a2]
          obtain ⟨s', hs⟩ := and_0 hx a1
          obtain ⟨l', hl⟩ := and_0 hx a2
          obtain ⟨j, hj⟩ := p5
          have hu : c2.2.2.1.toInt = 2 ^ x.toInt.toNat * (l' + s' * j) := by
            rw [Int.mul_add, ← hl, ← Int.mul_assoc, ← hs]; omega
          rw [hl, Int.mul_ediv_cancel_left _ (by omega)] at eL
          rw [hu, Int.mul_ediv_cancel_left _ (by omega)] at eU
          rw [hs, Int.mul_ediv_cancel_left _ (by omega)] at eS
          refine mk_ok hle ?_ ?_ (fun q => ?_)
          · rw [ash hx]; exact Int.ediv_nonneg p4 (by omega)
          · rw [eL, eU, eS, show l' + s' * j - l' = s' * j by omega]
            exact Int.dvd_mul_right _ _
          · rw [eS] at q
            have z : c2.2.2.2.toInt = 0 := by rw [hs, q, Int.mul_zero]
            have w := p6.mp z
            rw [w]
        · rw [if_pos a1, if_neg a2, if_pos a1, if_neg a2]
          exact mk_ok hle (by rw [iz1]; omega) (dv1 _) (fun q => by rw [iz1] at q; omega)
      · rw [if_neg a1, if_neg a1]
        exact mk_ok hle (by rw [iz1]; omega) (dv1 _) (fun q => by rw [iz1] at q; omega)
theorem shz_ok {c c2 : Ce} {t0 : Tr} {x : Int32} (hx : Rg 0 63 x) (h2 : Gc c2) : Gc (J_shiftZero c c2 x) ∧ ab (J_shiftZero c c2 x) = (if x = 0 then K_shiftRight t0 (ab c2) x else if K_isNatural (ab c2) = 0 then K_become t0 0 (((((-1) : Int64).toUInt64 >>> (x.toInt64.toUInt64 &&& Int64.toUInt64 63)).toInt64)) 1 else K_shiftRight t0 (ab c2) x) := by
  have hs := shr_ok (c := c) (t0 := t0) hx h2
  unfold J_shiftZero
  by_cases c0 : x = 0
  · rw [if_pos c0, if_pos c0]; exact hs
  · rw [if_neg c0, if_neg c0]
    have hu := (us_ok hx).resolve_left c0
    have mz : Gc (J_make c 1 0 (((((-1) : Int64).toUInt64 >>> (x.toInt64.toUInt64 &&& Int64.toUInt64 63)).toInt64)) 1) ∧ ab (J_make c 1 0 (((((-1) : Int64).toUInt64 >>> (x.toInt64.toUInt64 &&& Int64.toUInt64 63)).toInt64)) 1) = K_become t0 0 (((((-1) : Int64).toUInt64 >>> (x.toInt64.toUInt64 &&& Int64.toUInt64 63)).toInt64)) 1 := mk_ok (by rw [iz0]; exact hu) (by rw [iz1]; omega) (dv1 _) (fun q => by rw [iz1] at q; omega)
    rcases h2 with h2 | ⟨h2, v2⟩
    · have nA : K_isNatural tANY = 0 := rfl
      rw [h2, if_neg n20, if_neg n21, ab_2 h2, if_pos nA]
      exact mz
    · have k0 : ¬ c2.1 = 0 := by rw [h2]; exact n10
      rw [if_neg k0, if_pos h2]
      by_cases k2 : c2.2.1 < 0
      · rw [if_pos k2, ab_1 h2, if_pos ((nat_v v2).mpr k2)]; exact mz
      · have k2' : ¬ K_isNatural c2.2 = 0 := fun z => k2 ((nat_v v2).mp z)
        rw [if_neg k2]
        rw [ab_1 h2] at hs ⊢
        rw [if_neg k2']
        exact hs
