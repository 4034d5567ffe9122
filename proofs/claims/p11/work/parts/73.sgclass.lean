def Z_X9_isLocation  (x0 : Int32) : Int32 :=
  if x0 < 0 then
    0
  else
    if 24 ≤ x0 then
      0
    else
      1
theorem zl_X9_isLocation_0  {x0 : Int32} (h0 : x0 < 0) : Z_X9_isLocation x0 = 0 := by unfold Z_X9_isLocation; exact if_pos h0
theorem zl_X9_isLocation_1  {x0 : Int32} (h0 : ¬ x0 < 0) (h1 : 24 ≤ x0) : Z_X9_isLocation x0 = 0 := by unfold Z_X9_isLocation; exact Eq.trans (if_neg h0) (if_pos h1)
theorem zl_X9_isLocation_2  {x0 : Int32} (h0 : ¬ x0 < 0) (h1 : ¬ 24 ≤ x0) : Z_X9_isLocation x0 = 1 := by unfold Z_X9_isLocation; exact Eq.trans (if_neg h0) (if_neg h1)
set_option maxHeartbeats 40000000 in
theorem cz_X9_isLocation {xi : SX} {S : Hp} {E : List Nat} {kc nc : Nat} {P : Po} {x0 : Int32} (hG : GI S E)  (hP : ∀ r T x y, PV E [] S kc nc (rI 0 1) (fun v T => T = S ∧ v = some (.int (Z_X9_isLocation x0))) [] r T x y → P r T x y) : TT xi M_X9_isLocation 0 [(0, .int x0)] [] S kc nc P := by
  have hA : Af E [] S S := af_rf
  refine tt_iload_n (j := 0) dX9_isLocation_0 rfl ?_
  refine tt_if_lt (tgt := 14) dX9_isLocation_1 rfl (fun q101 => ?_) (fun q101 => ?_)
  · skip
    have h102 : Rg (-2147483648) (-1) x0 := rg_lt_l (rg_all x0) (⟨by decide, by decide⟩ : Rg 0 0 0) q101
    refine tt_iconst (v := 0) dX9_isLocation_14 rfl ?_
    have hF : Z_X9_isLocation x0 = 0 := by
      exact zl_X9_isLocation_0 q101
    exact tt_ireturn dX9_isLocation_15 .boolean rfl rfl (hP _ _ _ _ ⟨hG, hA, Or.inl ⟨_, rfl, ⟨_, rfl, rg_w (⟨by decide, by decide⟩ : Rg 0 0 0)⟩, ⟨rfl, congrArg (fun q => some (Value.int q)) hF.symm⟩, rfl, rfl⟩⟩)
  · skip
    have h103 : Rg 0 2147483647 x0 := rg_le_r (⟨by decide, by decide⟩ : Rg 0 0 0) (rg_all x0) (nlt_le q101)
    refine tt_iload_n (j := 0) dX9_isLocation_4 rfl ?_
    refine tt_bipush (v := 24) dX9_isLocation_5 rfl ?_
    refine tt_icmp_ge (tgt := 14) dX9_isLocation_7 rfl (fun q104 => ?_) (fun q104 => ?_)
    · skip
      have h105 : Rg 24 2147483647 x0 := rg_le_r (⟨by decide, by decide⟩ : Rg 24 24 24) h103 q104
      refine tt_iconst (v := 0) dX9_isLocation_14 rfl ?_
      have hF : Z_X9_isLocation x0 = 0 := by
        exact zl_X9_isLocation_1 q101 q104
      exact tt_ireturn dX9_isLocation_15 .boolean rfl rfl (hP _ _ _ _ ⟨hG, hA, Or.inl ⟨_, rfl, ⟨_, rfl, rg_w (⟨by decide, by decide⟩ : Rg 0 0 0)⟩, ⟨rfl, congrArg (fun q => some (Value.int q)) hF.symm⟩, rfl, rfl⟩⟩)
    · skip
      have h106 : Rg 0 23 x0 := rg_lt_l h103 (⟨by decide, by decide⟩ : Rg 24 24 24) (nle_lt q104)
      refine tt_iconst (v := 1) dX9_isLocation_10 rfl ?_
      refine tt_goto (tgt := 15) dX9_isLocation_11 rfl ?_
      have hF : Z_X9_isLocation x0 = 1 := by
        exact zl_X9_isLocation_2 q101 q104
      exact tt_ireturn dX9_isLocation_15 .boolean rfl rfl (hP _ _ _ _ ⟨hG, hA, Or.inl ⟨_, rfl, ⟨_, rfl, rg_w (⟨by decide, by decide⟩ : Rg 1 1 1)⟩, ⟨rfl, congrArg (fun q => some (Value.int q)) hF.symm⟩, rfl, rfl⟩⟩)
theorem il_z {x : Int32} (h : ¬ Z_X9_isLocation x = 0) : Rg 0 23 x := by
  by_cases h1 : x < 0
  · exact absurd (zl_X9_isLocation_0 h1) h
  · by_cases h2 : 24 ≤ x
    · exact absurd (zl_X9_isLocation_1 h1 h2) h
    · have a := Int32.le_iff_toInt_le.mp (Int32.not_lt.mp h1)
      have b := Int32.lt_iff_toInt_lt.mp (Int32.not_le.mp h2)
      rw [show (0 : Int32).toInt = 0 from rfl] at a
      rw [show (24 : Int32).toInt = 24 from rfl] at b
      exact ⟨a, by omega⟩
def Z_J9_min_f86c9  (y0 : Int64) (y2 : Int64) : Int64 :=
  if y2 < y0 then
    y2
  else
    y0
theorem zl_J9_min_f86c9_0  {y0 : Int64} {y2 : Int64} (h0 : y2 < y0) : Z_J9_min_f86c9 y0 y2 = y2 := by unfold Z_J9_min_f86c9; exact if_pos h0
theorem zl_J9_min_f86c9_1  {y0 : Int64} {y2 : Int64} (h0 : ¬ y2 < y0) : Z_J9_min_f86c9 y0 y2 = y0 := by unfold Z_J9_min_f86c9; exact if_neg h0
set_option maxHeartbeats 40000000 in
theorem cz_J9_min_f86c9 {xi : SX} {S : Hp} {E : List Nat} {kc nc : Nat} {P : Po} {y0 : Int64} {y2 : Int64} (hG : GI S E)  (hP : ∀ r T x y, PV E [] S kc nc rJ (fun v T => T = S ∧ v = some (.long (Z_J9_min_f86c9 y0 y2))) [] r T x y → P r T x y) : TT xi M_J9_min_f86c9 0 [(0, .long y0), (2, .long y2)] [] S kc nc P := by
  have hA : Af E [] S S := af_rf
  refine tt_lload_n (j := 0) dJ9_min_f86c9_0 rfl ?_
  refine tt_lload_n (j := 1) dJ9_min_f86c9_1 rfl ?_
  refine tt_lcmp dJ9_min_f86c9_2 ?_
  refine tt_if_gt (tgt := 10) dJ9_min_f86c9_3 rfl (fun q101 => ?_) (fun q101 => ?_)
  · skip
    refine tt_lload_n (j := 1) dJ9_min_f86c9_10 rfl ?_
    have hF : Z_J9_min_f86c9 y0 y2 = y2 := by
      exact zl_J9_min_f86c9_0 (lc_gt_t q101)
    exact tt_lreturn dJ9_min_f86c9_11 rfl (hP _ _ _ _ ⟨hG, hA, Or.inl ⟨_, rfl, ⟨_, rfl⟩, ⟨rfl, congrArg (fun q => some (Value.long q)) hF.symm⟩, rfl, rfl⟩⟩)
  · skip
    refine tt_lload_n (j := 0) dJ9_min_f86c9_6 rfl ?_
    refine tt_goto (tgt := 11) dJ9_min_f86c9_7 rfl ?_
    have hF : Z_J9_min_f86c9 y0 y2 = y0 := by
      exact zl_J9_min_f86c9_1 (Int64.not_lt.mpr (lc_gt_f q101))
    exact tt_lreturn dJ9_min_f86c9_11 rfl (hP _ _ _ _ ⟨hG, hA, Or.inl ⟨_, rfl, ⟨_, rfl⟩, ⟨rfl, congrArg (fun q => some (Value.long q)) hF.symm⟩, rfl, rfl⟩⟩)
def Z_J9_max_f86c9  (y0 : Int64) (y2 : Int64) : Int64 :=
  if y0 < y2 then
    y2
  else
    y0
theorem zl_J9_max_f86c9_0  {y0 : Int64} {y2 : Int64} (h0 : y0 < y2) : Z_J9_max_f86c9 y0 y2 = y2 := by unfold Z_J9_max_f86c9; exact if_pos h0
theorem zl_J9_max_f86c9_1  {y0 : Int64} {y2 : Int64} (h0 : ¬ y0 < y2) : Z_J9_max_f86c9 y0 y2 = y0 := by unfold Z_J9_max_f86c9; exact if_neg h0
set_option maxHeartbeats 40000000 in
theorem cz_J9_max_f86c9 {xi : SX} {S : Hp} {E : List Nat} {kc nc : Nat} {P : Po} {y0 : Int64} {y2 : Int64} (hG : GI S E)  (hP : ∀ r T x y, PV E [] S kc nc rJ (fun v T => T = S ∧ v = some (.long (Z_J9_max_f86c9 y0 y2))) [] r T x y → P r T x y) : TT xi M_J9_max_f86c9 0 [(0, .long y0), (2, .long y2)] [] S kc nc P := by
  have hA : Af E [] S S := af_rf
  refine tt_lload_n (j := 0) dJ9_max_f86c9_0 rfl ?_
  refine tt_lload_n (j := 1) dJ9_max_f86c9_1 rfl ?_
  refine tt_lcmp dJ9_max_f86c9_2 ?_
  refine tt_if_lt (tgt := 10) dJ9_max_f86c9_3 rfl (fun q101 => ?_) (fun q101 => ?_)
  · skip
    refine tt_lload_n (j := 1) dJ9_max_f86c9_10 rfl ?_
    have hF : Z_J9_max_f86c9 y0 y2 = y2 := by
      exact zl_J9_max_f86c9_0 (lc_lt_t q101)
    exact tt_lreturn dJ9_max_f86c9_11 rfl (hP _ _ _ _ ⟨hG, hA, Or.inl ⟨_, rfl, ⟨_, rfl⟩, ⟨rfl, congrArg (fun q => some (Value.long q)) hF.symm⟩, rfl, rfl⟩⟩)
  · skip
    refine tt_lload_n (j := 0) dJ9_max_f86c9_6 rfl ?_
    refine tt_goto (tgt := 11) dJ9_max_f86c9_7 rfl ?_
    have hF : Z_J9_max_f86c9 y0 y2 = y0 := by
      exact zl_J9_max_f86c9_1 (Int64.not_lt.mpr (lc_lt_f q101))
    exact tt_lreturn dJ9_max_f86c9_11 rfl (hP _ _ _ _ ⟨hG, hA, Or.inl ⟨_, rfl, ⟨_, rfl⟩, ⟨rfl, congrArg (fun q => some (Value.long q)) hF.symm⟩, rfl, rfl⟩⟩)
def Z_J9_floorMod_f86c9  (y0 : Int64) (y2 : Int64) : Int64 :=
  if (y0 ^^^ y2) < (0 : Int64) then
    if (y0 - y0 / y2 * y2) = (0 : Int64) then
      (y0 - y0 / y2 * y2)
    else
      ((y0 - y0 / y2 * y2) + y2)
  else
    (y0 - y0 / y2 * y2)
theorem zl_J9_floorMod_f86c9_0  {y0 : Int64} {y2 : Int64} (h0 : (y0 ^^^ y2) < (0 : Int64)) (h1 : (y0 - y0 / y2 * y2) = (0 : Int64)) : Z_J9_floorMod_f86c9 y0 y2 = (y0 - y0 / y2 * y2) := by unfold Z_J9_floorMod_f86c9; exact Eq.trans (if_pos h0) (if_pos h1)
theorem zl_J9_floorMod_f86c9_1  {y0 : Int64} {y2 : Int64} (h0 : (y0 ^^^ y2) < (0 : Int64)) (h1 : ¬ (y0 - y0 / y2 * y2) = (0 : Int64)) : Z_J9_floorMod_f86c9 y0 y2 = ((y0 - y0 / y2 * y2) + y2) := by unfold Z_J9_floorMod_f86c9; exact Eq.trans (if_pos h0) (if_neg h1)
theorem zl_J9_floorMod_f86c9_2  {y0 : Int64} {y2 : Int64} (h0 : ¬ (y0 ^^^ y2) < (0 : Int64)) : Z_J9_floorMod_f86c9 y0 y2 = (y0 - y0 / y2 * y2) := by unfold Z_J9_floorMod_f86c9; exact if_neg h0
set_option maxHeartbeats 40000000 in
theorem cz_J9_floorMod_f86c9 {xi : SX} {S : Hp} {E : List Nat} {kc nc : Nat} {P : Po} {y0 : Int64} {y2 : Int64} (hG : GI S E) (h2 : ¬ y2 = 0) (hP : ∀ r T x y, PV E [] S kc nc rJ (fun v T => T = S ∧ v = some (.long (Z_J9_floorMod_f86c9 y0 y2))) [] r T x y → P r T x y) : TT xi M_J9_floorMod_f86c9 0 [(0, .long y0), (2, .long y2)] [] S kc nc P := by
  have hA : Af E [] S S := af_rf
  refine tt_lload_n (j := 0) dJ9_floorMod_f86c9_0 rfl ?_
  refine tt_lload_n (j := 1) dJ9_floorMod_f86c9_1 rfl ?_
  refine tt_lrem dJ9_floorMod_f86c9_2 h2 ?_
  refine tt_lstore (ks := [0, 1, 2]) (L' := [(4, .long (y0 - y0 / y2 * y2)), (0, .long y0), (2, .long y2)]) dJ9_floorMod_f86c9_3 (by decide) rfl ?_
  refine tt_lload_n (j := 1) dJ9_floorMod_f86c9_5 rfl ?_
  refine tt_lload_n (j := 2) dJ9_floorMod_f86c9_6 rfl ?_
  refine tt_lxor dJ9_floorMod_f86c9_7 ?_
  refine tt_lconst (v := 0) dJ9_floorMod_f86c9_8 rfl ?_
  refine tt_lcmp dJ9_floorMod_f86c9_9 ?_
  refine tt_if_ge (tgt := 25) dJ9_floorMod_f86c9_10 rfl (fun q101 => ?_) (fun q101 => ?_)
  · skip
    refine tt_lload (j := 0) dJ9_floorMod_f86c9_25 rfl ?_
    have hF : Z_J9_floorMod_f86c9 y0 y2 = (y0 - y0 / y2 * y2) := by
      exact zl_J9_floorMod_f86c9_2 (Int64.not_lt.mpr (lc_ge_t q101))
    exact tt_lreturn dJ9_floorMod_f86c9_27 rfl (hP _ _ _ _ ⟨hG, hA, Or.inl ⟨_, rfl, ⟨_, rfl⟩, ⟨rfl, congrArg (fun q => some (Value.long q)) hF.symm⟩, rfl, rfl⟩⟩)
  · skip
    refine tt_lload (j := 0) dJ9_floorMod_f86c9_13 rfl ?_
    refine tt_lconst (v := 0) dJ9_floorMod_f86c9_15 rfl ?_
    refine tt_lcmp dJ9_floorMod_f86c9_16 ?_
    refine tt_if_eq (tgt := 25) dJ9_floorMod_f86c9_17 rfl (fun q102 => ?_) (fun q102 => ?_)
    · skip
      refine tt_lload (j := 0) dJ9_floorMod_f86c9_25 rfl ?_
      have hF : Z_J9_floorMod_f86c9 y0 y2 = (y0 - y0 / y2 * y2) := by
        exact zl_J9_floorMod_f86c9_0 (lc_ge_f q101) (lc_eq_t q102)
      exact tt_lreturn dJ9_floorMod_f86c9_27 rfl (hP _ _ _ _ ⟨hG, hA, Or.inl ⟨_, rfl, ⟨_, rfl⟩, ⟨rfl, congrArg (fun q => some (Value.long q)) hF.symm⟩, rfl, rfl⟩⟩)
    · skip
      refine tt_lload (j := 0) dJ9_floorMod_f86c9_20 rfl ?_
      refine tt_lload_n (j := 2) dJ9_floorMod_f86c9_22 rfl ?_
      refine tt_ladd dJ9_floorMod_f86c9_23 ?_
      have hF : Z_J9_floorMod_f86c9 y0 y2 = ((y0 - y0 / y2 * y2) + y2) := by
        exact zl_J9_floorMod_f86c9_1 (lc_ge_f q101) (lc_eq_f q102)
      exact tt_lreturn dJ9_floorMod_f86c9_24 rfl (hP _ _ _ _ ⟨hG, hA, Or.inl ⟨_, rfl, ⟨_, rfl⟩, ⟨rfl, congrArg (fun q => some (Value.long q)) hF.symm⟩, rfl, rfl⟩⟩)
def Z_J13_lowestOneBit_067f4  (y0 : Int64) : Int64 :=
  (y0 &&& (-y0))
theorem zl_J13_lowestOneBit_067f4_0  {y0 : Int64}  : Z_J13_lowestOneBit_067f4 y0 = (y0 &&& (-y0)) := rfl
set_option maxHeartbeats 40000000 in
theorem cz_J13_lowestOneBit_067f4 {xi : SX} {S : Hp} {E : List Nat} {kc nc : Nat} {P : Po} {y0 : Int64} (hG : GI S E)  (hP : ∀ r T x y, PV E [] S kc nc rJ (fun v T => T = S ∧ v = some (.long (Z_J13_lowestOneBit_067f4 y0))) [] r T x y → P r T x y) : TT xi M_J13_lowestOneBit_067f4 0 [(0, .long y0)] [] S kc nc P := by
  have hA : Af E [] S S := af_rf
  refine tt_lload_n (j := 0) dJ13_lowestOneBit_067f4_0 rfl ?_
  refine tt_lload_n (j := 0) dJ13_lowestOneBit_067f4_1 rfl ?_
  refine tt_lneg dJ13_lowestOneBit_067f4_2 ?_
  refine tt_land dJ13_lowestOneBit_067f4_3 ?_
  have hF : Z_J13_lowestOneBit_067f4 y0 = (y0 &&& (-y0)) := by
    rfl
  exact tt_lreturn dJ13_lowestOneBit_067f4_4 rfl (hP _ _ _ _ ⟨hG, hA, Or.inl ⟨_, rfl, ⟨_, rfl⟩, ⟨rfl, congrArg (fun q => some (Value.long q)) hF.symm⟩, rfl, rfl⟩⟩)
def Z_J6_numberOfLeadingZeros_0f7a4  (x0 : Int32) : Int32 :=
  if 0 < x0 then
    if x0 < 65536 then
      if x0 < 256 then
        if x0 < 16 then
          if x0 < 4 then
            (31 - (((x0 : Int32).toUInt32 >>> ((1 : Int32).toUInt32 &&& 31)).toInt32))
          else
            (29 - ((((((x0 : Int32).toUInt32 >>> ((2 : Int32).toUInt32 &&& 31)).toInt32) : Int32).toUInt32 >>> ((1 : Int32).toUInt32 &&& 31)).toInt32))
        else
          if (((x0 : Int32).toUInt32 >>> ((4 : Int32).toUInt32 &&& 31)).toInt32) < 4 then
            (27 - ((((((x0 : Int32).toUInt32 >>> ((4 : Int32).toUInt32 &&& 31)).toInt32) : Int32).toUInt32 >>> ((1 : Int32).toUInt32 &&& 31)).toInt32))
          else
            (25 - (((((((((x0 : Int32).toUInt32 >>> ((4 : Int32).toUInt32 &&& 31)).toInt32) : Int32).toUInt32 >>> ((2 : Int32).toUInt32 &&& 31)).toInt32) : Int32).toUInt32 >>> ((1 : Int32).toUInt32 &&& 31)).toInt32))
      else
        if (((x0 : Int32).toUInt32 >>> ((8 : Int32).toUInt32 &&& 31)).toInt32) < 16 then
          if (((x0 : Int32).toUInt32 >>> ((8 : Int32).toUInt32 &&& 31)).toInt32) < 4 then
            (23 - ((((((x0 : Int32).toUInt32 >>> ((8 : Int32).toUInt32 &&& 31)).toInt32) : Int32).toUInt32 >>> ((1 : Int32).toUInt32 &&& 31)).toInt32))
          else
            (21 - (((((((((x0 : Int32).toUInt32 >>> ((8 : Int32).toUInt32 &&& 31)).toInt32) : Int32).toUInt32 >>> ((2 : Int32).toUInt32 &&& 31)).toInt32) : Int32).toUInt32 >>> ((1 : Int32).toUInt32 &&& 31)).toInt32))
        else
          if ((((((x0 : Int32).toUInt32 >>> ((8 : Int32).toUInt32 &&& 31)).toInt32) : Int32).toUInt32 >>> ((4 : Int32).toUInt32 &&& 31)).toInt32) < 4 then
            (19 - (((((((((x0 : Int32).toUInt32 >>> ((8 : Int32).toUInt32 &&& 31)).toInt32) : Int32).toUInt32 >>> ((4 : Int32).toUInt32 &&& 31)).toInt32) : Int32).toUInt32 >>> ((1 : Int32).toUInt32 &&& 31)).toInt32))
          else
            (17 - ((((((((((((x0 : Int32).toUInt32 >>> ((8 : Int32).toUInt32 &&& 31)).toInt32) : Int32).toUInt32 >>> ((4 : Int32).toUInt32 &&& 31)).toInt32) : Int32).toUInt32 >>> ((2 : Int32).toUInt32 &&& 31)).toInt32) : Int32).toUInt32 >>> ((1 : Int32).toUInt32 &&& 31)).toInt32))
    else
      if (((x0 : Int32).toUInt32 >>> ((16 : Int32).toUInt32 &&& 31)).toInt32) < 256 then
        if (((x0 : Int32).toUInt32 >>> ((16 : Int32).toUInt32 &&& 31)).toInt32) < 16 then
          if (((x0 : Int32).toUInt32 >>> ((16 : Int32).toUInt32 &&& 31)).toInt32) < 4 then
            (15 - ((((((x0 : Int32).toUInt32 >>> ((16 : Int32).toUInt32 &&& 31)).toInt32) : Int32).toUInt32 >>> ((1 : Int32).toUInt32 &&& 31)).toInt32))
          else
            (13 - (((((((((x0 : Int32).toUInt32 >>> ((16 : Int32).toUInt32 &&& 31)).toInt32) : Int32).toUInt32 >>> ((2 : Int32).toUInt32 &&& 31)).toInt32) : Int32).toUInt32 >>> ((1 : Int32).toUInt32 &&& 31)).toInt32))
        else
          if ((((((x0 : Int32).toUInt32 >>> ((16 : Int32).toUInt32 &&& 31)).toInt32) : Int32).toUInt32 >>> ((4 : Int32).toUInt32 &&& 31)).toInt32) < 4 then
            (11 - (((((((((x0 : Int32).toUInt32 >>> ((16 : Int32).toUInt32 &&& 31)).toInt32) : Int32).toUInt32 >>> ((4 : Int32).toUInt32 &&& 31)).toInt32) : Int32).toUInt32 >>> ((1 : Int32).toUInt32 &&& 31)).toInt32))
          else
            (9 - ((((((((((((x0 : Int32).toUInt32 >>> ((16 : Int32).toUInt32 &&& 31)).toInt32) : Int32).toUInt32 >>> ((4 : Int32).toUInt32 &&& 31)).toInt32) : Int32).toUInt32 >>> ((2 : Int32).toUInt32 &&& 31)).toInt32) : Int32).toUInt32 >>> ((1 : Int32).toUInt32 &&& 31)).toInt32))
      else
        if ((((((x0 : Int32).toUInt32 >>> ((16 : Int32).toUInt32 &&& 31)).toInt32) : Int32).toUInt32 >>> ((8 : Int32).toUInt32 &&& 31)).toInt32) < 16 then
          if ((((((x0 : Int32).toUInt32 >>> ((16 : Int32).toUInt32 &&& 31)).toInt32) : Int32).toUInt32 >>> ((8 : Int32).toUInt32 &&& 31)).toInt32) < 4 then
            (7 - (((((((((x0 : Int32).toUInt32 >>> ((16 : Int32).toUInt32 &&& 31)).toInt32) : Int32).toUInt32 >>> ((8 : Int32).toUInt32 &&& 31)).toInt32) : Int32).toUInt32 >>> ((1 : Int32).toUInt32 &&& 31)).toInt32))
          else
            (5 - ((((((((((((x0 : Int32).toUInt32 >>> ((16 : Int32).toUInt32 &&& 31)).toInt32) : Int32).toUInt32 >>> ((8 : Int32).toUInt32 &&& 31)).toInt32) : Int32).toUInt32 >>> ((2 : Int32).toUInt32 &&& 31)).toInt32) : Int32).toUInt32 >>> ((1 : Int32).toUInt32 &&& 31)).toInt32))
        else
          if (((((((((x0 : Int32).toUInt32 >>> ((16 : Int32).toUInt32 &&& 31)).toInt32) : Int32).toUInt32 >>> ((8 : Int32).toUInt32 &&& 31)).toInt32) : Int32).toUInt32 >>> ((4 : Int32).toUInt32 &&& 31)).toInt32) < 4 then
            (3 - ((((((((((((x0 : Int32).toUInt32 >>> ((16 : Int32).toUInt32 &&& 31)).toInt32) : Int32).toUInt32 >>> ((8 : Int32).toUInt32 &&& 31)).toInt32) : Int32).toUInt32 >>> ((4 : Int32).toUInt32 &&& 31)).toInt32) : Int32).toUInt32 >>> ((1 : Int32).toUInt32 &&& 31)).toInt32))
          else
            (1 - (((((((((((((((x0 : Int32).toUInt32 >>> ((16 : Int32).toUInt32 &&& 31)).toInt32) : Int32).toUInt32 >>> ((8 : Int32).toUInt32 &&& 31)).toInt32) : Int32).toUInt32 >>> ((4 : Int32).toUInt32 &&& 31)).toInt32) : Int32).toUInt32 >>> ((2 : Int32).toUInt32 &&& 31)).toInt32) : Int32).toUInt32 >>> ((1 : Int32).toUInt32 &&& 31)).toInt32))
  else
    if x0 = 0 then
      32
    else
      0
theorem zl_J6_numberOfLeadingZeros_0f7a4_0  {x0 : Int32} (h0 : 0 < x0) (h1 : x0 < 65536) (h2 : x0 < 256) (h3 : x0 < 16) (h4 : x0 < 4) : Z_J6_numberOfLeadingZeros_0f7a4 x0 = (31 - (((x0 : Int32).toUInt32 >>> ((1 : Int32).toUInt32 &&& 31)).toInt32)) := by unfold Z_J6_numberOfLeadingZeros_0f7a4; exact Eq.trans (if_pos h0) (Eq.trans (if_pos h1) (Eq.trans (if_pos h2) (Eq.trans (if_pos h3) (if_pos h4))))
theorem zl_J6_numberOfLeadingZeros_0f7a4_1  {x0 : Int32} (h0 : 0 < x0) (h1 : x0 < 65536) (h2 : x0 < 256) (h3 : x0 < 16) (h4 : ¬ x0 < 4) : Z_J6_numberOfLeadingZeros_0f7a4 x0 = (29 - ((((((x0 : Int32).toUInt32 >>> ((2 : Int32).toUInt32 &&& 31)).toInt32) : Int32).toUInt32 >>> ((1 : Int32).toUInt32 &&& 31)).toInt32)) := by unfold Z_J6_numberOfLeadingZeros_0f7a4; exact Eq.trans (if_pos h0) (Eq.trans (if_pos h1) (Eq.trans (if_pos h2) (Eq.trans (if_pos h3) (if_neg h4))))
theorem zl_J6_numberOfLeadingZeros_0f7a4_2  {x0 : Int32} (h0 : 0 < x0) (h1 : x0 < 65536) (h2 : x0 < 256) (h3 : ¬ x0 < 16) (h4 : (((x0 : Int32).toUInt32 >>> ((4 : Int32).toUInt32 &&& 31)).toInt32) < 4) : Z_J6_numberOfLeadingZeros_0f7a4 x0 = (27 - ((((((x0 : Int32).toUInt32 >>> ((4 : Int32).toUInt32 &&& 31)).toInt32) : Int32).toUInt32 >>> ((1 : Int32).toUInt32 &&& 31)).toInt32)) := by unfold Z_J6_numberOfLeadingZeros_0f7a4; exact Eq.trans (if_pos h0) (Eq.trans (if_pos h1) (Eq.trans (if_pos h2) (Eq.trans (if_neg h3) (if_pos h4))))
theorem zl_J6_numberOfLeadingZeros_0f7a4_3  {x0 : Int32} (h0 : 0 < x0) (h1 : x0 < 65536) (h2 : x0 < 256) (h3 : ¬ x0 < 16) (h4 : ¬ (((x0 : Int32).toUInt32 >>> ((4 : Int32).toUInt32 &&& 31)).toInt32) < 4) : Z_J6_numberOfLeadingZeros_0f7a4 x0 = (25 - (((((((((x0 : Int32).toUInt32 >>> ((4 : Int32).toUInt32 &&& 31)).toInt32) : Int32).toUInt32 >>> ((2 : Int32).toUInt32 &&& 31)).toInt32) : Int32).toUInt32 >>> ((1 : Int32).toUInt32 &&& 31)).toInt32)) := by unfold Z_J6_numberOfLeadingZeros_0f7a4; exact Eq.trans (if_pos h0) (Eq.trans (if_pos h1) (Eq.trans (if_pos h2) (Eq.trans (if_neg h3) (if_neg h4))))
theorem zl_J6_numberOfLeadingZeros_0f7a4_4  {x0 : Int32} (h0 : 0 < x0) (h1 : x0 < 65536) (h2 : ¬ x0 < 256) (h3 : (((x0 : Int32).toUInt32 >>> ((8 : Int32).toUInt32 &&& 31)).toInt32) < 16) (h4 : (((x0 : Int32).toUInt32 >>> ((8 : Int32).toUInt32 &&& 31)).toInt32) < 4) : Z_J6_numberOfLeadingZeros_0f7a4 x0 = (23 - ((((((x0 : Int32).toUInt32 >>> ((8 : Int32).toUInt32 &&& 31)).toInt32) : Int32).toUInt32 >>> ((1 : Int32).toUInt32 &&& 31)).toInt32)) := by unfold Z_J6_numberOfLeadingZeros_0f7a4; exact Eq.trans (if_pos h0) (Eq.trans (if_pos h1) (Eq.trans (if_neg h2) (Eq.trans (if_pos h3) (if_pos h4))))
theorem zl_J6_numberOfLeadingZeros_0f7a4_5  {x0 : Int32} (h0 : 0 < x0) (h1 : x0 < 65536) (h2 : ¬ x0 < 256) (h3 : (((x0 : Int32).toUInt32 >>> ((8 : Int32).toUInt32 &&& 31)).toInt32) < 16) (h4 : ¬ (((x0 : Int32).toUInt32 >>> ((8 : Int32).toUInt32 &&& 31)).toInt32) < 4) : Z_J6_numberOfLeadingZeros_0f7a4 x0 = (21 - (((((((((x0 : Int32).toUInt32 >>> ((8 : Int32).toUInt32 &&& 31)).toInt32) : Int32).toUInt32 >>> ((2 : Int32).toUInt32 &&& 31)).toInt32) : Int32).toUInt32 >>> ((1 : Int32).toUInt32 &&& 31)).toInt32)) := by unfold Z_J6_numberOfLeadingZeros_0f7a4; exact Eq.trans (if_pos h0) (Eq.trans (if_pos h1) (Eq.trans (if_neg h2) (Eq.trans (if_pos h3) (if_neg h4))))
theorem zl_J6_numberOfLeadingZeros_0f7a4_6  {x0 : Int32} (h0 : 0 < x0) (h1 : x0 < 65536) (h2 : ¬ x0 < 256) (h3 : ¬ (((x0 : Int32).toUInt32 >>> ((8 : Int32).toUInt32 &&& 31)).toInt32) < 16) (h4 : ((((((x0 : Int32).toUInt32 >>> ((8 : Int32).toUInt32 &&& 31)).toInt32) : Int32).toUInt32 >>> ((4 : Int32).toUInt32 &&& 31)).toInt32) < 4) : Z_J6_numberOfLeadingZeros_0f7a4 x0 = (19 - (((((((((x0 : Int32).toUInt32 >>> ((8 : Int32).toUInt32 &&& 31)).toInt32) : Int32).toUInt32 >>> ((4 : Int32).toUInt32 &&& 31)).toInt32) : Int32).toUInt32 >>> ((1 : Int32).toUInt32 &&& 31)).toInt32)) := by unfold Z_J6_numberOfLeadingZeros_0f7a4; exact Eq.trans (if_pos h0) (Eq.trans (if_pos h1) (Eq.trans (if_neg h2) (Eq.trans (if_neg h3) (if_pos h4))))
theorem zl_J6_numberOfLeadingZeros_0f7a4_7  {x0 : Int32} (h0 : 0 < x0) (h1 : x0 < 65536) (h2 : ¬ x0 < 256) (h3 : ¬ (((x0 : Int32).toUInt32 >>> ((8 : Int32).toUInt32 &&& 31)).toInt32) < 16) (h4 : ¬ ((((((x0 : Int32).toUInt32 >>> ((8 : Int32).toUInt32 &&& 31)).toInt32) : Int32).toUInt32 >>> ((4 : Int32).toUInt32 &&& 31)).toInt32) < 4) : Z_J6_numberOfLeadingZeros_0f7a4 x0 = (17 - ((((((((((((x0 : Int32).toUInt32 >>> ((8 : Int32).toUInt32 &&& 31)).toInt32) : Int32).toUInt32 >>> ((4 : Int32).toUInt32 &&& 31)).toInt32) : Int32).toUInt32 >>> ((2 : Int32).toUInt32 &&& 31)).toInt32) : Int32).toUInt32 >>> ((1 : Int32).toUInt32 &&& 31)).toInt32)) := by unfold Z_J6_numberOfLeadingZeros_0f7a4; exact Eq.trans (if_pos h0) (Eq.trans (if_pos h1) (Eq.trans (if_neg h2) (Eq.trans (if_neg h3) (if_neg h4))))
theorem zl_J6_numberOfLeadingZeros_0f7a4_8  {x0 : Int32} (h0 : 0 < x0) (h1 : ¬ x0 < 65536) (h2 : (((x0 : Int32).toUInt32 >>> ((16 : Int32).toUInt32 &&& 31)).toInt32) < 256) (h3 : (((x0 : Int32).toUInt32 >>> ((16 : Int32).toUInt32 &&& 31)).toInt32) < 16) (h4 : (((x0 : Int32).toUInt32 >>> ((16 : Int32).toUInt32 &&& 31)).toInt32) < 4) : Z_J6_numberOfLeadingZeros_0f7a4 x0 = (15 - ((((((x0 : Int32).toUInt32 >>> ((16 : Int32).toUInt32 &&& 31)).toInt32) : Int32).toUInt32 >>> ((1 : Int32).toUInt32 &&& 31)).toInt32)) := by unfold Z_J6_numberOfLeadingZeros_0f7a4; exact Eq.trans (if_pos h0) (Eq.trans (if_neg h1) (Eq.trans (if_pos h2) (Eq.trans (if_pos h3) (if_pos h4))))
theorem zl_J6_numberOfLeadingZeros_0f7a4_9  {x0 : Int32} (h0 : 0 < x0) (h1 : ¬ x0 < 65536) (h2 : (((x0 : Int32).toUInt32 >>> ((16 : Int32).toUInt32 &&& 31)).toInt32) < 256) (h3 : (((x0 : Int32).toUInt32 >>> ((16 : Int32).toUInt32 &&& 31)).toInt32) < 16) (h4 : ¬ (((x0 : Int32).toUInt32 >>> ((16 : Int32).toUInt32 &&& 31)).toInt32) < 4) : Z_J6_numberOfLeadingZeros_0f7a4 x0 = (13 - (((((((((x0 : Int32).toUInt32 >>> ((16 : Int32).toUInt32 &&& 31)).toInt32) : Int32).toUInt32 >>> ((2 : Int32).toUInt32 &&& 31)).toInt32) : Int32).toUInt32 >>> ((1 : Int32).toUInt32 &&& 31)).toInt32)) := by unfold Z_J6_numberOfLeadingZeros_0f7a4; exact Eq.trans (if_pos h0) (Eq.trans (if_neg h1) (Eq.trans (if_pos h2) (Eq.trans (if_pos h3) (if_neg h4))))
theorem zl_J6_numberOfLeadingZeros_0f7a4_10  {x0 : Int32} (h0 : 0 < x0) (h1 : ¬ x0 < 65536) (h2 : (((x0 : Int32).toUInt32 >>> ((16 : Int32).toUInt32 &&& 31)).toInt32) < 256) (h3 : ¬ (((x0 : Int32).toUInt32 >>> ((16 : Int32).toUInt32 &&& 31)).toInt32) < 16) (h4 : ((((((x0 : Int32).toUInt32 >>> ((16 : Int32).toUInt32 &&& 31)).toInt32) : Int32).toUInt32 >>> ((4 : Int32).toUInt32 &&& 31)).toInt32) < 4) : Z_J6_numberOfLeadingZeros_0f7a4 x0 = (11 - (((((((((x0 : Int32).toUInt32 >>> ((16 : Int32).toUInt32 &&& 31)).toInt32) : Int32).toUInt32 >>> ((4 : Int32).toUInt32 &&& 31)).toInt32) : Int32).toUInt32 >>> ((1 : Int32).toUInt32 &&& 31)).toInt32)) := by unfold Z_J6_numberOfLeadingZeros_0f7a4; exact Eq.trans (if_pos h0) (Eq.trans (if_neg h1) (Eq.trans (if_pos h2) (Eq.trans (if_neg h3) (if_pos h4))))
theorem zl_J6_numberOfLeadingZeros_0f7a4_11  {x0 : Int32} (h0 : 0 < x0) (h1 : ¬ x0 < 65536) (h2 : (((x0 : Int32).toUInt32 >>> ((16 : Int32).toUInt32 &&& 31)).toInt32) < 256) (h3 : ¬ (((x0 : Int32).toUInt32 >>> ((16 : Int32).toUInt32 &&& 31)).toInt32) < 16) (h4 : ¬ ((((((x0 : Int32).toUInt32 >>> ((16 : Int32).toUInt32 &&& 31)).toInt32) : Int32).toUInt32 >>> ((4 : Int32).toUInt32 &&& 31)).toInt32) < 4) : Z_J6_numberOfLeadingZeros_0f7a4 x0 = (9 - ((((((((((((x0 : Int32).toUInt32 >>> ((16 : Int32).toUInt32 &&& 31)).toInt32) : Int32).toUInt32 >>> ((4 : Int32).toUInt32 &&& 31)).toInt32) : Int32).toUInt32 >>> ((2 : Int32).toUInt32 &&& 31)).toInt32) : Int32).toUInt32 >>> ((1 : Int32).toUInt32 &&& 31)).toInt32)) := by unfold Z_J6_numberOfLeadingZeros_0f7a4; exact Eq.trans (if_pos h0) (Eq.trans (if_neg h1) (Eq.trans (if_pos h2) (Eq.trans (if_neg h3) (if_neg h4))))
theorem zl_J6_numberOfLeadingZeros_0f7a4_12  {x0 : Int32} (h0 : 0 < x0) (h1 : ¬ x0 < 65536) (h2 : ¬ (((x0 : Int32).toUInt32 >>> ((16 : Int32).toUInt32 &&& 31)).toInt32) < 256) (h3 : ((((((x0 : Int32).toUInt32 >>> ((16 : Int32).toUInt32 &&& 31)).toInt32) : Int32).toUInt32 >>> ((8 : Int32).toUInt32 &&& 31)).toInt32) < 16) (h4 : ((((((x0 : Int32).toUInt32 >>> ((16 : Int32).toUInt32 &&& 31)).toInt32) : Int32).toUInt32 >>> ((8 : Int32).toUInt32 &&& 31)).toInt32) < 4) : Z_J6_numberOfLeadingZeros_0f7a4 x0 = (7 - (((((((((x0 : Int32).toUInt32 >>> ((16 : Int32).toUInt32 &&& 31)).toInt32) : Int32).toUInt32 >>> ((8 : Int32).toUInt32 &&& 31)).toInt32) : Int32).toUInt32 >>> ((1 : Int32).toUInt32 &&& 31)).toInt32)) := by unfold Z_J6_numberOfLeadingZeros_0f7a4; exact Eq.trans (if_pos h0) (Eq.trans (if_neg h1) (Eq.trans (if_neg h2) (Eq.trans (if_pos h3) (if_pos h4))))
theorem zl_J6_numberOfLeadingZeros_0f7a4_13  {x0 : Int32} (h0 : 0 < x0) (h1 : ¬ x0 < 65536) (h2 : ¬ (((x0 : Int32).toUInt32 >>> ((16 : Int32).toUInt32 &&& 31)).toInt32) < 256) (h3 : ((((((x0 : Int32).toUInt32 >>> ((16 : Int32).toUInt32 &&& 31)).toInt32) : Int32).toUInt32 >>> ((8 : Int32).toUInt32 &&& 31)).toInt32) < 16) (h4 : ¬ ((((((x0 : Int32).toUInt32 >>> ((16 : Int32).toUInt32 &&& 31)).toInt32) : Int32).toUInt32 >>> ((8 : Int32).toUInt32 &&& 31)).toInt32) < 4) : Z_J6_numberOfLeadingZeros_0f7a4 x0 = (5 - ((((((((((((x0 : Int32).toUInt32 >>> ((16 : Int32).toUInt32 &&& 31)).toInt32) : Int32).toUInt32 >>> ((8 : Int32).toUInt32 &&& 31)).toInt32) : Int32).toUInt32 >>> ((2 : Int32).toUInt32 &&& 31)).toInt32) : Int32).toUInt32 >>> ((1 : Int32).toUInt32 &&& 31)).toInt32)) := by unfold Z_J6_numberOfLeadingZeros_0f7a4; exact Eq.trans (if_pos h0) (Eq.trans (if_neg h1) (Eq.trans (if_neg h2) (Eq.trans (if_pos h3) (if_neg h4))))
theorem zl_J6_numberOfLeadingZeros_0f7a4_14  {x0 : Int32} (h0 : 0 < x0) (h1 : ¬ x0 < 65536) (h2 : ¬ (((x0 : Int32).toUInt32 >>> ((16 : Int32).toUInt32 &&& 31)).toInt32) < 256) (h3 : ¬ ((((((x0 : Int32).toUInt32 >>> ((16 : Int32).toUInt32 &&& 31)).toInt32) : Int32).toUInt32 >>> ((8 : Int32).toUInt32 &&& 31)).toInt32) < 16) (h4 : (((((((((x0 : Int32).toUInt32 >>> ((16 : Int32).toUInt32 &&& 31)).toInt32) : Int32).toUInt32 >>> ((8 : Int32).toUInt32 &&& 31)).toInt32) : Int32).toUInt32 >>> ((4 : Int32).toUInt32 &&& 31)).toInt32) < 4) : Z_J6_numberOfLeadingZeros_0f7a4 x0 = (3 - ((((((((((((x0 : Int32).toUInt32 >>> ((16 : Int32).toUInt32 &&& 31)).toInt32) : Int32).toUInt32 >>> ((8 : Int32).toUInt32 &&& 31)).toInt32) : Int32).toUInt32 >>> ((4 : Int32).toUInt32 &&& 31)).toInt32) : Int32).toUInt32 >>> ((1 : Int32).toUInt32 &&& 31)).toInt32)) := by unfold Z_J6_numberOfLeadingZeros_0f7a4; exact Eq.trans (if_pos h0) (Eq.trans (if_neg h1) (Eq.trans (if_neg h2) (Eq.trans (if_neg h3) (if_pos h4))))
theorem zl_J6_numberOfLeadingZeros_0f7a4_15  {x0 : Int32} (h0 : 0 < x0) (h1 : ¬ x0 < 65536) (h2 : ¬ (((x0 : Int32).toUInt32 >>> ((16 : Int32).toUInt32 &&& 31)).toInt32) < 256) (h3 : ¬ ((((((x0 : Int32).toUInt32 >>> ((16 : Int32).toUInt32 &&& 31)).toInt32) : Int32).toUInt32 >>> ((8 : Int32).toUInt32 &&& 31)).toInt32) < 16) (h4 : ¬ (((((((((x0 : Int32).toUInt32 >>> ((16 : Int32).toUInt32 &&& 31)).toInt32) : Int32).toUInt32 >>> ((8 : Int32).toUInt32 &&& 31)).toInt32) : Int32).toUInt32 >>> ((4 : Int32).toUInt32 &&& 31)).toInt32) < 4) : Z_J6_numberOfLeadingZeros_0f7a4 x0 = (1 - (((((((((((((((x0 : Int32).toUInt32 >>> ((16 : Int32).toUInt32 &&& 31)).toInt32) : Int32).toUInt32 >>> ((8 : Int32).toUInt32 &&& 31)).toInt32) : Int32).toUInt32 >>> ((4 : Int32).toUInt32 &&& 31)).toInt32) : Int32).toUInt32 >>> ((2 : Int32).toUInt32 &&& 31)).toInt32) : Int32).toUInt32 >>> ((1 : Int32).toUInt32 &&& 31)).toInt32)) := by unfold Z_J6_numberOfLeadingZeros_0f7a4; exact Eq.trans (if_pos h0) (Eq.trans (if_neg h1) (Eq.trans (if_neg h2) (Eq.trans (if_neg h3) (if_neg h4))))
theorem zl_J6_numberOfLeadingZeros_0f7a4_16  {x0 : Int32} (h0 : ¬ 0 < x0) (h1 : x0 = 0) : Z_J6_numberOfLeadingZeros_0f7a4 x0 = 32 := by unfold Z_J6_numberOfLeadingZeros_0f7a4; exact Eq.trans (if_neg h0) (if_pos h1)
theorem zl_J6_numberOfLeadingZeros_0f7a4_17  {x0 : Int32} (h0 : ¬ 0 < x0) (h1 : ¬ x0 = 0) : Z_J6_numberOfLeadingZeros_0f7a4 x0 = 0 := by unfold Z_J6_numberOfLeadingZeros_0f7a4; exact Eq.trans (if_neg h0) (if_neg h1)
set_option maxHeartbeats 40000000 in
theorem cz_J6_numberOfLeadingZeros_0f7a4 {xi : SX} {S : Hp} {E : List Nat} {kc nc : Nat} {P : Po} {x0 : Int32} (hG : GI S E)  (hP : ∀ r T x y, PV E [] S kc nc (rI (-2147483648) 2147483647) (fun v T => T = S ∧ v = some (.int (Z_J6_numberOfLeadingZeros_0f7a4 x0))) [] r T x y → P r T x y) : TT xi M_J6_numberOfLeadingZeros_0f7a4 0 [(0, .int x0)] [] S kc nc P := by
  have hA : Af E [] S S := af_rf
  refine tt_iload_n (j := 0) dJ6_numberOfLeadingZeros_0f7a4_0 rfl ?_
  refine tt_if_gt (tgt := 15) dJ6_numberOfLeadingZeros_0f7a4_1 rfl (fun q101 => ?_) (fun q101 => ?_)
  · skip
    have h102 : Rg 1 2147483647 x0 := rg_lt_r (⟨by decide, by decide⟩ : Rg 0 0 0) (rg_all x0) q101
    refine tt_bipush (v := 31) dJ6_numberOfLeadingZeros_0f7a4_15 rfl ?_
    refine tt_istore_n (ks := [0, 1]) (L' := [(1, .int 31), (0, .int x0)]) dJ6_numberOfLeadingZeros_0f7a4_17 (by decide) rfl ?_
    refine tt_iload_n (j := 1) dJ6_numberOfLeadingZeros_0f7a4_18 rfl ?_
    refine tt_ldcw (v := 65536) dJ6_numberOfLeadingZeros_0f7a4_19 ki_J6_264 ?_
    refine tt_icmp_lt (tgt := 33) dJ6_numberOfLeadingZeros_0f7a4_22 rfl (fun q103 => ?_) (fun q103 => ?_)
    · skip
      have h104 : Rg 1 65535 x0 := rg_lt_l h102 (⟨by decide, by decide⟩ : Rg 65536 65536 65536) q103
      refine tt_iload_n (j := 1) dJ6_numberOfLeadingZeros_0f7a4_33 rfl ?_
      refine tt_sipush (v := 256) dJ6_numberOfLeadingZeros_0f7a4_34 rfl ?_
      refine tt_icmp_lt (tgt := 48) dJ6_numberOfLeadingZeros_0f7a4_37 rfl (fun q105 => ?_) (fun q105 => ?_)
      · skip
        have h106 : Rg 1 255 x0 := rg_lt_l h104 (⟨by decide, by decide⟩ : Rg 256 256 256) q105
        refine tt_iload_n (j := 1) dJ6_numberOfLeadingZeros_0f7a4_48 rfl ?_
        refine tt_bipush (v := 16) dJ6_numberOfLeadingZeros_0f7a4_49 rfl ?_
        refine tt_icmp_lt (tgt := 61) dJ6_numberOfLeadingZeros_0f7a4_51 rfl (fun q107 => ?_) (fun q107 => ?_)
        · skip
          have h108 : Rg 1 15 x0 := rg_lt_l h106 (⟨by decide, by decide⟩ : Rg 16 16 16) q107
          refine tt_iload_n (j := 1) dJ6_numberOfLeadingZeros_0f7a4_61 rfl ?_
          refine tt_iconst (v := 4) dJ6_numberOfLeadingZeros_0f7a4_62 rfl ?_
          refine tt_icmp_lt (tgt := 73) dJ6_numberOfLeadingZeros_0f7a4_63 rfl (fun q109 => ?_) (fun q109 => ?_)
          · skip
            have h110 : Rg 1 3 x0 := rg_lt_l h108 (⟨by decide, by decide⟩ : Rg 4 4 4) q109
            refine tt_iload_n (j := 0) dJ6_numberOfLeadingZeros_0f7a4_73 rfl ?_
            refine tt_iload_n (j := 1) dJ6_numberOfLeadingZeros_0f7a4_74 rfl ?_
            refine tt_iconst (v := 1) dJ6_numberOfLeadingZeros_0f7a4_75 rfl ?_
            refine tt_iushr dJ6_numberOfLeadingZeros_0f7a4_76 ?_
            refine tt_isub dJ6_numberOfLeadingZeros_0f7a4_77 ?_
            have hF : Z_J6_numberOfLeadingZeros_0f7a4 x0 = (31 - (((x0 : Int32).toUInt32 >>> ((1 : Int32).toUInt32 &&& 31)).toInt32)) := by
              exact zl_J6_numberOfLeadingZeros_0f7a4_0 q101 q103 q105 q107 q109
            exact tt_ireturn dJ6_numberOfLeadingZeros_0f7a4_78 .int rfl rfl (hP _ _ _ _ ⟨hG, hA, Or.inl ⟨_, rfl, ⟨_, rfl, rg_w (rg_all (31 - (((x0 : Int32).toUInt32 >>> ((1 : Int32).toUInt32 &&& 31)).toInt32)))⟩, ⟨rfl, congrArg (fun q => some (Value.int q)) hF.symm⟩, rfl, rfl⟩⟩)
          · skip
            have h111 : Rg 4 15 x0 := rg_le_r (⟨by decide, by decide⟩ : Rg 4 4 4) h108 (nlt_le q109)
            refine tt_iinc (j := 0) (v := 29) (ks := [0, 1]) (L' := [(1, .int 29), (0, .int x0)]) dJ6_numberOfLeadingZeros_0f7a4_66 rfl rfl (by decide) rfl ?_
            refine tt_iload_n (j := 1) dJ6_numberOfLeadingZeros_0f7a4_69 rfl ?_
            refine tt_iconst (v := 2) dJ6_numberOfLeadingZeros_0f7a4_70 rfl ?_
            refine tt_iushr dJ6_numberOfLeadingZeros_0f7a4_71 ?_
            refine tt_istore_n (ks := [0, 1]) (L' := [(0, .int (((x0 : Int32).toUInt32 >>> ((2 : Int32).toUInt32 &&& 31)).toInt32)), (1, .int 29)]) dJ6_numberOfLeadingZeros_0f7a4_72 (by decide) rfl ?_
            refine tt_iload_n (j := 1) dJ6_numberOfLeadingZeros_0f7a4_73 rfl ?_
            refine tt_iload_n (j := 0) dJ6_numberOfLeadingZeros_0f7a4_74 rfl ?_
            refine tt_iconst (v := 1) dJ6_numberOfLeadingZeros_0f7a4_75 rfl ?_
            refine tt_iushr dJ6_numberOfLeadingZeros_0f7a4_76 ?_
            refine tt_isub dJ6_numberOfLeadingZeros_0f7a4_77 ?_
            have hF : Z_J6_numberOfLeadingZeros_0f7a4 x0 = (29 - ((((((x0 : Int32).toUInt32 >>> ((2 : Int32).toUInt32 &&& 31)).toInt32) : Int32).toUInt32 >>> ((1 : Int32).toUInt32 &&& 31)).toInt32)) := by
              exact zl_J6_numberOfLeadingZeros_0f7a4_1 q101 q103 q105 q107 q109
            exact tt_ireturn dJ6_numberOfLeadingZeros_0f7a4_78 .int rfl rfl (hP _ _ _ _ ⟨hG, hA, Or.inl ⟨_, rfl, ⟨_, rfl, rg_w (rg_all (29 - ((((((x0 : Int32).toUInt32 >>> ((2 : Int32).toUInt32 &&& 31)).toInt32) : Int32).toUInt32 >>> ((1 : Int32).toUInt32 &&& 31)).toInt32)))⟩, ⟨rfl, congrArg (fun q => some (Value.int q)) hF.symm⟩, rfl, rfl⟩⟩)
        · skip
          have h112 : Rg 16 255 x0 := rg_le_r (⟨by decide, by decide⟩ : Rg 16 16 16) h106 (nlt_le q107)
          refine tt_iinc (j := 0) (v := 27) (ks := [0, 1]) (L' := [(1, .int 27), (0, .int x0)]) dJ6_numberOfLeadingZeros_0f7a4_54 rfl rfl (by decide) rfl ?_
          refine tt_iload_n (j := 1) dJ6_numberOfLeadingZeros_0f7a4_57 rfl ?_
          refine tt_iconst (v := 4) dJ6_numberOfLeadingZeros_0f7a4_58 rfl ?_
          refine tt_iushr dJ6_numberOfLeadingZeros_0f7a4_59 ?_
          refine tt_istore_n (ks := [0, 1]) (L' := [(0, .int (((x0 : Int32).toUInt32 >>> ((4 : Int32).toUInt32 &&& 31)).toInt32)), (1, .int 27)]) dJ6_numberOfLeadingZeros_0f7a4_60 (by decide) rfl ?_
          refine tt_iload_n (j := 0) dJ6_numberOfLeadingZeros_0f7a4_61 rfl ?_
          refine tt_iconst (v := 4) dJ6_numberOfLeadingZeros_0f7a4_62 rfl ?_
          refine tt_icmp_lt (tgt := 73) dJ6_numberOfLeadingZeros_0f7a4_63 rfl (fun q113 => ?_) (fun q113 => ?_)
          · skip
            have h114 : Rg (-2147483648) 3 (((x0 : Int32).toUInt32 >>> ((4 : Int32).toUInt32 &&& 31)).toInt32) := rg_lt_l (rg_all (((x0 : Int32).toUInt32 >>> ((4 : Int32).toUInt32 &&& 31)).toInt32)) (⟨by decide, by decide⟩ : Rg 4 4 4) q113
            refine tt_iload_n (j := 1) dJ6_numberOfLeadingZeros_0f7a4_73 rfl ?_
            refine tt_iload_n (j := 0) dJ6_numberOfLeadingZeros_0f7a4_74 rfl ?_
            refine tt_iconst (v := 1) dJ6_numberOfLeadingZeros_0f7a4_75 rfl ?_
            refine tt_iushr dJ6_numberOfLeadingZeros_0f7a4_76 ?_
            refine tt_isub dJ6_numberOfLeadingZeros_0f7a4_77 ?_
            have hF : Z_J6_numberOfLeadingZeros_0f7a4 x0 = (27 - ((((((x0 : Int32).toUInt32 >>> ((4 : Int32).toUInt32 &&& 31)).toInt32) : Int32).toUInt32 >>> ((1 : Int32).toUInt32 &&& 31)).toInt32)) := by
              exact zl_J6_numberOfLeadingZeros_0f7a4_2 q101 q103 q105 q107 q113
            exact tt_ireturn dJ6_numberOfLeadingZeros_0f7a4_78 .int rfl rfl (hP _ _ _ _ ⟨hG, hA, Or.inl ⟨_, rfl, ⟨_, rfl, rg_w (rg_all (27 - ((((((x0 : Int32).toUInt32 >>> ((4 : Int32).toUInt32 &&& 31)).toInt32) : Int32).toUInt32 >>> ((1 : Int32).toUInt32 &&& 31)).toInt32)))⟩, ⟨rfl, congrArg (fun q => some (Value.int q)) hF.symm⟩, rfl, rfl⟩⟩)
          · skip
            have h115 : Rg 4 2147483647 (((x0 : Int32).toUInt32 >>> ((4 : Int32).toUInt32 &&& 31)).toInt32) := rg_le_r (⟨by decide, by decide⟩ : Rg 4 4 4) (rg_all (((x0 : Int32).toUInt32 >>> ((4 : Int32).toUInt32 &&& 31)).toInt32)) (nlt_le q113)
            refine tt_iinc (j := 1) (v := 25) (ks := [0, 1]) (L' := [(1, .int 25), (0, .int (((x0 : Int32).toUInt32 >>> ((4 : Int32).toUInt32 &&& 31)).toInt32))]) dJ6_numberOfLeadingZeros_0f7a4_66 rfl rfl (by decide) rfl ?_
            refine tt_iload_n (j := 1) dJ6_numberOfLeadingZeros_0f7a4_69 rfl ?_
            refine tt_iconst (v := 2) dJ6_numberOfLeadingZeros_0f7a4_70 rfl ?_
            refine tt_iushr dJ6_numberOfLeadingZeros_0f7a4_71 ?_
            refine tt_istore_n (ks := [0, 1]) (L' := [(0, .int ((((((x0 : Int32).toUInt32 >>> ((4 : Int32).toUInt32 &&& 31)).toInt32) : Int32).toUInt32 >>> ((2 : Int32).toUInt32 &&& 31)).toInt32)), (1, .int 25)]) dJ6_numberOfLeadingZeros_0f7a4_72 (by decide) rfl ?_
            refine tt_iload_n (j := 1) dJ6_numberOfLeadingZeros_0f7a4_73 rfl ?_
            refine tt_iload_n (j := 0) dJ6_numberOfLeadingZeros_0f7a4_74 rfl ?_
            refine tt_iconst (v := 1) dJ6_numberOfLeadingZeros_0f7a4_75 rfl ?_
            refine tt_iushr dJ6_numberOfLeadingZeros_0f7a4_76 ?_
            refine tt_isub dJ6_numberOfLeadingZeros_0f7a4_77 ?_
            have hF : Z_J6_numberOfLeadingZeros_0f7a4 x0 = (25 - (((((((((x0 : Int32).toUInt32 >>> ((4 : Int32).toUInt32 &&& 31)).toInt32) : Int32).toUInt32 >>> ((2 : Int32).toUInt32 &&& 31)).toInt32) : Int32).toUInt32 >>> ((1 : Int32).toUInt32 &&& 31)).toInt32)) := by
              exact zl_J6_numberOfLeadingZeros_0f7a4_3 q101 q103 q105 q107 q113
            exact tt_ireturn dJ6_numberOfLeadingZeros_0f7a4_78 .int rfl rfl (hP _ _ _ _ ⟨hG, hA, Or.inl ⟨_, rfl, ⟨_, rfl, rg_w (rg_all (25 - (((((((((x0 : Int32).toUInt32 >>> ((4 : Int32).toUInt32 &&& 31)).toInt32) : Int32).toUInt32 >>> ((2 : Int32).toUInt32 &&& 31)).toInt32) : Int32).toUInt32 >>> ((1 : Int32).toUInt32 &&& 31)).toInt32)))⟩, ⟨rfl, congrArg (fun q => some (Value.int q)) hF.symm⟩, rfl, rfl⟩⟩)
      · skip
        have h116 : Rg 256 65535 x0 := rg_le_r (⟨by decide, by decide⟩ : Rg 256 256 256) h104 (nlt_le q105)
        refine tt_iinc (j := 0) (v := 23) (ks := [0, 1]) (L' := [(1, .int 23), (0, .int x0)]) dJ6_numberOfLeadingZeros_0f7a4_40 rfl rfl (by decide) rfl ?_
        refine tt_iload_n (j := 1) dJ6_numberOfLeadingZeros_0f7a4_43 rfl ?_
        refine tt_bipush (v := 8) dJ6_numberOfLeadingZeros_0f7a4_44 rfl ?_
        refine tt_iushr dJ6_numberOfLeadingZeros_0f7a4_46 ?_
        refine tt_istore_n (ks := [0, 1]) (L' := [(0, .int (((x0 : Int32).toUInt32 >>> ((8 : Int32).toUInt32 &&& 31)).toInt32)), (1, .int 23)]) dJ6_numberOfLeadingZeros_0f7a4_47 (by decide) rfl ?_
        refine tt_iload_n (j := 0) dJ6_numberOfLeadingZeros_0f7a4_48 rfl ?_
        refine tt_bipush (v := 16) dJ6_numberOfLeadingZeros_0f7a4_49 rfl ?_
        refine tt_icmp_lt (tgt := 61) dJ6_numberOfLeadingZeros_0f7a4_51 rfl (fun q117 => ?_) (fun q117 => ?_)
        · skip
          have h118 : Rg (-2147483648) 15 (((x0 : Int32).toUInt32 >>> ((8 : Int32).toUInt32 &&& 31)).toInt32) := rg_lt_l (rg_all (((x0 : Int32).toUInt32 >>> ((8 : Int32).toUInt32 &&& 31)).toInt32)) (⟨by decide, by decide⟩ : Rg 16 16 16) q117
          refine tt_iload_n (j := 0) dJ6_numberOfLeadingZeros_0f7a4_61 rfl ?_
          refine tt_iconst (v := 4) dJ6_numberOfLeadingZeros_0f7a4_62 rfl ?_
          refine tt_icmp_lt (tgt := 73) dJ6_numberOfLeadingZeros_0f7a4_63 rfl (fun q119 => ?_) (fun q119 => ?_)
          · skip
            have h120 : Rg (-2147483648) 3 (((x0 : Int32).toUInt32 >>> ((8 : Int32).toUInt32 &&& 31)).toInt32) := rg_lt_l h118 (⟨by decide, by decide⟩ : Rg 4 4 4) q119
            refine tt_iload_n (j := 1) dJ6_numberOfLeadingZeros_0f7a4_73 rfl ?_
            refine tt_iload_n (j := 0) dJ6_numberOfLeadingZeros_0f7a4_74 rfl ?_
            refine tt_iconst (v := 1) dJ6_numberOfLeadingZeros_0f7a4_75 rfl ?_
            refine tt_iushr dJ6_numberOfLeadingZeros_0f7a4_76 ?_
            refine tt_isub dJ6_numberOfLeadingZeros_0f7a4_77 ?_
            have hF : Z_J6_numberOfLeadingZeros_0f7a4 x0 = (23 - ((((((x0 : Int32).toUInt32 >>> ((8 : Int32).toUInt32 &&& 31)).toInt32) : Int32).toUInt32 >>> ((1 : Int32).toUInt32 &&& 31)).toInt32)) := by
              exact zl_J6_numberOfLeadingZeros_0f7a4_4 q101 q103 q105 q117 q119
            exact tt_ireturn dJ6_numberOfLeadingZeros_0f7a4_78 .int rfl rfl (hP _ _ _ _ ⟨hG, hA, Or.inl ⟨_, rfl, ⟨_, rfl, rg_w (rg_all (23 - ((((((x0 : Int32).toUInt32 >>> ((8 : Int32).toUInt32 &&& 31)).toInt32) : Int32).toUInt32 >>> ((1 : Int32).toUInt32 &&& 31)).toInt32)))⟩, ⟨rfl, congrArg (fun q => some (Value.int q)) hF.symm⟩, rfl, rfl⟩⟩)
          · skip
            have h121 : Rg 4 15 (((x0 : Int32).toUInt32 >>> ((8 : Int32).toUInt32 &&& 31)).toInt32) := rg_le_r (⟨by decide, by decide⟩ : Rg 4 4 4) h118 (nlt_le q119)
            refine tt_iinc (j := 1) (v := 21) (ks := [0, 1]) (L' := [(1, .int 21), (0, .int (((x0 : Int32).toUInt32 >>> ((8 : Int32).toUInt32 &&& 31)).toInt32))]) dJ6_numberOfLeadingZeros_0f7a4_66 rfl rfl (by decide) rfl ?_
            refine tt_iload_n (j := 1) dJ6_numberOfLeadingZeros_0f7a4_69 rfl ?_
            refine tt_iconst (v := 2) dJ6_numberOfLeadingZeros_0f7a4_70 rfl ?_
            refine tt_iushr dJ6_numberOfLeadingZeros_0f7a4_71 ?_
            refine tt_istore_n (ks := [0, 1]) (L' := [(0, .int ((((((x0 : Int32).toUInt32 >>> ((8 : Int32).toUInt32 &&& 31)).toInt32) : Int32).toUInt32 >>> ((2 : Int32).toUInt32 &&& 31)).toInt32)), (1, .int 21)]) dJ6_numberOfLeadingZeros_0f7a4_72 (by decide) rfl ?_
            refine tt_iload_n (j := 1) dJ6_numberOfLeadingZeros_0f7a4_73 rfl ?_
            refine tt_iload_n (j := 0) dJ6_numberOfLeadingZeros_0f7a4_74 rfl ?_
            refine tt_iconst (v := 1) dJ6_numberOfLeadingZeros_0f7a4_75 rfl ?_
            refine tt_iushr dJ6_numberOfLeadingZeros_0f7a4_76 ?_
            refine tt_isub dJ6_numberOfLeadingZeros_0f7a4_77 ?_
            have hF : Z_J6_numberOfLeadingZeros_0f7a4 x0 = (21 - (((((((((x0 : Int32).toUInt32 >>> ((8 : Int32).toUInt32 &&& 31)).toInt32) : Int32).toUInt32 >>> ((2 : Int32).toUInt32 &&& 31)).toInt32) : Int32).toUInt32 >>> ((1 : Int32).toUInt32 &&& 31)).toInt32)) := by
              exact zl_J6_numberOfLeadingZeros_0f7a4_5 q101 q103 q105 q117 q119
            exact tt_ireturn dJ6_numberOfLeadingZeros_0f7a4_78 .int rfl rfl (hP _ _ _ _ ⟨hG, hA, Or.inl ⟨_, rfl, ⟨_, rfl, rg_w (rg_all (21 - (((((((((x0 : Int32).toUInt32 >>> ((8 : Int32).toUInt32 &&& 31)).toInt32) : Int32).toUInt32 >>> ((2 : Int32).toUInt32 &&& 31)).toInt32) : Int32).toUInt32 >>> ((1 : Int32).toUInt32 &&& 31)).toInt32)))⟩, ⟨rfl, congrArg (fun q => some (Value.int q)) hF.symm⟩, rfl, rfl⟩⟩)
        · skip
          have h122 : Rg 16 2147483647 (((x0 : Int32).toUInt32 >>> ((8 : Int32).toUInt32 &&& 31)).toInt32) := rg_le_r (⟨by decide, by decide⟩ : Rg 16 16 16) (rg_all (((x0 : Int32).toUInt32 >>> ((8 : Int32).toUInt32 &&& 31)).toInt32)) (nlt_le q117)
          refine tt_iinc (j := 1) (v := 19) (ks := [0, 1]) (L' := [(1, .int 19), (0, .int (((x0 : Int32).toUInt32 >>> ((8 : Int32).toUInt32 &&& 31)).toInt32))]) dJ6_numberOfLeadingZeros_0f7a4_54 rfl rfl (by decide) rfl ?_
          refine tt_iload_n (j := 1) dJ6_numberOfLeadingZeros_0f7a4_57 rfl ?_
          refine tt_iconst (v := 4) dJ6_numberOfLeadingZeros_0f7a4_58 rfl ?_
          refine tt_iushr dJ6_numberOfLeadingZeros_0f7a4_59 ?_
          refine tt_istore_n (ks := [0, 1]) (L' := [(0, .int ((((((x0 : Int32).toUInt32 >>> ((8 : Int32).toUInt32 &&& 31)).toInt32) : Int32).toUInt32 >>> ((4 : Int32).toUInt32 &&& 31)).toInt32)), (1, .int 19)]) dJ6_numberOfLeadingZeros_0f7a4_60 (by decide) rfl ?_
          refine tt_iload_n (j := 0) dJ6_numberOfLeadingZeros_0f7a4_61 rfl ?_
          refine tt_iconst (v := 4) dJ6_numberOfLeadingZeros_0f7a4_62 rfl ?_
          refine tt_icmp_lt (tgt := 73) dJ6_numberOfLeadingZeros_0f7a4_63 rfl (fun q123 => ?_) (fun q123 => ?_)
          · skip
            have h124 : Rg (-2147483648) 3 ((((((x0 : Int32).toUInt32 >>> ((8 : Int32).toUInt32 &&& 31)).toInt32) : Int32).toUInt32 >>> ((4 : Int32).toUInt32 &&& 31)).toInt32) := rg_lt_l (rg_all ((((((x0 : Int32).toUInt32 >>> ((8 : Int32).toUInt32 &&& 31)).toInt32) : Int32).toUInt32 >>> ((4 : Int32).toUInt32 &&& 31)).toInt32)) (⟨by decide, by decide⟩ : Rg 4 4 4) q123
            refine tt_iload_n (j := 1) dJ6_numberOfLeadingZeros_0f7a4_73 rfl ?_
            refine tt_iload_n (j := 0) dJ6_numberOfLeadingZeros_0f7a4_74 rfl ?_
            refine tt_iconst (v := 1) dJ6_numberOfLeadingZeros_0f7a4_75 rfl ?_
            refine tt_iushr dJ6_numberOfLeadingZeros_0f7a4_76 ?_
            refine tt_isub dJ6_numberOfLeadingZeros_0f7a4_77 ?_
            have hF : Z_J6_numberOfLeadingZeros_0f7a4 x0 = (19 - (((((((((x0 : Int32).toUInt32 >>> ((8 : Int32).toUInt32 &&& 31)).toInt32) : Int32).toUInt32 >>> ((4 : Int32).toUInt32 &&& 31)).toInt32) : Int32).toUInt32 >>> ((1 : Int32).toUInt32 &&& 31)).toInt32)) := by
              exact zl_J6_numberOfLeadingZeros_0f7a4_6 q101 q103 q105 q117 q123
            exact tt_ireturn dJ6_numberOfLeadingZeros_0f7a4_78 .int rfl rfl (hP _ _ _ _ ⟨hG, hA, Or.inl ⟨_, rfl, ⟨_, rfl, rg_w (rg_all (19 - (((((((((x0 : Int32).toUInt32 >>> ((8 : Int32).toUInt32 &&& 31)).toInt32) : Int32).toUInt32 >>> ((4 : Int32).toUInt32 &&& 31)).toInt32) : Int32).toUInt32 >>> ((1 : Int32).toUInt32 &&& 31)).toInt32)))⟩, ⟨rfl, congrArg (fun q => some (Value.int q)) hF.symm⟩, rfl, rfl⟩⟩)
          · skip
            have h125 : Rg 4 2147483647 ((((((x0 : Int32).toUInt32 >>> ((8 : Int32).toUInt32 &&& 31)).toInt32) : Int32).toUInt32 >>> ((4 : Int32).toUInt32 &&& 31)).toInt32) := rg_le_r (⟨by decide, by decide⟩ : Rg 4 4 4) (rg_all ((((((x0 : Int32).toUInt32 >>> ((8 : Int32).toUInt32 &&& 31)).toInt32) : Int32).toUInt32 >>> ((4 : Int32).toUInt32 &&& 31)).toInt32)) (nlt_le q123)
            refine tt_iinc (j := 1) (v := 17) (ks := [0, 1]) (L' := [(1, .int 17), (0, .int ((((((x0 : Int32).toUInt32 >>> ((8 : Int32).toUInt32 &&& 31)).toInt32) : Int32).toUInt32 >>> ((4 : Int32).toUInt32 &&& 31)).toInt32))]) dJ6_numberOfLeadingZeros_0f7a4_66 rfl rfl (by decide) rfl ?_
            refine tt_iload_n (j := 1) dJ6_numberOfLeadingZeros_0f7a4_69 rfl ?_
            refine tt_iconst (v := 2) dJ6_numberOfLeadingZeros_0f7a4_70 rfl ?_
            refine tt_iushr dJ6_numberOfLeadingZeros_0f7a4_71 ?_
            refine tt_istore_n (ks := [0, 1]) (L' := [(0, .int (((((((((x0 : Int32).toUInt32 >>> ((8 : Int32).toUInt32 &&& 31)).toInt32) : Int32).toUInt32 >>> ((4 : Int32).toUInt32 &&& 31)).toInt32) : Int32).toUInt32 >>> ((2 : Int32).toUInt32 &&& 31)).toInt32)), (1, .int 17)]) dJ6_numberOfLeadingZeros_0f7a4_72 (by decide) rfl ?_
            refine tt_iload_n (j := 1) dJ6_numberOfLeadingZeros_0f7a4_73 rfl ?_
            refine tt_iload_n (j := 0) dJ6_numberOfLeadingZeros_0f7a4_74 rfl ?_
            refine tt_iconst (v := 1) dJ6_numberOfLeadingZeros_0f7a4_75 rfl ?_
            refine tt_iushr dJ6_numberOfLeadingZeros_0f7a4_76 ?_
            refine tt_isub dJ6_numberOfLeadingZeros_0f7a4_77 ?_
            have hF : Z_J6_numberOfLeadingZeros_0f7a4 x0 = (17 - ((((((((((((x0 : Int32).toUInt32 >>> ((8 : Int32).toUInt32 &&& 31)).toInt32) : Int32).toUInt32 >>> ((4 : Int32).toUInt32 &&& 31)).toInt32) : Int32).toUInt32 >>> ((2 : Int32).toUInt32 &&& 31)).toInt32) : Int32).toUInt32 >>> ((1 : Int32).toUInt32 &&& 31)).toInt32)) := by
              exact zl_J6_numberOfLeadingZeros_0f7a4_7 q101 q103 q105 q117 q123
            exact tt_ireturn dJ6_numberOfLeadingZeros_0f7a4_78 .int rfl rfl (hP _ _ _ _ ⟨hG, hA, Or.inl ⟨_, rfl, ⟨_, rfl, rg_w (rg_all (17 - ((((((((((((x0 : Int32).toUInt32 >>> ((8 : Int32).toUInt32 &&& 31)).toInt32) : Int32).toUInt32 >>> ((4 : Int32).toUInt32 &&& 31)).toInt32) : Int32).toUInt32 >>> ((2 : Int32).toUInt32 &&& 31)).toInt32) : Int32).toUInt32 >>> ((1 : Int32).toUInt32 &&& 31)).toInt32)))⟩, ⟨rfl, congrArg (fun q => some (Value.int q)) hF.symm⟩, rfl, rfl⟩⟩)
    · skip
      have h126 : Rg 65536 2147483647 x0 := rg_le_r (⟨by decide, by decide⟩ : Rg 65536 65536 65536) h102 (nlt_le q103)
      refine tt_iinc (j := 0) (v := 15) (ks := [0, 1]) (L' := [(1, .int 15), (0, .int x0)]) dJ6_numberOfLeadingZeros_0f7a4_25 rfl rfl (by decide) rfl ?_
      refine tt_iload_n (j := 1) dJ6_numberOfLeadingZeros_0f7a4_28 rfl ?_
      refine tt_bipush (v := 16) dJ6_numberOfLeadingZeros_0f7a4_29 rfl ?_
      refine tt_iushr dJ6_numberOfLeadingZeros_0f7a4_31 ?_
      refine tt_istore_n (ks := [0, 1]) (L' := [(0, .int (((x0 : Int32).toUInt32 >>> ((16 : Int32).toUInt32 &&& 31)).toInt32)), (1, .int 15)]) dJ6_numberOfLeadingZeros_0f7a4_32 (by decide) rfl ?_
      refine tt_iload_n (j := 0) dJ6_numberOfLeadingZeros_0f7a4_33 rfl ?_
      refine tt_sipush (v := 256) dJ6_numberOfLeadingZeros_0f7a4_34 rfl ?_
      refine tt_icmp_lt (tgt := 48) dJ6_numberOfLeadingZeros_0f7a4_37 rfl (fun q127 => ?_) (fun q127 => ?_)
      · skip
        have h128 : Rg (-2147483648) 255 (((x0 : Int32).toUInt32 >>> ((16 : Int32).toUInt32 &&& 31)).toInt32) := rg_lt_l (rg_all (((x0 : Int32).toUInt32 >>> ((16 : Int32).toUInt32 &&& 31)).toInt32)) (⟨by decide, by decide⟩ : Rg 256 256 256) q127
        refine tt_iload_n (j := 0) dJ6_numberOfLeadingZeros_0f7a4_48 rfl ?_
        refine tt_bipush (v := 16) dJ6_numberOfLeadingZeros_0f7a4_49 rfl ?_
        refine tt_icmp_lt (tgt := 61) dJ6_numberOfLeadingZeros_0f7a4_51 rfl (fun q129 => ?_) (fun q129 => ?_)
        · skip
          have h130 : Rg (-2147483648) 15 (((x0 : Int32).toUInt32 >>> ((16 : Int32).toUInt32 &&& 31)).toInt32) := rg_lt_l h128 (⟨by decide, by decide⟩ : Rg 16 16 16) q129
          refine tt_iload_n (j := 0) dJ6_numberOfLeadingZeros_0f7a4_61 rfl ?_
          refine tt_iconst (v := 4) dJ6_numberOfLeadingZeros_0f7a4_62 rfl ?_
          refine tt_icmp_lt (tgt := 73) dJ6_numberOfLeadingZeros_0f7a4_63 rfl (fun q131 => ?_) (fun q131 => ?_)
          · skip
            have h132 : Rg (-2147483648) 3 (((x0 : Int32).toUInt32 >>> ((16 : Int32).toUInt32 &&& 31)).toInt32) := rg_lt_l h130 (⟨by decide, by decide⟩ : Rg 4 4 4) q131
            refine tt_iload_n (j := 1) dJ6_numberOfLeadingZeros_0f7a4_73 rfl ?_
            refine tt_iload_n (j := 0) dJ6_numberOfLeadingZeros_0f7a4_74 rfl ?_
            refine tt_iconst (v := 1) dJ6_numberOfLeadingZeros_0f7a4_75 rfl ?_
            refine tt_iushr dJ6_numberOfLeadingZeros_0f7a4_76 ?_
            refine tt_isub dJ6_numberOfLeadingZeros_0f7a4_77 ?_
            have hF : Z_J6_numberOfLeadingZeros_0f7a4 x0 = (15 - ((((((x0 : Int32).toUInt32 >>> ((16 : Int32).toUInt32 &&& 31)).toInt32) : Int32).toUInt32 >>> ((1 : Int32).toUInt32 &&& 31)).toInt32)) := by
              exact zl_J6_numberOfLeadingZeros_0f7a4_8 q101 q103 q127 q129 q131
            exact tt_ireturn dJ6_numberOfLeadingZeros_0f7a4_78 .int rfl rfl (hP _ _ _ _ ⟨hG, hA, Or.inl ⟨_, rfl, ⟨_, rfl, rg_w (rg_all (15 - ((((((x0 : Int32).toUInt32 >>> ((16 : Int32).toUInt32 &&& 31)).toInt32) : Int32).toUInt32 >>> ((1 : Int32).toUInt32 &&& 31)).toInt32)))⟩, ⟨rfl, congrArg (fun q => some (Value.int q)) hF.symm⟩, rfl, rfl⟩⟩)
          · skip
            have h133 : Rg 4 15 (((x0 : Int32).toUInt32 >>> ((16 : Int32).toUInt32 &&& 31)).toInt32) := rg_le_r (⟨by decide, by decide⟩ : Rg 4 4 4) h130 (nlt_le q131)
            refine tt_iinc (j := 1) (v := 13) (ks := [0, 1]) (L' := [(1, .int 13), (0, .int (((x0 : Int32).toUInt32 >>> ((16 : Int32).toUInt32 &&& 31)).toInt32))]) dJ6_numberOfLeadingZeros_0f7a4_66 rfl rfl (by decide) rfl ?_
            refine tt_iload_n (j := 1) dJ6_numberOfLeadingZeros_0f7a4_69 rfl ?_
            refine tt_iconst (v := 2) dJ6_numberOfLeadingZeros_0f7a4_70 rfl ?_
            refine tt_iushr dJ6_numberOfLeadingZeros_0f7a4_71 ?_
            refine tt_istore_n (ks := [0, 1]) (L' := [(0, .int ((((((x0 : Int32).toUInt32 >>> ((16 : Int32).toUInt32 &&& 31)).toInt32) : Int32).toUInt32 >>> ((2 : Int32).toUInt32 &&& 31)).toInt32)), (1, .int 13)]) dJ6_numberOfLeadingZeros_0f7a4_72 (by decide) rfl ?_
            refine tt_iload_n (j := 1) dJ6_numberOfLeadingZeros_0f7a4_73 rfl ?_
            refine tt_iload_n (j := 0) dJ6_numberOfLeadingZeros_0f7a4_74 rfl ?_
            refine tt_iconst (v := 1) dJ6_numberOfLeadingZeros_0f7a4_75 rfl ?_
            refine tt_iushr dJ6_numberOfLeadingZeros_0f7a4_76 ?_
            refine tt_isub dJ6_numberOfLeadingZeros_0f7a4_77 ?_
            have hF : Z_J6_numberOfLeadingZeros_0f7a4 x0 = (13 - (((((((((x0 : Int32).toUInt32 >>> ((16 : Int32).toUInt32 &&& 31)).toInt32) : Int32).toUInt32 >>> ((2 : Int32).toUInt32 &&& 31)).toInt32) : Int32).toUInt32 >>> ((1 : Int32).toUInt32 &&& 31)).toInt32)) := by
              exact zl_J6_numberOfLeadingZeros_0f7a4_9 q101 q103 q127 q129 q131
            exact tt_ireturn dJ6_numberOfLeadingZeros_0f7a4_78 .int rfl rfl (hP _ _ _ _ ⟨hG, hA, Or.inl ⟨_, rfl, ⟨_, rfl, rg_w (rg_all (13 - (((((((((x0 : Int32).toUInt32 >>> ((16 : Int32).toUInt32 &&& 31)).toInt32) : Int32).toUInt32 >>> ((2 : Int32).toUInt32 &&& 31)).toInt32) : Int32).toUInt32 >>> ((1 : Int32).toUInt32 &&& 31)).toInt32)))⟩, ⟨rfl, congrArg (fun q => some (Value.int q)) hF.symm⟩, rfl, rfl⟩⟩)
        · skip
          have h134 : Rg 16 255 (((x0 : Int32).toUInt32 >>> ((16 : Int32).toUInt32 &&& 31)).toInt32) := rg_le_r (⟨by decide, by decide⟩ : Rg 16 16 16) h128 (nlt_le q129)
          refine tt_iinc (j := 1) (v := 11) (ks := [0, 1]) (L' := [(1, .int 11), (0, .int (((x0 : Int32).toUInt32 >>> ((16 : Int32).toUInt32 &&& 31)).toInt32))]) dJ6_numberOfLeadingZeros_0f7a4_54 rfl rfl (by decide) rfl ?_
          refine tt_iload_n (j := 1) dJ6_numberOfLeadingZeros_0f7a4_57 rfl ?_
          refine tt_iconst (v := 4) dJ6_numberOfLeadingZeros_0f7a4_58 rfl ?_
          refine tt_iushr dJ6_numberOfLeadingZeros_0f7a4_59 ?_
          refine tt_istore_n (ks := [0, 1]) (L' := [(0, .int ((((((x0 : Int32).toUInt32 >>> ((16 : Int32).toUInt32 &&& 31)).toInt32) : Int32).toUInt32 >>> ((4 : Int32).toUInt32 &&& 31)).toInt32)), (1, .int 11)]) dJ6_numberOfLeadingZeros_0f7a4_60 (by decide) rfl ?_
          refine tt_iload_n (j := 0) dJ6_numberOfLeadingZeros_0f7a4_61 rfl ?_
          refine tt_iconst (v := 4) dJ6_numberOfLeadingZeros_0f7a4_62 rfl ?_
          refine tt_icmp_lt (tgt := 73) dJ6_numberOfLeadingZeros_0f7a4_63 rfl (fun q135 => ?_) (fun q135 => ?_)
          · skip
            have h136 : Rg (-2147483648) 3 ((((((x0 : Int32).toUInt32 >>> ((16 : Int32).toUInt32 &&& 31)).toInt32) : Int32).toUInt32 >>> ((4 : Int32).toUInt32 &&& 31)).toInt32) := rg_lt_l (rg_all ((((((x0 : Int32).toUInt32 >>> ((16 : Int32).toUInt32 &&& 31)).toInt32) : Int32).toUInt32 >>> ((4 : Int32).toUInt32 &&& 31)).toInt32)) (⟨by decide, by decide⟩ : Rg 4 4 4) q135
            refine tt_iload_n (j := 1) dJ6_numberOfLeadingZeros_0f7a4_73 rfl ?_
            refine tt_iload_n (j := 0) dJ6_numberOfLeadingZeros_0f7a4_74 rfl ?_
            refine tt_iconst (v := 1) dJ6_numberOfLeadingZeros_0f7a4_75 rfl ?_
            refine tt_iushr dJ6_numberOfLeadingZeros_0f7a4_76 ?_
            refine tt_isub dJ6_numberOfLeadingZeros_0f7a4_77 ?_
            have hF : Z_J6_numberOfLeadingZeros_0f7a4 x0 = (11 - (((((((((x0 : Int32).toUInt32 >>> ((16 : Int32).toUInt32 &&& 31)).toInt32) : Int32).toUInt32 >>> ((4 : Int32).toUInt32 &&& 31)).toInt32) : Int32).toUInt32 >>> ((1 : Int32).toUInt32 &&& 31)).toInt32)) := by
              exact zl_J6_numberOfLeadingZeros_0f7a4_10 q101 q103 q127 q129 q135
            exact tt_ireturn dJ6_numberOfLeadingZeros_0f7a4_78 .int rfl rfl (hP _ _ _ _ ⟨hG, hA, Or.inl ⟨_, rfl, ⟨_, rfl, rg_w (rg_all (11 - (((((((((x0 : Int32).toUInt32 >>> ((16 : Int32).toUInt32 &&& 31)).toInt32) : Int32).toUInt32 >>> ((4 : Int32).toUInt32 &&& 31)).toInt32) : Int32).toUInt32 >>> ((1 : Int32).toUInt32 &&& 31)).toInt32)))⟩, ⟨rfl, congrArg (fun q => some (Value.int q)) hF.symm⟩, rfl, rfl⟩⟩)
          · skip
            have h137 : Rg 4 2147483647 ((((((x0 : Int32).toUInt32 >>> ((16 : Int32).toUInt32 &&& 31)).toInt32) : Int32).toUInt32 >>> ((4 : Int32).toUInt32 &&& 31)).toInt32) := rg_le_r (⟨by decide, by decide⟩ : Rg 4 4 4) (rg_all ((((((x0 : Int32).toUInt32 >>> ((16 : Int32).toUInt32 &&& 31)).toInt32) : Int32).toUInt32 >>> ((4 : Int32).toUInt32 &&& 31)).toInt32)) (nlt_le q135)
            refine tt_iinc (j := 1) (v := 9) (ks := [0, 1]) (L' := [(1, .int 9), (0, .int ((((((x0 : Int32).toUInt32 >>> ((16 : Int32).toUInt32 &&& 31)).toInt32) : Int32).toUInt32 >>> ((4 : Int32).toUInt32 &&& 31)).toInt32))]) dJ6_numberOfLeadingZeros_0f7a4_66 rfl rfl (by decide) rfl ?_
            refine tt_iload_n (j := 1) dJ6_numberOfLeadingZeros_0f7a4_69 rfl ?_
            refine tt_iconst (v := 2) dJ6_numberOfLeadingZeros_0f7a4_70 rfl ?_
            refine tt_iushr dJ6_numberOfLeadingZeros_0f7a4_71 ?_
            refine tt_istore_n (ks := [0, 1]) (L' := [(0, .int (((((((((x0 : Int32).toUInt32 >>> ((16 : Int32).toUInt32 &&& 31)).toInt32) : Int32).toUInt32 >>> ((4 : Int32).toUInt32 &&& 31)).toInt32) : Int32).toUInt32 >>> ((2 : Int32).toUInt32 &&& 31)).toInt32)), (1, .int 9)]) dJ6_numberOfLeadingZeros_0f7a4_72 (by decide) rfl ?_
            refine tt_iload_n (j := 1) dJ6_numberOfLeadingZeros_0f7a4_73 rfl ?_
            refine tt_iload_n (j := 0) dJ6_numberOfLeadingZeros_0f7a4_74 rfl ?_
            refine tt_iconst (v := 1) dJ6_numberOfLeadingZeros_0f7a4_75 rfl ?_
            refine tt_iushr dJ6_numberOfLeadingZeros_0f7a4_76 ?_
            refine tt_isub dJ6_numberOfLeadingZeros_0f7a4_77 ?_
            have hF : Z_J6_numberOfLeadingZeros_0f7a4 x0 = (9 - ((((((((((((x0 : Int32).toUInt32 >>> ((16 : Int32).toUInt32 &&& 31)).toInt32) : Int32).toUInt32 >>> ((4 : Int32).toUInt32 &&& 31)).toInt32) : Int32).toUInt32 >>> ((2 : Int32).toUInt32 &&& 31)).toInt32) : Int32).toUInt32 >>> ((1 : Int32).toUInt32 &&& 31)).toInt32)) := by
              exact zl_J6_numberOfLeadingZeros_0f7a4_11 q101 q103 q127 q129 q135
            exact tt_ireturn dJ6_numberOfLeadingZeros_0f7a4_78 .int rfl rfl (hP _ _ _ _ ⟨hG, hA, Or.inl ⟨_, rfl, ⟨_, rfl, rg_w (rg_all (9 - ((((((((((((x0 : Int32).toUInt32 >>> ((16 : Int32).toUInt32 &&& 31)).toInt32) : Int32).toUInt32 >>> ((4 : Int32).toUInt32 &&& 31)).toInt32) : Int32).toUInt32 >>> ((2 : Int32).toUInt32 &&& 31)).toInt32) : Int32).toUInt32 >>> ((1 : Int32).toUInt32 &&& 31)).toInt32)))⟩, ⟨rfl, congrArg (fun q => some (Value.int q)) hF.symm⟩, rfl, rfl⟩⟩)
      · skip
        have h138 : Rg 256 2147483647 (((x0 : Int32).toUInt32 >>> ((16 : Int32).toUInt32 &&& 31)).toInt32) := rg_le_r (⟨by decide, by decide⟩ : Rg 256 256 256) (rg_all (((x0 : Int32).toUInt32 >>> ((16 : Int32).toUInt32 &&& 31)).toInt32)) (nlt_le q127)
        refine tt_iinc (j := 1) (v := 7) (ks := [0, 1]) (L' := [(1, .int 7), (0, .int (((x0 : Int32).toUInt32 >>> ((16 : Int32).toUInt32 &&& 31)).toInt32))]) dJ6_numberOfLeadingZeros_0f7a4_40 rfl rfl (by decide) rfl ?_
        refine tt_iload_n (j := 1) dJ6_numberOfLeadingZeros_0f7a4_43 rfl ?_
        refine tt_bipush (v := 8) dJ6_numberOfLeadingZeros_0f7a4_44 rfl ?_
        refine tt_iushr dJ6_numberOfLeadingZeros_0f7a4_46 ?_
        refine tt_istore_n (ks := [0, 1]) (L' := [(0, .int ((((((x0 : Int32).toUInt32 >>> ((16 : Int32).toUInt32 &&& 31)).toInt32) : Int32).toUInt32 >>> ((8 : Int32).toUInt32 &&& 31)).toInt32)), (1, .int 7)]) dJ6_numberOfLeadingZeros_0f7a4_47 (by decide) rfl ?_
        refine tt_iload_n (j := 0) dJ6_numberOfLeadingZeros_0f7a4_48 rfl ?_
        refine tt_bipush (v := 16) dJ6_numberOfLeadingZeros_0f7a4_49 rfl ?_
        refine tt_icmp_lt (tgt := 61) dJ6_numberOfLeadingZeros_0f7a4_51 rfl (fun q139 => ?_) (fun q139 => ?_)
        · skip
          have h140 : Rg (-2147483648) 15 ((((((x0 : Int32).toUInt32 >>> ((16 : Int32).toUInt32 &&& 31)).toInt32) : Int32).toUInt32 >>> ((8 : Int32).toUInt32 &&& 31)).toInt32) := rg_lt_l (rg_all ((((((x0 : Int32).toUInt32 >>> ((16 : Int32).toUInt32 &&& 31)).toInt32) : Int32).toUInt32 >>> ((8 : Int32).toUInt32 &&& 31)).toInt32)) (⟨by decide, by decide⟩ : Rg 16 16 16) q139
          refine tt_iload_n (j := 0) dJ6_numberOfLeadingZeros_0f7a4_61 rfl ?_
          refine tt_iconst (v := 4) dJ6_numberOfLeadingZeros_0f7a4_62 rfl ?_
          refine tt_icmp_lt (tgt := 73) dJ6_numberOfLeadingZeros_0f7a4_63 rfl (fun q141 => ?_) (fun q141 => ?_)
          · skip
            have h142 : Rg (-2147483648) 3 ((((((x0 : Int32).toUInt32 >>> ((16 : Int32).toUInt32 &&& 31)).toInt32) : Int32).toUInt32 >>> ((8 : Int32).toUInt32 &&& 31)).toInt32) := rg_lt_l h140 (⟨by decide, by decide⟩ : Rg 4 4 4) q141
            refine tt_iload_n (j := 1) dJ6_numberOfLeadingZeros_0f7a4_73 rfl ?_
            refine tt_iload_n (j := 0) dJ6_numberOfLeadingZeros_0f7a4_74 rfl ?_
            refine tt_iconst (v := 1) dJ6_numberOfLeadingZeros_0f7a4_75 rfl ?_
            refine tt_iushr dJ6_numberOfLeadingZeros_0f7a4_76 ?_
            refine tt_isub dJ6_numberOfLeadingZeros_0f7a4_77 ?_
            have hF : Z_J6_numberOfLeadingZeros_0f7a4 x0 = (7 - (((((((((x0 : Int32).toUInt32 >>> ((16 : Int32).toUInt32 &&& 31)).toInt32) : Int32).toUInt32 >>> ((8 : Int32).toUInt32 &&& 31)).toInt32) : Int32).toUInt32 >>> ((1 : Int32).toUInt32 &&& 31)).toInt32)) := by
              exact zl_J6_numberOfLeadingZeros_0f7a4_12 q101 q103 q127 q139 q141
            exact tt_ireturn dJ6_numberOfLeadingZeros_0f7a4_78 .int rfl rfl (hP _ _ _ _ ⟨hG, hA, Or.inl ⟨_, rfl, ⟨_, rfl, rg_w (rg_all (7 - (((((((((x0 : Int32).toUInt32 >>> ((16 : Int32).toUInt32 &&& 31)).toInt32) : Int32).toUInt32 >>> ((8 : Int32).toUInt32 &&& 31)).toInt32) : Int32).toUInt32 >>> ((1 : Int32).toUInt32 &&& 31)).toInt32)))⟩, ⟨rfl, congrArg (fun q => some (Value.int q)) hF.symm⟩, rfl, rfl⟩⟩)
          · skip
            have h143 : Rg 4 15 ((((((x0 : Int32).toUInt32 >>> ((16 : Int32).toUInt32 &&& 31)).toInt32) : Int32).toUInt32 >>> ((8 : Int32).toUInt32 &&& 31)).toInt32) := rg_le_r (⟨by decide, by decide⟩ : Rg 4 4 4) h140 (nlt_le q141)
            refine tt_iinc (j := 1) (v := 5) (ks := [0, 1]) (L' := [(1, .int 5), (0, .int ((((((x0 : Int32).toUInt32 >>> ((16 : Int32).toUInt32 &&& 31)).toInt32) : Int32).toUInt32 >>> ((8 : Int32).toUInt32 &&& 31)).toInt32))]) dJ6_numberOfLeadingZeros_0f7a4_66 rfl rfl (by decide) rfl ?_
            refine tt_iload_n (j := 1) dJ6_numberOfLeadingZeros_0f7a4_69 rfl ?_
            refine tt_iconst (v := 2) dJ6_numberOfLeadingZeros_0f7a4_70 rfl ?_
            refine tt_iushr dJ6_numberOfLeadingZeros_0f7a4_71 ?_
            refine tt_istore_n (ks := [0, 1]) (L' := [(0, .int (((((((((x0 : Int32).toUInt32 >>> ((16 : Int32).toUInt32 &&& 31)).toInt32) : Int32).toUInt32 >>> ((8 : Int32).toUInt32 &&& 31)).toInt32) : Int32).toUInt32 >>> ((2 : Int32).toUInt32 &&& 31)).toInt32)), (1, .int 5)]) dJ6_numberOfLeadingZeros_0f7a4_72 (by decide) rfl ?_
            refine tt_iload_n (j := 1) dJ6_numberOfLeadingZeros_0f7a4_73 rfl ?_
            refine tt_iload_n (j := 0) dJ6_numberOfLeadingZeros_0f7a4_74 rfl ?_
            refine tt_iconst (v := 1) dJ6_numberOfLeadingZeros_0f7a4_75 rfl ?_
            refine tt_iushr dJ6_numberOfLeadingZeros_0f7a4_76 ?_
            refine tt_isub dJ6_numberOfLeadingZeros_0f7a4_77 ?_
            have hF : Z_J6_numberOfLeadingZeros_0f7a4 x0 = (5 - ((((((((((((x0 : Int32).toUInt32 >>> ((16 : Int32).toUInt32 &&& 31)).toInt32) : Int32).toUInt32 >>> ((8 : Int32).toUInt32 &&& 31)).toInt32) : Int32).toUInt32 >>> ((2 : Int32).toUInt32 &&& 31)).toInt32) : Int32).toUInt32 >>> ((1 : Int32).toUInt32 &&& 31)).toInt32)) := by
              exact zl_J6_numberOfLeadingZeros_0f7a4_13 q101 q103 q127 q139 q141
            exact tt_ireturn dJ6_numberOfLeadingZeros_0f7a4_78 .int rfl rfl (hP _ _ _ _ ⟨hG, hA, Or.inl ⟨_, rfl, ⟨_, rfl, rg_w (rg_all (5 - ((((((((((((x0 : Int32).toUInt32 >>> ((16 : Int32).toUInt32 &&& 31)).toInt32) : Int32).toUInt32 >>> ((8 : Int32).toUInt32 &&& 31)).toInt32) : Int32).toUInt32 >>> ((2 : Int32).toUInt32 &&& 31)).toInt32) : Int32).toUInt32 >>> ((1 : Int32).toUInt32 &&& 31)).toInt32)))⟩, ⟨rfl, congrArg (fun q => some (Value.int q)) hF.symm⟩, rfl, rfl⟩⟩)
        · skip
          have h144 : Rg 16 2147483647 ((((((x0 : Int32).toUInt32 >>> ((16 : Int32).toUInt32 &&& 31)).toInt32) : Int32).toUInt32 >>> ((8 : Int32).toUInt32 &&& 31)).toInt32) := rg_le_r (⟨by decide, by decide⟩ : Rg 16 16 16) (rg_all ((((((x0 : Int32).toUInt32 >>> ((16 : Int32).toUInt32 &&& 31)).toInt32) : Int32).toUInt32 >>> ((8 : Int32).toUInt32 &&& 31)).toInt32)) (nlt_le q139)
          refine tt_iinc (j := 1) (v := 3) (ks := [0, 1]) (L' := [(1, .int 3), (0, .int ((((((x0 : Int32).toUInt32 >>> ((16 : Int32).toUInt32 &&& 31)).toInt32) : Int32).toUInt32 >>> ((8 : Int32).toUInt32 &&& 31)).toInt32))]) dJ6_numberOfLeadingZeros_0f7a4_54 rfl rfl (by decide) rfl ?_
          refine tt_iload_n (j := 1) dJ6_numberOfLeadingZeros_0f7a4_57 rfl ?_
          refine tt_iconst (v := 4) dJ6_numberOfLeadingZeros_0f7a4_58 rfl ?_
          refine tt_iushr dJ6_numberOfLeadingZeros_0f7a4_59 ?_
          refine tt_istore_n (ks := [0, 1]) (L' := [(0, .int (((((((((x0 : Int32).toUInt32 >>> ((16 : Int32).toUInt32 &&& 31)).toInt32) : Int32).toUInt32 >>> ((8 : Int32).toUInt32 &&& 31)).toInt32) : Int32).toUInt32 >>> ((4 : Int32).toUInt32 &&& 31)).toInt32)), (1, .int 3)]) dJ6_numberOfLeadingZeros_0f7a4_60 (by decide) rfl ?_
          refine tt_iload_n (j := 0) dJ6_numberOfLeadingZeros_0f7a4_61 rfl ?_
          refine tt_iconst (v := 4) dJ6_numberOfLeadingZeros_0f7a4_62 rfl ?_
          refine tt_icmp_lt (tgt := 73) dJ6_numberOfLeadingZeros_0f7a4_63 rfl (fun q145 => ?_) (fun q145 => ?_)
          · skip
            have h146 : Rg (-2147483648) 3 (((((((((x0 : Int32).toUInt32 >>> ((16 : Int32).toUInt32 &&& 31)).toInt32) : Int32).toUInt32 >>> ((8 : Int32).toUInt32 &&& 31)).toInt32) : Int32).toUInt32 >>> ((4 : Int32).toUInt32 &&& 31)).toInt32) := rg_lt_l (rg_all (((((((((x0 : Int32).toUInt32 >>> ((16 : Int32).toUInt32 &&& 31)).toInt32) : Int32).toUInt32 >>> ((8 : Int32).toUInt32 &&& 31)).toInt32) : Int32).toUInt32 >>> ((4 : Int32).toUInt32 &&& 31)).toInt32)) (⟨by decide, by decide⟩ : Rg 4 4 4) q145
            refine tt_iload_n (j := 1) dJ6_numberOfLeadingZeros_0f7a4_73 rfl ?_
            refine tt_iload_n (j := 0) dJ6_numberOfLeadingZeros_0f7a4_74 rfl ?_
            refine tt_iconst (v := 1) dJ6_numberOfLeadingZeros_0f7a4_75 rfl ?_
            refine tt_iushr dJ6_numberOfLeadingZeros_0f7a4_76 ?_
            refine tt_isub dJ6_numberOfLeadingZeros_0f7a4_77 ?_
            have hF : Z_J6_numberOfLeadingZeros_0f7a4 x0 = (3 - ((((((((((((x0 : Int32).toUInt32 >>> ((16 : Int32).toUInt32 &&& 31)).toInt32) : Int32).toUInt32 >>> ((8 : Int32).toUInt32 &&& 31)).toInt32) : Int32).toUInt32 >>> ((4 : Int32).toUInt32 &&& 31)).toInt32) : Int32).toUInt32 >>> ((1 : Int32).toUInt32 &&& 31)).toInt32)) := by
              exact zl_J6_numberOfLeadingZeros_0f7a4_14 q101 q103 q127 q139 q145
            exact tt_ireturn dJ6_numberOfLeadingZeros_0f7a4_78 .int rfl rfl (hP _ _ _ _ ⟨hG, hA, Or.inl ⟨_, rfl, ⟨_, rfl, rg_w (rg_all (3 - ((((((((((((x0 : Int32).toUInt32 >>> ((16 : Int32).toUInt32 &&& 31)).toInt32) : Int32).toUInt32 >>> ((8 : Int32).toUInt32 &&& 31)).toInt32) : Int32).toUInt32 >>> ((4 : Int32).toUInt32 &&& 31)).toInt32) : Int32).toUInt32 >>> ((1 : Int32).toUInt32 &&& 31)).toInt32)))⟩, ⟨rfl, congrArg (fun q => some (Value.int q)) hF.symm⟩, rfl, rfl⟩⟩)
          · skip
            have h147 : Rg 4 2147483647 (((((((((x0 : Int32).toUInt32 >>> ((16 : Int32).toUInt32 &&& 31)).toInt32) : Int32).toUInt32 >>> ((8 : Int32).toUInt32 &&& 31)).toInt32) : Int32).toUInt32 >>> ((4 : Int32).toUInt32 &&& 31)).toInt32) := rg_le_r (⟨by decide, by decide⟩ : Rg 4 4 4) (rg_all (((((((((x0 : Int32).toUInt32 >>> ((16 : Int32).toUInt32 &&& 31)).toInt32) : Int32).toUInt32 >>> ((8 : Int32).toUInt32 &&& 31)).toInt32) : Int32).toUInt32 >>> ((4 : Int32).toUInt32 &&& 31)).toInt32)) (nlt_le q145)
            refine tt_iinc (j := 1) (v := 1) (ks := [0, 1]) (L' := [(1, .int 1), (0, .int (((((((((x0 : Int32).toUInt32 >>> ((16 : Int32).toUInt32 &&& 31)).toInt32) : Int32).toUInt32 >>> ((8 : Int32).toUInt32 &&& 31)).toInt32) : Int32).toUInt32 >>> ((4 : Int32).toUInt32 &&& 31)).toInt32))]) dJ6_numberOfLeadingZeros_0f7a4_66 rfl rfl (by decide) rfl ?_
            refine tt_iload_n (j := 1) dJ6_numberOfLeadingZeros_0f7a4_69 rfl ?_
            refine tt_iconst (v := 2) dJ6_numberOfLeadingZeros_0f7a4_70 rfl ?_
            refine tt_iushr dJ6_numberOfLeadingZeros_0f7a4_71 ?_
            refine tt_istore_n (ks := [0, 1]) (L' := [(0, .int ((((((((((((x0 : Int32).toUInt32 >>> ((16 : Int32).toUInt32 &&& 31)).toInt32) : Int32).toUInt32 >>> ((8 : Int32).toUInt32 &&& 31)).toInt32) : Int32).toUInt32 >>> ((4 : Int32).toUInt32 &&& 31)).toInt32) : Int32).toUInt32 >>> ((2 : Int32).toUInt32 &&& 31)).toInt32)), (1, .int 1)]) dJ6_numberOfLeadingZeros_0f7a4_72 (by decide) rfl ?_
            refine tt_iload_n (j := 1) dJ6_numberOfLeadingZeros_0f7a4_73 rfl ?_
            refine tt_iload_n (j := 0) dJ6_numberOfLeadingZeros_0f7a4_74 rfl ?_
            refine tt_iconst (v := 1) dJ6_numberOfLeadingZeros_0f7a4_75 rfl ?_
            refine tt_iushr dJ6_numberOfLeadingZeros_0f7a4_76 ?_
            refine tt_isub dJ6_numberOfLeadingZeros_0f7a4_77 ?_
            have hF : Z_J6_numberOfLeadingZeros_0f7a4 x0 = (1 - (((((((((((((((x0 : Int32).toUInt32 >>> ((16 : Int32).toUInt32 &&& 31)).toInt32) : Int32).toUInt32 >>> ((8 : Int32).toUInt32 &&& 31)).toInt32) : Int32).toUInt32 >>> ((4 : Int32).toUInt32 &&& 31)).toInt32) : Int32).toUInt32 >>> ((2 : Int32).toUInt32 &&& 31)).toInt32) : Int32).toUInt32 >>> ((1 : Int32).toUInt32 &&& 31)).toInt32)) := by
              exact zl_J6_numberOfLeadingZeros_0f7a4_15 q101 q103 q127 q139 q145
            exact tt_ireturn dJ6_numberOfLeadingZeros_0f7a4_78 .int rfl rfl (hP _ _ _ _ ⟨hG, hA, Or.inl ⟨_, rfl, ⟨_, rfl, rg_w (rg_all (1 - (((((((((((((((x0 : Int32).toUInt32 >>> ((16 : Int32).toUInt32 &&& 31)).toInt32) : Int32).toUInt32 >>> ((8 : Int32).toUInt32 &&& 31)).toInt32) : Int32).toUInt32 >>> ((4 : Int32).toUInt32 &&& 31)).toInt32) : Int32).toUInt32 >>> ((2 : Int32).toUInt32 &&& 31)).toInt32) : Int32).toUInt32 >>> ((1 : Int32).toUInt32 &&& 31)).toInt32)))⟩, ⟨rfl, congrArg (fun q => some (Value.int q)) hF.symm⟩, rfl, rfl⟩⟩)
  · skip
    have h148 : Rg (-2147483648) 0 x0 := rg_le_l (rg_all x0) (⟨by decide, by decide⟩ : Rg 0 0 0) (nlt_le q101)
    refine tt_iload_n (j := 0) dJ6_numberOfLeadingZeros_0f7a4_4 rfl ?_
    refine tt_if_ne (tgt := 13) dJ6_numberOfLeadingZeros_0f7a4_5 rfl (fun q149 => ?_) (fun q149 => ?_)
    · skip
      have h150 : Rg (-2147483648) (-1) x0 := rg_ne_hi h148 (⟨by decide, by decide⟩ : Rg 0 0 0) q149
      refine tt_iconst (v := 0) dJ6_numberOfLeadingZeros_0f7a4_13 rfl ?_
      have hF : Z_J6_numberOfLeadingZeros_0f7a4 x0 = 0 := by
        exact zl_J6_numberOfLeadingZeros_0f7a4_17 q101 q149
      exact tt_ireturn dJ6_numberOfLeadingZeros_0f7a4_14 .int rfl rfl (hP _ _ _ _ ⟨hG, hA, Or.inl ⟨_, rfl, ⟨_, rfl, rg_w (⟨by decide, by decide⟩ : Rg 0 0 0)⟩, ⟨rfl, congrArg (fun q => some (Value.int q)) hF.symm⟩, rfl, rfl⟩⟩)
    · skip
      have h151 : Rg 0 0 x0 := rg_eq_l h148 (⟨by decide, by decide⟩ : Rg 0 0 0) q149
      refine tt_bipush (v := 32) dJ6_numberOfLeadingZeros_0f7a4_8 rfl ?_
      refine tt_goto (tgt := 14) dJ6_numberOfLeadingZeros_0f7a4_10 rfl ?_
      have hF : Z_J6_numberOfLeadingZeros_0f7a4 x0 = 32 := by
        exact zl_J6_numberOfLeadingZeros_0f7a4_16 q101 q149
      exact tt_ireturn dJ6_numberOfLeadingZeros_0f7a4_14 .int rfl rfl (hP _ _ _ _ ⟨hG, hA, Or.inl ⟨_, rfl, ⟨_, rfl, rg_w (⟨by decide, by decide⟩ : Rg 32 32 32)⟩, ⟨rfl, congrArg (fun q => some (Value.int q)) hF.symm⟩, rfl, rfl⟩⟩)
def Z_J13_numberOfLeadingZeros_95d88  (y0 : Int64) : Int32 :=
  if ((((y0 : Int64).toUInt64 >>> ((32 : Int32).toInt64.toUInt64 &&& Int64.toUInt64 63)).toInt64) : Int64).toInt32 = 0 then
    (32 + (Z_J6_numberOfLeadingZeros_0f7a4 ((y0 : Int64).toInt32)))
  else
    (Z_J6_numberOfLeadingZeros_0f7a4 (((((y0 : Int64).toUInt64 >>> ((32 : Int32).toInt64.toUInt64 &&& Int64.toUInt64 63)).toInt64) : Int64).toInt32))
theorem zl_J13_numberOfLeadingZeros_95d88_0  {y0 : Int64} (h0 : ((((y0 : Int64).toUInt64 >>> ((32 : Int32).toInt64.toUInt64 &&& Int64.toUInt64 63)).toInt64) : Int64).toInt32 = 0) : Z_J13_numberOfLeadingZeros_95d88 y0 = (32 + (Z_J6_numberOfLeadingZeros_0f7a4 ((y0 : Int64).toInt32))) := by unfold Z_J13_numberOfLeadingZeros_95d88; exact if_pos h0
theorem zl_J13_numberOfLeadingZeros_95d88_1  {y0 : Int64} (h0 : ¬ ((((y0 : Int64).toUInt64 >>> ((32 : Int32).toInt64.toUInt64 &&& Int64.toUInt64 63)).toInt64) : Int64).toInt32 = 0) : Z_J13_numberOfLeadingZeros_95d88 y0 = (Z_J6_numberOfLeadingZeros_0f7a4 (((((y0 : Int64).toUInt64 >>> ((32 : Int32).toInt64.toUInt64 &&& Int64.toUInt64 63)).toInt64) : Int64).toInt32)) := by unfold Z_J13_numberOfLeadingZeros_95d88; exact if_neg h0
set_option maxHeartbeats 40000000 in
theorem cz_J13_numberOfLeadingZeros_95d88 {xi : SX} {S : Hp} {E : List Nat} {kc nc : Nat} {P : Po} {y0 : Int64} (hG : GI S E)  (hP : ∀ r T x y, PV E [] S kc nc (rI (-2147483648) 2147483647) (fun v T => T = S ∧ v = some (.int (Z_J13_numberOfLeadingZeros_95d88 y0))) [] r T x y → P r T x y) : TT xi M_J13_numberOfLeadingZeros_95d88 0 [(0, .long y0)] [] S kc nc P := by
  have hA : Af E [] S S := af_rf
  refine tt_lload_n (j := 0) dJ13_numberOfLeadingZeros_95d88_0 rfl ?_
  refine tt_bipush (v := 32) dJ13_numberOfLeadingZeros_95d88_1 rfl ?_
  refine tt_lushr dJ13_numberOfLeadingZeros_95d88_3 ?_
  refine tt_l2i dJ13_numberOfLeadingZeros_95d88_4 ?_
  refine tt_istore_n (ks := [0, 1]) (L' := [(2, .int ((((y0 : Int64).toUInt64 >>> ((32 : Int32).toInt64.toUInt64 &&& Int64.toUInt64 63)).toInt64) : Int64).toInt32), (0, .long y0)]) dJ13_numberOfLeadingZeros_95d88_5 (by decide) rfl ?_
  refine tt_iload_n (j := 0) dJ13_numberOfLeadingZeros_95d88_6 rfl ?_
  refine tt_if_ne (tgt := 21) dJ13_numberOfLeadingZeros_95d88_7 rfl (fun q101 => ?_) (fun q101 => ?_)
  · skip
    refine tt_iload_n (j := 0) dJ13_numberOfLeadingZeros_95d88_21 rfl ?_
    refine gt_SIp (As := [.int ((((y0 : Int64).toUInt64 >>> ((32 : Int32).toInt64.toUInt64 &&& Int64.toUInt64 63)).toInt64) : Int64).toInt32]) dJ13_numberOfLeadingZeros_95d88_22 ca_J13_308 ⟨by decide, by decide⟩ hA (Nat.le_of_ble_eq_true rfl) (Nat.le_of_ble_eq_true rfl) (by decide) (cz_J6_numberOfLeadingZeros_0f7a4 hG  (fun _ _ _ _ h => h)) rfl (fun _ h => nomatch h) (fun _ _ q => q.1) (fun x102 h103 hx104 => ?_)
    obtain rfl : Z_J6_numberOfLeadingZeros_0f7a4 (((((y0 : Int64).toUInt64 >>> ((32 : Int32).toInt64.toUInt64 &&& Int64.toUInt64 63)).toInt64) : Int64).toInt32) = x102 := ((ei_w hx104.2).trans rfl).symm
    have hF : Z_J13_numberOfLeadingZeros_95d88 y0 = (Z_J6_numberOfLeadingZeros_0f7a4 (((((y0 : Int64).toUInt64 >>> ((32 : Int32).toInt64.toUInt64 &&& Int64.toUInt64 63)).toInt64) : Int64).toInt32)) := by
      exact zl_J13_numberOfLeadingZeros_95d88_1 q101
    exact tt_ireturn dJ13_numberOfLeadingZeros_95d88_25 .int rfl rfl (hP _ _ _ _ ⟨hG, hA, Or.inl ⟨_, rfl, ⟨_, rfl, rg_w h103⟩, ⟨rfl, congrArg (fun q => some (Value.int q)) hF.symm⟩, rfl, rfl⟩⟩)
  · skip
    have h105 : Rg 0 0 ((((y0 : Int64).toUInt64 >>> ((32 : Int32).toInt64.toUInt64 &&& Int64.toUInt64 63)).toInt64) : Int64).toInt32 := rg_eq_l (rg_all ((((y0 : Int64).toUInt64 >>> ((32 : Int32).toInt64.toUInt64 &&& Int64.toUInt64 63)).toInt64) : Int64).toInt32) (⟨by decide, by decide⟩ : Rg 0 0 0) q101
    refine tt_bipush (v := 32) dJ13_numberOfLeadingZeros_95d88_10 rfl ?_
    refine tt_lload_n (j := 1) dJ13_numberOfLeadingZeros_95d88_12 rfl ?_
    refine tt_l2i dJ13_numberOfLeadingZeros_95d88_13 ?_
    refine gt_SIp (As := [.int (y0 : Int64).toInt32]) dJ13_numberOfLeadingZeros_95d88_14 ca_J13_308 ⟨by decide, by decide⟩ hA (Nat.le_of_ble_eq_true rfl) (Nat.le_of_ble_eq_true rfl) (by decide) (cz_J6_numberOfLeadingZeros_0f7a4 hG  (fun _ _ _ _ h => h)) rfl (fun _ h => nomatch h) (fun _ _ q => q.1) (fun x106 h107 hx108 => ?_)
    obtain rfl : Z_J6_numberOfLeadingZeros_0f7a4 ((y0 : Int64).toInt32) = x106 := ((ei_w hx108.2).trans rfl).symm
    refine tt_iadd dJ13_numberOfLeadingZeros_95d88_17 ?_
    refine tt_goto (tgt := 25) dJ13_numberOfLeadingZeros_95d88_18 rfl ?_
    have hF : Z_J13_numberOfLeadingZeros_95d88 y0 = (32 + (Z_J6_numberOfLeadingZeros_0f7a4 ((y0 : Int64).toInt32))) := by
      exact zl_J13_numberOfLeadingZeros_95d88_0 q101
    exact tt_ireturn dJ13_numberOfLeadingZeros_95d88_25 .int rfl rfl (hP _ _ _ _ ⟨hG, hA, Or.inl ⟨_, rfl, ⟨_, rfl, rg_w (rg_all (32 + (Z_J6_numberOfLeadingZeros_0f7a4 ((y0 : Int64).toInt32))))⟩, ⟨rfl, congrArg (fun q => some (Value.int q)) hF.symm⟩, rfl, rfl⟩⟩)
def Z_J13_highestOneBit_067f4  (y0 : Int64) : Int64 :=
  (y0 &&& ((((-9223372036854775808) : Int64).toUInt64 >>> (((Z_J13_numberOfLeadingZeros_95d88 (y0)) : Int32).toInt64.toUInt64 &&& Int64.toUInt64 63)).toInt64))
theorem zl_J13_highestOneBit_067f4_0  {y0 : Int64}  : Z_J13_highestOneBit_067f4 y0 = (y0 &&& ((((-9223372036854775808) : Int64).toUInt64 >>> (((Z_J13_numberOfLeadingZeros_95d88 (y0)) : Int32).toInt64.toUInt64 &&& Int64.toUInt64 63)).toInt64)) := rfl
set_option maxHeartbeats 40000000 in
theorem cz_J13_highestOneBit_067f4 {xi : SX} {S : Hp} {E : List Nat} {kc nc : Nat} {P : Po} {y0 : Int64} (hG : GI S E)  (hP : ∀ r T x y, PV E [] S kc nc rJ (fun v T => T = S ∧ v = some (.long (Z_J13_highestOneBit_067f4 y0))) [] r T x y → P r T x y) : TT xi M_J13_highestOneBit_067f4 0 [(0, .long y0)] [] S kc nc P := by
  have hA : Af E [] S S := af_rf
  refine tt_lload_n (j := 0) dJ13_highestOneBit_067f4_0 rfl ?_
  refine tt_ldc2 (v := (-9223372036854775808)) dJ13_highestOneBit_067f4_1 kl_J13_168 ?_
  refine tt_lload_n (j := 0) dJ13_highestOneBit_067f4_4 rfl ?_
  refine gt_SIp (As := [.long y0]) dJ13_highestOneBit_067f4_5 ca_J13_98 ⟨by decide, by decide⟩ hA (Nat.le_of_ble_eq_true rfl) (Nat.le_of_ble_eq_true rfl) (by decide) (cz_J13_numberOfLeadingZeros_95d88 hG  (fun _ _ _ _ h => h)) rfl (fun _ h => nomatch h) (fun _ _ q => q.1) (fun x101 h102 hx103 => ?_)
  obtain rfl : Z_J13_numberOfLeadingZeros_95d88 (y0) = x101 := ((ei_w hx103.2).trans rfl).symm
  refine tt_lushr dJ13_highestOneBit_067f4_8 ?_
  refine tt_land dJ13_highestOneBit_067f4_9 ?_
  have hF : Z_J13_highestOneBit_067f4 y0 = (y0 &&& ((((-9223372036854775808) : Int64).toUInt64 >>> (((Z_J13_numberOfLeadingZeros_95d88 (y0)) : Int32).toInt64.toUInt64 &&& Int64.toUInt64 63)).toInt64)) := by
    rfl
  exact tt_lreturn dJ13_highestOneBit_067f4_10 rfl (hP _ _ _ _ ⟨hG, hA, Or.inl ⟨_, rfl, ⟨_, rfl⟩, ⟨rfl, congrArg (fun q => some (Value.long q)) hF.symm⟩, rfl, rfl⟩⟩)
def Z_X7_isAny (R : Nat → Nat → Nat) (σ : SG) (o0 : Nat) : Int32 :=
  if (mJ σ 450 o0) = ((-1) : Int64) then
    1
  else
    0
theorem zl_X7_isAny_0 {R : Nat → Nat → Nat} {σ : SG} {o0 : Nat} (h0 : (mJ σ 450 o0) = ((-1) : Int64)) : Z_X7_isAny R σ o0 = 1 := by unfold Z_X7_isAny; exact if_pos h0
theorem zl_X7_isAny_1 {R : Nat → Nat → Nat} {σ : SG} {o0 : Nat} (h0 : ¬ (mJ σ 450 o0) = ((-1) : Int64)) : Z_X7_isAny R σ o0 = 0 := by unfold Z_X7_isAny; exact if_neg h0
set_option maxHeartbeats 40000000 in
theorem cz_X7_isAny {xi : SX} {S : Hp} {E : List Nat} {kc nc : Nat} {P : Po} {o0 : Nat} {R : Nat → Nat → Nat} (hG : GI S E) (h0 : Oa S E 7 0 o0) (hR : RK S R) (hP : ∀ r T x y, PV E [] S kc nc (rI 0 1) (fun v T => T = S ∧ v = some (.int (Z_X7_isAny R (sg S) o0))) [] r T x y → P r T x y) : TT xi M_X7_isAny 0 [(0, .ref o0)] [] S kc nc P := by
  have hA : Af E [] S S := af_rf
  refine tt_aload_n (j := 0) dX7_isAny_0 rfl ?_
  refine gt_gJ (id := 450) (v := (mJ (sg S) 450 o0)) dX7_isAny_1 fl_7_15 rfl rfl h0 hA (sg_J (k := 450) (o := o0) (show sg S = (sg S) from rfl)) ?_
  refine tt_ldc2 (v := (-1)) dX7_isAny_4 kl_7_19 ?_
  refine tt_lcmp dX7_isAny_7 ?_
  refine tt_if_ne (tgt := 15) dX7_isAny_8 rfl (fun q101 => ?_) (fun q101 => ?_)
  · skip
    refine tt_iconst (v := 0) dX7_isAny_15 rfl ?_
    have hF : Z_X7_isAny R (sg S) o0 = 0 := by
      exact zl_X7_isAny_1 (lc_ne_t q101)
    exact tt_ireturn dX7_isAny_16 .boolean rfl rfl (hP _ _ _ _ ⟨hG, hA, Or.inl ⟨_, rfl, ⟨_, rfl, rg_w (⟨by decide, by decide⟩ : Rg 0 0 0)⟩, ⟨rfl, congrArg (fun q => some (Value.int q)) hF.symm⟩, rfl, rfl⟩⟩)
  · skip
    refine tt_iconst (v := 1) dX7_isAny_11 rfl ?_
    refine tt_goto (tgt := 16) dX7_isAny_12 rfl ?_
    have hF : Z_X7_isAny R (sg S) o0 = 1 := by
      exact zl_X7_isAny_0 (lc_ne_f q101)
    exact tt_ireturn dX7_isAny_16 .boolean rfl rfl (hP _ _ _ _ ⟨hG, hA, Or.inl ⟨_, rfl, ⟨_, rfl, rg_w (⟨by decide, by decide⟩ : Rg 1 1 1)⟩, ⟨rfl, congrArg (fun q => some (Value.int q)) hF.symm⟩, rfl, rfl⟩⟩)
def Z_X7_isNone (R : Nat → Nat → Nat) (σ : SG) (o0 : Nat) : Int32 :=
  if (mJ σ 450 o0) = ((-2) : Int64) then
    1
  else
    0
theorem zl_X7_isNone_0 {R : Nat → Nat → Nat} {σ : SG} {o0 : Nat} (h0 : (mJ σ 450 o0) = ((-2) : Int64)) : Z_X7_isNone R σ o0 = 1 := by unfold Z_X7_isNone; exact if_pos h0
theorem zl_X7_isNone_1 {R : Nat → Nat → Nat} {σ : SG} {o0 : Nat} (h0 : ¬ (mJ σ 450 o0) = ((-2) : Int64)) : Z_X7_isNone R σ o0 = 0 := by unfold Z_X7_isNone; exact if_neg h0
set_option maxHeartbeats 40000000 in
theorem cz_X7_isNone {xi : SX} {S : Hp} {E : List Nat} {kc nc : Nat} {P : Po} {o0 : Nat} {R : Nat → Nat → Nat} (hG : GI S E) (h0 : Oa S E 7 0 o0) (hR : RK S R) (hP : ∀ r T x y, PV E [] S kc nc (rI 0 1) (fun v T => T = S ∧ v = some (.int (Z_X7_isNone R (sg S) o0))) [] r T x y → P r T x y) : TT xi M_X7_isNone 0 [(0, .ref o0)] [] S kc nc P := by
  have hA : Af E [] S S := af_rf
  refine tt_aload_n (j := 0) dX7_isNone_0 rfl ?_
  refine gt_gJ (id := 450) (v := (mJ (sg S) 450 o0)) dX7_isNone_1 fl_7_15 rfl rfl h0 hA (sg_J (k := 450) (o := o0) (show sg S = (sg S) from rfl)) ?_
  refine tt_ldc2 (v := (-2)) dX7_isNone_4 kl_7_21 ?_
  refine tt_lcmp dX7_isNone_7 ?_
  refine tt_if_ne (tgt := 15) dX7_isNone_8 rfl (fun q101 => ?_) (fun q101 => ?_)
  · skip
    refine tt_iconst (v := 0) dX7_isNone_15 rfl ?_
    have hF : Z_X7_isNone R (sg S) o0 = 0 := by
      exact zl_X7_isNone_1 (lc_ne_t q101)
    exact tt_ireturn dX7_isNone_16 .boolean rfl rfl (hP _ _ _ _ ⟨hG, hA, Or.inl ⟨_, rfl, ⟨_, rfl, rg_w (⟨by decide, by decide⟩ : Rg 0 0 0)⟩, ⟨rfl, congrArg (fun q => some (Value.int q)) hF.symm⟩, rfl, rfl⟩⟩)
  · skip
    refine tt_iconst (v := 1) dX7_isNone_11 rfl ?_
    refine tt_goto (tgt := 16) dX7_isNone_12 rfl ?_
    have hF : Z_X7_isNone R (sg S) o0 = 1 := by
      exact zl_X7_isNone_0 (lc_ne_f q101)
    exact tt_ireturn dX7_isNone_16 .boolean rfl rfl (hP _ _ _ _ ⟨hG, hA, Or.inl ⟨_, rfl, ⟨_, rfl, rg_w (⟨by decide, by decide⟩ : Rg 1 1 1)⟩, ⟨rfl, congrArg (fun q => some (Value.int q)) hF.symm⟩, rfl, rfl⟩⟩)
def Z_X7_isSingle (R : Nat → Nat → Nat) (σ : SG) (o0 : Nat) : Int32 :=
  if (mJ σ 450 o0) = (0 : Int64) then
    1
  else
    0
theorem zl_X7_isSingle_0 {R : Nat → Nat → Nat} {σ : SG} {o0 : Nat} (h0 : (mJ σ 450 o0) = (0 : Int64)) : Z_X7_isSingle R σ o0 = 1 := by unfold Z_X7_isSingle; exact if_pos h0
theorem zl_X7_isSingle_1 {R : Nat → Nat → Nat} {σ : SG} {o0 : Nat} (h0 : ¬ (mJ σ 450 o0) = (0 : Int64)) : Z_X7_isSingle R σ o0 = 0 := by unfold Z_X7_isSingle; exact if_neg h0
set_option maxHeartbeats 40000000 in
theorem cz_X7_isSingle {xi : SX} {S : Hp} {E : List Nat} {kc nc : Nat} {P : Po} {o0 : Nat} {R : Nat → Nat → Nat} (hG : GI S E) (h0 : Oa S E 7 0 o0) (hR : RK S R) (hP : ∀ r T x y, PV E [] S kc nc (rI 0 1) (fun v T => T = S ∧ v = some (.int (Z_X7_isSingle R (sg S) o0))) [] r T x y → P r T x y) : TT xi M_X7_isSingle 0 [(0, .ref o0)] [] S kc nc P := by
  have hA : Af E [] S S := af_rf
  refine tt_aload_n (j := 0) dX7_isSingle_0 rfl ?_
  refine gt_gJ (id := 450) (v := (mJ (sg S) 450 o0)) dX7_isSingle_1 fl_7_15 rfl rfl h0 hA (sg_J (k := 450) (o := o0) (show sg S = (sg S) from rfl)) ?_
  refine tt_lconst (v := 0) dX7_isSingle_4 rfl ?_
  refine tt_lcmp dX7_isSingle_5 ?_
  refine tt_if_ne (tgt := 13) dX7_isSingle_6 rfl (fun q101 => ?_) (fun q101 => ?_)
  · skip
    refine tt_iconst (v := 0) dX7_isSingle_13 rfl ?_
    have hF : Z_X7_isSingle R (sg S) o0 = 0 := by
      exact zl_X7_isSingle_1 (lc_ne_t q101)
    exact tt_ireturn dX7_isSingle_14 .boolean rfl rfl (hP _ _ _ _ ⟨hG, hA, Or.inl ⟨_, rfl, ⟨_, rfl, rg_w (⟨by decide, by decide⟩ : Rg 0 0 0)⟩, ⟨rfl, congrArg (fun q => some (Value.int q)) hF.symm⟩, rfl, rfl⟩⟩)
  · skip
    refine tt_iconst (v := 1) dX7_isSingle_9 rfl ?_
    refine tt_goto (tgt := 14) dX7_isSingle_10 rfl ?_
    have hF : Z_X7_isSingle R (sg S) o0 = 1 := by
      exact zl_X7_isSingle_0 (lc_ne_f q101)
    exact tt_ireturn dX7_isSingle_14 .boolean rfl rfl (hP _ _ _ _ ⟨hG, hA, Or.inl ⟨_, rfl, ⟨_, rfl, rg_w (⟨by decide, by decide⟩ : Rg 1 1 1)⟩, ⟨rfl, congrArg (fun q => some (Value.int q)) hF.symm⟩, rfl, rfl⟩⟩)
def Z_X7_isNatural (R : Nat → Nat → Nat) (σ : SG) (o0 : Nat) : Int32 :=
  if (mJ σ 450 o0) < (0 : Int64) then
    0
  else
    if (mJ σ 448 o0) < (0 : Int64) then
      0
    else
      1
theorem zl_X7_isNatural_0 {R : Nat → Nat → Nat} {σ : SG} {o0 : Nat} (h0 : (mJ σ 450 o0) < (0 : Int64)) : Z_X7_isNatural R σ o0 = 0 := by unfold Z_X7_isNatural; exact if_pos h0
theorem zl_X7_isNatural_1 {R : Nat → Nat → Nat} {σ : SG} {o0 : Nat} (h0 : ¬ (mJ σ 450 o0) < (0 : Int64)) (h1 : (mJ σ 448 o0) < (0 : Int64)) : Z_X7_isNatural R σ o0 = 0 := by unfold Z_X7_isNatural; exact Eq.trans (if_neg h0) (if_pos h1)
theorem zl_X7_isNatural_2 {R : Nat → Nat → Nat} {σ : SG} {o0 : Nat} (h0 : ¬ (mJ σ 450 o0) < (0 : Int64)) (h1 : ¬ (mJ σ 448 o0) < (0 : Int64)) : Z_X7_isNatural R σ o0 = 1 := by unfold Z_X7_isNatural; exact Eq.trans (if_neg h0) (if_neg h1)
set_option maxHeartbeats 40000000 in
theorem cz_X7_isNatural {xi : SX} {S : Hp} {E : List Nat} {kc nc : Nat} {P : Po} {o0 : Nat} {R : Nat → Nat → Nat} (hG : GI S E) (h0 : Oa S E 7 0 o0) (hR : RK S R) (hP : ∀ r T x y, PV E [] S kc nc (rI 0 1) (fun v T => T = S ∧ v = some (.int (Z_X7_isNatural R (sg S) o0))) [] r T x y → P r T x y) : TT xi M_X7_isNatural 0 [(0, .ref o0)] [] S kc nc P := by
  have hA : Af E [] S S := af_rf
  refine tt_aload_n (j := 0) dX7_isNatural_0 rfl ?_
  refine gt_gJ (id := 450) (v := (mJ (sg S) 450 o0)) dX7_isNatural_1 fl_7_15 rfl rfl h0 hA (sg_J (k := 450) (o := o0) (show sg S = (sg S) from rfl)) ?_
  refine tt_lconst (v := 0) dX7_isNatural_4 rfl ?_
  refine tt_lcmp dX7_isNatural_5 ?_
  refine tt_if_lt (tgt := 22) dX7_isNatural_6 rfl (fun q101 => ?_) (fun q101 => ?_)
  · skip
    refine tt_iconst (v := 0) dX7_isNatural_22 rfl ?_
    have hF : Z_X7_isNatural R (sg S) o0 = 0 := by
      exact zl_X7_isNatural_0 (lc_lt_t q101)
    exact tt_ireturn dX7_isNatural_23 .boolean rfl rfl (hP _ _ _ _ ⟨hG, hA, Or.inl ⟨_, rfl, ⟨_, rfl, rg_w (⟨by decide, by decide⟩ : Rg 0 0 0)⟩, ⟨rfl, congrArg (fun q => some (Value.int q)) hF.symm⟩, rfl, rfl⟩⟩)
  · skip
    refine tt_aload_n (j := 0) dX7_isNatural_9 rfl ?_
    refine gt_gJ (id := 448) (v := (mJ (sg S) 448 o0)) dX7_isNatural_10 fl_7_23 rfl rfl h0 hA (sg_J (k := 448) (o := o0) (show sg S = (sg S) from rfl)) ?_
    refine tt_lconst (v := 0) dX7_isNatural_13 rfl ?_
    refine tt_lcmp dX7_isNatural_14 ?_
    refine tt_if_lt (tgt := 22) dX7_isNatural_15 rfl (fun q102 => ?_) (fun q102 => ?_)
    · skip
      refine tt_iconst (v := 0) dX7_isNatural_22 rfl ?_
      have hF : Z_X7_isNatural R (sg S) o0 = 0 := by
        exact zl_X7_isNatural_1 (Int64.not_lt.mpr (lc_lt_f q101)) (lc_lt_t q102)
      exact tt_ireturn dX7_isNatural_23 .boolean rfl rfl (hP _ _ _ _ ⟨hG, hA, Or.inl ⟨_, rfl, ⟨_, rfl, rg_w (⟨by decide, by decide⟩ : Rg 0 0 0)⟩, ⟨rfl, congrArg (fun q => some (Value.int q)) hF.symm⟩, rfl, rfl⟩⟩)
    · skip
      refine tt_iconst (v := 1) dX7_isNatural_18 rfl ?_
      refine tt_goto (tgt := 23) dX7_isNatural_19 rfl ?_
      have hF : Z_X7_isNatural R (sg S) o0 = 1 := by
        exact zl_X7_isNatural_2 (Int64.not_lt.mpr (lc_lt_f q101)) (Int64.not_lt.mpr (lc_lt_f q102))
      exact tt_ireturn dX7_isNatural_23 .boolean rfl rfl (hP _ _ _ _ ⟨hG, hA, Or.inl ⟨_, rfl, ⟨_, rfl, rg_w (⟨by decide, by decide⟩ : Rg 1 1 1)⟩, ⟨rfl, congrArg (fun q => some (Value.int q)) hF.symm⟩, rfl, rfl⟩⟩)
def Z_X7_isFactor (R : Nat → Nat → Nat) (σ : SG) (o0 : Nat) : Int32 :=
  if (mJ σ 450 o0) < (0 : Int64) then
    0
  else
    if (mJ σ 448 o0) < ((-1073741824) : Int64) then
      0
    else
      if (1073741824 : Int64) < (mJ σ 449 o0) then
        0
      else
        1
theorem zl_X7_isFactor_0 {R : Nat → Nat → Nat} {σ : SG} {o0 : Nat} (h0 : (mJ σ 450 o0) < (0 : Int64)) : Z_X7_isFactor R σ o0 = 0 := by unfold Z_X7_isFactor; exact if_pos h0
theorem zl_X7_isFactor_1 {R : Nat → Nat → Nat} {σ : SG} {o0 : Nat} (h0 : ¬ (mJ σ 450 o0) < (0 : Int64)) (h1 : (mJ σ 448 o0) < ((-1073741824) : Int64)) : Z_X7_isFactor R σ o0 = 0 := by unfold Z_X7_isFactor; exact Eq.trans (if_neg h0) (if_pos h1)
theorem zl_X7_isFactor_2 {R : Nat → Nat → Nat} {σ : SG} {o0 : Nat} (h0 : ¬ (mJ σ 450 o0) < (0 : Int64)) (h1 : ¬ (mJ σ 448 o0) < ((-1073741824) : Int64)) (h2 : (1073741824 : Int64) < (mJ σ 449 o0)) : Z_X7_isFactor R σ o0 = 0 := by unfold Z_X7_isFactor; exact Eq.trans (if_neg h0) (Eq.trans (if_neg h1) (if_pos h2))
theorem zl_X7_isFactor_3 {R : Nat → Nat → Nat} {σ : SG} {o0 : Nat} (h0 : ¬ (mJ σ 450 o0) < (0 : Int64)) (h1 : ¬ (mJ σ 448 o0) < ((-1073741824) : Int64)) (h2 : ¬ (1073741824 : Int64) < (mJ σ 449 o0)) : Z_X7_isFactor R σ o0 = 1 := by unfold Z_X7_isFactor; exact Eq.trans (if_neg h0) (Eq.trans (if_neg h1) (if_neg h2))
set_option maxHeartbeats 40000000 in
theorem cz_X7_isFactor {xi : SX} {S : Hp} {E : List Nat} {kc nc : Nat} {P : Po} {o0 : Nat} {R : Nat → Nat → Nat} (hG : GI S E) (h0 : Oa S E 7 0 o0) (hR : RK S R) (hP : ∀ r T x y, PV E [] S kc nc (rI 0 1) (fun v T => T = S ∧ v = some (.int (Z_X7_isFactor R (sg S) o0))) [] r T x y → P r T x y) : TT xi M_X7_isFactor 0 [(0, .ref o0)] [] S kc nc P := by
  have hA : Af E [] S S := af_rf
  refine tt_aload_n (j := 0) dX7_isFactor_0 rfl ?_
  refine gt_gJ (id := 450) (v := (mJ (sg S) 450 o0)) dX7_isFactor_1 fl_7_15 rfl rfl h0 hA (sg_J (k := 450) (o := o0) (show sg S = (sg S) from rfl)) ?_
  refine tt_lconst (v := 0) dX7_isFactor_4 rfl ?_
  refine tt_lcmp dX7_isFactor_5 ?_
  refine tt_if_lt (tgt := 35) dX7_isFactor_6 rfl (fun q101 => ?_) (fun q101 => ?_)
  · skip
    refine tt_iconst (v := 0) dX7_isFactor_35 rfl ?_
    have hF : Z_X7_isFactor R (sg S) o0 = 0 := by
      exact zl_X7_isFactor_0 (lc_lt_t q101)
    exact tt_ireturn dX7_isFactor_36 .boolean rfl rfl (hP _ _ _ _ ⟨hG, hA, Or.inl ⟨_, rfl, ⟨_, rfl, rg_w (⟨by decide, by decide⟩ : Rg 0 0 0)⟩, ⟨rfl, congrArg (fun q => some (Value.int q)) hF.symm⟩, rfl, rfl⟩⟩)
  · skip
    refine tt_aload_n (j := 0) dX7_isFactor_9 rfl ?_
    refine gt_gJ (id := 448) (v := (mJ (sg S) 448 o0)) dX7_isFactor_10 fl_7_23 rfl rfl h0 hA (sg_J (k := 448) (o := o0) (show sg S = (sg S) from rfl)) ?_
    refine tt_ldc2 (v := (-1073741824)) dX7_isFactor_13 kl_7_116 ?_
    refine tt_lcmp dX7_isFactor_16 ?_
    refine tt_if_lt (tgt := 35) dX7_isFactor_17 rfl (fun q102 => ?_) (fun q102 => ?_)
    · skip
      refine tt_iconst (v := 0) dX7_isFactor_35 rfl ?_
      have hF : Z_X7_isFactor R (sg S) o0 = 0 := by
        exact zl_X7_isFactor_1 (Int64.not_lt.mpr (lc_lt_f q101)) (lc_lt_t q102)
      exact tt_ireturn dX7_isFactor_36 .boolean rfl rfl (hP _ _ _ _ ⟨hG, hA, Or.inl ⟨_, rfl, ⟨_, rfl, rg_w (⟨by decide, by decide⟩ : Rg 0 0 0)⟩, ⟨rfl, congrArg (fun q => some (Value.int q)) hF.symm⟩, rfl, rfl⟩⟩)
    · skip
      refine tt_aload_n (j := 0) dX7_isFactor_20 rfl ?_
      refine gt_gJ (id := 449) (v := (mJ (sg S) 449 o0)) dX7_isFactor_21 fl_7_26 rfl rfl h0 hA (sg_J (k := 449) (o := o0) (show sg S = (sg S) from rfl)) ?_
      refine tt_ldc2 (v := 1073741824) dX7_isFactor_24 kl_7_118 ?_
      refine tt_lcmp dX7_isFactor_27 ?_
      refine tt_if_gt (tgt := 35) dX7_isFactor_28 rfl (fun q103 => ?_) (fun q103 => ?_)
      · skip
        refine tt_iconst (v := 0) dX7_isFactor_35 rfl ?_
        have hF : Z_X7_isFactor R (sg S) o0 = 0 := by
          exact zl_X7_isFactor_2 (Int64.not_lt.mpr (lc_lt_f q101)) (Int64.not_lt.mpr (lc_lt_f q102)) (lc_gt_t q103)
        exact tt_ireturn dX7_isFactor_36 .boolean rfl rfl (hP _ _ _ _ ⟨hG, hA, Or.inl ⟨_, rfl, ⟨_, rfl, rg_w (⟨by decide, by decide⟩ : Rg 0 0 0)⟩, ⟨rfl, congrArg (fun q => some (Value.int q)) hF.symm⟩, rfl, rfl⟩⟩)
      · skip
        refine tt_iconst (v := 1) dX7_isFactor_31 rfl ?_
        refine tt_goto (tgt := 36) dX7_isFactor_32 rfl ?_
        have hF : Z_X7_isFactor R (sg S) o0 = 1 := by
          exact zl_X7_isFactor_3 (Int64.not_lt.mpr (lc_lt_f q101)) (Int64.not_lt.mpr (lc_lt_f q102)) (Int64.not_lt.mpr (lc_gt_f q103))
        exact tt_ireturn dX7_isFactor_36 .boolean rfl rfl (hP _ _ _ _ ⟨hG, hA, Or.inl ⟨_, rfl, ⟨_, rfl, rg_w (⟨by decide, by decide⟩ : Rg 1 1 1)⟩, ⟨rfl, congrArg (fun q => some (Value.int q)) hF.symm⟩, rfl, rfl⟩⟩)
def Z_X7_become (R : Nat → Nat → Nat) (σ : SG) (o0 : Nat) (y1 : Int64) (y3 : Int64) (y5 : Int64) : SG :=
  if y1 < ((-2305843009213693952) : Int64) then
    (uJ (uJ (uJ σ 448 o0 0) 449 o0 0) 450 o0 (-1))
  else
    if (2305843009213693952 : Int64) < y3 then
      (uJ (uJ (uJ σ 448 o0 0) 449 o0 0) 450 o0 (-1))
    else
      if y1 = y3 then
        (uJ (uJ (uJ σ 448 o0 y1) 449 o0 y3) 450 o0 0)
      else
        (uJ (uJ (uJ σ 448 o0 y1) 449 o0 y3) 450 o0 y5)
theorem zl_X7_become_0 {R : Nat → Nat → Nat} {σ : SG} {o0 : Nat} {y1 : Int64} {y3 : Int64} {y5 : Int64} (h0 : y1 < ((-2305843009213693952) : Int64)) : Z_X7_become R σ o0 y1 y3 y5 = (uJ (uJ (uJ σ 448 o0 0) 449 o0 0) 450 o0 (-1)) := by unfold Z_X7_become; exact if_pos h0
theorem zl_X7_become_1 {R : Nat → Nat → Nat} {σ : SG} {o0 : Nat} {y1 : Int64} {y3 : Int64} {y5 : Int64} (h0 : ¬ y1 < ((-2305843009213693952) : Int64)) (h1 : (2305843009213693952 : Int64) < y3) : Z_X7_become R σ o0 y1 y3 y5 = (uJ (uJ (uJ σ 448 o0 0) 449 o0 0) 450 o0 (-1)) := by unfold Z_X7_become; exact Eq.trans (if_neg h0) (if_pos h1)
theorem zl_X7_become_2 {R : Nat → Nat → Nat} {σ : SG} {o0 : Nat} {y1 : Int64} {y3 : Int64} {y5 : Int64} (h0 : ¬ y1 < ((-2305843009213693952) : Int64)) (h1 : ¬ (2305843009213693952 : Int64) < y3) (h2 : y1 = y3) : Z_X7_become R σ o0 y1 y3 y5 = (uJ (uJ (uJ σ 448 o0 y1) 449 o0 y3) 450 o0 0) := by unfold Z_X7_become; exact Eq.trans (if_neg h0) (Eq.trans (if_neg h1) (if_pos h2))
theorem zl_X7_become_3 {R : Nat → Nat → Nat} {σ : SG} {o0 : Nat} {y1 : Int64} {y3 : Int64} {y5 : Int64} (h0 : ¬ y1 < ((-2305843009213693952) : Int64)) (h1 : ¬ (2305843009213693952 : Int64) < y3) (h2 : ¬ y1 = y3) : Z_X7_become R σ o0 y1 y3 y5 = (uJ (uJ (uJ σ 448 o0 y1) 449 o0 y3) 450 o0 y5) := by unfold Z_X7_become; exact Eq.trans (if_neg h0) (Eq.trans (if_neg h1) (if_neg h2))
set_option maxHeartbeats 40000000 in
theorem cz_X7_become {xi : SX} {S : Hp} {E : List Nat} {kc nc : Nat} {P : Po} {o0 : Nat} {y1 : Int64} {y3 : Int64} {y5 : Int64} {R : Nat → Nat → Nat} (hG : GI S E) (h0 : Oa S E 7 0 o0) (hR : RK S R) (hP : ∀ r T x y, PV E [9987] S kc nc rV (fun v T => sg T = Z_X7_become R (sg S) o0 y1 y3 y5) [] r T x y → P r T x y) : TT xi M_X7_become 0 [(0, .ref o0), (1, .long y1), (3, .long y3), (5, .long y5)] [] S kc nc P := by
  have hA : Af E [9987] S S := af_rf
  refine tt_lload_n (j := 1) dX7_become_0 rfl ?_
  refine tt_ldc2 (v := (-2305843009213693952)) dX7_become_1 kl_7_11 ?_
  refine tt_lcmp dX7_become_4 ?_
  refine tt_if_lt (tgt := 16) dX7_become_5 rfl (fun q101 => ?_) (fun q101 => ?_)
  · skip
    refine tt_iconst (v := 1) dX7_become_16 rfl ?_
    refine tt_goto (tgt := 21) dX7_become_17 rfl ?_
    refine tt_istore (ks := [0, 1, 2, 3, 4]) (L' := [(7, .int 1), (0, .ref o0), (1, .long y1), (3, .long y3), (5, .long y5)]) dX7_become_21 (by decide) rfl ?_
    refine tt_aload_n (j := 1) dX7_become_23 rfl ?_
    refine tt_iload (j := 0) dX7_become_24 rfl ?_
    refine tt_if_eq (tgt := 33) dX7_become_26 rfl (fun q => absurd q (by decide)) (fun _ => ?_)
    refine tt_lconst (v := 0) dX7_become_29 rfl ?_
    refine tt_goto (tgt := 34) dX7_become_30 rfl ?_
    refine gx_pJ (id := 448) (x := 0) dX7_become_34 fl_7_23 rfl rfl h0 hA rfl rfl rfl hG (show sg S = (sg S) from rfl) (fun S102 hG103 hA104 e105 => ?_)
    refine tt_aload_n (j := 1) dX7_become_37 rfl ?_
    refine tt_iload (j := 0) dX7_become_38 rfl ?_
    refine tt_if_eq (tgt := 47) dX7_become_40 rfl (fun q => absurd q (by decide)) (fun _ => ?_)
    refine tt_lconst (v := 0) dX7_become_43 rfl ?_
    refine tt_goto (tgt := 48) dX7_become_44 rfl ?_
    refine gx_pJ (id := 449) (x := 0) dX7_become_48 fl_7_26 rfl rfl h0 hA104 rfl rfl rfl hG103 e105 (fun S106 hG107 hA108 e109 => ?_)
    refine tt_aload_n (j := 1) dX7_become_51 rfl ?_
    refine tt_iload (j := 0) dX7_become_52 rfl ?_
    refine tt_if_eq (tgt := 63) dX7_become_54 rfl (fun q => absurd q (by decide)) (fun _ => ?_)
    refine tt_ldc2 (v := (-1)) dX7_become_57 kl_7_19 ?_
    refine tt_goto (tgt := 75) dX7_become_60 rfl ?_
    refine gx_pJ (id := 450) (x := (-1)) dX7_become_75 fl_7_15 rfl rfl h0 hA108 rfl rfl rfl hG107 e109 (fun S110 hG111 hA112 e113 => ?_)
    have hF : Z_X7_become R (sg S) o0 y1 y3 y5 = (uJ (uJ (uJ (sg S) 448 o0 0) 449 o0 0) 450 o0 (-1)) := by
      exact zl_X7_become_0 (lc_lt_t q101)
    exact tt_vreturn dX7_become_78 rfl (hP _ _ _ _ ⟨hG111, hA112, Or.inl ⟨_, rfl, rfl, Eq.trans e113 hF.symm, rfl, rfl⟩⟩)
  · skip
    refine tt_lload_n (j := 2) dX7_become_8 rfl ?_
    refine tt_ldc2 (v := 2305843009213693952) dX7_become_9 kl_7_13 ?_
    refine tt_lcmp dX7_become_12 ?_
    refine tt_if_le (tgt := 20) dX7_become_13 rfl (fun q114 => ?_) (fun q114 => ?_)
    · skip
      refine tt_iconst (v := 0) dX7_become_20 rfl ?_
      refine tt_istore (ks := [0, 1, 2, 3, 4]) (L' := [(7, .int 0), (0, .ref o0), (1, .long y1), (3, .long y3), (5, .long y5)]) dX7_become_21 (by decide) rfl ?_
      refine tt_aload_n (j := 1) dX7_become_23 rfl ?_
      refine tt_iload (j := 0) dX7_become_24 rfl ?_
      refine tt_if_eq (tgt := 33) dX7_become_26 rfl (fun _ => ?_) (fun q => absurd q (by decide))
      refine tt_lload_n (j := 2) dX7_become_33 rfl ?_
      refine gx_pJ (id := 448) (x := y1) dX7_become_34 fl_7_23 rfl rfl h0 hA rfl rfl rfl hG (show sg S = (sg S) from rfl) (fun S115 hG116 hA117 e118 => ?_)
      refine tt_aload_n (j := 1) dX7_become_37 rfl ?_
      refine tt_iload (j := 0) dX7_become_38 rfl ?_
      refine tt_if_eq (tgt := 47) dX7_become_40 rfl (fun _ => ?_) (fun q => absurd q (by decide))
      refine tt_lload_n (j := 3) dX7_become_47 rfl ?_
      refine gx_pJ (id := 449) (x := y3) dX7_become_48 fl_7_26 rfl rfl h0 hA117 rfl rfl rfl hG116 e118 (fun S119 hG120 hA121 e122 => ?_)
      refine tt_aload_n (j := 1) dX7_become_51 rfl ?_
      refine tt_iload (j := 0) dX7_become_52 rfl ?_
      refine tt_if_eq (tgt := 63) dX7_become_54 rfl (fun _ => ?_) (fun q => absurd q (by decide))
      refine tt_lload_n (j := 2) dX7_become_63 rfl ?_
      refine tt_lload_n (j := 3) dX7_become_64 rfl ?_
      refine tt_lcmp dX7_become_65 ?_
      refine tt_if_ne (tgt := 73) dX7_become_66 rfl (fun q123 => ?_) (fun q123 => ?_)
      · skip
        refine tt_lload (j := 4) dX7_become_73 rfl ?_
        refine gx_pJ (id := 450) (x := y5) dX7_become_75 fl_7_15 rfl rfl h0 hA121 rfl rfl rfl hG120 e122 (fun S124 hG125 hA126 e127 => ?_)
        have hF : Z_X7_become R (sg S) o0 y1 y3 y5 = (uJ (uJ (uJ (sg S) 448 o0 y1) 449 o0 y3) 450 o0 y5) := by
          exact zl_X7_become_3 (Int64.not_lt.mpr (lc_lt_f q101)) (Int64.not_lt.mpr (lc_le_t q114)) (lc_ne_t q123)
        exact tt_vreturn dX7_become_78 rfl (hP _ _ _ _ ⟨hG125, hA126, Or.inl ⟨_, rfl, rfl, Eq.trans e127 hF.symm, rfl, rfl⟩⟩)
      · skip
        refine tt_lconst (v := 0) dX7_become_69 rfl ?_
        refine tt_goto (tgt := 75) dX7_become_70 rfl ?_
        refine gx_pJ (id := 450) (x := 0) dX7_become_75 fl_7_15 rfl rfl h0 hA121 rfl rfl rfl hG120 e122 (fun S128 hG129 hA130 e131 => ?_)
        have hF : Z_X7_become R (sg S) o0 y1 y3 y5 = (uJ (uJ (uJ (sg S) 448 o0 y1) 449 o0 y3) 450 o0 0) := by
          exact zl_X7_become_2 (Int64.not_lt.mpr (lc_lt_f q101)) (Int64.not_lt.mpr (lc_le_t q114)) (lc_ne_f q123)
        exact tt_vreturn dX7_become_78 rfl (hP _ _ _ _ ⟨hG129, hA130, Or.inl ⟨_, rfl, rfl, Eq.trans e131 hF.symm, rfl, rfl⟩⟩)
    · skip
      refine tt_iconst (v := 1) dX7_become_16 rfl ?_
      refine tt_goto (tgt := 21) dX7_become_17 rfl ?_
      refine tt_istore (ks := [0, 1, 2, 3, 4]) (L' := [(7, .int 1), (0, .ref o0), (1, .long y1), (3, .long y3), (5, .long y5)]) dX7_become_21 (by decide) rfl ?_
      refine tt_aload_n (j := 1) dX7_become_23 rfl ?_
      refine tt_iload (j := 0) dX7_become_24 rfl ?_
      refine tt_if_eq (tgt := 33) dX7_become_26 rfl (fun q => absurd q (by decide)) (fun _ => ?_)
      refine tt_lconst (v := 0) dX7_become_29 rfl ?_
      refine tt_goto (tgt := 34) dX7_become_30 rfl ?_
      refine gx_pJ (id := 448) (x := 0) dX7_become_34 fl_7_23 rfl rfl h0 hA rfl rfl rfl hG (show sg S = (sg S) from rfl) (fun S132 hG133 hA134 e135 => ?_)
      refine tt_aload_n (j := 1) dX7_become_37 rfl ?_
      refine tt_iload (j := 0) dX7_become_38 rfl ?_
      refine tt_if_eq (tgt := 47) dX7_become_40 rfl (fun q => absurd q (by decide)) (fun _ => ?_)
      refine tt_lconst (v := 0) dX7_become_43 rfl ?_
      refine tt_goto (tgt := 48) dX7_become_44 rfl ?_
      refine gx_pJ (id := 449) (x := 0) dX7_become_48 fl_7_26 rfl rfl h0 hA134 rfl rfl rfl hG133 e135 (fun S136 hG137 hA138 e139 => ?_)
      refine tt_aload_n (j := 1) dX7_become_51 rfl ?_
      refine tt_iload (j := 0) dX7_become_52 rfl ?_
      refine tt_if_eq (tgt := 63) dX7_become_54 rfl (fun q => absurd q (by decide)) (fun _ => ?_)
      refine tt_ldc2 (v := (-1)) dX7_become_57 kl_7_19 ?_
      refine tt_goto (tgt := 75) dX7_become_60 rfl ?_
      refine gx_pJ (id := 450) (x := (-1)) dX7_become_75 fl_7_15 rfl rfl h0 hA138 rfl rfl rfl hG137 e139 (fun S140 hG141 hA142 e143 => ?_)
      have hF : Z_X7_become R (sg S) o0 y1 y3 y5 = (uJ (uJ (uJ (sg S) 448 o0 0) 449 o0 0) 450 o0 (-1)) := by
        exact zl_X7_become_1 (Int64.not_lt.mpr (lc_lt_f q101)) (lc_le_f q114)
      exact tt_vreturn dX7_become_78 rfl (hP _ _ _ _ ⟨hG141, hA142, Or.inl ⟨_, rfl, rfl, Eq.trans e143 hF.symm, rfl, rfl⟩⟩)
def Z_X7_becomeAny (R : Nat → Nat → Nat) (σ : SG) (o0 : Nat) : SG :=
  (uJ (uJ (uJ σ 448 o0 0) 449 o0 0) 450 o0 (-1))
theorem zl_X7_becomeAny_0 {R : Nat → Nat → Nat} {σ : SG} {o0 : Nat}  : Z_X7_becomeAny R σ o0 = (uJ (uJ (uJ σ 448 o0 0) 449 o0 0) 450 o0 (-1)) := rfl
set_option maxHeartbeats 40000000 in
theorem cz_X7_becomeAny {xi : SX} {S : Hp} {E : List Nat} {kc nc : Nat} {P : Po} {o0 : Nat} {R : Nat → Nat → Nat} (hG : GI S E) (h0 : Oa S E 7 0 o0) (hR : RK S R) (hP : ∀ r T x y, PV E [9987] S kc nc rV (fun v T => sg T = Z_X7_becomeAny R (sg S) o0) [] r T x y → P r T x y) : TT xi M_X7_becomeAny 0 [(0, .ref o0)] [] S kc nc P := by
  have hA : Af E [9987] S S := af_rf
  refine tt_aload_n (j := 0) dX7_becomeAny_0 rfl ?_
  refine tt_lconst (v := 0) dX7_becomeAny_1 rfl ?_
  refine gx_pJ (id := 448) (x := 0) dX7_becomeAny_2 fl_7_23 rfl rfl h0 hA rfl rfl rfl hG (show sg S = (sg S) from rfl) (fun S101 hG102 hA103 e104 => ?_)
  refine tt_aload_n (j := 0) dX7_becomeAny_5 rfl ?_
  refine tt_lconst (v := 0) dX7_becomeAny_6 rfl ?_
  refine gx_pJ (id := 449) (x := 0) dX7_becomeAny_7 fl_7_26 rfl rfl h0 hA103 rfl rfl rfl hG102 e104 (fun S105 hG106 hA107 e108 => ?_)
  refine tt_aload_n (j := 0) dX7_becomeAny_10 rfl ?_
  refine tt_ldc2 (v := (-1)) dX7_becomeAny_11 kl_7_19 ?_
  refine gx_pJ (id := 450) (x := (-1)) dX7_becomeAny_14 fl_7_15 rfl rfl h0 hA107 rfl rfl rfl hG106 e108 (fun S109 hG110 hA111 e112 => ?_)
  have hF : Z_X7_becomeAny R (sg S) o0 = (uJ (uJ (uJ (sg S) 448 o0 0) 449 o0 0) 450 o0 (-1)) := by
    rfl
  exact tt_vreturn dX7_becomeAny_17 rfl (hP _ _ _ _ ⟨hG110, hA111, Or.inl ⟨_, rfl, rfl, Eq.trans e112 hF.symm, rfl, rfl⟩⟩)
def Z_X7_becomeNone (R : Nat → Nat → Nat) (σ : SG) (o0 : Nat) : SG :=
  (uJ (uJ (uJ σ 448 o0 0) 449 o0 0) 450 o0 (-2))
theorem zl_X7_becomeNone_0 {R : Nat → Nat → Nat} {σ : SG} {o0 : Nat}  : Z_X7_becomeNone R σ o0 = (uJ (uJ (uJ σ 448 o0 0) 449 o0 0) 450 o0 (-2)) := rfl
set_option maxHeartbeats 40000000 in
theorem cz_X7_becomeNone {xi : SX} {S : Hp} {E : List Nat} {kc nc : Nat} {P : Po} {o0 : Nat} {R : Nat → Nat → Nat} (hG : GI S E) (h0 : Oa S E 7 0 o0) (hR : RK S R) (hP : ∀ r T x y, PV E [9987] S kc nc rV (fun v T => sg T = Z_X7_becomeNone R (sg S) o0) [] r T x y → P r T x y) : TT xi M_X7_becomeNone 0 [(0, .ref o0)] [] S kc nc P := by
  have hA : Af E [9987] S S := af_rf
  refine tt_aload_n (j := 0) dX7_becomeNone_0 rfl ?_
  refine tt_lconst (v := 0) dX7_becomeNone_1 rfl ?_
  refine gx_pJ (id := 448) (x := 0) dX7_becomeNone_2 fl_7_23 rfl rfl h0 hA rfl rfl rfl hG (show sg S = (sg S) from rfl) (fun S101 hG102 hA103 e104 => ?_)
  refine tt_aload_n (j := 0) dX7_becomeNone_5 rfl ?_
  refine tt_lconst (v := 0) dX7_becomeNone_6 rfl ?_
  refine gx_pJ (id := 449) (x := 0) dX7_becomeNone_7 fl_7_26 rfl rfl h0 hA103 rfl rfl rfl hG102 e104 (fun S105 hG106 hA107 e108 => ?_)
  refine tt_aload_n (j := 0) dX7_becomeNone_10 rfl ?_
  refine tt_ldc2 (v := (-2)) dX7_becomeNone_11 kl_7_21 ?_
  refine gx_pJ (id := 450) (x := (-2)) dX7_becomeNone_14 fl_7_15 rfl rfl h0 hA107 rfl rfl rfl hG106 e108 (fun S109 hG110 hA111 e112 => ?_)
  have hF : Z_X7_becomeNone R (sg S) o0 = (uJ (uJ (uJ (sg S) 448 o0 0) 449 o0 0) 450 o0 (-2)) := by
    rfl
  exact tt_vreturn dX7_becomeNone_17 rfl (hP _ _ _ _ ⟨hG110, hA111, Or.inl ⟨_, rfl, rfl, Eq.trans e112 hF.symm, rfl, rfl⟩⟩)
def Z_X7_copyFrom (R : Nat → Nat → Nat) (σ : SG) (o0 : Nat) (o1 : Nat) : SG :=
  (uJ (uJ (uJ σ 448 o0 (mJ σ 448 o1)) 449 o0 (mJ σ 449 o1)) 450 o0 (mJ σ 450 o1))
theorem zl_X7_copyFrom_0 {R : Nat → Nat → Nat} {σ : SG} {o0 : Nat} {o1 : Nat}  : Z_X7_copyFrom R σ o0 o1 = (uJ (uJ (uJ σ 448 o0 (mJ σ 448 o1)) 449 o0 (mJ σ 449 o1)) 450 o0 (mJ σ 450 o1)) := rfl
set_option maxHeartbeats 40000000 in
theorem cz_X7_copyFrom {xi : SX} {S : Hp} {E : List Nat} {kc nc : Nat} {P : Po} {o0 : Nat} {o1 : Nat} {R : Nat → Nat → Nat} (hG : GI S E) (h0 : Oa S E 7 0 o0) (h1 : Oa S E 7 0 o1) (hR : RK S R) (hP : ∀ r T x y, PV E [9987] S kc nc rV (fun v T => sg T = Z_X7_copyFrom R (sg S) o0 o1) [] r T x y → P r T x y) : TT xi M_X7_copyFrom 0 [(0, .ref o0), (1, .ref o1)] [] S kc nc P := by
  have hA : Af E [9987] S S := af_rf
  refine tt_aload_n (j := 0) dX7_copyFrom_0 rfl ?_
  refine tt_aload_n (j := 1) dX7_copyFrom_1 rfl ?_
  refine gt_gJ (id := 448) (v := (mJ (sg S) 448 o1)) dX7_copyFrom_2 fl_7_23 rfl rfl h1 hA (sg_J (k := 448) (o := o1) (show sg S = (sg S) from rfl)) ?_
  refine gx_pJ (id := 448) (x := (mJ (sg S) 448 o1)) dX7_copyFrom_5 fl_7_23 rfl rfl h0 hA rfl rfl rfl hG (show sg S = (sg S) from rfl) (fun S101 hG102 hA103 e104 => ?_)
  refine tt_aload_n (j := 0) dX7_copyFrom_8 rfl ?_
  refine tt_aload_n (j := 1) dX7_copyFrom_9 rfl ?_
  refine gt_gJ (id := 449) (v := (mJ (sg S) 449 o1)) dX7_copyFrom_10 fl_7_26 rfl rfl h1 hA103 ((sg_J (k := 449) (o := o1) e104).trans mJ_ne) ?_
  refine gx_pJ (id := 449) (x := (mJ (sg S) 449 o1)) dX7_copyFrom_13 fl_7_26 rfl rfl h0 hA103 rfl rfl rfl hG102 e104 (fun S105 hG106 hA107 e108 => ?_)
  refine tt_aload_n (j := 0) dX7_copyFrom_16 rfl ?_
  refine tt_aload_n (j := 1) dX7_copyFrom_17 rfl ?_
  refine gt_gJ (id := 450) (v := (mJ (sg S) 450 o1)) dX7_copyFrom_18 fl_7_15 rfl rfl h1 hA107 (((sg_J (k := 450) (o := o1) e108).trans mJ_ne).trans mJ_ne) ?_
  refine gx_pJ (id := 450) (x := (mJ (sg S) 450 o1)) dX7_copyFrom_21 fl_7_15 rfl rfl h0 hA107 rfl rfl rfl hG106 e108 (fun S109 hG110 hA111 e112 => ?_)
  have hF : Z_X7_copyFrom R (sg S) o0 o1 = (uJ (uJ (uJ (sg S) 448 o0 (mJ (sg S) 448 o1)) 449 o0 (mJ (sg S) 449 o1)) 450 o0 (mJ (sg S) 450 o1)) := by
    rfl
  exact tt_vreturn dX7_copyFrom_24 rfl (hP _ _ _ _ ⟨hG110, hA111, Or.inl ⟨_, rfl, rfl, Eq.trans e112 hF.symm, rfl, rfl⟩⟩)
def Z_X7_drop (R : Nat → Nat → Nat) (σ : SG) (o0 : Nat) (y1 : Int64) : SG :=
  if (mJ σ 450 o0) < (0 : Int64) then
    σ
  else
    if (Z_X7_isSingle R σ o0) = 0 then
      if y1 = (mJ σ 448 o0) then
        let d123 := Z_X7_become R σ o0 (((mJ σ 448 o0) + (mJ σ 450 o0))) ((mJ σ 449 o0)) ((mJ σ 450 o0))
        d123
      else
        if y1 = (mJ σ 449 o0) then
          let d114 := Z_X7_become R σ o0 ((mJ σ 448 o0)) (((mJ σ 449 o0) - (mJ σ 450 o0))) ((mJ σ 450 o0))
          d114
        else
          σ
    else
      if y1 = (mJ σ 448 o0) then
        let d134 := Z_X7_becomeNone R σ o0
        d134
      else
        σ
theorem zl_X7_drop_0 {R : Nat → Nat → Nat} {σ : SG} {o0 : Nat} {y1 : Int64} (h0 : (mJ σ 450 o0) < (0 : Int64)) : Z_X7_drop R σ o0 y1 = σ := by unfold Z_X7_drop; exact if_pos h0
theorem zl_X7_drop_1 {R : Nat → Nat → Nat} {σ : SG} {o0 : Nat} {y1 : Int64} (h0 : ¬ (mJ σ 450 o0) < (0 : Int64)) (h1 : (Z_X7_isSingle R σ o0) = 0) (h2 : y1 = (mJ σ 448 o0)) : Z_X7_drop R σ o0 y1 = (Z_X7_become R σ o0 (((mJ σ 448 o0) + (mJ σ 450 o0))) ((mJ σ 449 o0)) ((mJ σ 450 o0))) := by unfold Z_X7_drop; exact Eq.trans (if_neg h0) (Eq.trans (if_pos h1) (if_pos h2))
theorem zl_X7_drop_2 {R : Nat → Nat → Nat} {σ : SG} {o0 : Nat} {y1 : Int64} (h0 : ¬ (mJ σ 450 o0) < (0 : Int64)) (h1 : (Z_X7_isSingle R σ o0) = 0) (h2 : ¬ y1 = (mJ σ 448 o0)) (h3 : y1 = (mJ σ 449 o0)) : Z_X7_drop R σ o0 y1 = (Z_X7_become R σ o0 ((mJ σ 448 o0)) (((mJ σ 449 o0) - (mJ σ 450 o0))) ((mJ σ 450 o0))) := by unfold Z_X7_drop; exact Eq.trans (if_neg h0) (Eq.trans (if_pos h1) (Eq.trans (if_neg h2) (if_pos h3)))
theorem zl_X7_drop_3 {R : Nat → Nat → Nat} {σ : SG} {o0 : Nat} {y1 : Int64} (h0 : ¬ (mJ σ 450 o0) < (0 : Int64)) (h1 : (Z_X7_isSingle R σ o0) = 0) (h2 : ¬ y1 = (mJ σ 448 o0)) (h3 : ¬ y1 = (mJ σ 449 o0)) : Z_X7_drop R σ o0 y1 = σ := by unfold Z_X7_drop; exact Eq.trans (if_neg h0) (Eq.trans (if_pos h1) (Eq.trans (if_neg h2) (if_neg h3)))
theorem zl_X7_drop_4 {R : Nat → Nat → Nat} {σ : SG} {o0 : Nat} {y1 : Int64} (h0 : ¬ (mJ σ 450 o0) < (0 : Int64)) (h1 : ¬ (Z_X7_isSingle R σ o0) = 0) (h2 : y1 = (mJ σ 448 o0)) : Z_X7_drop R σ o0 y1 = (Z_X7_becomeNone R σ o0) := by unfold Z_X7_drop; exact Eq.trans (if_neg h0) (Eq.trans (if_neg h1) (if_pos h2))
theorem zl_X7_drop_5 {R : Nat → Nat → Nat} {σ : SG} {o0 : Nat} {y1 : Int64} (h0 : ¬ (mJ σ 450 o0) < (0 : Int64)) (h1 : ¬ (Z_X7_isSingle R σ o0) = 0) (h2 : ¬ y1 = (mJ σ 448 o0)) : Z_X7_drop R σ o0 y1 = σ := by unfold Z_X7_drop; exact Eq.trans (if_neg h0) (Eq.trans (if_neg h1) (if_neg h2))
set_option maxHeartbeats 40000000 in
theorem cz_X7_drop {xi : SX} {S : Hp} {E : List Nat} {kc nc : Nat} {P : Po} {o0 : Nat} {y1 : Int64} {R : Nat → Nat → Nat} (hG : GI S E) (h0 : Oa S E 7 0 o0) (hR : RK S R) (hP : ∀ r T x y, PV E [9987] S kc nc rV (fun v T => sg T = Z_X7_drop R (sg S) o0 y1) [] r T x y → P r T x y) : TT xi M_X7_drop 0 [(0, .ref o0), (1, .long y1)] [] S kc nc P := by
  have hA : Af E [9987] S S := af_rf
  refine tt_aload_n (j := 0) dX7_drop_0 rfl ?_
  refine gt_gJ (id := 450) (v := (mJ (sg S) 450 o0)) dX7_drop_1 fl_7_15 rfl rfl h0 hA (sg_J (k := 450) (o := o0) (show sg S = (sg S) from rfl)) ?_
  refine tt_lconst (v := 0) dX7_drop_4 rfl ?_
  refine tt_lcmp dX7_drop_5 ?_
  refine tt_if_ge (tgt := 10) dX7_drop_6 rfl (fun q101 => ?_) (fun q101 => ?_)
  · skip
    refine tt_aload_n (j := 0) dX7_drop_10 rfl ?_
    refine gt_VIp (As := []) dX7_drop_11 ca_X7_58 ⟨by decide, by decide⟩ h0 hA rfl (Nat.le_of_ble_eq_true rfl) (Nat.le_of_ble_eq_true rfl) (by decide) (cz_X7_isSingle hG (oa_af h0 hA) hR (fun _ _ _ _ h => h)) rfl (fun _ h => nomatch h) (fun _ _ q => q.1) (fun x102 h103 hx104 => ?_)
    obtain rfl : Z_X7_isSingle R (sg S) o0 = x102 := ((ei_w hx104.2).trans (congrArg (fun q9 => Z_X7_isSingle R q9 o0) (show sg S = (sg S) from rfl))).symm
    refine tt_if_eq (tgt := 33) dX7_drop_14 rfl (fun q105 => ?_) (fun q105 => ?_)
    · skip
      have h106 : Rg 0 0 (Z_X7_isSingle R (sg S) o0) := rg_eq_l h103 (⟨by decide, by decide⟩ : Rg 0 0 0) q105
      refine tt_lload_n (j := 1) dX7_drop_33 rfl ?_
      refine tt_aload_n (j := 0) dX7_drop_34 rfl ?_
      refine gt_gJ (id := 448) (v := (mJ (sg S) 448 o0)) dX7_drop_35 fl_7_23 rfl rfl h0 hA (sg_J (k := 448) (o := o0) (show sg S = (sg S) from rfl)) ?_
      refine tt_lcmp dX7_drop_38 ?_
      refine tt_if_ne (tgt := 66) dX7_drop_39 rfl (fun q107 => ?_) (fun q107 => ?_)
      · skip
        refine tt_lload_n (j := 1) dX7_drop_66 rfl ?_
        refine tt_aload_n (j := 0) dX7_drop_67 rfl ?_
        refine gt_gJ (id := 449) (v := (mJ (sg S) 449 o0)) dX7_drop_68 fl_7_26 rfl rfl h0 hA (sg_J (k := 449) (o := o0) (show sg S = (sg S) from rfl)) ?_
        refine tt_lcmp dX7_drop_71 ?_
        refine tt_if_ne (tgt := 96) dX7_drop_72 rfl (fun q108 => ?_) (fun q108 => ?_)
        · skip
          have hF : Z_X7_drop R (sg S) o0 y1 = (sg S) := by
            exact zl_X7_drop_3 (Int64.not_lt.mpr (lc_ge_t q101)) q105 (lc_ne_t q107) (lc_ne_t q108)
          exact tt_vreturn dX7_drop_96 rfl (hP _ _ _ _ ⟨hG, hA, Or.inl ⟨_, rfl, rfl, Eq.trans (show sg S = (sg S) from rfl) hF.symm, rfl, rfl⟩⟩)
        · skip
          refine tt_aload_n (j := 0) dX7_drop_75 rfl ?_
          refine tt_aload_n (j := 0) dX7_drop_76 rfl ?_
          refine gt_gJ (id := 448) (v := (mJ (sg S) 448 o0)) dX7_drop_77 fl_7_23 rfl rfl h0 hA (sg_J (k := 448) (o := o0) (show sg S = (sg S) from rfl)) ?_
          refine tt_aload_n (j := 0) dX7_drop_80 rfl ?_
          refine gt_gJ (id := 449) (v := (mJ (sg S) 449 o0)) dX7_drop_81 fl_7_26 rfl rfl h0 hA (sg_J (k := 449) (o := o0) (show sg S = (sg S) from rfl)) ?_
          refine tt_aload_n (j := 0) dX7_drop_84 rfl ?_
          refine gt_gJ (id := 450) (v := (mJ (sg S) 450 o0)) dX7_drop_85 fl_7_15 rfl rfl h0 hA (sg_J (k := 450) (o := o0) (show sg S = (sg S) from rfl)) ?_
          refine tt_lsub dX7_drop_88 ?_
          refine tt_aload_n (j := 0) dX7_drop_89 rfl ?_
          refine gt_gJ (id := 450) (v := (mJ (sg S) 450 o0)) dX7_drop_90 fl_7_15 rfl rfl h0 hA (sg_J (k := 450) (o := o0) (show sg S = (sg S) from rfl)) ?_
          refine gt_Vv (As := [.long (mJ (sg S) 448 o0), .long ((mJ (sg S) 449 o0) - (mJ (sg S) 450 o0)), .long (mJ (sg S) 450 o0)]) dX7_drop_93 ca_X7_48 ⟨by decide, by decide⟩ h0 hA rfl (Nat.le_of_ble_eq_true rfl) (Nat.le_of_ble_eq_true rfl) (by decide) (cz_X7_become hG (oa_af h0 hA) hR (fun _ _ _ _ h => h)) rfl (fun _ h => nomatch h) (fun S109 hx113 hG110 hB111 hA112 => ?_)
          obtain ⟨d114, hd115⟩ : ∃ q, Z_X7_become R (sg S) o0 ((mJ (sg S) 448 o0)) (((mJ (sg S) 449 o0) - (mJ (sg S) 450 o0))) ((mJ (sg S) 450 o0)) = q := ⟨_, rfl⟩
          have hq116 := (congrArg (fun q9 => Z_X7_become R q9 o0 ((mJ (sg S) 448 o0)) (((mJ (sg S) 449 o0) - (mJ (sg S) 450 o0))) ((mJ (sg S) 450 o0))) (show sg S = (sg S) from rfl)).trans hd115
          have hs117 := hx113.trans hq116
          have hF : Z_X7_drop R (sg S) o0 y1 = d114 := by
            subst hd115
            exact zl_X7_drop_2 (Int64.not_lt.mpr (lc_ge_t q101)) q105 (lc_ne_t q107) (lc_ne_f q108)
          exact tt_vreturn dX7_drop_96 rfl (hP _ _ _ _ ⟨hG110, hA112, Or.inl ⟨_, rfl, rfl, Eq.trans hs117 hF.symm, rfl, rfl⟩⟩)
      · skip
        refine tt_aload_n (j := 0) dX7_drop_42 rfl ?_
        refine tt_aload_n (j := 0) dX7_drop_43 rfl ?_
        refine gt_gJ (id := 448) (v := (mJ (sg S) 448 o0)) dX7_drop_44 fl_7_23 rfl rfl h0 hA (sg_J (k := 448) (o := o0) (show sg S = (sg S) from rfl)) ?_
        refine tt_aload_n (j := 0) dX7_drop_47 rfl ?_
        refine gt_gJ (id := 450) (v := (mJ (sg S) 450 o0)) dX7_drop_48 fl_7_15 rfl rfl h0 hA (sg_J (k := 450) (o := o0) (show sg S = (sg S) from rfl)) ?_
        refine tt_ladd dX7_drop_51 ?_
        refine tt_aload_n (j := 0) dX7_drop_52 rfl ?_
        refine gt_gJ (id := 449) (v := (mJ (sg S) 449 o0)) dX7_drop_53 fl_7_26 rfl rfl h0 hA (sg_J (k := 449) (o := o0) (show sg S = (sg S) from rfl)) ?_
        refine tt_aload_n (j := 0) dX7_drop_56 rfl ?_
        refine gt_gJ (id := 450) (v := (mJ (sg S) 450 o0)) dX7_drop_57 fl_7_15 rfl rfl h0 hA (sg_J (k := 450) (o := o0) (show sg S = (sg S) from rfl)) ?_
        refine gt_Vv (As := [.long ((mJ (sg S) 448 o0) + (mJ (sg S) 450 o0)), .long (mJ (sg S) 449 o0), .long (mJ (sg S) 450 o0)]) dX7_drop_60 ca_X7_48 ⟨by decide, by decide⟩ h0 hA rfl (Nat.le_of_ble_eq_true rfl) (Nat.le_of_ble_eq_true rfl) (by decide) (cz_X7_become hG (oa_af h0 hA) hR (fun _ _ _ _ h => h)) rfl (fun _ h => nomatch h) (fun S118 hx122 hG119 hB120 hA121 => ?_)
        obtain ⟨d123, hd124⟩ : ∃ q, Z_X7_become R (sg S) o0 (((mJ (sg S) 448 o0) + (mJ (sg S) 450 o0))) ((mJ (sg S) 449 o0)) ((mJ (sg S) 450 o0)) = q := ⟨_, rfl⟩
        have hq125 := (congrArg (fun q9 => Z_X7_become R q9 o0 (((mJ (sg S) 448 o0) + (mJ (sg S) 450 o0))) ((mJ (sg S) 449 o0)) ((mJ (sg S) 450 o0))) (show sg S = (sg S) from rfl)).trans hd124
        have hs126 := hx122.trans hq125
        refine tt_goto (tgt := 96) dX7_drop_63 rfl ?_
        have hF : Z_X7_drop R (sg S) o0 y1 = d123 := by
          subst hd124
          exact zl_X7_drop_1 (Int64.not_lt.mpr (lc_ge_t q101)) q105 (lc_ne_f q107)
        exact tt_vreturn dX7_drop_96 rfl (hP _ _ _ _ ⟨hG119, hA121, Or.inl ⟨_, rfl, rfl, Eq.trans hs126 hF.symm, rfl, rfl⟩⟩)
    · skip
      have h127 : Rg 1 1 (Z_X7_isSingle R (sg S) o0) := rg_ne_lo h103 (⟨by decide, by decide⟩ : Rg 0 0 0) q105
      refine tt_lload_n (j := 1) dX7_drop_17 rfl ?_
      refine tt_aload_n (j := 0) dX7_drop_18 rfl ?_
      refine gt_gJ (id := 448) (v := (mJ (sg S) 448 o0)) dX7_drop_19 fl_7_23 rfl rfl h0 hA (sg_J (k := 448) (o := o0) (show sg S = (sg S) from rfl)) ?_
      refine tt_lcmp dX7_drop_22 ?_
      refine tt_if_ne (tgt := 96) dX7_drop_23 rfl (fun q128 => ?_) (fun q128 => ?_)
      · skip
        have hF : Z_X7_drop R (sg S) o0 y1 = (sg S) := by
          exact zl_X7_drop_5 (Int64.not_lt.mpr (lc_ge_t q101)) q105 (lc_ne_t q128)
        exact tt_vreturn dX7_drop_96 rfl (hP _ _ _ _ ⟨hG, hA, Or.inl ⟨_, rfl, rfl, Eq.trans (show sg S = (sg S) from rfl) hF.symm, rfl, rfl⟩⟩)
      · skip
        refine tt_aload_n (j := 0) dX7_drop_26 rfl ?_
        refine gt_Vv (As := []) dX7_drop_27 ca_X7_52 ⟨by decide, by decide⟩ h0 hA rfl (Nat.le_of_ble_eq_true rfl) (Nat.le_of_ble_eq_true rfl) (by decide) (cz_X7_becomeNone hG (oa_af h0 hA) hR (fun _ _ _ _ h => h)) rfl (fun _ h => nomatch h) (fun S129 hx133 hG130 hB131 hA132 => ?_)
        obtain ⟨d134, hd135⟩ : ∃ q, Z_X7_becomeNone R (sg S) o0 = q := ⟨_, rfl⟩
        have hq136 := (congrArg (fun q9 => Z_X7_becomeNone R q9 o0) (show sg S = (sg S) from rfl)).trans hd135
        have hs137 := hx133.trans hq136
        refine tt_goto (tgt := 96) dX7_drop_30 rfl ?_
        have hF : Z_X7_drop R (sg S) o0 y1 = d134 := by
          subst hd135
          exact zl_X7_drop_4 (Int64.not_lt.mpr (lc_ge_t q101)) q105 (lc_ne_f q128)
        exact tt_vreturn dX7_drop_96 rfl (hP _ _ _ _ ⟨hG130, hA132, Or.inl ⟨_, rfl, rfl, Eq.trans hs137 hF.symm, rfl, rfl⟩⟩)
  · skip
    have hF : Z_X7_drop R (sg S) o0 y1 = (sg S) := by
      exact zl_X7_drop_0 (lc_ge_f q101)
    exact tt_vreturn dX7_drop_9 rfl (hP _ _ _ _ ⟨hG, hA, Or.inl ⟨_, rfl, rfl, Eq.trans (show sg S = (sg S) from rfl) hF.symm, rfl, rfl⟩⟩)
def Z_X7_cut (R : Nat → Nat → Nat) (σ : SG) (o0 : Nat) (y1 : Int64) (y3 : Int64) : SG :=
  if (mJ σ 450 o0) < (0 : Int64) then
    σ
  else
    if (mJ σ 449 o0) < y1 then
      let d108 := Z_X7_becomeNone R σ o0
      d108
    else
      if y3 < (mJ σ 448 o0) then
        let d268 := Z_X7_becomeNone R σ o0
        d268
      else
        if (mJ σ 448 o0) < y1 then
          if (0 : Int64) < (mJ σ 450 o0) then
            if y3 < (mJ σ 449 o0) then
              if (y3 - (Z_J9_floorMod_f86c9 ((y3 - (mJ σ 449 o0))) ((mJ σ 450 o0)))) < (y1 + (Z_J9_floorMod_f86c9 (((mJ σ 448 o0) - y1)) ((mJ σ 450 o0)))) then
                let d259 := Z_X7_becomeNone R σ o0
                d259
              else
                let d250 := Z_X7_become R σ o0 ((y1 + (Z_J9_floorMod_f86c9 (((mJ σ 448 o0) - y1)) ((mJ σ 450 o0))))) ((y3 - (Z_J9_floorMod_f86c9 ((y3 - (mJ σ 449 o0))) ((mJ σ 450 o0))))) ((mJ σ 450 o0))
                d250
            else
              if (mJ σ 449 o0) < (y1 + (Z_J9_floorMod_f86c9 (((mJ σ 448 o0) - y1)) ((mJ σ 450 o0)))) then
                let d236 := Z_X7_becomeNone R σ o0
                d236
              else
                let d227 := Z_X7_become R σ o0 ((y1 + (Z_J9_floorMod_f86c9 (((mJ σ 448 o0) - y1)) ((mJ σ 450 o0))))) ((mJ σ 449 o0)) ((mJ σ 450 o0))
                d227
          else
            if y3 < (mJ σ 449 o0) then
              if (mJ σ 449 o0) < (mJ σ 448 o0) then
                let d213 := Z_X7_becomeNone R σ o0
                d213
              else
                let d204 := Z_X7_become R σ o0 ((mJ σ 448 o0)) ((mJ σ 449 o0)) ((mJ σ 450 o0))
                d204
            else
              if (mJ σ 449 o0) < (mJ σ 448 o0) then
                let d193 := Z_X7_becomeNone R σ o0
                d193
              else
                let d184 := Z_X7_become R σ o0 ((mJ σ 448 o0)) ((mJ σ 449 o0)) ((mJ σ 450 o0))
                d184
        else
          if y3 < (mJ σ 449 o0) then
            if (0 : Int64) < (mJ σ 450 o0) then
              if (y3 - (Z_J9_floorMod_f86c9 ((y3 - (mJ σ 449 o0))) ((mJ σ 450 o0)))) < (mJ σ 448 o0) then
                let d172 := Z_X7_becomeNone R σ o0
                d172
              else
                let d163 := Z_X7_become R σ o0 ((mJ σ 448 o0)) ((y3 - (Z_J9_floorMod_f86c9 ((y3 - (mJ σ 449 o0))) ((mJ σ 450 o0))))) ((mJ σ 450 o0))
                d163
            else
              if (mJ σ 449 o0) < (mJ σ 448 o0) then
                let d150 := Z_X7_becomeNone R σ o0
                d150
              else
                let d141 := Z_X7_become R σ o0 ((mJ σ 448 o0)) ((mJ σ 449 o0)) ((mJ σ 450 o0))
                d141
          else
            if (mJ σ 449 o0) < (mJ σ 448 o0) then
              let d130 := Z_X7_becomeNone R σ o0
              d130
            else
              let d121 := Z_X7_become R σ o0 ((mJ σ 448 o0)) ((mJ σ 449 o0)) ((mJ σ 450 o0))
              d121
theorem zl_X7_cut_0 {R : Nat → Nat → Nat} {σ : SG} {o0 : Nat} {y1 : Int64} {y3 : Int64} (h0 : (mJ σ 450 o0) < (0 : Int64)) : Z_X7_cut R σ o0 y1 y3 = σ := by unfold Z_X7_cut; exact if_pos h0
theorem zl_X7_cut_1 {R : Nat → Nat → Nat} {σ : SG} {o0 : Nat} {y1 : Int64} {y3 : Int64} (h0 : ¬ (mJ σ 450 o0) < (0 : Int64)) (h1 : (mJ σ 449 o0) < y1) : Z_X7_cut R σ o0 y1 y3 = (Z_X7_becomeNone R σ o0) := by unfold Z_X7_cut; exact Eq.trans (if_neg h0) (if_pos h1)
theorem zl_X7_cut_2 {R : Nat → Nat → Nat} {σ : SG} {o0 : Nat} {y1 : Int64} {y3 : Int64} (h0 : ¬ (mJ σ 450 o0) < (0 : Int64)) (h1 : ¬ (mJ σ 449 o0) < y1) (h2 : y3 < (mJ σ 448 o0)) : Z_X7_cut R σ o0 y1 y3 = (Z_X7_becomeNone R σ o0) := by unfold Z_X7_cut; exact Eq.trans (if_neg h0) (Eq.trans (if_neg h1) (if_pos h2))
theorem zl_X7_cut_3 {R : Nat → Nat → Nat} {σ : SG} {o0 : Nat} {y1 : Int64} {y3 : Int64} (h0 : ¬ (mJ σ 450 o0) < (0 : Int64)) (h1 : ¬ (mJ σ 449 o0) < y1) (h2 : ¬ y3 < (mJ σ 448 o0)) (h3 : (mJ σ 448 o0) < y1) (h4 : (0 : Int64) < (mJ σ 450 o0)) (h5 : y3 < (mJ σ 449 o0)) (h6 : (y3 - (Z_J9_floorMod_f86c9 ((y3 - (mJ σ 449 o0))) ((mJ σ 450 o0)))) < (y1 + (Z_J9_floorMod_f86c9 (((mJ σ 448 o0) - y1)) ((mJ σ 450 o0))))) : Z_X7_cut R σ o0 y1 y3 = (Z_X7_becomeNone R σ o0) := by unfold Z_X7_cut; exact Eq.trans (if_neg h0) (Eq.trans (if_neg h1) (Eq.trans (if_neg h2) (Eq.trans (if_pos h3) (Eq.trans (if_pos h4) (Eq.trans (if_pos h5) (if_pos h6))))))
theorem zl_X7_cut_4 {R : Nat → Nat → Nat} {σ : SG} {o0 : Nat} {y1 : Int64} {y3 : Int64} (h0 : ¬ (mJ σ 450 o0) < (0 : Int64)) (h1 : ¬ (mJ σ 449 o0) < y1) (h2 : ¬ y3 < (mJ σ 448 o0)) (h3 : (mJ σ 448 o0) < y1) (h4 : (0 : Int64) < (mJ σ 450 o0)) (h5 : y3 < (mJ σ 449 o0)) (h6 : ¬ (y3 - (Z_J9_floorMod_f86c9 ((y3 - (mJ σ 449 o0))) ((mJ σ 450 o0)))) < (y1 + (Z_J9_floorMod_f86c9 (((mJ σ 448 o0) - y1)) ((mJ σ 450 o0))))) : Z_X7_cut R σ o0 y1 y3 = (Z_X7_become R σ o0 ((y1 + (Z_J9_floorMod_f86c9 (((mJ σ 448 o0) - y1)) ((mJ σ 450 o0))))) ((y3 - (Z_J9_floorMod_f86c9 ((y3 - (mJ σ 449 o0))) ((mJ σ 450 o0))))) ((mJ σ 450 o0))) := by unfold Z_X7_cut; exact Eq.trans (if_neg h0) (Eq.trans (if_neg h1) (Eq.trans (if_neg h2) (Eq.trans (if_pos h3) (Eq.trans (if_pos h4) (Eq.trans (if_pos h5) (if_neg h6))))))
theorem zl_X7_cut_5 {R : Nat → Nat → Nat} {σ : SG} {o0 : Nat} {y1 : Int64} {y3 : Int64} (h0 : ¬ (mJ σ 450 o0) < (0 : Int64)) (h1 : ¬ (mJ σ 449 o0) < y1) (h2 : ¬ y3 < (mJ σ 448 o0)) (h3 : (mJ σ 448 o0) < y1) (h4 : (0 : Int64) < (mJ σ 450 o0)) (h5 : ¬ y3 < (mJ σ 449 o0)) (h6 : (mJ σ 449 o0) < (y1 + (Z_J9_floorMod_f86c9 (((mJ σ 448 o0) - y1)) ((mJ σ 450 o0))))) : Z_X7_cut R σ o0 y1 y3 = (Z_X7_becomeNone R σ o0) := by unfold Z_X7_cut; exact Eq.trans (if_neg h0) (Eq.trans (if_neg h1) (Eq.trans (if_neg h2) (Eq.trans (if_pos h3) (Eq.trans (if_pos h4) (Eq.trans (if_neg h5) (if_pos h6))))))
theorem zl_X7_cut_6 {R : Nat → Nat → Nat} {σ : SG} {o0 : Nat} {y1 : Int64} {y3 : Int64} (h0 : ¬ (mJ σ 450 o0) < (0 : Int64)) (h1 : ¬ (mJ σ 449 o0) < y1) (h2 : ¬ y3 < (mJ σ 448 o0)) (h3 : (mJ σ 448 o0) < y1) (h4 : (0 : Int64) < (mJ σ 450 o0)) (h5 : ¬ y3 < (mJ σ 449 o0)) (h6 : ¬ (mJ σ 449 o0) < (y1 + (Z_J9_floorMod_f86c9 (((mJ σ 448 o0) - y1)) ((mJ σ 450 o0))))) : Z_X7_cut R σ o0 y1 y3 = (Z_X7_become R σ o0 ((y1 + (Z_J9_floorMod_f86c9 (((mJ σ 448 o0) - y1)) ((mJ σ 450 o0))))) ((mJ σ 449 o0)) ((mJ σ 450 o0))) := by unfold Z_X7_cut; exact Eq.trans (if_neg h0) (Eq.trans (if_neg h1) (Eq.trans (if_neg h2) (Eq.trans (if_pos h3) (Eq.trans (if_pos h4) (Eq.trans (if_neg h5) (if_neg h6))))))
theorem zl_X7_cut_7 {R : Nat → Nat → Nat} {σ : SG} {o0 : Nat} {y1 : Int64} {y3 : Int64} (h0 : ¬ (mJ σ 450 o0) < (0 : Int64)) (h1 : ¬ (mJ σ 449 o0) < y1) (h2 : ¬ y3 < (mJ σ 448 o0)) (h3 : (mJ σ 448 o0) < y1) (h4 : ¬ (0 : Int64) < (mJ σ 450 o0)) (h5 : y3 < (mJ σ 449 o0)) (h6 : (mJ σ 449 o0) < (mJ σ 448 o0)) : Z_X7_cut R σ o0 y1 y3 = (Z_X7_becomeNone R σ o0) := by unfold Z_X7_cut; exact Eq.trans (if_neg h0) (Eq.trans (if_neg h1) (Eq.trans (if_neg h2) (Eq.trans (if_pos h3) (Eq.trans (if_neg h4) (Eq.trans (if_pos h5) (if_pos h6))))))
theorem zl_X7_cut_8 {R : Nat → Nat → Nat} {σ : SG} {o0 : Nat} {y1 : Int64} {y3 : Int64} (h0 : ¬ (mJ σ 450 o0) < (0 : Int64)) (h1 : ¬ (mJ σ 449 o0) < y1) (h2 : ¬ y3 < (mJ σ 448 o0)) (h3 : (mJ σ 448 o0) < y1) (h4 : ¬ (0 : Int64) < (mJ σ 450 o0)) (h5 : y3 < (mJ σ 449 o0)) (h6 : ¬ (mJ σ 449 o0) < (mJ σ 448 o0)) : Z_X7_cut R σ o0 y1 y3 = (Z_X7_become R σ o0 ((mJ σ 448 o0)) ((mJ σ 449 o0)) ((mJ σ 450 o0))) := by unfold Z_X7_cut; exact Eq.trans (if_neg h0) (Eq.trans (if_neg h1) (Eq.trans (if_neg h2) (Eq.trans (if_pos h3) (Eq.trans (if_neg h4) (Eq.trans (if_pos h5) (if_neg h6))))))
theorem zl_X7_cut_9 {R : Nat → Nat → Nat} {σ : SG} {o0 : Nat} {y1 : Int64} {y3 : Int64} (h0 : ¬ (mJ σ 450 o0) < (0 : Int64)) (h1 : ¬ (mJ σ 449 o0) < y1) (h2 : ¬ y3 < (mJ σ 448 o0)) (h3 : (mJ σ 448 o0) < y1) (h4 : ¬ (0 : Int64) < (mJ σ 450 o0)) (h5 : ¬ y3 < (mJ σ 449 o0)) (h6 : (mJ σ 449 o0) < (mJ σ 448 o0)) : Z_X7_cut R σ o0 y1 y3 = (Z_X7_becomeNone R σ o0) := by unfold Z_X7_cut; exact Eq.trans (if_neg h0) (Eq.trans (if_neg h1) (Eq.trans (if_neg h2) (Eq.trans (if_pos h3) (Eq.trans (if_neg h4) (Eq.trans (if_neg h5) (if_pos h6))))))
theorem zl_X7_cut_10 {R : Nat → Nat → Nat} {σ : SG} {o0 : Nat} {y1 : Int64} {y3 : Int64} (h0 : ¬ (mJ σ 450 o0) < (0 : Int64)) (h1 : ¬ (mJ σ 449 o0) < y1) (h2 : ¬ y3 < (mJ σ 448 o0)) (h3 : (mJ σ 448 o0) < y1) (h4 : ¬ (0 : Int64) < (mJ σ 450 o0)) (h5 : ¬ y3 < (mJ σ 449 o0)) (h6 : ¬ (mJ σ 449 o0) < (mJ σ 448 o0)) : Z_X7_cut R σ o0 y1 y3 = (Z_X7_become R σ o0 ((mJ σ 448 o0)) ((mJ σ 449 o0)) ((mJ σ 450 o0))) := by unfold Z_X7_cut; exact Eq.trans (if_neg h0) (Eq.trans (if_neg h1) (Eq.trans (if_neg h2) (Eq.trans (if_pos h3) (Eq.trans (if_neg h4) (Eq.trans (if_neg h5) (if_neg h6))))))
theorem zl_X7_cut_11 {R : Nat → Nat → Nat} {σ : SG} {o0 : Nat} {y1 : Int64} {y3 : Int64} (h0 : ¬ (mJ σ 450 o0) < (0 : Int64)) (h1 : ¬ (mJ σ 449 o0) < y1) (h2 : ¬ y3 < (mJ σ 448 o0)) (h3 : ¬ (mJ σ 448 o0) < y1) (h4 : y3 < (mJ σ 449 o0)) (h5 : (0 : Int64) < (mJ σ 450 o0)) (h6 : (y3 - (Z_J9_floorMod_f86c9 ((y3 - (mJ σ 449 o0))) ((mJ σ 450 o0)))) < (mJ σ 448 o0)) : Z_X7_cut R σ o0 y1 y3 = (Z_X7_becomeNone R σ o0) := by unfold Z_X7_cut; exact Eq.trans (if_neg h0) (Eq.trans (if_neg h1) (Eq.trans (if_neg h2) (Eq.trans (if_neg h3) (Eq.trans (if_pos h4) (Eq.trans (if_pos h5) (if_pos h6))))))
theorem zl_X7_cut_12 {R : Nat → Nat → Nat} {σ : SG} {o0 : Nat} {y1 : Int64} {y3 : Int64} (h0 : ¬ (mJ σ 450 o0) < (0 : Int64)) (h1 : ¬ (mJ σ 449 o0) < y1) (h2 : ¬ y3 < (mJ σ 448 o0)) (h3 : ¬ (mJ σ 448 o0) < y1) (h4 : y3 < (mJ σ 449 o0)) (h5 : (0 : Int64) < (mJ σ 450 o0)) (h6 : ¬ (y3 - (Z_J9_floorMod_f86c9 ((y3 - (mJ σ 449 o0))) ((mJ σ 450 o0)))) < (mJ σ 448 o0)) : Z_X7_cut R σ o0 y1 y3 = (Z_X7_become R σ o0 ((mJ σ 448 o0)) ((y3 - (Z_J9_floorMod_f86c9 ((y3 - (mJ σ 449 o0))) ((mJ σ 450 o0))))) ((mJ σ 450 o0))) := by unfold Z_X7_cut; exact Eq.trans (if_neg h0) (Eq.trans (if_neg h1) (Eq.trans (if_neg h2) (Eq.trans (if_neg h3) (Eq.trans (if_pos h4) (Eq.trans (if_pos h5) (if_neg h6))))))
theorem zl_X7_cut_13 {R : Nat → Nat → Nat} {σ : SG} {o0 : Nat} {y1 : Int64} {y3 : Int64} (h0 : ¬ (mJ σ 450 o0) < (0 : Int64)) (h1 : ¬ (mJ σ 449 o0) < y1) (h2 : ¬ y3 < (mJ σ 448 o0)) (h3 : ¬ (mJ σ 448 o0) < y1) (h4 : y3 < (mJ σ 449 o0)) (h5 : ¬ (0 : Int64) < (mJ σ 450 o0)) (h6 : (mJ σ 449 o0) < (mJ σ 448 o0)) : Z_X7_cut R σ o0 y1 y3 = (Z_X7_becomeNone R σ o0) := by unfold Z_X7_cut; exact Eq.trans (if_neg h0) (Eq.trans (if_neg h1) (Eq.trans (if_neg h2) (Eq.trans (if_neg h3) (Eq.trans (if_pos h4) (Eq.trans (if_neg h5) (if_pos h6))))))
theorem zl_X7_cut_14 {R : Nat → Nat → Nat} {σ : SG} {o0 : Nat} {y1 : Int64} {y3 : Int64} (h0 : ¬ (mJ σ 450 o0) < (0 : Int64)) (h1 : ¬ (mJ σ 449 o0) < y1) (h2 : ¬ y3 < (mJ σ 448 o0)) (h3 : ¬ (mJ σ 448 o0) < y1) (h4 : y3 < (mJ σ 449 o0)) (h5 : ¬ (0 : Int64) < (mJ σ 450 o0)) (h6 : ¬ (mJ σ 449 o0) < (mJ σ 448 o0)) : Z_X7_cut R σ o0 y1 y3 = (Z_X7_become R σ o0 ((mJ σ 448 o0)) ((mJ σ 449 o0)) ((mJ σ 450 o0))) := by unfold Z_X7_cut; exact Eq.trans (if_neg h0) (Eq.trans (if_neg h1) (Eq.trans (if_neg h2) (Eq.trans (if_neg h3) (Eq.trans (if_pos h4) (Eq.trans (if_neg h5) (if_neg h6))))))
theorem zl_X7_cut_15 {R : Nat → Nat → Nat} {σ : SG} {o0 : Nat} {y1 : Int64} {y3 : Int64} (h0 : ¬ (mJ σ 450 o0) < (0 : Int64)) (h1 : ¬ (mJ σ 449 o0) < y1) (h2 : ¬ y3 < (mJ σ 448 o0)) (h3 : ¬ (mJ σ 448 o0) < y1) (h4 : ¬ y3 < (mJ σ 449 o0)) (h5 : (mJ σ 449 o0) < (mJ σ 448 o0)) : Z_X7_cut R σ o0 y1 y3 = (Z_X7_becomeNone R σ o0) := by unfold Z_X7_cut; exact Eq.trans (if_neg h0) (Eq.trans (if_neg h1) (Eq.trans (if_neg h2) (Eq.trans (if_neg h3) (Eq.trans (if_neg h4) (if_pos h5)))))
theorem zl_X7_cut_16 {R : Nat → Nat → Nat} {σ : SG} {o0 : Nat} {y1 : Int64} {y3 : Int64} (h0 : ¬ (mJ σ 450 o0) < (0 : Int64)) (h1 : ¬ (mJ σ 449 o0) < y1) (h2 : ¬ y3 < (mJ σ 448 o0)) (h3 : ¬ (mJ σ 448 o0) < y1) (h4 : ¬ y3 < (mJ σ 449 o0)) (h5 : ¬ (mJ σ 449 o0) < (mJ σ 448 o0)) : Z_X7_cut R σ o0 y1 y3 = (Z_X7_become R σ o0 ((mJ σ 448 o0)) ((mJ σ 449 o0)) ((mJ σ 450 o0))) := by unfold Z_X7_cut; exact Eq.trans (if_neg h0) (Eq.trans (if_neg h1) (Eq.trans (if_neg h2) (Eq.trans (if_neg h3) (Eq.trans (if_neg h4) (if_neg h5)))))
set_option maxHeartbeats 40000000 in
theorem cz_X7_cut {xi : SX} {S : Hp} {E : List Nat} {kc nc : Nat} {P : Po} {o0 : Nat} {y1 : Int64} {y3 : Int64} {R : Nat → Nat → Nat} (hG : GI S E) (h0 : Oa S E 7 0 o0) (hR : RK S R) (hP : ∀ r T x y, PV E [9987] S kc nc rV (fun v T => sg T = Z_X7_cut R (sg S) o0 y1 y3) [] r T x y → P r T x y) : TT xi M_X7_cut 0 [(0, .ref o0), (1, .long y1), (3, .long y3)] [] S kc nc P := by
  have hA : Af E [9987] S S := af_rf
  refine tt_aload_n (j := 0) dX7_cut_0 rfl ?_
  refine gt_gJ (id := 450) (v := (mJ (sg S) 450 o0)) dX7_cut_1 fl_7_15 rfl rfl h0 hA (sg_J (k := 450) (o := o0) (show sg S = (sg S) from rfl)) ?_
  refine tt_lconst (v := 0) dX7_cut_4 rfl ?_
  refine tt_lcmp dX7_cut_5 ?_
  refine tt_if_ge (tgt := 10) dX7_cut_6 rfl (fun q101 => ?_) (fun q101 => ?_)
  · skip
    refine tt_lload_n (j := 1) dX7_cut_10 rfl ?_
    refine tt_aload_n (j := 0) dX7_cut_11 rfl ?_
    refine gt_gJ (id := 449) (v := (mJ (sg S) 449 o0)) dX7_cut_12 fl_7_26 rfl rfl h0 hA (sg_J (k := 449) (o := o0) (show sg S = (sg S) from rfl)) ?_
    refine tt_lcmp dX7_cut_15 ?_
    refine tt_if_gt (tgt := 28) dX7_cut_16 rfl (fun q102 => ?_) (fun q102 => ?_)
    · skip
      refine tt_aload_n (j := 0) dX7_cut_28 rfl ?_
      refine gt_Vv (As := []) dX7_cut_29 ca_X7_52 ⟨by decide, by decide⟩ h0 hA rfl (Nat.le_of_ble_eq_true rfl) (Nat.le_of_ble_eq_true rfl) (by decide) (cz_X7_becomeNone hG (oa_af h0 hA) hR (fun _ _ _ _ h => h)) rfl (fun _ h => nomatch h) (fun S103 hx107 hG104 hB105 hA106 => ?_)
      obtain ⟨d108, hd109⟩ : ∃ q, Z_X7_becomeNone R (sg S) o0 = q := ⟨_, rfl⟩
      have hq110 := (congrArg (fun q9 => Z_X7_becomeNone R q9 o0) (show sg S = (sg S) from rfl)).trans hd109
      have hs111 := hx107.trans hq110
      have hF : Z_X7_cut R (sg S) o0 y1 y3 = d108 := by
        subst hd109
        exact zl_X7_cut_1 (Int64.not_lt.mpr (lc_ge_t q101)) (lc_gt_t q102)
      exact tt_vreturn dX7_cut_32 rfl (hP _ _ _ _ ⟨hG104, hA106, Or.inl ⟨_, rfl, rfl, Eq.trans hs111 hF.symm, rfl, rfl⟩⟩)
    · skip
      refine tt_lload_n (j := 2) dX7_cut_19 rfl ?_
      refine tt_aload_n (j := 0) dX7_cut_20 rfl ?_
      refine gt_gJ (id := 448) (v := (mJ (sg S) 448 o0)) dX7_cut_21 fl_7_23 rfl rfl h0 hA (sg_J (k := 448) (o := o0) (show sg S = (sg S) from rfl)) ?_
      refine tt_lcmp dX7_cut_24 ?_
      refine tt_if_ge (tgt := 33) dX7_cut_25 rfl (fun q112 => ?_) (fun q112 => ?_)
      · skip
        refine tt_lload_n (j := 1) dX7_cut_33 rfl ?_
        refine tt_aload_n (j := 0) dX7_cut_34 rfl ?_
        refine gt_gJ (id := 448) (v := (mJ (sg S) 448 o0)) dX7_cut_35 fl_7_23 rfl rfl h0 hA (sg_J (k := 448) (o := o0) (show sg S = (sg S) from rfl)) ?_
        refine tt_lcmp dX7_cut_38 ?_
        refine tt_if_le (tgt := 69) dX7_cut_39 rfl (fun q113 => ?_) (fun q113 => ?_)
        · skip
          refine tt_aload_n (j := 0) dX7_cut_69 rfl ?_
          refine gt_gJ (id := 448) (v := (mJ (sg S) 448 o0)) dX7_cut_70 fl_7_23 rfl rfl h0 hA (sg_J (k := 448) (o := o0) (show sg S = (sg S) from rfl)) ?_
          refine tt_lstore (ks := [0, 1, 2, 3]) (L' := [(5, .long (mJ (sg S) 448 o0)), (0, .ref o0), (1, .long y1), (3, .long y3)]) dX7_cut_73 (by decide) rfl ?_
          refine tt_lload_n (j := 3) dX7_cut_75 rfl ?_
          refine tt_aload_n (j := 1) dX7_cut_76 rfl ?_
          refine gt_gJ (id := 449) (v := (mJ (sg S) 449 o0)) dX7_cut_77 fl_7_26 rfl rfl h0 hA (sg_J (k := 449) (o := o0) (show sg S = (sg S) from rfl)) ?_
          refine tt_lcmp dX7_cut_80 ?_
          refine tt_if_ge (tgt := 111) dX7_cut_81 rfl (fun q114 => ?_) (fun q114 => ?_)
          · skip
            refine tt_aload_n (j := 1) dX7_cut_111 rfl ?_
            refine gt_gJ (id := 449) (v := (mJ (sg S) 449 o0)) dX7_cut_112 fl_7_26 rfl rfl h0 hA (sg_J (k := 449) (o := o0) (show sg S = (sg S) from rfl)) ?_
            refine tt_lstore (ks := [0, 1, 2, 3, 4]) (L' := [(7, .long (mJ (sg S) 449 o0)), (5, .long (mJ (sg S) 448 o0)), (0, .ref o0), (1, .long y1), (3, .long y3)]) dX7_cut_115 (by decide) rfl ?_
            refine tt_lload (j := 1) dX7_cut_117 rfl ?_
            refine tt_lload (j := 0) dX7_cut_119 rfl ?_
            refine tt_lcmp dX7_cut_121 ?_
            refine tt_if_le (tgt := 132) dX7_cut_122 rfl (fun q115 => ?_) (fun q115 => ?_)
            · skip
              refine tt_aload_n (j := 2) dX7_cut_132 rfl ?_
              refine tt_lload (j := 1) dX7_cut_133 rfl ?_
              refine tt_lload (j := 0) dX7_cut_135 rfl ?_
              refine tt_aload_n (j := 2) dX7_cut_137 rfl ?_
              refine gt_gJ (id := 450) (v := (mJ (sg S) 450 o0)) dX7_cut_138 fl_7_15 rfl rfl h0 hA (sg_J (k := 450) (o := o0) (show sg S = (sg S) from rfl)) ?_
              refine gt_Vv (As := [.long (mJ (sg S) 448 o0), .long (mJ (sg S) 449 o0), .long (mJ (sg S) 450 o0)]) dX7_cut_141 ca_X7_48 ⟨by decide, by decide⟩ h0 hA rfl (Nat.le_of_ble_eq_true rfl) (Nat.le_of_ble_eq_true rfl) (by decide) (cz_X7_become hG (oa_af h0 hA) hR (fun _ _ _ _ h => h)) rfl (fun _ h => nomatch h) (fun S116 hx120 hG117 hB118 hA119 => ?_)
              obtain ⟨d121, hd122⟩ : ∃ q, Z_X7_become R (sg S) o0 ((mJ (sg S) 448 o0)) ((mJ (sg S) 449 o0)) ((mJ (sg S) 450 o0)) = q := ⟨_, rfl⟩
              have hq123 := (congrArg (fun q9 => Z_X7_become R q9 o0 ((mJ (sg S) 448 o0)) ((mJ (sg S) 449 o0)) ((mJ (sg S) 450 o0))) (show sg S = (sg S) from rfl)).trans hd122
              have hs124 := hx120.trans hq123
              have hF : Z_X7_cut R (sg S) o0 y1 y3 = d121 := by
                subst hd122
                exact zl_X7_cut_16 (Int64.not_lt.mpr (lc_ge_t q101)) (Int64.not_lt.mpr (lc_gt_f q102)) (Int64.not_lt.mpr (lc_ge_t q112)) (Int64.not_lt.mpr (lc_le_t q113)) (Int64.not_lt.mpr (lc_ge_t q114)) (Int64.not_lt.mpr (lc_le_t q115))
              exact tt_vreturn dX7_cut_144 rfl (hP _ _ _ _ ⟨hG117, hA119, Or.inl ⟨_, rfl, rfl, Eq.trans hs124 hF.symm, rfl, rfl⟩⟩)
            · skip
              refine tt_aload_n (j := 2) dX7_cut_125 rfl ?_
              refine gt_Vv (As := []) dX7_cut_126 ca_X7_52 ⟨by decide, by decide⟩ h0 hA rfl (Nat.le_of_ble_eq_true rfl) (Nat.le_of_ble_eq_true rfl) (by decide) (cz_X7_becomeNone hG (oa_af h0 hA) hR (fun _ _ _ _ h => h)) rfl (fun _ h => nomatch h) (fun S125 hx129 hG126 hB127 hA128 => ?_)
              obtain ⟨d130, hd131⟩ : ∃ q, Z_X7_becomeNone R (sg S) o0 = q := ⟨_, rfl⟩
              have hq132 := (congrArg (fun q9 => Z_X7_becomeNone R q9 o0) (show sg S = (sg S) from rfl)).trans hd131
              have hs133 := hx129.trans hq132
              refine tt_goto (tgt := 144) dX7_cut_129 rfl ?_
              have hF : Z_X7_cut R (sg S) o0 y1 y3 = d130 := by
                subst hd131
                exact zl_X7_cut_15 (Int64.not_lt.mpr (lc_ge_t q101)) (Int64.not_lt.mpr (lc_gt_f q102)) (Int64.not_lt.mpr (lc_ge_t q112)) (Int64.not_lt.mpr (lc_le_t q113)) (Int64.not_lt.mpr (lc_ge_t q114)) (lc_le_f q115)
              exact tt_vreturn dX7_cut_144 rfl (hP _ _ _ _ ⟨hG126, hA128, Or.inl ⟨_, rfl, rfl, Eq.trans hs133 hF.symm, rfl, rfl⟩⟩)
          · skip
            refine tt_aload_n (j := 1) dX7_cut_84 rfl ?_
            refine gt_gJ (id := 450) (v := (mJ (sg S) 450 o0)) dX7_cut_85 fl_7_15 rfl rfl h0 hA (sg_J (k := 450) (o := o0) (show sg S = (sg S) from rfl)) ?_
            refine tt_lconst (v := 0) dX7_cut_88 rfl ?_
            refine tt_lcmp dX7_cut_89 ?_
            refine tt_if_le (tgt := 111) dX7_cut_90 rfl (fun q134 => ?_) (fun q134 => ?_)
            · skip
              refine tt_aload_n (j := 1) dX7_cut_111 rfl ?_
              refine gt_gJ (id := 449) (v := (mJ (sg S) 449 o0)) dX7_cut_112 fl_7_26 rfl rfl h0 hA (sg_J (k := 449) (o := o0) (show sg S = (sg S) from rfl)) ?_
              refine tt_lstore (ks := [0, 1, 2, 3, 4]) (L' := [(7, .long (mJ (sg S) 449 o0)), (5, .long (mJ (sg S) 448 o0)), (0, .ref o0), (1, .long y1), (3, .long y3)]) dX7_cut_115 (by decide) rfl ?_
              refine tt_lload (j := 1) dX7_cut_117 rfl ?_
              refine tt_lload (j := 0) dX7_cut_119 rfl ?_
              refine tt_lcmp dX7_cut_121 ?_
              refine tt_if_le (tgt := 132) dX7_cut_122 rfl (fun q135 => ?_) (fun q135 => ?_)
              · skip
                refine tt_aload_n (j := 2) dX7_cut_132 rfl ?_
                refine tt_lload (j := 1) dX7_cut_133 rfl ?_
                refine tt_lload (j := 0) dX7_cut_135 rfl ?_
                refine tt_aload_n (j := 2) dX7_cut_137 rfl ?_
                refine gt_gJ (id := 450) (v := (mJ (sg S) 450 o0)) dX7_cut_138 fl_7_15 rfl rfl h0 hA (sg_J (k := 450) (o := o0) (show sg S = (sg S) from rfl)) ?_
                refine gt_Vv (As := [.long (mJ (sg S) 448 o0), .long (mJ (sg S) 449 o0), .long (mJ (sg S) 450 o0)]) dX7_cut_141 ca_X7_48 ⟨by decide, by decide⟩ h0 hA rfl (Nat.le_of_ble_eq_true rfl) (Nat.le_of_ble_eq_true rfl) (by decide) (cz_X7_become hG (oa_af h0 hA) hR (fun _ _ _ _ h => h)) rfl (fun _ h => nomatch h) (fun S136 hx140 hG137 hB138 hA139 => ?_)
                obtain ⟨d141, hd142⟩ : ∃ q, Z_X7_become R (sg S) o0 ((mJ (sg S) 448 o0)) ((mJ (sg S) 449 o0)) ((mJ (sg S) 450 o0)) = q := ⟨_, rfl⟩
                have hq143 := (congrArg (fun q9 => Z_X7_become R q9 o0 ((mJ (sg S) 448 o0)) ((mJ (sg S) 449 o0)) ((mJ (sg S) 450 o0))) (show sg S = (sg S) from rfl)).trans hd142
                have hs144 := hx140.trans hq143
                have hF : Z_X7_cut R (sg S) o0 y1 y3 = d141 := by
                  subst hd142
                  exact zl_X7_cut_14 (Int64.not_lt.mpr (lc_ge_t q101)) (Int64.not_lt.mpr (lc_gt_f q102)) (Int64.not_lt.mpr (lc_ge_t q112)) (Int64.not_lt.mpr (lc_le_t q113)) (lc_ge_f q114) (Int64.not_lt.mpr (lc_le_t q134)) (Int64.not_lt.mpr (lc_le_t q135))
                exact tt_vreturn dX7_cut_144 rfl (hP _ _ _ _ ⟨hG137, hA139, Or.inl ⟨_, rfl, rfl, Eq.trans hs144 hF.symm, rfl, rfl⟩⟩)
              · skip
                refine tt_aload_n (j := 2) dX7_cut_125 rfl ?_
                refine gt_Vv (As := []) dX7_cut_126 ca_X7_52 ⟨by decide, by decide⟩ h0 hA rfl (Nat.le_of_ble_eq_true rfl) (Nat.le_of_ble_eq_true rfl) (by decide) (cz_X7_becomeNone hG (oa_af h0 hA) hR (fun _ _ _ _ h => h)) rfl (fun _ h => nomatch h) (fun S145 hx149 hG146 hB147 hA148 => ?_)
                obtain ⟨d150, hd151⟩ : ∃ q, Z_X7_becomeNone R (sg S) o0 = q := ⟨_, rfl⟩
                have hq152 := (congrArg (fun q9 => Z_X7_becomeNone R q9 o0) (show sg S = (sg S) from rfl)).trans hd151
                have hs153 := hx149.trans hq152
                refine tt_goto (tgt := 144) dX7_cut_129 rfl ?_
                have hF : Z_X7_cut R (sg S) o0 y1 y3 = d150 := by
                  subst hd151
                  exact zl_X7_cut_13 (Int64.not_lt.mpr (lc_ge_t q101)) (Int64.not_lt.mpr (lc_gt_f q102)) (Int64.not_lt.mpr (lc_ge_t q112)) (Int64.not_lt.mpr (lc_le_t q113)) (lc_ge_f q114) (Int64.not_lt.mpr (lc_le_t q134)) (lc_le_f q135)
                exact tt_vreturn dX7_cut_144 rfl (hP _ _ _ _ ⟨hG146, hA148, Or.inl ⟨_, rfl, rfl, Eq.trans hs153 hF.symm, rfl, rfl⟩⟩)
            · skip
              refine tt_lload_n (j := 3) dX7_cut_93 rfl ?_
              refine tt_lload_n (j := 3) dX7_cut_94 rfl ?_
              refine tt_aload_n (j := 1) dX7_cut_95 rfl ?_
              refine gt_gJ (id := 449) (v := (mJ (sg S) 449 o0)) dX7_cut_96 fl_7_26 rfl rfl h0 hA (sg_J (k := 449) (o := o0) (show sg S = (sg S) from rfl)) ?_
              refine tt_lsub dX7_cut_99 ?_
              refine tt_aload_n (j := 1) dX7_cut_100 rfl ?_
              refine gt_gJ (id := 450) (v := (mJ (sg S) 450 o0)) dX7_cut_101 fl_7_15 rfl rfl h0 hA (sg_J (k := 450) (o := o0) (show sg S = (sg S) from rfl)) ?_
              refine gt_SJp (As := [.long (y3 - (mJ (sg S) 449 o0)), .long (mJ (sg S) 450 o0)]) dX7_cut_104 ca_X7_55 ⟨by decide, by decide⟩ hA (Nat.le_of_ble_eq_true rfl) (Nat.le_of_ble_eq_true rfl) (by decide) (cz_J9_floorMod_f86c9 hG (nz_ps9 (lc_le_f q134)) (fun _ _ _ _ h => h)) rfl (fun _ h => nomatch h) (fun _ _ q => q.1) (fun y154 hx156 => ?_)
              obtain rfl : Z_J9_floorMod_f86c9 ((y3 - (mJ (sg S) 449 o0))) ((mJ (sg S) 450 o0)) = y154 := ((el_w hx156.2).trans rfl).symm
              refine tt_lsub dX7_cut_107 ?_
              refine tt_goto (tgt := 115) dX7_cut_108 rfl ?_
              refine tt_lstore (ks := [0, 1, 2, 3, 4]) (L' := [(7, .long (y3 - (Z_J9_floorMod_f86c9 ((y3 - (mJ (sg S) 449 o0))) ((mJ (sg S) 450 o0))))), (5, .long (mJ (sg S) 448 o0)), (0, .ref o0), (1, .long y1), (3, .long y3)]) dX7_cut_115 (by decide) rfl ?_
              refine tt_lload (j := 1) dX7_cut_117 rfl ?_
              refine tt_lload (j := 0) dX7_cut_119 rfl ?_
              refine tt_lcmp dX7_cut_121 ?_
              refine tt_if_le (tgt := 132) dX7_cut_122 rfl (fun q157 => ?_) (fun q157 => ?_)
              · skip
                refine tt_aload_n (j := 2) dX7_cut_132 rfl ?_
                refine tt_lload (j := 1) dX7_cut_133 rfl ?_
                refine tt_lload (j := 0) dX7_cut_135 rfl ?_
                refine tt_aload_n (j := 2) dX7_cut_137 rfl ?_
                refine gt_gJ (id := 450) (v := (mJ (sg S) 450 o0)) dX7_cut_138 fl_7_15 rfl rfl h0 hA (sg_J (k := 450) (o := o0) (show sg S = (sg S) from rfl)) ?_
                refine gt_Vv (As := [.long (mJ (sg S) 448 o0), .long (y3 - (Z_J9_floorMod_f86c9 ((y3 - (mJ (sg S) 449 o0))) ((mJ (sg S) 450 o0)))), .long (mJ (sg S) 450 o0)]) dX7_cut_141 ca_X7_48 ⟨by decide, by decide⟩ h0 hA rfl (Nat.le_of_ble_eq_true rfl) (Nat.le_of_ble_eq_true rfl) (by decide) (cz_X7_become hG (oa_af h0 hA) hR (fun _ _ _ _ h => h)) rfl (fun _ h => nomatch h) (fun S158 hx162 hG159 hB160 hA161 => ?_)
                obtain ⟨d163, hd164⟩ : ∃ q, Z_X7_become R (sg S) o0 ((mJ (sg S) 448 o0)) ((y3 - (Z_J9_floorMod_f86c9 ((y3 - (mJ (sg S) 449 o0))) ((mJ (sg S) 450 o0))))) ((mJ (sg S) 450 o0)) = q := ⟨_, rfl⟩
                have hq165 := (congrArg (fun q9 => Z_X7_become R q9 o0 ((mJ (sg S) 448 o0)) ((y3 - (Z_J9_floorMod_f86c9 ((y3 - (mJ (sg S) 449 o0))) ((mJ (sg S) 450 o0))))) ((mJ (sg S) 450 o0))) (show sg S = (sg S) from rfl)).trans hd164
                have hs166 := hx162.trans hq165
                have hF : Z_X7_cut R (sg S) o0 y1 y3 = d163 := by
                  subst hd164
                  exact zl_X7_cut_12 (Int64.not_lt.mpr (lc_ge_t q101)) (Int64.not_lt.mpr (lc_gt_f q102)) (Int64.not_lt.mpr (lc_ge_t q112)) (Int64.not_lt.mpr (lc_le_t q113)) (lc_ge_f q114) (lc_le_f q134) (Int64.not_lt.mpr (lc_le_t q157))
                exact tt_vreturn dX7_cut_144 rfl (hP _ _ _ _ ⟨hG159, hA161, Or.inl ⟨_, rfl, rfl, Eq.trans hs166 hF.symm, rfl, rfl⟩⟩)
              · skip
                refine tt_aload_n (j := 2) dX7_cut_125 rfl ?_
                refine gt_Vv (As := []) dX7_cut_126 ca_X7_52 ⟨by decide, by decide⟩ h0 hA rfl (Nat.le_of_ble_eq_true rfl) (Nat.le_of_ble_eq_true rfl) (by decide) (cz_X7_becomeNone hG (oa_af h0 hA) hR (fun _ _ _ _ h => h)) rfl (fun _ h => nomatch h) (fun S167 hx171 hG168 hB169 hA170 => ?_)
                obtain ⟨d172, hd173⟩ : ∃ q, Z_X7_becomeNone R (sg S) o0 = q := ⟨_, rfl⟩
                have hq174 := (congrArg (fun q9 => Z_X7_becomeNone R q9 o0) (show sg S = (sg S) from rfl)).trans hd173
                have hs175 := hx171.trans hq174
                refine tt_goto (tgt := 144) dX7_cut_129 rfl ?_
                have hF : Z_X7_cut R (sg S) o0 y1 y3 = d172 := by
                  subst hd173
                  exact zl_X7_cut_11 (Int64.not_lt.mpr (lc_ge_t q101)) (Int64.not_lt.mpr (lc_gt_f q102)) (Int64.not_lt.mpr (lc_ge_t q112)) (Int64.not_lt.mpr (lc_le_t q113)) (lc_ge_f q114) (lc_le_f q134) (lc_le_f q157)
                exact tt_vreturn dX7_cut_144 rfl (hP _ _ _ _ ⟨hG168, hA170, Or.inl ⟨_, rfl, rfl, Eq.trans hs175 hF.symm, rfl, rfl⟩⟩)
        · skip
          refine tt_aload_n (j := 0) dX7_cut_42 rfl ?_
          refine gt_gJ (id := 450) (v := (mJ (sg S) 450 o0)) dX7_cut_43 fl_7_15 rfl rfl h0 hA (sg_J (k := 450) (o := o0) (show sg S = (sg S) from rfl)) ?_
          refine tt_lconst (v := 0) dX7_cut_46 rfl ?_
          refine tt_lcmp dX7_cut_47 ?_
          refine tt_if_le (tgt := 69) dX7_cut_48 rfl (fun q176 => ?_) (fun q176 => ?_)
          · skip
            refine tt_aload_n (j := 0) dX7_cut_69 rfl ?_
            refine gt_gJ (id := 448) (v := (mJ (sg S) 448 o0)) dX7_cut_70 fl_7_23 rfl rfl h0 hA (sg_J (k := 448) (o := o0) (show sg S = (sg S) from rfl)) ?_
            refine tt_lstore (ks := [0, 1, 2, 3]) (L' := [(5, .long (mJ (sg S) 448 o0)), (0, .ref o0), (1, .long y1), (3, .long y3)]) dX7_cut_73 (by decide) rfl ?_
            refine tt_lload_n (j := 3) dX7_cut_75 rfl ?_
            refine tt_aload_n (j := 1) dX7_cut_76 rfl ?_
            refine gt_gJ (id := 449) (v := (mJ (sg S) 449 o0)) dX7_cut_77 fl_7_26 rfl rfl h0 hA (sg_J (k := 449) (o := o0) (show sg S = (sg S) from rfl)) ?_
            refine tt_lcmp dX7_cut_80 ?_
            refine tt_if_ge (tgt := 111) dX7_cut_81 rfl (fun q177 => ?_) (fun q177 => ?_)
            · skip
              refine tt_aload_n (j := 1) dX7_cut_111 rfl ?_
              refine gt_gJ (id := 449) (v := (mJ (sg S) 449 o0)) dX7_cut_112 fl_7_26 rfl rfl h0 hA (sg_J (k := 449) (o := o0) (show sg S = (sg S) from rfl)) ?_
              refine tt_lstore (ks := [0, 1, 2, 3, 4]) (L' := [(7, .long (mJ (sg S) 449 o0)), (5, .long (mJ (sg S) 448 o0)), (0, .ref o0), (1, .long y1), (3, .long y3)]) dX7_cut_115 (by decide) rfl ?_
              refine tt_lload (j := 1) dX7_cut_117 rfl ?_
              refine tt_lload (j := 0) dX7_cut_119 rfl ?_
              refine tt_lcmp dX7_cut_121 ?_
              refine tt_if_le (tgt := 132) dX7_cut_122 rfl (fun q178 => ?_) (fun q178 => ?_)
              · skip
                refine tt_aload_n (j := 2) dX7_cut_132 rfl ?_
                refine tt_lload (j := 1) dX7_cut_133 rfl ?_
                refine tt_lload (j := 0) dX7_cut_135 rfl ?_
                refine tt_aload_n (j := 2) dX7_cut_137 rfl ?_
                refine gt_gJ (id := 450) (v := (mJ (sg S) 450 o0)) dX7_cut_138 fl_7_15 rfl rfl h0 hA (sg_J (k := 450) (o := o0) (show sg S = (sg S) from rfl)) ?_
                refine gt_Vv (As := [.long (mJ (sg S) 448 o0), .long (mJ (sg S) 449 o0), .long (mJ (sg S) 450 o0)]) dX7_cut_141 ca_X7_48 ⟨by decide, by decide⟩ h0 hA rfl (Nat.le_of_ble_eq_true rfl) (Nat.le_of_ble_eq_true rfl) (by decide) (cz_X7_become hG (oa_af h0 hA) hR (fun _ _ _ _ h => h)) rfl (fun _ h => nomatch h) (fun S179 hx183 hG180 hB181 hA182 => ?_)
                obtain ⟨d184, hd185⟩ : ∃ q, Z_X7_become R (sg S) o0 ((mJ (sg S) 448 o0)) ((mJ (sg S) 449 o0)) ((mJ (sg S) 450 o0)) = q := ⟨_, rfl⟩
                have hq186 := (congrArg (fun q9 => Z_X7_become R q9 o0 ((mJ (sg S) 448 o0)) ((mJ (sg S) 449 o0)) ((mJ (sg S) 450 o0))) (show sg S = (sg S) from rfl)).trans hd185
                have hs187 := hx183.trans hq186
                have hF : Z_X7_cut R (sg S) o0 y1 y3 = d184 := by
                  subst hd185
                  exact zl_X7_cut_10 (Int64.not_lt.mpr (lc_ge_t q101)) (Int64.not_lt.mpr (lc_gt_f q102)) (Int64.not_lt.mpr (lc_ge_t q112)) (lc_le_f q113) (Int64.not_lt.mpr (lc_le_t q176)) (Int64.not_lt.mpr (lc_ge_t q177)) (Int64.not_lt.mpr (lc_le_t q178))
                exact tt_vreturn dX7_cut_144 rfl (hP _ _ _ _ ⟨hG180, hA182, Or.inl ⟨_, rfl, rfl, Eq.trans hs187 hF.symm, rfl, rfl⟩⟩)
              · skip
                refine tt_aload_n (j := 2) dX7_cut_125 rfl ?_
                refine gt_Vv (As := []) dX7_cut_126 ca_X7_52 ⟨by decide, by decide⟩ h0 hA rfl (Nat.le_of_ble_eq_true rfl) (Nat.le_of_ble_eq_true rfl) (by decide) (cz_X7_becomeNone hG (oa_af h0 hA) hR (fun _ _ _ _ h => h)) rfl (fun _ h => nomatch h) (fun S188 hx192 hG189 hB190 hA191 => ?_)
                obtain ⟨d193, hd194⟩ : ∃ q, Z_X7_becomeNone R (sg S) o0 = q := ⟨_, rfl⟩
                have hq195 := (congrArg (fun q9 => Z_X7_becomeNone R q9 o0) (show sg S = (sg S) from rfl)).trans hd194
                have hs196 := hx192.trans hq195
                refine tt_goto (tgt := 144) dX7_cut_129 rfl ?_
                have hF : Z_X7_cut R (sg S) o0 y1 y3 = d193 := by
                  subst hd194
                  exact zl_X7_cut_9 (Int64.not_lt.mpr (lc_ge_t q101)) (Int64.not_lt.mpr (lc_gt_f q102)) (Int64.not_lt.mpr (lc_ge_t q112)) (lc_le_f q113) (Int64.not_lt.mpr (lc_le_t q176)) (Int64.not_lt.mpr (lc_ge_t q177)) (lc_le_f q178)
                exact tt_vreturn dX7_cut_144 rfl (hP _ _ _ _ ⟨hG189, hA191, Or.inl ⟨_, rfl, rfl, Eq.trans hs196 hF.symm, rfl, rfl⟩⟩)
            · skip
              refine tt_aload_n (j := 1) dX7_cut_84 rfl ?_
              refine gt_gJ (id := 450) (v := (mJ (sg S) 450 o0)) dX7_cut_85 fl_7_15 rfl rfl h0 hA (sg_J (k := 450) (o := o0) (show sg S = (sg S) from rfl)) ?_
              refine tt_lconst (v := 0) dX7_cut_88 rfl ?_
              refine tt_lcmp dX7_cut_89 ?_
              refine tt_if_le (tgt := 111) dX7_cut_90 rfl (fun q197 => ?_) (fun q197 => ?_)
              · skip
                refine tt_aload_n (j := 1) dX7_cut_111 rfl ?_
                refine gt_gJ (id := 449) (v := (mJ (sg S) 449 o0)) dX7_cut_112 fl_7_26 rfl rfl h0 hA (sg_J (k := 449) (o := o0) (show sg S = (sg S) from rfl)) ?_
                refine tt_lstore (ks := [0, 1, 2, 3, 4]) (L' := [(7, .long (mJ (sg S) 449 o0)), (5, .long (mJ (sg S) 448 o0)), (0, .ref o0), (1, .long y1), (3, .long y3)]) dX7_cut_115 (by decide) rfl ?_
                refine tt_lload (j := 1) dX7_cut_117 rfl ?_
                refine tt_lload (j := 0) dX7_cut_119 rfl ?_
                refine tt_lcmp dX7_cut_121 ?_
                refine tt_if_le (tgt := 132) dX7_cut_122 rfl (fun q198 => ?_) (fun q198 => ?_)
                · skip
                  refine tt_aload_n (j := 2) dX7_cut_132 rfl ?_
                  refine tt_lload (j := 1) dX7_cut_133 rfl ?_
                  refine tt_lload (j := 0) dX7_cut_135 rfl ?_
                  refine tt_aload_n (j := 2) dX7_cut_137 rfl ?_
                  refine gt_gJ (id := 450) (v := (mJ (sg S) 450 o0)) dX7_cut_138 fl_7_15 rfl rfl h0 hA (sg_J (k := 450) (o := o0) (show sg S = (sg S) from rfl)) ?_
                  refine gt_Vv (As := [.long (mJ (sg S) 448 o0), .long (mJ (sg S) 449 o0), .long (mJ (sg S) 450 o0)]) dX7_cut_141 ca_X7_48 ⟨by decide, by decide⟩ h0 hA rfl (Nat.le_of_ble_eq_true rfl) (Nat.le_of_ble_eq_true rfl) (by decide) (cz_X7_become hG (oa_af h0 hA) hR (fun _ _ _ _ h => h)) rfl (fun _ h => nomatch h) (fun S199 hx203 hG200 hB201 hA202 => ?_)
                  obtain ⟨d204, hd205⟩ : ∃ q, Z_X7_become R (sg S) o0 ((mJ (sg S) 448 o0)) ((mJ (sg S) 449 o0)) ((mJ (sg S) 450 o0)) = q := ⟨_, rfl⟩
                  have hq206 := (congrArg (fun q9 => Z_X7_become R q9 o0 ((mJ (sg S) 448 o0)) ((mJ (sg S) 449 o0)) ((mJ (sg S) 450 o0))) (show sg S = (sg S) from rfl)).trans hd205
                  have hs207 := hx203.trans hq206
                  have hF : Z_X7_cut R (sg S) o0 y1 y3 = d204 := by
                    subst hd205
                    exact zl_X7_cut_8 (Int64.not_lt.mpr (lc_ge_t q101)) (Int64.not_lt.mpr (lc_gt_f q102)) (Int64.not_lt.mpr (lc_ge_t q112)) (lc_le_f q113) (Int64.not_lt.mpr (lc_le_t q176)) (lc_ge_f q177) (Int64.not_lt.mpr (lc_le_t q198))
                  exact tt_vreturn dX7_cut_144 rfl (hP _ _ _ _ ⟨hG200, hA202, Or.inl ⟨_, rfl, rfl, Eq.trans hs207 hF.symm, rfl, rfl⟩⟩)
                · skip
                  refine tt_aload_n (j := 2) dX7_cut_125 rfl ?_
                  refine gt_Vv (As := []) dX7_cut_126 ca_X7_52 ⟨by decide, by decide⟩ h0 hA rfl (Nat.le_of_ble_eq_true rfl) (Nat.le_of_ble_eq_true rfl) (by decide) (cz_X7_becomeNone hG (oa_af h0 hA) hR (fun _ _ _ _ h => h)) rfl (fun _ h => nomatch h) (fun S208 hx212 hG209 hB210 hA211 => ?_)
                  obtain ⟨d213, hd214⟩ : ∃ q, Z_X7_becomeNone R (sg S) o0 = q := ⟨_, rfl⟩
                  have hq215 := (congrArg (fun q9 => Z_X7_becomeNone R q9 o0) (show sg S = (sg S) from rfl)).trans hd214
                  have hs216 := hx212.trans hq215
                  refine tt_goto (tgt := 144) dX7_cut_129 rfl ?_
                  have hF : Z_X7_cut R (sg S) o0 y1 y3 = d213 := by
                    subst hd214
                    exact zl_X7_cut_7 (Int64.not_lt.mpr (lc_ge_t q101)) (Int64.not_lt.mpr (lc_gt_f q102)) (Int64.not_lt.mpr (lc_ge_t q112)) (lc_le_f q113) (Int64.not_lt.mpr (lc_le_t q176)) (lc_ge_f q177) (lc_le_f q198)
                  exact tt_vreturn dX7_cut_144 rfl (hP _ _ _ _ ⟨hG209, hA211, Or.inl ⟨_, rfl, rfl, Eq.trans hs216 hF.symm, rfl, rfl⟩⟩)
              · exact absurd (lc_le_f q197) (Int64.not_lt.mpr (lc_le_t q176))
          · skip
            refine tt_lload_n (j := 1) dX7_cut_51 rfl ?_
            refine tt_aload_n (j := 0) dX7_cut_52 rfl ?_
            refine gt_gJ (id := 448) (v := (mJ (sg S) 448 o0)) dX7_cut_53 fl_7_23 rfl rfl h0 hA (sg_J (k := 448) (o := o0) (show sg S = (sg S) from rfl)) ?_
            refine tt_lload_n (j := 1) dX7_cut_56 rfl ?_
            refine tt_lsub dX7_cut_57 ?_
            refine tt_aload_n (j := 0) dX7_cut_58 rfl ?_
            refine gt_gJ (id := 450) (v := (mJ (sg S) 450 o0)) dX7_cut_59 fl_7_15 rfl rfl h0 hA (sg_J (k := 450) (o := o0) (show sg S = (sg S) from rfl)) ?_
            refine gt_SJp (As := [.long ((mJ (sg S) 448 o0) - y1), .long (mJ (sg S) 450 o0)]) dX7_cut_62 ca_X7_55 ⟨by decide, by decide⟩ hA (Nat.le_of_ble_eq_true rfl) (Nat.le_of_ble_eq_true rfl) (by decide) (cz_J9_floorMod_f86c9 hG (nz_ps9 (lc_le_f q176)) (fun _ _ _ _ h => h)) rfl (fun _ h => nomatch h) (fun _ _ q => q.1) (fun y217 hx219 => ?_)
            obtain rfl : Z_J9_floorMod_f86c9 (((mJ (sg S) 448 o0) - y1)) ((mJ (sg S) 450 o0)) = y217 := ((el_w hx219.2).trans rfl).symm
            refine tt_ladd dX7_cut_65 ?_
            refine tt_goto (tgt := 73) dX7_cut_66 rfl ?_
            refine tt_lstore (ks := [0, 1, 2, 3]) (L' := [(5, .long (y1 + (Z_J9_floorMod_f86c9 (((mJ (sg S) 448 o0) - y1)) ((mJ (sg S) 450 o0))))), (0, .ref o0), (1, .long y1), (3, .long y3)]) dX7_cut_73 (by decide) rfl ?_
            refine tt_lload_n (j := 3) dX7_cut_75 rfl ?_
            refine tt_aload_n (j := 1) dX7_cut_76 rfl ?_
            refine gt_gJ (id := 449) (v := (mJ (sg S) 449 o0)) dX7_cut_77 fl_7_26 rfl rfl h0 hA (sg_J (k := 449) (o := o0) (show sg S = (sg S) from rfl)) ?_
            refine tt_lcmp dX7_cut_80 ?_
            refine tt_if_ge (tgt := 111) dX7_cut_81 rfl (fun q220 => ?_) (fun q220 => ?_)
            · skip
              refine tt_aload_n (j := 1) dX7_cut_111 rfl ?_
              refine gt_gJ (id := 449) (v := (mJ (sg S) 449 o0)) dX7_cut_112 fl_7_26 rfl rfl h0 hA (sg_J (k := 449) (o := o0) (show sg S = (sg S) from rfl)) ?_
              refine tt_lstore (ks := [0, 1, 2, 3, 4]) (L' := [(7, .long (mJ (sg S) 449 o0)), (5, .long (y1 + (Z_J9_floorMod_f86c9 (((mJ (sg S) 448 o0) - y1)) ((mJ (sg S) 450 o0))))), (0, .ref o0), (1, .long y1), (3, .long y3)]) dX7_cut_115 (by decide) rfl ?_
              refine tt_lload (j := 1) dX7_cut_117 rfl ?_
              refine tt_lload (j := 0) dX7_cut_119 rfl ?_
              refine tt_lcmp dX7_cut_121 ?_
              refine tt_if_le (tgt := 132) dX7_cut_122 rfl (fun q221 => ?_) (fun q221 => ?_)
              · skip
                refine tt_aload_n (j := 2) dX7_cut_132 rfl ?_
                refine tt_lload (j := 1) dX7_cut_133 rfl ?_
                refine tt_lload (j := 0) dX7_cut_135 rfl ?_
                refine tt_aload_n (j := 2) dX7_cut_137 rfl ?_
                refine gt_gJ (id := 450) (v := (mJ (sg S) 450 o0)) dX7_cut_138 fl_7_15 rfl rfl h0 hA (sg_J (k := 450) (o := o0) (show sg S = (sg S) from rfl)) ?_
                refine gt_Vv (As := [.long (y1 + (Z_J9_floorMod_f86c9 (((mJ (sg S) 448 o0) - y1)) ((mJ (sg S) 450 o0)))), .long (mJ (sg S) 449 o0), .long (mJ (sg S) 450 o0)]) dX7_cut_141 ca_X7_48 ⟨by decide, by decide⟩ h0 hA rfl (Nat.le_of_ble_eq_true rfl) (Nat.le_of_ble_eq_true rfl) (by decide) (cz_X7_become hG (oa_af h0 hA) hR (fun _ _ _ _ h => h)) rfl (fun _ h => nomatch h) (fun S222 hx226 hG223 hB224 hA225 => ?_)
                obtain ⟨d227, hd228⟩ : ∃ q, Z_X7_become R (sg S) o0 ((y1 + (Z_J9_floorMod_f86c9 (((mJ (sg S) 448 o0) - y1)) ((mJ (sg S) 450 o0))))) ((mJ (sg S) 449 o0)) ((mJ (sg S) 450 o0)) = q := ⟨_, rfl⟩
                have hq229 := (congrArg (fun q9 => Z_X7_become R q9 o0 ((y1 + (Z_J9_floorMod_f86c9 (((mJ (sg S) 448 o0) - y1)) ((mJ (sg S) 450 o0))))) ((mJ (sg S) 449 o0)) ((mJ (sg S) 450 o0))) (show sg S = (sg S) from rfl)).trans hd228
                have hs230 := hx226.trans hq229
                have hF : Z_X7_cut R (sg S) o0 y1 y3 = d227 := by
                  subst hd228
                  exact zl_X7_cut_6 (Int64.not_lt.mpr (lc_ge_t q101)) (Int64.not_lt.mpr (lc_gt_f q102)) (Int64.not_lt.mpr (lc_ge_t q112)) (lc_le_f q113) (lc_le_f q176) (Int64.not_lt.mpr (lc_ge_t q220)) (Int64.not_lt.mpr (lc_le_t q221))
                exact tt_vreturn dX7_cut_144 rfl (hP _ _ _ _ ⟨hG223, hA225, Or.inl ⟨_, rfl, rfl, Eq.trans hs230 hF.symm, rfl, rfl⟩⟩)
              · skip
                refine tt_aload_n (j := 2) dX7_cut_125 rfl ?_
                refine gt_Vv (As := []) dX7_cut_126 ca_X7_52 ⟨by decide, by decide⟩ h0 hA rfl (Nat.le_of_ble_eq_true rfl) (Nat.le_of_ble_eq_true rfl) (by decide) (cz_X7_becomeNone hG (oa_af h0 hA) hR (fun _ _ _ _ h => h)) rfl (fun _ h => nomatch h) (fun S231 hx235 hG232 hB233 hA234 => ?_)
                obtain ⟨d236, hd237⟩ : ∃ q, Z_X7_becomeNone R (sg S) o0 = q := ⟨_, rfl⟩
                have hq238 := (congrArg (fun q9 => Z_X7_becomeNone R q9 o0) (show sg S = (sg S) from rfl)).trans hd237
                have hs239 := hx235.trans hq238
                refine tt_goto (tgt := 144) dX7_cut_129 rfl ?_
                have hF : Z_X7_cut R (sg S) o0 y1 y3 = d236 := by
                  subst hd237
                  exact zl_X7_cut_5 (Int64.not_lt.mpr (lc_ge_t q101)) (Int64.not_lt.mpr (lc_gt_f q102)) (Int64.not_lt.mpr (lc_ge_t q112)) (lc_le_f q113) (lc_le_f q176) (Int64.not_lt.mpr (lc_ge_t q220)) (lc_le_f q221)
                exact tt_vreturn dX7_cut_144 rfl (hP _ _ _ _ ⟨hG232, hA234, Or.inl ⟨_, rfl, rfl, Eq.trans hs239 hF.symm, rfl, rfl⟩⟩)
            · skip
              refine tt_aload_n (j := 1) dX7_cut_84 rfl ?_
              refine gt_gJ (id := 450) (v := (mJ (sg S) 450 o0)) dX7_cut_85 fl_7_15 rfl rfl h0 hA (sg_J (k := 450) (o := o0) (show sg S = (sg S) from rfl)) ?_
              refine tt_lconst (v := 0) dX7_cut_88 rfl ?_
              refine tt_lcmp dX7_cut_89 ?_
              refine tt_if_le (tgt := 111) dX7_cut_90 rfl (fun q240 => ?_) (fun q240 => ?_)
              · exact absurd (lc_le_f q176) (Int64.not_lt.mpr (lc_le_t q240))
              · skip
                refine tt_lload_n (j := 3) dX7_cut_93 rfl ?_
                refine tt_lload_n (j := 3) dX7_cut_94 rfl ?_
                refine tt_aload_n (j := 1) dX7_cut_95 rfl ?_
                refine gt_gJ (id := 449) (v := (mJ (sg S) 449 o0)) dX7_cut_96 fl_7_26 rfl rfl h0 hA (sg_J (k := 449) (o := o0) (show sg S = (sg S) from rfl)) ?_
                refine tt_lsub dX7_cut_99 ?_
                refine tt_aload_n (j := 1) dX7_cut_100 rfl ?_
                refine gt_gJ (id := 450) (v := (mJ (sg S) 450 o0)) dX7_cut_101 fl_7_15 rfl rfl h0 hA (sg_J (k := 450) (o := o0) (show sg S = (sg S) from rfl)) ?_
                refine gt_SJp (As := [.long (y3 - (mJ (sg S) 449 o0)), .long (mJ (sg S) 450 o0)]) dX7_cut_104 ca_X7_55 ⟨by decide, by decide⟩ hA (Nat.le_of_ble_eq_true rfl) (Nat.le_of_ble_eq_true rfl) (by decide) (cz_J9_floorMod_f86c9 hG (nz_ps9 (lc_le_f q176)) (fun _ _ _ _ h => h)) rfl (fun _ h => nomatch h) (fun _ _ q => q.1) (fun y241 hx243 => ?_)
                obtain rfl : Z_J9_floorMod_f86c9 ((y3 - (mJ (sg S) 449 o0))) ((mJ (sg S) 450 o0)) = y241 := ((el_w hx243.2).trans rfl).symm
                refine tt_lsub dX7_cut_107 ?_
                refine tt_goto (tgt := 115) dX7_cut_108 rfl ?_
                refine tt_lstore (ks := [0, 1, 2, 3, 4]) (L' := [(7, .long (y3 - (Z_J9_floorMod_f86c9 ((y3 - (mJ (sg S) 449 o0))) ((mJ (sg S) 450 o0))))), (5, .long (y1 + (Z_J9_floorMod_f86c9 (((mJ (sg S) 448 o0) - y1)) ((mJ (sg S) 450 o0))))), (0, .ref o0), (1, .long y1), (3, .long y3)]) dX7_cut_115 (by decide) rfl ?_
                refine tt_lload (j := 1) dX7_cut_117 rfl ?_
                refine tt_lload (j := 0) dX7_cut_119 rfl ?_
                refine tt_lcmp dX7_cut_121 ?_
                refine tt_if_le (tgt := 132) dX7_cut_122 rfl (fun q244 => ?_) (fun q244 => ?_)
                · skip
                  refine tt_aload_n (j := 2) dX7_cut_132 rfl ?_
                  refine tt_lload (j := 1) dX7_cut_133 rfl ?_
                  refine tt_lload (j := 0) dX7_cut_135 rfl ?_
                  refine tt_aload_n (j := 2) dX7_cut_137 rfl ?_
                  refine gt_gJ (id := 450) (v := (mJ (sg S) 450 o0)) dX7_cut_138 fl_7_15 rfl rfl h0 hA (sg_J (k := 450) (o := o0) (show sg S = (sg S) from rfl)) ?_
                  refine gt_Vv (As := [.long (y1 + (Z_J9_floorMod_f86c9 (((mJ (sg S) 448 o0) - y1)) ((mJ (sg S) 450 o0)))), .long (y3 - (Z_J9_floorMod_f86c9 ((y3 - (mJ (sg S) 449 o0))) ((mJ (sg S) 450 o0)))), .long (mJ (sg S) 450 o0)]) dX7_cut_141 ca_X7_48 ⟨by decide, by decide⟩ h0 hA rfl (Nat.le_of_ble_eq_true rfl) (Nat.le_of_ble_eq_true rfl) (by decide) (cz_X7_become hG (oa_af h0 hA) hR (fun _ _ _ _ h => h)) rfl (fun _ h => nomatch h) (fun S245 hx249 hG246 hB247 hA248 => ?_)
                  obtain ⟨d250, hd251⟩ : ∃ q, Z_X7_become R (sg S) o0 ((y1 + (Z_J9_floorMod_f86c9 (((mJ (sg S) 448 o0) - y1)) ((mJ (sg S) 450 o0))))) ((y3 - (Z_J9_floorMod_f86c9 ((y3 - (mJ (sg S) 449 o0))) ((mJ (sg S) 450 o0))))) ((mJ (sg S) 450 o0)) = q := ⟨_, rfl⟩
                  have hq252 := (congrArg (fun q9 => Z_X7_become R q9 o0 ((y1 + (Z_J9_floorMod_f86c9 (((mJ (sg S) 448 o0) - y1)) ((mJ (sg S) 450 o0))))) ((y3 - (Z_J9_floorMod_f86c9 ((y3 - (mJ (sg S) 449 o0))) ((mJ (sg S) 450 o0))))) ((mJ (sg S) 450 o0))) (show sg S = (sg S) from rfl)).trans hd251
                  have hs253 := hx249.trans hq252
                  have hF : Z_X7_cut R (sg S) o0 y1 y3 = d250 := by
                    subst hd251
                    exact zl_X7_cut_4 (Int64.not_lt.mpr (lc_ge_t q101)) (Int64.not_lt.mpr (lc_gt_f q102)) (Int64.not_lt.mpr (lc_ge_t q112)) (lc_le_f q113) (lc_le_f q176) (lc_ge_f q220) (Int64.not_lt.mpr (lc_le_t q244))
                  exact tt_vreturn dX7_cut_144 rfl (hP _ _ _ _ ⟨hG246, hA248, Or.inl ⟨_, rfl, rfl, Eq.trans hs253 hF.symm, rfl, rfl⟩⟩)
                · skip
                  refine tt_aload_n (j := 2) dX7_cut_125 rfl ?_
                  refine gt_Vv (As := []) dX7_cut_126 ca_X7_52 ⟨by decide, by decide⟩ h0 hA rfl (Nat.le_of_ble_eq_true rfl) (Nat.le_of_ble_eq_true rfl) (by decide) (cz_X7_becomeNone hG (oa_af h0 hA) hR (fun _ _ _ _ h => h)) rfl (fun _ h => nomatch h) (fun S254 hx258 hG255 hB256 hA257 => ?_)
                  obtain ⟨d259, hd260⟩ : ∃ q, Z_X7_becomeNone R (sg S) o0 = q := ⟨_, rfl⟩
                  have hq261 := (congrArg (fun q9 => Z_X7_becomeNone R q9 o0) (show sg S = (sg S) from rfl)).trans hd260
                  have hs262 := hx258.trans hq261
                  refine tt_goto (tgt := 144) dX7_cut_129 rfl ?_
                  have hF : Z_X7_cut R (sg S) o0 y1 y3 = d259 := by
                    subst hd260
                    exact zl_X7_cut_3 (Int64.not_lt.mpr (lc_ge_t q101)) (Int64.not_lt.mpr (lc_gt_f q102)) (Int64.not_lt.mpr (lc_ge_t q112)) (lc_le_f q113) (lc_le_f q176) (lc_ge_f q220) (lc_le_f q244)
                  exact tt_vreturn dX7_cut_144 rfl (hP _ _ _ _ ⟨hG255, hA257, Or.inl ⟨_, rfl, rfl, Eq.trans hs262 hF.symm, rfl, rfl⟩⟩)
      · skip
        refine tt_aload_n (j := 0) dX7_cut_28 rfl ?_
        refine gt_Vv (As := []) dX7_cut_29 ca_X7_52 ⟨by decide, by decide⟩ h0 hA rfl (Nat.le_of_ble_eq_true rfl) (Nat.le_of_ble_eq_true rfl) (by decide) (cz_X7_becomeNone hG (oa_af h0 hA) hR (fun _ _ _ _ h => h)) rfl (fun _ h => nomatch h) (fun S263 hx267 hG264 hB265 hA266 => ?_)
        obtain ⟨d268, hd269⟩ : ∃ q, Z_X7_becomeNone R (sg S) o0 = q := ⟨_, rfl⟩
        have hq270 := (congrArg (fun q9 => Z_X7_becomeNone R q9 o0) (show sg S = (sg S) from rfl)).trans hd269
        have hs271 := hx267.trans hq270
        have hF : Z_X7_cut R (sg S) o0 y1 y3 = d268 := by
          subst hd269
          exact zl_X7_cut_2 (Int64.not_lt.mpr (lc_ge_t q101)) (Int64.not_lt.mpr (lc_gt_f q102)) (lc_ge_f q112)
        exact tt_vreturn dX7_cut_32 rfl (hP _ _ _ _ ⟨hG264, hA266, Or.inl ⟨_, rfl, rfl, Eq.trans hs271 hF.symm, rfl, rfl⟩⟩)
  · skip
    have hF : Z_X7_cut R (sg S) o0 y1 y3 = (sg S) := by
      exact zl_X7_cut_0 (lc_ge_f q101)
    exact tt_vreturn dX7_cut_9 rfl (hP _ _ _ _ ⟨hG, hA, Or.inl ⟨_, rfl, rfl, Eq.trans (show sg S = (sg S) from rfl) hF.symm, rfl, rfl⟩⟩)
def Z_X7_stretchFrom (R : Nat → Nat → Nat) (σ : SG) (o0 : Nat) (o1 : Nat) : SG :=
  if (0 : Int64) < (mJ σ 450 o0) then
    if (mJ σ 448 o0) < (mJ σ 448 o1) then
      if (mJ σ 449 o1) < (mJ σ 449 o0) then
        (uJ (uJ σ 448 o0 ((-2305843009213693952) + (((mJ σ 448 o0) + 2305843009213693952) - ((mJ σ 448 o0) + 2305843009213693952) / (mJ σ 450 o0) * (mJ σ 450 o0)))) 449 o0 (2305843009213693952 - ((2305843009213693952 - (mJ σ 449 o0)) - (2305843009213693952 - (mJ σ 449 o0)) / (mJ σ 450 o0) * (mJ σ 450 o0))))
      else
        (uJ σ 448 o0 ((-2305843009213693952) + (((mJ σ 448 o0) + 2305843009213693952) - ((mJ σ 448 o0) + 2305843009213693952) / (mJ σ 450 o0) * (mJ σ 450 o0))))
    else
      if (mJ σ 449 o1) < (mJ σ 449 o0) then
        (uJ σ 449 o0 (2305843009213693952 - ((2305843009213693952 - (mJ σ 449 o0)) - (2305843009213693952 - (mJ σ 449 o0)) / (mJ σ 450 o0) * (mJ σ 450 o0))))
      else
        σ
  else
    σ
theorem zl_X7_stretchFrom_0 {R : Nat → Nat → Nat} {σ : SG} {o0 : Nat} {o1 : Nat} (h0 : (0 : Int64) < (mJ σ 450 o0)) (h1 : (mJ σ 448 o0) < (mJ σ 448 o1)) (h2 : (mJ σ 449 o1) < (mJ σ 449 o0)) : Z_X7_stretchFrom R σ o0 o1 = (uJ (uJ σ 448 o0 ((-2305843009213693952) + (((mJ σ 448 o0) + 2305843009213693952) - ((mJ σ 448 o0) + 2305843009213693952) / (mJ σ 450 o0) * (mJ σ 450 o0)))) 449 o0 (2305843009213693952 - ((2305843009213693952 - (mJ σ 449 o0)) - (2305843009213693952 - (mJ σ 449 o0)) / (mJ σ 450 o0) * (mJ σ 450 o0)))) := by unfold Z_X7_stretchFrom; exact Eq.trans (if_pos h0) (Eq.trans (if_pos h1) (if_pos h2))
theorem zl_X7_stretchFrom_1 {R : Nat → Nat → Nat} {σ : SG} {o0 : Nat} {o1 : Nat} (h0 : (0 : Int64) < (mJ σ 450 o0)) (h1 : (mJ σ 448 o0) < (mJ σ 448 o1)) (h2 : ¬ (mJ σ 449 o1) < (mJ σ 449 o0)) : Z_X7_stretchFrom R σ o0 o1 = (uJ σ 448 o0 ((-2305843009213693952) + (((mJ σ 448 o0) + 2305843009213693952) - ((mJ σ 448 o0) + 2305843009213693952) / (mJ σ 450 o0) * (mJ σ 450 o0)))) := by unfold Z_X7_stretchFrom; exact Eq.trans (if_pos h0) (Eq.trans (if_pos h1) (if_neg h2))
theorem zl_X7_stretchFrom_2 {R : Nat → Nat → Nat} {σ : SG} {o0 : Nat} {o1 : Nat} (h0 : (0 : Int64) < (mJ σ 450 o0)) (h1 : ¬ (mJ σ 448 o0) < (mJ σ 448 o1)) (h2 : (mJ σ 449 o1) < (mJ σ 449 o0)) : Z_X7_stretchFrom R σ o0 o1 = (uJ σ 449 o0 (2305843009213693952 - ((2305843009213693952 - (mJ σ 449 o0)) - (2305843009213693952 - (mJ σ 449 o0)) / (mJ σ 450 o0) * (mJ σ 450 o0)))) := by unfold Z_X7_stretchFrom; exact Eq.trans (if_pos h0) (Eq.trans (if_neg h1) (if_pos h2))
theorem zl_X7_stretchFrom_3 {R : Nat → Nat → Nat} {σ : SG} {o0 : Nat} {o1 : Nat} (h0 : (0 : Int64) < (mJ σ 450 o0)) (h1 : ¬ (mJ σ 448 o0) < (mJ σ 448 o1)) (h2 : ¬ (mJ σ 449 o1) < (mJ σ 449 o0)) : Z_X7_stretchFrom R σ o0 o1 = σ := by unfold Z_X7_stretchFrom; exact Eq.trans (if_pos h0) (Eq.trans (if_neg h1) (if_neg h2))
theorem zl_X7_stretchFrom_4 {R : Nat → Nat → Nat} {σ : SG} {o0 : Nat} {o1 : Nat} (h0 : ¬ (0 : Int64) < (mJ σ 450 o0)) : Z_X7_stretchFrom R σ o0 o1 = σ := by unfold Z_X7_stretchFrom; exact if_neg h0
set_option maxHeartbeats 40000000 in
theorem cz_X7_stretchFrom {xi : SX} {S : Hp} {E : List Nat} {kc nc : Nat} {P : Po} {o0 : Nat} {o1 : Nat} {R : Nat → Nat → Nat} (hG : GI S E) (h0 : Oa S E 7 0 o0) (h1 : Oa S E 7 0 o1) (hR : RK S R) (hP : ∀ r T x y, PV E [9987] S kc nc rV (fun v T => sg T = Z_X7_stretchFrom R (sg S) o0 o1) [] r T x y → P r T x y) : TT xi M_X7_stretchFrom 0 [(0, .ref o0), (1, .ref o1)] [] S kc nc P := by
  have hA : Af E [9987] S S := af_rf
  refine tt_aload_n (j := 0) dX7_stretchFrom_0 rfl ?_
  refine gt_gJ (id := 450) (v := (mJ (sg S) 450 o0)) dX7_stretchFrom_1 fl_7_15 rfl rfl h0 hA (sg_J (k := 450) (o := o0) (show sg S = (sg S) from rfl)) ?_
  refine tt_lconst (v := 0) dX7_stretchFrom_4 rfl ?_
  refine tt_lcmp dX7_stretchFrom_5 ?_
  refine tt_if_gt (tgt := 10) dX7_stretchFrom_6 rfl (fun q101 => ?_) (fun q101 => ?_)
  · skip
    refine tt_aload_n (j := 0) dX7_stretchFrom_10 rfl ?_
    refine gt_gJ (id := 448) (v := (mJ (sg S) 448 o0)) dX7_stretchFrom_11 fl_7_23 rfl rfl h0 hA (sg_J (k := 448) (o := o0) (show sg S = (sg S) from rfl)) ?_
    refine tt_aload_n (j := 1) dX7_stretchFrom_14 rfl ?_
    refine gt_gJ (id := 448) (v := (mJ (sg S) 448 o1)) dX7_stretchFrom_15 fl_7_23 rfl rfl h1 hA (sg_J (k := 448) (o := o1) (show sg S = (sg S) from rfl)) ?_
    refine tt_lcmp dX7_stretchFrom_18 ?_
    refine tt_if_ge (tgt := 43) dX7_stretchFrom_19 rfl (fun q102 => ?_) (fun q102 => ?_)
    · skip
      refine tt_aload_n (j := 0) dX7_stretchFrom_43 rfl ?_
      refine gt_gJ (id := 449) (v := (mJ (sg S) 449 o0)) dX7_stretchFrom_44 fl_7_26 rfl rfl h0 hA (sg_J (k := 449) (o := o0) (show sg S = (sg S) from rfl)) ?_
      refine tt_aload_n (j := 1) dX7_stretchFrom_47 rfl ?_
      refine gt_gJ (id := 449) (v := (mJ (sg S) 449 o1)) dX7_stretchFrom_48 fl_7_26 rfl rfl h1 hA (sg_J (k := 449) (o := o1) (show sg S = (sg S) from rfl)) ?_
      refine tt_lcmp dX7_stretchFrom_51 ?_
      refine tt_if_le (tgt := 76) dX7_stretchFrom_52 rfl (fun q103 => ?_) (fun q103 => ?_)
      · skip
        have hF : Z_X7_stretchFrom R (sg S) o0 o1 = (sg S) := by
          exact zl_X7_stretchFrom_3 (lc_gt_t q101) (Int64.not_lt.mpr (lc_ge_t q102)) (Int64.not_lt.mpr (lc_le_t q103))
        exact tt_vreturn dX7_stretchFrom_76 rfl (hP _ _ _ _ ⟨hG, hA, Or.inl ⟨_, rfl, rfl, Eq.trans (show sg S = (sg S) from rfl) hF.symm, rfl, rfl⟩⟩)
      · skip
        refine tt_aload_n (j := 0) dX7_stretchFrom_55 rfl ?_
        refine tt_ldc2 (v := 2305843009213693952) dX7_stretchFrom_56 kl_7_13 ?_
        refine tt_ldc2 (v := 2305843009213693952) dX7_stretchFrom_59 kl_7_13 ?_
        refine tt_aload_n (j := 0) dX7_stretchFrom_62 rfl ?_
        refine gt_gJ (id := 449) (v := (mJ (sg S) 449 o0)) dX7_stretchFrom_63 fl_7_26 rfl rfl h0 hA (sg_J (k := 449) (o := o0) (show sg S = (sg S) from rfl)) ?_
        refine tt_lsub dX7_stretchFrom_66 ?_
        refine tt_aload_n (j := 0) dX7_stretchFrom_67 rfl ?_
        refine gt_gJ (id := 450) (v := (mJ (sg S) 450 o0)) dX7_stretchFrom_68 fl_7_15 rfl rfl h0 hA (sg_J (k := 450) (o := o0) (show sg S = (sg S) from rfl)) ?_
        refine tt_lrem dX7_stretchFrom_71 (nz_ps9 (lc_gt_t q101)) ?_
        refine tt_lsub dX7_stretchFrom_72 ?_
        refine gx_pJ (id := 449) (x := (2305843009213693952 - ((2305843009213693952 - (mJ (sg S) 449 o0)) - (2305843009213693952 - (mJ (sg S) 449 o0)) / (mJ (sg S) 450 o0) * (mJ (sg S) 450 o0)))) dX7_stretchFrom_73 fl_7_26 rfl rfl h0 hA rfl rfl rfl hG (show sg S = (sg S) from rfl) (fun S104 hG105 hA106 e107 => ?_)
        have hF : Z_X7_stretchFrom R (sg S) o0 o1 = (uJ (sg S) 449 o0 (2305843009213693952 - ((2305843009213693952 - (mJ (sg S) 449 o0)) - (2305843009213693952 - (mJ (sg S) 449 o0)) / (mJ (sg S) 450 o0) * (mJ (sg S) 450 o0)))) := by
          exact zl_X7_stretchFrom_2 (lc_gt_t q101) (Int64.not_lt.mpr (lc_ge_t q102)) (lc_le_f q103)
        exact tt_vreturn dX7_stretchFrom_76 rfl (hP _ _ _ _ ⟨hG105, hA106, Or.inl ⟨_, rfl, rfl, Eq.trans e107 hF.symm, rfl, rfl⟩⟩)
    · skip
      refine tt_aload_n (j := 0) dX7_stretchFrom_22 rfl ?_
      refine tt_ldc2 (v := (-2305843009213693952)) dX7_stretchFrom_23 kl_7_11 ?_
      refine tt_aload_n (j := 0) dX7_stretchFrom_26 rfl ?_
      refine gt_gJ (id := 448) (v := (mJ (sg S) 448 o0)) dX7_stretchFrom_27 fl_7_23 rfl rfl h0 hA (sg_J (k := 448) (o := o0) (show sg S = (sg S) from rfl)) ?_
      refine tt_ldc2 (v := 2305843009213693952) dX7_stretchFrom_30 kl_7_13 ?_
      refine tt_ladd dX7_stretchFrom_33 ?_
      refine tt_aload_n (j := 0) dX7_stretchFrom_34 rfl ?_
      refine gt_gJ (id := 450) (v := (mJ (sg S) 450 o0)) dX7_stretchFrom_35 fl_7_15 rfl rfl h0 hA (sg_J (k := 450) (o := o0) (show sg S = (sg S) from rfl)) ?_
      refine tt_lrem dX7_stretchFrom_38 (nz_ps9 (lc_gt_t q101)) ?_
      refine tt_ladd dX7_stretchFrom_39 ?_
      refine gx_pJ (id := 448) (x := ((-2305843009213693952) + (((mJ (sg S) 448 o0) + 2305843009213693952) - ((mJ (sg S) 448 o0) + 2305843009213693952) / (mJ (sg S) 450 o0) * (mJ (sg S) 450 o0)))) dX7_stretchFrom_40 fl_7_23 rfl rfl h0 hA rfl rfl rfl hG (show sg S = (sg S) from rfl) (fun S108 hG109 hA110 e111 => ?_)
      refine tt_aload_n (j := 0) dX7_stretchFrom_43 rfl ?_
      refine gt_gJ (id := 449) (v := (mJ (sg S) 449 o0)) dX7_stretchFrom_44 fl_7_26 rfl rfl h0 hA110 ((sg_J (k := 449) (o := o0) e111).trans mJ_ne) ?_
      refine tt_aload_n (j := 1) dX7_stretchFrom_47 rfl ?_
      refine gt_gJ (id := 449) (v := (mJ (sg S) 449 o1)) dX7_stretchFrom_48 fl_7_26 rfl rfl h1 hA110 ((sg_J (k := 449) (o := o1) e111).trans mJ_ne) ?_
      refine tt_lcmp dX7_stretchFrom_51 ?_
      refine tt_if_le (tgt := 76) dX7_stretchFrom_52 rfl (fun q112 => ?_) (fun q112 => ?_)
      · skip
        have hF : Z_X7_stretchFrom R (sg S) o0 o1 = (uJ (sg S) 448 o0 ((-2305843009213693952) + (((mJ (sg S) 448 o0) + 2305843009213693952) - ((mJ (sg S) 448 o0) + 2305843009213693952) / (mJ (sg S) 450 o0) * (mJ (sg S) 450 o0)))) := by
          exact zl_X7_stretchFrom_1 (lc_gt_t q101) (lc_ge_f q102) (Int64.not_lt.mpr (lc_le_t q112))
        exact tt_vreturn dX7_stretchFrom_76 rfl (hP _ _ _ _ ⟨hG109, hA110, Or.inl ⟨_, rfl, rfl, Eq.trans e111 hF.symm, rfl, rfl⟩⟩)
      · skip
        refine tt_aload_n (j := 0) dX7_stretchFrom_55 rfl ?_
        refine tt_ldc2 (v := 2305843009213693952) dX7_stretchFrom_56 kl_7_13 ?_
        refine tt_ldc2 (v := 2305843009213693952) dX7_stretchFrom_59 kl_7_13 ?_
        refine tt_aload_n (j := 0) dX7_stretchFrom_62 rfl ?_
        refine gt_gJ (id := 449) (v := (mJ (sg S) 449 o0)) dX7_stretchFrom_63 fl_7_26 rfl rfl h0 hA110 ((sg_J (k := 449) (o := o0) e111).trans mJ_ne) ?_
        refine tt_lsub dX7_stretchFrom_66 ?_
        refine tt_aload_n (j := 0) dX7_stretchFrom_67 rfl ?_
        refine gt_gJ (id := 450) (v := (mJ (sg S) 450 o0)) dX7_stretchFrom_68 fl_7_15 rfl rfl h0 hA110 ((sg_J (k := 450) (o := o0) e111).trans mJ_ne) ?_
        refine tt_lrem dX7_stretchFrom_71 (nz_ps9 (lc_gt_t q101)) ?_
        refine tt_lsub dX7_stretchFrom_72 ?_
        refine gx_pJ (id := 449) (x := (2305843009213693952 - ((2305843009213693952 - (mJ (sg S) 449 o0)) - (2305843009213693952 - (mJ (sg S) 449 o0)) / (mJ (sg S) 450 o0) * (mJ (sg S) 450 o0)))) dX7_stretchFrom_73 fl_7_26 rfl rfl h0 hA110 rfl rfl rfl hG109 e111 (fun S113 hG114 hA115 e116 => ?_)
        have hF : Z_X7_stretchFrom R (sg S) o0 o1 = (uJ (uJ (sg S) 448 o0 ((-2305843009213693952) + (((mJ (sg S) 448 o0) + 2305843009213693952) - ((mJ (sg S) 448 o0) + 2305843009213693952) / (mJ (sg S) 450 o0) * (mJ (sg S) 450 o0)))) 449 o0 (2305843009213693952 - ((2305843009213693952 - (mJ (sg S) 449 o0)) - (2305843009213693952 - (mJ (sg S) 449 o0)) / (mJ (sg S) 450 o0) * (mJ (sg S) 450 o0)))) := by
          exact zl_X7_stretchFrom_0 (lc_gt_t q101) (lc_ge_f q102) (lc_le_f q112)
        exact tt_vreturn dX7_stretchFrom_76 rfl (hP _ _ _ _ ⟨hG114, hA115, Or.inl ⟨_, rfl, rfl, Eq.trans e116 hF.symm, rfl, rfl⟩⟩)
  · skip
    have hF : Z_X7_stretchFrom R (sg S) o0 o1 = (sg S) := by
      exact zl_X7_stretchFrom_4 (Int64.not_lt.mpr (lc_gt_f q101))
    exact tt_vreturn dX7_stretchFrom_9 rfl (hP _ _ _ _ ⟨hG, hA, Or.inl ⟨_, rfl, rfl, Eq.trans (show sg S = (sg S) from rfl) hF.symm, rfl, rfl⟩⟩)
def Z_X7_holds (R : Nat → Nat → Nat) (σ : SG) (o0 : Nat) (y1 : Int64) : Int32 :=
  if (mJ σ 450 o0) = ((-1) : Int64) then
    1
  else
    if (mJ σ 450 o0) < (0 : Int64) then
      0
    else
      if y1 < (mJ σ 448 o0) then
        0
      else
        if (mJ σ 449 o0) < y1 then
          0
        else
          if (mJ σ 450 o0) = (0 : Int64) then
            1
          else
            if ((y1 - (mJ σ 448 o0)) - (y1 - (mJ σ 448 o0)) / (mJ σ 450 o0) * (mJ σ 450 o0)) = (0 : Int64) then
              1
            else
              0
theorem zl_X7_holds_0 {R : Nat → Nat → Nat} {σ : SG} {o0 : Nat} {y1 : Int64} (h0 : (mJ σ 450 o0) = ((-1) : Int64)) : Z_X7_holds R σ o0 y1 = 1 := by unfold Z_X7_holds; exact if_pos h0
theorem zl_X7_holds_1 {R : Nat → Nat → Nat} {σ : SG} {o0 : Nat} {y1 : Int64} (h0 : ¬ (mJ σ 450 o0) = ((-1) : Int64)) (h1 : (mJ σ 450 o0) < (0 : Int64)) : Z_X7_holds R σ o0 y1 = 0 := by unfold Z_X7_holds; exact Eq.trans (if_neg h0) (if_pos h1)
theorem zl_X7_holds_2 {R : Nat → Nat → Nat} {σ : SG} {o0 : Nat} {y1 : Int64} (h0 : ¬ (mJ σ 450 o0) = ((-1) : Int64)) (h1 : ¬ (mJ σ 450 o0) < (0 : Int64)) (h2 : y1 < (mJ σ 448 o0)) : Z_X7_holds R σ o0 y1 = 0 := by unfold Z_X7_holds; exact Eq.trans (if_neg h0) (Eq.trans (if_neg h1) (if_pos h2))
theorem zl_X7_holds_3 {R : Nat → Nat → Nat} {σ : SG} {o0 : Nat} {y1 : Int64} (h0 : ¬ (mJ σ 450 o0) = ((-1) : Int64)) (h1 : ¬ (mJ σ 450 o0) < (0 : Int64)) (h2 : ¬ y1 < (mJ σ 448 o0)) (h3 : (mJ σ 449 o0) < y1) : Z_X7_holds R σ o0 y1 = 0 := by unfold Z_X7_holds; exact Eq.trans (if_neg h0) (Eq.trans (if_neg h1) (Eq.trans (if_neg h2) (if_pos h3)))
theorem zl_X7_holds_4 {R : Nat → Nat → Nat} {σ : SG} {o0 : Nat} {y1 : Int64} (h0 : ¬ (mJ σ 450 o0) = ((-1) : Int64)) (h1 : ¬ (mJ σ 450 o0) < (0 : Int64)) (h2 : ¬ y1 < (mJ σ 448 o0)) (h3 : ¬ (mJ σ 449 o0) < y1) (h4 : (mJ σ 450 o0) = (0 : Int64)) : Z_X7_holds R σ o0 y1 = 1 := by unfold Z_X7_holds; exact Eq.trans (if_neg h0) (Eq.trans (if_neg h1) (Eq.trans (if_neg h2) (Eq.trans (if_neg h3) (if_pos h4))))
theorem zl_X7_holds_5 {R : Nat → Nat → Nat} {σ : SG} {o0 : Nat} {y1 : Int64} (h0 : ¬ (mJ σ 450 o0) = ((-1) : Int64)) (h1 : ¬ (mJ σ 450 o0) < (0 : Int64)) (h2 : ¬ y1 < (mJ σ 448 o0)) (h3 : ¬ (mJ σ 449 o0) < y1) (h4 : ¬ (mJ σ 450 o0) = (0 : Int64)) (h5 : ((y1 - (mJ σ 448 o0)) - (y1 - (mJ σ 448 o0)) / (mJ σ 450 o0) * (mJ σ 450 o0)) = (0 : Int64)) : Z_X7_holds R σ o0 y1 = 1 := by unfold Z_X7_holds; exact Eq.trans (if_neg h0) (Eq.trans (if_neg h1) (Eq.trans (if_neg h2) (Eq.trans (if_neg h3) (Eq.trans (if_neg h4) (if_pos h5)))))
theorem zl_X7_holds_6 {R : Nat → Nat → Nat} {σ : SG} {o0 : Nat} {y1 : Int64} (h0 : ¬ (mJ σ 450 o0) = ((-1) : Int64)) (h1 : ¬ (mJ σ 450 o0) < (0 : Int64)) (h2 : ¬ y1 < (mJ σ 448 o0)) (h3 : ¬ (mJ σ 449 o0) < y1) (h4 : ¬ (mJ σ 450 o0) = (0 : Int64)) (h5 : ¬ ((y1 - (mJ σ 448 o0)) - (y1 - (mJ σ 448 o0)) / (mJ σ 450 o0) * (mJ σ 450 o0)) = (0 : Int64)) : Z_X7_holds R σ o0 y1 = 0 := by unfold Z_X7_holds; exact Eq.trans (if_neg h0) (Eq.trans (if_neg h1) (Eq.trans (if_neg h2) (Eq.trans (if_neg h3) (Eq.trans (if_neg h4) (if_neg h5)))))
set_option maxHeartbeats 40000000 in
theorem cz_X7_holds {xi : SX} {S : Hp} {E : List Nat} {kc nc : Nat} {P : Po} {o0 : Nat} {y1 : Int64} {R : Nat → Nat → Nat} (hG : GI S E) (h0 : Oa S E 7 0 o0) (hR : RK S R) (hP : ∀ r T x y, PV E [] S kc nc (rI 0 1) (fun v T => T = S ∧ v = some (.int (Z_X7_holds R (sg S) o0 y1))) [] r T x y → P r T x y) : TT xi M_X7_holds 0 [(0, .ref o0), (1, .long y1)] [] S kc nc P := by
  have hA : Af E [] S S := af_rf
  refine tt_aload_n (j := 0) dX7_holds_0 rfl ?_
  refine gt_gJ (id := 450) (v := (mJ (sg S) 450 o0)) dX7_holds_1 fl_7_15 rfl rfl h0 hA (sg_J (k := 450) (o := o0) (show sg S = (sg S) from rfl)) ?_
  refine tt_ldc2 (v := (-1)) dX7_holds_4 kl_7_19 ?_
  refine tt_lcmp dX7_holds_7 ?_
  refine tt_if_ne (tgt := 13) dX7_holds_8 rfl (fun q101 => ?_) (fun q101 => ?_)
  · skip
    refine tt_aload_n (j := 0) dX7_holds_13 rfl ?_
    refine gt_gJ (id := 450) (v := (mJ (sg S) 450 o0)) dX7_holds_14 fl_7_15 rfl rfl h0 hA (sg_J (k := 450) (o := o0) (show sg S = (sg S) from rfl)) ?_
    refine tt_lconst (v := 0) dX7_holds_17 rfl ?_
    refine tt_lcmp dX7_holds_18 ?_
    refine tt_if_lt (tgt := 40) dX7_holds_19 rfl (fun q102 => ?_) (fun q102 => ?_)
    · skip
      refine tt_iconst (v := 0) dX7_holds_40 rfl ?_
      have hF : Z_X7_holds R (sg S) o0 y1 = 0 := by
        exact zl_X7_holds_1 (lc_ne_t q101) (lc_lt_t q102)
      exact tt_ireturn dX7_holds_41 .boolean rfl rfl (hP _ _ _ _ ⟨hG, hA, Or.inl ⟨_, rfl, ⟨_, rfl, rg_w (⟨by decide, by decide⟩ : Rg 0 0 0)⟩, ⟨rfl, congrArg (fun q => some (Value.int q)) hF.symm⟩, rfl, rfl⟩⟩)
    · skip
      refine tt_lload_n (j := 1) dX7_holds_22 rfl ?_
      refine tt_aload_n (j := 0) dX7_holds_23 rfl ?_
      refine gt_gJ (id := 448) (v := (mJ (sg S) 448 o0)) dX7_holds_24 fl_7_23 rfl rfl h0 hA (sg_J (k := 448) (o := o0) (show sg S = (sg S) from rfl)) ?_
      refine tt_lcmp dX7_holds_27 ?_
      refine tt_if_lt (tgt := 40) dX7_holds_28 rfl (fun q103 => ?_) (fun q103 => ?_)
      · skip
        refine tt_iconst (v := 0) dX7_holds_40 rfl ?_
        have hF : Z_X7_holds R (sg S) o0 y1 = 0 := by
          exact zl_X7_holds_2 (lc_ne_t q101) (Int64.not_lt.mpr (lc_lt_f q102)) (lc_lt_t q103)
        exact tt_ireturn dX7_holds_41 .boolean rfl rfl (hP _ _ _ _ ⟨hG, hA, Or.inl ⟨_, rfl, ⟨_, rfl, rg_w (⟨by decide, by decide⟩ : Rg 0 0 0)⟩, ⟨rfl, congrArg (fun q => some (Value.int q)) hF.symm⟩, rfl, rfl⟩⟩)
      · skip
        refine tt_lload_n (j := 1) dX7_holds_31 rfl ?_
        refine tt_aload_n (j := 0) dX7_holds_32 rfl ?_
        refine gt_gJ (id := 449) (v := (mJ (sg S) 449 o0)) dX7_holds_33 fl_7_26 rfl rfl h0 hA (sg_J (k := 449) (o := o0) (show sg S = (sg S) from rfl)) ?_
        refine tt_lcmp dX7_holds_36 ?_
        refine tt_if_le (tgt := 42) dX7_holds_37 rfl (fun q104 => ?_) (fun q104 => ?_)
        · skip
          refine tt_aload_n (j := 0) dX7_holds_42 rfl ?_
          refine gt_gJ (id := 450) (v := (mJ (sg S) 450 o0)) dX7_holds_43 fl_7_15 rfl rfl h0 hA (sg_J (k := 450) (o := o0) (show sg S = (sg S) from rfl)) ?_
          refine tt_lconst (v := 0) dX7_holds_46 rfl ?_
          refine tt_lcmp dX7_holds_47 ?_
          refine tt_if_eq (tgt := 67) dX7_holds_48 rfl (fun q105 => ?_) (fun q105 => ?_)
          · skip
            refine tt_iconst (v := 1) dX7_holds_67 rfl ?_
            refine tt_goto (tgt := 72) dX7_holds_68 rfl ?_
            have hF : Z_X7_holds R (sg S) o0 y1 = 1 := by
              exact zl_X7_holds_4 (lc_ne_t q101) (Int64.not_lt.mpr (lc_lt_f q102)) (Int64.not_lt.mpr (lc_lt_f q103)) (Int64.not_lt.mpr (lc_le_t q104)) (lc_eq_t q105)
            exact tt_ireturn dX7_holds_72 .boolean rfl rfl (hP _ _ _ _ ⟨hG, hA, Or.inl ⟨_, rfl, ⟨_, rfl, rg_w (⟨by decide, by decide⟩ : Rg 1 1 1)⟩, ⟨rfl, congrArg (fun q => some (Value.int q)) hF.symm⟩, rfl, rfl⟩⟩)
          · skip
            refine tt_lload_n (j := 1) dX7_holds_51 rfl ?_
            refine tt_aload_n (j := 0) dX7_holds_52 rfl ?_
            refine gt_gJ (id := 448) (v := (mJ (sg S) 448 o0)) dX7_holds_53 fl_7_23 rfl rfl h0 hA (sg_J (k := 448) (o := o0) (show sg S = (sg S) from rfl)) ?_
            refine tt_lsub dX7_holds_56 ?_
            refine tt_aload_n (j := 0) dX7_holds_57 rfl ?_
            refine gt_gJ (id := 450) (v := (mJ (sg S) 450 o0)) dX7_holds_58 fl_7_15 rfl rfl h0 hA (sg_J (k := 450) (o := o0) (show sg S = (sg S) from rfl)) ?_
            refine tt_lrem dX7_holds_61 (lc_eq_f q105) ?_
            refine tt_lconst (v := 0) dX7_holds_62 rfl ?_
            refine tt_lcmp dX7_holds_63 ?_
            refine tt_if_ne (tgt := 71) dX7_holds_64 rfl (fun q106 => ?_) (fun q106 => ?_)
            · skip
              refine tt_iconst (v := 0) dX7_holds_71 rfl ?_
              have hF : Z_X7_holds R (sg S) o0 y1 = 0 := by
                exact zl_X7_holds_6 (lc_ne_t q101) (Int64.not_lt.mpr (lc_lt_f q102)) (Int64.not_lt.mpr (lc_lt_f q103)) (Int64.not_lt.mpr (lc_le_t q104)) (lc_eq_f q105) (lc_ne_t q106)
              exact tt_ireturn dX7_holds_72 .boolean rfl rfl (hP _ _ _ _ ⟨hG, hA, Or.inl ⟨_, rfl, ⟨_, rfl, rg_w (⟨by decide, by decide⟩ : Rg 0 0 0)⟩, ⟨rfl, congrArg (fun q => some (Value.int q)) hF.symm⟩, rfl, rfl⟩⟩)
            · skip
              refine tt_iconst (v := 1) dX7_holds_67 rfl ?_
              refine tt_goto (tgt := 72) dX7_holds_68 rfl ?_
              have hF : Z_X7_holds R (sg S) o0 y1 = 1 := by
                exact zl_X7_holds_5 (lc_ne_t q101) (Int64.not_lt.mpr (lc_lt_f q102)) (Int64.not_lt.mpr (lc_lt_f q103)) (Int64.not_lt.mpr (lc_le_t q104)) (lc_eq_f q105) (lc_ne_f q106)
              exact tt_ireturn dX7_holds_72 .boolean rfl rfl (hP _ _ _ _ ⟨hG, hA, Or.inl ⟨_, rfl, ⟨_, rfl, rg_w (⟨by decide, by decide⟩ : Rg 1 1 1)⟩, ⟨rfl, congrArg (fun q => some (Value.int q)) hF.symm⟩, rfl, rfl⟩⟩)
        · skip
          refine tt_iconst (v := 0) dX7_holds_40 rfl ?_
          have hF : Z_X7_holds R (sg S) o0 y1 = 0 := by
            exact zl_X7_holds_3 (lc_ne_t q101) (Int64.not_lt.mpr (lc_lt_f q102)) (Int64.not_lt.mpr (lc_lt_f q103)) (lc_le_f q104)
          exact tt_ireturn dX7_holds_41 .boolean rfl rfl (hP _ _ _ _ ⟨hG, hA, Or.inl ⟨_, rfl, ⟨_, rfl, rg_w (⟨by decide, by decide⟩ : Rg 0 0 0)⟩, ⟨rfl, congrArg (fun q => some (Value.int q)) hF.symm⟩, rfl, rfl⟩⟩)
  · skip
    refine tt_iconst (v := 1) dX7_holds_11 rfl ?_
    have hF : Z_X7_holds R (sg S) o0 y1 = 1 := by
      exact zl_X7_holds_0 (lc_ne_f q101)
    exact tt_ireturn dX7_holds_12 .boolean rfl rfl (hP _ _ _ _ ⟨hG, hA, Or.inl ⟨_, rfl, ⟨_, rfl, rg_w (⟨by decide, by decide⟩ : Rg 1 1 1)⟩, ⟨rfl, congrArg (fun q => some (Value.int q)) hF.symm⟩, rfl, rfl⟩⟩)
def Z_X7_isTriple  (y0 : Int64) (y2 : Int64) (y4 : Int64) : Int32 :=
  if y2 < y0 then
    0
  else
    if y0 < ((-2305843009213693952) : Int64) then
      0
    else
      if (2305843009213693952 : Int64) < y2 then
        0
      else
        if y0 = y2 then
          if y4 = (0 : Int64) then
            1
          else
            0
        else
          if (0 : Int64) < y4 then
            if ((y2 - y0) - (y2 - y0) / y4 * y4) = (0 : Int64) then
              1
            else
              0
          else
            0
theorem zl_X7_isTriple_0  {y0 : Int64} {y2 : Int64} {y4 : Int64} (h0 : y2 < y0) : Z_X7_isTriple y0 y2 y4 = 0 := by unfold Z_X7_isTriple; exact if_pos h0
theorem zl_X7_isTriple_1  {y0 : Int64} {y2 : Int64} {y4 : Int64} (h0 : ¬ y2 < y0) (h1 : y0 < ((-2305843009213693952) : Int64)) : Z_X7_isTriple y0 y2 y4 = 0 := by unfold Z_X7_isTriple; exact Eq.trans (if_neg h0) (if_pos h1)
theorem zl_X7_isTriple_2  {y0 : Int64} {y2 : Int64} {y4 : Int64} (h0 : ¬ y2 < y0) (h1 : ¬ y0 < ((-2305843009213693952) : Int64)) (h2 : (2305843009213693952 : Int64) < y2) : Z_X7_isTriple y0 y2 y4 = 0 := by unfold Z_X7_isTriple; exact Eq.trans (if_neg h0) (Eq.trans (if_neg h1) (if_pos h2))
theorem zl_X7_isTriple_3  {y0 : Int64} {y2 : Int64} {y4 : Int64} (h0 : ¬ y2 < y0) (h1 : ¬ y0 < ((-2305843009213693952) : Int64)) (h2 : ¬ (2305843009213693952 : Int64) < y2) (h3 : y0 = y2) (h4 : y4 = (0 : Int64)) : Z_X7_isTriple y0 y2 y4 = 1 := by unfold Z_X7_isTriple; exact Eq.trans (if_neg h0) (Eq.trans (if_neg h1) (Eq.trans (if_neg h2) (Eq.trans (if_pos h3) (if_pos h4))))
theorem zl_X7_isTriple_4  {y0 : Int64} {y2 : Int64} {y4 : Int64} (h0 : ¬ y2 < y0) (h1 : ¬ y0 < ((-2305843009213693952) : Int64)) (h2 : ¬ (2305843009213693952 : Int64) < y2) (h3 : y0 = y2) (h4 : ¬ y4 = (0 : Int64)) : Z_X7_isTriple y0 y2 y4 = 0 := by unfold Z_X7_isTriple; exact Eq.trans (if_neg h0) (Eq.trans (if_neg h1) (Eq.trans (if_neg h2) (Eq.trans (if_pos h3) (if_neg h4))))
theorem zl_X7_isTriple_5  {y0 : Int64} {y2 : Int64} {y4 : Int64} (h0 : ¬ y2 < y0) (h1 : ¬ y0 < ((-2305843009213693952) : Int64)) (h2 : ¬ (2305843009213693952 : Int64) < y2) (h3 : ¬ y0 = y2) (h4 : (0 : Int64) < y4) (h5 : ((y2 - y0) - (y2 - y0) / y4 * y4) = (0 : Int64)) : Z_X7_isTriple y0 y2 y4 = 1 := by unfold Z_X7_isTriple; exact Eq.trans (if_neg h0) (Eq.trans (if_neg h1) (Eq.trans (if_neg h2) (Eq.trans (if_neg h3) (Eq.trans (if_pos h4) (if_pos h5)))))
theorem zl_X7_isTriple_6  {y0 : Int64} {y2 : Int64} {y4 : Int64} (h0 : ¬ y2 < y0) (h1 : ¬ y0 < ((-2305843009213693952) : Int64)) (h2 : ¬ (2305843009213693952 : Int64) < y2) (h3 : ¬ y0 = y2) (h4 : (0 : Int64) < y4) (h5 : ¬ ((y2 - y0) - (y2 - y0) / y4 * y4) = (0 : Int64)) : Z_X7_isTriple y0 y2 y4 = 0 := by unfold Z_X7_isTriple; exact Eq.trans (if_neg h0) (Eq.trans (if_neg h1) (Eq.trans (if_neg h2) (Eq.trans (if_neg h3) (Eq.trans (if_pos h4) (if_neg h5)))))
theorem zl_X7_isTriple_7  {y0 : Int64} {y2 : Int64} {y4 : Int64} (h0 : ¬ y2 < y0) (h1 : ¬ y0 < ((-2305843009213693952) : Int64)) (h2 : ¬ (2305843009213693952 : Int64) < y2) (h3 : ¬ y0 = y2) (h4 : ¬ (0 : Int64) < y4) : Z_X7_isTriple y0 y2 y4 = 0 := by unfold Z_X7_isTriple; exact Eq.trans (if_neg h0) (Eq.trans (if_neg h1) (Eq.trans (if_neg h2) (Eq.trans (if_neg h3) (if_neg h4))))
set_option maxHeartbeats 40000000 in
theorem cz_X7_isTriple {xi : SX} {S : Hp} {E : List Nat} {kc nc : Nat} {P : Po} {y0 : Int64} {y2 : Int64} {y4 : Int64} (hG : GI S E)  (hP : ∀ r T x y, PV E [] S kc nc (rI 0 1) (fun v T => T = S ∧ v = some (.int (Z_X7_isTriple y0 y2 y4))) [] r T x y → P r T x y) : TT xi M_X7_isTriple 0 [(0, .long y0), (2, .long y2), (4, .long y4)] [] S kc nc P := by
  have hA : Af E [] S S := af_rf
  refine tt_lload_n (j := 0) dX7_isTriple_0 rfl ?_
  refine tt_lload_n (j := 1) dX7_isTriple_1 rfl ?_
  refine tt_lcmp dX7_isTriple_2 ?_
  refine tt_if_gt (tgt := 22) dX7_isTriple_3 rfl (fun q101 => ?_) (fun q101 => ?_)
  · skip
    refine tt_iconst (v := 0) dX7_isTriple_22 rfl ?_
    have hF : Z_X7_isTriple y0 y2 y4 = 0 := by
      exact zl_X7_isTriple_0 (lc_gt_t q101)
    exact tt_ireturn dX7_isTriple_23 .boolean rfl rfl (hP _ _ _ _ ⟨hG, hA, Or.inl ⟨_, rfl, ⟨_, rfl, rg_w (⟨by decide, by decide⟩ : Rg 0 0 0)⟩, ⟨rfl, congrArg (fun q => some (Value.int q)) hF.symm⟩, rfl, rfl⟩⟩)
  · skip
    refine tt_lload_n (j := 0) dX7_isTriple_6 rfl ?_
    refine tt_ldc2 (v := (-2305843009213693952)) dX7_isTriple_7 kl_7_11 ?_
    refine tt_lcmp dX7_isTriple_10 ?_
    refine tt_if_lt (tgt := 22) dX7_isTriple_11 rfl (fun q102 => ?_) (fun q102 => ?_)
    · skip
      refine tt_iconst (v := 0) dX7_isTriple_22 rfl ?_
      have hF : Z_X7_isTriple y0 y2 y4 = 0 := by
        exact zl_X7_isTriple_1 (Int64.not_lt.mpr (lc_gt_f q101)) (lc_lt_t q102)
      exact tt_ireturn dX7_isTriple_23 .boolean rfl rfl (hP _ _ _ _ ⟨hG, hA, Or.inl ⟨_, rfl, ⟨_, rfl, rg_w (⟨by decide, by decide⟩ : Rg 0 0 0)⟩, ⟨rfl, congrArg (fun q => some (Value.int q)) hF.symm⟩, rfl, rfl⟩⟩)
    · skip
      refine tt_lload_n (j := 1) dX7_isTriple_14 rfl ?_
      refine tt_ldc2 (v := 2305843009213693952) dX7_isTriple_15 kl_7_13 ?_
      refine tt_lcmp dX7_isTriple_18 ?_
      refine tt_if_le (tgt := 24) dX7_isTriple_19 rfl (fun q103 => ?_) (fun q103 => ?_)
      · skip
        refine tt_lload_n (j := 0) dX7_isTriple_24 rfl ?_
        refine tt_lload_n (j := 1) dX7_isTriple_25 rfl ?_
        refine tt_lcmp dX7_isTriple_26 ?_
        refine tt_if_ne (tgt := 43) dX7_isTriple_27 rfl (fun q104 => ?_) (fun q104 => ?_)
        · skip
          refine tt_lload (j := 2) dX7_isTriple_43 rfl ?_
          refine tt_lconst (v := 0) dX7_isTriple_45 rfl ?_
          refine tt_lcmp dX7_isTriple_46 ?_
          refine tt_if_le (tgt := 65) dX7_isTriple_47 rfl (fun q105 => ?_) (fun q105 => ?_)
          · skip
            refine tt_iconst (v := 0) dX7_isTriple_65 rfl ?_
            have hF : Z_X7_isTriple y0 y2 y4 = 0 := by
              exact zl_X7_isTriple_7 (Int64.not_lt.mpr (lc_gt_f q101)) (Int64.not_lt.mpr (lc_lt_f q102)) (Int64.not_lt.mpr (lc_le_t q103)) (lc_ne_t q104) (Int64.not_lt.mpr (lc_le_t q105))
            exact tt_ireturn dX7_isTriple_66 .boolean rfl rfl (hP _ _ _ _ ⟨hG, hA, Or.inl ⟨_, rfl, ⟨_, rfl, rg_w (⟨by decide, by decide⟩ : Rg 0 0 0)⟩, ⟨rfl, congrArg (fun q => some (Value.int q)) hF.symm⟩, rfl, rfl⟩⟩)
          · skip
            refine tt_lload_n (j := 1) dX7_isTriple_50 rfl ?_
            refine tt_lload_n (j := 0) dX7_isTriple_51 rfl ?_
            refine tt_lsub dX7_isTriple_52 ?_
            refine tt_lload (j := 2) dX7_isTriple_53 rfl ?_
            refine tt_lrem dX7_isTriple_55 (nz_ps9 (lc_le_f q105)) ?_
            refine tt_lconst (v := 0) dX7_isTriple_56 rfl ?_
            refine tt_lcmp dX7_isTriple_57 ?_
            refine tt_if_ne (tgt := 65) dX7_isTriple_58 rfl (fun q106 => ?_) (fun q106 => ?_)
            · skip
              refine tt_iconst (v := 0) dX7_isTriple_65 rfl ?_
              have hF : Z_X7_isTriple y0 y2 y4 = 0 := by
                exact zl_X7_isTriple_6 (Int64.not_lt.mpr (lc_gt_f q101)) (Int64.not_lt.mpr (lc_lt_f q102)) (Int64.not_lt.mpr (lc_le_t q103)) (lc_ne_t q104) (lc_le_f q105) (lc_ne_t q106)
              exact tt_ireturn dX7_isTriple_66 .boolean rfl rfl (hP _ _ _ _ ⟨hG, hA, Or.inl ⟨_, rfl, ⟨_, rfl, rg_w (⟨by decide, by decide⟩ : Rg 0 0 0)⟩, ⟨rfl, congrArg (fun q => some (Value.int q)) hF.symm⟩, rfl, rfl⟩⟩)
            · skip
              refine tt_iconst (v := 1) dX7_isTriple_61 rfl ?_
              refine tt_goto (tgt := 66) dX7_isTriple_62 rfl ?_
              have hF : Z_X7_isTriple y0 y2 y4 = 1 := by
                exact zl_X7_isTriple_5 (Int64.not_lt.mpr (lc_gt_f q101)) (Int64.not_lt.mpr (lc_lt_f q102)) (Int64.not_lt.mpr (lc_le_t q103)) (lc_ne_t q104) (lc_le_f q105) (lc_ne_f q106)
              exact tt_ireturn dX7_isTriple_66 .boolean rfl rfl (hP _ _ _ _ ⟨hG, hA, Or.inl ⟨_, rfl, ⟨_, rfl, rg_w (⟨by decide, by decide⟩ : Rg 1 1 1)⟩, ⟨rfl, congrArg (fun q => some (Value.int q)) hF.symm⟩, rfl, rfl⟩⟩)
        · skip
          refine tt_lload (j := 2) dX7_isTriple_30 rfl ?_
          refine tt_lconst (v := 0) dX7_isTriple_32 rfl ?_
          refine tt_lcmp dX7_isTriple_33 ?_
          refine tt_if_ne (tgt := 41) dX7_isTriple_34 rfl (fun q107 => ?_) (fun q107 => ?_)
          · skip
            refine tt_iconst (v := 0) dX7_isTriple_41 rfl ?_
            have hF : Z_X7_isTriple y0 y2 y4 = 0 := by
              exact zl_X7_isTriple_4 (Int64.not_lt.mpr (lc_gt_f q101)) (Int64.not_lt.mpr (lc_lt_f q102)) (Int64.not_lt.mpr (lc_le_t q103)) (lc_ne_f q104) (lc_ne_t q107)
            exact tt_ireturn dX7_isTriple_42 .boolean rfl rfl (hP _ _ _ _ ⟨hG, hA, Or.inl ⟨_, rfl, ⟨_, rfl, rg_w (⟨by decide, by decide⟩ : Rg 0 0 0)⟩, ⟨rfl, congrArg (fun q => some (Value.int q)) hF.symm⟩, rfl, rfl⟩⟩)
          · skip
            refine tt_iconst (v := 1) dX7_isTriple_37 rfl ?_
            refine tt_goto (tgt := 42) dX7_isTriple_38 rfl ?_
            have hF : Z_X7_isTriple y0 y2 y4 = 1 := by
              exact zl_X7_isTriple_3 (Int64.not_lt.mpr (lc_gt_f q101)) (Int64.not_lt.mpr (lc_lt_f q102)) (Int64.not_lt.mpr (lc_le_t q103)) (lc_ne_f q104) (lc_ne_f q107)
            exact tt_ireturn dX7_isTriple_42 .boolean rfl rfl (hP _ _ _ _ ⟨hG, hA, Or.inl ⟨_, rfl, ⟨_, rfl, rg_w (⟨by decide, by decide⟩ : Rg 1 1 1)⟩, ⟨rfl, congrArg (fun q => some (Value.int q)) hF.symm⟩, rfl, rfl⟩⟩)
      · skip
        refine tt_iconst (v := 0) dX7_isTriple_22 rfl ?_
        have hF : Z_X7_isTriple y0 y2 y4 = 0 := by
          exact zl_X7_isTriple_2 (Int64.not_lt.mpr (lc_gt_f q101)) (Int64.not_lt.mpr (lc_lt_f q102)) (lc_le_f q103)
        exact tt_ireturn dX7_isTriple_23 .boolean rfl rfl (hP _ _ _ _ ⟨hG, hA, Or.inl ⟨_, rfl, ⟨_, rfl, rg_w (⟨by decide, by decide⟩ : Rg 0 0 0)⟩, ⟨rfl, congrArg (fun q => some (Value.int q)) hF.symm⟩, rfl, rfl⟩⟩)
def Z_X7_gcd (a b : Int64) : Int64 := gL 128 (aJ a) (aJ b)
theorem lp_g7 {xi : SX} {S : Hp} {kc nc : Nat} {P : Po} : ∀ (n : Nat) (i : Int32) (x y : Int64), i.toInt = 128 - (n : Int) → n ≤ 128 → P (.inl (some (.long (gL n x y)))) S kc nc → TT xi M_X7_gcd 31 [(8, .int i), (4, .long x), (6, .long y)] [] S kc nc P := by
  intro n
  induction n with
  | zero =>
    intro i x y hi hn hP
    refine tt_iload (j := 0) dX7_gcd_31 rfl ?_
    refine tt_sipush (v := 128) dX7_gcd_33 rfl ?_
    refine tt_icmp_ge (tgt := 67) dX7_gcd_36 rfl (fun _ => ?_) (fun q => absurd (Int32.le_iff_toInt_le.mpr (by rw [hi]; decide)) q)
    refine tt_lload (j := 1) dX7_gcd_67 rfl ?_
    exact tt_lreturn dX7_gcd_69 rfl hP
  | succ n ih =>
    intro i x y hi hn hP
    have e128 : (128 : Int32).toInt = 128 := rfl
    refine tt_iload (j := 0) dX7_gcd_31 rfl ?_
    refine tt_sipush (v := 128) dX7_gcd_33 rfl ?_
    refine tt_icmp_ge (tgt := 67) dX7_gcd_36 rfl (fun q => absurd (Int32.le_iff_toInt_le.mp q) (by rw [e128]; omega)) (fun _ => ?_)
    refine tt_lload (j := 2) dX7_gcd_39 rfl ?_
    refine tt_lconst (v := 0) dX7_gcd_41 (by decide) ?_
    refine tt_lcmp dX7_gcd_42 ?_
    refine tt_if_eq (tgt := 67) dX7_gcd_43 (by decide) (fun q => ?_) (fun q => ?_)
    · rw [lg_cmp_eq] at q
      subst q
      refine tt_lload (j := 1) dX7_gcd_67 rfl ?_
      refine tt_lreturn dX7_gcd_69 rfl ?_
      rw [gL_0] at hP
      exact hP
    · rw [lg_cmp_eq] at q
      refine tt_lload (j := 1) dX7_gcd_46 rfl ?_
      refine tt_lload (j := 2) dX7_gcd_48 rfl ?_
      refine tt_lrem dX7_gcd_50 q ?_
      refine tt_lstore (ks := [0, 1, 2, 3]) dX7_gcd_51 (by decide) rfl ?_
      refine tt_lload (j := 3) dX7_gcd_53 rfl ?_
      refine tt_lstore (ks := [0, 1, 2, 3]) dX7_gcd_55 (by decide) rfl ?_
      refine tt_lload (j := 1) dX7_gcd_57 rfl ?_
      refine tt_lstore (ks := [3, 1, 0]) dX7_gcd_59 (by decide) rfl ?_
      refine tt_iinc (j := 0) (v := (i + 1)) (ks := [0, 1, 2]) (L' := [(8, .int (i + 1)), (4, .long y), (6, .long (x - x / y * y))]) dX7_gcd_61 rfl rfl (by decide) rfl ?_
      refine tt_goto (tgt := 31) dX7_gcd_64 (by decide) ?_
      refine ih (i + 1) y _ ?_ (by omega) ?_
      · rw [Int32.toInt_add, show (1 : Int32).toInt = 1 from rfl, bmod_in (by omega) (by omega)]
        omega
      · simp only [gL, q, if_false] at hP
        exact hP
set_option maxHeartbeats 4000000 in
theorem cz_X7_gcd {xi : SX} {S : Hp} {E : List Nat} {kc nc : Nat} {P : Po} {a b : Int64} (hG : GI S E) (hP0 : ∀ r T x y, PV E [] S kc nc rJ (fun v T => T = S ∧ v = some (.long (Z_X7_gcd a b))) [] r T x y → P r T x y) : TT xi M_X7_gcd 0 [(0, .long a), (2, .long b)] [] S kc nc P := by
  have hP : P (.inl (some (.long (Z_X7_gcd a b)))) S kc nc := hP0 _ _ _ _ ⟨hG, af_rf, Or.inl ⟨_, rfl, ⟨_, rfl⟩, ⟨rfl, rfl⟩, rfl, rfl⟩⟩
  suffices hm1 : ∀ z1 : Int64, z1 = (if a < 0 then (-a) else a) → TT xi M_X7_gcd 12 [(0, .long a), (2, .long b)] [.long z1] S kc nc P by
    refine tt_lload_n (j := 0) dX7_gcd_0 rfl ?_
    refine tt_lconst (v := 0) dX7_gcd_1 (by decide) ?_
    refine tt_lcmp dX7_gcd_2 ?_
    refine tt_if_ge (tgt := 11) dX7_gcd_3 (by decide) (fun q => ?_) (fun q => ?_)
    · replace q : (a < 0) = False := by simpa [lg_cmp_ge, ← Int64.not_lt] using q
      refine tt_lload_n (j := 0) dX7_gcd_11 rfl ?_
      exact hm1 _ (by simp only [q, ↓reduceIte])
    · replace q : (a < 0) = True := by simpa [lg_cmp_ge, ← Int64.not_lt] using q
      refine tt_lload_n (j := 0) dX7_gcd_6 rfl ?_
      refine tt_lneg dX7_gcd_7 ?_
      refine tt_goto (tgt := 12) dX7_gcd_8 (by decide) ?_
      exact hm1 _ (by simp only [q, ↓reduceIte])
  intro z1 hz1
  refine tt_lstore (ks := [0, 1, 2]) dX7_gcd_12 (by decide) rfl ?_
  suffices hm2 : ∀ z2 : Int64, z2 = (if b < 0 then (-b) else b) → TT xi M_X7_gcd 26 [(4, .long z1), (0, .long a), (2, .long b)] [.long z2] S kc nc P by
    refine tt_lload_n (j := 2) dX7_gcd_14 rfl ?_
    refine tt_lconst (v := 0) dX7_gcd_15 (by decide) ?_
    refine tt_lcmp dX7_gcd_16 ?_
    refine tt_if_ge (tgt := 25) dX7_gcd_17 (by decide) (fun q => ?_) (fun q => ?_)
    · replace q : (b < 0) = False := by simpa [lg_cmp_ge, ← Int64.not_lt] using q
      refine tt_lload_n (j := 2) dX7_gcd_25 rfl ?_
      exact hm2 _ (by simp only [q, ↓reduceIte])
    · replace q : (b < 0) = True := by simpa [lg_cmp_ge, ← Int64.not_lt] using q
      refine tt_lload_n (j := 2) dX7_gcd_20 rfl ?_
      refine tt_lneg dX7_gcd_21 ?_
      refine tt_goto (tgt := 26) dX7_gcd_22 (by decide) ?_
      exact hm2 _ (by simp only [q, ↓reduceIte])
  intro z2 hz2
  refine tt_lstore (ks := [1, 0]) dX7_gcd_26 (by decide) rfl ?_
  refine tt_iconst (v := 0) dX7_gcd_28 rfl ?_
  refine tt_istore (ks := [0, 1, 2]) (L' := [(8, .int 0), (4, .long z1), (6, .long z2)]) dX7_gcd_29 (by decide) rfl ?_
  refine lp_g7 128 0 z1 z2 rfl (by decide) ?_
  subst hz1 hz2
  exact hP
def Z_X7_join (R : Nat → Nat → Nat) (σ : SG) (o0 : Nat) (o1 : Nat) (o2 : Nat) : SG :=
  if (Z_X7_isAny R σ o1) = 0 then
    if (Z_X7_isAny R σ o2) = 0 then
      let d138 := Z_X7_become R σ o0 ((Z_J9_min_f86c9 ((mJ σ 448 o1)) ((mJ σ 448 o2)))) ((Z_J9_max_f86c9 ((mJ σ 449 o1)) ((mJ σ 449 o2)))) ((Z_X7_gcd ((Z_X7_gcd ((mJ σ 450 o1)) ((mJ σ 450 o2)))) (((mJ σ 448 o1) - (mJ σ 448 o2)))))
      d138
    else
      let d148 := Z_X7_becomeAny R σ o0
      d148
  else
    let d111 := Z_X7_becomeAny R σ o0
    d111
theorem zl_X7_join_0 {R : Nat → Nat → Nat} {σ : SG} {o0 : Nat} {o1 : Nat} {o2 : Nat} (h0 : (Z_X7_isAny R σ o1) = 0) (h1 : (Z_X7_isAny R σ o2) = 0) : Z_X7_join R σ o0 o1 o2 = (Z_X7_become R σ o0 ((Z_J9_min_f86c9 ((mJ σ 448 o1)) ((mJ σ 448 o2)))) ((Z_J9_max_f86c9 ((mJ σ 449 o1)) ((mJ σ 449 o2)))) ((Z_X7_gcd ((Z_X7_gcd ((mJ σ 450 o1)) ((mJ σ 450 o2)))) (((mJ σ 448 o1) - (mJ σ 448 o2)))))) := by unfold Z_X7_join; exact Eq.trans (if_pos h0) (if_pos h1)
theorem zl_X7_join_1 {R : Nat → Nat → Nat} {σ : SG} {o0 : Nat} {o1 : Nat} {o2 : Nat} (h0 : (Z_X7_isAny R σ o1) = 0) (h1 : ¬ (Z_X7_isAny R σ o2) = 0) : Z_X7_join R σ o0 o1 o2 = (Z_X7_becomeAny R σ o0) := by unfold Z_X7_join; exact Eq.trans (if_pos h0) (if_neg h1)
theorem zl_X7_join_2 {R : Nat → Nat → Nat} {σ : SG} {o0 : Nat} {o1 : Nat} {o2 : Nat} (h0 : ¬ (Z_X7_isAny R σ o1) = 0) : Z_X7_join R σ o0 o1 o2 = (Z_X7_becomeAny R σ o0) := by unfold Z_X7_join; exact if_neg h0
set_option maxHeartbeats 40000000 in
theorem cz_X7_join {xi : SX} {S : Hp} {E : List Nat} {kc nc : Nat} {P : Po} {o0 : Nat} {o1 : Nat} {o2 : Nat} {R : Nat → Nat → Nat} (hG : GI S E) (h0 : Oa S E 7 0 o0) (h1 : Oa S E 7 0 o1) (h2 : Oa S E 7 0 o2) (hR : RK S R) (hP : ∀ r T x y, PV E [9987] S kc nc rV (fun v T => sg T = Z_X7_join R (sg S) o0 o1 o2) [] r T x y → P r T x y) : TT xi M_X7_join 0 [(0, .ref o0), (1, .ref o1), (2, .ref o2)] [] S kc nc P := by
  have hA : Af E [9987] S S := af_rf
  refine tt_aload_n (j := 1) dX7_join_0 rfl ?_
  refine gt_VIp (As := []) dX7_join_1 ca_X7_29 ⟨by decide, by decide⟩ h1 hA rfl (Nat.le_of_ble_eq_true rfl) (Nat.le_of_ble_eq_true rfl) (by decide) (cz_X7_isAny hG (oa_af h1 hA) hR (fun _ _ _ _ h => h)) rfl (fun _ h => nomatch h) (fun _ _ q => q.1) (fun x101 h102 hx103 => ?_)
  obtain rfl : Z_X7_isAny R (sg S) o1 = x101 := ((ei_w hx103.2).trans (congrArg (fun q9 => Z_X7_isAny R q9 o1) (show sg S = (sg S) from rfl))).symm
  refine tt_if_ne (tgt := 14) dX7_join_4 rfl (fun q104 => ?_) (fun q104 => ?_)
  · skip
    have h105 : Rg 1 1 (Z_X7_isAny R (sg S) o1) := rg_ne_lo h102 (⟨by decide, by decide⟩ : Rg 0 0 0) q104
    refine tt_aload_n (j := 0) dX7_join_14 rfl ?_
    refine gt_Vv (As := []) dX7_join_15 ca_X7_33 ⟨by decide, by decide⟩ h0 hA rfl (Nat.le_of_ble_eq_true rfl) (Nat.le_of_ble_eq_true rfl) (by decide) (cz_X7_becomeAny hG (oa_af h0 hA) hR (fun _ _ _ _ h => h)) rfl (fun _ h => nomatch h) (fun S106 hx110 hG107 hB108 hA109 => ?_)
    obtain ⟨d111, hd112⟩ : ∃ q, Z_X7_becomeAny R (sg S) o0 = q := ⟨_, rfl⟩
    have hq113 := (congrArg (fun q9 => Z_X7_becomeAny R q9 o0) (show sg S = (sg S) from rfl)).trans hd112
    have hs114 := hx110.trans hq113
    have hF : Z_X7_join R (sg S) o0 o1 o2 = d111 := by
      subst hd112
      exact zl_X7_join_2 q104
    exact tt_vreturn dX7_join_18 rfl (hP _ _ _ _ ⟨hG107, hA109, Or.inl ⟨_, rfl, rfl, Eq.trans hs114 hF.symm, rfl, rfl⟩⟩)
  · skip
    have h115 : Rg 0 0 (Z_X7_isAny R (sg S) o1) := rg_eq_l h102 (⟨by decide, by decide⟩ : Rg 0 0 0) q104
    refine tt_aload_n (j := 2) dX7_join_7 rfl ?_
    refine gt_VIp (As := []) dX7_join_8 ca_X7_29 ⟨by decide, by decide⟩ h2 hA rfl (Nat.le_of_ble_eq_true rfl) (Nat.le_of_ble_eq_true rfl) (by decide) (cz_X7_isAny hG (oa_af h2 hA) hR (fun _ _ _ _ h => h)) rfl (fun _ h => nomatch h) (fun _ _ q => q.1) (fun x116 h117 hx118 => ?_)
    obtain rfl : Z_X7_isAny R (sg S) o2 = x116 := ((ei_w hx118.2).trans (congrArg (fun q9 => Z_X7_isAny R q9 o2) (show sg S = (sg S) from rfl))).symm
    refine tt_if_eq (tgt := 19) dX7_join_11 rfl (fun q119 => ?_) (fun q119 => ?_)
    · skip
      have h120 : Rg 0 0 (Z_X7_isAny R (sg S) o2) := rg_eq_l h117 (⟨by decide, by decide⟩ : Rg 0 0 0) q119
      refine tt_aload_n (j := 1) dX7_join_19 rfl ?_
      refine gt_gJ (id := 450) (v := (mJ (sg S) 450 o1)) dX7_join_20 fl_7_15 rfl rfl h1 hA (sg_J (k := 450) (o := o1) (show sg S = (sg S) from rfl)) ?_
      refine tt_aload_n (j := 2) dX7_join_23 rfl ?_
      refine gt_gJ (id := 450) (v := (mJ (sg S) 450 o2)) dX7_join_24 fl_7_15 rfl rfl h2 hA (sg_J (k := 450) (o := o2) (show sg S = (sg S) from rfl)) ?_
      refine gt_SJp (As := [.long (mJ (sg S) 450 o1), .long (mJ (sg S) 450 o2)]) dX7_join_27 ca_X7_36 ⟨by decide, by decide⟩ hA (Nat.le_of_ble_eq_true rfl) (Nat.le_of_ble_eq_true rfl) (by decide) (cz_X7_gcd hG  (fun _ _ _ _ h => h)) rfl (fun _ h => nomatch h) (fun _ _ q => q.1) (fun y121 hx123 => ?_)
      obtain rfl : Z_X7_gcd ((mJ (sg S) 450 o1)) ((mJ (sg S) 450 o2)) = y121 := ((el_w hx123.2).trans rfl).symm
      refine tt_aload_n (j := 1) dX7_join_30 rfl ?_
      refine gt_gJ (id := 448) (v := (mJ (sg S) 448 o1)) dX7_join_31 fl_7_23 rfl rfl h1 hA (sg_J (k := 448) (o := o1) (show sg S = (sg S) from rfl)) ?_
      refine tt_aload_n (j := 2) dX7_join_34 rfl ?_
      refine gt_gJ (id := 448) (v := (mJ (sg S) 448 o2)) dX7_join_35 fl_7_23 rfl rfl h2 hA (sg_J (k := 448) (o := o2) (show sg S = (sg S) from rfl)) ?_
      refine tt_lsub dX7_join_38 ?_
      refine gt_SJp (As := [.long (Z_X7_gcd ((mJ (sg S) 450 o1)) ((mJ (sg S) 450 o2))), .long ((mJ (sg S) 448 o1) - (mJ (sg S) 448 o2))]) dX7_join_39 ca_X7_36 ⟨by decide, by decide⟩ hA (Nat.le_of_ble_eq_true rfl) (Nat.le_of_ble_eq_true rfl) (by decide) (cz_X7_gcd hG  (fun _ _ _ _ h => h)) rfl (fun _ h => nomatch h) (fun _ _ q => q.1) (fun y124 hx126 => ?_)
      obtain rfl : Z_X7_gcd ((Z_X7_gcd ((mJ (sg S) 450 o1)) ((mJ (sg S) 450 o2)))) (((mJ (sg S) 448 o1) - (mJ (sg S) 448 o2))) = y124 := ((el_w hx126.2).trans rfl).symm
      refine tt_lstore_n (ks := [0, 1, 2, 3]) (L' := [(3, .long (Z_X7_gcd ((Z_X7_gcd ((mJ (sg S) 450 o1)) ((mJ (sg S) 450 o2)))) (((mJ (sg S) 448 o1) - (mJ (sg S) 448 o2))))), (0, .ref o0), (1, .ref o1), (2, .ref o2)]) dX7_join_42 (by decide) rfl ?_
      refine tt_aload_n (j := 1) dX7_join_43 rfl ?_
      refine tt_aload_n (j := 2) dX7_join_44 rfl ?_
      refine gt_gJ (id := 448) (v := (mJ (sg S) 448 o1)) dX7_join_45 fl_7_23 rfl rfl h1 hA (sg_J (k := 448) (o := o1) (show sg S = (sg S) from rfl)) ?_
      refine tt_aload_n (j := 3) dX7_join_48 rfl ?_
      refine gt_gJ (id := 448) (v := (mJ (sg S) 448 o2)) dX7_join_49 fl_7_23 rfl rfl h2 hA (sg_J (k := 448) (o := o2) (show sg S = (sg S) from rfl)) ?_
      refine gt_SJp (As := [.long (mJ (sg S) 448 o1), .long (mJ (sg S) 448 o2)]) dX7_join_52 ca_X7_40 ⟨by decide, by decide⟩ hA (Nat.le_of_ble_eq_true rfl) (Nat.le_of_ble_eq_true rfl) (by decide) (cz_J9_min_f86c9 hG  (fun _ _ _ _ h => h)) rfl (fun _ h => nomatch h) (fun _ _ q => q.1) (fun y127 hx129 => ?_)
      obtain rfl : Z_J9_min_f86c9 ((mJ (sg S) 448 o1)) ((mJ (sg S) 448 o2)) = y127 := ((el_w hx129.2).trans rfl).symm
      refine tt_aload_n (j := 2) dX7_join_55 rfl ?_
      refine gt_gJ (id := 449) (v := (mJ (sg S) 449 o1)) dX7_join_56 fl_7_26 rfl rfl h1 hA (sg_J (k := 449) (o := o1) (show sg S = (sg S) from rfl)) ?_
      refine tt_aload_n (j := 3) dX7_join_59 rfl ?_
      refine gt_gJ (id := 449) (v := (mJ (sg S) 449 o2)) dX7_join_60 fl_7_26 rfl rfl h2 hA (sg_J (k := 449) (o := o2) (show sg S = (sg S) from rfl)) ?_
      refine gt_SJp (As := [.long (mJ (sg S) 449 o1), .long (mJ (sg S) 449 o2)]) dX7_join_63 ca_X7_45 ⟨by decide, by decide⟩ hA (Nat.le_of_ble_eq_true rfl) (Nat.le_of_ble_eq_true rfl) (by decide) (cz_J9_max_f86c9 hG  (fun _ _ _ _ h => h)) rfl (fun _ h => nomatch h) (fun _ _ q => q.1) (fun y130 hx132 => ?_)
      obtain rfl : Z_J9_max_f86c9 ((mJ (sg S) 449 o1)) ((mJ (sg S) 449 o2)) = y130 := ((el_w hx132.2).trans rfl).symm
      refine tt_lload_n (j := 0) dX7_join_66 rfl ?_
      refine gt_Vv (As := [.long (Z_J9_min_f86c9 ((mJ (sg S) 448 o1)) ((mJ (sg S) 448 o2))), .long (Z_J9_max_f86c9 ((mJ (sg S) 449 o1)) ((mJ (sg S) 449 o2))), .long (Z_X7_gcd ((Z_X7_gcd ((mJ (sg S) 450 o1)) ((mJ (sg S) 450 o2)))) (((mJ (sg S) 448 o1) - (mJ (sg S) 448 o2))))]) dX7_join_67 ca_X7_48 ⟨by decide, by decide⟩ h0 hA rfl (Nat.le_of_ble_eq_true rfl) (Nat.le_of_ble_eq_true rfl) (by decide) (cz_X7_become hG (oa_af h0 hA) hR (fun _ _ _ _ h => h)) rfl (fun _ h => nomatch h) (fun S133 hx137 hG134 hB135 hA136 => ?_)
      obtain ⟨d138, hd139⟩ : ∃ q, Z_X7_become R (sg S) o0 ((Z_J9_min_f86c9 ((mJ (sg S) 448 o1)) ((mJ (sg S) 448 o2)))) ((Z_J9_max_f86c9 ((mJ (sg S) 449 o1)) ((mJ (sg S) 449 o2)))) ((Z_X7_gcd ((Z_X7_gcd ((mJ (sg S) 450 o1)) ((mJ (sg S) 450 o2)))) (((mJ (sg S) 448 o1) - (mJ (sg S) 448 o2))))) = q := ⟨_, rfl⟩
      have hq140 := (congrArg (fun q9 => Z_X7_become R q9 o0 ((Z_J9_min_f86c9 ((mJ (sg S) 448 o1)) ((mJ (sg S) 448 o2)))) ((Z_J9_max_f86c9 ((mJ (sg S) 449 o1)) ((mJ (sg S) 449 o2)))) ((Z_X7_gcd ((Z_X7_gcd ((mJ (sg S) 450 o1)) ((mJ (sg S) 450 o2)))) (((mJ (sg S) 448 o1) - (mJ (sg S) 448 o2)))))) (show sg S = (sg S) from rfl)).trans hd139
      have hs141 := hx137.trans hq140
      have hF : Z_X7_join R (sg S) o0 o1 o2 = d138 := by
        subst hd139
        exact zl_X7_join_0 q104 q119
      exact tt_vreturn dX7_join_70 rfl (hP _ _ _ _ ⟨hG134, hA136, Or.inl ⟨_, rfl, rfl, Eq.trans hs141 hF.symm, rfl, rfl⟩⟩)
    · skip
      have h142 : Rg 1 1 (Z_X7_isAny R (sg S) o2) := rg_ne_lo h117 (⟨by decide, by decide⟩ : Rg 0 0 0) q119
      refine tt_aload_n (j := 0) dX7_join_14 rfl ?_
      refine gt_Vv (As := []) dX7_join_15 ca_X7_33 ⟨by decide, by decide⟩ h0 hA rfl (Nat.le_of_ble_eq_true rfl) (Nat.le_of_ble_eq_true rfl) (by decide) (cz_X7_becomeAny hG (oa_af h0 hA) hR (fun _ _ _ _ h => h)) rfl (fun _ h => nomatch h) (fun S143 hx147 hG144 hB145 hA146 => ?_)
      obtain ⟨d148, hd149⟩ : ∃ q, Z_X7_becomeAny R (sg S) o0 = q := ⟨_, rfl⟩
      have hq150 := (congrArg (fun q9 => Z_X7_becomeAny R q9 o0) (show sg S = (sg S) from rfl)).trans hd149
      have hs151 := hx147.trans hq150
      have hF : Z_X7_join R (sg S) o0 o1 o2 = d148 := by
        subst hd149
        exact zl_X7_join_1 q104 q119
      exact tt_vreturn dX7_join_18 rfl (hP _ _ _ _ ⟨hG144, hA146, Or.inl ⟨_, rfl, rfl, Eq.trans hs151 hF.symm, rfl, rfl⟩⟩)
def Z_X7_add (R : Nat → Nat → Nat) (σ : SG) (o0 : Nat) (o1 : Nat) (o2 : Nat) : SG :=
  if (Z_X7_isAny R σ o1) = 0 then
    if (Z_X7_isAny R σ o2) = 0 then
      let d129 := Z_X7_become R σ o0 (((mJ σ 448 o1) + (mJ σ 448 o2))) (((mJ σ 449 o1) + (mJ σ 449 o2))) ((Z_X7_gcd ((mJ σ 450 o1)) ((mJ σ 450 o2))))
      d129
    else
      let d139 := Z_X7_becomeAny R σ o0
      d139
  else
    let d111 := Z_X7_becomeAny R σ o0
    d111
theorem zl_X7_add_0 {R : Nat → Nat → Nat} {σ : SG} {o0 : Nat} {o1 : Nat} {o2 : Nat} (h0 : (Z_X7_isAny R σ o1) = 0) (h1 : (Z_X7_isAny R σ o2) = 0) : Z_X7_add R σ o0 o1 o2 = (Z_X7_become R σ o0 (((mJ σ 448 o1) + (mJ σ 448 o2))) (((mJ σ 449 o1) + (mJ σ 449 o2))) ((Z_X7_gcd ((mJ σ 450 o1)) ((mJ σ 450 o2))))) := by unfold Z_X7_add; exact Eq.trans (if_pos h0) (if_pos h1)
theorem zl_X7_add_1 {R : Nat → Nat → Nat} {σ : SG} {o0 : Nat} {o1 : Nat} {o2 : Nat} (h0 : (Z_X7_isAny R σ o1) = 0) (h1 : ¬ (Z_X7_isAny R σ o2) = 0) : Z_X7_add R σ o0 o1 o2 = (Z_X7_becomeAny R σ o0) := by unfold Z_X7_add; exact Eq.trans (if_pos h0) (if_neg h1)
theorem zl_X7_add_2 {R : Nat → Nat → Nat} {σ : SG} {o0 : Nat} {o1 : Nat} {o2 : Nat} (h0 : ¬ (Z_X7_isAny R σ o1) = 0) : Z_X7_add R σ o0 o1 o2 = (Z_X7_becomeAny R σ o0) := by unfold Z_X7_add; exact if_neg h0
set_option maxHeartbeats 40000000 in
theorem cz_X7_add {xi : SX} {S : Hp} {E : List Nat} {kc nc : Nat} {P : Po} {o0 : Nat} {o1 : Nat} {o2 : Nat} {R : Nat → Nat → Nat} (hG : GI S E) (h0 : Oa S E 7 0 o0) (h1 : Oa S E 7 0 o1) (h2 : Oa S E 7 0 o2) (hR : RK S R) (hP : ∀ r T x y, PV E [9987] S kc nc rV (fun v T => sg T = Z_X7_add R (sg S) o0 o1 o2) [] r T x y → P r T x y) : TT xi M_X7_add 0 [(0, .ref o0), (1, .ref o1), (2, .ref o2)] [] S kc nc P := by
  have hA : Af E [9987] S S := af_rf
  refine tt_aload_n (j := 1) dX7_add_0 rfl ?_
  refine gt_VIp (As := []) dX7_add_1 ca_X7_29 ⟨by decide, by decide⟩ h1 hA rfl (Nat.le_of_ble_eq_true rfl) (Nat.le_of_ble_eq_true rfl) (by decide) (cz_X7_isAny hG (oa_af h1 hA) hR (fun _ _ _ _ h => h)) rfl (fun _ h => nomatch h) (fun _ _ q => q.1) (fun x101 h102 hx103 => ?_)
  obtain rfl : Z_X7_isAny R (sg S) o1 = x101 := ((ei_w hx103.2).trans (congrArg (fun q9 => Z_X7_isAny R q9 o1) (show sg S = (sg S) from rfl))).symm
  refine tt_if_ne (tgt := 14) dX7_add_4 rfl (fun q104 => ?_) (fun q104 => ?_)
  · skip
    have h105 : Rg 1 1 (Z_X7_isAny R (sg S) o1) := rg_ne_lo h102 (⟨by decide, by decide⟩ : Rg 0 0 0) q104
    refine tt_aload_n (j := 0) dX7_add_14 rfl ?_
    refine gt_Vv (As := []) dX7_add_15 ca_X7_33 ⟨by decide, by decide⟩ h0 hA rfl (Nat.le_of_ble_eq_true rfl) (Nat.le_of_ble_eq_true rfl) (by decide) (cz_X7_becomeAny hG (oa_af h0 hA) hR (fun _ _ _ _ h => h)) rfl (fun _ h => nomatch h) (fun S106 hx110 hG107 hB108 hA109 => ?_)
    obtain ⟨d111, hd112⟩ : ∃ q, Z_X7_becomeAny R (sg S) o0 = q := ⟨_, rfl⟩
    have hq113 := (congrArg (fun q9 => Z_X7_becomeAny R q9 o0) (show sg S = (sg S) from rfl)).trans hd112
    have hs114 := hx110.trans hq113
    refine tt_goto (tgt := 54) dX7_add_18 rfl ?_
    have hF : Z_X7_add R (sg S) o0 o1 o2 = d111 := by
      subst hd112
      exact zl_X7_add_2 q104
    exact tt_vreturn dX7_add_54 rfl (hP _ _ _ _ ⟨hG107, hA109, Or.inl ⟨_, rfl, rfl, Eq.trans hs114 hF.symm, rfl, rfl⟩⟩)
  · skip
    have h115 : Rg 0 0 (Z_X7_isAny R (sg S) o1) := rg_eq_l h102 (⟨by decide, by decide⟩ : Rg 0 0 0) q104
    refine tt_aload_n (j := 2) dX7_add_7 rfl ?_
    refine gt_VIp (As := []) dX7_add_8 ca_X7_29 ⟨by decide, by decide⟩ h2 hA rfl (Nat.le_of_ble_eq_true rfl) (Nat.le_of_ble_eq_true rfl) (by decide) (cz_X7_isAny hG (oa_af h2 hA) hR (fun _ _ _ _ h => h)) rfl (fun _ h => nomatch h) (fun _ _ q => q.1) (fun x116 h117 hx118 => ?_)
    obtain rfl : Z_X7_isAny R (sg S) o2 = x116 := ((ei_w hx118.2).trans (congrArg (fun q9 => Z_X7_isAny R q9 o2) (show sg S = (sg S) from rfl))).symm
    refine tt_if_eq (tgt := 21) dX7_add_11 rfl (fun q119 => ?_) (fun q119 => ?_)
    · skip
      have h120 : Rg 0 0 (Z_X7_isAny R (sg S) o2) := rg_eq_l h117 (⟨by decide, by decide⟩ : Rg 0 0 0) q119
      refine tt_aload_n (j := 0) dX7_add_21 rfl ?_
      refine tt_aload_n (j := 1) dX7_add_22 rfl ?_
      refine gt_gJ (id := 448) (v := (mJ (sg S) 448 o1)) dX7_add_23 fl_7_23 rfl rfl h1 hA (sg_J (k := 448) (o := o1) (show sg S = (sg S) from rfl)) ?_
      refine tt_aload_n (j := 2) dX7_add_26 rfl ?_
      refine gt_gJ (id := 448) (v := (mJ (sg S) 448 o2)) dX7_add_27 fl_7_23 rfl rfl h2 hA (sg_J (k := 448) (o := o2) (show sg S = (sg S) from rfl)) ?_
      refine tt_ladd dX7_add_30 ?_
      refine tt_aload_n (j := 1) dX7_add_31 rfl ?_
      refine gt_gJ (id := 449) (v := (mJ (sg S) 449 o1)) dX7_add_32 fl_7_26 rfl rfl h1 hA (sg_J (k := 449) (o := o1) (show sg S = (sg S) from rfl)) ?_
      refine tt_aload_n (j := 2) dX7_add_35 rfl ?_
      refine gt_gJ (id := 449) (v := (mJ (sg S) 449 o2)) dX7_add_36 fl_7_26 rfl rfl h2 hA (sg_J (k := 449) (o := o2) (show sg S = (sg S) from rfl)) ?_
      refine tt_ladd dX7_add_39 ?_
      refine tt_aload_n (j := 1) dX7_add_40 rfl ?_
      refine gt_gJ (id := 450) (v := (mJ (sg S) 450 o1)) dX7_add_41 fl_7_15 rfl rfl h1 hA (sg_J (k := 450) (o := o1) (show sg S = (sg S) from rfl)) ?_
      refine tt_aload_n (j := 2) dX7_add_44 rfl ?_
      refine gt_gJ (id := 450) (v := (mJ (sg S) 450 o2)) dX7_add_45 fl_7_15 rfl rfl h2 hA (sg_J (k := 450) (o := o2) (show sg S = (sg S) from rfl)) ?_
      refine gt_SJp (As := [.long (mJ (sg S) 450 o1), .long (mJ (sg S) 450 o2)]) dX7_add_48 ca_X7_36 ⟨by decide, by decide⟩ hA (Nat.le_of_ble_eq_true rfl) (Nat.le_of_ble_eq_true rfl) (by decide) (cz_X7_gcd hG  (fun _ _ _ _ h => h)) rfl (fun _ h => nomatch h) (fun _ _ q => q.1) (fun y121 hx123 => ?_)
      obtain rfl : Z_X7_gcd ((mJ (sg S) 450 o1)) ((mJ (sg S) 450 o2)) = y121 := ((el_w hx123.2).trans rfl).symm
      refine gt_Vv (As := [.long ((mJ (sg S) 448 o1) + (mJ (sg S) 448 o2)), .long ((mJ (sg S) 449 o1) + (mJ (sg S) 449 o2)), .long (Z_X7_gcd ((mJ (sg S) 450 o1)) ((mJ (sg S) 450 o2)))]) dX7_add_51 ca_X7_48 ⟨by decide, by decide⟩ h0 hA rfl (Nat.le_of_ble_eq_true rfl) (Nat.le_of_ble_eq_true rfl) (by decide) (cz_X7_become hG (oa_af h0 hA) hR (fun _ _ _ _ h => h)) rfl (fun _ h => nomatch h) (fun S124 hx128 hG125 hB126 hA127 => ?_)
      obtain ⟨d129, hd130⟩ : ∃ q, Z_X7_become R (sg S) o0 (((mJ (sg S) 448 o1) + (mJ (sg S) 448 o2))) (((mJ (sg S) 449 o1) + (mJ (sg S) 449 o2))) ((Z_X7_gcd ((mJ (sg S) 450 o1)) ((mJ (sg S) 450 o2)))) = q := ⟨_, rfl⟩
      have hq131 := (congrArg (fun q9 => Z_X7_become R q9 o0 (((mJ (sg S) 448 o1) + (mJ (sg S) 448 o2))) (((mJ (sg S) 449 o1) + (mJ (sg S) 449 o2))) ((Z_X7_gcd ((mJ (sg S) 450 o1)) ((mJ (sg S) 450 o2))))) (show sg S = (sg S) from rfl)).trans hd130
      have hs132 := hx128.trans hq131
      have hF : Z_X7_add R (sg S) o0 o1 o2 = d129 := by
        subst hd130
        exact zl_X7_add_0 q104 q119
      exact tt_vreturn dX7_add_54 rfl (hP _ _ _ _ ⟨hG125, hA127, Or.inl ⟨_, rfl, rfl, Eq.trans hs132 hF.symm, rfl, rfl⟩⟩)
    · skip
      have h133 : Rg 1 1 (Z_X7_isAny R (sg S) o2) := rg_ne_lo h117 (⟨by decide, by decide⟩ : Rg 0 0 0) q119
      refine tt_aload_n (j := 0) dX7_add_14 rfl ?_
      refine gt_Vv (As := []) dX7_add_15 ca_X7_33 ⟨by decide, by decide⟩ h0 hA rfl (Nat.le_of_ble_eq_true rfl) (Nat.le_of_ble_eq_true rfl) (by decide) (cz_X7_becomeAny hG (oa_af h0 hA) hR (fun _ _ _ _ h => h)) rfl (fun _ h => nomatch h) (fun S134 hx138 hG135 hB136 hA137 => ?_)
      obtain ⟨d139, hd140⟩ : ∃ q, Z_X7_becomeAny R (sg S) o0 = q := ⟨_, rfl⟩
      have hq141 := (congrArg (fun q9 => Z_X7_becomeAny R q9 o0) (show sg S = (sg S) from rfl)).trans hd140
      have hs142 := hx138.trans hq141
      refine tt_goto (tgt := 54) dX7_add_18 rfl ?_
      have hF : Z_X7_add R (sg S) o0 o1 o2 = d139 := by
        subst hd140
        exact zl_X7_add_1 q104 q119
      exact tt_vreturn dX7_add_54 rfl (hP _ _ _ _ ⟨hG135, hA137, Or.inl ⟨_, rfl, rfl, Eq.trans hs142 hF.symm, rfl, rfl⟩⟩)
def Z_X7_subtract (R : Nat → Nat → Nat) (σ : SG) (o0 : Nat) (o1 : Nat) (o2 : Nat) : SG :=
  if (Z_X7_isAny R σ o1) = 0 then
    if (Z_X7_isAny R σ o2) = 0 then
      let d129 := Z_X7_become R σ o0 (((mJ σ 448 o1) - (mJ σ 449 o2))) (((mJ σ 449 o1) - (mJ σ 448 o2))) ((Z_X7_gcd ((mJ σ 450 o1)) ((mJ σ 450 o2))))
      d129
    else
      let d139 := Z_X7_becomeAny R σ o0
      d139
  else
    let d111 := Z_X7_becomeAny R σ o0
    d111
theorem zl_X7_subtract_0 {R : Nat → Nat → Nat} {σ : SG} {o0 : Nat} {o1 : Nat} {o2 : Nat} (h0 : (Z_X7_isAny R σ o1) = 0) (h1 : (Z_X7_isAny R σ o2) = 0) : Z_X7_subtract R σ o0 o1 o2 = (Z_X7_become R σ o0 (((mJ σ 448 o1) - (mJ σ 449 o2))) (((mJ σ 449 o1) - (mJ σ 448 o2))) ((Z_X7_gcd ((mJ σ 450 o1)) ((mJ σ 450 o2))))) := by unfold Z_X7_subtract; exact Eq.trans (if_pos h0) (if_pos h1)
theorem zl_X7_subtract_1 {R : Nat → Nat → Nat} {σ : SG} {o0 : Nat} {o1 : Nat} {o2 : Nat} (h0 : (Z_X7_isAny R σ o1) = 0) (h1 : ¬ (Z_X7_isAny R σ o2) = 0) : Z_X7_subtract R σ o0 o1 o2 = (Z_X7_becomeAny R σ o0) := by unfold Z_X7_subtract; exact Eq.trans (if_pos h0) (if_neg h1)
theorem zl_X7_subtract_2 {R : Nat → Nat → Nat} {σ : SG} {o0 : Nat} {o1 : Nat} {o2 : Nat} (h0 : ¬ (Z_X7_isAny R σ o1) = 0) : Z_X7_subtract R σ o0 o1 o2 = (Z_X7_becomeAny R σ o0) := by unfold Z_X7_subtract; exact if_neg h0
set_option maxHeartbeats 40000000 in
theorem cz_X7_subtract {xi : SX} {S : Hp} {E : List Nat} {kc nc : Nat} {P : Po} {o0 : Nat} {o1 : Nat} {o2 : Nat} {R : Nat → Nat → Nat} (hG : GI S E) (h0 : Oa S E 7 0 o0) (h1 : Oa S E 7 0 o1) (h2 : Oa S E 7 0 o2) (hR : RK S R) (hP : ∀ r T x y, PV E [9987] S kc nc rV (fun v T => sg T = Z_X7_subtract R (sg S) o0 o1 o2) [] r T x y → P r T x y) : TT xi M_X7_subtract 0 [(0, .ref o0), (1, .ref o1), (2, .ref o2)] [] S kc nc P := by
  have hA : Af E [9987] S S := af_rf
  refine tt_aload_n (j := 1) dX7_subtract_0 rfl ?_
  refine gt_VIp (As := []) dX7_subtract_1 ca_X7_29 ⟨by decide, by decide⟩ h1 hA rfl (Nat.le_of_ble_eq_true rfl) (Nat.le_of_ble_eq_true rfl) (by decide) (cz_X7_isAny hG (oa_af h1 hA) hR (fun _ _ _ _ h => h)) rfl (fun _ h => nomatch h) (fun _ _ q => q.1) (fun x101 h102 hx103 => ?_)
  obtain rfl : Z_X7_isAny R (sg S) o1 = x101 := ((ei_w hx103.2).trans (congrArg (fun q9 => Z_X7_isAny R q9 o1) (show sg S = (sg S) from rfl))).symm
  refine tt_if_ne (tgt := 14) dX7_subtract_4 rfl (fun q104 => ?_) (fun q104 => ?_)
  · skip
    have h105 : Rg 1 1 (Z_X7_isAny R (sg S) o1) := rg_ne_lo h102 (⟨by decide, by decide⟩ : Rg 0 0 0) q104
    refine tt_aload_n (j := 0) dX7_subtract_14 rfl ?_
    refine gt_Vv (As := []) dX7_subtract_15 ca_X7_33 ⟨by decide, by decide⟩ h0 hA rfl (Nat.le_of_ble_eq_true rfl) (Nat.le_of_ble_eq_true rfl) (by decide) (cz_X7_becomeAny hG (oa_af h0 hA) hR (fun _ _ _ _ h => h)) rfl (fun _ h => nomatch h) (fun S106 hx110 hG107 hB108 hA109 => ?_)
    obtain ⟨d111, hd112⟩ : ∃ q, Z_X7_becomeAny R (sg S) o0 = q := ⟨_, rfl⟩
    have hq113 := (congrArg (fun q9 => Z_X7_becomeAny R q9 o0) (show sg S = (sg S) from rfl)).trans hd112
    have hs114 := hx110.trans hq113
    refine tt_goto (tgt := 54) dX7_subtract_18 rfl ?_
    have hF : Z_X7_subtract R (sg S) o0 o1 o2 = d111 := by
      subst hd112
      exact zl_X7_subtract_2 q104
    exact tt_vreturn dX7_subtract_54 rfl (hP _ _ _ _ ⟨hG107, hA109, Or.inl ⟨_, rfl, rfl, Eq.trans hs114 hF.symm, rfl, rfl⟩⟩)
  · skip
    have h115 : Rg 0 0 (Z_X7_isAny R (sg S) o1) := rg_eq_l h102 (⟨by decide, by decide⟩ : Rg 0 0 0) q104
    refine tt_aload_n (j := 2) dX7_subtract_7 rfl ?_
    refine gt_VIp (As := []) dX7_subtract_8 ca_X7_29 ⟨by decide, by decide⟩ h2 hA rfl (Nat.le_of_ble_eq_true rfl) (Nat.le_of_ble_eq_true rfl) (by decide) (cz_X7_isAny hG (oa_af h2 hA) hR (fun _ _ _ _ h => h)) rfl (fun _ h => nomatch h) (fun _ _ q => q.1) (fun x116 h117 hx118 => ?_)
    obtain rfl : Z_X7_isAny R (sg S) o2 = x116 := ((ei_w hx118.2).trans (congrArg (fun q9 => Z_X7_isAny R q9 o2) (show sg S = (sg S) from rfl))).symm
    refine tt_if_eq (tgt := 21) dX7_subtract_11 rfl (fun q119 => ?_) (fun q119 => ?_)
    · skip
      have h120 : Rg 0 0 (Z_X7_isAny R (sg S) o2) := rg_eq_l h117 (⟨by decide, by decide⟩ : Rg 0 0 0) q119
      refine tt_aload_n (j := 0) dX7_subtract_21 rfl ?_
      refine tt_aload_n (j := 1) dX7_subtract_22 rfl ?_
      refine gt_gJ (id := 448) (v := (mJ (sg S) 448 o1)) dX7_subtract_23 fl_7_23 rfl rfl h1 hA (sg_J (k := 448) (o := o1) (show sg S = (sg S) from rfl)) ?_
      refine tt_aload_n (j := 2) dX7_subtract_26 rfl ?_
      refine gt_gJ (id := 449) (v := (mJ (sg S) 449 o2)) dX7_subtract_27 fl_7_26 rfl rfl h2 hA (sg_J (k := 449) (o := o2) (show sg S = (sg S) from rfl)) ?_
      refine tt_lsub dX7_subtract_30 ?_
      refine tt_aload_n (j := 1) dX7_subtract_31 rfl ?_
      refine gt_gJ (id := 449) (v := (mJ (sg S) 449 o1)) dX7_subtract_32 fl_7_26 rfl rfl h1 hA (sg_J (k := 449) (o := o1) (show sg S = (sg S) from rfl)) ?_
      refine tt_aload_n (j := 2) dX7_subtract_35 rfl ?_
      refine gt_gJ (id := 448) (v := (mJ (sg S) 448 o2)) dX7_subtract_36 fl_7_23 rfl rfl h2 hA (sg_J (k := 448) (o := o2) (show sg S = (sg S) from rfl)) ?_
      refine tt_lsub dX7_subtract_39 ?_
      refine tt_aload_n (j := 1) dX7_subtract_40 rfl ?_
      refine gt_gJ (id := 450) (v := (mJ (sg S) 450 o1)) dX7_subtract_41 fl_7_15 rfl rfl h1 hA (sg_J (k := 450) (o := o1) (show sg S = (sg S) from rfl)) ?_
      refine tt_aload_n (j := 2) dX7_subtract_44 rfl ?_
      refine gt_gJ (id := 450) (v := (mJ (sg S) 450 o2)) dX7_subtract_45 fl_7_15 rfl rfl h2 hA (sg_J (k := 450) (o := o2) (show sg S = (sg S) from rfl)) ?_
      refine gt_SJp (As := [.long (mJ (sg S) 450 o1), .long (mJ (sg S) 450 o2)]) dX7_subtract_48 ca_X7_36 ⟨by decide, by decide⟩ hA (Nat.le_of_ble_eq_true rfl) (Nat.le_of_ble_eq_true rfl) (by decide) (cz_X7_gcd hG  (fun _ _ _ _ h => h)) rfl (fun _ h => nomatch h) (fun _ _ q => q.1) (fun y121 hx123 => ?_)
      obtain rfl : Z_X7_gcd ((mJ (sg S) 450 o1)) ((mJ (sg S) 450 o2)) = y121 := ((el_w hx123.2).trans rfl).symm
      refine gt_Vv (As := [.long ((mJ (sg S) 448 o1) - (mJ (sg S) 449 o2)), .long ((mJ (sg S) 449 o1) - (mJ (sg S) 448 o2)), .long (Z_X7_gcd ((mJ (sg S) 450 o1)) ((mJ (sg S) 450 o2)))]) dX7_subtract_51 ca_X7_48 ⟨by decide, by decide⟩ h0 hA rfl (Nat.le_of_ble_eq_true rfl) (Nat.le_of_ble_eq_true rfl) (by decide) (cz_X7_become hG (oa_af h0 hA) hR (fun _ _ _ _ h => h)) rfl (fun _ h => nomatch h) (fun S124 hx128 hG125 hB126 hA127 => ?_)
      obtain ⟨d129, hd130⟩ : ∃ q, Z_X7_become R (sg S) o0 (((mJ (sg S) 448 o1) - (mJ (sg S) 449 o2))) (((mJ (sg S) 449 o1) - (mJ (sg S) 448 o2))) ((Z_X7_gcd ((mJ (sg S) 450 o1)) ((mJ (sg S) 450 o2)))) = q := ⟨_, rfl⟩
      have hq131 := (congrArg (fun q9 => Z_X7_become R q9 o0 (((mJ (sg S) 448 o1) - (mJ (sg S) 449 o2))) (((mJ (sg S) 449 o1) - (mJ (sg S) 448 o2))) ((Z_X7_gcd ((mJ (sg S) 450 o1)) ((mJ (sg S) 450 o2))))) (show sg S = (sg S) from rfl)).trans hd130
      have hs132 := hx128.trans hq131
      have hF : Z_X7_subtract R (sg S) o0 o1 o2 = d129 := by
        subst hd130
        exact zl_X7_subtract_0 q104 q119
      exact tt_vreturn dX7_subtract_54 rfl (hP _ _ _ _ ⟨hG125, hA127, Or.inl ⟨_, rfl, rfl, Eq.trans hs132 hF.symm, rfl, rfl⟩⟩)
    · skip
      have h133 : Rg 1 1 (Z_X7_isAny R (sg S) o2) := rg_ne_lo h117 (⟨by decide, by decide⟩ : Rg 0 0 0) q119
      refine tt_aload_n (j := 0) dX7_subtract_14 rfl ?_
      refine gt_Vv (As := []) dX7_subtract_15 ca_X7_33 ⟨by decide, by decide⟩ h0 hA rfl (Nat.le_of_ble_eq_true rfl) (Nat.le_of_ble_eq_true rfl) (by decide) (cz_X7_becomeAny hG (oa_af h0 hA) hR (fun _ _ _ _ h => h)) rfl (fun _ h => nomatch h) (fun S134 hx138 hG135 hB136 hA137 => ?_)
      obtain ⟨d139, hd140⟩ : ∃ q, Z_X7_becomeAny R (sg S) o0 = q := ⟨_, rfl⟩
      have hq141 := (congrArg (fun q9 => Z_X7_becomeAny R q9 o0) (show sg S = (sg S) from rfl)).trans hd140
      have hs142 := hx138.trans hq141
      refine tt_goto (tgt := 54) dX7_subtract_18 rfl ?_
      have hF : Z_X7_subtract R (sg S) o0 o1 o2 = d139 := by
        subst hd140
        exact zl_X7_subtract_1 q104 q119
      exact tt_vreturn dX7_subtract_54 rfl (hP _ _ _ _ ⟨hG135, hA137, Or.inl ⟨_, rfl, rfl, Eq.trans hs142 hF.symm, rfl, rfl⟩⟩)
def Z_X7_subtractFrom (R : Nat → Nat → Nat) (σ : SG) (o0 : Nat) (y1 : Int64) (o3 : Nat) : SG :=
  if (Z_X7_isAny R σ o3) = 0 then
    let d111 := Z_X7_become R σ o0 ((y1 - (mJ σ 449 o3))) ((y1 - (mJ σ 448 o3))) ((mJ σ 450 o3))
    d111
  else
    let d121 := Z_X7_becomeAny R σ o0
    d121
theorem zl_X7_subtractFrom_0 {R : Nat → Nat → Nat} {σ : SG} {o0 : Nat} {y1 : Int64} {o3 : Nat} (h0 : (Z_X7_isAny R σ o3) = 0) : Z_X7_subtractFrom R σ o0 y1 o3 = (Z_X7_become R σ o0 ((y1 - (mJ σ 449 o3))) ((y1 - (mJ σ 448 o3))) ((mJ σ 450 o3))) := by unfold Z_X7_subtractFrom; exact if_pos h0
theorem zl_X7_subtractFrom_1 {R : Nat → Nat → Nat} {σ : SG} {o0 : Nat} {y1 : Int64} {o3 : Nat} (h0 : ¬ (Z_X7_isAny R σ o3) = 0) : Z_X7_subtractFrom R σ o0 y1 o3 = (Z_X7_becomeAny R σ o0) := by unfold Z_X7_subtractFrom; exact if_neg h0
set_option maxHeartbeats 40000000 in
theorem cz_X7_subtractFrom {xi : SX} {S : Hp} {E : List Nat} {kc nc : Nat} {P : Po} {o0 : Nat} {y1 : Int64} {o3 : Nat} {R : Nat → Nat → Nat} (hG : GI S E) (h0 : Oa S E 7 0 o0) (h3 : Oa S E 7 0 o3) (hR : RK S R) (hP : ∀ r T x y, PV E [9987] S kc nc rV (fun v T => sg T = Z_X7_subtractFrom R (sg S) o0 y1 o3) [] r T x y → P r T x y) : TT xi M_X7_subtractFrom 0 [(0, .ref o0), (1, .long y1), (3, .ref o3)] [] S kc nc P := by
  have hA : Af E [9987] S S := af_rf
  refine tt_aload_n (j := 2) dX7_subtractFrom_0 rfl ?_
  refine gt_VIp (As := []) dX7_subtractFrom_1 ca_X7_29 ⟨by decide, by decide⟩ h3 hA rfl (Nat.le_of_ble_eq_true rfl) (Nat.le_of_ble_eq_true rfl) (by decide) (cz_X7_isAny hG (oa_af h3 hA) hR (fun _ _ _ _ h => h)) rfl (fun _ h => nomatch h) (fun _ _ q => q.1) (fun x101 h102 hx103 => ?_)
  obtain rfl : Z_X7_isAny R (sg S) o3 = x101 := ((ei_w hx103.2).trans (congrArg (fun q9 => Z_X7_isAny R q9 o3) (show sg S = (sg S) from rfl))).symm
  refine tt_if_eq (tgt := 14) dX7_subtractFrom_4 rfl (fun q104 => ?_) (fun q104 => ?_)
  · skip
    have h105 : Rg 0 0 (Z_X7_isAny R (sg S) o3) := rg_eq_l h102 (⟨by decide, by decide⟩ : Rg 0 0 0) q104
    refine tt_aload_n (j := 0) dX7_subtractFrom_14 rfl ?_
    refine tt_lload_n (j := 1) dX7_subtractFrom_15 rfl ?_
    refine tt_aload_n (j := 2) dX7_subtractFrom_16 rfl ?_
    refine gt_gJ (id := 449) (v := (mJ (sg S) 449 o3)) dX7_subtractFrom_17 fl_7_26 rfl rfl h3 hA (sg_J (k := 449) (o := o3) (show sg S = (sg S) from rfl)) ?_
    refine tt_lsub dX7_subtractFrom_20 ?_
    refine tt_lload_n (j := 1) dX7_subtractFrom_21 rfl ?_
    refine tt_aload_n (j := 2) dX7_subtractFrom_22 rfl ?_
    refine gt_gJ (id := 448) (v := (mJ (sg S) 448 o3)) dX7_subtractFrom_23 fl_7_23 rfl rfl h3 hA (sg_J (k := 448) (o := o3) (show sg S = (sg S) from rfl)) ?_
    refine tt_lsub dX7_subtractFrom_26 ?_
    refine tt_aload_n (j := 2) dX7_subtractFrom_27 rfl ?_
    refine gt_gJ (id := 450) (v := (mJ (sg S) 450 o3)) dX7_subtractFrom_28 fl_7_15 rfl rfl h3 hA (sg_J (k := 450) (o := o3) (show sg S = (sg S) from rfl)) ?_
    refine gt_Vv (As := [.long (y1 - (mJ (sg S) 449 o3)), .long (y1 - (mJ (sg S) 448 o3)), .long (mJ (sg S) 450 o3)]) dX7_subtractFrom_31 ca_X7_48 ⟨by decide, by decide⟩ h0 hA rfl (Nat.le_of_ble_eq_true rfl) (Nat.le_of_ble_eq_true rfl) (by decide) (cz_X7_become hG (oa_af h0 hA) hR (fun _ _ _ _ h => h)) rfl (fun _ h => nomatch h) (fun S106 hx110 hG107 hB108 hA109 => ?_)
    obtain ⟨d111, hd112⟩ : ∃ q, Z_X7_become R (sg S) o0 ((y1 - (mJ (sg S) 449 o3))) ((y1 - (mJ (sg S) 448 o3))) ((mJ (sg S) 450 o3)) = q := ⟨_, rfl⟩
    have hq113 := (congrArg (fun q9 => Z_X7_become R q9 o0 ((y1 - (mJ (sg S) 449 o3))) ((y1 - (mJ (sg S) 448 o3))) ((mJ (sg S) 450 o3))) (show sg S = (sg S) from rfl)).trans hd112
    have hs114 := hx110.trans hq113
    have hF : Z_X7_subtractFrom R (sg S) o0 y1 o3 = d111 := by
      subst hd112
      exact zl_X7_subtractFrom_0 q104
    exact tt_vreturn dX7_subtractFrom_34 rfl (hP _ _ _ _ ⟨hG107, hA109, Or.inl ⟨_, rfl, rfl, Eq.trans hs114 hF.symm, rfl, rfl⟩⟩)
  · skip
    have h115 : Rg 1 1 (Z_X7_isAny R (sg S) o3) := rg_ne_lo h102 (⟨by decide, by decide⟩ : Rg 0 0 0) q104
    refine tt_aload_n (j := 0) dX7_subtractFrom_7 rfl ?_
    refine gt_Vv (As := []) dX7_subtractFrom_8 ca_X7_33 ⟨by decide, by decide⟩ h0 hA rfl (Nat.le_of_ble_eq_true rfl) (Nat.le_of_ble_eq_true rfl) (by decide) (cz_X7_becomeAny hG (oa_af h0 hA) hR (fun _ _ _ _ h => h)) rfl (fun _ h => nomatch h) (fun S116 hx120 hG117 hB118 hA119 => ?_)
    obtain ⟨d121, hd122⟩ : ∃ q, Z_X7_becomeAny R (sg S) o0 = q := ⟨_, rfl⟩
    have hq123 := (congrArg (fun q9 => Z_X7_becomeAny R q9 o0) (show sg S = (sg S) from rfl)).trans hd122
    have hs124 := hx120.trans hq123
    refine tt_goto (tgt := 34) dX7_subtractFrom_11 rfl ?_
    have hF : Z_X7_subtractFrom R (sg S) o0 y1 o3 = d121 := by
      subst hd122
      exact zl_X7_subtractFrom_1 q104
    exact tt_vreturn dX7_subtractFrom_34 rfl (hP _ _ _ _ ⟨hG117, hA119, Or.inl ⟨_, rfl, rfl, Eq.trans hs124 hF.symm, rfl, rfl⟩⟩)
def Z_X7_mix (R : Nat → Nat → Nat) (σ : SG) (o0 : Nat) (x1 : Int32) (o2 : Nat) (o3 : Nat) : SG :=
  if (Z_X7_isSingle R σ o2) = 0 then
    if (Z_X7_isNatural R σ o2) = 0 then
      let d116 := Z_X7_becomeAny R σ o0
      d116
    else
      if (Z_X7_isNatural R σ o3) = 0 then
        let d131 := Z_X7_becomeAny R σ o0
        d131
      else
        if x1 = 0 then
          let d149 := Z_X7_become R σ o0 (0) (((2 * (Z_J13_highestOneBit_067f4 ((Z_J9_max_f86c9 ((mJ σ 449 o2)) ((mJ σ 449 o3)))))) - 1)) (1)
          d149
        else
          let d162 := Z_X7_become R σ o0 ((Z_J9_max_f86c9 ((mJ σ 448 o2)) ((mJ σ 448 o3)))) (((2 * (Z_J13_highestOneBit_067f4 ((Z_J9_max_f86c9 ((mJ σ 449 o2)) ((mJ σ 449 o3)))))) - 1)) (1)
          d162
  else
    if (Z_X7_isSingle R σ o3) = 0 then
      if (Z_X7_isNatural R σ o2) = 0 then
        let d182 := Z_X7_becomeAny R σ o0
        d182
      else
        if (Z_X7_isNatural R σ o3) = 0 then
          let d197 := Z_X7_becomeAny R σ o0
          d197
        else
          if x1 = 0 then
            let d215 := Z_X7_become R σ o0 (0) (((2 * (Z_J13_highestOneBit_067f4 ((Z_J9_max_f86c9 ((mJ σ 449 o2)) ((mJ σ 449 o3)))))) - 1)) (1)
            d215
          else
            let d228 := Z_X7_become R σ o0 ((Z_J9_max_f86c9 ((mJ σ 448 o2)) ((mJ σ 448 o3)))) (((2 * (Z_J13_highestOneBit_067f4 ((Z_J9_max_f86c9 ((mJ σ 449 o2)) ((mJ σ 449 o3)))))) - 1)) (1)
            d228
    else
      if x1 = 0 then
        let d240 := Z_X7_become R σ o0 (((mJ σ 448 o2) ^^^ (mJ σ 448 o3))) (((mJ σ 448 o2) ^^^ (mJ σ 448 o3))) (0)
        d240
      else
        let d250 := Z_X7_become R σ o0 (((mJ σ 448 o2) ||| (mJ σ 448 o3))) (((mJ σ 448 o2) ||| (mJ σ 448 o3))) (0)
        d250
theorem zl_X7_mix_0 {R : Nat → Nat → Nat} {σ : SG} {o0 : Nat} {x1 : Int32} {o2 : Nat} {o3 : Nat} (h0 : (Z_X7_isSingle R σ o2) = 0) (h1 : (Z_X7_isNatural R σ o2) = 0) : Z_X7_mix R σ o0 x1 o2 o3 = (Z_X7_becomeAny R σ o0) := by unfold Z_X7_mix; exact Eq.trans (if_pos h0) (if_pos h1)
theorem zl_X7_mix_1 {R : Nat → Nat → Nat} {σ : SG} {o0 : Nat} {x1 : Int32} {o2 : Nat} {o3 : Nat} (h0 : (Z_X7_isSingle R σ o2) = 0) (h1 : ¬ (Z_X7_isNatural R σ o2) = 0) (h2 : (Z_X7_isNatural R σ o3) = 0) : Z_X7_mix R σ o0 x1 o2 o3 = (Z_X7_becomeAny R σ o0) := by unfold Z_X7_mix; exact Eq.trans (if_pos h0) (Eq.trans (if_neg h1) (if_pos h2))
theorem zl_X7_mix_2 {R : Nat → Nat → Nat} {σ : SG} {o0 : Nat} {x1 : Int32} {o2 : Nat} {o3 : Nat} (h0 : (Z_X7_isSingle R σ o2) = 0) (h1 : ¬ (Z_X7_isNatural R σ o2) = 0) (h2 : ¬ (Z_X7_isNatural R σ o3) = 0) (h3 : x1 = 0) : Z_X7_mix R σ o0 x1 o2 o3 = (Z_X7_become R σ o0 (0) (((2 * (Z_J13_highestOneBit_067f4 ((Z_J9_max_f86c9 ((mJ σ 449 o2)) ((mJ σ 449 o3)))))) - 1)) (1)) := by unfold Z_X7_mix; exact Eq.trans (if_pos h0) (Eq.trans (if_neg h1) (Eq.trans (if_neg h2) (if_pos h3)))
theorem zl_X7_mix_3 {R : Nat → Nat → Nat} {σ : SG} {o0 : Nat} {x1 : Int32} {o2 : Nat} {o3 : Nat} (h0 : (Z_X7_isSingle R σ o2) = 0) (h1 : ¬ (Z_X7_isNatural R σ o2) = 0) (h2 : ¬ (Z_X7_isNatural R σ o3) = 0) (h3 : ¬ x1 = 0) : Z_X7_mix R σ o0 x1 o2 o3 = (Z_X7_become R σ o0 ((Z_J9_max_f86c9 ((mJ σ 448 o2)) ((mJ σ 448 o3)))) (((2 * (Z_J13_highestOneBit_067f4 ((Z_J9_max_f86c9 ((mJ σ 449 o2)) ((mJ σ 449 o3)))))) - 1)) (1)) := by unfold Z_X7_mix; exact Eq.trans (if_pos h0) (Eq.trans (if_neg h1) (Eq.trans (if_neg h2) (if_neg h3)))
theorem zl_X7_mix_4 {R : Nat → Nat → Nat} {σ : SG} {o0 : Nat} {x1 : Int32} {o2 : Nat} {o3 : Nat} (h0 : ¬ (Z_X7_isSingle R σ o2) = 0) (h1 : (Z_X7_isSingle R σ o3) = 0) (h2 : (Z_X7_isNatural R σ o2) = 0) : Z_X7_mix R σ o0 x1 o2 o3 = (Z_X7_becomeAny R σ o0) := by unfold Z_X7_mix; exact Eq.trans (if_neg h0) (Eq.trans (if_pos h1) (if_pos h2))
theorem zl_X7_mix_5 {R : Nat → Nat → Nat} {σ : SG} {o0 : Nat} {x1 : Int32} {o2 : Nat} {o3 : Nat} (h0 : ¬ (Z_X7_isSingle R σ o2) = 0) (h1 : (Z_X7_isSingle R σ o3) = 0) (h2 : ¬ (Z_X7_isNatural R σ o2) = 0) (h3 : (Z_X7_isNatural R σ o3) = 0) : Z_X7_mix R σ o0 x1 o2 o3 = (Z_X7_becomeAny R σ o0) := by unfold Z_X7_mix; exact Eq.trans (if_neg h0) (Eq.trans (if_pos h1) (Eq.trans (if_neg h2) (if_pos h3)))
theorem zl_X7_mix_6 {R : Nat → Nat → Nat} {σ : SG} {o0 : Nat} {x1 : Int32} {o2 : Nat} {o3 : Nat} (h0 : ¬ (Z_X7_isSingle R σ o2) = 0) (h1 : (Z_X7_isSingle R σ o3) = 0) (h2 : ¬ (Z_X7_isNatural R σ o2) = 0) (h3 : ¬ (Z_X7_isNatural R σ o3) = 0) (h4 : x1 = 0) : Z_X7_mix R σ o0 x1 o2 o3 = (Z_X7_become R σ o0 (0) (((2 * (Z_J13_highestOneBit_067f4 ((Z_J9_max_f86c9 ((mJ σ 449 o2)) ((mJ σ 449 o3)))))) - 1)) (1)) := by unfold Z_X7_mix; exact Eq.trans (if_neg h0) (Eq.trans (if_pos h1) (Eq.trans (if_neg h2) (Eq.trans (if_neg h3) (if_pos h4))))
theorem zl_X7_mix_7 {R : Nat → Nat → Nat} {σ : SG} {o0 : Nat} {x1 : Int32} {o2 : Nat} {o3 : Nat} (h0 : ¬ (Z_X7_isSingle R σ o2) = 0) (h1 : (Z_X7_isSingle R σ o3) = 0) (h2 : ¬ (Z_X7_isNatural R σ o2) = 0) (h3 : ¬ (Z_X7_isNatural R σ o3) = 0) (h4 : ¬ x1 = 0) : Z_X7_mix R σ o0 x1 o2 o3 = (Z_X7_become R σ o0 ((Z_J9_max_f86c9 ((mJ σ 448 o2)) ((mJ σ 448 o3)))) (((2 * (Z_J13_highestOneBit_067f4 ((Z_J9_max_f86c9 ((mJ σ 449 o2)) ((mJ σ 449 o3)))))) - 1)) (1)) := by unfold Z_X7_mix; exact Eq.trans (if_neg h0) (Eq.trans (if_pos h1) (Eq.trans (if_neg h2) (Eq.trans (if_neg h3) (if_neg h4))))
theorem zl_X7_mix_8 {R : Nat → Nat → Nat} {σ : SG} {o0 : Nat} {x1 : Int32} {o2 : Nat} {o3 : Nat} (h0 : ¬ (Z_X7_isSingle R σ o2) = 0) (h1 : ¬ (Z_X7_isSingle R σ o3) = 0) (h2 : x1 = 0) : Z_X7_mix R σ o0 x1 o2 o3 = (Z_X7_become R σ o0 (((mJ σ 448 o2) ^^^ (mJ σ 448 o3))) (((mJ σ 448 o2) ^^^ (mJ σ 448 o3))) (0)) := by unfold Z_X7_mix; exact Eq.trans (if_neg h0) (Eq.trans (if_neg h1) (if_pos h2))
theorem zl_X7_mix_9 {R : Nat → Nat → Nat} {σ : SG} {o0 : Nat} {x1 : Int32} {o2 : Nat} {o3 : Nat} (h0 : ¬ (Z_X7_isSingle R σ o2) = 0) (h1 : ¬ (Z_X7_isSingle R σ o3) = 0) (h2 : ¬ x1 = 0) : Z_X7_mix R σ o0 x1 o2 o3 = (Z_X7_become R σ o0 (((mJ σ 448 o2) ||| (mJ σ 448 o3))) (((mJ σ 448 o2) ||| (mJ σ 448 o3))) (0)) := by unfold Z_X7_mix; exact Eq.trans (if_neg h0) (Eq.trans (if_neg h1) (if_neg h2))
set_option maxHeartbeats 40000000 in
theorem cz_X7_mix {xi : SX} {S : Hp} {E : List Nat} {kc nc : Nat} {P : Po} {o0 : Nat} {x1 : Int32} {o2 : Nat} {o3 : Nat} {R : Nat → Nat → Nat} (hG : GI S E) (h0 : Oa S E 7 0 o0) (h1 : Rg 0 1 x1) (h2 : Oa S E 7 0 o2) (h3 : Oa S E 7 0 o3) (hR : RK S R) (hP : ∀ r T x y, PV E [9987] S kc nc rV (fun v T => sg T = Z_X7_mix R (sg S) o0 x1 o2 o3) [] r T x y → P r T x y) : TT xi M_X7_mix 0 [(0, .ref o0), (1, .int x1), (2, .ref o2), (3, .ref o3)] [] S kc nc P := by
  have hA : Af E [9987] S S := af_rf
  refine tt_aload_n (j := 2) dX7_mix_0 rfl ?_
  refine gt_VIp (As := []) dX7_mix_1 ca_X7_58 ⟨by decide, by decide⟩ h2 hA rfl (Nat.le_of_ble_eq_true rfl) (Nat.le_of_ble_eq_true rfl) (by decide) (cz_X7_isSingle hG (oa_af h2 hA) hR (fun _ _ _ _ h => h)) rfl (fun _ h => nomatch h) (fun _ _ q => q.1) (fun x101 h102 hx103 => ?_)
  obtain rfl : Z_X7_isSingle R (sg S) o2 = x101 := ((ei_w hx103.2).trans (congrArg (fun q9 => Z_X7_isSingle R q9 o2) (show sg S = (sg S) from rfl))).symm
  refine tt_if_eq (tgt := 53) dX7_mix_4 rfl (fun q104 => ?_) (fun q104 => ?_)
  · skip
    have h105 : Rg 0 0 (Z_X7_isSingle R (sg S) o2) := rg_eq_l h102 (⟨by decide, by decide⟩ : Rg 0 0 0) q104
    refine tt_aload_n (j := 2) dX7_mix_53 rfl ?_
    refine gt_VIp (As := []) dX7_mix_54 ca_X7_86 ⟨by decide, by decide⟩ h2 hA rfl (Nat.le_of_ble_eq_true rfl) (Nat.le_of_ble_eq_true rfl) (by decide) (cz_X7_isNatural hG (oa_af h2 hA) hR (fun _ _ _ _ h => h)) rfl (fun _ h => nomatch h) (fun _ _ q => q.1) (fun x106 h107 hx108 => ?_)
    obtain rfl : Z_X7_isNatural R (sg S) o2 = x106 := ((ei_w hx108.2).trans (congrArg (fun q9 => Z_X7_isNatural R q9 o2) (show sg S = (sg S) from rfl))).symm
    refine tt_if_eq (tgt := 118) dX7_mix_57 rfl (fun q109 => ?_) (fun q109 => ?_)
    · skip
      have h110 : Rg 0 0 (Z_X7_isNatural R (sg S) o2) := rg_eq_l h107 (⟨by decide, by decide⟩ : Rg 0 0 0) q109
      refine tt_aload_n (j := 0) dX7_mix_118 rfl ?_
      refine gt_Vv (As := []) dX7_mix_119 ca_X7_33 ⟨by decide, by decide⟩ h0 hA rfl (Nat.le_of_ble_eq_true rfl) (Nat.le_of_ble_eq_true rfl) (by decide) (cz_X7_becomeAny hG (oa_af h0 hA) hR (fun _ _ _ _ h => h)) rfl (fun _ h => nomatch h) (fun S111 hx115 hG112 hB113 hA114 => ?_)
      obtain ⟨d116, hd117⟩ : ∃ q, Z_X7_becomeAny R (sg S) o0 = q := ⟨_, rfl⟩
      have hq118 := (congrArg (fun q9 => Z_X7_becomeAny R q9 o0) (show sg S = (sg S) from rfl)).trans hd117
      have hs119 := hx115.trans hq118
      have hF : Z_X7_mix R (sg S) o0 x1 o2 o3 = d116 := by
        subst hd117
        exact zl_X7_mix_0 q104 q109
      exact tt_vreturn dX7_mix_122 rfl (hP _ _ _ _ ⟨hG112, hA114, Or.inl ⟨_, rfl, rfl, Eq.trans hs119 hF.symm, rfl, rfl⟩⟩)
    · skip
      have h120 : Rg 1 1 (Z_X7_isNatural R (sg S) o2) := rg_ne_lo h107 (⟨by decide, by decide⟩ : Rg 0 0 0) q109
      refine tt_aload_n (j := 3) dX7_mix_60 rfl ?_
      refine gt_VIp (As := []) dX7_mix_61 ca_X7_86 ⟨by decide, by decide⟩ h3 hA rfl (Nat.le_of_ble_eq_true rfl) (Nat.le_of_ble_eq_true rfl) (by decide) (cz_X7_isNatural hG (oa_af h3 hA) hR (fun _ _ _ _ h => h)) rfl (fun _ h => nomatch h) (fun _ _ q => q.1) (fun x121 h122 hx123 => ?_)
      obtain rfl : Z_X7_isNatural R (sg S) o3 = x121 := ((ei_w hx123.2).trans (congrArg (fun q9 => Z_X7_isNatural R q9 o3) (show sg S = (sg S) from rfl))).symm
      refine tt_if_eq (tgt := 118) dX7_mix_64 rfl (fun q124 => ?_) (fun q124 => ?_)
      · skip
        have h125 : Rg 0 0 (Z_X7_isNatural R (sg S) o3) := rg_eq_l h122 (⟨by decide, by decide⟩ : Rg 0 0 0) q124
        refine tt_aload_n (j := 0) dX7_mix_118 rfl ?_
        refine gt_Vv (As := []) dX7_mix_119 ca_X7_33 ⟨by decide, by decide⟩ h0 hA rfl (Nat.le_of_ble_eq_true rfl) (Nat.le_of_ble_eq_true rfl) (by decide) (cz_X7_becomeAny hG (oa_af h0 hA) hR (fun _ _ _ _ h => h)) rfl (fun _ h => nomatch h) (fun S126 hx130 hG127 hB128 hA129 => ?_)
        obtain ⟨d131, hd132⟩ : ∃ q, Z_X7_becomeAny R (sg S) o0 = q := ⟨_, rfl⟩
        have hq133 := (congrArg (fun q9 => Z_X7_becomeAny R q9 o0) (show sg S = (sg S) from rfl)).trans hd132
        have hs134 := hx130.trans hq133
        have hF : Z_X7_mix R (sg S) o0 x1 o2 o3 = d131 := by
          subst hd132
          exact zl_X7_mix_1 q104 q109 q124
        exact tt_vreturn dX7_mix_122 rfl (hP _ _ _ _ ⟨hG127, hA129, Or.inl ⟨_, rfl, rfl, Eq.trans hs134 hF.symm, rfl, rfl⟩⟩)
      · skip
        have h135 : Rg 1 1 (Z_X7_isNatural R (sg S) o3) := rg_ne_lo h122 (⟨by decide, by decide⟩ : Rg 0 0 0) q124
        refine tt_aload_n (j := 2) dX7_mix_67 rfl ?_
        refine gt_gJ (id := 449) (v := (mJ (sg S) 449 o2)) dX7_mix_68 fl_7_26 rfl rfl h2 hA (sg_J (k := 449) (o := o2) (show sg S = (sg S) from rfl)) ?_
        refine tt_aload_n (j := 3) dX7_mix_71 rfl ?_
        refine gt_gJ (id := 449) (v := (mJ (sg S) 449 o3)) dX7_mix_72 fl_7_26 rfl rfl h3 hA (sg_J (k := 449) (o := o3) (show sg S = (sg S) from rfl)) ?_
        refine gt_SJp (As := [.long (mJ (sg S) 449 o2), .long (mJ (sg S) 449 o3)]) dX7_mix_75 ca_X7_45 ⟨by decide, by decide⟩ hA (Nat.le_of_ble_eq_true rfl) (Nat.le_of_ble_eq_true rfl) (by decide) (cz_J9_max_f86c9 hG  (fun _ _ _ _ h => h)) rfl (fun _ h => nomatch h) (fun _ _ q => q.1) (fun y136 hx138 => ?_)
        obtain rfl : Z_J9_max_f86c9 ((mJ (sg S) 449 o2)) ((mJ (sg S) 449 o3)) = y136 := ((el_w hx138.2).trans rfl).symm
        refine gt_SJp (As := [.long (Z_J9_max_f86c9 ((mJ (sg S) 449 o2)) ((mJ (sg S) 449 o3)))]) dX7_mix_78 ca_X7_108 ⟨by decide, by decide⟩ hA (Nat.le_of_ble_eq_true rfl) (Nat.le_of_ble_eq_true rfl) (by decide) (cz_J13_highestOneBit_067f4 hG  (fun _ _ _ _ h => h)) rfl (fun _ h => nomatch h) (fun _ _ q => q.1) (fun y139 hx141 => ?_)
        obtain rfl : Z_J13_highestOneBit_067f4 ((Z_J9_max_f86c9 ((mJ (sg S) 449 o2)) ((mJ (sg S) 449 o3)))) = y139 := ((el_w hx141.2).trans rfl).symm
        refine tt_lstore (ks := [0, 1, 2, 3, 4]) (L' := [(4, .long (Z_J13_highestOneBit_067f4 ((Z_J9_max_f86c9 ((mJ (sg S) 449 o2)) ((mJ (sg S) 449 o3)))))), (0, .ref o0), (1, .int x1), (2, .ref o2), (3, .ref o3)]) dX7_mix_81 (by decide) rfl ?_
        refine tt_aload_n (j := 1) dX7_mix_83 rfl ?_
        refine tt_iload_n (j := 2) dX7_mix_84 rfl ?_
        refine tt_if_eq (tgt := 102) dX7_mix_85 rfl (fun q142 => ?_) (fun q142 => ?_)
        · skip
          have h143 : Rg 0 0 x1 := rg_eq_l h1 (⟨by decide, by decide⟩ : Rg 0 0 0) q142
          refine tt_lconst (v := 0) dX7_mix_102 rfl ?_
          refine tt_ldc2 (v := 2) dX7_mix_103 kl_7_111 ?_
          refine tt_lload (j := 0) dX7_mix_106 rfl ?_
          refine tt_lmul dX7_mix_108 ?_
          refine tt_lconst (v := 1) dX7_mix_109 rfl ?_
          refine tt_lsub dX7_mix_110 ?_
          refine tt_lconst (v := 1) dX7_mix_111 rfl ?_
          refine gt_Vv (As := [.long 0, .long ((2 * (Z_J13_highestOneBit_067f4 ((Z_J9_max_f86c9 ((mJ (sg S) 449 o2)) ((mJ (sg S) 449 o3)))))) - 1), .long 1]) dX7_mix_112 ca_X7_48 ⟨by decide, by decide⟩ h0 hA rfl (Nat.le_of_ble_eq_true rfl) (Nat.le_of_ble_eq_true rfl) (by decide) (cz_X7_become hG (oa_af h0 hA) hR (fun _ _ _ _ h => h)) rfl (fun _ h => nomatch h) (fun S144 hx148 hG145 hB146 hA147 => ?_)
          obtain ⟨d149, hd150⟩ : ∃ q, Z_X7_become R (sg S) o0 (0) (((2 * (Z_J13_highestOneBit_067f4 ((Z_J9_max_f86c9 ((mJ (sg S) 449 o2)) ((mJ (sg S) 449 o3)))))) - 1)) (1) = q := ⟨_, rfl⟩
          have hq151 := (congrArg (fun q9 => Z_X7_become R q9 o0 (0) (((2 * (Z_J13_highestOneBit_067f4 ((Z_J9_max_f86c9 ((mJ (sg S) 449 o2)) ((mJ (sg S) 449 o3)))))) - 1)) (1)) (show sg S = (sg S) from rfl)).trans hd150
          have hs152 := hx148.trans hq151
          refine tt_goto (tgt := 122) dX7_mix_115 rfl ?_
          have hF : Z_X7_mix R (sg S) o0 x1 o2 o3 = d149 := by
            subst hd150
            exact zl_X7_mix_2 q104 q109 q124 q142
          exact tt_vreturn dX7_mix_122 rfl (hP _ _ _ _ ⟨hG145, hA147, Or.inl ⟨_, rfl, rfl, Eq.trans hs152 hF.symm, rfl, rfl⟩⟩)
        · skip
          have h153 : Rg 1 1 x1 := rg_ne_lo h1 (⟨by decide, by decide⟩ : Rg 0 0 0) q142
          refine tt_aload_n (j := 3) dX7_mix_88 rfl ?_
          refine gt_gJ (id := 448) (v := (mJ (sg S) 448 o2)) dX7_mix_89 fl_7_23 rfl rfl h2 hA (sg_J (k := 448) (o := o2) (show sg S = (sg S) from rfl)) ?_
          refine tt_aload_n (j := 4) dX7_mix_92 rfl ?_
          refine gt_gJ (id := 448) (v := (mJ (sg S) 448 o3)) dX7_mix_93 fl_7_23 rfl rfl h3 hA (sg_J (k := 448) (o := o3) (show sg S = (sg S) from rfl)) ?_
          refine gt_SJp (As := [.long (mJ (sg S) 448 o2), .long (mJ (sg S) 448 o3)]) dX7_mix_96 ca_X7_45 ⟨by decide, by decide⟩ hA (Nat.le_of_ble_eq_true rfl) (Nat.le_of_ble_eq_true rfl) (by decide) (cz_J9_max_f86c9 hG  (fun _ _ _ _ h => h)) rfl (fun _ h => nomatch h) (fun _ _ q => q.1) (fun y154 hx156 => ?_)
          obtain rfl : Z_J9_max_f86c9 ((mJ (sg S) 448 o2)) ((mJ (sg S) 448 o3)) = y154 := ((el_w hx156.2).trans rfl).symm
          refine tt_goto (tgt := 103) dX7_mix_99 rfl ?_
          refine tt_ldc2 (v := 2) dX7_mix_103 kl_7_111 ?_
          refine tt_lload (j := 0) dX7_mix_106 rfl ?_
          refine tt_lmul dX7_mix_108 ?_
          refine tt_lconst (v := 1) dX7_mix_109 rfl ?_
          refine tt_lsub dX7_mix_110 ?_
          refine tt_lconst (v := 1) dX7_mix_111 rfl ?_
          refine gt_Vv (As := [.long (Z_J9_max_f86c9 ((mJ (sg S) 448 o2)) ((mJ (sg S) 448 o3))), .long ((2 * (Z_J13_highestOneBit_067f4 ((Z_J9_max_f86c9 ((mJ (sg S) 449 o2)) ((mJ (sg S) 449 o3)))))) - 1), .long 1]) dX7_mix_112 ca_X7_48 ⟨by decide, by decide⟩ h0 hA rfl (Nat.le_of_ble_eq_true rfl) (Nat.le_of_ble_eq_true rfl) (by decide) (cz_X7_become hG (oa_af h0 hA) hR (fun _ _ _ _ h => h)) rfl (fun _ h => nomatch h) (fun S157 hx161 hG158 hB159 hA160 => ?_)
          obtain ⟨d162, hd163⟩ : ∃ q, Z_X7_become R (sg S) o0 ((Z_J9_max_f86c9 ((mJ (sg S) 448 o2)) ((mJ (sg S) 448 o3)))) (((2 * (Z_J13_highestOneBit_067f4 ((Z_J9_max_f86c9 ((mJ (sg S) 449 o2)) ((mJ (sg S) 449 o3)))))) - 1)) (1) = q := ⟨_, rfl⟩
          have hq164 := (congrArg (fun q9 => Z_X7_become R q9 o0 ((Z_J9_max_f86c9 ((mJ (sg S) 448 o2)) ((mJ (sg S) 448 o3)))) (((2 * (Z_J13_highestOneBit_067f4 ((Z_J9_max_f86c9 ((mJ (sg S) 449 o2)) ((mJ (sg S) 449 o3)))))) - 1)) (1)) (show sg S = (sg S) from rfl)).trans hd163
          have hs165 := hx161.trans hq164
          refine tt_goto (tgt := 122) dX7_mix_115 rfl ?_
          have hF : Z_X7_mix R (sg S) o0 x1 o2 o3 = d162 := by
            subst hd163
            exact zl_X7_mix_3 q104 q109 q124 q142
          exact tt_vreturn dX7_mix_122 rfl (hP _ _ _ _ ⟨hG158, hA160, Or.inl ⟨_, rfl, rfl, Eq.trans hs165 hF.symm, rfl, rfl⟩⟩)
  · skip
    have h166 : Rg 1 1 (Z_X7_isSingle R (sg S) o2) := rg_ne_lo h102 (⟨by decide, by decide⟩ : Rg 0 0 0) q104
    refine tt_aload_n (j := 3) dX7_mix_7 rfl ?_
    refine gt_VIp (As := []) dX7_mix_8 ca_X7_58 ⟨by decide, by decide⟩ h3 hA rfl (Nat.le_of_ble_eq_true rfl) (Nat.le_of_ble_eq_true rfl) (by decide) (cz_X7_isSingle hG (oa_af h3 hA) hR (fun _ _ _ _ h => h)) rfl (fun _ h => nomatch h) (fun _ _ q => q.1) (fun x167 h168 hx169 => ?_)
    obtain rfl : Z_X7_isSingle R (sg S) o3 = x167 := ((ei_w hx169.2).trans (congrArg (fun q9 => Z_X7_isSingle R q9 o3) (show sg S = (sg S) from rfl))).symm
    refine tt_if_eq (tgt := 53) dX7_mix_11 rfl (fun q170 => ?_) (fun q170 => ?_)
    · skip
      have h171 : Rg 0 0 (Z_X7_isSingle R (sg S) o3) := rg_eq_l h168 (⟨by decide, by decide⟩ : Rg 0 0 0) q170
      refine tt_aload_n (j := 2) dX7_mix_53 rfl ?_
      refine gt_VIp (As := []) dX7_mix_54 ca_X7_86 ⟨by decide, by decide⟩ h2 hA rfl (Nat.le_of_ble_eq_true rfl) (Nat.le_of_ble_eq_true rfl) (by decide) (cz_X7_isNatural hG (oa_af h2 hA) hR (fun _ _ _ _ h => h)) rfl (fun _ h => nomatch h) (fun _ _ q => q.1) (fun x172 h173 hx174 => ?_)
      obtain rfl : Z_X7_isNatural R (sg S) o2 = x172 := ((ei_w hx174.2).trans (congrArg (fun q9 => Z_X7_isNatural R q9 o2) (show sg S = (sg S) from rfl))).symm
      refine tt_if_eq (tgt := 118) dX7_mix_57 rfl (fun q175 => ?_) (fun q175 => ?_)
      · skip
        have h176 : Rg 0 0 (Z_X7_isNatural R (sg S) o2) := rg_eq_l h173 (⟨by decide, by decide⟩ : Rg 0 0 0) q175
        refine tt_aload_n (j := 0) dX7_mix_118 rfl ?_
        refine gt_Vv (As := []) dX7_mix_119 ca_X7_33 ⟨by decide, by decide⟩ h0 hA rfl (Nat.le_of_ble_eq_true rfl) (Nat.le_of_ble_eq_true rfl) (by decide) (cz_X7_becomeAny hG (oa_af h0 hA) hR (fun _ _ _ _ h => h)) rfl (fun _ h => nomatch h) (fun S177 hx181 hG178 hB179 hA180 => ?_)
        obtain ⟨d182, hd183⟩ : ∃ q, Z_X7_becomeAny R (sg S) o0 = q := ⟨_, rfl⟩
        have hq184 := (congrArg (fun q9 => Z_X7_becomeAny R q9 o0) (show sg S = (sg S) from rfl)).trans hd183
        have hs185 := hx181.trans hq184
        have hF : Z_X7_mix R (sg S) o0 x1 o2 o3 = d182 := by
          subst hd183
          exact zl_X7_mix_4 q104 q170 q175
        exact tt_vreturn dX7_mix_122 rfl (hP _ _ _ _ ⟨hG178, hA180, Or.inl ⟨_, rfl, rfl, Eq.trans hs185 hF.symm, rfl, rfl⟩⟩)
      · skip
        have h186 : Rg 1 1 (Z_X7_isNatural R (sg S) o2) := rg_ne_lo h173 (⟨by decide, by decide⟩ : Rg 0 0 0) q175
        refine tt_aload_n (j := 3) dX7_mix_60 rfl ?_
        refine gt_VIp (As := []) dX7_mix_61 ca_X7_86 ⟨by decide, by decide⟩ h3 hA rfl (Nat.le_of_ble_eq_true rfl) (Nat.le_of_ble_eq_true rfl) (by decide) (cz_X7_isNatural hG (oa_af h3 hA) hR (fun _ _ _ _ h => h)) rfl (fun _ h => nomatch h) (fun _ _ q => q.1) (fun x187 h188 hx189 => ?_)
        obtain rfl : Z_X7_isNatural R (sg S) o3 = x187 := ((ei_w hx189.2).trans (congrArg (fun q9 => Z_X7_isNatural R q9 o3) (show sg S = (sg S) from rfl))).symm
        refine tt_if_eq (tgt := 118) dX7_mix_64 rfl (fun q190 => ?_) (fun q190 => ?_)
        · skip
          have h191 : Rg 0 0 (Z_X7_isNatural R (sg S) o3) := rg_eq_l h188 (⟨by decide, by decide⟩ : Rg 0 0 0) q190
          refine tt_aload_n (j := 0) dX7_mix_118 rfl ?_
          refine gt_Vv (As := []) dX7_mix_119 ca_X7_33 ⟨by decide, by decide⟩ h0 hA rfl (Nat.le_of_ble_eq_true rfl) (Nat.le_of_ble_eq_true rfl) (by decide) (cz_X7_becomeAny hG (oa_af h0 hA) hR (fun _ _ _ _ h => h)) rfl (fun _ h => nomatch h) (fun S192 hx196 hG193 hB194 hA195 => ?_)
          obtain ⟨d197, hd198⟩ : ∃ q, Z_X7_becomeAny R (sg S) o0 = q := ⟨_, rfl⟩
          have hq199 := (congrArg (fun q9 => Z_X7_becomeAny R q9 o0) (show sg S = (sg S) from rfl)).trans hd198
          have hs200 := hx196.trans hq199
          have hF : Z_X7_mix R (sg S) o0 x1 o2 o3 = d197 := by
            subst hd198
            exact zl_X7_mix_5 q104 q170 q175 q190
          exact tt_vreturn dX7_mix_122 rfl (hP _ _ _ _ ⟨hG193, hA195, Or.inl ⟨_, rfl, rfl, Eq.trans hs200 hF.symm, rfl, rfl⟩⟩)
        · skip
          have h201 : Rg 1 1 (Z_X7_isNatural R (sg S) o3) := rg_ne_lo h188 (⟨by decide, by decide⟩ : Rg 0 0 0) q190
          refine tt_aload_n (j := 2) dX7_mix_67 rfl ?_
          refine gt_gJ (id := 449) (v := (mJ (sg S) 449 o2)) dX7_mix_68 fl_7_26 rfl rfl h2 hA (sg_J (k := 449) (o := o2) (show sg S = (sg S) from rfl)) ?_
          refine tt_aload_n (j := 3) dX7_mix_71 rfl ?_
          refine gt_gJ (id := 449) (v := (mJ (sg S) 449 o3)) dX7_mix_72 fl_7_26 rfl rfl h3 hA (sg_J (k := 449) (o := o3) (show sg S = (sg S) from rfl)) ?_
          refine gt_SJp (As := [.long (mJ (sg S) 449 o2), .long (mJ (sg S) 449 o3)]) dX7_mix_75 ca_X7_45 ⟨by decide, by decide⟩ hA (Nat.le_of_ble_eq_true rfl) (Nat.le_of_ble_eq_true rfl) (by decide) (cz_J9_max_f86c9 hG  (fun _ _ _ _ h => h)) rfl (fun _ h => nomatch h) (fun _ _ q => q.1) (fun y202 hx204 => ?_)
          obtain rfl : Z_J9_max_f86c9 ((mJ (sg S) 449 o2)) ((mJ (sg S) 449 o3)) = y202 := ((el_w hx204.2).trans rfl).symm
          refine gt_SJp (As := [.long (Z_J9_max_f86c9 ((mJ (sg S) 449 o2)) ((mJ (sg S) 449 o3)))]) dX7_mix_78 ca_X7_108 ⟨by decide, by decide⟩ hA (Nat.le_of_ble_eq_true rfl) (Nat.le_of_ble_eq_true rfl) (by decide) (cz_J13_highestOneBit_067f4 hG  (fun _ _ _ _ h => h)) rfl (fun _ h => nomatch h) (fun _ _ q => q.1) (fun y205 hx207 => ?_)
          obtain rfl : Z_J13_highestOneBit_067f4 ((Z_J9_max_f86c9 ((mJ (sg S) 449 o2)) ((mJ (sg S) 449 o3)))) = y205 := ((el_w hx207.2).trans rfl).symm
          refine tt_lstore (ks := [0, 1, 2, 3, 4]) (L' := [(4, .long (Z_J13_highestOneBit_067f4 ((Z_J9_max_f86c9 ((mJ (sg S) 449 o2)) ((mJ (sg S) 449 o3)))))), (0, .ref o0), (1, .int x1), (2, .ref o2), (3, .ref o3)]) dX7_mix_81 (by decide) rfl ?_
          refine tt_aload_n (j := 1) dX7_mix_83 rfl ?_
          refine tt_iload_n (j := 2) dX7_mix_84 rfl ?_
          refine tt_if_eq (tgt := 102) dX7_mix_85 rfl (fun q208 => ?_) (fun q208 => ?_)
          · skip
            have h209 : Rg 0 0 x1 := rg_eq_l h1 (⟨by decide, by decide⟩ : Rg 0 0 0) q208
            refine tt_lconst (v := 0) dX7_mix_102 rfl ?_
            refine tt_ldc2 (v := 2) dX7_mix_103 kl_7_111 ?_
            refine tt_lload (j := 0) dX7_mix_106 rfl ?_
            refine tt_lmul dX7_mix_108 ?_
            refine tt_lconst (v := 1) dX7_mix_109 rfl ?_
            refine tt_lsub dX7_mix_110 ?_
            refine tt_lconst (v := 1) dX7_mix_111 rfl ?_
            refine gt_Vv (As := [.long 0, .long ((2 * (Z_J13_highestOneBit_067f4 ((Z_J9_max_f86c9 ((mJ (sg S) 449 o2)) ((mJ (sg S) 449 o3)))))) - 1), .long 1]) dX7_mix_112 ca_X7_48 ⟨by decide, by decide⟩ h0 hA rfl (Nat.le_of_ble_eq_true rfl) (Nat.le_of_ble_eq_true rfl) (by decide) (cz_X7_become hG (oa_af h0 hA) hR (fun _ _ _ _ h => h)) rfl (fun _ h => nomatch h) (fun S210 hx214 hG211 hB212 hA213 => ?_)
            obtain ⟨d215, hd216⟩ : ∃ q, Z_X7_become R (sg S) o0 (0) (((2 * (Z_J13_highestOneBit_067f4 ((Z_J9_max_f86c9 ((mJ (sg S) 449 o2)) ((mJ (sg S) 449 o3)))))) - 1)) (1) = q := ⟨_, rfl⟩
            have hq217 := (congrArg (fun q9 => Z_X7_become R q9 o0 (0) (((2 * (Z_J13_highestOneBit_067f4 ((Z_J9_max_f86c9 ((mJ (sg S) 449 o2)) ((mJ (sg S) 449 o3)))))) - 1)) (1)) (show sg S = (sg S) from rfl)).trans hd216
            have hs218 := hx214.trans hq217
            refine tt_goto (tgt := 122) dX7_mix_115 rfl ?_
            have hF : Z_X7_mix R (sg S) o0 x1 o2 o3 = d215 := by
              subst hd216
              exact zl_X7_mix_6 q104 q170 q175 q190 q208
            exact tt_vreturn dX7_mix_122 rfl (hP _ _ _ _ ⟨hG211, hA213, Or.inl ⟨_, rfl, rfl, Eq.trans hs218 hF.symm, rfl, rfl⟩⟩)
          · skip
            have h219 : Rg 1 1 x1 := rg_ne_lo h1 (⟨by decide, by decide⟩ : Rg 0 0 0) q208
            refine tt_aload_n (j := 3) dX7_mix_88 rfl ?_
            refine gt_gJ (id := 448) (v := (mJ (sg S) 448 o2)) dX7_mix_89 fl_7_23 rfl rfl h2 hA (sg_J (k := 448) (o := o2) (show sg S = (sg S) from rfl)) ?_
            refine tt_aload_n (j := 4) dX7_mix_92 rfl ?_
            refine gt_gJ (id := 448) (v := (mJ (sg S) 448 o3)) dX7_mix_93 fl_7_23 rfl rfl h3 hA (sg_J (k := 448) (o := o3) (show sg S = (sg S) from rfl)) ?_
            refine gt_SJp (As := [.long (mJ (sg S) 448 o2), .long (mJ (sg S) 448 o3)]) dX7_mix_96 ca_X7_45 ⟨by decide, by decide⟩ hA (Nat.le_of_ble_eq_true rfl) (Nat.le_of_ble_eq_true rfl) (by decide) (cz_J9_max_f86c9 hG  (fun _ _ _ _ h => h)) rfl (fun _ h => nomatch h) (fun _ _ q => q.1) (fun y220 hx222 => ?_)
            obtain rfl : Z_J9_max_f86c9 ((mJ (sg S) 448 o2)) ((mJ (sg S) 448 o3)) = y220 := ((el_w hx222.2).trans rfl).symm
            refine tt_goto (tgt := 103) dX7_mix_99 rfl ?_
            refine tt_ldc2 (v := 2) dX7_mix_103 kl_7_111 ?_
            refine tt_lload (j := 0) dX7_mix_106 rfl ?_
            refine tt_lmul dX7_mix_108 ?_
            refine tt_lconst (v := 1) dX7_mix_109 rfl ?_
            refine tt_lsub dX7_mix_110 ?_
            refine tt_lconst (v := 1) dX7_mix_111 rfl ?_
            refine gt_Vv (As := [.long (Z_J9_max_f86c9 ((mJ (sg S) 448 o2)) ((mJ (sg S) 448 o3))), .long ((2 * (Z_J13_highestOneBit_067f4 ((Z_J9_max_f86c9 ((mJ (sg S) 449 o2)) ((mJ (sg S) 449 o3)))))) - 1), .long 1]) dX7_mix_112 ca_X7_48 ⟨by decide, by decide⟩ h0 hA rfl (Nat.le_of_ble_eq_true rfl) (Nat.le_of_ble_eq_true rfl) (by decide) (cz_X7_become hG (oa_af h0 hA) hR (fun _ _ _ _ h => h)) rfl (fun _ h => nomatch h) (fun S223 hx227 hG224 hB225 hA226 => ?_)
            obtain ⟨d228, hd229⟩ : ∃ q, Z_X7_become R (sg S) o0 ((Z_J9_max_f86c9 ((mJ (sg S) 448 o2)) ((mJ (sg S) 448 o3)))) (((2 * (Z_J13_highestOneBit_067f4 ((Z_J9_max_f86c9 ((mJ (sg S) 449 o2)) ((mJ (sg S) 449 o3)))))) - 1)) (1) = q := ⟨_, rfl⟩
            have hq230 := (congrArg (fun q9 => Z_X7_become R q9 o0 ((Z_J9_max_f86c9 ((mJ (sg S) 448 o2)) ((mJ (sg S) 448 o3)))) (((2 * (Z_J13_highestOneBit_067f4 ((Z_J9_max_f86c9 ((mJ (sg S) 449 o2)) ((mJ (sg S) 449 o3)))))) - 1)) (1)) (show sg S = (sg S) from rfl)).trans hd229
            have hs231 := hx227.trans hq230
            refine tt_goto (tgt := 122) dX7_mix_115 rfl ?_
            have hF : Z_X7_mix R (sg S) o0 x1 o2 o3 = d228 := by
              subst hd229
              exact zl_X7_mix_7 q104 q170 q175 q190 q208
            exact tt_vreturn dX7_mix_122 rfl (hP _ _ _ _ ⟨hG224, hA226, Or.inl ⟨_, rfl, rfl, Eq.trans hs231 hF.symm, rfl, rfl⟩⟩)
    · skip
      have h232 : Rg 1 1 (Z_X7_isSingle R (sg S) o3) := rg_ne_lo h168 (⟨by decide, by decide⟩ : Rg 0 0 0) q170
      refine tt_iload_n (j := 1) dX7_mix_14 rfl ?_
      refine tt_if_eq (tgt := 30) dX7_mix_15 rfl (fun q233 => ?_) (fun q233 => ?_)
      · skip
        have h234 : Rg 0 0 x1 := rg_eq_l h1 (⟨by decide, by decide⟩ : Rg 0 0 0) q233
        refine tt_aload_n (j := 2) dX7_mix_30 rfl ?_
        refine gt_gJ (id := 448) (v := (mJ (sg S) 448 o2)) dX7_mix_31 fl_7_23 rfl rfl h2 hA (sg_J (k := 448) (o := o2) (show sg S = (sg S) from rfl)) ?_
        refine tt_aload_n (j := 3) dX7_mix_34 rfl ?_
        refine gt_gJ (id := 448) (v := (mJ (sg S) 448 o3)) dX7_mix_35 fl_7_23 rfl rfl h3 hA (sg_J (k := 448) (o := o3) (show sg S = (sg S) from rfl)) ?_
        refine tt_lxor dX7_mix_38 ?_
        refine tt_lstore (ks := [0, 1, 2, 3, 4]) (L' := [(4, .long ((mJ (sg S) 448 o2) ^^^ (mJ (sg S) 448 o3))), (0, .ref o0), (1, .int x1), (2, .ref o2), (3, .ref o3)]) dX7_mix_39 (by decide) rfl ?_
        refine tt_aload_n (j := 1) dX7_mix_41 rfl ?_
        refine tt_lload (j := 0) dX7_mix_42 rfl ?_
        refine tt_lload (j := 0) dX7_mix_44 rfl ?_
        refine tt_lconst (v := 0) dX7_mix_46 rfl ?_
        refine gt_Vv (As := [.long ((mJ (sg S) 448 o2) ^^^ (mJ (sg S) 448 o3)), .long ((mJ (sg S) 448 o2) ^^^ (mJ (sg S) 448 o3)), .long 0]) dX7_mix_47 ca_X7_48 ⟨by decide, by decide⟩ h0 hA rfl (Nat.le_of_ble_eq_true rfl) (Nat.le_of_ble_eq_true rfl) (by decide) (cz_X7_become hG (oa_af h0 hA) hR (fun _ _ _ _ h => h)) rfl (fun _ h => nomatch h) (fun S235 hx239 hG236 hB237 hA238 => ?_)
        obtain ⟨d240, hd241⟩ : ∃ q, Z_X7_become R (sg S) o0 (((mJ (sg S) 448 o2) ^^^ (mJ (sg S) 448 o3))) (((mJ (sg S) 448 o2) ^^^ (mJ (sg S) 448 o3))) (0) = q := ⟨_, rfl⟩
        have hq242 := (congrArg (fun q9 => Z_X7_become R q9 o0 (((mJ (sg S) 448 o2) ^^^ (mJ (sg S) 448 o3))) (((mJ (sg S) 448 o2) ^^^ (mJ (sg S) 448 o3))) (0)) (show sg S = (sg S) from rfl)).trans hd241
        have hs243 := hx239.trans hq242
        refine tt_goto (tgt := 122) dX7_mix_50 rfl ?_
        have hF : Z_X7_mix R (sg S) o0 x1 o2 o3 = d240 := by
          subst hd241
          exact zl_X7_mix_8 q104 q170 q233
        exact tt_vreturn dX7_mix_122 rfl (hP _ _ _ _ ⟨hG236, hA238, Or.inl ⟨_, rfl, rfl, Eq.trans hs243 hF.symm, rfl, rfl⟩⟩)
      · skip
        have h244 : Rg 1 1 x1 := rg_ne_lo h1 (⟨by decide, by decide⟩ : Rg 0 0 0) q233
        refine tt_aload_n (j := 2) dX7_mix_18 rfl ?_
        refine gt_gJ (id := 448) (v := (mJ (sg S) 448 o2)) dX7_mix_19 fl_7_23 rfl rfl h2 hA (sg_J (k := 448) (o := o2) (show sg S = (sg S) from rfl)) ?_
        refine tt_aload_n (j := 3) dX7_mix_22 rfl ?_
        refine gt_gJ (id := 448) (v := (mJ (sg S) 448 o3)) dX7_mix_23 fl_7_23 rfl rfl h3 hA (sg_J (k := 448) (o := o3) (show sg S = (sg S) from rfl)) ?_
        refine tt_lor dX7_mix_26 ?_
        refine tt_goto (tgt := 39) dX7_mix_27 rfl ?_
        refine tt_lstore (ks := [0, 1, 2, 3, 4]) (L' := [(4, .long ((mJ (sg S) 448 o2) ||| (mJ (sg S) 448 o3))), (0, .ref o0), (1, .int x1), (2, .ref o2), (3, .ref o3)]) dX7_mix_39 (by decide) rfl ?_
        refine tt_aload_n (j := 1) dX7_mix_41 rfl ?_
        refine tt_lload (j := 0) dX7_mix_42 rfl ?_
        refine tt_lload (j := 0) dX7_mix_44 rfl ?_
        refine tt_lconst (v := 0) dX7_mix_46 rfl ?_
        refine gt_Vv (As := [.long ((mJ (sg S) 448 o2) ||| (mJ (sg S) 448 o3)), .long ((mJ (sg S) 448 o2) ||| (mJ (sg S) 448 o3)), .long 0]) dX7_mix_47 ca_X7_48 ⟨by decide, by decide⟩ h0 hA rfl (Nat.le_of_ble_eq_true rfl) (Nat.le_of_ble_eq_true rfl) (by decide) (cz_X7_become hG (oa_af h0 hA) hR (fun _ _ _ _ h => h)) rfl (fun _ h => nomatch h) (fun S245 hx249 hG246 hB247 hA248 => ?_)
        obtain ⟨d250, hd251⟩ : ∃ q, Z_X7_become R (sg S) o0 (((mJ (sg S) 448 o2) ||| (mJ (sg S) 448 o3))) (((mJ (sg S) 448 o2) ||| (mJ (sg S) 448 o3))) (0) = q := ⟨_, rfl⟩
        have hq252 := (congrArg (fun q9 => Z_X7_become R q9 o0 (((mJ (sg S) 448 o2) ||| (mJ (sg S) 448 o3))) (((mJ (sg S) 448 o2) ||| (mJ (sg S) 448 o3))) (0)) (show sg S = (sg S) from rfl)).trans hd251
        have hs253 := hx249.trans hq252
        refine tt_goto (tgt := 122) dX7_mix_50 rfl ?_
        have hF : Z_X7_mix R (sg S) o0 x1 o2 o3 = d250 := by
          subst hd251
          exact zl_X7_mix_9 q104 q170 q233
        exact tt_vreturn dX7_mix_122 rfl (hP _ _ _ _ ⟨hG246, hA248, Or.inl ⟨_, rfl, rfl, Eq.trans hs253 hF.symm, rfl, rfl⟩⟩)
def Z_X7_shiftRight (R : Nat → Nat → Nat) (σ : SG) (o0 : Nat) (o1 : Nat) (x2 : Int32) : SG :=
  if x2 = 0 then
    let d152 := Z_X7_copyFrom R σ o0 o1
    d152
  else
    if (Z_X7_isAny R σ o1) = 0 then
      if ((mJ σ 450 o1) &&& ((1 <<< ((x2 : Int32).toInt64 &&& 63)) - 1)) = (0 : Int64) then
        if ((mJ σ 448 o1) &&& ((1 <<< ((x2 : Int32).toInt64 &&& 63)) - 1)) = (0 : Int64) then
          let d132 := Z_X7_become R σ o0 (((mJ σ 448 o1) >>> ((x2 : Int32).toInt64 &&& 63))) (((mJ σ 449 o1) >>> ((x2 : Int32).toInt64 &&& 63))) (((mJ σ 450 o1) >>> ((x2 : Int32).toInt64 &&& 63)))
          d132
        else
          let d123 := Z_X7_become R σ o0 (((mJ σ 448 o1) >>> ((x2 : Int32).toInt64 &&& 63))) (((mJ σ 449 o1) >>> ((x2 : Int32).toInt64 &&& 63))) (1)
          d123
      else
        let d113 := Z_X7_become R σ o0 (((mJ σ 448 o1) >>> ((x2 : Int32).toInt64 &&& 63))) (((mJ σ 449 o1) >>> ((x2 : Int32).toInt64 &&& 63))) (1)
        d113
    else
      let d142 := Z_X7_become R σ o0 ((-(1 <<< (((63 - x2) : Int32).toInt64 &&& 63)))) (((1 <<< (((63 - x2) : Int32).toInt64 &&& 63)) - 1)) (1)
      d142
theorem zl_X7_shiftRight_0 {R : Nat → Nat → Nat} {σ : SG} {o0 : Nat} {o1 : Nat} {x2 : Int32} (h0 : x2 = 0) : Z_X7_shiftRight R σ o0 o1 x2 = (Z_X7_copyFrom R σ o0 o1) := by unfold Z_X7_shiftRight; exact if_pos h0
theorem zl_X7_shiftRight_1 {R : Nat → Nat → Nat} {σ : SG} {o0 : Nat} {o1 : Nat} {x2 : Int32} (h0 : ¬ x2 = 0) (h1 : (Z_X7_isAny R σ o1) = 0) (h2 : ((mJ σ 450 o1) &&& ((1 <<< ((x2 : Int32).toInt64 &&& 63)) - 1)) = (0 : Int64)) (h3 : ((mJ σ 448 o1) &&& ((1 <<< ((x2 : Int32).toInt64 &&& 63)) - 1)) = (0 : Int64)) : Z_X7_shiftRight R σ o0 o1 x2 = (Z_X7_become R σ o0 (((mJ σ 448 o1) >>> ((x2 : Int32).toInt64 &&& 63))) (((mJ σ 449 o1) >>> ((x2 : Int32).toInt64 &&& 63))) (((mJ σ 450 o1) >>> ((x2 : Int32).toInt64 &&& 63)))) := by unfold Z_X7_shiftRight; exact Eq.trans (if_neg h0) (Eq.trans (if_pos h1) (Eq.trans (if_pos h2) (if_pos h3)))
theorem zl_X7_shiftRight_2 {R : Nat → Nat → Nat} {σ : SG} {o0 : Nat} {o1 : Nat} {x2 : Int32} (h0 : ¬ x2 = 0) (h1 : (Z_X7_isAny R σ o1) = 0) (h2 : ((mJ σ 450 o1) &&& ((1 <<< ((x2 : Int32).toInt64 &&& 63)) - 1)) = (0 : Int64)) (h3 : ¬ ((mJ σ 448 o1) &&& ((1 <<< ((x2 : Int32).toInt64 &&& 63)) - 1)) = (0 : Int64)) : Z_X7_shiftRight R σ o0 o1 x2 = (Z_X7_become R σ o0 (((mJ σ 448 o1) >>> ((x2 : Int32).toInt64 &&& 63))) (((mJ σ 449 o1) >>> ((x2 : Int32).toInt64 &&& 63))) (1)) := by unfold Z_X7_shiftRight; exact Eq.trans (if_neg h0) (Eq.trans (if_pos h1) (Eq.trans (if_pos h2) (if_neg h3)))
theorem zl_X7_shiftRight_3 {R : Nat → Nat → Nat} {σ : SG} {o0 : Nat} {o1 : Nat} {x2 : Int32} (h0 : ¬ x2 = 0) (h1 : (Z_X7_isAny R σ o1) = 0) (h2 : ¬ ((mJ σ 450 o1) &&& ((1 <<< ((x2 : Int32).toInt64 &&& 63)) - 1)) = (0 : Int64)) : Z_X7_shiftRight R σ o0 o1 x2 = (Z_X7_become R σ o0 (((mJ σ 448 o1) >>> ((x2 : Int32).toInt64 &&& 63))) (((mJ σ 449 o1) >>> ((x2 : Int32).toInt64 &&& 63))) (1)) := by unfold Z_X7_shiftRight; exact Eq.trans (if_neg h0) (Eq.trans (if_pos h1) (if_neg h2))
theorem zl_X7_shiftRight_4 {R : Nat → Nat → Nat} {σ : SG} {o0 : Nat} {o1 : Nat} {x2 : Int32} (h0 : ¬ x2 = 0) (h1 : ¬ (Z_X7_isAny R σ o1) = 0) : Z_X7_shiftRight R σ o0 o1 x2 = (Z_X7_become R σ o0 ((-(1 <<< (((63 - x2) : Int32).toInt64 &&& 63)))) (((1 <<< (((63 - x2) : Int32).toInt64 &&& 63)) - 1)) (1)) := by unfold Z_X7_shiftRight; exact Eq.trans (if_neg h0) (if_neg h1)
set_option maxHeartbeats 40000000 in
theorem cz_X7_shiftRight {xi : SX} {S : Hp} {E : List Nat} {kc nc : Nat} {P : Po} {o0 : Nat} {o1 : Nat} {x2 : Int32} {R : Nat → Nat → Nat} (hG : GI S E) (h0 : Oa S E 7 0 o0) (h1 : Oa S E 7 0 o1) (hR : RK S R) (hP : ∀ r T x y, PV E [9987] S kc nc rV (fun v T => sg T = Z_X7_shiftRight R (sg S) o0 o1 x2) [] r T x y → P r T x y) : TT xi M_X7_shiftRight 0 [(0, .ref o0), (1, .ref o1), (2, .int x2)] [] S kc nc P := by
  have hA : Af E [9987] S S := af_rf
  refine tt_iload_n (j := 2) dX7_shiftRight_0 rfl ?_
  refine tt_if_ne (tgt := 10) dX7_shiftRight_1 rfl (fun q101 => ?_) (fun q101 => ?_)
  · skip
    refine tt_aload_n (j := 1) dX7_shiftRight_10 rfl ?_
    refine gt_VIp (As := []) dX7_shiftRight_11 ca_X7_29 ⟨by decide, by decide⟩ h1 hA rfl (Nat.le_of_ble_eq_true rfl) (Nat.le_of_ble_eq_true rfl) (by decide) (cz_X7_isAny hG (oa_af h1 hA) hR (fun _ _ _ _ h => h)) rfl (fun _ h => nomatch h) (fun _ _ q => q.1) (fun x102 h103 hx104 => ?_)
    obtain rfl : Z_X7_isAny R (sg S) o1 = x102 := ((ei_w hx104.2).trans (congrArg (fun q9 => Z_X7_isAny R q9 o1) (show sg S = (sg S) from rfl))).symm
    refine tt_if_eq (tgt := 35) dX7_shiftRight_14 rfl (fun q105 => ?_) (fun q105 => ?_)
    · skip
      have h106 : Rg 0 0 (Z_X7_isAny R (sg S) o1) := rg_eq_l h103 (⟨by decide, by decide⟩ : Rg 0 0 0) q105
      refine tt_lconst (v := 1) dX7_shiftRight_35 rfl ?_
      refine tt_iload_n (j := 2) dX7_shiftRight_36 rfl ?_
      refine tt_lshl dX7_shiftRight_37 ?_
      refine tt_lconst (v := 1) dX7_shiftRight_38 rfl ?_
      refine tt_lsub dX7_shiftRight_39 ?_
      refine tt_lstore_n (ks := [0, 1, 2, 3]) (L' := [(3, .long ((1 <<< ((x2 : Int32).toInt64 &&& 63)) - 1)), (0, .ref o0), (1, .ref o1), (2, .int x2)]) dX7_shiftRight_40 (by decide) rfl ?_
      refine tt_aload_n (j := 2) dX7_shiftRight_41 rfl ?_
      refine gt_gJ (id := 450) (v := (mJ (sg S) 450 o1)) dX7_shiftRight_42 fl_7_15 rfl rfl h1 hA (sg_J (k := 450) (o := o1) (show sg S = (sg S) from rfl)) ?_
      refine tt_lload_n (j := 0) dX7_shiftRight_45 rfl ?_
      refine tt_land dX7_shiftRight_46 ?_
      refine tt_lconst (v := 0) dX7_shiftRight_47 rfl ?_
      refine tt_lcmp dX7_shiftRight_48 ?_
      refine tt_if_ne (tgt := 67) dX7_shiftRight_49 rfl (fun q107 => ?_) (fun q107 => ?_)
      · skip
        refine tt_iconst (v := 0) dX7_shiftRight_67 rfl ?_
        refine tt_istore (ks := [0, 1, 2, 3, 4]) (L' := [(5, .int 0), (3, .long ((1 <<< ((x2 : Int32).toInt64 &&& 63)) - 1)), (0, .ref o0), (1, .ref o1), (2, .int x2)]) dX7_shiftRight_68 (by decide) rfl ?_
        refine tt_aload_n (j := 2) dX7_shiftRight_70 rfl ?_
        refine tt_aload_n (j := 3) dX7_shiftRight_71 rfl ?_
        refine gt_gJ (id := 448) (v := (mJ (sg S) 448 o1)) dX7_shiftRight_72 fl_7_23 rfl rfl h1 hA (sg_J (k := 448) (o := o1) (show sg S = (sg S) from rfl)) ?_
        refine tt_iload_n (j := 4) dX7_shiftRight_75 rfl ?_
        refine tt_lshr dX7_shiftRight_76 ?_
        refine tt_aload_n (j := 3) dX7_shiftRight_77 rfl ?_
        refine gt_gJ (id := 449) (v := (mJ (sg S) 449 o1)) dX7_shiftRight_78 fl_7_26 rfl rfl h1 hA (sg_J (k := 449) (o := o1) (show sg S = (sg S) from rfl)) ?_
        refine tt_iload_n (j := 4) dX7_shiftRight_81 rfl ?_
        refine tt_lshr dX7_shiftRight_82 ?_
        refine tt_iload (j := 0) dX7_shiftRight_83 rfl ?_
        refine tt_if_eq (tgt := 97) dX7_shiftRight_85 rfl (fun _ => ?_) (fun q => absurd q (by decide))
        refine tt_lconst (v := 1) dX7_shiftRight_97 rfl ?_
        refine gt_Vv (As := [.long ((mJ (sg S) 448 o1) >>> ((x2 : Int32).toInt64 &&& 63)), .long ((mJ (sg S) 449 o1) >>> ((x2 : Int32).toInt64 &&& 63)), .long 1]) dX7_shiftRight_98 ca_X7_48 ⟨by decide, by decide⟩ h0 hA rfl (Nat.le_of_ble_eq_true rfl) (Nat.le_of_ble_eq_true rfl) (by decide) (cz_X7_become hG (oa_af h0 hA) hR (fun _ _ _ _ h => h)) rfl (fun _ h => nomatch h) (fun S108 hx112 hG109 hB110 hA111 => ?_)
        obtain ⟨d113, hd114⟩ : ∃ q, Z_X7_become R (sg S) o0 (((mJ (sg S) 448 o1) >>> ((x2 : Int32).toInt64 &&& 63))) (((mJ (sg S) 449 o1) >>> ((x2 : Int32).toInt64 &&& 63))) (1) = q := ⟨_, rfl⟩
        have hq115 := (congrArg (fun q9 => Z_X7_become R q9 o0 (((mJ (sg S) 448 o1) >>> ((x2 : Int32).toInt64 &&& 63))) (((mJ (sg S) 449 o1) >>> ((x2 : Int32).toInt64 &&& 63))) (1)) (show sg S = (sg S) from rfl)).trans hd114
        have hs116 := hx112.trans hq115
        have hF : Z_X7_shiftRight R (sg S) o0 o1 x2 = d113 := by
          subst hd114
          exact zl_X7_shiftRight_3 q101 q105 (lc_ne_t q107)
        exact tt_vreturn dX7_shiftRight_101 rfl (hP _ _ _ _ ⟨hG109, hA111, Or.inl ⟨_, rfl, rfl, Eq.trans hs116 hF.symm, rfl, rfl⟩⟩)
      · skip
        refine tt_aload_n (j := 2) dX7_shiftRight_52 rfl ?_
        refine gt_gJ (id := 448) (v := (mJ (sg S) 448 o1)) dX7_shiftRight_53 fl_7_23 rfl rfl h1 hA (sg_J (k := 448) (o := o1) (show sg S = (sg S) from rfl)) ?_
        refine tt_lload_n (j := 0) dX7_shiftRight_56 rfl ?_
        refine tt_land dX7_shiftRight_57 ?_
        refine tt_lconst (v := 0) dX7_shiftRight_58 rfl ?_
        refine tt_lcmp dX7_shiftRight_59 ?_
        refine tt_if_ne (tgt := 67) dX7_shiftRight_60 rfl (fun q117 => ?_) (fun q117 => ?_)
        · skip
          refine tt_iconst (v := 0) dX7_shiftRight_67 rfl ?_
          refine tt_istore (ks := [0, 1, 2, 3, 4]) (L' := [(5, .int 0), (3, .long ((1 <<< ((x2 : Int32).toInt64 &&& 63)) - 1)), (0, .ref o0), (1, .ref o1), (2, .int x2)]) dX7_shiftRight_68 (by decide) rfl ?_
          refine tt_aload_n (j := 2) dX7_shiftRight_70 rfl ?_
          refine tt_aload_n (j := 3) dX7_shiftRight_71 rfl ?_
          refine gt_gJ (id := 448) (v := (mJ (sg S) 448 o1)) dX7_shiftRight_72 fl_7_23 rfl rfl h1 hA (sg_J (k := 448) (o := o1) (show sg S = (sg S) from rfl)) ?_
          refine tt_iload_n (j := 4) dX7_shiftRight_75 rfl ?_
          refine tt_lshr dX7_shiftRight_76 ?_
          refine tt_aload_n (j := 3) dX7_shiftRight_77 rfl ?_
          refine gt_gJ (id := 449) (v := (mJ (sg S) 449 o1)) dX7_shiftRight_78 fl_7_26 rfl rfl h1 hA (sg_J (k := 449) (o := o1) (show sg S = (sg S) from rfl)) ?_
          refine tt_iload_n (j := 4) dX7_shiftRight_81 rfl ?_
          refine tt_lshr dX7_shiftRight_82 ?_
          refine tt_iload (j := 0) dX7_shiftRight_83 rfl ?_
          refine tt_if_eq (tgt := 97) dX7_shiftRight_85 rfl (fun _ => ?_) (fun q => absurd q (by decide))
          refine tt_lconst (v := 1) dX7_shiftRight_97 rfl ?_
          refine gt_Vv (As := [.long ((mJ (sg S) 448 o1) >>> ((x2 : Int32).toInt64 &&& 63)), .long ((mJ (sg S) 449 o1) >>> ((x2 : Int32).toInt64 &&& 63)), .long 1]) dX7_shiftRight_98 ca_X7_48 ⟨by decide, by decide⟩ h0 hA rfl (Nat.le_of_ble_eq_true rfl) (Nat.le_of_ble_eq_true rfl) (by decide) (cz_X7_become hG (oa_af h0 hA) hR (fun _ _ _ _ h => h)) rfl (fun _ h => nomatch h) (fun S118 hx122 hG119 hB120 hA121 => ?_)
          obtain ⟨d123, hd124⟩ : ∃ q, Z_X7_become R (sg S) o0 (((mJ (sg S) 448 o1) >>> ((x2 : Int32).toInt64 &&& 63))) (((mJ (sg S) 449 o1) >>> ((x2 : Int32).toInt64 &&& 63))) (1) = q := ⟨_, rfl⟩
          have hq125 := (congrArg (fun q9 => Z_X7_become R q9 o0 (((mJ (sg S) 448 o1) >>> ((x2 : Int32).toInt64 &&& 63))) (((mJ (sg S) 449 o1) >>> ((x2 : Int32).toInt64 &&& 63))) (1)) (show sg S = (sg S) from rfl)).trans hd124
          have hs126 := hx122.trans hq125
          have hF : Z_X7_shiftRight R (sg S) o0 o1 x2 = d123 := by
            subst hd124
            exact zl_X7_shiftRight_2 q101 q105 (lc_ne_f q107) (lc_ne_t q117)
          exact tt_vreturn dX7_shiftRight_101 rfl (hP _ _ _ _ ⟨hG119, hA121, Or.inl ⟨_, rfl, rfl, Eq.trans hs126 hF.symm, rfl, rfl⟩⟩)
        · skip
          refine tt_iconst (v := 1) dX7_shiftRight_63 rfl ?_
          refine tt_goto (tgt := 68) dX7_shiftRight_64 rfl ?_
          refine tt_istore (ks := [0, 1, 2, 3, 4]) (L' := [(5, .int 1), (3, .long ((1 <<< ((x2 : Int32).toInt64 &&& 63)) - 1)), (0, .ref o0), (1, .ref o1), (2, .int x2)]) dX7_shiftRight_68 (by decide) rfl ?_
          refine tt_aload_n (j := 2) dX7_shiftRight_70 rfl ?_
          refine tt_aload_n (j := 3) dX7_shiftRight_71 rfl ?_
          refine gt_gJ (id := 448) (v := (mJ (sg S) 448 o1)) dX7_shiftRight_72 fl_7_23 rfl rfl h1 hA (sg_J (k := 448) (o := o1) (show sg S = (sg S) from rfl)) ?_
          refine tt_iload_n (j := 4) dX7_shiftRight_75 rfl ?_
          refine tt_lshr dX7_shiftRight_76 ?_
          refine tt_aload_n (j := 3) dX7_shiftRight_77 rfl ?_
          refine gt_gJ (id := 449) (v := (mJ (sg S) 449 o1)) dX7_shiftRight_78 fl_7_26 rfl rfl h1 hA (sg_J (k := 449) (o := o1) (show sg S = (sg S) from rfl)) ?_
          refine tt_iload_n (j := 4) dX7_shiftRight_81 rfl ?_
          refine tt_lshr dX7_shiftRight_82 ?_
          refine tt_iload (j := 0) dX7_shiftRight_83 rfl ?_
          refine tt_if_eq (tgt := 97) dX7_shiftRight_85 rfl (fun q => absurd q (by decide)) (fun _ => ?_)
          refine tt_aload_n (j := 3) dX7_shiftRight_88 rfl ?_
          refine gt_gJ (id := 450) (v := (mJ (sg S) 450 o1)) dX7_shiftRight_89 fl_7_15 rfl rfl h1 hA (sg_J (k := 450) (o := o1) (show sg S = (sg S) from rfl)) ?_
          refine tt_iload_n (j := 4) dX7_shiftRight_92 rfl ?_
          refine tt_lshr dX7_shiftRight_93 ?_
          refine tt_goto (tgt := 98) dX7_shiftRight_94 rfl ?_
          refine gt_Vv (As := [.long ((mJ (sg S) 448 o1) >>> ((x2 : Int32).toInt64 &&& 63)), .long ((mJ (sg S) 449 o1) >>> ((x2 : Int32).toInt64 &&& 63)), .long ((mJ (sg S) 450 o1) >>> ((x2 : Int32).toInt64 &&& 63))]) dX7_shiftRight_98 ca_X7_48 ⟨by decide, by decide⟩ h0 hA rfl (Nat.le_of_ble_eq_true rfl) (Nat.le_of_ble_eq_true rfl) (by decide) (cz_X7_become hG (oa_af h0 hA) hR (fun _ _ _ _ h => h)) rfl (fun _ h => nomatch h) (fun S127 hx131 hG128 hB129 hA130 => ?_)
          obtain ⟨d132, hd133⟩ : ∃ q, Z_X7_become R (sg S) o0 (((mJ (sg S) 448 o1) >>> ((x2 : Int32).toInt64 &&& 63))) (((mJ (sg S) 449 o1) >>> ((x2 : Int32).toInt64 &&& 63))) (((mJ (sg S) 450 o1) >>> ((x2 : Int32).toInt64 &&& 63))) = q := ⟨_, rfl⟩
          have hq134 := (congrArg (fun q9 => Z_X7_become R q9 o0 (((mJ (sg S) 448 o1) >>> ((x2 : Int32).toInt64 &&& 63))) (((mJ (sg S) 449 o1) >>> ((x2 : Int32).toInt64 &&& 63))) (((mJ (sg S) 450 o1) >>> ((x2 : Int32).toInt64 &&& 63)))) (show sg S = (sg S) from rfl)).trans hd133
          have hs135 := hx131.trans hq134
          have hF : Z_X7_shiftRight R (sg S) o0 o1 x2 = d132 := by
            subst hd133
            exact zl_X7_shiftRight_1 q101 q105 (lc_ne_f q107) (lc_ne_f q117)
          exact tt_vreturn dX7_shiftRight_101 rfl (hP _ _ _ _ ⟨hG128, hA130, Or.inl ⟨_, rfl, rfl, Eq.trans hs135 hF.symm, rfl, rfl⟩⟩)
    · skip
      have h136 : Rg 1 1 (Z_X7_isAny R (sg S) o1) := rg_ne_lo h103 (⟨by decide, by decide⟩ : Rg 0 0 0) q105
      refine tt_lconst (v := 1) dX7_shiftRight_17 rfl ?_
      refine tt_bipush (v := 63) dX7_shiftRight_18 rfl ?_
      refine tt_iload_n (j := 2) dX7_shiftRight_20 rfl ?_
      refine tt_isub dX7_shiftRight_21 ?_
      refine tt_lshl dX7_shiftRight_22 ?_
      refine tt_lstore_n (ks := [0, 1, 2, 3]) (L' := [(3, .long (1 <<< (((63 - x2) : Int32).toInt64 &&& 63))), (0, .ref o0), (1, .ref o1), (2, .int x2)]) dX7_shiftRight_23 (by decide) rfl ?_
      refine tt_aload_n (j := 1) dX7_shiftRight_24 rfl ?_
      refine tt_lload_n (j := 0) dX7_shiftRight_25 rfl ?_
      refine tt_lneg dX7_shiftRight_26 ?_
      refine tt_lload_n (j := 0) dX7_shiftRight_27 rfl ?_
      refine tt_lconst (v := 1) dX7_shiftRight_28 rfl ?_
      refine tt_lsub dX7_shiftRight_29 ?_
      refine tt_lconst (v := 1) dX7_shiftRight_30 rfl ?_
      refine gt_Vv (As := [.long (-(1 <<< (((63 - x2) : Int32).toInt64 &&& 63))), .long ((1 <<< (((63 - x2) : Int32).toInt64 &&& 63)) - 1), .long 1]) dX7_shiftRight_31 ca_X7_48 ⟨by decide, by decide⟩ h0 hA rfl (Nat.le_of_ble_eq_true rfl) (Nat.le_of_ble_eq_true rfl) (by decide) (cz_X7_become hG (oa_af h0 hA) hR (fun _ _ _ _ h => h)) rfl (fun _ h => nomatch h) (fun S137 hx141 hG138 hB139 hA140 => ?_)
      obtain ⟨d142, hd143⟩ : ∃ q, Z_X7_become R (sg S) o0 ((-(1 <<< (((63 - x2) : Int32).toInt64 &&& 63)))) (((1 <<< (((63 - x2) : Int32).toInt64 &&& 63)) - 1)) (1) = q := ⟨_, rfl⟩
      have hq144 := (congrArg (fun q9 => Z_X7_become R q9 o0 ((-(1 <<< (((63 - x2) : Int32).toInt64 &&& 63)))) (((1 <<< (((63 - x2) : Int32).toInt64 &&& 63)) - 1)) (1)) (show sg S = (sg S) from rfl)).trans hd143
      have hs145 := hx141.trans hq144
      have hF : Z_X7_shiftRight R (sg S) o0 o1 x2 = d142 := by
        subst hd143
        exact zl_X7_shiftRight_4 q101 q105
      exact tt_vreturn dX7_shiftRight_34 rfl (hP _ _ _ _ ⟨hG138, hA140, Or.inl ⟨_, rfl, rfl, Eq.trans hs145 hF.symm, rfl, rfl⟩⟩)
  · skip
    have h146 : Rg 0 0 x2 := rg_eq_l (rg_all x2) (⟨by decide, by decide⟩ : Rg 0 0 0) q101
    refine tt_aload_n (j := 0) dX7_shiftRight_4 rfl ?_
    refine tt_aload_n (j := 1) dX7_shiftRight_5 rfl ?_
    refine gt_Vv (As := [.ref o1]) dX7_shiftRight_6 ca_X7_89 ⟨by decide, by decide⟩ h0 hA rfl (Nat.le_of_ble_eq_true rfl) (Nat.le_of_ble_eq_true rfl) (by decide) (cz_X7_copyFrom hG (oa_af h0 hA) (oa_af h1 hA) hR (fun _ _ _ _ h => h)) rfl (fun _ h => nomatch h) (fun S147 hx151 hG148 hB149 hA150 => ?_)
    obtain ⟨d152, hd153⟩ : ∃ q, Z_X7_copyFrom R (sg S) o0 o1 = q := ⟨_, rfl⟩
    have hq154 := (congrArg (fun q9 => Z_X7_copyFrom R q9 o0 o1) (show sg S = (sg S) from rfl)).trans hd153
    have hs155 := hx151.trans hq154
    have hF : Z_X7_shiftRight R (sg S) o0 o1 x2 = d152 := by
      subst hd153
      exact zl_X7_shiftRight_0 q101
    exact tt_vreturn dX7_shiftRight_9 rfl (hP _ _ _ _ ⟨hG148, hA150, Or.inl ⟨_, rfl, rfl, Eq.trans hs155 hF.symm, rfl, rfl⟩⟩)
def Z_X7_takeLowHalf (R : Nat → Nat → Nat) (σ : SG) (o0 : Nat) : SG :=
  if (Z_X7_isAny R σ o0) = 0 then
    if (Z_X7_isSingle R σ o0) = 0 then
      if (mJ σ 448 o0) < (0 : Int64) then
        let d123 := Z_X7_become R σ o0 (((mJ σ 448 o0) &&& ((Z_J9_min_f86c9 ((Z_J13_lowestOneBit_067f4 ((mJ σ 450 o0)))) (4294967296)) - 1))) (((4294967296 - (Z_J9_min_f86c9 ((Z_J13_lowestOneBit_067f4 ((mJ σ 450 o0)))) (4294967296))) + ((mJ σ 448 o0) &&& ((Z_J9_min_f86c9 ((Z_J13_lowestOneBit_067f4 ((mJ σ 450 o0)))) (4294967296)) - 1)))) ((Z_J9_min_f86c9 ((Z_J13_lowestOneBit_067f4 ((mJ σ 450 o0)))) (4294967296)))
        d123
      else
        if (mJ σ 449 o0) < (4294967296 : Int64) then
          σ
        else
          let d139 := Z_X7_become R σ o0 (((mJ σ 448 o0) &&& ((Z_J9_min_f86c9 ((Z_J13_lowestOneBit_067f4 ((mJ σ 450 o0)))) (4294967296)) - 1))) (((4294967296 - (Z_J9_min_f86c9 ((Z_J13_lowestOneBit_067f4 ((mJ σ 450 o0)))) (4294967296))) + ((mJ σ 448 o0) &&& ((Z_J9_min_f86c9 ((Z_J13_lowestOneBit_067f4 ((mJ σ 450 o0)))) (4294967296)) - 1)))) ((Z_J9_min_f86c9 ((Z_J13_lowestOneBit_067f4 ((mJ σ 450 o0)))) (4294967296)))
          d139
    else
      let d149 := Z_X7_become R σ o0 (((mJ σ 448 o0) &&& 4294967295)) (((mJ σ 448 o0) &&& 4294967295)) (0)
      d149
  else
    let d159 := Z_X7_become R σ o0 (0) (4294967295) (1)
    d159
theorem zl_X7_takeLowHalf_0 {R : Nat → Nat → Nat} {σ : SG} {o0 : Nat} (h0 : (Z_X7_isAny R σ o0) = 0) (h1 : (Z_X7_isSingle R σ o0) = 0) (h2 : (mJ σ 448 o0) < (0 : Int64)) : Z_X7_takeLowHalf R σ o0 = (Z_X7_become R σ o0 (((mJ σ 448 o0) &&& ((Z_J9_min_f86c9 ((Z_J13_lowestOneBit_067f4 ((mJ σ 450 o0)))) (4294967296)) - 1))) (((4294967296 - (Z_J9_min_f86c9 ((Z_J13_lowestOneBit_067f4 ((mJ σ 450 o0)))) (4294967296))) + ((mJ σ 448 o0) &&& ((Z_J9_min_f86c9 ((Z_J13_lowestOneBit_067f4 ((mJ σ 450 o0)))) (4294967296)) - 1)))) ((Z_J9_min_f86c9 ((Z_J13_lowestOneBit_067f4 ((mJ σ 450 o0)))) (4294967296)))) := by unfold Z_X7_takeLowHalf; exact Eq.trans (if_pos h0) (Eq.trans (if_pos h1) (if_pos h2))
theorem zl_X7_takeLowHalf_1 {R : Nat → Nat → Nat} {σ : SG} {o0 : Nat} (h0 : (Z_X7_isAny R σ o0) = 0) (h1 : (Z_X7_isSingle R σ o0) = 0) (h2 : ¬ (mJ σ 448 o0) < (0 : Int64)) (h3 : (mJ σ 449 o0) < (4294967296 : Int64)) : Z_X7_takeLowHalf R σ o0 = σ := by unfold Z_X7_takeLowHalf; exact Eq.trans (if_pos h0) (Eq.trans (if_pos h1) (Eq.trans (if_neg h2) (if_pos h3)))
theorem zl_X7_takeLowHalf_2 {R : Nat → Nat → Nat} {σ : SG} {o0 : Nat} (h0 : (Z_X7_isAny R σ o0) = 0) (h1 : (Z_X7_isSingle R σ o0) = 0) (h2 : ¬ (mJ σ 448 o0) < (0 : Int64)) (h3 : ¬ (mJ σ 449 o0) < (4294967296 : Int64)) : Z_X7_takeLowHalf R σ o0 = (Z_X7_become R σ o0 (((mJ σ 448 o0) &&& ((Z_J9_min_f86c9 ((Z_J13_lowestOneBit_067f4 ((mJ σ 450 o0)))) (4294967296)) - 1))) (((4294967296 - (Z_J9_min_f86c9 ((Z_J13_lowestOneBit_067f4 ((mJ σ 450 o0)))) (4294967296))) + ((mJ σ 448 o0) &&& ((Z_J9_min_f86c9 ((Z_J13_lowestOneBit_067f4 ((mJ σ 450 o0)))) (4294967296)) - 1)))) ((Z_J9_min_f86c9 ((Z_J13_lowestOneBit_067f4 ((mJ σ 450 o0)))) (4294967296)))) := by unfold Z_X7_takeLowHalf; exact Eq.trans (if_pos h0) (Eq.trans (if_pos h1) (Eq.trans (if_neg h2) (if_neg h3)))
theorem zl_X7_takeLowHalf_3 {R : Nat → Nat → Nat} {σ : SG} {o0 : Nat} (h0 : (Z_X7_isAny R σ o0) = 0) (h1 : ¬ (Z_X7_isSingle R σ o0) = 0) : Z_X7_takeLowHalf R σ o0 = (Z_X7_become R σ o0 (((mJ σ 448 o0) &&& 4294967295)) (((mJ σ 448 o0) &&& 4294967295)) (0)) := by unfold Z_X7_takeLowHalf; exact Eq.trans (if_pos h0) (if_neg h1)
theorem zl_X7_takeLowHalf_4 {R : Nat → Nat → Nat} {σ : SG} {o0 : Nat} (h0 : ¬ (Z_X7_isAny R σ o0) = 0) : Z_X7_takeLowHalf R σ o0 = (Z_X7_become R σ o0 (0) (4294967295) (1)) := by unfold Z_X7_takeLowHalf; exact if_neg h0
set_option maxHeartbeats 40000000 in
theorem cz_X7_takeLowHalf {xi : SX} {S : Hp} {E : List Nat} {kc nc : Nat} {P : Po} {o0 : Nat} {R : Nat → Nat → Nat} (hG : GI S E) (h0 : Oa S E 7 0 o0) (hR : RK S R) (hP : ∀ r T x y, PV E [9987] S kc nc rV (fun v T => sg T = Z_X7_takeLowHalf R (sg S) o0) [] r T x y → P r T x y) : TT xi M_X7_takeLowHalf 0 [(0, .ref o0)] [] S kc nc P := by
  have hA : Af E [9987] S S := af_rf
  refine tt_aload_n (j := 0) dX7_takeLowHalf_0 rfl ?_
  refine gt_VIp (As := []) dX7_takeLowHalf_1 ca_X7_29 ⟨by decide, by decide⟩ h0 hA rfl (Nat.le_of_ble_eq_true rfl) (Nat.le_of_ble_eq_true rfl) (by decide) (cz_X7_isAny hG (oa_af h0 hA) hR (fun _ _ _ _ h => h)) rfl (fun _ h => nomatch h) (fun _ _ q => q.1) (fun x101 h102 hx103 => ?_)
  obtain rfl : Z_X7_isAny R (sg S) o0 = x101 := ((ei_w hx103.2).trans (congrArg (fun q9 => Z_X7_isAny R q9 o0) (show sg S = (sg S) from rfl))).symm
  refine tt_if_eq (tgt := 19) dX7_takeLowHalf_4 rfl (fun q104 => ?_) (fun q104 => ?_)
  · skip
    have h105 : Rg 0 0 (Z_X7_isAny R (sg S) o0) := rg_eq_l h102 (⟨by decide, by decide⟩ : Rg 0 0 0) q104
    refine tt_aload_n (j := 0) dX7_takeLowHalf_19 rfl ?_
    refine gt_VIp (As := []) dX7_takeLowHalf_20 ca_X7_58 ⟨by decide, by decide⟩ h0 hA rfl (Nat.le_of_ble_eq_true rfl) (Nat.le_of_ble_eq_true rfl) (by decide) (cz_X7_isSingle hG (oa_af h0 hA) hR (fun _ _ _ _ h => h)) rfl (fun _ h => nomatch h) (fun _ _ q => q.1) (fun x106 h107 hx108 => ?_)
    obtain rfl : Z_X7_isSingle R (sg S) o0 = x106 := ((ei_w hx108.2).trans (congrArg (fun q9 => Z_X7_isSingle R q9 o0) (show sg S = (sg S) from rfl))).symm
    refine tt_if_eq (tgt := 45) dX7_takeLowHalf_23 rfl (fun q109 => ?_) (fun q109 => ?_)
    · skip
      have h110 : Rg 0 0 (Z_X7_isSingle R (sg S) o0) := rg_eq_l h107 (⟨by decide, by decide⟩ : Rg 0 0 0) q109
      refine tt_aload_n (j := 0) dX7_takeLowHalf_45 rfl ?_
      refine gt_gJ (id := 448) (v := (mJ (sg S) 448 o0)) dX7_takeLowHalf_46 fl_7_23 rfl rfl h0 hA (sg_J (k := 448) (o := o0) (show sg S = (sg S) from rfl)) ?_
      refine tt_lconst (v := 0) dX7_takeLowHalf_49 rfl ?_
      refine tt_lcmp dX7_takeLowHalf_50 ?_
      refine tt_if_lt (tgt := 65) dX7_takeLowHalf_51 rfl (fun q111 => ?_) (fun q111 => ?_)
      · skip
        refine tt_aload_n (j := 0) dX7_takeLowHalf_65 rfl ?_
        refine gt_gJ (id := 450) (v := (mJ (sg S) 450 o0)) dX7_takeLowHalf_66 fl_7_15 rfl rfl h0 hA (sg_J (k := 450) (o := o0) (show sg S = (sg S) from rfl)) ?_
        refine gt_SJp (As := [.long (mJ (sg S) 450 o0)]) dX7_takeLowHalf_69 ca_X7_97 ⟨by decide, by decide⟩ hA (Nat.le_of_ble_eq_true rfl) (Nat.le_of_ble_eq_true rfl) (by decide) (cz_J13_lowestOneBit_067f4 hG  (fun _ _ _ _ h => h)) rfl (fun _ h => nomatch h) (fun _ _ q => q.1) (fun y112 hx114 => ?_)
        obtain rfl : Z_J13_lowestOneBit_067f4 ((mJ (sg S) 450 o0)) = y112 := ((el_w hx114.2).trans rfl).symm
        refine tt_ldc2 (v := 4294967296) dX7_takeLowHalf_72 kl_7_95 ?_
        refine gt_SJp (As := [.long (Z_J13_lowestOneBit_067f4 ((mJ (sg S) 450 o0))), .long 4294967296]) dX7_takeLowHalf_75 ca_X7_40 ⟨by decide, by decide⟩ hA (Nat.le_of_ble_eq_true rfl) (Nat.le_of_ble_eq_true rfl) (by decide) (cz_J9_min_f86c9 hG  (fun _ _ _ _ h => h)) rfl (fun _ h => nomatch h) (fun _ _ q => q.1) (fun y115 hx117 => ?_)
        obtain rfl : Z_J9_min_f86c9 ((Z_J13_lowestOneBit_067f4 ((mJ (sg S) 450 o0)))) (4294967296) = y115 := ((el_w hx117.2).trans rfl).symm
        refine tt_lstore_n (ks := [0, 1]) (L' := [(1, .long (Z_J9_min_f86c9 ((Z_J13_lowestOneBit_067f4 ((mJ (sg S) 450 o0)))) (4294967296))), (0, .ref o0)]) dX7_takeLowHalf_78 (by decide) rfl ?_
        refine tt_aload_n (j := 1) dX7_takeLowHalf_79 rfl ?_
        refine gt_gJ (id := 448) (v := (mJ (sg S) 448 o0)) dX7_takeLowHalf_80 fl_7_23 rfl rfl h0 hA (sg_J (k := 448) (o := o0) (show sg S = (sg S) from rfl)) ?_
        refine tt_lload_n (j := 0) dX7_takeLowHalf_83 rfl ?_
        refine tt_lconst (v := 1) dX7_takeLowHalf_84 rfl ?_
        refine tt_lsub dX7_takeLowHalf_85 ?_
        refine tt_land dX7_takeLowHalf_86 ?_
        refine tt_lstore_n (ks := [0, 1, 2]) (L' := [(3, .long ((mJ (sg S) 448 o0) &&& ((Z_J9_min_f86c9 ((Z_J13_lowestOneBit_067f4 ((mJ (sg S) 450 o0)))) (4294967296)) - 1))), (1, .long (Z_J9_min_f86c9 ((Z_J13_lowestOneBit_067f4 ((mJ (sg S) 450 o0)))) (4294967296))), (0, .ref o0)]) dX7_takeLowHalf_87 (by decide) rfl ?_
        refine tt_aload_n (j := 2) dX7_takeLowHalf_88 rfl ?_
        refine tt_lload_n (j := 0) dX7_takeLowHalf_89 rfl ?_
        refine tt_ldc2 (v := 4294967296) dX7_takeLowHalf_90 kl_7_95 ?_
        refine tt_lload_n (j := 1) dX7_takeLowHalf_93 rfl ?_
        refine tt_lsub dX7_takeLowHalf_94 ?_
        refine tt_lload_n (j := 0) dX7_takeLowHalf_95 rfl ?_
        refine tt_ladd dX7_takeLowHalf_96 ?_
        refine tt_lload_n (j := 1) dX7_takeLowHalf_97 rfl ?_
        refine gt_Vv (As := [.long ((mJ (sg S) 448 o0) &&& ((Z_J9_min_f86c9 ((Z_J13_lowestOneBit_067f4 ((mJ (sg S) 450 o0)))) (4294967296)) - 1)), .long ((4294967296 - (Z_J9_min_f86c9 ((Z_J13_lowestOneBit_067f4 ((mJ (sg S) 450 o0)))) (4294967296))) + ((mJ (sg S) 448 o0) &&& ((Z_J9_min_f86c9 ((Z_J13_lowestOneBit_067f4 ((mJ (sg S) 450 o0)))) (4294967296)) - 1))), .long (Z_J9_min_f86c9 ((Z_J13_lowestOneBit_067f4 ((mJ (sg S) 450 o0)))) (4294967296))]) dX7_takeLowHalf_98 ca_X7_48 ⟨by decide, by decide⟩ h0 hA rfl (Nat.le_of_ble_eq_true rfl) (Nat.le_of_ble_eq_true rfl) (by decide) (cz_X7_become hG (oa_af h0 hA) hR (fun _ _ _ _ h => h)) rfl (fun _ h => nomatch h) (fun S118 hx122 hG119 hB120 hA121 => ?_)
        obtain ⟨d123, hd124⟩ : ∃ q, Z_X7_become R (sg S) o0 (((mJ (sg S) 448 o0) &&& ((Z_J9_min_f86c9 ((Z_J13_lowestOneBit_067f4 ((mJ (sg S) 450 o0)))) (4294967296)) - 1))) (((4294967296 - (Z_J9_min_f86c9 ((Z_J13_lowestOneBit_067f4 ((mJ (sg S) 450 o0)))) (4294967296))) + ((mJ (sg S) 448 o0) &&& ((Z_J9_min_f86c9 ((Z_J13_lowestOneBit_067f4 ((mJ (sg S) 450 o0)))) (4294967296)) - 1)))) ((Z_J9_min_f86c9 ((Z_J13_lowestOneBit_067f4 ((mJ (sg S) 450 o0)))) (4294967296))) = q := ⟨_, rfl⟩
        have hq125 := (congrArg (fun q9 => Z_X7_become R q9 o0 (((mJ (sg S) 448 o0) &&& ((Z_J9_min_f86c9 ((Z_J13_lowestOneBit_067f4 ((mJ (sg S) 450 o0)))) (4294967296)) - 1))) (((4294967296 - (Z_J9_min_f86c9 ((Z_J13_lowestOneBit_067f4 ((mJ (sg S) 450 o0)))) (4294967296))) + ((mJ (sg S) 448 o0) &&& ((Z_J9_min_f86c9 ((Z_J13_lowestOneBit_067f4 ((mJ (sg S) 450 o0)))) (4294967296)) - 1)))) ((Z_J9_min_f86c9 ((Z_J13_lowestOneBit_067f4 ((mJ (sg S) 450 o0)))) (4294967296)))) (show sg S = (sg S) from rfl)).trans hd124
        have hs126 := hx122.trans hq125
        have hF : Z_X7_takeLowHalf R (sg S) o0 = d123 := by
          subst hd124
          exact zl_X7_takeLowHalf_0 q104 q109 (lc_lt_t q111)
        exact tt_vreturn dX7_takeLowHalf_101 rfl (hP _ _ _ _ ⟨hG119, hA121, Or.inl ⟨_, rfl, rfl, Eq.trans hs126 hF.symm, rfl, rfl⟩⟩)
      · skip
        refine tt_aload_n (j := 0) dX7_takeLowHalf_54 rfl ?_
        refine gt_gJ (id := 449) (v := (mJ (sg S) 449 o0)) dX7_takeLowHalf_55 fl_7_26 rfl rfl h0 hA (sg_J (k := 449) (o := o0) (show sg S = (sg S) from rfl)) ?_
        refine tt_ldc2 (v := 4294967296) dX7_takeLowHalf_58 kl_7_95 ?_
        refine tt_lcmp dX7_takeLowHalf_61 ?_
        refine tt_if_lt (tgt := 101) dX7_takeLowHalf_62 rfl (fun q127 => ?_) (fun q127 => ?_)
        · skip
          have hF : Z_X7_takeLowHalf R (sg S) o0 = (sg S) := by
            exact zl_X7_takeLowHalf_1 q104 q109 (Int64.not_lt.mpr (lc_lt_f q111)) (lc_lt_t q127)
          exact tt_vreturn dX7_takeLowHalf_101 rfl (hP _ _ _ _ ⟨hG, hA, Or.inl ⟨_, rfl, rfl, Eq.trans (show sg S = (sg S) from rfl) hF.symm, rfl, rfl⟩⟩)
        · skip
          refine tt_aload_n (j := 0) dX7_takeLowHalf_65 rfl ?_
          refine gt_gJ (id := 450) (v := (mJ (sg S) 450 o0)) dX7_takeLowHalf_66 fl_7_15 rfl rfl h0 hA (sg_J (k := 450) (o := o0) (show sg S = (sg S) from rfl)) ?_
          refine gt_SJp (As := [.long (mJ (sg S) 450 o0)]) dX7_takeLowHalf_69 ca_X7_97 ⟨by decide, by decide⟩ hA (Nat.le_of_ble_eq_true rfl) (Nat.le_of_ble_eq_true rfl) (by decide) (cz_J13_lowestOneBit_067f4 hG  (fun _ _ _ _ h => h)) rfl (fun _ h => nomatch h) (fun _ _ q => q.1) (fun y128 hx130 => ?_)
          obtain rfl : Z_J13_lowestOneBit_067f4 ((mJ (sg S) 450 o0)) = y128 := ((el_w hx130.2).trans rfl).symm
          refine tt_ldc2 (v := 4294967296) dX7_takeLowHalf_72 kl_7_95 ?_
          refine gt_SJp (As := [.long (Z_J13_lowestOneBit_067f4 ((mJ (sg S) 450 o0))), .long 4294967296]) dX7_takeLowHalf_75 ca_X7_40 ⟨by decide, by decide⟩ hA (Nat.le_of_ble_eq_true rfl) (Nat.le_of_ble_eq_true rfl) (by decide) (cz_J9_min_f86c9 hG  (fun _ _ _ _ h => h)) rfl (fun _ h => nomatch h) (fun _ _ q => q.1) (fun y131 hx133 => ?_)
          obtain rfl : Z_J9_min_f86c9 ((Z_J13_lowestOneBit_067f4 ((mJ (sg S) 450 o0)))) (4294967296) = y131 := ((el_w hx133.2).trans rfl).symm
          refine tt_lstore_n (ks := [0, 1]) (L' := [(1, .long (Z_J9_min_f86c9 ((Z_J13_lowestOneBit_067f4 ((mJ (sg S) 450 o0)))) (4294967296))), (0, .ref o0)]) dX7_takeLowHalf_78 (by decide) rfl ?_
          refine tt_aload_n (j := 1) dX7_takeLowHalf_79 rfl ?_
          refine gt_gJ (id := 448) (v := (mJ (sg S) 448 o0)) dX7_takeLowHalf_80 fl_7_23 rfl rfl h0 hA (sg_J (k := 448) (o := o0) (show sg S = (sg S) from rfl)) ?_
          refine tt_lload_n (j := 0) dX7_takeLowHalf_83 rfl ?_
          refine tt_lconst (v := 1) dX7_takeLowHalf_84 rfl ?_
          refine tt_lsub dX7_takeLowHalf_85 ?_
          refine tt_land dX7_takeLowHalf_86 ?_
          refine tt_lstore_n (ks := [0, 1, 2]) (L' := [(3, .long ((mJ (sg S) 448 o0) &&& ((Z_J9_min_f86c9 ((Z_J13_lowestOneBit_067f4 ((mJ (sg S) 450 o0)))) (4294967296)) - 1))), (1, .long (Z_J9_min_f86c9 ((Z_J13_lowestOneBit_067f4 ((mJ (sg S) 450 o0)))) (4294967296))), (0, .ref o0)]) dX7_takeLowHalf_87 (by decide) rfl ?_
          refine tt_aload_n (j := 2) dX7_takeLowHalf_88 rfl ?_
          refine tt_lload_n (j := 0) dX7_takeLowHalf_89 rfl ?_
          refine tt_ldc2 (v := 4294967296) dX7_takeLowHalf_90 kl_7_95 ?_
          refine tt_lload_n (j := 1) dX7_takeLowHalf_93 rfl ?_
          refine tt_lsub dX7_takeLowHalf_94 ?_
          refine tt_lload_n (j := 0) dX7_takeLowHalf_95 rfl ?_
          refine tt_ladd dX7_takeLowHalf_96 ?_
          refine tt_lload_n (j := 1) dX7_takeLowHalf_97 rfl ?_
          refine gt_Vv (As := [.long ((mJ (sg S) 448 o0) &&& ((Z_J9_min_f86c9 ((Z_J13_lowestOneBit_067f4 ((mJ (sg S) 450 o0)))) (4294967296)) - 1)), .long ((4294967296 - (Z_J9_min_f86c9 ((Z_J13_lowestOneBit_067f4 ((mJ (sg S) 450 o0)))) (4294967296))) + ((mJ (sg S) 448 o0) &&& ((Z_J9_min_f86c9 ((Z_J13_lowestOneBit_067f4 ((mJ (sg S) 450 o0)))) (4294967296)) - 1))), .long (Z_J9_min_f86c9 ((Z_J13_lowestOneBit_067f4 ((mJ (sg S) 450 o0)))) (4294967296))]) dX7_takeLowHalf_98 ca_X7_48 ⟨by decide, by decide⟩ h0 hA rfl (Nat.le_of_ble_eq_true rfl) (Nat.le_of_ble_eq_true rfl) (by decide) (cz_X7_become hG (oa_af h0 hA) hR (fun _ _ _ _ h => h)) rfl (fun _ h => nomatch h) (fun S134 hx138 hG135 hB136 hA137 => ?_)
          obtain ⟨d139, hd140⟩ : ∃ q, Z_X7_become R (sg S) o0 (((mJ (sg S) 448 o0) &&& ((Z_J9_min_f86c9 ((Z_J13_lowestOneBit_067f4 ((mJ (sg S) 450 o0)))) (4294967296)) - 1))) (((4294967296 - (Z_J9_min_f86c9 ((Z_J13_lowestOneBit_067f4 ((mJ (sg S) 450 o0)))) (4294967296))) + ((mJ (sg S) 448 o0) &&& ((Z_J9_min_f86c9 ((Z_J13_lowestOneBit_067f4 ((mJ (sg S) 450 o0)))) (4294967296)) - 1)))) ((Z_J9_min_f86c9 ((Z_J13_lowestOneBit_067f4 ((mJ (sg S) 450 o0)))) (4294967296))) = q := ⟨_, rfl⟩
          have hq141 := (congrArg (fun q9 => Z_X7_become R q9 o0 (((mJ (sg S) 448 o0) &&& ((Z_J9_min_f86c9 ((Z_J13_lowestOneBit_067f4 ((mJ (sg S) 450 o0)))) (4294967296)) - 1))) (((4294967296 - (Z_J9_min_f86c9 ((Z_J13_lowestOneBit_067f4 ((mJ (sg S) 450 o0)))) (4294967296))) + ((mJ (sg S) 448 o0) &&& ((Z_J9_min_f86c9 ((Z_J13_lowestOneBit_067f4 ((mJ (sg S) 450 o0)))) (4294967296)) - 1)))) ((Z_J9_min_f86c9 ((Z_J13_lowestOneBit_067f4 ((mJ (sg S) 450 o0)))) (4294967296)))) (show sg S = (sg S) from rfl)).trans hd140
          have hs142 := hx138.trans hq141
          have hF : Z_X7_takeLowHalf R (sg S) o0 = d139 := by
            subst hd140
            exact zl_X7_takeLowHalf_2 q104 q109 (Int64.not_lt.mpr (lc_lt_f q111)) (Int64.not_lt.mpr (lc_lt_f q127))
          exact tt_vreturn dX7_takeLowHalf_101 rfl (hP _ _ _ _ ⟨hG135, hA137, Or.inl ⟨_, rfl, rfl, Eq.trans hs142 hF.symm, rfl, rfl⟩⟩)
    · skip
      have h143 : Rg 1 1 (Z_X7_isSingle R (sg S) o0) := rg_ne_lo h107 (⟨by decide, by decide⟩ : Rg 0 0 0) q109
      refine tt_aload_n (j := 0) dX7_takeLowHalf_26 rfl ?_
      refine gt_gJ (id := 448) (v := (mJ (sg S) 448 o0)) dX7_takeLowHalf_27 fl_7_23 rfl rfl h0 hA (sg_J (k := 448) (o := o0) (show sg S = (sg S) from rfl)) ?_
      refine tt_ldc2 (v := 4294967295) dX7_takeLowHalf_30 kl_7_93 ?_
      refine tt_land dX7_takeLowHalf_33 ?_
      refine tt_lstore_n (ks := [0, 1]) (L' := [(1, .long ((mJ (sg S) 448 o0) &&& 4294967295)), (0, .ref o0)]) dX7_takeLowHalf_34 (by decide) rfl ?_
      refine tt_aload_n (j := 1) dX7_takeLowHalf_35 rfl ?_
      refine tt_lload_n (j := 0) dX7_takeLowHalf_36 rfl ?_
      refine tt_lload_n (j := 0) dX7_takeLowHalf_37 rfl ?_
      refine tt_lconst (v := 0) dX7_takeLowHalf_38 rfl ?_
      refine gt_Vv (As := [.long ((mJ (sg S) 448 o0) &&& 4294967295), .long ((mJ (sg S) 448 o0) &&& 4294967295), .long 0]) dX7_takeLowHalf_39 ca_X7_48 ⟨by decide, by decide⟩ h0 hA rfl (Nat.le_of_ble_eq_true rfl) (Nat.le_of_ble_eq_true rfl) (by decide) (cz_X7_become hG (oa_af h0 hA) hR (fun _ _ _ _ h => h)) rfl (fun _ h => nomatch h) (fun S144 hx148 hG145 hB146 hA147 => ?_)
      obtain ⟨d149, hd150⟩ : ∃ q, Z_X7_become R (sg S) o0 (((mJ (sg S) 448 o0) &&& 4294967295)) (((mJ (sg S) 448 o0) &&& 4294967295)) (0) = q := ⟨_, rfl⟩
      have hq151 := (congrArg (fun q9 => Z_X7_become R q9 o0 (((mJ (sg S) 448 o0) &&& 4294967295)) (((mJ (sg S) 448 o0) &&& 4294967295)) (0)) (show sg S = (sg S) from rfl)).trans hd150
      have hs152 := hx148.trans hq151
      refine tt_goto (tgt := 101) dX7_takeLowHalf_42 rfl ?_
      have hF : Z_X7_takeLowHalf R (sg S) o0 = d149 := by
        subst hd150
        exact zl_X7_takeLowHalf_3 q104 q109
      exact tt_vreturn dX7_takeLowHalf_101 rfl (hP _ _ _ _ ⟨hG145, hA147, Or.inl ⟨_, rfl, rfl, Eq.trans hs152 hF.symm, rfl, rfl⟩⟩)
  · skip
    have h153 : Rg 1 1 (Z_X7_isAny R (sg S) o0) := rg_ne_lo h102 (⟨by decide, by decide⟩ : Rg 0 0 0) q104
    refine tt_aload_n (j := 0) dX7_takeLowHalf_7 rfl ?_
    refine tt_lconst (v := 0) dX7_takeLowHalf_8 rfl ?_
    refine tt_ldc2 (v := 4294967295) dX7_takeLowHalf_9 kl_7_93 ?_
    refine tt_lconst (v := 1) dX7_takeLowHalf_12 rfl ?_
    refine gt_Vv (As := [.long 0, .long 4294967295, .long 1]) dX7_takeLowHalf_13 ca_X7_48 ⟨by decide, by decide⟩ h0 hA rfl (Nat.le_of_ble_eq_true rfl) (Nat.le_of_ble_eq_true rfl) (by decide) (cz_X7_become hG (oa_af h0 hA) hR (fun _ _ _ _ h => h)) rfl (fun _ h => nomatch h) (fun S154 hx158 hG155 hB156 hA157 => ?_)
    obtain ⟨d159, hd160⟩ : ∃ q, Z_X7_become R (sg S) o0 (0) (4294967295) (1) = q := ⟨_, rfl⟩
    have hq161 := (congrArg (fun q9 => Z_X7_become R q9 o0 (0) (4294967295) (1)) (show sg S = (sg S) from rfl)).trans hd160
    have hs162 := hx158.trans hq161
    refine tt_goto (tgt := 101) dX7_takeLowHalf_16 rfl ?_
    have hF : Z_X7_takeLowHalf R (sg S) o0 = d159 := by
      subst hd160
      exact zl_X7_takeLowHalf_4 q104
    exact tt_vreturn dX7_takeLowHalf_101 rfl (hP _ _ _ _ ⟨hG155, hA157, Or.inl ⟨_, rfl, rfl, Eq.trans hs162 hF.symm, rfl, rfl⟩⟩)
def Z_X7_takeSignedHalf (R : Nat → Nat → Nat) (σ : SG) (o0 : Nat) : SG :=
  let d106 := Z_X7_takeLowHalf R σ o0
  if (mJ d106 449 o0) < (2147483648 : Int64) then
    d106
  else
    if (mJ d106 448 o0) < (2147483648 : Int64) then
      let d120 := Z_X7_become R d106 o0 ((((mJ d106 448 o0) &&& ((Z_J13_lowestOneBit_067f4 ((mJ d106 450 o0))) - 1)) - 2147483648)) (((2147483648 - (Z_J13_lowestOneBit_067f4 ((mJ d106 450 o0)))) + ((mJ d106 448 o0) &&& ((Z_J13_lowestOneBit_067f4 ((mJ d106 450 o0))) - 1)))) ((Z_J13_lowestOneBit_067f4 ((mJ d106 450 o0))))
      d120
    else
      let d129 := Z_X7_become R d106 o0 (((mJ d106 448 o0) - 4294967296)) (((mJ d106 449 o0) - 4294967296)) ((mJ d106 450 o0))
      d129
theorem zl_X7_takeSignedHalf_0 {R : Nat → Nat → Nat} {σ : SG} {o0 : Nat} (h0 : (mJ (Z_X7_takeLowHalf R σ o0) 449 o0) < (2147483648 : Int64)) : Z_X7_takeSignedHalf R σ o0 = (Z_X7_takeLowHalf R σ o0) := by unfold Z_X7_takeSignedHalf; exact if_pos h0
theorem zl_X7_takeSignedHalf_1 {R : Nat → Nat → Nat} {σ : SG} {o0 : Nat} (h0 : ¬ (mJ (Z_X7_takeLowHalf R σ o0) 449 o0) < (2147483648 : Int64)) (h1 : (mJ (Z_X7_takeLowHalf R σ o0) 448 o0) < (2147483648 : Int64)) : Z_X7_takeSignedHalf R σ o0 = (Z_X7_become R (Z_X7_takeLowHalf R σ o0) o0 ((((mJ (Z_X7_takeLowHalf R σ o0) 448 o0) &&& ((Z_J13_lowestOneBit_067f4 ((mJ (Z_X7_takeLowHalf R σ o0) 450 o0))) - 1)) - 2147483648)) (((2147483648 - (Z_J13_lowestOneBit_067f4 ((mJ (Z_X7_takeLowHalf R σ o0) 450 o0)))) + ((mJ (Z_X7_takeLowHalf R σ o0) 448 o0) &&& ((Z_J13_lowestOneBit_067f4 ((mJ (Z_X7_takeLowHalf R σ o0) 450 o0))) - 1)))) ((Z_J13_lowestOneBit_067f4 ((mJ (Z_X7_takeLowHalf R σ o0) 450 o0))))) := by unfold Z_X7_takeSignedHalf; exact Eq.trans (if_neg h0) (if_pos h1)
theorem zl_X7_takeSignedHalf_2 {R : Nat → Nat → Nat} {σ : SG} {o0 : Nat} (h0 : ¬ (mJ (Z_X7_takeLowHalf R σ o0) 449 o0) < (2147483648 : Int64)) (h1 : ¬ (mJ (Z_X7_takeLowHalf R σ o0) 448 o0) < (2147483648 : Int64)) : Z_X7_takeSignedHalf R σ o0 = (Z_X7_become R (Z_X7_takeLowHalf R σ o0) o0 (((mJ (Z_X7_takeLowHalf R σ o0) 448 o0) - 4294967296)) (((mJ (Z_X7_takeLowHalf R σ o0) 449 o0) - 4294967296)) ((mJ (Z_X7_takeLowHalf R σ o0) 450 o0))) := by unfold Z_X7_takeSignedHalf; exact Eq.trans (if_neg h0) (if_neg h1)
set_option maxHeartbeats 40000000 in
theorem cz_X7_takeSignedHalf {xi : SX} {S : Hp} {E : List Nat} {kc nc : Nat} {P : Po} {o0 : Nat} {R : Nat → Nat → Nat} (hG : GI S E) (h0 : Oa S E 7 0 o0) (hR : RK S R) (hP : ∀ r T x y, PV E [9987] S kc nc rV (fun v T => sg T = Z_X7_takeSignedHalf R (sg S) o0) [] r T x y → P r T x y) : TT xi M_X7_takeSignedHalf 0 [(0, .ref o0)] [] S kc nc P := by
  have hA : Af E [9987] S S := af_rf
  refine tt_aload_n (j := 0) dX7_takeSignedHalf_0 rfl ?_
  refine gt_Vv (As := []) dX7_takeSignedHalf_1 ca_X7_103 ⟨by decide, by decide⟩ h0 hA rfl (Nat.le_of_ble_eq_true rfl) (Nat.le_of_ble_eq_true rfl) (by decide) (cz_X7_takeLowHalf hG (oa_af h0 hA) hR (fun _ _ _ _ h => h)) rfl (fun _ h => nomatch h) (fun S101 hx105 hG102 hB103 hA104 => ?_)
  obtain ⟨d106, hd107⟩ : ∃ q, Z_X7_takeLowHalf R (sg S) o0 = q := ⟨_, rfl⟩
  have hq108 := (congrArg (fun q9 => Z_X7_takeLowHalf R q9 o0) (show sg S = (sg S) from rfl)).trans hd107
  have hs109 := hx105.trans hq108
  refine tt_aload_n (j := 0) dX7_takeSignedHalf_4 rfl ?_
  refine gt_gJ (id := 449) (v := (mJ d106 449 o0)) dX7_takeSignedHalf_5 fl_7_26 rfl rfl h0 hA104 (sg_J (k := 449) (o := o0) hs109) ?_
  refine tt_ldc2 (v := 2147483648) dX7_takeSignedHalf_8 kl_7_106 ?_
  refine tt_lcmp dX7_takeSignedHalf_11 ?_
  refine tt_if_ge (tgt := 16) dX7_takeSignedHalf_12 rfl (fun q110 => ?_) (fun q110 => ?_)
  · skip
    refine tt_aload_n (j := 0) dX7_takeSignedHalf_16 rfl ?_
    refine gt_gJ (id := 448) (v := (mJ d106 448 o0)) dX7_takeSignedHalf_17 fl_7_23 rfl rfl h0 hA104 (sg_J (k := 448) (o := o0) hs109) ?_
    refine tt_ldc2 (v := 2147483648) dX7_takeSignedHalf_20 kl_7_106 ?_
    refine tt_lcmp dX7_takeSignedHalf_23 ?_
    refine tt_if_lt (tgt := 52) dX7_takeSignedHalf_24 rfl (fun q111 => ?_) (fun q111 => ?_)
    · skip
      refine tt_aload_n (j := 0) dX7_takeSignedHalf_52 rfl ?_
      refine gt_gJ (id := 450) (v := (mJ d106 450 o0)) dX7_takeSignedHalf_53 fl_7_15 rfl rfl h0 hA104 (sg_J (k := 450) (o := o0) hs109) ?_
      refine gt_SJp (As := [.long (mJ d106 450 o0)]) dX7_takeSignedHalf_56 ca_X7_97 ⟨by decide, by decide⟩ hA104 (Nat.le_of_ble_eq_true rfl) (Nat.le_of_ble_eq_true rfl) (by decide) (cz_J13_lowestOneBit_067f4 hG102  (fun _ _ _ _ h => h)) rfl (fun _ h => nomatch h) (fun _ _ q => q.1) (fun y112 hx114 => ?_)
      obtain rfl : Z_J13_lowestOneBit_067f4 ((mJ d106 450 o0)) = y112 := ((el_w hx114.2).trans rfl).symm
      refine tt_lstore_n (ks := [0, 1]) (L' := [(1, .long (Z_J13_lowestOneBit_067f4 ((mJ d106 450 o0)))), (0, .ref o0)]) dX7_takeSignedHalf_59 (by decide) rfl ?_
      refine tt_aload_n (j := 1) dX7_takeSignedHalf_60 rfl ?_
      refine gt_gJ (id := 448) (v := (mJ d106 448 o0)) dX7_takeSignedHalf_61 fl_7_23 rfl rfl h0 hA104 (sg_J (k := 448) (o := o0) hs109) ?_
      refine tt_lload_n (j := 0) dX7_takeSignedHalf_64 rfl ?_
      refine tt_lconst (v := 1) dX7_takeSignedHalf_65 rfl ?_
      refine tt_lsub dX7_takeSignedHalf_66 ?_
      refine tt_land dX7_takeSignedHalf_67 ?_
      refine tt_lstore_n (ks := [0, 1, 2]) (L' := [(3, .long ((mJ d106 448 o0) &&& ((Z_J13_lowestOneBit_067f4 ((mJ d106 450 o0))) - 1))), (1, .long (Z_J13_lowestOneBit_067f4 ((mJ d106 450 o0)))), (0, .ref o0)]) dX7_takeSignedHalf_68 (by decide) rfl ?_
      refine tt_aload_n (j := 2) dX7_takeSignedHalf_69 rfl ?_
      refine tt_lload_n (j := 0) dX7_takeSignedHalf_70 rfl ?_
      refine tt_ldc2 (v := 2147483648) dX7_takeSignedHalf_71 kl_7_106 ?_
      refine tt_lsub dX7_takeSignedHalf_74 ?_
      refine tt_ldc2 (v := 2147483648) dX7_takeSignedHalf_75 kl_7_106 ?_
      refine tt_lload_n (j := 1) dX7_takeSignedHalf_78 rfl ?_
      refine tt_lsub dX7_takeSignedHalf_79 ?_
      refine tt_lload_n (j := 0) dX7_takeSignedHalf_80 rfl ?_
      refine tt_ladd dX7_takeSignedHalf_81 ?_
      refine tt_lload_n (j := 1) dX7_takeSignedHalf_82 rfl ?_
      refine gt_Vv (As := [.long (((mJ d106 448 o0) &&& ((Z_J13_lowestOneBit_067f4 ((mJ d106 450 o0))) - 1)) - 2147483648), .long ((2147483648 - (Z_J13_lowestOneBit_067f4 ((mJ d106 450 o0)))) + ((mJ d106 448 o0) &&& ((Z_J13_lowestOneBit_067f4 ((mJ d106 450 o0))) - 1))), .long (Z_J13_lowestOneBit_067f4 ((mJ d106 450 o0)))]) dX7_takeSignedHalf_83 ca_X7_48 ⟨by decide, by decide⟩ h0 hA104 rfl (Nat.le_of_ble_eq_true rfl) (Nat.le_of_ble_eq_true rfl) (by decide) (cz_X7_become hG102 (oa_af h0 hA104) (rk_af hR hA104) (fun _ _ _ _ h => h)) rfl (fun _ h => nomatch h) (fun S115 hx119 hG116 hB117 hA118 => ?_)
      obtain ⟨d120, hd121⟩ : ∃ q, Z_X7_become R d106 o0 ((((mJ d106 448 o0) &&& ((Z_J13_lowestOneBit_067f4 ((mJ d106 450 o0))) - 1)) - 2147483648)) (((2147483648 - (Z_J13_lowestOneBit_067f4 ((mJ d106 450 o0)))) + ((mJ d106 448 o0) &&& ((Z_J13_lowestOneBit_067f4 ((mJ d106 450 o0))) - 1)))) ((Z_J13_lowestOneBit_067f4 ((mJ d106 450 o0)))) = q := ⟨_, rfl⟩
      have hq122 := (congrArg (fun q9 => Z_X7_become R q9 o0 ((((mJ d106 448 o0) &&& ((Z_J13_lowestOneBit_067f4 ((mJ d106 450 o0))) - 1)) - 2147483648)) (((2147483648 - (Z_J13_lowestOneBit_067f4 ((mJ d106 450 o0)))) + ((mJ d106 448 o0) &&& ((Z_J13_lowestOneBit_067f4 ((mJ d106 450 o0))) - 1)))) ((Z_J13_lowestOneBit_067f4 ((mJ d106 450 o0))))) hs109).trans hd121
      have hs123 := hx119.trans hq122
      have hF : Z_X7_takeSignedHalf R (sg S) o0 = d120 := by
        subst hd121
        subst hd107
        exact zl_X7_takeSignedHalf_1 (Int64.not_lt.mpr (lc_ge_t q110)) (lc_lt_t q111)
      exact tt_vreturn dX7_takeSignedHalf_86 rfl (hP _ _ _ _ ⟨hG116, hA118, Or.inl ⟨_, rfl, rfl, Eq.trans hs123 hF.symm, rfl, rfl⟩⟩)
    · skip
      refine tt_aload_n (j := 0) dX7_takeSignedHalf_27 rfl ?_
      refine tt_aload_n (j := 0) dX7_takeSignedHalf_28 rfl ?_
      refine gt_gJ (id := 448) (v := (mJ d106 448 o0)) dX7_takeSignedHalf_29 fl_7_23 rfl rfl h0 hA104 (sg_J (k := 448) (o := o0) hs109) ?_
      refine tt_ldc2 (v := 4294967296) dX7_takeSignedHalf_32 kl_7_95 ?_
      refine tt_lsub dX7_takeSignedHalf_35 ?_
      refine tt_aload_n (j := 0) dX7_takeSignedHalf_36 rfl ?_
      refine gt_gJ (id := 449) (v := (mJ d106 449 o0)) dX7_takeSignedHalf_37 fl_7_26 rfl rfl h0 hA104 (sg_J (k := 449) (o := o0) hs109) ?_
      refine tt_ldc2 (v := 4294967296) dX7_takeSignedHalf_40 kl_7_95 ?_
      refine tt_lsub dX7_takeSignedHalf_43 ?_
      refine tt_aload_n (j := 0) dX7_takeSignedHalf_44 rfl ?_
      refine gt_gJ (id := 450) (v := (mJ d106 450 o0)) dX7_takeSignedHalf_45 fl_7_15 rfl rfl h0 hA104 (sg_J (k := 450) (o := o0) hs109) ?_
      refine gt_Vv (As := [.long ((mJ d106 448 o0) - 4294967296), .long ((mJ d106 449 o0) - 4294967296), .long (mJ d106 450 o0)]) dX7_takeSignedHalf_48 ca_X7_48 ⟨by decide, by decide⟩ h0 hA104 rfl (Nat.le_of_ble_eq_true rfl) (Nat.le_of_ble_eq_true rfl) (by decide) (cz_X7_become hG102 (oa_af h0 hA104) (rk_af hR hA104) (fun _ _ _ _ h => h)) rfl (fun _ h => nomatch h) (fun S124 hx128 hG125 hB126 hA127 => ?_)
      obtain ⟨d129, hd130⟩ : ∃ q, Z_X7_become R d106 o0 (((mJ d106 448 o0) - 4294967296)) (((mJ d106 449 o0) - 4294967296)) ((mJ d106 450 o0)) = q := ⟨_, rfl⟩
      have hq131 := (congrArg (fun q9 => Z_X7_become R q9 o0 (((mJ d106 448 o0) - 4294967296)) (((mJ d106 449 o0) - 4294967296)) ((mJ d106 450 o0))) hs109).trans hd130
      have hs132 := hx128.trans hq131
      have hF : Z_X7_takeSignedHalf R (sg S) o0 = d129 := by
        subst hd130
        subst hd107
        exact zl_X7_takeSignedHalf_2 (Int64.not_lt.mpr (lc_ge_t q110)) (Int64.not_lt.mpr (lc_lt_f q111))
      exact tt_vreturn dX7_takeSignedHalf_51 rfl (hP _ _ _ _ ⟨hG125, hA127, Or.inl ⟨_, rfl, rfl, Eq.trans hs132 hF.symm, rfl, rfl⟩⟩)
  · skip
    have hF : Z_X7_takeSignedHalf R (sg S) o0 = d106 := by
      subst hd107
      exact zl_X7_takeSignedHalf_0 (lc_ge_f q110)
    exact tt_vreturn dX7_takeSignedHalf_15 rfl (hP _ _ _ _ ⟨hG102, hA104, Or.inl ⟨_, rfl, rfl, Eq.trans hs109 hF.symm, rfl, rfl⟩⟩)
def Z_X7_multiply_p59 (R : Nat → Nat → Nat) (σ : SG) (o0 : Nat) (o1 : Nat) (o2 : Nat) : SG :=
  let d130 := Z_X7_become R σ o0 ((Z_J9_min_f86c9 ((Z_J9_min_f86c9 (((mJ σ 448 o1) * (mJ σ 448 o2))) (((mJ σ 448 o1) * (mJ σ 449 o2))))) ((Z_J9_min_f86c9 (((mJ σ 449 o1) * (mJ σ 448 o2))) (((mJ σ 449 o1) * (mJ σ 449 o2))))))) ((Z_J9_max_f86c9 ((Z_J9_max_f86c9 (((mJ σ 448 o1) * (mJ σ 448 o2))) (((mJ σ 448 o1) * (mJ σ 449 o2))))) ((Z_J9_max_f86c9 (((mJ σ 449 o1) * (mJ σ 448 o2))) (((mJ σ 449 o1) * (mJ σ 449 o2))))))) ((Z_X7_gcd ((Z_X7_gcd (((mJ σ 450 o1) * (mJ σ 448 o2))) (((mJ σ 450 o2) * (mJ σ 448 o1))))) (((mJ σ 450 o1) * (mJ σ 450 o2)))))
  d130
theorem zl_X7_multiply_p59_0 {R : Nat → Nat → Nat} {σ : SG} {o0 : Nat} {o1 : Nat} {o2 : Nat}  : Z_X7_multiply_p59 R σ o0 o1 o2 = (Z_X7_become R σ o0 ((Z_J9_min_f86c9 ((Z_J9_min_f86c9 (((mJ σ 448 o1) * (mJ σ 448 o2))) (((mJ σ 448 o1) * (mJ σ 449 o2))))) ((Z_J9_min_f86c9 (((mJ σ 449 o1) * (mJ σ 448 o2))) (((mJ σ 449 o1) * (mJ σ 449 o2))))))) ((Z_J9_max_f86c9 ((Z_J9_max_f86c9 (((mJ σ 448 o1) * (mJ σ 448 o2))) (((mJ σ 448 o1) * (mJ σ 449 o2))))) ((Z_J9_max_f86c9 (((mJ σ 449 o1) * (mJ σ 448 o2))) (((mJ σ 449 o1) * (mJ σ 449 o2))))))) ((Z_X7_gcd ((Z_X7_gcd (((mJ σ 450 o1) * (mJ σ 448 o2))) (((mJ σ 450 o2) * (mJ σ 448 o1))))) (((mJ σ 450 o1) * (mJ σ 450 o2)))))) := rfl
set_option maxHeartbeats 40000000 in
theorem cz_X7_multiply_p59 {xi : SX} {S : Hp} {E : List Nat} {kc nc : Nat} {P : Po} {o0 : Nat} {o1 : Nat} {o2 : Nat} {R : Nat → Nat → Nat} (hG : GI S E) (h0 : Oa S E 7 0 o0) (h1 : Oa S E 7 0 o1) (h2 : Oa S E 7 0 o2) (hR : RK S R) (hP : ∀ r T x y, PV E [9987] S kc nc rV (fun v T => sg T = Z_X7_multiply_p59 R (sg S) o0 o1 o2) [] r T x y → P r T x y) : TT xi M_X7_multiply 59 [(0, .ref o0), (1, .ref o1), (2, .ref o2)] [] S kc nc P := by
  have hA : Af E [9987] S S := af_rf
  refine tt_aload_n (j := 1) dX7_multiply_59 rfl ?_
  refine gt_gJ (id := 448) (v := (mJ (sg S) 448 o1)) dX7_multiply_60 fl_7_23 rfl rfl h1 hA (sg_J (k := 448) (o := o1) (show sg S = (sg S) from rfl)) ?_
  refine tt_aload_n (j := 2) dX7_multiply_63 rfl ?_
  refine gt_gJ (id := 448) (v := (mJ (sg S) 448 o2)) dX7_multiply_64 fl_7_23 rfl rfl h2 hA (sg_J (k := 448) (o := o2) (show sg S = (sg S) from rfl)) ?_
  refine tt_lmul dX7_multiply_67 ?_
  refine tt_lstore_n (ks := [0, 1, 2, 3]) (L' := [(3, .long ((mJ (sg S) 448 o1) * (mJ (sg S) 448 o2))), (0, .ref o0), (1, .ref o1), (2, .ref o2)]) dX7_multiply_68 (by decide) rfl ?_
  refine tt_aload_n (j := 2) dX7_multiply_69 rfl ?_
  refine gt_gJ (id := 448) (v := (mJ (sg S) 448 o1)) dX7_multiply_70 fl_7_23 rfl rfl h1 hA (sg_J (k := 448) (o := o1) (show sg S = (sg S) from rfl)) ?_
  refine tt_aload_n (j := 3) dX7_multiply_73 rfl ?_
  refine gt_gJ (id := 449) (v := (mJ (sg S) 449 o2)) dX7_multiply_74 fl_7_26 rfl rfl h2 hA (sg_J (k := 449) (o := o2) (show sg S = (sg S) from rfl)) ?_
  refine tt_lmul dX7_multiply_77 ?_
  refine tt_lstore (ks := [0, 1, 2, 3, 4]) (L' := [(5, .long ((mJ (sg S) 448 o1) * (mJ (sg S) 449 o2))), (3, .long ((mJ (sg S) 448 o1) * (mJ (sg S) 448 o2))), (0, .ref o0), (1, .ref o1), (2, .ref o2)]) dX7_multiply_78 (by decide) rfl ?_
  refine tt_aload_n (j := 3) dX7_multiply_80 rfl ?_
  refine gt_gJ (id := 449) (v := (mJ (sg S) 449 o1)) dX7_multiply_81 fl_7_26 rfl rfl h1 hA (sg_J (k := 449) (o := o1) (show sg S = (sg S) from rfl)) ?_
  refine tt_aload_n (j := 4) dX7_multiply_84 rfl ?_
  refine gt_gJ (id := 448) (v := (mJ (sg S) 448 o2)) dX7_multiply_85 fl_7_23 rfl rfl h2 hA (sg_J (k := 448) (o := o2) (show sg S = (sg S) from rfl)) ?_
  refine tt_lmul dX7_multiply_88 ?_
  refine tt_lstore (ks := [0, 1, 2, 3, 4, 5]) (L' := [(7, .long ((mJ (sg S) 449 o1) * (mJ (sg S) 448 o2))), (5, .long ((mJ (sg S) 448 o1) * (mJ (sg S) 449 o2))), (3, .long ((mJ (sg S) 448 o1) * (mJ (sg S) 448 o2))), (0, .ref o0), (1, .ref o1), (2, .ref o2)]) dX7_multiply_89 (by decide) rfl ?_
  refine tt_aload_n (j := 4) dX7_multiply_91 rfl ?_
  refine gt_gJ (id := 449) (v := (mJ (sg S) 449 o1)) dX7_multiply_92 fl_7_26 rfl rfl h1 hA (sg_J (k := 449) (o := o1) (show sg S = (sg S) from rfl)) ?_
  refine tt_aload_n (j := 5) dX7_multiply_95 rfl ?_
  refine gt_gJ (id := 449) (v := (mJ (sg S) 449 o2)) dX7_multiply_96 fl_7_26 rfl rfl h2 hA (sg_J (k := 449) (o := o2) (show sg S = (sg S) from rfl)) ?_
  refine tt_lmul dX7_multiply_99 ?_
  refine tt_lstore (ks := [0, 1, 2, 3, 4, 5, 6]) (L' := [(9, .long ((mJ (sg S) 449 o1) * (mJ (sg S) 449 o2))), (7, .long ((mJ (sg S) 449 o1) * (mJ (sg S) 448 o2))), (5, .long ((mJ (sg S) 448 o1) * (mJ (sg S) 449 o2))), (3, .long ((mJ (sg S) 448 o1) * (mJ (sg S) 448 o2))), (0, .ref o0), (1, .ref o1), (2, .ref o2)]) dX7_multiply_100 (by decide) rfl ?_
  refine tt_lload_n (j := 3) dX7_multiply_102 rfl ?_
  refine tt_lload (j := 2) dX7_multiply_103 rfl ?_
  refine gt_SJp (As := [.long ((mJ (sg S) 448 o1) * (mJ (sg S) 448 o2)), .long ((mJ (sg S) 448 o1) * (mJ (sg S) 449 o2))]) dX7_multiply_105 ca_X7_40 ⟨by decide, by decide⟩ hA (Nat.le_of_ble_eq_true rfl) (Nat.le_of_ble_eq_true rfl) (by decide) (cz_J9_min_f86c9 hG  (fun _ _ _ _ h => h)) rfl (fun _ h => nomatch h) (fun _ _ q => q.1) (fun y101 hx103 => ?_)
  obtain rfl : Z_J9_min_f86c9 (((mJ (sg S) 448 o1) * (mJ (sg S) 448 o2))) (((mJ (sg S) 448 o1) * (mJ (sg S) 449 o2))) = y101 := ((el_w hx103.2).trans rfl).symm
  refine tt_lload (j := 1) dX7_multiply_108 rfl ?_
  refine tt_lload (j := 0) dX7_multiply_110 rfl ?_
  refine gt_SJp (As := [.long ((mJ (sg S) 449 o1) * (mJ (sg S) 448 o2)), .long ((mJ (sg S) 449 o1) * (mJ (sg S) 449 o2))]) dX7_multiply_112 ca_X7_40 ⟨by decide, by decide⟩ hA (Nat.le_of_ble_eq_true rfl) (Nat.le_of_ble_eq_true rfl) (by decide) (cz_J9_min_f86c9 hG  (fun _ _ _ _ h => h)) rfl (fun _ h => nomatch h) (fun _ _ q => q.1) (fun y104 hx106 => ?_)
  obtain rfl : Z_J9_min_f86c9 (((mJ (sg S) 449 o1) * (mJ (sg S) 448 o2))) (((mJ (sg S) 449 o1) * (mJ (sg S) 449 o2))) = y104 := ((el_w hx106.2).trans rfl).symm
  refine gt_SJp (As := [.long (Z_J9_min_f86c9 (((mJ (sg S) 448 o1) * (mJ (sg S) 448 o2))) (((mJ (sg S) 448 o1) * (mJ (sg S) 449 o2)))), .long (Z_J9_min_f86c9 (((mJ (sg S) 449 o1) * (mJ (sg S) 448 o2))) (((mJ (sg S) 449 o1) * (mJ (sg S) 449 o2))))]) dX7_multiply_115 ca_X7_40 ⟨by decide, by decide⟩ hA (Nat.le_of_ble_eq_true rfl) (Nat.le_of_ble_eq_true rfl) (by decide) (cz_J9_min_f86c9 hG  (fun _ _ _ _ h => h)) rfl (fun _ h => nomatch h) (fun _ _ q => q.1) (fun y107 hx109 => ?_)
  obtain rfl : Z_J9_min_f86c9 ((Z_J9_min_f86c9 (((mJ (sg S) 448 o1) * (mJ (sg S) 448 o2))) (((mJ (sg S) 448 o1) * (mJ (sg S) 449 o2))))) ((Z_J9_min_f86c9 (((mJ (sg S) 449 o1) * (mJ (sg S) 448 o2))) (((mJ (sg S) 449 o1) * (mJ (sg S) 449 o2))))) = y107 := ((el_w hx109.2).trans rfl).symm
  refine tt_lstore (ks := [0, 1, 2, 3, 4, 5, 6, 7]) (L' := [(11, .long (Z_J9_min_f86c9 ((Z_J9_min_f86c9 (((mJ (sg S) 448 o1) * (mJ (sg S) 448 o2))) (((mJ (sg S) 448 o1) * (mJ (sg S) 449 o2))))) ((Z_J9_min_f86c9 (((mJ (sg S) 449 o1) * (mJ (sg S) 448 o2))) (((mJ (sg S) 449 o1) * (mJ (sg S) 449 o2))))))), (9, .long ((mJ (sg S) 449 o1) * (mJ (sg S) 449 o2))), (7, .long ((mJ (sg S) 449 o1) * (mJ (sg S) 448 o2))), (5, .long ((mJ (sg S) 448 o1) * (mJ (sg S) 449 o2))), (3, .long ((mJ (sg S) 448 o1) * (mJ (sg S) 448 o2))), (0, .ref o0), (1, .ref o1), (2, .ref o2)]) dX7_multiply_118 (by decide) rfl ?_
  refine tt_lload_n (j := 4) dX7_multiply_120 rfl ?_
  refine tt_lload (j := 3) dX7_multiply_121 rfl ?_
  refine gt_SJp (As := [.long ((mJ (sg S) 448 o1) * (mJ (sg S) 448 o2)), .long ((mJ (sg S) 448 o1) * (mJ (sg S) 449 o2))]) dX7_multiply_123 ca_X7_45 ⟨by decide, by decide⟩ hA (Nat.le_of_ble_eq_true rfl) (Nat.le_of_ble_eq_true rfl) (by decide) (cz_J9_max_f86c9 hG  (fun _ _ _ _ h => h)) rfl (fun _ h => nomatch h) (fun _ _ q => q.1) (fun y110 hx112 => ?_)
  obtain rfl : Z_J9_max_f86c9 (((mJ (sg S) 448 o1) * (mJ (sg S) 448 o2))) (((mJ (sg S) 448 o1) * (mJ (sg S) 449 o2))) = y110 := ((el_w hx112.2).trans rfl).symm
  refine tt_lload (j := 2) dX7_multiply_126 rfl ?_
  refine tt_lload (j := 1) dX7_multiply_128 rfl ?_
  refine gt_SJp (As := [.long ((mJ (sg S) 449 o1) * (mJ (sg S) 448 o2)), .long ((mJ (sg S) 449 o1) * (mJ (sg S) 449 o2))]) dX7_multiply_130 ca_X7_45 ⟨by decide, by decide⟩ hA (Nat.le_of_ble_eq_true rfl) (Nat.le_of_ble_eq_true rfl) (by decide) (cz_J9_max_f86c9 hG  (fun _ _ _ _ h => h)) rfl (fun _ h => nomatch h) (fun _ _ q => q.1) (fun y113 hx115 => ?_)
  obtain rfl : Z_J9_max_f86c9 (((mJ (sg S) 449 o1) * (mJ (sg S) 448 o2))) (((mJ (sg S) 449 o1) * (mJ (sg S) 449 o2))) = y113 := ((el_w hx115.2).trans rfl).symm
  refine gt_SJp (As := [.long (Z_J9_max_f86c9 (((mJ (sg S) 448 o1) * (mJ (sg S) 448 o2))) (((mJ (sg S) 448 o1) * (mJ (sg S) 449 o2)))), .long (Z_J9_max_f86c9 (((mJ (sg S) 449 o1) * (mJ (sg S) 448 o2))) (((mJ (sg S) 449 o1) * (mJ (sg S) 449 o2))))]) dX7_multiply_133 ca_X7_45 ⟨by decide, by decide⟩ hA (Nat.le_of_ble_eq_true rfl) (Nat.le_of_ble_eq_true rfl) (by decide) (cz_J9_max_f86c9 hG  (fun _ _ _ _ h => h)) rfl (fun _ h => nomatch h) (fun _ _ q => q.1) (fun y116 hx118 => ?_)
  obtain rfl : Z_J9_max_f86c9 ((Z_J9_max_f86c9 (((mJ (sg S) 448 o1) * (mJ (sg S) 448 o2))) (((mJ (sg S) 448 o1) * (mJ (sg S) 449 o2))))) ((Z_J9_max_f86c9 (((mJ (sg S) 449 o1) * (mJ (sg S) 448 o2))) (((mJ (sg S) 449 o1) * (mJ (sg S) 449 o2))))) = y116 := ((el_w hx118.2).trans rfl).symm
  refine tt_lstore (ks := [0, 1, 2, 3, 4, 5, 6, 7, 8]) (L' := [(13, .long (Z_J9_max_f86c9 ((Z_J9_max_f86c9 (((mJ (sg S) 448 o1) * (mJ (sg S) 448 o2))) (((mJ (sg S) 448 o1) * (mJ (sg S) 449 o2))))) ((Z_J9_max_f86c9 (((mJ (sg S) 449 o1) * (mJ (sg S) 448 o2))) (((mJ (sg S) 449 o1) * (mJ (sg S) 449 o2))))))), (11, .long (Z_J9_min_f86c9 ((Z_J9_min_f86c9 (((mJ (sg S) 448 o1) * (mJ (sg S) 448 o2))) (((mJ (sg S) 448 o1) * (mJ (sg S) 449 o2))))) ((Z_J9_min_f86c9 (((mJ (sg S) 449 o1) * (mJ (sg S) 448 o2))) (((mJ (sg S) 449 o1) * (mJ (sg S) 449 o2))))))), (9, .long ((mJ (sg S) 449 o1) * (mJ (sg S) 449 o2))), (7, .long ((mJ (sg S) 449 o1) * (mJ (sg S) 448 o2))), (5, .long ((mJ (sg S) 448 o1) * (mJ (sg S) 449 o2))), (3, .long ((mJ (sg S) 448 o1) * (mJ (sg S) 448 o2))), (0, .ref o0), (1, .ref o1), (2, .ref o2)]) dX7_multiply_136 (by decide) rfl ?_
  refine tt_aload_n (j := 7) dX7_multiply_138 rfl ?_
  refine gt_gJ (id := 450) (v := (mJ (sg S) 450 o1)) dX7_multiply_139 fl_7_15 rfl rfl h1 hA (sg_J (k := 450) (o := o1) (show sg S = (sg S) from rfl)) ?_
  refine tt_aload_n (j := 8) dX7_multiply_142 rfl ?_
  refine gt_gJ (id := 448) (v := (mJ (sg S) 448 o2)) dX7_multiply_143 fl_7_23 rfl rfl h2 hA (sg_J (k := 448) (o := o2) (show sg S = (sg S) from rfl)) ?_
  refine tt_lmul dX7_multiply_146 ?_
  refine tt_aload_n (j := 8) dX7_multiply_147 rfl ?_
  refine gt_gJ (id := 450) (v := (mJ (sg S) 450 o2)) dX7_multiply_148 fl_7_15 rfl rfl h2 hA (sg_J (k := 450) (o := o2) (show sg S = (sg S) from rfl)) ?_
  refine tt_aload_n (j := 7) dX7_multiply_151 rfl ?_
  refine gt_gJ (id := 448) (v := (mJ (sg S) 448 o1)) dX7_multiply_152 fl_7_23 rfl rfl h1 hA (sg_J (k := 448) (o := o1) (show sg S = (sg S) from rfl)) ?_
  refine tt_lmul dX7_multiply_155 ?_
  refine gt_SJp (As := [.long ((mJ (sg S) 450 o1) * (mJ (sg S) 448 o2)), .long ((mJ (sg S) 450 o2) * (mJ (sg S) 448 o1))]) dX7_multiply_156 ca_X7_36 ⟨by decide, by decide⟩ hA (Nat.le_of_ble_eq_true rfl) (Nat.le_of_ble_eq_true rfl) (by decide) (cz_X7_gcd hG  (fun _ _ _ _ h => h)) rfl (fun _ h => nomatch h) (fun _ _ q => q.1) (fun y119 hx121 => ?_)
  obtain rfl : Z_X7_gcd (((mJ (sg S) 450 o1) * (mJ (sg S) 448 o2))) (((mJ (sg S) 450 o2) * (mJ (sg S) 448 o1))) = y119 := ((el_w hx121.2).trans rfl).symm
  refine tt_aload_n (j := 7) dX7_multiply_159 rfl ?_
  refine gt_gJ (id := 450) (v := (mJ (sg S) 450 o1)) dX7_multiply_160 fl_7_15 rfl rfl h1 hA (sg_J (k := 450) (o := o1) (show sg S = (sg S) from rfl)) ?_
  refine tt_aload_n (j := 8) dX7_multiply_163 rfl ?_
  refine gt_gJ (id := 450) (v := (mJ (sg S) 450 o2)) dX7_multiply_164 fl_7_15 rfl rfl h2 hA (sg_J (k := 450) (o := o2) (show sg S = (sg S) from rfl)) ?_
  refine tt_lmul dX7_multiply_167 ?_
  refine gt_SJp (As := [.long (Z_X7_gcd (((mJ (sg S) 450 o1) * (mJ (sg S) 448 o2))) (((mJ (sg S) 450 o2) * (mJ (sg S) 448 o1)))), .long ((mJ (sg S) 450 o1) * (mJ (sg S) 450 o2))]) dX7_multiply_168 ca_X7_36 ⟨by decide, by decide⟩ hA (Nat.le_of_ble_eq_true rfl) (Nat.le_of_ble_eq_true rfl) (by decide) (cz_X7_gcd hG  (fun _ _ _ _ h => h)) rfl (fun _ h => nomatch h) (fun _ _ q => q.1) (fun y122 hx124 => ?_)
  obtain rfl : Z_X7_gcd ((Z_X7_gcd (((mJ (sg S) 450 o1) * (mJ (sg S) 448 o2))) (((mJ (sg S) 450 o2) * (mJ (sg S) 448 o1))))) (((mJ (sg S) 450 o1) * (mJ (sg S) 450 o2))) = y122 := ((el_w hx124.2).trans rfl).symm
  refine tt_lstore (ks := [0, 1, 2, 3, 4, 5, 6, 7, 8, 9]) (L' := [(15, .long (Z_X7_gcd ((Z_X7_gcd (((mJ (sg S) 450 o1) * (mJ (sg S) 448 o2))) (((mJ (sg S) 450 o2) * (mJ (sg S) 448 o1))))) (((mJ (sg S) 450 o1) * (mJ (sg S) 450 o2))))), (13, .long (Z_J9_max_f86c9 ((Z_J9_max_f86c9 (((mJ (sg S) 448 o1) * (mJ (sg S) 448 o2))) (((mJ (sg S) 448 o1) * (mJ (sg S) 449 o2))))) ((Z_J9_max_f86c9 (((mJ (sg S) 449 o1) * (mJ (sg S) 448 o2))) (((mJ (sg S) 449 o1) * (mJ (sg S) 449 o2))))))), (11, .long (Z_J9_min_f86c9 ((Z_J9_min_f86c9 (((mJ (sg S) 448 o1) * (mJ (sg S) 448 o2))) (((mJ (sg S) 448 o1) * (mJ (sg S) 449 o2))))) ((Z_J9_min_f86c9 (((mJ (sg S) 449 o1) * (mJ (sg S) 448 o2))) (((mJ (sg S) 449 o1) * (mJ (sg S) 449 o2))))))), (9, .long ((mJ (sg S) 449 o1) * (mJ (sg S) 449 o2))), (7, .long ((mJ (sg S) 449 o1) * (mJ (sg S) 448 o2))), (5, .long ((mJ (sg S) 448 o1) * (mJ (sg S) 449 o2))), (3, .long ((mJ (sg S) 448 o1) * (mJ (sg S) 448 o2))), (0, .ref o0), (1, .ref o1), (2, .ref o2)]) dX7_multiply_171 (by decide) rfl ?_
  refine tt_aload_n (j := 7) dX7_multiply_173 rfl ?_
  refine tt_lload (j := 2) dX7_multiply_174 rfl ?_
  refine tt_lload (j := 1) dX7_multiply_176 rfl ?_
  refine tt_lload (j := 0) dX7_multiply_178 rfl ?_
  refine gt_Vv (As := [.long (Z_J9_min_f86c9 ((Z_J9_min_f86c9 (((mJ (sg S) 448 o1) * (mJ (sg S) 448 o2))) (((mJ (sg S) 448 o1) * (mJ (sg S) 449 o2))))) ((Z_J9_min_f86c9 (((mJ (sg S) 449 o1) * (mJ (sg S) 448 o2))) (((mJ (sg S) 449 o1) * (mJ (sg S) 449 o2)))))), .long (Z_J9_max_f86c9 ((Z_J9_max_f86c9 (((mJ (sg S) 448 o1) * (mJ (sg S) 448 o2))) (((mJ (sg S) 448 o1) * (mJ (sg S) 449 o2))))) ((Z_J9_max_f86c9 (((mJ (sg S) 449 o1) * (mJ (sg S) 448 o2))) (((mJ (sg S) 449 o1) * (mJ (sg S) 449 o2)))))), .long (Z_X7_gcd ((Z_X7_gcd (((mJ (sg S) 450 o1) * (mJ (sg S) 448 o2))) (((mJ (sg S) 450 o2) * (mJ (sg S) 448 o1))))) (((mJ (sg S) 450 o1) * (mJ (sg S) 450 o2))))]) dX7_multiply_180 ca_X7_48 ⟨by decide, by decide⟩ h0 hA rfl (Nat.le_of_ble_eq_true rfl) (Nat.le_of_ble_eq_true rfl) (by decide) (cz_X7_become hG (oa_af h0 hA) hR (fun _ _ _ _ h => h)) rfl (fun _ h => nomatch h) (fun S125 hx129 hG126 hB127 hA128 => ?_)
  obtain ⟨d130, hd131⟩ : ∃ q, Z_X7_become R (sg S) o0 ((Z_J9_min_f86c9 ((Z_J9_min_f86c9 (((mJ (sg S) 448 o1) * (mJ (sg S) 448 o2))) (((mJ (sg S) 448 o1) * (mJ (sg S) 449 o2))))) ((Z_J9_min_f86c9 (((mJ (sg S) 449 o1) * (mJ (sg S) 448 o2))) (((mJ (sg S) 449 o1) * (mJ (sg S) 449 o2))))))) ((Z_J9_max_f86c9 ((Z_J9_max_f86c9 (((mJ (sg S) 448 o1) * (mJ (sg S) 448 o2))) (((mJ (sg S) 448 o1) * (mJ (sg S) 449 o2))))) ((Z_J9_max_f86c9 (((mJ (sg S) 449 o1) * (mJ (sg S) 448 o2))) (((mJ (sg S) 449 o1) * (mJ (sg S) 449 o2))))))) ((Z_X7_gcd ((Z_X7_gcd (((mJ (sg S) 450 o1) * (mJ (sg S) 448 o2))) (((mJ (sg S) 450 o2) * (mJ (sg S) 448 o1))))) (((mJ (sg S) 450 o1) * (mJ (sg S) 450 o2))))) = q := ⟨_, rfl⟩
  have hq132 := (congrArg (fun q9 => Z_X7_become R q9 o0 ((Z_J9_min_f86c9 ((Z_J9_min_f86c9 (((mJ (sg S) 448 o1) * (mJ (sg S) 448 o2))) (((mJ (sg S) 448 o1) * (mJ (sg S) 449 o2))))) ((Z_J9_min_f86c9 (((mJ (sg S) 449 o1) * (mJ (sg S) 448 o2))) (((mJ (sg S) 449 o1) * (mJ (sg S) 449 o2))))))) ((Z_J9_max_f86c9 ((Z_J9_max_f86c9 (((mJ (sg S) 448 o1) * (mJ (sg S) 448 o2))) (((mJ (sg S) 448 o1) * (mJ (sg S) 449 o2))))) ((Z_J9_max_f86c9 (((mJ (sg S) 449 o1) * (mJ (sg S) 448 o2))) (((mJ (sg S) 449 o1) * (mJ (sg S) 449 o2))))))) ((Z_X7_gcd ((Z_X7_gcd (((mJ (sg S) 450 o1) * (mJ (sg S) 448 o2))) (((mJ (sg S) 450 o2) * (mJ (sg S) 448 o1))))) (((mJ (sg S) 450 o1) * (mJ (sg S) 450 o2)))))) (show sg S = (sg S) from rfl)).trans hd131
  have hs133 := hx129.trans hq132
  have hF : Z_X7_multiply_p59 R (sg S) o0 o1 o2 = d130 := by
    subst hd131
    rfl
  exact tt_vreturn dX7_multiply_183 rfl (hP _ _ _ _ ⟨hG126, hA128, Or.inl ⟨_, rfl, rfl, Eq.trans hs133 hF.symm, rfl, rfl⟩⟩)
def Z_X7_multiply_p40 (R : Nat → Nat → Nat) (σ : SG) (o0 : Nat) (o1 : Nat) (o2 : Nat) : SG :=
  if (Z_X7_isFactor R σ o1) = 0 then
    let d111 := Z_X7_becomeAny R σ o0
    d111
  else
    if (Z_X7_isFactor R σ o2) = 0 then
      let d127 := Z_X7_becomeAny R σ o0
      d127
    else
      Z_X7_multiply_p59 R σ o0 o1 o2
theorem zl_X7_multiply_p40_0 {R : Nat → Nat → Nat} {σ : SG} {o0 : Nat} {o1 : Nat} {o2 : Nat} (h0 : (Z_X7_isFactor R σ o1) = 0) : Z_X7_multiply_p40 R σ o0 o1 o2 = (Z_X7_becomeAny R σ o0) := by unfold Z_X7_multiply_p40; exact if_pos h0
theorem zl_X7_multiply_p40_1 {R : Nat → Nat → Nat} {σ : SG} {o0 : Nat} {o1 : Nat} {o2 : Nat} (h0 : ¬ (Z_X7_isFactor R σ o1) = 0) (h1 : (Z_X7_isFactor R σ o2) = 0) : Z_X7_multiply_p40 R σ o0 o1 o2 = (Z_X7_becomeAny R σ o0) := by unfold Z_X7_multiply_p40; exact Eq.trans (if_neg h0) (if_pos h1)
theorem zl_X7_multiply_p40_2 {R : Nat → Nat → Nat} {σ : SG} {o0 : Nat} {o1 : Nat} {o2 : Nat} (h0 : ¬ (Z_X7_isFactor R σ o1) = 0) (h1 : ¬ (Z_X7_isFactor R σ o2) = 0) : Z_X7_multiply_p40 R σ o0 o1 o2 = Z_X7_multiply_p59 R σ o0 o1 o2 := by unfold Z_X7_multiply_p40; exact Eq.trans (if_neg h0) (if_neg h1)
set_option maxHeartbeats 40000000 in
theorem cz_X7_multiply_p40 {xi : SX} {S : Hp} {E : List Nat} {kc nc : Nat} {P : Po} {o0 : Nat} {o1 : Nat} {o2 : Nat} {R : Nat → Nat → Nat} (hG : GI S E) (h0 : Oa S E 7 0 o0) (h1 : Oa S E 7 0 o1) (h2 : Oa S E 7 0 o2) (hR : RK S R) (hP : ∀ r T x y, PV E [9987] S kc nc rV (fun v T => sg T = Z_X7_multiply_p40 R (sg S) o0 o1 o2) [] r T x y → P r T x y) : TT xi M_X7_multiply 40 [(0, .ref o0), (1, .ref o1), (2, .ref o2)] [] S kc nc P := by
  have hA : Af E [9987] S S := af_rf
  refine tt_aload_n (j := 1) dX7_multiply_40 rfl ?_
  refine gt_VIp (As := []) dX7_multiply_41 ca_X7_113 ⟨by decide, by decide⟩ h1 hA rfl (Nat.le_of_ble_eq_true rfl) (Nat.le_of_ble_eq_true rfl) (by decide) (cz_X7_isFactor hG (oa_af h1 hA) hR (fun _ _ _ _ h => h)) rfl (fun _ h => nomatch h) (fun _ _ q => q.1) (fun x101 h102 hx103 => ?_)
  obtain rfl : Z_X7_isFactor R (sg S) o1 = x101 := ((ei_w hx103.2).trans (congrArg (fun q9 => Z_X7_isFactor R q9 o1) (show sg S = (sg S) from rfl))).symm
  refine tt_if_eq (tgt := 54) dX7_multiply_44 rfl (fun q104 => ?_) (fun q104 => ?_)
  · skip
    have h105 : Rg 0 0 (Z_X7_isFactor R (sg S) o1) := rg_eq_l h102 (⟨by decide, by decide⟩ : Rg 0 0 0) q104
    refine tt_aload_n (j := 0) dX7_multiply_54 rfl ?_
    refine gt_Vv (As := []) dX7_multiply_55 ca_X7_33 ⟨by decide, by decide⟩ h0 hA rfl (Nat.le_of_ble_eq_true rfl) (Nat.le_of_ble_eq_true rfl) (by decide) (cz_X7_becomeAny hG (oa_af h0 hA) hR (fun _ _ _ _ h => h)) rfl (fun _ h => nomatch h) (fun S106 hx110 hG107 hB108 hA109 => ?_)
    obtain ⟨d111, hd112⟩ : ∃ q, Z_X7_becomeAny R (sg S) o0 = q := ⟨_, rfl⟩
    have hq113 := (congrArg (fun q9 => Z_X7_becomeAny R q9 o0) (show sg S = (sg S) from rfl)).trans hd112
    have hs114 := hx110.trans hq113
    have hF : Z_X7_multiply_p40 R (sg S) o0 o1 o2 = d111 := by
      subst hd112
      exact zl_X7_multiply_p40_0 q104
    exact tt_vreturn dX7_multiply_58 rfl (hP _ _ _ _ ⟨hG107, hA109, Or.inl ⟨_, rfl, rfl, Eq.trans hs114 hF.symm, rfl, rfl⟩⟩)
  · skip
    have h115 : Rg 1 1 (Z_X7_isFactor R (sg S) o1) := rg_ne_lo h102 (⟨by decide, by decide⟩ : Rg 0 0 0) q104
    refine tt_aload_n (j := 2) dX7_multiply_47 rfl ?_
    refine gt_VIp (As := []) dX7_multiply_48 ca_X7_113 ⟨by decide, by decide⟩ h2 hA rfl (Nat.le_of_ble_eq_true rfl) (Nat.le_of_ble_eq_true rfl) (by decide) (cz_X7_isFactor hG (oa_af h2 hA) hR (fun _ _ _ _ h => h)) rfl (fun _ h => nomatch h) (fun _ _ q => q.1) (fun x116 h117 hx118 => ?_)
    obtain rfl : Z_X7_isFactor R (sg S) o2 = x116 := ((ei_w hx118.2).trans (congrArg (fun q9 => Z_X7_isFactor R q9 o2) (show sg S = (sg S) from rfl))).symm
    refine tt_if_ne (tgt := 59) dX7_multiply_51 rfl (fun q119 => ?_) (fun q119 => ?_)
    · skip
      have h120 : Rg 1 1 (Z_X7_isFactor R (sg S) o2) := rg_ne_lo h117 (⟨by decide, by decide⟩ : Rg 0 0 0) q119
      have hF : Z_X7_multiply_p40 R (sg S) o0 o1 o2 = Z_X7_multiply_p59 R (sg S) o0 o1 o2 := by
        exact zl_X7_multiply_p40_2 q104 q119
      exact tt_loc (ks := [0, 1, 2]) rfl (cz_X7_multiply_p59 hG (oa_af h0 hA) (oa_af h1 hA) (oa_af h2 hA) hR (fun r T x y h => hP r T x y (pv_tr hA h (by decide) (fun v T e => e.trans ((congrArg (fun q9 => Z_X7_multiply_p59 R q9 o0 o1 o2) (show sg S = (sg S) from rfl)).trans hF.symm)))))
    · skip
      have h121 : Rg 0 0 (Z_X7_isFactor R (sg S) o2) := rg_eq_l h117 (⟨by decide, by decide⟩ : Rg 0 0 0) q119
      refine tt_aload_n (j := 0) dX7_multiply_54 rfl ?_
      refine gt_Vv (As := []) dX7_multiply_55 ca_X7_33 ⟨by decide, by decide⟩ h0 hA rfl (Nat.le_of_ble_eq_true rfl) (Nat.le_of_ble_eq_true rfl) (by decide) (cz_X7_becomeAny hG (oa_af h0 hA) hR (fun _ _ _ _ h => h)) rfl (fun _ h => nomatch h) (fun S122 hx126 hG123 hB124 hA125 => ?_)
      obtain ⟨d127, hd128⟩ : ∃ q, Z_X7_becomeAny R (sg S) o0 = q := ⟨_, rfl⟩
      have hq129 := (congrArg (fun q9 => Z_X7_becomeAny R q9 o0) (show sg S = (sg S) from rfl)).trans hd128
      have hs130 := hx126.trans hq129
      have hF : Z_X7_multiply_p40 R (sg S) o0 o1 o2 = d127 := by
        subst hd128
        exact zl_X7_multiply_p40_1 q104 q119
      exact tt_vreturn dX7_multiply_58 rfl (hP _ _ _ _ ⟨hG123, hA125, Or.inl ⟨_, rfl, rfl, Eq.trans hs130 hF.symm, rfl, rfl⟩⟩)
def Z_X7_multiply (R : Nat → Nat → Nat) (σ : SG) (o0 : Nat) (o1 : Nat) (o2 : Nat) : SG :=
  if (Z_X7_isSingle R σ o1) = 0 then
    if (Z_X7_isSingle R σ o2) = 0 then
      Z_X7_multiply_p40 R σ o0 o1 o2
    else
      if (mJ σ 448 o2) = (0 : Int64) then
        let d118 := Z_X7_become R σ o0 (0) (0) (0)
        d118
      else
        Z_X7_multiply_p40 R σ o0 o1 o2
  else
    if (mJ σ 448 o1) = (0 : Int64) then
      let d129 := Z_X7_become R σ o0 (0) (0) (0)
      d129
    else
      if (Z_X7_isSingle R σ o2) = 0 then
        Z_X7_multiply_p40 R σ o0 o1 o2
      else
        if (mJ σ 448 o2) = (0 : Int64) then
          let d145 := Z_X7_become R σ o0 (0) (0) (0)
          d145
        else
          Z_X7_multiply_p40 R σ o0 o1 o2
theorem zl_X7_multiply_0 {R : Nat → Nat → Nat} {σ : SG} {o0 : Nat} {o1 : Nat} {o2 : Nat} (h0 : (Z_X7_isSingle R σ o1) = 0) (h1 : (Z_X7_isSingle R σ o2) = 0) : Z_X7_multiply R σ o0 o1 o2 = Z_X7_multiply_p40 R σ o0 o1 o2 := by unfold Z_X7_multiply; exact Eq.trans (if_pos h0) (if_pos h1)
theorem zl_X7_multiply_1 {R : Nat → Nat → Nat} {σ : SG} {o0 : Nat} {o1 : Nat} {o2 : Nat} (h0 : (Z_X7_isSingle R σ o1) = 0) (h1 : ¬ (Z_X7_isSingle R σ o2) = 0) (h2 : (mJ σ 448 o2) = (0 : Int64)) : Z_X7_multiply R σ o0 o1 o2 = (Z_X7_become R σ o0 (0) (0) (0)) := by unfold Z_X7_multiply; exact Eq.trans (if_pos h0) (Eq.trans (if_neg h1) (if_pos h2))
theorem zl_X7_multiply_2 {R : Nat → Nat → Nat} {σ : SG} {o0 : Nat} {o1 : Nat} {o2 : Nat} (h0 : (Z_X7_isSingle R σ o1) = 0) (h1 : ¬ (Z_X7_isSingle R σ o2) = 0) (h2 : ¬ (mJ σ 448 o2) = (0 : Int64)) : Z_X7_multiply R σ o0 o1 o2 = Z_X7_multiply_p40 R σ o0 o1 o2 := by unfold Z_X7_multiply; exact Eq.trans (if_pos h0) (Eq.trans (if_neg h1) (if_neg h2))
theorem zl_X7_multiply_3 {R : Nat → Nat → Nat} {σ : SG} {o0 : Nat} {o1 : Nat} {o2 : Nat} (h0 : ¬ (Z_X7_isSingle R σ o1) = 0) (h1 : (mJ σ 448 o1) = (0 : Int64)) : Z_X7_multiply R σ o0 o1 o2 = (Z_X7_become R σ o0 (0) (0) (0)) := by unfold Z_X7_multiply; exact Eq.trans (if_neg h0) (if_pos h1)
theorem zl_X7_multiply_4 {R : Nat → Nat → Nat} {σ : SG} {o0 : Nat} {o1 : Nat} {o2 : Nat} (h0 : ¬ (Z_X7_isSingle R σ o1) = 0) (h1 : ¬ (mJ σ 448 o1) = (0 : Int64)) (h2 : (Z_X7_isSingle R σ o2) = 0) : Z_X7_multiply R σ o0 o1 o2 = Z_X7_multiply_p40 R σ o0 o1 o2 := by unfold Z_X7_multiply; exact Eq.trans (if_neg h0) (Eq.trans (if_neg h1) (if_pos h2))
theorem zl_X7_multiply_5 {R : Nat → Nat → Nat} {σ : SG} {o0 : Nat} {o1 : Nat} {o2 : Nat} (h0 : ¬ (Z_X7_isSingle R σ o1) = 0) (h1 : ¬ (mJ σ 448 o1) = (0 : Int64)) (h2 : ¬ (Z_X7_isSingle R σ o2) = 0) (h3 : (mJ σ 448 o2) = (0 : Int64)) : Z_X7_multiply R σ o0 o1 o2 = (Z_X7_become R σ o0 (0) (0) (0)) := by unfold Z_X7_multiply; exact Eq.trans (if_neg h0) (Eq.trans (if_neg h1) (Eq.trans (if_neg h2) (if_pos h3)))
theorem zl_X7_multiply_6 {R : Nat → Nat → Nat} {σ : SG} {o0 : Nat} {o1 : Nat} {o2 : Nat} (h0 : ¬ (Z_X7_isSingle R σ o1) = 0) (h1 : ¬ (mJ σ 448 o1) = (0 : Int64)) (h2 : ¬ (Z_X7_isSingle R σ o2) = 0) (h3 : ¬ (mJ σ 448 o2) = (0 : Int64)) : Z_X7_multiply R σ o0 o1 o2 = Z_X7_multiply_p40 R σ o0 o1 o2 := by unfold Z_X7_multiply; exact Eq.trans (if_neg h0) (Eq.trans (if_neg h1) (Eq.trans (if_neg h2) (if_neg h3)))
set_option maxHeartbeats 40000000 in
theorem cz_X7_multiply {xi : SX} {S : Hp} {E : List Nat} {kc nc : Nat} {P : Po} {o0 : Nat} {o1 : Nat} {o2 : Nat} {R : Nat → Nat → Nat} (hG : GI S E) (h0 : Oa S E 7 0 o0) (h1 : Oa S E 7 0 o1) (h2 : Oa S E 7 0 o2) (hR : RK S R) (hP : ∀ r T x y, PV E [9987] S kc nc rV (fun v T => sg T = Z_X7_multiply R (sg S) o0 o1 o2) [] r T x y → P r T x y) : TT xi M_X7_multiply 0 [(0, .ref o0), (1, .ref o1), (2, .ref o2)] [] S kc nc P := by
  have hA : Af E [9987] S S := af_rf
  refine tt_aload_n (j := 1) dX7_multiply_0 rfl ?_
  refine gt_VIp (As := []) dX7_multiply_1 ca_X7_58 ⟨by decide, by decide⟩ h1 hA rfl (Nat.le_of_ble_eq_true rfl) (Nat.le_of_ble_eq_true rfl) (by decide) (cz_X7_isSingle hG (oa_af h1 hA) hR (fun _ _ _ _ h => h)) rfl (fun _ h => nomatch h) (fun _ _ q => q.1) (fun x101 h102 hx103 => ?_)
  obtain rfl : Z_X7_isSingle R (sg S) o1 = x101 := ((ei_w hx103.2).trans (congrArg (fun q9 => Z_X7_isSingle R q9 o1) (show sg S = (sg S) from rfl))).symm
  refine tt_if_eq (tgt := 16) dX7_multiply_4 rfl (fun q104 => ?_) (fun q104 => ?_)
  · skip
    have h105 : Rg 0 0 (Z_X7_isSingle R (sg S) o1) := rg_eq_l h102 (⟨by decide, by decide⟩ : Rg 0 0 0) q104
    refine tt_aload_n (j := 2) dX7_multiply_16 rfl ?_
    refine gt_VIp (As := []) dX7_multiply_17 ca_X7_58 ⟨by decide, by decide⟩ h2 hA rfl (Nat.le_of_ble_eq_true rfl) (Nat.le_of_ble_eq_true rfl) (by decide) (cz_X7_isSingle hG (oa_af h2 hA) hR (fun _ _ _ _ h => h)) rfl (fun _ h => nomatch h) (fun _ _ q => q.1) (fun x106 h107 hx108 => ?_)
    obtain rfl : Z_X7_isSingle R (sg S) o2 = x106 := ((ei_w hx108.2).trans (congrArg (fun q9 => Z_X7_isSingle R q9 o2) (show sg S = (sg S) from rfl))).symm
    refine tt_if_eq (tgt := 40) dX7_multiply_20 rfl (fun q109 => ?_) (fun q109 => ?_)
    · skip
      have h110 : Rg 0 0 (Z_X7_isSingle R (sg S) o2) := rg_eq_l h107 (⟨by decide, by decide⟩ : Rg 0 0 0) q109
      have hF : Z_X7_multiply R (sg S) o0 o1 o2 = Z_X7_multiply_p40 R (sg S) o0 o1 o2 := by
        exact zl_X7_multiply_0 q104 q109
      exact tt_loc (ks := [0, 1, 2]) rfl (cz_X7_multiply_p40 hG (oa_af h0 hA) (oa_af h1 hA) (oa_af h2 hA) hR (fun r T x y h => hP r T x y (pv_tr hA h (by decide) (fun v T e => e.trans ((congrArg (fun q9 => Z_X7_multiply_p40 R q9 o0 o1 o2) (show sg S = (sg S) from rfl)).trans hF.symm)))))
    · skip
      have h111 : Rg 1 1 (Z_X7_isSingle R (sg S) o2) := rg_ne_lo h107 (⟨by decide, by decide⟩ : Rg 0 0 0) q109
      refine tt_aload_n (j := 2) dX7_multiply_23 rfl ?_
      refine gt_gJ (id := 448) (v := (mJ (sg S) 448 o2)) dX7_multiply_24 fl_7_23 rfl rfl h2 hA (sg_J (k := 448) (o := o2) (show sg S = (sg S) from rfl)) ?_
      refine tt_lconst (v := 0) dX7_multiply_27 rfl ?_
      refine tt_lcmp dX7_multiply_28 ?_
      refine tt_if_ne (tgt := 40) dX7_multiply_29 rfl (fun q112 => ?_) (fun q112 => ?_)
      · skip
        have hF : Z_X7_multiply R (sg S) o0 o1 o2 = Z_X7_multiply_p40 R (sg S) o0 o1 o2 := by
          exact zl_X7_multiply_2 q104 q109 (lc_ne_t q112)
        exact tt_loc (ks := [0, 1, 2]) rfl (cz_X7_multiply_p40 hG (oa_af h0 hA) (oa_af h1 hA) (oa_af h2 hA) hR (fun r T x y h => hP r T x y (pv_tr hA h (by decide) (fun v T e => e.trans ((congrArg (fun q9 => Z_X7_multiply_p40 R q9 o0 o1 o2) (show sg S = (sg S) from rfl)).trans hF.symm)))))
      · skip
        refine tt_aload_n (j := 0) dX7_multiply_32 rfl ?_
        refine tt_lconst (v := 0) dX7_multiply_33 rfl ?_
        refine tt_lconst (v := 0) dX7_multiply_34 rfl ?_
        refine tt_lconst (v := 0) dX7_multiply_35 rfl ?_
        refine gt_Vv (As := [.long 0, .long 0, .long 0]) dX7_multiply_36 ca_X7_48 ⟨by decide, by decide⟩ h0 hA rfl (Nat.le_of_ble_eq_true rfl) (Nat.le_of_ble_eq_true rfl) (by decide) (cz_X7_become hG (oa_af h0 hA) hR (fun _ _ _ _ h => h)) rfl (fun _ h => nomatch h) (fun S113 hx117 hG114 hB115 hA116 => ?_)
        obtain ⟨d118, hd119⟩ : ∃ q, Z_X7_become R (sg S) o0 (0) (0) (0) = q := ⟨_, rfl⟩
        have hq120 := (congrArg (fun q9 => Z_X7_become R q9 o0 (0) (0) (0)) (show sg S = (sg S) from rfl)).trans hd119
        have hs121 := hx117.trans hq120
        have hF : Z_X7_multiply R (sg S) o0 o1 o2 = d118 := by
          subst hd119
          exact zl_X7_multiply_1 q104 q109 (lc_ne_f q112)
        exact tt_vreturn dX7_multiply_39 rfl (hP _ _ _ _ ⟨hG114, hA116, Or.inl ⟨_, rfl, rfl, Eq.trans hs121 hF.symm, rfl, rfl⟩⟩)
  · skip
    have h122 : Rg 1 1 (Z_X7_isSingle R (sg S) o1) := rg_ne_lo h102 (⟨by decide, by decide⟩ : Rg 0 0 0) q104
    refine tt_aload_n (j := 1) dX7_multiply_7 rfl ?_
    refine gt_gJ (id := 448) (v := (mJ (sg S) 448 o1)) dX7_multiply_8 fl_7_23 rfl rfl h1 hA (sg_J (k := 448) (o := o1) (show sg S = (sg S) from rfl)) ?_
    refine tt_lconst (v := 0) dX7_multiply_11 rfl ?_
    refine tt_lcmp dX7_multiply_12 ?_
    refine tt_if_eq (tgt := 32) dX7_multiply_13 rfl (fun q123 => ?_) (fun q123 => ?_)
    · skip
      refine tt_aload_n (j := 0) dX7_multiply_32 rfl ?_
      refine tt_lconst (v := 0) dX7_multiply_33 rfl ?_
      refine tt_lconst (v := 0) dX7_multiply_34 rfl ?_
      refine tt_lconst (v := 0) dX7_multiply_35 rfl ?_
      refine gt_Vv (As := [.long 0, .long 0, .long 0]) dX7_multiply_36 ca_X7_48 ⟨by decide, by decide⟩ h0 hA rfl (Nat.le_of_ble_eq_true rfl) (Nat.le_of_ble_eq_true rfl) (by decide) (cz_X7_become hG (oa_af h0 hA) hR (fun _ _ _ _ h => h)) rfl (fun _ h => nomatch h) (fun S124 hx128 hG125 hB126 hA127 => ?_)
      obtain ⟨d129, hd130⟩ : ∃ q, Z_X7_become R (sg S) o0 (0) (0) (0) = q := ⟨_, rfl⟩
      have hq131 := (congrArg (fun q9 => Z_X7_become R q9 o0 (0) (0) (0)) (show sg S = (sg S) from rfl)).trans hd130
      have hs132 := hx128.trans hq131
      have hF : Z_X7_multiply R (sg S) o0 o1 o2 = d129 := by
        subst hd130
        exact zl_X7_multiply_3 q104 (lc_eq_t q123)
      exact tt_vreturn dX7_multiply_39 rfl (hP _ _ _ _ ⟨hG125, hA127, Or.inl ⟨_, rfl, rfl, Eq.trans hs132 hF.symm, rfl, rfl⟩⟩)
    · skip
      refine tt_aload_n (j := 2) dX7_multiply_16 rfl ?_
      refine gt_VIp (As := []) dX7_multiply_17 ca_X7_58 ⟨by decide, by decide⟩ h2 hA rfl (Nat.le_of_ble_eq_true rfl) (Nat.le_of_ble_eq_true rfl) (by decide) (cz_X7_isSingle hG (oa_af h2 hA) hR (fun _ _ _ _ h => h)) rfl (fun _ h => nomatch h) (fun _ _ q => q.1) (fun x133 h134 hx135 => ?_)
      obtain rfl : Z_X7_isSingle R (sg S) o2 = x133 := ((ei_w hx135.2).trans (congrArg (fun q9 => Z_X7_isSingle R q9 o2) (show sg S = (sg S) from rfl))).symm
      refine tt_if_eq (tgt := 40) dX7_multiply_20 rfl (fun q136 => ?_) (fun q136 => ?_)
      · skip
        have h137 : Rg 0 0 (Z_X7_isSingle R (sg S) o2) := rg_eq_l h134 (⟨by decide, by decide⟩ : Rg 0 0 0) q136
        have hF : Z_X7_multiply R (sg S) o0 o1 o2 = Z_X7_multiply_p40 R (sg S) o0 o1 o2 := by
          exact zl_X7_multiply_4 q104 (lc_eq_f q123) q136
        exact tt_loc (ks := [0, 1, 2]) rfl (cz_X7_multiply_p40 hG (oa_af h0 hA) (oa_af h1 hA) (oa_af h2 hA) hR (fun r T x y h => hP r T x y (pv_tr hA h (by decide) (fun v T e => e.trans ((congrArg (fun q9 => Z_X7_multiply_p40 R q9 o0 o1 o2) (show sg S = (sg S) from rfl)).trans hF.symm)))))
      · skip
        have h138 : Rg 1 1 (Z_X7_isSingle R (sg S) o2) := rg_ne_lo h134 (⟨by decide, by decide⟩ : Rg 0 0 0) q136
        refine tt_aload_n (j := 2) dX7_multiply_23 rfl ?_
        refine gt_gJ (id := 448) (v := (mJ (sg S) 448 o2)) dX7_multiply_24 fl_7_23 rfl rfl h2 hA (sg_J (k := 448) (o := o2) (show sg S = (sg S) from rfl)) ?_
        refine tt_lconst (v := 0) dX7_multiply_27 rfl ?_
        refine tt_lcmp dX7_multiply_28 ?_
        refine tt_if_ne (tgt := 40) dX7_multiply_29 rfl (fun q139 => ?_) (fun q139 => ?_)
        · skip
          have hF : Z_X7_multiply R (sg S) o0 o1 o2 = Z_X7_multiply_p40 R (sg S) o0 o1 o2 := by
            exact zl_X7_multiply_6 q104 (lc_eq_f q123) q136 (lc_ne_t q139)
          exact tt_loc (ks := [0, 1, 2]) rfl (cz_X7_multiply_p40 hG (oa_af h0 hA) (oa_af h1 hA) (oa_af h2 hA) hR (fun r T x y h => hP r T x y (pv_tr hA h (by decide) (fun v T e => e.trans ((congrArg (fun q9 => Z_X7_multiply_p40 R q9 o0 o1 o2) (show sg S = (sg S) from rfl)).trans hF.symm)))))
        · skip
          refine tt_aload_n (j := 0) dX7_multiply_32 rfl ?_
          refine tt_lconst (v := 0) dX7_multiply_33 rfl ?_
          refine tt_lconst (v := 0) dX7_multiply_34 rfl ?_
          refine tt_lconst (v := 0) dX7_multiply_35 rfl ?_
          refine gt_Vv (As := [.long 0, .long 0, .long 0]) dX7_multiply_36 ca_X7_48 ⟨by decide, by decide⟩ h0 hA rfl (Nat.le_of_ble_eq_true rfl) (Nat.le_of_ble_eq_true rfl) (by decide) (cz_X7_become hG (oa_af h0 hA) hR (fun _ _ _ _ h => h)) rfl (fun _ h => nomatch h) (fun S140 hx144 hG141 hB142 hA143 => ?_)
          obtain ⟨d145, hd146⟩ : ∃ q, Z_X7_become R (sg S) o0 (0) (0) (0) = q := ⟨_, rfl⟩
          have hq147 := (congrArg (fun q9 => Z_X7_become R q9 o0 (0) (0) (0)) (show sg S = (sg S) from rfl)).trans hd146
          have hs148 := hx144.trans hq147
          have hF : Z_X7_multiply R (sg S) o0 o1 o2 = d145 := by
            subst hd146
            exact zl_X7_multiply_5 q104 (lc_eq_f q123) q136 (lc_ne_f q139)
          exact tt_vreturn dX7_multiply_39 rfl (hP _ _ _ _ ⟨hG141, hA143, Or.inl ⟨_, rfl, rfl, Eq.trans hs148 hF.symm, rfl, rfl⟩⟩)
def Z_X7_and_p131 (R : Nat → Nat → Nat) (σ : SG) (o0 : Nat) (y3 : Int64) (x5 : Int32) : SG :=
  if x5 = 0 then
    let d108 := Z_X7_become R σ o0 (0) (y3) (1)
    d108
  else
    let d121 := Z_X7_become R σ o0 (0) (y3) ((Z_J13_lowestOneBit_067f4 (y3)))
    d121
theorem zl_X7_and_p131_0 {R : Nat → Nat → Nat} {σ : SG} {o0 : Nat} {y3 : Int64} {x5 : Int32} (h0 : x5 = 0) : Z_X7_and_p131 R σ o0 y3 x5 = (Z_X7_become R σ o0 (0) (y3) (1)) := by unfold Z_X7_and_p131; exact if_pos h0
theorem zl_X7_and_p131_1 {R : Nat → Nat → Nat} {σ : SG} {o0 : Nat} {y3 : Int64} {x5 : Int32} (h0 : ¬ x5 = 0) : Z_X7_and_p131 R σ o0 y3 x5 = (Z_X7_become R σ o0 (0) (y3) ((Z_J13_lowestOneBit_067f4 (y3)))) := by unfold Z_X7_and_p131; exact if_neg h0
set_option maxHeartbeats 40000000 in
theorem cz_X7_and_p131 {xi : SX} {S : Hp} {E : List Nat} {kc nc : Nat} {P : Po} {o0 : Nat} {y3 : Int64} {x5 : Int32} {R : Nat → Nat → Nat} (hG : GI S E) (h0 : Oa S E 7 0 o0) (h5 : Rg 0 1 x5) (hR : RK S R) (hP : ∀ r T x y, PV E [9987] S kc nc rV (fun v T => sg T = Z_X7_and_p131 R (sg S) o0 y3 x5) [] r T x y → P r T x y) : TT xi M_X7_and 131 [(0, .ref o0), (3, .long y3), (5, .int x5)] [] S kc nc P := by
  have hA : Af E [9987] S S := af_rf
  refine tt_aload_n (j := 0) dX7_and_131 rfl ?_
  refine tt_lconst (v := 0) dX7_and_132 rfl ?_
  refine tt_lload_n (j := 1) dX7_and_133 rfl ?_
  refine tt_iload (j := 2) dX7_and_134 rfl ?_
  refine tt_if_eq (tgt := 146) dX7_and_136 rfl (fun q101 => ?_) (fun q101 => ?_)
  · skip
    have h102 : Rg 0 0 x5 := rg_eq_l h5 (⟨by decide, by decide⟩ : Rg 0 0 0) q101
    refine tt_lconst (v := 1) dX7_and_146 rfl ?_
    refine gt_Vv (As := [.long 0, .long y3, .long 1]) dX7_and_147 ca_X7_48 ⟨by decide, by decide⟩ h0 hA rfl (Nat.le_of_ble_eq_true rfl) (Nat.le_of_ble_eq_true rfl) (by decide) (cz_X7_become hG (oa_af h0 hA) hR (fun _ _ _ _ h => h)) rfl (fun _ h => nomatch h) (fun S103 hx107 hG104 hB105 hA106 => ?_)
    obtain ⟨d108, hd109⟩ : ∃ q, Z_X7_become R (sg S) o0 (0) (y3) (1) = q := ⟨_, rfl⟩
    have hq110 := (congrArg (fun q9 => Z_X7_become R q9 o0 (0) (y3) (1)) (show sg S = (sg S) from rfl)).trans hd109
    have hs111 := hx107.trans hq110
    have hF : Z_X7_and_p131 R (sg S) o0 y3 x5 = d108 := by
      subst hd109
      exact zl_X7_and_p131_0 q101
    exact tt_vreturn dX7_and_150 rfl (hP _ _ _ _ ⟨hG104, hA106, Or.inl ⟨_, rfl, rfl, Eq.trans hs111 hF.symm, rfl, rfl⟩⟩)
  · skip
    have h112 : Rg 1 1 x5 := rg_ne_lo h5 (⟨by decide, by decide⟩ : Rg 0 0 0) q101
    refine tt_lload_n (j := 1) dX7_and_139 rfl ?_
    refine gt_SJp (As := [.long y3]) dX7_and_140 ca_X7_97 ⟨by decide, by decide⟩ hA (Nat.le_of_ble_eq_true rfl) (Nat.le_of_ble_eq_true rfl) (by decide) (cz_J13_lowestOneBit_067f4 hG  (fun _ _ _ _ h => h)) rfl (fun _ h => nomatch h) (fun _ _ q => q.1) (fun y113 hx115 => ?_)
    obtain rfl : Z_J13_lowestOneBit_067f4 (y3) = y113 := ((el_w hx115.2).trans rfl).symm
    refine tt_goto (tgt := 147) dX7_and_143 rfl ?_
    refine gt_Vv (As := [.long 0, .long y3, .long (Z_J13_lowestOneBit_067f4 (y3))]) dX7_and_147 ca_X7_48 ⟨by decide, by decide⟩ h0 hA rfl (Nat.le_of_ble_eq_true rfl) (Nat.le_of_ble_eq_true rfl) (by decide) (cz_X7_become hG (oa_af h0 hA) hR (fun _ _ _ _ h => h)) rfl (fun _ h => nomatch h) (fun S116 hx120 hG117 hB118 hA119 => ?_)
    obtain ⟨d121, hd122⟩ : ∃ q, Z_X7_become R (sg S) o0 (0) (y3) ((Z_J13_lowestOneBit_067f4 (y3))) = q := ⟨_, rfl⟩
    have hq123 := (congrArg (fun q9 => Z_X7_become R q9 o0 (0) (y3) ((Z_J13_lowestOneBit_067f4 (y3)))) (show sg S = (sg S) from rfl)).trans hd122
    have hs124 := hx120.trans hq123
    have hF : Z_X7_and_p131 R (sg S) o0 y3 x5 = d121 := by
      subst hd122
      exact zl_X7_and_p131_1 q101
    exact tt_vreturn dX7_and_150 rfl (hP _ _ _ _ ⟨hG117, hA119, Or.inl ⟨_, rfl, rfl, Eq.trans hs124 hF.symm, rfl, rfl⟩⟩)
def Z_X7_and_p92 (R : Nat → Nat → Nat) (σ : SG) (o0 : Nat) (o1 : Nat) (o2 : Nat) (y3 : Int64) : SG :=
  if (Z_X7_isSingle R σ o1) = 0 then
    if (Z_X7_isSingle R σ o2) = 0 then
      Z_X7_and_p131 R σ o0 (y3) (0)
    else
      if (mJ σ 448 o2) = y3 then
        Z_X7_and_p131 R σ o0 (y3) (1)
      else
        Z_X7_and_p131 R σ o0 (y3) (0)
  else
    if (mJ σ 448 o1) = y3 then
      Z_X7_and_p131 R σ o0 (y3) (1)
    else
      if (Z_X7_isSingle R σ o2) = 0 then
        Z_X7_and_p131 R σ o0 (y3) (0)
      else
        if (mJ σ 448 o2) = y3 then
          Z_X7_and_p131 R σ o0 (y3) (1)
        else
          Z_X7_and_p131 R σ o0 (y3) (0)
theorem zl_X7_and_p92_0 {R : Nat → Nat → Nat} {σ : SG} {o0 : Nat} {o1 : Nat} {o2 : Nat} {y3 : Int64} (h0 : (Z_X7_isSingle R σ o1) = 0) (h1 : (Z_X7_isSingle R σ o2) = 0) : Z_X7_and_p92 R σ o0 o1 o2 y3 = Z_X7_and_p131 R σ o0 (y3) (0) := by unfold Z_X7_and_p92; exact Eq.trans (if_pos h0) (if_pos h1)
theorem zl_X7_and_p92_1 {R : Nat → Nat → Nat} {σ : SG} {o0 : Nat} {o1 : Nat} {o2 : Nat} {y3 : Int64} (h0 : (Z_X7_isSingle R σ o1) = 0) (h1 : ¬ (Z_X7_isSingle R σ o2) = 0) (h2 : (mJ σ 448 o2) = y3) : Z_X7_and_p92 R σ o0 o1 o2 y3 = Z_X7_and_p131 R σ o0 (y3) (1) := by unfold Z_X7_and_p92; exact Eq.trans (if_pos h0) (Eq.trans (if_neg h1) (if_pos h2))
theorem zl_X7_and_p92_2 {R : Nat → Nat → Nat} {σ : SG} {o0 : Nat} {o1 : Nat} {o2 : Nat} {y3 : Int64} (h0 : (Z_X7_isSingle R σ o1) = 0) (h1 : ¬ (Z_X7_isSingle R σ o2) = 0) (h2 : ¬ (mJ σ 448 o2) = y3) : Z_X7_and_p92 R σ o0 o1 o2 y3 = Z_X7_and_p131 R σ o0 (y3) (0) := by unfold Z_X7_and_p92; exact Eq.trans (if_pos h0) (Eq.trans (if_neg h1) (if_neg h2))
theorem zl_X7_and_p92_3 {R : Nat → Nat → Nat} {σ : SG} {o0 : Nat} {o1 : Nat} {o2 : Nat} {y3 : Int64} (h0 : ¬ (Z_X7_isSingle R σ o1) = 0) (h1 : (mJ σ 448 o1) = y3) : Z_X7_and_p92 R σ o0 o1 o2 y3 = Z_X7_and_p131 R σ o0 (y3) (1) := by unfold Z_X7_and_p92; exact Eq.trans (if_neg h0) (if_pos h1)
theorem zl_X7_and_p92_4 {R : Nat → Nat → Nat} {σ : SG} {o0 : Nat} {o1 : Nat} {o2 : Nat} {y3 : Int64} (h0 : ¬ (Z_X7_isSingle R σ o1) = 0) (h1 : ¬ (mJ σ 448 o1) = y3) (h2 : (Z_X7_isSingle R σ o2) = 0) : Z_X7_and_p92 R σ o0 o1 o2 y3 = Z_X7_and_p131 R σ o0 (y3) (0) := by unfold Z_X7_and_p92; exact Eq.trans (if_neg h0) (Eq.trans (if_neg h1) (if_pos h2))
theorem zl_X7_and_p92_5 {R : Nat → Nat → Nat} {σ : SG} {o0 : Nat} {o1 : Nat} {o2 : Nat} {y3 : Int64} (h0 : ¬ (Z_X7_isSingle R σ o1) = 0) (h1 : ¬ (mJ σ 448 o1) = y3) (h2 : ¬ (Z_X7_isSingle R σ o2) = 0) (h3 : (mJ σ 448 o2) = y3) : Z_X7_and_p92 R σ o0 o1 o2 y3 = Z_X7_and_p131 R σ o0 (y3) (1) := by unfold Z_X7_and_p92; exact Eq.trans (if_neg h0) (Eq.trans (if_neg h1) (Eq.trans (if_neg h2) (if_pos h3)))
theorem zl_X7_and_p92_6 {R : Nat → Nat → Nat} {σ : SG} {o0 : Nat} {o1 : Nat} {o2 : Nat} {y3 : Int64} (h0 : ¬ (Z_X7_isSingle R σ o1) = 0) (h1 : ¬ (mJ σ 448 o1) = y3) (h2 : ¬ (Z_X7_isSingle R σ o2) = 0) (h3 : ¬ (mJ σ 448 o2) = y3) : Z_X7_and_p92 R σ o0 o1 o2 y3 = Z_X7_and_p131 R σ o0 (y3) (0) := by unfold Z_X7_and_p92; exact Eq.trans (if_neg h0) (Eq.trans (if_neg h1) (Eq.trans (if_neg h2) (if_neg h3)))
set_option maxHeartbeats 40000000 in
theorem cz_X7_and_p92 {xi : SX} {S : Hp} {E : List Nat} {kc nc : Nat} {P : Po} {o0 : Nat} {o1 : Nat} {o2 : Nat} {y3 : Int64} {R : Nat → Nat → Nat} (hG : GI S E) (h0 : Oa S E 7 0 o0) (h1 : Oa S E 7 0 o1) (h2 : Oa S E 7 0 o2) (hR : RK S R) (hP : ∀ r T x y, PV E [9987] S kc nc rV (fun v T => sg T = Z_X7_and_p92 R (sg S) o0 o1 o2 y3) [] r T x y → P r T x y) : TT xi M_X7_and 92 [(0, .ref o0), (1, .ref o1), (2, .ref o2), (3, .long y3)] [] S kc nc P := by
  have hA : Af E [9987] S S := af_rf
  refine tt_aload_n (j := 1) dX7_and_92 rfl ?_
  refine gt_VIp (As := []) dX7_and_93 ca_X7_58 ⟨by decide, by decide⟩ h1 hA rfl (Nat.le_of_ble_eq_true rfl) (Nat.le_of_ble_eq_true rfl) (by decide) (cz_X7_isSingle hG (oa_af h1 hA) hR (fun _ _ _ _ h => h)) rfl (fun _ h => nomatch h) (fun _ _ q => q.1) (fun x101 h102 hx103 => ?_)
  obtain rfl : Z_X7_isSingle R (sg S) o1 = x101 := ((ei_w hx103.2).trans (congrArg (fun q9 => Z_X7_isSingle R q9 o1) (show sg S = (sg S) from rfl))).symm
  refine tt_if_eq (tgt := 108) dX7_and_96 rfl (fun q104 => ?_) (fun q104 => ?_)
  · skip
    have h105 : Rg 0 0 (Z_X7_isSingle R (sg S) o1) := rg_eq_l h102 (⟨by decide, by decide⟩ : Rg 0 0 0) q104
    refine tt_aload_n (j := 2) dX7_and_108 rfl ?_
    refine gt_VIp (As := []) dX7_and_109 ca_X7_58 ⟨by decide, by decide⟩ h2 hA rfl (Nat.le_of_ble_eq_true rfl) (Nat.le_of_ble_eq_true rfl) (by decide) (cz_X7_isSingle hG (oa_af h2 hA) hR (fun _ _ _ _ h => h)) rfl (fun _ h => nomatch h) (fun _ _ q => q.1) (fun x106 h107 hx108 => ?_)
    obtain rfl : Z_X7_isSingle R (sg S) o2 = x106 := ((ei_w hx108.2).trans (congrArg (fun q9 => Z_X7_isSingle R q9 o2) (show sg S = (sg S) from rfl))).symm
    refine tt_if_eq (tgt := 128) dX7_and_112 rfl (fun q109 => ?_) (fun q109 => ?_)
    · skip
      have h110 : Rg 0 0 (Z_X7_isSingle R (sg S) o2) := rg_eq_l h107 (⟨by decide, by decide⟩ : Rg 0 0 0) q109
      refine tt_iconst (v := 0) dX7_and_128 rfl ?_
      refine tt_istore (ks := [0, 1, 2, 3, 4]) (L' := [(5, .int 0), (0, .ref o0), (1, .ref o1), (2, .ref o2), (3, .long y3)]) dX7_and_129 (by decide) rfl ?_
      have hF : Z_X7_and_p92 R (sg S) o0 o1 o2 y3 = Z_X7_and_p131 R (sg S) o0 (y3) (0) := by
        exact zl_X7_and_p92_0 q104 q109
      exact tt_loc (ks := [1, 4, 0]) rfl (cz_X7_and_p131 hG (oa_af h0 hA) (rg_w (⟨by decide, by decide⟩ : Rg 0 0 0)) hR (fun r T x y h => hP r T x y (pv_tr hA h (by decide) (fun v T e => e.trans ((congrArg (fun q9 => Z_X7_and_p131 R q9 o0 (y3) (0)) (show sg S = (sg S) from rfl)).trans hF.symm)))))
    · skip
      have h111 : Rg 1 1 (Z_X7_isSingle R (sg S) o2) := rg_ne_lo h107 (⟨by decide, by decide⟩ : Rg 0 0 0) q109
      refine tt_aload_n (j := 2) dX7_and_115 rfl ?_
      refine gt_gJ (id := 448) (v := (mJ (sg S) 448 o2)) dX7_and_116 fl_7_23 rfl rfl h2 hA (sg_J (k := 448) (o := o2) (show sg S = (sg S) from rfl)) ?_
      refine tt_lload_n (j := 3) dX7_and_119 rfl ?_
      refine tt_lcmp dX7_and_120 ?_
      refine tt_if_ne (tgt := 128) dX7_and_121 rfl (fun q112 => ?_) (fun q112 => ?_)
      · skip
        refine tt_iconst (v := 0) dX7_and_128 rfl ?_
        refine tt_istore (ks := [0, 1, 2, 3, 4]) (L' := [(5, .int 0), (0, .ref o0), (1, .ref o1), (2, .ref o2), (3, .long y3)]) dX7_and_129 (by decide) rfl ?_
        have hF : Z_X7_and_p92 R (sg S) o0 o1 o2 y3 = Z_X7_and_p131 R (sg S) o0 (y3) (0) := by
          exact zl_X7_and_p92_2 q104 q109 (lc_ne_t q112)
        exact tt_loc (ks := [1, 4, 0]) rfl (cz_X7_and_p131 hG (oa_af h0 hA) (rg_w (⟨by decide, by decide⟩ : Rg 0 0 0)) hR (fun r T x y h => hP r T x y (pv_tr hA h (by decide) (fun v T e => e.trans ((congrArg (fun q9 => Z_X7_and_p131 R q9 o0 (y3) (0)) (show sg S = (sg S) from rfl)).trans hF.symm)))))
      · skip
        refine tt_iconst (v := 1) dX7_and_124 rfl ?_
        refine tt_goto (tgt := 129) dX7_and_125 rfl ?_
        refine tt_istore (ks := [0, 1, 2, 3, 4]) (L' := [(5, .int 1), (0, .ref o0), (1, .ref o1), (2, .ref o2), (3, .long y3)]) dX7_and_129 (by decide) rfl ?_
        have hF : Z_X7_and_p92 R (sg S) o0 o1 o2 y3 = Z_X7_and_p131 R (sg S) o0 (y3) (1) := by
          exact zl_X7_and_p92_1 q104 q109 (lc_ne_f q112)
        exact tt_loc (ks := [1, 4, 0]) rfl (cz_X7_and_p131 hG (oa_af h0 hA) (rg_w (⟨by decide, by decide⟩ : Rg 1 1 1)) hR (fun r T x y h => hP r T x y (pv_tr hA h (by decide) (fun v T e => e.trans ((congrArg (fun q9 => Z_X7_and_p131 R q9 o0 (y3) (1)) (show sg S = (sg S) from rfl)).trans hF.symm)))))
  · skip
    have h113 : Rg 1 1 (Z_X7_isSingle R (sg S) o1) := rg_ne_lo h102 (⟨by decide, by decide⟩ : Rg 0 0 0) q104
    refine tt_aload_n (j := 1) dX7_and_99 rfl ?_
    refine gt_gJ (id := 448) (v := (mJ (sg S) 448 o1)) dX7_and_100 fl_7_23 rfl rfl h1 hA (sg_J (k := 448) (o := o1) (show sg S = (sg S) from rfl)) ?_
    refine tt_lload_n (j := 3) dX7_and_103 rfl ?_
    refine tt_lcmp dX7_and_104 ?_
    refine tt_if_eq (tgt := 124) dX7_and_105 rfl (fun q114 => ?_) (fun q114 => ?_)
    · skip
      refine tt_iconst (v := 1) dX7_and_124 rfl ?_
      refine tt_goto (tgt := 129) dX7_and_125 rfl ?_
      refine tt_istore (ks := [0, 1, 2, 3, 4]) (L' := [(5, .int 1), (0, .ref o0), (1, .ref o1), (2, .ref o2), (3, .long y3)]) dX7_and_129 (by decide) rfl ?_
      have hF : Z_X7_and_p92 R (sg S) o0 o1 o2 y3 = Z_X7_and_p131 R (sg S) o0 (y3) (1) := by
        exact zl_X7_and_p92_3 q104 (lc_eq_t q114)
      exact tt_loc (ks := [1, 4, 0]) rfl (cz_X7_and_p131 hG (oa_af h0 hA) (rg_w (⟨by decide, by decide⟩ : Rg 1 1 1)) hR (fun r T x y h => hP r T x y (pv_tr hA h (by decide) (fun v T e => e.trans ((congrArg (fun q9 => Z_X7_and_p131 R q9 o0 (y3) (1)) (show sg S = (sg S) from rfl)).trans hF.symm)))))
    · skip
      refine tt_aload_n (j := 2) dX7_and_108 rfl ?_
      refine gt_VIp (As := []) dX7_and_109 ca_X7_58 ⟨by decide, by decide⟩ h2 hA rfl (Nat.le_of_ble_eq_true rfl) (Nat.le_of_ble_eq_true rfl) (by decide) (cz_X7_isSingle hG (oa_af h2 hA) hR (fun _ _ _ _ h => h)) rfl (fun _ h => nomatch h) (fun _ _ q => q.1) (fun x115 h116 hx117 => ?_)
      obtain rfl : Z_X7_isSingle R (sg S) o2 = x115 := ((ei_w hx117.2).trans (congrArg (fun q9 => Z_X7_isSingle R q9 o2) (show sg S = (sg S) from rfl))).symm
      refine tt_if_eq (tgt := 128) dX7_and_112 rfl (fun q118 => ?_) (fun q118 => ?_)
      · skip
        have h119 : Rg 0 0 (Z_X7_isSingle R (sg S) o2) := rg_eq_l h116 (⟨by decide, by decide⟩ : Rg 0 0 0) q118
        refine tt_iconst (v := 0) dX7_and_128 rfl ?_
        refine tt_istore (ks := [0, 1, 2, 3, 4]) (L' := [(5, .int 0), (0, .ref o0), (1, .ref o1), (2, .ref o2), (3, .long y3)]) dX7_and_129 (by decide) rfl ?_
        have hF : Z_X7_and_p92 R (sg S) o0 o1 o2 y3 = Z_X7_and_p131 R (sg S) o0 (y3) (0) := by
          exact zl_X7_and_p92_4 q104 (lc_eq_f q114) q118
        exact tt_loc (ks := [1, 4, 0]) rfl (cz_X7_and_p131 hG (oa_af h0 hA) (rg_w (⟨by decide, by decide⟩ : Rg 0 0 0)) hR (fun r T x y h => hP r T x y (pv_tr hA h (by decide) (fun v T e => e.trans ((congrArg (fun q9 => Z_X7_and_p131 R q9 o0 (y3) (0)) (show sg S = (sg S) from rfl)).trans hF.symm)))))
      · skip
        have h120 : Rg 1 1 (Z_X7_isSingle R (sg S) o2) := rg_ne_lo h116 (⟨by decide, by decide⟩ : Rg 0 0 0) q118
        refine tt_aload_n (j := 2) dX7_and_115 rfl ?_
        refine gt_gJ (id := 448) (v := (mJ (sg S) 448 o2)) dX7_and_116 fl_7_23 rfl rfl h2 hA (sg_J (k := 448) (o := o2) (show sg S = (sg S) from rfl)) ?_
        refine tt_lload_n (j := 3) dX7_and_119 rfl ?_
        refine tt_lcmp dX7_and_120 ?_
        refine tt_if_ne (tgt := 128) dX7_and_121 rfl (fun q121 => ?_) (fun q121 => ?_)
        · skip
          refine tt_iconst (v := 0) dX7_and_128 rfl ?_
          refine tt_istore (ks := [0, 1, 2, 3, 4]) (L' := [(5, .int 0), (0, .ref o0), (1, .ref o1), (2, .ref o2), (3, .long y3)]) dX7_and_129 (by decide) rfl ?_
          have hF : Z_X7_and_p92 R (sg S) o0 o1 o2 y3 = Z_X7_and_p131 R (sg S) o0 (y3) (0) := by
            exact zl_X7_and_p92_6 q104 (lc_eq_f q114) q118 (lc_ne_t q121)
          exact tt_loc (ks := [1, 4, 0]) rfl (cz_X7_and_p131 hG (oa_af h0 hA) (rg_w (⟨by decide, by decide⟩ : Rg 0 0 0)) hR (fun r T x y h => hP r T x y (pv_tr hA h (by decide) (fun v T e => e.trans ((congrArg (fun q9 => Z_X7_and_p131 R q9 o0 (y3) (0)) (show sg S = (sg S) from rfl)).trans hF.symm)))))
        · skip
          refine tt_iconst (v := 1) dX7_and_124 rfl ?_
          refine tt_goto (tgt := 129) dX7_and_125 rfl ?_
          refine tt_istore (ks := [0, 1, 2, 3, 4]) (L' := [(5, .int 1), (0, .ref o0), (1, .ref o1), (2, .ref o2), (3, .long y3)]) dX7_and_129 (by decide) rfl ?_
          have hF : Z_X7_and_p92 R (sg S) o0 o1 o2 y3 = Z_X7_and_p131 R (sg S) o0 (y3) (1) := by
            exact zl_X7_and_p92_5 q104 (lc_eq_f q114) q118 (lc_ne_f q121)
          exact tt_loc (ks := [1, 4, 0]) rfl (cz_X7_and_p131 hG (oa_af h0 hA) (rg_w (⟨by decide, by decide⟩ : Rg 1 1 1)) hR (fun r T x y h => hP r T x y (pv_tr hA h (by decide) (fun v T e => e.trans ((congrArg (fun q9 => Z_X7_and_p131 R q9 o0 (y3) (1)) (show sg S = (sg S) from rfl)).trans hF.symm)))))
def Z_X7_and_p76 (R : Nat → Nat → Nat) (σ : SG) (o0 : Nat) (o1 : Nat) (o2 : Nat) (y3 : Int64) : SG :=
  if (Z_X7_isNatural R σ o2) = 0 then
    Z_X7_and_p92 R σ o0 o1 o2 (y3)
  else
    Z_X7_and_p92 R σ o0 o1 o2 ((Z_J9_min_f86c9 (y3) ((mJ σ 449 o2))))
theorem zl_X7_and_p76_0 {R : Nat → Nat → Nat} {σ : SG} {o0 : Nat} {o1 : Nat} {o2 : Nat} {y3 : Int64} (h0 : (Z_X7_isNatural R σ o2) = 0) : Z_X7_and_p76 R σ o0 o1 o2 y3 = Z_X7_and_p92 R σ o0 o1 o2 (y3) := by unfold Z_X7_and_p76; exact if_pos h0
theorem zl_X7_and_p76_1 {R : Nat → Nat → Nat} {σ : SG} {o0 : Nat} {o1 : Nat} {o2 : Nat} {y3 : Int64} (h0 : ¬ (Z_X7_isNatural R σ o2) = 0) : Z_X7_and_p76 R σ o0 o1 o2 y3 = Z_X7_and_p92 R σ o0 o1 o2 ((Z_J9_min_f86c9 (y3) ((mJ σ 449 o2)))) := by unfold Z_X7_and_p76; exact if_neg h0
set_option maxHeartbeats 40000000 in
theorem cz_X7_and_p76 {xi : SX} {S : Hp} {E : List Nat} {kc nc : Nat} {P : Po} {o0 : Nat} {o1 : Nat} {o2 : Nat} {y3 : Int64} {R : Nat → Nat → Nat} (hG : GI S E) (h0 : Oa S E 7 0 o0) (h1 : Oa S E 7 0 o1) (h2 : Oa S E 7 0 o2) (hR : RK S R) (hP : ∀ r T x y, PV E [9987] S kc nc rV (fun v T => sg T = Z_X7_and_p76 R (sg S) o0 o1 o2 y3) [] r T x y → P r T x y) : TT xi M_X7_and 76 [(0, .ref o0), (1, .ref o1), (2, .ref o2), (3, .long y3)] [] S kc nc P := by
  have hA : Af E [9987] S S := af_rf
  refine tt_aload_n (j := 2) dX7_and_76 rfl ?_
  refine gt_VIp (As := []) dX7_and_77 ca_X7_86 ⟨by decide, by decide⟩ h2 hA rfl (Nat.le_of_ble_eq_true rfl) (Nat.le_of_ble_eq_true rfl) (by decide) (cz_X7_isNatural hG (oa_af h2 hA) hR (fun _ _ _ _ h => h)) rfl (fun _ h => nomatch h) (fun _ _ q => q.1) (fun x101 h102 hx103 => ?_)
  obtain rfl : Z_X7_isNatural R (sg S) o2 = x101 := ((ei_w hx103.2).trans (congrArg (fun q9 => Z_X7_isNatural R q9 o2) (show sg S = (sg S) from rfl))).symm
  refine tt_if_eq (tgt := 92) dX7_and_80 rfl (fun q104 => ?_) (fun q104 => ?_)
  · skip
    have h105 : Rg 0 0 (Z_X7_isNatural R (sg S) o2) := rg_eq_l h102 (⟨by decide, by decide⟩ : Rg 0 0 0) q104
    have hF : Z_X7_and_p76 R (sg S) o0 o1 o2 y3 = Z_X7_and_p92 R (sg S) o0 o1 o2 (y3) := by
      exact zl_X7_and_p76_0 q104
    exact tt_loc (ks := [0, 1, 2, 3]) rfl (cz_X7_and_p92 hG (oa_af h0 hA) (oa_af h1 hA) (oa_af h2 hA) hR (fun r T x y h => hP r T x y (pv_tr hA h (by decide) (fun v T e => e.trans ((congrArg (fun q9 => Z_X7_and_p92 R q9 o0 o1 o2 (y3)) (show sg S = (sg S) from rfl)).trans hF.symm)))))
  · skip
    have h106 : Rg 1 1 (Z_X7_isNatural R (sg S) o2) := rg_ne_lo h102 (⟨by decide, by decide⟩ : Rg 0 0 0) q104
    refine tt_lload_n (j := 3) dX7_and_83 rfl ?_
    refine tt_aload_n (j := 2) dX7_and_84 rfl ?_
    refine gt_gJ (id := 449) (v := (mJ (sg S) 449 o2)) dX7_and_85 fl_7_26 rfl rfl h2 hA (sg_J (k := 449) (o := o2) (show sg S = (sg S) from rfl)) ?_
    refine gt_SJp (As := [.long y3, .long (mJ (sg S) 449 o2)]) dX7_and_88 ca_X7_40 ⟨by decide, by decide⟩ hA (Nat.le_of_ble_eq_true rfl) (Nat.le_of_ble_eq_true rfl) (by decide) (cz_J9_min_f86c9 hG  (fun _ _ _ _ h => h)) rfl (fun _ h => nomatch h) (fun _ _ q => q.1) (fun y107 hx109 => ?_)
    obtain rfl : Z_J9_min_f86c9 (y3) ((mJ (sg S) 449 o2)) = y107 := ((el_w hx109.2).trans rfl).symm
    refine tt_lstore_n (ks := [0, 1, 2, 3]) (L' := [(3, .long (Z_J9_min_f86c9 (y3) ((mJ (sg S) 449 o2)))), (0, .ref o0), (1, .ref o1), (2, .ref o2)]) dX7_and_91 (by decide) rfl ?_
    have hF : Z_X7_and_p76 R (sg S) o0 o1 o2 y3 = Z_X7_and_p92 R (sg S) o0 o1 o2 ((Z_J9_min_f86c9 (y3) ((mJ (sg S) 449 o2)))) := by
      exact zl_X7_and_p76_1 q104
    exact tt_loc (ks := [1, 2, 3, 0]) rfl (cz_X7_and_p92 hG (oa_af h0 hA) (oa_af h1 hA) (oa_af h2 hA) hR (fun r T x y h => hP r T x y (pv_tr hA h (by decide) (fun v T e => e.trans ((congrArg (fun q9 => Z_X7_and_p92 R q9 o0 o1 o2 ((Z_J9_min_f86c9 (y3) ((mJ (sg S) 449 o2))))) (show sg S = (sg S) from rfl)).trans hF.symm)))))
def Z_X7_and_p57 (R : Nat → Nat → Nat) (σ : SG) (o0 : Nat) (o1 : Nat) (o2 : Nat) : SG :=
  if (Z_X7_isNatural R σ o1) = 0 then
    Z_X7_and_p76 R σ o0 o1 o2 ((mJ σ 449 o2))
  else
    Z_X7_and_p76 R σ o0 o1 o2 ((mJ σ 449 o1))
theorem zl_X7_and_p57_0 {R : Nat → Nat → Nat} {σ : SG} {o0 : Nat} {o1 : Nat} {o2 : Nat} (h0 : (Z_X7_isNatural R σ o1) = 0) : Z_X7_and_p57 R σ o0 o1 o2 = Z_X7_and_p76 R σ o0 o1 o2 ((mJ σ 449 o2)) := by unfold Z_X7_and_p57; exact if_pos h0
theorem zl_X7_and_p57_1 {R : Nat → Nat → Nat} {σ : SG} {o0 : Nat} {o1 : Nat} {o2 : Nat} (h0 : ¬ (Z_X7_isNatural R σ o1) = 0) : Z_X7_and_p57 R σ o0 o1 o2 = Z_X7_and_p76 R σ o0 o1 o2 ((mJ σ 449 o1)) := by unfold Z_X7_and_p57; exact if_neg h0
set_option maxHeartbeats 40000000 in
theorem cz_X7_and_p57 {xi : SX} {S : Hp} {E : List Nat} {kc nc : Nat} {P : Po} {o0 : Nat} {o1 : Nat} {o2 : Nat} {R : Nat → Nat → Nat} (hG : GI S E) (h0 : Oa S E 7 0 o0) (h1 : Oa S E 7 0 o1) (h2 : Oa S E 7 0 o2) (hR : RK S R) (hP : ∀ r T x y, PV E [9987] S kc nc rV (fun v T => sg T = Z_X7_and_p57 R (sg S) o0 o1 o2) [] r T x y → P r T x y) : TT xi M_X7_and 57 [(0, .ref o0), (1, .ref o1), (2, .ref o2)] [] S kc nc P := by
  have hA : Af E [9987] S S := af_rf
  refine tt_aload_n (j := 1) dX7_and_57 rfl ?_
  refine gt_VIp (As := []) dX7_and_58 ca_X7_86 ⟨by decide, by decide⟩ h1 hA rfl (Nat.le_of_ble_eq_true rfl) (Nat.le_of_ble_eq_true rfl) (by decide) (cz_X7_isNatural hG (oa_af h1 hA) hR (fun _ _ _ _ h => h)) rfl (fun _ h => nomatch h) (fun _ _ q => q.1) (fun x101 h102 hx103 => ?_)
  obtain rfl : Z_X7_isNatural R (sg S) o1 = x101 := ((ei_w hx103.2).trans (congrArg (fun q9 => Z_X7_isNatural R q9 o1) (show sg S = (sg S) from rfl))).symm
  refine tt_if_eq (tgt := 71) dX7_and_61 rfl (fun q104 => ?_) (fun q104 => ?_)
  · skip
    have h105 : Rg 0 0 (Z_X7_isNatural R (sg S) o1) := rg_eq_l h102 (⟨by decide, by decide⟩ : Rg 0 0 0) q104
    refine tt_aload_n (j := 2) dX7_and_71 rfl ?_
    refine gt_gJ (id := 449) (v := (mJ (sg S) 449 o2)) dX7_and_72 fl_7_26 rfl rfl h2 hA (sg_J (k := 449) (o := o2) (show sg S = (sg S) from rfl)) ?_
    refine tt_lstore_n (ks := [0, 1, 2, 3]) (L' := [(3, .long (mJ (sg S) 449 o2)), (0, .ref o0), (1, .ref o1), (2, .ref o2)]) dX7_and_75 (by decide) rfl ?_
    have hF : Z_X7_and_p57 R (sg S) o0 o1 o2 = Z_X7_and_p76 R (sg S) o0 o1 o2 ((mJ (sg S) 449 o2)) := by
      exact zl_X7_and_p57_0 q104
    exact tt_loc (ks := [1, 2, 3, 0]) rfl (cz_X7_and_p76 hG (oa_af h0 hA) (oa_af h1 hA) (oa_af h2 hA) hR (fun r T x y h => hP r T x y (pv_tr hA h (by decide) (fun v T e => e.trans ((congrArg (fun q9 => Z_X7_and_p76 R q9 o0 o1 o2 ((mJ (sg S) 449 o2))) (show sg S = (sg S) from rfl)).trans hF.symm)))))
  · skip
    have h106 : Rg 1 1 (Z_X7_isNatural R (sg S) o1) := rg_ne_lo h102 (⟨by decide, by decide⟩ : Rg 0 0 0) q104
    refine tt_aload_n (j := 1) dX7_and_64 rfl ?_
    refine gt_gJ (id := 449) (v := (mJ (sg S) 449 o1)) dX7_and_65 fl_7_26 rfl rfl h1 hA (sg_J (k := 449) (o := o1) (show sg S = (sg S) from rfl)) ?_
    refine tt_goto (tgt := 75) dX7_and_68 rfl ?_
    refine tt_lstore_n (ks := [0, 1, 2, 3]) (L' := [(3, .long (mJ (sg S) 449 o1)), (0, .ref o0), (1, .ref o1), (2, .ref o2)]) dX7_and_75 (by decide) rfl ?_
    have hF : Z_X7_and_p57 R (sg S) o0 o1 o2 = Z_X7_and_p76 R (sg S) o0 o1 o2 ((mJ (sg S) 449 o1)) := by
      exact zl_X7_and_p57_1 q104
    exact tt_loc (ks := [1, 2, 3, 0]) rfl (cz_X7_and_p76 hG (oa_af h0 hA) (oa_af h1 hA) (oa_af h2 hA) hR (fun r T x y h => hP r T x y (pv_tr hA h (by decide) (fun v T e => e.trans ((congrArg (fun q9 => Z_X7_and_p76 R q9 o0 o1 o2 ((mJ (sg S) 449 o1))) (show sg S = (sg S) from rfl)).trans hF.symm)))))
def Z_X7_and (R : Nat → Nat → Nat) (σ : SG) (o0 : Nat) (o1 : Nat) (o2 : Nat) : SG :=
  if (Z_X7_isSingle R σ o1) = 0 then
    if (Z_X7_isNatural R σ o1) = 0 then
      if (Z_X7_isNatural R σ o2) = 0 then
        let d123 := Z_X7_becomeAny R σ o0
        d123
      else
        Z_X7_and_p57 R σ o0 o1 o2
    else
      Z_X7_and_p57 R σ o0 o1 o2
  else
    if (Z_X7_isSingle R σ o2) = 0 then
      if (Z_X7_isNatural R σ o1) = 0 then
        if (Z_X7_isNatural R σ o2) = 0 then
          let d150 := Z_X7_becomeAny R σ o0
          d150
        else
          Z_X7_and_p57 R σ o0 o1 o2
      else
        Z_X7_and_p57 R σ o0 o1 o2
    else
      let d160 := Z_X7_become R σ o0 (((mJ σ 448 o1) &&& (mJ σ 448 o2))) (((mJ σ 448 o1) &&& (mJ σ 448 o2))) (0)
      d160
theorem zl_X7_and_0 {R : Nat → Nat → Nat} {σ : SG} {o0 : Nat} {o1 : Nat} {o2 : Nat} (h0 : (Z_X7_isSingle R σ o1) = 0) (h1 : (Z_X7_isNatural R σ o1) = 0) (h2 : (Z_X7_isNatural R σ o2) = 0) : Z_X7_and R σ o0 o1 o2 = (Z_X7_becomeAny R σ o0) := by unfold Z_X7_and; exact Eq.trans (if_pos h0) (Eq.trans (if_pos h1) (if_pos h2))
theorem zl_X7_and_1 {R : Nat → Nat → Nat} {σ : SG} {o0 : Nat} {o1 : Nat} {o2 : Nat} (h0 : (Z_X7_isSingle R σ o1) = 0) (h1 : (Z_X7_isNatural R σ o1) = 0) (h2 : ¬ (Z_X7_isNatural R σ o2) = 0) : Z_X7_and R σ o0 o1 o2 = Z_X7_and_p57 R σ o0 o1 o2 := by unfold Z_X7_and; exact Eq.trans (if_pos h0) (Eq.trans (if_pos h1) (if_neg h2))
theorem zl_X7_and_2 {R : Nat → Nat → Nat} {σ : SG} {o0 : Nat} {o1 : Nat} {o2 : Nat} (h0 : (Z_X7_isSingle R σ o1) = 0) (h1 : ¬ (Z_X7_isNatural R σ o1) = 0) : Z_X7_and R σ o0 o1 o2 = Z_X7_and_p57 R σ o0 o1 o2 := by unfold Z_X7_and; exact Eq.trans (if_pos h0) (if_neg h1)
theorem zl_X7_and_3 {R : Nat → Nat → Nat} {σ : SG} {o0 : Nat} {o1 : Nat} {o2 : Nat} (h0 : ¬ (Z_X7_isSingle R σ o1) = 0) (h1 : (Z_X7_isSingle R σ o2) = 0) (h2 : (Z_X7_isNatural R σ o1) = 0) (h3 : (Z_X7_isNatural R σ o2) = 0) : Z_X7_and R σ o0 o1 o2 = (Z_X7_becomeAny R σ o0) := by unfold Z_X7_and; exact Eq.trans (if_neg h0) (Eq.trans (if_pos h1) (Eq.trans (if_pos h2) (if_pos h3)))
theorem zl_X7_and_4 {R : Nat → Nat → Nat} {σ : SG} {o0 : Nat} {o1 : Nat} {o2 : Nat} (h0 : ¬ (Z_X7_isSingle R σ o1) = 0) (h1 : (Z_X7_isSingle R σ o2) = 0) (h2 : (Z_X7_isNatural R σ o1) = 0) (h3 : ¬ (Z_X7_isNatural R σ o2) = 0) : Z_X7_and R σ o0 o1 o2 = Z_X7_and_p57 R σ o0 o1 o2 := by unfold Z_X7_and; exact Eq.trans (if_neg h0) (Eq.trans (if_pos h1) (Eq.trans (if_pos h2) (if_neg h3)))
theorem zl_X7_and_5 {R : Nat → Nat → Nat} {σ : SG} {o0 : Nat} {o1 : Nat} {o2 : Nat} (h0 : ¬ (Z_X7_isSingle R σ o1) = 0) (h1 : (Z_X7_isSingle R σ o2) = 0) (h2 : ¬ (Z_X7_isNatural R σ o1) = 0) : Z_X7_and R σ o0 o1 o2 = Z_X7_and_p57 R σ o0 o1 o2 := by unfold Z_X7_and; exact Eq.trans (if_neg h0) (Eq.trans (if_pos h1) (if_neg h2))
theorem zl_X7_and_6 {R : Nat → Nat → Nat} {σ : SG} {o0 : Nat} {o1 : Nat} {o2 : Nat} (h0 : ¬ (Z_X7_isSingle R σ o1) = 0) (h1 : ¬ (Z_X7_isSingle R σ o2) = 0) : Z_X7_and R σ o0 o1 o2 = (Z_X7_become R σ o0 (((mJ σ 448 o1) &&& (mJ σ 448 o2))) (((mJ σ 448 o1) &&& (mJ σ 448 o2))) (0)) := by unfold Z_X7_and; exact Eq.trans (if_neg h0) (if_neg h1)
set_option maxHeartbeats 40000000 in
theorem cz_X7_and {xi : SX} {S : Hp} {E : List Nat} {kc nc : Nat} {P : Po} {o0 : Nat} {o1 : Nat} {o2 : Nat} {R : Nat → Nat → Nat} (hG : GI S E) (h0 : Oa S E 7 0 o0) (h1 : Oa S E 7 0 o1) (h2 : Oa S E 7 0 o2) (hR : RK S R) (hP : ∀ r T x y, PV E [9987] S kc nc rV (fun v T => sg T = Z_X7_and R (sg S) o0 o1 o2) [] r T x y → P r T x y) : TT xi M_X7_and 0 [(0, .ref o0), (1, .ref o1), (2, .ref o2)] [] S kc nc P := by
  have hA : Af E [9987] S S := af_rf
  refine tt_aload_n (j := 1) dX7_and_0 rfl ?_
  refine gt_VIp (As := []) dX7_and_1 ca_X7_58 ⟨by decide, by decide⟩ h1 hA rfl (Nat.le_of_ble_eq_true rfl) (Nat.le_of_ble_eq_true rfl) (by decide) (cz_X7_isSingle hG (oa_af h1 hA) hR (fun _ _ _ _ h => h)) rfl (fun _ h => nomatch h) (fun _ _ q => q.1) (fun x101 h102 hx103 => ?_)
  obtain rfl : Z_X7_isSingle R (sg S) o1 = x101 := ((ei_w hx103.2).trans (congrArg (fun q9 => Z_X7_isSingle R q9 o1) (show sg S = (sg S) from rfl))).symm
  refine tt_if_eq (tgt := 38) dX7_and_4 rfl (fun q104 => ?_) (fun q104 => ?_)
  · skip
    have h105 : Rg 0 0 (Z_X7_isSingle R (sg S) o1) := rg_eq_l h102 (⟨by decide, by decide⟩ : Rg 0 0 0) q104
    refine tt_aload_n (j := 1) dX7_and_38 rfl ?_
    refine gt_VIp (As := []) dX7_and_39 ca_X7_86 ⟨by decide, by decide⟩ h1 hA rfl (Nat.le_of_ble_eq_true rfl) (Nat.le_of_ble_eq_true rfl) (by decide) (cz_X7_isNatural hG (oa_af h1 hA) hR (fun _ _ _ _ h => h)) rfl (fun _ h => nomatch h) (fun _ _ q => q.1) (fun x106 h107 hx108 => ?_)
    obtain rfl : Z_X7_isNatural R (sg S) o1 = x106 := ((ei_w hx108.2).trans (congrArg (fun q9 => Z_X7_isNatural R q9 o1) (show sg S = (sg S) from rfl))).symm
    refine tt_if_ne (tgt := 57) dX7_and_42 rfl (fun q109 => ?_) (fun q109 => ?_)
    · skip
      have h110 : Rg 1 1 (Z_X7_isNatural R (sg S) o1) := rg_ne_lo h107 (⟨by decide, by decide⟩ : Rg 0 0 0) q109
      have hF : Z_X7_and R (sg S) o0 o1 o2 = Z_X7_and_p57 R (sg S) o0 o1 o2 := by
        exact zl_X7_and_2 q104 q109
      exact tt_loc (ks := [0, 1, 2]) rfl (cz_X7_and_p57 hG (oa_af h0 hA) (oa_af h1 hA) (oa_af h2 hA) hR (fun r T x y h => hP r T x y (pv_tr hA h (by decide) (fun v T e => e.trans ((congrArg (fun q9 => Z_X7_and_p57 R q9 o0 o1 o2) (show sg S = (sg S) from rfl)).trans hF.symm)))))
    · skip
      have h111 : Rg 0 0 (Z_X7_isNatural R (sg S) o1) := rg_eq_l h107 (⟨by decide, by decide⟩ : Rg 0 0 0) q109
      refine tt_aload_n (j := 2) dX7_and_45 rfl ?_
      refine gt_VIp (As := []) dX7_and_46 ca_X7_86 ⟨by decide, by decide⟩ h2 hA rfl (Nat.le_of_ble_eq_true rfl) (Nat.le_of_ble_eq_true rfl) (by decide) (cz_X7_isNatural hG (oa_af h2 hA) hR (fun _ _ _ _ h => h)) rfl (fun _ h => nomatch h) (fun _ _ q => q.1) (fun x112 h113 hx114 => ?_)
      obtain rfl : Z_X7_isNatural R (sg S) o2 = x112 := ((ei_w hx114.2).trans (congrArg (fun q9 => Z_X7_isNatural R q9 o2) (show sg S = (sg S) from rfl))).symm
      refine tt_if_ne (tgt := 57) dX7_and_49 rfl (fun q115 => ?_) (fun q115 => ?_)
      · skip
        have h116 : Rg 1 1 (Z_X7_isNatural R (sg S) o2) := rg_ne_lo h113 (⟨by decide, by decide⟩ : Rg 0 0 0) q115
        have hF : Z_X7_and R (sg S) o0 o1 o2 = Z_X7_and_p57 R (sg S) o0 o1 o2 := by
          exact zl_X7_and_1 q104 q109 q115
        exact tt_loc (ks := [0, 1, 2]) rfl (cz_X7_and_p57 hG (oa_af h0 hA) (oa_af h1 hA) (oa_af h2 hA) hR (fun r T x y h => hP r T x y (pv_tr hA h (by decide) (fun v T e => e.trans ((congrArg (fun q9 => Z_X7_and_p57 R q9 o0 o1 o2) (show sg S = (sg S) from rfl)).trans hF.symm)))))
      · skip
        have h117 : Rg 0 0 (Z_X7_isNatural R (sg S) o2) := rg_eq_l h113 (⟨by decide, by decide⟩ : Rg 0 0 0) q115
        refine tt_aload_n (j := 0) dX7_and_52 rfl ?_
        refine gt_Vv (As := []) dX7_and_53 ca_X7_33 ⟨by decide, by decide⟩ h0 hA rfl (Nat.le_of_ble_eq_true rfl) (Nat.le_of_ble_eq_true rfl) (by decide) (cz_X7_becomeAny hG (oa_af h0 hA) hR (fun _ _ _ _ h => h)) rfl (fun _ h => nomatch h) (fun S118 hx122 hG119 hB120 hA121 => ?_)
        obtain ⟨d123, hd124⟩ : ∃ q, Z_X7_becomeAny R (sg S) o0 = q := ⟨_, rfl⟩
        have hq125 := (congrArg (fun q9 => Z_X7_becomeAny R q9 o0) (show sg S = (sg S) from rfl)).trans hd124
        have hs126 := hx122.trans hq125
        have hF : Z_X7_and R (sg S) o0 o1 o2 = d123 := by
          subst hd124
          exact zl_X7_and_0 q104 q109 q115
        exact tt_vreturn dX7_and_56 rfl (hP _ _ _ _ ⟨hG119, hA121, Or.inl ⟨_, rfl, rfl, Eq.trans hs126 hF.symm, rfl, rfl⟩⟩)
  · skip
    have h127 : Rg 1 1 (Z_X7_isSingle R (sg S) o1) := rg_ne_lo h102 (⟨by decide, by decide⟩ : Rg 0 0 0) q104
    refine tt_aload_n (j := 2) dX7_and_7 rfl ?_
    refine gt_VIp (As := []) dX7_and_8 ca_X7_58 ⟨by decide, by decide⟩ h2 hA rfl (Nat.le_of_ble_eq_true rfl) (Nat.le_of_ble_eq_true rfl) (by decide) (cz_X7_isSingle hG (oa_af h2 hA) hR (fun _ _ _ _ h => h)) rfl (fun _ h => nomatch h) (fun _ _ q => q.1) (fun x128 h129 hx130 => ?_)
    obtain rfl : Z_X7_isSingle R (sg S) o2 = x128 := ((ei_w hx130.2).trans (congrArg (fun q9 => Z_X7_isSingle R q9 o2) (show sg S = (sg S) from rfl))).symm
    refine tt_if_eq (tgt := 38) dX7_and_11 rfl (fun q131 => ?_) (fun q131 => ?_)
    · skip
      have h132 : Rg 0 0 (Z_X7_isSingle R (sg S) o2) := rg_eq_l h129 (⟨by decide, by decide⟩ : Rg 0 0 0) q131
      refine tt_aload_n (j := 1) dX7_and_38 rfl ?_
      refine gt_VIp (As := []) dX7_and_39 ca_X7_86 ⟨by decide, by decide⟩ h1 hA rfl (Nat.le_of_ble_eq_true rfl) (Nat.le_of_ble_eq_true rfl) (by decide) (cz_X7_isNatural hG (oa_af h1 hA) hR (fun _ _ _ _ h => h)) rfl (fun _ h => nomatch h) (fun _ _ q => q.1) (fun x133 h134 hx135 => ?_)
      obtain rfl : Z_X7_isNatural R (sg S) o1 = x133 := ((ei_w hx135.2).trans (congrArg (fun q9 => Z_X7_isNatural R q9 o1) (show sg S = (sg S) from rfl))).symm
      refine tt_if_ne (tgt := 57) dX7_and_42 rfl (fun q136 => ?_) (fun q136 => ?_)
      · skip
        have h137 : Rg 1 1 (Z_X7_isNatural R (sg S) o1) := rg_ne_lo h134 (⟨by decide, by decide⟩ : Rg 0 0 0) q136
        have hF : Z_X7_and R (sg S) o0 o1 o2 = Z_X7_and_p57 R (sg S) o0 o1 o2 := by
          exact zl_X7_and_5 q104 q131 q136
        exact tt_loc (ks := [0, 1, 2]) rfl (cz_X7_and_p57 hG (oa_af h0 hA) (oa_af h1 hA) (oa_af h2 hA) hR (fun r T x y h => hP r T x y (pv_tr hA h (by decide) (fun v T e => e.trans ((congrArg (fun q9 => Z_X7_and_p57 R q9 o0 o1 o2) (show sg S = (sg S) from rfl)).trans hF.symm)))))
      · skip
        have h138 : Rg 0 0 (Z_X7_isNatural R (sg S) o1) := rg_eq_l h134 (⟨by decide, by decide⟩ : Rg 0 0 0) q136
        refine tt_aload_n (j := 2) dX7_and_45 rfl ?_
        refine gt_VIp (As := []) dX7_and_46 ca_X7_86 ⟨by decide, by decide⟩ h2 hA rfl (Nat.le_of_ble_eq_true rfl) (Nat.le_of_ble_eq_true rfl) (by decide) (cz_X7_isNatural hG (oa_af h2 hA) hR (fun _ _ _ _ h => h)) rfl (fun _ h => nomatch h) (fun _ _ q => q.1) (fun x139 h140 hx141 => ?_)
        obtain rfl : Z_X7_isNatural R (sg S) o2 = x139 := ((ei_w hx141.2).trans (congrArg (fun q9 => Z_X7_isNatural R q9 o2) (show sg S = (sg S) from rfl))).symm
        refine tt_if_ne (tgt := 57) dX7_and_49 rfl (fun q142 => ?_) (fun q142 => ?_)
        · skip
          have h143 : Rg 1 1 (Z_X7_isNatural R (sg S) o2) := rg_ne_lo h140 (⟨by decide, by decide⟩ : Rg 0 0 0) q142
          have hF : Z_X7_and R (sg S) o0 o1 o2 = Z_X7_and_p57 R (sg S) o0 o1 o2 := by
            exact zl_X7_and_4 q104 q131 q136 q142
          exact tt_loc (ks := [0, 1, 2]) rfl (cz_X7_and_p57 hG (oa_af h0 hA) (oa_af h1 hA) (oa_af h2 hA) hR (fun r T x y h => hP r T x y (pv_tr hA h (by decide) (fun v T e => e.trans ((congrArg (fun q9 => Z_X7_and_p57 R q9 o0 o1 o2) (show sg S = (sg S) from rfl)).trans hF.symm)))))
        · skip
          have h144 : Rg 0 0 (Z_X7_isNatural R (sg S) o2) := rg_eq_l h140 (⟨by decide, by decide⟩ : Rg 0 0 0) q142
          refine tt_aload_n (j := 0) dX7_and_52 rfl ?_
          refine gt_Vv (As := []) dX7_and_53 ca_X7_33 ⟨by decide, by decide⟩ h0 hA rfl (Nat.le_of_ble_eq_true rfl) (Nat.le_of_ble_eq_true rfl) (by decide) (cz_X7_becomeAny hG (oa_af h0 hA) hR (fun _ _ _ _ h => h)) rfl (fun _ h => nomatch h) (fun S145 hx149 hG146 hB147 hA148 => ?_)
          obtain ⟨d150, hd151⟩ : ∃ q, Z_X7_becomeAny R (sg S) o0 = q := ⟨_, rfl⟩
          have hq152 := (congrArg (fun q9 => Z_X7_becomeAny R q9 o0) (show sg S = (sg S) from rfl)).trans hd151
          have hs153 := hx149.trans hq152
          have hF : Z_X7_and R (sg S) o0 o1 o2 = d150 := by
            subst hd151
            exact zl_X7_and_3 q104 q131 q136 q142
          exact tt_vreturn dX7_and_56 rfl (hP _ _ _ _ ⟨hG146, hA148, Or.inl ⟨_, rfl, rfl, Eq.trans hs153 hF.symm, rfl, rfl⟩⟩)
    · skip
      have h154 : Rg 1 1 (Z_X7_isSingle R (sg S) o2) := rg_ne_lo h129 (⟨by decide, by decide⟩ : Rg 0 0 0) q131
      refine tt_aload_n (j := 0) dX7_and_14 rfl ?_
      refine tt_aload_n (j := 1) dX7_and_15 rfl ?_
      refine gt_gJ (id := 448) (v := (mJ (sg S) 448 o1)) dX7_and_16 fl_7_23 rfl rfl h1 hA (sg_J (k := 448) (o := o1) (show sg S = (sg S) from rfl)) ?_
      refine tt_aload_n (j := 2) dX7_and_19 rfl ?_
      refine gt_gJ (id := 448) (v := (mJ (sg S) 448 o2)) dX7_and_20 fl_7_23 rfl rfl h2 hA (sg_J (k := 448) (o := o2) (show sg S = (sg S) from rfl)) ?_
      refine tt_land dX7_and_23 ?_
      refine tt_aload_n (j := 1) dX7_and_24 rfl ?_
      refine gt_gJ (id := 448) (v := (mJ (sg S) 448 o1)) dX7_and_25 fl_7_23 rfl rfl h1 hA (sg_J (k := 448) (o := o1) (show sg S = (sg S) from rfl)) ?_
      refine tt_aload_n (j := 2) dX7_and_28 rfl ?_
      refine gt_gJ (id := 448) (v := (mJ (sg S) 448 o2)) dX7_and_29 fl_7_23 rfl rfl h2 hA (sg_J (k := 448) (o := o2) (show sg S = (sg S) from rfl)) ?_
      refine tt_land dX7_and_32 ?_
      refine tt_lconst (v := 0) dX7_and_33 rfl ?_
      refine gt_Vv (As := [.long ((mJ (sg S) 448 o1) &&& (mJ (sg S) 448 o2)), .long ((mJ (sg S) 448 o1) &&& (mJ (sg S) 448 o2)), .long 0]) dX7_and_34 ca_X7_48 ⟨by decide, by decide⟩ h0 hA rfl (Nat.le_of_ble_eq_true rfl) (Nat.le_of_ble_eq_true rfl) (by decide) (cz_X7_become hG (oa_af h0 hA) hR (fun _ _ _ _ h => h)) rfl (fun _ h => nomatch h) (fun S155 hx159 hG156 hB157 hA158 => ?_)
      obtain ⟨d160, hd161⟩ : ∃ q, Z_X7_become R (sg S) o0 (((mJ (sg S) 448 o1) &&& (mJ (sg S) 448 o2))) (((mJ (sg S) 448 o1) &&& (mJ (sg S) 448 o2))) (0) = q := ⟨_, rfl⟩
      have hq162 := (congrArg (fun q9 => Z_X7_become R q9 o0 (((mJ (sg S) 448 o1) &&& (mJ (sg S) 448 o2))) (((mJ (sg S) 448 o1) &&& (mJ (sg S) 448 o2))) (0)) (show sg S = (sg S) from rfl)).trans hd161
      have hs163 := hx159.trans hq162
      have hF : Z_X7_and R (sg S) o0 o1 o2 = d160 := by
        subst hd161
        exact zl_X7_and_6 q104 q131
      exact tt_vreturn dX7_and_37 rfl (hP _ _ _ _ ⟨hG156, hA158, Or.inl ⟨_, rfl, rfl, Eq.trans hs163 hF.symm, rfl, rfl⟩⟩)
theorem sl_Z_X7_operate_1 : (#[87, 114, 209, 209, 105, 96, 114, 209, 209, 142, 133, 87, 96, 209, 153, 172, 162, 153] : Array Int).toList = [87, 114, 209, 209, 105, 96, 114, 209, 209, 142, 133, 87, 96, 209, 153, 172, 162, 153] := rfl
def Z_X7_operate (R : Nat → Nat → Nat) (σ : SG) (o0 : Nat) (x1 : Int32) (o2 : Nat) (o3 : Nat) (x4 : Int32) : SG :=
  if x1 = 0 then
    let d107 := Z_X7_add R σ o0 o2 o3
    d107
  else
    if x1 = 1 then
      let d117 := Z_X7_mix R σ o0 (1) o2 o3
      d117
    else
      if x1 = 2 then
        let d127 := Z_X7_copyFrom R σ o0 o3
        d127
      else
        if x1 = 3 then
          let d137 := Z_X7_copyFrom R σ o0 o3
          d137
        else
          if x1 = 4 then
            let d147 := Z_X7_and R σ o0 o2 o3
            d147
          else
            if x1 = 5 then
              let d157 := Z_X7_subtract R σ o0 o2 o3
              d157
            else
              if x1 = 6 then
                let d167 := Z_X7_mix R σ o0 (0) o2 o3
                d167
              else
                if x1 = 7 then
                  let d177 := Z_X7_copyFrom R σ o0 o3
                  d177
                else
                  if x1 = 8 then
                    let d187 := Z_X7_copyFrom R σ o0 o3
                    d187
                  else
                    if x1 = 9 then
                      let d197 := Z_X7_subtractFrom R σ o0 ((-1)) o2
                      d197
                    else
                      if x1 = 10 then
                        let d207 := Z_X7_subtractFrom R σ o0 (0) o2
                        d207
                      else
                        if x1 = 11 then
                          let d217 := Z_X7_add R σ o0 o2 o3
                          d217
                        else
                          if x1 = 12 then
                            let d227 := Z_X7_subtract R σ o0 o2 o3
                            d227
                          else
                            if x1 = 13 then
                              let d237 := Z_X7_copyFrom R σ o0 o3
                              d237
                            else
                              if x1 = 14 then
                                let d247 := Z_X7_multiply R σ o0 o2 o3
                                d247
                              else
                                if x1 = 15 then
                                  if x4 = 0 then
                                    let d259 := Z_X7_shiftRight R σ o0 o2 (x4)
                                    d259
                                  else
                                    if (Z_X7_isNatural R σ o2) = 0 then
                                      let d273 := Z_X7_become R σ o0 (0) (((((-1) : Int64).toUInt64 >>> ((x4 : Int32).toInt64.toUInt64 &&& Int64.toUInt64 63)).toInt64)) (1)
                                      d273
                                    else
                                      let d283 := Z_X7_shiftRight R σ o0 o2 (x4)
                                      d283
                                else
                                  if x1 = 16 then
                                    let d293 := Z_X7_shiftRight R σ o0 o2 (x4)
                                    d293
                                  else
                                    if x1 = 17 then
                                      let d303 := Z_X7_multiply R σ o0 o2 o3
                                      d303
                                    else
                                      let d330 := Z_X7_copyFrom R σ o0 o3
                                      d330
theorem zl_X7_operate_0 {R : Nat → Nat → Nat} {σ : SG} {o0 : Nat} {x1 : Int32} {o2 : Nat} {o3 : Nat} {x4 : Int32} (h0 : x1 = 0) : Z_X7_operate R σ o0 x1 o2 o3 x4 = (Z_X7_add R σ o0 o2 o3) := by unfold Z_X7_operate; exact if_pos h0
theorem zl_X7_operate_1 {R : Nat → Nat → Nat} {σ : SG} {o0 : Nat} {x1 : Int32} {o2 : Nat} {o3 : Nat} {x4 : Int32} (h0 : ¬ x1 = 0) (h1 : x1 = 1) : Z_X7_operate R σ o0 x1 o2 o3 x4 = (Z_X7_mix R σ o0 (1) o2 o3) := by unfold Z_X7_operate; exact Eq.trans (if_neg h0) (if_pos h1)
theorem zl_X7_operate_2 {R : Nat → Nat → Nat} {σ : SG} {o0 : Nat} {x1 : Int32} {o2 : Nat} {o3 : Nat} {x4 : Int32} (h0 : ¬ x1 = 0) (h1 : ¬ x1 = 1) (h2 : x1 = 2) : Z_X7_operate R σ o0 x1 o2 o3 x4 = (Z_X7_copyFrom R σ o0 o3) := by unfold Z_X7_operate; exact Eq.trans (if_neg h0) (Eq.trans (if_neg h1) (if_pos h2))
theorem zl_X7_operate_3 {R : Nat → Nat → Nat} {σ : SG} {o0 : Nat} {x1 : Int32} {o2 : Nat} {o3 : Nat} {x4 : Int32} (h0 : ¬ x1 = 0) (h1 : ¬ x1 = 1) (h2 : ¬ x1 = 2) (h3 : x1 = 3) : Z_X7_operate R σ o0 x1 o2 o3 x4 = (Z_X7_copyFrom R σ o0 o3) := by unfold Z_X7_operate; exact Eq.trans (if_neg h0) (Eq.trans (if_neg h1) (Eq.trans (if_neg h2) (if_pos h3)))
theorem zl_X7_operate_4 {R : Nat → Nat → Nat} {σ : SG} {o0 : Nat} {x1 : Int32} {o2 : Nat} {o3 : Nat} {x4 : Int32} (h0 : ¬ x1 = 0) (h1 : ¬ x1 = 1) (h2 : ¬ x1 = 2) (h3 : ¬ x1 = 3) (h4 : x1 = 4) : Z_X7_operate R σ o0 x1 o2 o3 x4 = (Z_X7_and R σ o0 o2 o3) := by unfold Z_X7_operate; exact Eq.trans (if_neg h0) (Eq.trans (if_neg h1) (Eq.trans (if_neg h2) (Eq.trans (if_neg h3) (if_pos h4))))
theorem zl_X7_operate_5 {R : Nat → Nat → Nat} {σ : SG} {o0 : Nat} {x1 : Int32} {o2 : Nat} {o3 : Nat} {x4 : Int32} (h0 : ¬ x1 = 0) (h1 : ¬ x1 = 1) (h2 : ¬ x1 = 2) (h3 : ¬ x1 = 3) (h4 : ¬ x1 = 4) (h5 : x1 = 5) : Z_X7_operate R σ o0 x1 o2 o3 x4 = (Z_X7_subtract R σ o0 o2 o3) := by unfold Z_X7_operate; exact Eq.trans (if_neg h0) (Eq.trans (if_neg h1) (Eq.trans (if_neg h2) (Eq.trans (if_neg h3) (Eq.trans (if_neg h4) (if_pos h5)))))
theorem zl_X7_operate_6 {R : Nat → Nat → Nat} {σ : SG} {o0 : Nat} {x1 : Int32} {o2 : Nat} {o3 : Nat} {x4 : Int32} (h0 : ¬ x1 = 0) (h1 : ¬ x1 = 1) (h2 : ¬ x1 = 2) (h3 : ¬ x1 = 3) (h4 : ¬ x1 = 4) (h5 : ¬ x1 = 5) (h6 : x1 = 6) : Z_X7_operate R σ o0 x1 o2 o3 x4 = (Z_X7_mix R σ o0 (0) o2 o3) := by unfold Z_X7_operate; exact Eq.trans (if_neg h0) (Eq.trans (if_neg h1) (Eq.trans (if_neg h2) (Eq.trans (if_neg h3) (Eq.trans (if_neg h4) (Eq.trans (if_neg h5) (if_pos h6))))))
theorem zl_X7_operate_7 {R : Nat → Nat → Nat} {σ : SG} {o0 : Nat} {x1 : Int32} {o2 : Nat} {o3 : Nat} {x4 : Int32} (h0 : ¬ x1 = 0) (h1 : ¬ x1 = 1) (h2 : ¬ x1 = 2) (h3 : ¬ x1 = 3) (h4 : ¬ x1 = 4) (h5 : ¬ x1 = 5) (h6 : ¬ x1 = 6) (h7 : x1 = 7) : Z_X7_operate R σ o0 x1 o2 o3 x4 = (Z_X7_copyFrom R σ o0 o3) := by unfold Z_X7_operate; exact Eq.trans (if_neg h0) (Eq.trans (if_neg h1) (Eq.trans (if_neg h2) (Eq.trans (if_neg h3) (Eq.trans (if_neg h4) (Eq.trans (if_neg h5) (Eq.trans (if_neg h6) (if_pos h7)))))))
theorem zl_X7_operate_8 {R : Nat → Nat → Nat} {σ : SG} {o0 : Nat} {x1 : Int32} {o2 : Nat} {o3 : Nat} {x4 : Int32} (h0 : ¬ x1 = 0) (h1 : ¬ x1 = 1) (h2 : ¬ x1 = 2) (h3 : ¬ x1 = 3) (h4 : ¬ x1 = 4) (h5 : ¬ x1 = 5) (h6 : ¬ x1 = 6) (h7 : ¬ x1 = 7) (h8 : x1 = 8) : Z_X7_operate R σ o0 x1 o2 o3 x4 = (Z_X7_copyFrom R σ o0 o3) := by unfold Z_X7_operate; exact Eq.trans (if_neg h0) (Eq.trans (if_neg h1) (Eq.trans (if_neg h2) (Eq.trans (if_neg h3) (Eq.trans (if_neg h4) (Eq.trans (if_neg h5) (Eq.trans (if_neg h6) (Eq.trans (if_neg h7) (if_pos h8))))))))
theorem zl_X7_operate_9 {R : Nat → Nat → Nat} {σ : SG} {o0 : Nat} {x1 : Int32} {o2 : Nat} {o3 : Nat} {x4 : Int32} (h0 : ¬ x1 = 0) (h1 : ¬ x1 = 1) (h2 : ¬ x1 = 2) (h3 : ¬ x1 = 3) (h4 : ¬ x1 = 4) (h5 : ¬ x1 = 5) (h6 : ¬ x1 = 6) (h7 : ¬ x1 = 7) (h8 : ¬ x1 = 8) (h9 : x1 = 9) : Z_X7_operate R σ o0 x1 o2 o3 x4 = (Z_X7_subtractFrom R σ o0 ((-1)) o2) := by unfold Z_X7_operate; exact Eq.trans (if_neg h0) (Eq.trans (if_neg h1) (Eq.trans (if_neg h2) (Eq.trans (if_neg h3) (Eq.trans (if_neg h4) (Eq.trans (if_neg h5) (Eq.trans (if_neg h6) (Eq.trans (if_neg h7) (Eq.trans (if_neg h8) (if_pos h9)))))))))
theorem zl_X7_operate_10 {R : Nat → Nat → Nat} {σ : SG} {o0 : Nat} {x1 : Int32} {o2 : Nat} {o3 : Nat} {x4 : Int32} (h0 : ¬ x1 = 0) (h1 : ¬ x1 = 1) (h2 : ¬ x1 = 2) (h3 : ¬ x1 = 3) (h4 : ¬ x1 = 4) (h5 : ¬ x1 = 5) (h6 : ¬ x1 = 6) (h7 : ¬ x1 = 7) (h8 : ¬ x1 = 8) (h9 : ¬ x1 = 9) (h10 : x1 = 10) : Z_X7_operate R σ o0 x1 o2 o3 x4 = (Z_X7_subtractFrom R σ o0 (0) o2) := by unfold Z_X7_operate; exact Eq.trans (if_neg h0) (Eq.trans (if_neg h1) (Eq.trans (if_neg h2) (Eq.trans (if_neg h3) (Eq.trans (if_neg h4) (Eq.trans (if_neg h5) (Eq.trans (if_neg h6) (Eq.trans (if_neg h7) (Eq.trans (if_neg h8) (Eq.trans (if_neg h9) (if_pos h10))))))))))
theorem zl_X7_operate_11 {R : Nat → Nat → Nat} {σ : SG} {o0 : Nat} {x1 : Int32} {o2 : Nat} {o3 : Nat} {x4 : Int32} (h0 : ¬ x1 = 0) (h1 : ¬ x1 = 1) (h2 : ¬ x1 = 2) (h3 : ¬ x1 = 3) (h4 : ¬ x1 = 4) (h5 : ¬ x1 = 5) (h6 : ¬ x1 = 6) (h7 : ¬ x1 = 7) (h8 : ¬ x1 = 8) (h9 : ¬ x1 = 9) (h10 : ¬ x1 = 10) (h11 : x1 = 11) : Z_X7_operate R σ o0 x1 o2 o3 x4 = (Z_X7_add R σ o0 o2 o3) := by unfold Z_X7_operate; exact Eq.trans (if_neg h0) (Eq.trans (if_neg h1) (Eq.trans (if_neg h2) (Eq.trans (if_neg h3) (Eq.trans (if_neg h4) (Eq.trans (if_neg h5) (Eq.trans (if_neg h6) (Eq.trans (if_neg h7) (Eq.trans (if_neg h8) (Eq.trans (if_neg h9) (Eq.trans (if_neg h10) (if_pos h11)))))))))))
theorem zl_X7_operate_12 {R : Nat → Nat → Nat} {σ : SG} {o0 : Nat} {x1 : Int32} {o2 : Nat} {o3 : Nat} {x4 : Int32} (h0 : ¬ x1 = 0) (h1 : ¬ x1 = 1) (h2 : ¬ x1 = 2) (h3 : ¬ x1 = 3) (h4 : ¬ x1 = 4) (h5 : ¬ x1 = 5) (h6 : ¬ x1 = 6) (h7 : ¬ x1 = 7) (h8 : ¬ x1 = 8) (h9 : ¬ x1 = 9) (h10 : ¬ x1 = 10) (h11 : ¬ x1 = 11) (h12 : x1 = 12) : Z_X7_operate R σ o0 x1 o2 o3 x4 = (Z_X7_subtract R σ o0 o2 o3) := by unfold Z_X7_operate; exact Eq.trans (if_neg h0) (Eq.trans (if_neg h1) (Eq.trans (if_neg h2) (Eq.trans (if_neg h3) (Eq.trans (if_neg h4) (Eq.trans (if_neg h5) (Eq.trans (if_neg h6) (Eq.trans (if_neg h7) (Eq.trans (if_neg h8) (Eq.trans (if_neg h9) (Eq.trans (if_neg h10) (Eq.trans (if_neg h11) (if_pos h12))))))))))))
theorem zl_X7_operate_13 {R : Nat → Nat → Nat} {σ : SG} {o0 : Nat} {x1 : Int32} {o2 : Nat} {o3 : Nat} {x4 : Int32} (h0 : ¬ x1 = 0) (h1 : ¬ x1 = 1) (h2 : ¬ x1 = 2) (h3 : ¬ x1 = 3) (h4 : ¬ x1 = 4) (h5 : ¬ x1 = 5) (h6 : ¬ x1 = 6) (h7 : ¬ x1 = 7) (h8 : ¬ x1 = 8) (h9 : ¬ x1 = 9) (h10 : ¬ x1 = 10) (h11 : ¬ x1 = 11) (h12 : ¬ x1 = 12) (h13 : x1 = 13) : Z_X7_operate R σ o0 x1 o2 o3 x4 = (Z_X7_copyFrom R σ o0 o3) := by unfold Z_X7_operate; exact Eq.trans (if_neg h0) (Eq.trans (if_neg h1) (Eq.trans (if_neg h2) (Eq.trans (if_neg h3) (Eq.trans (if_neg h4) (Eq.trans (if_neg h5) (Eq.trans (if_neg h6) (Eq.trans (if_neg h7) (Eq.trans (if_neg h8) (Eq.trans (if_neg h9) (Eq.trans (if_neg h10) (Eq.trans (if_neg h11) (Eq.trans (if_neg h12) (if_pos h13)))))))))))))
theorem zl_X7_operate_14 {R : Nat → Nat → Nat} {σ : SG} {o0 : Nat} {x1 : Int32} {o2 : Nat} {o3 : Nat} {x4 : Int32} (h0 : ¬ x1 = 0) (h1 : ¬ x1 = 1) (h2 : ¬ x1 = 2) (h3 : ¬ x1 = 3) (h4 : ¬ x1 = 4) (h5 : ¬ x1 = 5) (h6 : ¬ x1 = 6) (h7 : ¬ x1 = 7) (h8 : ¬ x1 = 8) (h9 : ¬ x1 = 9) (h10 : ¬ x1 = 10) (h11 : ¬ x1 = 11) (h12 : ¬ x1 = 12) (h13 : ¬ x1 = 13) (h14 : x1 = 14) : Z_X7_operate R σ o0 x1 o2 o3 x4 = (Z_X7_multiply R σ o0 o2 o3) := by unfold Z_X7_operate; exact Eq.trans (if_neg h0) (Eq.trans (if_neg h1) (Eq.trans (if_neg h2) (Eq.trans (if_neg h3) (Eq.trans (if_neg h4) (Eq.trans (if_neg h5) (Eq.trans (if_neg h6) (Eq.trans (if_neg h7) (Eq.trans (if_neg h8) (Eq.trans (if_neg h9) (Eq.trans (if_neg h10) (Eq.trans (if_neg h11) (Eq.trans (if_neg h12) (Eq.trans (if_neg h13) (if_pos h14))))))))))))))
theorem zl_X7_operate_15 {R : Nat → Nat → Nat} {σ : SG} {o0 : Nat} {x1 : Int32} {o2 : Nat} {o3 : Nat} {x4 : Int32} (h0 : ¬ x1 = 0) (h1 : ¬ x1 = 1) (h2 : ¬ x1 = 2) (h3 : ¬ x1 = 3) (h4 : ¬ x1 = 4) (h5 : ¬ x1 = 5) (h6 : ¬ x1 = 6) (h7 : ¬ x1 = 7) (h8 : ¬ x1 = 8) (h9 : ¬ x1 = 9) (h10 : ¬ x1 = 10) (h11 : ¬ x1 = 11) (h12 : ¬ x1 = 12) (h13 : ¬ x1 = 13) (h14 : ¬ x1 = 14) (h15 : x1 = 15) (h16 : x4 = 0) : Z_X7_operate R σ o0 x1 o2 o3 x4 = (Z_X7_shiftRight R σ o0 o2 (x4)) := by unfold Z_X7_operate; exact Eq.trans (if_neg h0) (Eq.trans (if_neg h1) (Eq.trans (if_neg h2) (Eq.trans (if_neg h3) (Eq.trans (if_neg h4) (Eq.trans (if_neg h5) (Eq.trans (if_neg h6) (Eq.trans (if_neg h7) (Eq.trans (if_neg h8) (Eq.trans (if_neg h9) (Eq.trans (if_neg h10) (Eq.trans (if_neg h11) (Eq.trans (if_neg h12) (Eq.trans (if_neg h13) (Eq.trans (if_neg h14) (Eq.trans (if_pos h15) (if_pos h16))))))))))))))))
theorem zl_X7_operate_16 {R : Nat → Nat → Nat} {σ : SG} {o0 : Nat} {x1 : Int32} {o2 : Nat} {o3 : Nat} {x4 : Int32} (h0 : ¬ x1 = 0) (h1 : ¬ x1 = 1) (h2 : ¬ x1 = 2) (h3 : ¬ x1 = 3) (h4 : ¬ x1 = 4) (h5 : ¬ x1 = 5) (h6 : ¬ x1 = 6) (h7 : ¬ x1 = 7) (h8 : ¬ x1 = 8) (h9 : ¬ x1 = 9) (h10 : ¬ x1 = 10) (h11 : ¬ x1 = 11) (h12 : ¬ x1 = 12) (h13 : ¬ x1 = 13) (h14 : ¬ x1 = 14) (h15 : x1 = 15) (h16 : ¬ x4 = 0) (h17 : (Z_X7_isNatural R σ o2) = 0) : Z_X7_operate R σ o0 x1 o2 o3 x4 = (Z_X7_become R σ o0 (0) (((((-1) : Int64).toUInt64 >>> ((x4 : Int32).toInt64.toUInt64 &&& Int64.toUInt64 63)).toInt64)) (1)) := by unfold Z_X7_operate; exact Eq.trans (if_neg h0) (Eq.trans (if_neg h1) (Eq.trans (if_neg h2) (Eq.trans (if_neg h3) (Eq.trans (if_neg h4) (Eq.trans (if_neg h5) (Eq.trans (if_neg h6) (Eq.trans (if_neg h7) (Eq.trans (if_neg h8) (Eq.trans (if_neg h9) (Eq.trans (if_neg h10) (Eq.trans (if_neg h11) (Eq.trans (if_neg h12) (Eq.trans (if_neg h13) (Eq.trans (if_neg h14) (Eq.trans (if_pos h15) (Eq.trans (if_neg h16) (if_pos h17)))))))))))))))))
theorem zl_X7_operate_17 {R : Nat → Nat → Nat} {σ : SG} {o0 : Nat} {x1 : Int32} {o2 : Nat} {o3 : Nat} {x4 : Int32} (h0 : ¬ x1 = 0) (h1 : ¬ x1 = 1) (h2 : ¬ x1 = 2) (h3 : ¬ x1 = 3) (h4 : ¬ x1 = 4) (h5 : ¬ x1 = 5) (h6 : ¬ x1 = 6) (h7 : ¬ x1 = 7) (h8 : ¬ x1 = 8) (h9 : ¬ x1 = 9) (h10 : ¬ x1 = 10) (h11 : ¬ x1 = 11) (h12 : ¬ x1 = 12) (h13 : ¬ x1 = 13) (h14 : ¬ x1 = 14) (h15 : x1 = 15) (h16 : ¬ x4 = 0) (h17 : ¬ (Z_X7_isNatural R σ o2) = 0) : Z_X7_operate R σ o0 x1 o2 o3 x4 = (Z_X7_shiftRight R σ o0 o2 (x4)) := by unfold Z_X7_operate; exact Eq.trans (if_neg h0) (Eq.trans (if_neg h1) (Eq.trans (if_neg h2) (Eq.trans (if_neg h3) (Eq.trans (if_neg h4) (Eq.trans (if_neg h5) (Eq.trans (if_neg h6) (Eq.trans (if_neg h7) (Eq.trans (if_neg h8) (Eq.trans (if_neg h9) (Eq.trans (if_neg h10) (Eq.trans (if_neg h11) (Eq.trans (if_neg h12) (Eq.trans (if_neg h13) (Eq.trans (if_neg h14) (Eq.trans (if_pos h15) (Eq.trans (if_neg h16) (if_neg h17)))))))))))))))))
theorem zl_X7_operate_18 {R : Nat → Nat → Nat} {σ : SG} {o0 : Nat} {x1 : Int32} {o2 : Nat} {o3 : Nat} {x4 : Int32} (h0 : ¬ x1 = 0) (h1 : ¬ x1 = 1) (h2 : ¬ x1 = 2) (h3 : ¬ x1 = 3) (h4 : ¬ x1 = 4) (h5 : ¬ x1 = 5) (h6 : ¬ x1 = 6) (h7 : ¬ x1 = 7) (h8 : ¬ x1 = 8) (h9 : ¬ x1 = 9) (h10 : ¬ x1 = 10) (h11 : ¬ x1 = 11) (h12 : ¬ x1 = 12) (h13 : ¬ x1 = 13) (h14 : ¬ x1 = 14) (h15 : ¬ x1 = 15) (h16 : x1 = 16) : Z_X7_operate R σ o0 x1 o2 o3 x4 = (Z_X7_shiftRight R σ o0 o2 (x4)) := by unfold Z_X7_operate; exact Eq.trans (if_neg h0) (Eq.trans (if_neg h1) (Eq.trans (if_neg h2) (Eq.trans (if_neg h3) (Eq.trans (if_neg h4) (Eq.trans (if_neg h5) (Eq.trans (if_neg h6) (Eq.trans (if_neg h7) (Eq.trans (if_neg h8) (Eq.trans (if_neg h9) (Eq.trans (if_neg h10) (Eq.trans (if_neg h11) (Eq.trans (if_neg h12) (Eq.trans (if_neg h13) (Eq.trans (if_neg h14) (Eq.trans (if_neg h15) (if_pos h16))))))))))))))))
theorem zl_X7_operate_19 {R : Nat → Nat → Nat} {σ : SG} {o0 : Nat} {x1 : Int32} {o2 : Nat} {o3 : Nat} {x4 : Int32} (h0 : ¬ x1 = 0) (h1 : ¬ x1 = 1) (h2 : ¬ x1 = 2) (h3 : ¬ x1 = 3) (h4 : ¬ x1 = 4) (h5 : ¬ x1 = 5) (h6 : ¬ x1 = 6) (h7 : ¬ x1 = 7) (h8 : ¬ x1 = 8) (h9 : ¬ x1 = 9) (h10 : ¬ x1 = 10) (h11 : ¬ x1 = 11) (h12 : ¬ x1 = 12) (h13 : ¬ x1 = 13) (h14 : ¬ x1 = 14) (h15 : ¬ x1 = 15) (h16 : ¬ x1 = 16) (h17 : x1 = 17) : Z_X7_operate R σ o0 x1 o2 o3 x4 = (Z_X7_multiply R σ o0 o2 o3) := by unfold Z_X7_operate; exact Eq.trans (if_neg h0) (Eq.trans (if_neg h1) (Eq.trans (if_neg h2) (Eq.trans (if_neg h3) (Eq.trans (if_neg h4) (Eq.trans (if_neg h5) (Eq.trans (if_neg h6) (Eq.trans (if_neg h7) (Eq.trans (if_neg h8) (Eq.trans (if_neg h9) (Eq.trans (if_neg h10) (Eq.trans (if_neg h11) (Eq.trans (if_neg h12) (Eq.trans (if_neg h13) (Eq.trans (if_neg h14) (Eq.trans (if_neg h15) (Eq.trans (if_neg h16) (if_pos h17)))))))))))))))))
theorem zl_X7_operate_20 {R : Nat → Nat → Nat} {σ : SG} {o0 : Nat} {x1 : Int32} {o2 : Nat} {o3 : Nat} {x4 : Int32} (h0 : ¬ x1 = 0) (h1 : ¬ x1 = 1) (h2 : ¬ x1 = 2) (h3 : ¬ x1 = 3) (h4 : ¬ x1 = 4) (h5 : ¬ x1 = 5) (h6 : ¬ x1 = 6) (h7 : ¬ x1 = 7) (h8 : ¬ x1 = 8) (h9 : ¬ x1 = 9) (h10 : ¬ x1 = 10) (h11 : ¬ x1 = 11) (h12 : ¬ x1 = 12) (h13 : ¬ x1 = 13) (h14 : ¬ x1 = 14) (h15 : ¬ x1 = 15) (h16 : ¬ x1 = 16) (h17 : ¬ x1 = 17) : Z_X7_operate R σ o0 x1 o2 o3 x4 = (Z_X7_copyFrom R σ o0 o3) := by unfold Z_X7_operate; exact Eq.trans (if_neg h0) (Eq.trans (if_neg h1) (Eq.trans (if_neg h2) (Eq.trans (if_neg h3) (Eq.trans (if_neg h4) (Eq.trans (if_neg h5) (Eq.trans (if_neg h6) (Eq.trans (if_neg h7) (Eq.trans (if_neg h8) (Eq.trans (if_neg h9) (Eq.trans (if_neg h10) (Eq.trans (if_neg h11) (Eq.trans (if_neg h12) (Eq.trans (if_neg h13) (Eq.trans (if_neg h14) (Eq.trans (if_neg h15) (Eq.trans (if_neg h16) (if_neg h17)))))))))))))))))
set_option maxHeartbeats 40000000 in
theorem cz_X7_operate {xi : SX} {S : Hp} {E : List Nat} {kc nc : Nat} {P : Po} {o0 : Nat} {x1 : Int32} {o2 : Nat} {o3 : Nat} {x4 : Int32} {R : Nat → Nat → Nat} (hG : GI S E) (h0 : Oa S E 7 0 o0) (h2 : Oa S E 7 0 o2) (h3 : Oa S E 7 0 o3) (hR : RK S R) (hP : ∀ r T x y, PV E [9987] S kc nc rV (fun v T => sg T = Z_X7_operate R (sg S) o0 x1 o2 o3 x4) [] r T x y → P r T x y) : TT xi M_X7_operate 0 [(0, .ref o0), (1, .int x1), (2, .ref o2), (3, .ref o3), (4, .int x4)] [] S kc nc P := by
  have hA : Af E [9987] S S := af_rf
  refine tt_iload_n (j := 1) dX7_operate_0 rfl ?_
  refine gt_by (c := x1 = 0) (fun q101 => ?_) (fun q101 => ?_)
  · skip
    refine gt_tseqL (off := 87) (tgt := 88) 0 0 dX7_operate_1 sl_Z_X7_operate_1 q101 rfl (by decide) (by decide) rfl rfl ?_
    refine tt_aload_n (j := 0) dX7_operate_88 rfl ?_
    refine tt_aload_n (j := 2) dX7_operate_89 rfl ?_
    refine tt_aload_n (j := 3) dX7_operate_90 rfl ?_
    refine gt_Vv (As := [.ref o2, .ref o3]) dX7_operate_91 ca_X7_61 ⟨by decide, by decide⟩ h0 hA rfl (Nat.le_of_ble_eq_true rfl) (Nat.le_of_ble_eq_true rfl) (by decide) (cz_X7_add hG (oa_af h0 hA) (oa_af h2 hA) (oa_af h3 hA) hR (fun _ _ _ _ h => h)) rfl (fun _ h => nomatch h) (fun S102 hx106 hG103 hB104 hA105 => ?_)
    obtain ⟨d107, hd108⟩ : ∃ q, Z_X7_add R (sg S) o0 o2 o3 = q := ⟨_, rfl⟩
    have hq109 := (congrArg (fun q9 => Z_X7_add R q9 o0 o2 o3) (show sg S = (sg S) from rfl)).trans hd108
    have hs110 := hx106.trans hq109
    refine tt_goto (tgt := 215) dX7_operate_94 rfl ?_
    have hF : Z_X7_operate R (sg S) o0 x1 o2 o3 x4 = d107 := by
      subst hd108
      exact zl_X7_operate_0 q101
    exact tt_vreturn dX7_operate_215 rfl (hP _ _ _ _ ⟨hG103, hA105, Or.inl ⟨_, rfl, rfl, Eq.trans hs110 hF.symm, rfl, rfl⟩⟩)
  refine gt_by (c := x1 = 1) (fun q111 => ?_) (fun q111 => ?_)
  · skip
    refine gt_tseqL (off := 114) (tgt := 115) 1 1 dX7_operate_1 sl_Z_X7_operate_1 q111 rfl (by decide) (by decide) rfl rfl ?_
    refine tt_aload_n (j := 0) dX7_operate_115 rfl ?_
    refine tt_iload_n (j := 1) dX7_operate_116 rfl ?_
    refine tt_iconst (v := 1) dX7_operate_117 rfl ?_
    refine tt_icmp_ne (tgt := 125) dX7_operate_118 rfl (fun q => absurd q111 q) (fun _ => ?_)
    refine tt_iconst (v := 1) dX7_operate_121 rfl ?_
    refine tt_goto (tgt := 126) dX7_operate_122 rfl ?_
    refine tt_aload_n (j := 2) dX7_operate_126 rfl ?_
    refine tt_aload_n (j := 3) dX7_operate_127 rfl ?_
    refine gt_Vv (As := [.int 1, .ref o2, .ref o3]) dX7_operate_128 ca_X7_71 ⟨by decide, by decide⟩ h0 hA rfl (Nat.le_of_ble_eq_true rfl) (Nat.le_of_ble_eq_true rfl) (by decide) (cz_X7_mix hG (oa_af h0 hA) (rg_w (⟨by decide, by decide⟩ : Rg 1 1 1)) (oa_af h2 hA) (oa_af h3 hA) hR (fun _ _ _ _ h => h)) rfl (fun _ h => nomatch h) (fun S112 hx116 hG113 hB114 hA115 => ?_)
    obtain ⟨d117, hd118⟩ : ∃ q, Z_X7_mix R (sg S) o0 (1) o2 o3 = q := ⟨_, rfl⟩
    have hq119 := (congrArg (fun q9 => Z_X7_mix R q9 o0 (1) o2 o3) (show sg S = (sg S) from rfl)).trans hd118
    have hs120 := hx116.trans hq119
    refine tt_goto (tgt := 215) dX7_operate_131 rfl ?_
    have hF : Z_X7_operate R (sg S) o0 x1 o2 o3 x4 = d117 := by
      subst hd118
      exact zl_X7_operate_1 q101 q111
    exact tt_vreturn dX7_operate_215 rfl (hP _ _ _ _ ⟨hG113, hA115, Or.inl ⟨_, rfl, rfl, Eq.trans hs120 hF.symm, rfl, rfl⟩⟩)
  refine gt_by (c := x1 = 2) (fun q121 => ?_) (fun q121 => ?_)
  · skip
    refine gt_tseqL (off := 209) (tgt := 210) 2 2 dX7_operate_1 sl_Z_X7_operate_1 q121 rfl (by decide) (by decide) rfl rfl ?_
    refine tt_aload_n (j := 0) dX7_operate_210 rfl ?_
    refine tt_aload_n (j := 3) dX7_operate_211 rfl ?_
    refine gt_Vv (As := [.ref o3]) dX7_operate_212 ca_X7_89 ⟨by decide, by decide⟩ h0 hA rfl (Nat.le_of_ble_eq_true rfl) (Nat.le_of_ble_eq_true rfl) (by decide) (cz_X7_copyFrom hG (oa_af h0 hA) (oa_af h3 hA) hR (fun _ _ _ _ h => h)) rfl (fun _ h => nomatch h) (fun S122 hx126 hG123 hB124 hA125 => ?_)
    obtain ⟨d127, hd128⟩ : ∃ q, Z_X7_copyFrom R (sg S) o0 o3 = q := ⟨_, rfl⟩
    have hq129 := (congrArg (fun q9 => Z_X7_copyFrom R q9 o0 o3) (show sg S = (sg S) from rfl)).trans hd128
    have hs130 := hx126.trans hq129
    have hF : Z_X7_operate R (sg S) o0 x1 o2 o3 x4 = d127 := by
      subst hd128
      exact zl_X7_operate_2 q101 q111 q121
    exact tt_vreturn dX7_operate_215 rfl (hP _ _ _ _ ⟨hG123, hA125, Or.inl ⟨_, rfl, rfl, Eq.trans hs130 hF.symm, rfl, rfl⟩⟩)
  refine gt_by (c := x1 = 3) (fun q131 => ?_) (fun q131 => ?_)
  · skip
    refine gt_tseqL (off := 209) (tgt := 210) 3 3 dX7_operate_1 sl_Z_X7_operate_1 q131 rfl (by decide) (by decide) rfl rfl ?_
    refine tt_aload_n (j := 0) dX7_operate_210 rfl ?_
    refine tt_aload_n (j := 3) dX7_operate_211 rfl ?_
    refine gt_Vv (As := [.ref o3]) dX7_operate_212 ca_X7_89 ⟨by decide, by decide⟩ h0 hA rfl (Nat.le_of_ble_eq_true rfl) (Nat.le_of_ble_eq_true rfl) (by decide) (cz_X7_copyFrom hG (oa_af h0 hA) (oa_af h3 hA) hR (fun _ _ _ _ h => h)) rfl (fun _ h => nomatch h) (fun S132 hx136 hG133 hB134 hA135 => ?_)
    obtain ⟨d137, hd138⟩ : ∃ q, Z_X7_copyFrom R (sg S) o0 o3 = q := ⟨_, rfl⟩
    have hq139 := (congrArg (fun q9 => Z_X7_copyFrom R q9 o0 o3) (show sg S = (sg S) from rfl)).trans hd138
    have hs140 := hx136.trans hq139
    have hF : Z_X7_operate R (sg S) o0 x1 o2 o3 x4 = d137 := by
      subst hd138
      exact zl_X7_operate_3 q101 q111 q121 q131
    exact tt_vreturn dX7_operate_215 rfl (hP _ _ _ _ ⟨hG133, hA135, Or.inl ⟨_, rfl, rfl, Eq.trans hs140 hF.symm, rfl, rfl⟩⟩)
  refine gt_by (c := x1 = 4) (fun q141 => ?_) (fun q141 => ?_)
  · skip
    refine gt_tseqL (off := 105) (tgt := 106) 4 4 dX7_operate_1 sl_Z_X7_operate_1 q141 rfl (by decide) (by decide) rfl rfl ?_
    refine tt_aload_n (j := 0) dX7_operate_106 rfl ?_
    refine tt_aload_n (j := 2) dX7_operate_107 rfl ?_
    refine tt_aload_n (j := 3) dX7_operate_108 rfl ?_
    refine gt_Vv (As := [.ref o2, .ref o3]) dX7_operate_109 ca_X7_68 ⟨by decide, by decide⟩ h0 hA rfl (Nat.le_of_ble_eq_true rfl) (Nat.le_of_ble_eq_true rfl) (by decide) (cz_X7_and hG (oa_af h0 hA) (oa_af h2 hA) (oa_af h3 hA) hR (fun _ _ _ _ h => h)) rfl (fun _ h => nomatch h) (fun S142 hx146 hG143 hB144 hA145 => ?_)
    obtain ⟨d147, hd148⟩ : ∃ q, Z_X7_and R (sg S) o0 o2 o3 = q := ⟨_, rfl⟩
    have hq149 := (congrArg (fun q9 => Z_X7_and R q9 o0 o2 o3) (show sg S = (sg S) from rfl)).trans hd148
    have hs150 := hx146.trans hq149
    refine tt_goto (tgt := 215) dX7_operate_112 rfl ?_
    have hF : Z_X7_operate R (sg S) o0 x1 o2 o3 x4 = d147 := by
      subst hd148
      exact zl_X7_operate_4 q101 q111 q121 q131 q141
    exact tt_vreturn dX7_operate_215 rfl (hP _ _ _ _ ⟨hG143, hA145, Or.inl ⟨_, rfl, rfl, Eq.trans hs150 hF.symm, rfl, rfl⟩⟩)
  refine gt_by (c := x1 = 5) (fun q151 => ?_) (fun q151 => ?_)
  · skip
    refine gt_tseqL (off := 96) (tgt := 97) 5 5 dX7_operate_1 sl_Z_X7_operate_1 q151 rfl (by decide) (by decide) rfl rfl ?_
    refine tt_aload_n (j := 0) dX7_operate_97 rfl ?_
    refine tt_aload_n (j := 2) dX7_operate_98 rfl ?_
    refine tt_aload_n (j := 3) dX7_operate_99 rfl ?_
    refine gt_Vv (As := [.ref o2, .ref o3]) dX7_operate_100 ca_X7_65 ⟨by decide, by decide⟩ h0 hA rfl (Nat.le_of_ble_eq_true rfl) (Nat.le_of_ble_eq_true rfl) (by decide) (cz_X7_subtract hG (oa_af h0 hA) (oa_af h2 hA) (oa_af h3 hA) hR (fun _ _ _ _ h => h)) rfl (fun _ h => nomatch h) (fun S152 hx156 hG153 hB154 hA155 => ?_)
    obtain ⟨d157, hd158⟩ : ∃ q, Z_X7_subtract R (sg S) o0 o2 o3 = q := ⟨_, rfl⟩
    have hq159 := (congrArg (fun q9 => Z_X7_subtract R q9 o0 o2 o3) (show sg S = (sg S) from rfl)).trans hd158
    have hs160 := hx156.trans hq159
    refine tt_goto (tgt := 215) dX7_operate_103 rfl ?_
    have hF : Z_X7_operate R (sg S) o0 x1 o2 o3 x4 = d157 := by
      subst hd158
      exact zl_X7_operate_5 q101 q111 q121 q131 q141 q151
    exact tt_vreturn dX7_operate_215 rfl (hP _ _ _ _ ⟨hG153, hA155, Or.inl ⟨_, rfl, rfl, Eq.trans hs160 hF.symm, rfl, rfl⟩⟩)
  refine gt_by (c := x1 = 6) (fun q161 => ?_) (fun q161 => ?_)
  · skip
    refine gt_tseqL (off := 114) (tgt := 115) 6 6 dX7_operate_1 sl_Z_X7_operate_1 q161 rfl (by decide) (by decide) rfl rfl ?_
    refine tt_aload_n (j := 0) dX7_operate_115 rfl ?_
    refine tt_iload_n (j := 1) dX7_operate_116 rfl ?_
    refine tt_iconst (v := 1) dX7_operate_117 rfl ?_
    refine tt_icmp_ne (tgt := 125) dX7_operate_118 rfl (fun _ => ?_) (fun q => absurd q q111)
    refine tt_iconst (v := 0) dX7_operate_125 rfl ?_
    refine tt_aload_n (j := 2) dX7_operate_126 rfl ?_
    refine tt_aload_n (j := 3) dX7_operate_127 rfl ?_
    refine gt_Vv (As := [.int 0, .ref o2, .ref o3]) dX7_operate_128 ca_X7_71 ⟨by decide, by decide⟩ h0 hA rfl (Nat.le_of_ble_eq_true rfl) (Nat.le_of_ble_eq_true rfl) (by decide) (cz_X7_mix hG (oa_af h0 hA) (rg_w (⟨by decide, by decide⟩ : Rg 0 0 0)) (oa_af h2 hA) (oa_af h3 hA) hR (fun _ _ _ _ h => h)) rfl (fun _ h => nomatch h) (fun S162 hx166 hG163 hB164 hA165 => ?_)
    obtain ⟨d167, hd168⟩ : ∃ q, Z_X7_mix R (sg S) o0 (0) o2 o3 = q := ⟨_, rfl⟩
    have hq169 := (congrArg (fun q9 => Z_X7_mix R q9 o0 (0) o2 o3) (show sg S = (sg S) from rfl)).trans hd168
    have hs170 := hx166.trans hq169
    refine tt_goto (tgt := 215) dX7_operate_131 rfl ?_
    have hF : Z_X7_operate R (sg S) o0 x1 o2 o3 x4 = d167 := by
      subst hd168
      exact zl_X7_operate_6 q101 q111 q121 q131 q141 q151 q161
    exact tt_vreturn dX7_operate_215 rfl (hP _ _ _ _ ⟨hG163, hA165, Or.inl ⟨_, rfl, rfl, Eq.trans hs170 hF.symm, rfl, rfl⟩⟩)
  refine gt_by (c := x1 = 7) (fun q171 => ?_) (fun q171 => ?_)
  · skip
    refine gt_tseqL (off := 209) (tgt := 210) 7 7 dX7_operate_1 sl_Z_X7_operate_1 q171 rfl (by decide) (by decide) rfl rfl ?_
    refine tt_aload_n (j := 0) dX7_operate_210 rfl ?_
    refine tt_aload_n (j := 3) dX7_operate_211 rfl ?_
    refine gt_Vv (As := [.ref o3]) dX7_operate_212 ca_X7_89 ⟨by decide, by decide⟩ h0 hA rfl (Nat.le_of_ble_eq_true rfl) (Nat.le_of_ble_eq_true rfl) (by decide) (cz_X7_copyFrom hG (oa_af h0 hA) (oa_af h3 hA) hR (fun _ _ _ _ h => h)) rfl (fun _ h => nomatch h) (fun S172 hx176 hG173 hB174 hA175 => ?_)
    obtain ⟨d177, hd178⟩ : ∃ q, Z_X7_copyFrom R (sg S) o0 o3 = q := ⟨_, rfl⟩
    have hq179 := (congrArg (fun q9 => Z_X7_copyFrom R q9 o0 o3) (show sg S = (sg S) from rfl)).trans hd178
    have hs180 := hx176.trans hq179
    have hF : Z_X7_operate R (sg S) o0 x1 o2 o3 x4 = d177 := by
      subst hd178
      exact zl_X7_operate_7 q101 q111 q121 q131 q141 q151 q161 q171
    exact tt_vreturn dX7_operate_215 rfl (hP _ _ _ _ ⟨hG173, hA175, Or.inl ⟨_, rfl, rfl, Eq.trans hs180 hF.symm, rfl, rfl⟩⟩)
  refine gt_by (c := x1 = 8) (fun q181 => ?_) (fun q181 => ?_)
  · skip
    refine gt_tseqL (off := 209) (tgt := 210) 8 8 dX7_operate_1 sl_Z_X7_operate_1 q181 rfl (by decide) (by decide) rfl rfl ?_
    refine tt_aload_n (j := 0) dX7_operate_210 rfl ?_
    refine tt_aload_n (j := 3) dX7_operate_211 rfl ?_
    refine gt_Vv (As := [.ref o3]) dX7_operate_212 ca_X7_89 ⟨by decide, by decide⟩ h0 hA rfl (Nat.le_of_ble_eq_true rfl) (Nat.le_of_ble_eq_true rfl) (by decide) (cz_X7_copyFrom hG (oa_af h0 hA) (oa_af h3 hA) hR (fun _ _ _ _ h => h)) rfl (fun _ h => nomatch h) (fun S182 hx186 hG183 hB184 hA185 => ?_)
    obtain ⟨d187, hd188⟩ : ∃ q, Z_X7_copyFrom R (sg S) o0 o3 = q := ⟨_, rfl⟩
    have hq189 := (congrArg (fun q9 => Z_X7_copyFrom R q9 o0 o3) (show sg S = (sg S) from rfl)).trans hd188
    have hs190 := hx186.trans hq189
    have hF : Z_X7_operate R (sg S) o0 x1 o2 o3 x4 = d187 := by
      subst hd188
      exact zl_X7_operate_8 q101 q111 q121 q131 q141 q151 q161 q171 q181
    exact tt_vreturn dX7_operate_215 rfl (hP _ _ _ _ ⟨hG183, hA185, Or.inl ⟨_, rfl, rfl, Eq.trans hs190 hF.symm, rfl, rfl⟩⟩)
  refine gt_by (c := x1 = 9) (fun q191 => ?_) (fun q191 => ?_)
  · skip
    refine gt_tseqL (off := 142) (tgt := 143) 9 9 dX7_operate_1 sl_Z_X7_operate_1 q191 rfl (by decide) (by decide) rfl rfl ?_
    refine tt_aload_n (j := 0) dX7_operate_143 rfl ?_
    refine tt_ldc2 (v := (-1)) dX7_operate_144 kl_7_19 ?_
    refine tt_aload_n (j := 2) dX7_operate_147 rfl ?_
    refine gt_Vv (As := [.long (-1), .ref o2]) dX7_operate_148 ca_X7_75 ⟨by decide, by decide⟩ h0 hA rfl (Nat.le_of_ble_eq_true rfl) (Nat.le_of_ble_eq_true rfl) (by decide) (cz_X7_subtractFrom hG (oa_af h0 hA) (oa_af h2 hA) hR (fun _ _ _ _ h => h)) rfl (fun _ h => nomatch h) (fun S192 hx196 hG193 hB194 hA195 => ?_)
    obtain ⟨d197, hd198⟩ : ∃ q, Z_X7_subtractFrom R (sg S) o0 ((-1)) o2 = q := ⟨_, rfl⟩
    have hq199 := (congrArg (fun q9 => Z_X7_subtractFrom R q9 o0 ((-1)) o2) (show sg S = (sg S) from rfl)).trans hd198
    have hs200 := hx196.trans hq199
    refine tt_goto (tgt := 215) dX7_operate_151 rfl ?_
    have hF : Z_X7_operate R (sg S) o0 x1 o2 o3 x4 = d197 := by
      subst hd198
      exact zl_X7_operate_9 q101 q111 q121 q131 q141 q151 q161 q171 q181 q191
    exact tt_vreturn dX7_operate_215 rfl (hP _ _ _ _ ⟨hG193, hA195, Or.inl ⟨_, rfl, rfl, Eq.trans hs200 hF.symm, rfl, rfl⟩⟩)
  refine gt_by (c := x1 = 10) (fun q201 => ?_) (fun q201 => ?_)
  · skip
    refine gt_tseqL (off := 133) (tgt := 134) 10 10 dX7_operate_1 sl_Z_X7_operate_1 q201 rfl (by decide) (by decide) rfl rfl ?_
    refine tt_aload_n (j := 0) dX7_operate_134 rfl ?_
    refine tt_lconst (v := 0) dX7_operate_135 rfl ?_
    refine tt_aload_n (j := 2) dX7_operate_136 rfl ?_
    refine gt_Vv (As := [.long 0, .ref o2]) dX7_operate_137 ca_X7_75 ⟨by decide, by decide⟩ h0 hA rfl (Nat.le_of_ble_eq_true rfl) (Nat.le_of_ble_eq_true rfl) (by decide) (cz_X7_subtractFrom hG (oa_af h0 hA) (oa_af h2 hA) hR (fun _ _ _ _ h => h)) rfl (fun _ h => nomatch h) (fun S202 hx206 hG203 hB204 hA205 => ?_)
    obtain ⟨d207, hd208⟩ : ∃ q, Z_X7_subtractFrom R (sg S) o0 (0) o2 = q := ⟨_, rfl⟩
    have hq209 := (congrArg (fun q9 => Z_X7_subtractFrom R q9 o0 (0) o2) (show sg S = (sg S) from rfl)).trans hd208
    have hs210 := hx206.trans hq209
    refine tt_goto (tgt := 215) dX7_operate_140 rfl ?_
    have hF : Z_X7_operate R (sg S) o0 x1 o2 o3 x4 = d207 := by
      subst hd208
      exact zl_X7_operate_10 q101 q111 q121 q131 q141 q151 q161 q171 q181 q191 q201
    exact tt_vreturn dX7_operate_215 rfl (hP _ _ _ _ ⟨hG203, hA205, Or.inl ⟨_, rfl, rfl, Eq.trans hs210 hF.symm, rfl, rfl⟩⟩)
  refine gt_by (c := x1 = 11) (fun q211 => ?_) (fun q211 => ?_)
  · skip
    refine gt_tseqL (off := 87) (tgt := 88) 11 11 dX7_operate_1 sl_Z_X7_operate_1 q211 rfl (by decide) (by decide) rfl rfl ?_
    refine tt_aload_n (j := 0) dX7_operate_88 rfl ?_
    refine tt_aload_n (j := 2) dX7_operate_89 rfl ?_
    refine tt_aload_n (j := 3) dX7_operate_90 rfl ?_
    refine gt_Vv (As := [.ref o2, .ref o3]) dX7_operate_91 ca_X7_61 ⟨by decide, by decide⟩ h0 hA rfl (Nat.le_of_ble_eq_true rfl) (Nat.le_of_ble_eq_true rfl) (by decide) (cz_X7_add hG (oa_af h0 hA) (oa_af h2 hA) (oa_af h3 hA) hR (fun _ _ _ _ h => h)) rfl (fun _ h => nomatch h) (fun S212 hx216 hG213 hB214 hA215 => ?_)
    obtain ⟨d217, hd218⟩ : ∃ q, Z_X7_add R (sg S) o0 o2 o3 = q := ⟨_, rfl⟩
    have hq219 := (congrArg (fun q9 => Z_X7_add R q9 o0 o2 o3) (show sg S = (sg S) from rfl)).trans hd218
    have hs220 := hx216.trans hq219
    refine tt_goto (tgt := 215) dX7_operate_94 rfl ?_
    have hF : Z_X7_operate R (sg S) o0 x1 o2 o3 x4 = d217 := by
      subst hd218
      exact zl_X7_operate_11 q101 q111 q121 q131 q141 q151 q161 q171 q181 q191 q201 q211
    exact tt_vreturn dX7_operate_215 rfl (hP _ _ _ _ ⟨hG213, hA215, Or.inl ⟨_, rfl, rfl, Eq.trans hs220 hF.symm, rfl, rfl⟩⟩)
  refine gt_by (c := x1 = 12) (fun q221 => ?_) (fun q221 => ?_)
  · skip
    refine gt_tseqL (off := 96) (tgt := 97) 12 12 dX7_operate_1 sl_Z_X7_operate_1 q221 rfl (by decide) (by decide) rfl rfl ?_
    refine tt_aload_n (j := 0) dX7_operate_97 rfl ?_
    refine tt_aload_n (j := 2) dX7_operate_98 rfl ?_
    refine tt_aload_n (j := 3) dX7_operate_99 rfl ?_
    refine gt_Vv (As := [.ref o2, .ref o3]) dX7_operate_100 ca_X7_65 ⟨by decide, by decide⟩ h0 hA rfl (Nat.le_of_ble_eq_true rfl) (Nat.le_of_ble_eq_true rfl) (by decide) (cz_X7_subtract hG (oa_af h0 hA) (oa_af h2 hA) (oa_af h3 hA) hR (fun _ _ _ _ h => h)) rfl (fun _ h => nomatch h) (fun S222 hx226 hG223 hB224 hA225 => ?_)
    obtain ⟨d227, hd228⟩ : ∃ q, Z_X7_subtract R (sg S) o0 o2 o3 = q := ⟨_, rfl⟩
    have hq229 := (congrArg (fun q9 => Z_X7_subtract R q9 o0 o2 o3) (show sg S = (sg S) from rfl)).trans hd228
    have hs230 := hx226.trans hq229
    refine tt_goto (tgt := 215) dX7_operate_103 rfl ?_
    have hF : Z_X7_operate R (sg S) o0 x1 o2 o3 x4 = d227 := by
      subst hd228
      exact zl_X7_operate_12 q101 q111 q121 q131 q141 q151 q161 q171 q181 q191 q201 q211 q221
    exact tt_vreturn dX7_operate_215 rfl (hP _ _ _ _ ⟨hG223, hA225, Or.inl ⟨_, rfl, rfl, Eq.trans hs230 hF.symm, rfl, rfl⟩⟩)
  refine gt_by (c := x1 = 13) (fun q231 => ?_) (fun q231 => ?_)
  · skip
    refine gt_tseqL (off := 209) (tgt := 210) 13 13 dX7_operate_1 sl_Z_X7_operate_1 q231 rfl (by decide) (by decide) rfl rfl ?_
    refine tt_aload_n (j := 0) dX7_operate_210 rfl ?_
    refine tt_aload_n (j := 3) dX7_operate_211 rfl ?_
    refine gt_Vv (As := [.ref o3]) dX7_operate_212 ca_X7_89 ⟨by decide, by decide⟩ h0 hA rfl (Nat.le_of_ble_eq_true rfl) (Nat.le_of_ble_eq_true rfl) (by decide) (cz_X7_copyFrom hG (oa_af h0 hA) (oa_af h3 hA) hR (fun _ _ _ _ h => h)) rfl (fun _ h => nomatch h) (fun S232 hx236 hG233 hB234 hA235 => ?_)
    obtain ⟨d237, hd238⟩ : ∃ q, Z_X7_copyFrom R (sg S) o0 o3 = q := ⟨_, rfl⟩
    have hq239 := (congrArg (fun q9 => Z_X7_copyFrom R q9 o0 o3) (show sg S = (sg S) from rfl)).trans hd238
    have hs240 := hx236.trans hq239
    have hF : Z_X7_operate R (sg S) o0 x1 o2 o3 x4 = d237 := by
      subst hd238
      exact zl_X7_operate_13 q101 q111 q121 q131 q141 q151 q161 q171 q181 q191 q201 q211 q221 q231
    exact tt_vreturn dX7_operate_215 rfl (hP _ _ _ _ ⟨hG233, hA235, Or.inl ⟨_, rfl, rfl, Eq.trans hs240 hF.symm, rfl, rfl⟩⟩)
  refine gt_by (c := x1 = 14) (fun q241 => ?_) (fun q241 => ?_)
  · skip
    refine gt_tseqL (off := 153) (tgt := 154) 14 14 dX7_operate_1 sl_Z_X7_operate_1 q241 rfl (by decide) (by decide) rfl rfl ?_
    refine tt_aload_n (j := 0) dX7_operate_154 rfl ?_
    refine tt_aload_n (j := 2) dX7_operate_155 rfl ?_
    refine tt_aload_n (j := 3) dX7_operate_156 rfl ?_
    refine gt_Vv (As := [.ref o2, .ref o3]) dX7_operate_157 ca_X7_79 ⟨by decide, by decide⟩ h0 hA rfl (Nat.le_of_ble_eq_true rfl) (Nat.le_of_ble_eq_true rfl) (by decide) (cz_X7_multiply hG (oa_af h0 hA) (oa_af h2 hA) (oa_af h3 hA) hR (fun _ _ _ _ h => h)) rfl (fun _ h => nomatch h) (fun S242 hx246 hG243 hB244 hA245 => ?_)
    obtain ⟨d247, hd248⟩ : ∃ q, Z_X7_multiply R (sg S) o0 o2 o3 = q := ⟨_, rfl⟩
    have hq249 := (congrArg (fun q9 => Z_X7_multiply R q9 o0 o2 o3) (show sg S = (sg S) from rfl)).trans hd248
    have hs250 := hx246.trans hq249
    refine tt_goto (tgt := 215) dX7_operate_160 rfl ?_
    have hF : Z_X7_operate R (sg S) o0 x1 o2 o3 x4 = d247 := by
      subst hd248
      exact zl_X7_operate_14 q101 q111 q121 q131 q141 q151 q161 q171 q181 q191 q201 q211 q221 q231 q241
    exact tt_vreturn dX7_operate_215 rfl (hP _ _ _ _ ⟨hG243, hA245, Or.inl ⟨_, rfl, rfl, Eq.trans hs250 hF.symm, rfl, rfl⟩⟩)
  refine gt_by (c := x1 = 15) (fun q251 => ?_) (fun q251 => ?_)
  · skip
    refine gt_tseqL (off := 172) (tgt := 173) 15 15 dX7_operate_1 sl_Z_X7_operate_1 q251 rfl (by decide) (by decide) rfl rfl ?_
    refine tt_iload (j := 4) dX7_operate_173 rfl ?_
    refine tt_if_eq (tgt := 185) dX7_operate_175 rfl (fun q252 => ?_) (fun q252 => ?_)
    · skip
      have h253 : Rg 0 0 x4 := rg_eq_l (rg_all x4) (⟨by decide, by decide⟩ : Rg 0 0 0) q252
      refine tt_aload_n (j := 0) dX7_operate_185 rfl ?_
      refine tt_aload_n (j := 2) dX7_operate_186 rfl ?_
      refine tt_iload (j := 4) dX7_operate_187 rfl ?_
      refine gt_Vv (As := [.ref o2, .int x4]) dX7_operate_189 ca_X7_82 ⟨by decide, by decide⟩ h0 hA rfl (Nat.le_of_ble_eq_true rfl) (Nat.le_of_ble_eq_true rfl) (by decide) (cz_X7_shiftRight hG (oa_af h0 hA) (oa_af h2 hA) hR (fun _ _ _ _ h => h)) rfl (fun _ h => nomatch h) (fun S254 hx258 hG255 hB256 hA257 => ?_)
      obtain ⟨d259, hd260⟩ : ∃ q, Z_X7_shiftRight R (sg S) o0 o2 (x4) = q := ⟨_, rfl⟩
      have hq261 := (congrArg (fun q9 => Z_X7_shiftRight R q9 o0 o2 (x4)) (show sg S = (sg S) from rfl)).trans hd260
      have hs262 := hx258.trans hq261
      refine tt_goto (tgt := 215) dX7_operate_192 rfl ?_
      have hF : Z_X7_operate R (sg S) o0 x1 o2 o3 x4 = d259 := by
        subst hd260
        exact zl_X7_operate_15 q101 q111 q121 q131 q141 q151 q161 q171 q181 q191 q201 q211 q221 q231 q241 q251 q252
      exact tt_vreturn dX7_operate_215 rfl (hP _ _ _ _ ⟨hG255, hA257, Or.inl ⟨_, rfl, rfl, Eq.trans hs262 hF.symm, rfl, rfl⟩⟩)
    · skip
      refine tt_aload_n (j := 2) dX7_operate_178 rfl ?_
      refine gt_VIp (As := []) dX7_operate_179 ca_X7_86 ⟨by decide, by decide⟩ h2 hA rfl (Nat.le_of_ble_eq_true rfl) (Nat.le_of_ble_eq_true rfl) (by decide) (cz_X7_isNatural hG (oa_af h2 hA) hR (fun _ _ _ _ h => h)) rfl (fun _ h => nomatch h) (fun _ _ q => q.1) (fun x263 h264 hx265 => ?_)
      obtain rfl : Z_X7_isNatural R (sg S) o2 = x263 := ((ei_w hx265.2).trans (congrArg (fun q9 => Z_X7_isNatural R q9 o2) (show sg S = (sg S) from rfl))).symm
      refine tt_if_eq (tgt := 195) dX7_operate_182 rfl (fun q266 => ?_) (fun q266 => ?_)
      · skip
        have h267 : Rg 0 0 (Z_X7_isNatural R (sg S) o2) := rg_eq_l h264 (⟨by decide, by decide⟩ : Rg 0 0 0) q266
        refine tt_aload_n (j := 0) dX7_operate_195 rfl ?_
        refine tt_lconst (v := 0) dX7_operate_196 rfl ?_
        refine tt_ldc2 (v := (-1)) dX7_operate_197 kl_7_19 ?_
        refine tt_iload (j := 4) dX7_operate_200 rfl ?_
        refine tt_lushr dX7_operate_202 ?_
        refine tt_lconst (v := 1) dX7_operate_203 rfl ?_
        refine gt_Vv (As := [.long 0, .long ((((-1) : Int64).toUInt64 >>> ((x4 : Int32).toInt64.toUInt64 &&& Int64.toUInt64 63)).toInt64), .long 1]) dX7_operate_204 ca_X7_48 ⟨by decide, by decide⟩ h0 hA rfl (Nat.le_of_ble_eq_true rfl) (Nat.le_of_ble_eq_true rfl) (by decide) (cz_X7_become hG (oa_af h0 hA) hR (fun _ _ _ _ h => h)) rfl (fun _ h => nomatch h) (fun S268 hx272 hG269 hB270 hA271 => ?_)
        obtain ⟨d273, hd274⟩ : ∃ q, Z_X7_become R (sg S) o0 (0) (((((-1) : Int64).toUInt64 >>> ((x4 : Int32).toInt64.toUInt64 &&& Int64.toUInt64 63)).toInt64)) (1) = q := ⟨_, rfl⟩
        have hq275 := (congrArg (fun q9 => Z_X7_become R q9 o0 (0) (((((-1) : Int64).toUInt64 >>> ((x4 : Int32).toInt64.toUInt64 &&& Int64.toUInt64 63)).toInt64)) (1)) (show sg S = (sg S) from rfl)).trans hd274
        have hs276 := hx272.trans hq275
        refine tt_goto (tgt := 215) dX7_operate_207 rfl ?_
        have hF : Z_X7_operate R (sg S) o0 x1 o2 o3 x4 = d273 := by
          subst hd274
          exact zl_X7_operate_16 q101 q111 q121 q131 q141 q151 q161 q171 q181 q191 q201 q211 q221 q231 q241 q251 q252 q266
        exact tt_vreturn dX7_operate_215 rfl (hP _ _ _ _ ⟨hG269, hA271, Or.inl ⟨_, rfl, rfl, Eq.trans hs276 hF.symm, rfl, rfl⟩⟩)
      · skip
        have h277 : Rg 1 1 (Z_X7_isNatural R (sg S) o2) := rg_ne_lo h264 (⟨by decide, by decide⟩ : Rg 0 0 0) q266
        refine tt_aload_n (j := 0) dX7_operate_185 rfl ?_
        refine tt_aload_n (j := 2) dX7_operate_186 rfl ?_
        refine tt_iload (j := 4) dX7_operate_187 rfl ?_
        refine gt_Vv (As := [.ref o2, .int x4]) dX7_operate_189 ca_X7_82 ⟨by decide, by decide⟩ h0 hA rfl (Nat.le_of_ble_eq_true rfl) (Nat.le_of_ble_eq_true rfl) (by decide) (cz_X7_shiftRight hG (oa_af h0 hA) (oa_af h2 hA) hR (fun _ _ _ _ h => h)) rfl (fun _ h => nomatch h) (fun S278 hx282 hG279 hB280 hA281 => ?_)
        obtain ⟨d283, hd284⟩ : ∃ q, Z_X7_shiftRight R (sg S) o0 o2 (x4) = q := ⟨_, rfl⟩
        have hq285 := (congrArg (fun q9 => Z_X7_shiftRight R q9 o0 o2 (x4)) (show sg S = (sg S) from rfl)).trans hd284
        have hs286 := hx282.trans hq285
        refine tt_goto (tgt := 215) dX7_operate_192 rfl ?_
        have hF : Z_X7_operate R (sg S) o0 x1 o2 o3 x4 = d283 := by
          subst hd284
          exact zl_X7_operate_17 q101 q111 q121 q131 q141 q151 q161 q171 q181 q191 q201 q211 q221 q231 q241 q251 q252 q266
        exact tt_vreturn dX7_operate_215 rfl (hP _ _ _ _ ⟨hG279, hA281, Or.inl ⟨_, rfl, rfl, Eq.trans hs286 hF.symm, rfl, rfl⟩⟩)
  refine gt_by (c := x1 = 16) (fun q287 => ?_) (fun q287 => ?_)
  · skip
    refine gt_tseqL (off := 162) (tgt := 163) 16 16 dX7_operate_1 sl_Z_X7_operate_1 q287 rfl (by decide) (by decide) rfl rfl ?_
    refine tt_aload_n (j := 0) dX7_operate_163 rfl ?_
    refine tt_aload_n (j := 2) dX7_operate_164 rfl ?_
    refine tt_iload (j := 4) dX7_operate_165 rfl ?_
    refine gt_Vv (As := [.ref o2, .int x4]) dX7_operate_167 ca_X7_82 ⟨by decide, by decide⟩ h0 hA rfl (Nat.le_of_ble_eq_true rfl) (Nat.le_of_ble_eq_true rfl) (by decide) (cz_X7_shiftRight hG (oa_af h0 hA) (oa_af h2 hA) hR (fun _ _ _ _ h => h)) rfl (fun _ h => nomatch h) (fun S288 hx292 hG289 hB290 hA291 => ?_)
    obtain ⟨d293, hd294⟩ : ∃ q, Z_X7_shiftRight R (sg S) o0 o2 (x4) = q := ⟨_, rfl⟩
    have hq295 := (congrArg (fun q9 => Z_X7_shiftRight R q9 o0 o2 (x4)) (show sg S = (sg S) from rfl)).trans hd294
    have hs296 := hx292.trans hq295
    refine tt_goto (tgt := 215) dX7_operate_170 rfl ?_
    have hF : Z_X7_operate R (sg S) o0 x1 o2 o3 x4 = d293 := by
      subst hd294
      exact zl_X7_operate_18 q101 q111 q121 q131 q141 q151 q161 q171 q181 q191 q201 q211 q221 q231 q241 q251 q287
    exact tt_vreturn dX7_operate_215 rfl (hP _ _ _ _ ⟨hG289, hA291, Or.inl ⟨_, rfl, rfl, Eq.trans hs296 hF.symm, rfl, rfl⟩⟩)
  refine gt_by (c := x1 = 17) (fun q297 => ?_) (fun q297 => ?_)
  · skip
    refine gt_tseqL (off := 153) (tgt := 154) 17 17 dX7_operate_1 sl_Z_X7_operate_1 q297 rfl (by decide) (by decide) rfl rfl ?_
    refine tt_aload_n (j := 0) dX7_operate_154 rfl ?_
    refine tt_aload_n (j := 2) dX7_operate_155 rfl ?_
    refine tt_aload_n (j := 3) dX7_operate_156 rfl ?_
    refine gt_Vv (As := [.ref o2, .ref o3]) dX7_operate_157 ca_X7_79 ⟨by decide, by decide⟩ h0 hA rfl (Nat.le_of_ble_eq_true rfl) (Nat.le_of_ble_eq_true rfl) (by decide) (cz_X7_multiply hG (oa_af h0 hA) (oa_af h2 hA) (oa_af h3 hA) hR (fun _ _ _ _ h => h)) rfl (fun _ h => nomatch h) (fun S298 hx302 hG299 hB300 hA301 => ?_)
    obtain ⟨d303, hd304⟩ : ∃ q, Z_X7_multiply R (sg S) o0 o2 o3 = q := ⟨_, rfl⟩
    have hq305 := (congrArg (fun q9 => Z_X7_multiply R q9 o0 o2 o3) (show sg S = (sg S) from rfl)).trans hd304
    have hs306 := hx302.trans hq305
    refine tt_goto (tgt := 215) dX7_operate_160 rfl ?_
    have hF : Z_X7_operate R (sg S) o0 x1 o2 o3 x4 = d303 := by
      subst hd304
      exact zl_X7_operate_19 q101 q111 q121 q131 q141 q151 q161 q171 q181 q191 q201 q211 q221 q231 q241 q251 q287 q297
    exact tt_vreturn dX7_operate_215 rfl (hP _ _ _ _ ⟨hG299, hA301, Or.inl ⟨_, rfl, rfl, Eq.trans hs306 hF.symm, rfl, rfl⟩⟩)
  have g307 := ne_i (k := 0) 0 q101 rfl
  have g308 := ne_i (k := 1) 1 q111 rfl
  have g309 := ne_i (k := 2) 2 q121 rfl
  have g310 := ne_i (k := 3) 3 q131 rfl
  have g311 := ne_i (k := 4) 4 q141 rfl
  have g312 := ne_i (k := 5) 5 q151 rfl
  have g313 := ne_i (k := 6) 6 q161 rfl
  have g314 := ne_i (k := 7) 7 q171 rfl
  have g315 := ne_i (k := 8) 8 q181 rfl
  have g316 := ne_i (k := 9) 9 q191 rfl
  have g317 := ne_i (k := 10) 10 q201 rfl
  have g318 := ne_i (k := 11) 11 q211 rfl
  have g319 := ne_i (k := 12) 12 q221 rfl
  have g320 := ne_i (k := 13) 13 q231 rfl
  have g321 := ne_i (k := 14) 14 q241 rfl
  have g322 := ne_i (k := 15) 15 q251 rfl
  have g323 := ne_i (k := 16) 16 q287 rfl
  have g324 := ne_i (k := 17) 17 q297 rfl
  refine tt_tableOut (tgt := 210) dX7_operate_1 (by omega) rfl ?_
  refine tt_aload_n (j := 0) dX7_operate_210 rfl ?_
  refine tt_aload_n (j := 3) dX7_operate_211 rfl ?_
  refine gt_Vv (As := [.ref o3]) dX7_operate_212 ca_X7_89 ⟨by decide, by decide⟩ h0 hA rfl (Nat.le_of_ble_eq_true rfl) (Nat.le_of_ble_eq_true rfl) (by decide) (cz_X7_copyFrom hG (oa_af h0 hA) (oa_af h3 hA) hR (fun _ _ _ _ h => h)) rfl (fun _ h => nomatch h) (fun S325 hx329 hG326 hB327 hA328 => ?_)
  obtain ⟨d330, hd331⟩ : ∃ q, Z_X7_copyFrom R (sg S) o0 o3 = q := ⟨_, rfl⟩
  have hq332 := (congrArg (fun q9 => Z_X7_copyFrom R q9 o0 o3) (show sg S = (sg S) from rfl)).trans hd331
  have hs333 := hx329.trans hq332
  have hF : Z_X7_operate R (sg S) o0 x1 o2 o3 x4 = d330 := by
    subst hd331
    exact zl_X7_operate_20 q101 q111 q121 q131 q141 q151 q161 q171 q181 q191 q201 q211 q221 q231 q241 q251 q287 q297
  exact tt_vreturn dX7_operate_215 rfl (hP _ _ _ _ ⟨hG326, hA328, Or.inl ⟨_, rfl, rfl, Eq.trans hs333 hF.symm, rfl, rfl⟩⟩)
def Z_X8_keep (R : Nat → Nat → Nat) (σ : SG) (o0 : Nat) (x1 : Int32) (y2 : Int64) (y4 : Int64) (y6 : Int64) : SG :=
  if (Z_X9_isLocation (x1)) = 0 then
    σ
  else
    (uj (uj (uj σ (R 512 o0) (x1 : Int32).toNatClampNeg y2) (R 513 o0) (x1 : Int32).toNatClampNeg y4) (R 514 o0) (x1 : Int32).toNatClampNeg y6)
theorem zl_X8_keep_0 {R : Nat → Nat → Nat} {σ : SG} {o0 : Nat} {x1 : Int32} {y2 : Int64} {y4 : Int64} {y6 : Int64} (h0 : (Z_X9_isLocation (x1)) = 0) : Z_X8_keep R σ o0 x1 y2 y4 y6 = σ := by unfold Z_X8_keep; exact if_pos h0
theorem zl_X8_keep_1 {R : Nat → Nat → Nat} {σ : SG} {o0 : Nat} {x1 : Int32} {y2 : Int64} {y4 : Int64} {y6 : Int64} (h0 : ¬ (Z_X9_isLocation (x1)) = 0) : Z_X8_keep R σ o0 x1 y2 y4 y6 = (uj (uj (uj σ (R 512 o0) (x1 : Int32).toNatClampNeg y2) (R 513 o0) (x1 : Int32).toNatClampNeg y4) (R 514 o0) (x1 : Int32).toNatClampNeg y6) := by unfold Z_X8_keep; exact if_neg h0
set_option maxHeartbeats 40000000 in
theorem cz_X8_keep {xi : SX} {S : Hp} {E : List Nat} {kc nc : Nat} {P : Po} {o0 : Nat} {x1 : Int32} {y2 : Int64} {y4 : Int64} {y6 : Int64} {R : Nat → Nat → Nat} (hG : GI S E) (h0 : Oa S E 8 0 o0) (hR : RK S R) (hP : ∀ r T x y, PV E [9994] S kc nc rV (fun v T => sg T = Z_X8_keep R (sg S) o0 x1 y2 y4 y6) [] r T x y → P r T x y) : TT xi M_X8_keep 0 [(0, .ref o0), (1, .int x1), (2, .long y2), (4, .long y4), (6, .long y6)] [] S kc nc P := by
  have hA : Af E [9994] S S := af_rf
  refine tt_iload_n (j := 1) dX8_keep_0 rfl ?_
  refine gt_SNIp (As := [.int x1]) dX8_keep_1 ca_X8_35 ⟨by decide, by decide⟩ hA (Nat.le_of_ble_eq_true rfl) (Nat.le_of_ble_eq_true rfl) (by decide) (cz_X9_isLocation hG  (fun _ _ _ _ h => h)) (fun _ _ q => q.1) (fun x101 h102 hx103 => ?_)
  obtain rfl : Z_X9_isLocation (x1) = x101 := ((ei_w hx103.2).trans rfl).symm
  refine tt_if_eq (tgt := 30) dX8_keep_4 rfl (fun q104 => ?_) (fun q104 => ?_)
  · skip
    have h105 : Rg 0 0 (Z_X9_isLocation (x1)) := rg_eq_l h102 (⟨by decide, by decide⟩ : Rg 0 0 0) q104
    have hF : Z_X8_keep R (sg S) o0 x1 y2 y4 y6 = (sg S) := by
      exact zl_X8_keep_0 q104
    exact tt_vreturn dX8_keep_30 rfl (hP _ _ _ _ ⟨hG, hA, Or.inl ⟨_, rfl, rfl, Eq.trans (show sg S = (sg S) from rfl) hF.symm, rfl, rfl⟩⟩)
  · skip
    have h106 : Rg 0 23 x1 := il_z q104
    refine tt_aload_n (j := 0) dX8_keep_7 rfl ?_
    have hr107 := rk_R (k := 512) hR h0 33 24
    have ho108 := rk_O (k := 512) hG hR h0 33 24
    refine gt_gR (id := 512) dX8_keep_8 fl_8_9 rfl rfl h0 hA hr107 ?_
    refine tt_iload_n (j := 1) dX8_keep_11 rfl ?_
    refine tt_lload_n (j := 2) dX8_keep_12 rfl ?_
    refine gx_lS dX8_keep_13 ho108 hA (rg_in h106) hG (Or.inl (by decide)) (Or.inr (ow_mk 9994 (k := 512) h0 hr107)) (show sg S = (sg S) from rfl) (fun S109 hG110 hA111 e112 => ?_)
    refine tt_aload_n (j := 0) dX8_keep_14 rfl ?_
    have hr113 := rk_R (k := 513) hR h0 33 24
    have ho114 := rk_O (k := 513) hG hR h0 33 24
    refine gt_gR (id := 513) dX8_keep_15 fl_8_15 rfl rfl h0 hA111 hr113 ?_
    refine tt_iload_n (j := 1) dX8_keep_18 rfl ?_
    refine tt_lload (j := 3) dX8_keep_19 rfl ?_
    refine gx_lS dX8_keep_21 ho114 hA111 (rg_in h106) hG110 (Or.inl (by decide)) (Or.inr (ow_mk 9994 (k := 513) h0 hr113)) e112 (fun S115 hG116 hA117 e118 => ?_)
    refine tt_aload_n (j := 0) dX8_keep_22 rfl ?_
    have hr119 := rk_R (k := 514) hR h0 33 24
    have ho120 := rk_O (k := 514) hG hR h0 33 24
    refine gt_gR (id := 514) dX8_keep_23 fl_8_18 rfl rfl h0 hA117 hr119 ?_
    refine tt_iload_n (j := 1) dX8_keep_26 rfl ?_
    refine tt_lload (j := 4) dX8_keep_27 rfl ?_
    refine gx_lS dX8_keep_29 ho120 hA117 (rg_in h106) hG116 (Or.inl (by decide)) (Or.inr (ow_mk 9994 (k := 514) h0 hr119)) e118 (fun S121 hG122 hA123 e124 => ?_)
    have hF : Z_X8_keep R (sg S) o0 x1 y2 y4 y6 = (uj (uj (uj (sg S) (R 512 o0) (x1 : Int32).toNatClampNeg y2) (R 513 o0) (x1 : Int32).toNatClampNeg y4) (R 514 o0) (x1 : Int32).toNatClampNeg y6) := by
      exact zl_X8_keep_1 q104
    exact tt_vreturn dX8_keep_30 rfl (hP _ _ _ _ ⟨hG122, hA123, Or.inl ⟨_, rfl, rfl, Eq.trans e124 hF.symm, rfl, rfl⟩⟩)
def Z_X8_store (R : Nat → Nat → Nat) (σ : SG) (o0 : Nat) (x1 : Int32) (o2 : Nat) : SG :=
  let d106 := Z_X8_keep R σ o0 (x1) ((mJ σ 448 o2)) ((mJ σ 449 o2)) ((mJ σ 450 o2))
  d106
theorem zl_X8_store_0 {R : Nat → Nat → Nat} {σ : SG} {o0 : Nat} {x1 : Int32} {o2 : Nat}  : Z_X8_store R σ o0 x1 o2 = (Z_X8_keep R σ o0 (x1) ((mJ σ 448 o2)) ((mJ σ 449 o2)) ((mJ σ 450 o2))) := rfl
set_option maxHeartbeats 40000000 in
theorem cz_X8_store {xi : SX} {S : Hp} {E : List Nat} {kc nc : Nat} {P : Po} {o0 : Nat} {x1 : Int32} {o2 : Nat} {R : Nat → Nat → Nat} (hG : GI S E) (h0 : Oa S E 8 0 o0) (h2 : Oa S E 7 0 o2) (hR : RK S R) (hP : ∀ r T x y, PV E [9994] S kc nc rV (fun v T => sg T = Z_X8_store R (sg S) o0 x1 o2) [] r T x y → P r T x y) : TT xi M_X8_store 0 [(0, .ref o0), (1, .int x1), (2, .ref o2)] [] S kc nc P := by
  have hA : Af E [9994] S S := af_rf
  refine tt_aload_n (j := 0) dX8_store_0 rfl ?_
  refine tt_iload_n (j := 1) dX8_store_1 rfl ?_
  refine tt_aload_n (j := 2) dX8_store_2 rfl ?_
  refine gt_gJ (id := 448) (v := (mJ (sg S) 448 o2)) dX8_store_3 fl_8_39 rfl rfl h2 hA (sg_J (k := 448) (o := o2) (show sg S = (sg S) from rfl)) ?_
  refine tt_aload_n (j := 2) dX8_store_6 rfl ?_
  refine gt_gJ (id := 449) (v := (mJ (sg S) 449 o2)) dX8_store_7 fl_8_43 rfl rfl h2 hA (sg_J (k := 449) (o := o2) (show sg S = (sg S) from rfl)) ?_
  refine tt_aload_n (j := 2) dX8_store_10 rfl ?_
  refine gt_gJ (id := 450) (v := (mJ (sg S) 450 o2)) dX8_store_11 fl_8_46 rfl rfl h2 hA (sg_J (k := 450) (o := o2) (show sg S = (sg S) from rfl)) ?_
  refine gt_Vv (As := [.int x1, .long (mJ (sg S) 448 o2), .long (mJ (sg S) 449 o2), .long (mJ (sg S) 450 o2)]) dX8_store_14 ca_X8_49 ⟨by decide, by decide⟩ h0 hA rfl (Nat.le_of_ble_eq_true rfl) (Nat.le_of_ble_eq_true rfl) (by decide) (cz_X8_keep hG (oa_af h0 hA) hR (fun _ _ _ _ h => h)) rfl (fun _ h => nomatch h) (fun S101 hx105 hG102 hB103 hA104 => ?_)
  obtain ⟨d106, hd107⟩ : ∃ q, Z_X8_keep R (sg S) o0 (x1) ((mJ (sg S) 448 o2)) ((mJ (sg S) 449 o2)) ((mJ (sg S) 450 o2)) = q := ⟨_, rfl⟩
  have hq108 := (congrArg (fun q9 => Z_X8_keep R q9 o0 (x1) ((mJ (sg S) 448 o2)) ((mJ (sg S) 449 o2)) ((mJ (sg S) 450 o2))) (show sg S = (sg S) from rfl)).trans hd107
  have hs109 := hx105.trans hq108
  have hF : Z_X8_store R (sg S) o0 x1 o2 = d106 := by
    subst hd107
    rfl
  exact tt_vreturn dX8_store_17 rfl (hP _ _ _ _ ⟨hG102, hA104, Or.inl ⟨_, rfl, rfl, Eq.trans hs109 hF.symm, rfl, rfl⟩⟩)
def Z_X8_load (R : Nat → Nat → Nat) (σ : SG) (o0 : Nat) (x1 : Int32) (o2 : Nat) : SG :=
  if (Z_X9_isLocation (x1)) = 0 then
    let d111 := Z_X7_becomeAny R σ o2
    d111
  else
    (uJ (uJ (uJ σ 448 o2 (mj σ (R 512 o0) (x1 : Int32).toNatClampNeg)) 449 o2 (mj (uJ σ 448 o2 (mj σ (R 512 o0) (x1 : Int32).toNatClampNeg)) (R 513 o0) (x1 : Int32).toNatClampNeg)) 450 o2 (mj (uJ (uJ σ 448 o2 (mj σ (R 512 o0) (x1 : Int32).toNatClampNeg)) 449 o2 (mj (uJ σ 448 o2 (mj σ (R 512 o0) (x1 : Int32).toNatClampNeg)) (R 513 o0) (x1 : Int32).toNatClampNeg)) (R 514 o0) (x1 : Int32).toNatClampNeg))
theorem zl_X8_load_0 {R : Nat → Nat → Nat} {σ : SG} {o0 : Nat} {x1 : Int32} {o2 : Nat} (h0 : (Z_X9_isLocation (x1)) = 0) : Z_X8_load R σ o0 x1 o2 = (Z_X7_becomeAny R σ o2) := by unfold Z_X8_load; exact if_pos h0
theorem zl_X8_load_1 {R : Nat → Nat → Nat} {σ : SG} {o0 : Nat} {x1 : Int32} {o2 : Nat} (h0 : ¬ (Z_X9_isLocation (x1)) = 0) : Z_X8_load R σ o0 x1 o2 = (uJ (uJ (uJ σ 448 o2 (mj σ (R 512 o0) (x1 : Int32).toNatClampNeg)) 449 o2 (mj (uJ σ 448 o2 (mj σ (R 512 o0) (x1 : Int32).toNatClampNeg)) (R 513 o0) (x1 : Int32).toNatClampNeg)) 450 o2 (mj (uJ (uJ σ 448 o2 (mj σ (R 512 o0) (x1 : Int32).toNatClampNeg)) 449 o2 (mj (uJ σ 448 o2 (mj σ (R 512 o0) (x1 : Int32).toNatClampNeg)) (R 513 o0) (x1 : Int32).toNatClampNeg)) (R 514 o0) (x1 : Int32).toNatClampNeg)) := by unfold Z_X8_load; exact if_neg h0
set_option maxHeartbeats 40000000 in
theorem cz_X8_load {xi : SX} {S : Hp} {E : List Nat} {kc nc : Nat} {P : Po} {o0 : Nat} {x1 : Int32} {o2 : Nat} {R : Nat → Nat → Nat} (hG : GI S E) (h0 : Oa S E 8 0 o0) (h2 : Oa S E 7 0 o2) (hR : RK S R) (hP : ∀ r T x y, PV E [9987] S kc nc rV (fun v T => sg T = Z_X8_load R (sg S) o0 x1 o2) [] r T x y → P r T x y) : TT xi M_X8_load 0 [(0, .ref o0), (1, .int x1), (2, .ref o2)] [] S kc nc P := by
  have hA : Af E [9987] S S := af_rf
  refine tt_iload_n (j := 1) dX8_load_0 rfl ?_
  refine gt_SNIp (As := [.int x1]) dX8_load_1 ca_X8_35 ⟨by decide, by decide⟩ hA (Nat.le_of_ble_eq_true rfl) (Nat.le_of_ble_eq_true rfl) (by decide) (cz_X9_isLocation hG  (fun _ _ _ _ h => h)) (fun _ _ q => q.1) (fun x101 h102 hx103 => ?_)
  obtain rfl : Z_X9_isLocation (x1) = x101 := ((ei_w hx103.2).trans rfl).symm
  refine tt_if_eq (tgt := 40) dX8_load_4 rfl (fun q104 => ?_) (fun q104 => ?_)
  · skip
    have h105 : Rg 0 0 (Z_X9_isLocation (x1)) := rg_eq_l h102 (⟨by decide, by decide⟩ : Rg 0 0 0) q104
    refine tt_aload_n (j := 2) dX8_load_40 rfl ?_
    refine gt_Vv (As := []) dX8_load_41 ca_X8_53 ⟨by decide, by decide⟩ h2 hA rfl (Nat.le_of_ble_eq_true rfl) (Nat.le_of_ble_eq_true rfl) (by decide) (cz_X7_becomeAny hG (oa_af h2 hA) hR (fun _ _ _ _ h => h)) rfl (fun _ h => nomatch h) (fun S106 hx110 hG107 hB108 hA109 => ?_)
    obtain ⟨d111, hd112⟩ : ∃ q, Z_X7_becomeAny R (sg S) o2 = q := ⟨_, rfl⟩
    have hq113 := (congrArg (fun q9 => Z_X7_becomeAny R q9 o2) (show sg S = (sg S) from rfl)).trans hd112
    have hs114 := hx110.trans hq113
    have hF : Z_X8_load R (sg S) o0 x1 o2 = d111 := by
      subst hd112
      exact zl_X8_load_0 q104
    exact tt_vreturn dX8_load_44 rfl (hP _ _ _ _ ⟨hG107, hA109, Or.inl ⟨_, rfl, rfl, Eq.trans hs114 hF.symm, rfl, rfl⟩⟩)
  · skip
    have h115 : Rg 0 23 x1 := il_z q104
    refine tt_aload_n (j := 2) dX8_load_7 rfl ?_
    refine tt_aload_n (j := 0) dX8_load_8 rfl ?_
    have hr116 := rk_R (k := 512) hR h0 33 24
    have ho117 := rk_O (k := 512) hG hR h0 33 24
    refine gt_gR (id := 512) dX8_load_9 fl_8_9 rfl rfl h0 hA hr116 ?_
    refine tt_iload_n (j := 1) dX8_load_12 rfl ?_
    refine gt_lLv (v := (mj (sg S) (R 512 o0) (x1 : Int32).toNatClampNeg)) dX8_load_13 ho117 hA (rg_in h115) (sg_j (a := (R 512 o0)) (i := (x1 : Int32).toNatClampNeg) (show sg S = (sg S) from rfl)) ?_
    refine gx_pJ (id := 448) (x := (mj (sg S) (R 512 o0) (x1 : Int32).toNatClampNeg)) dX8_load_14 fl_8_39 rfl rfl h2 hA rfl rfl rfl hG (show sg S = (sg S) from rfl) (fun S118 hG119 hA120 e121 => ?_)
    refine tt_aload_n (j := 2) dX8_load_17 rfl ?_
    refine tt_aload_n (j := 0) dX8_load_18 rfl ?_
    have hr122 := rk_R (k := 513) hR h0 33 24
    have ho123 := rk_O (k := 513) hG hR h0 33 24
    refine gt_gR (id := 513) dX8_load_19 fl_8_15 rfl rfl h0 hA120 hr122 ?_
    refine tt_iload_n (j := 1) dX8_load_22 rfl ?_
    refine gt_lLv (v := (mj (uJ (sg S) 448 o2 (mj (sg S) (R 512 o0) (x1 : Int32).toNatClampNeg)) (R 513 o0) (x1 : Int32).toNatClampNeg)) dX8_load_23 ho123 hA120 (rg_in h115) (sg_j (a := (R 513 o0)) (i := (x1 : Int32).toNatClampNeg) e121) ?_
    refine gx_pJ (id := 449) (x := (mj (uJ (sg S) 448 o2 (mj (sg S) (R 512 o0) (x1 : Int32).toNatClampNeg)) (R 513 o0) (x1 : Int32).toNatClampNeg)) dX8_load_24 fl_8_43 rfl rfl h2 hA120 rfl rfl rfl hG119 e121 (fun S124 hG125 hA126 e127 => ?_)
    refine tt_aload_n (j := 2) dX8_load_27 rfl ?_
    refine tt_aload_n (j := 0) dX8_load_28 rfl ?_
    have hr128 := rk_R (k := 514) hR h0 33 24
    have ho129 := rk_O (k := 514) hG hR h0 33 24
    refine gt_gR (id := 514) dX8_load_29 fl_8_18 rfl rfl h0 hA126 hr128 ?_
    refine tt_iload_n (j := 1) dX8_load_32 rfl ?_
    refine gt_lLv (v := (mj (uJ (uJ (sg S) 448 o2 (mj (sg S) (R 512 o0) (x1 : Int32).toNatClampNeg)) 449 o2 (mj (uJ (sg S) 448 o2 (mj (sg S) (R 512 o0) (x1 : Int32).toNatClampNeg)) (R 513 o0) (x1 : Int32).toNatClampNeg)) (R 514 o0) (x1 : Int32).toNatClampNeg)) dX8_load_33 ho129 hA126 (rg_in h115) (sg_j (a := (R 514 o0)) (i := (x1 : Int32).toNatClampNeg) e127) ?_
    refine gx_pJ (id := 450) (x := (mj (uJ (uJ (sg S) 448 o2 (mj (sg S) (R 512 o0) (x1 : Int32).toNatClampNeg)) 449 o2 (mj (uJ (sg S) 448 o2 (mj (sg S) (R 512 o0) (x1 : Int32).toNatClampNeg)) (R 513 o0) (x1 : Int32).toNatClampNeg)) (R 514 o0) (x1 : Int32).toNatClampNeg)) dX8_load_34 fl_8_46 rfl rfl h2 hA126 rfl rfl rfl hG125 e127 (fun S130 hG131 hA132 e133 => ?_)
    refine tt_goto (tgt := 44) dX8_load_37 rfl ?_
    have hF : Z_X8_load R (sg S) o0 x1 o2 = (uJ (uJ (uJ (sg S) 448 o2 (mj (sg S) (R 512 o0) (x1 : Int32).toNatClampNeg)) 449 o2 (mj (uJ (sg S) 448 o2 (mj (sg S) (R 512 o0) (x1 : Int32).toNatClampNeg)) (R 513 o0) (x1 : Int32).toNatClampNeg)) 450 o2 (mj (uJ (uJ (sg S) 448 o2 (mj (sg S) (R 512 o0) (x1 : Int32).toNatClampNeg)) 449 o2 (mj (uJ (sg S) 448 o2 (mj (sg S) (R 512 o0) (x1 : Int32).toNatClampNeg)) (R 513 o0) (x1 : Int32).toNatClampNeg)) (R 514 o0) (x1 : Int32).toNatClampNeg)) := by
      exact zl_X8_load_1 q104
    exact tt_vreturn dX8_load_44 rfl (hP _ _ _ _ ⟨hG131, hA132, Or.inl ⟨_, rfl, rfl, Eq.trans e133 hF.symm, rfl, rfl⟩⟩)
def Z_X8_setRecord (R : Nat → Nat → Nat) (σ : SG) (o0 : Nat) (x1 : Int32) (x2 : Int32) (x3 : Int32) (y4 : Int64) : SG :=
  (uJ (uI (uI (uI σ 515 o0 x1) 516 o0 x2) 517 o0 x3) 518 o0 y4)
theorem zl_X8_setRecord_0 {R : Nat → Nat → Nat} {σ : SG} {o0 : Nat} {x1 : Int32} {x2 : Int32} {x3 : Int32} {y4 : Int64}  : Z_X8_setRecord R σ o0 x1 x2 x3 y4 = (uJ (uI (uI (uI σ 515 o0 x1) 516 o0 x2) 517 o0 x3) 518 o0 y4) := rfl
set_option maxHeartbeats 40000000 in
theorem cz_X8_setRecord {xi : SX} {S : Hp} {E : List Nat} {kc nc : Nat} {P : Po} {o0 : Nat} {x1 : Int32} {x2 : Int32} {x3 : Int32} {y4 : Int64} {R : Nat → Nat → Nat} (hG : GI S E) (h0 : Oa S E 8 0 o0) (hR : RK S R) (hP : ∀ r T x y, PV E [515, 516, 517, 9987] S kc nc rV (fun v T => sg T = Z_X8_setRecord R (sg S) o0 x1 x2 x3 y4) [] r T x y → P r T x y) : TT xi M_X8_setRecord 0 [(0, .ref o0), (1, .int x1), (2, .int x2), (3, .int x3), (4, .long y4)] [] S kc nc P := by
  have hA : Af E [515, 516, 517, 9987] S S := af_rf
  refine tt_aload_n (j := 0) dX8_setRecord_0 rfl ?_
  refine tt_iload_n (j := 1) dX8_setRecord_1 rfl ?_
  refine gx_pI (id := 515) (x := x1) dX8_setRecord_2 fl_8_21 rfl rfl h0 hA rfl rfl rfl (gp_I hG) (by decide) (fun h => absurd h (by decide)) (fun h => absurd h (by decide)) (show sg S = (sg S) from rfl) (fun S101 hG102 hA103 e104 => ?_)
  refine tt_aload_n (j := 0) dX8_setRecord_5 rfl ?_
  refine tt_iload_n (j := 2) dX8_setRecord_6 rfl ?_
  refine gx_pI (id := 516) (x := x2) dX8_setRecord_7 fl_8_25 rfl rfl h0 hA103 rfl rfl rfl (gp_I hG102) (by decide) (fun h => absurd h (by decide)) (fun h => absurd h (by decide)) e104 (fun S105 hG106 hA107 e108 => ?_)
  refine tt_aload_n (j := 0) dX8_setRecord_10 rfl ?_
  refine tt_iload_n (j := 3) dX8_setRecord_11 rfl ?_
  refine gx_pI (id := 517) (x := x3) dX8_setRecord_12 fl_8_28 rfl rfl h0 hA107 rfl rfl rfl (gp_I hG106) (by decide) (fun h => absurd h (by decide)) (fun h => absurd h (by decide)) e108 (fun S109 hG110 hA111 e112 => ?_)
  refine tt_aload_n (j := 0) dX8_setRecord_15 rfl ?_
  refine tt_lload (j := 4) dX8_setRecord_16 rfl ?_
  refine gx_pJ (id := 518) (x := y4) dX8_setRecord_18 fl_8_62 rfl rfl h0 hA111 rfl rfl rfl hG110 e112 (fun S113 hG114 hA115 e116 => ?_)
  have hF : Z_X8_setRecord R (sg S) o0 x1 x2 x3 y4 = (uJ (uI (uI (uI (sg S) 515 o0 x1) 516 o0 x2) 517 o0 x3) 518 o0 y4) := by
    rfl
  exact tt_vreturn dX8_setRecord_21 rfl (hP _ _ _ _ ⟨hG114, hA115, Or.inl ⟨_, rfl, rfl, Eq.trans e116 hF.symm, rfl, rfl⟩⟩)
def Z_X8_dropRecord (R : Nat → Nat → Nat) (σ : SG) (o0 : Nat) : SG :=
  let d106 := Z_X8_setRecord R σ o0 (0) ((-1)) ((-1)) (0)
  d106
theorem zl_X8_dropRecord_0 {R : Nat → Nat → Nat} {σ : SG} {o0 : Nat}  : Z_X8_dropRecord R σ o0 = (Z_X8_setRecord R σ o0 (0) ((-1)) ((-1)) (0)) := rfl
set_option maxHeartbeats 40000000 in
theorem cz_X8_dropRecord {xi : SX} {S : Hp} {E : List Nat} {kc nc : Nat} {P : Po} {o0 : Nat} {R : Nat → Nat → Nat} (hG : GI S E) (h0 : Oa S E 8 0 o0) (hR : RK S R) (hP : ∀ r T x y, PV E [515, 516, 517, 9987] S kc nc rV (fun v T => sg T = Z_X8_dropRecord R (sg S) o0) [] r T x y → P r T x y) : TT xi M_X8_dropRecord 0 [(0, .ref o0)] [] S kc nc P := by
  have hA : Af E [515, 516, 517, 9987] S S := af_rf
  refine tt_aload_n (j := 0) dX8_dropRecord_0 rfl ?_
  refine tt_iconst (v := 0) dX8_dropRecord_1 rfl ?_
  refine tt_iconst (v := (-1)) dX8_dropRecord_2 rfl ?_
  refine tt_iconst (v := (-1)) dX8_dropRecord_3 rfl ?_
  refine tt_lconst (v := 0) dX8_dropRecord_4 rfl ?_
  refine gt_Vv (As := [.int 0, .int (-1), .int (-1), .long 0]) dX8_dropRecord_5 ca_X8_65 ⟨by decide, by decide⟩ h0 hA rfl (Nat.le_of_ble_eq_true rfl) (Nat.le_of_ble_eq_true rfl) (by decide) (cz_X8_setRecord hG (oa_af h0 hA) hR (fun _ _ _ _ h => h)) rfl (fun _ h => nomatch h) (fun S101 hx105 hG102 hB103 hA104 => ?_)
  obtain ⟨d106, hd107⟩ : ∃ q, Z_X8_setRecord R (sg S) o0 (0) ((-1)) ((-1)) (0) = q := ⟨_, rfl⟩
  have hq108 := (congrArg (fun q9 => Z_X8_setRecord R q9 o0 (0) ((-1)) ((-1)) (0)) (show sg S = (sg S) from rfl)).trans hd107
  have hs109 := hx105.trans hq108
  have hF : Z_X8_dropRecord R (sg S) o0 = d106 := by
    subst hd107
    rfl
  exact tt_vreturn dX8_dropRecord_8 rfl (hP _ _ _ _ ⟨hG102, hA104, Or.inl ⟨_, rfl, rfl, Eq.trans hs109 hF.symm, rfl, rfl⟩⟩)
def Z_X8_copyFrom (R : Nat → Nat → Nat) (σ : SG) (o0 : Nat) (o1 : Nat) : SG :=
  let d130 := Z_X8_setRecord R (uc (uc (uc σ (R 512 o1) (R 512 o0)) (R 513 o1) (R 513 o0)) (R 514 o1) (R 514 o0)) o0 ((mI σ 515 o1)) ((mI σ 516 o1)) ((mI σ 517 o1)) ((mJ σ 518 o1))
  d130
theorem zl_X8_copyFrom_0 {R : Nat → Nat → Nat} {σ : SG} {o0 : Nat} {o1 : Nat}  : Z_X8_copyFrom R σ o0 o1 = (Z_X8_setRecord R (uc (uc (uc σ (R 512 o1) (R 512 o0)) (R 513 o1) (R 513 o0)) (R 514 o1) (R 514 o0)) o0 ((mI σ 515 o1)) ((mI σ 516 o1)) ((mI σ 517 o1)) ((mJ σ 518 o1))) := rfl
set_option maxHeartbeats 40000000 in
theorem cz_X8_copyFrom {xi : SX} {S : Hp} {E : List Nat} {kc nc : Nat} {P : Po} {o0 : Nat} {o1 : Nat} {R : Nat → Nat → Nat} (hG : GI S E) (h0 : Oa S E 8 0 o0) (h1 : Oa S E 8 0 o1) (hR : RK S R) (hP : ∀ r T x y, PV E [515, 516, 517, 9987, 9994] S kc nc rV (fun v T => sg T = Z_X8_copyFrom R (sg S) o0 o1) [] r T x y → P r T x y) : TT xi M_X8_copyFrom 0 [(0, .ref o0), (1, .ref o1)] [] S kc nc P := by
  have hA : Af E [515, 516, 517, 9987, 9994] S S := af_rf
  refine tt_aload_n (j := 1) dX8_copyFrom_0 rfl ?_
  have hr101 := rk_R (k := 512) hR h1 33 24
  have ho102 := rk_O (k := 512) hG hR h1 33 24
  refine gt_gR (id := 512) dX8_copyFrom_1 fl_8_9 rfl rfl h1 hA hr101 ?_
  refine tt_iconst (v := 0) dX8_copyFrom_4 rfl ?_
  refine tt_aload_n (j := 0) dX8_copyFrom_5 rfl ?_
  have hr103 := rk_R (k := 512) hR h0 33 24
  have ho104 := rk_O (k := 512) hG hR h0 33 24
  refine gt_gR (id := 512) dX8_copyFrom_6 fl_8_9 rfl rfl h0 hA hr103 ?_
  refine tt_iconst (v := 0) dX8_copyFrom_9 rfl ?_
  refine tt_bipush (v := 24) dX8_copyFrom_10 rfl ?_
  refine gx_cp dX8_copyFrom_12 ca_X8_56 ho102 ho104 hA (ow_mk 9994 (k := 512) h0 hr103) ⟨by decide, by decide⟩ hG (show sg S = (sg S) from rfl) (fun S105 hG106 hA107 e108 => ?_)
  refine tt_aload_n (j := 1) dX8_copyFrom_15 rfl ?_
  have hr109 := rk_R (k := 513) hR h1 33 24
  have ho110 := rk_O (k := 513) hG hR h1 33 24
  refine gt_gR (id := 513) dX8_copyFrom_16 fl_8_15 rfl rfl h1 hA107 hr109 ?_
  refine tt_iconst (v := 0) dX8_copyFrom_19 rfl ?_
  refine tt_aload_n (j := 0) dX8_copyFrom_20 rfl ?_
  have hr111 := rk_R (k := 513) hR h0 33 24
  have ho112 := rk_O (k := 513) hG hR h0 33 24
  refine gt_gR (id := 513) dX8_copyFrom_21 fl_8_15 rfl rfl h0 hA107 hr111 ?_
  refine tt_iconst (v := 0) dX8_copyFrom_24 rfl ?_
  refine tt_bipush (v := 24) dX8_copyFrom_25 rfl ?_
  refine gx_cp dX8_copyFrom_27 ca_X8_56 ho110 ho112 hA107 (ow_mk 9994 (k := 513) h0 hr111) ⟨by decide, by decide⟩ hG106 e108 (fun S113 hG114 hA115 e116 => ?_)
  refine tt_aload_n (j := 1) dX8_copyFrom_30 rfl ?_
  have hr117 := rk_R (k := 514) hR h1 33 24
  have ho118 := rk_O (k := 514) hG hR h1 33 24
  refine gt_gR (id := 514) dX8_copyFrom_31 fl_8_18 rfl rfl h1 hA115 hr117 ?_
  refine tt_iconst (v := 0) dX8_copyFrom_34 rfl ?_
  refine tt_aload_n (j := 0) dX8_copyFrom_35 rfl ?_
  have hr119 := rk_R (k := 514) hR h0 33 24
  have ho120 := rk_O (k := 514) hG hR h0 33 24
  refine gt_gR (id := 514) dX8_copyFrom_36 fl_8_18 rfl rfl h0 hA115 hr119 ?_
  refine tt_iconst (v := 0) dX8_copyFrom_39 rfl ?_
  refine tt_bipush (v := 24) dX8_copyFrom_40 rfl ?_
  refine gx_cp dX8_copyFrom_42 ca_X8_56 ho118 ho120 hA115 (ow_mk 9994 (k := 514) h0 hr119) ⟨by decide, by decide⟩ hG114 e116 (fun S121 hG122 hA123 e124 => ?_)
  refine tt_aload_n (j := 0) dX8_copyFrom_45 rfl ?_
  refine tt_aload_n (j := 1) dX8_copyFrom_46 rfl ?_
  refine gt_gI (id := 515) (v := (mI (sg S) 515 o1)) dX8_copyFrom_47 fl_8_21 rfl rfl h1 hA123 ((((sg_I (k := 515) (o := o1) e124).trans (show mI _ 515 o1 = mI (uc (uc (sg S) (R 512 o1) (R 512 o0)) (R 513 o1) (R 513 o0)) 515 o1 from rfl)).trans (show mI _ 515 o1 = mI (uc (sg S) (R 512 o1) (R 512 o0)) 515 o1 from rfl)).trans (show mI _ 515 o1 = mI (sg S) 515 o1 from rfl)) ?_
  refine tt_aload_n (j := 1) dX8_copyFrom_50 rfl ?_
  refine gt_gI (id := 516) (v := (mI (sg S) 516 o1)) dX8_copyFrom_51 fl_8_25 rfl rfl h1 hA123 ((((sg_I (k := 516) (o := o1) e124).trans (show mI _ 516 o1 = mI (uc (uc (sg S) (R 512 o1) (R 512 o0)) (R 513 o1) (R 513 o0)) 516 o1 from rfl)).trans (show mI _ 516 o1 = mI (uc (sg S) (R 512 o1) (R 512 o0)) 516 o1 from rfl)).trans (show mI _ 516 o1 = mI (sg S) 516 o1 from rfl)) ?_
  refine tt_aload_n (j := 1) dX8_copyFrom_54 rfl ?_
  refine gt_gI (id := 517) (v := (mI (sg S) 517 o1)) dX8_copyFrom_55 fl_8_28 rfl rfl h1 hA123 ((((sg_I (k := 517) (o := o1) e124).trans (show mI _ 517 o1 = mI (uc (uc (sg S) (R 512 o1) (R 512 o0)) (R 513 o1) (R 513 o0)) 517 o1 from rfl)).trans (show mI _ 517 o1 = mI (uc (sg S) (R 512 o1) (R 512 o0)) 517 o1 from rfl)).trans (show mI _ 517 o1 = mI (sg S) 517 o1 from rfl)) ?_
  refine tt_aload_n (j := 1) dX8_copyFrom_58 rfl ?_
  refine gt_gJ (id := 518) (v := (mJ (sg S) 518 o1)) dX8_copyFrom_59 fl_8_62 rfl rfl h1 hA123 ((((sg_J (k := 518) (o := o1) e124).trans (show mJ _ 518 o1 = mJ (uc (uc (sg S) (R 512 o1) (R 512 o0)) (R 513 o1) (R 513 o0)) 518 o1 from rfl)).trans (show mJ _ 518 o1 = mJ (uc (sg S) (R 512 o1) (R 512 o0)) 518 o1 from rfl)).trans (show mJ _ 518 o1 = mJ (sg S) 518 o1 from rfl)) ?_
  refine gt_Vv (As := [.int (mI (sg S) 515 o1), .int (mI (sg S) 516 o1), .int (mI (sg S) 517 o1), .long (mJ (sg S) 518 o1)]) dX8_copyFrom_62 ca_X8_65 ⟨by decide, by decide⟩ h0 hA123 rfl (Nat.le_of_ble_eq_true rfl) (Nat.le_of_ble_eq_true rfl) (by decide) (cz_X8_setRecord hG122 (oa_af h0 hA123) (rk_af hR hA123) (fun _ _ _ _ h => h)) rfl (fun _ h => nomatch h) (fun S125 hx129 hG126 hB127 hA128 => ?_)
  obtain ⟨d130, hd131⟩ : ∃ q, Z_X8_setRecord R (uc (uc (uc (sg S) (R 512 o1) (R 512 o0)) (R 513 o1) (R 513 o0)) (R 514 o1) (R 514 o0)) o0 ((mI (sg S) 515 o1)) ((mI (sg S) 516 o1)) ((mI (sg S) 517 o1)) ((mJ (sg S) 518 o1)) = q := ⟨_, rfl⟩
  have hq132 := (congrArg (fun q9 => Z_X8_setRecord R q9 o0 ((mI (sg S) 515 o1)) ((mI (sg S) 516 o1)) ((mI (sg S) 517 o1)) ((mJ (sg S) 518 o1))) e124).trans hd131
  have hs133 := hx129.trans hq132
  have hF : Z_X8_copyFrom R (sg S) o0 o1 = d130 := by
    subst hd131
    rfl
  exact tt_vreturn dX8_copyFrom_65 rfl (hP _ _ _ _ ⟨hG126, hA128, Or.inl ⟨_, rfl, rfl, Eq.trans hs133 hF.symm, rfl, rfl⟩⟩)
def Z_X8_isSameRecord (R : Nat → Nat → Nat) (σ : SG) (o0 : Nat) (o1 : Nat) : Int32 :=
  if (mI σ 515 o0) = (mI σ 515 o1) then
    if (mI σ 516 o0) = (mI σ 516 o1) then
      if (mI σ 517 o0) = (mI σ 517 o1) then
        if (mJ σ 518 o0) = (mJ σ 518 o1) then
          1
        else
          0
      else
        0
    else
      0
  else
    0
theorem zl_X8_isSameRecord_0 {R : Nat → Nat → Nat} {σ : SG} {o0 : Nat} {o1 : Nat} (h0 : (mI σ 515 o0) = (mI σ 515 o1)) (h1 : (mI σ 516 o0) = (mI σ 516 o1)) (h2 : (mI σ 517 o0) = (mI σ 517 o1)) (h3 : (mJ σ 518 o0) = (mJ σ 518 o1)) : Z_X8_isSameRecord R σ o0 o1 = 1 := by unfold Z_X8_isSameRecord; exact Eq.trans (if_pos h0) (Eq.trans (if_pos h1) (Eq.trans (if_pos h2) (if_pos h3)))
theorem zl_X8_isSameRecord_1 {R : Nat → Nat → Nat} {σ : SG} {o0 : Nat} {o1 : Nat} (h0 : (mI σ 515 o0) = (mI σ 515 o1)) (h1 : (mI σ 516 o0) = (mI σ 516 o1)) (h2 : (mI σ 517 o0) = (mI σ 517 o1)) (h3 : ¬ (mJ σ 518 o0) = (mJ σ 518 o1)) : Z_X8_isSameRecord R σ o0 o1 = 0 := by unfold Z_X8_isSameRecord; exact Eq.trans (if_pos h0) (Eq.trans (if_pos h1) (Eq.trans (if_pos h2) (if_neg h3)))
theorem zl_X8_isSameRecord_2 {R : Nat → Nat → Nat} {σ : SG} {o0 : Nat} {o1 : Nat} (h0 : (mI σ 515 o0) = (mI σ 515 o1)) (h1 : (mI σ 516 o0) = (mI σ 516 o1)) (h2 : ¬ (mI σ 517 o0) = (mI σ 517 o1)) : Z_X8_isSameRecord R σ o0 o1 = 0 := by unfold Z_X8_isSameRecord; exact Eq.trans (if_pos h0) (Eq.trans (if_pos h1) (if_neg h2))
theorem zl_X8_isSameRecord_3 {R : Nat → Nat → Nat} {σ : SG} {o0 : Nat} {o1 : Nat} (h0 : (mI σ 515 o0) = (mI σ 515 o1)) (h1 : ¬ (mI σ 516 o0) = (mI σ 516 o1)) : Z_X8_isSameRecord R σ o0 o1 = 0 := by unfold Z_X8_isSameRecord; exact Eq.trans (if_pos h0) (if_neg h1)
theorem zl_X8_isSameRecord_4 {R : Nat → Nat → Nat} {σ : SG} {o0 : Nat} {o1 : Nat} (h0 : ¬ (mI σ 515 o0) = (mI σ 515 o1)) : Z_X8_isSameRecord R σ o0 o1 = 0 := by unfold Z_X8_isSameRecord; exact if_neg h0
set_option maxHeartbeats 40000000 in
theorem cz_X8_isSameRecord {xi : SX} {S : Hp} {E : List Nat} {kc nc : Nat} {P : Po} {o0 : Nat} {o1 : Nat} {R : Nat → Nat → Nat} (hG : GI S E) (h0 : Oa S E 8 0 o0) (h1 : Oa S E 8 0 o1) (hR : RK S R) (hP : ∀ r T x y, PV E [] S kc nc (rI 0 1) (fun v T => T = S ∧ v = some (.int (Z_X8_isSameRecord R (sg S) o0 o1))) [] r T x y → P r T x y) : TT xi M_X8_isSameRecord 0 [(0, .ref o0), (1, .ref o1)] [] S kc nc P := by
  have hA : Af E [] S S := af_rf
  refine tt_aload_n (j := 0) dX8_isSameRecord_0 rfl ?_
  refine gt_gI (id := 515) (v := (mI (sg S) 515 o0)) dX8_isSameRecord_1 fl_8_21 rfl rfl h0 hA (sg_I (k := 515) (o := o0) (show sg S = (sg S) from rfl)) ?_
  refine tt_aload_n (j := 1) dX8_isSameRecord_4 rfl ?_
  refine gt_gI (id := 515) (v := (mI (sg S) 515 o1)) dX8_isSameRecord_5 fl_8_21 rfl rfl h1 hA (sg_I (k := 515) (o := o1) (show sg S = (sg S) from rfl)) ?_
  refine tt_icmp_ne (tgt := 49) dX8_isSameRecord_8 rfl (fun q101 => ?_) (fun q101 => ?_)
  · skip
    refine tt_iconst (v := 0) dX8_isSameRecord_49 rfl ?_
    have hF : Z_X8_isSameRecord R (sg S) o0 o1 = 0 := by
      exact zl_X8_isSameRecord_4 q101
    exact tt_ireturn dX8_isSameRecord_50 .boolean rfl rfl (hP _ _ _ _ ⟨hG, hA, Or.inl ⟨_, rfl, ⟨_, rfl, rg_w (⟨by decide, by decide⟩ : Rg 0 0 0)⟩, ⟨rfl, congrArg (fun q => some (Value.int q)) hF.symm⟩, rfl, rfl⟩⟩)
  · skip
    refine tt_aload_n (j := 0) dX8_isSameRecord_11 rfl ?_
    refine gt_gI (id := 516) (v := (mI (sg S) 516 o0)) dX8_isSameRecord_12 fl_8_25 rfl rfl h0 hA (sg_I (k := 516) (o := o0) (show sg S = (sg S) from rfl)) ?_
    refine tt_aload_n (j := 1) dX8_isSameRecord_15 rfl ?_
    refine gt_gI (id := 516) (v := (mI (sg S) 516 o1)) dX8_isSameRecord_16 fl_8_25 rfl rfl h1 hA (sg_I (k := 516) (o := o1) (show sg S = (sg S) from rfl)) ?_
    refine tt_icmp_ne (tgt := 49) dX8_isSameRecord_19 rfl (fun q102 => ?_) (fun q102 => ?_)
    · skip
      refine tt_iconst (v := 0) dX8_isSameRecord_49 rfl ?_
      have hF : Z_X8_isSameRecord R (sg S) o0 o1 = 0 := by
        exact zl_X8_isSameRecord_3 q101 q102
      exact tt_ireturn dX8_isSameRecord_50 .boolean rfl rfl (hP _ _ _ _ ⟨hG, hA, Or.inl ⟨_, rfl, ⟨_, rfl, rg_w (⟨by decide, by decide⟩ : Rg 0 0 0)⟩, ⟨rfl, congrArg (fun q => some (Value.int q)) hF.symm⟩, rfl, rfl⟩⟩)
    · skip
      refine tt_aload_n (j := 0) dX8_isSameRecord_22 rfl ?_
      refine gt_gI (id := 517) (v := (mI (sg S) 517 o0)) dX8_isSameRecord_23 fl_8_28 rfl rfl h0 hA (sg_I (k := 517) (o := o0) (show sg S = (sg S) from rfl)) ?_
      refine tt_aload_n (j := 1) dX8_isSameRecord_26 rfl ?_
      refine gt_gI (id := 517) (v := (mI (sg S) 517 o1)) dX8_isSameRecord_27 fl_8_28 rfl rfl h1 hA (sg_I (k := 517) (o := o1) (show sg S = (sg S) from rfl)) ?_
      refine tt_icmp_ne (tgt := 49) dX8_isSameRecord_30 rfl (fun q103 => ?_) (fun q103 => ?_)
      · skip
        refine tt_iconst (v := 0) dX8_isSameRecord_49 rfl ?_
        have hF : Z_X8_isSameRecord R (sg S) o0 o1 = 0 := by
          exact zl_X8_isSameRecord_2 q101 q102 q103
        exact tt_ireturn dX8_isSameRecord_50 .boolean rfl rfl (hP _ _ _ _ ⟨hG, hA, Or.inl ⟨_, rfl, ⟨_, rfl, rg_w (⟨by decide, by decide⟩ : Rg 0 0 0)⟩, ⟨rfl, congrArg (fun q => some (Value.int q)) hF.symm⟩, rfl, rfl⟩⟩)
      · skip
        refine tt_aload_n (j := 0) dX8_isSameRecord_33 rfl ?_
        refine gt_gJ (id := 518) (v := (mJ (sg S) 518 o0)) dX8_isSameRecord_34 fl_8_62 rfl rfl h0 hA (sg_J (k := 518) (o := o0) (show sg S = (sg S) from rfl)) ?_
        refine tt_aload_n (j := 1) dX8_isSameRecord_37 rfl ?_
        refine gt_gJ (id := 518) (v := (mJ (sg S) 518 o1)) dX8_isSameRecord_38 fl_8_62 rfl rfl h1 hA (sg_J (k := 518) (o := o1) (show sg S = (sg S) from rfl)) ?_
        refine tt_lcmp dX8_isSameRecord_41 ?_
        refine tt_if_ne (tgt := 49) dX8_isSameRecord_42 rfl (fun q104 => ?_) (fun q104 => ?_)
        · skip
          refine tt_iconst (v := 0) dX8_isSameRecord_49 rfl ?_
          have hF : Z_X8_isSameRecord R (sg S) o0 o1 = 0 := by
            exact zl_X8_isSameRecord_1 q101 q102 q103 (lc_ne_t q104)
          exact tt_ireturn dX8_isSameRecord_50 .boolean rfl rfl (hP _ _ _ _ ⟨hG, hA, Or.inl ⟨_, rfl, ⟨_, rfl, rg_w (⟨by decide, by decide⟩ : Rg 0 0 0)⟩, ⟨rfl, congrArg (fun q => some (Value.int q)) hF.symm⟩, rfl, rfl⟩⟩)
        · skip
          refine tt_iconst (v := 1) dX8_isSameRecord_45 rfl ?_
          refine tt_goto (tgt := 50) dX8_isSameRecord_46 rfl ?_
          have hF : Z_X8_isSameRecord R (sg S) o0 o1 = 1 := by
            exact zl_X8_isSameRecord_0 q101 q102 q103 (lc_ne_f q104)
          exact tt_ireturn dX8_isSameRecord_50 .boolean rfl rfl (hP _ _ _ _ ⟨hG, hA, Or.inl ⟨_, rfl, ⟨_, rfl, rg_w (⟨by decide, by decide⟩ : Rg 1 1 1)⟩, ⟨rfl, congrArg (fun q => some (Value.int q)) hF.symm⟩, rfl, rfl⟩⟩)
def Z_X8_isSameSpan (R : Nat → Nat → Nat) (σ : SG) (o0 : Nat) (o1 : Nat) (x2 : Int32) : Int32 :=
  if (mj σ (R 512 o0) (x2 : Int32).toNatClampNeg) = (mj σ (R 512 o1) (x2 : Int32).toNatClampNeg) then
    if (mj σ (R 513 o0) (x2 : Int32).toNatClampNeg) = (mj σ (R 513 o1) (x2 : Int32).toNatClampNeg) then
      if (mj σ (R 514 o0) (x2 : Int32).toNatClampNeg) = (mj σ (R 514 o1) (x2 : Int32).toNatClampNeg) then
        1
      else
        0
    else
      0
  else
    0
theorem zl_X8_isSameSpan_0 {R : Nat → Nat → Nat} {σ : SG} {o0 : Nat} {o1 : Nat} {x2 : Int32} (h0 : (mj σ (R 512 o0) (x2 : Int32).toNatClampNeg) = (mj σ (R 512 o1) (x2 : Int32).toNatClampNeg)) (h1 : (mj σ (R 513 o0) (x2 : Int32).toNatClampNeg) = (mj σ (R 513 o1) (x2 : Int32).toNatClampNeg)) (h2 : (mj σ (R 514 o0) (x2 : Int32).toNatClampNeg) = (mj σ (R 514 o1) (x2 : Int32).toNatClampNeg)) : Z_X8_isSameSpan R σ o0 o1 x2 = 1 := by unfold Z_X8_isSameSpan; exact Eq.trans (if_pos h0) (Eq.trans (if_pos h1) (if_pos h2))
theorem zl_X8_isSameSpan_1 {R : Nat → Nat → Nat} {σ : SG} {o0 : Nat} {o1 : Nat} {x2 : Int32} (h0 : (mj σ (R 512 o0) (x2 : Int32).toNatClampNeg) = (mj σ (R 512 o1) (x2 : Int32).toNatClampNeg)) (h1 : (mj σ (R 513 o0) (x2 : Int32).toNatClampNeg) = (mj σ (R 513 o1) (x2 : Int32).toNatClampNeg)) (h2 : ¬ (mj σ (R 514 o0) (x2 : Int32).toNatClampNeg) = (mj σ (R 514 o1) (x2 : Int32).toNatClampNeg)) : Z_X8_isSameSpan R σ o0 o1 x2 = 0 := by unfold Z_X8_isSameSpan; exact Eq.trans (if_pos h0) (Eq.trans (if_pos h1) (if_neg h2))
theorem zl_X8_isSameSpan_2 {R : Nat → Nat → Nat} {σ : SG} {o0 : Nat} {o1 : Nat} {x2 : Int32} (h0 : (mj σ (R 512 o0) (x2 : Int32).toNatClampNeg) = (mj σ (R 512 o1) (x2 : Int32).toNatClampNeg)) (h1 : ¬ (mj σ (R 513 o0) (x2 : Int32).toNatClampNeg) = (mj σ (R 513 o1) (x2 : Int32).toNatClampNeg)) : Z_X8_isSameSpan R σ o0 o1 x2 = 0 := by unfold Z_X8_isSameSpan; exact Eq.trans (if_pos h0) (if_neg h1)
theorem zl_X8_isSameSpan_3 {R : Nat → Nat → Nat} {σ : SG} {o0 : Nat} {o1 : Nat} {x2 : Int32} (h0 : ¬ (mj σ (R 512 o0) (x2 : Int32).toNatClampNeg) = (mj σ (R 512 o1) (x2 : Int32).toNatClampNeg)) : Z_X8_isSameSpan R σ o0 o1 x2 = 0 := by unfold Z_X8_isSameSpan; exact if_neg h0
set_option maxHeartbeats 40000000 in
theorem cz_X8_isSameSpan {xi : SX} {S : Hp} {E : List Nat} {kc nc : Nat} {P : Po} {o0 : Nat} {o1 : Nat} {x2 : Int32} {R : Nat → Nat → Nat} (hG : GI S E) (h0 : Oa S E 8 0 o0) (h1 : Oa S E 8 0 o1) (h2 : Rg 0 23 x2) (hR : RK S R) (hP : ∀ r T x y, PV E [] S kc nc (rI 0 1) (fun v T => T = S ∧ v = some (.int (Z_X8_isSameSpan R (sg S) o0 o1 x2))) [] r T x y → P r T x y) : TT xi M_X8_isSameSpan 0 [(0, .ref o0), (1, .ref o1), (2, .int x2)] [] S kc nc P := by
  have hA : Af E [] S S := af_rf
  refine tt_aload_n (j := 0) dX8_isSameSpan_0 rfl ?_
  have hr101 := rk_R (k := 512) hR h0 33 24
  have ho102 := rk_O (k := 512) hG hR h0 33 24
  refine gt_gR (id := 512) dX8_isSameSpan_1 fl_8_9 rfl rfl h0 hA hr101 ?_
  refine tt_iload_n (j := 2) dX8_isSameSpan_4 rfl ?_
  refine gt_lLv (v := (mj (sg S) (R 512 o0) (x2 : Int32).toNatClampNeg)) dX8_isSameSpan_5 ho102 hA (rg_in h2) (sg_j (a := (R 512 o0)) (i := (x2 : Int32).toNatClampNeg) (show sg S = (sg S) from rfl)) ?_
  refine tt_aload_n (j := 1) dX8_isSameSpan_6 rfl ?_
  have hr103 := rk_R (k := 512) hR h1 33 24
  have ho104 := rk_O (k := 512) hG hR h1 33 24
  refine gt_gR (id := 512) dX8_isSameSpan_7 fl_8_9 rfl rfl h1 hA hr103 ?_
  refine tt_iload_n (j := 2) dX8_isSameSpan_10 rfl ?_
  refine gt_lLv (v := (mj (sg S) (R 512 o1) (x2 : Int32).toNatClampNeg)) dX8_isSameSpan_11 ho104 hA (rg_in h2) (sg_j (a := (R 512 o1)) (i := (x2 : Int32).toNatClampNeg) (show sg S = (sg S) from rfl)) ?_
  refine tt_lcmp dX8_isSameSpan_12 ?_
  refine tt_if_ne (tgt := 52) dX8_isSameSpan_13 rfl (fun q105 => ?_) (fun q105 => ?_)
  · skip
    refine tt_iconst (v := 0) dX8_isSameSpan_52 rfl ?_
    have hF : Z_X8_isSameSpan R (sg S) o0 o1 x2 = 0 := by
      exact zl_X8_isSameSpan_3 (lc_ne_t q105)
    exact tt_ireturn dX8_isSameSpan_53 .boolean rfl rfl (hP _ _ _ _ ⟨hG, hA, Or.inl ⟨_, rfl, ⟨_, rfl, rg_w (⟨by decide, by decide⟩ : Rg 0 0 0)⟩, ⟨rfl, congrArg (fun q => some (Value.int q)) hF.symm⟩, rfl, rfl⟩⟩)
  · skip
    refine tt_aload_n (j := 0) dX8_isSameSpan_16 rfl ?_
    have hr106 := rk_R (k := 513) hR h0 33 24
    have ho107 := rk_O (k := 513) hG hR h0 33 24
    refine gt_gR (id := 513) dX8_isSameSpan_17 fl_8_15 rfl rfl h0 hA hr106 ?_
    refine tt_iload_n (j := 2) dX8_isSameSpan_20 rfl ?_
    refine gt_lLv (v := (mj (sg S) (R 513 o0) (x2 : Int32).toNatClampNeg)) dX8_isSameSpan_21 ho107 hA (rg_in h2) (sg_j (a := (R 513 o0)) (i := (x2 : Int32).toNatClampNeg) (show sg S = (sg S) from rfl)) ?_
    refine tt_aload_n (j := 1) dX8_isSameSpan_22 rfl ?_
    have hr108 := rk_R (k := 513) hR h1 33 24
    have ho109 := rk_O (k := 513) hG hR h1 33 24
    refine gt_gR (id := 513) dX8_isSameSpan_23 fl_8_15 rfl rfl h1 hA hr108 ?_
    refine tt_iload_n (j := 2) dX8_isSameSpan_26 rfl ?_
    refine gt_lLv (v := (mj (sg S) (R 513 o1) (x2 : Int32).toNatClampNeg)) dX8_isSameSpan_27 ho109 hA (rg_in h2) (sg_j (a := (R 513 o1)) (i := (x2 : Int32).toNatClampNeg) (show sg S = (sg S) from rfl)) ?_
    refine tt_lcmp dX8_isSameSpan_28 ?_
    refine tt_if_ne (tgt := 52) dX8_isSameSpan_29 rfl (fun q110 => ?_) (fun q110 => ?_)
    · skip
      refine tt_iconst (v := 0) dX8_isSameSpan_52 rfl ?_
      have hF : Z_X8_isSameSpan R (sg S) o0 o1 x2 = 0 := by
        exact zl_X8_isSameSpan_2 (lc_ne_f q105) (lc_ne_t q110)
      exact tt_ireturn dX8_isSameSpan_53 .boolean rfl rfl (hP _ _ _ _ ⟨hG, hA, Or.inl ⟨_, rfl, ⟨_, rfl, rg_w (⟨by decide, by decide⟩ : Rg 0 0 0)⟩, ⟨rfl, congrArg (fun q => some (Value.int q)) hF.symm⟩, rfl, rfl⟩⟩)
    · skip
      refine tt_aload_n (j := 0) dX8_isSameSpan_32 rfl ?_
      have hr111 := rk_R (k := 514) hR h0 33 24
      have ho112 := rk_O (k := 514) hG hR h0 33 24
      refine gt_gR (id := 514) dX8_isSameSpan_33 fl_8_18 rfl rfl h0 hA hr111 ?_
      refine tt_iload_n (j := 2) dX8_isSameSpan_36 rfl ?_
      refine gt_lLv (v := (mj (sg S) (R 514 o0) (x2 : Int32).toNatClampNeg)) dX8_isSameSpan_37 ho112 hA (rg_in h2) (sg_j (a := (R 514 o0)) (i := (x2 : Int32).toNatClampNeg) (show sg S = (sg S) from rfl)) ?_
      refine tt_aload_n (j := 1) dX8_isSameSpan_38 rfl ?_
      have hr113 := rk_R (k := 514) hR h1 33 24
      have ho114 := rk_O (k := 514) hG hR h1 33 24
      refine gt_gR (id := 514) dX8_isSameSpan_39 fl_8_18 rfl rfl h1 hA hr113 ?_
      refine tt_iload_n (j := 2) dX8_isSameSpan_42 rfl ?_
      refine gt_lLv (v := (mj (sg S) (R 514 o1) (x2 : Int32).toNatClampNeg)) dX8_isSameSpan_43 ho114 hA (rg_in h2) (sg_j (a := (R 514 o1)) (i := (x2 : Int32).toNatClampNeg) (show sg S = (sg S) from rfl)) ?_
      refine tt_lcmp dX8_isSameSpan_44 ?_
      refine tt_if_ne (tgt := 52) dX8_isSameSpan_45 rfl (fun q115 => ?_) (fun q115 => ?_)
      · skip
        refine tt_iconst (v := 0) dX8_isSameSpan_52 rfl ?_
        have hF : Z_X8_isSameSpan R (sg S) o0 o1 x2 = 0 := by
          exact zl_X8_isSameSpan_1 (lc_ne_f q105) (lc_ne_f q110) (lc_ne_t q115)
        exact tt_ireturn dX8_isSameSpan_53 .boolean rfl rfl (hP _ _ _ _ ⟨hG, hA, Or.inl ⟨_, rfl, ⟨_, rfl, rg_w (⟨by decide, by decide⟩ : Rg 0 0 0)⟩, ⟨rfl, congrArg (fun q => some (Value.int q)) hF.symm⟩, rfl, rfl⟩⟩)
      · skip
        refine tt_iconst (v := 1) dX8_isSameSpan_48 rfl ?_
        refine tt_goto (tgt := 53) dX8_isSameSpan_49 rfl ?_
        have hF : Z_X8_isSameSpan R (sg S) o0 o1 x2 = 1 := by
          exact zl_X8_isSameSpan_0 (lc_ne_f q105) (lc_ne_f q110) (lc_ne_f q115)
        exact tt_ireturn dX8_isSameSpan_53 .boolean rfl rfl (hP _ _ _ _ ⟨hG, hA, Or.inl ⟨_, rfl, ⟨_, rfl, rg_w (⟨by decide, by decide⟩ : Rg 1 1 1)⟩, ⟨rfl, congrArg (fun q => some (Value.int q)) hF.symm⟩, rfl, rfl⟩⟩)
def Z_X2_loadOperands (R : Nat → Nat → Nat) (σ : SG) (o0 : Nat) (o1 : Nat) (o2 : Nat) : SG :=
  let d108 := Z_X8_load R σ o2 ((mI σ 202 o1)) (R 128 o0)
  if (mI σ 203 o1) = (-1) then
    if (mI σ 200 o1) = 11 then
      let d123 := Z_X7_become R d108 (R 129 o0) (1) (1) (0)
      d123
    else
      if (mI σ 200 o1) = 12 then
        let d160 := Z_X7_become R d108 (R 129 o0) (1) (1) (0)
        d160
      else
        if (mI σ 200 o1) = 14 then
          let d148 := Z_X7_become R d108 (R 129 o0) ((1 <<< (((mI σ 204 o1) : Int32).toInt64 &&& 63))) ((1 <<< (((mI σ 204 o1) : Int32).toInt64 &&& 63))) (0)
          d148
        else
          let d136 := Z_X7_become R d108 (R 129 o0) ((mJ d108 205 o1)) ((mJ d108 205 o1)) (0)
          d136
  else
    let d171 := Z_X8_load R d108 o2 ((mI σ 203 o1)) (R 129 o0)
    d171
theorem zl_X2_loadOperands_0 {R : Nat → Nat → Nat} {σ : SG} {o0 : Nat} {o1 : Nat} {o2 : Nat} (h0 : (mI σ 203 o1) = (-1)) (h1 : (mI σ 200 o1) = 11) : Z_X2_loadOperands R σ o0 o1 o2 = (Z_X7_become R (Z_X8_load R σ o2 ((mI σ 202 o1)) (R 128 o0)) (R 129 o0) (1) (1) (0)) := by unfold Z_X2_loadOperands; exact Eq.trans (if_pos h0) (if_pos h1)
theorem zl_X2_loadOperands_1 {R : Nat → Nat → Nat} {σ : SG} {o0 : Nat} {o1 : Nat} {o2 : Nat} (h0 : (mI σ 203 o1) = (-1)) (h1 : ¬ (mI σ 200 o1) = 11) (h2 : (mI σ 200 o1) = 12) : Z_X2_loadOperands R σ o0 o1 o2 = (Z_X7_become R (Z_X8_load R σ o2 ((mI σ 202 o1)) (R 128 o0)) (R 129 o0) (1) (1) (0)) := by unfold Z_X2_loadOperands; exact Eq.trans (if_pos h0) (Eq.trans (if_neg h1) (if_pos h2))
theorem zl_X2_loadOperands_2 {R : Nat → Nat → Nat} {σ : SG} {o0 : Nat} {o1 : Nat} {o2 : Nat} (h0 : (mI σ 203 o1) = (-1)) (h1 : ¬ (mI σ 200 o1) = 11) (h2 : ¬ (mI σ 200 o1) = 12) (h3 : (mI σ 200 o1) = 14) : Z_X2_loadOperands R σ o0 o1 o2 = (Z_X7_become R (Z_X8_load R σ o2 ((mI σ 202 o1)) (R 128 o0)) (R 129 o0) ((1 <<< (((mI σ 204 o1) : Int32).toInt64 &&& 63))) ((1 <<< (((mI σ 204 o1) : Int32).toInt64 &&& 63))) (0)) := by unfold Z_X2_loadOperands; exact Eq.trans (if_pos h0) (Eq.trans (if_neg h1) (Eq.trans (if_neg h2) (if_pos h3)))
theorem zl_X2_loadOperands_3 {R : Nat → Nat → Nat} {σ : SG} {o0 : Nat} {o1 : Nat} {o2 : Nat} (h0 : (mI σ 203 o1) = (-1)) (h1 : ¬ (mI σ 200 o1) = 11) (h2 : ¬ (mI σ 200 o1) = 12) (h3 : ¬ (mI σ 200 o1) = 14) : Z_X2_loadOperands R σ o0 o1 o2 = (Z_X7_become R (Z_X8_load R σ o2 ((mI σ 202 o1)) (R 128 o0)) (R 129 o0) ((mJ (Z_X8_load R σ o2 ((mI σ 202 o1)) (R 128 o0)) 205 o1)) ((mJ (Z_X8_load R σ o2 ((mI σ 202 o1)) (R 128 o0)) 205 o1)) (0)) := by unfold Z_X2_loadOperands; exact Eq.trans (if_pos h0) (Eq.trans (if_neg h1) (Eq.trans (if_neg h2) (if_neg h3)))
theorem zl_X2_loadOperands_4 {R : Nat → Nat → Nat} {σ : SG} {o0 : Nat} {o1 : Nat} {o2 : Nat} (h0 : ¬ (mI σ 203 o1) = (-1)) : Z_X2_loadOperands R σ o0 o1 o2 = (Z_X8_load R (Z_X8_load R σ o2 ((mI σ 202 o1)) (R 128 o0)) o2 ((mI σ 203 o1)) (R 129 o0)) := by unfold Z_X2_loadOperands; exact if_neg h0
set_option maxHeartbeats 40000000 in
theorem cz_X2_loadOperands {xi : SX} {S : Hp} {E : List Nat} {kc nc : Nat} {P : Po} {o0 : Nat} {o1 : Nat} {o2 : Nat} {R : Nat → Nat → Nat} (hG : GI S E) (h0 : Oa S E 2 0 o0) (h1 : Oa S E 3 0 o1) (h2 : Oa S E 8 0 o2) (hR : RK S R) (hP : ∀ r T x y, PV E [9987] S kc nc rV (fun v T => sg T = Z_X2_loadOperands R (sg S) o0 o1 o2) [] r T x y → P r T x y) : TT xi M_X2_loadOperands 0 [(0, .ref o0), (1, .ref o1), (2, .ref o2)] [] S kc nc P := by
  have hA : Af E [9987] S S := af_rf
  refine tt_aload_n (j := 2) dX2_loadOperands_0 rfl ?_
  refine tt_aload_n (j := 1) dX2_loadOperands_1 rfl ?_
  refine gt_gI (id := 202) (v := (mI (sg S) 202 o1)) dX2_loadOperands_2 fl_2_41 rfl rfl h1 hA (sg_I (k := 202) (o := o1) (show sg S = (sg S) from rfl)) ?_
  refine tt_aload_n (j := 0) dX2_loadOperands_5 rfl ?_
  have hr101 := rk_R (k := 128) hR h0 7 0
  have ho102 := rk_O (k := 128) hG hR h0 7 0
  refine gt_gR (id := 128) dX2_loadOperands_6 fl_2_12 rfl rfl h0 hA hr101 ?_
  refine gt_Vv (As := [.int (mI (sg S) 202 o1), .ref (R 128 o0)]) dX2_loadOperands_9 ca_X2_53 ⟨by decide, by decide⟩ h2 hA rfl (Nat.le_of_ble_eq_true rfl) (Nat.le_of_ble_eq_true rfl) (by decide) (cz_X8_load hG (oa_af h2 hA) (oa_af ho102 hA) hR (fun _ _ _ _ h => h)) rfl (fun _ h => nomatch h) (fun S103 hx107 hG104 hB105 hA106 => ?_)
  obtain ⟨d108, hd109⟩ : ∃ q, Z_X8_load R (sg S) o2 ((mI (sg S) 202 o1)) (R 128 o0) = q := ⟨_, rfl⟩
  have hq110 := (congrArg (fun q9 => Z_X8_load R q9 o2 ((mI (sg S) 202 o1)) (R 128 o0)) (show sg S = (sg S) from rfl)).trans hd109
  have hs111 := hx107.trans hq110
  refine tt_aload_n (j := 1) dX2_loadOperands_12 rfl ?_
  refine gt_gI (id := 203) (v := (mI (sg S) 203 o1)) dX2_loadOperands_13 fl_2_56 rfl rfl h1 hA106 (show hp_I S103 203 o1 = mI (sg S) 203 o1 from i_af (k := 203) h1 hA106) ?_
  refine tt_iconst (v := (-1)) dX2_loadOperands_16 rfl ?_
  refine tt_icmp_eq (tgt := 33) dX2_loadOperands_17 rfl (fun q112 => ?_) (fun q112 => ?_)
  · skip
    have h113 : Rg (-1) (-1) (mI (sg S) 203 o1) := rg_eq_l (rg_all (mI (sg S) 203 o1)) (⟨by decide, by decide⟩ : Rg (-1) (-1) (-1)) q112
    refine tt_aload_n (j := 1) dX2_loadOperands_33 rfl ?_
    refine gt_gJ (id := 205) (v := (mJ d108 205 o1)) dX2_loadOperands_34 fl_2_59 rfl rfl h1 hA106 (sg_J (k := 205) (o := o1) hs111) ?_
    refine tt_lstore_n (ks := [0, 1, 2, 3]) (L' := [(3, .long (mJ d108 205 o1)), (0, .ref o0), (1, .ref o1), (2, .ref o2)]) dX2_loadOperands_37 (by decide) rfl ?_
    refine tt_aload_n (j := 2) dX2_loadOperands_38 rfl ?_
    refine gt_gI (id := 200) (v := (mI (sg S) 200 o1)) dX2_loadOperands_39 fl_2_24 rfl rfl h1 hA106 (show hp_I S103 200 o1 = mI (sg S) 200 o1 from i_af (k := 200) h1 hA106) ?_
    refine tt_bipush (v := 11) dX2_loadOperands_42 rfl ?_
    refine tt_icmp_eq (tgt := 56) dX2_loadOperands_44 rfl (fun q114 => ?_) (fun q114 => ?_)
    · skip
      have h115 : Rg 11 11 (mI (sg S) 200 o1) := rg_eq_l (rg_all (mI (sg S) 200 o1)) (⟨by decide, by decide⟩ : Rg 11 11 11) q114
      refine tt_lconst (v := 1) dX2_loadOperands_56 rfl ?_
      refine tt_lstore_n (ks := [0, 1, 2, 3]) (L' := [(3, .long 1), (0, .ref o0), (1, .ref o1), (2, .ref o2)]) dX2_loadOperands_57 (by decide) rfl ?_
      refine tt_goto (tgt := 77) dX2_loadOperands_58 rfl ?_
      refine tt_aload_n (j := 1) dX2_loadOperands_77 rfl ?_
      have hr116 := rk_R (k := 129) hR h0 7 0
      have ho117 := rk_O (k := 129) hG hR h0 7 0
      refine gt_gR (id := 129) dX2_loadOperands_78 fl_2_18 rfl rfl h0 hA106 hr116 ?_
      refine tt_lload_n (j := 0) dX2_loadOperands_81 rfl ?_
      refine tt_lload_n (j := 0) dX2_loadOperands_82 rfl ?_
      refine tt_lconst (v := 0) dX2_loadOperands_83 rfl ?_
      refine gt_Vv (As := [.long 1, .long 1, .long 0]) dX2_loadOperands_84 ca_X2_66 ⟨by decide, by decide⟩ ho117 hA106 rfl (Nat.le_of_ble_eq_true rfl) (Nat.le_of_ble_eq_true rfl) (by decide) (cz_X7_become hG104 (oa_af ho117 hA106) (rk_af hR hA106) (fun _ _ _ _ h => h)) rfl (fun _ h => nomatch h) (fun S118 hx122 hG119 hB120 hA121 => ?_)
      obtain ⟨d123, hd124⟩ : ∃ q, Z_X7_become R d108 (R 129 o0) (1) (1) (0) = q := ⟨_, rfl⟩
      have hq125 := (congrArg (fun q9 => Z_X7_become R q9 (R 129 o0) (1) (1) (0)) hs111).trans hd124
      have hs126 := hx122.trans hq125
      have hF : Z_X2_loadOperands R (sg S) o0 o1 o2 = d123 := by
        subst hd124
        subst hd109
        exact zl_X2_loadOperands_0 q112 q114
      exact tt_vreturn dX2_loadOperands_87 rfl (hP _ _ _ _ ⟨hG119, hA121, Or.inl ⟨_, rfl, rfl, Eq.trans hs126 hF.symm, rfl, rfl⟩⟩)
    · skip
      refine tt_aload_n (j := 2) dX2_loadOperands_47 rfl ?_
      refine gt_gI (id := 200) (v := (mI (sg S) 200 o1)) dX2_loadOperands_48 fl_2_24 rfl rfl h1 hA106 (show hp_I S103 200 o1 = mI (sg S) 200 o1 from i_af (k := 200) h1 hA106) ?_
      refine tt_bipush (v := 12) dX2_loadOperands_51 rfl ?_
      refine tt_icmp_ne (tgt := 61) dX2_loadOperands_53 rfl (fun q127 => ?_) (fun q127 => ?_)
      · skip
        refine tt_aload_n (j := 2) dX2_loadOperands_61 rfl ?_
        refine gt_gI (id := 200) (v := (mI (sg S) 200 o1)) dX2_loadOperands_62 fl_2_24 rfl rfl h1 hA106 (show hp_I S103 200 o1 = mI (sg S) 200 o1 from i_af (k := 200) h1 hA106) ?_
        refine tt_bipush (v := 14) dX2_loadOperands_65 rfl ?_
        refine tt_icmp_ne (tgt := 77) dX2_loadOperands_67 rfl (fun q128 => ?_) (fun q128 => ?_)
        · skip
          refine tt_aload_n (j := 1) dX2_loadOperands_77 rfl ?_
          have hr129 := rk_R (k := 129) hR h0 7 0
          have ho130 := rk_O (k := 129) hG hR h0 7 0
          refine gt_gR (id := 129) dX2_loadOperands_78 fl_2_18 rfl rfl h0 hA106 hr129 ?_
          refine tt_lload_n (j := 0) dX2_loadOperands_81 rfl ?_
          refine tt_lload_n (j := 0) dX2_loadOperands_82 rfl ?_
          refine tt_lconst (v := 0) dX2_loadOperands_83 rfl ?_
          refine gt_Vv (As := [.long (mJ d108 205 o1), .long (mJ d108 205 o1), .long 0]) dX2_loadOperands_84 ca_X2_66 ⟨by decide, by decide⟩ ho130 hA106 rfl (Nat.le_of_ble_eq_true rfl) (Nat.le_of_ble_eq_true rfl) (by decide) (cz_X7_become hG104 (oa_af ho130 hA106) (rk_af hR hA106) (fun _ _ _ _ h => h)) rfl (fun _ h => nomatch h) (fun S131 hx135 hG132 hB133 hA134 => ?_)
          obtain ⟨d136, hd137⟩ : ∃ q, Z_X7_become R d108 (R 129 o0) ((mJ d108 205 o1)) ((mJ d108 205 o1)) (0) = q := ⟨_, rfl⟩
          have hq138 := (congrArg (fun q9 => Z_X7_become R q9 (R 129 o0) ((mJ d108 205 o1)) ((mJ d108 205 o1)) (0)) hs111).trans hd137
          have hs139 := hx135.trans hq138
          have hF : Z_X2_loadOperands R (sg S) o0 o1 o2 = d136 := by
            subst hd137
            subst hd109
            exact zl_X2_loadOperands_3 q112 q114 q127 q128
          exact tt_vreturn dX2_loadOperands_87 rfl (hP _ _ _ _ ⟨hG132, hA134, Or.inl ⟨_, rfl, rfl, Eq.trans hs139 hF.symm, rfl, rfl⟩⟩)
        · skip
          have h140 : Rg 14 14 (mI (sg S) 200 o1) := rg_eq_l (rg_all (mI (sg S) 200 o1)) (⟨by decide, by decide⟩ : Rg 14 14 14) q128
          refine tt_lconst (v := 1) dX2_loadOperands_70 rfl ?_
          refine tt_aload_n (j := 2) dX2_loadOperands_71 rfl ?_
          refine gt_gI (id := 204) (v := (mI (sg S) 204 o1)) dX2_loadOperands_72 fl_2_63 rfl rfl h1 hA106 (show hp_I S103 204 o1 = mI (sg S) 204 o1 from i_af (k := 204) h1 hA106) ?_
          refine tt_lshl dX2_loadOperands_75 ?_
          refine tt_lstore_n (ks := [0, 1, 2, 3]) (L' := [(3, .long (1 <<< (((mI (sg S) 204 o1) : Int32).toInt64 &&& 63))), (0, .ref o0), (1, .ref o1), (2, .ref o2)]) dX2_loadOperands_76 (by decide) rfl ?_
          refine tt_aload_n (j := 1) dX2_loadOperands_77 rfl ?_
          have hr141 := rk_R (k := 129) hR h0 7 0
          have ho142 := rk_O (k := 129) hG hR h0 7 0
          refine gt_gR (id := 129) dX2_loadOperands_78 fl_2_18 rfl rfl h0 hA106 hr141 ?_
          refine tt_lload_n (j := 0) dX2_loadOperands_81 rfl ?_
          refine tt_lload_n (j := 0) dX2_loadOperands_82 rfl ?_
          refine tt_lconst (v := 0) dX2_loadOperands_83 rfl ?_
          refine gt_Vv (As := [.long (1 <<< (((mI (sg S) 204 o1) : Int32).toInt64 &&& 63)), .long (1 <<< (((mI (sg S) 204 o1) : Int32).toInt64 &&& 63)), .long 0]) dX2_loadOperands_84 ca_X2_66 ⟨by decide, by decide⟩ ho142 hA106 rfl (Nat.le_of_ble_eq_true rfl) (Nat.le_of_ble_eq_true rfl) (by decide) (cz_X7_become hG104 (oa_af ho142 hA106) (rk_af hR hA106) (fun _ _ _ _ h => h)) rfl (fun _ h => nomatch h) (fun S143 hx147 hG144 hB145 hA146 => ?_)
          obtain ⟨d148, hd149⟩ : ∃ q, Z_X7_become R d108 (R 129 o0) ((1 <<< (((mI (sg S) 204 o1) : Int32).toInt64 &&& 63))) ((1 <<< (((mI (sg S) 204 o1) : Int32).toInt64 &&& 63))) (0) = q := ⟨_, rfl⟩
          have hq150 := (congrArg (fun q9 => Z_X7_become R q9 (R 129 o0) ((1 <<< (((mI (sg S) 204 o1) : Int32).toInt64 &&& 63))) ((1 <<< (((mI (sg S) 204 o1) : Int32).toInt64 &&& 63))) (0)) hs111).trans hd149
          have hs151 := hx147.trans hq150
          have hF : Z_X2_loadOperands R (sg S) o0 o1 o2 = d148 := by
            subst hd149
            subst hd109
            exact zl_X2_loadOperands_2 q112 q114 q127 q128
          exact tt_vreturn dX2_loadOperands_87 rfl (hP _ _ _ _ ⟨hG144, hA146, Or.inl ⟨_, rfl, rfl, Eq.trans hs151 hF.symm, rfl, rfl⟩⟩)
      · skip
        have h152 : Rg 12 12 (mI (sg S) 200 o1) := rg_eq_l (rg_all (mI (sg S) 200 o1)) (⟨by decide, by decide⟩ : Rg 12 12 12) q127
        refine tt_lconst (v := 1) dX2_loadOperands_56 rfl ?_
        refine tt_lstore_n (ks := [0, 1, 2, 3]) (L' := [(3, .long 1), (0, .ref o0), (1, .ref o1), (2, .ref o2)]) dX2_loadOperands_57 (by decide) rfl ?_
        refine tt_goto (tgt := 77) dX2_loadOperands_58 rfl ?_
        refine tt_aload_n (j := 1) dX2_loadOperands_77 rfl ?_
        have hr153 := rk_R (k := 129) hR h0 7 0
        have ho154 := rk_O (k := 129) hG hR h0 7 0
        refine gt_gR (id := 129) dX2_loadOperands_78 fl_2_18 rfl rfl h0 hA106 hr153 ?_
        refine tt_lload_n (j := 0) dX2_loadOperands_81 rfl ?_
        refine tt_lload_n (j := 0) dX2_loadOperands_82 rfl ?_
        refine tt_lconst (v := 0) dX2_loadOperands_83 rfl ?_
        refine gt_Vv (As := [.long 1, .long 1, .long 0]) dX2_loadOperands_84 ca_X2_66 ⟨by decide, by decide⟩ ho154 hA106 rfl (Nat.le_of_ble_eq_true rfl) (Nat.le_of_ble_eq_true rfl) (by decide) (cz_X7_become hG104 (oa_af ho154 hA106) (rk_af hR hA106) (fun _ _ _ _ h => h)) rfl (fun _ h => nomatch h) (fun S155 hx159 hG156 hB157 hA158 => ?_)
        obtain ⟨d160, hd161⟩ : ∃ q, Z_X7_become R d108 (R 129 o0) (1) (1) (0) = q := ⟨_, rfl⟩
        have hq162 := (congrArg (fun q9 => Z_X7_become R q9 (R 129 o0) (1) (1) (0)) hs111).trans hd161
        have hs163 := hx159.trans hq162
        have hF : Z_X2_loadOperands R (sg S) o0 o1 o2 = d160 := by
          subst hd161
          subst hd109
          exact zl_X2_loadOperands_1 q112 q114 q127
        exact tt_vreturn dX2_loadOperands_87 rfl (hP _ _ _ _ ⟨hG156, hA158, Or.inl ⟨_, rfl, rfl, Eq.trans hs163 hF.symm, rfl, rfl⟩⟩)
  · skip
    refine tt_aload_n (j := 2) dX2_loadOperands_20 rfl ?_
    refine tt_aload_n (j := 1) dX2_loadOperands_21 rfl ?_
    refine gt_gI (id := 203) (v := (mI (sg S) 203 o1)) dX2_loadOperands_22 fl_2_56 rfl rfl h1 hA106 (show hp_I S103 203 o1 = mI (sg S) 203 o1 from i_af (k := 203) h1 hA106) ?_
    refine tt_aload_n (j := 0) dX2_loadOperands_25 rfl ?_
    have hr164 := rk_R (k := 129) hR h0 7 0
    have ho165 := rk_O (k := 129) hG hR h0 7 0
    refine gt_gR (id := 129) dX2_loadOperands_26 fl_2_18 rfl rfl h0 hA106 hr164 ?_
    refine gt_Vv (As := [.int (mI (sg S) 203 o1), .ref (R 129 o0)]) dX2_loadOperands_29 ca_X2_53 ⟨by decide, by decide⟩ h2 hA106 rfl (Nat.le_of_ble_eq_true rfl) (Nat.le_of_ble_eq_true rfl) (by decide) (cz_X8_load hG104 (oa_af h2 hA106) (oa_af ho165 hA106) (rk_af hR hA106) (fun _ _ _ _ h => h)) rfl (fun _ h => nomatch h) (fun S166 hx170 hG167 hB168 hA169 => ?_)
    obtain ⟨d171, hd172⟩ : ∃ q, Z_X8_load R d108 o2 ((mI (sg S) 203 o1)) (R 129 o0) = q := ⟨_, rfl⟩
    have hq173 := (congrArg (fun q9 => Z_X8_load R q9 o2 ((mI (sg S) 203 o1)) (R 129 o0)) hs111).trans hd172
    have hs174 := hx170.trans hq173
    have hF : Z_X2_loadOperands R (sg S) o0 o1 o2 = d171 := by
      subst hd172
      subst hd109
      exact zl_X2_loadOperands_4 q112
    exact tt_vreturn dX2_loadOperands_32 rfl (hP _ _ _ _ ⟨hG167, hA169, Or.inl ⟨_, rfl, rfl, Eq.trans hs174 hF.symm, rfl, rfl⟩⟩)
def Z_X2_fitOperands (R : Nat → Nat → Nat) (σ : SG) (o0 : Nat) (o1 : Nat) : SG :=
  if (mI σ 200 o1) = 18 then
    let d182 := Z_X7_takeSignedHalf R σ (R 129 o0)
    if (mI σ 201 o1) = 64 then
      d182
    else
      if (mI σ 200 o1) = 17 then
        let d195 := Z_X7_takeSignedHalf R d182 (R 128 o0)
        let d204 := Z_X7_takeSignedHalf R d195 (R 129 o0)
        d204
      else
        if (mI σ 200 o1) = 16 then
          let d236 := Z_X7_takeSignedHalf R d182 (R 128 o0)
          let d245 := Z_X7_takeSignedHalf R d236 (R 129 o0)
          d245
        else
          let d216 := Z_X7_takeLowHalf R d182 (R 128 o0)
          let d225 := Z_X7_takeLowHalf R d216 (R 129 o0)
          d225
  else
    if (mI σ 201 o1) = 64 then
      σ
    else
      if (mI σ 200 o1) = 17 then
        let d112 := Z_X7_takeSignedHalf R σ (R 128 o0)
        let d123 := Z_X7_takeSignedHalf R d112 (R 129 o0)
        d123
      else
        if (mI σ 200 o1) = 16 then
          let d158 := Z_X7_takeSignedHalf R σ (R 128 o0)
          let d169 := Z_X7_takeSignedHalf R d158 (R 129 o0)
          d169
        else
          let d135 := Z_X7_takeLowHalf R σ (R 128 o0)
          let d146 := Z_X7_takeLowHalf R d135 (R 129 o0)
          d146
theorem zl_X2_fitOperands_0 {R : Nat → Nat → Nat} {σ : SG} {o0 : Nat} {o1 : Nat} (h0 : (mI σ 200 o1) = 18) (h1 : (mI σ 201 o1) = 64) : Z_X2_fitOperands R σ o0 o1 = (Z_X7_takeSignedHalf R σ (R 129 o0)) := by unfold Z_X2_fitOperands; exact Eq.trans (if_pos h0) (if_pos h1)
theorem zl_X2_fitOperands_1 {R : Nat → Nat → Nat} {σ : SG} {o0 : Nat} {o1 : Nat} (h0 : (mI σ 200 o1) = 18) (h1 : ¬ (mI σ 201 o1) = 64) (h2 : (mI σ 200 o1) = 17) : Z_X2_fitOperands R σ o0 o1 = (Z_X7_takeSignedHalf R (Z_X7_takeSignedHalf R (Z_X7_takeSignedHalf R σ (R 129 o0)) (R 128 o0)) (R 129 o0)) := by unfold Z_X2_fitOperands; exact Eq.trans (if_pos h0) (Eq.trans (if_neg h1) (if_pos h2))
theorem zl_X2_fitOperands_2 {R : Nat → Nat → Nat} {σ : SG} {o0 : Nat} {o1 : Nat} (h0 : (mI σ 200 o1) = 18) (h1 : ¬ (mI σ 201 o1) = 64) (h2 : ¬ (mI σ 200 o1) = 17) (h3 : (mI σ 200 o1) = 16) : Z_X2_fitOperands R σ o0 o1 = (Z_X7_takeSignedHalf R (Z_X7_takeSignedHalf R (Z_X7_takeSignedHalf R σ (R 129 o0)) (R 128 o0)) (R 129 o0)) := by unfold Z_X2_fitOperands; exact Eq.trans (if_pos h0) (Eq.trans (if_neg h1) (Eq.trans (if_neg h2) (if_pos h3)))
theorem zl_X2_fitOperands_3 {R : Nat → Nat → Nat} {σ : SG} {o0 : Nat} {o1 : Nat} (h0 : (mI σ 200 o1) = 18) (h1 : ¬ (mI σ 201 o1) = 64) (h2 : ¬ (mI σ 200 o1) = 17) (h3 : ¬ (mI σ 200 o1) = 16) : Z_X2_fitOperands R σ o0 o1 = (Z_X7_takeLowHalf R (Z_X7_takeLowHalf R (Z_X7_takeSignedHalf R σ (R 129 o0)) (R 128 o0)) (R 129 o0)) := by unfold Z_X2_fitOperands; exact Eq.trans (if_pos h0) (Eq.trans (if_neg h1) (Eq.trans (if_neg h2) (if_neg h3)))
theorem zl_X2_fitOperands_4 {R : Nat → Nat → Nat} {σ : SG} {o0 : Nat} {o1 : Nat} (h0 : ¬ (mI σ 200 o1) = 18) (h1 : (mI σ 201 o1) = 64) : Z_X2_fitOperands R σ o0 o1 = σ := by unfold Z_X2_fitOperands; exact Eq.trans (if_neg h0) (if_pos h1)
theorem zl_X2_fitOperands_5 {R : Nat → Nat → Nat} {σ : SG} {o0 : Nat} {o1 : Nat} (h0 : ¬ (mI σ 200 o1) = 18) (h1 : ¬ (mI σ 201 o1) = 64) (h2 : (mI σ 200 o1) = 17) : Z_X2_fitOperands R σ o0 o1 = (Z_X7_takeSignedHalf R (Z_X7_takeSignedHalf R σ (R 128 o0)) (R 129 o0)) := by unfold Z_X2_fitOperands; exact Eq.trans (if_neg h0) (Eq.trans (if_neg h1) (if_pos h2))
theorem zl_X2_fitOperands_6 {R : Nat → Nat → Nat} {σ : SG} {o0 : Nat} {o1 : Nat} (h0 : ¬ (mI σ 200 o1) = 18) (h1 : ¬ (mI σ 201 o1) = 64) (h2 : ¬ (mI σ 200 o1) = 17) (h3 : (mI σ 200 o1) = 16) : Z_X2_fitOperands R σ o0 o1 = (Z_X7_takeSignedHalf R (Z_X7_takeSignedHalf R σ (R 128 o0)) (R 129 o0)) := by unfold Z_X2_fitOperands; exact Eq.trans (if_neg h0) (Eq.trans (if_neg h1) (Eq.trans (if_neg h2) (if_pos h3)))
theorem zl_X2_fitOperands_7 {R : Nat → Nat → Nat} {σ : SG} {o0 : Nat} {o1 : Nat} (h0 : ¬ (mI σ 200 o1) = 18) (h1 : ¬ (mI σ 201 o1) = 64) (h2 : ¬ (mI σ 200 o1) = 17) (h3 : ¬ (mI σ 200 o1) = 16) : Z_X2_fitOperands R σ o0 o1 = (Z_X7_takeLowHalf R (Z_X7_takeLowHalf R σ (R 128 o0)) (R 129 o0)) := by unfold Z_X2_fitOperands; exact Eq.trans (if_neg h0) (Eq.trans (if_neg h1) (Eq.trans (if_neg h2) (if_neg h3)))
set_option maxHeartbeats 40000000 in
theorem cz_X2_fitOperands {xi : SX} {S : Hp} {E : List Nat} {kc nc : Nat} {P : Po} {o0 : Nat} {o1 : Nat} {R : Nat → Nat → Nat} (hG : GI S E) (h0 : Oa S E 2 0 o0) (h1 : Oa S E 3 0 o1) (hR : RK S R) (hP : ∀ r T x y, PV E [9987] S kc nc rV (fun v T => sg T = Z_X2_fitOperands R (sg S) o0 o1) [] r T x y → P r T x y) : TT xi M_X2_fitOperands 0 [(0, .ref o0), (1, .ref o1)] [] S kc nc P := by
  have hA : Af E [9987] S S := af_rf
  refine tt_aload_n (j := 1) dX2_fitOperands_0 rfl ?_
  refine gt_gI (id := 200) (v := (mI (sg S) 200 o1)) dX2_fitOperands_1 fl_2_24 rfl rfl h1 hA (sg_I (k := 200) (o := o1) (show sg S = (sg S) from rfl)) ?_
  refine tt_istore_n (ks := [0, 1, 2]) (L' := [(2, .int (mI (sg S) 200 o1)), (0, .ref o0), (1, .ref o1)]) dX2_fitOperands_4 (by decide) rfl ?_
  refine tt_iload_n (j := 0) dX2_fitOperands_5 rfl ?_
  refine tt_bipush (v := 18) dX2_fitOperands_6 rfl ?_
  refine tt_icmp_ne (tgt := 18) dX2_fitOperands_8 rfl (fun q101 => ?_) (fun q101 => ?_)
  · skip
    refine tt_aload_n (j := 2) dX2_fitOperands_18 rfl ?_
    refine gt_gI (id := 201) (v := (mI (sg S) 201 o1)) dX2_fitOperands_19 fl_2_73 rfl rfl h1 hA (sg_I (k := 201) (o := o1) (show sg S = (sg S) from rfl)) ?_
    refine tt_bipush (v := 64) dX2_fitOperands_22 rfl ?_
    refine tt_icmp_ne (tgt := 28) dX2_fitOperands_24 rfl (fun q102 => ?_) (fun q102 => ?_)
    · skip
      refine tt_iload_n (j := 0) dX2_fitOperands_28 rfl ?_
      refine tt_bipush (v := 17) dX2_fitOperands_29 rfl ?_
      refine tt_icmp_eq (tgt := 40) dX2_fitOperands_31 rfl (fun q103 => ?_) (fun q103 => ?_)
      · skip
        have h104 : Rg 17 17 (mI (sg S) 200 o1) := rg_eq_l (rg_all (mI (sg S) 200 o1)) (⟨by decide, by decide⟩ : Rg 17 17 17) q103
        refine tt_aload_n (j := 1) dX2_fitOperands_40 rfl ?_
        have hr105 := rk_R (k := 128) hR h0 7 0
        have ho106 := rk_O (k := 128) hG hR h0 7 0
        refine gt_gR (id := 128) dX2_fitOperands_41 fl_2_12 rfl rfl h0 hA hr105 ?_
        refine gt_Vv (As := []) dX2_fitOperands_44 ca_X2_70 ⟨by decide, by decide⟩ ho106 hA rfl (Nat.le_of_ble_eq_true rfl) (Nat.le_of_ble_eq_true rfl) (by decide) (cz_X7_takeSignedHalf hG (oa_af ho106 hA) hR (fun _ _ _ _ h => h)) rfl (fun _ h => nomatch h) (fun S107 hx111 hG108 hB109 hA110 => ?_)
        obtain ⟨d112, hd113⟩ : ∃ q, Z_X7_takeSignedHalf R (sg S) (R 128 o0) = q := ⟨_, rfl⟩
        have hq114 := (congrArg (fun q9 => Z_X7_takeSignedHalf R q9 (R 128 o0)) (show sg S = (sg S) from rfl)).trans hd113
        have hs115 := hx111.trans hq114
        refine tt_aload_n (j := 1) dX2_fitOperands_47 rfl ?_
        have hr116 := rk_R (k := 129) hR h0 7 0
        have ho117 := rk_O (k := 129) hG hR h0 7 0
        refine gt_gR (id := 129) dX2_fitOperands_48 fl_2_18 rfl rfl h0 hA110 hr116 ?_
        refine gt_Vv (As := []) dX2_fitOperands_51 ca_X2_70 ⟨by decide, by decide⟩ ho117 hA110 rfl (Nat.le_of_ble_eq_true rfl) (Nat.le_of_ble_eq_true rfl) (by decide) (cz_X7_takeSignedHalf hG108 (oa_af ho117 hA110) (rk_af hR hA110) (fun _ _ _ _ h => h)) rfl (fun _ h => nomatch h) (fun S118 hx122 hG119 hB120 hA121 => ?_)
        obtain ⟨d123, hd124⟩ : ∃ q, Z_X7_takeSignedHalf R d112 (R 129 o0) = q := ⟨_, rfl⟩
        have hq125 := (congrArg (fun q9 => Z_X7_takeSignedHalf R q9 (R 129 o0)) hs115).trans hd124
        have hs126 := hx122.trans hq125
        refine tt_goto (tgt := 71) dX2_fitOperands_54 rfl ?_
        have hF : Z_X2_fitOperands R (sg S) o0 o1 = d123 := by
          subst hd124
          subst hd113
          exact zl_X2_fitOperands_5 q101 q102 q103
        exact tt_vreturn dX2_fitOperands_71 rfl (hP _ _ _ _ ⟨hG119, hA121, Or.inl ⟨_, rfl, rfl, Eq.trans hs126 hF.symm, rfl, rfl⟩⟩)
      · skip
        refine tt_iload_n (j := 0) dX2_fitOperands_34 rfl ?_
        refine tt_bipush (v := 16) dX2_fitOperands_35 rfl ?_
        refine tt_icmp_ne (tgt := 57) dX2_fitOperands_37 rfl (fun q127 => ?_) (fun q127 => ?_)
        · skip
          refine tt_aload_n (j := 1) dX2_fitOperands_57 rfl ?_
          have hr128 := rk_R (k := 128) hR h0 7 0
          have ho129 := rk_O (k := 128) hG hR h0 7 0
          refine gt_gR (id := 128) dX2_fitOperands_58 fl_2_12 rfl rfl h0 hA hr128 ?_
          refine gt_Vv (As := []) dX2_fitOperands_61 ca_X2_76 ⟨by decide, by decide⟩ ho129 hA rfl (Nat.le_of_ble_eq_true rfl) (Nat.le_of_ble_eq_true rfl) (by decide) (cz_X7_takeLowHalf hG (oa_af ho129 hA) hR (fun _ _ _ _ h => h)) rfl (fun _ h => nomatch h) (fun S130 hx134 hG131 hB132 hA133 => ?_)
          obtain ⟨d135, hd136⟩ : ∃ q, Z_X7_takeLowHalf R (sg S) (R 128 o0) = q := ⟨_, rfl⟩
          have hq137 := (congrArg (fun q9 => Z_X7_takeLowHalf R q9 (R 128 o0)) (show sg S = (sg S) from rfl)).trans hd136
          have hs138 := hx134.trans hq137
          refine tt_aload_n (j := 1) dX2_fitOperands_64 rfl ?_
          have hr139 := rk_R (k := 129) hR h0 7 0
          have ho140 := rk_O (k := 129) hG hR h0 7 0
          refine gt_gR (id := 129) dX2_fitOperands_65 fl_2_18 rfl rfl h0 hA133 hr139 ?_
          refine gt_Vv (As := []) dX2_fitOperands_68 ca_X2_76 ⟨by decide, by decide⟩ ho140 hA133 rfl (Nat.le_of_ble_eq_true rfl) (Nat.le_of_ble_eq_true rfl) (by decide) (cz_X7_takeLowHalf hG131 (oa_af ho140 hA133) (rk_af hR hA133) (fun _ _ _ _ h => h)) rfl (fun _ h => nomatch h) (fun S141 hx145 hG142 hB143 hA144 => ?_)
          obtain ⟨d146, hd147⟩ : ∃ q, Z_X7_takeLowHalf R d135 (R 129 o0) = q := ⟨_, rfl⟩
          have hq148 := (congrArg (fun q9 => Z_X7_takeLowHalf R q9 (R 129 o0)) hs138).trans hd147
          have hs149 := hx145.trans hq148
          have hF : Z_X2_fitOperands R (sg S) o0 o1 = d146 := by
            subst hd147
            subst hd136
            exact zl_X2_fitOperands_7 q101 q102 q103 q127
          exact tt_vreturn dX2_fitOperands_71 rfl (hP _ _ _ _ ⟨hG142, hA144, Or.inl ⟨_, rfl, rfl, Eq.trans hs149 hF.symm, rfl, rfl⟩⟩)
        · skip
          have h150 : Rg 16 16 (mI (sg S) 200 o1) := rg_eq_l (rg_all (mI (sg S) 200 o1)) (⟨by decide, by decide⟩ : Rg 16 16 16) q127
          refine tt_aload_n (j := 1) dX2_fitOperands_40 rfl ?_
          have hr151 := rk_R (k := 128) hR h0 7 0
          have ho152 := rk_O (k := 128) hG hR h0 7 0
          refine gt_gR (id := 128) dX2_fitOperands_41 fl_2_12 rfl rfl h0 hA hr151 ?_
          refine gt_Vv (As := []) dX2_fitOperands_44 ca_X2_70 ⟨by decide, by decide⟩ ho152 hA rfl (Nat.le_of_ble_eq_true rfl) (Nat.le_of_ble_eq_true rfl) (by decide) (cz_X7_takeSignedHalf hG (oa_af ho152 hA) hR (fun _ _ _ _ h => h)) rfl (fun _ h => nomatch h) (fun S153 hx157 hG154 hB155 hA156 => ?_)
          obtain ⟨d158, hd159⟩ : ∃ q, Z_X7_takeSignedHalf R (sg S) (R 128 o0) = q := ⟨_, rfl⟩
          have hq160 := (congrArg (fun q9 => Z_X7_takeSignedHalf R q9 (R 128 o0)) (show sg S = (sg S) from rfl)).trans hd159
          have hs161 := hx157.trans hq160
          refine tt_aload_n (j := 1) dX2_fitOperands_47 rfl ?_
          have hr162 := rk_R (k := 129) hR h0 7 0
          have ho163 := rk_O (k := 129) hG hR h0 7 0
          refine gt_gR (id := 129) dX2_fitOperands_48 fl_2_18 rfl rfl h0 hA156 hr162 ?_
          refine gt_Vv (As := []) dX2_fitOperands_51 ca_X2_70 ⟨by decide, by decide⟩ ho163 hA156 rfl (Nat.le_of_ble_eq_true rfl) (Nat.le_of_ble_eq_true rfl) (by decide) (cz_X7_takeSignedHalf hG154 (oa_af ho163 hA156) (rk_af hR hA156) (fun _ _ _ _ h => h)) rfl (fun _ h => nomatch h) (fun S164 hx168 hG165 hB166 hA167 => ?_)
          obtain ⟨d169, hd170⟩ : ∃ q, Z_X7_takeSignedHalf R d158 (R 129 o0) = q := ⟨_, rfl⟩
          have hq171 := (congrArg (fun q9 => Z_X7_takeSignedHalf R q9 (R 129 o0)) hs161).trans hd170
          have hs172 := hx168.trans hq171
          refine tt_goto (tgt := 71) dX2_fitOperands_54 rfl ?_
          have hF : Z_X2_fitOperands R (sg S) o0 o1 = d169 := by
            subst hd170
            subst hd159
            exact zl_X2_fitOperands_6 q101 q102 q103 q127
          exact tt_vreturn dX2_fitOperands_71 rfl (hP _ _ _ _ ⟨hG165, hA167, Or.inl ⟨_, rfl, rfl, Eq.trans hs172 hF.symm, rfl, rfl⟩⟩)
    · skip
      have h173 : Rg 64 64 (mI (sg S) 201 o1) := rg_eq_l (rg_all (mI (sg S) 201 o1)) (⟨by decide, by decide⟩ : Rg 64 64 64) q102
      have hF : Z_X2_fitOperands R (sg S) o0 o1 = (sg S) := by
        exact zl_X2_fitOperands_4 q101 q102
      exact tt_vreturn dX2_fitOperands_27 rfl (hP _ _ _ _ ⟨hG, hA, Or.inl ⟨_, rfl, rfl, Eq.trans (show sg S = (sg S) from rfl) hF.symm, rfl, rfl⟩⟩)
  · skip
    have h174 : Rg 18 18 (mI (sg S) 200 o1) := rg_eq_l (rg_all (mI (sg S) 200 o1)) (⟨by decide, by decide⟩ : Rg 18 18 18) q101
    refine tt_aload_n (j := 1) dX2_fitOperands_11 rfl ?_
    have hr175 := rk_R (k := 129) hR h0 7 0
    have ho176 := rk_O (k := 129) hG hR h0 7 0
    refine gt_gR (id := 129) dX2_fitOperands_12 fl_2_18 rfl rfl h0 hA hr175 ?_
    refine gt_Vv (As := []) dX2_fitOperands_15 ca_X2_70 ⟨by decide, by decide⟩ ho176 hA rfl (Nat.le_of_ble_eq_true rfl) (Nat.le_of_ble_eq_true rfl) (by decide) (cz_X7_takeSignedHalf hG (oa_af ho176 hA) hR (fun _ _ _ _ h => h)) rfl (fun _ h => nomatch h) (fun S177 hx181 hG178 hB179 hA180 => ?_)
    obtain ⟨d182, hd183⟩ : ∃ q, Z_X7_takeSignedHalf R (sg S) (R 129 o0) = q := ⟨_, rfl⟩
    have hq184 := (congrArg (fun q9 => Z_X7_takeSignedHalf R q9 (R 129 o0)) (show sg S = (sg S) from rfl)).trans hd183
    have hs185 := hx181.trans hq184
    refine tt_aload_n (j := 2) dX2_fitOperands_18 rfl ?_
    refine gt_gI (id := 201) (v := (mI (sg S) 201 o1)) dX2_fitOperands_19 fl_2_73 rfl rfl h1 hA180 (show hp_I S177 201 o1 = mI (sg S) 201 o1 from i_af (k := 201) h1 hA180) ?_
    refine tt_bipush (v := 64) dX2_fitOperands_22 rfl ?_
    refine tt_icmp_ne (tgt := 28) dX2_fitOperands_24 rfl (fun q186 => ?_) (fun q186 => ?_)
    · skip
      refine tt_iload_n (j := 0) dX2_fitOperands_28 rfl ?_
      refine tt_bipush (v := 17) dX2_fitOperands_29 rfl ?_
      refine tt_icmp_eq (tgt := 40) dX2_fitOperands_31 rfl (fun q187 => ?_) (fun q187 => ?_)
      · skip
        refine tt_aload_n (j := 1) dX2_fitOperands_40 rfl ?_
        have hr188 := rk_R (k := 128) hR h0 7 0
        have ho189 := rk_O (k := 128) hG hR h0 7 0
        refine gt_gR (id := 128) dX2_fitOperands_41 fl_2_12 rfl rfl h0 hA180 hr188 ?_
        refine gt_Vv (As := []) dX2_fitOperands_44 ca_X2_70 ⟨by decide, by decide⟩ ho189 hA180 rfl (Nat.le_of_ble_eq_true rfl) (Nat.le_of_ble_eq_true rfl) (by decide) (cz_X7_takeSignedHalf hG178 (oa_af ho189 hA180) (rk_af hR hA180) (fun _ _ _ _ h => h)) rfl (fun _ h => nomatch h) (fun S190 hx194 hG191 hB192 hA193 => ?_)
        obtain ⟨d195, hd196⟩ : ∃ q, Z_X7_takeSignedHalf R d182 (R 128 o0) = q := ⟨_, rfl⟩
        have hq197 := (congrArg (fun q9 => Z_X7_takeSignedHalf R q9 (R 128 o0)) hs185).trans hd196
        have hs198 := hx194.trans hq197
        refine tt_aload_n (j := 1) dX2_fitOperands_47 rfl ?_
        refine gt_gR (id := 129) dX2_fitOperands_48 fl_2_18 rfl rfl h0 hA193 hr175 ?_
        refine gt_Vv (As := []) dX2_fitOperands_51 ca_X2_70 ⟨by decide, by decide⟩ ho176 hA193 rfl (Nat.le_of_ble_eq_true rfl) (Nat.le_of_ble_eq_true rfl) (by decide) (cz_X7_takeSignedHalf hG191 (oa_af ho176 hA193) (rk_af hR hA193) (fun _ _ _ _ h => h)) rfl (fun _ h => nomatch h) (fun S199 hx203 hG200 hB201 hA202 => ?_)
        obtain ⟨d204, hd205⟩ : ∃ q, Z_X7_takeSignedHalf R d195 (R 129 o0) = q := ⟨_, rfl⟩
        have hq206 := (congrArg (fun q9 => Z_X7_takeSignedHalf R q9 (R 129 o0)) hs198).trans hd205
        have hs207 := hx203.trans hq206
        refine tt_goto (tgt := 71) dX2_fitOperands_54 rfl ?_
        have hF : Z_X2_fitOperands R (sg S) o0 o1 = d204 := by
          subst hd205
          subst hd196
          subst hd183
          exact zl_X2_fitOperands_1 q101 q186 q187
        exact tt_vreturn dX2_fitOperands_71 rfl (hP _ _ _ _ ⟨hG200, hA202, Or.inl ⟨_, rfl, rfl, Eq.trans hs207 hF.symm, rfl, rfl⟩⟩)
      · skip
        refine tt_iload_n (j := 0) dX2_fitOperands_34 rfl ?_
        refine tt_bipush (v := 16) dX2_fitOperands_35 rfl ?_
        refine tt_icmp_ne (tgt := 57) dX2_fitOperands_37 rfl (fun q208 => ?_) (fun q208 => ?_)
        · skip
          refine tt_aload_n (j := 1) dX2_fitOperands_57 rfl ?_
          have hr209 := rk_R (k := 128) hR h0 7 0
          have ho210 := rk_O (k := 128) hG hR h0 7 0
          refine gt_gR (id := 128) dX2_fitOperands_58 fl_2_12 rfl rfl h0 hA180 hr209 ?_
          refine gt_Vv (As := []) dX2_fitOperands_61 ca_X2_76 ⟨by decide, by decide⟩ ho210 hA180 rfl (Nat.le_of_ble_eq_true rfl) (Nat.le_of_ble_eq_true rfl) (by decide) (cz_X7_takeLowHalf hG178 (oa_af ho210 hA180) (rk_af hR hA180) (fun _ _ _ _ h => h)) rfl (fun _ h => nomatch h) (fun S211 hx215 hG212 hB213 hA214 => ?_)
          obtain ⟨d216, hd217⟩ : ∃ q, Z_X7_takeLowHalf R d182 (R 128 o0) = q := ⟨_, rfl⟩
          have hq218 := (congrArg (fun q9 => Z_X7_takeLowHalf R q9 (R 128 o0)) hs185).trans hd217
          have hs219 := hx215.trans hq218
          refine tt_aload_n (j := 1) dX2_fitOperands_64 rfl ?_
          refine gt_gR (id := 129) dX2_fitOperands_65 fl_2_18 rfl rfl h0 hA214 hr175 ?_
          refine gt_Vv (As := []) dX2_fitOperands_68 ca_X2_76 ⟨by decide, by decide⟩ ho176 hA214 rfl (Nat.le_of_ble_eq_true rfl) (Nat.le_of_ble_eq_true rfl) (by decide) (cz_X7_takeLowHalf hG212 (oa_af ho176 hA214) (rk_af hR hA214) (fun _ _ _ _ h => h)) rfl (fun _ h => nomatch h) (fun S220 hx224 hG221 hB222 hA223 => ?_)
          obtain ⟨d225, hd226⟩ : ∃ q, Z_X7_takeLowHalf R d216 (R 129 o0) = q := ⟨_, rfl⟩
          have hq227 := (congrArg (fun q9 => Z_X7_takeLowHalf R q9 (R 129 o0)) hs219).trans hd226
          have hs228 := hx224.trans hq227
          have hF : Z_X2_fitOperands R (sg S) o0 o1 = d225 := by
            subst hd226
            subst hd217
            subst hd183
            exact zl_X2_fitOperands_3 q101 q186 q187 q208
          exact tt_vreturn dX2_fitOperands_71 rfl (hP _ _ _ _ ⟨hG221, hA223, Or.inl ⟨_, rfl, rfl, Eq.trans hs228 hF.symm, rfl, rfl⟩⟩)
        · skip
          refine tt_aload_n (j := 1) dX2_fitOperands_40 rfl ?_
          have hr229 := rk_R (k := 128) hR h0 7 0
          have ho230 := rk_O (k := 128) hG hR h0 7 0
          refine gt_gR (id := 128) dX2_fitOperands_41 fl_2_12 rfl rfl h0 hA180 hr229 ?_
          refine gt_Vv (As := []) dX2_fitOperands_44 ca_X2_70 ⟨by decide, by decide⟩ ho230 hA180 rfl (Nat.le_of_ble_eq_true rfl) (Nat.le_of_ble_eq_true rfl) (by decide) (cz_X7_takeSignedHalf hG178 (oa_af ho230 hA180) (rk_af hR hA180) (fun _ _ _ _ h => h)) rfl (fun _ h => nomatch h) (fun S231 hx235 hG232 hB233 hA234 => ?_)
          obtain ⟨d236, hd237⟩ : ∃ q, Z_X7_takeSignedHalf R d182 (R 128 o0) = q := ⟨_, rfl⟩
          have hq238 := (congrArg (fun q9 => Z_X7_takeSignedHalf R q9 (R 128 o0)) hs185).trans hd237
          have hs239 := hx235.trans hq238
          refine tt_aload_n (j := 1) dX2_fitOperands_47 rfl ?_
          refine gt_gR (id := 129) dX2_fitOperands_48 fl_2_18 rfl rfl h0 hA234 hr175 ?_
          refine gt_Vv (As := []) dX2_fitOperands_51 ca_X2_70 ⟨by decide, by decide⟩ ho176 hA234 rfl (Nat.le_of_ble_eq_true rfl) (Nat.le_of_ble_eq_true rfl) (by decide) (cz_X7_takeSignedHalf hG232 (oa_af ho176 hA234) (rk_af hR hA234) (fun _ _ _ _ h => h)) rfl (fun _ h => nomatch h) (fun S240 hx244 hG241 hB242 hA243 => ?_)
          obtain ⟨d245, hd246⟩ : ∃ q, Z_X7_takeSignedHalf R d236 (R 129 o0) = q := ⟨_, rfl⟩
          have hq247 := (congrArg (fun q9 => Z_X7_takeSignedHalf R q9 (R 129 o0)) hs239).trans hd246
          have hs248 := hx244.trans hq247
          refine tt_goto (tgt := 71) dX2_fitOperands_54 rfl ?_
          have hF : Z_X2_fitOperands R (sg S) o0 o1 = d245 := by
            subst hd246
            subst hd237
            subst hd183
            exact zl_X2_fitOperands_2 q101 q186 q187 q208
          exact tt_vreturn dX2_fitOperands_71 rfl (hP _ _ _ _ ⟨hG241, hA243, Or.inl ⟨_, rfl, rfl, Eq.trans hs248 hF.symm, rfl, rfl⟩⟩)
    · skip
      have h249 : Rg 64 64 (mI (sg S) 201 o1) := rg_eq_l (rg_all (mI (sg S) 201 o1)) (⟨by decide, by decide⟩ : Rg 64 64 64) q186
      have hF : Z_X2_fitOperands R (sg S) o0 o1 = d182 := by
        subst hd183
        exact zl_X2_fitOperands_0 q101 q186
      exact tt_vreturn dX2_fitOperands_27 rfl (hP _ _ _ _ ⟨hG178, hA180, Or.inl ⟨_, rfl, rfl, Eq.trans hs185 hF.symm, rfl, rfl⟩⟩)
def Z_X2_computeResult_p95 (R : Nat → Nat → Nat) (σ : SG) (o0 : Nat) (o1 : Nat) : SG :=
  if (mI σ 201 o1) = 32 then
    let d110 := Z_X7_takeLowHalf R σ (R 130 o0)
    d110
  else
    σ
theorem zl_X2_computeResult_p95_0 {R : Nat → Nat → Nat} {σ : SG} {o0 : Nat} {o1 : Nat} (h0 : (mI σ 201 o1) = 32) : Z_X2_computeResult_p95 R σ o0 o1 = (Z_X7_takeLowHalf R σ (R 130 o0)) := by unfold Z_X2_computeResult_p95; exact if_pos h0
theorem zl_X2_computeResult_p95_1 {R : Nat → Nat → Nat} {σ : SG} {o0 : Nat} {o1 : Nat} (h0 : ¬ (mI σ 201 o1) = 32) : Z_X2_computeResult_p95 R σ o0 o1 = σ := by unfold Z_X2_computeResult_p95; exact if_neg h0
set_option maxHeartbeats 40000000 in
theorem cz_X2_computeResult_p95 {xi : SX} {S : Hp} {E : List Nat} {kc nc : Nat} {P : Po} {o0 : Nat} {o1 : Nat} {R : Nat → Nat → Nat} (hG : GI S E) (h0 : Oa S E 2 0 o0) (h1 : Oa S E 3 0 o1) (hR : RK S R) (hP : ∀ r T x y, PV E [9987] S kc nc rV (fun v T => sg T = Z_X2_computeResult_p95 R (sg S) o0 o1) [] r T x y → P r T x y) : TT xi M_X2_computeResult 95 [(0, .ref o0), (1, .ref o1)] [] S kc nc P := by
  have hA : Af E [9987] S S := af_rf
  refine tt_aload_n (j := 1) dX2_computeResult_95 rfl ?_
  refine gt_gI (id := 201) (v := (mI (sg S) 201 o1)) dX2_computeResult_96 fl_2_73 rfl rfl h1 hA (sg_I (k := 201) (o := o1) (show sg S = (sg S) from rfl)) ?_
  refine tt_bipush (v := 32) dX2_computeResult_99 rfl ?_
  refine tt_icmp_ne (tgt := 111) dX2_computeResult_101 rfl (fun q101 => ?_) (fun q101 => ?_)
  · skip
    have hF : Z_X2_computeResult_p95 R (sg S) o0 o1 = (sg S) := by
      exact zl_X2_computeResult_p95_1 q101
    exact tt_vreturn dX2_computeResult_111 rfl (hP _ _ _ _ ⟨hG, hA, Or.inl ⟨_, rfl, rfl, Eq.trans (show sg S = (sg S) from rfl) hF.symm, rfl, rfl⟩⟩)
  · skip
    have h102 : Rg 32 32 (mI (sg S) 201 o1) := rg_eq_l (rg_all (mI (sg S) 201 o1)) (⟨by decide, by decide⟩ : Rg 32 32 32) q101
    refine tt_aload_n (j := 0) dX2_computeResult_104 rfl ?_
    have hr103 := rk_R (k := 130) hR h0 7 0
    have ho104 := rk_O (k := 130) hG hR h0 7 0
    refine gt_gR (id := 130) dX2_computeResult_105 fl_2_21 rfl rfl h0 hA hr103 ?_
    refine gt_Vv (As := []) dX2_computeResult_108 ca_X2_76 ⟨by decide, by decide⟩ ho104 hA rfl (Nat.le_of_ble_eq_true rfl) (Nat.le_of_ble_eq_true rfl) (by decide) (cz_X7_takeLowHalf hG (oa_af ho104 hA) hR (fun _ _ _ _ h => h)) rfl (fun _ h => nomatch h) (fun S105 hx109 hG106 hB107 hA108 => ?_)
    obtain ⟨d110, hd111⟩ : ∃ q, Z_X7_takeLowHalf R (sg S) (R 130 o0) = q := ⟨_, rfl⟩
    have hq112 := (congrArg (fun q9 => Z_X7_takeLowHalf R q9 (R 130 o0)) (show sg S = (sg S) from rfl)).trans hd111
    have hs113 := hx109.trans hq112
    have hF : Z_X2_computeResult_p95 R (sg S) o0 o1 = d110 := by
      subst hd111
      exact zl_X2_computeResult_p95_0 q101
    exact tt_vreturn dX2_computeResult_111 rfl (hP _ _ _ _ ⟨hG106, hA108, Or.inl ⟨_, rfl, rfl, Eq.trans hs113 hF.symm, rfl, rfl⟩⟩)
def Z_X2_computeResult (R : Nat → Nat → Nat) (σ : SG) (o0 : Nat) (o1 : Nat) : SG :=
  if (mI σ 202 o1) = (mI σ 203 o1) then
    if (mI σ 200 o1) = 6 then
      let d157 := Z_X7_become R σ (R 130 o0) (0) (0) (0)
      Z_X2_computeResult_p95 R d157 o0 o1
    else
      if (mI σ 200 o1) = 5 then
        let d216 := Z_X7_become R σ (R 130 o0) (0) (0) (0)
        Z_X2_computeResult_p95 R d216 o0 o1
      else
        if (mI σ 200 o1) = 14 then
          if (mI σ 204 o1) ≤ 30 then
            let d192 := Z_X7_operate R σ (R 130 o0) ((mI σ 200 o1)) (R 128 o0) (R 129 o0) ((mI σ 204 o1))
            Z_X2_computeResult_p95 R d192 o0 o1
          else
            let d204 := Z_X7_becomeAny R σ (R 130 o0)
            Z_X2_computeResult_p95 R d204 o0 o1
        else
          let d174 := Z_X7_operate R σ (R 130 o0) ((mI σ 200 o1)) (R 128 o0) (R 129 o0) ((mI σ 204 o1))
          Z_X2_computeResult_p95 R d174 o0 o1
  else
    if (mI σ 200 o1) = 14 then
      if (mI σ 204 o1) ≤ 30 then
        let d132 := Z_X7_operate R σ (R 130 o0) ((mI σ 200 o1)) (R 128 o0) (R 129 o0) ((mI σ 204 o1))
        Z_X2_computeResult_p95 R d132 o0 o1
      else
        let d144 := Z_X7_becomeAny R σ (R 130 o0)
        Z_X2_computeResult_p95 R d144 o0 o1
    else
      let d114 := Z_X7_operate R σ (R 130 o0) ((mI σ 200 o1)) (R 128 o0) (R 129 o0) ((mI σ 204 o1))
      Z_X2_computeResult_p95 R d114 o0 o1
theorem zl_X2_computeResult_0 {R : Nat → Nat → Nat} {σ : SG} {o0 : Nat} {o1 : Nat} (h0 : (mI σ 202 o1) = (mI σ 203 o1)) (h1 : (mI σ 200 o1) = 6) : Z_X2_computeResult R σ o0 o1 = Z_X2_computeResult_p95 R (Z_X7_become R σ (R 130 o0) (0) (0) (0)) o0 o1 := by unfold Z_X2_computeResult; exact Eq.trans (if_pos h0) (if_pos h1)
theorem zl_X2_computeResult_1 {R : Nat → Nat → Nat} {σ : SG} {o0 : Nat} {o1 : Nat} (h0 : (mI σ 202 o1) = (mI σ 203 o1)) (h1 : ¬ (mI σ 200 o1) = 6) (h2 : (mI σ 200 o1) = 5) : Z_X2_computeResult R σ o0 o1 = Z_X2_computeResult_p95 R (Z_X7_become R σ (R 130 o0) (0) (0) (0)) o0 o1 := by unfold Z_X2_computeResult; exact Eq.trans (if_pos h0) (Eq.trans (if_neg h1) (if_pos h2))
theorem zl_X2_computeResult_2 {R : Nat → Nat → Nat} {σ : SG} {o0 : Nat} {o1 : Nat} (h0 : (mI σ 202 o1) = (mI σ 203 o1)) (h1 : ¬ (mI σ 200 o1) = 6) (h2 : ¬ (mI σ 200 o1) = 5) (h3 : (mI σ 200 o1) = 14) (h4 : (mI σ 204 o1) ≤ 30) : Z_X2_computeResult R σ o0 o1 = Z_X2_computeResult_p95 R (Z_X7_operate R σ (R 130 o0) ((mI σ 200 o1)) (R 128 o0) (R 129 o0) ((mI σ 204 o1))) o0 o1 := by unfold Z_X2_computeResult; exact Eq.trans (if_pos h0) (Eq.trans (if_neg h1) (Eq.trans (if_neg h2) (Eq.trans (if_pos h3) (if_pos h4))))
theorem zl_X2_computeResult_3 {R : Nat → Nat → Nat} {σ : SG} {o0 : Nat} {o1 : Nat} (h0 : (mI σ 202 o1) = (mI σ 203 o1)) (h1 : ¬ (mI σ 200 o1) = 6) (h2 : ¬ (mI σ 200 o1) = 5) (h3 : (mI σ 200 o1) = 14) (h4 : ¬ (mI σ 204 o1) ≤ 30) : Z_X2_computeResult R σ o0 o1 = Z_X2_computeResult_p95 R (Z_X7_becomeAny R σ (R 130 o0)) o0 o1 := by unfold Z_X2_computeResult; exact Eq.trans (if_pos h0) (Eq.trans (if_neg h1) (Eq.trans (if_neg h2) (Eq.trans (if_pos h3) (if_neg h4))))
theorem zl_X2_computeResult_4 {R : Nat → Nat → Nat} {σ : SG} {o0 : Nat} {o1 : Nat} (h0 : (mI σ 202 o1) = (mI σ 203 o1)) (h1 : ¬ (mI σ 200 o1) = 6) (h2 : ¬ (mI σ 200 o1) = 5) (h3 : ¬ (mI σ 200 o1) = 14) : Z_X2_computeResult R σ o0 o1 = Z_X2_computeResult_p95 R (Z_X7_operate R σ (R 130 o0) ((mI σ 200 o1)) (R 128 o0) (R 129 o0) ((mI σ 204 o1))) o0 o1 := by unfold Z_X2_computeResult; exact Eq.trans (if_pos h0) (Eq.trans (if_neg h1) (Eq.trans (if_neg h2) (if_neg h3)))
theorem zl_X2_computeResult_5 {R : Nat → Nat → Nat} {σ : SG} {o0 : Nat} {o1 : Nat} (h0 : ¬ (mI σ 202 o1) = (mI σ 203 o1)) (h1 : (mI σ 200 o1) = 14) (h2 : (mI σ 204 o1) ≤ 30) : Z_X2_computeResult R σ o0 o1 = Z_X2_computeResult_p95 R (Z_X7_operate R σ (R 130 o0) ((mI σ 200 o1)) (R 128 o0) (R 129 o0) ((mI σ 204 o1))) o0 o1 := by unfold Z_X2_computeResult; exact Eq.trans (if_neg h0) (Eq.trans (if_pos h1) (if_pos h2))
theorem zl_X2_computeResult_6 {R : Nat → Nat → Nat} {σ : SG} {o0 : Nat} {o1 : Nat} (h0 : ¬ (mI σ 202 o1) = (mI σ 203 o1)) (h1 : (mI σ 200 o1) = 14) (h2 : ¬ (mI σ 204 o1) ≤ 30) : Z_X2_computeResult R σ o0 o1 = Z_X2_computeResult_p95 R (Z_X7_becomeAny R σ (R 130 o0)) o0 o1 := by unfold Z_X2_computeResult; exact Eq.trans (if_neg h0) (Eq.trans (if_pos h1) (if_neg h2))
theorem zl_X2_computeResult_7 {R : Nat → Nat → Nat} {σ : SG} {o0 : Nat} {o1 : Nat} (h0 : ¬ (mI σ 202 o1) = (mI σ 203 o1)) (h1 : ¬ (mI σ 200 o1) = 14) : Z_X2_computeResult R σ o0 o1 = Z_X2_computeResult_p95 R (Z_X7_operate R σ (R 130 o0) ((mI σ 200 o1)) (R 128 o0) (R 129 o0) ((mI σ 204 o1))) o0 o1 := by unfold Z_X2_computeResult; exact Eq.trans (if_neg h0) (if_neg h1)
set_option maxHeartbeats 40000000 in
theorem cz_X2_computeResult {xi : SX} {S : Hp} {E : List Nat} {kc nc : Nat} {P : Po} {o0 : Nat} {o1 : Nat} {R : Nat → Nat → Nat} (hG : GI S E) (h0 : Oa S E 2 0 o0) (h1 : Oa S E 3 0 o1) (hR : RK S R) (hP : ∀ r T x y, PV E [9987] S kc nc rV (fun v T => sg T = Z_X2_computeResult R (sg S) o0 o1) [] r T x y → P r T x y) : TT xi M_X2_computeResult 0 [(0, .ref o0), (1, .ref o1)] [] S kc nc P := by
  have hA : Af E [9987] S S := af_rf
  refine tt_aload_n (j := 1) dX2_computeResult_0 rfl ?_
  refine gt_gI (id := 200) (v := (mI (sg S) 200 o1)) dX2_computeResult_1 fl_2_24 rfl rfl h1 hA (sg_I (k := 200) (o := o1) (show sg S = (sg S) from rfl)) ?_
  refine tt_istore_n (ks := [0, 1, 2]) (L' := [(2, .int (mI (sg S) 200 o1)), (0, .ref o0), (1, .ref o1)]) dX2_computeResult_4 (by decide) rfl ?_
  refine tt_aload_n (j := 2) dX2_computeResult_5 rfl ?_
  refine gt_gI (id := 202) (v := (mI (sg S) 202 o1)) dX2_computeResult_6 fl_2_41 rfl rfl h1 hA (sg_I (k := 202) (o := o1) (show sg S = (sg S) from rfl)) ?_
  refine tt_aload_n (j := 2) dX2_computeResult_9 rfl ?_
  refine gt_gI (id := 203) (v := (mI (sg S) 203 o1)) dX2_computeResult_10 fl_2_56 rfl rfl h1 hA (sg_I (k := 203) (o := o1) (show sg S = (sg S) from rfl)) ?_
  refine tt_icmp_ne (tgt := 20) dX2_computeResult_13 rfl (fun q101 => ?_) (fun q101 => ?_)
  · skip
    refine tt_iconst (v := 0) dX2_computeResult_20 rfl ?_
    refine tt_istore_n (ks := [0, 1, 2, 3]) (L' := [(3, .int 0), (2, .int (mI (sg S) 200 o1)), (0, .ref o0), (1, .ref o1)]) dX2_computeResult_21 (by decide) rfl ?_
    refine tt_iload_n (j := 0) dX2_computeResult_22 rfl ?_
    refine tt_if_eq (tgt := 50) dX2_computeResult_23 rfl (fun _ => ?_) (fun q => absurd q (by decide))
    refine tt_iload_n (j := 1) dX2_computeResult_50 rfl ?_
    refine tt_bipush (v := 14) dX2_computeResult_51 rfl ?_
    refine tt_icmp_ne (tgt := 75) dX2_computeResult_53 rfl (fun q102 => ?_) (fun q102 => ?_)
    · skip
      refine tt_aload_n (j := 2) dX2_computeResult_75 rfl ?_
      have hr103 := rk_R (k := 130) hR h0 7 0
      have ho104 := rk_O (k := 130) hG hR h0 7 0
      refine gt_gR (id := 130) dX2_computeResult_76 fl_2_21 rfl rfl h0 hA hr103 ?_
      refine tt_iload_n (j := 1) dX2_computeResult_79 rfl ?_
      refine tt_aload_n (j := 2) dX2_computeResult_80 rfl ?_
      have hr105 := rk_R (k := 128) hR h0 7 0
      have ho106 := rk_O (k := 128) hG hR h0 7 0
      refine gt_gR (id := 128) dX2_computeResult_81 fl_2_12 rfl rfl h0 hA hr105 ?_
      refine tt_aload_n (j := 2) dX2_computeResult_84 rfl ?_
      have hr107 := rk_R (k := 129) hR h0 7 0
      have ho108 := rk_O (k := 129) hG hR h0 7 0
      refine gt_gR (id := 129) dX2_computeResult_85 fl_2_18 rfl rfl h0 hA hr107 ?_
      refine tt_aload_n (j := 3) dX2_computeResult_88 rfl ?_
      refine gt_gI (id := 204) (v := (mI (sg S) 204 o1)) dX2_computeResult_89 fl_2_63 rfl rfl h1 hA (sg_I (k := 204) (o := o1) (show sg S = (sg S) from rfl)) ?_
      refine gt_Vv (As := [.int (mI (sg S) 200 o1), .ref (R 128 o0), .ref (R 129 o0), .int (mI (sg S) 204 o1)]) dX2_computeResult_92 ca_X2_82 ⟨by decide, by decide⟩ ho104 hA rfl (Nat.le_of_ble_eq_true rfl) (Nat.le_of_ble_eq_true rfl) (by decide) (cz_X7_operate hG (oa_af ho104 hA) (oa_af ho106 hA) (oa_af ho108 hA) hR (fun _ _ _ _ h => h)) rfl (fun _ h => nomatch h) (fun S109 hx113 hG110 hB111 hA112 => ?_)
      obtain ⟨d114, hd115⟩ : ∃ q, Z_X7_operate R (sg S) (R 130 o0) ((mI (sg S) 200 o1)) (R 128 o0) (R 129 o0) ((mI (sg S) 204 o1)) = q := ⟨_, rfl⟩
      have hq116 := (congrArg (fun q9 => Z_X7_operate R q9 (R 130 o0) ((mI (sg S) 200 o1)) (R 128 o0) (R 129 o0) ((mI (sg S) 204 o1))) (show sg S = (sg S) from rfl)).trans hd115
      have hs117 := hx113.trans hq116
      have hF : Z_X2_computeResult R (sg S) o0 o1 = Z_X2_computeResult_p95 R d114 o0 o1 := by
        subst hd115
        exact zl_X2_computeResult_7 q101 q102
      exact tt_loc (ks := [2, 3]) rfl (cz_X2_computeResult_p95 hG110 (oa_af h0 hA112) (oa_af h1 hA112) (rk_af hR hA112) (fun r T x y h => hP r T x y (pv_tr hA112 h (by decide) (fun v T e => e.trans ((congrArg (fun q9 => Z_X2_computeResult_p95 R q9 o0 o1) hs117).trans hF.symm)))))
    · skip
      have h118 : Rg 14 14 (mI (sg S) 200 o1) := rg_eq_l (rg_all (mI (sg S) 200 o1)) (⟨by decide, by decide⟩ : Rg 14 14 14) q102
      refine tt_aload_n (j := 3) dX2_computeResult_56 rfl ?_
      refine gt_gI (id := 204) (v := (mI (sg S) 204 o1)) dX2_computeResult_57 fl_2_63 rfl rfl h1 hA (sg_I (k := 204) (o := o1) (show sg S = (sg S) from rfl)) ?_
      refine tt_bipush (v := 30) dX2_computeResult_60 rfl ?_
      refine tt_icmp_le (tgt := 75) dX2_computeResult_62 rfl (fun q119 => ?_) (fun q119 => ?_)
      · skip
        have h120 : Rg (-2147483648) 30 (mI (sg S) 204 o1) := rg_le_l (rg_all (mI (sg S) 204 o1)) (⟨by decide, by decide⟩ : Rg 30 30 30) q119
        refine tt_aload_n (j := 2) dX2_computeResult_75 rfl ?_
        have hr121 := rk_R (k := 130) hR h0 7 0
        have ho122 := rk_O (k := 130) hG hR h0 7 0
        refine gt_gR (id := 130) dX2_computeResult_76 fl_2_21 rfl rfl h0 hA hr121 ?_
        refine tt_iload_n (j := 1) dX2_computeResult_79 rfl ?_
        refine tt_aload_n (j := 2) dX2_computeResult_80 rfl ?_
        have hr123 := rk_R (k := 128) hR h0 7 0
        have ho124 := rk_O (k := 128) hG hR h0 7 0
        refine gt_gR (id := 128) dX2_computeResult_81 fl_2_12 rfl rfl h0 hA hr123 ?_
        refine tt_aload_n (j := 2) dX2_computeResult_84 rfl ?_
        have hr125 := rk_R (k := 129) hR h0 7 0
        have ho126 := rk_O (k := 129) hG hR h0 7 0
        refine gt_gR (id := 129) dX2_computeResult_85 fl_2_18 rfl rfl h0 hA hr125 ?_
        refine tt_aload_n (j := 3) dX2_computeResult_88 rfl ?_
        refine gt_gI (id := 204) (v := (mI (sg S) 204 o1)) dX2_computeResult_89 fl_2_63 rfl rfl h1 hA (sg_I (k := 204) (o := o1) (show sg S = (sg S) from rfl)) ?_
        refine gt_Vv (As := [.int (mI (sg S) 200 o1), .ref (R 128 o0), .ref (R 129 o0), .int (mI (sg S) 204 o1)]) dX2_computeResult_92 ca_X2_82 ⟨by decide, by decide⟩ ho122 hA rfl (Nat.le_of_ble_eq_true rfl) (Nat.le_of_ble_eq_true rfl) (by decide) (cz_X7_operate hG (oa_af ho122 hA) (oa_af ho124 hA) (oa_af ho126 hA) hR (fun _ _ _ _ h => h)) rfl (fun _ h => nomatch h) (fun S127 hx131 hG128 hB129 hA130 => ?_)
        obtain ⟨d132, hd133⟩ : ∃ q, Z_X7_operate R (sg S) (R 130 o0) ((mI (sg S) 200 o1)) (R 128 o0) (R 129 o0) ((mI (sg S) 204 o1)) = q := ⟨_, rfl⟩
        have hq134 := (congrArg (fun q9 => Z_X7_operate R q9 (R 130 o0) ((mI (sg S) 200 o1)) (R 128 o0) (R 129 o0) ((mI (sg S) 204 o1))) (show sg S = (sg S) from rfl)).trans hd133
        have hs135 := hx131.trans hq134
        have hF : Z_X2_computeResult R (sg S) o0 o1 = Z_X2_computeResult_p95 R d132 o0 o1 := by
          subst hd133
          exact zl_X2_computeResult_5 q101 q102 q119
        exact tt_loc (ks := [2, 3]) rfl (cz_X2_computeResult_p95 hG128 (oa_af h0 hA130) (oa_af h1 hA130) (rk_af hR hA130) (fun r T x y h => hP r T x y (pv_tr hA130 h (by decide) (fun v T e => e.trans ((congrArg (fun q9 => Z_X2_computeResult_p95 R q9 o0 o1) hs135).trans hF.symm)))))
      · skip
        have h136 : Rg 31 2147483647 (mI (sg S) 204 o1) := rg_lt_r (⟨by decide, by decide⟩ : Rg 30 30 30) (rg_all (mI (sg S) 204 o1)) (nle_lt q119)
        refine tt_aload_n (j := 2) dX2_computeResult_65 rfl ?_
        have hr137 := rk_R (k := 130) hR h0 7 0
        have ho138 := rk_O (k := 130) hG hR h0 7 0
        refine gt_gR (id := 130) dX2_computeResult_66 fl_2_21 rfl rfl h0 hA hr137 ?_
        refine gt_Vv (As := []) dX2_computeResult_69 ca_X2_79 ⟨by decide, by decide⟩ ho138 hA rfl (Nat.le_of_ble_eq_true rfl) (Nat.le_of_ble_eq_true rfl) (by decide) (cz_X7_becomeAny hG (oa_af ho138 hA) hR (fun _ _ _ _ h => h)) rfl (fun _ h => nomatch h) (fun S139 hx143 hG140 hB141 hA142 => ?_)
        obtain ⟨d144, hd145⟩ : ∃ q, Z_X7_becomeAny R (sg S) (R 130 o0) = q := ⟨_, rfl⟩
        have hq146 := (congrArg (fun q9 => Z_X7_becomeAny R q9 (R 130 o0)) (show sg S = (sg S) from rfl)).trans hd145
        have hs147 := hx143.trans hq146
        refine tt_goto (tgt := 95) dX2_computeResult_72 rfl ?_
        have hF : Z_X2_computeResult R (sg S) o0 o1 = Z_X2_computeResult_p95 R d144 o0 o1 := by
          subst hd145
          exact zl_X2_computeResult_6 q101 q102 q119
        exact tt_loc (ks := [2, 3]) rfl (cz_X2_computeResult_p95 hG140 (oa_af h0 hA142) (oa_af h1 hA142) (rk_af hR hA142) (fun r T x y h => hP r T x y (pv_tr hA142 h (by decide) (fun v T e => e.trans ((congrArg (fun q9 => Z_X2_computeResult_p95 R q9 o0 o1) hs147).trans hF.symm)))))
  · skip
    refine tt_iconst (v := 1) dX2_computeResult_16 rfl ?_
    refine tt_goto (tgt := 21) dX2_computeResult_17 rfl ?_
    refine tt_istore_n (ks := [0, 1, 2, 3]) (L' := [(3, .int 1), (2, .int (mI (sg S) 200 o1)), (0, .ref o0), (1, .ref o1)]) dX2_computeResult_21 (by decide) rfl ?_
    refine tt_iload_n (j := 0) dX2_computeResult_22 rfl ?_
    refine tt_if_eq (tgt := 50) dX2_computeResult_23 rfl (fun q => absurd q (by decide)) (fun _ => ?_)
    refine tt_iload_n (j := 1) dX2_computeResult_26 rfl ?_
    refine tt_bipush (v := 6) dX2_computeResult_27 rfl ?_
    refine tt_icmp_eq (tgt := 37) dX2_computeResult_29 rfl (fun q148 => ?_) (fun q148 => ?_)
    · skip
      have h149 : Rg 6 6 (mI (sg S) 200 o1) := rg_eq_l (rg_all (mI (sg S) 200 o1)) (⟨by decide, by decide⟩ : Rg 6 6 6) q148
      refine tt_aload_n (j := 2) dX2_computeResult_37 rfl ?_
      have hr150 := rk_R (k := 130) hR h0 7 0
      have ho151 := rk_O (k := 130) hG hR h0 7 0
      refine gt_gR (id := 130) dX2_computeResult_38 fl_2_21 rfl rfl h0 hA hr150 ?_
      refine tt_lconst (v := 0) dX2_computeResult_41 rfl ?_
      refine tt_lconst (v := 0) dX2_computeResult_42 rfl ?_
      refine tt_lconst (v := 0) dX2_computeResult_43 rfl ?_
      refine gt_Vv (As := [.long 0, .long 0, .long 0]) dX2_computeResult_44 ca_X2_66 ⟨by decide, by decide⟩ ho151 hA rfl (Nat.le_of_ble_eq_true rfl) (Nat.le_of_ble_eq_true rfl) (by decide) (cz_X7_become hG (oa_af ho151 hA) hR (fun _ _ _ _ h => h)) rfl (fun _ h => nomatch h) (fun S152 hx156 hG153 hB154 hA155 => ?_)
      obtain ⟨d157, hd158⟩ : ∃ q, Z_X7_become R (sg S) (R 130 o0) (0) (0) (0) = q := ⟨_, rfl⟩
      have hq159 := (congrArg (fun q9 => Z_X7_become R q9 (R 130 o0) (0) (0) (0)) (show sg S = (sg S) from rfl)).trans hd158
      have hs160 := hx156.trans hq159
      refine tt_goto (tgt := 95) dX2_computeResult_47 rfl ?_
      have hF : Z_X2_computeResult R (sg S) o0 o1 = Z_X2_computeResult_p95 R d157 o0 o1 := by
        subst hd158
        exact zl_X2_computeResult_0 q101 q148
      exact tt_loc (ks := [2, 3]) rfl (cz_X2_computeResult_p95 hG153 (oa_af h0 hA155) (oa_af h1 hA155) (rk_af hR hA155) (fun r T x y h => hP r T x y (pv_tr hA155 h (by decide) (fun v T e => e.trans ((congrArg (fun q9 => Z_X2_computeResult_p95 R q9 o0 o1) hs160).trans hF.symm)))))
    · skip
      refine tt_iload_n (j := 1) dX2_computeResult_32 rfl ?_
      refine tt_iconst (v := 5) dX2_computeResult_33 rfl ?_
      refine tt_icmp_ne (tgt := 50) dX2_computeResult_34 rfl (fun q161 => ?_) (fun q161 => ?_)
      · skip
        refine tt_iload_n (j := 1) dX2_computeResult_50 rfl ?_
        refine tt_bipush (v := 14) dX2_computeResult_51 rfl ?_
        refine tt_icmp_ne (tgt := 75) dX2_computeResult_53 rfl (fun q162 => ?_) (fun q162 => ?_)
        · skip
          refine tt_aload_n (j := 2) dX2_computeResult_75 rfl ?_
          have hr163 := rk_R (k := 130) hR h0 7 0
          have ho164 := rk_O (k := 130) hG hR h0 7 0
          refine gt_gR (id := 130) dX2_computeResult_76 fl_2_21 rfl rfl h0 hA hr163 ?_
          refine tt_iload_n (j := 1) dX2_computeResult_79 rfl ?_
          refine tt_aload_n (j := 2) dX2_computeResult_80 rfl ?_
          have hr165 := rk_R (k := 128) hR h0 7 0
          have ho166 := rk_O (k := 128) hG hR h0 7 0
          refine gt_gR (id := 128) dX2_computeResult_81 fl_2_12 rfl rfl h0 hA hr165 ?_
          refine tt_aload_n (j := 2) dX2_computeResult_84 rfl ?_
          have hr167 := rk_R (k := 129) hR h0 7 0
          have ho168 := rk_O (k := 129) hG hR h0 7 0
          refine gt_gR (id := 129) dX2_computeResult_85 fl_2_18 rfl rfl h0 hA hr167 ?_
          refine tt_aload_n (j := 3) dX2_computeResult_88 rfl ?_
          refine gt_gI (id := 204) (v := (mI (sg S) 204 o1)) dX2_computeResult_89 fl_2_63 rfl rfl h1 hA (sg_I (k := 204) (o := o1) (show sg S = (sg S) from rfl)) ?_
          refine gt_Vv (As := [.int (mI (sg S) 200 o1), .ref (R 128 o0), .ref (R 129 o0), .int (mI (sg S) 204 o1)]) dX2_computeResult_92 ca_X2_82 ⟨by decide, by decide⟩ ho164 hA rfl (Nat.le_of_ble_eq_true rfl) (Nat.le_of_ble_eq_true rfl) (by decide) (cz_X7_operate hG (oa_af ho164 hA) (oa_af ho166 hA) (oa_af ho168 hA) hR (fun _ _ _ _ h => h)) rfl (fun _ h => nomatch h) (fun S169 hx173 hG170 hB171 hA172 => ?_)
          obtain ⟨d174, hd175⟩ : ∃ q, Z_X7_operate R (sg S) (R 130 o0) ((mI (sg S) 200 o1)) (R 128 o0) (R 129 o0) ((mI (sg S) 204 o1)) = q := ⟨_, rfl⟩
          have hq176 := (congrArg (fun q9 => Z_X7_operate R q9 (R 130 o0) ((mI (sg S) 200 o1)) (R 128 o0) (R 129 o0) ((mI (sg S) 204 o1))) (show sg S = (sg S) from rfl)).trans hd175
          have hs177 := hx173.trans hq176
          have hF : Z_X2_computeResult R (sg S) o0 o1 = Z_X2_computeResult_p95 R d174 o0 o1 := by
            subst hd175
            exact zl_X2_computeResult_4 q101 q148 q161 q162
          exact tt_loc (ks := [2, 3]) rfl (cz_X2_computeResult_p95 hG170 (oa_af h0 hA172) (oa_af h1 hA172) (rk_af hR hA172) (fun r T x y h => hP r T x y (pv_tr hA172 h (by decide) (fun v T e => e.trans ((congrArg (fun q9 => Z_X2_computeResult_p95 R q9 o0 o1) hs177).trans hF.symm)))))
        · skip
          have h178 : Rg 14 14 (mI (sg S) 200 o1) := rg_eq_l (rg_all (mI (sg S) 200 o1)) (⟨by decide, by decide⟩ : Rg 14 14 14) q162
          refine tt_aload_n (j := 3) dX2_computeResult_56 rfl ?_
          refine gt_gI (id := 204) (v := (mI (sg S) 204 o1)) dX2_computeResult_57 fl_2_63 rfl rfl h1 hA (sg_I (k := 204) (o := o1) (show sg S = (sg S) from rfl)) ?_
          refine tt_bipush (v := 30) dX2_computeResult_60 rfl ?_
          refine tt_icmp_le (tgt := 75) dX2_computeResult_62 rfl (fun q179 => ?_) (fun q179 => ?_)
          · skip
            have h180 : Rg (-2147483648) 30 (mI (sg S) 204 o1) := rg_le_l (rg_all (mI (sg S) 204 o1)) (⟨by decide, by decide⟩ : Rg 30 30 30) q179
            refine tt_aload_n (j := 2) dX2_computeResult_75 rfl ?_
            have hr181 := rk_R (k := 130) hR h0 7 0
            have ho182 := rk_O (k := 130) hG hR h0 7 0
            refine gt_gR (id := 130) dX2_computeResult_76 fl_2_21 rfl rfl h0 hA hr181 ?_
            refine tt_iload_n (j := 1) dX2_computeResult_79 rfl ?_
            refine tt_aload_n (j := 2) dX2_computeResult_80 rfl ?_
            have hr183 := rk_R (k := 128) hR h0 7 0
            have ho184 := rk_O (k := 128) hG hR h0 7 0
            refine gt_gR (id := 128) dX2_computeResult_81 fl_2_12 rfl rfl h0 hA hr183 ?_
            refine tt_aload_n (j := 2) dX2_computeResult_84 rfl ?_
            have hr185 := rk_R (k := 129) hR h0 7 0
            have ho186 := rk_O (k := 129) hG hR h0 7 0
            refine gt_gR (id := 129) dX2_computeResult_85 fl_2_18 rfl rfl h0 hA hr185 ?_
            refine tt_aload_n (j := 3) dX2_computeResult_88 rfl ?_
            refine gt_gI (id := 204) (v := (mI (sg S) 204 o1)) dX2_computeResult_89 fl_2_63 rfl rfl h1 hA (sg_I (k := 204) (o := o1) (show sg S = (sg S) from rfl)) ?_
            refine gt_Vv (As := [.int (mI (sg S) 200 o1), .ref (R 128 o0), .ref (R 129 o0), .int (mI (sg S) 204 o1)]) dX2_computeResult_92 ca_X2_82 ⟨by decide, by decide⟩ ho182 hA rfl (Nat.le_of_ble_eq_true rfl) (Nat.le_of_ble_eq_true rfl) (by decide) (cz_X7_operate hG (oa_af ho182 hA) (oa_af ho184 hA) (oa_af ho186 hA) hR (fun _ _ _ _ h => h)) rfl (fun _ h => nomatch h) (fun S187 hx191 hG188 hB189 hA190 => ?_)
            obtain ⟨d192, hd193⟩ : ∃ q, Z_X7_operate R (sg S) (R 130 o0) ((mI (sg S) 200 o1)) (R 128 o0) (R 129 o0) ((mI (sg S) 204 o1)) = q := ⟨_, rfl⟩
            have hq194 := (congrArg (fun q9 => Z_X7_operate R q9 (R 130 o0) ((mI (sg S) 200 o1)) (R 128 o0) (R 129 o0) ((mI (sg S) 204 o1))) (show sg S = (sg S) from rfl)).trans hd193
            have hs195 := hx191.trans hq194
            have hF : Z_X2_computeResult R (sg S) o0 o1 = Z_X2_computeResult_p95 R d192 o0 o1 := by
              subst hd193
              exact zl_X2_computeResult_2 q101 q148 q161 q162 q179
            exact tt_loc (ks := [2, 3]) rfl (cz_X2_computeResult_p95 hG188 (oa_af h0 hA190) (oa_af h1 hA190) (rk_af hR hA190) (fun r T x y h => hP r T x y (pv_tr hA190 h (by decide) (fun v T e => e.trans ((congrArg (fun q9 => Z_X2_computeResult_p95 R q9 o0 o1) hs195).trans hF.symm)))))
          · skip
            have h196 : Rg 31 2147483647 (mI (sg S) 204 o1) := rg_lt_r (⟨by decide, by decide⟩ : Rg 30 30 30) (rg_all (mI (sg S) 204 o1)) (nle_lt q179)
            refine tt_aload_n (j := 2) dX2_computeResult_65 rfl ?_
            have hr197 := rk_R (k := 130) hR h0 7 0
            have ho198 := rk_O (k := 130) hG hR h0 7 0
            refine gt_gR (id := 130) dX2_computeResult_66 fl_2_21 rfl rfl h0 hA hr197 ?_
            refine gt_Vv (As := []) dX2_computeResult_69 ca_X2_79 ⟨by decide, by decide⟩ ho198 hA rfl (Nat.le_of_ble_eq_true rfl) (Nat.le_of_ble_eq_true rfl) (by decide) (cz_X7_becomeAny hG (oa_af ho198 hA) hR (fun _ _ _ _ h => h)) rfl (fun _ h => nomatch h) (fun S199 hx203 hG200 hB201 hA202 => ?_)
            obtain ⟨d204, hd205⟩ : ∃ q, Z_X7_becomeAny R (sg S) (R 130 o0) = q := ⟨_, rfl⟩
            have hq206 := (congrArg (fun q9 => Z_X7_becomeAny R q9 (R 130 o0)) (show sg S = (sg S) from rfl)).trans hd205
            have hs207 := hx203.trans hq206
            refine tt_goto (tgt := 95) dX2_computeResult_72 rfl ?_
            have hF : Z_X2_computeResult R (sg S) o0 o1 = Z_X2_computeResult_p95 R d204 o0 o1 := by
              subst hd205
              exact zl_X2_computeResult_3 q101 q148 q161 q162 q179
            exact tt_loc (ks := [2, 3]) rfl (cz_X2_computeResult_p95 hG200 (oa_af h0 hA202) (oa_af h1 hA202) (rk_af hR hA202) (fun r T x y h => hP r T x y (pv_tr hA202 h (by decide) (fun v T e => e.trans ((congrArg (fun q9 => Z_X2_computeResult_p95 R q9 o0 o1) hs207).trans hF.symm)))))
      · skip
        have h208 : Rg 5 5 (mI (sg S) 200 o1) := rg_eq_l (rg_all (mI (sg S) 200 o1)) (⟨by decide, by decide⟩ : Rg 5 5 5) q161
        refine tt_aload_n (j := 2) dX2_computeResult_37 rfl ?_
        have hr209 := rk_R (k := 130) hR h0 7 0
        have ho210 := rk_O (k := 130) hG hR h0 7 0
        refine gt_gR (id := 130) dX2_computeResult_38 fl_2_21 rfl rfl h0 hA hr209 ?_
        refine tt_lconst (v := 0) dX2_computeResult_41 rfl ?_
        refine tt_lconst (v := 0) dX2_computeResult_42 rfl ?_
        refine tt_lconst (v := 0) dX2_computeResult_43 rfl ?_
        refine gt_Vv (As := [.long 0, .long 0, .long 0]) dX2_computeResult_44 ca_X2_66 ⟨by decide, by decide⟩ ho210 hA rfl (Nat.le_of_ble_eq_true rfl) (Nat.le_of_ble_eq_true rfl) (by decide) (cz_X7_become hG (oa_af ho210 hA) hR (fun _ _ _ _ h => h)) rfl (fun _ h => nomatch h) (fun S211 hx215 hG212 hB213 hA214 => ?_)
        obtain ⟨d216, hd217⟩ : ∃ q, Z_X7_become R (sg S) (R 130 o0) (0) (0) (0) = q := ⟨_, rfl⟩
        have hq218 := (congrArg (fun q9 => Z_X7_become R q9 (R 130 o0) (0) (0) (0)) (show sg S = (sg S) from rfl)).trans hd217
        have hs219 := hx215.trans hq218
        refine tt_goto (tgt := 95) dX2_computeResult_47 rfl ?_
        have hF : Z_X2_computeResult R (sg S) o0 o1 = Z_X2_computeResult_p95 R d216 o0 o1 := by
          subst hd217
          exact zl_X2_computeResult_1 q101 q148 q161
        exact tt_loc (ks := [2, 3]) rfl (cz_X2_computeResult_p95 hG212 (oa_af h0 hA214) (oa_af h1 hA214) (rk_af hR hA214) (fun r T x y h => hP r T x y (pv_tr hA214 h (by decide) (fun v T e => e.trans ((congrArg (fun q9 => Z_X2_computeResult_p95 R q9 o0 o1) hs219).trans hF.symm)))))
theorem sl_Z_X2_noteRecord_p36_40 : (#[85, 110, 64, 132, 132, 132, 64, 129, 129, 129, 129, 64] : Array Int).toList = [85, 110, 64, 132, 132, 132, 64, 129, 129, 129, 129, 64] := rfl
def Z_X2_noteRecord_p36 (R : Nat → Nat → Nat) (σ : SG) (o1 : Nat) (o2 : Nat) (x3 : Int32) (x4 : Int32) (x5 : Int32) : SG :=
  if (mI σ 200 o1) = 7 then
    if x4 = 0 then
      let d109 := Z_X8_dropRecord R σ o2
      d109
    else
      if x5 = 0 then
        let d131 := Z_X8_setRecord R σ o2 (1) (x3) ((mI σ 203 o1)) ((mJ σ 205 o1))
        d131
      else
        let d121 := Z_X8_dropRecord R σ o2
        d121
  else
    if (mI σ 200 o1) = 8 then
      if x4 = 0 then
        let d143 := Z_X8_dropRecord R σ o2
        d143
      else
        if x5 = 0 then
          let d155 := Z_X8_dropRecord R σ o2
          d155
        else
          let d165 := Z_X8_setRecord R σ o2 (2) (x3) ((-1)) (0)
          d165
    else
      if (mI σ 200 o1) = 9 then
        if (mI σ 516 o2) = x3 then
          let d176 := Z_X8_dropRecord R σ o2
          d176
        else
          if (mI σ 517 o2) = x3 then
            let d186 := Z_X8_dropRecord R σ o2
            d186
          else
            σ
      else
        if (mI σ 200 o1) = 10 then
          if x4 = 0 then
            let d198 := Z_X8_dropRecord R σ o2
            d198
          else
            let d208 := Z_X8_setRecord R σ o2 (2) (x3) ((-1)) (0)
            d208
        else
          if (mI σ 200 o1) = 11 then
            if x4 = 0 then
              let d220 := Z_X8_dropRecord R σ o2
              d220
            else
              let d230 := Z_X8_setRecord R σ o2 (2) (x3) ((-1)) (0)
              d230
          else
            if (mI σ 200 o1) = 12 then
              if x4 = 0 then
                let d242 := Z_X8_dropRecord R σ o2
                d242
              else
                let d252 := Z_X8_setRecord R σ o2 (2) (x3) ((-1)) (0)
                d252
            else
              if (mI σ 200 o1) = 13 then
                if (mI σ 516 o2) = x3 then
                  let d263 := Z_X8_dropRecord R σ o2
                  d263
                else
                  if (mI σ 517 o2) = x3 then
                    let d273 := Z_X8_dropRecord R σ o2
                    d273
                  else
                    σ
              else
                if (mI σ 200 o1) = 14 then
                  let d283 := Z_X8_dropRecord R σ o2
                  d283
                else
                  if (mI σ 200 o1) = 15 then
                    let d293 := Z_X8_dropRecord R σ o2
                    d293
                  else
                    if (mI σ 200 o1) = 16 then
                      let d303 := Z_X8_dropRecord R σ o2
                      d303
                    else
                      if (mI σ 200 o1) = 17 then
                        let d313 := Z_X8_dropRecord R σ o2
                        d313
                      else
                        if (mI σ 200 o1) = 18 then
                          if (mI σ 516 o2) = x3 then
                            let d324 := Z_X8_dropRecord R σ o2
                            d324
                          else
                            if (mI σ 517 o2) = x3 then
                              let d334 := Z_X8_dropRecord R σ o2
                              d334
                            else
                              σ
                        else
                          if x4 = 0 then
                            let d357 := Z_X8_dropRecord R σ o2
                            d357
                          else
                            let d367 := Z_X8_setRecord R σ o2 (2) (x3) ((-1)) (0)
                            d367
theorem zl_X2_noteRecord_p36_0 {R : Nat → Nat → Nat} {σ : SG} {o1 : Nat} {o2 : Nat} {x3 : Int32} {x4 : Int32} {x5 : Int32} (h0 : (mI σ 200 o1) = 7) (h1 : x4 = 0) : Z_X2_noteRecord_p36 R σ o1 o2 x3 x4 x5 = (Z_X8_dropRecord R σ o2) := by unfold Z_X2_noteRecord_p36; exact Eq.trans (if_pos h0) (if_pos h1)
theorem zl_X2_noteRecord_p36_1 {R : Nat → Nat → Nat} {σ : SG} {o1 : Nat} {o2 : Nat} {x3 : Int32} {x4 : Int32} {x5 : Int32} (h0 : (mI σ 200 o1) = 7) (h1 : ¬ x4 = 0) (h2 : x5 = 0) : Z_X2_noteRecord_p36 R σ o1 o2 x3 x4 x5 = (Z_X8_setRecord R σ o2 (1) (x3) ((mI σ 203 o1)) ((mJ σ 205 o1))) := by unfold Z_X2_noteRecord_p36; exact Eq.trans (if_pos h0) (Eq.trans (if_neg h1) (if_pos h2))
theorem zl_X2_noteRecord_p36_2 {R : Nat → Nat → Nat} {σ : SG} {o1 : Nat} {o2 : Nat} {x3 : Int32} {x4 : Int32} {x5 : Int32} (h0 : (mI σ 200 o1) = 7) (h1 : ¬ x4 = 0) (h2 : ¬ x5 = 0) : Z_X2_noteRecord_p36 R σ o1 o2 x3 x4 x5 = (Z_X8_dropRecord R σ o2) := by unfold Z_X2_noteRecord_p36; exact Eq.trans (if_pos h0) (Eq.trans (if_neg h1) (if_neg h2))
theorem zl_X2_noteRecord_p36_3 {R : Nat → Nat → Nat} {σ : SG} {o1 : Nat} {o2 : Nat} {x3 : Int32} {x4 : Int32} {x5 : Int32} (h0 : ¬ (mI σ 200 o1) = 7) (h1 : (mI σ 200 o1) = 8) (h2 : x4 = 0) : Z_X2_noteRecord_p36 R σ o1 o2 x3 x4 x5 = (Z_X8_dropRecord R σ o2) := by unfold Z_X2_noteRecord_p36; exact Eq.trans (if_neg h0) (Eq.trans (if_pos h1) (if_pos h2))
theorem zl_X2_noteRecord_p36_4 {R : Nat → Nat → Nat} {σ : SG} {o1 : Nat} {o2 : Nat} {x3 : Int32} {x4 : Int32} {x5 : Int32} (h0 : ¬ (mI σ 200 o1) = 7) (h1 : (mI σ 200 o1) = 8) (h2 : ¬ x4 = 0) (h3 : x5 = 0) : Z_X2_noteRecord_p36 R σ o1 o2 x3 x4 x5 = (Z_X8_dropRecord R σ o2) := by unfold Z_X2_noteRecord_p36; exact Eq.trans (if_neg h0) (Eq.trans (if_pos h1) (Eq.trans (if_neg h2) (if_pos h3)))
theorem zl_X2_noteRecord_p36_5 {R : Nat → Nat → Nat} {σ : SG} {o1 : Nat} {o2 : Nat} {x3 : Int32} {x4 : Int32} {x5 : Int32} (h0 : ¬ (mI σ 200 o1) = 7) (h1 : (mI σ 200 o1) = 8) (h2 : ¬ x4 = 0) (h3 : ¬ x5 = 0) : Z_X2_noteRecord_p36 R σ o1 o2 x3 x4 x5 = (Z_X8_setRecord R σ o2 (2) (x3) ((-1)) (0)) := by unfold Z_X2_noteRecord_p36; exact Eq.trans (if_neg h0) (Eq.trans (if_pos h1) (Eq.trans (if_neg h2) (if_neg h3)))
theorem zl_X2_noteRecord_p36_6 {R : Nat → Nat → Nat} {σ : SG} {o1 : Nat} {o2 : Nat} {x3 : Int32} {x4 : Int32} {x5 : Int32} (h0 : ¬ (mI σ 200 o1) = 7) (h1 : ¬ (mI σ 200 o1) = 8) (h2 : (mI σ 200 o1) = 9) (h3 : (mI σ 516 o2) = x3) : Z_X2_noteRecord_p36 R σ o1 o2 x3 x4 x5 = (Z_X8_dropRecord R σ o2) := by unfold Z_X2_noteRecord_p36; exact Eq.trans (if_neg h0) (Eq.trans (if_neg h1) (Eq.trans (if_pos h2) (if_pos h3)))
theorem zl_X2_noteRecord_p36_7 {R : Nat → Nat → Nat} {σ : SG} {o1 : Nat} {o2 : Nat} {x3 : Int32} {x4 : Int32} {x5 : Int32} (h0 : ¬ (mI σ 200 o1) = 7) (h1 : ¬ (mI σ 200 o1) = 8) (h2 : (mI σ 200 o1) = 9) (h3 : ¬ (mI σ 516 o2) = x3) (h4 : (mI σ 517 o2) = x3) : Z_X2_noteRecord_p36 R σ o1 o2 x3 x4 x5 = (Z_X8_dropRecord R σ o2) := by unfold Z_X2_noteRecord_p36; exact Eq.trans (if_neg h0) (Eq.trans (if_neg h1) (Eq.trans (if_pos h2) (Eq.trans (if_neg h3) (if_pos h4))))
theorem zl_X2_noteRecord_p36_8 {R : Nat → Nat → Nat} {σ : SG} {o1 : Nat} {o2 : Nat} {x3 : Int32} {x4 : Int32} {x5 : Int32} (h0 : ¬ (mI σ 200 o1) = 7) (h1 : ¬ (mI σ 200 o1) = 8) (h2 : (mI σ 200 o1) = 9) (h3 : ¬ (mI σ 516 o2) = x3) (h4 : ¬ (mI σ 517 o2) = x3) : Z_X2_noteRecord_p36 R σ o1 o2 x3 x4 x5 = σ := by unfold Z_X2_noteRecord_p36; exact Eq.trans (if_neg h0) (Eq.trans (if_neg h1) (Eq.trans (if_pos h2) (Eq.trans (if_neg h3) (if_neg h4))))
theorem zl_X2_noteRecord_p36_9 {R : Nat → Nat → Nat} {σ : SG} {o1 : Nat} {o2 : Nat} {x3 : Int32} {x4 : Int32} {x5 : Int32} (h0 : ¬ (mI σ 200 o1) = 7) (h1 : ¬ (mI σ 200 o1) = 8) (h2 : ¬ (mI σ 200 o1) = 9) (h3 : (mI σ 200 o1) = 10) (h4 : x4 = 0) : Z_X2_noteRecord_p36 R σ o1 o2 x3 x4 x5 = (Z_X8_dropRecord R σ o2) := by unfold Z_X2_noteRecord_p36; exact Eq.trans (if_neg h0) (Eq.trans (if_neg h1) (Eq.trans (if_neg h2) (Eq.trans (if_pos h3) (if_pos h4))))
theorem zl_X2_noteRecord_p36_10 {R : Nat → Nat → Nat} {σ : SG} {o1 : Nat} {o2 : Nat} {x3 : Int32} {x4 : Int32} {x5 : Int32} (h0 : ¬ (mI σ 200 o1) = 7) (h1 : ¬ (mI σ 200 o1) = 8) (h2 : ¬ (mI σ 200 o1) = 9) (h3 : (mI σ 200 o1) = 10) (h4 : ¬ x4 = 0) : Z_X2_noteRecord_p36 R σ o1 o2 x3 x4 x5 = (Z_X8_setRecord R σ o2 (2) (x3) ((-1)) (0)) := by unfold Z_X2_noteRecord_p36; exact Eq.trans (if_neg h0) (Eq.trans (if_neg h1) (Eq.trans (if_neg h2) (Eq.trans (if_pos h3) (if_neg h4))))
theorem zl_X2_noteRecord_p36_11 {R : Nat → Nat → Nat} {σ : SG} {o1 : Nat} {o2 : Nat} {x3 : Int32} {x4 : Int32} {x5 : Int32} (h0 : ¬ (mI σ 200 o1) = 7) (h1 : ¬ (mI σ 200 o1) = 8) (h2 : ¬ (mI σ 200 o1) = 9) (h3 : ¬ (mI σ 200 o1) = 10) (h4 : (mI σ 200 o1) = 11) (h5 : x4 = 0) : Z_X2_noteRecord_p36 R σ o1 o2 x3 x4 x5 = (Z_X8_dropRecord R σ o2) := by unfold Z_X2_noteRecord_p36; exact Eq.trans (if_neg h0) (Eq.trans (if_neg h1) (Eq.trans (if_neg h2) (Eq.trans (if_neg h3) (Eq.trans (if_pos h4) (if_pos h5)))))
theorem zl_X2_noteRecord_p36_12 {R : Nat → Nat → Nat} {σ : SG} {o1 : Nat} {o2 : Nat} {x3 : Int32} {x4 : Int32} {x5 : Int32} (h0 : ¬ (mI σ 200 o1) = 7) (h1 : ¬ (mI σ 200 o1) = 8) (h2 : ¬ (mI σ 200 o1) = 9) (h3 : ¬ (mI σ 200 o1) = 10) (h4 : (mI σ 200 o1) = 11) (h5 : ¬ x4 = 0) : Z_X2_noteRecord_p36 R σ o1 o2 x3 x4 x5 = (Z_X8_setRecord R σ o2 (2) (x3) ((-1)) (0)) := by unfold Z_X2_noteRecord_p36; exact Eq.trans (if_neg h0) (Eq.trans (if_neg h1) (Eq.trans (if_neg h2) (Eq.trans (if_neg h3) (Eq.trans (if_pos h4) (if_neg h5)))))
theorem zl_X2_noteRecord_p36_13 {R : Nat → Nat → Nat} {σ : SG} {o1 : Nat} {o2 : Nat} {x3 : Int32} {x4 : Int32} {x5 : Int32} (h0 : ¬ (mI σ 200 o1) = 7) (h1 : ¬ (mI σ 200 o1) = 8) (h2 : ¬ (mI σ 200 o1) = 9) (h3 : ¬ (mI σ 200 o1) = 10) (h4 : ¬ (mI σ 200 o1) = 11) (h5 : (mI σ 200 o1) = 12) (h6 : x4 = 0) : Z_X2_noteRecord_p36 R σ o1 o2 x3 x4 x5 = (Z_X8_dropRecord R σ o2) := by unfold Z_X2_noteRecord_p36; exact Eq.trans (if_neg h0) (Eq.trans (if_neg h1) (Eq.trans (if_neg h2) (Eq.trans (if_neg h3) (Eq.trans (if_neg h4) (Eq.trans (if_pos h5) (if_pos h6))))))
theorem zl_X2_noteRecord_p36_14 {R : Nat → Nat → Nat} {σ : SG} {o1 : Nat} {o2 : Nat} {x3 : Int32} {x4 : Int32} {x5 : Int32} (h0 : ¬ (mI σ 200 o1) = 7) (h1 : ¬ (mI σ 200 o1) = 8) (h2 : ¬ (mI σ 200 o1) = 9) (h3 : ¬ (mI σ 200 o1) = 10) (h4 : ¬ (mI σ 200 o1) = 11) (h5 : (mI σ 200 o1) = 12) (h6 : ¬ x4 = 0) : Z_X2_noteRecord_p36 R σ o1 o2 x3 x4 x5 = (Z_X8_setRecord R σ o2 (2) (x3) ((-1)) (0)) := by unfold Z_X2_noteRecord_p36; exact Eq.trans (if_neg h0) (Eq.trans (if_neg h1) (Eq.trans (if_neg h2) (Eq.trans (if_neg h3) (Eq.trans (if_neg h4) (Eq.trans (if_pos h5) (if_neg h6))))))
theorem zl_X2_noteRecord_p36_15 {R : Nat → Nat → Nat} {σ : SG} {o1 : Nat} {o2 : Nat} {x3 : Int32} {x4 : Int32} {x5 : Int32} (h0 : ¬ (mI σ 200 o1) = 7) (h1 : ¬ (mI σ 200 o1) = 8) (h2 : ¬ (mI σ 200 o1) = 9) (h3 : ¬ (mI σ 200 o1) = 10) (h4 : ¬ (mI σ 200 o1) = 11) (h5 : ¬ (mI σ 200 o1) = 12) (h6 : (mI σ 200 o1) = 13) (h7 : (mI σ 516 o2) = x3) : Z_X2_noteRecord_p36 R σ o1 o2 x3 x4 x5 = (Z_X8_dropRecord R σ o2) := by unfold Z_X2_noteRecord_p36; exact Eq.trans (if_neg h0) (Eq.trans (if_neg h1) (Eq.trans (if_neg h2) (Eq.trans (if_neg h3) (Eq.trans (if_neg h4) (Eq.trans (if_neg h5) (Eq.trans (if_pos h6) (if_pos h7)))))))
theorem zl_X2_noteRecord_p36_16 {R : Nat → Nat → Nat} {σ : SG} {o1 : Nat} {o2 : Nat} {x3 : Int32} {x4 : Int32} {x5 : Int32} (h0 : ¬ (mI σ 200 o1) = 7) (h1 : ¬ (mI σ 200 o1) = 8) (h2 : ¬ (mI σ 200 o1) = 9) (h3 : ¬ (mI σ 200 o1) = 10) (h4 : ¬ (mI σ 200 o1) = 11) (h5 : ¬ (mI σ 200 o1) = 12) (h6 : (mI σ 200 o1) = 13) (h7 : ¬ (mI σ 516 o2) = x3) (h8 : (mI σ 517 o2) = x3) : Z_X2_noteRecord_p36 R σ o1 o2 x3 x4 x5 = (Z_X8_dropRecord R σ o2) := by unfold Z_X2_noteRecord_p36; exact Eq.trans (if_neg h0) (Eq.trans (if_neg h1) (Eq.trans (if_neg h2) (Eq.trans (if_neg h3) (Eq.trans (if_neg h4) (Eq.trans (if_neg h5) (Eq.trans (if_pos h6) (Eq.trans (if_neg h7) (if_pos h8))))))))
theorem zl_X2_noteRecord_p36_17 {R : Nat → Nat → Nat} {σ : SG} {o1 : Nat} {o2 : Nat} {x3 : Int32} {x4 : Int32} {x5 : Int32} (h0 : ¬ (mI σ 200 o1) = 7) (h1 : ¬ (mI σ 200 o1) = 8) (h2 : ¬ (mI σ 200 o1) = 9) (h3 : ¬ (mI σ 200 o1) = 10) (h4 : ¬ (mI σ 200 o1) = 11) (h5 : ¬ (mI σ 200 o1) = 12) (h6 : (mI σ 200 o1) = 13) (h7 : ¬ (mI σ 516 o2) = x3) (h8 : ¬ (mI σ 517 o2) = x3) : Z_X2_noteRecord_p36 R σ o1 o2 x3 x4 x5 = σ := by unfold Z_X2_noteRecord_p36; exact Eq.trans (if_neg h0) (Eq.trans (if_neg h1) (Eq.trans (if_neg h2) (Eq.trans (if_neg h3) (Eq.trans (if_neg h4) (Eq.trans (if_neg h5) (Eq.trans (if_pos h6) (Eq.trans (if_neg h7) (if_neg h8))))))))
theorem zl_X2_noteRecord_p36_18 {R : Nat → Nat → Nat} {σ : SG} {o1 : Nat} {o2 : Nat} {x3 : Int32} {x4 : Int32} {x5 : Int32} (h0 : ¬ (mI σ 200 o1) = 7) (h1 : ¬ (mI σ 200 o1) = 8) (h2 : ¬ (mI σ 200 o1) = 9) (h3 : ¬ (mI σ 200 o1) = 10) (h4 : ¬ (mI σ 200 o1) = 11) (h5 : ¬ (mI σ 200 o1) = 12) (h6 : ¬ (mI σ 200 o1) = 13) (h7 : (mI σ 200 o1) = 14) : Z_X2_noteRecord_p36 R σ o1 o2 x3 x4 x5 = (Z_X8_dropRecord R σ o2) := by unfold Z_X2_noteRecord_p36; exact Eq.trans (if_neg h0) (Eq.trans (if_neg h1) (Eq.trans (if_neg h2) (Eq.trans (if_neg h3) (Eq.trans (if_neg h4) (Eq.trans (if_neg h5) (Eq.trans (if_neg h6) (if_pos h7)))))))
theorem zl_X2_noteRecord_p36_19 {R : Nat → Nat → Nat} {σ : SG} {o1 : Nat} {o2 : Nat} {x3 : Int32} {x4 : Int32} {x5 : Int32} (h0 : ¬ (mI σ 200 o1) = 7) (h1 : ¬ (mI σ 200 o1) = 8) (h2 : ¬ (mI σ 200 o1) = 9) (h3 : ¬ (mI σ 200 o1) = 10) (h4 : ¬ (mI σ 200 o1) = 11) (h5 : ¬ (mI σ 200 o1) = 12) (h6 : ¬ (mI σ 200 o1) = 13) (h7 : ¬ (mI σ 200 o1) = 14) (h8 : (mI σ 200 o1) = 15) : Z_X2_noteRecord_p36 R σ o1 o2 x3 x4 x5 = (Z_X8_dropRecord R σ o2) := by unfold Z_X2_noteRecord_p36; exact Eq.trans (if_neg h0) (Eq.trans (if_neg h1) (Eq.trans (if_neg h2) (Eq.trans (if_neg h3) (Eq.trans (if_neg h4) (Eq.trans (if_neg h5) (Eq.trans (if_neg h6) (Eq.trans (if_neg h7) (if_pos h8))))))))
theorem zl_X2_noteRecord_p36_20 {R : Nat → Nat → Nat} {σ : SG} {o1 : Nat} {o2 : Nat} {x3 : Int32} {x4 : Int32} {x5 : Int32} (h0 : ¬ (mI σ 200 o1) = 7) (h1 : ¬ (mI σ 200 o1) = 8) (h2 : ¬ (mI σ 200 o1) = 9) (h3 : ¬ (mI σ 200 o1) = 10) (h4 : ¬ (mI σ 200 o1) = 11) (h5 : ¬ (mI σ 200 o1) = 12) (h6 : ¬ (mI σ 200 o1) = 13) (h7 : ¬ (mI σ 200 o1) = 14) (h8 : ¬ (mI σ 200 o1) = 15) (h9 : (mI σ 200 o1) = 16) : Z_X2_noteRecord_p36 R σ o1 o2 x3 x4 x5 = (Z_X8_dropRecord R σ o2) := by unfold Z_X2_noteRecord_p36; exact Eq.trans (if_neg h0) (Eq.trans (if_neg h1) (Eq.trans (if_neg h2) (Eq.trans (if_neg h3) (Eq.trans (if_neg h4) (Eq.trans (if_neg h5) (Eq.trans (if_neg h6) (Eq.trans (if_neg h7) (Eq.trans (if_neg h8) (if_pos h9)))))))))
theorem zl_X2_noteRecord_p36_21 {R : Nat → Nat → Nat} {σ : SG} {o1 : Nat} {o2 : Nat} {x3 : Int32} {x4 : Int32} {x5 : Int32} (h0 : ¬ (mI σ 200 o1) = 7) (h1 : ¬ (mI σ 200 o1) = 8) (h2 : ¬ (mI σ 200 o1) = 9) (h3 : ¬ (mI σ 200 o1) = 10) (h4 : ¬ (mI σ 200 o1) = 11) (h5 : ¬ (mI σ 200 o1) = 12) (h6 : ¬ (mI σ 200 o1) = 13) (h7 : ¬ (mI σ 200 o1) = 14) (h8 : ¬ (mI σ 200 o1) = 15) (h9 : ¬ (mI σ 200 o1) = 16) (h10 : (mI σ 200 o1) = 17) : Z_X2_noteRecord_p36 R σ o1 o2 x3 x4 x5 = (Z_X8_dropRecord R σ o2) := by unfold Z_X2_noteRecord_p36; exact Eq.trans (if_neg h0) (Eq.trans (if_neg h1) (Eq.trans (if_neg h2) (Eq.trans (if_neg h3) (Eq.trans (if_neg h4) (Eq.trans (if_neg h5) (Eq.trans (if_neg h6) (Eq.trans (if_neg h7) (Eq.trans (if_neg h8) (Eq.trans (if_neg h9) (if_pos h10))))))))))
theorem zl_X2_noteRecord_p36_22 {R : Nat → Nat → Nat} {σ : SG} {o1 : Nat} {o2 : Nat} {x3 : Int32} {x4 : Int32} {x5 : Int32} (h0 : ¬ (mI σ 200 o1) = 7) (h1 : ¬ (mI σ 200 o1) = 8) (h2 : ¬ (mI σ 200 o1) = 9) (h3 : ¬ (mI σ 200 o1) = 10) (h4 : ¬ (mI σ 200 o1) = 11) (h5 : ¬ (mI σ 200 o1) = 12) (h6 : ¬ (mI σ 200 o1) = 13) (h7 : ¬ (mI σ 200 o1) = 14) (h8 : ¬ (mI σ 200 o1) = 15) (h9 : ¬ (mI σ 200 o1) = 16) (h10 : ¬ (mI σ 200 o1) = 17) (h11 : (mI σ 200 o1) = 18) (h12 : (mI σ 516 o2) = x3) : Z_X2_noteRecord_p36 R σ o1 o2 x3 x4 x5 = (Z_X8_dropRecord R σ o2) := by unfold Z_X2_noteRecord_p36; exact Eq.trans (if_neg h0) (Eq.trans (if_neg h1) (Eq.trans (if_neg h2) (Eq.trans (if_neg h3) (Eq.trans (if_neg h4) (Eq.trans (if_neg h5) (Eq.trans (if_neg h6) (Eq.trans (if_neg h7) (Eq.trans (if_neg h8) (Eq.trans (if_neg h9) (Eq.trans (if_neg h10) (Eq.trans (if_pos h11) (if_pos h12))))))))))))
theorem zl_X2_noteRecord_p36_23 {R : Nat → Nat → Nat} {σ : SG} {o1 : Nat} {o2 : Nat} {x3 : Int32} {x4 : Int32} {x5 : Int32} (h0 : ¬ (mI σ 200 o1) = 7) (h1 : ¬ (mI σ 200 o1) = 8) (h2 : ¬ (mI σ 200 o1) = 9) (h3 : ¬ (mI σ 200 o1) = 10) (h4 : ¬ (mI σ 200 o1) = 11) (h5 : ¬ (mI σ 200 o1) = 12) (h6 : ¬ (mI σ 200 o1) = 13) (h7 : ¬ (mI σ 200 o1) = 14) (h8 : ¬ (mI σ 200 o1) = 15) (h9 : ¬ (mI σ 200 o1) = 16) (h10 : ¬ (mI σ 200 o1) = 17) (h11 : (mI σ 200 o1) = 18) (h12 : ¬ (mI σ 516 o2) = x3) (h13 : (mI σ 517 o2) = x3) : Z_X2_noteRecord_p36 R σ o1 o2 x3 x4 x5 = (Z_X8_dropRecord R σ o2) := by unfold Z_X2_noteRecord_p36; exact Eq.trans (if_neg h0) (Eq.trans (if_neg h1) (Eq.trans (if_neg h2) (Eq.trans (if_neg h3) (Eq.trans (if_neg h4) (Eq.trans (if_neg h5) (Eq.trans (if_neg h6) (Eq.trans (if_neg h7) (Eq.trans (if_neg h8) (Eq.trans (if_neg h9) (Eq.trans (if_neg h10) (Eq.trans (if_pos h11) (Eq.trans (if_neg h12) (if_pos h13)))))))))))))
theorem zl_X2_noteRecord_p36_24 {R : Nat → Nat → Nat} {σ : SG} {o1 : Nat} {o2 : Nat} {x3 : Int32} {x4 : Int32} {x5 : Int32} (h0 : ¬ (mI σ 200 o1) = 7) (h1 : ¬ (mI σ 200 o1) = 8) (h2 : ¬ (mI σ 200 o1) = 9) (h3 : ¬ (mI σ 200 o1) = 10) (h4 : ¬ (mI σ 200 o1) = 11) (h5 : ¬ (mI σ 200 o1) = 12) (h6 : ¬ (mI σ 200 o1) = 13) (h7 : ¬ (mI σ 200 o1) = 14) (h8 : ¬ (mI σ 200 o1) = 15) (h9 : ¬ (mI σ 200 o1) = 16) (h10 : ¬ (mI σ 200 o1) = 17) (h11 : (mI σ 200 o1) = 18) (h12 : ¬ (mI σ 516 o2) = x3) (h13 : ¬ (mI σ 517 o2) = x3) : Z_X2_noteRecord_p36 R σ o1 o2 x3 x4 x5 = σ := by unfold Z_X2_noteRecord_p36; exact Eq.trans (if_neg h0) (Eq.trans (if_neg h1) (Eq.trans (if_neg h2) (Eq.trans (if_neg h3) (Eq.trans (if_neg h4) (Eq.trans (if_neg h5) (Eq.trans (if_neg h6) (Eq.trans (if_neg h7) (Eq.trans (if_neg h8) (Eq.trans (if_neg h9) (Eq.trans (if_neg h10) (Eq.trans (if_pos h11) (Eq.trans (if_neg h12) (if_neg h13)))))))))))))
theorem zl_X2_noteRecord_p36_25 {R : Nat → Nat → Nat} {σ : SG} {o1 : Nat} {o2 : Nat} {x3 : Int32} {x4 : Int32} {x5 : Int32} (h0 : ¬ (mI σ 200 o1) = 7) (h1 : ¬ (mI σ 200 o1) = 8) (h2 : ¬ (mI σ 200 o1) = 9) (h3 : ¬ (mI σ 200 o1) = 10) (h4 : ¬ (mI σ 200 o1) = 11) (h5 : ¬ (mI σ 200 o1) = 12) (h6 : ¬ (mI σ 200 o1) = 13) (h7 : ¬ (mI σ 200 o1) = 14) (h8 : ¬ (mI σ 200 o1) = 15) (h9 : ¬ (mI σ 200 o1) = 16) (h10 : ¬ (mI σ 200 o1) = 17) (h11 : ¬ (mI σ 200 o1) = 18) (h12 : x4 = 0) : Z_X2_noteRecord_p36 R σ o1 o2 x3 x4 x5 = (Z_X8_dropRecord R σ o2) := by unfold Z_X2_noteRecord_p36; exact Eq.trans (if_neg h0) (Eq.trans (if_neg h1) (Eq.trans (if_neg h2) (Eq.trans (if_neg h3) (Eq.trans (if_neg h4) (Eq.trans (if_neg h5) (Eq.trans (if_neg h6) (Eq.trans (if_neg h7) (Eq.trans (if_neg h8) (Eq.trans (if_neg h9) (Eq.trans (if_neg h10) (Eq.trans (if_neg h11) (if_pos h12))))))))))))
theorem zl_X2_noteRecord_p36_26 {R : Nat → Nat → Nat} {σ : SG} {o1 : Nat} {o2 : Nat} {x3 : Int32} {x4 : Int32} {x5 : Int32} (h0 : ¬ (mI σ 200 o1) = 7) (h1 : ¬ (mI σ 200 o1) = 8) (h2 : ¬ (mI σ 200 o1) = 9) (h3 : ¬ (mI σ 200 o1) = 10) (h4 : ¬ (mI σ 200 o1) = 11) (h5 : ¬ (mI σ 200 o1) = 12) (h6 : ¬ (mI σ 200 o1) = 13) (h7 : ¬ (mI σ 200 o1) = 14) (h8 : ¬ (mI σ 200 o1) = 15) (h9 : ¬ (mI σ 200 o1) = 16) (h10 : ¬ (mI σ 200 o1) = 17) (h11 : ¬ (mI σ 200 o1) = 18) (h12 : ¬ x4 = 0) : Z_X2_noteRecord_p36 R σ o1 o2 x3 x4 x5 = (Z_X8_setRecord R σ o2 (2) (x3) ((-1)) (0)) := by unfold Z_X2_noteRecord_p36; exact Eq.trans (if_neg h0) (Eq.trans (if_neg h1) (Eq.trans (if_neg h2) (Eq.trans (if_neg h3) (Eq.trans (if_neg h4) (Eq.trans (if_neg h5) (Eq.trans (if_neg h6) (Eq.trans (if_neg h7) (Eq.trans (if_neg h8) (Eq.trans (if_neg h9) (Eq.trans (if_neg h10) (Eq.trans (if_neg h11) (if_neg h12))))))))))))
set_option maxHeartbeats 40000000 in
theorem cz_X2_noteRecord_p36 {xi : SX} {S : Hp} {E : List Nat} {kc nc : Nat} {P : Po} {o1 : Nat} {o2 : Nat} {x3 : Int32} {x4 : Int32} {x5 : Int32} {R : Nat → Nat → Nat} (hG : GI S E) (h1 : Oa S E 3 0 o1) (h2 : Oa S E 8 0 o2) (h4 : Rg 0 1 x4) (h5 : Rg 0 1 x5) (hR : RK S R) (hP : ∀ r T x y, PV E [515, 516, 517, 9987] S kc nc rV (fun v T => sg T = Z_X2_noteRecord_p36 R (sg S) o1 o2 x3 x4 x5) [] r T x y → P r T x y) : TT xi M_X2_noteRecord 36 [(1, .ref o1), (2, .ref o2), (3, .int x3), (4, .int x4), (5, .int x5)] [] S kc nc P := by
  have hA : Af E [515, 516, 517, 9987] S S := af_rf
  refine tt_aload_n (j := 0) dX2_noteRecord_36 rfl ?_
  refine gt_gI (id := 200) (v := (mI (sg S) 200 o1)) dX2_noteRecord_37 fl_2_24 rfl rfl h1 hA (sg_I (k := 200) (o := o1) (show sg S = (sg S) from rfl)) ?_
  refine gt_by (c := (mI (sg S) 200 o1) = 7) (fun q101 => ?_) (fun q101 => ?_)
  · skip
    refine gt_tseqL (off := 85) (tgt := 125) 7 7 dX2_noteRecord_40 sl_Z_X2_noteRecord_p36_40 q101 rfl (by decide) (by decide) rfl rfl ?_
    refine tt_iload (j := 3) dX2_noteRecord_125 rfl ?_
    refine tt_if_eq (tgt := 186) dX2_noteRecord_127 rfl (fun q102 => ?_) (fun q102 => ?_)
    · skip
      have h103 : Rg 0 0 x4 := rg_eq_l h4 (⟨by decide, by decide⟩ : Rg 0 0 0) q102
      refine tt_aload_n (j := 1) dX2_noteRecord_186 rfl ?_
      refine gt_Vv (As := []) dX2_noteRecord_187 ca_X2_92 ⟨by decide, by decide⟩ h2 hA rfl (Nat.le_of_ble_eq_true rfl) (Nat.le_of_ble_eq_true rfl) (by decide) (cz_X8_dropRecord hG (oa_af h2 hA) hR (fun _ _ _ _ h => h)) rfl (fun _ h => nomatch h) (fun S104 hx108 hG105 hB106 hA107 => ?_)
      obtain ⟨d109, hd110⟩ : ∃ q, Z_X8_dropRecord R (sg S) o2 = q := ⟨_, rfl⟩
      have hq111 := (congrArg (fun q9 => Z_X8_dropRecord R q9 o2) (show sg S = (sg S) from rfl)).trans hd110
      have hs112 := hx108.trans hq111
      have hF : Z_X2_noteRecord_p36 R (sg S) o1 o2 x3 x4 x5 = d109 := by
        subst hd110
        exact zl_X2_noteRecord_p36_0 q101 q102
      exact tt_vreturn dX2_noteRecord_190 rfl (hP _ _ _ _ ⟨hG105, hA107, Or.inl ⟨_, rfl, rfl, Eq.trans hs112 hF.symm, rfl, rfl⟩⟩)
    · skip
      have h113 : Rg 1 1 x4 := rg_ne_lo h4 (⟨by decide, by decide⟩ : Rg 0 0 0) q102
      refine tt_iload (j := 4) dX2_noteRecord_130 rfl ?_
      refine tt_if_ne (tgt := 186) dX2_noteRecord_132 rfl (fun q114 => ?_) (fun q114 => ?_)
      · skip
        have h115 : Rg 1 1 x5 := rg_ne_lo h5 (⟨by decide, by decide⟩ : Rg 0 0 0) q114
        refine tt_aload_n (j := 1) dX2_noteRecord_186 rfl ?_
        refine gt_Vv (As := []) dX2_noteRecord_187 ca_X2_92 ⟨by decide, by decide⟩ h2 hA rfl (Nat.le_of_ble_eq_true rfl) (Nat.le_of_ble_eq_true rfl) (by decide) (cz_X8_dropRecord hG (oa_af h2 hA) hR (fun _ _ _ _ h => h)) rfl (fun _ h => nomatch h) (fun S116 hx120 hG117 hB118 hA119 => ?_)
        obtain ⟨d121, hd122⟩ : ∃ q, Z_X8_dropRecord R (sg S) o2 = q := ⟨_, rfl⟩
        have hq123 := (congrArg (fun q9 => Z_X8_dropRecord R q9 o2) (show sg S = (sg S) from rfl)).trans hd122
        have hs124 := hx120.trans hq123
        have hF : Z_X2_noteRecord_p36 R (sg S) o1 o2 x3 x4 x5 = d121 := by
          subst hd122
          exact zl_X2_noteRecord_p36_2 q101 q102 q114
        exact tt_vreturn dX2_noteRecord_190 rfl (hP _ _ _ _ ⟨hG117, hA119, Or.inl ⟨_, rfl, rfl, Eq.trans hs124 hF.symm, rfl, rfl⟩⟩)
      · skip
        have h125 : Rg 0 0 x5 := rg_eq_l h5 (⟨by decide, by decide⟩ : Rg 0 0 0) q114
        refine tt_aload_n (j := 1) dX2_noteRecord_135 rfl ?_
        refine tt_iconst (v := 1) dX2_noteRecord_136 rfl ?_
        refine tt_iload_n (j := 2) dX2_noteRecord_137 rfl ?_
        refine tt_aload_n (j := 0) dX2_noteRecord_138 rfl ?_
        refine gt_gI (id := 203) (v := (mI (sg S) 203 o1)) dX2_noteRecord_139 fl_2_56 rfl rfl h1 hA (sg_I (k := 203) (o := o1) (show sg S = (sg S) from rfl)) ?_
        refine tt_aload_n (j := 0) dX2_noteRecord_142 rfl ?_
        refine gt_gJ (id := 205) (v := (mJ (sg S) 205 o1)) dX2_noteRecord_143 fl_2_59 rfl rfl h1 hA (sg_J (k := 205) (o := o1) (show sg S = (sg S) from rfl)) ?_
        refine gt_Vv (As := [.int 1, .int x3, .int (mI (sg S) 203 o1), .long (mJ (sg S) 205 o1)]) dX2_noteRecord_146 ca_X2_95 ⟨by decide, by decide⟩ h2 hA rfl (Nat.le_of_ble_eq_true rfl) (Nat.le_of_ble_eq_true rfl) (by decide) (cz_X8_setRecord hG (oa_af h2 hA) hR (fun _ _ _ _ h => h)) rfl (fun _ h => nomatch h) (fun S126 hx130 hG127 hB128 hA129 => ?_)
        obtain ⟨d131, hd132⟩ : ∃ q, Z_X8_setRecord R (sg S) o2 (1) (x3) ((mI (sg S) 203 o1)) ((mJ (sg S) 205 o1)) = q := ⟨_, rfl⟩
        have hq133 := (congrArg (fun q9 => Z_X8_setRecord R q9 o2 (1) (x3) ((mI (sg S) 203 o1)) ((mJ (sg S) 205 o1))) (show sg S = (sg S) from rfl)).trans hd132
        have hs134 := hx130.trans hq133
        have hF : Z_X2_noteRecord_p36 R (sg S) o1 o2 x3 x4 x5 = d131 := by
          subst hd132
          exact zl_X2_noteRecord_p36_1 q101 q102 q114
        exact tt_vreturn dX2_noteRecord_149 rfl (hP _ _ _ _ ⟨hG127, hA129, Or.inl ⟨_, rfl, rfl, Eq.trans hs134 hF.symm, rfl, rfl⟩⟩)
  refine gt_by (c := (mI (sg S) 200 o1) = 8) (fun q135 => ?_) (fun q135 => ?_)
  · skip
    refine gt_tseqL (off := 110) (tgt := 150) 8 8 dX2_noteRecord_40 sl_Z_X2_noteRecord_p36_40 q135 rfl (by decide) (by decide) rfl rfl ?_
    refine tt_iload (j := 3) dX2_noteRecord_150 rfl ?_
    refine tt_if_eq (tgt := 186) dX2_noteRecord_152 rfl (fun q136 => ?_) (fun q136 => ?_)
    · skip
      have h137 : Rg 0 0 x4 := rg_eq_l h4 (⟨by decide, by decide⟩ : Rg 0 0 0) q136
      refine tt_aload_n (j := 1) dX2_noteRecord_186 rfl ?_
      refine gt_Vv (As := []) dX2_noteRecord_187 ca_X2_92 ⟨by decide, by decide⟩ h2 hA rfl (Nat.le_of_ble_eq_true rfl) (Nat.le_of_ble_eq_true rfl) (by decide) (cz_X8_dropRecord hG (oa_af h2 hA) hR (fun _ _ _ _ h => h)) rfl (fun _ h => nomatch h) (fun S138 hx142 hG139 hB140 hA141 => ?_)
      obtain ⟨d143, hd144⟩ : ∃ q, Z_X8_dropRecord R (sg S) o2 = q := ⟨_, rfl⟩
      have hq145 := (congrArg (fun q9 => Z_X8_dropRecord R q9 o2) (show sg S = (sg S) from rfl)).trans hd144
      have hs146 := hx142.trans hq145
      have hF : Z_X2_noteRecord_p36 R (sg S) o1 o2 x3 x4 x5 = d143 := by
        subst hd144
        exact zl_X2_noteRecord_p36_3 q101 q135 q136
      exact tt_vreturn dX2_noteRecord_190 rfl (hP _ _ _ _ ⟨hG139, hA141, Or.inl ⟨_, rfl, rfl, Eq.trans hs146 hF.symm, rfl, rfl⟩⟩)
    · skip
      have h147 : Rg 1 1 x4 := rg_ne_lo h4 (⟨by decide, by decide⟩ : Rg 0 0 0) q136
      refine tt_iload (j := 4) dX2_noteRecord_155 rfl ?_
      refine tt_if_eq (tgt := 186) dX2_noteRecord_157 rfl (fun q148 => ?_) (fun q148 => ?_)
      · skip
        have h149 : Rg 0 0 x5 := rg_eq_l h5 (⟨by decide, by decide⟩ : Rg 0 0 0) q148
        refine tt_aload_n (j := 1) dX2_noteRecord_186 rfl ?_
        refine gt_Vv (As := []) dX2_noteRecord_187 ca_X2_92 ⟨by decide, by decide⟩ h2 hA rfl (Nat.le_of_ble_eq_true rfl) (Nat.le_of_ble_eq_true rfl) (by decide) (cz_X8_dropRecord hG (oa_af h2 hA) hR (fun _ _ _ _ h => h)) rfl (fun _ h => nomatch h) (fun S150 hx154 hG151 hB152 hA153 => ?_)
        obtain ⟨d155, hd156⟩ : ∃ q, Z_X8_dropRecord R (sg S) o2 = q := ⟨_, rfl⟩
        have hq157 := (congrArg (fun q9 => Z_X8_dropRecord R q9 o2) (show sg S = (sg S) from rfl)).trans hd156
        have hs158 := hx154.trans hq157
        have hF : Z_X2_noteRecord_p36 R (sg S) o1 o2 x3 x4 x5 = d155 := by
          subst hd156
          exact zl_X2_noteRecord_p36_4 q101 q135 q136 q148
        exact tt_vreturn dX2_noteRecord_190 rfl (hP _ _ _ _ ⟨hG151, hA153, Or.inl ⟨_, rfl, rfl, Eq.trans hs158 hF.symm, rfl, rfl⟩⟩)
      · skip
        have h159 : Rg 1 1 x5 := rg_ne_lo h5 (⟨by decide, by decide⟩ : Rg 0 0 0) q148
        refine tt_aload_n (j := 1) dX2_noteRecord_160 rfl ?_
        refine tt_iconst (v := 2) dX2_noteRecord_161 rfl ?_
        refine tt_iload_n (j := 2) dX2_noteRecord_162 rfl ?_
        refine tt_iconst (v := (-1)) dX2_noteRecord_163 rfl ?_
        refine tt_lconst (v := 0) dX2_noteRecord_164 rfl ?_
        refine gt_Vv (As := [.int 2, .int x3, .int (-1), .long 0]) dX2_noteRecord_165 ca_X2_95 ⟨by decide, by decide⟩ h2 hA rfl (Nat.le_of_ble_eq_true rfl) (Nat.le_of_ble_eq_true rfl) (by decide) (cz_X8_setRecord hG (oa_af h2 hA) hR (fun _ _ _ _ h => h)) rfl (fun _ h => nomatch h) (fun S160 hx164 hG161 hB162 hA163 => ?_)
        obtain ⟨d165, hd166⟩ : ∃ q, Z_X8_setRecord R (sg S) o2 (2) (x3) ((-1)) (0) = q := ⟨_, rfl⟩
        have hq167 := (congrArg (fun q9 => Z_X8_setRecord R q9 o2 (2) (x3) ((-1)) (0)) (show sg S = (sg S) from rfl)).trans hd166
        have hs168 := hx164.trans hq167
        have hF : Z_X2_noteRecord_p36 R (sg S) o1 o2 x3 x4 x5 = d165 := by
          subst hd166
          exact zl_X2_noteRecord_p36_5 q101 q135 q136 q148
        exact tt_vreturn dX2_noteRecord_168 rfl (hP _ _ _ _ ⟨hG161, hA163, Or.inl ⟨_, rfl, rfl, Eq.trans hs168 hF.symm, rfl, rfl⟩⟩)
  refine gt_by (c := (mI (sg S) 200 o1) = 9) (fun q169 => ?_) (fun q169 => ?_)
  · skip
    refine gt_tseqL (off := 64) (tgt := 104) 9 9 dX2_noteRecord_40 sl_Z_X2_noteRecord_p36_40 q169 rfl (by decide) (by decide) rfl rfl ?_
    refine tt_aload_n (j := 1) dX2_noteRecord_104 rfl ?_
    refine gt_gI (id := 516) (v := (mI (sg S) 516 o2)) dX2_noteRecord_105 fl_2_86 rfl rfl h2 hA (sg_I (k := 516) (o := o2) (show sg S = (sg S) from rfl)) ?_
    refine tt_iload_n (j := 2) dX2_noteRecord_108 rfl ?_
    refine tt_icmp_eq (tgt := 120) dX2_noteRecord_109 rfl (fun q170 => ?_) (fun q170 => ?_)
    · skip
      refine tt_aload_n (j := 1) dX2_noteRecord_120 rfl ?_
      refine gt_Vv (As := []) dX2_noteRecord_121 ca_X2_92 ⟨by decide, by decide⟩ h2 hA rfl (Nat.le_of_ble_eq_true rfl) (Nat.le_of_ble_eq_true rfl) (by decide) (cz_X8_dropRecord hG (oa_af h2 hA) hR (fun _ _ _ _ h => h)) rfl (fun _ h => nomatch h) (fun S171 hx175 hG172 hB173 hA174 => ?_)
      obtain ⟨d176, hd177⟩ : ∃ q, Z_X8_dropRecord R (sg S) o2 = q := ⟨_, rfl⟩
      have hq178 := (congrArg (fun q9 => Z_X8_dropRecord R q9 o2) (show sg S = (sg S) from rfl)).trans hd177
      have hs179 := hx175.trans hq178
      have hF : Z_X2_noteRecord_p36 R (sg S) o1 o2 x3 x4 x5 = d176 := by
        subst hd177
        exact zl_X2_noteRecord_p36_6 q101 q135 q169 q170
      exact tt_vreturn dX2_noteRecord_124 rfl (hP _ _ _ _ ⟨hG172, hA174, Or.inl ⟨_, rfl, rfl, Eq.trans hs179 hF.symm, rfl, rfl⟩⟩)
    · skip
      refine tt_aload_n (j := 1) dX2_noteRecord_112 rfl ?_
      refine gt_gI (id := 517) (v := (mI (sg S) 517 o2)) dX2_noteRecord_113 fl_2_89 rfl rfl h2 hA (sg_I (k := 517) (o := o2) (show sg S = (sg S) from rfl)) ?_
      refine tt_iload_n (j := 2) dX2_noteRecord_116 rfl ?_
      refine tt_icmp_ne (tgt := 124) dX2_noteRecord_117 rfl (fun q180 => ?_) (fun q180 => ?_)
      · skip
        have hF : Z_X2_noteRecord_p36 R (sg S) o1 o2 x3 x4 x5 = (sg S) := by
          exact zl_X2_noteRecord_p36_8 q101 q135 q169 q170 q180
        exact tt_vreturn dX2_noteRecord_124 rfl (hP _ _ _ _ ⟨hG, hA, Or.inl ⟨_, rfl, rfl, Eq.trans (show sg S = (sg S) from rfl) hF.symm, rfl, rfl⟩⟩)
      · skip
        refine tt_aload_n (j := 1) dX2_noteRecord_120 rfl ?_
        refine gt_Vv (As := []) dX2_noteRecord_121 ca_X2_92 ⟨by decide, by decide⟩ h2 hA rfl (Nat.le_of_ble_eq_true rfl) (Nat.le_of_ble_eq_true rfl) (by decide) (cz_X8_dropRecord hG (oa_af h2 hA) hR (fun _ _ _ _ h => h)) rfl (fun _ h => nomatch h) (fun S181 hx185 hG182 hB183 hA184 => ?_)
        obtain ⟨d186, hd187⟩ : ∃ q, Z_X8_dropRecord R (sg S) o2 = q := ⟨_, rfl⟩
        have hq188 := (congrArg (fun q9 => Z_X8_dropRecord R q9 o2) (show sg S = (sg S) from rfl)).trans hd187
        have hs189 := hx185.trans hq188
        have hF : Z_X2_noteRecord_p36 R (sg S) o1 o2 x3 x4 x5 = d186 := by
          subst hd187
          exact zl_X2_noteRecord_p36_7 q101 q135 q169 q170 q180
        exact tt_vreturn dX2_noteRecord_124 rfl (hP _ _ _ _ ⟨hG182, hA184, Or.inl ⟨_, rfl, rfl, Eq.trans hs189 hF.symm, rfl, rfl⟩⟩)
  refine gt_by (c := (mI (sg S) 200 o1) = 10) (fun q190 => ?_) (fun q190 => ?_)
  · skip
    refine gt_tseqL (off := 132) (tgt := 172) 10 10 dX2_noteRecord_40 sl_Z_X2_noteRecord_p36_40 q190 rfl (by decide) (by decide) rfl rfl ?_
    refine tt_iload (j := 3) dX2_noteRecord_172 rfl ?_
    refine tt_if_eq (tgt := 186) dX2_noteRecord_174 rfl (fun q191 => ?_) (fun q191 => ?_)
    · skip
      have h192 : Rg 0 0 x4 := rg_eq_l h4 (⟨by decide, by decide⟩ : Rg 0 0 0) q191
      refine tt_aload_n (j := 1) dX2_noteRecord_186 rfl ?_
      refine gt_Vv (As := []) dX2_noteRecord_187 ca_X2_92 ⟨by decide, by decide⟩ h2 hA rfl (Nat.le_of_ble_eq_true rfl) (Nat.le_of_ble_eq_true rfl) (by decide) (cz_X8_dropRecord hG (oa_af h2 hA) hR (fun _ _ _ _ h => h)) rfl (fun _ h => nomatch h) (fun S193 hx197 hG194 hB195 hA196 => ?_)
      obtain ⟨d198, hd199⟩ : ∃ q, Z_X8_dropRecord R (sg S) o2 = q := ⟨_, rfl⟩
      have hq200 := (congrArg (fun q9 => Z_X8_dropRecord R q9 o2) (show sg S = (sg S) from rfl)).trans hd199
      have hs201 := hx197.trans hq200
      have hF : Z_X2_noteRecord_p36 R (sg S) o1 o2 x3 x4 x5 = d198 := by
        subst hd199
        exact zl_X2_noteRecord_p36_9 q101 q135 q169 q190 q191
      exact tt_vreturn dX2_noteRecord_190 rfl (hP _ _ _ _ ⟨hG194, hA196, Or.inl ⟨_, rfl, rfl, Eq.trans hs201 hF.symm, rfl, rfl⟩⟩)
    · skip
      have h202 : Rg 1 1 x4 := rg_ne_lo h4 (⟨by decide, by decide⟩ : Rg 0 0 0) q191
      refine tt_aload_n (j := 1) dX2_noteRecord_177 rfl ?_
      refine tt_iconst (v := 2) dX2_noteRecord_178 rfl ?_
      refine tt_iload_n (j := 2) dX2_noteRecord_179 rfl ?_
      refine tt_iconst (v := (-1)) dX2_noteRecord_180 rfl ?_
      refine tt_lconst (v := 0) dX2_noteRecord_181 rfl ?_
      refine gt_Vv (As := [.int 2, .int x3, .int (-1), .long 0]) dX2_noteRecord_182 ca_X2_95 ⟨by decide, by decide⟩ h2 hA rfl (Nat.le_of_ble_eq_true rfl) (Nat.le_of_ble_eq_true rfl) (by decide) (cz_X8_setRecord hG (oa_af h2 hA) hR (fun _ _ _ _ h => h)) rfl (fun _ h => nomatch h) (fun S203 hx207 hG204 hB205 hA206 => ?_)
      obtain ⟨d208, hd209⟩ : ∃ q, Z_X8_setRecord R (sg S) o2 (2) (x3) ((-1)) (0) = q := ⟨_, rfl⟩
      have hq210 := (congrArg (fun q9 => Z_X8_setRecord R q9 o2 (2) (x3) ((-1)) (0)) (show sg S = (sg S) from rfl)).trans hd209
      have hs211 := hx207.trans hq210
      have hF : Z_X2_noteRecord_p36 R (sg S) o1 o2 x3 x4 x5 = d208 := by
        subst hd209
        exact zl_X2_noteRecord_p36_10 q101 q135 q169 q190 q191
      exact tt_vreturn dX2_noteRecord_185 rfl (hP _ _ _ _ ⟨hG204, hA206, Or.inl ⟨_, rfl, rfl, Eq.trans hs211 hF.symm, rfl, rfl⟩⟩)
  refine gt_by (c := (mI (sg S) 200 o1) = 11) (fun q212 => ?_) (fun q212 => ?_)
  · skip
    refine gt_tseqL (off := 132) (tgt := 172) 11 11 dX2_noteRecord_40 sl_Z_X2_noteRecord_p36_40 q212 rfl (by decide) (by decide) rfl rfl ?_
    refine tt_iload (j := 3) dX2_noteRecord_172 rfl ?_
    refine tt_if_eq (tgt := 186) dX2_noteRecord_174 rfl (fun q213 => ?_) (fun q213 => ?_)
    · skip
      have h214 : Rg 0 0 x4 := rg_eq_l h4 (⟨by decide, by decide⟩ : Rg 0 0 0) q213
      refine tt_aload_n (j := 1) dX2_noteRecord_186 rfl ?_
      refine gt_Vv (As := []) dX2_noteRecord_187 ca_X2_92 ⟨by decide, by decide⟩ h2 hA rfl (Nat.le_of_ble_eq_true rfl) (Nat.le_of_ble_eq_true rfl) (by decide) (cz_X8_dropRecord hG (oa_af h2 hA) hR (fun _ _ _ _ h => h)) rfl (fun _ h => nomatch h) (fun S215 hx219 hG216 hB217 hA218 => ?_)
      obtain ⟨d220, hd221⟩ : ∃ q, Z_X8_dropRecord R (sg S) o2 = q := ⟨_, rfl⟩
      have hq222 := (congrArg (fun q9 => Z_X8_dropRecord R q9 o2) (show sg S = (sg S) from rfl)).trans hd221
      have hs223 := hx219.trans hq222
      have hF : Z_X2_noteRecord_p36 R (sg S) o1 o2 x3 x4 x5 = d220 := by
        subst hd221
        exact zl_X2_noteRecord_p36_11 q101 q135 q169 q190 q212 q213
      exact tt_vreturn dX2_noteRecord_190 rfl (hP _ _ _ _ ⟨hG216, hA218, Or.inl ⟨_, rfl, rfl, Eq.trans hs223 hF.symm, rfl, rfl⟩⟩)
    · skip
      have h224 : Rg 1 1 x4 := rg_ne_lo h4 (⟨by decide, by decide⟩ : Rg 0 0 0) q213
      refine tt_aload_n (j := 1) dX2_noteRecord_177 rfl ?_
      refine tt_iconst (v := 2) dX2_noteRecord_178 rfl ?_
      refine tt_iload_n (j := 2) dX2_noteRecord_179 rfl ?_
      refine tt_iconst (v := (-1)) dX2_noteRecord_180 rfl ?_
      refine tt_lconst (v := 0) dX2_noteRecord_181 rfl ?_
      refine gt_Vv (As := [.int 2, .int x3, .int (-1), .long 0]) dX2_noteRecord_182 ca_X2_95 ⟨by decide, by decide⟩ h2 hA rfl (Nat.le_of_ble_eq_true rfl) (Nat.le_of_ble_eq_true rfl) (by decide) (cz_X8_setRecord hG (oa_af h2 hA) hR (fun _ _ _ _ h => h)) rfl (fun _ h => nomatch h) (fun S225 hx229 hG226 hB227 hA228 => ?_)
      obtain ⟨d230, hd231⟩ : ∃ q, Z_X8_setRecord R (sg S) o2 (2) (x3) ((-1)) (0) = q := ⟨_, rfl⟩
      have hq232 := (congrArg (fun q9 => Z_X8_setRecord R q9 o2 (2) (x3) ((-1)) (0)) (show sg S = (sg S) from rfl)).trans hd231
      have hs233 := hx229.trans hq232
      have hF : Z_X2_noteRecord_p36 R (sg S) o1 o2 x3 x4 x5 = d230 := by
        subst hd231
        exact zl_X2_noteRecord_p36_12 q101 q135 q169 q190 q212 q213
      exact tt_vreturn dX2_noteRecord_185 rfl (hP _ _ _ _ ⟨hG226, hA228, Or.inl ⟨_, rfl, rfl, Eq.trans hs233 hF.symm, rfl, rfl⟩⟩)
  refine gt_by (c := (mI (sg S) 200 o1) = 12) (fun q234 => ?_) (fun q234 => ?_)
  · skip
    refine gt_tseqL (off := 132) (tgt := 172) 12 12 dX2_noteRecord_40 sl_Z_X2_noteRecord_p36_40 q234 rfl (by decide) (by decide) rfl rfl ?_
    refine tt_iload (j := 3) dX2_noteRecord_172 rfl ?_
    refine tt_if_eq (tgt := 186) dX2_noteRecord_174 rfl (fun q235 => ?_) (fun q235 => ?_)
    · skip
      have h236 : Rg 0 0 x4 := rg_eq_l h4 (⟨by decide, by decide⟩ : Rg 0 0 0) q235
      refine tt_aload_n (j := 1) dX2_noteRecord_186 rfl ?_
      refine gt_Vv (As := []) dX2_noteRecord_187 ca_X2_92 ⟨by decide, by decide⟩ h2 hA rfl (Nat.le_of_ble_eq_true rfl) (Nat.le_of_ble_eq_true rfl) (by decide) (cz_X8_dropRecord hG (oa_af h2 hA) hR (fun _ _ _ _ h => h)) rfl (fun _ h => nomatch h) (fun S237 hx241 hG238 hB239 hA240 => ?_)
      obtain ⟨d242, hd243⟩ : ∃ q, Z_X8_dropRecord R (sg S) o2 = q := ⟨_, rfl⟩
      have hq244 := (congrArg (fun q9 => Z_X8_dropRecord R q9 o2) (show sg S = (sg S) from rfl)).trans hd243
      have hs245 := hx241.trans hq244
      have hF : Z_X2_noteRecord_p36 R (sg S) o1 o2 x3 x4 x5 = d242 := by
        subst hd243
        exact zl_X2_noteRecord_p36_13 q101 q135 q169 q190 q212 q234 q235
      exact tt_vreturn dX2_noteRecord_190 rfl (hP _ _ _ _ ⟨hG238, hA240, Or.inl ⟨_, rfl, rfl, Eq.trans hs245 hF.symm, rfl, rfl⟩⟩)
    · skip
      have h246 : Rg 1 1 x4 := rg_ne_lo h4 (⟨by decide, by decide⟩ : Rg 0 0 0) q235
      refine tt_aload_n (j := 1) dX2_noteRecord_177 rfl ?_
      refine tt_iconst (v := 2) dX2_noteRecord_178 rfl ?_
      refine tt_iload_n (j := 2) dX2_noteRecord_179 rfl ?_
      refine tt_iconst (v := (-1)) dX2_noteRecord_180 rfl ?_
      refine tt_lconst (v := 0) dX2_noteRecord_181 rfl ?_
      refine gt_Vv (As := [.int 2, .int x3, .int (-1), .long 0]) dX2_noteRecord_182 ca_X2_95 ⟨by decide, by decide⟩ h2 hA rfl (Nat.le_of_ble_eq_true rfl) (Nat.le_of_ble_eq_true rfl) (by decide) (cz_X8_setRecord hG (oa_af h2 hA) hR (fun _ _ _ _ h => h)) rfl (fun _ h => nomatch h) (fun S247 hx251 hG248 hB249 hA250 => ?_)
      obtain ⟨d252, hd253⟩ : ∃ q, Z_X8_setRecord R (sg S) o2 (2) (x3) ((-1)) (0) = q := ⟨_, rfl⟩
      have hq254 := (congrArg (fun q9 => Z_X8_setRecord R q9 o2 (2) (x3) ((-1)) (0)) (show sg S = (sg S) from rfl)).trans hd253
      have hs255 := hx251.trans hq254
      have hF : Z_X2_noteRecord_p36 R (sg S) o1 o2 x3 x4 x5 = d252 := by
        subst hd253
        exact zl_X2_noteRecord_p36_14 q101 q135 q169 q190 q212 q234 q235
      exact tt_vreturn dX2_noteRecord_185 rfl (hP _ _ _ _ ⟨hG248, hA250, Or.inl ⟨_, rfl, rfl, Eq.trans hs255 hF.symm, rfl, rfl⟩⟩)
  refine gt_by (c := (mI (sg S) 200 o1) = 13) (fun q256 => ?_) (fun q256 => ?_)
  · skip
    refine gt_tseqL (off := 64) (tgt := 104) 13 13 dX2_noteRecord_40 sl_Z_X2_noteRecord_p36_40 q256 rfl (by decide) (by decide) rfl rfl ?_
    refine tt_aload_n (j := 1) dX2_noteRecord_104 rfl ?_
    refine gt_gI (id := 516) (v := (mI (sg S) 516 o2)) dX2_noteRecord_105 fl_2_86 rfl rfl h2 hA (sg_I (k := 516) (o := o2) (show sg S = (sg S) from rfl)) ?_
    refine tt_iload_n (j := 2) dX2_noteRecord_108 rfl ?_
    refine tt_icmp_eq (tgt := 120) dX2_noteRecord_109 rfl (fun q257 => ?_) (fun q257 => ?_)
    · skip
      refine tt_aload_n (j := 1) dX2_noteRecord_120 rfl ?_
      refine gt_Vv (As := []) dX2_noteRecord_121 ca_X2_92 ⟨by decide, by decide⟩ h2 hA rfl (Nat.le_of_ble_eq_true rfl) (Nat.le_of_ble_eq_true rfl) (by decide) (cz_X8_dropRecord hG (oa_af h2 hA) hR (fun _ _ _ _ h => h)) rfl (fun _ h => nomatch h) (fun S258 hx262 hG259 hB260 hA261 => ?_)
      obtain ⟨d263, hd264⟩ : ∃ q, Z_X8_dropRecord R (sg S) o2 = q := ⟨_, rfl⟩
      have hq265 := (congrArg (fun q9 => Z_X8_dropRecord R q9 o2) (show sg S = (sg S) from rfl)).trans hd264
      have hs266 := hx262.trans hq265
      have hF : Z_X2_noteRecord_p36 R (sg S) o1 o2 x3 x4 x5 = d263 := by
        subst hd264
        exact zl_X2_noteRecord_p36_15 q101 q135 q169 q190 q212 q234 q256 q257
      exact tt_vreturn dX2_noteRecord_124 rfl (hP _ _ _ _ ⟨hG259, hA261, Or.inl ⟨_, rfl, rfl, Eq.trans hs266 hF.symm, rfl, rfl⟩⟩)
    · skip
      refine tt_aload_n (j := 1) dX2_noteRecord_112 rfl ?_
      refine gt_gI (id := 517) (v := (mI (sg S) 517 o2)) dX2_noteRecord_113 fl_2_89 rfl rfl h2 hA (sg_I (k := 517) (o := o2) (show sg S = (sg S) from rfl)) ?_
      refine tt_iload_n (j := 2) dX2_noteRecord_116 rfl ?_
      refine tt_icmp_ne (tgt := 124) dX2_noteRecord_117 rfl (fun q267 => ?_) (fun q267 => ?_)
      · skip
        have hF : Z_X2_noteRecord_p36 R (sg S) o1 o2 x3 x4 x5 = (sg S) := by
          exact zl_X2_noteRecord_p36_17 q101 q135 q169 q190 q212 q234 q256 q257 q267
        exact tt_vreturn dX2_noteRecord_124 rfl (hP _ _ _ _ ⟨hG, hA, Or.inl ⟨_, rfl, rfl, Eq.trans (show sg S = (sg S) from rfl) hF.symm, rfl, rfl⟩⟩)
      · skip
        refine tt_aload_n (j := 1) dX2_noteRecord_120 rfl ?_
        refine gt_Vv (As := []) dX2_noteRecord_121 ca_X2_92 ⟨by decide, by decide⟩ h2 hA rfl (Nat.le_of_ble_eq_true rfl) (Nat.le_of_ble_eq_true rfl) (by decide) (cz_X8_dropRecord hG (oa_af h2 hA) hR (fun _ _ _ _ h => h)) rfl (fun _ h => nomatch h) (fun S268 hx272 hG269 hB270 hA271 => ?_)
        obtain ⟨d273, hd274⟩ : ∃ q, Z_X8_dropRecord R (sg S) o2 = q := ⟨_, rfl⟩
        have hq275 := (congrArg (fun q9 => Z_X8_dropRecord R q9 o2) (show sg S = (sg S) from rfl)).trans hd274
        have hs276 := hx272.trans hq275
        have hF : Z_X2_noteRecord_p36 R (sg S) o1 o2 x3 x4 x5 = d273 := by
          subst hd274
          exact zl_X2_noteRecord_p36_16 q101 q135 q169 q190 q212 q234 q256 q257 q267
        exact tt_vreturn dX2_noteRecord_124 rfl (hP _ _ _ _ ⟨hG269, hA271, Or.inl ⟨_, rfl, rfl, Eq.trans hs276 hF.symm, rfl, rfl⟩⟩)
  refine gt_by (c := (mI (sg S) 200 o1) = 14) (fun q277 => ?_) (fun q277 => ?_)
  · skip
    refine gt_tseqL (off := 129) (tgt := 169) 14 14 dX2_noteRecord_40 sl_Z_X2_noteRecord_p36_40 q277 rfl (by decide) (by decide) rfl rfl ?_
    refine tt_goto (tgt := 186) dX2_noteRecord_169 rfl ?_
    refine tt_aload_n (j := 1) dX2_noteRecord_186 rfl ?_
    refine gt_Vv (As := []) dX2_noteRecord_187 ca_X2_92 ⟨by decide, by decide⟩ h2 hA rfl (Nat.le_of_ble_eq_true rfl) (Nat.le_of_ble_eq_true rfl) (by decide) (cz_X8_dropRecord hG (oa_af h2 hA) hR (fun _ _ _ _ h => h)) rfl (fun _ h => nomatch h) (fun S278 hx282 hG279 hB280 hA281 => ?_)
    obtain ⟨d283, hd284⟩ : ∃ q, Z_X8_dropRecord R (sg S) o2 = q := ⟨_, rfl⟩
    have hq285 := (congrArg (fun q9 => Z_X8_dropRecord R q9 o2) (show sg S = (sg S) from rfl)).trans hd284
    have hs286 := hx282.trans hq285
    have hF : Z_X2_noteRecord_p36 R (sg S) o1 o2 x3 x4 x5 = d283 := by
      subst hd284
      exact zl_X2_noteRecord_p36_18 q101 q135 q169 q190 q212 q234 q256 q277
    exact tt_vreturn dX2_noteRecord_190 rfl (hP _ _ _ _ ⟨hG279, hA281, Or.inl ⟨_, rfl, rfl, Eq.trans hs286 hF.symm, rfl, rfl⟩⟩)
  refine gt_by (c := (mI (sg S) 200 o1) = 15) (fun q287 => ?_) (fun q287 => ?_)
  · skip
    refine gt_tseqL (off := 129) (tgt := 169) 15 15 dX2_noteRecord_40 sl_Z_X2_noteRecord_p36_40 q287 rfl (by decide) (by decide) rfl rfl ?_
    refine tt_goto (tgt := 186) dX2_noteRecord_169 rfl ?_
    refine tt_aload_n (j := 1) dX2_noteRecord_186 rfl ?_
    refine gt_Vv (As := []) dX2_noteRecord_187 ca_X2_92 ⟨by decide, by decide⟩ h2 hA rfl (Nat.le_of_ble_eq_true rfl) (Nat.le_of_ble_eq_true rfl) (by decide) (cz_X8_dropRecord hG (oa_af h2 hA) hR (fun _ _ _ _ h => h)) rfl (fun _ h => nomatch h) (fun S288 hx292 hG289 hB290 hA291 => ?_)
    obtain ⟨d293, hd294⟩ : ∃ q, Z_X8_dropRecord R (sg S) o2 = q := ⟨_, rfl⟩
    have hq295 := (congrArg (fun q9 => Z_X8_dropRecord R q9 o2) (show sg S = (sg S) from rfl)).trans hd294
    have hs296 := hx292.trans hq295
    have hF : Z_X2_noteRecord_p36 R (sg S) o1 o2 x3 x4 x5 = d293 := by
      subst hd294
      exact zl_X2_noteRecord_p36_19 q101 q135 q169 q190 q212 q234 q256 q277 q287
    exact tt_vreturn dX2_noteRecord_190 rfl (hP _ _ _ _ ⟨hG289, hA291, Or.inl ⟨_, rfl, rfl, Eq.trans hs296 hF.symm, rfl, rfl⟩⟩)
  refine gt_by (c := (mI (sg S) 200 o1) = 16) (fun q297 => ?_) (fun q297 => ?_)
  · skip
    refine gt_tseqL (off := 129) (tgt := 169) 16 16 dX2_noteRecord_40 sl_Z_X2_noteRecord_p36_40 q297 rfl (by decide) (by decide) rfl rfl ?_
    refine tt_goto (tgt := 186) dX2_noteRecord_169 rfl ?_
    refine tt_aload_n (j := 1) dX2_noteRecord_186 rfl ?_
    refine gt_Vv (As := []) dX2_noteRecord_187 ca_X2_92 ⟨by decide, by decide⟩ h2 hA rfl (Nat.le_of_ble_eq_true rfl) (Nat.le_of_ble_eq_true rfl) (by decide) (cz_X8_dropRecord hG (oa_af h2 hA) hR (fun _ _ _ _ h => h)) rfl (fun _ h => nomatch h) (fun S298 hx302 hG299 hB300 hA301 => ?_)
    obtain ⟨d303, hd304⟩ : ∃ q, Z_X8_dropRecord R (sg S) o2 = q := ⟨_, rfl⟩
    have hq305 := (congrArg (fun q9 => Z_X8_dropRecord R q9 o2) (show sg S = (sg S) from rfl)).trans hd304
    have hs306 := hx302.trans hq305
    have hF : Z_X2_noteRecord_p36 R (sg S) o1 o2 x3 x4 x5 = d303 := by
      subst hd304
      exact zl_X2_noteRecord_p36_20 q101 q135 q169 q190 q212 q234 q256 q277 q287 q297
    exact tt_vreturn dX2_noteRecord_190 rfl (hP _ _ _ _ ⟨hG299, hA301, Or.inl ⟨_, rfl, rfl, Eq.trans hs306 hF.symm, rfl, rfl⟩⟩)
  refine gt_by (c := (mI (sg S) 200 o1) = 17) (fun q307 => ?_) (fun q307 => ?_)
  · skip
    refine gt_tseqL (off := 129) (tgt := 169) 17 17 dX2_noteRecord_40 sl_Z_X2_noteRecord_p36_40 q307 rfl (by decide) (by decide) rfl rfl ?_
    refine tt_goto (tgt := 186) dX2_noteRecord_169 rfl ?_
    refine tt_aload_n (j := 1) dX2_noteRecord_186 rfl ?_
    refine gt_Vv (As := []) dX2_noteRecord_187 ca_X2_92 ⟨by decide, by decide⟩ h2 hA rfl (Nat.le_of_ble_eq_true rfl) (Nat.le_of_ble_eq_true rfl) (by decide) (cz_X8_dropRecord hG (oa_af h2 hA) hR (fun _ _ _ _ h => h)) rfl (fun _ h => nomatch h) (fun S308 hx312 hG309 hB310 hA311 => ?_)
    obtain ⟨d313, hd314⟩ : ∃ q, Z_X8_dropRecord R (sg S) o2 = q := ⟨_, rfl⟩
    have hq315 := (congrArg (fun q9 => Z_X8_dropRecord R q9 o2) (show sg S = (sg S) from rfl)).trans hd314
    have hs316 := hx312.trans hq315
    have hF : Z_X2_noteRecord_p36 R (sg S) o1 o2 x3 x4 x5 = d313 := by
      subst hd314
      exact zl_X2_noteRecord_p36_21 q101 q135 q169 q190 q212 q234 q256 q277 q287 q297 q307
    exact tt_vreturn dX2_noteRecord_190 rfl (hP _ _ _ _ ⟨hG309, hA311, Or.inl ⟨_, rfl, rfl, Eq.trans hs316 hF.symm, rfl, rfl⟩⟩)
  refine gt_by (c := (mI (sg S) 200 o1) = 18) (fun q317 => ?_) (fun q317 => ?_)
  · skip
    refine gt_tseqL (off := 64) (tgt := 104) 18 18 dX2_noteRecord_40 sl_Z_X2_noteRecord_p36_40 q317 rfl (by decide) (by decide) rfl rfl ?_
    refine tt_aload_n (j := 1) dX2_noteRecord_104 rfl ?_
    refine gt_gI (id := 516) (v := (mI (sg S) 516 o2)) dX2_noteRecord_105 fl_2_86 rfl rfl h2 hA (sg_I (k := 516) (o := o2) (show sg S = (sg S) from rfl)) ?_
    refine tt_iload_n (j := 2) dX2_noteRecord_108 rfl ?_
    refine tt_icmp_eq (tgt := 120) dX2_noteRecord_109 rfl (fun q318 => ?_) (fun q318 => ?_)
    · skip
      refine tt_aload_n (j := 1) dX2_noteRecord_120 rfl ?_
      refine gt_Vv (As := []) dX2_noteRecord_121 ca_X2_92 ⟨by decide, by decide⟩ h2 hA rfl (Nat.le_of_ble_eq_true rfl) (Nat.le_of_ble_eq_true rfl) (by decide) (cz_X8_dropRecord hG (oa_af h2 hA) hR (fun _ _ _ _ h => h)) rfl (fun _ h => nomatch h) (fun S319 hx323 hG320 hB321 hA322 => ?_)
      obtain ⟨d324, hd325⟩ : ∃ q, Z_X8_dropRecord R (sg S) o2 = q := ⟨_, rfl⟩
      have hq326 := (congrArg (fun q9 => Z_X8_dropRecord R q9 o2) (show sg S = (sg S) from rfl)).trans hd325
      have hs327 := hx323.trans hq326
      have hF : Z_X2_noteRecord_p36 R (sg S) o1 o2 x3 x4 x5 = d324 := by
        subst hd325
        exact zl_X2_noteRecord_p36_22 q101 q135 q169 q190 q212 q234 q256 q277 q287 q297 q307 q317 q318
      exact tt_vreturn dX2_noteRecord_124 rfl (hP _ _ _ _ ⟨hG320, hA322, Or.inl ⟨_, rfl, rfl, Eq.trans hs327 hF.symm, rfl, rfl⟩⟩)
    · skip
      refine tt_aload_n (j := 1) dX2_noteRecord_112 rfl ?_
      refine gt_gI (id := 517) (v := (mI (sg S) 517 o2)) dX2_noteRecord_113 fl_2_89 rfl rfl h2 hA (sg_I (k := 517) (o := o2) (show sg S = (sg S) from rfl)) ?_
      refine tt_iload_n (j := 2) dX2_noteRecord_116 rfl ?_
      refine tt_icmp_ne (tgt := 124) dX2_noteRecord_117 rfl (fun q328 => ?_) (fun q328 => ?_)
      · skip
        have hF : Z_X2_noteRecord_p36 R (sg S) o1 o2 x3 x4 x5 = (sg S) := by
          exact zl_X2_noteRecord_p36_24 q101 q135 q169 q190 q212 q234 q256 q277 q287 q297 q307 q317 q318 q328
        exact tt_vreturn dX2_noteRecord_124 rfl (hP _ _ _ _ ⟨hG, hA, Or.inl ⟨_, rfl, rfl, Eq.trans (show sg S = (sg S) from rfl) hF.symm, rfl, rfl⟩⟩)
      · skip
        refine tt_aload_n (j := 1) dX2_noteRecord_120 rfl ?_
        refine gt_Vv (As := []) dX2_noteRecord_121 ca_X2_92 ⟨by decide, by decide⟩ h2 hA rfl (Nat.le_of_ble_eq_true rfl) (Nat.le_of_ble_eq_true rfl) (by decide) (cz_X8_dropRecord hG (oa_af h2 hA) hR (fun _ _ _ _ h => h)) rfl (fun _ h => nomatch h) (fun S329 hx333 hG330 hB331 hA332 => ?_)
        obtain ⟨d334, hd335⟩ : ∃ q, Z_X8_dropRecord R (sg S) o2 = q := ⟨_, rfl⟩
        have hq336 := (congrArg (fun q9 => Z_X8_dropRecord R q9 o2) (show sg S = (sg S) from rfl)).trans hd335
        have hs337 := hx333.trans hq336
        have hF : Z_X2_noteRecord_p36 R (sg S) o1 o2 x3 x4 x5 = d334 := by
          subst hd335
          exact zl_X2_noteRecord_p36_23 q101 q135 q169 q190 q212 q234 q256 q277 q287 q297 q307 q317 q318 q328
        exact tt_vreturn dX2_noteRecord_124 rfl (hP _ _ _ _ ⟨hG330, hA332, Or.inl ⟨_, rfl, rfl, Eq.trans hs337 hF.symm, rfl, rfl⟩⟩)
  have g338 := ne_i (k := 7) 7 q101 rfl
  have g339 := ne_i (k := 8) 8 q135 rfl
  have g340 := ne_i (k := 9) 9 q169 rfl
  have g341 := ne_i (k := 10) 10 q190 rfl
  have g342 := ne_i (k := 11) 11 q212 rfl
  have g343 := ne_i (k := 12) 12 q234 rfl
  have g344 := ne_i (k := 13) 13 q256 rfl
  have g345 := ne_i (k := 14) 14 q277 rfl
  have g346 := ne_i (k := 15) 15 q287 rfl
  have g347 := ne_i (k := 16) 16 q297 rfl
  have g348 := ne_i (k := 17) 17 q307 rfl
  have g349 := ne_i (k := 18) 18 q317 rfl
  refine tt_tableOut (tgt := 172) dX2_noteRecord_40 (by omega) rfl ?_
  refine tt_iload (j := 3) dX2_noteRecord_172 rfl ?_
  refine tt_if_eq (tgt := 186) dX2_noteRecord_174 rfl (fun q350 => ?_) (fun q350 => ?_)
  · skip
    have h351 : Rg 0 0 x4 := rg_eq_l h4 (⟨by decide, by decide⟩ : Rg 0 0 0) q350
    refine tt_aload_n (j := 1) dX2_noteRecord_186 rfl ?_
    refine gt_Vv (As := []) dX2_noteRecord_187 ca_X2_92 ⟨by decide, by decide⟩ h2 hA rfl (Nat.le_of_ble_eq_true rfl) (Nat.le_of_ble_eq_true rfl) (by decide) (cz_X8_dropRecord hG (oa_af h2 hA) hR (fun _ _ _ _ h => h)) rfl (fun _ h => nomatch h) (fun S352 hx356 hG353 hB354 hA355 => ?_)
    obtain ⟨d357, hd358⟩ : ∃ q, Z_X8_dropRecord R (sg S) o2 = q := ⟨_, rfl⟩
    have hq359 := (congrArg (fun q9 => Z_X8_dropRecord R q9 o2) (show sg S = (sg S) from rfl)).trans hd358
    have hs360 := hx356.trans hq359
    have hF : Z_X2_noteRecord_p36 R (sg S) o1 o2 x3 x4 x5 = d357 := by
      subst hd358
      exact zl_X2_noteRecord_p36_25 q101 q135 q169 q190 q212 q234 q256 q277 q287 q297 q307 q317 q350
    exact tt_vreturn dX2_noteRecord_190 rfl (hP _ _ _ _ ⟨hG353, hA355, Or.inl ⟨_, rfl, rfl, Eq.trans hs360 hF.symm, rfl, rfl⟩⟩)
  · skip
    have h361 : Rg 1 1 x4 := rg_ne_lo h4 (⟨by decide, by decide⟩ : Rg 0 0 0) q350
    refine tt_aload_n (j := 1) dX2_noteRecord_177 rfl ?_
    refine tt_iconst (v := 2) dX2_noteRecord_178 rfl ?_
    refine tt_iload_n (j := 2) dX2_noteRecord_179 rfl ?_
    refine tt_iconst (v := (-1)) dX2_noteRecord_180 rfl ?_
    refine tt_lconst (v := 0) dX2_noteRecord_181 rfl ?_
    refine gt_Vv (As := [.int 2, .int x3, .int (-1), .long 0]) dX2_noteRecord_182 ca_X2_95 ⟨by decide, by decide⟩ h2 hA rfl (Nat.le_of_ble_eq_true rfl) (Nat.le_of_ble_eq_true rfl) (by decide) (cz_X8_setRecord hG (oa_af h2 hA) hR (fun _ _ _ _ h => h)) rfl (fun _ h => nomatch h) (fun S362 hx366 hG363 hB364 hA365 => ?_)
    obtain ⟨d367, hd368⟩ : ∃ q, Z_X8_setRecord R (sg S) o2 (2) (x3) ((-1)) (0) = q := ⟨_, rfl⟩
    have hq369 := (congrArg (fun q9 => Z_X8_setRecord R q9 o2 (2) (x3) ((-1)) (0)) (show sg S = (sg S) from rfl)).trans hd368
    have hs370 := hx366.trans hq369
    have hF : Z_X2_noteRecord_p36 R (sg S) o1 o2 x3 x4 x5 = d367 := by
      subst hd368
      exact zl_X2_noteRecord_p36_26 q101 q135 q169 q190 q212 q234 q256 q277 q287 q297 q307 q317 q350
    exact tt_vreturn dX2_noteRecord_185 rfl (hP _ _ _ _ ⟨hG363, hA365, Or.inl ⟨_, rfl, rfl, Eq.trans hs370 hF.symm, rfl, rfl⟩⟩)
def Z_X2_noteRecord (R : Nat → Nat → Nat) (σ : SG) (o0 : Nat) (o1 : Nat) (o2 : Nat) : SG :=
  if (mI σ 201 o1) = 64 then
    if (mI σ 202 o1) = (mI σ 203 o1) then
      Z_X2_noteRecord_p36 R σ o1 o2 ((mI σ 202 o1)) (1) (1)
    else
      Z_X2_noteRecord_p36 R σ o1 o2 ((mI σ 202 o1)) (1) (0)
  else
    if (mI σ 202 o1) = (mI σ 203 o1) then
      Z_X2_noteRecord_p36 R σ o1 o2 ((mI σ 202 o1)) (0) (1)
    else
      Z_X2_noteRecord_p36 R σ o1 o2 ((mI σ 202 o1)) (0) (0)
theorem zl_X2_noteRecord_0 {R : Nat → Nat → Nat} {σ : SG} {o0 : Nat} {o1 : Nat} {o2 : Nat} (h0 : (mI σ 201 o1) = 64) (h1 : (mI σ 202 o1) = (mI σ 203 o1)) : Z_X2_noteRecord R σ o0 o1 o2 = Z_X2_noteRecord_p36 R σ o1 o2 ((mI σ 202 o1)) (1) (1) := by unfold Z_X2_noteRecord; exact Eq.trans (if_pos h0) (if_pos h1)
theorem zl_X2_noteRecord_1 {R : Nat → Nat → Nat} {σ : SG} {o0 : Nat} {o1 : Nat} {o2 : Nat} (h0 : (mI σ 201 o1) = 64) (h1 : ¬ (mI σ 202 o1) = (mI σ 203 o1)) : Z_X2_noteRecord R σ o0 o1 o2 = Z_X2_noteRecord_p36 R σ o1 o2 ((mI σ 202 o1)) (1) (0) := by unfold Z_X2_noteRecord; exact Eq.trans (if_pos h0) (if_neg h1)
theorem zl_X2_noteRecord_2 {R : Nat → Nat → Nat} {σ : SG} {o0 : Nat} {o1 : Nat} {o2 : Nat} (h0 : ¬ (mI σ 201 o1) = 64) (h1 : (mI σ 202 o1) = (mI σ 203 o1)) : Z_X2_noteRecord R σ o0 o1 o2 = Z_X2_noteRecord_p36 R σ o1 o2 ((mI σ 202 o1)) (0) (1) := by unfold Z_X2_noteRecord; exact Eq.trans (if_neg h0) (if_pos h1)
theorem zl_X2_noteRecord_3 {R : Nat → Nat → Nat} {σ : SG} {o0 : Nat} {o1 : Nat} {o2 : Nat} (h0 : ¬ (mI σ 201 o1) = 64) (h1 : ¬ (mI σ 202 o1) = (mI σ 203 o1)) : Z_X2_noteRecord R σ o0 o1 o2 = Z_X2_noteRecord_p36 R σ o1 o2 ((mI σ 202 o1)) (0) (0) := by unfold Z_X2_noteRecord; exact Eq.trans (if_neg h0) (if_neg h1)
set_option maxHeartbeats 40000000 in
theorem cz_X2_noteRecord {xi : SX} {S : Hp} {E : List Nat} {kc nc : Nat} {P : Po} {o0 : Nat} {o1 : Nat} {o2 : Nat} {R : Nat → Nat → Nat} (hG : GI S E) (h0 : Oa S E 2 0 o0) (h1 : Oa S E 3 0 o1) (h2 : Oa S E 8 0 o2) (hR : RK S R) (hP : ∀ r T x y, PV E [515, 516, 517, 9987] S kc nc rV (fun v T => sg T = Z_X2_noteRecord R (sg S) o0 o1 o2) [] r T x y → P r T x y) : TT xi M_X2_noteRecord 0 [(0, .ref o0), (1, .ref o1), (2, .ref o2)] [] S kc nc P := by
  have hA : Af E [515, 516, 517, 9987] S S := af_rf
  refine tt_aload_n (j := 1) dX2_noteRecord_0 rfl ?_
  refine gt_gI (id := 202) (v := (mI (sg S) 202 o1)) dX2_noteRecord_1 fl_2_41 rfl rfl h1 hA (sg_I (k := 202) (o := o1) (show sg S = (sg S) from rfl)) ?_
  refine tt_istore_n (ks := [0, 1, 2, 3]) (L' := [(3, .int (mI (sg S) 202 o1)), (0, .ref o0), (1, .ref o1), (2, .ref o2)]) dX2_noteRecord_4 (by decide) rfl ?_
  refine tt_aload_n (j := 2) dX2_noteRecord_5 rfl ?_
  refine gt_gI (id := 201) (v := (mI (sg S) 201 o1)) dX2_noteRecord_6 fl_2_73 rfl rfl h1 hA (sg_I (k := 201) (o := o1) (show sg S = (sg S) from rfl)) ?_
  refine tt_bipush (v := 64) dX2_noteRecord_9 rfl ?_
  refine tt_icmp_ne (tgt := 18) dX2_noteRecord_11 rfl (fun q101 => ?_) (fun q101 => ?_)
  · skip
    refine tt_iconst (v := 0) dX2_noteRecord_18 rfl ?_
    refine tt_istore (ks := [0, 1, 2, 3, 4]) (L' := [(4, .int 0), (3, .int (mI (sg S) 202 o1)), (0, .ref o0), (1, .ref o1), (2, .ref o2)]) dX2_noteRecord_19 (by decide) rfl ?_
    refine tt_iload_n (j := 1) dX2_noteRecord_21 rfl ?_
    refine tt_aload_n (j := 3) dX2_noteRecord_22 rfl ?_
    refine gt_gI (id := 203) (v := (mI (sg S) 203 o1)) dX2_noteRecord_23 fl_2_56 rfl rfl h1 hA (sg_I (k := 203) (o := o1) (show sg S = (sg S) from rfl)) ?_
    refine tt_icmp_ne (tgt := 33) dX2_noteRecord_26 rfl (fun q102 => ?_) (fun q102 => ?_)
    · skip
      refine tt_iconst (v := 0) dX2_noteRecord_33 rfl ?_
      refine tt_istore (ks := [0, 1, 2, 3, 4, 5]) (L' := [(5, .int 0), (4, .int 0), (3, .int (mI (sg S) 202 o1)), (0, .ref o0), (1, .ref o1), (2, .ref o2)]) dX2_noteRecord_34 (by decide) rfl ?_
      have hF : Z_X2_noteRecord R (sg S) o0 o1 o2 = Z_X2_noteRecord_p36 R (sg S) o1 o2 ((mI (sg S) 202 o1)) (0) (0) := by
        exact zl_X2_noteRecord_3 q101 q102
      exact tt_loc (ks := [4, 5, 2, 1, 0]) rfl (cz_X2_noteRecord_p36 hG (oa_af h1 hA) (oa_af h2 hA) (rg_w (⟨by decide, by decide⟩ : Rg 0 0 0)) (rg_w (⟨by decide, by decide⟩ : Rg 0 0 0)) hR (fun r T x y h => hP r T x y (pv_tr hA h (by decide) (fun v T e => e.trans ((congrArg (fun q9 => Z_X2_noteRecord_p36 R q9 o1 o2 ((mI (sg S) 202 o1)) (0) (0)) (show sg S = (sg S) from rfl)).trans hF.symm)))))
    · skip
      refine tt_iconst (v := 1) dX2_noteRecord_29 rfl ?_
      refine tt_goto (tgt := 34) dX2_noteRecord_30 rfl ?_
      refine tt_istore (ks := [0, 1, 2, 3, 4, 5]) (L' := [(5, .int 1), (4, .int 0), (3, .int (mI (sg S) 202 o1)), (0, .ref o0), (1, .ref o1), (2, .ref o2)]) dX2_noteRecord_34 (by decide) rfl ?_
      have hF : Z_X2_noteRecord R (sg S) o0 o1 o2 = Z_X2_noteRecord_p36 R (sg S) o1 o2 ((mI (sg S) 202 o1)) (0) (1) := by
        exact zl_X2_noteRecord_2 q101 q102
      exact tt_loc (ks := [4, 5, 2, 1, 0]) rfl (cz_X2_noteRecord_p36 hG (oa_af h1 hA) (oa_af h2 hA) (rg_w (⟨by decide, by decide⟩ : Rg 0 0 0)) (rg_w (⟨by decide, by decide⟩ : Rg 1 1 1)) hR (fun r T x y h => hP r T x y (pv_tr hA h (by decide) (fun v T e => e.trans ((congrArg (fun q9 => Z_X2_noteRecord_p36 R q9 o1 o2 ((mI (sg S) 202 o1)) (0) (1)) (show sg S = (sg S) from rfl)).trans hF.symm)))))
  · skip
    have h103 : Rg 64 64 (mI (sg S) 201 o1) := rg_eq_l (rg_all (mI (sg S) 201 o1)) (⟨by decide, by decide⟩ : Rg 64 64 64) q101
    refine tt_iconst (v := 1) dX2_noteRecord_14 rfl ?_
    refine tt_goto (tgt := 19) dX2_noteRecord_15 rfl ?_
    refine tt_istore (ks := [0, 1, 2, 3, 4]) (L' := [(4, .int 1), (3, .int (mI (sg S) 202 o1)), (0, .ref o0), (1, .ref o1), (2, .ref o2)]) dX2_noteRecord_19 (by decide) rfl ?_
    refine tt_iload_n (j := 1) dX2_noteRecord_21 rfl ?_
    refine tt_aload_n (j := 3) dX2_noteRecord_22 rfl ?_
    refine gt_gI (id := 203) (v := (mI (sg S) 203 o1)) dX2_noteRecord_23 fl_2_56 rfl rfl h1 hA (sg_I (k := 203) (o := o1) (show sg S = (sg S) from rfl)) ?_
    refine tt_icmp_ne (tgt := 33) dX2_noteRecord_26 rfl (fun q104 => ?_) (fun q104 => ?_)
    · skip
      refine tt_iconst (v := 0) dX2_noteRecord_33 rfl ?_
      refine tt_istore (ks := [0, 1, 2, 3, 4, 5]) (L' := [(5, .int 0), (4, .int 1), (3, .int (mI (sg S) 202 o1)), (0, .ref o0), (1, .ref o1), (2, .ref o2)]) dX2_noteRecord_34 (by decide) rfl ?_
      have hF : Z_X2_noteRecord R (sg S) o0 o1 o2 = Z_X2_noteRecord_p36 R (sg S) o1 o2 ((mI (sg S) 202 o1)) (1) (0) := by
        exact zl_X2_noteRecord_1 q101 q104
      exact tt_loc (ks := [4, 5, 2, 1, 0]) rfl (cz_X2_noteRecord_p36 hG (oa_af h1 hA) (oa_af h2 hA) (rg_w (⟨by decide, by decide⟩ : Rg 1 1 1)) (rg_w (⟨by decide, by decide⟩ : Rg 0 0 0)) hR (fun r T x y h => hP r T x y (pv_tr hA h (by decide) (fun v T e => e.trans ((congrArg (fun q9 => Z_X2_noteRecord_p36 R q9 o1 o2 ((mI (sg S) 202 o1)) (1) (0)) (show sg S = (sg S) from rfl)).trans hF.symm)))))
    · skip
      refine tt_iconst (v := 1) dX2_noteRecord_29 rfl ?_
      refine tt_goto (tgt := 34) dX2_noteRecord_30 rfl ?_
      refine tt_istore (ks := [0, 1, 2, 3, 4, 5]) (L' := [(5, .int 1), (4, .int 1), (3, .int (mI (sg S) 202 o1)), (0, .ref o0), (1, .ref o1), (2, .ref o2)]) dX2_noteRecord_34 (by decide) rfl ?_
      have hF : Z_X2_noteRecord R (sg S) o0 o1 o2 = Z_X2_noteRecord_p36 R (sg S) o1 o2 ((mI (sg S) 202 o1)) (1) (1) := by
        exact zl_X2_noteRecord_0 q101 q104
      exact tt_loc (ks := [4, 5, 2, 1, 0]) rfl (cz_X2_noteRecord_p36 hG (oa_af h1 hA) (oa_af h2 hA) (rg_w (⟨by decide, by decide⟩ : Rg 1 1 1)) (rg_w (⟨by decide, by decide⟩ : Rg 1 1 1)) hR (fun r T x y h => hP r T x y (pv_tr hA h (by decide) (fun v T e => e.trans ((congrArg (fun q9 => Z_X2_noteRecord_p36 R q9 o1 o2 ((mI (sg S) 202 o1)) (1) (1)) (show sg S = (sg S) from rfl)).trans hF.symm)))))
def Z_X2_apply (R : Nat → Nat → Nat) (σ : SG) (o0 : Nat) (o1 : Nat) (o2 : Nat) : SG :=
  if (mI σ 200 o1) < 19 then
    if (mI σ 200 o1) = 7 then
      let d110 := Z_X2_noteRecord R σ o0 o1 o2
      d110
    else
      if (mI σ 200 o1) = 8 then
        let d121 := Z_X2_noteRecord R σ o0 o1 o2
        d121
      else
        let d130 := Z_X2_loadOperands R σ o0 o1 o2
        let d139 := Z_X2_fitOperands R d130 o0 o1
        let d148 := Z_X2_computeResult R d139 o0 o1
        let d159 := Z_X8_store R d148 o2 ((mI σ 202 o1)) (R 130 o0)
        let d168 := Z_X2_noteRecord R d159 o0 o1 o2
        d168
  else
    σ
theorem zl_X2_apply_0 {R : Nat → Nat → Nat} {σ : SG} {o0 : Nat} {o1 : Nat} {o2 : Nat} (h0 : (mI σ 200 o1) < 19) (h1 : (mI σ 200 o1) = 7) : Z_X2_apply R σ o0 o1 o2 = (Z_X2_noteRecord R σ o0 o1 o2) := by unfold Z_X2_apply; exact Eq.trans (if_pos h0) (if_pos h1)
theorem zl_X2_apply_1 {R : Nat → Nat → Nat} {σ : SG} {o0 : Nat} {o1 : Nat} {o2 : Nat} (h0 : (mI σ 200 o1) < 19) (h1 : ¬ (mI σ 200 o1) = 7) (h2 : (mI σ 200 o1) = 8) : Z_X2_apply R σ o0 o1 o2 = (Z_X2_noteRecord R σ o0 o1 o2) := by unfold Z_X2_apply; exact Eq.trans (if_pos h0) (Eq.trans (if_neg h1) (if_pos h2))
theorem zl_X2_apply_2 {R : Nat → Nat → Nat} {σ : SG} {o0 : Nat} {o1 : Nat} {o2 : Nat} (h0 : (mI σ 200 o1) < 19) (h1 : ¬ (mI σ 200 o1) = 7) (h2 : ¬ (mI σ 200 o1) = 8) : Z_X2_apply R σ o0 o1 o2 = (Z_X2_noteRecord R (Z_X8_store R (Z_X2_computeResult R (Z_X2_fitOperands R (Z_X2_loadOperands R σ o0 o1 o2) o0 o1) o0 o1) o2 ((mI σ 202 o1)) (R 130 o0)) o0 o1 o2) := by unfold Z_X2_apply; exact Eq.trans (if_pos h0) (Eq.trans (if_neg h1) (if_neg h2))
theorem zl_X2_apply_3 {R : Nat → Nat → Nat} {σ : SG} {o0 : Nat} {o1 : Nat} {o2 : Nat} (h0 : ¬ (mI σ 200 o1) < 19) : Z_X2_apply R σ o0 o1 o2 = σ := by unfold Z_X2_apply; exact if_neg h0
set_option maxHeartbeats 40000000 in
theorem cz_X2_apply {xi : SX} {S : Hp} {E : List Nat} {kc nc : Nat} {P : Po} {o0 : Nat} {o1 : Nat} {o2 : Nat} {R : Nat → Nat → Nat} (hG : GI S E) (h0 : Oa S E 2 0 o0) (h1 : Oa S E 3 0 o1) (h2 : Oa S E 8 0 o2) (hR : RK S R) (hP : ∀ r T x y, PV E [515, 516, 517, 9987, 9994] S kc nc rV (fun v T => sg T = Z_X2_apply R (sg S) o0 o1 o2) [] r T x y → P r T x y) : TT xi M_X2_apply 0 [(0, .ref o0), (1, .ref o1), (2, .ref o2)] [] S kc nc P := by
  have hA : Af E [515, 516, 517, 9987, 9994] S S := af_rf
  refine tt_aload_n (j := 1) dX2_apply_0 rfl ?_
  refine gt_gI (id := 200) (v := (mI (sg S) 200 o1)) dX2_apply_1 fl_2_24 rfl rfl h1 hA (sg_I (k := 200) (o := o1) (show sg S = (sg S) from rfl)) ?_
  refine tt_istore_n (ks := [0, 1, 2, 3]) (L' := [(3, .int (mI (sg S) 200 o1)), (0, .ref o0), (1, .ref o1), (2, .ref o2)]) dX2_apply_4 (by decide) rfl ?_
  refine tt_iload_n (j := 0) dX2_apply_5 rfl ?_
  refine tt_bipush (v := 19) dX2_apply_6 rfl ?_
  refine tt_icmp_lt (tgt := 12) dX2_apply_8 rfl (fun q101 => ?_) (fun q101 => ?_)
  · skip
    have h102 : Rg (-2147483648) 18 (mI (sg S) 200 o1) := rg_lt_l (rg_all (mI (sg S) 200 o1)) (⟨by decide, by decide⟩ : Rg 19 19 19) q101
    refine tt_iload_n (j := 0) dX2_apply_12 rfl ?_
    refine tt_bipush (v := 7) dX2_apply_13 rfl ?_
    refine tt_icmp_eq (tgt := 52) dX2_apply_15 rfl (fun q103 => ?_) (fun q103 => ?_)
    · skip
      have h104 : Rg 7 7 (mI (sg S) 200 o1) := rg_eq_l h102 (⟨by decide, by decide⟩ : Rg 7 7 7) q103
      refine tt_aload_n (j := 1) dX2_apply_52 rfl ?_
      refine tt_aload_n (j := 2) dX2_apply_53 rfl ?_
      refine tt_aload_n (j := 3) dX2_apply_54 rfl ?_
      refine gt_Vv (As := [.ref o1, .ref o2]) dX2_apply_55 ca_X2_50 ⟨by decide, by decide⟩ h0 hA rfl (Nat.le_of_ble_eq_true rfl) (Nat.le_of_ble_eq_true rfl) (by decide) (cz_X2_noteRecord hG (oa_af h0 hA) (oa_af h1 hA) (oa_af h2 hA) hR (fun _ _ _ _ h => h)) rfl (fun _ h => nomatch h) (fun S105 hx109 hG106 hB107 hA108 => ?_)
      obtain ⟨d110, hd111⟩ : ∃ q, Z_X2_noteRecord R (sg S) o0 o1 o2 = q := ⟨_, rfl⟩
      have hq112 := (congrArg (fun q9 => Z_X2_noteRecord R q9 o0 o1 o2) (show sg S = (sg S) from rfl)).trans hd111
      have hs113 := hx109.trans hq112
      have hF : Z_X2_apply R (sg S) o0 o1 o2 = d110 := by
        subst hd111
        exact zl_X2_apply_0 q101 q103
      exact tt_vreturn dX2_apply_58 rfl (hP _ _ _ _ ⟨hG106, hA108, Or.inl ⟨_, rfl, rfl, Eq.trans hs113 hF.symm, rfl, rfl⟩⟩)
    · skip
      refine tt_iload_n (j := 0) dX2_apply_18 rfl ?_
      refine tt_bipush (v := 8) dX2_apply_19 rfl ?_
      refine tt_icmp_eq (tgt := 52) dX2_apply_21 rfl (fun q114 => ?_) (fun q114 => ?_)
      · skip
        have h115 : Rg 8 8 (mI (sg S) 200 o1) := rg_eq_l h102 (⟨by decide, by decide⟩ : Rg 8 8 8) q114
        refine tt_aload_n (j := 1) dX2_apply_52 rfl ?_
        refine tt_aload_n (j := 2) dX2_apply_53 rfl ?_
        refine tt_aload_n (j := 3) dX2_apply_54 rfl ?_
        refine gt_Vv (As := [.ref o1, .ref o2]) dX2_apply_55 ca_X2_50 ⟨by decide, by decide⟩ h0 hA rfl (Nat.le_of_ble_eq_true rfl) (Nat.le_of_ble_eq_true rfl) (by decide) (cz_X2_noteRecord hG (oa_af h0 hA) (oa_af h1 hA) (oa_af h2 hA) hR (fun _ _ _ _ h => h)) rfl (fun _ h => nomatch h) (fun S116 hx120 hG117 hB118 hA119 => ?_)
        obtain ⟨d121, hd122⟩ : ∃ q, Z_X2_noteRecord R (sg S) o0 o1 o2 = q := ⟨_, rfl⟩
        have hq123 := (congrArg (fun q9 => Z_X2_noteRecord R q9 o0 o1 o2) (show sg S = (sg S) from rfl)).trans hd122
        have hs124 := hx120.trans hq123
        have hF : Z_X2_apply R (sg S) o0 o1 o2 = d121 := by
          subst hd122
          exact zl_X2_apply_1 q101 q103 q114
        exact tt_vreturn dX2_apply_58 rfl (hP _ _ _ _ ⟨hG117, hA119, Or.inl ⟨_, rfl, rfl, Eq.trans hs124 hF.symm, rfl, rfl⟩⟩)
      · skip
        refine tt_aload_n (j := 1) dX2_apply_24 rfl ?_
        refine tt_aload_n (j := 2) dX2_apply_25 rfl ?_
        refine tt_aload_n (j := 3) dX2_apply_26 rfl ?_
        refine gt_Vv (As := [.ref o1, .ref o2]) dX2_apply_27 ca_X2_30 ⟨by decide, by decide⟩ h0 hA rfl (Nat.le_of_ble_eq_true rfl) (Nat.le_of_ble_eq_true rfl) (by decide) (cz_X2_loadOperands hG (oa_af h0 hA) (oa_af h1 hA) (oa_af h2 hA) hR (fun _ _ _ _ h => h)) rfl (fun _ h => nomatch h) (fun S125 hx129 hG126 hB127 hA128 => ?_)
        obtain ⟨d130, hd131⟩ : ∃ q, Z_X2_loadOperands R (sg S) o0 o1 o2 = q := ⟨_, rfl⟩
        have hq132 := (congrArg (fun q9 => Z_X2_loadOperands R q9 o0 o1 o2) (show sg S = (sg S) from rfl)).trans hd131
        have hs133 := hx129.trans hq132
        refine tt_aload_n (j := 1) dX2_apply_30 rfl ?_
        refine tt_aload_n (j := 2) dX2_apply_31 rfl ?_
        refine gt_Vv (As := [.ref o1]) dX2_apply_32 ca_X2_34 ⟨by decide, by decide⟩ h0 hA128 rfl (Nat.le_of_ble_eq_true rfl) (Nat.le_of_ble_eq_true rfl) (by decide) (cz_X2_fitOperands hG126 (oa_af h0 hA128) (oa_af h1 hA128) (rk_af hR hA128) (fun _ _ _ _ h => h)) rfl (fun _ h => nomatch h) (fun S134 hx138 hG135 hB136 hA137 => ?_)
        obtain ⟨d139, hd140⟩ : ∃ q, Z_X2_fitOperands R d130 o0 o1 = q := ⟨_, rfl⟩
        have hq141 := (congrArg (fun q9 => Z_X2_fitOperands R q9 o0 o1) hs133).trans hd140
        have hs142 := hx138.trans hq141
        refine tt_aload_n (j := 1) dX2_apply_35 rfl ?_
        refine tt_aload_n (j := 2) dX2_apply_36 rfl ?_
        refine gt_Vv (As := [.ref o1]) dX2_apply_37 ca_X2_38 ⟨by decide, by decide⟩ h0 hA137 rfl (Nat.le_of_ble_eq_true rfl) (Nat.le_of_ble_eq_true rfl) (by decide) (cz_X2_computeResult hG135 (oa_af h0 hA137) (oa_af h1 hA137) (rk_af hR hA137) (fun _ _ _ _ h => h)) rfl (fun _ h => nomatch h) (fun S143 hx147 hG144 hB145 hA146 => ?_)
        obtain ⟨d148, hd149⟩ : ∃ q, Z_X2_computeResult R d139 o0 o1 = q := ⟨_, rfl⟩
        have hq150 := (congrArg (fun q9 => Z_X2_computeResult R q9 o0 o1) hs142).trans hd149
        have hs151 := hx147.trans hq150
        refine tt_aload_n (j := 3) dX2_apply_40 rfl ?_
        refine tt_aload_n (j := 2) dX2_apply_41 rfl ?_
        refine gt_gI (id := 202) (v := (mI (sg S) 202 o1)) dX2_apply_42 fl_2_41 rfl rfl h1 hA146 (show hp_I S143 202 o1 = mI (sg S) 202 o1 from i_af (k := 202) h1 hA146) ?_
        refine tt_aload_n (j := 1) dX2_apply_45 rfl ?_
        have hr152 := rk_R (k := 130) hR h0 7 0
        have ho153 := rk_O (k := 130) hG hR h0 7 0
        refine gt_gR (id := 130) dX2_apply_46 fl_2_21 rfl rfl h0 hA146 hr152 ?_
        refine gt_Vv (As := [.int (mI (sg S) 202 o1), .ref (R 130 o0)]) dX2_apply_49 ca_X2_44 ⟨by decide, by decide⟩ h2 hA146 rfl (Nat.le_of_ble_eq_true rfl) (Nat.le_of_ble_eq_true rfl) (by decide) (cz_X8_store hG144 (oa_af h2 hA146) (oa_af ho153 hA146) (rk_af hR hA146) (fun _ _ _ _ h => h)) rfl (fun _ h => nomatch h) (fun S154 hx158 hG155 hB156 hA157 => ?_)
        obtain ⟨d159, hd160⟩ : ∃ q, Z_X8_store R d148 o2 ((mI (sg S) 202 o1)) (R 130 o0) = q := ⟨_, rfl⟩
        have hq161 := (congrArg (fun q9 => Z_X8_store R q9 o2 ((mI (sg S) 202 o1)) (R 130 o0)) hs151).trans hd160
        have hs162 := hx158.trans hq161
        refine tt_aload_n (j := 1) dX2_apply_52 rfl ?_
        refine tt_aload_n (j := 2) dX2_apply_53 rfl ?_
        refine tt_aload_n (j := 3) dX2_apply_54 rfl ?_
        refine gt_Vv (As := [.ref o1, .ref o2]) dX2_apply_55 ca_X2_50 ⟨by decide, by decide⟩ h0 hA157 rfl (Nat.le_of_ble_eq_true rfl) (Nat.le_of_ble_eq_true rfl) (by decide) (cz_X2_noteRecord hG155 (oa_af h0 hA157) (oa_af h1 hA157) (oa_af h2 hA157) (rk_af hR hA157) (fun _ _ _ _ h => h)) rfl (fun _ h => nomatch h) (fun S163 hx167 hG164 hB165 hA166 => ?_)
        obtain ⟨d168, hd169⟩ : ∃ q, Z_X2_noteRecord R d159 o0 o1 o2 = q := ⟨_, rfl⟩
        have hq170 := (congrArg (fun q9 => Z_X2_noteRecord R q9 o0 o1 o2) hs162).trans hd169
        have hs171 := hx167.trans hq170
        have hF : Z_X2_apply R (sg S) o0 o1 o2 = d168 := by
          subst hd169
          subst hd160
          subst hd149
          subst hd140
          subst hd131
          exact zl_X2_apply_2 q101 q103 q114
        exact tt_vreturn dX2_apply_58 rfl (hP _ _ _ _ ⟨hG164, hA166, Or.inl ⟨_, rfl, rfl, Eq.trans hs171 hF.symm, rfl, rfl⟩⟩)
  · skip
    have h172 : Rg 19 2147483647 (mI (sg S) 200 o1) := rg_le_r (⟨by decide, by decide⟩ : Rg 19 19 19) (rg_all (mI (sg S) 200 o1)) (nlt_le q101)
    have hF : Z_X2_apply R (sg S) o0 o1 o2 = (sg S) := by
      exact zl_X2_apply_3 q101
    exact tt_vreturn dX2_apply_11 rfl (hP _ _ _ _ ⟨hG, hA, Or.inl ⟨_, rfl, rfl, Eq.trans (show sg S = (sg S) from rfl) hF.symm, rfl, rfl⟩⟩)
def Z_X0_becomeEqual (R : Nat → Nat → Nat) (σ : SG) (o0 : Nat) : SG :=
  if (Z_X7_isAny R σ (R 0 o0)) = 0 then
    if (Z_X7_isAny R σ (R 1 o0)) = 0 then
      let d120 := Z_X7_cut R σ (R 0 o0) ((mJ σ 448 (R 1 o0))) ((mJ σ 449 (R 1 o0)))
      let d129 := Z_X7_cut R d120 (R 1 o0) ((mJ σ 448 (R 0 o0))) ((mJ σ 449 (R 0 o0)))
      d129
    else
      let d139 := Z_X7_copyFrom R σ (R 1 o0) (R 0 o0)
      d139
  else
    let d151 := Z_X7_copyFrom R σ (R 0 o0) (R 1 o0)
    d151
theorem zl_X0_becomeEqual_0 {R : Nat → Nat → Nat} {σ : SG} {o0 : Nat} (h0 : (Z_X7_isAny R σ (R 0 o0)) = 0) (h1 : (Z_X7_isAny R σ (R 1 o0)) = 0) : Z_X0_becomeEqual R σ o0 = (Z_X7_cut R (Z_X7_cut R σ (R 0 o0) ((mJ σ 448 (R 1 o0))) ((mJ σ 449 (R 1 o0)))) (R 1 o0) ((mJ σ 448 (R 0 o0))) ((mJ σ 449 (R 0 o0)))) := by unfold Z_X0_becomeEqual; exact Eq.trans (if_pos h0) (if_pos h1)
theorem zl_X0_becomeEqual_1 {R : Nat → Nat → Nat} {σ : SG} {o0 : Nat} (h0 : (Z_X7_isAny R σ (R 0 o0)) = 0) (h1 : ¬ (Z_X7_isAny R σ (R 1 o0)) = 0) : Z_X0_becomeEqual R σ o0 = (Z_X7_copyFrom R σ (R 1 o0) (R 0 o0)) := by unfold Z_X0_becomeEqual; exact Eq.trans (if_pos h0) (if_neg h1)
theorem zl_X0_becomeEqual_2 {R : Nat → Nat → Nat} {σ : SG} {o0 : Nat} (h0 : ¬ (Z_X7_isAny R σ (R 0 o0)) = 0) : Z_X0_becomeEqual R σ o0 = (Z_X7_copyFrom R σ (R 0 o0) (R 1 o0)) := by unfold Z_X0_becomeEqual; exact if_neg h0
set_option maxHeartbeats 40000000 in
theorem cz_X0_becomeEqual {xi : SX} {S : Hp} {E : List Nat} {kc nc : Nat} {P : Po} {o0 : Nat} {R : Nat → Nat → Nat} (hG : GI S E) (h0 : Oa S E 0 0 o0) (hR : RK S R) (hP : ∀ r T x y, PV E [9987] S kc nc rV (fun v T => sg T = Z_X0_becomeEqual R (sg S) o0) [] r T x y → P r T x y) : TT xi M_X0_becomeEqual 0 [(0, .ref o0)] [] S kc nc P := by
  have hA : Af E [9987] S S := af_rf
  refine tt_aload_n (j := 0) dX0_becomeEqual_0 rfl ?_
  have hr101 := rk_R (k := 0) hR h0 7 0
  have ho102 := rk_O (k := 0) hG hR h0 7 0
  refine gt_gR (id := 0) dX0_becomeEqual_1 fl_0_14 rfl rfl h0 hA hr101 ?_
  refine gt_VIp (As := []) dX0_becomeEqual_4 ca_X0_77 ⟨by decide, by decide⟩ ho102 hA rfl (Nat.le_of_ble_eq_true rfl) (Nat.le_of_ble_eq_true rfl) (by decide) (cz_X7_isAny hG (oa_af ho102 hA) hR (fun _ _ _ _ h => h)) rfl (fun _ h => nomatch h) (fun _ _ q => q.1) (fun x103 h104 hx105 => ?_)
  obtain rfl : Z_X7_isAny R (sg S) (R 0 o0) = x103 := ((ei_w hx105.2).trans (congrArg (fun q9 => Z_X7_isAny R q9 (R 0 o0)) (show sg S = (sg S) from rfl))).symm
  refine tt_if_eq (tgt := 24) dX0_becomeEqual_7 rfl (fun q106 => ?_) (fun q106 => ?_)
  · skip
    have h107 : Rg 0 0 (Z_X7_isAny R (sg S) (R 0 o0)) := rg_eq_l h104 (⟨by decide, by decide⟩ : Rg 0 0 0) q106
    refine tt_aload_n (j := 0) dX0_becomeEqual_24 rfl ?_
    have hr108 := rk_R (k := 1) hR h0 7 0
    have ho109 := rk_O (k := 1) hG hR h0 7 0
    refine gt_gR (id := 1) dX0_becomeEqual_25 fl_0_18 rfl rfl h0 hA hr108 ?_
    refine gt_VIp (As := []) dX0_becomeEqual_28 ca_X0_77 ⟨by decide, by decide⟩ ho109 hA rfl (Nat.le_of_ble_eq_true rfl) (Nat.le_of_ble_eq_true rfl) (by decide) (cz_X7_isAny hG (oa_af ho109 hA) hR (fun _ _ _ _ h => h)) rfl (fun _ h => nomatch h) (fun _ _ q => q.1) (fun x110 h111 hx112 => ?_)
    obtain rfl : Z_X7_isAny R (sg S) (R 1 o0) = x110 := ((ei_w hx112.2).trans (congrArg (fun q9 => Z_X7_isAny R q9 (R 1 o0)) (show sg S = (sg S) from rfl))).symm
    refine tt_if_eq (tgt := 48) dX0_becomeEqual_31 rfl (fun q113 => ?_) (fun q113 => ?_)
    · skip
      have h114 : Rg 0 0 (Z_X7_isAny R (sg S) (R 1 o0)) := rg_eq_l h111 (⟨by decide, by decide⟩ : Rg 0 0 0) q113
      refine tt_aload_n (j := 0) dX0_becomeEqual_48 rfl ?_
      refine gt_gR (id := 0) dX0_becomeEqual_49 fl_0_14 rfl rfl h0 hA hr101 ?_
      refine gt_gJ (id := 448) (v := (mJ (sg S) 448 (R 0 o0))) dX0_becomeEqual_52 fl_0_84 rfl rfl ho102 hA (sg_J (k := 448) (o := (R 0 o0)) (show sg S = (sg S) from rfl)) ?_
      refine tt_lstore_n (ks := [0, 1]) (L' := [(1, .long (mJ (sg S) 448 (R 0 o0))), (0, .ref o0)]) dX0_becomeEqual_55 (by decide) rfl ?_
      refine tt_aload_n (j := 1) dX0_becomeEqual_56 rfl ?_
      refine gt_gR (id := 0) dX0_becomeEqual_57 fl_0_14 rfl rfl h0 hA hr101 ?_
      refine gt_gJ (id := 449) (v := (mJ (sg S) 449 (R 0 o0))) dX0_becomeEqual_60 fl_0_87 rfl rfl ho102 hA (sg_J (k := 449) (o := (R 0 o0)) (show sg S = (sg S) from rfl)) ?_
      refine tt_lstore_n (ks := [0, 1, 2]) (L' := [(3, .long (mJ (sg S) 449 (R 0 o0))), (1, .long (mJ (sg S) 448 (R 0 o0))), (0, .ref o0)]) dX0_becomeEqual_63 (by decide) rfl ?_
      refine tt_aload_n (j := 2) dX0_becomeEqual_64 rfl ?_
      refine gt_gR (id := 0) dX0_becomeEqual_65 fl_0_14 rfl rfl h0 hA hr101 ?_
      refine tt_aload_n (j := 2) dX0_becomeEqual_68 rfl ?_
      refine gt_gR (id := 1) dX0_becomeEqual_69 fl_0_18 rfl rfl h0 hA hr108 ?_
      refine gt_gJ (id := 448) (v := (mJ (sg S) 448 (R 1 o0))) dX0_becomeEqual_72 fl_0_84 rfl rfl ho109 hA (sg_J (k := 448) (o := (R 1 o0)) (show sg S = (sg S) from rfl)) ?_
      refine tt_aload_n (j := 2) dX0_becomeEqual_75 rfl ?_
      refine gt_gR (id := 1) dX0_becomeEqual_76 fl_0_18 rfl rfl h0 hA hr108 ?_
      refine gt_gJ (id := 449) (v := (mJ (sg S) 449 (R 1 o0))) dX0_becomeEqual_79 fl_0_87 rfl rfl ho109 hA (sg_J (k := 449) (o := (R 1 o0)) (show sg S = (sg S) from rfl)) ?_
      refine gt_Vv (As := [.long (mJ (sg S) 448 (R 1 o0)), .long (mJ (sg S) 449 (R 1 o0))]) dX0_becomeEqual_82 ca_X0_59 ⟨by decide, by decide⟩ ho102 hA rfl (Nat.le_of_ble_eq_true rfl) (Nat.le_of_ble_eq_true rfl) (by decide) (cz_X7_cut hG (oa_af ho102 hA) hR (fun _ _ _ _ h => h)) rfl (fun _ h => nomatch h) (fun S115 hx119 hG116 hB117 hA118 => ?_)
      obtain ⟨d120, hd121⟩ : ∃ q, Z_X7_cut R (sg S) (R 0 o0) ((mJ (sg S) 448 (R 1 o0))) ((mJ (sg S) 449 (R 1 o0))) = q := ⟨_, rfl⟩
      have hq122 := (congrArg (fun q9 => Z_X7_cut R q9 (R 0 o0) ((mJ (sg S) 448 (R 1 o0))) ((mJ (sg S) 449 (R 1 o0)))) (show sg S = (sg S) from rfl)).trans hd121
      have hs123 := hx119.trans hq122
      refine tt_aload_n (j := 2) dX0_becomeEqual_85 rfl ?_
      refine gt_gR (id := 1) dX0_becomeEqual_86 fl_0_18 rfl rfl h0 hA118 hr108 ?_
      refine tt_lload_n (j := 1) dX0_becomeEqual_89 rfl ?_
      refine tt_lload_n (j := 0) dX0_becomeEqual_90 rfl ?_
      refine gt_Vv (As := [.long (mJ (sg S) 448 (R 0 o0)), .long (mJ (sg S) 449 (R 0 o0))]) dX0_becomeEqual_91 ca_X0_59 ⟨by decide, by decide⟩ ho109 hA118 rfl (Nat.le_of_ble_eq_true rfl) (Nat.le_of_ble_eq_true rfl) (by decide) (cz_X7_cut hG116 (oa_af ho109 hA118) (rk_af hR hA118) (fun _ _ _ _ h => h)) rfl (fun _ h => nomatch h) (fun S124 hx128 hG125 hB126 hA127 => ?_)
      obtain ⟨d129, hd130⟩ : ∃ q, Z_X7_cut R d120 (R 1 o0) ((mJ (sg S) 448 (R 0 o0))) ((mJ (sg S) 449 (R 0 o0))) = q := ⟨_, rfl⟩
      have hq131 := (congrArg (fun q9 => Z_X7_cut R q9 (R 1 o0) ((mJ (sg S) 448 (R 0 o0))) ((mJ (sg S) 449 (R 0 o0)))) hs123).trans hd130
      have hs132 := hx128.trans hq131
      have hF : Z_X0_becomeEqual R (sg S) o0 = d129 := by
        subst hd130
        subst hd121
        exact zl_X0_becomeEqual_0 q106 q113
      exact tt_vreturn dX0_becomeEqual_94 rfl (hP _ _ _ _ ⟨hG125, hA127, Or.inl ⟨_, rfl, rfl, Eq.trans hs132 hF.symm, rfl, rfl⟩⟩)
    · skip
      have h133 : Rg 1 1 (Z_X7_isAny R (sg S) (R 1 o0)) := rg_ne_lo h111 (⟨by decide, by decide⟩ : Rg 0 0 0) q113
      refine tt_aload_n (j := 0) dX0_becomeEqual_34 rfl ?_
      refine gt_gR (id := 1) dX0_becomeEqual_35 fl_0_18 rfl rfl h0 hA hr108 ?_
      refine tt_aload_n (j := 0) dX0_becomeEqual_38 rfl ?_
      refine gt_gR (id := 0) dX0_becomeEqual_39 fl_0_14 rfl rfl h0 hA hr101 ?_
      refine gt_Vv (As := [.ref (R 0 o0)]) dX0_becomeEqual_42 ca_X0_80 ⟨by decide, by decide⟩ ho109 hA rfl (Nat.le_of_ble_eq_true rfl) (Nat.le_of_ble_eq_true rfl) (by decide) (cz_X7_copyFrom hG (oa_af ho109 hA) (oa_af ho102 hA) hR (fun _ _ _ _ h => h)) rfl (fun _ h => nomatch h) (fun S134 hx138 hG135 hB136 hA137 => ?_)
      obtain ⟨d139, hd140⟩ : ∃ q, Z_X7_copyFrom R (sg S) (R 1 o0) (R 0 o0) = q := ⟨_, rfl⟩
      have hq141 := (congrArg (fun q9 => Z_X7_copyFrom R q9 (R 1 o0) (R 0 o0)) (show sg S = (sg S) from rfl)).trans hd140
      have hs142 := hx138.trans hq141
      refine tt_goto (tgt := 94) dX0_becomeEqual_45 rfl ?_
      have hF : Z_X0_becomeEqual R (sg S) o0 = d139 := by
        subst hd140
        exact zl_X0_becomeEqual_1 q106 q113
      exact tt_vreturn dX0_becomeEqual_94 rfl (hP _ _ _ _ ⟨hG135, hA137, Or.inl ⟨_, rfl, rfl, Eq.trans hs142 hF.symm, rfl, rfl⟩⟩)
  · skip
    have h143 : Rg 1 1 (Z_X7_isAny R (sg S) (R 0 o0)) := rg_ne_lo h104 (⟨by decide, by decide⟩ : Rg 0 0 0) q106
    refine tt_aload_n (j := 0) dX0_becomeEqual_10 rfl ?_
    refine gt_gR (id := 0) dX0_becomeEqual_11 fl_0_14 rfl rfl h0 hA hr101 ?_
    refine tt_aload_n (j := 0) dX0_becomeEqual_14 rfl ?_
    have hr144 := rk_R (k := 1) hR h0 7 0
    have ho145 := rk_O (k := 1) hG hR h0 7 0
    refine gt_gR (id := 1) dX0_becomeEqual_15 fl_0_18 rfl rfl h0 hA hr144 ?_
    refine gt_Vv (As := [.ref (R 1 o0)]) dX0_becomeEqual_18 ca_X0_80 ⟨by decide, by decide⟩ ho102 hA rfl (Nat.le_of_ble_eq_true rfl) (Nat.le_of_ble_eq_true rfl) (by decide) (cz_X7_copyFrom hG (oa_af ho102 hA) (oa_af ho145 hA) hR (fun _ _ _ _ h => h)) rfl (fun _ h => nomatch h) (fun S146 hx150 hG147 hB148 hA149 => ?_)
    obtain ⟨d151, hd152⟩ : ∃ q, Z_X7_copyFrom R (sg S) (R 0 o0) (R 1 o0) = q := ⟨_, rfl⟩
    have hq153 := (congrArg (fun q9 => Z_X7_copyFrom R q9 (R 0 o0) (R 1 o0)) (show sg S = (sg S) from rfl)).trans hd152
    have hs154 := hx150.trans hq153
    refine tt_goto (tgt := 94) dX0_becomeEqual_21 rfl ?_
    have hF : Z_X0_becomeEqual R (sg S) o0 = d151 := by
      subst hd152
      exact zl_X0_becomeEqual_2 q106
    exact tt_vreturn dX0_becomeEqual_94 rfl (hP _ _ _ _ ⟨hG147, hA149, Or.inl ⟨_, rfl, rfl, Eq.trans hs154 hF.symm, rfl, rfl⟩⟩)
def Z_X0_becomeUnequal (R : Nat → Nat → Nat) (σ : SG) (o0 : Nat) : SG :=
  if (Z_X7_isSingle R σ (R 1 o0)) = 0 then
    if (Z_X7_isSingle R σ (R 0 o0)) = 0 then
      σ
    else
      let d121 := Z_X7_drop R σ (R 1 o0) ((mJ σ 448 (R 0 o0)))
      d121
  else
    let d131 := Z_X7_drop R σ (R 0 o0) ((mJ σ 448 (R 1 o0)))
    if (Z_X7_isSingle R σ (R 0 o0)) = 0 then
      d131
    else
      let d143 := Z_X7_drop R d131 (R 1 o0) ((mJ σ 448 (R 0 o0)))
      d143
theorem zl_X0_becomeUnequal_0 {R : Nat → Nat → Nat} {σ : SG} {o0 : Nat} (h0 : (Z_X7_isSingle R σ (R 1 o0)) = 0) (h1 : (Z_X7_isSingle R σ (R 0 o0)) = 0) : Z_X0_becomeUnequal R σ o0 = σ := by unfold Z_X0_becomeUnequal; exact Eq.trans (if_pos h0) (if_pos h1)
theorem zl_X0_becomeUnequal_1 {R : Nat → Nat → Nat} {σ : SG} {o0 : Nat} (h0 : (Z_X7_isSingle R σ (R 1 o0)) = 0) (h1 : ¬ (Z_X7_isSingle R σ (R 0 o0)) = 0) : Z_X0_becomeUnequal R σ o0 = (Z_X7_drop R σ (R 1 o0) ((mJ σ 448 (R 0 o0)))) := by unfold Z_X0_becomeUnequal; exact Eq.trans (if_pos h0) (if_neg h1)
theorem zl_X0_becomeUnequal_2 {R : Nat → Nat → Nat} {σ : SG} {o0 : Nat} (h0 : ¬ (Z_X7_isSingle R σ (R 1 o0)) = 0) (h1 : (Z_X7_isSingle R σ (R 0 o0)) = 0) : Z_X0_becomeUnequal R σ o0 = (Z_X7_drop R σ (R 0 o0) ((mJ σ 448 (R 1 o0)))) := by unfold Z_X0_becomeUnequal; exact Eq.trans (if_neg h0) (if_pos h1)
theorem zl_X0_becomeUnequal_3 {R : Nat → Nat → Nat} {σ : SG} {o0 : Nat} (h0 : ¬ (Z_X7_isSingle R σ (R 1 o0)) = 0) (h1 : ¬ (Z_X7_isSingle R σ (R 0 o0)) = 0) : Z_X0_becomeUnequal R σ o0 = (Z_X7_drop R (Z_X7_drop R σ (R 0 o0) ((mJ σ 448 (R 1 o0)))) (R 1 o0) ((mJ σ 448 (R 0 o0)))) := by unfold Z_X0_becomeUnequal; exact Eq.trans (if_neg h0) (if_neg h1)
set_option maxHeartbeats 40000000 in
theorem cz_X0_becomeUnequal {xi : SX} {S : Hp} {E : List Nat} {kc nc : Nat} {P : Po} {o0 : Nat} {R : Nat → Nat → Nat} (hG : GI S E) (h0 : Oa S E 0 0 o0) (hR : RK S R) (hP : ∀ r T x y, PV E [9987] S kc nc rV (fun v T => sg T = Z_X0_becomeUnequal R (sg S) o0) [] r T x y → P r T x y) : TT xi M_X0_becomeUnequal 0 [(0, .ref o0)] [] S kc nc P := by
  have hA : Af E [9987] S S := af_rf
  refine tt_aload_n (j := 0) dX0_becomeUnequal_0 rfl ?_
  have hr101 := rk_R (k := 0) hR h0 7 0
  have ho102 := rk_O (k := 0) hG hR h0 7 0
  refine gt_gR (id := 0) dX0_becomeUnequal_1 fl_0_14 rfl rfl h0 hA hr101 ?_
  refine gt_VIp (As := []) dX0_becomeUnequal_4 ca_X0_90 ⟨by decide, by decide⟩ ho102 hA rfl (Nat.le_of_ble_eq_true rfl) (Nat.le_of_ble_eq_true rfl) (by decide) (cz_X7_isSingle hG (oa_af ho102 hA) hR (fun _ _ _ _ h => h)) rfl (fun _ h => nomatch h) (fun _ _ q => q.1) (fun x103 h104 hx105 => ?_)
  obtain rfl : Z_X7_isSingle R (sg S) (R 0 o0) = x103 := ((ei_w hx105.2).trans (congrArg (fun q9 => Z_X7_isSingle R q9 (R 0 o0)) (show sg S = (sg S) from rfl))).symm
  refine tt_istore_n (ks := [0, 1]) (L' := [(1, .int (Z_X7_isSingle R (sg S) (R 0 o0))), (0, .ref o0)]) dX0_becomeUnequal_7 (by decide) rfl ?_
  refine tt_aload_n (j := 1) dX0_becomeUnequal_8 rfl ?_
  refine gt_gR (id := 0) dX0_becomeUnequal_9 fl_0_14 rfl rfl h0 hA hr101 ?_
  refine gt_gJ (id := 448) (v := (mJ (sg S) 448 (R 0 o0))) dX0_becomeUnequal_12 fl_0_84 rfl rfl ho102 hA (sg_J (k := 448) (o := (R 0 o0)) (show sg S = (sg S) from rfl)) ?_
  refine tt_lstore_n (ks := [0, 1, 2]) (L' := [(2, .long (mJ (sg S) 448 (R 0 o0))), (1, .int (Z_X7_isSingle R (sg S) (R 0 o0))), (0, .ref o0)]) dX0_becomeUnequal_15 (by decide) rfl ?_
  refine tt_aload_n (j := 2) dX0_becomeUnequal_16 rfl ?_
  have hr106 := rk_R (k := 1) hR h0 7 0
  have ho107 := rk_O (k := 1) hG hR h0 7 0
  refine gt_gR (id := 1) dX0_becomeUnequal_17 fl_0_18 rfl rfl h0 hA hr106 ?_
  refine gt_VIp (As := []) dX0_becomeUnequal_20 ca_X0_90 ⟨by decide, by decide⟩ ho107 hA rfl (Nat.le_of_ble_eq_true rfl) (Nat.le_of_ble_eq_true rfl) (by decide) (cz_X7_isSingle hG (oa_af ho107 hA) hR (fun _ _ _ _ h => h)) rfl (fun _ h => nomatch h) (fun _ _ q => q.1) (fun x108 h109 hx110 => ?_)
  obtain rfl : Z_X7_isSingle R (sg S) (R 1 o0) = x108 := ((ei_w hx110.2).trans (congrArg (fun q9 => Z_X7_isSingle R q9 (R 1 o0)) (show sg S = (sg S) from rfl))).symm
  refine tt_if_eq (tgt := 40) dX0_becomeUnequal_23 rfl (fun q111 => ?_) (fun q111 => ?_)
  · skip
    have h112 : Rg 0 0 (Z_X7_isSingle R (sg S) (R 1 o0)) := rg_eq_l h109 (⟨by decide, by decide⟩ : Rg 0 0 0) q111
    refine tt_iload_n (j := 1) dX0_becomeUnequal_40 rfl ?_
    refine tt_if_eq (tgt := 52) dX0_becomeUnequal_41 rfl (fun q113 => ?_) (fun q113 => ?_)
    · skip
      have h114 : Rg 0 0 (Z_X7_isSingle R (sg S) (R 0 o0)) := rg_eq_l h104 (⟨by decide, by decide⟩ : Rg 0 0 0) q113
      have hF : Z_X0_becomeUnequal R (sg S) o0 = (sg S) := by
        exact zl_X0_becomeUnequal_0 q111 q113
      exact tt_vreturn dX0_becomeUnequal_52 rfl (hP _ _ _ _ ⟨hG, hA, Or.inl ⟨_, rfl, rfl, Eq.trans (show sg S = (sg S) from rfl) hF.symm, rfl, rfl⟩⟩)
    · skip
      have h115 : Rg 1 1 (Z_X7_isSingle R (sg S) (R 0 o0)) := rg_ne_lo h104 (⟨by decide, by decide⟩ : Rg 0 0 0) q113
      refine tt_aload_n (j := 2) dX0_becomeUnequal_44 rfl ?_
      refine gt_gR (id := 1) dX0_becomeUnequal_45 fl_0_18 rfl rfl h0 hA hr106 ?_
      refine tt_lload_n (j := 0) dX0_becomeUnequal_48 rfl ?_
      refine gt_Vv (As := [.long (mJ (sg S) 448 (R 0 o0))]) dX0_becomeUnequal_49 ca_X0_93 ⟨by decide, by decide⟩ ho107 hA rfl (Nat.le_of_ble_eq_true rfl) (Nat.le_of_ble_eq_true rfl) (by decide) (cz_X7_drop hG (oa_af ho107 hA) hR (fun _ _ _ _ h => h)) rfl (fun _ h => nomatch h) (fun S116 hx120 hG117 hB118 hA119 => ?_)
      obtain ⟨d121, hd122⟩ : ∃ q, Z_X7_drop R (sg S) (R 1 o0) ((mJ (sg S) 448 (R 0 o0))) = q := ⟨_, rfl⟩
      have hq123 := (congrArg (fun q9 => Z_X7_drop R q9 (R 1 o0) ((mJ (sg S) 448 (R 0 o0)))) (show sg S = (sg S) from rfl)).trans hd122
      have hs124 := hx120.trans hq123
      have hF : Z_X0_becomeUnequal R (sg S) o0 = d121 := by
        subst hd122
        exact zl_X0_becomeUnequal_1 q111 q113
      exact tt_vreturn dX0_becomeUnequal_52 rfl (hP _ _ _ _ ⟨hG117, hA119, Or.inl ⟨_, rfl, rfl, Eq.trans hs124 hF.symm, rfl, rfl⟩⟩)
  · skip
    have h125 : Rg 1 1 (Z_X7_isSingle R (sg S) (R 1 o0)) := rg_ne_lo h109 (⟨by decide, by decide⟩ : Rg 0 0 0) q111
    refine tt_aload_n (j := 2) dX0_becomeUnequal_26 rfl ?_
    refine gt_gR (id := 0) dX0_becomeUnequal_27 fl_0_14 rfl rfl h0 hA hr101 ?_
    refine tt_aload_n (j := 2) dX0_becomeUnequal_30 rfl ?_
    refine gt_gR (id := 1) dX0_becomeUnequal_31 fl_0_18 rfl rfl h0 hA hr106 ?_
    refine gt_gJ (id := 448) (v := (mJ (sg S) 448 (R 1 o0))) dX0_becomeUnequal_34 fl_0_84 rfl rfl ho107 hA (sg_J (k := 448) (o := (R 1 o0)) (show sg S = (sg S) from rfl)) ?_
    refine gt_Vv (As := [.long (mJ (sg S) 448 (R 1 o0))]) dX0_becomeUnequal_37 ca_X0_93 ⟨by decide, by decide⟩ ho102 hA rfl (Nat.le_of_ble_eq_true rfl) (Nat.le_of_ble_eq_true rfl) (by decide) (cz_X7_drop hG (oa_af ho102 hA) hR (fun _ _ _ _ h => h)) rfl (fun _ h => nomatch h) (fun S126 hx130 hG127 hB128 hA129 => ?_)
    obtain ⟨d131, hd132⟩ : ∃ q, Z_X7_drop R (sg S) (R 0 o0) ((mJ (sg S) 448 (R 1 o0))) = q := ⟨_, rfl⟩
    have hq133 := (congrArg (fun q9 => Z_X7_drop R q9 (R 0 o0) ((mJ (sg S) 448 (R 1 o0)))) (show sg S = (sg S) from rfl)).trans hd132
    have hs134 := hx130.trans hq133
    refine tt_iload_n (j := 1) dX0_becomeUnequal_40 rfl ?_
    refine tt_if_eq (tgt := 52) dX0_becomeUnequal_41 rfl (fun q135 => ?_) (fun q135 => ?_)
    · skip
      have h136 : Rg 0 0 (Z_X7_isSingle R (sg S) (R 0 o0)) := rg_eq_l h104 (⟨by decide, by decide⟩ : Rg 0 0 0) q135
      have hF : Z_X0_becomeUnequal R (sg S) o0 = d131 := by
        subst hd132
        exact zl_X0_becomeUnequal_2 q111 q135
      exact tt_vreturn dX0_becomeUnequal_52 rfl (hP _ _ _ _ ⟨hG127, hA129, Or.inl ⟨_, rfl, rfl, Eq.trans hs134 hF.symm, rfl, rfl⟩⟩)
    · skip
      have h137 : Rg 1 1 (Z_X7_isSingle R (sg S) (R 0 o0)) := rg_ne_lo h104 (⟨by decide, by decide⟩ : Rg 0 0 0) q135
      refine tt_aload_n (j := 2) dX0_becomeUnequal_44 rfl ?_
      refine gt_gR (id := 1) dX0_becomeUnequal_45 fl_0_18 rfl rfl h0 hA129 hr106 ?_
      refine tt_lload_n (j := 0) dX0_becomeUnequal_48 rfl ?_
      refine gt_Vv (As := [.long (mJ (sg S) 448 (R 0 o0))]) dX0_becomeUnequal_49 ca_X0_93 ⟨by decide, by decide⟩ ho107 hA129 rfl (Nat.le_of_ble_eq_true rfl) (Nat.le_of_ble_eq_true rfl) (by decide) (cz_X7_drop hG127 (oa_af ho107 hA129) (rk_af hR hA129) (fun _ _ _ _ h => h)) rfl (fun _ h => nomatch h) (fun S138 hx142 hG139 hB140 hA141 => ?_)
      obtain ⟨d143, hd144⟩ : ∃ q, Z_X7_drop R d131 (R 1 o0) ((mJ (sg S) 448 (R 0 o0))) = q := ⟨_, rfl⟩
      have hq145 := (congrArg (fun q9 => Z_X7_drop R q9 (R 1 o0) ((mJ (sg S) 448 (R 0 o0)))) hs134).trans hd144
      have hs146 := hx142.trans hq145
      have hF : Z_X0_becomeUnequal R (sg S) o0 = d143 := by
        subst hd144
        subst hd132
        exact zl_X0_becomeUnequal_3 q111 q135
      exact tt_vreturn dX0_becomeUnequal_52 rfl (hP _ _ _ _ ⟨hG139, hA141, Or.inl ⟨_, rfl, rfl, Eq.trans hs146 hF.symm, rfl, rfl⟩⟩)
def Z_X0_order (R : Nat → Nat → Nat) (σ : SG) (o0 : Nat) (o1 : Nat) (x2 : Int32) : SG :=
  if (Z_X7_isAny R σ o0) = 0 then
    if (Z_X7_isAny R σ o1) = 0 then
      let d116 := Z_X7_cut R σ o0 ((-9223372036854775808)) (((mJ σ 449 o1) - (x2 : Int32).toInt64))
      let d125 := Z_X7_cut R d116 o1 (((mJ σ 448 o0) + (x2 : Int32).toInt64)) (9223372036854775807)
      d125
    else
      let d135 := Z_X7_cut R σ o0 ((-9223372036854775808)) (9223372036854775807)
      let d144 := Z_X7_cut R d135 o1 (((mJ σ 448 o0) + (x2 : Int32).toInt64)) (9223372036854775807)
      d144
  else
    if (Z_X7_isAny R σ o1) = 0 then
      let d159 := Z_X7_cut R σ o0 ((-9223372036854775808)) (((mJ σ 449 o1) - (x2 : Int32).toInt64))
      let d168 := Z_X7_cut R d159 o1 ((-9223372036854775808)) (9223372036854775807)
      d168
    else
      let d178 := Z_X7_cut R σ o0 ((-9223372036854775808)) (9223372036854775807)
      let d187 := Z_X7_cut R d178 o1 ((-9223372036854775808)) (9223372036854775807)
      d187
theorem zl_X0_order_0 {R : Nat → Nat → Nat} {σ : SG} {o0 : Nat} {o1 : Nat} {x2 : Int32} (h0 : (Z_X7_isAny R σ o0) = 0) (h1 : (Z_X7_isAny R σ o1) = 0) : Z_X0_order R σ o0 o1 x2 = (Z_X7_cut R (Z_X7_cut R σ o0 ((-9223372036854775808)) (((mJ σ 449 o1) - (x2 : Int32).toInt64))) o1 (((mJ σ 448 o0) + (x2 : Int32).toInt64)) (9223372036854775807)) := by unfold Z_X0_order; exact Eq.trans (if_pos h0) (if_pos h1)
theorem zl_X0_order_1 {R : Nat → Nat → Nat} {σ : SG} {o0 : Nat} {o1 : Nat} {x2 : Int32} (h0 : (Z_X7_isAny R σ o0) = 0) (h1 : ¬ (Z_X7_isAny R σ o1) = 0) : Z_X0_order R σ o0 o1 x2 = (Z_X7_cut R (Z_X7_cut R σ o0 ((-9223372036854775808)) (9223372036854775807)) o1 (((mJ σ 448 o0) + (x2 : Int32).toInt64)) (9223372036854775807)) := by unfold Z_X0_order; exact Eq.trans (if_pos h0) (if_neg h1)
theorem zl_X0_order_2 {R : Nat → Nat → Nat} {σ : SG} {o0 : Nat} {o1 : Nat} {x2 : Int32} (h0 : ¬ (Z_X7_isAny R σ o0) = 0) (h1 : (Z_X7_isAny R σ o1) = 0) : Z_X0_order R σ o0 o1 x2 = (Z_X7_cut R (Z_X7_cut R σ o0 ((-9223372036854775808)) (((mJ σ 449 o1) - (x2 : Int32).toInt64))) o1 ((-9223372036854775808)) (9223372036854775807)) := by unfold Z_X0_order; exact Eq.trans (if_neg h0) (if_pos h1)
theorem zl_X0_order_3 {R : Nat → Nat → Nat} {σ : SG} {o0 : Nat} {o1 : Nat} {x2 : Int32} (h0 : ¬ (Z_X7_isAny R σ o0) = 0) (h1 : ¬ (Z_X7_isAny R σ o1) = 0) : Z_X0_order R σ o0 o1 x2 = (Z_X7_cut R (Z_X7_cut R σ o0 ((-9223372036854775808)) (9223372036854775807)) o1 ((-9223372036854775808)) (9223372036854775807)) := by unfold Z_X0_order; exact Eq.trans (if_neg h0) (if_neg h1)
set_option maxHeartbeats 40000000 in
theorem cz_X0_order {xi : SX} {S : Hp} {E : List Nat} {kc nc : Nat} {P : Po} {o0 : Nat} {o1 : Nat} {x2 : Int32} {R : Nat → Nat → Nat} (hG : GI S E) (h0 : Oa S E 7 0 o0) (h1 : Oa S E 7 0 o1) (hR : RK S R) (hP : ∀ r T x y, PV E [9987] S kc nc rV (fun v T => sg T = Z_X0_order R (sg S) o0 o1 x2) [] r T x y → P r T x y) : TT xi M_X0_order 0 [(0, .ref o0), (1, .ref o1), (2, .int x2)] [] S kc nc P := by
  have hA : Af E [9987] S S := af_rf
  refine tt_aload_n (j := 0) dX0_order_0 rfl ?_
  refine gt_VIp (As := []) dX0_order_1 ca_X0_77 ⟨by decide, by decide⟩ h0 hA rfl (Nat.le_of_ble_eq_true rfl) (Nat.le_of_ble_eq_true rfl) (by decide) (cz_X7_isAny hG (oa_af h0 hA) hR (fun _ _ _ _ h => h)) rfl (fun _ h => nomatch h) (fun _ _ q => q.1) (fun x101 h102 hx103 => ?_)
  obtain rfl : Z_X7_isAny R (sg S) o0 = x101 := ((ei_w hx103.2).trans (congrArg (fun q9 => Z_X7_isAny R q9 o0) (show sg S = (sg S) from rfl))).symm
  refine tt_if_eq (tgt := 13) dX0_order_4 rfl (fun q104 => ?_) (fun q104 => ?_)
  · skip
    have h105 : Rg 0 0 (Z_X7_isAny R (sg S) o0) := rg_eq_l h102 (⟨by decide, by decide⟩ : Rg 0 0 0) q104
    refine tt_aload_n (j := 0) dX0_order_13 rfl ?_
    refine gt_gJ (id := 448) (v := (mJ (sg S) 448 o0)) dX0_order_14 fl_0_84 rfl rfl h0 hA (sg_J (k := 448) (o := o0) (show sg S = (sg S) from rfl)) ?_
    refine tt_iload_n (j := 2) dX0_order_17 rfl ?_
    refine tt_i2l dX0_order_18 ?_
    refine tt_ladd dX0_order_19 ?_
    refine tt_lstore_n (ks := [0, 1, 2, 3]) (L' := [(3, .long ((mJ (sg S) 448 o0) + (x2 : Int32).toInt64)), (0, .ref o0), (1, .ref o1), (2, .int x2)]) dX0_order_20 (by decide) rfl ?_
    refine tt_aload_n (j := 2) dX0_order_21 rfl ?_
    refine gt_VIp (As := []) dX0_order_22 ca_X0_77 ⟨by decide, by decide⟩ h1 hA rfl (Nat.le_of_ble_eq_true rfl) (Nat.le_of_ble_eq_true rfl) (by decide) (cz_X7_isAny hG (oa_af h1 hA) hR (fun _ _ _ _ h => h)) rfl (fun _ h => nomatch h) (fun _ _ q => q.1) (fun x106 h107 hx108 => ?_)
    obtain rfl : Z_X7_isAny R (sg S) o1 = x106 := ((ei_w hx108.2).trans (congrArg (fun q9 => Z_X7_isAny R q9 o1) (show sg S = (sg S) from rfl))).symm
    refine tt_if_eq (tgt := 34) dX0_order_25 rfl (fun q109 => ?_) (fun q109 => ?_)
    · skip
      have h110 : Rg 0 0 (Z_X7_isAny R (sg S) o1) := rg_eq_l h107 (⟨by decide, by decide⟩ : Rg 0 0 0) q109
      refine tt_aload_n (j := 2) dX0_order_34 rfl ?_
      refine gt_gJ (id := 449) (v := (mJ (sg S) 449 o1)) dX0_order_35 fl_0_87 rfl rfl h1 hA (sg_J (k := 449) (o := o1) (show sg S = (sg S) from rfl)) ?_
      refine tt_iload_n (j := 3) dX0_order_38 rfl ?_
      refine tt_i2l dX0_order_39 ?_
      refine tt_lsub dX0_order_40 ?_
      refine tt_lstore (ks := [0, 1, 2, 3, 4]) (L' := [(5, .long ((mJ (sg S) 449 o1) - (x2 : Int32).toInt64)), (3, .long ((mJ (sg S) 448 o0) + (x2 : Int32).toInt64)), (0, .ref o0), (1, .ref o1), (2, .int x2)]) dX0_order_41 (by decide) rfl ?_
      refine tt_aload_n (j := 2) dX0_order_43 rfl ?_
      refine tt_ldc2 (v := (-9223372036854775808)) dX0_order_44 kl_0_53 ?_
      refine tt_lload (j := 0) dX0_order_47 rfl ?_
      refine gt_Vv (As := [.long (-9223372036854775808), .long ((mJ (sg S) 449 o1) - (x2 : Int32).toInt64)]) dX0_order_49 ca_X0_59 ⟨by decide, by decide⟩ h0 hA rfl (Nat.le_of_ble_eq_true rfl) (Nat.le_of_ble_eq_true rfl) (by decide) (cz_X7_cut hG (oa_af h0 hA) hR (fun _ _ _ _ h => h)) rfl (fun _ h => nomatch h) (fun S111 hx115 hG112 hB113 hA114 => ?_)
      obtain ⟨d116, hd117⟩ : ∃ q, Z_X7_cut R (sg S) o0 ((-9223372036854775808)) (((mJ (sg S) 449 o1) - (x2 : Int32).toInt64)) = q := ⟨_, rfl⟩
      have hq118 := (congrArg (fun q9 => Z_X7_cut R q9 o0 ((-9223372036854775808)) (((mJ (sg S) 449 o1) - (x2 : Int32).toInt64))) (show sg S = (sg S) from rfl)).trans hd117
      have hs119 := hx115.trans hq118
      refine tt_aload_n (j := 3) dX0_order_52 rfl ?_
      refine tt_lload_n (j := 1) dX0_order_53 rfl ?_
      refine tt_ldc2 (v := 9223372036854775807) dX0_order_54 kl_0_57 ?_
      refine gt_Vv (As := [.long ((mJ (sg S) 448 o0) + (x2 : Int32).toInt64), .long 9223372036854775807]) dX0_order_57 ca_X0_59 ⟨by decide, by decide⟩ h1 hA114 rfl (Nat.le_of_ble_eq_true rfl) (Nat.le_of_ble_eq_true rfl) (by decide) (cz_X7_cut hG112 (oa_af h1 hA114) (rk_af hR hA114) (fun _ _ _ _ h => h)) rfl (fun _ h => nomatch h) (fun S120 hx124 hG121 hB122 hA123 => ?_)
      obtain ⟨d125, hd126⟩ : ∃ q, Z_X7_cut R d116 o1 (((mJ (sg S) 448 o0) + (x2 : Int32).toInt64)) (9223372036854775807) = q := ⟨_, rfl⟩
      have hq127 := (congrArg (fun q9 => Z_X7_cut R q9 o1 (((mJ (sg S) 448 o0) + (x2 : Int32).toInt64)) (9223372036854775807)) hs119).trans hd126
      have hs128 := hx124.trans hq127
      have hF : Z_X0_order R (sg S) o0 o1 x2 = d125 := by
        subst hd126
        subst hd117
        exact zl_X0_order_0 q104 q109
      exact tt_vreturn dX0_order_60 rfl (hP _ _ _ _ ⟨hG121, hA123, Or.inl ⟨_, rfl, rfl, Eq.trans hs128 hF.symm, rfl, rfl⟩⟩)
    · skip
      have h129 : Rg 1 1 (Z_X7_isAny R (sg S) o1) := rg_ne_lo h107 (⟨by decide, by decide⟩ : Rg 0 0 0) q109
      refine tt_ldc2 (v := 9223372036854775807) dX0_order_28 kl_0_57 ?_
      refine tt_goto (tgt := 41) dX0_order_31 rfl ?_
      refine tt_lstore (ks := [0, 1, 2, 3, 4]) (L' := [(5, .long 9223372036854775807), (3, .long ((mJ (sg S) 448 o0) + (x2 : Int32).toInt64)), (0, .ref o0), (1, .ref o1), (2, .int x2)]) dX0_order_41 (by decide) rfl ?_
      refine tt_aload_n (j := 2) dX0_order_43 rfl ?_
      refine tt_ldc2 (v := (-9223372036854775808)) dX0_order_44 kl_0_53 ?_
      refine tt_lload (j := 0) dX0_order_47 rfl ?_
      refine gt_Vv (As := [.long (-9223372036854775808), .long 9223372036854775807]) dX0_order_49 ca_X0_59 ⟨by decide, by decide⟩ h0 hA rfl (Nat.le_of_ble_eq_true rfl) (Nat.le_of_ble_eq_true rfl) (by decide) (cz_X7_cut hG (oa_af h0 hA) hR (fun _ _ _ _ h => h)) rfl (fun _ h => nomatch h) (fun S130 hx134 hG131 hB132 hA133 => ?_)
      obtain ⟨d135, hd136⟩ : ∃ q, Z_X7_cut R (sg S) o0 ((-9223372036854775808)) (9223372036854775807) = q := ⟨_, rfl⟩
      have hq137 := (congrArg (fun q9 => Z_X7_cut R q9 o0 ((-9223372036854775808)) (9223372036854775807)) (show sg S = (sg S) from rfl)).trans hd136
      have hs138 := hx134.trans hq137
      refine tt_aload_n (j := 3) dX0_order_52 rfl ?_
      refine tt_lload_n (j := 1) dX0_order_53 rfl ?_
      refine tt_ldc2 (v := 9223372036854775807) dX0_order_54 kl_0_57 ?_
      refine gt_Vv (As := [.long ((mJ (sg S) 448 o0) + (x2 : Int32).toInt64), .long 9223372036854775807]) dX0_order_57 ca_X0_59 ⟨by decide, by decide⟩ h1 hA133 rfl (Nat.le_of_ble_eq_true rfl) (Nat.le_of_ble_eq_true rfl) (by decide) (cz_X7_cut hG131 (oa_af h1 hA133) (rk_af hR hA133) (fun _ _ _ _ h => h)) rfl (fun _ h => nomatch h) (fun S139 hx143 hG140 hB141 hA142 => ?_)
      obtain ⟨d144, hd145⟩ : ∃ q, Z_X7_cut R d135 o1 (((mJ (sg S) 448 o0) + (x2 : Int32).toInt64)) (9223372036854775807) = q := ⟨_, rfl⟩
      have hq146 := (congrArg (fun q9 => Z_X7_cut R q9 o1 (((mJ (sg S) 448 o0) + (x2 : Int32).toInt64)) (9223372036854775807)) hs138).trans hd145
      have hs147 := hx143.trans hq146
      have hF : Z_X0_order R (sg S) o0 o1 x2 = d144 := by
        subst hd145
        subst hd136
        exact zl_X0_order_1 q104 q109
      exact tt_vreturn dX0_order_60 rfl (hP _ _ _ _ ⟨hG140, hA142, Or.inl ⟨_, rfl, rfl, Eq.trans hs147 hF.symm, rfl, rfl⟩⟩)
  · skip
    have h148 : Rg 1 1 (Z_X7_isAny R (sg S) o0) := rg_ne_lo h102 (⟨by decide, by decide⟩ : Rg 0 0 0) q104
    refine tt_ldc2 (v := (-9223372036854775808)) dX0_order_7 kl_0_53 ?_
    refine tt_goto (tgt := 20) dX0_order_10 rfl ?_
    refine tt_lstore_n (ks := [0, 1, 2, 3]) (L' := [(3, .long (-9223372036854775808)), (0, .ref o0), (1, .ref o1), (2, .int x2)]) dX0_order_20 (by decide) rfl ?_
    refine tt_aload_n (j := 2) dX0_order_21 rfl ?_
    refine gt_VIp (As := []) dX0_order_22 ca_X0_77 ⟨by decide, by decide⟩ h1 hA rfl (Nat.le_of_ble_eq_true rfl) (Nat.le_of_ble_eq_true rfl) (by decide) (cz_X7_isAny hG (oa_af h1 hA) hR (fun _ _ _ _ h => h)) rfl (fun _ h => nomatch h) (fun _ _ q => q.1) (fun x149 h150 hx151 => ?_)
    obtain rfl : Z_X7_isAny R (sg S) o1 = x149 := ((ei_w hx151.2).trans (congrArg (fun q9 => Z_X7_isAny R q9 o1) (show sg S = (sg S) from rfl))).symm
    refine tt_if_eq (tgt := 34) dX0_order_25 rfl (fun q152 => ?_) (fun q152 => ?_)
    · skip
      have h153 : Rg 0 0 (Z_X7_isAny R (sg S) o1) := rg_eq_l h150 (⟨by decide, by decide⟩ : Rg 0 0 0) q152
      refine tt_aload_n (j := 2) dX0_order_34 rfl ?_
      refine gt_gJ (id := 449) (v := (mJ (sg S) 449 o1)) dX0_order_35 fl_0_87 rfl rfl h1 hA (sg_J (k := 449) (o := o1) (show sg S = (sg S) from rfl)) ?_
      refine tt_iload_n (j := 3) dX0_order_38 rfl ?_
      refine tt_i2l dX0_order_39 ?_
      refine tt_lsub dX0_order_40 ?_
      refine tt_lstore (ks := [0, 1, 2, 3, 4]) (L' := [(5, .long ((mJ (sg S) 449 o1) - (x2 : Int32).toInt64)), (3, .long (-9223372036854775808)), (0, .ref o0), (1, .ref o1), (2, .int x2)]) dX0_order_41 (by decide) rfl ?_
      refine tt_aload_n (j := 2) dX0_order_43 rfl ?_
      refine tt_ldc2 (v := (-9223372036854775808)) dX0_order_44 kl_0_53 ?_
      refine tt_lload (j := 0) dX0_order_47 rfl ?_
      refine gt_Vv (As := [.long (-9223372036854775808), .long ((mJ (sg S) 449 o1) - (x2 : Int32).toInt64)]) dX0_order_49 ca_X0_59 ⟨by decide, by decide⟩ h0 hA rfl (Nat.le_of_ble_eq_true rfl) (Nat.le_of_ble_eq_true rfl) (by decide) (cz_X7_cut hG (oa_af h0 hA) hR (fun _ _ _ _ h => h)) rfl (fun _ h => nomatch h) (fun S154 hx158 hG155 hB156 hA157 => ?_)
      obtain ⟨d159, hd160⟩ : ∃ q, Z_X7_cut R (sg S) o0 ((-9223372036854775808)) (((mJ (sg S) 449 o1) - (x2 : Int32).toInt64)) = q := ⟨_, rfl⟩
      have hq161 := (congrArg (fun q9 => Z_X7_cut R q9 o0 ((-9223372036854775808)) (((mJ (sg S) 449 o1) - (x2 : Int32).toInt64))) (show sg S = (sg S) from rfl)).trans hd160
      have hs162 := hx158.trans hq161
      refine tt_aload_n (j := 3) dX0_order_52 rfl ?_
      refine tt_lload_n (j := 1) dX0_order_53 rfl ?_
      refine tt_ldc2 (v := 9223372036854775807) dX0_order_54 kl_0_57 ?_
      refine gt_Vv (As := [.long (-9223372036854775808), .long 9223372036854775807]) dX0_order_57 ca_X0_59 ⟨by decide, by decide⟩ h1 hA157 rfl (Nat.le_of_ble_eq_true rfl) (Nat.le_of_ble_eq_true rfl) (by decide) (cz_X7_cut hG155 (oa_af h1 hA157) (rk_af hR hA157) (fun _ _ _ _ h => h)) rfl (fun _ h => nomatch h) (fun S163 hx167 hG164 hB165 hA166 => ?_)
      obtain ⟨d168, hd169⟩ : ∃ q, Z_X7_cut R d159 o1 ((-9223372036854775808)) (9223372036854775807) = q := ⟨_, rfl⟩
      have hq170 := (congrArg (fun q9 => Z_X7_cut R q9 o1 ((-9223372036854775808)) (9223372036854775807)) hs162).trans hd169
      have hs171 := hx167.trans hq170
      have hF : Z_X0_order R (sg S) o0 o1 x2 = d168 := by
        subst hd169
        subst hd160
        exact zl_X0_order_2 q104 q152
      exact tt_vreturn dX0_order_60 rfl (hP _ _ _ _ ⟨hG164, hA166, Or.inl ⟨_, rfl, rfl, Eq.trans hs171 hF.symm, rfl, rfl⟩⟩)
    · skip
      have h172 : Rg 1 1 (Z_X7_isAny R (sg S) o1) := rg_ne_lo h150 (⟨by decide, by decide⟩ : Rg 0 0 0) q152
      refine tt_ldc2 (v := 9223372036854775807) dX0_order_28 kl_0_57 ?_
      refine tt_goto (tgt := 41) dX0_order_31 rfl ?_
      refine tt_lstore (ks := [0, 1, 2, 3, 4]) (L' := [(5, .long 9223372036854775807), (3, .long (-9223372036854775808)), (0, .ref o0), (1, .ref o1), (2, .int x2)]) dX0_order_41 (by decide) rfl ?_
      refine tt_aload_n (j := 2) dX0_order_43 rfl ?_
      refine tt_ldc2 (v := (-9223372036854775808)) dX0_order_44 kl_0_53 ?_
      refine tt_lload (j := 0) dX0_order_47 rfl ?_
      refine gt_Vv (As := [.long (-9223372036854775808), .long 9223372036854775807]) dX0_order_49 ca_X0_59 ⟨by decide, by decide⟩ h0 hA rfl (Nat.le_of_ble_eq_true rfl) (Nat.le_of_ble_eq_true rfl) (by decide) (cz_X7_cut hG (oa_af h0 hA) hR (fun _ _ _ _ h => h)) rfl (fun _ h => nomatch h) (fun S173 hx177 hG174 hB175 hA176 => ?_)
      obtain ⟨d178, hd179⟩ : ∃ q, Z_X7_cut R (sg S) o0 ((-9223372036854775808)) (9223372036854775807) = q := ⟨_, rfl⟩
      have hq180 := (congrArg (fun q9 => Z_X7_cut R q9 o0 ((-9223372036854775808)) (9223372036854775807)) (show sg S = (sg S) from rfl)).trans hd179
      have hs181 := hx177.trans hq180
      refine tt_aload_n (j := 3) dX0_order_52 rfl ?_
      refine tt_lload_n (j := 1) dX0_order_53 rfl ?_
      refine tt_ldc2 (v := 9223372036854775807) dX0_order_54 kl_0_57 ?_
      refine gt_Vv (As := [.long (-9223372036854775808), .long 9223372036854775807]) dX0_order_57 ca_X0_59 ⟨by decide, by decide⟩ h1 hA176 rfl (Nat.le_of_ble_eq_true rfl) (Nat.le_of_ble_eq_true rfl) (by decide) (cz_X7_cut hG174 (oa_af h1 hA176) (rk_af hR hA176) (fun _ _ _ _ h => h)) rfl (fun _ h => nomatch h) (fun S182 hx186 hG183 hB184 hA185 => ?_)
      obtain ⟨d187, hd188⟩ : ∃ q, Z_X7_cut R d178 o1 ((-9223372036854775808)) (9223372036854775807) = q := ⟨_, rfl⟩
      have hq189 := (congrArg (fun q9 => Z_X7_cut R q9 o1 ((-9223372036854775808)) (9223372036854775807)) hs181).trans hd188
      have hs190 := hx186.trans hq189
      have hF : Z_X0_order R (sg S) o0 o1 x2 = d187 := by
        subst hd188
        subst hd179
        exact zl_X0_order_3 q104 q152
      exact tt_vreturn dX0_order_60 rfl (hP _ _ _ _ ⟨hG183, hA185, Or.inl ⟨_, rfl, rfl, Eq.trans hs190 hF.symm, rfl, rfl⟩⟩)
def Z_X0_orderUnsigned (R : Nat → Nat → Nat) (σ : SG) (o0 : Nat) (o1 : Nat) (x2 : Int32) : SG :=
  if (Z_X7_isNatural R σ o1) = 0 then
    σ
  else
    if (Z_X7_isNatural R σ o0) = 0 then
      if (Z_X7_isAny R σ o0) = 0 then
        let d159 := Z_X7_cut R σ o0 (0) (((mJ σ 449 o1) - (x2 : Int32).toInt64))
        let d168 := Z_X7_cut R d159 o1 ((-9223372036854775808)) (9223372036854775807)
        d168
      else
        if ((mJ σ 449 o1) - (x2 : Int32).toInt64) < (0 : Int64) then
          let d140 := Z_X7_becomeNone R σ o0
          let d149 := Z_X7_cut R d140 o1 ((-9223372036854775808)) (9223372036854775807)
          d149
        else
          let d122 := Z_X7_become R σ o0 (0) (((mJ σ 449 o1) - (x2 : Int32).toInt64)) (1)
          let d131 := Z_X7_cut R d122 o1 ((-9223372036854775808)) (9223372036854775807)
          d131
    else
      if (Z_X7_isAny R σ o0) = 0 then
        let d221 := Z_X7_cut R σ o0 (0) (((mJ σ 449 o1) - (x2 : Int32).toInt64))
        let d230 := Z_X7_cut R d221 o1 (((mJ σ 448 o0) + (x2 : Int32).toInt64)) (9223372036854775807)
        d230
      else
        if ((mJ σ 449 o1) - (x2 : Int32).toInt64) < (0 : Int64) then
          let d202 := Z_X7_becomeNone R σ o0
          let d211 := Z_X7_cut R d202 o1 (((mJ σ 448 o0) + (x2 : Int32).toInt64)) (9223372036854775807)
          d211
        else
          let d184 := Z_X7_become R σ o0 (0) (((mJ σ 449 o1) - (x2 : Int32).toInt64)) (1)
          let d193 := Z_X7_cut R d184 o1 (((mJ σ 448 o0) + (x2 : Int32).toInt64)) (9223372036854775807)
          d193
theorem zl_X0_orderUnsigned_0 {R : Nat → Nat → Nat} {σ : SG} {o0 : Nat} {o1 : Nat} {x2 : Int32} (h0 : (Z_X7_isNatural R σ o1) = 0) : Z_X0_orderUnsigned R σ o0 o1 x2 = σ := by unfold Z_X0_orderUnsigned; exact if_pos h0
theorem zl_X0_orderUnsigned_1 {R : Nat → Nat → Nat} {σ : SG} {o0 : Nat} {o1 : Nat} {x2 : Int32} (h0 : ¬ (Z_X7_isNatural R σ o1) = 0) (h1 : (Z_X7_isNatural R σ o0) = 0) (h2 : (Z_X7_isAny R σ o0) = 0) : Z_X0_orderUnsigned R σ o0 o1 x2 = (Z_X7_cut R (Z_X7_cut R σ o0 (0) (((mJ σ 449 o1) - (x2 : Int32).toInt64))) o1 ((-9223372036854775808)) (9223372036854775807)) := by unfold Z_X0_orderUnsigned; exact Eq.trans (if_neg h0) (Eq.trans (if_pos h1) (if_pos h2))
theorem zl_X0_orderUnsigned_2 {R : Nat → Nat → Nat} {σ : SG} {o0 : Nat} {o1 : Nat} {x2 : Int32} (h0 : ¬ (Z_X7_isNatural R σ o1) = 0) (h1 : (Z_X7_isNatural R σ o0) = 0) (h2 : ¬ (Z_X7_isAny R σ o0) = 0) (h3 : ((mJ σ 449 o1) - (x2 : Int32).toInt64) < (0 : Int64)) : Z_X0_orderUnsigned R σ o0 o1 x2 = (Z_X7_cut R (Z_X7_becomeNone R σ o0) o1 ((-9223372036854775808)) (9223372036854775807)) := by unfold Z_X0_orderUnsigned; exact Eq.trans (if_neg h0) (Eq.trans (if_pos h1) (Eq.trans (if_neg h2) (if_pos h3)))
theorem zl_X0_orderUnsigned_3 {R : Nat → Nat → Nat} {σ : SG} {o0 : Nat} {o1 : Nat} {x2 : Int32} (h0 : ¬ (Z_X7_isNatural R σ o1) = 0) (h1 : (Z_X7_isNatural R σ o0) = 0) (h2 : ¬ (Z_X7_isAny R σ o0) = 0) (h3 : ¬ ((mJ σ 449 o1) - (x2 : Int32).toInt64) < (0 : Int64)) : Z_X0_orderUnsigned R σ o0 o1 x2 = (Z_X7_cut R (Z_X7_become R σ o0 (0) (((mJ σ 449 o1) - (x2 : Int32).toInt64)) (1)) o1 ((-9223372036854775808)) (9223372036854775807)) := by unfold Z_X0_orderUnsigned; exact Eq.trans (if_neg h0) (Eq.trans (if_pos h1) (Eq.trans (if_neg h2) (if_neg h3)))
theorem zl_X0_orderUnsigned_4 {R : Nat → Nat → Nat} {σ : SG} {o0 : Nat} {o1 : Nat} {x2 : Int32} (h0 : ¬ (Z_X7_isNatural R σ o1) = 0) (h1 : ¬ (Z_X7_isNatural R σ o0) = 0) (h2 : (Z_X7_isAny R σ o0) = 0) : Z_X0_orderUnsigned R σ o0 o1 x2 = (Z_X7_cut R (Z_X7_cut R σ o0 (0) (((mJ σ 449 o1) - (x2 : Int32).toInt64))) o1 (((mJ σ 448 o0) + (x2 : Int32).toInt64)) (9223372036854775807)) := by unfold Z_X0_orderUnsigned; exact Eq.trans (if_neg h0) (Eq.trans (if_neg h1) (if_pos h2))
theorem zl_X0_orderUnsigned_5 {R : Nat → Nat → Nat} {σ : SG} {o0 : Nat} {o1 : Nat} {x2 : Int32} (h0 : ¬ (Z_X7_isNatural R σ o1) = 0) (h1 : ¬ (Z_X7_isNatural R σ o0) = 0) (h2 : ¬ (Z_X7_isAny R σ o0) = 0) (h3 : ((mJ σ 449 o1) - (x2 : Int32).toInt64) < (0 : Int64)) : Z_X0_orderUnsigned R σ o0 o1 x2 = (Z_X7_cut R (Z_X7_becomeNone R σ o0) o1 (((mJ σ 448 o0) + (x2 : Int32).toInt64)) (9223372036854775807)) := by unfold Z_X0_orderUnsigned; exact Eq.trans (if_neg h0) (Eq.trans (if_neg h1) (Eq.trans (if_neg h2) (if_pos h3)))
theorem zl_X0_orderUnsigned_6 {R : Nat → Nat → Nat} {σ : SG} {o0 : Nat} {o1 : Nat} {x2 : Int32} (h0 : ¬ (Z_X7_isNatural R σ o1) = 0) (h1 : ¬ (Z_X7_isNatural R σ o0) = 0) (h2 : ¬ (Z_X7_isAny R σ o0) = 0) (h3 : ¬ ((mJ σ 449 o1) - (x2 : Int32).toInt64) < (0 : Int64)) : Z_X0_orderUnsigned R σ o0 o1 x2 = (Z_X7_cut R (Z_X7_become R σ o0 (0) (((mJ σ 449 o1) - (x2 : Int32).toInt64)) (1)) o1 (((mJ σ 448 o0) + (x2 : Int32).toInt64)) (9223372036854775807)) := by unfold Z_X0_orderUnsigned; exact Eq.trans (if_neg h0) (Eq.trans (if_neg h1) (Eq.trans (if_neg h2) (if_neg h3)))
set_option maxHeartbeats 40000000 in
theorem cz_X0_orderUnsigned {xi : SX} {S : Hp} {E : List Nat} {kc nc : Nat} {P : Po} {o0 : Nat} {o1 : Nat} {x2 : Int32} {R : Nat → Nat → Nat} (hG : GI S E) (h0 : Oa S E 7 0 o0) (h1 : Oa S E 7 0 o1) (hR : RK S R) (hP : ∀ r T x y, PV E [9987] S kc nc rV (fun v T => sg T = Z_X0_orderUnsigned R (sg S) o0 o1 x2) [] r T x y → P r T x y) : TT xi M_X0_orderUnsigned 0 [(0, .ref o0), (1, .ref o1), (2, .int x2)] [] S kc nc P := by
  have hA : Af E [9987] S S := af_rf
  refine tt_aload_n (j := 1) dX0_orderUnsigned_0 rfl ?_
  refine gt_VIp (As := []) dX0_orderUnsigned_1 ca_X0_97 ⟨by decide, by decide⟩ h1 hA rfl (Nat.le_of_ble_eq_true rfl) (Nat.le_of_ble_eq_true rfl) (by decide) (cz_X7_isNatural hG (oa_af h1 hA) hR (fun _ _ _ _ h => h)) rfl (fun _ h => nomatch h) (fun _ _ q => q.1) (fun x101 h102 hx103 => ?_)
  obtain rfl : Z_X7_isNatural R (sg S) o1 = x101 := ((ei_w hx103.2).trans (congrArg (fun q9 => Z_X7_isNatural R q9 o1) (show sg S = (sg S) from rfl))).symm
  refine tt_if_ne (tgt := 8) dX0_orderUnsigned_4 rfl (fun q104 => ?_) (fun q104 => ?_)
  · skip
    have h105 : Rg 1 1 (Z_X7_isNatural R (sg S) o1) := rg_ne_lo h102 (⟨by decide, by decide⟩ : Rg 0 0 0) q104
    refine tt_aload_n (j := 0) dX0_orderUnsigned_8 rfl ?_
    refine gt_VIp (As := []) dX0_orderUnsigned_9 ca_X0_97 ⟨by decide, by decide⟩ h0 hA rfl (Nat.le_of_ble_eq_true rfl) (Nat.le_of_ble_eq_true rfl) (by decide) (cz_X7_isNatural hG (oa_af h0 hA) hR (fun _ _ _ _ h => h)) rfl (fun _ h => nomatch h) (fun _ _ q => q.1) (fun x106 h107 hx108 => ?_)
    obtain rfl : Z_X7_isNatural R (sg S) o0 = x106 := ((ei_w hx108.2).trans (congrArg (fun q9 => Z_X7_isNatural R q9 o0) (show sg S = (sg S) from rfl))).symm
    refine tt_if_eq (tgt := 25) dX0_orderUnsigned_12 rfl (fun q109 => ?_) (fun q109 => ?_)
    · skip
      have h110 : Rg 0 0 (Z_X7_isNatural R (sg S) o0) := rg_eq_l h107 (⟨by decide, by decide⟩ : Rg 0 0 0) q109
      refine tt_ldc2 (v := (-9223372036854775808)) dX0_orderUnsigned_25 kl_0_53 ?_
      refine tt_lstore_n (ks := [0, 1, 2, 3]) (L' := [(3, .long (-9223372036854775808)), (0, .ref o0), (1, .ref o1), (2, .int x2)]) dX0_orderUnsigned_28 (by decide) rfl ?_
      refine tt_aload_n (j := 2) dX0_orderUnsigned_29 rfl ?_
      refine gt_gJ (id := 449) (v := (mJ (sg S) 449 o1)) dX0_orderUnsigned_30 fl_0_87 rfl rfl h1 hA (sg_J (k := 449) (o := o1) (show sg S = (sg S) from rfl)) ?_
      refine tt_iload_n (j := 3) dX0_orderUnsigned_33 rfl ?_
      refine tt_i2l dX0_orderUnsigned_34 ?_
      refine tt_lsub dX0_orderUnsigned_35 ?_
      refine tt_lstore (ks := [0, 1, 2, 3, 4]) (L' := [(5, .long ((mJ (sg S) 449 o1) - (x2 : Int32).toInt64)), (3, .long (-9223372036854775808)), (0, .ref o0), (1, .ref o1), (2, .int x2)]) dX0_orderUnsigned_36 (by decide) rfl ?_
      refine tt_aload_n (j := 2) dX0_orderUnsigned_38 rfl ?_
      refine gt_VIp (As := []) dX0_orderUnsigned_39 ca_X0_77 ⟨by decide, by decide⟩ h0 hA rfl (Nat.le_of_ble_eq_true rfl) (Nat.le_of_ble_eq_true rfl) (by decide) (cz_X7_isAny hG (oa_af h0 hA) hR (fun _ _ _ _ h => h)) rfl (fun _ h => nomatch h) (fun _ _ q => q.1) (fun x111 h112 hx113 => ?_)
      obtain rfl : Z_X7_isAny R (sg S) o0 = x111 := ((ei_w hx113.2).trans (congrArg (fun q9 => Z_X7_isAny R q9 o0) (show sg S = (sg S) from rfl))).symm
      refine tt_if_ne (tgt := 55) dX0_orderUnsigned_42 rfl (fun q114 => ?_) (fun q114 => ?_)
      · skip
        have h115 : Rg 1 1 (Z_X7_isAny R (sg S) o0) := rg_ne_lo h112 (⟨by decide, by decide⟩ : Rg 0 0 0) q114
        refine tt_lload (j := 0) dX0_orderUnsigned_55 rfl ?_
        refine tt_lconst (v := 0) dX0_orderUnsigned_57 rfl ?_
        refine tt_lcmp dX0_orderUnsigned_58 ?_
        refine tt_if_ge (tgt := 69) dX0_orderUnsigned_59 rfl (fun q116 => ?_) (fun q116 => ?_)
        · skip
          refine tt_aload_n (j := 2) dX0_orderUnsigned_69 rfl ?_
          refine tt_lconst (v := 0) dX0_orderUnsigned_70 rfl ?_
          refine tt_lload (j := 0) dX0_orderUnsigned_71 rfl ?_
          refine tt_lconst (v := 1) dX0_orderUnsigned_73 rfl ?_
          refine gt_Vv (As := [.long 0, .long ((mJ (sg S) 449 o1) - (x2 : Int32).toInt64), .long 1]) dX0_orderUnsigned_74 ca_X0_39 ⟨by decide, by decide⟩ h0 hA rfl (Nat.le_of_ble_eq_true rfl) (Nat.le_of_ble_eq_true rfl) (by decide) (cz_X7_become hG (oa_af h0 hA) hR (fun _ _ _ _ h => h)) rfl (fun _ h => nomatch h) (fun S117 hx121 hG118 hB119 hA120 => ?_)
          obtain ⟨d122, hd123⟩ : ∃ q, Z_X7_become R (sg S) o0 (0) (((mJ (sg S) 449 o1) - (x2 : Int32).toInt64)) (1) = q := ⟨_, rfl⟩
          have hq124 := (congrArg (fun q9 => Z_X7_become R q9 o0 (0) (((mJ (sg S) 449 o1) - (x2 : Int32).toInt64)) (1)) (show sg S = (sg S) from rfl)).trans hd123
          have hs125 := hx121.trans hq124
          refine tt_aload_n (j := 3) dX0_orderUnsigned_77 rfl ?_
          refine tt_lload_n (j := 1) dX0_orderUnsigned_78 rfl ?_
          refine tt_ldc2 (v := 9223372036854775807) dX0_orderUnsigned_79 kl_0_57 ?_
          refine gt_Vv (As := [.long (-9223372036854775808), .long 9223372036854775807]) dX0_orderUnsigned_82 ca_X0_59 ⟨by decide, by decide⟩ h1 hA120 rfl (Nat.le_of_ble_eq_true rfl) (Nat.le_of_ble_eq_true rfl) (by decide) (cz_X7_cut hG118 (oa_af h1 hA120) (rk_af hR hA120) (fun _ _ _ _ h => h)) rfl (fun _ h => nomatch h) (fun S126 hx130 hG127 hB128 hA129 => ?_)
          obtain ⟨d131, hd132⟩ : ∃ q, Z_X7_cut R d122 o1 ((-9223372036854775808)) (9223372036854775807) = q := ⟨_, rfl⟩
          have hq133 := (congrArg (fun q9 => Z_X7_cut R q9 o1 ((-9223372036854775808)) (9223372036854775807)) hs125).trans hd132
          have hs134 := hx130.trans hq133
          have hF : Z_X0_orderUnsigned R (sg S) o0 o1 x2 = d131 := by
            subst hd132
            subst hd123
            exact zl_X0_orderUnsigned_3 q104 q109 q114 (Int64.not_lt.mpr (lc_ge_t q116))
          exact tt_vreturn dX0_orderUnsigned_85 rfl (hP _ _ _ _ ⟨hG127, hA129, Or.inl ⟨_, rfl, rfl, Eq.trans hs134 hF.symm, rfl, rfl⟩⟩)
        · skip
          refine tt_aload_n (j := 2) dX0_orderUnsigned_62 rfl ?_
          refine gt_Vv (As := []) dX0_orderUnsigned_63 ca_X0_100 ⟨by decide, by decide⟩ h0 hA rfl (Nat.le_of_ble_eq_true rfl) (Nat.le_of_ble_eq_true rfl) (by decide) (cz_X7_becomeNone hG (oa_af h0 hA) hR (fun _ _ _ _ h => h)) rfl (fun _ h => nomatch h) (fun S135 hx139 hG136 hB137 hA138 => ?_)
          obtain ⟨d140, hd141⟩ : ∃ q, Z_X7_becomeNone R (sg S) o0 = q := ⟨_, rfl⟩
          have hq142 := (congrArg (fun q9 => Z_X7_becomeNone R q9 o0) (show sg S = (sg S) from rfl)).trans hd141
          have hs143 := hx139.trans hq142
          refine tt_goto (tgt := 77) dX0_orderUnsigned_66 rfl ?_
          refine tt_aload_n (j := 3) dX0_orderUnsigned_77 rfl ?_
          refine tt_lload_n (j := 1) dX0_orderUnsigned_78 rfl ?_
          refine tt_ldc2 (v := 9223372036854775807) dX0_orderUnsigned_79 kl_0_57 ?_
          refine gt_Vv (As := [.long (-9223372036854775808), .long 9223372036854775807]) dX0_orderUnsigned_82 ca_X0_59 ⟨by decide, by decide⟩ h1 hA138 rfl (Nat.le_of_ble_eq_true rfl) (Nat.le_of_ble_eq_true rfl) (by decide) (cz_X7_cut hG136 (oa_af h1 hA138) (rk_af hR hA138) (fun _ _ _ _ h => h)) rfl (fun _ h => nomatch h) (fun S144 hx148 hG145 hB146 hA147 => ?_)
          obtain ⟨d149, hd150⟩ : ∃ q, Z_X7_cut R d140 o1 ((-9223372036854775808)) (9223372036854775807) = q := ⟨_, rfl⟩
          have hq151 := (congrArg (fun q9 => Z_X7_cut R q9 o1 ((-9223372036854775808)) (9223372036854775807)) hs143).trans hd150
          have hs152 := hx148.trans hq151
          have hF : Z_X0_orderUnsigned R (sg S) o0 o1 x2 = d149 := by
            subst hd150
            subst hd141
            exact zl_X0_orderUnsigned_2 q104 q109 q114 (lc_ge_f q116)
          exact tt_vreturn dX0_orderUnsigned_85 rfl (hP _ _ _ _ ⟨hG145, hA147, Or.inl ⟨_, rfl, rfl, Eq.trans hs152 hF.symm, rfl, rfl⟩⟩)
      · skip
        have h153 : Rg 0 0 (Z_X7_isAny R (sg S) o0) := rg_eq_l h112 (⟨by decide, by decide⟩ : Rg 0 0 0) q114
        refine tt_aload_n (j := 2) dX0_orderUnsigned_45 rfl ?_
        refine tt_lconst (v := 0) dX0_orderUnsigned_46 rfl ?_
        refine tt_lload (j := 0) dX0_orderUnsigned_47 rfl ?_
        refine gt_Vv (As := [.long 0, .long ((mJ (sg S) 449 o1) - (x2 : Int32).toInt64)]) dX0_orderUnsigned_49 ca_X0_59 ⟨by decide, by decide⟩ h0 hA rfl (Nat.le_of_ble_eq_true rfl) (Nat.le_of_ble_eq_true rfl) (by decide) (cz_X7_cut hG (oa_af h0 hA) hR (fun _ _ _ _ h => h)) rfl (fun _ h => nomatch h) (fun S154 hx158 hG155 hB156 hA157 => ?_)
        obtain ⟨d159, hd160⟩ : ∃ q, Z_X7_cut R (sg S) o0 (0) (((mJ (sg S) 449 o1) - (x2 : Int32).toInt64)) = q := ⟨_, rfl⟩
        have hq161 := (congrArg (fun q9 => Z_X7_cut R q9 o0 (0) (((mJ (sg S) 449 o1) - (x2 : Int32).toInt64))) (show sg S = (sg S) from rfl)).trans hd160
        have hs162 := hx158.trans hq161
        refine tt_goto (tgt := 77) dX0_orderUnsigned_52 rfl ?_
        refine tt_aload_n (j := 3) dX0_orderUnsigned_77 rfl ?_
        refine tt_lload_n (j := 1) dX0_orderUnsigned_78 rfl ?_
        refine tt_ldc2 (v := 9223372036854775807) dX0_orderUnsigned_79 kl_0_57 ?_
        refine gt_Vv (As := [.long (-9223372036854775808), .long 9223372036854775807]) dX0_orderUnsigned_82 ca_X0_59 ⟨by decide, by decide⟩ h1 hA157 rfl (Nat.le_of_ble_eq_true rfl) (Nat.le_of_ble_eq_true rfl) (by decide) (cz_X7_cut hG155 (oa_af h1 hA157) (rk_af hR hA157) (fun _ _ _ _ h => h)) rfl (fun _ h => nomatch h) (fun S163 hx167 hG164 hB165 hA166 => ?_)
        obtain ⟨d168, hd169⟩ : ∃ q, Z_X7_cut R d159 o1 ((-9223372036854775808)) (9223372036854775807) = q := ⟨_, rfl⟩
        have hq170 := (congrArg (fun q9 => Z_X7_cut R q9 o1 ((-9223372036854775808)) (9223372036854775807)) hs162).trans hd169
        have hs171 := hx167.trans hq170
        have hF : Z_X0_orderUnsigned R (sg S) o0 o1 x2 = d168 := by
          subst hd169
          subst hd160
          exact zl_X0_orderUnsigned_1 q104 q109 q114
        exact tt_vreturn dX0_orderUnsigned_85 rfl (hP _ _ _ _ ⟨hG164, hA166, Or.inl ⟨_, rfl, rfl, Eq.trans hs171 hF.symm, rfl, rfl⟩⟩)
    · skip
      have h172 : Rg 1 1 (Z_X7_isNatural R (sg S) o0) := rg_ne_lo h107 (⟨by decide, by decide⟩ : Rg 0 0 0) q109
      refine tt_aload_n (j := 0) dX0_orderUnsigned_15 rfl ?_
      refine gt_gJ (id := 448) (v := (mJ (sg S) 448 o0)) dX0_orderUnsigned_16 fl_0_84 rfl rfl h0 hA (sg_J (k := 448) (o := o0) (show sg S = (sg S) from rfl)) ?_
      refine tt_iload_n (j := 2) dX0_orderUnsigned_19 rfl ?_
      refine tt_i2l dX0_orderUnsigned_20 ?_
      refine tt_ladd dX0_orderUnsigned_21 ?_
      refine tt_goto (tgt := 28) dX0_orderUnsigned_22 rfl ?_
      refine tt_lstore_n (ks := [0, 1, 2, 3]) (L' := [(3, .long ((mJ (sg S) 448 o0) + (x2 : Int32).toInt64)), (0, .ref o0), (1, .ref o1), (2, .int x2)]) dX0_orderUnsigned_28 (by decide) rfl ?_
      refine tt_aload_n (j := 2) dX0_orderUnsigned_29 rfl ?_
      refine gt_gJ (id := 449) (v := (mJ (sg S) 449 o1)) dX0_orderUnsigned_30 fl_0_87 rfl rfl h1 hA (sg_J (k := 449) (o := o1) (show sg S = (sg S) from rfl)) ?_
      refine tt_iload_n (j := 3) dX0_orderUnsigned_33 rfl ?_
      refine tt_i2l dX0_orderUnsigned_34 ?_
      refine tt_lsub dX0_orderUnsigned_35 ?_
      refine tt_lstore (ks := [0, 1, 2, 3, 4]) (L' := [(5, .long ((mJ (sg S) 449 o1) - (x2 : Int32).toInt64)), (3, .long ((mJ (sg S) 448 o0) + (x2 : Int32).toInt64)), (0, .ref o0), (1, .ref o1), (2, .int x2)]) dX0_orderUnsigned_36 (by decide) rfl ?_
      refine tt_aload_n (j := 2) dX0_orderUnsigned_38 rfl ?_
      refine gt_VIp (As := []) dX0_orderUnsigned_39 ca_X0_77 ⟨by decide, by decide⟩ h0 hA rfl (Nat.le_of_ble_eq_true rfl) (Nat.le_of_ble_eq_true rfl) (by decide) (cz_X7_isAny hG (oa_af h0 hA) hR (fun _ _ _ _ h => h)) rfl (fun _ h => nomatch h) (fun _ _ q => q.1) (fun x173 h174 hx175 => ?_)
      obtain rfl : Z_X7_isAny R (sg S) o0 = x173 := ((ei_w hx175.2).trans (congrArg (fun q9 => Z_X7_isAny R q9 o0) (show sg S = (sg S) from rfl))).symm
      refine tt_if_ne (tgt := 55) dX0_orderUnsigned_42 rfl (fun q176 => ?_) (fun q176 => ?_)
      · skip
        have h177 : Rg 1 1 (Z_X7_isAny R (sg S) o0) := rg_ne_lo h174 (⟨by decide, by decide⟩ : Rg 0 0 0) q176
        refine tt_lload (j := 0) dX0_orderUnsigned_55 rfl ?_
        refine tt_lconst (v := 0) dX0_orderUnsigned_57 rfl ?_
        refine tt_lcmp dX0_orderUnsigned_58 ?_
        refine tt_if_ge (tgt := 69) dX0_orderUnsigned_59 rfl (fun q178 => ?_) (fun q178 => ?_)
        · skip
          refine tt_aload_n (j := 2) dX0_orderUnsigned_69 rfl ?_
          refine tt_lconst (v := 0) dX0_orderUnsigned_70 rfl ?_
          refine tt_lload (j := 0) dX0_orderUnsigned_71 rfl ?_
          refine tt_lconst (v := 1) dX0_orderUnsigned_73 rfl ?_
          refine gt_Vv (As := [.long 0, .long ((mJ (sg S) 449 o1) - (x2 : Int32).toInt64), .long 1]) dX0_orderUnsigned_74 ca_X0_39 ⟨by decide, by decide⟩ h0 hA rfl (Nat.le_of_ble_eq_true rfl) (Nat.le_of_ble_eq_true rfl) (by decide) (cz_X7_become hG (oa_af h0 hA) hR (fun _ _ _ _ h => h)) rfl (fun _ h => nomatch h) (fun S179 hx183 hG180 hB181 hA182 => ?_)
          obtain ⟨d184, hd185⟩ : ∃ q, Z_X7_become R (sg S) o0 (0) (((mJ (sg S) 449 o1) - (x2 : Int32).toInt64)) (1) = q := ⟨_, rfl⟩
          have hq186 := (congrArg (fun q9 => Z_X7_become R q9 o0 (0) (((mJ (sg S) 449 o1) - (x2 : Int32).toInt64)) (1)) (show sg S = (sg S) from rfl)).trans hd185
          have hs187 := hx183.trans hq186
          refine tt_aload_n (j := 3) dX0_orderUnsigned_77 rfl ?_
          refine tt_lload_n (j := 1) dX0_orderUnsigned_78 rfl ?_
          refine tt_ldc2 (v := 9223372036854775807) dX0_orderUnsigned_79 kl_0_57 ?_
          refine gt_Vv (As := [.long ((mJ (sg S) 448 o0) + (x2 : Int32).toInt64), .long 9223372036854775807]) dX0_orderUnsigned_82 ca_X0_59 ⟨by decide, by decide⟩ h1 hA182 rfl (Nat.le_of_ble_eq_true rfl) (Nat.le_of_ble_eq_true rfl) (by decide) (cz_X7_cut hG180 (oa_af h1 hA182) (rk_af hR hA182) (fun _ _ _ _ h => h)) rfl (fun _ h => nomatch h) (fun S188 hx192 hG189 hB190 hA191 => ?_)
          obtain ⟨d193, hd194⟩ : ∃ q, Z_X7_cut R d184 o1 (((mJ (sg S) 448 o0) + (x2 : Int32).toInt64)) (9223372036854775807) = q := ⟨_, rfl⟩
          have hq195 := (congrArg (fun q9 => Z_X7_cut R q9 o1 (((mJ (sg S) 448 o0) + (x2 : Int32).toInt64)) (9223372036854775807)) hs187).trans hd194
          have hs196 := hx192.trans hq195
          have hF : Z_X0_orderUnsigned R (sg S) o0 o1 x2 = d193 := by
            subst hd194
            subst hd185
            exact zl_X0_orderUnsigned_6 q104 q109 q176 (Int64.not_lt.mpr (lc_ge_t q178))
          exact tt_vreturn dX0_orderUnsigned_85 rfl (hP _ _ _ _ ⟨hG189, hA191, Or.inl ⟨_, rfl, rfl, Eq.trans hs196 hF.symm, rfl, rfl⟩⟩)
        · skip
          refine tt_aload_n (j := 2) dX0_orderUnsigned_62 rfl ?_
          refine gt_Vv (As := []) dX0_orderUnsigned_63 ca_X0_100 ⟨by decide, by decide⟩ h0 hA rfl (Nat.le_of_ble_eq_true rfl) (Nat.le_of_ble_eq_true rfl) (by decide) (cz_X7_becomeNone hG (oa_af h0 hA) hR (fun _ _ _ _ h => h)) rfl (fun _ h => nomatch h) (fun S197 hx201 hG198 hB199 hA200 => ?_)
          obtain ⟨d202, hd203⟩ : ∃ q, Z_X7_becomeNone R (sg S) o0 = q := ⟨_, rfl⟩
          have hq204 := (congrArg (fun q9 => Z_X7_becomeNone R q9 o0) (show sg S = (sg S) from rfl)).trans hd203
          have hs205 := hx201.trans hq204
          refine tt_goto (tgt := 77) dX0_orderUnsigned_66 rfl ?_
          refine tt_aload_n (j := 3) dX0_orderUnsigned_77 rfl ?_
          refine tt_lload_n (j := 1) dX0_orderUnsigned_78 rfl ?_
          refine tt_ldc2 (v := 9223372036854775807) dX0_orderUnsigned_79 kl_0_57 ?_
          refine gt_Vv (As := [.long ((mJ (sg S) 448 o0) + (x2 : Int32).toInt64), .long 9223372036854775807]) dX0_orderUnsigned_82 ca_X0_59 ⟨by decide, by decide⟩ h1 hA200 rfl (Nat.le_of_ble_eq_true rfl) (Nat.le_of_ble_eq_true rfl) (by decide) (cz_X7_cut hG198 (oa_af h1 hA200) (rk_af hR hA200) (fun _ _ _ _ h => h)) rfl (fun _ h => nomatch h) (fun S206 hx210 hG207 hB208 hA209 => ?_)
          obtain ⟨d211, hd212⟩ : ∃ q, Z_X7_cut R d202 o1 (((mJ (sg S) 448 o0) + (x2 : Int32).toInt64)) (9223372036854775807) = q := ⟨_, rfl⟩
          have hq213 := (congrArg (fun q9 => Z_X7_cut R q9 o1 (((mJ (sg S) 448 o0) + (x2 : Int32).toInt64)) (9223372036854775807)) hs205).trans hd212
          have hs214 := hx210.trans hq213
          have hF : Z_X0_orderUnsigned R (sg S) o0 o1 x2 = d211 := by
            subst hd212
            subst hd203
            exact zl_X0_orderUnsigned_5 q104 q109 q176 (lc_ge_f q178)
          exact tt_vreturn dX0_orderUnsigned_85 rfl (hP _ _ _ _ ⟨hG207, hA209, Or.inl ⟨_, rfl, rfl, Eq.trans hs214 hF.symm, rfl, rfl⟩⟩)
      · skip
        have h215 : Rg 0 0 (Z_X7_isAny R (sg S) o0) := rg_eq_l h174 (⟨by decide, by decide⟩ : Rg 0 0 0) q176
        refine tt_aload_n (j := 2) dX0_orderUnsigned_45 rfl ?_
        refine tt_lconst (v := 0) dX0_orderUnsigned_46 rfl ?_
        refine tt_lload (j := 0) dX0_orderUnsigned_47 rfl ?_
        refine gt_Vv (As := [.long 0, .long ((mJ (sg S) 449 o1) - (x2 : Int32).toInt64)]) dX0_orderUnsigned_49 ca_X0_59 ⟨by decide, by decide⟩ h0 hA rfl (Nat.le_of_ble_eq_true rfl) (Nat.le_of_ble_eq_true rfl) (by decide) (cz_X7_cut hG (oa_af h0 hA) hR (fun _ _ _ _ h => h)) rfl (fun _ h => nomatch h) (fun S216 hx220 hG217 hB218 hA219 => ?_)
        obtain ⟨d221, hd222⟩ : ∃ q, Z_X7_cut R (sg S) o0 (0) (((mJ (sg S) 449 o1) - (x2 : Int32).toInt64)) = q := ⟨_, rfl⟩
        have hq223 := (congrArg (fun q9 => Z_X7_cut R q9 o0 (0) (((mJ (sg S) 449 o1) - (x2 : Int32).toInt64))) (show sg S = (sg S) from rfl)).trans hd222
        have hs224 := hx220.trans hq223
        refine tt_goto (tgt := 77) dX0_orderUnsigned_52 rfl ?_
        refine tt_aload_n (j := 3) dX0_orderUnsigned_77 rfl ?_
        refine tt_lload_n (j := 1) dX0_orderUnsigned_78 rfl ?_
        refine tt_ldc2 (v := 9223372036854775807) dX0_orderUnsigned_79 kl_0_57 ?_
        refine gt_Vv (As := [.long ((mJ (sg S) 448 o0) + (x2 : Int32).toInt64), .long 9223372036854775807]) dX0_orderUnsigned_82 ca_X0_59 ⟨by decide, by decide⟩ h1 hA219 rfl (Nat.le_of_ble_eq_true rfl) (Nat.le_of_ble_eq_true rfl) (by decide) (cz_X7_cut hG217 (oa_af h1 hA219) (rk_af hR hA219) (fun _ _ _ _ h => h)) rfl (fun _ h => nomatch h) (fun S225 hx229 hG226 hB227 hA228 => ?_)
        obtain ⟨d230, hd231⟩ : ∃ q, Z_X7_cut R d221 o1 (((mJ (sg S) 448 o0) + (x2 : Int32).toInt64)) (9223372036854775807) = q := ⟨_, rfl⟩
        have hq232 := (congrArg (fun q9 => Z_X7_cut R q9 o1 (((mJ (sg S) 448 o0) + (x2 : Int32).toInt64)) (9223372036854775807)) hs224).trans hd231
        have hs233 := hx229.trans hq232
        have hF : Z_X0_orderUnsigned R (sg S) o0 o1 x2 = d230 := by
          subst hd231
          subst hd222
          exact zl_X0_orderUnsigned_4 q104 q109 q176
        exact tt_vreturn dX0_orderUnsigned_85 rfl (hP _ _ _ _ ⟨hG226, hA228, Or.inl ⟨_, rfl, rfl, Eq.trans hs233 hF.symm, rfl, rfl⟩⟩)
  · skip
    have h234 : Rg 0 0 (Z_X7_isNatural R (sg S) o1) := rg_eq_l h102 (⟨by decide, by decide⟩ : Rg 0 0 0) q104
    have hF : Z_X0_orderUnsigned R (sg S) o0 o1 x2 = (sg S) := by
      exact zl_X0_orderUnsigned_0 q104
    exact tt_vreturn dX0_orderUnsigned_7 rfl (hP _ _ _ _ ⟨hG, hA, Or.inl ⟨_, rfl, rfl, Eq.trans (show sg S = (sg S) from rfl) hF.symm, rfl, rfl⟩⟩)
def Z_X0_narrowCompared (R : Nat → Nat → Nat) (σ : SG) (o0 : Nat) (x1 : Int32) (x2 : Int32) : SG :=
  if x2 = 0 then
    if x1 = 12 then
      if x2 = 1 then
        let d124 := Z_X0_order R σ (R 1 o0) (R 0 o0) (1)
        d124
      else
        let d115 := Z_X0_order R σ (R 1 o0) (R 0 o0) (0)
        d115
    else
      if x1 = 2 then
        if x2 = 1 then
          if x1 = 14 then
            let d187 := Z_X0_order R σ (R 1 o0) (R 0 o0) (1)
            d187
          else
            let d178 := Z_X0_orderUnsigned R σ (R 1 o0) (R 0 o0) (1)
            d178
        else
          if x1 = 14 then
            let d168 := Z_X0_order R σ (R 1 o0) (R 0 o0) (0)
            d168
          else
            let d159 := Z_X0_orderUnsigned R σ (R 1 o0) (R 0 o0) (0)
            d159
      else
        if x1 = 14 then
          let d147 := Z_X0_order R σ (R 1 o0) (R 0 o0) (1)
          d147
        else
          if x1 = 6 then
            let d137 := Z_X0_orderUnsigned R σ (R 1 o0) (R 0 o0) (1)
            d137
          else
            σ
  else
    if x1 = 12 then
      if x2 = 1 then
        let d205 := Z_X0_order R σ (R 0 o0) (R 1 o0) (1)
        d205
      else
        σ
    else
      if x1 = 2 then
        if x2 = 1 then
          if x1 = 14 then
            let d250 := Z_X0_order R σ (R 0 o0) (R 1 o0) (1)
            d250
          else
            let d241 := Z_X0_orderUnsigned R σ (R 0 o0) (R 1 o0) (1)
            d241
        else
          σ
      else
        if x1 = 14 then
          let d228 := Z_X0_order R σ (R 0 o0) (R 1 o0) (0)
          d228
        else
          if x1 = 6 then
            let d218 := Z_X0_orderUnsigned R σ (R 0 o0) (R 1 o0) (0)
            d218
          else
            σ
theorem zl_X0_narrowCompared_0 {R : Nat → Nat → Nat} {σ : SG} {o0 : Nat} {x1 : Int32} {x2 : Int32} (h0 : x2 = 0) (h1 : x1 = 12) (h2 : x2 = 1) : Z_X0_narrowCompared R σ o0 x1 x2 = (Z_X0_order R σ (R 1 o0) (R 0 o0) (1)) := by unfold Z_X0_narrowCompared; exact Eq.trans (if_pos h0) (Eq.trans (if_pos h1) (if_pos h2))
theorem zl_X0_narrowCompared_1 {R : Nat → Nat → Nat} {σ : SG} {o0 : Nat} {x1 : Int32} {x2 : Int32} (h0 : x2 = 0) (h1 : x1 = 12) (h2 : ¬ x2 = 1) : Z_X0_narrowCompared R σ o0 x1 x2 = (Z_X0_order R σ (R 1 o0) (R 0 o0) (0)) := by unfold Z_X0_narrowCompared; exact Eq.trans (if_pos h0) (Eq.trans (if_pos h1) (if_neg h2))
theorem zl_X0_narrowCompared_2 {R : Nat → Nat → Nat} {σ : SG} {o0 : Nat} {x1 : Int32} {x2 : Int32} (h0 : x2 = 0) (h1 : ¬ x1 = 12) (h2 : x1 = 2) (h3 : x2 = 1) (h4 : x1 = 14) : Z_X0_narrowCompared R σ o0 x1 x2 = (Z_X0_order R σ (R 1 o0) (R 0 o0) (1)) := by unfold Z_X0_narrowCompared; exact Eq.trans (if_pos h0) (Eq.trans (if_neg h1) (Eq.trans (if_pos h2) (Eq.trans (if_pos h3) (if_pos h4))))
theorem zl_X0_narrowCompared_3 {R : Nat → Nat → Nat} {σ : SG} {o0 : Nat} {x1 : Int32} {x2 : Int32} (h0 : x2 = 0) (h1 : ¬ x1 = 12) (h2 : x1 = 2) (h3 : x2 = 1) (h4 : ¬ x1 = 14) : Z_X0_narrowCompared R σ o0 x1 x2 = (Z_X0_orderUnsigned R σ (R 1 o0) (R 0 o0) (1)) := by unfold Z_X0_narrowCompared; exact Eq.trans (if_pos h0) (Eq.trans (if_neg h1) (Eq.trans (if_pos h2) (Eq.trans (if_pos h3) (if_neg h4))))
theorem zl_X0_narrowCompared_4 {R : Nat → Nat → Nat} {σ : SG} {o0 : Nat} {x1 : Int32} {x2 : Int32} (h0 : x2 = 0) (h1 : ¬ x1 = 12) (h2 : x1 = 2) (h3 : ¬ x2 = 1) (h4 : x1 = 14) : Z_X0_narrowCompared R σ o0 x1 x2 = (Z_X0_order R σ (R 1 o0) (R 0 o0) (0)) := by unfold Z_X0_narrowCompared; exact Eq.trans (if_pos h0) (Eq.trans (if_neg h1) (Eq.trans (if_pos h2) (Eq.trans (if_neg h3) (if_pos h4))))
theorem zl_X0_narrowCompared_5 {R : Nat → Nat → Nat} {σ : SG} {o0 : Nat} {x1 : Int32} {x2 : Int32} (h0 : x2 = 0) (h1 : ¬ x1 = 12) (h2 : x1 = 2) (h3 : ¬ x2 = 1) (h4 : ¬ x1 = 14) : Z_X0_narrowCompared R σ o0 x1 x2 = (Z_X0_orderUnsigned R σ (R 1 o0) (R 0 o0) (0)) := by unfold Z_X0_narrowCompared; exact Eq.trans (if_pos h0) (Eq.trans (if_neg h1) (Eq.trans (if_pos h2) (Eq.trans (if_neg h3) (if_neg h4))))
theorem zl_X0_narrowCompared_6 {R : Nat → Nat → Nat} {σ : SG} {o0 : Nat} {x1 : Int32} {x2 : Int32} (h0 : x2 = 0) (h1 : ¬ x1 = 12) (h2 : ¬ x1 = 2) (h3 : x1 = 14) : Z_X0_narrowCompared R σ o0 x1 x2 = (Z_X0_order R σ (R 1 o0) (R 0 o0) (1)) := by unfold Z_X0_narrowCompared; exact Eq.trans (if_pos h0) (Eq.trans (if_neg h1) (Eq.trans (if_neg h2) (if_pos h3)))
theorem zl_X0_narrowCompared_7 {R : Nat → Nat → Nat} {σ : SG} {o0 : Nat} {x1 : Int32} {x2 : Int32} (h0 : x2 = 0) (h1 : ¬ x1 = 12) (h2 : ¬ x1 = 2) (h3 : ¬ x1 = 14) (h4 : x1 = 6) : Z_X0_narrowCompared R σ o0 x1 x2 = (Z_X0_orderUnsigned R σ (R 1 o0) (R 0 o0) (1)) := by unfold Z_X0_narrowCompared; exact Eq.trans (if_pos h0) (Eq.trans (if_neg h1) (Eq.trans (if_neg h2) (Eq.trans (if_neg h3) (if_pos h4))))
theorem zl_X0_narrowCompared_8 {R : Nat → Nat → Nat} {σ : SG} {o0 : Nat} {x1 : Int32} {x2 : Int32} (h0 : x2 = 0) (h1 : ¬ x1 = 12) (h2 : ¬ x1 = 2) (h3 : ¬ x1 = 14) (h4 : ¬ x1 = 6) : Z_X0_narrowCompared R σ o0 x1 x2 = σ := by unfold Z_X0_narrowCompared; exact Eq.trans (if_pos h0) (Eq.trans (if_neg h1) (Eq.trans (if_neg h2) (Eq.trans (if_neg h3) (if_neg h4))))
theorem zl_X0_narrowCompared_9 {R : Nat → Nat → Nat} {σ : SG} {o0 : Nat} {x1 : Int32} {x2 : Int32} (h0 : ¬ x2 = 0) (h1 : x1 = 12) (h2 : x2 = 1) : Z_X0_narrowCompared R σ o0 x1 x2 = (Z_X0_order R σ (R 0 o0) (R 1 o0) (1)) := by unfold Z_X0_narrowCompared; exact Eq.trans (if_neg h0) (Eq.trans (if_pos h1) (if_pos h2))
theorem zl_X0_narrowCompared_10 {R : Nat → Nat → Nat} {σ : SG} {o0 : Nat} {x1 : Int32} {x2 : Int32} (h0 : ¬ x2 = 0) (h1 : x1 = 12) (h2 : ¬ x2 = 1) : Z_X0_narrowCompared R σ o0 x1 x2 = σ := by unfold Z_X0_narrowCompared; exact Eq.trans (if_neg h0) (Eq.trans (if_pos h1) (if_neg h2))
theorem zl_X0_narrowCompared_11 {R : Nat → Nat → Nat} {σ : SG} {o0 : Nat} {x1 : Int32} {x2 : Int32} (h0 : ¬ x2 = 0) (h1 : ¬ x1 = 12) (h2 : x1 = 2) (h3 : x2 = 1) (h4 : x1 = 14) : Z_X0_narrowCompared R σ o0 x1 x2 = (Z_X0_order R σ (R 0 o0) (R 1 o0) (1)) := by unfold Z_X0_narrowCompared; exact Eq.trans (if_neg h0) (Eq.trans (if_neg h1) (Eq.trans (if_pos h2) (Eq.trans (if_pos h3) (if_pos h4))))
theorem zl_X0_narrowCompared_12 {R : Nat → Nat → Nat} {σ : SG} {o0 : Nat} {x1 : Int32} {x2 : Int32} (h0 : ¬ x2 = 0) (h1 : ¬ x1 = 12) (h2 : x1 = 2) (h3 : x2 = 1) (h4 : ¬ x1 = 14) : Z_X0_narrowCompared R σ o0 x1 x2 = (Z_X0_orderUnsigned R σ (R 0 o0) (R 1 o0) (1)) := by unfold Z_X0_narrowCompared; exact Eq.trans (if_neg h0) (Eq.trans (if_neg h1) (Eq.trans (if_pos h2) (Eq.trans (if_pos h3) (if_neg h4))))
theorem zl_X0_narrowCompared_13 {R : Nat → Nat → Nat} {σ : SG} {o0 : Nat} {x1 : Int32} {x2 : Int32} (h0 : ¬ x2 = 0) (h1 : ¬ x1 = 12) (h2 : x1 = 2) (h3 : ¬ x2 = 1) : Z_X0_narrowCompared R σ o0 x1 x2 = σ := by unfold Z_X0_narrowCompared; exact Eq.trans (if_neg h0) (Eq.trans (if_neg h1) (Eq.trans (if_pos h2) (if_neg h3)))
theorem zl_X0_narrowCompared_14 {R : Nat → Nat → Nat} {σ : SG} {o0 : Nat} {x1 : Int32} {x2 : Int32} (h0 : ¬ x2 = 0) (h1 : ¬ x1 = 12) (h2 : ¬ x1 = 2) (h3 : x1 = 14) : Z_X0_narrowCompared R σ o0 x1 x2 = (Z_X0_order R σ (R 0 o0) (R 1 o0) (0)) := by unfold Z_X0_narrowCompared; exact Eq.trans (if_neg h0) (Eq.trans (if_neg h1) (Eq.trans (if_neg h2) (if_pos h3)))
theorem zl_X0_narrowCompared_15 {R : Nat → Nat → Nat} {σ : SG} {o0 : Nat} {x1 : Int32} {x2 : Int32} (h0 : ¬ x2 = 0) (h1 : ¬ x1 = 12) (h2 : ¬ x1 = 2) (h3 : ¬ x1 = 14) (h4 : x1 = 6) : Z_X0_narrowCompared R σ o0 x1 x2 = (Z_X0_orderUnsigned R σ (R 0 o0) (R 1 o0) (0)) := by unfold Z_X0_narrowCompared; exact Eq.trans (if_neg h0) (Eq.trans (if_neg h1) (Eq.trans (if_neg h2) (Eq.trans (if_neg h3) (if_pos h4))))
theorem zl_X0_narrowCompared_16 {R : Nat → Nat → Nat} {σ : SG} {o0 : Nat} {x1 : Int32} {x2 : Int32} (h0 : ¬ x2 = 0) (h1 : ¬ x1 = 12) (h2 : ¬ x1 = 2) (h3 : ¬ x1 = 14) (h4 : ¬ x1 = 6) : Z_X0_narrowCompared R σ o0 x1 x2 = σ := by unfold Z_X0_narrowCompared; exact Eq.trans (if_neg h0) (Eq.trans (if_neg h1) (Eq.trans (if_neg h2) (Eq.trans (if_neg h3) (if_neg h4))))
set_option maxHeartbeats 40000000 in
theorem cz_X0_narrowCompared {xi : SX} {S : Hp} {E : List Nat} {kc nc : Nat} {P : Po} {o0 : Nat} {x1 : Int32} {x2 : Int32} {R : Nat → Nat → Nat} (hG : GI S E) (h0 : Oa S E 0 0 o0) (h2 : Rg 0 1 x2) (hR : RK S R) (hP : ∀ r T x y, PV E [9987] S kc nc rV (fun v T => sg T = Z_X0_narrowCompared R (sg S) o0 x1 x2) [] r T x y → P r T x y) : TT xi M_X0_narrowCompared 0 [(0, .ref o0), (1, .int x1), (2, .int x2)] [] S kc nc P := by
  have hA : Af E [9987] S S := af_rf
  refine tt_iload_n (j := 2) dX0_narrowCompared_0 rfl ?_
  refine tt_if_eq (tgt := 11) dX0_narrowCompared_1 rfl (fun q101 => ?_) (fun q101 => ?_)
  · skip
    have h102 : Rg 0 0 x2 := rg_eq_l h2 (⟨by decide, by decide⟩ : Rg 0 0 0) q101
    refine tt_aload_n (j := 0) dX0_narrowCompared_11 rfl ?_
    have hr103 := rk_R (k := 1) hR h0 7 0
    have ho104 := rk_O (k := 1) hG hR h0 7 0
    refine gt_gR (id := 1) dX0_narrowCompared_12 fl_0_18 rfl rfl h0 hA hr103 ?_
    refine tt_astore_n (ks := [0, 1, 2, 3]) (L' := [(3, .ref (R 1 o0)), (0, .ref o0), (1, .int x1), (2, .int x2)]) dX0_narrowCompared_15 (by decide) rfl ?_
    refine tt_iload_n (j := 3) dX0_narrowCompared_16 rfl ?_
    refine tt_if_eq (tgt := 27) dX0_narrowCompared_17 rfl (fun _ => ?_) (fun q => absurd q101 q)
    refine tt_aload_n (j := 1) dX0_narrowCompared_27 rfl ?_
    have hr105 := rk_R (k := 0) hR h0 7 0
    have ho106 := rk_O (k := 0) hG hR h0 7 0
    refine gt_gR (id := 0) dX0_narrowCompared_28 fl_0_14 rfl rfl h0 hA hr105 ?_
    refine tt_astore (ks := [0, 1, 2, 3, 4]) (L' := [(4, .ref (R 0 o0)), (3, .ref (R 1 o0)), (0, .ref o0), (1, .int x1), (2, .int x2)]) dX0_narrowCompared_31 (by decide) rfl ?_
    refine tt_iload_n (j := 4) dX0_narrowCompared_33 rfl ?_
    refine tt_iload_n (j := 3) dX0_narrowCompared_34 rfl ?_
    refine tt_bipush (v := 12) dX0_narrowCompared_35 rfl ?_
    refine tt_icmp_eq (tgt := 45) dX0_narrowCompared_37 rfl (fun q107 => ?_) (fun q107 => ?_)
    · skip
      have h108 : Rg 12 12 x1 := rg_eq_l (rg_all x1) (⟨by decide, by decide⟩ : Rg 12 12 12) q107
      refine tt_iconst (v := 1) dX0_narrowCompared_45 rfl ?_
      refine tt_goto (tgt := 50) dX0_narrowCompared_46 rfl ?_
      refine tt_icmp_ne (tgt := 57) dX0_narrowCompared_50 rfl (fun q109 => ?_) (fun q109 => ?_)
      · skip
        refine tt_iconst (v := 0) dX0_narrowCompared_57 rfl ?_
        refine tt_istore (ks := [0, 1, 2, 3, 4, 5]) (L' := [(5, .int 0), (4, .ref (R 0 o0)), (3, .ref (R 1 o0)), (0, .ref o0), (1, .int x1), (2, .int x2)]) dX0_narrowCompared_58 (by decide) rfl ?_
        refine tt_iload (j := 0) dX0_narrowCompared_60 rfl ?_
        refine tt_if_eq (tgt := 69) dX0_narrowCompared_62 rfl (fun _ => ?_) (fun q => absurd q (by decide))
        refine tt_iconst (v := 0) dX0_narrowCompared_69 rfl ?_
        refine tt_istore (ks := [0, 1, 2, 3, 4, 5, 6]) (L' := [(6, .int 0), (5, .int 0), (4, .ref (R 0 o0)), (3, .ref (R 1 o0)), (0, .ref o0), (1, .int x1), (2, .int x2)]) dX0_narrowCompared_70 (by decide) rfl ?_
        refine tt_iload_n (j := 5) dX0_narrowCompared_72 rfl ?_
        refine tt_bipush (v := 12) dX0_narrowCompared_73 rfl ?_
        refine tt_icmp_eq (tgt := 84) dX0_narrowCompared_75 rfl (fun _ => ?_) (fun q => absurd q107 q)
        refine tt_aload_n (j := 3) dX0_narrowCompared_84 rfl ?_
        refine tt_aload (j := 2) dX0_narrowCompared_85 rfl ?_
        refine tt_iload (j := 0) dX0_narrowCompared_87 rfl ?_
        refine gt_Sv (As := [.ref (R 1 o0), .ref (R 0 o0), .int 0]) dX0_narrowCompared_89 ca_X0_70 ⟨by decide, by decide⟩ hA (Nat.le_of_ble_eq_true rfl) (Nat.le_of_ble_eq_true rfl) (by decide) (cz_X0_order hG (oa_af ho104 hA) (oa_af ho106 hA) hR (fun _ _ _ _ h => h)) rfl (fun _ h => nomatch h) (fun S110 hx114 hG111 hB112 hA113 => ?_)
        obtain ⟨d115, hd116⟩ : ∃ q, Z_X0_order R (sg S) (R 1 o0) (R 0 o0) (0) = q := ⟨_, rfl⟩
        have hq117 := (congrArg (fun q9 => Z_X0_order R q9 (R 1 o0) (R 0 o0) (0)) (show sg S = (sg S) from rfl)).trans hd116
        have hs118 := hx114.trans hq117
        refine tt_goto (tgt := 114) dX0_narrowCompared_92 rfl ?_
        have hF : Z_X0_narrowCompared R (sg S) o0 x1 x2 = d115 := by
          subst hd116
          exact zl_X0_narrowCompared_1 q101 q107 q109
        exact tt_vreturn dX0_narrowCompared_114 rfl (hP _ _ _ _ ⟨hG111, hA113, Or.inl ⟨_, rfl, rfl, Eq.trans hs118 hF.symm, rfl, rfl⟩⟩)
      · skip
        refine tt_iconst (v := 1) dX0_narrowCompared_53 rfl ?_
        refine tt_goto (tgt := 58) dX0_narrowCompared_54 rfl ?_
        refine tt_istore (ks := [0, 1, 2, 3, 4, 5]) (L' := [(5, .int 1), (4, .ref (R 0 o0)), (3, .ref (R 1 o0)), (0, .ref o0), (1, .int x1), (2, .int x2)]) dX0_narrowCompared_58 (by decide) rfl ?_
        refine tt_iload (j := 0) dX0_narrowCompared_60 rfl ?_
        refine tt_if_eq (tgt := 69) dX0_narrowCompared_62 rfl (fun q => absurd q (by decide)) (fun _ => ?_)
        refine tt_iconst (v := 1) dX0_narrowCompared_65 rfl ?_
        refine tt_goto (tgt := 70) dX0_narrowCompared_66 rfl ?_
        refine tt_istore (ks := [0, 1, 2, 3, 4, 5, 6]) (L' := [(6, .int 1), (5, .int 1), (4, .ref (R 0 o0)), (3, .ref (R 1 o0)), (0, .ref o0), (1, .int x1), (2, .int x2)]) dX0_narrowCompared_70 (by decide) rfl ?_
        refine tt_iload_n (j := 5) dX0_narrowCompared_72 rfl ?_
        refine tt_bipush (v := 12) dX0_narrowCompared_73 rfl ?_
        refine tt_icmp_eq (tgt := 84) dX0_narrowCompared_75 rfl (fun _ => ?_) (fun q => absurd q107 q)
        refine tt_aload_n (j := 3) dX0_narrowCompared_84 rfl ?_
        refine tt_aload (j := 2) dX0_narrowCompared_85 rfl ?_
        refine tt_iload (j := 0) dX0_narrowCompared_87 rfl ?_
        refine gt_Sv (As := [.ref (R 1 o0), .ref (R 0 o0), .int 1]) dX0_narrowCompared_89 ca_X0_70 ⟨by decide, by decide⟩ hA (Nat.le_of_ble_eq_true rfl) (Nat.le_of_ble_eq_true rfl) (by decide) (cz_X0_order hG (oa_af ho104 hA) (oa_af ho106 hA) hR (fun _ _ _ _ h => h)) rfl (fun _ h => nomatch h) (fun S119 hx123 hG120 hB121 hA122 => ?_)
        obtain ⟨d124, hd125⟩ : ∃ q, Z_X0_order R (sg S) (R 1 o0) (R 0 o0) (1) = q := ⟨_, rfl⟩
        have hq126 := (congrArg (fun q9 => Z_X0_order R q9 (R 1 o0) (R 0 o0) (1)) (show sg S = (sg S) from rfl)).trans hd125
        have hs127 := hx123.trans hq126
        refine tt_goto (tgt := 114) dX0_narrowCompared_92 rfl ?_
        have hF : Z_X0_narrowCompared R (sg S) o0 x1 x2 = d124 := by
          subst hd125
          exact zl_X0_narrowCompared_0 q101 q107 q109
        exact tt_vreturn dX0_narrowCompared_114 rfl (hP _ _ _ _ ⟨hG120, hA122, Or.inl ⟨_, rfl, rfl, Eq.trans hs127 hF.symm, rfl, rfl⟩⟩)
    · skip
      refine tt_iload_n (j := 3) dX0_narrowCompared_40 rfl ?_
      refine tt_iconst (v := 2) dX0_narrowCompared_41 rfl ?_
      refine tt_icmp_ne (tgt := 49) dX0_narrowCompared_42 rfl (fun q128 => ?_) (fun q128 => ?_)
      · skip
        refine tt_iconst (v := 0) dX0_narrowCompared_49 rfl ?_
        refine tt_icmp_ne (tgt := 57) dX0_narrowCompared_50 rfl (fun q => absurd q101 q) (fun _ => ?_)
        refine tt_iconst (v := 1) dX0_narrowCompared_53 rfl ?_
        refine tt_goto (tgt := 58) dX0_narrowCompared_54 rfl ?_
        refine tt_istore (ks := [0, 1, 2, 3, 4, 5]) (L' := [(5, .int 1), (4, .ref (R 0 o0)), (3, .ref (R 1 o0)), (0, .ref o0), (1, .int x1), (2, .int x2)]) dX0_narrowCompared_58 (by decide) rfl ?_
        refine tt_iload (j := 0) dX0_narrowCompared_60 rfl ?_
        refine tt_if_eq (tgt := 69) dX0_narrowCompared_62 rfl (fun q => absurd q (by decide)) (fun _ => ?_)
        refine tt_iconst (v := 1) dX0_narrowCompared_65 rfl ?_
        refine tt_goto (tgt := 70) dX0_narrowCompared_66 rfl ?_
        refine tt_istore (ks := [0, 1, 2, 3, 4, 5, 6]) (L' := [(6, .int 1), (5, .int 1), (4, .ref (R 0 o0)), (3, .ref (R 1 o0)), (0, .ref o0), (1, .int x1), (2, .int x2)]) dX0_narrowCompared_70 (by decide) rfl ?_
        refine tt_iload_n (j := 5) dX0_narrowCompared_72 rfl ?_
        refine tt_bipush (v := 12) dX0_narrowCompared_73 rfl ?_
        refine tt_icmp_eq (tgt := 84) dX0_narrowCompared_75 rfl (fun q => absurd q q107) (fun _ => ?_)
        refine tt_iload_n (j := 5) dX0_narrowCompared_78 rfl ?_
        refine tt_bipush (v := 14) dX0_narrowCompared_79 rfl ?_
        refine tt_icmp_ne (tgt := 95) dX0_narrowCompared_81 rfl (fun q129 => ?_) (fun q129 => ?_)
        · skip
          refine tt_iload_n (j := 5) dX0_narrowCompared_95 rfl ?_
          refine tt_iconst (v := 2) dX0_narrowCompared_96 rfl ?_
          refine tt_icmp_eq (tgt := 106) dX0_narrowCompared_97 rfl (fun q => absurd q q128) (fun _ => ?_)
          refine tt_iload_n (j := 5) dX0_narrowCompared_100 rfl ?_
          refine tt_bipush (v := 6) dX0_narrowCompared_101 rfl ?_
          refine tt_icmp_ne (tgt := 114) dX0_narrowCompared_103 rfl (fun q130 => ?_) (fun q130 => ?_)
          · skip
            have hF : Z_X0_narrowCompared R (sg S) o0 x1 x2 = (sg S) := by
              exact zl_X0_narrowCompared_8 q101 q107 q128 q129 q130
            exact tt_vreturn dX0_narrowCompared_114 rfl (hP _ _ _ _ ⟨hG, hA, Or.inl ⟨_, rfl, rfl, Eq.trans (show sg S = (sg S) from rfl) hF.symm, rfl, rfl⟩⟩)
          · skip
            have h131 : Rg 6 6 x1 := rg_eq_l (rg_all x1) (⟨by decide, by decide⟩ : Rg 6 6 6) q130
            refine tt_aload_n (j := 3) dX0_narrowCompared_106 rfl ?_
            refine tt_aload (j := 2) dX0_narrowCompared_107 rfl ?_
            refine tt_iload (j := 0) dX0_narrowCompared_109 rfl ?_
            refine gt_Sv (As := [.ref (R 1 o0), .ref (R 0 o0), .int 1]) dX0_narrowCompared_111 ca_X0_74 ⟨by decide, by decide⟩ hA (Nat.le_of_ble_eq_true rfl) (Nat.le_of_ble_eq_true rfl) (by decide) (cz_X0_orderUnsigned hG (oa_af ho104 hA) (oa_af ho106 hA) hR (fun _ _ _ _ h => h)) rfl (fun _ h => nomatch h) (fun S132 hx136 hG133 hB134 hA135 => ?_)
            obtain ⟨d137, hd138⟩ : ∃ q, Z_X0_orderUnsigned R (sg S) (R 1 o0) (R 0 o0) (1) = q := ⟨_, rfl⟩
            have hq139 := (congrArg (fun q9 => Z_X0_orderUnsigned R q9 (R 1 o0) (R 0 o0) (1)) (show sg S = (sg S) from rfl)).trans hd138
            have hs140 := hx136.trans hq139
            have hF : Z_X0_narrowCompared R (sg S) o0 x1 x2 = d137 := by
              subst hd138
              exact zl_X0_narrowCompared_7 q101 q107 q128 q129 q130
            exact tt_vreturn dX0_narrowCompared_114 rfl (hP _ _ _ _ ⟨hG133, hA135, Or.inl ⟨_, rfl, rfl, Eq.trans hs140 hF.symm, rfl, rfl⟩⟩)
        · skip
          have h141 : Rg 14 14 x1 := rg_eq_l (rg_all x1) (⟨by decide, by decide⟩ : Rg 14 14 14) q129
          refine tt_aload_n (j := 3) dX0_narrowCompared_84 rfl ?_
          refine tt_aload (j := 2) dX0_narrowCompared_85 rfl ?_
          refine tt_iload (j := 0) dX0_narrowCompared_87 rfl ?_
          refine gt_Sv (As := [.ref (R 1 o0), .ref (R 0 o0), .int 1]) dX0_narrowCompared_89 ca_X0_70 ⟨by decide, by decide⟩ hA (Nat.le_of_ble_eq_true rfl) (Nat.le_of_ble_eq_true rfl) (by decide) (cz_X0_order hG (oa_af ho104 hA) (oa_af ho106 hA) hR (fun _ _ _ _ h => h)) rfl (fun _ h => nomatch h) (fun S142 hx146 hG143 hB144 hA145 => ?_)
          obtain ⟨d147, hd148⟩ : ∃ q, Z_X0_order R (sg S) (R 1 o0) (R 0 o0) (1) = q := ⟨_, rfl⟩
          have hq149 := (congrArg (fun q9 => Z_X0_order R q9 (R 1 o0) (R 0 o0) (1)) (show sg S = (sg S) from rfl)).trans hd148
          have hs150 := hx146.trans hq149
          refine tt_goto (tgt := 114) dX0_narrowCompared_92 rfl ?_
          have hF : Z_X0_narrowCompared R (sg S) o0 x1 x2 = d147 := by
            subst hd148
            exact zl_X0_narrowCompared_6 q101 q107 q128 q129
          exact tt_vreturn dX0_narrowCompared_114 rfl (hP _ _ _ _ ⟨hG143, hA145, Or.inl ⟨_, rfl, rfl, Eq.trans hs150 hF.symm, rfl, rfl⟩⟩)
      · skip
        have h151 : Rg 2 2 x1 := rg_eq_l (rg_all x1) (⟨by decide, by decide⟩ : Rg 2 2 2) q128
        refine tt_iconst (v := 1) dX0_narrowCompared_45 rfl ?_
        refine tt_goto (tgt := 50) dX0_narrowCompared_46 rfl ?_
        refine tt_icmp_ne (tgt := 57) dX0_narrowCompared_50 rfl (fun q152 => ?_) (fun q152 => ?_)
        · skip
          refine tt_iconst (v := 0) dX0_narrowCompared_57 rfl ?_
          refine tt_istore (ks := [0, 1, 2, 3, 4, 5]) (L' := [(5, .int 0), (4, .ref (R 0 o0)), (3, .ref (R 1 o0)), (0, .ref o0), (1, .int x1), (2, .int x2)]) dX0_narrowCompared_58 (by decide) rfl ?_
          refine tt_iload (j := 0) dX0_narrowCompared_60 rfl ?_
          refine tt_if_eq (tgt := 69) dX0_narrowCompared_62 rfl (fun _ => ?_) (fun q => absurd q (by decide))
          refine tt_iconst (v := 0) dX0_narrowCompared_69 rfl ?_
          refine tt_istore (ks := [0, 1, 2, 3, 4, 5, 6]) (L' := [(6, .int 0), (5, .int 0), (4, .ref (R 0 o0)), (3, .ref (R 1 o0)), (0, .ref o0), (1, .int x1), (2, .int x2)]) dX0_narrowCompared_70 (by decide) rfl ?_
          refine tt_iload_n (j := 5) dX0_narrowCompared_72 rfl ?_
          refine tt_bipush (v := 12) dX0_narrowCompared_73 rfl ?_
          refine tt_icmp_eq (tgt := 84) dX0_narrowCompared_75 rfl (fun q => absurd q q107) (fun _ => ?_)
          refine tt_iload_n (j := 5) dX0_narrowCompared_78 rfl ?_
          refine tt_bipush (v := 14) dX0_narrowCompared_79 rfl ?_
          refine tt_icmp_ne (tgt := 95) dX0_narrowCompared_81 rfl (fun q153 => ?_) (fun q153 => ?_)
          · skip
            refine tt_iload_n (j := 5) dX0_narrowCompared_95 rfl ?_
            refine tt_iconst (v := 2) dX0_narrowCompared_96 rfl ?_
            refine tt_icmp_eq (tgt := 106) dX0_narrowCompared_97 rfl (fun _ => ?_) (fun q => absurd q128 q)
            refine tt_aload_n (j := 3) dX0_narrowCompared_106 rfl ?_
            refine tt_aload (j := 2) dX0_narrowCompared_107 rfl ?_
            refine tt_iload (j := 0) dX0_narrowCompared_109 rfl ?_
            refine gt_Sv (As := [.ref (R 1 o0), .ref (R 0 o0), .int 0]) dX0_narrowCompared_111 ca_X0_74 ⟨by decide, by decide⟩ hA (Nat.le_of_ble_eq_true rfl) (Nat.le_of_ble_eq_true rfl) (by decide) (cz_X0_orderUnsigned hG (oa_af ho104 hA) (oa_af ho106 hA) hR (fun _ _ _ _ h => h)) rfl (fun _ h => nomatch h) (fun S154 hx158 hG155 hB156 hA157 => ?_)
            obtain ⟨d159, hd160⟩ : ∃ q, Z_X0_orderUnsigned R (sg S) (R 1 o0) (R 0 o0) (0) = q := ⟨_, rfl⟩
            have hq161 := (congrArg (fun q9 => Z_X0_orderUnsigned R q9 (R 1 o0) (R 0 o0) (0)) (show sg S = (sg S) from rfl)).trans hd160
            have hs162 := hx158.trans hq161
            have hF : Z_X0_narrowCompared R (sg S) o0 x1 x2 = d159 := by
              subst hd160
              exact zl_X0_narrowCompared_5 q101 q107 q128 q152 q153
            exact tt_vreturn dX0_narrowCompared_114 rfl (hP _ _ _ _ ⟨hG155, hA157, Or.inl ⟨_, rfl, rfl, Eq.trans hs162 hF.symm, rfl, rfl⟩⟩)
          · skip
            refine tt_aload_n (j := 3) dX0_narrowCompared_84 rfl ?_
            refine tt_aload (j := 2) dX0_narrowCompared_85 rfl ?_
            refine tt_iload (j := 0) dX0_narrowCompared_87 rfl ?_
            refine gt_Sv (As := [.ref (R 1 o0), .ref (R 0 o0), .int 0]) dX0_narrowCompared_89 ca_X0_70 ⟨by decide, by decide⟩ hA (Nat.le_of_ble_eq_true rfl) (Nat.le_of_ble_eq_true rfl) (by decide) (cz_X0_order hG (oa_af ho104 hA) (oa_af ho106 hA) hR (fun _ _ _ _ h => h)) rfl (fun _ h => nomatch h) (fun S163 hx167 hG164 hB165 hA166 => ?_)
            obtain ⟨d168, hd169⟩ : ∃ q, Z_X0_order R (sg S) (R 1 o0) (R 0 o0) (0) = q := ⟨_, rfl⟩
            have hq170 := (congrArg (fun q9 => Z_X0_order R q9 (R 1 o0) (R 0 o0) (0)) (show sg S = (sg S) from rfl)).trans hd169
            have hs171 := hx167.trans hq170
            refine tt_goto (tgt := 114) dX0_narrowCompared_92 rfl ?_
            have hF : Z_X0_narrowCompared R (sg S) o0 x1 x2 = d168 := by
              subst hd169
              exact zl_X0_narrowCompared_4 q101 q107 q128 q152 q153
            exact tt_vreturn dX0_narrowCompared_114 rfl (hP _ _ _ _ ⟨hG164, hA166, Or.inl ⟨_, rfl, rfl, Eq.trans hs171 hF.symm, rfl, rfl⟩⟩)
        · skip
          refine tt_iconst (v := 1) dX0_narrowCompared_53 rfl ?_
          refine tt_goto (tgt := 58) dX0_narrowCompared_54 rfl ?_
          refine tt_istore (ks := [0, 1, 2, 3, 4, 5]) (L' := [(5, .int 1), (4, .ref (R 0 o0)), (3, .ref (R 1 o0)), (0, .ref o0), (1, .int x1), (2, .int x2)]) dX0_narrowCompared_58 (by decide) rfl ?_
          refine tt_iload (j := 0) dX0_narrowCompared_60 rfl ?_
          refine tt_if_eq (tgt := 69) dX0_narrowCompared_62 rfl (fun q => absurd q (by decide)) (fun _ => ?_)
          refine tt_iconst (v := 1) dX0_narrowCompared_65 rfl ?_
          refine tt_goto (tgt := 70) dX0_narrowCompared_66 rfl ?_
          refine tt_istore (ks := [0, 1, 2, 3, 4, 5, 6]) (L' := [(6, .int 1), (5, .int 1), (4, .ref (R 0 o0)), (3, .ref (R 1 o0)), (0, .ref o0), (1, .int x1), (2, .int x2)]) dX0_narrowCompared_70 (by decide) rfl ?_
          refine tt_iload_n (j := 5) dX0_narrowCompared_72 rfl ?_
          refine tt_bipush (v := 12) dX0_narrowCompared_73 rfl ?_
          refine tt_icmp_eq (tgt := 84) dX0_narrowCompared_75 rfl (fun q => absurd q q107) (fun _ => ?_)
          refine tt_iload_n (j := 5) dX0_narrowCompared_78 rfl ?_
          refine tt_bipush (v := 14) dX0_narrowCompared_79 rfl ?_
          refine tt_icmp_ne (tgt := 95) dX0_narrowCompared_81 rfl (fun q172 => ?_) (fun q172 => ?_)
          · skip
            refine tt_iload_n (j := 5) dX0_narrowCompared_95 rfl ?_
            refine tt_iconst (v := 2) dX0_narrowCompared_96 rfl ?_
            refine tt_icmp_eq (tgt := 106) dX0_narrowCompared_97 rfl (fun _ => ?_) (fun q => absurd q128 q)
            refine tt_aload_n (j := 3) dX0_narrowCompared_106 rfl ?_
            refine tt_aload (j := 2) dX0_narrowCompared_107 rfl ?_
            refine tt_iload (j := 0) dX0_narrowCompared_109 rfl ?_
            refine gt_Sv (As := [.ref (R 1 o0), .ref (R 0 o0), .int 1]) dX0_narrowCompared_111 ca_X0_74 ⟨by decide, by decide⟩ hA (Nat.le_of_ble_eq_true rfl) (Nat.le_of_ble_eq_true rfl) (by decide) (cz_X0_orderUnsigned hG (oa_af ho104 hA) (oa_af ho106 hA) hR (fun _ _ _ _ h => h)) rfl (fun _ h => nomatch h) (fun S173 hx177 hG174 hB175 hA176 => ?_)
            obtain ⟨d178, hd179⟩ : ∃ q, Z_X0_orderUnsigned R (sg S) (R 1 o0) (R 0 o0) (1) = q := ⟨_, rfl⟩
            have hq180 := (congrArg (fun q9 => Z_X0_orderUnsigned R q9 (R 1 o0) (R 0 o0) (1)) (show sg S = (sg S) from rfl)).trans hd179
            have hs181 := hx177.trans hq180
            have hF : Z_X0_narrowCompared R (sg S) o0 x1 x2 = d178 := by
              subst hd179
              exact zl_X0_narrowCompared_3 q101 q107 q128 q152 q172
            exact tt_vreturn dX0_narrowCompared_114 rfl (hP _ _ _ _ ⟨hG174, hA176, Or.inl ⟨_, rfl, rfl, Eq.trans hs181 hF.symm, rfl, rfl⟩⟩)
          · skip
            refine tt_aload_n (j := 3) dX0_narrowCompared_84 rfl ?_
            refine tt_aload (j := 2) dX0_narrowCompared_85 rfl ?_
            refine tt_iload (j := 0) dX0_narrowCompared_87 rfl ?_
            refine gt_Sv (As := [.ref (R 1 o0), .ref (R 0 o0), .int 1]) dX0_narrowCompared_89 ca_X0_70 ⟨by decide, by decide⟩ hA (Nat.le_of_ble_eq_true rfl) (Nat.le_of_ble_eq_true rfl) (by decide) (cz_X0_order hG (oa_af ho104 hA) (oa_af ho106 hA) hR (fun _ _ _ _ h => h)) rfl (fun _ h => nomatch h) (fun S182 hx186 hG183 hB184 hA185 => ?_)
            obtain ⟨d187, hd188⟩ : ∃ q, Z_X0_order R (sg S) (R 1 o0) (R 0 o0) (1) = q := ⟨_, rfl⟩
            have hq189 := (congrArg (fun q9 => Z_X0_order R q9 (R 1 o0) (R 0 o0) (1)) (show sg S = (sg S) from rfl)).trans hd188
            have hs190 := hx186.trans hq189
            refine tt_goto (tgt := 114) dX0_narrowCompared_92 rfl ?_
            have hF : Z_X0_narrowCompared R (sg S) o0 x1 x2 = d187 := by
              subst hd188
              exact zl_X0_narrowCompared_2 q101 q107 q128 q152 q172
            exact tt_vreturn dX0_narrowCompared_114 rfl (hP _ _ _ _ ⟨hG183, hA185, Or.inl ⟨_, rfl, rfl, Eq.trans hs190 hF.symm, rfl, rfl⟩⟩)
  · skip
    have h191 : Rg 1 1 x2 := rg_ne_lo h2 (⟨by decide, by decide⟩ : Rg 0 0 0) q101
    refine tt_aload_n (j := 0) dX0_narrowCompared_4 rfl ?_
    have hr192 := rk_R (k := 0) hR h0 7 0
    have ho193 := rk_O (k := 0) hG hR h0 7 0
    refine gt_gR (id := 0) dX0_narrowCompared_5 fl_0_14 rfl rfl h0 hA hr192 ?_
    refine tt_goto (tgt := 15) dX0_narrowCompared_8 rfl ?_
    refine tt_astore_n (ks := [0, 1, 2, 3]) (L' := [(3, .ref (R 0 o0)), (0, .ref o0), (1, .int x1), (2, .int x2)]) dX0_narrowCompared_15 (by decide) rfl ?_
    refine tt_iload_n (j := 3) dX0_narrowCompared_16 rfl ?_
    refine tt_if_eq (tgt := 27) dX0_narrowCompared_17 rfl (fun q => absurd q q101) (fun _ => ?_)
    refine tt_aload_n (j := 1) dX0_narrowCompared_20 rfl ?_
    have hr194 := rk_R (k := 1) hR h0 7 0
    have ho195 := rk_O (k := 1) hG hR h0 7 0
    refine gt_gR (id := 1) dX0_narrowCompared_21 fl_0_18 rfl rfl h0 hA hr194 ?_
    refine tt_goto (tgt := 31) dX0_narrowCompared_24 rfl ?_
    refine tt_astore (ks := [0, 1, 2, 3, 4]) (L' := [(4, .ref (R 1 o0)), (3, .ref (R 0 o0)), (0, .ref o0), (1, .int x1), (2, .int x2)]) dX0_narrowCompared_31 (by decide) rfl ?_
    refine tt_iload_n (j := 4) dX0_narrowCompared_33 rfl ?_
    refine tt_iload_n (j := 3) dX0_narrowCompared_34 rfl ?_
    refine tt_bipush (v := 12) dX0_narrowCompared_35 rfl ?_
    refine tt_icmp_eq (tgt := 45) dX0_narrowCompared_37 rfl (fun q196 => ?_) (fun q196 => ?_)
    · skip
      have h197 : Rg 12 12 x1 := rg_eq_l (rg_all x1) (⟨by decide, by decide⟩ : Rg 12 12 12) q196
      refine tt_iconst (v := 1) dX0_narrowCompared_45 rfl ?_
      refine tt_goto (tgt := 50) dX0_narrowCompared_46 rfl ?_
      refine tt_icmp_ne (tgt := 57) dX0_narrowCompared_50 rfl (fun q198 => ?_) (fun q198 => ?_)
      · skip
        have h199 : Rg 2 1 x2 := rg_ne_lo h191 (⟨by decide, by decide⟩ : Rg 1 1 1) q198
        exact rg_no h199
      · skip
        refine tt_iconst (v := 1) dX0_narrowCompared_53 rfl ?_
        refine tt_goto (tgt := 58) dX0_narrowCompared_54 rfl ?_
        refine tt_istore (ks := [0, 1, 2, 3, 4, 5]) (L' := [(5, .int 1), (4, .ref (R 1 o0)), (3, .ref (R 0 o0)), (0, .ref o0), (1, .int x1), (2, .int x2)]) dX0_narrowCompared_58 (by decide) rfl ?_
        refine tt_iload (j := 0) dX0_narrowCompared_60 rfl ?_
        refine tt_if_eq (tgt := 69) dX0_narrowCompared_62 rfl (fun q => absurd q (by decide)) (fun _ => ?_)
        refine tt_iconst (v := 1) dX0_narrowCompared_65 rfl ?_
        refine tt_goto (tgt := 70) dX0_narrowCompared_66 rfl ?_
        refine tt_istore (ks := [0, 1, 2, 3, 4, 5, 6]) (L' := [(6, .int 1), (5, .int 1), (4, .ref (R 1 o0)), (3, .ref (R 0 o0)), (0, .ref o0), (1, .int x1), (2, .int x2)]) dX0_narrowCompared_70 (by decide) rfl ?_
        refine tt_iload_n (j := 5) dX0_narrowCompared_72 rfl ?_
        refine tt_bipush (v := 12) dX0_narrowCompared_73 rfl ?_
        refine tt_icmp_eq (tgt := 84) dX0_narrowCompared_75 rfl (fun _ => ?_) (fun q => absurd q196 q)
        refine tt_aload_n (j := 3) dX0_narrowCompared_84 rfl ?_
        refine tt_aload (j := 2) dX0_narrowCompared_85 rfl ?_
        refine tt_iload (j := 0) dX0_narrowCompared_87 rfl ?_
        refine gt_Sv (As := [.ref (R 0 o0), .ref (R 1 o0), .int 1]) dX0_narrowCompared_89 ca_X0_70 ⟨by decide, by decide⟩ hA (Nat.le_of_ble_eq_true rfl) (Nat.le_of_ble_eq_true rfl) (by decide) (cz_X0_order hG (oa_af ho193 hA) (oa_af ho195 hA) hR (fun _ _ _ _ h => h)) rfl (fun _ h => nomatch h) (fun S200 hx204 hG201 hB202 hA203 => ?_)
        obtain ⟨d205, hd206⟩ : ∃ q, Z_X0_order R (sg S) (R 0 o0) (R 1 o0) (1) = q := ⟨_, rfl⟩
        have hq207 := (congrArg (fun q9 => Z_X0_order R q9 (R 0 o0) (R 1 o0) (1)) (show sg S = (sg S) from rfl)).trans hd206
        have hs208 := hx204.trans hq207
        refine tt_goto (tgt := 114) dX0_narrowCompared_92 rfl ?_
        have hF : Z_X0_narrowCompared R (sg S) o0 x1 x2 = d205 := by
          subst hd206
          exact zl_X0_narrowCompared_9 q101 q196 q198
        exact tt_vreturn dX0_narrowCompared_114 rfl (hP _ _ _ _ ⟨hG201, hA203, Or.inl ⟨_, rfl, rfl, Eq.trans hs208 hF.symm, rfl, rfl⟩⟩)
    · skip
      refine tt_iload_n (j := 3) dX0_narrowCompared_40 rfl ?_
      refine tt_iconst (v := 2) dX0_narrowCompared_41 rfl ?_
      refine tt_icmp_ne (tgt := 49) dX0_narrowCompared_42 rfl (fun q209 => ?_) (fun q209 => ?_)
      · skip
        refine tt_iconst (v := 0) dX0_narrowCompared_49 rfl ?_
        refine tt_icmp_ne (tgt := 57) dX0_narrowCompared_50 rfl (fun _ => ?_) (fun q => absurd q q101)
        refine tt_iconst (v := 0) dX0_narrowCompared_57 rfl ?_
        refine tt_istore (ks := [0, 1, 2, 3, 4, 5]) (L' := [(5, .int 0), (4, .ref (R 1 o0)), (3, .ref (R 0 o0)), (0, .ref o0), (1, .int x1), (2, .int x2)]) dX0_narrowCompared_58 (by decide) rfl ?_
        refine tt_iload (j := 0) dX0_narrowCompared_60 rfl ?_
        refine tt_if_eq (tgt := 69) dX0_narrowCompared_62 rfl (fun _ => ?_) (fun q => absurd q (by decide))
        refine tt_iconst (v := 0) dX0_narrowCompared_69 rfl ?_
        refine tt_istore (ks := [0, 1, 2, 3, 4, 5, 6]) (L' := [(6, .int 0), (5, .int 0), (4, .ref (R 1 o0)), (3, .ref (R 0 o0)), (0, .ref o0), (1, .int x1), (2, .int x2)]) dX0_narrowCompared_70 (by decide) rfl ?_
        refine tt_iload_n (j := 5) dX0_narrowCompared_72 rfl ?_
        refine tt_bipush (v := 12) dX0_narrowCompared_73 rfl ?_
        refine tt_icmp_eq (tgt := 84) dX0_narrowCompared_75 rfl (fun q => absurd q q196) (fun _ => ?_)
        refine tt_iload_n (j := 5) dX0_narrowCompared_78 rfl ?_
        refine tt_bipush (v := 14) dX0_narrowCompared_79 rfl ?_
        refine tt_icmp_ne (tgt := 95) dX0_narrowCompared_81 rfl (fun q210 => ?_) (fun q210 => ?_)
        · skip
          refine tt_iload_n (j := 5) dX0_narrowCompared_95 rfl ?_
          refine tt_iconst (v := 2) dX0_narrowCompared_96 rfl ?_
          refine tt_icmp_eq (tgt := 106) dX0_narrowCompared_97 rfl (fun q => absurd q q209) (fun _ => ?_)
          refine tt_iload_n (j := 5) dX0_narrowCompared_100 rfl ?_
          refine tt_bipush (v := 6) dX0_narrowCompared_101 rfl ?_
          refine tt_icmp_ne (tgt := 114) dX0_narrowCompared_103 rfl (fun q211 => ?_) (fun q211 => ?_)
          · skip
            have hF : Z_X0_narrowCompared R (sg S) o0 x1 x2 = (sg S) := by
              exact zl_X0_narrowCompared_16 q101 q196 q209 q210 q211
            exact tt_vreturn dX0_narrowCompared_114 rfl (hP _ _ _ _ ⟨hG, hA, Or.inl ⟨_, rfl, rfl, Eq.trans (show sg S = (sg S) from rfl) hF.symm, rfl, rfl⟩⟩)
          · skip
            have h212 : Rg 6 6 x1 := rg_eq_l (rg_all x1) (⟨by decide, by decide⟩ : Rg 6 6 6) q211
            refine tt_aload_n (j := 3) dX0_narrowCompared_106 rfl ?_
            refine tt_aload (j := 2) dX0_narrowCompared_107 rfl ?_
            refine tt_iload (j := 0) dX0_narrowCompared_109 rfl ?_
            refine gt_Sv (As := [.ref (R 0 o0), .ref (R 1 o0), .int 0]) dX0_narrowCompared_111 ca_X0_74 ⟨by decide, by decide⟩ hA (Nat.le_of_ble_eq_true rfl) (Nat.le_of_ble_eq_true rfl) (by decide) (cz_X0_orderUnsigned hG (oa_af ho193 hA) (oa_af ho195 hA) hR (fun _ _ _ _ h => h)) rfl (fun _ h => nomatch h) (fun S213 hx217 hG214 hB215 hA216 => ?_)
            obtain ⟨d218, hd219⟩ : ∃ q, Z_X0_orderUnsigned R (sg S) (R 0 o0) (R 1 o0) (0) = q := ⟨_, rfl⟩
            have hq220 := (congrArg (fun q9 => Z_X0_orderUnsigned R q9 (R 0 o0) (R 1 o0) (0)) (show sg S = (sg S) from rfl)).trans hd219
            have hs221 := hx217.trans hq220
            have hF : Z_X0_narrowCompared R (sg S) o0 x1 x2 = d218 := by
              subst hd219
              exact zl_X0_narrowCompared_15 q101 q196 q209 q210 q211
            exact tt_vreturn dX0_narrowCompared_114 rfl (hP _ _ _ _ ⟨hG214, hA216, Or.inl ⟨_, rfl, rfl, Eq.trans hs221 hF.symm, rfl, rfl⟩⟩)
        · skip
          have h222 : Rg 14 14 x1 := rg_eq_l (rg_all x1) (⟨by decide, by decide⟩ : Rg 14 14 14) q210
          refine tt_aload_n (j := 3) dX0_narrowCompared_84 rfl ?_
          refine tt_aload (j := 2) dX0_narrowCompared_85 rfl ?_
          refine tt_iload (j := 0) dX0_narrowCompared_87 rfl ?_
          refine gt_Sv (As := [.ref (R 0 o0), .ref (R 1 o0), .int 0]) dX0_narrowCompared_89 ca_X0_70 ⟨by decide, by decide⟩ hA (Nat.le_of_ble_eq_true rfl) (Nat.le_of_ble_eq_true rfl) (by decide) (cz_X0_order hG (oa_af ho193 hA) (oa_af ho195 hA) hR (fun _ _ _ _ h => h)) rfl (fun _ h => nomatch h) (fun S223 hx227 hG224 hB225 hA226 => ?_)
          obtain ⟨d228, hd229⟩ : ∃ q, Z_X0_order R (sg S) (R 0 o0) (R 1 o0) (0) = q := ⟨_, rfl⟩
          have hq230 := (congrArg (fun q9 => Z_X0_order R q9 (R 0 o0) (R 1 o0) (0)) (show sg S = (sg S) from rfl)).trans hd229
          have hs231 := hx227.trans hq230
          refine tt_goto (tgt := 114) dX0_narrowCompared_92 rfl ?_
          have hF : Z_X0_narrowCompared R (sg S) o0 x1 x2 = d228 := by
            subst hd229
            exact zl_X0_narrowCompared_14 q101 q196 q209 q210
          exact tt_vreturn dX0_narrowCompared_114 rfl (hP _ _ _ _ ⟨hG224, hA226, Or.inl ⟨_, rfl, rfl, Eq.trans hs231 hF.symm, rfl, rfl⟩⟩)
      · skip
        have h232 : Rg 2 2 x1 := rg_eq_l (rg_all x1) (⟨by decide, by decide⟩ : Rg 2 2 2) q209
        refine tt_iconst (v := 1) dX0_narrowCompared_45 rfl ?_
        refine tt_goto (tgt := 50) dX0_narrowCompared_46 rfl ?_
        refine tt_icmp_ne (tgt := 57) dX0_narrowCompared_50 rfl (fun q233 => ?_) (fun q233 => ?_)
        · skip
          have h234 : Rg 2 1 x2 := rg_ne_lo h191 (⟨by decide, by decide⟩ : Rg 1 1 1) q233
          exact rg_no h234
        · skip
          refine tt_iconst (v := 1) dX0_narrowCompared_53 rfl ?_
          refine tt_goto (tgt := 58) dX0_narrowCompared_54 rfl ?_
          refine tt_istore (ks := [0, 1, 2, 3, 4, 5]) (L' := [(5, .int 1), (4, .ref (R 1 o0)), (3, .ref (R 0 o0)), (0, .ref o0), (1, .int x1), (2, .int x2)]) dX0_narrowCompared_58 (by decide) rfl ?_
          refine tt_iload (j := 0) dX0_narrowCompared_60 rfl ?_
          refine tt_if_eq (tgt := 69) dX0_narrowCompared_62 rfl (fun q => absurd q (by decide)) (fun _ => ?_)
          refine tt_iconst (v := 1) dX0_narrowCompared_65 rfl ?_
          refine tt_goto (tgt := 70) dX0_narrowCompared_66 rfl ?_
          refine tt_istore (ks := [0, 1, 2, 3, 4, 5, 6]) (L' := [(6, .int 1), (5, .int 1), (4, .ref (R 1 o0)), (3, .ref (R 0 o0)), (0, .ref o0), (1, .int x1), (2, .int x2)]) dX0_narrowCompared_70 (by decide) rfl ?_
          refine tt_iload_n (j := 5) dX0_narrowCompared_72 rfl ?_
          refine tt_bipush (v := 12) dX0_narrowCompared_73 rfl ?_
          refine tt_icmp_eq (tgt := 84) dX0_narrowCompared_75 rfl (fun q => absurd q q196) (fun _ => ?_)
          refine tt_iload_n (j := 5) dX0_narrowCompared_78 rfl ?_
          refine tt_bipush (v := 14) dX0_narrowCompared_79 rfl ?_
          refine tt_icmp_ne (tgt := 95) dX0_narrowCompared_81 rfl (fun q235 => ?_) (fun q235 => ?_)
          · skip
            refine tt_iload_n (j := 5) dX0_narrowCompared_95 rfl ?_
            refine tt_iconst (v := 2) dX0_narrowCompared_96 rfl ?_
            refine tt_icmp_eq (tgt := 106) dX0_narrowCompared_97 rfl (fun _ => ?_) (fun q => absurd q209 q)
            refine tt_aload_n (j := 3) dX0_narrowCompared_106 rfl ?_
            refine tt_aload (j := 2) dX0_narrowCompared_107 rfl ?_
            refine tt_iload (j := 0) dX0_narrowCompared_109 rfl ?_
            refine gt_Sv (As := [.ref (R 0 o0), .ref (R 1 o0), .int 1]) dX0_narrowCompared_111 ca_X0_74 ⟨by decide, by decide⟩ hA (Nat.le_of_ble_eq_true rfl) (Nat.le_of_ble_eq_true rfl) (by decide) (cz_X0_orderUnsigned hG (oa_af ho193 hA) (oa_af ho195 hA) hR (fun _ _ _ _ h => h)) rfl (fun _ h => nomatch h) (fun S236 hx240 hG237 hB238 hA239 => ?_)
            obtain ⟨d241, hd242⟩ : ∃ q, Z_X0_orderUnsigned R (sg S) (R 0 o0) (R 1 o0) (1) = q := ⟨_, rfl⟩
            have hq243 := (congrArg (fun q9 => Z_X0_orderUnsigned R q9 (R 0 o0) (R 1 o0) (1)) (show sg S = (sg S) from rfl)).trans hd242
            have hs244 := hx240.trans hq243
            have hF : Z_X0_narrowCompared R (sg S) o0 x1 x2 = d241 := by
              subst hd242
              exact zl_X0_narrowCompared_12 q101 q196 q209 q233 q235
            exact tt_vreturn dX0_narrowCompared_114 rfl (hP _ _ _ _ ⟨hG237, hA239, Or.inl ⟨_, rfl, rfl, Eq.trans hs244 hF.symm, rfl, rfl⟩⟩)
          · skip
            refine tt_aload_n (j := 3) dX0_narrowCompared_84 rfl ?_
            refine tt_aload (j := 2) dX0_narrowCompared_85 rfl ?_
            refine tt_iload (j := 0) dX0_narrowCompared_87 rfl ?_
            refine gt_Sv (As := [.ref (R 0 o0), .ref (R 1 o0), .int 1]) dX0_narrowCompared_89 ca_X0_70 ⟨by decide, by decide⟩ hA (Nat.le_of_ble_eq_true rfl) (Nat.le_of_ble_eq_true rfl) (by decide) (cz_X0_order hG (oa_af ho193 hA) (oa_af ho195 hA) hR (fun _ _ _ _ h => h)) rfl (fun _ h => nomatch h) (fun S245 hx249 hG246 hB247 hA248 => ?_)
            obtain ⟨d250, hd251⟩ : ∃ q, Z_X0_order R (sg S) (R 0 o0) (R 1 o0) (1) = q := ⟨_, rfl⟩
            have hq252 := (congrArg (fun q9 => Z_X0_order R q9 (R 0 o0) (R 1 o0) (1)) (show sg S = (sg S) from rfl)).trans hd251
            have hs253 := hx249.trans hq252
            refine tt_goto (tgt := 114) dX0_narrowCompared_92 rfl ?_
            have hF : Z_X0_narrowCompared R (sg S) o0 x1 x2 = d250 := by
              subst hd251
              exact zl_X0_narrowCompared_11 q101 q196 q209 q233 q235
            exact tt_vreturn dX0_narrowCompared_114 rfl (hP _ _ _ _ ⟨hG246, hA248, Or.inl ⟨_, rfl, rfl, Eq.trans hs253 hF.symm, rfl, rfl⟩⟩)
def Z_X0_narrow_p172 (R : Nat → Nat → Nat) (σ : SG) (o0 : Nat) (o1 : Nat) : SG × Int32 :=
  if (Z_X7_isNone R σ (R 0 o0)) = 0 then
    if (Z_X7_isNone R σ (R 1 o0)) = 0 then
      let d121 := Z_X8_store R σ o1 ((mI σ 516 o1)) (R 0 o0)
      let d130 := Z_X8_store R d121 o1 ((mI σ 517 o1)) (R 1 o0)
      (d130, 1)
    else
      (σ, 0)
  else
    (σ, 0)
theorem zl_X0_narrow_p172_0 {R : Nat → Nat → Nat} {σ : SG} {o0 : Nat} {o1 : Nat} (h0 : (Z_X7_isNone R σ (R 0 o0)) = 0) (h1 : (Z_X7_isNone R σ (R 1 o0)) = 0) : Z_X0_narrow_p172 R σ o0 o1 = ((Z_X8_store R (Z_X8_store R σ o1 ((mI σ 516 o1)) (R 0 o0)) o1 ((mI σ 517 o1)) (R 1 o0)), 1) := by unfold Z_X0_narrow_p172; exact Eq.trans (if_pos h0) (if_pos h1)
theorem zl_X0_narrow_p172_1 {R : Nat → Nat → Nat} {σ : SG} {o0 : Nat} {o1 : Nat} (h0 : (Z_X7_isNone R σ (R 0 o0)) = 0) (h1 : ¬ (Z_X7_isNone R σ (R 1 o0)) = 0) : Z_X0_narrow_p172 R σ o0 o1 = (σ, 0) := by unfold Z_X0_narrow_p172; exact Eq.trans (if_pos h0) (if_neg h1)
theorem zl_X0_narrow_p172_2 {R : Nat → Nat → Nat} {σ : SG} {o0 : Nat} {o1 : Nat} (h0 : ¬ (Z_X7_isNone R σ (R 0 o0)) = 0) : Z_X0_narrow_p172 R σ o0 o1 = (σ, 0) := by unfold Z_X0_narrow_p172; exact if_neg h0
set_option maxHeartbeats 40000000 in
theorem cz_X0_narrow_p172 {xi : SX} {S : Hp} {E : List Nat} {kc nc : Nat} {P : Po} {o0 : Nat} {o1 : Nat} {R : Nat → Nat → Nat} (hG : GI S E) (h0 : Oa S E 0 0 o0) (h1 : Oa S E 8 0 o1) (hR : RK S R) (hP : ∀ r T x y, PV E [9994] S kc nc (rI 0 1) (fun v T => v = some (.int (Z_X0_narrow_p172 R (sg S) o0 o1).2) ∧ sg T = (Z_X0_narrow_p172 R (sg S) o0 o1).1) [] r T x y → P r T x y) : TT xi M_X0_narrow 172 [(0, .ref o0), (1, .ref o1)] [] S kc nc P := by
  have hA : Af E [9994] S S := af_rf
  refine tt_aload_n (j := 0) dX0_narrow_172 rfl ?_
  have hr101 := rk_R (k := 0) hR h0 7 0
  have ho102 := rk_O (k := 0) hG hR h0 7 0
  refine gt_gR (id := 0) dX0_narrow_173 fl_0_14 rfl rfl h0 hA hr101 ?_
  refine gt_VIp (As := []) dX0_narrow_176 ca_X0_63 ⟨by decide, by decide⟩ ho102 hA rfl (Nat.le_of_ble_eq_true rfl) (Nat.le_of_ble_eq_true rfl) (by decide) (cz_X7_isNone hG (oa_af ho102 hA) hR (fun _ _ _ _ h => h)) rfl (fun _ h => nomatch h) (fun _ _ q => q.1) (fun x103 h104 hx105 => ?_)
  obtain rfl : Z_X7_isNone R (sg S) (R 0 o0) = x103 := ((ei_w hx105.2).trans (congrArg (fun q9 => Z_X7_isNone R q9 (R 0 o0)) (show sg S = (sg S) from rfl))).symm
  refine tt_if_ne (tgt := 192) dX0_narrow_179 rfl (fun q106 => ?_) (fun q106 => ?_)
  · skip
    have h107 : Rg 1 1 (Z_X7_isNone R (sg S) (R 0 o0)) := rg_ne_lo h104 (⟨by decide, by decide⟩ : Rg 0 0 0) q106
    refine tt_iconst (v := 0) dX0_narrow_192 rfl ?_
    have hF : Z_X0_narrow_p172 R (sg S) o0 o1 = ((sg S), 0) := by
      exact zl_X0_narrow_p172_2 q106
    exact tt_ireturn dX0_narrow_193 .boolean rfl rfl (hP _ _ _ _ ⟨hG, hA, Or.inl ⟨_, rfl, ⟨_, rfl, rg_w (⟨by decide, by decide⟩ : Rg 0 0 0)⟩, ⟨congrArg (fun q => some (Value.int q.2)) hF.symm, Eq.trans (show sg S = (sg S) from rfl) (congrArg Prod.fst hF).symm⟩, rfl, rfl⟩⟩)
  · skip
    have h108 : Rg 0 0 (Z_X7_isNone R (sg S) (R 0 o0)) := rg_eq_l h104 (⟨by decide, by decide⟩ : Rg 0 0 0) q106
    refine tt_aload_n (j := 0) dX0_narrow_182 rfl ?_
    have hr109 := rk_R (k := 1) hR h0 7 0
    have ho110 := rk_O (k := 1) hG hR h0 7 0
    refine gt_gR (id := 1) dX0_narrow_183 fl_0_18 rfl rfl h0 hA hr109 ?_
    refine gt_VIp (As := []) dX0_narrow_186 ca_X0_63 ⟨by decide, by decide⟩ ho110 hA rfl (Nat.le_of_ble_eq_true rfl) (Nat.le_of_ble_eq_true rfl) (by decide) (cz_X7_isNone hG (oa_af ho110 hA) hR (fun _ _ _ _ h => h)) rfl (fun _ h => nomatch h) (fun _ _ q => q.1) (fun x111 h112 hx113 => ?_)
    obtain rfl : Z_X7_isNone R (sg S) (R 1 o0) = x111 := ((ei_w hx113.2).trans (congrArg (fun q9 => Z_X7_isNone R q9 (R 1 o0)) (show sg S = (sg S) from rfl))).symm
    refine tt_if_eq (tgt := 194) dX0_narrow_189 rfl (fun q114 => ?_) (fun q114 => ?_)
    · skip
      have h115 : Rg 0 0 (Z_X7_isNone R (sg S) (R 1 o0)) := rg_eq_l h112 (⟨by decide, by decide⟩ : Rg 0 0 0) q114
      refine tt_aload_n (j := 1) dX0_narrow_194 rfl ?_
      refine tt_aload_n (j := 1) dX0_narrow_195 rfl ?_
      refine gt_gI (id := 516) (v := (mI (sg S) 516 o1)) dX0_narrow_196 fl_0_27 rfl rfl h1 hA (sg_I (k := 516) (o := o1) (show sg S = (sg S) from rfl)) ?_
      refine tt_aload_n (j := 0) dX0_narrow_199 rfl ?_
      refine gt_gR (id := 0) dX0_narrow_200 fl_0_14 rfl rfl h0 hA hr101 ?_
      refine gt_Vv (As := [.int (mI (sg S) 516 o1), .ref (R 0 o0)]) dX0_narrow_203 ca_X0_67 ⟨by decide, by decide⟩ h1 hA rfl (Nat.le_of_ble_eq_true rfl) (Nat.le_of_ble_eq_true rfl) (by decide) (cz_X8_store hG (oa_af h1 hA) (oa_af ho102 hA) hR (fun _ _ _ _ h => h)) rfl (fun _ h => nomatch h) (fun S116 hx120 hG117 hB118 hA119 => ?_)
      obtain ⟨d121, hd122⟩ : ∃ q, Z_X8_store R (sg S) o1 ((mI (sg S) 516 o1)) (R 0 o0) = q := ⟨_, rfl⟩
      have hq123 := (congrArg (fun q9 => Z_X8_store R q9 o1 ((mI (sg S) 516 o1)) (R 0 o0)) (show sg S = (sg S) from rfl)).trans hd122
      have hs124 := hx120.trans hq123
      refine tt_aload_n (j := 1) dX0_narrow_206 rfl ?_
      refine tt_aload_n (j := 1) dX0_narrow_207 rfl ?_
      refine gt_gI (id := 517) (v := (mI (sg S) 517 o1)) dX0_narrow_208 fl_0_33 rfl rfl h1 hA119 (show hp_I S116 517 o1 = mI (sg S) 517 o1 from i_af (k := 517) h1 hA119) ?_
      refine tt_aload_n (j := 0) dX0_narrow_211 rfl ?_
      refine gt_gR (id := 1) dX0_narrow_212 fl_0_18 rfl rfl h0 hA119 hr109 ?_
      refine gt_Vv (As := [.int (mI (sg S) 517 o1), .ref (R 1 o0)]) dX0_narrow_215 ca_X0_67 ⟨by decide, by decide⟩ h1 hA119 rfl (Nat.le_of_ble_eq_true rfl) (Nat.le_of_ble_eq_true rfl) (by decide) (cz_X8_store hG117 (oa_af h1 hA119) (oa_af ho110 hA119) (rk_af hR hA119) (fun _ _ _ _ h => h)) rfl (fun _ h => nomatch h) (fun S125 hx129 hG126 hB127 hA128 => ?_)
      obtain ⟨d130, hd131⟩ : ∃ q, Z_X8_store R d121 o1 ((mI (sg S) 517 o1)) (R 1 o0) = q := ⟨_, rfl⟩
      have hq132 := (congrArg (fun q9 => Z_X8_store R q9 o1 ((mI (sg S) 517 o1)) (R 1 o0)) hs124).trans hd131
      have hs133 := hx129.trans hq132
      refine tt_iconst (v := 1) dX0_narrow_218 rfl ?_
      have hF : Z_X0_narrow_p172 R (sg S) o0 o1 = (d130, 1) := by
        subst hd131
        subst hd122
        exact zl_X0_narrow_p172_0 q106 q114
      exact tt_ireturn dX0_narrow_219 .boolean rfl rfl (hP _ _ _ _ ⟨hG126, hA128, Or.inl ⟨_, rfl, ⟨_, rfl, rg_w (⟨by decide, by decide⟩ : Rg 1 1 1)⟩, ⟨congrArg (fun q => some (Value.int q.2)) hF.symm, Eq.trans hs133 (congrArg Prod.fst hF).symm⟩, rfl, rfl⟩⟩)
    · skip
      have h134 : Rg 1 1 (Z_X7_isNone R (sg S) (R 1 o0)) := rg_ne_lo h112 (⟨by decide, by decide⟩ : Rg 0 0 0) q114
      refine tt_iconst (v := 0) dX0_narrow_192 rfl ?_
      have hF : Z_X0_narrow_p172 R (sg S) o0 o1 = ((sg S), 0) := by
        exact zl_X0_narrow_p172_1 q106 q114
      exact tt_ireturn dX0_narrow_193 .boolean rfl rfl (hP _ _ _ _ ⟨hG, hA, Or.inl ⟨_, rfl, ⟨_, rfl, rg_w (⟨by decide, by decide⟩ : Rg 0 0 0)⟩, ⟨congrArg (fun q => some (Value.int q.2)) hF.symm, Eq.trans (show sg S = (sg S) from rfl) (congrArg Prod.fst hF).symm⟩, rfl, rfl⟩⟩)
def Z_X0_narrow_p82 (R : Nat → Nat → Nat) (σ : SG) (o0 : Nat) (o1 : Nat) (x2 : Int32) (x4 : Int32) : SG × Int32 :=
  if (x2 &&& 14) = 4 then
    if x4 = 0 then
      let d146 := Z_X0_becomeUnequal R σ o0
      Z_X0_narrow_p172 R d146 o0 o1
    else
      let d156 := Z_X0_becomeEqual R σ o0
      Z_X0_narrow_p172 R d156 o0 o1
  else
    if (mI σ 515 o1) = 1 then
      let d134 := Z_X0_narrowCompared R σ o0 ((x2 &&& 14)) (x4)
      Z_X0_narrow_p172 R d134 o0 o1
    else
      if (x2 &&& 14) = 8 then
        if x4 = 0 then
          let d114 := Z_X7_cut R σ (R 0 o0) (0) (9223372036854775807)
          Z_X0_narrow_p172 R d114 o0 o1
        else
          let d124 := Z_X7_cut R σ (R 0 o0) ((-9223372036854775808)) ((-1))
          Z_X0_narrow_p172 R d124 o0 o1
      else
        Z_X0_narrow_p172 R σ o0 o1
theorem zl_X0_narrow_p82_0 {R : Nat → Nat → Nat} {σ : SG} {o0 : Nat} {o1 : Nat} {x2 : Int32} {x4 : Int32} (h0 : (x2 &&& 14) = 4) (h1 : x4 = 0) : Z_X0_narrow_p82 R σ o0 o1 x2 x4 = Z_X0_narrow_p172 R (Z_X0_becomeUnequal R σ o0) o0 o1 := by unfold Z_X0_narrow_p82; exact Eq.trans (if_pos h0) (if_pos h1)
theorem zl_X0_narrow_p82_1 {R : Nat → Nat → Nat} {σ : SG} {o0 : Nat} {o1 : Nat} {x2 : Int32} {x4 : Int32} (h0 : (x2 &&& 14) = 4) (h1 : ¬ x4 = 0) : Z_X0_narrow_p82 R σ o0 o1 x2 x4 = Z_X0_narrow_p172 R (Z_X0_becomeEqual R σ o0) o0 o1 := by unfold Z_X0_narrow_p82; exact Eq.trans (if_pos h0) (if_neg h1)
theorem zl_X0_narrow_p82_2 {R : Nat → Nat → Nat} {σ : SG} {o0 : Nat} {o1 : Nat} {x2 : Int32} {x4 : Int32} (h0 : ¬ (x2 &&& 14) = 4) (h1 : (mI σ 515 o1) = 1) : Z_X0_narrow_p82 R σ o0 o1 x2 x4 = Z_X0_narrow_p172 R (Z_X0_narrowCompared R σ o0 ((x2 &&& 14)) (x4)) o0 o1 := by unfold Z_X0_narrow_p82; exact Eq.trans (if_neg h0) (if_pos h1)
theorem zl_X0_narrow_p82_3 {R : Nat → Nat → Nat} {σ : SG} {o0 : Nat} {o1 : Nat} {x2 : Int32} {x4 : Int32} (h0 : ¬ (x2 &&& 14) = 4) (h1 : ¬ (mI σ 515 o1) = 1) (h2 : (x2 &&& 14) = 8) (h3 : x4 = 0) : Z_X0_narrow_p82 R σ o0 o1 x2 x4 = Z_X0_narrow_p172 R (Z_X7_cut R σ (R 0 o0) (0) (9223372036854775807)) o0 o1 := by unfold Z_X0_narrow_p82; exact Eq.trans (if_neg h0) (Eq.trans (if_neg h1) (Eq.trans (if_pos h2) (if_pos h3)))
theorem zl_X0_narrow_p82_4 {R : Nat → Nat → Nat} {σ : SG} {o0 : Nat} {o1 : Nat} {x2 : Int32} {x4 : Int32} (h0 : ¬ (x2 &&& 14) = 4) (h1 : ¬ (mI σ 515 o1) = 1) (h2 : (x2 &&& 14) = 8) (h3 : ¬ x4 = 0) : Z_X0_narrow_p82 R σ o0 o1 x2 x4 = Z_X0_narrow_p172 R (Z_X7_cut R σ (R 0 o0) ((-9223372036854775808)) ((-1))) o0 o1 := by unfold Z_X0_narrow_p82; exact Eq.trans (if_neg h0) (Eq.trans (if_neg h1) (Eq.trans (if_pos h2) (if_neg h3)))
theorem zl_X0_narrow_p82_5 {R : Nat → Nat → Nat} {σ : SG} {o0 : Nat} {o1 : Nat} {x2 : Int32} {x4 : Int32} (h0 : ¬ (x2 &&& 14) = 4) (h1 : ¬ (mI σ 515 o1) = 1) (h2 : ¬ (x2 &&& 14) = 8) : Z_X0_narrow_p82 R σ o0 o1 x2 x4 = Z_X0_narrow_p172 R σ o0 o1 := by unfold Z_X0_narrow_p82; exact Eq.trans (if_neg h0) (Eq.trans (if_neg h1) (if_neg h2))
set_option maxHeartbeats 40000000 in
theorem cz_X0_narrow_p82 {xi : SX} {S : Hp} {E : List Nat} {kc nc : Nat} {P : Po} {o0 : Nat} {o1 : Nat} {x2 : Int32} {x4 : Int32} {R : Nat → Nat → Nat} (hG : GI S E) (h0 : Oa S E 0 0 o0) (h1 : Oa S E 8 0 o1) (h4 : Rg 0 1 x4) (hR : RK S R) (hP : ∀ r T x y, PV E [9987, 9994] S kc nc (rI 0 1) (fun v T => v = some (.int (Z_X0_narrow_p82 R (sg S) o0 o1 x2 x4).2) ∧ sg T = (Z_X0_narrow_p82 R (sg S) o0 o1 x2 x4).1) [] r T x y → P r T x y) : TT xi M_X0_narrow 82 [(0, .ref o0), (1, .ref o1), (2, .int x2), (4, .int x4)] [] S kc nc P := by
  have hA : Af E [9987, 9994] S S := af_rf
  refine tt_iload_n (j := 2) dX0_narrow_82 rfl ?_
  refine tt_bipush (v := 14) dX0_narrow_83 rfl ?_
  refine tt_iand dX0_narrow_85 ?_
  refine tt_istore (ks := [0, 1, 2, 3, 4]) (L' := [(5, .int (x2 &&& 14)), (0, .ref o0), (1, .ref o1), (2, .int x2), (4, .int x4)]) dX0_narrow_86 (by decide) rfl ?_
  refine tt_iload (j := 0) dX0_narrow_88 rfl ?_
  refine tt_iconst (v := 4) dX0_narrow_90 rfl ?_
  refine tt_icmp_ne (tgt := 113) dX0_narrow_91 rfl (fun q101 => ?_) (fun q101 => ?_)
  · skip
    refine tt_aload_n (j := 2) dX0_narrow_113 rfl ?_
    refine gt_gI (id := 515) (v := (mI (sg S) 515 o1)) dX0_narrow_114 fl_0_21 rfl rfl h1 hA (sg_I (k := 515) (o := o1) (show sg S = (sg S) from rfl)) ?_
    refine tt_iconst (v := 1) dX0_narrow_117 rfl ?_
    refine tt_icmp_ne (tgt := 132) dX0_narrow_118 rfl (fun q102 => ?_) (fun q102 => ?_)
    · skip
      refine tt_iload (j := 0) dX0_narrow_132 rfl ?_
      refine tt_bipush (v := 8) dX0_narrow_134 rfl ?_
      refine tt_icmp_ne (tgt := 172) dX0_narrow_136 rfl (fun q103 => ?_) (fun q103 => ?_)
      · skip
        have hF : Z_X0_narrow_p82 R (sg S) o0 o1 x2 x4 = Z_X0_narrow_p172 R (sg S) o0 o1 := by
          exact zl_X0_narrow_p82_5 q101 q102 q103
        exact tt_loc (ks := [1, 2]) rfl (cz_X0_narrow_p172 hG (oa_af h0 hA) (oa_af h1 hA) hR (fun r T x y h => hP r T x y (pv_tr hA h (by decide) (fun v T e => (((congrArg (fun q9 => Z_X0_narrow_p172 R q9 o0 o1) (show sg S = (sg S) from rfl)).trans hF.symm) ▸ e)))))
      · skip
        have h104 : Rg 8 8 (x2 &&& 14) := rg_eq_l (rg_and (x := x2) (⟨by decide, by decide⟩ : Rg 14 14 14)) (⟨by decide, by decide⟩ : Rg 8 8 8) q103
        refine tt_aload_n (j := 1) dX0_narrow_139 rfl ?_
        have hr105 := rk_R (k := 0) hR h0 7 0
        have ho106 := rk_O (k := 0) hG hR h0 7 0
        refine gt_gR (id := 0) dX0_narrow_140 fl_0_14 rfl rfl h0 hA hr105 ?_
        refine tt_iload (j := 4) dX0_narrow_143 rfl ?_
        refine tt_if_eq (tgt := 154) dX0_narrow_145 rfl (fun q107 => ?_) (fun q107 => ?_)
        · skip
          have h108 : Rg 0 0 x4 := rg_eq_l h4 (⟨by decide, by decide⟩ : Rg 0 0 0) q107
          refine tt_lconst (v := 0) dX0_narrow_154 rfl ?_
          refine tt_iload (j := 4) dX0_narrow_155 rfl ?_
          refine tt_if_eq (tgt := 166) dX0_narrow_157 rfl (fun _ => ?_) (fun q => absurd q107 q)
          refine tt_ldc2 (v := 9223372036854775807) dX0_narrow_166 kl_0_57 ?_
          refine gt_Vv (As := [.long 0, .long 9223372036854775807]) dX0_narrow_169 ca_X0_59 ⟨by decide, by decide⟩ ho106 hA rfl (Nat.le_of_ble_eq_true rfl) (Nat.le_of_ble_eq_true rfl) (by decide) (cz_X7_cut hG (oa_af ho106 hA) hR (fun _ _ _ _ h => h)) rfl (fun _ h => nomatch h) (fun S109 hx113 hG110 hB111 hA112 => ?_)
          obtain ⟨d114, hd115⟩ : ∃ q, Z_X7_cut R (sg S) (R 0 o0) (0) (9223372036854775807) = q := ⟨_, rfl⟩
          have hq116 := (congrArg (fun q9 => Z_X7_cut R q9 (R 0 o0) (0) (9223372036854775807)) (show sg S = (sg S) from rfl)).trans hd115
          have hs117 := hx113.trans hq116
          have hF : Z_X0_narrow_p82 R (sg S) o0 o1 x2 x4 = Z_X0_narrow_p172 R d114 o0 o1 := by
            subst hd115
            exact zl_X0_narrow_p82_3 q101 q102 q103 q107
          exact tt_loc (ks := [1, 2]) rfl (cz_X0_narrow_p172 hG110 (oa_af h0 hA112) (oa_af h1 hA112) (rk_af hR hA112) (fun r T x y h => hP r T x y (pv_tr hA112 h (by decide) (fun v T e => (((congrArg (fun q9 => Z_X0_narrow_p172 R q9 o0 o1) hs117).trans hF.symm) ▸ e)))))
        · skip
          have h118 : Rg 1 1 x4 := rg_ne_lo h4 (⟨by decide, by decide⟩ : Rg 0 0 0) q107
          refine tt_ldc2 (v := (-9223372036854775808)) dX0_narrow_148 kl_0_53 ?_
          refine tt_goto (tgt := 155) dX0_narrow_151 rfl ?_
          refine tt_iload (j := 4) dX0_narrow_155 rfl ?_
          refine tt_if_eq (tgt := 166) dX0_narrow_157 rfl (fun q => absurd q q107) (fun _ => ?_)
          refine tt_ldc2 (v := (-1)) dX0_narrow_160 kl_0_55 ?_
          refine tt_goto (tgt := 169) dX0_narrow_163 rfl ?_
          refine gt_Vv (As := [.long (-9223372036854775808), .long (-1)]) dX0_narrow_169 ca_X0_59 ⟨by decide, by decide⟩ ho106 hA rfl (Nat.le_of_ble_eq_true rfl) (Nat.le_of_ble_eq_true rfl) (by decide) (cz_X7_cut hG (oa_af ho106 hA) hR (fun _ _ _ _ h => h)) rfl (fun _ h => nomatch h) (fun S119 hx123 hG120 hB121 hA122 => ?_)
          obtain ⟨d124, hd125⟩ : ∃ q, Z_X7_cut R (sg S) (R 0 o0) ((-9223372036854775808)) ((-1)) = q := ⟨_, rfl⟩
          have hq126 := (congrArg (fun q9 => Z_X7_cut R q9 (R 0 o0) ((-9223372036854775808)) ((-1))) (show sg S = (sg S) from rfl)).trans hd125
          have hs127 := hx123.trans hq126
          have hF : Z_X0_narrow_p82 R (sg S) o0 o1 x2 x4 = Z_X0_narrow_p172 R d124 o0 o1 := by
            subst hd125
            exact zl_X0_narrow_p82_4 q101 q102 q103 q107
          exact tt_loc (ks := [1, 2]) rfl (cz_X0_narrow_p172 hG120 (oa_af h0 hA122) (oa_af h1 hA122) (rk_af hR hA122) (fun r T x y h => hP r T x y (pv_tr hA122 h (by decide) (fun v T e => (((congrArg (fun q9 => Z_X0_narrow_p172 R q9 o0 o1) hs127).trans hF.symm) ▸ e)))))
    · skip
      have h128 : Rg 1 1 (mI (sg S) 515 o1) := rg_eq_l (rg_all (mI (sg S) 515 o1)) (⟨by decide, by decide⟩ : Rg 1 1 1) q102
      refine tt_aload_n (j := 1) dX0_narrow_121 rfl ?_
      refine tt_iload (j := 0) dX0_narrow_122 rfl ?_
      refine tt_iload (j := 4) dX0_narrow_124 rfl ?_
      refine gt_Vv (As := [.int (x2 &&& 14), .int x4]) dX0_narrow_126 ca_X0_49 ⟨by decide, by decide⟩ h0 hA rfl (Nat.le_of_ble_eq_true rfl) (Nat.le_of_ble_eq_true rfl) (by decide) (cz_X0_narrowCompared hG (oa_af h0 hA) (rg_w h4) hR (fun _ _ _ _ h => h)) rfl (fun _ h => nomatch h) (fun S129 hx133 hG130 hB131 hA132 => ?_)
      obtain ⟨d134, hd135⟩ : ∃ q, Z_X0_narrowCompared R (sg S) o0 ((x2 &&& 14)) (x4) = q := ⟨_, rfl⟩
      have hq136 := (congrArg (fun q9 => Z_X0_narrowCompared R q9 o0 ((x2 &&& 14)) (x4)) (show sg S = (sg S) from rfl)).trans hd135
      have hs137 := hx133.trans hq136
      refine tt_goto (tgt := 172) dX0_narrow_129 rfl ?_
      have hF : Z_X0_narrow_p82 R (sg S) o0 o1 x2 x4 = Z_X0_narrow_p172 R d134 o0 o1 := by
        subst hd135
        exact zl_X0_narrow_p82_2 q101 q102
      exact tt_loc (ks := [1, 2]) rfl (cz_X0_narrow_p172 hG130 (oa_af h0 hA132) (oa_af h1 hA132) (rk_af hR hA132) (fun r T x y h => hP r T x y (pv_tr hA132 h (by decide) (fun v T e => (((congrArg (fun q9 => Z_X0_narrow_p172 R q9 o0 o1) hs137).trans hF.symm) ▸ e)))))
  · skip
    have h138 : Rg 4 4 (x2 &&& 14) := rg_eq_l (rg_and (x := x2) (⟨by decide, by decide⟩ : Rg 14 14 14)) (⟨by decide, by decide⟩ : Rg 4 4 4) q101
    refine tt_iload (j := 4) dX0_narrow_94 rfl ?_
    refine tt_if_eq (tgt := 106) dX0_narrow_96 rfl (fun q139 => ?_) (fun q139 => ?_)
    · skip
      have h140 : Rg 0 0 x4 := rg_eq_l h4 (⟨by decide, by decide⟩ : Rg 0 0 0) q139
      refine tt_aload_n (j := 1) dX0_narrow_106 rfl ?_
      refine gt_Vv (As := []) dX0_narrow_107 ca_X0_46 ⟨by decide, by decide⟩ h0 hA rfl (Nat.le_of_ble_eq_true rfl) (Nat.le_of_ble_eq_true rfl) (by decide) (cz_X0_becomeUnequal hG (oa_af h0 hA) hR (fun _ _ _ _ h => h)) rfl (fun _ h => nomatch h) (fun S141 hx145 hG142 hB143 hA144 => ?_)
      obtain ⟨d146, hd147⟩ : ∃ q, Z_X0_becomeUnequal R (sg S) o0 = q := ⟨_, rfl⟩
      have hq148 := (congrArg (fun q9 => Z_X0_becomeUnequal R q9 o0) (show sg S = (sg S) from rfl)).trans hd147
      have hs149 := hx145.trans hq148
      refine tt_goto (tgt := 172) dX0_narrow_110 rfl ?_
      have hF : Z_X0_narrow_p82 R (sg S) o0 o1 x2 x4 = Z_X0_narrow_p172 R d146 o0 o1 := by
        subst hd147
        exact zl_X0_narrow_p82_0 q101 q139
      exact tt_loc (ks := [1, 2]) rfl (cz_X0_narrow_p172 hG142 (oa_af h0 hA144) (oa_af h1 hA144) (rk_af hR hA144) (fun r T x y h => hP r T x y (pv_tr hA144 h (by decide) (fun v T e => (((congrArg (fun q9 => Z_X0_narrow_p172 R q9 o0 o1) hs149).trans hF.symm) ▸ e)))))
    · skip
      have h150 : Rg 1 1 x4 := rg_ne_lo h4 (⟨by decide, by decide⟩ : Rg 0 0 0) q139
      refine tt_aload_n (j := 1) dX0_narrow_99 rfl ?_
      refine gt_Vv (As := []) dX0_narrow_100 ca_X0_43 ⟨by decide, by decide⟩ h0 hA rfl (Nat.le_of_ble_eq_true rfl) (Nat.le_of_ble_eq_true rfl) (by decide) (cz_X0_becomeEqual hG (oa_af h0 hA) hR (fun _ _ _ _ h => h)) rfl (fun _ h => nomatch h) (fun S151 hx155 hG152 hB153 hA154 => ?_)
      obtain ⟨d156, hd157⟩ : ∃ q, Z_X0_becomeEqual R (sg S) o0 = q := ⟨_, rfl⟩
      have hq158 := (congrArg (fun q9 => Z_X0_becomeEqual R q9 o0) (show sg S = (sg S) from rfl)).trans hd157
      have hs159 := hx155.trans hq158
      refine tt_goto (tgt := 172) dX0_narrow_103 rfl ?_
      have hF : Z_X0_narrow_p82 R (sg S) o0 o1 x2 x4 = Z_X0_narrow_p172 R d156 o0 o1 := by
        subst hd157
        exact zl_X0_narrow_p82_1 q101 q139
      exact tt_loc (ks := [1, 2]) rfl (cz_X0_narrow_p172 hG152 (oa_af h0 hA154) (oa_af h1 hA154) (rk_af hR hA154) (fun r T x y h => hP r T x y (pv_tr hA154 h (by decide) (fun v T e => (((congrArg (fun q9 => Z_X0_narrow_p172 R q9 o0 o1) hs159).trans hF.symm) ▸ e)))))
def Z_X0_narrow_p60 (R : Nat → Nat → Nat) (σ : SG) (o0 : Nat) (o1 : Nat) (x2 : Int32) (x3 : Int32) : SG × Int32 :=
  if (x2 &&& 1) = 0 then
    if x3 = 1 then
      Z_X0_narrow_p82 R σ o0 o1 (x2) (1)
    else
      Z_X0_narrow_p82 R σ o0 o1 (x2) (0)
  else
    if x3 = 0 then
      Z_X0_narrow_p82 R σ o0 o1 (x2) (1)
    else
      Z_X0_narrow_p82 R σ o0 o1 (x2) (0)
theorem zl_X0_narrow_p60_0 {R : Nat → Nat → Nat} {σ : SG} {o0 : Nat} {o1 : Nat} {x2 : Int32} {x3 : Int32} (h0 : (x2 &&& 1) = 0) (h1 : x3 = 1) : Z_X0_narrow_p60 R σ o0 o1 x2 x3 = Z_X0_narrow_p82 R σ o0 o1 (x2) (1) := by unfold Z_X0_narrow_p60; exact Eq.trans (if_pos h0) (if_pos h1)
theorem zl_X0_narrow_p60_1 {R : Nat → Nat → Nat} {σ : SG} {o0 : Nat} {o1 : Nat} {x2 : Int32} {x3 : Int32} (h0 : (x2 &&& 1) = 0) (h1 : ¬ x3 = 1) : Z_X0_narrow_p60 R σ o0 o1 x2 x3 = Z_X0_narrow_p82 R σ o0 o1 (x2) (0) := by unfold Z_X0_narrow_p60; exact Eq.trans (if_pos h0) (if_neg h1)
theorem zl_X0_narrow_p60_2 {R : Nat → Nat → Nat} {σ : SG} {o0 : Nat} {o1 : Nat} {x2 : Int32} {x3 : Int32} (h0 : ¬ (x2 &&& 1) = 0) (h1 : x3 = 0) : Z_X0_narrow_p60 R σ o0 o1 x2 x3 = Z_X0_narrow_p82 R σ o0 o1 (x2) (1) := by unfold Z_X0_narrow_p60; exact Eq.trans (if_neg h0) (if_pos h1)
theorem zl_X0_narrow_p60_3 {R : Nat → Nat → Nat} {σ : SG} {o0 : Nat} {o1 : Nat} {x2 : Int32} {x3 : Int32} (h0 : ¬ (x2 &&& 1) = 0) (h1 : ¬ x3 = 0) : Z_X0_narrow_p60 R σ o0 o1 x2 x3 = Z_X0_narrow_p82 R σ o0 o1 (x2) (0) := by unfold Z_X0_narrow_p60; exact Eq.trans (if_neg h0) (if_neg h1)
set_option maxHeartbeats 40000000 in
theorem cz_X0_narrow_p60 {xi : SX} {S : Hp} {E : List Nat} {kc nc : Nat} {P : Po} {o0 : Nat} {o1 : Nat} {x2 : Int32} {x3 : Int32} {R : Nat → Nat → Nat} (hG : GI S E) (h0 : Oa S E 0 0 o0) (h1 : Oa S E 8 0 o1) (h3 : Rg 0 1 x3) (hR : RK S R) (hP : ∀ r T x y, PV E [9987, 9994] S kc nc (rI 0 1) (fun v T => v = some (.int (Z_X0_narrow_p60 R (sg S) o0 o1 x2 x3).2) ∧ sg T = (Z_X0_narrow_p60 R (sg S) o0 o1 x2 x3).1) [] r T x y → P r T x y) : TT xi M_X0_narrow 60 [(0, .ref o0), (1, .ref o1), (2, .int x2), (3, .int x3)] [] S kc nc P := by
  have hA : Af E [9987, 9994] S S := af_rf
  refine tt_iload_n (j := 3) dX0_narrow_60 rfl ?_
  refine tt_iload_n (j := 2) dX0_narrow_61 rfl ?_
  refine tt_iconst (v := 1) dX0_narrow_62 rfl ?_
  refine tt_iand dX0_narrow_63 ?_
  refine tt_if_ne (tgt := 71) dX0_narrow_64 rfl (fun q101 => ?_) (fun q101 => ?_)
  · skip
    have h102 : Rg 1 1 (x2 &&& 1) := rg_ne_lo (rg_and (x := x2) (⟨by decide, by decide⟩ : Rg 1 1 1)) (⟨by decide, by decide⟩ : Rg 0 0 0) q101
    refine tt_iconst (v := 0) dX0_narrow_71 rfl ?_
    refine tt_icmp_ne (tgt := 79) dX0_narrow_72 rfl (fun q103 => ?_) (fun q103 => ?_)
    · skip
      have h104 : Rg 1 1 x3 := rg_ne_lo h3 (⟨by decide, by decide⟩ : Rg 0 0 0) q103
      refine tt_iconst (v := 0) dX0_narrow_79 rfl ?_
      refine tt_istore (ks := [0, 1, 2, 3, 4]) (L' := [(4, .int 0), (0, .ref o0), (1, .ref o1), (2, .int x2), (3, .int x3)]) dX0_narrow_80 (by decide) rfl ?_
      have hF : Z_X0_narrow_p60 R (sg S) o0 o1 x2 x3 = Z_X0_narrow_p82 R (sg S) o0 o1 (x2) (0) := by
        exact zl_X0_narrow_p60_3 q101 q103
      exact tt_loc (ks := [1, 2, 3, 0]) rfl (cz_X0_narrow_p82 hG (oa_af h0 hA) (oa_af h1 hA) (rg_w (⟨by decide, by decide⟩ : Rg 0 0 0)) hR (fun r T x y h => hP r T x y (pv_tr hA h (by decide) (fun v T e => (((congrArg (fun q9 => Z_X0_narrow_p82 R q9 o0 o1 (x2) (0)) (show sg S = (sg S) from rfl)).trans hF.symm) ▸ e)))))
    · skip
      have h105 : Rg 0 0 x3 := rg_eq_l h3 (⟨by decide, by decide⟩ : Rg 0 0 0) q103
      refine tt_iconst (v := 1) dX0_narrow_75 rfl ?_
      refine tt_goto (tgt := 80) dX0_narrow_76 rfl ?_
      refine tt_istore (ks := [0, 1, 2, 3, 4]) (L' := [(4, .int 1), (0, .ref o0), (1, .ref o1), (2, .int x2), (3, .int x3)]) dX0_narrow_80 (by decide) rfl ?_
      have hF : Z_X0_narrow_p60 R (sg S) o0 o1 x2 x3 = Z_X0_narrow_p82 R (sg S) o0 o1 (x2) (1) := by
        exact zl_X0_narrow_p60_2 q101 q103
      exact tt_loc (ks := [1, 2, 3, 0]) rfl (cz_X0_narrow_p82 hG (oa_af h0 hA) (oa_af h1 hA) (rg_w (⟨by decide, by decide⟩ : Rg 1 1 1)) hR (fun r T x y h => hP r T x y (pv_tr hA h (by decide) (fun v T e => (((congrArg (fun q9 => Z_X0_narrow_p82 R q9 o0 o1 (x2) (1)) (show sg S = (sg S) from rfl)).trans hF.symm) ▸ e)))))
  · skip
    have h106 : Rg 0 0 (x2 &&& 1) := rg_eq_l (rg_and (x := x2) (⟨by decide, by decide⟩ : Rg 1 1 1)) (⟨by decide, by decide⟩ : Rg 0 0 0) q101
    refine tt_iconst (v := 1) dX0_narrow_67 rfl ?_
    refine tt_goto (tgt := 72) dX0_narrow_68 rfl ?_
    refine tt_icmp_ne (tgt := 79) dX0_narrow_72 rfl (fun q107 => ?_) (fun q107 => ?_)
    · skip
      have h108 : Rg 0 0 x3 := rg_ne_hi h3 (⟨by decide, by decide⟩ : Rg 1 1 1) q107
      refine tt_iconst (v := 0) dX0_narrow_79 rfl ?_
      refine tt_istore (ks := [0, 1, 2, 3, 4]) (L' := [(4, .int 0), (0, .ref o0), (1, .ref o1), (2, .int x2), (3, .int x3)]) dX0_narrow_80 (by decide) rfl ?_
      have hF : Z_X0_narrow_p60 R (sg S) o0 o1 x2 x3 = Z_X0_narrow_p82 R (sg S) o0 o1 (x2) (0) := by
        exact zl_X0_narrow_p60_1 q101 q107
      exact tt_loc (ks := [1, 2, 3, 0]) rfl (cz_X0_narrow_p82 hG (oa_af h0 hA) (oa_af h1 hA) (rg_w (⟨by decide, by decide⟩ : Rg 0 0 0)) hR (fun r T x y h => hP r T x y (pv_tr hA h (by decide) (fun v T e => (((congrArg (fun q9 => Z_X0_narrow_p82 R q9 o0 o1 (x2) (0)) (show sg S = (sg S) from rfl)).trans hF.symm) ▸ e)))))
    · skip
      have h109 : Rg 1 1 x3 := rg_eq_l h3 (⟨by decide, by decide⟩ : Rg 1 1 1) q107
      refine tt_iconst (v := 1) dX0_narrow_75 rfl ?_
      refine tt_goto (tgt := 80) dX0_narrow_76 rfl ?_
      refine tt_istore (ks := [0, 1, 2, 3, 4]) (L' := [(4, .int 1), (0, .ref o0), (1, .ref o1), (2, .int x2), (3, .int x3)]) dX0_narrow_80 (by decide) rfl ?_
      have hF : Z_X0_narrow_p60 R (sg S) o0 o1 x2 x3 = Z_X0_narrow_p82 R (sg S) o0 o1 (x2) (1) := by
        exact zl_X0_narrow_p60_0 q101 q107
      exact tt_loc (ks := [1, 2, 3, 0]) rfl (cz_X0_narrow_p82 hG (oa_af h0 hA) (oa_af h1 hA) (rg_w (⟨by decide, by decide⟩ : Rg 1 1 1)) hR (fun r T x y h => hP r T x y (pv_tr hA h (by decide) (fun v T e => (((congrArg (fun q9 => Z_X0_narrow_p82 R q9 o0 o1 (x2) (1)) (show sg S = (sg S) from rfl)).trans hF.symm) ▸ e)))))
def Z_X0_narrow (R : Nat → Nat → Nat) (σ : SG) (o0 : Nat) (o1 : Nat) (x2 : Int32) (x3 : Int32) : SG × Int32 :=
  if (mI σ 515 o1) = 0 then
    (σ, 1)
  else
    let d109 := Z_X8_load R σ o1 ((mI σ 516 o1)) (R 0 o0)
    if (mI σ 517 o1) = (-1) then
      let d122 := Z_X7_become R d109 (R 1 o0) ((mJ d109 518 o1)) ((mJ d109 518 o1)) (0)
      Z_X0_narrow_p60 R d122 o0 o1 (x2) (x3)
    else
      let d133 := Z_X8_load R d109 o1 ((mI σ 517 o1)) (R 1 o0)
      Z_X0_narrow_p60 R d133 o0 o1 (x2) (x3)
theorem zl_X0_narrow_0 {R : Nat → Nat → Nat} {σ : SG} {o0 : Nat} {o1 : Nat} {x2 : Int32} {x3 : Int32} (h0 : (mI σ 515 o1) = 0) : Z_X0_narrow R σ o0 o1 x2 x3 = (σ, 1) := by unfold Z_X0_narrow; exact if_pos h0
theorem zl_X0_narrow_1 {R : Nat → Nat → Nat} {σ : SG} {o0 : Nat} {o1 : Nat} {x2 : Int32} {x3 : Int32} (h0 : ¬ (mI σ 515 o1) = 0) (h1 : (mI σ 517 o1) = (-1)) : Z_X0_narrow R σ o0 o1 x2 x3 = Z_X0_narrow_p60 R (Z_X7_become R (Z_X8_load R σ o1 ((mI σ 516 o1)) (R 0 o0)) (R 1 o0) ((mJ (Z_X8_load R σ o1 ((mI σ 516 o1)) (R 0 o0)) 518 o1)) ((mJ (Z_X8_load R σ o1 ((mI σ 516 o1)) (R 0 o0)) 518 o1)) (0)) o0 o1 (x2) (x3) := by unfold Z_X0_narrow; exact Eq.trans (if_neg h0) (if_pos h1)
theorem zl_X0_narrow_2 {R : Nat → Nat → Nat} {σ : SG} {o0 : Nat} {o1 : Nat} {x2 : Int32} {x3 : Int32} (h0 : ¬ (mI σ 515 o1) = 0) (h1 : ¬ (mI σ 517 o1) = (-1)) : Z_X0_narrow R σ o0 o1 x2 x3 = Z_X0_narrow_p60 R (Z_X8_load R (Z_X8_load R σ o1 ((mI σ 516 o1)) (R 0 o0)) o1 ((mI σ 517 o1)) (R 1 o0)) o0 o1 (x2) (x3) := by unfold Z_X0_narrow; exact Eq.trans (if_neg h0) (if_neg h1)
set_option maxHeartbeats 40000000 in
theorem cz_X0_narrow {xi : SX} {S : Hp} {E : List Nat} {kc nc : Nat} {P : Po} {o0 : Nat} {o1 : Nat} {x2 : Int32} {x3 : Int32} {R : Nat → Nat → Nat} (hG : GI S E) (h0 : Oa S E 0 0 o0) (h1 : Oa S E 8 0 o1) (h3 : Rg 0 1 x3) (hR : RK S R) (hP : ∀ r T x y, PV E [9987, 9994] S kc nc (rI 0 1) (fun v T => v = some (.int (Z_X0_narrow R (sg S) o0 o1 x2 x3).2) ∧ sg T = (Z_X0_narrow R (sg S) o0 o1 x2 x3).1) [] r T x y → P r T x y) : TT xi M_X0_narrow 0 [(0, .ref o0), (1, .ref o1), (2, .int x2), (3, .int x3)] [] S kc nc P := by
  have hA : Af E [9987, 9994] S S := af_rf
  refine tt_aload_n (j := 1) dX0_narrow_0 rfl ?_
  refine gt_gI (id := 515) (v := (mI (sg S) 515 o1)) dX0_narrow_1 fl_0_21 rfl rfl h1 hA (sg_I (k := 515) (o := o1) (show sg S = (sg S) from rfl)) ?_
  refine tt_if_ne (tgt := 9) dX0_narrow_4 rfl (fun q101 => ?_) (fun q101 => ?_)
  · skip
    refine tt_aload_n (j := 1) dX0_narrow_9 rfl ?_
    refine tt_aload_n (j := 1) dX0_narrow_10 rfl ?_
    refine gt_gI (id := 516) (v := (mI (sg S) 516 o1)) dX0_narrow_11 fl_0_27 rfl rfl h1 hA (sg_I (k := 516) (o := o1) (show sg S = (sg S) from rfl)) ?_
    refine tt_aload_n (j := 0) dX0_narrow_14 rfl ?_
    have hr102 := rk_R (k := 0) hR h0 7 0
    have ho103 := rk_O (k := 0) hG hR h0 7 0
    refine gt_gR (id := 0) dX0_narrow_15 fl_0_14 rfl rfl h0 hA hr102 ?_
    refine gt_Vv (As := [.int (mI (sg S) 516 o1), .ref (R 0 o0)]) dX0_narrow_18 ca_X0_29 ⟨by decide, by decide⟩ h1 hA rfl (Nat.le_of_ble_eq_true rfl) (Nat.le_of_ble_eq_true rfl) (by decide) (cz_X8_load hG (oa_af h1 hA) (oa_af ho103 hA) hR (fun _ _ _ _ h => h)) rfl (fun _ h => nomatch h) (fun S104 hx108 hG105 hB106 hA107 => ?_)
    obtain ⟨d109, hd110⟩ : ∃ q, Z_X8_load R (sg S) o1 ((mI (sg S) 516 o1)) (R 0 o0) = q := ⟨_, rfl⟩
    have hq111 := (congrArg (fun q9 => Z_X8_load R q9 o1 ((mI (sg S) 516 o1)) (R 0 o0)) (show sg S = (sg S) from rfl)).trans hd110
    have hs112 := hx108.trans hq111
    refine tt_aload_n (j := 1) dX0_narrow_21 rfl ?_
    refine gt_gI (id := 517) (v := (mI (sg S) 517 o1)) dX0_narrow_22 fl_0_33 rfl rfl h1 hA107 (show hp_I S104 517 o1 = mI (sg S) 517 o1 from i_af (k := 517) h1 hA107) ?_
    refine tt_iconst (v := (-1)) dX0_narrow_25 rfl ?_
    refine tt_icmp_eq (tgt := 44) dX0_narrow_26 rfl (fun q113 => ?_) (fun q113 => ?_)
    · skip
      have h114 : Rg (-1) (-1) (mI (sg S) 517 o1) := rg_eq_l (rg_all (mI (sg S) 517 o1)) (⟨by decide, by decide⟩ : Rg (-1) (-1) (-1)) q113
      refine tt_aload_n (j := 0) dX0_narrow_44 rfl ?_
      have hr115 := rk_R (k := 1) hR h0 7 0
      have ho116 := rk_O (k := 1) hG hR h0 7 0
      refine gt_gR (id := 1) dX0_narrow_45 fl_0_18 rfl rfl h0 hA107 hr115 ?_
      refine tt_aload_n (j := 1) dX0_narrow_48 rfl ?_
      refine gt_gJ (id := 518) (v := (mJ d109 518 o1)) dX0_narrow_49 fl_0_35 rfl rfl h1 hA107 (sg_J (k := 518) (o := o1) hs112) ?_
      refine tt_aload_n (j := 1) dX0_narrow_52 rfl ?_
      refine gt_gJ (id := 518) (v := (mJ d109 518 o1)) dX0_narrow_53 fl_0_35 rfl rfl h1 hA107 (sg_J (k := 518) (o := o1) hs112) ?_
      refine tt_lconst (v := 0) dX0_narrow_56 rfl ?_
      refine gt_Vv (As := [.long (mJ d109 518 o1), .long (mJ d109 518 o1), .long 0]) dX0_narrow_57 ca_X0_39 ⟨by decide, by decide⟩ ho116 hA107 rfl (Nat.le_of_ble_eq_true rfl) (Nat.le_of_ble_eq_true rfl) (by decide) (cz_X7_become hG105 (oa_af ho116 hA107) (rk_af hR hA107) (fun _ _ _ _ h => h)) rfl (fun _ h => nomatch h) (fun S117 hx121 hG118 hB119 hA120 => ?_)
      obtain ⟨d122, hd123⟩ : ∃ q, Z_X7_become R d109 (R 1 o0) ((mJ d109 518 o1)) ((mJ d109 518 o1)) (0) = q := ⟨_, rfl⟩
      have hq124 := (congrArg (fun q9 => Z_X7_become R q9 (R 1 o0) ((mJ d109 518 o1)) ((mJ d109 518 o1)) (0)) hs112).trans hd123
      have hs125 := hx121.trans hq124
      have hF : Z_X0_narrow R (sg S) o0 o1 x2 x3 = Z_X0_narrow_p60 R d122 o0 o1 (x2) (x3) := by
        subst hd123
        subst hd110
        exact zl_X0_narrow_1 q101 q113
      exact tt_loc (ks := [0, 1, 2, 3]) rfl (cz_X0_narrow_p60 hG118 (oa_af h0 hA120) (oa_af h1 hA120) (rg_w h3) (rk_af hR hA120) (fun r T x y h => hP r T x y (pv_tr hA120 h (by decide) (fun v T e => (((congrArg (fun q9 => Z_X0_narrow_p60 R q9 o0 o1 (x2) (x3)) hs125).trans hF.symm) ▸ e)))))
    · skip
      refine tt_aload_n (j := 1) dX0_narrow_29 rfl ?_
      refine tt_aload_n (j := 1) dX0_narrow_30 rfl ?_
      refine gt_gI (id := 517) (v := (mI (sg S) 517 o1)) dX0_narrow_31 fl_0_33 rfl rfl h1 hA107 (show hp_I S104 517 o1 = mI (sg S) 517 o1 from i_af (k := 517) h1 hA107) ?_
      refine tt_aload_n (j := 0) dX0_narrow_34 rfl ?_
      have hr126 := rk_R (k := 1) hR h0 7 0
      have ho127 := rk_O (k := 1) hG hR h0 7 0
      refine gt_gR (id := 1) dX0_narrow_35 fl_0_18 rfl rfl h0 hA107 hr126 ?_
      refine gt_Vv (As := [.int (mI (sg S) 517 o1), .ref (R 1 o0)]) dX0_narrow_38 ca_X0_29 ⟨by decide, by decide⟩ h1 hA107 rfl (Nat.le_of_ble_eq_true rfl) (Nat.le_of_ble_eq_true rfl) (by decide) (cz_X8_load hG105 (oa_af h1 hA107) (oa_af ho127 hA107) (rk_af hR hA107) (fun _ _ _ _ h => h)) rfl (fun _ h => nomatch h) (fun S128 hx132 hG129 hB130 hA131 => ?_)
      obtain ⟨d133, hd134⟩ : ∃ q, Z_X8_load R d109 o1 ((mI (sg S) 517 o1)) (R 1 o0) = q := ⟨_, rfl⟩
      have hq135 := (congrArg (fun q9 => Z_X8_load R q9 o1 ((mI (sg S) 517 o1)) (R 1 o0)) hs112).trans hd134
      have hs136 := hx132.trans hq135
      refine tt_goto (tgt := 60) dX0_narrow_41 rfl ?_
      have hF : Z_X0_narrow R (sg S) o0 o1 x2 x3 = Z_X0_narrow_p60 R d133 o0 o1 (x2) (x3) := by
        subst hd134
        subst hd110
        exact zl_X0_narrow_2 q101 q113
      exact tt_loc (ks := [0, 1, 2, 3]) rfl (cz_X0_narrow_p60 hG129 (oa_af h0 hA131) (oa_af h1 hA131) (rg_w h3) (rk_af hR hA131) (fun r T x y h => hP r T x y (pv_tr hA131 h (by decide) (fun v T e => (((congrArg (fun q9 => Z_X0_narrow_p60 R q9 o0 o1 (x2) (x3)) hs136).trans hF.symm) ▸ e)))))
  · skip
    have h137 : Rg 0 0 (mI (sg S) 515 o1) := rg_eq_l (rg_all (mI (sg S) 515 o1)) (⟨by decide, by decide⟩ : Rg 0 0 0) q101
    refine tt_iconst (v := 1) dX0_narrow_7 rfl ?_
    have hF : Z_X0_narrow R (sg S) o0 o1 x2 x3 = ((sg S), 1) := by
      exact zl_X0_narrow_0 q101
    exact tt_ireturn dX0_narrow_8 .boolean rfl rfl (hP _ _ _ _ ⟨hG, hA, Or.inl ⟨_, rfl, ⟨_, rfl, rg_w (⟨by decide, by decide⟩ : Rg 1 1 1)⟩, ⟨congrArg (fun q => some (Value.int q.2)) hF.symm, Eq.trans (show sg S = (sg S) from rfl) (congrArg Prod.fst hF).symm⟩, rfl, rfl⟩⟩)
def Z_X4_absorb_p153 (R : Nat → Nat → Nat) (σ : SG) (o0 : Nat) (o1 : Nat) (x3 : Int32) : SG × Int32 :=
  if (mI σ 515 o1) = 0 then
    (σ, x3)
  else
    if (Z_X8_isSameRecord R σ o1 (R 259 o0)) = 0 then
      let d116 := Z_X8_dropRecord R σ o1
      (d116, 1)
    else
      (σ, x3)
theorem zl_X4_absorb_p153_0 {R : Nat → Nat → Nat} {σ : SG} {o0 : Nat} {o1 : Nat} {x3 : Int32} (h0 : (mI σ 515 o1) = 0) : Z_X4_absorb_p153 R σ o0 o1 x3 = (σ, x3) := by unfold Z_X4_absorb_p153; exact if_pos h0
theorem zl_X4_absorb_p153_1 {R : Nat → Nat → Nat} {σ : SG} {o0 : Nat} {o1 : Nat} {x3 : Int32} (h0 : ¬ (mI σ 515 o1) = 0) (h1 : (Z_X8_isSameRecord R σ o1 (R 259 o0)) = 0) : Z_X4_absorb_p153 R σ o0 o1 x3 = ((Z_X8_dropRecord R σ o1), 1) := by unfold Z_X4_absorb_p153; exact Eq.trans (if_neg h0) (if_pos h1)
theorem zl_X4_absorb_p153_2 {R : Nat → Nat → Nat} {σ : SG} {o0 : Nat} {o1 : Nat} {x3 : Int32} (h0 : ¬ (mI σ 515 o1) = 0) (h1 : ¬ (Z_X8_isSameRecord R σ o1 (R 259 o0)) = 0) : Z_X4_absorb_p153 R σ o0 o1 x3 = (σ, x3) := by unfold Z_X4_absorb_p153; exact Eq.trans (if_neg h0) (if_neg h1)
set_option maxHeartbeats 40000000 in
theorem cz_X4_absorb_p153 {xi : SX} {S : Hp} {E : List Nat} {kc nc : Nat} {P : Po} {o0 : Nat} {o1 : Nat} {x3 : Int32} {R : Nat → Nat → Nat} (hG : GI S E) (h0 : Oa S E 4 0 o0) (h1 : Oa S E 8 0 o1) (h3 : Rg 0 1 x3) (hR : RK S R) (hP : ∀ r T x y, PV E [515, 516, 517, 9987] S kc nc (rI 0 1) (fun v T => v = some (.int (Z_X4_absorb_p153 R (sg S) o0 o1 x3).2) ∧ sg T = (Z_X4_absorb_p153 R (sg S) o0 o1 x3).1) [] r T x y → P r T x y) : TT xi M_X4_absorb 153 [(0, .ref o0), (1, .ref o1), (3, .int x3)] [] S kc nc P := by
  have hA : Af E [515, 516, 517, 9987] S S := af_rf
  refine tt_aload_n (j := 1) dX4_absorb_153 rfl ?_
  refine gt_gI (id := 515) (v := (mI (sg S) 515 o1)) dX4_absorb_154 fl_4_166 rfl rfl h1 hA (sg_I (k := 515) (o := o1) (show sg S = (sg S) from rfl)) ?_
  refine tt_if_eq (tgt := 177) dX4_absorb_157 rfl (fun q101 => ?_) (fun q101 => ?_)
  · skip
    have h102 : Rg 0 0 (mI (sg S) 515 o1) := rg_eq_l (rg_all (mI (sg S) 515 o1)) (⟨by decide, by decide⟩ : Rg 0 0 0) q101
    refine tt_iload_n (j := 2) dX4_absorb_177 rfl ?_
    have hF : Z_X4_absorb_p153 R (sg S) o0 o1 x3 = ((sg S), x3) := by
      exact zl_X4_absorb_p153_0 q101
    exact tt_ireturn dX4_absorb_178 .boolean rfl (rg_nar (rg_w h3)) (hP _ _ _ _ ⟨hG, hA, Or.inl ⟨_, rfl, ⟨_, rfl, rg_w h3⟩, ⟨congrArg (fun q => some (Value.int q.2)) hF.symm, Eq.trans (show sg S = (sg S) from rfl) (congrArg Prod.fst hF).symm⟩, rfl, rfl⟩⟩)
  · skip
    refine tt_aload_n (j := 1) dX4_absorb_160 rfl ?_
    refine tt_aload_n (j := 0) dX4_absorb_161 rfl ?_
    have hr103 := rk_R (k := 259) hR h0 8 0
    have ho104 := rk_O (k := 259) hG hR h0 8 0
    refine gt_gR (id := 259) dX4_absorb_162 fl_4_20 rfl rfl h0 hA hr103 ?_
    refine gt_VIp (As := [.ref (R 259 o0)]) dX4_absorb_165 ca_X4_169 ⟨by decide, by decide⟩ h1 hA rfl (Nat.le_of_ble_eq_true rfl) (Nat.le_of_ble_eq_true rfl) (by decide) (cz_X8_isSameRecord hG (oa_af h1 hA) (oa_af ho104 hA) hR (fun _ _ _ _ h => h)) rfl (fun _ h => nomatch h) (fun _ _ q => q.1) (fun x105 h106 hx107 => ?_)
    obtain rfl : Z_X8_isSameRecord R (sg S) o1 (R 259 o0) = x105 := ((ei_w hx107.2).trans (congrArg (fun q9 => Z_X8_isSameRecord R q9 o1 (R 259 o0)) (show sg S = (sg S) from rfl))).symm
    refine tt_if_ne (tgt := 177) dX4_absorb_168 rfl (fun q108 => ?_) (fun q108 => ?_)
    · skip
      have h109 : Rg 1 1 (Z_X8_isSameRecord R (sg S) o1 (R 259 o0)) := rg_ne_lo h106 (⟨by decide, by decide⟩ : Rg 0 0 0) q108
      refine tt_iload_n (j := 2) dX4_absorb_177 rfl ?_
      have hF : Z_X4_absorb_p153 R (sg S) o0 o1 x3 = ((sg S), x3) := by
        exact zl_X4_absorb_p153_2 q101 q108
      exact tt_ireturn dX4_absorb_178 .boolean rfl (rg_nar (rg_w h3)) (hP _ _ _ _ ⟨hG, hA, Or.inl ⟨_, rfl, ⟨_, rfl, rg_w h3⟩, ⟨congrArg (fun q => some (Value.int q.2)) hF.symm, Eq.trans (show sg S = (sg S) from rfl) (congrArg Prod.fst hF).symm⟩, rfl, rfl⟩⟩)
    · skip
      have h110 : Rg 0 0 (Z_X8_isSameRecord R (sg S) o1 (R 259 o0)) := rg_eq_l h106 (⟨by decide, by decide⟩ : Rg 0 0 0) q108
      refine tt_aload_n (j := 1) dX4_absorb_171 rfl ?_
      refine gt_Vv (As := []) dX4_absorb_172 ca_X4_173 ⟨by decide, by decide⟩ h1 hA rfl (Nat.le_of_ble_eq_true rfl) (Nat.le_of_ble_eq_true rfl) (by decide) (cz_X8_dropRecord hG (oa_af h1 hA) hR (fun _ _ _ _ h => h)) rfl (fun _ h => nomatch h) (fun S111 hx115 hG112 hB113 hA114 => ?_)
      obtain ⟨d116, hd117⟩ : ∃ q, Z_X8_dropRecord R (sg S) o1 = q := ⟨_, rfl⟩
      have hq118 := (congrArg (fun q9 => Z_X8_dropRecord R q9 o1) (show sg S = (sg S) from rfl)).trans hd117
      have hs119 := hx115.trans hq118
      refine tt_iconst (v := 1) dX4_absorb_175 rfl ?_
      refine tt_istore_n (ks := [0, 1, 2]) (L' := [(3, .int 1), (0, .ref o0), (1, .ref o1)]) dX4_absorb_176 (by decide) rfl ?_
      refine tt_iload_n (j := 0) dX4_absorb_177 rfl ?_
      have hF : Z_X4_absorb_p153 R (sg S) o0 o1 x3 = (d116, 1) := by
        subst hd117
        exact zl_X4_absorb_p153_1 q101 q108
      exact tt_ireturn dX4_absorb_178 .boolean rfl rfl (hP _ _ _ _ ⟨hG112, hA114, Or.inl ⟨_, rfl, ⟨_, rfl, rg_w (⟨by decide, by decide⟩ : Rg 1 1 1)⟩, ⟨congrArg (fun q => some (Value.int q.2)) hF.symm, Eq.trans hs119 (congrArg Prod.fst hF).symm⟩, rfl, rfl⟩⟩)
def Z_X4_absorb_p5_b (f : (Nat → Nat → Nat) → SG → Nat → Nat → Int32 → Int32 → Int32 → SG × Int32) (R : Nat → Nat → Nat) (σ : SG) (o0 : Nat) (o1 : Nat) (x2 : Int32) (x3 : Int32) (x4 : Int32) : SG × Int32 :=
  if 24 ≤ x4 then
    Z_X4_absorb_p153 R σ o0 o1 (x3)
  else
    if (Z_X8_isSameSpan R σ o1 (R 259 o0) (x4)) = 0 then
      let d118 := Z_X8_load R σ o1 (x4) (R 262 o0)
      let d129 := Z_X8_load R d118 (R 259 o0) (x4) (R 263 o0)
      let d140 := Z_X7_join R d129 (R 264 o0) (R 262 o0) (R 263 o0)
      if x2 = 0 then
        let d151 := Z_X8_store R d140 o1 (x4) (R 264 o0)
        if (mJ d151 448 (R 264 o0)) = (mJ d151 448 (R 262 o0)) then
          if (mJ d151 449 (R 264 o0)) = (mJ d151 449 (R 262 o0)) then
            if (mJ d151 450 (R 264 o0)) = (mJ d151 450 (R 262 o0)) then
              f R d151 o0 o1 (x2) (x3) ((x4 + 1))
            else
              f R d151 o0 o1 (x2) (1) ((x4 + 1))
          else
            f R d151 o0 o1 (x2) (1) ((x4 + 1))
        else
          f R d151 o0 o1 (x2) (1) ((x4 + 1))
      else
        let d164 := Z_X7_stretchFrom R d140 (R 264 o0) (R 262 o0)
        let d173 := Z_X8_store R d164 o1 (x4) (R 264 o0)
        if (mJ d173 448 (R 264 o0)) = (mJ d173 448 (R 262 o0)) then
          if (mJ d173 449 (R 264 o0)) = (mJ d173 449 (R 262 o0)) then
            if (mJ d173 450 (R 264 o0)) = (mJ d173 450 (R 262 o0)) then
              f R d173 o0 o1 (x2) (x3) ((x4 + 1))
            else
              f R d173 o0 o1 (x2) (1) ((x4 + 1))
          else
            f R d173 o0 o1 (x2) (1) ((x4 + 1))
        else
          f R d173 o0 o1 (x2) (1) ((x4 + 1))
    else
      f R σ o0 o1 (x2) (x3) ((x4 + 1))
def Z_X4_absorb_p5 : Nat → (Nat → Nat → Nat) → SG → Nat → Nat → Int32 → Int32 → Int32 → SG × Int32
  | 0 => fun R σ o0 o1 x2 x3 x4 => (σ, 0)
  | n + 1 => Z_X4_absorb_p5_b (Z_X4_absorb_p5 n)
theorem zl_X4_absorb_p5_0 {f : (Nat → Nat → Nat) → SG → Nat → Nat → Int32 → Int32 → Int32 → SG × Int32} {R : Nat → Nat → Nat} {σ : SG} {o0 : Nat} {o1 : Nat} {x2 : Int32} {x3 : Int32} {x4 : Int32} (h0 : 24 ≤ x4) : Z_X4_absorb_p5_b f R σ o0 o1 x2 x3 x4 = Z_X4_absorb_p153 R σ o0 o1 (x3) := by unfold Z_X4_absorb_p5_b; exact if_pos h0
theorem zl_X4_absorb_p5_1 {f : (Nat → Nat → Nat) → SG → Nat → Nat → Int32 → Int32 → Int32 → SG × Int32} {R : Nat → Nat → Nat} {σ : SG} {o0 : Nat} {o1 : Nat} {x2 : Int32} {x3 : Int32} {x4 : Int32} (h0 : ¬ 24 ≤ x4) (h1 : (Z_X8_isSameSpan R σ o1 (R 259 o0) (x4)) = 0) (h2 : x2 = 0) (h3 : (mJ (Z_X8_store R (Z_X7_join R (Z_X8_load R (Z_X8_load R σ o1 (x4) (R 262 o0)) (R 259 o0) (x4) (R 263 o0)) (R 264 o0) (R 262 o0) (R 263 o0)) o1 (x4) (R 264 o0)) 448 (R 264 o0)) = (mJ (Z_X8_store R (Z_X7_join R (Z_X8_load R (Z_X8_load R σ o1 (x4) (R 262 o0)) (R 259 o0) (x4) (R 263 o0)) (R 264 o0) (R 262 o0) (R 263 o0)) o1 (x4) (R 264 o0)) 448 (R 262 o0))) (h4 : (mJ (Z_X8_store R (Z_X7_join R (Z_X8_load R (Z_X8_load R σ o1 (x4) (R 262 o0)) (R 259 o0) (x4) (R 263 o0)) (R 264 o0) (R 262 o0) (R 263 o0)) o1 (x4) (R 264 o0)) 449 (R 264 o0)) = (mJ (Z_X8_store R (Z_X7_join R (Z_X8_load R (Z_X8_load R σ o1 (x4) (R 262 o0)) (R 259 o0) (x4) (R 263 o0)) (R 264 o0) (R 262 o0) (R 263 o0)) o1 (x4) (R 264 o0)) 449 (R 262 o0))) (h5 : (mJ (Z_X8_store R (Z_X7_join R (Z_X8_load R (Z_X8_load R σ o1 (x4) (R 262 o0)) (R 259 o0) (x4) (R 263 o0)) (R 264 o0) (R 262 o0) (R 263 o0)) o1 (x4) (R 264 o0)) 450 (R 264 o0)) = (mJ (Z_X8_store R (Z_X7_join R (Z_X8_load R (Z_X8_load R σ o1 (x4) (R 262 o0)) (R 259 o0) (x4) (R 263 o0)) (R 264 o0) (R 262 o0) (R 263 o0)) o1 (x4) (R 264 o0)) 450 (R 262 o0))) : Z_X4_absorb_p5_b f R σ o0 o1 x2 x3 x4 = f R (Z_X8_store R (Z_X7_join R (Z_X8_load R (Z_X8_load R σ o1 (x4) (R 262 o0)) (R 259 o0) (x4) (R 263 o0)) (R 264 o0) (R 262 o0) (R 263 o0)) o1 (x4) (R 264 o0)) o0 o1 (x2) (x3) ((x4 + 1)) := by unfold Z_X4_absorb_p5_b; exact Eq.trans (if_neg h0) (Eq.trans (if_pos h1) (Eq.trans (if_pos h2) (Eq.trans (if_pos h3) (Eq.trans (if_pos h4) (if_pos h5)))))
theorem zl_X4_absorb_p5_2 {f : (Nat → Nat → Nat) → SG → Nat → Nat → Int32 → Int32 → Int32 → SG × Int32} {R : Nat → Nat → Nat} {σ : SG} {o0 : Nat} {o1 : Nat} {x2 : Int32} {x3 : Int32} {x4 : Int32} (h0 : ¬ 24 ≤ x4) (h1 : (Z_X8_isSameSpan R σ o1 (R 259 o0) (x4)) = 0) (h2 : x2 = 0) (h3 : (mJ (Z_X8_store R (Z_X7_join R (Z_X8_load R (Z_X8_load R σ o1 (x4) (R 262 o0)) (R 259 o0) (x4) (R 263 o0)) (R 264 o0) (R 262 o0) (R 263 o0)) o1 (x4) (R 264 o0)) 448 (R 264 o0)) = (mJ (Z_X8_store R (Z_X7_join R (Z_X8_load R (Z_X8_load R σ o1 (x4) (R 262 o0)) (R 259 o0) (x4) (R 263 o0)) (R 264 o0) (R 262 o0) (R 263 o0)) o1 (x4) (R 264 o0)) 448 (R 262 o0))) (h4 : (mJ (Z_X8_store R (Z_X7_join R (Z_X8_load R (Z_X8_load R σ o1 (x4) (R 262 o0)) (R 259 o0) (x4) (R 263 o0)) (R 264 o0) (R 262 o0) (R 263 o0)) o1 (x4) (R 264 o0)) 449 (R 264 o0)) = (mJ (Z_X8_store R (Z_X7_join R (Z_X8_load R (Z_X8_load R σ o1 (x4) (R 262 o0)) (R 259 o0) (x4) (R 263 o0)) (R 264 o0) (R 262 o0) (R 263 o0)) o1 (x4) (R 264 o0)) 449 (R 262 o0))) (h5 : ¬ (mJ (Z_X8_store R (Z_X7_join R (Z_X8_load R (Z_X8_load R σ o1 (x4) (R 262 o0)) (R 259 o0) (x4) (R 263 o0)) (R 264 o0) (R 262 o0) (R 263 o0)) o1 (x4) (R 264 o0)) 450 (R 264 o0)) = (mJ (Z_X8_store R (Z_X7_join R (Z_X8_load R (Z_X8_load R σ o1 (x4) (R 262 o0)) (R 259 o0) (x4) (R 263 o0)) (R 264 o0) (R 262 o0) (R 263 o0)) o1 (x4) (R 264 o0)) 450 (R 262 o0))) : Z_X4_absorb_p5_b f R σ o0 o1 x2 x3 x4 = f R (Z_X8_store R (Z_X7_join R (Z_X8_load R (Z_X8_load R σ o1 (x4) (R 262 o0)) (R 259 o0) (x4) (R 263 o0)) (R 264 o0) (R 262 o0) (R 263 o0)) o1 (x4) (R 264 o0)) o0 o1 (x2) (1) ((x4 + 1)) := by unfold Z_X4_absorb_p5_b; exact Eq.trans (if_neg h0) (Eq.trans (if_pos h1) (Eq.trans (if_pos h2) (Eq.trans (if_pos h3) (Eq.trans (if_pos h4) (if_neg h5)))))
theorem zl_X4_absorb_p5_3 {f : (Nat → Nat → Nat) → SG → Nat → Nat → Int32 → Int32 → Int32 → SG × Int32} {R : Nat → Nat → Nat} {σ : SG} {o0 : Nat} {o1 : Nat} {x2 : Int32} {x3 : Int32} {x4 : Int32} (h0 : ¬ 24 ≤ x4) (h1 : (Z_X8_isSameSpan R σ o1 (R 259 o0) (x4)) = 0) (h2 : x2 = 0) (h3 : (mJ (Z_X8_store R (Z_X7_join R (Z_X8_load R (Z_X8_load R σ o1 (x4) (R 262 o0)) (R 259 o0) (x4) (R 263 o0)) (R 264 o0) (R 262 o0) (R 263 o0)) o1 (x4) (R 264 o0)) 448 (R 264 o0)) = (mJ (Z_X8_store R (Z_X7_join R (Z_X8_load R (Z_X8_load R σ o1 (x4) (R 262 o0)) (R 259 o0) (x4) (R 263 o0)) (R 264 o0) (R 262 o0) (R 263 o0)) o1 (x4) (R 264 o0)) 448 (R 262 o0))) (h4 : ¬ (mJ (Z_X8_store R (Z_X7_join R (Z_X8_load R (Z_X8_load R σ o1 (x4) (R 262 o0)) (R 259 o0) (x4) (R 263 o0)) (R 264 o0) (R 262 o0) (R 263 o0)) o1 (x4) (R 264 o0)) 449 (R 264 o0)) = (mJ (Z_X8_store R (Z_X7_join R (Z_X8_load R (Z_X8_load R σ o1 (x4) (R 262 o0)) (R 259 o0) (x4) (R 263 o0)) (R 264 o0) (R 262 o0) (R 263 o0)) o1 (x4) (R 264 o0)) 449 (R 262 o0))) : Z_X4_absorb_p5_b f R σ o0 o1 x2 x3 x4 = f R (Z_X8_store R (Z_X7_join R (Z_X8_load R (Z_X8_load R σ o1 (x4) (R 262 o0)) (R 259 o0) (x4) (R 263 o0)) (R 264 o0) (R 262 o0) (R 263 o0)) o1 (x4) (R 264 o0)) o0 o1 (x2) (1) ((x4 + 1)) := by unfold Z_X4_absorb_p5_b; exact Eq.trans (if_neg h0) (Eq.trans (if_pos h1) (Eq.trans (if_pos h2) (Eq.trans (if_pos h3) (if_neg h4))))
theorem zl_X4_absorb_p5_4 {f : (Nat → Nat → Nat) → SG → Nat → Nat → Int32 → Int32 → Int32 → SG × Int32} {R : Nat → Nat → Nat} {σ : SG} {o0 : Nat} {o1 : Nat} {x2 : Int32} {x3 : Int32} {x4 : Int32} (h0 : ¬ 24 ≤ x4) (h1 : (Z_X8_isSameSpan R σ o1 (R 259 o0) (x4)) = 0) (h2 : x2 = 0) (h3 : ¬ (mJ (Z_X8_store R (Z_X7_join R (Z_X8_load R (Z_X8_load R σ o1 (x4) (R 262 o0)) (R 259 o0) (x4) (R 263 o0)) (R 264 o0) (R 262 o0) (R 263 o0)) o1 (x4) (R 264 o0)) 448 (R 264 o0)) = (mJ (Z_X8_store R (Z_X7_join R (Z_X8_load R (Z_X8_load R σ o1 (x4) (R 262 o0)) (R 259 o0) (x4) (R 263 o0)) (R 264 o0) (R 262 o0) (R 263 o0)) o1 (x4) (R 264 o0)) 448 (R 262 o0))) : Z_X4_absorb_p5_b f R σ o0 o1 x2 x3 x4 = f R (Z_X8_store R (Z_X7_join R (Z_X8_load R (Z_X8_load R σ o1 (x4) (R 262 o0)) (R 259 o0) (x4) (R 263 o0)) (R 264 o0) (R 262 o0) (R 263 o0)) o1 (x4) (R 264 o0)) o0 o1 (x2) (1) ((x4 + 1)) := by unfold Z_X4_absorb_p5_b; exact Eq.trans (if_neg h0) (Eq.trans (if_pos h1) (Eq.trans (if_pos h2) (if_neg h3)))
theorem zl_X4_absorb_p5_5 {f : (Nat → Nat → Nat) → SG → Nat → Nat → Int32 → Int32 → Int32 → SG × Int32} {R : Nat → Nat → Nat} {σ : SG} {o0 : Nat} {o1 : Nat} {x2 : Int32} {x3 : Int32} {x4 : Int32} (h0 : ¬ 24 ≤ x4) (h1 : (Z_X8_isSameSpan R σ o1 (R 259 o0) (x4)) = 0) (h2 : ¬ x2 = 0) (h3 : (mJ (Z_X8_store R (Z_X7_stretchFrom R (Z_X7_join R (Z_X8_load R (Z_X8_load R σ o1 (x4) (R 262 o0)) (R 259 o0) (x4) (R 263 o0)) (R 264 o0) (R 262 o0) (R 263 o0)) (R 264 o0) (R 262 o0)) o1 (x4) (R 264 o0)) 448 (R 264 o0)) = (mJ (Z_X8_store R (Z_X7_stretchFrom R (Z_X7_join R (Z_X8_load R (Z_X8_load R σ o1 (x4) (R 262 o0)) (R 259 o0) (x4) (R 263 o0)) (R 264 o0) (R 262 o0) (R 263 o0)) (R 264 o0) (R 262 o0)) o1 (x4) (R 264 o0)) 448 (R 262 o0))) (h4 : (mJ (Z_X8_store R (Z_X7_stretchFrom R (Z_X7_join R (Z_X8_load R (Z_X8_load R σ o1 (x4) (R 262 o0)) (R 259 o0) (x4) (R 263 o0)) (R 264 o0) (R 262 o0) (R 263 o0)) (R 264 o0) (R 262 o0)) o1 (x4) (R 264 o0)) 449 (R 264 o0)) = (mJ (Z_X8_store R (Z_X7_stretchFrom R (Z_X7_join R (Z_X8_load R (Z_X8_load R σ o1 (x4) (R 262 o0)) (R 259 o0) (x4) (R 263 o0)) (R 264 o0) (R 262 o0) (R 263 o0)) (R 264 o0) (R 262 o0)) o1 (x4) (R 264 o0)) 449 (R 262 o0))) (h5 : (mJ (Z_X8_store R (Z_X7_stretchFrom R (Z_X7_join R (Z_X8_load R (Z_X8_load R σ o1 (x4) (R 262 o0)) (R 259 o0) (x4) (R 263 o0)) (R 264 o0) (R 262 o0) (R 263 o0)) (R 264 o0) (R 262 o0)) o1 (x4) (R 264 o0)) 450 (R 264 o0)) = (mJ (Z_X8_store R (Z_X7_stretchFrom R (Z_X7_join R (Z_X8_load R (Z_X8_load R σ o1 (x4) (R 262 o0)) (R 259 o0) (x4) (R 263 o0)) (R 264 o0) (R 262 o0) (R 263 o0)) (R 264 o0) (R 262 o0)) o1 (x4) (R 264 o0)) 450 (R 262 o0))) : Z_X4_absorb_p5_b f R σ o0 o1 x2 x3 x4 = f R (Z_X8_store R (Z_X7_stretchFrom R (Z_X7_join R (Z_X8_load R (Z_X8_load R σ o1 (x4) (R 262 o0)) (R 259 o0) (x4) (R 263 o0)) (R 264 o0) (R 262 o0) (R 263 o0)) (R 264 o0) (R 262 o0)) o1 (x4) (R 264 o0)) o0 o1 (x2) (x3) ((x4 + 1)) := by unfold Z_X4_absorb_p5_b; exact Eq.trans (if_neg h0) (Eq.trans (if_pos h1) (Eq.trans (if_neg h2) (Eq.trans (if_pos h3) (Eq.trans (if_pos h4) (if_pos h5)))))
theorem zl_X4_absorb_p5_6 {f : (Nat → Nat → Nat) → SG → Nat → Nat → Int32 → Int32 → Int32 → SG × Int32} {R : Nat → Nat → Nat} {σ : SG} {o0 : Nat} {o1 : Nat} {x2 : Int32} {x3 : Int32} {x4 : Int32} (h0 : ¬ 24 ≤ x4) (h1 : (Z_X8_isSameSpan R σ o1 (R 259 o0) (x4)) = 0) (h2 : ¬ x2 = 0) (h3 : (mJ (Z_X8_store R (Z_X7_stretchFrom R (Z_X7_join R (Z_X8_load R (Z_X8_load R σ o1 (x4) (R 262 o0)) (R 259 o0) (x4) (R 263 o0)) (R 264 o0) (R 262 o0) (R 263 o0)) (R 264 o0) (R 262 o0)) o1 (x4) (R 264 o0)) 448 (R 264 o0)) = (mJ (Z_X8_store R (Z_X7_stretchFrom R (Z_X7_join R (Z_X8_load R (Z_X8_load R σ o1 (x4) (R 262 o0)) (R 259 o0) (x4) (R 263 o0)) (R 264 o0) (R 262 o0) (R 263 o0)) (R 264 o0) (R 262 o0)) o1 (x4) (R 264 o0)) 448 (R 262 o0))) (h4 : (mJ (Z_X8_store R (Z_X7_stretchFrom R (Z_X7_join R (Z_X8_load R (Z_X8_load R σ o1 (x4) (R 262 o0)) (R 259 o0) (x4) (R 263 o0)) (R 264 o0) (R 262 o0) (R 263 o0)) (R 264 o0) (R 262 o0)) o1 (x4) (R 264 o0)) 449 (R 264 o0)) = (mJ (Z_X8_store R (Z_X7_stretchFrom R (Z_X7_join R (Z_X8_load R (Z_X8_load R σ o1 (x4) (R 262 o0)) (R 259 o0) (x4) (R 263 o0)) (R 264 o0) (R 262 o0) (R 263 o0)) (R 264 o0) (R 262 o0)) o1 (x4) (R 264 o0)) 449 (R 262 o0))) (h5 : ¬ (mJ (Z_X8_store R (Z_X7_stretchFrom R (Z_X7_join R (Z_X8_load R (Z_X8_load R σ o1 (x4) (R 262 o0)) (R 259 o0) (x4) (R 263 o0)) (R 264 o0) (R 262 o0) (R 263 o0)) (R 264 o0) (R 262 o0)) o1 (x4) (R 264 o0)) 450 (R 264 o0)) = (mJ (Z_X8_store R (Z_X7_stretchFrom R (Z_X7_join R (Z_X8_load R (Z_X8_load R σ o1 (x4) (R 262 o0)) (R 259 o0) (x4) (R 263 o0)) (R 264 o0) (R 262 o0) (R 263 o0)) (R 264 o0) (R 262 o0)) o1 (x4) (R 264 o0)) 450 (R 262 o0))) : Z_X4_absorb_p5_b f R σ o0 o1 x2 x3 x4 = f R (Z_X8_store R (Z_X7_stretchFrom R (Z_X7_join R (Z_X8_load R (Z_X8_load R σ o1 (x4) (R 262 o0)) (R 259 o0) (x4) (R 263 o0)) (R 264 o0) (R 262 o0) (R 263 o0)) (R 264 o0) (R 262 o0)) o1 (x4) (R 264 o0)) o0 o1 (x2) (1) ((x4 + 1)) := by unfold Z_X4_absorb_p5_b; exact Eq.trans (if_neg h0) (Eq.trans (if_pos h1) (Eq.trans (if_neg h2) (Eq.trans (if_pos h3) (Eq.trans (if_pos h4) (if_neg h5)))))
theorem zl_X4_absorb_p5_7 {f : (Nat → Nat → Nat) → SG → Nat → Nat → Int32 → Int32 → Int32 → SG × Int32} {R : Nat → Nat → Nat} {σ : SG} {o0 : Nat} {o1 : Nat} {x2 : Int32} {x3 : Int32} {x4 : Int32} (h0 : ¬ 24 ≤ x4) (h1 : (Z_X8_isSameSpan R σ o1 (R 259 o0) (x4)) = 0) (h2 : ¬ x2 = 0) (h3 : (mJ (Z_X8_store R (Z_X7_stretchFrom R (Z_X7_join R (Z_X8_load R (Z_X8_load R σ o1 (x4) (R 262 o0)) (R 259 o0) (x4) (R 263 o0)) (R 264 o0) (R 262 o0) (R 263 o0)) (R 264 o0) (R 262 o0)) o1 (x4) (R 264 o0)) 448 (R 264 o0)) = (mJ (Z_X8_store R (Z_X7_stretchFrom R (Z_X7_join R (Z_X8_load R (Z_X8_load R σ o1 (x4) (R 262 o0)) (R 259 o0) (x4) (R 263 o0)) (R 264 o0) (R 262 o0) (R 263 o0)) (R 264 o0) (R 262 o0)) o1 (x4) (R 264 o0)) 448 (R 262 o0))) (h4 : ¬ (mJ (Z_X8_store R (Z_X7_stretchFrom R (Z_X7_join R (Z_X8_load R (Z_X8_load R σ o1 (x4) (R 262 o0)) (R 259 o0) (x4) (R 263 o0)) (R 264 o0) (R 262 o0) (R 263 o0)) (R 264 o0) (R 262 o0)) o1 (x4) (R 264 o0)) 449 (R 264 o0)) = (mJ (Z_X8_store R (Z_X7_stretchFrom R (Z_X7_join R (Z_X8_load R (Z_X8_load R σ o1 (x4) (R 262 o0)) (R 259 o0) (x4) (R 263 o0)) (R 264 o0) (R 262 o0) (R 263 o0)) (R 264 o0) (R 262 o0)) o1 (x4) (R 264 o0)) 449 (R 262 o0))) : Z_X4_absorb_p5_b f R σ o0 o1 x2 x3 x4 = f R (Z_X8_store R (Z_X7_stretchFrom R (Z_X7_join R (Z_X8_load R (Z_X8_load R σ o1 (x4) (R 262 o0)) (R 259 o0) (x4) (R 263 o0)) (R 264 o0) (R 262 o0) (R 263 o0)) (R 264 o0) (R 262 o0)) o1 (x4) (R 264 o0)) o0 o1 (x2) (1) ((x4 + 1)) := by unfold Z_X4_absorb_p5_b; exact Eq.trans (if_neg h0) (Eq.trans (if_pos h1) (Eq.trans (if_neg h2) (Eq.trans (if_pos h3) (if_neg h4))))
theorem zl_X4_absorb_p5_8 {f : (Nat → Nat → Nat) → SG → Nat → Nat → Int32 → Int32 → Int32 → SG × Int32} {R : Nat → Nat → Nat} {σ : SG} {o0 : Nat} {o1 : Nat} {x2 : Int32} {x3 : Int32} {x4 : Int32} (h0 : ¬ 24 ≤ x4) (h1 : (Z_X8_isSameSpan R σ o1 (R 259 o0) (x4)) = 0) (h2 : ¬ x2 = 0) (h3 : ¬ (mJ (Z_X8_store R (Z_X7_stretchFrom R (Z_X7_join R (Z_X8_load R (Z_X8_load R σ o1 (x4) (R 262 o0)) (R 259 o0) (x4) (R 263 o0)) (R 264 o0) (R 262 o0) (R 263 o0)) (R 264 o0) (R 262 o0)) o1 (x4) (R 264 o0)) 448 (R 264 o0)) = (mJ (Z_X8_store R (Z_X7_stretchFrom R (Z_X7_join R (Z_X8_load R (Z_X8_load R σ o1 (x4) (R 262 o0)) (R 259 o0) (x4) (R 263 o0)) (R 264 o0) (R 262 o0) (R 263 o0)) (R 264 o0) (R 262 o0)) o1 (x4) (R 264 o0)) 448 (R 262 o0))) : Z_X4_absorb_p5_b f R σ o0 o1 x2 x3 x4 = f R (Z_X8_store R (Z_X7_stretchFrom R (Z_X7_join R (Z_X8_load R (Z_X8_load R σ o1 (x4) (R 262 o0)) (R 259 o0) (x4) (R 263 o0)) (R 264 o0) (R 262 o0) (R 263 o0)) (R 264 o0) (R 262 o0)) o1 (x4) (R 264 o0)) o0 o1 (x2) (1) ((x4 + 1)) := by unfold Z_X4_absorb_p5_b; exact Eq.trans (if_neg h0) (Eq.trans (if_pos h1) (Eq.trans (if_neg h2) (if_neg h3)))
theorem zl_X4_absorb_p5_9 {f : (Nat → Nat → Nat) → SG → Nat → Nat → Int32 → Int32 → Int32 → SG × Int32} {R : Nat → Nat → Nat} {σ : SG} {o0 : Nat} {o1 : Nat} {x2 : Int32} {x3 : Int32} {x4 : Int32} (h0 : ¬ 24 ≤ x4) (h1 : ¬ (Z_X8_isSameSpan R σ o1 (R 259 o0) (x4)) = 0) : Z_X4_absorb_p5_b f R σ o0 o1 x2 x3 x4 = f R σ o0 o1 (x2) (x3) ((x4 + 1)) := by unfold Z_X4_absorb_p5_b; exact Eq.trans (if_neg h0) (if_neg h1)
set_option maxHeartbeats 40000000 in
theorem cz_X4_absorb_p5 {xi : SX} {E : List Nat} {kc nc : Nat} : ∀ (fu : Nat) {S : Hp} {P : Po} {o0 : Nat} {o1 : Nat} {x2 : Int32} {x3 : Int32} {x4 : Int32} {R : Nat → Nat → Nat} (hG : GI S E) (h0 : Oa S E 4 0 o0) (h1 : Oa S E 8 0 o1) (h2 : Rg 0 1 x2) (h3 : Rg 0 1 x3) (h4 : Rg 0 24 x4) (hR : RK S R) (hfu : (24 - x4.toInt).toNat < fu) (hP : ∀ r T x y, PV E [515, 516, 517, 9987, 9994] S kc nc (rI 0 1) (fun v T => v = some (.int (Z_X4_absorb_p5 fu R (sg S) o0 o1 x2 x3 x4).2) ∧ sg T = (Z_X4_absorb_p5 fu R (sg S) o0 o1 x2 x3 x4).1) [] r T x y → P r T x y), TT xi M_X4_absorb 5 [(0, .ref o0), (1, .ref o1), (2, .int x2), (3, .int x3), (4, .int x4)] [] S kc nc P := by
  intro fu
  induction fu with
  | zero =>
    intro S P o0 o1 x2 x3 x4 R hG h0 h1 h2 h3 h4 hR hfu hP
    exact absurd hfu (Nat.not_lt_zero _)
  | succ fu ih =>
    intro S P o0 o1 x2 x3 x4 R hG h0 h1 h2 h3 h4 hR hfu hP
    have hA : Af E [515, 516, 517, 9987, 9994] S S := af_rf
    refine tt_iload (j := 4) dX4_absorb_5 rfl ?_
    refine tt_bipush (v := 24) dX4_absorb_7 rfl ?_
    refine tt_icmp_ge (tgt := 153) dX4_absorb_9 rfl (fun q101 => ?_) (fun q101 => ?_)
    · skip
      have h102 : Rg 24 24 x4 := rg_le_r (⟨by decide, by decide⟩ : Rg 24 24 24) h4 q101
      have hF : Z_X4_absorb_p5 (fu + 1) R (sg S) o0 o1 x2 x3 x4 = Z_X4_absorb_p153 R (sg S) o0 o1 (x3) := by
        exact zl_X4_absorb_p5_0 q101
      exact tt_loc (ks := [0, 1, 3]) rfl (cz_X4_absorb_p153 hG (oa_af h0 hA) (oa_af h1 hA) (rg_w h3) hR (fun r T x y h => hP r T x y (pv_tr hA h (by decide) (fun v T e => (((congrArg (fun q9 => Z_X4_absorb_p153 R q9 o0 o1 (x3)) (show sg S = (sg S) from rfl)).trans hF.symm) ▸ e)))))
    · skip
      have h103 : Rg 0 23 x4 := rg_lt_l h4 (⟨by decide, by decide⟩ : Rg 24 24 24) (nle_lt q101)
      refine tt_aload_n (j := 1) dX4_absorb_12 rfl ?_
      refine tt_aload_n (j := 0) dX4_absorb_13 rfl ?_
      have hr104 := rk_R (k := 259) hR h0 8 0
      have ho105 := rk_O (k := 259) hG hR h0 8 0
      refine gt_gR (id := 259) dX4_absorb_14 fl_4_20 rfl rfl h0 hA hr104 ?_
      refine tt_iload (j := 4) dX4_absorb_17 rfl ?_
      refine gt_VIp (As := [.ref (R 259 o0), .int x4]) dX4_absorb_19 ca_X4_142 ⟨by decide, by decide⟩ h1 hA rfl (Nat.le_of_ble_eq_true rfl) (Nat.le_of_ble_eq_true rfl) (by decide) (cz_X8_isSameSpan hG (oa_af h1 hA) (oa_af ho105 hA) (rg_w h103) hR (fun _ _ _ _ h => h)) rfl (fun _ h => nomatch h) (fun _ _ q => q.1) (fun x106 h107 hx108 => ?_)
      obtain rfl : Z_X8_isSameSpan R (sg S) o1 (R 259 o0) (x4) = x106 := ((ei_w hx108.2).trans (congrArg (fun q9 => Z_X8_isSameSpan R q9 o1 (R 259 o0) (x4)) (show sg S = (sg S) from rfl))).symm
      refine tt_if_eq (tgt := 28) dX4_absorb_22 rfl (fun q109 => ?_) (fun q109 => ?_)
      · skip
        have h110 : Rg 0 0 (Z_X8_isSameSpan R (sg S) o1 (R 259 o0) (x4)) := rg_eq_l h107 (⟨by decide, by decide⟩ : Rg 0 0 0) q109
        refine tt_aload_n (j := 1) dX4_absorb_28 rfl ?_
        refine tt_iload (j := 4) dX4_absorb_29 rfl ?_
        refine tt_aload_n (j := 0) dX4_absorb_31 rfl ?_
        have hr111 := rk_R (k := 262) hR h0 7 0
        have ho112 := rk_O (k := 262) hG hR h0 7 0
        refine gt_gR (id := 262) dX4_absorb_32 fl_4_41 rfl rfl h0 hA hr111 ?_
        refine gt_Vv (As := [.int x4, .ref (R 262 o0)]) dX4_absorb_35 ca_X4_77 ⟨by decide, by decide⟩ h1 hA rfl (Nat.le_of_ble_eq_true rfl) (Nat.le_of_ble_eq_true rfl) (by decide) (cz_X8_load hG (oa_af h1 hA) (oa_af ho112 hA) hR (fun _ _ _ _ h => h)) rfl (fun _ h => nomatch h) (fun S113 hx117 hG114 hB115 hA116 => ?_)
        obtain ⟨d118, hd119⟩ : ∃ q, Z_X8_load R (sg S) o1 (x4) (R 262 o0) = q := ⟨_, rfl⟩
        have hq120 := (congrArg (fun q9 => Z_X8_load R q9 o1 (x4) (R 262 o0)) (show sg S = (sg S) from rfl)).trans hd119
        have hs121 := hx117.trans hq120
        refine tt_aload_n (j := 0) dX4_absorb_38 rfl ?_
        refine gt_gR (id := 259) dX4_absorb_39 fl_4_20 rfl rfl h0 hA116 hr104 ?_
        refine tt_iload (j := 4) dX4_absorb_42 rfl ?_
        refine tt_aload_n (j := 0) dX4_absorb_44 rfl ?_
        have hr122 := rk_R (k := 263) hR h0 7 0
        have ho123 := rk_O (k := 263) hG hR h0 7 0
        refine gt_gR (id := 263) dX4_absorb_45 fl_4_45 rfl rfl h0 hA116 hr122 ?_
        refine gt_Vv (As := [.int x4, .ref (R 263 o0)]) dX4_absorb_48 ca_X4_77 ⟨by decide, by decide⟩ ho105 hA116 rfl (Nat.le_of_ble_eq_true rfl) (Nat.le_of_ble_eq_true rfl) (by decide) (cz_X8_load hG114 (oa_af ho105 hA116) (oa_af ho123 hA116) (rk_af hR hA116) (fun _ _ _ _ h => h)) rfl (fun _ h => nomatch h) (fun S124 hx128 hG125 hB126 hA127 => ?_)
        obtain ⟨d129, hd130⟩ : ∃ q, Z_X8_load R d118 (R 259 o0) (x4) (R 263 o0) = q := ⟨_, rfl⟩
        have hq131 := (congrArg (fun q9 => Z_X8_load R q9 (R 259 o0) (x4) (R 263 o0)) hs121).trans hd130
        have hs132 := hx128.trans hq131
        refine tt_aload_n (j := 0) dX4_absorb_51 rfl ?_
        have hr133 := rk_R (k := 264) hR h0 7 0
        have ho134 := rk_O (k := 264) hG hR h0 7 0
        refine gt_gR (id := 264) dX4_absorb_52 fl_4_48 rfl rfl h0 hA127 hr133 ?_
        refine tt_aload_n (j := 0) dX4_absorb_55 rfl ?_
        refine gt_gR (id := 262) dX4_absorb_56 fl_4_41 rfl rfl h0 hA127 hr111 ?_
        refine tt_aload_n (j := 0) dX4_absorb_59 rfl ?_
        refine gt_gR (id := 263) dX4_absorb_60 fl_4_45 rfl rfl h0 hA127 hr122 ?_
        refine gt_Vv (As := [.ref (R 262 o0), .ref (R 263 o0)]) dX4_absorb_63 ca_X4_146 ⟨by decide, by decide⟩ ho134 hA127 rfl (Nat.le_of_ble_eq_true rfl) (Nat.le_of_ble_eq_true rfl) (by decide) (cz_X7_join hG125 (oa_af ho134 hA127) (oa_af ho112 hA127) (oa_af ho123 hA127) (rk_af hR hA127) (fun _ _ _ _ h => h)) rfl (fun _ h => nomatch h) (fun S135 hx139 hG136 hB137 hA138 => ?_)
        obtain ⟨d140, hd141⟩ : ∃ q, Z_X7_join R d129 (R 264 o0) (R 262 o0) (R 263 o0) = q := ⟨_, rfl⟩
        have hq142 := (congrArg (fun q9 => Z_X7_join R q9 (R 264 o0) (R 262 o0) (R 263 o0)) hs132).trans hd141
        have hs143 := hx139.trans hq142
        refine tt_iload_n (j := 2) dX4_absorb_66 rfl ?_
        refine tt_if_eq (tgt := 81) dX4_absorb_67 rfl (fun q144 => ?_) (fun q144 => ?_)
        · skip
          have h145 : Rg 0 0 x2 := rg_eq_l h2 (⟨by decide, by decide⟩ : Rg 0 0 0) q144
          refine tt_aload_n (j := 1) dX4_absorb_81 rfl ?_
          refine tt_iload (j := 4) dX4_absorb_82 rfl ?_
          refine tt_aload_n (j := 0) dX4_absorb_84 rfl ?_
          refine gt_gR (id := 264) dX4_absorb_85 fl_4_48 rfl rfl h0 hA138 hr133 ?_
          refine gt_Vv (As := [.int x4, .ref (R 264 o0)]) dX4_absorb_88 ca_X4_154 ⟨by decide, by decide⟩ h1 hA138 rfl (Nat.le_of_ble_eq_true rfl) (Nat.le_of_ble_eq_true rfl) (by decide) (cz_X8_store hG136 (oa_af h1 hA138) (oa_af ho134 hA138) (rk_af hR hA138) (fun _ _ _ _ h => h)) rfl (fun _ h => nomatch h) (fun S146 hx150 hG147 hB148 hA149 => ?_)
          obtain ⟨d151, hd152⟩ : ∃ q, Z_X8_store R d140 o1 (x4) (R 264 o0) = q := ⟨_, rfl⟩
          have hq153 := (congrArg (fun q9 => Z_X8_store R q9 o1 (x4) (R 264 o0)) hs143).trans hd152
          have hs154 := hx150.trans hq153
          refine tt_aload_n (j := 0) dX4_absorb_91 rfl ?_
          refine gt_gR (id := 264) dX4_absorb_92 fl_4_48 rfl rfl h0 hA149 hr133 ?_
          refine gt_gJ (id := 448) (v := (mJ d151 448 (R 264 o0))) dX4_absorb_95 fl_4_157 rfl rfl ho134 hA149 (sg_J (k := 448) (o := (R 264 o0)) hs154) ?_
          refine tt_aload_n (j := 0) dX4_absorb_98 rfl ?_
          refine gt_gR (id := 262) dX4_absorb_99 fl_4_41 rfl rfl h0 hA149 hr111 ?_
          refine gt_gJ (id := 448) (v := (mJ d151 448 (R 262 o0))) dX4_absorb_102 fl_4_157 rfl rfl ho112 hA149 (sg_J (k := 448) (o := (R 262 o0)) hs154) ?_
          refine tt_lcmp dX4_absorb_105 ?_
          refine tt_if_ne (tgt := 145) dX4_absorb_106 rfl (fun q155 => ?_) (fun q155 => ?_)
          · skip
            refine tt_iconst (v := 1) dX4_absorb_145 rfl ?_
            refine tt_istore_n (ks := [0, 1, 2, 3, 4]) (L' := [(3, .int 1), (0, .ref o0), (1, .ref o1), (2, .int x2), (4, .int x4)]) dX4_absorb_146 (by decide) rfl ?_
            refine tt_iinc (j := 4) (v := (x4 + 1)) (ks := [0, 1, 2, 3, 4]) (L' := [(4, .int (x4 + 1)), (3, .int 1), (0, .ref o0), (1, .ref o1), (2, .int x2)]) dX4_absorb_147 rfl rfl (by decide) rfl ?_
            refine tt_goto (tgt := 5) dX4_absorb_150 rfl ?_
            have hF : Z_X4_absorb_p5 (fu + 1) R (sg S) o0 o1 x2 x3 x4 = Z_X4_absorb_p5 fu R d151 o0 o1 (x2) (1) ((x4 + 1)) := by
              subst hd152
              subst hd141
              subst hd130
              subst hd119
              exact zl_X4_absorb_p5_4 q101 q109 q144 (lc_ne_t q155)
            exact tt_loc (ks := [2, 3, 4, 1, 0]) rfl (ih hG147 (oa_af h0 hA149) (oa_af h1 hA149) (rg_w h145) (rg_w (⟨by decide, by decide⟩ : Rg 1 1 1)) (rg_w (rg_add (lo := 1) (hi := 24) h103 (⟨by decide, by decide⟩ : Rg 1 1 1))) (rk_af hR hA149) (lp_fu hfu h103) (fun r T x y h => hP r T x y (pv_tr hA149 h (by decide) (fun v T e => (((congrArg (fun q9 => Z_X4_absorb_p5 fu R q9 o0 o1 (x2) (1) ((x4 + 1))) hs154).trans hF.symm) ▸ e)))))
          · skip
            refine tt_aload_n (j := 0) dX4_absorb_109 rfl ?_
            refine gt_gR (id := 264) dX4_absorb_110 fl_4_48 rfl rfl h0 hA149 hr133 ?_
            refine gt_gJ (id := 449) (v := (mJ d151 449 (R 264 o0))) dX4_absorb_113 fl_4_160 rfl rfl ho134 hA149 (sg_J (k := 449) (o := (R 264 o0)) hs154) ?_
            refine tt_aload_n (j := 0) dX4_absorb_116 rfl ?_
            refine gt_gR (id := 262) dX4_absorb_117 fl_4_41 rfl rfl h0 hA149 hr111 ?_
            refine gt_gJ (id := 449) (v := (mJ d151 449 (R 262 o0))) dX4_absorb_120 fl_4_160 rfl rfl ho112 hA149 (sg_J (k := 449) (o := (R 262 o0)) hs154) ?_
            refine tt_lcmp dX4_absorb_123 ?_
            refine tt_if_ne (tgt := 145) dX4_absorb_124 rfl (fun q156 => ?_) (fun q156 => ?_)
            · skip
              refine tt_iconst (v := 1) dX4_absorb_145 rfl ?_
              refine tt_istore_n (ks := [0, 1, 2, 3, 4]) (L' := [(3, .int 1), (0, .ref o0), (1, .ref o1), (2, .int x2), (4, .int x4)]) dX4_absorb_146 (by decide) rfl ?_
              refine tt_iinc (j := 4) (v := (x4 + 1)) (ks := [0, 1, 2, 3, 4]) (L' := [(4, .int (x4 + 1)), (3, .int 1), (0, .ref o0), (1, .ref o1), (2, .int x2)]) dX4_absorb_147 rfl rfl (by decide) rfl ?_
              refine tt_goto (tgt := 5) dX4_absorb_150 rfl ?_
              have hF : Z_X4_absorb_p5 (fu + 1) R (sg S) o0 o1 x2 x3 x4 = Z_X4_absorb_p5 fu R d151 o0 o1 (x2) (1) ((x4 + 1)) := by
                subst hd152
                subst hd141
                subst hd130
                subst hd119
                exact zl_X4_absorb_p5_3 q101 q109 q144 (lc_ne_f q155) (lc_ne_t q156)
              exact tt_loc (ks := [2, 3, 4, 1, 0]) rfl (ih hG147 (oa_af h0 hA149) (oa_af h1 hA149) (rg_w h145) (rg_w (⟨by decide, by decide⟩ : Rg 1 1 1)) (rg_w (rg_add (lo := 1) (hi := 24) h103 (⟨by decide, by decide⟩ : Rg 1 1 1))) (rk_af hR hA149) (lp_fu hfu h103) (fun r T x y h => hP r T x y (pv_tr hA149 h (by decide) (fun v T e => (((congrArg (fun q9 => Z_X4_absorb_p5 fu R q9 o0 o1 (x2) (1) ((x4 + 1))) hs154).trans hF.symm) ▸ e)))))
            · skip
              refine tt_aload_n (j := 0) dX4_absorb_127 rfl ?_
              refine gt_gR (id := 264) dX4_absorb_128 fl_4_48 rfl rfl h0 hA149 hr133 ?_
              refine gt_gJ (id := 450) (v := (mJ d151 450 (R 264 o0))) dX4_absorb_131 fl_4_163 rfl rfl ho134 hA149 (sg_J (k := 450) (o := (R 264 o0)) hs154) ?_
              refine tt_aload_n (j := 0) dX4_absorb_134 rfl ?_
              refine gt_gR (id := 262) dX4_absorb_135 fl_4_41 rfl rfl h0 hA149 hr111 ?_
              refine gt_gJ (id := 450) (v := (mJ d151 450 (R 262 o0))) dX4_absorb_138 fl_4_163 rfl rfl ho112 hA149 (sg_J (k := 450) (o := (R 262 o0)) hs154) ?_
              refine tt_lcmp dX4_absorb_141 ?_
              refine tt_if_eq (tgt := 147) dX4_absorb_142 rfl (fun q157 => ?_) (fun q157 => ?_)
              · skip
                refine tt_iinc (j := 4) (v := (x4 + 1)) (ks := [0, 1, 2, 3, 4]) (L' := [(4, .int (x4 + 1)), (0, .ref o0), (1, .ref o1), (2, .int x2), (3, .int x3)]) dX4_absorb_147 rfl rfl (by decide) rfl ?_
                refine tt_goto (tgt := 5) dX4_absorb_150 rfl ?_
                have hF : Z_X4_absorb_p5 (fu + 1) R (sg S) o0 o1 x2 x3 x4 = Z_X4_absorb_p5 fu R d151 o0 o1 (x2) (x3) ((x4 + 1)) := by
                  subst hd152
                  subst hd141
                  subst hd130
                  subst hd119
                  exact zl_X4_absorb_p5_1 q101 q109 q144 (lc_ne_f q155) (lc_ne_f q156) (lc_eq_t q157)
                exact tt_loc (ks := [1, 2, 3, 4, 0]) rfl (ih hG147 (oa_af h0 hA149) (oa_af h1 hA149) (rg_w h145) (rg_w h3) (rg_w (rg_add (lo := 1) (hi := 24) h103 (⟨by decide, by decide⟩ : Rg 1 1 1))) (rk_af hR hA149) (lp_fu hfu h103) (fun r T x y h => hP r T x y (pv_tr hA149 h (by decide) (fun v T e => (((congrArg (fun q9 => Z_X4_absorb_p5 fu R q9 o0 o1 (x2) (x3) ((x4 + 1))) hs154).trans hF.symm) ▸ e)))))
              · skip
                refine tt_iconst (v := 1) dX4_absorb_145 rfl ?_
                refine tt_istore_n (ks := [0, 1, 2, 3, 4]) (L' := [(3, .int 1), (0, .ref o0), (1, .ref o1), (2, .int x2), (4, .int x4)]) dX4_absorb_146 (by decide) rfl ?_
                refine tt_iinc (j := 4) (v := (x4 + 1)) (ks := [0, 1, 2, 3, 4]) (L' := [(4, .int (x4 + 1)), (3, .int 1), (0, .ref o0), (1, .ref o1), (2, .int x2)]) dX4_absorb_147 rfl rfl (by decide) rfl ?_
                refine tt_goto (tgt := 5) dX4_absorb_150 rfl ?_
                have hF : Z_X4_absorb_p5 (fu + 1) R (sg S) o0 o1 x2 x3 x4 = Z_X4_absorb_p5 fu R d151 o0 o1 (x2) (1) ((x4 + 1)) := by
                  subst hd152
                  subst hd141
                  subst hd130
                  subst hd119
                  exact zl_X4_absorb_p5_2 q101 q109 q144 (lc_ne_f q155) (lc_ne_f q156) (lc_eq_f q157)
                exact tt_loc (ks := [2, 3, 4, 1, 0]) rfl (ih hG147 (oa_af h0 hA149) (oa_af h1 hA149) (rg_w h145) (rg_w (⟨by decide, by decide⟩ : Rg 1 1 1)) (rg_w (rg_add (lo := 1) (hi := 24) h103 (⟨by decide, by decide⟩ : Rg 1 1 1))) (rk_af hR hA149) (lp_fu hfu h103) (fun r T x y h => hP r T x y (pv_tr hA149 h (by decide) (fun v T e => (((congrArg (fun q9 => Z_X4_absorb_p5 fu R q9 o0 o1 (x2) (1) ((x4 + 1))) hs154).trans hF.symm) ▸ e)))))
        · skip
          have h158 : Rg 1 1 x2 := rg_ne_lo h2 (⟨by decide, by decide⟩ : Rg 0 0 0) q144
          refine tt_aload_n (j := 0) dX4_absorb_70 rfl ?_
          refine gt_gR (id := 264) dX4_absorb_71 fl_4_48 rfl rfl h0 hA138 hr133 ?_
          refine tt_aload_n (j := 0) dX4_absorb_74 rfl ?_
          refine gt_gR (id := 262) dX4_absorb_75 fl_4_41 rfl rfl h0 hA138 hr111 ?_
          refine gt_Vv (As := [.ref (R 262 o0)]) dX4_absorb_78 ca_X4_150 ⟨by decide, by decide⟩ ho134 hA138 rfl (Nat.le_of_ble_eq_true rfl) (Nat.le_of_ble_eq_true rfl) (by decide) (cz_X7_stretchFrom hG136 (oa_af ho134 hA138) (oa_af ho112 hA138) (rk_af hR hA138) (fun _ _ _ _ h => h)) rfl (fun _ h => nomatch h) (fun S159 hx163 hG160 hB161 hA162 => ?_)
          obtain ⟨d164, hd165⟩ : ∃ q, Z_X7_stretchFrom R d140 (R 264 o0) (R 262 o0) = q := ⟨_, rfl⟩
          have hq166 := (congrArg (fun q9 => Z_X7_stretchFrom R q9 (R 264 o0) (R 262 o0)) hs143).trans hd165
          have hs167 := hx163.trans hq166
          refine tt_aload_n (j := 1) dX4_absorb_81 rfl ?_
          refine tt_iload (j := 4) dX4_absorb_82 rfl ?_
          refine tt_aload_n (j := 0) dX4_absorb_84 rfl ?_
          refine gt_gR (id := 264) dX4_absorb_85 fl_4_48 rfl rfl h0 hA162 hr133 ?_
          refine gt_Vv (As := [.int x4, .ref (R 264 o0)]) dX4_absorb_88 ca_X4_154 ⟨by decide, by decide⟩ h1 hA162 rfl (Nat.le_of_ble_eq_true rfl) (Nat.le_of_ble_eq_true rfl) (by decide) (cz_X8_store hG160 (oa_af h1 hA162) (oa_af ho134 hA162) (rk_af hR hA162) (fun _ _ _ _ h => h)) rfl (fun _ h => nomatch h) (fun S168 hx172 hG169 hB170 hA171 => ?_)
          obtain ⟨d173, hd174⟩ : ∃ q, Z_X8_store R d164 o1 (x4) (R 264 o0) = q := ⟨_, rfl⟩
          have hq175 := (congrArg (fun q9 => Z_X8_store R q9 o1 (x4) (R 264 o0)) hs167).trans hd174
          have hs176 := hx172.trans hq175
          refine tt_aload_n (j := 0) dX4_absorb_91 rfl ?_
          refine gt_gR (id := 264) dX4_absorb_92 fl_4_48 rfl rfl h0 hA171 hr133 ?_
          refine gt_gJ (id := 448) (v := (mJ d173 448 (R 264 o0))) dX4_absorb_95 fl_4_157 rfl rfl ho134 hA171 (sg_J (k := 448) (o := (R 264 o0)) hs176) ?_
          refine tt_aload_n (j := 0) dX4_absorb_98 rfl ?_
          refine gt_gR (id := 262) dX4_absorb_99 fl_4_41 rfl rfl h0 hA171 hr111 ?_
          refine gt_gJ (id := 448) (v := (mJ d173 448 (R 262 o0))) dX4_absorb_102 fl_4_157 rfl rfl ho112 hA171 (sg_J (k := 448) (o := (R 262 o0)) hs176) ?_
          refine tt_lcmp dX4_absorb_105 ?_
          refine tt_if_ne (tgt := 145) dX4_absorb_106 rfl (fun q177 => ?_) (fun q177 => ?_)
          · skip
            refine tt_iconst (v := 1) dX4_absorb_145 rfl ?_
            refine tt_istore_n (ks := [0, 1, 2, 3, 4]) (L' := [(3, .int 1), (0, .ref o0), (1, .ref o1), (2, .int x2), (4, .int x4)]) dX4_absorb_146 (by decide) rfl ?_
            refine tt_iinc (j := 4) (v := (x4 + 1)) (ks := [0, 1, 2, 3, 4]) (L' := [(4, .int (x4 + 1)), (3, .int 1), (0, .ref o0), (1, .ref o1), (2, .int x2)]) dX4_absorb_147 rfl rfl (by decide) rfl ?_
            refine tt_goto (tgt := 5) dX4_absorb_150 rfl ?_
            have hF : Z_X4_absorb_p5 (fu + 1) R (sg S) o0 o1 x2 x3 x4 = Z_X4_absorb_p5 fu R d173 o0 o1 (x2) (1) ((x4 + 1)) := by
              subst hd174
              subst hd165
              subst hd141
              subst hd130
              subst hd119
              exact zl_X4_absorb_p5_8 q101 q109 q144 (lc_ne_t q177)
            exact tt_loc (ks := [2, 3, 4, 1, 0]) rfl (ih hG169 (oa_af h0 hA171) (oa_af h1 hA171) (rg_w h158) (rg_w (⟨by decide, by decide⟩ : Rg 1 1 1)) (rg_w (rg_add (lo := 1) (hi := 24) h103 (⟨by decide, by decide⟩ : Rg 1 1 1))) (rk_af hR hA171) (lp_fu hfu h103) (fun r T x y h => hP r T x y (pv_tr hA171 h (by decide) (fun v T e => (((congrArg (fun q9 => Z_X4_absorb_p5 fu R q9 o0 o1 (x2) (1) ((x4 + 1))) hs176).trans hF.symm) ▸ e)))))
          · skip
            refine tt_aload_n (j := 0) dX4_absorb_109 rfl ?_
            refine gt_gR (id := 264) dX4_absorb_110 fl_4_48 rfl rfl h0 hA171 hr133 ?_
            refine gt_gJ (id := 449) (v := (mJ d173 449 (R 264 o0))) dX4_absorb_113 fl_4_160 rfl rfl ho134 hA171 (sg_J (k := 449) (o := (R 264 o0)) hs176) ?_
            refine tt_aload_n (j := 0) dX4_absorb_116 rfl ?_
            refine gt_gR (id := 262) dX4_absorb_117 fl_4_41 rfl rfl h0 hA171 hr111 ?_
            refine gt_gJ (id := 449) (v := (mJ d173 449 (R 262 o0))) dX4_absorb_120 fl_4_160 rfl rfl ho112 hA171 (sg_J (k := 449) (o := (R 262 o0)) hs176) ?_
            refine tt_lcmp dX4_absorb_123 ?_
            refine tt_if_ne (tgt := 145) dX4_absorb_124 rfl (fun q178 => ?_) (fun q178 => ?_)
            · skip
              refine tt_iconst (v := 1) dX4_absorb_145 rfl ?_
              refine tt_istore_n (ks := [0, 1, 2, 3, 4]) (L' := [(3, .int 1), (0, .ref o0), (1, .ref o1), (2, .int x2), (4, .int x4)]) dX4_absorb_146 (by decide) rfl ?_
              refine tt_iinc (j := 4) (v := (x4 + 1)) (ks := [0, 1, 2, 3, 4]) (L' := [(4, .int (x4 + 1)), (3, .int 1), (0, .ref o0), (1, .ref o1), (2, .int x2)]) dX4_absorb_147 rfl rfl (by decide) rfl ?_
              refine tt_goto (tgt := 5) dX4_absorb_150 rfl ?_
              have hF : Z_X4_absorb_p5 (fu + 1) R (sg S) o0 o1 x2 x3 x4 = Z_X4_absorb_p5 fu R d173 o0 o1 (x2) (1) ((x4 + 1)) := by
                subst hd174
                subst hd165
                subst hd141
                subst hd130
                subst hd119
                exact zl_X4_absorb_p5_7 q101 q109 q144 (lc_ne_f q177) (lc_ne_t q178)
              exact tt_loc (ks := [2, 3, 4, 1, 0]) rfl (ih hG169 (oa_af h0 hA171) (oa_af h1 hA171) (rg_w h158) (rg_w (⟨by decide, by decide⟩ : Rg 1 1 1)) (rg_w (rg_add (lo := 1) (hi := 24) h103 (⟨by decide, by decide⟩ : Rg 1 1 1))) (rk_af hR hA171) (lp_fu hfu h103) (fun r T x y h => hP r T x y (pv_tr hA171 h (by decide) (fun v T e => (((congrArg (fun q9 => Z_X4_absorb_p5 fu R q9 o0 o1 (x2) (1) ((x4 + 1))) hs176).trans hF.symm) ▸ e)))))
            · skip
              refine tt_aload_n (j := 0) dX4_absorb_127 rfl ?_
              refine gt_gR (id := 264) dX4_absorb_128 fl_4_48 rfl rfl h0 hA171 hr133 ?_
              refine gt_gJ (id := 450) (v := (mJ d173 450 (R 264 o0))) dX4_absorb_131 fl_4_163 rfl rfl ho134 hA171 (sg_J (k := 450) (o := (R 264 o0)) hs176) ?_
              refine tt_aload_n (j := 0) dX4_absorb_134 rfl ?_
              refine gt_gR (id := 262) dX4_absorb_135 fl_4_41 rfl rfl h0 hA171 hr111 ?_
              refine gt_gJ (id := 450) (v := (mJ d173 450 (R 262 o0))) dX4_absorb_138 fl_4_163 rfl rfl ho112 hA171 (sg_J (k := 450) (o := (R 262 o0)) hs176) ?_
              refine tt_lcmp dX4_absorb_141 ?_
              refine tt_if_eq (tgt := 147) dX4_absorb_142 rfl (fun q179 => ?_) (fun q179 => ?_)
              · skip
                refine tt_iinc (j := 4) (v := (x4 + 1)) (ks := [0, 1, 2, 3, 4]) (L' := [(4, .int (x4 + 1)), (0, .ref o0), (1, .ref o1), (2, .int x2), (3, .int x3)]) dX4_absorb_147 rfl rfl (by decide) rfl ?_
                refine tt_goto (tgt := 5) dX4_absorb_150 rfl ?_
                have hF : Z_X4_absorb_p5 (fu + 1) R (sg S) o0 o1 x2 x3 x4 = Z_X4_absorb_p5 fu R d173 o0 o1 (x2) (x3) ((x4 + 1)) := by
                  subst hd174
                  subst hd165
                  subst hd141
                  subst hd130
                  subst hd119
                  exact zl_X4_absorb_p5_5 q101 q109 q144 (lc_ne_f q177) (lc_ne_f q178) (lc_eq_t q179)
                exact tt_loc (ks := [1, 2, 3, 4, 0]) rfl (ih hG169 (oa_af h0 hA171) (oa_af h1 hA171) (rg_w h158) (rg_w h3) (rg_w (rg_add (lo := 1) (hi := 24) h103 (⟨by decide, by decide⟩ : Rg 1 1 1))) (rk_af hR hA171) (lp_fu hfu h103) (fun r T x y h => hP r T x y (pv_tr hA171 h (by decide) (fun v T e => (((congrArg (fun q9 => Z_X4_absorb_p5 fu R q9 o0 o1 (x2) (x3) ((x4 + 1))) hs176).trans hF.symm) ▸ e)))))
              · skip
                refine tt_iconst (v := 1) dX4_absorb_145 rfl ?_
                refine tt_istore_n (ks := [0, 1, 2, 3, 4]) (L' := [(3, .int 1), (0, .ref o0), (1, .ref o1), (2, .int x2), (4, .int x4)]) dX4_absorb_146 (by decide) rfl ?_
                refine tt_iinc (j := 4) (v := (x4 + 1)) (ks := [0, 1, 2, 3, 4]) (L' := [(4, .int (x4 + 1)), (3, .int 1), (0, .ref o0), (1, .ref o1), (2, .int x2)]) dX4_absorb_147 rfl rfl (by decide) rfl ?_
                refine tt_goto (tgt := 5) dX4_absorb_150 rfl ?_
                have hF : Z_X4_absorb_p5 (fu + 1) R (sg S) o0 o1 x2 x3 x4 = Z_X4_absorb_p5 fu R d173 o0 o1 (x2) (1) ((x4 + 1)) := by
                  subst hd174
                  subst hd165
                  subst hd141
                  subst hd130
                  subst hd119
                  exact zl_X4_absorb_p5_6 q101 q109 q144 (lc_ne_f q177) (lc_ne_f q178) (lc_eq_f q179)
                exact tt_loc (ks := [2, 3, 4, 1, 0]) rfl (ih hG169 (oa_af h0 hA171) (oa_af h1 hA171) (rg_w h158) (rg_w (⟨by decide, by decide⟩ : Rg 1 1 1)) (rg_w (rg_add (lo := 1) (hi := 24) h103 (⟨by decide, by decide⟩ : Rg 1 1 1))) (rk_af hR hA171) (lp_fu hfu h103) (fun r T x y h => hP r T x y (pv_tr hA171 h (by decide) (fun v T e => (((congrArg (fun q9 => Z_X4_absorb_p5 fu R q9 o0 o1 (x2) (1) ((x4 + 1))) hs176).trans hF.symm) ▸ e)))))
      · skip
        have h180 : Rg 1 1 (Z_X8_isSameSpan R (sg S) o1 (R 259 o0) (x4)) := rg_ne_lo h107 (⟨by decide, by decide⟩ : Rg 0 0 0) q109
        refine tt_goto (tgt := 147) dX4_absorb_25 rfl ?_
        refine tt_iinc (j := 4) (v := (x4 + 1)) (ks := [0, 1, 2, 3, 4]) (L' := [(4, .int (x4 + 1)), (0, .ref o0), (1, .ref o1), (2, .int x2), (3, .int x3)]) dX4_absorb_147 rfl rfl (by decide) rfl ?_
        refine tt_goto (tgt := 5) dX4_absorb_150 rfl ?_
        have hF : Z_X4_absorb_p5 (fu + 1) R (sg S) o0 o1 x2 x3 x4 = Z_X4_absorb_p5 fu R (sg S) o0 o1 (x2) (x3) ((x4 + 1)) := by
          exact zl_X4_absorb_p5_9 q101 q109
        exact tt_loc (ks := [1, 2, 3, 4, 0]) rfl (ih hG (oa_af h0 hA) (oa_af h1 hA) (rg_w h2) (rg_w h3) (rg_w (rg_add (lo := 1) (hi := 24) h103 (⟨by decide, by decide⟩ : Rg 1 1 1))) hR (lp_fu hfu h103) (fun r T x y h => hP r T x y (pv_tr hA h (by decide) (fun v T e => (((congrArg (fun q9 => Z_X4_absorb_p5 fu R q9 o0 o1 (x2) (x3) ((x4 + 1))) (show sg S = (sg S) from rfl)).trans hF.symm) ▸ e)))))
def Z_X4_absorb (R : Nat → Nat → Nat) (σ : SG) (o0 : Nat) (o1 : Nat) (x2 : Int32) : SG × Int32 :=
  Z_X4_absorb_p5 25 R σ o0 o1 (x2) (0) (0)
theorem zl_X4_absorb_0 {R : Nat → Nat → Nat} {σ : SG} {o0 : Nat} {o1 : Nat} {x2 : Int32}  : Z_X4_absorb R σ o0 o1 x2 = Z_X4_absorb_p5 25 R σ o0 o1 (x2) (0) (0) := rfl
set_option maxHeartbeats 40000000 in
theorem cz_X4_absorb {xi : SX} {S : Hp} {E : List Nat} {kc nc : Nat} {P : Po} {o0 : Nat} {o1 : Nat} {x2 : Int32} {R : Nat → Nat → Nat} (hG : GI S E) (h0 : Oa S E 4 0 o0) (h1 : Oa S E 8 0 o1) (h2 : Rg 0 1 x2) (hR : RK S R) (hP : ∀ r T x y, PV E [515, 516, 517, 9987, 9994] S kc nc (rI 0 1) (fun v T => v = some (.int (Z_X4_absorb R (sg S) o0 o1 x2).2) ∧ sg T = (Z_X4_absorb R (sg S) o0 o1 x2).1) [] r T x y → P r T x y) : TT xi M_X4_absorb 0 [(0, .ref o0), (1, .ref o1), (2, .int x2)] [] S kc nc P := by
  have hA : Af E [515, 516, 517, 9987, 9994] S S := af_rf
  refine tt_iconst (v := 0) dX4_absorb_0 rfl ?_
  refine tt_istore_n (ks := [0, 1, 2, 3]) (L' := [(3, .int 0), (0, .ref o0), (1, .ref o1), (2, .int x2)]) dX4_absorb_1 (by decide) rfl ?_
  refine tt_iconst (v := 0) dX4_absorb_2 rfl ?_
  refine tt_istore (ks := [0, 1, 2, 3, 4]) (L' := [(4, .int 0), (3, .int 0), (0, .ref o0), (1, .ref o1), (2, .int x2)]) dX4_absorb_3 (by decide) rfl ?_
  have hF : Z_X4_absorb R (sg S) o0 o1 x2 = Z_X4_absorb_p5 25 R (sg S) o0 o1 (x2) (0) (0) := by
    rfl
  exact tt_loc (ks := [2, 3, 4, 1, 0]) rfl (cz_X4_absorb_p5 25 hG (oa_af h0 hA) (oa_af h1 hA) (rg_w h2) (rg_w (⟨by decide, by decide⟩ : Rg 0 0 0)) (rg_w (⟨by decide, by decide⟩ : Rg 0 0 0)) hR (by decide) (fun r T x y h => hP r T x y (pv_tr hA h (by decide) (fun v T e => (((congrArg (fun q9 => Z_X4_absorb_p5 25 R q9 o0 o1 (x2) (0) (0)) (show sg S = (sg S) from rfl)).trans hF.symm) ▸ e)))))
