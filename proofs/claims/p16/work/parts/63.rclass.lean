def G_X9_isLocation  (x0 : Int32) : Int32 :=
  if x0 < 0 then
    0
  else
    if 24 ≤ x0 then
      0
    else
      1
theorem g_X9_isLocation_0  {x0 : Int32} (h0 : x0 < 0) : G_X9_isLocation  x0 = 0 := by unfold G_X9_isLocation; exact if_pos h0
theorem g_X9_isLocation_1  {x0 : Int32} (h0 : ¬ x0 < 0) (h1 : 24 ≤ x0) : G_X9_isLocation  x0 = 0 := by unfold G_X9_isLocation; exact Eq.trans (if_neg h0) (if_pos h1)
theorem g_X9_isLocation_2  {x0 : Int32} (h0 : ¬ x0 < 0) (h1 : ¬ 24 ≤ x0) : G_X9_isLocation  x0 = 1 := by unfold G_X9_isLocation; exact Eq.trans (if_neg h0) (if_neg h1)
set_option maxHeartbeats 40000000 in
theorem cr_X9_isLocation {xi : SX} {S : Hp} {E : List Nat} {kc nc : Nat} {P : Po} {x0 : Int32} (hG : GI S E)  (hP : ∀ r T x y, PV E [] S kc nc (rI 0 1) (fun v T => T = S ∧ v = some (.int (G_X9_isLocation  x0))) [] r T x y → P r T x y) : TT xi M_X9_isLocation 0 [(0, .int x0)] [] S kc nc P := by
  have hA : Af E [] S S := af_rf
  refine tt_iload_n (j := 0) dX9_isLocation_0 rfl ?_
  refine tt_if_lt (tgt := 14) dX9_isLocation_1 rfl (fun q101 => ?_) (fun q101 => ?_)
  · skip
    have h102 : Rg (-2147483648) (-1) x0 := rg_lt_l (rg_all x0) (⟨by decide, by decide⟩ : Rg 0 0 0) q101
    refine tt_iconst (v := 0) dX9_isLocation_14 rfl ?_
    have hF : G_X9_isLocation  x0 = 0 := by
      exact g_X9_isLocation_0 q101
    exact tt_ireturn dX9_isLocation_15 .boolean rfl rfl (hP _ _ _ _ ⟨hG, hA, Or.inl ⟨_, rfl, ⟨_, rfl, rg_w (⟨by decide, by decide⟩ : Rg 0 0 0)⟩, ⟨rfl, congrArg (fun q => some (Value.int q)) hF.symm⟩, rfl, rfl⟩⟩)
  · skip
    have h103 : Rg 0 2147483647 x0 := rg_le_r (⟨by decide, by decide⟩ : Rg 0 0 0) (rg_all x0) (nlt_le q101)
    refine tt_iload_n (j := 0) dX9_isLocation_4 rfl ?_
    refine tt_bipush (v := 24) dX9_isLocation_5 rfl ?_
    refine tt_icmp_ge (tgt := 14) dX9_isLocation_7 rfl (fun q104 => ?_) (fun q104 => ?_)
    · skip
      have h105 : Rg 24 2147483647 x0 := rg_le_r (⟨by decide, by decide⟩ : Rg 24 24 24) h103 q104
      refine tt_iconst (v := 0) dX9_isLocation_14 rfl ?_
      have hF : G_X9_isLocation  x0 = 0 := by
        exact g_X9_isLocation_1 q101 q104
      exact tt_ireturn dX9_isLocation_15 .boolean rfl rfl (hP _ _ _ _ ⟨hG, hA, Or.inl ⟨_, rfl, ⟨_, rfl, rg_w (⟨by decide, by decide⟩ : Rg 0 0 0)⟩, ⟨rfl, congrArg (fun q => some (Value.int q)) hF.symm⟩, rfl, rfl⟩⟩)
    · skip
      have h106 : Rg 0 23 x0 := rg_lt_l h103 (⟨by decide, by decide⟩ : Rg 24 24 24) (nle_lt q104)
      refine tt_iconst (v := 1) dX9_isLocation_10 rfl ?_
      refine tt_goto (tgt := 15) dX9_isLocation_11 rfl ?_
      have hF : G_X9_isLocation  x0 = 1 := by
        exact g_X9_isLocation_2 q101 q104
      exact tt_ireturn dX9_isLocation_15 .boolean rfl rfl (hP _ _ _ _ ⟨hG, hA, Or.inl ⟨_, rfl, ⟨_, rfl, rg_w (⟨by decide, by decide⟩ : Rg 1 1 1)⟩, ⟨rfl, congrArg (fun q => some (Value.int q)) hF.symm⟩, rfl, rfl⟩⟩)
theorem il_rg {x : Int32} (h : ¬ G_X9_isLocation x = 0) : Rg 0 23 x := by
  by_cases h1 : x < 0
  · exact absurd (g_X9_isLocation_0 h1) h
  · by_cases h2 : 24 ≤ x
    · exact absurd (g_X9_isLocation_1 h1 h2) h
    · have a := Int32.le_iff_toInt_le.mp (Int32.not_lt.mp h1)
      have b := Int32.lt_iff_toInt_lt.mp (Int32.not_le.mp h2)
      rw [show (0 : Int32).toInt = 0 from rfl] at a
      rw [show (24 : Int32).toInt = 24 from rfl] at b
      exact ⟨a, by omega⟩
def G_holds (n : Int32) (y : Int64) : Int32 := if y < 0 then 0 else if y < n.toInt64 then 1 else 0
set_option maxHeartbeats 4000000 in
theorem cr_X1_holds {xi : SX} {S : Hp} {E : List Nat} {kc nc : Nat} {P : Po} {o0 : Nat} {y1 : Int64} (hG : GI S E) (h0 : Oa S E 1 0 o0) (hP : ∀ r T x y, PV E [] S kc nc (rI 0 1) (fun v T => T = S ∧ ∀ z, v = some (.int z) → z = G_holds (hp_I S 65 o0) y1) [] r T x y → P r T x y) : TT xi M_X1_holds 0 [(0, .ref o0), (1, .long y1)] [] S kc nc P := by
  have hA : Af E [] S S := af_rf
  refine tt_lload_n (j := 1) dX1_holds_0 rfl ?_
  refine tt_lconst (v := 0) dX1_holds_1 rfl ?_
  refine tt_lcmp dX1_holds_2 ?_
  refine tt_if_lt (tgt := 20) dX1_holds_3 rfl (fun q101 => ?_) (fun q101 => ?_)
  · skip
    have h102 : Rl (-9223372036854775808) (-1) y1 := rl_lt_l (rl_all y1) (⟨by decide, by decide⟩ : Rl 0 0 0) (lc_lt_t q101)
    refine tt_iconst (v := 0) dX1_holds_20 rfl ?_
    exact tt_ireturn dX1_holds_21 .boolean rfl rfl (hP _ _ _ _ ⟨hG, hA, Or.inl ⟨_, rfl, ⟨_, rfl, rg_w (⟨by decide, by decide⟩ : Rg 0 0 0)⟩, ⟨rfl, fun z e => (ei_v z e).trans (if_pos (lc_lt_t q101)).symm⟩, rfl, rfl⟩⟩)
  · skip
    have h103 : Rl 0 9223372036854775807 y1 := rl_le_r (⟨by decide, by decide⟩ : Rl 0 0 0) (rl_all y1) (lc_lt_f q101)
    refine tt_lload_n (j := 1) dX1_holds_6 rfl ?_
    refine tt_aload_n (j := 0) dX1_holds_7 rfl ?_
    refine tt_getI (id := 65) dX1_holds_8 fl_1_15 rfl rfl (ob_af h0 hA) ?_
    refine tt_i2l dX1_holds_11 ?_
    refine tt_lcmp dX1_holds_12 ?_
    refine tt_if_ge (tgt := 20) dX1_holds_13 rfl (fun q104 => ?_) (fun q104 => ?_)
    · skip
      refine tt_iconst (v := 0) dX1_holds_20 rfl ?_
      exact tt_ireturn dX1_holds_21 .boolean rfl rfl (hP _ _ _ _ ⟨hG, hA, Or.inl ⟨_, rfl, ⟨_, rfl, rg_w (⟨by decide, by decide⟩ : Rg 0 0 0)⟩, ⟨rfl, fun z e => (ei_v z e).trans (Eq.trans (if_neg (Int64.not_lt.mpr (lc_lt_f q101))) (if_neg (Int64.not_lt.mpr (lc_ge_t q104)))).symm⟩, rfl, rfl⟩⟩)
    · skip
      have h105 : Rl 0 199 y1 := rl_lt_l h103 (rg_i2l (gi_I (k := 65) hG (oa_af h0 hA) 0 200)) (lc_ge_f q104)
      have h106 : Rl 1 200 ((hp_I S 65 o0) : Int32).toInt64 := rl_lt_r h103 (rg_i2l (gi_I (k := 65) hG (oa_af h0 hA) 0 200)) (lc_ge_f q104)
      refine tt_iconst (v := 1) dX1_holds_16 rfl ?_
      refine tt_goto (tgt := 21) dX1_holds_17 rfl ?_
      exact tt_ireturn dX1_holds_21 .boolean rfl rfl (hP _ _ _ _ ⟨hG, hA, Or.inl ⟨_, rfl, ⟨_, rfl, rg_w (⟨by decide, by decide⟩ : Rg 1 1 1)⟩, ⟨rfl, fun z e => (ei_v z e).trans (Eq.trans (if_neg (Int64.not_lt.mpr (lc_lt_f q101))) (if_pos (lc_ge_f q104))).symm⟩, rfl, rfl⟩⟩)
def G_J13_compare_74951  (y0 : Int64) (y2 : Int64) : Int32 :=
  if y0 < y2 then
    (-1)
  else
    if y0 = y2 then
      0
    else
      1
theorem g_J13_compare_74951_0  {y0 : Int64} {y2 : Int64} (h0 : y0 < y2) : G_J13_compare_74951  y0 y2 = (-1) := by unfold G_J13_compare_74951; exact if_pos h0
theorem g_J13_compare_74951_1  {y0 : Int64} {y2 : Int64} (h0 : ¬ y0 < y2) (h1 : y0 = y2) : G_J13_compare_74951  y0 y2 = 0 := by unfold G_J13_compare_74951; exact Eq.trans (if_neg h0) (if_pos h1)
theorem g_J13_compare_74951_2  {y0 : Int64} {y2 : Int64} (h0 : ¬ y0 < y2) (h1 : ¬ y0 = y2) : G_J13_compare_74951  y0 y2 = 1 := by unfold G_J13_compare_74951; exact Eq.trans (if_neg h0) (if_neg h1)
set_option maxHeartbeats 40000000 in
theorem cr_J13_compare_74951 {xi : SX} {S : Hp} {E : List Nat} {kc nc : Nat} {P : Po} {y0 : Int64} {y2 : Int64} (hG : GI S E)  (hP : ∀ r T x y, PV E [] S kc nc (rI (-2147483648) 2147483647) (fun v T => T = S ∧ v = some (.int (G_J13_compare_74951  y0 y2))) [] r T x y → P r T x y) : TT xi M_J13_compare_74951 0 [(0, .long y0), (2, .long y2)] [] S kc nc P := by
  have hA : Af E [] S S := af_rf
  refine tt_lload_n (j := 0) dJ13_compare_74951_0 rfl ?_
  refine tt_lload_n (j := 1) dJ13_compare_74951_1 rfl ?_
  refine tt_lcmp dJ13_compare_74951_2 ?_
  refine tt_if_ge (tgt := 10) dJ13_compare_74951_3 rfl (fun q101 => ?_) (fun q101 => ?_)
  · skip
    refine tt_lload_n (j := 0) dJ13_compare_74951_10 rfl ?_
    refine tt_lload_n (j := 1) dJ13_compare_74951_11 rfl ?_
    refine tt_lcmp dJ13_compare_74951_12 ?_
    refine tt_if_ne (tgt := 20) dJ13_compare_74951_13 rfl (fun q102 => ?_) (fun q102 => ?_)
    · skip
      refine tt_iconst (v := 1) dJ13_compare_74951_20 rfl ?_
      have hF : G_J13_compare_74951  y0 y2 = 1 := by
        exact g_J13_compare_74951_2 (Int64.not_lt.mpr (lc_ge_t q101)) (lc_ne_t q102)
      exact tt_ireturn dJ13_compare_74951_21 .int rfl rfl (hP _ _ _ _ ⟨hG, hA, Or.inl ⟨_, rfl, ⟨_, rfl, rg_w (⟨by decide, by decide⟩ : Rg 1 1 1)⟩, ⟨rfl, congrArg (fun q => some (Value.int q)) hF.symm⟩, rfl, rfl⟩⟩)
    · skip
      refine tt_iconst (v := 0) dJ13_compare_74951_16 rfl ?_
      refine tt_goto (tgt := 21) dJ13_compare_74951_17 rfl ?_
      have hF : G_J13_compare_74951  y0 y2 = 0 := by
        exact g_J13_compare_74951_1 (Int64.not_lt.mpr (lc_ge_t q101)) (lc_ne_f q102)
      exact tt_ireturn dJ13_compare_74951_21 .int rfl rfl (hP _ _ _ _ ⟨hG, hA, Or.inl ⟨_, rfl, ⟨_, rfl, rg_w (⟨by decide, by decide⟩ : Rg 0 0 0)⟩, ⟨rfl, congrArg (fun q => some (Value.int q)) hF.symm⟩, rfl, rfl⟩⟩)
  · skip
    refine tt_iconst (v := (-1)) dJ13_compare_74951_6 rfl ?_
    refine tt_goto (tgt := 21) dJ13_compare_74951_7 rfl ?_
    have hF : G_J13_compare_74951  y0 y2 = (-1) := by
      exact g_J13_compare_74951_0 (lc_ge_f q101)
    exact tt_ireturn dJ13_compare_74951_21 .int rfl rfl (hP _ _ _ _ ⟨hG, hA, Or.inl ⟨_, rfl, ⟨_, rfl, rg_w (⟨by decide, by decide⟩ : Rg (-1) (-1) (-1))⟩, ⟨rfl, congrArg (fun q => some (Value.int q)) hF.symm⟩, rfl, rfl⟩⟩)
def G_J13_compareUnsigned_74951  (y0 : Int64) (y2 : Int64) : Int32 :=
  (G_J13_compare_74951 ((y0 + (-9223372036854775808))) ((y2 + (-9223372036854775808))))
theorem g_J13_compareUnsigned_74951_0  {y0 : Int64} {y2 : Int64}  : G_J13_compareUnsigned_74951  y0 y2 = (G_J13_compare_74951 ((y0 + (-9223372036854775808))) ((y2 + (-9223372036854775808)))) := rfl
set_option maxHeartbeats 40000000 in
theorem cr_J13_compareUnsigned_74951 {xi : SX} {S : Hp} {E : List Nat} {kc nc : Nat} {P : Po} {y0 : Int64} {y2 : Int64} (hG : GI S E)  (hP : ∀ r T x y, PV E [] S kc nc (rI (-2147483648) 2147483647) (fun v T => T = S ∧ v = some (.int (G_J13_compareUnsigned_74951  y0 y2))) [] r T x y → P r T x y) : TT xi M_J13_compareUnsigned_74951 0 [(0, .long y0), (2, .long y2)] [] S kc nc P := by
  have hA : Af E [] S S := af_rf
  refine tt_lload_n (j := 0) dJ13_compareUnsigned_74951_0 rfl ?_
  refine tt_ldc2 (v := (-9223372036854775808)) dJ13_compareUnsigned_74951_1 kl_J13_168 ?_
  refine tt_ladd dJ13_compareUnsigned_74951_4 ?_
  refine tt_lload_n (j := 1) dJ13_compareUnsigned_74951_5 rfl ?_
  refine tt_ldc2 (v := (-9223372036854775808)) dJ13_compareUnsigned_74951_6 kl_J13_168 ?_
  refine tt_ladd dJ13_compareUnsigned_74951_9 ?_
  refine gt_SIp (As := [.long (y0 + (-9223372036854775808)), .long (y2 + (-9223372036854775808))]) dJ13_compareUnsigned_74951_10 ca_J13_302 ⟨by decide, by decide⟩ hA (Nat.le_of_ble_eq_true rfl) (Nat.le_of_ble_eq_true rfl) (by decide) (cr_J13_compare_74951 hG  (fun _ _ _ _ h => h)) rfl (fun _ h => nomatch h) (fun _ _ q => q.1) (fun x101 h102 hx103 => ?_)
  obtain rfl : G_J13_compare_74951 ((y0 + (-9223372036854775808))) ((y2 + (-9223372036854775808))) = x101 := (ei_w hx103.2).symm
  have hF : G_J13_compareUnsigned_74951  y0 y2 = (G_J13_compare_74951 ((y0 + (-9223372036854775808))) ((y2 + (-9223372036854775808)))) := by
    rfl
  exact tt_ireturn dJ13_compareUnsigned_74951_13 .int rfl rfl (hP _ _ _ _ ⟨hG, hA, Or.inl ⟨_, rfl, ⟨_, rfl, rg_w h102⟩, ⟨rfl, congrArg (fun q => some (Value.int q)) hF.symm⟩, rfl, rfl⟩⟩)
def G_X6_atWidth (q : AU) (w : RS) (y1 : Int64) : Int64 :=
  if (u1 q) = 64 then
    y1
  else
    ((y1 : Int64).toInt32 : Int32).toInt64
theorem g_X6_atWidth_0 {q : AU} {w : RS} {y1 : Int64} (h0 : (u1 q) = 64) : G_X6_atWidth q w y1 = y1 := by unfold G_X6_atWidth; exact if_pos h0
theorem g_X6_atWidth_1 {q : AU} {w : RS} {y1 : Int64} (h0 : ¬ (u1 q) = 64) : G_X6_atWidth q w y1 = ((y1 : Int64).toInt32 : Int32).toInt64 := by unfold G_X6_atWidth; exact if_neg h0
set_option maxHeartbeats 40000000 in
theorem cr_X6_atWidth {xi : SX} {S : Hp} {E : List Nat} {kc nc : Nat} {P : Po} {o0 : Nat} {y1 : Int64} {i1 hd : Nat} {bs : Nat → Int32} {n : Int32} (hG : GI S E) (hc : RC S E o0 i1 hd bs n) (hP : ∀ r T x y, PV E [] S kc nc rJ (fun v T => T = S ∧ v = some (.long (G_X6_atWidth (AC S i1) (QC S o0 hd) y1))) [] r T x y → P r T x y) : TT xi M_X6_atWidth 0 [(0, .ref o0), (1, .long y1)] [] S kc nc P := by
  obtain ⟨h0, hri, hoi, hrh, hoh, hb, cb, hrc, hoc, rfl⟩ := id hc
  have hA : Af E [] S S := af_rf
  refine tt_aload_n (j := 0) dX6_atWidth_0 rfl ?_
  refine gt_gR (id := 385) dX6_atWidth_1 fl_6_26 rfl rfl h0 hA hri ?_
  refine gt_gI (id := 201) (v := (u1 (AC S i1))) dX6_atWidth_4 fl_6_127 rfl rfl hoi hA (uC_201 (T := S) (o := i1) rfl) ?_
  refine tt_bipush (v := 64) dX6_atWidth_7 rfl ?_
  refine tt_icmp_ne (tgt := 16) dX6_atWidth_9 rfl (fun q101 => ?_) (fun q101 => ?_)
  · skip
    refine tt_lload_n (j := 1) dX6_atWidth_16 rfl ?_
    refine tt_l2i dX6_atWidth_17 ?_
    refine tt_i2l dX6_atWidth_18 ?_
    have hF : G_X6_atWidth (AC S i1) (QC S o0 hd) y1 = ((y1 : Int64).toInt32 : Int32).toInt64 := by
      exact g_X6_atWidth_1 q101
    exact tt_lreturn dX6_atWidth_19 rfl (hP _ _ _ _ ⟨hG, hA, Or.inl ⟨_, rfl, ⟨_, rfl⟩, ⟨rfl, congrArg (fun q => some (Value.long q)) hF.symm⟩, rfl, rfl⟩⟩)
  · skip
    have h102 : Rg 64 64 (u1 (AC S i1)) := rg_eq_l (rg_all (u1 (AC S i1))) (⟨by decide, by decide⟩ : Rg 64 64 64) q101
    refine tt_lload_n (j := 1) dX6_atWidth_12 rfl ?_
    refine tt_goto (tgt := 19) dX6_atWidth_13 rfl ?_
    have hF : G_X6_atWidth (AC S i1) (QC S o0 hd) y1 = y1 := by
      exact g_X6_atWidth_0 q101
    exact tt_lreturn dX6_atWidth_19 rfl (hP _ _ _ _ ⟨hG, hA, Or.inl ⟨_, rfl, ⟨_, rfl⟩, ⟨rfl, congrArg (fun q => some (Value.long q)) hF.symm⟩, rfl, rfl⟩⟩)
def G_X6_read (q : AU) (w : RS) (x1 : Int32) : Int64 :=
  if (G_X9_isLocation (x1)) = 0 then
    0
  else
    ((rA w) (x1 : Int32).toNatClampNeg)
theorem g_X6_read_0 {q : AU} {w : RS} {x1 : Int32} (h0 : (G_X9_isLocation (x1)) = 0) : G_X6_read q w x1 = 0 := by unfold G_X6_read; exact if_pos h0
theorem g_X6_read_1 {q : AU} {w : RS} {x1 : Int32} (h0 : ¬ (G_X9_isLocation (x1)) = 0) : G_X6_read q w x1 = ((rA w) (x1 : Int32).toNatClampNeg) := by unfold G_X6_read; exact if_neg h0
set_option maxHeartbeats 40000000 in
theorem cr_X6_read {xi : SX} {S : Hp} {E : List Nat} {kc nc : Nat} {P : Po} {o0 : Nat} {x1 : Int32} {i1 hd : Nat} {bs : Nat → Int32} {n : Int32} (hG : GI S E) (hc : RC S E o0 i1 hd bs n) (hP : ∀ r T x y, PV E [] S kc nc rJ (fun v T => T = S ∧ v = some (.long (G_X6_read (AC S i1) (QC S o0 hd) x1))) [] r T x y → P r T x y) : TT xi M_X6_read 0 [(0, .ref o0), (1, .int x1)] [] S kc nc P := by
  obtain ⟨h0, hri, hoi, hrh, hoh, hb, cb, hrc, hoc, rfl⟩ := id hc
  have hA : Af E [] S S := af_rf
  refine tt_iload_n (j := 1) dX6_read_0 rfl ?_
  refine gt_SNIp (As := [.int x1]) dX6_read_1 ca_X6_30 ⟨by decide, by decide⟩ hA (Nat.le_of_ble_eq_true rfl) (Nat.le_of_ble_eq_true rfl) (by decide) (cr_X9_isLocation hG  (fun _ _ _ _ h => h)) (fun _ _ q => q.1) (fun x101 h102 hx103 => ?_)
  obtain rfl : G_X9_isLocation (x1) = x101 := (ei_w hx103.2).symm
  refine tt_if_eq (tgt := 16) dX6_read_4 rfl (fun q104 => ?_) (fun q104 => ?_)
  · skip
    have h105 : Rg 0 0 (G_X9_isLocation (x1)) := rg_eq_l h102 (⟨by decide, by decide⟩ : Rg 0 0 0) q104
    refine tt_lconst (v := 0) dX6_read_16 rfl ?_
    have hF : G_X6_read (AC S i1) (QC S o0 hd) x1 = 0 := by
      exact g_X6_read_0 q104
    exact tt_lreturn dX6_read_17 rfl (hP _ _ _ _ ⟨hG, hA, Or.inl ⟨_, rfl, ⟨_, rfl⟩, ⟨rfl, congrArg (fun q => some (Value.long q)) hF.symm⟩, rfl, rfl⟩⟩)
  · skip
    have h106 : Rg 0 23 x1 := il_rg q104
    refine tt_aload_n (j := 0) dX6_read_7 rfl ?_
    refine gt_gR (id := 387) dX6_read_8 fl_6_15 rfl rfl h0 hA hrh ?_
    refine tt_iload_n (j := 1) dX6_read_11 rfl ?_
    refine gt_lLv (v := ((rA (QC S o0 hd)) (x1 : Int32).toNatClampNeg)) dX6_read_12 hoh hA (rg_in h106) (congrFun (show hp_j S hd = (rA (QC S o0 hd)) from rfl) _) ?_
    refine tt_goto (tgt := 17) dX6_read_13 rfl ?_
    have hF : G_X6_read (AC S i1) (QC S o0 hd) x1 = ((rA (QC S o0 hd)) (x1 : Int32).toNatClampNeg) := by
      exact g_X6_read_1 q104
    exact tt_lreturn dX6_read_17 rfl (hP _ _ _ _ ⟨hG, hA, Or.inl ⟨_, rfl, ⟨_, rfl⟩, ⟨rfl, congrArg (fun q => some (Value.long q)) hF.symm⟩, rfl, rfl⟩⟩)
def G_X6_noteBits (q : AU) (w : RS) (y1 : Int64) : RS × Int64 :=
  if (G_X6_atWidth q w (y1)) = 0 then
    if (G_X6_atWidth q w (y1)) < 0 then
      (((r0 w), 1, 1, 1, 0, 0, (rA w)), (G_X6_atWidth q w (y1)))
    else
      (((r0 w), 1, 1, 0, 0, 0, (rA w)), (G_X6_atWidth q w (y1)))
  else
    if (G_X6_atWidth q w (y1)) < 0 then
      (((r0 w), 1, 0, 1, 0, 0, (rA w)), (G_X6_atWidth q w (y1)))
    else
      (((r0 w), 1, 0, 0, 0, 0, (rA w)), (G_X6_atWidth q w (y1)))
theorem g_X6_noteBits_0 {q : AU} {w : RS} {y1 : Int64} (h0 : (G_X6_atWidth q w (y1)) = 0) (h1 : (G_X6_atWidth q w (y1)) < 0) : G_X6_noteBits q w y1 = (((r0 w), 1, 1, 1, 0, 0, (rA w)), (G_X6_atWidth q w (y1))) := by unfold G_X6_noteBits; exact Eq.trans (if_pos h0) (if_pos h1)
theorem g_X6_noteBits_1 {q : AU} {w : RS} {y1 : Int64} (h0 : (G_X6_atWidth q w (y1)) = 0) (h1 : ¬ (G_X6_atWidth q w (y1)) < 0) : G_X6_noteBits q w y1 = (((r0 w), 1, 1, 0, 0, 0, (rA w)), (G_X6_atWidth q w (y1))) := by unfold G_X6_noteBits; exact Eq.trans (if_pos h0) (if_neg h1)
theorem g_X6_noteBits_2 {q : AU} {w : RS} {y1 : Int64} (h0 : ¬ (G_X6_atWidth q w (y1)) = 0) (h1 : (G_X6_atWidth q w (y1)) < 0) : G_X6_noteBits q w y1 = (((r0 w), 1, 0, 1, 0, 0, (rA w)), (G_X6_atWidth q w (y1))) := by unfold G_X6_noteBits; exact Eq.trans (if_neg h0) (if_pos h1)
theorem g_X6_noteBits_3 {q : AU} {w : RS} {y1 : Int64} (h0 : ¬ (G_X6_atWidth q w (y1)) = 0) (h1 : ¬ (G_X6_atWidth q w (y1)) < 0) : G_X6_noteBits q w y1 = (((r0 w), 1, 0, 0, 0, 0, (rA w)), (G_X6_atWidth q w (y1))) := by unfold G_X6_noteBits; exact Eq.trans (if_neg h0) (if_neg h1)
set_option maxHeartbeats 40000000 in
theorem cr_X6_noteBits {xi : SX} {S : Hp} {E : List Nat} {kc nc : Nat} {P : Po} {o0 : Nat} {y1 : Int64} {i1 hd : Nat} {bs : Nat → Int32} {n : Int32} (hG : GI S E) (hc : RC S E o0 i1 hd bs n) (hP : ∀ r T x y, PV E [389, 390, 391, 392, 393] S kc nc rJ (fun v T => YJC (G_X6_noteBits (AC S i1) (QC S o0 hd) y1) T o0 hd v) [] r T x y → P r T x y) : TT xi M_X6_noteBits 0 [(0, .ref o0), (1, .long y1)] [] S kc nc P := by
  obtain ⟨h0, hri, hoi, hrh, hoh, hb, cb, hrc, hoc, rfl⟩ := id hc
  have hA : Af E [389, 390, 391, 392, 393] S S := af_rf
  refine tt_aload_n (j := 0) dX6_noteBits_0 rfl ?_
  refine tt_lload_n (j := 1) dX6_noteBits_1 rfl ?_
  refine gt_VJp (As := [.long y1]) dX6_noteBits_2 ca_X6_98 ⟨by decide, by decide⟩ h0 hA rfl (Nat.le_of_ble_eq_true rfl) (Nat.le_of_ble_eq_true rfl) (by decide) (cr_X6_atWidth hG (rc_af hc hA) (fun _ _ _ _ h => h)) rfl (fun _ h => nomatch h) (fun _ _ q => q.1) (fun y101 hx103 => ?_)
  obtain rfl : G_X6_atWidth (AC S i1) (QC S o0 hd) (y1) = y101 := ((el_w hx103.2).trans ((congrArg (fun q9 => G_X6_atWidth q9 (QC S o0 hd) (y1)) (aC_mk (uC_200 (T := S) (o := i1) rfl) (uC_201 (T := S) (o := i1) rfl) (uC_202 (T := S) (o := i1) rfl) (uC_203 (T := S) (o := i1) rfl) (uC_204 (T := S) (o := i1) rfl) (uC_199 (T := S) (o := i1) rfl))).trans (congrArg (fun q9 => G_X6_atWidth (AC S i1) q9 (y1)) (qC_mk (tC_388 (T := S) (o := o0) (a := hd) rfl) (tC_389 (T := S) (o := o0) (a := hd) rfl) (tC_390 (T := S) (o := o0) (a := hd) rfl) (tC_391 (T := S) (o := o0) (a := hd) rfl) (tC_392 (T := S) (o := o0) (a := hd) rfl) (tC_393 (T := S) (o := o0) (a := hd) rfl) rfl)))).symm
  refine tt_lstore_n (ks := [0, 1, 2]) (L' := [(3, .long (G_X6_atWidth (AC S i1) (QC S o0 hd) (y1))), (0, .ref o0), (1, .long y1)]) dX6_noteBits_5 (by decide) rfl ?_
  refine tt_aload_n (j := 1) dX6_noteBits_6 rfl ?_
  refine tt_iconst (v := 1) dX6_noteBits_7 rfl ?_
  refine gt_pIj (id := 389) (x := 1) dX6_noteBits_8 fl_6_40 rfl rfl h0 hA rfl rfl rfl (gp_Ir hG (⟨by decide, by decide⟩ : Rg 1 1 1)) (by decide) (fun h => absurd h (by decide)) (fun h => absurd h (by decide)) (fun S104 hG105 hA106 e107 f108 er109 ej110 => ?_)
  refine tt_aload_n (j := 1) dX6_noteBits_11 rfl ?_
  refine tt_lload_n (j := 0) dX6_noteBits_12 rfl ?_
  refine tt_lconst (v := 0) dX6_noteBits_13 rfl ?_
  refine tt_lcmp dX6_noteBits_14 ?_
  refine tt_if_ne (tgt := 22) dX6_noteBits_15 rfl (fun q111 => ?_) (fun q111 => ?_)
  · skip
    refine tt_iconst (v := 0) dX6_noteBits_22 rfl ?_
    refine gt_pIj (id := 390) (x := 0) dX6_noteBits_23 fl_6_85 rfl rfl h0 hA106 rfl rfl rfl (gp_Ir hG105 (⟨by decide, by decide⟩ : Rg 0 0 0)) (by decide) (fun h => absurd h (by decide)) (fun h => absurd h (by decide)) (fun S112 hG113 hA114 e115 f116 er117 ej118 => ?_)
    refine tt_aload_n (j := 1) dX6_noteBits_26 rfl ?_
    refine tt_lload_n (j := 0) dX6_noteBits_27 rfl ?_
    refine tt_lconst (v := 0) dX6_noteBits_28 rfl ?_
    refine tt_lcmp dX6_noteBits_29 ?_
    refine tt_if_ge (tgt := 37) dX6_noteBits_30 rfl (fun q119 => ?_) (fun q119 => ?_)
    · skip
      refine tt_iconst (v := 0) dX6_noteBits_37 rfl ?_
      refine gt_pIj (id := 391) (x := 0) dX6_noteBits_38 fl_6_88 rfl rfl h0 hA114 rfl rfl rfl (gp_Ir hG113 (⟨by decide, by decide⟩ : Rg 0 0 0)) (by decide) (fun h => absurd h (by decide)) (fun h => absurd h (by decide)) (fun S120 hG121 hA122 e123 f124 er125 ej126 => ?_)
      refine tt_aload_n (j := 1) dX6_noteBits_41 rfl ?_
      refine tt_iconst (v := 0) dX6_noteBits_42 rfl ?_
      refine gt_pIj (id := 392) (x := 0) dX6_noteBits_43 fl_6_82 rfl rfl h0 hA122 rfl rfl rfl (gp_Ir hG121 (⟨by decide, by decide⟩ : Rg 0 0 0)) (by decide) (fun h => absurd h (by decide)) (fun h => absurd h (by decide)) (fun S127 hG128 hA129 e130 f131 er132 ej133 => ?_)
      refine tt_aload_n (j := 1) dX6_noteBits_46 rfl ?_
      refine tt_iconst (v := 0) dX6_noteBits_47 rfl ?_
      refine gt_pIj (id := 393) (x := 0) dX6_noteBits_48 fl_6_79 rfl rfl h0 hA129 rfl rfl rfl (gp_Ir hG128 (⟨by decide, by decide⟩ : Rg 0 0 0)) (by decide) (fun h => absurd h (by decide)) (fun h => absurd h (by decide)) (fun S134 hG135 hA136 e137 f138 er139 ej140 => ?_)
      refine tt_lload_n (j := 0) dX6_noteBits_51 rfl ?_
      have hF : G_X6_noteBits (AC S i1) (QC S o0 hd) y1 = (((r0 (QC S o0 hd)), 1, 0, 0, 0, 0, (rA (QC S o0 hd))), (G_X6_atWidth (AC S i1) (QC S o0 hd) (y1))) := by
        exact g_X6_noteBits_3 (lc_ne_t q111) (Int64.not_lt.mpr (lc_ge_t q119))
      exact tt_lreturn dX6_noteBits_52 rfl (hP _ _ _ _ ⟨hG135, hA136, Or.inl ⟨_, rfl, ⟨_, rfl⟩, yjC_mk hF (qC_mk ((congrFun (congrFun e137 388) o0).trans ((congrFun (up2_ne (k := 388)) o0).trans ((congrFun (congrFun e130 388) o0).trans ((congrFun (up2_ne (k := 388)) o0).trans ((congrFun (congrFun e123 388) o0).trans ((congrFun (up2_ne (k := 388)) o0).trans ((congrFun (congrFun e115 388) o0).trans ((congrFun (up2_ne (k := 388)) o0).trans ((congrFun (congrFun e107 388) o0).trans ((congrFun (up2_ne (k := 388)) o0).trans (tC_388 (T := S) (o := o0) (a := hd) rfl))))))))))) ((congrFun (congrFun e137 389) o0).trans ((congrFun (up2_ne (k := 389)) o0).trans ((congrFun (congrFun e130 389) o0).trans ((congrFun (up2_ne (k := 389)) o0).trans ((congrFun (congrFun e123 389) o0).trans ((congrFun (up2_ne (k := 389)) o0).trans ((congrFun (congrFun e115 389) o0).trans ((congrFun (up2_ne (k := 389)) o0).trans (by rw [e107]; exact up2_self))))))))) ((congrFun (congrFun e137 390) o0).trans ((congrFun (up2_ne (k := 390)) o0).trans ((congrFun (congrFun e130 390) o0).trans ((congrFun (up2_ne (k := 390)) o0).trans ((congrFun (congrFun e123 390) o0).trans ((congrFun (up2_ne (k := 390)) o0).trans (by rw [e115]; exact up2_self))))))) ((congrFun (congrFun e137 391) o0).trans ((congrFun (up2_ne (k := 391)) o0).trans ((congrFun (congrFun e130 391) o0).trans ((congrFun (up2_ne (k := 391)) o0).trans (by rw [e123]; exact up2_self))))) ((congrFun (congrFun e137 392) o0).trans ((congrFun (up2_ne (k := 392)) o0).trans (by rw [e130]; exact up2_self))) (by rw [e137]; exact up2_self) ((congrFun ej140 hd).trans ((congrFun ej133 hd).trans ((congrFun ej126 hd).trans ((congrFun ej118 hd).trans ((congrFun ej110 hd).trans rfl)))))), rfl, rfl⟩⟩)
    · skip
      refine tt_iconst (v := 1) dX6_noteBits_33 rfl ?_
      refine tt_goto (tgt := 38) dX6_noteBits_34 rfl ?_
      refine gt_pIj (id := 391) (x := 1) dX6_noteBits_38 fl_6_88 rfl rfl h0 hA114 rfl rfl rfl (gp_Ir hG113 (⟨by decide, by decide⟩ : Rg 1 1 1)) (by decide) (fun h => absurd h (by decide)) (fun h => absurd h (by decide)) (fun S141 hG142 hA143 e144 f145 er146 ej147 => ?_)
      refine tt_aload_n (j := 1) dX6_noteBits_41 rfl ?_
      refine tt_iconst (v := 0) dX6_noteBits_42 rfl ?_
      refine gt_pIj (id := 392) (x := 0) dX6_noteBits_43 fl_6_82 rfl rfl h0 hA143 rfl rfl rfl (gp_Ir hG142 (⟨by decide, by decide⟩ : Rg 0 0 0)) (by decide) (fun h => absurd h (by decide)) (fun h => absurd h (by decide)) (fun S148 hG149 hA150 e151 f152 er153 ej154 => ?_)
      refine tt_aload_n (j := 1) dX6_noteBits_46 rfl ?_
      refine tt_iconst (v := 0) dX6_noteBits_47 rfl ?_
      refine gt_pIj (id := 393) (x := 0) dX6_noteBits_48 fl_6_79 rfl rfl h0 hA150 rfl rfl rfl (gp_Ir hG149 (⟨by decide, by decide⟩ : Rg 0 0 0)) (by decide) (fun h => absurd h (by decide)) (fun h => absurd h (by decide)) (fun S155 hG156 hA157 e158 f159 er160 ej161 => ?_)
      refine tt_lload_n (j := 0) dX6_noteBits_51 rfl ?_
      have hF : G_X6_noteBits (AC S i1) (QC S o0 hd) y1 = (((r0 (QC S o0 hd)), 1, 0, 1, 0, 0, (rA (QC S o0 hd))), (G_X6_atWidth (AC S i1) (QC S o0 hd) (y1))) := by
        exact g_X6_noteBits_2 (lc_ne_t q111) (lc_ge_f q119)
      exact tt_lreturn dX6_noteBits_52 rfl (hP _ _ _ _ ⟨hG156, hA157, Or.inl ⟨_, rfl, ⟨_, rfl⟩, yjC_mk hF (qC_mk ((congrFun (congrFun e158 388) o0).trans ((congrFun (up2_ne (k := 388)) o0).trans ((congrFun (congrFun e151 388) o0).trans ((congrFun (up2_ne (k := 388)) o0).trans ((congrFun (congrFun e144 388) o0).trans ((congrFun (up2_ne (k := 388)) o0).trans ((congrFun (congrFun e115 388) o0).trans ((congrFun (up2_ne (k := 388)) o0).trans ((congrFun (congrFun e107 388) o0).trans ((congrFun (up2_ne (k := 388)) o0).trans (tC_388 (T := S) (o := o0) (a := hd) rfl))))))))))) ((congrFun (congrFun e158 389) o0).trans ((congrFun (up2_ne (k := 389)) o0).trans ((congrFun (congrFun e151 389) o0).trans ((congrFun (up2_ne (k := 389)) o0).trans ((congrFun (congrFun e144 389) o0).trans ((congrFun (up2_ne (k := 389)) o0).trans ((congrFun (congrFun e115 389) o0).trans ((congrFun (up2_ne (k := 389)) o0).trans (by rw [e107]; exact up2_self))))))))) ((congrFun (congrFun e158 390) o0).trans ((congrFun (up2_ne (k := 390)) o0).trans ((congrFun (congrFun e151 390) o0).trans ((congrFun (up2_ne (k := 390)) o0).trans ((congrFun (congrFun e144 390) o0).trans ((congrFun (up2_ne (k := 390)) o0).trans (by rw [e115]; exact up2_self))))))) ((congrFun (congrFun e158 391) o0).trans ((congrFun (up2_ne (k := 391)) o0).trans ((congrFun (congrFun e151 391) o0).trans ((congrFun (up2_ne (k := 391)) o0).trans (by rw [e144]; exact up2_self))))) ((congrFun (congrFun e158 392) o0).trans ((congrFun (up2_ne (k := 392)) o0).trans (by rw [e151]; exact up2_self))) (by rw [e158]; exact up2_self) ((congrFun ej161 hd).trans ((congrFun ej154 hd).trans ((congrFun ej147 hd).trans ((congrFun ej118 hd).trans ((congrFun ej110 hd).trans rfl)))))), rfl, rfl⟩⟩)
  · skip
    refine tt_iconst (v := 1) dX6_noteBits_18 rfl ?_
    refine tt_goto (tgt := 23) dX6_noteBits_19 rfl ?_
    refine gt_pIj (id := 390) (x := 1) dX6_noteBits_23 fl_6_85 rfl rfl h0 hA106 rfl rfl rfl (gp_Ir hG105 (⟨by decide, by decide⟩ : Rg 1 1 1)) (by decide) (fun h => absurd h (by decide)) (fun h => absurd h (by decide)) (fun S162 hG163 hA164 e165 f166 er167 ej168 => ?_)
    refine tt_aload_n (j := 1) dX6_noteBits_26 rfl ?_
    refine tt_lload_n (j := 0) dX6_noteBits_27 rfl ?_
    refine tt_lconst (v := 0) dX6_noteBits_28 rfl ?_
    refine tt_lcmp dX6_noteBits_29 ?_
    refine tt_if_ge (tgt := 37) dX6_noteBits_30 rfl (fun q169 => ?_) (fun q169 => ?_)
    · skip
      refine tt_iconst (v := 0) dX6_noteBits_37 rfl ?_
      refine gt_pIj (id := 391) (x := 0) dX6_noteBits_38 fl_6_88 rfl rfl h0 hA164 rfl rfl rfl (gp_Ir hG163 (⟨by decide, by decide⟩ : Rg 0 0 0)) (by decide) (fun h => absurd h (by decide)) (fun h => absurd h (by decide)) (fun S170 hG171 hA172 e173 f174 er175 ej176 => ?_)
      refine tt_aload_n (j := 1) dX6_noteBits_41 rfl ?_
      refine tt_iconst (v := 0) dX6_noteBits_42 rfl ?_
      refine gt_pIj (id := 392) (x := 0) dX6_noteBits_43 fl_6_82 rfl rfl h0 hA172 rfl rfl rfl (gp_Ir hG171 (⟨by decide, by decide⟩ : Rg 0 0 0)) (by decide) (fun h => absurd h (by decide)) (fun h => absurd h (by decide)) (fun S177 hG178 hA179 e180 f181 er182 ej183 => ?_)
      refine tt_aload_n (j := 1) dX6_noteBits_46 rfl ?_
      refine tt_iconst (v := 0) dX6_noteBits_47 rfl ?_
      refine gt_pIj (id := 393) (x := 0) dX6_noteBits_48 fl_6_79 rfl rfl h0 hA179 rfl rfl rfl (gp_Ir hG178 (⟨by decide, by decide⟩ : Rg 0 0 0)) (by decide) (fun h => absurd h (by decide)) (fun h => absurd h (by decide)) (fun S184 hG185 hA186 e187 f188 er189 ej190 => ?_)
      refine tt_lload_n (j := 0) dX6_noteBits_51 rfl ?_
      have hF : G_X6_noteBits (AC S i1) (QC S o0 hd) y1 = (((r0 (QC S o0 hd)), 1, 1, 0, 0, 0, (rA (QC S o0 hd))), (G_X6_atWidth (AC S i1) (QC S o0 hd) (y1))) := by
        exact g_X6_noteBits_1 (lc_ne_f q111) (Int64.not_lt.mpr (lc_ge_t q169))
      exact tt_lreturn dX6_noteBits_52 rfl (hP _ _ _ _ ⟨hG185, hA186, Or.inl ⟨_, rfl, ⟨_, rfl⟩, yjC_mk hF (qC_mk ((congrFun (congrFun e187 388) o0).trans ((congrFun (up2_ne (k := 388)) o0).trans ((congrFun (congrFun e180 388) o0).trans ((congrFun (up2_ne (k := 388)) o0).trans ((congrFun (congrFun e173 388) o0).trans ((congrFun (up2_ne (k := 388)) o0).trans ((congrFun (congrFun e165 388) o0).trans ((congrFun (up2_ne (k := 388)) o0).trans ((congrFun (congrFun e107 388) o0).trans ((congrFun (up2_ne (k := 388)) o0).trans (tC_388 (T := S) (o := o0) (a := hd) rfl))))))))))) ((congrFun (congrFun e187 389) o0).trans ((congrFun (up2_ne (k := 389)) o0).trans ((congrFun (congrFun e180 389) o0).trans ((congrFun (up2_ne (k := 389)) o0).trans ((congrFun (congrFun e173 389) o0).trans ((congrFun (up2_ne (k := 389)) o0).trans ((congrFun (congrFun e165 389) o0).trans ((congrFun (up2_ne (k := 389)) o0).trans (by rw [e107]; exact up2_self))))))))) ((congrFun (congrFun e187 390) o0).trans ((congrFun (up2_ne (k := 390)) o0).trans ((congrFun (congrFun e180 390) o0).trans ((congrFun (up2_ne (k := 390)) o0).trans ((congrFun (congrFun e173 390) o0).trans ((congrFun (up2_ne (k := 390)) o0).trans (by rw [e165]; exact up2_self))))))) ((congrFun (congrFun e187 391) o0).trans ((congrFun (up2_ne (k := 391)) o0).trans ((congrFun (congrFun e180 391) o0).trans ((congrFun (up2_ne (k := 391)) o0).trans (by rw [e173]; exact up2_self))))) ((congrFun (congrFun e187 392) o0).trans ((congrFun (up2_ne (k := 392)) o0).trans (by rw [e180]; exact up2_self))) (by rw [e187]; exact up2_self) ((congrFun ej190 hd).trans ((congrFun ej183 hd).trans ((congrFun ej176 hd).trans ((congrFun ej168 hd).trans ((congrFun ej110 hd).trans rfl)))))), rfl, rfl⟩⟩)
    · skip
      refine tt_iconst (v := 1) dX6_noteBits_33 rfl ?_
      refine tt_goto (tgt := 38) dX6_noteBits_34 rfl ?_
      refine gt_pIj (id := 391) (x := 1) dX6_noteBits_38 fl_6_88 rfl rfl h0 hA164 rfl rfl rfl (gp_Ir hG163 (⟨by decide, by decide⟩ : Rg 1 1 1)) (by decide) (fun h => absurd h (by decide)) (fun h => absurd h (by decide)) (fun S191 hG192 hA193 e194 f195 er196 ej197 => ?_)
      refine tt_aload_n (j := 1) dX6_noteBits_41 rfl ?_
      refine tt_iconst (v := 0) dX6_noteBits_42 rfl ?_
      refine gt_pIj (id := 392) (x := 0) dX6_noteBits_43 fl_6_82 rfl rfl h0 hA193 rfl rfl rfl (gp_Ir hG192 (⟨by decide, by decide⟩ : Rg 0 0 0)) (by decide) (fun h => absurd h (by decide)) (fun h => absurd h (by decide)) (fun S198 hG199 hA200 e201 f202 er203 ej204 => ?_)
      refine tt_aload_n (j := 1) dX6_noteBits_46 rfl ?_
      refine tt_iconst (v := 0) dX6_noteBits_47 rfl ?_
      refine gt_pIj (id := 393) (x := 0) dX6_noteBits_48 fl_6_79 rfl rfl h0 hA200 rfl rfl rfl (gp_Ir hG199 (⟨by decide, by decide⟩ : Rg 0 0 0)) (by decide) (fun h => absurd h (by decide)) (fun h => absurd h (by decide)) (fun S205 hG206 hA207 e208 f209 er210 ej211 => ?_)
      refine tt_lload_n (j := 0) dX6_noteBits_51 rfl ?_
      have hF : G_X6_noteBits (AC S i1) (QC S o0 hd) y1 = (((r0 (QC S o0 hd)), 1, 1, 1, 0, 0, (rA (QC S o0 hd))), (G_X6_atWidth (AC S i1) (QC S o0 hd) (y1))) := by
        exact g_X6_noteBits_0 (lc_ne_f q111) (lc_ge_f q169)
      exact tt_lreturn dX6_noteBits_52 rfl (hP _ _ _ _ ⟨hG206, hA207, Or.inl ⟨_, rfl, ⟨_, rfl⟩, yjC_mk hF (qC_mk ((congrFun (congrFun e208 388) o0).trans ((congrFun (up2_ne (k := 388)) o0).trans ((congrFun (congrFun e201 388) o0).trans ((congrFun (up2_ne (k := 388)) o0).trans ((congrFun (congrFun e194 388) o0).trans ((congrFun (up2_ne (k := 388)) o0).trans ((congrFun (congrFun e165 388) o0).trans ((congrFun (up2_ne (k := 388)) o0).trans ((congrFun (congrFun e107 388) o0).trans ((congrFun (up2_ne (k := 388)) o0).trans (tC_388 (T := S) (o := o0) (a := hd) rfl))))))))))) ((congrFun (congrFun e208 389) o0).trans ((congrFun (up2_ne (k := 389)) o0).trans ((congrFun (congrFun e201 389) o0).trans ((congrFun (up2_ne (k := 389)) o0).trans ((congrFun (congrFun e194 389) o0).trans ((congrFun (up2_ne (k := 389)) o0).trans ((congrFun (congrFun e165 389) o0).trans ((congrFun (up2_ne (k := 389)) o0).trans (by rw [e107]; exact up2_self))))))))) ((congrFun (congrFun e208 390) o0).trans ((congrFun (up2_ne (k := 390)) o0).trans ((congrFun (congrFun e201 390) o0).trans ((congrFun (up2_ne (k := 390)) o0).trans ((congrFun (congrFun e194 390) o0).trans ((congrFun (up2_ne (k := 390)) o0).trans (by rw [e165]; exact up2_self))))))) ((congrFun (congrFun e208 391) o0).trans ((congrFun (up2_ne (k := 391)) o0).trans ((congrFun (congrFun e201 391) o0).trans ((congrFun (up2_ne (k := 391)) o0).trans (by rw [e194]; exact up2_self))))) ((congrFun (congrFun e208 392) o0).trans ((congrFun (up2_ne (k := 392)) o0).trans (by rw [e201]; exact up2_self))) (by rw [e208]; exact up2_self) ((congrFun ej211 hd).trans ((congrFun ej204 hd).trans ((congrFun ej197 hd).trans ((congrFun ej168 hd).trans ((congrFun ej110 hd).trans rfl)))))), rfl, rfl⟩⟩)
def G_X6_sum (q : AU) (w : RS) (y1 : Int64) (y3 : Int64) : RS × Int64 :=
  let d106 := G_X6_noteBits q w ((y1 + y3))
  if 0 ≤ (G_J13_compareUnsigned_74951 (d106.2) (y1)) then
    if ((y1 ^^^ d106.2) &&& (y3 ^^^ d106.2)) < 0 then
      (((r0 d106.1), (r1 d106.1), (r2 d106.1), (r3 d106.1), 0, 1, (rA d106.1)), d106.2)
    else
      (((r0 d106.1), (r1 d106.1), (r2 d106.1), (r3 d106.1), 0, 0, (rA d106.1)), d106.2)
  else
    if ((y1 ^^^ d106.2) &&& (y3 ^^^ d106.2)) < 0 then
      (((r0 d106.1), (r1 d106.1), (r2 d106.1), (r3 d106.1), 1, 1, (rA d106.1)), d106.2)
    else
      (((r0 d106.1), (r1 d106.1), (r2 d106.1), (r3 d106.1), 1, 0, (rA d106.1)), d106.2)
theorem g_X6_sum_0 {q : AU} {w : RS} {y1 : Int64} {y3 : Int64} (h0 : 0 ≤ (G_J13_compareUnsigned_74951 ((G_X6_noteBits q w ((y1 + y3))).2) (y1))) (h1 : ((y1 ^^^ (G_X6_noteBits q w ((y1 + y3))).2) &&& (y3 ^^^ (G_X6_noteBits q w ((y1 + y3))).2)) < 0) : G_X6_sum q w y1 y3 = (((r0 (G_X6_noteBits q w ((y1 + y3))).1), (r1 (G_X6_noteBits q w ((y1 + y3))).1), (r2 (G_X6_noteBits q w ((y1 + y3))).1), (r3 (G_X6_noteBits q w ((y1 + y3))).1), 0, 1, (rA (G_X6_noteBits q w ((y1 + y3))).1)), (G_X6_noteBits q w ((y1 + y3))).2) := by unfold G_X6_sum; exact Eq.trans (if_pos h0) (if_pos h1)
theorem g_X6_sum_1 {q : AU} {w : RS} {y1 : Int64} {y3 : Int64} (h0 : 0 ≤ (G_J13_compareUnsigned_74951 ((G_X6_noteBits q w ((y1 + y3))).2) (y1))) (h1 : ¬ ((y1 ^^^ (G_X6_noteBits q w ((y1 + y3))).2) &&& (y3 ^^^ (G_X6_noteBits q w ((y1 + y3))).2)) < 0) : G_X6_sum q w y1 y3 = (((r0 (G_X6_noteBits q w ((y1 + y3))).1), (r1 (G_X6_noteBits q w ((y1 + y3))).1), (r2 (G_X6_noteBits q w ((y1 + y3))).1), (r3 (G_X6_noteBits q w ((y1 + y3))).1), 0, 0, (rA (G_X6_noteBits q w ((y1 + y3))).1)), (G_X6_noteBits q w ((y1 + y3))).2) := by unfold G_X6_sum; exact Eq.trans (if_pos h0) (if_neg h1)
theorem g_X6_sum_2 {q : AU} {w : RS} {y1 : Int64} {y3 : Int64} (h0 : ¬ 0 ≤ (G_J13_compareUnsigned_74951 ((G_X6_noteBits q w ((y1 + y3))).2) (y1))) (h1 : ((y1 ^^^ (G_X6_noteBits q w ((y1 + y3))).2) &&& (y3 ^^^ (G_X6_noteBits q w ((y1 + y3))).2)) < 0) : G_X6_sum q w y1 y3 = (((r0 (G_X6_noteBits q w ((y1 + y3))).1), (r1 (G_X6_noteBits q w ((y1 + y3))).1), (r2 (G_X6_noteBits q w ((y1 + y3))).1), (r3 (G_X6_noteBits q w ((y1 + y3))).1), 1, 1, (rA (G_X6_noteBits q w ((y1 + y3))).1)), (G_X6_noteBits q w ((y1 + y3))).2) := by unfold G_X6_sum; exact Eq.trans (if_neg h0) (if_pos h1)
theorem g_X6_sum_3 {q : AU} {w : RS} {y1 : Int64} {y3 : Int64} (h0 : ¬ 0 ≤ (G_J13_compareUnsigned_74951 ((G_X6_noteBits q w ((y1 + y3))).2) (y1))) (h1 : ¬ ((y1 ^^^ (G_X6_noteBits q w ((y1 + y3))).2) &&& (y3 ^^^ (G_X6_noteBits q w ((y1 + y3))).2)) < 0) : G_X6_sum q w y1 y3 = (((r0 (G_X6_noteBits q w ((y1 + y3))).1), (r1 (G_X6_noteBits q w ((y1 + y3))).1), (r2 (G_X6_noteBits q w ((y1 + y3))).1), (r3 (G_X6_noteBits q w ((y1 + y3))).1), 1, 0, (rA (G_X6_noteBits q w ((y1 + y3))).1)), (G_X6_noteBits q w ((y1 + y3))).2) := by unfold G_X6_sum; exact Eq.trans (if_neg h0) (if_neg h1)
set_option maxHeartbeats 40000000 in
theorem cr_X6_sum {xi : SX} {S : Hp} {E : List Nat} {kc nc : Nat} {P : Po} {o0 : Nat} {y1 : Int64} {y3 : Int64} {i1 hd : Nat} {bs : Nat → Int32} {n : Int32} (hG : GI S E) (hc : RC S E o0 i1 hd bs n) (hP : ∀ r T x y, PV E [389, 390, 391, 392, 393] S kc nc rJ (fun v T => YJC (G_X6_sum (AC S i1) (QC S o0 hd) y1 y3) T o0 hd v) [] r T x y → P r T x y) : TT xi M_X6_sum 0 [(0, .ref o0), (1, .long y1), (3, .long y3)] [] S kc nc P := by
  obtain ⟨h0, hri, hoi, hrh, hoh, hb, cb, hrc, hoc, rfl⟩ := id hc
  have hA : Af E [389, 390, 391, 392, 393] S S := af_rf
  refine tt_aload_n (j := 0) dX6_sum_0 rfl ?_
  refine tt_lload_n (j := 1) dX6_sum_1 rfl ?_
  refine tt_lload_n (j := 2) dX6_sum_2 rfl ?_
  refine tt_ladd dX6_sum_3 ?_
  refine gt_VJ (As := [.long (y1 + y3)]) dX6_sum_4 ca_X6_119 ⟨by decide, by decide⟩ h0 hA rfl (Nat.le_of_ble_eq_true rfl) (Nat.le_of_ble_eq_true rfl) (by decide) (cr_X6_noteBits hG (rc_af hc hA) (fun _ _ _ _ h => h)) rfl (fun _ h => nomatch h) (fun S101 y110 hx105 hG102 hB103 hA104 => ?_)
  obtain ⟨d106, hd107⟩ : ∃ q, G_X6_noteBits (AC S i1) (QC S o0 hd) ((y1 + y3)) = q := ⟨_, rfl⟩
  have hq108 := ((congrArg (fun q9 => G_X6_noteBits q9 (QC S o0 hd) ((y1 + y3))) (aC_mk (uC_200 (T := S) (o := i1) rfl) (uC_201 (T := S) (o := i1) rfl) (uC_202 (T := S) (o := i1) rfl) (uC_203 (T := S) (o := i1) rfl) (uC_204 (T := S) (o := i1) rfl) (uC_199 (T := S) (o := i1) rfl))).trans (congrArg (fun q9 => G_X6_noteBits (AC S i1) q9 ((y1 + y3))) (qC_mk (tC_388 (T := S) (o := o0) (a := hd) rfl) (tC_389 (T := S) (o := o0) (a := hd) rfl) (tC_390 (T := S) (o := o0) (a := hd) rfl) (tC_391 (T := S) (o := o0) (a := hd) rfl) (tC_392 (T := S) (o := o0) (a := hd) rfl) (tC_393 (T := S) (o := o0) (a := hd) rfl) rfl))).trans hd107
  have hs109 := hx105.2.trans (congrArg Prod.fst hq108)
  obtain rfl : d106.2 = y110 := ((el_w hx105.1).trans (congrArg Prod.snd hq108)).symm
  refine tt_lstore (ks := [0, 1, 2, 3]) (L' := [(5, .long d106.2), (0, .ref o0), (1, .long y1), (3, .long y3)]) dX6_sum_7 (by decide) rfl ?_
  refine tt_aload_n (j := 1) dX6_sum_9 rfl ?_
  refine tt_lload (j := 0) dX6_sum_10 rfl ?_
  refine tt_lload_n (j := 2) dX6_sum_12 rfl ?_
  refine gt_SIp (As := [.long d106.2, .long y1]) dX6_sum_13 ca_X6_132 ⟨by decide, by decide⟩ hA104 (Nat.le_of_ble_eq_true rfl) (Nat.le_of_ble_eq_true rfl) (by decide) (cr_J13_compareUnsigned_74951 hG102  (fun _ _ _ _ h => h)) rfl (fun _ h => nomatch h) (fun _ _ q => q.1) (fun x111 h112 hx113 => ?_)
  obtain rfl : G_J13_compareUnsigned_74951 (d106.2) (y1) = x111 := (ei_w hx113.2).symm
  refine tt_if_ge (tgt := 23) dX6_sum_16 rfl (fun q114 => ?_) (fun q114 => ?_)
  · skip
    have h115 : Rg 0 2147483647 (G_J13_compareUnsigned_74951 (d106.2) (y1)) := rg_le_r (⟨by decide, by decide⟩ : Rg 0 0 0) h112 q114
    refine tt_iconst (v := 0) dX6_sum_23 rfl ?_
    refine gt_pIj (id := 392) (x := 0) dX6_sum_24 fl_6_82 rfl rfl h0 hA104 rfl rfl rfl (gp_Ir hG102 (⟨by decide, by decide⟩ : Rg 0 0 0)) (by decide) (fun h => absurd h (by decide)) (fun h => absurd h (by decide)) (fun S116 hG117 hA118 e119 f120 er121 ej122 => ?_)
    refine tt_aload_n (j := 1) dX6_sum_27 rfl ?_
    refine tt_lload_n (j := 2) dX6_sum_28 rfl ?_
    refine tt_lload (j := 0) dX6_sum_29 rfl ?_
    refine tt_lxor dX6_sum_31 ?_
    refine tt_lload_n (j := 3) dX6_sum_32 rfl ?_
    refine tt_lload (j := 0) dX6_sum_33 rfl ?_
    refine tt_lxor dX6_sum_35 ?_
    refine tt_land dX6_sum_36 ?_
    refine tt_lconst (v := 0) dX6_sum_37 rfl ?_
    refine tt_lcmp dX6_sum_38 ?_
    refine tt_if_ge (tgt := 46) dX6_sum_39 rfl (fun q123 => ?_) (fun q123 => ?_)
    · skip
      refine tt_iconst (v := 0) dX6_sum_46 rfl ?_
      refine gt_pIj (id := 393) (x := 0) dX6_sum_47 fl_6_79 rfl rfl h0 hA118 rfl rfl rfl (gp_Ir hG117 (⟨by decide, by decide⟩ : Rg 0 0 0)) (by decide) (fun h => absurd h (by decide)) (fun h => absurd h (by decide)) (fun S124 hG125 hA126 e127 f128 er129 ej130 => ?_)
      refine tt_lload (j := 0) dX6_sum_50 rfl ?_
      have hF : G_X6_sum (AC S i1) (QC S o0 hd) y1 y3 = (((r0 d106.1), (r1 d106.1), (r2 d106.1), (r3 d106.1), 0, 0, (rA d106.1)), d106.2) := by
        subst hd107
        exact g_X6_sum_1 q114 (Int64.not_lt.mpr (lc_ge_t q123))
      exact tt_lreturn dX6_sum_52 rfl (hP _ _ _ _ ⟨hG125, hA126, Or.inl ⟨_, rfl, ⟨_, rfl⟩, yjC_mk hF (qC_mk ((congrFun (congrFun e127 388) o0).trans ((congrFun (up2_ne (k := 388)) o0).trans ((congrFun (congrFun e119 388) o0).trans ((congrFun (up2_ne (k := 388)) o0).trans (tC_388 hs109))))) ((congrFun (congrFun e127 389) o0).trans ((congrFun (up2_ne (k := 389)) o0).trans ((congrFun (congrFun e119 389) o0).trans ((congrFun (up2_ne (k := 389)) o0).trans (tC_389 hs109))))) ((congrFun (congrFun e127 390) o0).trans ((congrFun (up2_ne (k := 390)) o0).trans ((congrFun (congrFun e119 390) o0).trans ((congrFun (up2_ne (k := 390)) o0).trans (tC_390 hs109))))) ((congrFun (congrFun e127 391) o0).trans ((congrFun (up2_ne (k := 391)) o0).trans ((congrFun (congrFun e119 391) o0).trans ((congrFun (up2_ne (k := 391)) o0).trans (tC_391 hs109))))) ((congrFun (congrFun e127 392) o0).trans ((congrFun (up2_ne (k := 392)) o0).trans (by rw [e119]; exact up2_self))) (by rw [e127]; exact up2_self) ((congrFun ej130 hd).trans ((congrFun ej122 hd).trans (tC_j hs109)))), rfl, rfl⟩⟩)
    · skip
      refine tt_iconst (v := 1) dX6_sum_42 rfl ?_
      refine tt_goto (tgt := 47) dX6_sum_43 rfl ?_
      refine gt_pIj (id := 393) (x := 1) dX6_sum_47 fl_6_79 rfl rfl h0 hA118 rfl rfl rfl (gp_Ir hG117 (⟨by decide, by decide⟩ : Rg 1 1 1)) (by decide) (fun h => absurd h (by decide)) (fun h => absurd h (by decide)) (fun S131 hG132 hA133 e134 f135 er136 ej137 => ?_)
      refine tt_lload (j := 0) dX6_sum_50 rfl ?_
      have hF : G_X6_sum (AC S i1) (QC S o0 hd) y1 y3 = (((r0 d106.1), (r1 d106.1), (r2 d106.1), (r3 d106.1), 0, 1, (rA d106.1)), d106.2) := by
        subst hd107
        exact g_X6_sum_0 q114 (lc_ge_f q123)
      exact tt_lreturn dX6_sum_52 rfl (hP _ _ _ _ ⟨hG132, hA133, Or.inl ⟨_, rfl, ⟨_, rfl⟩, yjC_mk hF (qC_mk ((congrFun (congrFun e134 388) o0).trans ((congrFun (up2_ne (k := 388)) o0).trans ((congrFun (congrFun e119 388) o0).trans ((congrFun (up2_ne (k := 388)) o0).trans (tC_388 hs109))))) ((congrFun (congrFun e134 389) o0).trans ((congrFun (up2_ne (k := 389)) o0).trans ((congrFun (congrFun e119 389) o0).trans ((congrFun (up2_ne (k := 389)) o0).trans (tC_389 hs109))))) ((congrFun (congrFun e134 390) o0).trans ((congrFun (up2_ne (k := 390)) o0).trans ((congrFun (congrFun e119 390) o0).trans ((congrFun (up2_ne (k := 390)) o0).trans (tC_390 hs109))))) ((congrFun (congrFun e134 391) o0).trans ((congrFun (up2_ne (k := 391)) o0).trans ((congrFun (congrFun e119 391) o0).trans ((congrFun (up2_ne (k := 391)) o0).trans (tC_391 hs109))))) ((congrFun (congrFun e134 392) o0).trans ((congrFun (up2_ne (k := 392)) o0).trans (by rw [e119]; exact up2_self))) (by rw [e134]; exact up2_self) ((congrFun ej137 hd).trans ((congrFun ej122 hd).trans (tC_j hs109)))), rfl, rfl⟩⟩)
  · skip
    have h138 : Rg (-2147483648) (-1) (G_J13_compareUnsigned_74951 (d106.2) (y1)) := rg_lt_l h112 (⟨by decide, by decide⟩ : Rg 0 0 0) (nle_lt q114)
    refine tt_iconst (v := 1) dX6_sum_19 rfl ?_
    refine tt_goto (tgt := 24) dX6_sum_20 rfl ?_
    refine gt_pIj (id := 392) (x := 1) dX6_sum_24 fl_6_82 rfl rfl h0 hA104 rfl rfl rfl (gp_Ir hG102 (⟨by decide, by decide⟩ : Rg 1 1 1)) (by decide) (fun h => absurd h (by decide)) (fun h => absurd h (by decide)) (fun S139 hG140 hA141 e142 f143 er144 ej145 => ?_)
    refine tt_aload_n (j := 1) dX6_sum_27 rfl ?_
    refine tt_lload_n (j := 2) dX6_sum_28 rfl ?_
    refine tt_lload (j := 0) dX6_sum_29 rfl ?_
    refine tt_lxor dX6_sum_31 ?_
    refine tt_lload_n (j := 3) dX6_sum_32 rfl ?_
    refine tt_lload (j := 0) dX6_sum_33 rfl ?_
    refine tt_lxor dX6_sum_35 ?_
    refine tt_land dX6_sum_36 ?_
    refine tt_lconst (v := 0) dX6_sum_37 rfl ?_
    refine tt_lcmp dX6_sum_38 ?_
    refine tt_if_ge (tgt := 46) dX6_sum_39 rfl (fun q146 => ?_) (fun q146 => ?_)
    · skip
      refine tt_iconst (v := 0) dX6_sum_46 rfl ?_
      refine gt_pIj (id := 393) (x := 0) dX6_sum_47 fl_6_79 rfl rfl h0 hA141 rfl rfl rfl (gp_Ir hG140 (⟨by decide, by decide⟩ : Rg 0 0 0)) (by decide) (fun h => absurd h (by decide)) (fun h => absurd h (by decide)) (fun S147 hG148 hA149 e150 f151 er152 ej153 => ?_)
      refine tt_lload (j := 0) dX6_sum_50 rfl ?_
      have hF : G_X6_sum (AC S i1) (QC S o0 hd) y1 y3 = (((r0 d106.1), (r1 d106.1), (r2 d106.1), (r3 d106.1), 1, 0, (rA d106.1)), d106.2) := by
        subst hd107
        exact g_X6_sum_3 q114 (Int64.not_lt.mpr (lc_ge_t q146))
      exact tt_lreturn dX6_sum_52 rfl (hP _ _ _ _ ⟨hG148, hA149, Or.inl ⟨_, rfl, ⟨_, rfl⟩, yjC_mk hF (qC_mk ((congrFun (congrFun e150 388) o0).trans ((congrFun (up2_ne (k := 388)) o0).trans ((congrFun (congrFun e142 388) o0).trans ((congrFun (up2_ne (k := 388)) o0).trans (tC_388 hs109))))) ((congrFun (congrFun e150 389) o0).trans ((congrFun (up2_ne (k := 389)) o0).trans ((congrFun (congrFun e142 389) o0).trans ((congrFun (up2_ne (k := 389)) o0).trans (tC_389 hs109))))) ((congrFun (congrFun e150 390) o0).trans ((congrFun (up2_ne (k := 390)) o0).trans ((congrFun (congrFun e142 390) o0).trans ((congrFun (up2_ne (k := 390)) o0).trans (tC_390 hs109))))) ((congrFun (congrFun e150 391) o0).trans ((congrFun (up2_ne (k := 391)) o0).trans ((congrFun (congrFun e142 391) o0).trans ((congrFun (up2_ne (k := 391)) o0).trans (tC_391 hs109))))) ((congrFun (congrFun e150 392) o0).trans ((congrFun (up2_ne (k := 392)) o0).trans (by rw [e142]; exact up2_self))) (by rw [e150]; exact up2_self) ((congrFun ej153 hd).trans ((congrFun ej145 hd).trans (tC_j hs109)))), rfl, rfl⟩⟩)
    · skip
      refine tt_iconst (v := 1) dX6_sum_42 rfl ?_
      refine tt_goto (tgt := 47) dX6_sum_43 rfl ?_
      refine gt_pIj (id := 393) (x := 1) dX6_sum_47 fl_6_79 rfl rfl h0 hA141 rfl rfl rfl (gp_Ir hG140 (⟨by decide, by decide⟩ : Rg 1 1 1)) (by decide) (fun h => absurd h (by decide)) (fun h => absurd h (by decide)) (fun S154 hG155 hA156 e157 f158 er159 ej160 => ?_)
      refine tt_lload (j := 0) dX6_sum_50 rfl ?_
      have hF : G_X6_sum (AC S i1) (QC S o0 hd) y1 y3 = (((r0 d106.1), (r1 d106.1), (r2 d106.1), (r3 d106.1), 1, 1, (rA d106.1)), d106.2) := by
        subst hd107
        exact g_X6_sum_2 q114 (lc_ge_f q146)
      exact tt_lreturn dX6_sum_52 rfl (hP _ _ _ _ ⟨hG155, hA156, Or.inl ⟨_, rfl, ⟨_, rfl⟩, yjC_mk hF (qC_mk ((congrFun (congrFun e157 388) o0).trans ((congrFun (up2_ne (k := 388)) o0).trans ((congrFun (congrFun e142 388) o0).trans ((congrFun (up2_ne (k := 388)) o0).trans (tC_388 hs109))))) ((congrFun (congrFun e157 389) o0).trans ((congrFun (up2_ne (k := 389)) o0).trans ((congrFun (congrFun e142 389) o0).trans ((congrFun (up2_ne (k := 389)) o0).trans (tC_389 hs109))))) ((congrFun (congrFun e157 390) o0).trans ((congrFun (up2_ne (k := 390)) o0).trans ((congrFun (congrFun e142 390) o0).trans ((congrFun (up2_ne (k := 390)) o0).trans (tC_390 hs109))))) ((congrFun (congrFun e157 391) o0).trans ((congrFun (up2_ne (k := 391)) o0).trans ((congrFun (congrFun e142 391) o0).trans ((congrFun (up2_ne (k := 391)) o0).trans (tC_391 hs109))))) ((congrFun (congrFun e157 392) o0).trans ((congrFun (up2_ne (k := 392)) o0).trans (by rw [e142]; exact up2_self))) (by rw [e157]; exact up2_self) ((congrFun ej160 hd).trans ((congrFun ej145 hd).trans (tC_j hs109)))), rfl, rfl⟩⟩)
def G_X6_difference (q : AU) (w : RS) (y1 : Int64) (y3 : Int64) : RS × Int64 :=
  let d106 := G_X6_noteBits q w ((y1 - y3))
  if 0 ≤ (G_J13_compareUnsigned_74951 (y1) (y3)) then
    if ((y1 ^^^ y3) &&& (y1 ^^^ d106.2)) < 0 then
      (((r0 d106.1), (r1 d106.1), (r2 d106.1), (r3 d106.1), 0, 1, (rA d106.1)), d106.2)
    else
      (((r0 d106.1), (r1 d106.1), (r2 d106.1), (r3 d106.1), 0, 0, (rA d106.1)), d106.2)
  else
    if ((y1 ^^^ y3) &&& (y1 ^^^ d106.2)) < 0 then
      (((r0 d106.1), (r1 d106.1), (r2 d106.1), (r3 d106.1), 1, 1, (rA d106.1)), d106.2)
    else
      (((r0 d106.1), (r1 d106.1), (r2 d106.1), (r3 d106.1), 1, 0, (rA d106.1)), d106.2)
theorem g_X6_difference_0 {q : AU} {w : RS} {y1 : Int64} {y3 : Int64} (h0 : 0 ≤ (G_J13_compareUnsigned_74951 (y1) (y3))) (h1 : ((y1 ^^^ y3) &&& (y1 ^^^ (G_X6_noteBits q w ((y1 - y3))).2)) < 0) : G_X6_difference q w y1 y3 = (((r0 (G_X6_noteBits q w ((y1 - y3))).1), (r1 (G_X6_noteBits q w ((y1 - y3))).1), (r2 (G_X6_noteBits q w ((y1 - y3))).1), (r3 (G_X6_noteBits q w ((y1 - y3))).1), 0, 1, (rA (G_X6_noteBits q w ((y1 - y3))).1)), (G_X6_noteBits q w ((y1 - y3))).2) := by unfold G_X6_difference; exact Eq.trans (if_pos h0) (if_pos h1)
theorem g_X6_difference_1 {q : AU} {w : RS} {y1 : Int64} {y3 : Int64} (h0 : 0 ≤ (G_J13_compareUnsigned_74951 (y1) (y3))) (h1 : ¬ ((y1 ^^^ y3) &&& (y1 ^^^ (G_X6_noteBits q w ((y1 - y3))).2)) < 0) : G_X6_difference q w y1 y3 = (((r0 (G_X6_noteBits q w ((y1 - y3))).1), (r1 (G_X6_noteBits q w ((y1 - y3))).1), (r2 (G_X6_noteBits q w ((y1 - y3))).1), (r3 (G_X6_noteBits q w ((y1 - y3))).1), 0, 0, (rA (G_X6_noteBits q w ((y1 - y3))).1)), (G_X6_noteBits q w ((y1 - y3))).2) := by unfold G_X6_difference; exact Eq.trans (if_pos h0) (if_neg h1)
theorem g_X6_difference_2 {q : AU} {w : RS} {y1 : Int64} {y3 : Int64} (h0 : ¬ 0 ≤ (G_J13_compareUnsigned_74951 (y1) (y3))) (h1 : ((y1 ^^^ y3) &&& (y1 ^^^ (G_X6_noteBits q w ((y1 - y3))).2)) < 0) : G_X6_difference q w y1 y3 = (((r0 (G_X6_noteBits q w ((y1 - y3))).1), (r1 (G_X6_noteBits q w ((y1 - y3))).1), (r2 (G_X6_noteBits q w ((y1 - y3))).1), (r3 (G_X6_noteBits q w ((y1 - y3))).1), 1, 1, (rA (G_X6_noteBits q w ((y1 - y3))).1)), (G_X6_noteBits q w ((y1 - y3))).2) := by unfold G_X6_difference; exact Eq.trans (if_neg h0) (if_pos h1)
theorem g_X6_difference_3 {q : AU} {w : RS} {y1 : Int64} {y3 : Int64} (h0 : ¬ 0 ≤ (G_J13_compareUnsigned_74951 (y1) (y3))) (h1 : ¬ ((y1 ^^^ y3) &&& (y1 ^^^ (G_X6_noteBits q w ((y1 - y3))).2)) < 0) : G_X6_difference q w y1 y3 = (((r0 (G_X6_noteBits q w ((y1 - y3))).1), (r1 (G_X6_noteBits q w ((y1 - y3))).1), (r2 (G_X6_noteBits q w ((y1 - y3))).1), (r3 (G_X6_noteBits q w ((y1 - y3))).1), 1, 0, (rA (G_X6_noteBits q w ((y1 - y3))).1)), (G_X6_noteBits q w ((y1 - y3))).2) := by unfold G_X6_difference; exact Eq.trans (if_neg h0) (if_neg h1)
set_option maxHeartbeats 40000000 in
theorem cr_X6_difference {xi : SX} {S : Hp} {E : List Nat} {kc nc : Nat} {P : Po} {o0 : Nat} {y1 : Int64} {y3 : Int64} {i1 hd : Nat} {bs : Nat → Int32} {n : Int32} (hG : GI S E) (hc : RC S E o0 i1 hd bs n) (hP : ∀ r T x y, PV E [389, 390, 391, 392, 393] S kc nc rJ (fun v T => YJC (G_X6_difference (AC S i1) (QC S o0 hd) y1 y3) T o0 hd v) [] r T x y → P r T x y) : TT xi M_X6_difference 0 [(0, .ref o0), (1, .long y1), (3, .long y3)] [] S kc nc P := by
  obtain ⟨h0, hri, hoi, hrh, hoh, hb, cb, hrc, hoc, rfl⟩ := id hc
  have hA : Af E [389, 390, 391, 392, 393] S S := af_rf
  refine tt_aload_n (j := 0) dX6_difference_0 rfl ?_
  refine tt_lload_n (j := 1) dX6_difference_1 rfl ?_
  refine tt_lload_n (j := 2) dX6_difference_2 rfl ?_
  refine tt_lsub dX6_difference_3 ?_
  refine gt_VJ (As := [.long (y1 - y3)]) dX6_difference_4 ca_X6_119 ⟨by decide, by decide⟩ h0 hA rfl (Nat.le_of_ble_eq_true rfl) (Nat.le_of_ble_eq_true rfl) (by decide) (cr_X6_noteBits hG (rc_af hc hA) (fun _ _ _ _ h => h)) rfl (fun _ h => nomatch h) (fun S101 y110 hx105 hG102 hB103 hA104 => ?_)
  obtain ⟨d106, hd107⟩ : ∃ q, G_X6_noteBits (AC S i1) (QC S o0 hd) ((y1 - y3)) = q := ⟨_, rfl⟩
  have hq108 := ((congrArg (fun q9 => G_X6_noteBits q9 (QC S o0 hd) ((y1 - y3))) (aC_mk (uC_200 (T := S) (o := i1) rfl) (uC_201 (T := S) (o := i1) rfl) (uC_202 (T := S) (o := i1) rfl) (uC_203 (T := S) (o := i1) rfl) (uC_204 (T := S) (o := i1) rfl) (uC_199 (T := S) (o := i1) rfl))).trans (congrArg (fun q9 => G_X6_noteBits (AC S i1) q9 ((y1 - y3))) (qC_mk (tC_388 (T := S) (o := o0) (a := hd) rfl) (tC_389 (T := S) (o := o0) (a := hd) rfl) (tC_390 (T := S) (o := o0) (a := hd) rfl) (tC_391 (T := S) (o := o0) (a := hd) rfl) (tC_392 (T := S) (o := o0) (a := hd) rfl) (tC_393 (T := S) (o := o0) (a := hd) rfl) rfl))).trans hd107
  have hs109 := hx105.2.trans (congrArg Prod.fst hq108)
  obtain rfl : d106.2 = y110 := ((el_w hx105.1).trans (congrArg Prod.snd hq108)).symm
  refine tt_lstore (ks := [0, 1, 2, 3]) (L' := [(5, .long d106.2), (0, .ref o0), (1, .long y1), (3, .long y3)]) dX6_difference_7 (by decide) rfl ?_
  refine tt_aload_n (j := 1) dX6_difference_9 rfl ?_
  refine tt_lload_n (j := 2) dX6_difference_10 rfl ?_
  refine tt_lload_n (j := 3) dX6_difference_11 rfl ?_
  refine gt_SIp (As := [.long y1, .long y3]) dX6_difference_12 ca_X6_132 ⟨by decide, by decide⟩ hA104 (Nat.le_of_ble_eq_true rfl) (Nat.le_of_ble_eq_true rfl) (by decide) (cr_J13_compareUnsigned_74951 hG102  (fun _ _ _ _ h => h)) rfl (fun _ h => nomatch h) (fun _ _ q => q.1) (fun x111 h112 hx113 => ?_)
  obtain rfl : G_J13_compareUnsigned_74951 (y1) (y3) = x111 := (ei_w hx113.2).symm
  refine tt_if_ge (tgt := 22) dX6_difference_15 rfl (fun q114 => ?_) (fun q114 => ?_)
  · skip
    have h115 : Rg 0 2147483647 (G_J13_compareUnsigned_74951 (y1) (y3)) := rg_le_r (⟨by decide, by decide⟩ : Rg 0 0 0) h112 q114
    refine tt_iconst (v := 0) dX6_difference_22 rfl ?_
    refine gt_pIj (id := 392) (x := 0) dX6_difference_23 fl_6_82 rfl rfl h0 hA104 rfl rfl rfl (gp_Ir hG102 (⟨by decide, by decide⟩ : Rg 0 0 0)) (by decide) (fun h => absurd h (by decide)) (fun h => absurd h (by decide)) (fun S116 hG117 hA118 e119 f120 er121 ej122 => ?_)
    refine tt_aload_n (j := 1) dX6_difference_26 rfl ?_
    refine tt_lload_n (j := 2) dX6_difference_27 rfl ?_
    refine tt_lload_n (j := 3) dX6_difference_28 rfl ?_
    refine tt_lxor dX6_difference_29 ?_
    refine tt_lload_n (j := 2) dX6_difference_30 rfl ?_
    refine tt_lload (j := 0) dX6_difference_31 rfl ?_
    refine tt_lxor dX6_difference_33 ?_
    refine tt_land dX6_difference_34 ?_
    refine tt_lconst (v := 0) dX6_difference_35 rfl ?_
    refine tt_lcmp dX6_difference_36 ?_
    refine tt_if_ge (tgt := 44) dX6_difference_37 rfl (fun q123 => ?_) (fun q123 => ?_)
    · skip
      refine tt_iconst (v := 0) dX6_difference_44 rfl ?_
      refine gt_pIj (id := 393) (x := 0) dX6_difference_45 fl_6_79 rfl rfl h0 hA118 rfl rfl rfl (gp_Ir hG117 (⟨by decide, by decide⟩ : Rg 0 0 0)) (by decide) (fun h => absurd h (by decide)) (fun h => absurd h (by decide)) (fun S124 hG125 hA126 e127 f128 er129 ej130 => ?_)
      refine tt_lload (j := 0) dX6_difference_48 rfl ?_
      have hF : G_X6_difference (AC S i1) (QC S o0 hd) y1 y3 = (((r0 d106.1), (r1 d106.1), (r2 d106.1), (r3 d106.1), 0, 0, (rA d106.1)), d106.2) := by
        subst hd107
        exact g_X6_difference_1 q114 (Int64.not_lt.mpr (lc_ge_t q123))
      exact tt_lreturn dX6_difference_50 rfl (hP _ _ _ _ ⟨hG125, hA126, Or.inl ⟨_, rfl, ⟨_, rfl⟩, yjC_mk hF (qC_mk ((congrFun (congrFun e127 388) o0).trans ((congrFun (up2_ne (k := 388)) o0).trans ((congrFun (congrFun e119 388) o0).trans ((congrFun (up2_ne (k := 388)) o0).trans (tC_388 hs109))))) ((congrFun (congrFun e127 389) o0).trans ((congrFun (up2_ne (k := 389)) o0).trans ((congrFun (congrFun e119 389) o0).trans ((congrFun (up2_ne (k := 389)) o0).trans (tC_389 hs109))))) ((congrFun (congrFun e127 390) o0).trans ((congrFun (up2_ne (k := 390)) o0).trans ((congrFun (congrFun e119 390) o0).trans ((congrFun (up2_ne (k := 390)) o0).trans (tC_390 hs109))))) ((congrFun (congrFun e127 391) o0).trans ((congrFun (up2_ne (k := 391)) o0).trans ((congrFun (congrFun e119 391) o0).trans ((congrFun (up2_ne (k := 391)) o0).trans (tC_391 hs109))))) ((congrFun (congrFun e127 392) o0).trans ((congrFun (up2_ne (k := 392)) o0).trans (by rw [e119]; exact up2_self))) (by rw [e127]; exact up2_self) ((congrFun ej130 hd).trans ((congrFun ej122 hd).trans (tC_j hs109)))), rfl, rfl⟩⟩)
    · skip
      refine tt_iconst (v := 1) dX6_difference_40 rfl ?_
      refine tt_goto (tgt := 45) dX6_difference_41 rfl ?_
      refine gt_pIj (id := 393) (x := 1) dX6_difference_45 fl_6_79 rfl rfl h0 hA118 rfl rfl rfl (gp_Ir hG117 (⟨by decide, by decide⟩ : Rg 1 1 1)) (by decide) (fun h => absurd h (by decide)) (fun h => absurd h (by decide)) (fun S131 hG132 hA133 e134 f135 er136 ej137 => ?_)
      refine tt_lload (j := 0) dX6_difference_48 rfl ?_
      have hF : G_X6_difference (AC S i1) (QC S o0 hd) y1 y3 = (((r0 d106.1), (r1 d106.1), (r2 d106.1), (r3 d106.1), 0, 1, (rA d106.1)), d106.2) := by
        subst hd107
        exact g_X6_difference_0 q114 (lc_ge_f q123)
      exact tt_lreturn dX6_difference_50 rfl (hP _ _ _ _ ⟨hG132, hA133, Or.inl ⟨_, rfl, ⟨_, rfl⟩, yjC_mk hF (qC_mk ((congrFun (congrFun e134 388) o0).trans ((congrFun (up2_ne (k := 388)) o0).trans ((congrFun (congrFun e119 388) o0).trans ((congrFun (up2_ne (k := 388)) o0).trans (tC_388 hs109))))) ((congrFun (congrFun e134 389) o0).trans ((congrFun (up2_ne (k := 389)) o0).trans ((congrFun (congrFun e119 389) o0).trans ((congrFun (up2_ne (k := 389)) o0).trans (tC_389 hs109))))) ((congrFun (congrFun e134 390) o0).trans ((congrFun (up2_ne (k := 390)) o0).trans ((congrFun (congrFun e119 390) o0).trans ((congrFun (up2_ne (k := 390)) o0).trans (tC_390 hs109))))) ((congrFun (congrFun e134 391) o0).trans ((congrFun (up2_ne (k := 391)) o0).trans ((congrFun (congrFun e119 391) o0).trans ((congrFun (up2_ne (k := 391)) o0).trans (tC_391 hs109))))) ((congrFun (congrFun e134 392) o0).trans ((congrFun (up2_ne (k := 392)) o0).trans (by rw [e119]; exact up2_self))) (by rw [e134]; exact up2_self) ((congrFun ej137 hd).trans ((congrFun ej122 hd).trans (tC_j hs109)))), rfl, rfl⟩⟩)
  · skip
    have h138 : Rg (-2147483648) (-1) (G_J13_compareUnsigned_74951 (y1) (y3)) := rg_lt_l h112 (⟨by decide, by decide⟩ : Rg 0 0 0) (nle_lt q114)
    refine tt_iconst (v := 1) dX6_difference_18 rfl ?_
    refine tt_goto (tgt := 23) dX6_difference_19 rfl ?_
    refine gt_pIj (id := 392) (x := 1) dX6_difference_23 fl_6_82 rfl rfl h0 hA104 rfl rfl rfl (gp_Ir hG102 (⟨by decide, by decide⟩ : Rg 1 1 1)) (by decide) (fun h => absurd h (by decide)) (fun h => absurd h (by decide)) (fun S139 hG140 hA141 e142 f143 er144 ej145 => ?_)
    refine tt_aload_n (j := 1) dX6_difference_26 rfl ?_
    refine tt_lload_n (j := 2) dX6_difference_27 rfl ?_
    refine tt_lload_n (j := 3) dX6_difference_28 rfl ?_
    refine tt_lxor dX6_difference_29 ?_
    refine tt_lload_n (j := 2) dX6_difference_30 rfl ?_
    refine tt_lload (j := 0) dX6_difference_31 rfl ?_
    refine tt_lxor dX6_difference_33 ?_
    refine tt_land dX6_difference_34 ?_
    refine tt_lconst (v := 0) dX6_difference_35 rfl ?_
    refine tt_lcmp dX6_difference_36 ?_
    refine tt_if_ge (tgt := 44) dX6_difference_37 rfl (fun q146 => ?_) (fun q146 => ?_)
    · skip
      refine tt_iconst (v := 0) dX6_difference_44 rfl ?_
      refine gt_pIj (id := 393) (x := 0) dX6_difference_45 fl_6_79 rfl rfl h0 hA141 rfl rfl rfl (gp_Ir hG140 (⟨by decide, by decide⟩ : Rg 0 0 0)) (by decide) (fun h => absurd h (by decide)) (fun h => absurd h (by decide)) (fun S147 hG148 hA149 e150 f151 er152 ej153 => ?_)
      refine tt_lload (j := 0) dX6_difference_48 rfl ?_
      have hF : G_X6_difference (AC S i1) (QC S o0 hd) y1 y3 = (((r0 d106.1), (r1 d106.1), (r2 d106.1), (r3 d106.1), 1, 0, (rA d106.1)), d106.2) := by
        subst hd107
        exact g_X6_difference_3 q114 (Int64.not_lt.mpr (lc_ge_t q146))
      exact tt_lreturn dX6_difference_50 rfl (hP _ _ _ _ ⟨hG148, hA149, Or.inl ⟨_, rfl, ⟨_, rfl⟩, yjC_mk hF (qC_mk ((congrFun (congrFun e150 388) o0).trans ((congrFun (up2_ne (k := 388)) o0).trans ((congrFun (congrFun e142 388) o0).trans ((congrFun (up2_ne (k := 388)) o0).trans (tC_388 hs109))))) ((congrFun (congrFun e150 389) o0).trans ((congrFun (up2_ne (k := 389)) o0).trans ((congrFun (congrFun e142 389) o0).trans ((congrFun (up2_ne (k := 389)) o0).trans (tC_389 hs109))))) ((congrFun (congrFun e150 390) o0).trans ((congrFun (up2_ne (k := 390)) o0).trans ((congrFun (congrFun e142 390) o0).trans ((congrFun (up2_ne (k := 390)) o0).trans (tC_390 hs109))))) ((congrFun (congrFun e150 391) o0).trans ((congrFun (up2_ne (k := 391)) o0).trans ((congrFun (congrFun e142 391) o0).trans ((congrFun (up2_ne (k := 391)) o0).trans (tC_391 hs109))))) ((congrFun (congrFun e150 392) o0).trans ((congrFun (up2_ne (k := 392)) o0).trans (by rw [e142]; exact up2_self))) (by rw [e150]; exact up2_self) ((congrFun ej153 hd).trans ((congrFun ej145 hd).trans (tC_j hs109)))), rfl, rfl⟩⟩)
    · skip
      refine tt_iconst (v := 1) dX6_difference_40 rfl ?_
      refine tt_goto (tgt := 45) dX6_difference_41 rfl ?_
      refine gt_pIj (id := 393) (x := 1) dX6_difference_45 fl_6_79 rfl rfl h0 hA141 rfl rfl rfl (gp_Ir hG140 (⟨by decide, by decide⟩ : Rg 1 1 1)) (by decide) (fun h => absurd h (by decide)) (fun h => absurd h (by decide)) (fun S154 hG155 hA156 e157 f158 er159 ej160 => ?_)
      refine tt_lload (j := 0) dX6_difference_48 rfl ?_
      have hF : G_X6_difference (AC S i1) (QC S o0 hd) y1 y3 = (((r0 d106.1), (r1 d106.1), (r2 d106.1), (r3 d106.1), 1, 1, (rA d106.1)), d106.2) := by
        subst hd107
        exact g_X6_difference_2 q114 (lc_ge_f q146)
      exact tt_lreturn dX6_difference_50 rfl (hP _ _ _ _ ⟨hG155, hA156, Or.inl ⟨_, rfl, ⟨_, rfl⟩, yjC_mk hF (qC_mk ((congrFun (congrFun e157 388) o0).trans ((congrFun (up2_ne (k := 388)) o0).trans ((congrFun (congrFun e142 388) o0).trans ((congrFun (up2_ne (k := 388)) o0).trans (tC_388 hs109))))) ((congrFun (congrFun e157 389) o0).trans ((congrFun (up2_ne (k := 389)) o0).trans ((congrFun (congrFun e142 389) o0).trans ((congrFun (up2_ne (k := 389)) o0).trans (tC_389 hs109))))) ((congrFun (congrFun e157 390) o0).trans ((congrFun (up2_ne (k := 390)) o0).trans ((congrFun (congrFun e142 390) o0).trans ((congrFun (up2_ne (k := 390)) o0).trans (tC_390 hs109))))) ((congrFun (congrFun e157 391) o0).trans ((congrFun (up2_ne (k := 391)) o0).trans ((congrFun (congrFun e142 391) o0).trans ((congrFun (up2_ne (k := 391)) o0).trans (tC_391 hs109))))) ((congrFun (congrFun e157 392) o0).trans ((congrFun (up2_ne (k := 392)) o0).trans (by rw [e142]; exact up2_self))) (by rw [e157]; exact up2_self) ((congrFun ej160 hd).trans ((congrFun ej145 hd).trans (tC_j hs109)))), rfl, rfl⟩⟩)
def G_X6_nextTo (q : AU) (w : RS) (y1 : Int64) (x3 : Int32) : RS × Int64 :=
  if (r1 w) = 0 then
    if x3 = 0 then
      (w, (y1 - 1))
    else
      (w, (y1 + 1))
  else
    if x3 = 0 then
      let d110 := G_X6_difference q w (y1) (1)
      (((r0 d110.1), (r1 d110.1), (r2 d110.1), (r3 d110.1), (r4 w), (r5 d110.1), (rA d110.1)), d110.2)
    else
      let d128 := G_X6_sum q w (y1) (1)
      (((r0 d128.1), (r1 d128.1), (r2 d128.1), (r3 d128.1), (r4 w), (r5 d128.1), (rA d128.1)), d128.2)
theorem g_X6_nextTo_0 {q : AU} {w : RS} {y1 : Int64} {x3 : Int32} (h0 : (r1 w) = 0) (h1 : x3 = 0) : G_X6_nextTo q w y1 x3 = (w, (y1 - 1)) := by unfold G_X6_nextTo; exact Eq.trans (if_pos h0) (if_pos h1)
theorem g_X6_nextTo_1 {q : AU} {w : RS} {y1 : Int64} {x3 : Int32} (h0 : (r1 w) = 0) (h1 : ¬ x3 = 0) : G_X6_nextTo q w y1 x3 = (w, (y1 + 1)) := by unfold G_X6_nextTo; exact Eq.trans (if_pos h0) (if_neg h1)
theorem g_X6_nextTo_2 {q : AU} {w : RS} {y1 : Int64} {x3 : Int32} (h0 : ¬ (r1 w) = 0) (h1 : x3 = 0) : G_X6_nextTo q w y1 x3 = (((r0 (G_X6_difference q w (y1) (1)).1), (r1 (G_X6_difference q w (y1) (1)).1), (r2 (G_X6_difference q w (y1) (1)).1), (r3 (G_X6_difference q w (y1) (1)).1), (r4 w), (r5 (G_X6_difference q w (y1) (1)).1), (rA (G_X6_difference q w (y1) (1)).1)), (G_X6_difference q w (y1) (1)).2) := by unfold G_X6_nextTo; exact Eq.trans (if_neg h0) (if_pos h1)
theorem g_X6_nextTo_3 {q : AU} {w : RS} {y1 : Int64} {x3 : Int32} (h0 : ¬ (r1 w) = 0) (h1 : ¬ x3 = 0) : G_X6_nextTo q w y1 x3 = (((r0 (G_X6_sum q w (y1) (1)).1), (r1 (G_X6_sum q w (y1) (1)).1), (r2 (G_X6_sum q w (y1) (1)).1), (r3 (G_X6_sum q w (y1) (1)).1), (r4 w), (r5 (G_X6_sum q w (y1) (1)).1), (rA (G_X6_sum q w (y1) (1)).1)), (G_X6_sum q w (y1) (1)).2) := by unfold G_X6_nextTo; exact Eq.trans (if_neg h0) (if_neg h1)
set_option maxHeartbeats 40000000 in
theorem cr_X6_nextTo {xi : SX} {S : Hp} {E : List Nat} {kc nc : Nat} {P : Po} {o0 : Nat} {y1 : Int64} {x3 : Int32} {i1 hd : Nat} {bs : Nat → Int32} {n : Int32} (hG : GI S E) (h3 : Rg 0 1 x3) (hc : RC S E o0 i1 hd bs n) (hP : ∀ r T x y, PV E [389, 390, 391, 392, 393] S kc nc rJ (fun v T => YJC (G_X6_nextTo (AC S i1) (QC S o0 hd) y1 x3) T o0 hd v) [] r T x y → P r T x y) : TT xi M_X6_nextTo 0 [(0, .ref o0), (1, .long y1), (3, .int x3)] [] S kc nc P := by
  obtain ⟨h0, hri, hoi, hrh, hoh, hb, cb, hrc, hoc, rfl⟩ := id hc
  have hA : Af E [389, 390, 391, 392, 393] S S := af_rf
  refine tt_aload_n (j := 0) dX6_nextTo_0 rfl ?_
  refine gt_gI (id := 389) (v := (r1 (QC S o0 hd))) dX6_nextTo_1 fl_6_40 rfl rfl h0 hA (tC_389 (T := S) (o := o0) (a := hd) rfl) ?_
  refine tt_if_ne (tgt := 21) dX6_nextTo_4 rfl (fun q101 => ?_) (fun q101 => ?_)
  · skip
    have h102 : Rg 1 1 (r1 (QC S o0 hd)) := rg_ne_lo (gi_I (k := 389) hG h0 0 1) (⟨by decide, by decide⟩ : Rg 0 0 0) q101
    refine tt_aload_n (j := 0) dX6_nextTo_21 rfl ?_
    refine gt_gI (id := 392) (v := (r4 (QC S o0 hd))) dX6_nextTo_22 fl_6_82 rfl rfl h0 hA (tC_392 (T := S) (o := o0) (a := hd) rfl) ?_
    refine tt_istore (ks := [0, 1, 2, 3]) (L' := [(4, .int (r4 (QC S o0 hd))), (0, .ref o0), (1, .long y1), (3, .int x3)]) dX6_nextTo_25 (by decide) rfl ?_
    refine tt_iload_n (j := 3) dX6_nextTo_27 rfl ?_
    refine tt_if_eq (tgt := 40) dX6_nextTo_28 rfl (fun q103 => ?_) (fun q103 => ?_)
    · skip
      have h104 : Rg 0 0 x3 := rg_eq_l h3 (⟨by decide, by decide⟩ : Rg 0 0 0) q103
      refine tt_aload_n (j := 1) dX6_nextTo_40 rfl ?_
      refine tt_lload_n (j := 2) dX6_nextTo_41 rfl ?_
      refine tt_lconst (v := 1) dX6_nextTo_42 rfl ?_
      refine gt_VJ (As := [.long y1, .long 1]) dX6_nextTo_43 ca_X6_112 ⟨by decide, by decide⟩ h0 hA rfl (Nat.le_of_ble_eq_true rfl) (Nat.le_of_ble_eq_true rfl) (by decide) (cr_X6_difference hG (rc_af hc hA) (fun _ _ _ _ h => h)) rfl (fun _ h => nomatch h) (fun S105 y114 hx109 hG106 hB107 hA108 => ?_)
      obtain ⟨d110, hd111⟩ : ∃ q, G_X6_difference (AC S i1) (QC S o0 hd) (y1) (1) = q := ⟨_, rfl⟩
      have hq112 := ((congrArg (fun q9 => G_X6_difference q9 (QC S o0 hd) (y1) (1)) (aC_mk (uC_200 (T := S) (o := i1) rfl) (uC_201 (T := S) (o := i1) rfl) (uC_202 (T := S) (o := i1) rfl) (uC_203 (T := S) (o := i1) rfl) (uC_204 (T := S) (o := i1) rfl) (uC_199 (T := S) (o := i1) rfl))).trans (congrArg (fun q9 => G_X6_difference (AC S i1) q9 (y1) (1)) (qC_mk (tC_388 (T := S) (o := o0) (a := hd) rfl) (tC_389 (T := S) (o := o0) (a := hd) rfl) (tC_390 (T := S) (o := o0) (a := hd) rfl) (tC_391 (T := S) (o := o0) (a := hd) rfl) (tC_392 (T := S) (o := o0) (a := hd) rfl) (tC_393 (T := S) (o := o0) (a := hd) rfl) rfl))).trans hd111
      have hs113 := hx109.2.trans (congrArg Prod.fst hq112)
      obtain rfl : d110.2 = y114 := ((el_w hx109.1).trans (congrArg Prod.snd hq112)).symm
      refine tt_lstore (ks := [0, 1, 2, 3, 4]) (L' := [(5, .long d110.2), (4, .int (r4 (QC S o0 hd))), (0, .ref o0), (1, .long y1), (3, .int x3)]) dX6_nextTo_46 (by decide) rfl ?_
      refine tt_aload_n (j := 2) dX6_nextTo_48 rfl ?_
      refine tt_iload (j := 1) dX6_nextTo_49 rfl ?_
      refine gt_pIj (id := 392) (x := (r4 (QC S o0 hd))) dX6_nextTo_51 fl_6_82 rfl rfl h0 hA108 (rg_nar (rg_w (gi_I (k := 392) hG h0 0 1))) (rg_fit (rg_w (gi_I (k := 392) hG h0 0 1))) rfl (gp_Ir hG106 (gi_I (k := 392) hG h0 0 1)) (by decide) (fun h => absurd h (by decide)) (fun h => absurd h (by decide)) (fun S115 hG116 hA117 e118 f119 er120 ej121 => ?_)
      refine tt_lload (j := 0) dX6_nextTo_54 rfl ?_
      have hF : G_X6_nextTo (AC S i1) (QC S o0 hd) y1 x3 = (((r0 d110.1), (r1 d110.1), (r2 d110.1), (r3 d110.1), (r4 (QC S o0 hd)), (r5 d110.1), (rA d110.1)), d110.2) := by
        subst hd111
        exact g_X6_nextTo_2 q101 q103
      exact tt_lreturn dX6_nextTo_56 rfl (hP _ _ _ _ ⟨hG116, hA117, Or.inl ⟨_, rfl, ⟨_, rfl⟩, yjC_mk hF (qC_mk ((congrFun (congrFun e118 388) o0).trans ((congrFun (up2_ne (k := 388)) o0).trans (tC_388 hs113))) ((congrFun (congrFun e118 389) o0).trans ((congrFun (up2_ne (k := 389)) o0).trans (tC_389 hs113))) ((congrFun (congrFun e118 390) o0).trans ((congrFun (up2_ne (k := 390)) o0).trans (tC_390 hs113))) ((congrFun (congrFun e118 391) o0).trans ((congrFun (up2_ne (k := 391)) o0).trans (tC_391 hs113))) (by rw [e118]; exact up2_self) ((congrFun (congrFun e118 393) o0).trans ((congrFun (up2_ne (k := 393)) o0).trans (tC_393 hs113))) ((congrFun ej121 hd).trans (tC_j hs113))), rfl, rfl⟩⟩)
    · skip
      have h122 : Rg 1 1 x3 := rg_ne_lo h3 (⟨by decide, by decide⟩ : Rg 0 0 0) q103
      refine tt_aload_n (j := 1) dX6_nextTo_31 rfl ?_
      refine tt_lload_n (j := 2) dX6_nextTo_32 rfl ?_
      refine tt_lconst (v := 1) dX6_nextTo_33 rfl ?_
      refine gt_VJ (As := [.long y1, .long 1]) dX6_nextTo_34 ca_X6_105 ⟨by decide, by decide⟩ h0 hA rfl (Nat.le_of_ble_eq_true rfl) (Nat.le_of_ble_eq_true rfl) (by decide) (cr_X6_sum hG (rc_af hc hA) (fun _ _ _ _ h => h)) rfl (fun _ h => nomatch h) (fun S123 y132 hx127 hG124 hB125 hA126 => ?_)
      obtain ⟨d128, hd129⟩ : ∃ q, G_X6_sum (AC S i1) (QC S o0 hd) (y1) (1) = q := ⟨_, rfl⟩
      have hq130 := ((congrArg (fun q9 => G_X6_sum q9 (QC S o0 hd) (y1) (1)) (aC_mk (uC_200 (T := S) (o := i1) rfl) (uC_201 (T := S) (o := i1) rfl) (uC_202 (T := S) (o := i1) rfl) (uC_203 (T := S) (o := i1) rfl) (uC_204 (T := S) (o := i1) rfl) (uC_199 (T := S) (o := i1) rfl))).trans (congrArg (fun q9 => G_X6_sum (AC S i1) q9 (y1) (1)) (qC_mk (tC_388 (T := S) (o := o0) (a := hd) rfl) (tC_389 (T := S) (o := o0) (a := hd) rfl) (tC_390 (T := S) (o := o0) (a := hd) rfl) (tC_391 (T := S) (o := o0) (a := hd) rfl) (tC_392 (T := S) (o := o0) (a := hd) rfl) (tC_393 (T := S) (o := o0) (a := hd) rfl) rfl))).trans hd129
      have hs131 := hx127.2.trans (congrArg Prod.fst hq130)
      obtain rfl : d128.2 = y132 := ((el_w hx127.1).trans (congrArg Prod.snd hq130)).symm
      refine tt_goto (tgt := 46) dX6_nextTo_37 rfl ?_
      refine tt_lstore (ks := [0, 1, 2, 3, 4]) (L' := [(5, .long d128.2), (4, .int (r4 (QC S o0 hd))), (0, .ref o0), (1, .long y1), (3, .int x3)]) dX6_nextTo_46 (by decide) rfl ?_
      refine tt_aload_n (j := 2) dX6_nextTo_48 rfl ?_
      refine tt_iload (j := 1) dX6_nextTo_49 rfl ?_
      refine gt_pIj (id := 392) (x := (r4 (QC S o0 hd))) dX6_nextTo_51 fl_6_82 rfl rfl h0 hA126 (rg_nar (rg_w (gi_I (k := 392) hG h0 0 1))) (rg_fit (rg_w (gi_I (k := 392) hG h0 0 1))) rfl (gp_Ir hG124 (gi_I (k := 392) hG h0 0 1)) (by decide) (fun h => absurd h (by decide)) (fun h => absurd h (by decide)) (fun S133 hG134 hA135 e136 f137 er138 ej139 => ?_)
      refine tt_lload (j := 0) dX6_nextTo_54 rfl ?_
      have hF : G_X6_nextTo (AC S i1) (QC S o0 hd) y1 x3 = (((r0 d128.1), (r1 d128.1), (r2 d128.1), (r3 d128.1), (r4 (QC S o0 hd)), (r5 d128.1), (rA d128.1)), d128.2) := by
        subst hd129
        exact g_X6_nextTo_3 q101 q103
      exact tt_lreturn dX6_nextTo_56 rfl (hP _ _ _ _ ⟨hG134, hA135, Or.inl ⟨_, rfl, ⟨_, rfl⟩, yjC_mk hF (qC_mk ((congrFun (congrFun e136 388) o0).trans ((congrFun (up2_ne (k := 388)) o0).trans (tC_388 hs131))) ((congrFun (congrFun e136 389) o0).trans ((congrFun (up2_ne (k := 389)) o0).trans (tC_389 hs131))) ((congrFun (congrFun e136 390) o0).trans ((congrFun (up2_ne (k := 390)) o0).trans (tC_390 hs131))) ((congrFun (congrFun e136 391) o0).trans ((congrFun (up2_ne (k := 391)) o0).trans (tC_391 hs131))) (by rw [e136]; exact up2_self) ((congrFun (congrFun e136 393) o0).trans ((congrFun (up2_ne (k := 393)) o0).trans (tC_393 hs131))) ((congrFun ej139 hd).trans (tC_j hs131))), rfl, rfl⟩⟩)
  · skip
    have h140 : Rg 0 0 (r1 (QC S o0 hd)) := rg_eq_l (gi_I (k := 389) hG h0 0 1) (⟨by decide, by decide⟩ : Rg 0 0 0) q101
    refine tt_iload_n (j := 2) dX6_nextTo_7 rfl ?_
    refine tt_if_eq (tgt := 17) dX6_nextTo_8 rfl (fun q141 => ?_) (fun q141 => ?_)
    · skip
      have h142 : Rg 0 0 x3 := rg_eq_l h3 (⟨by decide, by decide⟩ : Rg 0 0 0) q141
      refine tt_lload_n (j := 1) dX6_nextTo_17 rfl ?_
      refine tt_lconst (v := 1) dX6_nextTo_18 rfl ?_
      refine tt_lsub dX6_nextTo_19 ?_
      have hF : G_X6_nextTo (AC S i1) (QC S o0 hd) y1 x3 = ((QC S o0 hd), (y1 - 1)) := by
        exact g_X6_nextTo_0 q101 q141
      exact tt_lreturn dX6_nextTo_20 rfl (hP _ _ _ _ ⟨hG, hA, Or.inl ⟨_, rfl, ⟨_, rfl⟩, yjC_mk hF (qC_mk (tC_388 (T := S) (o := o0) (a := hd) rfl) (tC_389 (T := S) (o := o0) (a := hd) rfl) (tC_390 (T := S) (o := o0) (a := hd) rfl) (tC_391 (T := S) (o := o0) (a := hd) rfl) (tC_392 (T := S) (o := o0) (a := hd) rfl) (tC_393 (T := S) (o := o0) (a := hd) rfl) rfl), rfl, rfl⟩⟩)
    · skip
      have h143 : Rg 1 1 x3 := rg_ne_lo h3 (⟨by decide, by decide⟩ : Rg 0 0 0) q141
      refine tt_lload_n (j := 1) dX6_nextTo_11 rfl ?_
      refine tt_lconst (v := 1) dX6_nextTo_12 rfl ?_
      refine tt_ladd dX6_nextTo_13 ?_
      refine tt_goto (tgt := 20) dX6_nextTo_14 rfl ?_
      have hF : G_X6_nextTo (AC S i1) (QC S o0 hd) y1 x3 = ((QC S o0 hd), (y1 + 1)) := by
        exact g_X6_nextTo_1 q101 q141
      exact tt_lreturn dX6_nextTo_20 rfl (hP _ _ _ _ ⟨hG, hA, Or.inl ⟨_, rfl, ⟨_, rfl⟩, yjC_mk hF (qC_mk (tC_388 (T := S) (o := o0) (a := hd) rfl) (tC_389 (T := S) (o := o0) (a := hd) rfl) (tC_390 (T := S) (o := o0) (a := hd) rfl) (tC_391 (T := S) (o := o0) (a := hd) rfl) (tC_392 (T := S) (o := o0) (a := hd) rfl) (tC_393 (T := S) (o := o0) (a := hd) rfl) rfl), rfl, rfl⟩⟩)
theorem sl_X6_shifted_15 : (#[(14, 25), (15, 29)] : Array (Int × Int)).toList = [(14, 25), (15, 29)] := rfl
theorem so_X6_shifted_15 : ((([(14, 25), (15, 29)] : List (Int × Int)).zip (([(14, 25), (15, 29)] : List (Int × Int)).drop 1)).all (fun (a, next) => a.1 < next.1)) = true := by decide
def G_X6_shifted (q : AU) (w : RS) (y1 : Int64) : Int64 :=
  if (u0 q) = 14 then
    (y1 <<< (((u4 q) : Int32).toInt64 &&& 63))
  else
    if (u0 q) = 15 then
      if (u1 q) = 64 then
        (((y1 : Int64).toUInt64 >>> (((u4 q) : Int32).toInt64.toUInt64 &&& Int64.toUInt64 63)).toInt64)
      else
        ((((y1 &&& 4294967295) : Int64).toUInt64 >>> (((u4 q) : Int32).toInt64.toUInt64 &&& Int64.toUInt64 63)).toInt64)
    else
      (y1 >>> (((u4 q) : Int32).toInt64 &&& 63))
theorem g_X6_shifted_0 {q : AU} {w : RS} {y1 : Int64} (h0 : (u0 q) = 14) : G_X6_shifted q w y1 = (y1 <<< (((u4 q) : Int32).toInt64 &&& 63)) := by unfold G_X6_shifted; exact if_pos h0
theorem g_X6_shifted_1 {q : AU} {w : RS} {y1 : Int64} (h0 : ¬ (u0 q) = 14) (h1 : (u0 q) = 15) (h2 : (u1 q) = 64) : G_X6_shifted q w y1 = (((y1 : Int64).toUInt64 >>> (((u4 q) : Int32).toInt64.toUInt64 &&& Int64.toUInt64 63)).toInt64) := by unfold G_X6_shifted; exact Eq.trans (if_neg h0) (Eq.trans (if_pos h1) (if_pos h2))
theorem g_X6_shifted_2 {q : AU} {w : RS} {y1 : Int64} (h0 : ¬ (u0 q) = 14) (h1 : (u0 q) = 15) (h2 : ¬ (u1 q) = 64) : G_X6_shifted q w y1 = ((((y1 &&& 4294967295) : Int64).toUInt64 >>> (((u4 q) : Int32).toInt64.toUInt64 &&& Int64.toUInt64 63)).toInt64) := by unfold G_X6_shifted; exact Eq.trans (if_neg h0) (Eq.trans (if_pos h1) (if_neg h2))
theorem g_X6_shifted_3 {q : AU} {w : RS} {y1 : Int64} (h0 : ¬ (u0 q) = 14) (h1 : ¬ (u0 q) = 15) : G_X6_shifted q w y1 = (y1 >>> (((u4 q) : Int32).toInt64 &&& 63)) := by unfold G_X6_shifted; exact Eq.trans (if_neg h0) (if_neg h1)
set_option maxHeartbeats 40000000 in
theorem cr_X6_shifted {xi : SX} {S : Hp} {E : List Nat} {kc nc : Nat} {P : Po} {o0 : Nat} {y1 : Int64} {i1 hd : Nat} {bs : Nat → Int32} {n : Int32} (hG : GI S E) (hc : RC S E o0 i1 hd bs n) (hP : ∀ r T x y, PV E [] S kc nc rJ (fun v T => T = S ∧ v = some (.long (G_X6_shifted (AC S i1) (QC S o0 hd) y1))) [] r T x y → P r T x y) : TT xi M_X6_shifted 0 [(0, .ref o0), (1, .long y1)] [] S kc nc P := by
  obtain ⟨h0, hri, hoi, hrh, hoh, hb, cb, hrc, hoc, rfl⟩ := id hc
  have hA : Af E [] S S := af_rf
  refine tt_aload_n (j := 0) dX6_shifted_0 rfl ?_
  refine gt_gR (id := 385) dX6_shifted_1 fl_6_26 rfl rfl h0 hA hri ?_
  refine gt_gI (id := 204) (v := (u4 (AC S i1))) dX6_shifted_4 fl_6_64 rfl rfl hoi hA (uC_204 (T := S) (o := i1) rfl) ?_
  refine tt_istore_n (ks := [0, 1, 2]) (L' := [(3, .int (u4 (AC S i1))), (0, .ref o0), (1, .long y1)]) dX6_shifted_7 (by decide) rfl ?_
  refine tt_aload_n (j := 1) dX6_shifted_8 rfl ?_
  refine gt_gR (id := 385) dX6_shifted_9 fl_6_26 rfl rfl h0 hA hri ?_
  refine gt_gI (id := 200) (v := (u0 (AC S i1))) dX6_shifted_12 fl_6_57 rfl rfl hoi hA (uC_200 (T := S) (o := i1) rfl) ?_
  refine gt_by (c := (u0 (AC S i1)) = 14) (fun q101 => ?_) (fun q101 => ?_)
  · skip
    refine gt_lseqL (off := 25) (tgt := 40) 14 14 dX6_shifted_15 sl_X6_shifted_15 so_X6_shifted_15 q101 rfl rfl rfl ?_
    refine tt_lload_n (j := 2) dX6_shifted_40 rfl ?_
    refine tt_iload_n (j := 0) dX6_shifted_41 rfl ?_
    refine tt_lshl dX6_shifted_42 ?_
    have hF : G_X6_shifted (AC S i1) (QC S o0 hd) y1 = (y1 <<< (((u4 (AC S i1)) : Int32).toInt64 &&& 63)) := by
      exact g_X6_shifted_0 q101
    exact tt_lreturn dX6_shifted_43 rfl (hP _ _ _ _ ⟨hG, hA, Or.inl ⟨_, rfl, ⟨_, rfl⟩, ⟨rfl, congrArg (fun q => some (Value.long q)) hF.symm⟩, rfl, rfl⟩⟩)
  refine gt_by (c := (u0 (AC S i1)) = 15) (fun q102 => ?_) (fun q102 => ?_)
  · skip
    refine gt_lseqL (off := 29) (tgt := 44) 15 15 dX6_shifted_15 sl_X6_shifted_15 so_X6_shifted_15 q102 rfl rfl rfl ?_
    refine tt_aload_n (j := 1) dX6_shifted_44 rfl ?_
    refine gt_gR (id := 385) dX6_shifted_45 fl_6_26 rfl rfl h0 hA hri ?_
    refine gt_gI (id := 201) (v := (u1 (AC S i1))) dX6_shifted_48 fl_6_127 rfl rfl hoi hA (uC_201 (T := S) (o := i1) rfl) ?_
    refine tt_bipush (v := 64) dX6_shifted_51 rfl ?_
    refine tt_icmp_ne (tgt := 60) dX6_shifted_53 rfl (fun q103 => ?_) (fun q103 => ?_)
    · skip
      refine tt_lload_n (j := 2) dX6_shifted_60 rfl ?_
      refine tt_ldc2 (v := 4294967295) dX6_shifted_61 kl_6_130 ?_
      refine tt_land dX6_shifted_64 ?_
      refine tt_iload_n (j := 0) dX6_shifted_65 rfl ?_
      refine tt_lushr dX6_shifted_66 ?_
      have hF : G_X6_shifted (AC S i1) (QC S o0 hd) y1 = ((((y1 &&& 4294967295) : Int64).toUInt64 >>> (((u4 (AC S i1)) : Int32).toInt64.toUInt64 &&& Int64.toUInt64 63)).toInt64) := by
        exact g_X6_shifted_2 q101 q102 q103
      exact tt_lreturn dX6_shifted_67 rfl (hP _ _ _ _ ⟨hG, hA, Or.inl ⟨_, rfl, ⟨_, rfl⟩, ⟨rfl, congrArg (fun q => some (Value.long q)) hF.symm⟩, rfl, rfl⟩⟩)
    · skip
      have h104 : Rg 64 64 (u1 (AC S i1)) := rg_eq_l (rg_all (u1 (AC S i1))) (⟨by decide, by decide⟩ : Rg 64 64 64) q103
      refine tt_lload_n (j := 2) dX6_shifted_56 rfl ?_
      refine tt_goto (tgt := 65) dX6_shifted_57 rfl ?_
      refine tt_iload_n (j := 0) dX6_shifted_65 rfl ?_
      refine tt_lushr dX6_shifted_66 ?_
      have hF : G_X6_shifted (AC S i1) (QC S o0 hd) y1 = (((y1 : Int64).toUInt64 >>> (((u4 (AC S i1)) : Int32).toInt64.toUInt64 &&& Int64.toUInt64 63)).toInt64) := by
        exact g_X6_shifted_1 q101 q102 q103
      exact tt_lreturn dX6_shifted_67 rfl (hP _ _ _ _ ⟨hG, hA, Or.inl ⟨_, rfl, ⟨_, rfl⟩, ⟨rfl, congrArg (fun q => some (Value.long q)) hF.symm⟩, rfl, rfl⟩⟩)
  refine gt_lsdf (off := 53) (tgt := 68) dX6_shifted_15 sl_X6_shifted_15 so_X6_shifted_15 (of_ne (ne_i 14 q101 rfl) (of_ne (ne_i 15 q102 rfl) rfl)) rfl ?_
  refine tt_lload_n (j := 2) dX6_shifted_68 rfl ?_
  refine tt_iload_n (j := 0) dX6_shifted_69 rfl ?_
  refine tt_lshr dX6_shifted_70 ?_
  have hF : G_X6_shifted (AC S i1) (QC S o0 hd) y1 = (y1 >>> (((u4 (AC S i1)) : Int32).toInt64 &&& 63)) := by
    exact g_X6_shifted_3 q101 q102
  exact tt_lreturn dX6_shifted_71 rfl (hP _ _ _ _ ⟨hG, hA, Or.inl ⟨_, rfl, ⟨_, rfl⟩, ⟨rfl, congrArg (fun q => some (Value.long q)) hF.symm⟩, rfl, rfl⟩⟩)
def G_X6_write (q : AU) (w : RS) (y1 : Int64) : RS :=
  if (G_X9_isLocation ((u2 q))) = 0 then
    w
  else
    if (u1 q) = 64 then
      ((r0 w), (r1 w), (r2 w), (r3 w), (r4 w), (r5 w), (vp_updL (rA w) ((u2 q) : Int32).toNatClampNeg y1))
    else
      ((r0 w), (r1 w), (r2 w), (r3 w), (r4 w), (r5 w), (vp_updL (rA w) ((u2 q) : Int32).toNatClampNeg (y1 &&& 4294967295)))
theorem g_X6_write_0 {q : AU} {w : RS} {y1 : Int64} (h0 : (G_X9_isLocation ((u2 q))) = 0) : G_X6_write q w y1 = w := by unfold G_X6_write; exact if_pos h0
theorem g_X6_write_1 {q : AU} {w : RS} {y1 : Int64} (h0 : ¬ (G_X9_isLocation ((u2 q))) = 0) (h1 : (u1 q) = 64) : G_X6_write q w y1 = ((r0 w), (r1 w), (r2 w), (r3 w), (r4 w), (r5 w), (vp_updL (rA w) ((u2 q) : Int32).toNatClampNeg y1)) := by unfold G_X6_write; exact Eq.trans (if_neg h0) (if_pos h1)
theorem g_X6_write_2 {q : AU} {w : RS} {y1 : Int64} (h0 : ¬ (G_X9_isLocation ((u2 q))) = 0) (h1 : ¬ (u1 q) = 64) : G_X6_write q w y1 = ((r0 w), (r1 w), (r2 w), (r3 w), (r4 w), (r5 w), (vp_updL (rA w) ((u2 q) : Int32).toNatClampNeg (y1 &&& 4294967295))) := by unfold G_X6_write; exact Eq.trans (if_neg h0) (if_neg h1)
set_option maxHeartbeats 40000000 in
theorem cr_X6_write {xi : SX} {S : Hp} {E : List Nat} {kc nc : Nat} {P : Po} {o0 : Nat} {y1 : Int64} {i1 hd : Nat} {bs : Nat → Int32} {n : Int32} (hG : GI S E) (hc : RC S E o0 i1 hd bs n) (hP : ∀ r T x y, PV E [9993] S kc nc rV (fun v T => QC T o0 hd = G_X6_write (AC S i1) (QC S o0 hd) y1) [] r T x y → P r T x y) : TT xi M_X6_write 0 [(0, .ref o0), (1, .long y1)] [] S kc nc P := by
  obtain ⟨h0, hri, hoi, hrh, hoh, hb, cb, hrc, hoc, rfl⟩ := id hc
  have hA : Af E [9993] S S := af_rf
  refine tt_aload_n (j := 0) dX6_write_0 rfl ?_
  refine gt_gR (id := 385) dX6_write_1 fl_6_26 rfl rfl h0 hA hri ?_
  refine gt_gI (id := 202) (v := (u2 (AC S i1))) dX6_write_4 fl_6_91 rfl rfl hoi hA (uC_202 (T := S) (o := i1) rfl) ?_
  refine tt_istore_n (ks := [0, 1, 2]) (L' := [(3, .int (u2 (AC S i1))), (0, .ref o0), (1, .long y1)]) dX6_write_7 (by decide) rfl ?_
  refine tt_iload_n (j := 0) dX6_write_8 rfl ?_
  refine gt_SNIp (As := [.int (u2 (AC S i1))]) dX6_write_9 ca_X6_30 ⟨by decide, by decide⟩ hA (Nat.le_of_ble_eq_true rfl) (Nat.le_of_ble_eq_true rfl) (by decide) (cr_X9_isLocation hG  (fun _ _ _ _ h => h)) (fun _ _ q => q.1) (fun x101 h102 hx103 => ?_)
  obtain rfl : G_X9_isLocation ((u2 (AC S i1))) = x101 := (ei_w hx103.2).symm
  refine tt_if_eq (tgt := 42) dX6_write_12 rfl (fun q104 => ?_) (fun q104 => ?_)
  · skip
    have h105 : Rg 0 0 (G_X9_isLocation ((u2 (AC S i1)))) := rg_eq_l h102 (⟨by decide, by decide⟩ : Rg 0 0 0) q104
    have hF : G_X6_write (AC S i1) (QC S o0 hd) y1 = (QC S o0 hd) := by
      exact g_X6_write_0 q104
    exact tt_vreturn dX6_write_42 rfl (hP _ _ _ _ ⟨hG, hA, Or.inl ⟨_, rfl, rfl, Eq.trans (qC_mk (tC_388 (T := S) (o := o0) (a := hd) rfl) (tC_389 (T := S) (o := o0) (a := hd) rfl) (tC_390 (T := S) (o := o0) (a := hd) rfl) (tC_391 (T := S) (o := o0) (a := hd) rfl) (tC_392 (T := S) (o := o0) (a := hd) rfl) (tC_393 (T := S) (o := o0) (a := hd) rfl) rfl) hF.symm, rfl, rfl⟩⟩)
  · skip
    have h106 : Rg 0 23 (u2 (AC S i1)) := il_rg q104
    refine tt_aload_n (j := 1) dX6_write_15 rfl ?_
    refine gt_gR (id := 387) dX6_write_16 fl_6_15 rfl rfl h0 hA hrh ?_
    refine tt_iload_n (j := 0) dX6_write_19 rfl ?_
    refine tt_aload_n (j := 1) dX6_write_20 rfl ?_
    refine gt_gR (id := 385) dX6_write_21 fl_6_26 rfl rfl h0 hA hri ?_
    refine gt_gI (id := 201) (v := (u1 (AC S i1))) dX6_write_24 fl_6_127 rfl rfl hoi hA (uC_201 (T := S) (o := i1) rfl) ?_
    refine tt_bipush (v := 64) dX6_write_27 rfl ?_
    refine tt_icmp_ne (tgt := 36) dX6_write_29 rfl (fun q107 => ?_) (fun q107 => ?_)
    · skip
      refine tt_lload_n (j := 2) dX6_write_36 rfl ?_
      refine tt_ldc2 (v := 4294967295) dX6_write_37 kl_6_130 ?_
      refine tt_land dX6_write_40 ?_
      refine gt_lSx dX6_write_41 hoh hA (rg_in h106) hG (Or.inl (by decide)) (Or.inr (ow_mk 9993 (k := 387) h0 hrh)) (fun S108 hG109 hA110 e111 f112 er113 ej114 => ?_)
      have hF : G_X6_write (AC S i1) (QC S o0 hd) y1 = ((r0 (QC S o0 hd)), (r1 (QC S o0 hd)), (r2 (QC S o0 hd)), (r3 (QC S o0 hd)), (r4 (QC S o0 hd)), (r5 (QC S o0 hd)), (vp_updL (rA (QC S o0 hd)) ((u2 (AC S i1)) : Int32).toNatClampNeg (y1 &&& 4294967295))) := by
        exact g_X6_write_2 q104 q107
      exact tt_vreturn dX6_write_42 rfl (hP _ _ _ _ ⟨hG109, hA110, Or.inl ⟨_, rfl, rfl, Eq.trans (qC_mk ((congrFun (congrFun e111 388) o0).trans (tC_388 (T := S) (o := o0) (a := hd) rfl)) ((congrFun (congrFun e111 389) o0).trans (tC_389 (T := S) (o := o0) (a := hd) rfl)) ((congrFun (congrFun e111 390) o0).trans (tC_390 (T := S) (o := o0) (a := hd) rfl)) ((congrFun (congrFun e111 391) o0).trans (tC_391 (T := S) (o := o0) (a := hd) rfl)) ((congrFun (congrFun e111 392) o0).trans (tC_392 (T := S) (o := o0) (a := hd) rfl)) ((congrFun (congrFun e111 393) o0).trans (tC_393 (T := S) (o := o0) (a := hd) rfl)) (by rw [ej114, va_up_self, (show hp_j S hd = (rA (QC S o0 hd)) from rfl)])) hF.symm, rfl, rfl⟩⟩)
    · skip
      have h115 : Rg 64 64 (u1 (AC S i1)) := rg_eq_l (rg_all (u1 (AC S i1))) (⟨by decide, by decide⟩ : Rg 64 64 64) q107
      refine tt_lload_n (j := 2) dX6_write_32 rfl ?_
      refine tt_goto (tgt := 41) dX6_write_33 rfl ?_
      refine gt_lSx dX6_write_41 hoh hA (rg_in h106) hG (Or.inl (by decide)) (Or.inr (ow_mk 9993 (k := 387) h0 hrh)) (fun S116 hG117 hA118 e119 f120 er121 ej122 => ?_)
      have hF : G_X6_write (AC S i1) (QC S o0 hd) y1 = ((r0 (QC S o0 hd)), (r1 (QC S o0 hd)), (r2 (QC S o0 hd)), (r3 (QC S o0 hd)), (r4 (QC S o0 hd)), (r5 (QC S o0 hd)), (vp_updL (rA (QC S o0 hd)) ((u2 (AC S i1)) : Int32).toNatClampNeg y1)) := by
        exact g_X6_write_1 q104 q107
      exact tt_vreturn dX6_write_42 rfl (hP _ _ _ _ ⟨hG117, hA118, Or.inl ⟨_, rfl, rfl, Eq.trans (qC_mk ((congrFun (congrFun e119 388) o0).trans (tC_388 (T := S) (o := o0) (a := hd) rfl)) ((congrFun (congrFun e119 389) o0).trans (tC_389 (T := S) (o := o0) (a := hd) rfl)) ((congrFun (congrFun e119 390) o0).trans (tC_390 (T := S) (o := o0) (a := hd) rfl)) ((congrFun (congrFun e119 391) o0).trans (tC_391 (T := S) (o := o0) (a := hd) rfl)) ((congrFun (congrFun e119 392) o0).trans (tC_392 (T := S) (o := o0) (a := hd) rfl)) ((congrFun (congrFun e119 393) o0).trans (tC_393 (T := S) (o := o0) (a := hd) rfl)) (by rw [ej122, va_up_self, (show hp_j S hd = (rA (QC S o0 hd)) from rfl)])) hF.symm, rfl, rfl⟩⟩)
theorem sl_X6_isSo_4 : (#[68, 143, 76, 143, 84, 143, 92, 143, 115, 143, 143, 143, 123] : Array Int).toList = [68, 143, 76, 143, 84, 143, 92, 143, 115, 143, 143, 143, 123] := rfl
def G_X6_isSo (q : AU) (w : RS) (x1 : Int32) : Int32 :=
  if (x1 &&& 14) = 0 then
    if (x1 &&& 1) = 0 then
      if (r5 w) = 1 then
        1
      else
        0
    else
      if (r5 w) = 0 then
        1
      else
        0
  else
    if (x1 &&& 14) = 1 then
      if (r2 w) = 0 then
        if (r3 w) = (r5 w) then
          if (x1 &&& 1) = 0 then
            0
          else
            1
        else
          if (x1 &&& 1) = 0 then
            1
          else
            0
      else
        if (x1 &&& 1) = 0 then
          1
        else
          0
    else
      if (x1 &&& 14) = 2 then
        if (x1 &&& 1) = 0 then
          if (r4 w) = 1 then
            1
          else
            0
        else
          if (r4 w) = 0 then
            1
          else
            0
      else
        if (x1 &&& 14) = 3 then
          if (r2 w) = 0 then
            if (r3 w) = (r5 w) then
              if (x1 &&& 1) = 0 then
                0
              else
                1
            else
              if (x1 &&& 1) = 0 then
                1
              else
                0
          else
            if (x1 &&& 1) = 0 then
              1
            else
              0
        else
          if (x1 &&& 14) = 4 then
            if (x1 &&& 1) = 0 then
              if (r2 w) = 1 then
                1
              else
                0
            else
              if (r2 w) = 0 then
                1
              else
                0
          else
            if (x1 &&& 14) = 5 then
              if (r2 w) = 0 then
                if (r3 w) = (r5 w) then
                  if (x1 &&& 1) = 0 then
                    0
                  else
                    1
                else
                  if (x1 &&& 1) = 0 then
                    1
                  else
                    0
              else
                if (x1 &&& 1) = 0 then
                  1
                else
                  0
            else
              if (x1 &&& 14) = 6 then
                if (r4 w) = 0 then
                  if (r2 w) = 0 then
                    if (x1 &&& 1) = 0 then
                      0
                    else
                      1
                  else
                    if (x1 &&& 1) = 0 then
                      1
                    else
                      0
                else
                  if (x1 &&& 1) = 0 then
                    1
                  else
                    0
              else
                if (x1 &&& 14) = 7 then
                  if (r2 w) = 0 then
                    if (r3 w) = (r5 w) then
                      if (x1 &&& 1) = 0 then
                        0
                      else
                        1
                    else
                      if (x1 &&& 1) = 0 then
                        1
                      else
                        0
                  else
                    if (x1 &&& 1) = 0 then
                      1
                    else
                      0
                else
                  if (x1 &&& 14) = 8 then
                    if (x1 &&& 1) = 0 then
                      if (r3 w) = 1 then
                        1
                      else
                        0
                    else
                      if (r3 w) = 0 then
                        1
                      else
                        0
                  else
                    if (x1 &&& 14) = 9 then
                      if (r2 w) = 0 then
                        if (r3 w) = (r5 w) then
                          if (x1 &&& 1) = 0 then
                            0
                          else
                            1
                        else
                          if (x1 &&& 1) = 0 then
                            1
                          else
                            0
                      else
                        if (x1 &&& 1) = 0 then
                          1
                        else
                          0
                    else
                      if (x1 &&& 14) = 10 then
                        if (r2 w) = 0 then
                          if (r3 w) = (r5 w) then
                            if (x1 &&& 1) = 0 then
                              0
                            else
                              1
                          else
                            if (x1 &&& 1) = 0 then
                              1
                            else
                              0
                        else
                          if (x1 &&& 1) = 0 then
                            1
                          else
                            0
                      else
                        if (x1 &&& 14) = 11 then
                          if (r2 w) = 0 then
                            if (r3 w) = (r5 w) then
                              if (x1 &&& 1) = 0 then
                                0
                              else
                                1
                            else
                              if (x1 &&& 1) = 0 then
                                1
                              else
                                0
                          else
                            if (x1 &&& 1) = 0 then
                              1
                            else
                              0
                        else
                          if (x1 &&& 14) = 12 then
                            if (r3 w) = (r5 w) then
                              if (x1 &&& 1) = 0 then
                                0
                              else
                                1
                            else
                              if (x1 &&& 1) = 0 then
                                1
                              else
                                0
                          else
                            if (r2 w) = 0 then
                              if (r3 w) = (r5 w) then
                                if (x1 &&& 1) = 0 then
                                  0
                                else
                                  1
                              else
                                if (x1 &&& 1) = 0 then
                                  1
                                else
                                  0
                            else
                              if (x1 &&& 1) = 0 then
                                1
                              else
                                0
theorem g_X6_isSo_0 {q : AU} {w : RS} {x1 : Int32} (h0 : (x1 &&& 14) = 0) (h1 : (x1 &&& 1) = 0) (h2 : (r5 w) = 1) : G_X6_isSo q w x1 = 1 := by unfold G_X6_isSo; exact Eq.trans (if_pos h0) (Eq.trans (if_pos h1) (if_pos h2))
theorem g_X6_isSo_1 {q : AU} {w : RS} {x1 : Int32} (h0 : (x1 &&& 14) = 0) (h1 : (x1 &&& 1) = 0) (h2 : ¬ (r5 w) = 1) : G_X6_isSo q w x1 = 0 := by unfold G_X6_isSo; exact Eq.trans (if_pos h0) (Eq.trans (if_pos h1) (if_neg h2))
theorem g_X6_isSo_2 {q : AU} {w : RS} {x1 : Int32} (h0 : (x1 &&& 14) = 0) (h1 : ¬ (x1 &&& 1) = 0) (h2 : (r5 w) = 0) : G_X6_isSo q w x1 = 1 := by unfold G_X6_isSo; exact Eq.trans (if_pos h0) (Eq.trans (if_neg h1) (if_pos h2))
theorem g_X6_isSo_3 {q : AU} {w : RS} {x1 : Int32} (h0 : (x1 &&& 14) = 0) (h1 : ¬ (x1 &&& 1) = 0) (h2 : ¬ (r5 w) = 0) : G_X6_isSo q w x1 = 0 := by unfold G_X6_isSo; exact Eq.trans (if_pos h0) (Eq.trans (if_neg h1) (if_neg h2))
theorem g_X6_isSo_4 {q : AU} {w : RS} {x1 : Int32} (h0 : ¬ (x1 &&& 14) = 0) (h1 : (x1 &&& 14) = 1) (h2 : (r2 w) = 0) (h3 : (r3 w) = (r5 w)) (h4 : (x1 &&& 1) = 0) : G_X6_isSo q w x1 = 0 := by unfold G_X6_isSo; exact Eq.trans (if_neg h0) (Eq.trans (if_pos h1) (Eq.trans (if_pos h2) (Eq.trans (if_pos h3) (if_pos h4))))
theorem g_X6_isSo_5 {q : AU} {w : RS} {x1 : Int32} (h0 : ¬ (x1 &&& 14) = 0) (h1 : (x1 &&& 14) = 1) (h2 : (r2 w) = 0) (h3 : (r3 w) = (r5 w)) (h4 : ¬ (x1 &&& 1) = 0) : G_X6_isSo q w x1 = 1 := by unfold G_X6_isSo; exact Eq.trans (if_neg h0) (Eq.trans (if_pos h1) (Eq.trans (if_pos h2) (Eq.trans (if_pos h3) (if_neg h4))))
theorem g_X6_isSo_6 {q : AU} {w : RS} {x1 : Int32} (h0 : ¬ (x1 &&& 14) = 0) (h1 : (x1 &&& 14) = 1) (h2 : (r2 w) = 0) (h3 : ¬ (r3 w) = (r5 w)) (h4 : (x1 &&& 1) = 0) : G_X6_isSo q w x1 = 1 := by unfold G_X6_isSo; exact Eq.trans (if_neg h0) (Eq.trans (if_pos h1) (Eq.trans (if_pos h2) (Eq.trans (if_neg h3) (if_pos h4))))
theorem g_X6_isSo_7 {q : AU} {w : RS} {x1 : Int32} (h0 : ¬ (x1 &&& 14) = 0) (h1 : (x1 &&& 14) = 1) (h2 : (r2 w) = 0) (h3 : ¬ (r3 w) = (r5 w)) (h4 : ¬ (x1 &&& 1) = 0) : G_X6_isSo q w x1 = 0 := by unfold G_X6_isSo; exact Eq.trans (if_neg h0) (Eq.trans (if_pos h1) (Eq.trans (if_pos h2) (Eq.trans (if_neg h3) (if_neg h4))))
theorem g_X6_isSo_8 {q : AU} {w : RS} {x1 : Int32} (h0 : ¬ (x1 &&& 14) = 0) (h1 : (x1 &&& 14) = 1) (h2 : ¬ (r2 w) = 0) (h3 : (x1 &&& 1) = 0) : G_X6_isSo q w x1 = 1 := by unfold G_X6_isSo; exact Eq.trans (if_neg h0) (Eq.trans (if_pos h1) (Eq.trans (if_neg h2) (if_pos h3)))
theorem g_X6_isSo_9 {q : AU} {w : RS} {x1 : Int32} (h0 : ¬ (x1 &&& 14) = 0) (h1 : (x1 &&& 14) = 1) (h2 : ¬ (r2 w) = 0) (h3 : ¬ (x1 &&& 1) = 0) : G_X6_isSo q w x1 = 0 := by unfold G_X6_isSo; exact Eq.trans (if_neg h0) (Eq.trans (if_pos h1) (Eq.trans (if_neg h2) (if_neg h3)))
theorem g_X6_isSo_10 {q : AU} {w : RS} {x1 : Int32} (h0 : ¬ (x1 &&& 14) = 0) (h1 : ¬ (x1 &&& 14) = 1) (h2 : (x1 &&& 14) = 2) (h3 : (x1 &&& 1) = 0) (h4 : (r4 w) = 1) : G_X6_isSo q w x1 = 1 := by unfold G_X6_isSo; exact Eq.trans (if_neg h0) (Eq.trans (if_neg h1) (Eq.trans (if_pos h2) (Eq.trans (if_pos h3) (if_pos h4))))
theorem g_X6_isSo_11 {q : AU} {w : RS} {x1 : Int32} (h0 : ¬ (x1 &&& 14) = 0) (h1 : ¬ (x1 &&& 14) = 1) (h2 : (x1 &&& 14) = 2) (h3 : (x1 &&& 1) = 0) (h4 : ¬ (r4 w) = 1) : G_X6_isSo q w x1 = 0 := by unfold G_X6_isSo; exact Eq.trans (if_neg h0) (Eq.trans (if_neg h1) (Eq.trans (if_pos h2) (Eq.trans (if_pos h3) (if_neg h4))))
theorem g_X6_isSo_12 {q : AU} {w : RS} {x1 : Int32} (h0 : ¬ (x1 &&& 14) = 0) (h1 : ¬ (x1 &&& 14) = 1) (h2 : (x1 &&& 14) = 2) (h3 : ¬ (x1 &&& 1) = 0) (h4 : (r4 w) = 0) : G_X6_isSo q w x1 = 1 := by unfold G_X6_isSo; exact Eq.trans (if_neg h0) (Eq.trans (if_neg h1) (Eq.trans (if_pos h2) (Eq.trans (if_neg h3) (if_pos h4))))
theorem g_X6_isSo_13 {q : AU} {w : RS} {x1 : Int32} (h0 : ¬ (x1 &&& 14) = 0) (h1 : ¬ (x1 &&& 14) = 1) (h2 : (x1 &&& 14) = 2) (h3 : ¬ (x1 &&& 1) = 0) (h4 : ¬ (r4 w) = 0) : G_X6_isSo q w x1 = 0 := by unfold G_X6_isSo; exact Eq.trans (if_neg h0) (Eq.trans (if_neg h1) (Eq.trans (if_pos h2) (Eq.trans (if_neg h3) (if_neg h4))))
theorem g_X6_isSo_14 {q : AU} {w : RS} {x1 : Int32} (h0 : ¬ (x1 &&& 14) = 0) (h1 : ¬ (x1 &&& 14) = 1) (h2 : ¬ (x1 &&& 14) = 2) (h3 : (x1 &&& 14) = 3) (h4 : (r2 w) = 0) (h5 : (r3 w) = (r5 w)) (h6 : (x1 &&& 1) = 0) : G_X6_isSo q w x1 = 0 := by unfold G_X6_isSo; exact Eq.trans (if_neg h0) (Eq.trans (if_neg h1) (Eq.trans (if_neg h2) (Eq.trans (if_pos h3) (Eq.trans (if_pos h4) (Eq.trans (if_pos h5) (if_pos h6))))))
theorem g_X6_isSo_15 {q : AU} {w : RS} {x1 : Int32} (h0 : ¬ (x1 &&& 14) = 0) (h1 : ¬ (x1 &&& 14) = 1) (h2 : ¬ (x1 &&& 14) = 2) (h3 : (x1 &&& 14) = 3) (h4 : (r2 w) = 0) (h5 : (r3 w) = (r5 w)) (h6 : ¬ (x1 &&& 1) = 0) : G_X6_isSo q w x1 = 1 := by unfold G_X6_isSo; exact Eq.trans (if_neg h0) (Eq.trans (if_neg h1) (Eq.trans (if_neg h2) (Eq.trans (if_pos h3) (Eq.trans (if_pos h4) (Eq.trans (if_pos h5) (if_neg h6))))))
theorem g_X6_isSo_16 {q : AU} {w : RS} {x1 : Int32} (h0 : ¬ (x1 &&& 14) = 0) (h1 : ¬ (x1 &&& 14) = 1) (h2 : ¬ (x1 &&& 14) = 2) (h3 : (x1 &&& 14) = 3) (h4 : (r2 w) = 0) (h5 : ¬ (r3 w) = (r5 w)) (h6 : (x1 &&& 1) = 0) : G_X6_isSo q w x1 = 1 := by unfold G_X6_isSo; exact Eq.trans (if_neg h0) (Eq.trans (if_neg h1) (Eq.trans (if_neg h2) (Eq.trans (if_pos h3) (Eq.trans (if_pos h4) (Eq.trans (if_neg h5) (if_pos h6))))))
theorem g_X6_isSo_17 {q : AU} {w : RS} {x1 : Int32} (h0 : ¬ (x1 &&& 14) = 0) (h1 : ¬ (x1 &&& 14) = 1) (h2 : ¬ (x1 &&& 14) = 2) (h3 : (x1 &&& 14) = 3) (h4 : (r2 w) = 0) (h5 : ¬ (r3 w) = (r5 w)) (h6 : ¬ (x1 &&& 1) = 0) : G_X6_isSo q w x1 = 0 := by unfold G_X6_isSo; exact Eq.trans (if_neg h0) (Eq.trans (if_neg h1) (Eq.trans (if_neg h2) (Eq.trans (if_pos h3) (Eq.trans (if_pos h4) (Eq.trans (if_neg h5) (if_neg h6))))))
theorem g_X6_isSo_18 {q : AU} {w : RS} {x1 : Int32} (h0 : ¬ (x1 &&& 14) = 0) (h1 : ¬ (x1 &&& 14) = 1) (h2 : ¬ (x1 &&& 14) = 2) (h3 : (x1 &&& 14) = 3) (h4 : ¬ (r2 w) = 0) (h5 : (x1 &&& 1) = 0) : G_X6_isSo q w x1 = 1 := by unfold G_X6_isSo; exact Eq.trans (if_neg h0) (Eq.trans (if_neg h1) (Eq.trans (if_neg h2) (Eq.trans (if_pos h3) (Eq.trans (if_neg h4) (if_pos h5)))))
theorem g_X6_isSo_19 {q : AU} {w : RS} {x1 : Int32} (h0 : ¬ (x1 &&& 14) = 0) (h1 : ¬ (x1 &&& 14) = 1) (h2 : ¬ (x1 &&& 14) = 2) (h3 : (x1 &&& 14) = 3) (h4 : ¬ (r2 w) = 0) (h5 : ¬ (x1 &&& 1) = 0) : G_X6_isSo q w x1 = 0 := by unfold G_X6_isSo; exact Eq.trans (if_neg h0) (Eq.trans (if_neg h1) (Eq.trans (if_neg h2) (Eq.trans (if_pos h3) (Eq.trans (if_neg h4) (if_neg h5)))))
theorem g_X6_isSo_20 {q : AU} {w : RS} {x1 : Int32} (h0 : ¬ (x1 &&& 14) = 0) (h1 : ¬ (x1 &&& 14) = 1) (h2 : ¬ (x1 &&& 14) = 2) (h3 : ¬ (x1 &&& 14) = 3) (h4 : (x1 &&& 14) = 4) (h5 : (x1 &&& 1) = 0) (h6 : (r2 w) = 1) : G_X6_isSo q w x1 = 1 := by unfold G_X6_isSo; exact Eq.trans (if_neg h0) (Eq.trans (if_neg h1) (Eq.trans (if_neg h2) (Eq.trans (if_neg h3) (Eq.trans (if_pos h4) (Eq.trans (if_pos h5) (if_pos h6))))))
theorem g_X6_isSo_21 {q : AU} {w : RS} {x1 : Int32} (h0 : ¬ (x1 &&& 14) = 0) (h1 : ¬ (x1 &&& 14) = 1) (h2 : ¬ (x1 &&& 14) = 2) (h3 : ¬ (x1 &&& 14) = 3) (h4 : (x1 &&& 14) = 4) (h5 : (x1 &&& 1) = 0) (h6 : ¬ (r2 w) = 1) : G_X6_isSo q w x1 = 0 := by unfold G_X6_isSo; exact Eq.trans (if_neg h0) (Eq.trans (if_neg h1) (Eq.trans (if_neg h2) (Eq.trans (if_neg h3) (Eq.trans (if_pos h4) (Eq.trans (if_pos h5) (if_neg h6))))))
theorem g_X6_isSo_22 {q : AU} {w : RS} {x1 : Int32} (h0 : ¬ (x1 &&& 14) = 0) (h1 : ¬ (x1 &&& 14) = 1) (h2 : ¬ (x1 &&& 14) = 2) (h3 : ¬ (x1 &&& 14) = 3) (h4 : (x1 &&& 14) = 4) (h5 : ¬ (x1 &&& 1) = 0) (h6 : (r2 w) = 0) : G_X6_isSo q w x1 = 1 := by unfold G_X6_isSo; exact Eq.trans (if_neg h0) (Eq.trans (if_neg h1) (Eq.trans (if_neg h2) (Eq.trans (if_neg h3) (Eq.trans (if_pos h4) (Eq.trans (if_neg h5) (if_pos h6))))))
theorem g_X6_isSo_23 {q : AU} {w : RS} {x1 : Int32} (h0 : ¬ (x1 &&& 14) = 0) (h1 : ¬ (x1 &&& 14) = 1) (h2 : ¬ (x1 &&& 14) = 2) (h3 : ¬ (x1 &&& 14) = 3) (h4 : (x1 &&& 14) = 4) (h5 : ¬ (x1 &&& 1) = 0) (h6 : ¬ (r2 w) = 0) : G_X6_isSo q w x1 = 0 := by unfold G_X6_isSo; exact Eq.trans (if_neg h0) (Eq.trans (if_neg h1) (Eq.trans (if_neg h2) (Eq.trans (if_neg h3) (Eq.trans (if_pos h4) (Eq.trans (if_neg h5) (if_neg h6))))))
theorem g_X6_isSo_24 {q : AU} {w : RS} {x1 : Int32} (h0 : ¬ (x1 &&& 14) = 0) (h1 : ¬ (x1 &&& 14) = 1) (h2 : ¬ (x1 &&& 14) = 2) (h3 : ¬ (x1 &&& 14) = 3) (h4 : ¬ (x1 &&& 14) = 4) (h5 : (x1 &&& 14) = 5) (h6 : (r2 w) = 0) (h7 : (r3 w) = (r5 w)) (h8 : (x1 &&& 1) = 0) : G_X6_isSo q w x1 = 0 := by unfold G_X6_isSo; exact Eq.trans (if_neg h0) (Eq.trans (if_neg h1) (Eq.trans (if_neg h2) (Eq.trans (if_neg h3) (Eq.trans (if_neg h4) (Eq.trans (if_pos h5) (Eq.trans (if_pos h6) (Eq.trans (if_pos h7) (if_pos h8))))))))
theorem g_X6_isSo_25 {q : AU} {w : RS} {x1 : Int32} (h0 : ¬ (x1 &&& 14) = 0) (h1 : ¬ (x1 &&& 14) = 1) (h2 : ¬ (x1 &&& 14) = 2) (h3 : ¬ (x1 &&& 14) = 3) (h4 : ¬ (x1 &&& 14) = 4) (h5 : (x1 &&& 14) = 5) (h6 : (r2 w) = 0) (h7 : (r3 w) = (r5 w)) (h8 : ¬ (x1 &&& 1) = 0) : G_X6_isSo q w x1 = 1 := by unfold G_X6_isSo; exact Eq.trans (if_neg h0) (Eq.trans (if_neg h1) (Eq.trans (if_neg h2) (Eq.trans (if_neg h3) (Eq.trans (if_neg h4) (Eq.trans (if_pos h5) (Eq.trans (if_pos h6) (Eq.trans (if_pos h7) (if_neg h8))))))))
theorem g_X6_isSo_26 {q : AU} {w : RS} {x1 : Int32} (h0 : ¬ (x1 &&& 14) = 0) (h1 : ¬ (x1 &&& 14) = 1) (h2 : ¬ (x1 &&& 14) = 2) (h3 : ¬ (x1 &&& 14) = 3) (h4 : ¬ (x1 &&& 14) = 4) (h5 : (x1 &&& 14) = 5) (h6 : (r2 w) = 0) (h7 : ¬ (r3 w) = (r5 w)) (h8 : (x1 &&& 1) = 0) : G_X6_isSo q w x1 = 1 := by unfold G_X6_isSo; exact Eq.trans (if_neg h0) (Eq.trans (if_neg h1) (Eq.trans (if_neg h2) (Eq.trans (if_neg h3) (Eq.trans (if_neg h4) (Eq.trans (if_pos h5) (Eq.trans (if_pos h6) (Eq.trans (if_neg h7) (if_pos h8))))))))
theorem g_X6_isSo_27 {q : AU} {w : RS} {x1 : Int32} (h0 : ¬ (x1 &&& 14) = 0) (h1 : ¬ (x1 &&& 14) = 1) (h2 : ¬ (x1 &&& 14) = 2) (h3 : ¬ (x1 &&& 14) = 3) (h4 : ¬ (x1 &&& 14) = 4) (h5 : (x1 &&& 14) = 5) (h6 : (r2 w) = 0) (h7 : ¬ (r3 w) = (r5 w)) (h8 : ¬ (x1 &&& 1) = 0) : G_X6_isSo q w x1 = 0 := by unfold G_X6_isSo; exact Eq.trans (if_neg h0) (Eq.trans (if_neg h1) (Eq.trans (if_neg h2) (Eq.trans (if_neg h3) (Eq.trans (if_neg h4) (Eq.trans (if_pos h5) (Eq.trans (if_pos h6) (Eq.trans (if_neg h7) (if_neg h8))))))))
theorem g_X6_isSo_28 {q : AU} {w : RS} {x1 : Int32} (h0 : ¬ (x1 &&& 14) = 0) (h1 : ¬ (x1 &&& 14) = 1) (h2 : ¬ (x1 &&& 14) = 2) (h3 : ¬ (x1 &&& 14) = 3) (h4 : ¬ (x1 &&& 14) = 4) (h5 : (x1 &&& 14) = 5) (h6 : ¬ (r2 w) = 0) (h7 : (x1 &&& 1) = 0) : G_X6_isSo q w x1 = 1 := by unfold G_X6_isSo; exact Eq.trans (if_neg h0) (Eq.trans (if_neg h1) (Eq.trans (if_neg h2) (Eq.trans (if_neg h3) (Eq.trans (if_neg h4) (Eq.trans (if_pos h5) (Eq.trans (if_neg h6) (if_pos h7)))))))
theorem g_X6_isSo_29 {q : AU} {w : RS} {x1 : Int32} (h0 : ¬ (x1 &&& 14) = 0) (h1 : ¬ (x1 &&& 14) = 1) (h2 : ¬ (x1 &&& 14) = 2) (h3 : ¬ (x1 &&& 14) = 3) (h4 : ¬ (x1 &&& 14) = 4) (h5 : (x1 &&& 14) = 5) (h6 : ¬ (r2 w) = 0) (h7 : ¬ (x1 &&& 1) = 0) : G_X6_isSo q w x1 = 0 := by unfold G_X6_isSo; exact Eq.trans (if_neg h0) (Eq.trans (if_neg h1) (Eq.trans (if_neg h2) (Eq.trans (if_neg h3) (Eq.trans (if_neg h4) (Eq.trans (if_pos h5) (Eq.trans (if_neg h6) (if_neg h7)))))))
theorem g_X6_isSo_30 {q : AU} {w : RS} {x1 : Int32} (h0 : ¬ (x1 &&& 14) = 0) (h1 : ¬ (x1 &&& 14) = 1) (h2 : ¬ (x1 &&& 14) = 2) (h3 : ¬ (x1 &&& 14) = 3) (h4 : ¬ (x1 &&& 14) = 4) (h5 : ¬ (x1 &&& 14) = 5) (h6 : (x1 &&& 14) = 6) (h7 : (r4 w) = 0) (h8 : (r2 w) = 0) (h9 : (x1 &&& 1) = 0) : G_X6_isSo q w x1 = 0 := by unfold G_X6_isSo; exact Eq.trans (if_neg h0) (Eq.trans (if_neg h1) (Eq.trans (if_neg h2) (Eq.trans (if_neg h3) (Eq.trans (if_neg h4) (Eq.trans (if_neg h5) (Eq.trans (if_pos h6) (Eq.trans (if_pos h7) (Eq.trans (if_pos h8) (if_pos h9)))))))))
theorem g_X6_isSo_31 {q : AU} {w : RS} {x1 : Int32} (h0 : ¬ (x1 &&& 14) = 0) (h1 : ¬ (x1 &&& 14) = 1) (h2 : ¬ (x1 &&& 14) = 2) (h3 : ¬ (x1 &&& 14) = 3) (h4 : ¬ (x1 &&& 14) = 4) (h5 : ¬ (x1 &&& 14) = 5) (h6 : (x1 &&& 14) = 6) (h7 : (r4 w) = 0) (h8 : (r2 w) = 0) (h9 : ¬ (x1 &&& 1) = 0) : G_X6_isSo q w x1 = 1 := by unfold G_X6_isSo; exact Eq.trans (if_neg h0) (Eq.trans (if_neg h1) (Eq.trans (if_neg h2) (Eq.trans (if_neg h3) (Eq.trans (if_neg h4) (Eq.trans (if_neg h5) (Eq.trans (if_pos h6) (Eq.trans (if_pos h7) (Eq.trans (if_pos h8) (if_neg h9)))))))))
theorem g_X6_isSo_32 {q : AU} {w : RS} {x1 : Int32} (h0 : ¬ (x1 &&& 14) = 0) (h1 : ¬ (x1 &&& 14) = 1) (h2 : ¬ (x1 &&& 14) = 2) (h3 : ¬ (x1 &&& 14) = 3) (h4 : ¬ (x1 &&& 14) = 4) (h5 : ¬ (x1 &&& 14) = 5) (h6 : (x1 &&& 14) = 6) (h7 : (r4 w) = 0) (h8 : ¬ (r2 w) = 0) (h9 : (x1 &&& 1) = 0) : G_X6_isSo q w x1 = 1 := by unfold G_X6_isSo; exact Eq.trans (if_neg h0) (Eq.trans (if_neg h1) (Eq.trans (if_neg h2) (Eq.trans (if_neg h3) (Eq.trans (if_neg h4) (Eq.trans (if_neg h5) (Eq.trans (if_pos h6) (Eq.trans (if_pos h7) (Eq.trans (if_neg h8) (if_pos h9)))))))))
theorem g_X6_isSo_33 {q : AU} {w : RS} {x1 : Int32} (h0 : ¬ (x1 &&& 14) = 0) (h1 : ¬ (x1 &&& 14) = 1) (h2 : ¬ (x1 &&& 14) = 2) (h3 : ¬ (x1 &&& 14) = 3) (h4 : ¬ (x1 &&& 14) = 4) (h5 : ¬ (x1 &&& 14) = 5) (h6 : (x1 &&& 14) = 6) (h7 : (r4 w) = 0) (h8 : ¬ (r2 w) = 0) (h9 : ¬ (x1 &&& 1) = 0) : G_X6_isSo q w x1 = 0 := by unfold G_X6_isSo; exact Eq.trans (if_neg h0) (Eq.trans (if_neg h1) (Eq.trans (if_neg h2) (Eq.trans (if_neg h3) (Eq.trans (if_neg h4) (Eq.trans (if_neg h5) (Eq.trans (if_pos h6) (Eq.trans (if_pos h7) (Eq.trans (if_neg h8) (if_neg h9)))))))))
theorem g_X6_isSo_34 {q : AU} {w : RS} {x1 : Int32} (h0 : ¬ (x1 &&& 14) = 0) (h1 : ¬ (x1 &&& 14) = 1) (h2 : ¬ (x1 &&& 14) = 2) (h3 : ¬ (x1 &&& 14) = 3) (h4 : ¬ (x1 &&& 14) = 4) (h5 : ¬ (x1 &&& 14) = 5) (h6 : (x1 &&& 14) = 6) (h7 : ¬ (r4 w) = 0) (h8 : (x1 &&& 1) = 0) : G_X6_isSo q w x1 = 1 := by unfold G_X6_isSo; exact Eq.trans (if_neg h0) (Eq.trans (if_neg h1) (Eq.trans (if_neg h2) (Eq.trans (if_neg h3) (Eq.trans (if_neg h4) (Eq.trans (if_neg h5) (Eq.trans (if_pos h6) (Eq.trans (if_neg h7) (if_pos h8))))))))
theorem g_X6_isSo_35 {q : AU} {w : RS} {x1 : Int32} (h0 : ¬ (x1 &&& 14) = 0) (h1 : ¬ (x1 &&& 14) = 1) (h2 : ¬ (x1 &&& 14) = 2) (h3 : ¬ (x1 &&& 14) = 3) (h4 : ¬ (x1 &&& 14) = 4) (h5 : ¬ (x1 &&& 14) = 5) (h6 : (x1 &&& 14) = 6) (h7 : ¬ (r4 w) = 0) (h8 : ¬ (x1 &&& 1) = 0) : G_X6_isSo q w x1 = 0 := by unfold G_X6_isSo; exact Eq.trans (if_neg h0) (Eq.trans (if_neg h1) (Eq.trans (if_neg h2) (Eq.trans (if_neg h3) (Eq.trans (if_neg h4) (Eq.trans (if_neg h5) (Eq.trans (if_pos h6) (Eq.trans (if_neg h7) (if_neg h8))))))))
theorem g_X6_isSo_36 {q : AU} {w : RS} {x1 : Int32} (h0 : ¬ (x1 &&& 14) = 0) (h1 : ¬ (x1 &&& 14) = 1) (h2 : ¬ (x1 &&& 14) = 2) (h3 : ¬ (x1 &&& 14) = 3) (h4 : ¬ (x1 &&& 14) = 4) (h5 : ¬ (x1 &&& 14) = 5) (h6 : ¬ (x1 &&& 14) = 6) (h7 : (x1 &&& 14) = 7) (h8 : (r2 w) = 0) (h9 : (r3 w) = (r5 w)) (h10 : (x1 &&& 1) = 0) : G_X6_isSo q w x1 = 0 := by unfold G_X6_isSo; exact Eq.trans (if_neg h0) (Eq.trans (if_neg h1) (Eq.trans (if_neg h2) (Eq.trans (if_neg h3) (Eq.trans (if_neg h4) (Eq.trans (if_neg h5) (Eq.trans (if_neg h6) (Eq.trans (if_pos h7) (Eq.trans (if_pos h8) (Eq.trans (if_pos h9) (if_pos h10))))))))))
theorem g_X6_isSo_37 {q : AU} {w : RS} {x1 : Int32} (h0 : ¬ (x1 &&& 14) = 0) (h1 : ¬ (x1 &&& 14) = 1) (h2 : ¬ (x1 &&& 14) = 2) (h3 : ¬ (x1 &&& 14) = 3) (h4 : ¬ (x1 &&& 14) = 4) (h5 : ¬ (x1 &&& 14) = 5) (h6 : ¬ (x1 &&& 14) = 6) (h7 : (x1 &&& 14) = 7) (h8 : (r2 w) = 0) (h9 : (r3 w) = (r5 w)) (h10 : ¬ (x1 &&& 1) = 0) : G_X6_isSo q w x1 = 1 := by unfold G_X6_isSo; exact Eq.trans (if_neg h0) (Eq.trans (if_neg h1) (Eq.trans (if_neg h2) (Eq.trans (if_neg h3) (Eq.trans (if_neg h4) (Eq.trans (if_neg h5) (Eq.trans (if_neg h6) (Eq.trans (if_pos h7) (Eq.trans (if_pos h8) (Eq.trans (if_pos h9) (if_neg h10))))))))))
theorem g_X6_isSo_38 {q : AU} {w : RS} {x1 : Int32} (h0 : ¬ (x1 &&& 14) = 0) (h1 : ¬ (x1 &&& 14) = 1) (h2 : ¬ (x1 &&& 14) = 2) (h3 : ¬ (x1 &&& 14) = 3) (h4 : ¬ (x1 &&& 14) = 4) (h5 : ¬ (x1 &&& 14) = 5) (h6 : ¬ (x1 &&& 14) = 6) (h7 : (x1 &&& 14) = 7) (h8 : (r2 w) = 0) (h9 : ¬ (r3 w) = (r5 w)) (h10 : (x1 &&& 1) = 0) : G_X6_isSo q w x1 = 1 := by unfold G_X6_isSo; exact Eq.trans (if_neg h0) (Eq.trans (if_neg h1) (Eq.trans (if_neg h2) (Eq.trans (if_neg h3) (Eq.trans (if_neg h4) (Eq.trans (if_neg h5) (Eq.trans (if_neg h6) (Eq.trans (if_pos h7) (Eq.trans (if_pos h8) (Eq.trans (if_neg h9) (if_pos h10))))))))))
theorem g_X6_isSo_39 {q : AU} {w : RS} {x1 : Int32} (h0 : ¬ (x1 &&& 14) = 0) (h1 : ¬ (x1 &&& 14) = 1) (h2 : ¬ (x1 &&& 14) = 2) (h3 : ¬ (x1 &&& 14) = 3) (h4 : ¬ (x1 &&& 14) = 4) (h5 : ¬ (x1 &&& 14) = 5) (h6 : ¬ (x1 &&& 14) = 6) (h7 : (x1 &&& 14) = 7) (h8 : (r2 w) = 0) (h9 : ¬ (r3 w) = (r5 w)) (h10 : ¬ (x1 &&& 1) = 0) : G_X6_isSo q w x1 = 0 := by unfold G_X6_isSo; exact Eq.trans (if_neg h0) (Eq.trans (if_neg h1) (Eq.trans (if_neg h2) (Eq.trans (if_neg h3) (Eq.trans (if_neg h4) (Eq.trans (if_neg h5) (Eq.trans (if_neg h6) (Eq.trans (if_pos h7) (Eq.trans (if_pos h8) (Eq.trans (if_neg h9) (if_neg h10))))))))))
theorem g_X6_isSo_40 {q : AU} {w : RS} {x1 : Int32} (h0 : ¬ (x1 &&& 14) = 0) (h1 : ¬ (x1 &&& 14) = 1) (h2 : ¬ (x1 &&& 14) = 2) (h3 : ¬ (x1 &&& 14) = 3) (h4 : ¬ (x1 &&& 14) = 4) (h5 : ¬ (x1 &&& 14) = 5) (h6 : ¬ (x1 &&& 14) = 6) (h7 : (x1 &&& 14) = 7) (h8 : ¬ (r2 w) = 0) (h9 : (x1 &&& 1) = 0) : G_X6_isSo q w x1 = 1 := by unfold G_X6_isSo; exact Eq.trans (if_neg h0) (Eq.trans (if_neg h1) (Eq.trans (if_neg h2) (Eq.trans (if_neg h3) (Eq.trans (if_neg h4) (Eq.trans (if_neg h5) (Eq.trans (if_neg h6) (Eq.trans (if_pos h7) (Eq.trans (if_neg h8) (if_pos h9)))))))))
theorem g_X6_isSo_41 {q : AU} {w : RS} {x1 : Int32} (h0 : ¬ (x1 &&& 14) = 0) (h1 : ¬ (x1 &&& 14) = 1) (h2 : ¬ (x1 &&& 14) = 2) (h3 : ¬ (x1 &&& 14) = 3) (h4 : ¬ (x1 &&& 14) = 4) (h5 : ¬ (x1 &&& 14) = 5) (h6 : ¬ (x1 &&& 14) = 6) (h7 : (x1 &&& 14) = 7) (h8 : ¬ (r2 w) = 0) (h9 : ¬ (x1 &&& 1) = 0) : G_X6_isSo q w x1 = 0 := by unfold G_X6_isSo; exact Eq.trans (if_neg h0) (Eq.trans (if_neg h1) (Eq.trans (if_neg h2) (Eq.trans (if_neg h3) (Eq.trans (if_neg h4) (Eq.trans (if_neg h5) (Eq.trans (if_neg h6) (Eq.trans (if_pos h7) (Eq.trans (if_neg h8) (if_neg h9)))))))))
theorem g_X6_isSo_42 {q : AU} {w : RS} {x1 : Int32} (h0 : ¬ (x1 &&& 14) = 0) (h1 : ¬ (x1 &&& 14) = 1) (h2 : ¬ (x1 &&& 14) = 2) (h3 : ¬ (x1 &&& 14) = 3) (h4 : ¬ (x1 &&& 14) = 4) (h5 : ¬ (x1 &&& 14) = 5) (h6 : ¬ (x1 &&& 14) = 6) (h7 : ¬ (x1 &&& 14) = 7) (h8 : (x1 &&& 14) = 8) (h9 : (x1 &&& 1) = 0) (h10 : (r3 w) = 1) : G_X6_isSo q w x1 = 1 := by unfold G_X6_isSo; exact Eq.trans (if_neg h0) (Eq.trans (if_neg h1) (Eq.trans (if_neg h2) (Eq.trans (if_neg h3) (Eq.trans (if_neg h4) (Eq.trans (if_neg h5) (Eq.trans (if_neg h6) (Eq.trans (if_neg h7) (Eq.trans (if_pos h8) (Eq.trans (if_pos h9) (if_pos h10))))))))))
theorem g_X6_isSo_43 {q : AU} {w : RS} {x1 : Int32} (h0 : ¬ (x1 &&& 14) = 0) (h1 : ¬ (x1 &&& 14) = 1) (h2 : ¬ (x1 &&& 14) = 2) (h3 : ¬ (x1 &&& 14) = 3) (h4 : ¬ (x1 &&& 14) = 4) (h5 : ¬ (x1 &&& 14) = 5) (h6 : ¬ (x1 &&& 14) = 6) (h7 : ¬ (x1 &&& 14) = 7) (h8 : (x1 &&& 14) = 8) (h9 : (x1 &&& 1) = 0) (h10 : ¬ (r3 w) = 1) : G_X6_isSo q w x1 = 0 := by unfold G_X6_isSo; exact Eq.trans (if_neg h0) (Eq.trans (if_neg h1) (Eq.trans (if_neg h2) (Eq.trans (if_neg h3) (Eq.trans (if_neg h4) (Eq.trans (if_neg h5) (Eq.trans (if_neg h6) (Eq.trans (if_neg h7) (Eq.trans (if_pos h8) (Eq.trans (if_pos h9) (if_neg h10))))))))))
theorem g_X6_isSo_44 {q : AU} {w : RS} {x1 : Int32} (h0 : ¬ (x1 &&& 14) = 0) (h1 : ¬ (x1 &&& 14) = 1) (h2 : ¬ (x1 &&& 14) = 2) (h3 : ¬ (x1 &&& 14) = 3) (h4 : ¬ (x1 &&& 14) = 4) (h5 : ¬ (x1 &&& 14) = 5) (h6 : ¬ (x1 &&& 14) = 6) (h7 : ¬ (x1 &&& 14) = 7) (h8 : (x1 &&& 14) = 8) (h9 : ¬ (x1 &&& 1) = 0) (h10 : (r3 w) = 0) : G_X6_isSo q w x1 = 1 := by unfold G_X6_isSo; exact Eq.trans (if_neg h0) (Eq.trans (if_neg h1) (Eq.trans (if_neg h2) (Eq.trans (if_neg h3) (Eq.trans (if_neg h4) (Eq.trans (if_neg h5) (Eq.trans (if_neg h6) (Eq.trans (if_neg h7) (Eq.trans (if_pos h8) (Eq.trans (if_neg h9) (if_pos h10))))))))))
theorem g_X6_isSo_45 {q : AU} {w : RS} {x1 : Int32} (h0 : ¬ (x1 &&& 14) = 0) (h1 : ¬ (x1 &&& 14) = 1) (h2 : ¬ (x1 &&& 14) = 2) (h3 : ¬ (x1 &&& 14) = 3) (h4 : ¬ (x1 &&& 14) = 4) (h5 : ¬ (x1 &&& 14) = 5) (h6 : ¬ (x1 &&& 14) = 6) (h7 : ¬ (x1 &&& 14) = 7) (h8 : (x1 &&& 14) = 8) (h9 : ¬ (x1 &&& 1) = 0) (h10 : ¬ (r3 w) = 0) : G_X6_isSo q w x1 = 0 := by unfold G_X6_isSo; exact Eq.trans (if_neg h0) (Eq.trans (if_neg h1) (Eq.trans (if_neg h2) (Eq.trans (if_neg h3) (Eq.trans (if_neg h4) (Eq.trans (if_neg h5) (Eq.trans (if_neg h6) (Eq.trans (if_neg h7) (Eq.trans (if_pos h8) (Eq.trans (if_neg h9) (if_neg h10))))))))))
theorem g_X6_isSo_46 {q : AU} {w : RS} {x1 : Int32} (h0 : ¬ (x1 &&& 14) = 0) (h1 : ¬ (x1 &&& 14) = 1) (h2 : ¬ (x1 &&& 14) = 2) (h3 : ¬ (x1 &&& 14) = 3) (h4 : ¬ (x1 &&& 14) = 4) (h5 : ¬ (x1 &&& 14) = 5) (h6 : ¬ (x1 &&& 14) = 6) (h7 : ¬ (x1 &&& 14) = 7) (h8 : ¬ (x1 &&& 14) = 8) (h9 : (x1 &&& 14) = 9) (h10 : (r2 w) = 0) (h11 : (r3 w) = (r5 w)) (h12 : (x1 &&& 1) = 0) : G_X6_isSo q w x1 = 0 := by unfold G_X6_isSo; exact Eq.trans (if_neg h0) (Eq.trans (if_neg h1) (Eq.trans (if_neg h2) (Eq.trans (if_neg h3) (Eq.trans (if_neg h4) (Eq.trans (if_neg h5) (Eq.trans (if_neg h6) (Eq.trans (if_neg h7) (Eq.trans (if_neg h8) (Eq.trans (if_pos h9) (Eq.trans (if_pos h10) (Eq.trans (if_pos h11) (if_pos h12))))))))))))
theorem g_X6_isSo_47 {q : AU} {w : RS} {x1 : Int32} (h0 : ¬ (x1 &&& 14) = 0) (h1 : ¬ (x1 &&& 14) = 1) (h2 : ¬ (x1 &&& 14) = 2) (h3 : ¬ (x1 &&& 14) = 3) (h4 : ¬ (x1 &&& 14) = 4) (h5 : ¬ (x1 &&& 14) = 5) (h6 : ¬ (x1 &&& 14) = 6) (h7 : ¬ (x1 &&& 14) = 7) (h8 : ¬ (x1 &&& 14) = 8) (h9 : (x1 &&& 14) = 9) (h10 : (r2 w) = 0) (h11 : (r3 w) = (r5 w)) (h12 : ¬ (x1 &&& 1) = 0) : G_X6_isSo q w x1 = 1 := by unfold G_X6_isSo; exact Eq.trans (if_neg h0) (Eq.trans (if_neg h1) (Eq.trans (if_neg h2) (Eq.trans (if_neg h3) (Eq.trans (if_neg h4) (Eq.trans (if_neg h5) (Eq.trans (if_neg h6) (Eq.trans (if_neg h7) (Eq.trans (if_neg h8) (Eq.trans (if_pos h9) (Eq.trans (if_pos h10) (Eq.trans (if_pos h11) (if_neg h12))))))))))))
theorem g_X6_isSo_48 {q : AU} {w : RS} {x1 : Int32} (h0 : ¬ (x1 &&& 14) = 0) (h1 : ¬ (x1 &&& 14) = 1) (h2 : ¬ (x1 &&& 14) = 2) (h3 : ¬ (x1 &&& 14) = 3) (h4 : ¬ (x1 &&& 14) = 4) (h5 : ¬ (x1 &&& 14) = 5) (h6 : ¬ (x1 &&& 14) = 6) (h7 : ¬ (x1 &&& 14) = 7) (h8 : ¬ (x1 &&& 14) = 8) (h9 : (x1 &&& 14) = 9) (h10 : (r2 w) = 0) (h11 : ¬ (r3 w) = (r5 w)) (h12 : (x1 &&& 1) = 0) : G_X6_isSo q w x1 = 1 := by unfold G_X6_isSo; exact Eq.trans (if_neg h0) (Eq.trans (if_neg h1) (Eq.trans (if_neg h2) (Eq.trans (if_neg h3) (Eq.trans (if_neg h4) (Eq.trans (if_neg h5) (Eq.trans (if_neg h6) (Eq.trans (if_neg h7) (Eq.trans (if_neg h8) (Eq.trans (if_pos h9) (Eq.trans (if_pos h10) (Eq.trans (if_neg h11) (if_pos h12))))))))))))
theorem g_X6_isSo_49 {q : AU} {w : RS} {x1 : Int32} (h0 : ¬ (x1 &&& 14) = 0) (h1 : ¬ (x1 &&& 14) = 1) (h2 : ¬ (x1 &&& 14) = 2) (h3 : ¬ (x1 &&& 14) = 3) (h4 : ¬ (x1 &&& 14) = 4) (h5 : ¬ (x1 &&& 14) = 5) (h6 : ¬ (x1 &&& 14) = 6) (h7 : ¬ (x1 &&& 14) = 7) (h8 : ¬ (x1 &&& 14) = 8) (h9 : (x1 &&& 14) = 9) (h10 : (r2 w) = 0) (h11 : ¬ (r3 w) = (r5 w)) (h12 : ¬ (x1 &&& 1) = 0) : G_X6_isSo q w x1 = 0 := by unfold G_X6_isSo; exact Eq.trans (if_neg h0) (Eq.trans (if_neg h1) (Eq.trans (if_neg h2) (Eq.trans (if_neg h3) (Eq.trans (if_neg h4) (Eq.trans (if_neg h5) (Eq.trans (if_neg h6) (Eq.trans (if_neg h7) (Eq.trans (if_neg h8) (Eq.trans (if_pos h9) (Eq.trans (if_pos h10) (Eq.trans (if_neg h11) (if_neg h12))))))))))))
theorem g_X6_isSo_50 {q : AU} {w : RS} {x1 : Int32} (h0 : ¬ (x1 &&& 14) = 0) (h1 : ¬ (x1 &&& 14) = 1) (h2 : ¬ (x1 &&& 14) = 2) (h3 : ¬ (x1 &&& 14) = 3) (h4 : ¬ (x1 &&& 14) = 4) (h5 : ¬ (x1 &&& 14) = 5) (h6 : ¬ (x1 &&& 14) = 6) (h7 : ¬ (x1 &&& 14) = 7) (h8 : ¬ (x1 &&& 14) = 8) (h9 : (x1 &&& 14) = 9) (h10 : ¬ (r2 w) = 0) (h11 : (x1 &&& 1) = 0) : G_X6_isSo q w x1 = 1 := by unfold G_X6_isSo; exact Eq.trans (if_neg h0) (Eq.trans (if_neg h1) (Eq.trans (if_neg h2) (Eq.trans (if_neg h3) (Eq.trans (if_neg h4) (Eq.trans (if_neg h5) (Eq.trans (if_neg h6) (Eq.trans (if_neg h7) (Eq.trans (if_neg h8) (Eq.trans (if_pos h9) (Eq.trans (if_neg h10) (if_pos h11)))))))))))
theorem g_X6_isSo_51 {q : AU} {w : RS} {x1 : Int32} (h0 : ¬ (x1 &&& 14) = 0) (h1 : ¬ (x1 &&& 14) = 1) (h2 : ¬ (x1 &&& 14) = 2) (h3 : ¬ (x1 &&& 14) = 3) (h4 : ¬ (x1 &&& 14) = 4) (h5 : ¬ (x1 &&& 14) = 5) (h6 : ¬ (x1 &&& 14) = 6) (h7 : ¬ (x1 &&& 14) = 7) (h8 : ¬ (x1 &&& 14) = 8) (h9 : (x1 &&& 14) = 9) (h10 : ¬ (r2 w) = 0) (h11 : ¬ (x1 &&& 1) = 0) : G_X6_isSo q w x1 = 0 := by unfold G_X6_isSo; exact Eq.trans (if_neg h0) (Eq.trans (if_neg h1) (Eq.trans (if_neg h2) (Eq.trans (if_neg h3) (Eq.trans (if_neg h4) (Eq.trans (if_neg h5) (Eq.trans (if_neg h6) (Eq.trans (if_neg h7) (Eq.trans (if_neg h8) (Eq.trans (if_pos h9) (Eq.trans (if_neg h10) (if_neg h11)))))))))))
theorem g_X6_isSo_52 {q : AU} {w : RS} {x1 : Int32} (h0 : ¬ (x1 &&& 14) = 0) (h1 : ¬ (x1 &&& 14) = 1) (h2 : ¬ (x1 &&& 14) = 2) (h3 : ¬ (x1 &&& 14) = 3) (h4 : ¬ (x1 &&& 14) = 4) (h5 : ¬ (x1 &&& 14) = 5) (h6 : ¬ (x1 &&& 14) = 6) (h7 : ¬ (x1 &&& 14) = 7) (h8 : ¬ (x1 &&& 14) = 8) (h9 : ¬ (x1 &&& 14) = 9) (h10 : (x1 &&& 14) = 10) (h11 : (r2 w) = 0) (h12 : (r3 w) = (r5 w)) (h13 : (x1 &&& 1) = 0) : G_X6_isSo q w x1 = 0 := by unfold G_X6_isSo; exact Eq.trans (if_neg h0) (Eq.trans (if_neg h1) (Eq.trans (if_neg h2) (Eq.trans (if_neg h3) (Eq.trans (if_neg h4) (Eq.trans (if_neg h5) (Eq.trans (if_neg h6) (Eq.trans (if_neg h7) (Eq.trans (if_neg h8) (Eq.trans (if_neg h9) (Eq.trans (if_pos h10) (Eq.trans (if_pos h11) (Eq.trans (if_pos h12) (if_pos h13)))))))))))))
theorem g_X6_isSo_53 {q : AU} {w : RS} {x1 : Int32} (h0 : ¬ (x1 &&& 14) = 0) (h1 : ¬ (x1 &&& 14) = 1) (h2 : ¬ (x1 &&& 14) = 2) (h3 : ¬ (x1 &&& 14) = 3) (h4 : ¬ (x1 &&& 14) = 4) (h5 : ¬ (x1 &&& 14) = 5) (h6 : ¬ (x1 &&& 14) = 6) (h7 : ¬ (x1 &&& 14) = 7) (h8 : ¬ (x1 &&& 14) = 8) (h9 : ¬ (x1 &&& 14) = 9) (h10 : (x1 &&& 14) = 10) (h11 : (r2 w) = 0) (h12 : (r3 w) = (r5 w)) (h13 : ¬ (x1 &&& 1) = 0) : G_X6_isSo q w x1 = 1 := by unfold G_X6_isSo; exact Eq.trans (if_neg h0) (Eq.trans (if_neg h1) (Eq.trans (if_neg h2) (Eq.trans (if_neg h3) (Eq.trans (if_neg h4) (Eq.trans (if_neg h5) (Eq.trans (if_neg h6) (Eq.trans (if_neg h7) (Eq.trans (if_neg h8) (Eq.trans (if_neg h9) (Eq.trans (if_pos h10) (Eq.trans (if_pos h11) (Eq.trans (if_pos h12) (if_neg h13)))))))))))))
theorem g_X6_isSo_54 {q : AU} {w : RS} {x1 : Int32} (h0 : ¬ (x1 &&& 14) = 0) (h1 : ¬ (x1 &&& 14) = 1) (h2 : ¬ (x1 &&& 14) = 2) (h3 : ¬ (x1 &&& 14) = 3) (h4 : ¬ (x1 &&& 14) = 4) (h5 : ¬ (x1 &&& 14) = 5) (h6 : ¬ (x1 &&& 14) = 6) (h7 : ¬ (x1 &&& 14) = 7) (h8 : ¬ (x1 &&& 14) = 8) (h9 : ¬ (x1 &&& 14) = 9) (h10 : (x1 &&& 14) = 10) (h11 : (r2 w) = 0) (h12 : ¬ (r3 w) = (r5 w)) (h13 : (x1 &&& 1) = 0) : G_X6_isSo q w x1 = 1 := by unfold G_X6_isSo; exact Eq.trans (if_neg h0) (Eq.trans (if_neg h1) (Eq.trans (if_neg h2) (Eq.trans (if_neg h3) (Eq.trans (if_neg h4) (Eq.trans (if_neg h5) (Eq.trans (if_neg h6) (Eq.trans (if_neg h7) (Eq.trans (if_neg h8) (Eq.trans (if_neg h9) (Eq.trans (if_pos h10) (Eq.trans (if_pos h11) (Eq.trans (if_neg h12) (if_pos h13)))))))))))))
theorem g_X6_isSo_55 {q : AU} {w : RS} {x1 : Int32} (h0 : ¬ (x1 &&& 14) = 0) (h1 : ¬ (x1 &&& 14) = 1) (h2 : ¬ (x1 &&& 14) = 2) (h3 : ¬ (x1 &&& 14) = 3) (h4 : ¬ (x1 &&& 14) = 4) (h5 : ¬ (x1 &&& 14) = 5) (h6 : ¬ (x1 &&& 14) = 6) (h7 : ¬ (x1 &&& 14) = 7) (h8 : ¬ (x1 &&& 14) = 8) (h9 : ¬ (x1 &&& 14) = 9) (h10 : (x1 &&& 14) = 10) (h11 : (r2 w) = 0) (h12 : ¬ (r3 w) = (r5 w)) (h13 : ¬ (x1 &&& 1) = 0) : G_X6_isSo q w x1 = 0 := by unfold G_X6_isSo; exact Eq.trans (if_neg h0) (Eq.trans (if_neg h1) (Eq.trans (if_neg h2) (Eq.trans (if_neg h3) (Eq.trans (if_neg h4) (Eq.trans (if_neg h5) (Eq.trans (if_neg h6) (Eq.trans (if_neg h7) (Eq.trans (if_neg h8) (Eq.trans (if_neg h9) (Eq.trans (if_pos h10) (Eq.trans (if_pos h11) (Eq.trans (if_neg h12) (if_neg h13)))))))))))))
theorem g_X6_isSo_56 {q : AU} {w : RS} {x1 : Int32} (h0 : ¬ (x1 &&& 14) = 0) (h1 : ¬ (x1 &&& 14) = 1) (h2 : ¬ (x1 &&& 14) = 2) (h3 : ¬ (x1 &&& 14) = 3) (h4 : ¬ (x1 &&& 14) = 4) (h5 : ¬ (x1 &&& 14) = 5) (h6 : ¬ (x1 &&& 14) = 6) (h7 : ¬ (x1 &&& 14) = 7) (h8 : ¬ (x1 &&& 14) = 8) (h9 : ¬ (x1 &&& 14) = 9) (h10 : (x1 &&& 14) = 10) (h11 : ¬ (r2 w) = 0) (h12 : (x1 &&& 1) = 0) : G_X6_isSo q w x1 = 1 := by unfold G_X6_isSo; exact Eq.trans (if_neg h0) (Eq.trans (if_neg h1) (Eq.trans (if_neg h2) (Eq.trans (if_neg h3) (Eq.trans (if_neg h4) (Eq.trans (if_neg h5) (Eq.trans (if_neg h6) (Eq.trans (if_neg h7) (Eq.trans (if_neg h8) (Eq.trans (if_neg h9) (Eq.trans (if_pos h10) (Eq.trans (if_neg h11) (if_pos h12))))))))))))
theorem g_X6_isSo_57 {q : AU} {w : RS} {x1 : Int32} (h0 : ¬ (x1 &&& 14) = 0) (h1 : ¬ (x1 &&& 14) = 1) (h2 : ¬ (x1 &&& 14) = 2) (h3 : ¬ (x1 &&& 14) = 3) (h4 : ¬ (x1 &&& 14) = 4) (h5 : ¬ (x1 &&& 14) = 5) (h6 : ¬ (x1 &&& 14) = 6) (h7 : ¬ (x1 &&& 14) = 7) (h8 : ¬ (x1 &&& 14) = 8) (h9 : ¬ (x1 &&& 14) = 9) (h10 : (x1 &&& 14) = 10) (h11 : ¬ (r2 w) = 0) (h12 : ¬ (x1 &&& 1) = 0) : G_X6_isSo q w x1 = 0 := by unfold G_X6_isSo; exact Eq.trans (if_neg h0) (Eq.trans (if_neg h1) (Eq.trans (if_neg h2) (Eq.trans (if_neg h3) (Eq.trans (if_neg h4) (Eq.trans (if_neg h5) (Eq.trans (if_neg h6) (Eq.trans (if_neg h7) (Eq.trans (if_neg h8) (Eq.trans (if_neg h9) (Eq.trans (if_pos h10) (Eq.trans (if_neg h11) (if_neg h12))))))))))))
theorem g_X6_isSo_58 {q : AU} {w : RS} {x1 : Int32} (h0 : ¬ (x1 &&& 14) = 0) (h1 : ¬ (x1 &&& 14) = 1) (h2 : ¬ (x1 &&& 14) = 2) (h3 : ¬ (x1 &&& 14) = 3) (h4 : ¬ (x1 &&& 14) = 4) (h5 : ¬ (x1 &&& 14) = 5) (h6 : ¬ (x1 &&& 14) = 6) (h7 : ¬ (x1 &&& 14) = 7) (h8 : ¬ (x1 &&& 14) = 8) (h9 : ¬ (x1 &&& 14) = 9) (h10 : ¬ (x1 &&& 14) = 10) (h11 : (x1 &&& 14) = 11) (h12 : (r2 w) = 0) (h13 : (r3 w) = (r5 w)) (h14 : (x1 &&& 1) = 0) : G_X6_isSo q w x1 = 0 := by unfold G_X6_isSo; exact Eq.trans (if_neg h0) (Eq.trans (if_neg h1) (Eq.trans (if_neg h2) (Eq.trans (if_neg h3) (Eq.trans (if_neg h4) (Eq.trans (if_neg h5) (Eq.trans (if_neg h6) (Eq.trans (if_neg h7) (Eq.trans (if_neg h8) (Eq.trans (if_neg h9) (Eq.trans (if_neg h10) (Eq.trans (if_pos h11) (Eq.trans (if_pos h12) (Eq.trans (if_pos h13) (if_pos h14))))))))))))))
theorem g_X6_isSo_59 {q : AU} {w : RS} {x1 : Int32} (h0 : ¬ (x1 &&& 14) = 0) (h1 : ¬ (x1 &&& 14) = 1) (h2 : ¬ (x1 &&& 14) = 2) (h3 : ¬ (x1 &&& 14) = 3) (h4 : ¬ (x1 &&& 14) = 4) (h5 : ¬ (x1 &&& 14) = 5) (h6 : ¬ (x1 &&& 14) = 6) (h7 : ¬ (x1 &&& 14) = 7) (h8 : ¬ (x1 &&& 14) = 8) (h9 : ¬ (x1 &&& 14) = 9) (h10 : ¬ (x1 &&& 14) = 10) (h11 : (x1 &&& 14) = 11) (h12 : (r2 w) = 0) (h13 : (r3 w) = (r5 w)) (h14 : ¬ (x1 &&& 1) = 0) : G_X6_isSo q w x1 = 1 := by unfold G_X6_isSo; exact Eq.trans (if_neg h0) (Eq.trans (if_neg h1) (Eq.trans (if_neg h2) (Eq.trans (if_neg h3) (Eq.trans (if_neg h4) (Eq.trans (if_neg h5) (Eq.trans (if_neg h6) (Eq.trans (if_neg h7) (Eq.trans (if_neg h8) (Eq.trans (if_neg h9) (Eq.trans (if_neg h10) (Eq.trans (if_pos h11) (Eq.trans (if_pos h12) (Eq.trans (if_pos h13) (if_neg h14))))))))))))))
theorem g_X6_isSo_60 {q : AU} {w : RS} {x1 : Int32} (h0 : ¬ (x1 &&& 14) = 0) (h1 : ¬ (x1 &&& 14) = 1) (h2 : ¬ (x1 &&& 14) = 2) (h3 : ¬ (x1 &&& 14) = 3) (h4 : ¬ (x1 &&& 14) = 4) (h5 : ¬ (x1 &&& 14) = 5) (h6 : ¬ (x1 &&& 14) = 6) (h7 : ¬ (x1 &&& 14) = 7) (h8 : ¬ (x1 &&& 14) = 8) (h9 : ¬ (x1 &&& 14) = 9) (h10 : ¬ (x1 &&& 14) = 10) (h11 : (x1 &&& 14) = 11) (h12 : (r2 w) = 0) (h13 : ¬ (r3 w) = (r5 w)) (h14 : (x1 &&& 1) = 0) : G_X6_isSo q w x1 = 1 := by unfold G_X6_isSo; exact Eq.trans (if_neg h0) (Eq.trans (if_neg h1) (Eq.trans (if_neg h2) (Eq.trans (if_neg h3) (Eq.trans (if_neg h4) (Eq.trans (if_neg h5) (Eq.trans (if_neg h6) (Eq.trans (if_neg h7) (Eq.trans (if_neg h8) (Eq.trans (if_neg h9) (Eq.trans (if_neg h10) (Eq.trans (if_pos h11) (Eq.trans (if_pos h12) (Eq.trans (if_neg h13) (if_pos h14))))))))))))))
theorem g_X6_isSo_61 {q : AU} {w : RS} {x1 : Int32} (h0 : ¬ (x1 &&& 14) = 0) (h1 : ¬ (x1 &&& 14) = 1) (h2 : ¬ (x1 &&& 14) = 2) (h3 : ¬ (x1 &&& 14) = 3) (h4 : ¬ (x1 &&& 14) = 4) (h5 : ¬ (x1 &&& 14) = 5) (h6 : ¬ (x1 &&& 14) = 6) (h7 : ¬ (x1 &&& 14) = 7) (h8 : ¬ (x1 &&& 14) = 8) (h9 : ¬ (x1 &&& 14) = 9) (h10 : ¬ (x1 &&& 14) = 10) (h11 : (x1 &&& 14) = 11) (h12 : (r2 w) = 0) (h13 : ¬ (r3 w) = (r5 w)) (h14 : ¬ (x1 &&& 1) = 0) : G_X6_isSo q w x1 = 0 := by unfold G_X6_isSo; exact Eq.trans (if_neg h0) (Eq.trans (if_neg h1) (Eq.trans (if_neg h2) (Eq.trans (if_neg h3) (Eq.trans (if_neg h4) (Eq.trans (if_neg h5) (Eq.trans (if_neg h6) (Eq.trans (if_neg h7) (Eq.trans (if_neg h8) (Eq.trans (if_neg h9) (Eq.trans (if_neg h10) (Eq.trans (if_pos h11) (Eq.trans (if_pos h12) (Eq.trans (if_neg h13) (if_neg h14))))))))))))))
theorem g_X6_isSo_62 {q : AU} {w : RS} {x1 : Int32} (h0 : ¬ (x1 &&& 14) = 0) (h1 : ¬ (x1 &&& 14) = 1) (h2 : ¬ (x1 &&& 14) = 2) (h3 : ¬ (x1 &&& 14) = 3) (h4 : ¬ (x1 &&& 14) = 4) (h5 : ¬ (x1 &&& 14) = 5) (h6 : ¬ (x1 &&& 14) = 6) (h7 : ¬ (x1 &&& 14) = 7) (h8 : ¬ (x1 &&& 14) = 8) (h9 : ¬ (x1 &&& 14) = 9) (h10 : ¬ (x1 &&& 14) = 10) (h11 : (x1 &&& 14) = 11) (h12 : ¬ (r2 w) = 0) (h13 : (x1 &&& 1) = 0) : G_X6_isSo q w x1 = 1 := by unfold G_X6_isSo; exact Eq.trans (if_neg h0) (Eq.trans (if_neg h1) (Eq.trans (if_neg h2) (Eq.trans (if_neg h3) (Eq.trans (if_neg h4) (Eq.trans (if_neg h5) (Eq.trans (if_neg h6) (Eq.trans (if_neg h7) (Eq.trans (if_neg h8) (Eq.trans (if_neg h9) (Eq.trans (if_neg h10) (Eq.trans (if_pos h11) (Eq.trans (if_neg h12) (if_pos h13)))))))))))))
theorem g_X6_isSo_63 {q : AU} {w : RS} {x1 : Int32} (h0 : ¬ (x1 &&& 14) = 0) (h1 : ¬ (x1 &&& 14) = 1) (h2 : ¬ (x1 &&& 14) = 2) (h3 : ¬ (x1 &&& 14) = 3) (h4 : ¬ (x1 &&& 14) = 4) (h5 : ¬ (x1 &&& 14) = 5) (h6 : ¬ (x1 &&& 14) = 6) (h7 : ¬ (x1 &&& 14) = 7) (h8 : ¬ (x1 &&& 14) = 8) (h9 : ¬ (x1 &&& 14) = 9) (h10 : ¬ (x1 &&& 14) = 10) (h11 : (x1 &&& 14) = 11) (h12 : ¬ (r2 w) = 0) (h13 : ¬ (x1 &&& 1) = 0) : G_X6_isSo q w x1 = 0 := by unfold G_X6_isSo; exact Eq.trans (if_neg h0) (Eq.trans (if_neg h1) (Eq.trans (if_neg h2) (Eq.trans (if_neg h3) (Eq.trans (if_neg h4) (Eq.trans (if_neg h5) (Eq.trans (if_neg h6) (Eq.trans (if_neg h7) (Eq.trans (if_neg h8) (Eq.trans (if_neg h9) (Eq.trans (if_neg h10) (Eq.trans (if_pos h11) (Eq.trans (if_neg h12) (if_neg h13)))))))))))))
theorem g_X6_isSo_64 {q : AU} {w : RS} {x1 : Int32} (h0 : ¬ (x1 &&& 14) = 0) (h1 : ¬ (x1 &&& 14) = 1) (h2 : ¬ (x1 &&& 14) = 2) (h3 : ¬ (x1 &&& 14) = 3) (h4 : ¬ (x1 &&& 14) = 4) (h5 : ¬ (x1 &&& 14) = 5) (h6 : ¬ (x1 &&& 14) = 6) (h7 : ¬ (x1 &&& 14) = 7) (h8 : ¬ (x1 &&& 14) = 8) (h9 : ¬ (x1 &&& 14) = 9) (h10 : ¬ (x1 &&& 14) = 10) (h11 : ¬ (x1 &&& 14) = 11) (h12 : (x1 &&& 14) = 12) (h13 : (r3 w) = (r5 w)) (h14 : (x1 &&& 1) = 0) : G_X6_isSo q w x1 = 0 := by unfold G_X6_isSo; exact Eq.trans (if_neg h0) (Eq.trans (if_neg h1) (Eq.trans (if_neg h2) (Eq.trans (if_neg h3) (Eq.trans (if_neg h4) (Eq.trans (if_neg h5) (Eq.trans (if_neg h6) (Eq.trans (if_neg h7) (Eq.trans (if_neg h8) (Eq.trans (if_neg h9) (Eq.trans (if_neg h10) (Eq.trans (if_neg h11) (Eq.trans (if_pos h12) (Eq.trans (if_pos h13) (if_pos h14))))))))))))))
theorem g_X6_isSo_65 {q : AU} {w : RS} {x1 : Int32} (h0 : ¬ (x1 &&& 14) = 0) (h1 : ¬ (x1 &&& 14) = 1) (h2 : ¬ (x1 &&& 14) = 2) (h3 : ¬ (x1 &&& 14) = 3) (h4 : ¬ (x1 &&& 14) = 4) (h5 : ¬ (x1 &&& 14) = 5) (h6 : ¬ (x1 &&& 14) = 6) (h7 : ¬ (x1 &&& 14) = 7) (h8 : ¬ (x1 &&& 14) = 8) (h9 : ¬ (x1 &&& 14) = 9) (h10 : ¬ (x1 &&& 14) = 10) (h11 : ¬ (x1 &&& 14) = 11) (h12 : (x1 &&& 14) = 12) (h13 : (r3 w) = (r5 w)) (h14 : ¬ (x1 &&& 1) = 0) : G_X6_isSo q w x1 = 1 := by unfold G_X6_isSo; exact Eq.trans (if_neg h0) (Eq.trans (if_neg h1) (Eq.trans (if_neg h2) (Eq.trans (if_neg h3) (Eq.trans (if_neg h4) (Eq.trans (if_neg h5) (Eq.trans (if_neg h6) (Eq.trans (if_neg h7) (Eq.trans (if_neg h8) (Eq.trans (if_neg h9) (Eq.trans (if_neg h10) (Eq.trans (if_neg h11) (Eq.trans (if_pos h12) (Eq.trans (if_pos h13) (if_neg h14))))))))))))))
theorem g_X6_isSo_66 {q : AU} {w : RS} {x1 : Int32} (h0 : ¬ (x1 &&& 14) = 0) (h1 : ¬ (x1 &&& 14) = 1) (h2 : ¬ (x1 &&& 14) = 2) (h3 : ¬ (x1 &&& 14) = 3) (h4 : ¬ (x1 &&& 14) = 4) (h5 : ¬ (x1 &&& 14) = 5) (h6 : ¬ (x1 &&& 14) = 6) (h7 : ¬ (x1 &&& 14) = 7) (h8 : ¬ (x1 &&& 14) = 8) (h9 : ¬ (x1 &&& 14) = 9) (h10 : ¬ (x1 &&& 14) = 10) (h11 : ¬ (x1 &&& 14) = 11) (h12 : (x1 &&& 14) = 12) (h13 : ¬ (r3 w) = (r5 w)) (h14 : (x1 &&& 1) = 0) : G_X6_isSo q w x1 = 1 := by unfold G_X6_isSo; exact Eq.trans (if_neg h0) (Eq.trans (if_neg h1) (Eq.trans (if_neg h2) (Eq.trans (if_neg h3) (Eq.trans (if_neg h4) (Eq.trans (if_neg h5) (Eq.trans (if_neg h6) (Eq.trans (if_neg h7) (Eq.trans (if_neg h8) (Eq.trans (if_neg h9) (Eq.trans (if_neg h10) (Eq.trans (if_neg h11) (Eq.trans (if_pos h12) (Eq.trans (if_neg h13) (if_pos h14))))))))))))))
theorem g_X6_isSo_67 {q : AU} {w : RS} {x1 : Int32} (h0 : ¬ (x1 &&& 14) = 0) (h1 : ¬ (x1 &&& 14) = 1) (h2 : ¬ (x1 &&& 14) = 2) (h3 : ¬ (x1 &&& 14) = 3) (h4 : ¬ (x1 &&& 14) = 4) (h5 : ¬ (x1 &&& 14) = 5) (h6 : ¬ (x1 &&& 14) = 6) (h7 : ¬ (x1 &&& 14) = 7) (h8 : ¬ (x1 &&& 14) = 8) (h9 : ¬ (x1 &&& 14) = 9) (h10 : ¬ (x1 &&& 14) = 10) (h11 : ¬ (x1 &&& 14) = 11) (h12 : (x1 &&& 14) = 12) (h13 : ¬ (r3 w) = (r5 w)) (h14 : ¬ (x1 &&& 1) = 0) : G_X6_isSo q w x1 = 0 := by unfold G_X6_isSo; exact Eq.trans (if_neg h0) (Eq.trans (if_neg h1) (Eq.trans (if_neg h2) (Eq.trans (if_neg h3) (Eq.trans (if_neg h4) (Eq.trans (if_neg h5) (Eq.trans (if_neg h6) (Eq.trans (if_neg h7) (Eq.trans (if_neg h8) (Eq.trans (if_neg h9) (Eq.trans (if_neg h10) (Eq.trans (if_neg h11) (Eq.trans (if_pos h12) (Eq.trans (if_neg h13) (if_neg h14))))))))))))))
theorem g_X6_isSo_68 {q : AU} {w : RS} {x1 : Int32} (h0 : ¬ (x1 &&& 14) = 0) (h1 : ¬ (x1 &&& 14) = 1) (h2 : ¬ (x1 &&& 14) = 2) (h3 : ¬ (x1 &&& 14) = 3) (h4 : ¬ (x1 &&& 14) = 4) (h5 : ¬ (x1 &&& 14) = 5) (h6 : ¬ (x1 &&& 14) = 6) (h7 : ¬ (x1 &&& 14) = 7) (h8 : ¬ (x1 &&& 14) = 8) (h9 : ¬ (x1 &&& 14) = 9) (h10 : ¬ (x1 &&& 14) = 10) (h11 : ¬ (x1 &&& 14) = 11) (h12 : ¬ (x1 &&& 14) = 12) (h13 : (r2 w) = 0) (h14 : (r3 w) = (r5 w)) (h15 : (x1 &&& 1) = 0) : G_X6_isSo q w x1 = 0 := by unfold G_X6_isSo; exact Eq.trans (if_neg h0) (Eq.trans (if_neg h1) (Eq.trans (if_neg h2) (Eq.trans (if_neg h3) (Eq.trans (if_neg h4) (Eq.trans (if_neg h5) (Eq.trans (if_neg h6) (Eq.trans (if_neg h7) (Eq.trans (if_neg h8) (Eq.trans (if_neg h9) (Eq.trans (if_neg h10) (Eq.trans (if_neg h11) (Eq.trans (if_neg h12) (Eq.trans (if_pos h13) (Eq.trans (if_pos h14) (if_pos h15)))))))))))))))
theorem g_X6_isSo_69 {q : AU} {w : RS} {x1 : Int32} (h0 : ¬ (x1 &&& 14) = 0) (h1 : ¬ (x1 &&& 14) = 1) (h2 : ¬ (x1 &&& 14) = 2) (h3 : ¬ (x1 &&& 14) = 3) (h4 : ¬ (x1 &&& 14) = 4) (h5 : ¬ (x1 &&& 14) = 5) (h6 : ¬ (x1 &&& 14) = 6) (h7 : ¬ (x1 &&& 14) = 7) (h8 : ¬ (x1 &&& 14) = 8) (h9 : ¬ (x1 &&& 14) = 9) (h10 : ¬ (x1 &&& 14) = 10) (h11 : ¬ (x1 &&& 14) = 11) (h12 : ¬ (x1 &&& 14) = 12) (h13 : (r2 w) = 0) (h14 : (r3 w) = (r5 w)) (h15 : ¬ (x1 &&& 1) = 0) : G_X6_isSo q w x1 = 1 := by unfold G_X6_isSo; exact Eq.trans (if_neg h0) (Eq.trans (if_neg h1) (Eq.trans (if_neg h2) (Eq.trans (if_neg h3) (Eq.trans (if_neg h4) (Eq.trans (if_neg h5) (Eq.trans (if_neg h6) (Eq.trans (if_neg h7) (Eq.trans (if_neg h8) (Eq.trans (if_neg h9) (Eq.trans (if_neg h10) (Eq.trans (if_neg h11) (Eq.trans (if_neg h12) (Eq.trans (if_pos h13) (Eq.trans (if_pos h14) (if_neg h15)))))))))))))))
theorem g_X6_isSo_70 {q : AU} {w : RS} {x1 : Int32} (h0 : ¬ (x1 &&& 14) = 0) (h1 : ¬ (x1 &&& 14) = 1) (h2 : ¬ (x1 &&& 14) = 2) (h3 : ¬ (x1 &&& 14) = 3) (h4 : ¬ (x1 &&& 14) = 4) (h5 : ¬ (x1 &&& 14) = 5) (h6 : ¬ (x1 &&& 14) = 6) (h7 : ¬ (x1 &&& 14) = 7) (h8 : ¬ (x1 &&& 14) = 8) (h9 : ¬ (x1 &&& 14) = 9) (h10 : ¬ (x1 &&& 14) = 10) (h11 : ¬ (x1 &&& 14) = 11) (h12 : ¬ (x1 &&& 14) = 12) (h13 : (r2 w) = 0) (h14 : ¬ (r3 w) = (r5 w)) (h15 : (x1 &&& 1) = 0) : G_X6_isSo q w x1 = 1 := by unfold G_X6_isSo; exact Eq.trans (if_neg h0) (Eq.trans (if_neg h1) (Eq.trans (if_neg h2) (Eq.trans (if_neg h3) (Eq.trans (if_neg h4) (Eq.trans (if_neg h5) (Eq.trans (if_neg h6) (Eq.trans (if_neg h7) (Eq.trans (if_neg h8) (Eq.trans (if_neg h9) (Eq.trans (if_neg h10) (Eq.trans (if_neg h11) (Eq.trans (if_neg h12) (Eq.trans (if_pos h13) (Eq.trans (if_neg h14) (if_pos h15)))))))))))))))
theorem g_X6_isSo_71 {q : AU} {w : RS} {x1 : Int32} (h0 : ¬ (x1 &&& 14) = 0) (h1 : ¬ (x1 &&& 14) = 1) (h2 : ¬ (x1 &&& 14) = 2) (h3 : ¬ (x1 &&& 14) = 3) (h4 : ¬ (x1 &&& 14) = 4) (h5 : ¬ (x1 &&& 14) = 5) (h6 : ¬ (x1 &&& 14) = 6) (h7 : ¬ (x1 &&& 14) = 7) (h8 : ¬ (x1 &&& 14) = 8) (h9 : ¬ (x1 &&& 14) = 9) (h10 : ¬ (x1 &&& 14) = 10) (h11 : ¬ (x1 &&& 14) = 11) (h12 : ¬ (x1 &&& 14) = 12) (h13 : (r2 w) = 0) (h14 : ¬ (r3 w) = (r5 w)) (h15 : ¬ (x1 &&& 1) = 0) : G_X6_isSo q w x1 = 0 := by unfold G_X6_isSo; exact Eq.trans (if_neg h0) (Eq.trans (if_neg h1) (Eq.trans (if_neg h2) (Eq.trans (if_neg h3) (Eq.trans (if_neg h4) (Eq.trans (if_neg h5) (Eq.trans (if_neg h6) (Eq.trans (if_neg h7) (Eq.trans (if_neg h8) (Eq.trans (if_neg h9) (Eq.trans (if_neg h10) (Eq.trans (if_neg h11) (Eq.trans (if_neg h12) (Eq.trans (if_pos h13) (Eq.trans (if_neg h14) (if_neg h15)))))))))))))))
theorem g_X6_isSo_72 {q : AU} {w : RS} {x1 : Int32} (h0 : ¬ (x1 &&& 14) = 0) (h1 : ¬ (x1 &&& 14) = 1) (h2 : ¬ (x1 &&& 14) = 2) (h3 : ¬ (x1 &&& 14) = 3) (h4 : ¬ (x1 &&& 14) = 4) (h5 : ¬ (x1 &&& 14) = 5) (h6 : ¬ (x1 &&& 14) = 6) (h7 : ¬ (x1 &&& 14) = 7) (h8 : ¬ (x1 &&& 14) = 8) (h9 : ¬ (x1 &&& 14) = 9) (h10 : ¬ (x1 &&& 14) = 10) (h11 : ¬ (x1 &&& 14) = 11) (h12 : ¬ (x1 &&& 14) = 12) (h13 : ¬ (r2 w) = 0) (h14 : (x1 &&& 1) = 0) : G_X6_isSo q w x1 = 1 := by unfold G_X6_isSo; exact Eq.trans (if_neg h0) (Eq.trans (if_neg h1) (Eq.trans (if_neg h2) (Eq.trans (if_neg h3) (Eq.trans (if_neg h4) (Eq.trans (if_neg h5) (Eq.trans (if_neg h6) (Eq.trans (if_neg h7) (Eq.trans (if_neg h8) (Eq.trans (if_neg h9) (Eq.trans (if_neg h10) (Eq.trans (if_neg h11) (Eq.trans (if_neg h12) (Eq.trans (if_neg h13) (if_pos h14))))))))))))))
theorem g_X6_isSo_73 {q : AU} {w : RS} {x1 : Int32} (h0 : ¬ (x1 &&& 14) = 0) (h1 : ¬ (x1 &&& 14) = 1) (h2 : ¬ (x1 &&& 14) = 2) (h3 : ¬ (x1 &&& 14) = 3) (h4 : ¬ (x1 &&& 14) = 4) (h5 : ¬ (x1 &&& 14) = 5) (h6 : ¬ (x1 &&& 14) = 6) (h7 : ¬ (x1 &&& 14) = 7) (h8 : ¬ (x1 &&& 14) = 8) (h9 : ¬ (x1 &&& 14) = 9) (h10 : ¬ (x1 &&& 14) = 10) (h11 : ¬ (x1 &&& 14) = 11) (h12 : ¬ (x1 &&& 14) = 12) (h13 : ¬ (r2 w) = 0) (h14 : ¬ (x1 &&& 1) = 0) : G_X6_isSo q w x1 = 0 := by unfold G_X6_isSo; exact Eq.trans (if_neg h0) (Eq.trans (if_neg h1) (Eq.trans (if_neg h2) (Eq.trans (if_neg h3) (Eq.trans (if_neg h4) (Eq.trans (if_neg h5) (Eq.trans (if_neg h6) (Eq.trans (if_neg h7) (Eq.trans (if_neg h8) (Eq.trans (if_neg h9) (Eq.trans (if_neg h10) (Eq.trans (if_neg h11) (Eq.trans (if_neg h12) (Eq.trans (if_neg h13) (if_neg h14))))))))))))))
set_option maxHeartbeats 40000000 in
theorem cr_X6_isSo {xi : SX} {S : Hp} {E : List Nat} {kc nc : Nat} {P : Po} {o0 : Nat} {x1 : Int32} {i1 hd : Nat} {bs : Nat → Int32} {n : Int32} (hG : GI S E) (hc : RC S E o0 i1 hd bs n) (hP : ∀ r T x y, PV E [] S kc nc (rI 0 1) (fun v T => T = S ∧ v = some (.int (G_X6_isSo (AC S i1) (QC S o0 hd) x1))) [] r T x y → P r T x y) : TT xi M_X6_isSo 0 [(0, .ref o0), (1, .int x1)] [] S kc nc P := by
  obtain ⟨h0, hri, hoi, hrh, hoh, hb, cb, hrc, hoc, rfl⟩ := id hc
  have hA : Af E [] S S := af_rf
  refine tt_iload_n (j := 1) dX6_isSo_0 rfl ?_
  refine tt_bipush (v := 14) dX6_isSo_1 rfl ?_
  refine tt_iand dX6_isSo_3 ?_
  refine gt_by (c := (x1 &&& 14) = 0) (fun q101 => ?_) (fun q101 => ?_)
  · skip
    refine gt_tseqL (off := 68) (tgt := 72) 0 0 dX6_isSo_4 sl_X6_isSo_4 q101 rfl (by decide) (by decide) rfl rfl ?_
    refine tt_aload_n (j := 0) dX6_isSo_72 rfl ?_
    refine gt_gI (id := 393) (v := (r5 (QC S o0 hd))) dX6_isSo_73 fl_6_79 rfl rfl h0 hA (tC_393 (T := S) (o := o0) (a := hd) rfl) ?_
    refine tt_istore_n (ks := [0, 1, 2]) (L' := [(2, .int (r5 (QC S o0 hd))), (0, .ref o0), (1, .int x1)]) dX6_isSo_76 (by decide) rfl ?_
    refine tt_goto (tgt := 171) dX6_isSo_77 rfl ?_
    refine tt_iload_n (j := 0) dX6_isSo_171 rfl ?_
    refine tt_iload_n (j := 2) dX6_isSo_172 rfl ?_
    refine tt_iconst (v := 1) dX6_isSo_173 rfl ?_
    refine tt_iand dX6_isSo_174 ?_
    refine tt_if_ne (tgt := 182) dX6_isSo_175 rfl (fun q102 => ?_) (fun q102 => ?_)
    · skip
      have h103 : Rg 1 1 (x1 &&& 1) := rg_ne_lo (rg_and (x := x1) (⟨by decide, by decide⟩ : Rg 1 1 1)) (⟨by decide, by decide⟩ : Rg 0 0 0) q102
      refine tt_iconst (v := 0) dX6_isSo_182 rfl ?_
      refine tt_icmp_ne (tgt := 190) dX6_isSo_183 rfl (fun q104 => ?_) (fun q104 => ?_)
      · skip
        have h105 : Rg 1 1 (r5 (QC S o0 hd)) := rg_ne_lo (gi_I (k := 393) hG h0 0 1) (⟨by decide, by decide⟩ : Rg 0 0 0) q104
        refine tt_iconst (v := 0) dX6_isSo_190 rfl ?_
        have hF : G_X6_isSo (AC S i1) (QC S o0 hd) x1 = 0 := by
          exact g_X6_isSo_3 q101 q102 q104
        exact tt_ireturn dX6_isSo_191 .boolean rfl rfl (hP _ _ _ _ ⟨hG, hA, Or.inl ⟨_, rfl, ⟨_, rfl, rg_w (⟨by decide, by decide⟩ : Rg 0 0 0)⟩, ⟨rfl, congrArg (fun q => some (Value.int q)) hF.symm⟩, rfl, rfl⟩⟩)
      · skip
        have h106 : Rg 0 0 (r5 (QC S o0 hd)) := rg_eq_l (gi_I (k := 393) hG h0 0 1) (⟨by decide, by decide⟩ : Rg 0 0 0) q104
        refine tt_iconst (v := 1) dX6_isSo_186 rfl ?_
        refine tt_goto (tgt := 191) dX6_isSo_187 rfl ?_
        have hF : G_X6_isSo (AC S i1) (QC S o0 hd) x1 = 1 := by
          exact g_X6_isSo_2 q101 q102 q104
        exact tt_ireturn dX6_isSo_191 .boolean rfl rfl (hP _ _ _ _ ⟨hG, hA, Or.inl ⟨_, rfl, ⟨_, rfl, rg_w (⟨by decide, by decide⟩ : Rg 1 1 1)⟩, ⟨rfl, congrArg (fun q => some (Value.int q)) hF.symm⟩, rfl, rfl⟩⟩)
    · skip
      have h107 : Rg 0 0 (x1 &&& 1) := rg_eq_l (rg_and (x := x1) (⟨by decide, by decide⟩ : Rg 1 1 1)) (⟨by decide, by decide⟩ : Rg 0 0 0) q102
      refine tt_iconst (v := 1) dX6_isSo_178 rfl ?_
      refine tt_goto (tgt := 183) dX6_isSo_179 rfl ?_
      refine tt_icmp_ne (tgt := 190) dX6_isSo_183 rfl (fun q108 => ?_) (fun q108 => ?_)
      · skip
        have h109 : Rg 0 0 (r5 (QC S o0 hd)) := rg_ne_hi (gi_I (k := 393) hG h0 0 1) (⟨by decide, by decide⟩ : Rg 1 1 1) q108
        refine tt_iconst (v := 0) dX6_isSo_190 rfl ?_
        have hF : G_X6_isSo (AC S i1) (QC S o0 hd) x1 = 0 := by
          exact g_X6_isSo_1 q101 q102 q108
        exact tt_ireturn dX6_isSo_191 .boolean rfl rfl (hP _ _ _ _ ⟨hG, hA, Or.inl ⟨_, rfl, ⟨_, rfl, rg_w (⟨by decide, by decide⟩ : Rg 0 0 0)⟩, ⟨rfl, congrArg (fun q => some (Value.int q)) hF.symm⟩, rfl, rfl⟩⟩)
      · skip
        have h110 : Rg 1 1 (r5 (QC S o0 hd)) := rg_eq_l (gi_I (k := 393) hG h0 0 1) (⟨by decide, by decide⟩ : Rg 1 1 1) q108
        refine tt_iconst (v := 1) dX6_isSo_186 rfl ?_
        refine tt_goto (tgt := 191) dX6_isSo_187 rfl ?_
        have hF : G_X6_isSo (AC S i1) (QC S o0 hd) x1 = 1 := by
          exact g_X6_isSo_0 q101 q102 q108
        exact tt_ireturn dX6_isSo_191 .boolean rfl rfl (hP _ _ _ _ ⟨hG, hA, Or.inl ⟨_, rfl, ⟨_, rfl, rg_w (⟨by decide, by decide⟩ : Rg 1 1 1)⟩, ⟨rfl, congrArg (fun q => some (Value.int q)) hF.symm⟩, rfl, rfl⟩⟩)
  refine gt_by (c := (x1 &&& 14) = 1) (fun q111 => ?_) (fun q111 => ?_)
  · skip
    refine gt_tseqL (off := 143) (tgt := 147) 1 1 dX6_isSo_4 sl_X6_isSo_4 q111 rfl (by decide) (by decide) rfl rfl ?_
    refine tt_aload_n (j := 0) dX6_isSo_147 rfl ?_
    refine gt_gI (id := 390) (v := (r2 (QC S o0 hd))) dX6_isSo_148 fl_6_85 rfl rfl h0 hA (tC_390 (T := S) (o := o0) (a := hd) rfl) ?_
    refine tt_if_ne (tgt := 165) dX6_isSo_151 rfl (fun q112 => ?_) (fun q112 => ?_)
    · skip
      have h113 : Rg 1 1 (r2 (QC S o0 hd)) := rg_ne_lo (gi_I (k := 390) hG h0 0 1) (⟨by decide, by decide⟩ : Rg 0 0 0) q112
      refine tt_iconst (v := 1) dX6_isSo_165 rfl ?_
      refine tt_goto (tgt := 170) dX6_isSo_166 rfl ?_
      refine tt_istore_n (ks := [0, 1, 2]) (L' := [(2, .int 1), (0, .ref o0), (1, .int x1)]) dX6_isSo_170 (by decide) rfl ?_
      refine tt_iload_n (j := 0) dX6_isSo_171 rfl ?_
      refine tt_iload_n (j := 2) dX6_isSo_172 rfl ?_
      refine tt_iconst (v := 1) dX6_isSo_173 rfl ?_
      refine tt_iand dX6_isSo_174 ?_
      refine tt_if_ne (tgt := 182) dX6_isSo_175 rfl (fun q114 => ?_) (fun q114 => ?_)
      · skip
        have h115 : Rg 1 1 (x1 &&& 1) := rg_ne_lo (rg_and (x := x1) (⟨by decide, by decide⟩ : Rg 1 1 1)) (⟨by decide, by decide⟩ : Rg 0 0 0) q114
        refine tt_iconst (v := 0) dX6_isSo_182 rfl ?_
        refine tt_icmp_ne (tgt := 190) dX6_isSo_183 rfl (fun _ => ?_) (fun q => absurd q (by decide))
        refine tt_iconst (v := 0) dX6_isSo_190 rfl ?_
        have hF : G_X6_isSo (AC S i1) (QC S o0 hd) x1 = 0 := by
          exact g_X6_isSo_9 q101 q111 q112 q114
        exact tt_ireturn dX6_isSo_191 .boolean rfl rfl (hP _ _ _ _ ⟨hG, hA, Or.inl ⟨_, rfl, ⟨_, rfl, rg_w (⟨by decide, by decide⟩ : Rg 0 0 0)⟩, ⟨rfl, congrArg (fun q => some (Value.int q)) hF.symm⟩, rfl, rfl⟩⟩)
      · skip
        have h116 : Rg 0 0 (x1 &&& 1) := rg_eq_l (rg_and (x := x1) (⟨by decide, by decide⟩ : Rg 1 1 1)) (⟨by decide, by decide⟩ : Rg 0 0 0) q114
        refine tt_iconst (v := 1) dX6_isSo_178 rfl ?_
        refine tt_goto (tgt := 183) dX6_isSo_179 rfl ?_
        refine tt_icmp_ne (tgt := 190) dX6_isSo_183 rfl (fun q => absurd q (by decide)) (fun _ => ?_)
        refine tt_iconst (v := 1) dX6_isSo_186 rfl ?_
        refine tt_goto (tgt := 191) dX6_isSo_187 rfl ?_
        have hF : G_X6_isSo (AC S i1) (QC S o0 hd) x1 = 1 := by
          exact g_X6_isSo_8 q101 q111 q112 q114
        exact tt_ireturn dX6_isSo_191 .boolean rfl rfl (hP _ _ _ _ ⟨hG, hA, Or.inl ⟨_, rfl, ⟨_, rfl, rg_w (⟨by decide, by decide⟩ : Rg 1 1 1)⟩, ⟨rfl, congrArg (fun q => some (Value.int q)) hF.symm⟩, rfl, rfl⟩⟩)
    · skip
      have h117 : Rg 0 0 (r2 (QC S o0 hd)) := rg_eq_l (gi_I (k := 390) hG h0 0 1) (⟨by decide, by decide⟩ : Rg 0 0 0) q112
      refine tt_aload_n (j := 0) dX6_isSo_154 rfl ?_
      refine gt_gI (id := 391) (v := (r3 (QC S o0 hd))) dX6_isSo_155 fl_6_88 rfl rfl h0 hA (tC_391 (T := S) (o := o0) (a := hd) rfl) ?_
      refine tt_aload_n (j := 0) dX6_isSo_158 rfl ?_
      refine gt_gI (id := 393) (v := (r5 (QC S o0 hd))) dX6_isSo_159 fl_6_79 rfl rfl h0 hA (tC_393 (T := S) (o := o0) (a := hd) rfl) ?_
      refine tt_icmp_eq (tgt := 169) dX6_isSo_162 rfl (fun q118 => ?_) (fun q118 => ?_)
      · skip
        refine tt_iconst (v := 0) dX6_isSo_169 rfl ?_
        refine tt_istore_n (ks := [0, 1, 2]) (L' := [(2, .int 0), (0, .ref o0), (1, .int x1)]) dX6_isSo_170 (by decide) rfl ?_
        refine tt_iload_n (j := 0) dX6_isSo_171 rfl ?_
        refine tt_iload_n (j := 2) dX6_isSo_172 rfl ?_
        refine tt_iconst (v := 1) dX6_isSo_173 rfl ?_
        refine tt_iand dX6_isSo_174 ?_
        refine tt_if_ne (tgt := 182) dX6_isSo_175 rfl (fun q119 => ?_) (fun q119 => ?_)
        · skip
          have h120 : Rg 1 1 (x1 &&& 1) := rg_ne_lo (rg_and (x := x1) (⟨by decide, by decide⟩ : Rg 1 1 1)) (⟨by decide, by decide⟩ : Rg 0 0 0) q119
          refine tt_iconst (v := 0) dX6_isSo_182 rfl ?_
          refine tt_icmp_ne (tgt := 190) dX6_isSo_183 rfl (fun q => absurd q (by decide)) (fun _ => ?_)
          refine tt_iconst (v := 1) dX6_isSo_186 rfl ?_
          refine tt_goto (tgt := 191) dX6_isSo_187 rfl ?_
          have hF : G_X6_isSo (AC S i1) (QC S o0 hd) x1 = 1 := by
            exact g_X6_isSo_5 q101 q111 q112 q118 q119
          exact tt_ireturn dX6_isSo_191 .boolean rfl rfl (hP _ _ _ _ ⟨hG, hA, Or.inl ⟨_, rfl, ⟨_, rfl, rg_w (⟨by decide, by decide⟩ : Rg 1 1 1)⟩, ⟨rfl, congrArg (fun q => some (Value.int q)) hF.symm⟩, rfl, rfl⟩⟩)
        · skip
          have h121 : Rg 0 0 (x1 &&& 1) := rg_eq_l (rg_and (x := x1) (⟨by decide, by decide⟩ : Rg 1 1 1)) (⟨by decide, by decide⟩ : Rg 0 0 0) q119
          refine tt_iconst (v := 1) dX6_isSo_178 rfl ?_
          refine tt_goto (tgt := 183) dX6_isSo_179 rfl ?_
          refine tt_icmp_ne (tgt := 190) dX6_isSo_183 rfl (fun _ => ?_) (fun q => absurd q (by decide))
          refine tt_iconst (v := 0) dX6_isSo_190 rfl ?_
          have hF : G_X6_isSo (AC S i1) (QC S o0 hd) x1 = 0 := by
            exact g_X6_isSo_4 q101 q111 q112 q118 q119
          exact tt_ireturn dX6_isSo_191 .boolean rfl rfl (hP _ _ _ _ ⟨hG, hA, Or.inl ⟨_, rfl, ⟨_, rfl, rg_w (⟨by decide, by decide⟩ : Rg 0 0 0)⟩, ⟨rfl, congrArg (fun q => some (Value.int q)) hF.symm⟩, rfl, rfl⟩⟩)
      · skip
        refine tt_iconst (v := 1) dX6_isSo_165 rfl ?_
        refine tt_goto (tgt := 170) dX6_isSo_166 rfl ?_
        refine tt_istore_n (ks := [0, 1, 2]) (L' := [(2, .int 1), (0, .ref o0), (1, .int x1)]) dX6_isSo_170 (by decide) rfl ?_
        refine tt_iload_n (j := 0) dX6_isSo_171 rfl ?_
        refine tt_iload_n (j := 2) dX6_isSo_172 rfl ?_
        refine tt_iconst (v := 1) dX6_isSo_173 rfl ?_
        refine tt_iand dX6_isSo_174 ?_
        refine tt_if_ne (tgt := 182) dX6_isSo_175 rfl (fun q122 => ?_) (fun q122 => ?_)
        · skip
          have h123 : Rg 1 1 (x1 &&& 1) := rg_ne_lo (rg_and (x := x1) (⟨by decide, by decide⟩ : Rg 1 1 1)) (⟨by decide, by decide⟩ : Rg 0 0 0) q122
          refine tt_iconst (v := 0) dX6_isSo_182 rfl ?_
          refine tt_icmp_ne (tgt := 190) dX6_isSo_183 rfl (fun _ => ?_) (fun q => absurd q (by decide))
          refine tt_iconst (v := 0) dX6_isSo_190 rfl ?_
          have hF : G_X6_isSo (AC S i1) (QC S o0 hd) x1 = 0 := by
            exact g_X6_isSo_7 q101 q111 q112 q118 q122
          exact tt_ireturn dX6_isSo_191 .boolean rfl rfl (hP _ _ _ _ ⟨hG, hA, Or.inl ⟨_, rfl, ⟨_, rfl, rg_w (⟨by decide, by decide⟩ : Rg 0 0 0)⟩, ⟨rfl, congrArg (fun q => some (Value.int q)) hF.symm⟩, rfl, rfl⟩⟩)
        · skip
          have h124 : Rg 0 0 (x1 &&& 1) := rg_eq_l (rg_and (x := x1) (⟨by decide, by decide⟩ : Rg 1 1 1)) (⟨by decide, by decide⟩ : Rg 0 0 0) q122
          refine tt_iconst (v := 1) dX6_isSo_178 rfl ?_
          refine tt_goto (tgt := 183) dX6_isSo_179 rfl ?_
          refine tt_icmp_ne (tgt := 190) dX6_isSo_183 rfl (fun q => absurd q (by decide)) (fun _ => ?_)
          refine tt_iconst (v := 1) dX6_isSo_186 rfl ?_
          refine tt_goto (tgt := 191) dX6_isSo_187 rfl ?_
          have hF : G_X6_isSo (AC S i1) (QC S o0 hd) x1 = 1 := by
            exact g_X6_isSo_6 q101 q111 q112 q118 q122
          exact tt_ireturn dX6_isSo_191 .boolean rfl rfl (hP _ _ _ _ ⟨hG, hA, Or.inl ⟨_, rfl, ⟨_, rfl, rg_w (⟨by decide, by decide⟩ : Rg 1 1 1)⟩, ⟨rfl, congrArg (fun q => some (Value.int q)) hF.symm⟩, rfl, rfl⟩⟩)
  refine gt_by (c := (x1 &&& 14) = 2) (fun q125 => ?_) (fun q125 => ?_)
  · skip
    refine gt_tseqL (off := 76) (tgt := 80) 2 2 dX6_isSo_4 sl_X6_isSo_4 q125 rfl (by decide) (by decide) rfl rfl ?_
    refine tt_aload_n (j := 0) dX6_isSo_80 rfl ?_
    refine gt_gI (id := 392) (v := (r4 (QC S o0 hd))) dX6_isSo_81 fl_6_82 rfl rfl h0 hA (tC_392 (T := S) (o := o0) (a := hd) rfl) ?_
    refine tt_istore_n (ks := [0, 1, 2]) (L' := [(2, .int (r4 (QC S o0 hd))), (0, .ref o0), (1, .int x1)]) dX6_isSo_84 (by decide) rfl ?_
    refine tt_goto (tgt := 171) dX6_isSo_85 rfl ?_
    refine tt_iload_n (j := 0) dX6_isSo_171 rfl ?_
    refine tt_iload_n (j := 2) dX6_isSo_172 rfl ?_
    refine tt_iconst (v := 1) dX6_isSo_173 rfl ?_
    refine tt_iand dX6_isSo_174 ?_
    refine tt_if_ne (tgt := 182) dX6_isSo_175 rfl (fun q126 => ?_) (fun q126 => ?_)
    · skip
      have h127 : Rg 1 1 (x1 &&& 1) := rg_ne_lo (rg_and (x := x1) (⟨by decide, by decide⟩ : Rg 1 1 1)) (⟨by decide, by decide⟩ : Rg 0 0 0) q126
      refine tt_iconst (v := 0) dX6_isSo_182 rfl ?_
      refine tt_icmp_ne (tgt := 190) dX6_isSo_183 rfl (fun q128 => ?_) (fun q128 => ?_)
      · skip
        have h129 : Rg 1 1 (r4 (QC S o0 hd)) := rg_ne_lo (gi_I (k := 392) hG h0 0 1) (⟨by decide, by decide⟩ : Rg 0 0 0) q128
        refine tt_iconst (v := 0) dX6_isSo_190 rfl ?_
        have hF : G_X6_isSo (AC S i1) (QC S o0 hd) x1 = 0 := by
          exact g_X6_isSo_13 q101 q111 q125 q126 q128
        exact tt_ireturn dX6_isSo_191 .boolean rfl rfl (hP _ _ _ _ ⟨hG, hA, Or.inl ⟨_, rfl, ⟨_, rfl, rg_w (⟨by decide, by decide⟩ : Rg 0 0 0)⟩, ⟨rfl, congrArg (fun q => some (Value.int q)) hF.symm⟩, rfl, rfl⟩⟩)
      · skip
        have h130 : Rg 0 0 (r4 (QC S o0 hd)) := rg_eq_l (gi_I (k := 392) hG h0 0 1) (⟨by decide, by decide⟩ : Rg 0 0 0) q128
        refine tt_iconst (v := 1) dX6_isSo_186 rfl ?_
        refine tt_goto (tgt := 191) dX6_isSo_187 rfl ?_
        have hF : G_X6_isSo (AC S i1) (QC S o0 hd) x1 = 1 := by
          exact g_X6_isSo_12 q101 q111 q125 q126 q128
        exact tt_ireturn dX6_isSo_191 .boolean rfl rfl (hP _ _ _ _ ⟨hG, hA, Or.inl ⟨_, rfl, ⟨_, rfl, rg_w (⟨by decide, by decide⟩ : Rg 1 1 1)⟩, ⟨rfl, congrArg (fun q => some (Value.int q)) hF.symm⟩, rfl, rfl⟩⟩)
    · skip
      have h131 : Rg 0 0 (x1 &&& 1) := rg_eq_l (rg_and (x := x1) (⟨by decide, by decide⟩ : Rg 1 1 1)) (⟨by decide, by decide⟩ : Rg 0 0 0) q126
      refine tt_iconst (v := 1) dX6_isSo_178 rfl ?_
      refine tt_goto (tgt := 183) dX6_isSo_179 rfl ?_
      refine tt_icmp_ne (tgt := 190) dX6_isSo_183 rfl (fun q132 => ?_) (fun q132 => ?_)
      · skip
        have h133 : Rg 0 0 (r4 (QC S o0 hd)) := rg_ne_hi (gi_I (k := 392) hG h0 0 1) (⟨by decide, by decide⟩ : Rg 1 1 1) q132
        refine tt_iconst (v := 0) dX6_isSo_190 rfl ?_
        have hF : G_X6_isSo (AC S i1) (QC S o0 hd) x1 = 0 := by
          exact g_X6_isSo_11 q101 q111 q125 q126 q132
        exact tt_ireturn dX6_isSo_191 .boolean rfl rfl (hP _ _ _ _ ⟨hG, hA, Or.inl ⟨_, rfl, ⟨_, rfl, rg_w (⟨by decide, by decide⟩ : Rg 0 0 0)⟩, ⟨rfl, congrArg (fun q => some (Value.int q)) hF.symm⟩, rfl, rfl⟩⟩)
      · skip
        have h134 : Rg 1 1 (r4 (QC S o0 hd)) := rg_eq_l (gi_I (k := 392) hG h0 0 1) (⟨by decide, by decide⟩ : Rg 1 1 1) q132
        refine tt_iconst (v := 1) dX6_isSo_186 rfl ?_
        refine tt_goto (tgt := 191) dX6_isSo_187 rfl ?_
        have hF : G_X6_isSo (AC S i1) (QC S o0 hd) x1 = 1 := by
          exact g_X6_isSo_10 q101 q111 q125 q126 q132
        exact tt_ireturn dX6_isSo_191 .boolean rfl rfl (hP _ _ _ _ ⟨hG, hA, Or.inl ⟨_, rfl, ⟨_, rfl, rg_w (⟨by decide, by decide⟩ : Rg 1 1 1)⟩, ⟨rfl, congrArg (fun q => some (Value.int q)) hF.symm⟩, rfl, rfl⟩⟩)
  refine gt_by (c := (x1 &&& 14) = 3) (fun q135 => ?_) (fun q135 => ?_)
  · skip
    refine gt_tseqL (off := 143) (tgt := 147) 3 3 dX6_isSo_4 sl_X6_isSo_4 q135 rfl (by decide) (by decide) rfl rfl ?_
    refine tt_aload_n (j := 0) dX6_isSo_147 rfl ?_
    refine gt_gI (id := 390) (v := (r2 (QC S o0 hd))) dX6_isSo_148 fl_6_85 rfl rfl h0 hA (tC_390 (T := S) (o := o0) (a := hd) rfl) ?_
    refine tt_if_ne (tgt := 165) dX6_isSo_151 rfl (fun q136 => ?_) (fun q136 => ?_)
    · skip
      have h137 : Rg 1 1 (r2 (QC S o0 hd)) := rg_ne_lo (gi_I (k := 390) hG h0 0 1) (⟨by decide, by decide⟩ : Rg 0 0 0) q136
      refine tt_iconst (v := 1) dX6_isSo_165 rfl ?_
      refine tt_goto (tgt := 170) dX6_isSo_166 rfl ?_
      refine tt_istore_n (ks := [0, 1, 2]) (L' := [(2, .int 1), (0, .ref o0), (1, .int x1)]) dX6_isSo_170 (by decide) rfl ?_
      refine tt_iload_n (j := 0) dX6_isSo_171 rfl ?_
      refine tt_iload_n (j := 2) dX6_isSo_172 rfl ?_
      refine tt_iconst (v := 1) dX6_isSo_173 rfl ?_
      refine tt_iand dX6_isSo_174 ?_
      refine tt_if_ne (tgt := 182) dX6_isSo_175 rfl (fun q138 => ?_) (fun q138 => ?_)
      · skip
        have h139 : Rg 1 1 (x1 &&& 1) := rg_ne_lo (rg_and (x := x1) (⟨by decide, by decide⟩ : Rg 1 1 1)) (⟨by decide, by decide⟩ : Rg 0 0 0) q138
        refine tt_iconst (v := 0) dX6_isSo_182 rfl ?_
        refine tt_icmp_ne (tgt := 190) dX6_isSo_183 rfl (fun _ => ?_) (fun q => absurd q (by decide))
        refine tt_iconst (v := 0) dX6_isSo_190 rfl ?_
        have hF : G_X6_isSo (AC S i1) (QC S o0 hd) x1 = 0 := by
          exact g_X6_isSo_19 q101 q111 q125 q135 q136 q138
        exact tt_ireturn dX6_isSo_191 .boolean rfl rfl (hP _ _ _ _ ⟨hG, hA, Or.inl ⟨_, rfl, ⟨_, rfl, rg_w (⟨by decide, by decide⟩ : Rg 0 0 0)⟩, ⟨rfl, congrArg (fun q => some (Value.int q)) hF.symm⟩, rfl, rfl⟩⟩)
      · skip
        have h140 : Rg 0 0 (x1 &&& 1) := rg_eq_l (rg_and (x := x1) (⟨by decide, by decide⟩ : Rg 1 1 1)) (⟨by decide, by decide⟩ : Rg 0 0 0) q138
        refine tt_iconst (v := 1) dX6_isSo_178 rfl ?_
        refine tt_goto (tgt := 183) dX6_isSo_179 rfl ?_
        refine tt_icmp_ne (tgt := 190) dX6_isSo_183 rfl (fun q => absurd q (by decide)) (fun _ => ?_)
        refine tt_iconst (v := 1) dX6_isSo_186 rfl ?_
        refine tt_goto (tgt := 191) dX6_isSo_187 rfl ?_
        have hF : G_X6_isSo (AC S i1) (QC S o0 hd) x1 = 1 := by
          exact g_X6_isSo_18 q101 q111 q125 q135 q136 q138
        exact tt_ireturn dX6_isSo_191 .boolean rfl rfl (hP _ _ _ _ ⟨hG, hA, Or.inl ⟨_, rfl, ⟨_, rfl, rg_w (⟨by decide, by decide⟩ : Rg 1 1 1)⟩, ⟨rfl, congrArg (fun q => some (Value.int q)) hF.symm⟩, rfl, rfl⟩⟩)
    · skip
      have h141 : Rg 0 0 (r2 (QC S o0 hd)) := rg_eq_l (gi_I (k := 390) hG h0 0 1) (⟨by decide, by decide⟩ : Rg 0 0 0) q136
      refine tt_aload_n (j := 0) dX6_isSo_154 rfl ?_
      refine gt_gI (id := 391) (v := (r3 (QC S o0 hd))) dX6_isSo_155 fl_6_88 rfl rfl h0 hA (tC_391 (T := S) (o := o0) (a := hd) rfl) ?_
      refine tt_aload_n (j := 0) dX6_isSo_158 rfl ?_
      refine gt_gI (id := 393) (v := (r5 (QC S o0 hd))) dX6_isSo_159 fl_6_79 rfl rfl h0 hA (tC_393 (T := S) (o := o0) (a := hd) rfl) ?_
      refine tt_icmp_eq (tgt := 169) dX6_isSo_162 rfl (fun q142 => ?_) (fun q142 => ?_)
      · skip
        refine tt_iconst (v := 0) dX6_isSo_169 rfl ?_
        refine tt_istore_n (ks := [0, 1, 2]) (L' := [(2, .int 0), (0, .ref o0), (1, .int x1)]) dX6_isSo_170 (by decide) rfl ?_
        refine tt_iload_n (j := 0) dX6_isSo_171 rfl ?_
        refine tt_iload_n (j := 2) dX6_isSo_172 rfl ?_
        refine tt_iconst (v := 1) dX6_isSo_173 rfl ?_
        refine tt_iand dX6_isSo_174 ?_
        refine tt_if_ne (tgt := 182) dX6_isSo_175 rfl (fun q143 => ?_) (fun q143 => ?_)
        · skip
          have h144 : Rg 1 1 (x1 &&& 1) := rg_ne_lo (rg_and (x := x1) (⟨by decide, by decide⟩ : Rg 1 1 1)) (⟨by decide, by decide⟩ : Rg 0 0 0) q143
          refine tt_iconst (v := 0) dX6_isSo_182 rfl ?_
          refine tt_icmp_ne (tgt := 190) dX6_isSo_183 rfl (fun q => absurd q (by decide)) (fun _ => ?_)
          refine tt_iconst (v := 1) dX6_isSo_186 rfl ?_
          refine tt_goto (tgt := 191) dX6_isSo_187 rfl ?_
          have hF : G_X6_isSo (AC S i1) (QC S o0 hd) x1 = 1 := by
            exact g_X6_isSo_15 q101 q111 q125 q135 q136 q142 q143
          exact tt_ireturn dX6_isSo_191 .boolean rfl rfl (hP _ _ _ _ ⟨hG, hA, Or.inl ⟨_, rfl, ⟨_, rfl, rg_w (⟨by decide, by decide⟩ : Rg 1 1 1)⟩, ⟨rfl, congrArg (fun q => some (Value.int q)) hF.symm⟩, rfl, rfl⟩⟩)
        · skip
          have h145 : Rg 0 0 (x1 &&& 1) := rg_eq_l (rg_and (x := x1) (⟨by decide, by decide⟩ : Rg 1 1 1)) (⟨by decide, by decide⟩ : Rg 0 0 0) q143
          refine tt_iconst (v := 1) dX6_isSo_178 rfl ?_
          refine tt_goto (tgt := 183) dX6_isSo_179 rfl ?_
          refine tt_icmp_ne (tgt := 190) dX6_isSo_183 rfl (fun _ => ?_) (fun q => absurd q (by decide))
          refine tt_iconst (v := 0) dX6_isSo_190 rfl ?_
          have hF : G_X6_isSo (AC S i1) (QC S o0 hd) x1 = 0 := by
            exact g_X6_isSo_14 q101 q111 q125 q135 q136 q142 q143
          exact tt_ireturn dX6_isSo_191 .boolean rfl rfl (hP _ _ _ _ ⟨hG, hA, Or.inl ⟨_, rfl, ⟨_, rfl, rg_w (⟨by decide, by decide⟩ : Rg 0 0 0)⟩, ⟨rfl, congrArg (fun q => some (Value.int q)) hF.symm⟩, rfl, rfl⟩⟩)
      · skip
        refine tt_iconst (v := 1) dX6_isSo_165 rfl ?_
        refine tt_goto (tgt := 170) dX6_isSo_166 rfl ?_
        refine tt_istore_n (ks := [0, 1, 2]) (L' := [(2, .int 1), (0, .ref o0), (1, .int x1)]) dX6_isSo_170 (by decide) rfl ?_
        refine tt_iload_n (j := 0) dX6_isSo_171 rfl ?_
        refine tt_iload_n (j := 2) dX6_isSo_172 rfl ?_
        refine tt_iconst (v := 1) dX6_isSo_173 rfl ?_
        refine tt_iand dX6_isSo_174 ?_
        refine tt_if_ne (tgt := 182) dX6_isSo_175 rfl (fun q146 => ?_) (fun q146 => ?_)
        · skip
          have h147 : Rg 1 1 (x1 &&& 1) := rg_ne_lo (rg_and (x := x1) (⟨by decide, by decide⟩ : Rg 1 1 1)) (⟨by decide, by decide⟩ : Rg 0 0 0) q146
          refine tt_iconst (v := 0) dX6_isSo_182 rfl ?_
          refine tt_icmp_ne (tgt := 190) dX6_isSo_183 rfl (fun _ => ?_) (fun q => absurd q (by decide))
          refine tt_iconst (v := 0) dX6_isSo_190 rfl ?_
          have hF : G_X6_isSo (AC S i1) (QC S o0 hd) x1 = 0 := by
            exact g_X6_isSo_17 q101 q111 q125 q135 q136 q142 q146
          exact tt_ireturn dX6_isSo_191 .boolean rfl rfl (hP _ _ _ _ ⟨hG, hA, Or.inl ⟨_, rfl, ⟨_, rfl, rg_w (⟨by decide, by decide⟩ : Rg 0 0 0)⟩, ⟨rfl, congrArg (fun q => some (Value.int q)) hF.symm⟩, rfl, rfl⟩⟩)
        · skip
          have h148 : Rg 0 0 (x1 &&& 1) := rg_eq_l (rg_and (x := x1) (⟨by decide, by decide⟩ : Rg 1 1 1)) (⟨by decide, by decide⟩ : Rg 0 0 0) q146
          refine tt_iconst (v := 1) dX6_isSo_178 rfl ?_
          refine tt_goto (tgt := 183) dX6_isSo_179 rfl ?_
          refine tt_icmp_ne (tgt := 190) dX6_isSo_183 rfl (fun q => absurd q (by decide)) (fun _ => ?_)
          refine tt_iconst (v := 1) dX6_isSo_186 rfl ?_
          refine tt_goto (tgt := 191) dX6_isSo_187 rfl ?_
          have hF : G_X6_isSo (AC S i1) (QC S o0 hd) x1 = 1 := by
            exact g_X6_isSo_16 q101 q111 q125 q135 q136 q142 q146
          exact tt_ireturn dX6_isSo_191 .boolean rfl rfl (hP _ _ _ _ ⟨hG, hA, Or.inl ⟨_, rfl, ⟨_, rfl, rg_w (⟨by decide, by decide⟩ : Rg 1 1 1)⟩, ⟨rfl, congrArg (fun q => some (Value.int q)) hF.symm⟩, rfl, rfl⟩⟩)
  refine gt_by (c := (x1 &&& 14) = 4) (fun q149 => ?_) (fun q149 => ?_)
  · skip
    refine gt_tseqL (off := 84) (tgt := 88) 4 4 dX6_isSo_4 sl_X6_isSo_4 q149 rfl (by decide) (by decide) rfl rfl ?_
    refine tt_aload_n (j := 0) dX6_isSo_88 rfl ?_
    refine gt_gI (id := 390) (v := (r2 (QC S o0 hd))) dX6_isSo_89 fl_6_85 rfl rfl h0 hA (tC_390 (T := S) (o := o0) (a := hd) rfl) ?_
    refine tt_istore_n (ks := [0, 1, 2]) (L' := [(2, .int (r2 (QC S o0 hd))), (0, .ref o0), (1, .int x1)]) dX6_isSo_92 (by decide) rfl ?_
    refine tt_goto (tgt := 171) dX6_isSo_93 rfl ?_
    refine tt_iload_n (j := 0) dX6_isSo_171 rfl ?_
    refine tt_iload_n (j := 2) dX6_isSo_172 rfl ?_
    refine tt_iconst (v := 1) dX6_isSo_173 rfl ?_
    refine tt_iand dX6_isSo_174 ?_
    refine tt_if_ne (tgt := 182) dX6_isSo_175 rfl (fun q150 => ?_) (fun q150 => ?_)
    · skip
      have h151 : Rg 1 1 (x1 &&& 1) := rg_ne_lo (rg_and (x := x1) (⟨by decide, by decide⟩ : Rg 1 1 1)) (⟨by decide, by decide⟩ : Rg 0 0 0) q150
      refine tt_iconst (v := 0) dX6_isSo_182 rfl ?_
      refine tt_icmp_ne (tgt := 190) dX6_isSo_183 rfl (fun q152 => ?_) (fun q152 => ?_)
      · skip
        have h153 : Rg 1 1 (r2 (QC S o0 hd)) := rg_ne_lo (gi_I (k := 390) hG h0 0 1) (⟨by decide, by decide⟩ : Rg 0 0 0) q152
        refine tt_iconst (v := 0) dX6_isSo_190 rfl ?_
        have hF : G_X6_isSo (AC S i1) (QC S o0 hd) x1 = 0 := by
          exact g_X6_isSo_23 q101 q111 q125 q135 q149 q150 q152
        exact tt_ireturn dX6_isSo_191 .boolean rfl rfl (hP _ _ _ _ ⟨hG, hA, Or.inl ⟨_, rfl, ⟨_, rfl, rg_w (⟨by decide, by decide⟩ : Rg 0 0 0)⟩, ⟨rfl, congrArg (fun q => some (Value.int q)) hF.symm⟩, rfl, rfl⟩⟩)
      · skip
        have h154 : Rg 0 0 (r2 (QC S o0 hd)) := rg_eq_l (gi_I (k := 390) hG h0 0 1) (⟨by decide, by decide⟩ : Rg 0 0 0) q152
        refine tt_iconst (v := 1) dX6_isSo_186 rfl ?_
        refine tt_goto (tgt := 191) dX6_isSo_187 rfl ?_
        have hF : G_X6_isSo (AC S i1) (QC S o0 hd) x1 = 1 := by
          exact g_X6_isSo_22 q101 q111 q125 q135 q149 q150 q152
        exact tt_ireturn dX6_isSo_191 .boolean rfl rfl (hP _ _ _ _ ⟨hG, hA, Or.inl ⟨_, rfl, ⟨_, rfl, rg_w (⟨by decide, by decide⟩ : Rg 1 1 1)⟩, ⟨rfl, congrArg (fun q => some (Value.int q)) hF.symm⟩, rfl, rfl⟩⟩)
    · skip
      have h155 : Rg 0 0 (x1 &&& 1) := rg_eq_l (rg_and (x := x1) (⟨by decide, by decide⟩ : Rg 1 1 1)) (⟨by decide, by decide⟩ : Rg 0 0 0) q150
      refine tt_iconst (v := 1) dX6_isSo_178 rfl ?_
      refine tt_goto (tgt := 183) dX6_isSo_179 rfl ?_
      refine tt_icmp_ne (tgt := 190) dX6_isSo_183 rfl (fun q156 => ?_) (fun q156 => ?_)
      · skip
        have h157 : Rg 0 0 (r2 (QC S o0 hd)) := rg_ne_hi (gi_I (k := 390) hG h0 0 1) (⟨by decide, by decide⟩ : Rg 1 1 1) q156
        refine tt_iconst (v := 0) dX6_isSo_190 rfl ?_
        have hF : G_X6_isSo (AC S i1) (QC S o0 hd) x1 = 0 := by
          exact g_X6_isSo_21 q101 q111 q125 q135 q149 q150 q156
        exact tt_ireturn dX6_isSo_191 .boolean rfl rfl (hP _ _ _ _ ⟨hG, hA, Or.inl ⟨_, rfl, ⟨_, rfl, rg_w (⟨by decide, by decide⟩ : Rg 0 0 0)⟩, ⟨rfl, congrArg (fun q => some (Value.int q)) hF.symm⟩, rfl, rfl⟩⟩)
      · skip
        have h158 : Rg 1 1 (r2 (QC S o0 hd)) := rg_eq_l (gi_I (k := 390) hG h0 0 1) (⟨by decide, by decide⟩ : Rg 1 1 1) q156
        refine tt_iconst (v := 1) dX6_isSo_186 rfl ?_
        refine tt_goto (tgt := 191) dX6_isSo_187 rfl ?_
        have hF : G_X6_isSo (AC S i1) (QC S o0 hd) x1 = 1 := by
          exact g_X6_isSo_20 q101 q111 q125 q135 q149 q150 q156
        exact tt_ireturn dX6_isSo_191 .boolean rfl rfl (hP _ _ _ _ ⟨hG, hA, Or.inl ⟨_, rfl, ⟨_, rfl, rg_w (⟨by decide, by decide⟩ : Rg 1 1 1)⟩, ⟨rfl, congrArg (fun q => some (Value.int q)) hF.symm⟩, rfl, rfl⟩⟩)
  refine gt_by (c := (x1 &&& 14) = 5) (fun q159 => ?_) (fun q159 => ?_)
  · skip
    refine gt_tseqL (off := 143) (tgt := 147) 5 5 dX6_isSo_4 sl_X6_isSo_4 q159 rfl (by decide) (by decide) rfl rfl ?_
    refine tt_aload_n (j := 0) dX6_isSo_147 rfl ?_
    refine gt_gI (id := 390) (v := (r2 (QC S o0 hd))) dX6_isSo_148 fl_6_85 rfl rfl h0 hA (tC_390 (T := S) (o := o0) (a := hd) rfl) ?_
    refine tt_if_ne (tgt := 165) dX6_isSo_151 rfl (fun q160 => ?_) (fun q160 => ?_)
    · skip
      have h161 : Rg 1 1 (r2 (QC S o0 hd)) := rg_ne_lo (gi_I (k := 390) hG h0 0 1) (⟨by decide, by decide⟩ : Rg 0 0 0) q160
      refine tt_iconst (v := 1) dX6_isSo_165 rfl ?_
      refine tt_goto (tgt := 170) dX6_isSo_166 rfl ?_
      refine tt_istore_n (ks := [0, 1, 2]) (L' := [(2, .int 1), (0, .ref o0), (1, .int x1)]) dX6_isSo_170 (by decide) rfl ?_
      refine tt_iload_n (j := 0) dX6_isSo_171 rfl ?_
      refine tt_iload_n (j := 2) dX6_isSo_172 rfl ?_
      refine tt_iconst (v := 1) dX6_isSo_173 rfl ?_
      refine tt_iand dX6_isSo_174 ?_
      refine tt_if_ne (tgt := 182) dX6_isSo_175 rfl (fun q162 => ?_) (fun q162 => ?_)
      · skip
        have h163 : Rg 1 1 (x1 &&& 1) := rg_ne_lo (rg_and (x := x1) (⟨by decide, by decide⟩ : Rg 1 1 1)) (⟨by decide, by decide⟩ : Rg 0 0 0) q162
        refine tt_iconst (v := 0) dX6_isSo_182 rfl ?_
        refine tt_icmp_ne (tgt := 190) dX6_isSo_183 rfl (fun _ => ?_) (fun q => absurd q (by decide))
        refine tt_iconst (v := 0) dX6_isSo_190 rfl ?_
        have hF : G_X6_isSo (AC S i1) (QC S o0 hd) x1 = 0 := by
          exact g_X6_isSo_29 q101 q111 q125 q135 q149 q159 q160 q162
        exact tt_ireturn dX6_isSo_191 .boolean rfl rfl (hP _ _ _ _ ⟨hG, hA, Or.inl ⟨_, rfl, ⟨_, rfl, rg_w (⟨by decide, by decide⟩ : Rg 0 0 0)⟩, ⟨rfl, congrArg (fun q => some (Value.int q)) hF.symm⟩, rfl, rfl⟩⟩)
      · skip
        have h164 : Rg 0 0 (x1 &&& 1) := rg_eq_l (rg_and (x := x1) (⟨by decide, by decide⟩ : Rg 1 1 1)) (⟨by decide, by decide⟩ : Rg 0 0 0) q162
        refine tt_iconst (v := 1) dX6_isSo_178 rfl ?_
        refine tt_goto (tgt := 183) dX6_isSo_179 rfl ?_
        refine tt_icmp_ne (tgt := 190) dX6_isSo_183 rfl (fun q => absurd q (by decide)) (fun _ => ?_)
        refine tt_iconst (v := 1) dX6_isSo_186 rfl ?_
        refine tt_goto (tgt := 191) dX6_isSo_187 rfl ?_
        have hF : G_X6_isSo (AC S i1) (QC S o0 hd) x1 = 1 := by
          exact g_X6_isSo_28 q101 q111 q125 q135 q149 q159 q160 q162
        exact tt_ireturn dX6_isSo_191 .boolean rfl rfl (hP _ _ _ _ ⟨hG, hA, Or.inl ⟨_, rfl, ⟨_, rfl, rg_w (⟨by decide, by decide⟩ : Rg 1 1 1)⟩, ⟨rfl, congrArg (fun q => some (Value.int q)) hF.symm⟩, rfl, rfl⟩⟩)
    · skip
      have h165 : Rg 0 0 (r2 (QC S o0 hd)) := rg_eq_l (gi_I (k := 390) hG h0 0 1) (⟨by decide, by decide⟩ : Rg 0 0 0) q160
      refine tt_aload_n (j := 0) dX6_isSo_154 rfl ?_
      refine gt_gI (id := 391) (v := (r3 (QC S o0 hd))) dX6_isSo_155 fl_6_88 rfl rfl h0 hA (tC_391 (T := S) (o := o0) (a := hd) rfl) ?_
      refine tt_aload_n (j := 0) dX6_isSo_158 rfl ?_
      refine gt_gI (id := 393) (v := (r5 (QC S o0 hd))) dX6_isSo_159 fl_6_79 rfl rfl h0 hA (tC_393 (T := S) (o := o0) (a := hd) rfl) ?_
      refine tt_icmp_eq (tgt := 169) dX6_isSo_162 rfl (fun q166 => ?_) (fun q166 => ?_)
      · skip
        refine tt_iconst (v := 0) dX6_isSo_169 rfl ?_
        refine tt_istore_n (ks := [0, 1, 2]) (L' := [(2, .int 0), (0, .ref o0), (1, .int x1)]) dX6_isSo_170 (by decide) rfl ?_
        refine tt_iload_n (j := 0) dX6_isSo_171 rfl ?_
        refine tt_iload_n (j := 2) dX6_isSo_172 rfl ?_
        refine tt_iconst (v := 1) dX6_isSo_173 rfl ?_
        refine tt_iand dX6_isSo_174 ?_
        refine tt_if_ne (tgt := 182) dX6_isSo_175 rfl (fun q167 => ?_) (fun q167 => ?_)
        · skip
          have h168 : Rg 1 1 (x1 &&& 1) := rg_ne_lo (rg_and (x := x1) (⟨by decide, by decide⟩ : Rg 1 1 1)) (⟨by decide, by decide⟩ : Rg 0 0 0) q167
          refine tt_iconst (v := 0) dX6_isSo_182 rfl ?_
          refine tt_icmp_ne (tgt := 190) dX6_isSo_183 rfl (fun q => absurd q (by decide)) (fun _ => ?_)
          refine tt_iconst (v := 1) dX6_isSo_186 rfl ?_
          refine tt_goto (tgt := 191) dX6_isSo_187 rfl ?_
          have hF : G_X6_isSo (AC S i1) (QC S o0 hd) x1 = 1 := by
            exact g_X6_isSo_25 q101 q111 q125 q135 q149 q159 q160 q166 q167
          exact tt_ireturn dX6_isSo_191 .boolean rfl rfl (hP _ _ _ _ ⟨hG, hA, Or.inl ⟨_, rfl, ⟨_, rfl, rg_w (⟨by decide, by decide⟩ : Rg 1 1 1)⟩, ⟨rfl, congrArg (fun q => some (Value.int q)) hF.symm⟩, rfl, rfl⟩⟩)
        · skip
          have h169 : Rg 0 0 (x1 &&& 1) := rg_eq_l (rg_and (x := x1) (⟨by decide, by decide⟩ : Rg 1 1 1)) (⟨by decide, by decide⟩ : Rg 0 0 0) q167
          refine tt_iconst (v := 1) dX6_isSo_178 rfl ?_
          refine tt_goto (tgt := 183) dX6_isSo_179 rfl ?_
          refine tt_icmp_ne (tgt := 190) dX6_isSo_183 rfl (fun _ => ?_) (fun q => absurd q (by decide))
          refine tt_iconst (v := 0) dX6_isSo_190 rfl ?_
          have hF : G_X6_isSo (AC S i1) (QC S o0 hd) x1 = 0 := by
            exact g_X6_isSo_24 q101 q111 q125 q135 q149 q159 q160 q166 q167
          exact tt_ireturn dX6_isSo_191 .boolean rfl rfl (hP _ _ _ _ ⟨hG, hA, Or.inl ⟨_, rfl, ⟨_, rfl, rg_w (⟨by decide, by decide⟩ : Rg 0 0 0)⟩, ⟨rfl, congrArg (fun q => some (Value.int q)) hF.symm⟩, rfl, rfl⟩⟩)
      · skip
        refine tt_iconst (v := 1) dX6_isSo_165 rfl ?_
        refine tt_goto (tgt := 170) dX6_isSo_166 rfl ?_
        refine tt_istore_n (ks := [0, 1, 2]) (L' := [(2, .int 1), (0, .ref o0), (1, .int x1)]) dX6_isSo_170 (by decide) rfl ?_
        refine tt_iload_n (j := 0) dX6_isSo_171 rfl ?_
        refine tt_iload_n (j := 2) dX6_isSo_172 rfl ?_
        refine tt_iconst (v := 1) dX6_isSo_173 rfl ?_
        refine tt_iand dX6_isSo_174 ?_
        refine tt_if_ne (tgt := 182) dX6_isSo_175 rfl (fun q170 => ?_) (fun q170 => ?_)
        · skip
          have h171 : Rg 1 1 (x1 &&& 1) := rg_ne_lo (rg_and (x := x1) (⟨by decide, by decide⟩ : Rg 1 1 1)) (⟨by decide, by decide⟩ : Rg 0 0 0) q170
          refine tt_iconst (v := 0) dX6_isSo_182 rfl ?_
          refine tt_icmp_ne (tgt := 190) dX6_isSo_183 rfl (fun _ => ?_) (fun q => absurd q (by decide))
          refine tt_iconst (v := 0) dX6_isSo_190 rfl ?_
          have hF : G_X6_isSo (AC S i1) (QC S o0 hd) x1 = 0 := by
            exact g_X6_isSo_27 q101 q111 q125 q135 q149 q159 q160 q166 q170
          exact tt_ireturn dX6_isSo_191 .boolean rfl rfl (hP _ _ _ _ ⟨hG, hA, Or.inl ⟨_, rfl, ⟨_, rfl, rg_w (⟨by decide, by decide⟩ : Rg 0 0 0)⟩, ⟨rfl, congrArg (fun q => some (Value.int q)) hF.symm⟩, rfl, rfl⟩⟩)
        · skip
          have h172 : Rg 0 0 (x1 &&& 1) := rg_eq_l (rg_and (x := x1) (⟨by decide, by decide⟩ : Rg 1 1 1)) (⟨by decide, by decide⟩ : Rg 0 0 0) q170
          refine tt_iconst (v := 1) dX6_isSo_178 rfl ?_
          refine tt_goto (tgt := 183) dX6_isSo_179 rfl ?_
          refine tt_icmp_ne (tgt := 190) dX6_isSo_183 rfl (fun q => absurd q (by decide)) (fun _ => ?_)
          refine tt_iconst (v := 1) dX6_isSo_186 rfl ?_
          refine tt_goto (tgt := 191) dX6_isSo_187 rfl ?_
          have hF : G_X6_isSo (AC S i1) (QC S o0 hd) x1 = 1 := by
            exact g_X6_isSo_26 q101 q111 q125 q135 q149 q159 q160 q166 q170
          exact tt_ireturn dX6_isSo_191 .boolean rfl rfl (hP _ _ _ _ ⟨hG, hA, Or.inl ⟨_, rfl, ⟨_, rfl, rg_w (⟨by decide, by decide⟩ : Rg 1 1 1)⟩, ⟨rfl, congrArg (fun q => some (Value.int q)) hF.symm⟩, rfl, rfl⟩⟩)
  refine gt_by (c := (x1 &&& 14) = 6) (fun q173 => ?_) (fun q173 => ?_)
  · skip
    refine gt_tseqL (off := 92) (tgt := 96) 6 6 dX6_isSo_4 sl_X6_isSo_4 q173 rfl (by decide) (by decide) rfl rfl ?_
    refine tt_aload_n (j := 0) dX6_isSo_96 rfl ?_
    refine gt_gI (id := 392) (v := (r4 (QC S o0 hd))) dX6_isSo_97 fl_6_82 rfl rfl h0 hA (tC_392 (T := S) (o := o0) (a := hd) rfl) ?_
    refine tt_if_ne (tgt := 110) dX6_isSo_100 rfl (fun q174 => ?_) (fun q174 => ?_)
    · skip
      have h175 : Rg 1 1 (r4 (QC S o0 hd)) := rg_ne_lo (gi_I (k := 392) hG h0 0 1) (⟨by decide, by decide⟩ : Rg 0 0 0) q174
      refine tt_iconst (v := 1) dX6_isSo_110 rfl ?_
      refine tt_goto (tgt := 115) dX6_isSo_111 rfl ?_
      refine tt_istore_n (ks := [0, 1, 2]) (L' := [(2, .int 1), (0, .ref o0), (1, .int x1)]) dX6_isSo_115 (by decide) rfl ?_
      refine tt_goto (tgt := 171) dX6_isSo_116 rfl ?_
      refine tt_iload_n (j := 0) dX6_isSo_171 rfl ?_
      refine tt_iload_n (j := 2) dX6_isSo_172 rfl ?_
      refine tt_iconst (v := 1) dX6_isSo_173 rfl ?_
      refine tt_iand dX6_isSo_174 ?_
      refine tt_if_ne (tgt := 182) dX6_isSo_175 rfl (fun q176 => ?_) (fun q176 => ?_)
      · skip
        have h177 : Rg 1 1 (x1 &&& 1) := rg_ne_lo (rg_and (x := x1) (⟨by decide, by decide⟩ : Rg 1 1 1)) (⟨by decide, by decide⟩ : Rg 0 0 0) q176
        refine tt_iconst (v := 0) dX6_isSo_182 rfl ?_
        refine tt_icmp_ne (tgt := 190) dX6_isSo_183 rfl (fun _ => ?_) (fun q => absurd q (by decide))
        refine tt_iconst (v := 0) dX6_isSo_190 rfl ?_
        have hF : G_X6_isSo (AC S i1) (QC S o0 hd) x1 = 0 := by
          exact g_X6_isSo_35 q101 q111 q125 q135 q149 q159 q173 q174 q176
        exact tt_ireturn dX6_isSo_191 .boolean rfl rfl (hP _ _ _ _ ⟨hG, hA, Or.inl ⟨_, rfl, ⟨_, rfl, rg_w (⟨by decide, by decide⟩ : Rg 0 0 0)⟩, ⟨rfl, congrArg (fun q => some (Value.int q)) hF.symm⟩, rfl, rfl⟩⟩)
      · skip
        have h178 : Rg 0 0 (x1 &&& 1) := rg_eq_l (rg_and (x := x1) (⟨by decide, by decide⟩ : Rg 1 1 1)) (⟨by decide, by decide⟩ : Rg 0 0 0) q176
        refine tt_iconst (v := 1) dX6_isSo_178 rfl ?_
        refine tt_goto (tgt := 183) dX6_isSo_179 rfl ?_
        refine tt_icmp_ne (tgt := 190) dX6_isSo_183 rfl (fun q => absurd q (by decide)) (fun _ => ?_)
        refine tt_iconst (v := 1) dX6_isSo_186 rfl ?_
        refine tt_goto (tgt := 191) dX6_isSo_187 rfl ?_
        have hF : G_X6_isSo (AC S i1) (QC S o0 hd) x1 = 1 := by
          exact g_X6_isSo_34 q101 q111 q125 q135 q149 q159 q173 q174 q176
        exact tt_ireturn dX6_isSo_191 .boolean rfl rfl (hP _ _ _ _ ⟨hG, hA, Or.inl ⟨_, rfl, ⟨_, rfl, rg_w (⟨by decide, by decide⟩ : Rg 1 1 1)⟩, ⟨rfl, congrArg (fun q => some (Value.int q)) hF.symm⟩, rfl, rfl⟩⟩)
    · skip
      have h179 : Rg 0 0 (r4 (QC S o0 hd)) := rg_eq_l (gi_I (k := 392) hG h0 0 1) (⟨by decide, by decide⟩ : Rg 0 0 0) q174
      refine tt_aload_n (j := 0) dX6_isSo_103 rfl ?_
      refine gt_gI (id := 390) (v := (r2 (QC S o0 hd))) dX6_isSo_104 fl_6_85 rfl rfl h0 hA (tC_390 (T := S) (o := o0) (a := hd) rfl) ?_
      refine tt_if_eq (tgt := 114) dX6_isSo_107 rfl (fun q180 => ?_) (fun q180 => ?_)
      · skip
        have h181 : Rg 0 0 (r2 (QC S o0 hd)) := rg_eq_l (gi_I (k := 390) hG h0 0 1) (⟨by decide, by decide⟩ : Rg 0 0 0) q180
        refine tt_iconst (v := 0) dX6_isSo_114 rfl ?_
        refine tt_istore_n (ks := [0, 1, 2]) (L' := [(2, .int 0), (0, .ref o0), (1, .int x1)]) dX6_isSo_115 (by decide) rfl ?_
        refine tt_goto (tgt := 171) dX6_isSo_116 rfl ?_
        refine tt_iload_n (j := 0) dX6_isSo_171 rfl ?_
        refine tt_iload_n (j := 2) dX6_isSo_172 rfl ?_
        refine tt_iconst (v := 1) dX6_isSo_173 rfl ?_
        refine tt_iand dX6_isSo_174 ?_
        refine tt_if_ne (tgt := 182) dX6_isSo_175 rfl (fun q182 => ?_) (fun q182 => ?_)
        · skip
          have h183 : Rg 1 1 (x1 &&& 1) := rg_ne_lo (rg_and (x := x1) (⟨by decide, by decide⟩ : Rg 1 1 1)) (⟨by decide, by decide⟩ : Rg 0 0 0) q182
          refine tt_iconst (v := 0) dX6_isSo_182 rfl ?_
          refine tt_icmp_ne (tgt := 190) dX6_isSo_183 rfl (fun q => absurd q (by decide)) (fun _ => ?_)
          refine tt_iconst (v := 1) dX6_isSo_186 rfl ?_
          refine tt_goto (tgt := 191) dX6_isSo_187 rfl ?_
          have hF : G_X6_isSo (AC S i1) (QC S o0 hd) x1 = 1 := by
            exact g_X6_isSo_31 q101 q111 q125 q135 q149 q159 q173 q174 q180 q182
          exact tt_ireturn dX6_isSo_191 .boolean rfl rfl (hP _ _ _ _ ⟨hG, hA, Or.inl ⟨_, rfl, ⟨_, rfl, rg_w (⟨by decide, by decide⟩ : Rg 1 1 1)⟩, ⟨rfl, congrArg (fun q => some (Value.int q)) hF.symm⟩, rfl, rfl⟩⟩)
        · skip
          have h184 : Rg 0 0 (x1 &&& 1) := rg_eq_l (rg_and (x := x1) (⟨by decide, by decide⟩ : Rg 1 1 1)) (⟨by decide, by decide⟩ : Rg 0 0 0) q182
          refine tt_iconst (v := 1) dX6_isSo_178 rfl ?_
          refine tt_goto (tgt := 183) dX6_isSo_179 rfl ?_
          refine tt_icmp_ne (tgt := 190) dX6_isSo_183 rfl (fun _ => ?_) (fun q => absurd q (by decide))
          refine tt_iconst (v := 0) dX6_isSo_190 rfl ?_
          have hF : G_X6_isSo (AC S i1) (QC S o0 hd) x1 = 0 := by
            exact g_X6_isSo_30 q101 q111 q125 q135 q149 q159 q173 q174 q180 q182
          exact tt_ireturn dX6_isSo_191 .boolean rfl rfl (hP _ _ _ _ ⟨hG, hA, Or.inl ⟨_, rfl, ⟨_, rfl, rg_w (⟨by decide, by decide⟩ : Rg 0 0 0)⟩, ⟨rfl, congrArg (fun q => some (Value.int q)) hF.symm⟩, rfl, rfl⟩⟩)
      · skip
        have h185 : Rg 1 1 (r2 (QC S o0 hd)) := rg_ne_lo (gi_I (k := 390) hG h0 0 1) (⟨by decide, by decide⟩ : Rg 0 0 0) q180
        refine tt_iconst (v := 1) dX6_isSo_110 rfl ?_
        refine tt_goto (tgt := 115) dX6_isSo_111 rfl ?_
        refine tt_istore_n (ks := [0, 1, 2]) (L' := [(2, .int 1), (0, .ref o0), (1, .int x1)]) dX6_isSo_115 (by decide) rfl ?_
        refine tt_goto (tgt := 171) dX6_isSo_116 rfl ?_
        refine tt_iload_n (j := 0) dX6_isSo_171 rfl ?_
        refine tt_iload_n (j := 2) dX6_isSo_172 rfl ?_
        refine tt_iconst (v := 1) dX6_isSo_173 rfl ?_
        refine tt_iand dX6_isSo_174 ?_
        refine tt_if_ne (tgt := 182) dX6_isSo_175 rfl (fun q186 => ?_) (fun q186 => ?_)
        · skip
          have h187 : Rg 1 1 (x1 &&& 1) := rg_ne_lo (rg_and (x := x1) (⟨by decide, by decide⟩ : Rg 1 1 1)) (⟨by decide, by decide⟩ : Rg 0 0 0) q186
          refine tt_iconst (v := 0) dX6_isSo_182 rfl ?_
          refine tt_icmp_ne (tgt := 190) dX6_isSo_183 rfl (fun _ => ?_) (fun q => absurd q (by decide))
          refine tt_iconst (v := 0) dX6_isSo_190 rfl ?_
          have hF : G_X6_isSo (AC S i1) (QC S o0 hd) x1 = 0 := by
            exact g_X6_isSo_33 q101 q111 q125 q135 q149 q159 q173 q174 q180 q186
          exact tt_ireturn dX6_isSo_191 .boolean rfl rfl (hP _ _ _ _ ⟨hG, hA, Or.inl ⟨_, rfl, ⟨_, rfl, rg_w (⟨by decide, by decide⟩ : Rg 0 0 0)⟩, ⟨rfl, congrArg (fun q => some (Value.int q)) hF.symm⟩, rfl, rfl⟩⟩)
        · skip
          have h188 : Rg 0 0 (x1 &&& 1) := rg_eq_l (rg_and (x := x1) (⟨by decide, by decide⟩ : Rg 1 1 1)) (⟨by decide, by decide⟩ : Rg 0 0 0) q186
          refine tt_iconst (v := 1) dX6_isSo_178 rfl ?_
          refine tt_goto (tgt := 183) dX6_isSo_179 rfl ?_
          refine tt_icmp_ne (tgt := 190) dX6_isSo_183 rfl (fun q => absurd q (by decide)) (fun _ => ?_)
          refine tt_iconst (v := 1) dX6_isSo_186 rfl ?_
          refine tt_goto (tgt := 191) dX6_isSo_187 rfl ?_
          have hF : G_X6_isSo (AC S i1) (QC S o0 hd) x1 = 1 := by
            exact g_X6_isSo_32 q101 q111 q125 q135 q149 q159 q173 q174 q180 q186
          exact tt_ireturn dX6_isSo_191 .boolean rfl rfl (hP _ _ _ _ ⟨hG, hA, Or.inl ⟨_, rfl, ⟨_, rfl, rg_w (⟨by decide, by decide⟩ : Rg 1 1 1)⟩, ⟨rfl, congrArg (fun q => some (Value.int q)) hF.symm⟩, rfl, rfl⟩⟩)
  refine gt_by (c := (x1 &&& 14) = 7) (fun q189 => ?_) (fun q189 => ?_)
  · skip
    refine gt_tseqL (off := 143) (tgt := 147) 7 7 dX6_isSo_4 sl_X6_isSo_4 q189 rfl (by decide) (by decide) rfl rfl ?_
    refine tt_aload_n (j := 0) dX6_isSo_147 rfl ?_
    refine gt_gI (id := 390) (v := (r2 (QC S o0 hd))) dX6_isSo_148 fl_6_85 rfl rfl h0 hA (tC_390 (T := S) (o := o0) (a := hd) rfl) ?_
    refine tt_if_ne (tgt := 165) dX6_isSo_151 rfl (fun q190 => ?_) (fun q190 => ?_)
    · skip
      have h191 : Rg 1 1 (r2 (QC S o0 hd)) := rg_ne_lo (gi_I (k := 390) hG h0 0 1) (⟨by decide, by decide⟩ : Rg 0 0 0) q190
      refine tt_iconst (v := 1) dX6_isSo_165 rfl ?_
      refine tt_goto (tgt := 170) dX6_isSo_166 rfl ?_
      refine tt_istore_n (ks := [0, 1, 2]) (L' := [(2, .int 1), (0, .ref o0), (1, .int x1)]) dX6_isSo_170 (by decide) rfl ?_
      refine tt_iload_n (j := 0) dX6_isSo_171 rfl ?_
      refine tt_iload_n (j := 2) dX6_isSo_172 rfl ?_
      refine tt_iconst (v := 1) dX6_isSo_173 rfl ?_
      refine tt_iand dX6_isSo_174 ?_
      refine tt_if_ne (tgt := 182) dX6_isSo_175 rfl (fun q192 => ?_) (fun q192 => ?_)
      · skip
        have h193 : Rg 1 1 (x1 &&& 1) := rg_ne_lo (rg_and (x := x1) (⟨by decide, by decide⟩ : Rg 1 1 1)) (⟨by decide, by decide⟩ : Rg 0 0 0) q192
        refine tt_iconst (v := 0) dX6_isSo_182 rfl ?_
        refine tt_icmp_ne (tgt := 190) dX6_isSo_183 rfl (fun _ => ?_) (fun q => absurd q (by decide))
        refine tt_iconst (v := 0) dX6_isSo_190 rfl ?_
        have hF : G_X6_isSo (AC S i1) (QC S o0 hd) x1 = 0 := by
          exact g_X6_isSo_41 q101 q111 q125 q135 q149 q159 q173 q189 q190 q192
        exact tt_ireturn dX6_isSo_191 .boolean rfl rfl (hP _ _ _ _ ⟨hG, hA, Or.inl ⟨_, rfl, ⟨_, rfl, rg_w (⟨by decide, by decide⟩ : Rg 0 0 0)⟩, ⟨rfl, congrArg (fun q => some (Value.int q)) hF.symm⟩, rfl, rfl⟩⟩)
      · skip
        have h194 : Rg 0 0 (x1 &&& 1) := rg_eq_l (rg_and (x := x1) (⟨by decide, by decide⟩ : Rg 1 1 1)) (⟨by decide, by decide⟩ : Rg 0 0 0) q192
        refine tt_iconst (v := 1) dX6_isSo_178 rfl ?_
        refine tt_goto (tgt := 183) dX6_isSo_179 rfl ?_
        refine tt_icmp_ne (tgt := 190) dX6_isSo_183 rfl (fun q => absurd q (by decide)) (fun _ => ?_)
        refine tt_iconst (v := 1) dX6_isSo_186 rfl ?_
        refine tt_goto (tgt := 191) dX6_isSo_187 rfl ?_
        have hF : G_X6_isSo (AC S i1) (QC S o0 hd) x1 = 1 := by
          exact g_X6_isSo_40 q101 q111 q125 q135 q149 q159 q173 q189 q190 q192
        exact tt_ireturn dX6_isSo_191 .boolean rfl rfl (hP _ _ _ _ ⟨hG, hA, Or.inl ⟨_, rfl, ⟨_, rfl, rg_w (⟨by decide, by decide⟩ : Rg 1 1 1)⟩, ⟨rfl, congrArg (fun q => some (Value.int q)) hF.symm⟩, rfl, rfl⟩⟩)
    · skip
      have h195 : Rg 0 0 (r2 (QC S o0 hd)) := rg_eq_l (gi_I (k := 390) hG h0 0 1) (⟨by decide, by decide⟩ : Rg 0 0 0) q190
      refine tt_aload_n (j := 0) dX6_isSo_154 rfl ?_
      refine gt_gI (id := 391) (v := (r3 (QC S o0 hd))) dX6_isSo_155 fl_6_88 rfl rfl h0 hA (tC_391 (T := S) (o := o0) (a := hd) rfl) ?_
      refine tt_aload_n (j := 0) dX6_isSo_158 rfl ?_
      refine gt_gI (id := 393) (v := (r5 (QC S o0 hd))) dX6_isSo_159 fl_6_79 rfl rfl h0 hA (tC_393 (T := S) (o := o0) (a := hd) rfl) ?_
      refine tt_icmp_eq (tgt := 169) dX6_isSo_162 rfl (fun q196 => ?_) (fun q196 => ?_)
      · skip
        refine tt_iconst (v := 0) dX6_isSo_169 rfl ?_
        refine tt_istore_n (ks := [0, 1, 2]) (L' := [(2, .int 0), (0, .ref o0), (1, .int x1)]) dX6_isSo_170 (by decide) rfl ?_
        refine tt_iload_n (j := 0) dX6_isSo_171 rfl ?_
        refine tt_iload_n (j := 2) dX6_isSo_172 rfl ?_
        refine tt_iconst (v := 1) dX6_isSo_173 rfl ?_
        refine tt_iand dX6_isSo_174 ?_
        refine tt_if_ne (tgt := 182) dX6_isSo_175 rfl (fun q197 => ?_) (fun q197 => ?_)
        · skip
          have h198 : Rg 1 1 (x1 &&& 1) := rg_ne_lo (rg_and (x := x1) (⟨by decide, by decide⟩ : Rg 1 1 1)) (⟨by decide, by decide⟩ : Rg 0 0 0) q197
          refine tt_iconst (v := 0) dX6_isSo_182 rfl ?_
          refine tt_icmp_ne (tgt := 190) dX6_isSo_183 rfl (fun q => absurd q (by decide)) (fun _ => ?_)
          refine tt_iconst (v := 1) dX6_isSo_186 rfl ?_
          refine tt_goto (tgt := 191) dX6_isSo_187 rfl ?_
          have hF : G_X6_isSo (AC S i1) (QC S o0 hd) x1 = 1 := by
            exact g_X6_isSo_37 q101 q111 q125 q135 q149 q159 q173 q189 q190 q196 q197
          exact tt_ireturn dX6_isSo_191 .boolean rfl rfl (hP _ _ _ _ ⟨hG, hA, Or.inl ⟨_, rfl, ⟨_, rfl, rg_w (⟨by decide, by decide⟩ : Rg 1 1 1)⟩, ⟨rfl, congrArg (fun q => some (Value.int q)) hF.symm⟩, rfl, rfl⟩⟩)
        · skip
          have h199 : Rg 0 0 (x1 &&& 1) := rg_eq_l (rg_and (x := x1) (⟨by decide, by decide⟩ : Rg 1 1 1)) (⟨by decide, by decide⟩ : Rg 0 0 0) q197
          refine tt_iconst (v := 1) dX6_isSo_178 rfl ?_
          refine tt_goto (tgt := 183) dX6_isSo_179 rfl ?_
          refine tt_icmp_ne (tgt := 190) dX6_isSo_183 rfl (fun _ => ?_) (fun q => absurd q (by decide))
          refine tt_iconst (v := 0) dX6_isSo_190 rfl ?_
          have hF : G_X6_isSo (AC S i1) (QC S o0 hd) x1 = 0 := by
            exact g_X6_isSo_36 q101 q111 q125 q135 q149 q159 q173 q189 q190 q196 q197
          exact tt_ireturn dX6_isSo_191 .boolean rfl rfl (hP _ _ _ _ ⟨hG, hA, Or.inl ⟨_, rfl, ⟨_, rfl, rg_w (⟨by decide, by decide⟩ : Rg 0 0 0)⟩, ⟨rfl, congrArg (fun q => some (Value.int q)) hF.symm⟩, rfl, rfl⟩⟩)
      · skip
        refine tt_iconst (v := 1) dX6_isSo_165 rfl ?_
        refine tt_goto (tgt := 170) dX6_isSo_166 rfl ?_
        refine tt_istore_n (ks := [0, 1, 2]) (L' := [(2, .int 1), (0, .ref o0), (1, .int x1)]) dX6_isSo_170 (by decide) rfl ?_
        refine tt_iload_n (j := 0) dX6_isSo_171 rfl ?_
        refine tt_iload_n (j := 2) dX6_isSo_172 rfl ?_
        refine tt_iconst (v := 1) dX6_isSo_173 rfl ?_
        refine tt_iand dX6_isSo_174 ?_
        refine tt_if_ne (tgt := 182) dX6_isSo_175 rfl (fun q200 => ?_) (fun q200 => ?_)
        · skip
          have h201 : Rg 1 1 (x1 &&& 1) := rg_ne_lo (rg_and (x := x1) (⟨by decide, by decide⟩ : Rg 1 1 1)) (⟨by decide, by decide⟩ : Rg 0 0 0) q200
          refine tt_iconst (v := 0) dX6_isSo_182 rfl ?_
          refine tt_icmp_ne (tgt := 190) dX6_isSo_183 rfl (fun _ => ?_) (fun q => absurd q (by decide))
          refine tt_iconst (v := 0) dX6_isSo_190 rfl ?_
          have hF : G_X6_isSo (AC S i1) (QC S o0 hd) x1 = 0 := by
            exact g_X6_isSo_39 q101 q111 q125 q135 q149 q159 q173 q189 q190 q196 q200
          exact tt_ireturn dX6_isSo_191 .boolean rfl rfl (hP _ _ _ _ ⟨hG, hA, Or.inl ⟨_, rfl, ⟨_, rfl, rg_w (⟨by decide, by decide⟩ : Rg 0 0 0)⟩, ⟨rfl, congrArg (fun q => some (Value.int q)) hF.symm⟩, rfl, rfl⟩⟩)
        · skip
          have h202 : Rg 0 0 (x1 &&& 1) := rg_eq_l (rg_and (x := x1) (⟨by decide, by decide⟩ : Rg 1 1 1)) (⟨by decide, by decide⟩ : Rg 0 0 0) q200
          refine tt_iconst (v := 1) dX6_isSo_178 rfl ?_
          refine tt_goto (tgt := 183) dX6_isSo_179 rfl ?_
          refine tt_icmp_ne (tgt := 190) dX6_isSo_183 rfl (fun q => absurd q (by decide)) (fun _ => ?_)
          refine tt_iconst (v := 1) dX6_isSo_186 rfl ?_
          refine tt_goto (tgt := 191) dX6_isSo_187 rfl ?_
          have hF : G_X6_isSo (AC S i1) (QC S o0 hd) x1 = 1 := by
            exact g_X6_isSo_38 q101 q111 q125 q135 q149 q159 q173 q189 q190 q196 q200
          exact tt_ireturn dX6_isSo_191 .boolean rfl rfl (hP _ _ _ _ ⟨hG, hA, Or.inl ⟨_, rfl, ⟨_, rfl, rg_w (⟨by decide, by decide⟩ : Rg 1 1 1)⟩, ⟨rfl, congrArg (fun q => some (Value.int q)) hF.symm⟩, rfl, rfl⟩⟩)
  refine gt_by (c := (x1 &&& 14) = 8) (fun q203 => ?_) (fun q203 => ?_)
  · skip
    refine gt_tseqL (off := 115) (tgt := 119) 8 8 dX6_isSo_4 sl_X6_isSo_4 q203 rfl (by decide) (by decide) rfl rfl ?_
    refine tt_aload_n (j := 0) dX6_isSo_119 rfl ?_
    refine gt_gI (id := 391) (v := (r3 (QC S o0 hd))) dX6_isSo_120 fl_6_88 rfl rfl h0 hA (tC_391 (T := S) (o := o0) (a := hd) rfl) ?_
    refine tt_istore_n (ks := [0, 1, 2]) (L' := [(2, .int (r3 (QC S o0 hd))), (0, .ref o0), (1, .int x1)]) dX6_isSo_123 (by decide) rfl ?_
    refine tt_goto (tgt := 171) dX6_isSo_124 rfl ?_
    refine tt_iload_n (j := 0) dX6_isSo_171 rfl ?_
    refine tt_iload_n (j := 2) dX6_isSo_172 rfl ?_
    refine tt_iconst (v := 1) dX6_isSo_173 rfl ?_
    refine tt_iand dX6_isSo_174 ?_
    refine tt_if_ne (tgt := 182) dX6_isSo_175 rfl (fun q204 => ?_) (fun q204 => ?_)
    · skip
      have h205 : Rg 1 1 (x1 &&& 1) := rg_ne_lo (rg_and (x := x1) (⟨by decide, by decide⟩ : Rg 1 1 1)) (⟨by decide, by decide⟩ : Rg 0 0 0) q204
      refine tt_iconst (v := 0) dX6_isSo_182 rfl ?_
      refine tt_icmp_ne (tgt := 190) dX6_isSo_183 rfl (fun q206 => ?_) (fun q206 => ?_)
      · skip
        have h207 : Rg 1 1 (r3 (QC S o0 hd)) := rg_ne_lo (gi_I (k := 391) hG h0 0 1) (⟨by decide, by decide⟩ : Rg 0 0 0) q206
        refine tt_iconst (v := 0) dX6_isSo_190 rfl ?_
        have hF : G_X6_isSo (AC S i1) (QC S o0 hd) x1 = 0 := by
          exact g_X6_isSo_45 q101 q111 q125 q135 q149 q159 q173 q189 q203 q204 q206
        exact tt_ireturn dX6_isSo_191 .boolean rfl rfl (hP _ _ _ _ ⟨hG, hA, Or.inl ⟨_, rfl, ⟨_, rfl, rg_w (⟨by decide, by decide⟩ : Rg 0 0 0)⟩, ⟨rfl, congrArg (fun q => some (Value.int q)) hF.symm⟩, rfl, rfl⟩⟩)
      · skip
        have h208 : Rg 0 0 (r3 (QC S o0 hd)) := rg_eq_l (gi_I (k := 391) hG h0 0 1) (⟨by decide, by decide⟩ : Rg 0 0 0) q206
        refine tt_iconst (v := 1) dX6_isSo_186 rfl ?_
        refine tt_goto (tgt := 191) dX6_isSo_187 rfl ?_
        have hF : G_X6_isSo (AC S i1) (QC S o0 hd) x1 = 1 := by
          exact g_X6_isSo_44 q101 q111 q125 q135 q149 q159 q173 q189 q203 q204 q206
        exact tt_ireturn dX6_isSo_191 .boolean rfl rfl (hP _ _ _ _ ⟨hG, hA, Or.inl ⟨_, rfl, ⟨_, rfl, rg_w (⟨by decide, by decide⟩ : Rg 1 1 1)⟩, ⟨rfl, congrArg (fun q => some (Value.int q)) hF.symm⟩, rfl, rfl⟩⟩)
    · skip
      have h209 : Rg 0 0 (x1 &&& 1) := rg_eq_l (rg_and (x := x1) (⟨by decide, by decide⟩ : Rg 1 1 1)) (⟨by decide, by decide⟩ : Rg 0 0 0) q204
      refine tt_iconst (v := 1) dX6_isSo_178 rfl ?_
      refine tt_goto (tgt := 183) dX6_isSo_179 rfl ?_
      refine tt_icmp_ne (tgt := 190) dX6_isSo_183 rfl (fun q210 => ?_) (fun q210 => ?_)
      · skip
        have h211 : Rg 0 0 (r3 (QC S o0 hd)) := rg_ne_hi (gi_I (k := 391) hG h0 0 1) (⟨by decide, by decide⟩ : Rg 1 1 1) q210
        refine tt_iconst (v := 0) dX6_isSo_190 rfl ?_
        have hF : G_X6_isSo (AC S i1) (QC S o0 hd) x1 = 0 := by
          exact g_X6_isSo_43 q101 q111 q125 q135 q149 q159 q173 q189 q203 q204 q210
        exact tt_ireturn dX6_isSo_191 .boolean rfl rfl (hP _ _ _ _ ⟨hG, hA, Or.inl ⟨_, rfl, ⟨_, rfl, rg_w (⟨by decide, by decide⟩ : Rg 0 0 0)⟩, ⟨rfl, congrArg (fun q => some (Value.int q)) hF.symm⟩, rfl, rfl⟩⟩)
      · skip
        have h212 : Rg 1 1 (r3 (QC S o0 hd)) := rg_eq_l (gi_I (k := 391) hG h0 0 1) (⟨by decide, by decide⟩ : Rg 1 1 1) q210
        refine tt_iconst (v := 1) dX6_isSo_186 rfl ?_
        refine tt_goto (tgt := 191) dX6_isSo_187 rfl ?_
        have hF : G_X6_isSo (AC S i1) (QC S o0 hd) x1 = 1 := by
          exact g_X6_isSo_42 q101 q111 q125 q135 q149 q159 q173 q189 q203 q204 q210
        exact tt_ireturn dX6_isSo_191 .boolean rfl rfl (hP _ _ _ _ ⟨hG, hA, Or.inl ⟨_, rfl, ⟨_, rfl, rg_w (⟨by decide, by decide⟩ : Rg 1 1 1)⟩, ⟨rfl, congrArg (fun q => some (Value.int q)) hF.symm⟩, rfl, rfl⟩⟩)
  refine gt_by (c := (x1 &&& 14) = 9) (fun q213 => ?_) (fun q213 => ?_)
  · skip
    refine gt_tseqL (off := 143) (tgt := 147) 9 9 dX6_isSo_4 sl_X6_isSo_4 q213 rfl (by decide) (by decide) rfl rfl ?_
    refine tt_aload_n (j := 0) dX6_isSo_147 rfl ?_
    refine gt_gI (id := 390) (v := (r2 (QC S o0 hd))) dX6_isSo_148 fl_6_85 rfl rfl h0 hA (tC_390 (T := S) (o := o0) (a := hd) rfl) ?_
    refine tt_if_ne (tgt := 165) dX6_isSo_151 rfl (fun q214 => ?_) (fun q214 => ?_)
    · skip
      have h215 : Rg 1 1 (r2 (QC S o0 hd)) := rg_ne_lo (gi_I (k := 390) hG h0 0 1) (⟨by decide, by decide⟩ : Rg 0 0 0) q214
      refine tt_iconst (v := 1) dX6_isSo_165 rfl ?_
      refine tt_goto (tgt := 170) dX6_isSo_166 rfl ?_
      refine tt_istore_n (ks := [0, 1, 2]) (L' := [(2, .int 1), (0, .ref o0), (1, .int x1)]) dX6_isSo_170 (by decide) rfl ?_
      refine tt_iload_n (j := 0) dX6_isSo_171 rfl ?_
      refine tt_iload_n (j := 2) dX6_isSo_172 rfl ?_
      refine tt_iconst (v := 1) dX6_isSo_173 rfl ?_
      refine tt_iand dX6_isSo_174 ?_
      refine tt_if_ne (tgt := 182) dX6_isSo_175 rfl (fun q216 => ?_) (fun q216 => ?_)
      · skip
        have h217 : Rg 1 1 (x1 &&& 1) := rg_ne_lo (rg_and (x := x1) (⟨by decide, by decide⟩ : Rg 1 1 1)) (⟨by decide, by decide⟩ : Rg 0 0 0) q216
        refine tt_iconst (v := 0) dX6_isSo_182 rfl ?_
        refine tt_icmp_ne (tgt := 190) dX6_isSo_183 rfl (fun _ => ?_) (fun q => absurd q (by decide))
        refine tt_iconst (v := 0) dX6_isSo_190 rfl ?_
        have hF : G_X6_isSo (AC S i1) (QC S o0 hd) x1 = 0 := by
          exact g_X6_isSo_51 q101 q111 q125 q135 q149 q159 q173 q189 q203 q213 q214 q216
        exact tt_ireturn dX6_isSo_191 .boolean rfl rfl (hP _ _ _ _ ⟨hG, hA, Or.inl ⟨_, rfl, ⟨_, rfl, rg_w (⟨by decide, by decide⟩ : Rg 0 0 0)⟩, ⟨rfl, congrArg (fun q => some (Value.int q)) hF.symm⟩, rfl, rfl⟩⟩)
      · skip
        have h218 : Rg 0 0 (x1 &&& 1) := rg_eq_l (rg_and (x := x1) (⟨by decide, by decide⟩ : Rg 1 1 1)) (⟨by decide, by decide⟩ : Rg 0 0 0) q216
        refine tt_iconst (v := 1) dX6_isSo_178 rfl ?_
        refine tt_goto (tgt := 183) dX6_isSo_179 rfl ?_
        refine tt_icmp_ne (tgt := 190) dX6_isSo_183 rfl (fun q => absurd q (by decide)) (fun _ => ?_)
        refine tt_iconst (v := 1) dX6_isSo_186 rfl ?_
        refine tt_goto (tgt := 191) dX6_isSo_187 rfl ?_
        have hF : G_X6_isSo (AC S i1) (QC S o0 hd) x1 = 1 := by
          exact g_X6_isSo_50 q101 q111 q125 q135 q149 q159 q173 q189 q203 q213 q214 q216
        exact tt_ireturn dX6_isSo_191 .boolean rfl rfl (hP _ _ _ _ ⟨hG, hA, Or.inl ⟨_, rfl, ⟨_, rfl, rg_w (⟨by decide, by decide⟩ : Rg 1 1 1)⟩, ⟨rfl, congrArg (fun q => some (Value.int q)) hF.symm⟩, rfl, rfl⟩⟩)
    · skip
      have h219 : Rg 0 0 (r2 (QC S o0 hd)) := rg_eq_l (gi_I (k := 390) hG h0 0 1) (⟨by decide, by decide⟩ : Rg 0 0 0) q214
      refine tt_aload_n (j := 0) dX6_isSo_154 rfl ?_
      refine gt_gI (id := 391) (v := (r3 (QC S o0 hd))) dX6_isSo_155 fl_6_88 rfl rfl h0 hA (tC_391 (T := S) (o := o0) (a := hd) rfl) ?_
      refine tt_aload_n (j := 0) dX6_isSo_158 rfl ?_
      refine gt_gI (id := 393) (v := (r5 (QC S o0 hd))) dX6_isSo_159 fl_6_79 rfl rfl h0 hA (tC_393 (T := S) (o := o0) (a := hd) rfl) ?_
      refine tt_icmp_eq (tgt := 169) dX6_isSo_162 rfl (fun q220 => ?_) (fun q220 => ?_)
      · skip
        refine tt_iconst (v := 0) dX6_isSo_169 rfl ?_
        refine tt_istore_n (ks := [0, 1, 2]) (L' := [(2, .int 0), (0, .ref o0), (1, .int x1)]) dX6_isSo_170 (by decide) rfl ?_
        refine tt_iload_n (j := 0) dX6_isSo_171 rfl ?_
        refine tt_iload_n (j := 2) dX6_isSo_172 rfl ?_
        refine tt_iconst (v := 1) dX6_isSo_173 rfl ?_
        refine tt_iand dX6_isSo_174 ?_
        refine tt_if_ne (tgt := 182) dX6_isSo_175 rfl (fun q221 => ?_) (fun q221 => ?_)
        · skip
          have h222 : Rg 1 1 (x1 &&& 1) := rg_ne_lo (rg_and (x := x1) (⟨by decide, by decide⟩ : Rg 1 1 1)) (⟨by decide, by decide⟩ : Rg 0 0 0) q221
          refine tt_iconst (v := 0) dX6_isSo_182 rfl ?_
          refine tt_icmp_ne (tgt := 190) dX6_isSo_183 rfl (fun q => absurd q (by decide)) (fun _ => ?_)
          refine tt_iconst (v := 1) dX6_isSo_186 rfl ?_
          refine tt_goto (tgt := 191) dX6_isSo_187 rfl ?_
          have hF : G_X6_isSo (AC S i1) (QC S o0 hd) x1 = 1 := by
            exact g_X6_isSo_47 q101 q111 q125 q135 q149 q159 q173 q189 q203 q213 q214 q220 q221
          exact tt_ireturn dX6_isSo_191 .boolean rfl rfl (hP _ _ _ _ ⟨hG, hA, Or.inl ⟨_, rfl, ⟨_, rfl, rg_w (⟨by decide, by decide⟩ : Rg 1 1 1)⟩, ⟨rfl, congrArg (fun q => some (Value.int q)) hF.symm⟩, rfl, rfl⟩⟩)
        · skip
          have h223 : Rg 0 0 (x1 &&& 1) := rg_eq_l (rg_and (x := x1) (⟨by decide, by decide⟩ : Rg 1 1 1)) (⟨by decide, by decide⟩ : Rg 0 0 0) q221
          refine tt_iconst (v := 1) dX6_isSo_178 rfl ?_
          refine tt_goto (tgt := 183) dX6_isSo_179 rfl ?_
          refine tt_icmp_ne (tgt := 190) dX6_isSo_183 rfl (fun _ => ?_) (fun q => absurd q (by decide))
          refine tt_iconst (v := 0) dX6_isSo_190 rfl ?_
          have hF : G_X6_isSo (AC S i1) (QC S o0 hd) x1 = 0 := by
            exact g_X6_isSo_46 q101 q111 q125 q135 q149 q159 q173 q189 q203 q213 q214 q220 q221
          exact tt_ireturn dX6_isSo_191 .boolean rfl rfl (hP _ _ _ _ ⟨hG, hA, Or.inl ⟨_, rfl, ⟨_, rfl, rg_w (⟨by decide, by decide⟩ : Rg 0 0 0)⟩, ⟨rfl, congrArg (fun q => some (Value.int q)) hF.symm⟩, rfl, rfl⟩⟩)
      · skip
        refine tt_iconst (v := 1) dX6_isSo_165 rfl ?_
        refine tt_goto (tgt := 170) dX6_isSo_166 rfl ?_
        refine tt_istore_n (ks := [0, 1, 2]) (L' := [(2, .int 1), (0, .ref o0), (1, .int x1)]) dX6_isSo_170 (by decide) rfl ?_
        refine tt_iload_n (j := 0) dX6_isSo_171 rfl ?_
        refine tt_iload_n (j := 2) dX6_isSo_172 rfl ?_
        refine tt_iconst (v := 1) dX6_isSo_173 rfl ?_
        refine tt_iand dX6_isSo_174 ?_
        refine tt_if_ne (tgt := 182) dX6_isSo_175 rfl (fun q224 => ?_) (fun q224 => ?_)
        · skip
          have h225 : Rg 1 1 (x1 &&& 1) := rg_ne_lo (rg_and (x := x1) (⟨by decide, by decide⟩ : Rg 1 1 1)) (⟨by decide, by decide⟩ : Rg 0 0 0) q224
          refine tt_iconst (v := 0) dX6_isSo_182 rfl ?_
          refine tt_icmp_ne (tgt := 190) dX6_isSo_183 rfl (fun _ => ?_) (fun q => absurd q (by decide))
          refine tt_iconst (v := 0) dX6_isSo_190 rfl ?_
          have hF : G_X6_isSo (AC S i1) (QC S o0 hd) x1 = 0 := by
            exact g_X6_isSo_49 q101 q111 q125 q135 q149 q159 q173 q189 q203 q213 q214 q220 q224
          exact tt_ireturn dX6_isSo_191 .boolean rfl rfl (hP _ _ _ _ ⟨hG, hA, Or.inl ⟨_, rfl, ⟨_, rfl, rg_w (⟨by decide, by decide⟩ : Rg 0 0 0)⟩, ⟨rfl, congrArg (fun q => some (Value.int q)) hF.symm⟩, rfl, rfl⟩⟩)
        · skip
          have h226 : Rg 0 0 (x1 &&& 1) := rg_eq_l (rg_and (x := x1) (⟨by decide, by decide⟩ : Rg 1 1 1)) (⟨by decide, by decide⟩ : Rg 0 0 0) q224
          refine tt_iconst (v := 1) dX6_isSo_178 rfl ?_
          refine tt_goto (tgt := 183) dX6_isSo_179 rfl ?_
          refine tt_icmp_ne (tgt := 190) dX6_isSo_183 rfl (fun q => absurd q (by decide)) (fun _ => ?_)
          refine tt_iconst (v := 1) dX6_isSo_186 rfl ?_
          refine tt_goto (tgt := 191) dX6_isSo_187 rfl ?_
          have hF : G_X6_isSo (AC S i1) (QC S o0 hd) x1 = 1 := by
            exact g_X6_isSo_48 q101 q111 q125 q135 q149 q159 q173 q189 q203 q213 q214 q220 q224
          exact tt_ireturn dX6_isSo_191 .boolean rfl rfl (hP _ _ _ _ ⟨hG, hA, Or.inl ⟨_, rfl, ⟨_, rfl, rg_w (⟨by decide, by decide⟩ : Rg 1 1 1)⟩, ⟨rfl, congrArg (fun q => some (Value.int q)) hF.symm⟩, rfl, rfl⟩⟩)
  refine gt_by (c := (x1 &&& 14) = 10) (fun q227 => ?_) (fun q227 => ?_)
  · skip
    refine gt_tseqL (off := 143) (tgt := 147) 10 10 dX6_isSo_4 sl_X6_isSo_4 q227 rfl (by decide) (by decide) rfl rfl ?_
    refine tt_aload_n (j := 0) dX6_isSo_147 rfl ?_
    refine gt_gI (id := 390) (v := (r2 (QC S o0 hd))) dX6_isSo_148 fl_6_85 rfl rfl h0 hA (tC_390 (T := S) (o := o0) (a := hd) rfl) ?_
    refine tt_if_ne (tgt := 165) dX6_isSo_151 rfl (fun q228 => ?_) (fun q228 => ?_)
    · skip
      have h229 : Rg 1 1 (r2 (QC S o0 hd)) := rg_ne_lo (gi_I (k := 390) hG h0 0 1) (⟨by decide, by decide⟩ : Rg 0 0 0) q228
      refine tt_iconst (v := 1) dX6_isSo_165 rfl ?_
      refine tt_goto (tgt := 170) dX6_isSo_166 rfl ?_
      refine tt_istore_n (ks := [0, 1, 2]) (L' := [(2, .int 1), (0, .ref o0), (1, .int x1)]) dX6_isSo_170 (by decide) rfl ?_
      refine tt_iload_n (j := 0) dX6_isSo_171 rfl ?_
      refine tt_iload_n (j := 2) dX6_isSo_172 rfl ?_
      refine tt_iconst (v := 1) dX6_isSo_173 rfl ?_
      refine tt_iand dX6_isSo_174 ?_
      refine tt_if_ne (tgt := 182) dX6_isSo_175 rfl (fun q230 => ?_) (fun q230 => ?_)
      · skip
        have h231 : Rg 1 1 (x1 &&& 1) := rg_ne_lo (rg_and (x := x1) (⟨by decide, by decide⟩ : Rg 1 1 1)) (⟨by decide, by decide⟩ : Rg 0 0 0) q230
        refine tt_iconst (v := 0) dX6_isSo_182 rfl ?_
        refine tt_icmp_ne (tgt := 190) dX6_isSo_183 rfl (fun _ => ?_) (fun q => absurd q (by decide))
        refine tt_iconst (v := 0) dX6_isSo_190 rfl ?_
        have hF : G_X6_isSo (AC S i1) (QC S o0 hd) x1 = 0 := by
          exact g_X6_isSo_57 q101 q111 q125 q135 q149 q159 q173 q189 q203 q213 q227 q228 q230
        exact tt_ireturn dX6_isSo_191 .boolean rfl rfl (hP _ _ _ _ ⟨hG, hA, Or.inl ⟨_, rfl, ⟨_, rfl, rg_w (⟨by decide, by decide⟩ : Rg 0 0 0)⟩, ⟨rfl, congrArg (fun q => some (Value.int q)) hF.symm⟩, rfl, rfl⟩⟩)
      · skip
        have h232 : Rg 0 0 (x1 &&& 1) := rg_eq_l (rg_and (x := x1) (⟨by decide, by decide⟩ : Rg 1 1 1)) (⟨by decide, by decide⟩ : Rg 0 0 0) q230
        refine tt_iconst (v := 1) dX6_isSo_178 rfl ?_
        refine tt_goto (tgt := 183) dX6_isSo_179 rfl ?_
        refine tt_icmp_ne (tgt := 190) dX6_isSo_183 rfl (fun q => absurd q (by decide)) (fun _ => ?_)
        refine tt_iconst (v := 1) dX6_isSo_186 rfl ?_
        refine tt_goto (tgt := 191) dX6_isSo_187 rfl ?_
        have hF : G_X6_isSo (AC S i1) (QC S o0 hd) x1 = 1 := by
          exact g_X6_isSo_56 q101 q111 q125 q135 q149 q159 q173 q189 q203 q213 q227 q228 q230
        exact tt_ireturn dX6_isSo_191 .boolean rfl rfl (hP _ _ _ _ ⟨hG, hA, Or.inl ⟨_, rfl, ⟨_, rfl, rg_w (⟨by decide, by decide⟩ : Rg 1 1 1)⟩, ⟨rfl, congrArg (fun q => some (Value.int q)) hF.symm⟩, rfl, rfl⟩⟩)
    · skip
      have h233 : Rg 0 0 (r2 (QC S o0 hd)) := rg_eq_l (gi_I (k := 390) hG h0 0 1) (⟨by decide, by decide⟩ : Rg 0 0 0) q228
      refine tt_aload_n (j := 0) dX6_isSo_154 rfl ?_
      refine gt_gI (id := 391) (v := (r3 (QC S o0 hd))) dX6_isSo_155 fl_6_88 rfl rfl h0 hA (tC_391 (T := S) (o := o0) (a := hd) rfl) ?_
      refine tt_aload_n (j := 0) dX6_isSo_158 rfl ?_
      refine gt_gI (id := 393) (v := (r5 (QC S o0 hd))) dX6_isSo_159 fl_6_79 rfl rfl h0 hA (tC_393 (T := S) (o := o0) (a := hd) rfl) ?_
      refine tt_icmp_eq (tgt := 169) dX6_isSo_162 rfl (fun q234 => ?_) (fun q234 => ?_)
      · skip
        refine tt_iconst (v := 0) dX6_isSo_169 rfl ?_
        refine tt_istore_n (ks := [0, 1, 2]) (L' := [(2, .int 0), (0, .ref o0), (1, .int x1)]) dX6_isSo_170 (by decide) rfl ?_
        refine tt_iload_n (j := 0) dX6_isSo_171 rfl ?_
        refine tt_iload_n (j := 2) dX6_isSo_172 rfl ?_
        refine tt_iconst (v := 1) dX6_isSo_173 rfl ?_
        refine tt_iand dX6_isSo_174 ?_
        refine tt_if_ne (tgt := 182) dX6_isSo_175 rfl (fun q235 => ?_) (fun q235 => ?_)
        · skip
          have h236 : Rg 1 1 (x1 &&& 1) := rg_ne_lo (rg_and (x := x1) (⟨by decide, by decide⟩ : Rg 1 1 1)) (⟨by decide, by decide⟩ : Rg 0 0 0) q235
          refine tt_iconst (v := 0) dX6_isSo_182 rfl ?_
          refine tt_icmp_ne (tgt := 190) dX6_isSo_183 rfl (fun q => absurd q (by decide)) (fun _ => ?_)
          refine tt_iconst (v := 1) dX6_isSo_186 rfl ?_
          refine tt_goto (tgt := 191) dX6_isSo_187 rfl ?_
          have hF : G_X6_isSo (AC S i1) (QC S o0 hd) x1 = 1 := by
            exact g_X6_isSo_53 q101 q111 q125 q135 q149 q159 q173 q189 q203 q213 q227 q228 q234 q235
          exact tt_ireturn dX6_isSo_191 .boolean rfl rfl (hP _ _ _ _ ⟨hG, hA, Or.inl ⟨_, rfl, ⟨_, rfl, rg_w (⟨by decide, by decide⟩ : Rg 1 1 1)⟩, ⟨rfl, congrArg (fun q => some (Value.int q)) hF.symm⟩, rfl, rfl⟩⟩)
        · skip
          have h237 : Rg 0 0 (x1 &&& 1) := rg_eq_l (rg_and (x := x1) (⟨by decide, by decide⟩ : Rg 1 1 1)) (⟨by decide, by decide⟩ : Rg 0 0 0) q235
          refine tt_iconst (v := 1) dX6_isSo_178 rfl ?_
          refine tt_goto (tgt := 183) dX6_isSo_179 rfl ?_
          refine tt_icmp_ne (tgt := 190) dX6_isSo_183 rfl (fun _ => ?_) (fun q => absurd q (by decide))
          refine tt_iconst (v := 0) dX6_isSo_190 rfl ?_
          have hF : G_X6_isSo (AC S i1) (QC S o0 hd) x1 = 0 := by
            exact g_X6_isSo_52 q101 q111 q125 q135 q149 q159 q173 q189 q203 q213 q227 q228 q234 q235
          exact tt_ireturn dX6_isSo_191 .boolean rfl rfl (hP _ _ _ _ ⟨hG, hA, Or.inl ⟨_, rfl, ⟨_, rfl, rg_w (⟨by decide, by decide⟩ : Rg 0 0 0)⟩, ⟨rfl, congrArg (fun q => some (Value.int q)) hF.symm⟩, rfl, rfl⟩⟩)
      · skip
        refine tt_iconst (v := 1) dX6_isSo_165 rfl ?_
        refine tt_goto (tgt := 170) dX6_isSo_166 rfl ?_
        refine tt_istore_n (ks := [0, 1, 2]) (L' := [(2, .int 1), (0, .ref o0), (1, .int x1)]) dX6_isSo_170 (by decide) rfl ?_
        refine tt_iload_n (j := 0) dX6_isSo_171 rfl ?_
        refine tt_iload_n (j := 2) dX6_isSo_172 rfl ?_
        refine tt_iconst (v := 1) dX6_isSo_173 rfl ?_
        refine tt_iand dX6_isSo_174 ?_
        refine tt_if_ne (tgt := 182) dX6_isSo_175 rfl (fun q238 => ?_) (fun q238 => ?_)
        · skip
          have h239 : Rg 1 1 (x1 &&& 1) := rg_ne_lo (rg_and (x := x1) (⟨by decide, by decide⟩ : Rg 1 1 1)) (⟨by decide, by decide⟩ : Rg 0 0 0) q238
          refine tt_iconst (v := 0) dX6_isSo_182 rfl ?_
          refine tt_icmp_ne (tgt := 190) dX6_isSo_183 rfl (fun _ => ?_) (fun q => absurd q (by decide))
          refine tt_iconst (v := 0) dX6_isSo_190 rfl ?_
          have hF : G_X6_isSo (AC S i1) (QC S o0 hd) x1 = 0 := by
            exact g_X6_isSo_55 q101 q111 q125 q135 q149 q159 q173 q189 q203 q213 q227 q228 q234 q238
          exact tt_ireturn dX6_isSo_191 .boolean rfl rfl (hP _ _ _ _ ⟨hG, hA, Or.inl ⟨_, rfl, ⟨_, rfl, rg_w (⟨by decide, by decide⟩ : Rg 0 0 0)⟩, ⟨rfl, congrArg (fun q => some (Value.int q)) hF.symm⟩, rfl, rfl⟩⟩)
        · skip
          have h240 : Rg 0 0 (x1 &&& 1) := rg_eq_l (rg_and (x := x1) (⟨by decide, by decide⟩ : Rg 1 1 1)) (⟨by decide, by decide⟩ : Rg 0 0 0) q238
          refine tt_iconst (v := 1) dX6_isSo_178 rfl ?_
          refine tt_goto (tgt := 183) dX6_isSo_179 rfl ?_
          refine tt_icmp_ne (tgt := 190) dX6_isSo_183 rfl (fun q => absurd q (by decide)) (fun _ => ?_)
          refine tt_iconst (v := 1) dX6_isSo_186 rfl ?_
          refine tt_goto (tgt := 191) dX6_isSo_187 rfl ?_
          have hF : G_X6_isSo (AC S i1) (QC S o0 hd) x1 = 1 := by
            exact g_X6_isSo_54 q101 q111 q125 q135 q149 q159 q173 q189 q203 q213 q227 q228 q234 q238
          exact tt_ireturn dX6_isSo_191 .boolean rfl rfl (hP _ _ _ _ ⟨hG, hA, Or.inl ⟨_, rfl, ⟨_, rfl, rg_w (⟨by decide, by decide⟩ : Rg 1 1 1)⟩, ⟨rfl, congrArg (fun q => some (Value.int q)) hF.symm⟩, rfl, rfl⟩⟩)
  refine gt_by (c := (x1 &&& 14) = 11) (fun q241 => ?_) (fun q241 => ?_)
  · skip
    refine gt_tseqL (off := 143) (tgt := 147) 11 11 dX6_isSo_4 sl_X6_isSo_4 q241 rfl (by decide) (by decide) rfl rfl ?_
    refine tt_aload_n (j := 0) dX6_isSo_147 rfl ?_
    refine gt_gI (id := 390) (v := (r2 (QC S o0 hd))) dX6_isSo_148 fl_6_85 rfl rfl h0 hA (tC_390 (T := S) (o := o0) (a := hd) rfl) ?_
    refine tt_if_ne (tgt := 165) dX6_isSo_151 rfl (fun q242 => ?_) (fun q242 => ?_)
    · skip
      have h243 : Rg 1 1 (r2 (QC S o0 hd)) := rg_ne_lo (gi_I (k := 390) hG h0 0 1) (⟨by decide, by decide⟩ : Rg 0 0 0) q242
      refine tt_iconst (v := 1) dX6_isSo_165 rfl ?_
      refine tt_goto (tgt := 170) dX6_isSo_166 rfl ?_
      refine tt_istore_n (ks := [0, 1, 2]) (L' := [(2, .int 1), (0, .ref o0), (1, .int x1)]) dX6_isSo_170 (by decide) rfl ?_
      refine tt_iload_n (j := 0) dX6_isSo_171 rfl ?_
      refine tt_iload_n (j := 2) dX6_isSo_172 rfl ?_
      refine tt_iconst (v := 1) dX6_isSo_173 rfl ?_
      refine tt_iand dX6_isSo_174 ?_
      refine tt_if_ne (tgt := 182) dX6_isSo_175 rfl (fun q244 => ?_) (fun q244 => ?_)
      · skip
        have h245 : Rg 1 1 (x1 &&& 1) := rg_ne_lo (rg_and (x := x1) (⟨by decide, by decide⟩ : Rg 1 1 1)) (⟨by decide, by decide⟩ : Rg 0 0 0) q244
        refine tt_iconst (v := 0) dX6_isSo_182 rfl ?_
        refine tt_icmp_ne (tgt := 190) dX6_isSo_183 rfl (fun _ => ?_) (fun q => absurd q (by decide))
        refine tt_iconst (v := 0) dX6_isSo_190 rfl ?_
        have hF : G_X6_isSo (AC S i1) (QC S o0 hd) x1 = 0 := by
          exact g_X6_isSo_63 q101 q111 q125 q135 q149 q159 q173 q189 q203 q213 q227 q241 q242 q244
        exact tt_ireturn dX6_isSo_191 .boolean rfl rfl (hP _ _ _ _ ⟨hG, hA, Or.inl ⟨_, rfl, ⟨_, rfl, rg_w (⟨by decide, by decide⟩ : Rg 0 0 0)⟩, ⟨rfl, congrArg (fun q => some (Value.int q)) hF.symm⟩, rfl, rfl⟩⟩)
      · skip
        have h246 : Rg 0 0 (x1 &&& 1) := rg_eq_l (rg_and (x := x1) (⟨by decide, by decide⟩ : Rg 1 1 1)) (⟨by decide, by decide⟩ : Rg 0 0 0) q244
        refine tt_iconst (v := 1) dX6_isSo_178 rfl ?_
        refine tt_goto (tgt := 183) dX6_isSo_179 rfl ?_
        refine tt_icmp_ne (tgt := 190) dX6_isSo_183 rfl (fun q => absurd q (by decide)) (fun _ => ?_)
        refine tt_iconst (v := 1) dX6_isSo_186 rfl ?_
        refine tt_goto (tgt := 191) dX6_isSo_187 rfl ?_
        have hF : G_X6_isSo (AC S i1) (QC S o0 hd) x1 = 1 := by
          exact g_X6_isSo_62 q101 q111 q125 q135 q149 q159 q173 q189 q203 q213 q227 q241 q242 q244
        exact tt_ireturn dX6_isSo_191 .boolean rfl rfl (hP _ _ _ _ ⟨hG, hA, Or.inl ⟨_, rfl, ⟨_, rfl, rg_w (⟨by decide, by decide⟩ : Rg 1 1 1)⟩, ⟨rfl, congrArg (fun q => some (Value.int q)) hF.symm⟩, rfl, rfl⟩⟩)
    · skip
      have h247 : Rg 0 0 (r2 (QC S o0 hd)) := rg_eq_l (gi_I (k := 390) hG h0 0 1) (⟨by decide, by decide⟩ : Rg 0 0 0) q242
      refine tt_aload_n (j := 0) dX6_isSo_154 rfl ?_
      refine gt_gI (id := 391) (v := (r3 (QC S o0 hd))) dX6_isSo_155 fl_6_88 rfl rfl h0 hA (tC_391 (T := S) (o := o0) (a := hd) rfl) ?_
      refine tt_aload_n (j := 0) dX6_isSo_158 rfl ?_
      refine gt_gI (id := 393) (v := (r5 (QC S o0 hd))) dX6_isSo_159 fl_6_79 rfl rfl h0 hA (tC_393 (T := S) (o := o0) (a := hd) rfl) ?_
      refine tt_icmp_eq (tgt := 169) dX6_isSo_162 rfl (fun q248 => ?_) (fun q248 => ?_)
      · skip
        refine tt_iconst (v := 0) dX6_isSo_169 rfl ?_
        refine tt_istore_n (ks := [0, 1, 2]) (L' := [(2, .int 0), (0, .ref o0), (1, .int x1)]) dX6_isSo_170 (by decide) rfl ?_
        refine tt_iload_n (j := 0) dX6_isSo_171 rfl ?_
        refine tt_iload_n (j := 2) dX6_isSo_172 rfl ?_
        refine tt_iconst (v := 1) dX6_isSo_173 rfl ?_
        refine tt_iand dX6_isSo_174 ?_
        refine tt_if_ne (tgt := 182) dX6_isSo_175 rfl (fun q249 => ?_) (fun q249 => ?_)
        · skip
          have h250 : Rg 1 1 (x1 &&& 1) := rg_ne_lo (rg_and (x := x1) (⟨by decide, by decide⟩ : Rg 1 1 1)) (⟨by decide, by decide⟩ : Rg 0 0 0) q249
          refine tt_iconst (v := 0) dX6_isSo_182 rfl ?_
          refine tt_icmp_ne (tgt := 190) dX6_isSo_183 rfl (fun q => absurd q (by decide)) (fun _ => ?_)
          refine tt_iconst (v := 1) dX6_isSo_186 rfl ?_
          refine tt_goto (tgt := 191) dX6_isSo_187 rfl ?_
          have hF : G_X6_isSo (AC S i1) (QC S o0 hd) x1 = 1 := by
            exact g_X6_isSo_59 q101 q111 q125 q135 q149 q159 q173 q189 q203 q213 q227 q241 q242 q248 q249
          exact tt_ireturn dX6_isSo_191 .boolean rfl rfl (hP _ _ _ _ ⟨hG, hA, Or.inl ⟨_, rfl, ⟨_, rfl, rg_w (⟨by decide, by decide⟩ : Rg 1 1 1)⟩, ⟨rfl, congrArg (fun q => some (Value.int q)) hF.symm⟩, rfl, rfl⟩⟩)
        · skip
          have h251 : Rg 0 0 (x1 &&& 1) := rg_eq_l (rg_and (x := x1) (⟨by decide, by decide⟩ : Rg 1 1 1)) (⟨by decide, by decide⟩ : Rg 0 0 0) q249
          refine tt_iconst (v := 1) dX6_isSo_178 rfl ?_
          refine tt_goto (tgt := 183) dX6_isSo_179 rfl ?_
          refine tt_icmp_ne (tgt := 190) dX6_isSo_183 rfl (fun _ => ?_) (fun q => absurd q (by decide))
          refine tt_iconst (v := 0) dX6_isSo_190 rfl ?_
          have hF : G_X6_isSo (AC S i1) (QC S o0 hd) x1 = 0 := by
            exact g_X6_isSo_58 q101 q111 q125 q135 q149 q159 q173 q189 q203 q213 q227 q241 q242 q248 q249
          exact tt_ireturn dX6_isSo_191 .boolean rfl rfl (hP _ _ _ _ ⟨hG, hA, Or.inl ⟨_, rfl, ⟨_, rfl, rg_w (⟨by decide, by decide⟩ : Rg 0 0 0)⟩, ⟨rfl, congrArg (fun q => some (Value.int q)) hF.symm⟩, rfl, rfl⟩⟩)
      · skip
        refine tt_iconst (v := 1) dX6_isSo_165 rfl ?_
        refine tt_goto (tgt := 170) dX6_isSo_166 rfl ?_
        refine tt_istore_n (ks := [0, 1, 2]) (L' := [(2, .int 1), (0, .ref o0), (1, .int x1)]) dX6_isSo_170 (by decide) rfl ?_
        refine tt_iload_n (j := 0) dX6_isSo_171 rfl ?_
        refine tt_iload_n (j := 2) dX6_isSo_172 rfl ?_
        refine tt_iconst (v := 1) dX6_isSo_173 rfl ?_
        refine tt_iand dX6_isSo_174 ?_
        refine tt_if_ne (tgt := 182) dX6_isSo_175 rfl (fun q252 => ?_) (fun q252 => ?_)
        · skip
          have h253 : Rg 1 1 (x1 &&& 1) := rg_ne_lo (rg_and (x := x1) (⟨by decide, by decide⟩ : Rg 1 1 1)) (⟨by decide, by decide⟩ : Rg 0 0 0) q252
          refine tt_iconst (v := 0) dX6_isSo_182 rfl ?_
          refine tt_icmp_ne (tgt := 190) dX6_isSo_183 rfl (fun _ => ?_) (fun q => absurd q (by decide))
          refine tt_iconst (v := 0) dX6_isSo_190 rfl ?_
          have hF : G_X6_isSo (AC S i1) (QC S o0 hd) x1 = 0 := by
            exact g_X6_isSo_61 q101 q111 q125 q135 q149 q159 q173 q189 q203 q213 q227 q241 q242 q248 q252
          exact tt_ireturn dX6_isSo_191 .boolean rfl rfl (hP _ _ _ _ ⟨hG, hA, Or.inl ⟨_, rfl, ⟨_, rfl, rg_w (⟨by decide, by decide⟩ : Rg 0 0 0)⟩, ⟨rfl, congrArg (fun q => some (Value.int q)) hF.symm⟩, rfl, rfl⟩⟩)
        · skip
          have h254 : Rg 0 0 (x1 &&& 1) := rg_eq_l (rg_and (x := x1) (⟨by decide, by decide⟩ : Rg 1 1 1)) (⟨by decide, by decide⟩ : Rg 0 0 0) q252
          refine tt_iconst (v := 1) dX6_isSo_178 rfl ?_
          refine tt_goto (tgt := 183) dX6_isSo_179 rfl ?_
          refine tt_icmp_ne (tgt := 190) dX6_isSo_183 rfl (fun q => absurd q (by decide)) (fun _ => ?_)
          refine tt_iconst (v := 1) dX6_isSo_186 rfl ?_
          refine tt_goto (tgt := 191) dX6_isSo_187 rfl ?_
          have hF : G_X6_isSo (AC S i1) (QC S o0 hd) x1 = 1 := by
            exact g_X6_isSo_60 q101 q111 q125 q135 q149 q159 q173 q189 q203 q213 q227 q241 q242 q248 q252
          exact tt_ireturn dX6_isSo_191 .boolean rfl rfl (hP _ _ _ _ ⟨hG, hA, Or.inl ⟨_, rfl, ⟨_, rfl, rg_w (⟨by decide, by decide⟩ : Rg 1 1 1)⟩, ⟨rfl, congrArg (fun q => some (Value.int q)) hF.symm⟩, rfl, rfl⟩⟩)
  refine gt_by (c := (x1 &&& 14) = 12) (fun q255 => ?_) (fun q255 => ?_)
  · skip
    refine gt_tseqL (off := 123) (tgt := 127) 12 12 dX6_isSo_4 sl_X6_isSo_4 q255 rfl (by decide) (by decide) rfl rfl ?_
    refine tt_aload_n (j := 0) dX6_isSo_127 rfl ?_
    refine gt_gI (id := 391) (v := (r3 (QC S o0 hd))) dX6_isSo_128 fl_6_88 rfl rfl h0 hA (tC_391 (T := S) (o := o0) (a := hd) rfl) ?_
    refine tt_aload_n (j := 0) dX6_isSo_131 rfl ?_
    refine gt_gI (id := 393) (v := (r5 (QC S o0 hd))) dX6_isSo_132 fl_6_79 rfl rfl h0 hA (tC_393 (T := S) (o := o0) (a := hd) rfl) ?_
    refine tt_icmp_eq (tgt := 142) dX6_isSo_135 rfl (fun q256 => ?_) (fun q256 => ?_)
    · skip
      refine tt_iconst (v := 0) dX6_isSo_142 rfl ?_
      refine tt_istore_n (ks := [0, 1, 2]) (L' := [(2, .int 0), (0, .ref o0), (1, .int x1)]) dX6_isSo_143 (by decide) rfl ?_
      refine tt_goto (tgt := 171) dX6_isSo_144 rfl ?_
      refine tt_iload_n (j := 0) dX6_isSo_171 rfl ?_
      refine tt_iload_n (j := 2) dX6_isSo_172 rfl ?_
      refine tt_iconst (v := 1) dX6_isSo_173 rfl ?_
      refine tt_iand dX6_isSo_174 ?_
      refine tt_if_ne (tgt := 182) dX6_isSo_175 rfl (fun q257 => ?_) (fun q257 => ?_)
      · skip
        have h258 : Rg 1 1 (x1 &&& 1) := rg_ne_lo (rg_and (x := x1) (⟨by decide, by decide⟩ : Rg 1 1 1)) (⟨by decide, by decide⟩ : Rg 0 0 0) q257
        refine tt_iconst (v := 0) dX6_isSo_182 rfl ?_
        refine tt_icmp_ne (tgt := 190) dX6_isSo_183 rfl (fun q => absurd q (by decide)) (fun _ => ?_)
        refine tt_iconst (v := 1) dX6_isSo_186 rfl ?_
        refine tt_goto (tgt := 191) dX6_isSo_187 rfl ?_
        have hF : G_X6_isSo (AC S i1) (QC S o0 hd) x1 = 1 := by
          exact g_X6_isSo_65 q101 q111 q125 q135 q149 q159 q173 q189 q203 q213 q227 q241 q255 q256 q257
        exact tt_ireturn dX6_isSo_191 .boolean rfl rfl (hP _ _ _ _ ⟨hG, hA, Or.inl ⟨_, rfl, ⟨_, rfl, rg_w (⟨by decide, by decide⟩ : Rg 1 1 1)⟩, ⟨rfl, congrArg (fun q => some (Value.int q)) hF.symm⟩, rfl, rfl⟩⟩)
      · skip
        have h259 : Rg 0 0 (x1 &&& 1) := rg_eq_l (rg_and (x := x1) (⟨by decide, by decide⟩ : Rg 1 1 1)) (⟨by decide, by decide⟩ : Rg 0 0 0) q257
        refine tt_iconst (v := 1) dX6_isSo_178 rfl ?_
        refine tt_goto (tgt := 183) dX6_isSo_179 rfl ?_
        refine tt_icmp_ne (tgt := 190) dX6_isSo_183 rfl (fun _ => ?_) (fun q => absurd q (by decide))
        refine tt_iconst (v := 0) dX6_isSo_190 rfl ?_
        have hF : G_X6_isSo (AC S i1) (QC S o0 hd) x1 = 0 := by
          exact g_X6_isSo_64 q101 q111 q125 q135 q149 q159 q173 q189 q203 q213 q227 q241 q255 q256 q257
        exact tt_ireturn dX6_isSo_191 .boolean rfl rfl (hP _ _ _ _ ⟨hG, hA, Or.inl ⟨_, rfl, ⟨_, rfl, rg_w (⟨by decide, by decide⟩ : Rg 0 0 0)⟩, ⟨rfl, congrArg (fun q => some (Value.int q)) hF.symm⟩, rfl, rfl⟩⟩)
    · skip
      refine tt_iconst (v := 1) dX6_isSo_138 rfl ?_
      refine tt_goto (tgt := 143) dX6_isSo_139 rfl ?_
      refine tt_istore_n (ks := [0, 1, 2]) (L' := [(2, .int 1), (0, .ref o0), (1, .int x1)]) dX6_isSo_143 (by decide) rfl ?_
      refine tt_goto (tgt := 171) dX6_isSo_144 rfl ?_
      refine tt_iload_n (j := 0) dX6_isSo_171 rfl ?_
      refine tt_iload_n (j := 2) dX6_isSo_172 rfl ?_
      refine tt_iconst (v := 1) dX6_isSo_173 rfl ?_
      refine tt_iand dX6_isSo_174 ?_
      refine tt_if_ne (tgt := 182) dX6_isSo_175 rfl (fun q260 => ?_) (fun q260 => ?_)
      · skip
        have h261 : Rg 1 1 (x1 &&& 1) := rg_ne_lo (rg_and (x := x1) (⟨by decide, by decide⟩ : Rg 1 1 1)) (⟨by decide, by decide⟩ : Rg 0 0 0) q260
        refine tt_iconst (v := 0) dX6_isSo_182 rfl ?_
        refine tt_icmp_ne (tgt := 190) dX6_isSo_183 rfl (fun _ => ?_) (fun q => absurd q (by decide))
        refine tt_iconst (v := 0) dX6_isSo_190 rfl ?_
        have hF : G_X6_isSo (AC S i1) (QC S o0 hd) x1 = 0 := by
          exact g_X6_isSo_67 q101 q111 q125 q135 q149 q159 q173 q189 q203 q213 q227 q241 q255 q256 q260
        exact tt_ireturn dX6_isSo_191 .boolean rfl rfl (hP _ _ _ _ ⟨hG, hA, Or.inl ⟨_, rfl, ⟨_, rfl, rg_w (⟨by decide, by decide⟩ : Rg 0 0 0)⟩, ⟨rfl, congrArg (fun q => some (Value.int q)) hF.symm⟩, rfl, rfl⟩⟩)
      · skip
        have h262 : Rg 0 0 (x1 &&& 1) := rg_eq_l (rg_and (x := x1) (⟨by decide, by decide⟩ : Rg 1 1 1)) (⟨by decide, by decide⟩ : Rg 0 0 0) q260
        refine tt_iconst (v := 1) dX6_isSo_178 rfl ?_
        refine tt_goto (tgt := 183) dX6_isSo_179 rfl ?_
        refine tt_icmp_ne (tgt := 190) dX6_isSo_183 rfl (fun q => absurd q (by decide)) (fun _ => ?_)
        refine tt_iconst (v := 1) dX6_isSo_186 rfl ?_
        refine tt_goto (tgt := 191) dX6_isSo_187 rfl ?_
        have hF : G_X6_isSo (AC S i1) (QC S o0 hd) x1 = 1 := by
          exact g_X6_isSo_66 q101 q111 q125 q135 q149 q159 q173 q189 q203 q213 q227 q241 q255 q256 q260
        exact tt_ireturn dX6_isSo_191 .boolean rfl rfl (hP _ _ _ _ ⟨hG, hA, Or.inl ⟨_, rfl, ⟨_, rfl, rg_w (⟨by decide, by decide⟩ : Rg 1 1 1)⟩, ⟨rfl, congrArg (fun q => some (Value.int q)) hF.symm⟩, rfl, rfl⟩⟩)
  have g263 := ne_i (k := 0) 0 q101 rfl
  have g264 := ne_i (k := 1) 1 q111 rfl
  have g265 := ne_i (k := 2) 2 q125 rfl
  have g266 := ne_i (k := 3) 3 q135 rfl
  have g267 := ne_i (k := 4) 4 q149 rfl
  have g268 := ne_i (k := 5) 5 q159 rfl
  have g269 := ne_i (k := 6) 6 q173 rfl
  have g270 := ne_i (k := 7) 7 q189 rfl
  have g271 := ne_i (k := 8) 8 q203 rfl
  have g272 := ne_i (k := 9) 9 q213 rfl
  have g273 := ne_i (k := 10) 10 q227 rfl
  have g274 := ne_i (k := 11) 11 q241 rfl
  have g275 := ne_i (k := 12) 12 q255 rfl
  refine tt_tableOut (tgt := 147) dX6_isSo_4 (by omega) rfl ?_
  refine tt_aload_n (j := 0) dX6_isSo_147 rfl ?_
  refine gt_gI (id := 390) (v := (r2 (QC S o0 hd))) dX6_isSo_148 fl_6_85 rfl rfl h0 hA (tC_390 (T := S) (o := o0) (a := hd) rfl) ?_
  refine tt_if_ne (tgt := 165) dX6_isSo_151 rfl (fun q276 => ?_) (fun q276 => ?_)
  · skip
    have h277 : Rg 1 1 (r2 (QC S o0 hd)) := rg_ne_lo (gi_I (k := 390) hG h0 0 1) (⟨by decide, by decide⟩ : Rg 0 0 0) q276
    refine tt_iconst (v := 1) dX6_isSo_165 rfl ?_
    refine tt_goto (tgt := 170) dX6_isSo_166 rfl ?_
    refine tt_istore_n (ks := [0, 1, 2]) (L' := [(2, .int 1), (0, .ref o0), (1, .int x1)]) dX6_isSo_170 (by decide) rfl ?_
    refine tt_iload_n (j := 0) dX6_isSo_171 rfl ?_
    refine tt_iload_n (j := 2) dX6_isSo_172 rfl ?_
    refine tt_iconst (v := 1) dX6_isSo_173 rfl ?_
    refine tt_iand dX6_isSo_174 ?_
    refine tt_if_ne (tgt := 182) dX6_isSo_175 rfl (fun q278 => ?_) (fun q278 => ?_)
    · skip
      have h279 : Rg 1 1 (x1 &&& 1) := rg_ne_lo (rg_and (x := x1) (⟨by decide, by decide⟩ : Rg 1 1 1)) (⟨by decide, by decide⟩ : Rg 0 0 0) q278
      refine tt_iconst (v := 0) dX6_isSo_182 rfl ?_
      refine tt_icmp_ne (tgt := 190) dX6_isSo_183 rfl (fun _ => ?_) (fun q => absurd q (by decide))
      refine tt_iconst (v := 0) dX6_isSo_190 rfl ?_
      have hF : G_X6_isSo (AC S i1) (QC S o0 hd) x1 = 0 := by
        exact g_X6_isSo_73 q101 q111 q125 q135 q149 q159 q173 q189 q203 q213 q227 q241 q255 q276 q278
      exact tt_ireturn dX6_isSo_191 .boolean rfl rfl (hP _ _ _ _ ⟨hG, hA, Or.inl ⟨_, rfl, ⟨_, rfl, rg_w (⟨by decide, by decide⟩ : Rg 0 0 0)⟩, ⟨rfl, congrArg (fun q => some (Value.int q)) hF.symm⟩, rfl, rfl⟩⟩)
    · skip
      have h280 : Rg 0 0 (x1 &&& 1) := rg_eq_l (rg_and (x := x1) (⟨by decide, by decide⟩ : Rg 1 1 1)) (⟨by decide, by decide⟩ : Rg 0 0 0) q278
      refine tt_iconst (v := 1) dX6_isSo_178 rfl ?_
      refine tt_goto (tgt := 183) dX6_isSo_179 rfl ?_
      refine tt_icmp_ne (tgt := 190) dX6_isSo_183 rfl (fun q => absurd q (by decide)) (fun _ => ?_)
      refine tt_iconst (v := 1) dX6_isSo_186 rfl ?_
      refine tt_goto (tgt := 191) dX6_isSo_187 rfl ?_
      have hF : G_X6_isSo (AC S i1) (QC S o0 hd) x1 = 1 := by
        exact g_X6_isSo_72 q101 q111 q125 q135 q149 q159 q173 q189 q203 q213 q227 q241 q255 q276 q278
      exact tt_ireturn dX6_isSo_191 .boolean rfl rfl (hP _ _ _ _ ⟨hG, hA, Or.inl ⟨_, rfl, ⟨_, rfl, rg_w (⟨by decide, by decide⟩ : Rg 1 1 1)⟩, ⟨rfl, congrArg (fun q => some (Value.int q)) hF.symm⟩, rfl, rfl⟩⟩)
  · skip
    have h281 : Rg 0 0 (r2 (QC S o0 hd)) := rg_eq_l (gi_I (k := 390) hG h0 0 1) (⟨by decide, by decide⟩ : Rg 0 0 0) q276
    refine tt_aload_n (j := 0) dX6_isSo_154 rfl ?_
    refine gt_gI (id := 391) (v := (r3 (QC S o0 hd))) dX6_isSo_155 fl_6_88 rfl rfl h0 hA (tC_391 (T := S) (o := o0) (a := hd) rfl) ?_
    refine tt_aload_n (j := 0) dX6_isSo_158 rfl ?_
    refine gt_gI (id := 393) (v := (r5 (QC S o0 hd))) dX6_isSo_159 fl_6_79 rfl rfl h0 hA (tC_393 (T := S) (o := o0) (a := hd) rfl) ?_
    refine tt_icmp_eq (tgt := 169) dX6_isSo_162 rfl (fun q282 => ?_) (fun q282 => ?_)
    · skip
      refine tt_iconst (v := 0) dX6_isSo_169 rfl ?_
      refine tt_istore_n (ks := [0, 1, 2]) (L' := [(2, .int 0), (0, .ref o0), (1, .int x1)]) dX6_isSo_170 (by decide) rfl ?_
      refine tt_iload_n (j := 0) dX6_isSo_171 rfl ?_
      refine tt_iload_n (j := 2) dX6_isSo_172 rfl ?_
      refine tt_iconst (v := 1) dX6_isSo_173 rfl ?_
      refine tt_iand dX6_isSo_174 ?_
      refine tt_if_ne (tgt := 182) dX6_isSo_175 rfl (fun q283 => ?_) (fun q283 => ?_)
      · skip
        have h284 : Rg 1 1 (x1 &&& 1) := rg_ne_lo (rg_and (x := x1) (⟨by decide, by decide⟩ : Rg 1 1 1)) (⟨by decide, by decide⟩ : Rg 0 0 0) q283
        refine tt_iconst (v := 0) dX6_isSo_182 rfl ?_
        refine tt_icmp_ne (tgt := 190) dX6_isSo_183 rfl (fun q => absurd q (by decide)) (fun _ => ?_)
        refine tt_iconst (v := 1) dX6_isSo_186 rfl ?_
        refine tt_goto (tgt := 191) dX6_isSo_187 rfl ?_
        have hF : G_X6_isSo (AC S i1) (QC S o0 hd) x1 = 1 := by
          exact g_X6_isSo_69 q101 q111 q125 q135 q149 q159 q173 q189 q203 q213 q227 q241 q255 q276 q282 q283
        exact tt_ireturn dX6_isSo_191 .boolean rfl rfl (hP _ _ _ _ ⟨hG, hA, Or.inl ⟨_, rfl, ⟨_, rfl, rg_w (⟨by decide, by decide⟩ : Rg 1 1 1)⟩, ⟨rfl, congrArg (fun q => some (Value.int q)) hF.symm⟩, rfl, rfl⟩⟩)
      · skip
        have h285 : Rg 0 0 (x1 &&& 1) := rg_eq_l (rg_and (x := x1) (⟨by decide, by decide⟩ : Rg 1 1 1)) (⟨by decide, by decide⟩ : Rg 0 0 0) q283
        refine tt_iconst (v := 1) dX6_isSo_178 rfl ?_
        refine tt_goto (tgt := 183) dX6_isSo_179 rfl ?_
        refine tt_icmp_ne (tgt := 190) dX6_isSo_183 rfl (fun _ => ?_) (fun q => absurd q (by decide))
        refine tt_iconst (v := 0) dX6_isSo_190 rfl ?_
        have hF : G_X6_isSo (AC S i1) (QC S o0 hd) x1 = 0 := by
          exact g_X6_isSo_68 q101 q111 q125 q135 q149 q159 q173 q189 q203 q213 q227 q241 q255 q276 q282 q283
        exact tt_ireturn dX6_isSo_191 .boolean rfl rfl (hP _ _ _ _ ⟨hG, hA, Or.inl ⟨_, rfl, ⟨_, rfl, rg_w (⟨by decide, by decide⟩ : Rg 0 0 0)⟩, ⟨rfl, congrArg (fun q => some (Value.int q)) hF.symm⟩, rfl, rfl⟩⟩)
    · skip
      refine tt_iconst (v := 1) dX6_isSo_165 rfl ?_
      refine tt_goto (tgt := 170) dX6_isSo_166 rfl ?_
      refine tt_istore_n (ks := [0, 1, 2]) (L' := [(2, .int 1), (0, .ref o0), (1, .int x1)]) dX6_isSo_170 (by decide) rfl ?_
      refine tt_iload_n (j := 0) dX6_isSo_171 rfl ?_
      refine tt_iload_n (j := 2) dX6_isSo_172 rfl ?_
      refine tt_iconst (v := 1) dX6_isSo_173 rfl ?_
      refine tt_iand dX6_isSo_174 ?_
      refine tt_if_ne (tgt := 182) dX6_isSo_175 rfl (fun q286 => ?_) (fun q286 => ?_)
      · skip
        have h287 : Rg 1 1 (x1 &&& 1) := rg_ne_lo (rg_and (x := x1) (⟨by decide, by decide⟩ : Rg 1 1 1)) (⟨by decide, by decide⟩ : Rg 0 0 0) q286
        refine tt_iconst (v := 0) dX6_isSo_182 rfl ?_
        refine tt_icmp_ne (tgt := 190) dX6_isSo_183 rfl (fun _ => ?_) (fun q => absurd q (by decide))
        refine tt_iconst (v := 0) dX6_isSo_190 rfl ?_
        have hF : G_X6_isSo (AC S i1) (QC S o0 hd) x1 = 0 := by
          exact g_X6_isSo_71 q101 q111 q125 q135 q149 q159 q173 q189 q203 q213 q227 q241 q255 q276 q282 q286
        exact tt_ireturn dX6_isSo_191 .boolean rfl rfl (hP _ _ _ _ ⟨hG, hA, Or.inl ⟨_, rfl, ⟨_, rfl, rg_w (⟨by decide, by decide⟩ : Rg 0 0 0)⟩, ⟨rfl, congrArg (fun q => some (Value.int q)) hF.symm⟩, rfl, rfl⟩⟩)
      · skip
        have h288 : Rg 0 0 (x1 &&& 1) := rg_eq_l (rg_and (x := x1) (⟨by decide, by decide⟩ : Rg 1 1 1)) (⟨by decide, by decide⟩ : Rg 0 0 0) q286
        refine tt_iconst (v := 1) dX6_isSo_178 rfl ?_
        refine tt_goto (tgt := 183) dX6_isSo_179 rfl ?_
        refine tt_icmp_ne (tgt := 190) dX6_isSo_183 rfl (fun q => absurd q (by decide)) (fun _ => ?_)
        refine tt_iconst (v := 1) dX6_isSo_186 rfl ?_
        refine tt_goto (tgt := 191) dX6_isSo_187 rfl ?_
        have hF : G_X6_isSo (AC S i1) (QC S o0 hd) x1 = 1 := by
          exact g_X6_isSo_70 q101 q111 q125 q135 q149 q159 q173 q189 q203 q213 q227 q241 q255 q276 q282 q286
        exact tt_ireturn dX6_isSo_191 .boolean rfl rfl (hP _ _ _ _ ⟨hG, hA, Or.inl ⟨_, rfl, ⟨_, rfl, rg_w (⟨by decide, by decide⟩ : Rg 1 1 1)⟩, ⟨rfl, congrArg (fun q => some (Value.int q)) hF.symm⟩, rfl, rfl⟩⟩)
def G_X6_moveTo (n : Int32) (q : AU) (w : RS) (y1 : Int64) : RS :=
  if (G_holds n (y1)) = 0 then
    ((-2), (r1 w), (r2 w), (r3 w), (r4 w), (r5 w), (rA w))
  else
    ((y1 : Int64).toInt32, (r1 w), (r2 w), (r3 w), (r4 w), (r5 w), (rA w))
theorem g_X6_moveTo_0 {n : Int32} {q : AU} {w : RS} {y1 : Int64} (h0 : (G_holds n (y1)) = 0) : G_X6_moveTo n q w y1 = ((-2), (r1 w), (r2 w), (r3 w), (r4 w), (r5 w), (rA w)) := by unfold G_X6_moveTo; exact if_pos h0
theorem g_X6_moveTo_1 {n : Int32} {q : AU} {w : RS} {y1 : Int64} (h0 : ¬ (G_holds n (y1)) = 0) : G_X6_moveTo n q w y1 = ((y1 : Int64).toInt32, (r1 w), (r2 w), (r3 w), (r4 w), (r5 w), (rA w)) := by unfold G_X6_moveTo; exact if_neg h0
set_option maxHeartbeats 40000000 in
theorem cr_X6_moveTo {xi : SX} {S : Hp} {E : List Nat} {kc nc : Nat} {P : Po} {o0 : Nat} {y1 : Int64} {i1 hd : Nat} {bs : Nat → Int32} {n : Int32} (hG : GI S E) (hc : RC S E o0 i1 hd bs n) (hP : ∀ r T x y, PV E [388] S kc nc rV (fun v T => QC T o0 hd = G_X6_moveTo n (AC S i1) (QC S o0 hd) y1) [] r T x y → P r T x y) : TT xi M_X6_moveTo 0 [(0, .ref o0), (1, .long y1)] [] S kc nc P := by
  obtain ⟨h0, hri, hoi, hrh, hoh, hb, cb, hrc, hoc, rfl⟩ := id hc
  have hA : Af E [388] S S := af_rf
  refine tt_aload_n (j := 0) dX6_moveTo_0 rfl ?_
  refine tt_aload_n (j := 0) dX6_moveTo_1 rfl ?_
  refine gt_gR (id := 384) dX6_moveTo_2 fl_6_22 rfl rfl h0 hA hrc ?_
  refine tt_lload_n (j := 1) dX6_moveTo_5 rfl ?_
  refine gt_VIp (As := [.long y1]) dX6_moveTo_6 ca_X6_73 ⟨by decide, by decide⟩ hoc hA rfl (Nat.le_of_ble_eq_true rfl) (Nat.le_of_ble_eq_true rfl) (by decide) (cr_X1_holds hG (oa_af hoc hA) (fun _ _ _ _ h => h)) rfl (fun _ h => nomatch h) (fun _ _ q => q.1) (fun x101 h102 hx103 => ?_)
  obtain rfl : G_holds (hp_I S 65 cb) (y1) = x101 := (hx103.2 _ rfl).symm
  refine tt_if_eq (tgt := 17) dX6_moveTo_9 rfl (fun q104 => ?_) (fun q104 => ?_)
  · skip
    have h105 : Rg 0 0 (G_holds (hp_I S 65 cb) (y1)) := rg_eq_l h102 (⟨by decide, by decide⟩ : Rg 0 0 0) q104
    refine tt_bipush (v := (-2)) dX6_moveTo_17 rfl ?_
    refine gt_pIj (id := 388) (x := (-2)) dX6_moveTo_19 fl_6_18 rfl rfl h0 hA rfl rfl rfl (gp_I hG) (by decide) (fun h => absurd h (by decide)) (fun h => absurd h (by decide)) (fun S106 hG107 hA108 e109 f110 er111 ej112 => ?_)
    have hF : G_X6_moveTo (hp_I S 65 cb) (AC S i1) (QC S o0 hd) y1 = ((-2), (r1 (QC S o0 hd)), (r2 (QC S o0 hd)), (r3 (QC S o0 hd)), (r4 (QC S o0 hd)), (r5 (QC S o0 hd)), (rA (QC S o0 hd))) := by
      exact g_X6_moveTo_0 q104
    exact tt_vreturn dX6_moveTo_22 rfl (hP _ _ _ _ ⟨hG107, hA108, Or.inl ⟨_, rfl, rfl, Eq.trans (qC_mk (by rw [e109]; exact up2_self) ((congrFun (congrFun e109 389) o0).trans ((congrFun (up2_ne (k := 389)) o0).trans (tC_389 (T := S) (o := o0) (a := hd) rfl))) ((congrFun (congrFun e109 390) o0).trans ((congrFun (up2_ne (k := 390)) o0).trans (tC_390 (T := S) (o := o0) (a := hd) rfl))) ((congrFun (congrFun e109 391) o0).trans ((congrFun (up2_ne (k := 391)) o0).trans (tC_391 (T := S) (o := o0) (a := hd) rfl))) ((congrFun (congrFun e109 392) o0).trans ((congrFun (up2_ne (k := 392)) o0).trans (tC_392 (T := S) (o := o0) (a := hd) rfl))) ((congrFun (congrFun e109 393) o0).trans ((congrFun (up2_ne (k := 393)) o0).trans (tC_393 (T := S) (o := o0) (a := hd) rfl))) ((congrFun ej112 hd).trans rfl)) hF.symm, rfl, rfl⟩⟩)
  · skip
    have h113 : Rg 1 1 (G_holds (hp_I S 65 cb) (y1)) := rg_ne_lo h102 (⟨by decide, by decide⟩ : Rg 0 0 0) q104
    refine tt_lload_n (j := 1) dX6_moveTo_12 rfl ?_
    refine tt_l2i dX6_moveTo_13 ?_
    refine tt_goto (tgt := 19) dX6_moveTo_14 rfl ?_
    refine gt_pIj (id := 388) (x := (y1 : Int64).toInt32) dX6_moveTo_19 fl_6_18 rfl rfl h0 hA rfl rfl rfl (gp_I hG) (by decide) (fun h => absurd h (by decide)) (fun h => absurd h (by decide)) (fun S114 hG115 hA116 e117 f118 er119 ej120 => ?_)
    have hF : G_X6_moveTo (hp_I S 65 cb) (AC S i1) (QC S o0 hd) y1 = ((y1 : Int64).toInt32, (r1 (QC S o0 hd)), (r2 (QC S o0 hd)), (r3 (QC S o0 hd)), (r4 (QC S o0 hd)), (r5 (QC S o0 hd)), (rA (QC S o0 hd))) := by
      exact g_X6_moveTo_1 q104
    exact tt_vreturn dX6_moveTo_22 rfl (hP _ _ _ _ ⟨hG115, hA116, Or.inl ⟨_, rfl, rfl, Eq.trans (qC_mk (by rw [e117]; exact up2_self) ((congrFun (congrFun e117 389) o0).trans ((congrFun (up2_ne (k := 389)) o0).trans (tC_389 (T := S) (o := o0) (a := hd) rfl))) ((congrFun (congrFun e117 390) o0).trans ((congrFun (up2_ne (k := 390)) o0).trans (tC_390 (T := S) (o := o0) (a := hd) rfl))) ((congrFun (congrFun e117 391) o0).trans ((congrFun (up2_ne (k := 391)) o0).trans (tC_391 (T := S) (o := o0) (a := hd) rfl))) ((congrFun (congrFun e117 392) o0).trans ((congrFun (up2_ne (k := 392)) o0).trans (tC_392 (T := S) (o := o0) (a := hd) rfl))) ((congrFun (congrFun e117 393) o0).trans ((congrFun (up2_ne (k := 393)) o0).trans (tC_393 (T := S) (o := o0) (a := hd) rfl))) ((congrFun ej120 hd).trans rfl)) hF.symm, rfl, rfl⟩⟩)
theorem sl_X6_compute_p62_63 : (#[89, 179, 274, 274, 164, 103, 194, 117, 209, 221, 128, 141, 141, 274, 244, 244, 244, 244, 233] : Array Int).toList = [89, 179, 274, 274, 164, 103, 194, 117, 209, 221, 128, 141, 141, 274, 244, 244, 244, 244, 233] := rfl
def G_X6_compute_p62 (q : AU) (w : RS) (x1 : Int32) (y2 : Int64) (y4 : Int64) : RS :=
  if x1 = 0 then
    let d107 := G_X6_sum q w (y2) (y4)
    let d117 := G_X6_write q d107.1 (d107.2)
    d117
  else
    if x1 = 1 then
      let d127 := G_X6_noteBits q w ((y2 ||| y4))
      let d137 := G_X6_write q d127.1 (d127.2)
      d137
    else
      if x1 = 2 then
        let d147 := G_X6_write q w (y4)
        d147
      else
        if x1 = 3 then
          let d157 := G_X6_write q w (y4)
          d157
        else
          if x1 = 4 then
            let d167 := G_X6_noteBits q w ((y2 &&& y4))
            let d177 := G_X6_write q d167.1 (d167.2)
            d177
          else
            if x1 = 5 then
              let d187 := G_X6_difference q w (y2) (y4)
              let d197 := G_X6_write q d187.1 (d187.2)
              d197
            else
              if x1 = 6 then
                let d207 := G_X6_noteBits q w ((y2 ^^^ y4))
                let d217 := G_X6_write q d207.1 (d207.2)
                d217
              else
                if x1 = 7 then
                  let d227 := G_X6_difference q w (y2) (y4)
                  d227.1
                else
                  if x1 = 8 then
                    let d238 := G_X6_noteBits q w ((y2 &&& y4))
                    d238.1
                  else
                    if x1 = 9 then
                      let d249 := G_X6_write q w ((y2 ^^^ (-1)))
                      d249
                    else
                      if x1 = 10 then
                        let d259 := G_X6_difference q w (0) (y2)
                        let d269 := G_X6_write q d259.1 (d259.2)
                        d269
                      else
                        if x1 = 11 then
                          let d279 := G_X6_nextTo q w (y2) (1)
                          let d289 := G_X6_write q d279.1 (d279.2)
                          d289
                        else
                          if x1 = 12 then
                            let d299 := G_X6_nextTo q w (y2) (0)
                            let d309 := G_X6_write q d299.1 (d299.2)
                            d309
                          else
                            if x1 = 13 then
                              let d319 := G_X6_write q w (y4)
                              d319
                            else
                              if x1 = 14 then
                                if x1 = 17 then
                                  let d350 := G_X6_write q ((r0 w), 0, (r2 w), (r3 w), (r4 w), (r5 w), (rA w)) ((y2 * y4))
                                  d350
                                else
                                  let d340 := G_X6_write q ((r0 w), 0, (r2 w), (r3 w), (r4 w), (r5 w), (rA w)) ((G_X6_shifted q ((r0 w), 0, (r2 w), (r3 w), (r4 w), (r5 w), (rA w)) (y2)))
                                  d340
                              else
                                if x1 = 15 then
                                  if x1 = 17 then
                                    let d381 := G_X6_write q ((r0 w), 0, (r2 w), (r3 w), (r4 w), (r5 w), (rA w)) ((y2 * y4))
                                    d381
                                  else
                                    let d371 := G_X6_write q ((r0 w), 0, (r2 w), (r3 w), (r4 w), (r5 w), (rA w)) ((G_X6_shifted q ((r0 w), 0, (r2 w), (r3 w), (r4 w), (r5 w), (rA w)) (y2)))
                                    d371
                                else
                                  if x1 = 16 then
                                    if x1 = 17 then
                                      let d412 := G_X6_write q ((r0 w), 0, (r2 w), (r3 w), (r4 w), (r5 w), (rA w)) ((y2 * y4))
                                      d412
                                    else
                                      let d402 := G_X6_write q ((r0 w), 0, (r2 w), (r3 w), (r4 w), (r5 w), (rA w)) ((G_X6_shifted q ((r0 w), 0, (r2 w), (r3 w), (r4 w), (r5 w), (rA w)) (y2)))
                                      d402
                                  else
                                    if x1 = 17 then
                                      let d429 := G_X6_write q ((r0 w), 0, (r2 w), (r3 w), (r4 w), (r5 w), (rA w)) ((y2 * y4))
                                      d429
                                    else
                                      if x1 = 18 then
                                        let d439 := G_X6_write q w (((y4 : Int64).toInt32 : Int32).toInt64)
                                        d439
                                      else
                                        let d467 := G_X6_write q w (y4)
                                        d467
theorem g_X6_compute_p62_0 {q : AU} {w : RS} {x1 : Int32} {y2 : Int64} {y4 : Int64} (h0 : x1 = 0) : G_X6_compute_p62 q w x1 y2 y4 = (G_X6_write q (G_X6_sum q w (y2) (y4)).1 ((G_X6_sum q w (y2) (y4)).2)) := by unfold G_X6_compute_p62; exact if_pos h0
theorem g_X6_compute_p62_1 {q : AU} {w : RS} {x1 : Int32} {y2 : Int64} {y4 : Int64} (h0 : ¬ x1 = 0) (h1 : x1 = 1) : G_X6_compute_p62 q w x1 y2 y4 = (G_X6_write q (G_X6_noteBits q w ((y2 ||| y4))).1 ((G_X6_noteBits q w ((y2 ||| y4))).2)) := by unfold G_X6_compute_p62; exact Eq.trans (if_neg h0) (if_pos h1)
theorem g_X6_compute_p62_2 {q : AU} {w : RS} {x1 : Int32} {y2 : Int64} {y4 : Int64} (h0 : ¬ x1 = 0) (h1 : ¬ x1 = 1) (h2 : x1 = 2) : G_X6_compute_p62 q w x1 y2 y4 = (G_X6_write q w (y4)) := by unfold G_X6_compute_p62; exact Eq.trans (if_neg h0) (Eq.trans (if_neg h1) (if_pos h2))
theorem g_X6_compute_p62_3 {q : AU} {w : RS} {x1 : Int32} {y2 : Int64} {y4 : Int64} (h0 : ¬ x1 = 0) (h1 : ¬ x1 = 1) (h2 : ¬ x1 = 2) (h3 : x1 = 3) : G_X6_compute_p62 q w x1 y2 y4 = (G_X6_write q w (y4)) := by unfold G_X6_compute_p62; exact Eq.trans (if_neg h0) (Eq.trans (if_neg h1) (Eq.trans (if_neg h2) (if_pos h3)))
theorem g_X6_compute_p62_4 {q : AU} {w : RS} {x1 : Int32} {y2 : Int64} {y4 : Int64} (h0 : ¬ x1 = 0) (h1 : ¬ x1 = 1) (h2 : ¬ x1 = 2) (h3 : ¬ x1 = 3) (h4 : x1 = 4) : G_X6_compute_p62 q w x1 y2 y4 = (G_X6_write q (G_X6_noteBits q w ((y2 &&& y4))).1 ((G_X6_noteBits q w ((y2 &&& y4))).2)) := by unfold G_X6_compute_p62; exact Eq.trans (if_neg h0) (Eq.trans (if_neg h1) (Eq.trans (if_neg h2) (Eq.trans (if_neg h3) (if_pos h4))))
theorem g_X6_compute_p62_5 {q : AU} {w : RS} {x1 : Int32} {y2 : Int64} {y4 : Int64} (h0 : ¬ x1 = 0) (h1 : ¬ x1 = 1) (h2 : ¬ x1 = 2) (h3 : ¬ x1 = 3) (h4 : ¬ x1 = 4) (h5 : x1 = 5) : G_X6_compute_p62 q w x1 y2 y4 = (G_X6_write q (G_X6_difference q w (y2) (y4)).1 ((G_X6_difference q w (y2) (y4)).2)) := by unfold G_X6_compute_p62; exact Eq.trans (if_neg h0) (Eq.trans (if_neg h1) (Eq.trans (if_neg h2) (Eq.trans (if_neg h3) (Eq.trans (if_neg h4) (if_pos h5)))))
theorem g_X6_compute_p62_6 {q : AU} {w : RS} {x1 : Int32} {y2 : Int64} {y4 : Int64} (h0 : ¬ x1 = 0) (h1 : ¬ x1 = 1) (h2 : ¬ x1 = 2) (h3 : ¬ x1 = 3) (h4 : ¬ x1 = 4) (h5 : ¬ x1 = 5) (h6 : x1 = 6) : G_X6_compute_p62 q w x1 y2 y4 = (G_X6_write q (G_X6_noteBits q w ((y2 ^^^ y4))).1 ((G_X6_noteBits q w ((y2 ^^^ y4))).2)) := by unfold G_X6_compute_p62; exact Eq.trans (if_neg h0) (Eq.trans (if_neg h1) (Eq.trans (if_neg h2) (Eq.trans (if_neg h3) (Eq.trans (if_neg h4) (Eq.trans (if_neg h5) (if_pos h6))))))
theorem g_X6_compute_p62_7 {q : AU} {w : RS} {x1 : Int32} {y2 : Int64} {y4 : Int64} (h0 : ¬ x1 = 0) (h1 : ¬ x1 = 1) (h2 : ¬ x1 = 2) (h3 : ¬ x1 = 3) (h4 : ¬ x1 = 4) (h5 : ¬ x1 = 5) (h6 : ¬ x1 = 6) (h7 : x1 = 7) : G_X6_compute_p62 q w x1 y2 y4 = (G_X6_difference q w (y2) (y4)).1 := by unfold G_X6_compute_p62; exact Eq.trans (if_neg h0) (Eq.trans (if_neg h1) (Eq.trans (if_neg h2) (Eq.trans (if_neg h3) (Eq.trans (if_neg h4) (Eq.trans (if_neg h5) (Eq.trans (if_neg h6) (if_pos h7)))))))
theorem g_X6_compute_p62_8 {q : AU} {w : RS} {x1 : Int32} {y2 : Int64} {y4 : Int64} (h0 : ¬ x1 = 0) (h1 : ¬ x1 = 1) (h2 : ¬ x1 = 2) (h3 : ¬ x1 = 3) (h4 : ¬ x1 = 4) (h5 : ¬ x1 = 5) (h6 : ¬ x1 = 6) (h7 : ¬ x1 = 7) (h8 : x1 = 8) : G_X6_compute_p62 q w x1 y2 y4 = (G_X6_noteBits q w ((y2 &&& y4))).1 := by unfold G_X6_compute_p62; exact Eq.trans (if_neg h0) (Eq.trans (if_neg h1) (Eq.trans (if_neg h2) (Eq.trans (if_neg h3) (Eq.trans (if_neg h4) (Eq.trans (if_neg h5) (Eq.trans (if_neg h6) (Eq.trans (if_neg h7) (if_pos h8))))))))
theorem g_X6_compute_p62_9 {q : AU} {w : RS} {x1 : Int32} {y2 : Int64} {y4 : Int64} (h0 : ¬ x1 = 0) (h1 : ¬ x1 = 1) (h2 : ¬ x1 = 2) (h3 : ¬ x1 = 3) (h4 : ¬ x1 = 4) (h5 : ¬ x1 = 5) (h6 : ¬ x1 = 6) (h7 : ¬ x1 = 7) (h8 : ¬ x1 = 8) (h9 : x1 = 9) : G_X6_compute_p62 q w x1 y2 y4 = (G_X6_write q w ((y2 ^^^ (-1)))) := by unfold G_X6_compute_p62; exact Eq.trans (if_neg h0) (Eq.trans (if_neg h1) (Eq.trans (if_neg h2) (Eq.trans (if_neg h3) (Eq.trans (if_neg h4) (Eq.trans (if_neg h5) (Eq.trans (if_neg h6) (Eq.trans (if_neg h7) (Eq.trans (if_neg h8) (if_pos h9)))))))))
theorem g_X6_compute_p62_10 {q : AU} {w : RS} {x1 : Int32} {y2 : Int64} {y4 : Int64} (h0 : ¬ x1 = 0) (h1 : ¬ x1 = 1) (h2 : ¬ x1 = 2) (h3 : ¬ x1 = 3) (h4 : ¬ x1 = 4) (h5 : ¬ x1 = 5) (h6 : ¬ x1 = 6) (h7 : ¬ x1 = 7) (h8 : ¬ x1 = 8) (h9 : ¬ x1 = 9) (h10 : x1 = 10) : G_X6_compute_p62 q w x1 y2 y4 = (G_X6_write q (G_X6_difference q w (0) (y2)).1 ((G_X6_difference q w (0) (y2)).2)) := by unfold G_X6_compute_p62; exact Eq.trans (if_neg h0) (Eq.trans (if_neg h1) (Eq.trans (if_neg h2) (Eq.trans (if_neg h3) (Eq.trans (if_neg h4) (Eq.trans (if_neg h5) (Eq.trans (if_neg h6) (Eq.trans (if_neg h7) (Eq.trans (if_neg h8) (Eq.trans (if_neg h9) (if_pos h10))))))))))
theorem g_X6_compute_p62_11 {q : AU} {w : RS} {x1 : Int32} {y2 : Int64} {y4 : Int64} (h0 : ¬ x1 = 0) (h1 : ¬ x1 = 1) (h2 : ¬ x1 = 2) (h3 : ¬ x1 = 3) (h4 : ¬ x1 = 4) (h5 : ¬ x1 = 5) (h6 : ¬ x1 = 6) (h7 : ¬ x1 = 7) (h8 : ¬ x1 = 8) (h9 : ¬ x1 = 9) (h10 : ¬ x1 = 10) (h11 : x1 = 11) : G_X6_compute_p62 q w x1 y2 y4 = (G_X6_write q (G_X6_nextTo q w (y2) (1)).1 ((G_X6_nextTo q w (y2) (1)).2)) := by unfold G_X6_compute_p62; exact Eq.trans (if_neg h0) (Eq.trans (if_neg h1) (Eq.trans (if_neg h2) (Eq.trans (if_neg h3) (Eq.trans (if_neg h4) (Eq.trans (if_neg h5) (Eq.trans (if_neg h6) (Eq.trans (if_neg h7) (Eq.trans (if_neg h8) (Eq.trans (if_neg h9) (Eq.trans (if_neg h10) (if_pos h11)))))))))))
theorem g_X6_compute_p62_12 {q : AU} {w : RS} {x1 : Int32} {y2 : Int64} {y4 : Int64} (h0 : ¬ x1 = 0) (h1 : ¬ x1 = 1) (h2 : ¬ x1 = 2) (h3 : ¬ x1 = 3) (h4 : ¬ x1 = 4) (h5 : ¬ x1 = 5) (h6 : ¬ x1 = 6) (h7 : ¬ x1 = 7) (h8 : ¬ x1 = 8) (h9 : ¬ x1 = 9) (h10 : ¬ x1 = 10) (h11 : ¬ x1 = 11) (h12 : x1 = 12) : G_X6_compute_p62 q w x1 y2 y4 = (G_X6_write q (G_X6_nextTo q w (y2) (0)).1 ((G_X6_nextTo q w (y2) (0)).2)) := by unfold G_X6_compute_p62; exact Eq.trans (if_neg h0) (Eq.trans (if_neg h1) (Eq.trans (if_neg h2) (Eq.trans (if_neg h3) (Eq.trans (if_neg h4) (Eq.trans (if_neg h5) (Eq.trans (if_neg h6) (Eq.trans (if_neg h7) (Eq.trans (if_neg h8) (Eq.trans (if_neg h9) (Eq.trans (if_neg h10) (Eq.trans (if_neg h11) (if_pos h12))))))))))))
theorem g_X6_compute_p62_13 {q : AU} {w : RS} {x1 : Int32} {y2 : Int64} {y4 : Int64} (h0 : ¬ x1 = 0) (h1 : ¬ x1 = 1) (h2 : ¬ x1 = 2) (h3 : ¬ x1 = 3) (h4 : ¬ x1 = 4) (h5 : ¬ x1 = 5) (h6 : ¬ x1 = 6) (h7 : ¬ x1 = 7) (h8 : ¬ x1 = 8) (h9 : ¬ x1 = 9) (h10 : ¬ x1 = 10) (h11 : ¬ x1 = 11) (h12 : ¬ x1 = 12) (h13 : x1 = 13) : G_X6_compute_p62 q w x1 y2 y4 = (G_X6_write q w (y4)) := by unfold G_X6_compute_p62; exact Eq.trans (if_neg h0) (Eq.trans (if_neg h1) (Eq.trans (if_neg h2) (Eq.trans (if_neg h3) (Eq.trans (if_neg h4) (Eq.trans (if_neg h5) (Eq.trans (if_neg h6) (Eq.trans (if_neg h7) (Eq.trans (if_neg h8) (Eq.trans (if_neg h9) (Eq.trans (if_neg h10) (Eq.trans (if_neg h11) (Eq.trans (if_neg h12) (if_pos h13)))))))))))))
theorem g_X6_compute_p62_14 {q : AU} {w : RS} {x1 : Int32} {y2 : Int64} {y4 : Int64} (h0 : ¬ x1 = 0) (h1 : ¬ x1 = 1) (h2 : ¬ x1 = 2) (h3 : ¬ x1 = 3) (h4 : ¬ x1 = 4) (h5 : ¬ x1 = 5) (h6 : ¬ x1 = 6) (h7 : ¬ x1 = 7) (h8 : ¬ x1 = 8) (h9 : ¬ x1 = 9) (h10 : ¬ x1 = 10) (h11 : ¬ x1 = 11) (h12 : ¬ x1 = 12) (h13 : ¬ x1 = 13) (h14 : x1 = 14) (h15 : x1 = 17) : G_X6_compute_p62 q w x1 y2 y4 = (G_X6_write q ((r0 w), 0, (r2 w), (r3 w), (r4 w), (r5 w), (rA w)) ((y2 * y4))) := by unfold G_X6_compute_p62; exact Eq.trans (if_neg h0) (Eq.trans (if_neg h1) (Eq.trans (if_neg h2) (Eq.trans (if_neg h3) (Eq.trans (if_neg h4) (Eq.trans (if_neg h5) (Eq.trans (if_neg h6) (Eq.trans (if_neg h7) (Eq.trans (if_neg h8) (Eq.trans (if_neg h9) (Eq.trans (if_neg h10) (Eq.trans (if_neg h11) (Eq.trans (if_neg h12) (Eq.trans (if_neg h13) (Eq.trans (if_pos h14) (if_pos h15)))))))))))))))
theorem g_X6_compute_p62_15 {q : AU} {w : RS} {x1 : Int32} {y2 : Int64} {y4 : Int64} (h0 : ¬ x1 = 0) (h1 : ¬ x1 = 1) (h2 : ¬ x1 = 2) (h3 : ¬ x1 = 3) (h4 : ¬ x1 = 4) (h5 : ¬ x1 = 5) (h6 : ¬ x1 = 6) (h7 : ¬ x1 = 7) (h8 : ¬ x1 = 8) (h9 : ¬ x1 = 9) (h10 : ¬ x1 = 10) (h11 : ¬ x1 = 11) (h12 : ¬ x1 = 12) (h13 : ¬ x1 = 13) (h14 : x1 = 14) (h15 : ¬ x1 = 17) : G_X6_compute_p62 q w x1 y2 y4 = (G_X6_write q ((r0 w), 0, (r2 w), (r3 w), (r4 w), (r5 w), (rA w)) ((G_X6_shifted q ((r0 w), 0, (r2 w), (r3 w), (r4 w), (r5 w), (rA w)) (y2)))) := by unfold G_X6_compute_p62; exact Eq.trans (if_neg h0) (Eq.trans (if_neg h1) (Eq.trans (if_neg h2) (Eq.trans (if_neg h3) (Eq.trans (if_neg h4) (Eq.trans (if_neg h5) (Eq.trans (if_neg h6) (Eq.trans (if_neg h7) (Eq.trans (if_neg h8) (Eq.trans (if_neg h9) (Eq.trans (if_neg h10) (Eq.trans (if_neg h11) (Eq.trans (if_neg h12) (Eq.trans (if_neg h13) (Eq.trans (if_pos h14) (if_neg h15)))))))))))))))
theorem g_X6_compute_p62_16 {q : AU} {w : RS} {x1 : Int32} {y2 : Int64} {y4 : Int64} (h0 : ¬ x1 = 0) (h1 : ¬ x1 = 1) (h2 : ¬ x1 = 2) (h3 : ¬ x1 = 3) (h4 : ¬ x1 = 4) (h5 : ¬ x1 = 5) (h6 : ¬ x1 = 6) (h7 : ¬ x1 = 7) (h8 : ¬ x1 = 8) (h9 : ¬ x1 = 9) (h10 : ¬ x1 = 10) (h11 : ¬ x1 = 11) (h12 : ¬ x1 = 12) (h13 : ¬ x1 = 13) (h14 : ¬ x1 = 14) (h15 : x1 = 15) (h16 : x1 = 17) : G_X6_compute_p62 q w x1 y2 y4 = (G_X6_write q ((r0 w), 0, (r2 w), (r3 w), (r4 w), (r5 w), (rA w)) ((y2 * y4))) := by unfold G_X6_compute_p62; exact Eq.trans (if_neg h0) (Eq.trans (if_neg h1) (Eq.trans (if_neg h2) (Eq.trans (if_neg h3) (Eq.trans (if_neg h4) (Eq.trans (if_neg h5) (Eq.trans (if_neg h6) (Eq.trans (if_neg h7) (Eq.trans (if_neg h8) (Eq.trans (if_neg h9) (Eq.trans (if_neg h10) (Eq.trans (if_neg h11) (Eq.trans (if_neg h12) (Eq.trans (if_neg h13) (Eq.trans (if_neg h14) (Eq.trans (if_pos h15) (if_pos h16))))))))))))))))
theorem g_X6_compute_p62_17 {q : AU} {w : RS} {x1 : Int32} {y2 : Int64} {y4 : Int64} (h0 : ¬ x1 = 0) (h1 : ¬ x1 = 1) (h2 : ¬ x1 = 2) (h3 : ¬ x1 = 3) (h4 : ¬ x1 = 4) (h5 : ¬ x1 = 5) (h6 : ¬ x1 = 6) (h7 : ¬ x1 = 7) (h8 : ¬ x1 = 8) (h9 : ¬ x1 = 9) (h10 : ¬ x1 = 10) (h11 : ¬ x1 = 11) (h12 : ¬ x1 = 12) (h13 : ¬ x1 = 13) (h14 : ¬ x1 = 14) (h15 : x1 = 15) (h16 : ¬ x1 = 17) : G_X6_compute_p62 q w x1 y2 y4 = (G_X6_write q ((r0 w), 0, (r2 w), (r3 w), (r4 w), (r5 w), (rA w)) ((G_X6_shifted q ((r0 w), 0, (r2 w), (r3 w), (r4 w), (r5 w), (rA w)) (y2)))) := by unfold G_X6_compute_p62; exact Eq.trans (if_neg h0) (Eq.trans (if_neg h1) (Eq.trans (if_neg h2) (Eq.trans (if_neg h3) (Eq.trans (if_neg h4) (Eq.trans (if_neg h5) (Eq.trans (if_neg h6) (Eq.trans (if_neg h7) (Eq.trans (if_neg h8) (Eq.trans (if_neg h9) (Eq.trans (if_neg h10) (Eq.trans (if_neg h11) (Eq.trans (if_neg h12) (Eq.trans (if_neg h13) (Eq.trans (if_neg h14) (Eq.trans (if_pos h15) (if_neg h16))))))))))))))))
theorem g_X6_compute_p62_18 {q : AU} {w : RS} {x1 : Int32} {y2 : Int64} {y4 : Int64} (h0 : ¬ x1 = 0) (h1 : ¬ x1 = 1) (h2 : ¬ x1 = 2) (h3 : ¬ x1 = 3) (h4 : ¬ x1 = 4) (h5 : ¬ x1 = 5) (h6 : ¬ x1 = 6) (h7 : ¬ x1 = 7) (h8 : ¬ x1 = 8) (h9 : ¬ x1 = 9) (h10 : ¬ x1 = 10) (h11 : ¬ x1 = 11) (h12 : ¬ x1 = 12) (h13 : ¬ x1 = 13) (h14 : ¬ x1 = 14) (h15 : ¬ x1 = 15) (h16 : x1 = 16) (h17 : x1 = 17) : G_X6_compute_p62 q w x1 y2 y4 = (G_X6_write q ((r0 w), 0, (r2 w), (r3 w), (r4 w), (r5 w), (rA w)) ((y2 * y4))) := by unfold G_X6_compute_p62; exact Eq.trans (if_neg h0) (Eq.trans (if_neg h1) (Eq.trans (if_neg h2) (Eq.trans (if_neg h3) (Eq.trans (if_neg h4) (Eq.trans (if_neg h5) (Eq.trans (if_neg h6) (Eq.trans (if_neg h7) (Eq.trans (if_neg h8) (Eq.trans (if_neg h9) (Eq.trans (if_neg h10) (Eq.trans (if_neg h11) (Eq.trans (if_neg h12) (Eq.trans (if_neg h13) (Eq.trans (if_neg h14) (Eq.trans (if_neg h15) (Eq.trans (if_pos h16) (if_pos h17)))))))))))))))))
theorem g_X6_compute_p62_19 {q : AU} {w : RS} {x1 : Int32} {y2 : Int64} {y4 : Int64} (h0 : ¬ x1 = 0) (h1 : ¬ x1 = 1) (h2 : ¬ x1 = 2) (h3 : ¬ x1 = 3) (h4 : ¬ x1 = 4) (h5 : ¬ x1 = 5) (h6 : ¬ x1 = 6) (h7 : ¬ x1 = 7) (h8 : ¬ x1 = 8) (h9 : ¬ x1 = 9) (h10 : ¬ x1 = 10) (h11 : ¬ x1 = 11) (h12 : ¬ x1 = 12) (h13 : ¬ x1 = 13) (h14 : ¬ x1 = 14) (h15 : ¬ x1 = 15) (h16 : x1 = 16) (h17 : ¬ x1 = 17) : G_X6_compute_p62 q w x1 y2 y4 = (G_X6_write q ((r0 w), 0, (r2 w), (r3 w), (r4 w), (r5 w), (rA w)) ((G_X6_shifted q ((r0 w), 0, (r2 w), (r3 w), (r4 w), (r5 w), (rA w)) (y2)))) := by unfold G_X6_compute_p62; exact Eq.trans (if_neg h0) (Eq.trans (if_neg h1) (Eq.trans (if_neg h2) (Eq.trans (if_neg h3) (Eq.trans (if_neg h4) (Eq.trans (if_neg h5) (Eq.trans (if_neg h6) (Eq.trans (if_neg h7) (Eq.trans (if_neg h8) (Eq.trans (if_neg h9) (Eq.trans (if_neg h10) (Eq.trans (if_neg h11) (Eq.trans (if_neg h12) (Eq.trans (if_neg h13) (Eq.trans (if_neg h14) (Eq.trans (if_neg h15) (Eq.trans (if_pos h16) (if_neg h17)))))))))))))))))
theorem g_X6_compute_p62_20 {q : AU} {w : RS} {x1 : Int32} {y2 : Int64} {y4 : Int64} (h0 : ¬ x1 = 0) (h1 : ¬ x1 = 1) (h2 : ¬ x1 = 2) (h3 : ¬ x1 = 3) (h4 : ¬ x1 = 4) (h5 : ¬ x1 = 5) (h6 : ¬ x1 = 6) (h7 : ¬ x1 = 7) (h8 : ¬ x1 = 8) (h9 : ¬ x1 = 9) (h10 : ¬ x1 = 10) (h11 : ¬ x1 = 11) (h12 : ¬ x1 = 12) (h13 : ¬ x1 = 13) (h14 : ¬ x1 = 14) (h15 : ¬ x1 = 15) (h16 : ¬ x1 = 16) (h17 : x1 = 17) : G_X6_compute_p62 q w x1 y2 y4 = (G_X6_write q ((r0 w), 0, (r2 w), (r3 w), (r4 w), (r5 w), (rA w)) ((y2 * y4))) := by unfold G_X6_compute_p62; exact Eq.trans (if_neg h0) (Eq.trans (if_neg h1) (Eq.trans (if_neg h2) (Eq.trans (if_neg h3) (Eq.trans (if_neg h4) (Eq.trans (if_neg h5) (Eq.trans (if_neg h6) (Eq.trans (if_neg h7) (Eq.trans (if_neg h8) (Eq.trans (if_neg h9) (Eq.trans (if_neg h10) (Eq.trans (if_neg h11) (Eq.trans (if_neg h12) (Eq.trans (if_neg h13) (Eq.trans (if_neg h14) (Eq.trans (if_neg h15) (Eq.trans (if_neg h16) (if_pos h17)))))))))))))))))
theorem g_X6_compute_p62_21 {q : AU} {w : RS} {x1 : Int32} {y2 : Int64} {y4 : Int64} (h0 : ¬ x1 = 0) (h1 : ¬ x1 = 1) (h2 : ¬ x1 = 2) (h3 : ¬ x1 = 3) (h4 : ¬ x1 = 4) (h5 : ¬ x1 = 5) (h6 : ¬ x1 = 6) (h7 : ¬ x1 = 7) (h8 : ¬ x1 = 8) (h9 : ¬ x1 = 9) (h10 : ¬ x1 = 10) (h11 : ¬ x1 = 11) (h12 : ¬ x1 = 12) (h13 : ¬ x1 = 13) (h14 : ¬ x1 = 14) (h15 : ¬ x1 = 15) (h16 : ¬ x1 = 16) (h17 : ¬ x1 = 17) (h18 : x1 = 18) : G_X6_compute_p62 q w x1 y2 y4 = (G_X6_write q w (((y4 : Int64).toInt32 : Int32).toInt64)) := by unfold G_X6_compute_p62; exact Eq.trans (if_neg h0) (Eq.trans (if_neg h1) (Eq.trans (if_neg h2) (Eq.trans (if_neg h3) (Eq.trans (if_neg h4) (Eq.trans (if_neg h5) (Eq.trans (if_neg h6) (Eq.trans (if_neg h7) (Eq.trans (if_neg h8) (Eq.trans (if_neg h9) (Eq.trans (if_neg h10) (Eq.trans (if_neg h11) (Eq.trans (if_neg h12) (Eq.trans (if_neg h13) (Eq.trans (if_neg h14) (Eq.trans (if_neg h15) (Eq.trans (if_neg h16) (Eq.trans (if_neg h17) (if_pos h18))))))))))))))))))
theorem g_X6_compute_p62_22 {q : AU} {w : RS} {x1 : Int32} {y2 : Int64} {y4 : Int64} (h0 : ¬ x1 = 0) (h1 : ¬ x1 = 1) (h2 : ¬ x1 = 2) (h3 : ¬ x1 = 3) (h4 : ¬ x1 = 4) (h5 : ¬ x1 = 5) (h6 : ¬ x1 = 6) (h7 : ¬ x1 = 7) (h8 : ¬ x1 = 8) (h9 : ¬ x1 = 9) (h10 : ¬ x1 = 10) (h11 : ¬ x1 = 11) (h12 : ¬ x1 = 12) (h13 : ¬ x1 = 13) (h14 : ¬ x1 = 14) (h15 : ¬ x1 = 15) (h16 : ¬ x1 = 16) (h17 : ¬ x1 = 17) (h18 : ¬ x1 = 18) : G_X6_compute_p62 q w x1 y2 y4 = (G_X6_write q w (y4)) := by unfold G_X6_compute_p62; exact Eq.trans (if_neg h0) (Eq.trans (if_neg h1) (Eq.trans (if_neg h2) (Eq.trans (if_neg h3) (Eq.trans (if_neg h4) (Eq.trans (if_neg h5) (Eq.trans (if_neg h6) (Eq.trans (if_neg h7) (Eq.trans (if_neg h8) (Eq.trans (if_neg h9) (Eq.trans (if_neg h10) (Eq.trans (if_neg h11) (Eq.trans (if_neg h12) (Eq.trans (if_neg h13) (Eq.trans (if_neg h14) (Eq.trans (if_neg h15) (Eq.trans (if_neg h16) (Eq.trans (if_neg h17) (if_neg h18))))))))))))))))))
set_option maxHeartbeats 40000000 in
theorem cr_X6_compute_p62 {xi : SX} {S : Hp} {E : List Nat} {kc nc : Nat} {P : Po} {o0 : Nat} {x1 : Int32} {y2 : Int64} {y4 : Int64} {i1 hd : Nat} {bs : Nat → Int32} {n : Int32} (hG : GI S E) (hc : RC S E o0 i1 hd bs n) (hP : ∀ r T x y, PV E [389, 390, 391, 392, 393, 9993] S kc nc rV (fun v T => QC T o0 hd = G_X6_compute_p62 (AC S i1) (QC S o0 hd) x1 y2 y4) [] r T x y → P r T x y) : TT xi M_X6_compute 62 [(0, .ref o0), (1, .int x1), (2, .long y2), (4, .long y4)] [] S kc nc P := by
  obtain ⟨h0, hri, hoi, hrh, hoh, hb, cb, hrc, hoc, rfl⟩ := id hc
  have hA : Af E [389, 390, 391, 392, 393, 9993] S S := af_rf
  refine tt_iload_n (j := 1) dX6_compute_62 rfl ?_
  refine gt_by (c := x1 = 0) (fun q101 => ?_) (fun q101 => ?_)
  · skip
    refine gt_tseqL (off := 89) (tgt := 152) 0 0 dX6_compute_63 sl_X6_compute_p62_63 q101 rfl (by decide) (by decide) rfl rfl ?_
    refine tt_aload_n (j := 0) dX6_compute_152 rfl ?_
    refine tt_aload_n (j := 0) dX6_compute_153 rfl ?_
    refine tt_lload_n (j := 2) dX6_compute_154 rfl ?_
    refine tt_lload (j := 3) dX6_compute_155 rfl ?_
    refine gt_VJ (As := [.long y2, .long y4]) dX6_compute_157 ca_X6_105 ⟨by decide, by decide⟩ h0 hA rfl (Nat.le_of_ble_eq_true rfl) (Nat.le_of_ble_eq_true rfl) (by decide) (cr_X6_sum hG (rc_af hc hA) (fun _ _ _ _ h => h)) rfl (fun _ h => nomatch h) (fun S102 y111 hx106 hG103 hB104 hA105 => ?_)
    obtain ⟨d107, hd108⟩ : ∃ q, G_X6_sum (AC S i1) (QC S o0 hd) (y2) (y4) = q := ⟨_, rfl⟩
    have hq109 := ((congrArg (fun q9 => G_X6_sum q9 (QC S o0 hd) (y2) (y4)) (aC_mk (uC_200 (T := S) (o := i1) rfl) (uC_201 (T := S) (o := i1) rfl) (uC_202 (T := S) (o := i1) rfl) (uC_203 (T := S) (o := i1) rfl) (uC_204 (T := S) (o := i1) rfl) (uC_199 (T := S) (o := i1) rfl))).trans (congrArg (fun q9 => G_X6_sum (AC S i1) q9 (y2) (y4)) (qC_mk (tC_388 (T := S) (o := o0) (a := hd) rfl) (tC_389 (T := S) (o := o0) (a := hd) rfl) (tC_390 (T := S) (o := o0) (a := hd) rfl) (tC_391 (T := S) (o := o0) (a := hd) rfl) (tC_392 (T := S) (o := o0) (a := hd) rfl) (tC_393 (T := S) (o := o0) (a := hd) rfl) rfl))).trans hd108
    have hs110 := hx106.2.trans (congrArg Prod.fst hq109)
    obtain rfl : d107.2 = y111 := ((el_w hx106.1).trans (congrArg Prod.snd hq109)).symm
    refine gt_Vv (As := [.long d107.2]) dX6_compute_160 ca_X6_109 ⟨by decide, by decide⟩ h0 hA105 rfl (Nat.le_of_ble_eq_true rfl) (Nat.le_of_ble_eq_true rfl) (by decide) (cr_X6_write hG103 (rc_af hc hA105) (fun _ _ _ _ h => h)) rfl (fun _ h => nomatch h) (fun S112 hx116 hG113 hB114 hA115 => ?_)
    obtain ⟨d117, hd118⟩ : ∃ q, G_X6_write (AC S i1) d107.1 (d107.2) = q := ⟨_, rfl⟩
    have hq119 := ((congrArg (fun q9 => G_X6_write q9 (QC S102 o0 hd) (d107.2)) (aC_mk ((i_af (k := 200) (oa_af hoi hA) hB104).trans (uC_200 (T := S) (o := i1) rfl)) ((i_af (k := 201) (oa_af hoi hA) hB104).trans (uC_201 (T := S) (o := i1) rfl)) ((i_af (k := 202) (oa_af hoi hA) hB104).trans (uC_202 (T := S) (o := i1) rfl)) ((i_af (k := 203) (oa_af hoi hA) hB104).trans (uC_203 (T := S) (o := i1) rfl)) ((i_af (k := 204) (oa_af hoi hA) hB104).trans (uC_204 (T := S) (o := i1) rfl)) ((i_af (k := 199) (oa_af hoi hA) hB104).trans (uC_199 (T := S) (o := i1) rfl)))).trans (congrArg (fun q9 => G_X6_write (AC S i1) q9 (d107.2)) (qC_mk (tC_388 hs110) (tC_389 hs110) (tC_390 hs110) (tC_391 hs110) (tC_392 hs110) (tC_393 hs110) (tC_j hs110)))).trans hd118
    have hs120 := hx116.trans hq119
    refine tt_goto (tgt := 343) dX6_compute_163 rfl ?_
    have hF : G_X6_compute_p62 (AC S i1) (QC S o0 hd) x1 y2 y4 = d117 := by
      subst hd118
      subst hd108
      exact g_X6_compute_p62_0 q101
    exact tt_vreturn dX6_compute_343 rfl (hP _ _ _ _ ⟨hG113, hA115, Or.inl ⟨_, rfl, rfl, Eq.trans (qC_mk (tC_388 hs120) (tC_389 hs120) (tC_390 hs120) (tC_391 hs120) (tC_392 hs120) (tC_393 hs120) (tC_j hs120)) hF.symm, rfl, rfl⟩⟩)
  refine gt_by (c := x1 = 1) (fun q121 => ?_) (fun q121 => ?_)
  · skip
    refine gt_tseqL (off := 179) (tgt := 242) 1 1 dX6_compute_63 sl_X6_compute_p62_63 q121 rfl (by decide) (by decide) rfl rfl ?_
    refine tt_aload_n (j := 0) dX6_compute_242 rfl ?_
    refine tt_aload_n (j := 0) dX6_compute_243 rfl ?_
    refine tt_lload_n (j := 2) dX6_compute_244 rfl ?_
    refine tt_lload (j := 3) dX6_compute_245 rfl ?_
    refine tt_lor dX6_compute_247 ?_
    refine gt_VJ (As := [.long (y2 ||| y4)]) dX6_compute_248 ca_X6_119 ⟨by decide, by decide⟩ h0 hA rfl (Nat.le_of_ble_eq_true rfl) (Nat.le_of_ble_eq_true rfl) (by decide) (cr_X6_noteBits hG (rc_af hc hA) (fun _ _ _ _ h => h)) rfl (fun _ h => nomatch h) (fun S122 y131 hx126 hG123 hB124 hA125 => ?_)
    obtain ⟨d127, hd128⟩ : ∃ q, G_X6_noteBits (AC S i1) (QC S o0 hd) ((y2 ||| y4)) = q := ⟨_, rfl⟩
    have hq129 := ((congrArg (fun q9 => G_X6_noteBits q9 (QC S o0 hd) ((y2 ||| y4))) (aC_mk (uC_200 (T := S) (o := i1) rfl) (uC_201 (T := S) (o := i1) rfl) (uC_202 (T := S) (o := i1) rfl) (uC_203 (T := S) (o := i1) rfl) (uC_204 (T := S) (o := i1) rfl) (uC_199 (T := S) (o := i1) rfl))).trans (congrArg (fun q9 => G_X6_noteBits (AC S i1) q9 ((y2 ||| y4))) (qC_mk (tC_388 (T := S) (o := o0) (a := hd) rfl) (tC_389 (T := S) (o := o0) (a := hd) rfl) (tC_390 (T := S) (o := o0) (a := hd) rfl) (tC_391 (T := S) (o := o0) (a := hd) rfl) (tC_392 (T := S) (o := o0) (a := hd) rfl) (tC_393 (T := S) (o := o0) (a := hd) rfl) rfl))).trans hd128
    have hs130 := hx126.2.trans (congrArg Prod.fst hq129)
    obtain rfl : d127.2 = y131 := ((el_w hx126.1).trans (congrArg Prod.snd hq129)).symm
    refine gt_Vv (As := [.long d127.2]) dX6_compute_251 ca_X6_109 ⟨by decide, by decide⟩ h0 hA125 rfl (Nat.le_of_ble_eq_true rfl) (Nat.le_of_ble_eq_true rfl) (by decide) (cr_X6_write hG123 (rc_af hc hA125) (fun _ _ _ _ h => h)) rfl (fun _ h => nomatch h) (fun S132 hx136 hG133 hB134 hA135 => ?_)
    obtain ⟨d137, hd138⟩ : ∃ q, G_X6_write (AC S i1) d127.1 (d127.2) = q := ⟨_, rfl⟩
    have hq139 := ((congrArg (fun q9 => G_X6_write q9 (QC S122 o0 hd) (d127.2)) (aC_mk ((i_af (k := 200) (oa_af hoi hA) hB124).trans (uC_200 (T := S) (o := i1) rfl)) ((i_af (k := 201) (oa_af hoi hA) hB124).trans (uC_201 (T := S) (o := i1) rfl)) ((i_af (k := 202) (oa_af hoi hA) hB124).trans (uC_202 (T := S) (o := i1) rfl)) ((i_af (k := 203) (oa_af hoi hA) hB124).trans (uC_203 (T := S) (o := i1) rfl)) ((i_af (k := 204) (oa_af hoi hA) hB124).trans (uC_204 (T := S) (o := i1) rfl)) ((i_af (k := 199) (oa_af hoi hA) hB124).trans (uC_199 (T := S) (o := i1) rfl)))).trans (congrArg (fun q9 => G_X6_write (AC S i1) q9 (d127.2)) (qC_mk (tC_388 hs130) (tC_389 hs130) (tC_390 hs130) (tC_391 hs130) (tC_392 hs130) (tC_393 hs130) (tC_j hs130)))).trans hd138
    have hs140 := hx136.trans hq139
    refine tt_goto (tgt := 343) dX6_compute_254 rfl ?_
    have hF : G_X6_compute_p62 (AC S i1) (QC S o0 hd) x1 y2 y4 = d137 := by
      subst hd138
      subst hd128
      exact g_X6_compute_p62_1 q101 q121
    exact tt_vreturn dX6_compute_343 rfl (hP _ _ _ _ ⟨hG133, hA135, Or.inl ⟨_, rfl, rfl, Eq.trans (qC_mk (tC_388 hs140) (tC_389 hs140) (tC_390 hs140) (tC_391 hs140) (tC_392 hs140) (tC_393 hs140) (tC_j hs140)) hF.symm, rfl, rfl⟩⟩)
  refine gt_by (c := x1 = 2) (fun q141 => ?_) (fun q141 => ?_)
  · skip
    refine gt_tseqL (off := 274) (tgt := 337) 2 2 dX6_compute_63 sl_X6_compute_p62_63 q141 rfl (by decide) (by decide) rfl rfl ?_
    refine tt_aload_n (j := 0) dX6_compute_337 rfl ?_
    refine tt_lload (j := 3) dX6_compute_338 rfl ?_
    refine gt_Vv (As := [.long y4]) dX6_compute_340 ca_X6_109 ⟨by decide, by decide⟩ h0 hA rfl (Nat.le_of_ble_eq_true rfl) (Nat.le_of_ble_eq_true rfl) (by decide) (cr_X6_write hG (rc_af hc hA) (fun _ _ _ _ h => h)) rfl (fun _ h => nomatch h) (fun S142 hx146 hG143 hB144 hA145 => ?_)
    obtain ⟨d147, hd148⟩ : ∃ q, G_X6_write (AC S i1) (QC S o0 hd) (y4) = q := ⟨_, rfl⟩
    have hq149 := ((congrArg (fun q9 => G_X6_write q9 (QC S o0 hd) (y4)) (aC_mk (uC_200 (T := S) (o := i1) rfl) (uC_201 (T := S) (o := i1) rfl) (uC_202 (T := S) (o := i1) rfl) (uC_203 (T := S) (o := i1) rfl) (uC_204 (T := S) (o := i1) rfl) (uC_199 (T := S) (o := i1) rfl))).trans (congrArg (fun q9 => G_X6_write (AC S i1) q9 (y4)) (qC_mk (tC_388 (T := S) (o := o0) (a := hd) rfl) (tC_389 (T := S) (o := o0) (a := hd) rfl) (tC_390 (T := S) (o := o0) (a := hd) rfl) (tC_391 (T := S) (o := o0) (a := hd) rfl) (tC_392 (T := S) (o := o0) (a := hd) rfl) (tC_393 (T := S) (o := o0) (a := hd) rfl) rfl))).trans hd148
    have hs150 := hx146.trans hq149
    have hF : G_X6_compute_p62 (AC S i1) (QC S o0 hd) x1 y2 y4 = d147 := by
      subst hd148
      exact g_X6_compute_p62_2 q101 q121 q141
    exact tt_vreturn dX6_compute_343 rfl (hP _ _ _ _ ⟨hG143, hA145, Or.inl ⟨_, rfl, rfl, Eq.trans (qC_mk (tC_388 hs150) (tC_389 hs150) (tC_390 hs150) (tC_391 hs150) (tC_392 hs150) (tC_393 hs150) (tC_j hs150)) hF.symm, rfl, rfl⟩⟩)
  refine gt_by (c := x1 = 3) (fun q151 => ?_) (fun q151 => ?_)
  · skip
    refine gt_tseqL (off := 274) (tgt := 337) 3 3 dX6_compute_63 sl_X6_compute_p62_63 q151 rfl (by decide) (by decide) rfl rfl ?_
    refine tt_aload_n (j := 0) dX6_compute_337 rfl ?_
    refine tt_lload (j := 3) dX6_compute_338 rfl ?_
    refine gt_Vv (As := [.long y4]) dX6_compute_340 ca_X6_109 ⟨by decide, by decide⟩ h0 hA rfl (Nat.le_of_ble_eq_true rfl) (Nat.le_of_ble_eq_true rfl) (by decide) (cr_X6_write hG (rc_af hc hA) (fun _ _ _ _ h => h)) rfl (fun _ h => nomatch h) (fun S152 hx156 hG153 hB154 hA155 => ?_)
    obtain ⟨d157, hd158⟩ : ∃ q, G_X6_write (AC S i1) (QC S o0 hd) (y4) = q := ⟨_, rfl⟩
    have hq159 := ((congrArg (fun q9 => G_X6_write q9 (QC S o0 hd) (y4)) (aC_mk (uC_200 (T := S) (o := i1) rfl) (uC_201 (T := S) (o := i1) rfl) (uC_202 (T := S) (o := i1) rfl) (uC_203 (T := S) (o := i1) rfl) (uC_204 (T := S) (o := i1) rfl) (uC_199 (T := S) (o := i1) rfl))).trans (congrArg (fun q9 => G_X6_write (AC S i1) q9 (y4)) (qC_mk (tC_388 (T := S) (o := o0) (a := hd) rfl) (tC_389 (T := S) (o := o0) (a := hd) rfl) (tC_390 (T := S) (o := o0) (a := hd) rfl) (tC_391 (T := S) (o := o0) (a := hd) rfl) (tC_392 (T := S) (o := o0) (a := hd) rfl) (tC_393 (T := S) (o := o0) (a := hd) rfl) rfl))).trans hd158
    have hs160 := hx156.trans hq159
    have hF : G_X6_compute_p62 (AC S i1) (QC S o0 hd) x1 y2 y4 = d157 := by
      subst hd158
      exact g_X6_compute_p62_3 q101 q121 q141 q151
    exact tt_vreturn dX6_compute_343 rfl (hP _ _ _ _ ⟨hG153, hA155, Or.inl ⟨_, rfl, rfl, Eq.trans (qC_mk (tC_388 hs160) (tC_389 hs160) (tC_390 hs160) (tC_391 hs160) (tC_392 hs160) (tC_393 hs160) (tC_j hs160)) hF.symm, rfl, rfl⟩⟩)
  refine gt_by (c := x1 = 4) (fun q161 => ?_) (fun q161 => ?_)
  · skip
    refine gt_tseqL (off := 164) (tgt := 227) 4 4 dX6_compute_63 sl_X6_compute_p62_63 q161 rfl (by decide) (by decide) rfl rfl ?_
    refine tt_aload_n (j := 0) dX6_compute_227 rfl ?_
    refine tt_aload_n (j := 0) dX6_compute_228 rfl ?_
    refine tt_lload_n (j := 2) dX6_compute_229 rfl ?_
    refine tt_lload (j := 3) dX6_compute_230 rfl ?_
    refine tt_land dX6_compute_232 ?_
    refine gt_VJ (As := [.long (y2 &&& y4)]) dX6_compute_233 ca_X6_119 ⟨by decide, by decide⟩ h0 hA rfl (Nat.le_of_ble_eq_true rfl) (Nat.le_of_ble_eq_true rfl) (by decide) (cr_X6_noteBits hG (rc_af hc hA) (fun _ _ _ _ h => h)) rfl (fun _ h => nomatch h) (fun S162 y171 hx166 hG163 hB164 hA165 => ?_)
    obtain ⟨d167, hd168⟩ : ∃ q, G_X6_noteBits (AC S i1) (QC S o0 hd) ((y2 &&& y4)) = q := ⟨_, rfl⟩
    have hq169 := ((congrArg (fun q9 => G_X6_noteBits q9 (QC S o0 hd) ((y2 &&& y4))) (aC_mk (uC_200 (T := S) (o := i1) rfl) (uC_201 (T := S) (o := i1) rfl) (uC_202 (T := S) (o := i1) rfl) (uC_203 (T := S) (o := i1) rfl) (uC_204 (T := S) (o := i1) rfl) (uC_199 (T := S) (o := i1) rfl))).trans (congrArg (fun q9 => G_X6_noteBits (AC S i1) q9 ((y2 &&& y4))) (qC_mk (tC_388 (T := S) (o := o0) (a := hd) rfl) (tC_389 (T := S) (o := o0) (a := hd) rfl) (tC_390 (T := S) (o := o0) (a := hd) rfl) (tC_391 (T := S) (o := o0) (a := hd) rfl) (tC_392 (T := S) (o := o0) (a := hd) rfl) (tC_393 (T := S) (o := o0) (a := hd) rfl) rfl))).trans hd168
    have hs170 := hx166.2.trans (congrArg Prod.fst hq169)
    obtain rfl : d167.2 = y171 := ((el_w hx166.1).trans (congrArg Prod.snd hq169)).symm
    refine gt_Vv (As := [.long d167.2]) dX6_compute_236 ca_X6_109 ⟨by decide, by decide⟩ h0 hA165 rfl (Nat.le_of_ble_eq_true rfl) (Nat.le_of_ble_eq_true rfl) (by decide) (cr_X6_write hG163 (rc_af hc hA165) (fun _ _ _ _ h => h)) rfl (fun _ h => nomatch h) (fun S172 hx176 hG173 hB174 hA175 => ?_)
    obtain ⟨d177, hd178⟩ : ∃ q, G_X6_write (AC S i1) d167.1 (d167.2) = q := ⟨_, rfl⟩
    have hq179 := ((congrArg (fun q9 => G_X6_write q9 (QC S162 o0 hd) (d167.2)) (aC_mk ((i_af (k := 200) (oa_af hoi hA) hB164).trans (uC_200 (T := S) (o := i1) rfl)) ((i_af (k := 201) (oa_af hoi hA) hB164).trans (uC_201 (T := S) (o := i1) rfl)) ((i_af (k := 202) (oa_af hoi hA) hB164).trans (uC_202 (T := S) (o := i1) rfl)) ((i_af (k := 203) (oa_af hoi hA) hB164).trans (uC_203 (T := S) (o := i1) rfl)) ((i_af (k := 204) (oa_af hoi hA) hB164).trans (uC_204 (T := S) (o := i1) rfl)) ((i_af (k := 199) (oa_af hoi hA) hB164).trans (uC_199 (T := S) (o := i1) rfl)))).trans (congrArg (fun q9 => G_X6_write (AC S i1) q9 (d167.2)) (qC_mk (tC_388 hs170) (tC_389 hs170) (tC_390 hs170) (tC_391 hs170) (tC_392 hs170) (tC_393 hs170) (tC_j hs170)))).trans hd178
    have hs180 := hx176.trans hq179
    refine tt_goto (tgt := 343) dX6_compute_239 rfl ?_
    have hF : G_X6_compute_p62 (AC S i1) (QC S o0 hd) x1 y2 y4 = d177 := by
      subst hd178
      subst hd168
      exact g_X6_compute_p62_4 q101 q121 q141 q151 q161
    exact tt_vreturn dX6_compute_343 rfl (hP _ _ _ _ ⟨hG173, hA175, Or.inl ⟨_, rfl, rfl, Eq.trans (qC_mk (tC_388 hs180) (tC_389 hs180) (tC_390 hs180) (tC_391 hs180) (tC_392 hs180) (tC_393 hs180) (tC_j hs180)) hF.symm, rfl, rfl⟩⟩)
  refine gt_by (c := x1 = 5) (fun q181 => ?_) (fun q181 => ?_)
  · skip
    refine gt_tseqL (off := 103) (tgt := 166) 5 5 dX6_compute_63 sl_X6_compute_p62_63 q181 rfl (by decide) (by decide) rfl rfl ?_
    refine tt_aload_n (j := 0) dX6_compute_166 rfl ?_
    refine tt_aload_n (j := 0) dX6_compute_167 rfl ?_
    refine tt_lload_n (j := 2) dX6_compute_168 rfl ?_
    refine tt_lload (j := 3) dX6_compute_169 rfl ?_
    refine gt_VJ (As := [.long y2, .long y4]) dX6_compute_171 ca_X6_112 ⟨by decide, by decide⟩ h0 hA rfl (Nat.le_of_ble_eq_true rfl) (Nat.le_of_ble_eq_true rfl) (by decide) (cr_X6_difference hG (rc_af hc hA) (fun _ _ _ _ h => h)) rfl (fun _ h => nomatch h) (fun S182 y191 hx186 hG183 hB184 hA185 => ?_)
    obtain ⟨d187, hd188⟩ : ∃ q, G_X6_difference (AC S i1) (QC S o0 hd) (y2) (y4) = q := ⟨_, rfl⟩
    have hq189 := ((congrArg (fun q9 => G_X6_difference q9 (QC S o0 hd) (y2) (y4)) (aC_mk (uC_200 (T := S) (o := i1) rfl) (uC_201 (T := S) (o := i1) rfl) (uC_202 (T := S) (o := i1) rfl) (uC_203 (T := S) (o := i1) rfl) (uC_204 (T := S) (o := i1) rfl) (uC_199 (T := S) (o := i1) rfl))).trans (congrArg (fun q9 => G_X6_difference (AC S i1) q9 (y2) (y4)) (qC_mk (tC_388 (T := S) (o := o0) (a := hd) rfl) (tC_389 (T := S) (o := o0) (a := hd) rfl) (tC_390 (T := S) (o := o0) (a := hd) rfl) (tC_391 (T := S) (o := o0) (a := hd) rfl) (tC_392 (T := S) (o := o0) (a := hd) rfl) (tC_393 (T := S) (o := o0) (a := hd) rfl) rfl))).trans hd188
    have hs190 := hx186.2.trans (congrArg Prod.fst hq189)
    obtain rfl : d187.2 = y191 := ((el_w hx186.1).trans (congrArg Prod.snd hq189)).symm
    refine gt_Vv (As := [.long d187.2]) dX6_compute_174 ca_X6_109 ⟨by decide, by decide⟩ h0 hA185 rfl (Nat.le_of_ble_eq_true rfl) (Nat.le_of_ble_eq_true rfl) (by decide) (cr_X6_write hG183 (rc_af hc hA185) (fun _ _ _ _ h => h)) rfl (fun _ h => nomatch h) (fun S192 hx196 hG193 hB194 hA195 => ?_)
    obtain ⟨d197, hd198⟩ : ∃ q, G_X6_write (AC S i1) d187.1 (d187.2) = q := ⟨_, rfl⟩
    have hq199 := ((congrArg (fun q9 => G_X6_write q9 (QC S182 o0 hd) (d187.2)) (aC_mk ((i_af (k := 200) (oa_af hoi hA) hB184).trans (uC_200 (T := S) (o := i1) rfl)) ((i_af (k := 201) (oa_af hoi hA) hB184).trans (uC_201 (T := S) (o := i1) rfl)) ((i_af (k := 202) (oa_af hoi hA) hB184).trans (uC_202 (T := S) (o := i1) rfl)) ((i_af (k := 203) (oa_af hoi hA) hB184).trans (uC_203 (T := S) (o := i1) rfl)) ((i_af (k := 204) (oa_af hoi hA) hB184).trans (uC_204 (T := S) (o := i1) rfl)) ((i_af (k := 199) (oa_af hoi hA) hB184).trans (uC_199 (T := S) (o := i1) rfl)))).trans (congrArg (fun q9 => G_X6_write (AC S i1) q9 (d187.2)) (qC_mk (tC_388 hs190) (tC_389 hs190) (tC_390 hs190) (tC_391 hs190) (tC_392 hs190) (tC_393 hs190) (tC_j hs190)))).trans hd198
    have hs200 := hx196.trans hq199
    refine tt_goto (tgt := 343) dX6_compute_177 rfl ?_
    have hF : G_X6_compute_p62 (AC S i1) (QC S o0 hd) x1 y2 y4 = d197 := by
      subst hd198
      subst hd188
      exact g_X6_compute_p62_5 q101 q121 q141 q151 q161 q181
    exact tt_vreturn dX6_compute_343 rfl (hP _ _ _ _ ⟨hG193, hA195, Or.inl ⟨_, rfl, rfl, Eq.trans (qC_mk (tC_388 hs200) (tC_389 hs200) (tC_390 hs200) (tC_391 hs200) (tC_392 hs200) (tC_393 hs200) (tC_j hs200)) hF.symm, rfl, rfl⟩⟩)
  refine gt_by (c := x1 = 6) (fun q201 => ?_) (fun q201 => ?_)
  · skip
    refine gt_tseqL (off := 194) (tgt := 257) 6 6 dX6_compute_63 sl_X6_compute_p62_63 q201 rfl (by decide) (by decide) rfl rfl ?_
    refine tt_aload_n (j := 0) dX6_compute_257 rfl ?_
    refine tt_aload_n (j := 0) dX6_compute_258 rfl ?_
    refine tt_lload_n (j := 2) dX6_compute_259 rfl ?_
    refine tt_lload (j := 3) dX6_compute_260 rfl ?_
    refine tt_lxor dX6_compute_262 ?_
    refine gt_VJ (As := [.long (y2 ^^^ y4)]) dX6_compute_263 ca_X6_119 ⟨by decide, by decide⟩ h0 hA rfl (Nat.le_of_ble_eq_true rfl) (Nat.le_of_ble_eq_true rfl) (by decide) (cr_X6_noteBits hG (rc_af hc hA) (fun _ _ _ _ h => h)) rfl (fun _ h => nomatch h) (fun S202 y211 hx206 hG203 hB204 hA205 => ?_)
    obtain ⟨d207, hd208⟩ : ∃ q, G_X6_noteBits (AC S i1) (QC S o0 hd) ((y2 ^^^ y4)) = q := ⟨_, rfl⟩
    have hq209 := ((congrArg (fun q9 => G_X6_noteBits q9 (QC S o0 hd) ((y2 ^^^ y4))) (aC_mk (uC_200 (T := S) (o := i1) rfl) (uC_201 (T := S) (o := i1) rfl) (uC_202 (T := S) (o := i1) rfl) (uC_203 (T := S) (o := i1) rfl) (uC_204 (T := S) (o := i1) rfl) (uC_199 (T := S) (o := i1) rfl))).trans (congrArg (fun q9 => G_X6_noteBits (AC S i1) q9 ((y2 ^^^ y4))) (qC_mk (tC_388 (T := S) (o := o0) (a := hd) rfl) (tC_389 (T := S) (o := o0) (a := hd) rfl) (tC_390 (T := S) (o := o0) (a := hd) rfl) (tC_391 (T := S) (o := o0) (a := hd) rfl) (tC_392 (T := S) (o := o0) (a := hd) rfl) (tC_393 (T := S) (o := o0) (a := hd) rfl) rfl))).trans hd208
    have hs210 := hx206.2.trans (congrArg Prod.fst hq209)
    obtain rfl : d207.2 = y211 := ((el_w hx206.1).trans (congrArg Prod.snd hq209)).symm
    refine gt_Vv (As := [.long d207.2]) dX6_compute_266 ca_X6_109 ⟨by decide, by decide⟩ h0 hA205 rfl (Nat.le_of_ble_eq_true rfl) (Nat.le_of_ble_eq_true rfl) (by decide) (cr_X6_write hG203 (rc_af hc hA205) (fun _ _ _ _ h => h)) rfl (fun _ h => nomatch h) (fun S212 hx216 hG213 hB214 hA215 => ?_)
    obtain ⟨d217, hd218⟩ : ∃ q, G_X6_write (AC S i1) d207.1 (d207.2) = q := ⟨_, rfl⟩
    have hq219 := ((congrArg (fun q9 => G_X6_write q9 (QC S202 o0 hd) (d207.2)) (aC_mk ((i_af (k := 200) (oa_af hoi hA) hB204).trans (uC_200 (T := S) (o := i1) rfl)) ((i_af (k := 201) (oa_af hoi hA) hB204).trans (uC_201 (T := S) (o := i1) rfl)) ((i_af (k := 202) (oa_af hoi hA) hB204).trans (uC_202 (T := S) (o := i1) rfl)) ((i_af (k := 203) (oa_af hoi hA) hB204).trans (uC_203 (T := S) (o := i1) rfl)) ((i_af (k := 204) (oa_af hoi hA) hB204).trans (uC_204 (T := S) (o := i1) rfl)) ((i_af (k := 199) (oa_af hoi hA) hB204).trans (uC_199 (T := S) (o := i1) rfl)))).trans (congrArg (fun q9 => G_X6_write (AC S i1) q9 (d207.2)) (qC_mk (tC_388 hs210) (tC_389 hs210) (tC_390 hs210) (tC_391 hs210) (tC_392 hs210) (tC_393 hs210) (tC_j hs210)))).trans hd218
    have hs220 := hx216.trans hq219
    refine tt_goto (tgt := 343) dX6_compute_269 rfl ?_
    have hF : G_X6_compute_p62 (AC S i1) (QC S o0 hd) x1 y2 y4 = d217 := by
      subst hd218
      subst hd208
      exact g_X6_compute_p62_6 q101 q121 q141 q151 q161 q181 q201
    exact tt_vreturn dX6_compute_343 rfl (hP _ _ _ _ ⟨hG213, hA215, Or.inl ⟨_, rfl, rfl, Eq.trans (qC_mk (tC_388 hs220) (tC_389 hs220) (tC_390 hs220) (tC_391 hs220) (tC_392 hs220) (tC_393 hs220) (tC_j hs220)) hF.symm, rfl, rfl⟩⟩)
  refine gt_by (c := x1 = 7) (fun q221 => ?_) (fun q221 => ?_)
  · skip
    refine gt_tseqL (off := 117) (tgt := 180) 7 7 dX6_compute_63 sl_X6_compute_p62_63 q221 rfl (by decide) (by decide) rfl rfl ?_
    refine tt_aload_n (j := 0) dX6_compute_180 rfl ?_
    refine tt_lload_n (j := 2) dX6_compute_181 rfl ?_
    refine tt_lload (j := 3) dX6_compute_182 rfl ?_
    refine gt_VJ (As := [.long y2, .long y4]) dX6_compute_184 ca_X6_112 ⟨by decide, by decide⟩ h0 hA rfl (Nat.le_of_ble_eq_true rfl) (Nat.le_of_ble_eq_true rfl) (by decide) (cr_X6_difference hG (rc_af hc hA) (fun _ _ _ _ h => h)) rfl (fun _ h => nomatch h) (fun S222 y231 hx226 hG223 hB224 hA225 => ?_)
    obtain ⟨d227, hd228⟩ : ∃ q, G_X6_difference (AC S i1) (QC S o0 hd) (y2) (y4) = q := ⟨_, rfl⟩
    have hq229 := ((congrArg (fun q9 => G_X6_difference q9 (QC S o0 hd) (y2) (y4)) (aC_mk (uC_200 (T := S) (o := i1) rfl) (uC_201 (T := S) (o := i1) rfl) (uC_202 (T := S) (o := i1) rfl) (uC_203 (T := S) (o := i1) rfl) (uC_204 (T := S) (o := i1) rfl) (uC_199 (T := S) (o := i1) rfl))).trans (congrArg (fun q9 => G_X6_difference (AC S i1) q9 (y2) (y4)) (qC_mk (tC_388 (T := S) (o := o0) (a := hd) rfl) (tC_389 (T := S) (o := o0) (a := hd) rfl) (tC_390 (T := S) (o := o0) (a := hd) rfl) (tC_391 (T := S) (o := o0) (a := hd) rfl) (tC_392 (T := S) (o := o0) (a := hd) rfl) (tC_393 (T := S) (o := o0) (a := hd) rfl) rfl))).trans hd228
    have hs230 := hx226.2.trans (congrArg Prod.fst hq229)
    obtain rfl : d227.2 = y231 := ((el_w hx226.1).trans (congrArg Prod.snd hq229)).symm
    refine tt_pop2_2 dX6_compute_187 rfl ?_
    refine tt_goto (tgt := 343) dX6_compute_188 rfl ?_
    have hF : G_X6_compute_p62 (AC S i1) (QC S o0 hd) x1 y2 y4 = d227.1 := by
      subst hd228
      exact g_X6_compute_p62_7 q101 q121 q141 q151 q161 q181 q201 q221
    exact tt_vreturn dX6_compute_343 rfl (hP _ _ _ _ ⟨hG223, hA225, Or.inl ⟨_, rfl, rfl, Eq.trans (qC_mk (tC_388 hs230) (tC_389 hs230) (tC_390 hs230) (tC_391 hs230) (tC_392 hs230) (tC_393 hs230) (tC_j hs230)) hF.symm, rfl, rfl⟩⟩)
  refine gt_by (c := x1 = 8) (fun q232 => ?_) (fun q232 => ?_)
  · skip
    refine gt_tseqL (off := 209) (tgt := 272) 8 8 dX6_compute_63 sl_X6_compute_p62_63 q232 rfl (by decide) (by decide) rfl rfl ?_
    refine tt_aload_n (j := 0) dX6_compute_272 rfl ?_
    refine tt_lload_n (j := 2) dX6_compute_273 rfl ?_
    refine tt_lload (j := 3) dX6_compute_274 rfl ?_
    refine tt_land dX6_compute_276 ?_
    refine gt_VJ (As := [.long (y2 &&& y4)]) dX6_compute_277 ca_X6_119 ⟨by decide, by decide⟩ h0 hA rfl (Nat.le_of_ble_eq_true rfl) (Nat.le_of_ble_eq_true rfl) (by decide) (cr_X6_noteBits hG (rc_af hc hA) (fun _ _ _ _ h => h)) rfl (fun _ h => nomatch h) (fun S233 y242 hx237 hG234 hB235 hA236 => ?_)
    obtain ⟨d238, hd239⟩ : ∃ q, G_X6_noteBits (AC S i1) (QC S o0 hd) ((y2 &&& y4)) = q := ⟨_, rfl⟩
    have hq240 := ((congrArg (fun q9 => G_X6_noteBits q9 (QC S o0 hd) ((y2 &&& y4))) (aC_mk (uC_200 (T := S) (o := i1) rfl) (uC_201 (T := S) (o := i1) rfl) (uC_202 (T := S) (o := i1) rfl) (uC_203 (T := S) (o := i1) rfl) (uC_204 (T := S) (o := i1) rfl) (uC_199 (T := S) (o := i1) rfl))).trans (congrArg (fun q9 => G_X6_noteBits (AC S i1) q9 ((y2 &&& y4))) (qC_mk (tC_388 (T := S) (o := o0) (a := hd) rfl) (tC_389 (T := S) (o := o0) (a := hd) rfl) (tC_390 (T := S) (o := o0) (a := hd) rfl) (tC_391 (T := S) (o := o0) (a := hd) rfl) (tC_392 (T := S) (o := o0) (a := hd) rfl) (tC_393 (T := S) (o := o0) (a := hd) rfl) rfl))).trans hd239
    have hs241 := hx237.2.trans (congrArg Prod.fst hq240)
    obtain rfl : d238.2 = y242 := ((el_w hx237.1).trans (congrArg Prod.snd hq240)).symm
    refine tt_pop2_2 dX6_compute_280 rfl ?_
    refine tt_goto (tgt := 343) dX6_compute_281 rfl ?_
    have hF : G_X6_compute_p62 (AC S i1) (QC S o0 hd) x1 y2 y4 = d238.1 := by
      subst hd239
      exact g_X6_compute_p62_8 q101 q121 q141 q151 q161 q181 q201 q221 q232
    exact tt_vreturn dX6_compute_343 rfl (hP _ _ _ _ ⟨hG234, hA236, Or.inl ⟨_, rfl, rfl, Eq.trans (qC_mk (tC_388 hs241) (tC_389 hs241) (tC_390 hs241) (tC_391 hs241) (tC_392 hs241) (tC_393 hs241) (tC_j hs241)) hF.symm, rfl, rfl⟩⟩)
  refine gt_by (c := x1 = 9) (fun q243 => ?_) (fun q243 => ?_)
  · skip
    refine gt_tseqL (off := 221) (tgt := 284) 9 9 dX6_compute_63 sl_X6_compute_p62_63 q243 rfl (by decide) (by decide) rfl rfl ?_
    refine tt_aload_n (j := 0) dX6_compute_284 rfl ?_
    refine tt_lload_n (j := 2) dX6_compute_285 rfl ?_
    refine tt_ldc2 (v := (-1)) dX6_compute_286 kl_6_122 ?_
    refine tt_lxor dX6_compute_289 ?_
    refine gt_Vv (As := [.long (y2 ^^^ (-1))]) dX6_compute_290 ca_X6_109 ⟨by decide, by decide⟩ h0 hA rfl (Nat.le_of_ble_eq_true rfl) (Nat.le_of_ble_eq_true rfl) (by decide) (cr_X6_write hG (rc_af hc hA) (fun _ _ _ _ h => h)) rfl (fun _ h => nomatch h) (fun S244 hx248 hG245 hB246 hA247 => ?_)
    obtain ⟨d249, hd250⟩ : ∃ q, G_X6_write (AC S i1) (QC S o0 hd) ((y2 ^^^ (-1))) = q := ⟨_, rfl⟩
    have hq251 := ((congrArg (fun q9 => G_X6_write q9 (QC S o0 hd) ((y2 ^^^ (-1)))) (aC_mk (uC_200 (T := S) (o := i1) rfl) (uC_201 (T := S) (o := i1) rfl) (uC_202 (T := S) (o := i1) rfl) (uC_203 (T := S) (o := i1) rfl) (uC_204 (T := S) (o := i1) rfl) (uC_199 (T := S) (o := i1) rfl))).trans (congrArg (fun q9 => G_X6_write (AC S i1) q9 ((y2 ^^^ (-1)))) (qC_mk (tC_388 (T := S) (o := o0) (a := hd) rfl) (tC_389 (T := S) (o := o0) (a := hd) rfl) (tC_390 (T := S) (o := o0) (a := hd) rfl) (tC_391 (T := S) (o := o0) (a := hd) rfl) (tC_392 (T := S) (o := o0) (a := hd) rfl) (tC_393 (T := S) (o := o0) (a := hd) rfl) rfl))).trans hd250
    have hs252 := hx248.trans hq251
    refine tt_goto (tgt := 343) dX6_compute_293 rfl ?_
    have hF : G_X6_compute_p62 (AC S i1) (QC S o0 hd) x1 y2 y4 = d249 := by
      subst hd250
      exact g_X6_compute_p62_9 q101 q121 q141 q151 q161 q181 q201 q221 q232 q243
    exact tt_vreturn dX6_compute_343 rfl (hP _ _ _ _ ⟨hG245, hA247, Or.inl ⟨_, rfl, rfl, Eq.trans (qC_mk (tC_388 hs252) (tC_389 hs252) (tC_390 hs252) (tC_391 hs252) (tC_392 hs252) (tC_393 hs252) (tC_j hs252)) hF.symm, rfl, rfl⟩⟩)
  refine gt_by (c := x1 = 10) (fun q253 => ?_) (fun q253 => ?_)
  · skip
    refine gt_tseqL (off := 128) (tgt := 191) 10 10 dX6_compute_63 sl_X6_compute_p62_63 q253 rfl (by decide) (by decide) rfl rfl ?_
    refine tt_aload_n (j := 0) dX6_compute_191 rfl ?_
    refine tt_aload_n (j := 0) dX6_compute_192 rfl ?_
    refine tt_lconst (v := 0) dX6_compute_193 rfl ?_
    refine tt_lload_n (j := 2) dX6_compute_194 rfl ?_
    refine gt_VJ (As := [.long 0, .long y2]) dX6_compute_195 ca_X6_112 ⟨by decide, by decide⟩ h0 hA rfl (Nat.le_of_ble_eq_true rfl) (Nat.le_of_ble_eq_true rfl) (by decide) (cr_X6_difference hG (rc_af hc hA) (fun _ _ _ _ h => h)) rfl (fun _ h => nomatch h) (fun S254 y263 hx258 hG255 hB256 hA257 => ?_)
    obtain ⟨d259, hd260⟩ : ∃ q, G_X6_difference (AC S i1) (QC S o0 hd) (0) (y2) = q := ⟨_, rfl⟩
    have hq261 := ((congrArg (fun q9 => G_X6_difference q9 (QC S o0 hd) (0) (y2)) (aC_mk (uC_200 (T := S) (o := i1) rfl) (uC_201 (T := S) (o := i1) rfl) (uC_202 (T := S) (o := i1) rfl) (uC_203 (T := S) (o := i1) rfl) (uC_204 (T := S) (o := i1) rfl) (uC_199 (T := S) (o := i1) rfl))).trans (congrArg (fun q9 => G_X6_difference (AC S i1) q9 (0) (y2)) (qC_mk (tC_388 (T := S) (o := o0) (a := hd) rfl) (tC_389 (T := S) (o := o0) (a := hd) rfl) (tC_390 (T := S) (o := o0) (a := hd) rfl) (tC_391 (T := S) (o := o0) (a := hd) rfl) (tC_392 (T := S) (o := o0) (a := hd) rfl) (tC_393 (T := S) (o := o0) (a := hd) rfl) rfl))).trans hd260
    have hs262 := hx258.2.trans (congrArg Prod.fst hq261)
    obtain rfl : d259.2 = y263 := ((el_w hx258.1).trans (congrArg Prod.snd hq261)).symm
    refine gt_Vv (As := [.long d259.2]) dX6_compute_198 ca_X6_109 ⟨by decide, by decide⟩ h0 hA257 rfl (Nat.le_of_ble_eq_true rfl) (Nat.le_of_ble_eq_true rfl) (by decide) (cr_X6_write hG255 (rc_af hc hA257) (fun _ _ _ _ h => h)) rfl (fun _ h => nomatch h) (fun S264 hx268 hG265 hB266 hA267 => ?_)
    obtain ⟨d269, hd270⟩ : ∃ q, G_X6_write (AC S i1) d259.1 (d259.2) = q := ⟨_, rfl⟩
    have hq271 := ((congrArg (fun q9 => G_X6_write q9 (QC S254 o0 hd) (d259.2)) (aC_mk ((i_af (k := 200) (oa_af hoi hA) hB256).trans (uC_200 (T := S) (o := i1) rfl)) ((i_af (k := 201) (oa_af hoi hA) hB256).trans (uC_201 (T := S) (o := i1) rfl)) ((i_af (k := 202) (oa_af hoi hA) hB256).trans (uC_202 (T := S) (o := i1) rfl)) ((i_af (k := 203) (oa_af hoi hA) hB256).trans (uC_203 (T := S) (o := i1) rfl)) ((i_af (k := 204) (oa_af hoi hA) hB256).trans (uC_204 (T := S) (o := i1) rfl)) ((i_af (k := 199) (oa_af hoi hA) hB256).trans (uC_199 (T := S) (o := i1) rfl)))).trans (congrArg (fun q9 => G_X6_write (AC S i1) q9 (d259.2)) (qC_mk (tC_388 hs262) (tC_389 hs262) (tC_390 hs262) (tC_391 hs262) (tC_392 hs262) (tC_393 hs262) (tC_j hs262)))).trans hd270
    have hs272 := hx268.trans hq271
    refine tt_goto (tgt := 343) dX6_compute_201 rfl ?_
    have hF : G_X6_compute_p62 (AC S i1) (QC S o0 hd) x1 y2 y4 = d269 := by
      subst hd270
      subst hd260
      exact g_X6_compute_p62_10 q101 q121 q141 q151 q161 q181 q201 q221 q232 q243 q253
    exact tt_vreturn dX6_compute_343 rfl (hP _ _ _ _ ⟨hG265, hA267, Or.inl ⟨_, rfl, rfl, Eq.trans (qC_mk (tC_388 hs272) (tC_389 hs272) (tC_390 hs272) (tC_391 hs272) (tC_392 hs272) (tC_393 hs272) (tC_j hs272)) hF.symm, rfl, rfl⟩⟩)
  refine gt_by (c := x1 = 11) (fun q273 => ?_) (fun q273 => ?_)
  · skip
    refine gt_tseqL (off := 141) (tgt := 204) 11 11 dX6_compute_63 sl_X6_compute_p62_63 q273 rfl (by decide) (by decide) rfl rfl ?_
    refine tt_aload_n (j := 0) dX6_compute_204 rfl ?_
    refine tt_aload_n (j := 0) dX6_compute_205 rfl ?_
    refine tt_lload_n (j := 2) dX6_compute_206 rfl ?_
    refine tt_iload_n (j := 1) dX6_compute_207 rfl ?_
    refine tt_bipush (v := 11) dX6_compute_208 rfl ?_
    refine tt_icmp_ne (tgt := 217) dX6_compute_210 rfl (fun q => absurd q273 q) (fun _ => ?_)
    refine tt_iconst (v := 1) dX6_compute_213 rfl ?_
    refine tt_goto (tgt := 218) dX6_compute_214 rfl ?_
    refine gt_VJ (As := [.long y2, .int 1]) dX6_compute_218 ca_X6_115 ⟨by decide, by decide⟩ h0 hA rfl (Nat.le_of_ble_eq_true rfl) (Nat.le_of_ble_eq_true rfl) (by decide) (cr_X6_nextTo hG (rg_w (⟨by decide, by decide⟩ : Rg 1 1 1)) (rc_af hc hA) (fun _ _ _ _ h => h)) rfl (fun _ h => nomatch h) (fun S274 y283 hx278 hG275 hB276 hA277 => ?_)
    obtain ⟨d279, hd280⟩ : ∃ q, G_X6_nextTo (AC S i1) (QC S o0 hd) (y2) (1) = q := ⟨_, rfl⟩
    have hq281 := ((congrArg (fun q9 => G_X6_nextTo q9 (QC S o0 hd) (y2) (1)) (aC_mk (uC_200 (T := S) (o := i1) rfl) (uC_201 (T := S) (o := i1) rfl) (uC_202 (T := S) (o := i1) rfl) (uC_203 (T := S) (o := i1) rfl) (uC_204 (T := S) (o := i1) rfl) (uC_199 (T := S) (o := i1) rfl))).trans (congrArg (fun q9 => G_X6_nextTo (AC S i1) q9 (y2) (1)) (qC_mk (tC_388 (T := S) (o := o0) (a := hd) rfl) (tC_389 (T := S) (o := o0) (a := hd) rfl) (tC_390 (T := S) (o := o0) (a := hd) rfl) (tC_391 (T := S) (o := o0) (a := hd) rfl) (tC_392 (T := S) (o := o0) (a := hd) rfl) (tC_393 (T := S) (o := o0) (a := hd) rfl) rfl))).trans hd280
    have hs282 := hx278.2.trans (congrArg Prod.fst hq281)
    obtain rfl : d279.2 = y283 := ((el_w hx278.1).trans (congrArg Prod.snd hq281)).symm
    refine gt_Vv (As := [.long d279.2]) dX6_compute_221 ca_X6_109 ⟨by decide, by decide⟩ h0 hA277 rfl (Nat.le_of_ble_eq_true rfl) (Nat.le_of_ble_eq_true rfl) (by decide) (cr_X6_write hG275 (rc_af hc hA277) (fun _ _ _ _ h => h)) rfl (fun _ h => nomatch h) (fun S284 hx288 hG285 hB286 hA287 => ?_)
    obtain ⟨d289, hd290⟩ : ∃ q, G_X6_write (AC S i1) d279.1 (d279.2) = q := ⟨_, rfl⟩
    have hq291 := ((congrArg (fun q9 => G_X6_write q9 (QC S274 o0 hd) (d279.2)) (aC_mk ((i_af (k := 200) (oa_af hoi hA) hB276).trans (uC_200 (T := S) (o := i1) rfl)) ((i_af (k := 201) (oa_af hoi hA) hB276).trans (uC_201 (T := S) (o := i1) rfl)) ((i_af (k := 202) (oa_af hoi hA) hB276).trans (uC_202 (T := S) (o := i1) rfl)) ((i_af (k := 203) (oa_af hoi hA) hB276).trans (uC_203 (T := S) (o := i1) rfl)) ((i_af (k := 204) (oa_af hoi hA) hB276).trans (uC_204 (T := S) (o := i1) rfl)) ((i_af (k := 199) (oa_af hoi hA) hB276).trans (uC_199 (T := S) (o := i1) rfl)))).trans (congrArg (fun q9 => G_X6_write (AC S i1) q9 (d279.2)) (qC_mk (tC_388 hs282) (tC_389 hs282) (tC_390 hs282) (tC_391 hs282) (tC_392 hs282) (tC_393 hs282) (tC_j hs282)))).trans hd290
    have hs292 := hx288.trans hq291
    refine tt_goto (tgt := 343) dX6_compute_224 rfl ?_
    have hF : G_X6_compute_p62 (AC S i1) (QC S o0 hd) x1 y2 y4 = d289 := by
      subst hd290
      subst hd280
      exact g_X6_compute_p62_11 q101 q121 q141 q151 q161 q181 q201 q221 q232 q243 q253 q273
    exact tt_vreturn dX6_compute_343 rfl (hP _ _ _ _ ⟨hG285, hA287, Or.inl ⟨_, rfl, rfl, Eq.trans (qC_mk (tC_388 hs292) (tC_389 hs292) (tC_390 hs292) (tC_391 hs292) (tC_392 hs292) (tC_393 hs292) (tC_j hs292)) hF.symm, rfl, rfl⟩⟩)
  refine gt_by (c := x1 = 12) (fun q293 => ?_) (fun q293 => ?_)
  · skip
    refine gt_tseqL (off := 141) (tgt := 204) 12 12 dX6_compute_63 sl_X6_compute_p62_63 q293 rfl (by decide) (by decide) rfl rfl ?_
    refine tt_aload_n (j := 0) dX6_compute_204 rfl ?_
    refine tt_aload_n (j := 0) dX6_compute_205 rfl ?_
    refine tt_lload_n (j := 2) dX6_compute_206 rfl ?_
    refine tt_iload_n (j := 1) dX6_compute_207 rfl ?_
    refine tt_bipush (v := 11) dX6_compute_208 rfl ?_
    refine tt_icmp_ne (tgt := 217) dX6_compute_210 rfl (fun _ => ?_) (fun q => absurd q q273)
    refine tt_iconst (v := 0) dX6_compute_217 rfl ?_
    refine gt_VJ (As := [.long y2, .int 0]) dX6_compute_218 ca_X6_115 ⟨by decide, by decide⟩ h0 hA rfl (Nat.le_of_ble_eq_true rfl) (Nat.le_of_ble_eq_true rfl) (by decide) (cr_X6_nextTo hG (rg_w (⟨by decide, by decide⟩ : Rg 0 0 0)) (rc_af hc hA) (fun _ _ _ _ h => h)) rfl (fun _ h => nomatch h) (fun S294 y303 hx298 hG295 hB296 hA297 => ?_)
    obtain ⟨d299, hd300⟩ : ∃ q, G_X6_nextTo (AC S i1) (QC S o0 hd) (y2) (0) = q := ⟨_, rfl⟩
    have hq301 := ((congrArg (fun q9 => G_X6_nextTo q9 (QC S o0 hd) (y2) (0)) (aC_mk (uC_200 (T := S) (o := i1) rfl) (uC_201 (T := S) (o := i1) rfl) (uC_202 (T := S) (o := i1) rfl) (uC_203 (T := S) (o := i1) rfl) (uC_204 (T := S) (o := i1) rfl) (uC_199 (T := S) (o := i1) rfl))).trans (congrArg (fun q9 => G_X6_nextTo (AC S i1) q9 (y2) (0)) (qC_mk (tC_388 (T := S) (o := o0) (a := hd) rfl) (tC_389 (T := S) (o := o0) (a := hd) rfl) (tC_390 (T := S) (o := o0) (a := hd) rfl) (tC_391 (T := S) (o := o0) (a := hd) rfl) (tC_392 (T := S) (o := o0) (a := hd) rfl) (tC_393 (T := S) (o := o0) (a := hd) rfl) rfl))).trans hd300
    have hs302 := hx298.2.trans (congrArg Prod.fst hq301)
    obtain rfl : d299.2 = y303 := ((el_w hx298.1).trans (congrArg Prod.snd hq301)).symm
    refine gt_Vv (As := [.long d299.2]) dX6_compute_221 ca_X6_109 ⟨by decide, by decide⟩ h0 hA297 rfl (Nat.le_of_ble_eq_true rfl) (Nat.le_of_ble_eq_true rfl) (by decide) (cr_X6_write hG295 (rc_af hc hA297) (fun _ _ _ _ h => h)) rfl (fun _ h => nomatch h) (fun S304 hx308 hG305 hB306 hA307 => ?_)
    obtain ⟨d309, hd310⟩ : ∃ q, G_X6_write (AC S i1) d299.1 (d299.2) = q := ⟨_, rfl⟩
    have hq311 := ((congrArg (fun q9 => G_X6_write q9 (QC S294 o0 hd) (d299.2)) (aC_mk ((i_af (k := 200) (oa_af hoi hA) hB296).trans (uC_200 (T := S) (o := i1) rfl)) ((i_af (k := 201) (oa_af hoi hA) hB296).trans (uC_201 (T := S) (o := i1) rfl)) ((i_af (k := 202) (oa_af hoi hA) hB296).trans (uC_202 (T := S) (o := i1) rfl)) ((i_af (k := 203) (oa_af hoi hA) hB296).trans (uC_203 (T := S) (o := i1) rfl)) ((i_af (k := 204) (oa_af hoi hA) hB296).trans (uC_204 (T := S) (o := i1) rfl)) ((i_af (k := 199) (oa_af hoi hA) hB296).trans (uC_199 (T := S) (o := i1) rfl)))).trans (congrArg (fun q9 => G_X6_write (AC S i1) q9 (d299.2)) (qC_mk (tC_388 hs302) (tC_389 hs302) (tC_390 hs302) (tC_391 hs302) (tC_392 hs302) (tC_393 hs302) (tC_j hs302)))).trans hd310
    have hs312 := hx308.trans hq311
    refine tt_goto (tgt := 343) dX6_compute_224 rfl ?_
    have hF : G_X6_compute_p62 (AC S i1) (QC S o0 hd) x1 y2 y4 = d309 := by
      subst hd310
      subst hd300
      exact g_X6_compute_p62_12 q101 q121 q141 q151 q161 q181 q201 q221 q232 q243 q253 q273 q293
    exact tt_vreturn dX6_compute_343 rfl (hP _ _ _ _ ⟨hG305, hA307, Or.inl ⟨_, rfl, rfl, Eq.trans (qC_mk (tC_388 hs312) (tC_389 hs312) (tC_390 hs312) (tC_391 hs312) (tC_392 hs312) (tC_393 hs312) (tC_j hs312)) hF.symm, rfl, rfl⟩⟩)
  refine gt_by (c := x1 = 13) (fun q313 => ?_) (fun q313 => ?_)
  · skip
    refine gt_tseqL (off := 274) (tgt := 337) 13 13 dX6_compute_63 sl_X6_compute_p62_63 q313 rfl (by decide) (by decide) rfl rfl ?_
    refine tt_aload_n (j := 0) dX6_compute_337 rfl ?_
    refine tt_lload (j := 3) dX6_compute_338 rfl ?_
    refine gt_Vv (As := [.long y4]) dX6_compute_340 ca_X6_109 ⟨by decide, by decide⟩ h0 hA rfl (Nat.le_of_ble_eq_true rfl) (Nat.le_of_ble_eq_true rfl) (by decide) (cr_X6_write hG (rc_af hc hA) (fun _ _ _ _ h => h)) rfl (fun _ h => nomatch h) (fun S314 hx318 hG315 hB316 hA317 => ?_)
    obtain ⟨d319, hd320⟩ : ∃ q, G_X6_write (AC S i1) (QC S o0 hd) (y4) = q := ⟨_, rfl⟩
    have hq321 := ((congrArg (fun q9 => G_X6_write q9 (QC S o0 hd) (y4)) (aC_mk (uC_200 (T := S) (o := i1) rfl) (uC_201 (T := S) (o := i1) rfl) (uC_202 (T := S) (o := i1) rfl) (uC_203 (T := S) (o := i1) rfl) (uC_204 (T := S) (o := i1) rfl) (uC_199 (T := S) (o := i1) rfl))).trans (congrArg (fun q9 => G_X6_write (AC S i1) q9 (y4)) (qC_mk (tC_388 (T := S) (o := o0) (a := hd) rfl) (tC_389 (T := S) (o := o0) (a := hd) rfl) (tC_390 (T := S) (o := o0) (a := hd) rfl) (tC_391 (T := S) (o := o0) (a := hd) rfl) (tC_392 (T := S) (o := o0) (a := hd) rfl) (tC_393 (T := S) (o := o0) (a := hd) rfl) rfl))).trans hd320
    have hs322 := hx318.trans hq321
    have hF : G_X6_compute_p62 (AC S i1) (QC S o0 hd) x1 y2 y4 = d319 := by
      subst hd320
      exact g_X6_compute_p62_13 q101 q121 q141 q151 q161 q181 q201 q221 q232 q243 q253 q273 q293 q313
    exact tt_vreturn dX6_compute_343 rfl (hP _ _ _ _ ⟨hG315, hA317, Or.inl ⟨_, rfl, rfl, Eq.trans (qC_mk (tC_388 hs322) (tC_389 hs322) (tC_390 hs322) (tC_391 hs322) (tC_392 hs322) (tC_393 hs322) (tC_j hs322)) hF.symm, rfl, rfl⟩⟩)
  refine gt_by (c := x1 = 14) (fun q323 => ?_) (fun q323 => ?_)
  · skip
    refine gt_tseqL (off := 244) (tgt := 307) 14 14 dX6_compute_63 sl_X6_compute_p62_63 q323 rfl (by decide) (by decide) rfl rfl ?_
    refine tt_aload_n (j := 0) dX6_compute_307 rfl ?_
    refine tt_iconst (v := 0) dX6_compute_308 rfl ?_
    refine gt_pIj (id := 389) (x := 0) dX6_compute_309 fl_6_40 rfl rfl h0 hA rfl rfl rfl (gp_Ir hG (⟨by decide, by decide⟩ : Rg 0 0 0)) (by decide) (fun h => absurd h (by decide)) (fun h => absurd h (by decide)) (fun S324 hG325 hA326 e327 f328 er329 ej330 => ?_)
    refine tt_aload_n (j := 0) dX6_compute_312 rfl ?_
    refine tt_iload_n (j := 1) dX6_compute_313 rfl ?_
    refine tt_bipush (v := 17) dX6_compute_314 rfl ?_
    refine tt_icmp_ne (tgt := 326) dX6_compute_316 rfl (fun q331 => ?_) (fun q331 => ?_)
    · skip
      refine tt_aload_n (j := 0) dX6_compute_326 rfl ?_
      refine tt_lload_n (j := 2) dX6_compute_327 rfl ?_
      refine gt_VJp (As := [.long y2]) dX6_compute_328 ca_X6_124 ⟨by decide, by decide⟩ h0 hA326 rfl (Nat.le_of_ble_eq_true rfl) (Nat.le_of_ble_eq_true rfl) (by decide) (cr_X6_shifted hG325 (rc_af hc hA326) (fun _ _ _ _ h => h)) rfl (fun _ h => nomatch h) (fun _ _ q => q.1) (fun y332 hx334 => ?_)
      obtain rfl : G_X6_shifted (AC S i1) ((r0 (QC S o0 hd)), 0, (r2 (QC S o0 hd)), (r3 (QC S o0 hd)), (r4 (QC S o0 hd)), (r5 (QC S o0 hd)), (rA (QC S o0 hd))) (y2) = y332 := ((el_w hx334.2).trans ((congrArg (fun q9 => G_X6_shifted q9 (QC S324 o0 hd) (y2)) (aC_mk ((congrFun (congrFun e327 200) i1).trans ((congrFun (up2_ne (k := 200)) i1).trans (uC_200 (T := S) (o := i1) rfl))) ((congrFun (congrFun e327 201) i1).trans ((congrFun (up2_ne (k := 201)) i1).trans (uC_201 (T := S) (o := i1) rfl))) ((congrFun (congrFun e327 202) i1).trans ((congrFun (up2_ne (k := 202)) i1).trans (uC_202 (T := S) (o := i1) rfl))) ((congrFun (congrFun e327 203) i1).trans ((congrFun (up2_ne (k := 203)) i1).trans (uC_203 (T := S) (o := i1) rfl))) ((congrFun (congrFun e327 204) i1).trans ((congrFun (up2_ne (k := 204)) i1).trans (uC_204 (T := S) (o := i1) rfl))) ((congrFun (congrFun e327 199) i1).trans ((congrFun (up2_ne (k := 199)) i1).trans (uC_199 (T := S) (o := i1) rfl))))).trans (congrArg (fun q9 => G_X6_shifted (AC S i1) q9 (y2)) (qC_mk ((congrFun (congrFun e327 388) o0).trans ((congrFun (up2_ne (k := 388)) o0).trans (tC_388 (T := S) (o := o0) (a := hd) rfl))) (by rw [e327]; exact up2_self) ((congrFun (congrFun e327 390) o0).trans ((congrFun (up2_ne (k := 390)) o0).trans (tC_390 (T := S) (o := o0) (a := hd) rfl))) ((congrFun (congrFun e327 391) o0).trans ((congrFun (up2_ne (k := 391)) o0).trans (tC_391 (T := S) (o := o0) (a := hd) rfl))) ((congrFun (congrFun e327 392) o0).trans ((congrFun (up2_ne (k := 392)) o0).trans (tC_392 (T := S) (o := o0) (a := hd) rfl))) ((congrFun (congrFun e327 393) o0).trans ((congrFun (up2_ne (k := 393)) o0).trans (tC_393 (T := S) (o := o0) (a := hd) rfl))) ((congrFun ej330 hd).trans rfl))))).symm
      refine gt_Vv (As := [.long (G_X6_shifted (AC S i1) ((r0 (QC S o0 hd)), 0, (r2 (QC S o0 hd)), (r3 (QC S o0 hd)), (r4 (QC S o0 hd)), (r5 (QC S o0 hd)), (rA (QC S o0 hd))) (y2))]) dX6_compute_331 ca_X6_109 ⟨by decide, by decide⟩ h0 hA326 rfl (Nat.le_of_ble_eq_true rfl) (Nat.le_of_ble_eq_true rfl) (by decide) (cr_X6_write hG325 (rc_af hc hA326) (fun _ _ _ _ h => h)) rfl (fun _ h => nomatch h) (fun S335 hx339 hG336 hB337 hA338 => ?_)
      obtain ⟨d340, hd341⟩ : ∃ q, G_X6_write (AC S i1) ((r0 (QC S o0 hd)), 0, (r2 (QC S o0 hd)), (r3 (QC S o0 hd)), (r4 (QC S o0 hd)), (r5 (QC S o0 hd)), (rA (QC S o0 hd))) ((G_X6_shifted (AC S i1) ((r0 (QC S o0 hd)), 0, (r2 (QC S o0 hd)), (r3 (QC S o0 hd)), (r4 (QC S o0 hd)), (r5 (QC S o0 hd)), (rA (QC S o0 hd))) (y2))) = q := ⟨_, rfl⟩
      have hq342 := ((congrArg (fun q9 => G_X6_write q9 (QC S324 o0 hd) ((G_X6_shifted (AC S i1) ((r0 (QC S o0 hd)), 0, (r2 (QC S o0 hd)), (r3 (QC S o0 hd)), (r4 (QC S o0 hd)), (r5 (QC S o0 hd)), (rA (QC S o0 hd))) (y2)))) (aC_mk ((congrFun (congrFun e327 200) i1).trans ((congrFun (up2_ne (k := 200)) i1).trans (uC_200 (T := S) (o := i1) rfl))) ((congrFun (congrFun e327 201) i1).trans ((congrFun (up2_ne (k := 201)) i1).trans (uC_201 (T := S) (o := i1) rfl))) ((congrFun (congrFun e327 202) i1).trans ((congrFun (up2_ne (k := 202)) i1).trans (uC_202 (T := S) (o := i1) rfl))) ((congrFun (congrFun e327 203) i1).trans ((congrFun (up2_ne (k := 203)) i1).trans (uC_203 (T := S) (o := i1) rfl))) ((congrFun (congrFun e327 204) i1).trans ((congrFun (up2_ne (k := 204)) i1).trans (uC_204 (T := S) (o := i1) rfl))) ((congrFun (congrFun e327 199) i1).trans ((congrFun (up2_ne (k := 199)) i1).trans (uC_199 (T := S) (o := i1) rfl))))).trans (congrArg (fun q9 => G_X6_write (AC S i1) q9 ((G_X6_shifted (AC S i1) ((r0 (QC S o0 hd)), 0, (r2 (QC S o0 hd)), (r3 (QC S o0 hd)), (r4 (QC S o0 hd)), (r5 (QC S o0 hd)), (rA (QC S o0 hd))) (y2)))) (qC_mk ((congrFun (congrFun e327 388) o0).trans ((congrFun (up2_ne (k := 388)) o0).trans (tC_388 (T := S) (o := o0) (a := hd) rfl))) (by rw [e327]; exact up2_self) ((congrFun (congrFun e327 390) o0).trans ((congrFun (up2_ne (k := 390)) o0).trans (tC_390 (T := S) (o := o0) (a := hd) rfl))) ((congrFun (congrFun e327 391) o0).trans ((congrFun (up2_ne (k := 391)) o0).trans (tC_391 (T := S) (o := o0) (a := hd) rfl))) ((congrFun (congrFun e327 392) o0).trans ((congrFun (up2_ne (k := 392)) o0).trans (tC_392 (T := S) (o := o0) (a := hd) rfl))) ((congrFun (congrFun e327 393) o0).trans ((congrFun (up2_ne (k := 393)) o0).trans (tC_393 (T := S) (o := o0) (a := hd) rfl))) ((congrFun ej330 hd).trans rfl)))).trans hd341
      have hs343 := hx339.trans hq342
      refine tt_goto (tgt := 343) dX6_compute_334 rfl ?_
      have hF : G_X6_compute_p62 (AC S i1) (QC S o0 hd) x1 y2 y4 = d340 := by
        subst hd341
        exact g_X6_compute_p62_15 q101 q121 q141 q151 q161 q181 q201 q221 q232 q243 q253 q273 q293 q313 q323 q331
      exact tt_vreturn dX6_compute_343 rfl (hP _ _ _ _ ⟨hG336, hA338, Or.inl ⟨_, rfl, rfl, Eq.trans (qC_mk (tC_388 hs343) (tC_389 hs343) (tC_390 hs343) (tC_391 hs343) (tC_392 hs343) (tC_393 hs343) (tC_j hs343)) hF.symm, rfl, rfl⟩⟩)
    · skip
      have h344 : Rg 17 17 x1 := rg_eq_l (rg_all x1) (⟨by decide, by decide⟩ : Rg 17 17 17) q331
      refine tt_lload_n (j := 2) dX6_compute_319 rfl ?_
      refine tt_lload (j := 3) dX6_compute_320 rfl ?_
      refine tt_lmul dX6_compute_322 ?_
      refine tt_goto (tgt := 331) dX6_compute_323 rfl ?_
      refine gt_Vv (As := [.long (y2 * y4)]) dX6_compute_331 ca_X6_109 ⟨by decide, by decide⟩ h0 hA326 rfl (Nat.le_of_ble_eq_true rfl) (Nat.le_of_ble_eq_true rfl) (by decide) (cr_X6_write hG325 (rc_af hc hA326) (fun _ _ _ _ h => h)) rfl (fun _ h => nomatch h) (fun S345 hx349 hG346 hB347 hA348 => ?_)
      obtain ⟨d350, hd351⟩ : ∃ q, G_X6_write (AC S i1) ((r0 (QC S o0 hd)), 0, (r2 (QC S o0 hd)), (r3 (QC S o0 hd)), (r4 (QC S o0 hd)), (r5 (QC S o0 hd)), (rA (QC S o0 hd))) ((y2 * y4)) = q := ⟨_, rfl⟩
      have hq352 := ((congrArg (fun q9 => G_X6_write q9 (QC S324 o0 hd) ((y2 * y4))) (aC_mk ((congrFun (congrFun e327 200) i1).trans ((congrFun (up2_ne (k := 200)) i1).trans (uC_200 (T := S) (o := i1) rfl))) ((congrFun (congrFun e327 201) i1).trans ((congrFun (up2_ne (k := 201)) i1).trans (uC_201 (T := S) (o := i1) rfl))) ((congrFun (congrFun e327 202) i1).trans ((congrFun (up2_ne (k := 202)) i1).trans (uC_202 (T := S) (o := i1) rfl))) ((congrFun (congrFun e327 203) i1).trans ((congrFun (up2_ne (k := 203)) i1).trans (uC_203 (T := S) (o := i1) rfl))) ((congrFun (congrFun e327 204) i1).trans ((congrFun (up2_ne (k := 204)) i1).trans (uC_204 (T := S) (o := i1) rfl))) ((congrFun (congrFun e327 199) i1).trans ((congrFun (up2_ne (k := 199)) i1).trans (uC_199 (T := S) (o := i1) rfl))))).trans (congrArg (fun q9 => G_X6_write (AC S i1) q9 ((y2 * y4))) (qC_mk ((congrFun (congrFun e327 388) o0).trans ((congrFun (up2_ne (k := 388)) o0).trans (tC_388 (T := S) (o := o0) (a := hd) rfl))) (by rw [e327]; exact up2_self) ((congrFun (congrFun e327 390) o0).trans ((congrFun (up2_ne (k := 390)) o0).trans (tC_390 (T := S) (o := o0) (a := hd) rfl))) ((congrFun (congrFun e327 391) o0).trans ((congrFun (up2_ne (k := 391)) o0).trans (tC_391 (T := S) (o := o0) (a := hd) rfl))) ((congrFun (congrFun e327 392) o0).trans ((congrFun (up2_ne (k := 392)) o0).trans (tC_392 (T := S) (o := o0) (a := hd) rfl))) ((congrFun (congrFun e327 393) o0).trans ((congrFun (up2_ne (k := 393)) o0).trans (tC_393 (T := S) (o := o0) (a := hd) rfl))) ((congrFun ej330 hd).trans rfl)))).trans hd351
      have hs353 := hx349.trans hq352
      refine tt_goto (tgt := 343) dX6_compute_334 rfl ?_
      have hF : G_X6_compute_p62 (AC S i1) (QC S o0 hd) x1 y2 y4 = d350 := by
        subst hd351
        exact g_X6_compute_p62_14 q101 q121 q141 q151 q161 q181 q201 q221 q232 q243 q253 q273 q293 q313 q323 q331
      exact tt_vreturn dX6_compute_343 rfl (hP _ _ _ _ ⟨hG346, hA348, Or.inl ⟨_, rfl, rfl, Eq.trans (qC_mk (tC_388 hs353) (tC_389 hs353) (tC_390 hs353) (tC_391 hs353) (tC_392 hs353) (tC_393 hs353) (tC_j hs353)) hF.symm, rfl, rfl⟩⟩)
  refine gt_by (c := x1 = 15) (fun q354 => ?_) (fun q354 => ?_)
  · skip
    refine gt_tseqL (off := 244) (tgt := 307) 15 15 dX6_compute_63 sl_X6_compute_p62_63 q354 rfl (by decide) (by decide) rfl rfl ?_
    refine tt_aload_n (j := 0) dX6_compute_307 rfl ?_
    refine tt_iconst (v := 0) dX6_compute_308 rfl ?_
    refine gt_pIj (id := 389) (x := 0) dX6_compute_309 fl_6_40 rfl rfl h0 hA rfl rfl rfl (gp_Ir hG (⟨by decide, by decide⟩ : Rg 0 0 0)) (by decide) (fun h => absurd h (by decide)) (fun h => absurd h (by decide)) (fun S355 hG356 hA357 e358 f359 er360 ej361 => ?_)
    refine tt_aload_n (j := 0) dX6_compute_312 rfl ?_
    refine tt_iload_n (j := 1) dX6_compute_313 rfl ?_
    refine tt_bipush (v := 17) dX6_compute_314 rfl ?_
    refine tt_icmp_ne (tgt := 326) dX6_compute_316 rfl (fun q362 => ?_) (fun q362 => ?_)
    · skip
      refine tt_aload_n (j := 0) dX6_compute_326 rfl ?_
      refine tt_lload_n (j := 2) dX6_compute_327 rfl ?_
      refine gt_VJp (As := [.long y2]) dX6_compute_328 ca_X6_124 ⟨by decide, by decide⟩ h0 hA357 rfl (Nat.le_of_ble_eq_true rfl) (Nat.le_of_ble_eq_true rfl) (by decide) (cr_X6_shifted hG356 (rc_af hc hA357) (fun _ _ _ _ h => h)) rfl (fun _ h => nomatch h) (fun _ _ q => q.1) (fun y363 hx365 => ?_)
      obtain rfl : G_X6_shifted (AC S i1) ((r0 (QC S o0 hd)), 0, (r2 (QC S o0 hd)), (r3 (QC S o0 hd)), (r4 (QC S o0 hd)), (r5 (QC S o0 hd)), (rA (QC S o0 hd))) (y2) = y363 := ((el_w hx365.2).trans ((congrArg (fun q9 => G_X6_shifted q9 (QC S355 o0 hd) (y2)) (aC_mk ((congrFun (congrFun e358 200) i1).trans ((congrFun (up2_ne (k := 200)) i1).trans (uC_200 (T := S) (o := i1) rfl))) ((congrFun (congrFun e358 201) i1).trans ((congrFun (up2_ne (k := 201)) i1).trans (uC_201 (T := S) (o := i1) rfl))) ((congrFun (congrFun e358 202) i1).trans ((congrFun (up2_ne (k := 202)) i1).trans (uC_202 (T := S) (o := i1) rfl))) ((congrFun (congrFun e358 203) i1).trans ((congrFun (up2_ne (k := 203)) i1).trans (uC_203 (T := S) (o := i1) rfl))) ((congrFun (congrFun e358 204) i1).trans ((congrFun (up2_ne (k := 204)) i1).trans (uC_204 (T := S) (o := i1) rfl))) ((congrFun (congrFun e358 199) i1).trans ((congrFun (up2_ne (k := 199)) i1).trans (uC_199 (T := S) (o := i1) rfl))))).trans (congrArg (fun q9 => G_X6_shifted (AC S i1) q9 (y2)) (qC_mk ((congrFun (congrFun e358 388) o0).trans ((congrFun (up2_ne (k := 388)) o0).trans (tC_388 (T := S) (o := o0) (a := hd) rfl))) (by rw [e358]; exact up2_self) ((congrFun (congrFun e358 390) o0).trans ((congrFun (up2_ne (k := 390)) o0).trans (tC_390 (T := S) (o := o0) (a := hd) rfl))) ((congrFun (congrFun e358 391) o0).trans ((congrFun (up2_ne (k := 391)) o0).trans (tC_391 (T := S) (o := o0) (a := hd) rfl))) ((congrFun (congrFun e358 392) o0).trans ((congrFun (up2_ne (k := 392)) o0).trans (tC_392 (T := S) (o := o0) (a := hd) rfl))) ((congrFun (congrFun e358 393) o0).trans ((congrFun (up2_ne (k := 393)) o0).trans (tC_393 (T := S) (o := o0) (a := hd) rfl))) ((congrFun ej361 hd).trans rfl))))).symm
      refine gt_Vv (As := [.long (G_X6_shifted (AC S i1) ((r0 (QC S o0 hd)), 0, (r2 (QC S o0 hd)), (r3 (QC S o0 hd)), (r4 (QC S o0 hd)), (r5 (QC S o0 hd)), (rA (QC S o0 hd))) (y2))]) dX6_compute_331 ca_X6_109 ⟨by decide, by decide⟩ h0 hA357 rfl (Nat.le_of_ble_eq_true rfl) (Nat.le_of_ble_eq_true rfl) (by decide) (cr_X6_write hG356 (rc_af hc hA357) (fun _ _ _ _ h => h)) rfl (fun _ h => nomatch h) (fun S366 hx370 hG367 hB368 hA369 => ?_)
      obtain ⟨d371, hd372⟩ : ∃ q, G_X6_write (AC S i1) ((r0 (QC S o0 hd)), 0, (r2 (QC S o0 hd)), (r3 (QC S o0 hd)), (r4 (QC S o0 hd)), (r5 (QC S o0 hd)), (rA (QC S o0 hd))) ((G_X6_shifted (AC S i1) ((r0 (QC S o0 hd)), 0, (r2 (QC S o0 hd)), (r3 (QC S o0 hd)), (r4 (QC S o0 hd)), (r5 (QC S o0 hd)), (rA (QC S o0 hd))) (y2))) = q := ⟨_, rfl⟩
      have hq373 := ((congrArg (fun q9 => G_X6_write q9 (QC S355 o0 hd) ((G_X6_shifted (AC S i1) ((r0 (QC S o0 hd)), 0, (r2 (QC S o0 hd)), (r3 (QC S o0 hd)), (r4 (QC S o0 hd)), (r5 (QC S o0 hd)), (rA (QC S o0 hd))) (y2)))) (aC_mk ((congrFun (congrFun e358 200) i1).trans ((congrFun (up2_ne (k := 200)) i1).trans (uC_200 (T := S) (o := i1) rfl))) ((congrFun (congrFun e358 201) i1).trans ((congrFun (up2_ne (k := 201)) i1).trans (uC_201 (T := S) (o := i1) rfl))) ((congrFun (congrFun e358 202) i1).trans ((congrFun (up2_ne (k := 202)) i1).trans (uC_202 (T := S) (o := i1) rfl))) ((congrFun (congrFun e358 203) i1).trans ((congrFun (up2_ne (k := 203)) i1).trans (uC_203 (T := S) (o := i1) rfl))) ((congrFun (congrFun e358 204) i1).trans ((congrFun (up2_ne (k := 204)) i1).trans (uC_204 (T := S) (o := i1) rfl))) ((congrFun (congrFun e358 199) i1).trans ((congrFun (up2_ne (k := 199)) i1).trans (uC_199 (T := S) (o := i1) rfl))))).trans (congrArg (fun q9 => G_X6_write (AC S i1) q9 ((G_X6_shifted (AC S i1) ((r0 (QC S o0 hd)), 0, (r2 (QC S o0 hd)), (r3 (QC S o0 hd)), (r4 (QC S o0 hd)), (r5 (QC S o0 hd)), (rA (QC S o0 hd))) (y2)))) (qC_mk ((congrFun (congrFun e358 388) o0).trans ((congrFun (up2_ne (k := 388)) o0).trans (tC_388 (T := S) (o := o0) (a := hd) rfl))) (by rw [e358]; exact up2_self) ((congrFun (congrFun e358 390) o0).trans ((congrFun (up2_ne (k := 390)) o0).trans (tC_390 (T := S) (o := o0) (a := hd) rfl))) ((congrFun (congrFun e358 391) o0).trans ((congrFun (up2_ne (k := 391)) o0).trans (tC_391 (T := S) (o := o0) (a := hd) rfl))) ((congrFun (congrFun e358 392) o0).trans ((congrFun (up2_ne (k := 392)) o0).trans (tC_392 (T := S) (o := o0) (a := hd) rfl))) ((congrFun (congrFun e358 393) o0).trans ((congrFun (up2_ne (k := 393)) o0).trans (tC_393 (T := S) (o := o0) (a := hd) rfl))) ((congrFun ej361 hd).trans rfl)))).trans hd372
      have hs374 := hx370.trans hq373
      refine tt_goto (tgt := 343) dX6_compute_334 rfl ?_
      have hF : G_X6_compute_p62 (AC S i1) (QC S o0 hd) x1 y2 y4 = d371 := by
        subst hd372
        exact g_X6_compute_p62_17 q101 q121 q141 q151 q161 q181 q201 q221 q232 q243 q253 q273 q293 q313 q323 q354 q362
      exact tt_vreturn dX6_compute_343 rfl (hP _ _ _ _ ⟨hG367, hA369, Or.inl ⟨_, rfl, rfl, Eq.trans (qC_mk (tC_388 hs374) (tC_389 hs374) (tC_390 hs374) (tC_391 hs374) (tC_392 hs374) (tC_393 hs374) (tC_j hs374)) hF.symm, rfl, rfl⟩⟩)
    · skip
      have h375 : Rg 17 17 x1 := rg_eq_l (rg_all x1) (⟨by decide, by decide⟩ : Rg 17 17 17) q362
      refine tt_lload_n (j := 2) dX6_compute_319 rfl ?_
      refine tt_lload (j := 3) dX6_compute_320 rfl ?_
      refine tt_lmul dX6_compute_322 ?_
      refine tt_goto (tgt := 331) dX6_compute_323 rfl ?_
      refine gt_Vv (As := [.long (y2 * y4)]) dX6_compute_331 ca_X6_109 ⟨by decide, by decide⟩ h0 hA357 rfl (Nat.le_of_ble_eq_true rfl) (Nat.le_of_ble_eq_true rfl) (by decide) (cr_X6_write hG356 (rc_af hc hA357) (fun _ _ _ _ h => h)) rfl (fun _ h => nomatch h) (fun S376 hx380 hG377 hB378 hA379 => ?_)
      obtain ⟨d381, hd382⟩ : ∃ q, G_X6_write (AC S i1) ((r0 (QC S o0 hd)), 0, (r2 (QC S o0 hd)), (r3 (QC S o0 hd)), (r4 (QC S o0 hd)), (r5 (QC S o0 hd)), (rA (QC S o0 hd))) ((y2 * y4)) = q := ⟨_, rfl⟩
      have hq383 := ((congrArg (fun q9 => G_X6_write q9 (QC S355 o0 hd) ((y2 * y4))) (aC_mk ((congrFun (congrFun e358 200) i1).trans ((congrFun (up2_ne (k := 200)) i1).trans (uC_200 (T := S) (o := i1) rfl))) ((congrFun (congrFun e358 201) i1).trans ((congrFun (up2_ne (k := 201)) i1).trans (uC_201 (T := S) (o := i1) rfl))) ((congrFun (congrFun e358 202) i1).trans ((congrFun (up2_ne (k := 202)) i1).trans (uC_202 (T := S) (o := i1) rfl))) ((congrFun (congrFun e358 203) i1).trans ((congrFun (up2_ne (k := 203)) i1).trans (uC_203 (T := S) (o := i1) rfl))) ((congrFun (congrFun e358 204) i1).trans ((congrFun (up2_ne (k := 204)) i1).trans (uC_204 (T := S) (o := i1) rfl))) ((congrFun (congrFun e358 199) i1).trans ((congrFun (up2_ne (k := 199)) i1).trans (uC_199 (T := S) (o := i1) rfl))))).trans (congrArg (fun q9 => G_X6_write (AC S i1) q9 ((y2 * y4))) (qC_mk ((congrFun (congrFun e358 388) o0).trans ((congrFun (up2_ne (k := 388)) o0).trans (tC_388 (T := S) (o := o0) (a := hd) rfl))) (by rw [e358]; exact up2_self) ((congrFun (congrFun e358 390) o0).trans ((congrFun (up2_ne (k := 390)) o0).trans (tC_390 (T := S) (o := o0) (a := hd) rfl))) ((congrFun (congrFun e358 391) o0).trans ((congrFun (up2_ne (k := 391)) o0).trans (tC_391 (T := S) (o := o0) (a := hd) rfl))) ((congrFun (congrFun e358 392) o0).trans ((congrFun (up2_ne (k := 392)) o0).trans (tC_392 (T := S) (o := o0) (a := hd) rfl))) ((congrFun (congrFun e358 393) o0).trans ((congrFun (up2_ne (k := 393)) o0).trans (tC_393 (T := S) (o := o0) (a := hd) rfl))) ((congrFun ej361 hd).trans rfl)))).trans hd382
      have hs384 := hx380.trans hq383
      refine tt_goto (tgt := 343) dX6_compute_334 rfl ?_
      have hF : G_X6_compute_p62 (AC S i1) (QC S o0 hd) x1 y2 y4 = d381 := by
        subst hd382
        exact g_X6_compute_p62_16 q101 q121 q141 q151 q161 q181 q201 q221 q232 q243 q253 q273 q293 q313 q323 q354 q362
      exact tt_vreturn dX6_compute_343 rfl (hP _ _ _ _ ⟨hG377, hA379, Or.inl ⟨_, rfl, rfl, Eq.trans (qC_mk (tC_388 hs384) (tC_389 hs384) (tC_390 hs384) (tC_391 hs384) (tC_392 hs384) (tC_393 hs384) (tC_j hs384)) hF.symm, rfl, rfl⟩⟩)
  refine gt_by (c := x1 = 16) (fun q385 => ?_) (fun q385 => ?_)
  · skip
    refine gt_tseqL (off := 244) (tgt := 307) 16 16 dX6_compute_63 sl_X6_compute_p62_63 q385 rfl (by decide) (by decide) rfl rfl ?_
    refine tt_aload_n (j := 0) dX6_compute_307 rfl ?_
    refine tt_iconst (v := 0) dX6_compute_308 rfl ?_
    refine gt_pIj (id := 389) (x := 0) dX6_compute_309 fl_6_40 rfl rfl h0 hA rfl rfl rfl (gp_Ir hG (⟨by decide, by decide⟩ : Rg 0 0 0)) (by decide) (fun h => absurd h (by decide)) (fun h => absurd h (by decide)) (fun S386 hG387 hA388 e389 f390 er391 ej392 => ?_)
    refine tt_aload_n (j := 0) dX6_compute_312 rfl ?_
    refine tt_iload_n (j := 1) dX6_compute_313 rfl ?_
    refine tt_bipush (v := 17) dX6_compute_314 rfl ?_
    refine tt_icmp_ne (tgt := 326) dX6_compute_316 rfl (fun q393 => ?_) (fun q393 => ?_)
    · skip
      refine tt_aload_n (j := 0) dX6_compute_326 rfl ?_
      refine tt_lload_n (j := 2) dX6_compute_327 rfl ?_
      refine gt_VJp (As := [.long y2]) dX6_compute_328 ca_X6_124 ⟨by decide, by decide⟩ h0 hA388 rfl (Nat.le_of_ble_eq_true rfl) (Nat.le_of_ble_eq_true rfl) (by decide) (cr_X6_shifted hG387 (rc_af hc hA388) (fun _ _ _ _ h => h)) rfl (fun _ h => nomatch h) (fun _ _ q => q.1) (fun y394 hx396 => ?_)
      obtain rfl : G_X6_shifted (AC S i1) ((r0 (QC S o0 hd)), 0, (r2 (QC S o0 hd)), (r3 (QC S o0 hd)), (r4 (QC S o0 hd)), (r5 (QC S o0 hd)), (rA (QC S o0 hd))) (y2) = y394 := ((el_w hx396.2).trans ((congrArg (fun q9 => G_X6_shifted q9 (QC S386 o0 hd) (y2)) (aC_mk ((congrFun (congrFun e389 200) i1).trans ((congrFun (up2_ne (k := 200)) i1).trans (uC_200 (T := S) (o := i1) rfl))) ((congrFun (congrFun e389 201) i1).trans ((congrFun (up2_ne (k := 201)) i1).trans (uC_201 (T := S) (o := i1) rfl))) ((congrFun (congrFun e389 202) i1).trans ((congrFun (up2_ne (k := 202)) i1).trans (uC_202 (T := S) (o := i1) rfl))) ((congrFun (congrFun e389 203) i1).trans ((congrFun (up2_ne (k := 203)) i1).trans (uC_203 (T := S) (o := i1) rfl))) ((congrFun (congrFun e389 204) i1).trans ((congrFun (up2_ne (k := 204)) i1).trans (uC_204 (T := S) (o := i1) rfl))) ((congrFun (congrFun e389 199) i1).trans ((congrFun (up2_ne (k := 199)) i1).trans (uC_199 (T := S) (o := i1) rfl))))).trans (congrArg (fun q9 => G_X6_shifted (AC S i1) q9 (y2)) (qC_mk ((congrFun (congrFun e389 388) o0).trans ((congrFun (up2_ne (k := 388)) o0).trans (tC_388 (T := S) (o := o0) (a := hd) rfl))) (by rw [e389]; exact up2_self) ((congrFun (congrFun e389 390) o0).trans ((congrFun (up2_ne (k := 390)) o0).trans (tC_390 (T := S) (o := o0) (a := hd) rfl))) ((congrFun (congrFun e389 391) o0).trans ((congrFun (up2_ne (k := 391)) o0).trans (tC_391 (T := S) (o := o0) (a := hd) rfl))) ((congrFun (congrFun e389 392) o0).trans ((congrFun (up2_ne (k := 392)) o0).trans (tC_392 (T := S) (o := o0) (a := hd) rfl))) ((congrFun (congrFun e389 393) o0).trans ((congrFun (up2_ne (k := 393)) o0).trans (tC_393 (T := S) (o := o0) (a := hd) rfl))) ((congrFun ej392 hd).trans rfl))))).symm
      refine gt_Vv (As := [.long (G_X6_shifted (AC S i1) ((r0 (QC S o0 hd)), 0, (r2 (QC S o0 hd)), (r3 (QC S o0 hd)), (r4 (QC S o0 hd)), (r5 (QC S o0 hd)), (rA (QC S o0 hd))) (y2))]) dX6_compute_331 ca_X6_109 ⟨by decide, by decide⟩ h0 hA388 rfl (Nat.le_of_ble_eq_true rfl) (Nat.le_of_ble_eq_true rfl) (by decide) (cr_X6_write hG387 (rc_af hc hA388) (fun _ _ _ _ h => h)) rfl (fun _ h => nomatch h) (fun S397 hx401 hG398 hB399 hA400 => ?_)
      obtain ⟨d402, hd403⟩ : ∃ q, G_X6_write (AC S i1) ((r0 (QC S o0 hd)), 0, (r2 (QC S o0 hd)), (r3 (QC S o0 hd)), (r4 (QC S o0 hd)), (r5 (QC S o0 hd)), (rA (QC S o0 hd))) ((G_X6_shifted (AC S i1) ((r0 (QC S o0 hd)), 0, (r2 (QC S o0 hd)), (r3 (QC S o0 hd)), (r4 (QC S o0 hd)), (r5 (QC S o0 hd)), (rA (QC S o0 hd))) (y2))) = q := ⟨_, rfl⟩
      have hq404 := ((congrArg (fun q9 => G_X6_write q9 (QC S386 o0 hd) ((G_X6_shifted (AC S i1) ((r0 (QC S o0 hd)), 0, (r2 (QC S o0 hd)), (r3 (QC S o0 hd)), (r4 (QC S o0 hd)), (r5 (QC S o0 hd)), (rA (QC S o0 hd))) (y2)))) (aC_mk ((congrFun (congrFun e389 200) i1).trans ((congrFun (up2_ne (k := 200)) i1).trans (uC_200 (T := S) (o := i1) rfl))) ((congrFun (congrFun e389 201) i1).trans ((congrFun (up2_ne (k := 201)) i1).trans (uC_201 (T := S) (o := i1) rfl))) ((congrFun (congrFun e389 202) i1).trans ((congrFun (up2_ne (k := 202)) i1).trans (uC_202 (T := S) (o := i1) rfl))) ((congrFun (congrFun e389 203) i1).trans ((congrFun (up2_ne (k := 203)) i1).trans (uC_203 (T := S) (o := i1) rfl))) ((congrFun (congrFun e389 204) i1).trans ((congrFun (up2_ne (k := 204)) i1).trans (uC_204 (T := S) (o := i1) rfl))) ((congrFun (congrFun e389 199) i1).trans ((congrFun (up2_ne (k := 199)) i1).trans (uC_199 (T := S) (o := i1) rfl))))).trans (congrArg (fun q9 => G_X6_write (AC S i1) q9 ((G_X6_shifted (AC S i1) ((r0 (QC S o0 hd)), 0, (r2 (QC S o0 hd)), (r3 (QC S o0 hd)), (r4 (QC S o0 hd)), (r5 (QC S o0 hd)), (rA (QC S o0 hd))) (y2)))) (qC_mk ((congrFun (congrFun e389 388) o0).trans ((congrFun (up2_ne (k := 388)) o0).trans (tC_388 (T := S) (o := o0) (a := hd) rfl))) (by rw [e389]; exact up2_self) ((congrFun (congrFun e389 390) o0).trans ((congrFun (up2_ne (k := 390)) o0).trans (tC_390 (T := S) (o := o0) (a := hd) rfl))) ((congrFun (congrFun e389 391) o0).trans ((congrFun (up2_ne (k := 391)) o0).trans (tC_391 (T := S) (o := o0) (a := hd) rfl))) ((congrFun (congrFun e389 392) o0).trans ((congrFun (up2_ne (k := 392)) o0).trans (tC_392 (T := S) (o := o0) (a := hd) rfl))) ((congrFun (congrFun e389 393) o0).trans ((congrFun (up2_ne (k := 393)) o0).trans (tC_393 (T := S) (o := o0) (a := hd) rfl))) ((congrFun ej392 hd).trans rfl)))).trans hd403
      have hs405 := hx401.trans hq404
      refine tt_goto (tgt := 343) dX6_compute_334 rfl ?_
      have hF : G_X6_compute_p62 (AC S i1) (QC S o0 hd) x1 y2 y4 = d402 := by
        subst hd403
        exact g_X6_compute_p62_19 q101 q121 q141 q151 q161 q181 q201 q221 q232 q243 q253 q273 q293 q313 q323 q354 q385 q393
      exact tt_vreturn dX6_compute_343 rfl (hP _ _ _ _ ⟨hG398, hA400, Or.inl ⟨_, rfl, rfl, Eq.trans (qC_mk (tC_388 hs405) (tC_389 hs405) (tC_390 hs405) (tC_391 hs405) (tC_392 hs405) (tC_393 hs405) (tC_j hs405)) hF.symm, rfl, rfl⟩⟩)
    · skip
      have h406 : Rg 17 17 x1 := rg_eq_l (rg_all x1) (⟨by decide, by decide⟩ : Rg 17 17 17) q393
      refine tt_lload_n (j := 2) dX6_compute_319 rfl ?_
      refine tt_lload (j := 3) dX6_compute_320 rfl ?_
      refine tt_lmul dX6_compute_322 ?_
      refine tt_goto (tgt := 331) dX6_compute_323 rfl ?_
      refine gt_Vv (As := [.long (y2 * y4)]) dX6_compute_331 ca_X6_109 ⟨by decide, by decide⟩ h0 hA388 rfl (Nat.le_of_ble_eq_true rfl) (Nat.le_of_ble_eq_true rfl) (by decide) (cr_X6_write hG387 (rc_af hc hA388) (fun _ _ _ _ h => h)) rfl (fun _ h => nomatch h) (fun S407 hx411 hG408 hB409 hA410 => ?_)
      obtain ⟨d412, hd413⟩ : ∃ q, G_X6_write (AC S i1) ((r0 (QC S o0 hd)), 0, (r2 (QC S o0 hd)), (r3 (QC S o0 hd)), (r4 (QC S o0 hd)), (r5 (QC S o0 hd)), (rA (QC S o0 hd))) ((y2 * y4)) = q := ⟨_, rfl⟩
      have hq414 := ((congrArg (fun q9 => G_X6_write q9 (QC S386 o0 hd) ((y2 * y4))) (aC_mk ((congrFun (congrFun e389 200) i1).trans ((congrFun (up2_ne (k := 200)) i1).trans (uC_200 (T := S) (o := i1) rfl))) ((congrFun (congrFun e389 201) i1).trans ((congrFun (up2_ne (k := 201)) i1).trans (uC_201 (T := S) (o := i1) rfl))) ((congrFun (congrFun e389 202) i1).trans ((congrFun (up2_ne (k := 202)) i1).trans (uC_202 (T := S) (o := i1) rfl))) ((congrFun (congrFun e389 203) i1).trans ((congrFun (up2_ne (k := 203)) i1).trans (uC_203 (T := S) (o := i1) rfl))) ((congrFun (congrFun e389 204) i1).trans ((congrFun (up2_ne (k := 204)) i1).trans (uC_204 (T := S) (o := i1) rfl))) ((congrFun (congrFun e389 199) i1).trans ((congrFun (up2_ne (k := 199)) i1).trans (uC_199 (T := S) (o := i1) rfl))))).trans (congrArg (fun q9 => G_X6_write (AC S i1) q9 ((y2 * y4))) (qC_mk ((congrFun (congrFun e389 388) o0).trans ((congrFun (up2_ne (k := 388)) o0).trans (tC_388 (T := S) (o := o0) (a := hd) rfl))) (by rw [e389]; exact up2_self) ((congrFun (congrFun e389 390) o0).trans ((congrFun (up2_ne (k := 390)) o0).trans (tC_390 (T := S) (o := o0) (a := hd) rfl))) ((congrFun (congrFun e389 391) o0).trans ((congrFun (up2_ne (k := 391)) o0).trans (tC_391 (T := S) (o := o0) (a := hd) rfl))) ((congrFun (congrFun e389 392) o0).trans ((congrFun (up2_ne (k := 392)) o0).trans (tC_392 (T := S) (o := o0) (a := hd) rfl))) ((congrFun (congrFun e389 393) o0).trans ((congrFun (up2_ne (k := 393)) o0).trans (tC_393 (T := S) (o := o0) (a := hd) rfl))) ((congrFun ej392 hd).trans rfl)))).trans hd413
      have hs415 := hx411.trans hq414
      refine tt_goto (tgt := 343) dX6_compute_334 rfl ?_
      have hF : G_X6_compute_p62 (AC S i1) (QC S o0 hd) x1 y2 y4 = d412 := by
        subst hd413
        exact g_X6_compute_p62_18 q101 q121 q141 q151 q161 q181 q201 q221 q232 q243 q253 q273 q293 q313 q323 q354 q385 q393
      exact tt_vreturn dX6_compute_343 rfl (hP _ _ _ _ ⟨hG408, hA410, Or.inl ⟨_, rfl, rfl, Eq.trans (qC_mk (tC_388 hs415) (tC_389 hs415) (tC_390 hs415) (tC_391 hs415) (tC_392 hs415) (tC_393 hs415) (tC_j hs415)) hF.symm, rfl, rfl⟩⟩)
  refine gt_by (c := x1 = 17) (fun q416 => ?_) (fun q416 => ?_)
  · skip
    refine gt_tseqL (off := 244) (tgt := 307) 17 17 dX6_compute_63 sl_X6_compute_p62_63 q416 rfl (by decide) (by decide) rfl rfl ?_
    refine tt_aload_n (j := 0) dX6_compute_307 rfl ?_
    refine tt_iconst (v := 0) dX6_compute_308 rfl ?_
    refine gt_pIj (id := 389) (x := 0) dX6_compute_309 fl_6_40 rfl rfl h0 hA rfl rfl rfl (gp_Ir hG (⟨by decide, by decide⟩ : Rg 0 0 0)) (by decide) (fun h => absurd h (by decide)) (fun h => absurd h (by decide)) (fun S417 hG418 hA419 e420 f421 er422 ej423 => ?_)
    refine tt_aload_n (j := 0) dX6_compute_312 rfl ?_
    refine tt_iload_n (j := 1) dX6_compute_313 rfl ?_
    refine tt_bipush (v := 17) dX6_compute_314 rfl ?_
    refine tt_icmp_ne (tgt := 326) dX6_compute_316 rfl (fun q => absurd q416 q) (fun _ => ?_)
    refine tt_lload_n (j := 2) dX6_compute_319 rfl ?_
    refine tt_lload (j := 3) dX6_compute_320 rfl ?_
    refine tt_lmul dX6_compute_322 ?_
    refine tt_goto (tgt := 331) dX6_compute_323 rfl ?_
    refine gt_Vv (As := [.long (y2 * y4)]) dX6_compute_331 ca_X6_109 ⟨by decide, by decide⟩ h0 hA419 rfl (Nat.le_of_ble_eq_true rfl) (Nat.le_of_ble_eq_true rfl) (by decide) (cr_X6_write hG418 (rc_af hc hA419) (fun _ _ _ _ h => h)) rfl (fun _ h => nomatch h) (fun S424 hx428 hG425 hB426 hA427 => ?_)
    obtain ⟨d429, hd430⟩ : ∃ q, G_X6_write (AC S i1) ((r0 (QC S o0 hd)), 0, (r2 (QC S o0 hd)), (r3 (QC S o0 hd)), (r4 (QC S o0 hd)), (r5 (QC S o0 hd)), (rA (QC S o0 hd))) ((y2 * y4)) = q := ⟨_, rfl⟩
    have hq431 := ((congrArg (fun q9 => G_X6_write q9 (QC S417 o0 hd) ((y2 * y4))) (aC_mk ((congrFun (congrFun e420 200) i1).trans ((congrFun (up2_ne (k := 200)) i1).trans (uC_200 (T := S) (o := i1) rfl))) ((congrFun (congrFun e420 201) i1).trans ((congrFun (up2_ne (k := 201)) i1).trans (uC_201 (T := S) (o := i1) rfl))) ((congrFun (congrFun e420 202) i1).trans ((congrFun (up2_ne (k := 202)) i1).trans (uC_202 (T := S) (o := i1) rfl))) ((congrFun (congrFun e420 203) i1).trans ((congrFun (up2_ne (k := 203)) i1).trans (uC_203 (T := S) (o := i1) rfl))) ((congrFun (congrFun e420 204) i1).trans ((congrFun (up2_ne (k := 204)) i1).trans (uC_204 (T := S) (o := i1) rfl))) ((congrFun (congrFun e420 199) i1).trans ((congrFun (up2_ne (k := 199)) i1).trans (uC_199 (T := S) (o := i1) rfl))))).trans (congrArg (fun q9 => G_X6_write (AC S i1) q9 ((y2 * y4))) (qC_mk ((congrFun (congrFun e420 388) o0).trans ((congrFun (up2_ne (k := 388)) o0).trans (tC_388 (T := S) (o := o0) (a := hd) rfl))) (by rw [e420]; exact up2_self) ((congrFun (congrFun e420 390) o0).trans ((congrFun (up2_ne (k := 390)) o0).trans (tC_390 (T := S) (o := o0) (a := hd) rfl))) ((congrFun (congrFun e420 391) o0).trans ((congrFun (up2_ne (k := 391)) o0).trans (tC_391 (T := S) (o := o0) (a := hd) rfl))) ((congrFun (congrFun e420 392) o0).trans ((congrFun (up2_ne (k := 392)) o0).trans (tC_392 (T := S) (o := o0) (a := hd) rfl))) ((congrFun (congrFun e420 393) o0).trans ((congrFun (up2_ne (k := 393)) o0).trans (tC_393 (T := S) (o := o0) (a := hd) rfl))) ((congrFun ej423 hd).trans rfl)))).trans hd430
    have hs432 := hx428.trans hq431
    refine tt_goto (tgt := 343) dX6_compute_334 rfl ?_
    have hF : G_X6_compute_p62 (AC S i1) (QC S o0 hd) x1 y2 y4 = d429 := by
      subst hd430
      exact g_X6_compute_p62_20 q101 q121 q141 q151 q161 q181 q201 q221 q232 q243 q253 q273 q293 q313 q323 q354 q385 q416
    exact tt_vreturn dX6_compute_343 rfl (hP _ _ _ _ ⟨hG425, hA427, Or.inl ⟨_, rfl, rfl, Eq.trans (qC_mk (tC_388 hs432) (tC_389 hs432) (tC_390 hs432) (tC_391 hs432) (tC_392 hs432) (tC_393 hs432) (tC_j hs432)) hF.symm, rfl, rfl⟩⟩)
  refine gt_by (c := x1 = 18) (fun q433 => ?_) (fun q433 => ?_)
  · skip
    refine gt_tseqL (off := 233) (tgt := 296) 18 18 dX6_compute_63 sl_X6_compute_p62_63 q433 rfl (by decide) (by decide) rfl rfl ?_
    refine tt_aload_n (j := 0) dX6_compute_296 rfl ?_
    refine tt_lload (j := 3) dX6_compute_297 rfl ?_
    refine tt_l2i dX6_compute_299 ?_
    refine tt_i2l dX6_compute_300 ?_
    refine gt_Vv (As := [.long ((y4 : Int64).toInt32 : Int32).toInt64]) dX6_compute_301 ca_X6_109 ⟨by decide, by decide⟩ h0 hA rfl (Nat.le_of_ble_eq_true rfl) (Nat.le_of_ble_eq_true rfl) (by decide) (cr_X6_write hG (rc_af hc hA) (fun _ _ _ _ h => h)) rfl (fun _ h => nomatch h) (fun S434 hx438 hG435 hB436 hA437 => ?_)
    obtain ⟨d439, hd440⟩ : ∃ q, G_X6_write (AC S i1) (QC S o0 hd) (((y4 : Int64).toInt32 : Int32).toInt64) = q := ⟨_, rfl⟩
    have hq441 := ((congrArg (fun q9 => G_X6_write q9 (QC S o0 hd) (((y4 : Int64).toInt32 : Int32).toInt64)) (aC_mk (uC_200 (T := S) (o := i1) rfl) (uC_201 (T := S) (o := i1) rfl) (uC_202 (T := S) (o := i1) rfl) (uC_203 (T := S) (o := i1) rfl) (uC_204 (T := S) (o := i1) rfl) (uC_199 (T := S) (o := i1) rfl))).trans (congrArg (fun q9 => G_X6_write (AC S i1) q9 (((y4 : Int64).toInt32 : Int32).toInt64)) (qC_mk (tC_388 (T := S) (o := o0) (a := hd) rfl) (tC_389 (T := S) (o := o0) (a := hd) rfl) (tC_390 (T := S) (o := o0) (a := hd) rfl) (tC_391 (T := S) (o := o0) (a := hd) rfl) (tC_392 (T := S) (o := o0) (a := hd) rfl) (tC_393 (T := S) (o := o0) (a := hd) rfl) rfl))).trans hd440
    have hs442 := hx438.trans hq441
    refine tt_goto (tgt := 343) dX6_compute_304 rfl ?_
    have hF : G_X6_compute_p62 (AC S i1) (QC S o0 hd) x1 y2 y4 = d439 := by
      subst hd440
      exact g_X6_compute_p62_21 q101 q121 q141 q151 q161 q181 q201 q221 q232 q243 q253 q273 q293 q313 q323 q354 q385 q416 q433
    exact tt_vreturn dX6_compute_343 rfl (hP _ _ _ _ ⟨hG435, hA437, Or.inl ⟨_, rfl, rfl, Eq.trans (qC_mk (tC_388 hs442) (tC_389 hs442) (tC_390 hs442) (tC_391 hs442) (tC_392 hs442) (tC_393 hs442) (tC_j hs442)) hF.symm, rfl, rfl⟩⟩)
  have g443 := ne_i (k := 0) 0 q101 rfl
  have g444 := ne_i (k := 1) 1 q121 rfl
  have g445 := ne_i (k := 2) 2 q141 rfl
  have g446 := ne_i (k := 3) 3 q151 rfl
  have g447 := ne_i (k := 4) 4 q161 rfl
  have g448 := ne_i (k := 5) 5 q181 rfl
  have g449 := ne_i (k := 6) 6 q201 rfl
  have g450 := ne_i (k := 7) 7 q221 rfl
  have g451 := ne_i (k := 8) 8 q232 rfl
  have g452 := ne_i (k := 9) 9 q243 rfl
  have g453 := ne_i (k := 10) 10 q253 rfl
  have g454 := ne_i (k := 11) 11 q273 rfl
  have g455 := ne_i (k := 12) 12 q293 rfl
  have g456 := ne_i (k := 13) 13 q313 rfl
  have g457 := ne_i (k := 14) 14 q323 rfl
  have g458 := ne_i (k := 15) 15 q354 rfl
  have g459 := ne_i (k := 16) 16 q385 rfl
  have g460 := ne_i (k := 17) 17 q416 rfl
  have g461 := ne_i (k := 18) 18 q433 rfl
  refine tt_tableOut (tgt := 337) dX6_compute_63 (by omega) rfl ?_
  refine tt_aload_n (j := 0) dX6_compute_337 rfl ?_
  refine tt_lload (j := 3) dX6_compute_338 rfl ?_
  refine gt_Vv (As := [.long y4]) dX6_compute_340 ca_X6_109 ⟨by decide, by decide⟩ h0 hA rfl (Nat.le_of_ble_eq_true rfl) (Nat.le_of_ble_eq_true rfl) (by decide) (cr_X6_write hG (rc_af hc hA) (fun _ _ _ _ h => h)) rfl (fun _ h => nomatch h) (fun S462 hx466 hG463 hB464 hA465 => ?_)
  obtain ⟨d467, hd468⟩ : ∃ q, G_X6_write (AC S i1) (QC S o0 hd) (y4) = q := ⟨_, rfl⟩
  have hq469 := ((congrArg (fun q9 => G_X6_write q9 (QC S o0 hd) (y4)) (aC_mk (uC_200 (T := S) (o := i1) rfl) (uC_201 (T := S) (o := i1) rfl) (uC_202 (T := S) (o := i1) rfl) (uC_203 (T := S) (o := i1) rfl) (uC_204 (T := S) (o := i1) rfl) (uC_199 (T := S) (o := i1) rfl))).trans (congrArg (fun q9 => G_X6_write (AC S i1) q9 (y4)) (qC_mk (tC_388 (T := S) (o := o0) (a := hd) rfl) (tC_389 (T := S) (o := o0) (a := hd) rfl) (tC_390 (T := S) (o := o0) (a := hd) rfl) (tC_391 (T := S) (o := o0) (a := hd) rfl) (tC_392 (T := S) (o := o0) (a := hd) rfl) (tC_393 (T := S) (o := o0) (a := hd) rfl) rfl))).trans hd468
  have hs470 := hx466.trans hq469
  have hF : G_X6_compute_p62 (AC S i1) (QC S o0 hd) x1 y2 y4 = d467 := by
    subst hd468
    exact g_X6_compute_p62_22 q101 q121 q141 q151 q161 q181 q201 q221 q232 q243 q253 q273 q293 q313 q323 q354 q385 q416 q433
  exact tt_vreturn dX6_compute_343 rfl (hP _ _ _ _ ⟨hG463, hA465, Or.inl ⟨_, rfl, rfl, Eq.trans (qC_mk (tC_388 hs470) (tC_389 hs470) (tC_390 hs470) (tC_391 hs470) (tC_392 hs470) (tC_393 hs470) (tC_j hs470)) hF.symm, rfl, rfl⟩⟩)
def G_X6_compute (q : AU) (j : Int64) (w : RS) : RS :=
  if (u3 q) = (-1) then
    G_X6_compute_p62 q w ((u0 q)) ((G_X6_atWidth q w ((G_X6_read q w ((u2 q)))))) ((G_X6_atWidth q w (j)))
  else
    G_X6_compute_p62 q w ((u0 q)) ((G_X6_atWidth q w ((G_X6_read q w ((u2 q)))))) ((G_X6_atWidth q w ((G_X6_read q w ((u3 q))))))
theorem g_X6_compute_0 {q : AU} {j : Int64} {w : RS} (h0 : (u3 q) = (-1)) : G_X6_compute q j w  = G_X6_compute_p62 q w ((u0 q)) ((G_X6_atWidth q w ((G_X6_read q w ((u2 q)))))) ((G_X6_atWidth q w (j))) := by unfold G_X6_compute; exact if_pos h0
theorem g_X6_compute_1 {q : AU} {j : Int64} {w : RS} (h0 : ¬ (u3 q) = (-1)) : G_X6_compute q j w  = G_X6_compute_p62 q w ((u0 q)) ((G_X6_atWidth q w ((G_X6_read q w ((u2 q)))))) ((G_X6_atWidth q w ((G_X6_read q w ((u3 q)))))) := by unfold G_X6_compute; exact if_neg h0
set_option maxHeartbeats 40000000 in
theorem cr_X6_compute {xi : SX} {S : Hp} {E : List Nat} {kc nc : Nat} {P : Po} {o0 : Nat} {i1 hd : Nat} {bs : Nat → Int32} {n : Int32} (hG : GI S E) (hc : RC S E o0 i1 hd bs n) (hP : ∀ r T x y, PV E [389, 390, 391, 392, 393, 9993] S kc nc rV (fun v T => QC T o0 hd = G_X6_compute (AC S i1) (hp_J S 205 i1) (QC S o0 hd) ) [] r T x y → P r T x y) : TT xi M_X6_compute 0 [(0, .ref o0)] [] S kc nc P := by
  obtain ⟨h0, hri, hoi, hrh, hoh, hb, cb, hrc, hoc, rfl⟩ := id hc
  have hA : Af E [389, 390, 391, 392, 393, 9993] S S := af_rf
  refine tt_aload_n (j := 0) dX6_compute_0 rfl ?_
  refine gt_gR (id := 385) dX6_compute_1 fl_6_26 rfl rfl h0 hA hri ?_
  refine gt_gI (id := 200) (v := (u0 (AC S i1))) dX6_compute_4 fl_6_57 rfl rfl hoi hA (uC_200 (T := S) (o := i1) rfl) ?_
  refine tt_istore_n (ks := [0, 1]) (L' := [(1, .int (u0 (AC S i1))), (0, .ref o0)]) dX6_compute_7 (by decide) rfl ?_
  refine tt_aload_n (j := 1) dX6_compute_8 rfl ?_
  refine tt_aload_n (j := 1) dX6_compute_9 rfl ?_
  refine tt_aload_n (j := 1) dX6_compute_10 rfl ?_
  refine gt_gR (id := 385) dX6_compute_11 fl_6_26 rfl rfl h0 hA hri ?_
  refine gt_gI (id := 202) (v := (u2 (AC S i1))) dX6_compute_14 fl_6_91 rfl rfl hoi hA (uC_202 (T := S) (o := i1) rfl) ?_
  refine gt_VJp (As := [.int (u2 (AC S i1))]) dX6_compute_17 ca_X6_94 ⟨by decide, by decide⟩ h0 hA rfl (Nat.le_of_ble_eq_true rfl) (Nat.le_of_ble_eq_true rfl) (by decide) (cr_X6_read hG (rc_af hc hA) (fun _ _ _ _ h => h)) rfl (fun _ h => nomatch h) (fun _ _ q => q.1) (fun y101 hx103 => ?_)
  obtain rfl : G_X6_read (AC S i1) (QC S o0 hd) ((u2 (AC S i1))) = y101 := ((el_w hx103.2).trans ((congrArg (fun q9 => G_X6_read q9 (QC S o0 hd) ((u2 (AC S i1)))) (aC_mk (uC_200 (T := S) (o := i1) rfl) (uC_201 (T := S) (o := i1) rfl) (uC_202 (T := S) (o := i1) rfl) (uC_203 (T := S) (o := i1) rfl) (uC_204 (T := S) (o := i1) rfl) (uC_199 (T := S) (o := i1) rfl))).trans (congrArg (fun q9 => G_X6_read (AC S i1) q9 ((u2 (AC S i1)))) (qC_mk (tC_388 (T := S) (o := o0) (a := hd) rfl) (tC_389 (T := S) (o := o0) (a := hd) rfl) (tC_390 (T := S) (o := o0) (a := hd) rfl) (tC_391 (T := S) (o := o0) (a := hd) rfl) (tC_392 (T := S) (o := o0) (a := hd) rfl) (tC_393 (T := S) (o := o0) (a := hd) rfl) rfl)))).symm
  refine gt_VJp (As := [.long (G_X6_read (AC S i1) (QC S o0 hd) ((u2 (AC S i1))))]) dX6_compute_20 ca_X6_98 ⟨by decide, by decide⟩ h0 hA rfl (Nat.le_of_ble_eq_true rfl) (Nat.le_of_ble_eq_true rfl) (by decide) (cr_X6_atWidth hG (rc_af hc hA) (fun _ _ _ _ h => h)) rfl (fun _ h => nomatch h) (fun _ _ q => q.1) (fun y104 hx106 => ?_)
  obtain rfl : G_X6_atWidth (AC S i1) (QC S o0 hd) ((G_X6_read (AC S i1) (QC S o0 hd) ((u2 (AC S i1))))) = y104 := ((el_w hx106.2).trans ((congrArg (fun q9 => G_X6_atWidth q9 (QC S o0 hd) ((G_X6_read (AC S i1) (QC S o0 hd) ((u2 (AC S i1)))))) (aC_mk (uC_200 (T := S) (o := i1) rfl) (uC_201 (T := S) (o := i1) rfl) (uC_202 (T := S) (o := i1) rfl) (uC_203 (T := S) (o := i1) rfl) (uC_204 (T := S) (o := i1) rfl) (uC_199 (T := S) (o := i1) rfl))).trans (congrArg (fun q9 => G_X6_atWidth (AC S i1) q9 ((G_X6_read (AC S i1) (QC S o0 hd) ((u2 (AC S i1)))))) (qC_mk (tC_388 (T := S) (o := o0) (a := hd) rfl) (tC_389 (T := S) (o := o0) (a := hd) rfl) (tC_390 (T := S) (o := o0) (a := hd) rfl) (tC_391 (T := S) (o := o0) (a := hd) rfl) (tC_392 (T := S) (o := o0) (a := hd) rfl) (tC_393 (T := S) (o := o0) (a := hd) rfl) rfl)))).symm
  refine tt_lstore_n (ks := [0, 1, 2]) (L' := [(2, .long (G_X6_atWidth (AC S i1) (QC S o0 hd) ((G_X6_read (AC S i1) (QC S o0 hd) ((u2 (AC S i1))))))), (1, .int (u0 (AC S i1))), (0, .ref o0)]) dX6_compute_23 (by decide) rfl ?_
  refine tt_aload_n (j := 2) dX6_compute_24 rfl ?_
  refine tt_aload_n (j := 2) dX6_compute_25 rfl ?_
  refine gt_gR (id := 385) dX6_compute_26 fl_6_26 rfl rfl h0 hA hri ?_
  refine gt_gI (id := 203) (v := (u3 (AC S i1))) dX6_compute_29 fl_6_102 rfl rfl hoi hA (uC_203 (T := S) (o := i1) rfl) ?_
  refine tt_iconst (v := (-1)) dX6_compute_32 rfl ?_
  refine tt_icmp_ne (tgt := 46) dX6_compute_33 rfl (fun q107 => ?_) (fun q107 => ?_)
  · skip
    refine tt_aload_n (j := 2) dX6_compute_46 rfl ?_
    refine tt_aload_n (j := 2) dX6_compute_47 rfl ?_
    refine gt_gR (id := 385) dX6_compute_48 fl_6_26 rfl rfl h0 hA hri ?_
    refine gt_gI (id := 203) (v := (u3 (AC S i1))) dX6_compute_51 fl_6_102 rfl rfl hoi hA (uC_203 (T := S) (o := i1) rfl) ?_
    refine gt_VJp (As := [.int (u3 (AC S i1))]) dX6_compute_54 ca_X6_94 ⟨by decide, by decide⟩ h0 hA rfl (Nat.le_of_ble_eq_true rfl) (Nat.le_of_ble_eq_true rfl) (by decide) (cr_X6_read hG (rc_af hc hA) (fun _ _ _ _ h => h)) rfl (fun _ h => nomatch h) (fun _ _ q => q.1) (fun y108 hx110 => ?_)
    obtain rfl : G_X6_read (AC S i1) (QC S o0 hd) ((u3 (AC S i1))) = y108 := ((el_w hx110.2).trans ((congrArg (fun q9 => G_X6_read q9 (QC S o0 hd) ((u3 (AC S i1)))) (aC_mk (uC_200 (T := S) (o := i1) rfl) (uC_201 (T := S) (o := i1) rfl) (uC_202 (T := S) (o := i1) rfl) (uC_203 (T := S) (o := i1) rfl) (uC_204 (T := S) (o := i1) rfl) (uC_199 (T := S) (o := i1) rfl))).trans (congrArg (fun q9 => G_X6_read (AC S i1) q9 ((u3 (AC S i1)))) (qC_mk (tC_388 (T := S) (o := o0) (a := hd) rfl) (tC_389 (T := S) (o := o0) (a := hd) rfl) (tC_390 (T := S) (o := o0) (a := hd) rfl) (tC_391 (T := S) (o := o0) (a := hd) rfl) (tC_392 (T := S) (o := o0) (a := hd) rfl) (tC_393 (T := S) (o := o0) (a := hd) rfl) rfl)))).symm
    refine gt_VJp (As := [.long (G_X6_read (AC S i1) (QC S o0 hd) ((u3 (AC S i1))))]) dX6_compute_57 ca_X6_98 ⟨by decide, by decide⟩ h0 hA rfl (Nat.le_of_ble_eq_true rfl) (Nat.le_of_ble_eq_true rfl) (by decide) (cr_X6_atWidth hG (rc_af hc hA) (fun _ _ _ _ h => h)) rfl (fun _ h => nomatch h) (fun _ _ q => q.1) (fun y111 hx113 => ?_)
    obtain rfl : G_X6_atWidth (AC S i1) (QC S o0 hd) ((G_X6_read (AC S i1) (QC S o0 hd) ((u3 (AC S i1))))) = y111 := ((el_w hx113.2).trans ((congrArg (fun q9 => G_X6_atWidth q9 (QC S o0 hd) ((G_X6_read (AC S i1) (QC S o0 hd) ((u3 (AC S i1)))))) (aC_mk (uC_200 (T := S) (o := i1) rfl) (uC_201 (T := S) (o := i1) rfl) (uC_202 (T := S) (o := i1) rfl) (uC_203 (T := S) (o := i1) rfl) (uC_204 (T := S) (o := i1) rfl) (uC_199 (T := S) (o := i1) rfl))).trans (congrArg (fun q9 => G_X6_atWidth (AC S i1) q9 ((G_X6_read (AC S i1) (QC S o0 hd) ((u3 (AC S i1)))))) (qC_mk (tC_388 (T := S) (o := o0) (a := hd) rfl) (tC_389 (T := S) (o := o0) (a := hd) rfl) (tC_390 (T := S) (o := o0) (a := hd) rfl) (tC_391 (T := S) (o := o0) (a := hd) rfl) (tC_392 (T := S) (o := o0) (a := hd) rfl) (tC_393 (T := S) (o := o0) (a := hd) rfl) rfl)))).symm
    refine tt_lstore (ks := [0, 1, 2, 3]) (L' := [(4, .long (G_X6_atWidth (AC S i1) (QC S o0 hd) ((G_X6_read (AC S i1) (QC S o0 hd) ((u3 (AC S i1))))))), (2, .long (G_X6_atWidth (AC S i1) (QC S o0 hd) ((G_X6_read (AC S i1) (QC S o0 hd) ((u2 (AC S i1))))))), (1, .int (u0 (AC S i1))), (0, .ref o0)]) dX6_compute_60 (by decide) rfl ?_
    have hF : G_X6_compute (AC S i1) (hp_J S 205 i1) (QC S o0 hd)  = G_X6_compute_p62 (AC S i1) (QC S o0 hd) ((u0 (AC S i1))) ((G_X6_atWidth (AC S i1) (QC S o0 hd) ((G_X6_read (AC S i1) (QC S o0 hd) ((u2 (AC S i1))))))) ((G_X6_atWidth (AC S i1) (QC S o0 hd) ((G_X6_read (AC S i1) (QC S o0 hd) ((u3 (AC S i1))))))) := by
      exact g_X6_compute_1 q107
    exact tt_loc (ks := [3, 2, 1, 0]) rfl (cr_X6_compute_p62 hG (rc_af hc hA) (fun r T x y h => hP r T x y (pv_tr hA h (by decide) (fun v T e => e.trans (((congrArg (fun q9 => G_X6_compute_p62 q9 (QC S o0 hd) ((u0 (AC S i1))) ((G_X6_atWidth (AC S i1) (QC S o0 hd) ((G_X6_read (AC S i1) (QC S o0 hd) ((u2 (AC S i1))))))) ((G_X6_atWidth (AC S i1) (QC S o0 hd) ((G_X6_read (AC S i1) (QC S o0 hd) ((u3 (AC S i1)))))))) (aC_mk (uC_200 (T := S) (o := i1) rfl) (uC_201 (T := S) (o := i1) rfl) (uC_202 (T := S) (o := i1) rfl) (uC_203 (T := S) (o := i1) rfl) (uC_204 (T := S) (o := i1) rfl) (uC_199 (T := S) (o := i1) rfl))).trans (congrArg (fun q9 => G_X6_compute_p62 (AC S i1) q9 ((u0 (AC S i1))) ((G_X6_atWidth (AC S i1) (QC S o0 hd) ((G_X6_read (AC S i1) (QC S o0 hd) ((u2 (AC S i1))))))) ((G_X6_atWidth (AC S i1) (QC S o0 hd) ((G_X6_read (AC S i1) (QC S o0 hd) ((u3 (AC S i1)))))))) (qC_mk (tC_388 (T := S) (o := o0) (a := hd) rfl) (tC_389 (T := S) (o := o0) (a := hd) rfl) (tC_390 (T := S) (o := o0) (a := hd) rfl) (tC_391 (T := S) (o := o0) (a := hd) rfl) (tC_392 (T := S) (o := o0) (a := hd) rfl) (tC_393 (T := S) (o := o0) (a := hd) rfl) rfl))).trans hF.symm)))))
  · skip
    have h114 : Rg (-1) (-1) (u3 (AC S i1)) := rg_eq_l (rg_all (u3 (AC S i1))) (⟨by decide, by decide⟩ : Rg (-1) (-1) (-1)) q107
    refine tt_aload_n (j := 2) dX6_compute_36 rfl ?_
    refine gt_gR (id := 385) dX6_compute_37 fl_6_26 rfl rfl h0 hA hri ?_
    refine gt_gJ (id := 205) (v := (hp_J S 205 i1)) dX6_compute_40 fl_6_60 rfl rfl hoi hA rfl ?_
    refine tt_goto (tgt := 57) dX6_compute_43 rfl ?_
    refine gt_VJp (As := [.long (hp_J S 205 i1)]) dX6_compute_57 ca_X6_98 ⟨by decide, by decide⟩ h0 hA rfl (Nat.le_of_ble_eq_true rfl) (Nat.le_of_ble_eq_true rfl) (by decide) (cr_X6_atWidth hG (rc_af hc hA) (fun _ _ _ _ h => h)) rfl (fun _ h => nomatch h) (fun _ _ q => q.1) (fun y115 hx117 => ?_)
    obtain rfl : G_X6_atWidth (AC S i1) (QC S o0 hd) ((hp_J S 205 i1)) = y115 := ((el_w hx117.2).trans ((congrArg (fun q9 => G_X6_atWidth q9 (QC S o0 hd) ((hp_J S 205 i1))) (aC_mk (uC_200 (T := S) (o := i1) rfl) (uC_201 (T := S) (o := i1) rfl) (uC_202 (T := S) (o := i1) rfl) (uC_203 (T := S) (o := i1) rfl) (uC_204 (T := S) (o := i1) rfl) (uC_199 (T := S) (o := i1) rfl))).trans (congrArg (fun q9 => G_X6_atWidth (AC S i1) q9 ((hp_J S 205 i1))) (qC_mk (tC_388 (T := S) (o := o0) (a := hd) rfl) (tC_389 (T := S) (o := o0) (a := hd) rfl) (tC_390 (T := S) (o := o0) (a := hd) rfl) (tC_391 (T := S) (o := o0) (a := hd) rfl) (tC_392 (T := S) (o := o0) (a := hd) rfl) (tC_393 (T := S) (o := o0) (a := hd) rfl) rfl)))).symm
    refine tt_lstore (ks := [0, 1, 2, 3]) (L' := [(4, .long (G_X6_atWidth (AC S i1) (QC S o0 hd) ((hp_J S 205 i1)))), (2, .long (G_X6_atWidth (AC S i1) (QC S o0 hd) ((G_X6_read (AC S i1) (QC S o0 hd) ((u2 (AC S i1))))))), (1, .int (u0 (AC S i1))), (0, .ref o0)]) dX6_compute_60 (by decide) rfl ?_
    have hF : G_X6_compute (AC S i1) (hp_J S 205 i1) (QC S o0 hd)  = G_X6_compute_p62 (AC S i1) (QC S o0 hd) ((u0 (AC S i1))) ((G_X6_atWidth (AC S i1) (QC S o0 hd) ((G_X6_read (AC S i1) (QC S o0 hd) ((u2 (AC S i1))))))) ((G_X6_atWidth (AC S i1) (QC S o0 hd) ((hp_J S 205 i1)))) := by
      exact g_X6_compute_0 q107
    exact tt_loc (ks := [3, 2, 1, 0]) rfl (cr_X6_compute_p62 hG (rc_af hc hA) (fun r T x y h => hP r T x y (pv_tr hA h (by decide) (fun v T e => e.trans (((congrArg (fun q9 => G_X6_compute_p62 q9 (QC S o0 hd) ((u0 (AC S i1))) ((G_X6_atWidth (AC S i1) (QC S o0 hd) ((G_X6_read (AC S i1) (QC S o0 hd) ((u2 (AC S i1))))))) ((G_X6_atWidth (AC S i1) (QC S o0 hd) ((hp_J S 205 i1))))) (aC_mk (uC_200 (T := S) (o := i1) rfl) (uC_201 (T := S) (o := i1) rfl) (uC_202 (T := S) (o := i1) rfl) (uC_203 (T := S) (o := i1) rfl) (uC_204 (T := S) (o := i1) rfl) (uC_199 (T := S) (o := i1) rfl))).trans (congrArg (fun q9 => G_X6_compute_p62 (AC S i1) q9 ((u0 (AC S i1))) ((G_X6_atWidth (AC S i1) (QC S o0 hd) ((G_X6_read (AC S i1) (QC S o0 hd) ((u2 (AC S i1))))))) ((G_X6_atWidth (AC S i1) (QC S o0 hd) ((hp_J S 205 i1))))) (qC_mk (tC_388 (T := S) (o := o0) (a := hd) rfl) (tC_389 (T := S) (o := o0) (a := hd) rfl) (tC_390 (T := S) (o := o0) (a := hd) rfl) (tC_391 (T := S) (o := o0) (a := hd) rfl) (tC_392 (T := S) (o := o0) (a := hd) rfl) (tC_393 (T := S) (o := o0) (a := hd) rfl) rfl))).trans hF.symm)))))
theorem sl_X6_doNext_p20_40 : (#[(-1, 52), (19, 77), (20, 64), (21, 56), (22, 54)] : Array (Int × Int)).toList = [(-1, 52), (19, 77), (20, 64), (21, 56), (22, 54)] := rfl
theorem so_X6_doNext_p20_40 : ((([(-1, 52), (19, 77), (20, 64), (21, 56), (22, 54)] : List (Int × Int)).zip (([(-1, 52), (19, 77), (20, 64), (21, 56), (22, 54)] : List (Int × Int)).drop 1)).all (fun (a, next) => a.1 < next.1)) = true := by decide
def G_X6_doNext_p20 (n : Int32) (q : AU) (j : Int64) (w : RS) : RS × Int32 :=
  if (u0 q) = (-1) then
    (w, 2)
  else
    if (u0 q) = 19 then
      if (r1 w) = 0 then
        (w, 4)
      else
        if (G_X6_isSo q w ((u4 q))) = 0 then
          let d115 := G_X6_moveTo n q w ((((r0 w) + (u5 q)) : Int32).toInt64)
          (d115, 0)
        else
          let d125 := G_X6_moveTo n q w (j)
          (d125, 0)
    else
      if (u0 q) = 20 then
        let d136 := G_X6_moveTo n q w (j)
        (d136, 0)
      else
        if (u0 q) = 21 then
          let d146 := G_X6_moveTo n q w ((((r0 w) + (u5 q)) : Int32).toInt64)
          (d146, 0)
        else
          if (u0 q) = 22 then
            (w, 1)
          else
            let d156 := G_X6_compute q j w 
            let d165 := G_X6_moveTo n q d156 ((((r0 w) + (u5 q)) : Int32).toInt64)
            (d165, 0)
theorem g_X6_doNext_p20_0 {n : Int32} {q : AU} {j : Int64} {w : RS} (h0 : (u0 q) = (-1)) : G_X6_doNext_p20 n q j w  = (w, 2) := by unfold G_X6_doNext_p20; exact if_pos h0
theorem g_X6_doNext_p20_1 {n : Int32} {q : AU} {j : Int64} {w : RS} (h0 : ¬ (u0 q) = (-1)) (h1 : (u0 q) = 19) (h2 : (r1 w) = 0) : G_X6_doNext_p20 n q j w  = (w, 4) := by unfold G_X6_doNext_p20; exact Eq.trans (if_neg h0) (Eq.trans (if_pos h1) (if_pos h2))
theorem g_X6_doNext_p20_2 {n : Int32} {q : AU} {j : Int64} {w : RS} (h0 : ¬ (u0 q) = (-1)) (h1 : (u0 q) = 19) (h2 : ¬ (r1 w) = 0) (h3 : (G_X6_isSo q w ((u4 q))) = 0) : G_X6_doNext_p20 n q j w  = ((G_X6_moveTo n q w ((((r0 w) + (u5 q)) : Int32).toInt64)), 0) := by unfold G_X6_doNext_p20; exact Eq.trans (if_neg h0) (Eq.trans (if_pos h1) (Eq.trans (if_neg h2) (if_pos h3)))
theorem g_X6_doNext_p20_3 {n : Int32} {q : AU} {j : Int64} {w : RS} (h0 : ¬ (u0 q) = (-1)) (h1 : (u0 q) = 19) (h2 : ¬ (r1 w) = 0) (h3 : ¬ (G_X6_isSo q w ((u4 q))) = 0) : G_X6_doNext_p20 n q j w  = ((G_X6_moveTo n q w (j)), 0) := by unfold G_X6_doNext_p20; exact Eq.trans (if_neg h0) (Eq.trans (if_pos h1) (Eq.trans (if_neg h2) (if_neg h3)))
theorem g_X6_doNext_p20_4 {n : Int32} {q : AU} {j : Int64} {w : RS} (h0 : ¬ (u0 q) = (-1)) (h1 : ¬ (u0 q) = 19) (h2 : (u0 q) = 20) : G_X6_doNext_p20 n q j w  = ((G_X6_moveTo n q w (j)), 0) := by unfold G_X6_doNext_p20; exact Eq.trans (if_neg h0) (Eq.trans (if_neg h1) (if_pos h2))
theorem g_X6_doNext_p20_5 {n : Int32} {q : AU} {j : Int64} {w : RS} (h0 : ¬ (u0 q) = (-1)) (h1 : ¬ (u0 q) = 19) (h2 : ¬ (u0 q) = 20) (h3 : (u0 q) = 21) : G_X6_doNext_p20 n q j w  = ((G_X6_moveTo n q w ((((r0 w) + (u5 q)) : Int32).toInt64)), 0) := by unfold G_X6_doNext_p20; exact Eq.trans (if_neg h0) (Eq.trans (if_neg h1) (Eq.trans (if_neg h2) (if_pos h3)))
theorem g_X6_doNext_p20_6 {n : Int32} {q : AU} {j : Int64} {w : RS} (h0 : ¬ (u0 q) = (-1)) (h1 : ¬ (u0 q) = 19) (h2 : ¬ (u0 q) = 20) (h3 : ¬ (u0 q) = 21) (h4 : (u0 q) = 22) : G_X6_doNext_p20 n q j w  = (w, 1) := by unfold G_X6_doNext_p20; exact Eq.trans (if_neg h0) (Eq.trans (if_neg h1) (Eq.trans (if_neg h2) (Eq.trans (if_neg h3) (if_pos h4))))
theorem g_X6_doNext_p20_7 {n : Int32} {q : AU} {j : Int64} {w : RS} (h0 : ¬ (u0 q) = (-1)) (h1 : ¬ (u0 q) = 19) (h2 : ¬ (u0 q) = 20) (h3 : ¬ (u0 q) = 21) (h4 : ¬ (u0 q) = 22) : G_X6_doNext_p20 n q j w  = ((G_X6_moveTo n q (G_X6_compute q j w) ((((r0 w) + (u5 q)) : Int32).toInt64)), 0) := by unfold G_X6_doNext_p20; exact Eq.trans (if_neg h0) (Eq.trans (if_neg h1) (Eq.trans (if_neg h2) (Eq.trans (if_neg h3) (if_neg h4))))
set_option maxHeartbeats 40000000 in
theorem cr_X6_doNext_p20 {xi : SX} {S : Hp} {E : List Nat} {kc nc : Nat} {P : Po} {o0 : Nat} {i1 hd : Nat} {bs : Nat → Int32} {n : Int32} (hG : GI S E) (hc : RC S E o0 i1 hd bs n) (hP : ∀ r T x y, PV E [388, 389, 390, 391, 392, 393, 9993] S kc nc (rI 0 4) (fun v T => YIC (G_X6_doNext_p20 n (AC S i1) (hp_J S 205 i1) (QC S o0 hd) ) T o0 hd v) [] r T x y → P r T x y) : TT xi M_X6_doNext 20 [(0, .ref o0)] [] S kc nc P := by
  obtain ⟨h0, hri, hoi, hrh, hoh, hb, cb, hrc, hoc, rfl⟩ := id hc
  have hA : Af E [388, 389, 390, 391, 392, 393, 9993] S S := af_rf
  refine tt_aload_n (j := 0) dX6_doNext_20 rfl ?_
  refine gt_gI (id := 388) (v := (r0 (QC S o0 hd))) dX6_doNext_21 fl_6_18 rfl rfl h0 hA (tC_388 (T := S) (o := o0) (a := hd) rfl) ?_
  refine tt_aload_n (j := 0) dX6_doNext_24 rfl ?_
  refine gt_gR (id := 385) dX6_doNext_25 fl_6_26 rfl rfl h0 hA hri ?_
  refine gt_gI (id := 199) (v := (u5 (AC S i1))) dX6_doNext_28 fl_6_54 rfl rfl hoi hA (uC_199 (T := S) (o := i1) rfl) ?_
  refine tt_iadd dX6_doNext_31 ?_
  refine tt_istore_n (ks := [0, 1]) (L' := [(1, .int ((r0 (QC S o0 hd)) + (u5 (AC S i1)))), (0, .ref o0)]) dX6_doNext_32 (by decide) rfl ?_
  refine tt_aload_n (j := 1) dX6_doNext_33 rfl ?_
  refine gt_gR (id := 385) dX6_doNext_34 fl_6_26 rfl rfl h0 hA hri ?_
  refine gt_gI (id := 200) (v := (u0 (AC S i1))) dX6_doNext_37 fl_6_57 rfl rfl hoi hA (uC_200 (T := S) (o := i1) rfl) ?_
  refine gt_by (c := (u0 (AC S i1)) = (-1)) (fun q101 => ?_) (fun q101 => ?_)
  · skip
    refine gt_lseqL (off := 52) (tgt := 92) (-1) (-1) dX6_doNext_40 sl_X6_doNext_p20_40 so_X6_doNext_p20_40 q101 rfl rfl rfl ?_
    refine tt_iconst (v := 2) dX6_doNext_92 rfl ?_
    have hF : G_X6_doNext_p20 (hp_I S 65 cb) (AC S i1) (hp_J S 205 i1) (QC S o0 hd)  = ((QC S o0 hd), 2) := by
      exact g_X6_doNext_p20_0 q101
    exact tt_ireturn dX6_doNext_93 .int rfl rfl (hP _ _ _ _ ⟨hG, hA, Or.inl ⟨_, rfl, ⟨_, rfl, rg_w (⟨by decide, by decide⟩ : Rg 2 2 2)⟩, yiC_mk hF (qC_mk (tC_388 (T := S) (o := o0) (a := hd) rfl) (tC_389 (T := S) (o := o0) (a := hd) rfl) (tC_390 (T := S) (o := o0) (a := hd) rfl) (tC_391 (T := S) (o := o0) (a := hd) rfl) (tC_392 (T := S) (o := o0) (a := hd) rfl) (tC_393 (T := S) (o := o0) (a := hd) rfl) rfl), rfl, rfl⟩⟩)
  refine gt_by (c := (u0 (AC S i1)) = 19) (fun q102 => ?_) (fun q102 => ?_)
  · skip
    refine gt_lseqL (off := 77) (tgt := 117) 19 19 dX6_doNext_40 sl_X6_doNext_p20_40 so_X6_doNext_p20_40 q102 rfl rfl rfl ?_
    refine tt_aload_n (j := 1) dX6_doNext_117 rfl ?_
    refine gt_gI (id := 389) (v := (r1 (QC S o0 hd))) dX6_doNext_118 fl_6_40 rfl rfl h0 hA (tC_389 (T := S) (o := o0) (a := hd) rfl) ?_
    refine tt_if_ne (tgt := 126) dX6_doNext_121 rfl (fun q103 => ?_) (fun q103 => ?_)
    · skip
      have h104 : Rg 1 1 (r1 (QC S o0 hd)) := rg_ne_lo (gi_I (k := 389) hG h0 0 1) (⟨by decide, by decide⟩ : Rg 0 0 0) q103
      refine tt_aload_n (j := 1) dX6_doNext_126 rfl ?_
      refine tt_aload_n (j := 1) dX6_doNext_127 rfl ?_
      refine tt_aload_n (j := 1) dX6_doNext_128 rfl ?_
      refine gt_gR (id := 385) dX6_doNext_129 fl_6_26 rfl rfl h0 hA hri ?_
      refine gt_gI (id := 204) (v := (u4 (AC S i1))) dX6_doNext_132 fl_6_64 rfl rfl hoi hA (uC_204 (T := S) (o := i1) rfl) ?_
      refine gt_VIp (As := [.int (u4 (AC S i1))]) dX6_doNext_135 ca_X6_67 ⟨by decide, by decide⟩ h0 hA rfl (Nat.le_of_ble_eq_true rfl) (Nat.le_of_ble_eq_true rfl) (by decide) (cr_X6_isSo hG (rc_af hc hA) (fun _ _ _ _ h => h)) rfl (fun _ h => nomatch h) (fun _ _ q => q.1) (fun x105 h106 hx107 => ?_)
      obtain rfl : G_X6_isSo (AC S i1) (QC S o0 hd) ((u4 (AC S i1))) = x105 := ((ei_w hx107.2).trans ((congrArg (fun q9 => G_X6_isSo q9 (QC S o0 hd) ((u4 (AC S i1)))) (aC_mk (uC_200 (T := S) (o := i1) rfl) (uC_201 (T := S) (o := i1) rfl) (uC_202 (T := S) (o := i1) rfl) (uC_203 (T := S) (o := i1) rfl) (uC_204 (T := S) (o := i1) rfl) (uC_199 (T := S) (o := i1) rfl))).trans (congrArg (fun q9 => G_X6_isSo (AC S i1) q9 ((u4 (AC S i1)))) (qC_mk (tC_388 (T := S) (o := o0) (a := hd) rfl) (tC_389 (T := S) (o := o0) (a := hd) rfl) (tC_390 (T := S) (o := o0) (a := hd) rfl) (tC_391 (T := S) (o := o0) (a := hd) rfl) (tC_392 (T := S) (o := o0) (a := hd) rfl) (tC_393 (T := S) (o := o0) (a := hd) rfl) rfl)))).symm
      refine tt_if_eq (tgt := 151) dX6_doNext_138 rfl (fun q108 => ?_) (fun q108 => ?_)
      · skip
        have h109 : Rg 0 0 (G_X6_isSo (AC S i1) (QC S o0 hd) ((u4 (AC S i1)))) := rg_eq_l h106 (⟨by decide, by decide⟩ : Rg 0 0 0) q108
        refine tt_iload_n (j := 0) dX6_doNext_151 rfl ?_
        refine tt_i2l dX6_doNext_152 ?_
        refine gt_Vv (As := [.long (((r0 (QC S o0 hd)) + (u5 (AC S i1))) : Int32).toInt64]) dX6_doNext_153 ca_X6_44 ⟨by decide, by decide⟩ h0 hA rfl (Nat.le_of_ble_eq_true rfl) (Nat.le_of_ble_eq_true rfl) (by decide) (cr_X6_moveTo hG (rc_af hc hA) (fun _ _ _ _ h => h)) rfl (fun _ h => nomatch h) (fun S110 hx114 hG111 hB112 hA113 => ?_)
        obtain ⟨d115, hd116⟩ : ∃ q, G_X6_moveTo (hp_I S 65 cb) (AC S i1) (QC S o0 hd) ((((r0 (QC S o0 hd)) + (u5 (AC S i1))) : Int32).toInt64) = q := ⟨_, rfl⟩
        have hq117 := ((congrArg (fun q9 => G_X6_moveTo (hp_I S 65 cb) q9 (QC S o0 hd) ((((r0 (QC S o0 hd)) + (u5 (AC S i1))) : Int32).toInt64)) (aC_mk (uC_200 (T := S) (o := i1) rfl) (uC_201 (T := S) (o := i1) rfl) (uC_202 (T := S) (o := i1) rfl) (uC_203 (T := S) (o := i1) rfl) (uC_204 (T := S) (o := i1) rfl) (uC_199 (T := S) (o := i1) rfl))).trans (congrArg (fun q9 => G_X6_moveTo (hp_I S 65 cb) (AC S i1) q9 ((((r0 (QC S o0 hd)) + (u5 (AC S i1))) : Int32).toInt64)) (qC_mk (tC_388 (T := S) (o := o0) (a := hd) rfl) (tC_389 (T := S) (o := o0) (a := hd) rfl) (tC_390 (T := S) (o := o0) (a := hd) rfl) (tC_391 (T := S) (o := o0) (a := hd) rfl) (tC_392 (T := S) (o := o0) (a := hd) rfl) (tC_393 (T := S) (o := o0) (a := hd) rfl) rfl))).trans hd116
        have hs118 := hx114.trans hq117
        refine tt_iconst (v := 0) dX6_doNext_156 rfl ?_
        have hF : G_X6_doNext_p20 (hp_I S 65 cb) (AC S i1) (hp_J S 205 i1) (QC S o0 hd)  = (d115, 0) := by
          subst hd116
          exact g_X6_doNext_p20_2 q101 q102 q103 q108
        exact tt_ireturn dX6_doNext_157 .int rfl rfl (hP _ _ _ _ ⟨hG111, hA113, Or.inl ⟨_, rfl, ⟨_, rfl, rg_w (⟨by decide, by decide⟩ : Rg 0 0 0)⟩, yiC_mk hF (qC_mk (tC_388 hs118) (tC_389 hs118) (tC_390 hs118) (tC_391 hs118) (tC_392 hs118) (tC_393 hs118) (tC_j hs118)), rfl, rfl⟩⟩)
      · skip
        have h119 : Rg 1 1 (G_X6_isSo (AC S i1) (QC S o0 hd) ((u4 (AC S i1)))) := rg_ne_lo h106 (⟨by decide, by decide⟩ : Rg 0 0 0) q108
        refine tt_aload_n (j := 1) dX6_doNext_141 rfl ?_
        refine gt_gR (id := 385) dX6_doNext_142 fl_6_26 rfl rfl h0 hA hri ?_
        refine gt_gJ (id := 205) (v := (hp_J S 205 i1)) dX6_doNext_145 fl_6_60 rfl rfl hoi hA rfl ?_
        refine tt_goto (tgt := 153) dX6_doNext_148 rfl ?_
        refine gt_Vv (As := [.long (hp_J S 205 i1)]) dX6_doNext_153 ca_X6_44 ⟨by decide, by decide⟩ h0 hA rfl (Nat.le_of_ble_eq_true rfl) (Nat.le_of_ble_eq_true rfl) (by decide) (cr_X6_moveTo hG (rc_af hc hA) (fun _ _ _ _ h => h)) rfl (fun _ h => nomatch h) (fun S120 hx124 hG121 hB122 hA123 => ?_)
        obtain ⟨d125, hd126⟩ : ∃ q, G_X6_moveTo (hp_I S 65 cb) (AC S i1) (QC S o0 hd) ((hp_J S 205 i1)) = q := ⟨_, rfl⟩
        have hq127 := ((congrArg (fun q9 => G_X6_moveTo (hp_I S 65 cb) q9 (QC S o0 hd) ((hp_J S 205 i1))) (aC_mk (uC_200 (T := S) (o := i1) rfl) (uC_201 (T := S) (o := i1) rfl) (uC_202 (T := S) (o := i1) rfl) (uC_203 (T := S) (o := i1) rfl) (uC_204 (T := S) (o := i1) rfl) (uC_199 (T := S) (o := i1) rfl))).trans (congrArg (fun q9 => G_X6_moveTo (hp_I S 65 cb) (AC S i1) q9 ((hp_J S 205 i1))) (qC_mk (tC_388 (T := S) (o := o0) (a := hd) rfl) (tC_389 (T := S) (o := o0) (a := hd) rfl) (tC_390 (T := S) (o := o0) (a := hd) rfl) (tC_391 (T := S) (o := o0) (a := hd) rfl) (tC_392 (T := S) (o := o0) (a := hd) rfl) (tC_393 (T := S) (o := o0) (a := hd) rfl) rfl))).trans hd126
        have hs128 := hx124.trans hq127
        refine tt_iconst (v := 0) dX6_doNext_156 rfl ?_
        have hF : G_X6_doNext_p20 (hp_I S 65 cb) (AC S i1) (hp_J S 205 i1) (QC S o0 hd)  = (d125, 0) := by
          subst hd126
          exact g_X6_doNext_p20_3 q101 q102 q103 q108
        exact tt_ireturn dX6_doNext_157 .int rfl rfl (hP _ _ _ _ ⟨hG121, hA123, Or.inl ⟨_, rfl, ⟨_, rfl, rg_w (⟨by decide, by decide⟩ : Rg 0 0 0)⟩, yiC_mk hF (qC_mk (tC_388 hs128) (tC_389 hs128) (tC_390 hs128) (tC_391 hs128) (tC_392 hs128) (tC_393 hs128) (tC_j hs128)), rfl, rfl⟩⟩)
    · skip
      have h129 : Rg 0 0 (r1 (QC S o0 hd)) := rg_eq_l (gi_I (k := 389) hG h0 0 1) (⟨by decide, by decide⟩ : Rg 0 0 0) q103
      refine tt_iconst (v := 4) dX6_doNext_124 rfl ?_
      have hF : G_X6_doNext_p20 (hp_I S 65 cb) (AC S i1) (hp_J S 205 i1) (QC S o0 hd)  = ((QC S o0 hd), 4) := by
        exact g_X6_doNext_p20_1 q101 q102 q103
      exact tt_ireturn dX6_doNext_125 .int rfl rfl (hP _ _ _ _ ⟨hG, hA, Or.inl ⟨_, rfl, ⟨_, rfl, rg_w (⟨by decide, by decide⟩ : Rg 4 4 4)⟩, yiC_mk hF (qC_mk (tC_388 (T := S) (o := o0) (a := hd) rfl) (tC_389 (T := S) (o := o0) (a := hd) rfl) (tC_390 (T := S) (o := o0) (a := hd) rfl) (tC_391 (T := S) (o := o0) (a := hd) rfl) (tC_392 (T := S) (o := o0) (a := hd) rfl) (tC_393 (T := S) (o := o0) (a := hd) rfl) rfl), rfl, rfl⟩⟩)
  refine gt_by (c := (u0 (AC S i1)) = 20) (fun q130 => ?_) (fun q130 => ?_)
  · skip
    refine gt_lseqL (off := 64) (tgt := 104) 20 20 dX6_doNext_40 sl_X6_doNext_p20_40 so_X6_doNext_p20_40 q130 rfl rfl rfl ?_
    refine tt_aload_n (j := 1) dX6_doNext_104 rfl ?_
    refine tt_aload_n (j := 1) dX6_doNext_105 rfl ?_
    refine gt_gR (id := 385) dX6_doNext_106 fl_6_26 rfl rfl h0 hA hri ?_
    refine gt_gJ (id := 205) (v := (hp_J S 205 i1)) dX6_doNext_109 fl_6_60 rfl rfl hoi hA rfl ?_
    refine gt_Vv (As := [.long (hp_J S 205 i1)]) dX6_doNext_112 ca_X6_44 ⟨by decide, by decide⟩ h0 hA rfl (Nat.le_of_ble_eq_true rfl) (Nat.le_of_ble_eq_true rfl) (by decide) (cr_X6_moveTo hG (rc_af hc hA) (fun _ _ _ _ h => h)) rfl (fun _ h => nomatch h) (fun S131 hx135 hG132 hB133 hA134 => ?_)
    obtain ⟨d136, hd137⟩ : ∃ q, G_X6_moveTo (hp_I S 65 cb) (AC S i1) (QC S o0 hd) ((hp_J S 205 i1)) = q := ⟨_, rfl⟩
    have hq138 := ((congrArg (fun q9 => G_X6_moveTo (hp_I S 65 cb) q9 (QC S o0 hd) ((hp_J S 205 i1))) (aC_mk (uC_200 (T := S) (o := i1) rfl) (uC_201 (T := S) (o := i1) rfl) (uC_202 (T := S) (o := i1) rfl) (uC_203 (T := S) (o := i1) rfl) (uC_204 (T := S) (o := i1) rfl) (uC_199 (T := S) (o := i1) rfl))).trans (congrArg (fun q9 => G_X6_moveTo (hp_I S 65 cb) (AC S i1) q9 ((hp_J S 205 i1))) (qC_mk (tC_388 (T := S) (o := o0) (a := hd) rfl) (tC_389 (T := S) (o := o0) (a := hd) rfl) (tC_390 (T := S) (o := o0) (a := hd) rfl) (tC_391 (T := S) (o := o0) (a := hd) rfl) (tC_392 (T := S) (o := o0) (a := hd) rfl) (tC_393 (T := S) (o := o0) (a := hd) rfl) rfl))).trans hd137
    have hs139 := hx135.trans hq138
    refine tt_iconst (v := 0) dX6_doNext_115 rfl ?_
    have hF : G_X6_doNext_p20 (hp_I S 65 cb) (AC S i1) (hp_J S 205 i1) (QC S o0 hd)  = (d136, 0) := by
      subst hd137
      exact g_X6_doNext_p20_4 q101 q102 q130
    exact tt_ireturn dX6_doNext_116 .int rfl rfl (hP _ _ _ _ ⟨hG132, hA134, Or.inl ⟨_, rfl, ⟨_, rfl, rg_w (⟨by decide, by decide⟩ : Rg 0 0 0)⟩, yiC_mk hF (qC_mk (tC_388 hs139) (tC_389 hs139) (tC_390 hs139) (tC_391 hs139) (tC_392 hs139) (tC_393 hs139) (tC_j hs139)), rfl, rfl⟩⟩)
  refine gt_by (c := (u0 (AC S i1)) = 21) (fun q140 => ?_) (fun q140 => ?_)
  · skip
    refine gt_lseqL (off := 56) (tgt := 96) 21 21 dX6_doNext_40 sl_X6_doNext_p20_40 so_X6_doNext_p20_40 q140 rfl rfl rfl ?_
    refine tt_aload_n (j := 1) dX6_doNext_96 rfl ?_
    refine tt_iload_n (j := 0) dX6_doNext_97 rfl ?_
    refine tt_i2l dX6_doNext_98 ?_
    refine gt_Vv (As := [.long (((r0 (QC S o0 hd)) + (u5 (AC S i1))) : Int32).toInt64]) dX6_doNext_99 ca_X6_44 ⟨by decide, by decide⟩ h0 hA rfl (Nat.le_of_ble_eq_true rfl) (Nat.le_of_ble_eq_true rfl) (by decide) (cr_X6_moveTo hG (rc_af hc hA) (fun _ _ _ _ h => h)) rfl (fun _ h => nomatch h) (fun S141 hx145 hG142 hB143 hA144 => ?_)
    obtain ⟨d146, hd147⟩ : ∃ q, G_X6_moveTo (hp_I S 65 cb) (AC S i1) (QC S o0 hd) ((((r0 (QC S o0 hd)) + (u5 (AC S i1))) : Int32).toInt64) = q := ⟨_, rfl⟩
    have hq148 := ((congrArg (fun q9 => G_X6_moveTo (hp_I S 65 cb) q9 (QC S o0 hd) ((((r0 (QC S o0 hd)) + (u5 (AC S i1))) : Int32).toInt64)) (aC_mk (uC_200 (T := S) (o := i1) rfl) (uC_201 (T := S) (o := i1) rfl) (uC_202 (T := S) (o := i1) rfl) (uC_203 (T := S) (o := i1) rfl) (uC_204 (T := S) (o := i1) rfl) (uC_199 (T := S) (o := i1) rfl))).trans (congrArg (fun q9 => G_X6_moveTo (hp_I S 65 cb) (AC S i1) q9 ((((r0 (QC S o0 hd)) + (u5 (AC S i1))) : Int32).toInt64)) (qC_mk (tC_388 (T := S) (o := o0) (a := hd) rfl) (tC_389 (T := S) (o := o0) (a := hd) rfl) (tC_390 (T := S) (o := o0) (a := hd) rfl) (tC_391 (T := S) (o := o0) (a := hd) rfl) (tC_392 (T := S) (o := o0) (a := hd) rfl) (tC_393 (T := S) (o := o0) (a := hd) rfl) rfl))).trans hd147
    have hs149 := hx145.trans hq148
    refine tt_iconst (v := 0) dX6_doNext_102 rfl ?_
    have hF : G_X6_doNext_p20 (hp_I S 65 cb) (AC S i1) (hp_J S 205 i1) (QC S o0 hd)  = (d146, 0) := by
      subst hd147
      exact g_X6_doNext_p20_5 q101 q102 q130 q140
    exact tt_ireturn dX6_doNext_103 .int rfl rfl (hP _ _ _ _ ⟨hG142, hA144, Or.inl ⟨_, rfl, ⟨_, rfl, rg_w (⟨by decide, by decide⟩ : Rg 0 0 0)⟩, yiC_mk hF (qC_mk (tC_388 hs149) (tC_389 hs149) (tC_390 hs149) (tC_391 hs149) (tC_392 hs149) (tC_393 hs149) (tC_j hs149)), rfl, rfl⟩⟩)
  refine gt_by (c := (u0 (AC S i1)) = 22) (fun q150 => ?_) (fun q150 => ?_)
  · skip
    refine gt_lseqL (off := 54) (tgt := 94) 22 22 dX6_doNext_40 sl_X6_doNext_p20_40 so_X6_doNext_p20_40 q150 rfl rfl rfl ?_
    refine tt_iconst (v := 1) dX6_doNext_94 rfl ?_
    have hF : G_X6_doNext_p20 (hp_I S 65 cb) (AC S i1) (hp_J S 205 i1) (QC S o0 hd)  = ((QC S o0 hd), 1) := by
      exact g_X6_doNext_p20_6 q101 q102 q130 q140 q150
    exact tt_ireturn dX6_doNext_95 .int rfl rfl (hP _ _ _ _ ⟨hG, hA, Or.inl ⟨_, rfl, ⟨_, rfl, rg_w (⟨by decide, by decide⟩ : Rg 1 1 1)⟩, yiC_mk hF (qC_mk (tC_388 (T := S) (o := o0) (a := hd) rfl) (tC_389 (T := S) (o := o0) (a := hd) rfl) (tC_390 (T := S) (o := o0) (a := hd) rfl) (tC_391 (T := S) (o := o0) (a := hd) rfl) (tC_392 (T := S) (o := o0) (a := hd) rfl) (tC_393 (T := S) (o := o0) (a := hd) rfl) rfl), rfl, rfl⟩⟩)
  refine gt_lsdf (off := 118) (tgt := 158) dX6_doNext_40 sl_X6_doNext_p20_40 so_X6_doNext_p20_40 (of_ne (ne_i (-1) q101 rfl) (of_ne (ne_i 19 q102 rfl) (of_ne (ne_i 20 q130 rfl) (of_ne (ne_i 21 q140 rfl) (of_ne (ne_i 22 q150 rfl) rfl))))) rfl ?_
  refine tt_aload_n (j := 1) dX6_doNext_158 rfl ?_
  refine gt_Vv (As := []) dX6_doNext_159 ca_X6_70 ⟨by decide, by decide⟩ h0 hA rfl (Nat.le_of_ble_eq_true rfl) (Nat.le_of_ble_eq_true rfl) (by decide) (cr_X6_compute hG (rc_af hc hA) (fun _ _ _ _ h => h)) rfl (fun _ h => nomatch h) (fun S151 hx155 hG152 hB153 hA154 => ?_)
  obtain ⟨d156, hd157⟩ : ∃ q, G_X6_compute (AC S i1) (hp_J S 205 i1) (QC S o0 hd)  = q := ⟨_, rfl⟩
  have hq158 := ((congrArg (fun q9 => G_X6_compute q9 (hp_J S 205 i1) (QC S o0 hd) ) (aC_mk (uC_200 (T := S) (o := i1) rfl) (uC_201 (T := S) (o := i1) rfl) (uC_202 (T := S) (o := i1) rfl) (uC_203 (T := S) (o := i1) rfl) (uC_204 (T := S) (o := i1) rfl) (uC_199 (T := S) (o := i1) rfl))).trans (congrArg (fun q9 => G_X6_compute (AC S i1) (hp_J S 205 i1) q9 ) (qC_mk (tC_388 (T := S) (o := o0) (a := hd) rfl) (tC_389 (T := S) (o := o0) (a := hd) rfl) (tC_390 (T := S) (o := o0) (a := hd) rfl) (tC_391 (T := S) (o := o0) (a := hd) rfl) (tC_392 (T := S) (o := o0) (a := hd) rfl) (tC_393 (T := S) (o := o0) (a := hd) rfl) rfl))).trans hd157
  have hs159 := hx155.trans hq158
  refine tt_aload_n (j := 1) dX6_doNext_162 rfl ?_
  refine tt_iload_n (j := 0) dX6_doNext_163 rfl ?_
  refine tt_i2l dX6_doNext_164 ?_
  refine gt_Vv (As := [.long (((r0 (QC S o0 hd)) + (u5 (AC S i1))) : Int32).toInt64]) dX6_doNext_165 ca_X6_44 ⟨by decide, by decide⟩ h0 hA154 rfl (Nat.le_of_ble_eq_true rfl) (Nat.le_of_ble_eq_true rfl) (by decide) (cr_X6_moveTo hG152 (rc_af hc hA154) (fun _ _ _ _ h => h)) rfl (fun _ h => nomatch h) (fun S160 hx164 hG161 hB162 hA163 => ?_)
  obtain ⟨d165, hd166⟩ : ∃ q, G_X6_moveTo (hp_I S 65 cb) (AC S i1) d156 ((((r0 (QC S o0 hd)) + (u5 (AC S i1))) : Int32).toInt64) = q := ⟨_, rfl⟩
  have hq167 := ((congrArg (fun q9 => G_X6_moveTo (hp_I S 65 cb) q9 (QC S151 o0 hd) ((((r0 (QC S o0 hd)) + (u5 (AC S i1))) : Int32).toInt64)) (aC_mk ((i_af (k := 200) (oa_af hoi hA) hB153).trans (uC_200 (T := S) (o := i1) rfl)) ((i_af (k := 201) (oa_af hoi hA) hB153).trans (uC_201 (T := S) (o := i1) rfl)) ((i_af (k := 202) (oa_af hoi hA) hB153).trans (uC_202 (T := S) (o := i1) rfl)) ((i_af (k := 203) (oa_af hoi hA) hB153).trans (uC_203 (T := S) (o := i1) rfl)) ((i_af (k := 204) (oa_af hoi hA) hB153).trans (uC_204 (T := S) (o := i1) rfl)) ((i_af (k := 199) (oa_af hoi hA) hB153).trans (uC_199 (T := S) (o := i1) rfl)))).trans (congrArg (fun q9 => G_X6_moveTo (hp_I S 65 cb) (AC S i1) q9 ((((r0 (QC S o0 hd)) + (u5 (AC S i1))) : Int32).toInt64)) (qC_mk (tC_388 hs159) (tC_389 hs159) (tC_390 hs159) (tC_391 hs159) (tC_392 hs159) (tC_393 hs159) (tC_j hs159)))).trans hd166
  have hs168 := hx164.trans hq167
  refine tt_iconst (v := 0) dX6_doNext_168 rfl ?_
  have hF : G_X6_doNext_p20 (hp_I S 65 cb) (AC S i1) (hp_J S 205 i1) (QC S o0 hd)  = (d165, 0) := by
    subst hd166
    subst hd157
    exact g_X6_doNext_p20_7 q101 q102 q130 q140 q150
  exact tt_ireturn dX6_doNext_169 .int rfl rfl (hP _ _ _ _ ⟨hG161, hA163, Or.inl ⟨_, rfl, ⟨_, rfl, rg_w (⟨by decide, by decide⟩ : Rg 0 0 0)⟩, yiC_mk hF (qC_mk (tC_388 hs168) (tC_389 hs168) (tC_390 hs168) (tC_391 hs168) (tC_392 hs168) (tC_393 hs168) (tC_j hs168)), rfl, rfl⟩⟩)
