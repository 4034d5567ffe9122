theorem hd_iff {x n : Int32} : (¬ x.toInt64 < 0 ∧ x.toInt64 < n.toInt64) ↔ Rg 0 (n.toInt - 1) x := by
  unfold Rg
  rw [Int64.lt_iff_toInt_lt, Int64.lt_iff_toInt_lt, Int32.toInt_toInt64, Int32.toInt_toInt64, show (0 : Int64).toInt = 0 from rfl]
  omega
theorem hd_iff2 {x n : Int32} (hn : Rg 0 200 n) : (¬ x.toInt64 < 0 ∧ ¬ (n - 1 : Int32).toInt64 < x.toInt64) ↔ Rg 0 (n.toInt - 1) x := by
  obtain ⟨n1, n2⟩ := hn
  have e : (n - 1 : Int32).toInt = n.toInt - 1 := by rw [Int32.toInt_sub, show (1 : Int32).toInt = 1 from rfl, bmod_in (by omega) (by omega)]
  unfold Rg
  rw [Int64.lt_iff_toInt_lt, Int64.lt_iff_toInt_lt, Int32.toInt_toInt64, Int32.toInt_toInt64, e, show (0 : Int64).toInt = 0 from rfl]
  omega
theorem hd_iff5 {x : Int32} : (¬ x.toInt64 < 0 ∧ ¬ (5 : Int64) < x.toInt64) ↔ Rg 0 5 x := by
  unfold Rg
  rw [Int64.lt_iff_toInt_lt, Int64.lt_iff_toInt_lt, Int32.toInt_toInt64, show (0 : Int64).toInt = 0 from rfl, show (5 : Int64).toInt = 5 from rfl]
  omega
set_option maxHeartbeats 4000000 in
theorem cx_X1_holds {xi : SX} {S : Hp} {E : List Nat} {kc nc : Nat} {P : Po} {o0 : Nat} {y1 : Int64} (hG : GI S E) (h0 : Oa S E 1 0 o0) (hP : ∀ r T x y, PV E [] S kc nc (rI 0 1) (fun v T => T = S ∧ ∀ z, v = some (.int z) → z = bI (¬ y1 < 0 ∧ y1 < ((hp_I S 65 o0) : Int32).toInt64)) [] r T x y → P r T x y) : TT xi M_X1_holds 0 [(0, .ref o0), (1, .long y1)] [] S kc nc P := by
  have hA : Af E [] S S := af_rf
  refine tt_lload_n (j := 1) dX1_holds_0 rfl ?_
  refine tt_lconst (v := 0) dX1_holds_1 rfl ?_
  refine tt_lcmp dX1_holds_2 ?_
  refine tt_if_lt (tgt := 20) dX1_holds_3 rfl (fun q101 => ?_) (fun q101 => ?_)
  · skip
    have h102 : Rl (-9223372036854775808) (-1) y1 := rl_lt_l (rl_all y1) (⟨by decide, by decide⟩ : Rl 0 0 0) (lc_lt_t q101)
    refine tt_iconst (v := 0) dX1_holds_20 rfl ?_
    exact tt_ireturn dX1_holds_21 .boolean rfl rfl (hP _ _ _ _ ⟨hG, hA, Or.inl ⟨_, rfl, ⟨_, rfl, rg_w (⟨by decide, by decide⟩ : Rg 0 0 0)⟩, ⟨rfl, fun z e => (ei_v z e).trans (bI_f (fun h => h.1 (lc_lt_t q101))).symm⟩, rfl, rfl⟩⟩)
  · skip
    have h103 : Rl 0 9223372036854775807 y1 := rl_le_r (⟨by decide, by decide⟩ : Rl 0 0 0) (rl_all y1) (lc_lt_f q101)
    refine tt_lload_n (j := 1) dX1_holds_6 rfl ?_
    refine tt_aload_n (j := 0) dX1_holds_7 rfl ?_
    refine tt_getI (id := 65) dX1_holds_8 fl_1_15 rfl rfl (ob_af h0 hA) ?_
    refine tt_i2l dX1_holds_11 ?_
    refine tt_lcmp dX1_holds_12 ?_
    refine tt_if_ge (tgt := 20) dX1_holds_13 rfl (fun q104 => ?_) (fun q104 => ?_)
    · skip
      refine tt_iconst (v := 0) dX1_holds_20 rfl ?_
      exact tt_ireturn dX1_holds_21 .boolean rfl rfl (hP _ _ _ _ ⟨hG, hA, Or.inl ⟨_, rfl, ⟨_, rfl, rg_w (⟨by decide, by decide⟩ : Rg 0 0 0)⟩, ⟨rfl, fun z e => (ei_v z e).trans (bI_f (fun h => absurd h.2 (Int64.not_lt.mpr (lc_ge_t q104)))).symm⟩, rfl, rfl⟩⟩)
    · skip
      have h105 : Rl 0 199 y1 := rl_lt_l h103 (rg_i2l (gi_I (k := 65) hG (oa_af h0 hA) 0 200)) (lc_ge_f q104)
      have h106 : Rl 1 200 ((hp_I S 65 o0) : Int32).toInt64 := rl_lt_r h103 (rg_i2l (gi_I (k := 65) hG (oa_af h0 hA) 0 200)) (lc_ge_f q104)
      refine tt_iconst (v := 1) dX1_holds_16 rfl ?_
      refine tt_goto (tgt := 21) dX1_holds_17 rfl ?_
      exact tt_ireturn dX1_holds_21 .boolean rfl rfl (hP _ _ _ _ ⟨hG, hA, Or.inl ⟨_, rfl, ⟨_, rfl, rg_w (⟨by decide, by decide⟩ : Rg 1 1 1)⟩, ⟨rfl, fun z e => (ei_v z e).trans (bI_t ⟨Int64.not_lt.mpr (lc_lt_f q101), lc_ge_f q104⟩).symm⟩, rfl, rfl⟩⟩)
set_option maxHeartbeats 4000000 in
theorem cod_X9_requireByte {xi : SX} {S : Hp} {E : List Nat} {kc nc : Nat} {P : Po} {o0 : Nat} {x1 : Int32} (hG : GI S E) (h0 : Oa S E 9 0 o0) (hs : ∀ c, hp_R S 576 o0 = some c → Rg 0 ((hp_I S 65 c).toInt - 1) x1) (hP : ∀ r T x y, PV E [] S kc nc rV (fun _ T => T = S) [] r T x y → P r T x y) : TT xi M_X9_requireByte 0 [(0, .ref o0), (1, .int x1)] [] S kc nc P := by
  have hA : Af E [] S S := af_rf
  refine tt_aload_n (j := 0) dX9_requireByte_0 rfl ?_
  obtain ⟨b101, hr102, ho103⟩ := gi_R (k := 576) hG h0 1 0
  refine gt_gR (id := 576) dX9_requireByte_1 fl_9_10 rfl rfl h0 hA hr102 ?_
  refine tt_iload_n (j := 1) dX9_requireByte_4 rfl ?_
  refine tt_i2l dX9_requireByte_5 ?_
  refine gt_VIp (As := [.long (x1 : Int32).toInt64]) dX9_requireByte_6 ca_X9_164 ⟨by decide, by decide⟩ ho103 hA rfl (Nat.le_of_ble_eq_true rfl) (Nat.le_of_ble_eq_true rfl) (by decide) (cx_X1_holds hG (oa_af ho103 hA) (fun _ _ _ _ h => h)) rfl (fun _ h => nomatch h) (fun _ _ q => q.1) (fun x109 h110 hx108 => ?_)
  obtain rfl := (hx108.2 _ rfl).trans (bI_t (hd_iff.mpr (hs _ hr102)))
  refine tt_if_ne (tgt := 22) dX9_requireByte_9 rfl (fun _ => ?_) (fun q => absurd q (by decide))
  exact tt_vreturn dX9_requireByte_22 rfl (hP _ _ _ _ ⟨hG, hA, Or.inl ⟨_, rfl, rfl, rfl, rfl, rfl⟩⟩)
set_option maxHeartbeats 4000000 in
theorem cnd_X9_requireByte {xi : SX} {S : Hp} {E : List Nat} {kc nc : Nat} {P : Po} {o0 : Nat} {x1 : Int32} (hG : GI S E) (h0 : Oa S E 9 0 o0) (hs : ∀ c, hp_R S 576 o0 = some c → ¬ Rg 0 ((hp_I S 65 c).toInt - 1) x1) (hkc : 1 ≤ kc) (hnc : 6 ≤ nc) (hP : ∀ r T x y, PV E [] S kc nc (fun _ => False) ex0 ["java/lang/IllegalArgumentException"] r T x y → P r T x y) : TT xi M_X9_requireByte 0 [(0, .ref o0), (1, .int x1)] [] S kc nc P := by
  have hA : Af E [] S S := af_rf
  refine tt_aload_n (j := 0) dX9_requireByte_0 rfl ?_
  obtain ⟨b101, hr102, ho103⟩ := gi_R (k := 576) hG h0 1 0
  refine gt_gR (id := 576) dX9_requireByte_1 fl_9_10 rfl rfl h0 hA hr102 ?_
  refine tt_iload_n (j := 1) dX9_requireByte_4 rfl ?_
  refine tt_i2l dX9_requireByte_5 ?_
  refine gt_VIp (As := [.long (x1 : Int32).toInt64]) dX9_requireByte_6 ca_X9_164 ⟨by decide, by decide⟩ ho103 hA rfl (Nat.le_of_ble_eq_true rfl) (Nat.le_of_ble_eq_true rfl) (by decide) (cx_X1_holds hG (oa_af ho103 hA) (fun _ _ _ _ h => h)) rfl (fun _ h => nomatch h) (fun _ _ q => q.1) (fun x109 h110 hx108 => ?_)
  obtain rfl := (hx108.2 _ rfl).trans (bI_f (fun q => hs _ hr102 (hd_iff.mp q)))
  refine tt_if_ne (tgt := 22) dX9_requireByte_9 rfl (fun q => absurd q (by decide)) (fun _ => ?_)
  exact tt_throw th_X9_requireByte_12 (hP _ _ _ _ ⟨hG, hA, Or.inr ⟨_, List.mem_cons_self, rfl⟩⟩) hkc hnc (by decide)
set_option maxHeartbeats 4000000 in
theorem cod_X9_decode {xi : SX} {S : Hp} {E : List Nat} {kc nc : Nat} {P : Po} {o0 : Nat} {x1 : Int32} {x2 : Int32} {i1 : Nat} {bs : Nat → Int32} {n : Int32} (hG : GI S E) (h0 : Oa S E 9 0 o0) (hs : ∀ c, hp_R S 576 o0 = some c → Rg 0 ((hp_I S 65 c).toInt - 1) x1) (h2 : Rg 0 5 x2) (hi : hp_R S 577 o0 = some i1) (hoi : Oa S E 3 0 i1) (hb : BC S E i1 bs n) (hP : ∀ r T x y, PV E [193, 194, 195, 196, 197, 198, 199, 200, 201, 202, 203, 204] S kc nc (rI (-2147483648) 2147483647) (fun v T => ∃ d, v = some (.int (F_X3_tell bs n (F_X3_readFrom bs n d x1) x2).2)) [] r T x y → P r T x y) : TT xi M_X9_decode 0 [(0, .ref o0), (1, .int x1), (2, .int x2)] [] S kc nc P := by
  have hA : Af E [193, 194, 195, 196, 197, 198, 199, 200, 201, 202, 203, 204] S S := af_rf
  refine tt_aload_n (j := 0) dX9_decode_0 rfl ?_
  refine tt_iload_n (j := 1) dX9_decode_1 rfl ?_
  refine gt_Vvp (As := [.int x1]) dX9_decode_2 ca_X9_95 ⟨by decide, by decide⟩ h0 hA rfl (Nat.le_of_ble_eq_true rfl) (Nat.le_of_ble_eq_true rfl) (by decide) (cod_X9_requireByte hG (oa_af h0 hA) hs (fun _ _ _ _ h => h)) rfl (fun _ h => nomatch h) (fun _ _ q => q) (fun hx105 => ?_)
  refine tt_iload_n (j := 2) dX9_decode_5 rfl ?_
  refine tt_if_lt (tgt := 14) dX9_decode_6 rfl (fun q107 => ?_) (fun q107 => ?_)
  · have h108 : Rg 0 (-1) x2 := rg_lt_l h2 (⟨by decide, by decide⟩ : Rg 0 0 0) q107
    exact rg_no h108
  refine tt_iload_n (j := 2) dX9_decode_9 rfl ?_
  refine tt_iconst (v := 5) dX9_decode_10 rfl ?_
  refine tt_icmp_le (tgt := 24) dX9_decode_11 rfl (fun q110 => ?_) (fun q110 => ?_)
  · refine tt_aload_n (j := 0) dX9_decode_24 rfl ?_
    refine gt_gR (id := 577) dX9_decode_25 fl_9_21 rfl rfl h0 hA hi ?_
    refine tt_iload_n (j := 1) dX9_decode_28 rfl ?_
    refine gt_Vv (As := [.int x1]) dX9_decode_29 ca_X9_100 ⟨by decide, by decide⟩ hoi hA rfl (Nat.le_of_ble_eq_true rfl) (Nat.le_of_ble_eq_true rfl) (by decide) (ce_X3_readFrom hG (oa_af hoi hA) hb (fun _ _ _ _ h => h)) rfl (fun _ h => nomatch h) (fun S115 hx119 hG116 hB117 hA118 => ?_)
    refine tt_aload_n (j := 0) dX9_decode_32 rfl ?_
    refine gt_gR (id := 577) dX9_decode_33 fl_9_21 rfl rfl h0 hA118 hi ?_
    refine tt_iload_n (j := 2) dX9_decode_36 rfl ?_
    refine gt_VI (As := [.int x2]) dX9_decode_37 ca_X9_103 ⟨by decide, by decide⟩ hoi hA118 rfl (Nat.le_of_ble_eq_true rfl) (Nat.le_of_ble_eq_true rfl) (by decide) (ce_X3_tell hG116 (oa_af hoi hA118) (bc_af hb hoi hB117) (fun _ _ _ _ h => h)) rfl (fun _ h => nomatch h) (fun S120 x125 h126 hx124 hG121 hB122 hA123 => ?_)
    have e9 := xiC_v hx124
    rw [hx119] at e9
    exact tt_ireturn dX9_decode_40 .int rfl rfl (hP _ _ _ _ ⟨hG121, hA123, Or.inl ⟨_, rfl, ⟨_, rfl, rg_w h126⟩, ⟨_, congrArg (fun q => some (Value.int q)) e9⟩, rfl, rfl⟩⟩)
  · have h127 : Rg 6 5 x2 := rg_lt_r (⟨by decide, by decide⟩ : Rg 5 5 5) h2 (nle_lt q110)
    exact rg_no h127
set_option maxHeartbeats 4000000 in
theorem ckd_X9_decode {xi : SX} {S : Hp} {E : List Nat} {kc nc : Nat} {P : Po} {o0 : Nat} {x1 : Int32} {x2 : Int32} (hG : GI S E) (h0 : Oa S E 9 0 o0) (hs : ∀ c, hp_R S 576 o0 = some c → Rg 0 ((hp_I S 65 c).toInt - 1) x1) (hw : ¬ Rg 0 5 x2) (hkc : 1 ≤ kc) (hnc : 6 ≤ nc) (hP : ∀ r T x y, PV E [] S kc nc (fun _ => False) ex0 ["java/lang/IllegalArgumentException"] r T x y → P r T x y) : TT xi M_X9_decode 0 [(0, .ref o0), (1, .int x1), (2, .int x2)] [] S kc nc P := by
  have hA : Af E [] S S := af_rf
  refine tt_aload_n (j := 0) dX9_decode_0 rfl ?_
  refine tt_iload_n (j := 1) dX9_decode_1 rfl ?_
  refine gt_Vvp (As := [.int x1]) dX9_decode_2 ca_X9_95 ⟨by decide, by decide⟩ h0 hA rfl (Nat.le_of_ble_eq_true rfl) (Nat.le_of_ble_eq_true rfl) (by decide) (cod_X9_requireByte hG (oa_af h0 hA) hs (fun _ _ _ _ h => h)) rfl (fun _ h => nomatch h) (fun _ _ q => q) (fun hx105 => ?_)
  have B106 : TT xi M_X9_decode 14 [(0, .ref o0), (1, .int x1), (2, .int x2)] [] S kc nc P := by
    exact tt_throw th_X9_decode_14 (hP _ _ _ _ ⟨hG, hA, Or.inr ⟨_, List.mem_cons_self, rfl⟩⟩) hkc hnc (by decide)
  refine tt_iload_n (j := 2) dX9_decode_5 rfl ?_
  refine tt_if_lt (tgt := 14) dX9_decode_6 rfl (fun q107 => B106) (fun q107 => ?_)
  have h109 : Rg 0 2147483647 x2 := rg_le_r (⟨by decide, by decide⟩ : Rg 0 0 0) (rg_all x2) (nlt_le q107)
  refine tt_iload_n (j := 2) dX9_decode_9 rfl ?_
  refine tt_iconst (v := 5) dX9_decode_10 rfl ?_
  refine tt_icmp_le (tgt := 24) dX9_decode_11 rfl (fun q110 => ?_) (fun _ => B106)
  exact absurd (rg_le_l h109 (⟨by decide, by decide⟩ : Rg 5 5 5) q110) hw
set_option maxHeartbeats 4000000 in
theorem cnd_X9_decode {xi : SX} {S : Hp} {E : List Nat} {kc nc : Nat} {P : Po} {o0 : Nat} {x1 : Int32} {x2 : Int32} (hG : GI S E) (h0 : Oa S E 9 0 o0) (hs : ∀ c, hp_R S 576 o0 = some c → ¬ Rg 0 ((hp_I S 65 c).toInt - 1) x1) (hkc : 1 ≤ kc) (hnc : 6 ≤ nc) (hP : ∀ r T x y, PV E [] S kc nc (fun _ => False) ex0 ["java/lang/IllegalArgumentException"] r T x y → P r T x y) : TT xi M_X9_decode 0 [(0, .ref o0), (1, .int x1), (2, .int x2)] [] S kc nc P := by
  have hA : Af E [] S S := af_rf
  refine tt_aload_n (j := 0) dX9_decode_0 rfl ?_
  refine tt_iload_n (j := 1) dX9_decode_1 rfl ?_
  exact gt_V (As := [.int x1]) dX9_decode_2 ca_X9_95 ⟨by decide, by decide⟩ h0 hA rfl (Nat.le_of_ble_eq_true rfl) (Nat.le_of_ble_eq_true rfl) (by decide) (cnd_X9_requireByte hG (oa_af h0 hA) hs hkc hnc (fun _ _ _ _ h => h)) rfl (fun X hX T g1 g2 => hP _ _ _ _ ⟨g1, g2, Or.inr ⟨X, hX, rfl⟩⟩) (fun _ _ h => h.elim)
set_option maxHeartbeats 4000000 in
theorem cwod_L_decode {xi : SX} {S : Hp} {E : List Nat} {P : Po} {o0 : Nat} {x1 : Int32} {x2 : Int32} {i1 : Nat} {bs : Nat → Int32} {n : Int32} {o3 : Nat} (hG : GI S E) (h0 : Oa S E 9 0 o0) (h3 : Oa S E 33 1 o3) (hs : ∀ c, hp_R S 576 o0 = some c → Rg 0 ((hp_I S 65 c).toInt - 1) x1) (h2 : Rg 0 5 x2) (hi : hp_R S 577 o0 = some i1) (hoi : Oa S E 3 0 i1) (hb : BC S E i1 bs n) (hP : ∀ r T x y, PX E [193, 194, 195, 196, 197, 198, 199, 200, 201, 202, 203, 204, 9996] S (fun z T => z = 0 ∧ ∃ d, hp_j T o3 (0 : Int32).toNatClampNeg = ((F_X3_tell bs n (F_X3_readFrom bs n d x1) x2).2 : Int32).toInt64) r T x y → P r T x y) : TT xi M_L_decode 0 [(0, .ref o0), (1, .int x1), (2, .int x2), (3, .ref o3)] [] S 1 6 P := by
  have hA : Af E [193, 194, 195, 196, 197, 198, 199, 200, 201, 202, 203, 204, 9996] S S := af_rf
  refine tt_aload_n (j := 3) dL_decode_0 rfl ?_
  refine tt_iconst (v := 0) dL_decode_1 rfl ?_
  refine tt_aload_n (j := 0) dL_decode_2 rfl ?_
  refine tt_iload_n (j := 1) dL_decode_3 rfl ?_
  refine tt_iload_n (j := 2) dL_decode_4 rfl ?_
  refine gt_VC0 (As := [.int x1, .int x2]) dL_decode_5 ca_L_25 ⟨by decide, by decide⟩ h0 hA rfl (Nat.le_of_ble_eq_true rfl) (Nat.le_of_ble_eq_true rfl) (by decide) (cod_X9_decode hG (oa_af h0 hA) hs h2 hi hoi hb (fun _ _ _ _ h => h)) (fun S101 v106 hv107 hx105 hG102 hB103 hA104 => ?_)
  obtain ⟨x113, rfl, h114⟩ := hv107
  show TT xi M_L_decode 8 [(0, .ref o0), (1, .int x1), (2, .int x2), (3, .ref o3)] [.int x113, .int 0, .ref o3] S101 1 6 P
  refine tt_i2l dL_decode_8 ?_
  refine gt_lS1 dL_decode_9 h3 hA104 (rg_in (⟨by decide, by decide⟩ : Rg 0 0 0)) hG102 (Or.inr (by decide)) (by decide) (fun S115 hG116 hA117 e118 f119 er120 ej121 => ?_)
  refine tt_goto (tgt := 17) dL_decode_10 rfl ?_
  refine tt_iconst (v := 0) dL_decode_17 rfl ?_
  exact tt_ireturn dL_decode_18 .int rfl rfl (hP _ _ _ _ ⟨hG116, hA117, _, rfl, rfl, hx105.imp (fun d e => ej121.trans (congrArg Int32.toInt64 (ei_w e)))⟩)
set_option maxHeartbeats 4000000 in
theorem cwkd_L_decode {xi : SX} {S : Hp} {E : List Nat} {P : Po} {o0 : Nat} {x1 : Int32} {x2 : Int32} {o3 : Nat} (hG : GI S E) (h0 : Oa S E 9 0 o0) (h3 : Oa S E 33 1 o3) (hs : ∀ c, hp_R S 576 o0 = some c → Rg 0 ((hp_I S 65 c).toInt - 1) x1) (hw : ¬ Rg 0 5 x2) (hP : ∀ r T x y, PW E [9996] S (fun z => z = 1) r T x y → P r T x y) : TT xi M_L_decode 0 [(0, .ref o0), (1, .int x1), (2, .int x2), (3, .ref o3)] [] S 1 6 P := by
  have hA : Af E [9996] S S := af_rf
  refine tt_aload_n (j := 3) dL_decode_0 rfl ?_
  refine tt_iconst (v := 0) dL_decode_1 rfl ?_
  refine tt_aload_n (j := 0) dL_decode_2 rfl ?_
  refine tt_iload_n (j := 1) dL_decode_3 rfl ?_
  refine tt_iload_n (j := 2) dL_decode_4 rfl ?_
  refine gt_VC1 (As := [.int x1, .int x2]) dL_decode_5 ca_L_25 ⟨by decide, by decide⟩ h0 hA rfl (Nat.le_of_ble_eq_true rfl) (Nat.le_of_ble_eq_true rfl) (by decide) ch_L_decode_0 (ckd_X9_decode hG (oa_af h0 hA) hs hw (by decide) (by decide) (fun _ _ _ _ h => h)) (fun S108 q109 hG110 hB111 hA112 => ?_) (fun _ _ h => h.elim)
  · skip
    refine tt_astore (ks := [0, 1, 2, 3, 4]) (L' := [(4, .ref q109), (0, .ref o0), (1, .int x1), (2, .int x2), (3, .ref o3)]) dL_decode_13 (by decide) rfl ?_
    refine tt_iconst (v := 1) dL_decode_15 rfl ?_
    exact tt_ireturn dL_decode_16 .int rfl rfl (hP _ _ _ _ ⟨hG110, hA112, _, rfl, rfl⟩)
set_option maxHeartbeats 4000000 in
theorem cwnd_L_decode {xi : SX} {S : Hp} {E : List Nat} {P : Po} {o0 : Nat} {x1 : Int32} {x2 : Int32} {o3 : Nat} (hG : GI S E) (h0 : Oa S E 9 0 o0) (h3 : Oa S E 33 1 o3) (hs : ∀ c, hp_R S 576 o0 = some c → ¬ Rg 0 ((hp_I S 65 c).toInt - 1) x1) (hP : ∀ r T x y, PW E [9996] S (fun z => z = 1) r T x y → P r T x y) : TT xi M_L_decode 0 [(0, .ref o0), (1, .int x1), (2, .int x2), (3, .ref o3)] [] S 1 6 P := by
  have hA : Af E [9996] S S := af_rf
  refine tt_aload_n (j := 3) dL_decode_0 rfl ?_
  refine tt_iconst (v := 0) dL_decode_1 rfl ?_
  refine tt_aload_n (j := 0) dL_decode_2 rfl ?_
  refine tt_iload_n (j := 1) dL_decode_3 rfl ?_
  refine tt_iload_n (j := 2) dL_decode_4 rfl ?_
  refine gt_VC1 (As := [.int x1, .int x2]) dL_decode_5 ca_L_25 ⟨by decide, by decide⟩ h0 hA rfl (Nat.le_of_ble_eq_true rfl) (Nat.le_of_ble_eq_true rfl) (by decide) ch_L_decode_0 (cnd_X9_decode hG (oa_af h0 hA) hs (by decide) (by decide) (fun _ _ _ _ h => h)) (fun S108 q109 hG110 hB111 hA112 => ?_) (fun _ _ h => h.elim)
  · skip
    refine tt_astore (ks := [0, 1, 2, 3, 4]) (L' := [(4, .ref q109), (0, .ref o0), (1, .int x1), (2, .int x2), (3, .ref o3)]) dL_decode_13 (by decide) rfl ?_
    refine tt_iconst (v := 1) dL_decode_15 rfl ?_
    exact tt_ireturn dL_decode_16 .int rfl rfl (hP _ _ _ _ ⟨hG110, hA112, _, rfl, rfl⟩)
/-- what the reference's decode tells -/
def tR (F : DD × Int32) (w : Int32) : Int32 := if F.2 = 0 then -1 else if w = 0 then e6 F.1 else if w = 1 then e1 F.1 else if w = 2 then e2 F.1 else if w = 3 then e3 F.1 else if w = 4 then e4 F.1 else e5 F.1
theorem tR_n {F : DD × Int32} {w : Int32} (h : F.2 = 0) : (-1 : Int32) = tR F w := (if_pos h).symm
theorem tR_0 {F : DD × Int32} {w v : Int32} (h : ¬ F.2 = 0) (h0 : w = 0) (e : v = e6 F.1) : v = tR F w := by unfold tR; rw [if_neg h, if_pos h0]; exact e
theorem tR_1 {F : DD × Int32} {w v : Int32} (h : ¬ F.2 = 0) (h0 : ¬ w = 0) (h1 : w = 1) (e : v = e1 F.1) : v = tR F w := by unfold tR; rw [if_neg h, if_neg h0, if_pos h1]; exact e
theorem tR_2 {F : DD × Int32} {w v : Int32} (h : ¬ F.2 = 0) (h0 : ¬ w = 0) (h1 : ¬ w = 1) (h2 : w = 2) (e : v = e2 F.1) : v = tR F w := by unfold tR; rw [if_neg h, if_neg h0, if_neg h1, if_pos h2]; exact e
theorem tR_3 {F : DD × Int32} {w v : Int32} (h : ¬ F.2 = 0) (h0 : ¬ w = 0) (h1 : ¬ w = 1) (h2 : ¬ w = 2) (h3 : w = 3) (e : v = e3 F.1) : v = tR F w := by unfold tR; rw [if_neg h, if_neg h0, if_neg h1, if_neg h2, if_pos h3]; exact e
theorem tR_4 {F : DD × Int32} {w v : Int32} (h : ¬ F.2 = 0) (h0 : ¬ w = 0) (h1 : ¬ w = 1) (h2 : ¬ w = 2) (h3 : ¬ w = 3) (h4 : w = 4) (e : v = e4 F.1) : v = tR F w := by unfold tR; rw [if_neg h, if_neg h0, if_neg h1, if_neg h2, if_neg h3, if_pos h4]; exact e
theorem tR_5 {F : DD × Int32} {w v : Int32} (h : ¬ F.2 = 0) (h0 : ¬ w = 0) (h1 : ¬ w = 1) (h2 : ¬ w = 2) (h3 : ¬ w = 3) (h4 : ¬ w = 4) (e : v = e5 F.1) : v = tR F w := by unfold tR; rw [if_neg h, if_neg h0, if_neg h1, if_neg h2, if_neg h3, if_neg h4]; exact e
/-- both tell the same -/
theorem dec_tell {bs : Nat → Int32} {n : Int32} (hn : Rg 0 200 n) (hB : ∀ i, Rg 0 255 (bs i)) {d r : DD} {a w : Int32} (ha : Rg 0 (n.toInt - 1) a) : (F_X3_tell bs n (F_X3_readFrom bs n d a) w).2 = tR (F_X10_read bs n r a) w := by
  have hlt : a < n := Int32.lt_iff_toInt_lt.mpr (by have := ha.2; omega)
  rcases dec (bs := bs) hn hB (d := d) (r := r) (a := a) ⟨ha.1, by have := ha.2; have := hn.2; omega⟩ hlt with ⟨h7, hk⟩ | ⟨h7, hk, g6, g7, g8, g9, g10, g11, -⟩
  · rw [q_X3_tell_0 h7]; exact tR_n hk
  · have k : ¬ (F_X10_read bs n r a).2 = 0 := by rw [hk]; decide
    by_cases w0 : w = 0
    · rw [q_X3_tell_1 h7 w0]; exact tR_0 k w0 g6
    by_cases w1 : w = 1
    · rw [q_X3_tell_2 h7 w0 w1]; exact tR_1 k w0 w1 g7
    by_cases w2 : w = 2
    · rw [q_X3_tell_3 h7 w0 w1 w2]; exact tR_2 k w0 w1 w2 g8
    by_cases w3 : w = 3
    · rw [q_X3_tell_4 h7 w0 w1 w2 w3]; exact tR_3 k w0 w1 w2 w3 g9
    by_cases w4 : w = 4
    · rw [q_X3_tell_5 h7 w0 w1 w2 w3 w4]; exact tR_4 k w0 w1 w2 w3 w4 g10
    · rw [q_X3_tell_6 h7 w0 w1 w2 w3 w4]; exact tR_5 k w0 w1 w2 w3 w4 g11
set_option maxHeartbeats 4000000 in
theorem cx_X10_decode {xi : SX} {S : Hp} {E : List Nat} {kc nc : Nat} {P : Po} {o0 : Nat} {x1 : Int32} {x2 : Int32} {bs : Nat → Int32} {n : Int32} (hG : GI S E) (h0 : Oa S E 10 0 o0) (hb : BR S E o0 bs n) (hP : ∀ r T x y, PV E [640, 654, 655, 656, 657, 658, 659, 661, 662, 672, 673, 674, 675, 9998] S kc nc (rI (-2147483648) 2147483647) (fun v T => (hp_I T 640 o0 = 0 ∧ (Rg 0 ((hp_I S 642 o0).toInt - 1) x1 ∧ Rg 0 5 x2) ∧ ∃ r, v = some (.int (tR (F_X10_read bs n r x1) x2))) ∨ (hp_I T 640 o0 = 1 ∧ ¬ (Rg 0 ((hp_I S 642 o0).toInt - 1) x1 ∧ Rg 0 5 x2))) [] r T x y → P r T x y) : TT xi M_X10_decode 0 [(0, .ref o0), (1, .int x1), (2, .int x2)] [] S kc nc P := by
  have hA : Af E [640, 654, 655, 656, 657, 658, 659, 661, 662, 672, 673, 674, 675, 9998] S S := af_rf
  refine tt_aload_n (j := 0) dX10_decode_0 rfl ?_
  refine tt_iload_n (j := 1) dX10_decode_1 rfl ?_
  refine tt_i2l dX10_decode_2 ?_
  refine tt_lconst (v := 0) dX10_decode_3 rfl ?_
  refine tt_aload_n (j := 0) dX10_decode_4 rfl ?_
  refine tt_getI (id := 642) dX10_decode_5 fl_10_71 rfl rfl (ob_af h0 hA) ?_
  refine tt_iconst (v := 1) dX10_decode_8 rfl ?_
  refine tt_isub dX10_decode_9 ?_
  refine tt_i2l dX10_decode_10 ?_
  refine gt_SIp (As := [.long (x1 : Int32).toInt64, .long 0, .long (((hp_I S 642 o0) - 1) : Int32).toInt64]) dX10_decode_11 ca_X10_67 ⟨by decide, by decide⟩ hA (Nat.le_of_ble_eq_true rfl) (Nat.le_of_ble_eq_true rfl) (by decide) (cs_X10_isIn hG  (fun _ _ _ _ h => h)) rfl (fun _ h => nomatch h) (fun _ _ q => q.1) (fun x106 h107 hx105 => ?_)
  refine tt_if_eq (tgt := 33) dX10_decode_14 rfl (fun q108 => ?_) (fun q108 => ?_)
  · skip
    have h109 : Rg 0 0 x106 := rg_eq_l h107 (⟨by decide, by decide⟩ : Rg 0 0 0) q108
    refine tt_iconst (v := 1) dX10_decode_33 rfl ?_
    refine gt_VI (As := [.int 1]) dX10_decode_34 ca_X10_74 ⟨by decide, by decide⟩ h0 hA rfl (Nat.le_of_ble_eq_true rfl) (Nat.le_of_ble_eq_true rfl) (by decide) (cs_X10_refused hG (oa_af h0 hA) (fun _ _ _ _ h => h)) rfl (fun _ h => nomatch h) (fun S110 x115 h116 hx114 hG111 hB112 hA113 => ?_)
    obtain rfl := (hx114.1 _ rfl).trans (show bI (0 < (1 : Int32)) = 1 by decide)
    refine tt_if_eq (tgt := 42) dX10_decode_37 rfl (fun q => absurd q (by decide)) (fun _ => ?_)
    refine tt_iconst (v := 0) dX10_decode_40 rfl ?_
    exact tt_ireturn dX10_decode_41 .int rfl rfl (hP _ _ _ _ ⟨hG111, hA113, Or.inl ⟨_, rfl, ⟨_, rfl, rg_w (⟨by decide, by decide⟩ : Rg 0 0 0)⟩, Or.inr ⟨hx114.2, fun q => (hx105.2 _ rfl).2 q108 ((hd_iff2 (gi_I (k := 642) hG h0 0 200)).mpr q.1)⟩, rfl, rfl⟩⟩)
  · skip
    have h117 : Rg 1 1 x106 := rg_ne_lo h107 (⟨by decide, by decide⟩ : Rg 0 0 0) q108
    have h118 : Rl 0 199 (x1 : Int32).toInt64 := in_rl ((fun z e => (hx105.2 z e).1) _ rfl q108) (⟨by decide, by decide⟩ : Rl 0 0 0) (rg_i2l (rg_sub (lo := (-1)) (hi := 199) (gi_I (k := 642) hG (oa_af h0 hA) 0 200) (⟨by decide, by decide⟩ : Rg 1 1 1)))
    have h119 : Rg 0 199 x1 := rg_of_l h118
    refine tt_iload_n (j := 2) dX10_decode_17 rfl ?_
    refine tt_i2l dX10_decode_18 ?_
    refine tt_lconst (v := 0) dX10_decode_19 rfl ?_
    refine tt_ldc2 (v := 5) dX10_decode_20 kl_10_153 ?_
    refine gt_SIp (As := [.long (x2 : Int32).toInt64, .long 0, .long 5]) dX10_decode_23 ca_X10_67 ⟨by decide, by decide⟩ hA (Nat.le_of_ble_eq_true rfl) (Nat.le_of_ble_eq_true rfl) (by decide) (cs_X10_isIn hG  (fun _ _ _ _ h => h)) rfl (fun _ h => nomatch h) (fun _ _ q => q.1) (fun x125 h126 hx124 => ?_)
    refine tt_if_eq (tgt := 33) dX10_decode_26 rfl (fun q127 => ?_) (fun q127 => ?_)
    · skip
      have h128 : Rg 0 0 x125 := rg_eq_l h126 (⟨by decide, by decide⟩ : Rg 0 0 0) q127
      refine tt_iconst (v := 1) dX10_decode_33 rfl ?_
      refine gt_VI (As := [.int 1]) dX10_decode_34 ca_X10_74 ⟨by decide, by decide⟩ h0 hA rfl (Nat.le_of_ble_eq_true rfl) (Nat.le_of_ble_eq_true rfl) (by decide) (cs_X10_refused hG (oa_af h0 hA) (fun _ _ _ _ h => h)) rfl (fun _ h => nomatch h) (fun S129 x134 h135 hx133 hG130 hB131 hA132 => ?_)
      obtain rfl := (hx133.1 _ rfl).trans (show bI (0 < (1 : Int32)) = 1 by decide)
      refine tt_if_eq (tgt := 42) dX10_decode_37 rfl (fun q => absurd q (by decide)) (fun _ => ?_)
      refine tt_iconst (v := 0) dX10_decode_40 rfl ?_
      exact tt_ireturn dX10_decode_41 .int rfl rfl (hP _ _ _ _ ⟨hG130, hA132, Or.inl ⟨_, rfl, ⟨_, rfl, rg_w (⟨by decide, by decide⟩ : Rg 0 0 0)⟩, Or.inr ⟨hx133.2, fun q => (hx124.2 _ rfl).2 q127 (hd_iff5.mpr q.2)⟩, rfl, rfl⟩⟩)
    · skip
      have h136 : Rg 1 1 x125 := rg_ne_lo h126 (⟨by decide, by decide⟩ : Rg 0 0 0) q127
      have h137 : Rl 0 5 (x2 : Int32).toInt64 := in_rl ((fun z e => (hx124.2 z e).1) _ rfl q127) (⟨by decide, by decide⟩ : Rl 0 0 0) (⟨by decide, by decide⟩ : Rl 5 5 5)
      have h138 : Rg 0 5 x2 := rg_of_l h137
      refine tt_iconst (v := 0) dX10_decode_29 rfl ?_
      refine tt_goto (tgt := 34) dX10_decode_30 rfl ?_
      refine gt_VI (As := [.int 0]) dX10_decode_34 ca_X10_74 ⟨by decide, by decide⟩ h0 hA rfl (Nat.le_of_ble_eq_true rfl) (Nat.le_of_ble_eq_true rfl) (by decide) (cs_X10_refused hG (oa_af h0 hA) (fun _ _ _ _ h => h)) rfl (fun _ h => nomatch h) (fun S139 x144 h145 hx143 hG140 hB141 hA142 => ?_)
      obtain rfl := (hx143.1 _ rfl).trans (show bI (0 < (0 : Int32)) = 0 by decide)
      refine tt_if_eq (tgt := 42) dX10_decode_37 rfl (fun _ => ?_) (fun q => absurd q (by decide))
      refine tt_aload_n (j := 0) dX10_decode_42 rfl ?_
      refine tt_iload_n (j := 1) dX10_decode_43 rfl ?_
      refine gt_VI (As := [.int x1]) dX10_decode_44 ca_X10_155 ⟨by decide, by decide⟩ h0 hA142 rfl (Nat.le_of_ble_eq_true rfl) (Nat.le_of_ble_eq_true rfl) (by decide) (ce_X10_read hG140 (oa_af h0 hA142) (rg_w h119) (br_af hb h0 hB141) (fun _ _ _ _ h => h)) rfl (fun _ h => nomatch h) (fun S146 x151 h152 hx150 hG147 hB148 hA149 => ?_)
      have hin : (Rg 0 ((hp_I S 642 o0).toInt - 1) x1 ∧ Rg 0 5 x2) := ⟨(hd_iff2 (gi_I (k := 642) hG h0 0 200)).mp ((hx105.2 _ rfl).1 q108), h138⟩
      have h64 : hp_I S146 640 o0 = 0 := (i_af (k := 640) (oa_af h0 hA142) hB148).trans hx143.2
      have ev := xiR_v hx150
      have es := hx150.2
      refine tt_if_ne (tgt := 52) dX10_decode_47 rfl (fun q153 => ?_) (fun q153 => ?_)
      · skip
        have h154 : Rg 1 1 x151 := rg_ne_lo h152 (⟨by decide, by decide⟩ : Rg 0 0 0) q153
        skip
        refine tt_iload_n (j := 2) dX10_decode_52 rfl ?_
        refine tt_if_ne (tgt := 63) dX10_decode_53 rfl (fun q156 => ?_) (fun q156 => ?_)
        · skip
          have h157 : Rg 1 5 x2 := rg_ne_lo h138 (⟨by decide, by decide⟩ : Rg 0 0 0) q156
          refine tt_iload_n (j := 2) dX10_decode_63 rfl ?_
          refine tt_iconst (v := 1) dX10_decode_64 rfl ?_
          refine tt_icmp_ne (tgt := 75) dX10_decode_65 rfl (fun q158 => ?_) (fun q158 => ?_)
          · skip
            have h159 : Rg 2 5 x2 := rg_ne_lo h157 (⟨by decide, by decide⟩ : Rg 1 1 1) q158
            refine tt_iload_n (j := 2) dX10_decode_75 rfl ?_
            refine tt_iconst (v := 2) dX10_decode_76 rfl ?_
            refine tt_icmp_ne (tgt := 87) dX10_decode_77 rfl (fun q160 => ?_) (fun q160 => ?_)
            · skip
              have h161 : Rg 3 5 x2 := rg_ne_lo h159 (⟨by decide, by decide⟩ : Rg 2 2 2) q160
              refine tt_iload_n (j := 2) dX10_decode_87 rfl ?_
              refine tt_iconst (v := 3) dX10_decode_88 rfl ?_
              refine tt_icmp_ne (tgt := 99) dX10_decode_89 rfl (fun q162 => ?_) (fun q162 => ?_)
              · skip
                have h163 : Rg 4 5 x2 := rg_ne_lo h161 (⟨by decide, by decide⟩ : Rg 3 3 3) q162
                refine tt_iload_n (j := 2) dX10_decode_99 rfl ?_
                refine tt_iconst (v := 4) dX10_decode_100 rfl ?_
                refine tt_icmp_ne (tgt := 111) dX10_decode_101 rfl (fun q164 => ?_) (fun q164 => ?_)
                · skip
                  have h165 : Rg 5 5 x2 := rg_ne_lo h163 (⟨by decide, by decide⟩ : Rg 4 4 4) q164
                  refine tt_aload_n (j := 0) dX10_decode_111 rfl ?_
                  refine tt_getI (id := 659) dX10_decode_112 fl_10_120 rfl rfl (ob_af h0 hA149) ?_
                  exact tt_ireturn dX10_decode_115 .int rfl rfl (hP _ _ _ _ ⟨hG147, hA149, Or.inl ⟨_, rfl, ⟨_, rfl, rg_w (rg_all (hp_I S146 659 o0))⟩, Or.inl ⟨h64, hin, _, congrArg (fun q => some (Value.int q)) (tR_5 (fun e => q153 (ev.trans e)) q156 q158 q160 q162 q164 (sR_659 es))⟩, rfl, rfl⟩⟩)
                · skip
                  have h166 : Rg 4 4 x2 := rg_eq_l h163 (⟨by decide, by decide⟩ : Rg 4 4 4) q164
                  refine tt_aload_n (j := 0) dX10_decode_104 rfl ?_
                  refine tt_getI (id := 658) dX10_decode_105 fl_10_113 rfl rfl (ob_af h0 hA149) ?_
                  refine tt_goto (tgt := 115) dX10_decode_108 rfl ?_
                  exact tt_ireturn dX10_decode_115 .int rfl rfl (hP _ _ _ _ ⟨hG147, hA149, Or.inl ⟨_, rfl, ⟨_, rfl, rg_w (rg_all (hp_I S146 658 o0))⟩, Or.inl ⟨h64, hin, _, congrArg (fun q => some (Value.int q)) (tR_4 (fun e => q153 (ev.trans e)) q156 q158 q160 q162 q164 (sR_658 es))⟩, rfl, rfl⟩⟩)
              · skip
                have h167 : Rg 3 3 x2 := rg_eq_l h161 (⟨by decide, by decide⟩ : Rg 3 3 3) q162
                refine tt_aload_n (j := 0) dX10_decode_92 rfl ?_
                refine tt_getI (id := 657) dX10_decode_93 fl_10_110 rfl rfl (ob_af h0 hA149) ?_
                refine tt_goto (tgt := 115) dX10_decode_96 rfl ?_
                exact tt_ireturn dX10_decode_115 .int rfl rfl (hP _ _ _ _ ⟨hG147, hA149, Or.inl ⟨_, rfl, ⟨_, rfl, rg_w (rg_all (hp_I S146 657 o0))⟩, Or.inl ⟨h64, hin, _, congrArg (fun q => some (Value.int q)) (tR_3 (fun e => q153 (ev.trans e)) q156 q158 q160 q162 (sR_657 es))⟩, rfl, rfl⟩⟩)
            · skip
              have h168 : Rg 2 2 x2 := rg_eq_l h159 (⟨by decide, by decide⟩ : Rg 2 2 2) q160
              refine tt_aload_n (j := 0) dX10_decode_80 rfl ?_
              refine tt_getI (id := 656) dX10_decode_81 fl_10_127 rfl rfl (ob_af h0 hA149) ?_
              refine tt_goto (tgt := 115) dX10_decode_84 rfl ?_
              exact tt_ireturn dX10_decode_115 .int rfl rfl (hP _ _ _ _ ⟨hG147, hA149, Or.inl ⟨_, rfl, ⟨_, rfl, rg_w (rg_all (hp_I S146 656 o0))⟩, Or.inl ⟨h64, hin, _, congrArg (fun q => some (Value.int q)) (tR_2 (fun e => q153 (ev.trans e)) q156 q158 q160 (sR_656 es))⟩, rfl, rfl⟩⟩)
          · skip
            have h169 : Rg 1 1 x2 := rg_eq_l h157 (⟨by decide, by decide⟩ : Rg 1 1 1) q158
            refine tt_aload_n (j := 0) dX10_decode_68 rfl ?_
            refine tt_getI (id := 655) dX10_decode_69 fl_10_107 rfl rfl (ob_af h0 hA149) ?_
            refine tt_goto (tgt := 115) dX10_decode_72 rfl ?_
            exact tt_ireturn dX10_decode_115 .int rfl rfl (hP _ _ _ _ ⟨hG147, hA149, Or.inl ⟨_, rfl, ⟨_, rfl, rg_w (rg_all (hp_I S146 655 o0))⟩, Or.inl ⟨h64, hin, _, congrArg (fun q => some (Value.int q)) (tR_1 (fun e => q153 (ev.trans e)) q156 q158 (sR_655 es))⟩, rfl, rfl⟩⟩)
        · skip
          have h170 : Rg 0 0 x2 := rg_eq_l h138 (⟨by decide, by decide⟩ : Rg 0 0 0) q156
          refine tt_aload_n (j := 0) dX10_decode_56 rfl ?_
          refine tt_getI (id := 661) dX10_decode_57 fl_10_134 rfl rfl (ob_af h0 hA149) ?_
          refine tt_goto (tgt := 115) dX10_decode_60 rfl ?_
          exact tt_ireturn dX10_decode_115 .int rfl rfl (hP _ _ _ _ ⟨hG147, hA149, Or.inl ⟨_, rfl, ⟨_, rfl, rg_w (rg_all (hp_I S146 661 o0))⟩, Or.inl ⟨h64, hin, _, congrArg (fun q => some (Value.int q)) (tR_0 (fun e => q153 (ev.trans e)) q156 (sR_661 es))⟩, rfl, rfl⟩⟩)
      · skip
        have h171 : Rg 0 0 x151 := rg_eq_l h152 (⟨by decide, by decide⟩ : Rg 0 0 0) q153
        refine tt_iconst (v := (-1)) dX10_decode_50 rfl ?_
        exact tt_ireturn dX10_decode_51 .int rfl rfl (hP _ _ _ _ ⟨hG147, hA149, Or.inl ⟨_, rfl, ⟨_, rfl, rg_w (⟨by decide, by decide⟩ : Rg (-1) (-1) (-1))⟩, Or.inl ⟨h64, hin, _, congrArg (fun q => some (Value.int q)) (tR_n (ev.symm.trans q153))⟩, rfl, rfl⟩⟩)
