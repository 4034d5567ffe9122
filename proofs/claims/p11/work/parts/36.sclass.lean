set_option maxHeartbeats 4000000 in
theorem cs_X6_doNext {xi : SX} {S : Hp} {E : List Nat} {kc nc : Nat} {P : Po} {o0 : Nat} (hG : GI S E) (h0 : Oa S E 6 0 o0) (hP : ∀ r T x y, PV E [193, 194, 195, 196, 197, 198, 199, 200, 201, 202, 203, 204, 388, 389, 390, 391, 392, 393, 9993] S kc nc (rI (-2147483648) 2147483647) ex0 [] r T x y → P r T x y) : TT xi M_X6_doNext 0 [(0, .ref o0)] [] S kc nc P := by
  have hA : Af E [193, 194, 195, 196, 197, 198, 199, 200, 201, 202, 203, 204, 388, 389, 390, 391, 392, 393, 9993] S S := af_rf
  refine tt_aload_n (j := 0) dX6_doNext_0 rfl ?_
  refine tt_getI (id := 388) dX6_doNext_1 fl_6_18 rfl rfl (ob_af h0 hA) ?_
  refine tt_if_ge (tgt := 9) dX6_doNext_4 rfl (fun q101 => ?_) (fun q101 => ?_)
  · skip
    have h102 : Rg 0 2147483647 (hp_I S 388 o0) := rg_le_r (⟨by decide, by decide⟩ : Rg 0 0 0) (rg_all (hp_I S 388 o0)) q101
    refine tt_aload_n (j := 0) dX6_doNext_9 rfl ?_
    obtain ⟨b103, hr104, ho105⟩ := gi_R (k := 385) hG h0 3 0
    refine gt_gR (id := 385) dX6_doNext_10 fl_6_26 rfl rfl h0 hA hr104 ?_
    refine tt_aload_n (j := 0) dX6_doNext_13 rfl ?_
    refine tt_getI (id := 388) dX6_doNext_14 fl_6_18 rfl rfl (ob_af h0 hA) ?_
    refine gt_Vv (As := [.int (hp_I S 388 o0)]) dX6_doNext_17 ca_X6_48 ⟨by decide, by decide⟩ ho105 hA rfl (Nat.le_of_ble_eq_true rfl) (Nat.le_of_ble_eq_true rfl) (by decide) (cs_X3_readFrom hG (oa_af ho105 hA) (fun _ _ _ _ h => h)) rfl (fun _ h => nomatch h) (fun S106 hx110 hG107 hB108 hA109 => ?_)
    refine tt_aload_n (j := 0) dX6_doNext_20 rfl ?_
    refine gt_gI (id := 388) (v := (hp_I S 388 o0)) dX6_doNext_21 fl_6_18 rfl rfl h0 hA109 ((i_af (k := 388) (oa_af h0 hA) hB108).trans rfl) ?_
    refine tt_aload_n (j := 0) dX6_doNext_24 rfl ?_
    refine gt_gR (id := 385) dX6_doNext_25 fl_6_26 rfl rfl h0 hA109 hr104 ?_
    refine tt_getI (id := 199) dX6_doNext_28 fl_6_54 rfl rfl (ob_af ho105 hA109) ?_
    refine tt_iadd dX6_doNext_31 ?_
    refine tt_istore_n (ks := [0, 1]) (L' := [(1, .int ((hp_I S 388 o0) + (hp_I S106 199 b103))), (0, .ref o0)]) dX6_doNext_32 (by decide) rfl ?_
    refine tt_aload_n (j := 1) dX6_doNext_33 rfl ?_
    refine gt_gR (id := 385) dX6_doNext_34 fl_6_26 rfl rfl h0 hA109 hr104 ?_
    refine tt_getI (id := 200) dX6_doNext_37 fl_6_57 rfl rfl (ob_af ho105 hA109) ?_
    refine gt_ls [92, 94, 96, 104, 117, 158] dX6_doNext_40 (by decide) (by decide) (fa_cons ?_ (fa_cons ?_ (fa_cons ?_ (fa_cons ?_ (fa_cons ?_ (fa_cons ?_ fa_nil))))))
    · skip
      refine tt_iconst (v := 2) dX6_doNext_92 rfl ?_
      exact tt_ireturn dX6_doNext_93 .int rfl rfl (hP _ _ _ _ ⟨hG107, hA109, Or.inl ⟨_, rfl, ⟨_, rfl, rg_w (⟨by decide, by decide⟩ : Rg 2 2 2)⟩, trivial, rfl, rfl⟩⟩)
    · skip
      refine tt_iconst (v := 1) dX6_doNext_94 rfl ?_
      exact tt_ireturn dX6_doNext_95 .int rfl rfl (hP _ _ _ _ ⟨hG107, hA109, Or.inl ⟨_, rfl, ⟨_, rfl, rg_w (⟨by decide, by decide⟩ : Rg 1 1 1)⟩, trivial, rfl, rfl⟩⟩)
    · skip
      refine tt_aload_n (j := 1) dX6_doNext_96 rfl ?_
      refine tt_iload_n (j := 0) dX6_doNext_97 rfl ?_
      refine tt_i2l dX6_doNext_98 ?_
      refine gt_Vv (As := [.long (((hp_I S 388 o0) + (hp_I S106 199 b103)) : Int32).toInt64]) dX6_doNext_99 ca_X6_44 ⟨by decide, by decide⟩ h0 hA109 rfl (Nat.le_of_ble_eq_true rfl) (Nat.le_of_ble_eq_true rfl) (by decide) (cs_X6_moveTo hG107 (oa_af h0 hA109) (fun _ _ _ _ h => h)) rfl (fun _ h => nomatch h) (fun S111 hx115 hG112 hB113 hA114 => ?_)
      refine tt_iconst (v := 0) dX6_doNext_102 rfl ?_
      exact tt_ireturn dX6_doNext_103 .int rfl rfl (hP _ _ _ _ ⟨hG112, hA114, Or.inl ⟨_, rfl, ⟨_, rfl, rg_w (⟨by decide, by decide⟩ : Rg 0 0 0)⟩, trivial, rfl, rfl⟩⟩)
    · skip
      refine tt_aload_n (j := 1) dX6_doNext_104 rfl ?_
      refine tt_aload_n (j := 1) dX6_doNext_105 rfl ?_
      refine gt_gR (id := 385) dX6_doNext_106 fl_6_26 rfl rfl h0 hA109 hr104 ?_
      refine gt_gJ (id := 205) (v := (hp_J S106 205 b103)) dX6_doNext_109 fl_6_60 rfl rfl ho105 hA109 rfl ?_
      refine gt_Vv (As := [.long (hp_J S106 205 b103)]) dX6_doNext_112 ca_X6_44 ⟨by decide, by decide⟩ h0 hA109 rfl (Nat.le_of_ble_eq_true rfl) (Nat.le_of_ble_eq_true rfl) (by decide) (cs_X6_moveTo hG107 (oa_af h0 hA109) (fun _ _ _ _ h => h)) rfl (fun _ h => nomatch h) (fun S116 hx120 hG117 hB118 hA119 => ?_)
      refine tt_iconst (v := 0) dX6_doNext_115 rfl ?_
      exact tt_ireturn dX6_doNext_116 .int rfl rfl (hP _ _ _ _ ⟨hG117, hA119, Or.inl ⟨_, rfl, ⟨_, rfl, rg_w (⟨by decide, by decide⟩ : Rg 0 0 0)⟩, trivial, rfl, rfl⟩⟩)
    · skip
      refine tt_aload_n (j := 1) dX6_doNext_117 rfl ?_
      refine tt_getI (id := 389) dX6_doNext_118 fl_6_40 rfl rfl (ob_af h0 hA109) ?_
      refine tt_if_ne (tgt := 126) dX6_doNext_121 rfl (fun q121 => ?_) (fun q121 => ?_)
      · skip
        have h122 : Rg 1 1 (hp_I S106 389 o0) := rg_ne_lo (gi_I (k := 389) hG107 (oa_af h0 hA109) 0 1) (⟨by decide, by decide⟩ : Rg 0 0 0) q121
        refine tt_aload_n (j := 1) dX6_doNext_126 rfl ?_
        refine tt_aload_n (j := 1) dX6_doNext_127 rfl ?_
        refine tt_aload_n (j := 1) dX6_doNext_128 rfl ?_
        refine gt_gR (id := 385) dX6_doNext_129 fl_6_26 rfl rfl h0 hA109 hr104 ?_
        refine tt_getI (id := 204) dX6_doNext_132 fl_6_64 rfl rfl (ob_af ho105 hA109) ?_
        refine gt_VIp (As := [.int (hp_I S106 204 b103)]) dX6_doNext_135 ca_X6_67 ⟨by decide, by decide⟩ h0 hA109 rfl (Nat.le_of_ble_eq_true rfl) (Nat.le_of_ble_eq_true rfl) (by decide) (cs_X6_isSo hG107 (oa_af h0 hA109) (fun _ _ _ _ h => h)) rfl (fun _ h => nomatch h) (fun _ _ q => q) (fun x128 h129 hx127 => ?_)
        have B130 : ∀ (y131 : Int64), TT xi M_X6_doNext 153 [(0, .ref o0), (1, .int ((hp_I S 388 o0) + (hp_I S106 199 b103)))] [.long y131, .ref o0] S106 kc nc P := by
          intro y131 
          refine gt_Vv (As := [.long y131]) dX6_doNext_153 ca_X6_44 ⟨by decide, by decide⟩ h0 hA109 rfl (Nat.le_of_ble_eq_true rfl) (Nat.le_of_ble_eq_true rfl) (by decide) (cs_X6_moveTo hG107 (oa_af h0 hA109) (fun _ _ _ _ h => h)) rfl (fun _ h => nomatch h) (fun S132 hx136 hG133 hB134 hA135 => ?_)
          refine tt_iconst (v := 0) dX6_doNext_156 rfl ?_
          exact tt_ireturn dX6_doNext_157 .int rfl rfl (hP _ _ _ _ ⟨hG133, hA135, Or.inl ⟨_, rfl, ⟨_, rfl, rg_w (⟨by decide, by decide⟩ : Rg 0 0 0)⟩, trivial, rfl, rfl⟩⟩)
        refine tt_if_eq (tgt := 151) dX6_doNext_138 rfl (fun q137 => ?_) (fun q137 => ?_)
        · skip
          have h138 : Rg 0 0 x128 := rg_eq_l h129 (⟨by decide, by decide⟩ : Rg 0 0 0) q137
          refine tt_iload_n (j := 0) dX6_doNext_151 rfl ?_
          refine tt_i2l dX6_doNext_152 ?_
          exact tt_loc (ks := [1, 0]) rfl (B130 (((hp_I S 388 o0) + (hp_I S106 199 b103)) : Int32).toInt64)
        · skip
          have h139 : Rg 1 1 x128 := rg_ne_lo h129 (⟨by decide, by decide⟩ : Rg 0 0 0) q137
          refine tt_aload_n (j := 1) dX6_doNext_141 rfl ?_
          refine gt_gR (id := 385) dX6_doNext_142 fl_6_26 rfl rfl h0 hA109 hr104 ?_
          refine gt_gJ (id := 205) (v := (hp_J S106 205 b103)) dX6_doNext_145 fl_6_60 rfl rfl ho105 hA109 rfl ?_
          refine tt_goto (tgt := 153) dX6_doNext_148 rfl ?_
          exact tt_loc (ks := [1, 0]) rfl (B130 (hp_J S106 205 b103))
      · skip
        have h140 : Rg 0 0 (hp_I S106 389 o0) := rg_eq_l (gi_I (k := 389) hG107 (oa_af h0 hA109) 0 1) (⟨by decide, by decide⟩ : Rg 0 0 0) q121
        refine tt_iconst (v := 4) dX6_doNext_124 rfl ?_
        exact tt_ireturn dX6_doNext_125 .int rfl rfl (hP _ _ _ _ ⟨hG107, hA109, Or.inl ⟨_, rfl, ⟨_, rfl, rg_w (⟨by decide, by decide⟩ : Rg 4 4 4)⟩, trivial, rfl, rfl⟩⟩)
    · skip
      refine tt_aload_n (j := 1) dX6_doNext_158 rfl ?_
      refine gt_Vv (As := []) dX6_doNext_159 ca_X6_70 ⟨by decide, by decide⟩ h0 hA109 rfl (Nat.le_of_ble_eq_true rfl) (Nat.le_of_ble_eq_true rfl) (by decide) (cs_X6_compute hG107 (oa_af h0 hA109) (fun _ _ _ _ h => h)) rfl (fun _ h => nomatch h) (fun S141 hx145 hG142 hB143 hA144 => ?_)
      refine tt_aload_n (j := 1) dX6_doNext_162 rfl ?_
      refine tt_iload_n (j := 0) dX6_doNext_163 rfl ?_
      refine tt_i2l dX6_doNext_164 ?_
      refine gt_Vv (As := [.long (((hp_I S 388 o0) + (hp_I S106 199 b103)) : Int32).toInt64]) dX6_doNext_165 ca_X6_44 ⟨by decide, by decide⟩ h0 hA144 rfl (Nat.le_of_ble_eq_true rfl) (Nat.le_of_ble_eq_true rfl) (by decide) (cs_X6_moveTo hG142 (oa_af h0 hA144) (fun _ _ _ _ h => h)) rfl (fun _ h => nomatch h) (fun S146 hx150 hG147 hB148 hA149 => ?_)
      refine tt_iconst (v := 0) dX6_doNext_168 rfl ?_
      exact tt_ireturn dX6_doNext_169 .int rfl rfl (hP _ _ _ _ ⟨hG147, hA149, Or.inl ⟨_, rfl, ⟨_, rfl, rg_w (⟨by decide, by decide⟩ : Rg 0 0 0)⟩, trivial, rfl, rfl⟩⟩)
  · skip
    have h151 : Rg (-2147483648) (-1) (hp_I S 388 o0) := rg_lt_l (rg_all (hp_I S 388 o0)) (⟨by decide, by decide⟩ : Rg 0 0 0) (nle_lt q101)
    refine tt_iconst (v := 3) dX6_doNext_7 rfl ?_
    exact tt_ireturn dX6_doNext_8 .int rfl rfl (hP _ _ _ _ ⟨hG, hA, Or.inl ⟨_, rfl, ⟨_, rfl, rg_w (⟨by decide, by decide⟩ : Rg 3 3 3)⟩, trivial, rfl, rfl⟩⟩)
set_option maxHeartbeats 4000000 in
theorem cs_X9_decode {xi : SX} {S : Hp} {E : List Nat} {kc nc : Nat} {P : Po} {o0 : Nat} {x1 : Int32} {x2 : Int32} (hG : GI S E) (h0 : Oa S E 9 0 o0) (hkc : 1 ≤ kc) (hnc : 6 ≤ nc) (hP : ∀ r T x y, PV E [193, 194, 195, 196, 197, 198, 199, 200, 201, 202, 203, 204] S kc nc (rI (-2147483648) 2147483647) ex0 ["java/lang/IllegalArgumentException"] r T x y → P r T x y) : TT xi M_X9_decode 0 [(0, .ref o0), (1, .int x1), (2, .int x2)] [] S kc nc P := by
  have hA : Af E [193, 194, 195, 196, 197, 198, 199, 200, 201, 202, 203, 204] S S := af_rf
  refine tt_aload_n (j := 0) dX9_decode_0 rfl ?_
  refine tt_iload_n (j := 1) dX9_decode_1 rfl ?_
  refine gt_Vvp (As := [.int x1]) dX9_decode_2 ca_X9_95 ⟨by decide, by decide⟩ h0 hA rfl (Nat.le_of_ble_eq_true rfl) (Nat.le_of_ble_eq_true rfl) (by decide) (cs_X9_requireByte hG (oa_af h0 hA) hkc hnc (fun _ _ _ _ h => h)) rfl (fun X hX T g1 g2 => hP _ _ _ _ ⟨g1, g2, Or.inr ⟨X, hX, rfl⟩⟩) (fun _ _ q => q) (fun hx105 => ?_)
  refine tt_iload_n (j := 2) dX9_decode_5 rfl ?_
  have B106 : TT xi M_X9_decode 14 [(0, .ref o0), (1, .int x1), (2, .int x2)] [] S kc nc P := by
    exact tt_throw th_X9_decode_14 (hP _ _ _ _ ⟨hG, hA, Or.inr ⟨_, List.mem_cons_self, rfl⟩⟩) hkc hnc (by decide)
  refine tt_if_lt (tgt := 14) dX9_decode_6 rfl (fun q107 => ?_) (fun q107 => ?_)
  · skip
    have h108 : Rg (-2147483648) (-1) x2 := rg_lt_l (rg_all x2) (⟨by decide, by decide⟩ : Rg 0 0 0) q107
    exact B106 
  · skip
    have h109 : Rg 0 2147483647 x2 := rg_le_r (⟨by decide, by decide⟩ : Rg 0 0 0) (rg_all x2) (nlt_le q107)
    refine tt_iload_n (j := 2) dX9_decode_9 rfl ?_
    refine tt_iconst (v := 5) dX9_decode_10 rfl ?_
    refine tt_icmp_le (tgt := 24) dX9_decode_11 rfl (fun q110 => ?_) (fun q110 => ?_)
    · skip
      have h111 : Rg 0 5 x2 := rg_le_l h109 (⟨by decide, by decide⟩ : Rg 5 5 5) q110
      refine tt_aload_n (j := 0) dX9_decode_24 rfl ?_
      obtain ⟨b112, hr113, ho114⟩ := gi_R (k := 577) hG h0 3 0
      refine gt_gR (id := 577) dX9_decode_25 fl_9_21 rfl rfl h0 hA hr113 ?_
      refine tt_iload_n (j := 1) dX9_decode_28 rfl ?_
      refine gt_Vv (As := [.int x1]) dX9_decode_29 ca_X9_100 ⟨by decide, by decide⟩ ho114 hA rfl (Nat.le_of_ble_eq_true rfl) (Nat.le_of_ble_eq_true rfl) (by decide) (cs_X3_readFrom hG (oa_af ho114 hA) (fun _ _ _ _ h => h)) rfl (fun _ h => nomatch h) (fun S115 hx119 hG116 hB117 hA118 => ?_)
      refine tt_aload_n (j := 0) dX9_decode_32 rfl ?_
      refine gt_gR (id := 577) dX9_decode_33 fl_9_21 rfl rfl h0 hA118 hr113 ?_
      refine tt_iload_n (j := 2) dX9_decode_36 rfl ?_
      refine gt_VIp (As := [.int x2]) dX9_decode_37 ca_X9_103 ⟨by decide, by decide⟩ ho114 hA118 rfl (Nat.le_of_ble_eq_true rfl) (Nat.le_of_ble_eq_true rfl) (by decide) (cs_X3_tell hG116 (oa_af ho114 hA118) (fun _ _ _ _ h => h)) rfl (fun _ h => nomatch h) (fun _ _ q => q) (fun x125 h126 hx124 => ?_)
      exact tt_ireturn dX9_decode_40 .int rfl rfl (hP _ _ _ _ ⟨hG116, hA118, Or.inl ⟨_, rfl, ⟨_, rfl, rg_w h126⟩, trivial, rfl, rfl⟩⟩)
    · skip
      have h127 : Rg 6 2147483647 x2 := rg_lt_r (⟨by decide, by decide⟩ : Rg 5 5 5) h109 (nle_lt q110)
      exact B106 
set_option maxHeartbeats 4000000 in
theorem cs_X9_constant {xi : SX} {S : Hp} {E : List Nat} {kc nc : Nat} {P : Po} {o0 : Nat} {x1 : Int32} (hG : GI S E) (h0 : Oa S E 9 0 o0) (hkc : 1 ≤ kc) (hnc : 6 ≤ nc) (hP : ∀ r T x y, PV E [193, 194, 195, 196, 197, 198, 199, 200, 201, 202, 203, 204] S kc nc rJ ex0 ["java/lang/IllegalArgumentException"] r T x y → P r T x y) : TT xi M_X9_constant 0 [(0, .ref o0), (1, .int x1)] [] S kc nc P := by
  have hA : Af E [193, 194, 195, 196, 197, 198, 199, 200, 201, 202, 203, 204] S S := af_rf
  refine tt_aload_n (j := 0) dX9_constant_0 rfl ?_
  refine tt_iload_n (j := 1) dX9_constant_1 rfl ?_
  refine gt_Vvp (As := [.int x1]) dX9_constant_2 ca_X9_95 ⟨by decide, by decide⟩ h0 hA rfl (Nat.le_of_ble_eq_true rfl) (Nat.le_of_ble_eq_true rfl) (by decide) (cs_X9_requireByte hG (oa_af h0 hA) hkc hnc (fun _ _ _ _ h => h)) rfl (fun X hX T g1 g2 => hP _ _ _ _ ⟨g1, g2, Or.inr ⟨X, hX, rfl⟩⟩) (fun _ _ q => q) (fun hx105 => ?_)
  refine tt_aload_n (j := 0) dX9_constant_5 rfl ?_
  obtain ⟨b106, hr107, ho108⟩ := gi_R (k := 577) hG h0 3 0
  refine gt_gR (id := 577) dX9_constant_6 fl_9_21 rfl rfl h0 hA hr107 ?_
  refine tt_iload_n (j := 1) dX9_constant_9 rfl ?_
  refine gt_Vv (As := [.int x1]) dX9_constant_10 ca_X9_100 ⟨by decide, by decide⟩ ho108 hA rfl (Nat.le_of_ble_eq_true rfl) (Nat.le_of_ble_eq_true rfl) (by decide) (cs_X3_readFrom hG (oa_af ho108 hA) (fun _ _ _ _ h => h)) rfl (fun _ h => nomatch h) (fun S109 hx113 hG110 hB111 hA112 => ?_)
  refine tt_aload_n (j := 0) dX9_constant_13 rfl ?_
  refine gt_gR (id := 577) dX9_constant_14 fl_9_21 rfl rfl h0 hA112 hr107 ?_
  refine gt_gJ (id := 205) (v := (hp_J S109 205 b106)) dX9_constant_17 fl_9_107 rfl rfl ho108 hA112 rfl ?_
  exact tt_lreturn dX9_constant_20 rfl (hP _ _ _ _ ⟨hG110, hA112, Or.inl ⟨_, rfl, ⟨_, rfl⟩, trivial, rfl, rfl⟩⟩)
set_option maxHeartbeats 4000000 in
theorem cs_X9_go {xi : SX} {S : Hp} {E : List Nat} {kc nc : Nat} {P : Po} {o0 : Nat} {x1 : Int32} (hG : GI S E) (h0 : Oa S E 9 0 o0) (hkc : 1 ≤ kc) (hnc : 6 ≤ nc) (hP : ∀ r T x y, PV E [193, 194, 195, 196, 197, 198, 199, 200, 201, 202, 203, 204, 388, 389, 390, 391, 392, 393, 9993] S kc nc (rI (-2147483648) 2147483647) ex0 ["java/lang/IllegalArgumentException", "java/lang/IllegalStateException"] r T x y → P r T x y) : TT xi M_X9_go 0 [(0, .ref o0), (1, .int x1)] [] S kc nc P := by
  have hA : Af E [193, 194, 195, 196, 197, 198, 199, 200, 201, 202, 203, 204, 388, 389, 390, 391, 392, 393, 9993] S S := af_rf
  refine tt_iload_n (j := 1) dX9_go_0 rfl ?_
  refine tt_iconst (v := 1) dX9_go_1 rfl ?_
  have B101 : TT xi M_X9_go 12 [(0, .ref o0), (1, .int x1)] [] S kc nc P := by
    exact tt_throw th_X9_go_12 (hP _ _ _ _ ⟨hG, hA, Or.inr ⟨_, List.mem_cons_self, rfl⟩⟩) hkc hnc (by decide)
  refine tt_icmp_lt (tgt := 12) dX9_go_2 rfl (fun q102 => ?_) (fun q102 => ?_)
  · skip
    have h103 : Rg (-2147483648) 0 x1 := rg_lt_l (rg_all x1) (⟨by decide, by decide⟩ : Rg 1 1 1) q102
    exact B101 
  · skip
    have h104 : Rg 1 2147483647 x1 := rg_le_r (⟨by decide, by decide⟩ : Rg 1 1 1) (rg_all x1) (nlt_le q102)
    refine tt_iload_n (j := 1) dX9_go_5 rfl ?_
    refine tt_sipush (v := 1000) dX9_go_6 rfl ?_
    refine tt_icmp_le (tgt := 22) dX9_go_9 rfl (fun q105 => ?_) (fun q105 => ?_)
    · skip
      have h106 : Rg 1 1000 x1 := rg_le_l h104 (⟨by decide, by decide⟩ : Rg 1000 1000 1000) q105
      refine tt_aload_n (j := 0) dX9_go_22 rfl ?_
      obtain ⟨b107, hr108, ho109⟩ := gi_R (k := 580) hG h0 6 0
      refine gt_gR (id := 580) dX9_go_23 fl_9_44 rfl rfl h0 hA hr108 ?_
      refine tt_getI (id := 388) dX9_go_26 fl_9_148 rfl rfl (ob_af ho109 hA) ?_
      refine tt_iconst (v := (-1)) dX9_go_29 rfl ?_
      refine tt_icmp_ne (tgt := 43) dX9_go_30 rfl (fun q110 => ?_) (fun q110 => ?_)
      · skip
        refine tt_iconst (v := 0) dX9_go_43 rfl ?_
        refine tt_istore_n (ks := [0, 1, 2]) (L' := [(2, .int 0), (0, .ref o0), (1, .int x1)]) dX9_go_44 (by decide) rfl ?_
        refine tt_iconst (v := 0) dX9_go_45 rfl ?_
        refine tt_istore_n (ks := [0, 1, 2, 3]) (L' := [(3, .int 0), (2, .int 0), (0, .ref o0), (1, .int x1)]) dX9_go_46 (by decide) rfl ?_
        have B111 : ∀ (nn : Nat) (S112 : Hp) (x115 : Int32) (x116 : Int32), (2147483648 - x116.toInt).toNat = nn → GI S112 E → Af E [193, 194, 195, 196, 197, 198, 199, 200, 201, 202, 203, 204, 388, 389, 390, 391, 392, 393, 9993] S S112 → Rg 0 1000 x116 → TT xi M_X9_go 47 [(0, .ref o0), (1, .int x1), (2, .int x115), (3, .int x116)] [] S112 kc nc P := by
          intro nn
          induction nn using Nat.strongRecOn with
          | ind nn ihB111 =>
            intro S112 x115 x116 hmB111 hG113 hA114 h117
            subst hmB111
            refine tt_iload_n (j := 3) dX9_go_47 rfl ?_
            refine tt_iload_n (j := 1) dX9_go_48 rfl ?_
            have B118 : TT xi M_X9_go 70 [(0, .ref o0), (1, .int x1), (2, .int x115), (3, .int x116)] [] S112 kc nc P := by
              refine tt_iload_n (j := 2) dX9_go_70 rfl ?_
              exact tt_ireturn dX9_go_71 .int rfl rfl (hP _ _ _ _ ⟨hG113, hA114, Or.inl ⟨_, rfl, ⟨_, rfl, rg_w (rg_all x115)⟩, trivial, rfl, rfl⟩⟩)
            refine tt_icmp_ge (tgt := 70) dX9_go_49 rfl (fun q119 => ?_) (fun q119 => ?_)
            · skip
              have h120 : Rg 1 1000 x116 := rg_le_r h106 h117 q119
              exact B118 
            · skip
              have h121 : Rg 0 999 x116 := rg_lt_l h117 h106 (nle_lt q119)
              refine tt_iload_n (j := 2) dX9_go_52 rfl ?_
              refine tt_if_ne (tgt := 70) dX9_go_53 rfl (fun q122 => ?_) (fun q122 => ?_)
              · skip
                exact B118 
              · skip
                have h123 : Rg 0 0 x115 := rg_eq_l (rg_all x115) (⟨by decide, by decide⟩ : Rg 0 0 0) q122
                refine tt_aload_n (j := 0) dX9_go_56 rfl ?_
                refine gt_gR (id := 580) dX9_go_57 fl_9_44 rfl rfl h0 hA114 hr108 ?_
                refine gt_VI (As := []) dX9_go_60 ca_X9_153 ⟨by decide, by decide⟩ ho109 hA114 rfl (Nat.le_of_ble_eq_true rfl) (Nat.le_of_ble_eq_true rfl) (by decide) (cs_X6_doNext hG113 (oa_af ho109 hA114) (fun _ _ _ _ h => h)) rfl (fun _ h => nomatch h) (fun S124 x129 h130 hx128 hG125 hB126 hA127 => ?_)
                refine tt_istore_n (ks := [0, 1, 2, 3]) (L' := [(2, .int x129), (0, .ref o0), (1, .int x1), (3, .int x116)]) dX9_go_63 (by decide) rfl ?_
                refine tt_iinc (j := 3) (v := (x116 + 1)) (ks := [0, 1, 2, 3]) (L' := [(3, .int (x116 + 1)), (2, .int x129), (0, .ref o0), (1, .int x1)]) dX9_go_64 rfl rfl (by decide) rfl ?_
                refine tt_goto (tgt := 47) dX9_go_67 rfl ?_
                exact tt_loc (ks := [2, 3, 1, 0]) rfl (ihB111 _ (rg_up h121) S124 x129 (x116 + 1) rfl hG125 hA127 (rg_w (rg_add (lo := 1) (hi := 1000) h121 (⟨by decide, by decide⟩ : Rg 1 1 1))))
        exact tt_loc (ks := [2, 3, 1, 0]) rfl (B111 _ S 0 0 rfl hG hA (rg_w (⟨by decide, by decide⟩ : Rg 0 0 0)))
      · skip
        have h131 : Rg (-1) (-1) (hp_I S 388 b107) := rg_eq_l (rg_all (hp_I S 388 b107)) (⟨by decide, by decide⟩ : Rg (-1) (-1) (-1)) q110
        exact tt_throw th_X9_go_33 (hP _ _ _ _ ⟨hG, hA, Or.inr ⟨_, (List.mem_cons_of_mem _ List.mem_cons_self), rfl⟩⟩) hkc hnc (by decide)
    · skip
      have h132 : Rg 1001 2147483647 x1 := rg_lt_r (⟨by decide, by decide⟩ : Rg 1000 1000 1000) h104 (nle_lt q105)
      exact B101 
set_option maxHeartbeats 4000000 in
theorem cs_X2_apply {xi : SX} {S : Hp} {E : List Nat} {kc nc : Nat} {P : Po} {o0 : Nat} {o1 : Nat} {o2 : Nat} (hG : GI S E) (h0 : Oa S E 2 0 o0) (h1 : Oa S E 3 0 o1) (h2 : Oa S E 8 0 o2) (hP : ∀ r T x y, PV E [515, 516, 517, 9987, 9994] S kc nc rV ex0 [] r T x y → P r T x y) : TT xi M_X2_apply 0 [(0, .ref o0), (1, .ref o1), (2, .ref o2)] [] S kc nc P := by
  have hA : Af E [515, 516, 517, 9987, 9994] S S := af_rf
  refine tt_aload_n (j := 1) dX2_apply_0 rfl ?_
  refine tt_getI (id := 200) dX2_apply_1 fl_2_24 rfl rfl (ob_af h1 hA) ?_
  refine tt_istore_n (ks := [0, 1, 2, 3]) (L' := [(3, .int (hp_I S 200 o1)), (0, .ref o0), (1, .ref o1), (2, .ref o2)]) dX2_apply_4 (by decide) rfl ?_
  refine tt_iload_n (j := 0) dX2_apply_5 rfl ?_
  refine tt_bipush (v := 19) dX2_apply_6 rfl ?_
  refine tt_icmp_lt (tgt := 12) dX2_apply_8 rfl (fun q101 => ?_) (fun q101 => ?_)
  · skip
    have h102 : Rg (-2147483648) 18 (hp_I S 200 o1) := rg_lt_l (rg_all (hp_I S 200 o1)) (⟨by decide, by decide⟩ : Rg 19 19 19) q101
    refine tt_iload_n (j := 0) dX2_apply_12 rfl ?_
    refine tt_bipush (v := 7) dX2_apply_13 rfl ?_
    have B103 : ∀ (S104 : Hp), GI S104 E → Af E [515, 516, 517, 9987, 9994] S S104 → TT xi M_X2_apply 52 [(0, .ref o0), (1, .ref o1), (2, .ref o2), (3, .int (hp_I S 200 o1))] [] S104 kc nc P := by
      intro S104 hG105 hA106
      refine tt_aload_n (j := 0) dX2_apply_52 rfl ?_
      refine tt_aload_n (j := 1) dX2_apply_53 rfl ?_
      refine tt_aload_n (j := 2) dX2_apply_54 rfl ?_
      refine gt_Vv (As := [.ref o1, .ref o2]) dX2_apply_55 ca_X2_50 ⟨by decide, by decide⟩ h0 hA106 rfl (Nat.le_of_ble_eq_true rfl) (Nat.le_of_ble_eq_true rfl) (by decide) (cs_X2_noteRecord hG105 (oa_af h0 hA106) (oa_af h1 hA106) (oa_af h2 hA106) (fun _ _ _ _ h => h)) rfl (fun _ h => nomatch h) (fun S107 hx111 hG108 hB109 hA110 => ?_)
      exact tt_vreturn dX2_apply_58 rfl (hP _ _ _ _ ⟨hG108, hA110, Or.inl ⟨_, rfl, rfl, trivial, rfl, rfl⟩⟩)
    refine tt_icmp_eq (tgt := 52) dX2_apply_15 rfl (fun q112 => ?_) (fun q112 => ?_)
    · skip
      have h113 : Rg 7 7 (hp_I S 200 o1) := rg_eq_l h102 (⟨by decide, by decide⟩ : Rg 7 7 7) q112
      exact tt_loc (ks := [1, 2, 3, 0]) rfl (B103 S hG hA)
    · skip
      refine tt_iload_n (j := 0) dX2_apply_18 rfl ?_
      refine tt_bipush (v := 8) dX2_apply_19 rfl ?_
      refine tt_icmp_eq (tgt := 52) dX2_apply_21 rfl (fun q114 => ?_) (fun q114 => ?_)
      · skip
        have h115 : Rg 8 8 (hp_I S 200 o1) := rg_eq_l h102 (⟨by decide, by decide⟩ : Rg 8 8 8) q114
        exact tt_loc (ks := [1, 2, 3, 0]) rfl (B103 S hG hA)
      · skip
        refine tt_aload_n (j := 1) dX2_apply_24 rfl ?_
        refine tt_aload_n (j := 2) dX2_apply_25 rfl ?_
        refine tt_aload_n (j := 3) dX2_apply_26 rfl ?_
        refine gt_Vv (As := [.ref o1, .ref o2]) dX2_apply_27 ca_X2_30 ⟨by decide, by decide⟩ h0 hA rfl (Nat.le_of_ble_eq_true rfl) (Nat.le_of_ble_eq_true rfl) (by decide) (cs_X2_loadOperands hG (oa_af h0 hA) (oa_af h1 hA) (oa_af h2 hA) (fun _ _ _ _ h => h)) rfl (fun _ h => nomatch h) (fun S116 hx120 hG117 hB118 hA119 => ?_)
        refine tt_aload_n (j := 1) dX2_apply_30 rfl ?_
        refine tt_aload_n (j := 2) dX2_apply_31 rfl ?_
        refine gt_Vv (As := [.ref o1]) dX2_apply_32 ca_X2_34 ⟨by decide, by decide⟩ h0 hA119 rfl (Nat.le_of_ble_eq_true rfl) (Nat.le_of_ble_eq_true rfl) (by decide) (cs_X2_fitOperands hG117 (oa_af h0 hA119) (oa_af h1 hA119) (fun _ _ _ _ h => h)) rfl (fun _ h => nomatch h) (fun S121 hx125 hG122 hB123 hA124 => ?_)
        refine tt_aload_n (j := 1) dX2_apply_35 rfl ?_
        refine tt_aload_n (j := 2) dX2_apply_36 rfl ?_
        refine gt_Vv (As := [.ref o1]) dX2_apply_37 ca_X2_38 ⟨by decide, by decide⟩ h0 hA124 rfl (Nat.le_of_ble_eq_true rfl) (Nat.le_of_ble_eq_true rfl) (by decide) (cs_X2_computeResult hG122 (oa_af h0 hA124) (oa_af h1 hA124) (fun _ _ _ _ h => h)) rfl (fun _ h => nomatch h) (fun S126 hx130 hG127 hB128 hA129 => ?_)
        refine tt_aload_n (j := 3) dX2_apply_40 rfl ?_
        refine tt_aload_n (j := 2) dX2_apply_41 rfl ?_
        refine gt_gI (id := 202) (v := (hp_I S 202 o1)) dX2_apply_42 fl_2_41 rfl rfl h1 hA129 (i_af (k := 202) h1 hA129) ?_
        refine tt_aload_n (j := 1) dX2_apply_45 rfl ?_
        obtain ⟨b131, hr132, ho133⟩ := gi_R (k := 130) hG h0 7 0
        refine gt_gR (id := 130) dX2_apply_46 fl_2_21 rfl rfl h0 hA129 hr132 ?_
        refine gt_Vv (As := [.int (hp_I S 202 o1), .ref b131]) dX2_apply_49 ca_X2_44 ⟨by decide, by decide⟩ h2 hA129 rfl (Nat.le_of_ble_eq_true rfl) (Nat.le_of_ble_eq_true rfl) (by decide) (cs_X8_store hG127 (oa_af h2 hA129) (oa_af ho133 hA129) (fun _ _ _ _ h => h)) rfl (fun _ h => nomatch h) (fun S134 hx138 hG135 hB136 hA137 => ?_)
        exact tt_loc (ks := [1, 2, 3, 0]) rfl (B103 S134 hG135 hA137)
  · skip
    have h139 : Rg 19 2147483647 (hp_I S 200 o1) := rg_le_r (⟨by decide, by decide⟩ : Rg 19 19 19) (rg_all (hp_I S 200 o1)) (nlt_le q101)
    exact tt_vreturn dX2_apply_11 rfl (hP _ _ _ _ ⟨hG, hA, Or.inl ⟨_, rfl, rfl, trivial, rfl, rfl⟩⟩)
