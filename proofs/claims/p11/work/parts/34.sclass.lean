set_option maxHeartbeats 4000000 in
theorem cs_X3_readPair {xi : SX} {S : Hp} {E : List Nat} {kc nc : Nat} {P : Po} {o0 : Nat} {x1 : Int32} {x2 : Int32} (hG : GI S E) (h0 : Oa S E 3 0 o0) (h2 : Rg 0 1 x2) (hP : ∀ r T x y, PV E [193, 195, 196, 197, 198, 200, 202, 203] S kc nc rV ex0 [] r T x y → P r T x y) : TT xi M_X3_readPair 0 [(0, .ref o0), (1, .int x1), (2, .int x2)] [] S kc nc P := by
  have hA : Af E [193, 195, 196, 197, 198, 200, 202, 203] S S := af_rf
  refine tt_aload_n (j := 0) dX3_readPair_0 rfl ?_
  refine gt_Vv (As := []) dX3_readPair_1 ca_X3_95 ⟨by decide, by decide⟩ h0 hA rfl (Nat.le_of_ble_eq_true rfl) (Nat.le_of_ble_eq_true rfl) (by decide) (cs_X3_readPlace hG (oa_af h0 hA) (fun _ _ _ _ h => h)) rfl (fun _ h => nomatch h) (fun S101 hx105 hG102 hB103 hA104 => ?_)
  refine tt_aload_n (j := 0) dX3_readPair_4 rfl ?_
  refine tt_iload_n (j := 1) dX3_readPair_5 rfl ?_
  refine gt_pI (id := 200) (x := x1) dX3_readPair_6 fl_3_54 rfl rfl h0 hA104 rfl rfl rfl (gp_I hG102) (by decide) (fun h => absurd h (by decide)) (fun h => absurd h (by decide)) (fun S106 hG107 hA108 e109 f110 er111 => ?_)
  refine tt_aload_n (j := 0) dX3_readPair_9 rfl ?_
  refine tt_iload_n (j := 2) dX3_readPair_10 rfl ?_
  have B112 : ∀ (x113 : Int32), TT xi M_X3_readPair 25 [(0, .ref o0), (1, .int x1), (2, .int x2)] [.int x113, .ref o0] S106 kc nc P := by
    intro x113 
    refine gt_pI (id := 202) (x := x113) dX3_readPair_25 fl_3_64 rfl rfl h0 hA108 rfl rfl rfl (gp_I hG107) (by decide) (fun h => absurd h (by decide)) (fun h => absurd h (by decide)) (fun S114 hG115 hA116 e117 f118 er119 => ?_)
    refine tt_aload_n (j := 0) dX3_readPair_28 rfl ?_
    refine tt_iload_n (j := 2) dX3_readPair_29 rfl ?_
    have B120 : ∀ (x121 : Int32), TT xi M_X3_readPair 44 [(0, .ref o0), (1, .int x1), (2, .int x2)] [.int x121, .ref o0] S114 kc nc P := by
      intro x121 
      refine gt_pI (id := 203) (x := x121) dX3_readPair_44 fl_3_67 rfl rfl h0 hA116 rfl rfl rfl (gp_I hG115) (by decide) (fun h => absurd h (by decide)) (fun h => absurd h (by decide)) (fun S122 hG123 hA124 e125 f126 er127 => ?_)
      exact tt_vreturn dX3_readPair_47 rfl (hP _ _ _ _ ⟨hG123, hA124, Or.inl ⟨_, rfl, rfl, trivial, rfl, rfl⟩⟩)
    refine tt_if_eq (tgt := 40) dX3_readPair_30 rfl (fun q128 => ?_) (fun q128 => ?_)
    · skip
      have h129 : Rg 0 0 x2 := rg_eq_l h2 (⟨by decide, by decide⟩ : Rg 0 0 0) q128
      refine tt_aload_n (j := 0) dX3_readPair_40 rfl ?_
      refine tt_getI (id := 198) dX3_readPair_41 fl_3_98 rfl rfl (ob_af h0 hA116) ?_
      exact B120 (hp_I S114 198 o0)
    · skip
      have h130 : Rg 1 1 x2 := rg_ne_lo h2 (⟨by decide, by decide⟩ : Rg 0 0 0) q128
      refine tt_aload_n (j := 0) dX3_readPair_33 rfl ?_
      refine tt_getI (id := 196) dX3_readPair_34 fl_3_101 rfl rfl (ob_af h0 hA116) ?_
      refine tt_goto (tgt := 44) dX3_readPair_37 rfl ?_
      exact B120 (hp_I S114 196 o0)
  refine tt_if_eq (tgt := 21) dX3_readPair_11 rfl (fun q131 => ?_) (fun q131 => ?_)
  · skip
    have h132 : Rg 0 0 x2 := rg_eq_l h2 (⟨by decide, by decide⟩ : Rg 0 0 0) q131
    refine tt_aload_n (j := 0) dX3_readPair_21 rfl ?_
    refine tt_getI (id := 196) dX3_readPair_22 fl_3_101 rfl rfl (ob_af h0 hA108) ?_
    exact B112 (hp_I S106 196 o0)
  · skip
    have h133 : Rg 1 1 x2 := rg_ne_lo h2 (⟨by decide, by decide⟩ : Rg 0 0 0) q131
    refine tt_aload_n (j := 0) dX3_readPair_14 rfl ?_
    refine tt_getI (id := 198) dX3_readPair_15 fl_3_98 rfl rfl (ob_af h0 hA108) ?_
    refine tt_goto (tgt := 25) dX3_readPair_18 rfl ?_
    exact B112 (hp_I S106 198 o0)
set_option maxHeartbeats 4000000 in
theorem cs_X3_readSignExtension {xi : SX} {S : Hp} {E : List Nat} {kc nc : Nat} {P : Po} {o0 : Nat} (hG : GI S E) (h0 : Oa S E 3 0 o0) (hP : ∀ r T x y, PV E [193, 195, 196, 197, 198, 200, 202, 203] S kc nc rV ex0 [] r T x y → P r T x y) : TT xi M_X3_readSignExtension 0 [(0, .ref o0)] [] S kc nc P := by
  have hA : Af E [193, 195, 196, 197, 198, 200, 202, 203] S S := af_rf
  refine tt_aload_n (j := 0) dX3_readSignExtension_0 rfl ?_
  refine gt_Vv (As := []) dX3_readSignExtension_1 ca_X3_95 ⟨by decide, by decide⟩ h0 hA rfl (Nat.le_of_ble_eq_true rfl) (Nat.le_of_ble_eq_true rfl) (by decide) (cs_X3_readPlace hG (oa_af h0 hA) (fun _ _ _ _ h => h)) rfl (fun _ h => nomatch h) (fun S101 hx105 hG102 hB103 hA104 => ?_)
  refine tt_aload_n (j := 0) dX3_readSignExtension_4 rfl ?_
  refine tt_bipush (v := 18) dX3_readSignExtension_5 rfl ?_
  refine gt_pI (id := 200) (x := 18) dX3_readSignExtension_7 fl_3_54 rfl rfl h0 hA104 rfl rfl rfl (gp_I hG102) (by decide) (fun h => absurd h (by decide)) (fun h => absurd h (by decide)) (fun S106 hG107 hA108 e109 f110 er111 => ?_)
  refine tt_aload_n (j := 0) dX3_readSignExtension_10 rfl ?_
  refine tt_aload_n (j := 0) dX3_readSignExtension_11 rfl ?_
  refine tt_getI (id := 196) dX3_readSignExtension_12 fl_3_101 rfl rfl (ob_af h0 hA108) ?_
  refine gt_pI (id := 202) (x := (hp_I S106 196 o0)) dX3_readSignExtension_15 fl_3_64 rfl rfl h0 hA108 rfl rfl rfl (gp_I hG107) (by decide) (fun h => absurd h (by decide)) (fun h => absurd h (by decide)) (fun S112 hG113 hA114 e115 f116 er117 => ?_)
  refine tt_aload_n (j := 0) dX3_readSignExtension_18 rfl ?_
  refine tt_aload_n (j := 0) dX3_readSignExtension_19 rfl ?_
  refine tt_getI (id := 198) dX3_readSignExtension_20 fl_3_98 rfl rfl (ob_af h0 hA114) ?_
  refine gt_pI (id := 203) (x := (hp_I S112 198 o0)) dX3_readSignExtension_23 fl_3_67 rfl rfl h0 hA114 rfl rfl rfl (gp_I hG113) (by decide) (fun h => absurd h (by decide)) (fun h => absurd h (by decide)) (fun S118 hG119 hA120 e121 f122 er123 => ?_)
  refine tt_aload_n (j := 0) dX3_readSignExtension_26 rfl ?_
  refine gt_gI (id := 201) (v := (hp_I S 201 o0)) dX3_readSignExtension_27 fl_3_34 rfl rfl h0 hA120 (i_af (k := 201) h0 hA120) ?_
  refine tt_bipush (v := 64) dX3_readSignExtension_30 rfl ?_
  have B124 : ∀ (S125 : Hp), GI S125 E → Af E [193, 195, 196, 197, 198, 200, 202, 203] S S125 → TT xi M_X3_readSignExtension 49 [(0, .ref o0)] [] S125 kc nc P := by
    intro S125 hG126 hA127
    exact tt_vreturn dX3_readSignExtension_49 rfl (hP _ _ _ _ ⟨hG126, hA127, Or.inl ⟨_, rfl, rfl, trivial, rfl, rfl⟩⟩)
  have B128 : TT xi M_X3_readSignExtension 44 [(0, .ref o0)] [] S118 kc nc P := by
    refine tt_aload_n (j := 0) dX3_readSignExtension_44 rfl ?_
    refine tt_iconst (v := 0) dX3_readSignExtension_45 rfl ?_
    refine gt_pI (id := 195) (x := 0) dX3_readSignExtension_46 fl_3_22 rfl rfl h0 hA120 rfl rfl rfl (gp_Ir hG119 (⟨by decide, by decide⟩ : Rg 0 0 0)) (by decide) (fun h => absurd h (by decide)) (fun h => absurd h (by decide)) (fun S129 hG130 hA131 e132 f133 er134 => ?_)
    exact B124 S129 hG130 hA131
  refine tt_icmp_ne (tgt := 44) dX3_readSignExtension_32 rfl (fun q135 => ?_) (fun q135 => ?_)
  · skip
    exact B128 
  · skip
    have h136 : Rg 64 64 (hp_I S 201 o0) := rg_eq_l (rg_all (hp_I S 201 o0)) (⟨by decide, by decide⟩ : Rg 64 64 64) q135
    refine tt_aload_n (j := 0) dX3_readSignExtension_35 rfl ?_
    refine gt_gI (id := 198) (v := (hp_I S112 198 o0)) dX3_readSignExtension_36 fl_3_98 rfl rfl h0 hA120 ((congrFun (congrFun e121 198) o0).trans ((congrFun (up2_ne (k := 198)) o0).trans rfl)) ?_
    refine tt_bipush (v := 16) dX3_readSignExtension_39 rfl ?_
    refine tt_icmp_lt (tgt := 49) dX3_readSignExtension_41 rfl (fun q137 => ?_) (fun q137 => ?_)
    · skip
      have h138 : Rg (-2147483648) 15 (hp_I S112 198 o0) := rg_lt_l (rg_all (hp_I S112 198 o0)) (⟨by decide, by decide⟩ : Rg 16 16 16) q137
      exact B124 S118 hG119 hA120
    · skip
      have h139 : Rg 16 2147483647 (hp_I S112 198 o0) := rg_le_r (⟨by decide, by decide⟩ : Rg 16 16 16) (rg_all (hp_I S112 198 o0)) (nlt_le q137)
      exact B128 
set_option maxHeartbeats 4000000 in
theorem cs_X3_readArithmeticWithConstant {xi : SX} {S : Hp} {E : List Nat} {kc nc : Nat} {P : Po} {o0 : Nat} {x1 : Int32} (hG : GI S E) (h0 : Oa S E 3 0 o0) (hP : ∀ r T x y, PV E [193, 195, 196, 197, 198, 200, 202] S kc nc rV ex0 [] r T x y → P r T x y) : TT xi M_X3_readArithmeticWithConstant 0 [(0, .ref o0), (1, .int x1)] [] S kc nc P := by
  have hA : Af E [193, 195, 196, 197, 198, 200, 202] S S := af_rf
  refine tt_aload_n (j := 0) dX3_readArithmeticWithConstant_0 rfl ?_
  refine gt_Vv (As := []) dX3_readArithmeticWithConstant_1 ca_X3_95 ⟨by decide, by decide⟩ h0 hA rfl (Nat.le_of_ble_eq_true rfl) (Nat.le_of_ble_eq_true rfl) (by decide) (cs_X3_readPlace hG (oa_af h0 hA) (fun _ _ _ _ h => h)) rfl (fun _ h => nomatch h) (fun S101 hx105 hG102 hB103 hA104 => ?_)
  refine tt_aload_n (j := 0) dX3_readArithmeticWithConstant_4 rfl ?_
  refine tt_aload_n (j := 0) dX3_readArithmeticWithConstant_5 rfl ?_
  refine tt_getI (id := 197) dX3_readArithmeticWithConstant_6 fl_3_104 rfl rfl (ob_af h0 hA104) ?_
  refine gt_pI (id := 200) (x := (hp_I S101 197 o0)) dX3_readArithmeticWithConstant_9 fl_3_54 rfl rfl h0 hA104 rfl rfl rfl (gp_I hG102) (by decide) (fun h => absurd h (by decide)) (fun h => absurd h (by decide)) (fun S106 hG107 hA108 e109 f110 er111 => ?_)
  refine tt_aload_n (j := 0) dX3_readArithmeticWithConstant_12 rfl ?_
  refine tt_aload_n (j := 0) dX3_readArithmeticWithConstant_13 rfl ?_
  refine tt_getI (id := 198) dX3_readArithmeticWithConstant_14 fl_3_98 rfl rfl (ob_af h0 hA108) ?_
  refine gt_pI (id := 202) (x := (hp_I S106 198 o0)) dX3_readArithmeticWithConstant_17 fl_3_64 rfl rfl h0 hA108 rfl rfl rfl (gp_I hG107) (by decide) (fun h => absurd h (by decide)) (fun h => absurd h (by decide)) (fun S112 hG113 hA114 e115 f116 er117 => ?_)
  refine tt_aload_n (j := 0) dX3_readArithmeticWithConstant_20 rfl ?_
  refine tt_aload_n (j := 0) dX3_readArithmeticWithConstant_21 rfl ?_
  refine tt_iload_n (j := 1) dX3_readArithmeticWithConstant_22 rfl ?_
  refine gt_VJ (As := [.int x1]) dX3_readArithmeticWithConstant_23 ca_X3_107 ⟨by decide, by decide⟩ h0 hA114 rfl (Nat.le_of_ble_eq_true rfl) (Nat.le_of_ble_eq_true rfl) (by decide) (cs_X3_readNumber hG113 (oa_af h0 hA114) (fun _ _ _ _ h => h)) rfl (fun _ h => nomatch h) (fun S118 y123 hx122 hG119 hB120 hA121 => ?_)
  refine gt_pJ (id := 205) (x := y123) dX3_readArithmeticWithConstant_26 fl_3_73 rfl rfl h0 hA121 rfl rfl rfl hG119 (fun S125 hG126 hA127 e128 f129 er130 => ?_)
  exact tt_vreturn dX3_readArithmeticWithConstant_29 rfl (hP _ _ _ _ ⟨hG126, hA127, Or.inl ⟨_, rfl, rfl, trivial, rfl, rfl⟩⟩)
set_option maxHeartbeats 4000000 in
theorem cs_X3_readShift {xi : SX} {S : Hp} {E : List Nat} {kc nc : Nat} {P : Po} {o0 : Nat} (hG : GI S E) (h0 : Oa S E 3 0 o0) (hP : ∀ r T x y, PV E [193, 195, 196, 197, 198, 200, 202, 204] S kc nc rV ex0 [] r T x y → P r T x y) : TT xi M_X3_readShift 0 [(0, .ref o0)] [] S kc nc P := by
  have hA : Af E [193, 195, 196, 197, 198, 200, 202, 204] S S := af_rf
  refine tt_aload_n (j := 0) dX3_readShift_0 rfl ?_
  refine gt_Vv (As := []) dX3_readShift_1 ca_X3_95 ⟨by decide, by decide⟩ h0 hA rfl (Nat.le_of_ble_eq_true rfl) (Nat.le_of_ble_eq_true rfl) (by decide) (cs_X3_readPlace hG (oa_af h0 hA) (fun _ _ _ _ h => h)) rfl (fun _ h => nomatch h) (fun S101 hx105 hG102 hB103 hA104 => ?_)
  refine tt_aload_n (j := 0) dX3_readShift_4 rfl ?_
  refine tt_aload_n (j := 0) dX3_readShift_5 rfl ?_
  refine tt_getI (id := 198) dX3_readShift_6 fl_3_98 rfl rfl (ob_af h0 hA104) ?_
  refine gt_pI (id := 202) (x := (hp_I S101 198 o0)) dX3_readShift_9 fl_3_64 rfl rfl h0 hA104 rfl rfl rfl (gp_I hG102) (by decide) (fun h => absurd h (by decide)) (fun h => absurd h (by decide)) (fun S106 hG107 hA108 e109 f110 er111 => ?_)
  refine tt_aload_n (j := 0) dX3_readShift_12 rfl ?_
  refine tt_aload_n (j := 0) dX3_readShift_13 rfl ?_
  refine tt_iconst (v := 1) dX3_readShift_14 rfl ?_
  refine gt_VJ (As := [.int 1]) dX3_readShift_15 ca_X3_107 ⟨by decide, by decide⟩ h0 hA108 rfl (Nat.le_of_ble_eq_true rfl) (Nat.le_of_ble_eq_true rfl) (by decide) (cs_X3_readNumber hG107 (oa_af h0 hA108) (fun _ _ _ _ h => h)) rfl (fun _ h => nomatch h) (fun S112 y117 hx116 hG113 hB114 hA115 => ?_)
  refine gt_pJ (id := 205) (x := y117) dX3_readShift_18 fl_3_73 rfl rfl h0 hA115 rfl rfl rfl hG113 (fun S119 hG120 hA121 e122 f123 er124 => ?_)
  refine tt_aload_n (j := 0) dX3_readShift_21 rfl ?_
  refine tt_aload_n (j := 0) dX3_readShift_22 rfl ?_
  refine gt_gJ (id := 205) (v := y117) dX3_readShift_23 fl_3_73 rfl rfl h0 hA121 (by rw [f123]; exact up2_self) ?_
  refine tt_l2i dX3_readShift_26 (gt_ti (fun x125 => ?_))
  refine tt_aload_n (j := 0) dX3_readShift_27 rfl ?_
  refine gt_gI (id := 201) (v := (hp_I S 201 o0)) dX3_readShift_28 fl_3_34 rfl rfl h0 hA121 (i_af (k := 201) h0 hA121) ?_
  refine tt_iconst (v := 1) dX3_readShift_31 rfl ?_
  refine tt_isub dX3_readShift_32 ?_
  refine tt_iand dX3_readShift_33 ?_
  refine gt_pI (id := 204) (x := (x125 &&& ((hp_I S 201 o0) - 1))) dX3_readShift_34 fl_3_70 rfl rfl h0 hA121 rfl rfl rfl (gp_I hG120) (by decide) (fun h => absurd h (by decide)) (fun h => absurd h (by decide)) (fun S126 hG127 hA128 e129 f130 er131 => ?_)
  refine tt_aload_n (j := 0) dX3_readShift_37 rfl ?_
  refine tt_getI (id := 197) dX3_readShift_38 fl_3_104 rfl rfl (ob_af h0 hA128) ?_
  have B132 : ∀ (S133 : Hp), GI S133 E → Af E [193, 195, 196, 197, 198, 200, 202, 204] S S133 → TT xi M_X3_readShift 104 [(0, .ref o0)] [] S133 kc nc P := by
    intro S133 hG134 hA135
    exact tt_vreturn dX3_readShift_104 rfl (hP _ _ _ _ ⟨hG134, hA135, Or.inl ⟨_, rfl, rfl, trivial, rfl, rfl⟩⟩)
  refine gt_ts [72, 81, 90, 99] dX3_readShift_41 (by decide) (by decide) (fa_cons ?_ (fa_cons ?_ (fa_cons ?_ (fa_cons ?_ fa_nil))))
  · skip
    refine tt_aload_n (j := 0) dX3_readShift_72 rfl ?_
    refine tt_bipush (v := 14) dX3_readShift_73 rfl ?_
    refine gt_pI (id := 200) (x := 14) dX3_readShift_75 fl_3_54 rfl rfl h0 hA128 rfl rfl rfl (gp_I hG127) (by decide) (fun h => absurd h (by decide)) (fun h => absurd h (by decide)) (fun S136 hG137 hA138 e139 f140 er141 => ?_)
    refine tt_goto (tgt := 104) dX3_readShift_78 rfl ?_
    exact B132 S136 hG137 hA138
  · skip
    refine tt_aload_n (j := 0) dX3_readShift_81 rfl ?_
    refine tt_bipush (v := 15) dX3_readShift_82 rfl ?_
    refine gt_pI (id := 200) (x := 15) dX3_readShift_84 fl_3_54 rfl rfl h0 hA128 rfl rfl rfl (gp_I hG127) (by decide) (fun h => absurd h (by decide)) (fun h => absurd h (by decide)) (fun S142 hG143 hA144 e145 f146 er147 => ?_)
    refine tt_goto (tgt := 104) dX3_readShift_87 rfl ?_
    exact B132 S142 hG143 hA144
  · skip
    refine tt_aload_n (j := 0) dX3_readShift_90 rfl ?_
    refine tt_bipush (v := 16) dX3_readShift_91 rfl ?_
    refine gt_pI (id := 200) (x := 16) dX3_readShift_93 fl_3_54 rfl rfl h0 hA128 rfl rfl rfl (gp_I hG127) (by decide) (fun h => absurd h (by decide)) (fun h => absurd h (by decide)) (fun S148 hG149 hA150 e151 f152 er153 => ?_)
    refine tt_goto (tgt := 104) dX3_readShift_96 rfl ?_
    exact B132 S148 hG149 hA150
  · skip
    refine tt_aload_n (j := 0) dX3_readShift_99 rfl ?_
    refine tt_iconst (v := 0) dX3_readShift_100 rfl ?_
    refine gt_pI (id := 195) (x := 0) dX3_readShift_101 fl_3_22 rfl rfl h0 hA128 rfl rfl rfl (gp_Ir hG127 (⟨by decide, by decide⟩ : Rg 0 0 0)) (by decide) (fun h => absurd h (by decide)) (fun h => absurd h (by decide)) (fun S154 hG155 hA156 e157 f158 er159 => ?_)
    exact B132 S154 hG155 hA156
set_option maxHeartbeats 4000000 in
theorem cs_X3_readMoveToPlace {xi : SX} {S : Hp} {E : List Nat} {kc nc : Nat} {P : Po} {o0 : Nat} (hG : GI S E) (h0 : Oa S E 3 0 o0) (hP : ∀ r T x y, PV E [193, 195, 196, 197, 198, 200, 202] S kc nc rV ex0 [] r T x y → P r T x y) : TT xi M_X3_readMoveToPlace 0 [(0, .ref o0)] [] S kc nc P := by
  have hA : Af E [193, 195, 196, 197, 198, 200, 202] S S := af_rf
  refine tt_aload_n (j := 0) dX3_readMoveToPlace_0 rfl ?_
  refine gt_Vv (As := []) dX3_readMoveToPlace_1 ca_X3_95 ⟨by decide, by decide⟩ h0 hA rfl (Nat.le_of_ble_eq_true rfl) (Nat.le_of_ble_eq_true rfl) (by decide) (cs_X3_readPlace hG (oa_af h0 hA) (fun _ _ _ _ h => h)) rfl (fun _ h => nomatch h) (fun S101 hx105 hG102 hB103 hA104 => ?_)
  refine tt_aload_n (j := 0) dX3_readMoveToPlace_4 rfl ?_
  refine tt_bipush (v := 13) dX3_readMoveToPlace_5 rfl ?_
  refine gt_pI (id := 200) (x := 13) dX3_readMoveToPlace_7 fl_3_54 rfl rfl h0 hA104 rfl rfl rfl (gp_I hG102) (by decide) (fun h => absurd h (by decide)) (fun h => absurd h (by decide)) (fun S106 hG107 hA108 e109 f110 er111 => ?_)
  refine tt_aload_n (j := 0) dX3_readMoveToPlace_10 rfl ?_
  refine tt_aload_n (j := 0) dX3_readMoveToPlace_11 rfl ?_
  refine tt_getI (id := 198) dX3_readMoveToPlace_12 fl_3_98 rfl rfl (ob_af h0 hA108) ?_
  refine gt_pI (id := 202) (x := (hp_I S106 198 o0)) dX3_readMoveToPlace_15 fl_3_64 rfl rfl h0 hA108 rfl rfl rfl (gp_I hG107) (by decide) (fun h => absurd h (by decide)) (fun h => absurd h (by decide)) (fun S112 hG113 hA114 e115 f116 er117 => ?_)
  refine tt_aload_n (j := 0) dX3_readMoveToPlace_18 rfl ?_
  refine tt_aload_n (j := 0) dX3_readMoveToPlace_19 rfl ?_
  refine tt_iconst (v := 4) dX3_readMoveToPlace_20 rfl ?_
  refine gt_VJ (As := [.int 4]) dX3_readMoveToPlace_21 ca_X3_107 ⟨by decide, by decide⟩ h0 hA114 rfl (Nat.le_of_ble_eq_true rfl) (Nat.le_of_ble_eq_true rfl) (by decide) (cs_X3_readNumber hG113 (oa_af h0 hA114) (fun _ _ _ _ h => h)) rfl (fun _ h => nomatch h) (fun S118 y123 hx122 hG119 hB120 hA121 => ?_)
  refine gt_pJ (id := 205) (x := y123) dX3_readMoveToPlace_24 fl_3_73 rfl rfl h0 hA121 rfl rfl rfl hG119 (fun S125 hG126 hA127 e128 f129 er130 => ?_)
  refine tt_aload_n (j := 0) dX3_readMoveToPlace_27 rfl ?_
  refine tt_getI (id := 197) dX3_readMoveToPlace_28 fl_3_104 rfl rfl (ob_af h0 hA127) ?_
  have B131 : ∀ (S132 : Hp), GI S132 E → Af E [193, 195, 196, 197, 198, 200, 202] S S132 → TT xi M_X3_readMoveToPlace 39 [(0, .ref o0)] [] S132 kc nc P := by
    intro S132 hG133 hA134
    exact tt_vreturn dX3_readMoveToPlace_39 rfl (hP _ _ _ _ ⟨hG133, hA134, Or.inl ⟨_, rfl, rfl, trivial, rfl, rfl⟩⟩)
  refine tt_if_eq (tgt := 39) dX3_readMoveToPlace_31 rfl (fun q135 => ?_) (fun q135 => ?_)
  · skip
    have h136 : Rg 0 0 (hp_I S125 197 o0) := rg_eq_l (rg_all (hp_I S125 197 o0)) (⟨by decide, by decide⟩ : Rg 0 0 0) q135
    exact B131 S125 hG126 hA127
  · skip
    refine tt_aload_n (j := 0) dX3_readMoveToPlace_34 rfl ?_
    refine tt_iconst (v := 0) dX3_readMoveToPlace_35 rfl ?_
    refine gt_pI (id := 195) (x := 0) dX3_readMoveToPlace_36 fl_3_22 rfl rfl h0 hA127 rfl rfl rfl (gp_Ir hG126 (⟨by decide, by decide⟩ : Rg 0 0 0)) (by decide) (fun h => absurd h (by decide)) (fun h => absurd h (by decide)) (fun S137 hG138 hA139 e140 f141 er142 => ?_)
    exact B131 S137 hG138 hA139
set_option maxHeartbeats 4000000 in
theorem cs_X3_readMoveToRegister {xi : SX} {S : Hp} {E : List Nat} {kc nc : Nat} {P : Po} {o0 : Nat} {x1 : Int32} (hG : GI S E) (h0 : Oa S E 3 0 o0) (hP : ∀ r T x y, PV E [193, 195, 200, 202] S kc nc rV ex0 [] r T x y → P r T x y) : TT xi M_X3_readMoveToRegister 0 [(0, .ref o0), (1, .int x1)] [] S kc nc P := by
  have hA : Af E [193, 195, 200, 202] S S := af_rf
  refine tt_aload_n (j := 0) dX3_readMoveToRegister_0 rfl ?_
  refine tt_bipush (v := 13) dX3_readMoveToRegister_1 rfl ?_
  refine gt_pI (id := 200) (x := 13) dX3_readMoveToRegister_3 fl_3_54 rfl rfl h0 hA rfl rfl rfl (gp_I hG) (by decide) (fun h => absurd h (by decide)) (fun h => absurd h (by decide)) (fun S101 hG102 hA103 e104 f105 er106 => ?_)
  refine tt_aload_n (j := 0) dX3_readMoveToRegister_6 rfl ?_
  refine tt_aload_n (j := 0) dX3_readMoveToRegister_7 rfl ?_
  refine gt_gI (id := 194) (v := (hp_I S 194 o0)) dX3_readMoveToRegister_8 fl_3_19 rfl rfl h0 hA103 (i_af (k := 194) h0 hA103) ?_
  refine tt_iconst (v := 1) dX3_readMoveToRegister_11 rfl ?_
  refine tt_iand dX3_readMoveToRegister_12 ?_
  have B107 : ∀ (x108 : Int32), TT xi M_X3_readMoveToRegister 24 [(0, .ref o0), (1, .int x1)] [.int x108, .ref o0] S101 kc nc P := by
    intro x108 
    refine gt_pI (id := 202) (x := x108) dX3_readMoveToRegister_24 fl_3_64 rfl rfl h0 hA103 rfl rfl rfl (gp_I hG102) (by decide) (fun h => absurd h (by decide)) (fun h => absurd h (by decide)) (fun S109 hG110 hA111 e112 f113 er114 => ?_)
    refine tt_aload_n (j := 0) dX3_readMoveToRegister_27 rfl ?_
    refine tt_aload_n (j := 0) dX3_readMoveToRegister_28 rfl ?_
    refine tt_aload_n (j := 0) dX3_readMoveToRegister_29 rfl ?_
    refine gt_gI (id := 201) (v := (hp_I S 201 o0)) dX3_readMoveToRegister_30 fl_3_34 rfl rfl h0 hA111 (i_af (k := 201) h0 hA111) ?_
    refine tt_bipush (v := 64) dX3_readMoveToRegister_33 rfl ?_
    have B115 : ∀ (x116 : Int32), Rg 4 8 x116 → TT xi M_X3_readMoveToRegister 44 [(0, .ref o0), (1, .int x1)] [.int x116, .ref o0, .ref o0] S109 kc nc P := by
      intro x116 h117
      refine gt_VJ (As := [.int x116]) dX3_readMoveToRegister_44 ca_X3_107 ⟨by decide, by decide⟩ h0 hA111 rfl (Nat.le_of_ble_eq_true rfl) (Nat.le_of_ble_eq_true rfl) (by decide) (cs_X3_readNumber hG110 (oa_af h0 hA111) (fun _ _ _ _ h => h)) rfl (fun _ h => nomatch h) (fun S118 y123 hx122 hG119 hB120 hA121 => ?_)
      refine gt_pJ (id := 205) (x := y123) dX3_readMoveToRegister_47 fl_3_73 rfl rfl h0 hA121 rfl rfl rfl hG119 (fun S125 hG126 hA127 e128 f129 er130 => ?_)
      exact tt_vreturn dX3_readMoveToRegister_50 rfl (hP _ _ _ _ ⟨hG126, hA127, Or.inl ⟨_, rfl, rfl, trivial, rfl, rfl⟩⟩)
    refine tt_icmp_ne (tgt := 43) dX3_readMoveToRegister_35 rfl (fun q131 => ?_) (fun q131 => ?_)
    · skip
      refine tt_iconst (v := 4) dX3_readMoveToRegister_43 rfl ?_
      exact B115 4 (rg_w (⟨by decide, by decide⟩ : Rg 4 4 4))
    · skip
      have h132 : Rg 64 64 (hp_I S 201 o0) := rg_eq_l (rg_all (hp_I S 201 o0)) (⟨by decide, by decide⟩ : Rg 64 64 64) q131
      refine tt_bipush (v := 8) dX3_readMoveToRegister_38 rfl ?_
      refine tt_goto (tgt := 44) dX3_readMoveToRegister_40 rfl ?_
      exact B115 8 (rg_w (⟨by decide, by decide⟩ : Rg 8 8 8))
  refine tt_if_eq (tgt := 23) dX3_readMoveToRegister_13 rfl (fun q133 => ?_) (fun q133 => ?_)
  · skip
    have h134 : Rg 0 0 ((hp_I S 194 o0) &&& 1) := rg_eq_l (rg_and (x := (hp_I S 194 o0)) (⟨by decide, by decide⟩ : Rg 1 1 1)) (⟨by decide, by decide⟩ : Rg 0 0 0) q133
    refine tt_iload_n (j := 1) dX3_readMoveToRegister_23 rfl ?_
    exact B107 x1
  · skip
    have h135 : Rg 1 1 ((hp_I S 194 o0) &&& 1) := rg_ne_lo (rg_and (x := (hp_I S 194 o0)) (⟨by decide, by decide⟩ : Rg 1 1 1)) (⟨by decide, by decide⟩ : Rg 0 0 0) q133
    refine tt_iload_n (j := 1) dX3_readMoveToRegister_16 rfl ?_
    refine tt_bipush (v := 8) dX3_readMoveToRegister_17 rfl ?_
    refine tt_iadd dX3_readMoveToRegister_19 ?_
    refine tt_goto (tgt := 24) dX3_readMoveToRegister_20 rfl ?_
    exact B107 (x1 + 8)
set_option maxHeartbeats 4000000 in
theorem cs_X3_readTestNotNeg {xi : SX} {S : Hp} {E : List Nat} {kc nc : Nat} {P : Po} {o0 : Nat} (hG : GI S E) (h0 : Oa S E 3 0 o0) (hP : ∀ r T x y, PV E [193, 195, 196, 197, 198, 200, 202] S kc nc rV ex0 [] r T x y → P r T x y) : TT xi M_X3_readTestNotNeg 0 [(0, .ref o0)] [] S kc nc P := by
  have hA : Af E [193, 195, 196, 197, 198, 200, 202] S S := af_rf
  refine tt_aload_n (j := 0) dX3_readTestNotNeg_0 rfl ?_
  refine gt_Vv (As := []) dX3_readTestNotNeg_1 ca_X3_95 ⟨by decide, by decide⟩ h0 hA rfl (Nat.le_of_ble_eq_true rfl) (Nat.le_of_ble_eq_true rfl) (by decide) (cs_X3_readPlace hG (oa_af h0 hA) (fun _ _ _ _ h => h)) rfl (fun _ h => nomatch h) (fun S101 hx105 hG102 hB103 hA104 => ?_)
  refine tt_aload_n (j := 0) dX3_readTestNotNeg_4 rfl ?_
  refine tt_aload_n (j := 0) dX3_readTestNotNeg_5 rfl ?_
  refine tt_getI (id := 198) dX3_readTestNotNeg_6 fl_3_98 rfl rfl (ob_af h0 hA104) ?_
  refine gt_pI (id := 202) (x := (hp_I S101 198 o0)) dX3_readTestNotNeg_9 fl_3_64 rfl rfl h0 hA104 rfl rfl rfl (gp_I hG102) (by decide) (fun h => absurd h (by decide)) (fun h => absurd h (by decide)) (fun S106 hG107 hA108 e109 f110 er111 => ?_)
  refine tt_aload_n (j := 0) dX3_readTestNotNeg_12 rfl ?_
  refine tt_getI (id := 197) dX3_readTestNotNeg_13 fl_3_104 rfl rfl (ob_af h0 hA108) ?_
  have B112 : ∀ (S113 : Hp), GI S113 E → Af E [193, 195, 196, 197, 198, 200, 202] S S113 → TT xi M_X3_readTestNotNeg 89 [(0, .ref o0)] [] S113 kc nc P := by
    intro S113 hG114 hA115
    exact tt_vreturn dX3_readTestNotNeg_89 rfl (hP _ _ _ _ ⟨hG114, hA115, Or.inl ⟨_, rfl, rfl, trivial, rfl, rfl⟩⟩)
  refine gt_ts [48, 66, 75, 84] dX3_readTestNotNeg_16 (by decide) (by decide) (fa_cons ?_ (fa_cons ?_ (fa_cons ?_ (fa_cons ?_ fa_nil))))
  · skip
    refine tt_aload_n (j := 0) dX3_readTestNotNeg_48 rfl ?_
    refine tt_bipush (v := 8) dX3_readTestNotNeg_49 rfl ?_
    refine gt_pI (id := 200) (x := 8) dX3_readTestNotNeg_51 fl_3_54 rfl rfl h0 hA108 rfl rfl rfl (gp_I hG107) (by decide) (fun h => absurd h (by decide)) (fun h => absurd h (by decide)) (fun S116 hG117 hA118 e119 f120 er121 => ?_)
    refine tt_aload_n (j := 0) dX3_readTestNotNeg_54 rfl ?_
    refine tt_aload_n (j := 0) dX3_readTestNotNeg_55 rfl ?_
    refine tt_iconst (v := 4) dX3_readTestNotNeg_56 rfl ?_
    refine gt_VJ (As := [.int 4]) dX3_readTestNotNeg_57 ca_X3_107 ⟨by decide, by decide⟩ h0 hA118 rfl (Nat.le_of_ble_eq_true rfl) (Nat.le_of_ble_eq_true rfl) (by decide) (cs_X3_readNumber hG117 (oa_af h0 hA118) (fun _ _ _ _ h => h)) rfl (fun _ h => nomatch h) (fun S122 y127 hx126 hG123 hB124 hA125 => ?_)
    refine gt_pJ (id := 205) (x := y127) dX3_readTestNotNeg_60 fl_3_73 rfl rfl h0 hA125 rfl rfl rfl hG123 (fun S129 hG130 hA131 e132 f133 er134 => ?_)
    refine tt_goto (tgt := 89) dX3_readTestNotNeg_63 rfl ?_
    exact B112 S129 hG130 hA131
  · skip
    refine tt_aload_n (j := 0) dX3_readTestNotNeg_66 rfl ?_
    refine tt_bipush (v := 9) dX3_readTestNotNeg_67 rfl ?_
    refine gt_pI (id := 200) (x := 9) dX3_readTestNotNeg_69 fl_3_54 rfl rfl h0 hA108 rfl rfl rfl (gp_I hG107) (by decide) (fun h => absurd h (by decide)) (fun h => absurd h (by decide)) (fun S135 hG136 hA137 e138 f139 er140 => ?_)
    refine tt_goto (tgt := 89) dX3_readTestNotNeg_72 rfl ?_
    exact B112 S135 hG136 hA137
  · skip
    refine tt_aload_n (j := 0) dX3_readTestNotNeg_75 rfl ?_
    refine tt_bipush (v := 10) dX3_readTestNotNeg_76 rfl ?_
    refine gt_pI (id := 200) (x := 10) dX3_readTestNotNeg_78 fl_3_54 rfl rfl h0 hA108 rfl rfl rfl (gp_I hG107) (by decide) (fun h => absurd h (by decide)) (fun h => absurd h (by decide)) (fun S141 hG142 hA143 e144 f145 er146 => ?_)
    refine tt_goto (tgt := 89) dX3_readTestNotNeg_81 rfl ?_
    exact B112 S141 hG142 hA143
  · skip
    refine tt_aload_n (j := 0) dX3_readTestNotNeg_84 rfl ?_
    refine tt_iconst (v := 0) dX3_readTestNotNeg_85 rfl ?_
    refine gt_pI (id := 195) (x := 0) dX3_readTestNotNeg_86 fl_3_22 rfl rfl h0 hA108 rfl rfl rfl (gp_Ir hG107 (⟨by decide, by decide⟩ : Rg 0 0 0)) (by decide) (fun h => absurd h (by decide)) (fun h => absurd h (by decide)) (fun S147 hG148 hA149 e150 f151 er152 => ?_)
    exact B112 S147 hG148 hA149
set_option maxHeartbeats 4000000 in
theorem cs_X3_readIncDec {xi : SX} {S : Hp} {E : List Nat} {kc nc : Nat} {P : Po} {o0 : Nat} (hG : GI S E) (h0 : Oa S E 3 0 o0) (hP : ∀ r T x y, PV E [193, 195, 196, 197, 198, 200, 202] S kc nc rV ex0 [] r T x y → P r T x y) : TT xi M_X3_readIncDec 0 [(0, .ref o0)] [] S kc nc P := by
  have hA : Af E [193, 195, 196, 197, 198, 200, 202] S S := af_rf
  refine tt_aload_n (j := 0) dX3_readIncDec_0 rfl ?_
  refine gt_Vv (As := []) dX3_readIncDec_1 ca_X3_95 ⟨by decide, by decide⟩ h0 hA rfl (Nat.le_of_ble_eq_true rfl) (Nat.le_of_ble_eq_true rfl) (by decide) (cs_X3_readPlace hG (oa_af h0 hA) (fun _ _ _ _ h => h)) rfl (fun _ h => nomatch h) (fun S101 hx105 hG102 hB103 hA104 => ?_)
  refine tt_aload_n (j := 0) dX3_readIncDec_4 rfl ?_
  refine tt_aload_n (j := 0) dX3_readIncDec_5 rfl ?_
  refine tt_getI (id := 198) dX3_readIncDec_6 fl_3_98 rfl rfl (ob_af h0 hA104) ?_
  refine gt_pI (id := 202) (x := (hp_I S101 198 o0)) dX3_readIncDec_9 fl_3_64 rfl rfl h0 hA104 rfl rfl rfl (gp_I hG102) (by decide) (fun h => absurd h (by decide)) (fun h => absurd h (by decide)) (fun S106 hG107 hA108 e109 f110 er111 => ?_)
  refine tt_aload_n (j := 0) dX3_readIncDec_12 rfl ?_
  refine tt_aload_n (j := 0) dX3_readIncDec_13 rfl ?_
  refine tt_getI (id := 197) dX3_readIncDec_14 fl_3_104 rfl rfl (ob_af h0 hA108) ?_
  have B112 : ∀ (x113 : Int32), Rg 11 12 x113 → TT xi M_X3_readIncDec 27 [(0, .ref o0)] [.int x113, .ref o0] S106 kc nc P := by
    intro x113 h114
    refine gt_pI (id := 200) (x := x113) dX3_readIncDec_27 fl_3_54 rfl rfl h0 hA108 rfl rfl rfl (gp_I hG107) (by decide) (fun h => absurd h (by decide)) (fun h => absurd h (by decide)) (fun S115 hG116 hA117 e118 f119 er120 => ?_)
    refine tt_aload_n (j := 0) dX3_readIncDec_30 rfl ?_
    refine gt_gI (id := 197) (v := (hp_I S106 197 o0)) dX3_readIncDec_31 fl_3_104 rfl rfl h0 hA117 ((congrFun (congrFun e118 197) o0).trans ((congrFun (up2_ne (k := 197)) o0).trans rfl)) ?_
    refine tt_iconst (v := 1) dX3_readIncDec_34 rfl ?_
    have B121 : ∀ (S122 : Hp), GI S122 E → Af E [193, 195, 196, 197, 198, 200, 202] S S122 → TT xi M_X3_readIncDec 43 [(0, .ref o0)] [] S122 kc nc P := by
      intro S122 hG123 hA124
      exact tt_vreturn dX3_readIncDec_43 rfl (hP _ _ _ _ ⟨hG123, hA124, Or.inl ⟨_, rfl, rfl, trivial, rfl, rfl⟩⟩)
    refine tt_icmp_le (tgt := 43) dX3_readIncDec_35 rfl (fun q125 => ?_) (fun q125 => ?_)
    · skip
      have h126 : Rg (-2147483648) 1 (hp_I S106 197 o0) := rg_le_l (rg_all (hp_I S106 197 o0)) (⟨by decide, by decide⟩ : Rg 1 1 1) q125
      exact B121 S115 hG116 hA117
    · skip
      have h127 : Rg 2 2147483647 (hp_I S106 197 o0) := rg_lt_r (⟨by decide, by decide⟩ : Rg 1 1 1) (rg_all (hp_I S106 197 o0)) (nle_lt q125)
      refine tt_aload_n (j := 0) dX3_readIncDec_38 rfl ?_
      refine tt_iconst (v := 0) dX3_readIncDec_39 rfl ?_
      refine gt_pI (id := 195) (x := 0) dX3_readIncDec_40 fl_3_22 rfl rfl h0 hA117 rfl rfl rfl (gp_Ir hG116 (⟨by decide, by decide⟩ : Rg 0 0 0)) (by decide) (fun h => absurd h (by decide)) (fun h => absurd h (by decide)) (fun S128 hG129 hA130 e131 f132 er133 => ?_)
      exact B121 S128 hG129 hA130
  refine tt_if_ne (tgt := 25) dX3_readIncDec_17 rfl (fun q134 => ?_) (fun q134 => ?_)
  · skip
    refine tt_bipush (v := 12) dX3_readIncDec_25 rfl ?_
    exact B112 12 (rg_w (⟨by decide, by decide⟩ : Rg 12 12 12))
  · skip
    have h135 : Rg 0 0 (hp_I S106 197 o0) := rg_eq_l (rg_all (hp_I S106 197 o0)) (⟨by decide, by decide⟩ : Rg 0 0 0) q134
    refine tt_bipush (v := 11) dX3_readIncDec_20 rfl ?_
    refine tt_goto (tgt := 27) dX3_readIncDec_22 rfl ?_
    exact B112 11 (rg_w (⟨by decide, by decide⟩ : Rg 11 11 11))
set_option maxHeartbeats 4000000 in
theorem cs_X3_readJump {xi : SX} {S : Hp} {E : List Nat} {kc nc : Nat} {P : Po} {o0 : Nat} {x1 : Int32} {x2 : Int32} {x3 : Int32} (hG : GI S E) (h0 : Oa S E 3 0 o0) (hP : ∀ r T x y, PV E [193, 195, 200, 204] S kc nc rV ex0 [] r T x y → P r T x y) : TT xi M_X3_readJump 0 [(0, .ref o0), (1, .int x1), (2, .int x2), (3, .int x3)] [] S kc nc P := by
  have hA : Af E [193, 195, 200, 204] S S := af_rf
  refine tt_aload_n (j := 0) dX3_readJump_0 rfl ?_
  refine tt_iload_n (j := 1) dX3_readJump_1 rfl ?_
  refine gt_pI (id := 200) (x := x1) dX3_readJump_2 fl_3_54 rfl rfl h0 hA rfl rfl rfl (gp_I hG) (by decide) (fun h => absurd h (by decide)) (fun h => absurd h (by decide)) (fun S101 hG102 hA103 e104 f105 er106 => ?_)
  refine tt_aload_n (j := 0) dX3_readJump_5 rfl ?_
  refine tt_iload_n (j := 2) dX3_readJump_6 rfl ?_
  refine gt_pI (id := 204) (x := x2) dX3_readJump_7 fl_3_70 rfl rfl h0 hA103 rfl rfl rfl (gp_I hG102) (by decide) (fun h => absurd h (by decide)) (fun h => absurd h (by decide)) (fun S107 hG108 hA109 e110 f111 er112 => ?_)
  refine tt_aload_n (j := 0) dX3_readJump_10 rfl ?_
  refine tt_iload_n (j := 3) dX3_readJump_11 rfl ?_
  refine gt_VJ (As := [.int x3]) dX3_readJump_12 ca_X3_107 ⟨by decide, by decide⟩ h0 hA109 rfl (Nat.le_of_ble_eq_true rfl) (Nat.le_of_ble_eq_true rfl) (by decide) (cs_X3_readNumber hG108 (oa_af h0 hA109) (fun _ _ _ _ h => h)) rfl (fun _ h => nomatch h) (fun S113 y118 hx117 hG114 hB115 hA116 => ?_)
  refine tt_lstore (ks := [0, 1, 2, 3, 4]) (L' := [(4, .long y118), (0, .ref o0), (1, .int x1), (2, .int x2), (3, .int x3)]) dX3_readJump_15 (by decide) rfl ?_
  refine tt_aload_n (j := 1) dX3_readJump_17 rfl ?_
  refine tt_aload_n (j := 1) dX3_readJump_18 rfl ?_
  refine tt_getI (id := 193) dX3_readJump_19 fl_3_15 rfl rfl (ob_af h0 hA116) ?_
  refine tt_i2l dX3_readJump_22 ?_
  refine tt_lload (j := 0) dX3_readJump_23 rfl ?_
  refine tt_ladd dX3_readJump_25 (gt_tl (fun y120 => ?_))
  refine gt_pJ (id := 205) (x := y120) dX3_readJump_26 fl_3_73 rfl rfl h0 hA116 rfl rfl rfl hG114 (fun S121 hG122 hA123 e124 f125 er126 => ?_)
  refine tt_iload_n (j := 3) dX3_readJump_29 rfl ?_
  refine tt_bipush (v := 14) dX3_readJump_30 rfl ?_
  refine tt_iand dX3_readJump_32 ?_
  refine tt_bipush (v := 10) dX3_readJump_33 rfl ?_
  have B127 : ∀ (S128 : Hp), GI S128 E → Af E [193, 195, 200, 204] S S128 → TT xi M_X3_readJump 43 [(0, .ref o0), (1, .int x1), (2, .int x2), (3, .int x3), (4, .long y118)] [] S128 kc nc P := by
    intro S128 hG129 hA130
    exact tt_vreturn dX3_readJump_43 rfl (hP _ _ _ _ ⟨hG129, hA130, Or.inl ⟨_, rfl, rfl, trivial, rfl, rfl⟩⟩)
  refine tt_icmp_ne (tgt := 43) dX3_readJump_35 rfl (fun q131 => ?_) (fun q131 => ?_)
  · skip
    exact tt_loc (ks := [1, 2, 3, 4, 0]) rfl (B127 S121 hG122 hA123)
  · skip
    have h132 : Rg 10 10 (x2 &&& 14) := rg_eq_l (rg_and (x := x2) (⟨by decide, by decide⟩ : Rg 14 14 14)) (⟨by decide, by decide⟩ : Rg 10 10 10) q131
    refine tt_aload_n (j := 1) dX3_readJump_38 rfl ?_
    refine tt_iconst (v := 0) dX3_readJump_39 rfl ?_
    refine gt_pI (id := 195) (x := 0) dX3_readJump_40 fl_3_22 rfl rfl h0 hA123 rfl rfl rfl (gp_Ir hG122 (⟨by decide, by decide⟩ : Rg 0 0 0)) (by decide) (fun h => absurd h (by decide)) (fun h => absurd h (by decide)) (fun S133 hG134 hA135 e136 f137 er138 => ?_)
    exact tt_loc (ks := [1, 2, 3, 4, 0]) rfl (B127 S133 hG134 hA135)
set_option maxHeartbeats 4000000 in
theorem cs_X4_spanOf {xi : SX} {S : Hp} {E : List Nat} {kc nc : Nat} {P : Po} {o0 : Nat} {x1 : Int32} {x2 : Int32} (hG : GI S E) (h0 : Oa S E 4 0 o0) (hP : ∀ r T x y, PV E [9987] S kc nc (rO S E 7 0) ex0 [] r T x y → P r T x y) : TT xi M_X4_spanOf 0 [(0, .ref o0), (1, .int x1), (2, .int x2)] [] S kc nc P := by
  have hA : Af E [9987] S S := af_rf
  refine tt_aload_n (j := 0) dX4_spanOf_0 rfl ?_
  refine tt_iload_n (j := 1) dX4_spanOf_1 rfl ?_
  refine gt_VPp (As := [.int x1]) dX4_spanOf_2 ca_X4_67 ⟨by decide, by decide⟩ h0 hA rfl (Nat.le_of_ble_eq_true rfl) (Nat.le_of_ble_eq_true rfl) (by decide) (cs_X4_pointIfMade hG (oa_af h0 hA) (fun _ _ _ _ h => h)) rfl (fun _ h => nomatch h) (fun _ _ q => q) (fun hx105 => ?_) (fun b106 h107 hx105 => ?_)
  · skip
    refine tt_astore_nN (ks := [0, 1, 2, 3]) (L' := [(3, .null), (0, .ref o0), (1, .int x1), (2, .int x2)]) dX4_spanOf_5 (by decide) rfl ?_
    refine tt_aload_nN (j := 0) dX4_spanOf_6 rfl ?_
    have B108 : ∀ (S109 : Hp), GI S109 E → Af E [9987] S S109 → TT xi M_X4_spanOf 32 [(0, .ref o0), (1, .int x1), (2, .int x2)] [] S109 kc nc P := by
      intro S109 hG110 hA111
      refine tt_aload_n (j := 0) dX4_spanOf_32 rfl ?_
      obtain ⟨b112, hr113, ho114⟩ := gi_R (k := 263) hG h0 7 0
      refine gt_gR (id := 263) dX4_spanOf_33 fl_4_45 rfl rfl h0 hA111 hr113 ?_
      exact tt_areturn dX4_spanOf_36 rfl (hP _ _ _ _ ⟨hG110, hA111, Or.inl ⟨_, rfl, ⟨_, rfl, ho114⟩, trivial, rfl, rfl⟩⟩)
    refine tt_ifnonnullN dX4_spanOf_7 ?_
    refine tt_aload_n (j := 1) dX4_spanOf_10 rfl ?_
    obtain ⟨b115, hr116, ho117⟩ := gi_R (k := 263) hG h0 7 0
    refine gt_gR (id := 263) dX4_spanOf_11 fl_4_45 rfl rfl h0 hA hr116 ?_
    refine gt_Vv (As := []) dX4_spanOf_14 ca_X4_71 ⟨by decide, by decide⟩ ho117 hA rfl (Nat.le_of_ble_eq_true rfl) (Nat.le_of_ble_eq_true rfl) (by decide) (cs_X7_becomeNone hG (oa_af ho117 hA) (fun _ _ _ _ h => h)) rfl (fun _ h => nomatch h) (fun S118 hx122 hG119 hB120 hA121 => ?_)
    refine tt_goto (tgt := 32) dX4_spanOf_17 rfl ?_
    exact tt_loc (ks := [1, 2, 3]) rfl (B108 S118 hG119 hA121)
  · skip
    refine tt_astore_n (ks := [0, 1, 2, 3]) (L' := [(3, .ref b106), (0, .ref o0), (1, .int x1), (2, .int x2)]) dX4_spanOf_5 (by decide) rfl ?_
    refine tt_aload_n (j := 0) dX4_spanOf_6 rfl ?_
    have B123 : ∀ (S124 : Hp), GI S124 E → Af E [9987] S S124 → TT xi M_X4_spanOf 32 [(0, .ref o0), (1, .int x1), (2, .int x2)] [] S124 kc nc P := by
      intro S124 hG125 hA126
      refine tt_aload_n (j := 0) dX4_spanOf_32 rfl ?_
      obtain ⟨b127, hr128, ho129⟩ := gi_R (k := 263) hG h0 7 0
      refine gt_gR (id := 263) dX4_spanOf_33 fl_4_45 rfl rfl h0 hA126 hr128 ?_
      exact tt_areturn dX4_spanOf_36 rfl (hP _ _ _ _ ⟨hG125, hA126, Or.inl ⟨_, rfl, ⟨_, rfl, ho129⟩, trivial, rfl, rfl⟩⟩)
    refine tt_ifnonnull (tgt := 20) dX4_spanOf_7 rfl ?_
    refine tt_aload_n (j := 0) dX4_spanOf_20 rfl ?_
    obtain ⟨b130, hr131, ho132⟩ := gi_R (k := 320) hG h107 8 0
    refine gt_gR (id := 320) dX4_spanOf_21 fl_4_74 rfl rfl h107 hA hr131 ?_
    refine tt_iload_n (j := 3) dX4_spanOf_24 rfl ?_
    refine tt_aload_n (j := 1) dX4_spanOf_25 rfl ?_
    obtain ⟨b133, hr134, ho135⟩ := gi_R (k := 263) hG h0 7 0
    refine gt_gR (id := 263) dX4_spanOf_26 fl_4_45 rfl rfl h0 hA hr134 ?_
    refine gt_Vv (As := [.int x2, .ref b133]) dX4_spanOf_29 ca_X4_77 ⟨by decide, by decide⟩ ho132 hA rfl (Nat.le_of_ble_eq_true rfl) (Nat.le_of_ble_eq_true rfl) (by decide) (cs_X8_load hG (oa_af ho132 hA) (oa_af ho135 hA) (fun _ _ _ _ h => h)) rfl (fun _ h => nomatch h) (fun S136 hx140 hG137 hB138 hA139 => ?_)
    exact tt_loc (ks := [1, 2, 3]) rfl (B123 S136 hG137 hA139)
set_option maxHeartbeats 4000000 in
theorem cs_X4_absorb {xi : SX} {S : Hp} {E : List Nat} {kc nc : Nat} {P : Po} {o0 : Nat} {o1 : Nat} {x2 : Int32} (hG : GI S E) (h0 : Oa S E 4 0 o0) (h1 : Oa S E 8 0 o1) (h2 : Rg 0 1 x2) (hP : ∀ r T x y, PV E [515, 516, 517, 9987, 9994] S kc nc (rI 0 1) ex0 [] r T x y → P r T x y) : TT xi M_X4_absorb 0 [(0, .ref o0), (1, .ref o1), (2, .int x2)] [] S kc nc P := by
  have hA : Af E [515, 516, 517, 9987, 9994] S S := af_rf
  refine tt_iconst (v := 0) dX4_absorb_0 rfl ?_
  refine tt_istore_n (ks := [0, 1, 2, 3]) (L' := [(3, .int 0), (0, .ref o0), (1, .ref o1), (2, .int x2)]) dX4_absorb_1 (by decide) rfl ?_
  refine tt_iconst (v := 0) dX4_absorb_2 rfl ?_
  refine tt_istore (ks := [0, 1, 2, 3, 4]) (L' := [(4, .int 0), (3, .int 0), (0, .ref o0), (1, .ref o1), (2, .int x2)]) dX4_absorb_3 (by decide) rfl ?_
  have B101 : ∀ (nn : Nat) (S102 : Hp) (x105 : Int32) (x107 : Int32), (2147483648 - x107.toInt).toNat = nn → GI S102 E → Af E [515, 516, 517, 9987, 9994] S S102 → Rg 0 1 x105 → Rg 0 24 x107 → TT xi M_X4_absorb 5 [(0, .ref o0), (1, .ref o1), (2, .int x2), (3, .int x105), (4, .int x107)] [] S102 kc nc P := by
    intro nn
    induction nn using Nat.strongRecOn with
    | ind nn ihB101 =>
      intro S102 x105 x107 hmB101 hG103 hA104 h106 h108
      subst hmB101
      refine tt_iload (j := 4) dX4_absorb_5 rfl ?_
      refine tt_bipush (v := 24) dX4_absorb_7 rfl ?_
      refine tt_icmp_ge (tgt := 153) dX4_absorb_9 rfl (fun q109 => ?_) (fun q109 => ?_)
      · skip
        have h110 : Rg 24 24 x107 := rg_le_r (⟨by decide, by decide⟩ : Rg 24 24 24) h108 q109
        refine tt_aload_n (j := 1) dX4_absorb_153 rfl ?_
        refine tt_getI (id := 515) dX4_absorb_154 fl_4_166 rfl rfl (ob_af h1 hA104) ?_
        have B111 : ∀ (S112 : Hp) (x115 : Int32), GI S112 E → Af E [515, 516, 517, 9987, 9994] S S112 → Rg 0 1 x115 → TT xi M_X4_absorb 177 [(0, .ref o0), (1, .ref o1), (2, .int x2), (3, .int x115), (4, .int x107)] [] S112 kc nc P := by
          intro S112 x115 hG113 hA114 h116
          refine tt_iload_n (j := 3) dX4_absorb_177 rfl ?_
          exact tt_ireturn dX4_absorb_178 .boolean rfl (rg_nar (rg_w h116)) (hP _ _ _ _ ⟨hG113, hA114, Or.inl ⟨_, rfl, ⟨_, rfl, rg_w h116⟩, trivial, rfl, rfl⟩⟩)
        refine tt_if_eq (tgt := 177) dX4_absorb_157 rfl (fun q117 => ?_) (fun q117 => ?_)
        · skip
          have h118 : Rg 0 0 (hp_I S102 515 o1) := rg_eq_l (rg_all (hp_I S102 515 o1)) (⟨by decide, by decide⟩ : Rg 0 0 0) q117
          exact B111 S102 x105 hG103 hA104 h106
        · skip
          refine tt_aload_n (j := 1) dX4_absorb_160 rfl ?_
          refine tt_aload_n (j := 0) dX4_absorb_161 rfl ?_
          obtain ⟨b119, hr120, ho121⟩ := gi_R (k := 259) hG h0 8 0
          refine gt_gR (id := 259) dX4_absorb_162 fl_4_20 rfl rfl h0 hA104 hr120 ?_
          refine gt_VIp (As := [.ref b119]) dX4_absorb_165 ca_X4_169 ⟨by decide, by decide⟩ h1 hA104 rfl (Nat.le_of_ble_eq_true rfl) (Nat.le_of_ble_eq_true rfl) (by decide) (cs_X8_isSameRecord hG103 (oa_af h1 hA104) (oa_af ho121 hA104) (fun _ _ _ _ h => h)) rfl (fun _ h => nomatch h) (fun _ _ q => q) (fun x127 h128 hx126 => ?_)
          refine tt_if_ne (tgt := 177) dX4_absorb_168 rfl (fun q129 => ?_) (fun q129 => ?_)
          · skip
            have h130 : Rg 1 1 x127 := rg_ne_lo h128 (⟨by decide, by decide⟩ : Rg 0 0 0) q129
            exact B111 S102 x105 hG103 hA104 h106
          · skip
            have h131 : Rg 0 0 x127 := rg_eq_l h128 (⟨by decide, by decide⟩ : Rg 0 0 0) q129
            refine tt_aload_n (j := 1) dX4_absorb_171 rfl ?_
            refine gt_Vv (As := []) dX4_absorb_172 ca_X4_173 ⟨by decide, by decide⟩ h1 hA104 rfl (Nat.le_of_ble_eq_true rfl) (Nat.le_of_ble_eq_true rfl) (by decide) (cs_X8_dropRecord hG103 (oa_af h1 hA104) (fun _ _ _ _ h => h)) rfl (fun _ h => nomatch h) (fun S132 hx136 hG133 hB134 hA135 => ?_)
            refine tt_iconst (v := 1) dX4_absorb_175 rfl ?_
            refine tt_istore_n (ks := [0, 1, 2, 3, 4]) (L' := [(3, .int 1), (0, .ref o0), (1, .ref o1), (2, .int x2), (4, .int x107)]) dX4_absorb_176 (by decide) rfl ?_
            exact tt_loc (ks := [1, 2, 3, 0, 4]) rfl (B111 S132 1 hG133 hA135 (rg_w (⟨by decide, by decide⟩ : Rg 1 1 1)))
      · skip
        have h137 : Rg 0 23 x107 := rg_lt_l h108 (⟨by decide, by decide⟩ : Rg 24 24 24) (nle_lt q109)
        refine tt_aload_n (j := 1) dX4_absorb_12 rfl ?_
        refine tt_aload_n (j := 0) dX4_absorb_13 rfl ?_
        obtain ⟨b138, hr139, ho140⟩ := gi_R (k := 259) hG h0 8 0
        refine gt_gR (id := 259) dX4_absorb_14 fl_4_20 rfl rfl h0 hA104 hr139 ?_
        refine tt_iload (j := 4) dX4_absorb_17 rfl ?_
        refine gt_VIp (As := [.ref b138, .int x107]) dX4_absorb_19 ca_X4_142 ⟨by decide, by decide⟩ h1 hA104 rfl (Nat.le_of_ble_eq_true rfl) (Nat.le_of_ble_eq_true rfl) (by decide) (cs_X8_isSameSpan hG103 (oa_af h1 hA104) (oa_af ho140 hA104) (rg_w h137) (fun _ _ _ _ h => h)) rfl (fun _ h => nomatch h) (fun _ _ q => q) (fun x146 h147 hx145 => ?_)
        have B148 : ∀ (S149 : Hp) (x152 : Int32), GI S149 E → Af E [515, 516, 517, 9987, 9994] S S149 → Rg 0 1 x152 → TT xi M_X4_absorb 147 [(0, .ref o0), (1, .ref o1), (2, .int x2), (3, .int x152), (4, .int x107)] [] S149 kc nc P := by
          intro S149 x152 hG150 hA151 h153
          refine tt_iinc (j := 4) (v := (x107 + 1)) (ks := [0, 1, 2, 3, 4]) (L' := [(4, .int (x107 + 1)), (0, .ref o0), (1, .ref o1), (2, .int x2), (3, .int x152)]) dX4_absorb_147 rfl rfl (by decide) rfl ?_
          refine tt_goto (tgt := 5) dX4_absorb_150 rfl ?_
          exact tt_loc (ks := [1, 2, 3, 4, 0]) rfl (ihB101 _ (rg_up h137) S149 x152 (x107 + 1) rfl hG150 hA151 h153 (rg_w (rg_add (lo := 1) (hi := 24) h137 (⟨by decide, by decide⟩ : Rg 1 1 1))))
        refine tt_if_eq (tgt := 28) dX4_absorb_22 rfl (fun q154 => ?_) (fun q154 => ?_)
        · skip
          have h155 : Rg 0 0 x146 := rg_eq_l h147 (⟨by decide, by decide⟩ : Rg 0 0 0) q154
          refine tt_aload_n (j := 1) dX4_absorb_28 rfl ?_
          refine tt_iload (j := 4) dX4_absorb_29 rfl ?_
          refine tt_aload_n (j := 0) dX4_absorb_31 rfl ?_
          obtain ⟨b156, hr157, ho158⟩ := gi_R (k := 262) hG h0 7 0
          refine gt_gR (id := 262) dX4_absorb_32 fl_4_41 rfl rfl h0 hA104 hr157 ?_
          refine gt_Vv (As := [.int x107, .ref b156]) dX4_absorb_35 ca_X4_77 ⟨by decide, by decide⟩ h1 hA104 rfl (Nat.le_of_ble_eq_true rfl) (Nat.le_of_ble_eq_true rfl) (by decide) (cs_X8_load hG103 (oa_af h1 hA104) (oa_af ho158 hA104) (fun _ _ _ _ h => h)) rfl (fun _ h => nomatch h) (fun S159 hx163 hG160 hB161 hA162 => ?_)
          refine tt_aload_n (j := 0) dX4_absorb_38 rfl ?_
          refine gt_gR (id := 259) dX4_absorb_39 fl_4_20 rfl rfl h0 hA162 hr139 ?_
          refine tt_iload (j := 4) dX4_absorb_42 rfl ?_
          refine tt_aload_n (j := 0) dX4_absorb_44 rfl ?_
          obtain ⟨b164, hr165, ho166⟩ := gi_R (k := 263) hG h0 7 0
          refine gt_gR (id := 263) dX4_absorb_45 fl_4_45 rfl rfl h0 hA162 hr165 ?_
          refine gt_Vv (As := [.int x107, .ref b164]) dX4_absorb_48 ca_X4_77 ⟨by decide, by decide⟩ ho140 hA162 rfl (Nat.le_of_ble_eq_true rfl) (Nat.le_of_ble_eq_true rfl) (by decide) (cs_X8_load hG160 (oa_af ho140 hA162) (oa_af ho166 hA162) (fun _ _ _ _ h => h)) rfl (fun _ h => nomatch h) (fun S167 hx171 hG168 hB169 hA170 => ?_)
          refine tt_aload_n (j := 0) dX4_absorb_51 rfl ?_
          obtain ⟨b172, hr173, ho174⟩ := gi_R (k := 264) hG h0 7 0
          refine gt_gR (id := 264) dX4_absorb_52 fl_4_48 rfl rfl h0 hA170 hr173 ?_
          refine tt_aload_n (j := 0) dX4_absorb_55 rfl ?_
          refine gt_gR (id := 262) dX4_absorb_56 fl_4_41 rfl rfl h0 hA170 hr157 ?_
          refine tt_aload_n (j := 0) dX4_absorb_59 rfl ?_
          refine gt_gR (id := 263) dX4_absorb_60 fl_4_45 rfl rfl h0 hA170 hr165 ?_
          refine gt_Vv (As := [.ref b156, .ref b164]) dX4_absorb_63 ca_X4_146 ⟨by decide, by decide⟩ ho174 hA170 rfl (Nat.le_of_ble_eq_true rfl) (Nat.le_of_ble_eq_true rfl) (by decide) (cs_X7_join hG168 (oa_af ho174 hA170) (oa_af ho158 hA170) (oa_af ho166 hA170) (fun _ _ _ _ h => h)) rfl (fun _ h => nomatch h) (fun S175 hx179 hG176 hB177 hA178 => ?_)
          refine tt_iload_n (j := 2) dX4_absorb_66 rfl ?_
          have B180 : ∀ (S181 : Hp), GI S181 E → Af E [515, 516, 517, 9987, 9994] S S181 → TT xi M_X4_absorb 81 [(0, .ref o0), (1, .ref o1), (2, .int x2), (3, .int x105), (4, .int x107)] [] S181 kc nc P := by
            intro S181 hG182 hA183
            refine tt_aload_n (j := 1) dX4_absorb_81 rfl ?_
            refine tt_iload (j := 4) dX4_absorb_82 rfl ?_
            refine tt_aload_n (j := 0) dX4_absorb_84 rfl ?_
            refine gt_gR (id := 264) dX4_absorb_85 fl_4_48 rfl rfl h0 hA183 hr173 ?_
            refine gt_Vv (As := [.int x107, .ref b172]) dX4_absorb_88 ca_X4_154 ⟨by decide, by decide⟩ h1 hA183 rfl (Nat.le_of_ble_eq_true rfl) (Nat.le_of_ble_eq_true rfl) (by decide) (cs_X8_store hG182 (oa_af h1 hA183) (oa_af ho174 hA183) (fun _ _ _ _ h => h)) rfl (fun _ h => nomatch h) (fun S184 hx188 hG185 hB186 hA187 => ?_)
            refine tt_aload_n (j := 0) dX4_absorb_91 rfl ?_
            refine gt_gR (id := 264) dX4_absorb_92 fl_4_48 rfl rfl h0 hA187 hr173 ?_
            refine gt_gJ (id := 448) (v := (hp_J S184 448 b172)) dX4_absorb_95 fl_4_157 rfl rfl ho174 hA187 rfl ?_
            refine tt_aload_n (j := 0) dX4_absorb_98 rfl ?_
            refine gt_gR (id := 262) dX4_absorb_99 fl_4_41 rfl rfl h0 hA187 hr157 ?_
            refine gt_gJ (id := 448) (v := (hp_J S184 448 b156)) dX4_absorb_102 fl_4_157 rfl rfl ho158 hA187 rfl ?_
            refine tt_lcmp dX4_absorb_105 ?_
            have B189 : TT xi M_X4_absorb 145 [(0, .ref o0), (1, .ref o1), (2, .int x2), (3, .int x105), (4, .int x107)] [] S184 kc nc P := by
              refine tt_iconst (v := 1) dX4_absorb_145 rfl ?_
              refine tt_istore_n (ks := [0, 1, 2, 3, 4]) (L' := [(3, .int 1), (0, .ref o0), (1, .ref o1), (2, .int x2), (4, .int x107)]) dX4_absorb_146 (by decide) rfl ?_
              exact tt_loc (ks := [1, 2, 3, 0, 4]) rfl (B148 S184 1 hG185 hA187 (rg_w (⟨by decide, by decide⟩ : Rg 1 1 1)))
            refine tt_if_ne (tgt := 145) dX4_absorb_106 rfl (fun q190 => ?_) (fun q190 => ?_)
            · skip
              exact B189 
            · skip
              refine tt_aload_n (j := 0) dX4_absorb_109 rfl ?_
              refine gt_gR (id := 264) dX4_absorb_110 fl_4_48 rfl rfl h0 hA187 hr173 ?_
              refine gt_gJ (id := 449) (v := (hp_J S184 449 b172)) dX4_absorb_113 fl_4_160 rfl rfl ho174 hA187 rfl ?_
              refine tt_aload_n (j := 0) dX4_absorb_116 rfl ?_
              refine gt_gR (id := 262) dX4_absorb_117 fl_4_41 rfl rfl h0 hA187 hr157 ?_
              refine gt_gJ (id := 449) (v := (hp_J S184 449 b156)) dX4_absorb_120 fl_4_160 rfl rfl ho158 hA187 rfl ?_
              refine tt_lcmp dX4_absorb_123 ?_
              refine tt_if_ne (tgt := 145) dX4_absorb_124 rfl (fun q191 => ?_) (fun q191 => ?_)
              · skip
                exact B189 
              · skip
                refine tt_aload_n (j := 0) dX4_absorb_127 rfl ?_
                refine gt_gR (id := 264) dX4_absorb_128 fl_4_48 rfl rfl h0 hA187 hr173 ?_
                refine gt_gJ (id := 450) (v := (hp_J S184 450 b172)) dX4_absorb_131 fl_4_163 rfl rfl ho174 hA187 rfl ?_
                refine tt_aload_n (j := 0) dX4_absorb_134 rfl ?_
                refine gt_gR (id := 262) dX4_absorb_135 fl_4_41 rfl rfl h0 hA187 hr157 ?_
                refine gt_gJ (id := 450) (v := (hp_J S184 450 b156)) dX4_absorb_138 fl_4_163 rfl rfl ho158 hA187 rfl ?_
                refine tt_lcmp dX4_absorb_141 ?_
                refine tt_if_eq (tgt := 147) dX4_absorb_142 rfl (fun q192 => ?_) (fun q192 => ?_)
                · skip
                  exact B148 S184 x105 hG185 hA187 h106
                · skip
                  exact B189 
          refine tt_if_eq (tgt := 81) dX4_absorb_67 rfl (fun q193 => ?_) (fun q193 => ?_)
          · skip
            have h194 : Rg 0 0 x2 := rg_eq_l h2 (⟨by decide, by decide⟩ : Rg 0 0 0) q193
            exact B180 S175 hG176 hA178
          · skip
            have h195 : Rg 1 1 x2 := rg_ne_lo h2 (⟨by decide, by decide⟩ : Rg 0 0 0) q193
            refine tt_aload_n (j := 0) dX4_absorb_70 rfl ?_
            refine gt_gR (id := 264) dX4_absorb_71 fl_4_48 rfl rfl h0 hA178 hr173 ?_
            refine tt_aload_n (j := 0) dX4_absorb_74 rfl ?_
            refine gt_gR (id := 262) dX4_absorb_75 fl_4_41 rfl rfl h0 hA178 hr157 ?_
            refine gt_Vv (As := [.ref b156]) dX4_absorb_78 ca_X4_150 ⟨by decide, by decide⟩ ho174 hA178 rfl (Nat.le_of_ble_eq_true rfl) (Nat.le_of_ble_eq_true rfl) (by decide) (cs_X7_stretchFrom hG176 (oa_af ho174 hA178) (oa_af ho158 hA178) (fun _ _ _ _ h => h)) rfl (fun _ h => nomatch h) (fun S196 hx200 hG197 hB198 hA199 => ?_)
            exact B180 S196 hG197 hA199
        · skip
          have h201 : Rg 1 1 x146 := rg_ne_lo h147 (⟨by decide, by decide⟩ : Rg 0 0 0) q154
          refine tt_goto (tgt := 147) dX4_absorb_25 rfl ?_
          exact B148 S102 x105 hG103 hA104 h106
  exact tt_loc (ks := [2, 3, 4, 1, 0]) rfl (B101 _ S 0 0 rfl hG hA (rg_w (⟨by decide, by decide⟩ : Rg 0 0 0)) (rg_w (⟨by decide, by decide⟩ : Rg 0 0 0)))
set_option maxHeartbeats 4000000 in
theorem cs_X6_compute {xi : SX} {S : Hp} {E : List Nat} {kc nc : Nat} {P : Po} {o0 : Nat} (hG : GI S E) (h0 : Oa S E 6 0 o0) (hP : ∀ r T x y, PV E [389, 390, 391, 392, 393, 9993] S kc nc rV ex0 [] r T x y → P r T x y) : TT xi M_X6_compute 0 [(0, .ref o0)] [] S kc nc P := by
  have hA : Af E [389, 390, 391, 392, 393, 9993] S S := af_rf
  refine tt_aload_n (j := 0) dX6_compute_0 rfl ?_
  obtain ⟨b101, hr102, ho103⟩ := gi_R (k := 385) hG h0 3 0
  refine gt_gR (id := 385) dX6_compute_1 fl_6_26 rfl rfl h0 hA hr102 ?_
  refine tt_getI (id := 200) dX6_compute_4 fl_6_57 rfl rfl (ob_af ho103 hA) ?_
  refine tt_istore_n (ks := [0, 1]) (L' := [(1, .int (hp_I S 200 b101)), (0, .ref o0)]) dX6_compute_7 (by decide) rfl ?_
  refine tt_aload_n (j := 1) dX6_compute_8 rfl ?_
  refine tt_aload_n (j := 1) dX6_compute_9 rfl ?_
  refine tt_aload_n (j := 1) dX6_compute_10 rfl ?_
  refine gt_gR (id := 385) dX6_compute_11 fl_6_26 rfl rfl h0 hA hr102 ?_
  refine tt_getI (id := 202) dX6_compute_14 fl_6_91 rfl rfl (ob_af ho103 hA) ?_
  refine gt_VJp (As := [.int (hp_I S 202 b101)]) dX6_compute_17 ca_X6_94 ⟨by decide, by decide⟩ h0 hA rfl (Nat.le_of_ble_eq_true rfl) (Nat.le_of_ble_eq_true rfl) (by decide) (cs_X6_read hG (oa_af h0 hA) (fun _ _ _ _ h => h)) rfl (fun _ h => nomatch h) (fun _ _ q => q) (fun y109 hx108 => ?_)
  refine gt_VJp (As := [.long y109]) dX6_compute_20 ca_X6_98 ⟨by decide, by decide⟩ h0 hA rfl (Nat.le_of_ble_eq_true rfl) (Nat.le_of_ble_eq_true rfl) (by decide) (cs_X6_atWidth hG (oa_af h0 hA) (fun _ _ _ _ h => h)) rfl (fun _ h => nomatch h) (fun _ _ q => q) (fun y116 hx115 => ?_)
  refine tt_lstore_n (ks := [0, 1, 2]) (L' := [(2, .long y116), (1, .int (hp_I S 200 b101)), (0, .ref o0)]) dX6_compute_23 (by decide) rfl ?_
  refine tt_aload_n (j := 2) dX6_compute_24 rfl ?_
  refine tt_aload_n (j := 2) dX6_compute_25 rfl ?_
  refine gt_gR (id := 385) dX6_compute_26 fl_6_26 rfl rfl h0 hA hr102 ?_
  refine tt_getI (id := 203) dX6_compute_29 fl_6_102 rfl rfl (ob_af ho103 hA) ?_
  refine tt_iconst (v := (-1)) dX6_compute_32 rfl ?_
  have B118 : ∀ (y119 : Int64), TT xi M_X6_compute 57 [(0, .ref o0), (1, .int (hp_I S 200 b101)), (2, .long y116)] [.long y119, .ref o0] S kc nc P := by
    intro y119 
    refine gt_VJp (As := [.long y119]) dX6_compute_57 ca_X6_98 ⟨by decide, by decide⟩ h0 hA rfl (Nat.le_of_ble_eq_true rfl) (Nat.le_of_ble_eq_true rfl) (by decide) (cs_X6_atWidth hG (oa_af h0 hA) (fun _ _ _ _ h => h)) rfl (fun _ h => nomatch h) (fun _ _ q => q) (fun y125 hx124 => ?_)
    refine tt_lstore (ks := [0, 1, 2, 3]) (L' := [(4, .long y125), (0, .ref o0), (1, .int (hp_I S 200 b101)), (2, .long y116)]) dX6_compute_60 (by decide) rfl ?_
    refine tt_iload_n (j := 2) dX6_compute_62 rfl ?_
    have B127 : ∀ (S128 : Hp), GI S128 E → Af E [389, 390, 391, 392, 393, 9993] S S128 → TT xi M_X6_compute 343 [(0, .ref o0), (1, .int (hp_I S 200 b101)), (2, .long y116), (4, .long y125)] [] S128 kc nc P := by
      intro S128 hG129 hA130
      exact tt_vreturn dX6_compute_343 rfl (hP _ _ _ _ ⟨hG129, hA130, Or.inl ⟨_, rfl, rfl, trivial, rfl, rfl⟩⟩)
    refine gt_ts [152, 166, 180, 191, 204, 227, 242, 257, 272, 284, 296, 307, 337] dX6_compute_63 (by decide) (by decide) (fa_cons ?_ (fa_cons ?_ (fa_cons ?_ (fa_cons ?_ (fa_cons ?_ (fa_cons ?_ (fa_cons ?_ (fa_cons ?_ (fa_cons ?_ (fa_cons ?_ (fa_cons ?_ (fa_cons ?_ (fa_cons ?_ fa_nil)))))))))))))
    · skip
      refine tt_aload_n (j := 1) dX6_compute_152 rfl ?_
      refine tt_aload_n (j := 1) dX6_compute_153 rfl ?_
      refine tt_lload_n (j := 3) dX6_compute_154 rfl ?_
      refine tt_lload (j := 0) dX6_compute_155 rfl ?_
      refine gt_VJ (As := [.long y116, .long y125]) dX6_compute_157 ca_X6_105 ⟨by decide, by decide⟩ h0 hA rfl (Nat.le_of_ble_eq_true rfl) (Nat.le_of_ble_eq_true rfl) (by decide) (cs_X6_sum hG (oa_af h0 hA) (fun _ _ _ _ h => h)) rfl (fun _ h => nomatch h) (fun S131 y136 hx135 hG132 hB133 hA134 => ?_)
      refine gt_Vv (As := [.long y136]) dX6_compute_160 ca_X6_109 ⟨by decide, by decide⟩ h0 hA134 rfl (Nat.le_of_ble_eq_true rfl) (Nat.le_of_ble_eq_true rfl) (by decide) (cs_X6_write hG132 (oa_af h0 hA134) (fun _ _ _ _ h => h)) rfl (fun _ h => nomatch h) (fun S138 hx142 hG139 hB140 hA141 => ?_)
      refine tt_goto (tgt := 343) dX6_compute_163 rfl ?_
      exact tt_loc (ks := [1, 2, 3, 0]) rfl (B127 S138 hG139 hA141)
    · skip
      refine tt_aload_n (j := 1) dX6_compute_166 rfl ?_
      refine tt_aload_n (j := 1) dX6_compute_167 rfl ?_
      refine tt_lload_n (j := 3) dX6_compute_168 rfl ?_
      refine tt_lload (j := 0) dX6_compute_169 rfl ?_
      refine gt_VJ (As := [.long y116, .long y125]) dX6_compute_171 ca_X6_112 ⟨by decide, by decide⟩ h0 hA rfl (Nat.le_of_ble_eq_true rfl) (Nat.le_of_ble_eq_true rfl) (by decide) (cs_X6_difference hG (oa_af h0 hA) (fun _ _ _ _ h => h)) rfl (fun _ h => nomatch h) (fun S143 y148 hx147 hG144 hB145 hA146 => ?_)
      refine gt_Vv (As := [.long y148]) dX6_compute_174 ca_X6_109 ⟨by decide, by decide⟩ h0 hA146 rfl (Nat.le_of_ble_eq_true rfl) (Nat.le_of_ble_eq_true rfl) (by decide) (cs_X6_write hG144 (oa_af h0 hA146) (fun _ _ _ _ h => h)) rfl (fun _ h => nomatch h) (fun S150 hx154 hG151 hB152 hA153 => ?_)
      refine tt_goto (tgt := 343) dX6_compute_177 rfl ?_
      exact tt_loc (ks := [1, 2, 3, 0]) rfl (B127 S150 hG151 hA153)
    · skip
      refine tt_aload_n (j := 1) dX6_compute_180 rfl ?_
      refine tt_lload_n (j := 3) dX6_compute_181 rfl ?_
      refine tt_lload (j := 0) dX6_compute_182 rfl ?_
      refine gt_VJ (As := [.long y116, .long y125]) dX6_compute_184 ca_X6_112 ⟨by decide, by decide⟩ h0 hA rfl (Nat.le_of_ble_eq_true rfl) (Nat.le_of_ble_eq_true rfl) (by decide) (cs_X6_difference hG (oa_af h0 hA) (fun _ _ _ _ h => h)) rfl (fun _ h => nomatch h) (fun S155 y160 hx159 hG156 hB157 hA158 => ?_)
      refine tt_pop2_2 dX6_compute_187 rfl ?_
      refine tt_goto (tgt := 343) dX6_compute_188 rfl ?_
      exact tt_loc (ks := [1, 2, 3, 0]) rfl (B127 S155 hG156 hA158)
    · skip
      refine tt_aload_n (j := 1) dX6_compute_191 rfl ?_
      refine tt_aload_n (j := 1) dX6_compute_192 rfl ?_
      refine tt_lconst (v := 0) dX6_compute_193 rfl ?_
      refine tt_lload_n (j := 3) dX6_compute_194 rfl ?_
      refine gt_VJ (As := [.long 0, .long y116]) dX6_compute_195 ca_X6_112 ⟨by decide, by decide⟩ h0 hA rfl (Nat.le_of_ble_eq_true rfl) (Nat.le_of_ble_eq_true rfl) (by decide) (cs_X6_difference hG (oa_af h0 hA) (fun _ _ _ _ h => h)) rfl (fun _ h => nomatch h) (fun S162 y167 hx166 hG163 hB164 hA165 => ?_)
      refine gt_Vv (As := [.long y167]) dX6_compute_198 ca_X6_109 ⟨by decide, by decide⟩ h0 hA165 rfl (Nat.le_of_ble_eq_true rfl) (Nat.le_of_ble_eq_true rfl) (by decide) (cs_X6_write hG163 (oa_af h0 hA165) (fun _ _ _ _ h => h)) rfl (fun _ h => nomatch h) (fun S169 hx173 hG170 hB171 hA172 => ?_)
      refine tt_goto (tgt := 343) dX6_compute_201 rfl ?_
      exact tt_loc (ks := [1, 2, 3, 0]) rfl (B127 S169 hG170 hA172)
    · skip
      refine tt_aload_n (j := 1) dX6_compute_204 rfl ?_
      refine tt_aload_n (j := 1) dX6_compute_205 rfl ?_
      refine tt_lload_n (j := 3) dX6_compute_206 rfl ?_
      refine tt_iload_n (j := 2) dX6_compute_207 rfl ?_
      refine tt_bipush (v := 11) dX6_compute_208 rfl ?_
      have B174 : ∀ (x175 : Int32), Rg 0 1 x175 → TT xi M_X6_compute 218 [(0, .ref o0), (1, .int (hp_I S 200 b101)), (2, .long y116), (4, .long y125)] [.int x175, .long y116, .ref o0, .ref o0] S kc nc P := by
        intro x175 h176
        refine gt_VJ (As := [.long y116, .int x175]) dX6_compute_218 ca_X6_115 ⟨by decide, by decide⟩ h0 hA rfl (Nat.le_of_ble_eq_true rfl) (Nat.le_of_ble_eq_true rfl) (by decide) (cs_X6_nextTo hG (oa_af h0 hA) (rg_w h176) (fun _ _ _ _ h => h)) rfl (fun _ h => nomatch h) (fun S177 y182 hx181 hG178 hB179 hA180 => ?_)
        refine gt_Vv (As := [.long y182]) dX6_compute_221 ca_X6_109 ⟨by decide, by decide⟩ h0 hA180 rfl (Nat.le_of_ble_eq_true rfl) (Nat.le_of_ble_eq_true rfl) (by decide) (cs_X6_write hG178 (oa_af h0 hA180) (fun _ _ _ _ h => h)) rfl (fun _ h => nomatch h) (fun S184 hx188 hG185 hB186 hA187 => ?_)
        refine tt_goto (tgt := 343) dX6_compute_224 rfl ?_
        exact B127 S184 hG185 hA187
      refine tt_icmp_ne (tgt := 217) dX6_compute_210 rfl (fun q189 => ?_) (fun q189 => ?_)
      · skip
        refine tt_iconst (v := 0) dX6_compute_217 rfl ?_
        exact tt_loc (ks := [1, 2, 3, 0]) rfl (B174 0 (rg_w (⟨by decide, by decide⟩ : Rg 0 0 0)))
      · skip
        have h190 : Rg 11 11 (hp_I S 200 b101) := rg_eq_l (rg_all (hp_I S 200 b101)) (⟨by decide, by decide⟩ : Rg 11 11 11) q189
        refine tt_iconst (v := 1) dX6_compute_213 rfl ?_
        refine tt_goto (tgt := 218) dX6_compute_214 rfl ?_
        exact tt_loc (ks := [1, 2, 3, 0]) rfl (B174 1 (rg_w (⟨by decide, by decide⟩ : Rg 1 1 1)))
    · skip
      refine tt_aload_n (j := 1) dX6_compute_227 rfl ?_
      refine tt_aload_n (j := 1) dX6_compute_228 rfl ?_
      refine tt_lload_n (j := 3) dX6_compute_229 rfl ?_
      refine tt_lload (j := 0) dX6_compute_230 rfl ?_
      refine tt_land dX6_compute_232 (gt_tl (fun y191 => ?_))
      refine gt_VJ (As := [.long y191]) dX6_compute_233 ca_X6_119 ⟨by decide, by decide⟩ h0 hA rfl (Nat.le_of_ble_eq_true rfl) (Nat.le_of_ble_eq_true rfl) (by decide) (cs_X6_noteBits hG (oa_af h0 hA) (fun _ _ _ _ h => h)) rfl (fun _ h => nomatch h) (fun S192 y197 hx196 hG193 hB194 hA195 => ?_)
      refine gt_Vv (As := [.long y197]) dX6_compute_236 ca_X6_109 ⟨by decide, by decide⟩ h0 hA195 rfl (Nat.le_of_ble_eq_true rfl) (Nat.le_of_ble_eq_true rfl) (by decide) (cs_X6_write hG193 (oa_af h0 hA195) (fun _ _ _ _ h => h)) rfl (fun _ h => nomatch h) (fun S199 hx203 hG200 hB201 hA202 => ?_)
      refine tt_goto (tgt := 343) dX6_compute_239 rfl ?_
      exact tt_loc (ks := [1, 2, 3, 0]) rfl (B127 S199 hG200 hA202)
    · skip
      refine tt_aload_n (j := 1) dX6_compute_242 rfl ?_
      refine tt_aload_n (j := 1) dX6_compute_243 rfl ?_
      refine tt_lload_n (j := 3) dX6_compute_244 rfl ?_
      refine tt_lload (j := 0) dX6_compute_245 rfl ?_
      refine tt_lor dX6_compute_247 (gt_tl (fun y204 => ?_))
      refine gt_VJ (As := [.long y204]) dX6_compute_248 ca_X6_119 ⟨by decide, by decide⟩ h0 hA rfl (Nat.le_of_ble_eq_true rfl) (Nat.le_of_ble_eq_true rfl) (by decide) (cs_X6_noteBits hG (oa_af h0 hA) (fun _ _ _ _ h => h)) rfl (fun _ h => nomatch h) (fun S205 y210 hx209 hG206 hB207 hA208 => ?_)
      refine gt_Vv (As := [.long y210]) dX6_compute_251 ca_X6_109 ⟨by decide, by decide⟩ h0 hA208 rfl (Nat.le_of_ble_eq_true rfl) (Nat.le_of_ble_eq_true rfl) (by decide) (cs_X6_write hG206 (oa_af h0 hA208) (fun _ _ _ _ h => h)) rfl (fun _ h => nomatch h) (fun S212 hx216 hG213 hB214 hA215 => ?_)
      refine tt_goto (tgt := 343) dX6_compute_254 rfl ?_
      exact tt_loc (ks := [1, 2, 3, 0]) rfl (B127 S212 hG213 hA215)
    · skip
      refine tt_aload_n (j := 1) dX6_compute_257 rfl ?_
      refine tt_aload_n (j := 1) dX6_compute_258 rfl ?_
      refine tt_lload_n (j := 3) dX6_compute_259 rfl ?_
      refine tt_lload (j := 0) dX6_compute_260 rfl ?_
      refine tt_lxor dX6_compute_262 (gt_tl (fun y217 => ?_))
      refine gt_VJ (As := [.long y217]) dX6_compute_263 ca_X6_119 ⟨by decide, by decide⟩ h0 hA rfl (Nat.le_of_ble_eq_true rfl) (Nat.le_of_ble_eq_true rfl) (by decide) (cs_X6_noteBits hG (oa_af h0 hA) (fun _ _ _ _ h => h)) rfl (fun _ h => nomatch h) (fun S218 y223 hx222 hG219 hB220 hA221 => ?_)
      refine gt_Vv (As := [.long y223]) dX6_compute_266 ca_X6_109 ⟨by decide, by decide⟩ h0 hA221 rfl (Nat.le_of_ble_eq_true rfl) (Nat.le_of_ble_eq_true rfl) (by decide) (cs_X6_write hG219 (oa_af h0 hA221) (fun _ _ _ _ h => h)) rfl (fun _ h => nomatch h) (fun S225 hx229 hG226 hB227 hA228 => ?_)
      refine tt_goto (tgt := 343) dX6_compute_269 rfl ?_
      exact tt_loc (ks := [1, 2, 3, 0]) rfl (B127 S225 hG226 hA228)
    · skip
      refine tt_aload_n (j := 1) dX6_compute_272 rfl ?_
      refine tt_lload_n (j := 3) dX6_compute_273 rfl ?_
      refine tt_lload (j := 0) dX6_compute_274 rfl ?_
      refine tt_land dX6_compute_276 (gt_tl (fun y230 => ?_))
      refine gt_VJ (As := [.long y230]) dX6_compute_277 ca_X6_119 ⟨by decide, by decide⟩ h0 hA rfl (Nat.le_of_ble_eq_true rfl) (Nat.le_of_ble_eq_true rfl) (by decide) (cs_X6_noteBits hG (oa_af h0 hA) (fun _ _ _ _ h => h)) rfl (fun _ h => nomatch h) (fun S231 y236 hx235 hG232 hB233 hA234 => ?_)
      refine tt_pop2_2 dX6_compute_280 rfl ?_
      refine tt_goto (tgt := 343) dX6_compute_281 rfl ?_
      exact tt_loc (ks := [1, 2, 3, 0]) rfl (B127 S231 hG232 hA234)
    · skip
      refine tt_aload_n (j := 1) dX6_compute_284 rfl ?_
      refine tt_lload_n (j := 3) dX6_compute_285 rfl ?_
      refine tt_ldc2 (v := (-1)) dX6_compute_286 kl_6_122 ?_
      refine tt_lxor dX6_compute_289 (gt_tl (fun y238 => ?_))
      refine gt_Vv (As := [.long y238]) dX6_compute_290 ca_X6_109 ⟨by decide, by decide⟩ h0 hA rfl (Nat.le_of_ble_eq_true rfl) (Nat.le_of_ble_eq_true rfl) (by decide) (cs_X6_write hG (oa_af h0 hA) (fun _ _ _ _ h => h)) rfl (fun _ h => nomatch h) (fun S239 hx243 hG240 hB241 hA242 => ?_)
      refine tt_goto (tgt := 343) dX6_compute_293 rfl ?_
      exact tt_loc (ks := [1, 2, 3, 0]) rfl (B127 S239 hG240 hA242)
    · skip
      refine tt_aload_n (j := 1) dX6_compute_296 rfl ?_
      refine tt_lload (j := 0) dX6_compute_297 rfl ?_
      refine tt_l2i dX6_compute_299 (gt_ti (fun x244 => ?_))
      refine tt_i2l dX6_compute_300 ?_
      refine gt_Vv (As := [.long (x244 : Int32).toInt64]) dX6_compute_301 ca_X6_109 ⟨by decide, by decide⟩ h0 hA rfl (Nat.le_of_ble_eq_true rfl) (Nat.le_of_ble_eq_true rfl) (by decide) (cs_X6_write hG (oa_af h0 hA) (fun _ _ _ _ h => h)) rfl (fun _ h => nomatch h) (fun S245 hx249 hG246 hB247 hA248 => ?_)
      refine tt_goto (tgt := 343) dX6_compute_304 rfl ?_
      exact tt_loc (ks := [1, 2, 3, 0]) rfl (B127 S245 hG246 hA248)
    · skip
      refine tt_aload_n (j := 1) dX6_compute_307 rfl ?_
      refine tt_iconst (v := 0) dX6_compute_308 rfl ?_
      refine gt_pI (id := 389) (x := 0) dX6_compute_309 fl_6_40 rfl rfl h0 hA rfl rfl rfl (gp_Ir hG (⟨by decide, by decide⟩ : Rg 0 0 0)) (by decide) (fun h => absurd h (by decide)) (fun h => absurd h (by decide)) (fun S250 hG251 hA252 e253 f254 er255 => ?_)
      refine tt_aload_n (j := 1) dX6_compute_312 rfl ?_
      refine tt_iload_n (j := 2) dX6_compute_313 rfl ?_
      refine tt_bipush (v := 17) dX6_compute_314 rfl ?_
      have B256 : ∀ (y257 : Int64), TT xi M_X6_compute 331 [(0, .ref o0), (1, .int (hp_I S 200 b101)), (2, .long y116), (4, .long y125)] [.long y257, .ref o0] S250 kc nc P := by
        intro y257 
        refine gt_Vv (As := [.long y257]) dX6_compute_331 ca_X6_109 ⟨by decide, by decide⟩ h0 hA252 rfl (Nat.le_of_ble_eq_true rfl) (Nat.le_of_ble_eq_true rfl) (by decide) (cs_X6_write hG251 (oa_af h0 hA252) (fun _ _ _ _ h => h)) rfl (fun _ h => nomatch h) (fun S258 hx262 hG259 hB260 hA261 => ?_)
        refine tt_goto (tgt := 343) dX6_compute_334 rfl ?_
        exact B127 S258 hG259 hA261
      refine tt_icmp_ne (tgt := 326) dX6_compute_316 rfl (fun q263 => ?_) (fun q263 => ?_)
      · skip
        refine tt_aload_n (j := 1) dX6_compute_326 rfl ?_
        refine tt_lload_n (j := 3) dX6_compute_327 rfl ?_
        refine gt_VJp (As := [.long y116]) dX6_compute_328 ca_X6_124 ⟨by decide, by decide⟩ h0 hA252 rfl (Nat.le_of_ble_eq_true rfl) (Nat.le_of_ble_eq_true rfl) (by decide) (cs_X6_shifted hG251 (oa_af h0 hA252) (fun _ _ _ _ h => h)) rfl (fun _ h => nomatch h) (fun _ _ q => q) (fun y269 hx268 => ?_)
        exact tt_loc (ks := [1, 2, 3, 0]) rfl (B256 y269)
      · skip
        have h271 : Rg 17 17 (hp_I S 200 b101) := rg_eq_l (rg_all (hp_I S 200 b101)) (⟨by decide, by decide⟩ : Rg 17 17 17) q263
        refine tt_lload_n (j := 3) dX6_compute_319 rfl ?_
        refine tt_lload (j := 0) dX6_compute_320 rfl ?_
        refine tt_lmul dX6_compute_322 (gt_tl (fun y272 => ?_))
        refine tt_goto (tgt := 331) dX6_compute_323 rfl ?_
        exact tt_loc (ks := [1, 2, 3, 0]) rfl (B256 y272)
    · skip
      refine tt_aload_n (j := 1) dX6_compute_337 rfl ?_
      refine tt_lload (j := 0) dX6_compute_338 rfl ?_
      refine gt_Vv (As := [.long y125]) dX6_compute_340 ca_X6_109 ⟨by decide, by decide⟩ h0 hA rfl (Nat.le_of_ble_eq_true rfl) (Nat.le_of_ble_eq_true rfl) (by decide) (cs_X6_write hG (oa_af h0 hA) (fun _ _ _ _ h => h)) rfl (fun _ h => nomatch h) (fun S273 hx277 hG274 hB275 hA276 => ?_)
      exact tt_loc (ks := [1, 2, 3, 0]) rfl (B127 S273 hG274 hA276)
  refine tt_icmp_ne (tgt := 46) dX6_compute_33 rfl (fun q278 => ?_) (fun q278 => ?_)
  · skip
    refine tt_aload_n (j := 2) dX6_compute_46 rfl ?_
    refine tt_aload_n (j := 2) dX6_compute_47 rfl ?_
    refine gt_gR (id := 385) dX6_compute_48 fl_6_26 rfl rfl h0 hA hr102 ?_
    refine tt_getI (id := 203) dX6_compute_51 fl_6_102 rfl rfl (ob_af ho103 hA) ?_
    refine gt_VJp (As := [.int (hp_I S 203 b101)]) dX6_compute_54 ca_X6_94 ⟨by decide, by decide⟩ h0 hA rfl (Nat.le_of_ble_eq_true rfl) (Nat.le_of_ble_eq_true rfl) (by decide) (cs_X6_read hG (oa_af h0 hA) (fun _ _ _ _ h => h)) rfl (fun _ h => nomatch h) (fun _ _ q => q) (fun y284 hx283 => ?_)
    exact tt_loc (ks := [2, 1, 0]) rfl (B118 y284)
  · skip
    have h286 : Rg (-1) (-1) (hp_I S 203 b101) := rg_eq_l (rg_all (hp_I S 203 b101)) (⟨by decide, by decide⟩ : Rg (-1) (-1) (-1)) q278
    refine tt_aload_n (j := 2) dX6_compute_36 rfl ?_
    refine gt_gR (id := 385) dX6_compute_37 fl_6_26 rfl rfl h0 hA hr102 ?_
    refine gt_gJ (id := 205) (v := (hp_J S 205 b101)) dX6_compute_40 fl_6_60 rfl rfl ho103 hA rfl ?_
    refine tt_goto (tgt := 57) dX6_compute_43 rfl ?_
    exact tt_loc (ks := [2, 1, 0]) rfl (B118 (hp_J S 205 b101))
set_option maxHeartbeats 4000000 in
theorem cs_X7_mix {xi : SX} {S : Hp} {E : List Nat} {kc nc : Nat} {P : Po} {o0 : Nat} {x1 : Int32} {o2 : Nat} {o3 : Nat} (hG : GI S E) (h0 : Oa S E 7 0 o0) (h1 : Rg 0 1 x1) (h2 : Oa S E 7 0 o2) (h3 : Oa S E 7 0 o3) (hP : ∀ r T x y, PV E [9987] S kc nc rV ex0 [] r T x y → P r T x y) : TT xi M_X7_mix 0 [(0, .ref o0), (1, .int x1), (2, .ref o2), (3, .ref o3)] [] S kc nc P := by
  have hA : Af E [9987] S S := af_rf
  refine tt_aload_n (j := 2) dX7_mix_0 rfl ?_
  refine gt_VIp (As := []) dX7_mix_1 ca_X7_58 ⟨by decide, by decide⟩ h2 hA rfl (Nat.le_of_ble_eq_true rfl) (Nat.le_of_ble_eq_true rfl) (by decide) (cs_X7_isSingle hG (oa_af h2 hA) (fun _ _ _ _ h => h)) rfl (fun _ h => nomatch h) (fun _ _ q => q) (fun x106 h107 hx105 => ?_)
  have B108 : ∀ (S109 : Hp), GI S109 E → Af E [9987] S S109 → TT xi M_X7_mix 122 [(0, .ref o0), (1, .int x1), (2, .ref o2), (3, .ref o3)] [] S109 kc nc P := by
    intro S109 hG110 hA111
    exact tt_vreturn dX7_mix_122 rfl (hP _ _ _ _ ⟨hG110, hA111, Or.inl ⟨_, rfl, rfl, trivial, rfl, rfl⟩⟩)
  have B112 : TT xi M_X7_mix 53 [(0, .ref o0), (1, .int x1), (2, .ref o2), (3, .ref o3)] [] S kc nc P := by
    refine tt_aload_n (j := 2) dX7_mix_53 rfl ?_
    refine gt_VIp (As := []) dX7_mix_54 ca_X7_86 ⟨by decide, by decide⟩ h2 hA rfl (Nat.le_of_ble_eq_true rfl) (Nat.le_of_ble_eq_true rfl) (by decide) (cs_X7_isNatural hG (oa_af h2 hA) (fun _ _ _ _ h => h)) rfl (fun _ h => nomatch h) (fun _ _ q => q) (fun x118 h119 hx117 => ?_)
    have B120 : TT xi M_X7_mix 118 [(0, .ref o0), (1, .int x1), (2, .ref o2), (3, .ref o3)] [] S kc nc P := by
      refine tt_aload_n (j := 0) dX7_mix_118 rfl ?_
      refine gt_Vv (As := []) dX7_mix_119 ca_X7_33 ⟨by decide, by decide⟩ h0 hA rfl (Nat.le_of_ble_eq_true rfl) (Nat.le_of_ble_eq_true rfl) (by decide) (cs_X7_becomeAny hG (oa_af h0 hA) (fun _ _ _ _ h => h)) rfl (fun _ h => nomatch h) (fun S121 hx125 hG122 hB123 hA124 => ?_)
      exact B108 S121 hG122 hA124
    refine tt_if_eq (tgt := 118) dX7_mix_57 rfl (fun q126 => ?_) (fun q126 => ?_)
    · skip
      have h127 : Rg 0 0 x118 := rg_eq_l h119 (⟨by decide, by decide⟩ : Rg 0 0 0) q126
      exact B120 
    · skip
      have h128 : Rg 1 1 x118 := rg_ne_lo h119 (⟨by decide, by decide⟩ : Rg 0 0 0) q126
      refine tt_aload_n (j := 3) dX7_mix_60 rfl ?_
      refine gt_VIp (As := []) dX7_mix_61 ca_X7_86 ⟨by decide, by decide⟩ h3 hA rfl (Nat.le_of_ble_eq_true rfl) (Nat.le_of_ble_eq_true rfl) (by decide) (cs_X7_isNatural hG (oa_af h3 hA) (fun _ _ _ _ h => h)) rfl (fun _ h => nomatch h) (fun _ _ q => q) (fun x134 h135 hx133 => ?_)
      refine tt_if_eq (tgt := 118) dX7_mix_64 rfl (fun q136 => ?_) (fun q136 => ?_)
      · skip
        have h137 : Rg 0 0 x134 := rg_eq_l h135 (⟨by decide, by decide⟩ : Rg 0 0 0) q136
        exact B120 
      · skip
        have h138 : Rg 1 1 x134 := rg_ne_lo h135 (⟨by decide, by decide⟩ : Rg 0 0 0) q136
        refine tt_aload_n (j := 2) dX7_mix_67 rfl ?_
        refine gt_gJ (id := 449) (v := (hp_J S 449 o2)) dX7_mix_68 fl_7_26 rfl rfl h2 hA rfl ?_
        refine tt_aload_n (j := 3) dX7_mix_71 rfl ?_
        refine gt_gJ (id := 449) (v := (hp_J S 449 o3)) dX7_mix_72 fl_7_26 rfl rfl h3 hA rfl ?_
        refine gt_SJp (As := [.long (hp_J S 449 o2), .long (hp_J S 449 o3)]) dX7_mix_75 ca_X7_45 ⟨by decide, by decide⟩ hA (Nat.le_of_ble_eq_true rfl) (Nat.le_of_ble_eq_true rfl) (by decide) (cs_J9_max_f86c9 hG  (fun _ _ _ _ h => h)) rfl (fun _ h => nomatch h) (fun _ _ q => q) (fun y144 hx143 => ?_)
        refine gt_SJp (As := [.long y144]) dX7_mix_78 ca_X7_108 ⟨by decide, by decide⟩ hA (Nat.le_of_ble_eq_true rfl) (Nat.le_of_ble_eq_true rfl) (by decide) (cs_J13_highestOneBit_067f4 hG  (fun _ _ _ _ h => h)) rfl (fun _ h => nomatch h) (fun _ _ q => q) (fun y151 hx150 => ?_)
        refine tt_lstore (ks := [0, 1, 2, 3, 4]) (L' := [(4, .long y151), (0, .ref o0), (1, .int x1), (2, .ref o2), (3, .ref o3)]) dX7_mix_81 (by decide) rfl ?_
        refine tt_aload_n (j := 1) dX7_mix_83 rfl ?_
        refine tt_iload_n (j := 2) dX7_mix_84 rfl ?_
        have B153 : ∀ (y154 : Int64), TT xi M_X7_mix 103 [(0, .ref o0), (1, .int x1), (2, .ref o2), (3, .ref o3), (4, .long y151)] [.long y154, .ref o0] S kc nc P := by
          intro y154 
          refine tt_ldc2 (v := 2) dX7_mix_103 kl_7_111 ?_
          refine tt_lload (j := 4) dX7_mix_106 rfl ?_
          refine tt_lmul dX7_mix_108 (gt_tl (fun y155 => ?_))
          refine tt_lconst (v := 1) dX7_mix_109 rfl ?_
          refine tt_lsub dX7_mix_110 (gt_tl (fun y156 => ?_))
          refine tt_lconst (v := 1) dX7_mix_111 rfl ?_
          refine gt_Vv (As := [.long y154, .long y156, .long 1]) dX7_mix_112 ca_X7_48 ⟨by decide, by decide⟩ h0 hA rfl (Nat.le_of_ble_eq_true rfl) (Nat.le_of_ble_eq_true rfl) (by decide) (cs_X7_become hG (oa_af h0 hA) (fun _ _ _ _ h => h)) rfl (fun _ h => nomatch h) (fun S157 hx161 hG158 hB159 hA160 => ?_)
          refine tt_goto (tgt := 122) dX7_mix_115 rfl ?_
          exact tt_loc (ks := [0, 1, 2, 3]) rfl (B108 S157 hG158 hA160)
        refine tt_if_eq (tgt := 102) dX7_mix_85 rfl (fun q162 => ?_) (fun q162 => ?_)
        · skip
          have h163 : Rg 0 0 x1 := rg_eq_l h1 (⟨by decide, by decide⟩ : Rg 0 0 0) q162
          refine tt_lconst (v := 0) dX7_mix_102 rfl ?_
          exact tt_loc (ks := [1, 2, 3, 4, 0]) rfl (B153 0)
        · skip
          have h164 : Rg 1 1 x1 := rg_ne_lo h1 (⟨by decide, by decide⟩ : Rg 0 0 0) q162
          refine tt_aload_n (j := 3) dX7_mix_88 rfl ?_
          refine gt_gJ (id := 448) (v := (hp_J S 448 o2)) dX7_mix_89 fl_7_23 rfl rfl h2 hA rfl ?_
          refine tt_aload_n (j := 4) dX7_mix_92 rfl ?_
          refine gt_gJ (id := 448) (v := (hp_J S 448 o3)) dX7_mix_93 fl_7_23 rfl rfl h3 hA rfl ?_
          refine gt_SJp (As := [.long (hp_J S 448 o2), .long (hp_J S 448 o3)]) dX7_mix_96 ca_X7_45 ⟨by decide, by decide⟩ hA (Nat.le_of_ble_eq_true rfl) (Nat.le_of_ble_eq_true rfl) (by decide) (cs_J9_max_f86c9 hG  (fun _ _ _ _ h => h)) rfl (fun _ h => nomatch h) (fun _ _ q => q) (fun y170 hx169 => ?_)
          refine tt_goto (tgt := 103) dX7_mix_99 rfl ?_
          exact tt_loc (ks := [1, 2, 3, 4, 0]) rfl (B153 y170)
  refine tt_if_eq (tgt := 53) dX7_mix_4 rfl (fun q172 => ?_) (fun q172 => ?_)
  · skip
    have h173 : Rg 0 0 x106 := rg_eq_l h107 (⟨by decide, by decide⟩ : Rg 0 0 0) q172
    exact B112 
  · skip
    have h174 : Rg 1 1 x106 := rg_ne_lo h107 (⟨by decide, by decide⟩ : Rg 0 0 0) q172
    refine tt_aload_n (j := 3) dX7_mix_7 rfl ?_
    refine gt_VIp (As := []) dX7_mix_8 ca_X7_58 ⟨by decide, by decide⟩ h3 hA rfl (Nat.le_of_ble_eq_true rfl) (Nat.le_of_ble_eq_true rfl) (by decide) (cs_X7_isSingle hG (oa_af h3 hA) (fun _ _ _ _ h => h)) rfl (fun _ h => nomatch h) (fun _ _ q => q) (fun x180 h181 hx179 => ?_)
    refine tt_if_eq (tgt := 53) dX7_mix_11 rfl (fun q182 => ?_) (fun q182 => ?_)
    · skip
      have h183 : Rg 0 0 x180 := rg_eq_l h181 (⟨by decide, by decide⟩ : Rg 0 0 0) q182
      exact B112 
    · skip
      have h184 : Rg 1 1 x180 := rg_ne_lo h181 (⟨by decide, by decide⟩ : Rg 0 0 0) q182
      refine tt_iload_n (j := 1) dX7_mix_14 rfl ?_
      have B185 : ∀ (y186 : Int64), TT xi M_X7_mix 39 [(0, .ref o0), (1, .int x1), (2, .ref o2), (3, .ref o3)] [.long y186] S kc nc P := by
        intro y186 
        refine tt_lstore (ks := [0, 1, 2, 3, 4]) (L' := [(4, .long y186), (0, .ref o0), (1, .int x1), (2, .ref o2), (3, .ref o3)]) dX7_mix_39 (by decide) rfl ?_
        refine tt_aload_n (j := 1) dX7_mix_41 rfl ?_
        refine tt_lload (j := 0) dX7_mix_42 rfl ?_
        refine tt_lload (j := 0) dX7_mix_44 rfl ?_
        refine tt_lconst (v := 0) dX7_mix_46 rfl ?_
        refine gt_Vv (As := [.long y186, .long y186, .long 0]) dX7_mix_47 ca_X7_48 ⟨by decide, by decide⟩ h0 hA rfl (Nat.le_of_ble_eq_true rfl) (Nat.le_of_ble_eq_true rfl) (by decide) (cs_X7_become hG (oa_af h0 hA) (fun _ _ _ _ h => h)) rfl (fun _ h => nomatch h) (fun S187 hx191 hG188 hB189 hA190 => ?_)
        refine tt_goto (tgt := 122) dX7_mix_50 rfl ?_
        exact tt_loc (ks := [1, 2, 3, 4]) rfl (B108 S187 hG188 hA190)
      refine tt_if_eq (tgt := 30) dX7_mix_15 rfl (fun q192 => ?_) (fun q192 => ?_)
      · skip
        have h193 : Rg 0 0 x1 := rg_eq_l h1 (⟨by decide, by decide⟩ : Rg 0 0 0) q192
        refine tt_aload_n (j := 2) dX7_mix_30 rfl ?_
        refine gt_gJ (id := 448) (v := (hp_J S 448 o2)) dX7_mix_31 fl_7_23 rfl rfl h2 hA rfl ?_
        refine tt_aload_n (j := 3) dX7_mix_34 rfl ?_
        refine gt_gJ (id := 448) (v := (hp_J S 448 o3)) dX7_mix_35 fl_7_23 rfl rfl h3 hA rfl ?_
        refine tt_lxor dX7_mix_38 (gt_tl (fun y194 => ?_))
        exact B185 y194
      · skip
        have h195 : Rg 1 1 x1 := rg_ne_lo h1 (⟨by decide, by decide⟩ : Rg 0 0 0) q192
        refine tt_aload_n (j := 2) dX7_mix_18 rfl ?_
        refine gt_gJ (id := 448) (v := (hp_J S 448 o2)) dX7_mix_19 fl_7_23 rfl rfl h2 hA rfl ?_
        refine tt_aload_n (j := 3) dX7_mix_22 rfl ?_
        refine gt_gJ (id := 448) (v := (hp_J S 448 o3)) dX7_mix_23 fl_7_23 rfl rfl h3 hA rfl ?_
        refine tt_lor dX7_mix_26 (gt_tl (fun y196 => ?_))
        refine tt_goto (tgt := 39) dX7_mix_27 rfl ?_
        exact B185 y196
set_option maxHeartbeats 4000000 in
theorem cs_X9_given {xi : SX} {S : Hp} {E : List Nat} {kc nc : Nat} {P : Po} {o0 : Nat} {x1 : Int32} {y2 : Int64} {y4 : Int64} {y6 : Int64} (hG : GI S E) (h0 : Oa S E 9 0 o0) (hkc : 1 ≤ kc) (hnc : 6 ≤ nc) (hP : ∀ r T x y, PV E [9994] S kc nc rV ex0 ["java/lang/IllegalArgumentException"] r T x y → P r T x y) : TT xi M_X9_given 0 [(0, .ref o0), (1, .int x1), (2, .long y2), (4, .long y4), (6, .long y6)] [] S kc nc P := by
  have hA : Af E [9994] S S := af_rf
  refine tt_iload_n (j := 1) dX9_given_0 rfl ?_
  refine gt_Svp (As := [.int x1]) dX9_given_1 ca_X9_77 ⟨by decide, by decide⟩ hA (Nat.le_of_ble_eq_true rfl) (Nat.le_of_ble_eq_true rfl) (by decide) (cs_X9_requireLocation hG hkc hnc (fun _ _ _ _ h => h)) rfl (fun X hX T g1 g2 => hP _ _ _ _ ⟨g1, g2, Or.inr ⟨X, hX, rfl⟩⟩) (fun _ _ q => q) (fun hx105 => ?_)
  refine tt_lload_n (j := 2) dX9_given_4 rfl ?_
  refine tt_lload (j := 3) dX9_given_5 rfl ?_
  refine tt_lload (j := 4) dX9_given_7 rfl ?_
  refine gt_SIp (As := [.long y2, .long y4, .long y6]) dX9_given_9 ca_X9_81 ⟨by decide, by decide⟩ hA (Nat.le_of_ble_eq_true rfl) (Nat.le_of_ble_eq_true rfl) (by decide) (cs_X7_isTriple hG  (fun _ _ _ _ h => h)) rfl (fun _ h => nomatch h) (fun _ _ q => q) (fun x111 h112 hx110 => ?_)
  refine tt_if_ne (tgt := 25) dX9_given_12 rfl (fun q113 => ?_) (fun q113 => ?_)
  · skip
    have h114 : Rg 1 1 x111 := rg_ne_lo h112 (⟨by decide, by decide⟩ : Rg 0 0 0) q113
    refine tt_aload_n (j := 0) dX9_given_25 rfl ?_
    obtain ⟨b115, hr116, ho117⟩ := gi_R (k := 578) hG h0 8 0
    refine gt_gR (id := 578) dX9_given_26 fl_9_28 rfl rfl h0 hA hr116 ?_
    refine tt_iload_n (j := 1) dX9_given_29 rfl ?_
    refine tt_lload_n (j := 2) dX9_given_30 rfl ?_
    refine tt_lload (j := 3) dX9_given_31 rfl ?_
    refine tt_lload (j := 4) dX9_given_33 rfl ?_
    refine gt_Vv (As := [.int x1, .long y2, .long y4, .long y6]) dX9_given_35 ca_X9_89 ⟨by decide, by decide⟩ ho117 hA rfl (Nat.le_of_ble_eq_true rfl) (Nat.le_of_ble_eq_true rfl) (by decide) (cs_X8_keep hG (oa_af ho117 hA) (fun _ _ _ _ h => h)) rfl (fun _ h => nomatch h) (fun S118 hx122 hG119 hB120 hA121 => ?_)
    exact tt_vreturn dX9_given_38 rfl (hP _ _ _ _ ⟨hG119, hA121, Or.inl ⟨_, rfl, rfl, trivial, rfl, rfl⟩⟩)
  · skip
    have h123 : Rg 0 0 x111 := rg_eq_l h112 (⟨by decide, by decide⟩ : Rg 0 0 0) q113
    exact tt_throw th_X9_given_15 (hP _ _ _ _ ⟨hG, hA, Or.inr ⟨_, List.mem_cons_self, rfl⟩⟩) hkc hnc (by decide)
set_option maxHeartbeats 4000000 in
theorem cs_X9_any {xi : SX} {S : Hp} {E : List Nat} {kc nc : Nat} {P : Po} {o0 : Nat} {x1 : Int32} (hG : GI S E) (h0 : Oa S E 9 0 o0) (hkc : 1 ≤ kc) (hnc : 6 ≤ nc) (hP : ∀ r T x y, PV E [9994] S kc nc rV ex0 ["java/lang/IllegalArgumentException"] r T x y → P r T x y) : TT xi M_X9_any 0 [(0, .ref o0), (1, .int x1)] [] S kc nc P := by
  have hA : Af E [9994] S S := af_rf
  refine tt_iload_n (j := 1) dX9_any_0 rfl ?_
  refine gt_Svp (As := [.int x1]) dX9_any_1 ca_X9_77 ⟨by decide, by decide⟩ hA (Nat.le_of_ble_eq_true rfl) (Nat.le_of_ble_eq_true rfl) (by decide) (cs_X9_requireLocation hG hkc hnc (fun _ _ _ _ h => h)) rfl (fun X hX T g1 g2 => hP _ _ _ _ ⟨g1, g2, Or.inr ⟨X, hX, rfl⟩⟩) (fun _ _ q => q) (fun hx105 => ?_)
  refine tt_aload_n (j := 0) dX9_any_4 rfl ?_
  obtain ⟨b106, hr107, ho108⟩ := gi_R (k := 578) hG h0 8 0
  refine gt_gR (id := 578) dX9_any_5 fl_9_28 rfl rfl h0 hA hr107 ?_
  refine tt_iload_n (j := 1) dX9_any_8 rfl ?_
  refine tt_lconst (v := 0) dX9_any_9 rfl ?_
  refine tt_lconst (v := 0) dX9_any_10 rfl ?_
  refine tt_ldc2 (v := (-1)) dX9_any_11 kl_9_93 ?_
  refine gt_Vv (As := [.int x1, .long 0, .long 0, .long (-1)]) dX9_any_14 ca_X9_89 ⟨by decide, by decide⟩ ho108 hA rfl (Nat.le_of_ble_eq_true rfl) (Nat.le_of_ble_eq_true rfl) (by decide) (cs_X8_keep hG (oa_af ho108 hA) (fun _ _ _ _ h => h)) rfl (fun _ h => nomatch h) (fun S109 hx113 hG110 hB111 hA112 => ?_)
  exact tt_vreturn dX9_any_17 rfl (hP _ _ _ _ ⟨hG110, hA112, Or.inl ⟨_, rfl, rfl, trivial, rfl, rfl⟩⟩)
set_option maxHeartbeats 4000000 in
theorem cs_X9_set {xi : SX} {S : Hp} {E : List Nat} {kc nc : Nat} {P : Po} {o0 : Nat} {x1 : Int32} {x2 : Int32} {x3 : Int32} (hG : GI S E) (h0 : Oa S E 9 0 o0) (hkc : 1 ≤ kc) (hnc : 6 ≤ nc) (hP : ∀ r T x y, PV E [9987] S kc nc rJ ex0 ["java/lang/IllegalArgumentException", "java/lang/IllegalStateException"] r T x y → P r T x y) : TT xi M_X9_set 0 [(0, .ref o0), (1, .int x1), (2, .int x2), (3, .int x3)] [] S kc nc P := by
  have hA : Af E [9987] S S := af_rf
  refine tt_iload_n (j := 2) dX9_set_0 rfl ?_
  refine gt_Svp (As := [.int x2]) dX9_set_1 ca_X9_77 ⟨by decide, by decide⟩ hA (Nat.le_of_ble_eq_true rfl) (Nat.le_of_ble_eq_true rfl) (by decide) (cs_X9_requireLocation hG hkc hnc (fun _ _ _ _ h => h)) rfl (fun X hX T g1 g2 => hP _ _ _ _ ⟨g1, g2, Or.inr ⟨X, (by simp at hX ⊢; simp [hX]), rfl⟩⟩) (fun _ _ q => q) (fun hx105 => ?_)
  refine tt_iload_n (j := 3) dX9_set_4 rfl ?_
  have B106 : TT xi M_X9_set 13 [(0, .ref o0), (1, .int x1), (2, .int x2), (3, .int x3)] [] S kc nc P := by
    exact tt_throw th_X9_set_13 (hP _ _ _ _ ⟨hG, hA, Or.inr ⟨_, List.mem_cons_self, rfl⟩⟩) hkc hnc (by decide)
  refine tt_if_lt (tgt := 13) dX9_set_5 rfl (fun q107 => ?_) (fun q107 => ?_)
  · skip
    have h108 : Rg (-2147483648) (-1) x3 := rg_lt_l (rg_all x3) (⟨by decide, by decide⟩ : Rg 0 0 0) q107
    exact B106 
  · skip
    have h109 : Rg 0 2147483647 x3 := rg_le_r (⟨by decide, by decide⟩ : Rg 0 0 0) (rg_all x3) (nlt_le q107)
    refine tt_iload_n (j := 3) dX9_set_8 rfl ?_
    refine tt_iconst (v := 2) dX9_set_9 rfl ?_
    refine tt_icmp_le (tgt := 23) dX9_set_10 rfl (fun q110 => ?_) (fun q110 => ?_)
    · skip
      have h111 : Rg 0 2 x3 := rg_le_l h109 (⟨by decide, by decide⟩ : Rg 2 2 2) q110
      refine tt_aload_n (j := 0) dX9_set_23 rfl ?_
      obtain ⟨b112, hr113, ho114⟩ := gi_R (k := 579) hG h0 4 0
      refine gt_gR (id := 579) dX9_set_24 fl_9_37 rfl rfl h0 hA hr113 ?_
      refine tt_iload_n (j := 1) dX9_set_27 rfl ?_
      refine gt_VIp (As := [.int x1]) dX9_set_28 ca_X9_115 ⟨by decide, by decide⟩ ho114 hA rfl (Nat.le_of_ble_eq_true rfl) (Nat.le_of_ble_eq_true rfl) (by decide) (cs_X4_timesGot hG (oa_af ho114 hA) (fun _ _ _ _ h => h)) rfl (fun _ h => nomatch h) (fun _ _ q => q) (fun x120 h121 hx119 => ?_)
      refine tt_if_ne (tgt := 44) dX9_set_31 rfl (fun q122 => ?_) (fun q122 => ?_)
      · skip
        refine tt_aload_n (j := 0) dX9_set_44 rfl ?_
        refine gt_gR (id := 579) dX9_set_45 fl_9_37 rfl rfl h0 hA hr113 ?_
        refine tt_iload_n (j := 1) dX9_set_48 rfl ?_
        refine tt_iload_n (j := 2) dX9_set_49 rfl ?_
        refine gt_VO (As := [.int x1, .int x2]) dX9_set_50 ca_X9_122 ⟨by decide, by decide⟩ ho114 hA rfl (Nat.le_of_ble_eq_true rfl) (Nat.le_of_ble_eq_true rfl) (by decide) (cs_X4_spanOf hG (oa_af ho114 hA) (fun _ _ _ _ h => h)) rfl (fun _ h => nomatch h) (fun S123 b128 h129 hx127 hG124 hB125 hA126 => ?_)
        have h130 := oa_fa h129 hA
        refine tt_astore (ks := [0, 1, 2, 3, 4]) (L' := [(4, .ref b128), (0, .ref o0), (1, .int x1), (2, .int x2), (3, .int x3)]) dX9_set_53 (by decide) rfl ?_
        refine tt_iload_n (j := 4) dX9_set_55 rfl ?_
        have B131 : ∀ (y132 : Int64), TT xi M_X9_set 85 [(0, .ref o0), (1, .int x1), (2, .int x2), (3, .int x3), (4, .ref b128)] [.long y132] S123 kc nc P := by
          intro y132 
          exact tt_lreturn dX9_set_85 rfl (hP _ _ _ _ ⟨hG124, hA126, Or.inl ⟨_, rfl, ⟨_, rfl⟩, trivial, rfl, rfl⟩⟩)
        refine tt_if_ne (tgt := 67) dX9_set_56 rfl (fun q133 => ?_) (fun q133 => ?_)
        · skip
          have h134 : Rg 1 2 x3 := rg_ne_lo h111 (⟨by decide, by decide⟩ : Rg 0 0 0) q133
          refine tt_iload_n (j := 4) dX9_set_67 rfl ?_
          refine tt_iconst (v := 1) dX9_set_68 rfl ?_
          refine tt_icmp_ne (tgt := 80) dX9_set_69 rfl (fun q135 => ?_) (fun q135 => ?_)
          · skip
            have h136 : Rg 2 2 x3 := rg_ne_lo h134 (⟨by decide, by decide⟩ : Rg 1 1 1) q135
            refine tt_aload (j := 0) dX9_set_80 rfl ?_
            refine gt_gJ (id := 450) (v := (hp_J S123 450 b128)) dX9_set_82 fl_9_132 rfl rfl h130 hA126 rfl ?_
            exact tt_loc (ks := [1, 2, 3, 4, 0]) rfl (B131 (hp_J S123 450 b128))
          · skip
            have h137 : Rg 1 1 x3 := rg_eq_l h134 (⟨by decide, by decide⟩ : Rg 1 1 1) q135
            refine tt_aload (j := 0) dX9_set_72 rfl ?_
            refine gt_gJ (id := 449) (v := (hp_J S123 449 b128)) dX9_set_74 fl_9_129 rfl rfl h130 hA126 rfl ?_
            refine tt_goto (tgt := 85) dX9_set_77 rfl ?_
            exact tt_loc (ks := [1, 2, 3, 4, 0]) rfl (B131 (hp_J S123 449 b128))
        · skip
          have h138 : Rg 0 0 x3 := rg_eq_l h111 (⟨by decide, by decide⟩ : Rg 0 0 0) q133
          refine tt_aload (j := 0) dX9_set_59 rfl ?_
          refine gt_gJ (id := 448) (v := (hp_J S123 448 b128)) dX9_set_61 fl_9_126 rfl rfl h130 hA126 rfl ?_
          refine tt_goto (tgt := 85) dX9_set_64 rfl ?_
          exact tt_loc (ks := [1, 2, 3, 4, 0]) rfl (B131 (hp_J S123 448 b128))
      · skip
        have h139 : Rg 0 0 x120 := rg_eq_l h121 (⟨by decide, by decide⟩ : Rg 0 0 0) q122
        exact tt_throw th_X9_set_34 (hP _ _ _ _ ⟨hG, hA, Or.inr ⟨_, (List.mem_cons_of_mem _ List.mem_cons_self), rfl⟩⟩) hkc hnc (by decide)
    · skip
      have h140 : Rg 3 2147483647 x3 := rg_lt_r (⟨by decide, by decide⟩ : Rg 2 2 2) h109 (nle_lt q110)
      exact B106 
