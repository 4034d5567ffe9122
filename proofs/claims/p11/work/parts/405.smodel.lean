set_option maxHeartbeats 4000000 in
theorem cs_X10_copyRecord {xi : SX} {S : Hp} {E : List Nat} {kc nc : Nat} {P : Po} {o0 : Nat} {x1 : Int32} {x2 : Int32} (hG : GI S E) (h0 : Oa S E 10 0 o0) (h1 : Rg 0 201 x1) (h2 : Rg 0 201 x2) (hP : ∀ r T x y, PV E [9988] S kc nc rV ex0 [] r T x y → P r T x y) : TT xi M_X10_copyRecord 0 [(0, .ref o0), (1, .int x1), (2, .int x2)] [] S kc nc P := by
  have hA : Af E [9988] S S := af_rf
  refine tt_aload_n (j := 0) dX10_copyRecord_0 rfl ?_
  obtain ⟨b101, hr102, ho103⟩ := gi_R (k := 649) hG h0 32 202
  refine gt_gR (id := 649) dX10_copyRecord_1 fl_10_33 rfl rfl h0 hA hr102 ?_
  refine tt_iload_n (j := 1) dX10_copyRecord_4 rfl ?_
  refine tt_aload_n (j := 0) dX10_copyRecord_5 rfl ?_
  refine gt_gR (id := 649) dX10_copyRecord_6 fl_10_33 rfl rfl h0 hA hr102 ?_
  refine tt_iload_n (j := 2) dX10_copyRecord_9 rfl ?_
  refine gt_iLR dX10_copyRecord_10 ho103 hA (rg_in h2) hG (fun x104 h105 => ?_)
  refine gt_iSR dX10_copyRecord_11 ho103 hA (rg_in h1) hG (rg_w h105) (fun S106 hG107 hA108 e109 f110 er111 => ?_)
  refine tt_aload_n (j := 0) dX10_copyRecord_12 rfl ?_
  obtain ⟨b112, hr113, ho114⟩ := gi_R (k := 650) hG h0 32 202
  refine gt_gR (id := 650) dX10_copyRecord_13 fl_10_36 rfl rfl h0 hA108 hr113 ?_
  refine tt_iload_n (j := 1) dX10_copyRecord_16 rfl ?_
  refine tt_aload_n (j := 0) dX10_copyRecord_17 rfl ?_
  refine gt_gR (id := 650) dX10_copyRecord_18 fl_10_36 rfl rfl h0 hA108 hr113 ?_
  refine tt_iload_n (j := 2) dX10_copyRecord_21 rfl ?_
  refine gt_iLR dX10_copyRecord_22 ho114 hA108 (rg_in h2) hG107 (fun x115 h116 => ?_)
  refine gt_iSR dX10_copyRecord_23 ho114 hA108 (rg_in h1) hG107 (rg_w h116) (fun S117 hG118 hA119 e120 f121 er122 => ?_)
  refine tt_aload_n (j := 0) dX10_copyRecord_24 rfl ?_
  obtain ⟨b123, hr124, ho125⟩ := gi_R (k := 651) hG h0 32 202
  refine gt_gR (id := 651) dX10_copyRecord_25 fl_10_39 rfl rfl h0 hA119 hr124 ?_
  refine tt_iload_n (j := 1) dX10_copyRecord_28 rfl ?_
  refine tt_aload_n (j := 0) dX10_copyRecord_29 rfl ?_
  refine gt_gR (id := 651) dX10_copyRecord_30 fl_10_39 rfl rfl h0 hA119 hr124 ?_
  refine tt_iload_n (j := 2) dX10_copyRecord_33 rfl ?_
  refine gt_iLR dX10_copyRecord_34 ho125 hA119 (rg_in h2) hG118 (fun x126 h127 => ?_)
  refine gt_iSR dX10_copyRecord_35 ho125 hA119 (rg_in h1) hG118 (rg_w h127) (fun S128 hG129 hA130 e131 f132 er133 => ?_)
  refine tt_aload_n (j := 0) dX10_copyRecord_36 rfl ?_
  obtain ⟨b134, hr135, ho136⟩ := gi_R (k := 652) hG h0 33 202
  refine gt_gR (id := 652) dX10_copyRecord_37 fl_10_42 rfl rfl h0 hA130 hr135 ?_
  refine tt_iload_n (j := 1) dX10_copyRecord_40 rfl ?_
  refine tt_aload_n (j := 0) dX10_copyRecord_41 rfl ?_
  refine gt_gR (id := 652) dX10_copyRecord_42 fl_10_42 rfl rfl h0 hA130 hr135 ?_
  refine tt_iload_n (j := 2) dX10_copyRecord_45 rfl ?_
  refine gt_lLt dX10_copyRecord_46 ho136 hA130 (rg_in h2) ?_
  refine gt_lS dX10_copyRecord_47 ho136 hA130 (rg_in h1) hG129 (Or.inl (by decide)) (Or.inl (by decide)) (fun S137 hG138 hA139 e140 f141 er142 => ?_)
  exact tt_vreturn dX10_copyRecord_48 rfl (hP _ _ _ _ ⟨hG138, hA139, Or.inl ⟨_, rfl, rfl, trivial, rfl, rfl⟩⟩)
set_option maxHeartbeats 4000000 in
theorem cs_X10_lay {xi : SX} {S : Hp} {E : List Nat} {kc nc : Nat} {P : Po} {o0 : Nat} {x1 : Int32} {x2 : Int32} (hG : GI S E) (h0 : Oa S E 10 0 o0) (h1 : Rg (-1) 31 x1) (h2 : Rg 0 4939 x2) (hP : ∀ r T x y, PV E [676, 9989] S kc nc rV ex0 [] r T x y → P r T x y) : TT xi M_X10_lay 0 [(0, .ref o0), (1, .int x1), (2, .int x2)] [] S kc nc P := by
  have hA : Af E [676, 9989] S S := af_rf
  refine tt_aload_n (j := 0) dX10_lay_0 rfl ?_
  refine tt_aload_n (j := 0) dX10_lay_1 rfl ?_
  refine tt_getI (id := 676) dX10_lay_2 fl_10_250 rfl rfl (ob_af h0 hA) ?_
  have B101 : ∀ (x102 : Int32), Rg 0 1 x102 → TT xi M_X10_lay 22 [(0, .ref o0), (1, .int x1), (2, .int x2)] [.int x102, .ref o0] S kc nc P := by
    intro x102 h103
    refine gt_pI (id := 676) (x := x102) dX10_lay_22 fl_10_250 rfl rfl h0 hA (rg_nar (rg_w h103)) (rg_fit (rg_w h103)) rfl (gp_Ir hG h103) (by decide) (fun h => absurd h (by decide)) (fun h => absurd h (by decide)) (fun S104 hG105 hA106 e107 f108 er109 => ?_)
    refine tt_iload_n (j := 1) dX10_lay_25 rfl ?_
    have B110 : ∀ (S111 : Hp), GI S111 E → Af E [676, 9989] S S111 → TT xi M_X10_lay 39 [(0, .ref o0), (1, .int x1), (2, .int x2)] [] S111 kc nc P := by
      intro S111 hG112 hA113
      exact tt_vreturn dX10_lay_39 rfl (hP _ _ _ _ ⟨hG112, hA113, Or.inl ⟨_, rfl, rfl, trivial, rfl, rfl⟩⟩)
    refine tt_if_lt (tgt := 39) dX10_lay_26 rfl (fun q114 => ?_) (fun q114 => ?_)
    · skip
      have h115 : Rg (-1) (-1) x1 := rg_lt_l h1 (⟨by decide, by decide⟩ : Rg 0 0 0) q114
      exact B110 S104 hG105 hA106
    · skip
      have h116 : Rg 0 31 x1 := rg_le_r (⟨by decide, by decide⟩ : Rg 0 0 0) h1 (nlt_le q114)
      refine tt_aload_n (j := 0) dX10_lay_29 rfl ?_
      refine tt_sipush (v := 4904) dX10_lay_30 rfl ?_
      refine tt_iload_n (j := 1) dX10_lay_33 rfl ?_
      refine tt_iadd dX10_lay_34 ?_
      refine tt_iload_n (j := 2) dX10_lay_35 rfl ?_
      refine gt_Vv (As := [.int (4904 + x1), .int x2]) dX10_lay_36 ca_X10_169 ⟨by decide, by decide⟩ h0 hA106 rfl (Nat.le_of_ble_eq_true rfl) (Nat.le_of_ble_eq_true rfl) (by decide) (cs_X10_copy hG105 (oa_af h0 hA106) (rg_w (rg_add (lo := 4904) (hi := 4935) (⟨by decide, by decide⟩ : Rg 4904 4904 4904) h116)) (rg_w h2) (fun _ _ _ _ h => h)) rfl (fun _ h => nomatch h) (fun S117 hx121 hG118 hB119 hA120 => ?_)
      exact B110 S117 hG118 hA120
  have B122 : TT xi M_X10_lay 17 [(0, .ref o0), (1, .int x1), (2, .int x2)] [.ref o0] S kc nc P := by
    refine tt_iconst (v := 1) dX10_lay_17 rfl ?_
    refine tt_goto (tgt := 22) dX10_lay_18 rfl ?_
    exact B101 1 (rg_w (⟨by decide, by decide⟩ : Rg 1 1 1))
  refine tt_if_ne (tgt := 17) dX10_lay_5 rfl (fun q123 => ?_) (fun q123 => ?_)
  · skip
    have h124 : Rg 1 1 (hp_I S 676 o0) := rg_ne_lo (gi_I (k := 676) hG (oa_af h0 hA) 0 1) (⟨by decide, by decide⟩ : Rg 0 0 0) q123
    exact B122 
  · skip
    have h125 : Rg 0 0 (hp_I S 676 o0) := rg_eq_l (gi_I (k := 676) hG (oa_af h0 hA) 0 1) (⟨by decide, by decide⟩ : Rg 0 0 0) q123
    refine tt_aload_n (j := 0) dX10_lay_8 rfl ?_
    obtain ⟨b126, hr127, ho128⟩ := gi_R (k := 643) hG h0 32 4940
    refine gt_gR (id := 643) dX10_lay_9 fl_10_13 rfl rfl h0 hA hr127 ?_
    refine tt_iload_n (j := 2) dX10_lay_12 rfl ?_
    refine gt_iL dX10_lay_13 ho128 hA (rg_in h2) (fun x129 => ?_)
    refine tt_if_ne (tgt := 21) dX10_lay_14 rfl (fun q130 => ?_) (fun q130 => ?_)
    · skip
      refine tt_iconst (v := 0) dX10_lay_21 rfl ?_
      exact B101 0 (rg_w (⟨by decide, by decide⟩ : Rg 0 0 0))
    · skip
      have h131 : Rg 0 0 x129 := rg_eq_l (rg_all x129) (⟨by decide, by decide⟩ : Rg 0 0 0) q130
      exact B122 
set_option maxHeartbeats 4000000 in
theorem cs_X10_without {xi : SX} {S : Hp} {E : List Nat} {kc nc : Nat} {P : Po} {o0 : Nat} {x1 : Int32} {x2 : Int32} {y3 : Int64} (hG : GI S E) (h0 : Oa S E 10 0 o0) (h1 : Rg 0 4939 x1) (h2 : Rg 0 4939 x2) (hP : ∀ r T x y, PV E [9989] S kc nc rV ex0 [] r T x y → P r T x y) : TT xi M_X10_without 0 [(0, .ref o0), (1, .int x1), (2, .int x2), (3, .long y3)] [] S kc nc P := by
  have hA : Af E [9989] S S := af_rf
  refine tt_aload_n (j := 0) dX10_without_0 rfl ?_
  refine tt_iload_n (j := 1) dX10_without_1 rfl ?_
  refine tt_iload_n (j := 2) dX10_without_2 rfl ?_
  refine gt_Vv (As := [.int x1, .int x2]) dX10_without_3 ca_X10_169 ⟨by decide, by decide⟩ h0 hA rfl (Nat.le_of_ble_eq_true rfl) (Nat.le_of_ble_eq_true rfl) (by decide) (cs_X10_copy hG (oa_af h0 hA) (rg_w h1) (rg_w h2) (fun _ _ _ _ h => h)) rfl (fun _ h => nomatch h) (fun S101 hx105 hG102 hB103 hA104 => ?_)
  refine tt_aload_n (j := 0) dX10_without_6 rfl ?_
  obtain ⟨b106, hr107, ho108⟩ := gi_R (k := 643) hG h0 32 4940
  refine gt_gR (id := 643) dX10_without_7 fl_10_13 rfl rfl h0 hA104 hr107 ?_
  refine tt_iload_n (j := 2) dX10_without_10 rfl ?_
  refine gt_iL dX10_without_11 ho108 hA104 (rg_in h2) (fun x109 => ?_)
  refine tt_iconst (v := 1) dX10_without_12 rfl ?_
  refine tt_icmp_eq (tgt := 17) dX10_without_13 rfl (fun q110 => ?_) (fun q110 => ?_)
  · skip
    have h111 : Rg 1 1 x109 := rg_eq_l (rg_all x109) (⟨by decide, by decide⟩ : Rg 1 1 1) q110
    refine tt_aload_n (j := 0) dX10_without_17 rfl ?_
    refine tt_iload_n (j := 2) dX10_without_18 rfl ?_
    refine tt_lload_n (j := 3) dX10_without_19 rfl ?_
    refine gt_VIp (As := [.int x2, .long y3]) dX10_without_20 ca_X10_189 ⟨by decide, by decide⟩ h0 hA104 rfl (Nat.le_of_ble_eq_true rfl) (Nat.le_of_ble_eq_true rfl) (by decide) (cs_X10_isNumber hG102 (oa_af h0 hA104) (rg_w h2) (fun _ _ _ _ h => h)) rfl (fun _ h => nomatch h) (fun _ _ q => q) (fun x117 h118 hx116 => ?_)
    have B119 : ∀ (S120 : Hp), GI S120 E → Af E [9989] S S120 → TT xi M_X10_without 123 [(0, .ref o0), (1, .int x1), (2, .int x2), (3, .long y3)] [] S120 kc nc P := by
      intro S120 hG121 hA122
      exact tt_vreturn dX10_without_123 rfl (hP _ _ _ _ ⟨hG121, hA122, Or.inl ⟨_, rfl, rfl, trivial, rfl, rfl⟩⟩)
    refine tt_if_eq (tgt := 36) dX10_without_23 rfl (fun q123 => ?_) (fun q123 => ?_)
    · skip
      have h124 : Rg 0 0 x117 := rg_eq_l h118 (⟨by decide, by decide⟩ : Rg 0 0 0) q123
      refine tt_aload_n (j := 0) dX10_without_36 rfl ?_
      obtain ⟨b125, hr126, ho127⟩ := gi_R (k := 644) hG h0 33 4940
      refine gt_gR (id := 644) dX10_without_37 fl_10_16 rfl rfl h0 hA104 hr126 ?_
      refine tt_iload_n (j := 2) dX10_without_40 rfl ?_
      refine gt_lLt dX10_without_41 ho127 hA104 (rg_in h2) ?_
      refine tt_lload_n (j := 3) dX10_without_42 rfl ?_
      refine tt_lcmp dX10_without_43 ?_
      refine tt_if_ne (tgt := 81) dX10_without_44 rfl (fun q128 => ?_) (fun q128 => ?_)
      · skip
        refine tt_aload_n (j := 0) dX10_without_81 rfl ?_
        obtain ⟨b129, hr130, ho131⟩ := gi_R (k := 645) hG h0 33 4940
        refine gt_gR (id := 645) dX10_without_82 fl_10_20 rfl rfl h0 hA104 hr130 ?_
        refine tt_iload_n (j := 2) dX10_without_85 rfl ?_
        refine gt_lLt dX10_without_86 ho131 hA104 (rg_in h2) ?_
        refine tt_lload_n (j := 3) dX10_without_87 rfl ?_
        refine tt_lcmp dX10_without_88 ?_
        refine tt_if_ne (tgt := 123) dX10_without_89 rfl (fun q132 => ?_) (fun q132 => ?_)
        · skip
          exact B119 S101 hG102 hA104
        · skip
          refine tt_aload_n (j := 0) dX10_without_92 rfl ?_
          refine tt_iload_n (j := 1) dX10_without_93 rfl ?_
          refine tt_iconst (v := 1) dX10_without_94 rfl ?_
          refine tt_aload_n (j := 0) dX10_without_95 rfl ?_
          refine gt_gR (id := 644) dX10_without_96 fl_10_16 rfl rfl h0 hA104 hr126 ?_
          refine tt_iload_n (j := 2) dX10_without_99 rfl ?_
          refine gt_lLt dX10_without_100 ho127 hA104 (rg_in h2) ?_
          refine tt_aload_n (j := 0) dX10_without_101 rfl ?_
          refine gt_gR (id := 645) dX10_without_102 fl_10_20 rfl rfl h0 hA104 hr130 ?_
          refine tt_iload_n (j := 2) dX10_without_105 rfl ?_
          refine gt_lLt dX10_without_106 ho131 hA104 (rg_in h2) ?_
          refine tt_aload_n (j := 0) dX10_without_107 rfl ?_
          obtain ⟨b133, hr134, ho135⟩ := gi_R (k := 646) hG h0 33 4940
          refine gt_gR (id := 646) dX10_without_108 fl_10_23 rfl rfl h0 hA104 hr134 ?_
          refine tt_iload_n (j := 2) dX10_without_111 rfl ?_
          refine gt_lLt dX10_without_112 ho135 hA104 (rg_in h2) ?_
          refine tt_lsub dX10_without_113 (gt_tl (fun y136 => ?_))
          refine tt_aload_n (j := 0) dX10_without_114 rfl ?_
          refine gt_gR (id := 646) dX10_without_115 fl_10_23 rfl rfl h0 hA104 hr134 ?_
          refine tt_iload_n (j := 2) dX10_without_118 rfl ?_
          refine gt_lLt dX10_without_119 ho135 hA104 (rg_in h2) ?_
          refine gt_Vv (As := [.int x1, .int 1, .long (hp_j S101 b125 (x2 : Int32).toNatClampNeg), .long y136, .long (hp_j S101 b133 (x2 : Int32).toNatClampNeg)]) dX10_without_120 ca_X10_165 ⟨by decide, by decide⟩ h0 hA104 rfl (Nat.le_of_ble_eq_true rfl) (Nat.le_of_ble_eq_true rfl) (by decide) (cs_X10_make hG102 (oa_af h0 hA104) (rg_w h1) (fun _ _ _ _ h => h)) rfl (fun _ h => nomatch h) (fun S137 hx141 hG138 hB139 hA140 => ?_)
          exact B119 S137 hG138 hA140
      · skip
        refine tt_aload_n (j := 0) dX10_without_47 rfl ?_
        refine tt_iload_n (j := 1) dX10_without_48 rfl ?_
        refine tt_iconst (v := 1) dX10_without_49 rfl ?_
        refine tt_aload_n (j := 0) dX10_without_50 rfl ?_
        refine gt_gR (id := 644) dX10_without_51 fl_10_16 rfl rfl h0 hA104 hr126 ?_
        refine tt_iload_n (j := 2) dX10_without_54 rfl ?_
        refine gt_lLt dX10_without_55 ho127 hA104 (rg_in h2) ?_
        refine tt_aload_n (j := 0) dX10_without_56 rfl ?_
        obtain ⟨b142, hr143, ho144⟩ := gi_R (k := 646) hG h0 33 4940
        refine gt_gR (id := 646) dX10_without_57 fl_10_23 rfl rfl h0 hA104 hr143 ?_
        refine tt_iload_n (j := 2) dX10_without_60 rfl ?_
        refine gt_lLt dX10_without_61 ho144 hA104 (rg_in h2) ?_
        refine tt_ladd dX10_without_62 (gt_tl (fun y145 => ?_))
        refine tt_aload_n (j := 0) dX10_without_63 rfl ?_
        obtain ⟨b146, hr147, ho148⟩ := gi_R (k := 645) hG h0 33 4940
        refine gt_gR (id := 645) dX10_without_64 fl_10_20 rfl rfl h0 hA104 hr147 ?_
        refine tt_iload_n (j := 2) dX10_without_67 rfl ?_
        refine gt_lLt dX10_without_68 ho148 hA104 (rg_in h2) ?_
        refine tt_aload_n (j := 0) dX10_without_69 rfl ?_
        refine gt_gR (id := 646) dX10_without_70 fl_10_23 rfl rfl h0 hA104 hr143 ?_
        refine tt_iload_n (j := 2) dX10_without_73 rfl ?_
        refine gt_lLt dX10_without_74 ho144 hA104 (rg_in h2) ?_
        refine gt_Vv (As := [.int x1, .int 1, .long y145, .long (hp_j S101 b146 (x2 : Int32).toNatClampNeg), .long (hp_j S101 b142 (x2 : Int32).toNatClampNeg)]) dX10_without_75 ca_X10_165 ⟨by decide, by decide⟩ h0 hA104 rfl (Nat.le_of_ble_eq_true rfl) (Nat.le_of_ble_eq_true rfl) (by decide) (cs_X10_make hG102 (oa_af h0 hA104) (rg_w h1) (fun _ _ _ _ h => h)) rfl (fun _ h => nomatch h) (fun S149 hx153 hG150 hB151 hA152 => ?_)
        refine tt_goto (tgt := 123) dX10_without_78 rfl ?_
        exact B119 S149 hG150 hA152
    · skip
      have h154 : Rg 1 1 x117 := rg_ne_lo h118 (⟨by decide, by decide⟩ : Rg 0 0 0) q123
      refine tt_aload_n (j := 0) dX10_without_26 rfl ?_
      refine gt_gR (id := 643) dX10_without_27 fl_10_13 rfl rfl h0 hA104 hr107 ?_
      refine tt_iload_n (j := 1) dX10_without_30 rfl ?_
      refine tt_iconst (v := 0) dX10_without_31 rfl ?_
      refine gt_iS dX10_without_32 ho108 hA104 (Or.inl (by decide)) (rg_in h1) hG102 (by decide) (fun S155 hG156 hA157 e158 f159 er160 => ?_)
      refine tt_goto (tgt := 123) dX10_without_33 rfl ?_
      exact B119 S155 hG156 hA157
  · skip
    exact tt_vreturn dX10_without_16 rfl (hP _ _ _ _ ⟨hG102, hA104, Or.inl ⟨_, rfl, rfl, trivial, rfl, rfl⟩⟩)
set_option maxHeartbeats 4000000 in
theorem cs_X10_only {xi : SX} {S : Hp} {E : List Nat} {kc nc : Nat} {P : Po} {o0 : Nat} {x1 : Int32} {x2 : Int32} {y3 : Int64} (hG : GI S E) (h0 : Oa S E 10 0 o0) (h1 : Rg 0 4939 x1) (h2 : Rg 0 4939 x2) (hP : ∀ r T x y, PV E [9989] S kc nc rV ex0 [] r T x y → P r T x y) : TT xi M_X10_only 0 [(0, .ref o0), (1, .int x1), (2, .int x2), (3, .long y3)] [] S kc nc P := by
  have hA : Af E [9989] S S := af_rf
  refine tt_aload_n (j := 0) dX10_only_0 rfl ?_
  refine tt_iload_n (j := 2) dX10_only_1 rfl ?_
  refine tt_lload_n (j := 3) dX10_only_2 rfl ?_
  refine gt_VIp (As := [.int x2, .long y3]) dX10_only_3 ca_X10_253 ⟨by decide, by decide⟩ h0 hA rfl (Nat.le_of_ble_eq_true rfl) (Nat.le_of_ble_eq_true rfl) (by decide) (cs_X10_contains hG (oa_af h0 hA) (rg_w h2) (fun _ _ _ _ h => h)) rfl (fun _ h => nomatch h) (fun _ _ q => q) (fun x106 h107 hx105 => ?_)
  have B108 : ∀ (S109 : Hp), GI S109 E → Af E [9989] S S109 → TT xi M_X10_only 25 [(0, .ref o0), (1, .int x1), (2, .int x2), (3, .long y3)] [] S109 kc nc P := by
    intro S109 hG110 hA111
    exact tt_vreturn dX10_only_25 rfl (hP _ _ _ _ ⟨hG110, hA111, Or.inl ⟨_, rfl, rfl, trivial, rfl, rfl⟩⟩)
  refine tt_if_eq (tgt := 18) dX10_only_6 rfl (fun q112 => ?_) (fun q112 => ?_)
  · skip
    have h113 : Rg 0 0 x106 := rg_eq_l h107 (⟨by decide, by decide⟩ : Rg 0 0 0) q112
    refine tt_aload_n (j := 0) dX10_only_18 rfl ?_
    obtain ⟨b114, hr115, ho116⟩ := gi_R (k := 643) hG h0 32 4940
    refine gt_gR (id := 643) dX10_only_19 fl_10_13 rfl rfl h0 hA hr115 ?_
    refine tt_iload_n (j := 1) dX10_only_22 rfl ?_
    refine tt_iconst (v := 0) dX10_only_23 rfl ?_
    refine gt_iS dX10_only_24 ho116 hA (Or.inl (by decide)) (rg_in h1) hG (by decide) (fun S117 hG118 hA119 e120 f121 er122 => ?_)
    exact B108 S117 hG118 hA119
  · skip
    have h123 : Rg 1 1 x106 := rg_ne_lo h107 (⟨by decide, by decide⟩ : Rg 0 0 0) q112
    refine tt_aload_n (j := 0) dX10_only_9 rfl ?_
    refine tt_iload_n (j := 1) dX10_only_10 rfl ?_
    refine tt_lload_n (j := 3) dX10_only_11 rfl ?_
    refine gt_Vv (As := [.int x1, .long y3]) dX10_only_12 ca_X10_193 ⟨by decide, by decide⟩ h0 hA rfl (Nat.le_of_ble_eq_true rfl) (Nat.le_of_ble_eq_true rfl) (by decide) (cs_X10_one hG (oa_af h0 hA) (rg_w h1) (fun _ _ _ _ h => h)) rfl (fun _ h => nomatch h) (fun S124 hx128 hG125 hB126 hA127 => ?_)
    refine tt_goto (tgt := 25) dX10_only_15 rfl ?_
    exact B108 S124 hG125 hA127
set_option maxHeartbeats 4000000 in
theorem cs_X10_equal {xi : SX} {S : Hp} {E : List Nat} {kc nc : Nat} {P : Po} {o0 : Nat} {x1 : Int32} {x2 : Int32} {x3 : Int32} (hG : GI S E) (h0 : Oa S E 10 0 o0) (h1 : Rg (-1) 31 x1) (h2 : Rg (-1) 31 x2) (h3 : Rg 0 1 x3) (hP : ∀ r T x y, PV E [676, 9989] S kc nc rV ex0 [] r T x y → P r T x y) : TT xi M_X10_equal 0 [(0, .ref o0), (1, .int x1), (2, .int x2), (3, .int x3)] [] S kc nc P := by
  have hA : Af E [676, 9989] S S := af_rf
  refine tt_aload_n (j := 0) dX10_equal_0 rfl ?_
  refine tt_sipush (v := 4850) dX10_equal_1 rfl ?_
  refine tt_sipush (v := 4928) dX10_equal_4 rfl ?_
  refine gt_Vv (As := [.int 4850, .int 4928]) dX10_equal_7 ca_X10_169 ⟨by decide, by decide⟩ h0 hA rfl (Nat.le_of_ble_eq_true rfl) (Nat.le_of_ble_eq_true rfl) (by decide) (cs_X10_copy hG (oa_af h0 hA) (rg_w (⟨by decide, by decide⟩ : Rg 4850 4850 4850)) (rg_w (⟨by decide, by decide⟩ : Rg 4928 4928 4928)) (fun _ _ _ _ h => h)) rfl (fun _ h => nomatch h) (fun S101 hx105 hG102 hB103 hA104 => ?_)
  refine tt_aload_n (j := 0) dX10_equal_10 rfl ?_
  refine tt_sipush (v := 4851) dX10_equal_11 rfl ?_
  refine tt_sipush (v := 4929) dX10_equal_14 rfl ?_
  refine gt_Vv (As := [.int 4851, .int 4929]) dX10_equal_17 ca_X10_169 ⟨by decide, by decide⟩ h0 hA104 rfl (Nat.le_of_ble_eq_true rfl) (Nat.le_of_ble_eq_true rfl) (by decide) (cs_X10_copy hG102 (oa_af h0 hA104) (rg_w (⟨by decide, by decide⟩ : Rg 4851 4851 4851)) (rg_w (⟨by decide, by decide⟩ : Rg 4929 4929 4929)) (fun _ _ _ _ h => h)) rfl (fun _ h => nomatch h) (fun S106 hx110 hG107 hB108 hA109 => ?_)
  refine tt_iload_n (j := 3) dX10_equal_20 rfl ?_
  have B111 : ∀ (S112 : Hp), GI S112 E → Af E [676, 9989] S S112 → TT xi M_X10_equal 292 [(0, .ref o0), (1, .int x1), (2, .int x2), (3, .int x3)] [] S112 kc nc P := by
    intro S112 hG113 hA114
    refine tt_aload_n (j := 0) dX10_equal_292 rfl ?_
    refine tt_iload_n (j := 1) dX10_equal_293 rfl ?_
    refine tt_sipush (v := 4850) dX10_equal_294 rfl ?_
    refine gt_Vv (As := [.int x1, .int 4850]) dX10_equal_297 ca_X10_267 ⟨by decide, by decide⟩ h0 hA114 rfl (Nat.le_of_ble_eq_true rfl) (Nat.le_of_ble_eq_true rfl) (by decide) (cs_X10_lay hG113 (oa_af h0 hA114) (rg_w h1) (rg_w (⟨by decide, by decide⟩ : Rg 4850 4850 4850)) (fun _ _ _ _ h => h)) rfl (fun _ h => nomatch h) (fun S115 hx119 hG116 hB117 hA118 => ?_)
    refine tt_aload_n (j := 0) dX10_equal_300 rfl ?_
    refine tt_iload_n (j := 2) dX10_equal_301 rfl ?_
    refine tt_sipush (v := 4851) dX10_equal_302 rfl ?_
    refine gt_Vv (As := [.int x2, .int 4851]) dX10_equal_305 ca_X10_267 ⟨by decide, by decide⟩ h0 hA118 rfl (Nat.le_of_ble_eq_true rfl) (Nat.le_of_ble_eq_true rfl) (by decide) (cs_X10_lay hG116 (oa_af h0 hA118) (rg_w h2) (rg_w (⟨by decide, by decide⟩ : Rg 4851 4851 4851)) (fun _ _ _ _ h => h)) rfl (fun _ h => nomatch h) (fun S120 hx124 hG121 hB122 hA123 => ?_)
    exact tt_vreturn dX10_equal_308 rfl (hP _ _ _ _ ⟨hG121, hA123, Or.inl ⟨_, rfl, rfl, trivial, rfl, rfl⟩⟩)
  refine tt_if_ne (tgt := 83) dX10_equal_21 rfl (fun q125 => ?_) (fun q125 => ?_)
  · skip
    have h126 : Rg 1 1 x3 := rg_ne_lo h3 (⟨by decide, by decide⟩ : Rg 0 0 0) q125
    refine tt_aload_n (j := 0) dX10_equal_83 rfl ?_
    refine tt_sipush (v := 4929) dX10_equal_84 rfl ?_
    refine gt_VIp (As := [.int 4929]) dX10_equal_87 ca_X10_162 ⟨by decide, by decide⟩ h0 hA109 rfl (Nat.le_of_ble_eq_true rfl) (Nat.le_of_ble_eq_true rfl) (by decide) (cs_X10_isOne hG107 (oa_af h0 hA109) (rg_w (⟨by decide, by decide⟩ : Rg 4929 4929 4929)) (fun _ _ _ _ h => h)) rfl (fun _ h => nomatch h) (fun _ _ q => q) (fun x132 h133 hx131 => ?_)
    have B134 : TT xi M_X10_equal 103 [(0, .ref o0), (1, .int x1), (2, .int x2), (3, .int x3)] [] S106 kc nc P := by
      refine tt_aload_n (j := 0) dX10_equal_103 rfl ?_
      refine tt_sipush (v := 4929) dX10_equal_104 rfl ?_
      refine gt_VIp (As := [.int 4929]) dX10_equal_107 ca_X10_162 ⟨by decide, by decide⟩ h0 hA109 rfl (Nat.le_of_ble_eq_true rfl) (Nat.le_of_ble_eq_true rfl) (by decide) (cs_X10_isOne hG107 (oa_af h0 hA109) (rg_w (⟨by decide, by decide⟩ : Rg 4929 4929 4929)) (fun _ _ _ _ h => h)) rfl (fun _ h => nomatch h) (fun _ _ q => q) (fun x140 h141 hx139 => ?_)
      have B142 : ∀ (S143 : Hp), GI S143 E → Af E [676, 9989] S S143 → TT xi M_X10_equal 131 [(0, .ref o0), (1, .int x1), (2, .int x2), (3, .int x3)] [] S143 kc nc P := by
        intro S143 hG144 hA145
        refine tt_aload_n (j := 0) dX10_equal_131 rfl ?_
        refine tt_sipush (v := 4928) dX10_equal_132 rfl ?_
        refine gt_VIp (As := [.int 4928]) dX10_equal_135 ca_X10_162 ⟨by decide, by decide⟩ h0 hA145 rfl (Nat.le_of_ble_eq_true rfl) (Nat.le_of_ble_eq_true rfl) (by decide) (cs_X10_isOne hG144 (oa_af h0 hA145) (rg_w (⟨by decide, by decide⟩ : Rg 4928 4928 4928)) (fun _ _ _ _ h => h)) rfl (fun _ h => nomatch h) (fun _ _ q => q) (fun x151 h152 hx150 => ?_)
        refine tt_if_eq (tgt := 292) dX10_equal_138 rfl (fun q153 => ?_) (fun q153 => ?_)
        · skip
          have h154 : Rg 0 0 x151 := rg_eq_l h152 (⟨by decide, by decide⟩ : Rg 0 0 0) q153
          exact B111 S143 hG144 hA145
        · skip
          have h155 : Rg 1 1 x151 := rg_ne_lo h152 (⟨by decide, by decide⟩ : Rg 0 0 0) q153
          refine tt_aload_n (j := 0) dX10_equal_141 rfl ?_
          refine tt_sipush (v := 4851) dX10_equal_142 rfl ?_
          refine tt_sipush (v := 4929) dX10_equal_145 rfl ?_
          refine tt_aload_n (j := 0) dX10_equal_148 rfl ?_
          obtain ⟨b156, hr157, ho158⟩ := gi_R (k := 644) hG h0 33 4940
          refine gt_gR (id := 644) dX10_equal_149 fl_10_16 rfl rfl h0 hA145 hr157 ?_
          refine tt_sipush (v := 4928) dX10_equal_152 rfl ?_
          refine gt_lLt dX10_equal_155 ho158 hA145 (rg_in (⟨by decide, by decide⟩ : Rg 4928 4928 4928)) ?_
          refine gt_Vv (As := [.int 4851, .int 4929, .long (hp_j S143 b156 (4928 : Int32).toNatClampNeg)]) dX10_equal_156 ca_X10_260 ⟨by decide, by decide⟩ h0 hA145 rfl (Nat.le_of_ble_eq_true rfl) (Nat.le_of_ble_eq_true rfl) (by decide) (cs_X10_only hG144 (oa_af h0 hA145) (rg_w (⟨by decide, by decide⟩ : Rg 4851 4851 4851)) (rg_w (⟨by decide, by decide⟩ : Rg 4929 4929 4929)) (fun _ _ _ _ h => h)) rfl (fun _ h => nomatch h) (fun S159 hx163 hG160 hB161 hA162 => ?_)
          refine tt_goto (tgt := 292) dX10_equal_159 rfl ?_
          exact B111 S159 hG160 hA162
      refine tt_if_eq (tgt := 131) dX10_equal_110 rfl (fun q164 => ?_) (fun q164 => ?_)
      · skip
        have h165 : Rg 0 0 x140 := rg_eq_l h141 (⟨by decide, by decide⟩ : Rg 0 0 0) q164
        exact B142 S106 hG107 hA109
      · skip
        have h166 : Rg 1 1 x140 := rg_ne_lo h141 (⟨by decide, by decide⟩ : Rg 0 0 0) q164
        refine tt_aload_n (j := 0) dX10_equal_113 rfl ?_
        refine tt_sipush (v := 4850) dX10_equal_114 rfl ?_
        refine tt_sipush (v := 4928) dX10_equal_117 rfl ?_
        refine tt_aload_n (j := 0) dX10_equal_120 rfl ?_
        obtain ⟨b167, hr168, ho169⟩ := gi_R (k := 644) hG h0 33 4940
        refine gt_gR (id := 644) dX10_equal_121 fl_10_16 rfl rfl h0 hA109 hr168 ?_
        refine tt_sipush (v := 4929) dX10_equal_124 rfl ?_
        refine gt_lLt dX10_equal_127 ho169 hA109 (rg_in (⟨by decide, by decide⟩ : Rg 4929 4929 4929)) ?_
        refine gt_Vv (As := [.int 4850, .int 4928, .long (hp_j S106 b167 (4929 : Int32).toNatClampNeg)]) dX10_equal_128 ca_X10_260 ⟨by decide, by decide⟩ h0 hA109 rfl (Nat.le_of_ble_eq_true rfl) (Nat.le_of_ble_eq_true rfl) (by decide) (cs_X10_only hG107 (oa_af h0 hA109) (rg_w (⟨by decide, by decide⟩ : Rg 4850 4850 4850)) (rg_w (⟨by decide, by decide⟩ : Rg 4928 4928 4928)) (fun _ _ _ _ h => h)) rfl (fun _ h => nomatch h) (fun S170 hx174 hG171 hB172 hA173 => ?_)
        exact B142 S170 hG171 hA173
    refine tt_if_ne (tgt := 103) dX10_equal_90 rfl (fun q175 => ?_) (fun q175 => ?_)
    · skip
      have h176 : Rg 1 1 x132 := rg_ne_lo h133 (⟨by decide, by decide⟩ : Rg 0 0 0) q175
      exact B134 
    · skip
      have h177 : Rg 0 0 x132 := rg_eq_l h133 (⟨by decide, by decide⟩ : Rg 0 0 0) q175
      refine tt_aload_n (j := 0) dX10_equal_93 rfl ?_
      refine tt_sipush (v := 4928) dX10_equal_94 rfl ?_
      refine gt_VIp (As := [.int 4928]) dX10_equal_97 ca_X10_162 ⟨by decide, by decide⟩ h0 hA109 rfl (Nat.le_of_ble_eq_true rfl) (Nat.le_of_ble_eq_true rfl) (by decide) (cs_X10_isOne hG107 (oa_af h0 hA109) (rg_w (⟨by decide, by decide⟩ : Rg 4928 4928 4928)) (fun _ _ _ _ h => h)) rfl (fun _ h => nomatch h) (fun _ _ q => q) (fun x183 h184 hx182 => ?_)
      refine tt_if_eq (tgt := 162) dX10_equal_100 rfl (fun q185 => ?_) (fun q185 => ?_)
      · skip
        have h186 : Rg 0 0 x183 := rg_eq_l h184 (⟨by decide, by decide⟩ : Rg 0 0 0) q185
        refine tt_aload_n (j := 0) dX10_equal_162 rfl ?_
        obtain ⟨b187, hr188, ho189⟩ := gi_R (k := 643) hG h0 32 4940
        refine gt_gR (id := 643) dX10_equal_163 fl_10_13 rfl rfl h0 hA109 hr188 ?_
        refine tt_sipush (v := 4929) dX10_equal_166 rfl ?_
        refine gt_iL dX10_equal_169 ho189 hA109 (rg_in (⟨by decide, by decide⟩ : Rg 4929 4929 4929)) (fun x190 => ?_)
        refine tt_iconst (v := 1) dX10_equal_170 rfl ?_
        have B191 : ∀ (S192 : Hp), GI S192 E → Af E [676, 9989] S S192 → TT xi M_X10_equal 227 [(0, .ref o0), (1, .int x1), (2, .int x2), (3, .int x3)] [] S192 kc nc P := by
          intro S192 hG193 hA194
          refine tt_aload_n (j := 0) dX10_equal_227 rfl ?_
          refine gt_gR (id := 643) dX10_equal_228 fl_10_13 rfl rfl h0 hA194 hr188 ?_
          refine tt_sipush (v := 4928) dX10_equal_231 rfl ?_
          refine gt_iL dX10_equal_234 ho189 hA194 (rg_in (⟨by decide, by decide⟩ : Rg 4928 4928 4928)) (fun x195 => ?_)
          refine tt_iconst (v := 1) dX10_equal_235 rfl ?_
          refine tt_icmp_ne (tgt := 292) dX10_equal_236 rfl (fun q196 => ?_) (fun q196 => ?_)
          · skip
            exact B111 S192 hG193 hA194
          · skip
            have h197 : Rg 1 1 x195 := rg_eq_l (rg_all x195) (⟨by decide, by decide⟩ : Rg 1 1 1) q196
            refine tt_aload_n (j := 0) dX10_equal_239 rfl ?_
            refine gt_gR (id := 643) dX10_equal_240 fl_10_13 rfl rfl h0 hA194 hr188 ?_
            refine tt_sipush (v := 4929) dX10_equal_243 rfl ?_
            refine gt_iL dX10_equal_246 ho189 hA194 (rg_in (⟨by decide, by decide⟩ : Rg 4929 4929 4929)) (fun x198 => ?_)
            refine tt_iconst (v := 2) dX10_equal_247 rfl ?_
            refine tt_icmp_ne (tgt := 264) dX10_equal_248 rfl (fun q199 => ?_) (fun q199 => ?_)
            · skip
              refine tt_aload_n (j := 0) dX10_equal_264 rfl ?_
              refine tt_sipush (v := 4851) dX10_equal_265 rfl ?_
              refine tt_sipush (v := 4929) dX10_equal_268 rfl ?_
              refine tt_iconst (v := 1) dX10_equal_271 rfl ?_
              refine tt_aload_n (j := 0) dX10_equal_272 rfl ?_
              obtain ⟨b200, hr201, ho202⟩ := gi_R (k := 644) hG h0 33 4940
              refine gt_gR (id := 644) dX10_equal_273 fl_10_16 rfl rfl h0 hA194 hr201 ?_
              refine tt_sipush (v := 4928) dX10_equal_276 rfl ?_
              refine gt_lLt dX10_equal_279 ho202 hA194 (rg_in (⟨by decide, by decide⟩ : Rg 4928 4928 4928)) ?_
              refine tt_iconst (v := 1) dX10_equal_280 rfl ?_
              refine tt_aload_n (j := 0) dX10_equal_281 rfl ?_
              obtain ⟨b203, hr204, ho205⟩ := gi_R (k := 645) hG h0 33 4940
              refine gt_gR (id := 645) dX10_equal_282 fl_10_20 rfl rfl h0 hA194 hr204 ?_
              refine tt_sipush (v := 4928) dX10_equal_285 rfl ?_
              refine gt_lLt dX10_equal_288 ho205 hA194 (rg_in (⟨by decide, by decide⟩ : Rg 4928 4928 4928)) ?_
              refine gt_Vv (As := [.int 4851, .int 4929, .int 1, .long (hp_j S192 b200 (4928 : Int32).toNatClampNeg), .int 1, .long (hp_j S192 b203 (4928 : Int32).toNatClampNeg)]) dX10_equal_289 ca_X10_263 ⟨by decide, by decide⟩ h0 hA194 rfl (Nat.le_of_ble_eq_true rfl) (Nat.le_of_ble_eq_true rfl) (by decide) (cs_X10_cut hG193 (oa_af h0 hA194) (rg_w (⟨by decide, by decide⟩ : Rg 4851 4851 4851)) (rg_w (⟨by decide, by decide⟩ : Rg 4929 4929 4929)) (rg_w (⟨by decide, by decide⟩ : Rg 1 1 1)) (rg_w (⟨by decide, by decide⟩ : Rg 1 1 1)) (fun _ _ _ _ h => h)) rfl (fun _ h => nomatch h) (fun S206 hx210 hG207 hB208 hA209 => ?_)
              exact B111 S206 hG207 hA209
            · skip
              have h211 : Rg 2 2 x198 := rg_eq_l (rg_all x198) (⟨by decide, by decide⟩ : Rg 2 2 2) q199
              refine tt_aload_n (j := 0) dX10_equal_251 rfl ?_
              refine tt_sipush (v := 4851) dX10_equal_252 rfl ?_
              refine tt_sipush (v := 4928) dX10_equal_255 rfl ?_
              refine gt_Vv (As := [.int 4851, .int 4928]) dX10_equal_258 ca_X10_169 ⟨by decide, by decide⟩ h0 hA194 rfl (Nat.le_of_ble_eq_true rfl) (Nat.le_of_ble_eq_true rfl) (by decide) (cs_X10_copy hG193 (oa_af h0 hA194) (rg_w (⟨by decide, by decide⟩ : Rg 4851 4851 4851)) (rg_w (⟨by decide, by decide⟩ : Rg 4928 4928 4928)) (fun _ _ _ _ h => h)) rfl (fun _ h => nomatch h) (fun S212 hx216 hG213 hB214 hA215 => ?_)
              refine tt_goto (tgt := 292) dX10_equal_261 rfl ?_
              exact B111 S212 hG213 hA215
        refine tt_icmp_ne (tgt := 227) dX10_equal_171 rfl (fun q217 => ?_) (fun q217 => ?_)
        · skip
          exact B191 S106 hG107 hA109
        · skip
          have h218 : Rg 1 1 x190 := rg_eq_l (rg_all x190) (⟨by decide, by decide⟩ : Rg 1 1 1) q217
          refine tt_aload_n (j := 0) dX10_equal_174 rfl ?_
          refine gt_gR (id := 643) dX10_equal_175 fl_10_13 rfl rfl h0 hA109 hr188 ?_
          refine tt_sipush (v := 4928) dX10_equal_178 rfl ?_
          refine gt_iL dX10_equal_181 ho189 hA109 (rg_in (⟨by decide, by decide⟩ : Rg 4928 4928 4928)) (fun x219 => ?_)
          refine tt_iconst (v := 2) dX10_equal_182 rfl ?_
          refine tt_icmp_ne (tgt := 199) dX10_equal_183 rfl (fun q220 => ?_) (fun q220 => ?_)
          · skip
            refine tt_aload_n (j := 0) dX10_equal_199 rfl ?_
            refine tt_sipush (v := 4850) dX10_equal_200 rfl ?_
            refine tt_sipush (v := 4928) dX10_equal_203 rfl ?_
            refine tt_iconst (v := 1) dX10_equal_206 rfl ?_
            refine tt_aload_n (j := 0) dX10_equal_207 rfl ?_
            obtain ⟨b221, hr222, ho223⟩ := gi_R (k := 644) hG h0 33 4940
            refine gt_gR (id := 644) dX10_equal_208 fl_10_16 rfl rfl h0 hA109 hr222 ?_
            refine tt_sipush (v := 4929) dX10_equal_211 rfl ?_
            refine gt_lLt dX10_equal_214 ho223 hA109 (rg_in (⟨by decide, by decide⟩ : Rg 4929 4929 4929)) ?_
            refine tt_iconst (v := 1) dX10_equal_215 rfl ?_
            refine tt_aload_n (j := 0) dX10_equal_216 rfl ?_
            obtain ⟨b224, hr225, ho226⟩ := gi_R (k := 645) hG h0 33 4940
            refine gt_gR (id := 645) dX10_equal_217 fl_10_20 rfl rfl h0 hA109 hr225 ?_
            refine tt_sipush (v := 4929) dX10_equal_220 rfl ?_
            refine gt_lLt dX10_equal_223 ho226 hA109 (rg_in (⟨by decide, by decide⟩ : Rg 4929 4929 4929)) ?_
            refine gt_Vv (As := [.int 4850, .int 4928, .int 1, .long (hp_j S106 b221 (4929 : Int32).toNatClampNeg), .int 1, .long (hp_j S106 b224 (4929 : Int32).toNatClampNeg)]) dX10_equal_224 ca_X10_263 ⟨by decide, by decide⟩ h0 hA109 rfl (Nat.le_of_ble_eq_true rfl) (Nat.le_of_ble_eq_true rfl) (by decide) (cs_X10_cut hG107 (oa_af h0 hA109) (rg_w (⟨by decide, by decide⟩ : Rg 4850 4850 4850)) (rg_w (⟨by decide, by decide⟩ : Rg 4928 4928 4928)) (rg_w (⟨by decide, by decide⟩ : Rg 1 1 1)) (rg_w (⟨by decide, by decide⟩ : Rg 1 1 1)) (fun _ _ _ _ h => h)) rfl (fun _ h => nomatch h) (fun S227 hx231 hG228 hB229 hA230 => ?_)
            exact B191 S227 hG228 hA230
          · skip
            have h232 : Rg 2 2 x219 := rg_eq_l (rg_all x219) (⟨by decide, by decide⟩ : Rg 2 2 2) q220
            refine tt_aload_n (j := 0) dX10_equal_186 rfl ?_
            refine tt_sipush (v := 4850) dX10_equal_187 rfl ?_
            refine tt_sipush (v := 4929) dX10_equal_190 rfl ?_
            refine gt_Vv (As := [.int 4850, .int 4929]) dX10_equal_193 ca_X10_169 ⟨by decide, by decide⟩ h0 hA109 rfl (Nat.le_of_ble_eq_true rfl) (Nat.le_of_ble_eq_true rfl) (by decide) (cs_X10_copy hG107 (oa_af h0 hA109) (rg_w (⟨by decide, by decide⟩ : Rg 4850 4850 4850)) (rg_w (⟨by decide, by decide⟩ : Rg 4929 4929 4929)) (fun _ _ _ _ h => h)) rfl (fun _ h => nomatch h) (fun S233 hx237 hG234 hB235 hA236 => ?_)
            refine tt_goto (tgt := 227) dX10_equal_196 rfl ?_
            exact B191 S233 hG234 hA236
      · skip
        have h238 : Rg 1 1 x183 := rg_ne_lo h184 (⟨by decide, by decide⟩ : Rg 0 0 0) q185
        exact B134 
  · skip
    have h239 : Rg 0 0 x3 := rg_eq_l h3 (⟨by decide, by decide⟩ : Rg 0 0 0) q125
    refine tt_aload_n (j := 0) dX10_equal_24 rfl ?_
    refine tt_sipush (v := 4929) dX10_equal_25 rfl ?_
    refine gt_VIp (As := [.int 4929]) dX10_equal_28 ca_X10_162 ⟨by decide, by decide⟩ h0 hA109 rfl (Nat.le_of_ble_eq_true rfl) (Nat.le_of_ble_eq_true rfl) (by decide) (cs_X10_isOne hG107 (oa_af h0 hA109) (rg_w (⟨by decide, by decide⟩ : Rg 4929 4929 4929)) (fun _ _ _ _ h => h)) rfl (fun _ h => nomatch h) (fun _ _ q => q) (fun x245 h246 hx244 => ?_)
    have B247 : ∀ (S248 : Hp), GI S248 E → Af E [676, 9989] S S248 → TT xi M_X10_equal 52 [(0, .ref o0), (1, .int x1), (2, .int x2), (3, .int x3)] [] S248 kc nc P := by
      intro S248 hG249 hA250
      refine tt_aload_n (j := 0) dX10_equal_52 rfl ?_
      refine tt_sipush (v := 4928) dX10_equal_53 rfl ?_
      refine gt_VIp (As := [.int 4928]) dX10_equal_56 ca_X10_162 ⟨by decide, by decide⟩ h0 hA250 rfl (Nat.le_of_ble_eq_true rfl) (Nat.le_of_ble_eq_true rfl) (by decide) (cs_X10_isOne hG249 (oa_af h0 hA250) (rg_w (⟨by decide, by decide⟩ : Rg 4928 4928 4928)) (fun _ _ _ _ h => h)) rfl (fun _ h => nomatch h) (fun _ _ q => q) (fun x256 h257 hx255 => ?_)
      refine tt_if_eq (tgt := 292) dX10_equal_59 rfl (fun q258 => ?_) (fun q258 => ?_)
      · skip
        have h259 : Rg 0 0 x256 := rg_eq_l h257 (⟨by decide, by decide⟩ : Rg 0 0 0) q258
        exact B111 S248 hG249 hA250
      · skip
        have h260 : Rg 1 1 x256 := rg_ne_lo h257 (⟨by decide, by decide⟩ : Rg 0 0 0) q258
        refine tt_aload_n (j := 0) dX10_equal_62 rfl ?_
        refine tt_sipush (v := 4851) dX10_equal_63 rfl ?_
        refine tt_sipush (v := 4929) dX10_equal_66 rfl ?_
        refine tt_aload_n (j := 0) dX10_equal_69 rfl ?_
        obtain ⟨b261, hr262, ho263⟩ := gi_R (k := 644) hG h0 33 4940
        refine gt_gR (id := 644) dX10_equal_70 fl_10_16 rfl rfl h0 hA250 hr262 ?_
        refine tt_sipush (v := 4928) dX10_equal_73 rfl ?_
        refine gt_lLt dX10_equal_76 ho263 hA250 (rg_in (⟨by decide, by decide⟩ : Rg 4928 4928 4928)) ?_
        refine gt_Vv (As := [.int 4851, .int 4929, .long (hp_j S248 b261 (4928 : Int32).toNatClampNeg)]) dX10_equal_77 ca_X10_256 ⟨by decide, by decide⟩ h0 hA250 rfl (Nat.le_of_ble_eq_true rfl) (Nat.le_of_ble_eq_true rfl) (by decide) (cs_X10_without hG249 (oa_af h0 hA250) (rg_w (⟨by decide, by decide⟩ : Rg 4851 4851 4851)) (rg_w (⟨by decide, by decide⟩ : Rg 4929 4929 4929)) (fun _ _ _ _ h => h)) rfl (fun _ h => nomatch h) (fun S264 hx268 hG265 hB266 hA267 => ?_)
        refine tt_goto (tgt := 292) dX10_equal_80 rfl ?_
        exact B111 S264 hG265 hA267
    refine tt_if_eq (tgt := 52) dX10_equal_31 rfl (fun q269 => ?_) (fun q269 => ?_)
    · skip
      have h270 : Rg 0 0 x245 := rg_eq_l h246 (⟨by decide, by decide⟩ : Rg 0 0 0) q269
      exact B247 S106 hG107 hA109
    · skip
      have h271 : Rg 1 1 x245 := rg_ne_lo h246 (⟨by decide, by decide⟩ : Rg 0 0 0) q269
      refine tt_aload_n (j := 0) dX10_equal_34 rfl ?_
      refine tt_sipush (v := 4850) dX10_equal_35 rfl ?_
      refine tt_sipush (v := 4928) dX10_equal_38 rfl ?_
      refine tt_aload_n (j := 0) dX10_equal_41 rfl ?_
      obtain ⟨b272, hr273, ho274⟩ := gi_R (k := 644) hG h0 33 4940
      refine gt_gR (id := 644) dX10_equal_42 fl_10_16 rfl rfl h0 hA109 hr273 ?_
      refine tt_sipush (v := 4929) dX10_equal_45 rfl ?_
      refine gt_lLt dX10_equal_48 ho274 hA109 (rg_in (⟨by decide, by decide⟩ : Rg 4929 4929 4929)) ?_
      refine gt_Vv (As := [.int 4850, .int 4928, .long (hp_j S106 b272 (4929 : Int32).toNatClampNeg)]) dX10_equal_49 ca_X10_256 ⟨by decide, by decide⟩ h0 hA109 rfl (Nat.le_of_ble_eq_true rfl) (Nat.le_of_ble_eq_true rfl) (by decide) (cs_X10_without hG107 (oa_af h0 hA109) (rg_w (⟨by decide, by decide⟩ : Rg 4850 4850 4850)) (rg_w (⟨by decide, by decide⟩ : Rg 4928 4928 4928)) (fun _ _ _ _ h => h)) rfl (fun _ h => nomatch h) (fun S275 hx279 hG276 hB277 hA278 => ?_)
      exact B247 S275 hG276 hA278
set_option maxHeartbeats 4000000 in
theorem cs_X10_below {xi : SX} {S : Hp} {E : List Nat} {kc nc : Nat} {P : Po} {o0 : Nat} {x1 : Int32} {x2 : Int32} {x3 : Int32} {x4 : Int32} (hG : GI S E) (h0 : Oa S E 10 0 o0) (h1 : Rg (-1) 31 x1) (h2 : Rg (-1) 31 x2) (h3 : Rg 0 1 x3) (h4 : Rg 0 1 x4) (hP : ∀ r T x y, PV E [676, 9989] S kc nc rV ex0 [] r T x y → P r T x y) : TT xi M_X10_below 0 [(0, .ref o0), (1, .int x1), (2, .int x2), (3, .int x3), (4, .int x4)] [] S kc nc P := by
  have hA : Af E [676, 9989] S S := af_rf
  refine tt_iload_n (j := 3) dX10_below_0 rfl ?_
  have B101 : ∀ (x102 : Int32), Rg 4928 4929 x102 → TT xi M_X10_below 13 [(0, .ref o0), (1, .int x1), (2, .int x2), (3, .int x3), (4, .int x4)] [.int x102] S kc nc P := by
    intro x102 h103
    refine tt_istore (ks := [0, 1, 2, 3, 4, 5]) (L' := [(5, .int x102), (0, .ref o0), (1, .int x1), (2, .int x2), (3, .int x3), (4, .int x4)]) dX10_below_13 (by decide) rfl ?_
    refine tt_iload_n (j := 4) dX10_below_15 rfl ?_
    have B104 : ∀ (x105 : Int32), Rg 4928 4929 x105 → TT xi M_X10_below 28 [(0, .ref o0), (1, .int x1), (2, .int x2), (3, .int x3), (4, .int x4), (5, .int x102)] [.int x105] S kc nc P := by
      intro x105 h106
      refine tt_istore (ks := [0, 1, 2, 3, 4, 5, 6]) (L' := [(6, .int x105), (0, .ref o0), (1, .int x1), (2, .int x2), (3, .int x3), (4, .int x4), (5, .int x102)]) dX10_below_28 (by decide) rfl ?_
      refine tt_iload (j := 5) dX10_below_30 rfl ?_
      have B107 : ∀ (y108 : Int64), Rl 0 1 y108 → TT xi M_X10_below 40 [(0, .ref o0), (1, .int x1), (2, .int x2), (3, .int x3), (4, .int x4), (5, .int x102), (6, .int x105)] [.long y108] S kc nc P := by
        intro y108 h109
        refine tt_lstore (ks := [0, 1, 2, 3, 4, 5, 6, 7]) (L' := [(7, .long y108), (0, .ref o0), (1, .int x1), (2, .int x2), (3, .int x3), (4, .int x4), (5, .int x102), (6, .int x105)]) dX10_below_40 (by decide) rfl ?_
        refine tt_aload_n (j := 1) dX10_below_42 rfl ?_
        refine tt_sipush (v := 4850) dX10_below_43 rfl ?_
        refine tt_iload (j := 6) dX10_below_46 rfl ?_
        refine gt_Vv (As := [.int 4850, .int x102]) dX10_below_48 ca_X10_169 ⟨by decide, by decide⟩ h0 hA rfl (Nat.le_of_ble_eq_true rfl) (Nat.le_of_ble_eq_true rfl) (by decide) (cs_X10_copy hG (oa_af h0 hA) (rg_w (⟨by decide, by decide⟩ : Rg 4850 4850 4850)) (rg_w h103) (fun _ _ _ _ h => h)) rfl (fun _ h => nomatch h) (fun S110 hx114 hG111 hB112 hA113 => ?_)
        refine tt_aload_n (j := 1) dX10_below_51 rfl ?_
        refine tt_sipush (v := 4851) dX10_below_52 rfl ?_
        refine tt_iload (j := 7) dX10_below_55 rfl ?_
        refine gt_Vv (As := [.int 4851, .int x105]) dX10_below_57 ca_X10_169 ⟨by decide, by decide⟩ h0 hA113 rfl (Nat.le_of_ble_eq_true rfl) (Nat.le_of_ble_eq_true rfl) (by decide) (cs_X10_copy hG111 (oa_af h0 hA113) (rg_w (⟨by decide, by decide⟩ : Rg 4851 4851 4851)) (rg_w h106) (fun _ _ _ _ h => h)) rfl (fun _ h => nomatch h) (fun S115 hx119 hG116 hB117 hA118 => ?_)
        refine tt_aload_n (j := 1) dX10_below_60 rfl ?_
        obtain ⟨b120, hr121, ho122⟩ := gi_R (k := 643) hG h0 32 4940
        refine gt_gR (id := 643) dX10_below_61 fl_10_13 rfl rfl h0 hA118 hr121 ?_
        refine tt_iload (j := 7) dX10_below_64 rfl ?_
        refine gt_iL dX10_below_66 ho122 hA118 (rg_in h106) (fun x123 => ?_)
        refine tt_iconst (v := 1) dX10_below_67 rfl ?_
        have B124 : ∀ (S125 : Hp), GI S125 E → Af E [676, 9989] S S125 → TT xi M_X10_below 93 [(0, .ref o0), (1, .int x1), (2, .int x2), (3, .int x3), (4, .int x4), (5, .int x102), (6, .int x105), (7, .long y108)] [] S125 kc nc P := by
          intro S125 hG126 hA127
          refine tt_aload_n (j := 0) dX10_below_93 rfl ?_
          refine gt_gR (id := 643) dX10_below_94 fl_10_13 rfl rfl h0 hA127 hr121 ?_
          refine tt_iload (j := 5) dX10_below_97 rfl ?_
          refine gt_iL dX10_below_99 ho122 hA127 (rg_in h103) (fun x128 => ?_)
          refine tt_iconst (v := 1) dX10_below_100 rfl ?_
          have B129 : ∀ (S130 : Hp), GI S130 E → Af E [676, 9989] S S130 → TT xi M_X10_below 126 [(0, .ref o0), (1, .int x1), (2, .int x2), (3, .int x3), (4, .int x4), (5, .int x102), (6, .int x105), (7, .long y108)] [] S130 kc nc P := by
            intro S130 hG131 hA132
            refine tt_aload_n (j := 0) dX10_below_126 rfl ?_
            refine tt_iload_n (j := 1) dX10_below_127 rfl ?_
            refine tt_iload_n (j := 3) dX10_below_128 rfl ?_
            have B133 : ∀ (x134 : Int32), Rg 4850 4939 x134 → TT xi M_X10_below 141 [(0, .ref o0), (1, .int x1), (2, .int x2), (3, .int x3), (4, .int x4), (5, .int x102), (6, .int x105), (7, .long y108)] [.int x134, .int x1, .ref o0] S130 kc nc P := by
              intro x134 h135
              refine gt_Vv (As := [.int x1, .int x134]) dX10_below_141 ca_X10_267 ⟨by decide, by decide⟩ h0 hA132 rfl (Nat.le_of_ble_eq_true rfl) (Nat.le_of_ble_eq_true rfl) (by decide) (cs_X10_lay hG131 (oa_af h0 hA132) (rg_w h1) (rg_w h135) (fun _ _ _ _ h => h)) rfl (fun _ h => nomatch h) (fun S136 hx140 hG137 hB138 hA139 => ?_)
              refine tt_aload_n (j := 0) dX10_below_144 rfl ?_
              refine tt_iload_n (j := 2) dX10_below_145 rfl ?_
              refine tt_iload_n (j := 3) dX10_below_146 rfl ?_
              have B141 : ∀ (x142 : Int32), Rg 4799 4851 x142 → TT xi M_X10_below 159 [(0, .ref o0), (1, .int x1), (2, .int x2), (3, .int x3), (4, .int x4), (5, .int x102), (6, .int x105), (7, .long y108)] [.int x142, .int x2, .ref o0] S136 kc nc P := by
                intro x142 h143
                refine gt_Vv (As := [.int x2, .int x142]) dX10_below_159 ca_X10_267 ⟨by decide, by decide⟩ h0 hA139 rfl (Nat.le_of_ble_eq_true rfl) (Nat.le_of_ble_eq_true rfl) (by decide) (cs_X10_lay hG137 (oa_af h0 hA139) (rg_w h2) (rg_w h143) (fun _ _ _ _ h => h)) rfl (fun _ h => nomatch h) (fun S144 hx148 hG145 hB146 hA147 => ?_)
                exact tt_vreturn dX10_below_162 rfl (hP _ _ _ _ ⟨hG145, hA147, Or.inl ⟨_, rfl, rfl, trivial, rfl, rfl⟩⟩)
              refine tt_if_eq (tgt := 156) dX10_below_147 rfl (fun q149 => ?_) (fun q149 => ?_)
              · skip
                have h150 : Rg 0 0 x3 := rg_eq_l h3 (⟨by decide, by decide⟩ : Rg 0 0 0) q149
                refine tt_sipush (v := 4851) dX10_below_156 rfl ?_
                exact B141 4851 (rg_w (⟨by decide, by decide⟩ : Rg 4851 4851 4851))
              · skip
                have h151 : Rg 1 1 x3 := rg_ne_lo h3 (⟨by decide, by decide⟩ : Rg 0 0 0) q149
                refine tt_sipush (v := 4850) dX10_below_150 rfl ?_
                refine tt_goto (tgt := 159) dX10_below_153 rfl ?_
                exact B141 4850 (rg_w (⟨by decide, by decide⟩ : Rg 4850 4850 4850))
            refine tt_if_eq (tgt := 138) dX10_below_129 rfl (fun q152 => ?_) (fun q152 => ?_)
            · skip
              have h153 : Rg 0 0 x3 := rg_eq_l h3 (⟨by decide, by decide⟩ : Rg 0 0 0) q152
              refine tt_sipush (v := 4850) dX10_below_138 rfl ?_
              exact B133 4850 (rg_w (⟨by decide, by decide⟩ : Rg 4850 4850 4850))
            · skip
              have h154 : Rg 1 1 x3 := rg_ne_lo h3 (⟨by decide, by decide⟩ : Rg 0 0 0) q152
              refine tt_sipush (v := 4851) dX10_below_132 rfl ?_
              refine tt_goto (tgt := 141) dX10_below_135 rfl ?_
              exact B133 4851 (rg_w (⟨by decide, by decide⟩ : Rg 4851 4851 4851))
          refine tt_icmp_ne (tgt := 126) dX10_below_101 rfl (fun q155 => ?_) (fun q155 => ?_)
          · skip
            exact B129 S125 hG126 hA127
          · skip
            have h156 : Rg 1 1 x128 := rg_eq_l (rg_all x128) (⟨by decide, by decide⟩ : Rg 1 1 1) q155
            refine tt_aload_n (j := 0) dX10_below_104 rfl ?_
            refine tt_sipush (v := 4851) dX10_below_105 rfl ?_
            refine tt_iload (j := 6) dX10_below_108 rfl ?_
            refine tt_iconst (v := 1) dX10_below_110 rfl ?_
            refine tt_aload_n (j := 0) dX10_below_111 rfl ?_
            obtain ⟨b157, hr158, ho159⟩ := gi_R (k := 644) hG h0 33 4940
            refine gt_gR (id := 644) dX10_below_112 fl_10_16 rfl rfl h0 hA127 hr158 ?_
            refine tt_iload (j := 5) dX10_below_115 rfl ?_
            refine gt_lLt dX10_below_117 ho159 hA127 (rg_in h103) ?_
            refine tt_lload (j := 7) dX10_below_118 rfl ?_
            refine tt_ladd dX10_below_120 (gt_tl (fun y160 => ?_))
            refine tt_iconst (v := 0) dX10_below_121 rfl ?_
            refine tt_lconst (v := 0) dX10_below_122 rfl ?_
            refine gt_Vv (As := [.int 4851, .int x105, .int 1, .long y160, .int 0, .long 0]) dX10_below_123 ca_X10_263 ⟨by decide, by decide⟩ h0 hA127 rfl (Nat.le_of_ble_eq_true rfl) (Nat.le_of_ble_eq_true rfl) (by decide) (cs_X10_cut hG126 (oa_af h0 hA127) (rg_w (⟨by decide, by decide⟩ : Rg 4851 4851 4851)) (rg_w h106) (rg_w (⟨by decide, by decide⟩ : Rg 1 1 1)) (rg_w (⟨by decide, by decide⟩ : Rg 0 0 0)) (fun _ _ _ _ h => h)) rfl (fun _ h => nomatch h) (fun S161 hx165 hG162 hB163 hA164 => ?_)
            exact B129 S161 hG162 hA164
        refine tt_icmp_ne (tgt := 93) dX10_below_68 rfl (fun q166 => ?_) (fun q166 => ?_)
        · skip
          exact tt_loc (ks := [1, 2, 3, 4, 5, 6, 7, 0]) rfl (B124 S115 hG116 hA118)
        · skip
          have h167 : Rg 1 1 x123 := rg_eq_l (rg_all x123) (⟨by decide, by decide⟩ : Rg 1 1 1) q166
          refine tt_aload_n (j := 1) dX10_below_71 rfl ?_
          refine tt_sipush (v := 4850) dX10_below_72 rfl ?_
          refine tt_iload (j := 6) dX10_below_75 rfl ?_
          refine tt_iconst (v := 0) dX10_below_77 rfl ?_
          refine tt_lconst (v := 0) dX10_below_78 rfl ?_
          refine tt_iconst (v := 1) dX10_below_79 rfl ?_
          refine tt_aload_n (j := 1) dX10_below_80 rfl ?_
          obtain ⟨b168, hr169, ho170⟩ := gi_R (k := 645) hG h0 33 4940
          refine gt_gR (id := 645) dX10_below_81 fl_10_20 rfl rfl h0 hA118 hr169 ?_
          refine tt_iload (j := 7) dX10_below_84 rfl ?_
          refine gt_lLt dX10_below_86 ho170 hA118 (rg_in h106) ?_
          refine tt_lload (j := 0) dX10_below_87 rfl ?_
          refine tt_lsub dX10_below_89 (gt_tl (fun y171 => ?_))
          refine gt_Vv (As := [.int 4850, .int x102, .int 0, .long 0, .int 1, .long y171]) dX10_below_90 ca_X10_263 ⟨by decide, by decide⟩ h0 hA118 rfl (Nat.le_of_ble_eq_true rfl) (Nat.le_of_ble_eq_true rfl) (by decide) (cs_X10_cut hG116 (oa_af h0 hA118) (rg_w (⟨by decide, by decide⟩ : Rg 4850 4850 4850)) (rg_w h103) (rg_w (⟨by decide, by decide⟩ : Rg 0 0 0)) (rg_w (⟨by decide, by decide⟩ : Rg 1 1 1)) (fun _ _ _ _ h => h)) rfl (fun _ h => nomatch h) (fun S172 hx176 hG173 hB174 hA175 => ?_)
          exact tt_loc (ks := [1, 2, 3, 4, 5, 6, 7, 0]) rfl (B124 S172 hG173 hA175)
      refine tt_if_eq (tgt := 39) dX10_below_32 rfl (fun q177 => ?_) (fun q177 => ?_)
      · skip
        have h178 : Rg 0 0 x4 := rg_eq_l h4 (⟨by decide, by decide⟩ : Rg 0 0 0) q177
        refine tt_lconst (v := 0) dX10_below_39 rfl ?_
        exact tt_loc (ks := [1, 2, 3, 4, 5, 6, 0]) rfl (B107 0 (rl_w (⟨by decide, by decide⟩ : Rl 0 0 0)))
      · skip
        have h179 : Rg 1 1 x4 := rg_ne_lo h4 (⟨by decide, by decide⟩ : Rg 0 0 0) q177
        refine tt_lconst (v := 1) dX10_below_35 rfl ?_
        refine tt_goto (tgt := 40) dX10_below_36 rfl ?_
        exact tt_loc (ks := [1, 2, 3, 4, 5, 6, 0]) rfl (B107 1 (rl_w (⟨by decide, by decide⟩ : Rl 1 1 1)))
    refine tt_if_eq (tgt := 25) dX10_below_16 rfl (fun q180 => ?_) (fun q180 => ?_)
    · skip
      have h181 : Rg 0 0 x3 := rg_eq_l h3 (⟨by decide, by decide⟩ : Rg 0 0 0) q180
      refine tt_sipush (v := 4929) dX10_below_25 rfl ?_
      exact tt_loc (ks := [1, 2, 3, 4, 5, 0]) rfl (B104 4929 (rg_w (⟨by decide, by decide⟩ : Rg 4929 4929 4929)))
    · skip
      have h182 : Rg 1 1 x3 := rg_ne_lo h3 (⟨by decide, by decide⟩ : Rg 0 0 0) q180
      refine tt_sipush (v := 4928) dX10_below_19 rfl ?_
      refine tt_goto (tgt := 28) dX10_below_22 rfl ?_
      exact tt_loc (ks := [1, 2, 3, 4, 5, 0]) rfl (B104 4928 (rg_w (⟨by decide, by decide⟩ : Rg 4928 4928 4928)))
  refine tt_if_eq (tgt := 10) dX10_below_1 rfl (fun q183 => ?_) (fun q183 => ?_)
  · skip
    have h184 : Rg 0 0 x3 := rg_eq_l h3 (⟨by decide, by decide⟩ : Rg 0 0 0) q183
    refine tt_sipush (v := 4928) dX10_below_10 rfl ?_
    exact B101 4928 (rg_w (⟨by decide, by decide⟩ : Rg 4928 4928 4928))
  · skip
    have h185 : Rg 1 1 x3 := rg_ne_lo h3 (⟨by decide, by decide⟩ : Rg 0 0 0) q183
    refine tt_sipush (v := 4929) dX10_below_4 rfl ?_
    refine tt_goto (tgt := 13) dX10_below_7 rfl ?_
    exact B101 4929 (rg_w (⟨by decide, by decide⟩ : Rg 4929 4929 4929))
set_option maxHeartbeats 4000000 in
theorem cs_X10_lower {xi : SX} {S : Hp} {E : List Nat} {kc nc : Nat} {P : Po} {o0 : Nat} {x1 : Int32} {x2 : Int32} {x3 : Int32} {x4 : Int32} (hG : GI S E) (h0 : Oa S E 10 0 o0) (h1 : Rg (-1) 31 x1) (h2 : Rg (-1) 31 x2) (h3 : Rg 0 1 x3) (h4 : Rg 0 1 x4) (hP : ∀ r T x y, PV E [676, 9989] S kc nc rV ex0 [] r T x y → P r T x y) : TT xi M_X10_lower 0 [(0, .ref o0), (1, .int x1), (2, .int x2), (3, .int x3), (4, .int x4)] [] S kc nc P := by
  have hA : Af E [676, 9989] S S := af_rf
  refine tt_iload_n (j := 3) dX10_lower_0 rfl ?_
  have B101 : ∀ (x102 : Int32), Rg 4928 4929 x102 → TT xi M_X10_lower 13 [(0, .ref o0), (1, .int x1), (2, .int x2), (3, .int x3), (4, .int x4)] [.int x102] S kc nc P := by
    intro x102 h103
    refine tt_istore (ks := [0, 1, 2, 3, 4, 5]) (L' := [(5, .int x102), (0, .ref o0), (1, .int x1), (2, .int x2), (3, .int x3), (4, .int x4)]) dX10_lower_13 (by decide) rfl ?_
    refine tt_iload_n (j := 4) dX10_lower_15 rfl ?_
    have B104 : ∀ (x105 : Int32), Rg 4928 4929 x105 → TT xi M_X10_lower 28 [(0, .ref o0), (1, .int x1), (2, .int x2), (3, .int x3), (4, .int x4), (5, .int x102)] [.int x105] S kc nc P := by
      intro x105 h106
      refine tt_istore (ks := [0, 1, 2, 3, 4, 5, 6]) (L' := [(6, .int x105), (0, .ref o0), (1, .int x1), (2, .int x2), (3, .int x3), (4, .int x4), (5, .int x102)]) dX10_lower_28 (by decide) rfl ?_
      refine tt_iload (j := 5) dX10_lower_30 rfl ?_
      have B107 : ∀ (y108 : Int64), Rl 0 1 y108 → TT xi M_X10_lower 40 [(0, .ref o0), (1, .int x1), (2, .int x2), (3, .int x3), (4, .int x4), (5, .int x102), (6, .int x105)] [.long y108] S kc nc P := by
        intro y108 h109
        refine tt_lstore (ks := [0, 1, 2, 3, 4, 5, 6, 7]) (L' := [(7, .long y108), (0, .ref o0), (1, .int x1), (2, .int x2), (3, .int x3), (4, .int x4), (5, .int x102), (6, .int x105)]) dX10_lower_40 (by decide) rfl ?_
        refine tt_aload_n (j := 1) dX10_lower_42 rfl ?_
        obtain ⟨b110, hr111, ho112⟩ := gi_R (k := 643) hG h0 32 4940
        refine gt_gR (id := 643) dX10_lower_43 fl_10_13 rfl rfl h0 hA hr111 ?_
        refine tt_iload (j := 7) dX10_lower_46 rfl ?_
        refine gt_iL dX10_lower_48 ho112 hA (rg_in h106) (fun x113 => ?_)
        refine tt_iconst (v := 1) dX10_lower_49 rfl ?_
        have B114 : TT xi M_X10_lower 65 [(0, .ref o0), (1, .int x1), (2, .int x2), (3, .int x3), (4, .int x4), (5, .int x102), (6, .int x105), (7, .long y108)] [] S kc nc P := by
          exact tt_vreturn dX10_lower_65 rfl (hP _ _ _ _ ⟨hG, hA, Or.inl ⟨_, rfl, rfl, trivial, rfl, rfl⟩⟩)
        refine tt_icmp_ne (tgt := 65) dX10_lower_50 rfl (fun q115 => ?_) (fun q115 => ?_)
        · skip
          exact tt_loc (ks := [1, 2, 3, 4, 5, 6, 7, 0]) rfl (B114 )
        · skip
          have h116 : Rg 1 1 x113 := rg_eq_l (rg_all x113) (⟨by decide, by decide⟩ : Rg 1 1 1) q115
          refine tt_aload_n (j := 1) dX10_lower_53 rfl ?_
          obtain ⟨b117, hr118, ho119⟩ := gi_R (k := 644) hG h0 33 4940
          refine gt_gR (id := 644) dX10_lower_54 fl_10_16 rfl rfl h0 hA hr118 ?_
          refine tt_iload (j := 7) dX10_lower_57 rfl ?_
          refine gt_lLt dX10_lower_59 ho119 hA (rg_in h106) ?_
          refine tt_lconst (v := 0) dX10_lower_60 rfl ?_
          refine tt_lcmp dX10_lower_61 ?_
          refine tt_if_ge (tgt := 66) dX10_lower_62 rfl (fun q120 => ?_) (fun q120 => ?_)
          · skip
            have h121 : Rl 0 9223372036854775807 (hp_j S b117 (x105 : Int32).toNatClampNeg) := rl_le_r (⟨by decide, by decide⟩ : Rl 0 0 0) (rl_all (hp_j S b117 (x105 : Int32).toNatClampNeg)) (lc_ge_t q120)
            refine tt_aload_n (j := 1) dX10_lower_66 rfl ?_
            refine tt_sipush (v := 4851) dX10_lower_67 rfl ?_
            refine tt_iload (j := 7) dX10_lower_70 rfl ?_
            refine gt_Vv (As := [.int 4851, .int x105]) dX10_lower_72 ca_X10_169 ⟨by decide, by decide⟩ h0 hA rfl (Nat.le_of_ble_eq_true rfl) (Nat.le_of_ble_eq_true rfl) (by decide) (cs_X10_copy hG (oa_af h0 hA) (rg_w (⟨by decide, by decide⟩ : Rg 4851 4851 4851)) (rg_w h106) (fun _ _ _ _ h => h)) rfl (fun _ h => nomatch h) (fun S122 hx126 hG123 hB124 hA125 => ?_)
            refine tt_aload_n (j := 1) dX10_lower_75 rfl ?_
            refine gt_gR (id := 643) dX10_lower_76 fl_10_13 rfl rfl h0 hA125 hr111 ?_
            refine tt_iload (j := 6) dX10_lower_79 rfl ?_
            refine gt_iL dX10_lower_81 ho112 hA125 (rg_in h103) (fun x127 => ?_)
            refine tt_iconst (v := 1) dX10_lower_82 rfl ?_
            have B128 : ∀ (S129 : Hp), GI S129 E → Af E [676, 9989] S S129 → TT xi M_X10_lower 192 [(0, .ref o0), (1, .int x1), (2, .int x2), (3, .int x3), (4, .int x4), (5, .int x102), (6, .int x105), (7, .long y108)] [] S129 kc nc P := by
              intro S129 hG130 hA131
              refine tt_aload_n (j := 0) dX10_lower_192 rfl ?_
              refine tt_iload_n (j := 1) dX10_lower_193 rfl ?_
              refine tt_iload_n (j := 3) dX10_lower_194 rfl ?_
              have B132 : ∀ (x133 : Int32), Rg 4850 4939 x133 → TT xi M_X10_lower 207 [(0, .ref o0), (1, .int x1), (2, .int x2), (3, .int x3), (4, .int x4), (5, .int x102), (6, .int x105), (7, .long y108)] [.int x133, .int x1, .ref o0] S129 kc nc P := by
                intro x133 h134
                refine gt_Vv (As := [.int x1, .int x133]) dX10_lower_207 ca_X10_267 ⟨by decide, by decide⟩ h0 hA131 rfl (Nat.le_of_ble_eq_true rfl) (Nat.le_of_ble_eq_true rfl) (by decide) (cs_X10_lay hG130 (oa_af h0 hA131) (rg_w h1) (rg_w h134) (fun _ _ _ _ h => h)) rfl (fun _ h => nomatch h) (fun S135 hx139 hG136 hB137 hA138 => ?_)
                refine tt_aload_n (j := 0) dX10_lower_210 rfl ?_
                refine tt_iload_n (j := 2) dX10_lower_211 rfl ?_
                refine tt_iload_n (j := 3) dX10_lower_212 rfl ?_
                have B140 : ∀ (x141 : Int32), Rg 4799 4851 x141 → TT xi M_X10_lower 225 [(0, .ref o0), (1, .int x1), (2, .int x2), (3, .int x3), (4, .int x4), (5, .int x102), (6, .int x105), (7, .long y108)] [.int x141, .int x2, .ref o0] S135 kc nc P := by
                  intro x141 h142
                  refine gt_Vv (As := [.int x2, .int x141]) dX10_lower_225 ca_X10_267 ⟨by decide, by decide⟩ h0 hA138 rfl (Nat.le_of_ble_eq_true rfl) (Nat.le_of_ble_eq_true rfl) (by decide) (cs_X10_lay hG136 (oa_af h0 hA138) (rg_w h2) (rg_w h142) (fun _ _ _ _ h => h)) rfl (fun _ h => nomatch h) (fun S143 hx147 hG144 hB145 hA146 => ?_)
                  exact tt_vreturn dX10_lower_228 rfl (hP _ _ _ _ ⟨hG144, hA146, Or.inl ⟨_, rfl, rfl, trivial, rfl, rfl⟩⟩)
                refine tt_if_eq (tgt := 222) dX10_lower_213 rfl (fun q148 => ?_) (fun q148 => ?_)
                · skip
                  have h149 : Rg 0 0 x3 := rg_eq_l h3 (⟨by decide, by decide⟩ : Rg 0 0 0) q148
                  refine tt_sipush (v := 4851) dX10_lower_222 rfl ?_
                  exact B140 4851 (rg_w (⟨by decide, by decide⟩ : Rg 4851 4851 4851))
                · skip
                  have h150 : Rg 1 1 x3 := rg_ne_lo h3 (⟨by decide, by decide⟩ : Rg 0 0 0) q148
                  refine tt_sipush (v := 4850) dX10_lower_216 rfl ?_
                  refine tt_goto (tgt := 225) dX10_lower_219 rfl ?_
                  exact B140 4850 (rg_w (⟨by decide, by decide⟩ : Rg 4850 4850 4850))
              refine tt_if_eq (tgt := 204) dX10_lower_195 rfl (fun q151 => ?_) (fun q151 => ?_)
              · skip
                have h152 : Rg 0 0 x3 := rg_eq_l h3 (⟨by decide, by decide⟩ : Rg 0 0 0) q151
                refine tt_sipush (v := 4850) dX10_lower_204 rfl ?_
                exact B132 4850 (rg_w (⟨by decide, by decide⟩ : Rg 4850 4850 4850))
              · skip
                have h153 : Rg 1 1 x3 := rg_ne_lo h3 (⟨by decide, by decide⟩ : Rg 0 0 0) q151
                refine tt_sipush (v := 4851) dX10_lower_198 rfl ?_
                refine tt_goto (tgt := 207) dX10_lower_201 rfl ?_
                exact B132 4851 (rg_w (⟨by decide, by decide⟩ : Rg 4851 4851 4851))
            refine tt_icmp_ne (tgt := 145) dX10_lower_83 rfl (fun q154 => ?_) (fun q154 => ?_)
            · skip
              refine tt_aload_n (j := 1) dX10_lower_145 rfl ?_
              obtain ⟨b155, hr156, ho157⟩ := gi_R (k := 645) hG h0 33 4940
              refine gt_gR (id := 645) dX10_lower_146 fl_10_20 rfl rfl h0 hA125 hr156 ?_
              refine tt_iload (j := 7) dX10_lower_149 rfl ?_
              refine gt_lLt dX10_lower_151 ho157 hA125 (rg_in h106) ?_
              refine tt_lload (j := 0) dX10_lower_152 rfl ?_
              refine tt_lsub dX10_lower_154 (gt_tl (fun y158 => ?_))
              refine tt_lconst (v := 0) dX10_lower_155 rfl ?_
              refine tt_lcmp dX10_lower_156 ?_
              refine tt_if_ge (tgt := 172) dX10_lower_157 rfl (fun q159 => ?_) (fun q159 => ?_)
              · skip
                have h160 : Rl 0 9223372036854775807 y158 := rl_le_r (⟨by decide, by decide⟩ : Rl 0 0 0) (rl_all y158) (lc_ge_t q159)
                refine tt_aload_n (j := 1) dX10_lower_172 rfl ?_
                refine tt_sipush (v := 4850) dX10_lower_173 rfl ?_
                refine tt_iconst (v := 1) dX10_lower_176 rfl ?_
                refine tt_lconst (v := 0) dX10_lower_177 rfl ?_
                refine tt_aload_n (j := 1) dX10_lower_178 rfl ?_
                refine gt_gR (id := 645) dX10_lower_179 fl_10_20 rfl rfl h0 hA125 hr156 ?_
                refine tt_iload (j := 7) dX10_lower_182 rfl ?_
                refine gt_lLt dX10_lower_184 ho157 hA125 (rg_in h106) ?_
                refine tt_lload (j := 0) dX10_lower_185 rfl ?_
                refine tt_lsub dX10_lower_187 (gt_tl (fun y161 => ?_))
                refine tt_lconst (v := 1) dX10_lower_188 rfl ?_
                refine gt_Vv (As := [.int 4850, .int 1, .long 0, .long y161, .long 1]) dX10_lower_189 ca_X10_165 ⟨by decide, by decide⟩ h0 hA125 rfl (Nat.le_of_ble_eq_true rfl) (Nat.le_of_ble_eq_true rfl) (by decide) (cs_X10_make hG123 (oa_af h0 hA125) (rg_w (⟨by decide, by decide⟩ : Rg 4850 4850 4850)) (fun _ _ _ _ h => h)) rfl (fun _ h => nomatch h) (fun S162 hx166 hG163 hB164 hA165 => ?_)
                exact tt_loc (ks := [1, 2, 3, 4, 5, 6, 7, 0]) rfl (B128 S162 hG163 hA165)
              · skip
                have h167 : Rl (-9223372036854775808) (-1) y158 := rl_lt_l (rl_all y158) (⟨by decide, by decide⟩ : Rl 0 0 0) (lc_ge_f q159)
                refine tt_aload_n (j := 1) dX10_lower_160 rfl ?_
                refine gt_gR (id := 643) dX10_lower_161 fl_10_13 rfl rfl h0 hA125 hr111 ?_
                refine tt_sipush (v := 4850) dX10_lower_164 rfl ?_
                refine tt_iconst (v := 0) dX10_lower_167 rfl ?_
                refine gt_iS dX10_lower_168 ho112 hA125 (Or.inl (by decide)) (rg_in (⟨by decide, by decide⟩ : Rg 4850 4850 4850)) hG123 (by decide) (fun S168 hG169 hA170 e171 f172 er173 => ?_)
                refine tt_goto (tgt := 192) dX10_lower_169 rfl ?_
                exact tt_loc (ks := [1, 2, 3, 4, 5, 6, 7, 0]) rfl (B128 S168 hG169 hA170)
            · skip
              have h174 : Rg 1 1 x127 := rg_eq_l (rg_all x127) (⟨by decide, by decide⟩ : Rg 1 1 1) q154
              refine tt_aload_n (j := 1) dX10_lower_86 rfl ?_
              refine tt_sipush (v := 4850) dX10_lower_87 rfl ?_
              refine tt_iload (j := 6) dX10_lower_90 rfl ?_
              refine tt_iconst (v := 1) dX10_lower_92 rfl ?_
              refine tt_lconst (v := 0) dX10_lower_93 rfl ?_
              refine tt_iconst (v := 1) dX10_lower_94 rfl ?_
              refine tt_aload_n (j := 1) dX10_lower_95 rfl ?_
              obtain ⟨b175, hr176, ho177⟩ := gi_R (k := 645) hG h0 33 4940
              refine gt_gR (id := 645) dX10_lower_96 fl_10_20 rfl rfl h0 hA125 hr176 ?_
              refine tt_iload (j := 7) dX10_lower_99 rfl ?_
              refine gt_lLt dX10_lower_101 ho177 hA125 (rg_in h106) ?_
              refine tt_lload (j := 0) dX10_lower_102 rfl ?_
              refine tt_lsub dX10_lower_104 (gt_tl (fun y178 => ?_))
              refine gt_Vv (As := [.int 4850, .int x102, .int 1, .long 0, .int 1, .long y178]) dX10_lower_105 ca_X10_263 ⟨by decide, by decide⟩ h0 hA125 rfl (Nat.le_of_ble_eq_true rfl) (Nat.le_of_ble_eq_true rfl) (by decide) (cs_X10_cut hG123 (oa_af h0 hA125) (rg_w (⟨by decide, by decide⟩ : Rg 4850 4850 4850)) (rg_w h103) (rg_w (⟨by decide, by decide⟩ : Rg 1 1 1)) (rg_w (⟨by decide, by decide⟩ : Rg 1 1 1)) (fun _ _ _ _ h => h)) rfl (fun _ h => nomatch h) (fun S179 hx183 hG180 hB181 hA182 => ?_)
              refine tt_aload_n (j := 1) dX10_lower_108 rfl ?_
              refine gt_gR (id := 644) dX10_lower_109 fl_10_16 rfl rfl h0 hA182 hr118 ?_
              refine tt_iload (j := 6) dX10_lower_112 rfl ?_
              refine gt_lLt dX10_lower_114 ho119 hA182 (rg_in h103) ?_
              refine tt_lconst (v := 0) dX10_lower_115 rfl ?_
              refine tt_lcmp dX10_lower_116 ?_
              refine tt_if_lt (tgt := 192) dX10_lower_117 rfl (fun q184 => ?_) (fun q184 => ?_)
              · skip
                have h185 : Rl (-9223372036854775808) (-1) (hp_j S179 b117 (x102 : Int32).toNatClampNeg) := rl_lt_l (rl_all (hp_j S179 b117 (x102 : Int32).toNatClampNeg)) (⟨by decide, by decide⟩ : Rl 0 0 0) (lc_lt_t q184)
                exact tt_loc (ks := [1, 2, 3, 4, 5, 6, 7, 0]) rfl (B128 S179 hG180 hA182)
              · skip
                have h186 : Rl 0 9223372036854775807 (hp_j S179 b117 (x102 : Int32).toNatClampNeg) := rl_le_r (⟨by decide, by decide⟩ : Rl 0 0 0) (rl_all (hp_j S179 b117 (x102 : Int32).toNatClampNeg)) (lc_lt_f q184)
                refine tt_aload_n (j := 1) dX10_lower_120 rfl ?_
                refine tt_sipush (v := 4851) dX10_lower_121 rfl ?_
                refine tt_iload (j := 7) dX10_lower_124 rfl ?_
                refine tt_iconst (v := 1) dX10_lower_126 rfl ?_
                refine tt_aload_n (j := 1) dX10_lower_127 rfl ?_
                refine gt_gR (id := 644) dX10_lower_128 fl_10_16 rfl rfl h0 hA182 hr118 ?_
                refine tt_iload (j := 6) dX10_lower_131 rfl ?_
                refine gt_lLt dX10_lower_133 ho119 hA182 (rg_in h103) ?_
                refine tt_lload (j := 0) dX10_lower_134 rfl ?_
                refine tt_ladd dX10_lower_136 (gt_tl (fun y187 => ?_))
                refine tt_iconst (v := 0) dX10_lower_137 rfl ?_
                refine tt_lconst (v := 0) dX10_lower_138 rfl ?_
                refine gt_Vv (As := [.int 4851, .int x105, .int 1, .long y187, .int 0, .long 0]) dX10_lower_139 ca_X10_263 ⟨by decide, by decide⟩ h0 hA182 rfl (Nat.le_of_ble_eq_true rfl) (Nat.le_of_ble_eq_true rfl) (by decide) (cs_X10_cut hG180 (oa_af h0 hA182) (rg_w (⟨by decide, by decide⟩ : Rg 4851 4851 4851)) (rg_w h106) (rg_w (⟨by decide, by decide⟩ : Rg 1 1 1)) (rg_w (⟨by decide, by decide⟩ : Rg 0 0 0)) (fun _ _ _ _ h => h)) rfl (fun _ h => nomatch h) (fun S188 hx192 hG189 hB190 hA191 => ?_)
                refine tt_goto (tgt := 192) dX10_lower_142 rfl ?_
                exact tt_loc (ks := [1, 2, 3, 4, 5, 6, 7, 0]) rfl (B128 S188 hG189 hA191)
          · skip
            have h193 : Rl (-9223372036854775808) (-1) (hp_j S b117 (x105 : Int32).toNatClampNeg) := rl_lt_l (rl_all (hp_j S b117 (x105 : Int32).toNatClampNeg)) (⟨by decide, by decide⟩ : Rl 0 0 0) (lc_ge_f q120)
            exact tt_loc (ks := [1, 2, 3, 4, 5, 6, 7, 0]) rfl (B114 )
      refine tt_if_eq (tgt := 39) dX10_lower_32 rfl (fun q194 => ?_) (fun q194 => ?_)
      · skip
        have h195 : Rg 0 0 x4 := rg_eq_l h4 (⟨by decide, by decide⟩ : Rg 0 0 0) q194
        refine tt_lconst (v := 0) dX10_lower_39 rfl ?_
        exact tt_loc (ks := [1, 2, 3, 4, 5, 6, 0]) rfl (B107 0 (rl_w (⟨by decide, by decide⟩ : Rl 0 0 0)))
      · skip
        have h196 : Rg 1 1 x4 := rg_ne_lo h4 (⟨by decide, by decide⟩ : Rg 0 0 0) q194
        refine tt_lconst (v := 1) dX10_lower_35 rfl ?_
        refine tt_goto (tgt := 40) dX10_lower_36 rfl ?_
        exact tt_loc (ks := [1, 2, 3, 4, 5, 6, 0]) rfl (B107 1 (rl_w (⟨by decide, by decide⟩ : Rl 1 1 1)))
    refine tt_if_eq (tgt := 25) dX10_lower_16 rfl (fun q197 => ?_) (fun q197 => ?_)
    · skip
      have h198 : Rg 0 0 x3 := rg_eq_l h3 (⟨by decide, by decide⟩ : Rg 0 0 0) q197
      refine tt_sipush (v := 4929) dX10_lower_25 rfl ?_
      exact tt_loc (ks := [1, 2, 3, 4, 5, 0]) rfl (B104 4929 (rg_w (⟨by decide, by decide⟩ : Rg 4929 4929 4929)))
    · skip
      have h199 : Rg 1 1 x3 := rg_ne_lo h3 (⟨by decide, by decide⟩ : Rg 0 0 0) q197
      refine tt_sipush (v := 4928) dX10_lower_19 rfl ?_
      refine tt_goto (tgt := 28) dX10_lower_22 rfl ?_
      exact tt_loc (ks := [1, 2, 3, 4, 5, 0]) rfl (B104 4928 (rg_w (⟨by decide, by decide⟩ : Rg 4928 4928 4928)))
  refine tt_if_eq (tgt := 10) dX10_lower_1 rfl (fun q200 => ?_) (fun q200 => ?_)
  · skip
    have h201 : Rg 0 0 x3 := rg_eq_l h3 (⟨by decide, by decide⟩ : Rg 0 0 0) q200
    refine tt_sipush (v := 4928) dX10_lower_10 rfl ?_
    exact B101 4928 (rg_w (⟨by decide, by decide⟩ : Rg 4928 4928 4928))
  · skip
    have h202 : Rg 1 1 x3 := rg_ne_lo h3 (⟨by decide, by decide⟩ : Rg 0 0 0) q200
    refine tt_sipush (v := 4929) dX10_lower_4 rfl ?_
    refine tt_goto (tgt := 13) dX10_lower_7 rfl ?_
    exact B101 4929 (rg_w (⟨by decide, by decide⟩ : Rg 4929 4929 4929))
set_option maxHeartbeats 4000000 in
theorem cs_X10_compared {xi : SX} {S : Hp} {E : List Nat} {kc nc : Nat} {P : Po} {o0 : Nat} {x1 : Int32} {x2 : Int32} {x3 : Int32} (hG : GI S E) (h0 : Oa S E 10 0 o0) (h1 : Rg (-1) 31 x1) (h2 : Rg (-1) 31 x2) (hP : ∀ r T x y, PV E [676, 9989] S kc nc rV ex0 [] r T x y → P r T x y) : TT xi M_X10_compared 0 [(0, .ref o0), (1, .int x1), (2, .int x2), (3, .int x3)] [] S kc nc P := by
  have hA : Af E [676, 9989] S S := af_rf
  refine tt_iload_n (j := 3) dX10_compared_0 rfl ?_
  refine tt_iconst (v := 4) dX10_compared_1 rfl ?_
  have B101 : ∀ (S102 : Hp), GI S102 E → Af E [676, 9989] S S102 → TT xi M_X10_compared 138 [(0, .ref o0), (1, .int x1), (2, .int x2), (3, .int x3)] [] S102 kc nc P := by
    intro S102 hG103 hA104
    exact tt_vreturn dX10_compared_138 rfl (hP _ _ _ _ ⟨hG103, hA104, Or.inl ⟨_, rfl, rfl, trivial, rfl, rfl⟩⟩)
  have B105 : TT xi M_X10_compared 10 [(0, .ref o0), (1, .int x1), (2, .int x2), (3, .int x3)] [] S kc nc P := by
    refine tt_aload_n (j := 0) dX10_compared_10 rfl ?_
    refine tt_iload_n (j := 1) dX10_compared_11 rfl ?_
    refine tt_iload_n (j := 2) dX10_compared_12 rfl ?_
    refine tt_iload_n (j := 3) dX10_compared_13 rfl ?_
    refine tt_iconst (v := 4) dX10_compared_14 rfl ?_
    have B106 : ∀ (x107 : Int32), Rg 0 1 x107 → TT xi M_X10_compared 23 [(0, .ref o0), (1, .int x1), (2, .int x2), (3, .int x3)] [.int x107, .int x2, .int x1, .ref o0] S kc nc P := by
      intro x107 h108
      refine gt_Vv (As := [.int x1, .int x2, .int x107]) dX10_compared_23 ca_X10_270 ⟨by decide, by decide⟩ h0 hA rfl (Nat.le_of_ble_eq_true rfl) (Nat.le_of_ble_eq_true rfl) (by decide) (cs_X10_equal hG (oa_af h0 hA) (rg_w h1) (rg_w h2) (rg_w h108) (fun _ _ _ _ h => h)) rfl (fun _ h => nomatch h) (fun S109 hx113 hG110 hB111 hA112 => ?_)
      refine tt_goto (tgt := 138) dX10_compared_26 rfl ?_
      exact B101 S109 hG110 hA112
    refine tt_icmp_ne (tgt := 22) dX10_compared_15 rfl (fun q114 => ?_) (fun q114 => ?_)
    · skip
      refine tt_iconst (v := 0) dX10_compared_22 rfl ?_
      exact B106 0 (rg_w (⟨by decide, by decide⟩ : Rg 0 0 0))
    · skip
      have h115 : Rg 4 4 x3 := rg_eq_l (rg_all x3) (⟨by decide, by decide⟩ : Rg 4 4 4) q114
      refine tt_iconst (v := 1) dX10_compared_18 rfl ?_
      refine tt_goto (tgt := 23) dX10_compared_19 rfl ?_
      exact B106 1 (rg_w (⟨by decide, by decide⟩ : Rg 1 1 1))
  refine tt_icmp_eq (tgt := 10) dX10_compared_2 rfl (fun q116 => ?_) (fun q116 => ?_)
  · skip
    have h117 : Rg 4 4 x3 := rg_eq_l (rg_all x3) (⟨by decide, by decide⟩ : Rg 4 4 4) q116
    exact B105 
  · skip
    refine tt_iload_n (j := 3) dX10_compared_5 rfl ?_
    refine tt_iconst (v := 5) dX10_compared_6 rfl ?_
    refine tt_icmp_ne (tgt := 29) dX10_compared_7 rfl (fun q118 => ?_) (fun q118 => ?_)
    · skip
      refine tt_iload_n (j := 3) dX10_compared_29 rfl ?_
      refine tt_bipush (v := 11) dX10_compared_30 rfl ?_
      refine tt_icmp_le (tgt := 78) dX10_compared_32 rfl (fun q119 => ?_) (fun q119 => ?_)
      · skip
        have h120 : Rg (-2147483648) 11 x3 := rg_le_l (rg_all x3) (⟨by decide, by decide⟩ : Rg 11 11 11) q119
        refine tt_iload_n (j := 3) dX10_compared_78 rfl ?_
        refine tt_iconst (v := 2) dX10_compared_79 rfl ?_
        have B121 : TT xi M_X10_compared 100 [(0, .ref o0), (1, .int x1), (2, .int x2), (3, .int x3)] [] S kc nc P := by
          refine tt_aload_n (j := 0) dX10_compared_100 rfl ?_
          refine tt_iload_n (j := 1) dX10_compared_101 rfl ?_
          refine tt_iload_n (j := 2) dX10_compared_102 rfl ?_
          refine tt_iload_n (j := 3) dX10_compared_103 rfl ?_
          refine tt_iconst (v := 3) dX10_compared_104 rfl ?_
          have B122 : ∀ (x123 : Int32), Rg 0 1 x123 → TT xi M_X10_compared 119 [(0, .ref o0), (1, .int x1), (2, .int x2), (3, .int x3)] [.int x123, .int x2, .int x1, .ref o0] S kc nc P := by
            intro x123 h124
            refine tt_iload_n (j := 3) dX10_compared_119 rfl ?_
            refine tt_iconst (v := 2) dX10_compared_120 rfl ?_
            have B125 : ∀ (x126 : Int32), Rg 0 1 x126 → TT xi M_X10_compared 135 [(0, .ref o0), (1, .int x1), (2, .int x2), (3, .int x3)] [.int x126, .int x123, .int x2, .int x1, .ref o0] S kc nc P := by
              intro x126 h127
              refine gt_Vv (As := [.int x1, .int x2, .int x123, .int x126]) dX10_compared_135 ca_X10_278 ⟨by decide, by decide⟩ h0 hA rfl (Nat.le_of_ble_eq_true rfl) (Nat.le_of_ble_eq_true rfl) (by decide) (cs_X10_lower hG (oa_af h0 hA) (rg_w h1) (rg_w h2) (rg_w h124) (rg_w h127) (fun _ _ _ _ h => h)) rfl (fun _ h => nomatch h) (fun S128 hx132 hG129 hB130 hA131 => ?_)
              exact B101 S128 hG129 hA131
            have B133 : TT xi M_X10_compared 130 [(0, .ref o0), (1, .int x1), (2, .int x2), (3, .int x3)] [.int x123, .int x2, .int x1, .ref o0] S kc nc P := by
              refine tt_iconst (v := 1) dX10_compared_130 rfl ?_
              refine tt_goto (tgt := 135) dX10_compared_131 rfl ?_
              exact B125 1 (rg_w (⟨by decide, by decide⟩ : Rg 1 1 1))
            refine tt_icmp_eq (tgt := 130) dX10_compared_121 rfl (fun q134 => ?_) (fun q134 => ?_)
            · skip
              have h135 : Rg 2 2 x3 := rg_eq_l h120 (⟨by decide, by decide⟩ : Rg 2 2 2) q134
              exact B133 
            · skip
              refine tt_iload_n (j := 3) dX10_compared_124 rfl ?_
              refine tt_bipush (v := 7) dX10_compared_125 rfl ?_
              refine tt_icmp_ne (tgt := 134) dX10_compared_127 rfl (fun q136 => ?_) (fun q136 => ?_)
              · skip
                refine tt_iconst (v := 0) dX10_compared_134 rfl ?_
                exact B125 0 (rg_w (⟨by decide, by decide⟩ : Rg 0 0 0))
              · skip
                have h137 : Rg 7 7 x3 := rg_eq_l h120 (⟨by decide, by decide⟩ : Rg 7 7 7) q136
                exact B133 
          have B138 : TT xi M_X10_compared 114 [(0, .ref o0), (1, .int x1), (2, .int x2), (3, .int x3)] [.int x2, .int x1, .ref o0] S kc nc P := by
            refine tt_iconst (v := 1) dX10_compared_114 rfl ?_
            refine tt_goto (tgt := 119) dX10_compared_115 rfl ?_
            exact B122 1 (rg_w (⟨by decide, by decide⟩ : Rg 1 1 1))
          refine tt_icmp_eq (tgt := 114) dX10_compared_105 rfl (fun q139 => ?_) (fun q139 => ?_)
          · skip
            have h140 : Rg 3 3 x3 := rg_eq_l h120 (⟨by decide, by decide⟩ : Rg 3 3 3) q139
            exact B138 
          · skip
            refine tt_iload_n (j := 3) dX10_compared_108 rfl ?_
            refine tt_bipush (v := 7) dX10_compared_109 rfl ?_
            refine tt_icmp_ne (tgt := 118) dX10_compared_111 rfl (fun q141 => ?_) (fun q141 => ?_)
            · skip
              refine tt_iconst (v := 0) dX10_compared_118 rfl ?_
              exact B122 0 (rg_w (⟨by decide, by decide⟩ : Rg 0 0 0))
            · skip
              have h142 : Rg 7 7 x3 := rg_eq_l h120 (⟨by decide, by decide⟩ : Rg 7 7 7) q141
              exact B138 
        refine tt_icmp_eq (tgt := 100) dX10_compared_80 rfl (fun q143 => ?_) (fun q143 => ?_)
        · skip
          have h144 : Rg 2 2 x3 := rg_eq_l h120 (⟨by decide, by decide⟩ : Rg 2 2 2) q143
          exact B121 
        · skip
          refine tt_iload_n (j := 3) dX10_compared_83 rfl ?_
          refine tt_iconst (v := 3) dX10_compared_84 rfl ?_
          refine tt_icmp_eq (tgt := 100) dX10_compared_85 rfl (fun q145 => ?_) (fun q145 => ?_)
          · skip
            have h146 : Rg 3 3 x3 := rg_eq_l h120 (⟨by decide, by decide⟩ : Rg 3 3 3) q145
            exact B121 
          · skip
            refine tt_iload_n (j := 3) dX10_compared_88 rfl ?_
            refine tt_bipush (v := 6) dX10_compared_89 rfl ?_
            refine tt_icmp_eq (tgt := 100) dX10_compared_91 rfl (fun q147 => ?_) (fun q147 => ?_)
            · skip
              have h148 : Rg 6 6 x3 := rg_eq_l h120 (⟨by decide, by decide⟩ : Rg 6 6 6) q147
              exact B121 
            · skip
              refine tt_iload_n (j := 3) dX10_compared_94 rfl ?_
              refine tt_bipush (v := 7) dX10_compared_95 rfl ?_
              refine tt_icmp_ne (tgt := 138) dX10_compared_97 rfl (fun q149 => ?_) (fun q149 => ?_)
              · skip
                exact B101 S hG hA
              · skip
                have h150 : Rg 7 7 x3 := rg_eq_l h120 (⟨by decide, by decide⟩ : Rg 7 7 7) q149
                exact B121 
      · skip
        have h151 : Rg 12 2147483647 x3 := rg_lt_r (⟨by decide, by decide⟩ : Rg 11 11 11) (rg_all x3) (nle_lt q119)
        refine tt_aload_n (j := 0) dX10_compared_35 rfl ?_
        refine tt_iload_n (j := 1) dX10_compared_36 rfl ?_
        refine tt_iload_n (j := 2) dX10_compared_37 rfl ?_
        refine tt_iload_n (j := 3) dX10_compared_38 rfl ?_
        refine tt_bipush (v := 13) dX10_compared_39 rfl ?_
        have B152 : ∀ (x153 : Int32), Rg 0 1 x153 → TT xi M_X10_compared 55 [(0, .ref o0), (1, .int x1), (2, .int x2), (3, .int x3)] [.int x153, .int x2, .int x1, .ref o0] S kc nc P := by
          intro x153 h154
          refine tt_iload_n (j := 3) dX10_compared_55 rfl ?_
          refine tt_bipush (v := 12) dX10_compared_56 rfl ?_
          have B155 : ∀ (x156 : Int32), Rg 0 1 x156 → TT xi M_X10_compared 72 [(0, .ref o0), (1, .int x1), (2, .int x2), (3, .int x3)] [.int x156, .int x153, .int x2, .int x1, .ref o0] S kc nc P := by
            intro x156 h157
            refine gt_Vv (As := [.int x1, .int x2, .int x153, .int x156]) dX10_compared_72 ca_X10_274 ⟨by decide, by decide⟩ h0 hA rfl (Nat.le_of_ble_eq_true rfl) (Nat.le_of_ble_eq_true rfl) (by decide) (cs_X10_below hG (oa_af h0 hA) (rg_w h1) (rg_w h2) (rg_w h154) (rg_w h157) (fun _ _ _ _ h => h)) rfl (fun _ h => nomatch h) (fun S158 hx162 hG159 hB160 hA161 => ?_)
            refine tt_goto (tgt := 138) dX10_compared_75 rfl ?_
            exact B101 S158 hG159 hA161
          have B163 : TT xi M_X10_compared 67 [(0, .ref o0), (1, .int x1), (2, .int x2), (3, .int x3)] [.int x153, .int x2, .int x1, .ref o0] S kc nc P := by
            refine tt_iconst (v := 1) dX10_compared_67 rfl ?_
            refine tt_goto (tgt := 72) dX10_compared_68 rfl ?_
            exact B155 1 (rg_w (⟨by decide, by decide⟩ : Rg 1 1 1))
          refine tt_icmp_eq (tgt := 67) dX10_compared_58 rfl (fun q164 => ?_) (fun q164 => ?_)
          · skip
            have h165 : Rg 12 12 x3 := rg_eq_l h151 (⟨by decide, by decide⟩ : Rg 12 12 12) q164
            exact B163 
          · skip
            have h166 : Rg 13 2147483647 x3 := rg_ne_lo h151 (⟨by decide, by decide⟩ : Rg 12 12 12) q164
            refine tt_iload_n (j := 3) dX10_compared_61 rfl ?_
            refine tt_bipush (v := 15) dX10_compared_62 rfl ?_
            refine tt_icmp_ne (tgt := 71) dX10_compared_64 rfl (fun q167 => ?_) (fun q167 => ?_)
            · skip
              refine tt_iconst (v := 0) dX10_compared_71 rfl ?_
              exact B155 0 (rg_w (⟨by decide, by decide⟩ : Rg 0 0 0))
            · skip
              have h168 : Rg 15 15 x3 := rg_eq_l h166 (⟨by decide, by decide⟩ : Rg 15 15 15) q167
              exact B163 
        have B169 : TT xi M_X10_compared 50 [(0, .ref o0), (1, .int x1), (2, .int x2), (3, .int x3)] [.int x2, .int x1, .ref o0] S kc nc P := by
          refine tt_iconst (v := 1) dX10_compared_50 rfl ?_
          refine tt_goto (tgt := 55) dX10_compared_51 rfl ?_
          exact B152 1 (rg_w (⟨by decide, by decide⟩ : Rg 1 1 1))
        refine tt_icmp_eq (tgt := 50) dX10_compared_41 rfl (fun q170 => ?_) (fun q170 => ?_)
        · skip
          have h171 : Rg 13 13 x3 := rg_eq_l h151 (⟨by decide, by decide⟩ : Rg 13 13 13) q170
          exact B169 
        · skip
          refine tt_iload_n (j := 3) dX10_compared_44 rfl ?_
          refine tt_bipush (v := 15) dX10_compared_45 rfl ?_
          refine tt_icmp_ne (tgt := 54) dX10_compared_47 rfl (fun q172 => ?_) (fun q172 => ?_)
          · skip
            refine tt_iconst (v := 0) dX10_compared_54 rfl ?_
            exact B152 0 (rg_w (⟨by decide, by decide⟩ : Rg 0 0 0))
          · skip
            have h173 : Rg 15 15 x3 := rg_eq_l h151 (⟨by decide, by decide⟩ : Rg 15 15 15) q172
            exact B169 
    · skip
      have h174 : Rg 5 5 x3 := rg_eq_l (rg_all x3) (⟨by decide, by decide⟩ : Rg 5 5 5) q118
      exact B105 
