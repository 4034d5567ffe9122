set_option maxHeartbeats 4000000 in
theorem cs_X7_becomeAny {xi : SX} {S : Hp} {E : List Nat} {kc nc : Nat} {P : Po} {o0 : Nat} (hG : GI S E) (h0 : Oa S E 7 0 o0) (hP : ∀ r T x y, PV E [9987] S kc nc rV ex0 [] r T x y → P r T x y) : TT xi M_X7_becomeAny 0 [(0, .ref o0)] [] S kc nc P := by
  have hA : Af E [9987] S S := af_rf
  refine tt_aload_n (j := 0) dX7_becomeAny_0 rfl ?_
  refine tt_lconst (v := 0) dX7_becomeAny_1 rfl ?_
  refine gt_pJ (id := 448) (x := 0) dX7_becomeAny_2 fl_7_23 rfl rfl h0 hA rfl rfl rfl hG (fun S101 hG102 hA103 e104 f105 er106 => ?_)
  refine tt_aload_n (j := 0) dX7_becomeAny_5 rfl ?_
  refine tt_lconst (v := 0) dX7_becomeAny_6 rfl ?_
  refine gt_pJ (id := 449) (x := 0) dX7_becomeAny_7 fl_7_26 rfl rfl h0 hA103 rfl rfl rfl hG102 (fun S107 hG108 hA109 e110 f111 er112 => ?_)
  refine tt_aload_n (j := 0) dX7_becomeAny_10 rfl ?_
  refine tt_ldc2 (v := (-1)) dX7_becomeAny_11 kl_7_19 ?_
  refine gt_pJ (id := 450) (x := (-1)) dX7_becomeAny_14 fl_7_15 rfl rfl h0 hA109 rfl rfl rfl hG108 (fun S113 hG114 hA115 e116 f117 er118 => ?_)
  exact tt_vreturn dX7_becomeAny_17 rfl (hP _ _ _ _ ⟨hG114, hA115, Or.inl ⟨_, rfl, rfl, trivial, rfl, rfl⟩⟩)
set_option maxHeartbeats 4000000 in
theorem cs_X7_becomeNone {xi : SX} {S : Hp} {E : List Nat} {kc nc : Nat} {P : Po} {o0 : Nat} (hG : GI S E) (h0 : Oa S E 7 0 o0) (hP : ∀ r T x y, PV E [9987] S kc nc rV ex0 [] r T x y → P r T x y) : TT xi M_X7_becomeNone 0 [(0, .ref o0)] [] S kc nc P := by
  have hA : Af E [9987] S S := af_rf
  refine tt_aload_n (j := 0) dX7_becomeNone_0 rfl ?_
  refine tt_lconst (v := 0) dX7_becomeNone_1 rfl ?_
  refine gt_pJ (id := 448) (x := 0) dX7_becomeNone_2 fl_7_23 rfl rfl h0 hA rfl rfl rfl hG (fun S101 hG102 hA103 e104 f105 er106 => ?_)
  refine tt_aload_n (j := 0) dX7_becomeNone_5 rfl ?_
  refine tt_lconst (v := 0) dX7_becomeNone_6 rfl ?_
  refine gt_pJ (id := 449) (x := 0) dX7_becomeNone_7 fl_7_26 rfl rfl h0 hA103 rfl rfl rfl hG102 (fun S107 hG108 hA109 e110 f111 er112 => ?_)
  refine tt_aload_n (j := 0) dX7_becomeNone_10 rfl ?_
  refine tt_ldc2 (v := (-2)) dX7_becomeNone_11 kl_7_21 ?_
  refine gt_pJ (id := 450) (x := (-2)) dX7_becomeNone_14 fl_7_15 rfl rfl h0 hA109 rfl rfl rfl hG108 (fun S113 hG114 hA115 e116 f117 er118 => ?_)
  exact tt_vreturn dX7_becomeNone_17 rfl (hP _ _ _ _ ⟨hG114, hA115, Or.inl ⟨_, rfl, rfl, trivial, rfl, rfl⟩⟩)
set_option maxHeartbeats 4000000 in
theorem cs_X7_copyFrom {xi : SX} {S : Hp} {E : List Nat} {kc nc : Nat} {P : Po} {o0 : Nat} {o1 : Nat} (hG : GI S E) (h0 : Oa S E 7 0 o0) (h1 : Oa S E 7 0 o1) (hP : ∀ r T x y, PV E [9987] S kc nc rV ex0 [] r T x y → P r T x y) : TT xi M_X7_copyFrom 0 [(0, .ref o0), (1, .ref o1)] [] S kc nc P := by
  have hA : Af E [9987] S S := af_rf
  refine tt_aload_n (j := 0) dX7_copyFrom_0 rfl ?_
  refine tt_aload_n (j := 1) dX7_copyFrom_1 rfl ?_
  refine gt_gJ (id := 448) (v := (hp_J S 448 o1)) dX7_copyFrom_2 fl_7_23 rfl rfl h1 hA rfl ?_
  refine gt_pJ (id := 448) (x := (hp_J S 448 o1)) dX7_copyFrom_5 fl_7_23 rfl rfl h0 hA rfl rfl rfl hG (fun S101 hG102 hA103 e104 f105 er106 => ?_)
  refine tt_aload_n (j := 0) dX7_copyFrom_8 rfl ?_
  refine tt_aload_n (j := 1) dX7_copyFrom_9 rfl ?_
  refine gt_gJ (id := 449) (v := (hp_J S101 449 o1)) dX7_copyFrom_10 fl_7_26 rfl rfl h1 hA103 rfl ?_
  refine gt_pJ (id := 449) (x := (hp_J S101 449 o1)) dX7_copyFrom_13 fl_7_26 rfl rfl h0 hA103 rfl rfl rfl hG102 (fun S107 hG108 hA109 e110 f111 er112 => ?_)
  refine tt_aload_n (j := 0) dX7_copyFrom_16 rfl ?_
  refine tt_aload_n (j := 1) dX7_copyFrom_17 rfl ?_
  refine gt_gJ (id := 450) (v := (hp_J S107 450 o1)) dX7_copyFrom_18 fl_7_15 rfl rfl h1 hA109 rfl ?_
  refine gt_pJ (id := 450) (x := (hp_J S107 450 o1)) dX7_copyFrom_21 fl_7_15 rfl rfl h0 hA109 rfl rfl rfl hG108 (fun S113 hG114 hA115 e116 f117 er118 => ?_)
  exact tt_vreturn dX7_copyFrom_24 rfl (hP _ _ _ _ ⟨hG114, hA115, Or.inl ⟨_, rfl, rfl, trivial, rfl, rfl⟩⟩)
set_option maxHeartbeats 4000000 in
theorem cs_X7_stretchFrom {xi : SX} {S : Hp} {E : List Nat} {kc nc : Nat} {P : Po} {o0 : Nat} {o1 : Nat} (hG : GI S E) (h0 : Oa S E 7 0 o0) (h1 : Oa S E 7 0 o1) (hP : ∀ r T x y, PV E [9987] S kc nc rV ex0 [] r T x y → P r T x y) : TT xi M_X7_stretchFrom 0 [(0, .ref o0), (1, .ref o1)] [] S kc nc P := by
  have hA : Af E [9987] S S := af_rf
  refine tt_aload_n (j := 0) dX7_stretchFrom_0 rfl ?_
  refine gt_gJ (id := 450) (v := (hp_J S 450 o0)) dX7_stretchFrom_1 fl_7_15 rfl rfl h0 hA rfl ?_
  refine tt_lconst (v := 0) dX7_stretchFrom_4 rfl ?_
  refine tt_lcmp dX7_stretchFrom_5 ?_
  refine tt_if_gt (tgt := 10) dX7_stretchFrom_6 rfl (fun q101 => ?_) (fun q101 => ?_)
  · skip
    have h102 : Rl 1 9223372036854775807 (hp_J S 450 o0) := rl_lt_r (⟨by decide, by decide⟩ : Rl 0 0 0) (rl_all (hp_J S 450 o0)) (lc_gt_t q101)
    refine tt_aload_n (j := 0) dX7_stretchFrom_10 rfl ?_
    refine gt_gJ (id := 448) (v := (hp_J S 448 o0)) dX7_stretchFrom_11 fl_7_23 rfl rfl h0 hA rfl ?_
    refine tt_aload_n (j := 1) dX7_stretchFrom_14 rfl ?_
    refine gt_gJ (id := 448) (v := (hp_J S 448 o1)) dX7_stretchFrom_15 fl_7_23 rfl rfl h1 hA rfl ?_
    refine tt_lcmp dX7_stretchFrom_18 ?_
    refine tt_if_ge (tgt := 43) dX7_stretchFrom_19 rfl (fun q103 => ?_) (fun q103 => ?_)
    · skip
      refine tt_aload_n (j := 0) dX7_stretchFrom_43 rfl ?_
      refine gt_gJ (id := 449) (v := (hp_J S 449 o0)) dX7_stretchFrom_44 fl_7_26 rfl rfl h0 hA rfl ?_
      refine tt_aload_n (j := 1) dX7_stretchFrom_47 rfl ?_
      refine gt_gJ (id := 449) (v := (hp_J S 449 o1)) dX7_stretchFrom_48 fl_7_26 rfl rfl h1 hA rfl ?_
      refine tt_lcmp dX7_stretchFrom_51 ?_
      refine tt_if_le (tgt := 76) dX7_stretchFrom_52 rfl (fun q104 => ?_) (fun q104 => ?_)
      · skip
        exact tt_vreturn dX7_stretchFrom_76 rfl (hP _ _ _ _ ⟨hG, hA, Or.inl ⟨_, rfl, rfl, trivial, rfl, rfl⟩⟩)
      · skip
        have h105 : Rl (-9223372036854775808) 9223372036854775806 (hp_J S 449 o1) := rl_lt_l (rl_all (hp_J S 449 o1)) (rl_all (hp_J S 449 o0)) (lc_le_f q104)
        have h106 : Rl (-9223372036854775807) 9223372036854775807 (hp_J S 449 o0) := rl_lt_r (rl_all (hp_J S 449 o1)) (rl_all (hp_J S 449 o0)) (lc_le_f q104)
        refine tt_aload_n (j := 0) dX7_stretchFrom_55 rfl ?_
        refine tt_ldc2 (v := 2305843009213693952) dX7_stretchFrom_56 kl_7_13 ?_
        refine tt_ldc2 (v := 2305843009213693952) dX7_stretchFrom_59 kl_7_13 ?_
        refine tt_aload_n (j := 0) dX7_stretchFrom_62 rfl ?_
        refine gt_gJ (id := 449) (v := (hp_J S 449 o0)) dX7_stretchFrom_63 fl_7_26 rfl rfl h0 hA rfl ?_
        refine tt_lsub dX7_stretchFrom_66 (gt_tl (fun y107 => ?_))
        refine tt_aload_n (j := 0) dX7_stretchFrom_67 rfl ?_
        refine gt_gJ (id := 450) (v := (hp_J S 450 o0)) dX7_stretchFrom_68 fl_7_15 rfl rfl h0 hA rfl ?_
        refine tt_lrem dX7_stretchFrom_71 (nz_pos (lc_gt_t q101)) (gt_tl (fun y108 => ?_))
        refine tt_lsub dX7_stretchFrom_72 (gt_tl (fun y109 => ?_))
        refine gt_pJ (id := 449) (x := y109) dX7_stretchFrom_73 fl_7_26 rfl rfl h0 hA rfl rfl rfl hG (fun S110 hG111 hA112 e113 f114 er115 => ?_)
        exact tt_vreturn dX7_stretchFrom_76 rfl (hP _ _ _ _ ⟨hG111, hA112, Or.inl ⟨_, rfl, rfl, trivial, rfl, rfl⟩⟩)
    · skip
      have h116 : Rl (-9223372036854775808) 9223372036854775806 (hp_J S 448 o0) := rl_lt_l (rl_all (hp_J S 448 o0)) (rl_all (hp_J S 448 o1)) (lc_ge_f q103)
      have h117 : Rl (-9223372036854775807) 9223372036854775807 (hp_J S 448 o1) := rl_lt_r (rl_all (hp_J S 448 o0)) (rl_all (hp_J S 448 o1)) (lc_ge_f q103)
      refine tt_aload_n (j := 0) dX7_stretchFrom_22 rfl ?_
      refine tt_ldc2 (v := (-2305843009213693952)) dX7_stretchFrom_23 kl_7_11 ?_
      refine tt_aload_n (j := 0) dX7_stretchFrom_26 rfl ?_
      refine gt_gJ (id := 448) (v := (hp_J S 448 o0)) dX7_stretchFrom_27 fl_7_23 rfl rfl h0 hA rfl ?_
      refine tt_ldc2 (v := 2305843009213693952) dX7_stretchFrom_30 kl_7_13 ?_
      refine tt_ladd dX7_stretchFrom_33 (gt_tl (fun y118 => ?_))
      refine tt_aload_n (j := 0) dX7_stretchFrom_34 rfl ?_
      refine gt_gJ (id := 450) (v := (hp_J S 450 o0)) dX7_stretchFrom_35 fl_7_15 rfl rfl h0 hA rfl ?_
      refine tt_lrem dX7_stretchFrom_38 (nz_pos (lc_gt_t q101)) (gt_tl (fun y119 => ?_))
      refine tt_ladd dX7_stretchFrom_39 (gt_tl (fun y120 => ?_))
      refine gt_pJ (id := 448) (x := y120) dX7_stretchFrom_40 fl_7_23 rfl rfl h0 hA rfl rfl rfl hG (fun S121 hG122 hA123 e124 f125 er126 => ?_)
      refine tt_aload_n (j := 0) dX7_stretchFrom_43 rfl ?_
      refine gt_gJ (id := 449) (v := (hp_J S121 449 o0)) dX7_stretchFrom_44 fl_7_26 rfl rfl h0 hA123 rfl ?_
      refine tt_aload_n (j := 1) dX7_stretchFrom_47 rfl ?_
      refine gt_gJ (id := 449) (v := (hp_J S121 449 o1)) dX7_stretchFrom_48 fl_7_26 rfl rfl h1 hA123 rfl ?_
      refine tt_lcmp dX7_stretchFrom_51 ?_
      refine tt_if_le (tgt := 76) dX7_stretchFrom_52 rfl (fun q127 => ?_) (fun q127 => ?_)
      · skip
        exact tt_vreturn dX7_stretchFrom_76 rfl (hP _ _ _ _ ⟨hG122, hA123, Or.inl ⟨_, rfl, rfl, trivial, rfl, rfl⟩⟩)
      · skip
        have h128 : Rl (-9223372036854775808) 9223372036854775806 (hp_J S121 449 o1) := rl_lt_l (rl_all (hp_J S121 449 o1)) (rl_all (hp_J S121 449 o0)) (lc_le_f q127)
        have h129 : Rl (-9223372036854775807) 9223372036854775807 (hp_J S121 449 o0) := rl_lt_r (rl_all (hp_J S121 449 o1)) (rl_all (hp_J S121 449 o0)) (lc_le_f q127)
        refine tt_aload_n (j := 0) dX7_stretchFrom_55 rfl ?_
        refine tt_ldc2 (v := 2305843009213693952) dX7_stretchFrom_56 kl_7_13 ?_
        refine tt_ldc2 (v := 2305843009213693952) dX7_stretchFrom_59 kl_7_13 ?_
        refine tt_aload_n (j := 0) dX7_stretchFrom_62 rfl ?_
        refine gt_gJ (id := 449) (v := (hp_J S121 449 o0)) dX7_stretchFrom_63 fl_7_26 rfl rfl h0 hA123 rfl ?_
        refine tt_lsub dX7_stretchFrom_66 (gt_tl (fun y130 => ?_))
        refine tt_aload_n (j := 0) dX7_stretchFrom_67 rfl ?_
        refine gt_gJ (id := 450) (v := (hp_J S 450 o0)) dX7_stretchFrom_68 fl_7_15 rfl rfl h0 hA123 ((congrFun (congrFun f125 450) o0).trans ((congrFun (up2_ne (k := 450)) o0).trans rfl)) ?_
        refine tt_lrem dX7_stretchFrom_71 (nz_pos (lc_gt_t q101)) (gt_tl (fun y131 => ?_))
        refine tt_lsub dX7_stretchFrom_72 (gt_tl (fun y132 => ?_))
        refine gt_pJ (id := 449) (x := y132) dX7_stretchFrom_73 fl_7_26 rfl rfl h0 hA123 rfl rfl rfl hG122 (fun S133 hG134 hA135 e136 f137 er138 => ?_)
        exact tt_vreturn dX7_stretchFrom_76 rfl (hP _ _ _ _ ⟨hG134, hA135, Or.inl ⟨_, rfl, rfl, trivial, rfl, rfl⟩⟩)
  · skip
    have h139 : Rl (-9223372036854775808) 0 (hp_J S 450 o0) := rl_le_l (rl_all (hp_J S 450 o0)) (⟨by decide, by decide⟩ : Rl 0 0 0) (lc_gt_f q101)
    exact tt_vreturn dX7_stretchFrom_9 rfl (hP _ _ _ _ ⟨hG, hA, Or.inl ⟨_, rfl, rfl, trivial, rfl, rfl⟩⟩)
set_option maxHeartbeats 4000000 in
theorem cs_X7_drop {xi : SX} {S : Hp} {E : List Nat} {kc nc : Nat} {P : Po} {o0 : Nat} {y1 : Int64} (hG : GI S E) (h0 : Oa S E 7 0 o0) (hP : ∀ r T x y, PV E [9987] S kc nc rV ex0 [] r T x y → P r T x y) : TT xi M_X7_drop 0 [(0, .ref o0), (1, .long y1)] [] S kc nc P := by
  have hA : Af E [9987] S S := af_rf
  refine tt_aload_n (j := 0) dX7_drop_0 rfl ?_
  refine gt_gJ (id := 450) (v := (hp_J S 450 o0)) dX7_drop_1 fl_7_15 rfl rfl h0 hA rfl ?_
  refine tt_lconst (v := 0) dX7_drop_4 rfl ?_
  refine tt_lcmp dX7_drop_5 ?_
  refine tt_if_ge (tgt := 10) dX7_drop_6 rfl (fun q101 => ?_) (fun q101 => ?_)
  · skip
    have h102 : Rl 0 9223372036854775807 (hp_J S 450 o0) := rl_le_r (⟨by decide, by decide⟩ : Rl 0 0 0) (rl_all (hp_J S 450 o0)) (lc_ge_t q101)
    refine tt_aload_n (j := 0) dX7_drop_10 rfl ?_
    refine gt_VIp (As := []) dX7_drop_11 ca_X7_58 ⟨by decide, by decide⟩ h0 hA rfl (Nat.le_of_ble_eq_true rfl) (Nat.le_of_ble_eq_true rfl) (by decide) (cs_X7_isSingle hG (oa_af h0 hA) (fun _ _ _ _ h => h)) rfl (fun _ h => nomatch h) (fun _ _ q => q) (fun x108 h109 hx107 => ?_)
    have B110 : ∀ (S111 : Hp), GI S111 E → Af E [9987] S S111 → TT xi M_X7_drop 96 [(0, .ref o0), (1, .long y1)] [] S111 kc nc P := by
      intro S111 hG112 hA113
      exact tt_vreturn dX7_drop_96 rfl (hP _ _ _ _ ⟨hG112, hA113, Or.inl ⟨_, rfl, rfl, trivial, rfl, rfl⟩⟩)
    refine tt_if_eq (tgt := 33) dX7_drop_14 rfl (fun q114 => ?_) (fun q114 => ?_)
    · skip
      have h115 : Rg 0 0 x108 := rg_eq_l h109 (⟨by decide, by decide⟩ : Rg 0 0 0) q114
      refine tt_lload_n (j := 1) dX7_drop_33 rfl ?_
      refine tt_aload_n (j := 0) dX7_drop_34 rfl ?_
      refine gt_gJ (id := 448) (v := (hp_J S 448 o0)) dX7_drop_35 fl_7_23 rfl rfl h0 hA rfl ?_
      refine tt_lcmp dX7_drop_38 ?_
      refine tt_if_ne (tgt := 66) dX7_drop_39 rfl (fun q116 => ?_) (fun q116 => ?_)
      · skip
        refine tt_lload_n (j := 1) dX7_drop_66 rfl ?_
        refine tt_aload_n (j := 0) dX7_drop_67 rfl ?_
        refine gt_gJ (id := 449) (v := (hp_J S 449 o0)) dX7_drop_68 fl_7_26 rfl rfl h0 hA rfl ?_
        refine tt_lcmp dX7_drop_71 ?_
        refine tt_if_ne (tgt := 96) dX7_drop_72 rfl (fun q117 => ?_) (fun q117 => ?_)
        · skip
          exact B110 S hG hA
        · skip
          refine tt_aload_n (j := 0) dX7_drop_75 rfl ?_
          refine tt_aload_n (j := 0) dX7_drop_76 rfl ?_
          refine gt_gJ (id := 448) (v := (hp_J S 448 o0)) dX7_drop_77 fl_7_23 rfl rfl h0 hA rfl ?_
          refine tt_aload_n (j := 0) dX7_drop_80 rfl ?_
          refine gt_gJ (id := 449) (v := (hp_J S 449 o0)) dX7_drop_81 fl_7_26 rfl rfl h0 hA rfl ?_
          refine tt_aload_n (j := 0) dX7_drop_84 rfl ?_
          refine gt_gJ (id := 450) (v := (hp_J S 450 o0)) dX7_drop_85 fl_7_15 rfl rfl h0 hA rfl ?_
          refine tt_lsub dX7_drop_88 (gt_tl (fun y118 => ?_))
          refine tt_aload_n (j := 0) dX7_drop_89 rfl ?_
          refine gt_gJ (id := 450) (v := (hp_J S 450 o0)) dX7_drop_90 fl_7_15 rfl rfl h0 hA rfl ?_
          refine gt_Vv (As := [.long (hp_J S 448 o0), .long y118, .long (hp_J S 450 o0)]) dX7_drop_93 ca_X7_48 ⟨by decide, by decide⟩ h0 hA rfl (Nat.le_of_ble_eq_true rfl) (Nat.le_of_ble_eq_true rfl) (by decide) (cs_X7_become hG (oa_af h0 hA) (fun _ _ _ _ h => h)) rfl (fun _ h => nomatch h) (fun S119 hx123 hG120 hB121 hA122 => ?_)
          exact B110 S119 hG120 hA122
      · skip
        refine tt_aload_n (j := 0) dX7_drop_42 rfl ?_
        refine tt_aload_n (j := 0) dX7_drop_43 rfl ?_
        refine gt_gJ (id := 448) (v := (hp_J S 448 o0)) dX7_drop_44 fl_7_23 rfl rfl h0 hA rfl ?_
        refine tt_aload_n (j := 0) dX7_drop_47 rfl ?_
        refine gt_gJ (id := 450) (v := (hp_J S 450 o0)) dX7_drop_48 fl_7_15 rfl rfl h0 hA rfl ?_
        refine tt_ladd dX7_drop_51 (gt_tl (fun y124 => ?_))
        refine tt_aload_n (j := 0) dX7_drop_52 rfl ?_
        refine gt_gJ (id := 449) (v := (hp_J S 449 o0)) dX7_drop_53 fl_7_26 rfl rfl h0 hA rfl ?_
        refine tt_aload_n (j := 0) dX7_drop_56 rfl ?_
        refine gt_gJ (id := 450) (v := (hp_J S 450 o0)) dX7_drop_57 fl_7_15 rfl rfl h0 hA rfl ?_
        refine gt_Vv (As := [.long y124, .long (hp_J S 449 o0), .long (hp_J S 450 o0)]) dX7_drop_60 ca_X7_48 ⟨by decide, by decide⟩ h0 hA rfl (Nat.le_of_ble_eq_true rfl) (Nat.le_of_ble_eq_true rfl) (by decide) (cs_X7_become hG (oa_af h0 hA) (fun _ _ _ _ h => h)) rfl (fun _ h => nomatch h) (fun S125 hx129 hG126 hB127 hA128 => ?_)
        refine tt_goto (tgt := 96) dX7_drop_63 rfl ?_
        exact B110 S125 hG126 hA128
    · skip
      have h130 : Rg 1 1 x108 := rg_ne_lo h109 (⟨by decide, by decide⟩ : Rg 0 0 0) q114
      refine tt_lload_n (j := 1) dX7_drop_17 rfl ?_
      refine tt_aload_n (j := 0) dX7_drop_18 rfl ?_
      refine gt_gJ (id := 448) (v := (hp_J S 448 o0)) dX7_drop_19 fl_7_23 rfl rfl h0 hA rfl ?_
      refine tt_lcmp dX7_drop_22 ?_
      refine tt_if_ne (tgt := 96) dX7_drop_23 rfl (fun q131 => ?_) (fun q131 => ?_)
      · skip
        exact B110 S hG hA
      · skip
        refine tt_aload_n (j := 0) dX7_drop_26 rfl ?_
        refine gt_Vv (As := []) dX7_drop_27 ca_X7_52 ⟨by decide, by decide⟩ h0 hA rfl (Nat.le_of_ble_eq_true rfl) (Nat.le_of_ble_eq_true rfl) (by decide) (cs_X7_becomeNone hG (oa_af h0 hA) (fun _ _ _ _ h => h)) rfl (fun _ h => nomatch h) (fun S132 hx136 hG133 hB134 hA135 => ?_)
        refine tt_goto (tgt := 96) dX7_drop_30 rfl ?_
        exact B110 S132 hG133 hA135
  · skip
    have h137 : Rl (-9223372036854775808) (-1) (hp_J S 450 o0) := rl_lt_l (rl_all (hp_J S 450 o0)) (⟨by decide, by decide⟩ : Rl 0 0 0) (lc_ge_f q101)
    exact tt_vreturn dX7_drop_9 rfl (hP _ _ _ _ ⟨hG, hA, Or.inl ⟨_, rfl, rfl, trivial, rfl, rfl⟩⟩)
set_option maxHeartbeats 4000000 in
theorem cs_X7_subtractFrom {xi : SX} {S : Hp} {E : List Nat} {kc nc : Nat} {P : Po} {o0 : Nat} {y1 : Int64} {o3 : Nat} (hG : GI S E) (h0 : Oa S E 7 0 o0) (h3 : Oa S E 7 0 o3) (hP : ∀ r T x y, PV E [9987] S kc nc rV ex0 [] r T x y → P r T x y) : TT xi M_X7_subtractFrom 0 [(0, .ref o0), (1, .long y1), (3, .ref o3)] [] S kc nc P := by
  have hA : Af E [9987] S S := af_rf
  refine tt_aload_n (j := 2) dX7_subtractFrom_0 rfl ?_
  refine gt_VIp (As := []) dX7_subtractFrom_1 ca_X7_29 ⟨by decide, by decide⟩ h3 hA rfl (Nat.le_of_ble_eq_true rfl) (Nat.le_of_ble_eq_true rfl) (by decide) (cs_X7_isAny hG (oa_af h3 hA) (fun _ _ _ _ h => h)) rfl (fun _ h => nomatch h) (fun _ _ q => q) (fun x106 h107 hx105 => ?_)
  have B108 : ∀ (S109 : Hp), GI S109 E → Af E [9987] S S109 → TT xi M_X7_subtractFrom 34 [(0, .ref o0), (1, .long y1), (3, .ref o3)] [] S109 kc nc P := by
    intro S109 hG110 hA111
    exact tt_vreturn dX7_subtractFrom_34 rfl (hP _ _ _ _ ⟨hG110, hA111, Or.inl ⟨_, rfl, rfl, trivial, rfl, rfl⟩⟩)
  refine tt_if_eq (tgt := 14) dX7_subtractFrom_4 rfl (fun q112 => ?_) (fun q112 => ?_)
  · skip
    have h113 : Rg 0 0 x106 := rg_eq_l h107 (⟨by decide, by decide⟩ : Rg 0 0 0) q112
    refine tt_aload_n (j := 0) dX7_subtractFrom_14 rfl ?_
    refine tt_lload_n (j := 1) dX7_subtractFrom_15 rfl ?_
    refine tt_aload_n (j := 2) dX7_subtractFrom_16 rfl ?_
    refine gt_gJ (id := 449) (v := (hp_J S 449 o3)) dX7_subtractFrom_17 fl_7_26 rfl rfl h3 hA rfl ?_
    refine tt_lsub dX7_subtractFrom_20 (gt_tl (fun y114 => ?_))
    refine tt_lload_n (j := 1) dX7_subtractFrom_21 rfl ?_
    refine tt_aload_n (j := 2) dX7_subtractFrom_22 rfl ?_
    refine gt_gJ (id := 448) (v := (hp_J S 448 o3)) dX7_subtractFrom_23 fl_7_23 rfl rfl h3 hA rfl ?_
    refine tt_lsub dX7_subtractFrom_26 (gt_tl (fun y115 => ?_))
    refine tt_aload_n (j := 2) dX7_subtractFrom_27 rfl ?_
    refine gt_gJ (id := 450) (v := (hp_J S 450 o3)) dX7_subtractFrom_28 fl_7_15 rfl rfl h3 hA rfl ?_
    refine gt_Vv (As := [.long y114, .long y115, .long (hp_J S 450 o3)]) dX7_subtractFrom_31 ca_X7_48 ⟨by decide, by decide⟩ h0 hA rfl (Nat.le_of_ble_eq_true rfl) (Nat.le_of_ble_eq_true rfl) (by decide) (cs_X7_become hG (oa_af h0 hA) (fun _ _ _ _ h => h)) rfl (fun _ h => nomatch h) (fun S116 hx120 hG117 hB118 hA119 => ?_)
    exact B108 S116 hG117 hA119
  · skip
    have h121 : Rg 1 1 x106 := rg_ne_lo h107 (⟨by decide, by decide⟩ : Rg 0 0 0) q112
    refine tt_aload_n (j := 0) dX7_subtractFrom_7 rfl ?_
    refine gt_Vv (As := []) dX7_subtractFrom_8 ca_X7_33 ⟨by decide, by decide⟩ h0 hA rfl (Nat.le_of_ble_eq_true rfl) (Nat.le_of_ble_eq_true rfl) (by decide) (cs_X7_becomeAny hG (oa_af h0 hA) (fun _ _ _ _ h => h)) rfl (fun _ h => nomatch h) (fun S122 hx126 hG123 hB124 hA125 => ?_)
    refine tt_goto (tgt := 34) dX7_subtractFrom_11 rfl ?_
    exact B108 S122 hG123 hA125
set_option maxHeartbeats 4000000 in
theorem cs_X7_shiftRight {xi : SX} {S : Hp} {E : List Nat} {kc nc : Nat} {P : Po} {o0 : Nat} {o1 : Nat} {x2 : Int32} (hG : GI S E) (h0 : Oa S E 7 0 o0) (h1 : Oa S E 7 0 o1) (hP : ∀ r T x y, PV E [9987] S kc nc rV ex0 [] r T x y → P r T x y) : TT xi M_X7_shiftRight 0 [(0, .ref o0), (1, .ref o1), (2, .int x2)] [] S kc nc P := by
  have hA : Af E [9987] S S := af_rf
  refine tt_iload_n (j := 2) dX7_shiftRight_0 rfl ?_
  refine tt_if_ne (tgt := 10) dX7_shiftRight_1 rfl (fun q101 => ?_) (fun q101 => ?_)
  · skip
    refine tt_aload_n (j := 1) dX7_shiftRight_10 rfl ?_
    refine gt_VIp (As := []) dX7_shiftRight_11 ca_X7_29 ⟨by decide, by decide⟩ h1 hA rfl (Nat.le_of_ble_eq_true rfl) (Nat.le_of_ble_eq_true rfl) (by decide) (cs_X7_isAny hG (oa_af h1 hA) (fun _ _ _ _ h => h)) rfl (fun _ h => nomatch h) (fun _ _ q => q) (fun x107 h108 hx106 => ?_)
    refine tt_if_eq (tgt := 35) dX7_shiftRight_14 rfl (fun q109 => ?_) (fun q109 => ?_)
    · skip
      have h110 : Rg 0 0 x107 := rg_eq_l h108 (⟨by decide, by decide⟩ : Rg 0 0 0) q109
      refine tt_lconst (v := 1) dX7_shiftRight_35 rfl ?_
      refine tt_iload_n (j := 2) dX7_shiftRight_36 rfl ?_
      refine tt_lshl dX7_shiftRight_37 (gt_tl (fun y111 => ?_))
      refine tt_lconst (v := 1) dX7_shiftRight_38 rfl ?_
      refine tt_lsub dX7_shiftRight_39 (gt_tl (fun y112 => ?_))
      refine tt_lstore_n (ks := [0, 1, 2, 3]) (L' := [(3, .long y112), (0, .ref o0), (1, .ref o1), (2, .int x2)]) dX7_shiftRight_40 (by decide) rfl ?_
      refine tt_aload_n (j := 2) dX7_shiftRight_41 rfl ?_
      refine gt_gJ (id := 450) (v := (hp_J S 450 o1)) dX7_shiftRight_42 fl_7_15 rfl rfl h1 hA rfl ?_
      refine tt_lload_n (j := 0) dX7_shiftRight_45 rfl ?_
      refine tt_land dX7_shiftRight_46 (gt_tl (fun y113 => ?_))
      refine tt_lconst (v := 0) dX7_shiftRight_47 rfl ?_
      refine tt_lcmp dX7_shiftRight_48 ?_
      have B114 : ∀ (x115 : Int32), Rg 0 1 x115 → TT xi M_X7_shiftRight 68 [(0, .ref o0), (1, .ref o1), (2, .int x2), (3, .long y112)] [.int x115] S kc nc P := by
        intro x115 h116
        refine tt_istore (ks := [0, 1, 2, 3, 4]) (L' := [(5, .int x115), (0, .ref o0), (1, .ref o1), (2, .int x2), (3, .long y112)]) dX7_shiftRight_68 (by decide) rfl ?_
        refine tt_aload_n (j := 1) dX7_shiftRight_70 rfl ?_
        refine tt_aload_n (j := 2) dX7_shiftRight_71 rfl ?_
        refine gt_gJ (id := 448) (v := (hp_J S 448 o1)) dX7_shiftRight_72 fl_7_23 rfl rfl h1 hA rfl ?_
        refine tt_iload_n (j := 3) dX7_shiftRight_75 rfl ?_
        refine tt_lshr dX7_shiftRight_76 (gt_tl (fun y117 => ?_))
        refine tt_aload_n (j := 2) dX7_shiftRight_77 rfl ?_
        refine gt_gJ (id := 449) (v := (hp_J S 449 o1)) dX7_shiftRight_78 fl_7_26 rfl rfl h1 hA rfl ?_
        refine tt_iload_n (j := 3) dX7_shiftRight_81 rfl ?_
        refine tt_lshr dX7_shiftRight_82 (gt_tl (fun y118 => ?_))
        refine tt_iload (j := 0) dX7_shiftRight_83 rfl ?_
        have B119 : ∀ (y120 : Int64), TT xi M_X7_shiftRight 98 [(0, .ref o0), (1, .ref o1), (2, .int x2), (3, .long y112), (5, .int x115)] [.long y120, .long y118, .long y117, .ref o0] S kc nc P := by
          intro y120 
          refine gt_Vv (As := [.long y117, .long y118, .long y120]) dX7_shiftRight_98 ca_X7_48 ⟨by decide, by decide⟩ h0 hA rfl (Nat.le_of_ble_eq_true rfl) (Nat.le_of_ble_eq_true rfl) (by decide) (cs_X7_become hG (oa_af h0 hA) (fun _ _ _ _ h => h)) rfl (fun _ h => nomatch h) (fun S121 hx125 hG122 hB123 hA124 => ?_)
          exact tt_vreturn dX7_shiftRight_101 rfl (hP _ _ _ _ ⟨hG122, hA124, Or.inl ⟨_, rfl, rfl, trivial, rfl, rfl⟩⟩)
        refine tt_if_eq (tgt := 97) dX7_shiftRight_85 rfl (fun q126 => ?_) (fun q126 => ?_)
        · skip
          have h127 : Rg 0 0 x115 := rg_eq_l h116 (⟨by decide, by decide⟩ : Rg 0 0 0) q126
          refine tt_lconst (v := 1) dX7_shiftRight_97 rfl ?_
          exact tt_loc (ks := [1, 2, 3, 4, 0]) rfl (B119 1)
        · skip
          have h128 : Rg 1 1 x115 := rg_ne_lo h116 (⟨by decide, by decide⟩ : Rg 0 0 0) q126
          refine tt_aload_n (j := 2) dX7_shiftRight_88 rfl ?_
          refine gt_gJ (id := 450) (v := (hp_J S 450 o1)) dX7_shiftRight_89 fl_7_15 rfl rfl h1 hA rfl ?_
          refine tt_iload_n (j := 3) dX7_shiftRight_92 rfl ?_
          refine tt_lshr dX7_shiftRight_93 (gt_tl (fun y129 => ?_))
          refine tt_goto (tgt := 98) dX7_shiftRight_94 rfl ?_
          exact tt_loc (ks := [1, 2, 3, 4, 0]) rfl (B119 y129)
      have B130 : TT xi M_X7_shiftRight 67 [(0, .ref o0), (1, .ref o1), (2, .int x2), (3, .long y112)] [] S kc nc P := by
        refine tt_iconst (v := 0) dX7_shiftRight_67 rfl ?_
        exact B114 0 (rg_w (⟨by decide, by decide⟩ : Rg 0 0 0))
      refine tt_if_ne (tgt := 67) dX7_shiftRight_49 rfl (fun q131 => ?_) (fun q131 => ?_)
      · skip
        exact tt_loc (ks := [1, 2, 3, 0]) rfl (B130 )
      · skip
        have h132 : Rl 0 0 y113 := rl_eq_l (rl_all y113) (⟨by decide, by decide⟩ : Rl 0 0 0) (lc_ne_f q131)
        refine tt_aload_n (j := 2) dX7_shiftRight_52 rfl ?_
        refine gt_gJ (id := 448) (v := (hp_J S 448 o1)) dX7_shiftRight_53 fl_7_23 rfl rfl h1 hA rfl ?_
        refine tt_lload_n (j := 0) dX7_shiftRight_56 rfl ?_
        refine tt_land dX7_shiftRight_57 (gt_tl (fun y133 => ?_))
        refine tt_lconst (v := 0) dX7_shiftRight_58 rfl ?_
        refine tt_lcmp dX7_shiftRight_59 ?_
        refine tt_if_ne (tgt := 67) dX7_shiftRight_60 rfl (fun q134 => ?_) (fun q134 => ?_)
        · skip
          exact tt_loc (ks := [1, 2, 3, 0]) rfl (B130 )
        · skip
          have h135 : Rl 0 0 y133 := rl_eq_l (rl_all y133) (⟨by decide, by decide⟩ : Rl 0 0 0) (lc_ne_f q134)
          refine tt_iconst (v := 1) dX7_shiftRight_63 rfl ?_
          refine tt_goto (tgt := 68) dX7_shiftRight_64 rfl ?_
          exact tt_loc (ks := [1, 2, 3, 0]) rfl (B114 1 (rg_w (⟨by decide, by decide⟩ : Rg 1 1 1)))
    · skip
      have h136 : Rg 1 1 x107 := rg_ne_lo h108 (⟨by decide, by decide⟩ : Rg 0 0 0) q109
      refine tt_lconst (v := 1) dX7_shiftRight_17 rfl ?_
      refine tt_bipush (v := 63) dX7_shiftRight_18 rfl ?_
      refine tt_iload_n (j := 2) dX7_shiftRight_20 rfl ?_
      refine tt_isub dX7_shiftRight_21 ?_
      refine tt_lshl dX7_shiftRight_22 (gt_tl (fun y137 => ?_))
      refine tt_lstore_n (ks := [0, 1, 2, 3]) (L' := [(3, .long y137), (0, .ref o0), (1, .ref o1), (2, .int x2)]) dX7_shiftRight_23 (by decide) rfl ?_
      refine tt_aload_n (j := 1) dX7_shiftRight_24 rfl ?_
      refine tt_lload_n (j := 0) dX7_shiftRight_25 rfl ?_
      refine tt_lneg dX7_shiftRight_26 (gt_tl (fun y138 => ?_))
      refine tt_lload_n (j := 0) dX7_shiftRight_27 rfl ?_
      refine tt_lconst (v := 1) dX7_shiftRight_28 rfl ?_
      refine tt_lsub dX7_shiftRight_29 (gt_tl (fun y139 => ?_))
      refine tt_lconst (v := 1) dX7_shiftRight_30 rfl ?_
      refine gt_Vv (As := [.long y138, .long y139, .long 1]) dX7_shiftRight_31 ca_X7_48 ⟨by decide, by decide⟩ h0 hA rfl (Nat.le_of_ble_eq_true rfl) (Nat.le_of_ble_eq_true rfl) (by decide) (cs_X7_become hG (oa_af h0 hA) (fun _ _ _ _ h => h)) rfl (fun _ h => nomatch h) (fun S140 hx144 hG141 hB142 hA143 => ?_)
      exact tt_vreturn dX7_shiftRight_34 rfl (hP _ _ _ _ ⟨hG141, hA143, Or.inl ⟨_, rfl, rfl, trivial, rfl, rfl⟩⟩)
  · skip
    have h145 : Rg 0 0 x2 := rg_eq_l (rg_all x2) (⟨by decide, by decide⟩ : Rg 0 0 0) q101
    refine tt_aload_n (j := 0) dX7_shiftRight_4 rfl ?_
    refine tt_aload_n (j := 1) dX7_shiftRight_5 rfl ?_
    refine gt_Vv (As := [.ref o1]) dX7_shiftRight_6 ca_X7_89 ⟨by decide, by decide⟩ h0 hA rfl (Nat.le_of_ble_eq_true rfl) (Nat.le_of_ble_eq_true rfl) (by decide) (cs_X7_copyFrom hG (oa_af h0 hA) (oa_af h1 hA) (fun _ _ _ _ h => h)) rfl (fun _ h => nomatch h) (fun S146 hx150 hG147 hB148 hA149 => ?_)
    exact tt_vreturn dX7_shiftRight_9 rfl (hP _ _ _ _ ⟨hG147, hA149, Or.inl ⟨_, rfl, rfl, trivial, rfl, rfl⟩⟩)
set_option maxHeartbeats 4000000 in
theorem cs_X7_isFactor {xi : SX} {S : Hp} {E : List Nat} {kc nc : Nat} {P : Po} {o0 : Nat} (hG : GI S E) (h0 : Oa S E 7 0 o0) (hP : ∀ r T x y, PV E [] S kc nc (rI 0 1) (fun _ T => T = S) [] r T x y → P r T x y) : TT xi M_X7_isFactor 0 [(0, .ref o0)] [] S kc nc P := by
  have hA : Af E [] S S := af_rf
  refine tt_aload_n (j := 0) dX7_isFactor_0 rfl ?_
  refine gt_gJ (id := 450) (v := (hp_J S 450 o0)) dX7_isFactor_1 fl_7_15 rfl rfl h0 hA rfl ?_
  refine tt_lconst (v := 0) dX7_isFactor_4 rfl ?_
  refine tt_lcmp dX7_isFactor_5 ?_
  have B101 : ∀ (x102 : Int32), Rg 0 1 x102 → TT xi M_X7_isFactor 36 [(0, .ref o0)] [.int x102] S kc nc P := by
    intro x102 h103
    exact tt_ireturn dX7_isFactor_36 .boolean rfl (rg_nar (rg_w h103)) (hP _ _ _ _ ⟨hG, hA, Or.inl ⟨_, rfl, ⟨_, rfl, rg_w h103⟩, rfl, rfl, rfl⟩⟩)
  have B104 : TT xi M_X7_isFactor 35 [(0, .ref o0)] [] S kc nc P := by
    refine tt_iconst (v := 0) dX7_isFactor_35 rfl ?_
    exact B101 0 (rg_w (⟨by decide, by decide⟩ : Rg 0 0 0))
  refine tt_if_lt (tgt := 35) dX7_isFactor_6 rfl (fun q105 => ?_) (fun q105 => ?_)
  · skip
    have h106 : Rl (-9223372036854775808) (-1) (hp_J S 450 o0) := rl_lt_l (rl_all (hp_J S 450 o0)) (⟨by decide, by decide⟩ : Rl 0 0 0) (lc_lt_t q105)
    exact B104 
  · skip
    have h107 : Rl 0 9223372036854775807 (hp_J S 450 o0) := rl_le_r (⟨by decide, by decide⟩ : Rl 0 0 0) (rl_all (hp_J S 450 o0)) (lc_lt_f q105)
    refine tt_aload_n (j := 0) dX7_isFactor_9 rfl ?_
    refine gt_gJ (id := 448) (v := (hp_J S 448 o0)) dX7_isFactor_10 fl_7_23 rfl rfl h0 hA rfl ?_
    refine tt_ldc2 (v := (-1073741824)) dX7_isFactor_13 kl_7_116 ?_
    refine tt_lcmp dX7_isFactor_16 ?_
    refine tt_if_lt (tgt := 35) dX7_isFactor_17 rfl (fun q108 => ?_) (fun q108 => ?_)
    · skip
      have h109 : Rl (-9223372036854775808) (-1073741825) (hp_J S 448 o0) := rl_lt_l (rl_all (hp_J S 448 o0)) (⟨by decide, by decide⟩ : Rl (-1073741824) (-1073741824) (-1073741824)) (lc_lt_t q108)
      exact B104 
    · skip
      have h110 : Rl (-1073741824) 9223372036854775807 (hp_J S 448 o0) := rl_le_r (⟨by decide, by decide⟩ : Rl (-1073741824) (-1073741824) (-1073741824)) (rl_all (hp_J S 448 o0)) (lc_lt_f q108)
      refine tt_aload_n (j := 0) dX7_isFactor_20 rfl ?_
      refine gt_gJ (id := 449) (v := (hp_J S 449 o0)) dX7_isFactor_21 fl_7_26 rfl rfl h0 hA rfl ?_
      refine tt_ldc2 (v := 1073741824) dX7_isFactor_24 kl_7_118 ?_
      refine tt_lcmp dX7_isFactor_27 ?_
      refine tt_if_gt (tgt := 35) dX7_isFactor_28 rfl (fun q111 => ?_) (fun q111 => ?_)
      · skip
        have h112 : Rl 1073741825 9223372036854775807 (hp_J S 449 o0) := rl_lt_r (⟨by decide, by decide⟩ : Rl 1073741824 1073741824 1073741824) (rl_all (hp_J S 449 o0)) (lc_gt_t q111)
        exact B104 
      · skip
        have h113 : Rl (-9223372036854775808) 1073741824 (hp_J S 449 o0) := rl_le_l (rl_all (hp_J S 449 o0)) (⟨by decide, by decide⟩ : Rl 1073741824 1073741824 1073741824) (lc_gt_f q111)
        refine tt_iconst (v := 1) dX7_isFactor_31 rfl ?_
        refine tt_goto (tgt := 36) dX7_isFactor_32 rfl ?_
        exact B101 1 (rg_w (⟨by decide, by decide⟩ : Rg 1 1 1))
set_option maxHeartbeats 4000000 in
theorem cs_X7_gcd {xi : SX} {S : Hp} {E : List Nat} {kc nc : Nat} {P : Po} {y0 : Int64} {y2 : Int64} (hG : GI S E)  (hP : ∀ r T x y, PV E [] S kc nc rJ (fun _ T => T = S) [] r T x y → P r T x y) : TT xi M_X7_gcd 0 [(0, .long y0), (2, .long y2)] [] S kc nc P := by
  have hA : Af E [] S S := af_rf
  refine tt_lload_n (j := 0) dX7_gcd_0 rfl ?_
  refine tt_lconst (v := 0) dX7_gcd_1 rfl ?_
  refine tt_lcmp dX7_gcd_2 ?_
  have B101 : ∀ (y102 : Int64), TT xi M_X7_gcd 12 [(0, .long y0), (2, .long y2)] [.long y102] S kc nc P := by
    intro y102 
    refine tt_lstore (ks := [0, 1, 2]) (L' := [(4, .long y102), (0, .long y0), (2, .long y2)]) dX7_gcd_12 (by decide) rfl ?_
    refine tt_lload_n (j := 2) dX7_gcd_14 rfl ?_
    refine tt_lconst (v := 0) dX7_gcd_15 rfl ?_
    refine tt_lcmp dX7_gcd_16 ?_
    have B103 : ∀ (y104 : Int64), TT xi M_X7_gcd 26 [(0, .long y0), (2, .long y2), (4, .long y102)] [.long y104] S kc nc P := by
      intro y104 
      refine tt_lstore (ks := [0, 1, 2, 3]) (L' := [(6, .long y104), (0, .long y0), (2, .long y2), (4, .long y102)]) dX7_gcd_26 (by decide) rfl ?_
      refine tt_iconst (v := 0) dX7_gcd_28 rfl ?_
      refine tt_istore (ks := [0, 1, 2, 3, 4]) (L' := [(8, .int 0), (6, .long y104), (0, .long y0), (2, .long y2), (4, .long y102)]) dX7_gcd_29 (by decide) rfl ?_
      have B105 : ∀ (nn : Nat) (y106 : Int64) (y107 : Int64) (x108 : Int32), (2147483648 - x108.toInt).toNat = nn → Rg 0 200 x108 → TT xi M_X7_gcd 31 [(0, .long y0), (2, .long y2), (4, .long y106), (6, .long y107), (8, .int x108)] [] S kc nc P := by
        intro nn
        induction nn using Nat.strongRecOn with
        | ind nn ihB105 =>
          intro y106 y107 x108 hmB105 h109
          subst hmB105
          refine tt_iload (j := 4) dX7_gcd_31 rfl ?_
          refine tt_sipush (v := 128) dX7_gcd_33 rfl ?_
          have B110 : TT xi M_X7_gcd 67 [(0, .long y0), (2, .long y2), (4, .long y106), (6, .long y107), (8, .int x108)] [] S kc nc P := by
            refine tt_lload (j := 2) dX7_gcd_67 rfl ?_
            exact tt_lreturn dX7_gcd_69 rfl (hP _ _ _ _ ⟨hG, hA, Or.inl ⟨_, rfl, ⟨_, rfl⟩, rfl, rfl, rfl⟩⟩)
          refine tt_icmp_ge (tgt := 67) dX7_gcd_36 rfl (fun q111 => ?_) (fun q111 => ?_)
          · skip
            have h112 : Rg 128 200 x108 := rg_le_r (⟨by decide, by decide⟩ : Rg 128 128 128) h109 q111
            exact B110 
          · skip
            have h113 : Rg 0 127 x108 := rg_lt_l h109 (⟨by decide, by decide⟩ : Rg 128 128 128) (nle_lt q111)
            refine tt_lload (j := 3) dX7_gcd_39 rfl ?_
            refine tt_lconst (v := 0) dX7_gcd_41 rfl ?_
            refine tt_lcmp dX7_gcd_42 ?_
            refine tt_if_eq (tgt := 67) dX7_gcd_43 rfl (fun q114 => ?_) (fun q114 => ?_)
            · skip
              have h115 : Rl 0 0 y107 := rl_eq_l (rl_all y107) (⟨by decide, by decide⟩ : Rl 0 0 0) (lc_eq_t q114)
              exact B110 
            · skip
              refine tt_lload (j := 2) dX7_gcd_46 rfl ?_
              refine tt_lload (j := 3) dX7_gcd_48 rfl ?_
              refine tt_lrem dX7_gcd_50 (lc_eq_f q114) (gt_tl (fun y116 => ?_))
              refine tt_lstore (ks := [0, 1, 2, 3, 4, 5]) (L' := [(9, .long y116), (0, .long y0), (2, .long y2), (4, .long y106), (6, .long y107), (8, .int x108)]) dX7_gcd_51 (by decide) rfl ?_
              refine tt_lload (j := 4) dX7_gcd_53 rfl ?_
              refine tt_lstore (ks := [0, 1, 2, 3, 4, 5]) (L' := [(4, .long y107), (9, .long y116), (0, .long y0), (2, .long y2), (6, .long y107), (8, .int x108)]) dX7_gcd_55 (by decide) rfl ?_
              refine tt_lload (j := 1) dX7_gcd_57 rfl ?_
              refine tt_lstore (ks := [0, 1, 2, 3, 4, 5]) (L' := [(6, .long y116), (4, .long y107), (9, .long y116), (0, .long y0), (2, .long y2), (8, .int x108)]) dX7_gcd_59 (by decide) rfl ?_
              refine tt_iinc (j := 5) (v := (x108 + 1)) (ks := [0, 1, 2, 3, 4, 5]) (L' := [(8, .int (x108 + 1)), (6, .long y116), (4, .long y107), (9, .long y116), (0, .long y0), (2, .long y2)]) dX7_gcd_61 rfl rfl (by decide) rfl ?_
              refine tt_goto (tgt := 31) dX7_gcd_64 rfl ?_
              exact tt_loc (ks := [4, 5, 2, 1, 0]) rfl (ihB105 _ (rg_up h113) y107 y116 (x108 + 1) rfl (rg_w (rg_add (lo := 1) (hi := 128) h113 (⟨by decide, by decide⟩ : Rg 1 1 1))))
      exact tt_loc (ks := [2, 3, 4, 1, 0]) rfl (B105 _ y102 y104 0 rfl (rg_w (⟨by decide, by decide⟩ : Rg 0 0 0)))
    refine tt_if_ge (tgt := 25) dX7_gcd_17 rfl (fun q117 => ?_) (fun q117 => ?_)
    · skip
      have h118 : Rl 0 9223372036854775807 y2 := rl_le_r (⟨by decide, by decide⟩ : Rl 0 0 0) (rl_all y2) (lc_ge_t q117)
      refine tt_lload_n (j := 2) dX7_gcd_25 rfl ?_
      exact tt_loc (ks := [1, 2, 0]) rfl (B103 y2)
    · skip
      have h119 : Rl (-9223372036854775808) (-1) y2 := rl_lt_l (rl_all y2) (⟨by decide, by decide⟩ : Rl 0 0 0) (lc_ge_f q117)
      refine tt_lload_n (j := 2) dX7_gcd_20 rfl ?_
      refine tt_lneg dX7_gcd_21 (gt_tl (fun y120 => ?_))
      refine tt_goto (tgt := 26) dX7_gcd_22 rfl ?_
      exact tt_loc (ks := [1, 2, 0]) rfl (B103 y120)
  refine tt_if_ge (tgt := 11) dX7_gcd_3 rfl (fun q121 => ?_) (fun q121 => ?_)
  · skip
    have h122 : Rl 0 9223372036854775807 y0 := rl_le_r (⟨by decide, by decide⟩ : Rl 0 0 0) (rl_all y0) (lc_ge_t q121)
    refine tt_lload_n (j := 0) dX7_gcd_11 rfl ?_
    exact B101 y0
  · skip
    have h123 : Rl (-9223372036854775808) (-1) y0 := rl_lt_l (rl_all y0) (⟨by decide, by decide⟩ : Rl 0 0 0) (lc_ge_f q121)
    refine tt_lload_n (j := 0) dX7_gcd_6 rfl ?_
    refine tt_lneg dX7_gcd_7 (gt_tl (fun y124 => ?_))
    refine tt_goto (tgt := 12) dX7_gcd_8 rfl ?_
    exact B101 y124
set_option maxHeartbeats 4000000 in
theorem cs_X8_setRecord {xi : SX} {S : Hp} {E : List Nat} {kc nc : Nat} {P : Po} {o0 : Nat} {x1 : Int32} {x2 : Int32} {x3 : Int32} {y4 : Int64} (hG : GI S E) (h0 : Oa S E 8 0 o0) (hP : ∀ r T x y, PV E [515, 516, 517, 9987] S kc nc rV ex0 [] r T x y → P r T x y) : TT xi M_X8_setRecord 0 [(0, .ref o0), (1, .int x1), (2, .int x2), (3, .int x3), (4, .long y4)] [] S kc nc P := by
  have hA : Af E [515, 516, 517, 9987] S S := af_rf
  refine tt_aload_n (j := 0) dX8_setRecord_0 rfl ?_
  refine tt_iload_n (j := 1) dX8_setRecord_1 rfl ?_
  refine gt_pI (id := 515) (x := x1) dX8_setRecord_2 fl_8_21 rfl rfl h0 hA rfl rfl rfl (gp_I hG) (by decide) (fun h => absurd h (by decide)) (fun h => absurd h (by decide)) (fun S101 hG102 hA103 e104 f105 er106 => ?_)
  refine tt_aload_n (j := 0) dX8_setRecord_5 rfl ?_
  refine tt_iload_n (j := 2) dX8_setRecord_6 rfl ?_
  refine gt_pI (id := 516) (x := x2) dX8_setRecord_7 fl_8_25 rfl rfl h0 hA103 rfl rfl rfl (gp_I hG102) (by decide) (fun h => absurd h (by decide)) (fun h => absurd h (by decide)) (fun S107 hG108 hA109 e110 f111 er112 => ?_)
  refine tt_aload_n (j := 0) dX8_setRecord_10 rfl ?_
  refine tt_iload_n (j := 3) dX8_setRecord_11 rfl ?_
  refine gt_pI (id := 517) (x := x3) dX8_setRecord_12 fl_8_28 rfl rfl h0 hA109 rfl rfl rfl (gp_I hG108) (by decide) (fun h => absurd h (by decide)) (fun h => absurd h (by decide)) (fun S113 hG114 hA115 e116 f117 er118 => ?_)
  refine tt_aload_n (j := 0) dX8_setRecord_15 rfl ?_
  refine tt_lload (j := 4) dX8_setRecord_16 rfl ?_
  refine gt_pJ (id := 518) (x := y4) dX8_setRecord_18 fl_8_62 rfl rfl h0 hA115 rfl rfl rfl hG114 (fun S119 hG120 hA121 e122 f123 er124 => ?_)
  exact tt_vreturn dX8_setRecord_21 rfl (hP _ _ _ _ ⟨hG120, hA121, Or.inl ⟨_, rfl, rfl, trivial, rfl, rfl⟩⟩)
set_option maxHeartbeats 4000000 in
theorem cs_X8_dropRecord {xi : SX} {S : Hp} {E : List Nat} {kc nc : Nat} {P : Po} {o0 : Nat} (hG : GI S E) (h0 : Oa S E 8 0 o0) (hP : ∀ r T x y, PV E [515, 516, 517, 9987] S kc nc rV ex0 [] r T x y → P r T x y) : TT xi M_X8_dropRecord 0 [(0, .ref o0)] [] S kc nc P := by
  have hA : Af E [515, 516, 517, 9987] S S := af_rf
  refine tt_aload_n (j := 0) dX8_dropRecord_0 rfl ?_
  refine tt_iconst (v := 0) dX8_dropRecord_1 rfl ?_
  refine tt_iconst (v := (-1)) dX8_dropRecord_2 rfl ?_
  refine tt_iconst (v := (-1)) dX8_dropRecord_3 rfl ?_
  refine tt_lconst (v := 0) dX8_dropRecord_4 rfl ?_
  refine gt_Vv (As := [.int 0, .int (-1), .int (-1), .long 0]) dX8_dropRecord_5 ca_X8_65 ⟨by decide, by decide⟩ h0 hA rfl (Nat.le_of_ble_eq_true rfl) (Nat.le_of_ble_eq_true rfl) (by decide) (cs_X8_setRecord hG (oa_af h0 hA) (fun _ _ _ _ h => h)) rfl (fun _ h => nomatch h) (fun S101 hx105 hG102 hB103 hA104 => ?_)
  exact tt_vreturn dX8_dropRecord_8 rfl (hP _ _ _ _ ⟨hG102, hA104, Or.inl ⟨_, rfl, rfl, trivial, rfl, rfl⟩⟩)
set_option maxHeartbeats 4000000 in
theorem cs_X8_isSameRecord {xi : SX} {S : Hp} {E : List Nat} {kc nc : Nat} {P : Po} {o0 : Nat} {o1 : Nat} (hG : GI S E) (h0 : Oa S E 8 0 o0) (h1 : Oa S E 8 0 o1) (hP : ∀ r T x y, PV E [] S kc nc (rI 0 1) (fun _ T => T = S) [] r T x y → P r T x y) : TT xi M_X8_isSameRecord 0 [(0, .ref o0), (1, .ref o1)] [] S kc nc P := by
  have hA : Af E [] S S := af_rf
  refine tt_aload_n (j := 0) dX8_isSameRecord_0 rfl ?_
  refine tt_getI (id := 515) dX8_isSameRecord_1 fl_8_21 rfl rfl (ob_af h0 hA) ?_
  refine tt_aload_n (j := 1) dX8_isSameRecord_4 rfl ?_
  refine tt_getI (id := 515) dX8_isSameRecord_5 fl_8_21 rfl rfl (ob_af h1 hA) ?_
  have B101 : ∀ (x102 : Int32), Rg 0 1 x102 → TT xi M_X8_isSameRecord 50 [(0, .ref o0), (1, .ref o1)] [.int x102] S kc nc P := by
    intro x102 h103
    exact tt_ireturn dX8_isSameRecord_50 .boolean rfl (rg_nar (rg_w h103)) (hP _ _ _ _ ⟨hG, hA, Or.inl ⟨_, rfl, ⟨_, rfl, rg_w h103⟩, rfl, rfl, rfl⟩⟩)
  have B104 : TT xi M_X8_isSameRecord 49 [(0, .ref o0), (1, .ref o1)] [] S kc nc P := by
    refine tt_iconst (v := 0) dX8_isSameRecord_49 rfl ?_
    exact B101 0 (rg_w (⟨by decide, by decide⟩ : Rg 0 0 0))
  refine tt_icmp_ne (tgt := 49) dX8_isSameRecord_8 rfl (fun q105 => ?_) (fun q105 => ?_)
  · skip
    exact B104 
  · skip
    refine tt_aload_n (j := 0) dX8_isSameRecord_11 rfl ?_
    refine tt_getI (id := 516) dX8_isSameRecord_12 fl_8_25 rfl rfl (ob_af h0 hA) ?_
    refine tt_aload_n (j := 1) dX8_isSameRecord_15 rfl ?_
    refine tt_getI (id := 516) dX8_isSameRecord_16 fl_8_25 rfl rfl (ob_af h1 hA) ?_
    refine tt_icmp_ne (tgt := 49) dX8_isSameRecord_19 rfl (fun q106 => ?_) (fun q106 => ?_)
    · skip
      exact B104 
    · skip
      refine tt_aload_n (j := 0) dX8_isSameRecord_22 rfl ?_
      refine tt_getI (id := 517) dX8_isSameRecord_23 fl_8_28 rfl rfl (ob_af h0 hA) ?_
      refine tt_aload_n (j := 1) dX8_isSameRecord_26 rfl ?_
      refine tt_getI (id := 517) dX8_isSameRecord_27 fl_8_28 rfl rfl (ob_af h1 hA) ?_
      refine tt_icmp_ne (tgt := 49) dX8_isSameRecord_30 rfl (fun q107 => ?_) (fun q107 => ?_)
      · skip
        exact B104 
      · skip
        refine tt_aload_n (j := 0) dX8_isSameRecord_33 rfl ?_
        refine gt_gJ (id := 518) (v := (hp_J S 518 o0)) dX8_isSameRecord_34 fl_8_62 rfl rfl h0 hA rfl ?_
        refine tt_aload_n (j := 1) dX8_isSameRecord_37 rfl ?_
        refine gt_gJ (id := 518) (v := (hp_J S 518 o1)) dX8_isSameRecord_38 fl_8_62 rfl rfl h1 hA rfl ?_
        refine tt_lcmp dX8_isSameRecord_41 ?_
        refine tt_if_ne (tgt := 49) dX8_isSameRecord_42 rfl (fun q108 => ?_) (fun q108 => ?_)
        · skip
          exact B104 
        · skip
          refine tt_iconst (v := 1) dX8_isSameRecord_45 rfl ?_
          refine tt_goto (tgt := 50) dX8_isSameRecord_46 rfl ?_
          exact B101 1 (rg_w (⟨by decide, by decide⟩ : Rg 1 1 1))
set_option maxHeartbeats 4000000 in
theorem cs_X8_isSameSpan {xi : SX} {S : Hp} {E : List Nat} {kc nc : Nat} {P : Po} {o0 : Nat} {o1 : Nat} {x2 : Int32} (hG : GI S E) (h0 : Oa S E 8 0 o0) (h1 : Oa S E 8 0 o1) (h2 : Rg 0 23 x2) (hP : ∀ r T x y, PV E [] S kc nc (rI 0 1) (fun _ T => T = S) [] r T x y → P r T x y) : TT xi M_X8_isSameSpan 0 [(0, .ref o0), (1, .ref o1), (2, .int x2)] [] S kc nc P := by
  have hA : Af E [] S S := af_rf
  refine tt_aload_n (j := 0) dX8_isSameSpan_0 rfl ?_
  obtain ⟨b101, hr102, ho103⟩ := gi_R (k := 512) hG h0 33 24
  refine gt_gR (id := 512) dX8_isSameSpan_1 fl_8_9 rfl rfl h0 hA hr102 ?_
  refine tt_iload_n (j := 2) dX8_isSameSpan_4 rfl ?_
  refine gt_lLt dX8_isSameSpan_5 ho103 hA (rg_in h2) ?_
  refine tt_aload_n (j := 1) dX8_isSameSpan_6 rfl ?_
  obtain ⟨b104, hr105, ho106⟩ := gi_R (k := 512) hG h1 33 24
  refine gt_gR (id := 512) dX8_isSameSpan_7 fl_8_9 rfl rfl h1 hA hr105 ?_
  refine tt_iload_n (j := 2) dX8_isSameSpan_10 rfl ?_
  refine gt_lLt dX8_isSameSpan_11 ho106 hA (rg_in h2) ?_
  refine tt_lcmp dX8_isSameSpan_12 ?_
  have B107 : ∀ (x108 : Int32), Rg 0 1 x108 → TT xi M_X8_isSameSpan 53 [(0, .ref o0), (1, .ref o1), (2, .int x2)] [.int x108] S kc nc P := by
    intro x108 h109
    exact tt_ireturn dX8_isSameSpan_53 .boolean rfl (rg_nar (rg_w h109)) (hP _ _ _ _ ⟨hG, hA, Or.inl ⟨_, rfl, ⟨_, rfl, rg_w h109⟩, rfl, rfl, rfl⟩⟩)
  have B110 : TT xi M_X8_isSameSpan 52 [(0, .ref o0), (1, .ref o1), (2, .int x2)] [] S kc nc P := by
    refine tt_iconst (v := 0) dX8_isSameSpan_52 rfl ?_
    exact B107 0 (rg_w (⟨by decide, by decide⟩ : Rg 0 0 0))
  refine tt_if_ne (tgt := 52) dX8_isSameSpan_13 rfl (fun q111 => ?_) (fun q111 => ?_)
  · skip
    exact B110 
  · skip
    refine tt_aload_n (j := 0) dX8_isSameSpan_16 rfl ?_
    obtain ⟨b112, hr113, ho114⟩ := gi_R (k := 513) hG h0 33 24
    refine gt_gR (id := 513) dX8_isSameSpan_17 fl_8_15 rfl rfl h0 hA hr113 ?_
    refine tt_iload_n (j := 2) dX8_isSameSpan_20 rfl ?_
    refine gt_lLt dX8_isSameSpan_21 ho114 hA (rg_in h2) ?_
    refine tt_aload_n (j := 1) dX8_isSameSpan_22 rfl ?_
    obtain ⟨b115, hr116, ho117⟩ := gi_R (k := 513) hG h1 33 24
    refine gt_gR (id := 513) dX8_isSameSpan_23 fl_8_15 rfl rfl h1 hA hr116 ?_
    refine tt_iload_n (j := 2) dX8_isSameSpan_26 rfl ?_
    refine gt_lLt dX8_isSameSpan_27 ho117 hA (rg_in h2) ?_
    refine tt_lcmp dX8_isSameSpan_28 ?_
    refine tt_if_ne (tgt := 52) dX8_isSameSpan_29 rfl (fun q118 => ?_) (fun q118 => ?_)
    · skip
      exact B110 
    · skip
      refine tt_aload_n (j := 0) dX8_isSameSpan_32 rfl ?_
      obtain ⟨b119, hr120, ho121⟩ := gi_R (k := 514) hG h0 33 24
      refine gt_gR (id := 514) dX8_isSameSpan_33 fl_8_18 rfl rfl h0 hA hr120 ?_
      refine tt_iload_n (j := 2) dX8_isSameSpan_36 rfl ?_
      refine gt_lLt dX8_isSameSpan_37 ho121 hA (rg_in h2) ?_
      refine tt_aload_n (j := 1) dX8_isSameSpan_38 rfl ?_
      obtain ⟨b122, hr123, ho124⟩ := gi_R (k := 514) hG h1 33 24
      refine gt_gR (id := 514) dX8_isSameSpan_39 fl_8_18 rfl rfl h1 hA hr123 ?_
      refine tt_iload_n (j := 2) dX8_isSameSpan_42 rfl ?_
      refine gt_lLt dX8_isSameSpan_43 ho124 hA (rg_in h2) ?_
      refine tt_lcmp dX8_isSameSpan_44 ?_
      refine tt_if_ne (tgt := 52) dX8_isSameSpan_45 rfl (fun q125 => ?_) (fun q125 => ?_)
      · skip
        exact B110 
      · skip
        refine tt_iconst (v := 1) dX8_isSameSpan_48 rfl ?_
        refine tt_goto (tgt := 53) dX8_isSameSpan_49 rfl ?_
        exact B107 1 (rg_w (⟨by decide, by decide⟩ : Rg 1 1 1))
set_option maxHeartbeats 4000000 in
theorem cs_X9_at {xi : SX} {S : Hp} {E : List Nat} {kc nc : Nat} {P : Po} {o0 : Nat} (hG : GI S E) (h0 : Oa S E 9 0 o0) (hP : ∀ r T x y, PV E [] S kc nc (rI (-2147483648) 2147483647) (fun _ T => T = S) [] r T x y → P r T x y) : TT xi M_X9_at 0 [(0, .ref o0)] [] S kc nc P := by
  have hA : Af E [] S S := af_rf
  refine tt_aload_n (j := 0) dX9_at_0 rfl ?_
  obtain ⟨b101, hr102, ho103⟩ := gi_R (k := 580) hG h0 6 0
  refine gt_gR (id := 580) dX9_at_1 fl_9_44 rfl rfl h0 hA hr102 ?_
  refine tt_getI (id := 388) dX9_at_4 fl_9_148 rfl rfl (ob_af ho103 hA) ?_
  exact tt_ireturn dX9_at_7 .int rfl rfl (hP _ _ _ _ ⟨hG, hA, Or.inl ⟨_, rfl, ⟨_, rfl, rg_w (rg_all (hp_I S 388 b101))⟩, rfl, rfl, rfl⟩⟩)
set_option maxHeartbeats 4000000 in
theorem cs_X9_forgetFindings {xi : SX} {S : Hp} {E : List Nat} {kc nc : Nat} {P : Po} {o0 : Nat} (hG : GI S E) (h0 : Oa S E 9 0 o0) (hP : ∀ r T x y, PV E [321, 322, 388] S kc nc rV ex0 [] r T x y → P r T x y) : TT xi M_X9_forgetFindings 0 [(0, .ref o0)] [] S kc nc P := by
  have hA : Af E [321, 322, 388] S S := af_rf
  refine tt_aload_n (j := 0) dX9_forgetFindings_0 rfl ?_
  obtain ⟨b101, hr102, ho103⟩ := gi_R (k := 579) hG h0 4 0
  refine gt_gR (id := 579) dX9_forgetFindings_1 fl_9_37 rfl rfl h0 hA hr102 ?_
  refine gt_Vv (As := []) dX9_forgetFindings_4 ca_X9_161 ⟨by decide, by decide⟩ ho103 hA rfl (Nat.le_of_ble_eq_true rfl) (Nat.le_of_ble_eq_true rfl) (by decide) (cs_X4_forget hG (oa_af ho103 hA) (fun _ _ _ _ h => h)) rfl (fun _ h => nomatch h) (fun S104 hx108 hG105 hB106 hA107 => ?_)
  refine tt_aload_n (j := 0) dX9_forgetFindings_7 rfl ?_
  obtain ⟨b109, hr110, ho111⟩ := gi_R (k := 580) hG h0 6 0
  refine gt_gR (id := 580) dX9_forgetFindings_8 fl_9_44 rfl rfl h0 hA107 hr110 ?_
  refine tt_iconst (v := (-1)) dX9_forgetFindings_11 rfl ?_
  refine gt_pI (id := 388) (x := (-1)) dX9_forgetFindings_12 fl_9_148 rfl rfl ho111 hA107 rfl rfl rfl (gp_I hG105) (by decide) (fun h => absurd h (by decide)) (fun h => absurd h (by decide)) (fun S112 hG113 hA114 e115 f116 er117 => ?_)
  exact tt_vreturn dX9_forgetFindings_15 rfl (hP _ _ _ _ ⟨hG113, hA114, Or.inl ⟨_, rfl, rfl, trivial, rfl, rfl⟩⟩)
set_option maxHeartbeats 4000000 in
theorem cs_X9_requireByte {xi : SX} {S : Hp} {E : List Nat} {kc nc : Nat} {P : Po} {o0 : Nat} {x1 : Int32} (hG : GI S E) (h0 : Oa S E 9 0 o0) (hkc : 1 ≤ kc) (hnc : 6 ≤ nc) (hP : ∀ r T x y, PV E [] S kc nc rV (fun _ T => T = S) ["java/lang/IllegalArgumentException"] r T x y → P r T x y) : TT xi M_X9_requireByte 0 [(0, .ref o0), (1, .int x1)] [] S kc nc P := by
  have hA : Af E [] S S := af_rf
  refine tt_aload_n (j := 0) dX9_requireByte_0 rfl ?_
  obtain ⟨b101, hr102, ho103⟩ := gi_R (k := 576) hG h0 1 0
  refine gt_gR (id := 576) dX9_requireByte_1 fl_9_10 rfl rfl h0 hA hr102 ?_
  refine tt_iload_n (j := 1) dX9_requireByte_4 rfl ?_
  refine tt_i2l dX9_requireByte_5 ?_
  refine gt_VIp (As := [.long (x1 : Int32).toInt64]) dX9_requireByte_6 ca_X9_164 ⟨by decide, by decide⟩ ho103 hA rfl (Nat.le_of_ble_eq_true rfl) (Nat.le_of_ble_eq_true rfl) (by decide) (cs_X1_holds hG (oa_af ho103 hA) (fun _ _ _ _ h => h)) rfl (fun _ h => nomatch h) (fun _ _ q => q.1) (fun x109 h110 hx108 => ?_)
  refine tt_if_ne (tgt := 22) dX9_requireByte_9 rfl (fun q111 => ?_) (fun q111 => ?_)
  · skip
    have h112 : Rg 1 1 x109 := rg_ne_lo h110 (⟨by decide, by decide⟩ : Rg 0 0 0) q111
    have h113 : Rl 0 199 (x1 : Int32).toInt64 := ((hx108.2) _ rfl q111)
    exact tt_vreturn dX9_requireByte_22 rfl (hP _ _ _ _ ⟨hG, hA, Or.inl ⟨_, rfl, rfl, rfl, rfl, rfl⟩⟩)
  · skip
    have h114 : Rg 0 0 x109 := rg_eq_l h110 (⟨by decide, by decide⟩ : Rg 0 0 0) q111
    exact tt_throw th_X9_requireByte_12 (hP _ _ _ _ ⟨hG, hA, Or.inr ⟨_, List.mem_cons_self, rfl⟩⟩) hkc hnc (by decide)
set_option maxHeartbeats 4000000 in
theorem cs_X9_isLocation {xi : SX} {S : Hp} {E : List Nat} {kc nc : Nat} {P : Po} {x0 : Int32} (hG : GI S E)  (hP : ∀ r T x y, PV E [] S kc nc (rI 0 1) (fun v T => T = S ∧ ∀ z, v = some (.int z) → (¬ z = 0 → Rg 0 23 x0) ∧ (z = 0 → ¬ Rg 0 23 x0)) [] r T x y → P r T x y) : TT xi M_X9_isLocation 0 [(0, .int x0)] [] S kc nc P := by
  have hA : Af E [] S S := af_rf
  refine tt_iload_n (j := 0) dX9_isLocation_0 rfl ?_
  refine tt_if_lt (tgt := 14) dX9_isLocation_1 rfl (fun q101 => ?_) (fun q101 => ?_)
  · skip
    have h102 : Rg (-2147483648) (-1) x0 := rg_lt_l (rg_all x0) (⟨by decide, by decide⟩ : Rg 0 0 0) q101
    refine tt_iconst (v := 0) dX9_isLocation_14 rfl ?_
    exact tt_ireturn dX9_isLocation_15 .boolean rfl rfl (hP _ _ _ _ ⟨hG, hA, Or.inl ⟨_, rfl, ⟨_, rfl, rg_w (⟨by decide, by decide⟩ : Rg 0 0 0)⟩, ⟨rfl, (ei_00 (rg_out h102))⟩, rfl, rfl⟩⟩)
  · skip
    have h103 : Rg 0 2147483647 x0 := rg_le_r (⟨by decide, by decide⟩ : Rg 0 0 0) (rg_all x0) (nlt_le q101)
    refine tt_iload_n (j := 0) dX9_isLocation_4 rfl ?_
    refine tt_bipush (v := 24) dX9_isLocation_5 rfl ?_
    refine tt_icmp_ge (tgt := 14) dX9_isLocation_7 rfl (fun q104 => ?_) (fun q104 => ?_)
    · skip
      have h105 : Rg 24 2147483647 x0 := rg_le_r (⟨by decide, by decide⟩ : Rg 24 24 24) h103 q104
      refine tt_iconst (v := 0) dX9_isLocation_14 rfl ?_
      exact tt_ireturn dX9_isLocation_15 .boolean rfl rfl (hP _ _ _ _ ⟨hG, hA, Or.inl ⟨_, rfl, ⟨_, rfl, rg_w (⟨by decide, by decide⟩ : Rg 0 0 0)⟩, ⟨rfl, (ei_00 (rg_out h105))⟩, rfl, rfl⟩⟩)
    · skip
      have h106 : Rg 0 23 x0 := rg_lt_l h103 (⟨by decide, by decide⟩ : Rg 24 24 24) (nle_lt q104)
      refine tt_iconst (v := 1) dX9_isLocation_10 rfl ?_
      refine tt_goto (tgt := 15) dX9_isLocation_11 rfl ?_
      exact tt_ireturn dX9_isLocation_15 .boolean rfl rfl (hP _ _ _ _ ⟨hG, hA, Or.inl ⟨_, rfl, ⟨_, rfl, rg_w (⟨by decide, by decide⟩ : Rg 1 1 1)⟩, ⟨rfl, (ei_1 (rg_w h106))⟩, rfl, rfl⟩⟩)
set_option maxHeartbeats 4000000 in
theorem cs_J6_numberOfLeadingZeros_0f7a4 {xi : SX} {S : Hp} {E : List Nat} {kc nc : Nat} {P : Po} {x0 : Int32} (hG : GI S E)  (hP : ∀ r T x y, PV E [] S kc nc (rI (-2147483648) 2147483647) (fun _ T => T = S) [] r T x y → P r T x y) : TT xi M_J6_numberOfLeadingZeros_0f7a4 0 [(0, .int x0)] [] S kc nc P := by
  have hA : Af E [] S S := af_rf
  refine tt_iload_n (j := 0) dJ6_numberOfLeadingZeros_0f7a4_0 rfl ?_
  refine tt_if_gt (tgt := 15) dJ6_numberOfLeadingZeros_0f7a4_1 rfl (fun q101 => ?_) (fun q101 => ?_)
  · skip
    have h102 : Rg 1 2147483647 x0 := rg_lt_r (⟨by decide, by decide⟩ : Rg 0 0 0) (rg_all x0) q101
    refine tt_bipush (v := 31) dJ6_numberOfLeadingZeros_0f7a4_15 rfl ?_
    refine tt_istore_n (ks := [0, 1]) (L' := [(1, .int 31), (0, .int x0)]) dJ6_numberOfLeadingZeros_0f7a4_17 (by decide) rfl ?_
    refine tt_iload_n (j := 1) dJ6_numberOfLeadingZeros_0f7a4_18 rfl ?_
    refine tt_ldcw (v := 65536) dJ6_numberOfLeadingZeros_0f7a4_19 ki_J6_264 ?_
    have B103 : ∀ (x104 : Int32) (x105 : Int32), Rg 15 31 x105 → TT xi M_J6_numberOfLeadingZeros_0f7a4 33 [(0, .int x104), (1, .int x105)] [] S kc nc P := by
      intro x104 x105 h106
      refine tt_iload_n (j := 0) dJ6_numberOfLeadingZeros_0f7a4_33 rfl ?_
      refine tt_sipush (v := 256) dJ6_numberOfLeadingZeros_0f7a4_34 rfl ?_
      have B107 : ∀ (x108 : Int32) (x109 : Int32), Rg 7 31 x109 → TT xi M_J6_numberOfLeadingZeros_0f7a4 48 [(0, .int x108), (1, .int x109)] [] S kc nc P := by
        intro x108 x109 h110
        refine tt_iload_n (j := 0) dJ6_numberOfLeadingZeros_0f7a4_48 rfl ?_
        refine tt_bipush (v := 16) dJ6_numberOfLeadingZeros_0f7a4_49 rfl ?_
        have B111 : ∀ (x112 : Int32) (x113 : Int32), Rg 3 31 x113 → TT xi M_J6_numberOfLeadingZeros_0f7a4 61 [(0, .int x112), (1, .int x113)] [] S kc nc P := by
          intro x112 x113 h114
          refine tt_iload_n (j := 0) dJ6_numberOfLeadingZeros_0f7a4_61 rfl ?_
          refine tt_iconst (v := 4) dJ6_numberOfLeadingZeros_0f7a4_62 rfl ?_
          have B115 : ∀ (x116 : Int32) (x117 : Int32), Rg 1 31 x117 → TT xi M_J6_numberOfLeadingZeros_0f7a4 73 [(0, .int x116), (1, .int x117)] [] S kc nc P := by
            intro x116 x117 h118
            refine tt_iload_n (j := 1) dJ6_numberOfLeadingZeros_0f7a4_73 rfl ?_
            refine tt_iload_n (j := 0) dJ6_numberOfLeadingZeros_0f7a4_74 rfl ?_
            refine tt_iconst (v := 1) dJ6_numberOfLeadingZeros_0f7a4_75 rfl ?_
            refine tt_iushr dJ6_numberOfLeadingZeros_0f7a4_76 (gt_ti (fun x119 => ?_))
            refine tt_isub dJ6_numberOfLeadingZeros_0f7a4_77 ?_
            exact tt_ireturn dJ6_numberOfLeadingZeros_0f7a4_78 .int rfl rfl (hP _ _ _ _ ⟨hG, hA, Or.inl ⟨_, rfl, ⟨_, rfl, rg_w (rg_all (x117 - x119))⟩, rfl, rfl, rfl⟩⟩)
          refine tt_icmp_lt (tgt := 73) dJ6_numberOfLeadingZeros_0f7a4_63 rfl (fun q120 => ?_) (fun q120 => ?_)
          · skip
            have h121 : Rg (-2147483648) 3 x112 := rg_lt_l (rg_all x112) (⟨by decide, by decide⟩ : Rg 4 4 4) q120
            exact B115 x112 x113 (rg_w h114)
          · skip
            have h122 : Rg 4 2147483647 x112 := rg_le_r (⟨by decide, by decide⟩ : Rg 4 4 4) (rg_all x112) (nlt_le q120)
            refine tt_iinc (j := 1) (v := (x113 + (-2))) (ks := [0, 1]) (L' := [(1, .int (x113 + (-2))), (0, .int x112)]) dJ6_numberOfLeadingZeros_0f7a4_66 rfl rfl (by decide) rfl ?_
            refine tt_iload_n (j := 1) dJ6_numberOfLeadingZeros_0f7a4_69 rfl ?_
            refine tt_iconst (v := 2) dJ6_numberOfLeadingZeros_0f7a4_70 rfl ?_
            refine tt_iushr dJ6_numberOfLeadingZeros_0f7a4_71 (gt_ti (fun x123 => ?_))
            refine tt_istore_n (ks := [0, 1]) (L' := [(0, .int x123), (1, .int (x113 + (-2)))]) dJ6_numberOfLeadingZeros_0f7a4_72 (by decide) rfl ?_
            exact B115 x123 (x113 + (-2)) (rg_w (rg_add (lo := 1) (hi := 29) h114 (⟨by decide, by decide⟩ : Rg (-2) (-2) (-2))))
        refine tt_icmp_lt (tgt := 61) dJ6_numberOfLeadingZeros_0f7a4_51 rfl (fun q124 => ?_) (fun q124 => ?_)
        · skip
          have h125 : Rg (-2147483648) 15 x108 := rg_lt_l (rg_all x108) (⟨by decide, by decide⟩ : Rg 16 16 16) q124
          exact B111 x108 x109 (rg_w h110)
        · skip
          have h126 : Rg 16 2147483647 x108 := rg_le_r (⟨by decide, by decide⟩ : Rg 16 16 16) (rg_all x108) (nlt_le q124)
          refine tt_iinc (j := 1) (v := (x109 + (-4))) (ks := [0, 1]) (L' := [(1, .int (x109 + (-4))), (0, .int x108)]) dJ6_numberOfLeadingZeros_0f7a4_54 rfl rfl (by decide) rfl ?_
          refine tt_iload_n (j := 1) dJ6_numberOfLeadingZeros_0f7a4_57 rfl ?_
          refine tt_iconst (v := 4) dJ6_numberOfLeadingZeros_0f7a4_58 rfl ?_
          refine tt_iushr dJ6_numberOfLeadingZeros_0f7a4_59 (gt_ti (fun x127 => ?_))
          refine tt_istore_n (ks := [0, 1]) (L' := [(0, .int x127), (1, .int (x109 + (-4)))]) dJ6_numberOfLeadingZeros_0f7a4_60 (by decide) rfl ?_
          exact B111 x127 (x109 + (-4)) (rg_w (rg_add (lo := 3) (hi := 27) h110 (⟨by decide, by decide⟩ : Rg (-4) (-4) (-4))))
      refine tt_icmp_lt (tgt := 48) dJ6_numberOfLeadingZeros_0f7a4_37 rfl (fun q128 => ?_) (fun q128 => ?_)
      · skip
        have h129 : Rg (-2147483648) 255 x104 := rg_lt_l (rg_all x104) (⟨by decide, by decide⟩ : Rg 256 256 256) q128
        exact B107 x104 x105 (rg_w h106)
      · skip
        have h130 : Rg 256 2147483647 x104 := rg_le_r (⟨by decide, by decide⟩ : Rg 256 256 256) (rg_all x104) (nlt_le q128)
        refine tt_iinc (j := 1) (v := (x105 + (-8))) (ks := [0, 1]) (L' := [(1, .int (x105 + (-8))), (0, .int x104)]) dJ6_numberOfLeadingZeros_0f7a4_40 rfl rfl (by decide) rfl ?_
        refine tt_iload_n (j := 1) dJ6_numberOfLeadingZeros_0f7a4_43 rfl ?_
        refine tt_bipush (v := 8) dJ6_numberOfLeadingZeros_0f7a4_44 rfl ?_
        refine tt_iushr dJ6_numberOfLeadingZeros_0f7a4_46 (gt_ti (fun x131 => ?_))
        refine tt_istore_n (ks := [0, 1]) (L' := [(0, .int x131), (1, .int (x105 + (-8)))]) dJ6_numberOfLeadingZeros_0f7a4_47 (by decide) rfl ?_
        exact B107 x131 (x105 + (-8)) (rg_w (rg_add (lo := 7) (hi := 23) h106 (⟨by decide, by decide⟩ : Rg (-8) (-8) (-8))))
    refine tt_icmp_lt (tgt := 33) dJ6_numberOfLeadingZeros_0f7a4_22 rfl (fun q132 => ?_) (fun q132 => ?_)
    · skip
      have h133 : Rg 1 65535 x0 := rg_lt_l h102 (⟨by decide, by decide⟩ : Rg 65536 65536 65536) q132
      exact tt_loc (ks := [1, 0]) rfl (B103 x0 31 (rg_w (⟨by decide, by decide⟩ : Rg 31 31 31)))
    · skip
      have h134 : Rg 65536 2147483647 x0 := rg_le_r (⟨by decide, by decide⟩ : Rg 65536 65536 65536) h102 (nlt_le q132)
      refine tt_iinc (j := 0) (v := (31 + (-16))) (ks := [0, 1]) (L' := [(1, .int (31 + (-16))), (0, .int x0)]) dJ6_numberOfLeadingZeros_0f7a4_25 rfl rfl (by decide) rfl ?_
      refine tt_iload_n (j := 1) dJ6_numberOfLeadingZeros_0f7a4_28 rfl ?_
      refine tt_bipush (v := 16) dJ6_numberOfLeadingZeros_0f7a4_29 rfl ?_
      refine tt_iushr dJ6_numberOfLeadingZeros_0f7a4_31 (gt_ti (fun x135 => ?_))
      refine tt_istore_n (ks := [0, 1]) (L' := [(0, .int x135), (1, .int (31 + (-16)))]) dJ6_numberOfLeadingZeros_0f7a4_32 (by decide) rfl ?_
      exact B103 x135 (31 + (-16)) (rg_w (rg_add (lo := 15) (hi := 15) (⟨by decide, by decide⟩ : Rg 31 31 31) (⟨by decide, by decide⟩ : Rg (-16) (-16) (-16))))
  · skip
    have h136 : Rg (-2147483648) 0 x0 := rg_le_l (rg_all x0) (⟨by decide, by decide⟩ : Rg 0 0 0) (nlt_le q101)
    refine tt_iload_n (j := 0) dJ6_numberOfLeadingZeros_0f7a4_4 rfl ?_
    have B137 : ∀ (x138 : Int32), Rg 0 32 x138 → TT xi M_J6_numberOfLeadingZeros_0f7a4 14 [(0, .int x0)] [.int x138] S kc nc P := by
      intro x138 h139
      exact tt_ireturn dJ6_numberOfLeadingZeros_0f7a4_14 .int rfl rfl (hP _ _ _ _ ⟨hG, hA, Or.inl ⟨_, rfl, ⟨_, rfl, rg_w h139⟩, rfl, rfl, rfl⟩⟩)
    refine tt_if_ne (tgt := 13) dJ6_numberOfLeadingZeros_0f7a4_5 rfl (fun q140 => ?_) (fun q140 => ?_)
    · skip
      have h141 : Rg (-2147483648) (-1) x0 := rg_ne_hi h136 (⟨by decide, by decide⟩ : Rg 0 0 0) q140
      refine tt_iconst (v := 0) dJ6_numberOfLeadingZeros_0f7a4_13 rfl ?_
      exact B137 0 (rg_w (⟨by decide, by decide⟩ : Rg 0 0 0))
    · skip
      have h142 : Rg 0 0 x0 := rg_eq_l h136 (⟨by decide, by decide⟩ : Rg 0 0 0) q140
      refine tt_bipush (v := 32) dJ6_numberOfLeadingZeros_0f7a4_8 rfl ?_
      refine tt_goto (tgt := 14) dJ6_numberOfLeadingZeros_0f7a4_10 rfl ?_
      exact B137 32 (rg_w (⟨by decide, by decide⟩ : Rg 32 32 32))
set_option maxHeartbeats 4000000 in
theorem cs_J13_compare_74951 {xi : SX} {S : Hp} {E : List Nat} {kc nc : Nat} {P : Po} {y0 : Int64} {y2 : Int64} (hG : GI S E)  (hP : ∀ r T x y, PV E [] S kc nc (rI (-2147483648) 2147483647) (fun _ T => T = S) [] r T x y → P r T x y) : TT xi M_J13_compare_74951 0 [(0, .long y0), (2, .long y2)] [] S kc nc P := by
  have hA : Af E [] S S := af_rf
  refine tt_lload_n (j := 0) dJ13_compare_74951_0 rfl ?_
  refine tt_lload_n (j := 1) dJ13_compare_74951_1 rfl ?_
  refine tt_lcmp dJ13_compare_74951_2 ?_
  have B101 : ∀ (x102 : Int32), Rg (-1) 1 x102 → TT xi M_J13_compare_74951 21 [(0, .long y0), (2, .long y2)] [.int x102] S kc nc P := by
    intro x102 h103
    exact tt_ireturn dJ13_compare_74951_21 .int rfl rfl (hP _ _ _ _ ⟨hG, hA, Or.inl ⟨_, rfl, ⟨_, rfl, rg_w h103⟩, rfl, rfl, rfl⟩⟩)
  refine tt_if_ge (tgt := 10) dJ13_compare_74951_3 rfl (fun q104 => ?_) (fun q104 => ?_)
  · skip
    refine tt_lload_n (j := 0) dJ13_compare_74951_10 rfl ?_
    refine tt_lload_n (j := 1) dJ13_compare_74951_11 rfl ?_
    refine tt_lcmp dJ13_compare_74951_12 ?_
    refine tt_if_ne (tgt := 20) dJ13_compare_74951_13 rfl (fun q105 => ?_) (fun q105 => ?_)
    · skip
      refine tt_iconst (v := 1) dJ13_compare_74951_20 rfl ?_
      exact B101 1 (rg_w (⟨by decide, by decide⟩ : Rg 1 1 1))
    · skip
      refine tt_iconst (v := 0) dJ13_compare_74951_16 rfl ?_
      refine tt_goto (tgt := 21) dJ13_compare_74951_17 rfl ?_
      exact B101 0 (rg_w (⟨by decide, by decide⟩ : Rg 0 0 0))
  · skip
    have h106 : Rl (-9223372036854775808) 9223372036854775806 y0 := rl_lt_l (rl_all y0) (rl_all y2) (lc_ge_f q104)
    have h107 : Rl (-9223372036854775807) 9223372036854775807 y2 := rl_lt_r (rl_all y0) (rl_all y2) (lc_ge_f q104)
    refine tt_iconst (v := (-1)) dJ13_compare_74951_6 rfl ?_
    refine tt_goto (tgt := 21) dJ13_compare_74951_7 rfl ?_
    exact B101 (-1) (rg_w (⟨by decide, by decide⟩ : Rg (-1) (-1) (-1)))
set_option maxHeartbeats 4000000 in
theorem cs_J13_compareUnsigned_74951 {xi : SX} {S : Hp} {E : List Nat} {kc nc : Nat} {P : Po} {y0 : Int64} {y2 : Int64} (hG : GI S E)  (hP : ∀ r T x y, PV E [] S kc nc (rI (-2147483648) 2147483647) (fun _ T => T = S) [] r T x y → P r T x y) : TT xi M_J13_compareUnsigned_74951 0 [(0, .long y0), (2, .long y2)] [] S kc nc P := by
  have hA : Af E [] S S := af_rf
  refine tt_lload_n (j := 0) dJ13_compareUnsigned_74951_0 rfl ?_
  refine tt_ldc2 (v := (-9223372036854775808)) dJ13_compareUnsigned_74951_1 kl_J13_168 ?_
  refine tt_ladd dJ13_compareUnsigned_74951_4 (gt_tl (fun y101 => ?_))
  refine tt_lload_n (j := 1) dJ13_compareUnsigned_74951_5 rfl ?_
  refine tt_ldc2 (v := (-9223372036854775808)) dJ13_compareUnsigned_74951_6 kl_J13_168 ?_
  refine tt_ladd dJ13_compareUnsigned_74951_9 (gt_tl (fun y102 => ?_))
  refine gt_SIp (As := [.long y101, .long y102]) dJ13_compareUnsigned_74951_10 ca_J13_302 ⟨by decide, by decide⟩ hA (Nat.le_of_ble_eq_true rfl) (Nat.le_of_ble_eq_true rfl) (by decide) (cs_J13_compare_74951 hG  (fun _ _ _ _ h => h)) rfl (fun _ h => nomatch h) (fun _ _ q => q) (fun x108 h109 hx107 => ?_)
  exact tt_ireturn dJ13_compareUnsigned_74951_13 .int rfl rfl (hP _ _ _ _ ⟨hG, hA, Or.inl ⟨_, rfl, ⟨_, rfl, rg_w h109⟩, rfl, rfl, rfl⟩⟩)
set_option maxHeartbeats 4000000 in
theorem cs_J13_lowestOneBit_067f4 {xi : SX} {S : Hp} {E : List Nat} {kc nc : Nat} {P : Po} {y0 : Int64} (hG : GI S E)  (hP : ∀ r T x y, PV E [] S kc nc rJ (fun _ T => T = S) [] r T x y → P r T x y) : TT xi M_J13_lowestOneBit_067f4 0 [(0, .long y0)] [] S kc nc P := by
  have hA : Af E [] S S := af_rf
  refine tt_lload_n (j := 0) dJ13_lowestOneBit_067f4_0 rfl ?_
  refine tt_lload_n (j := 0) dJ13_lowestOneBit_067f4_1 rfl ?_
  refine tt_lneg dJ13_lowestOneBit_067f4_2 (gt_tl (fun y101 => ?_))
  refine tt_land dJ13_lowestOneBit_067f4_3 (gt_tl (fun y102 => ?_))
  exact tt_lreturn dJ13_lowestOneBit_067f4_4 rfl (hP _ _ _ _ ⟨hG, hA, Or.inl ⟨_, rfl, ⟨_, rfl⟩, rfl, rfl, rfl⟩⟩)
set_option maxHeartbeats 4000000 in
theorem cs_J13_numberOfLeadingZeros_95d88 {xi : SX} {S : Hp} {E : List Nat} {kc nc : Nat} {P : Po} {y0 : Int64} (hG : GI S E)  (hP : ∀ r T x y, PV E [] S kc nc (rI (-2147483648) 2147483647) (fun _ T => T = S) [] r T x y → P r T x y) : TT xi M_J13_numberOfLeadingZeros_95d88 0 [(0, .long y0)] [] S kc nc P := by
  have hA : Af E [] S S := af_rf
  refine tt_lload_n (j := 0) dJ13_numberOfLeadingZeros_95d88_0 rfl ?_
  refine tt_bipush (v := 32) dJ13_numberOfLeadingZeros_95d88_1 rfl ?_
  refine tt_lushr dJ13_numberOfLeadingZeros_95d88_3 (gt_tl (fun y101 => ?_))
  refine tt_l2i dJ13_numberOfLeadingZeros_95d88_4 (gt_ti (fun x102 => ?_))
  refine tt_istore_n (ks := [0, 1]) (L' := [(2, .int x102), (0, .long y0)]) dJ13_numberOfLeadingZeros_95d88_5 (by decide) rfl ?_
  refine tt_iload_n (j := 0) dJ13_numberOfLeadingZeros_95d88_6 rfl ?_
  have B103 : ∀ (x104 : Int32), TT xi M_J13_numberOfLeadingZeros_95d88 25 [(0, .long y0), (2, .int x102)] [.int x104] S kc nc P := by
    intro x104 
    exact tt_ireturn dJ13_numberOfLeadingZeros_95d88_25 .int rfl rfl (hP _ _ _ _ ⟨hG, hA, Or.inl ⟨_, rfl, ⟨_, rfl, rg_w (rg_all x104)⟩, rfl, rfl, rfl⟩⟩)
  refine tt_if_ne (tgt := 21) dJ13_numberOfLeadingZeros_95d88_7 rfl (fun q105 => ?_) (fun q105 => ?_)
  · skip
    refine tt_iload_n (j := 0) dJ13_numberOfLeadingZeros_95d88_21 rfl ?_
    refine gt_SIp (As := [.int x102]) dJ13_numberOfLeadingZeros_95d88_22 ca_J13_308 ⟨by decide, by decide⟩ hA (Nat.le_of_ble_eq_true rfl) (Nat.le_of_ble_eq_true rfl) (by decide) (cs_J6_numberOfLeadingZeros_0f7a4 hG  (fun _ _ _ _ h => h)) rfl (fun _ h => nomatch h) (fun _ _ q => q) (fun x111 h112 hx110 => ?_)
    exact tt_loc (ks := [1, 0]) rfl (B103 x111)
  · skip
    have h113 : Rg 0 0 x102 := rg_eq_l (rg_all x102) (⟨by decide, by decide⟩ : Rg 0 0 0) q105
    refine tt_bipush (v := 32) dJ13_numberOfLeadingZeros_95d88_10 rfl ?_
    refine tt_lload_n (j := 1) dJ13_numberOfLeadingZeros_95d88_12 rfl ?_
    refine tt_l2i dJ13_numberOfLeadingZeros_95d88_13 (gt_ti (fun x114 => ?_))
    refine gt_SIp (As := [.int x114]) dJ13_numberOfLeadingZeros_95d88_14 ca_J13_308 ⟨by decide, by decide⟩ hA (Nat.le_of_ble_eq_true rfl) (Nat.le_of_ble_eq_true rfl) (by decide) (cs_J6_numberOfLeadingZeros_0f7a4 hG  (fun _ _ _ _ h => h)) rfl (fun _ h => nomatch h) (fun _ _ q => q) (fun x120 h121 hx119 => ?_)
    refine tt_iadd dJ13_numberOfLeadingZeros_95d88_17 ?_
    refine tt_goto (tgt := 25) dJ13_numberOfLeadingZeros_95d88_18 rfl ?_
    exact tt_loc (ks := [1, 0]) rfl (B103 (32 + x120))
set_option maxHeartbeats 4000000 in
theorem cs_J9_floorMod_f86c9 {xi : SX} {S : Hp} {E : List Nat} {kc nc : Nat} {P : Po} {y0 : Int64} {y2 : Int64} (hG : GI S E) (h2 : ¬ y2 = 0) (hP : ∀ r T x y, PV E [] S kc nc rJ (fun _ T => T = S) [] r T x y → P r T x y) : TT xi M_J9_floorMod_f86c9 0 [(0, .long y0), (2, .long y2)] [] S kc nc P := by
  have hA : Af E [] S S := af_rf
  refine tt_lload_n (j := 0) dJ9_floorMod_f86c9_0 rfl ?_
  refine tt_lload_n (j := 1) dJ9_floorMod_f86c9_1 rfl ?_
  refine tt_lrem dJ9_floorMod_f86c9_2 h2 (gt_tl (fun y101 => ?_))
  refine tt_lstore (ks := [0, 1, 2]) (L' := [(4, .long y101), (0, .long y0), (2, .long y2)]) dJ9_floorMod_f86c9_3 (by decide) rfl ?_
  refine tt_lload_n (j := 1) dJ9_floorMod_f86c9_5 rfl ?_
  refine tt_lload_n (j := 2) dJ9_floorMod_f86c9_6 rfl ?_
  refine tt_lxor dJ9_floorMod_f86c9_7 (gt_tl (fun y102 => ?_))
  refine tt_lconst (v := 0) dJ9_floorMod_f86c9_8 rfl ?_
  refine tt_lcmp dJ9_floorMod_f86c9_9 ?_
  have B103 : TT xi M_J9_floorMod_f86c9 25 [(0, .long y0), (2, .long y2), (4, .long y101)] [] S kc nc P := by
    refine tt_lload (j := 2) dJ9_floorMod_f86c9_25 rfl ?_
    exact tt_lreturn dJ9_floorMod_f86c9_27 rfl (hP _ _ _ _ ⟨hG, hA, Or.inl ⟨_, rfl, ⟨_, rfl⟩, rfl, rfl, rfl⟩⟩)
  refine tt_if_ge (tgt := 25) dJ9_floorMod_f86c9_10 rfl (fun q104 => ?_) (fun q104 => ?_)
  · skip
    have h105 : Rl 0 9223372036854775807 y102 := rl_le_r (⟨by decide, by decide⟩ : Rl 0 0 0) (rl_all y102) (lc_ge_t q104)
    exact tt_loc (ks := [1, 2, 0]) rfl (B103 )
  · skip
    have h106 : Rl (-9223372036854775808) (-1) y102 := rl_lt_l (rl_all y102) (⟨by decide, by decide⟩ : Rl 0 0 0) (lc_ge_f q104)
    refine tt_lload (j := 0) dJ9_floorMod_f86c9_13 rfl ?_
    refine tt_lconst (v := 0) dJ9_floorMod_f86c9_15 rfl ?_
    refine tt_lcmp dJ9_floorMod_f86c9_16 ?_
    refine tt_if_eq (tgt := 25) dJ9_floorMod_f86c9_17 rfl (fun q107 => ?_) (fun q107 => ?_)
    · skip
      have h108 : Rl 0 0 y101 := rl_eq_l (rl_all y101) (⟨by decide, by decide⟩ : Rl 0 0 0) (lc_eq_t q107)
      exact tt_loc (ks := [1, 2, 0]) rfl (B103 )
    · skip
      refine tt_lload (j := 0) dJ9_floorMod_f86c9_20 rfl ?_
      refine tt_lload_n (j := 2) dJ9_floorMod_f86c9_22 rfl ?_
      refine tt_ladd dJ9_floorMod_f86c9_23 (gt_tl (fun y109 => ?_))
      exact tt_lreturn dJ9_floorMod_f86c9_24 rfl (hP _ _ _ _ ⟨hG, hA, Or.inl ⟨_, rfl, ⟨_, rfl⟩, rfl, rfl, rfl⟩⟩)
set_option maxHeartbeats 4000000 in
theorem cs_J9_max_f86c9 {xi : SX} {S : Hp} {E : List Nat} {kc nc : Nat} {P : Po} {y0 : Int64} {y2 : Int64} (hG : GI S E)  (hP : ∀ r T x y, PV E [] S kc nc rJ (fun _ T => T = S) [] r T x y → P r T x y) : TT xi M_J9_max_f86c9 0 [(0, .long y0), (2, .long y2)] [] S kc nc P := by
  have hA : Af E [] S S := af_rf
  refine tt_lload_n (j := 0) dJ9_max_f86c9_0 rfl ?_
  refine tt_lload_n (j := 1) dJ9_max_f86c9_1 rfl ?_
  refine tt_lcmp dJ9_max_f86c9_2 ?_
  have B101 : ∀ (y102 : Int64), TT xi M_J9_max_f86c9 11 [(0, .long y0), (2, .long y2)] [.long y102] S kc nc P := by
    intro y102 
    exact tt_lreturn dJ9_max_f86c9_11 rfl (hP _ _ _ _ ⟨hG, hA, Or.inl ⟨_, rfl, ⟨_, rfl⟩, rfl, rfl, rfl⟩⟩)
  refine tt_if_lt (tgt := 10) dJ9_max_f86c9_3 rfl (fun q103 => ?_) (fun q103 => ?_)
  · skip
    have h104 : Rl (-9223372036854775808) 9223372036854775806 y0 := rl_lt_l (rl_all y0) (rl_all y2) (lc_lt_t q103)
    have h105 : Rl (-9223372036854775807) 9223372036854775807 y2 := rl_lt_r (rl_all y0) (rl_all y2) (lc_lt_t q103)
    refine tt_lload_n (j := 1) dJ9_max_f86c9_10 rfl ?_
    exact B101 y2
  · skip
    refine tt_lload_n (j := 0) dJ9_max_f86c9_6 rfl ?_
    refine tt_goto (tgt := 11) dJ9_max_f86c9_7 rfl ?_
    exact B101 y0
set_option maxHeartbeats 4000000 in
theorem cs_J9_min_7cf53 {xi : SX} {S : Hp} {E : List Nat} {kc nc : Nat} {P : Po} {x0 : Int32} {x1 : Int32} (hG : GI S E)  (hP : ∀ r T x y, PV E [] S kc nc (rI (-2147483648) 2147483647) (fun _ T => T = S) [] r T x y → P r T x y) : TT xi M_J9_min_7cf53 0 [(0, .int x0), (1, .int x1)] [] S kc nc P := by
  have hA : Af E [] S S := af_rf
  refine tt_iload_n (j := 0) dJ9_min_7cf53_0 rfl ?_
  refine tt_iload_n (j := 1) dJ9_min_7cf53_1 rfl ?_
  have B101 : ∀ (x102 : Int32), TT xi M_J9_min_7cf53 10 [(0, .int x0), (1, .int x1)] [.int x102] S kc nc P := by
    intro x102 
    exact tt_ireturn dJ9_min_7cf53_10 .int rfl rfl (hP _ _ _ _ ⟨hG, hA, Or.inl ⟨_, rfl, ⟨_, rfl, rg_w (rg_all x102)⟩, rfl, rfl, rfl⟩⟩)
  refine tt_icmp_gt (tgt := 9) dJ9_min_7cf53_2 rfl (fun q103 => ?_) (fun q103 => ?_)
  · skip
    have h104 : Rg (-2147483648) 2147483646 x1 := rg_lt_l (rg_all x1) (rg_all x0) q103
    have h105 : Rg (-2147483647) 2147483647 x0 := rg_lt_r (rg_all x1) (rg_all x0) q103
    refine tt_iload_n (j := 1) dJ9_min_7cf53_9 rfl ?_
    exact B101 x1
  · skip
    refine tt_iload_n (j := 0) dJ9_min_7cf53_5 rfl ?_
    refine tt_goto (tgt := 10) dJ9_min_7cf53_6 rfl ?_
    exact B101 x0
set_option maxHeartbeats 4000000 in
theorem cs_J9_min_f86c9 {xi : SX} {S : Hp} {E : List Nat} {kc nc : Nat} {P : Po} {y0 : Int64} {y2 : Int64} (hG : GI S E)  (hP : ∀ r T x y, PV E [] S kc nc rJ (fun _ T => T = S) [] r T x y → P r T x y) : TT xi M_J9_min_f86c9 0 [(0, .long y0), (2, .long y2)] [] S kc nc P := by
  have hA : Af E [] S S := af_rf
  refine tt_lload_n (j := 0) dJ9_min_f86c9_0 rfl ?_
  refine tt_lload_n (j := 1) dJ9_min_f86c9_1 rfl ?_
  refine tt_lcmp dJ9_min_f86c9_2 ?_
  have B101 : ∀ (y102 : Int64), TT xi M_J9_min_f86c9 11 [(0, .long y0), (2, .long y2)] [.long y102] S kc nc P := by
    intro y102 
    exact tt_lreturn dJ9_min_f86c9_11 rfl (hP _ _ _ _ ⟨hG, hA, Or.inl ⟨_, rfl, ⟨_, rfl⟩, rfl, rfl, rfl⟩⟩)
  refine tt_if_gt (tgt := 10) dJ9_min_f86c9_3 rfl (fun q103 => ?_) (fun q103 => ?_)
  · skip
    have h104 : Rl (-9223372036854775808) 9223372036854775806 y2 := rl_lt_l (rl_all y2) (rl_all y0) (lc_gt_t q103)
    have h105 : Rl (-9223372036854775807) 9223372036854775807 y0 := rl_lt_r (rl_all y2) (rl_all y0) (lc_gt_t q103)
    refine tt_lload_n (j := 1) dJ9_min_f86c9_10 rfl ?_
    exact B101 y2
  · skip
    refine tt_lload_n (j := 0) dJ9_min_f86c9_6 rfl ?_
    refine tt_goto (tgt := 11) dJ9_min_f86c9_7 rfl ?_
    exact B101 y0
set_option maxHeartbeats 4000000 in
theorem cs_X0_becomeUnequal {xi : SX} {S : Hp} {E : List Nat} {kc nc : Nat} {P : Po} {o0 : Nat} (hG : GI S E) (h0 : Oa S E 0 0 o0) (hP : ∀ r T x y, PV E [9987] S kc nc rV ex0 [] r T x y → P r T x y) : TT xi M_X0_becomeUnequal 0 [(0, .ref o0)] [] S kc nc P := by
  have hA : Af E [9987] S S := af_rf
  refine tt_aload_n (j := 0) dX0_becomeUnequal_0 rfl ?_
  obtain ⟨b101, hr102, ho103⟩ := gi_R (k := 0) hG h0 7 0
  refine gt_gR (id := 0) dX0_becomeUnequal_1 fl_0_14 rfl rfl h0 hA hr102 ?_
  refine gt_VIp (As := []) dX0_becomeUnequal_4 ca_X0_90 ⟨by decide, by decide⟩ ho103 hA rfl (Nat.le_of_ble_eq_true rfl) (Nat.le_of_ble_eq_true rfl) (by decide) (cs_X7_isSingle hG (oa_af ho103 hA) (fun _ _ _ _ h => h)) rfl (fun _ h => nomatch h) (fun _ _ q => q) (fun x109 h110 hx108 => ?_)
  refine tt_istore_n (ks := [0, 1]) (L' := [(1, .int x109), (0, .ref o0)]) dX0_becomeUnequal_7 (by decide) rfl ?_
  refine tt_aload_n (j := 1) dX0_becomeUnequal_8 rfl ?_
  refine gt_gR (id := 0) dX0_becomeUnequal_9 fl_0_14 rfl rfl h0 hA hr102 ?_
  refine gt_gJ (id := 448) (v := (hp_J S 448 b101)) dX0_becomeUnequal_12 fl_0_84 rfl rfl ho103 hA rfl ?_
  refine tt_lstore_n (ks := [0, 1, 2]) (L' := [(2, .long (hp_J S 448 b101)), (1, .int x109), (0, .ref o0)]) dX0_becomeUnequal_15 (by decide) rfl ?_
  refine tt_aload_n (j := 2) dX0_becomeUnequal_16 rfl ?_
  obtain ⟨b111, hr112, ho113⟩ := gi_R (k := 1) hG h0 7 0
  refine gt_gR (id := 1) dX0_becomeUnequal_17 fl_0_18 rfl rfl h0 hA hr112 ?_
  refine gt_VIp (As := []) dX0_becomeUnequal_20 ca_X0_90 ⟨by decide, by decide⟩ ho113 hA rfl (Nat.le_of_ble_eq_true rfl) (Nat.le_of_ble_eq_true rfl) (by decide) (cs_X7_isSingle hG (oa_af ho113 hA) (fun _ _ _ _ h => h)) rfl (fun _ h => nomatch h) (fun _ _ q => q) (fun x119 h120 hx118 => ?_)
  have B121 : ∀ (S122 : Hp), GI S122 E → Af E [9987] S S122 → TT xi M_X0_becomeUnequal 40 [(0, .ref o0), (1, .int x109), (2, .long (hp_J S 448 b101))] [] S122 kc nc P := by
    intro S122 hG123 hA124
    refine tt_iload_n (j := 1) dX0_becomeUnequal_40 rfl ?_
    have B125 : ∀ (S126 : Hp), GI S126 E → Af E [9987] S S126 → TT xi M_X0_becomeUnequal 52 [(0, .ref o0), (1, .int x109), (2, .long (hp_J S 448 b101))] [] S126 kc nc P := by
      intro S126 hG127 hA128
      exact tt_vreturn dX0_becomeUnequal_52 rfl (hP _ _ _ _ ⟨hG127, hA128, Or.inl ⟨_, rfl, rfl, trivial, rfl, rfl⟩⟩)
    refine tt_if_eq (tgt := 52) dX0_becomeUnequal_41 rfl (fun q129 => ?_) (fun q129 => ?_)
    · skip
      have h130 : Rg 0 0 x109 := rg_eq_l h110 (⟨by decide, by decide⟩ : Rg 0 0 0) q129
      exact B125 S122 hG123 hA124
    · skip
      have h131 : Rg 1 1 x109 := rg_ne_lo h110 (⟨by decide, by decide⟩ : Rg 0 0 0) q129
      refine tt_aload_n (j := 0) dX0_becomeUnequal_44 rfl ?_
      refine gt_gR (id := 1) dX0_becomeUnequal_45 fl_0_18 rfl rfl h0 hA124 hr112 ?_
      refine tt_lload_n (j := 2) dX0_becomeUnequal_48 rfl ?_
      refine gt_Vv (As := [.long (hp_J S 448 b101)]) dX0_becomeUnequal_49 ca_X0_93 ⟨by decide, by decide⟩ ho113 hA124 rfl (Nat.le_of_ble_eq_true rfl) (Nat.le_of_ble_eq_true rfl) (by decide) (cs_X7_drop hG123 (oa_af ho113 hA124) (fun _ _ _ _ h => h)) rfl (fun _ h => nomatch h) (fun S132 hx136 hG133 hB134 hA135 => ?_)
      exact B125 S132 hG133 hA135
  refine tt_if_eq (tgt := 40) dX0_becomeUnequal_23 rfl (fun q137 => ?_) (fun q137 => ?_)
  · skip
    have h138 : Rg 0 0 x119 := rg_eq_l h120 (⟨by decide, by decide⟩ : Rg 0 0 0) q137
    exact tt_loc (ks := [2, 1, 0]) rfl (B121 S hG hA)
  · skip
    have h139 : Rg 1 1 x119 := rg_ne_lo h120 (⟨by decide, by decide⟩ : Rg 0 0 0) q137
    refine tt_aload_n (j := 2) dX0_becomeUnequal_26 rfl ?_
    refine gt_gR (id := 0) dX0_becomeUnequal_27 fl_0_14 rfl rfl h0 hA hr102 ?_
    refine tt_aload_n (j := 2) dX0_becomeUnequal_30 rfl ?_
    refine gt_gR (id := 1) dX0_becomeUnequal_31 fl_0_18 rfl rfl h0 hA hr112 ?_
    refine gt_gJ (id := 448) (v := (hp_J S 448 b111)) dX0_becomeUnequal_34 fl_0_84 rfl rfl ho113 hA rfl ?_
    refine gt_Vv (As := [.long (hp_J S 448 b111)]) dX0_becomeUnequal_37 ca_X0_93 ⟨by decide, by decide⟩ ho103 hA rfl (Nat.le_of_ble_eq_true rfl) (Nat.le_of_ble_eq_true rfl) (by decide) (cs_X7_drop hG (oa_af ho103 hA) (fun _ _ _ _ h => h)) rfl (fun _ h => nomatch h) (fun S140 hx144 hG141 hB142 hA143 => ?_)
    exact tt_loc (ks := [2, 1, 0]) rfl (B121 S140 hG141 hA143)
