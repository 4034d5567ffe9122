set_option maxHeartbeats 4000000 in
theorem cs_X10_make {xi : SX} {S : Hp} {E : List Nat} {kc nc : Nat} {P : Po} {o0 : Nat} {x1 : Int32} {x2 : Int32} {y3 : Int64} {y5 : Int64} {y7 : Int64} (hG : GI S E) (h0 : Oa S E 10 0 o0) (h1 : Rg 0 4939 x1) (hP : ∀ r T x y, PV E [9989] S kc nc rV ex0 [] r T x y → P r T x y) : TT xi M_X10_make 0 [(0, .ref o0), (1, .int x1), (2, .int x2), (3, .long y3), (5, .long y5), (7, .long y7)] [] S kc nc P := by
  have hA : Af E [9989] S S := af_rf
  refine tt_iload_n (j := 2) dX10_make_0 rfl ?_
  refine tt_iconst (v := 1) dX10_make_1 rfl ?_
  have B101 : ∀ (x102 : Int32), Rg 0 1 x102 → TT xi M_X10_make 44 [(0, .ref o0), (1, .int x1), (2, .int x2), (3, .long y3), (5, .long y5), (7, .long y7)] [.int x102] S kc nc P := by
    intro x102 h103
    refine tt_istore (ks := [0, 1, 2, 3, 4, 5, 6]) (L' := [(9, .int x102), (0, .ref o0), (1, .int x1), (2, .int x2), (3, .long y3), (5, .long y5), (7, .long y7)]) dX10_make_44 (by decide) rfl ?_
    refine tt_aload_n (j := 1) dX10_make_46 rfl ?_
    obtain ⟨b104, hr105, ho106⟩ := gi_R (k := 643) hG h0 32 4940
    refine gt_gR (id := 643) dX10_make_47 fl_10_13 rfl rfl h0 hA hr105 ?_
    refine tt_iload_n (j := 2) dX10_make_50 rfl ?_
    refine tt_iload (j := 0) dX10_make_51 rfl ?_
    have B107 : ∀ (x108 : Int32), TT xi M_X10_make 61 [(0, .ref o0), (1, .int x1), (2, .int x2), (3, .long y3), (5, .long y5), (7, .long y7), (9, .int x102)] [.int x108, .int x1, .ref b104] S kc nc P := by
      intro x108 
      refine gt_iS dX10_make_61 ho106 hA (Or.inl (by decide)) (rg_in h1) hG (by decide) (fun S109 hG110 hA111 e112 f113 er114 => ?_)
      refine tt_aload_n (j := 0) dX10_make_62 rfl ?_
      obtain ⟨b115, hr116, ho117⟩ := gi_R (k := 644) hG h0 33 4940
      refine gt_gR (id := 644) dX10_make_63 fl_10_16 rfl rfl h0 hA111 hr116 ?_
      refine tt_iload_n (j := 1) dX10_make_66 rfl ?_
      refine tt_lload_n (j := 3) dX10_make_67 rfl ?_
      refine gt_lS dX10_make_68 ho117 hA111 (rg_in h1) hG110 (Or.inl (by decide)) (Or.inl (by decide)) (fun S118 hG119 hA120 e121 f122 er123 => ?_)
      refine tt_aload_n (j := 0) dX10_make_69 rfl ?_
      obtain ⟨b124, hr125, ho126⟩ := gi_R (k := 645) hG h0 33 4940
      refine gt_gR (id := 645) dX10_make_70 fl_10_20 rfl rfl h0 hA120 hr125 ?_
      refine tt_iload_n (j := 1) dX10_make_73 rfl ?_
      refine tt_lload (j := 4) dX10_make_74 rfl ?_
      refine gt_lS dX10_make_76 ho126 hA120 (rg_in h1) hG119 (Or.inl (by decide)) (Or.inl (by decide)) (fun S127 hG128 hA129 e130 f131 er132 => ?_)
      refine tt_aload_n (j := 0) dX10_make_77 rfl ?_
      obtain ⟨b133, hr134, ho135⟩ := gi_R (k := 646) hG h0 33 4940
      refine gt_gR (id := 646) dX10_make_78 fl_10_23 rfl rfl h0 hA129 hr134 ?_
      refine tt_iload_n (j := 1) dX10_make_81 rfl ?_
      refine tt_lload_n (j := 3) dX10_make_82 rfl ?_
      refine tt_lload (j := 4) dX10_make_83 rfl ?_
      refine tt_lcmp dX10_make_85 ?_
      have B136 : ∀ (y137 : Int64), TT xi M_X10_make 95 [(0, .ref o0), (1, .int x1), (2, .int x2), (3, .long y3), (5, .long y5), (7, .long y7), (9, .int x102)] [.long y137, .int x1, .ref b133] S127 kc nc P := by
        intro y137 
        refine gt_lS dX10_make_95 ho135 hA129 (rg_in h1) hG128 (Or.inl (by decide)) (Or.inl (by decide)) (fun S138 hG139 hA140 e141 f142 er143 => ?_)
        exact tt_vreturn dX10_make_96 rfl (hP _ _ _ _ ⟨hG139, hA140, Or.inl ⟨_, rfl, rfl, trivial, rfl, rfl⟩⟩)
      refine tt_if_ne (tgt := 93) dX10_make_86 rfl (fun q144 => ?_) (fun q144 => ?_)
      · skip
        refine tt_lload (j := 5) dX10_make_93 rfl ?_
        exact B136 y7
      · skip
        refine tt_lconst (v := 0) dX10_make_89 rfl ?_
        refine tt_goto (tgt := 95) dX10_make_90 rfl ?_
        exact B136 0
    refine tt_if_eq (tgt := 60) dX10_make_53 rfl (fun q145 => ?_) (fun q145 => ?_)
    · skip
      have h146 : Rg 0 0 x102 := rg_eq_l h103 (⟨by decide, by decide⟩ : Rg 0 0 0) q145
      refine tt_iload_n (j := 3) dX10_make_60 rfl ?_
      exact tt_loc (ks := [1, 2, 3, 4, 5, 6, 0]) rfl (B107 x2)
    · skip
      have h147 : Rg 1 1 x102 := rg_ne_lo h103 (⟨by decide, by decide⟩ : Rg 0 0 0) q145
      refine tt_iconst (v := 2) dX10_make_56 rfl ?_
      refine tt_goto (tgt := 61) dX10_make_57 rfl ?_
      exact tt_loc (ks := [1, 2, 3, 4, 5, 6, 0]) rfl (B107 2)
  have B148 : TT xi M_X10_make 43 [(0, .ref o0), (1, .int x1), (2, .int x2), (3, .long y3), (5, .long y5), (7, .long y7)] [] S kc nc P := by
    refine tt_iconst (v := 0) dX10_make_43 rfl ?_
    exact B101 0 (rg_w (⟨by decide, by decide⟩ : Rg 0 0 0))
  refine tt_icmp_ne (tgt := 43) dX10_make_2 rfl (fun q149 => ?_) (fun q149 => ?_)
  · skip
    exact B148 
  · skip
    have h150 : Rg 1 1 x2 := rg_eq_l (rg_all x2) (⟨by decide, by decide⟩ : Rg 1 1 1) q149
    refine tt_lload_n (j := 3) dX10_make_5 rfl ?_
    refine tt_ldc2 (v := (-2305843009213693952)) dX10_make_6 kl_10_158 ?_
    refine tt_lcmp dX10_make_9 ?_
    have B151 : TT xi M_X10_make 39 [(0, .ref o0), (1, .int x1), (2, .int x2), (3, .long y3), (5, .long y5), (7, .long y7)] [] S kc nc P := by
      refine tt_iconst (v := 1) dX10_make_39 rfl ?_
      refine tt_goto (tgt := 44) dX10_make_40 rfl ?_
      exact B101 1 (rg_w (⟨by decide, by decide⟩ : Rg 1 1 1))
    refine tt_if_lt (tgt := 39) dX10_make_10 rfl (fun q152 => ?_) (fun q152 => ?_)
    · skip
      have h153 : Rl (-9223372036854775808) (-2305843009213693953) y3 := rl_lt_l (rl_all y3) (⟨by decide, by decide⟩ : Rl (-2305843009213693952) (-2305843009213693952) (-2305843009213693952)) (lc_lt_t q152)
      exact B151 
    · skip
      have h154 : Rl (-2305843009213693952) 9223372036854775807 y3 := rl_le_r (⟨by decide, by decide⟩ : Rl (-2305843009213693952) (-2305843009213693952) (-2305843009213693952)) (rl_all y3) (lc_lt_f q152)
      refine tt_lload (j := 4) dX10_make_13 rfl ?_
      refine tt_ldc2 (v := 2305843009213693952) dX10_make_15 kl_10_160 ?_
      refine tt_lcmp dX10_make_18 ?_
      refine tt_if_gt (tgt := 39) dX10_make_19 rfl (fun q155 => ?_) (fun q155 => ?_)
      · skip
        have h156 : Rl 2305843009213693953 9223372036854775807 y5 := rl_lt_r (⟨by decide, by decide⟩ : Rl 2305843009213693952 2305843009213693952 2305843009213693952) (rl_all y5) (lc_gt_t q155)
        exact B151 
      · skip
        have h157 : Rl (-9223372036854775808) 2305843009213693952 y5 := rl_le_l (rl_all y5) (⟨by decide, by decide⟩ : Rl 2305843009213693952 2305843009213693952 2305843009213693952) (lc_gt_f q155)
        refine tt_lload (j := 4) dX10_make_22 rfl ?_
        refine tt_ldc2 (v := (-2305843009213693952)) dX10_make_24 kl_10_158 ?_
        refine tt_lcmp dX10_make_27 ?_
        refine tt_if_lt (tgt := 39) dX10_make_28 rfl (fun q158 => ?_) (fun q158 => ?_)
        · skip
          have h159 : Rl (-9223372036854775808) (-2305843009213693953) y5 := rl_lt_l h157 (⟨by decide, by decide⟩ : Rl (-2305843009213693952) (-2305843009213693952) (-2305843009213693952)) (lc_lt_t q158)
          exact B151 
        · skip
          have h160 : Rl (-2305843009213693952) 2305843009213693952 y5 := rl_le_r (⟨by decide, by decide⟩ : Rl (-2305843009213693952) (-2305843009213693952) (-2305843009213693952)) h157 (lc_lt_f q158)
          refine tt_lload_n (j := 3) dX10_make_31 rfl ?_
          refine tt_ldc2 (v := 2305843009213693952) dX10_make_32 kl_10_160 ?_
          refine tt_lcmp dX10_make_35 ?_
          refine tt_if_le (tgt := 43) dX10_make_36 rfl (fun q161 => ?_) (fun q161 => ?_)
          · skip
            have h162 : Rl (-2305843009213693952) 2305843009213693952 y3 := rl_le_l h154 (⟨by decide, by decide⟩ : Rl 2305843009213693952 2305843009213693952 2305843009213693952) (lc_le_t q161)
            exact B148 
          · skip
            have h163 : Rl 2305843009213693953 9223372036854775807 y3 := rl_lt_r (⟨by decide, by decide⟩ : Rl 2305843009213693952 2305843009213693952 2305843009213693952) h154 (lc_le_f q161)
            exact B151 
set_option maxHeartbeats 4000000 in
theorem cs_X10_copy {xi : SX} {S : Hp} {E : List Nat} {kc nc : Nat} {P : Po} {o0 : Nat} {x1 : Int32} {x2 : Int32} (hG : GI S E) (h0 : Oa S E 10 0 o0) (h1 : Rg 0 4939 x1) (h2 : Rg 0 4939 x2) (hP : ∀ r T x y, PV E [9989] S kc nc rV ex0 [] r T x y → P r T x y) : TT xi M_X10_copy 0 [(0, .ref o0), (1, .int x1), (2, .int x2)] [] S kc nc P := by
  have hA : Af E [9989] S S := af_rf
  refine tt_aload_n (j := 0) dX10_copy_0 rfl ?_
  obtain ⟨b101, hr102, ho103⟩ := gi_R (k := 643) hG h0 32 4940
  refine gt_gR (id := 643) dX10_copy_1 fl_10_13 rfl rfl h0 hA hr102 ?_
  refine tt_iload_n (j := 1) dX10_copy_4 rfl ?_
  refine tt_aload_n (j := 0) dX10_copy_5 rfl ?_
  refine gt_gR (id := 643) dX10_copy_6 fl_10_13 rfl rfl h0 hA hr102 ?_
  refine tt_iload_n (j := 2) dX10_copy_9 rfl ?_
  refine gt_iL dX10_copy_10 ho103 hA (rg_in h2) (fun x104 => ?_)
  refine gt_iS dX10_copy_11 ho103 hA (Or.inl (by decide)) (rg_in h1) hG (by decide) (fun S105 hG106 hA107 e108 f109 er110 => ?_)
  refine tt_aload_n (j := 0) dX10_copy_12 rfl ?_
  obtain ⟨b111, hr112, ho113⟩ := gi_R (k := 644) hG h0 33 4940
  refine gt_gR (id := 644) dX10_copy_13 fl_10_16 rfl rfl h0 hA107 hr112 ?_
  refine tt_iload_n (j := 1) dX10_copy_16 rfl ?_
  refine tt_aload_n (j := 0) dX10_copy_17 rfl ?_
  refine gt_gR (id := 644) dX10_copy_18 fl_10_16 rfl rfl h0 hA107 hr112 ?_
  refine tt_iload_n (j := 2) dX10_copy_21 rfl ?_
  refine gt_lLt dX10_copy_22 ho113 hA107 (rg_in h2) ?_
  refine gt_lS dX10_copy_23 ho113 hA107 (rg_in h1) hG106 (Or.inl (by decide)) (Or.inl (by decide)) (fun S114 hG115 hA116 e117 f118 er119 => ?_)
  refine tt_aload_n (j := 0) dX10_copy_24 rfl ?_
  obtain ⟨b120, hr121, ho122⟩ := gi_R (k := 645) hG h0 33 4940
  refine gt_gR (id := 645) dX10_copy_25 fl_10_20 rfl rfl h0 hA116 hr121 ?_
  refine tt_iload_n (j := 1) dX10_copy_28 rfl ?_
  refine tt_aload_n (j := 0) dX10_copy_29 rfl ?_
  refine gt_gR (id := 645) dX10_copy_30 fl_10_20 rfl rfl h0 hA116 hr121 ?_
  refine tt_iload_n (j := 2) dX10_copy_33 rfl ?_
  refine gt_lLt dX10_copy_34 ho122 hA116 (rg_in h2) ?_
  refine gt_lS dX10_copy_35 ho122 hA116 (rg_in h1) hG115 (Or.inl (by decide)) (Or.inl (by decide)) (fun S123 hG124 hA125 e126 f127 er128 => ?_)
  refine tt_aload_n (j := 0) dX10_copy_36 rfl ?_
  obtain ⟨b129, hr130, ho131⟩ := gi_R (k := 646) hG h0 33 4940
  refine gt_gR (id := 646) dX10_copy_37 fl_10_23 rfl rfl h0 hA125 hr130 ?_
  refine tt_iload_n (j := 1) dX10_copy_40 rfl ?_
  refine tt_aload_n (j := 0) dX10_copy_41 rfl ?_
  refine gt_gR (id := 646) dX10_copy_42 fl_10_23 rfl rfl h0 hA125 hr130 ?_
  refine tt_iload_n (j := 2) dX10_copy_45 rfl ?_
  refine gt_lLt dX10_copy_46 ho131 hA125 (rg_in h2) ?_
  refine gt_lS dX10_copy_47 ho131 hA125 (rg_in h1) hG124 (Or.inl (by decide)) (Or.inl (by decide)) (fun S132 hG133 hA134 e135 f136 er137 => ?_)
  exact tt_vreturn dX10_copy_48 rfl (hP _ _ _ _ ⟨hG133, hA134, Or.inl ⟨_, rfl, rfl, trivial, rfl, rfl⟩⟩)
set_option maxHeartbeats 4000000 in
theorem cs_X10_isSame {xi : SX} {S : Hp} {E : List Nat} {kc nc : Nat} {P : Po} {o0 : Nat} {x1 : Int32} {x2 : Int32} (hG : GI S E) (h0 : Oa S E 10 0 o0) (h1 : Rg 0 4939 x1) (h2 : Rg 0 4939 x2) (hP : ∀ r T x y, PV E [] S kc nc (rI 0 1) (fun _ T => T = S) [] r T x y → P r T x y) : TT xi M_X10_isSame 0 [(0, .ref o0), (1, .int x1), (2, .int x2)] [] S kc nc P := by
  have hA : Af E [] S S := af_rf
  refine tt_aload_n (j := 0) dX10_isSame_0 rfl ?_
  obtain ⟨b101, hr102, ho103⟩ := gi_R (k := 643) hG h0 32 4940
  refine gt_gR (id := 643) dX10_isSame_1 fl_10_13 rfl rfl h0 hA hr102 ?_
  refine tt_iload_n (j := 1) dX10_isSame_4 rfl ?_
  refine gt_iL dX10_isSame_5 ho103 hA (rg_in h1) (fun x104 => ?_)
  refine tt_aload_n (j := 0) dX10_isSame_6 rfl ?_
  refine gt_gR (id := 643) dX10_isSame_7 fl_10_13 rfl rfl h0 hA hr102 ?_
  refine tt_iload_n (j := 2) dX10_isSame_10 rfl ?_
  refine gt_iL dX10_isSame_11 ho103 hA (rg_in h2) (fun x105 => ?_)
  have B106 : ∀ (x107 : Int32), Rg 0 1 x107 → TT xi M_X10_isSame 78 [(0, .ref o0), (1, .int x1), (2, .int x2)] [.int x107] S kc nc P := by
    intro x107 h108
    exact tt_ireturn dX10_isSame_78 .boolean rfl (rg_nar (rg_w h108)) (hP _ _ _ _ ⟨hG, hA, Or.inl ⟨_, rfl, ⟨_, rfl, rg_w h108⟩, rfl, rfl, rfl⟩⟩)
  have B109 : TT xi M_X10_isSame 77 [(0, .ref o0), (1, .int x1), (2, .int x2)] [] S kc nc P := by
    refine tt_iconst (v := 0) dX10_isSame_77 rfl ?_
    exact B106 0 (rg_w (⟨by decide, by decide⟩ : Rg 0 0 0))
  refine tt_icmp_ne (tgt := 77) dX10_isSame_12 rfl (fun q110 => ?_) (fun q110 => ?_)
  · skip
    exact B109 
  · skip
    refine tt_aload_n (j := 0) dX10_isSame_15 rfl ?_
    refine gt_gR (id := 643) dX10_isSame_16 fl_10_13 rfl rfl h0 hA hr102 ?_
    refine tt_iload_n (j := 1) dX10_isSame_19 rfl ?_
    refine gt_iL dX10_isSame_20 ho103 hA (rg_in h1) (fun x111 => ?_)
    refine tt_iconst (v := 1) dX10_isSame_21 rfl ?_
    have B112 : TT xi M_X10_isSame 73 [(0, .ref o0), (1, .int x1), (2, .int x2)] [] S kc nc P := by
      refine tt_iconst (v := 1) dX10_isSame_73 rfl ?_
      refine tt_goto (tgt := 78) dX10_isSame_74 rfl ?_
      exact B106 1 (rg_w (⟨by decide, by decide⟩ : Rg 1 1 1))
    refine tt_icmp_ne (tgt := 73) dX10_isSame_22 rfl (fun q113 => ?_) (fun q113 => ?_)
    · skip
      exact B112 
    · skip
      have h114 : Rg 1 1 x111 := rg_eq_l (rg_all x111) (⟨by decide, by decide⟩ : Rg 1 1 1) q113
      refine tt_aload_n (j := 0) dX10_isSame_25 rfl ?_
      obtain ⟨b115, hr116, ho117⟩ := gi_R (k := 644) hG h0 33 4940
      refine gt_gR (id := 644) dX10_isSame_26 fl_10_16 rfl rfl h0 hA hr116 ?_
      refine tt_iload_n (j := 1) dX10_isSame_29 rfl ?_
      refine gt_lLt dX10_isSame_30 ho117 hA (rg_in h1) ?_
      refine tt_aload_n (j := 0) dX10_isSame_31 rfl ?_
      refine gt_gR (id := 644) dX10_isSame_32 fl_10_16 rfl rfl h0 hA hr116 ?_
      refine tt_iload_n (j := 2) dX10_isSame_35 rfl ?_
      refine gt_lLt dX10_isSame_36 ho117 hA (rg_in h2) ?_
      refine tt_lcmp dX10_isSame_37 ?_
      refine tt_if_ne (tgt := 77) dX10_isSame_38 rfl (fun q118 => ?_) (fun q118 => ?_)
      · skip
        exact B109 
      · skip
        refine tt_aload_n (j := 0) dX10_isSame_41 rfl ?_
        obtain ⟨b119, hr120, ho121⟩ := gi_R (k := 645) hG h0 33 4940
        refine gt_gR (id := 645) dX10_isSame_42 fl_10_20 rfl rfl h0 hA hr120 ?_
        refine tt_iload_n (j := 1) dX10_isSame_45 rfl ?_
        refine gt_lLt dX10_isSame_46 ho121 hA (rg_in h1) ?_
        refine tt_aload_n (j := 0) dX10_isSame_47 rfl ?_
        refine gt_gR (id := 645) dX10_isSame_48 fl_10_20 rfl rfl h0 hA hr120 ?_
        refine tt_iload_n (j := 2) dX10_isSame_51 rfl ?_
        refine gt_lLt dX10_isSame_52 ho121 hA (rg_in h2) ?_
        refine tt_lcmp dX10_isSame_53 ?_
        refine tt_if_ne (tgt := 77) dX10_isSame_54 rfl (fun q122 => ?_) (fun q122 => ?_)
        · skip
          exact B109 
        · skip
          refine tt_aload_n (j := 0) dX10_isSame_57 rfl ?_
          obtain ⟨b123, hr124, ho125⟩ := gi_R (k := 646) hG h0 33 4940
          refine gt_gR (id := 646) dX10_isSame_58 fl_10_23 rfl rfl h0 hA hr124 ?_
          refine tt_iload_n (j := 1) dX10_isSame_61 rfl ?_
          refine gt_lLt dX10_isSame_62 ho125 hA (rg_in h1) ?_
          refine tt_aload_n (j := 0) dX10_isSame_63 rfl ?_
          refine gt_gR (id := 646) dX10_isSame_64 fl_10_23 rfl rfl h0 hA hr124 ?_
          refine tt_iload_n (j := 2) dX10_isSame_67 rfl ?_
          refine gt_lLt dX10_isSame_68 ho125 hA (rg_in h2) ?_
          refine tt_lcmp dX10_isSame_69 ?_
          refine tt_if_ne (tgt := 77) dX10_isSame_70 rfl (fun q126 => ?_) (fun q126 => ?_)
          · skip
            exact B109 
          · skip
            exact B112 
set_option maxHeartbeats 4000000 in
theorem cs_X10_isOne {xi : SX} {S : Hp} {E : List Nat} {kc nc : Nat} {P : Po} {o0 : Nat} {x1 : Int32} (hG : GI S E) (h0 : Oa S E 10 0 o0) (h1 : Rg 0 4939 x1) (hP : ∀ r T x y, PV E [] S kc nc (rI 0 1) (fun _ T => T = S) [] r T x y → P r T x y) : TT xi M_X10_isOne 0 [(0, .ref o0), (1, .int x1)] [] S kc nc P := by
  have hA : Af E [] S S := af_rf
  refine tt_aload_n (j := 0) dX10_isOne_0 rfl ?_
  obtain ⟨b101, hr102, ho103⟩ := gi_R (k := 643) hG h0 32 4940
  refine gt_gR (id := 643) dX10_isOne_1 fl_10_13 rfl rfl h0 hA hr102 ?_
  refine tt_iload_n (j := 1) dX10_isOne_4 rfl ?_
  refine gt_iL dX10_isOne_5 ho103 hA (rg_in h1) (fun x104 => ?_)
  refine tt_iconst (v := 1) dX10_isOne_6 rfl ?_
  have B105 : ∀ (x106 : Int32), Rg 0 1 x106 → TT xi M_X10_isOne 31 [(0, .ref o0), (1, .int x1)] [.int x106] S kc nc P := by
    intro x106 h107
    exact tt_ireturn dX10_isOne_31 .boolean rfl (rg_nar (rg_w h107)) (hP _ _ _ _ ⟨hG, hA, Or.inl ⟨_, rfl, ⟨_, rfl, rg_w h107⟩, rfl, rfl, rfl⟩⟩)
  have B108 : TT xi M_X10_isOne 30 [(0, .ref o0), (1, .int x1)] [] S kc nc P := by
    refine tt_iconst (v := 0) dX10_isOne_30 rfl ?_
    exact B105 0 (rg_w (⟨by decide, by decide⟩ : Rg 0 0 0))
  refine tt_icmp_ne (tgt := 30) dX10_isOne_7 rfl (fun q109 => ?_) (fun q109 => ?_)
  · skip
    exact B108 
  · skip
    have h110 : Rg 1 1 x104 := rg_eq_l (rg_all x104) (⟨by decide, by decide⟩ : Rg 1 1 1) q109
    refine tt_aload_n (j := 0) dX10_isOne_10 rfl ?_
    obtain ⟨b111, hr112, ho113⟩ := gi_R (k := 644) hG h0 33 4940
    refine gt_gR (id := 644) dX10_isOne_11 fl_10_16 rfl rfl h0 hA hr112 ?_
    refine tt_iload_n (j := 1) dX10_isOne_14 rfl ?_
    refine gt_lLt dX10_isOne_15 ho113 hA (rg_in h1) ?_
    refine tt_aload_n (j := 0) dX10_isOne_16 rfl ?_
    obtain ⟨b114, hr115, ho116⟩ := gi_R (k := 645) hG h0 33 4940
    refine gt_gR (id := 645) dX10_isOne_17 fl_10_20 rfl rfl h0 hA hr115 ?_
    refine tt_iload_n (j := 1) dX10_isOne_20 rfl ?_
    refine gt_lLt dX10_isOne_21 ho116 hA (rg_in h1) ?_
    refine tt_lcmp dX10_isOne_22 ?_
    refine tt_if_ne (tgt := 30) dX10_isOne_23 rfl (fun q117 => ?_) (fun q117 => ?_)
    · skip
      exact B108 
    · skip
      refine tt_iconst (v := 1) dX10_isOne_26 rfl ?_
      refine tt_goto (tgt := 31) dX10_isOne_27 rfl ?_
      exact B105 1 (rg_w (⟨by decide, by decide⟩ : Rg 1 1 1))
set_option maxHeartbeats 4000000 in
theorem cs_X10_isNumber {xi : SX} {S : Hp} {E : List Nat} {kc nc : Nat} {P : Po} {o0 : Nat} {x1 : Int32} {y2 : Int64} (hG : GI S E) (h0 : Oa S E 10 0 o0) (h1 : Rg 0 4939 x1) (hP : ∀ r T x y, PV E [] S kc nc (rI 0 1) (fun _ T => T = S) [] r T x y → P r T x y) : TT xi M_X10_isNumber 0 [(0, .ref o0), (1, .int x1), (2, .long y2)] [] S kc nc P := by
  have hA : Af E [] S S := af_rf
  refine tt_aload_n (j := 0) dX10_isNumber_0 rfl ?_
  refine tt_iload_n (j := 1) dX10_isNumber_1 rfl ?_
  refine gt_VIp (As := [.int x1]) dX10_isNumber_2 ca_X10_162 ⟨by decide, by decide⟩ h0 hA rfl (Nat.le_of_ble_eq_true rfl) (Nat.le_of_ble_eq_true rfl) (by decide) (cs_X10_isOne hG (oa_af h0 hA) (rg_w h1) (fun _ _ _ _ h => h)) rfl (fun _ h => nomatch h) (fun _ _ q => q) (fun x106 h107 hx105 => ?_)
  have B108 : ∀ (x109 : Int32), Rg 0 1 x109 → TT xi M_X10_isNumber 24 [(0, .ref o0), (1, .int x1), (2, .long y2)] [.int x109] S kc nc P := by
    intro x109 h110
    exact tt_ireturn dX10_isNumber_24 .boolean rfl (rg_nar (rg_w h110)) (hP _ _ _ _ ⟨hG, hA, Or.inl ⟨_, rfl, ⟨_, rfl, rg_w h110⟩, rfl, rfl, rfl⟩⟩)
  have B111 : TT xi M_X10_isNumber 23 [(0, .ref o0), (1, .int x1), (2, .long y2)] [] S kc nc P := by
    refine tt_iconst (v := 0) dX10_isNumber_23 rfl ?_
    exact B108 0 (rg_w (⟨by decide, by decide⟩ : Rg 0 0 0))
  refine tt_if_eq (tgt := 23) dX10_isNumber_5 rfl (fun q112 => ?_) (fun q112 => ?_)
  · skip
    have h113 : Rg 0 0 x106 := rg_eq_l h107 (⟨by decide, by decide⟩ : Rg 0 0 0) q112
    exact B111 
  · skip
    have h114 : Rg 1 1 x106 := rg_ne_lo h107 (⟨by decide, by decide⟩ : Rg 0 0 0) q112
    refine tt_aload_n (j := 0) dX10_isNumber_8 rfl ?_
    obtain ⟨b115, hr116, ho117⟩ := gi_R (k := 644) hG h0 33 4940
    refine gt_gR (id := 644) dX10_isNumber_9 fl_10_16 rfl rfl h0 hA hr116 ?_
    refine tt_iload_n (j := 1) dX10_isNumber_12 rfl ?_
    refine gt_lLt dX10_isNumber_13 ho117 hA (rg_in h1) ?_
    refine tt_lload_n (j := 2) dX10_isNumber_14 rfl ?_
    refine tt_lcmp dX10_isNumber_15 ?_
    refine tt_if_ne (tgt := 23) dX10_isNumber_16 rfl (fun q118 => ?_) (fun q118 => ?_)
    · skip
      exact B111 
    · skip
      refine tt_iconst (v := 1) dX10_isNumber_19 rfl ?_
      refine tt_goto (tgt := 24) dX10_isNumber_20 rfl ?_
      exact B108 1 (rg_w (⟨by decide, by decide⟩ : Rg 1 1 1))
set_option maxHeartbeats 4000000 in
theorem cs_X10_one {xi : SX} {S : Hp} {E : List Nat} {kc nc : Nat} {P : Po} {o0 : Nat} {x1 : Int32} {y2 : Int64} (hG : GI S E) (h0 : Oa S E 10 0 o0) (h1 : Rg 0 4939 x1) (hP : ∀ r T x y, PV E [9989] S kc nc rV ex0 [] r T x y → P r T x y) : TT xi M_X10_one 0 [(0, .ref o0), (1, .int x1), (2, .long y2)] [] S kc nc P := by
  have hA : Af E [9989] S S := af_rf
  refine tt_aload_n (j := 0) dX10_one_0 rfl ?_
  refine tt_iload_n (j := 1) dX10_one_1 rfl ?_
  refine tt_iconst (v := 1) dX10_one_2 rfl ?_
  refine tt_lload_n (j := 2) dX10_one_3 rfl ?_
  refine tt_lload_n (j := 2) dX10_one_4 rfl ?_
  refine tt_lconst (v := 0) dX10_one_5 rfl ?_
  refine gt_Vv (As := [.int x1, .int 1, .long y2, .long y2, .long 0]) dX10_one_6 ca_X10_165 ⟨by decide, by decide⟩ h0 hA rfl (Nat.le_of_ble_eq_true rfl) (Nat.le_of_ble_eq_true rfl) (by decide) (cs_X10_make hG (oa_af h0 hA) (rg_w h1) (fun _ _ _ _ h => h)) rfl (fun _ h => nomatch h) (fun S101 hx105 hG102 hB103 hA104 => ?_)
  exact tt_vreturn dX10_one_9 rfl (hP _ _ _ _ ⟨hG102, hA104, Or.inl ⟨_, rfl, rfl, trivial, rfl, rfl⟩⟩)
set_option maxHeartbeats 4000000 in
theorem cs_X10_contains {xi : SX} {S : Hp} {E : List Nat} {kc nc : Nat} {P : Po} {o0 : Nat} {x1 : Int32} {y2 : Int64} (hG : GI S E) (h0 : Oa S E 10 0 o0) (h1 : Rg 0 4939 x1) (hP : ∀ r T x y, PV E [] S kc nc (rI 0 1) (fun _ T => T = S) [] r T x y → P r T x y) : TT xi M_X10_contains 0 [(0, .ref o0), (1, .int x1), (2, .long y2)] [] S kc nc P := by
  have hA : Af E [] S S := af_rf
  refine tt_aload_n (j := 0) dX10_contains_0 rfl ?_
  obtain ⟨b101, hr102, ho103⟩ := gi_R (k := 643) hG h0 32 4940
  refine gt_gR (id := 643) dX10_contains_1 fl_10_13 rfl rfl h0 hA hr102 ?_
  refine tt_iload_n (j := 1) dX10_contains_4 rfl ?_
  refine gt_iL dX10_contains_5 ho103 hA (rg_in h1) (fun x104 => ?_)
  refine tt_iconst (v := 2) dX10_contains_6 rfl ?_
  have B105 : ∀ (x106 : Int32), Rg 0 1 x106 → TT xi M_X10_contains 75 [(0, .ref o0), (1, .int x1), (2, .long y2)] [.int x106] S kc nc P := by
    intro x106 h107
    exact tt_ireturn dX10_contains_75 .boolean rfl (rg_nar (rg_w h107)) (hP _ _ _ _ ⟨hG, hA, Or.inl ⟨_, rfl, ⟨_, rfl, rg_w h107⟩, rfl, rfl, rfl⟩⟩)
  have B108 : TT xi M_X10_contains 70 [(0, .ref o0), (1, .int x1), (2, .long y2)] [] S kc nc P := by
    refine tt_iconst (v := 1) dX10_contains_70 rfl ?_
    refine tt_goto (tgt := 75) dX10_contains_71 rfl ?_
    exact B105 1 (rg_w (⟨by decide, by decide⟩ : Rg 1 1 1))
  refine tt_icmp_eq (tgt := 70) dX10_contains_7 rfl (fun q109 => ?_) (fun q109 => ?_)
  · skip
    have h110 : Rg 2 2 x104 := rg_eq_l (rg_all x104) (⟨by decide, by decide⟩ : Rg 2 2 2) q109
    exact B108 
  · skip
    refine tt_aload_n (j := 0) dX10_contains_10 rfl ?_
    refine gt_gR (id := 643) dX10_contains_11 fl_10_13 rfl rfl h0 hA hr102 ?_
    refine tt_iload_n (j := 1) dX10_contains_14 rfl ?_
    refine gt_iL dX10_contains_15 ho103 hA (rg_in h1) (fun x111 => ?_)
    refine tt_iconst (v := 1) dX10_contains_16 rfl ?_
    have B112 : TT xi M_X10_contains 74 [(0, .ref o0), (1, .int x1), (2, .long y2)] [] S kc nc P := by
      refine tt_iconst (v := 0) dX10_contains_74 rfl ?_
      exact B105 0 (rg_w (⟨by decide, by decide⟩ : Rg 0 0 0))
    refine tt_icmp_ne (tgt := 74) dX10_contains_17 rfl (fun q113 => ?_) (fun q113 => ?_)
    · skip
      exact B112 
    · skip
      have h114 : Rg 1 1 x111 := rg_eq_l (rg_all x111) (⟨by decide, by decide⟩ : Rg 1 1 1) q113
      refine tt_lload_n (j := 2) dX10_contains_20 rfl ?_
      refine tt_aload_n (j := 0) dX10_contains_21 rfl ?_
      obtain ⟨b115, hr116, ho117⟩ := gi_R (k := 644) hG h0 33 4940
      refine gt_gR (id := 644) dX10_contains_22 fl_10_16 rfl rfl h0 hA hr116 ?_
      refine tt_iload_n (j := 1) dX10_contains_25 rfl ?_
      refine gt_lLt dX10_contains_26 ho117 hA (rg_in h1) ?_
      refine tt_aload_n (j := 0) dX10_contains_27 rfl ?_
      obtain ⟨b118, hr119, ho120⟩ := gi_R (k := 645) hG h0 33 4940
      refine gt_gR (id := 645) dX10_contains_28 fl_10_20 rfl rfl h0 hA hr119 ?_
      refine tt_iload_n (j := 1) dX10_contains_31 rfl ?_
      refine gt_lLt dX10_contains_32 ho120 hA (rg_in h1) ?_
      refine gt_SIp (As := [.long y2, .long (hp_j S b115 (x1 : Int32).toNatClampNeg), .long (hp_j S b118 (x1 : Int32).toNatClampNeg)]) dX10_contains_33 ca_X10_67 ⟨by decide, by decide⟩ hA (Nat.le_of_ble_eq_true rfl) (Nat.le_of_ble_eq_true rfl) (by decide) (cs_X10_isIn hG  (fun _ _ _ _ h => h)) rfl (fun _ h => nomatch h) (fun _ _ q => q.1) (fun x126 h127 hx125 => ?_)
      refine tt_if_eq (tgt := 74) dX10_contains_36 rfl (fun q128 => ?_) (fun q128 => ?_)
      · skip
        have h129 : Rg 0 0 x126 := rg_eq_l h127 (⟨by decide, by decide⟩ : Rg 0 0 0) q128
        exact B112 
      · skip
        have h130 : Rg 1 1 x126 := rg_ne_lo h127 (⟨by decide, by decide⟩ : Rg 0 0 0) q128
        have h131 : Rl (-9223372036854775808) 9223372036854775807 y2 := in_rl ((fun z e => (hx125.2 z e).1) _ rfl q128) (rl_all (hp_j S b115 (x1 : Int32).toNatClampNeg)) (rl_all (hp_j S b118 (x1 : Int32).toNatClampNeg))
        refine tt_aload_n (j := 0) dX10_contains_39 rfl ?_
        obtain ⟨b132, hr133, ho134⟩ := gi_R (k := 646) hG h0 33 4940
        refine gt_gR (id := 646) dX10_contains_40 fl_10_23 rfl rfl h0 hA hr133 ?_
        refine tt_iload_n (j := 1) dX10_contains_43 rfl ?_
        refine gt_lLt dX10_contains_44 ho134 hA (rg_in h1) ?_
        refine tt_lconst (v := 0) dX10_contains_45 rfl ?_
        refine tt_lcmp dX10_contains_46 ?_
        refine tt_if_eq (tgt := 70) dX10_contains_47 rfl (fun q135 => ?_) (fun q135 => ?_)
        · skip
          have h136 : Rl 0 0 (hp_j S b132 (x1 : Int32).toNatClampNeg) := rl_eq_l (rl_all (hp_j S b132 (x1 : Int32).toNatClampNeg)) (⟨by decide, by decide⟩ : Rl 0 0 0) (lc_eq_t q135)
          exact B108 
        · skip
          refine tt_lload_n (j := 2) dX10_contains_50 rfl ?_
          refine tt_aload_n (j := 0) dX10_contains_51 rfl ?_
          refine gt_gR (id := 644) dX10_contains_52 fl_10_16 rfl rfl h0 hA hr116 ?_
          refine tt_iload_n (j := 1) dX10_contains_55 rfl ?_
          refine gt_lLt dX10_contains_56 ho117 hA (rg_in h1) ?_
          refine tt_lsub dX10_contains_57 (gt_tl (fun y137 => ?_))
          refine tt_aload_n (j := 0) dX10_contains_58 rfl ?_
          refine gt_gR (id := 646) dX10_contains_59 fl_10_23 rfl rfl h0 hA hr133 ?_
          refine tt_iload_n (j := 1) dX10_contains_62 rfl ?_
          refine gt_lLt dX10_contains_63 ho134 hA (rg_in h1) ?_
          refine tt_lrem dX10_contains_64 (lc_eq_f q135) (gt_tl (fun y138 => ?_))
          refine tt_lconst (v := 0) dX10_contains_65 rfl ?_
          refine tt_lcmp dX10_contains_66 ?_
          refine tt_if_ne (tgt := 74) dX10_contains_67 rfl (fun q139 => ?_) (fun q139 => ?_)
          · skip
            exact B112 
          · skip
            have h140 : Rl 0 0 y138 := rl_eq_l (rl_all y138) (⟨by decide, by decide⟩ : Rl 0 0 0) (lc_ne_f q139)
            exact B108 
set_option maxHeartbeats 4000000 in
theorem cs_X10_isPlain {xi : SX} {S : Hp} {E : List Nat} {kc nc : Nat} {P : Po} {o0 : Nat} {x1 : Int32} {x2 : Int32} {x3 : Int32} (hG : GI S E) (h0 : Oa S E 10 0 o0) (h1 : Rg 0 4939 x1) (h2 : Rg 0 4939 x2) (h3 : Rg 0 4939 x3) (hP : ∀ r T x y, PV E [9989] S kc nc (rI 0 1) ex0 [] r T x y → P r T x y) : TT xi M_X10_isPlain 0 [(0, .ref o0), (1, .int x1), (2, .int x2), (3, .int x3)] [] S kc nc P := by
  have hA : Af E [9989] S S := af_rf
  refine tt_aload_n (j := 0) dX10_isPlain_0 rfl ?_
  obtain ⟨b101, hr102, ho103⟩ := gi_R (k := 643) hG h0 32 4940
  refine gt_gR (id := 643) dX10_isPlain_1 fl_10_13 rfl rfl h0 hA hr102 ?_
  refine tt_iload_n (j := 2) dX10_isPlain_4 rfl ?_
  refine gt_iL dX10_isPlain_5 ho103 hA (rg_in h2) (fun x104 => ?_)
  have B105 : TT xi M_X10_isPlain 18 [(0, .ref o0), (1, .int x1), (2, .int x2), (3, .int x3)] [] S kc nc P := by
    refine tt_aload_n (j := 0) dX10_isPlain_18 rfl ?_
    refine gt_gR (id := 643) dX10_isPlain_19 fl_10_13 rfl rfl h0 hA hr102 ?_
    refine tt_iload_n (j := 1) dX10_isPlain_22 rfl ?_
    refine tt_iconst (v := 0) dX10_isPlain_23 rfl ?_
    refine gt_iS dX10_isPlain_24 ho103 hA (Or.inl (by decide)) (rg_in h1) hG (by decide) (fun S106 hG107 hA108 e109 f110 er111 => ?_)
    refine tt_iconst (v := 1) dX10_isPlain_25 rfl ?_
    exact tt_ireturn dX10_isPlain_26 .boolean rfl rfl (hP _ _ _ _ ⟨hG107, hA108, Or.inl ⟨_, rfl, ⟨_, rfl, rg_w (⟨by decide, by decide⟩ : Rg 1 1 1)⟩, trivial, rfl, rfl⟩⟩)
  refine tt_if_eq (tgt := 18) dX10_isPlain_6 rfl (fun q112 => ?_) (fun q112 => ?_)
  · skip
    have h113 : Rg 0 0 x104 := rg_eq_l (rg_all x104) (⟨by decide, by decide⟩ : Rg 0 0 0) q112
    exact B105 
  · skip
    refine tt_aload_n (j := 0) dX10_isPlain_9 rfl ?_
    refine gt_gR (id := 643) dX10_isPlain_10 fl_10_13 rfl rfl h0 hA hr102 ?_
    refine tt_iload_n (j := 3) dX10_isPlain_13 rfl ?_
    refine gt_iL dX10_isPlain_14 ho103 hA (rg_in h3) (fun x114 => ?_)
    refine tt_if_ne (tgt := 27) dX10_isPlain_15 rfl (fun q115 => ?_) (fun q115 => ?_)
    · skip
      refine tt_aload_n (j := 0) dX10_isPlain_27 rfl ?_
      refine gt_gR (id := 643) dX10_isPlain_28 fl_10_13 rfl rfl h0 hA hr102 ?_
      refine tt_iload_n (j := 2) dX10_isPlain_31 rfl ?_
      refine gt_iL dX10_isPlain_32 ho103 hA (rg_in h2) (fun x116 => ?_)
      refine tt_iconst (v := 2) dX10_isPlain_33 rfl ?_
      have B117 : TT xi M_X10_isPlain 47 [(0, .ref o0), (1, .int x1), (2, .int x2), (3, .int x3)] [] S kc nc P := by
        refine tt_aload_n (j := 0) dX10_isPlain_47 rfl ?_
        refine gt_gR (id := 643) dX10_isPlain_48 fl_10_13 rfl rfl h0 hA hr102 ?_
        refine tt_iload_n (j := 1) dX10_isPlain_51 rfl ?_
        refine tt_iconst (v := 2) dX10_isPlain_52 rfl ?_
        refine gt_iS dX10_isPlain_53 ho103 hA (Or.inl (by decide)) (rg_in h1) hG (by decide) (fun S118 hG119 hA120 e121 f122 er123 => ?_)
        refine tt_iconst (v := 1) dX10_isPlain_54 rfl ?_
        exact tt_ireturn dX10_isPlain_55 .boolean rfl rfl (hP _ _ _ _ ⟨hG119, hA120, Or.inl ⟨_, rfl, ⟨_, rfl, rg_w (⟨by decide, by decide⟩ : Rg 1 1 1)⟩, trivial, rfl, rfl⟩⟩)
      refine tt_icmp_eq (tgt := 47) dX10_isPlain_34 rfl (fun q124 => ?_) (fun q124 => ?_)
      · skip
        have h125 : Rg 2 2 x116 := rg_eq_l (rg_all x116) (⟨by decide, by decide⟩ : Rg 2 2 2) q124
        exact B117 
      · skip
        refine tt_aload_n (j := 0) dX10_isPlain_37 rfl ?_
        refine gt_gR (id := 643) dX10_isPlain_38 fl_10_13 rfl rfl h0 hA hr102 ?_
        refine tt_iload_n (j := 3) dX10_isPlain_41 rfl ?_
        refine gt_iL dX10_isPlain_42 ho103 hA (rg_in h3) (fun x126 => ?_)
        refine tt_iconst (v := 2) dX10_isPlain_43 rfl ?_
        refine tt_icmp_ne (tgt := 56) dX10_isPlain_44 rfl (fun q127 => ?_) (fun q127 => ?_)
        · skip
          refine tt_iconst (v := 0) dX10_isPlain_56 rfl ?_
          exact tt_ireturn dX10_isPlain_57 .boolean rfl rfl (hP _ _ _ _ ⟨hG, hA, Or.inl ⟨_, rfl, ⟨_, rfl, rg_w (⟨by decide, by decide⟩ : Rg 0 0 0)⟩, trivial, rfl, rfl⟩⟩)
        · skip
          have h128 : Rg 2 2 x126 := rg_eq_l (rg_all x126) (⟨by decide, by decide⟩ : Rg 2 2 2) q127
          exact B117 
    · skip
      have h129 : Rg 0 0 x114 := rg_eq_l (rg_all x114) (⟨by decide, by decide⟩ : Rg 0 0 0) q115
      exact B105 
set_option maxHeartbeats 4000000 in
theorem cs_X10_join {xi : SX} {S : Hp} {E : List Nat} {kc nc : Nat} {P : Po} {o0 : Nat} {x1 : Int32} {x2 : Int32} {x3 : Int32} (hG : GI S E) (h0 : Oa S E 10 0 o0) (h1 : Rg 0 4939 x1) (h2 : Rg 0 4939 x2) (h3 : Rg 0 4939 x3) (hP : ∀ r T x y, PV E [9989] S kc nc rV ex0 [] r T x y → P r T x y) : TT xi M_X10_join 0 [(0, .ref o0), (1, .int x1), (2, .int x2), (3, .int x3)] [] S kc nc P := by
  have hA : Af E [9989] S S := af_rf
  refine tt_aload_n (j := 0) dX10_join_0 rfl ?_
  obtain ⟨b101, hr102, ho103⟩ := gi_R (k := 643) hG h0 32 4940
  refine gt_gR (id := 643) dX10_join_1 fl_10_13 rfl rfl h0 hA hr102 ?_
  refine tt_iload_n (j := 2) dX10_join_4 rfl ?_
  refine gt_iL dX10_join_5 ho103 hA (rg_in h2) (fun x104 => ?_)
  have B105 : ∀ (S106 : Hp), GI S106 E → Af E [9989] S S106 → TT xi M_X10_join 177 [(0, .ref o0), (1, .int x1), (2, .int x2), (3, .int x3)] [] S106 kc nc P := by
    intro S106 hG107 hA108
    exact tt_vreturn dX10_join_177 rfl (hP _ _ _ _ ⟨hG107, hA108, Or.inl ⟨_, rfl, rfl, trivial, rfl, rfl⟩⟩)
  have B109 : TT xi M_X10_join 18 [(0, .ref o0), (1, .int x1), (2, .int x2), (3, .int x3)] [] S kc nc P := by
    refine tt_aload_n (j := 0) dX10_join_18 rfl ?_
    refine tt_iload_n (j := 1) dX10_join_19 rfl ?_
    refine tt_aload_n (j := 0) dX10_join_20 rfl ?_
    refine gt_gR (id := 643) dX10_join_21 fl_10_13 rfl rfl h0 hA hr102 ?_
    refine tt_iload_n (j := 2) dX10_join_24 rfl ?_
    refine gt_iL dX10_join_25 ho103 hA (rg_in h2) (fun x110 => ?_)
    have B111 : ∀ (x112 : Int32), Rg 0 4939 x112 → TT xi M_X10_join 34 [(0, .ref o0), (1, .int x1), (2, .int x2), (3, .int x3)] [.int x112, .int x1, .ref o0] S kc nc P := by
      intro x112 h113
      refine gt_Vv (As := [.int x1, .int x112]) dX10_join_34 ca_X10_169 ⟨by decide, by decide⟩ h0 hA rfl (Nat.le_of_ble_eq_true rfl) (Nat.le_of_ble_eq_true rfl) (by decide) (cs_X10_copy hG (oa_af h0 hA) (rg_w h1) (rg_w h113) (fun _ _ _ _ h => h)) rfl (fun _ h => nomatch h) (fun S114 hx118 hG115 hB116 hA117 => ?_)
      refine tt_goto (tgt := 177) dX10_join_37 rfl ?_
      exact B105 S114 hG115 hA117
    refine tt_if_ne (tgt := 33) dX10_join_26 rfl (fun q119 => ?_) (fun q119 => ?_)
    · skip
      refine tt_iload_n (j := 2) dX10_join_33 rfl ?_
      exact B111 x2 h2
    · skip
      have h120 : Rg 0 0 x110 := rg_eq_l (rg_all x110) (⟨by decide, by decide⟩ : Rg 0 0 0) q119
      refine tt_iload_n (j := 3) dX10_join_29 rfl ?_
      refine tt_goto (tgt := 34) dX10_join_30 rfl ?_
      exact B111 x3 h3
  refine tt_if_eq (tgt := 18) dX10_join_6 rfl (fun q121 => ?_) (fun q121 => ?_)
  · skip
    have h122 : Rg 0 0 x104 := rg_eq_l (rg_all x104) (⟨by decide, by decide⟩ : Rg 0 0 0) q121
    exact B109 
  · skip
    refine tt_aload_n (j := 0) dX10_join_9 rfl ?_
    refine gt_gR (id := 643) dX10_join_10 fl_10_13 rfl rfl h0 hA hr102 ?_
    refine tt_iload_n (j := 3) dX10_join_13 rfl ?_
    refine gt_iL dX10_join_14 ho103 hA (rg_in h3) (fun x123 => ?_)
    refine tt_if_ne (tgt := 40) dX10_join_15 rfl (fun q124 => ?_) (fun q124 => ?_)
    · skip
      refine tt_aload_n (j := 0) dX10_join_40 rfl ?_
      refine gt_gR (id := 643) dX10_join_41 fl_10_13 rfl rfl h0 hA hr102 ?_
      refine tt_iload_n (j := 2) dX10_join_44 rfl ?_
      refine gt_iL dX10_join_45 ho103 hA (rg_in h2) (fun x125 => ?_)
      refine tt_iconst (v := 2) dX10_join_46 rfl ?_
      have B126 : TT xi M_X10_join 60 [(0, .ref o0), (1, .int x1), (2, .int x2), (3, .int x3)] [] S kc nc P := by
        refine tt_aload_n (j := 0) dX10_join_60 rfl ?_
        refine gt_gR (id := 643) dX10_join_61 fl_10_13 rfl rfl h0 hA hr102 ?_
        refine tt_iload_n (j := 1) dX10_join_64 rfl ?_
        refine tt_iconst (v := 2) dX10_join_65 rfl ?_
        refine gt_iS dX10_join_66 ho103 hA (Or.inl (by decide)) (rg_in h1) hG (by decide) (fun S127 hG128 hA129 e130 f131 er132 => ?_)
        refine tt_goto (tgt := 177) dX10_join_67 rfl ?_
        exact B105 S127 hG128 hA129
      refine tt_icmp_eq (tgt := 60) dX10_join_47 rfl (fun q133 => ?_) (fun q133 => ?_)
      · skip
        have h134 : Rg 2 2 x125 := rg_eq_l (rg_all x125) (⟨by decide, by decide⟩ : Rg 2 2 2) q133
        exact B126 
      · skip
        refine tt_aload_n (j := 0) dX10_join_50 rfl ?_
        refine gt_gR (id := 643) dX10_join_51 fl_10_13 rfl rfl h0 hA hr102 ?_
        refine tt_iload_n (j := 3) dX10_join_54 rfl ?_
        refine gt_iL dX10_join_55 ho103 hA (rg_in h3) (fun x135 => ?_)
        refine tt_iconst (v := 2) dX10_join_56 rfl ?_
        refine tt_icmp_ne (tgt := 70) dX10_join_57 rfl (fun q136 => ?_) (fun q136 => ?_)
        · skip
          refine tt_aload_n (j := 0) dX10_join_70 rfl ?_
          obtain ⟨b137, hr138, ho139⟩ := gi_R (k := 644) hG h0 33 4940
          refine gt_gR (id := 644) dX10_join_71 fl_10_16 rfl rfl h0 hA hr138 ?_
          refine tt_iload_n (j := 2) dX10_join_74 rfl ?_
          refine gt_lLt dX10_join_75 ho139 hA (rg_in h2) ?_
          refine tt_aload_n (j := 0) dX10_join_76 rfl ?_
          refine gt_gR (id := 644) dX10_join_77 fl_10_16 rfl rfl h0 hA hr138 ?_
          refine tt_iload_n (j := 3) dX10_join_80 rfl ?_
          refine gt_lLt dX10_join_81 ho139 hA (rg_in h3) ?_
          refine tt_lcmp dX10_join_82 ?_
          have B140 : ∀ (y141 : Int64), TT xi M_X10_join 101 [(0, .ref o0), (1, .int x1), (2, .int x2), (3, .int x3)] [.long y141] S kc nc P := by
            intro y141 
            refine tt_lstore (ks := [0, 1, 2, 3, 4]) (L' := [(4, .long y141), (0, .ref o0), (1, .int x1), (2, .int x2), (3, .int x3)]) dX10_join_101 (by decide) rfl ?_
            refine tt_aload_n (j := 1) dX10_join_103 rfl ?_
            obtain ⟨b142, hr143, ho144⟩ := gi_R (k := 645) hG h0 33 4940
            refine gt_gR (id := 645) dX10_join_104 fl_10_20 rfl rfl h0 hA hr143 ?_
            refine tt_iload_n (j := 3) dX10_join_107 rfl ?_
            refine gt_lLt dX10_join_108 ho144 hA (rg_in h2) ?_
            refine tt_aload_n (j := 1) dX10_join_109 rfl ?_
            refine gt_gR (id := 645) dX10_join_110 fl_10_20 rfl rfl h0 hA hr143 ?_
            refine tt_iload_n (j := 4) dX10_join_113 rfl ?_
            refine gt_lLt dX10_join_114 ho144 hA (rg_in h3) ?_
            refine tt_lcmp dX10_join_115 ?_
            have B145 : ∀ (y146 : Int64), TT xi M_X10_join 134 [(0, .ref o0), (1, .int x1), (2, .int x2), (3, .int x3), (4, .long y141)] [.long y146] S kc nc P := by
              intro y146 
              refine tt_lstore (ks := [0, 1, 2, 3, 4, 5]) (L' := [(6, .long y146), (0, .ref o0), (1, .int x1), (2, .int x2), (3, .int x3), (4, .long y141)]) dX10_join_134 (by decide) rfl ?_
              refine tt_aload_n (j := 1) dX10_join_136 rfl ?_
              refine tt_iload_n (j := 2) dX10_join_137 rfl ?_
              refine tt_iconst (v := 1) dX10_join_138 rfl ?_
              refine tt_lload (j := 5) dX10_join_139 rfl ?_
              refine tt_lload (j := 0) dX10_join_141 rfl ?_
              refine tt_aload_n (j := 1) dX10_join_143 rfl ?_
              obtain ⟨b147, hr148, ho149⟩ := gi_R (k := 646) hG h0 33 4940
              refine gt_gR (id := 646) dX10_join_144 fl_10_23 rfl rfl h0 hA hr148 ?_
              refine tt_iload_n (j := 3) dX10_join_147 rfl ?_
              refine gt_lLt dX10_join_148 ho149 hA (rg_in h2) ?_
              refine tt_aload_n (j := 1) dX10_join_149 rfl ?_
              refine gt_gR (id := 646) dX10_join_150 fl_10_23 rfl rfl h0 hA hr148 ?_
              refine tt_iload_n (j := 4) dX10_join_153 rfl ?_
              refine gt_lLt dX10_join_154 ho149 hA (rg_in h3) ?_
              refine gt_SJp (As := [.long (hp_j S b147 (x2 : Int32).toNatClampNeg), .long (hp_j S b147 (x3 : Int32).toNatClampNeg)]) dX10_join_155 ca_X10_172 ⟨by decide, by decide⟩ hA (Nat.le_of_ble_eq_true rfl) (Nat.le_of_ble_eq_true rfl) (by decide) (cs_X10_gcd hG  (fun _ _ _ _ h => h)) rfl (fun _ h => nomatch h) (fun _ _ q => q.1) (fun y155 hx154 => ?_)
              refine tt_aload_n (j := 1) dX10_join_158 rfl ?_
              refine gt_gR (id := 644) dX10_join_159 fl_10_16 rfl rfl h0 hA hr138 ?_
              refine tt_iload_n (j := 3) dX10_join_162 rfl ?_
              refine gt_lLt dX10_join_163 ho139 hA (rg_in h2) ?_
              refine tt_aload_n (j := 1) dX10_join_164 rfl ?_
              refine gt_gR (id := 644) dX10_join_165 fl_10_16 rfl rfl h0 hA hr138 ?_
              refine tt_iload_n (j := 4) dX10_join_168 rfl ?_
              refine gt_lLt dX10_join_169 ho139 hA (rg_in h3) ?_
              refine tt_lsub dX10_join_170 (gt_tl (fun y157 => ?_))
              refine gt_SJp (As := [.long y155, .long y157]) dX10_join_171 ca_X10_172 ⟨by decide, by decide⟩ hA (Nat.le_of_ble_eq_true rfl) (Nat.le_of_ble_eq_true rfl) (by decide) (cs_X10_gcd hG  (fun _ _ _ _ h => h)) rfl (fun _ h => nomatch h) (fun _ _ q => q.1) (fun y163 hx162 => ?_)
              refine gt_Vv (As := [.int x1, .int 1, .long y141, .long y146, .long y163]) dX10_join_174 ca_X10_165 ⟨by decide, by decide⟩ h0 hA rfl (Nat.le_of_ble_eq_true rfl) (Nat.le_of_ble_eq_true rfl) (by decide) (cs_X10_make hG (oa_af h0 hA) (rg_w h1) (fun _ _ _ _ h => h)) rfl (fun _ h => nomatch h) (fun S165 hx169 hG166 hB167 hA168 => ?_)
              exact tt_loc (ks := [1, 2, 3, 4]) rfl (B105 S165 hG166 hA168)
            refine tt_if_le (tgt := 128) dX10_join_116 rfl (fun q170 => ?_) (fun q170 => ?_)
            · skip
              refine tt_aload_n (j := 1) dX10_join_128 rfl ?_
              refine gt_gR (id := 645) dX10_join_129 fl_10_20 rfl rfl h0 hA hr143 ?_
              refine tt_iload_n (j := 4) dX10_join_132 rfl ?_
              refine gt_lLt dX10_join_133 ho144 hA (rg_in h3) ?_
              exact tt_loc (ks := [1, 2, 3, 4, 0]) rfl (B145 (hp_j S b142 (x3 : Int32).toNatClampNeg))
            · skip
              have h171 : Rl (-9223372036854775808) 9223372036854775806 (hp_j S b142 (x3 : Int32).toNatClampNeg) := rl_lt_l (rl_all (hp_j S b142 (x3 : Int32).toNatClampNeg)) (rl_all (hp_j S b142 (x2 : Int32).toNatClampNeg)) (lc_le_f q170)
              have h172 : Rl (-9223372036854775807) 9223372036854775807 (hp_j S b142 (x2 : Int32).toNatClampNeg) := rl_lt_r (rl_all (hp_j S b142 (x3 : Int32).toNatClampNeg)) (rl_all (hp_j S b142 (x2 : Int32).toNatClampNeg)) (lc_le_f q170)
              refine tt_aload_n (j := 1) dX10_join_119 rfl ?_
              refine gt_gR (id := 645) dX10_join_120 fl_10_20 rfl rfl h0 hA hr143 ?_
              refine tt_iload_n (j := 3) dX10_join_123 rfl ?_
              refine gt_lLt dX10_join_124 ho144 hA (rg_in h2) ?_
              refine tt_goto (tgt := 134) dX10_join_125 rfl ?_
              exact tt_loc (ks := [1, 2, 3, 4, 0]) rfl (B145 (hp_j S b142 (x2 : Int32).toNatClampNeg))
          refine tt_if_ge (tgt := 95) dX10_join_83 rfl (fun q173 => ?_) (fun q173 => ?_)
          · skip
            refine tt_aload_n (j := 0) dX10_join_95 rfl ?_
            refine gt_gR (id := 644) dX10_join_96 fl_10_16 rfl rfl h0 hA hr138 ?_
            refine tt_iload_n (j := 3) dX10_join_99 rfl ?_
            refine gt_lLt dX10_join_100 ho139 hA (rg_in h3) ?_
            exact B140 (hp_j S b137 (x3 : Int32).toNatClampNeg)
          · skip
            have h174 : Rl (-9223372036854775808) 9223372036854775806 (hp_j S b137 (x2 : Int32).toNatClampNeg) := rl_lt_l (rl_all (hp_j S b137 (x2 : Int32).toNatClampNeg)) (rl_all (hp_j S b137 (x3 : Int32).toNatClampNeg)) (lc_ge_f q173)
            have h175 : Rl (-9223372036854775807) 9223372036854775807 (hp_j S b137 (x3 : Int32).toNatClampNeg) := rl_lt_r (rl_all (hp_j S b137 (x2 : Int32).toNatClampNeg)) (rl_all (hp_j S b137 (x3 : Int32).toNatClampNeg)) (lc_ge_f q173)
            refine tt_aload_n (j := 0) dX10_join_86 rfl ?_
            refine gt_gR (id := 644) dX10_join_87 fl_10_16 rfl rfl h0 hA hr138 ?_
            refine tt_iload_n (j := 2) dX10_join_90 rfl ?_
            refine gt_lLt dX10_join_91 ho139 hA (rg_in h2) ?_
            refine tt_goto (tgt := 101) dX10_join_92 rfl ?_
            exact B140 (hp_j S b137 (x2 : Int32).toNatClampNeg)
        · skip
          have h176 : Rg 2 2 x135 := rg_eq_l (rg_all x135) (⟨by decide, by decide⟩ : Rg 2 2 2) q136
          exact B126 
    · skip
      have h177 : Rg 0 0 x123 := rg_eq_l (rg_all x123) (⟨by decide, by decide⟩ : Rg 0 0 0) q124
      exact B109 
set_option maxHeartbeats 4000000 in
theorem cs_X10_widen {xi : SX} {S : Hp} {E : List Nat} {kc nc : Nat} {P : Po} {o0 : Nat} {x1 : Int32} {x2 : Int32} {x3 : Int32} (hG : GI S E) (h0 : Oa S E 10 0 o0) (h1 : Rg 0 4939 x1) (h2 : Rg 0 4939 x2) (h3 : Rg 0 4939 x3) (hP : ∀ r T x y, PV E [9989] S kc nc rV ex0 [] r T x y → P r T x y) : TT xi M_X10_widen 0 [(0, .ref o0), (1, .int x1), (2, .int x2), (3, .int x3)] [] S kc nc P := by
  have hA : Af E [9989] S S := af_rf
  refine tt_aload_n (j := 0) dX10_widen_0 rfl ?_
  refine tt_sipush (v := 4930) dX10_widen_1 rfl ?_
  refine tt_iload_n (j := 2) dX10_widen_4 rfl ?_
  refine tt_iload_n (j := 3) dX10_widen_5 rfl ?_
  refine gt_Vv (As := [.int 4930, .int x2, .int x3]) dX10_widen_6 ca_X10_176 ⟨by decide, by decide⟩ h0 hA rfl (Nat.le_of_ble_eq_true rfl) (Nat.le_of_ble_eq_true rfl) (by decide) (cs_X10_join hG (oa_af h0 hA) (rg_w (⟨by decide, by decide⟩ : Rg 4930 4930 4930)) (rg_w h2) (rg_w h3) (fun _ _ _ _ h => h)) rfl (fun _ h => nomatch h) (fun S101 hx105 hG102 hB103 hA104 => ?_)
  refine tt_aload_n (j := 0) dX10_widen_9 rfl ?_
  obtain ⟨b106, hr107, ho108⟩ := gi_R (k := 643) hG h0 32 4940
  refine gt_gR (id := 643) dX10_widen_10 fl_10_13 rfl rfl h0 hA104 hr107 ?_
  refine tt_sipush (v := 4930) dX10_widen_13 rfl ?_
  refine gt_iL dX10_widen_16 ho108 hA104 (rg_in (⟨by decide, by decide⟩ : Rg 4930 4930 4930)) (fun x109 => ?_)
  refine tt_iconst (v := 1) dX10_widen_17 rfl ?_
  have B110 : ∀ (S111 : Hp), GI S111 E → Af E [9989] S S111 → TT xi M_X10_widen 166 [(0, .ref o0), (1, .int x1), (2, .int x2), (3, .int x3)] [] S111 kc nc P := by
    intro S111 hG112 hA113
    refine tt_aload_n (j := 0) dX10_widen_166 rfl ?_
    refine tt_iload_n (j := 1) dX10_widen_167 rfl ?_
    refine tt_sipush (v := 4930) dX10_widen_168 rfl ?_
    refine gt_Vv (As := [.int x1, .int 4930]) dX10_widen_171 ca_X10_169 ⟨by decide, by decide⟩ h0 hA113 rfl (Nat.le_of_ble_eq_true rfl) (Nat.le_of_ble_eq_true rfl) (by decide) (cs_X10_copy hG112 (oa_af h0 hA113) (rg_w h1) (rg_w (⟨by decide, by decide⟩ : Rg 4930 4930 4930)) (fun _ _ _ _ h => h)) rfl (fun _ h => nomatch h) (fun S114 hx118 hG115 hB116 hA117 => ?_)
    exact tt_vreturn dX10_widen_174 rfl (hP _ _ _ _ ⟨hG115, hA117, Or.inl ⟨_, rfl, rfl, trivial, rfl, rfl⟩⟩)
  refine tt_icmp_ne (tgt := 166) dX10_widen_18 rfl (fun q119 => ?_) (fun q119 => ?_)
  · skip
    exact B110 S101 hG102 hA104
  · skip
    have h120 : Rg 1 1 x109 := rg_eq_l (rg_all x109) (⟨by decide, by decide⟩ : Rg 1 1 1) q119
    refine tt_aload_n (j := 0) dX10_widen_21 rfl ?_
    refine gt_gR (id := 643) dX10_widen_22 fl_10_13 rfl rfl h0 hA104 hr107 ?_
    refine tt_iload_n (j := 2) dX10_widen_25 rfl ?_
    refine gt_iL dX10_widen_26 ho108 hA104 (rg_in h2) (fun x121 => ?_)
    refine tt_iconst (v := 1) dX10_widen_27 rfl ?_
    refine tt_icmp_ne (tgt := 166) dX10_widen_28 rfl (fun q122 => ?_) (fun q122 => ?_)
    · skip
      exact B110 S101 hG102 hA104
    · skip
      have h123 : Rg 1 1 x121 := rg_eq_l (rg_all x121) (⟨by decide, by decide⟩ : Rg 1 1 1) q122
      refine tt_aload_n (j := 0) dX10_widen_31 rfl ?_
      refine gt_gR (id := 643) dX10_widen_32 fl_10_13 rfl rfl h0 hA104 hr107 ?_
      refine tt_iload_n (j := 3) dX10_widen_35 rfl ?_
      refine gt_iL dX10_widen_36 ho108 hA104 (rg_in h3) (fun x124 => ?_)
      refine tt_iconst (v := 1) dX10_widen_37 rfl ?_
      refine tt_icmp_ne (tgt := 166) dX10_widen_38 rfl (fun q125 => ?_) (fun q125 => ?_)
      · skip
        exact B110 S101 hG102 hA104
      · skip
        have h126 : Rg 1 1 x124 := rg_eq_l (rg_all x124) (⟨by decide, by decide⟩ : Rg 1 1 1) q125
        refine tt_aload_n (j := 0) dX10_widen_41 rfl ?_
        obtain ⟨b127, hr128, ho129⟩ := gi_R (k := 646) hG h0 33 4940
        refine gt_gR (id := 646) dX10_widen_42 fl_10_23 rfl rfl h0 hA104 hr128 ?_
        refine tt_sipush (v := 4930) dX10_widen_45 rfl ?_
        refine gt_lLt dX10_widen_48 ho129 hA104 (rg_in (⟨by decide, by decide⟩ : Rg 4930 4930 4930)) ?_
        refine tt_lconst (v := 0) dX10_widen_49 rfl ?_
        refine tt_lcmp dX10_widen_50 ?_
        refine tt_if_le (tgt := 166) dX10_widen_51 rfl (fun q130 => ?_) (fun q130 => ?_)
        · skip
          have h131 : Rl (-9223372036854775808) 0 (hp_j S101 b127 (4930 : Int32).toNatClampNeg) := rl_le_l (rl_all (hp_j S101 b127 (4930 : Int32).toNatClampNeg)) (⟨by decide, by decide⟩ : Rl 0 0 0) (lc_le_t q130)
          exact B110 S101 hG102 hA104
        · skip
          have h132 : Rl 1 9223372036854775807 (hp_j S101 b127 (4930 : Int32).toNatClampNeg) := rl_lt_r (⟨by decide, by decide⟩ : Rl 0 0 0) (rl_all (hp_j S101 b127 (4930 : Int32).toNatClampNeg)) (lc_le_f q130)
          refine tt_aload_n (j := 0) dX10_widen_54 rfl ?_
          refine gt_gR (id := 646) dX10_widen_55 fl_10_23 rfl rfl h0 hA104 hr128 ?_
          refine tt_sipush (v := 4930) dX10_widen_58 rfl ?_
          refine gt_lLt dX10_widen_61 ho129 hA104 (rg_in (⟨by decide, by decide⟩ : Rg 4930 4930 4930)) ?_
          refine tt_lstore (ks := [0, 1, 2, 3, 4]) (L' := [(4, .long (hp_j S101 b127 (4930 : Int32).toNatClampNeg)), (0, .ref o0), (1, .int x1), (2, .int x2), (3, .int x3)]) dX10_widen_62 (by decide) rfl ?_
          refine tt_aload_n (j := 1) dX10_widen_64 rfl ?_
          obtain ⟨b133, hr134, ho135⟩ := gi_R (k := 644) hG h0 33 4940
          refine gt_gR (id := 644) dX10_widen_65 fl_10_16 rfl rfl h0 hA104 hr134 ?_
          refine tt_sipush (v := 4930) dX10_widen_68 rfl ?_
          refine gt_lLt dX10_widen_71 ho135 hA104 (rg_in (⟨by decide, by decide⟩ : Rg 4930 4930 4930)) ?_
          refine tt_lstore (ks := [0, 1, 2, 3, 4, 5]) (L' := [(6, .long (hp_j S101 b133 (4930 : Int32).toNatClampNeg)), (4, .long (hp_j S101 b127 (4930 : Int32).toNatClampNeg)), (0, .ref o0), (1, .int x1), (2, .int x2), (3, .int x3)]) dX10_widen_72 (by decide) rfl ?_
          refine tt_aload_n (j := 2) dX10_widen_74 rfl ?_
          obtain ⟨b136, hr137, ho138⟩ := gi_R (k := 645) hG h0 33 4940
          refine gt_gR (id := 645) dX10_widen_75 fl_10_20 rfl rfl h0 hA104 hr137 ?_
          refine tt_sipush (v := 4930) dX10_widen_78 rfl ?_
          refine gt_lLt dX10_widen_81 ho138 hA104 (rg_in (⟨by decide, by decide⟩ : Rg 4930 4930 4930)) ?_
          refine tt_lstore (ks := [0, 1, 2, 3, 4, 5, 6]) (L' := [(8, .long (hp_j S101 b136 (4930 : Int32).toNatClampNeg)), (6, .long (hp_j S101 b133 (4930 : Int32).toNatClampNeg)), (4, .long (hp_j S101 b127 (4930 : Int32).toNatClampNeg)), (0, .ref o0), (1, .int x1), (2, .int x2), (3, .int x3)]) dX10_widen_82 (by decide) rfl ?_
          refine tt_lload (j := 1) dX10_widen_84 rfl ?_
          refine tt_aload_n (j := 3) dX10_widen_86 rfl ?_
          refine gt_gR (id := 644) dX10_widen_87 fl_10_16 rfl rfl h0 hA104 hr134 ?_
          refine tt_iload_n (j := 5) dX10_widen_90 rfl ?_
          refine gt_lLt dX10_widen_91 ho135 hA104 (rg_in h2) ?_
          refine tt_lcmp dX10_widen_92 ?_
          have B139 : ∀ (y140 : Int64), TT xi M_X10_widen 116 [(0, .ref o0), (1, .int x1), (2, .int x2), (3, .int x3), (4, .long (hp_j S101 b127 (4930 : Int32).toNatClampNeg)), (6, .long (hp_j S101 b133 (4930 : Int32).toNatClampNeg)), (8, .long (hp_j S101 b136 (4930 : Int32).toNatClampNeg))] [.long y140] S101 kc nc P := by
            intro y140 
            refine tt_lstore (ks := [0, 1, 2, 3, 4, 5, 6, 7]) (L' := [(10, .long y140), (0, .ref o0), (1, .int x1), (2, .int x2), (3, .int x3), (4, .long (hp_j S101 b127 (4930 : Int32).toNatClampNeg)), (6, .long (hp_j S101 b133 (4930 : Int32).toNatClampNeg)), (8, .long (hp_j S101 b136 (4930 : Int32).toNatClampNeg))]) dX10_widen_116 (by decide) rfl ?_
            refine tt_lload (j := 7) dX10_widen_118 rfl ?_
            refine tt_aload_n (j := 1) dX10_widen_120 rfl ?_
            refine gt_gR (id := 645) dX10_widen_121 fl_10_20 rfl rfl h0 hA104 hr137 ?_
            refine tt_iload_n (j := 3) dX10_widen_124 rfl ?_
            refine gt_lLt dX10_widen_125 ho138 hA104 (rg_in h2) ?_
            refine tt_lcmp dX10_widen_126 ?_
            have B141 : ∀ (y142 : Int64), TT xi M_X10_widen 150 [(0, .ref o0), (1, .int x1), (2, .int x2), (3, .int x3), (4, .long (hp_j S101 b127 (4930 : Int32).toNatClampNeg)), (6, .long (hp_j S101 b133 (4930 : Int32).toNatClampNeg)), (8, .long (hp_j S101 b136 (4930 : Int32).toNatClampNeg)), (10, .long y140)] [.long y142] S101 kc nc P := by
              intro y142 
              refine tt_lstore (ks := [0, 1, 2, 3, 4, 5, 6, 7, 8]) (L' := [(12, .long y142), (0, .ref o0), (1, .int x1), (2, .int x2), (3, .int x3), (4, .long (hp_j S101 b127 (4930 : Int32).toNatClampNeg)), (6, .long (hp_j S101 b133 (4930 : Int32).toNatClampNeg)), (8, .long (hp_j S101 b136 (4930 : Int32).toNatClampNeg)), (10, .long y140)]) dX10_widen_150 (by decide) rfl ?_
              refine tt_aload_n (j := 1) dX10_widen_152 rfl ?_
              refine tt_sipush (v := 4930) dX10_widen_153 rfl ?_
              refine tt_iconst (v := 1) dX10_widen_156 rfl ?_
              refine tt_lload (j := 8) dX10_widen_157 rfl ?_
              refine tt_lload (j := 0) dX10_widen_159 rfl ?_
              refine tt_lload (j := 5) dX10_widen_161 rfl ?_
              refine gt_Vv (As := [.int 4930, .int 1, .long y140, .long y142, .long (hp_j S101 b127 (4930 : Int32).toNatClampNeg)]) dX10_widen_163 ca_X10_165 ⟨by decide, by decide⟩ h0 hA104 rfl (Nat.le_of_ble_eq_true rfl) (Nat.le_of_ble_eq_true rfl) (by decide) (cs_X10_make hG102 (oa_af h0 hA104) (rg_w (⟨by decide, by decide⟩ : Rg 4930 4930 4930)) (fun _ _ _ _ h => h)) rfl (fun _ h => nomatch h) (fun S143 hx147 hG144 hB145 hA146 => ?_)
              exact tt_loc (ks := [1, 2, 3, 4]) rfl (B110 S143 hG144 hA146)
            refine tt_if_le (tgt := 148) dX10_widen_127 rfl (fun q148 => ?_) (fun q148 => ?_)
            · skip
              refine tt_lload (j := 7) dX10_widen_148 rfl ?_
              exact tt_loc (ks := [1, 2, 3, 4, 5, 6, 7, 0]) rfl (B141 (hp_j S101 b136 (4930 : Int32).toNatClampNeg))
            · skip
              have h149 : Rl (-9223372036854775808) 9223372036854775806 (hp_j S101 b136 (x2 : Int32).toNatClampNeg) := rl_lt_l (rl_all (hp_j S101 b136 (x2 : Int32).toNatClampNeg)) (rl_all (hp_j S101 b136 (4930 : Int32).toNatClampNeg)) (lc_le_f q148)
              have h150 : Rl (-9223372036854775807) 9223372036854775807 (hp_j S101 b136 (4930 : Int32).toNatClampNeg) := rl_lt_r (rl_all (hp_j S101 b136 (x2 : Int32).toNatClampNeg)) (rl_all (hp_j S101 b136 (4930 : Int32).toNatClampNeg)) (lc_le_f q148)
              refine tt_lload (j := 7) dX10_widen_130 rfl ?_
              refine tt_ldc2 (v := 2305843009213693952) dX10_widen_132 kl_10_160 ?_
              refine tt_lload (j := 7) dX10_widen_135 rfl ?_
              refine tt_lsub dX10_widen_137 (gt_tl (fun y151 => ?_))
              refine tt_lload (j := 5) dX10_widen_138 rfl ?_
              refine tt_ldiv dX10_widen_140 (nz_pos (lc_le_f q130)) (gt_tl (fun y152 => ?_))
              refine tt_lload (j := 5) dX10_widen_141 rfl ?_
              refine tt_lmul dX10_widen_143 (gt_tl (fun y153 => ?_))
              refine tt_ladd dX10_widen_144 (gt_tl (fun y154 => ?_))
              refine tt_goto (tgt := 150) dX10_widen_145 rfl ?_
              exact tt_loc (ks := [1, 2, 3, 4, 5, 6, 7, 0]) rfl (B141 y154)
          refine tt_if_ge (tgt := 114) dX10_widen_93 rfl (fun q155 => ?_) (fun q155 => ?_)
          · skip
            refine tt_lload (j := 1) dX10_widen_114 rfl ?_
            exact tt_loc (ks := [3, 4, 5, 6, 2, 1, 0]) rfl (B139 (hp_j S101 b133 (4930 : Int32).toNatClampNeg))
          · skip
            have h156 : Rl (-9223372036854775808) 9223372036854775806 (hp_j S101 b133 (4930 : Int32).toNatClampNeg) := rl_lt_l (rl_all (hp_j S101 b133 (4930 : Int32).toNatClampNeg)) (rl_all (hp_j S101 b133 (x2 : Int32).toNatClampNeg)) (lc_ge_f q155)
            have h157 : Rl (-9223372036854775807) 9223372036854775807 (hp_j S101 b133 (x2 : Int32).toNatClampNeg) := rl_lt_r (rl_all (hp_j S101 b133 (4930 : Int32).toNatClampNeg)) (rl_all (hp_j S101 b133 (x2 : Int32).toNatClampNeg)) (lc_ge_f q155)
            refine tt_lload (j := 1) dX10_widen_96 rfl ?_
            refine tt_lload (j := 1) dX10_widen_98 rfl ?_
            refine tt_ldc2 (v := 2305843009213693952) dX10_widen_100 kl_10_160 ?_
            refine tt_ladd dX10_widen_103 (gt_tl (fun y158 => ?_))
            refine tt_lload (j := 2) dX10_widen_104 rfl ?_
            refine tt_ldiv dX10_widen_106 (nz_pos (lc_le_f q130)) (gt_tl (fun y159 => ?_))
            refine tt_lload (j := 2) dX10_widen_107 rfl ?_
            refine tt_lmul dX10_widen_109 (gt_tl (fun y160 => ?_))
            refine tt_lsub dX10_widen_110 (gt_tl (fun y161 => ?_))
            refine tt_goto (tgt := 116) dX10_widen_111 rfl ?_
            exact tt_loc (ks := [3, 4, 5, 6, 2, 1, 0]) rfl (B139 y161)
set_option maxHeartbeats 4000000 in
theorem cs_X10_cut {xi : SX} {S : Hp} {E : List Nat} {kc nc : Nat} {P : Po} {o0 : Nat} {x1 : Int32} {x2 : Int32} {x3 : Int32} {y4 : Int64} {x6 : Int32} {y7 : Int64} (hG : GI S E) (h0 : Oa S E 10 0 o0) (h1 : Rg 0 4939 x1) (h2 : Rg 0 4939 x2) (h3 : Rg 0 1 x3) (h6 : Rg 0 1 x6) (hP : ∀ r T x y, PV E [9989] S kc nc rV ex0 [] r T x y → P r T x y) : TT xi M_X10_cut 0 [(0, .ref o0), (1, .int x1), (2, .int x2), (3, .int x3), (4, .long y4), (6, .int x6), (7, .long y7)] [] S kc nc P := by
  have hA : Af E [9989] S S := af_rf
  refine tt_aload_n (j := 0) dX10_cut_0 rfl ?_
  obtain ⟨b101, hr102, ho103⟩ := gi_R (k := 643) hG h0 32 4940
  refine gt_gR (id := 643) dX10_cut_1 fl_10_13 rfl rfl h0 hA hr102 ?_
  refine tt_iload_n (j := 2) dX10_cut_4 rfl ?_
  refine gt_iL dX10_cut_5 ho103 hA (rg_in h2) (fun x104 => ?_)
  refine tt_iconst (v := 1) dX10_cut_6 rfl ?_
  refine tt_icmp_eq (tgt := 17) dX10_cut_7 rfl (fun q105 => ?_) (fun q105 => ?_)
  · skip
    have h106 : Rg 1 1 x104 := rg_eq_l (rg_all x104) (⟨by decide, by decide⟩ : Rg 1 1 1) q105
    refine tt_aload_n (j := 0) dX10_cut_17 rfl ?_
    obtain ⟨b107, hr108, ho109⟩ := gi_R (k := 644) hG h0 33 4940
    refine gt_gR (id := 644) dX10_cut_18 fl_10_16 rfl rfl h0 hA hr108 ?_
    refine tt_iload_n (j := 2) dX10_cut_21 rfl ?_
    refine gt_lLt dX10_cut_22 ho109 hA (rg_in h2) ?_
    refine tt_lstore (ks := [0, 1, 2, 3, 4, 5, 6, 7]) (L' := [(9, .long (hp_j S b107 (x2 : Int32).toNatClampNeg)), (0, .ref o0), (1, .int x1), (2, .int x2), (3, .int x3), (4, .long y4), (6, .int x6), (7, .long y7)]) dX10_cut_23 (by decide) rfl ?_
    refine tt_aload_n (j := 1) dX10_cut_25 rfl ?_
    obtain ⟨b110, hr111, ho112⟩ := gi_R (k := 645) hG h0 33 4940
    refine gt_gR (id := 645) dX10_cut_26 fl_10_20 rfl rfl h0 hA hr111 ?_
    refine tt_iload_n (j := 3) dX10_cut_29 rfl ?_
    refine gt_lLt dX10_cut_30 ho112 hA (rg_in h2) ?_
    refine tt_lstore (ks := [0, 1, 2, 3, 4, 5, 6, 7, 8]) (L' := [(11, .long (hp_j S b110 (x2 : Int32).toNatClampNeg)), (9, .long (hp_j S b107 (x2 : Int32).toNatClampNeg)), (0, .ref o0), (1, .int x1), (2, .int x2), (3, .int x3), (4, .long y4), (6, .int x6), (7, .long y7)]) dX10_cut_31 (by decide) rfl ?_
    refine tt_aload_n (j := 2) dX10_cut_33 rfl ?_
    obtain ⟨b113, hr114, ho115⟩ := gi_R (k := 646) hG h0 33 4940
    refine gt_gR (id := 646) dX10_cut_34 fl_10_23 rfl rfl h0 hA hr114 ?_
    refine tt_iload_n (j := 4) dX10_cut_37 rfl ?_
    refine gt_lLt dX10_cut_38 ho115 hA (rg_in h2) ?_
    refine tt_lstore (ks := [0, 1, 2, 3, 4, 5, 6, 7, 8, 9]) (L' := [(13, .long (hp_j S b113 (x2 : Int32).toNatClampNeg)), (11, .long (hp_j S b110 (x2 : Int32).toNatClampNeg)), (9, .long (hp_j S b107 (x2 : Int32).toNatClampNeg)), (0, .ref o0), (1, .int x1), (2, .int x2), (3, .int x3), (4, .long y4), (6, .int x6), (7, .long y7)]) dX10_cut_39 (by decide) rfl ?_
    refine tt_iload_n (j := 6) dX10_cut_41 rfl ?_
    have B116 : ∀ (y117 : Int64), TT xi M_X10_cut 102 [(0, .ref o0), (1, .int x1), (2, .int x2), (3, .int x3), (4, .long y4), (6, .int x6), (7, .long y7), (9, .long y117), (11, .long (hp_j S b110 (x2 : Int32).toNatClampNeg)), (13, .long (hp_j S b113 (x2 : Int32).toNatClampNeg))] [] S kc nc P := by
      intro y117 
      refine tt_iload (j := 5) dX10_cut_102 rfl ?_
      have B118 : ∀ (y119 : Int64), TT xi M_X10_cut 168 [(0, .ref o0), (1, .int x1), (2, .int x2), (3, .int x3), (4, .long y4), (6, .int x6), (7, .long y7), (9, .long y117), (11, .long y119), (13, .long (hp_j S b113 (x2 : Int32).toNatClampNeg))] [] S kc nc P := by
        intro y119 
        refine tt_lload (j := 7) dX10_cut_168 rfl ?_
        refine tt_lload (j := 8) dX10_cut_170 rfl ?_
        refine tt_lcmp dX10_cut_172 ?_
        have B120 : ∀ (S121 : Hp), GI S121 E → Af E [9989] S S121 → TT xi M_X10_cut 198 [(0, .ref o0), (1, .int x1), (2, .int x2), (3, .int x3), (4, .long y4), (6, .int x6), (7, .long y7), (9, .long y117), (11, .long y119), (13, .long (hp_j S b113 (x2 : Int32).toNatClampNeg))] [] S121 kc nc P := by
          intro S121 hG122 hA123
          exact tt_vreturn dX10_cut_198 rfl (hP _ _ _ _ ⟨hG122, hA123, Or.inl ⟨_, rfl, rfl, trivial, rfl, rfl⟩⟩)
        refine tt_if_le (tgt := 186) dX10_cut_173 rfl (fun q124 => ?_) (fun q124 => ?_)
        · skip
          refine tt_aload_n (j := 0) dX10_cut_186 rfl ?_
          refine tt_iload_n (j := 1) dX10_cut_187 rfl ?_
          refine tt_iconst (v := 1) dX10_cut_188 rfl ?_
          refine tt_lload (j := 7) dX10_cut_189 rfl ?_
          refine tt_lload (j := 8) dX10_cut_191 rfl ?_
          refine tt_lload (j := 9) dX10_cut_193 rfl ?_
          refine gt_Vv (As := [.int x1, .int 1, .long y117, .long y119, .long (hp_j S b113 (x2 : Int32).toNatClampNeg)]) dX10_cut_195 ca_X10_165 ⟨by decide, by decide⟩ h0 hA rfl (Nat.le_of_ble_eq_true rfl) (Nat.le_of_ble_eq_true rfl) (by decide) (cs_X10_make hG (oa_af h0 hA) (rg_w h1) (fun _ _ _ _ h => h)) rfl (fun _ h => nomatch h) (fun S125 hx129 hG126 hB127 hA128 => ?_)
          exact B120 S125 hG126 hA128
        · skip
          have h130 : Rl (-9223372036854775808) 9223372036854775806 y119 := rl_lt_l (rl_all y119) (rl_all y117) (lc_le_f q124)
          have h131 : Rl (-9223372036854775807) 9223372036854775807 y117 := rl_lt_r (rl_all y119) (rl_all y117) (lc_le_f q124)
          refine tt_aload_n (j := 0) dX10_cut_176 rfl ?_
          refine gt_gR (id := 643) dX10_cut_177 fl_10_13 rfl rfl h0 hA hr102 ?_
          refine tt_iload_n (j := 1) dX10_cut_180 rfl ?_
          refine tt_iconst (v := 0) dX10_cut_181 rfl ?_
          refine gt_iS dX10_cut_182 ho103 hA (Or.inl (by decide)) (rg_in h1) hG (by decide) (fun S132 hG133 hA134 e135 f136 er137 => ?_)
          refine tt_goto (tgt := 198) dX10_cut_183 rfl ?_
          exact B120 S132 hG133 hA134
      refine tt_if_eq (tgt := 168) dX10_cut_104 rfl (fun q138 => ?_) (fun q138 => ?_)
      · skip
        have h139 : Rg 0 0 x6 := rg_eq_l h6 (⟨by decide, by decide⟩ : Rg 0 0 0) q138
        exact B118 (hp_j S b110 (x2 : Int32).toNatClampNeg)
      · skip
        have h140 : Rg 1 1 x6 := rg_ne_lo h6 (⟨by decide, by decide⟩ : Rg 0 0 0) q138
        refine tt_lload (j := 6) dX10_cut_107 rfl ?_
        refine tt_lload (j := 8) dX10_cut_109 rfl ?_
        refine tt_lcmp dX10_cut_111 ?_
        refine tt_if_ge (tgt := 168) dX10_cut_112 rfl (fun q141 => ?_) (fun q141 => ?_)
        · skip
          exact B118 (hp_j S b110 (x2 : Int32).toNatClampNeg)
        · skip
          have h142 : Rl (-9223372036854775808) 9223372036854775806 y7 := rl_lt_l (rl_all y7) (rl_all (hp_j S b110 (x2 : Int32).toNatClampNeg)) (lc_ge_f q141)
          have h143 : Rl (-9223372036854775807) 9223372036854775807 (hp_j S b110 (x2 : Int32).toNatClampNeg) := rl_lt_r (rl_all y7) (rl_all (hp_j S b110 (x2 : Int32).toNatClampNeg)) (lc_ge_f q141)
          refine tt_lload (j := 6) dX10_cut_115 rfl ?_
          refine tt_aload_n (j := 0) dX10_cut_117 rfl ?_
          refine gt_gR (id := 644) dX10_cut_118 fl_10_16 rfl rfl h0 hA hr108 ?_
          refine tt_iload_n (j := 2) dX10_cut_121 rfl ?_
          refine gt_lLt dX10_cut_122 ho109 hA (rg_in h2) ?_
          refine tt_lcmp dX10_cut_123 ?_
          refine tt_if_ge (tgt := 135) dX10_cut_124 rfl (fun q144 => ?_) (fun q144 => ?_)
          · skip
            have h145 : Rl (-9223372036854775808) 9223372036854775806 (hp_j S b107 (x2 : Int32).toNatClampNeg) := rl_le_l (rl_all (hp_j S b107 (x2 : Int32).toNatClampNeg)) h142 (lc_ge_t q144)
            refine tt_lload (j := 9) dX10_cut_135 rfl ?_
            refine tt_lconst (v := 0) dX10_cut_137 rfl ?_
            refine tt_lcmp dX10_cut_138 ?_
            have B146 : ∀ (y147 : Int64), TT xi M_X10_cut 166 [(0, .ref o0), (1, .int x1), (2, .int x2), (3, .int x3), (4, .long y4), (6, .int x6), (7, .long y7), (9, .long y117), (11, .long (hp_j S b110 (x2 : Int32).toNatClampNeg)), (13, .long (hp_j S b113 (x2 : Int32).toNatClampNeg))] [.long y147] S kc nc P := by
              intro y147 
              refine tt_lstore (ks := [0, 1, 2, 3, 4, 5, 6, 7, 8, 9]) (L' := [(11, .long y147), (0, .ref o0), (1, .int x1), (2, .int x2), (3, .int x3), (4, .long y4), (6, .int x6), (7, .long y7), (9, .long y117), (13, .long (hp_j S b113 (x2 : Int32).toNatClampNeg))]) dX10_cut_166 (by decide) rfl ?_
              exact tt_loc (ks := [1, 2, 3, 4, 5, 6, 7, 8, 0, 9]) rfl (B118 y147)
            refine tt_if_ne (tgt := 147) dX10_cut_139 rfl (fun q148 => ?_) (fun q148 => ?_)
            · skip
              refine tt_lload (j := 8) dX10_cut_147 rfl ?_
              refine tt_lload (j := 8) dX10_cut_149 rfl ?_
              refine tt_lload (j := 6) dX10_cut_151 rfl ?_
              refine tt_lsub dX10_cut_153 (gt_tl (fun y149 => ?_))
              refine tt_lload (j := 9) dX10_cut_154 rfl ?_
              refine tt_ladd dX10_cut_156 (gt_tl (fun y150 => ?_))
              refine tt_lconst (v := 1) dX10_cut_157 rfl ?_
              refine tt_lsub dX10_cut_158 (gt_tl (fun y151 => ?_))
              refine tt_lload (j := 9) dX10_cut_159 rfl ?_
              refine tt_ldiv dX10_cut_161 (lc_ne_t q148) (gt_tl (fun y152 => ?_))
              refine tt_lload (j := 9) dX10_cut_162 rfl ?_
              refine tt_lmul dX10_cut_164 (gt_tl (fun y153 => ?_))
              refine tt_lsub dX10_cut_165 (gt_tl (fun y154 => ?_))
              exact B146 y154
            · skip
              have h155 : Rl 0 0 (hp_j S b113 (x2 : Int32).toNatClampNeg) := rl_eq_l (rl_all (hp_j S b113 (x2 : Int32).toNatClampNeg)) (⟨by decide, by decide⟩ : Rl 0 0 0) (lc_ne_f q148)
              refine tt_lload (j := 8) dX10_cut_142 rfl ?_
              refine tt_goto (tgt := 166) dX10_cut_144 rfl ?_
              exact B146 (hp_j S b110 (x2 : Int32).toNatClampNeg)
          · skip
            have h156 : Rl (-9223372036854775807) 9223372036854775807 (hp_j S b107 (x2 : Int32).toNatClampNeg) := rl_lt_r h142 (rl_all (hp_j S b107 (x2 : Int32).toNatClampNeg)) (lc_ge_f q144)
            refine tt_aload_n (j := 0) dX10_cut_127 rfl ?_
            refine gt_gR (id := 643) dX10_cut_128 fl_10_13 rfl rfl h0 hA hr102 ?_
            refine tt_iload_n (j := 1) dX10_cut_131 rfl ?_
            refine tt_iconst (v := 0) dX10_cut_132 rfl ?_
            refine gt_iS dX10_cut_133 ho103 hA (Or.inl (by decide)) (rg_in h1) hG (by decide) (fun S157 hG158 hA159 e160 f161 er162 => ?_)
            exact tt_vreturn dX10_cut_134 rfl (hP _ _ _ _ ⟨hG158, hA159, Or.inl ⟨_, rfl, rfl, trivial, rfl, rfl⟩⟩)
    refine tt_if_eq (tgt := 102) dX10_cut_42 rfl (fun q163 => ?_) (fun q163 => ?_)
    · skip
      have h164 : Rg 0 0 x3 := rg_eq_l h3 (⟨by decide, by decide⟩ : Rg 0 0 0) q163
      exact tt_loc (ks := [3, 4, 5, 6, 7, 8, 9, 2, 1, 0]) rfl (B116 (hp_j S b107 (x2 : Int32).toNatClampNeg))
    · skip
      have h165 : Rg 1 1 x3 := rg_ne_lo h3 (⟨by decide, by decide⟩ : Rg 0 0 0) q163
      refine tt_lload (j := 7) dX10_cut_45 rfl ?_
      refine tt_lload (j := 2) dX10_cut_47 rfl ?_
      refine tt_lcmp dX10_cut_49 ?_
      refine tt_if_le (tgt := 102) dX10_cut_50 rfl (fun q166 => ?_) (fun q166 => ?_)
      · skip
        exact tt_loc (ks := [3, 4, 5, 6, 7, 8, 9, 2, 1, 0]) rfl (B116 (hp_j S b107 (x2 : Int32).toNatClampNeg))
      · skip
        have h167 : Rl (-9223372036854775808) 9223372036854775806 (hp_j S b107 (x2 : Int32).toNatClampNeg) := rl_lt_l (rl_all (hp_j S b107 (x2 : Int32).toNatClampNeg)) (rl_all y4) (lc_le_f q166)
        have h168 : Rl (-9223372036854775807) 9223372036854775807 y4 := rl_lt_r (rl_all (hp_j S b107 (x2 : Int32).toNatClampNeg)) (rl_all y4) (lc_le_f q166)
        refine tt_lload (j := 7) dX10_cut_53 rfl ?_
        refine tt_lload (j := 1) dX10_cut_55 rfl ?_
        refine tt_lcmp dX10_cut_57 ?_
        refine tt_if_le (tgt := 69) dX10_cut_58 rfl (fun q169 => ?_) (fun q169 => ?_)
        · skip
          have h170 : Rl (-9223372036854775807) 9223372036854775807 (hp_j S b110 (x2 : Int32).toNatClampNeg) := rl_le_r h168 (rl_all (hp_j S b110 (x2 : Int32).toNatClampNeg)) (lc_le_t q169)
          refine tt_lload (j := 0) dX10_cut_69 rfl ?_
          refine tt_lconst (v := 0) dX10_cut_71 rfl ?_
          refine tt_lcmp dX10_cut_72 ?_
          have B171 : ∀ (y172 : Int64), TT xi M_X10_cut 100 [(0, .ref o0), (1, .int x1), (2, .int x2), (3, .int x3), (4, .long y4), (6, .int x6), (7, .long y7), (9, .long (hp_j S b107 (x2 : Int32).toNatClampNeg)), (11, .long (hp_j S b110 (x2 : Int32).toNatClampNeg)), (13, .long (hp_j S b113 (x2 : Int32).toNatClampNeg))] [.long y172] S kc nc P := by
            intro y172 
            refine tt_lstore (ks := [0, 1, 2, 3, 4, 5, 6, 7, 8, 9]) (L' := [(9, .long y172), (0, .ref o0), (1, .int x1), (2, .int x2), (3, .int x3), (4, .long y4), (6, .int x6), (7, .long y7), (11, .long (hp_j S b110 (x2 : Int32).toNatClampNeg)), (13, .long (hp_j S b113 (x2 : Int32).toNatClampNeg))]) dX10_cut_100 (by decide) rfl ?_
            exact tt_loc (ks := [1, 2, 3, 4, 5, 6, 7, 0, 8, 9]) rfl (B116 y172)
          refine tt_if_ne (tgt := 81) dX10_cut_73 rfl (fun q173 => ?_) (fun q173 => ?_)
          · skip
            refine tt_lload (j := 2) dX10_cut_81 rfl ?_
            refine tt_lload (j := 7) dX10_cut_83 rfl ?_
            refine tt_lload (j := 2) dX10_cut_85 rfl ?_
            refine tt_lsub dX10_cut_87 (gt_tl (fun y174 => ?_))
            refine tt_lload (j := 0) dX10_cut_88 rfl ?_
            refine tt_ladd dX10_cut_90 (gt_tl (fun y175 => ?_))
            refine tt_lconst (v := 1) dX10_cut_91 rfl ?_
            refine tt_lsub dX10_cut_92 (gt_tl (fun y176 => ?_))
            refine tt_lload (j := 0) dX10_cut_93 rfl ?_
            refine tt_ldiv dX10_cut_95 (lc_ne_t q173) (gt_tl (fun y177 => ?_))
            refine tt_lload (j := 0) dX10_cut_96 rfl ?_
            refine tt_lmul dX10_cut_98 (gt_tl (fun y178 => ?_))
            refine tt_ladd dX10_cut_99 (gt_tl (fun y179 => ?_))
            exact tt_loc (ks := [3, 4, 5, 6, 7, 8, 9, 2, 1, 0]) rfl (B171 y179)
          · skip
            have h180 : Rl 0 0 (hp_j S b113 (x2 : Int32).toNatClampNeg) := rl_eq_l (rl_all (hp_j S b113 (x2 : Int32).toNatClampNeg)) (⟨by decide, by decide⟩ : Rl 0 0 0) (lc_ne_f q173)
            refine tt_lload (j := 2) dX10_cut_76 rfl ?_
            refine tt_goto (tgt := 100) dX10_cut_78 rfl ?_
            exact tt_loc (ks := [3, 4, 5, 6, 7, 8, 9, 2, 1, 0]) rfl (B171 (hp_j S b107 (x2 : Int32).toNatClampNeg))
        · skip
          have h181 : Rl (-9223372036854775808) 9223372036854775806 (hp_j S b110 (x2 : Int32).toNatClampNeg) := rl_lt_l (rl_all (hp_j S b110 (x2 : Int32).toNatClampNeg)) h168 (lc_le_f q169)
          refine tt_aload_n (j := 3) dX10_cut_61 rfl ?_
          refine gt_gR (id := 643) dX10_cut_62 fl_10_13 rfl rfl h0 hA hr102 ?_
          refine tt_iload_n (j := 4) dX10_cut_65 rfl ?_
          refine tt_iconst (v := 0) dX10_cut_66 rfl ?_
          refine gt_iS dX10_cut_67 ho103 hA (Or.inl (by decide)) (rg_in h1) hG (by decide) (fun S182 hG183 hA184 e185 f186 er187 => ?_)
          exact tt_vreturn dX10_cut_68 rfl (hP _ _ _ _ ⟨hG183, hA184, Or.inl ⟨_, rfl, rfl, trivial, rfl, rfl⟩⟩)
  · skip
    refine tt_aload_n (j := 0) dX10_cut_10 rfl ?_
    refine tt_iload_n (j := 1) dX10_cut_11 rfl ?_
    refine tt_iload_n (j := 2) dX10_cut_12 rfl ?_
    refine gt_Vv (As := [.int x1, .int x2]) dX10_cut_13 ca_X10_169 ⟨by decide, by decide⟩ h0 hA rfl (Nat.le_of_ble_eq_true rfl) (Nat.le_of_ble_eq_true rfl) (by decide) (cs_X10_copy hG (oa_af h0 hA) (rg_w h1) (rg_w h2) (fun _ _ _ _ h => h)) rfl (fun _ h => nomatch h) (fun S188 hx192 hG189 hB190 hA191 => ?_)
    exact tt_vreturn dX10_cut_16 rfl (hP _ _ _ _ ⟨hG189, hA191, Or.inl ⟨_, rfl, rfl, trivial, rfl, rfl⟩⟩)
