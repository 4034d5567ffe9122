set_option maxHeartbeats 4000000 in
theorem cs_X10_add {xi : SX} {S : Hp} {E : List Nat} {kc nc : Nat} {P : Po} {o0 : Nat} {x1 : Int32} {x2 : Int32} {x3 : Int32} (hG : GI S E) (h0 : Oa S E 10 0 o0) (h1 : Rg 0 4939 x1) (h2 : Rg 0 4939 x2) (h3 : Rg 0 4939 x3) (hP : ∀ r T x y, PV E [9989] S kc nc rV ex0 [] r T x y → P r T x y) : TT xi M_X10_add 0 [(0, .ref o0), (1, .int x1), (2, .int x2), (3, .int x3)] [] S kc nc P := by
  have hA : Af E [9989] S S := af_rf
  refine tt_aload_n (j := 0) dX10_add_0 rfl ?_
  refine tt_iload_n (j := 1) dX10_add_1 rfl ?_
  refine tt_iload_n (j := 2) dX10_add_2 rfl ?_
  refine tt_iload_n (j := 3) dX10_add_3 rfl ?_
  refine gt_VI (As := [.int x1, .int x2, .int x3]) dX10_add_4 ca_X10_179 ⟨by decide, by decide⟩ h0 hA rfl (Nat.le_of_ble_eq_true rfl) (Nat.le_of_ble_eq_true rfl) (by decide) (cs_X10_isPlain hG (oa_af h0 hA) (rg_w h1) (rg_w h2) (rg_w h3) (fun _ _ _ _ h => h)) rfl (fun _ h => nomatch h) (fun S101 x106 h107 hx105 hG102 hB103 hA104 => ?_)
  have B108 : ∀ (S109 : Hp), GI S109 E → Af E [9989] S S109 → TT xi M_X10_add 57 [(0, .ref o0), (1, .int x1), (2, .int x2), (3, .int x3)] [] S109 kc nc P := by
    intro S109 hG110 hA111
    exact tt_vreturn dX10_add_57 rfl (hP _ _ _ _ ⟨hG110, hA111, Or.inl ⟨_, rfl, rfl, trivial, rfl, rfl⟩⟩)
  refine tt_if_ne (tgt := 57) dX10_add_7 rfl (fun q112 => ?_) (fun q112 => ?_)
  · skip
    have h113 : Rg 1 1 x106 := rg_ne_lo h107 (⟨by decide, by decide⟩ : Rg 0 0 0) q112
    exact B108 S101 hG102 hA104
  · skip
    have h114 : Rg 0 0 x106 := rg_eq_l h107 (⟨by decide, by decide⟩ : Rg 0 0 0) q112
    refine tt_aload_n (j := 0) dX10_add_10 rfl ?_
    refine tt_iload_n (j := 1) dX10_add_11 rfl ?_
    refine tt_iconst (v := 1) dX10_add_12 rfl ?_
    refine tt_aload_n (j := 0) dX10_add_13 rfl ?_
    obtain ⟨b115, hr116, ho117⟩ := gi_R (k := 644) hG h0 33 4940
    refine gt_gR (id := 644) dX10_add_14 fl_10_16 rfl rfl h0 hA104 hr116 ?_
    refine tt_iload_n (j := 2) dX10_add_17 rfl ?_
    refine gt_lLt dX10_add_18 ho117 hA104 (rg_in h2) ?_
    refine tt_aload_n (j := 0) dX10_add_19 rfl ?_
    refine gt_gR (id := 644) dX10_add_20 fl_10_16 rfl rfl h0 hA104 hr116 ?_
    refine tt_iload_n (j := 3) dX10_add_23 rfl ?_
    refine gt_lLt dX10_add_24 ho117 hA104 (rg_in h3) ?_
    refine tt_ladd dX10_add_25 (gt_tl (fun y118 => ?_))
    refine tt_aload_n (j := 0) dX10_add_26 rfl ?_
    obtain ⟨b119, hr120, ho121⟩ := gi_R (k := 645) hG h0 33 4940
    refine gt_gR (id := 645) dX10_add_27 fl_10_20 rfl rfl h0 hA104 hr120 ?_
    refine tt_iload_n (j := 2) dX10_add_30 rfl ?_
    refine gt_lLt dX10_add_31 ho121 hA104 (rg_in h2) ?_
    refine tt_aload_n (j := 0) dX10_add_32 rfl ?_
    refine gt_gR (id := 645) dX10_add_33 fl_10_20 rfl rfl h0 hA104 hr120 ?_
    refine tt_iload_n (j := 3) dX10_add_36 rfl ?_
    refine gt_lLt dX10_add_37 ho121 hA104 (rg_in h3) ?_
    refine tt_ladd dX10_add_38 (gt_tl (fun y122 => ?_))
    refine tt_aload_n (j := 0) dX10_add_39 rfl ?_
    obtain ⟨b123, hr124, ho125⟩ := gi_R (k := 646) hG h0 33 4940
    refine gt_gR (id := 646) dX10_add_40 fl_10_23 rfl rfl h0 hA104 hr124 ?_
    refine tt_iload_n (j := 2) dX10_add_43 rfl ?_
    refine gt_lLt dX10_add_44 ho125 hA104 (rg_in h2) ?_
    refine tt_aload_n (j := 0) dX10_add_45 rfl ?_
    refine gt_gR (id := 646) dX10_add_46 fl_10_23 rfl rfl h0 hA104 hr124 ?_
    refine tt_iload_n (j := 3) dX10_add_49 rfl ?_
    refine gt_lLt dX10_add_50 ho125 hA104 (rg_in h3) ?_
    refine gt_SJp (As := [.long (hp_j S101 b123 (x2 : Int32).toNatClampNeg), .long (hp_j S101 b123 (x3 : Int32).toNatClampNeg)]) dX10_add_51 ca_X10_172 ⟨by decide, by decide⟩ hA104 (Nat.le_of_ble_eq_true rfl) (Nat.le_of_ble_eq_true rfl) (by decide) (cs_X10_gcd hG102  (fun _ _ _ _ h => h)) rfl (fun _ h => nomatch h) (fun _ _ q => q.1) (fun y131 hx130 => ?_)
    refine gt_Vv (As := [.int x1, .int 1, .long y118, .long y122, .long y131]) dX10_add_54 ca_X10_165 ⟨by decide, by decide⟩ h0 hA104 rfl (Nat.le_of_ble_eq_true rfl) (Nat.le_of_ble_eq_true rfl) (by decide) (cs_X10_make hG102 (oa_af h0 hA104) (rg_w h1) (fun _ _ _ _ h => h)) rfl (fun _ h => nomatch h) (fun S133 hx137 hG134 hB135 hA136 => ?_)
    exact B108 S133 hG134 hA136
set_option maxHeartbeats 4000000 in
theorem cs_X10_negate {xi : SX} {S : Hp} {E : List Nat} {kc nc : Nat} {P : Po} {o0 : Nat} {x1 : Int32} {x2 : Int32} (hG : GI S E) (h0 : Oa S E 10 0 o0) (h1 : Rg 0 4939 x1) (h2 : Rg 0 4939 x2) (hP : ∀ r T x y, PV E [9989] S kc nc rV ex0 [] r T x y → P r T x y) : TT xi M_X10_negate 0 [(0, .ref o0), (1, .int x1), (2, .int x2)] [] S kc nc P := by
  have hA : Af E [9989] S S := af_rf
  refine tt_aload_n (j := 0) dX10_negate_0 rfl ?_
  obtain ⟨b101, hr102, ho103⟩ := gi_R (k := 643) hG h0 32 4940
  refine gt_gR (id := 643) dX10_negate_1 fl_10_13 rfl rfl h0 hA hr102 ?_
  refine tt_iload_n (j := 2) dX10_negate_4 rfl ?_
  refine gt_iL dX10_negate_5 ho103 hA (rg_in h2) (fun x104 => ?_)
  refine tt_iconst (v := 1) dX10_negate_6 rfl ?_
  have B105 : ∀ (S106 : Hp), GI S106 E → Af E [9989] S S106 → TT xi M_X10_negate 51 [(0, .ref o0), (1, .int x1), (2, .int x2)] [] S106 kc nc P := by
    intro S106 hG107 hA108
    exact tt_vreturn dX10_negate_51 rfl (hP _ _ _ _ ⟨hG107, hA108, Or.inl ⟨_, rfl, rfl, trivial, rfl, rfl⟩⟩)
  refine tt_icmp_ne (tgt := 39) dX10_negate_7 rfl (fun q109 => ?_) (fun q109 => ?_)
  · skip
    refine tt_aload_n (j := 0) dX10_negate_39 rfl ?_
    refine gt_gR (id := 643) dX10_negate_40 fl_10_13 rfl rfl h0 hA hr102 ?_
    refine tt_iload_n (j := 1) dX10_negate_43 rfl ?_
    refine tt_aload_n (j := 0) dX10_negate_44 rfl ?_
    refine gt_gR (id := 643) dX10_negate_45 fl_10_13 rfl rfl h0 hA hr102 ?_
    refine tt_iload_n (j := 2) dX10_negate_48 rfl ?_
    refine gt_iL dX10_negate_49 ho103 hA (rg_in h2) (fun x110 => ?_)
    refine gt_iS dX10_negate_50 ho103 hA (Or.inl (by decide)) (rg_in h1) hG (by decide) (fun S111 hG112 hA113 e114 f115 er116 => ?_)
    exact B105 S111 hG112 hA113
  · skip
    have h117 : Rg 1 1 x104 := rg_eq_l (rg_all x104) (⟨by decide, by decide⟩ : Rg 1 1 1) q109
    refine tt_aload_n (j := 0) dX10_negate_10 rfl ?_
    refine tt_iload_n (j := 1) dX10_negate_11 rfl ?_
    refine tt_iconst (v := 1) dX10_negate_12 rfl ?_
    refine tt_aload_n (j := 0) dX10_negate_13 rfl ?_
    obtain ⟨b118, hr119, ho120⟩ := gi_R (k := 645) hG h0 33 4940
    refine gt_gR (id := 645) dX10_negate_14 fl_10_20 rfl rfl h0 hA hr119 ?_
    refine tt_iload_n (j := 2) dX10_negate_17 rfl ?_
    refine gt_lLt dX10_negate_18 ho120 hA (rg_in h2) ?_
    refine tt_lneg dX10_negate_19 (gt_tl (fun y121 => ?_))
    refine tt_aload_n (j := 0) dX10_negate_20 rfl ?_
    obtain ⟨b122, hr123, ho124⟩ := gi_R (k := 644) hG h0 33 4940
    refine gt_gR (id := 644) dX10_negate_21 fl_10_16 rfl rfl h0 hA hr123 ?_
    refine tt_iload_n (j := 2) dX10_negate_24 rfl ?_
    refine gt_lLt dX10_negate_25 ho124 hA (rg_in h2) ?_
    refine tt_lneg dX10_negate_26 (gt_tl (fun y125 => ?_))
    refine tt_aload_n (j := 0) dX10_negate_27 rfl ?_
    obtain ⟨b126, hr127, ho128⟩ := gi_R (k := 646) hG h0 33 4940
    refine gt_gR (id := 646) dX10_negate_28 fl_10_23 rfl rfl h0 hA hr127 ?_
    refine tt_iload_n (j := 2) dX10_negate_31 rfl ?_
    refine gt_lLt dX10_negate_32 ho128 hA (rg_in h2) ?_
    refine gt_Vv (As := [.int x1, .int 1, .long y121, .long y125, .long (hp_j S b126 (x2 : Int32).toNatClampNeg)]) dX10_negate_33 ca_X10_165 ⟨by decide, by decide⟩ h0 hA rfl (Nat.le_of_ble_eq_true rfl) (Nat.le_of_ble_eq_true rfl) (by decide) (cs_X10_make hG (oa_af h0 hA) (rg_w h1) (fun _ _ _ _ h => h)) rfl (fun _ h => nomatch h) (fun S129 hx133 hG130 hB131 hA132 => ?_)
    refine tt_goto (tgt := 51) dX10_negate_36 rfl ?_
    exact B105 S129 hG130 hA132
set_option maxHeartbeats 4000000 in
theorem cs_X10_subtract {xi : SX} {S : Hp} {E : List Nat} {kc nc : Nat} {P : Po} {o0 : Nat} {x1 : Int32} {x2 : Int32} {x3 : Int32} (hG : GI S E) (h0 : Oa S E 10 0 o0) (h1 : Rg 0 4939 x1) (h2 : Rg 0 4939 x2) (h3 : Rg 0 4939 x3) (hP : ∀ r T x y, PV E [9989] S kc nc rV ex0 [] r T x y → P r T x y) : TT xi M_X10_subtract 0 [(0, .ref o0), (1, .int x1), (2, .int x2), (3, .int x3)] [] S kc nc P := by
  have hA : Af E [9989] S S := af_rf
  refine tt_aload_n (j := 0) dX10_subtract_0 rfl ?_
  refine tt_sipush (v := 4930) dX10_subtract_1 rfl ?_
  refine tt_iload_n (j := 3) dX10_subtract_4 rfl ?_
  refine gt_Vv (As := [.int 4930, .int x3]) dX10_subtract_5 ca_X10_183 ⟨by decide, by decide⟩ h0 hA rfl (Nat.le_of_ble_eq_true rfl) (Nat.le_of_ble_eq_true rfl) (by decide) (cs_X10_negate hG (oa_af h0 hA) (rg_w (⟨by decide, by decide⟩ : Rg 4930 4930 4930)) (rg_w h3) (fun _ _ _ _ h => h)) rfl (fun _ h => nomatch h) (fun S101 hx105 hG102 hB103 hA104 => ?_)
  refine tt_aload_n (j := 0) dX10_subtract_8 rfl ?_
  refine tt_iload_n (j := 1) dX10_subtract_9 rfl ?_
  refine tt_iload_n (j := 2) dX10_subtract_10 rfl ?_
  refine tt_sipush (v := 4930) dX10_subtract_11 rfl ?_
  refine gt_Vv (As := [.int x1, .int x2, .int 4930]) dX10_subtract_14 ca_X10_186 ⟨by decide, by decide⟩ h0 hA104 rfl (Nat.le_of_ble_eq_true rfl) (Nat.le_of_ble_eq_true rfl) (by decide) (cs_X10_add hG102 (oa_af h0 hA104) (rg_w h1) (rg_w h2) (rg_w (⟨by decide, by decide⟩ : Rg 4930 4930 4930)) (fun _ _ _ _ h => h)) rfl (fun _ h => nomatch h) (fun S106 hx110 hG107 hB108 hA109 => ?_)
  exact tt_vreturn dX10_subtract_17 rfl (hP _ _ _ _ ⟨hG107, hA109, Or.inl ⟨_, rfl, rfl, trivial, rfl, rfl⟩⟩)
set_option maxHeartbeats 4000000 in
theorem cs_X10_times {xi : SX} {S : Hp} {E : List Nat} {kc nc : Nat} {P : Po} {o0 : Nat} {x1 : Int32} {x2 : Int32} {x3 : Int32} (hG : GI S E) (h0 : Oa S E 10 0 o0) (h1 : Rg 0 4939 x1) (h2 : Rg 0 4939 x2) (h3 : Rg 0 4939 x3) (hP : ∀ r T x y, PV E [9989] S kc nc rV ex0 [] r T x y → P r T x y) : TT xi M_X10_times 0 [(0, .ref o0), (1, .int x1), (2, .int x2), (3, .int x3)] [] S kc nc P := by
  have hA : Af E [9989] S S := af_rf
  refine tt_aload_n (j := 0) dX10_times_0 rfl ?_
  obtain ⟨b101, hr102, ho103⟩ := gi_R (k := 643) hG h0 32 4940
  refine gt_gR (id := 643) dX10_times_1 fl_10_13 rfl rfl h0 hA hr102 ?_
  refine tt_iload_n (j := 2) dX10_times_4 rfl ?_
  refine gt_iL dX10_times_5 ho103 hA (rg_in h2) (fun x104 => ?_)
  have B105 : ∀ (S106 : Hp), GI S106 E → Af E [9989] S S106 → TT xi M_X10_times 349 [(0, .ref o0), (1, .int x1), (2, .int x2), (3, .int x3)] [] S106 kc nc P := by
    intro S106 hG107 hA108
    exact tt_vreturn dX10_times_349 rfl (hP _ _ _ _ ⟨hG107, hA108, Or.inl ⟨_, rfl, rfl, trivial, rfl, rfl⟩⟩)
  have B109 : TT xi M_X10_times 18 [(0, .ref o0), (1, .int x1), (2, .int x2), (3, .int x3)] [] S kc nc P := by
    refine tt_aload_n (j := 0) dX10_times_18 rfl ?_
    refine gt_gR (id := 643) dX10_times_19 fl_10_13 rfl rfl h0 hA hr102 ?_
    refine tt_iload_n (j := 1) dX10_times_22 rfl ?_
    refine tt_iconst (v := 0) dX10_times_23 rfl ?_
    refine gt_iS dX10_times_24 ho103 hA (Or.inl (by decide)) (rg_in h1) hG (by decide) (fun S110 hG111 hA112 e113 f114 er115 => ?_)
    refine tt_goto (tgt := 349) dX10_times_25 rfl ?_
    exact B105 S110 hG111 hA112
  refine tt_if_eq (tgt := 18) dX10_times_6 rfl (fun q116 => ?_) (fun q116 => ?_)
  · skip
    have h117 : Rg 0 0 x104 := rg_eq_l (rg_all x104) (⟨by decide, by decide⟩ : Rg 0 0 0) q116
    exact B109 
  · skip
    refine tt_aload_n (j := 0) dX10_times_9 rfl ?_
    refine gt_gR (id := 643) dX10_times_10 fl_10_13 rfl rfl h0 hA hr102 ?_
    refine tt_iload_n (j := 3) dX10_times_13 rfl ?_
    refine gt_iL dX10_times_14 ho103 hA (rg_in h3) (fun x118 => ?_)
    refine tt_if_ne (tgt := 28) dX10_times_15 rfl (fun q119 => ?_) (fun q119 => ?_)
    · skip
      refine tt_aload_n (j := 0) dX10_times_28 rfl ?_
      refine tt_iload_n (j := 2) dX10_times_29 rfl ?_
      refine tt_lconst (v := 0) dX10_times_30 rfl ?_
      refine gt_VIp (As := [.int x2, .long 0]) dX10_times_31 ca_X10_189 ⟨by decide, by decide⟩ h0 hA rfl (Nat.le_of_ble_eq_true rfl) (Nat.le_of_ble_eq_true rfl) (by decide) (cs_X10_isNumber hG (oa_af h0 hA) (rg_w h2) (fun _ _ _ _ h => h)) rfl (fun _ h => nomatch h) (fun _ _ q => q) (fun x125 h126 hx124 => ?_)
      have B127 : TT xi M_X10_times 46 [(0, .ref o0), (1, .int x1), (2, .int x2), (3, .int x3)] [] S kc nc P := by
        refine tt_aload_n (j := 0) dX10_times_46 rfl ?_
        refine tt_iload_n (j := 1) dX10_times_47 rfl ?_
        refine tt_lconst (v := 0) dX10_times_48 rfl ?_
        refine gt_Vv (As := [.int x1, .long 0]) dX10_times_49 ca_X10_193 ⟨by decide, by decide⟩ h0 hA rfl (Nat.le_of_ble_eq_true rfl) (Nat.le_of_ble_eq_true rfl) (by decide) (cs_X10_one hG (oa_af h0 hA) (rg_w h1) (fun _ _ _ _ h => h)) rfl (fun _ h => nomatch h) (fun S128 hx132 hG129 hB130 hA131 => ?_)
        refine tt_goto (tgt := 349) dX10_times_52 rfl ?_
        exact B105 S128 hG129 hA131
      refine tt_if_ne (tgt := 46) dX10_times_34 rfl (fun q133 => ?_) (fun q133 => ?_)
      · skip
        have h134 : Rg 1 1 x125 := rg_ne_lo h126 (⟨by decide, by decide⟩ : Rg 0 0 0) q133
        exact B127 
      · skip
        have h135 : Rg 0 0 x125 := rg_eq_l h126 (⟨by decide, by decide⟩ : Rg 0 0 0) q133
        refine tt_aload_n (j := 0) dX10_times_37 rfl ?_
        refine tt_iload_n (j := 3) dX10_times_38 rfl ?_
        refine tt_lconst (v := 0) dX10_times_39 rfl ?_
        refine gt_VIp (As := [.int x3, .long 0]) dX10_times_40 ca_X10_189 ⟨by decide, by decide⟩ h0 hA rfl (Nat.le_of_ble_eq_true rfl) (Nat.le_of_ble_eq_true rfl) (by decide) (cs_X10_isNumber hG (oa_af h0 hA) (rg_w h3) (fun _ _ _ _ h => h)) rfl (fun _ h => nomatch h) (fun _ _ q => q) (fun x141 h142 hx140 => ?_)
        refine tt_if_eq (tgt := 55) dX10_times_43 rfl (fun q143 => ?_) (fun q143 => ?_)
        · skip
          have h144 : Rg 0 0 x141 := rg_eq_l h142 (⟨by decide, by decide⟩ : Rg 0 0 0) q143
          refine tt_aload_n (j := 0) dX10_times_55 rfl ?_
          refine tt_iload_n (j := 1) dX10_times_56 rfl ?_
          refine tt_iload_n (j := 2) dX10_times_57 rfl ?_
          refine tt_iload_n (j := 3) dX10_times_58 rfl ?_
          refine gt_VI (As := [.int x1, .int x2, .int x3]) dX10_times_59 ca_X10_179 ⟨by decide, by decide⟩ h0 hA rfl (Nat.le_of_ble_eq_true rfl) (Nat.le_of_ble_eq_true rfl) (by decide) (cs_X10_isPlain hG (oa_af h0 hA) (rg_w h1) (rg_w h2) (rg_w h3) (fun _ _ _ _ h => h)) rfl (fun _ h => nomatch h) (fun S145 x150 h151 hx149 hG146 hB147 hA148 => ?_)
          refine tt_if_ne (tgt := 349) dX10_times_62 rfl (fun q152 => ?_) (fun q152 => ?_)
          · skip
            have h153 : Rg 1 1 x150 := rg_ne_lo h151 (⟨by decide, by decide⟩ : Rg 0 0 0) q152
            exact B105 S145 hG146 hA148
          · skip
            have h154 : Rg 0 0 x150 := rg_eq_l h151 (⟨by decide, by decide⟩ : Rg 0 0 0) q152
            refine tt_ldc2 (v := 1073741824) dX10_times_65 kl_10_197 ?_
            refine tt_lstore (ks := [0, 1, 2, 3, 4]) (L' := [(4, .long 1073741824), (0, .ref o0), (1, .int x1), (2, .int x2), (3, .int x3)]) dX10_times_68 (by decide) rfl ?_
            refine tt_aload_n (j := 1) dX10_times_70 rfl ?_
            obtain ⟨b155, hr156, ho157⟩ := gi_R (k := 644) hG h0 33 4940
            refine gt_gR (id := 644) dX10_times_71 fl_10_16 rfl rfl h0 hA148 hr156 ?_
            refine tt_iload_n (j := 3) dX10_times_74 rfl ?_
            refine gt_lLt dX10_times_75 ho157 hA148 (rg_in h2) ?_
            refine tt_lload (j := 0) dX10_times_76 rfl ?_
            refine tt_lneg dX10_times_78 (gt_tl (fun y158 => ?_))
            refine tt_lcmp dX10_times_79 ?_
            have B159 : TT xi M_X10_times 120 [(0, .ref o0), (1, .int x1), (2, .int x2), (3, .int x3), (4, .long 1073741824)] [] S145 kc nc P := by
              refine tt_aload_n (j := 0) dX10_times_120 rfl ?_
              refine gt_gR (id := 643) dX10_times_121 fl_10_13 rfl rfl h0 hA148 hr102 ?_
              refine tt_iload_n (j := 1) dX10_times_124 rfl ?_
              refine tt_iconst (v := 2) dX10_times_125 rfl ?_
              refine gt_iS dX10_times_126 ho103 hA148 (Or.inl (by decide)) (rg_in h1) hG146 (by decide) (fun S160 hG161 hA162 e163 f164 er165 => ?_)
              exact tt_vreturn dX10_times_127 rfl (hP _ _ _ _ ⟨hG161, hA162, Or.inl ⟨_, rfl, rfl, trivial, rfl, rfl⟩⟩)
            refine tt_if_lt (tgt := 120) dX10_times_80 rfl (fun q166 => ?_) (fun q166 => ?_)
            · skip
              have h167 : Rl (-9223372036854775808) 9223372036854775806 (hp_j S145 b155 (x2 : Int32).toNatClampNeg) := rl_lt_l (rl_all (hp_j S145 b155 (x2 : Int32).toNatClampNeg)) (rl_all y158) (lc_lt_t q166)
              have h168 : Rl (-9223372036854775807) 9223372036854775807 y158 := rl_lt_r (rl_all (hp_j S145 b155 (x2 : Int32).toNatClampNeg)) (rl_all y158) (lc_lt_t q166)
              exact tt_loc (ks := [1, 2, 3, 4, 0]) rfl (B159 )
            · skip
              refine tt_aload_n (j := 1) dX10_times_83 rfl ?_
              obtain ⟨b169, hr170, ho171⟩ := gi_R (k := 645) hG h0 33 4940
              refine gt_gR (id := 645) dX10_times_84 fl_10_20 rfl rfl h0 hA148 hr170 ?_
              refine tt_iload_n (j := 3) dX10_times_87 rfl ?_
              refine gt_lLt dX10_times_88 ho171 hA148 (rg_in h2) ?_
              refine tt_lload (j := 0) dX10_times_89 rfl ?_
              refine tt_lcmp dX10_times_91 ?_
              refine tt_if_gt (tgt := 120) dX10_times_92 rfl (fun q172 => ?_) (fun q172 => ?_)
              · skip
                have h173 : Rl 1073741825 9223372036854775807 (hp_j S145 b169 (x2 : Int32).toNatClampNeg) := rl_lt_r (⟨by decide, by decide⟩ : Rl 1073741824 1073741824 1073741824) (rl_all (hp_j S145 b169 (x2 : Int32).toNatClampNeg)) (lc_gt_t q172)
                exact tt_loc (ks := [1, 2, 3, 4, 0]) rfl (B159 )
              · skip
                have h174 : Rl (-9223372036854775808) 1073741824 (hp_j S145 b169 (x2 : Int32).toNatClampNeg) := rl_le_l (rl_all (hp_j S145 b169 (x2 : Int32).toNatClampNeg)) (⟨by decide, by decide⟩ : Rl 1073741824 1073741824 1073741824) (lc_gt_f q172)
                refine tt_aload_n (j := 1) dX10_times_95 rfl ?_
                refine gt_gR (id := 644) dX10_times_96 fl_10_16 rfl rfl h0 hA148 hr156 ?_
                refine tt_iload_n (j := 4) dX10_times_99 rfl ?_
                refine gt_lLt dX10_times_100 ho157 hA148 (rg_in h3) ?_
                refine tt_lload (j := 0) dX10_times_101 rfl ?_
                refine tt_lneg dX10_times_103 (gt_tl (fun y175 => ?_))
                refine tt_lcmp dX10_times_104 ?_
                refine tt_if_lt (tgt := 120) dX10_times_105 rfl (fun q176 => ?_) (fun q176 => ?_)
                · skip
                  have h177 : Rl (-9223372036854775808) 9223372036854775806 (hp_j S145 b155 (x3 : Int32).toNatClampNeg) := rl_lt_l (rl_all (hp_j S145 b155 (x3 : Int32).toNatClampNeg)) (rl_all y175) (lc_lt_t q176)
                  have h178 : Rl (-9223372036854775807) 9223372036854775807 y175 := rl_lt_r (rl_all (hp_j S145 b155 (x3 : Int32).toNatClampNeg)) (rl_all y175) (lc_lt_t q176)
                  exact tt_loc (ks := [1, 2, 3, 4, 0]) rfl (B159 )
                · skip
                  refine tt_aload_n (j := 1) dX10_times_108 rfl ?_
                  refine gt_gR (id := 645) dX10_times_109 fl_10_20 rfl rfl h0 hA148 hr170 ?_
                  refine tt_iload_n (j := 4) dX10_times_112 rfl ?_
                  refine gt_lLt dX10_times_113 ho171 hA148 (rg_in h3) ?_
                  refine tt_lload (j := 0) dX10_times_114 rfl ?_
                  refine tt_lcmp dX10_times_116 ?_
                  refine tt_if_le (tgt := 128) dX10_times_117 rfl (fun q179 => ?_) (fun q179 => ?_)
                  · skip
                    have h180 : Rl (-9223372036854775808) 1073741824 (hp_j S145 b169 (x3 : Int32).toNatClampNeg) := rl_le_l (rl_all (hp_j S145 b169 (x3 : Int32).toNatClampNeg)) (⟨by decide, by decide⟩ : Rl 1073741824 1073741824 1073741824) (lc_le_t q179)
                    refine tt_aload_n (j := 1) dX10_times_128 rfl ?_
                    refine gt_gR (id := 644) dX10_times_129 fl_10_16 rfl rfl h0 hA148 hr156 ?_
                    refine tt_iload_n (j := 3) dX10_times_132 rfl ?_
                    refine gt_lLt dX10_times_133 ho157 hA148 (rg_in h2) ?_
                    refine tt_aload_n (j := 1) dX10_times_134 rfl ?_
                    refine gt_gR (id := 644) dX10_times_135 fl_10_16 rfl rfl h0 hA148 hr156 ?_
                    refine tt_iload_n (j := 4) dX10_times_138 rfl ?_
                    refine gt_lLt dX10_times_139 ho157 hA148 (rg_in h3) ?_
                    refine tt_lmul dX10_times_140 (gt_tl (fun y181 => ?_))
                    refine tt_lstore (ks := [0, 1, 2, 3, 4, 5]) (L' := [(6, .long y181), (4, .long 1073741824), (0, .ref o0), (1, .int x1), (2, .int x2), (3, .int x3)]) dX10_times_141 (by decide) rfl ?_
                    refine tt_aload_n (j := 2) dX10_times_143 rfl ?_
                    refine gt_gR (id := 644) dX10_times_144 fl_10_16 rfl rfl h0 hA148 hr156 ?_
                    refine tt_iload_n (j := 4) dX10_times_147 rfl ?_
                    refine gt_lLt dX10_times_148 ho157 hA148 (rg_in h2) ?_
                    refine tt_aload_n (j := 2) dX10_times_149 rfl ?_
                    refine gt_gR (id := 645) dX10_times_150 fl_10_20 rfl rfl h0 hA148 hr170 ?_
                    refine tt_iload_n (j := 5) dX10_times_153 rfl ?_
                    refine gt_lLt dX10_times_154 ho171 hA148 (rg_in h3) ?_
                    refine tt_lmul dX10_times_155 (gt_tl (fun y182 => ?_))
                    refine tt_lstore (ks := [0, 1, 2, 3, 4, 5, 6]) (L' := [(8, .long y182), (6, .long y181), (4, .long 1073741824), (0, .ref o0), (1, .int x1), (2, .int x2), (3, .int x3)]) dX10_times_156 (by decide) rfl ?_
                    refine tt_aload_n (j := 3) dX10_times_158 rfl ?_
                    refine gt_gR (id := 645) dX10_times_159 fl_10_20 rfl rfl h0 hA148 hr170 ?_
                    refine tt_iload_n (j := 5) dX10_times_162 rfl ?_
                    refine gt_lLt dX10_times_163 ho171 hA148 (rg_in h2) ?_
                    refine tt_aload_n (j := 3) dX10_times_164 rfl ?_
                    refine gt_gR (id := 644) dX10_times_165 fl_10_16 rfl rfl h0 hA148 hr156 ?_
                    refine tt_iload_n (j := 6) dX10_times_168 rfl ?_
                    refine gt_lLt dX10_times_169 ho157 hA148 (rg_in h3) ?_
                    refine tt_lmul dX10_times_170 (gt_tl (fun y183 => ?_))
                    refine tt_lstore (ks := [0, 1, 2, 3, 4, 5, 6, 7]) (L' := [(10, .long y183), (8, .long y182), (6, .long y181), (4, .long 1073741824), (0, .ref o0), (1, .int x1), (2, .int x2), (3, .int x3)]) dX10_times_171 (by decide) rfl ?_
                    refine tt_aload_n (j := 4) dX10_times_173 rfl ?_
                    refine gt_gR (id := 645) dX10_times_174 fl_10_20 rfl rfl h0 hA148 hr170 ?_
                    refine tt_iload_n (j := 6) dX10_times_177 rfl ?_
                    refine gt_lLt dX10_times_178 ho171 hA148 (rg_in h2) ?_
                    refine tt_aload_n (j := 4) dX10_times_179 rfl ?_
                    refine gt_gR (id := 645) dX10_times_180 fl_10_20 rfl rfl h0 hA148 hr170 ?_
                    refine tt_iload_n (j := 7) dX10_times_183 rfl ?_
                    refine gt_lLt dX10_times_184 ho171 hA148 (rg_in h3) ?_
                    refine tt_lmul dX10_times_185 (gt_tl (fun y184 => ?_))
                    refine tt_lstore (ks := [0, 1, 2, 3, 4, 5, 6, 7, 8]) (L' := [(12, .long y184), (10, .long y183), (8, .long y182), (6, .long y181), (4, .long 1073741824), (0, .ref o0), (1, .int x1), (2, .int x2), (3, .int x3)]) dX10_times_186 (by decide) rfl ?_
                    refine tt_lload (j := 3) dX10_times_188 rfl ?_
                    refine tt_lload (j := 2) dX10_times_190 rfl ?_
                    refine tt_lcmp dX10_times_192 ?_
                    have B185 : ∀ (y186 : Int64), TT xi M_X10_times 203 [(0, .ref o0), (1, .int x1), (2, .int x2), (3, .int x3), (4, .long 1073741824), (6, .long y181), (8, .long y182), (10, .long y183), (12, .long y184)] [.long y186] S145 kc nc P := by
                      intro y186 
                      refine tt_lstore (ks := [0, 1, 2, 3, 4, 5, 6, 7, 8, 9]) (L' := [(14, .long y186), (0, .ref o0), (1, .int x1), (2, .int x2), (3, .int x3), (4, .long 1073741824), (6, .long y181), (8, .long y182), (10, .long y183), (12, .long y184)]) dX10_times_203 (by decide) rfl ?_
                      refine tt_lload (j := 8) dX10_times_205 rfl ?_
                      refine tt_lload (j := 0) dX10_times_207 rfl ?_
                      refine tt_lcmp dX10_times_209 ?_
                      have B187 : ∀ (y188 : Int64), TT xi M_X10_times 220 [(0, .ref o0), (1, .int x1), (2, .int x2), (3, .int x3), (4, .long 1073741824), (6, .long y181), (8, .long y182), (10, .long y183), (12, .long y184), (14, .long y186)] [.long y188] S145 kc nc P := by
                        intro y188 
                        refine tt_lstore (ks := [0, 1, 2, 3, 4, 5, 6, 7, 8, 9]) (L' := [(14, .long y188), (0, .ref o0), (1, .int x1), (2, .int x2), (3, .int x3), (4, .long 1073741824), (6, .long y181), (8, .long y182), (10, .long y183), (12, .long y184)]) dX10_times_220 (by decide) rfl ?_
                        refine tt_lload (j := 9) dX10_times_222 rfl ?_
                        refine tt_lload (j := 0) dX10_times_224 rfl ?_
                        refine tt_lcmp dX10_times_226 ?_
                        have B189 : ∀ (y190 : Int64), TT xi M_X10_times 237 [(0, .ref o0), (1, .int x1), (2, .int x2), (3, .int x3), (4, .long 1073741824), (6, .long y181), (8, .long y182), (10, .long y183), (12, .long y184), (14, .long y188)] [.long y190] S145 kc nc P := by
                          intro y190 
                          refine tt_lstore (ks := [0, 1, 2, 3, 4, 5, 6, 7, 8, 9]) (L' := [(14, .long y190), (0, .ref o0), (1, .int x1), (2, .int x2), (3, .int x3), (4, .long 1073741824), (6, .long y181), (8, .long y182), (10, .long y183), (12, .long y184)]) dX10_times_237 (by decide) rfl ?_
                          refine tt_lload (j := 6) dX10_times_239 rfl ?_
                          refine tt_lload (j := 7) dX10_times_241 rfl ?_
                          refine tt_lcmp dX10_times_243 ?_
                          have B191 : ∀ (y192 : Int64), TT xi M_X10_times 254 [(0, .ref o0), (1, .int x1), (2, .int x2), (3, .int x3), (4, .long 1073741824), (6, .long y181), (8, .long y182), (10, .long y183), (12, .long y184), (14, .long y190)] [.long y192] S145 kc nc P := by
                            intro y192 
                            refine tt_lstore (ks := [0, 1, 2, 3, 4, 5, 6, 7, 8, 9, 10]) (L' := [(16, .long y192), (0, .ref o0), (1, .int x1), (2, .int x2), (3, .int x3), (4, .long 1073741824), (6, .long y181), (8, .long y182), (10, .long y183), (12, .long y184), (14, .long y190)]) dX10_times_254 (by decide) rfl ?_
                            refine tt_lload (j := 8) dX10_times_256 rfl ?_
                            refine tt_lload (j := 0) dX10_times_258 rfl ?_
                            refine tt_lcmp dX10_times_260 ?_
                            have B193 : ∀ (y194 : Int64), TT xi M_X10_times 271 [(0, .ref o0), (1, .int x1), (2, .int x2), (3, .int x3), (4, .long 1073741824), (6, .long y181), (8, .long y182), (10, .long y183), (12, .long y184), (14, .long y190), (16, .long y192)] [.long y194] S145 kc nc P := by
                              intro y194 
                              refine tt_lstore (ks := [0, 1, 2, 3, 4, 5, 6, 7, 8, 9, 10]) (L' := [(16, .long y194), (0, .ref o0), (1, .int x1), (2, .int x2), (3, .int x3), (4, .long 1073741824), (6, .long y181), (8, .long y182), (10, .long y183), (12, .long y184), (14, .long y190)]) dX10_times_271 (by decide) rfl ?_
                              refine tt_lload (j := 9) dX10_times_273 rfl ?_
                              refine tt_lload (j := 0) dX10_times_275 rfl ?_
                              refine tt_lcmp dX10_times_277 ?_
                              have B195 : ∀ (y196 : Int64), TT xi M_X10_times 288 [(0, .ref o0), (1, .int x1), (2, .int x2), (3, .int x3), (4, .long 1073741824), (6, .long y181), (8, .long y182), (10, .long y183), (12, .long y184), (14, .long y190), (16, .long y194)] [.long y196] S145 kc nc P := by
                                intro y196 
                                refine tt_lstore (ks := [0, 1, 2, 3, 4, 5, 6, 7, 8, 9, 10]) (L' := [(16, .long y196), (0, .ref o0), (1, .int x1), (2, .int x2), (3, .int x3), (4, .long 1073741824), (6, .long y181), (8, .long y182), (10, .long y183), (12, .long y184), (14, .long y190)]) dX10_times_288 (by decide) rfl ?_
                                refine tt_aload_n (j := 1) dX10_times_290 rfl ?_
                                obtain ⟨b197, hr198, ho199⟩ := gi_R (k := 646) hG h0 33 4940
                                refine gt_gR (id := 646) dX10_times_291 fl_10_23 rfl rfl h0 hA148 hr198 ?_
                                refine tt_iload_n (j := 3) dX10_times_294 rfl ?_
                                refine gt_lLt dX10_times_295 ho199 hA148 (rg_in h2) ?_
                                refine tt_aload_n (j := 1) dX10_times_296 rfl ?_
                                refine gt_gR (id := 644) dX10_times_297 fl_10_16 rfl rfl h0 hA148 hr156 ?_
                                refine tt_iload_n (j := 4) dX10_times_300 rfl ?_
                                refine gt_lLt dX10_times_301 ho157 hA148 (rg_in h3) ?_
                                refine tt_lmul dX10_times_302 (gt_tl (fun y200 => ?_))
                                refine tt_aload_n (j := 1) dX10_times_303 rfl ?_
                                refine gt_gR (id := 646) dX10_times_304 fl_10_23 rfl rfl h0 hA148 hr198 ?_
                                refine tt_iload_n (j := 4) dX10_times_307 rfl ?_
                                refine gt_lLt dX10_times_308 ho199 hA148 (rg_in h3) ?_
                                refine tt_aload_n (j := 1) dX10_times_309 rfl ?_
                                refine gt_gR (id := 644) dX10_times_310 fl_10_16 rfl rfl h0 hA148 hr156 ?_
                                refine tt_iload_n (j := 3) dX10_times_313 rfl ?_
                                refine gt_lLt dX10_times_314 ho157 hA148 (rg_in h2) ?_
                                refine tt_lmul dX10_times_315 (gt_tl (fun y201 => ?_))
                                refine gt_SJp (As := [.long y200, .long y201]) dX10_times_316 ca_X10_172 ⟨by decide, by decide⟩ hA148 (Nat.le_of_ble_eq_true rfl) (Nat.le_of_ble_eq_true rfl) (by decide) (cs_X10_gcd hG146  (fun _ _ _ _ h => h)) rfl (fun _ h => nomatch h) (fun _ _ q => q.1) (fun y207 hx206 => ?_)
                                refine tt_aload_n (j := 1) dX10_times_319 rfl ?_
                                refine gt_gR (id := 646) dX10_times_320 fl_10_23 rfl rfl h0 hA148 hr198 ?_
                                refine tt_iload_n (j := 3) dX10_times_323 rfl ?_
                                refine gt_lLt dX10_times_324 ho199 hA148 (rg_in h2) ?_
                                refine tt_aload_n (j := 1) dX10_times_325 rfl ?_
                                refine gt_gR (id := 646) dX10_times_326 fl_10_23 rfl rfl h0 hA148 hr198 ?_
                                refine tt_iload_n (j := 4) dX10_times_329 rfl ?_
                                refine gt_lLt dX10_times_330 ho199 hA148 (rg_in h3) ?_
                                refine tt_lmul dX10_times_331 (gt_tl (fun y209 => ?_))
                                refine gt_SJp (As := [.long y207, .long y209]) dX10_times_332 ca_X10_172 ⟨by decide, by decide⟩ hA148 (Nat.le_of_ble_eq_true rfl) (Nat.le_of_ble_eq_true rfl) (by decide) (cs_X10_gcd hG146  (fun _ _ _ _ h => h)) rfl (fun _ h => nomatch h) (fun _ _ q => q.1) (fun y215 hx214 => ?_)
                                refine tt_lstore (ks := [0, 1, 2, 3, 4, 5, 6, 7, 8, 9, 10, 11]) (L' := [(18, .long y215), (16, .long y196), (0, .ref o0), (1, .int x1), (2, .int x2), (3, .int x3), (4, .long 1073741824), (6, .long y181), (8, .long y182), (10, .long y183), (12, .long y184), (14, .long y190)]) dX10_times_335 (by decide) rfl ?_
                                refine tt_aload_n (j := 2) dX10_times_337 rfl ?_
                                refine tt_iload_n (j := 3) dX10_times_338 rfl ?_
                                refine tt_iconst (v := 1) dX10_times_339 rfl ?_
                                refine tt_lload (j := 11) dX10_times_340 rfl ?_
                                refine tt_lload (j := 1) dX10_times_342 rfl ?_
                                refine tt_lload (j := 0) dX10_times_344 rfl ?_
                                refine gt_Vv (As := [.int x1, .int 1, .long y190, .long y196, .long y215]) dX10_times_346 ca_X10_165 ⟨by decide, by decide⟩ h0 hA148 rfl (Nat.le_of_ble_eq_true rfl) (Nat.le_of_ble_eq_true rfl) (by decide) (cs_X10_make hG146 (oa_af h0 hA148) (rg_w h1) (fun _ _ _ _ h => h)) rfl (fun _ h => nomatch h) (fun S217 hx221 hG218 hB219 hA220 => ?_)
                                exact tt_loc (ks := [2, 3, 4, 5]) rfl (B105 S217 hG218 hA220)
                              refine tt_if_le (tgt := 286) dX10_times_278 rfl (fun q222 => ?_) (fun q222 => ?_)
                              · skip
                                refine tt_lload (j := 0) dX10_times_286 rfl ?_
                                exact tt_loc (ks := [1, 2, 3, 4, 5, 6, 7, 8, 9, 10, 0]) rfl (B195 y194)
                              · skip
                                have h223 : Rl (-9223372036854775808) 9223372036854775806 y194 := rl_lt_l (rl_all y194) (rl_all y184) (lc_le_f q222)
                                have h224 : Rl (-9223372036854775807) 9223372036854775807 y184 := rl_lt_r (rl_all y194) (rl_all y184) (lc_le_f q222)
                                refine tt_lload (j := 9) dX10_times_281 rfl ?_
                                refine tt_goto (tgt := 288) dX10_times_283 rfl ?_
                                exact tt_loc (ks := [1, 2, 3, 4, 5, 6, 7, 8, 9, 10, 0]) rfl (B195 y184)
                            refine tt_if_le (tgt := 269) dX10_times_261 rfl (fun q225 => ?_) (fun q225 => ?_)
                            · skip
                              refine tt_lload (j := 0) dX10_times_269 rfl ?_
                              exact tt_loc (ks := [1, 2, 3, 4, 5, 6, 7, 8, 9, 10, 0]) rfl (B193 y192)
                            · skip
                              have h226 : Rl (-9223372036854775808) 9223372036854775806 y192 := rl_lt_l (rl_all y192) (rl_all y183) (lc_le_f q225)
                              have h227 : Rl (-9223372036854775807) 9223372036854775807 y183 := rl_lt_r (rl_all y192) (rl_all y183) (lc_le_f q225)
                              refine tt_lload (j := 8) dX10_times_264 rfl ?_
                              refine tt_goto (tgt := 271) dX10_times_266 rfl ?_
                              exact tt_loc (ks := [1, 2, 3, 4, 5, 6, 7, 8, 9, 10, 0]) rfl (B193 y183)
                          refine tt_if_le (tgt := 252) dX10_times_244 rfl (fun q228 => ?_) (fun q228 => ?_)
                          · skip
                            refine tt_lload (j := 7) dX10_times_252 rfl ?_
                            exact tt_loc (ks := [1, 2, 3, 4, 5, 6, 7, 8, 9, 0]) rfl (B191 y182)
                          · skip
                            have h229 : Rl (-9223372036854775808) 9223372036854775806 y182 := rl_lt_l (rl_all y182) (rl_all y181) (lc_le_f q228)
                            have h230 : Rl (-9223372036854775807) 9223372036854775807 y181 := rl_lt_r (rl_all y182) (rl_all y181) (lc_le_f q228)
                            refine tt_lload (j := 6) dX10_times_247 rfl ?_
                            refine tt_goto (tgt := 254) dX10_times_249 rfl ?_
                            exact tt_loc (ks := [1, 2, 3, 4, 5, 6, 7, 8, 9, 0]) rfl (B191 y181)
                        refine tt_if_ge (tgt := 235) dX10_times_227 rfl (fun q231 => ?_) (fun q231 => ?_)
                        · skip
                          refine tt_lload (j := 0) dX10_times_235 rfl ?_
                          exact tt_loc (ks := [1, 2, 3, 4, 5, 6, 7, 8, 9, 0]) rfl (B189 y188)
                        · skip
                          have h232 : Rl (-9223372036854775808) 9223372036854775806 y184 := rl_lt_l (rl_all y184) (rl_all y188) (lc_ge_f q231)
                          have h233 : Rl (-9223372036854775807) 9223372036854775807 y188 := rl_lt_r (rl_all y184) (rl_all y188) (lc_ge_f q231)
                          refine tt_lload (j := 9) dX10_times_230 rfl ?_
                          refine tt_goto (tgt := 237) dX10_times_232 rfl ?_
                          exact tt_loc (ks := [1, 2, 3, 4, 5, 6, 7, 8, 9, 0]) rfl (B189 y184)
                      refine tt_if_ge (tgt := 218) dX10_times_210 rfl (fun q234 => ?_) (fun q234 => ?_)
                      · skip
                        refine tt_lload (j := 0) dX10_times_218 rfl ?_
                        exact tt_loc (ks := [1, 2, 3, 4, 5, 6, 7, 8, 9, 0]) rfl (B187 y186)
                      · skip
                        have h235 : Rl (-9223372036854775808) 9223372036854775806 y183 := rl_lt_l (rl_all y183) (rl_all y186) (lc_ge_f q234)
                        have h236 : Rl (-9223372036854775807) 9223372036854775807 y186 := rl_lt_r (rl_all y183) (rl_all y186) (lc_ge_f q234)
                        refine tt_lload (j := 8) dX10_times_213 rfl ?_
                        refine tt_goto (tgt := 220) dX10_times_215 rfl ?_
                        exact tt_loc (ks := [1, 2, 3, 4, 5, 6, 7, 8, 9, 0]) rfl (B187 y183)
                    refine tt_if_ge (tgt := 201) dX10_times_193 rfl (fun q237 => ?_) (fun q237 => ?_)
                    · skip
                      refine tt_lload (j := 2) dX10_times_201 rfl ?_
                      exact tt_loc (ks := [5, 6, 7, 8, 4, 3, 2, 1, 0]) rfl (B185 y182)
                    · skip
                      have h238 : Rl (-9223372036854775808) 9223372036854775806 y181 := rl_lt_l (rl_all y181) (rl_all y182) (lc_ge_f q237)
                      have h239 : Rl (-9223372036854775807) 9223372036854775807 y182 := rl_lt_r (rl_all y181) (rl_all y182) (lc_ge_f q237)
                      refine tt_lload (j := 3) dX10_times_196 rfl ?_
                      refine tt_goto (tgt := 203) dX10_times_198 rfl ?_
                      exact tt_loc (ks := [5, 6, 7, 8, 4, 3, 2, 1, 0]) rfl (B185 y181)
                  · skip
                    have h240 : Rl 1073741825 9223372036854775807 (hp_j S145 b169 (x3 : Int32).toNatClampNeg) := rl_lt_r (⟨by decide, by decide⟩ : Rl 1073741824 1073741824 1073741824) (rl_all (hp_j S145 b169 (x3 : Int32).toNatClampNeg)) (lc_le_f q179)
                    exact tt_loc (ks := [1, 2, 3, 4, 0]) rfl (B159 )
        · skip
          have h241 : Rg 1 1 x141 := rg_ne_lo h142 (⟨by decide, by decide⟩ : Rg 0 0 0) q143
          exact B127 
    · skip
      have h242 : Rg 0 0 x118 := rg_eq_l (rg_all x118) (⟨by decide, by decide⟩ : Rg 0 0 0) q119
      exact B109 
set_option maxHeartbeats 4000000 in
theorem cs_X10_and {xi : SX} {S : Hp} {E : List Nat} {kc nc : Nat} {P : Po} {o0 : Nat} {x1 : Int32} {x2 : Int32} {x3 : Int32} (hG : GI S E) (h0 : Oa S E 10 0 o0) (h1 : Rg 0 4939 x1) (h2 : Rg 0 4939 x2) (h3 : Rg 0 4939 x3) (hP : ∀ r T x y, PV E [9989] S kc nc rV ex0 [] r T x y → P r T x y) : TT xi M_X10_and 0 [(0, .ref o0), (1, .int x1), (2, .int x2), (3, .int x3)] [] S kc nc P := by
  have hA : Af E [9989] S S := af_rf
  refine tt_aload_n (j := 0) dX10_and_0 rfl ?_
  obtain ⟨b101, hr102, ho103⟩ := gi_R (k := 643) hG h0 32 4940
  refine gt_gR (id := 643) dX10_and_1 fl_10_13 rfl rfl h0 hA hr102 ?_
  refine tt_iload_n (j := 2) dX10_and_4 rfl ?_
  refine gt_iL dX10_and_5 ho103 hA (rg_in h2) (fun x104 => ?_)
  have B105 : TT xi M_X10_and 18 [(0, .ref o0), (1, .int x1), (2, .int x2), (3, .int x3)] [] S kc nc P := by
    refine tt_aload_n (j := 0) dX10_and_18 rfl ?_
    refine gt_gR (id := 643) dX10_and_19 fl_10_13 rfl rfl h0 hA hr102 ?_
    refine tt_iload_n (j := 1) dX10_and_22 rfl ?_
    refine tt_iconst (v := 0) dX10_and_23 rfl ?_
    refine gt_iS dX10_and_24 ho103 hA (Or.inl (by decide)) (rg_in h1) hG (by decide) (fun S106 hG107 hA108 e109 f110 er111 => ?_)
    exact tt_vreturn dX10_and_25 rfl (hP _ _ _ _ ⟨hG107, hA108, Or.inl ⟨_, rfl, rfl, trivial, rfl, rfl⟩⟩)
  refine tt_if_eq (tgt := 18) dX10_and_6 rfl (fun q112 => ?_) (fun q112 => ?_)
  · skip
    have h113 : Rg 0 0 x104 := rg_eq_l (rg_all x104) (⟨by decide, by decide⟩ : Rg 0 0 0) q112
    exact B105 
  · skip
    refine tt_aload_n (j := 0) dX10_and_9 rfl ?_
    refine gt_gR (id := 643) dX10_and_10 fl_10_13 rfl rfl h0 hA hr102 ?_
    refine tt_iload_n (j := 3) dX10_and_13 rfl ?_
    refine gt_iL dX10_and_14 ho103 hA (rg_in h3) (fun x114 => ?_)
    refine tt_if_ne (tgt := 26) dX10_and_15 rfl (fun q115 => ?_) (fun q115 => ?_)
    · skip
      refine tt_aload_n (j := 0) dX10_and_26 rfl ?_
      refine tt_iload_n (j := 2) dX10_and_27 rfl ?_
      refine gt_VIp (As := [.int x2]) dX10_and_28 ca_X10_162 ⟨by decide, by decide⟩ h0 hA rfl (Nat.le_of_ble_eq_true rfl) (Nat.le_of_ble_eq_true rfl) (by decide) (cs_X10_isOne hG (oa_af h0 hA) (rg_w h2) (fun _ _ _ _ h => h)) rfl (fun _ h => nomatch h) (fun _ _ q => q) (fun x121 h122 hx120 => ?_)
      have B123 : TT xi M_X10_and 61 [(0, .ref o0), (1, .int x1), (2, .int x2), (3, .int x3)] [] S kc nc P := by
        refine tt_aload_n (j := 0) dX10_and_61 rfl ?_
        refine gt_gR (id := 643) dX10_and_62 fl_10_13 rfl rfl h0 hA hr102 ?_
        refine tt_iload_n (j := 2) dX10_and_65 rfl ?_
        refine gt_iL dX10_and_66 ho103 hA (rg_in h2) (fun x124 => ?_)
        refine tt_iconst (v := 1) dX10_and_67 rfl ?_
        have B125 : ∀ (x126 : Int32), Rg 0 1 x126 → TT xi M_X10_and 87 [(0, .ref o0), (1, .int x1), (2, .int x2), (3, .int x3)] [.int x126] S kc nc P := by
          intro x126 h127
          refine tt_istore (ks := [0, 1, 2, 3, 4]) (L' := [(4, .int x126), (0, .ref o0), (1, .int x1), (2, .int x2), (3, .int x3)]) dX10_and_87 (by decide) rfl ?_
          refine tt_aload_n (j := 1) dX10_and_89 rfl ?_
          refine gt_gR (id := 643) dX10_and_90 fl_10_13 rfl rfl h0 hA hr102 ?_
          refine tt_iload_n (j := 4) dX10_and_93 rfl ?_
          refine gt_iL dX10_and_94 ho103 hA (rg_in h3) (fun x128 => ?_)
          refine tt_iconst (v := 1) dX10_and_95 rfl ?_
          have B129 : ∀ (x130 : Int32), Rg 0 1 x130 → TT xi M_X10_and 115 [(0, .ref o0), (1, .int x1), (2, .int x2), (3, .int x3), (4, .int x126)] [.int x130] S kc nc P := by
            intro x130 h131
            refine tt_istore (ks := [0, 1, 2, 3, 4, 5]) (L' := [(5, .int x130), (0, .ref o0), (1, .int x1), (2, .int x2), (3, .int x3), (4, .int x126)]) dX10_and_115 (by decide) rfl ?_
            refine tt_iload (j := 5) dX10_and_117 rfl ?_
            have B132 : TT xi M_X10_and 135 [(0, .ref o0), (1, .int x1), (2, .int x2), (3, .int x3), (4, .int x126), (5, .int x130)] [] S kc nc P := by
              refine tt_iload (j := 4) dX10_and_135 rfl ?_
              have B133 : ∀ (y134 : Int64), TT xi M_X10_and 176 [(0, .ref o0), (1, .int x1), (2, .int x2), (3, .int x3), (4, .int x126), (5, .int x130)] [.long y134] S kc nc P := by
                intro y134 
                refine tt_lstore (ks := [0, 1, 2, 3, 4, 5, 6]) (L' := [(6, .long y134), (0, .ref o0), (1, .int x1), (2, .int x2), (3, .int x3), (4, .int x126), (5, .int x130)]) dX10_and_176 (by decide) rfl ?_
                refine tt_aload_n (j := 1) dX10_and_178 rfl ?_
                refine tt_iload_n (j := 2) dX10_and_179 rfl ?_
                refine tt_iconst (v := 1) dX10_and_180 rfl ?_
                refine tt_lconst (v := 0) dX10_and_181 rfl ?_
                refine tt_lload (j := 0) dX10_and_182 rfl ?_
                refine tt_aload_n (j := 1) dX10_and_184 rfl ?_
                refine tt_iload_n (j := 3) dX10_and_185 rfl ?_
                refine tt_lload (j := 0) dX10_and_186 rfl ?_
                refine gt_VIp (As := [.int x2, .long y134]) dX10_and_188 ca_X10_189 ⟨by decide, by decide⟩ h0 hA rfl (Nat.le_of_ble_eq_true rfl) (Nat.le_of_ble_eq_true rfl) (by decide) (cs_X10_isNumber hG (oa_af h0 hA) (rg_w h2) (fun _ _ _ _ h => h)) rfl (fun _ h => nomatch h) (fun _ _ q => q) (fun x140 h141 hx139 => ?_)
                have B142 : ∀ (y143 : Int64), TT xi M_X10_and 214 [(0, .ref o0), (1, .int x1), (2, .int x2), (3, .int x3), (4, .int x126), (5, .int x130), (6, .long y134)] [.long y143, .long y134, .long 0, .int 1, .int x1, .ref o0] S kc nc P := by
                  intro y143 
                  refine gt_Vv (As := [.int x1, .int 1, .long 0, .long y134, .long y143]) dX10_and_214 ca_X10_165 ⟨by decide, by decide⟩ h0 hA rfl (Nat.le_of_ble_eq_true rfl) (Nat.le_of_ble_eq_true rfl) (by decide) (cs_X10_make hG (oa_af h0 hA) (rg_w h1) (fun _ _ _ _ h => h)) rfl (fun _ h => nomatch h) (fun S144 hx148 hG145 hB146 hA147 => ?_)
                  exact tt_vreturn dX10_and_217 rfl (hP _ _ _ _ ⟨hG145, hA147, Or.inl ⟨_, rfl, rfl, trivial, rfl, rfl⟩⟩)
                have B149 : TT xi M_X10_and 204 [(0, .ref o0), (1, .int x1), (2, .int x2), (3, .int x3), (4, .int x126), (5, .int x130), (6, .long y134)] [.long y134, .long 0, .int 1, .int x1, .ref o0] S kc nc P := by
                  refine tt_lload (j := 6) dX10_and_204 rfl ?_
                  refine tt_lload (j := 6) dX10_and_206 rfl ?_
                  refine tt_lneg dX10_and_208 (gt_tl (fun y150 => ?_))
                  refine tt_land dX10_and_209 (gt_tl (fun y151 => ?_))
                  refine tt_goto (tgt := 214) dX10_and_210 rfl ?_
                  exact B142 y151
                refine tt_if_ne (tgt := 204) dX10_and_191 rfl (fun q152 => ?_) (fun q152 => ?_)
                · skip
                  have h153 : Rg 1 1 x140 := rg_ne_lo h141 (⟨by decide, by decide⟩ : Rg 0 0 0) q152
                  exact tt_loc (ks := [1, 2, 3, 4, 5, 6, 0]) rfl (B149 )
                · skip
                  have h154 : Rg 0 0 x140 := rg_eq_l h141 (⟨by decide, by decide⟩ : Rg 0 0 0) q152
                  refine tt_aload_n (j := 1) dX10_and_194 rfl ?_
                  refine tt_iload_n (j := 4) dX10_and_195 rfl ?_
                  refine tt_lload (j := 0) dX10_and_196 rfl ?_
                  refine gt_VIp (As := [.int x3, .long y134]) dX10_and_198 ca_X10_189 ⟨by decide, by decide⟩ h0 hA rfl (Nat.le_of_ble_eq_true rfl) (Nat.le_of_ble_eq_true rfl) (by decide) (cs_X10_isNumber hG (oa_af h0 hA) (rg_w h3) (fun _ _ _ _ h => h)) rfl (fun _ h => nomatch h) (fun _ _ q => q) (fun x160 h161 hx159 => ?_)
                  refine tt_if_eq (tgt := 213) dX10_and_201 rfl (fun q162 => ?_) (fun q162 => ?_)
                  · skip
                    have h163 : Rg 0 0 x160 := rg_eq_l h161 (⟨by decide, by decide⟩ : Rg 0 0 0) q162
                    refine tt_lconst (v := 1) dX10_and_213 rfl ?_
                    exact tt_loc (ks := [1, 2, 3, 4, 5, 6, 0]) rfl (B142 1)
                  · skip
                    have h164 : Rg 1 1 x160 := rg_ne_lo h161 (⟨by decide, by decide⟩ : Rg 0 0 0) q162
                    exact tt_loc (ks := [1, 2, 3, 4, 5, 6, 0]) rfl (B149 )
              have B165 : TT xi M_X10_and 170 [(0, .ref o0), (1, .int x1), (2, .int x2), (3, .int x3), (4, .int x126), (5, .int x130)] [] S kc nc P := by
                refine tt_aload_n (j := 0) dX10_and_170 rfl ?_
                obtain ⟨b166, hr167, ho168⟩ := gi_R (k := 645) hG h0 33 4940
                refine gt_gR (id := 645) dX10_and_171 fl_10_20 rfl rfl h0 hA hr167 ?_
                refine tt_iload_n (j := 3) dX10_and_174 rfl ?_
                refine gt_lLt dX10_and_175 ho168 hA (rg_in h3) ?_
                exact B133 (hp_j S b166 (x3 : Int32).toNatClampNeg)
              refine tt_if_eq (tgt := 170) dX10_and_137 rfl (fun q169 => ?_) (fun q169 => ?_)
              · skip
                have h170 : Rg 0 0 x126 := rg_eq_l h127 (⟨by decide, by decide⟩ : Rg 0 0 0) q169
                exact B165 
              · skip
                have h171 : Rg 1 1 x126 := rg_ne_lo h127 (⟨by decide, by decide⟩ : Rg 0 0 0) q169
                refine tt_iload (j := 5) dX10_and_140 rfl ?_
                have B172 : TT xi M_X10_and 161 [(0, .ref o0), (1, .int x1), (2, .int x2), (3, .int x3), (4, .int x126), (5, .int x130)] [] S kc nc P := by
                  refine tt_aload_n (j := 0) dX10_and_161 rfl ?_
                  obtain ⟨b173, hr174, ho175⟩ := gi_R (k := 645) hG h0 33 4940
                  refine gt_gR (id := 645) dX10_and_162 fl_10_20 rfl rfl h0 hA hr174 ?_
                  refine tt_iload_n (j := 2) dX10_and_165 rfl ?_
                  refine gt_lLt dX10_and_166 ho175 hA (rg_in h2) ?_
                  refine tt_goto (tgt := 176) dX10_and_167 rfl ?_
                  exact B133 (hp_j S b173 (x2 : Int32).toNatClampNeg)
                refine tt_if_eq (tgt := 161) dX10_and_142 rfl (fun q176 => ?_) (fun q176 => ?_)
                · skip
                  have h177 : Rg 0 0 x130 := rg_eq_l h131 (⟨by decide, by decide⟩ : Rg 0 0 0) q176
                  exact B172 
                · skip
                  have h178 : Rg 1 1 x130 := rg_ne_lo h131 (⟨by decide, by decide⟩ : Rg 0 0 0) q176
                  refine tt_aload_n (j := 0) dX10_and_145 rfl ?_
                  obtain ⟨b179, hr180, ho181⟩ := gi_R (k := 645) hG h0 33 4940
                  refine gt_gR (id := 645) dX10_and_146 fl_10_20 rfl rfl h0 hA hr180 ?_
                  refine tt_iload_n (j := 2) dX10_and_149 rfl ?_
                  refine gt_lLt dX10_and_150 ho181 hA (rg_in h2) ?_
                  refine tt_aload_n (j := 0) dX10_and_151 rfl ?_
                  refine gt_gR (id := 645) dX10_and_152 fl_10_20 rfl rfl h0 hA hr180 ?_
                  refine tt_iload_n (j := 3) dX10_and_155 rfl ?_
                  refine gt_lLt dX10_and_156 ho181 hA (rg_in h3) ?_
                  refine tt_lcmp dX10_and_157 ?_
                  refine tt_if_ge (tgt := 170) dX10_and_158 rfl (fun q182 => ?_) (fun q182 => ?_)
                  · skip
                    exact B165 
                  · skip
                    have h183 : Rl (-9223372036854775808) 9223372036854775806 (hp_j S b179 (x2 : Int32).toNatClampNeg) := rl_lt_l (rl_all (hp_j S b179 (x2 : Int32).toNatClampNeg)) (rl_all (hp_j S b179 (x3 : Int32).toNatClampNeg)) (lc_ge_f q182)
                    have h184 : Rl (-9223372036854775807) 9223372036854775807 (hp_j S b179 (x3 : Int32).toNatClampNeg) := rl_lt_r (rl_all (hp_j S b179 (x2 : Int32).toNatClampNeg)) (rl_all (hp_j S b179 (x3 : Int32).toNatClampNeg)) (lc_ge_f q182)
                    exact B172 
            refine tt_if_ne (tgt := 135) dX10_and_119 rfl (fun q185 => ?_) (fun q185 => ?_)
            · skip
              have h186 : Rg 1 1 x126 := rg_ne_lo h127 (⟨by decide, by decide⟩ : Rg 0 0 0) q185
              exact tt_loc (ks := [1, 2, 3, 4, 5, 0]) rfl (B132 )
            · skip
              have h187 : Rg 0 0 x126 := rg_eq_l h127 (⟨by decide, by decide⟩ : Rg 0 0 0) q185
              refine tt_iload (j := 0) dX10_and_122 rfl ?_
              refine tt_if_ne (tgt := 135) dX10_and_124 rfl (fun q188 => ?_) (fun q188 => ?_)
              · skip
                have h189 : Rg 1 1 x130 := rg_ne_lo h131 (⟨by decide, by decide⟩ : Rg 0 0 0) q188
                exact tt_loc (ks := [1, 2, 3, 4, 5, 0]) rfl (B132 )
              · skip
                have h190 : Rg 0 0 x130 := rg_eq_l h131 (⟨by decide, by decide⟩ : Rg 0 0 0) q188
                refine tt_aload_n (j := 1) dX10_and_127 rfl ?_
                refine gt_gR (id := 643) dX10_and_128 fl_10_13 rfl rfl h0 hA hr102 ?_
                refine tt_iload_n (j := 2) dX10_and_131 rfl ?_
                refine tt_iconst (v := 2) dX10_and_132 rfl ?_
                refine gt_iS dX10_and_133 ho103 hA (Or.inl (by decide)) (rg_in h1) hG (by decide) (fun S191 hG192 hA193 e194 f195 er196 => ?_)
                exact tt_vreturn dX10_and_134 rfl (hP _ _ _ _ ⟨hG192, hA193, Or.inl ⟨_, rfl, rfl, trivial, rfl, rfl⟩⟩)
          have B197 : TT xi M_X10_and 114 [(0, .ref o0), (1, .int x1), (2, .int x2), (3, .int x3), (4, .int x126)] [] S kc nc P := by
            refine tt_iconst (v := 0) dX10_and_114 rfl ?_
            exact B129 0 (rg_w (⟨by decide, by decide⟩ : Rg 0 0 0))
          refine tt_icmp_ne (tgt := 114) dX10_and_96 rfl (fun q198 => ?_) (fun q198 => ?_)
          · skip
            exact tt_loc (ks := [1, 2, 3, 4, 0]) rfl (B197 )
          · skip
            have h199 : Rg 1 1 x128 := rg_eq_l (rg_all x128) (⟨by decide, by decide⟩ : Rg 1 1 1) q198
            refine tt_aload_n (j := 1) dX10_and_99 rfl ?_
            obtain ⟨b200, hr201, ho202⟩ := gi_R (k := 644) hG h0 33 4940
            refine gt_gR (id := 644) dX10_and_100 fl_10_16 rfl rfl h0 hA hr201 ?_
            refine tt_iload_n (j := 4) dX10_and_103 rfl ?_
            refine gt_lLt dX10_and_104 ho202 hA (rg_in h3) ?_
            refine tt_lconst (v := 0) dX10_and_105 rfl ?_
            refine tt_lcmp dX10_and_106 ?_
            refine tt_if_lt (tgt := 114) dX10_and_107 rfl (fun q203 => ?_) (fun q203 => ?_)
            · skip
              have h204 : Rl (-9223372036854775808) (-1) (hp_j S b200 (x3 : Int32).toNatClampNeg) := rl_lt_l (rl_all (hp_j S b200 (x3 : Int32).toNatClampNeg)) (⟨by decide, by decide⟩ : Rl 0 0 0) (lc_lt_t q203)
              exact tt_loc (ks := [1, 2, 3, 4, 0]) rfl (B197 )
            · skip
              have h205 : Rl 0 9223372036854775807 (hp_j S b200 (x3 : Int32).toNatClampNeg) := rl_le_r (⟨by decide, by decide⟩ : Rl 0 0 0) (rl_all (hp_j S b200 (x3 : Int32).toNatClampNeg)) (lc_lt_f q203)
              refine tt_iconst (v := 1) dX10_and_110 rfl ?_
              refine tt_goto (tgt := 115) dX10_and_111 rfl ?_
              exact tt_loc (ks := [1, 2, 3, 4, 0]) rfl (B129 1 (rg_w (⟨by decide, by decide⟩ : Rg 1 1 1)))
        have B206 : TT xi M_X10_and 86 [(0, .ref o0), (1, .int x1), (2, .int x2), (3, .int x3)] [] S kc nc P := by
          refine tt_iconst (v := 0) dX10_and_86 rfl ?_
          exact B125 0 (rg_w (⟨by decide, by decide⟩ : Rg 0 0 0))
        refine tt_icmp_ne (tgt := 86) dX10_and_68 rfl (fun q207 => ?_) (fun q207 => ?_)
        · skip
          exact B206 
        · skip
          have h208 : Rg 1 1 x124 := rg_eq_l (rg_all x124) (⟨by decide, by decide⟩ : Rg 1 1 1) q207
          refine tt_aload_n (j := 0) dX10_and_71 rfl ?_
          obtain ⟨b209, hr210, ho211⟩ := gi_R (k := 644) hG h0 33 4940
          refine gt_gR (id := 644) dX10_and_72 fl_10_16 rfl rfl h0 hA hr210 ?_
          refine tt_iload_n (j := 2) dX10_and_75 rfl ?_
          refine gt_lLt dX10_and_76 ho211 hA (rg_in h2) ?_
          refine tt_lconst (v := 0) dX10_and_77 rfl ?_
          refine tt_lcmp dX10_and_78 ?_
          refine tt_if_lt (tgt := 86) dX10_and_79 rfl (fun q212 => ?_) (fun q212 => ?_)
          · skip
            have h213 : Rl (-9223372036854775808) (-1) (hp_j S b209 (x2 : Int32).toNatClampNeg) := rl_lt_l (rl_all (hp_j S b209 (x2 : Int32).toNatClampNeg)) (⟨by decide, by decide⟩ : Rl 0 0 0) (lc_lt_t q212)
            exact B206 
          · skip
            have h214 : Rl 0 9223372036854775807 (hp_j S b209 (x2 : Int32).toNatClampNeg) := rl_le_r (⟨by decide, by decide⟩ : Rl 0 0 0) (rl_all (hp_j S b209 (x2 : Int32).toNatClampNeg)) (lc_lt_f q212)
            refine tt_iconst (v := 1) dX10_and_82 rfl ?_
            refine tt_goto (tgt := 87) dX10_and_83 rfl ?_
            exact B125 1 (rg_w (⟨by decide, by decide⟩ : Rg 1 1 1))
      refine tt_if_eq (tgt := 61) dX10_and_31 rfl (fun q215 => ?_) (fun q215 => ?_)
      · skip
        have h216 : Rg 0 0 x121 := rg_eq_l h122 (⟨by decide, by decide⟩ : Rg 0 0 0) q215
        exact B123 
      · skip
        have h217 : Rg 1 1 x121 := rg_ne_lo h122 (⟨by decide, by decide⟩ : Rg 0 0 0) q215
        refine tt_aload_n (j := 0) dX10_and_34 rfl ?_
        refine tt_iload_n (j := 3) dX10_and_35 rfl ?_
        refine gt_VIp (As := [.int x3]) dX10_and_36 ca_X10_162 ⟨by decide, by decide⟩ h0 hA rfl (Nat.le_of_ble_eq_true rfl) (Nat.le_of_ble_eq_true rfl) (by decide) (cs_X10_isOne hG (oa_af h0 hA) (rg_w h3) (fun _ _ _ _ h => h)) rfl (fun _ h => nomatch h) (fun _ _ q => q) (fun x223 h224 hx222 => ?_)
        refine tt_if_eq (tgt := 61) dX10_and_39 rfl (fun q225 => ?_) (fun q225 => ?_)
        · skip
          have h226 : Rg 0 0 x223 := rg_eq_l h224 (⟨by decide, by decide⟩ : Rg 0 0 0) q225
          exact B123 
        · skip
          have h227 : Rg 1 1 x223 := rg_ne_lo h224 (⟨by decide, by decide⟩ : Rg 0 0 0) q225
          refine tt_aload_n (j := 0) dX10_and_42 rfl ?_
          refine tt_iload_n (j := 1) dX10_and_43 rfl ?_
          refine tt_aload_n (j := 0) dX10_and_44 rfl ?_
          obtain ⟨b228, hr229, ho230⟩ := gi_R (k := 644) hG h0 33 4940
          refine gt_gR (id := 644) dX10_and_45 fl_10_16 rfl rfl h0 hA hr229 ?_
          refine tt_iload_n (j := 2) dX10_and_48 rfl ?_
          refine gt_lLt dX10_and_49 ho230 hA (rg_in h2) ?_
          refine tt_aload_n (j := 0) dX10_and_50 rfl ?_
          refine gt_gR (id := 644) dX10_and_51 fl_10_16 rfl rfl h0 hA hr229 ?_
          refine tt_iload_n (j := 3) dX10_and_54 rfl ?_
          refine gt_lLt dX10_and_55 ho230 hA (rg_in h3) ?_
          refine tt_land dX10_and_56 (gt_tl (fun y231 => ?_))
          refine gt_Vv (As := [.int x1, .long y231]) dX10_and_57 ca_X10_193 ⟨by decide, by decide⟩ h0 hA rfl (Nat.le_of_ble_eq_true rfl) (Nat.le_of_ble_eq_true rfl) (by decide) (cs_X10_one hG (oa_af h0 hA) (rg_w h1) (fun _ _ _ _ h => h)) rfl (fun _ h => nomatch h) (fun S232 hx236 hG233 hB234 hA235 => ?_)
          exact tt_vreturn dX10_and_60 rfl (hP _ _ _ _ ⟨hG233, hA235, Or.inl ⟨_, rfl, rfl, trivial, rfl, rfl⟩⟩)
    · skip
      have h237 : Rg 0 0 x114 := rg_eq_l (rg_all x114) (⟨by decide, by decide⟩ : Rg 0 0 0) q115
      exact B105 
set_option maxHeartbeats 4000000 in
theorem cs_X10_or {xi : SX} {S : Hp} {E : List Nat} {kc nc : Nat} {P : Po} {o0 : Nat} {x1 : Int32} {x2 : Int32} {x3 : Int32} {x4 : Int32} (hG : GI S E) (h0 : Oa S E 10 0 o0) (h1 : Rg 0 4939 x1) (h2 : Rg 0 4939 x2) (h3 : Rg 0 4939 x3) (h4 : Rg 0 1 x4) (hP : ∀ r T x y, PV E [9989] S kc nc rV ex0 [] r T x y → P r T x y) : TT xi M_X10_or 0 [(0, .ref o0), (1, .int x1), (2, .int x2), (3, .int x3), (4, .int x4)] [] S kc nc P := by
  have hA : Af E [9989] S S := af_rf
  refine tt_aload_n (j := 0) dX10_or_0 rfl ?_
  obtain ⟨b101, hr102, ho103⟩ := gi_R (k := 643) hG h0 32 4940
  refine gt_gR (id := 643) dX10_or_1 fl_10_13 rfl rfl h0 hA hr102 ?_
  refine tt_iload_n (j := 2) dX10_or_4 rfl ?_
  refine gt_iL dX10_or_5 ho103 hA (rg_in h2) (fun x104 => ?_)
  have B105 : TT xi M_X10_or 18 [(0, .ref o0), (1, .int x1), (2, .int x2), (3, .int x3), (4, .int x4)] [] S kc nc P := by
    refine tt_aload_n (j := 0) dX10_or_18 rfl ?_
    refine gt_gR (id := 643) dX10_or_19 fl_10_13 rfl rfl h0 hA hr102 ?_
    refine tt_iload_n (j := 1) dX10_or_22 rfl ?_
    refine tt_iconst (v := 0) dX10_or_23 rfl ?_
    refine gt_iS dX10_or_24 ho103 hA (Or.inl (by decide)) (rg_in h1) hG (by decide) (fun S106 hG107 hA108 e109 f110 er111 => ?_)
    exact tt_vreturn dX10_or_25 rfl (hP _ _ _ _ ⟨hG107, hA108, Or.inl ⟨_, rfl, rfl, trivial, rfl, rfl⟩⟩)
  refine tt_if_eq (tgt := 18) dX10_or_6 rfl (fun q112 => ?_) (fun q112 => ?_)
  · skip
    have h113 : Rg 0 0 x104 := rg_eq_l (rg_all x104) (⟨by decide, by decide⟩ : Rg 0 0 0) q112
    exact B105 
  · skip
    refine tt_aload_n (j := 0) dX10_or_9 rfl ?_
    refine gt_gR (id := 643) dX10_or_10 fl_10_13 rfl rfl h0 hA hr102 ?_
    refine tt_iload_n (j := 3) dX10_or_13 rfl ?_
    refine gt_iL dX10_or_14 ho103 hA (rg_in h3) (fun x114 => ?_)
    refine tt_if_ne (tgt := 26) dX10_or_15 rfl (fun q115 => ?_) (fun q115 => ?_)
    · skip
      refine tt_aload_n (j := 0) dX10_or_26 rfl ?_
      refine tt_iload_n (j := 2) dX10_or_27 rfl ?_
      refine gt_VIp (As := [.int x2]) dX10_or_28 ca_X10_162 ⟨by decide, by decide⟩ h0 hA rfl (Nat.le_of_ble_eq_true rfl) (Nat.le_of_ble_eq_true rfl) (by decide) (cs_X10_isOne hG (oa_af h0 hA) (rg_w h2) (fun _ _ _ _ h => h)) rfl (fun _ h => nomatch h) (fun _ _ q => q) (fun x121 h122 hx120 => ?_)
      have B123 : TT xi M_X10_or 82 [(0, .ref o0), (1, .int x1), (2, .int x2), (3, .int x3), (4, .int x4)] [] S kc nc P := by
        refine tt_aload_n (j := 0) dX10_or_82 rfl ?_
        refine gt_gR (id := 643) dX10_or_83 fl_10_13 rfl rfl h0 hA hr102 ?_
        refine tt_iload_n (j := 2) dX10_or_86 rfl ?_
        refine gt_iL dX10_or_87 ho103 hA (rg_in h2) (fun x124 => ?_)
        refine tt_iconst (v := 2) dX10_or_88 rfl ?_
        have B125 : TT xi M_X10_or 124 [(0, .ref o0), (1, .int x1), (2, .int x2), (3, .int x3), (4, .int x4)] [] S kc nc P := by
          refine tt_aload_n (j := 0) dX10_or_124 rfl ?_
          refine gt_gR (id := 643) dX10_or_125 fl_10_13 rfl rfl h0 hA hr102 ?_
          refine tt_iload_n (j := 1) dX10_or_128 rfl ?_
          refine tt_iconst (v := 2) dX10_or_129 rfl ?_
          refine gt_iS dX10_or_130 ho103 hA (Or.inl (by decide)) (rg_in h1) hG (by decide) (fun S126 hG127 hA128 e129 f130 er131 => ?_)
          exact tt_vreturn dX10_or_131 rfl (hP _ _ _ _ ⟨hG127, hA128, Or.inl ⟨_, rfl, rfl, trivial, rfl, rfl⟩⟩)
        refine tt_icmp_eq (tgt := 124) dX10_or_89 rfl (fun q132 => ?_) (fun q132 => ?_)
        · skip
          have h133 : Rg 2 2 x124 := rg_eq_l (rg_all x124) (⟨by decide, by decide⟩ : Rg 2 2 2) q132
          exact B125 
        · skip
          refine tt_aload_n (j := 0) dX10_or_92 rfl ?_
          refine gt_gR (id := 643) dX10_or_93 fl_10_13 rfl rfl h0 hA hr102 ?_
          refine tt_iload_n (j := 3) dX10_or_96 rfl ?_
          refine gt_iL dX10_or_97 ho103 hA (rg_in h3) (fun x134 => ?_)
          refine tt_iconst (v := 2) dX10_or_98 rfl ?_
          refine tt_icmp_eq (tgt := 124) dX10_or_99 rfl (fun q135 => ?_) (fun q135 => ?_)
          · skip
            have h136 : Rg 2 2 x134 := rg_eq_l (rg_all x134) (⟨by decide, by decide⟩ : Rg 2 2 2) q135
            exact B125 
          · skip
            refine tt_aload_n (j := 0) dX10_or_102 rfl ?_
            obtain ⟨b137, hr138, ho139⟩ := gi_R (k := 644) hG h0 33 4940
            refine gt_gR (id := 644) dX10_or_103 fl_10_16 rfl rfl h0 hA hr138 ?_
            refine tt_iload_n (j := 2) dX10_or_106 rfl ?_
            refine gt_lLt dX10_or_107 ho139 hA (rg_in h2) ?_
            refine tt_lconst (v := 0) dX10_or_108 rfl ?_
            refine tt_lcmp dX10_or_109 ?_
            refine tt_if_lt (tgt := 124) dX10_or_110 rfl (fun q140 => ?_) (fun q140 => ?_)
            · skip
              have h141 : Rl (-9223372036854775808) (-1) (hp_j S b137 (x2 : Int32).toNatClampNeg) := rl_lt_l (rl_all (hp_j S b137 (x2 : Int32).toNatClampNeg)) (⟨by decide, by decide⟩ : Rl 0 0 0) (lc_lt_t q140)
              exact B125 
            · skip
              have h142 : Rl 0 9223372036854775807 (hp_j S b137 (x2 : Int32).toNatClampNeg) := rl_le_r (⟨by decide, by decide⟩ : Rl 0 0 0) (rl_all (hp_j S b137 (x2 : Int32).toNatClampNeg)) (lc_lt_f q140)
              refine tt_aload_n (j := 0) dX10_or_113 rfl ?_
              refine gt_gR (id := 644) dX10_or_114 fl_10_16 rfl rfl h0 hA hr138 ?_
              refine tt_iload_n (j := 3) dX10_or_117 rfl ?_
              refine gt_lLt dX10_or_118 ho139 hA (rg_in h3) ?_
              refine tt_lconst (v := 0) dX10_or_119 rfl ?_
              refine tt_lcmp dX10_or_120 ?_
              refine tt_if_ge (tgt := 132) dX10_or_121 rfl (fun q143 => ?_) (fun q143 => ?_)
              · skip
                have h144 : Rl 0 9223372036854775807 (hp_j S b137 (x3 : Int32).toNatClampNeg) := rl_le_r (⟨by decide, by decide⟩ : Rl 0 0 0) (rl_all (hp_j S b137 (x3 : Int32).toNatClampNeg)) (lc_ge_t q143)
                refine tt_aload_n (j := 0) dX10_or_132 rfl ?_
                obtain ⟨b145, hr146, ho147⟩ := gi_R (k := 645) hG h0 33 4940
                refine gt_gR (id := 645) dX10_or_133 fl_10_20 rfl rfl h0 hA hr146 ?_
                refine tt_iload_n (j := 2) dX10_or_136 rfl ?_
                refine gt_lLt dX10_or_137 ho147 hA (rg_in h2) ?_
                refine tt_aload_n (j := 0) dX10_or_138 rfl ?_
                refine gt_gR (id := 645) dX10_or_139 fl_10_20 rfl rfl h0 hA hr146 ?_
                refine tt_iload_n (j := 3) dX10_or_142 rfl ?_
                refine gt_lLt dX10_or_143 ho147 hA (rg_in h3) ?_
                refine tt_lcmp dX10_or_144 ?_
                have B148 : ∀ (y149 : Int64), TT xi M_X10_or 163 [(0, .ref o0), (1, .int x1), (2, .int x2), (3, .int x3), (4, .int x4)] [.long y149] S kc nc P := by
                  intro y149 
                  refine tt_lstore (ks := [0, 1, 2, 3, 4, 5]) (L' := [(5, .long y149), (0, .ref o0), (1, .int x1), (2, .int x2), (3, .int x3), (4, .int x4)]) dX10_or_163 (by decide) rfl ?_
                  refine tt_lconst (v := 0) dX10_or_165 rfl ?_
                  refine tt_lstore (ks := [0, 1, 2, 3, 4, 5, 6]) (L' := [(7, .long 0), (5, .long y149), (0, .ref o0), (1, .int x1), (2, .int x2), (3, .int x3), (4, .int x4)]) dX10_or_166 (by decide) rfl ?_
                  have B150 : ∀ (tt : Nat) (y151 : Int64), OrInv tt y151 → TT xi M_X10_or 168 [(0, .ref o0), (1, .int x1), (2, .int x2), (3, .int x3), (4, .int x4), (5, .long y149), (7, .long y151)] [] S kc nc P := by
                    intro tt
                    induction tt using Nat.strongRecOn with
                    | ind tt ihB150 =>
                      intro y151 hmB150 
                      refine tt_lload (j := 6) dX10_or_168 rfl ?_
                      refine tt_lload (j := 5) dX10_or_170 rfl ?_
                      refine tt_lcmp dX10_or_172 ?_
                      refine tt_if_ge (tgt := 189) dX10_or_173 rfl (fun q152 => ?_) (fun q152 => ?_)
                      · skip
                        refine tt_aload_n (j := 0) dX10_or_189 rfl ?_
                        refine gt_gR (id := 644) dX10_or_190 fl_10_16 rfl rfl h0 hA hr138 ?_
                        refine tt_iload_n (j := 2) dX10_or_193 rfl ?_
                        refine gt_lLt dX10_or_194 ho139 hA (rg_in h2) ?_
                        refine tt_aload_n (j := 0) dX10_or_195 rfl ?_
                        refine gt_gR (id := 644) dX10_or_196 fl_10_16 rfl rfl h0 hA hr138 ?_
                        refine tt_iload_n (j := 3) dX10_or_199 rfl ?_
                        refine gt_lLt dX10_or_200 ho139 hA (rg_in h3) ?_
                        refine tt_lcmp dX10_or_201 ?_
                        have B153 : ∀ (y154 : Int64), Rl 0 9223372036854775807 y154 → TT xi M_X10_or 220 [(0, .ref o0), (1, .int x1), (2, .int x2), (3, .int x3), (4, .int x4), (5, .long y149), (7, .long y151)] [.long y154] S kc nc P := by
                          intro y154 h155
                          refine tt_lstore (ks := [0, 1, 2, 3, 4, 5, 6, 7]) (L' := [(9, .long y154), (0, .ref o0), (1, .int x1), (2, .int x2), (3, .int x3), (4, .int x4), (5, .long y149), (7, .long y151)]) dX10_or_220 (by decide) rfl ?_
                          refine tt_aload_n (j := 1) dX10_or_222 rfl ?_
                          refine tt_iload_n (j := 2) dX10_or_223 rfl ?_
                          refine tt_iconst (v := 1) dX10_or_224 rfl ?_
                          refine tt_iload (j := 5) dX10_or_225 rfl ?_
                          have B156 : ∀ (y157 : Int64), Rl 0 9223372036854775807 y157 → TT xi M_X10_or 236 [(0, .ref o0), (1, .int x1), (2, .int x2), (3, .int x3), (4, .int x4), (5, .long y149), (7, .long y151), (9, .long y154)] [.long y157, .int 1, .int x1, .ref o0] S kc nc P := by
                            intro y157 h158
                            refine tt_lload (j := 6) dX10_or_236 rfl ?_
                            refine tt_lconst (v := 1) dX10_or_238 rfl ?_
                            refine gt_Vv (As := [.int x1, .int 1, .long y157, .long y151, .long 1]) dX10_or_239 ca_X10_165 ⟨by decide, by decide⟩ h0 hA rfl (Nat.le_of_ble_eq_true rfl) (Nat.le_of_ble_eq_true rfl) (by decide) (cs_X10_make hG (oa_af h0 hA) (rg_w h1) (fun _ _ _ _ h => h)) rfl (fun _ h => nomatch h) (fun S159 hx163 hG160 hB161 hA162 => ?_)
                            exact tt_vreturn dX10_or_242 rfl (hP _ _ _ _ ⟨hG160, hA162, Or.inl ⟨_, rfl, rfl, trivial, rfl, rfl⟩⟩)
                          refine tt_if_eq (tgt := 234) dX10_or_227 rfl (fun q164 => ?_) (fun q164 => ?_)
                          · skip
                            have h165 : Rg 0 0 x4 := rg_eq_l h4 (⟨by decide, by decide⟩ : Rg 0 0 0) q164
                            refine tt_lload (j := 0) dX10_or_234 rfl ?_
                            exact tt_loc (ks := [1, 2, 3, 4, 5, 6, 7, 0]) rfl (B156 y154 h155)
                          · skip
                            have h166 : Rg 1 1 x4 := rg_ne_lo h4 (⟨by decide, by decide⟩ : Rg 0 0 0) q164
                            refine tt_lconst (v := 0) dX10_or_230 rfl ?_
                            refine tt_goto (tgt := 236) dX10_or_231 rfl ?_
                            exact tt_loc (ks := [1, 2, 3, 4, 5, 6, 7, 0]) rfl (B156 0 (rl_w (⟨by decide, by decide⟩ : Rl 0 0 0)))
                        refine tt_if_le (tgt := 214) dX10_or_202 rfl (fun q167 => ?_) (fun q167 => ?_)
                        · skip
                          refine tt_aload_n (j := 0) dX10_or_214 rfl ?_
                          refine gt_gR (id := 644) dX10_or_215 fl_10_16 rfl rfl h0 hA hr138 ?_
                          refine tt_iload_n (j := 3) dX10_or_218 rfl ?_
                          refine gt_lLt dX10_or_219 ho139 hA (rg_in h3) ?_
                          exact B153 (hp_j S b137 (x3 : Int32).toNatClampNeg) h144
                        · skip
                          have h168 : Rl 0 9223372036854775806 (hp_j S b137 (x3 : Int32).toNatClampNeg) := rl_lt_l h144 h142 (lc_le_f q167)
                          have h169 : Rl 1 9223372036854775807 (hp_j S b137 (x2 : Int32).toNatClampNeg) := rl_lt_r h144 h142 (lc_le_f q167)
                          refine tt_aload_n (j := 0) dX10_or_205 rfl ?_
                          refine gt_gR (id := 644) dX10_or_206 fl_10_16 rfl rfl h0 hA hr138 ?_
                          refine tt_iload_n (j := 2) dX10_or_209 rfl ?_
                          refine gt_lLt dX10_or_210 ho139 hA (rg_in h2) ?_
                          refine tt_goto (tgt := 220) dX10_or_211 rfl ?_
                          exact B153 (hp_j S b137 (x2 : Int32).toNatClampNeg) (rl_w h169)
                      · skip
                        have h170 : Rl (-9223372036854775808) 9223372036854775806 y151 := rl_lt_l (rl_all y151) (rl_all y149) (lc_ge_f q152)
                        have h171 : Rl (-9223372036854775807) 9223372036854775807 y149 := rl_lt_r (rl_all y151) (rl_all y149) (lc_ge_f q152)
                        refine tt_ldc2 (v := 2) dX10_or_176 kl_10_199 ?_
                        refine tt_lload (j := 6) dX10_or_179 rfl ?_
                        refine tt_lmul dX10_or_181 ?_
                        refine tt_lconst (v := 1) dX10_or_182 rfl ?_
                        refine tt_ladd dX10_or_183 ?_
                        refine tt_lstore (ks := [0, 1, 2, 3, 4, 5, 6]) (L' := [(7, .long ((2 * y151) + 1)), (0, .ref o0), (1, .int x1), (2, .int x2), (3, .int x3), (4, .int x4), (5, .long y149)]) dX10_or_184 (by decide) rfl ?_
                        refine tt_goto (tgt := 168) dX10_or_186 rfl ?_
                        exact tt_loc (ks := [1, 2, 3, 4, 5, 6, 0]) rfl (ihB150 _ (or_dec hmB150 (lc_ge_f q152)) ((2 * y151) + 1) (or_nxt hmB150 (lc_ge_f q152)) )
                  exact tt_loc (ks := [2, 3, 4, 5, 6, 1, 0]) rfl (B150 _ 0 or_init )
                refine tt_if_le (tgt := 157) dX10_or_145 rfl (fun q172 => ?_) (fun q172 => ?_)
                · skip
                  refine tt_aload_n (j := 0) dX10_or_157 rfl ?_
                  refine gt_gR (id := 645) dX10_or_158 fl_10_20 rfl rfl h0 hA hr146 ?_
                  refine tt_iload_n (j := 3) dX10_or_161 rfl ?_
                  refine gt_lLt dX10_or_162 ho147 hA (rg_in h3) ?_
                  exact B148 (hp_j S b145 (x3 : Int32).toNatClampNeg)
                · skip
                  have h173 : Rl (-9223372036854775808) 9223372036854775806 (hp_j S b145 (x3 : Int32).toNatClampNeg) := rl_lt_l (rl_all (hp_j S b145 (x3 : Int32).toNatClampNeg)) (rl_all (hp_j S b145 (x2 : Int32).toNatClampNeg)) (lc_le_f q172)
                  have h174 : Rl (-9223372036854775807) 9223372036854775807 (hp_j S b145 (x2 : Int32).toNatClampNeg) := rl_lt_r (rl_all (hp_j S b145 (x3 : Int32).toNatClampNeg)) (rl_all (hp_j S b145 (x2 : Int32).toNatClampNeg)) (lc_le_f q172)
                  refine tt_aload_n (j := 0) dX10_or_148 rfl ?_
                  refine gt_gR (id := 645) dX10_or_149 fl_10_20 rfl rfl h0 hA hr146 ?_
                  refine tt_iload_n (j := 2) dX10_or_152 rfl ?_
                  refine gt_lLt dX10_or_153 ho147 hA (rg_in h2) ?_
                  refine tt_goto (tgt := 163) dX10_or_154 rfl ?_
                  exact B148 (hp_j S b145 (x2 : Int32).toNatClampNeg)
              · skip
                have h175 : Rl (-9223372036854775808) (-1) (hp_j S b137 (x3 : Int32).toNatClampNeg) := rl_lt_l (rl_all (hp_j S b137 (x3 : Int32).toNatClampNeg)) (⟨by decide, by decide⟩ : Rl 0 0 0) (lc_ge_f q143)
                exact B125 
      refine tt_if_eq (tgt := 82) dX10_or_31 rfl (fun q176 => ?_) (fun q176 => ?_)
      · skip
        have h177 : Rg 0 0 x121 := rg_eq_l h122 (⟨by decide, by decide⟩ : Rg 0 0 0) q176
        exact B123 
      · skip
        have h178 : Rg 1 1 x121 := rg_ne_lo h122 (⟨by decide, by decide⟩ : Rg 0 0 0) q176
        refine tt_aload_n (j := 0) dX10_or_34 rfl ?_
        refine tt_iload_n (j := 3) dX10_or_35 rfl ?_
        refine gt_VIp (As := [.int x3]) dX10_or_36 ca_X10_162 ⟨by decide, by decide⟩ h0 hA rfl (Nat.le_of_ble_eq_true rfl) (Nat.le_of_ble_eq_true rfl) (by decide) (cs_X10_isOne hG (oa_af h0 hA) (rg_w h3) (fun _ _ _ _ h => h)) rfl (fun _ h => nomatch h) (fun _ _ q => q) (fun x184 h185 hx183 => ?_)
        refine tt_if_eq (tgt := 82) dX10_or_39 rfl (fun q186 => ?_) (fun q186 => ?_)
        · skip
          have h187 : Rg 0 0 x184 := rg_eq_l h185 (⟨by decide, by decide⟩ : Rg 0 0 0) q186
          exact B123 
        · skip
          have h188 : Rg 1 1 x184 := rg_ne_lo h185 (⟨by decide, by decide⟩ : Rg 0 0 0) q186
          refine tt_aload_n (j := 0) dX10_or_42 rfl ?_
          refine tt_iload_n (j := 1) dX10_or_43 rfl ?_
          refine tt_iload (j := 4) dX10_or_44 rfl ?_
          have B189 : ∀ (y190 : Int64), TT xi M_X10_or 78 [(0, .ref o0), (1, .int x1), (2, .int x2), (3, .int x3), (4, .int x4)] [.long y190, .int x1, .ref o0] S kc nc P := by
            intro y190 
            refine gt_Vv (As := [.int x1, .long y190]) dX10_or_78 ca_X10_193 ⟨by decide, by decide⟩ h0 hA rfl (Nat.le_of_ble_eq_true rfl) (Nat.le_of_ble_eq_true rfl) (by decide) (cs_X10_one hG (oa_af h0 hA) (rg_w h1) (fun _ _ _ _ h => h)) rfl (fun _ h => nomatch h) (fun S191 hx195 hG192 hB193 hA194 => ?_)
            exact tt_vreturn dX10_or_81 rfl (hP _ _ _ _ ⟨hG192, hA194, Or.inl ⟨_, rfl, rfl, trivial, rfl, rfl⟩⟩)
          refine tt_if_eq (tgt := 65) dX10_or_46 rfl (fun q196 => ?_) (fun q196 => ?_)
          · skip
            have h197 : Rg 0 0 x4 := rg_eq_l h4 (⟨by decide, by decide⟩ : Rg 0 0 0) q196
            refine tt_aload_n (j := 0) dX10_or_65 rfl ?_
            obtain ⟨b198, hr199, ho200⟩ := gi_R (k := 644) hG h0 33 4940
            refine gt_gR (id := 644) dX10_or_66 fl_10_16 rfl rfl h0 hA hr199 ?_
            refine tt_iload_n (j := 2) dX10_or_69 rfl ?_
            refine gt_lLt dX10_or_70 ho200 hA (rg_in h2) ?_
            refine tt_aload_n (j := 0) dX10_or_71 rfl ?_
            refine gt_gR (id := 644) dX10_or_72 fl_10_16 rfl rfl h0 hA hr199 ?_
            refine tt_iload_n (j := 3) dX10_or_75 rfl ?_
            refine gt_lLt dX10_or_76 ho200 hA (rg_in h3) ?_
            refine tt_lor dX10_or_77 (gt_tl (fun y201 => ?_))
            exact B189 y201
          · skip
            have h202 : Rg 1 1 x4 := rg_ne_lo h4 (⟨by decide, by decide⟩ : Rg 0 0 0) q196
            refine tt_aload_n (j := 0) dX10_or_49 rfl ?_
            obtain ⟨b203, hr204, ho205⟩ := gi_R (k := 644) hG h0 33 4940
            refine gt_gR (id := 644) dX10_or_50 fl_10_16 rfl rfl h0 hA hr204 ?_
            refine tt_iload_n (j := 2) dX10_or_53 rfl ?_
            refine gt_lLt dX10_or_54 ho205 hA (rg_in h2) ?_
            refine tt_aload_n (j := 0) dX10_or_55 rfl ?_
            refine gt_gR (id := 644) dX10_or_56 fl_10_16 rfl rfl h0 hA hr204 ?_
            refine tt_iload_n (j := 3) dX10_or_59 rfl ?_
            refine gt_lLt dX10_or_60 ho205 hA (rg_in h3) ?_
            refine tt_lxor dX10_or_61 (gt_tl (fun y206 => ?_))
            refine tt_goto (tgt := 78) dX10_or_62 rfl ?_
            exact B189 y206
    · skip
      have h207 : Rg 0 0 x114 := rg_eq_l (rg_all x114) (⟨by decide, by decide⟩ : Rg 0 0 0) q115
      exact B105 
set_option maxHeartbeats 4000000 in
theorem cs_X10_shiftDown {xi : SX} {S : Hp} {E : List Nat} {kc nc : Nat} {P : Po} {o0 : Nat} {x1 : Int32} {x2 : Int32} {x3 : Int32} (hG : GI S E) (h0 : Oa S E 10 0 o0) (h1 : Rg 0 4939 x1) (h2 : Rg 0 4939 x2) (hP : ∀ r T x y, PV E [9989] S kc nc rV ex0 [] r T x y → P r T x y) : TT xi M_X10_shiftDown 0 [(0, .ref o0), (1, .int x1), (2, .int x2), (3, .int x3)] [] S kc nc P := by
  have hA : Af E [9989] S S := af_rf
  refine tt_iload_n (j := 3) dX10_shiftDown_0 rfl ?_
  have B101 : ∀ (S102 : Hp), GI S102 E → Af E [9989] S S102 → TT xi M_X10_shiftDown 140 [(0, .ref o0), (1, .int x1), (2, .int x2), (3, .int x3)] [] S102 kc nc P := by
    intro S102 hG103 hA104
    exact tt_vreturn dX10_shiftDown_140 rfl (hP _ _ _ _ ⟨hG103, hA104, Or.inl ⟨_, rfl, rfl, trivial, rfl, rfl⟩⟩)
  have B105 : TT xi M_X10_shiftDown 13 [(0, .ref o0), (1, .int x1), (2, .int x2), (3, .int x3)] [] S kc nc P := by
    refine tt_aload_n (j := 0) dX10_shiftDown_13 rfl ?_
    refine tt_iload_n (j := 1) dX10_shiftDown_14 rfl ?_
    refine tt_iload_n (j := 2) dX10_shiftDown_15 rfl ?_
    refine gt_Vv (As := [.int x1, .int x2]) dX10_shiftDown_16 ca_X10_169 ⟨by decide, by decide⟩ h0 hA rfl (Nat.le_of_ble_eq_true rfl) (Nat.le_of_ble_eq_true rfl) (by decide) (cs_X10_copy hG (oa_af h0 hA) (rg_w h1) (rg_w h2) (fun _ _ _ _ h => h)) rfl (fun _ h => nomatch h) (fun S106 hx110 hG107 hB108 hA109 => ?_)
    refine tt_goto (tgt := 140) dX10_shiftDown_19 rfl ?_
    exact B101 S106 hG107 hA109
  refine tt_if_eq (tgt := 13) dX10_shiftDown_1 rfl (fun q111 => ?_) (fun q111 => ?_)
  · skip
    have h112 : Rg 0 0 x3 := rg_eq_l (rg_all x3) (⟨by decide, by decide⟩ : Rg 0 0 0) q111
    exact B105 
  · skip
    refine tt_aload_n (j := 0) dX10_shiftDown_4 rfl ?_
    obtain ⟨b113, hr114, ho115⟩ := gi_R (k := 643) hG h0 32 4940
    refine gt_gR (id := 643) dX10_shiftDown_5 fl_10_13 rfl rfl h0 hA hr114 ?_
    refine tt_iload_n (j := 2) dX10_shiftDown_8 rfl ?_
    refine gt_iL dX10_shiftDown_9 ho115 hA (rg_in h2) (fun x116 => ?_)
    refine tt_if_ne (tgt := 22) dX10_shiftDown_10 rfl (fun q117 => ?_) (fun q117 => ?_)
    · skip
      refine tt_aload_n (j := 0) dX10_shiftDown_22 rfl ?_
      refine gt_gR (id := 643) dX10_shiftDown_23 fl_10_13 rfl rfl h0 hA hr114 ?_
      refine tt_iload_n (j := 2) dX10_shiftDown_26 rfl ?_
      refine gt_iL dX10_shiftDown_27 ho115 hA (rg_in h2) (fun x118 => ?_)
      refine tt_iconst (v := 2) dX10_shiftDown_28 rfl ?_
      refine tt_icmp_ne (tgt := 59) dX10_shiftDown_29 rfl (fun q119 => ?_) (fun q119 => ?_)
      · skip
        refine tt_lconst (v := 1) dX10_shiftDown_59 rfl ?_
        refine tt_iload_n (j := 3) dX10_shiftDown_60 rfl ?_
        refine tt_lshl dX10_shiftDown_61 (gt_tl (fun y120 => ?_))
        refine tt_lconst (v := 1) dX10_shiftDown_62 rfl ?_
        refine tt_lsub dX10_shiftDown_63 (gt_tl (fun y121 => ?_))
        refine tt_lstore (ks := [0, 1, 2, 3, 4]) (L' := [(4, .long y121), (0, .ref o0), (1, .int x1), (2, .int x2), (3, .int x3)]) dX10_shiftDown_64 (by decide) rfl ?_
        refine tt_aload_n (j := 1) dX10_shiftDown_66 rfl ?_
        obtain ⟨b122, hr123, ho124⟩ := gi_R (k := 646) hG h0 33 4940
        refine gt_gR (id := 646) dX10_shiftDown_67 fl_10_23 rfl rfl h0 hA hr123 ?_
        refine tt_iload_n (j := 3) dX10_shiftDown_70 rfl ?_
        refine gt_lLt dX10_shiftDown_71 ho124 hA (rg_in h2) ?_
        refine tt_lload (j := 0) dX10_shiftDown_72 rfl ?_
        refine tt_land dX10_shiftDown_74 (gt_tl (fun y125 => ?_))
        refine tt_lconst (v := 0) dX10_shiftDown_75 rfl ?_
        refine tt_lcmp dX10_shiftDown_76 ?_
        have B126 : ∀ (x127 : Int32), Rg 0 1 x127 → TT xi M_X10_shiftDown 99 [(0, .ref o0), (1, .int x1), (2, .int x2), (3, .int x3), (4, .long y121)] [.int x127] S kc nc P := by
          intro x127 h128
          refine tt_istore (ks := [0, 1, 2, 3, 4, 5]) (L' := [(6, .int x127), (0, .ref o0), (1, .int x1), (2, .int x2), (3, .int x3), (4, .long y121)]) dX10_shiftDown_99 (by decide) rfl ?_
          refine tt_aload_n (j := 1) dX10_shiftDown_101 rfl ?_
          refine tt_iload_n (j := 2) dX10_shiftDown_102 rfl ?_
          refine tt_iconst (v := 1) dX10_shiftDown_103 rfl ?_
          refine tt_aload_n (j := 1) dX10_shiftDown_104 rfl ?_
          obtain ⟨b129, hr130, ho131⟩ := gi_R (k := 644) hG h0 33 4940
          refine gt_gR (id := 644) dX10_shiftDown_105 fl_10_16 rfl rfl h0 hA hr130 ?_
          refine tt_iload_n (j := 3) dX10_shiftDown_108 rfl ?_
          refine gt_lLt dX10_shiftDown_109 ho131 hA (rg_in h2) ?_
          refine tt_iload_n (j := 4) dX10_shiftDown_110 rfl ?_
          refine tt_lshr dX10_shiftDown_111 (gt_tl (fun y132 => ?_))
          refine tt_aload_n (j := 1) dX10_shiftDown_112 rfl ?_
          obtain ⟨b133, hr134, ho135⟩ := gi_R (k := 645) hG h0 33 4940
          refine gt_gR (id := 645) dX10_shiftDown_113 fl_10_20 rfl rfl h0 hA hr134 ?_
          refine tt_iload_n (j := 3) dX10_shiftDown_116 rfl ?_
          refine gt_lLt dX10_shiftDown_117 ho135 hA (rg_in h2) ?_
          refine tt_iload_n (j := 4) dX10_shiftDown_118 rfl ?_
          refine tt_lshr dX10_shiftDown_119 (gt_tl (fun y136 => ?_))
          refine tt_iload (j := 0) dX10_shiftDown_120 rfl ?_
          have B137 : ∀ (y138 : Int64), TT xi M_X10_shiftDown 137 [(0, .ref o0), (1, .int x1), (2, .int x2), (3, .int x3), (4, .long y121), (6, .int x127)] [.long y138, .long y136, .long y132, .int 1, .int x1, .ref o0] S kc nc P := by
            intro y138 
            refine gt_Vv (As := [.int x1, .int 1, .long y132, .long y136, .long y138]) dX10_shiftDown_137 ca_X10_165 ⟨by decide, by decide⟩ h0 hA rfl (Nat.le_of_ble_eq_true rfl) (Nat.le_of_ble_eq_true rfl) (by decide) (cs_X10_make hG (oa_af h0 hA) (rg_w h1) (fun _ _ _ _ h => h)) rfl (fun _ h => nomatch h) (fun S139 hx143 hG140 hB141 hA142 => ?_)
            exact tt_loc (ks := [0, 1, 2, 3]) rfl (B101 S139 hG140 hA142)
          refine tt_if_eq (tgt := 136) dX10_shiftDown_122 rfl (fun q144 => ?_) (fun q144 => ?_)
          · skip
            have h145 : Rg 0 0 x127 := rg_eq_l h128 (⟨by decide, by decide⟩ : Rg 0 0 0) q144
            refine tt_lconst (v := 1) dX10_shiftDown_136 rfl ?_
            exact tt_loc (ks := [1, 2, 3, 4, 5, 0]) rfl (B137 1)
          · skip
            have h146 : Rg 1 1 x127 := rg_ne_lo h128 (⟨by decide, by decide⟩ : Rg 0 0 0) q144
            refine tt_aload_n (j := 1) dX10_shiftDown_125 rfl ?_
            refine gt_gR (id := 646) dX10_shiftDown_126 fl_10_23 rfl rfl h0 hA hr123 ?_
            refine tt_iload_n (j := 3) dX10_shiftDown_129 rfl ?_
            refine gt_lLt dX10_shiftDown_130 ho124 hA (rg_in h2) ?_
            refine tt_iload_n (j := 4) dX10_shiftDown_131 rfl ?_
            refine tt_lshr dX10_shiftDown_132 (gt_tl (fun y147 => ?_))
            refine tt_goto (tgt := 137) dX10_shiftDown_133 rfl ?_
            exact tt_loc (ks := [1, 2, 3, 4, 5, 0]) rfl (B137 y147)
        have B148 : TT xi M_X10_shiftDown 98 [(0, .ref o0), (1, .int x1), (2, .int x2), (3, .int x3), (4, .long y121)] [] S kc nc P := by
          refine tt_iconst (v := 0) dX10_shiftDown_98 rfl ?_
          exact B126 0 (rg_w (⟨by decide, by decide⟩ : Rg 0 0 0))
        refine tt_if_ne (tgt := 98) dX10_shiftDown_77 rfl (fun q149 => ?_) (fun q149 => ?_)
        · skip
          exact tt_loc (ks := [1, 2, 3, 4, 0]) rfl (B148 )
        · skip
          have h150 : Rl 0 0 y125 := rl_eq_l (rl_all y125) (⟨by decide, by decide⟩ : Rl 0 0 0) (lc_ne_f q149)
          refine tt_aload_n (j := 1) dX10_shiftDown_80 rfl ?_
          obtain ⟨b151, hr152, ho153⟩ := gi_R (k := 644) hG h0 33 4940
          refine gt_gR (id := 644) dX10_shiftDown_81 fl_10_16 rfl rfl h0 hA hr152 ?_
          refine tt_iload_n (j := 3) dX10_shiftDown_84 rfl ?_
          refine gt_lLt dX10_shiftDown_85 ho153 hA (rg_in h2) ?_
          refine tt_lload (j := 0) dX10_shiftDown_86 rfl ?_
          refine tt_land dX10_shiftDown_88 (gt_tl (fun y154 => ?_))
          refine tt_lconst (v := 0) dX10_shiftDown_89 rfl ?_
          refine tt_lcmp dX10_shiftDown_90 ?_
          refine tt_if_ne (tgt := 98) dX10_shiftDown_91 rfl (fun q155 => ?_) (fun q155 => ?_)
          · skip
            exact tt_loc (ks := [1, 2, 3, 4, 0]) rfl (B148 )
          · skip
            have h156 : Rl 0 0 y154 := rl_eq_l (rl_all y154) (⟨by decide, by decide⟩ : Rl 0 0 0) (lc_ne_f q155)
            refine tt_iconst (v := 1) dX10_shiftDown_94 rfl ?_
            refine tt_goto (tgt := 99) dX10_shiftDown_95 rfl ?_
            exact tt_loc (ks := [1, 2, 3, 4, 0]) rfl (B126 1 (rg_w (⟨by decide, by decide⟩ : Rg 1 1 1)))
      · skip
        have h157 : Rg 2 2 x118 := rg_eq_l (rg_all x118) (⟨by decide, by decide⟩ : Rg 2 2 2) q119
        refine tt_lconst (v := 1) dX10_shiftDown_32 rfl ?_
        refine tt_bipush (v := 63) dX10_shiftDown_33 rfl ?_
        refine tt_iload_n (j := 3) dX10_shiftDown_35 rfl ?_
        refine tt_isub dX10_shiftDown_36 ?_
        refine tt_lshl dX10_shiftDown_37 (gt_tl (fun y158 => ?_))
        refine tt_lconst (v := 1) dX10_shiftDown_38 rfl ?_
        refine tt_lsub dX10_shiftDown_39 (gt_tl (fun y159 => ?_))
        refine tt_lstore (ks := [0, 1, 2, 3, 4]) (L' := [(4, .long y159), (0, .ref o0), (1, .int x1), (2, .int x2), (3, .int x3)]) dX10_shiftDown_40 (by decide) rfl ?_
        refine tt_aload_n (j := 1) dX10_shiftDown_42 rfl ?_
        refine tt_iload_n (j := 2) dX10_shiftDown_43 rfl ?_
        refine tt_iconst (v := 1) dX10_shiftDown_44 rfl ?_
        refine tt_lload (j := 0) dX10_shiftDown_45 rfl ?_
        refine tt_lneg dX10_shiftDown_47 (gt_tl (fun y160 => ?_))
        refine tt_lconst (v := 1) dX10_shiftDown_48 rfl ?_
        refine tt_lsub dX10_shiftDown_49 (gt_tl (fun y161 => ?_))
        refine tt_lload (j := 0) dX10_shiftDown_50 rfl ?_
        refine tt_lconst (v := 1) dX10_shiftDown_52 rfl ?_
        refine gt_Vv (As := [.int x1, .int 1, .long y161, .long y159, .long 1]) dX10_shiftDown_53 ca_X10_165 ⟨by decide, by decide⟩ h0 hA rfl (Nat.le_of_ble_eq_true rfl) (Nat.le_of_ble_eq_true rfl) (by decide) (cs_X10_make hG (oa_af h0 hA) (rg_w h1) (fun _ _ _ _ h => h)) rfl (fun _ h => nomatch h) (fun S162 hx166 hG163 hB164 hA165 => ?_)
        refine tt_goto (tgt := 140) dX10_shiftDown_56 rfl ?_
        exact tt_loc (ks := [1, 2, 3, 4]) rfl (B101 S162 hG163 hA165)
    · skip
      have h167 : Rg 0 0 x116 := rg_eq_l (rg_all x116) (⟨by decide, by decide⟩ : Rg 0 0 0) q117
      exact B105 
