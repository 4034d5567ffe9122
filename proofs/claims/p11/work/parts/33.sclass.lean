set_option maxHeartbeats 4000000 in
theorem cs_X7_add {xi : SX} {S : Hp} {E : List Nat} {kc nc : Nat} {P : Po} {o0 : Nat} {o1 : Nat} {o2 : Nat} (hG : GI S E) (h0 : Oa S E 7 0 o0) (h1 : Oa S E 7 0 o1) (h2 : Oa S E 7 0 o2) (hP : ∀ r T x y, PV E [9987] S kc nc rV ex0 [] r T x y → P r T x y) : TT xi M_X7_add 0 [(0, .ref o0), (1, .ref o1), (2, .ref o2)] [] S kc nc P := by
  have hA : Af E [9987] S S := af_rf
  refine tt_aload_n (j := 1) dX7_add_0 rfl ?_
  refine gt_VIp (As := []) dX7_add_1 ca_X7_29 ⟨by decide, by decide⟩ h1 hA rfl (Nat.le_of_ble_eq_true rfl) (Nat.le_of_ble_eq_true rfl) (by decide) (cs_X7_isAny hG (oa_af h1 hA) (fun _ _ _ _ h => h)) rfl (fun _ h => nomatch h) (fun _ _ q => q) (fun x106 h107 hx105 => ?_)
  have B108 : ∀ (S109 : Hp), GI S109 E → Af E [9987] S S109 → TT xi M_X7_add 54 [(0, .ref o0), (1, .ref o1), (2, .ref o2)] [] S109 kc nc P := by
    intro S109 hG110 hA111
    exact tt_vreturn dX7_add_54 rfl (hP _ _ _ _ ⟨hG110, hA111, Or.inl ⟨_, rfl, rfl, trivial, rfl, rfl⟩⟩)
  have B112 : TT xi M_X7_add 14 [(0, .ref o0), (1, .ref o1), (2, .ref o2)] [] S kc nc P := by
    refine tt_aload_n (j := 0) dX7_add_14 rfl ?_
    refine gt_Vv (As := []) dX7_add_15 ca_X7_33 ⟨by decide, by decide⟩ h0 hA rfl (Nat.le_of_ble_eq_true rfl) (Nat.le_of_ble_eq_true rfl) (by decide) (cs_X7_becomeAny hG (oa_af h0 hA) (fun _ _ _ _ h => h)) rfl (fun _ h => nomatch h) (fun S113 hx117 hG114 hB115 hA116 => ?_)
    refine tt_goto (tgt := 54) dX7_add_18 rfl ?_
    exact B108 S113 hG114 hA116
  refine tt_if_ne (tgt := 14) dX7_add_4 rfl (fun q118 => ?_) (fun q118 => ?_)
  · skip
    have h119 : Rg 1 1 x106 := rg_ne_lo h107 (⟨by decide, by decide⟩ : Rg 0 0 0) q118
    exact B112 
  · skip
    have h120 : Rg 0 0 x106 := rg_eq_l h107 (⟨by decide, by decide⟩ : Rg 0 0 0) q118
    refine tt_aload_n (j := 2) dX7_add_7 rfl ?_
    refine gt_VIp (As := []) dX7_add_8 ca_X7_29 ⟨by decide, by decide⟩ h2 hA rfl (Nat.le_of_ble_eq_true rfl) (Nat.le_of_ble_eq_true rfl) (by decide) (cs_X7_isAny hG (oa_af h2 hA) (fun _ _ _ _ h => h)) rfl (fun _ h => nomatch h) (fun _ _ q => q) (fun x126 h127 hx125 => ?_)
    refine tt_if_eq (tgt := 21) dX7_add_11 rfl (fun q128 => ?_) (fun q128 => ?_)
    · skip
      have h129 : Rg 0 0 x126 := rg_eq_l h127 (⟨by decide, by decide⟩ : Rg 0 0 0) q128
      refine tt_aload_n (j := 0) dX7_add_21 rfl ?_
      refine tt_aload_n (j := 1) dX7_add_22 rfl ?_
      refine gt_gJ (id := 448) (v := (hp_J S 448 o1)) dX7_add_23 fl_7_23 rfl rfl h1 hA rfl ?_
      refine tt_aload_n (j := 2) dX7_add_26 rfl ?_
      refine gt_gJ (id := 448) (v := (hp_J S 448 o2)) dX7_add_27 fl_7_23 rfl rfl h2 hA rfl ?_
      refine tt_ladd dX7_add_30 (gt_tl (fun y130 => ?_))
      refine tt_aload_n (j := 1) dX7_add_31 rfl ?_
      refine gt_gJ (id := 449) (v := (hp_J S 449 o1)) dX7_add_32 fl_7_26 rfl rfl h1 hA rfl ?_
      refine tt_aload_n (j := 2) dX7_add_35 rfl ?_
      refine gt_gJ (id := 449) (v := (hp_J S 449 o2)) dX7_add_36 fl_7_26 rfl rfl h2 hA rfl ?_
      refine tt_ladd dX7_add_39 (gt_tl (fun y131 => ?_))
      refine tt_aload_n (j := 1) dX7_add_40 rfl ?_
      refine gt_gJ (id := 450) (v := (hp_J S 450 o1)) dX7_add_41 fl_7_15 rfl rfl h1 hA rfl ?_
      refine tt_aload_n (j := 2) dX7_add_44 rfl ?_
      refine gt_gJ (id := 450) (v := (hp_J S 450 o2)) dX7_add_45 fl_7_15 rfl rfl h2 hA rfl ?_
      refine gt_SJp (As := [.long (hp_J S 450 o1), .long (hp_J S 450 o2)]) dX7_add_48 ca_X7_36 ⟨by decide, by decide⟩ hA (Nat.le_of_ble_eq_true rfl) (Nat.le_of_ble_eq_true rfl) (by decide) (cs_X7_gcd hG  (fun _ _ _ _ h => h)) rfl (fun _ h => nomatch h) (fun _ _ q => q) (fun y137 hx136 => ?_)
      refine gt_Vv (As := [.long y130, .long y131, .long y137]) dX7_add_51 ca_X7_48 ⟨by decide, by decide⟩ h0 hA rfl (Nat.le_of_ble_eq_true rfl) (Nat.le_of_ble_eq_true rfl) (by decide) (cs_X7_become hG (oa_af h0 hA) (fun _ _ _ _ h => h)) rfl (fun _ h => nomatch h) (fun S139 hx143 hG140 hB141 hA142 => ?_)
      exact B108 S139 hG140 hA142
    · skip
      have h144 : Rg 1 1 x126 := rg_ne_lo h127 (⟨by decide, by decide⟩ : Rg 0 0 0) q128
      exact B112 
set_option maxHeartbeats 4000000 in
theorem cs_X7_subtract {xi : SX} {S : Hp} {E : List Nat} {kc nc : Nat} {P : Po} {o0 : Nat} {o1 : Nat} {o2 : Nat} (hG : GI S E) (h0 : Oa S E 7 0 o0) (h1 : Oa S E 7 0 o1) (h2 : Oa S E 7 0 o2) (hP : ∀ r T x y, PV E [9987] S kc nc rV ex0 [] r T x y → P r T x y) : TT xi M_X7_subtract 0 [(0, .ref o0), (1, .ref o1), (2, .ref o2)] [] S kc nc P := by
  have hA : Af E [9987] S S := af_rf
  refine tt_aload_n (j := 1) dX7_subtract_0 rfl ?_
  refine gt_VIp (As := []) dX7_subtract_1 ca_X7_29 ⟨by decide, by decide⟩ h1 hA rfl (Nat.le_of_ble_eq_true rfl) (Nat.le_of_ble_eq_true rfl) (by decide) (cs_X7_isAny hG (oa_af h1 hA) (fun _ _ _ _ h => h)) rfl (fun _ h => nomatch h) (fun _ _ q => q) (fun x106 h107 hx105 => ?_)
  have B108 : ∀ (S109 : Hp), GI S109 E → Af E [9987] S S109 → TT xi M_X7_subtract 54 [(0, .ref o0), (1, .ref o1), (2, .ref o2)] [] S109 kc nc P := by
    intro S109 hG110 hA111
    exact tt_vreturn dX7_subtract_54 rfl (hP _ _ _ _ ⟨hG110, hA111, Or.inl ⟨_, rfl, rfl, trivial, rfl, rfl⟩⟩)
  have B112 : TT xi M_X7_subtract 14 [(0, .ref o0), (1, .ref o1), (2, .ref o2)] [] S kc nc P := by
    refine tt_aload_n (j := 0) dX7_subtract_14 rfl ?_
    refine gt_Vv (As := []) dX7_subtract_15 ca_X7_33 ⟨by decide, by decide⟩ h0 hA rfl (Nat.le_of_ble_eq_true rfl) (Nat.le_of_ble_eq_true rfl) (by decide) (cs_X7_becomeAny hG (oa_af h0 hA) (fun _ _ _ _ h => h)) rfl (fun _ h => nomatch h) (fun S113 hx117 hG114 hB115 hA116 => ?_)
    refine tt_goto (tgt := 54) dX7_subtract_18 rfl ?_
    exact B108 S113 hG114 hA116
  refine tt_if_ne (tgt := 14) dX7_subtract_4 rfl (fun q118 => ?_) (fun q118 => ?_)
  · skip
    have h119 : Rg 1 1 x106 := rg_ne_lo h107 (⟨by decide, by decide⟩ : Rg 0 0 0) q118
    exact B112 
  · skip
    have h120 : Rg 0 0 x106 := rg_eq_l h107 (⟨by decide, by decide⟩ : Rg 0 0 0) q118
    refine tt_aload_n (j := 2) dX7_subtract_7 rfl ?_
    refine gt_VIp (As := []) dX7_subtract_8 ca_X7_29 ⟨by decide, by decide⟩ h2 hA rfl (Nat.le_of_ble_eq_true rfl) (Nat.le_of_ble_eq_true rfl) (by decide) (cs_X7_isAny hG (oa_af h2 hA) (fun _ _ _ _ h => h)) rfl (fun _ h => nomatch h) (fun _ _ q => q) (fun x126 h127 hx125 => ?_)
    refine tt_if_eq (tgt := 21) dX7_subtract_11 rfl (fun q128 => ?_) (fun q128 => ?_)
    · skip
      have h129 : Rg 0 0 x126 := rg_eq_l h127 (⟨by decide, by decide⟩ : Rg 0 0 0) q128
      refine tt_aload_n (j := 0) dX7_subtract_21 rfl ?_
      refine tt_aload_n (j := 1) dX7_subtract_22 rfl ?_
      refine gt_gJ (id := 448) (v := (hp_J S 448 o1)) dX7_subtract_23 fl_7_23 rfl rfl h1 hA rfl ?_
      refine tt_aload_n (j := 2) dX7_subtract_26 rfl ?_
      refine gt_gJ (id := 449) (v := (hp_J S 449 o2)) dX7_subtract_27 fl_7_26 rfl rfl h2 hA rfl ?_
      refine tt_lsub dX7_subtract_30 (gt_tl (fun y130 => ?_))
      refine tt_aload_n (j := 1) dX7_subtract_31 rfl ?_
      refine gt_gJ (id := 449) (v := (hp_J S 449 o1)) dX7_subtract_32 fl_7_26 rfl rfl h1 hA rfl ?_
      refine tt_aload_n (j := 2) dX7_subtract_35 rfl ?_
      refine gt_gJ (id := 448) (v := (hp_J S 448 o2)) dX7_subtract_36 fl_7_23 rfl rfl h2 hA rfl ?_
      refine tt_lsub dX7_subtract_39 (gt_tl (fun y131 => ?_))
      refine tt_aload_n (j := 1) dX7_subtract_40 rfl ?_
      refine gt_gJ (id := 450) (v := (hp_J S 450 o1)) dX7_subtract_41 fl_7_15 rfl rfl h1 hA rfl ?_
      refine tt_aload_n (j := 2) dX7_subtract_44 rfl ?_
      refine gt_gJ (id := 450) (v := (hp_J S 450 o2)) dX7_subtract_45 fl_7_15 rfl rfl h2 hA rfl ?_
      refine gt_SJp (As := [.long (hp_J S 450 o1), .long (hp_J S 450 o2)]) dX7_subtract_48 ca_X7_36 ⟨by decide, by decide⟩ hA (Nat.le_of_ble_eq_true rfl) (Nat.le_of_ble_eq_true rfl) (by decide) (cs_X7_gcd hG  (fun _ _ _ _ h => h)) rfl (fun _ h => nomatch h) (fun _ _ q => q) (fun y137 hx136 => ?_)
      refine gt_Vv (As := [.long y130, .long y131, .long y137]) dX7_subtract_51 ca_X7_48 ⟨by decide, by decide⟩ h0 hA rfl (Nat.le_of_ble_eq_true rfl) (Nat.le_of_ble_eq_true rfl) (by decide) (cs_X7_become hG (oa_af h0 hA) (fun _ _ _ _ h => h)) rfl (fun _ h => nomatch h) (fun S139 hx143 hG140 hB141 hA142 => ?_)
      exact B108 S139 hG140 hA142
    · skip
      have h144 : Rg 1 1 x126 := rg_ne_lo h127 (⟨by decide, by decide⟩ : Rg 0 0 0) q128
      exact B112 
set_option maxHeartbeats 4000000 in
theorem cs_X7_and {xi : SX} {S : Hp} {E : List Nat} {kc nc : Nat} {P : Po} {o0 : Nat} {o1 : Nat} {o2 : Nat} (hG : GI S E) (h0 : Oa S E 7 0 o0) (h1 : Oa S E 7 0 o1) (h2 : Oa S E 7 0 o2) (hP : ∀ r T x y, PV E [9987] S kc nc rV ex0 [] r T x y → P r T x y) : TT xi M_X7_and 0 [(0, .ref o0), (1, .ref o1), (2, .ref o2)] [] S kc nc P := by
  have hA : Af E [9987] S S := af_rf
  refine tt_aload_n (j := 1) dX7_and_0 rfl ?_
  refine gt_VIp (As := []) dX7_and_1 ca_X7_58 ⟨by decide, by decide⟩ h1 hA rfl (Nat.le_of_ble_eq_true rfl) (Nat.le_of_ble_eq_true rfl) (by decide) (cs_X7_isSingle hG (oa_af h1 hA) (fun _ _ _ _ h => h)) rfl (fun _ h => nomatch h) (fun _ _ q => q) (fun x106 h107 hx105 => ?_)
  have B108 : TT xi M_X7_and 38 [(0, .ref o0), (1, .ref o1), (2, .ref o2)] [] S kc nc P := by
    refine tt_aload_n (j := 1) dX7_and_38 rfl ?_
    refine gt_VIp (As := []) dX7_and_39 ca_X7_86 ⟨by decide, by decide⟩ h1 hA rfl (Nat.le_of_ble_eq_true rfl) (Nat.le_of_ble_eq_true rfl) (by decide) (cs_X7_isNatural hG (oa_af h1 hA) (fun _ _ _ _ h => h)) rfl (fun _ h => nomatch h) (fun _ _ q => q) (fun x114 h115 hx113 => ?_)
    have B116 : TT xi M_X7_and 57 [(0, .ref o0), (1, .ref o1), (2, .ref o2)] [] S kc nc P := by
      refine tt_aload_n (j := 1) dX7_and_57 rfl ?_
      refine gt_VIp (As := []) dX7_and_58 ca_X7_86 ⟨by decide, by decide⟩ h1 hA rfl (Nat.le_of_ble_eq_true rfl) (Nat.le_of_ble_eq_true rfl) (by decide) (cs_X7_isNatural hG (oa_af h1 hA) (fun _ _ _ _ h => h)) rfl (fun _ h => nomatch h) (fun _ _ q => q) (fun x122 h123 hx121 => ?_)
      have B124 : ∀ (y125 : Int64), TT xi M_X7_and 75 [(0, .ref o0), (1, .ref o1), (2, .ref o2)] [.long y125] S kc nc P := by
        intro y125 
        refine tt_lstore_n (ks := [0, 1, 2, 3]) (L' := [(3, .long y125), (0, .ref o0), (1, .ref o1), (2, .ref o2)]) dX7_and_75 (by decide) rfl ?_
        refine tt_aload_n (j := 3) dX7_and_76 rfl ?_
        refine gt_VIp (As := []) dX7_and_77 ca_X7_86 ⟨by decide, by decide⟩ h2 hA rfl (Nat.le_of_ble_eq_true rfl) (Nat.le_of_ble_eq_true rfl) (by decide) (cs_X7_isNatural hG (oa_af h2 hA) (fun _ _ _ _ h => h)) rfl (fun _ h => nomatch h) (fun _ _ q => q) (fun x131 h132 hx130 => ?_)
        have B133 : ∀ (y134 : Int64), TT xi M_X7_and 92 [(0, .ref o0), (1, .ref o1), (2, .ref o2), (3, .long y134)] [] S kc nc P := by
          intro y134 
          refine tt_aload_n (j := 1) dX7_and_92 rfl ?_
          refine gt_VIp (As := []) dX7_and_93 ca_X7_58 ⟨by decide, by decide⟩ h1 hA rfl (Nat.le_of_ble_eq_true rfl) (Nat.le_of_ble_eq_true rfl) (by decide) (cs_X7_isSingle hG (oa_af h1 hA) (fun _ _ _ _ h => h)) rfl (fun _ h => nomatch h) (fun _ _ q => q) (fun x140 h141 hx139 => ?_)
          have B142 : ∀ (x143 : Int32), Rg 0 1 x143 → TT xi M_X7_and 129 [(0, .ref o0), (1, .ref o1), (2, .ref o2), (3, .long y134)] [.int x143] S kc nc P := by
            intro x143 h144
            refine tt_istore (ks := [0, 1, 2, 3, 4]) (L' := [(5, .int x143), (0, .ref o0), (1, .ref o1), (2, .ref o2), (3, .long y134)]) dX7_and_129 (by decide) rfl ?_
            refine tt_aload_n (j := 1) dX7_and_131 rfl ?_
            refine tt_lconst (v := 0) dX7_and_132 rfl ?_
            refine tt_lload_n (j := 4) dX7_and_133 rfl ?_
            refine tt_iload (j := 0) dX7_and_134 rfl ?_
            have B145 : ∀ (y146 : Int64), TT xi M_X7_and 147 [(0, .ref o0), (1, .ref o1), (2, .ref o2), (3, .long y134), (5, .int x143)] [.long y146, .long y134, .long 0, .ref o0] S kc nc P := by
              intro y146 
              refine gt_Vv (As := [.long 0, .long y134, .long y146]) dX7_and_147 ca_X7_48 ⟨by decide, by decide⟩ h0 hA rfl (Nat.le_of_ble_eq_true rfl) (Nat.le_of_ble_eq_true rfl) (by decide) (cs_X7_become hG (oa_af h0 hA) (fun _ _ _ _ h => h)) rfl (fun _ h => nomatch h) (fun S147 hx151 hG148 hB149 hA150 => ?_)
              exact tt_vreturn dX7_and_150 rfl (hP _ _ _ _ ⟨hG148, hA150, Or.inl ⟨_, rfl, rfl, trivial, rfl, rfl⟩⟩)
            refine tt_if_eq (tgt := 146) dX7_and_136 rfl (fun q152 => ?_) (fun q152 => ?_)
            · skip
              have h153 : Rg 0 0 x143 := rg_eq_l h144 (⟨by decide, by decide⟩ : Rg 0 0 0) q152
              refine tt_lconst (v := 1) dX7_and_146 rfl ?_
              exact tt_loc (ks := [1, 2, 3, 4, 0]) rfl (B145 1)
            · skip
              have h154 : Rg 1 1 x143 := rg_ne_lo h144 (⟨by decide, by decide⟩ : Rg 0 0 0) q152
              refine tt_lload_n (j := 4) dX7_and_139 rfl ?_
              refine gt_SJp (As := [.long y134]) dX7_and_140 ca_X7_97 ⟨by decide, by decide⟩ hA (Nat.le_of_ble_eq_true rfl) (Nat.le_of_ble_eq_true rfl) (by decide) (cs_J13_lowestOneBit_067f4 hG  (fun _ _ _ _ h => h)) rfl (fun _ h => nomatch h) (fun _ _ q => q) (fun y160 hx159 => ?_)
              refine tt_goto (tgt := 147) dX7_and_143 rfl ?_
              exact tt_loc (ks := [1, 2, 3, 4, 0]) rfl (B145 y160)
          have B162 : TT xi M_X7_and 124 [(0, .ref o0), (1, .ref o1), (2, .ref o2), (3, .long y134)] [] S kc nc P := by
            refine tt_iconst (v := 1) dX7_and_124 rfl ?_
            refine tt_goto (tgt := 129) dX7_and_125 rfl ?_
            exact B142 1 (rg_w (⟨by decide, by decide⟩ : Rg 1 1 1))
          have B163 : TT xi M_X7_and 108 [(0, .ref o0), (1, .ref o1), (2, .ref o2), (3, .long y134)] [] S kc nc P := by
            refine tt_aload_n (j := 2) dX7_and_108 rfl ?_
            refine gt_VIp (As := []) dX7_and_109 ca_X7_58 ⟨by decide, by decide⟩ h2 hA rfl (Nat.le_of_ble_eq_true rfl) (Nat.le_of_ble_eq_true rfl) (by decide) (cs_X7_isSingle hG (oa_af h2 hA) (fun _ _ _ _ h => h)) rfl (fun _ h => nomatch h) (fun _ _ q => q) (fun x169 h170 hx168 => ?_)
            have B171 : TT xi M_X7_and 128 [(0, .ref o0), (1, .ref o1), (2, .ref o2), (3, .long y134)] [] S kc nc P := by
              refine tt_iconst (v := 0) dX7_and_128 rfl ?_
              exact B142 0 (rg_w (⟨by decide, by decide⟩ : Rg 0 0 0))
            refine tt_if_eq (tgt := 128) dX7_and_112 rfl (fun q172 => ?_) (fun q172 => ?_)
            · skip
              have h173 : Rg 0 0 x169 := rg_eq_l h170 (⟨by decide, by decide⟩ : Rg 0 0 0) q172
              exact B171 
            · skip
              have h174 : Rg 1 1 x169 := rg_ne_lo h170 (⟨by decide, by decide⟩ : Rg 0 0 0) q172
              refine tt_aload_n (j := 2) dX7_and_115 rfl ?_
              refine gt_gJ (id := 448) (v := (hp_J S 448 o2)) dX7_and_116 fl_7_23 rfl rfl h2 hA rfl ?_
              refine tt_lload_n (j := 3) dX7_and_119 rfl ?_
              refine tt_lcmp dX7_and_120 ?_
              refine tt_if_ne (tgt := 128) dX7_and_121 rfl (fun q175 => ?_) (fun q175 => ?_)
              · skip
                exact B171 
              · skip
                exact B162 
          refine tt_if_eq (tgt := 108) dX7_and_96 rfl (fun q176 => ?_) (fun q176 => ?_)
          · skip
            have h177 : Rg 0 0 x140 := rg_eq_l h141 (⟨by decide, by decide⟩ : Rg 0 0 0) q176
            exact B163 
          · skip
            have h178 : Rg 1 1 x140 := rg_ne_lo h141 (⟨by decide, by decide⟩ : Rg 0 0 0) q176
            refine tt_aload_n (j := 1) dX7_and_99 rfl ?_
            refine gt_gJ (id := 448) (v := (hp_J S 448 o1)) dX7_and_100 fl_7_23 rfl rfl h1 hA rfl ?_
            refine tt_lload_n (j := 3) dX7_and_103 rfl ?_
            refine tt_lcmp dX7_and_104 ?_
            refine tt_if_eq (tgt := 124) dX7_and_105 rfl (fun q179 => ?_) (fun q179 => ?_)
            · skip
              exact B162 
            · skip
              exact B163 
        refine tt_if_eq (tgt := 92) dX7_and_80 rfl (fun q180 => ?_) (fun q180 => ?_)
        · skip
          have h181 : Rg 0 0 x131 := rg_eq_l h132 (⟨by decide, by decide⟩ : Rg 0 0 0) q180
          exact tt_loc (ks := [1, 2, 3, 0]) rfl (B133 y125)
        · skip
          have h182 : Rg 1 1 x131 := rg_ne_lo h132 (⟨by decide, by decide⟩ : Rg 0 0 0) q180
          refine tt_lload_n (j := 0) dX7_and_83 rfl ?_
          refine tt_aload_n (j := 3) dX7_and_84 rfl ?_
          refine gt_gJ (id := 449) (v := (hp_J S 449 o2)) dX7_and_85 fl_7_26 rfl rfl h2 hA rfl ?_
          refine gt_SJp (As := [.long y125, .long (hp_J S 449 o2)]) dX7_and_88 ca_X7_40 ⟨by decide, by decide⟩ hA (Nat.le_of_ble_eq_true rfl) (Nat.le_of_ble_eq_true rfl) (by decide) (cs_J9_min_f86c9 hG  (fun _ _ _ _ h => h)) rfl (fun _ h => nomatch h) (fun _ _ q => q) (fun y188 hx187 => ?_)
          refine tt_lstore_n (ks := [0, 1, 2, 3]) (L' := [(3, .long y188), (0, .ref o0), (1, .ref o1), (2, .ref o2)]) dX7_and_91 (by decide) rfl ?_
          exact tt_loc (ks := [1, 2, 3, 0]) rfl (B133 y188)
      refine tt_if_eq (tgt := 71) dX7_and_61 rfl (fun q190 => ?_) (fun q190 => ?_)
      · skip
        have h191 : Rg 0 0 x122 := rg_eq_l h123 (⟨by decide, by decide⟩ : Rg 0 0 0) q190
        refine tt_aload_n (j := 2) dX7_and_71 rfl ?_
        refine gt_gJ (id := 449) (v := (hp_J S 449 o2)) dX7_and_72 fl_7_26 rfl rfl h2 hA rfl ?_
        exact B124 (hp_J S 449 o2)
      · skip
        have h192 : Rg 1 1 x122 := rg_ne_lo h123 (⟨by decide, by decide⟩ : Rg 0 0 0) q190
        refine tt_aload_n (j := 1) dX7_and_64 rfl ?_
        refine gt_gJ (id := 449) (v := (hp_J S 449 o1)) dX7_and_65 fl_7_26 rfl rfl h1 hA rfl ?_
        refine tt_goto (tgt := 75) dX7_and_68 rfl ?_
        exact B124 (hp_J S 449 o1)
    refine tt_if_ne (tgt := 57) dX7_and_42 rfl (fun q193 => ?_) (fun q193 => ?_)
    · skip
      have h194 : Rg 1 1 x114 := rg_ne_lo h115 (⟨by decide, by decide⟩ : Rg 0 0 0) q193
      exact B116 
    · skip
      have h195 : Rg 0 0 x114 := rg_eq_l h115 (⟨by decide, by decide⟩ : Rg 0 0 0) q193
      refine tt_aload_n (j := 2) dX7_and_45 rfl ?_
      refine gt_VIp (As := []) dX7_and_46 ca_X7_86 ⟨by decide, by decide⟩ h2 hA rfl (Nat.le_of_ble_eq_true rfl) (Nat.le_of_ble_eq_true rfl) (by decide) (cs_X7_isNatural hG (oa_af h2 hA) (fun _ _ _ _ h => h)) rfl (fun _ h => nomatch h) (fun _ _ q => q) (fun x201 h202 hx200 => ?_)
      refine tt_if_ne (tgt := 57) dX7_and_49 rfl (fun q203 => ?_) (fun q203 => ?_)
      · skip
        have h204 : Rg 1 1 x201 := rg_ne_lo h202 (⟨by decide, by decide⟩ : Rg 0 0 0) q203
        exact B116 
      · skip
        have h205 : Rg 0 0 x201 := rg_eq_l h202 (⟨by decide, by decide⟩ : Rg 0 0 0) q203
        refine tt_aload_n (j := 0) dX7_and_52 rfl ?_
        refine gt_Vv (As := []) dX7_and_53 ca_X7_33 ⟨by decide, by decide⟩ h0 hA rfl (Nat.le_of_ble_eq_true rfl) (Nat.le_of_ble_eq_true rfl) (by decide) (cs_X7_becomeAny hG (oa_af h0 hA) (fun _ _ _ _ h => h)) rfl (fun _ h => nomatch h) (fun S206 hx210 hG207 hB208 hA209 => ?_)
        exact tt_vreturn dX7_and_56 rfl (hP _ _ _ _ ⟨hG207, hA209, Or.inl ⟨_, rfl, rfl, trivial, rfl, rfl⟩⟩)
  refine tt_if_eq (tgt := 38) dX7_and_4 rfl (fun q211 => ?_) (fun q211 => ?_)
  · skip
    have h212 : Rg 0 0 x106 := rg_eq_l h107 (⟨by decide, by decide⟩ : Rg 0 0 0) q211
    exact B108 
  · skip
    have h213 : Rg 1 1 x106 := rg_ne_lo h107 (⟨by decide, by decide⟩ : Rg 0 0 0) q211
    refine tt_aload_n (j := 2) dX7_and_7 rfl ?_
    refine gt_VIp (As := []) dX7_and_8 ca_X7_58 ⟨by decide, by decide⟩ h2 hA rfl (Nat.le_of_ble_eq_true rfl) (Nat.le_of_ble_eq_true rfl) (by decide) (cs_X7_isSingle hG (oa_af h2 hA) (fun _ _ _ _ h => h)) rfl (fun _ h => nomatch h) (fun _ _ q => q) (fun x219 h220 hx218 => ?_)
    refine tt_if_eq (tgt := 38) dX7_and_11 rfl (fun q221 => ?_) (fun q221 => ?_)
    · skip
      have h222 : Rg 0 0 x219 := rg_eq_l h220 (⟨by decide, by decide⟩ : Rg 0 0 0) q221
      exact B108 
    · skip
      have h223 : Rg 1 1 x219 := rg_ne_lo h220 (⟨by decide, by decide⟩ : Rg 0 0 0) q221
      refine tt_aload_n (j := 0) dX7_and_14 rfl ?_
      refine tt_aload_n (j := 1) dX7_and_15 rfl ?_
      refine gt_gJ (id := 448) (v := (hp_J S 448 o1)) dX7_and_16 fl_7_23 rfl rfl h1 hA rfl ?_
      refine tt_aload_n (j := 2) dX7_and_19 rfl ?_
      refine gt_gJ (id := 448) (v := (hp_J S 448 o2)) dX7_and_20 fl_7_23 rfl rfl h2 hA rfl ?_
      refine tt_land dX7_and_23 (gt_tl (fun y224 => ?_))
      refine tt_aload_n (j := 1) dX7_and_24 rfl ?_
      refine gt_gJ (id := 448) (v := (hp_J S 448 o1)) dX7_and_25 fl_7_23 rfl rfl h1 hA rfl ?_
      refine tt_aload_n (j := 2) dX7_and_28 rfl ?_
      refine gt_gJ (id := 448) (v := (hp_J S 448 o2)) dX7_and_29 fl_7_23 rfl rfl h2 hA rfl ?_
      refine tt_land dX7_and_32 (gt_tl (fun y225 => ?_))
      refine tt_lconst (v := 0) dX7_and_33 rfl ?_
      refine gt_Vv (As := [.long y224, .long y225, .long 0]) dX7_and_34 ca_X7_48 ⟨by decide, by decide⟩ h0 hA rfl (Nat.le_of_ble_eq_true rfl) (Nat.le_of_ble_eq_true rfl) (by decide) (cs_X7_become hG (oa_af h0 hA) (fun _ _ _ _ h => h)) rfl (fun _ h => nomatch h) (fun S226 hx230 hG227 hB228 hA229 => ?_)
      exact tt_vreturn dX7_and_37 rfl (hP _ _ _ _ ⟨hG227, hA229, Or.inl ⟨_, rfl, rfl, trivial, rfl, rfl⟩⟩)
set_option maxHeartbeats 4000000 in
theorem cs_X7_multiply {xi : SX} {S : Hp} {E : List Nat} {kc nc : Nat} {P : Po} {o0 : Nat} {o1 : Nat} {o2 : Nat} (hG : GI S E) (h0 : Oa S E 7 0 o0) (h1 : Oa S E 7 0 o1) (h2 : Oa S E 7 0 o2) (hP : ∀ r T x y, PV E [9987] S kc nc rV ex0 [] r T x y → P r T x y) : TT xi M_X7_multiply 0 [(0, .ref o0), (1, .ref o1), (2, .ref o2)] [] S kc nc P := by
  have hA : Af E [9987] S S := af_rf
  refine tt_aload_n (j := 1) dX7_multiply_0 rfl ?_
  refine gt_VIp (As := []) dX7_multiply_1 ca_X7_58 ⟨by decide, by decide⟩ h1 hA rfl (Nat.le_of_ble_eq_true rfl) (Nat.le_of_ble_eq_true rfl) (by decide) (cs_X7_isSingle hG (oa_af h1 hA) (fun _ _ _ _ h => h)) rfl (fun _ h => nomatch h) (fun _ _ q => q) (fun x106 h107 hx105 => ?_)
  have B108 : TT xi M_X7_multiply 32 [(0, .ref o0), (1, .ref o1), (2, .ref o2)] [] S kc nc P := by
    refine tt_aload_n (j := 0) dX7_multiply_32 rfl ?_
    refine tt_lconst (v := 0) dX7_multiply_33 rfl ?_
    refine tt_lconst (v := 0) dX7_multiply_34 rfl ?_
    refine tt_lconst (v := 0) dX7_multiply_35 rfl ?_
    refine gt_Vv (As := [.long 0, .long 0, .long 0]) dX7_multiply_36 ca_X7_48 ⟨by decide, by decide⟩ h0 hA rfl (Nat.le_of_ble_eq_true rfl) (Nat.le_of_ble_eq_true rfl) (by decide) (cs_X7_become hG (oa_af h0 hA) (fun _ _ _ _ h => h)) rfl (fun _ h => nomatch h) (fun S109 hx113 hG110 hB111 hA112 => ?_)
    exact tt_vreturn dX7_multiply_39 rfl (hP _ _ _ _ ⟨hG110, hA112, Or.inl ⟨_, rfl, rfl, trivial, rfl, rfl⟩⟩)
  have B114 : TT xi M_X7_multiply 16 [(0, .ref o0), (1, .ref o1), (2, .ref o2)] [] S kc nc P := by
    refine tt_aload_n (j := 2) dX7_multiply_16 rfl ?_
    refine gt_VIp (As := []) dX7_multiply_17 ca_X7_58 ⟨by decide, by decide⟩ h2 hA rfl (Nat.le_of_ble_eq_true rfl) (Nat.le_of_ble_eq_true rfl) (by decide) (cs_X7_isSingle hG (oa_af h2 hA) (fun _ _ _ _ h => h)) rfl (fun _ h => nomatch h) (fun _ _ q => q) (fun x120 h121 hx119 => ?_)
    have B122 : TT xi M_X7_multiply 40 [(0, .ref o0), (1, .ref o1), (2, .ref o2)] [] S kc nc P := by
      refine tt_aload_n (j := 1) dX7_multiply_40 rfl ?_
      refine gt_VIp (As := []) dX7_multiply_41 ca_X7_113 ⟨by decide, by decide⟩ h1 hA rfl (Nat.le_of_ble_eq_true rfl) (Nat.le_of_ble_eq_true rfl) (by decide) (cs_X7_isFactor hG (oa_af h1 hA) (fun _ _ _ _ h => h)) rfl (fun _ h => nomatch h) (fun _ _ q => q) (fun x128 h129 hx127 => ?_)
      have B130 : TT xi M_X7_multiply 54 [(0, .ref o0), (1, .ref o1), (2, .ref o2)] [] S kc nc P := by
        refine tt_aload_n (j := 0) dX7_multiply_54 rfl ?_
        refine gt_Vv (As := []) dX7_multiply_55 ca_X7_33 ⟨by decide, by decide⟩ h0 hA rfl (Nat.le_of_ble_eq_true rfl) (Nat.le_of_ble_eq_true rfl) (by decide) (cs_X7_becomeAny hG (oa_af h0 hA) (fun _ _ _ _ h => h)) rfl (fun _ h => nomatch h) (fun S131 hx135 hG132 hB133 hA134 => ?_)
        exact tt_vreturn dX7_multiply_58 rfl (hP _ _ _ _ ⟨hG132, hA134, Or.inl ⟨_, rfl, rfl, trivial, rfl, rfl⟩⟩)
      refine tt_if_eq (tgt := 54) dX7_multiply_44 rfl (fun q136 => ?_) (fun q136 => ?_)
      · skip
        have h137 : Rg 0 0 x128 := rg_eq_l h129 (⟨by decide, by decide⟩ : Rg 0 0 0) q136
        exact B130 
      · skip
        have h138 : Rg 1 1 x128 := rg_ne_lo h129 (⟨by decide, by decide⟩ : Rg 0 0 0) q136
        refine tt_aload_n (j := 2) dX7_multiply_47 rfl ?_
        refine gt_VIp (As := []) dX7_multiply_48 ca_X7_113 ⟨by decide, by decide⟩ h2 hA rfl (Nat.le_of_ble_eq_true rfl) (Nat.le_of_ble_eq_true rfl) (by decide) (cs_X7_isFactor hG (oa_af h2 hA) (fun _ _ _ _ h => h)) rfl (fun _ h => nomatch h) (fun _ _ q => q) (fun x144 h145 hx143 => ?_)
        refine tt_if_ne (tgt := 59) dX7_multiply_51 rfl (fun q146 => ?_) (fun q146 => ?_)
        · skip
          have h147 : Rg 1 1 x144 := rg_ne_lo h145 (⟨by decide, by decide⟩ : Rg 0 0 0) q146
          refine tt_aload_n (j := 1) dX7_multiply_59 rfl ?_
          refine gt_gJ (id := 448) (v := (hp_J S 448 o1)) dX7_multiply_60 fl_7_23 rfl rfl h1 hA rfl ?_
          refine tt_aload_n (j := 2) dX7_multiply_63 rfl ?_
          refine gt_gJ (id := 448) (v := (hp_J S 448 o2)) dX7_multiply_64 fl_7_23 rfl rfl h2 hA rfl ?_
          refine tt_lmul dX7_multiply_67 (gt_tl (fun y148 => ?_))
          refine tt_lstore_n (ks := [0, 1, 2, 3]) (L' := [(3, .long y148), (0, .ref o0), (1, .ref o1), (2, .ref o2)]) dX7_multiply_68 (by decide) rfl ?_
          refine tt_aload_n (j := 2) dX7_multiply_69 rfl ?_
          refine gt_gJ (id := 448) (v := (hp_J S 448 o1)) dX7_multiply_70 fl_7_23 rfl rfl h1 hA rfl ?_
          refine tt_aload_n (j := 3) dX7_multiply_73 rfl ?_
          refine gt_gJ (id := 449) (v := (hp_J S 449 o2)) dX7_multiply_74 fl_7_26 rfl rfl h2 hA rfl ?_
          refine tt_lmul dX7_multiply_77 (gt_tl (fun y149 => ?_))
          refine tt_lstore (ks := [0, 1, 2, 3, 4]) (L' := [(5, .long y149), (3, .long y148), (0, .ref o0), (1, .ref o1), (2, .ref o2)]) dX7_multiply_78 (by decide) rfl ?_
          refine tt_aload_n (j := 3) dX7_multiply_80 rfl ?_
          refine gt_gJ (id := 449) (v := (hp_J S 449 o1)) dX7_multiply_81 fl_7_26 rfl rfl h1 hA rfl ?_
          refine tt_aload_n (j := 4) dX7_multiply_84 rfl ?_
          refine gt_gJ (id := 448) (v := (hp_J S 448 o2)) dX7_multiply_85 fl_7_23 rfl rfl h2 hA rfl ?_
          refine tt_lmul dX7_multiply_88 (gt_tl (fun y150 => ?_))
          refine tt_lstore (ks := [0, 1, 2, 3, 4, 5]) (L' := [(7, .long y150), (5, .long y149), (3, .long y148), (0, .ref o0), (1, .ref o1), (2, .ref o2)]) dX7_multiply_89 (by decide) rfl ?_
          refine tt_aload_n (j := 4) dX7_multiply_91 rfl ?_
          refine gt_gJ (id := 449) (v := (hp_J S 449 o1)) dX7_multiply_92 fl_7_26 rfl rfl h1 hA rfl ?_
          refine tt_aload_n (j := 5) dX7_multiply_95 rfl ?_
          refine gt_gJ (id := 449) (v := (hp_J S 449 o2)) dX7_multiply_96 fl_7_26 rfl rfl h2 hA rfl ?_
          refine tt_lmul dX7_multiply_99 (gt_tl (fun y151 => ?_))
          refine tt_lstore (ks := [0, 1, 2, 3, 4, 5, 6]) (L' := [(9, .long y151), (7, .long y150), (5, .long y149), (3, .long y148), (0, .ref o0), (1, .ref o1), (2, .ref o2)]) dX7_multiply_100 (by decide) rfl ?_
          refine tt_lload_n (j := 3) dX7_multiply_102 rfl ?_
          refine tt_lload (j := 2) dX7_multiply_103 rfl ?_
          refine gt_SJp (As := [.long y148, .long y149]) dX7_multiply_105 ca_X7_40 ⟨by decide, by decide⟩ hA (Nat.le_of_ble_eq_true rfl) (Nat.le_of_ble_eq_true rfl) (by decide) (cs_J9_min_f86c9 hG  (fun _ _ _ _ h => h)) rfl (fun _ h => nomatch h) (fun _ _ q => q) (fun y157 hx156 => ?_)
          refine tt_lload (j := 1) dX7_multiply_108 rfl ?_
          refine tt_lload (j := 0) dX7_multiply_110 rfl ?_
          refine gt_SJp (As := [.long y150, .long y151]) dX7_multiply_112 ca_X7_40 ⟨by decide, by decide⟩ hA (Nat.le_of_ble_eq_true rfl) (Nat.le_of_ble_eq_true rfl) (by decide) (cs_J9_min_f86c9 hG  (fun _ _ _ _ h => h)) rfl (fun _ h => nomatch h) (fun _ _ q => q) (fun y164 hx163 => ?_)
          refine gt_SJp (As := [.long y157, .long y164]) dX7_multiply_115 ca_X7_40 ⟨by decide, by decide⟩ hA (Nat.le_of_ble_eq_true rfl) (Nat.le_of_ble_eq_true rfl) (by decide) (cs_J9_min_f86c9 hG  (fun _ _ _ _ h => h)) rfl (fun _ h => nomatch h) (fun _ _ q => q) (fun y171 hx170 => ?_)
          refine tt_lstore (ks := [0, 1, 2, 3, 4, 5, 6, 7]) (L' := [(11, .long y171), (9, .long y151), (7, .long y150), (5, .long y149), (3, .long y148), (0, .ref o0), (1, .ref o1), (2, .ref o2)]) dX7_multiply_118 (by decide) rfl ?_
          refine tt_lload_n (j := 4) dX7_multiply_120 rfl ?_
          refine tt_lload (j := 3) dX7_multiply_121 rfl ?_
          refine gt_SJp (As := [.long y148, .long y149]) dX7_multiply_123 ca_X7_45 ⟨by decide, by decide⟩ hA (Nat.le_of_ble_eq_true rfl) (Nat.le_of_ble_eq_true rfl) (by decide) (cs_J9_max_f86c9 hG  (fun _ _ _ _ h => h)) rfl (fun _ h => nomatch h) (fun _ _ q => q) (fun y178 hx177 => ?_)
          refine tt_lload (j := 2) dX7_multiply_126 rfl ?_
          refine tt_lload (j := 1) dX7_multiply_128 rfl ?_
          refine gt_SJp (As := [.long y150, .long y151]) dX7_multiply_130 ca_X7_45 ⟨by decide, by decide⟩ hA (Nat.le_of_ble_eq_true rfl) (Nat.le_of_ble_eq_true rfl) (by decide) (cs_J9_max_f86c9 hG  (fun _ _ _ _ h => h)) rfl (fun _ h => nomatch h) (fun _ _ q => q) (fun y185 hx184 => ?_)
          refine gt_SJp (As := [.long y178, .long y185]) dX7_multiply_133 ca_X7_45 ⟨by decide, by decide⟩ hA (Nat.le_of_ble_eq_true rfl) (Nat.le_of_ble_eq_true rfl) (by decide) (cs_J9_max_f86c9 hG  (fun _ _ _ _ h => h)) rfl (fun _ h => nomatch h) (fun _ _ q => q) (fun y192 hx191 => ?_)
          refine tt_lstore (ks := [0, 1, 2, 3, 4, 5, 6, 7, 8]) (L' := [(13, .long y192), (11, .long y171), (9, .long y151), (7, .long y150), (5, .long y149), (3, .long y148), (0, .ref o0), (1, .ref o1), (2, .ref o2)]) dX7_multiply_136 (by decide) rfl ?_
          refine tt_aload_n (j := 7) dX7_multiply_138 rfl ?_
          refine gt_gJ (id := 450) (v := (hp_J S 450 o1)) dX7_multiply_139 fl_7_15 rfl rfl h1 hA rfl ?_
          refine tt_aload_n (j := 8) dX7_multiply_142 rfl ?_
          refine gt_gJ (id := 448) (v := (hp_J S 448 o2)) dX7_multiply_143 fl_7_23 rfl rfl h2 hA rfl ?_
          refine tt_lmul dX7_multiply_146 (gt_tl (fun y194 => ?_))
          refine tt_aload_n (j := 8) dX7_multiply_147 rfl ?_
          refine gt_gJ (id := 450) (v := (hp_J S 450 o2)) dX7_multiply_148 fl_7_15 rfl rfl h2 hA rfl ?_
          refine tt_aload_n (j := 7) dX7_multiply_151 rfl ?_
          refine gt_gJ (id := 448) (v := (hp_J S 448 o1)) dX7_multiply_152 fl_7_23 rfl rfl h1 hA rfl ?_
          refine tt_lmul dX7_multiply_155 (gt_tl (fun y195 => ?_))
          refine gt_SJp (As := [.long y194, .long y195]) dX7_multiply_156 ca_X7_36 ⟨by decide, by decide⟩ hA (Nat.le_of_ble_eq_true rfl) (Nat.le_of_ble_eq_true rfl) (by decide) (cs_X7_gcd hG  (fun _ _ _ _ h => h)) rfl (fun _ h => nomatch h) (fun _ _ q => q) (fun y201 hx200 => ?_)
          refine tt_aload_n (j := 7) dX7_multiply_159 rfl ?_
          refine gt_gJ (id := 450) (v := (hp_J S 450 o1)) dX7_multiply_160 fl_7_15 rfl rfl h1 hA rfl ?_
          refine tt_aload_n (j := 8) dX7_multiply_163 rfl ?_
          refine gt_gJ (id := 450) (v := (hp_J S 450 o2)) dX7_multiply_164 fl_7_15 rfl rfl h2 hA rfl ?_
          refine tt_lmul dX7_multiply_167 (gt_tl (fun y203 => ?_))
          refine gt_SJp (As := [.long y201, .long y203]) dX7_multiply_168 ca_X7_36 ⟨by decide, by decide⟩ hA (Nat.le_of_ble_eq_true rfl) (Nat.le_of_ble_eq_true rfl) (by decide) (cs_X7_gcd hG  (fun _ _ _ _ h => h)) rfl (fun _ h => nomatch h) (fun _ _ q => q) (fun y209 hx208 => ?_)
          refine tt_lstore (ks := [0, 1, 2, 3, 4, 5, 6, 7, 8, 9]) (L' := [(15, .long y209), (13, .long y192), (11, .long y171), (9, .long y151), (7, .long y150), (5, .long y149), (3, .long y148), (0, .ref o0), (1, .ref o1), (2, .ref o2)]) dX7_multiply_171 (by decide) rfl ?_
          refine tt_aload_n (j := 7) dX7_multiply_173 rfl ?_
          refine tt_lload (j := 2) dX7_multiply_174 rfl ?_
          refine tt_lload (j := 1) dX7_multiply_176 rfl ?_
          refine tt_lload (j := 0) dX7_multiply_178 rfl ?_
          refine gt_Vv (As := [.long y171, .long y192, .long y209]) dX7_multiply_180 ca_X7_48 ⟨by decide, by decide⟩ h0 hA rfl (Nat.le_of_ble_eq_true rfl) (Nat.le_of_ble_eq_true rfl) (by decide) (cs_X7_become hG (oa_af h0 hA) (fun _ _ _ _ h => h)) rfl (fun _ h => nomatch h) (fun S211 hx215 hG212 hB213 hA214 => ?_)
          exact tt_vreturn dX7_multiply_183 rfl (hP _ _ _ _ ⟨hG212, hA214, Or.inl ⟨_, rfl, rfl, trivial, rfl, rfl⟩⟩)
        · skip
          have h216 : Rg 0 0 x144 := rg_eq_l h145 (⟨by decide, by decide⟩ : Rg 0 0 0) q146
          exact B130 
    refine tt_if_eq (tgt := 40) dX7_multiply_20 rfl (fun q217 => ?_) (fun q217 => ?_)
    · skip
      have h218 : Rg 0 0 x120 := rg_eq_l h121 (⟨by decide, by decide⟩ : Rg 0 0 0) q217
      exact B122 
    · skip
      have h219 : Rg 1 1 x120 := rg_ne_lo h121 (⟨by decide, by decide⟩ : Rg 0 0 0) q217
      refine tt_aload_n (j := 2) dX7_multiply_23 rfl ?_
      refine gt_gJ (id := 448) (v := (hp_J S 448 o2)) dX7_multiply_24 fl_7_23 rfl rfl h2 hA rfl ?_
      refine tt_lconst (v := 0) dX7_multiply_27 rfl ?_
      refine tt_lcmp dX7_multiply_28 ?_
      refine tt_if_ne (tgt := 40) dX7_multiply_29 rfl (fun q220 => ?_) (fun q220 => ?_)
      · skip
        exact B122 
      · skip
        have h221 : Rl 0 0 (hp_J S 448 o2) := rl_eq_l (rl_all (hp_J S 448 o2)) (⟨by decide, by decide⟩ : Rl 0 0 0) (lc_ne_f q220)
        exact B108 
  refine tt_if_eq (tgt := 16) dX7_multiply_4 rfl (fun q222 => ?_) (fun q222 => ?_)
  · skip
    have h223 : Rg 0 0 x106 := rg_eq_l h107 (⟨by decide, by decide⟩ : Rg 0 0 0) q222
    exact B114 
  · skip
    have h224 : Rg 1 1 x106 := rg_ne_lo h107 (⟨by decide, by decide⟩ : Rg 0 0 0) q222
    refine tt_aload_n (j := 1) dX7_multiply_7 rfl ?_
    refine gt_gJ (id := 448) (v := (hp_J S 448 o1)) dX7_multiply_8 fl_7_23 rfl rfl h1 hA rfl ?_
    refine tt_lconst (v := 0) dX7_multiply_11 rfl ?_
    refine tt_lcmp dX7_multiply_12 ?_
    refine tt_if_eq (tgt := 32) dX7_multiply_13 rfl (fun q225 => ?_) (fun q225 => ?_)
    · skip
      have h226 : Rl 0 0 (hp_J S 448 o1) := rl_eq_l (rl_all (hp_J S 448 o1)) (⟨by decide, by decide⟩ : Rl 0 0 0) (lc_eq_t q225)
      exact B108 
    · skip
      exact B114 
set_option maxHeartbeats 4000000 in
theorem cs_X8_keep {xi : SX} {S : Hp} {E : List Nat} {kc nc : Nat} {P : Po} {o0 : Nat} {x1 : Int32} {y2 : Int64} {y4 : Int64} {y6 : Int64} (hG : GI S E) (h0 : Oa S E 8 0 o0) (hP : ∀ r T x y, PV E [9994] S kc nc rV ex0 [] r T x y → P r T x y) : TT xi M_X8_keep 0 [(0, .ref o0), (1, .int x1), (2, .long y2), (4, .long y4), (6, .long y6)] [] S kc nc P := by
  have hA : Af E [9994] S S := af_rf
  refine tt_iload_n (j := 1) dX8_keep_0 rfl ?_
  refine gt_SNIp (As := [.int x1]) dX8_keep_1 ca_X8_35 ⟨by decide, by decide⟩ hA (Nat.le_of_ble_eq_true rfl) (Nat.le_of_ble_eq_true rfl) (by decide) (cs_X9_isLocation hG  (fun _ _ _ _ h => h)) (fun _ _ q => q.1) (fun x106 h107 hx105 => ?_)
  have B108 : ∀ (S109 : Hp), GI S109 E → Af E [9994] S S109 → TT xi M_X8_keep 30 [(0, .ref o0), (1, .int x1), (2, .long y2), (4, .long y4), (6, .long y6)] [] S109 kc nc P := by
    intro S109 hG110 hA111
    exact tt_vreturn dX8_keep_30 rfl (hP _ _ _ _ ⟨hG110, hA111, Or.inl ⟨_, rfl, rfl, trivial, rfl, rfl⟩⟩)
  refine tt_if_eq (tgt := 30) dX8_keep_4 rfl (fun q112 => ?_) (fun q112 => ?_)
  · skip
    have h113 : Rg 0 0 x106 := rg_eq_l h107 (⟨by decide, by decide⟩ : Rg 0 0 0) q112
    exact B108 S hG hA
  · skip
    have h114 : Rg 1 1 x106 := rg_ne_lo h107 (⟨by decide, by decide⟩ : Rg 0 0 0) q112
    have h115 : Rg 0 23 x1 := (((hx105.2) _ rfl).1 q112)
    refine tt_aload_n (j := 0) dX8_keep_7 rfl ?_
    obtain ⟨b116, hr117, ho118⟩ := gi_R (k := 512) hG h0 33 24
    refine gt_gR (id := 512) dX8_keep_8 fl_8_9 rfl rfl h0 hA hr117 ?_
    refine tt_iload_n (j := 1) dX8_keep_11 rfl ?_
    refine tt_lload_n (j := 2) dX8_keep_12 rfl ?_
    refine gt_lS dX8_keep_13 ho118 hA (rg_in h115) hG (Or.inl (by decide)) (Or.inr (ow_mk 9994 (k := 512) h0 hr117)) (fun S119 hG120 hA121 e122 f123 er124 => ?_)
    refine tt_aload_n (j := 0) dX8_keep_14 rfl ?_
    obtain ⟨b125, hr126, ho127⟩ := gi_R (k := 513) hG h0 33 24
    refine gt_gR (id := 513) dX8_keep_15 fl_8_15 rfl rfl h0 hA121 hr126 ?_
    refine tt_iload_n (j := 1) dX8_keep_18 rfl ?_
    refine tt_lload (j := 3) dX8_keep_19 rfl ?_
    refine gt_lS dX8_keep_21 ho127 hA121 (rg_in h115) hG120 (Or.inl (by decide)) (Or.inr (ow_mk 9994 (k := 513) h0 hr126)) (fun S128 hG129 hA130 e131 f132 er133 => ?_)
    refine tt_aload_n (j := 0) dX8_keep_22 rfl ?_
    obtain ⟨b134, hr135, ho136⟩ := gi_R (k := 514) hG h0 33 24
    refine gt_gR (id := 514) dX8_keep_23 fl_8_18 rfl rfl h0 hA130 hr135 ?_
    refine tt_iload_n (j := 1) dX8_keep_26 rfl ?_
    refine tt_lload (j := 4) dX8_keep_27 rfl ?_
    refine gt_lS dX8_keep_29 ho136 hA130 (rg_in h115) hG129 (Or.inl (by decide)) (Or.inr (ow_mk 9994 (k := 514) h0 hr135)) (fun S137 hG138 hA139 e140 f141 er142 => ?_)
    exact B108 S137 hG138 hA139
set_option maxHeartbeats 4000000 in
theorem cs_X8_store {xi : SX} {S : Hp} {E : List Nat} {kc nc : Nat} {P : Po} {o0 : Nat} {x1 : Int32} {o2 : Nat} (hG : GI S E) (h0 : Oa S E 8 0 o0) (h2 : Oa S E 7 0 o2) (hP : ∀ r T x y, PV E [9994] S kc nc rV ex0 [] r T x y → P r T x y) : TT xi M_X8_store 0 [(0, .ref o0), (1, .int x1), (2, .ref o2)] [] S kc nc P := by
  have hA : Af E [9994] S S := af_rf
  refine tt_aload_n (j := 0) dX8_store_0 rfl ?_
  refine tt_iload_n (j := 1) dX8_store_1 rfl ?_
  refine tt_aload_n (j := 2) dX8_store_2 rfl ?_
  refine gt_gJ (id := 448) (v := (hp_J S 448 o2)) dX8_store_3 fl_8_39 rfl rfl h2 hA rfl ?_
  refine tt_aload_n (j := 2) dX8_store_6 rfl ?_
  refine gt_gJ (id := 449) (v := (hp_J S 449 o2)) dX8_store_7 fl_8_43 rfl rfl h2 hA rfl ?_
  refine tt_aload_n (j := 2) dX8_store_10 rfl ?_
  refine gt_gJ (id := 450) (v := (hp_J S 450 o2)) dX8_store_11 fl_8_46 rfl rfl h2 hA rfl ?_
  refine gt_Vv (As := [.int x1, .long (hp_J S 448 o2), .long (hp_J S 449 o2), .long (hp_J S 450 o2)]) dX8_store_14 ca_X8_49 ⟨by decide, by decide⟩ h0 hA rfl (Nat.le_of_ble_eq_true rfl) (Nat.le_of_ble_eq_true rfl) (by decide) (cs_X8_keep hG (oa_af h0 hA) (fun _ _ _ _ h => h)) rfl (fun _ h => nomatch h) (fun S101 hx105 hG102 hB103 hA104 => ?_)
  exact tt_vreturn dX8_store_17 rfl (hP _ _ _ _ ⟨hG102, hA104, Or.inl ⟨_, rfl, rfl, trivial, rfl, rfl⟩⟩)
set_option maxHeartbeats 4000000 in
theorem cs_X8_load {xi : SX} {S : Hp} {E : List Nat} {kc nc : Nat} {P : Po} {o0 : Nat} {x1 : Int32} {o2 : Nat} (hG : GI S E) (h0 : Oa S E 8 0 o0) (h2 : Oa S E 7 0 o2) (hP : ∀ r T x y, PV E [9987] S kc nc rV ex0 [] r T x y → P r T x y) : TT xi M_X8_load 0 [(0, .ref o0), (1, .int x1), (2, .ref o2)] [] S kc nc P := by
  have hA : Af E [9987] S S := af_rf
  refine tt_iload_n (j := 1) dX8_load_0 rfl ?_
  refine gt_SNIp (As := [.int x1]) dX8_load_1 ca_X8_35 ⟨by decide, by decide⟩ hA (Nat.le_of_ble_eq_true rfl) (Nat.le_of_ble_eq_true rfl) (by decide) (cs_X9_isLocation hG  (fun _ _ _ _ h => h)) (fun _ _ q => q.1) (fun x106 h107 hx105 => ?_)
  have B108 : ∀ (S109 : Hp), GI S109 E → Af E [9987] S S109 → TT xi M_X8_load 44 [(0, .ref o0), (1, .int x1), (2, .ref o2)] [] S109 kc nc P := by
    intro S109 hG110 hA111
    exact tt_vreturn dX8_load_44 rfl (hP _ _ _ _ ⟨hG110, hA111, Or.inl ⟨_, rfl, rfl, trivial, rfl, rfl⟩⟩)
  refine tt_if_eq (tgt := 40) dX8_load_4 rfl (fun q112 => ?_) (fun q112 => ?_)
  · skip
    have h113 : Rg 0 0 x106 := rg_eq_l h107 (⟨by decide, by decide⟩ : Rg 0 0 0) q112
    refine tt_aload_n (j := 2) dX8_load_40 rfl ?_
    refine gt_Vv (As := []) dX8_load_41 ca_X8_53 ⟨by decide, by decide⟩ h2 hA rfl (Nat.le_of_ble_eq_true rfl) (Nat.le_of_ble_eq_true rfl) (by decide) (cs_X7_becomeAny hG (oa_af h2 hA) (fun _ _ _ _ h => h)) rfl (fun _ h => nomatch h) (fun S114 hx118 hG115 hB116 hA117 => ?_)
    exact B108 S114 hG115 hA117
  · skip
    have h119 : Rg 1 1 x106 := rg_ne_lo h107 (⟨by decide, by decide⟩ : Rg 0 0 0) q112
    have h120 : Rg 0 23 x1 := (((hx105.2) _ rfl).1 q112)
    refine tt_aload_n (j := 2) dX8_load_7 rfl ?_
    refine tt_aload_n (j := 0) dX8_load_8 rfl ?_
    obtain ⟨b121, hr122, ho123⟩ := gi_R (k := 512) hG h0 33 24
    refine gt_gR (id := 512) dX8_load_9 fl_8_9 rfl rfl h0 hA hr122 ?_
    refine tt_iload_n (j := 1) dX8_load_12 rfl ?_
    refine gt_lLt dX8_load_13 ho123 hA (rg_in h120) ?_
    refine gt_pJ (id := 448) (x := (hp_j S b121 (x1 : Int32).toNatClampNeg)) dX8_load_14 fl_8_39 rfl rfl h2 hA rfl rfl rfl hG (fun S124 hG125 hA126 e127 f128 er129 => ?_)
    refine tt_aload_n (j := 2) dX8_load_17 rfl ?_
    refine tt_aload_n (j := 0) dX8_load_18 rfl ?_
    obtain ⟨b130, hr131, ho132⟩ := gi_R (k := 513) hG h0 33 24
    refine gt_gR (id := 513) dX8_load_19 fl_8_15 rfl rfl h0 hA126 hr131 ?_
    refine tt_iload_n (j := 1) dX8_load_22 rfl ?_
    refine gt_lLt dX8_load_23 ho132 hA126 (rg_in h120) ?_
    refine gt_pJ (id := 449) (x := (hp_j S124 b130 (x1 : Int32).toNatClampNeg)) dX8_load_24 fl_8_43 rfl rfl h2 hA126 rfl rfl rfl hG125 (fun S133 hG134 hA135 e136 f137 er138 => ?_)
    refine tt_aload_n (j := 2) dX8_load_27 rfl ?_
    refine tt_aload_n (j := 0) dX8_load_28 rfl ?_
    obtain ⟨b139, hr140, ho141⟩ := gi_R (k := 514) hG h0 33 24
    refine gt_gR (id := 514) dX8_load_29 fl_8_18 rfl rfl h0 hA135 hr140 ?_
    refine tt_iload_n (j := 1) dX8_load_32 rfl ?_
    refine gt_lLt dX8_load_33 ho141 hA135 (rg_in h120) ?_
    refine gt_pJ (id := 450) (x := (hp_j S133 b139 (x1 : Int32).toNatClampNeg)) dX8_load_34 fl_8_46 rfl rfl h2 hA135 rfl rfl rfl hG134 (fun S142 hG143 hA144 e145 f146 er147 => ?_)
    refine tt_goto (tgt := 44) dX8_load_37 rfl ?_
    exact B108 S142 hG143 hA144
set_option maxHeartbeats 4000000 in
theorem cs_X8_copyFrom {xi : SX} {S : Hp} {E : List Nat} {kc nc : Nat} {P : Po} {o0 : Nat} {o1 : Nat} (hG : GI S E) (h0 : Oa S E 8 0 o0) (h1 : Oa S E 8 0 o1) (hP : ∀ r T x y, PV E [515, 516, 517, 9987, 9994] S kc nc rV ex0 [] r T x y → P r T x y) : TT xi M_X8_copyFrom 0 [(0, .ref o0), (1, .ref o1)] [] S kc nc P := by
  have hA : Af E [515, 516, 517, 9987, 9994] S S := af_rf
  refine tt_aload_n (j := 1) dX8_copyFrom_0 rfl ?_
  obtain ⟨b101, hr102, ho103⟩ := gi_R (k := 512) hG h1 33 24
  refine gt_gR (id := 512) dX8_copyFrom_1 fl_8_9 rfl rfl h1 hA hr102 ?_
  refine tt_iconst (v := 0) dX8_copyFrom_4 rfl ?_
  refine tt_aload_n (j := 0) dX8_copyFrom_5 rfl ?_
  obtain ⟨b104, hr105, ho106⟩ := gi_R (k := 512) hG h0 33 24
  refine gt_gR (id := 512) dX8_copyFrom_6 fl_8_9 rfl rfl h0 hA hr105 ?_
  refine tt_iconst (v := 0) dX8_copyFrom_9 rfl ?_
  refine tt_bipush (v := 24) dX8_copyFrom_10 rfl ?_
  refine gt_cp dX8_copyFrom_12 ca_X8_56 ho103 ho106 hA (ow_mk 9994 (k := 512) h0 hr105) ⟨by decide, by decide⟩ hG (fun S107 hG108 hA109 e110 f111 er112 => ?_)
  refine tt_aload_n (j := 1) dX8_copyFrom_15 rfl ?_
  obtain ⟨b113, hr114, ho115⟩ := gi_R (k := 513) hG h1 33 24
  refine gt_gR (id := 513) dX8_copyFrom_16 fl_8_15 rfl rfl h1 hA109 hr114 ?_
  refine tt_iconst (v := 0) dX8_copyFrom_19 rfl ?_
  refine tt_aload_n (j := 0) dX8_copyFrom_20 rfl ?_
  obtain ⟨b116, hr117, ho118⟩ := gi_R (k := 513) hG h0 33 24
  refine gt_gR (id := 513) dX8_copyFrom_21 fl_8_15 rfl rfl h0 hA109 hr117 ?_
  refine tt_iconst (v := 0) dX8_copyFrom_24 rfl ?_
  refine tt_bipush (v := 24) dX8_copyFrom_25 rfl ?_
  refine gt_cp dX8_copyFrom_27 ca_X8_56 ho115 ho118 hA109 (ow_mk 9994 (k := 513) h0 hr117) ⟨by decide, by decide⟩ hG108 (fun S119 hG120 hA121 e122 f123 er124 => ?_)
  refine tt_aload_n (j := 1) dX8_copyFrom_30 rfl ?_
  obtain ⟨b125, hr126, ho127⟩ := gi_R (k := 514) hG h1 33 24
  refine gt_gR (id := 514) dX8_copyFrom_31 fl_8_18 rfl rfl h1 hA121 hr126 ?_
  refine tt_iconst (v := 0) dX8_copyFrom_34 rfl ?_
  refine tt_aload_n (j := 0) dX8_copyFrom_35 rfl ?_
  obtain ⟨b128, hr129, ho130⟩ := gi_R (k := 514) hG h0 33 24
  refine gt_gR (id := 514) dX8_copyFrom_36 fl_8_18 rfl rfl h0 hA121 hr129 ?_
  refine tt_iconst (v := 0) dX8_copyFrom_39 rfl ?_
  refine tt_bipush (v := 24) dX8_copyFrom_40 rfl ?_
  refine gt_cp dX8_copyFrom_42 ca_X8_56 ho127 ho130 hA121 (ow_mk 9994 (k := 514) h0 hr129) ⟨by decide, by decide⟩ hG120 (fun S131 hG132 hA133 e134 f135 er136 => ?_)
  refine tt_aload_n (j := 0) dX8_copyFrom_45 rfl ?_
  refine tt_aload_n (j := 1) dX8_copyFrom_46 rfl ?_
  refine tt_getI (id := 515) dX8_copyFrom_47 fl_8_21 rfl rfl (ob_af h1 hA133) ?_
  refine tt_aload_n (j := 1) dX8_copyFrom_50 rfl ?_
  refine tt_getI (id := 516) dX8_copyFrom_51 fl_8_25 rfl rfl (ob_af h1 hA133) ?_
  refine tt_aload_n (j := 1) dX8_copyFrom_54 rfl ?_
  refine tt_getI (id := 517) dX8_copyFrom_55 fl_8_28 rfl rfl (ob_af h1 hA133) ?_
  refine tt_aload_n (j := 1) dX8_copyFrom_58 rfl ?_
  refine gt_gJ (id := 518) (v := (hp_J S131 518 o1)) dX8_copyFrom_59 fl_8_62 rfl rfl h1 hA133 rfl ?_
  refine gt_Vv (As := [.int (hp_I S131 515 o1), .int (hp_I S131 516 o1), .int (hp_I S131 517 o1), .long (hp_J S131 518 o1)]) dX8_copyFrom_62 ca_X8_65 ⟨by decide, by decide⟩ h0 hA133 rfl (Nat.le_of_ble_eq_true rfl) (Nat.le_of_ble_eq_true rfl) (by decide) (cs_X8_setRecord hG132 (oa_af h0 hA133) (fun _ _ _ _ h => h)) rfl (fun _ h => nomatch h) (fun S137 hx141 hG138 hB139 hA140 => ?_)
  exact tt_vreturn dX8_copyFrom_65 rfl (hP _ _ _ _ ⟨hG138, hA140, Or.inl ⟨_, rfl, rfl, trivial, rfl, rfl⟩⟩)
set_option maxHeartbeats 4000000 in
theorem cs_X9_feed {xi : SX} {S : Hp} {E : List Nat} {kc nc : Nat} {P : Po} {o0 : Nat} {x1 : Int32} {x2 : Int32} {x3 : Int32} {x4 : Int32} {x5 : Int32} (hG : GI S E) (h0 : Oa S E 9 0 o0) (hkc : 1 ≤ kc) (hnc : 6 ≤ nc) (hP : ∀ r T x y, PV E [65, 321, 322, 388, 9995] S kc nc (rI (-2147483648) 2147483647) ex0 ["java/lang/IllegalArgumentException", "java/lang/IllegalStateException"] r T x y → P r T x y) : TT xi M_X9_feed 0 [(0, .ref o0), (1, .int x1), (2, .int x2), (3, .int x3), (4, .int x4), (5, .int x5)] [] S kc nc P := by
  have hA : Af E [65, 321, 322, 388, 9995] S S := af_rf
  refine tt_iload_n (j := 1) dX9_feed_0 rfl ?_
  have B101 : TT xi M_X9_feed 10 [(0, .ref o0), (1, .int x1), (2, .int x2), (3, .int x3), (4, .int x4), (5, .int x5)] [] S kc nc P := by
    exact tt_throw th_X9_feed_10 (hP _ _ _ _ ⟨hG, hA, Or.inr ⟨_, List.mem_cons_self, rfl⟩⟩) hkc hnc (by decide)
  refine tt_if_lt (tgt := 10) dX9_feed_1 rfl (fun q102 => ?_) (fun q102 => ?_)
  · skip
    have h103 : Rg (-2147483648) (-1) x1 := rg_lt_l (rg_all x1) (⟨by decide, by decide⟩ : Rg 0 0 0) q102
    exact B101 
  · skip
    have h104 : Rg 0 2147483647 x1 := rg_le_r (⟨by decide, by decide⟩ : Rg 0 0 0) (rg_all x1) (nlt_le q102)
    refine tt_iload_n (j := 1) dX9_feed_4 rfl ?_
    refine tt_bipush (v := 16) dX9_feed_5 rfl ?_
    refine tt_icmp_le (tgt := 20) dX9_feed_7 rfl (fun q105 => ?_) (fun q105 => ?_)
    · skip
      have h106 : Rg 0 16 x1 := rg_le_l h104 (⟨by decide, by decide⟩ : Rg 16 16 16) q105
      refine tt_aload_n (j := 0) dX9_feed_20 rfl ?_
      obtain ⟨b107, hr108, ho109⟩ := gi_R (k := 576) hG h0 1 0
      refine gt_gR (id := 576) dX9_feed_21 fl_9_10 rfl rfl h0 hA hr108 ?_
      refine tt_getI (id := 65) dX9_feed_24 fl_9_55 rfl rfl (ob_af ho109 hA) ?_
      refine tt_iload_n (j := 1) dX9_feed_27 rfl ?_
      refine tt_iadd dX9_feed_28 ?_
      refine tt_sipush (v := 200) dX9_feed_29 rfl ?_
      refine tt_icmp_le (tgt := 45) dX9_feed_32 rfl (fun q110 => ?_) (fun q110 => ?_)
      · skip
        have h111 : Rg 0 200 ((hp_I S 65 b107) + x1) := rg_le_l (rg_add (lo := 0) (hi := 216) (gi_I (k := 65) hG (oa_af ho109 hA) 0 200) h106) (⟨by decide, by decide⟩ : Rg 200 200 200) q110
        refine tt_aload_n (j := 0) dX9_feed_45 rfl ?_
        refine gt_gR (id := 576) dX9_feed_46 fl_9_10 rfl rfl h0 hA hr108 ?_
        refine tt_iload_n (j := 1) dX9_feed_49 rfl ?_
        refine tt_iconst (v := 4) dX9_feed_50 rfl ?_
        refine gt_SIp (As := [.int x1, .int 4]) dX9_feed_51 ca_X9_64 ⟨by decide, by decide⟩ hA (Nat.le_of_ble_eq_true rfl) (Nat.le_of_ble_eq_true rfl) (by decide) (cs_J9_min_7cf53 hG  (fun _ _ _ _ h => h)) rfl (fun _ h => nomatch h) (fun _ _ q => q) (fun x117 h118 hx116 => ?_)
        refine tt_iload_n (j := 2) dX9_feed_54 rfl ?_
        refine gt_Vv (As := [.int x117, .int x2]) dX9_feed_55 ca_X9_70 ⟨by decide, by decide⟩ ho109 hA rfl (Nat.le_of_ble_eq_true rfl) (Nat.le_of_ble_eq_true rfl) (by decide) (cs_X1_append hG (oa_af ho109 hA) (fun _ _ _ _ h => h)) rfl (fun _ h => nomatch h) (fun S119 hx123 hG120 hB121 hA122 => ?_)
        refine tt_aload_n (j := 0) dX9_feed_58 rfl ?_
        refine gt_gR (id := 576) dX9_feed_59 fl_9_10 rfl rfl h0 hA122 hr108 ?_
        refine tt_iload_n (j := 1) dX9_feed_62 rfl ?_
        refine tt_iconst (v := 4) dX9_feed_63 rfl ?_
        refine tt_isub dX9_feed_64 ?_
        refine tt_iconst (v := 4) dX9_feed_65 rfl ?_
        refine gt_SIp (As := [.int (x1 - 4), .int 4]) dX9_feed_66 ca_X9_64 ⟨by decide, by decide⟩ hA122 (Nat.le_of_ble_eq_true rfl) (Nat.le_of_ble_eq_true rfl) (by decide) (cs_J9_min_7cf53 hG120  (fun _ _ _ _ h => h)) rfl (fun _ h => nomatch h) (fun _ _ q => q) (fun x129 h130 hx128 => ?_)
        refine tt_iload_n (j := 3) dX9_feed_69 rfl ?_
        refine gt_Vv (As := [.int x129, .int x3]) dX9_feed_70 ca_X9_70 ⟨by decide, by decide⟩ ho109 hA122 rfl (Nat.le_of_ble_eq_true rfl) (Nat.le_of_ble_eq_true rfl) (by decide) (cs_X1_append hG120 (oa_af ho109 hA122) (fun _ _ _ _ h => h)) rfl (fun _ h => nomatch h) (fun S131 hx135 hG132 hB133 hA134 => ?_)
        refine tt_aload_n (j := 0) dX9_feed_73 rfl ?_
        refine gt_gR (id := 576) dX9_feed_74 fl_9_10 rfl rfl h0 hA134 hr108 ?_
        refine tt_iload_n (j := 1) dX9_feed_77 rfl ?_
        refine tt_bipush (v := 8) dX9_feed_78 rfl ?_
        refine tt_isub dX9_feed_80 ?_
        refine tt_iconst (v := 4) dX9_feed_81 rfl ?_
        refine gt_SIp (As := [.int (x1 - 8), .int 4]) dX9_feed_82 ca_X9_64 ⟨by decide, by decide⟩ hA134 (Nat.le_of_ble_eq_true rfl) (Nat.le_of_ble_eq_true rfl) (by decide) (cs_J9_min_7cf53 hG132  (fun _ _ _ _ h => h)) rfl (fun _ h => nomatch h) (fun _ _ q => q) (fun x141 h142 hx140 => ?_)
        refine tt_iload (j := 4) dX9_feed_85 rfl ?_
        refine gt_Vv (As := [.int x141, .int x4]) dX9_feed_87 ca_X9_70 ⟨by decide, by decide⟩ ho109 hA134 rfl (Nat.le_of_ble_eq_true rfl) (Nat.le_of_ble_eq_true rfl) (by decide) (cs_X1_append hG132 (oa_af ho109 hA134) (fun _ _ _ _ h => h)) rfl (fun _ h => nomatch h) (fun S143 hx147 hG144 hB145 hA146 => ?_)
        refine tt_aload_n (j := 0) dX9_feed_90 rfl ?_
        refine gt_gR (id := 576) dX9_feed_91 fl_9_10 rfl rfl h0 hA146 hr108 ?_
        refine tt_iload_n (j := 1) dX9_feed_94 rfl ?_
        refine tt_bipush (v := 12) dX9_feed_95 rfl ?_
        refine tt_isub dX9_feed_97 ?_
        refine tt_iconst (v := 4) dX9_feed_98 rfl ?_
        refine gt_SIp (As := [.int (x1 - 12), .int 4]) dX9_feed_99 ca_X9_64 ⟨by decide, by decide⟩ hA146 (Nat.le_of_ble_eq_true rfl) (Nat.le_of_ble_eq_true rfl) (by decide) (cs_J9_min_7cf53 hG144  (fun _ _ _ _ h => h)) rfl (fun _ h => nomatch h) (fun _ _ q => q) (fun x153 h154 hx152 => ?_)
        refine tt_iload (j := 5) dX9_feed_102 rfl ?_
        refine gt_Vv (As := [.int x153, .int x5]) dX9_feed_104 ca_X9_70 ⟨by decide, by decide⟩ ho109 hA146 rfl (Nat.le_of_ble_eq_true rfl) (Nat.le_of_ble_eq_true rfl) (by decide) (cs_X1_append hG144 (oa_af ho109 hA146) (fun _ _ _ _ h => h)) rfl (fun _ h => nomatch h) (fun S155 hx159 hG156 hB157 hA158 => ?_)
        refine tt_aload_n (j := 0) dX9_feed_107 rfl ?_
        refine gt_Vv (As := []) dX9_feed_108 ca_X9_74 ⟨by decide, by decide⟩ h0 hA158 rfl (Nat.le_of_ble_eq_true rfl) (Nat.le_of_ble_eq_true rfl) (by decide) (cs_X9_forgetFindings hG156 (oa_af h0 hA158) (fun _ _ _ _ h => h)) rfl (fun _ h => nomatch h) (fun S160 hx164 hG161 hB162 hA163 => ?_)
        refine tt_aload_n (j := 0) dX9_feed_111 rfl ?_
        refine gt_gR (id := 576) dX9_feed_112 fl_9_10 rfl rfl h0 hA163 hr108 ?_
        refine tt_getI (id := 65) dX9_feed_115 fl_9_55 rfl rfl (ob_af ho109 hA163) ?_
        exact tt_ireturn dX9_feed_118 .int rfl rfl (hP _ _ _ _ ⟨hG161, hA163, Or.inl ⟨_, rfl, ⟨_, rfl, rg_w (gi_I (k := 65) hG161 (oa_af ho109 hA163) 0 200)⟩, trivial, rfl, rfl⟩⟩)
      · skip
        have h165 : Rg 201 216 ((hp_I S 65 b107) + x1) := rg_lt_r (⟨by decide, by decide⟩ : Rg 200 200 200) (rg_add (lo := 0) (hi := 216) (gi_I (k := 65) hG (oa_af ho109 hA) 0 200) h106) (nle_lt q110)
        exact tt_throw th_X9_feed_35 (hP _ _ _ _ ⟨hG, hA, Or.inr ⟨_, (List.mem_cons_of_mem _ List.mem_cons_self), rfl⟩⟩) hkc hnc (by decide)
    · skip
      have h166 : Rg 17 2147483647 x1 := rg_lt_r (⟨by decide, by decide⟩ : Rg 16 16 16) h104 (nle_lt q105)
      exact B101 
set_option maxHeartbeats 4000000 in
theorem cs_X9_erase {xi : SX} {S : Hp} {E : List Nat} {kc nc : Nat} {P : Po} {o0 : Nat} (hG : GI S E) (h0 : Oa S E 9 0 o0) (hP : ∀ r T x y, PV E [65, 321, 322, 388] S kc nc (rI (-2147483648) 2147483647) ex0 [] r T x y → P r T x y) : TT xi M_X9_erase 0 [(0, .ref o0)] [] S kc nc P := by
  have hA : Af E [65, 321, 322, 388] S S := af_rf
  refine tt_aload_n (j := 0) dX9_erase_0 rfl ?_
  obtain ⟨b101, hr102, ho103⟩ := gi_R (k := 576) hG h0 1 0
  refine gt_gR (id := 576) dX9_erase_1 fl_9_10 rfl rfl h0 hA hr102 ?_
  refine tt_getI (id := 65) dX9_erase_4 fl_9_55 rfl rfl (ob_af ho103 hA) ?_
  refine tt_istore_n (ks := [0, 1]) (L' := [(1, .int (hp_I S 65 b101)), (0, .ref o0)]) dX9_erase_7 (by decide) rfl ?_
  refine tt_aload_n (j := 1) dX9_erase_8 rfl ?_
  refine gt_gR (id := 576) dX9_erase_9 fl_9_10 rfl rfl h0 hA hr102 ?_
  refine tt_iconst (v := 0) dX9_erase_12 rfl ?_
  refine gt_pI (id := 65) (x := 0) dX9_erase_13 fl_9_55 rfl rfl ho103 hA rfl rfl rfl (gp_Ir hG (⟨by decide, by decide⟩ : Rg 0 0 0)) (by decide) (fun h => absurd h (by decide)) (fun h => absurd h (by decide)) (fun S104 hG105 hA106 e107 f108 er109 => ?_)
  refine tt_aload_n (j := 1) dX9_erase_16 rfl ?_
  refine gt_Vv (As := []) dX9_erase_17 ca_X9_74 ⟨by decide, by decide⟩ h0 hA106 rfl (Nat.le_of_ble_eq_true rfl) (Nat.le_of_ble_eq_true rfl) (by decide) (cs_X9_forgetFindings hG105 (oa_af h0 hA106) (fun _ _ _ _ h => h)) rfl (fun _ h => nomatch h) (fun S110 hx114 hG111 hB112 hA113 => ?_)
  refine tt_iload_n (j := 0) dX9_erase_20 rfl ?_
  exact tt_ireturn dX9_erase_21 .int rfl rfl (hP _ _ _ _ ⟨hG111, hA113, Or.inl ⟨_, rfl, ⟨_, rfl, rg_w (gi_I (k := 65) hG (oa_af ho103 hA) 0 200)⟩, trivial, rfl, rfl⟩⟩)
set_option maxHeartbeats 4000000 in
theorem cs_X9_reached {xi : SX} {S : Hp} {E : List Nat} {kc nc : Nat} {P : Po} {o0 : Nat} {x1 : Int32} (hG : GI S E) (h0 : Oa S E 9 0 o0) (hP : ∀ r T x y, PV E [] S kc nc (rI (-2147483648) 2147483647) (fun _ T => T = S) [] r T x y → P r T x y) : TT xi M_X9_reached 0 [(0, .ref o0), (1, .int x1)] [] S kc nc P := by
  have hA : Af E [] S S := af_rf
  refine tt_aload_n (j := 0) dX9_reached_0 rfl ?_
  obtain ⟨b101, hr102, ho103⟩ := gi_R (k := 579) hG h0 4 0
  refine gt_gR (id := 579) dX9_reached_1 fl_9_37 rfl rfl h0 hA hr102 ?_
  refine tt_iload_n (j := 1) dX9_reached_4 rfl ?_
  refine gt_VIp (As := [.int x1]) dX9_reached_5 ca_X9_115 ⟨by decide, by decide⟩ ho103 hA rfl (Nat.le_of_ble_eq_true rfl) (Nat.le_of_ble_eq_true rfl) (by decide) (cs_X4_timesGot hG (oa_af ho103 hA) (fun _ _ _ _ h => h)) rfl (fun _ h => nomatch h) (fun _ _ q => q) (fun x109 h110 hx108 => ?_)
  exact tt_ireturn dX9_reached_8 .int rfl rfl (hP _ _ _ _ ⟨hG, hA, Or.inl ⟨_, rfl, ⟨_, rfl, rg_w h110⟩, rfl, rfl, rfl⟩⟩)
set_option maxHeartbeats 4000000 in
theorem cs_X9_start {xi : SX} {S : Hp} {E : List Nat} {kc nc : Nat} {P : Po} {o0 : Nat} (hG : GI S E) (h0 : Oa S E 9 0 o0) (hP : ∀ r T x y, PV E [388, 389, 9993] S kc nc rV ex0 [] r T x y → P r T x y) : TT xi M_X9_start 0 [(0, .ref o0)] [] S kc nc P := by
  have hA : Af E [388, 389, 9993] S S := af_rf
  refine tt_aload_n (j := 0) dX9_start_0 rfl ?_
  obtain ⟨b101, hr102, ho103⟩ := gi_R (k := 580) hG h0 6 0
  refine gt_gR (id := 580) dX9_start_1 fl_9_44 rfl rfl h0 hA hr102 ?_
  refine gt_Vv (As := []) dX9_start_4 ca_X9_139 ⟨by decide, by decide⟩ ho103 hA rfl (Nat.le_of_ble_eq_true rfl) (Nat.le_of_ble_eq_true rfl) (by decide) (cs_X6_begin hG (oa_af ho103 hA) (fun _ _ _ _ h => h)) rfl (fun _ h => nomatch h) (fun S104 hx108 hG105 hB106 hA107 => ?_)
  exact tt_vreturn dX9_start_7 rfl (hP _ _ _ _ ⟨hG105, hA107, Or.inl ⟨_, rfl, rfl, trivial, rfl, rfl⟩⟩)
set_option maxHeartbeats 4000000 in
theorem cs_X9_requireLocation {xi : SX} {S : Hp} {E : List Nat} {kc nc : Nat} {P : Po} {x0 : Int32} (hG : GI S E)  (hkc : 1 ≤ kc) (hnc : 6 ≤ nc) (hP : ∀ r T x y, PV E [] S kc nc rV (fun _ T => T = S) ["java/lang/IllegalArgumentException"] r T x y → P r T x y) : TT xi M_X9_requireLocation 0 [(0, .int x0)] [] S kc nc P := by
  have hA : Af E [] S S := af_rf
  refine tt_iload_n (j := 0) dX9_requireLocation_0 rfl ?_
  refine gt_SIp (As := [.int x0]) dX9_requireLocation_1 ca_X9_167 ⟨by decide, by decide⟩ hA (Nat.le_of_ble_eq_true rfl) (Nat.le_of_ble_eq_true rfl) (by decide) (cs_X9_isLocation hG  (fun _ _ _ _ h => h)) rfl (fun _ h => nomatch h) (fun _ _ q => q.1) (fun x106 h107 hx105 => ?_)
  refine tt_if_ne (tgt := 17) dX9_requireLocation_4 rfl (fun q108 => ?_) (fun q108 => ?_)
  · skip
    have h109 : Rg 1 1 x106 := rg_ne_lo h107 (⟨by decide, by decide⟩ : Rg 0 0 0) q108
    have h110 : Rg 0 23 x0 := (((hx105.2) _ rfl).1 q108)
    exact tt_vreturn dX9_requireLocation_17 rfl (hP _ _ _ _ ⟨hG, hA, Or.inl ⟨_, rfl, rfl, rfl, rfl, rfl⟩⟩)
  · skip
    have h111 : Rg 0 0 x106 := rg_eq_l h107 (⟨by decide, by decide⟩ : Rg 0 0 0) q108
    exact tt_throw th_X9_requireLocation_7 (hP _ _ _ _ ⟨hG, hA, Or.inr ⟨_, List.mem_cons_self, rfl⟩⟩) hkc hnc (by decide)
set_option maxHeartbeats 4000000 in
theorem cs_J13_highestOneBit_067f4 {xi : SX} {S : Hp} {E : List Nat} {kc nc : Nat} {P : Po} {y0 : Int64} (hG : GI S E)  (hP : ∀ r T x y, PV E [] S kc nc rJ (fun _ T => T = S) [] r T x y → P r T x y) : TT xi M_J13_highestOneBit_067f4 0 [(0, .long y0)] [] S kc nc P := by
  have hA : Af E [] S S := af_rf
  refine tt_lload_n (j := 0) dJ13_highestOneBit_067f4_0 rfl ?_
  refine tt_ldc2 (v := (-9223372036854775808)) dJ13_highestOneBit_067f4_1 kl_J13_168 ?_
  refine tt_lload_n (j := 0) dJ13_highestOneBit_067f4_4 rfl ?_
  refine gt_SIp (As := [.long y0]) dJ13_highestOneBit_067f4_5 ca_J13_98 ⟨by decide, by decide⟩ hA (Nat.le_of_ble_eq_true rfl) (Nat.le_of_ble_eq_true rfl) (by decide) (cs_J13_numberOfLeadingZeros_95d88 hG  (fun _ _ _ _ h => h)) rfl (fun _ h => nomatch h) (fun _ _ q => q) (fun x106 h107 hx105 => ?_)
  refine tt_lushr dJ13_highestOneBit_067f4_8 (gt_tl (fun y108 => ?_))
  refine tt_land dJ13_highestOneBit_067f4_9 (gt_tl (fun y109 => ?_))
  exact tt_lreturn dJ13_highestOneBit_067f4_10 rfl (hP _ _ _ _ ⟨hG, hA, Or.inl ⟨_, rfl, ⟨_, rfl⟩, rfl, rfl, rfl⟩⟩)
set_option maxHeartbeats 4000000 in
theorem cs_X0_becomeEqual {xi : SX} {S : Hp} {E : List Nat} {kc nc : Nat} {P : Po} {o0 : Nat} (hG : GI S E) (h0 : Oa S E 0 0 o0) (hP : ∀ r T x y, PV E [9987] S kc nc rV ex0 [] r T x y → P r T x y) : TT xi M_X0_becomeEqual 0 [(0, .ref o0)] [] S kc nc P := by
  have hA : Af E [9987] S S := af_rf
  refine tt_aload_n (j := 0) dX0_becomeEqual_0 rfl ?_
  obtain ⟨b101, hr102, ho103⟩ := gi_R (k := 0) hG h0 7 0
  refine gt_gR (id := 0) dX0_becomeEqual_1 fl_0_14 rfl rfl h0 hA hr102 ?_
  refine gt_VIp (As := []) dX0_becomeEqual_4 ca_X0_77 ⟨by decide, by decide⟩ ho103 hA rfl (Nat.le_of_ble_eq_true rfl) (Nat.le_of_ble_eq_true rfl) (by decide) (cs_X7_isAny hG (oa_af ho103 hA) (fun _ _ _ _ h => h)) rfl (fun _ h => nomatch h) (fun _ _ q => q) (fun x109 h110 hx108 => ?_)
  have B111 : ∀ (S112 : Hp), GI S112 E → Af E [9987] S S112 → TT xi M_X0_becomeEqual 94 [(0, .ref o0)] [] S112 kc nc P := by
    intro S112 hG113 hA114
    exact tt_vreturn dX0_becomeEqual_94 rfl (hP _ _ _ _ ⟨hG113, hA114, Or.inl ⟨_, rfl, rfl, trivial, rfl, rfl⟩⟩)
  refine tt_if_eq (tgt := 24) dX0_becomeEqual_7 rfl (fun q115 => ?_) (fun q115 => ?_)
  · skip
    have h116 : Rg 0 0 x109 := rg_eq_l h110 (⟨by decide, by decide⟩ : Rg 0 0 0) q115
    refine tt_aload_n (j := 0) dX0_becomeEqual_24 rfl ?_
    obtain ⟨b117, hr118, ho119⟩ := gi_R (k := 1) hG h0 7 0
    refine gt_gR (id := 1) dX0_becomeEqual_25 fl_0_18 rfl rfl h0 hA hr118 ?_
    refine gt_VIp (As := []) dX0_becomeEqual_28 ca_X0_77 ⟨by decide, by decide⟩ ho119 hA rfl (Nat.le_of_ble_eq_true rfl) (Nat.le_of_ble_eq_true rfl) (by decide) (cs_X7_isAny hG (oa_af ho119 hA) (fun _ _ _ _ h => h)) rfl (fun _ h => nomatch h) (fun _ _ q => q) (fun x125 h126 hx124 => ?_)
    refine tt_if_eq (tgt := 48) dX0_becomeEqual_31 rfl (fun q127 => ?_) (fun q127 => ?_)
    · skip
      have h128 : Rg 0 0 x125 := rg_eq_l h126 (⟨by decide, by decide⟩ : Rg 0 0 0) q127
      refine tt_aload_n (j := 0) dX0_becomeEqual_48 rfl ?_
      refine gt_gR (id := 0) dX0_becomeEqual_49 fl_0_14 rfl rfl h0 hA hr102 ?_
      refine gt_gJ (id := 448) (v := (hp_J S 448 b101)) dX0_becomeEqual_52 fl_0_84 rfl rfl ho103 hA rfl ?_
      refine tt_lstore_n (ks := [0, 1]) (L' := [(1, .long (hp_J S 448 b101)), (0, .ref o0)]) dX0_becomeEqual_55 (by decide) rfl ?_
      refine tt_aload_n (j := 1) dX0_becomeEqual_56 rfl ?_
      refine gt_gR (id := 0) dX0_becomeEqual_57 fl_0_14 rfl rfl h0 hA hr102 ?_
      refine gt_gJ (id := 449) (v := (hp_J S 449 b101)) dX0_becomeEqual_60 fl_0_87 rfl rfl ho103 hA rfl ?_
      refine tt_lstore_n (ks := [0, 1, 2]) (L' := [(3, .long (hp_J S 449 b101)), (1, .long (hp_J S 448 b101)), (0, .ref o0)]) dX0_becomeEqual_63 (by decide) rfl ?_
      refine tt_aload_n (j := 2) dX0_becomeEqual_64 rfl ?_
      refine gt_gR (id := 0) dX0_becomeEqual_65 fl_0_14 rfl rfl h0 hA hr102 ?_
      refine tt_aload_n (j := 2) dX0_becomeEqual_68 rfl ?_
      refine gt_gR (id := 1) dX0_becomeEqual_69 fl_0_18 rfl rfl h0 hA hr118 ?_
      refine gt_gJ (id := 448) (v := (hp_J S 448 b117)) dX0_becomeEqual_72 fl_0_84 rfl rfl ho119 hA rfl ?_
      refine tt_aload_n (j := 2) dX0_becomeEqual_75 rfl ?_
      refine gt_gR (id := 1) dX0_becomeEqual_76 fl_0_18 rfl rfl h0 hA hr118 ?_
      refine gt_gJ (id := 449) (v := (hp_J S 449 b117)) dX0_becomeEqual_79 fl_0_87 rfl rfl ho119 hA rfl ?_
      refine gt_Vv (As := [.long (hp_J S 448 b117), .long (hp_J S 449 b117)]) dX0_becomeEqual_82 ca_X0_59 ⟨by decide, by decide⟩ ho103 hA rfl (Nat.le_of_ble_eq_true rfl) (Nat.le_of_ble_eq_true rfl) (by decide) (cs_X7_cut hG (oa_af ho103 hA) (fun _ _ _ _ h => h)) rfl (fun _ h => nomatch h) (fun S129 hx133 hG130 hB131 hA132 => ?_)
      refine tt_aload_n (j := 2) dX0_becomeEqual_85 rfl ?_
      refine gt_gR (id := 1) dX0_becomeEqual_86 fl_0_18 rfl rfl h0 hA132 hr118 ?_
      refine tt_lload_n (j := 1) dX0_becomeEqual_89 rfl ?_
      refine tt_lload_n (j := 0) dX0_becomeEqual_90 rfl ?_
      refine gt_Vv (As := [.long (hp_J S 448 b101), .long (hp_J S 449 b101)]) dX0_becomeEqual_91 ca_X0_59 ⟨by decide, by decide⟩ ho119 hA132 rfl (Nat.le_of_ble_eq_true rfl) (Nat.le_of_ble_eq_true rfl) (by decide) (cs_X7_cut hG130 (oa_af ho119 hA132) (fun _ _ _ _ h => h)) rfl (fun _ h => nomatch h) (fun S134 hx138 hG135 hB136 hA137 => ?_)
      exact tt_loc (ks := [2]) rfl (B111 S134 hG135 hA137)
    · skip
      have h139 : Rg 1 1 x125 := rg_ne_lo h126 (⟨by decide, by decide⟩ : Rg 0 0 0) q127
      refine tt_aload_n (j := 0) dX0_becomeEqual_34 rfl ?_
      refine gt_gR (id := 1) dX0_becomeEqual_35 fl_0_18 rfl rfl h0 hA hr118 ?_
      refine tt_aload_n (j := 0) dX0_becomeEqual_38 rfl ?_
      refine gt_gR (id := 0) dX0_becomeEqual_39 fl_0_14 rfl rfl h0 hA hr102 ?_
      refine gt_Vv (As := [.ref b101]) dX0_becomeEqual_42 ca_X0_80 ⟨by decide, by decide⟩ ho119 hA rfl (Nat.le_of_ble_eq_true rfl) (Nat.le_of_ble_eq_true rfl) (by decide) (cs_X7_copyFrom hG (oa_af ho119 hA) (oa_af ho103 hA) (fun _ _ _ _ h => h)) rfl (fun _ h => nomatch h) (fun S140 hx144 hG141 hB142 hA143 => ?_)
      refine tt_goto (tgt := 94) dX0_becomeEqual_45 rfl ?_
      exact B111 S140 hG141 hA143
  · skip
    have h145 : Rg 1 1 x109 := rg_ne_lo h110 (⟨by decide, by decide⟩ : Rg 0 0 0) q115
    refine tt_aload_n (j := 0) dX0_becomeEqual_10 rfl ?_
    refine gt_gR (id := 0) dX0_becomeEqual_11 fl_0_14 rfl rfl h0 hA hr102 ?_
    refine tt_aload_n (j := 0) dX0_becomeEqual_14 rfl ?_
    obtain ⟨b146, hr147, ho148⟩ := gi_R (k := 1) hG h0 7 0
    refine gt_gR (id := 1) dX0_becomeEqual_15 fl_0_18 rfl rfl h0 hA hr147 ?_
    refine gt_Vv (As := [.ref b146]) dX0_becomeEqual_18 ca_X0_80 ⟨by decide, by decide⟩ ho103 hA rfl (Nat.le_of_ble_eq_true rfl) (Nat.le_of_ble_eq_true rfl) (by decide) (cs_X7_copyFrom hG (oa_af ho103 hA) (oa_af ho148 hA) (fun _ _ _ _ h => h)) rfl (fun _ h => nomatch h) (fun S149 hx153 hG150 hB151 hA152 => ?_)
    refine tt_goto (tgt := 94) dX0_becomeEqual_21 rfl ?_
    exact B111 S149 hG150 hA152
set_option maxHeartbeats 4000000 in
theorem cs_X0_order {xi : SX} {S : Hp} {E : List Nat} {kc nc : Nat} {P : Po} {o0 : Nat} {o1 : Nat} {x2 : Int32} (hG : GI S E) (h0 : Oa S E 7 0 o0) (h1 : Oa S E 7 0 o1) (hP : ∀ r T x y, PV E [9987] S kc nc rV ex0 [] r T x y → P r T x y) : TT xi M_X0_order 0 [(0, .ref o0), (1, .ref o1), (2, .int x2)] [] S kc nc P := by
  have hA : Af E [9987] S S := af_rf
  refine tt_aload_n (j := 0) dX0_order_0 rfl ?_
  refine gt_VIp (As := []) dX0_order_1 ca_X0_77 ⟨by decide, by decide⟩ h0 hA rfl (Nat.le_of_ble_eq_true rfl) (Nat.le_of_ble_eq_true rfl) (by decide) (cs_X7_isAny hG (oa_af h0 hA) (fun _ _ _ _ h => h)) rfl (fun _ h => nomatch h) (fun _ _ q => q) (fun x106 h107 hx105 => ?_)
  have B108 : ∀ (y109 : Int64), TT xi M_X0_order 20 [(0, .ref o0), (1, .ref o1), (2, .int x2)] [.long y109] S kc nc P := by
    intro y109 
    refine tt_lstore_n (ks := [0, 1, 2, 3]) (L' := [(3, .long y109), (0, .ref o0), (1, .ref o1), (2, .int x2)]) dX0_order_20 (by decide) rfl ?_
    refine tt_aload_n (j := 2) dX0_order_21 rfl ?_
    refine gt_VIp (As := []) dX0_order_22 ca_X0_77 ⟨by decide, by decide⟩ h1 hA rfl (Nat.le_of_ble_eq_true rfl) (Nat.le_of_ble_eq_true rfl) (by decide) (cs_X7_isAny hG (oa_af h1 hA) (fun _ _ _ _ h => h)) rfl (fun _ h => nomatch h) (fun _ _ q => q) (fun x115 h116 hx114 => ?_)
    have B117 : ∀ (y118 : Int64), TT xi M_X0_order 41 [(0, .ref o0), (1, .ref o1), (2, .int x2), (3, .long y109)] [.long y118] S kc nc P := by
      intro y118 
      refine tt_lstore (ks := [0, 1, 2, 3, 4]) (L' := [(5, .long y118), (0, .ref o0), (1, .ref o1), (2, .int x2), (3, .long y109)]) dX0_order_41 (by decide) rfl ?_
      refine tt_aload_n (j := 1) dX0_order_43 rfl ?_
      refine tt_ldc2 (v := (-9223372036854775808)) dX0_order_44 kl_0_53 ?_
      refine tt_lload (j := 0) dX0_order_47 rfl ?_
      refine gt_Vv (As := [.long (-9223372036854775808), .long y118]) dX0_order_49 ca_X0_59 ⟨by decide, by decide⟩ h0 hA rfl (Nat.le_of_ble_eq_true rfl) (Nat.le_of_ble_eq_true rfl) (by decide) (cs_X7_cut hG (oa_af h0 hA) (fun _ _ _ _ h => h)) rfl (fun _ h => nomatch h) (fun S119 hx123 hG120 hB121 hA122 => ?_)
      refine tt_aload_n (j := 2) dX0_order_52 rfl ?_
      refine tt_lload_n (j := 4) dX0_order_53 rfl ?_
      refine tt_ldc2 (v := 9223372036854775807) dX0_order_54 kl_0_57 ?_
      refine gt_Vv (As := [.long y109, .long 9223372036854775807]) dX0_order_57 ca_X0_59 ⟨by decide, by decide⟩ h1 hA122 rfl (Nat.le_of_ble_eq_true rfl) (Nat.le_of_ble_eq_true rfl) (by decide) (cs_X7_cut hG120 (oa_af h1 hA122) (fun _ _ _ _ h => h)) rfl (fun _ h => nomatch h) (fun S124 hx128 hG125 hB126 hA127 => ?_)
      exact tt_vreturn dX0_order_60 rfl (hP _ _ _ _ ⟨hG125, hA127, Or.inl ⟨_, rfl, rfl, trivial, rfl, rfl⟩⟩)
    refine tt_if_eq (tgt := 34) dX0_order_25 rfl (fun q129 => ?_) (fun q129 => ?_)
    · skip
      have h130 : Rg 0 0 x115 := rg_eq_l h116 (⟨by decide, by decide⟩ : Rg 0 0 0) q129
      refine tt_aload_n (j := 2) dX0_order_34 rfl ?_
      refine gt_gJ (id := 449) (v := (hp_J S 449 o1)) dX0_order_35 fl_0_87 rfl rfl h1 hA rfl ?_
      refine tt_iload_n (j := 3) dX0_order_38 rfl ?_
      refine tt_i2l dX0_order_39 ?_
      refine tt_lsub dX0_order_40 (gt_tl (fun y131 => ?_))
      exact tt_loc (ks := [1, 2, 3, 0]) rfl (B117 y131)
    · skip
      have h132 : Rg 1 1 x115 := rg_ne_lo h116 (⟨by decide, by decide⟩ : Rg 0 0 0) q129
      refine tt_ldc2 (v := 9223372036854775807) dX0_order_28 kl_0_57 ?_
      refine tt_goto (tgt := 41) dX0_order_31 rfl ?_
      exact tt_loc (ks := [1, 2, 3, 0]) rfl (B117 9223372036854775807)
  refine tt_if_eq (tgt := 13) dX0_order_4 rfl (fun q133 => ?_) (fun q133 => ?_)
  · skip
    have h134 : Rg 0 0 x106 := rg_eq_l h107 (⟨by decide, by decide⟩ : Rg 0 0 0) q133
    refine tt_aload_n (j := 0) dX0_order_13 rfl ?_
    refine gt_gJ (id := 448) (v := (hp_J S 448 o0)) dX0_order_14 fl_0_84 rfl rfl h0 hA rfl ?_
    refine tt_iload_n (j := 2) dX0_order_17 rfl ?_
    refine tt_i2l dX0_order_18 ?_
    refine tt_ladd dX0_order_19 (gt_tl (fun y135 => ?_))
    exact B108 y135
  · skip
    have h136 : Rg 1 1 x106 := rg_ne_lo h107 (⟨by decide, by decide⟩ : Rg 0 0 0) q133
    refine tt_ldc2 (v := (-9223372036854775808)) dX0_order_7 kl_0_53 ?_
    refine tt_goto (tgt := 20) dX0_order_10 rfl ?_
    exact B108 (-9223372036854775808)
set_option maxHeartbeats 4000000 in
theorem cs_X0_orderUnsigned {xi : SX} {S : Hp} {E : List Nat} {kc nc : Nat} {P : Po} {o0 : Nat} {o1 : Nat} {x2 : Int32} (hG : GI S E) (h0 : Oa S E 7 0 o0) (h1 : Oa S E 7 0 o1) (hP : ∀ r T x y, PV E [9987] S kc nc rV ex0 [] r T x y → P r T x y) : TT xi M_X0_orderUnsigned 0 [(0, .ref o0), (1, .ref o1), (2, .int x2)] [] S kc nc P := by
  have hA : Af E [9987] S S := af_rf
  refine tt_aload_n (j := 1) dX0_orderUnsigned_0 rfl ?_
  refine gt_VIp (As := []) dX0_orderUnsigned_1 ca_X0_97 ⟨by decide, by decide⟩ h1 hA rfl (Nat.le_of_ble_eq_true rfl) (Nat.le_of_ble_eq_true rfl) (by decide) (cs_X7_isNatural hG (oa_af h1 hA) (fun _ _ _ _ h => h)) rfl (fun _ h => nomatch h) (fun _ _ q => q) (fun x106 h107 hx105 => ?_)
  refine tt_if_ne (tgt := 8) dX0_orderUnsigned_4 rfl (fun q108 => ?_) (fun q108 => ?_)
  · skip
    have h109 : Rg 1 1 x106 := rg_ne_lo h107 (⟨by decide, by decide⟩ : Rg 0 0 0) q108
    refine tt_aload_n (j := 0) dX0_orderUnsigned_8 rfl ?_
    refine gt_VIp (As := []) dX0_orderUnsigned_9 ca_X0_97 ⟨by decide, by decide⟩ h0 hA rfl (Nat.le_of_ble_eq_true rfl) (Nat.le_of_ble_eq_true rfl) (by decide) (cs_X7_isNatural hG (oa_af h0 hA) (fun _ _ _ _ h => h)) rfl (fun _ h => nomatch h) (fun _ _ q => q) (fun x115 h116 hx114 => ?_)
    have B117 : ∀ (y118 : Int64), TT xi M_X0_orderUnsigned 28 [(0, .ref o0), (1, .ref o1), (2, .int x2)] [.long y118] S kc nc P := by
      intro y118 
      refine tt_lstore_n (ks := [0, 1, 2, 3]) (L' := [(3, .long y118), (0, .ref o0), (1, .ref o1), (2, .int x2)]) dX0_orderUnsigned_28 (by decide) rfl ?_
      refine tt_aload_n (j := 2) dX0_orderUnsigned_29 rfl ?_
      refine gt_gJ (id := 449) (v := (hp_J S 449 o1)) dX0_orderUnsigned_30 fl_0_87 rfl rfl h1 hA rfl ?_
      refine tt_iload_n (j := 3) dX0_orderUnsigned_33 rfl ?_
      refine tt_i2l dX0_orderUnsigned_34 ?_
      refine tt_lsub dX0_orderUnsigned_35 (gt_tl (fun y119 => ?_))
      refine tt_lstore (ks := [0, 1, 2, 3, 4]) (L' := [(5, .long y119), (3, .long y118), (0, .ref o0), (1, .ref o1), (2, .int x2)]) dX0_orderUnsigned_36 (by decide) rfl ?_
      refine tt_aload_n (j := 2) dX0_orderUnsigned_38 rfl ?_
      refine gt_VIp (As := []) dX0_orderUnsigned_39 ca_X0_77 ⟨by decide, by decide⟩ h0 hA rfl (Nat.le_of_ble_eq_true rfl) (Nat.le_of_ble_eq_true rfl) (by decide) (cs_X7_isAny hG (oa_af h0 hA) (fun _ _ _ _ h => h)) rfl (fun _ h => nomatch h) (fun _ _ q => q) (fun x125 h126 hx124 => ?_)
      have B127 : ∀ (S128 : Hp), GI S128 E → Af E [9987] S S128 → TT xi M_X0_orderUnsigned 77 [(0, .ref o0), (1, .ref o1), (2, .int x2), (3, .long y118), (5, .long y119)] [] S128 kc nc P := by
        intro S128 hG129 hA130
        refine tt_aload_n (j := 1) dX0_orderUnsigned_77 rfl ?_
        refine tt_lload_n (j := 3) dX0_orderUnsigned_78 rfl ?_
        refine tt_ldc2 (v := 9223372036854775807) dX0_orderUnsigned_79 kl_0_57 ?_
        refine gt_Vv (As := [.long y118, .long 9223372036854775807]) dX0_orderUnsigned_82 ca_X0_59 ⟨by decide, by decide⟩ h1 hA130 rfl (Nat.le_of_ble_eq_true rfl) (Nat.le_of_ble_eq_true rfl) (by decide) (cs_X7_cut hG129 (oa_af h1 hA130) (fun _ _ _ _ h => h)) rfl (fun _ h => nomatch h) (fun S131 hx135 hG132 hB133 hA134 => ?_)
        exact tt_vreturn dX0_orderUnsigned_85 rfl (hP _ _ _ _ ⟨hG132, hA134, Or.inl ⟨_, rfl, rfl, trivial, rfl, rfl⟩⟩)
      refine tt_if_ne (tgt := 55) dX0_orderUnsigned_42 rfl (fun q136 => ?_) (fun q136 => ?_)
      · skip
        have h137 : Rg 1 1 x125 := rg_ne_lo h126 (⟨by decide, by decide⟩ : Rg 0 0 0) q136
        refine tt_lload (j := 0) dX0_orderUnsigned_55 rfl ?_
        refine tt_lconst (v := 0) dX0_orderUnsigned_57 rfl ?_
        refine tt_lcmp dX0_orderUnsigned_58 ?_
        refine tt_if_ge (tgt := 69) dX0_orderUnsigned_59 rfl (fun q138 => ?_) (fun q138 => ?_)
        · skip
          have h139 : Rl 0 9223372036854775807 y119 := rl_le_r (⟨by decide, by decide⟩ : Rl 0 0 0) (rl_all y119) (lc_ge_t q138)
          refine tt_aload_n (j := 2) dX0_orderUnsigned_69 rfl ?_
          refine tt_lconst (v := 0) dX0_orderUnsigned_70 rfl ?_
          refine tt_lload (j := 0) dX0_orderUnsigned_71 rfl ?_
          refine tt_lconst (v := 1) dX0_orderUnsigned_73 rfl ?_
          refine gt_Vv (As := [.long 0, .long y119, .long 1]) dX0_orderUnsigned_74 ca_X0_39 ⟨by decide, by decide⟩ h0 hA rfl (Nat.le_of_ble_eq_true rfl) (Nat.le_of_ble_eq_true rfl) (by decide) (cs_X7_become hG (oa_af h0 hA) (fun _ _ _ _ h => h)) rfl (fun _ h => nomatch h) (fun S140 hx144 hG141 hB142 hA143 => ?_)
          exact tt_loc (ks := [2, 3, 4, 1, 0]) rfl (B127 S140 hG141 hA143)
        · skip
          have h145 : Rl (-9223372036854775808) (-1) y119 := rl_lt_l (rl_all y119) (⟨by decide, by decide⟩ : Rl 0 0 0) (lc_ge_f q138)
          refine tt_aload_n (j := 2) dX0_orderUnsigned_62 rfl ?_
          refine gt_Vv (As := []) dX0_orderUnsigned_63 ca_X0_100 ⟨by decide, by decide⟩ h0 hA rfl (Nat.le_of_ble_eq_true rfl) (Nat.le_of_ble_eq_true rfl) (by decide) (cs_X7_becomeNone hG (oa_af h0 hA) (fun _ _ _ _ h => h)) rfl (fun _ h => nomatch h) (fun S146 hx150 hG147 hB148 hA149 => ?_)
          refine tt_goto (tgt := 77) dX0_orderUnsigned_66 rfl ?_
          exact tt_loc (ks := [2, 3, 4, 1, 0]) rfl (B127 S146 hG147 hA149)
      · skip
        have h151 : Rg 0 0 x125 := rg_eq_l h126 (⟨by decide, by decide⟩ : Rg 0 0 0) q136
        refine tt_aload_n (j := 2) dX0_orderUnsigned_45 rfl ?_
        refine tt_lconst (v := 0) dX0_orderUnsigned_46 rfl ?_
        refine tt_lload (j := 0) dX0_orderUnsigned_47 rfl ?_
        refine gt_Vv (As := [.long 0, .long y119]) dX0_orderUnsigned_49 ca_X0_59 ⟨by decide, by decide⟩ h0 hA rfl (Nat.le_of_ble_eq_true rfl) (Nat.le_of_ble_eq_true rfl) (by decide) (cs_X7_cut hG (oa_af h0 hA) (fun _ _ _ _ h => h)) rfl (fun _ h => nomatch h) (fun S152 hx156 hG153 hB154 hA155 => ?_)
        refine tt_goto (tgt := 77) dX0_orderUnsigned_52 rfl ?_
        exact tt_loc (ks := [2, 3, 4, 1, 0]) rfl (B127 S152 hG153 hA155)
    refine tt_if_eq (tgt := 25) dX0_orderUnsigned_12 rfl (fun q157 => ?_) (fun q157 => ?_)
    · skip
      have h158 : Rg 0 0 x115 := rg_eq_l h116 (⟨by decide, by decide⟩ : Rg 0 0 0) q157
      refine tt_ldc2 (v := (-9223372036854775808)) dX0_orderUnsigned_25 kl_0_53 ?_
      exact B117 (-9223372036854775808)
    · skip
      have h159 : Rg 1 1 x115 := rg_ne_lo h116 (⟨by decide, by decide⟩ : Rg 0 0 0) q157
      refine tt_aload_n (j := 0) dX0_orderUnsigned_15 rfl ?_
      refine gt_gJ (id := 448) (v := (hp_J S 448 o0)) dX0_orderUnsigned_16 fl_0_84 rfl rfl h0 hA rfl ?_
      refine tt_iload_n (j := 2) dX0_orderUnsigned_19 rfl ?_
      refine tt_i2l dX0_orderUnsigned_20 ?_
      refine tt_ladd dX0_orderUnsigned_21 (gt_tl (fun y160 => ?_))
      refine tt_goto (tgt := 28) dX0_orderUnsigned_22 rfl ?_
      exact B117 y160
  · skip
    have h161 : Rg 0 0 x106 := rg_eq_l h107 (⟨by decide, by decide⟩ : Rg 0 0 0) q108
    exact tt_vreturn dX0_orderUnsigned_7 rfl (hP _ _ _ _ ⟨hG, hA, Or.inl ⟨_, rfl, rfl, trivial, rfl, rfl⟩⟩)
set_option maxHeartbeats 4000000 in
theorem cs_X2_loadOperands {xi : SX} {S : Hp} {E : List Nat} {kc nc : Nat} {P : Po} {o0 : Nat} {o1 : Nat} {o2 : Nat} (hG : GI S E) (h0 : Oa S E 2 0 o0) (h1 : Oa S E 3 0 o1) (h2 : Oa S E 8 0 o2) (hP : ∀ r T x y, PV E [9987] S kc nc rV ex0 [] r T x y → P r T x y) : TT xi M_X2_loadOperands 0 [(0, .ref o0), (1, .ref o1), (2, .ref o2)] [] S kc nc P := by
  have hA : Af E [9987] S S := af_rf
  refine tt_aload_n (j := 2) dX2_loadOperands_0 rfl ?_
  refine tt_aload_n (j := 1) dX2_loadOperands_1 rfl ?_
  refine tt_getI (id := 202) dX2_loadOperands_2 fl_2_41 rfl rfl (ob_af h1 hA) ?_
  refine tt_aload_n (j := 0) dX2_loadOperands_5 rfl ?_
  obtain ⟨b101, hr102, ho103⟩ := gi_R (k := 128) hG h0 7 0
  refine gt_gR (id := 128) dX2_loadOperands_6 fl_2_12 rfl rfl h0 hA hr102 ?_
  refine gt_Vv (As := [.int (hp_I S 202 o1), .ref b101]) dX2_loadOperands_9 ca_X2_53 ⟨by decide, by decide⟩ h2 hA rfl (Nat.le_of_ble_eq_true rfl) (Nat.le_of_ble_eq_true rfl) (by decide) (cs_X8_load hG (oa_af h2 hA) (oa_af ho103 hA) (fun _ _ _ _ h => h)) rfl (fun _ h => nomatch h) (fun S104 hx108 hG105 hB106 hA107 => ?_)
  refine tt_aload_n (j := 1) dX2_loadOperands_12 rfl ?_
  refine gt_gI (id := 203) (v := (hp_I S 203 o1)) dX2_loadOperands_13 fl_2_56 rfl rfl h1 hA107 (i_af (k := 203) h1 hA107) ?_
  refine tt_iconst (v := (-1)) dX2_loadOperands_16 rfl ?_
  refine tt_icmp_eq (tgt := 33) dX2_loadOperands_17 rfl (fun q109 => ?_) (fun q109 => ?_)
  · skip
    have h110 : Rg (-1) (-1) (hp_I S 203 o1) := rg_eq_l (rg_all (hp_I S 203 o1)) (⟨by decide, by decide⟩ : Rg (-1) (-1) (-1)) q109
    refine tt_aload_n (j := 1) dX2_loadOperands_33 rfl ?_
    refine gt_gJ (id := 205) (v := (hp_J S104 205 o1)) dX2_loadOperands_34 fl_2_59 rfl rfl h1 hA107 rfl ?_
    refine tt_lstore_n (ks := [0, 1, 2, 3]) (L' := [(3, .long (hp_J S104 205 o1)), (0, .ref o0), (1, .ref o1), (2, .ref o2)]) dX2_loadOperands_37 (by decide) rfl ?_
    refine tt_aload_n (j := 2) dX2_loadOperands_38 rfl ?_
    refine gt_gI (id := 200) (v := (hp_I S 200 o1)) dX2_loadOperands_39 fl_2_24 rfl rfl h1 hA107 (i_af (k := 200) h1 hA107) ?_
    refine tt_bipush (v := 11) dX2_loadOperands_42 rfl ?_
    have B111 : ∀ (y112 : Int64), TT xi M_X2_loadOperands 77 [(0, .ref o0), (1, .ref o1), (2, .ref o2), (3, .long y112)] [] S104 kc nc P := by
      intro y112 
      refine tt_aload_n (j := 0) dX2_loadOperands_77 rfl ?_
      obtain ⟨b113, hr114, ho115⟩ := gi_R (k := 129) hG h0 7 0
      refine gt_gR (id := 129) dX2_loadOperands_78 fl_2_18 rfl rfl h0 hA107 hr114 ?_
      refine tt_lload_n (j := 3) dX2_loadOperands_81 rfl ?_
      refine tt_lload_n (j := 3) dX2_loadOperands_82 rfl ?_
      refine tt_lconst (v := 0) dX2_loadOperands_83 rfl ?_
      refine gt_Vv (As := [.long y112, .long y112, .long 0]) dX2_loadOperands_84 ca_X2_66 ⟨by decide, by decide⟩ ho115 hA107 rfl (Nat.le_of_ble_eq_true rfl) (Nat.le_of_ble_eq_true rfl) (by decide) (cs_X7_become hG105 (oa_af ho115 hA107) (fun _ _ _ _ h => h)) rfl (fun _ h => nomatch h) (fun S116 hx120 hG117 hB118 hA119 => ?_)
      exact tt_vreturn dX2_loadOperands_87 rfl (hP _ _ _ _ ⟨hG117, hA119, Or.inl ⟨_, rfl, rfl, trivial, rfl, rfl⟩⟩)
    have B121 : TT xi M_X2_loadOperands 56 [(0, .ref o0), (1, .ref o1), (2, .ref o2), (3, .long (hp_J S104 205 o1))] [] S104 kc nc P := by
      refine tt_lconst (v := 1) dX2_loadOperands_56 rfl ?_
      refine tt_lstore_n (ks := [0, 1, 2, 3]) (L' := [(3, .long 1), (0, .ref o0), (1, .ref o1), (2, .ref o2)]) dX2_loadOperands_57 (by decide) rfl ?_
      refine tt_goto (tgt := 77) dX2_loadOperands_58 rfl ?_
      exact tt_loc (ks := [1, 2, 3, 0]) rfl (B111 1)
    refine tt_icmp_eq (tgt := 56) dX2_loadOperands_44 rfl (fun q122 => ?_) (fun q122 => ?_)
    · skip
      have h123 : Rg 11 11 (hp_I S 200 o1) := rg_eq_l (rg_all (hp_I S 200 o1)) (⟨by decide, by decide⟩ : Rg 11 11 11) q122
      exact tt_loc (ks := [1, 2, 3, 0]) rfl (B121 )
    · skip
      refine tt_aload_n (j := 2) dX2_loadOperands_47 rfl ?_
      refine gt_gI (id := 200) (v := (hp_I S 200 o1)) dX2_loadOperands_48 fl_2_24 rfl rfl h1 hA107 (i_af (k := 200) h1 hA107) ?_
      refine tt_bipush (v := 12) dX2_loadOperands_51 rfl ?_
      refine tt_icmp_ne (tgt := 61) dX2_loadOperands_53 rfl (fun q124 => ?_) (fun q124 => ?_)
      · skip
        refine tt_aload_n (j := 2) dX2_loadOperands_61 rfl ?_
        refine gt_gI (id := 200) (v := (hp_I S 200 o1)) dX2_loadOperands_62 fl_2_24 rfl rfl h1 hA107 (i_af (k := 200) h1 hA107) ?_
        refine tt_bipush (v := 14) dX2_loadOperands_65 rfl ?_
        refine tt_icmp_ne (tgt := 77) dX2_loadOperands_67 rfl (fun q125 => ?_) (fun q125 => ?_)
        · skip
          exact tt_loc (ks := [1, 2, 3, 0]) rfl (B111 (hp_J S104 205 o1))
        · skip
          have h126 : Rg 14 14 (hp_I S 200 o1) := rg_eq_l (rg_all (hp_I S 200 o1)) (⟨by decide, by decide⟩ : Rg 14 14 14) q125
          refine tt_lconst (v := 1) dX2_loadOperands_70 rfl ?_
          refine tt_aload_n (j := 2) dX2_loadOperands_71 rfl ?_
          refine gt_gI (id := 204) (v := (hp_I S 204 o1)) dX2_loadOperands_72 fl_2_63 rfl rfl h1 hA107 (i_af (k := 204) h1 hA107) ?_
          refine tt_lshl dX2_loadOperands_75 (gt_tl (fun y127 => ?_))
          refine tt_lstore_n (ks := [0, 1, 2, 3]) (L' := [(3, .long y127), (0, .ref o0), (1, .ref o1), (2, .ref o2)]) dX2_loadOperands_76 (by decide) rfl ?_
          exact tt_loc (ks := [1, 2, 3, 0]) rfl (B111 y127)
      · skip
        have h128 : Rg 12 12 (hp_I S 200 o1) := rg_eq_l (rg_all (hp_I S 200 o1)) (⟨by decide, by decide⟩ : Rg 12 12 12) q124
        exact tt_loc (ks := [1, 2, 3, 0]) rfl (B121 )
  · skip
    refine tt_aload_n (j := 2) dX2_loadOperands_20 rfl ?_
    refine tt_aload_n (j := 1) dX2_loadOperands_21 rfl ?_
    refine gt_gI (id := 203) (v := (hp_I S 203 o1)) dX2_loadOperands_22 fl_2_56 rfl rfl h1 hA107 (i_af (k := 203) h1 hA107) ?_
    refine tt_aload_n (j := 0) dX2_loadOperands_25 rfl ?_
    obtain ⟨b129, hr130, ho131⟩ := gi_R (k := 129) hG h0 7 0
    refine gt_gR (id := 129) dX2_loadOperands_26 fl_2_18 rfl rfl h0 hA107 hr130 ?_
    refine gt_Vv (As := [.int (hp_I S 203 o1), .ref b129]) dX2_loadOperands_29 ca_X2_53 ⟨by decide, by decide⟩ h2 hA107 rfl (Nat.le_of_ble_eq_true rfl) (Nat.le_of_ble_eq_true rfl) (by decide) (cs_X8_load hG105 (oa_af h2 hA107) (oa_af ho131 hA107) (fun _ _ _ _ h => h)) rfl (fun _ h => nomatch h) (fun S132 hx136 hG133 hB134 hA135 => ?_)
    exact tt_vreturn dX2_loadOperands_32 rfl (hP _ _ _ _ ⟨hG133, hA135, Or.inl ⟨_, rfl, rfl, trivial, rfl, rfl⟩⟩)
set_option maxHeartbeats 4000000 in
theorem cs_X2_fitOperands {xi : SX} {S : Hp} {E : List Nat} {kc nc : Nat} {P : Po} {o0 : Nat} {o1 : Nat} (hG : GI S E) (h0 : Oa S E 2 0 o0) (h1 : Oa S E 3 0 o1) (hP : ∀ r T x y, PV E [9987] S kc nc rV ex0 [] r T x y → P r T x y) : TT xi M_X2_fitOperands 0 [(0, .ref o0), (1, .ref o1)] [] S kc nc P := by
  have hA : Af E [9987] S S := af_rf
  refine tt_aload_n (j := 1) dX2_fitOperands_0 rfl ?_
  refine tt_getI (id := 200) dX2_fitOperands_1 fl_2_24 rfl rfl (ob_af h1 hA) ?_
  refine tt_istore_n (ks := [0, 1, 2]) (L' := [(2, .int (hp_I S 200 o1)), (0, .ref o0), (1, .ref o1)]) dX2_fitOperands_4 (by decide) rfl ?_
  refine tt_iload_n (j := 0) dX2_fitOperands_5 rfl ?_
  refine tt_bipush (v := 18) dX2_fitOperands_6 rfl ?_
  have B101 : ∀ (S102 : Hp), GI S102 E → Af E [9987] S S102 → TT xi M_X2_fitOperands 18 [(0, .ref o0), (1, .ref o1), (2, .int (hp_I S 200 o1))] [] S102 kc nc P := by
    intro S102 hG103 hA104
    refine tt_aload_n (j := 1) dX2_fitOperands_18 rfl ?_
    refine gt_gI (id := 201) (v := (hp_I S 201 o1)) dX2_fitOperands_19 fl_2_73 rfl rfl h1 hA104 (i_af (k := 201) h1 hA104) ?_
    refine tt_bipush (v := 64) dX2_fitOperands_22 rfl ?_
    refine tt_icmp_ne (tgt := 28) dX2_fitOperands_24 rfl (fun q105 => ?_) (fun q105 => ?_)
    · skip
      refine tt_iload_n (j := 2) dX2_fitOperands_28 rfl ?_
      refine tt_bipush (v := 17) dX2_fitOperands_29 rfl ?_
      have B106 : ∀ (S107 : Hp), GI S107 E → Af E [9987] S S107 → TT xi M_X2_fitOperands 71 [(0, .ref o0), (1, .ref o1), (2, .int (hp_I S 200 o1))] [] S107 kc nc P := by
        intro S107 hG108 hA109
        exact tt_vreturn dX2_fitOperands_71 rfl (hP _ _ _ _ ⟨hG108, hA109, Or.inl ⟨_, rfl, rfl, trivial, rfl, rfl⟩⟩)
      have B110 : TT xi M_X2_fitOperands 40 [(0, .ref o0), (1, .ref o1), (2, .int (hp_I S 200 o1))] [] S102 kc nc P := by
        refine tt_aload_n (j := 0) dX2_fitOperands_40 rfl ?_
        obtain ⟨b111, hr112, ho113⟩ := gi_R (k := 128) hG h0 7 0
        refine gt_gR (id := 128) dX2_fitOperands_41 fl_2_12 rfl rfl h0 hA104 hr112 ?_
        refine gt_Vv (As := []) dX2_fitOperands_44 ca_X2_70 ⟨by decide, by decide⟩ ho113 hA104 rfl (Nat.le_of_ble_eq_true rfl) (Nat.le_of_ble_eq_true rfl) (by decide) (cs_X7_takeSignedHalf hG103 (oa_af ho113 hA104) (fun _ _ _ _ h => h)) rfl (fun _ h => nomatch h) (fun S114 hx118 hG115 hB116 hA117 => ?_)
        refine tt_aload_n (j := 0) dX2_fitOperands_47 rfl ?_
        obtain ⟨b119, hr120, ho121⟩ := gi_R (k := 129) hG h0 7 0
        refine gt_gR (id := 129) dX2_fitOperands_48 fl_2_18 rfl rfl h0 hA117 hr120 ?_
        refine gt_Vv (As := []) dX2_fitOperands_51 ca_X2_70 ⟨by decide, by decide⟩ ho121 hA117 rfl (Nat.le_of_ble_eq_true rfl) (Nat.le_of_ble_eq_true rfl) (by decide) (cs_X7_takeSignedHalf hG115 (oa_af ho121 hA117) (fun _ _ _ _ h => h)) rfl (fun _ h => nomatch h) (fun S122 hx126 hG123 hB124 hA125 => ?_)
        refine tt_goto (tgt := 71) dX2_fitOperands_54 rfl ?_
        exact B106 S122 hG123 hA125
      refine tt_icmp_eq (tgt := 40) dX2_fitOperands_31 rfl (fun q127 => ?_) (fun q127 => ?_)
      · skip
        have h128 : Rg 17 17 (hp_I S 200 o1) := rg_eq_l (rg_all (hp_I S 200 o1)) (⟨by decide, by decide⟩ : Rg 17 17 17) q127
        exact B110 
      · skip
        refine tt_iload_n (j := 2) dX2_fitOperands_34 rfl ?_
        refine tt_bipush (v := 16) dX2_fitOperands_35 rfl ?_
        refine tt_icmp_ne (tgt := 57) dX2_fitOperands_37 rfl (fun q129 => ?_) (fun q129 => ?_)
        · skip
          refine tt_aload_n (j := 0) dX2_fitOperands_57 rfl ?_
          obtain ⟨b130, hr131, ho132⟩ := gi_R (k := 128) hG h0 7 0
          refine gt_gR (id := 128) dX2_fitOperands_58 fl_2_12 rfl rfl h0 hA104 hr131 ?_
          refine gt_Vv (As := []) dX2_fitOperands_61 ca_X2_76 ⟨by decide, by decide⟩ ho132 hA104 rfl (Nat.le_of_ble_eq_true rfl) (Nat.le_of_ble_eq_true rfl) (by decide) (cs_X7_takeLowHalf hG103 (oa_af ho132 hA104) (fun _ _ _ _ h => h)) rfl (fun _ h => nomatch h) (fun S133 hx137 hG134 hB135 hA136 => ?_)
          refine tt_aload_n (j := 0) dX2_fitOperands_64 rfl ?_
          obtain ⟨b138, hr139, ho140⟩ := gi_R (k := 129) hG h0 7 0
          refine gt_gR (id := 129) dX2_fitOperands_65 fl_2_18 rfl rfl h0 hA136 hr139 ?_
          refine gt_Vv (As := []) dX2_fitOperands_68 ca_X2_76 ⟨by decide, by decide⟩ ho140 hA136 rfl (Nat.le_of_ble_eq_true rfl) (Nat.le_of_ble_eq_true rfl) (by decide) (cs_X7_takeLowHalf hG134 (oa_af ho140 hA136) (fun _ _ _ _ h => h)) rfl (fun _ h => nomatch h) (fun S141 hx145 hG142 hB143 hA144 => ?_)
          exact B106 S141 hG142 hA144
        · skip
          have h146 : Rg 16 16 (hp_I S 200 o1) := rg_eq_l (rg_all (hp_I S 200 o1)) (⟨by decide, by decide⟩ : Rg 16 16 16) q129
          exact B110 
    · skip
      have h147 : Rg 64 64 (hp_I S 201 o1) := rg_eq_l (rg_all (hp_I S 201 o1)) (⟨by decide, by decide⟩ : Rg 64 64 64) q105
      exact tt_vreturn dX2_fitOperands_27 rfl (hP _ _ _ _ ⟨hG103, hA104, Or.inl ⟨_, rfl, rfl, trivial, rfl, rfl⟩⟩)
  refine tt_icmp_ne (tgt := 18) dX2_fitOperands_8 rfl (fun q148 => ?_) (fun q148 => ?_)
  · skip
    exact tt_loc (ks := [1, 2, 0]) rfl (B101 S hG hA)
  · skip
    have h149 : Rg 18 18 (hp_I S 200 o1) := rg_eq_l (rg_all (hp_I S 200 o1)) (⟨by decide, by decide⟩ : Rg 18 18 18) q148
    refine tt_aload_n (j := 1) dX2_fitOperands_11 rfl ?_
    obtain ⟨b150, hr151, ho152⟩ := gi_R (k := 129) hG h0 7 0
    refine gt_gR (id := 129) dX2_fitOperands_12 fl_2_18 rfl rfl h0 hA hr151 ?_
    refine gt_Vv (As := []) dX2_fitOperands_15 ca_X2_70 ⟨by decide, by decide⟩ ho152 hA rfl (Nat.le_of_ble_eq_true rfl) (Nat.le_of_ble_eq_true rfl) (by decide) (cs_X7_takeSignedHalf hG (oa_af ho152 hA) (fun _ _ _ _ h => h)) rfl (fun _ h => nomatch h) (fun S153 hx157 hG154 hB155 hA156 => ?_)
    exact tt_loc (ks := [1, 2, 0]) rfl (B101 S153 hG154 hA156)
