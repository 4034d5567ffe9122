set_option maxHeartbeats 4000000 in
theorem cs_X9_has {xi : SX} {S : Hp} {E : List Nat} {kc nc : Nat} {P : Po} {o0 : Nat} {x1 : Int32} {x2 : Int32} {y3 : Int64} (hG : GI S E) (h0 : Oa S E 9 0 o0) (hkc : 1 ≤ kc) (hnc : 6 ≤ nc) (hP : ∀ r T x y, PV E [9987] S kc nc (rI 0 1) ex0 ["java/lang/IllegalArgumentException"] r T x y → P r T x y) : TT xi M_X9_has 0 [(0, .ref o0), (1, .int x1), (2, .int x2), (3, .long y3)] [] S kc nc P := by
  have hA : Af E [9987] S S := af_rf
  refine tt_iload_n (j := 2) dX9_has_0 rfl ?_
  refine gt_Svp (As := [.int x2]) dX9_has_1 ca_X9_77 ⟨by decide, by decide⟩ hA (Nat.le_of_ble_eq_true rfl) (Nat.le_of_ble_eq_true rfl) (by decide) (cs_X9_requireLocation hG hkc hnc (fun _ _ _ _ h => h)) rfl (fun X hX T g1 g2 => hP _ _ _ _ ⟨g1, g2, Or.inr ⟨X, hX, rfl⟩⟩) (fun _ _ q => q) (fun hx105 => ?_)
  refine tt_aload_n (j := 0) dX9_has_4 rfl ?_
  obtain ⟨b106, hr107, ho108⟩ := gi_R (k := 579) hG h0 4 0
  refine gt_gR (id := 579) dX9_has_5 fl_9_37 rfl rfl h0 hA hr107 ?_
  refine tt_iload_n (j := 1) dX9_has_8 rfl ?_
  refine gt_VIp (As := [.int x1]) dX9_has_9 ca_X9_115 ⟨by decide, by decide⟩ ho108 hA rfl (Nat.le_of_ble_eq_true rfl) (Nat.le_of_ble_eq_true rfl) (by decide) (cs_X4_timesGot hG (oa_af ho108 hA) (fun _ _ _ _ h => h)) rfl (fun _ h => nomatch h) (fun _ _ q => q) (fun x114 h115 hx113 => ?_)
  have B116 : ∀ (S117 : Hp) (x120 : Int32), GI S117 E → Af E [9987] S S117 → Rg 0 1 x120 → TT xi M_X9_has 36 [(0, .ref o0), (1, .int x1), (2, .int x2), (3, .long y3)] [.int x120] S117 kc nc P := by
    intro S117 x120 hG118 hA119 h121
    exact tt_ireturn dX9_has_36 .boolean rfl (rg_nar (rg_w h121)) (hP _ _ _ _ ⟨hG118, hA119, Or.inl ⟨_, rfl, ⟨_, rfl, rg_w h121⟩, trivial, rfl, rfl⟩⟩)
  have B122 : ∀ (S123 : Hp), GI S123 E → Af E [9987] S S123 → TT xi M_X9_has 35 [(0, .ref o0), (1, .int x1), (2, .int x2), (3, .long y3)] [] S123 kc nc P := by
    intro S123 hG124 hA125
    refine tt_iconst (v := 0) dX9_has_35 rfl ?_
    exact B116 S123 0 hG124 hA125 (rg_w (⟨by decide, by decide⟩ : Rg 0 0 0))
  refine tt_if_eq (tgt := 35) dX9_has_12 rfl (fun q126 => ?_) (fun q126 => ?_)
  · skip
    have h127 : Rg 0 0 x114 := rg_eq_l h115 (⟨by decide, by decide⟩ : Rg 0 0 0) q126
    exact B122 S hG hA
  · skip
    refine tt_aload_n (j := 0) dX9_has_15 rfl ?_
    refine gt_gR (id := 579) dX9_has_16 fl_9_37 rfl rfl h0 hA hr107 ?_
    refine tt_iload_n (j := 1) dX9_has_19 rfl ?_
    refine tt_iload_n (j := 2) dX9_has_20 rfl ?_
    refine gt_VO (As := [.int x1, .int x2]) dX9_has_21 ca_X9_122 ⟨by decide, by decide⟩ ho108 hA rfl (Nat.le_of_ble_eq_true rfl) (Nat.le_of_ble_eq_true rfl) (by decide) (cs_X4_spanOf hG (oa_af ho108 hA) (fun _ _ _ _ h => h)) rfl (fun _ h => nomatch h) (fun S128 b133 h134 hx132 hG129 hB130 hA131 => ?_)
    have h135 := oa_fa h134 hA
    refine tt_lload_n (j := 3) dX9_has_24 rfl ?_
    refine gt_VIp (As := [.long y3]) dX9_has_25 ca_X9_135 ⟨by decide, by decide⟩ h135 hA131 rfl (Nat.le_of_ble_eq_true rfl) (Nat.le_of_ble_eq_true rfl) (by decide) (cs_X7_holds hG129 (oa_af h135 hA131) (fun _ _ _ _ h => h)) rfl (fun _ h => nomatch h) (fun _ _ q => q) (fun x141 h142 hx140 => ?_)
    refine tt_if_eq (tgt := 35) dX9_has_28 rfl (fun q143 => ?_) (fun q143 => ?_)
    · skip
      have h144 : Rg 0 0 x141 := rg_eq_l h142 (⟨by decide, by decide⟩ : Rg 0 0 0) q143
      exact B122 S128 hG129 hA131
    · skip
      have h145 : Rg 1 1 x141 := rg_ne_lo h142 (⟨by decide, by decide⟩ : Rg 0 0 0) q143
      refine tt_iconst (v := 1) dX9_has_31 rfl ?_
      refine tt_goto (tgt := 36) dX9_has_32 rfl ?_
      exact B116 S128 1 hG129 hA131 (rg_w (⟨by decide, by decide⟩ : Rg 1 1 1))
set_option maxHeartbeats 4000000 in
theorem cs_X9_put {xi : SX} {S : Hp} {E : List Nat} {kc nc : Nat} {P : Po} {o0 : Nat} {x1 : Int32} {y2 : Int64} (hG : GI S E) (h0 : Oa S E 9 0 o0) (hkc : 1 ≤ kc) (hnc : 6 ≤ nc) (hP : ∀ r T x y, PV E [9992] S kc nc rV ex0 ["java/lang/IllegalArgumentException"] r T x y → P r T x y) : TT xi M_X9_put 0 [(0, .ref o0), (1, .int x1), (2, .long y2)] [] S kc nc P := by
  have hA : Af E [9992] S S := af_rf
  refine tt_iload_n (j := 1) dX9_put_0 rfl ?_
  refine gt_Svp (As := [.int x1]) dX9_put_1 ca_X9_77 ⟨by decide, by decide⟩ hA (Nat.le_of_ble_eq_true rfl) (Nat.le_of_ble_eq_true rfl) (by decide) (cs_X9_requireLocation hG hkc hnc (fun _ _ _ _ h => h)) rfl (fun X hX T g1 g2 => hP _ _ _ _ ⟨g1, g2, Or.inr ⟨X, hX, rfl⟩⟩) (fun _ _ q => q) (fun hx105 => ?_)
  refine tt_aload_n (j := 0) dX9_put_4 rfl ?_
  obtain ⟨b106, hr107, ho108⟩ := gi_R (k := 580) hG h0 6 0
  refine gt_gR (id := 580) dX9_put_5 fl_9_44 rfl rfl h0 hA hr107 ?_
  refine tt_iload_n (j := 1) dX9_put_8 rfl ?_
  refine tt_lload_n (j := 2) dX9_put_9 rfl ?_
  refine gt_Vv (As := [.int x1, .long y2]) dX9_put_10 ca_X9_142 ⟨by decide, by decide⟩ ho108 hA rfl (Nat.le_of_ble_eq_true rfl) (Nat.le_of_ble_eq_true rfl) (by decide) (cs_X6_prepare hG (oa_af ho108 hA) (fun _ _ _ _ h => h)) rfl (fun _ h => nomatch h) (fun S109 hx113 hG110 hB111 hA112 => ?_)
  exact tt_vreturn dX9_put_13 rfl (hP _ _ _ _ ⟨hG110, hA112, Or.inl ⟨_, rfl, rfl, trivial, rfl, rfl⟩⟩)
set_option maxHeartbeats 4000000 in
theorem cs_X9_value {xi : SX} {S : Hp} {E : List Nat} {kc nc : Nat} {P : Po} {o0 : Nat} {x1 : Int32} (hG : GI S E) (h0 : Oa S E 9 0 o0) (hkc : 1 ≤ kc) (hnc : 6 ≤ nc) (hP : ∀ r T x y, PV E [] S kc nc rJ (fun _ T => T = S) ["java/lang/IllegalArgumentException"] r T x y → P r T x y) : TT xi M_X9_value 0 [(0, .ref o0), (1, .int x1)] [] S kc nc P := by
  have hA : Af E [] S S := af_rf
  refine tt_iload_n (j := 1) dX9_value_0 rfl ?_
  refine gt_Svp (As := [.int x1]) dX9_value_1 ca_X9_77 ⟨by decide, by decide⟩ hA (Nat.le_of_ble_eq_true rfl) (Nat.le_of_ble_eq_true rfl) (by decide) (cs_X9_requireLocation hG hkc hnc (fun _ _ _ _ h => h)) rfl (fun X hX T g1 g2 => hP _ _ _ _ ⟨g1, g2, Or.inr ⟨X, hX, rfl⟩⟩) (fun _ _ q => q) (fun hx105 => ?_)
  refine tt_aload_n (j := 0) dX9_value_4 rfl ?_
  obtain ⟨b106, hr107, ho108⟩ := gi_R (k := 580) hG h0 6 0
  refine gt_gR (id := 580) dX9_value_5 fl_9_44 rfl rfl h0 hA hr107 ?_
  refine tt_getI (id := 388) dX9_value_8 fl_9_148 rfl rfl (ob_af ho108 hA) ?_
  refine tt_iconst (v := (-1)) dX9_value_11 rfl ?_
  have B109 : ∀ (y110 : Int64), TT xi M_X9_value 27 [(0, .ref o0), (1, .int x1)] [.long y110] S kc nc P := by
    intro y110 
    exact tt_lreturn dX9_value_27 rfl (hP _ _ _ _ ⟨hG, hA, Or.inl ⟨_, rfl, ⟨_, rfl⟩, rfl, rfl, rfl⟩⟩)
  refine tt_icmp_ne (tgt := 19) dX9_value_12 rfl (fun q111 => ?_) (fun q111 => ?_)
  · skip
    refine tt_aload_n (j := 0) dX9_value_19 rfl ?_
    refine gt_gR (id := 580) dX9_value_20 fl_9_44 rfl rfl h0 hA hr107 ?_
    refine tt_iload_n (j := 1) dX9_value_23 rfl ?_
    refine gt_VJp (As := [.int x1]) dX9_value_24 ca_X9_157 ⟨by decide, by decide⟩ ho108 hA rfl (Nat.le_of_ble_eq_true rfl) (Nat.le_of_ble_eq_true rfl) (by decide) (cs_X6_read hG (oa_af ho108 hA) (fun _ _ _ _ h => h)) rfl (fun _ h => nomatch h) (fun _ _ q => q) (fun y117 hx116 => ?_)
    exact B109 y117
  · skip
    have h119 : Rg (-1) (-1) (hp_I S 388 b106) := rg_eq_l (rg_all (hp_I S 388 b106)) (⟨by decide, by decide⟩ : Rg (-1) (-1) (-1)) q111
    refine tt_lconst (v := 0) dX9_value_15 rfl ?_
    refine tt_goto (tgt := 27) dX9_value_16 rfl ?_
    exact B109 0
set_option maxHeartbeats 4000000 in
theorem cs_X0_narrowCompared {xi : SX} {S : Hp} {E : List Nat} {kc nc : Nat} {P : Po} {o0 : Nat} {x1 : Int32} {x2 : Int32} (hG : GI S E) (h0 : Oa S E 0 0 o0) (h2 : Rg 0 1 x2) (hP : ∀ r T x y, PV E [9987] S kc nc rV ex0 [] r T x y → P r T x y) : TT xi M_X0_narrowCompared 0 [(0, .ref o0), (1, .int x1), (2, .int x2)] [] S kc nc P := by
  have hA : Af E [9987] S S := af_rf
  refine tt_iload_n (j := 2) dX0_narrowCompared_0 rfl ?_
  have B101 : ∀ (b102 : Nat), Oa S E 7 0 b102 → TT xi M_X0_narrowCompared 15 [(0, .ref o0), (1, .int x1), (2, .int x2)] [.ref b102] S kc nc P := by
    intro b102 h103
    refine tt_astore_n (ks := [0, 1, 2, 3]) (L' := [(3, .ref b102), (0, .ref o0), (1, .int x1), (2, .int x2)]) dX0_narrowCompared_15 (by decide) rfl ?_
    refine tt_iload_n (j := 3) dX0_narrowCompared_16 rfl ?_
    have B104 : ∀ (b105 : Nat), Oa S E 7 0 b105 → TT xi M_X0_narrowCompared 31 [(0, .ref o0), (1, .int x1), (2, .int x2), (3, .ref b102)] [.ref b105] S kc nc P := by
      intro b105 h106
      refine tt_astore (ks := [0, 1, 2, 3, 4]) (L' := [(4, .ref b105), (0, .ref o0), (1, .int x1), (2, .int x2), (3, .ref b102)]) dX0_narrowCompared_31 (by decide) rfl ?_
      refine tt_iload_n (j := 3) dX0_narrowCompared_33 rfl ?_
      refine tt_iload_n (j := 2) dX0_narrowCompared_34 rfl ?_
      refine tt_bipush (v := 12) dX0_narrowCompared_35 rfl ?_
      have B107 : ∀ (x108 : Int32), Rg 0 1 x108 → TT xi M_X0_narrowCompared 50 [(0, .ref o0), (1, .int x1), (2, .int x2), (3, .ref b102), (4, .ref b105)] [.int x108, .int x2] S kc nc P := by
        intro x108 h109
        have B110 : ∀ (x111 : Int32), Rg 0 1 x111 → TT xi M_X0_narrowCompared 58 [(0, .ref o0), (1, .int x1), (2, .int x2), (3, .ref b102), (4, .ref b105)] [.int x111] S kc nc P := by
          intro x111 h112
          refine tt_istore (ks := [0, 1, 2, 3, 4, 5]) (L' := [(5, .int x111), (0, .ref o0), (1, .int x1), (2, .int x2), (3, .ref b102), (4, .ref b105)]) dX0_narrowCompared_58 (by decide) rfl ?_
          refine tt_iload (j := 0) dX0_narrowCompared_60 rfl ?_
          have B113 : ∀ (x114 : Int32), Rg 0 1 x114 → TT xi M_X0_narrowCompared 70 [(0, .ref o0), (1, .int x1), (2, .int x2), (3, .ref b102), (4, .ref b105), (5, .int x111)] [.int x114] S kc nc P := by
            intro x114 h115
            refine tt_istore (ks := [0, 1, 2, 3, 4, 5, 6]) (L' := [(6, .int x114), (0, .ref o0), (1, .int x1), (2, .int x2), (3, .ref b102), (4, .ref b105), (5, .int x111)]) dX0_narrowCompared_70 (by decide) rfl ?_
            refine tt_iload_n (j := 2) dX0_narrowCompared_72 rfl ?_
            refine tt_bipush (v := 12) dX0_narrowCompared_73 rfl ?_
            have B116 : ∀ (S117 : Hp), GI S117 E → Af E [9987] S S117 → TT xi M_X0_narrowCompared 114 [(0, .ref o0), (1, .int x1), (2, .int x2), (3, .ref b102), (4, .ref b105), (5, .int x111), (6, .int x114)] [] S117 kc nc P := by
              intro S117 hG118 hA119
              exact tt_vreturn dX0_narrowCompared_114 rfl (hP _ _ _ _ ⟨hG118, hA119, Or.inl ⟨_, rfl, rfl, trivial, rfl, rfl⟩⟩)
            have B120 : TT xi M_X0_narrowCompared 84 [(0, .ref o0), (1, .int x1), (2, .int x2), (3, .ref b102), (4, .ref b105), (5, .int x111), (6, .int x114)] [] S kc nc P := by
              refine tt_aload_n (j := 3) dX0_narrowCompared_84 rfl ?_
              refine tt_aload (j := 4) dX0_narrowCompared_85 rfl ?_
              refine tt_iload (j := 6) dX0_narrowCompared_87 rfl ?_
              refine gt_Sv (As := [.ref b102, .ref b105, .int x114]) dX0_narrowCompared_89 ca_X0_70 ⟨by decide, by decide⟩ hA (Nat.le_of_ble_eq_true rfl) (Nat.le_of_ble_eq_true rfl) (by decide) (cs_X0_order hG (oa_af h103 hA) (oa_af h106 hA) (fun _ _ _ _ h => h)) rfl (fun _ h => nomatch h) (fun S121 hx125 hG122 hB123 hA124 => ?_)
              refine tt_goto (tgt := 114) dX0_narrowCompared_92 rfl ?_
              exact B116 S121 hG122 hA124
            refine tt_icmp_eq (tgt := 84) dX0_narrowCompared_75 rfl (fun q126 => ?_) (fun q126 => ?_)
            · skip
              have h127 : Rg 12 12 x1 := rg_eq_l (rg_all x1) (⟨by decide, by decide⟩ : Rg 12 12 12) q126
              exact tt_loc (ks := [1, 2, 3, 4, 5, 6, 0]) rfl (B120 )
            · skip
              refine tt_iload_n (j := 2) dX0_narrowCompared_78 rfl ?_
              refine tt_bipush (v := 14) dX0_narrowCompared_79 rfl ?_
              refine tt_icmp_ne (tgt := 95) dX0_narrowCompared_81 rfl (fun q128 => ?_) (fun q128 => ?_)
              · skip
                refine tt_iload_n (j := 2) dX0_narrowCompared_95 rfl ?_
                refine tt_iconst (v := 2) dX0_narrowCompared_96 rfl ?_
                have B129 : TT xi M_X0_narrowCompared 106 [(0, .ref o0), (1, .int x1), (2, .int x2), (3, .ref b102), (4, .ref b105), (5, .int x111), (6, .int x114)] [] S kc nc P := by
                  refine tt_aload_n (j := 3) dX0_narrowCompared_106 rfl ?_
                  refine tt_aload (j := 4) dX0_narrowCompared_107 rfl ?_
                  refine tt_iload (j := 6) dX0_narrowCompared_109 rfl ?_
                  refine gt_Sv (As := [.ref b102, .ref b105, .int x114]) dX0_narrowCompared_111 ca_X0_74 ⟨by decide, by decide⟩ hA (Nat.le_of_ble_eq_true rfl) (Nat.le_of_ble_eq_true rfl) (by decide) (cs_X0_orderUnsigned hG (oa_af h103 hA) (oa_af h106 hA) (fun _ _ _ _ h => h)) rfl (fun _ h => nomatch h) (fun S130 hx134 hG131 hB132 hA133 => ?_)
                  exact B116 S130 hG131 hA133
                refine tt_icmp_eq (tgt := 106) dX0_narrowCompared_97 rfl (fun q135 => ?_) (fun q135 => ?_)
                · skip
                  have h136 : Rg 2 2 x1 := rg_eq_l (rg_all x1) (⟨by decide, by decide⟩ : Rg 2 2 2) q135
                  exact tt_loc (ks := [1, 2, 3, 4, 5, 6, 0]) rfl (B129 )
                · skip
                  refine tt_iload_n (j := 2) dX0_narrowCompared_100 rfl ?_
                  refine tt_bipush (v := 6) dX0_narrowCompared_101 rfl ?_
                  refine tt_icmp_ne (tgt := 114) dX0_narrowCompared_103 rfl (fun q137 => ?_) (fun q137 => ?_)
                  · skip
                    exact tt_loc (ks := [1, 2, 3, 4, 5, 6, 0]) rfl (B116 S hG hA)
                  · skip
                    have h138 : Rg 6 6 x1 := rg_eq_l (rg_all x1) (⟨by decide, by decide⟩ : Rg 6 6 6) q137
                    exact tt_loc (ks := [1, 2, 3, 4, 5, 6, 0]) rfl (B129 )
              · skip
                have h139 : Rg 14 14 x1 := rg_eq_l (rg_all x1) (⟨by decide, by decide⟩ : Rg 14 14 14) q128
                exact tt_loc (ks := [1, 2, 3, 4, 5, 6, 0]) rfl (B120 )
          refine tt_if_eq (tgt := 69) dX0_narrowCompared_62 rfl (fun q140 => ?_) (fun q140 => ?_)
          · skip
            have h141 : Rg 0 0 x111 := rg_eq_l h112 (⟨by decide, by decide⟩ : Rg 0 0 0) q140
            refine tt_iconst (v := 0) dX0_narrowCompared_69 rfl ?_
            exact tt_loc (ks := [1, 2, 3, 4, 5, 0]) rfl (B113 0 (rg_w (⟨by decide, by decide⟩ : Rg 0 0 0)))
          · skip
            have h142 : Rg 1 1 x111 := rg_ne_lo h112 (⟨by decide, by decide⟩ : Rg 0 0 0) q140
            refine tt_iconst (v := 1) dX0_narrowCompared_65 rfl ?_
            refine tt_goto (tgt := 70) dX0_narrowCompared_66 rfl ?_
            exact tt_loc (ks := [1, 2, 3, 4, 5, 0]) rfl (B113 1 (rg_w (⟨by decide, by decide⟩ : Rg 1 1 1)))
        refine tt_icmp_ne (tgt := 57) dX0_narrowCompared_50 rfl (fun q143 => ?_) (fun q143 => ?_)
        · skip
          refine tt_iconst (v := 0) dX0_narrowCompared_57 rfl ?_
          exact B110 0 (rg_w (⟨by decide, by decide⟩ : Rg 0 0 0))
        · skip
          refine tt_iconst (v := 1) dX0_narrowCompared_53 rfl ?_
          refine tt_goto (tgt := 58) dX0_narrowCompared_54 rfl ?_
          exact B110 1 (rg_w (⟨by decide, by decide⟩ : Rg 1 1 1))
      have B144 : TT xi M_X0_narrowCompared 45 [(0, .ref o0), (1, .int x1), (2, .int x2), (3, .ref b102), (4, .ref b105)] [.int x2] S kc nc P := by
        refine tt_iconst (v := 1) dX0_narrowCompared_45 rfl ?_
        refine tt_goto (tgt := 50) dX0_narrowCompared_46 rfl ?_
        exact B107 1 (rg_w (⟨by decide, by decide⟩ : Rg 1 1 1))
      refine tt_icmp_eq (tgt := 45) dX0_narrowCompared_37 rfl (fun q145 => ?_) (fun q145 => ?_)
      · skip
        have h146 : Rg 12 12 x1 := rg_eq_l (rg_all x1) (⟨by decide, by decide⟩ : Rg 12 12 12) q145
        exact tt_loc (ks := [1, 2, 3, 4, 0]) rfl (B144 )
      · skip
        refine tt_iload_n (j := 2) dX0_narrowCompared_40 rfl ?_
        refine tt_iconst (v := 2) dX0_narrowCompared_41 rfl ?_
        refine tt_icmp_ne (tgt := 49) dX0_narrowCompared_42 rfl (fun q147 => ?_) (fun q147 => ?_)
        · skip
          refine tt_iconst (v := 0) dX0_narrowCompared_49 rfl ?_
          exact tt_loc (ks := [1, 2, 3, 4, 0]) rfl (B107 0 (rg_w (⟨by decide, by decide⟩ : Rg 0 0 0)))
        · skip
          have h148 : Rg 2 2 x1 := rg_eq_l (rg_all x1) (⟨by decide, by decide⟩ : Rg 2 2 2) q147
          exact tt_loc (ks := [1, 2, 3, 4, 0]) rfl (B144 )
    refine tt_if_eq (tgt := 27) dX0_narrowCompared_17 rfl (fun q149 => ?_) (fun q149 => ?_)
    · skip
      have h150 : Rg 0 0 x2 := rg_eq_l h2 (⟨by decide, by decide⟩ : Rg 0 0 0) q149
      refine tt_aload_n (j := 1) dX0_narrowCompared_27 rfl ?_
      obtain ⟨b151, hr152, ho153⟩ := gi_R (k := 0) hG h0 7 0
      refine gt_gR (id := 0) dX0_narrowCompared_28 fl_0_14 rfl rfl h0 hA hr152 ?_
      exact tt_loc (ks := [1, 2, 3, 0]) rfl (B104 b151 ho153)
    · skip
      have h154 : Rg 1 1 x2 := rg_ne_lo h2 (⟨by decide, by decide⟩ : Rg 0 0 0) q149
      refine tt_aload_n (j := 1) dX0_narrowCompared_20 rfl ?_
      obtain ⟨b155, hr156, ho157⟩ := gi_R (k := 1) hG h0 7 0
      refine gt_gR (id := 1) dX0_narrowCompared_21 fl_0_18 rfl rfl h0 hA hr156 ?_
      refine tt_goto (tgt := 31) dX0_narrowCompared_24 rfl ?_
      exact tt_loc (ks := [1, 2, 3, 0]) rfl (B104 b155 ho157)
  refine tt_if_eq (tgt := 11) dX0_narrowCompared_1 rfl (fun q158 => ?_) (fun q158 => ?_)
  · skip
    have h159 : Rg 0 0 x2 := rg_eq_l h2 (⟨by decide, by decide⟩ : Rg 0 0 0) q158
    refine tt_aload_n (j := 0) dX0_narrowCompared_11 rfl ?_
    obtain ⟨b160, hr161, ho162⟩ := gi_R (k := 1) hG h0 7 0
    refine gt_gR (id := 1) dX0_narrowCompared_12 fl_0_18 rfl rfl h0 hA hr161 ?_
    exact B101 b160 ho162
  · skip
    have h163 : Rg 1 1 x2 := rg_ne_lo h2 (⟨by decide, by decide⟩ : Rg 0 0 0) q158
    refine tt_aload_n (j := 0) dX0_narrowCompared_4 rfl ?_
    obtain ⟨b164, hr165, ho166⟩ := gi_R (k := 0) hG h0 7 0
    refine gt_gR (id := 0) dX0_narrowCompared_5 fl_0_14 rfl rfl h0 hA hr165 ?_
    refine tt_goto (tgt := 15) dX0_narrowCompared_8 rfl ?_
    exact B101 b164 ho166
set_option maxHeartbeats 4000000 in
theorem cs_X3_readOther {xi : SX} {S : Hp} {E : List Nat} {kc nc : Nat} {P : Po} {o0 : Nat} {x1 : Int32} (hG : GI S E) (h0 : Oa S E 3 0 o0) (hP : ∀ r T x y, PV E [193, 195, 196, 197, 198, 200, 202, 203, 204] S kc nc rV ex0 [] r T x y → P r T x y) : TT xi M_X3_readOther 0 [(0, .ref o0), (1, .int x1)] [] S kc nc P := by
  have hA : Af E [193, 195, 196, 197, 198, 200, 202, 203, 204] S S := af_rf
  refine tt_iload_n (j := 1) dX3_readOther_0 rfl ?_
  have B101 : ∀ (S102 : Hp), GI S102 E → Af E [193, 195, 196, 197, 198, 200, 202, 203, 204] S S102 → TT xi M_X3_readOther 285 [(0, .ref o0), (1, .int x1)] [] S102 kc nc P := by
    intro S102 hG103 hA104
    exact tt_vreturn dX3_readOther_285 rfl (hP _ _ _ _ ⟨hG103, hA104, Or.inl ⟨_, rfl, rfl, trivial, rfl, rfl⟩⟩)
  refine gt_ls [140, 147, 155, 163, 173, 183, 193, 202, 209, 218, 225, 236, 247, 256, 263, 270, 280] dX3_readOther_1 (by decide) (by decide) (fa_cons ?_ (fa_cons ?_ (fa_cons ?_ (fa_cons ?_ (fa_cons ?_ (fa_cons ?_ (fa_cons ?_ (fa_cons ?_ (fa_cons ?_ (fa_cons ?_ (fa_cons ?_ (fa_cons ?_ (fa_cons ?_ (fa_cons ?_ (fa_cons ?_ (fa_cons ?_ (fa_cons ?_ fa_nil)))))))))))))))))
  · skip
    refine tt_aload_n (j := 0) dX3_readOther_140 rfl ?_
    refine gt_Vv (As := []) dX3_readOther_141 ca_X3_77 ⟨by decide, by decide⟩ h0 hA rfl (Nat.le_of_ble_eq_true rfl) (Nat.le_of_ble_eq_true rfl) (by decide) (cs_X3_readSignExtension hG (oa_af h0 hA) (fun _ _ _ _ h => h)) rfl (fun _ h => nomatch h) (fun S105 hx109 hG106 hB107 hA108 => ?_)
    refine tt_goto (tgt := 285) dX3_readOther_144 rfl ?_
    exact B101 S105 hG106 hA108
  · skip
    refine tt_aload_n (j := 0) dX3_readOther_147 rfl ?_
    refine tt_iconst (v := 4) dX3_readOther_148 rfl ?_
    refine gt_Vv (As := [.int 4]) dX3_readOther_149 ca_X3_80 ⟨by decide, by decide⟩ h0 hA rfl (Nat.le_of_ble_eq_true rfl) (Nat.le_of_ble_eq_true rfl) (by decide) (cs_X3_readArithmeticWithConstant hG (oa_af h0 hA) (fun _ _ _ _ h => h)) rfl (fun _ h => nomatch h) (fun S110 hx114 hG111 hB112 hA113 => ?_)
    refine tt_goto (tgt := 285) dX3_readOther_152 rfl ?_
    exact B101 S110 hG111 hA113
  · skip
    refine tt_aload_n (j := 0) dX3_readOther_155 rfl ?_
    refine tt_iconst (v := 1) dX3_readOther_156 rfl ?_
    refine gt_Vv (As := [.int 1]) dX3_readOther_157 ca_X3_80 ⟨by decide, by decide⟩ h0 hA rfl (Nat.le_of_ble_eq_true rfl) (Nat.le_of_ble_eq_true rfl) (by decide) (cs_X3_readArithmeticWithConstant hG (oa_af h0 hA) (fun _ _ _ _ h => h)) rfl (fun _ h => nomatch h) (fun S115 hx119 hG116 hB117 hA118 => ?_)
    refine tt_goto (tgt := 285) dX3_readOther_160 rfl ?_
    exact B101 S115 hG116 hA118
  · skip
    refine tt_aload_n (j := 0) dX3_readOther_163 rfl ?_
    refine tt_bipush (v := 8) dX3_readOther_164 rfl ?_
    refine tt_iconst (v := 1) dX3_readOther_166 rfl ?_
    refine gt_Vv (As := [.int 8, .int 1]) dX3_readOther_167 ca_X3_37 ⟨by decide, by decide⟩ h0 hA rfl (Nat.le_of_ble_eq_true rfl) (Nat.le_of_ble_eq_true rfl) (by decide) (cs_X3_readPair hG (oa_af h0 hA) (rg_w (⟨by decide, by decide⟩ : Rg 1 1 1)) (fun _ _ _ _ h => h)) rfl (fun _ h => nomatch h) (fun S120 hx124 hG121 hB122 hA123 => ?_)
    refine tt_goto (tgt := 285) dX3_readOther_170 rfl ?_
    exact B101 S120 hG121 hA123
  · skip
    refine tt_aload_n (j := 0) dX3_readOther_173 rfl ?_
    refine tt_bipush (v := 13) dX3_readOther_174 rfl ?_
    refine tt_iconst (v := 1) dX3_readOther_176 rfl ?_
    refine gt_Vv (As := [.int 13, .int 1]) dX3_readOther_177 ca_X3_37 ⟨by decide, by decide⟩ h0 hA rfl (Nat.le_of_ble_eq_true rfl) (Nat.le_of_ble_eq_true rfl) (by decide) (cs_X3_readPair hG (oa_af h0 hA) (rg_w (⟨by decide, by decide⟩ : Rg 1 1 1)) (fun _ _ _ _ h => h)) rfl (fun _ h => nomatch h) (fun S125 hx129 hG126 hB127 hA128 => ?_)
    refine tt_goto (tgt := 285) dX3_readOther_180 rfl ?_
    exact B101 S125 hG126 hA128
  · skip
    refine tt_aload_n (j := 0) dX3_readOther_183 rfl ?_
    refine tt_bipush (v := 13) dX3_readOther_184 rfl ?_
    refine tt_iconst (v := 0) dX3_readOther_186 rfl ?_
    refine gt_Vv (As := [.int 13, .int 0]) dX3_readOther_187 ca_X3_37 ⟨by decide, by decide⟩ h0 hA rfl (Nat.le_of_ble_eq_true rfl) (Nat.le_of_ble_eq_true rfl) (by decide) (cs_X3_readPair hG (oa_af h0 hA) (rg_w (⟨by decide, by decide⟩ : Rg 0 0 0)) (fun _ _ _ _ h => h)) rfl (fun _ h => nomatch h) (fun S130 hx134 hG131 hB132 hA133 => ?_)
    refine tt_goto (tgt := 285) dX3_readOther_190 rfl ?_
    exact B101 S130 hG131 hA133
  · skip
    refine tt_aload_n (j := 0) dX3_readOther_193 rfl ?_
    refine tt_bipush (v := 21) dX3_readOther_194 rfl ?_
    refine gt_pI (id := 200) (x := 21) dX3_readOther_196 fl_3_54 rfl rfl h0 hA rfl rfl rfl (gp_I hG) (by decide) (fun h => absurd h (by decide)) (fun h => absurd h (by decide)) (fun S135 hG136 hA137 e138 f139 er140 => ?_)
    refine tt_goto (tgt := 285) dX3_readOther_199 rfl ?_
    exact B101 S135 hG136 hA137
  · skip
    refine tt_aload_n (j := 0) dX3_readOther_202 rfl ?_
    refine gt_Vv (As := []) dX3_readOther_203 ca_X3_83 ⟨by decide, by decide⟩ h0 hA rfl (Nat.le_of_ble_eq_true rfl) (Nat.le_of_ble_eq_true rfl) (by decide) (cs_X3_readShift hG (oa_af h0 hA) (fun _ _ _ _ h => h)) rfl (fun _ h => nomatch h) (fun S141 hx145 hG142 hB143 hA144 => ?_)
    refine tt_goto (tgt := 285) dX3_readOther_206 rfl ?_
    exact B101 S141 hG142 hA144
  · skip
    refine tt_aload_n (j := 0) dX3_readOther_209 rfl ?_
    refine tt_bipush (v := 22) dX3_readOther_210 rfl ?_
    refine gt_pI (id := 200) (x := 22) dX3_readOther_212 fl_3_54 rfl rfl h0 hA rfl rfl rfl (gp_I hG) (by decide) (fun h => absurd h (by decide)) (fun h => absurd h (by decide)) (fun S146 hG147 hA148 e149 f150 er151 => ?_)
    refine tt_goto (tgt := 285) dX3_readOther_215 rfl ?_
    exact B101 S146 hG147 hA148
  · skip
    refine tt_aload_n (j := 0) dX3_readOther_218 rfl ?_
    refine gt_Vv (As := []) dX3_readOther_219 ca_X3_86 ⟨by decide, by decide⟩ h0 hA rfl (Nat.le_of_ble_eq_true rfl) (Nat.le_of_ble_eq_true rfl) (by decide) (cs_X3_readMoveToPlace hG (oa_af h0 hA) (fun _ _ _ _ h => h)) rfl (fun _ h => nomatch h) (fun S152 hx156 hG153 hB154 hA155 => ?_)
    refine tt_goto (tgt := 285) dX3_readOther_222 rfl ?_
    exact B101 S152 hG153 hA155
  · skip
    refine tt_aload_n (j := 0) dX3_readOther_225 rfl ?_
    refine tt_bipush (v := 20) dX3_readOther_226 rfl ?_
    refine tt_iconst (v := 0) dX3_readOther_228 rfl ?_
    refine tt_iconst (v := 4) dX3_readOther_229 rfl ?_
    refine gt_Vv (As := [.int 20, .int 0, .int 4]) dX3_readOther_230 ca_X3_41 ⟨by decide, by decide⟩ h0 hA rfl (Nat.le_of_ble_eq_true rfl) (Nat.le_of_ble_eq_true rfl) (by decide) (cs_X3_readJump hG (oa_af h0 hA) (fun _ _ _ _ h => h)) rfl (fun _ h => nomatch h) (fun S157 hx161 hG158 hB159 hA160 => ?_)
    refine tt_goto (tgt := 285) dX3_readOther_233 rfl ?_
    exact B101 S157 hG158 hA160
  · skip
    refine tt_aload_n (j := 0) dX3_readOther_236 rfl ?_
    refine tt_bipush (v := 20) dX3_readOther_237 rfl ?_
    refine tt_iconst (v := 0) dX3_readOther_239 rfl ?_
    refine tt_iconst (v := 1) dX3_readOther_240 rfl ?_
    refine gt_Vv (As := [.int 20, .int 0, .int 1]) dX3_readOther_241 ca_X3_41 ⟨by decide, by decide⟩ h0 hA rfl (Nat.le_of_ble_eq_true rfl) (Nat.le_of_ble_eq_true rfl) (by decide) (cs_X3_readJump hG (oa_af h0 hA) (fun _ _ _ _ h => h)) rfl (fun _ h => nomatch h) (fun S162 hx166 hG163 hB164 hA165 => ?_)
    refine tt_goto (tgt := 285) dX3_readOther_244 rfl ?_
    exact B101 S162 hG163 hA165
  · skip
    refine tt_aload_n (j := 0) dX3_readOther_247 rfl ?_
    refine tt_bipush (v := 22) dX3_readOther_248 rfl ?_
    refine gt_pI (id := 200) (x := 22) dX3_readOther_250 fl_3_54 rfl rfl h0 hA rfl rfl rfl (gp_I hG) (by decide) (fun h => absurd h (by decide)) (fun h => absurd h (by decide)) (fun S167 hG168 hA169 e170 f171 er172 => ?_)
    refine tt_goto (tgt := 285) dX3_readOther_253 rfl ?_
    exact B101 S167 hG168 hA169
  · skip
    refine tt_aload_n (j := 0) dX3_readOther_256 rfl ?_
    refine gt_Vv (As := []) dX3_readOther_257 ca_X3_89 ⟨by decide, by decide⟩ h0 hA rfl (Nat.le_of_ble_eq_true rfl) (Nat.le_of_ble_eq_true rfl) (by decide) (cs_X3_readTestNotNeg hG (oa_af h0 hA) (fun _ _ _ _ h => h)) rfl (fun _ h => nomatch h) (fun S173 hx177 hG174 hB175 hA176 => ?_)
    refine tt_goto (tgt := 285) dX3_readOther_260 rfl ?_
    exact B101 S173 hG174 hA176
  · skip
    refine tt_aload_n (j := 0) dX3_readOther_263 rfl ?_
    refine gt_Vv (As := []) dX3_readOther_264 ca_X3_92 ⟨by decide, by decide⟩ h0 hA rfl (Nat.le_of_ble_eq_true rfl) (Nat.le_of_ble_eq_true rfl) (by decide) (cs_X3_readIncDec hG (oa_af h0 hA) (fun _ _ _ _ h => h)) rfl (fun _ h => nomatch h) (fun S178 hx182 hG179 hB180 hA181 => ?_)
    refine tt_goto (tgt := 285) dX3_readOther_267 rfl ?_
    exact B101 S178 hG179 hA181
  · skip
    refine tt_aload_n (j := 0) dX3_readOther_270 rfl ?_
    refine tt_bipush (v := 17) dX3_readOther_271 rfl ?_
    refine tt_iconst (v := 0) dX3_readOther_273 rfl ?_
    refine gt_Vv (As := [.int 17, .int 0]) dX3_readOther_274 ca_X3_37 ⟨by decide, by decide⟩ h0 hA rfl (Nat.le_of_ble_eq_true rfl) (Nat.le_of_ble_eq_true rfl) (by decide) (cs_X3_readPair hG (oa_af h0 hA) (rg_w (⟨by decide, by decide⟩ : Rg 0 0 0)) (fun _ _ _ _ h => h)) rfl (fun _ h => nomatch h) (fun S183 hx187 hG184 hB185 hA186 => ?_)
    refine tt_goto (tgt := 285) dX3_readOther_277 rfl ?_
    exact B101 S183 hG184 hA186
  · skip
    refine tt_aload_n (j := 0) dX3_readOther_280 rfl ?_
    refine tt_iconst (v := 0) dX3_readOther_281 rfl ?_
    refine gt_pI (id := 195) (x := 0) dX3_readOther_282 fl_3_22 rfl rfl h0 hA rfl rfl rfl (gp_Ir hG (⟨by decide, by decide⟩ : Rg 0 0 0)) (by decide) (fun h => absurd h (by decide)) (fun h => absurd h (by decide)) (fun S188 hG189 hA190 e191 f192 er193 => ?_)
    exact B101 S188 hG189 hA190
set_option maxHeartbeats 4000000 in
theorem cs_X7_operate {xi : SX} {S : Hp} {E : List Nat} {kc nc : Nat} {P : Po} {o0 : Nat} {x1 : Int32} {o2 : Nat} {o3 : Nat} {x4 : Int32} (hG : GI S E) (h0 : Oa S E 7 0 o0) (h2 : Oa S E 7 0 o2) (h3 : Oa S E 7 0 o3) (hP : ∀ r T x y, PV E [9987] S kc nc rV ex0 [] r T x y → P r T x y) : TT xi M_X7_operate 0 [(0, .ref o0), (1, .int x1), (2, .ref o2), (3, .ref o3), (4, .int x4)] [] S kc nc P := by
  have hA : Af E [9987] S S := af_rf
  refine tt_iload_n (j := 1) dX7_operate_0 rfl ?_
  have B101 : ∀ (S102 : Hp), GI S102 E → Af E [9987] S S102 → TT xi M_X7_operate 215 [(0, .ref o0), (1, .int x1), (2, .ref o2), (3, .ref o3), (4, .int x4)] [] S102 kc nc P := by
    intro S102 hG103 hA104
    exact tt_vreturn dX7_operate_215 rfl (hP _ _ _ _ ⟨hG103, hA104, Or.inl ⟨_, rfl, rfl, trivial, rfl, rfl⟩⟩)
  refine gt_ts [88, 97, 106, 115, 134, 143, 154, 163, 173, 210] dX7_operate_1 (by decide) (by decide) (fa_cons ?_ (fa_cons ?_ (fa_cons ?_ (fa_cons ?_ (fa_cons ?_ (fa_cons ?_ (fa_cons ?_ (fa_cons ?_ (fa_cons ?_ (fa_cons ?_ fa_nil))))))))))
  · skip
    refine tt_aload_n (j := 0) dX7_operate_88 rfl ?_
    refine tt_aload_n (j := 2) dX7_operate_89 rfl ?_
    refine tt_aload_n (j := 3) dX7_operate_90 rfl ?_
    refine gt_Vv (As := [.ref o2, .ref o3]) dX7_operate_91 ca_X7_61 ⟨by decide, by decide⟩ h0 hA rfl (Nat.le_of_ble_eq_true rfl) (Nat.le_of_ble_eq_true rfl) (by decide) (cs_X7_add hG (oa_af h0 hA) (oa_af h2 hA) (oa_af h3 hA) (fun _ _ _ _ h => h)) rfl (fun _ h => nomatch h) (fun S105 hx109 hG106 hB107 hA108 => ?_)
    refine tt_goto (tgt := 215) dX7_operate_94 rfl ?_
    exact B101 S105 hG106 hA108
  · skip
    refine tt_aload_n (j := 0) dX7_operate_97 rfl ?_
    refine tt_aload_n (j := 2) dX7_operate_98 rfl ?_
    refine tt_aload_n (j := 3) dX7_operate_99 rfl ?_
    refine gt_Vv (As := [.ref o2, .ref o3]) dX7_operate_100 ca_X7_65 ⟨by decide, by decide⟩ h0 hA rfl (Nat.le_of_ble_eq_true rfl) (Nat.le_of_ble_eq_true rfl) (by decide) (cs_X7_subtract hG (oa_af h0 hA) (oa_af h2 hA) (oa_af h3 hA) (fun _ _ _ _ h => h)) rfl (fun _ h => nomatch h) (fun S110 hx114 hG111 hB112 hA113 => ?_)
    refine tt_goto (tgt := 215) dX7_operate_103 rfl ?_
    exact B101 S110 hG111 hA113
  · skip
    refine tt_aload_n (j := 0) dX7_operate_106 rfl ?_
    refine tt_aload_n (j := 2) dX7_operate_107 rfl ?_
    refine tt_aload_n (j := 3) dX7_operate_108 rfl ?_
    refine gt_Vv (As := [.ref o2, .ref o3]) dX7_operate_109 ca_X7_68 ⟨by decide, by decide⟩ h0 hA rfl (Nat.le_of_ble_eq_true rfl) (Nat.le_of_ble_eq_true rfl) (by decide) (cs_X7_and hG (oa_af h0 hA) (oa_af h2 hA) (oa_af h3 hA) (fun _ _ _ _ h => h)) rfl (fun _ h => nomatch h) (fun S115 hx119 hG116 hB117 hA118 => ?_)
    refine tt_goto (tgt := 215) dX7_operate_112 rfl ?_
    exact B101 S115 hG116 hA118
  · skip
    refine tt_aload_n (j := 0) dX7_operate_115 rfl ?_
    refine tt_iload_n (j := 1) dX7_operate_116 rfl ?_
    refine tt_iconst (v := 1) dX7_operate_117 rfl ?_
    have B120 : ∀ (x121 : Int32), Rg 0 1 x121 → TT xi M_X7_operate 126 [(0, .ref o0), (1, .int x1), (2, .ref o2), (3, .ref o3), (4, .int x4)] [.int x121, .ref o0] S kc nc P := by
      intro x121 h122
      refine tt_aload_n (j := 2) dX7_operate_126 rfl ?_
      refine tt_aload_n (j := 3) dX7_operate_127 rfl ?_
      refine gt_Vv (As := [.int x121, .ref o2, .ref o3]) dX7_operate_128 ca_X7_71 ⟨by decide, by decide⟩ h0 hA rfl (Nat.le_of_ble_eq_true rfl) (Nat.le_of_ble_eq_true rfl) (by decide) (cs_X7_mix hG (oa_af h0 hA) (rg_w h122) (oa_af h2 hA) (oa_af h3 hA) (fun _ _ _ _ h => h)) rfl (fun _ h => nomatch h) (fun S123 hx127 hG124 hB125 hA126 => ?_)
      refine tt_goto (tgt := 215) dX7_operate_131 rfl ?_
      exact B101 S123 hG124 hA126
    refine tt_icmp_ne (tgt := 125) dX7_operate_118 rfl (fun q128 => ?_) (fun q128 => ?_)
    · skip
      refine tt_iconst (v := 0) dX7_operate_125 rfl ?_
      exact B120 0 (rg_w (⟨by decide, by decide⟩ : Rg 0 0 0))
    · skip
      have h129 : Rg 1 1 x1 := rg_eq_l (rg_all x1) (⟨by decide, by decide⟩ : Rg 1 1 1) q128
      refine tt_iconst (v := 1) dX7_operate_121 rfl ?_
      refine tt_goto (tgt := 126) dX7_operate_122 rfl ?_
      exact B120 1 (rg_w (⟨by decide, by decide⟩ : Rg 1 1 1))
  · skip
    refine tt_aload_n (j := 0) dX7_operate_134 rfl ?_
    refine tt_lconst (v := 0) dX7_operate_135 rfl ?_
    refine tt_aload_n (j := 2) dX7_operate_136 rfl ?_
    refine gt_Vv (As := [.long 0, .ref o2]) dX7_operate_137 ca_X7_75 ⟨by decide, by decide⟩ h0 hA rfl (Nat.le_of_ble_eq_true rfl) (Nat.le_of_ble_eq_true rfl) (by decide) (cs_X7_subtractFrom hG (oa_af h0 hA) (oa_af h2 hA) (fun _ _ _ _ h => h)) rfl (fun _ h => nomatch h) (fun S130 hx134 hG131 hB132 hA133 => ?_)
    refine tt_goto (tgt := 215) dX7_operate_140 rfl ?_
    exact B101 S130 hG131 hA133
  · skip
    refine tt_aload_n (j := 0) dX7_operate_143 rfl ?_
    refine tt_ldc2 (v := (-1)) dX7_operate_144 kl_7_19 ?_
    refine tt_aload_n (j := 2) dX7_operate_147 rfl ?_
    refine gt_Vv (As := [.long (-1), .ref o2]) dX7_operate_148 ca_X7_75 ⟨by decide, by decide⟩ h0 hA rfl (Nat.le_of_ble_eq_true rfl) (Nat.le_of_ble_eq_true rfl) (by decide) (cs_X7_subtractFrom hG (oa_af h0 hA) (oa_af h2 hA) (fun _ _ _ _ h => h)) rfl (fun _ h => nomatch h) (fun S135 hx139 hG136 hB137 hA138 => ?_)
    refine tt_goto (tgt := 215) dX7_operate_151 rfl ?_
    exact B101 S135 hG136 hA138
  · skip
    refine tt_aload_n (j := 0) dX7_operate_154 rfl ?_
    refine tt_aload_n (j := 2) dX7_operate_155 rfl ?_
    refine tt_aload_n (j := 3) dX7_operate_156 rfl ?_
    refine gt_Vv (As := [.ref o2, .ref o3]) dX7_operate_157 ca_X7_79 ⟨by decide, by decide⟩ h0 hA rfl (Nat.le_of_ble_eq_true rfl) (Nat.le_of_ble_eq_true rfl) (by decide) (cs_X7_multiply hG (oa_af h0 hA) (oa_af h2 hA) (oa_af h3 hA) (fun _ _ _ _ h => h)) rfl (fun _ h => nomatch h) (fun S140 hx144 hG141 hB142 hA143 => ?_)
    refine tt_goto (tgt := 215) dX7_operate_160 rfl ?_
    exact B101 S140 hG141 hA143
  · skip
    refine tt_aload_n (j := 0) dX7_operate_163 rfl ?_
    refine tt_aload_n (j := 2) dX7_operate_164 rfl ?_
    refine tt_iload (j := 4) dX7_operate_165 rfl ?_
    refine gt_Vv (As := [.ref o2, .int x4]) dX7_operate_167 ca_X7_82 ⟨by decide, by decide⟩ h0 hA rfl (Nat.le_of_ble_eq_true rfl) (Nat.le_of_ble_eq_true rfl) (by decide) (cs_X7_shiftRight hG (oa_af h0 hA) (oa_af h2 hA) (fun _ _ _ _ h => h)) rfl (fun _ h => nomatch h) (fun S145 hx149 hG146 hB147 hA148 => ?_)
    refine tt_goto (tgt := 215) dX7_operate_170 rfl ?_
    exact B101 S145 hG146 hA148
  · skip
    refine tt_iload (j := 4) dX7_operate_173 rfl ?_
    have B150 : TT xi M_X7_operate 185 [(0, .ref o0), (1, .int x1), (2, .ref o2), (3, .ref o3), (4, .int x4)] [] S kc nc P := by
      refine tt_aload_n (j := 0) dX7_operate_185 rfl ?_
      refine tt_aload_n (j := 2) dX7_operate_186 rfl ?_
      refine tt_iload (j := 4) dX7_operate_187 rfl ?_
      refine gt_Vv (As := [.ref o2, .int x4]) dX7_operate_189 ca_X7_82 ⟨by decide, by decide⟩ h0 hA rfl (Nat.le_of_ble_eq_true rfl) (Nat.le_of_ble_eq_true rfl) (by decide) (cs_X7_shiftRight hG (oa_af h0 hA) (oa_af h2 hA) (fun _ _ _ _ h => h)) rfl (fun _ h => nomatch h) (fun S151 hx155 hG152 hB153 hA154 => ?_)
      refine tt_goto (tgt := 215) dX7_operate_192 rfl ?_
      exact B101 S151 hG152 hA154
    refine tt_if_eq (tgt := 185) dX7_operate_175 rfl (fun q156 => ?_) (fun q156 => ?_)
    · skip
      have h157 : Rg 0 0 x4 := rg_eq_l (rg_all x4) (⟨by decide, by decide⟩ : Rg 0 0 0) q156
      exact B150 
    · skip
      refine tt_aload_n (j := 2) dX7_operate_178 rfl ?_
      refine gt_VIp (As := []) dX7_operate_179 ca_X7_86 ⟨by decide, by decide⟩ h2 hA rfl (Nat.le_of_ble_eq_true rfl) (Nat.le_of_ble_eq_true rfl) (by decide) (cs_X7_isNatural hG (oa_af h2 hA) (fun _ _ _ _ h => h)) rfl (fun _ h => nomatch h) (fun _ _ q => q) (fun x163 h164 hx162 => ?_)
      refine tt_if_eq (tgt := 195) dX7_operate_182 rfl (fun q165 => ?_) (fun q165 => ?_)
      · skip
        have h166 : Rg 0 0 x163 := rg_eq_l h164 (⟨by decide, by decide⟩ : Rg 0 0 0) q165
        refine tt_aload_n (j := 0) dX7_operate_195 rfl ?_
        refine tt_lconst (v := 0) dX7_operate_196 rfl ?_
        refine tt_ldc2 (v := (-1)) dX7_operate_197 kl_7_19 ?_
        refine tt_iload (j := 4) dX7_operate_200 rfl ?_
        refine tt_lushr dX7_operate_202 (gt_tl (fun y167 => ?_))
        refine tt_lconst (v := 1) dX7_operate_203 rfl ?_
        refine gt_Vv (As := [.long 0, .long y167, .long 1]) dX7_operate_204 ca_X7_48 ⟨by decide, by decide⟩ h0 hA rfl (Nat.le_of_ble_eq_true rfl) (Nat.le_of_ble_eq_true rfl) (by decide) (cs_X7_become hG (oa_af h0 hA) (fun _ _ _ _ h => h)) rfl (fun _ h => nomatch h) (fun S168 hx172 hG169 hB170 hA171 => ?_)
        refine tt_goto (tgt := 215) dX7_operate_207 rfl ?_
        exact B101 S168 hG169 hA171
      · skip
        have h173 : Rg 1 1 x163 := rg_ne_lo h164 (⟨by decide, by decide⟩ : Rg 0 0 0) q165
        exact B150 
  · skip
    refine tt_aload_n (j := 0) dX7_operate_210 rfl ?_
    refine tt_aload_n (j := 3) dX7_operate_211 rfl ?_
    refine gt_Vv (As := [.ref o3]) dX7_operate_212 ca_X7_89 ⟨by decide, by decide⟩ h0 hA rfl (Nat.le_of_ble_eq_true rfl) (Nat.le_of_ble_eq_true rfl) (by decide) (cs_X7_copyFrom hG (oa_af h0 hA) (oa_af h3 hA) (fun _ _ _ _ h => h)) rfl (fun _ h => nomatch h) (fun S174 hx178 hG175 hB176 hA177 => ?_)
    exact B101 S174 hG175 hA177
set_option maxHeartbeats 4000000 in
theorem cs_X0_narrow {xi : SX} {S : Hp} {E : List Nat} {kc nc : Nat} {P : Po} {o0 : Nat} {o1 : Nat} {x2 : Int32} {x3 : Int32} (hG : GI S E) (h0 : Oa S E 0 0 o0) (h1 : Oa S E 8 0 o1) (h3 : Rg 0 1 x3) (hP : ∀ r T x y, PV E [9987, 9994] S kc nc (rI 0 1) ex0 [] r T x y → P r T x y) : TT xi M_X0_narrow 0 [(0, .ref o0), (1, .ref o1), (2, .int x2), (3, .int x3)] [] S kc nc P := by
  have hA : Af E [9987, 9994] S S := af_rf
  refine tt_aload_n (j := 1) dX0_narrow_0 rfl ?_
  refine tt_getI (id := 515) dX0_narrow_1 fl_0_21 rfl rfl (ob_af h1 hA) ?_
  refine tt_if_ne (tgt := 9) dX0_narrow_4 rfl (fun q101 => ?_) (fun q101 => ?_)
  · skip
    refine tt_aload_n (j := 1) dX0_narrow_9 rfl ?_
    refine tt_aload_n (j := 1) dX0_narrow_10 rfl ?_
    refine tt_getI (id := 516) dX0_narrow_11 fl_0_27 rfl rfl (ob_af h1 hA) ?_
    refine tt_aload_n (j := 0) dX0_narrow_14 rfl ?_
    obtain ⟨b102, hr103, ho104⟩ := gi_R (k := 0) hG h0 7 0
    refine gt_gR (id := 0) dX0_narrow_15 fl_0_14 rfl rfl h0 hA hr103 ?_
    refine gt_Vv (As := [.int (hp_I S 516 o1), .ref b102]) dX0_narrow_18 ca_X0_29 ⟨by decide, by decide⟩ h1 hA rfl (Nat.le_of_ble_eq_true rfl) (Nat.le_of_ble_eq_true rfl) (by decide) (cs_X8_load hG (oa_af h1 hA) (oa_af ho104 hA) (fun _ _ _ _ h => h)) rfl (fun _ h => nomatch h) (fun S105 hx109 hG106 hB107 hA108 => ?_)
    refine tt_aload_n (j := 1) dX0_narrow_21 rfl ?_
    refine gt_gI (id := 517) (v := (hp_I S 517 o1)) dX0_narrow_22 fl_0_33 rfl rfl h1 hA108 (i_af (k := 517) h1 hA108) ?_
    refine tt_iconst (v := (-1)) dX0_narrow_25 rfl ?_
    have B110 : ∀ (S111 : Hp), GI S111 E → Af E [9987, 9994] S S111 → TT xi M_X0_narrow 60 [(0, .ref o0), (1, .ref o1), (2, .int x2), (3, .int x3)] [] S111 kc nc P := by
      intro S111 hG112 hA113
      refine tt_iload_n (j := 3) dX0_narrow_60 rfl ?_
      refine tt_iload_n (j := 2) dX0_narrow_61 rfl ?_
      refine tt_iconst (v := 1) dX0_narrow_62 rfl ?_
      refine tt_iand dX0_narrow_63 ?_
      have B114 : ∀ (x115 : Int32), Rg 0 1 x115 → TT xi M_X0_narrow 72 [(0, .ref o0), (1, .ref o1), (2, .int x2), (3, .int x3)] [.int x115, .int x3] S111 kc nc P := by
        intro x115 h116
        have B117 : ∀ (x118 : Int32), Rg 0 1 x118 → TT xi M_X0_narrow 80 [(0, .ref o0), (1, .ref o1), (2, .int x2), (3, .int x3)] [.int x118] S111 kc nc P := by
          intro x118 h119
          refine tt_istore (ks := [0, 1, 2, 3, 4]) (L' := [(4, .int x118), (0, .ref o0), (1, .ref o1), (2, .int x2), (3, .int x3)]) dX0_narrow_80 (by decide) rfl ?_
          refine tt_iload_n (j := 3) dX0_narrow_82 rfl ?_
          refine tt_bipush (v := 14) dX0_narrow_83 rfl ?_
          refine tt_iand dX0_narrow_85 ?_
          refine tt_istore (ks := [0, 1, 2, 3, 4, 5]) (L' := [(5, .int (x2 &&& 14)), (4, .int x118), (0, .ref o0), (1, .ref o1), (2, .int x2), (3, .int x3)]) dX0_narrow_86 (by decide) rfl ?_
          refine tt_iload (j := 0) dX0_narrow_88 rfl ?_
          refine tt_iconst (v := 4) dX0_narrow_90 rfl ?_
          have B120 : ∀ (S121 : Hp), GI S121 E → Af E [9987, 9994] S S121 → TT xi M_X0_narrow 172 [(0, .ref o0), (1, .ref o1), (2, .int x2), (3, .int x3), (4, .int x118), (5, .int (x2 &&& 14))] [] S121 kc nc P := by
            intro S121 hG122 hA123
            refine tt_aload_n (j := 0) dX0_narrow_172 rfl ?_
            refine gt_gR (id := 0) dX0_narrow_173 fl_0_14 rfl rfl h0 hA123 hr103 ?_
            refine gt_VIp (As := []) dX0_narrow_176 ca_X0_63 ⟨by decide, by decide⟩ ho104 hA123 rfl (Nat.le_of_ble_eq_true rfl) (Nat.le_of_ble_eq_true rfl) (by decide) (cs_X7_isNone hG122 (oa_af ho104 hA123) (fun _ _ _ _ h => h)) rfl (fun _ h => nomatch h) (fun _ _ q => q) (fun x129 h130 hx128 => ?_)
            have B131 : TT xi M_X0_narrow 192 [(0, .ref o0), (1, .ref o1), (2, .int x2), (3, .int x3), (4, .int x118), (5, .int (x2 &&& 14))] [] S121 kc nc P := by
              refine tt_iconst (v := 0) dX0_narrow_192 rfl ?_
              exact tt_ireturn dX0_narrow_193 .boolean rfl rfl (hP _ _ _ _ ⟨hG122, hA123, Or.inl ⟨_, rfl, ⟨_, rfl, rg_w (⟨by decide, by decide⟩ : Rg 0 0 0)⟩, trivial, rfl, rfl⟩⟩)
            refine tt_if_ne (tgt := 192) dX0_narrow_179 rfl (fun q132 => ?_) (fun q132 => ?_)
            · skip
              have h133 : Rg 1 1 x129 := rg_ne_lo h130 (⟨by decide, by decide⟩ : Rg 0 0 0) q132
              exact B131 
            · skip
              have h134 : Rg 0 0 x129 := rg_eq_l h130 (⟨by decide, by decide⟩ : Rg 0 0 0) q132
              refine tt_aload_n (j := 0) dX0_narrow_182 rfl ?_
              obtain ⟨b135, hr136, ho137⟩ := gi_R (k := 1) hG h0 7 0
              refine gt_gR (id := 1) dX0_narrow_183 fl_0_18 rfl rfl h0 hA123 hr136 ?_
              refine gt_VIp (As := []) dX0_narrow_186 ca_X0_63 ⟨by decide, by decide⟩ ho137 hA123 rfl (Nat.le_of_ble_eq_true rfl) (Nat.le_of_ble_eq_true rfl) (by decide) (cs_X7_isNone hG122 (oa_af ho137 hA123) (fun _ _ _ _ h => h)) rfl (fun _ h => nomatch h) (fun _ _ q => q) (fun x143 h144 hx142 => ?_)
              refine tt_if_eq (tgt := 194) dX0_narrow_189 rfl (fun q145 => ?_) (fun q145 => ?_)
              · skip
                have h146 : Rg 0 0 x143 := rg_eq_l h144 (⟨by decide, by decide⟩ : Rg 0 0 0) q145
                refine tt_aload_n (j := 1) dX0_narrow_194 rfl ?_
                refine tt_aload_n (j := 1) dX0_narrow_195 rfl ?_
                refine gt_gI (id := 516) (v := (hp_I S 516 o1)) dX0_narrow_196 fl_0_27 rfl rfl h1 hA123 (i_af (k := 516) h1 hA123) ?_
                refine tt_aload_n (j := 0) dX0_narrow_199 rfl ?_
                refine gt_gR (id := 0) dX0_narrow_200 fl_0_14 rfl rfl h0 hA123 hr103 ?_
                refine gt_Vv (As := [.int (hp_I S 516 o1), .ref b102]) dX0_narrow_203 ca_X0_67 ⟨by decide, by decide⟩ h1 hA123 rfl (Nat.le_of_ble_eq_true rfl) (Nat.le_of_ble_eq_true rfl) (by decide) (cs_X8_store hG122 (oa_af h1 hA123) (oa_af ho104 hA123) (fun _ _ _ _ h => h)) rfl (fun _ h => nomatch h) (fun S147 hx151 hG148 hB149 hA150 => ?_)
                refine tt_aload_n (j := 1) dX0_narrow_206 rfl ?_
                refine tt_aload_n (j := 1) dX0_narrow_207 rfl ?_
                refine gt_gI (id := 517) (v := (hp_I S 517 o1)) dX0_narrow_208 fl_0_33 rfl rfl h1 hA150 (i_af (k := 517) h1 hA150) ?_
                refine tt_aload_n (j := 0) dX0_narrow_211 rfl ?_
                refine gt_gR (id := 1) dX0_narrow_212 fl_0_18 rfl rfl h0 hA150 hr136 ?_
                refine gt_Vv (As := [.int (hp_I S 517 o1), .ref b135]) dX0_narrow_215 ca_X0_67 ⟨by decide, by decide⟩ h1 hA150 rfl (Nat.le_of_ble_eq_true rfl) (Nat.le_of_ble_eq_true rfl) (by decide) (cs_X8_store hG148 (oa_af h1 hA150) (oa_af ho137 hA150) (fun _ _ _ _ h => h)) rfl (fun _ h => nomatch h) (fun S152 hx156 hG153 hB154 hA155 => ?_)
                refine tt_iconst (v := 1) dX0_narrow_218 rfl ?_
                exact tt_ireturn dX0_narrow_219 .boolean rfl rfl (hP _ _ _ _ ⟨hG153, hA155, Or.inl ⟨_, rfl, ⟨_, rfl, rg_w (⟨by decide, by decide⟩ : Rg 1 1 1)⟩, trivial, rfl, rfl⟩⟩)
              · skip
                have h157 : Rg 1 1 x143 := rg_ne_lo h144 (⟨by decide, by decide⟩ : Rg 0 0 0) q145
                exact B131 
          refine tt_icmp_ne (tgt := 113) dX0_narrow_91 rfl (fun q158 => ?_) (fun q158 => ?_)
          · skip
            refine tt_aload_n (j := 3) dX0_narrow_113 rfl ?_
            refine gt_gI (id := 515) (v := (hp_I S 515 o1)) dX0_narrow_114 fl_0_21 rfl rfl h1 hA113 (i_af (k := 515) h1 hA113) ?_
            refine tt_iconst (v := 1) dX0_narrow_117 rfl ?_
            refine tt_icmp_ne (tgt := 132) dX0_narrow_118 rfl (fun q159 => ?_) (fun q159 => ?_)
            · skip
              refine tt_iload (j := 0) dX0_narrow_132 rfl ?_
              refine tt_bipush (v := 8) dX0_narrow_134 rfl ?_
              refine tt_icmp_ne (tgt := 172) dX0_narrow_136 rfl (fun q160 => ?_) (fun q160 => ?_)
              · skip
                exact tt_loc (ks := [2, 3, 4, 5, 1, 0]) rfl (B120 S111 hG112 hA113)
              · skip
                have h161 : Rg 8 8 (x2 &&& 14) := rg_eq_l (rg_and (x := x2) (⟨by decide, by decide⟩ : Rg 14 14 14)) (⟨by decide, by decide⟩ : Rg 8 8 8) q160
                refine tt_aload_n (j := 2) dX0_narrow_139 rfl ?_
                refine gt_gR (id := 0) dX0_narrow_140 fl_0_14 rfl rfl h0 hA113 hr103 ?_
                refine tt_iload (j := 1) dX0_narrow_143 rfl ?_
                have B162 : ∀ (y163 : Int64), Rl (-9223372036854775808) 0 y163 → TT xi M_X0_narrow 155 [(0, .ref o0), (1, .ref o1), (2, .int x2), (3, .int x3), (4, .int x118), (5, .int (x2 &&& 14))] [.long y163, .ref b102] S111 kc nc P := by
                  intro y163 h164
                  refine tt_iload (j := 4) dX0_narrow_155 rfl ?_
                  have B165 : ∀ (y166 : Int64), Rl (-1) 9223372036854775807 y166 → ¬ y166 = 0 → TT xi M_X0_narrow 169 [(0, .ref o0), (1, .ref o1), (2, .int x2), (3, .int x3), (4, .int x118), (5, .int (x2 &&& 14))] [.long y166, .long y163, .ref b102] S111 kc nc P := by
                    intro y166 h167 h168
                    refine gt_Vv (As := [.long y163, .long y166]) dX0_narrow_169 ca_X0_59 ⟨by decide, by decide⟩ ho104 hA113 rfl (Nat.le_of_ble_eq_true rfl) (Nat.le_of_ble_eq_true rfl) (by decide) (cs_X7_cut hG112 (oa_af ho104 hA113) (fun _ _ _ _ h => h)) rfl (fun _ h => nomatch h) (fun S169 hx173 hG170 hB171 hA172 => ?_)
                    exact B120 S169 hG170 hA172
                  refine tt_if_eq (tgt := 166) dX0_narrow_157 rfl (fun q174 => ?_) (fun q174 => ?_)
                  · skip
                    have h175 : Rg 0 0 x118 := rg_eq_l h119 (⟨by decide, by decide⟩ : Rg 0 0 0) q174
                    refine tt_ldc2 (v := 9223372036854775807) dX0_narrow_166 kl_0_57 ?_
                    exact B165 9223372036854775807 (rl_w (⟨by decide, by decide⟩ : Rl 9223372036854775807 9223372036854775807 9223372036854775807)) (by decide)
                  · skip
                    have h176 : Rg 1 1 x118 := rg_ne_lo h119 (⟨by decide, by decide⟩ : Rg 0 0 0) q174
                    refine tt_ldc2 (v := (-1)) dX0_narrow_160 kl_0_55 ?_
                    refine tt_goto (tgt := 169) dX0_narrow_163 rfl ?_
                    exact B165 (-1) (rl_w (⟨by decide, by decide⟩ : Rl (-1) (-1) (-1))) (by decide)
                refine tt_if_eq (tgt := 154) dX0_narrow_145 rfl (fun q177 => ?_) (fun q177 => ?_)
                · skip
                  have h178 : Rg 0 0 x118 := rg_eq_l h119 (⟨by decide, by decide⟩ : Rg 0 0 0) q177
                  refine tt_lconst (v := 0) dX0_narrow_154 rfl ?_
                  exact tt_loc (ks := [2, 3, 4, 5, 1, 0]) rfl (B162 0 (rl_w (⟨by decide, by decide⟩ : Rl 0 0 0)))
                · skip
                  have h179 : Rg 1 1 x118 := rg_ne_lo h119 (⟨by decide, by decide⟩ : Rg 0 0 0) q177
                  refine tt_ldc2 (v := (-9223372036854775808)) dX0_narrow_148 kl_0_53 ?_
                  refine tt_goto (tgt := 155) dX0_narrow_151 rfl ?_
                  exact tt_loc (ks := [2, 3, 4, 5, 1, 0]) rfl (B162 (-9223372036854775808) (rl_w (⟨by decide, by decide⟩ : Rl (-9223372036854775808) (-9223372036854775808) (-9223372036854775808))))
            · skip
              have h180 : Rg 1 1 (hp_I S 515 o1) := rg_eq_l (rg_all (hp_I S 515 o1)) (⟨by decide, by decide⟩ : Rg 1 1 1) q159
              refine tt_aload_n (j := 2) dX0_narrow_121 rfl ?_
              refine tt_iload (j := 0) dX0_narrow_122 rfl ?_
              refine tt_iload (j := 1) dX0_narrow_124 rfl ?_
              refine gt_Vv (As := [.int (x2 &&& 14), .int x118]) dX0_narrow_126 ca_X0_49 ⟨by decide, by decide⟩ h0 hA113 rfl (Nat.le_of_ble_eq_true rfl) (Nat.le_of_ble_eq_true rfl) (by decide) (cs_X0_narrowCompared hG112 (oa_af h0 hA113) (rg_w h119) (fun _ _ _ _ h => h)) rfl (fun _ h => nomatch h) (fun S181 hx185 hG182 hB183 hA184 => ?_)
              refine tt_goto (tgt := 172) dX0_narrow_129 rfl ?_
              exact tt_loc (ks := [2, 3, 4, 5, 1, 0]) rfl (B120 S181 hG182 hA184)
          · skip
            have h186 : Rg 4 4 (x2 &&& 14) := rg_eq_l (rg_and (x := x2) (⟨by decide, by decide⟩ : Rg 14 14 14)) (⟨by decide, by decide⟩ : Rg 4 4 4) q158
            refine tt_iload (j := 1) dX0_narrow_94 rfl ?_
            refine tt_if_eq (tgt := 106) dX0_narrow_96 rfl (fun q187 => ?_) (fun q187 => ?_)
            · skip
              have h188 : Rg 0 0 x118 := rg_eq_l h119 (⟨by decide, by decide⟩ : Rg 0 0 0) q187
              refine tt_aload_n (j := 2) dX0_narrow_106 rfl ?_
              refine gt_Vv (As := []) dX0_narrow_107 ca_X0_46 ⟨by decide, by decide⟩ h0 hA113 rfl (Nat.le_of_ble_eq_true rfl) (Nat.le_of_ble_eq_true rfl) (by decide) (cs_X0_becomeUnequal hG112 (oa_af h0 hA113) (fun _ _ _ _ h => h)) rfl (fun _ h => nomatch h) (fun S189 hx193 hG190 hB191 hA192 => ?_)
              refine tt_goto (tgt := 172) dX0_narrow_110 rfl ?_
              exact tt_loc (ks := [2, 3, 4, 5, 1, 0]) rfl (B120 S189 hG190 hA192)
            · skip
              have h194 : Rg 1 1 x118 := rg_ne_lo h119 (⟨by decide, by decide⟩ : Rg 0 0 0) q187
              refine tt_aload_n (j := 2) dX0_narrow_99 rfl ?_
              refine gt_Vv (As := []) dX0_narrow_100 ca_X0_43 ⟨by decide, by decide⟩ h0 hA113 rfl (Nat.le_of_ble_eq_true rfl) (Nat.le_of_ble_eq_true rfl) (by decide) (cs_X0_becomeEqual hG112 (oa_af h0 hA113) (fun _ _ _ _ h => h)) rfl (fun _ h => nomatch h) (fun S195 hx199 hG196 hB197 hA198 => ?_)
              refine tt_goto (tgt := 172) dX0_narrow_103 rfl ?_
              exact tt_loc (ks := [2, 3, 4, 5, 1, 0]) rfl (B120 S195 hG196 hA198)
        refine tt_icmp_ne (tgt := 79) dX0_narrow_72 rfl (fun q200 => ?_) (fun q200 => ?_)
        · skip
          refine tt_iconst (v := 0) dX0_narrow_79 rfl ?_
          exact B117 0 (rg_w (⟨by decide, by decide⟩ : Rg 0 0 0))
        · skip
          refine tt_iconst (v := 1) dX0_narrow_75 rfl ?_
          refine tt_goto (tgt := 80) dX0_narrow_76 rfl ?_
          exact B117 1 (rg_w (⟨by decide, by decide⟩ : Rg 1 1 1))
      refine tt_if_ne (tgt := 71) dX0_narrow_64 rfl (fun q201 => ?_) (fun q201 => ?_)
      · skip
        have h202 : Rg 1 1 (x2 &&& 1) := rg_ne_lo (rg_and (x := x2) (⟨by decide, by decide⟩ : Rg 1 1 1)) (⟨by decide, by decide⟩ : Rg 0 0 0) q201
        refine tt_iconst (v := 0) dX0_narrow_71 rfl ?_
        exact B114 0 (rg_w (⟨by decide, by decide⟩ : Rg 0 0 0))
      · skip
        have h203 : Rg 0 0 (x2 &&& 1) := rg_eq_l (rg_and (x := x2) (⟨by decide, by decide⟩ : Rg 1 1 1)) (⟨by decide, by decide⟩ : Rg 0 0 0) q201
        refine tt_iconst (v := 1) dX0_narrow_67 rfl ?_
        refine tt_goto (tgt := 72) dX0_narrow_68 rfl ?_
        exact B114 1 (rg_w (⟨by decide, by decide⟩ : Rg 1 1 1))
    refine tt_icmp_eq (tgt := 44) dX0_narrow_26 rfl (fun q204 => ?_) (fun q204 => ?_)
    · skip
      have h205 : Rg (-1) (-1) (hp_I S 517 o1) := rg_eq_l (rg_all (hp_I S 517 o1)) (⟨by decide, by decide⟩ : Rg (-1) (-1) (-1)) q204
      refine tt_aload_n (j := 0) dX0_narrow_44 rfl ?_
      obtain ⟨b206, hr207, ho208⟩ := gi_R (k := 1) hG h0 7 0
      refine gt_gR (id := 1) dX0_narrow_45 fl_0_18 rfl rfl h0 hA108 hr207 ?_
      refine tt_aload_n (j := 1) dX0_narrow_48 rfl ?_
      refine gt_gJ (id := 518) (v := (hp_J S105 518 o1)) dX0_narrow_49 fl_0_35 rfl rfl h1 hA108 rfl ?_
      refine tt_aload_n (j := 1) dX0_narrow_52 rfl ?_
      refine gt_gJ (id := 518) (v := (hp_J S105 518 o1)) dX0_narrow_53 fl_0_35 rfl rfl h1 hA108 rfl ?_
      refine tt_lconst (v := 0) dX0_narrow_56 rfl ?_
      refine gt_Vv (As := [.long (hp_J S105 518 o1), .long (hp_J S105 518 o1), .long 0]) dX0_narrow_57 ca_X0_39 ⟨by decide, by decide⟩ ho208 hA108 rfl (Nat.le_of_ble_eq_true rfl) (Nat.le_of_ble_eq_true rfl) (by decide) (cs_X7_become hG106 (oa_af ho208 hA108) (fun _ _ _ _ h => h)) rfl (fun _ h => nomatch h) (fun S209 hx213 hG210 hB211 hA212 => ?_)
      exact B110 S209 hG210 hA212
    · skip
      refine tt_aload_n (j := 1) dX0_narrow_29 rfl ?_
      refine tt_aload_n (j := 1) dX0_narrow_30 rfl ?_
      refine gt_gI (id := 517) (v := (hp_I S 517 o1)) dX0_narrow_31 fl_0_33 rfl rfl h1 hA108 (i_af (k := 517) h1 hA108) ?_
      refine tt_aload_n (j := 0) dX0_narrow_34 rfl ?_
      obtain ⟨b214, hr215, ho216⟩ := gi_R (k := 1) hG h0 7 0
      refine gt_gR (id := 1) dX0_narrow_35 fl_0_18 rfl rfl h0 hA108 hr215 ?_
      refine gt_Vv (As := [.int (hp_I S 517 o1), .ref b214]) dX0_narrow_38 ca_X0_29 ⟨by decide, by decide⟩ h1 hA108 rfl (Nat.le_of_ble_eq_true rfl) (Nat.le_of_ble_eq_true rfl) (by decide) (cs_X8_load hG106 (oa_af h1 hA108) (oa_af ho216 hA108) (fun _ _ _ _ h => h)) rfl (fun _ h => nomatch h) (fun S217 hx221 hG218 hB219 hA220 => ?_)
      refine tt_goto (tgt := 60) dX0_narrow_41 rfl ?_
      exact B110 S217 hG218 hA220
  · skip
    have h222 : Rg 0 0 (hp_I S 515 o1) := rg_eq_l (rg_all (hp_I S 515 o1)) (⟨by decide, by decide⟩ : Rg 0 0 0) q101
    refine tt_iconst (v := 1) dX0_narrow_7 rfl ?_
    exact tt_ireturn dX0_narrow_8 .boolean rfl rfl (hP _ _ _ _ ⟨hG, hA, Or.inl ⟨_, rfl, ⟨_, rfl, rg_w (⟨by decide, by decide⟩ : Rg 1 1 1)⟩, trivial, rfl, rfl⟩⟩)
set_option maxHeartbeats 4000000 in
theorem cs_X2_computeResult {xi : SX} {S : Hp} {E : List Nat} {kc nc : Nat} {P : Po} {o0 : Nat} {o1 : Nat} (hG : GI S E) (h0 : Oa S E 2 0 o0) (h1 : Oa S E 3 0 o1) (hP : ∀ r T x y, PV E [9987] S kc nc rV ex0 [] r T x y → P r T x y) : TT xi M_X2_computeResult 0 [(0, .ref o0), (1, .ref o1)] [] S kc nc P := by
  have hA : Af E [9987] S S := af_rf
  refine tt_aload_n (j := 1) dX2_computeResult_0 rfl ?_
  refine tt_getI (id := 200) dX2_computeResult_1 fl_2_24 rfl rfl (ob_af h1 hA) ?_
  refine tt_istore_n (ks := [0, 1, 2]) (L' := [(2, .int (hp_I S 200 o1)), (0, .ref o0), (1, .ref o1)]) dX2_computeResult_4 (by decide) rfl ?_
  refine tt_aload_n (j := 2) dX2_computeResult_5 rfl ?_
  refine tt_getI (id := 202) dX2_computeResult_6 fl_2_41 rfl rfl (ob_af h1 hA) ?_
  refine tt_aload_n (j := 2) dX2_computeResult_9 rfl ?_
  refine tt_getI (id := 203) dX2_computeResult_10 fl_2_56 rfl rfl (ob_af h1 hA) ?_
  have B101 : ∀ (x102 : Int32), Rg 0 1 x102 → TT xi M_X2_computeResult 21 [(0, .ref o0), (1, .ref o1), (2, .int (hp_I S 200 o1))] [.int x102] S kc nc P := by
    intro x102 h103
    refine tt_istore_n (ks := [0, 1, 2, 3]) (L' := [(3, .int x102), (0, .ref o0), (1, .ref o1), (2, .int (hp_I S 200 o1))]) dX2_computeResult_21 (by decide) rfl ?_
    refine tt_iload_n (j := 0) dX2_computeResult_22 rfl ?_
    have B104 : ∀ (S105 : Hp), GI S105 E → Af E [9987] S S105 → TT xi M_X2_computeResult 95 [(0, .ref o0), (1, .ref o1), (2, .int (hp_I S 200 o1)), (3, .int x102)] [] S105 kc nc P := by
      intro S105 hG106 hA107
      refine tt_aload_n (j := 1) dX2_computeResult_95 rfl ?_
      refine gt_gI (id := 201) (v := (hp_I S 201 o1)) dX2_computeResult_96 fl_2_73 rfl rfl h1 hA107 (i_af (k := 201) h1 hA107) ?_
      refine tt_bipush (v := 32) dX2_computeResult_99 rfl ?_
      have B108 : ∀ (S109 : Hp), GI S109 E → Af E [9987] S S109 → TT xi M_X2_computeResult 111 [(0, .ref o0), (1, .ref o1), (2, .int (hp_I S 200 o1)), (3, .int x102)] [] S109 kc nc P := by
        intro S109 hG110 hA111
        exact tt_vreturn dX2_computeResult_111 rfl (hP _ _ _ _ ⟨hG110, hA111, Or.inl ⟨_, rfl, rfl, trivial, rfl, rfl⟩⟩)
      refine tt_icmp_ne (tgt := 111) dX2_computeResult_101 rfl (fun q112 => ?_) (fun q112 => ?_)
      · skip
        exact B108 S105 hG106 hA107
      · skip
        have h113 : Rg 32 32 (hp_I S 201 o1) := rg_eq_l (rg_all (hp_I S 201 o1)) (⟨by decide, by decide⟩ : Rg 32 32 32) q112
        refine tt_aload_n (j := 0) dX2_computeResult_104 rfl ?_
        obtain ⟨b114, hr115, ho116⟩ := gi_R (k := 130) hG h0 7 0
        refine gt_gR (id := 130) dX2_computeResult_105 fl_2_21 rfl rfl h0 hA107 hr115 ?_
        refine gt_Vv (As := []) dX2_computeResult_108 ca_X2_76 ⟨by decide, by decide⟩ ho116 hA107 rfl (Nat.le_of_ble_eq_true rfl) (Nat.le_of_ble_eq_true rfl) (by decide) (cs_X7_takeLowHalf hG106 (oa_af ho116 hA107) (fun _ _ _ _ h => h)) rfl (fun _ h => nomatch h) (fun S117 hx121 hG118 hB119 hA120 => ?_)
        exact B108 S117 hG118 hA120
    have B122 : TT xi M_X2_computeResult 50 [(0, .ref o0), (1, .ref o1), (2, .int (hp_I S 200 o1)), (3, .int x102)] [] S kc nc P := by
      refine tt_iload_n (j := 2) dX2_computeResult_50 rfl ?_
      refine tt_bipush (v := 14) dX2_computeResult_51 rfl ?_
      have B123 : TT xi M_X2_computeResult 75 [(0, .ref o0), (1, .ref o1), (2, .int (hp_I S 200 o1)), (3, .int x102)] [] S kc nc P := by
        refine tt_aload_n (j := 0) dX2_computeResult_75 rfl ?_
        obtain ⟨b124, hr125, ho126⟩ := gi_R (k := 130) hG h0 7 0
        refine gt_gR (id := 130) dX2_computeResult_76 fl_2_21 rfl rfl h0 hA hr125 ?_
        refine tt_iload_n (j := 2) dX2_computeResult_79 rfl ?_
        refine tt_aload_n (j := 0) dX2_computeResult_80 rfl ?_
        obtain ⟨b127, hr128, ho129⟩ := gi_R (k := 128) hG h0 7 0
        refine gt_gR (id := 128) dX2_computeResult_81 fl_2_12 rfl rfl h0 hA hr128 ?_
        refine tt_aload_n (j := 0) dX2_computeResult_84 rfl ?_
        obtain ⟨b130, hr131, ho132⟩ := gi_R (k := 129) hG h0 7 0
        refine gt_gR (id := 129) dX2_computeResult_85 fl_2_18 rfl rfl h0 hA hr131 ?_
        refine tt_aload_n (j := 1) dX2_computeResult_88 rfl ?_
        refine tt_getI (id := 204) dX2_computeResult_89 fl_2_63 rfl rfl (ob_af h1 hA) ?_
        refine gt_Vv (As := [.int (hp_I S 200 o1), .ref b127, .ref b130, .int (hp_I S 204 o1)]) dX2_computeResult_92 ca_X2_82 ⟨by decide, by decide⟩ ho126 hA rfl (Nat.le_of_ble_eq_true rfl) (Nat.le_of_ble_eq_true rfl) (by decide) (cs_X7_operate hG (oa_af ho126 hA) (oa_af ho129 hA) (oa_af ho132 hA) (fun _ _ _ _ h => h)) rfl (fun _ h => nomatch h) (fun S133 hx137 hG134 hB135 hA136 => ?_)
        exact B104 S133 hG134 hA136
      refine tt_icmp_ne (tgt := 75) dX2_computeResult_53 rfl (fun q138 => ?_) (fun q138 => ?_)
      · skip
        exact B123 
      · skip
        have h139 : Rg 14 14 (hp_I S 200 o1) := rg_eq_l (rg_all (hp_I S 200 o1)) (⟨by decide, by decide⟩ : Rg 14 14 14) q138
        refine tt_aload_n (j := 1) dX2_computeResult_56 rfl ?_
        refine tt_getI (id := 204) dX2_computeResult_57 fl_2_63 rfl rfl (ob_af h1 hA) ?_
        refine tt_bipush (v := 30) dX2_computeResult_60 rfl ?_
        refine tt_icmp_le (tgt := 75) dX2_computeResult_62 rfl (fun q140 => ?_) (fun q140 => ?_)
        · skip
          have h141 : Rg (-2147483648) 30 (hp_I S 204 o1) := rg_le_l (rg_all (hp_I S 204 o1)) (⟨by decide, by decide⟩ : Rg 30 30 30) q140
          exact B123 
        · skip
          have h142 : Rg 31 2147483647 (hp_I S 204 o1) := rg_lt_r (⟨by decide, by decide⟩ : Rg 30 30 30) (rg_all (hp_I S 204 o1)) (nle_lt q140)
          refine tt_aload_n (j := 0) dX2_computeResult_65 rfl ?_
          obtain ⟨b143, hr144, ho145⟩ := gi_R (k := 130) hG h0 7 0
          refine gt_gR (id := 130) dX2_computeResult_66 fl_2_21 rfl rfl h0 hA hr144 ?_
          refine gt_Vv (As := []) dX2_computeResult_69 ca_X2_79 ⟨by decide, by decide⟩ ho145 hA rfl (Nat.le_of_ble_eq_true rfl) (Nat.le_of_ble_eq_true rfl) (by decide) (cs_X7_becomeAny hG (oa_af ho145 hA) (fun _ _ _ _ h => h)) rfl (fun _ h => nomatch h) (fun S146 hx150 hG147 hB148 hA149 => ?_)
          refine tt_goto (tgt := 95) dX2_computeResult_72 rfl ?_
          exact B104 S146 hG147 hA149
    refine tt_if_eq (tgt := 50) dX2_computeResult_23 rfl (fun q151 => ?_) (fun q151 => ?_)
    · skip
      have h152 : Rg 0 0 x102 := rg_eq_l h103 (⟨by decide, by decide⟩ : Rg 0 0 0) q151
      exact tt_loc (ks := [1, 2, 3, 0]) rfl (B122 )
    · skip
      have h153 : Rg 1 1 x102 := rg_ne_lo h103 (⟨by decide, by decide⟩ : Rg 0 0 0) q151
      refine tt_iload_n (j := 3) dX2_computeResult_26 rfl ?_
      refine tt_bipush (v := 6) dX2_computeResult_27 rfl ?_
      have B154 : TT xi M_X2_computeResult 37 [(0, .ref o0), (1, .ref o1), (2, .int (hp_I S 200 o1)), (3, .int x102)] [] S kc nc P := by
        refine tt_aload_n (j := 0) dX2_computeResult_37 rfl ?_
        obtain ⟨b155, hr156, ho157⟩ := gi_R (k := 130) hG h0 7 0
        refine gt_gR (id := 130) dX2_computeResult_38 fl_2_21 rfl rfl h0 hA hr156 ?_
        refine tt_lconst (v := 0) dX2_computeResult_41 rfl ?_
        refine tt_lconst (v := 0) dX2_computeResult_42 rfl ?_
        refine tt_lconst (v := 0) dX2_computeResult_43 rfl ?_
        refine gt_Vv (As := [.long 0, .long 0, .long 0]) dX2_computeResult_44 ca_X2_66 ⟨by decide, by decide⟩ ho157 hA rfl (Nat.le_of_ble_eq_true rfl) (Nat.le_of_ble_eq_true rfl) (by decide) (cs_X7_become hG (oa_af ho157 hA) (fun _ _ _ _ h => h)) rfl (fun _ h => nomatch h) (fun S158 hx162 hG159 hB160 hA161 => ?_)
        refine tt_goto (tgt := 95) dX2_computeResult_47 rfl ?_
        exact B104 S158 hG159 hA161
      refine tt_icmp_eq (tgt := 37) dX2_computeResult_29 rfl (fun q163 => ?_) (fun q163 => ?_)
      · skip
        have h164 : Rg 6 6 (hp_I S 200 o1) := rg_eq_l (rg_all (hp_I S 200 o1)) (⟨by decide, by decide⟩ : Rg 6 6 6) q163
        exact tt_loc (ks := [1, 2, 3, 0]) rfl (B154 )
      · skip
        refine tt_iload_n (j := 3) dX2_computeResult_32 rfl ?_
        refine tt_iconst (v := 5) dX2_computeResult_33 rfl ?_
        refine tt_icmp_ne (tgt := 50) dX2_computeResult_34 rfl (fun q165 => ?_) (fun q165 => ?_)
        · skip
          exact tt_loc (ks := [1, 2, 3, 0]) rfl (B122 )
        · skip
          have h166 : Rg 5 5 (hp_I S 200 o1) := rg_eq_l (rg_all (hp_I S 200 o1)) (⟨by decide, by decide⟩ : Rg 5 5 5) q165
          exact tt_loc (ks := [1, 2, 3, 0]) rfl (B154 )
  refine tt_icmp_ne (tgt := 20) dX2_computeResult_13 rfl (fun q167 => ?_) (fun q167 => ?_)
  · skip
    refine tt_iconst (v := 0) dX2_computeResult_20 rfl ?_
    exact tt_loc (ks := [1, 2, 0]) rfl (B101 0 (rg_w (⟨by decide, by decide⟩ : Rg 0 0 0)))
  · skip
    refine tt_iconst (v := 1) dX2_computeResult_16 rfl ?_
    refine tt_goto (tgt := 21) dX2_computeResult_17 rfl ?_
    exact tt_loc (ks := [1, 2, 0]) rfl (B101 1 (rg_w (⟨by decide, by decide⟩ : Rg 1 1 1)))
set_option maxHeartbeats 4000000 in
theorem cs_X3_readFrom {xi : SX} {S : Hp} {E : List Nat} {kc nc : Nat} {P : Po} {o0 : Nat} {x1 : Int32} (hG : GI S E) (h0 : Oa S E 3 0 o0) (hP : ∀ r T x y, PV E [193, 194, 195, 196, 197, 198, 199, 200, 201, 202, 203, 204] S kc nc rV ex0 [] r T x y → P r T x y) : TT xi M_X3_readFrom 0 [(0, .ref o0), (1, .int x1)] [] S kc nc P := by
  have hA : Af E [193, 194, 195, 196, 197, 198, 199, 200, 201, 202, 203, 204] S S := af_rf
  refine tt_aload_n (j := 0) dX3_readFrom_0 rfl ?_
  refine tt_iload_n (j := 1) dX3_readFrom_1 rfl ?_
  refine gt_pI (id := 193) (x := x1) dX3_readFrom_2 fl_3_15 rfl rfl h0 hA rfl rfl rfl (gp_I hG) (by decide) (fun h => absurd h (by decide)) (fun h => absurd h (by decide)) (fun S101 hG102 hA103 e104 f105 er106 => ?_)
  refine tt_aload_n (j := 0) dX3_readFrom_5 rfl ?_
  refine tt_iconst (v := 0) dX3_readFrom_6 rfl ?_
  refine gt_pI (id := 194) (x := 0) dX3_readFrom_7 fl_3_19 rfl rfl h0 hA103 rfl rfl rfl (gp_I hG102) (by decide) (fun h => absurd h (by decide)) (fun h => absurd h (by decide)) (fun S107 hG108 hA109 e110 f111 er112 => ?_)
  refine tt_aload_n (j := 0) dX3_readFrom_10 rfl ?_
  refine tt_iconst (v := 1) dX3_readFrom_11 rfl ?_
  refine gt_pI (id := 195) (x := 1) dX3_readFrom_12 fl_3_22 rfl rfl h0 hA109 rfl rfl rfl (gp_Ir hG108 (⟨by decide, by decide⟩ : Rg 1 1 1)) (by decide) (fun h => absurd h (by decide)) (fun h => absurd h (by decide)) (fun S113 hG114 hA115 e116 f117 er118 => ?_)
  refine tt_aload_n (j := 0) dX3_readFrom_15 rfl ?_
  refine tt_bipush (v := 21) dX3_readFrom_16 rfl ?_
  refine gt_Vv (As := [.int 21]) dX3_readFrom_18 ca_X3_26 ⟨by decide, by decide⟩ h0 hA115 rfl (Nat.le_of_ble_eq_true rfl) (Nat.le_of_ble_eq_true rfl) (by decide) (cs_X3_becomePlain hG114 (oa_af h0 hA115) (fun _ _ _ _ h => h)) rfl (fun _ h => nomatch h) (fun S119 hx123 hG120 hB121 hA122 => ?_)
  refine tt_aload_n (j := 0) dX3_readFrom_21 rfl ?_
  refine gt_VI (As := []) dX3_readFrom_22 ca_X3_30 ⟨by decide, by decide⟩ h0 hA122 rfl (Nat.le_of_ble_eq_true rfl) (Nat.le_of_ble_eq_true rfl) (by decide) (cs_X3_nextByte hG120 (oa_af h0 hA122) (fun _ _ _ _ h => h)) rfl (fun _ h => nomatch h) (fun S124 x129 h130 hx128 hG125 hB126 hA127 => ?_)
  refine tt_istore_n (ks := [0, 1, 2]) (L' := [(2, .int x129), (0, .ref o0), (1, .int x1)]) dX3_readFrom_25 (by decide) rfl ?_
  refine tt_iload_n (j := 0) dX3_readFrom_26 rfl ?_
  refine tt_sipush (v := 242) dX3_readFrom_27 rfl ?_
  refine tt_iand dX3_readFrom_30 ?_
  refine tt_bipush (v := 64) dX3_readFrom_31 rfl ?_
  have B131 : ∀ (S132 : Hp) (x135 : Int32), GI S132 E → Af E [193, 194, 195, 196, 197, 198, 199, 200, 201, 202, 203, 204] S S132 → TT xi M_X3_readFrom 46 [(0, .ref o0), (1, .int x1), (2, .int x135)] [] S132 kc nc P := by
    intro S132 x135 hG133 hA134
    refine tt_iload_n (j := 2) dX3_readFrom_46 rfl ?_
    refine tt_bipush (v := 15) dX3_readFrom_47 rfl ?_
    have B136 : ∀ (S137 : Hp) (x140 : Int32), GI S137 E → Af E [193, 194, 195, 196, 197, 198, 199, 200, 201, 202, 203, 204] S S137 → TT xi M_X3_readFrom 61 [(0, .ref o0), (1, .int x1), (2, .int x140)] [] S137 kc nc P := by
      intro S137 x140 hG138 hA139
      refine tt_aload_n (j := 0) dX3_readFrom_61 rfl ?_
      refine tt_aload_n (j := 0) dX3_readFrom_62 rfl ?_
      refine tt_getI (id := 194) dX3_readFrom_63 fl_3_19 rfl rfl (ob_af h0 hA139) ?_
      refine tt_bipush (v := 8) dX3_readFrom_66 rfl ?_
      refine tt_iand dX3_readFrom_68 ?_
      have B141 : ∀ (x142 : Int32), Rg 32 64 x142 → TT xi M_X3_readFrom 79 [(0, .ref o0), (1, .int x1), (2, .int x140)] [.int x142, .ref o0] S137 kc nc P := by
        intro x142 h143
        refine gt_pI (id := 201) (x := x142) dX3_readFrom_79 fl_3_34 rfl rfl h0 hA139 rfl rfl rfl (gp_I hG138) (by decide) (fun h => absurd h (by decide)) (fun h => absurd h (by decide)) (fun S144 hG145 hA146 e147 f148 er149 => ?_)
        refine tt_iload_n (j := 2) dX3_readFrom_82 rfl ?_
        refine tt_bipush (v := 7) dX3_readFrom_83 rfl ?_
        refine tt_iand dX3_readFrom_85 ?_
        refine tt_istore_n (ks := [0, 1, 2, 3]) (L' := [(3, .int (x140 &&& 7)), (0, .ref o0), (1, .int x1), (2, .int x140)]) dX3_readFrom_86 (by decide) rfl ?_
        refine tt_iload_n (j := 3) dX3_readFrom_87 rfl ?_
        refine tt_bipush (v := 64) dX3_readFrom_88 rfl ?_
        have B150 : ∀ (S151 : Hp), GI S151 E → Af E [193, 194, 195, 196, 197, 198, 199, 200, 201, 202, 203, 204] S S151 → TT xi M_X3_readFrom 193 [(0, .ref o0), (1, .int x1), (2, .int x140), (3, .int (x140 &&& 7))] [] S151 kc nc P := by
          intro S151 hG152 hA153
          refine tt_aload_n (j := 0) dX3_readFrom_193 rfl ?_
          refine tt_aload_n (j := 0) dX3_readFrom_194 rfl ?_
          refine tt_getI (id := 193) dX3_readFrom_195 fl_3_15 rfl rfl (ob_af h0 hA153) ?_
          refine tt_iload_n (j := 1) dX3_readFrom_198 rfl ?_
          refine tt_isub dX3_readFrom_199 ?_
          refine gt_pI (id := 199) (x := ((hp_I S151 193 o0) - x1)) dX3_readFrom_200 fl_3_51 rfl rfl h0 hA153 rfl rfl rfl (gp_I hG152) (by decide) (fun h => absurd h (by decide)) (fun h => absurd h (by decide)) (fun S154 hG155 hA156 e157 f158 er159 => ?_)
          refine tt_aload_n (j := 0) dX3_readFrom_203 rfl ?_
          refine tt_getI (id := 200) dX3_readFrom_204 fl_3_54 rfl rfl (ob_af h0 hA156) ?_
          refine tt_bipush (v := 19) dX3_readFrom_207 rfl ?_
          have B160 : ∀ (S161 : Hp), GI S161 E → Af E [193, 194, 195, 196, 197, 198, 199, 200, 201, 202, 203, 204] S S161 → TT xi M_X3_readFrom 217 [(0, .ref o0), (1, .int x1), (2, .int x140), (3, .int (x140 &&& 7))] [] S161 kc nc P := by
            intro S161 hG162 hA163
            refine tt_aload_n (j := 0) dX3_readFrom_217 rfl ?_
            refine tt_getI (id := 195) dX3_readFrom_218 fl_3_22 rfl rfl (ob_af h0 hA163) ?_
            have B164 : ∀ (S165 : Hp), GI S165 E → Af E [193, 194, 195, 196, 197, 198, 199, 200, 201, 202, 203, 204] S S165 → TT xi M_X3_readFrom 243 [(0, .ref o0), (1, .int x1), (2, .int x140), (3, .int (x140 &&& 7))] [] S165 kc nc P := by
              intro S165 hG166 hA167
              exact tt_vreturn dX3_readFrom_243 rfl (hP _ _ _ _ ⟨hG166, hA167, Or.inl ⟨_, rfl, rfl, trivial, rfl, rfl⟩⟩)
            have B168 : TT xi M_X3_readFrom 238 [(0, .ref o0), (1, .int x1), (2, .int x140), (3, .int (x140 &&& 7))] [] S161 kc nc P := by
              refine tt_aload_n (j := 0) dX3_readFrom_238 rfl ?_
              refine tt_iconst (v := (-1)) dX3_readFrom_239 rfl ?_
              refine gt_Vv (As := [.int (-1)]) dX3_readFrom_240 ca_X3_26 ⟨by decide, by decide⟩ h0 hA163 rfl (Nat.le_of_ble_eq_true rfl) (Nat.le_of_ble_eq_true rfl) (by decide) (cs_X3_becomePlain hG162 (oa_af h0 hA163) (fun _ _ _ _ h => h)) rfl (fun _ h => nomatch h) (fun S169 hx173 hG170 hB171 hA172 => ?_)
              exact B164 S169 hG170 hA172
            refine tt_if_eq (tgt := 238) dX3_readFrom_221 rfl (fun q174 => ?_) (fun q174 => ?_)
            · skip
              have h175 : Rg 0 0 (hp_I S161 195 o0) := rg_eq_l (gi_I (k := 195) hG162 (oa_af h0 hA163) 0 1) (⟨by decide, by decide⟩ : Rg 0 0 0) q174
              exact B168 
            · skip
              have h176 : Rg 1 1 (hp_I S161 195 o0) := rg_ne_lo (gi_I (k := 195) hG162 (oa_af h0 hA163) 0 1) (⟨by decide, by decide⟩ : Rg 0 0 0) q174
              refine tt_aload_n (j := 0) dX3_readFrom_224 rfl ?_
              refine gt_VIp (As := []) dX3_readFrom_225 ca_X3_57 ⟨by decide, by decide⟩ h0 hA163 rfl (Nat.le_of_ble_eq_true rfl) (Nat.le_of_ble_eq_true rfl) (by decide) (cs_X3_isFrameChanged hG162 (oa_af h0 hA163) (fun _ _ _ _ h => h)) rfl (fun _ h => nomatch h) (fun _ _ q => q) (fun x182 h183 hx181 => ?_)
              refine tt_if_ne (tgt := 238) dX3_readFrom_228 rfl (fun q184 => ?_) (fun q184 => ?_)
              · skip
                have h185 : Rg 1 1 x182 := rg_ne_lo h183 (⟨by decide, by decide⟩ : Rg 0 0 0) q184
                exact B168 
              · skip
                have h186 : Rg 0 0 x182 := rg_eq_l h183 (⟨by decide, by decide⟩ : Rg 0 0 0) q184
                refine tt_aload_n (j := 0) dX3_readFrom_231 rfl ?_
                refine gt_VIp (As := []) dX3_readFrom_232 ca_X3_61 ⟨by decide, by decide⟩ h0 hA163 rfl (Nat.le_of_ble_eq_true rfl) (Nat.le_of_ble_eq_true rfl) (by decide) (cs_X3_isCarryArithmetic hG162 (oa_af h0 hA163) (fun _ _ _ _ h => h)) rfl (fun _ h => nomatch h) (fun _ _ q => q) (fun x192 h193 hx191 => ?_)
                refine tt_if_eq (tgt := 243) dX3_readFrom_235 rfl (fun q194 => ?_) (fun q194 => ?_)
                · skip
                  have h195 : Rg 0 0 x192 := rg_eq_l h193 (⟨by decide, by decide⟩ : Rg 0 0 0) q194
                  exact B164 S161 hG162 hA163
                · skip
                  have h196 : Rg 1 1 x192 := rg_ne_lo h193 (⟨by decide, by decide⟩ : Rg 0 0 0) q194
                  exact B168 
          refine tt_icmp_lt (tgt := 217) dX3_readFrom_209 rfl (fun q197 => ?_) (fun q197 => ?_)
          · skip
            have h198 : Rg (-2147483648) 18 (hp_I S154 200 o0) := rg_lt_l (rg_all (hp_I S154 200 o0)) (⟨by decide, by decide⟩ : Rg 19 19 19) q197
            exact B160 S154 hG155 hA156
          · skip
            have h199 : Rg 19 2147483647 (hp_I S154 200 o0) := rg_le_r (⟨by decide, by decide⟩ : Rg 19 19 19) (rg_all (hp_I S154 200 o0)) (nlt_le q197)
            refine tt_aload_n (j := 0) dX3_readFrom_212 rfl ?_
            refine tt_iconst (v := 0) dX3_readFrom_213 rfl ?_
            refine gt_pI (id := 201) (x := 0) dX3_readFrom_214 fl_3_34 rfl rfl h0 hA156 rfl rfl rfl (gp_I hG155) (by decide) (fun h => absurd h (by decide)) (fun h => absurd h (by decide)) (fun S200 hG201 hA202 e203 f204 er205 => ?_)
            exact B160 S200 hG201 hA202
        have B206 : TT xi M_X3_readFrom 123 [(0, .ref o0), (1, .int x1), (2, .int x140), (3, .int (x140 &&& 7))] [] S144 kc nc P := by
          refine tt_iload_n (j := 2) dX3_readFrom_123 rfl ?_
          refine tt_bipush (v := (-16)) dX3_readFrom_124 rfl ?_
          refine tt_iand dX3_readFrom_126 ?_
          refine tt_bipush (v := 112) dX3_readFrom_127 rfl ?_
          refine tt_icmp_ne (tgt := 146) dX3_readFrom_129 rfl (fun q207 => ?_) (fun q207 => ?_)
          · skip
            refine tt_iload_n (j := 2) dX3_readFrom_146 rfl ?_
            refine tt_bipush (v := (-16)) dX3_readFrom_147 rfl ?_
            refine tt_iand dX3_readFrom_149 ?_
            refine tt_sipush (v := 384) dX3_readFrom_150 rfl ?_
            refine tt_icmp_ne (tgt := 170) dX3_readFrom_153 rfl (fun q208 => ?_) (fun q208 => ?_)
            · skip
              refine tt_iload_n (j := 2) dX3_readFrom_170 rfl ?_
              refine tt_bipush (v := (-8)) dX3_readFrom_171 rfl ?_
              refine tt_iand dX3_readFrom_173 ?_
              refine tt_sipush (v := 184) dX3_readFrom_174 rfl ?_
              refine tt_icmp_ne (tgt := 188) dX3_readFrom_177 rfl (fun q209 => ?_) (fun q209 => ?_)
              · skip
                refine tt_aload_n (j := 0) dX3_readFrom_188 rfl ?_
                refine tt_iload_n (j := 2) dX3_readFrom_189 rfl ?_
                refine gt_Vv (As := [.int x140]) dX3_readFrom_190 ca_X3_48 ⟨by decide, by decide⟩ h0 hA146 rfl (Nat.le_of_ble_eq_true rfl) (Nat.le_of_ble_eq_true rfl) (by decide) (cs_X3_readOther hG145 (oa_af h0 hA146) (fun _ _ _ _ h => h)) rfl (fun _ h => nomatch h) (fun S210 hx214 hG211 hB212 hA213 => ?_)
                exact B150 S210 hG211 hA213
              · skip
                have h215 : Rg 184 184 (x140 &&& (-8)) := rg_eq_l (rg_all (x140 &&& (-8))) (⟨by decide, by decide⟩ : Rg 184 184 184) q209
                refine tt_aload_n (j := 0) dX3_readFrom_180 rfl ?_
                refine tt_iload_n (j := 3) dX3_readFrom_181 rfl ?_
                refine gt_Vv (As := [.int (x140 &&& 7)]) dX3_readFrom_182 ca_X3_45 ⟨by decide, by decide⟩ h0 hA146 rfl (Nat.le_of_ble_eq_true rfl) (Nat.le_of_ble_eq_true rfl) (by decide) (cs_X3_readMoveToRegister hG145 (oa_af h0 hA146) (fun _ _ _ _ h => h)) rfl (fun _ h => nomatch h) (fun S216 hx220 hG217 hB218 hA219 => ?_)
                refine tt_goto (tgt := 193) dX3_readFrom_185 rfl ?_
                exact B150 S216 hG217 hA219
            · skip
              have h221 : Rg 384 384 (x140 &&& (-16)) := rg_eq_l (rg_all (x140 &&& (-16))) (⟨by decide, by decide⟩ : Rg 384 384 384) q208
              refine tt_aload_n (j := 0) dX3_readFrom_156 rfl ?_
              refine tt_bipush (v := 19) dX3_readFrom_157 rfl ?_
              refine tt_iload_n (j := 2) dX3_readFrom_159 rfl ?_
              refine tt_bipush (v := 15) dX3_readFrom_160 rfl ?_
              refine tt_iand dX3_readFrom_162 ?_
              refine tt_iconst (v := 4) dX3_readFrom_163 rfl ?_
              refine gt_Vv (As := [.int 19, .int (x140 &&& 15), .int 4]) dX3_readFrom_164 ca_X3_41 ⟨by decide, by decide⟩ h0 hA146 rfl (Nat.le_of_ble_eq_true rfl) (Nat.le_of_ble_eq_true rfl) (by decide) (cs_X3_readJump hG145 (oa_af h0 hA146) (fun _ _ _ _ h => h)) rfl (fun _ h => nomatch h) (fun S222 hx226 hG223 hB224 hA225 => ?_)
              refine tt_goto (tgt := 193) dX3_readFrom_167 rfl ?_
              exact B150 S222 hG223 hA225
          · skip
            have h227 : Rg 112 112 (x140 &&& (-16)) := rg_eq_l (rg_all (x140 &&& (-16))) (⟨by decide, by decide⟩ : Rg 112 112 112) q207
            refine tt_aload_n (j := 0) dX3_readFrom_132 rfl ?_
            refine tt_bipush (v := 19) dX3_readFrom_133 rfl ?_
            refine tt_iload_n (j := 2) dX3_readFrom_135 rfl ?_
            refine tt_bipush (v := 15) dX3_readFrom_136 rfl ?_
            refine tt_iand dX3_readFrom_138 ?_
            refine tt_iconst (v := 1) dX3_readFrom_139 rfl ?_
            refine gt_Vv (As := [.int 19, .int (x140 &&& 15), .int 1]) dX3_readFrom_140 ca_X3_41 ⟨by decide, by decide⟩ h0 hA146 rfl (Nat.le_of_ble_eq_true rfl) (Nat.le_of_ble_eq_true rfl) (by decide) (cs_X3_readJump hG145 (oa_af h0 hA146) (fun _ _ _ _ h => h)) rfl (fun _ h => nomatch h) (fun S228 hx232 hG229 hB230 hA231 => ?_)
            refine tt_goto (tgt := 193) dX3_readFrom_143 rfl ?_
            exact B150 S228 hG229 hA231
        refine tt_icmp_ge (tgt := 123) dX3_readFrom_90 rfl (fun q233 => ?_) (fun q233 => ?_)
        · skip
          have h234 : Rg 64 2147483647 x140 := rg_le_r (⟨by decide, by decide⟩ : Rg 64 64 64) (rg_all x140) q233
          exact tt_loc (ks := [1, 2, 3, 0]) rfl (B206 )
        · skip
          have h235 : Rg (-2147483648) 63 x140 := rg_lt_l (rg_all x140) (⟨by decide, by decide⟩ : Rg 64 64 64) (nle_lt q233)
          refine tt_iload_n (j := 0) dX3_readFrom_93 rfl ?_
          refine tt_iconst (v := 1) dX3_readFrom_94 rfl ?_
          have B236 : TT xi M_X3_readFrom 103 [(0, .ref o0), (1, .int x1), (2, .int x140), (3, .int (x140 &&& 7))] [] S144 kc nc P := by
            refine tt_aload_n (j := 0) dX3_readFrom_103 rfl ?_
            refine tt_iload_n (j := 2) dX3_readFrom_104 rfl ?_
            refine tt_iconst (v := 3) dX3_readFrom_105 rfl ?_
            refine tt_ishr dX3_readFrom_106 ?_
            refine tt_iload_n (j := 3) dX3_readFrom_107 rfl ?_
            refine tt_iconst (v := 1) dX3_readFrom_108 rfl ?_
            have B237 : ∀ (x238 : Int32), Rg 0 1 x238 → TT xi M_X3_readFrom 117 [(0, .ref o0), (1, .int x1), (2, .int x140), (3, .int (x140 &&& 7))] [.int x238, .int (x140 >>> (3 &&& 31)), .ref o0] S144 kc nc P := by
              intro x238 h239
              refine gt_Vv (As := [.int (x140 >>> (3 &&& 31)), .int x238]) dX3_readFrom_117 ca_X3_37 ⟨by decide, by decide⟩ h0 hA146 rfl (Nat.le_of_ble_eq_true rfl) (Nat.le_of_ble_eq_true rfl) (by decide) (cs_X3_readPair hG145 (oa_af h0 hA146) (rg_w h239) (fun _ _ _ _ h => h)) rfl (fun _ h => nomatch h) (fun S240 hx244 hG241 hB242 hA243 => ?_)
              refine tt_goto (tgt := 193) dX3_readFrom_120 rfl ?_
              exact B150 S240 hG241 hA243
            refine tt_icmp_ne (tgt := 116) dX3_readFrom_109 rfl (fun q245 => ?_) (fun q245 => ?_)
            · skip
              refine tt_iconst (v := 0) dX3_readFrom_116 rfl ?_
              exact B237 0 (rg_w (⟨by decide, by decide⟩ : Rg 0 0 0))
            · skip
              have h246 : Rg 1 1 (x140 &&& 7) := rg_eq_l (rg_and (x := x140) (⟨by decide, by decide⟩ : Rg 7 7 7)) (⟨by decide, by decide⟩ : Rg 1 1 1) q245
              refine tt_iconst (v := 1) dX3_readFrom_112 rfl ?_
              refine tt_goto (tgt := 117) dX3_readFrom_113 rfl ?_
              exact B237 1 (rg_w (⟨by decide, by decide⟩ : Rg 1 1 1))
          refine tt_icmp_eq (tgt := 103) dX3_readFrom_95 rfl (fun q247 => ?_) (fun q247 => ?_)
          · skip
            have h248 : Rg 1 1 (x140 &&& 7) := rg_eq_l (rg_and (x := x140) (⟨by decide, by decide⟩ : Rg 7 7 7)) (⟨by decide, by decide⟩ : Rg 1 1 1) q247
            exact tt_loc (ks := [1, 2, 3, 0]) rfl (B236 )
          · skip
            refine tt_iload_n (j := 0) dX3_readFrom_98 rfl ?_
            refine tt_iconst (v := 3) dX3_readFrom_99 rfl ?_
            refine tt_icmp_ne (tgt := 123) dX3_readFrom_100 rfl (fun q249 => ?_) (fun q249 => ?_)
            · skip
              exact tt_loc (ks := [1, 2, 3, 0]) rfl (B206 )
            · skip
              have h250 : Rg 3 3 (x140 &&& 7) := rg_eq_l (rg_and (x := x140) (⟨by decide, by decide⟩ : Rg 7 7 7)) (⟨by decide, by decide⟩ : Rg 3 3 3) q249
              exact tt_loc (ks := [1, 2, 3, 0]) rfl (B236 )
      refine tt_if_eq (tgt := 77) dX3_readFrom_69 rfl (fun q251 => ?_) (fun q251 => ?_)
      · skip
        have h252 : Rg 0 0 ((hp_I S137 194 o0) &&& 8) := rg_eq_l (rg_and (x := (hp_I S137 194 o0)) (⟨by decide, by decide⟩ : Rg 8 8 8)) (⟨by decide, by decide⟩ : Rg 0 0 0) q251
        refine tt_bipush (v := 32) dX3_readFrom_77 rfl ?_
        exact B141 32 (rg_w (⟨by decide, by decide⟩ : Rg 32 32 32))
      · skip
        have h253 : Rg 1 8 ((hp_I S137 194 o0) &&& 8) := rg_ne_lo (rg_and (x := (hp_I S137 194 o0)) (⟨by decide, by decide⟩ : Rg 8 8 8)) (⟨by decide, by decide⟩ : Rg 0 0 0) q251
        refine tt_bipush (v := 64) dX3_readFrom_72 rfl ?_
        refine tt_goto (tgt := 79) dX3_readFrom_74 rfl ?_
        exact B141 64 (rg_w (⟨by decide, by decide⟩ : Rg 64 64 64))
    refine tt_icmp_ne (tgt := 61) dX3_readFrom_49 rfl (fun q254 => ?_) (fun q254 => ?_)
    · skip
      exact B136 S132 x135 hG133 hA134
    · skip
      have h255 : Rg 15 15 x135 := rg_eq_l (rg_all x135) (⟨by decide, by decide⟩ : Rg 15 15 15) q254
      refine tt_sipush (v := 256) dX3_readFrom_52 rfl ?_
      refine tt_aload_n (j := 0) dX3_readFrom_55 rfl ?_
      refine gt_VI (As := []) dX3_readFrom_56 ca_X3_30 ⟨by decide, by decide⟩ h0 hA134 rfl (Nat.le_of_ble_eq_true rfl) (Nat.le_of_ble_eq_true rfl) (by decide) (cs_X3_nextByte hG133 (oa_af h0 hA134) (fun _ _ _ _ h => h)) rfl (fun _ h => nomatch h) (fun S256 x261 h262 hx260 hG257 hB258 hA259 => ?_)
      refine tt_iadd dX3_readFrom_59 ?_
      refine tt_istore_n (ks := [0, 1, 2]) (L' := [(2, .int (256 + x261)), (0, .ref o0), (1, .int x1)]) dX3_readFrom_60 (by decide) rfl ?_
      exact tt_loc (ks := [1, 2, 0]) rfl (B136 S256 (256 + x261) hG257 hA259)
  refine tt_icmp_ne (tgt := 46) dX3_readFrom_33 rfl (fun q263 => ?_) (fun q263 => ?_)
  · skip
    exact tt_loc (ks := [1, 2, 0]) rfl (B131 S124 x129 hG125 hA127)
  · skip
    have h264 : Rg 64 64 (x129 &&& 242) := rg_eq_l (rg_and (x := x129) (⟨by decide, by decide⟩ : Rg 242 242 242)) (⟨by decide, by decide⟩ : Rg 64 64 64) q263
    refine tt_aload_n (j := 1) dX3_readFrom_36 rfl ?_
    refine tt_iload_n (j := 0) dX3_readFrom_37 rfl ?_
    refine gt_pI (id := 194) (x := x129) dX3_readFrom_38 fl_3_19 rfl rfl h0 hA127 rfl rfl rfl (gp_I hG125) (by decide) (fun h => absurd h (by decide)) (fun h => absurd h (by decide)) (fun S265 hG266 hA267 e268 f269 er270 => ?_)
    refine tt_aload_n (j := 1) dX3_readFrom_41 rfl ?_
    refine gt_VI (As := []) dX3_readFrom_42 ca_X3_30 ⟨by decide, by decide⟩ h0 hA267 rfl (Nat.le_of_ble_eq_true rfl) (Nat.le_of_ble_eq_true rfl) (by decide) (cs_X3_nextByte hG266 (oa_af h0 hA267) (fun _ _ _ _ h => h)) rfl (fun _ h => nomatch h) (fun S271 x276 h277 hx275 hG272 hB273 hA274 => ?_)
    refine tt_istore_n (ks := [0, 1, 2]) (L' := [(2, .int x276), (0, .ref o0), (1, .int x1)]) dX3_readFrom_45 (by decide) rfl ?_
    exact tt_loc (ks := [1, 2, 0]) rfl (B131 S271 x276 hG272 hA274)
