set_option maxHeartbeats 4000000 in
theorem cs_X10_thrown {xi : SX} {S : Hp} {E : List Nat} {kc nc : Nat} {P : Po} {o0 : Nat} (hG : GI S E) (h0 : Oa S E 10 0 o0) (hP : ∀ r T x y, PV E [] S kc nc (rI (-2147483648) 2147483647) (fun v T => T = S ∧ (∀ z, v = some (.int z) → z = hp_I S 640 o0)) [] r T x y → P r T x y) : TT xi M_X10_thrown 0 [(0, .ref o0)] [] S kc nc P := by
  have hA : Af E [] S S := af_rf
  refine tt_aload_n (j := 0) dX10_thrown_0 rfl ?_
  refine tt_getI (id := 640) dX10_thrown_1 fl_10_55 rfl rfl (ob_af h0 hA) ?_
  exact tt_ireturn dX10_thrown_4 .int rfl rfl (hP _ _ _ _ ⟨hG, hA, Or.inl ⟨_, rfl, ⟨_, rfl, rg_w (rg_all (hp_I S 640 o0))⟩, ⟨rfl, ei_v⟩, rfl, rfl⟩⟩)
theorem cs_X10_refused {xi : SX} {S : Hp} {E : List Nat} {kc nc : Nat} {P : Po} {o0 : Nat} {x1 : Int32} (hG : GI S E) (h0 : Oa S E 10 0 o0) (hP : ∀ r T x y, PV E [640] S kc nc (rI 0 1) (fun v T => (∀ z, v = some (.int z) → z = bI (0 < x1)) ∧ hp_I T 640 o0 = x1) [] r T x y → P r T x y) : TT xi M_X10_refused 0 [(0, .ref o0), (1, .int x1)] [] S kc nc P := by
  have hA : Af E [640] S S := af_rf
  refine tt_aload_n (j := 0) dX10_refused_0 rfl ?_
  refine tt_iload_n (j := 1) dX10_refused_1 rfl ?_
  refine gt_pI (id := 640) (x := x1) dX10_refused_2 fl_10_55 rfl rfl h0 hA rfl rfl rfl (gp_I hG) (by decide) (fun h => absurd h (by decide)) (fun h => absurd h (by decide)) (fun S1 hG1 hA1 e1 f1 r1 => ?_)
  refine tt_iload_n (j := 1) dX10_refused_5 rfl ?_
  refine tt_if_le (tgt := 13) dX10_refused_6 rfl (fun q => ?_) (fun q => ?_)
  · refine tt_iconst (v := 0) dX10_refused_13 rfl ?_
    exact tt_ireturn dX10_refused_14 .boolean rfl rfl (hP _ _ _ _ ⟨hG1, hA1, Or.inl ⟨_, rfl, ⟨_, rfl, ⟨by decide, by decide⟩⟩, ⟨fun z e => by injection e with e; injection e with e; rw [← e]; exact (bI_f (Int32.not_lt.mpr q)).symm, by rw [e1]; exact up2_self⟩, rfl, rfl⟩⟩)
  · refine tt_iconst (v := 1) dX10_refused_9 rfl ?_
    refine tt_goto (tgt := 14) dX10_refused_10 rfl ?_
    exact tt_ireturn dX10_refused_14 .boolean rfl rfl (hP _ _ _ _ ⟨hG1, hA1, Or.inl ⟨_, rfl, ⟨_, rfl, ⟨by decide, by decide⟩⟩, ⟨fun z e => by injection e with e; injection e with e; rw [← e]; exact (bI_t (Int32.not_le.mp q)).symm, by rw [e1]; exact up2_self⟩, rfl, rfl⟩⟩)
set_option maxHeartbeats 4000000 in
theorem cs_X10_forget {xi : SX} {S : Hp} {E : List Nat} {kc nc : Nat} {P : Po} {o0 : Nat} (hG : GI S E) (h0 : Oa S E 10 0 o0) (hP : ∀ r T x y, PV E [653, 663, 664, 9988, 9997] S kc nc rV (fun v T => (hp_I T 663 o0 = 0)) [] r T x y → P r T x y) : TT xi M_X10_forget 0 [(0, .ref o0)] [] S kc nc P := by
  have hA : Af E [653, 663, 664, 9988, 9997] S S := af_rf
  refine tt_aload_n (j := 0) dX10_forget_0 rfl ?_
  refine tt_iconst (v := 0) dX10_forget_1 rfl ?_
  refine gt_pI (id := 653) (x := 0) dX10_forget_2 fl_10_58 rfl rfl h0 hA rfl rfl rfl (gp_Ir hG (⟨by decide, by decide⟩ : Rg 0 0 0)) (by decide) (fun h => absurd h (by decide)) (fun h => absurd h (by decide)) (fun S101 hG102 hA103 e104 f105 er106 => ?_)
  refine tt_iconst (v := 0) dX10_forget_5 rfl ?_
  refine tt_istore_n (ks := [0, 1]) (L' := [(1, .int 0), (0, .ref o0)]) dX10_forget_6 (by decide) rfl ?_
  have B107 : ∀ (nn : Nat) (S108 : Hp) (x111 : Int32), (2147483648 - x111.toInt).toNat = nn → GI S108 E → Af E [653, 663, 664, 9988, 9997] S S108 → Rg 0 201 x111 → TT xi M_X10_forget 7 [(0, .ref o0), (1, .int x111)] [] S108 kc nc P := by
    intro nn
    induction nn using Nat.strongRecOn with
    | ind nn ihB107 =>
      intro S108 x111 hmB107 hG109 hA110 h112
      subst hmB107
      refine tt_iload_n (j := 1) dX10_forget_7 rfl ?_
      refine tt_sipush (v := 200) dX10_forget_8 rfl ?_
      refine tt_icmp_gt (tgt := 34) dX10_forget_11 rfl (fun q113 => ?_) (fun q113 => ?_)
      · skip
        have h114 : Rg 201 201 x111 := rg_lt_r (⟨by decide, by decide⟩ : Rg 200 200 200) h112 q113
        refine tt_aload_n (j := 0) dX10_forget_34 rfl ?_
        refine tt_iconst (v := 0) dX10_forget_35 rfl ?_
        refine gt_pI (id := 663) (x := 0) dX10_forget_36 fl_10_62 rfl rfl h0 hA110 rfl rfl rfl (gp_Ir hG109 (⟨by decide, by decide⟩ : Rg 0 0 0)) (by decide) (fun h => absurd h (by decide)) (fun h => absurd h (by decide)) (fun S115 hG116 hA117 e118 f119 er120 => ?_)
        refine tt_aload_n (j := 0) dX10_forget_39 rfl ?_
        refine tt_iconst (v := (-1)) dX10_forget_40 rfl ?_
        refine gt_pI (id := 664) (x := (-1)) dX10_forget_41 fl_10_45 rfl rfl h0 hA117 rfl rfl rfl (gp_Ir hG116 (⟨by decide, by decide⟩ : Rg (-1) (-1) (-1))) (by decide) (fun h => absurd h (by decide)) (fun _ h => absurd (by decide) h) (fun S121 hG122 hA123 e124 f125 er126 => ?_)
        exact tt_vreturn dX10_forget_44 rfl (hP _ _ _ _ ⟨hG122, hA123, Or.inl ⟨_, rfl, rfl, ((congrFun (congrFun e124 663) o0).trans ((congrFun (up2_ne (k := 663)) o0).trans (by rw [e118]; exact up2_self))), rfl, rfl⟩⟩)
      · skip
        have h127 : Rg 0 200 x111 := rg_le_l h112 (⟨by decide, by decide⟩ : Rg 200 200 200) (nlt_le q113)
        refine tt_aload_n (j := 0) dX10_forget_14 rfl ?_
        obtain ⟨b128, hr129, ho130⟩ := gi_R (k := 647) hG h0 32 201
        refine gt_gR (id := 647) dX10_forget_15 fl_10_26 rfl rfl h0 hA110 hr129 ?_
        refine tt_iload_n (j := 1) dX10_forget_18 rfl ?_
        refine tt_iconst (v := 0) dX10_forget_19 rfl ?_
        refine gt_iS dX10_forget_20 ho130 hA110 (Or.inl (by decide)) (rg_in h127) hG109 (by decide) (fun S131 hG132 hA133 e134 f135 er136 => ?_)
        refine tt_aload_n (j := 0) dX10_forget_21 rfl ?_
        obtain ⟨b137, hr138, ho139⟩ := gi_R (k := 648) hG h0 34 201
        refine gt_gR (id := 648) dX10_forget_22 fl_10_29 rfl rfl h0 hA133 hr138 ?_
        refine tt_iload_n (j := 1) dX10_forget_25 rfl ?_
        refine tt_iconst (v := 0) dX10_forget_26 rfl ?_
        refine gt_zS dX10_forget_27 ho139 hA133 (Or.inl (by decide)) (rg_in h127) hG132 (rg_w (⟨by decide, by decide⟩ : Rg 0 0 0)) (fun S140 hG141 hA142 e143 f144 er145 => ?_)
        refine tt_iinc (j := 1) (v := (x111 + 1)) (ks := [0, 1]) (L' := [(1, .int (x111 + 1)), (0, .ref o0)]) dX10_forget_28 rfl rfl (by decide) rfl ?_
        refine tt_goto (tgt := 7) dX10_forget_31 rfl ?_
        exact tt_loc (ks := [1, 0]) rfl (ihB107 _ (rg_up h127) S140 (x111 + 1) rfl hG141 hA142 (rg_w (rg_add (lo := 1) (hi := 201) h127 (⟨by decide, by decide⟩ : Rg 1 1 1))))
  exact tt_loc (ks := [1, 0]) rfl (B107 _ S101 0 rfl hG102 hA103 (rg_w (⟨by decide, by decide⟩ : Rg 0 0 0)))
set_option maxHeartbeats 4000000 in
theorem cs_X10_feed {xi : SX} {S : Hp} {E : List Nat} {kc nc : Nat} {P : Po} {o0 : Nat} {x1 : Int32} {x2 : Int32} {x3 : Int32} {x4 : Int32} {x5 : Int32} (hG : GI S E) (h0 : Oa S E 10 0 o0) (hP : ∀ r T x y, PV E [640, 642, 653, 663, 664, 9988, 9995, 9997] S kc nc (rI (-2147483648) 2147483647) (fun v T => ((¬ hp_I S 663 o0 = 0 → ¬ hp_I S 664 o0 = -1) → ¬ hp_I T 663 o0 = 0 → ¬ hp_I T 664 o0 = -1)) [] r T x y → P r T x y) : TT xi M_X10_feed 0 [(0, .ref o0), (1, .int x1), (2, .int x2), (3, .int x3), (4, .int x4), (5, .int x5)] [] S kc nc P := by
  have hA : Af E [640, 642, 653, 663, 664, 9988, 9995, 9997] S S := af_rf
  refine tt_aload_n (j := 0) dX10_feed_0 rfl ?_
  refine tt_iload_n (j := 1) dX10_feed_1 rfl ?_
  refine tt_i2l dX10_feed_2 ?_
  refine tt_lconst (v := 0) dX10_feed_3 rfl ?_
  refine tt_ldc2 (v := 16) dX10_feed_4 kl_10_65 ?_
  refine gt_SIp (As := [.long (x1 : Int32).toInt64, .long 0, .long 16]) dX10_feed_7 ca_X10_67 ⟨by decide, by decide⟩ hA (Nat.le_of_ble_eq_true rfl) (Nat.le_of_ble_eq_true rfl) (by decide) (cs_X10_isIn hG  (fun _ _ _ _ h => h)) rfl (fun _ h => nomatch h) (fun _ _ q => q.1) (fun x106 h107 hx105 => ?_)
  refine tt_if_ne (tgt := 17) dX10_feed_10 rfl (fun q108 => ?_) (fun q108 => ?_)
  · skip
    have h109 : Rg 1 1 x106 := rg_ne_lo h107 (⟨by decide, by decide⟩ : Rg 0 0 0) q108
    have h110 : Rl 0 16 (x1 : Int32).toInt64 := in_rl ((fun z e => (hx105.2 z e).1) _ rfl q108) (⟨by decide, by decide⟩ : Rl 0 0 0) (⟨by decide, by decide⟩ : Rl 16 16 16)
    have h111 : Rg 0 16 x1 := rg_of_l h110
    refine tt_aload_n (j := 0) dX10_feed_17 rfl ?_
    refine tt_getI (id := 642) dX10_feed_18 fl_10_71 rfl rfl (ob_af h0 hA) ?_
    refine tt_iload_n (j := 1) dX10_feed_21 rfl ?_
    refine tt_iadd dX10_feed_22 ?_
    refine tt_sipush (v := 200) dX10_feed_23 rfl ?_
    refine tt_icmp_le (tgt := 33) dX10_feed_26 rfl (fun q112 => ?_) (fun q112 => ?_)
    · skip
      have h113 : Rg 0 200 ((hp_I S 642 o0) + x1) := rg_le_l (rg_add (lo := 0) (hi := 216) (gi_I (k := 642) hG (oa_af h0 hA) 0 200) h111) (⟨by decide, by decide⟩ : Rg 200 200 200) q112
      refine tt_iconst (v := 0) dX10_feed_33 rfl ?_
      refine gt_VI (As := [.int 0]) dX10_feed_34 ca_X10_74 ⟨by decide, by decide⟩ h0 hA rfl (Nat.le_of_ble_eq_true rfl) (Nat.le_of_ble_eq_true rfl) (by decide) (cs_X10_refused hG (oa_af h0 hA) (fun _ _ _ _ h => h)) rfl (fun _ h => nomatch h) (fun S114 x119 h120 hx118 hG115 hB116 hA117 => ?_)
      obtain rfl := (hx118.1 _ rfl).trans (show bI (0 < (0 : Int32)) = 0 by decide)
      refine tt_if_eq (tgt := 42) dX10_feed_37 rfl (fun _ => ?_) (fun q => absurd q (by decide))
      refine tt_aload_n (j := 0) dX10_feed_42 rfl ?_
      refine gt_Vv (As := []) dX10_feed_43 ca_X10_78 ⟨by decide, by decide⟩ h0 hA117 rfl (Nat.le_of_ble_eq_true rfl) (Nat.le_of_ble_eq_true rfl) (by decide) (cs_X10_forget hG115 (oa_af h0 hA117) (fun _ _ _ _ h => h)) rfl (fun _ h => nomatch h) (fun S121 hx125 hG122 hB123 hA124 => ?_)
      refine tt_iconst (v := 0) dX10_feed_46 rfl ?_
      refine tt_istore (ks := [0, 1, 2, 3, 4, 5, 6]) (L' := [(6, .int 0), (0, .ref o0), (1, .int x1), (2, .int x2), (3, .int x3), (4, .int x4), (5, .int x5)]) dX10_feed_47 (by decide) rfl ?_
      have B126 : ∀ (nn : Nat) (S127 : Hp) (x130 : Int32), (2147483648 - x130.toInt).toNat = nn → GI S127 E → Af E [640, 642, 653, 663, 664, 9988, 9995, 9997] S S127 → Rg 0 24 x130 → hp_I S127 642 o0 = ((hp_I S 642 o0) + x130) → hp_I S127 663 o0 = 0 → TT xi M_X10_feed 49 [(0, .ref o0), (1, .int x1), (2, .int x2), (3, .int x3), (4, .int x4), (5, .int x5), (6, .int x130)] [] S127 kc nc P := by
        intro nn
        induction nn using Nat.strongRecOn with
        | ind nn ihB126 =>
          intro S127 x130 hmB126 hG128 hA129 h131 hl132 hl133
          subst hmB126
          refine tt_iload (j := 6) dX10_feed_49 rfl ?_
          refine tt_iload_n (j := 1) dX10_feed_51 rfl ?_
          refine tt_icmp_ge (tgt := 134) dX10_feed_52 rfl (fun q134 => ?_) (fun q134 => ?_)
          · skip
            refine tt_aload_n (j := 0) dX10_feed_134 rfl ?_
            refine gt_gI (id := 642) (v := ((hp_I S 642 o0) + x130)) dX10_feed_135 fl_10_71 rfl rfl h0 hA129 hl132 ?_
            exact tt_ireturn dX10_feed_138 .int rfl rfl (hP _ _ _ _ ⟨hG128, hA129, Or.inl ⟨_, rfl, ⟨_, rfl, rg_w (rg_all ((hp_I S 642 o0) + x130))⟩, (fun _ q => absurd hl133 q), rfl, rfl⟩⟩)
          · skip
            have h135 : Rg 0 199 ((hp_I S 642 o0) + x130) := feed_rg h131 (nle_lt q134) h111 h113 (gi_I (k := 642) hG (oa_af h0 hA) 0 200)
            have h136 : Rg 0 15 x130 := rg_lt_l h131 h111 (nle_lt q134)
            have h137 : Rg 1 16 x1 := rg_lt_r h131 h111 (nle_lt q134)
            refine tt_iload (j := 6) dX10_feed_55 rfl ?_
            refine tt_iconst (v := 4) dX10_feed_57 rfl ?_
            have B138 : ∀ (x139 : Int32), TT xi M_X10_feed 90 [(0, .ref o0), (1, .int x1), (2, .int x2), (3, .int x3), (4, .int x4), (5, .int x5), (6, .int x130)] [.int x139] S127 kc nc P := by
              intro x139 
              refine tt_istore (ks := [0, 1, 2, 3, 4, 5, 6, 7]) (L' := [(7, .int x139), (0, .ref o0), (1, .int x1), (2, .int x2), (3, .int x3), (4, .int x4), (5, .int x5), (6, .int x130)]) dX10_feed_90 (by decide) rfl ?_
              refine tt_aload_n (j := 1) dX10_feed_92 rfl ?_
              obtain ⟨b140, hr141, ho142⟩ := gi_R (k := 641) hG h0 32 200
              refine gt_gR (id := 641) dX10_feed_93 fl_10_7 rfl rfl h0 hA129 hr141 ?_
              refine tt_aload_n (j := 1) dX10_feed_96 rfl ?_
              refine gt_gI (id := 642) (v := ((hp_I S 642 o0) + x130)) dX10_feed_97 fl_10_71 rfl rfl h0 hA129 hl132 ?_
              refine tt_iload (j := 0) dX10_feed_100 rfl ?_
              refine tt_bipush (v := 24) dX10_feed_102 rfl ?_
              refine tt_bipush (v := 8) dX10_feed_104 rfl ?_
              refine tt_iload (j := 7) dX10_feed_106 rfl ?_
              refine tt_iconst (v := 4) dX10_feed_108 rfl ?_
              refine tt_irem dX10_feed_109 (by decide) (gt_ti (fun x143 => ?_))
              refine tt_imul dX10_feed_110 ?_
              refine tt_isub dX10_feed_111 ?_
              refine tt_ishr dX10_feed_112 ?_
              refine tt_sipush (v := 255) dX10_feed_113 rfl ?_
              refine tt_iand dX10_feed_116 ?_
              refine gt_iS dX10_feed_117 ho142 hA129 (Or.inr (by decide)) (rg_in h135) hG128 (by decide) (fun S144 hG145 hA146 e147 f148 er149 => ?_)
              refine tt_aload_n (j := 1) dX10_feed_118 rfl ?_
              refine tt_dup dX10_feed_119 rfl ?_
              refine gt_gI (id := 642) (v := ((hp_I S 642 o0) + x130)) dX10_feed_120 fl_10_71 rfl rfl h0 hA146 ((congrFun (congrFun e147 642) o0).trans hl132) ?_
              refine tt_iconst (v := 1) dX10_feed_123 rfl ?_
              refine tt_iadd dX10_feed_124 ?_
              refine gt_pI (id := 642) (x := (((hp_I S 642 o0) + x130) + 1)) dX10_feed_125 fl_10_71 rfl rfl h0 hA146 rfl rfl rfl (gp_Ir hG145 (rg_add (lo := 1) (hi := 200) h135 (⟨by decide, by decide⟩ : Rg 1 1 1))) (by decide) (fun h => absurd h (by decide)) (fun h => absurd h (by decide)) (fun S150 hG151 hA152 e153 f154 er155 => ?_)
              refine tt_iinc (j := 7) (v := (x130 + 1)) (ks := [0, 1, 2, 3, 4, 5, 6, 7]) (L' := [(6, .int (x130 + 1)), (7, .int x139), (0, .ref o0), (1, .int x1), (2, .int x2), (3, .int x3), (4, .int x4), (5, .int x5)]) dX10_feed_128 rfl rfl (by decide) rfl ?_
              refine tt_goto (tgt := 49) dX10_feed_131 rfl ?_
              exact tt_loc (ks := [2, 3, 4, 5, 6, 7, 0]) rfl (ihB126 _ (rg_up h136) S150 (x130 + 1) rfl hG151 hA152 (rg_w (rg_add (lo := 1) (hi := 16) h136 (⟨by decide, by decide⟩ : Rg 1 1 1))) (Eq.trans (by rw [e153]; exact up2_self) (Int32.add_assoc _ _ _)) ((congrFun (congrFun e153 663) o0).trans ((congrFun (up2_ne (k := 663)) o0).trans ((congrFun (congrFun e147 663) o0).trans hl133))))
            refine tt_icmp_ge (tgt := 65) dX10_feed_58 rfl (fun q156 => ?_) (fun q156 => ?_)
            · skip
              have h157 : Rg 4 15 x130 := rg_le_r (⟨by decide, by decide⟩ : Rg 4 4 4) h136 q156
              refine tt_iload (j := 6) dX10_feed_65 rfl ?_
              refine tt_bipush (v := 8) dX10_feed_67 rfl ?_
              refine tt_icmp_ge (tgt := 76) dX10_feed_69 rfl (fun q158 => ?_) (fun q158 => ?_)
              · skip
                have h159 : Rg 8 15 x130 := rg_le_r (⟨by decide, by decide⟩ : Rg 8 8 8) h157 q158
                refine tt_iload (j := 6) dX10_feed_76 rfl ?_
                refine tt_bipush (v := 12) dX10_feed_78 rfl ?_
                refine tt_icmp_ge (tgt := 88) dX10_feed_80 rfl (fun q160 => ?_) (fun q160 => ?_)
                · skip
                  have h161 : Rg 12 15 x130 := rg_le_r (⟨by decide, by decide⟩ : Rg 12 12 12) h159 q160
                  refine tt_iload (j := 5) dX10_feed_88 rfl ?_
                  exact B138 x5
                · skip
                  have h162 : Rg 8 11 x130 := rg_lt_l h159 (⟨by decide, by decide⟩ : Rg 12 12 12) (nle_lt q160)
                  refine tt_iload (j := 4) dX10_feed_83 rfl ?_
                  refine tt_goto (tgt := 90) dX10_feed_85 rfl ?_
                  exact B138 x4
              · skip
                have h163 : Rg 4 7 x130 := rg_lt_l h157 (⟨by decide, by decide⟩ : Rg 8 8 8) (nle_lt q158)
                refine tt_iload_n (j := 3) dX10_feed_72 rfl ?_
                refine tt_goto (tgt := 90) dX10_feed_73 rfl ?_
                exact B138 x3
            · skip
              have h164 : Rg 0 3 x130 := rg_lt_l h136 (⟨by decide, by decide⟩ : Rg 4 4 4) (nle_lt q156)
              refine tt_iload_n (j := 2) dX10_feed_61 rfl ?_
              refine tt_goto (tgt := 90) dX10_feed_62 rfl ?_
              exact B138 x2
      exact tt_loc (ks := [1, 2, 3, 4, 5, 6, 0]) rfl (B126 _ S121 0 rfl hG122 hA124 (rg_w (⟨by decide, by decide⟩ : Rg 0 0 0)) (Eq.trans ((i_af (k := 642) (oa_af h0 hA117) hB123).trans ((i_af (k := 642) (oa_af h0 hA) hB116).trans rfl)) (Int32.add_zero _).symm) hx125)
    · skip
      have h165 : Rg 201 216 ((hp_I S 642 o0) + x1) := rg_lt_r (⟨by decide, by decide⟩ : Rg 200 200 200) (rg_add (lo := 0) (hi := 216) (gi_I (k := 642) hG (oa_af h0 hA) 0 200) h111) (nle_lt q112)
      refine tt_iconst (v := 2) dX10_feed_29 rfl ?_
      refine tt_goto (tgt := 34) dX10_feed_30 rfl ?_
      refine gt_VI (As := [.int 2]) dX10_feed_34 ca_X10_74 ⟨by decide, by decide⟩ h0 hA rfl (Nat.le_of_ble_eq_true rfl) (Nat.le_of_ble_eq_true rfl) (by decide) (cs_X10_refused hG (oa_af h0 hA) (fun _ _ _ _ h => h)) rfl (fun _ h => nomatch h) (fun S166 x171 h172 hx170 hG167 hB168 hA169 => ?_)
      obtain rfl := (hx170.1 _ rfl).trans (show bI (0 < (2 : Int32)) = 1 by decide)
      refine tt_if_eq (tgt := 42) dX10_feed_37 rfl (fun q => absurd q (by decide)) (fun _ => ?_)
      refine tt_iconst (v := 0) dX10_feed_40 rfl ?_
      exact tt_ireturn dX10_feed_41 .int rfl rfl (hP _ _ _ _ ⟨hG167, hA169, Or.inl ⟨_, rfl, ⟨_, rfl, rg_w (⟨by decide, by decide⟩ : Rg 0 0 0)⟩, (fun h q e => h (fun e2 => q (Eq.trans ((i_af (k := 663) (oa_af h0 hA) hB168).trans rfl) e2)) (Eq.trans (Eq.symm ((i_af (k := 664) (oa_af h0 hA) hB168).trans rfl)) e)), rfl, rfl⟩⟩)
  · skip
    have h173 : Rg 0 0 x106 := rg_eq_l h107 (⟨by decide, by decide⟩ : Rg 0 0 0) q108
    refine tt_iconst (v := 1) dX10_feed_13 rfl ?_
    refine tt_goto (tgt := 34) dX10_feed_14 rfl ?_
    refine gt_VI (As := [.int 1]) dX10_feed_34 ca_X10_74 ⟨by decide, by decide⟩ h0 hA rfl (Nat.le_of_ble_eq_true rfl) (Nat.le_of_ble_eq_true rfl) (by decide) (cs_X10_refused hG (oa_af h0 hA) (fun _ _ _ _ h => h)) rfl (fun _ h => nomatch h) (fun S174 x179 h180 hx178 hG175 hB176 hA177 => ?_)
    obtain rfl := (hx178.1 _ rfl).trans (show bI (0 < (1 : Int32)) = 1 by decide)
    refine tt_if_eq (tgt := 42) dX10_feed_37 rfl (fun q => absurd q (by decide)) (fun _ => ?_)
    refine tt_iconst (v := 0) dX10_feed_40 rfl ?_
    exact tt_ireturn dX10_feed_41 .int rfl rfl (hP _ _ _ _ ⟨hG175, hA177, Or.inl ⟨_, rfl, ⟨_, rfl, rg_w (⟨by decide, by decide⟩ : Rg 0 0 0)⟩, (fun h q e => h (fun e2 => q (Eq.trans ((i_af (k := 663) (oa_af h0 hA) hB176).trans rfl) e2)) (Eq.trans (Eq.symm ((i_af (k := 664) (oa_af h0 hA) hB176).trans rfl)) e)), rfl, rfl⟩⟩)
set_option maxHeartbeats 4000000 in
theorem cs_X10_erase {xi : SX} {S : Hp} {E : List Nat} {kc nc : Nat} {P : Po} {o0 : Nat} (hG : GI S E) (h0 : Oa S E 10 0 o0) (hP : ∀ r T x y, PV E [640, 642, 653, 663, 664, 9988, 9997] S kc nc (rI (-2147483648) 2147483647) (fun v T => ((¬ hp_I S 663 o0 = 0 → ¬ hp_I S 664 o0 = -1) → ¬ hp_I T 663 o0 = 0 → ¬ hp_I T 664 o0 = -1)) [] r T x y → P r T x y) : TT xi M_X10_erase 0 [(0, .ref o0)] [] S kc nc P := by
  have hA : Af E [640, 642, 653, 663, 664, 9988, 9997] S S := af_rf
  refine tt_aload_n (j := 0) dX10_erase_0 rfl ?_
  refine tt_iconst (v := 0) dX10_erase_1 rfl ?_
  refine gt_pI (id := 640) (x := 0) dX10_erase_2 fl_10_55 rfl rfl h0 hA rfl rfl rfl (gp_I hG) (by decide) (fun h => absurd h (by decide)) (fun h => absurd h (by decide)) (fun S101 hG102 hA103 e104 f105 er106 => ?_)
  refine tt_aload_n (j := 0) dX10_erase_5 rfl ?_
  refine gt_Vv (As := []) dX10_erase_6 ca_X10_78 ⟨by decide, by decide⟩ h0 hA103 rfl (Nat.le_of_ble_eq_true rfl) (Nat.le_of_ble_eq_true rfl) (by decide) (cs_X10_forget hG102 (oa_af h0 hA103) (fun _ _ _ _ h => h)) rfl (fun _ h => nomatch h) (fun S107 hx111 hG108 hB109 hA110 => ?_)
  refine tt_aload_n (j := 0) dX10_erase_9 rfl ?_
  refine tt_getI (id := 642) dX10_erase_10 fl_10_71 rfl rfl (ob_af h0 hA110) ?_
  refine tt_istore_n (ks := [0, 1]) (L' := [(1, .int (hp_I S107 642 o0)), (0, .ref o0)]) dX10_erase_13 (by decide) rfl ?_
  refine tt_aload_n (j := 1) dX10_erase_14 rfl ?_
  refine tt_iconst (v := 0) dX10_erase_15 rfl ?_
  refine gt_pI (id := 642) (x := 0) dX10_erase_16 fl_10_71 rfl rfl h0 hA110 rfl rfl rfl (gp_Ir hG108 (⟨by decide, by decide⟩ : Rg 0 0 0)) (by decide) (fun h => absurd h (by decide)) (fun h => absurd h (by decide)) (fun S112 hG113 hA114 e115 f116 er117 => ?_)
  refine tt_iload_n (j := 0) dX10_erase_19 rfl ?_
  exact tt_ireturn dX10_erase_20 .int rfl rfl (hP _ _ _ _ ⟨hG113, hA114, Or.inl ⟨_, rfl, ⟨_, rfl, rg_w (gi_I (k := 642) hG108 (oa_af h0 hA110) 0 200)⟩, (fun _ q => absurd ((congrFun (congrFun e115 663) o0).trans ((congrFun (up2_ne (k := 663)) o0).trans hx111)) q), rfl, rfl⟩⟩)
set_option maxHeartbeats 4000000 in
theorem cs_X10_next {xi : SX} {S : Hp} {E : List Nat} {kc nc : Nat} {P : Po} {o0 : Nat} (hG : GI S E) (h0 : Oa S E 10 0 o0) (hP : ∀ r T x y, PV E [654, 662] S kc nc (rI (-2147483648) 2147483647) ex0 [] r T x y → P r T x y) : TT xi M_X10_next 0 [(0, .ref o0)] [] S kc nc P := by
  have hA : Af E [654, 662] S S := af_rf
  refine tt_aload_n (j := 0) dX10_next_0 rfl ?_
  refine tt_getI (id := 654) dX10_next_1 fl_10_81 rfl rfl (ob_af h0 hA) ?_
  refine tt_aload_n (j := 0) dX10_next_4 rfl ?_
  refine tt_getI (id := 642) dX10_next_5 fl_10_71 rfl rfl (ob_af h0 hA) ?_
  refine tt_icmp_lt (tgt := 18) dX10_next_8 rfl (fun q101 => ?_) (fun q101 => ?_)
  · skip
    have h102 : Rg 0 199 (hp_I S 654 o0) := rg_lt_l (gi_I (k := 654) hG (oa_af h0 hA) 0 200) (gi_I (k := 642) hG (oa_af h0 hA) 0 200) q101
    have h103 : Rg 1 200 (hp_I S 642 o0) := rg_lt_r (gi_I (k := 654) hG (oa_af h0 hA) 0 200) (gi_I (k := 642) hG (oa_af h0 hA) 0 200) q101
    refine tt_aload_n (j := 0) dX10_next_18 rfl ?_
    refine tt_dup dX10_next_19 rfl ?_
    refine tt_getI (id := 654) dX10_next_20 fl_10_81 rfl rfl (ob_af h0 hA) ?_
    refine tt_iconst (v := 1) dX10_next_23 rfl ?_
    refine tt_iadd dX10_next_24 ?_
    refine gt_pI (id := 654) (x := ((hp_I S 654 o0) + 1)) dX10_next_25 fl_10_81 rfl rfl h0 hA rfl rfl rfl (gp_Ir hG (rg_add (lo := 1) (hi := 200) h102 (⟨by decide, by decide⟩ : Rg 1 1 1))) (by decide) (fun h => absurd h (by decide)) (fun h => absurd h (by decide)) (fun S104 hG105 hA106 e107 f108 er109 => ?_)
    refine tt_aload_n (j := 0) dX10_next_28 rfl ?_
    obtain ⟨b110, hr111, ho112⟩ := gi_R (k := 641) hG h0 32 200
    refine gt_gR (id := 641) dX10_next_29 fl_10_7 rfl rfl h0 hA106 hr111 ?_
    refine tt_aload_n (j := 0) dX10_next_32 rfl ?_
    refine gt_gI (id := 654) (v := ((hp_I S 654 o0) + 1)) dX10_next_33 fl_10_81 rfl rfl h0 hA106 (by rw [e107]; exact up2_self) ?_
    refine tt_iconst (v := 1) dX10_next_36 rfl ?_
    refine tt_isub dX10_next_37 ?_
    refine gt_iL dX10_next_38 ho112 hA106 (rg_in (rg_sub (lo := 0) (hi := 199) (rg_add (lo := 1) (hi := 200) h102 (⟨by decide, by decide⟩ : Rg 1 1 1)) (⟨by decide, by decide⟩ : Rg 1 1 1))) (fun x113 => ?_)
    exact tt_ireturn dX10_next_39 .int rfl rfl (hP _ _ _ _ ⟨hG105, hA106, Or.inl ⟨_, rfl, ⟨_, rfl, rg_w (rg_all x113)⟩, trivial, rfl, rfl⟩⟩)
  · skip
    refine tt_aload_n (j := 0) dX10_next_11 rfl ?_
    refine tt_iconst (v := 1) dX10_next_12 rfl ?_
    refine gt_pI (id := 662) (x := 1) dX10_next_13 fl_10_84 rfl rfl h0 hA rfl rfl rfl (gp_Ir hG (⟨by decide, by decide⟩ : Rg 1 1 1)) (by decide) (fun _ _ q => absurd q (by decide)) (fun h => absurd h (by decide)) (fun S114 hG115 hA116 e117 f118 er119 => ?_)
    refine tt_iconst (v := 0) dX10_next_16 rfl ?_
    exact tt_ireturn dX10_next_17 .int rfl rfl (hP _ _ _ _ ⟨hG115, hA116, Or.inl ⟨_, rfl, ⟨_, rfl, rg_w (⟨by decide, by decide⟩ : Rg 0 0 0)⟩, trivial, rfl, rfl⟩⟩)
set_option maxHeartbeats 4000000 in
theorem cs_X10_number {xi : SX} {S : Hp} {E : List Nat} {kc nc : Nat} {P : Po} {o0 : Nat} {x1 : Int32} (hG : GI S E) (h0 : Oa S E 10 0 o0) (hP : ∀ r T x y, PV E [654, 662] S kc nc rJ ex0 [] r T x y → P r T x y) : TT xi M_X10_number 0 [(0, .ref o0), (1, .int x1)] [] S kc nc P := by
  have hA : Af E [654, 662] S S := af_rf
  refine tt_lconst (v := 0) dX10_number_0 rfl ?_
  refine tt_lstore_n (ks := [0, 1, 2]) (L' := [(2, .long 0), (0, .ref o0), (1, .int x1)]) dX10_number_1 (by decide) rfl ?_
  refine tt_iconst (v := 0) dX10_number_2 rfl ?_
  refine tt_istore (ks := [0, 1, 2, 3]) (L' := [(4, .int 0), (2, .long 0), (0, .ref o0), (1, .int x1)]) dX10_number_3 (by decide) rfl ?_
  have B101 : ∀ (nn : Nat) (S102 : Hp) (y105 : Int64) (x106 : Int32), (2147483648 - x106.toInt).toNat = nn → GI S102 E → Af E [654, 662] S S102 → Rg 0 2147483647 x106 → TT xi M_X10_number 5 [(0, .ref o0), (1, .int x1), (2, .long y105), (4, .int x106)] [] S102 kc nc P := by
    intro nn
    induction nn using Nat.strongRecOn with
    | ind nn ihB101 =>
      intro S102 y105 x106 hmB101 hG103 hA104 h107
      subst hmB101
      refine tt_iload (j := 3) dX10_number_5 rfl ?_
      refine tt_iload_n (j := 1) dX10_number_7 rfl ?_
      refine tt_icmp_ge (tgt := 31) dX10_number_8 rfl (fun q108 => ?_) (fun q108 => ?_)
      · skip
        refine tt_bipush (v := 64) dX10_number_31 rfl ?_
        refine tt_bipush (v := 8) dX10_number_33 rfl ?_
        refine tt_iload_n (j := 1) dX10_number_35 rfl ?_
        refine tt_imul dX10_number_36 ?_
        refine tt_isub dX10_number_37 ?_
        refine tt_istore (ks := [0, 1, 2, 3]) (L' := [(4, .int (64 - (8 * x1))), (0, .ref o0), (1, .int x1), (2, .long y105)]) dX10_number_38 (by decide) rfl ?_
        refine tt_lload_n (j := 3) dX10_number_40 rfl ?_
        refine tt_iload (j := 0) dX10_number_41 rfl ?_
        refine tt_lshl dX10_number_43 (gt_tl (fun y109 => ?_))
        refine tt_iload (j := 0) dX10_number_44 rfl ?_
        refine tt_lshr dX10_number_46 (gt_tl (fun y110 => ?_))
        exact tt_lreturn dX10_number_47 rfl (hP _ _ _ _ ⟨hG103, hA104, Or.inl ⟨_, rfl, ⟨_, rfl⟩, trivial, rfl, rfl⟩⟩)
      · skip
        have h111 : Rg 0 2147483646 x106 := rg_lt_l h107 (rg_all x1) (nle_lt q108)
        have h112 : Rg 1 2147483647 x1 := rg_lt_r h107 (rg_all x1) (nle_lt q108)
        refine tt_lload_n (j := 2) dX10_number_11 rfl ?_
        refine tt_aload_n (j := 0) dX10_number_12 rfl ?_
        refine gt_VI (As := []) dX10_number_13 ca_X10_87 ⟨by decide, by decide⟩ h0 hA104 rfl (Nat.le_of_ble_eq_true rfl) (Nat.le_of_ble_eq_true rfl) (by decide) (cs_X10_next hG103 (oa_af h0 hA104) (fun _ _ _ _ h => h)) rfl (fun _ h => nomatch h) (fun S113 x118 h119 hx117 hG114 hB115 hA116 => ?_)
        refine tt_i2l dX10_number_16 ?_
        refine tt_bipush (v := 8) dX10_number_17 rfl ?_
        refine tt_iload (j := 3) dX10_number_19 rfl ?_
        refine tt_imul dX10_number_21 ?_
        refine tt_lshl dX10_number_22 (gt_tl (fun y120 => ?_))
        refine tt_lor dX10_number_23 (gt_tl (fun y121 => ?_))
        refine tt_lstore_n (ks := [0, 1, 2, 3]) (L' := [(2, .long y121), (0, .ref o0), (1, .int x1), (4, .int x106)]) dX10_number_24 (by decide) rfl ?_
        refine tt_iinc (j := 3) (v := (x106 + 1)) (ks := [0, 1, 2, 3]) (L' := [(4, .int (x106 + 1)), (2, .long y121), (0, .ref o0), (1, .int x1)]) dX10_number_25 rfl rfl (by decide) rfl ?_
        refine tt_goto (tgt := 5) dX10_number_28 rfl ?_
        exact tt_loc (ks := [2, 3, 1, 0]) rfl (ihB101 _ (rg_up h111) S113 y121 (x106 + 1) rfl hG114 hA116 (rg_w (rg_add (lo := 1) (hi := 2147483647) h111 (⟨by decide, by decide⟩ : Rg 1 1 1))))
  exact tt_loc (ks := [2, 3, 1, 0]) rfl (B101 _ S 0 0 rfl hG hA (rg_w (⟨by decide, by decide⟩ : Rg 0 0 0)))
set_option maxHeartbeats 4000000 in
theorem cs_X10_readPlaces {xi : SX} {S : Hp} {E : List Nat} {kc nc : Nat} {P : Po} {o0 : Nat} {x1 : Int32} (hG : GI S E) (h0 : Oa S E 10 0 o0) (hP : ∀ r T x y, PV E [654, 662, 672, 673, 674, 675] S kc nc rV (fun v T => (hp_I T 662 o0 = 0 → Rg 0 23 (hp_I T 673 o0))) [] r T x y → P r T x y) : TT xi M_X10_readPlaces 0 [(0, .ref o0), (1, .int x1)] [] S kc nc P := by
  have hA : Af E [654, 662, 672, 673, 674, 675] S S := af_rf
  refine tt_aload_n (j := 0) dX10_readPlaces_0 rfl ?_
  refine gt_VI (As := []) dX10_readPlaces_1 ca_X10_87 ⟨by decide, by decide⟩ h0 hA rfl (Nat.le_of_ble_eq_true rfl) (Nat.le_of_ble_eq_true rfl) (by decide) (cs_X10_next hG (oa_af h0 hA) (fun _ _ _ _ h => h)) rfl (fun _ h => nomatch h) (fun S101 x106 h107 hx105 hG102 hB103 hA104 => ?_)
  refine tt_istore_n (ks := [0, 1, 2]) (L' := [(2, .int x106), (0, .ref o0), (1, .int x1)]) dX10_readPlaces_4 (by decide) rfl ?_
  refine tt_aload_n (j := 1) dX10_readPlaces_5 rfl ?_
  refine tt_iload_n (j := 0) dX10_readPlaces_6 rfl ?_
  refine tt_bipush (v := 6) dX10_readPlaces_7 rfl ?_
  refine tt_ishr dX10_readPlaces_9 ?_
  refine gt_pI (id := 675) (x := (x106 >>> (6 &&& 31))) dX10_readPlaces_10 fl_10_91 rfl rfl h0 hA104 rfl rfl rfl (gp_I hG102) (by decide) (fun h => absurd h (by decide)) (fun h => absurd h (by decide)) (fun S108 hG109 hA110 e111 f112 er113 => ?_)
  refine tt_aload_n (j := 1) dX10_readPlaces_13 rfl ?_
  refine tt_iload_n (j := 0) dX10_readPlaces_14 rfl ?_
  refine tt_iconst (v := 3) dX10_readPlaces_15 rfl ?_
  refine tt_ishr dX10_readPlaces_16 ?_
  refine tt_bipush (v := 7) dX10_readPlaces_17 rfl ?_
  refine tt_iand dX10_readPlaces_19 ?_
  refine gt_pI (id := 674) (x := ((x106 >>> (3 &&& 31)) &&& 7)) dX10_readPlaces_20 fl_10_94 rfl rfl h0 hA110 rfl rfl rfl (gp_Ir hG109 (rg_and (x := (x106 >>> (3 &&& 31))) (⟨by decide, by decide⟩ : Rg 7 7 7))) (by decide) (fun h => absurd h (by decide)) (fun h => absurd h (by decide)) (fun S114 hG115 hA116 e117 f118 er119 => ?_)
  refine tt_aload_n (j := 1) dX10_readPlaces_23 rfl ?_
  refine tt_aload_n (j := 1) dX10_readPlaces_24 rfl ?_
  refine gt_gI (id := 674) (v := ((x106 >>> (3 &&& 31)) &&& 7)) dX10_readPlaces_25 fl_10_94 rfl rfl h0 hA116 (by rw [e117]; exact up2_self) ?_
  refine tt_iload_n (j := 2) dX10_readPlaces_28 rfl ?_
  refine tt_iconst (v := 4) dX10_readPlaces_29 rfl ?_
  refine tt_iand dX10_readPlaces_30 ?_
  refine tt_if_eq (tgt := 39) dX10_readPlaces_31 rfl (fun q120 => ?_) (fun q120 => ?_)
  · skip
    have h121 : Rg 0 0 (x1 &&& 4) := rg_eq_l (rg_and (x := x1) (⟨by decide, by decide⟩ : Rg 4 4 4)) (⟨by decide, by decide⟩ : Rg 0 0 0) q120
    refine tt_iconst (v := 0) dX10_readPlaces_39 rfl ?_
    refine tt_iadd dX10_readPlaces_40 ?_
    refine gt_pI (id := 672) (x := (((x106 >>> (3 &&& 31)) &&& 7) + 0)) dX10_readPlaces_41 fl_10_97 rfl rfl h0 hA116 rfl rfl rfl (gp_Ir hG115 (rg_add (lo := 0) (hi := 7) (rg_and (x := (x106 >>> (3 &&& 31))) (⟨by decide, by decide⟩ : Rg 7 7 7)) (⟨by decide, by decide⟩ : Rg 0 0 0))) (by decide) (fun h => absurd h (by decide)) (fun h => absurd h (by decide)) (fun S122 hG123 hA124 e125 f126 er127 => ?_)
    refine tt_aload_n (j := 1) dX10_readPlaces_44 rfl ?_
    refine tt_iload_n (j := 0) dX10_readPlaces_45 rfl ?_
    refine tt_bipush (v := 7) dX10_readPlaces_46 rfl ?_
    refine tt_iand dX10_readPlaces_48 ?_
    refine gt_pI (id := 673) (x := (x106 &&& 7)) dX10_readPlaces_49 fl_10_100 rfl rfl h0 hA124 rfl rfl rfl (gp_I hG123) (by decide) (fun h => absurd h (by decide)) (fun h => absurd h (by decide)) (fun S128 hG129 hA130 e131 f132 er133 => ?_)
    refine tt_aload_n (j := 1) dX10_readPlaces_52 rfl ?_
    refine gt_gI (id := 675) (v := (x106 >>> (6 &&& 31))) dX10_readPlaces_53 fl_10_91 rfl rfl h0 hA130 ((congrFun (congrFun e131 675) o0).trans ((congrFun (up2_ne (k := 675)) o0).trans ((congrFun (congrFun e125 675) o0).trans ((congrFun (up2_ne (k := 675)) o0).trans ((congrFun (congrFun e117 675) o0).trans ((congrFun (up2_ne (k := 675)) o0).trans (by rw [e111]; exact up2_self))))))) ?_
    refine tt_iconst (v := 3) dX10_readPlaces_56 rfl ?_
    refine tt_icmp_ne (tgt := 84) dX10_readPlaces_57 rfl (fun q134 => ?_) (fun q134 => ?_)
    · skip
      refine tt_aload_n (j := 1) dX10_readPlaces_84 rfl ?_
      refine gt_gI (id := 675) (v := (x106 >>> (6 &&& 31))) dX10_readPlaces_85 fl_10_91 rfl rfl h0 hA130 ((congrFun (congrFun e131 675) o0).trans ((congrFun (up2_ne (k := 675)) o0).trans ((congrFun (congrFun e125 675) o0).trans ((congrFun (up2_ne (k := 675)) o0).trans ((congrFun (congrFun e117 675) o0).trans ((congrFun (up2_ne (k := 675)) o0).trans (by rw [e111]; exact up2_self))))))) ?_
      refine tt_iconst (v := 1) dX10_readPlaces_88 rfl ?_
      refine tt_icmp_ne (tgt := 170) dX10_readPlaces_89 rfl (fun q135 => ?_) (fun q135 => ?_)
      · skip
        refine tt_aload_n (j := 1) dX10_readPlaces_170 rfl ?_
        refine tt_iconst (v := 1) dX10_readPlaces_171 rfl ?_
        refine gt_pI (id := 662) (x := 1) dX10_readPlaces_172 fl_10_84 rfl rfl h0 hA130 rfl rfl rfl (gp_Ir hG129 (⟨by decide, by decide⟩ : Rg 1 1 1)) (by decide) (fun _ _ q => absurd q (by decide)) (fun h => absurd h (by decide)) (fun S136 hG137 hA138 e139 f140 er141 => ?_)
        exact tt_vreturn dX10_readPlaces_175 rfl (hP _ _ _ _ ⟨hG137, hA138, Or.inl ⟨_, rfl, rfl, (fun _ => rg_cast ((congrFun (congrFun e139 673) o0).trans ((congrFun (up2_ne (k := 673)) o0).trans (by rw [e131]; exact up2_self))) (rg_w (rg_and (x := x106) (⟨by decide, by decide⟩ : Rg 7 7 7)))), rfl, rfl⟩⟩)
      · skip
        have h142 : Rg 1 1 (x106 >>> (6 &&& 31)) := rg_eq_l (rg_all (x106 >>> (6 &&& 31))) (⟨by decide, by decide⟩ : Rg 1 1 1) q135
        refine tt_aload_n (j := 1) dX10_readPlaces_92 rfl ?_
        refine gt_gI (id := 673) (v := (x106 &&& 7)) dX10_readPlaces_93 fl_10_100 rfl rfl h0 hA130 (by rw [e131]; exact up2_self) ?_
        refine tt_iconst (v := 5) dX10_readPlaces_96 rfl ?_
        refine tt_icmp_ne (tgt := 170) dX10_readPlaces_97 rfl (fun q143 => ?_) (fun q143 => ?_)
        · skip
          refine tt_aload_n (j := 1) dX10_readPlaces_170 rfl ?_
          refine tt_iconst (v := 1) dX10_readPlaces_171 rfl ?_
          refine gt_pI (id := 662) (x := 1) dX10_readPlaces_172 fl_10_84 rfl rfl h0 hA130 rfl rfl rfl (gp_Ir hG129 (⟨by decide, by decide⟩ : Rg 1 1 1)) (by decide) (fun _ _ q => absurd q (by decide)) (fun h => absurd h (by decide)) (fun S144 hG145 hA146 e147 f148 er149 => ?_)
          exact tt_vreturn dX10_readPlaces_175 rfl (hP _ _ _ _ ⟨hG145, hA146, Or.inl ⟨_, rfl, rfl, (fun _ => rg_cast ((congrFun (congrFun e147 673) o0).trans ((congrFun (up2_ne (k := 673)) o0).trans (by rw [e131]; exact up2_self))) (rg_w (rg_and (x := x106) (⟨by decide, by decide⟩ : Rg 7 7 7)))), rfl, rfl⟩⟩)
        · skip
          have h150 : Rg 5 5 (x106 &&& 7) := rg_eq_l (rg_and (x := x106) (⟨by decide, by decide⟩ : Rg 7 7 7)) (⟨by decide, by decide⟩ : Rg 5 5 5) q143
          refine tt_iload_n (j := 2) dX10_readPlaces_100 rfl ?_
          refine tt_iconst (v := 1) dX10_readPlaces_101 rfl ?_
          refine tt_iand dX10_readPlaces_102 ?_
          refine tt_if_ne (tgt := 170) dX10_readPlaces_103 rfl (fun q151 => ?_) (fun q151 => ?_)
          · skip
            have h152 : Rg 1 1 (x1 &&& 1) := rg_ne_lo (rg_and (x := x1) (⟨by decide, by decide⟩ : Rg 1 1 1)) (⟨by decide, by decide⟩ : Rg 0 0 0) q151
            refine tt_aload_n (j := 1) dX10_readPlaces_170 rfl ?_
            refine tt_iconst (v := 1) dX10_readPlaces_171 rfl ?_
            refine gt_pI (id := 662) (x := 1) dX10_readPlaces_172 fl_10_84 rfl rfl h0 hA130 rfl rfl rfl (gp_Ir hG129 (⟨by decide, by decide⟩ : Rg 1 1 1)) (by decide) (fun _ _ q => absurd q (by decide)) (fun h => absurd h (by decide)) (fun S153 hG154 hA155 e156 f157 er158 => ?_)
            exact tt_vreturn dX10_readPlaces_175 rfl (hP _ _ _ _ ⟨hG154, hA155, Or.inl ⟨_, rfl, rfl, (fun _ => rg_cast ((congrFun (congrFun e156 673) o0).trans ((congrFun (up2_ne (k := 673)) o0).trans (by rw [e131]; exact up2_self))) (rg_w h150)), rfl, rfl⟩⟩)
          · skip
            have h159 : Rg 0 0 (x1 &&& 1) := rg_eq_l (rg_and (x := x1) (⟨by decide, by decide⟩ : Rg 1 1 1)) (⟨by decide, by decide⟩ : Rg 0 0 0) q151
            refine tt_iload_n (j := 2) dX10_readPlaces_106 rfl ?_
            refine tt_bipush (v := 8) dX10_readPlaces_107 rfl ?_
            refine tt_iand dX10_readPlaces_109 ?_
            refine tt_if_eq (tgt := 170) dX10_readPlaces_110 rfl (fun q160 => ?_) (fun q160 => ?_)
            · skip
              have h161 : Rg 0 0 (x1 &&& 8) := rg_eq_l (rg_and (x := x1) (⟨by decide, by decide⟩ : Rg 8 8 8)) (⟨by decide, by decide⟩ : Rg 0 0 0) q160
              refine tt_aload_n (j := 1) dX10_readPlaces_170 rfl ?_
              refine tt_iconst (v := 1) dX10_readPlaces_171 rfl ?_
              refine gt_pI (id := 662) (x := 1) dX10_readPlaces_172 fl_10_84 rfl rfl h0 hA130 rfl rfl rfl (gp_Ir hG129 (⟨by decide, by decide⟩ : Rg 1 1 1)) (by decide) (fun _ _ q => absurd q (by decide)) (fun h => absurd h (by decide)) (fun S162 hG163 hA164 e165 f166 er167 => ?_)
              exact tt_vreturn dX10_readPlaces_175 rfl (hP _ _ _ _ ⟨hG163, hA164, Or.inl ⟨_, rfl, rfl, (fun _ => rg_cast ((congrFun (congrFun e165 673) o0).trans ((congrFun (up2_ne (k := 673)) o0).trans (by rw [e131]; exact up2_self))) (rg_w h150)), rfl, rfl⟩⟩)
            · skip
              have h168 : Rg 1 8 (x1 &&& 8) := rg_ne_lo (rg_and (x := x1) (⟨by decide, by decide⟩ : Rg 8 8 8)) (⟨by decide, by decide⟩ : Rg 0 0 0) q160
              refine tt_aload_n (j := 1) dX10_readPlaces_113 rfl ?_
              refine tt_iconst (v := 1) dX10_readPlaces_114 rfl ?_
              refine gt_VJ (As := [.int 1]) dX10_readPlaces_115 ca_X10_103 ⟨by decide, by decide⟩ h0 hA130 rfl (Nat.le_of_ble_eq_true rfl) (Nat.le_of_ble_eq_true rfl) (by decide) (cs_X10_number hG129 (oa_af h0 hA130) (fun _ _ _ _ h => h)) rfl (fun _ h => nomatch h) (fun S169 y174 hx173 hG170 hB171 hA172 => ?_)
              refine tt_l2i dX10_readPlaces_118 (gt_ti (fun x176 => ?_))
              refine tt_ineg dX10_readPlaces_119 (gt_ti (fun x177 => ?_))
              refine tt_istore_n (ks := [0, 1, 2, 3]) (L' := [(3, .int x177), (2, .int x106), (0, .ref o0), (1, .int x1)]) dX10_readPlaces_120 (by decide) rfl ?_
              refine tt_aload_n (j := 2) dX10_readPlaces_121 rfl ?_
              refine tt_aload_n (j := 2) dX10_readPlaces_122 rfl ?_
              refine tt_getI (id := 662) dX10_readPlaces_123 fl_10_84 rfl rfl (ob_af h0 hA172) ?_
              refine tt_if_ne (tgt := 148) dX10_readPlaces_126 rfl (fun q178 => ?_) (fun q178 => ?_)
              · skip
                have h179 : Rg 1 1 (hp_I S169 662 o0) := rg_ne_lo (gi_I (k := 662) hG170 (oa_af h0 hA172) 0 1) (⟨by decide, by decide⟩ : Rg 0 0 0) q178
                refine tt_iconst (v := 1) dX10_readPlaces_148 rfl ?_
                refine tt_goto (tgt := 153) dX10_readPlaces_149 rfl ?_
                refine gt_pI (id := 662) (x := 1) dX10_readPlaces_153 fl_10_84 rfl rfl h0 hA172 rfl rfl rfl (gp_Ir hG170 (⟨by decide, by decide⟩ : Rg 1 1 1)) (by decide) (fun _ _ q => absurd q (by decide)) (fun h => absurd h (by decide)) (fun S180 hG181 hA182 e183 f184 er185 => ?_)
                refine tt_aload_n (j := 2) dX10_readPlaces_156 rfl ?_
                refine tt_bipush (v := 15) dX10_readPlaces_157 rfl ?_
                refine tt_iload_n (j := 0) dX10_readPlaces_159 rfl ?_
                refine tt_bipush (v := 8) dX10_readPlaces_160 rfl ?_
                refine tt_idiv dX10_readPlaces_162 (by decide) (gt_ti (fun x186 => ?_))
                refine tt_iadd dX10_readPlaces_163 ?_
                refine gt_pI (id := 673) (x := (15 + x186)) dX10_readPlaces_164 fl_10_100 rfl rfl h0 hA182 rfl rfl rfl (gp_I hG181) (by decide) (fun h => absurd h (by decide)) (fun h => absurd h (by decide)) (fun S187 hG188 hA189 e190 f191 er192 => ?_)
                refine tt_goto (tgt := 175) dX10_readPlaces_167 rfl ?_
                exact tt_vreturn dX10_readPlaces_175 rfl (hP _ _ _ _ ⟨hG188, hA189, Or.inl ⟨_, rfl, rfl, (fun q => (absurd (((congrFun (congrFun e183 662) o0).trans up2_self).symm.trans ((congrFun (up2_ne (k := 662)) o0).symm.trans ((congrFun (congrFun e190 662) o0).symm.trans q))) (by decide))), rfl, rfl⟩⟩)
              · skip
                have h193 : Rg 0 0 (hp_I S169 662 o0) := rg_eq_l (gi_I (k := 662) hG170 (oa_af h0 hA172) 0 1) (⟨by decide, by decide⟩ : Rg 0 0 0) q178
                refine tt_iload_n (j := 0) dX10_readPlaces_129 rfl ?_
                refine tt_bipush (v := 8) dX10_readPlaces_130 rfl ?_
                refine tt_icmp_lt (tgt := 148) dX10_readPlaces_132 rfl (fun q194 => ?_) (fun q194 => ?_)
                · skip
                  have h195 : Rg (-2147483648) 7 x177 := rg_lt_l (rg_all x177) (⟨by decide, by decide⟩ : Rg 8 8 8) q194
                  refine tt_iconst (v := 1) dX10_readPlaces_148 rfl ?_
                  refine tt_goto (tgt := 153) dX10_readPlaces_149 rfl ?_
                  refine gt_pI (id := 662) (x := 1) dX10_readPlaces_153 fl_10_84 rfl rfl h0 hA172 rfl rfl rfl (gp_Ir hG170 (⟨by decide, by decide⟩ : Rg 1 1 1)) (by decide) (fun _ _ q => absurd q (by decide)) (fun h => absurd h (by decide)) (fun S196 hG197 hA198 e199 f200 er201 => ?_)
                  refine tt_aload_n (j := 2) dX10_readPlaces_156 rfl ?_
                  refine tt_bipush (v := 15) dX10_readPlaces_157 rfl ?_
                  refine tt_iload_n (j := 0) dX10_readPlaces_159 rfl ?_
                  refine tt_bipush (v := 8) dX10_readPlaces_160 rfl ?_
                  refine tt_idiv dX10_readPlaces_162 (by decide) (gt_ti (fun x202 => ?_))
                  refine tt_iadd dX10_readPlaces_163 ?_
                  refine gt_pI (id := 673) (x := (15 + x202)) dX10_readPlaces_164 fl_10_100 rfl rfl h0 hA198 rfl rfl rfl (gp_I hG197) (by decide) (fun h => absurd h (by decide)) (fun h => absurd h (by decide)) (fun S203 hG204 hA205 e206 f207 er208 => ?_)
                  refine tt_goto (tgt := 175) dX10_readPlaces_167 rfl ?_
                  exact tt_vreturn dX10_readPlaces_175 rfl (hP _ _ _ _ ⟨hG204, hA205, Or.inl ⟨_, rfl, rfl, (fun q => (absurd (((congrFun (congrFun e199 662) o0).trans up2_self).symm.trans ((congrFun (up2_ne (k := 662)) o0).symm.trans ((congrFun (congrFun e206 662) o0).symm.trans q))) (by decide))), rfl, rfl⟩⟩)
                · skip
                  have h209 : Rg 8 2147483647 x177 := rg_le_r (⟨by decide, by decide⟩ : Rg 8 8 8) (rg_all x177) (nlt_le q194)
                  refine tt_iload_n (j := 0) dX10_readPlaces_135 rfl ?_
                  refine tt_bipush (v := 64) dX10_readPlaces_136 rfl ?_
                  refine tt_icmp_gt (tgt := 148) dX10_readPlaces_138 rfl (fun q210 => ?_) (fun q210 => ?_)
                  · skip
                    have h211 : Rg 65 2147483647 x177 := rg_lt_r (⟨by decide, by decide⟩ : Rg 64 64 64) h209 q210
                    refine tt_iconst (v := 1) dX10_readPlaces_148 rfl ?_
                    refine tt_goto (tgt := 153) dX10_readPlaces_149 rfl ?_
                    refine gt_pI (id := 662) (x := 1) dX10_readPlaces_153 fl_10_84 rfl rfl h0 hA172 rfl rfl rfl (gp_Ir hG170 (⟨by decide, by decide⟩ : Rg 1 1 1)) (by decide) (fun _ _ q => absurd q (by decide)) (fun h => absurd h (by decide)) (fun S212 hG213 hA214 e215 f216 er217 => ?_)
                    refine tt_aload_n (j := 2) dX10_readPlaces_156 rfl ?_
                    refine tt_bipush (v := 15) dX10_readPlaces_157 rfl ?_
                    refine tt_iload_n (j := 0) dX10_readPlaces_159 rfl ?_
                    refine tt_bipush (v := 8) dX10_readPlaces_160 rfl ?_
                    refine tt_idiv dX10_readPlaces_162 (by decide) ?_
                    refine tt_iadd dX10_readPlaces_163 ?_
                    refine gt_pI (id := 673) (x := (15 + (x177 / 8))) dX10_readPlaces_164 fl_10_100 rfl rfl h0 hA214 rfl rfl rfl (gp_I hG213) (by decide) (fun h => absurd h (by decide)) (fun h => absurd h (by decide)) (fun S218 hG219 hA220 e221 f222 er223 => ?_)
                    refine tt_goto (tgt := 175) dX10_readPlaces_167 rfl ?_
                    exact tt_vreturn dX10_readPlaces_175 rfl (hP _ _ _ _ ⟨hG219, hA220, Or.inl ⟨_, rfl, rfl, (fun q => (absurd (((congrFun (congrFun e215 662) o0).trans up2_self).symm.trans ((congrFun (up2_ne (k := 662)) o0).symm.trans ((congrFun (congrFun e221 662) o0).symm.trans q))) (by decide))), rfl, rfl⟩⟩)
                  · skip
                    have h224 : Rg 8 64 x177 := rg_le_l h209 (⟨by decide, by decide⟩ : Rg 64 64 64) (nlt_le q210)
                    refine tt_iload_n (j := 0) dX10_readPlaces_141 rfl ?_
                    refine tt_bipush (v := 8) dX10_readPlaces_142 rfl ?_
                    refine tt_irem dX10_readPlaces_144 (by decide) (gt_ti (fun x225 => ?_))
                    refine tt_if_eq (tgt := 152) dX10_readPlaces_145 rfl (fun q226 => ?_) (fun q226 => ?_)
                    · skip
                      have h227 : Rg 0 0 x225 := rg_eq_l (rg_all x225) (⟨by decide, by decide⟩ : Rg 0 0 0) q226
                      refine tt_iconst (v := 0) dX10_readPlaces_152 rfl ?_
                      refine gt_pI (id := 662) (x := 0) dX10_readPlaces_153 fl_10_84 rfl rfl h0 hA172 rfl rfl rfl (gp_Ir hG170 (⟨by decide, by decide⟩ : Rg 0 0 0)) (by decide) (fun _ _ _ => (rg_eqc h193)) (fun h => absurd h (by decide)) (fun S228 hG229 hA230 e231 f232 er233 => ?_)
                      refine tt_aload_n (j := 2) dX10_readPlaces_156 rfl ?_
                      refine tt_bipush (v := 15) dX10_readPlaces_157 rfl ?_
                      refine tt_iload_n (j := 0) dX10_readPlaces_159 rfl ?_
                      refine tt_bipush (v := 8) dX10_readPlaces_160 rfl ?_
                      refine tt_idiv dX10_readPlaces_162 (by decide) ?_
                      refine tt_iadd dX10_readPlaces_163 ?_
                      refine gt_pI (id := 673) (x := (15 + (x177 / 8))) dX10_readPlaces_164 fl_10_100 rfl rfl h0 hA230 rfl rfl rfl (gp_I hG229) (by decide) (fun h => absurd h (by decide)) (fun h => absurd h (by decide)) (fun S234 hG235 hA236 e237 f238 er239 => ?_)
                      refine tt_goto (tgt := 175) dX10_readPlaces_167 rfl ?_
                      exact tt_vreturn dX10_readPlaces_175 rfl (hP _ _ _ _ ⟨hG235, hA236, Or.inl ⟨_, rfl, rfl, (fun _ => rg_cast (by rw [e237]; exact up2_self) (rg_w (rg_add (lo := 16) (hi := 23) (⟨by decide, by decide⟩ : Rg 15 15 15) (rg_div (lo := 1) (hi := 8) h224 (y := 8))))), rfl, rfl⟩⟩)
                    · skip
                      refine tt_iconst (v := 1) dX10_readPlaces_148 rfl ?_
                      refine tt_goto (tgt := 153) dX10_readPlaces_149 rfl ?_
                      refine gt_pI (id := 662) (x := 1) dX10_readPlaces_153 fl_10_84 rfl rfl h0 hA172 rfl rfl rfl (gp_Ir hG170 (⟨by decide, by decide⟩ : Rg 1 1 1)) (by decide) (fun _ _ q => absurd q (by decide)) (fun h => absurd h (by decide)) (fun S240 hG241 hA242 e243 f244 er245 => ?_)
                      refine tt_aload_n (j := 2) dX10_readPlaces_156 rfl ?_
                      refine tt_bipush (v := 15) dX10_readPlaces_157 rfl ?_
                      refine tt_iload_n (j := 0) dX10_readPlaces_159 rfl ?_
                      refine tt_bipush (v := 8) dX10_readPlaces_160 rfl ?_
                      refine tt_idiv dX10_readPlaces_162 (by decide) ?_
                      refine tt_iadd dX10_readPlaces_163 ?_
                      refine gt_pI (id := 673) (x := (15 + (x177 / 8))) dX10_readPlaces_164 fl_10_100 rfl rfl h0 hA242 rfl rfl rfl (gp_I hG241) (by decide) (fun h => absurd h (by decide)) (fun h => absurd h (by decide)) (fun S246 hG247 hA248 e249 f250 er251 => ?_)
                      refine tt_goto (tgt := 175) dX10_readPlaces_167 rfl ?_
                      exact tt_vreturn dX10_readPlaces_175 rfl (hP _ _ _ _ ⟨hG247, hA248, Or.inl ⟨_, rfl, rfl, (fun _ => rg_cast (by rw [e249]; exact up2_self) (rg_w (rg_add (lo := 16) (hi := 23) (⟨by decide, by decide⟩ : Rg 15 15 15) (rg_div (lo := 1) (hi := 8) h224 (y := 8))))), rfl, rfl⟩⟩)
    · skip
      have h252 : Rg 3 3 (x106 >>> (6 &&& 31)) := rg_eq_l (rg_all (x106 >>> (6 &&& 31))) (⟨by decide, by decide⟩ : Rg 3 3 3) q134
      refine tt_aload_n (j := 1) dX10_readPlaces_60 rfl ?_
      refine tt_aload_n (j := 1) dX10_readPlaces_61 rfl ?_
      refine gt_gI (id := 673) (v := (x106 &&& 7)) dX10_readPlaces_62 fl_10_100 rfl rfl h0 hA130 (by rw [e131]; exact up2_self) ?_
      refine tt_iload_n (j := 2) dX10_readPlaces_65 rfl ?_
      refine tt_iconst (v := 1) dX10_readPlaces_66 rfl ?_
      refine tt_iand dX10_readPlaces_67 ?_
      refine tt_if_eq (tgt := 76) dX10_readPlaces_68 rfl (fun q253 => ?_) (fun q253 => ?_)
      · skip
        have h254 : Rg 0 0 (x1 &&& 1) := rg_eq_l (rg_and (x := x1) (⟨by decide, by decide⟩ : Rg 1 1 1)) (⟨by decide, by decide⟩ : Rg 0 0 0) q253
        refine tt_iconst (v := 0) dX10_readPlaces_76 rfl ?_
        refine tt_iadd dX10_readPlaces_77 ?_
        refine gt_pI (id := 673) (x := ((x106 &&& 7) + 0)) dX10_readPlaces_78 fl_10_100 rfl rfl h0 hA130 rfl rfl rfl (gp_I hG129) (by decide) (fun h => absurd h (by decide)) (fun h => absurd h (by decide)) (fun S255 hG256 hA257 e258 f259 er260 => ?_)
        refine tt_goto (tgt := 175) dX10_readPlaces_81 rfl ?_
        exact tt_vreturn dX10_readPlaces_175 rfl (hP _ _ _ _ ⟨hG256, hA257, Or.inl ⟨_, rfl, rfl, (fun _ => rg_cast (by rw [e258]; exact up2_self) (rg_w (rg_add (lo := 0) (hi := 7) (rg_and (x := x106) (⟨by decide, by decide⟩ : Rg 7 7 7)) (⟨by decide, by decide⟩ : Rg 0 0 0)))), rfl, rfl⟩⟩)
      · skip
        have h261 : Rg 1 1 (x1 &&& 1) := rg_ne_lo (rg_and (x := x1) (⟨by decide, by decide⟩ : Rg 1 1 1)) (⟨by decide, by decide⟩ : Rg 0 0 0) q253
        refine tt_bipush (v := 8) dX10_readPlaces_71 rfl ?_
        refine tt_goto (tgt := 77) dX10_readPlaces_73 rfl ?_
        refine tt_iadd dX10_readPlaces_77 ?_
        refine gt_pI (id := 673) (x := ((x106 &&& 7) + 8)) dX10_readPlaces_78 fl_10_100 rfl rfl h0 hA130 rfl rfl rfl (gp_I hG129) (by decide) (fun h => absurd h (by decide)) (fun h => absurd h (by decide)) (fun S262 hG263 hA264 e265 f266 er267 => ?_)
        refine tt_goto (tgt := 175) dX10_readPlaces_81 rfl ?_
        exact tt_vreturn dX10_readPlaces_175 rfl (hP _ _ _ _ ⟨hG263, hA264, Or.inl ⟨_, rfl, rfl, (fun _ => rg_cast (by rw [e265]; exact up2_self) (rg_w (rg_add (lo := 8) (hi := 15) (rg_and (x := x106) (⟨by decide, by decide⟩ : Rg 7 7 7)) (⟨by decide, by decide⟩ : Rg 8 8 8)))), rfl, rfl⟩⟩)
  · skip
    have h268 : Rg 1 4 (x1 &&& 4) := rg_ne_lo (rg_and (x := x1) (⟨by decide, by decide⟩ : Rg 4 4 4)) (⟨by decide, by decide⟩ : Rg 0 0 0) q120
    refine tt_bipush (v := 8) dX10_readPlaces_34 rfl ?_
    refine tt_goto (tgt := 40) dX10_readPlaces_36 rfl ?_
    refine tt_iadd dX10_readPlaces_40 ?_
    refine gt_pI (id := 672) (x := (((x106 >>> (3 &&& 31)) &&& 7) + 8)) dX10_readPlaces_41 fl_10_97 rfl rfl h0 hA116 rfl rfl rfl (gp_Ir hG115 (rg_add (lo := 8) (hi := 15) (rg_and (x := (x106 >>> (3 &&& 31))) (⟨by decide, by decide⟩ : Rg 7 7 7)) (⟨by decide, by decide⟩ : Rg 8 8 8))) (by decide) (fun h => absurd h (by decide)) (fun h => absurd h (by decide)) (fun S269 hG270 hA271 e272 f273 er274 => ?_)
    refine tt_aload_n (j := 1) dX10_readPlaces_44 rfl ?_
    refine tt_iload_n (j := 0) dX10_readPlaces_45 rfl ?_
    refine tt_bipush (v := 7) dX10_readPlaces_46 rfl ?_
    refine tt_iand dX10_readPlaces_48 ?_
    refine gt_pI (id := 673) (x := (x106 &&& 7)) dX10_readPlaces_49 fl_10_100 rfl rfl h0 hA271 rfl rfl rfl (gp_I hG270) (by decide) (fun h => absurd h (by decide)) (fun h => absurd h (by decide)) (fun S275 hG276 hA277 e278 f279 er280 => ?_)
    refine tt_aload_n (j := 1) dX10_readPlaces_52 rfl ?_
    refine gt_gI (id := 675) (v := (x106 >>> (6 &&& 31))) dX10_readPlaces_53 fl_10_91 rfl rfl h0 hA277 ((congrFun (congrFun e278 675) o0).trans ((congrFun (up2_ne (k := 675)) o0).trans ((congrFun (congrFun e272 675) o0).trans ((congrFun (up2_ne (k := 675)) o0).trans ((congrFun (congrFun e117 675) o0).trans ((congrFun (up2_ne (k := 675)) o0).trans (by rw [e111]; exact up2_self))))))) ?_
    refine tt_iconst (v := 3) dX10_readPlaces_56 rfl ?_
    refine tt_icmp_ne (tgt := 84) dX10_readPlaces_57 rfl (fun q281 => ?_) (fun q281 => ?_)
    · skip
      refine tt_aload_n (j := 1) dX10_readPlaces_84 rfl ?_
      refine gt_gI (id := 675) (v := (x106 >>> (6 &&& 31))) dX10_readPlaces_85 fl_10_91 rfl rfl h0 hA277 ((congrFun (congrFun e278 675) o0).trans ((congrFun (up2_ne (k := 675)) o0).trans ((congrFun (congrFun e272 675) o0).trans ((congrFun (up2_ne (k := 675)) o0).trans ((congrFun (congrFun e117 675) o0).trans ((congrFun (up2_ne (k := 675)) o0).trans (by rw [e111]; exact up2_self))))))) ?_
      refine tt_iconst (v := 1) dX10_readPlaces_88 rfl ?_
      refine tt_icmp_ne (tgt := 170) dX10_readPlaces_89 rfl (fun q282 => ?_) (fun q282 => ?_)
      · skip
        refine tt_aload_n (j := 1) dX10_readPlaces_170 rfl ?_
        refine tt_iconst (v := 1) dX10_readPlaces_171 rfl ?_
        refine gt_pI (id := 662) (x := 1) dX10_readPlaces_172 fl_10_84 rfl rfl h0 hA277 rfl rfl rfl (gp_Ir hG276 (⟨by decide, by decide⟩ : Rg 1 1 1)) (by decide) (fun _ _ q => absurd q (by decide)) (fun h => absurd h (by decide)) (fun S283 hG284 hA285 e286 f287 er288 => ?_)
        exact tt_vreturn dX10_readPlaces_175 rfl (hP _ _ _ _ ⟨hG284, hA285, Or.inl ⟨_, rfl, rfl, (fun _ => rg_cast ((congrFun (congrFun e286 673) o0).trans ((congrFun (up2_ne (k := 673)) o0).trans (by rw [e278]; exact up2_self))) (rg_w (rg_and (x := x106) (⟨by decide, by decide⟩ : Rg 7 7 7)))), rfl, rfl⟩⟩)
      · skip
        have h289 : Rg 1 1 (x106 >>> (6 &&& 31)) := rg_eq_l (rg_all (x106 >>> (6 &&& 31))) (⟨by decide, by decide⟩ : Rg 1 1 1) q282
        refine tt_aload_n (j := 1) dX10_readPlaces_92 rfl ?_
        refine gt_gI (id := 673) (v := (x106 &&& 7)) dX10_readPlaces_93 fl_10_100 rfl rfl h0 hA277 (by rw [e278]; exact up2_self) ?_
        refine tt_iconst (v := 5) dX10_readPlaces_96 rfl ?_
        refine tt_icmp_ne (tgt := 170) dX10_readPlaces_97 rfl (fun q290 => ?_) (fun q290 => ?_)
        · skip
          refine tt_aload_n (j := 1) dX10_readPlaces_170 rfl ?_
          refine tt_iconst (v := 1) dX10_readPlaces_171 rfl ?_
          refine gt_pI (id := 662) (x := 1) dX10_readPlaces_172 fl_10_84 rfl rfl h0 hA277 rfl rfl rfl (gp_Ir hG276 (⟨by decide, by decide⟩ : Rg 1 1 1)) (by decide) (fun _ _ q => absurd q (by decide)) (fun h => absurd h (by decide)) (fun S291 hG292 hA293 e294 f295 er296 => ?_)
          exact tt_vreturn dX10_readPlaces_175 rfl (hP _ _ _ _ ⟨hG292, hA293, Or.inl ⟨_, rfl, rfl, (fun _ => rg_cast ((congrFun (congrFun e294 673) o0).trans ((congrFun (up2_ne (k := 673)) o0).trans (by rw [e278]; exact up2_self))) (rg_w (rg_and (x := x106) (⟨by decide, by decide⟩ : Rg 7 7 7)))), rfl, rfl⟩⟩)
        · skip
          have h297 : Rg 5 5 (x106 &&& 7) := rg_eq_l (rg_and (x := x106) (⟨by decide, by decide⟩ : Rg 7 7 7)) (⟨by decide, by decide⟩ : Rg 5 5 5) q290
          refine tt_iload_n (j := 2) dX10_readPlaces_100 rfl ?_
          refine tt_iconst (v := 1) dX10_readPlaces_101 rfl ?_
          refine tt_iand dX10_readPlaces_102 ?_
          refine tt_if_ne (tgt := 170) dX10_readPlaces_103 rfl (fun q298 => ?_) (fun q298 => ?_)
          · skip
            have h299 : Rg 1 1 (x1 &&& 1) := rg_ne_lo (rg_and (x := x1) (⟨by decide, by decide⟩ : Rg 1 1 1)) (⟨by decide, by decide⟩ : Rg 0 0 0) q298
            refine tt_aload_n (j := 1) dX10_readPlaces_170 rfl ?_
            refine tt_iconst (v := 1) dX10_readPlaces_171 rfl ?_
            refine gt_pI (id := 662) (x := 1) dX10_readPlaces_172 fl_10_84 rfl rfl h0 hA277 rfl rfl rfl (gp_Ir hG276 (⟨by decide, by decide⟩ : Rg 1 1 1)) (by decide) (fun _ _ q => absurd q (by decide)) (fun h => absurd h (by decide)) (fun S300 hG301 hA302 e303 f304 er305 => ?_)
            exact tt_vreturn dX10_readPlaces_175 rfl (hP _ _ _ _ ⟨hG301, hA302, Or.inl ⟨_, rfl, rfl, (fun _ => rg_cast ((congrFun (congrFun e303 673) o0).trans ((congrFun (up2_ne (k := 673)) o0).trans (by rw [e278]; exact up2_self))) (rg_w h297)), rfl, rfl⟩⟩)
          · skip
            have h306 : Rg 0 0 (x1 &&& 1) := rg_eq_l (rg_and (x := x1) (⟨by decide, by decide⟩ : Rg 1 1 1)) (⟨by decide, by decide⟩ : Rg 0 0 0) q298
            refine tt_iload_n (j := 2) dX10_readPlaces_106 rfl ?_
            refine tt_bipush (v := 8) dX10_readPlaces_107 rfl ?_
            refine tt_iand dX10_readPlaces_109 ?_
            refine tt_if_eq (tgt := 170) dX10_readPlaces_110 rfl (fun q307 => ?_) (fun q307 => ?_)
            · skip
              have h308 : Rg 0 0 (x1 &&& 8) := rg_eq_l (rg_and (x := x1) (⟨by decide, by decide⟩ : Rg 8 8 8)) (⟨by decide, by decide⟩ : Rg 0 0 0) q307
              refine tt_aload_n (j := 1) dX10_readPlaces_170 rfl ?_
              refine tt_iconst (v := 1) dX10_readPlaces_171 rfl ?_
              refine gt_pI (id := 662) (x := 1) dX10_readPlaces_172 fl_10_84 rfl rfl h0 hA277 rfl rfl rfl (gp_Ir hG276 (⟨by decide, by decide⟩ : Rg 1 1 1)) (by decide) (fun _ _ q => absurd q (by decide)) (fun h => absurd h (by decide)) (fun S309 hG310 hA311 e312 f313 er314 => ?_)
              exact tt_vreturn dX10_readPlaces_175 rfl (hP _ _ _ _ ⟨hG310, hA311, Or.inl ⟨_, rfl, rfl, (fun _ => rg_cast ((congrFun (congrFun e312 673) o0).trans ((congrFun (up2_ne (k := 673)) o0).trans (by rw [e278]; exact up2_self))) (rg_w h297)), rfl, rfl⟩⟩)
            · skip
              have h315 : Rg 1 8 (x1 &&& 8) := rg_ne_lo (rg_and (x := x1) (⟨by decide, by decide⟩ : Rg 8 8 8)) (⟨by decide, by decide⟩ : Rg 0 0 0) q307
              refine tt_aload_n (j := 1) dX10_readPlaces_113 rfl ?_
              refine tt_iconst (v := 1) dX10_readPlaces_114 rfl ?_
              refine gt_VJ (As := [.int 1]) dX10_readPlaces_115 ca_X10_103 ⟨by decide, by decide⟩ h0 hA277 rfl (Nat.le_of_ble_eq_true rfl) (Nat.le_of_ble_eq_true rfl) (by decide) (cs_X10_number hG276 (oa_af h0 hA277) (fun _ _ _ _ h => h)) rfl (fun _ h => nomatch h) (fun S316 y321 hx320 hG317 hB318 hA319 => ?_)
              refine tt_l2i dX10_readPlaces_118 (gt_ti (fun x323 => ?_))
              refine tt_ineg dX10_readPlaces_119 (gt_ti (fun x324 => ?_))
              refine tt_istore_n (ks := [0, 1, 2, 3]) (L' := [(3, .int x324), (2, .int x106), (0, .ref o0), (1, .int x1)]) dX10_readPlaces_120 (by decide) rfl ?_
              refine tt_aload_n (j := 2) dX10_readPlaces_121 rfl ?_
              refine tt_aload_n (j := 2) dX10_readPlaces_122 rfl ?_
              refine tt_getI (id := 662) dX10_readPlaces_123 fl_10_84 rfl rfl (ob_af h0 hA319) ?_
              refine tt_if_ne (tgt := 148) dX10_readPlaces_126 rfl (fun q325 => ?_) (fun q325 => ?_)
              · skip
                have h326 : Rg 1 1 (hp_I S316 662 o0) := rg_ne_lo (gi_I (k := 662) hG317 (oa_af h0 hA319) 0 1) (⟨by decide, by decide⟩ : Rg 0 0 0) q325
                refine tt_iconst (v := 1) dX10_readPlaces_148 rfl ?_
                refine tt_goto (tgt := 153) dX10_readPlaces_149 rfl ?_
                refine gt_pI (id := 662) (x := 1) dX10_readPlaces_153 fl_10_84 rfl rfl h0 hA319 rfl rfl rfl (gp_Ir hG317 (⟨by decide, by decide⟩ : Rg 1 1 1)) (by decide) (fun _ _ q => absurd q (by decide)) (fun h => absurd h (by decide)) (fun S327 hG328 hA329 e330 f331 er332 => ?_)
                refine tt_aload_n (j := 2) dX10_readPlaces_156 rfl ?_
                refine tt_bipush (v := 15) dX10_readPlaces_157 rfl ?_
                refine tt_iload_n (j := 0) dX10_readPlaces_159 rfl ?_
                refine tt_bipush (v := 8) dX10_readPlaces_160 rfl ?_
                refine tt_idiv dX10_readPlaces_162 (by decide) (gt_ti (fun x333 => ?_))
                refine tt_iadd dX10_readPlaces_163 ?_
                refine gt_pI (id := 673) (x := (15 + x333)) dX10_readPlaces_164 fl_10_100 rfl rfl h0 hA329 rfl rfl rfl (gp_I hG328) (by decide) (fun h => absurd h (by decide)) (fun h => absurd h (by decide)) (fun S334 hG335 hA336 e337 f338 er339 => ?_)
                refine tt_goto (tgt := 175) dX10_readPlaces_167 rfl ?_
                exact tt_vreturn dX10_readPlaces_175 rfl (hP _ _ _ _ ⟨hG335, hA336, Or.inl ⟨_, rfl, rfl, (fun q => (absurd (((congrFun (congrFun e330 662) o0).trans up2_self).symm.trans ((congrFun (up2_ne (k := 662)) o0).symm.trans ((congrFun (congrFun e337 662) o0).symm.trans q))) (by decide))), rfl, rfl⟩⟩)
              · skip
                have h340 : Rg 0 0 (hp_I S316 662 o0) := rg_eq_l (gi_I (k := 662) hG317 (oa_af h0 hA319) 0 1) (⟨by decide, by decide⟩ : Rg 0 0 0) q325
                refine tt_iload_n (j := 0) dX10_readPlaces_129 rfl ?_
                refine tt_bipush (v := 8) dX10_readPlaces_130 rfl ?_
                refine tt_icmp_lt (tgt := 148) dX10_readPlaces_132 rfl (fun q341 => ?_) (fun q341 => ?_)
                · skip
                  have h342 : Rg (-2147483648) 7 x324 := rg_lt_l (rg_all x324) (⟨by decide, by decide⟩ : Rg 8 8 8) q341
                  refine tt_iconst (v := 1) dX10_readPlaces_148 rfl ?_
                  refine tt_goto (tgt := 153) dX10_readPlaces_149 rfl ?_
                  refine gt_pI (id := 662) (x := 1) dX10_readPlaces_153 fl_10_84 rfl rfl h0 hA319 rfl rfl rfl (gp_Ir hG317 (⟨by decide, by decide⟩ : Rg 1 1 1)) (by decide) (fun _ _ q => absurd q (by decide)) (fun h => absurd h (by decide)) (fun S343 hG344 hA345 e346 f347 er348 => ?_)
                  refine tt_aload_n (j := 2) dX10_readPlaces_156 rfl ?_
                  refine tt_bipush (v := 15) dX10_readPlaces_157 rfl ?_
                  refine tt_iload_n (j := 0) dX10_readPlaces_159 rfl ?_
                  refine tt_bipush (v := 8) dX10_readPlaces_160 rfl ?_
                  refine tt_idiv dX10_readPlaces_162 (by decide) (gt_ti (fun x349 => ?_))
                  refine tt_iadd dX10_readPlaces_163 ?_
                  refine gt_pI (id := 673) (x := (15 + x349)) dX10_readPlaces_164 fl_10_100 rfl rfl h0 hA345 rfl rfl rfl (gp_I hG344) (by decide) (fun h => absurd h (by decide)) (fun h => absurd h (by decide)) (fun S350 hG351 hA352 e353 f354 er355 => ?_)
                  refine tt_goto (tgt := 175) dX10_readPlaces_167 rfl ?_
                  exact tt_vreturn dX10_readPlaces_175 rfl (hP _ _ _ _ ⟨hG351, hA352, Or.inl ⟨_, rfl, rfl, (fun q => (absurd (((congrFun (congrFun e346 662) o0).trans up2_self).symm.trans ((congrFun (up2_ne (k := 662)) o0).symm.trans ((congrFun (congrFun e353 662) o0).symm.trans q))) (by decide))), rfl, rfl⟩⟩)
                · skip
                  have h356 : Rg 8 2147483647 x324 := rg_le_r (⟨by decide, by decide⟩ : Rg 8 8 8) (rg_all x324) (nlt_le q341)
                  refine tt_iload_n (j := 0) dX10_readPlaces_135 rfl ?_
                  refine tt_bipush (v := 64) dX10_readPlaces_136 rfl ?_
                  refine tt_icmp_gt (tgt := 148) dX10_readPlaces_138 rfl (fun q357 => ?_) (fun q357 => ?_)
                  · skip
                    have h358 : Rg 65 2147483647 x324 := rg_lt_r (⟨by decide, by decide⟩ : Rg 64 64 64) h356 q357
                    refine tt_iconst (v := 1) dX10_readPlaces_148 rfl ?_
                    refine tt_goto (tgt := 153) dX10_readPlaces_149 rfl ?_
                    refine gt_pI (id := 662) (x := 1) dX10_readPlaces_153 fl_10_84 rfl rfl h0 hA319 rfl rfl rfl (gp_Ir hG317 (⟨by decide, by decide⟩ : Rg 1 1 1)) (by decide) (fun _ _ q => absurd q (by decide)) (fun h => absurd h (by decide)) (fun S359 hG360 hA361 e362 f363 er364 => ?_)
                    refine tt_aload_n (j := 2) dX10_readPlaces_156 rfl ?_
                    refine tt_bipush (v := 15) dX10_readPlaces_157 rfl ?_
                    refine tt_iload_n (j := 0) dX10_readPlaces_159 rfl ?_
                    refine tt_bipush (v := 8) dX10_readPlaces_160 rfl ?_
                    refine tt_idiv dX10_readPlaces_162 (by decide) ?_
                    refine tt_iadd dX10_readPlaces_163 ?_
                    refine gt_pI (id := 673) (x := (15 + (x324 / 8))) dX10_readPlaces_164 fl_10_100 rfl rfl h0 hA361 rfl rfl rfl (gp_I hG360) (by decide) (fun h => absurd h (by decide)) (fun h => absurd h (by decide)) (fun S365 hG366 hA367 e368 f369 er370 => ?_)
                    refine tt_goto (tgt := 175) dX10_readPlaces_167 rfl ?_
                    exact tt_vreturn dX10_readPlaces_175 rfl (hP _ _ _ _ ⟨hG366, hA367, Or.inl ⟨_, rfl, rfl, (fun q => (absurd (((congrFun (congrFun e362 662) o0).trans up2_self).symm.trans ((congrFun (up2_ne (k := 662)) o0).symm.trans ((congrFun (congrFun e368 662) o0).symm.trans q))) (by decide))), rfl, rfl⟩⟩)
                  · skip
                    have h371 : Rg 8 64 x324 := rg_le_l h356 (⟨by decide, by decide⟩ : Rg 64 64 64) (nlt_le q357)
                    refine tt_iload_n (j := 0) dX10_readPlaces_141 rfl ?_
                    refine tt_bipush (v := 8) dX10_readPlaces_142 rfl ?_
                    refine tt_irem dX10_readPlaces_144 (by decide) (gt_ti (fun x372 => ?_))
                    refine tt_if_eq (tgt := 152) dX10_readPlaces_145 rfl (fun q373 => ?_) (fun q373 => ?_)
                    · skip
                      have h374 : Rg 0 0 x372 := rg_eq_l (rg_all x372) (⟨by decide, by decide⟩ : Rg 0 0 0) q373
                      refine tt_iconst (v := 0) dX10_readPlaces_152 rfl ?_
                      refine gt_pI (id := 662) (x := 0) dX10_readPlaces_153 fl_10_84 rfl rfl h0 hA319 rfl rfl rfl (gp_Ir hG317 (⟨by decide, by decide⟩ : Rg 0 0 0)) (by decide) (fun _ _ _ => (rg_eqc h340)) (fun h => absurd h (by decide)) (fun S375 hG376 hA377 e378 f379 er380 => ?_)
                      refine tt_aload_n (j := 2) dX10_readPlaces_156 rfl ?_
                      refine tt_bipush (v := 15) dX10_readPlaces_157 rfl ?_
                      refine tt_iload_n (j := 0) dX10_readPlaces_159 rfl ?_
                      refine tt_bipush (v := 8) dX10_readPlaces_160 rfl ?_
                      refine tt_idiv dX10_readPlaces_162 (by decide) ?_
                      refine tt_iadd dX10_readPlaces_163 ?_
                      refine gt_pI (id := 673) (x := (15 + (x324 / 8))) dX10_readPlaces_164 fl_10_100 rfl rfl h0 hA377 rfl rfl rfl (gp_I hG376) (by decide) (fun h => absurd h (by decide)) (fun h => absurd h (by decide)) (fun S381 hG382 hA383 e384 f385 er386 => ?_)
                      refine tt_goto (tgt := 175) dX10_readPlaces_167 rfl ?_
                      exact tt_vreturn dX10_readPlaces_175 rfl (hP _ _ _ _ ⟨hG382, hA383, Or.inl ⟨_, rfl, rfl, (fun _ => rg_cast (by rw [e384]; exact up2_self) (rg_w (rg_add (lo := 16) (hi := 23) (⟨by decide, by decide⟩ : Rg 15 15 15) (rg_div (lo := 1) (hi := 8) h371 (y := 8))))), rfl, rfl⟩⟩)
                    · skip
                      refine tt_iconst (v := 1) dX10_readPlaces_148 rfl ?_
                      refine tt_goto (tgt := 153) dX10_readPlaces_149 rfl ?_
                      refine gt_pI (id := 662) (x := 1) dX10_readPlaces_153 fl_10_84 rfl rfl h0 hA319 rfl rfl rfl (gp_Ir hG317 (⟨by decide, by decide⟩ : Rg 1 1 1)) (by decide) (fun _ _ q => absurd q (by decide)) (fun h => absurd h (by decide)) (fun S387 hG388 hA389 e390 f391 er392 => ?_)
                      refine tt_aload_n (j := 2) dX10_readPlaces_156 rfl ?_
                      refine tt_bipush (v := 15) dX10_readPlaces_157 rfl ?_
                      refine tt_iload_n (j := 0) dX10_readPlaces_159 rfl ?_
                      refine tt_bipush (v := 8) dX10_readPlaces_160 rfl ?_
                      refine tt_idiv dX10_readPlaces_162 (by decide) ?_
                      refine tt_iadd dX10_readPlaces_163 ?_
                      refine gt_pI (id := 673) (x := (15 + (x324 / 8))) dX10_readPlaces_164 fl_10_100 rfl rfl h0 hA389 rfl rfl rfl (gp_I hG388) (by decide) (fun h => absurd h (by decide)) (fun h => absurd h (by decide)) (fun S393 hG394 hA395 e396 f397 er398 => ?_)
                      refine tt_goto (tgt := 175) dX10_readPlaces_167 rfl ?_
                      exact tt_vreturn dX10_readPlaces_175 rfl (hP _ _ _ _ ⟨hG394, hA395, Or.inl ⟨_, rfl, rfl, (fun _ => rg_cast (by rw [e396]; exact up2_self) (rg_w (rg_add (lo := 16) (hi := 23) (⟨by decide, by decide⟩ : Rg 15 15 15) (rg_div (lo := 1) (hi := 8) h371 (y := 8))))), rfl, rfl⟩⟩)
    · skip
      have h399 : Rg 3 3 (x106 >>> (6 &&& 31)) := rg_eq_l (rg_all (x106 >>> (6 &&& 31))) (⟨by decide, by decide⟩ : Rg 3 3 3) q281
      refine tt_aload_n (j := 1) dX10_readPlaces_60 rfl ?_
      refine tt_aload_n (j := 1) dX10_readPlaces_61 rfl ?_
      refine gt_gI (id := 673) (v := (x106 &&& 7)) dX10_readPlaces_62 fl_10_100 rfl rfl h0 hA277 (by rw [e278]; exact up2_self) ?_
      refine tt_iload_n (j := 2) dX10_readPlaces_65 rfl ?_
      refine tt_iconst (v := 1) dX10_readPlaces_66 rfl ?_
      refine tt_iand dX10_readPlaces_67 ?_
      refine tt_if_eq (tgt := 76) dX10_readPlaces_68 rfl (fun q400 => ?_) (fun q400 => ?_)
      · skip
        have h401 : Rg 0 0 (x1 &&& 1) := rg_eq_l (rg_and (x := x1) (⟨by decide, by decide⟩ : Rg 1 1 1)) (⟨by decide, by decide⟩ : Rg 0 0 0) q400
        refine tt_iconst (v := 0) dX10_readPlaces_76 rfl ?_
        refine tt_iadd dX10_readPlaces_77 ?_
        refine gt_pI (id := 673) (x := ((x106 &&& 7) + 0)) dX10_readPlaces_78 fl_10_100 rfl rfl h0 hA277 rfl rfl rfl (gp_I hG276) (by decide) (fun h => absurd h (by decide)) (fun h => absurd h (by decide)) (fun S402 hG403 hA404 e405 f406 er407 => ?_)
        refine tt_goto (tgt := 175) dX10_readPlaces_81 rfl ?_
        exact tt_vreturn dX10_readPlaces_175 rfl (hP _ _ _ _ ⟨hG403, hA404, Or.inl ⟨_, rfl, rfl, (fun _ => rg_cast (by rw [e405]; exact up2_self) (rg_w (rg_add (lo := 0) (hi := 7) (rg_and (x := x106) (⟨by decide, by decide⟩ : Rg 7 7 7)) (⟨by decide, by decide⟩ : Rg 0 0 0)))), rfl, rfl⟩⟩)
      · skip
        have h408 : Rg 1 1 (x1 &&& 1) := rg_ne_lo (rg_and (x := x1) (⟨by decide, by decide⟩ : Rg 1 1 1)) (⟨by decide, by decide⟩ : Rg 0 0 0) q400
        refine tt_bipush (v := 8) dX10_readPlaces_71 rfl ?_
        refine tt_goto (tgt := 77) dX10_readPlaces_73 rfl ?_
        refine tt_iadd dX10_readPlaces_77 ?_
        refine gt_pI (id := 673) (x := ((x106 &&& 7) + 8)) dX10_readPlaces_78 fl_10_100 rfl rfl h0 hA277 rfl rfl rfl (gp_I hG276) (by decide) (fun h => absurd h (by decide)) (fun h => absurd h (by decide)) (fun S409 hG410 hA411 e412 f413 er414 => ?_)
        refine tt_goto (tgt := 175) dX10_readPlaces_81 rfl ?_
        exact tt_vreturn dX10_readPlaces_175 rfl (hP _ _ _ _ ⟨hG410, hA411, Or.inl ⟨_, rfl, rfl, (fun _ => rg_cast (by rw [e412]; exact up2_self) (rg_w (rg_add (lo := 8) (hi := 15) (rg_and (x := x106) (⟨by decide, by decide⟩ : Rg 7 7 7)) (⟨by decide, by decide⟩ : Rg 8 8 8)))), rfl, rfl⟩⟩)
set_option maxHeartbeats 4000000 in
theorem cs_X10_take {xi : SX} {S : Hp} {E : List Nat} {kc nc : Nat} {P : Po} {o0 : Nat} {x1 : Int32} {x2 : Int32} {x3 : Int32} (hG : GI S E) (h0 : Oa S E 10 0 o0) (hP : ∀ r T x y, PV E [655, 657, 658] S kc nc rV (fun v T => (hp_I T 655 o0 = x1 ∧ hp_I T 657 o0 = x2 ∧ hp_I T 658 o0 = x3)) [] r T x y → P r T x y) : TT xi M_X10_take 0 [(0, .ref o0), (1, .int x1), (2, .int x2), (3, .int x3)] [] S kc nc P := by
  have hA : Af E [655, 657, 658] S S := af_rf
  refine tt_aload_n (j := 0) dX10_take_0 rfl ?_
  refine tt_iload_n (j := 1) dX10_take_1 rfl ?_
  refine gt_pI (id := 655) (x := x1) dX10_take_2 fl_10_107 rfl rfl h0 hA rfl rfl rfl (gp_I hG) (by decide) (fun h => absurd h (by decide)) (fun h => absurd h (by decide)) (fun S101 hG102 hA103 e104 f105 er106 => ?_)
  refine tt_aload_n (j := 0) dX10_take_5 rfl ?_
  refine tt_iload_n (j := 2) dX10_take_6 rfl ?_
  refine gt_pI (id := 657) (x := x2) dX10_take_7 fl_10_110 rfl rfl h0 hA103 rfl rfl rfl (gp_I hG102) (by decide) (fun h => absurd h (by decide)) (fun h => absurd h (by decide)) (fun S107 hG108 hA109 e110 f111 er112 => ?_)
  refine tt_aload_n (j := 0) dX10_take_10 rfl ?_
  refine tt_iload_n (j := 3) dX10_take_11 rfl ?_
  refine gt_pI (id := 658) (x := x3) dX10_take_12 fl_10_113 rfl rfl h0 hA109 rfl rfl rfl (gp_I hG108) (by decide) (fun h => absurd h (by decide)) (fun h => absurd h (by decide)) (fun S113 hG114 hA115 e116 f117 er118 => ?_)
  exact tt_vreturn dX10_take_15 rfl (hP _ _ _ _ ⟨hG114, hA115, Or.inl ⟨_, rfl, rfl, ⟨((congrFun (congrFun e116 655) o0).trans ((congrFun (up2_ne (k := 655)) o0).trans ((congrFun (congrFun e110 655) o0).trans ((congrFun (up2_ne (k := 655)) o0).trans (by rw [e104]; exact up2_self))))), ((congrFun (congrFun e116 657) o0).trans ((congrFun (up2_ne (k := 657)) o0).trans (by rw [e110]; exact up2_self))), (by rw [e116]; exact up2_self)⟩, rfl, rfl⟩⟩)
set_option maxHeartbeats 4000000 in
theorem cs_X10_isSimple {xi : SX} {S : Hp} {E : List Nat} {kc nc : Nat} {P : Po} {x0 : Int32} (hG : GI S E)  (hP : ∀ r T x y, PV E [] S kc nc (rI 0 1) (fun _ T => T = S) [] r T x y → P r T x y) : TT xi M_X10_isSimple 0 [(0, .int x0)] [] S kc nc P := by
  have hA : Af E [] S S := af_rf
  refine tt_iload_n (j := 0) dX10_isSimple_0 rfl ?_
  refine tt_iconst (v := 2) dX10_isSimple_1 rfl ?_
  have B101 : ∀ (x102 : Int32), Rg 0 1 x102 → TT xi M_X10_isSimple 15 [(0, .int x0)] [.int x102] S kc nc P := by
    intro x102 h103
    exact tt_ireturn dX10_isSimple_15 .boolean rfl (rg_nar (rg_w h103)) (hP _ _ _ _ ⟨hG, hA, Or.inl ⟨_, rfl, ⟨_, rfl, rg_w h103⟩, rfl, rfl, rfl⟩⟩)
  have B104 : TT xi M_X10_isSimple 14 [(0, .int x0)] [] S kc nc P := by
    refine tt_iconst (v := 0) dX10_isSimple_14 rfl ?_
    exact B101 0 (rg_w (⟨by decide, by decide⟩ : Rg 0 0 0))
  refine tt_icmp_eq (tgt := 14) dX10_isSimple_2 rfl (fun q105 => ?_) (fun q105 => ?_)
  · skip
    have h106 : Rg 2 2 x0 := rg_eq_l (rg_all x0) (⟨by decide, by decide⟩ : Rg 2 2 2) q105
    exact B104 
  · skip
    refine tt_iload_n (j := 0) dX10_isSimple_5 rfl ?_
    refine tt_iconst (v := 3) dX10_isSimple_6 rfl ?_
    refine tt_icmp_eq (tgt := 14) dX10_isSimple_7 rfl (fun q107 => ?_) (fun q107 => ?_)
    · skip
      have h108 : Rg 3 3 x0 := rg_eq_l (rg_all x0) (⟨by decide, by decide⟩ : Rg 3 3 3) q107
      exact B104 
    · skip
      refine tt_iconst (v := 1) dX10_isSimple_10 rfl ?_
      refine tt_goto (tgt := 15) dX10_isSimple_11 rfl ?_
      exact B101 1 (rg_w (⟨by decide, by decide⟩ : Rg 1 1 1))
set_option maxHeartbeats 4000000 in
theorem cs_X10_readIf {xi : SX} {S : Hp} {E : List Nat} {kc nc : Nat} {P : Po} {o0 : Nat} {x1 : Int32} {x2 : Int32} (hG : GI S E) (h0 : Oa S E 10 0 o0) (g655 : Rg 19 22 (hp_I S 655 o0)) (g658 : Rg (-1) (-1) (hp_I S 658 o0)) (hP : ∀ r T x y, PV E [654, 655, 659, 662] S kc nc rV (fun v T => (hp_I T 662 o0 = 0 → (Rg 19 22 (hp_I T 655 o0) ∨ Rg 0 23 (hp_I T 657 o0)) ∧ Rg (-1) 23 (hp_I T 658 o0))) [] r T x y → P r T x y) : TT xi M_X10_readIf 0 [(0, .ref o0), (1, .int x1), (2, .int x2)] [] S kc nc P := by
  have hA : Af E [654, 655, 659, 662] S S := af_rf
  refine tt_aload_n (j := 0) dX10_readIf_0 rfl ?_
  refine tt_aload_n (j := 0) dX10_readIf_1 rfl ?_
  refine tt_getI (id := 662) dX10_readIf_2 fl_10_84 rfl rfl (ob_af h0 hA) ?_
  refine tt_if_ne (tgt := 30) dX10_readIf_5 rfl (fun q101 => ?_) (fun q101 => ?_)
  · skip
    have h102 : Rg 1 1 (hp_I S 662 o0) := rg_ne_lo (gi_I (k := 662) hG (oa_af h0 hA) 0 1) (⟨by decide, by decide⟩ : Rg 0 0 0) q101
    refine tt_iconst (v := 1) dX10_readIf_30 rfl ?_
    refine tt_goto (tgt := 35) dX10_readIf_31 rfl ?_
    refine gt_pI (id := 662) (x := 1) dX10_readIf_35 fl_10_84 rfl rfl h0 hA rfl rfl rfl (gp_Ir hG (⟨by decide, by decide⟩ : Rg 1 1 1)) (by decide) (fun _ _ q => absurd q (by decide)) (fun h => absurd h (by decide)) (fun S103 hG104 hA105 e106 f107 er108 => ?_)
    refine tt_aload_n (j := 0) dX10_readIf_38 rfl ?_
    refine tt_bipush (v := 19) dX10_readIf_39 rfl ?_
    refine gt_pI (id := 655) (x := 19) dX10_readIf_41 fl_10_107 rfl rfl h0 hA105 rfl rfl rfl (gp_I hG104) (by decide) (fun h => absurd h (by decide)) (fun h => absurd h (by decide)) (fun S109 hG110 hA111 e112 f113 er114 => ?_)
    refine tt_aload_n (j := 0) dX10_readIf_44 rfl ?_
    refine tt_iload_n (j := 1) dX10_readIf_45 rfl ?_
    refine gt_pI (id := 659) (x := x1) dX10_readIf_46 fl_10_120 rfl rfl h0 hA111 rfl rfl rfl (gp_I hG110) (by decide) (fun h => absurd h (by decide)) (fun h => absurd h (by decide)) (fun S115 hG116 hA117 e118 f119 er120 => ?_)
    refine tt_aload_n (j := 0) dX10_readIf_49 rfl ?_
    refine tt_aload_n (j := 0) dX10_readIf_50 rfl ?_
    refine tt_iload_n (j := 2) dX10_readIf_51 rfl ?_
    refine gt_VJ (As := [.int x2]) dX10_readIf_52 ca_X10_103 ⟨by decide, by decide⟩ h0 hA117 rfl (Nat.le_of_ble_eq_true rfl) (Nat.le_of_ble_eq_true rfl) (by decide) (cs_X10_number hG116 (oa_af h0 hA117) (fun _ _ _ _ h => h)) rfl (fun _ h => nomatch h) (fun S121 y126 hx125 hG122 hB123 hA124 => ?_)
    refine gt_pJ (id := 660) (x := y126) dX10_readIf_55 fl_10_116 rfl rfl h0 hA124 rfl rfl rfl hG122 (fun S128 hG129 hA130 e131 f132 er133 => ?_)
    refine tt_aload_n (j := 0) dX10_readIf_58 rfl ?_
    refine tt_aload_n (j := 0) dX10_readIf_59 rfl ?_
    refine gt_gJ (id := 660) (v := y126) dX10_readIf_60 fl_10_116 rfl rfl h0 hA130 (by rw [f132]; exact up2_self) ?_
    refine tt_aload_n (j := 0) dX10_readIf_63 rfl ?_
    refine tt_getI (id := 654) dX10_readIf_64 fl_10_81 rfl rfl (ob_af h0 hA130) ?_
    refine tt_i2l dX10_readIf_67 ?_
    refine tt_ladd dX10_readIf_68 (gt_tl (fun y134 => ?_))
    refine gt_pJ (id := 660) (x := y134) dX10_readIf_69 fl_10_116 rfl rfl h0 hA130 rfl rfl rfl hG129 (fun S135 hG136 hA137 e138 f139 er140 => ?_)
    exact tt_vreturn dX10_readIf_72 rfl (hP _ _ _ _ ⟨hG136, hA137, Or.inl ⟨_, rfl, rfl, (fun q => ⟨(Or.inl (rg_cast ((congrFun (congrFun e138 655) o0).trans ((congrFun (congrFun e131 655) o0).trans ((i_af (k := 655) (oa_af h0 hA117) hB123).trans ((congrFun (congrFun e118 655) o0).trans ((congrFun (up2_ne (k := 655)) o0).trans (by rw [e112]; exact up2_self)))))) (rg_w (⟨by decide, by decide⟩ : Rg 19 19 19)))), (rg_cast (i_af (k := 658) h0 hA137) (rg_w g658))⟩), rfl, rfl⟩⟩)
  · skip
    have h141 : Rg 0 0 (hp_I S 662 o0) := rg_eq_l (gi_I (k := 662) hG (oa_af h0 hA) 0 1) (⟨by decide, by decide⟩ : Rg 0 0 0) q101
    refine tt_iload_n (j := 1) dX10_readIf_8 rfl ?_
    refine tt_if_lt (tgt := 30) dX10_readIf_9 rfl (fun q142 => ?_) (fun q142 => ?_)
    · skip
      have h143 : Rg (-2147483648) (-1) x1 := rg_lt_l (rg_all x1) (⟨by decide, by decide⟩ : Rg 0 0 0) q142
      refine tt_iconst (v := 1) dX10_readIf_30 rfl ?_
      refine tt_goto (tgt := 35) dX10_readIf_31 rfl ?_
      refine gt_pI (id := 662) (x := 1) dX10_readIf_35 fl_10_84 rfl rfl h0 hA rfl rfl rfl (gp_Ir hG (⟨by decide, by decide⟩ : Rg 1 1 1)) (by decide) (fun _ _ q => absurd q (by decide)) (fun h => absurd h (by decide)) (fun S144 hG145 hA146 e147 f148 er149 => ?_)
      refine tt_aload_n (j := 0) dX10_readIf_38 rfl ?_
      refine tt_bipush (v := 19) dX10_readIf_39 rfl ?_
      refine gt_pI (id := 655) (x := 19) dX10_readIf_41 fl_10_107 rfl rfl h0 hA146 rfl rfl rfl (gp_I hG145) (by decide) (fun h => absurd h (by decide)) (fun h => absurd h (by decide)) (fun S150 hG151 hA152 e153 f154 er155 => ?_)
      refine tt_aload_n (j := 0) dX10_readIf_44 rfl ?_
      refine tt_iload_n (j := 1) dX10_readIf_45 rfl ?_
      refine gt_pI (id := 659) (x := x1) dX10_readIf_46 fl_10_120 rfl rfl h0 hA152 rfl rfl rfl (gp_I hG151) (by decide) (fun h => absurd h (by decide)) (fun h => absurd h (by decide)) (fun S156 hG157 hA158 e159 f160 er161 => ?_)
      refine tt_aload_n (j := 0) dX10_readIf_49 rfl ?_
      refine tt_aload_n (j := 0) dX10_readIf_50 rfl ?_
      refine tt_iload_n (j := 2) dX10_readIf_51 rfl ?_
      refine gt_VJ (As := [.int x2]) dX10_readIf_52 ca_X10_103 ⟨by decide, by decide⟩ h0 hA158 rfl (Nat.le_of_ble_eq_true rfl) (Nat.le_of_ble_eq_true rfl) (by decide) (cs_X10_number hG157 (oa_af h0 hA158) (fun _ _ _ _ h => h)) rfl (fun _ h => nomatch h) (fun S162 y167 hx166 hG163 hB164 hA165 => ?_)
      refine gt_pJ (id := 660) (x := y167) dX10_readIf_55 fl_10_116 rfl rfl h0 hA165 rfl rfl rfl hG163 (fun S169 hG170 hA171 e172 f173 er174 => ?_)
      refine tt_aload_n (j := 0) dX10_readIf_58 rfl ?_
      refine tt_aload_n (j := 0) dX10_readIf_59 rfl ?_
      refine gt_gJ (id := 660) (v := y167) dX10_readIf_60 fl_10_116 rfl rfl h0 hA171 (by rw [f173]; exact up2_self) ?_
      refine tt_aload_n (j := 0) dX10_readIf_63 rfl ?_
      refine tt_getI (id := 654) dX10_readIf_64 fl_10_81 rfl rfl (ob_af h0 hA171) ?_
      refine tt_i2l dX10_readIf_67 ?_
      refine tt_ladd dX10_readIf_68 (gt_tl (fun y175 => ?_))
      refine gt_pJ (id := 660) (x := y175) dX10_readIf_69 fl_10_116 rfl rfl h0 hA171 rfl rfl rfl hG170 (fun S176 hG177 hA178 e179 f180 er181 => ?_)
      exact tt_vreturn dX10_readIf_72 rfl (hP _ _ _ _ ⟨hG177, hA178, Or.inl ⟨_, rfl, rfl, (fun q => ⟨(Or.inl (rg_cast ((congrFun (congrFun e179 655) o0).trans ((congrFun (congrFun e172 655) o0).trans ((i_af (k := 655) (oa_af h0 hA158) hB164).trans ((congrFun (congrFun e159 655) o0).trans ((congrFun (up2_ne (k := 655)) o0).trans (by rw [e153]; exact up2_self)))))) (rg_w (⟨by decide, by decide⟩ : Rg 19 19 19)))), (rg_cast (i_af (k := 658) h0 hA178) (rg_w g658))⟩), rfl, rfl⟩⟩)
    · skip
      have h182 : Rg 0 2147483647 x1 := rg_le_r (⟨by decide, by decide⟩ : Rg 0 0 0) (rg_all x1) (nlt_le q142)
      refine tt_iload_n (j := 1) dX10_readIf_12 rfl ?_
      refine tt_bipush (v := 15) dX10_readIf_13 rfl ?_
      refine tt_icmp_gt (tgt := 30) dX10_readIf_15 rfl (fun q183 => ?_) (fun q183 => ?_)
      · skip
        have h184 : Rg 16 2147483647 x1 := rg_lt_r (⟨by decide, by decide⟩ : Rg 15 15 15) h182 q183
        refine tt_iconst (v := 1) dX10_readIf_30 rfl ?_
        refine tt_goto (tgt := 35) dX10_readIf_31 rfl ?_
        refine gt_pI (id := 662) (x := 1) dX10_readIf_35 fl_10_84 rfl rfl h0 hA rfl rfl rfl (gp_Ir hG (⟨by decide, by decide⟩ : Rg 1 1 1)) (by decide) (fun _ _ q => absurd q (by decide)) (fun h => absurd h (by decide)) (fun S185 hG186 hA187 e188 f189 er190 => ?_)
        refine tt_aload_n (j := 0) dX10_readIf_38 rfl ?_
        refine tt_bipush (v := 19) dX10_readIf_39 rfl ?_
        refine gt_pI (id := 655) (x := 19) dX10_readIf_41 fl_10_107 rfl rfl h0 hA187 rfl rfl rfl (gp_I hG186) (by decide) (fun h => absurd h (by decide)) (fun h => absurd h (by decide)) (fun S191 hG192 hA193 e194 f195 er196 => ?_)
        refine tt_aload_n (j := 0) dX10_readIf_44 rfl ?_
        refine tt_iload_n (j := 1) dX10_readIf_45 rfl ?_
        refine gt_pI (id := 659) (x := x1) dX10_readIf_46 fl_10_120 rfl rfl h0 hA193 rfl rfl rfl (gp_I hG192) (by decide) (fun h => absurd h (by decide)) (fun h => absurd h (by decide)) (fun S197 hG198 hA199 e200 f201 er202 => ?_)
        refine tt_aload_n (j := 0) dX10_readIf_49 rfl ?_
        refine tt_aload_n (j := 0) dX10_readIf_50 rfl ?_
        refine tt_iload_n (j := 2) dX10_readIf_51 rfl ?_
        refine gt_VJ (As := [.int x2]) dX10_readIf_52 ca_X10_103 ⟨by decide, by decide⟩ h0 hA199 rfl (Nat.le_of_ble_eq_true rfl) (Nat.le_of_ble_eq_true rfl) (by decide) (cs_X10_number hG198 (oa_af h0 hA199) (fun _ _ _ _ h => h)) rfl (fun _ h => nomatch h) (fun S203 y208 hx207 hG204 hB205 hA206 => ?_)
        refine gt_pJ (id := 660) (x := y208) dX10_readIf_55 fl_10_116 rfl rfl h0 hA206 rfl rfl rfl hG204 (fun S210 hG211 hA212 e213 f214 er215 => ?_)
        refine tt_aload_n (j := 0) dX10_readIf_58 rfl ?_
        refine tt_aload_n (j := 0) dX10_readIf_59 rfl ?_
        refine gt_gJ (id := 660) (v := y208) dX10_readIf_60 fl_10_116 rfl rfl h0 hA212 (by rw [f214]; exact up2_self) ?_
        refine tt_aload_n (j := 0) dX10_readIf_63 rfl ?_
        refine tt_getI (id := 654) dX10_readIf_64 fl_10_81 rfl rfl (ob_af h0 hA212) ?_
        refine tt_i2l dX10_readIf_67 ?_
        refine tt_ladd dX10_readIf_68 (gt_tl (fun y216 => ?_))
        refine gt_pJ (id := 660) (x := y216) dX10_readIf_69 fl_10_116 rfl rfl h0 hA212 rfl rfl rfl hG211 (fun S217 hG218 hA219 e220 f221 er222 => ?_)
        exact tt_vreturn dX10_readIf_72 rfl (hP _ _ _ _ ⟨hG218, hA219, Or.inl ⟨_, rfl, rfl, (fun q => ⟨(Or.inl (rg_cast ((congrFun (congrFun e220 655) o0).trans ((congrFun (congrFun e213 655) o0).trans ((i_af (k := 655) (oa_af h0 hA199) hB205).trans ((congrFun (congrFun e200 655) o0).trans ((congrFun (up2_ne (k := 655)) o0).trans (by rw [e194]; exact up2_self)))))) (rg_w (⟨by decide, by decide⟩ : Rg 19 19 19)))), (rg_cast (i_af (k := 658) h0 hA219) (rg_w g658))⟩), rfl, rfl⟩⟩)
      · skip
        have h223 : Rg 0 15 x1 := rg_le_l h182 (⟨by decide, by decide⟩ : Rg 15 15 15) (nlt_le q183)
        refine tt_iload_n (j := 1) dX10_readIf_18 rfl ?_
        refine tt_bipush (v := 10) dX10_readIf_19 rfl ?_
        refine tt_icmp_eq (tgt := 30) dX10_readIf_21 rfl (fun q224 => ?_) (fun q224 => ?_)
        · skip
          have h225 : Rg 10 10 x1 := rg_eq_l h223 (⟨by decide, by decide⟩ : Rg 10 10 10) q224
          refine tt_iconst (v := 1) dX10_readIf_30 rfl ?_
          refine tt_goto (tgt := 35) dX10_readIf_31 rfl ?_
          refine gt_pI (id := 662) (x := 1) dX10_readIf_35 fl_10_84 rfl rfl h0 hA rfl rfl rfl (gp_Ir hG (⟨by decide, by decide⟩ : Rg 1 1 1)) (by decide) (fun _ _ q => absurd q (by decide)) (fun h => absurd h (by decide)) (fun S226 hG227 hA228 e229 f230 er231 => ?_)
          refine tt_aload_n (j := 0) dX10_readIf_38 rfl ?_
          refine tt_bipush (v := 19) dX10_readIf_39 rfl ?_
          refine gt_pI (id := 655) (x := 19) dX10_readIf_41 fl_10_107 rfl rfl h0 hA228 rfl rfl rfl (gp_I hG227) (by decide) (fun h => absurd h (by decide)) (fun h => absurd h (by decide)) (fun S232 hG233 hA234 e235 f236 er237 => ?_)
          refine tt_aload_n (j := 0) dX10_readIf_44 rfl ?_
          refine tt_iload_n (j := 1) dX10_readIf_45 rfl ?_
          refine gt_pI (id := 659) (x := x1) dX10_readIf_46 fl_10_120 rfl rfl h0 hA234 rfl rfl rfl (gp_I hG233) (by decide) (fun h => absurd h (by decide)) (fun h => absurd h (by decide)) (fun S238 hG239 hA240 e241 f242 er243 => ?_)
          refine tt_aload_n (j := 0) dX10_readIf_49 rfl ?_
          refine tt_aload_n (j := 0) dX10_readIf_50 rfl ?_
          refine tt_iload_n (j := 2) dX10_readIf_51 rfl ?_
          refine gt_VJ (As := [.int x2]) dX10_readIf_52 ca_X10_103 ⟨by decide, by decide⟩ h0 hA240 rfl (Nat.le_of_ble_eq_true rfl) (Nat.le_of_ble_eq_true rfl) (by decide) (cs_X10_number hG239 (oa_af h0 hA240) (fun _ _ _ _ h => h)) rfl (fun _ h => nomatch h) (fun S244 y249 hx248 hG245 hB246 hA247 => ?_)
          refine gt_pJ (id := 660) (x := y249) dX10_readIf_55 fl_10_116 rfl rfl h0 hA247 rfl rfl rfl hG245 (fun S251 hG252 hA253 e254 f255 er256 => ?_)
          refine tt_aload_n (j := 0) dX10_readIf_58 rfl ?_
          refine tt_aload_n (j := 0) dX10_readIf_59 rfl ?_
          refine gt_gJ (id := 660) (v := y249) dX10_readIf_60 fl_10_116 rfl rfl h0 hA253 (by rw [f255]; exact up2_self) ?_
          refine tt_aload_n (j := 0) dX10_readIf_63 rfl ?_
          refine tt_getI (id := 654) dX10_readIf_64 fl_10_81 rfl rfl (ob_af h0 hA253) ?_
          refine tt_i2l dX10_readIf_67 ?_
          refine tt_ladd dX10_readIf_68 (gt_tl (fun y257 => ?_))
          refine gt_pJ (id := 660) (x := y257) dX10_readIf_69 fl_10_116 rfl rfl h0 hA253 rfl rfl rfl hG252 (fun S258 hG259 hA260 e261 f262 er263 => ?_)
          exact tt_vreturn dX10_readIf_72 rfl (hP _ _ _ _ ⟨hG259, hA260, Or.inl ⟨_, rfl, rfl, (fun q => ⟨(Or.inl (rg_cast ((congrFun (congrFun e261 655) o0).trans ((congrFun (congrFun e254 655) o0).trans ((i_af (k := 655) (oa_af h0 hA240) hB246).trans ((congrFun (congrFun e241 655) o0).trans ((congrFun (up2_ne (k := 655)) o0).trans (by rw [e235]; exact up2_self)))))) (rg_w (⟨by decide, by decide⟩ : Rg 19 19 19)))), (rg_cast (i_af (k := 658) h0 hA260) (rg_w g658))⟩), rfl, rfl⟩⟩)
        · skip
          refine tt_iload_n (j := 1) dX10_readIf_24 rfl ?_
          refine tt_bipush (v := 11) dX10_readIf_25 rfl ?_
          refine tt_icmp_ne (tgt := 34) dX10_readIf_27 rfl (fun q264 => ?_) (fun q264 => ?_)
          · skip
            refine tt_iconst (v := 0) dX10_readIf_34 rfl ?_
            refine gt_pI (id := 662) (x := 0) dX10_readIf_35 fl_10_84 rfl rfl h0 hA rfl rfl rfl (gp_Ir hG (⟨by decide, by decide⟩ : Rg 0 0 0)) (by decide) (fun _ _ _ => (rg_eqc h141)) (fun h => absurd h (by decide)) (fun S265 hG266 hA267 e268 f269 er270 => ?_)
            refine tt_aload_n (j := 0) dX10_readIf_38 rfl ?_
            refine tt_bipush (v := 19) dX10_readIf_39 rfl ?_
            refine gt_pI (id := 655) (x := 19) dX10_readIf_41 fl_10_107 rfl rfl h0 hA267 rfl rfl rfl (gp_I hG266) (by decide) (fun h => absurd h (by decide)) (fun h => absurd h (by decide)) (fun S271 hG272 hA273 e274 f275 er276 => ?_)
            refine tt_aload_n (j := 0) dX10_readIf_44 rfl ?_
            refine tt_iload_n (j := 1) dX10_readIf_45 rfl ?_
            refine gt_pI (id := 659) (x := x1) dX10_readIf_46 fl_10_120 rfl rfl h0 hA273 rfl rfl rfl (gp_I hG272) (by decide) (fun h => absurd h (by decide)) (fun h => absurd h (by decide)) (fun S277 hG278 hA279 e280 f281 er282 => ?_)
            refine tt_aload_n (j := 0) dX10_readIf_49 rfl ?_
            refine tt_aload_n (j := 0) dX10_readIf_50 rfl ?_
            refine tt_iload_n (j := 2) dX10_readIf_51 rfl ?_
            refine gt_VJ (As := [.int x2]) dX10_readIf_52 ca_X10_103 ⟨by decide, by decide⟩ h0 hA279 rfl (Nat.le_of_ble_eq_true rfl) (Nat.le_of_ble_eq_true rfl) (by decide) (cs_X10_number hG278 (oa_af h0 hA279) (fun _ _ _ _ h => h)) rfl (fun _ h => nomatch h) (fun S283 y288 hx287 hG284 hB285 hA286 => ?_)
            refine gt_pJ (id := 660) (x := y288) dX10_readIf_55 fl_10_116 rfl rfl h0 hA286 rfl rfl rfl hG284 (fun S290 hG291 hA292 e293 f294 er295 => ?_)
            refine tt_aload_n (j := 0) dX10_readIf_58 rfl ?_
            refine tt_aload_n (j := 0) dX10_readIf_59 rfl ?_
            refine gt_gJ (id := 660) (v := y288) dX10_readIf_60 fl_10_116 rfl rfl h0 hA292 (by rw [f294]; exact up2_self) ?_
            refine tt_aload_n (j := 0) dX10_readIf_63 rfl ?_
            refine tt_getI (id := 654) dX10_readIf_64 fl_10_81 rfl rfl (ob_af h0 hA292) ?_
            refine tt_i2l dX10_readIf_67 ?_
            refine tt_ladd dX10_readIf_68 (gt_tl (fun y296 => ?_))
            refine gt_pJ (id := 660) (x := y296) dX10_readIf_69 fl_10_116 rfl rfl h0 hA292 rfl rfl rfl hG291 (fun S297 hG298 hA299 e300 f301 er302 => ?_)
            exact tt_vreturn dX10_readIf_72 rfl (hP _ _ _ _ ⟨hG298, hA299, Or.inl ⟨_, rfl, rfl, (fun q => ⟨(Or.inl (rg_cast ((congrFun (congrFun e300 655) o0).trans ((congrFun (congrFun e293 655) o0).trans ((i_af (k := 655) (oa_af h0 hA279) hB285).trans ((congrFun (congrFun e280 655) o0).trans ((congrFun (up2_ne (k := 655)) o0).trans (by rw [e274]; exact up2_self)))))) (rg_w (⟨by decide, by decide⟩ : Rg 19 19 19)))), (rg_cast (i_af (k := 658) h0 hA299) (rg_w g658))⟩), rfl, rfl⟩⟩)
          · skip
            have h303 : Rg 11 11 x1 := rg_eq_l h223 (⟨by decide, by decide⟩ : Rg 11 11 11) q264
            refine tt_iconst (v := 1) dX10_readIf_30 rfl ?_
            refine tt_goto (tgt := 35) dX10_readIf_31 rfl ?_
            refine gt_pI (id := 662) (x := 1) dX10_readIf_35 fl_10_84 rfl rfl h0 hA rfl rfl rfl (gp_Ir hG (⟨by decide, by decide⟩ : Rg 1 1 1)) (by decide) (fun _ _ q => absurd q (by decide)) (fun h => absurd h (by decide)) (fun S304 hG305 hA306 e307 f308 er309 => ?_)
            refine tt_aload_n (j := 0) dX10_readIf_38 rfl ?_
            refine tt_bipush (v := 19) dX10_readIf_39 rfl ?_
            refine gt_pI (id := 655) (x := 19) dX10_readIf_41 fl_10_107 rfl rfl h0 hA306 rfl rfl rfl (gp_I hG305) (by decide) (fun h => absurd h (by decide)) (fun h => absurd h (by decide)) (fun S310 hG311 hA312 e313 f314 er315 => ?_)
            refine tt_aload_n (j := 0) dX10_readIf_44 rfl ?_
            refine tt_iload_n (j := 1) dX10_readIf_45 rfl ?_
            refine gt_pI (id := 659) (x := x1) dX10_readIf_46 fl_10_120 rfl rfl h0 hA312 rfl rfl rfl (gp_I hG311) (by decide) (fun h => absurd h (by decide)) (fun h => absurd h (by decide)) (fun S316 hG317 hA318 e319 f320 er321 => ?_)
            refine tt_aload_n (j := 0) dX10_readIf_49 rfl ?_
            refine tt_aload_n (j := 0) dX10_readIf_50 rfl ?_
            refine tt_iload_n (j := 2) dX10_readIf_51 rfl ?_
            refine gt_VJ (As := [.int x2]) dX10_readIf_52 ca_X10_103 ⟨by decide, by decide⟩ h0 hA318 rfl (Nat.le_of_ble_eq_true rfl) (Nat.le_of_ble_eq_true rfl) (by decide) (cs_X10_number hG317 (oa_af h0 hA318) (fun _ _ _ _ h => h)) rfl (fun _ h => nomatch h) (fun S322 y327 hx326 hG323 hB324 hA325 => ?_)
            refine gt_pJ (id := 660) (x := y327) dX10_readIf_55 fl_10_116 rfl rfl h0 hA325 rfl rfl rfl hG323 (fun S329 hG330 hA331 e332 f333 er334 => ?_)
            refine tt_aload_n (j := 0) dX10_readIf_58 rfl ?_
            refine tt_aload_n (j := 0) dX10_readIf_59 rfl ?_
            refine gt_gJ (id := 660) (v := y327) dX10_readIf_60 fl_10_116 rfl rfl h0 hA331 (by rw [f333]; exact up2_self) ?_
            refine tt_aload_n (j := 0) dX10_readIf_63 rfl ?_
            refine tt_getI (id := 654) dX10_readIf_64 fl_10_81 rfl rfl (ob_af h0 hA331) ?_
            refine tt_i2l dX10_readIf_67 ?_
            refine tt_ladd dX10_readIf_68 (gt_tl (fun y335 => ?_))
            refine gt_pJ (id := 660) (x := y335) dX10_readIf_69 fl_10_116 rfl rfl h0 hA331 rfl rfl rfl hG330 (fun S336 hG337 hA338 e339 f340 er341 => ?_)
            exact tt_vreturn dX10_readIf_72 rfl (hP _ _ _ _ ⟨hG337, hA338, Or.inl ⟨_, rfl, rfl, (fun q => ⟨(Or.inl (rg_cast ((congrFun (congrFun e339 655) o0).trans ((congrFun (congrFun e332 655) o0).trans ((i_af (k := 655) (oa_af h0 hA318) hB324).trans ((congrFun (congrFun e319 655) o0).trans ((congrFun (up2_ne (k := 655)) o0).trans (by rw [e313]; exact up2_self)))))) (rg_w (⟨by decide, by decide⟩ : Rg 19 19 19)))), (rg_cast (i_af (k := 658) h0 hA338) (rg_w g658))⟩), rfl, rfl⟩⟩)
set_option maxHeartbeats 4000000 in
theorem cs_X10_readJumps {xi : SX} {S : Hp} {E : List Nat} {kc nc : Nat} {P : Po} {o0 : Nat} {x1 : Int32} (hG : GI S E) (h0 : Oa S E 10 0 o0) (g655 : Rg 19 22 (hp_I S 655 o0)) (g658 : Rg (-1) (-1) (hp_I S 658 o0)) (hP : ∀ r T x y, PV E [654, 655, 659, 662] S kc nc rV (fun v T => (hp_I T 662 o0 = 0 → (Rg 19 22 (hp_I T 655 o0) ∨ Rg 0 23 (hp_I T 657 o0)) ∧ Rg (-1) 23 (hp_I T 658 o0))) [] r T x y → P r T x y) : TT xi M_X10_readJumps 0 [(0, .ref o0), (1, .int x1)] [] S kc nc P := by
  have hA : Af E [654, 655, 659, 662] S S := af_rf
  refine tt_iload_n (j := 1) dX10_readJumps_0 rfl ?_
  refine tt_bipush (v := 112) dX10_readJumps_1 rfl ?_
  refine tt_icmp_lt (tgt := 25) dX10_readJumps_3 rfl (fun q101 => ?_) (fun q101 => ?_)
  · skip
    have h102 : Rg (-2147483648) 111 x1 := rg_lt_l (rg_all x1) (⟨by decide, by decide⟩ : Rg 112 112 112) q101
    refine tt_iload_n (j := 1) dX10_readJumps_25 rfl ?_
    refine tt_sipush (v := 235) dX10_readJumps_26 rfl ?_
    refine tt_icmp_eq (tgt := 39) dX10_readJumps_29 rfl (fun q103 => ?_) (fun q103 => ?_)
    · skip
      refine tt_aload_n (j := 0) dX10_readJumps_39 rfl ?_
      refine tt_bipush (v := 20) dX10_readJumps_40 rfl ?_
      refine gt_pI (id := 655) (x := 20) dX10_readJumps_42 fl_10_107 rfl rfl h0 hA rfl rfl rfl (gp_I hG) (by decide) (fun h => absurd h (by decide)) (fun h => absurd h (by decide)) (fun S104 hG105 hA106 e107 f108 er109 => ?_)
      refine tt_aload_n (j := 0) dX10_readJumps_45 rfl ?_
      refine tt_aload_n (j := 0) dX10_readJumps_46 rfl ?_
      refine tt_iload_n (j := 1) dX10_readJumps_47 rfl ?_
      refine tt_sipush (v := 235) dX10_readJumps_48 rfl ?_
      refine tt_icmp_ne (tgt := 58) dX10_readJumps_51 rfl (fun q110 => ?_) (fun q110 => ?_)
      · skip
        refine tt_iconst (v := 4) dX10_readJumps_58 rfl ?_
        refine gt_VJ (As := [.int 4]) dX10_readJumps_59 ca_X10_103 ⟨by decide, by decide⟩ h0 hA106 rfl (Nat.le_of_ble_eq_true rfl) (Nat.le_of_ble_eq_true rfl) (by decide) (cs_X10_number hG105 (oa_af h0 hA106) (fun _ _ _ _ h => h)) rfl (fun _ h => nomatch h) (fun S111 y116 hx115 hG112 hB113 hA114 => ?_)
        refine gt_pJ (id := 660) (x := y116) dX10_readJumps_62 fl_10_116 rfl rfl h0 hA114 rfl rfl rfl hG112 (fun S118 hG119 hA120 e121 f122 er123 => ?_)
        refine tt_aload_n (j := 0) dX10_readJumps_65 rfl ?_
        refine tt_aload_n (j := 0) dX10_readJumps_66 rfl ?_
        refine gt_gJ (id := 660) (v := y116) dX10_readJumps_67 fl_10_116 rfl rfl h0 hA120 (by rw [f122]; exact up2_self) ?_
        refine tt_aload_n (j := 0) dX10_readJumps_70 rfl ?_
        refine tt_getI (id := 654) dX10_readJumps_71 fl_10_81 rfl rfl (ob_af h0 hA120) ?_
        refine tt_i2l dX10_readJumps_74 ?_
        refine tt_ladd dX10_readJumps_75 (gt_tl (fun y124 => ?_))
        refine gt_pJ (id := 660) (x := y124) dX10_readJumps_76 fl_10_116 rfl rfl h0 hA120 rfl rfl rfl hG119 (fun S125 hG126 hA127 e128 f129 er130 => ?_)
        refine tt_goto (tgt := 117) dX10_readJumps_79 rfl ?_
        exact tt_vreturn dX10_readJumps_117 rfl (hP _ _ _ _ ⟨hG126, hA127, Or.inl ⟨_, rfl, rfl, (fun q => ⟨(Or.inl (rg_cast ((congrFun (congrFun e128 655) o0).trans ((congrFun (congrFun e121 655) o0).trans ((i_af (k := 655) (oa_af h0 hA106) hB113).trans (by rw [e107]; exact up2_self)))) (rg_w (⟨by decide, by decide⟩ : Rg 20 20 20)))), (rg_cast (i_af (k := 658) h0 hA127) (rg_w g658))⟩), rfl, rfl⟩⟩)
      · skip
        refine tt_iconst (v := 1) dX10_readJumps_54 rfl ?_
        refine tt_goto (tgt := 59) dX10_readJumps_55 rfl ?_
        refine gt_VJ (As := [.int 1]) dX10_readJumps_59 ca_X10_103 ⟨by decide, by decide⟩ h0 hA106 rfl (Nat.le_of_ble_eq_true rfl) (Nat.le_of_ble_eq_true rfl) (by decide) (cs_X10_number hG105 (oa_af h0 hA106) (fun _ _ _ _ h => h)) rfl (fun _ h => nomatch h) (fun S131 y136 hx135 hG132 hB133 hA134 => ?_)
        refine gt_pJ (id := 660) (x := y136) dX10_readJumps_62 fl_10_116 rfl rfl h0 hA134 rfl rfl rfl hG132 (fun S138 hG139 hA140 e141 f142 er143 => ?_)
        refine tt_aload_n (j := 0) dX10_readJumps_65 rfl ?_
        refine tt_aload_n (j := 0) dX10_readJumps_66 rfl ?_
        refine gt_gJ (id := 660) (v := y136) dX10_readJumps_67 fl_10_116 rfl rfl h0 hA140 (by rw [f142]; exact up2_self) ?_
        refine tt_aload_n (j := 0) dX10_readJumps_70 rfl ?_
        refine tt_getI (id := 654) dX10_readJumps_71 fl_10_81 rfl rfl (ob_af h0 hA140) ?_
        refine tt_i2l dX10_readJumps_74 ?_
        refine tt_ladd dX10_readJumps_75 (gt_tl (fun y144 => ?_))
        refine gt_pJ (id := 660) (x := y144) dX10_readJumps_76 fl_10_116 rfl rfl h0 hA140 rfl rfl rfl hG139 (fun S145 hG146 hA147 e148 f149 er150 => ?_)
        refine tt_goto (tgt := 117) dX10_readJumps_79 rfl ?_
        exact tt_vreturn dX10_readJumps_117 rfl (hP _ _ _ _ ⟨hG146, hA147, Or.inl ⟨_, rfl, rfl, (fun q => ⟨(Or.inl (rg_cast ((congrFun (congrFun e148 655) o0).trans ((congrFun (congrFun e141 655) o0).trans ((i_af (k := 655) (oa_af h0 hA106) hB133).trans (by rw [e107]; exact up2_self)))) (rg_w (⟨by decide, by decide⟩ : Rg 20 20 20)))), (rg_cast (i_af (k := 658) h0 hA147) (rg_w g658))⟩), rfl, rfl⟩⟩)
    · skip
      refine tt_iload_n (j := 1) dX10_readJumps_32 rfl ?_
      refine tt_sipush (v := 233) dX10_readJumps_33 rfl ?_
      refine tt_icmp_ne (tgt := 82) dX10_readJumps_36 rfl (fun q151 => ?_) (fun q151 => ?_)
      · skip
        refine tt_iload_n (j := 1) dX10_readJumps_82 rfl ?_
        refine tt_sipush (v := 195) dX10_readJumps_83 rfl ?_
        refine tt_icmp_eq (tgt := 96) dX10_readJumps_86 rfl (fun q152 => ?_) (fun q152 => ?_)
        · skip
          refine tt_aload_n (j := 0) dX10_readJumps_96 rfl ?_
          refine tt_bipush (v := 22) dX10_readJumps_97 rfl ?_
          refine gt_pI (id := 655) (x := 22) dX10_readJumps_99 fl_10_107 rfl rfl h0 hA rfl rfl rfl (gp_I hG) (by decide) (fun h => absurd h (by decide)) (fun h => absurd h (by decide)) (fun S153 hG154 hA155 e156 f157 er158 => ?_)
          refine tt_goto (tgt := 117) dX10_readJumps_102 rfl ?_
          exact tt_vreturn dX10_readJumps_117 rfl (hP _ _ _ _ ⟨hG154, hA155, Or.inl ⟨_, rfl, rfl, (fun q => ⟨(Or.inl (rg_cast (by rw [e156]; exact up2_self) (rg_w (⟨by decide, by decide⟩ : Rg 22 22 22)))), (rg_cast (i_af (k := 658) h0 hA155) (rg_w g658))⟩), rfl, rfl⟩⟩)
        · skip
          refine tt_iload_n (j := 1) dX10_readJumps_89 rfl ?_
          refine tt_sipush (v := 244) dX10_readJumps_90 rfl ?_
          refine tt_icmp_ne (tgt := 105) dX10_readJumps_93 rfl (fun q159 => ?_) (fun q159 => ?_)
          · skip
            refine tt_iload_n (j := 1) dX10_readJumps_105 rfl ?_
            refine tt_sipush (v := 144) dX10_readJumps_106 rfl ?_
            refine tt_icmp_eq (tgt := 117) dX10_readJumps_109 rfl (fun q160 => ?_) (fun q160 => ?_)
            · skip
              exact tt_vreturn dX10_readJumps_117 rfl (hP _ _ _ _ ⟨hG, hA, Or.inl ⟨_, rfl, rfl, (fun q => ⟨(Or.inl (rg_w g655)), (rg_w g658)⟩), rfl, rfl⟩⟩)
            · skip
              refine tt_aload_n (j := 0) dX10_readJumps_112 rfl ?_
              refine tt_iconst (v := 1) dX10_readJumps_113 rfl ?_
              refine gt_pI (id := 662) (x := 1) dX10_readJumps_114 fl_10_84 rfl rfl h0 hA rfl rfl rfl (gp_Ir hG (⟨by decide, by decide⟩ : Rg 1 1 1)) (by decide) (fun _ _ q => absurd q (by decide)) (fun h => absurd h (by decide)) (fun S161 hG162 hA163 e164 f165 er166 => ?_)
              exact tt_vreturn dX10_readJumps_117 rfl (hP _ _ _ _ ⟨hG162, hA163, Or.inl ⟨_, rfl, rfl, (fun q => ⟨(Or.inl (rg_cast ((congrFun (congrFun e164 655) o0).trans ((congrFun (up2_ne (k := 655)) o0).trans rfl)) (rg_w g655))), (rg_cast (i_af (k := 658) h0 hA163) (rg_w g658))⟩), rfl, rfl⟩⟩)
          · skip
            refine tt_aload_n (j := 0) dX10_readJumps_96 rfl ?_
            refine tt_bipush (v := 22) dX10_readJumps_97 rfl ?_
            refine gt_pI (id := 655) (x := 22) dX10_readJumps_99 fl_10_107 rfl rfl h0 hA rfl rfl rfl (gp_I hG) (by decide) (fun h => absurd h (by decide)) (fun h => absurd h (by decide)) (fun S167 hG168 hA169 e170 f171 er172 => ?_)
            refine tt_goto (tgt := 117) dX10_readJumps_102 rfl ?_
            exact tt_vreturn dX10_readJumps_117 rfl (hP _ _ _ _ ⟨hG168, hA169, Or.inl ⟨_, rfl, rfl, (fun q => ⟨(Or.inl (rg_cast (by rw [e170]; exact up2_self) (rg_w (⟨by decide, by decide⟩ : Rg 22 22 22)))), (rg_cast (i_af (k := 658) h0 hA169) (rg_w g658))⟩), rfl, rfl⟩⟩)
      · skip
        refine tt_aload_n (j := 0) dX10_readJumps_39 rfl ?_
        refine tt_bipush (v := 20) dX10_readJumps_40 rfl ?_
        refine gt_pI (id := 655) (x := 20) dX10_readJumps_42 fl_10_107 rfl rfl h0 hA rfl rfl rfl (gp_I hG) (by decide) (fun h => absurd h (by decide)) (fun h => absurd h (by decide)) (fun S173 hG174 hA175 e176 f177 er178 => ?_)
        refine tt_aload_n (j := 0) dX10_readJumps_45 rfl ?_
        refine tt_aload_n (j := 0) dX10_readJumps_46 rfl ?_
        refine tt_iload_n (j := 1) dX10_readJumps_47 rfl ?_
        refine tt_sipush (v := 235) dX10_readJumps_48 rfl ?_
        refine tt_icmp_ne (tgt := 58) dX10_readJumps_51 rfl (fun q179 => ?_) (fun q179 => ?_)
        · skip
          refine tt_iconst (v := 4) dX10_readJumps_58 rfl ?_
          refine gt_VJ (As := [.int 4]) dX10_readJumps_59 ca_X10_103 ⟨by decide, by decide⟩ h0 hA175 rfl (Nat.le_of_ble_eq_true rfl) (Nat.le_of_ble_eq_true rfl) (by decide) (cs_X10_number hG174 (oa_af h0 hA175) (fun _ _ _ _ h => h)) rfl (fun _ h => nomatch h) (fun S180 y185 hx184 hG181 hB182 hA183 => ?_)
          refine gt_pJ (id := 660) (x := y185) dX10_readJumps_62 fl_10_116 rfl rfl h0 hA183 rfl rfl rfl hG181 (fun S187 hG188 hA189 e190 f191 er192 => ?_)
          refine tt_aload_n (j := 0) dX10_readJumps_65 rfl ?_
          refine tt_aload_n (j := 0) dX10_readJumps_66 rfl ?_
          refine gt_gJ (id := 660) (v := y185) dX10_readJumps_67 fl_10_116 rfl rfl h0 hA189 (by rw [f191]; exact up2_self) ?_
          refine tt_aload_n (j := 0) dX10_readJumps_70 rfl ?_
          refine tt_getI (id := 654) dX10_readJumps_71 fl_10_81 rfl rfl (ob_af h0 hA189) ?_
          refine tt_i2l dX10_readJumps_74 ?_
          refine tt_ladd dX10_readJumps_75 (gt_tl (fun y193 => ?_))
          refine gt_pJ (id := 660) (x := y193) dX10_readJumps_76 fl_10_116 rfl rfl h0 hA189 rfl rfl rfl hG188 (fun S194 hG195 hA196 e197 f198 er199 => ?_)
          refine tt_goto (tgt := 117) dX10_readJumps_79 rfl ?_
          exact tt_vreturn dX10_readJumps_117 rfl (hP _ _ _ _ ⟨hG195, hA196, Or.inl ⟨_, rfl, rfl, (fun q => ⟨(Or.inl (rg_cast ((congrFun (congrFun e197 655) o0).trans ((congrFun (congrFun e190 655) o0).trans ((i_af (k := 655) (oa_af h0 hA175) hB182).trans (by rw [e176]; exact up2_self)))) (rg_w (⟨by decide, by decide⟩ : Rg 20 20 20)))), (rg_cast (i_af (k := 658) h0 hA196) (rg_w g658))⟩), rfl, rfl⟩⟩)
        · skip
          refine tt_iconst (v := 1) dX10_readJumps_54 rfl ?_
          refine tt_goto (tgt := 59) dX10_readJumps_55 rfl ?_
          refine gt_VJ (As := [.int 1]) dX10_readJumps_59 ca_X10_103 ⟨by decide, by decide⟩ h0 hA175 rfl (Nat.le_of_ble_eq_true rfl) (Nat.le_of_ble_eq_true rfl) (by decide) (cs_X10_number hG174 (oa_af h0 hA175) (fun _ _ _ _ h => h)) rfl (fun _ h => nomatch h) (fun S200 y205 hx204 hG201 hB202 hA203 => ?_)
          refine gt_pJ (id := 660) (x := y205) dX10_readJumps_62 fl_10_116 rfl rfl h0 hA203 rfl rfl rfl hG201 (fun S207 hG208 hA209 e210 f211 er212 => ?_)
          refine tt_aload_n (j := 0) dX10_readJumps_65 rfl ?_
          refine tt_aload_n (j := 0) dX10_readJumps_66 rfl ?_
          refine gt_gJ (id := 660) (v := y205) dX10_readJumps_67 fl_10_116 rfl rfl h0 hA209 (by rw [f211]; exact up2_self) ?_
          refine tt_aload_n (j := 0) dX10_readJumps_70 rfl ?_
          refine tt_getI (id := 654) dX10_readJumps_71 fl_10_81 rfl rfl (ob_af h0 hA209) ?_
          refine tt_i2l dX10_readJumps_74 ?_
          refine tt_ladd dX10_readJumps_75 (gt_tl (fun y213 => ?_))
          refine gt_pJ (id := 660) (x := y213) dX10_readJumps_76 fl_10_116 rfl rfl h0 hA209 rfl rfl rfl hG208 (fun S214 hG215 hA216 e217 f218 er219 => ?_)
          refine tt_goto (tgt := 117) dX10_readJumps_79 rfl ?_
          exact tt_vreturn dX10_readJumps_117 rfl (hP _ _ _ _ ⟨hG215, hA216, Or.inl ⟨_, rfl, rfl, (fun q => ⟨(Or.inl (rg_cast ((congrFun (congrFun e217 655) o0).trans ((congrFun (congrFun e210 655) o0).trans ((i_af (k := 655) (oa_af h0 hA175) hB202).trans (by rw [e176]; exact up2_self)))) (rg_w (⟨by decide, by decide⟩ : Rg 20 20 20)))), (rg_cast (i_af (k := 658) h0 hA216) (rg_w g658))⟩), rfl, rfl⟩⟩)
  · skip
    have h220 : Rg 112 2147483647 x1 := rg_le_r (⟨by decide, by decide⟩ : Rg 112 112 112) (rg_all x1) (nlt_le q101)
    refine tt_iload_n (j := 1) dX10_readJumps_6 rfl ?_
    refine tt_sipush (v := 128) dX10_readJumps_7 rfl ?_
    refine tt_icmp_ge (tgt := 25) dX10_readJumps_10 rfl (fun q221 => ?_) (fun q221 => ?_)
    · skip
      have h222 : Rg 128 2147483647 x1 := rg_le_r (⟨by decide, by decide⟩ : Rg 128 128 128) h220 q221
      refine tt_iload_n (j := 1) dX10_readJumps_25 rfl ?_
      refine tt_sipush (v := 235) dX10_readJumps_26 rfl ?_
      refine tt_icmp_eq (tgt := 39) dX10_readJumps_29 rfl (fun q223 => ?_) (fun q223 => ?_)
      · skip
        have h224 : Rg 235 235 x1 := rg_eq_l h222 (⟨by decide, by decide⟩ : Rg 235 235 235) q223
        refine tt_aload_n (j := 0) dX10_readJumps_39 rfl ?_
        refine tt_bipush (v := 20) dX10_readJumps_40 rfl ?_
        refine gt_pI (id := 655) (x := 20) dX10_readJumps_42 fl_10_107 rfl rfl h0 hA rfl rfl rfl (gp_I hG) (by decide) (fun h => absurd h (by decide)) (fun h => absurd h (by decide)) (fun S225 hG226 hA227 e228 f229 er230 => ?_)
        refine tt_aload_n (j := 0) dX10_readJumps_45 rfl ?_
        refine tt_aload_n (j := 0) dX10_readJumps_46 rfl ?_
        refine tt_iload_n (j := 1) dX10_readJumps_47 rfl ?_
        refine tt_sipush (v := 235) dX10_readJumps_48 rfl ?_
        refine tt_icmp_ne (tgt := 58) dX10_readJumps_51 rfl (fun q231 => ?_) (fun q231 => ?_)
        · skip
          have h232 : Rg 236 235 x1 := rg_ne_lo h224 (⟨by decide, by decide⟩ : Rg 235 235 235) q231
          exact rg_no h232
        · skip
          refine tt_iconst (v := 1) dX10_readJumps_54 rfl ?_
          refine tt_goto (tgt := 59) dX10_readJumps_55 rfl ?_
          refine gt_VJ (As := [.int 1]) dX10_readJumps_59 ca_X10_103 ⟨by decide, by decide⟩ h0 hA227 rfl (Nat.le_of_ble_eq_true rfl) (Nat.le_of_ble_eq_true rfl) (by decide) (cs_X10_number hG226 (oa_af h0 hA227) (fun _ _ _ _ h => h)) rfl (fun _ h => nomatch h) (fun S233 y238 hx237 hG234 hB235 hA236 => ?_)
          refine gt_pJ (id := 660) (x := y238) dX10_readJumps_62 fl_10_116 rfl rfl h0 hA236 rfl rfl rfl hG234 (fun S240 hG241 hA242 e243 f244 er245 => ?_)
          refine tt_aload_n (j := 0) dX10_readJumps_65 rfl ?_
          refine tt_aload_n (j := 0) dX10_readJumps_66 rfl ?_
          refine gt_gJ (id := 660) (v := y238) dX10_readJumps_67 fl_10_116 rfl rfl h0 hA242 (by rw [f244]; exact up2_self) ?_
          refine tt_aload_n (j := 0) dX10_readJumps_70 rfl ?_
          refine tt_getI (id := 654) dX10_readJumps_71 fl_10_81 rfl rfl (ob_af h0 hA242) ?_
          refine tt_i2l dX10_readJumps_74 ?_
          refine tt_ladd dX10_readJumps_75 (gt_tl (fun y246 => ?_))
          refine gt_pJ (id := 660) (x := y246) dX10_readJumps_76 fl_10_116 rfl rfl h0 hA242 rfl rfl rfl hG241 (fun S247 hG248 hA249 e250 f251 er252 => ?_)
          refine tt_goto (tgt := 117) dX10_readJumps_79 rfl ?_
          exact tt_vreturn dX10_readJumps_117 rfl (hP _ _ _ _ ⟨hG248, hA249, Or.inl ⟨_, rfl, rfl, (fun q => ⟨(Or.inl (rg_cast ((congrFun (congrFun e250 655) o0).trans ((congrFun (congrFun e243 655) o0).trans ((i_af (k := 655) (oa_af h0 hA227) hB235).trans (by rw [e228]; exact up2_self)))) (rg_w (⟨by decide, by decide⟩ : Rg 20 20 20)))), (rg_cast (i_af (k := 658) h0 hA249) (rg_w g658))⟩), rfl, rfl⟩⟩)
      · skip
        refine tt_iload_n (j := 1) dX10_readJumps_32 rfl ?_
        refine tt_sipush (v := 233) dX10_readJumps_33 rfl ?_
        refine tt_icmp_ne (tgt := 82) dX10_readJumps_36 rfl (fun q253 => ?_) (fun q253 => ?_)
        · skip
          refine tt_iload_n (j := 1) dX10_readJumps_82 rfl ?_
          refine tt_sipush (v := 195) dX10_readJumps_83 rfl ?_
          refine tt_icmp_eq (tgt := 96) dX10_readJumps_86 rfl (fun q254 => ?_) (fun q254 => ?_)
          · skip
            have h255 : Rg 195 195 x1 := rg_eq_l h222 (⟨by decide, by decide⟩ : Rg 195 195 195) q254
            refine tt_aload_n (j := 0) dX10_readJumps_96 rfl ?_
            refine tt_bipush (v := 22) dX10_readJumps_97 rfl ?_
            refine gt_pI (id := 655) (x := 22) dX10_readJumps_99 fl_10_107 rfl rfl h0 hA rfl rfl rfl (gp_I hG) (by decide) (fun h => absurd h (by decide)) (fun h => absurd h (by decide)) (fun S256 hG257 hA258 e259 f260 er261 => ?_)
            refine tt_goto (tgt := 117) dX10_readJumps_102 rfl ?_
            exact tt_vreturn dX10_readJumps_117 rfl (hP _ _ _ _ ⟨hG257, hA258, Or.inl ⟨_, rfl, rfl, (fun q => ⟨(Or.inl (rg_cast (by rw [e259]; exact up2_self) (rg_w (⟨by decide, by decide⟩ : Rg 22 22 22)))), (rg_cast (i_af (k := 658) h0 hA258) (rg_w g658))⟩), rfl, rfl⟩⟩)
          · skip
            refine tt_iload_n (j := 1) dX10_readJumps_89 rfl ?_
            refine tt_sipush (v := 244) dX10_readJumps_90 rfl ?_
            refine tt_icmp_ne (tgt := 105) dX10_readJumps_93 rfl (fun q262 => ?_) (fun q262 => ?_)
            · skip
              refine tt_iload_n (j := 1) dX10_readJumps_105 rfl ?_
              refine tt_sipush (v := 144) dX10_readJumps_106 rfl ?_
              refine tt_icmp_eq (tgt := 117) dX10_readJumps_109 rfl (fun q263 => ?_) (fun q263 => ?_)
              · skip
                have h264 : Rg 144 144 x1 := rg_eq_l h222 (⟨by decide, by decide⟩ : Rg 144 144 144) q263
                exact tt_vreturn dX10_readJumps_117 rfl (hP _ _ _ _ ⟨hG, hA, Or.inl ⟨_, rfl, rfl, (fun q => ⟨(Or.inl (rg_w g655)), (rg_w g658)⟩), rfl, rfl⟩⟩)
              · skip
                refine tt_aload_n (j := 0) dX10_readJumps_112 rfl ?_
                refine tt_iconst (v := 1) dX10_readJumps_113 rfl ?_
                refine gt_pI (id := 662) (x := 1) dX10_readJumps_114 fl_10_84 rfl rfl h0 hA rfl rfl rfl (gp_Ir hG (⟨by decide, by decide⟩ : Rg 1 1 1)) (by decide) (fun _ _ q => absurd q (by decide)) (fun h => absurd h (by decide)) (fun S265 hG266 hA267 e268 f269 er270 => ?_)
                exact tt_vreturn dX10_readJumps_117 rfl (hP _ _ _ _ ⟨hG266, hA267, Or.inl ⟨_, rfl, rfl, (fun q => ⟨(Or.inl (rg_cast ((congrFun (congrFun e268 655) o0).trans ((congrFun (up2_ne (k := 655)) o0).trans rfl)) (rg_w g655))), (rg_cast (i_af (k := 658) h0 hA267) (rg_w g658))⟩), rfl, rfl⟩⟩)
            · skip
              have h271 : Rg 244 244 x1 := rg_eq_l h222 (⟨by decide, by decide⟩ : Rg 244 244 244) q262
              refine tt_aload_n (j := 0) dX10_readJumps_96 rfl ?_
              refine tt_bipush (v := 22) dX10_readJumps_97 rfl ?_
              refine gt_pI (id := 655) (x := 22) dX10_readJumps_99 fl_10_107 rfl rfl h0 hA rfl rfl rfl (gp_I hG) (by decide) (fun h => absurd h (by decide)) (fun h => absurd h (by decide)) (fun S272 hG273 hA274 e275 f276 er277 => ?_)
              refine tt_goto (tgt := 117) dX10_readJumps_102 rfl ?_
              exact tt_vreturn dX10_readJumps_117 rfl (hP _ _ _ _ ⟨hG273, hA274, Or.inl ⟨_, rfl, rfl, (fun q => ⟨(Or.inl (rg_cast (by rw [e275]; exact up2_self) (rg_w (⟨by decide, by decide⟩ : Rg 22 22 22)))), (rg_cast (i_af (k := 658) h0 hA274) (rg_w g658))⟩), rfl, rfl⟩⟩)
        · skip
          have h278 : Rg 233 233 x1 := rg_eq_l h222 (⟨by decide, by decide⟩ : Rg 233 233 233) q253
          refine tt_aload_n (j := 0) dX10_readJumps_39 rfl ?_
          refine tt_bipush (v := 20) dX10_readJumps_40 rfl ?_
          refine gt_pI (id := 655) (x := 20) dX10_readJumps_42 fl_10_107 rfl rfl h0 hA rfl rfl rfl (gp_I hG) (by decide) (fun h => absurd h (by decide)) (fun h => absurd h (by decide)) (fun S279 hG280 hA281 e282 f283 er284 => ?_)
          refine tt_aload_n (j := 0) dX10_readJumps_45 rfl ?_
          refine tt_aload_n (j := 0) dX10_readJumps_46 rfl ?_
          refine tt_iload_n (j := 1) dX10_readJumps_47 rfl ?_
          refine tt_sipush (v := 235) dX10_readJumps_48 rfl ?_
          refine tt_icmp_ne (tgt := 58) dX10_readJumps_51 rfl (fun q285 => ?_) (fun q285 => ?_)
          · skip
            refine tt_iconst (v := 4) dX10_readJumps_58 rfl ?_
            refine gt_VJ (As := [.int 4]) dX10_readJumps_59 ca_X10_103 ⟨by decide, by decide⟩ h0 hA281 rfl (Nat.le_of_ble_eq_true rfl) (Nat.le_of_ble_eq_true rfl) (by decide) (cs_X10_number hG280 (oa_af h0 hA281) (fun _ _ _ _ h => h)) rfl (fun _ h => nomatch h) (fun S286 y291 hx290 hG287 hB288 hA289 => ?_)
            refine gt_pJ (id := 660) (x := y291) dX10_readJumps_62 fl_10_116 rfl rfl h0 hA289 rfl rfl rfl hG287 (fun S293 hG294 hA295 e296 f297 er298 => ?_)
            refine tt_aload_n (j := 0) dX10_readJumps_65 rfl ?_
            refine tt_aload_n (j := 0) dX10_readJumps_66 rfl ?_
            refine gt_gJ (id := 660) (v := y291) dX10_readJumps_67 fl_10_116 rfl rfl h0 hA295 (by rw [f297]; exact up2_self) ?_
            refine tt_aload_n (j := 0) dX10_readJumps_70 rfl ?_
            refine tt_getI (id := 654) dX10_readJumps_71 fl_10_81 rfl rfl (ob_af h0 hA295) ?_
            refine tt_i2l dX10_readJumps_74 ?_
            refine tt_ladd dX10_readJumps_75 (gt_tl (fun y299 => ?_))
            refine gt_pJ (id := 660) (x := y299) dX10_readJumps_76 fl_10_116 rfl rfl h0 hA295 rfl rfl rfl hG294 (fun S300 hG301 hA302 e303 f304 er305 => ?_)
            refine tt_goto (tgt := 117) dX10_readJumps_79 rfl ?_
            exact tt_vreturn dX10_readJumps_117 rfl (hP _ _ _ _ ⟨hG301, hA302, Or.inl ⟨_, rfl, rfl, (fun q => ⟨(Or.inl (rg_cast ((congrFun (congrFun e303 655) o0).trans ((congrFun (congrFun e296 655) o0).trans ((i_af (k := 655) (oa_af h0 hA281) hB288).trans (by rw [e282]; exact up2_self)))) (rg_w (⟨by decide, by decide⟩ : Rg 20 20 20)))), (rg_cast (i_af (k := 658) h0 hA302) (rg_w g658))⟩), rfl, rfl⟩⟩)
          · skip
            refine tt_iconst (v := 1) dX10_readJumps_54 rfl ?_
            refine tt_goto (tgt := 59) dX10_readJumps_55 rfl ?_
            refine gt_VJ (As := [.int 1]) dX10_readJumps_59 ca_X10_103 ⟨by decide, by decide⟩ h0 hA281 rfl (Nat.le_of_ble_eq_true rfl) (Nat.le_of_ble_eq_true rfl) (by decide) (cs_X10_number hG280 (oa_af h0 hA281) (fun _ _ _ _ h => h)) rfl (fun _ h => nomatch h) (fun S306 y311 hx310 hG307 hB308 hA309 => ?_)
            refine gt_pJ (id := 660) (x := y311) dX10_readJumps_62 fl_10_116 rfl rfl h0 hA309 rfl rfl rfl hG307 (fun S313 hG314 hA315 e316 f317 er318 => ?_)
            refine tt_aload_n (j := 0) dX10_readJumps_65 rfl ?_
            refine tt_aload_n (j := 0) dX10_readJumps_66 rfl ?_
            refine gt_gJ (id := 660) (v := y311) dX10_readJumps_67 fl_10_116 rfl rfl h0 hA315 (by rw [f317]; exact up2_self) ?_
            refine tt_aload_n (j := 0) dX10_readJumps_70 rfl ?_
            refine tt_getI (id := 654) dX10_readJumps_71 fl_10_81 rfl rfl (ob_af h0 hA315) ?_
            refine tt_i2l dX10_readJumps_74 ?_
            refine tt_ladd dX10_readJumps_75 (gt_tl (fun y319 => ?_))
            refine gt_pJ (id := 660) (x := y319) dX10_readJumps_76 fl_10_116 rfl rfl h0 hA315 rfl rfl rfl hG314 (fun S320 hG321 hA322 e323 f324 er325 => ?_)
            refine tt_goto (tgt := 117) dX10_readJumps_79 rfl ?_
            exact tt_vreturn dX10_readJumps_117 rfl (hP _ _ _ _ ⟨hG321, hA322, Or.inl ⟨_, rfl, rfl, (fun q => ⟨(Or.inl (rg_cast ((congrFun (congrFun e323 655) o0).trans ((congrFun (congrFun e316 655) o0).trans ((i_af (k := 655) (oa_af h0 hA281) hB308).trans (by rw [e282]; exact up2_self)))) (rg_w (⟨by decide, by decide⟩ : Rg 20 20 20)))), (rg_cast (i_af (k := 658) h0 hA322) (rg_w g658))⟩), rfl, rfl⟩⟩)
    · skip
      have h326 : Rg 112 127 x1 := rg_lt_l h220 (⟨by decide, by decide⟩ : Rg 128 128 128) (nle_lt q221)
      refine tt_aload_n (j := 0) dX10_readJumps_13 rfl ?_
      refine tt_iload_n (j := 1) dX10_readJumps_14 rfl ?_
      refine tt_bipush (v := 112) dX10_readJumps_15 rfl ?_
      refine tt_isub dX10_readJumps_17 ?_
      refine tt_iconst (v := 1) dX10_readJumps_18 rfl ?_
      refine gt_Vv (As := [.int (x1 - 112), .int 1]) dX10_readJumps_19 ca_X10_150 ⟨by decide, by decide⟩ h0 hA rfl (Nat.le_of_ble_eq_true rfl) (Nat.le_of_ble_eq_true rfl) (by decide) (cs_X10_readIf hG (oa_af h0 hA) (rg_w g655) (rg_w g658) (fun _ _ _ _ h => h)) rfl (fun _ h => nomatch h) (fun S327 hx331 hG328 hB329 hA330 => ?_)
      refine tt_goto (tgt := 117) dX10_readJumps_22 rfl ?_
      exact tt_vreturn dX10_readJumps_117 rfl (hP _ _ _ _ ⟨hG328, hA330, Or.inl ⟨_, rfl, rfl, hx331, rfl, rfl⟩⟩)
