set_option maxHeartbeats 4000000 in
theorem cs_X10_oneMore {xi : SX} {S : Hp} {E : List Nat} {kc nc : Nat} {P : Po} {o0 : Nat} (hG : GI S E) (h0 : Oa S E 10 0 o0) (hh : ¬ hp_I S 664 o0 = -1) (hP : ∀ r T x y, PV E [654, 655, 656, 657, 658, 659, 661, 662, 664, 667, 668, 669, 670, 671, 672, 673, 674, 675, 9990, 9998] S kc nc (rI (-2147483648) 2147483647) ex0 [] r T x y → P r T x y) : TT xi M_X10_oneMore 0 [(0, .ref o0)] [] S kc nc P := by
  have hA : Af E [654, 655, 656, 657, 658, 659, 661, 662, 664, 667, 668, 669, 670, 671, 672, 673, 674, 675, 9990, 9998] S S := af_rf
  refine tt_aload_n (j := 0) dX10_oneMore_0 rfl ?_
  refine tt_getI (id := 664) dX10_oneMore_1 fl_10_45 rfl rfl (ob_af h0 hA) ?_
  refine tt_bipush (v := (-2)) dX10_oneMore_4 rfl ?_
  refine tt_icmp_ne (tgt := 11) dX10_oneMore_6 rfl (fun q101 => ?_) (fun q101 => ?_)
  · skip
    have h102 : Rg (-1) 199 (hp_I S 664 o0) := rg_ne_lo (gi_I (k := 664) hG (oa_af h0 hA) (-2) 199) (⟨by decide, by decide⟩ : Rg (-2) (-2) (-2)) q101
    have h103 : Rg 0 199 (hp_I S 664 o0) := rg_ne_lo h102 (⟨by decide, by decide⟩ : Rg (-1) (-1) (-1)) hh
    refine tt_aload_n (j := 0) dX10_oneMore_11 rfl ?_
    refine tt_aload_n (j := 0) dX10_oneMore_12 rfl ?_
    refine tt_getI (id := 664) dX10_oneMore_13 fl_10_45 rfl rfl (ob_af h0 hA) ?_
    refine gt_VI (As := [.int (hp_I S 664 o0)]) dX10_oneMore_16 ca_X10_155 ⟨by decide, by decide⟩ h0 hA rfl (Nat.le_of_ble_eq_true rfl) (Nat.le_of_ble_eq_true rfl) (by decide) (cs_X10_read hG (oa_af h0 hA) (rg_w h103) (fun _ _ _ _ h => h)) rfl (fun _ h => nomatch h) (fun S104 x109 h110 hx108 hG105 hB106 hA107 => ?_)
    refine tt_if_ne (tgt := 24) dX10_oneMore_19 rfl (fun q111 => ?_) (fun q111 => ?_)
    · skip
      have h112 : Rg 1 1 x109 := rg_ne_lo h110 (⟨by decide, by decide⟩ : Rg 0 0 0) q111
      have hE113 := (hx108 _ rfl q111)
      refine tt_aload_n (j := 0) dX10_oneMore_24 rfl ?_
      refine tt_getI (id := 655) dX10_oneMore_25 fl_10_107 rfl rfl (ob_af h0 hA107) ?_
      refine tt_bipush (v := 22) dX10_oneMore_28 rfl ?_
      refine tt_icmp_ne (tgt := 35) dX10_oneMore_30 rfl (fun q114 => ?_) (fun q114 => ?_)
      · skip
        refine tt_aload_n (j := 0) dX10_oneMore_35 rfl ?_
        refine tt_getI (id := 655) dX10_oneMore_36 fl_10_107 rfl rfl (ob_af h0 hA107) ?_
        refine tt_bipush (v := 19) dX10_oneMore_39 rfl ?_
        have B115 : TT xi M_X10_oneMore 53 [(0, .ref o0)] [] S104 kc nc P := by
          refine tt_aload_n (j := 0) dX10_oneMore_53 rfl ?_
          refine gt_gI (id := 664) (v := (hp_I S 664 o0)) dX10_oneMore_54 fl_10_45 rfl rfl h0 hA107 ((i_af (k := 664) (oa_af h0 hA) hB106).trans rfl) ?_
          refine tt_aload_n (j := 0) dX10_oneMore_57 rfl ?_
          refine tt_getI (id := 661) dX10_oneMore_58 fl_10_134 rfl rfl (ob_af h0 hA107) ?_
          refine tt_iadd dX10_oneMore_61 ?_
          refine tt_i2l dX10_oneMore_62 ?_
          refine tt_lstore_n (ks := [0, 1]) (L' := [(1, .long (((hp_I S 664 o0) + (hp_I S104 661 o0)) : Int32).toInt64), (0, .ref o0)]) dX10_oneMore_63 (by decide) rfl ?_
          refine tt_aload_n (j := 1) dX10_oneMore_64 rfl ?_
          refine tt_getI (id := 655) dX10_oneMore_65 fl_10_107 rfl rfl (ob_af h0 hA107) ?_
          refine tt_bipush (v := 19) dX10_oneMore_68 rfl ?_
          have B116 : ∀ (S117 : Hp) (y120 : Int64), GI S117 E → Af E [654, 655, 656, 657, 658, 659, 661, 662, 664, 667, 668, 669, 670, 671, 672, 673, 674, 675, 9990, 9998] S S117 → TT xi M_X10_oneMore 114 [(0, .ref o0), (1, .long y120)] [] S117 kc nc P := by
            intro S117 y120 hG118 hA119
            refine tt_aload_n (j := 0) dX10_oneMore_114 rfl ?_
            refine tt_lload_n (j := 1) dX10_oneMore_115 rfl ?_
            refine tt_lconst (v := 0) dX10_oneMore_116 rfl ?_
            refine tt_aload_n (j := 0) dX10_oneMore_117 rfl ?_
            refine gt_gI (id := 642) (v := (hp_I S 642 o0)) dX10_oneMore_118 fl_10_71 rfl rfl h0 hA119 (i_af (k := 642) h0 hA119) ?_
            refine tt_iconst (v := 1) dX10_oneMore_121 rfl ?_
            refine tt_isub dX10_oneMore_122 ?_
            refine tt_i2l dX10_oneMore_123 ?_
            refine gt_SIp (As := [.long y120, .long 0, .long (((hp_I S 642 o0) - 1) : Int32).toInt64]) dX10_oneMore_124 ca_X10_67 ⟨by decide, by decide⟩ hA119 (Nat.le_of_ble_eq_true rfl) (Nat.le_of_ble_eq_true rfl) (by decide) (cs_X10_isIn hG118  (fun _ _ _ _ h => h)) rfl (fun _ h => nomatch h) (fun _ _ q => q.1) (fun x126 h127 hx125 => ?_)
            refine tt_if_eq (tgt := 135) dX10_oneMore_127 rfl (fun q128 => ?_) (fun q128 => ?_)
            · skip
              have h129 : Rg 0 0 x126 := rg_eq_l h127 (⟨by decide, by decide⟩ : Rg 0 0 0) q128
              refine tt_bipush (v := (-2)) dX10_oneMore_135 rfl ?_
              refine gt_pI (id := 664) (x := (-2)) dX10_oneMore_137 fl_10_45 rfl rfl h0 hA119 rfl rfl rfl (gp_Ir hG118 (⟨by decide, by decide⟩ : Rg (-2) (-2) (-2))) (by decide) (fun h => absurd h (by decide)) (fun _ _ _ => rg_nec (⟨by decide, by decide⟩ : Rg (-2) (-2) (-2))) (fun S130 hG131 hA132 e133 f134 er135 => ?_)
              refine tt_iconst (v := 0) dX10_oneMore_140 rfl ?_
              exact tt_ireturn dX10_oneMore_141 .int rfl rfl (hP _ _ _ _ ⟨hG131, hA132, Or.inl ⟨_, rfl, ⟨_, rfl, rg_w (⟨by decide, by decide⟩ : Rg 0 0 0)⟩, trivial, rfl, rfl⟩⟩)
            · skip
              have h136 : Rg 1 1 x126 := rg_ne_lo h127 (⟨by decide, by decide⟩ : Rg 0 0 0) q128
              have h137 : Rl 0 199 y120 := in_rl ((fun z e => (hx125.2 z e).1) _ rfl q128) (⟨by decide, by decide⟩ : Rl 0 0 0) (rg_i2l (rg_sub (lo := (-1)) (hi := 199) (gi_I (k := 642) hG (oa_af h0 hA) 0 200) (⟨by decide, by decide⟩ : Rg 1 1 1)))
              refine tt_lload_n (j := 1) dX10_oneMore_130 rfl ?_
              refine tt_l2i dX10_oneMore_131 ?_
              refine tt_goto (tgt := 137) dX10_oneMore_132 rfl ?_
              refine gt_pI (id := 664) (x := (y120 : Int64).toInt32) dX10_oneMore_137 fl_10_45 rfl rfl h0 hA119 rfl rfl rfl (gp_Ir hG118 (rl_l2i h137)) (by decide) (fun h => absurd h (by decide)) (fun _ _ _ => rg_nec (rl_l2i h137)) (fun S138 hG139 hA140 e141 f142 er143 => ?_)
              refine tt_iconst (v := 0) dX10_oneMore_140 rfl ?_
              exact tt_ireturn dX10_oneMore_141 .int rfl rfl (hP _ _ _ _ ⟨hG139, hA140, Or.inl ⟨_, rfl, ⟨_, rfl, rg_w (⟨by decide, by decide⟩ : Rg 0 0 0)⟩, trivial, rfl, rfl⟩⟩)
          refine tt_icmp_ge (tgt := 80) dX10_oneMore_70 rfl (fun q144 => ?_) (fun q144 => ?_)
          · skip
            have h145 : Rg 19 2147483647 (hp_I S104 655 o0) := rg_le_r (⟨by decide, by decide⟩ : Rg 19 19 19) (rg_all (hp_I S104 655 o0)) q144
            refine tt_aload_n (j := 1) dX10_oneMore_80 rfl ?_
            refine tt_getI (id := 655) dX10_oneMore_81 fl_10_107 rfl rfl (ob_af h0 hA107) ?_
            refine tt_bipush (v := 20) dX10_oneMore_84 rfl ?_
            have B146 : TT xi M_X10_oneMore 109 [(0, .ref o0), (1, .long (((hp_I S 664 o0) + (hp_I S104 661 o0)) : Int32).toInt64)] [] S104 kc nc P := by
              refine tt_aload_n (j := 0) dX10_oneMore_109 rfl ?_
              refine gt_gJ (id := 660) (v := (hp_J S104 660 o0)) dX10_oneMore_110 fl_10_116 rfl rfl h0 hA107 rfl ?_
              refine tt_lstore_n (ks := [0, 1]) (L' := [(1, .long (hp_J S104 660 o0)), (0, .ref o0)]) dX10_oneMore_113 (by decide) rfl ?_
              exact tt_loc (ks := [1, 0]) rfl (B116 S104 (hp_J S104 660 o0) hG105 hA107)
            refine tt_icmp_eq (tgt := 109) dX10_oneMore_86 rfl (fun q147 => ?_) (fun q147 => ?_)
            · skip
              have h148 : Rg 20 20 (hp_I S104 655 o0) := rg_eq_l h145 (⟨by decide, by decide⟩ : Rg 20 20 20) q147
              exact tt_loc (ks := [1, 0]) rfl (B146 )
            · skip
              refine tt_aload_n (j := 1) dX10_oneMore_89 rfl ?_
              refine tt_getI (id := 655) dX10_oneMore_90 fl_10_107 rfl rfl (ob_af h0 hA107) ?_
              refine tt_bipush (v := 19) dX10_oneMore_93 rfl ?_
              refine tt_icmp_ne (tgt := 114) dX10_oneMore_95 rfl (fun q149 => ?_) (fun q149 => ?_)
              · skip
                have h150 : Rg 20 2147483647 (hp_I S104 655 o0) := rg_ne_lo h145 (⟨by decide, by decide⟩ : Rg 19 19 19) q149
                exact tt_loc (ks := [1, 0]) rfl (B116 S104 (((hp_I S 664 o0) + (hp_I S104 661 o0)) : Int32).toInt64 hG105 hA107)
              · skip
                have h151 : Rg 19 19 (hp_I S104 655 o0) := rg_eq_l h145 (⟨by decide, by decide⟩ : Rg 19 19 19) q149
                refine tt_aload_n (j := 1) dX10_oneMore_98 rfl ?_
                refine tt_aload_n (j := 1) dX10_oneMore_99 rfl ?_
                refine tt_getI (id := 659) dX10_oneMore_100 fl_10_120 rfl rfl (ob_af h0 hA107) ?_
                refine gt_VIp (As := [.int (hp_I S104 659 o0)]) dX10_oneMore_103 ca_X10_363 ⟨by decide, by decide⟩ h0 hA107 rfl (Nat.le_of_ble_eq_true rfl) (Nat.le_of_ble_eq_true rfl) (by decide) (cs_X10_holds hG105 (oa_af h0 hA107) (fun _ _ _ _ h => h)) rfl (fun _ h => nomatch h) (fun _ _ q => q) (fun x157 h158 hx156 => ?_)
                refine tt_if_eq (tgt := 114) dX10_oneMore_106 rfl (fun q159 => ?_) (fun q159 => ?_)
                · skip
                  have h160 : Rg 0 0 x157 := rg_eq_l h158 (⟨by decide, by decide⟩ : Rg 0 0 0) q159
                  exact tt_loc (ks := [1, 0]) rfl (B116 S104 (((hp_I S 664 o0) + (hp_I S104 661 o0)) : Int32).toInt64 hG105 hA107)
                · skip
                  have h161 : Rg 1 1 x157 := rg_ne_lo h158 (⟨by decide, by decide⟩ : Rg 0 0 0) q159
                  exact tt_loc (ks := [1, 0]) rfl (B146 )
          · skip
            have h162 : Rg (-2147483648) 18 (hp_I S104 655 o0) := rg_lt_l (rg_all (hp_I S104 655 o0)) (⟨by decide, by decide⟩ : Rg 19 19 19) (nle_lt q144)
            refine tt_aload_n (j := 1) dX10_oneMore_73 rfl ?_
            refine gt_Vv (As := []) dX10_oneMore_74 ca_X10_360 ⟨by decide, by decide⟩ h0 hA107 rfl (Nat.le_of_ble_eq_true rfl) (Nat.le_of_ble_eq_true rfl) (by decide) (cs_X10_run hG105 (oa_af h0 hA107) (rg_w (ex_g hE113.1 h162)) (rg_w hE113.2) (fun _ _ _ _ h => h)) rfl (fun _ h => nomatch h) (fun S163 hx167 hG164 hB165 hA166 => ?_)
            refine tt_goto (tgt := 114) dX10_oneMore_77 rfl ?_
            exact tt_loc (ks := [1, 0]) rfl (B116 S163 (((hp_I S 664 o0) + (hp_I S104 661 o0)) : Int32).toInt64 hG164 hA166)
        refine tt_icmp_ne (tgt := 53) dX10_oneMore_41 rfl (fun q168 => ?_) (fun q168 => ?_)
        · skip
          exact B115 
        · skip
          have h169 : Rg 19 19 (hp_I S104 655 o0) := rg_eq_l (rg_all (hp_I S104 655 o0)) (⟨by decide, by decide⟩ : Rg 19 19 19) q168
          refine tt_aload_n (j := 0) dX10_oneMore_44 rfl ?_
          refine tt_getI (id := 667) dX10_oneMore_45 fl_10_316 rfl rfl (ob_af h0 hA107) ?_
          refine tt_if_eq (tgt := 53) dX10_oneMore_48 rfl (fun q170 => ?_) (fun q170 => ?_)
          · skip
            have h171 : Rg 0 0 (hp_I S104 667 o0) := rg_eq_l (gi_I (k := 667) hG105 (oa_af h0 hA107) 0 1) (⟨by decide, by decide⟩ : Rg 0 0 0) q170
            exact B115 
          · skip
            have h172 : Rg 1 1 (hp_I S104 667 o0) := rg_ne_lo (gi_I (k := 667) hG105 (oa_af h0 hA107) 0 1) (⟨by decide, by decide⟩ : Rg 0 0 0) q170
            refine tt_iconst (v := 4) dX10_oneMore_51 rfl ?_
            exact tt_ireturn dX10_oneMore_52 .int rfl rfl (hP _ _ _ _ ⟨hG105, hA107, Or.inl ⟨_, rfl, ⟨_, rfl, rg_w (⟨by decide, by decide⟩ : Rg 4 4 4)⟩, trivial, rfl, rfl⟩⟩)
      · skip
        have h173 : Rg 22 22 (hp_I S104 655 o0) := rg_eq_l (rg_all (hp_I S104 655 o0)) (⟨by decide, by decide⟩ : Rg 22 22 22) q114
        refine tt_iconst (v := 1) dX10_oneMore_33 rfl ?_
        exact tt_ireturn dX10_oneMore_34 .int rfl rfl (hP _ _ _ _ ⟨hG105, hA107, Or.inl ⟨_, rfl, ⟨_, rfl, rg_w (⟨by decide, by decide⟩ : Rg 1 1 1)⟩, trivial, rfl, rfl⟩⟩)
    · skip
      have h174 : Rg 0 0 x109 := rg_eq_l h110 (⟨by decide, by decide⟩ : Rg 0 0 0) q111
      refine tt_iconst (v := 2) dX10_oneMore_22 rfl ?_
      exact tt_ireturn dX10_oneMore_23 .int rfl rfl (hP _ _ _ _ ⟨hG105, hA107, Or.inl ⟨_, rfl, ⟨_, rfl, rg_w (⟨by decide, by decide⟩ : Rg 2 2 2)⟩, trivial, rfl, rfl⟩⟩)
  · skip
    have h175 : Rg (-2) (-2) (hp_I S 664 o0) := rg_eq_l (gi_I (k := 664) hG (oa_af h0 hA) (-2) 199) (⟨by decide, by decide⟩ : Rg (-2) (-2) (-2)) q101
    refine tt_iconst (v := 3) dX10_oneMore_9 rfl ?_
    exact tt_ireturn dX10_oneMore_10 .int rfl rfl (hP _ _ _ _ ⟨hG, hA, Or.inl ⟨_, rfl, ⟨_, rfl, rg_w (⟨by decide, by decide⟩ : Rg 3 3 3)⟩, trivial, rfl, rfl⟩⟩)
set_option maxHeartbeats 4000000 in
theorem cs_X10_go {xi : SX} {S : Hp} {E : List Nat} {kc nc : Nat} {P : Po} {o0 : Nat} {x1 : Int32} (hG : GI S E) (h0 : Oa S E 10 0 o0) (hr : ¬ hp_I S 663 o0 = 0 → ¬ hp_I S 664 o0 = -1) (hP : ∀ r T x y, PV E [640, 654, 655, 656, 657, 658, 659, 661, 662, 664, 667, 668, 669, 670, 671, 672, 673, 674, 675, 9990, 9998] S kc nc (rI (-2147483648) 2147483647) ex0 [] r T x y → P r T x y) : TT xi M_X10_go 0 [(0, .ref o0), (1, .int x1)] [] S kc nc P := by
  have hA : Af E [640, 654, 655, 656, 657, 658, 659, 661, 662, 664, 667, 668, 669, 670, 671, 672, 673, 674, 675, 9990, 9998] S S := af_rf
  refine tt_aload_n (j := 0) dX10_go_0 rfl ?_
  refine tt_iload_n (j := 1) dX10_go_1 rfl ?_
  refine tt_i2l dX10_go_2 ?_
  refine tt_lconst (v := 1) dX10_go_3 rfl ?_
  refine tt_ldc2 (v := 1000) dX10_go_4 kl_10_366 ?_
  refine gt_SIp (As := [.long (x1 : Int32).toInt64, .long 1, .long 1000]) dX10_go_7 ca_X10_67 ⟨by decide, by decide⟩ hA (Nat.le_of_ble_eq_true rfl) (Nat.le_of_ble_eq_true rfl) (by decide) (cs_X10_isIn hG  (fun _ _ _ _ h => h)) rfl (fun _ h => nomatch h) (fun _ _ q => q.1) (fun x106 h107 hx105 => ?_)
  refine tt_if_ne (tgt := 17) dX10_go_10 rfl (fun q108 => ?_) (fun q108 => ?_)
  · skip
    have h109 : Rg 1 1 x106 := rg_ne_lo h107 (⟨by decide, by decide⟩ : Rg 0 0 0) q108
    have h110 : Rl 1 1000 (x1 : Int32).toInt64 := in_rl ((fun z e => (hx105.2 z e).1) _ rfl q108) (⟨by decide, by decide⟩ : Rl 1 1 1) (⟨by decide, by decide⟩ : Rl 1000 1000 1000)
    have h111 : Rg 1 1000 x1 := rg_of_l h110
    refine tt_aload_n (j := 0) dX10_go_17 rfl ?_
    refine tt_getI (id := 663) dX10_go_18 fl_10_62 rfl rfl (ob_af h0 hA) ?_
    refine tt_if_ne (tgt := 28) dX10_go_21 rfl (fun q112 => ?_) (fun q112 => ?_)
    · skip
      have h113 : Rg 1 1 (hp_I S 663 o0) := rg_ne_lo (gi_I (k := 663) hG (oa_af h0 hA) 0 1) (⟨by decide, by decide⟩ : Rg 0 0 0) q112
      refine tt_iconst (v := 0) dX10_go_28 rfl ?_
      refine gt_VI (As := [.int 0]) dX10_go_29 ca_X10_74 ⟨by decide, by decide⟩ h0 hA rfl (Nat.le_of_ble_eq_true rfl) (Nat.le_of_ble_eq_true rfl) (by decide) (cs_X10_refused hG (oa_af h0 hA) (fun _ _ _ _ h => h)) rfl (fun _ h => nomatch h) (fun S114 x119 h120 hx118 hG115 hB116 hA117 => ?_)
      obtain rfl := (hx118.1 _ rfl).trans (show bI (0 < (0 : Int32)) = 0 by decide)
      refine tt_if_eq (tgt := 37) dX10_go_32 rfl (fun _ => ?_) (fun q => absurd q (by decide))
      refine tt_iconst (v := 0) dX10_go_37 rfl ?_
      refine tt_istore_n (ks := [0, 1, 2]) (L' := [(2, .int 0), (0, .ref o0), (1, .int x1)]) dX10_go_38 (by decide) rfl ?_
      have B121 : ∀ (nn : Nat) (S122 : Hp) (x125 : Int32), (2147483648 - x125.toInt).toNat = nn → GI S122 E → Af E [640, 654, 655, 656, 657, 658, 659, 661, 662, 664, 667, 668, 669, 670, 671, 672, 673, 674, 675, 9990, 9998] S S122 → Rg 0 1000 x125 → TT xi M_X10_go 39 [(0, .ref o0), (1, .int x1), (2, .int x125)] [] S122 kc nc P := by
        intro nn
        induction nn using Nat.strongRecOn with
        | ind nn ihB121 =>
          intro S122 x125 hmB121 hG123 hA124 h126
          subst hmB121
          refine tt_iload_n (j := 2) dX10_go_39 rfl ?_
          refine tt_iload_n (j := 1) dX10_go_40 rfl ?_
          refine tt_icmp_ge (tgt := 61) dX10_go_41 rfl (fun q127 => ?_) (fun q127 => ?_)
          · skip
            have h128 : Rg 1 1000 x125 := rg_le_r h111 h126 q127
            refine tt_iconst (v := 0) dX10_go_61 rfl ?_
            exact tt_ireturn dX10_go_62 .int rfl rfl (hP _ _ _ _ ⟨hG123, hA124, Or.inl ⟨_, rfl, ⟨_, rfl, rg_w (⟨by decide, by decide⟩ : Rg 0 0 0)⟩, trivial, rfl, rfl⟩⟩)
          · skip
            have h129 : Rg 0 999 x125 := rg_lt_l h126 h111 (nle_lt q127)
            refine tt_aload_n (j := 0) dX10_go_44 rfl ?_
            refine gt_VI (As := []) dX10_go_45 ca_X10_368 ⟨by decide, by decide⟩ h0 hA124 rfl (Nat.le_of_ble_eq_true rfl) (Nat.le_of_ble_eq_true rfl) (by decide) (cs_X10_oneMore hG123 (oa_af h0 hA124) (he_af h0 hA124 (hr q112)) (fun _ _ _ _ h => h)) rfl (fun _ h => nomatch h) (fun S130 x135 h136 hx134 hG131 hB132 hA133 => ?_)
            refine tt_istore_n (ks := [0, 1, 2, 3]) (L' := [(3, .int x135), (0, .ref o0), (1, .int x1), (2, .int x125)]) dX10_go_48 (by decide) rfl ?_
            refine tt_iload_n (j := 0) dX10_go_49 rfl ?_
            refine tt_if_le (tgt := 55) dX10_go_50 rfl (fun q137 => ?_) (fun q137 => ?_)
            · skip
              have h138 : Rg (-2147483648) 0 x135 := rg_le_l h136 (⟨by decide, by decide⟩ : Rg 0 0 0) q137
              refine tt_iinc (j := 3) (v := (x125 + 1)) (ks := [0, 1, 2, 3]) (L' := [(2, .int (x125 + 1)), (3, .int x135), (0, .ref o0), (1, .int x1)]) dX10_go_55 rfl rfl (by decide) rfl ?_
              refine tt_goto (tgt := 39) dX10_go_58 rfl ?_
              exact tt_loc (ks := [2, 3, 0]) rfl (ihB121 _ (rg_up h129) S130 (x125 + 1) rfl hG131 hA133 (rg_w (rg_add (lo := 1) (hi := 1000) h129 (⟨by decide, by decide⟩ : Rg 1 1 1))))
            · skip
              have h139 : Rg 1 2147483647 x135 := rg_lt_r (⟨by decide, by decide⟩ : Rg 0 0 0) h136 (nle_lt q137)
              refine tt_iload_n (j := 0) dX10_go_53 rfl ?_
              exact tt_ireturn dX10_go_54 .int rfl rfl (hP _ _ _ _ ⟨hG131, hA133, Or.inl ⟨_, rfl, ⟨_, rfl, rg_w h139⟩, trivial, rfl, rfl⟩⟩)
      exact tt_loc (ks := [1, 2, 0]) rfl (B121 _ S114 0 rfl hG115 hA117 (rg_w (⟨by decide, by decide⟩ : Rg 0 0 0)))
    · skip
      have h140 : Rg 0 0 (hp_I S 663 o0) := rg_eq_l (gi_I (k := 663) hG (oa_af h0 hA) 0 1) (⟨by decide, by decide⟩ : Rg 0 0 0) q112
      refine tt_iconst (v := 2) dX10_go_24 rfl ?_
      refine tt_goto (tgt := 29) dX10_go_25 rfl ?_
      refine gt_VI (As := [.int 2]) dX10_go_29 ca_X10_74 ⟨by decide, by decide⟩ h0 hA rfl (Nat.le_of_ble_eq_true rfl) (Nat.le_of_ble_eq_true rfl) (by decide) (cs_X10_refused hG (oa_af h0 hA) (fun _ _ _ _ h => h)) rfl (fun _ h => nomatch h) (fun S141 x146 h147 hx145 hG142 hB143 hA144 => ?_)
      obtain rfl := (hx145.1 _ rfl).trans (show bI (0 < (2 : Int32)) = 1 by decide)
      refine tt_if_eq (tgt := 37) dX10_go_32 rfl (fun q => absurd q (by decide)) (fun _ => ?_)
      refine tt_iconst (v := 0) dX10_go_35 rfl ?_
      exact tt_ireturn dX10_go_36 .int rfl rfl (hP _ _ _ _ ⟨hG142, hA144, Or.inl ⟨_, rfl, ⟨_, rfl, rg_w (⟨by decide, by decide⟩ : Rg 0 0 0)⟩, trivial, rfl, rfl⟩⟩)
  · skip
    have h148 : Rg 0 0 x106 := rg_eq_l h107 (⟨by decide, by decide⟩ : Rg 0 0 0) q108
    refine tt_iconst (v := 1) dX10_go_13 rfl ?_
    refine tt_goto (tgt := 29) dX10_go_14 rfl ?_
    refine gt_VI (As := [.int 1]) dX10_go_29 ca_X10_74 ⟨by decide, by decide⟩ h0 hA rfl (Nat.le_of_ble_eq_true rfl) (Nat.le_of_ble_eq_true rfl) (by decide) (cs_X10_refused hG (oa_af h0 hA) (fun _ _ _ _ h => h)) rfl (fun _ h => nomatch h) (fun S149 x154 h155 hx153 hG150 hB151 hA152 => ?_)
    obtain rfl := (hx153.1 _ rfl).trans (show bI (0 < (1 : Int32)) = 1 by decide)
    refine tt_if_eq (tgt := 37) dX10_go_32 rfl (fun q => absurd q (by decide)) (fun _ => ?_)
    refine tt_iconst (v := 0) dX10_go_35 rfl ?_
    exact tt_ireturn dX10_go_36 .int rfl rfl (hP _ _ _ _ ⟨hG150, hA152, Or.inl ⟨_, rfl, ⟨_, rfl, rg_w (⟨by decide, by decide⟩ : Rg 0 0 0)⟩, trivial, rfl, rfl⟩⟩)
