set_option maxHeartbeats 4000000 in
theorem cs_X10_shiftZero {xi : SX} {S : Hp} {E : List Nat} {kc nc : Nat} {P : Po} {o0 : Nat} {x1 : Int32} {x2 : Int32} {x3 : Int32} (hG : GI S E) (h0 : Oa S E 10 0 o0) (h1 : Rg 0 4939 x1) (h2 : Rg 0 4939 x2) (hP : ∀ r T x y, PV E [9989] S kc nc rV ex0 [] r T x y → P r T x y) : TT xi M_X10_shiftZero 0 [(0, .ref o0), (1, .int x1), (2, .int x2), (3, .int x3)] [] S kc nc P := by
  have hA : Af E [9989] S S := af_rf
  refine tt_iload_n (j := 3) dX10_shiftZero_0 rfl ?_
  have B101 : ∀ (S102 : Hp), GI S102 E → Af E [9989] S S102 → TT xi M_X10_shiftZero 57 [(0, .ref o0), (1, .int x1), (2, .int x2), (3, .int x3)] [] S102 kc nc P := by
    intro S102 hG103 hA104
    exact tt_vreturn dX10_shiftZero_57 rfl (hP _ _ _ _ ⟨hG103, hA104, Or.inl ⟨_, rfl, rfl, trivial, rfl, rfl⟩⟩)
  have B105 : TT xi M_X10_shiftZero 34 [(0, .ref o0), (1, .int x1), (2, .int x2), (3, .int x3)] [] S kc nc P := by
    refine tt_aload_n (j := 0) dX10_shiftZero_34 rfl ?_
    refine tt_iload_n (j := 1) dX10_shiftZero_35 rfl ?_
    refine tt_iload_n (j := 2) dX10_shiftZero_36 rfl ?_
    refine tt_iload_n (j := 3) dX10_shiftZero_37 rfl ?_
    refine gt_Vv (As := [.int x1, .int x2, .int x3]) dX10_shiftZero_38 ca_X10_201 ⟨by decide, by decide⟩ h0 hA rfl (Nat.le_of_ble_eq_true rfl) (Nat.le_of_ble_eq_true rfl) (by decide) (cs_X10_shiftDown hG (oa_af h0 hA) (rg_w h1) (rg_w h2) (fun _ _ _ _ h => h)) rfl (fun _ h => nomatch h) (fun S106 hx110 hG107 hB108 hA109 => ?_)
    refine tt_goto (tgt := 57) dX10_shiftZero_41 rfl ?_
    exact B101 S106 hG107 hA109
  refine tt_if_eq (tgt := 34) dX10_shiftZero_1 rfl (fun q111 => ?_) (fun q111 => ?_)
  · skip
    have h112 : Rg 0 0 x3 := rg_eq_l (rg_all x3) (⟨by decide, by decide⟩ : Rg 0 0 0) q111
    exact B105 
  · skip
    refine tt_aload_n (j := 0) dX10_shiftZero_4 rfl ?_
    obtain ⟨b113, hr114, ho115⟩ := gi_R (k := 643) hG h0 32 4940
    refine gt_gR (id := 643) dX10_shiftZero_5 fl_10_13 rfl rfl h0 hA hr114 ?_
    refine tt_iload_n (j := 2) dX10_shiftZero_8 rfl ?_
    refine gt_iL dX10_shiftZero_9 ho115 hA (rg_in h2) (fun x116 => ?_)
    refine tt_if_eq (tgt := 34) dX10_shiftZero_10 rfl (fun q117 => ?_) (fun q117 => ?_)
    · skip
      have h118 : Rg 0 0 x116 := rg_eq_l (rg_all x116) (⟨by decide, by decide⟩ : Rg 0 0 0) q117
      exact B105 
    · skip
      refine tt_aload_n (j := 0) dX10_shiftZero_13 rfl ?_
      refine gt_gR (id := 643) dX10_shiftZero_14 fl_10_13 rfl rfl h0 hA hr114 ?_
      refine tt_iload_n (j := 2) dX10_shiftZero_17 rfl ?_
      refine gt_iL dX10_shiftZero_18 ho115 hA (rg_in h2) (fun x119 => ?_)
      refine tt_iconst (v := 1) dX10_shiftZero_19 rfl ?_
      have B120 : TT xi M_X10_shiftZero 44 [(0, .ref o0), (1, .int x1), (2, .int x2), (3, .int x3)] [] S kc nc P := by
        refine tt_aload_n (j := 0) dX10_shiftZero_44 rfl ?_
        refine tt_iload_n (j := 1) dX10_shiftZero_45 rfl ?_
        refine tt_iconst (v := 1) dX10_shiftZero_46 rfl ?_
        refine tt_lconst (v := 0) dX10_shiftZero_47 rfl ?_
        refine tt_ldc2 (v := (-1)) dX10_shiftZero_48 kl_10_204 ?_
        refine tt_iload_n (j := 3) dX10_shiftZero_51 rfl ?_
        refine tt_lushr dX10_shiftZero_52 (gt_tl (fun y121 => ?_))
        refine tt_lconst (v := 1) dX10_shiftZero_53 rfl ?_
        refine gt_Vv (As := [.int x1, .int 1, .long 0, .long y121, .long 1]) dX10_shiftZero_54 ca_X10_165 ⟨by decide, by decide⟩ h0 hA rfl (Nat.le_of_ble_eq_true rfl) (Nat.le_of_ble_eq_true rfl) (by decide) (cs_X10_make hG (oa_af h0 hA) (rg_w h1) (fun _ _ _ _ h => h)) rfl (fun _ h => nomatch h) (fun S122 hx126 hG123 hB124 hA125 => ?_)
        exact B101 S122 hG123 hA125
      refine tt_icmp_ne (tgt := 44) dX10_shiftZero_20 rfl (fun q127 => ?_) (fun q127 => ?_)
      · skip
        exact B120 
      · skip
        have h128 : Rg 1 1 x119 := rg_eq_l (rg_all x119) (⟨by decide, by decide⟩ : Rg 1 1 1) q127
        refine tt_aload_n (j := 0) dX10_shiftZero_23 rfl ?_
        obtain ⟨b129, hr130, ho131⟩ := gi_R (k := 644) hG h0 33 4940
        refine gt_gR (id := 644) dX10_shiftZero_24 fl_10_16 rfl rfl h0 hA hr130 ?_
        refine tt_iload_n (j := 2) dX10_shiftZero_27 rfl ?_
        refine gt_lLt dX10_shiftZero_28 ho131 hA (rg_in h2) ?_
        refine tt_lconst (v := 0) dX10_shiftZero_29 rfl ?_
        refine tt_lcmp dX10_shiftZero_30 ?_
        refine tt_if_lt (tgt := 44) dX10_shiftZero_31 rfl (fun q132 => ?_) (fun q132 => ?_)
        · skip
          have h133 : Rl (-9223372036854775808) (-1) (hp_j S b129 (x2 : Int32).toNatClampNeg) := rl_lt_l (rl_all (hp_j S b129 (x2 : Int32).toNatClampNeg)) (⟨by decide, by decide⟩ : Rl 0 0 0) (lc_lt_t q132)
          exact B120 
        · skip
          have h134 : Rl 0 9223372036854775807 (hp_j S b129 (x2 : Int32).toNatClampNeg) := rl_le_r (⟨by decide, by decide⟩ : Rl 0 0 0) (rl_all (hp_j S b129 (x2 : Int32).toNatClampNeg)) (lc_lt_f q132)
          exact B105 
set_option maxHeartbeats 4000000 in
theorem cs_X10_lowPart {xi : SX} {S : Hp} {E : List Nat} {kc nc : Nat} {P : Po} {o0 : Nat} {x1 : Int32} {x2 : Int32} (hG : GI S E) (h0 : Oa S E 10 0 o0) (h1 : Rg 0 4939 x1) (h2 : Rg 0 4939 x2) (hP : ∀ r T x y, PV E [9989] S kc nc rV ex0 [] r T x y → P r T x y) : TT xi M_X10_lowPart 0 [(0, .ref o0), (1, .int x1), (2, .int x2)] [] S kc nc P := by
  have hA : Af E [9989] S S := af_rf
  refine tt_aload_n (j := 0) dX10_lowPart_0 rfl ?_
  obtain ⟨b101, hr102, ho103⟩ := gi_R (k := 643) hG h0 32 4940
  refine gt_gR (id := 643) dX10_lowPart_1 fl_10_13 rfl rfl h0 hA hr102 ?_
  refine tt_iload_n (j := 2) dX10_lowPart_4 rfl ?_
  refine gt_iL dX10_lowPart_5 ho103 hA (rg_in h2) (fun x104 => ?_)
  have B105 : ∀ (S106 : Hp), GI S106 E → Af E [9989] S S106 → TT xi M_X10_lowPart 179 [(0, .ref o0), (1, .int x1), (2, .int x2)] [] S106 kc nc P := by
    intro S106 hG107 hA108
    exact tt_vreturn dX10_lowPart_179 rfl (hP _ _ _ _ ⟨hG107, hA108, Or.inl ⟨_, rfl, rfl, trivial, rfl, rfl⟩⟩)
  refine tt_if_ne (tgt := 19) dX10_lowPart_6 rfl (fun q109 => ?_) (fun q109 => ?_)
  · skip
    refine tt_aload_n (j := 0) dX10_lowPart_19 rfl ?_
    refine tt_iload_n (j := 2) dX10_lowPart_20 rfl ?_
    refine gt_VIp (As := [.int x2]) dX10_lowPart_21 ca_X10_162 ⟨by decide, by decide⟩ h0 hA rfl (Nat.le_of_ble_eq_true rfl) (Nat.le_of_ble_eq_true rfl) (by decide) (cs_X10_isOne hG (oa_af h0 hA) (rg_w h2) (fun _ _ _ _ h => h)) rfl (fun _ h => nomatch h) (fun _ _ q => q) (fun x115 h116 hx114 => ?_)
    refine tt_if_eq (tgt := 45) dX10_lowPart_24 rfl (fun q117 => ?_) (fun q117 => ?_)
    · skip
      have h118 : Rg 0 0 x115 := rg_eq_l h116 (⟨by decide, by decide⟩ : Rg 0 0 0) q117
      refine tt_aload_n (j := 0) dX10_lowPart_45 rfl ?_
      refine gt_gR (id := 643) dX10_lowPart_46 fl_10_13 rfl rfl h0 hA hr102 ?_
      refine tt_iload_n (j := 2) dX10_lowPart_49 rfl ?_
      refine gt_iL dX10_lowPart_50 ho103 hA (rg_in h2) (fun x119 => ?_)
      refine tt_iconst (v := 1) dX10_lowPart_51 rfl ?_
      have B120 : TT xi M_X10_lowPart 88 [(0, .ref o0), (1, .int x1), (2, .int x2)] [] S kc nc P := by
        refine tt_aload_n (j := 0) dX10_lowPart_88 rfl ?_
        refine gt_gR (id := 643) dX10_lowPart_89 fl_10_13 rfl rfl h0 hA hr102 ?_
        refine tt_iload_n (j := 2) dX10_lowPart_92 rfl ?_
        refine gt_iL dX10_lowPart_93 ho103 hA (rg_in h2) (fun x121 => ?_)
        refine tt_iconst (v := 2) dX10_lowPart_94 rfl ?_
        have B122 : ∀ (y123 : Int64), ¬ y123 = 0 → TT xi M_X10_lowPart 114 [(0, .ref o0), (1, .int x1), (2, .int x2)] [.long y123] S kc nc P := by
          intro y123 h124
          refine tt_lstore_n (ks := [0, 1, 2, 3]) (L' := [(3, .long y123), (0, .ref o0), (1, .int x1), (2, .int x2)]) dX10_lowPart_114 (by decide) rfl ?_
          refine tt_aload_n (j := 1) dX10_lowPart_115 rfl ?_
          refine gt_gR (id := 643) dX10_lowPart_116 fl_10_13 rfl rfl h0 hA hr102 ?_
          refine tt_iload_n (j := 3) dX10_lowPart_119 rfl ?_
          refine gt_iL dX10_lowPart_120 ho103 hA (rg_in h2) (fun x125 => ?_)
          refine tt_iconst (v := 2) dX10_lowPart_121 rfl ?_
          have B126 : ∀ (y127 : Int64), TT xi M_X10_lowPart 137 [(0, .ref o0), (1, .int x1), (2, .int x2), (3, .long y123)] [.long y127] S kc nc P := by
            intro y127 
            refine tt_lstore (ks := [0, 1, 2, 3, 4]) (L' := [(5, .long y127), (0, .ref o0), (1, .int x1), (2, .int x2), (3, .long y123)]) dX10_lowPart_137 (by decide) rfl ?_
            refine tt_lload (j := 0) dX10_lowPart_139 rfl ?_
            refine tt_lconst (v := 0) dX10_lowPart_141 rfl ?_
            refine tt_lcmp dX10_lowPart_142 ?_
            have B128 : ∀ (y129 : Int64), TT xi M_X10_lowPart 155 [(0, .ref o0), (1, .int x1), (2, .int x2), (3, .long y123), (5, .long y127)] [.long y129] S kc nc P := by
              intro y129 
              refine tt_lstore (ks := [0, 1, 2, 3, 4]) (L' := [(5, .long y129), (0, .ref o0), (1, .int x1), (2, .int x2), (3, .long y123)]) dX10_lowPart_155 (by decide) rfl ?_
              refine tt_aload_n (j := 1) dX10_lowPart_157 rfl ?_
              refine tt_iload_n (j := 2) dX10_lowPart_158 rfl ?_
              refine tt_iconst (v := 1) dX10_lowPart_159 rfl ?_
              refine tt_lload (j := 0) dX10_lowPart_160 rfl ?_
              refine tt_lload (j := 0) dX10_lowPart_162 rfl ?_
              refine tt_ldc2 (v := 4294967295) dX10_lowPart_164 kl_10_206 ?_
              refine tt_lload (j := 0) dX10_lowPart_167 rfl ?_
              refine tt_lsub dX10_lowPart_169 (gt_tl (fun y130 => ?_))
              refine tt_lload_n (j := 4) dX10_lowPart_170 rfl ?_
              refine tt_ldiv dX10_lowPart_171 h124 (gt_tl (fun y131 => ?_))
              refine tt_lload_n (j := 4) dX10_lowPart_172 rfl ?_
              refine tt_lmul dX10_lowPart_173 (gt_tl (fun y132 => ?_))
              refine tt_ladd dX10_lowPart_174 (gt_tl (fun y133 => ?_))
              refine tt_lload_n (j := 4) dX10_lowPart_175 rfl ?_
              refine gt_Vv (As := [.int x1, .int 1, .long y129, .long y133, .long y123]) dX10_lowPart_176 ca_X10_165 ⟨by decide, by decide⟩ h0 hA rfl (Nat.le_of_ble_eq_true rfl) (Nat.le_of_ble_eq_true rfl) (by decide) (cs_X10_make hG (oa_af h0 hA) (rg_w h1) (fun _ _ _ _ h => h)) rfl (fun _ h => nomatch h) (fun S134 hx138 hG135 hB136 hA137 => ?_)
              exact tt_loc (ks := [1, 2, 3]) rfl (B105 S134 hG135 hA137)
            refine tt_if_ge (tgt := 153) dX10_lowPart_143 rfl (fun q139 => ?_) (fun q139 => ?_)
            · skip
              have h140 : Rl 0 9223372036854775807 y127 := rl_le_r (⟨by decide, by decide⟩ : Rl 0 0 0) (rl_all y127) (lc_ge_t q139)
              refine tt_lload (j := 0) dX10_lowPart_153 rfl ?_
              exact tt_loc (ks := [1, 2, 3, 4, 0]) rfl (B128 y127)
            · skip
              have h141 : Rl (-9223372036854775808) (-1) y127 := rl_lt_l (rl_all y127) (⟨by decide, by decide⟩ : Rl 0 0 0) (lc_ge_f q139)
              refine tt_lload (j := 0) dX10_lowPart_146 rfl ?_
              refine tt_lload_n (j := 4) dX10_lowPart_148 rfl ?_
              refine tt_ladd dX10_lowPart_149 (gt_tl (fun y142 => ?_))
              refine tt_goto (tgt := 155) dX10_lowPart_150 rfl ?_
              exact tt_loc (ks := [1, 2, 3, 4, 0]) rfl (B128 y142)
          refine tt_icmp_ne (tgt := 129) dX10_lowPart_122 rfl (fun q143 => ?_) (fun q143 => ?_)
          · skip
            refine tt_aload_n (j := 1) dX10_lowPart_129 rfl ?_
            obtain ⟨b144, hr145, ho146⟩ := gi_R (k := 644) hG h0 33 4940
            refine gt_gR (id := 644) dX10_lowPart_130 fl_10_16 rfl rfl h0 hA hr145 ?_
            refine tt_iload_n (j := 3) dX10_lowPart_133 rfl ?_
            refine gt_lLt dX10_lowPart_134 ho146 hA (rg_in h2) ?_
            refine tt_lload_n (j := 0) dX10_lowPart_135 rfl ?_
            refine tt_lrem dX10_lowPart_136 h124 (gt_tl (fun y147 => ?_))
            exact tt_loc (ks := [1, 2, 3, 0]) rfl (B126 y147)
          · skip
            have h148 : Rg 2 2 x125 := rg_eq_l (rg_all x125) (⟨by decide, by decide⟩ : Rg 2 2 2) q143
            refine tt_lconst (v := 0) dX10_lowPart_125 rfl ?_
            refine tt_goto (tgt := 137) dX10_lowPart_126 rfl ?_
            exact tt_loc (ks := [1, 2, 3, 0]) rfl (B126 0)
        refine tt_icmp_ne (tgt := 102) dX10_lowPart_95 rfl (fun q149 => ?_) (fun q149 => ?_)
        · skip
          refine tt_aload_n (j := 0) dX10_lowPart_102 rfl ?_
          obtain ⟨b150, hr151, ho152⟩ := gi_R (k := 646) hG h0 33 4940
          refine gt_gR (id := 646) dX10_lowPart_103 fl_10_23 rfl rfl h0 hA hr151 ?_
          refine tt_iload_n (j := 2) dX10_lowPart_106 rfl ?_
          refine gt_lLt dX10_lowPart_107 ho152 hA (rg_in h2) ?_
          refine tt_ldc2 (v := 4294967296) dX10_lowPart_108 kl_10_208 ?_
          refine gt_SJp (As := [.long (hp_j S b150 (x2 : Int32).toNatClampNeg), .long 4294967296]) dX10_lowPart_111 ca_X10_172 ⟨by decide, by decide⟩ hA (Nat.le_of_ble_eq_true rfl) (Nat.le_of_ble_eq_true rfl) (by decide) (cs_X10_gcd hG  (fun _ _ _ _ h => h)) rfl (fun _ h => nomatch h) (fun _ _ q => q.1) (fun y158 hx157 => ?_)
          exact B122 y158 (hx157.2 rfl _ rfl)
        · skip
          have h160 : Rg 2 2 x121 := rg_eq_l (rg_all x121) (⟨by decide, by decide⟩ : Rg 2 2 2) q149
          refine tt_lconst (v := 1) dX10_lowPart_98 rfl ?_
          refine tt_goto (tgt := 114) dX10_lowPart_99 rfl ?_
          exact B122 1 (by decide)
      refine tt_icmp_ne (tgt := 88) dX10_lowPart_52 rfl (fun q161 => ?_) (fun q161 => ?_)
      · skip
        exact B120 
      · skip
        have h162 : Rg 1 1 x119 := rg_eq_l (rg_all x119) (⟨by decide, by decide⟩ : Rg 1 1 1) q161
        refine tt_aload_n (j := 0) dX10_lowPart_55 rfl ?_
        obtain ⟨b163, hr164, ho165⟩ := gi_R (k := 644) hG h0 33 4940
        refine gt_gR (id := 644) dX10_lowPart_56 fl_10_16 rfl rfl h0 hA hr164 ?_
        refine tt_iload_n (j := 2) dX10_lowPart_59 rfl ?_
        refine gt_lLt dX10_lowPart_60 ho165 hA (rg_in h2) ?_
        refine tt_lconst (v := 0) dX10_lowPart_61 rfl ?_
        refine tt_lcmp dX10_lowPart_62 ?_
        refine tt_if_lt (tgt := 88) dX10_lowPart_63 rfl (fun q166 => ?_) (fun q166 => ?_)
        · skip
          have h167 : Rl (-9223372036854775808) (-1) (hp_j S b163 (x2 : Int32).toNatClampNeg) := rl_lt_l (rl_all (hp_j S b163 (x2 : Int32).toNatClampNeg)) (⟨by decide, by decide⟩ : Rl 0 0 0) (lc_lt_t q166)
          exact B120 
        · skip
          have h168 : Rl 0 9223372036854775807 (hp_j S b163 (x2 : Int32).toNatClampNeg) := rl_le_r (⟨by decide, by decide⟩ : Rl 0 0 0) (rl_all (hp_j S b163 (x2 : Int32).toNatClampNeg)) (lc_lt_f q166)
          refine tt_aload_n (j := 0) dX10_lowPart_66 rfl ?_
          obtain ⟨b169, hr170, ho171⟩ := gi_R (k := 645) hG h0 33 4940
          refine gt_gR (id := 645) dX10_lowPart_67 fl_10_20 rfl rfl h0 hA hr170 ?_
          refine tt_iload_n (j := 2) dX10_lowPart_70 rfl ?_
          refine gt_lLt dX10_lowPart_71 ho171 hA (rg_in h2) ?_
          refine tt_ldc2 (v := 4294967296) dX10_lowPart_72 kl_10_208 ?_
          refine tt_lcmp dX10_lowPart_75 ?_
          refine tt_if_ge (tgt := 88) dX10_lowPart_76 rfl (fun q172 => ?_) (fun q172 => ?_)
          · skip
            have h173 : Rl 4294967296 9223372036854775807 (hp_j S b169 (x2 : Int32).toNatClampNeg) := rl_le_r (⟨by decide, by decide⟩ : Rl 4294967296 4294967296 4294967296) (rl_all (hp_j S b169 (x2 : Int32).toNatClampNeg)) (lc_ge_t q172)
            exact B120 
          · skip
            have h174 : Rl (-9223372036854775808) 4294967295 (hp_j S b169 (x2 : Int32).toNatClampNeg) := rl_lt_l (rl_all (hp_j S b169 (x2 : Int32).toNatClampNeg)) (⟨by decide, by decide⟩ : Rl 4294967296 4294967296 4294967296) (lc_ge_f q172)
            refine tt_aload_n (j := 0) dX10_lowPart_79 rfl ?_
            refine tt_iload_n (j := 1) dX10_lowPart_80 rfl ?_
            refine tt_iload_n (j := 2) dX10_lowPart_81 rfl ?_
            refine gt_Vv (As := [.int x1, .int x2]) dX10_lowPart_82 ca_X10_169 ⟨by decide, by decide⟩ h0 hA rfl (Nat.le_of_ble_eq_true rfl) (Nat.le_of_ble_eq_true rfl) (by decide) (cs_X10_copy hG (oa_af h0 hA) (rg_w h1) (rg_w h2) (fun _ _ _ _ h => h)) rfl (fun _ h => nomatch h) (fun S175 hx179 hG176 hB177 hA178 => ?_)
            refine tt_goto (tgt := 179) dX10_lowPart_85 rfl ?_
            exact B105 S175 hG176 hA178
    · skip
      have h180 : Rg 1 1 x115 := rg_ne_lo h116 (⟨by decide, by decide⟩ : Rg 0 0 0) q117
      refine tt_aload_n (j := 0) dX10_lowPart_27 rfl ?_
      refine tt_iload_n (j := 1) dX10_lowPart_28 rfl ?_
      refine tt_aload_n (j := 0) dX10_lowPart_29 rfl ?_
      obtain ⟨b181, hr182, ho183⟩ := gi_R (k := 644) hG h0 33 4940
      refine gt_gR (id := 644) dX10_lowPart_30 fl_10_16 rfl rfl h0 hA hr182 ?_
      refine tt_iload_n (j := 2) dX10_lowPart_33 rfl ?_
      refine gt_lLt dX10_lowPart_34 ho183 hA (rg_in h2) ?_
      refine tt_ldc2 (v := 4294967295) dX10_lowPart_35 kl_10_206 ?_
      refine tt_land dX10_lowPart_38 (gt_tl (fun y184 => ?_))
      refine gt_Vv (As := [.int x1, .long y184]) dX10_lowPart_39 ca_X10_193 ⟨by decide, by decide⟩ h0 hA rfl (Nat.le_of_ble_eq_true rfl) (Nat.le_of_ble_eq_true rfl) (by decide) (cs_X10_one hG (oa_af h0 hA) (rg_w h1) (fun _ _ _ _ h => h)) rfl (fun _ h => nomatch h) (fun S185 hx189 hG186 hB187 hA188 => ?_)
      refine tt_goto (tgt := 179) dX10_lowPart_42 rfl ?_
      exact B105 S185 hG186 hA188
  · skip
    have h190 : Rg 0 0 x104 := rg_eq_l (rg_all x104) (⟨by decide, by decide⟩ : Rg 0 0 0) q109
    refine tt_aload_n (j := 0) dX10_lowPart_9 rfl ?_
    refine gt_gR (id := 643) dX10_lowPart_10 fl_10_13 rfl rfl h0 hA hr102 ?_
    refine tt_iload_n (j := 1) dX10_lowPart_13 rfl ?_
    refine tt_iconst (v := 0) dX10_lowPart_14 rfl ?_
    refine gt_iS dX10_lowPart_15 ho103 hA (Or.inl (by decide)) (rg_in h1) hG (by decide) (fun S191 hG192 hA193 e194 f195 er196 => ?_)
    refine tt_goto (tgt := 179) dX10_lowPart_16 rfl ?_
    exact B105 S191 hG192 hA193
set_option maxHeartbeats 4000000 in
theorem cs_X10_signed {xi : SX} {S : Hp} {E : List Nat} {kc nc : Nat} {P : Po} {o0 : Nat} {x1 : Int32} {x2 : Int32} (hG : GI S E) (h0 : Oa S E 10 0 o0) (h1 : Rg 0 4939 x1) (h2 : Rg 0 4939 x2) (hP : ∀ r T x y, PV E [9989] S kc nc rV ex0 [] r T x y → P r T x y) : TT xi M_X10_signed 0 [(0, .ref o0), (1, .int x1), (2, .int x2)] [] S kc nc P := by
  have hA : Af E [9989] S S := af_rf
  refine tt_aload_n (j := 0) dX10_signed_0 rfl ?_
  refine tt_iload_n (j := 1) dX10_signed_1 rfl ?_
  refine tt_iload_n (j := 2) dX10_signed_2 rfl ?_
  refine gt_Vv (As := [.int x1, .int x2]) dX10_signed_3 ca_X10_210 ⟨by decide, by decide⟩ h0 hA rfl (Nat.le_of_ble_eq_true rfl) (Nat.le_of_ble_eq_true rfl) (by decide) (cs_X10_lowPart hG (oa_af h0 hA) (rg_w h1) (rg_w h2) (fun _ _ _ _ h => h)) rfl (fun _ h => nomatch h) (fun S101 hx105 hG102 hB103 hA104 => ?_)
  refine tt_ldc2 (v := 2147483648) dX10_signed_6 kl_10_213 ?_
  refine tt_lstore_n (ks := [0, 1, 2, 3]) (L' := [(3, .long 2147483648), (0, .ref o0), (1, .int x1), (2, .int x2)]) dX10_signed_9 (by decide) rfl ?_
  refine tt_aload_n (j := 1) dX10_signed_10 rfl ?_
  obtain ⟨b106, hr107, ho108⟩ := gi_R (k := 643) hG h0 32 4940
  refine gt_gR (id := 643) dX10_signed_11 fl_10_13 rfl rfl h0 hA104 hr107 ?_
  refine tt_iload_n (j := 2) dX10_signed_14 rfl ?_
  refine gt_iL dX10_signed_15 ho108 hA104 (rg_in h1) (fun x109 => ?_)
  have B110 : TT xi M_X10_signed 30 [(0, .ref o0), (1, .int x1), (2, .int x2), (3, .long 2147483648)] [] S101 kc nc P := by
    exact tt_vreturn dX10_signed_30 rfl (hP _ _ _ _ ⟨hG102, hA104, Or.inl ⟨_, rfl, rfl, trivial, rfl, rfl⟩⟩)
  refine tt_if_eq (tgt := 30) dX10_signed_16 rfl (fun q111 => ?_) (fun q111 => ?_)
  · skip
    have h112 : Rg 0 0 x109 := rg_eq_l (rg_all x109) (⟨by decide, by decide⟩ : Rg 0 0 0) q111
    exact tt_loc (ks := [1, 2, 3, 0]) rfl (B110 )
  · skip
    refine tt_aload_n (j := 1) dX10_signed_19 rfl ?_
    obtain ⟨b113, hr114, ho115⟩ := gi_R (k := 645) hG h0 33 4940
    refine gt_gR (id := 645) dX10_signed_20 fl_10_20 rfl rfl h0 hA104 hr114 ?_
    refine tt_iload_n (j := 2) dX10_signed_23 rfl ?_
    refine gt_lLt dX10_signed_24 ho115 hA104 (rg_in h1) ?_
    refine tt_lload_n (j := 0) dX10_signed_25 rfl ?_
    refine tt_lcmp dX10_signed_26 ?_
    refine tt_if_ge (tgt := 31) dX10_signed_27 rfl (fun q116 => ?_) (fun q116 => ?_)
    · skip
      have h117 : Rl 2147483648 9223372036854775807 (hp_j S101 b113 (x1 : Int32).toNatClampNeg) := rl_le_r (⟨by decide, by decide⟩ : Rl 2147483648 2147483648 2147483648) (rl_all (hp_j S101 b113 (x1 : Int32).toNatClampNeg)) (lc_ge_t q116)
      refine tt_aload_n (j := 1) dX10_signed_31 rfl ?_
      obtain ⟨b118, hr119, ho120⟩ := gi_R (k := 644) hG h0 33 4940
      refine gt_gR (id := 644) dX10_signed_32 fl_10_16 rfl rfl h0 hA104 hr119 ?_
      refine tt_iload_n (j := 2) dX10_signed_35 rfl ?_
      refine gt_lLt dX10_signed_36 ho120 hA104 (rg_in h1) ?_
      refine tt_lload_n (j := 0) dX10_signed_37 rfl ?_
      refine tt_lcmp dX10_signed_38 ?_
      refine tt_if_lt (tgt := 75) dX10_signed_39 rfl (fun q121 => ?_) (fun q121 => ?_)
      · skip
        have h122 : Rl (-9223372036854775808) 2147483647 (hp_j S101 b118 (x1 : Int32).toNatClampNeg) := rl_lt_l (rl_all (hp_j S101 b118 (x1 : Int32).toNatClampNeg)) (⟨by decide, by decide⟩ : Rl 2147483648 2147483648 2147483648) (lc_lt_t q121)
        refine tt_aload_n (j := 1) dX10_signed_75 rfl ?_
        obtain ⟨b123, hr124, ho125⟩ := gi_R (k := 646) hG h0 33 4940
        refine gt_gR (id := 646) dX10_signed_76 fl_10_23 rfl rfl h0 hA104 hr124 ?_
        refine tt_iload_n (j := 2) dX10_signed_79 rfl ?_
        refine gt_lLt dX10_signed_80 ho125 hA104 (rg_in h1) ?_
        refine tt_ldc2 (v := 4294967296) dX10_signed_81 kl_10_208 ?_
        refine gt_SJp (As := [.long (hp_j S101 b123 (x1 : Int32).toNatClampNeg), .long 4294967296]) dX10_signed_84 ca_X10_172 ⟨by decide, by decide⟩ hA104 (Nat.le_of_ble_eq_true rfl) (Nat.le_of_ble_eq_true rfl) (by decide) (cs_X10_gcd hG102  (fun _ _ _ _ h => h)) rfl (fun _ h => nomatch h) (fun _ _ q => q.1) (fun y131 hx130 => ?_)
        refine tt_lstore (ks := [0, 1, 2, 3, 4]) (L' := [(5, .long y131), (3, .long 2147483648), (0, .ref o0), (1, .int x1), (2, .int x2)]) dX10_signed_87 (by decide) rfl ?_
        refine tt_aload_n (j := 2) dX10_signed_89 rfl ?_
        refine gt_gR (id := 644) dX10_signed_90 fl_10_16 rfl rfl h0 hA104 hr119 ?_
        refine tt_iload_n (j := 3) dX10_signed_93 rfl ?_
        refine gt_lLt dX10_signed_94 ho120 hA104 (rg_in h1) ?_
        refine tt_aload_n (j := 2) dX10_signed_95 rfl ?_
        refine gt_gR (id := 644) dX10_signed_96 fl_10_16 rfl rfl h0 hA104 hr119 ?_
        refine tt_iload_n (j := 3) dX10_signed_99 rfl ?_
        refine gt_lLt dX10_signed_100 ho120 hA104 (rg_in h1) ?_
        refine tt_lload_n (j := 1) dX10_signed_101 rfl ?_
        refine tt_ladd dX10_signed_102 (gt_tl (fun y133 => ?_))
        refine tt_lload (j := 0) dX10_signed_103 rfl ?_
        refine tt_ldiv dX10_signed_105 (hx130.2 rfl _ rfl) (gt_tl (fun y134 => ?_))
        refine tt_lload (j := 0) dX10_signed_106 rfl ?_
        refine tt_lmul dX10_signed_108 (gt_tl (fun y135 => ?_))
        refine tt_lsub dX10_signed_109 (gt_tl (fun y136 => ?_))
        refine tt_lstore (ks := [0, 1, 2, 3, 4, 5]) (L' := [(7, .long y136), (5, .long y131), (3, .long 2147483648), (0, .ref o0), (1, .int x1), (2, .int x2)]) dX10_signed_110 (by decide) rfl ?_
        refine tt_aload_n (j := 3) dX10_signed_112 rfl ?_
        refine tt_iload_n (j := 4) dX10_signed_113 rfl ?_
        refine tt_iconst (v := 1) dX10_signed_114 rfl ?_
        refine tt_lload (j := 0) dX10_signed_115 rfl ?_
        refine tt_lload (j := 0) dX10_signed_117 rfl ?_
        refine tt_lload_n (j := 2) dX10_signed_119 rfl ?_
        refine tt_lconst (v := 1) dX10_signed_120 rfl ?_
        refine tt_lsub dX10_signed_121 (gt_tl (fun y137 => ?_))
        refine tt_lload (j := 0) dX10_signed_122 rfl ?_
        refine tt_lsub dX10_signed_124 (gt_tl (fun y138 => ?_))
        refine tt_lload (j := 1) dX10_signed_125 rfl ?_
        refine tt_ldiv dX10_signed_127 (hx130.2 rfl _ rfl) (gt_tl (fun y139 => ?_))
        refine tt_lload (j := 1) dX10_signed_128 rfl ?_
        refine tt_lmul dX10_signed_130 (gt_tl (fun y140 => ?_))
        refine tt_ladd dX10_signed_131 (gt_tl (fun y141 => ?_))
        refine tt_lload (j := 1) dX10_signed_132 rfl ?_
        refine gt_Vv (As := [.int x1, .int 1, .long y136, .long y141, .long y131]) dX10_signed_134 ca_X10_165 ⟨by decide, by decide⟩ h0 hA104 rfl (Nat.le_of_ble_eq_true rfl) (Nat.le_of_ble_eq_true rfl) (by decide) (cs_X10_make hG102 (oa_af h0 hA104) (rg_w h1) (fun _ _ _ _ h => h)) rfl (fun _ h => nomatch h) (fun S142 hx146 hG143 hB144 hA145 => ?_)
        exact tt_vreturn dX10_signed_137 rfl (hP _ _ _ _ ⟨hG143, hA145, Or.inl ⟨_, rfl, rfl, trivial, rfl, rfl⟩⟩)
      · skip
        have h147 : Rl 2147483648 9223372036854775807 (hp_j S101 b118 (x1 : Int32).toNatClampNeg) := rl_le_r (⟨by decide, by decide⟩ : Rl 2147483648 2147483648 2147483648) (rl_all (hp_j S101 b118 (x1 : Int32).toNatClampNeg)) (lc_lt_f q121)
        refine tt_aload_n (j := 1) dX10_signed_42 rfl ?_
        refine tt_iload_n (j := 2) dX10_signed_43 rfl ?_
        refine tt_iconst (v := 1) dX10_signed_44 rfl ?_
        refine tt_aload_n (j := 1) dX10_signed_45 rfl ?_
        refine gt_gR (id := 644) dX10_signed_46 fl_10_16 rfl rfl h0 hA104 hr119 ?_
        refine tt_iload_n (j := 2) dX10_signed_49 rfl ?_
        refine gt_lLt dX10_signed_50 ho120 hA104 (rg_in h1) ?_
        refine tt_ldc2 (v := 4294967296) dX10_signed_51 kl_10_208 ?_
        refine tt_lsub dX10_signed_54 (gt_tl (fun y148 => ?_))
        refine tt_aload_n (j := 1) dX10_signed_55 rfl ?_
        refine gt_gR (id := 645) dX10_signed_56 fl_10_20 rfl rfl h0 hA104 hr114 ?_
        refine tt_iload_n (j := 2) dX10_signed_59 rfl ?_
        refine gt_lLt dX10_signed_60 ho115 hA104 (rg_in h1) ?_
        refine tt_ldc2 (v := 4294967296) dX10_signed_61 kl_10_208 ?_
        refine tt_lsub dX10_signed_64 (gt_tl (fun y149 => ?_))
        refine tt_aload_n (j := 1) dX10_signed_65 rfl ?_
        obtain ⟨b150, hr151, ho152⟩ := gi_R (k := 646) hG h0 33 4940
        refine gt_gR (id := 646) dX10_signed_66 fl_10_23 rfl rfl h0 hA104 hr151 ?_
        refine tt_iload_n (j := 2) dX10_signed_69 rfl ?_
        refine gt_lLt dX10_signed_70 ho152 hA104 (rg_in h1) ?_
        refine gt_Vv (As := [.int x1, .int 1, .long y148, .long y149, .long (hp_j S101 b150 (x1 : Int32).toNatClampNeg)]) dX10_signed_71 ca_X10_165 ⟨by decide, by decide⟩ h0 hA104 rfl (Nat.le_of_ble_eq_true rfl) (Nat.le_of_ble_eq_true rfl) (by decide) (cs_X10_make hG102 (oa_af h0 hA104) (rg_w h1) (fun _ _ _ _ h => h)) rfl (fun _ h => nomatch h) (fun S153 hx157 hG154 hB155 hA156 => ?_)
        exact tt_vreturn dX10_signed_74 rfl (hP _ _ _ _ ⟨hG154, hA156, Or.inl ⟨_, rfl, rfl, trivial, rfl, rfl⟩⟩)
    · skip
      have h158 : Rl (-9223372036854775808) 2147483647 (hp_j S101 b113 (x1 : Int32).toNatClampNeg) := rl_lt_l (rl_all (hp_j S101 b113 (x1 : Int32).toNatClampNeg)) (⟨by decide, by decide⟩ : Rl 2147483648 2147483648 2147483648) (lc_ge_f q116)
      exact tt_loc (ks := [1, 2, 3, 0]) rfl (B110 )
set_option maxHeartbeats 4000000 in
theorem cs_X10_operand {xi : SX} {S : Hp} {E : List Nat} {kc nc : Nat} {P : Po} {o0 : Nat} {x1 : Int32} (hG : GI S E) (h0 : Oa S E 10 0 o0) (h1 : Rg 0 4939 x1) (g658 : Rg (-1) 23 (hp_I S 658 o0)) (hP : ∀ r T x y, PV E [9989] S kc nc rV ex0 [] r T x y → P r T x y) : TT xi M_X10_operand 0 [(0, .ref o0), (1, .int x1)] [] S kc nc P := by
  have hA : Af E [9989] S S := af_rf
  refine tt_aload_n (j := 0) dX10_operand_0 rfl ?_
  refine tt_getI (id := 658) dX10_operand_1 fl_10_113 rfl rfl (ob_af h0 hA) ?_
  have B101 : ∀ (S102 : Hp), GI S102 E → Af E [9989] S S102 → TT xi M_X10_operand 54 [(0, .ref o0), (1, .int x1)] [] S102 kc nc P := by
    intro S102 hG103 hA104
    exact tt_vreturn dX10_operand_54 rfl (hP _ _ _ _ ⟨hG103, hA104, Or.inl ⟨_, rfl, rfl, trivial, rfl, rfl⟩⟩)
  refine tt_if_lt (tgt := 23) dX10_operand_4 rfl (fun q105 => ?_) (fun q105 => ?_)
  · skip
    have h106 : Rg (-1) (-1) (hp_I S 658 o0) := rg_lt_l g658 (⟨by decide, by decide⟩ : Rg 0 0 0) q105
    refine tt_aload_n (j := 0) dX10_operand_23 rfl ?_
    refine tt_iload_n (j := 1) dX10_operand_24 rfl ?_
    refine tt_aload_n (j := 0) dX10_operand_25 rfl ?_
    refine tt_getI (id := 655) dX10_operand_26 fl_10_107 rfl rfl (ob_af h0 hA) ?_
    refine tt_bipush (v := 11) dX10_operand_29 rfl ?_
    have B107 : ∀ (y108 : Int64), TT xi M_X10_operand 51 [(0, .ref o0), (1, .int x1)] [.long y108, .int x1, .ref o0] S kc nc P := by
      intro y108 
      refine gt_Vv (As := [.int x1, .long y108]) dX10_operand_51 ca_X10_193 ⟨by decide, by decide⟩ h0 hA rfl (Nat.le_of_ble_eq_true rfl) (Nat.le_of_ble_eq_true rfl) (by decide) (cs_X10_one hG (oa_af h0 hA) (rg_w h1) (fun _ _ _ _ h => h)) rfl (fun _ h => nomatch h) (fun S109 hx113 hG110 hB111 hA112 => ?_)
      exact B101 S109 hG110 hA112
    have B114 : TT xi M_X10_operand 43 [(0, .ref o0), (1, .int x1)] [.int x1, .ref o0] S kc nc P := by
      refine tt_lconst (v := 1) dX10_operand_43 rfl ?_
      refine tt_goto (tgt := 51) dX10_operand_44 rfl ?_
      exact B107 1
    refine tt_icmp_eq (tgt := 43) dX10_operand_31 rfl (fun q115 => ?_) (fun q115 => ?_)
    · skip
      have h116 : Rg 11 11 (hp_I S 655 o0) := rg_eq_l (rg_all (hp_I S 655 o0)) (⟨by decide, by decide⟩ : Rg 11 11 11) q115
      exact B114 
    · skip
      refine tt_aload_n (j := 0) dX10_operand_34 rfl ?_
      refine tt_getI (id := 655) dX10_operand_35 fl_10_107 rfl rfl (ob_af h0 hA) ?_
      refine tt_bipush (v := 12) dX10_operand_38 rfl ?_
      refine tt_icmp_ne (tgt := 47) dX10_operand_40 rfl (fun q117 => ?_) (fun q117 => ?_)
      · skip
        refine tt_aload_n (j := 0) dX10_operand_47 rfl ?_
        refine gt_gJ (id := 660) (v := (hp_J S 660 o0)) dX10_operand_48 fl_10_116 rfl rfl h0 hA rfl ?_
        exact B107 (hp_J S 660 o0)
      · skip
        have h118 : Rg 12 12 (hp_I S 655 o0) := rg_eq_l (rg_all (hp_I S 655 o0)) (⟨by decide, by decide⟩ : Rg 12 12 12) q117
        exact B114 
  · skip
    have h119 : Rg 0 23 (hp_I S 658 o0) := rg_le_r (⟨by decide, by decide⟩ : Rg 0 0 0) g658 (nlt_le q105)
    refine tt_aload_n (j := 0) dX10_operand_7 rfl ?_
    refine tt_iload_n (j := 1) dX10_operand_8 rfl ?_
    refine tt_sipush (v := 4856) dX10_operand_9 rfl ?_
    refine tt_aload_n (j := 0) dX10_operand_12 rfl ?_
    refine tt_getI (id := 658) dX10_operand_13 fl_10_113 rfl rfl (ob_af h0 hA) ?_
    refine tt_iadd dX10_operand_16 ?_
    refine gt_Vv (As := [.int x1, .int (4856 + (hp_I S 658 o0))]) dX10_operand_17 ca_X10_169 ⟨by decide, by decide⟩ h0 hA rfl (Nat.le_of_ble_eq_true rfl) (Nat.le_of_ble_eq_true rfl) (by decide) (cs_X10_copy hG (oa_af h0 hA) (rg_w h1) (rg_w (rg_add (lo := 4856) (hi := 4879) (⟨by decide, by decide⟩ : Rg 4856 4856 4856) h119)) (fun _ _ _ _ h => h)) rfl (fun _ h => nomatch h) (fun S120 hx124 hG121 hB122 hA123 => ?_)
    refine tt_goto (tgt := 54) dX10_operand_20 rfl ?_
    exact B101 S120 hG121 hA123
set_option maxHeartbeats 4000000 in
theorem cs_X10_narrowed {xi : SX} {S : Hp} {E : List Nat} {kc nc : Nat} {P : Po} {o0 : Nat} {x1 : Int32} {x2 : Int32} (hG : GI S E) (h0 : Oa S E 10 0 o0) (h1 : Rg 0 4939 x1) (h2 : Rg 0 1 x2) (hP : ∀ r T x y, PV E [9989] S kc nc rV ex0 [] r T x y → P r T x y) : TT xi M_X10_narrowed 0 [(0, .ref o0), (1, .int x1), (2, .int x2)] [] S kc nc P := by
  have hA : Af E [9989] S S := af_rf
  refine tt_aload_n (j := 0) dX10_narrowed_0 rfl ?_
  refine tt_sipush (v := 4851) dX10_narrowed_1 rfl ?_
  refine tt_iload_n (j := 1) dX10_narrowed_4 rfl ?_
  refine gt_Vv (As := [.int 4851, .int x1]) dX10_narrowed_5 ca_X10_169 ⟨by decide, by decide⟩ h0 hA rfl (Nat.le_of_ble_eq_true rfl) (Nat.le_of_ble_eq_true rfl) (by decide) (cs_X10_copy hG (oa_af h0 hA) (rg_w (⟨by decide, by decide⟩ : Rg 4851 4851 4851)) (rg_w h1) (fun _ _ _ _ h => h)) rfl (fun _ h => nomatch h) (fun S101 hx105 hG102 hB103 hA104 => ?_)
  refine tt_iload_n (j := 2) dX10_narrowed_8 rfl ?_
  have B106 : ∀ (S107 : Hp), GI S107 E → Af E [9989] S S107 → TT xi M_X10_narrowed 31 [(0, .ref o0), (1, .int x1), (2, .int x2)] [] S107 kc nc P := by
    intro S107 hG108 hA109
    exact tt_vreturn dX10_narrowed_31 rfl (hP _ _ _ _ ⟨hG108, hA109, Or.inl ⟨_, rfl, rfl, trivial, rfl, rfl⟩⟩)
  refine tt_if_eq (tgt := 23) dX10_narrowed_9 rfl (fun q110 => ?_) (fun q110 => ?_)
  · skip
    have h111 : Rg 0 0 x2 := rg_eq_l h2 (⟨by decide, by decide⟩ : Rg 0 0 0) q110
    refine tt_aload_n (j := 0) dX10_narrowed_23 rfl ?_
    refine tt_iload_n (j := 1) dX10_narrowed_24 rfl ?_
    refine tt_sipush (v := 4851) dX10_narrowed_25 rfl ?_
    refine gt_Vv (As := [.int x1, .int 4851]) dX10_narrowed_28 ca_X10_210 ⟨by decide, by decide⟩ h0 hA104 rfl (Nat.le_of_ble_eq_true rfl) (Nat.le_of_ble_eq_true rfl) (by decide) (cs_X10_lowPart hG102 (oa_af h0 hA104) (rg_w h1) (rg_w (⟨by decide, by decide⟩ : Rg 4851 4851 4851)) (fun _ _ _ _ h => h)) rfl (fun _ h => nomatch h) (fun S112 hx116 hG113 hB114 hA115 => ?_)
    exact B106 S112 hG113 hA115
  · skip
    have h117 : Rg 1 1 x2 := rg_ne_lo h2 (⟨by decide, by decide⟩ : Rg 0 0 0) q110
    refine tt_aload_n (j := 0) dX10_narrowed_12 rfl ?_
    refine tt_iload_n (j := 1) dX10_narrowed_13 rfl ?_
    refine tt_sipush (v := 4851) dX10_narrowed_14 rfl ?_
    refine gt_Vv (As := [.int x1, .int 4851]) dX10_narrowed_17 ca_X10_228 ⟨by decide, by decide⟩ h0 hA104 rfl (Nat.le_of_ble_eq_true rfl) (Nat.le_of_ble_eq_true rfl) (by decide) (cs_X10_signed hG102 (oa_af h0 hA104) (rg_w h1) (rg_w (⟨by decide, by decide⟩ : Rg 4851 4851 4851)) (fun _ _ _ _ h => h)) rfl (fun _ h => nomatch h) (fun S118 hx122 hG119 hB120 hA121 => ?_)
    refine tt_goto (tgt := 31) dX10_narrowed_20 rfl ?_
    exact B106 S118 hG119 hA121
set_option maxHeartbeats 4000000 in
theorem cs_X10_workMore {xi : SX} {S : Hp} {E : List Nat} {kc nc : Nat} {P : Po} {o0 : Nat} (hG : GI S E) (h0 : Oa S E 10 0 o0) (hP : ∀ r T x y, PV E [9989] S kc nc rV ex0 [] r T x y → P r T x y) : TT xi M_X10_workMore 0 [(0, .ref o0)] [] S kc nc P := by
  have hA : Af E [9989] S S := af_rf
  refine tt_aload_n (j := 0) dX10_workMore_0 rfl ?_
  refine tt_getI (id := 655) dX10_workMore_1 fl_10_107 rfl rfl (ob_af h0 hA) ?_
  refine tt_bipush (v := 14) dX10_workMore_4 rfl ?_
  have B101 : ∀ (S102 : Hp), GI S102 E → Af E [9989] S S102 → TT xi M_X10_workMore 148 [(0, .ref o0)] [] S102 kc nc P := by
    intro S102 hG103 hA104
    exact tt_vreturn dX10_workMore_148 rfl (hP _ _ _ _ ⟨hG103, hA104, Or.inl ⟨_, rfl, rfl, trivial, rfl, rfl⟩⟩)
  refine tt_icmp_ne (tgt := 74) dX10_workMore_6 rfl (fun q105 => ?_) (fun q105 => ?_)
  · skip
    refine tt_aload_n (j := 0) dX10_workMore_74 rfl ?_
    refine tt_getI (id := 655) dX10_workMore_75 fl_10_107 rfl rfl (ob_af h0 hA) ?_
    refine tt_bipush (v := 15) dX10_workMore_78 rfl ?_
    refine tt_icmp_ne (tgt := 100) dX10_workMore_80 rfl (fun q106 => ?_) (fun q106 => ?_)
    · skip
      refine tt_aload_n (j := 0) dX10_workMore_100 rfl ?_
      refine tt_getI (id := 655) dX10_workMore_101 fl_10_107 rfl rfl (ob_af h0 hA) ?_
      refine tt_bipush (v := 16) dX10_workMore_104 rfl ?_
      refine tt_icmp_ne (tgt := 126) dX10_workMore_106 rfl (fun q107 => ?_) (fun q107 => ?_)
      · skip
        refine tt_aload_n (j := 0) dX10_workMore_126 rfl ?_
        refine tt_getI (id := 655) dX10_workMore_127 fl_10_107 rfl rfl (ob_af h0 hA) ?_
        refine tt_bipush (v := 17) dX10_workMore_130 rfl ?_
        refine tt_icmp_ne (tgt := 148) dX10_workMore_132 rfl (fun q108 => ?_) (fun q108 => ?_)
        · skip
          exact B101 S hG hA
        · skip
          have h109 : Rg 17 17 (hp_I S 655 o0) := rg_eq_l (rg_all (hp_I S 655 o0)) (⟨by decide, by decide⟩ : Rg 17 17 17) q108
          refine tt_aload_n (j := 0) dX10_workMore_135 rfl ?_
          refine tt_sipush (v := 4850) dX10_workMore_136 rfl ?_
          refine tt_sipush (v := 4848) dX10_workMore_139 rfl ?_
          refine tt_sipush (v := 4849) dX10_workMore_142 rfl ?_
          refine gt_Vv (As := [.int 4850, .int 4848, .int 4849]) dX10_workMore_145 ca_X10_244 ⟨by decide, by decide⟩ h0 hA rfl (Nat.le_of_ble_eq_true rfl) (Nat.le_of_ble_eq_true rfl) (by decide) (cs_X10_times hG (oa_af h0 hA) (rg_w (⟨by decide, by decide⟩ : Rg 4850 4850 4850)) (rg_w (⟨by decide, by decide⟩ : Rg 4848 4848 4848)) (rg_w (⟨by decide, by decide⟩ : Rg 4849 4849 4849)) (fun _ _ _ _ h => h)) rfl (fun _ h => nomatch h) (fun S110 hx114 hG111 hB112 hA113 => ?_)
          exact B101 S110 hG111 hA113
      · skip
        have h115 : Rg 16 16 (hp_I S 655 o0) := rg_eq_l (rg_all (hp_I S 655 o0)) (⟨by decide, by decide⟩ : Rg 16 16 16) q107
        refine tt_aload_n (j := 0) dX10_workMore_109 rfl ?_
        refine tt_sipush (v := 4850) dX10_workMore_110 rfl ?_
        refine tt_sipush (v := 4848) dX10_workMore_113 rfl ?_
        refine tt_aload_n (j := 0) dX10_workMore_116 rfl ?_
        refine tt_getI (id := 659) dX10_workMore_117 fl_10_120 rfl rfl (ob_af h0 hA) ?_
        refine gt_Vv (As := [.int 4850, .int 4848, .int (hp_I S 659 o0)]) dX10_workMore_120 ca_X10_201 ⟨by decide, by decide⟩ h0 hA rfl (Nat.le_of_ble_eq_true rfl) (Nat.le_of_ble_eq_true rfl) (by decide) (cs_X10_shiftDown hG (oa_af h0 hA) (rg_w (⟨by decide, by decide⟩ : Rg 4850 4850 4850)) (rg_w (⟨by decide, by decide⟩ : Rg 4848 4848 4848)) (fun _ _ _ _ h => h)) rfl (fun _ h => nomatch h) (fun S116 hx120 hG117 hB118 hA119 => ?_)
        refine tt_goto (tgt := 148) dX10_workMore_123 rfl ?_
        exact B101 S116 hG117 hA119
    · skip
      have h121 : Rg 15 15 (hp_I S 655 o0) := rg_eq_l (rg_all (hp_I S 655 o0)) (⟨by decide, by decide⟩ : Rg 15 15 15) q106
      refine tt_aload_n (j := 0) dX10_workMore_83 rfl ?_
      refine tt_sipush (v := 4850) dX10_workMore_84 rfl ?_
      refine tt_sipush (v := 4848) dX10_workMore_87 rfl ?_
      refine tt_aload_n (j := 0) dX10_workMore_90 rfl ?_
      refine tt_getI (id := 659) dX10_workMore_91 fl_10_120 rfl rfl (ob_af h0 hA) ?_
      refine gt_Vv (As := [.int 4850, .int 4848, .int (hp_I S 659 o0)]) dX10_workMore_94 ca_X10_247 ⟨by decide, by decide⟩ h0 hA rfl (Nat.le_of_ble_eq_true rfl) (Nat.le_of_ble_eq_true rfl) (by decide) (cs_X10_shiftZero hG (oa_af h0 hA) (rg_w (⟨by decide, by decide⟩ : Rg 4850 4850 4850)) (rg_w (⟨by decide, by decide⟩ : Rg 4848 4848 4848)) (fun _ _ _ _ h => h)) rfl (fun _ h => nomatch h) (fun S122 hx126 hG123 hB124 hA125 => ?_)
      refine tt_goto (tgt := 148) dX10_workMore_97 rfl ?_
      exact B101 S122 hG123 hA125
  · skip
    have h127 : Rg 14 14 (hp_I S 655 o0) := rg_eq_l (rg_all (hp_I S 655 o0)) (⟨by decide, by decide⟩ : Rg 14 14 14) q105
    refine tt_aload_n (j := 0) dX10_workMore_9 rfl ?_
    refine tt_getI (id := 659) dX10_workMore_10 fl_10_120 rfl rfl (ob_af h0 hA) ?_
    refine tt_bipush (v := 30) dX10_workMore_13 rfl ?_
    refine tt_icmp_le (tgt := 45) dX10_workMore_15 rfl (fun q128 => ?_) (fun q128 => ?_)
    · skip
      have h129 : Rg (-2147483648) 30 (hp_I S 659 o0) := rg_le_l (rg_all (hp_I S 659 o0)) (⟨by decide, by decide⟩ : Rg 30 30 30) q128
      refine tt_aload_n (j := 0) dX10_workMore_45 rfl ?_
      refine tt_sipush (v := 4931) dX10_workMore_46 rfl ?_
      refine tt_lconst (v := 1) dX10_workMore_49 rfl ?_
      refine tt_aload_n (j := 0) dX10_workMore_50 rfl ?_
      refine tt_getI (id := 659) dX10_workMore_51 fl_10_120 rfl rfl (ob_af h0 hA) ?_
      refine tt_lshl dX10_workMore_54 (gt_tl (fun y130 => ?_))
      refine gt_Vv (As := [.int 4931, .long y130]) dX10_workMore_55 ca_X10_193 ⟨by decide, by decide⟩ h0 hA rfl (Nat.le_of_ble_eq_true rfl) (Nat.le_of_ble_eq_true rfl) (by decide) (cs_X10_one hG (oa_af h0 hA) (rg_w (⟨by decide, by decide⟩ : Rg 4931 4931 4931)) (fun _ _ _ _ h => h)) rfl (fun _ h => nomatch h) (fun S131 hx135 hG132 hB133 hA134 => ?_)
      refine tt_aload_n (j := 0) dX10_workMore_58 rfl ?_
      refine tt_sipush (v := 4850) dX10_workMore_59 rfl ?_
      refine tt_sipush (v := 4848) dX10_workMore_62 rfl ?_
      refine tt_sipush (v := 4931) dX10_workMore_65 rfl ?_
      refine gt_Vv (As := [.int 4850, .int 4848, .int 4931]) dX10_workMore_68 ca_X10_244 ⟨by decide, by decide⟩ h0 hA134 rfl (Nat.le_of_ble_eq_true rfl) (Nat.le_of_ble_eq_true rfl) (by decide) (cs_X10_times hG132 (oa_af h0 hA134) (rg_w (⟨by decide, by decide⟩ : Rg 4850 4850 4850)) (rg_w (⟨by decide, by decide⟩ : Rg 4848 4848 4848)) (rg_w (⟨by decide, by decide⟩ : Rg 4931 4931 4931)) (fun _ _ _ _ h => h)) rfl (fun _ h => nomatch h) (fun S136 hx140 hG137 hB138 hA139 => ?_)
      refine tt_goto (tgt := 148) dX10_workMore_71 rfl ?_
      exact B101 S136 hG137 hA139
    · skip
      have h141 : Rg 31 2147483647 (hp_I S 659 o0) := rg_lt_r (⟨by decide, by decide⟩ : Rg 30 30 30) (rg_all (hp_I S 659 o0)) (nle_lt q128)
      refine tt_aload_n (j := 0) dX10_workMore_18 rfl ?_
      obtain ⟨b142, hr143, ho144⟩ := gi_R (k := 643) hG h0 32 4940
      refine gt_gR (id := 643) dX10_workMore_19 fl_10_13 rfl rfl h0 hA hr143 ?_
      refine tt_sipush (v := 4850) dX10_workMore_22 rfl ?_
      refine tt_aload_n (j := 0) dX10_workMore_25 rfl ?_
      refine gt_gR (id := 643) dX10_workMore_26 fl_10_13 rfl rfl h0 hA hr143 ?_
      refine tt_sipush (v := 4848) dX10_workMore_29 rfl ?_
      refine gt_iL dX10_workMore_32 ho144 hA (rg_in (⟨by decide, by decide⟩ : Rg 4848 4848 4848)) (fun x145 => ?_)
      have B146 : ∀ (x147 : Int32), Rg 0 2 x147 → TT xi M_X10_workMore 41 [(0, .ref o0)] [.int x147, .int 4850, .ref b142] S kc nc P := by
        intro x147 h148
        refine gt_iS dX10_workMore_41 ho144 hA (Or.inl (by decide)) (rg_in (⟨by decide, by decide⟩ : Rg 4850 4850 4850)) hG (by decide) (fun S149 hG150 hA151 e152 f153 er154 => ?_)
        refine tt_goto (tgt := 148) dX10_workMore_42 rfl ?_
        exact B101 S149 hG150 hA151
      refine tt_if_ne (tgt := 40) dX10_workMore_33 rfl (fun q155 => ?_) (fun q155 => ?_)
      · skip
        refine tt_iconst (v := 2) dX10_workMore_40 rfl ?_
        exact B146 2 (rg_w (⟨by decide, by decide⟩ : Rg 2 2 2))
      · skip
        have h156 : Rg 0 0 x145 := rg_eq_l (rg_all x145) (⟨by decide, by decide⟩ : Rg 0 0 0) q155
        refine tt_iconst (v := 0) dX10_workMore_36 rfl ?_
        refine tt_goto (tgt := 41) dX10_workMore_37 rfl ?_
        exact B146 0 (rg_w (⟨by decide, by decide⟩ : Rg 0 0 0))
set_option maxHeartbeats 4000000 in
theorem cs_X10_note {xi : SX} {S : Hp} {E : List Nat} {kc nc : Nat} {P : Po} {o0 : Nat} (hG : GI S E) (h0 : Oa S E 10 0 o0) (g657 : Rg 0 23 (hp_I S 657 o0)) (g658 : Rg (-1) 23 (hp_I S 658 o0)) (hP : ∀ r T x y, PV E [9988] S kc nc rV ex0 [] r T x y → P r T x y) : TT xi M_X10_note 0 [(0, .ref o0)] [] S kc nc P := by
  have hA : Af E [9988] S S := af_rf
  refine tt_aload_n (j := 0) dX10_note_0 rfl ?_
  refine tt_getI (id := 655) dX10_note_1 fl_10_107 rfl rfl (ob_af h0 hA) ?_
  refine tt_bipush (v := 13) dX10_note_4 rfl ?_
  have B101 : TT xi M_X10_note 27 [(0, .ref o0)] [] S kc nc P := by
    refine tt_aload_n (j := 0) dX10_note_27 rfl ?_
    obtain ⟨b102, hr103, ho104⟩ := gi_R (k := 649) hG h0 32 202
    refine gt_gR (id := 649) dX10_note_28 fl_10_33 rfl rfl h0 hA hr103 ?_
    refine tt_sipush (v := 201) dX10_note_31 rfl ?_
    refine gt_iLR dX10_note_34 ho104 hA (rg_in (⟨by decide, by decide⟩ : Rg 201 201 201)) hG (fun x105 h106 => ?_)
    have B107 : ∀ (x108 : Int32), Rg 0 1 x108 → TT xi M_X10_note 85 [(0, .ref o0)] [.int x108] S kc nc P := by
      intro x108 h109
      refine tt_istore_n (ks := [0, 1]) (L' := [(1, .int x108), (0, .ref o0)]) dX10_note_85 (by decide) rfl ?_
      refine tt_aload_n (j := 1) dX10_note_86 rfl ?_
      refine gt_gR (id := 649) dX10_note_87 fl_10_33 rfl rfl h0 hA hr103 ?_
      refine tt_sipush (v := 201) dX10_note_90 rfl ?_
      refine tt_iload_n (j := 0) dX10_note_93 rfl ?_
      have B110 : ∀ (x111 : Int32), Rg (-1) 31 x111 → TT xi M_X10_note 109 [(0, .ref o0), (1, .int x108)] [.int x111, .int 201, .ref b102] S kc nc P := by
        intro x111 h112
        refine gt_iSR dX10_note_109 ho104 hA (rg_in (⟨by decide, by decide⟩ : Rg 201 201 201)) hG (rg_w h112) (fun S113 hG114 hA115 e116 f117 er118 => ?_)
        exact tt_vreturn dX10_note_110 rfl (hP _ _ _ _ ⟨hG114, hA115, Or.inl ⟨_, rfl, rfl, trivial, rfl, rfl⟩⟩)
      refine tt_if_eq (tgt := 101) dX10_note_94 rfl (fun q119 => ?_) (fun q119 => ?_)
      · skip
        have h120 : Rg 0 0 x108 := rg_eq_l h109 (⟨by decide, by decide⟩ : Rg 0 0 0) q119
        refine tt_aload_n (j := 1) dX10_note_101 rfl ?_
        refine gt_gR (id := 649) dX10_note_102 fl_10_33 rfl rfl h0 hA hr103 ?_
        refine tt_sipush (v := 201) dX10_note_105 rfl ?_
        refine gt_iLR dX10_note_108 ho104 hA (rg_in (⟨by decide, by decide⟩ : Rg 201 201 201)) hG (fun x121 h122 => ?_)
        exact tt_loc (ks := [1, 0]) rfl (B110 x121 h122)
      · skip
        have h123 : Rg 1 1 x108 := rg_ne_lo h109 (⟨by decide, by decide⟩ : Rg 0 0 0) q119
        refine tt_iconst (v := 0) dX10_note_97 rfl ?_
        refine tt_goto (tgt := 109) dX10_note_98 rfl ?_
        exact tt_loc (ks := [1, 0]) rfl (B110 0 (rg_w (⟨by decide, by decide⟩ : Rg 0 0 0)))
    have B124 : TT xi M_X10_note 84 [(0, .ref o0)] [] S kc nc P := by
      refine tt_iconst (v := 0) dX10_note_84 rfl ?_
      exact B107 0 (rg_w (⟨by decide, by decide⟩ : Rg 0 0 0))
    refine tt_if_le (tgt := 84) dX10_note_35 rfl (fun q125 => ?_) (fun q125 => ?_)
    · skip
      have h126 : Rg (-1) 0 x105 := rg_le_l h106 (⟨by decide, by decide⟩ : Rg 0 0 0) q125
      exact B124 
    · skip
      have h127 : Rg 1 31 x105 := rg_lt_r (⟨by decide, by decide⟩ : Rg 0 0 0) h106 (nle_lt q125)
      refine tt_aload_n (j := 0) dX10_note_38 rfl ?_
      obtain ⟨b128, hr129, ho130⟩ := gi_R (k := 650) hG h0 32 202
      refine gt_gR (id := 650) dX10_note_39 fl_10_36 rfl rfl h0 hA hr129 ?_
      refine tt_sipush (v := 201) dX10_note_42 rfl ?_
      refine gt_iLR dX10_note_45 ho130 hA (rg_in (⟨by decide, by decide⟩ : Rg 201 201 201)) hG (fun x131 h132 => ?_)
      refine tt_aload_n (j := 0) dX10_note_46 rfl ?_
      refine tt_getI (id := 657) dX10_note_47 fl_10_110 rfl rfl (ob_af h0 hA) ?_
      have B133 : TT xi M_X10_note 80 [(0, .ref o0)] [] S kc nc P := by
        refine tt_iconst (v := 1) dX10_note_80 rfl ?_
        refine tt_goto (tgt := 85) dX10_note_81 rfl ?_
        exact B107 1 (rg_w (⟨by decide, by decide⟩ : Rg 1 1 1))
      refine tt_icmp_eq (tgt := 80) dX10_note_50 rfl (fun q134 => ?_) (fun q134 => ?_)
      · skip
        have h135 : Rg 0 23 x131 := rg_eq_l h132 g657 q134
        exact B133 
      · skip
        refine tt_aload_n (j := 0) dX10_note_53 rfl ?_
        refine gt_gR (id := 649) dX10_note_54 fl_10_33 rfl rfl h0 hA hr103 ?_
        refine tt_sipush (v := 201) dX10_note_57 rfl ?_
        refine gt_iLR dX10_note_60 ho104 hA (rg_in (⟨by decide, by decide⟩ : Rg 201 201 201)) hG (fun x136 h137 => ?_)
        refine tt_iconst (v := 1) dX10_note_61 rfl ?_
        refine tt_icmp_ne (tgt := 84) dX10_note_62 rfl (fun q138 => ?_) (fun q138 => ?_)
        · skip
          exact B124 
        · skip
          have h139 : Rg 1 1 x136 := rg_eq_l h137 (⟨by decide, by decide⟩ : Rg 1 1 1) q138
          refine tt_aload_n (j := 0) dX10_note_65 rfl ?_
          obtain ⟨b140, hr141, ho142⟩ := gi_R (k := 651) hG h0 32 202
          refine gt_gR (id := 651) dX10_note_66 fl_10_39 rfl rfl h0 hA hr141 ?_
          refine tt_sipush (v := 201) dX10_note_69 rfl ?_
          refine gt_iLR dX10_note_72 ho142 hA (rg_in (⟨by decide, by decide⟩ : Rg 201 201 201)) hG (fun x143 h144 => ?_)
          refine tt_aload_n (j := 0) dX10_note_73 rfl ?_
          refine tt_getI (id := 657) dX10_note_74 fl_10_110 rfl rfl (ob_af h0 hA) ?_
          refine tt_icmp_ne (tgt := 84) dX10_note_77 rfl (fun q145 => ?_) (fun q145 => ?_)
          · skip
            exact B124 
          · skip
            have h146 : Rg 0 23 x143 := rg_eq_l h144 g657 q145
            exact B133 
  refine tt_icmp_eq (tgt := 27) dX10_note_6 rfl (fun q147 => ?_) (fun q147 => ?_)
  · skip
    have h148 : Rg 13 13 (hp_I S 655 o0) := rg_eq_l (rg_all (hp_I S 655 o0)) (⟨by decide, by decide⟩ : Rg 13 13 13) q147
    exact B101 
  · skip
    refine tt_aload_n (j := 0) dX10_note_9 rfl ?_
    refine tt_getI (id := 655) dX10_note_10 fl_10_107 rfl rfl (ob_af h0 hA) ?_
    refine tt_bipush (v := 18) dX10_note_13 rfl ?_
    refine tt_icmp_eq (tgt := 27) dX10_note_15 rfl (fun q149 => ?_) (fun q149 => ?_)
    · skip
      have h150 : Rg 18 18 (hp_I S 655 o0) := rg_eq_l (rg_all (hp_I S 655 o0)) (⟨by decide, by decide⟩ : Rg 18 18 18) q149
      exact B101 
    · skip
      refine tt_aload_n (j := 0) dX10_note_18 rfl ?_
      refine tt_getI (id := 655) dX10_note_19 fl_10_107 rfl rfl (ob_af h0 hA) ?_
      refine tt_bipush (v := 9) dX10_note_22 rfl ?_
      refine tt_icmp_ne (tgt := 111) dX10_note_24 rfl (fun q151 => ?_) (fun q151 => ?_)
      · skip
        refine tt_aload_n (j := 0) dX10_note_111 rfl ?_
        obtain ⟨b152, hr153, ho154⟩ := gi_R (k := 649) hG h0 32 202
        refine gt_gR (id := 649) dX10_note_112 fl_10_33 rfl rfl h0 hA hr153 ?_
        refine tt_sipush (v := 201) dX10_note_115 rfl ?_
        refine tt_iconst (v := 0) dX10_note_118 rfl ?_
        refine gt_iSR dX10_note_119 ho154 hA (rg_in (⟨by decide, by decide⟩ : Rg 201 201 201)) hG (rg_w (⟨by decide, by decide⟩ : Rg 0 0 0)) (fun S155 hG156 hA157 e158 f159 er160 => ?_)
        refine tt_aload_n (j := 0) dX10_note_120 rfl ?_
        obtain ⟨b161, hr162, ho163⟩ := gi_R (k := 650) hG h0 32 202
        refine gt_gR (id := 650) dX10_note_121 fl_10_36 rfl rfl h0 hA157 hr162 ?_
        refine tt_sipush (v := 201) dX10_note_124 rfl ?_
        refine tt_aload_n (j := 0) dX10_note_127 rfl ?_
        refine gt_gI (id := 657) (v := (hp_I S 657 o0)) dX10_note_128 fl_10_110 rfl rfl h0 hA157 (i_af (k := 657) h0 hA157) ?_
        refine gt_iSR dX10_note_131 ho163 hA157 (rg_in (⟨by decide, by decide⟩ : Rg 201 201 201)) hG156 (rg_w g657) (fun S164 hG165 hA166 e167 f168 er169 => ?_)
        refine tt_aload_n (j := 0) dX10_note_132 rfl ?_
        obtain ⟨b170, hr171, ho172⟩ := gi_R (k := 651) hG h0 32 202
        refine gt_gR (id := 651) dX10_note_133 fl_10_39 rfl rfl h0 hA166 hr171 ?_
        refine tt_sipush (v := 201) dX10_note_136 rfl ?_
        refine tt_aload_n (j := 0) dX10_note_139 rfl ?_
        refine gt_gI (id := 658) (v := (hp_I S 658 o0)) dX10_note_140 fl_10_113 rfl rfl h0 hA166 (i_af (k := 658) h0 hA166) ?_
        refine gt_iSR dX10_note_143 ho172 hA166 (rg_in (⟨by decide, by decide⟩ : Rg 201 201 201)) hG165 (rg_w g658) (fun S173 hG174 hA175 e176 f177 er178 => ?_)
        refine tt_aload_n (j := 0) dX10_note_144 rfl ?_
        obtain ⟨b179, hr180, ho181⟩ := gi_R (k := 652) hG h0 33 202
        refine gt_gR (id := 652) dX10_note_145 fl_10_42 rfl rfl h0 hA175 hr180 ?_
        refine tt_sipush (v := 201) dX10_note_148 rfl ?_
        refine tt_aload_n (j := 0) dX10_note_151 rfl ?_
        refine gt_gJ (id := 660) (v := (hp_J S173 660 o0)) dX10_note_152 fl_10_116 rfl rfl h0 hA175 rfl ?_
        refine gt_lS dX10_note_155 ho181 hA175 (rg_in (⟨by decide, by decide⟩ : Rg 201 201 201)) hG174 (Or.inl (by decide)) (Or.inl (by decide)) (fun S182 hG183 hA184 e185 f186 er187 => ?_)
        refine tt_aload_n (j := 0) dX10_note_156 rfl ?_
        refine gt_gI (id := 656) (v := (hp_I S 656 o0)) dX10_note_157 fl_10_127 rfl rfl h0 hA184 (i_af (k := 656) h0 hA184) ?_
        refine tt_bipush (v := 64) dX10_note_160 rfl ?_
        have B188 : ∀ (S189 : Hp), GI S189 E → Af E [9988] S S189 → TT xi M_X10_note 314 [(0, .ref o0)] [] S189 kc nc P := by
          intro S189 hG190 hA191
          exact tt_vreturn dX10_note_314 rfl (hP _ _ _ _ ⟨hG190, hA191, Or.inl ⟨_, rfl, rfl, trivial, rfl, rfl⟩⟩)
        refine tt_icmp_ne (tgt := 314) dX10_note_162 rfl (fun q192 => ?_) (fun q192 => ?_)
        · skip
          exact B188 S182 hG183 hA184
        · skip
          have h193 : Rg 64 64 (hp_I S 656 o0) := rg_eq_l (rg_all (hp_I S 656 o0)) (⟨by decide, by decide⟩ : Rg 64 64 64) q192
          refine tt_aload_n (j := 0) dX10_note_165 rfl ?_
          refine gt_gI (id := 655) (v := (hp_I S 655 o0)) dX10_note_166 fl_10_107 rfl rfl h0 hA184 (i_af (k := 655) h0 hA184) ?_
          have B194 : ∀ (x195 : Int32), Rg 0 1 x195 → TT xi M_X10_note 257 [(0, .ref o0)] [.int x195] S182 kc nc P := by
            intro x195 h196
            refine tt_istore_n (ks := [0, 1]) (L' := [(1, .int x195), (0, .ref o0)]) dX10_note_257 (by decide) rfl ?_
            refine tt_aload_n (j := 1) dX10_note_258 rfl ?_
            refine gt_gR (id := 649) dX10_note_259 fl_10_33 rfl rfl h0 hA184 hr153 ?_
            refine tt_sipush (v := 201) dX10_note_262 rfl ?_
            refine tt_aload_n (j := 1) dX10_note_265 rfl ?_
            refine gt_gI (id := 655) (v := (hp_I S 655 o0)) dX10_note_266 fl_10_107 rfl rfl h0 hA184 (i_af (k := 655) h0 hA184) ?_
            refine tt_bipush (v := 7) dX10_note_269 rfl ?_
            have B197 : ∀ (x198 : Int32), Rg 0 3 x198 → TT xi M_X10_note 313 [(0, .ref o0), (1, .int x195)] [.int x198, .int 201, .ref b152] S182 kc nc P := by
              intro x198 h199
              refine gt_iSR dX10_note_313 ho154 hA184 (rg_in (⟨by decide, by decide⟩ : Rg 201 201 201)) hG183 (rg_w h199) (fun S200 hG201 hA202 e203 f204 er205 => ?_)
              exact tt_loc (ks := [0]) rfl (B188 S200 hG201 hA202)
            refine tt_icmp_ne (tgt := 304) dX10_note_271 rfl (fun q206 => ?_) (fun q206 => ?_)
            · skip
              refine tt_iload_n (j := 0) dX10_note_304 rfl ?_
              refine tt_if_eq (tgt := 312) dX10_note_305 rfl (fun q207 => ?_) (fun q207 => ?_)
              · skip
                have h208 : Rg 0 0 x195 := rg_eq_l h196 (⟨by decide, by decide⟩ : Rg 0 0 0) q207
                refine tt_iconst (v := 0) dX10_note_312 rfl ?_
                exact tt_loc (ks := [1, 0]) rfl (B197 0 (rg_w (⟨by decide, by decide⟩ : Rg 0 0 0)))
              · skip
                have h209 : Rg 1 1 x195 := rg_ne_lo h196 (⟨by decide, by decide⟩ : Rg 0 0 0) q207
                refine tt_iconst (v := 3) dX10_note_308 rfl ?_
                refine tt_goto (tgt := 313) dX10_note_309 rfl ?_
                exact tt_loc (ks := [1, 0]) rfl (B197 3 (rg_w (⟨by decide, by decide⟩ : Rg 3 3 3)))
            · skip
              have h210 : Rg 7 7 (hp_I S 655 o0) := rg_eq_l (rg_all (hp_I S 655 o0)) (⟨by decide, by decide⟩ : Rg 7 7 7) q206
              refine tt_aload_n (j := 1) dX10_note_274 rfl ?_
              refine gt_gI (id := 658) (v := (hp_I S 658 o0)) dX10_note_275 fl_10_113 rfl rfl h0 hA184 (i_af (k := 658) h0 hA184) ?_
              refine tt_aload_n (j := 1) dX10_note_278 rfl ?_
              refine gt_gI (id := 657) (v := (hp_I S 657 o0)) dX10_note_279 fl_10_110 rfl rfl h0 hA184 (i_af (k := 657) h0 hA184) ?_
              refine tt_icmp_ne (tgt := 289) dX10_note_282 rfl (fun q211 => ?_) (fun q211 => ?_)
              · skip
                refine tt_aload_n (j := 1) dX10_note_289 rfl ?_
                refine gt_gI (id := 658) (v := (hp_I S 658 o0)) dX10_note_290 fl_10_113 rfl rfl h0 hA184 (i_af (k := 658) h0 hA184) ?_
                refine tt_if_lt (tgt := 300) dX10_note_293 rfl (fun q212 => ?_) (fun q212 => ?_)
                · skip
                  have h213 : Rg (-1) (-1) (hp_I S 658 o0) := rg_lt_l g658 (⟨by decide, by decide⟩ : Rg 0 0 0) q212
                  refine tt_iconst (v := 2) dX10_note_300 rfl ?_
                  refine tt_goto (tgt := 313) dX10_note_301 rfl ?_
                  exact tt_loc (ks := [1, 0]) rfl (B197 2 (rg_w (⟨by decide, by decide⟩ : Rg 2 2 2)))
                · skip
                  have h214 : Rg 0 23 (hp_I S 658 o0) := rg_le_r (⟨by decide, by decide⟩ : Rg 0 0 0) g658 (nlt_le q212)
                  refine tt_iconst (v := 1) dX10_note_296 rfl ?_
                  refine tt_goto (tgt := 313) dX10_note_297 rfl ?_
                  exact tt_loc (ks := [1, 0]) rfl (B197 1 (rg_w (⟨by decide, by decide⟩ : Rg 1 1 1)))
              · skip
                have h215 : Rg 0 23 (hp_I S 658 o0) := rg_eq_l g658 g657 q211
                refine tt_iconst (v := 0) dX10_note_285 rfl ?_
                refine tt_goto (tgt := 313) dX10_note_286 rfl ?_
                exact tt_loc (ks := [1, 0]) rfl (B197 0 (rg_w (⟨by decide, by decide⟩ : Rg 0 0 0)))
          have B216 : TT xi M_X10_note 252 [(0, .ref o0)] [] S182 kc nc P := by
            refine tt_iconst (v := 1) dX10_note_252 rfl ?_
            refine tt_goto (tgt := 257) dX10_note_253 rfl ?_
            exact B194 1 (rg_w (⟨by decide, by decide⟩ : Rg 1 1 1))
          refine tt_if_eq (tgt := 252) dX10_note_169 rfl (fun q217 => ?_) (fun q217 => ?_)
          · skip
            have h218 : Rg 0 0 (hp_I S 655 o0) := rg_eq_l (rg_all (hp_I S 655 o0)) (⟨by decide, by decide⟩ : Rg 0 0 0) q217
            exact B216 
          · skip
            refine tt_aload_n (j := 0) dX10_note_172 rfl ?_
            refine gt_gI (id := 655) (v := (hp_I S 655 o0)) dX10_note_173 fl_10_107 rfl rfl h0 hA184 (i_af (k := 655) h0 hA184) ?_
            refine tt_iconst (v := 5) dX10_note_176 rfl ?_
            refine tt_icmp_eq (tgt := 252) dX10_note_177 rfl (fun q219 => ?_) (fun q219 => ?_)
            · skip
              have h220 : Rg 5 5 (hp_I S 655 o0) := rg_eq_l (rg_all (hp_I S 655 o0)) (⟨by decide, by decide⟩ : Rg 5 5 5) q219
              exact B216 
            · skip
              refine tt_aload_n (j := 0) dX10_note_180 rfl ?_
              refine gt_gI (id := 655) (v := (hp_I S 655 o0)) dX10_note_181 fl_10_107 rfl rfl h0 hA184 (i_af (k := 655) h0 hA184) ?_
              refine tt_iconst (v := 4) dX10_note_184 rfl ?_
              refine tt_icmp_eq (tgt := 252) dX10_note_185 rfl (fun q221 => ?_) (fun q221 => ?_)
              · skip
                have h222 : Rg 4 4 (hp_I S 655 o0) := rg_eq_l (rg_all (hp_I S 655 o0)) (⟨by decide, by decide⟩ : Rg 4 4 4) q221
                exact B216 
              · skip
                refine tt_aload_n (j := 0) dX10_note_188 rfl ?_
                refine gt_gI (id := 655) (v := (hp_I S 655 o0)) dX10_note_189 fl_10_107 rfl rfl h0 hA184 (i_af (k := 655) h0 hA184) ?_
                refine tt_iconst (v := 1) dX10_note_192 rfl ?_
                refine tt_icmp_eq (tgt := 252) dX10_note_193 rfl (fun q223 => ?_) (fun q223 => ?_)
                · skip
                  have h224 : Rg 1 1 (hp_I S 655 o0) := rg_eq_l (rg_all (hp_I S 655 o0)) (⟨by decide, by decide⟩ : Rg 1 1 1) q223
                  exact B216 
                · skip
                  refine tt_aload_n (j := 0) dX10_note_196 rfl ?_
                  refine gt_gI (id := 655) (v := (hp_I S 655 o0)) dX10_note_197 fl_10_107 rfl rfl h0 hA184 (i_af (k := 655) h0 hA184) ?_
                  refine tt_bipush (v := 6) dX10_note_200 rfl ?_
                  refine tt_icmp_eq (tgt := 252) dX10_note_202 rfl (fun q225 => ?_) (fun q225 => ?_)
                  · skip
                    have h226 : Rg 6 6 (hp_I S 655 o0) := rg_eq_l (rg_all (hp_I S 655 o0)) (⟨by decide, by decide⟩ : Rg 6 6 6) q225
                    exact B216 
                  · skip
                    refine tt_aload_n (j := 0) dX10_note_205 rfl ?_
                    refine gt_gI (id := 655) (v := (hp_I S 655 o0)) dX10_note_206 fl_10_107 rfl rfl h0 hA184 (i_af (k := 655) h0 hA184) ?_
                    refine tt_bipush (v := 11) dX10_note_209 rfl ?_
                    refine tt_icmp_eq (tgt := 252) dX10_note_211 rfl (fun q227 => ?_) (fun q227 => ?_)
                    · skip
                      have h228 : Rg 11 11 (hp_I S 655 o0) := rg_eq_l (rg_all (hp_I S 655 o0)) (⟨by decide, by decide⟩ : Rg 11 11 11) q227
                      exact B216 
                    · skip
                      refine tt_aload_n (j := 0) dX10_note_214 rfl ?_
                      refine gt_gI (id := 655) (v := (hp_I S 655 o0)) dX10_note_215 fl_10_107 rfl rfl h0 hA184 (i_af (k := 655) h0 hA184) ?_
                      refine tt_bipush (v := 12) dX10_note_218 rfl ?_
                      refine tt_icmp_eq (tgt := 252) dX10_note_220 rfl (fun q229 => ?_) (fun q229 => ?_)
                      · skip
                        have h230 : Rg 12 12 (hp_I S 655 o0) := rg_eq_l (rg_all (hp_I S 655 o0)) (⟨by decide, by decide⟩ : Rg 12 12 12) q229
                        exact B216 
                      · skip
                        refine tt_aload_n (j := 0) dX10_note_223 rfl ?_
                        refine gt_gI (id := 655) (v := (hp_I S 655 o0)) dX10_note_224 fl_10_107 rfl rfl h0 hA184 (i_af (k := 655) h0 hA184) ?_
                        refine tt_bipush (v := 10) dX10_note_227 rfl ?_
                        refine tt_icmp_eq (tgt := 252) dX10_note_229 rfl (fun q231 => ?_) (fun q231 => ?_)
                        · skip
                          have h232 : Rg 10 10 (hp_I S 655 o0) := rg_eq_l (rg_all (hp_I S 655 o0)) (⟨by decide, by decide⟩ : Rg 10 10 10) q231
                          exact B216 
                        · skip
                          refine tt_aload_n (j := 0) dX10_note_232 rfl ?_
                          refine gt_gI (id := 655) (v := (hp_I S 655 o0)) dX10_note_233 fl_10_107 rfl rfl h0 hA184 (i_af (k := 655) h0 hA184) ?_
                          refine tt_bipush (v := 8) dX10_note_236 rfl ?_
                          have B233 : TT xi M_X10_note 256 [(0, .ref o0)] [] S182 kc nc P := by
                            refine tt_iconst (v := 0) dX10_note_256 rfl ?_
                            exact B194 0 (rg_w (⟨by decide, by decide⟩ : Rg 0 0 0))
                          refine tt_icmp_ne (tgt := 256) dX10_note_238 rfl (fun q234 => ?_) (fun q234 => ?_)
                          · skip
                            exact B233 
                          · skip
                            have h235 : Rg 8 8 (hp_I S 655 o0) := rg_eq_l (rg_all (hp_I S 655 o0)) (⟨by decide, by decide⟩ : Rg 8 8 8) q234
                            refine tt_aload_n (j := 0) dX10_note_241 rfl ?_
                            refine gt_gI (id := 658) (v := (hp_I S 658 o0)) dX10_note_242 fl_10_113 rfl rfl h0 hA184 (i_af (k := 658) h0 hA184) ?_
                            refine tt_aload_n (j := 0) dX10_note_245 rfl ?_
                            refine gt_gI (id := 657) (v := (hp_I S 657 o0)) dX10_note_246 fl_10_110 rfl rfl h0 hA184 (i_af (k := 657) h0 hA184) ?_
                            refine tt_icmp_ne (tgt := 256) dX10_note_249 rfl (fun q236 => ?_) (fun q236 => ?_)
                            · skip
                              exact B233 
                            · skip
                              have h237 : Rg 0 23 (hp_I S 658 o0) := rg_eq_l g658 g657 q236
                              exact B216 
      · skip
        have h238 : Rg 9 9 (hp_I S 655 o0) := rg_eq_l (rg_all (hp_I S 655 o0)) (⟨by decide, by decide⟩ : Rg 9 9 9) q151
        exact B101 
set_option maxHeartbeats 4000000 in
theorem cs_X10_isSameRecord {xi : SX} {S : Hp} {E : List Nat} {kc nc : Nat} {P : Po} {o0 : Nat} {x1 : Int32} {x2 : Int32} (hG : GI S E) (h0 : Oa S E 10 0 o0) (h1 : Rg 0 201 x1) (h2 : Rg 0 201 x2) (hP : ∀ r T x y, PV E [] S kc nc (rI 0 1) (fun _ T => T = S) [] r T x y → P r T x y) : TT xi M_X10_isSameRecord 0 [(0, .ref o0), (1, .int x1), (2, .int x2)] [] S kc nc P := by
  have hA : Af E [] S S := af_rf
  refine tt_aload_n (j := 0) dX10_isSameRecord_0 rfl ?_
  obtain ⟨b101, hr102, ho103⟩ := gi_R (k := 649) hG h0 32 202
  refine gt_gR (id := 649) dX10_isSameRecord_1 fl_10_33 rfl rfl h0 hA hr102 ?_
  refine tt_iload_n (j := 1) dX10_isSameRecord_4 rfl ?_
  refine gt_iLR dX10_isSameRecord_5 ho103 hA (rg_in h1) hG (fun x104 h105 => ?_)
  refine tt_istore_n (ks := [0, 1, 2, 3]) (L' := [(3, .int x104), (0, .ref o0), (1, .int x1), (2, .int x2)]) dX10_isSameRecord_6 (by decide) rfl ?_
  refine tt_iload_n (j := 0) dX10_isSameRecord_7 rfl ?_
  refine tt_aload_n (j := 1) dX10_isSameRecord_8 rfl ?_
  refine gt_gR (id := 649) dX10_isSameRecord_9 fl_10_33 rfl rfl h0 hA hr102 ?_
  refine tt_iload_n (j := 3) dX10_isSameRecord_12 rfl ?_
  refine gt_iLR dX10_isSameRecord_13 ho103 hA (rg_in h2) hG (fun x106 h107 => ?_)
  have B108 : TT xi M_X10_isSameRecord 21 [(0, .ref o0), (1, .int x1), (2, .int x2), (3, .int x104)] [] S kc nc P := by
    refine tt_iload_n (j := 3) dX10_isSameRecord_21 rfl ?_
    refine tt_aload_n (j := 0) dX10_isSameRecord_22 rfl ?_
    refine gt_gR (id := 649) dX10_isSameRecord_23 fl_10_33 rfl rfl h0 hA hr102 ?_
    refine tt_iload_n (j := 2) dX10_isSameRecord_26 rfl ?_
    refine gt_iLR dX10_isSameRecord_27 ho103 hA (rg_in h2) hG (fun x109 h110 => ?_)
    have B111 : ∀ (x112 : Int32), Rg 0 1 x112 → TT xi M_X10_isSameRecord 36 [(0, .ref o0), (1, .int x1), (2, .int x2), (3, .int x104)] [.int x112] S kc nc P := by
      intro x112 h113
      exact tt_ireturn dX10_isSameRecord_36 .boolean rfl (rg_nar (rg_w h113)) (hP _ _ _ _ ⟨hG, hA, Or.inl ⟨_, rfl, ⟨_, rfl, rg_w h113⟩, rfl, rfl, rfl⟩⟩)
    refine tt_icmp_ne (tgt := 35) dX10_isSameRecord_28 rfl (fun q114 => ?_) (fun q114 => ?_)
    · skip
      refine tt_iconst (v := 0) dX10_isSameRecord_35 rfl ?_
      exact B111 0 (rg_w (⟨by decide, by decide⟩ : Rg 0 0 0))
    · skip
      refine tt_iconst (v := 1) dX10_isSameRecord_31 rfl ?_
      refine tt_goto (tgt := 36) dX10_isSameRecord_32 rfl ?_
      exact B111 1 (rg_w (⟨by decide, by decide⟩ : Rg 1 1 1))
  refine tt_icmp_ne (tgt := 21) dX10_isSameRecord_14 rfl (fun q115 => ?_) (fun q115 => ?_)
  · skip
    exact tt_loc (ks := [1, 2, 3, 0]) rfl (B108 )
  · skip
    refine tt_iload_n (j := 0) dX10_isSameRecord_17 rfl ?_
    refine tt_if_ne (tgt := 37) dX10_isSameRecord_18 rfl (fun q116 => ?_) (fun q116 => ?_)
    · skip
      refine tt_aload_n (j := 1) dX10_isSameRecord_37 rfl ?_
      obtain ⟨b117, hr118, ho119⟩ := gi_R (k := 650) hG h0 32 202
      refine gt_gR (id := 650) dX10_isSameRecord_38 fl_10_36 rfl rfl h0 hA hr118 ?_
      refine tt_iload_n (j := 2) dX10_isSameRecord_41 rfl ?_
      refine gt_iLR dX10_isSameRecord_42 ho119 hA (rg_in h1) hG (fun x120 h121 => ?_)
      refine tt_aload_n (j := 1) dX10_isSameRecord_43 rfl ?_
      refine gt_gR (id := 650) dX10_isSameRecord_44 fl_10_36 rfl rfl h0 hA hr118 ?_
      refine tt_iload_n (j := 3) dX10_isSameRecord_47 rfl ?_
      refine gt_iLR dX10_isSameRecord_48 ho119 hA (rg_in h2) hG (fun x122 h123 => ?_)
      have B124 : ∀ (x125 : Int32), Rg 0 1 x125 → TT xi M_X10_isSameRecord 98 [(0, .ref o0), (1, .int x1), (2, .int x2), (3, .int x104)] [.int x125] S kc nc P := by
        intro x125 h126
        exact tt_ireturn dX10_isSameRecord_98 .boolean rfl (rg_nar (rg_w h126)) (hP _ _ _ _ ⟨hG, hA, Or.inl ⟨_, rfl, ⟨_, rfl, rg_w h126⟩, rfl, rfl, rfl⟩⟩)
      have B127 : TT xi M_X10_isSameRecord 97 [(0, .ref o0), (1, .int x1), (2, .int x2), (3, .int x104)] [] S kc nc P := by
        refine tt_iconst (v := 0) dX10_isSameRecord_97 rfl ?_
        exact B124 0 (rg_w (⟨by decide, by decide⟩ : Rg 0 0 0))
      refine tt_icmp_ne (tgt := 97) dX10_isSameRecord_49 rfl (fun q128 => ?_) (fun q128 => ?_)
      · skip
        exact tt_loc (ks := [1, 2, 3, 0]) rfl (B127 )
      · skip
        refine tt_iload_n (j := 0) dX10_isSameRecord_52 rfl ?_
        refine tt_iconst (v := 1) dX10_isSameRecord_53 rfl ?_
        have B129 : TT xi M_X10_isSameRecord 72 [(0, .ref o0), (1, .int x1), (2, .int x2), (3, .int x104)] [] S kc nc P := by
          refine tt_iload_n (j := 3) dX10_isSameRecord_72 rfl ?_
          refine tt_iconst (v := 2) dX10_isSameRecord_73 rfl ?_
          have B130 : TT xi M_X10_isSameRecord 93 [(0, .ref o0), (1, .int x1), (2, .int x2), (3, .int x104)] [] S kc nc P := by
            refine tt_iconst (v := 1) dX10_isSameRecord_93 rfl ?_
            refine tt_goto (tgt := 98) dX10_isSameRecord_94 rfl ?_
            exact B124 1 (rg_w (⟨by decide, by decide⟩ : Rg 1 1 1))
          refine tt_icmp_ne (tgt := 93) dX10_isSameRecord_74 rfl (fun q131 => ?_) (fun q131 => ?_)
          · skip
            exact B130 
          · skip
            have h132 : Rg 2 2 x104 := rg_eq_l h105 (⟨by decide, by decide⟩ : Rg 2 2 2) q131
            refine tt_aload_n (j := 0) dX10_isSameRecord_77 rfl ?_
            obtain ⟨b133, hr134, ho135⟩ := gi_R (k := 652) hG h0 33 202
            refine gt_gR (id := 652) dX10_isSameRecord_78 fl_10_42 rfl rfl h0 hA hr134 ?_
            refine tt_iload_n (j := 1) dX10_isSameRecord_81 rfl ?_
            refine gt_lLt dX10_isSameRecord_82 ho135 hA (rg_in h1) ?_
            refine tt_aload_n (j := 0) dX10_isSameRecord_83 rfl ?_
            refine gt_gR (id := 652) dX10_isSameRecord_84 fl_10_42 rfl rfl h0 hA hr134 ?_
            refine tt_iload_n (j := 2) dX10_isSameRecord_87 rfl ?_
            refine gt_lLt dX10_isSameRecord_88 ho135 hA (rg_in h2) ?_
            refine tt_lcmp dX10_isSameRecord_89 ?_
            refine tt_if_ne (tgt := 97) dX10_isSameRecord_90 rfl (fun q136 => ?_) (fun q136 => ?_)
            · skip
              exact B127 
            · skip
              exact B130 
        refine tt_icmp_ne (tgt := 72) dX10_isSameRecord_54 rfl (fun q137 => ?_) (fun q137 => ?_)
        · skip
          exact tt_loc (ks := [1, 2, 3, 0]) rfl (B129 )
        · skip
          have h138 : Rg 1 1 x104 := rg_eq_l h105 (⟨by decide, by decide⟩ : Rg 1 1 1) q137
          refine tt_aload_n (j := 1) dX10_isSameRecord_57 rfl ?_
          obtain ⟨b139, hr140, ho141⟩ := gi_R (k := 651) hG h0 32 202
          refine gt_gR (id := 651) dX10_isSameRecord_58 fl_10_39 rfl rfl h0 hA hr140 ?_
          refine tt_iload_n (j := 2) dX10_isSameRecord_61 rfl ?_
          refine gt_iLR dX10_isSameRecord_62 ho141 hA (rg_in h1) hG (fun x142 h143 => ?_)
          refine tt_aload_n (j := 1) dX10_isSameRecord_63 rfl ?_
          refine gt_gR (id := 651) dX10_isSameRecord_64 fl_10_39 rfl rfl h0 hA hr140 ?_
          refine tt_iload_n (j := 3) dX10_isSameRecord_67 rfl ?_
          refine gt_iLR dX10_isSameRecord_68 ho141 hA (rg_in h2) hG (fun x144 h145 => ?_)
          refine tt_icmp_ne (tgt := 97) dX10_isSameRecord_69 rfl (fun q146 => ?_) (fun q146 => ?_)
          · skip
            exact tt_loc (ks := [1, 2, 3, 0]) rfl (B127 )
          · skip
            exact tt_loc (ks := [1, 2, 3, 0]) rfl (B129 )
    · skip
      have h147 : Rg 0 0 x104 := rg_eq_l h105 (⟨by decide, by decide⟩ : Rg 0 0 0) q116
      exact tt_loc (ks := [1, 2, 3, 0]) rfl (B108 )
