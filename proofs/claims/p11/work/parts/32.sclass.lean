set_option maxHeartbeats 4000000 in
theorem cs_X2_noteRecord {xi : SX} {S : Hp} {E : List Nat} {kc nc : Nat} {P : Po} {o0 : Nat} {o1 : Nat} {o2 : Nat} (hG : GI S E) (h0 : Oa S E 2 0 o0) (h1 : Oa S E 3 0 o1) (h2 : Oa S E 8 0 o2) (hP : ∀ r T x y, PV E [515, 516, 517, 9987] S kc nc rV ex0 [] r T x y → P r T x y) : TT xi M_X2_noteRecord 0 [(0, .ref o0), (1, .ref o1), (2, .ref o2)] [] S kc nc P := by
  have hA : Af E [515, 516, 517, 9987] S S := af_rf
  refine tt_aload_n (j := 1) dX2_noteRecord_0 rfl ?_
  refine tt_getI (id := 202) dX2_noteRecord_1 fl_2_41 rfl rfl (ob_af h1 hA) ?_
  refine tt_istore_n (ks := [0, 1, 2, 3]) (L' := [(3, .int (hp_I S 202 o1)), (0, .ref o0), (1, .ref o1), (2, .ref o2)]) dX2_noteRecord_4 (by decide) rfl ?_
  refine tt_aload_n (j := 2) dX2_noteRecord_5 rfl ?_
  refine tt_getI (id := 201) dX2_noteRecord_6 fl_2_73 rfl rfl (ob_af h1 hA) ?_
  refine tt_bipush (v := 64) dX2_noteRecord_9 rfl ?_
  have B101 : ∀ (x102 : Int32), Rg 0 1 x102 → TT xi M_X2_noteRecord 19 [(0, .ref o0), (1, .ref o1), (2, .ref o2), (3, .int (hp_I S 202 o1))] [.int x102] S kc nc P := by
    intro x102 h103
    refine tt_istore (ks := [0, 1, 2, 3, 4]) (L' := [(4, .int x102), (0, .ref o0), (1, .ref o1), (2, .ref o2), (3, .int (hp_I S 202 o1))]) dX2_noteRecord_19 (by decide) rfl ?_
    refine tt_iload_n (j := 4) dX2_noteRecord_21 rfl ?_
    refine tt_aload_n (j := 2) dX2_noteRecord_22 rfl ?_
    refine tt_getI (id := 203) dX2_noteRecord_23 fl_2_56 rfl rfl (ob_af h1 hA) ?_
    have B104 : ∀ (x105 : Int32), Rg 0 1 x105 → TT xi M_X2_noteRecord 34 [(0, .ref o0), (1, .ref o1), (2, .ref o2), (3, .int (hp_I S 202 o1)), (4, .int x102)] [.int x105] S kc nc P := by
      intro x105 h106
      refine tt_istore (ks := [0, 1, 2, 3, 4, 5]) (L' := [(5, .int x105), (0, .ref o0), (1, .ref o1), (2, .ref o2), (3, .int (hp_I S 202 o1)), (4, .int x102)]) dX2_noteRecord_34 (by decide) rfl ?_
      refine tt_aload_n (j := 2) dX2_noteRecord_36 rfl ?_
      refine tt_getI (id := 200) dX2_noteRecord_37 fl_2_24 rfl rfl (ob_af h1 hA) ?_
      have B107 : TT xi M_X2_noteRecord 186 [(0, .ref o0), (1, .ref o1), (2, .ref o2), (3, .int (hp_I S 202 o1)), (4, .int x102), (5, .int x105)] [] S kc nc P := by
        refine tt_aload_n (j := 2) dX2_noteRecord_186 rfl ?_
        refine gt_Vv (As := []) dX2_noteRecord_187 ca_X2_92 ⟨by decide, by decide⟩ h2 hA rfl (Nat.le_of_ble_eq_true rfl) (Nat.le_of_ble_eq_true rfl) (by decide) (cs_X8_dropRecord hG (oa_af h2 hA) (fun _ _ _ _ h => h)) rfl (fun _ h => nomatch h) (fun S108 hx112 hG109 hB110 hA111 => ?_)
        exact tt_vreturn dX2_noteRecord_190 rfl (hP _ _ _ _ ⟨hG109, hA111, Or.inl ⟨_, rfl, rfl, trivial, rfl, rfl⟩⟩)
      refine gt_ts [104, 125, 150, 169, 172] dX2_noteRecord_40 (by decide) (by decide) (fa_cons ?_ (fa_cons ?_ (fa_cons ?_ (fa_cons ?_ (fa_cons ?_ fa_nil)))))
      · skip
        refine tt_aload_n (j := 3) dX2_noteRecord_104 rfl ?_
        refine tt_getI (id := 516) dX2_noteRecord_105 fl_2_86 rfl rfl (ob_af h2 hA) ?_
        refine tt_iload_n (j := 4) dX2_noteRecord_108 rfl ?_
        have B113 : ∀ (S114 : Hp), GI S114 E → Af E [515, 516, 517, 9987] S S114 → TT xi M_X2_noteRecord 124 [(0, .ref o0), (1, .ref o1), (2, .ref o2), (3, .int (hp_I S 202 o1)), (4, .int x102), (5, .int x105)] [] S114 kc nc P := by
          intro S114 hG115 hA116
          exact tt_vreturn dX2_noteRecord_124 rfl (hP _ _ _ _ ⟨hG115, hA116, Or.inl ⟨_, rfl, rfl, trivial, rfl, rfl⟩⟩)
        have B117 : TT xi M_X2_noteRecord 120 [(0, .ref o0), (1, .ref o1), (2, .ref o2), (3, .int (hp_I S 202 o1)), (4, .int x102), (5, .int x105)] [] S kc nc P := by
          refine tt_aload_n (j := 2) dX2_noteRecord_120 rfl ?_
          refine gt_Vv (As := []) dX2_noteRecord_121 ca_X2_92 ⟨by decide, by decide⟩ h2 hA rfl (Nat.le_of_ble_eq_true rfl) (Nat.le_of_ble_eq_true rfl) (by decide) (cs_X8_dropRecord hG (oa_af h2 hA) (fun _ _ _ _ h => h)) rfl (fun _ h => nomatch h) (fun S118 hx122 hG119 hB120 hA121 => ?_)
          exact B113 S118 hG119 hA121
        refine tt_icmp_eq (tgt := 120) dX2_noteRecord_109 rfl (fun q123 => ?_) (fun q123 => ?_)
        · skip
          exact tt_loc (ks := [1, 2, 3, 4, 5, 0]) rfl (B117 )
        · skip
          refine tt_aload_n (j := 3) dX2_noteRecord_112 rfl ?_
          refine tt_getI (id := 517) dX2_noteRecord_113 fl_2_89 rfl rfl (ob_af h2 hA) ?_
          refine tt_iload_n (j := 4) dX2_noteRecord_116 rfl ?_
          refine tt_icmp_ne (tgt := 124) dX2_noteRecord_117 rfl (fun q124 => ?_) (fun q124 => ?_)
          · skip
            exact tt_loc (ks := [1, 2, 3, 4, 5, 0]) rfl (B113 S hG hA)
          · skip
            exact tt_loc (ks := [1, 2, 3, 4, 5, 0]) rfl (B117 )
      · skip
        refine tt_iload (j := 5) dX2_noteRecord_125 rfl ?_
        refine tt_if_eq (tgt := 186) dX2_noteRecord_127 rfl (fun q125 => ?_) (fun q125 => ?_)
        · skip
          have h126 : Rg 0 0 x102 := rg_eq_l h103 (⟨by decide, by decide⟩ : Rg 0 0 0) q125
          exact tt_loc (ks := [1, 2, 3, 4, 5, 0]) rfl (B107 )
        · skip
          have h127 : Rg 1 1 x102 := rg_ne_lo h103 (⟨by decide, by decide⟩ : Rg 0 0 0) q125
          refine tt_iload (j := 0) dX2_noteRecord_130 rfl ?_
          refine tt_if_ne (tgt := 186) dX2_noteRecord_132 rfl (fun q128 => ?_) (fun q128 => ?_)
          · skip
            have h129 : Rg 1 1 x105 := rg_ne_lo h106 (⟨by decide, by decide⟩ : Rg 0 0 0) q128
            exact tt_loc (ks := [1, 2, 3, 4, 5, 0]) rfl (B107 )
          · skip
            have h130 : Rg 0 0 x105 := rg_eq_l h106 (⟨by decide, by decide⟩ : Rg 0 0 0) q128
            refine tt_aload_n (j := 3) dX2_noteRecord_135 rfl ?_
            refine tt_iconst (v := 1) dX2_noteRecord_136 rfl ?_
            refine tt_iload_n (j := 4) dX2_noteRecord_137 rfl ?_
            refine tt_aload_n (j := 2) dX2_noteRecord_138 rfl ?_
            refine tt_getI (id := 203) dX2_noteRecord_139 fl_2_56 rfl rfl (ob_af h1 hA) ?_
            refine tt_aload_n (j := 2) dX2_noteRecord_142 rfl ?_
            refine gt_gJ (id := 205) (v := (hp_J S 205 o1)) dX2_noteRecord_143 fl_2_59 rfl rfl h1 hA rfl ?_
            refine gt_Vv (As := [.int 1, .int (hp_I S 202 o1), .int (hp_I S 203 o1), .long (hp_J S 205 o1)]) dX2_noteRecord_146 ca_X2_95 ⟨by decide, by decide⟩ h2 hA rfl (Nat.le_of_ble_eq_true rfl) (Nat.le_of_ble_eq_true rfl) (by decide) (cs_X8_setRecord hG (oa_af h2 hA) (fun _ _ _ _ h => h)) rfl (fun _ h => nomatch h) (fun S131 hx135 hG132 hB133 hA134 => ?_)
            exact tt_vreturn dX2_noteRecord_149 rfl (hP _ _ _ _ ⟨hG132, hA134, Or.inl ⟨_, rfl, rfl, trivial, rfl, rfl⟩⟩)
      · skip
        refine tt_iload (j := 5) dX2_noteRecord_150 rfl ?_
        refine tt_if_eq (tgt := 186) dX2_noteRecord_152 rfl (fun q136 => ?_) (fun q136 => ?_)
        · skip
          have h137 : Rg 0 0 x102 := rg_eq_l h103 (⟨by decide, by decide⟩ : Rg 0 0 0) q136
          exact tt_loc (ks := [1, 2, 3, 4, 5, 0]) rfl (B107 )
        · skip
          have h138 : Rg 1 1 x102 := rg_ne_lo h103 (⟨by decide, by decide⟩ : Rg 0 0 0) q136
          refine tt_iload (j := 0) dX2_noteRecord_155 rfl ?_
          refine tt_if_eq (tgt := 186) dX2_noteRecord_157 rfl (fun q139 => ?_) (fun q139 => ?_)
          · skip
            have h140 : Rg 0 0 x105 := rg_eq_l h106 (⟨by decide, by decide⟩ : Rg 0 0 0) q139
            exact tt_loc (ks := [1, 2, 3, 4, 5, 0]) rfl (B107 )
          · skip
            have h141 : Rg 1 1 x105 := rg_ne_lo h106 (⟨by decide, by decide⟩ : Rg 0 0 0) q139
            refine tt_aload_n (j := 3) dX2_noteRecord_160 rfl ?_
            refine tt_iconst (v := 2) dX2_noteRecord_161 rfl ?_
            refine tt_iload_n (j := 4) dX2_noteRecord_162 rfl ?_
            refine tt_iconst (v := (-1)) dX2_noteRecord_163 rfl ?_
            refine tt_lconst (v := 0) dX2_noteRecord_164 rfl ?_
            refine gt_Vv (As := [.int 2, .int (hp_I S 202 o1), .int (-1), .long 0]) dX2_noteRecord_165 ca_X2_95 ⟨by decide, by decide⟩ h2 hA rfl (Nat.le_of_ble_eq_true rfl) (Nat.le_of_ble_eq_true rfl) (by decide) (cs_X8_setRecord hG (oa_af h2 hA) (fun _ _ _ _ h => h)) rfl (fun _ h => nomatch h) (fun S142 hx146 hG143 hB144 hA145 => ?_)
            exact tt_vreturn dX2_noteRecord_168 rfl (hP _ _ _ _ ⟨hG143, hA145, Or.inl ⟨_, rfl, rfl, trivial, rfl, rfl⟩⟩)
      · skip
        refine tt_goto (tgt := 186) dX2_noteRecord_169 rfl ?_
        exact tt_loc (ks := [1, 2, 3, 4, 5, 0]) rfl (B107 )
      · skip
        refine tt_iload (j := 5) dX2_noteRecord_172 rfl ?_
        refine tt_if_eq (tgt := 186) dX2_noteRecord_174 rfl (fun q147 => ?_) (fun q147 => ?_)
        · skip
          have h148 : Rg 0 0 x102 := rg_eq_l h103 (⟨by decide, by decide⟩ : Rg 0 0 0) q147
          exact tt_loc (ks := [1, 2, 3, 4, 5, 0]) rfl (B107 )
        · skip
          have h149 : Rg 1 1 x102 := rg_ne_lo h103 (⟨by decide, by decide⟩ : Rg 0 0 0) q147
          refine tt_aload_n (j := 3) dX2_noteRecord_177 rfl ?_
          refine tt_iconst (v := 2) dX2_noteRecord_178 rfl ?_
          refine tt_iload_n (j := 4) dX2_noteRecord_179 rfl ?_
          refine tt_iconst (v := (-1)) dX2_noteRecord_180 rfl ?_
          refine tt_lconst (v := 0) dX2_noteRecord_181 rfl ?_
          refine gt_Vv (As := [.int 2, .int (hp_I S 202 o1), .int (-1), .long 0]) dX2_noteRecord_182 ca_X2_95 ⟨by decide, by decide⟩ h2 hA rfl (Nat.le_of_ble_eq_true rfl) (Nat.le_of_ble_eq_true rfl) (by decide) (cs_X8_setRecord hG (oa_af h2 hA) (fun _ _ _ _ h => h)) rfl (fun _ h => nomatch h) (fun S150 hx154 hG151 hB152 hA153 => ?_)
          exact tt_vreturn dX2_noteRecord_185 rfl (hP _ _ _ _ ⟨hG151, hA153, Or.inl ⟨_, rfl, rfl, trivial, rfl, rfl⟩⟩)
    refine tt_icmp_ne (tgt := 33) dX2_noteRecord_26 rfl (fun q155 => ?_) (fun q155 => ?_)
    · skip
      refine tt_iconst (v := 0) dX2_noteRecord_33 rfl ?_
      exact tt_loc (ks := [1, 2, 3, 4, 0]) rfl (B104 0 (rg_w (⟨by decide, by decide⟩ : Rg 0 0 0)))
    · skip
      refine tt_iconst (v := 1) dX2_noteRecord_29 rfl ?_
      refine tt_goto (tgt := 34) dX2_noteRecord_30 rfl ?_
      exact tt_loc (ks := [1, 2, 3, 4, 0]) rfl (B104 1 (rg_w (⟨by decide, by decide⟩ : Rg 1 1 1)))
  refine tt_icmp_ne (tgt := 18) dX2_noteRecord_11 rfl (fun q156 => ?_) (fun q156 => ?_)
  · skip
    refine tt_iconst (v := 0) dX2_noteRecord_18 rfl ?_
    exact tt_loc (ks := [1, 2, 3, 0]) rfl (B101 0 (rg_w (⟨by decide, by decide⟩ : Rg 0 0 0)))
  · skip
    have h157 : Rg 64 64 (hp_I S 201 o1) := rg_eq_l (rg_all (hp_I S 201 o1)) (⟨by decide, by decide⟩ : Rg 64 64 64) q156
    refine tt_iconst (v := 1) dX2_noteRecord_14 rfl ?_
    refine tt_goto (tgt := 19) dX2_noteRecord_15 rfl ?_
    exact tt_loc (ks := [1, 2, 3, 0]) rfl (B101 1 (rg_w (⟨by decide, by decide⟩ : Rg 1 1 1)))
set_option maxHeartbeats 4000000 in
theorem cs_X3_readPlace {xi : SX} {S : Hp} {E : List Nat} {kc nc : Nat} {P : Po} {o0 : Nat} (hG : GI S E) (h0 : Oa S E 3 0 o0) (hP : ∀ r T x y, PV E [193, 195, 196, 197, 198] S kc nc rV ex0 [] r T x y → P r T x y) : TT xi M_X3_readPlace 0 [(0, .ref o0)] [] S kc nc P := by
  have hA : Af E [193, 195, 196, 197, 198] S S := af_rf
  refine tt_aload_n (j := 0) dX3_readPlace_0 rfl ?_
  refine gt_VI (As := []) dX3_readPlace_1 ca_X3_30 ⟨by decide, by decide⟩ h0 hA rfl (Nat.le_of_ble_eq_true rfl) (Nat.le_of_ble_eq_true rfl) (by decide) (cs_X3_nextByte hG (oa_af h0 hA) (fun _ _ _ _ h => h)) rfl (fun _ h => nomatch h) (fun S101 x106 h107 hx105 hG102 hB103 hA104 => ?_)
  refine tt_istore_n (ks := [0, 1]) (L' := [(1, .int x106), (0, .ref o0)]) dX3_readPlace_4 (by decide) rfl ?_
  refine tt_aload_n (j := 1) dX3_readPlace_5 rfl ?_
  refine gt_gI (id := 194) (v := (hp_I S 194 o0)) dX3_readPlace_6 fl_3_19 rfl rfl h0 hA104 (i_af (k := 194) h0 hA104) ?_
  refine tt_iconst (v := 1) dX3_readPlace_9 rfl ?_
  refine tt_iand dX3_readPlace_10 ?_
  have B108 : ∀ (x109 : Int32), Rg 0 1 x109 → TT xi M_X3_readPlace 19 [(0, .ref o0), (1, .int x106)] [.int x109] S101 kc nc P := by
    intro x109 h110
    refine tt_istore_n (ks := [0, 1, 2]) (L' := [(2, .int x109), (0, .ref o0), (1, .int x106)]) dX3_readPlace_19 (by decide) rfl ?_
    refine tt_iload_n (j := 2) dX3_readPlace_20 rfl ?_
    refine tt_bipush (v := 7) dX3_readPlace_21 rfl ?_
    refine tt_iand dX3_readPlace_23 ?_
    refine tt_istore_n (ks := [0, 1, 2, 3]) (L' := [(3, .int (x106 &&& 7)), (2, .int x109), (0, .ref o0), (1, .int x106)]) dX3_readPlace_24 (by decide) rfl ?_
    refine tt_aload_n (j := 2) dX3_readPlace_25 rfl ?_
    refine tt_iload_n (j := 3) dX3_readPlace_26 rfl ?_
    refine tt_iconst (v := 3) dX3_readPlace_27 rfl ?_
    refine tt_ishr dX3_readPlace_28 ?_
    refine tt_bipush (v := 7) dX3_readPlace_29 rfl ?_
    refine tt_iand dX3_readPlace_31 ?_
    refine gt_pI (id := 197) (x := ((x106 >>> (3 &&& 31)) &&& 7)) dX3_readPlace_32 fl_3_104 rfl rfl h0 hA104 rfl rfl rfl (gp_I hG102) (by decide) (fun h => absurd h (by decide)) (fun h => absurd h (by decide)) (fun S111 hG112 hA113 e114 f115 er116 => ?_)
    refine tt_aload_n (j := 2) dX3_readPlace_35 rfl ?_
    refine tt_aload_n (j := 2) dX3_readPlace_36 rfl ?_
    refine gt_gI (id := 194) (v := (hp_I S 194 o0)) dX3_readPlace_37 fl_3_19 rfl rfl h0 hA113 (i_af (k := 194) h0 hA113) ?_
    refine tt_iconst (v := 4) dX3_readPlace_40 rfl ?_
    refine tt_iand dX3_readPlace_41 ?_
    have B117 : ∀ (x118 : Int32), Rg 0 15 x118 → TT xi M_X3_readPlace 59 [(0, .ref o0), (1, .int x106), (2, .int x109), (3, .int (x106 &&& 7))] [.int x118, .ref o0] S111 kc nc P := by
      intro x118 h119
      refine gt_pI (id := 196) (x := x118) dX3_readPlace_59 fl_3_101 rfl rfl h0 hA113 rfl rfl rfl (gp_I hG112) (by decide) (fun h => absurd h (by decide)) (fun h => absurd h (by decide)) (fun S120 hG121 hA122 e123 f124 er125 => ?_)
      refine tt_aload_n (j := 0) dX3_readPlace_62 rfl ?_
      refine tt_iload_n (j := 2) dX3_readPlace_63 rfl ?_
      have B126 : ∀ (x127 : Int32), Rg 0 15 x127 → TT xi M_X3_readPlace 75 [(0, .ref o0), (1, .int x106), (2, .int x109), (3, .int (x106 &&& 7))] [.int x127, .ref o0] S120 kc nc P := by
        intro x127 h128
        refine gt_pI (id := 198) (x := x127) dX3_readPlace_75 fl_3_98 rfl rfl h0 hA122 rfl rfl rfl (gp_I hG121) (by decide) (fun h => absurd h (by decide)) (fun h => absurd h (by decide)) (fun S129 hG130 hA131 e132 f133 er134 => ?_)
        refine tt_iload_n (j := 1) dX3_readPlace_78 rfl ?_
        refine tt_bipush (v := 6) dX3_readPlace_79 rfl ?_
        refine tt_ishr dX3_readPlace_81 ?_
        refine tt_iconst (v := 3) dX3_readPlace_82 rfl ?_
        refine tt_icmp_ne (tgt := 87) dX3_readPlace_83 rfl (fun q135 => ?_) (fun q135 => ?_)
        · skip
          refine tt_iload_n (j := 1) dX3_readPlace_87 rfl ?_
          refine tt_bipush (v := 6) dX3_readPlace_88 rfl ?_
          refine tt_ishr dX3_readPlace_90 ?_
          refine tt_iconst (v := 1) dX3_readPlace_91 rfl ?_
          have B136 : TT xi M_X3_readPlace 113 [(0, .ref o0), (1, .int x106), (2, .int x109), (3, .int (x106 &&& 7))] [] S129 kc nc P := by
            refine tt_aload_n (j := 0) dX3_readPlace_113 rfl ?_
            refine tt_iconst (v := 0) dX3_readPlace_114 rfl ?_
            refine gt_pI (id := 195) (x := 0) dX3_readPlace_115 fl_3_22 rfl rfl h0 hA131 rfl rfl rfl (gp_Ir hG130 (⟨by decide, by decide⟩ : Rg 0 0 0)) (by decide) (fun h => absurd h (by decide)) (fun h => absurd h (by decide)) (fun S137 hG138 hA139 e140 f141 er142 => ?_)
            exact tt_vreturn dX3_readPlace_118 rfl (hP _ _ _ _ ⟨hG138, hA139, Or.inl ⟨_, rfl, rfl, trivial, rfl, rfl⟩⟩)
          refine tt_icmp_ne (tgt := 113) dX3_readPlace_92 rfl (fun q143 => ?_) (fun q143 => ?_)
          · skip
            exact B136 
          · skip
            have h144 : Rg 1 1 (x106 >>> (6 &&& 31)) := rg_eq_l (rg_all (x106 >>> (6 &&& 31))) (⟨by decide, by decide⟩ : Rg 1 1 1) q143
            refine tt_iload_n (j := 3) dX3_readPlace_95 rfl ?_
            refine tt_iconst (v := 5) dX3_readPlace_96 rfl ?_
            refine tt_icmp_ne (tgt := 113) dX3_readPlace_97 rfl (fun q145 => ?_) (fun q145 => ?_)
            · skip
              exact B136 
            · skip
              have h146 : Rg 5 5 (x106 &&& 7) := rg_eq_l (rg_and (x := x106) (⟨by decide, by decide⟩ : Rg 7 7 7)) (⟨by decide, by decide⟩ : Rg 5 5 5) q145
              refine tt_iload_n (j := 2) dX3_readPlace_100 rfl ?_
              refine tt_if_ne (tgt := 113) dX3_readPlace_101 rfl (fun q147 => ?_) (fun q147 => ?_)
              · skip
                have h148 : Rg 1 1 x109 := rg_ne_lo h110 (⟨by decide, by decide⟩ : Rg 0 0 0) q147
                exact B136 
              · skip
                have h149 : Rg 0 0 x109 := rg_eq_l h110 (⟨by decide, by decide⟩ : Rg 0 0 0) q147
                refine tt_aload_n (j := 0) dX3_readPlace_104 rfl ?_
                refine gt_gI (id := 201) (v := (hp_I S 201 o0)) dX3_readPlace_105 fl_3_34 rfl rfl h0 hA131 (i_af (k := 201) h0 hA131) ?_
                refine tt_bipush (v := 64) dX3_readPlace_108 rfl ?_
                refine tt_icmp_eq (tgt := 119) dX3_readPlace_110 rfl (fun q150 => ?_) (fun q150 => ?_)
                · skip
                  have h151 : Rg 64 64 (hp_I S 201 o0) := rg_eq_l (rg_all (hp_I S 201 o0)) (⟨by decide, by decide⟩ : Rg 64 64 64) q150
                  refine tt_aload_n (j := 0) dX3_readPlace_119 rfl ?_
                  refine gt_VI (As := []) dX3_readPlace_120 ca_X3_30 ⟨by decide, by decide⟩ h0 hA131 rfl (Nat.le_of_ble_eq_true rfl) (Nat.le_of_ble_eq_true rfl) (by decide) (cs_X3_nextByte hG130 (oa_af h0 hA131) (fun _ _ _ _ h => h)) rfl (fun _ h => nomatch h) (fun S152 x157 h158 hx156 hG153 hB154 hA155 => ?_)
                  refine tt_i2b dX3_readPlace_123 (gt_ti (fun x159 => ?_))
                  refine tt_istore (ks := [0, 1, 2, 3, 4]) (L' := [(4, .int x159), (0, .ref o0), (1, .int x106), (2, .int x109), (3, .int (x106 &&& 7))]) dX3_readPlace_124 (by decide) rfl ?_
                  refine tt_iload (j := 0) dX3_readPlace_126 rfl ?_
                  refine tt_bipush (v := (-64)) dX3_readPlace_128 rfl ?_
                  have B160 : TT xi M_X3_readPlace 148 [(0, .ref o0), (1, .int x106), (2, .int x109), (3, .int (x106 &&& 7)), (4, .int x159)] [] S152 kc nc P := by
                    refine tt_aload_n (j := 0) dX3_readPlace_148 rfl ?_
                    refine tt_iconst (v := 0) dX3_readPlace_149 rfl ?_
                    refine gt_pI (id := 195) (x := 0) dX3_readPlace_150 fl_3_22 rfl rfl h0 hA155 rfl rfl rfl (gp_Ir hG153 (⟨by decide, by decide⟩ : Rg 0 0 0)) (by decide) (fun h => absurd h (by decide)) (fun h => absurd h (by decide)) (fun S161 hG162 hA163 e164 f165 er166 => ?_)
                    exact tt_vreturn dX3_readPlace_153 rfl (hP _ _ _ _ ⟨hG162, hA163, Or.inl ⟨_, rfl, rfl, trivial, rfl, rfl⟩⟩)
                  refine tt_icmp_lt (tgt := 148) dX3_readPlace_130 rfl (fun q167 => ?_) (fun q167 => ?_)
                  · skip
                    have h168 : Rg (-2147483648) (-65) x159 := rg_lt_l (rg_all x159) (⟨by decide, by decide⟩ : Rg (-64) (-64) (-64)) q167
                    exact tt_loc (ks := [1, 2, 3, 4, 0]) rfl (B160 )
                  · skip
                    have h169 : Rg (-64) 2147483647 x159 := rg_le_r (⟨by decide, by decide⟩ : Rg (-64) (-64) (-64)) (rg_all x159) (nlt_le q167)
                    refine tt_iload (j := 0) dX3_readPlace_133 rfl ?_
                    refine tt_bipush (v := (-8)) dX3_readPlace_135 rfl ?_
                    refine tt_icmp_gt (tgt := 148) dX3_readPlace_137 rfl (fun q170 => ?_) (fun q170 => ?_)
                    · skip
                      have h171 : Rg (-7) 2147483647 x159 := rg_lt_r (⟨by decide, by decide⟩ : Rg (-8) (-8) (-8)) h169 q170
                      exact tt_loc (ks := [1, 2, 3, 4, 0]) rfl (B160 )
                    · skip
                      have h172 : Rg (-64) (-8) x159 := rg_le_l h169 (⟨by decide, by decide⟩ : Rg (-8) (-8) (-8)) (nlt_le q170)
                      refine tt_iload (j := 0) dX3_readPlace_140 rfl ?_
                      refine tt_bipush (v := 8) dX3_readPlace_142 rfl ?_
                      refine tt_irem dX3_readPlace_144 (by decide) (gt_ti (fun x173 => ?_))
                      refine tt_if_eq (tgt := 154) dX3_readPlace_145 rfl (fun q174 => ?_) (fun q174 => ?_)
                      · skip
                        have h175 : Rg 0 0 x173 := rg_eq_l (rg_all x173) (⟨by decide, by decide⟩ : Rg 0 0 0) q174
                        refine tt_aload_n (j := 1) dX3_readPlace_154 rfl ?_
                        refine tt_bipush (v := 15) dX3_readPlace_155 rfl ?_
                        refine tt_iload (j := 0) dX3_readPlace_157 rfl ?_
                        refine tt_bipush (v := 8) dX3_readPlace_159 rfl ?_
                        refine tt_idiv dX3_readPlace_161 (by decide) (gt_ti (fun x176 => ?_))
                        refine tt_isub dX3_readPlace_162 ?_
                        refine gt_pI (id := 198) (x := (15 - x176)) dX3_readPlace_163 fl_3_98 rfl rfl h0 hA155 rfl rfl rfl (gp_I hG153) (by decide) (fun h => absurd h (by decide)) (fun h => absurd h (by decide)) (fun S177 hG178 hA179 e180 f181 er182 => ?_)
                        exact tt_vreturn dX3_readPlace_166 rfl (hP _ _ _ _ ⟨hG178, hA179, Or.inl ⟨_, rfl, rfl, trivial, rfl, rfl⟩⟩)
                      · skip
                        exact tt_loc (ks := [1, 2, 3, 4, 0]) rfl (B160 )
                · skip
                  exact B136 
        · skip
          have h183 : Rg 3 3 (x106 >>> (6 &&& 31)) := rg_eq_l (rg_all (x106 >>> (6 &&& 31))) (⟨by decide, by decide⟩ : Rg 3 3 3) q135
          exact tt_vreturn dX3_readPlace_86 rfl (hP _ _ _ _ ⟨hG130, hA131, Or.inl ⟨_, rfl, rfl, trivial, rfl, rfl⟩⟩)
      refine tt_if_eq (tgt := 74) dX3_readPlace_64 rfl (fun q184 => ?_) (fun q184 => ?_)
      · skip
        have h185 : Rg 0 0 x109 := rg_eq_l h110 (⟨by decide, by decide⟩ : Rg 0 0 0) q184
        refine tt_iload_n (j := 3) dX3_readPlace_74 rfl ?_
        exact B126 (x106 &&& 7) (rg_w (rg_and (x := x106) (⟨by decide, by decide⟩ : Rg 7 7 7)))
      · skip
        have h186 : Rg 1 1 x109 := rg_ne_lo h110 (⟨by decide, by decide⟩ : Rg 0 0 0) q184
        refine tt_iload_n (j := 3) dX3_readPlace_67 rfl ?_
        refine tt_bipush (v := 8) dX3_readPlace_68 rfl ?_
        refine tt_iadd dX3_readPlace_70 ?_
        refine tt_goto (tgt := 75) dX3_readPlace_71 rfl ?_
        exact B126 ((x106 &&& 7) + 8) (rg_w (rg_add (lo := 8) (hi := 15) (rg_and (x := x106) (⟨by decide, by decide⟩ : Rg 7 7 7)) (⟨by decide, by decide⟩ : Rg 8 8 8)))
    refine tt_if_eq (tgt := 55) dX3_readPlace_42 rfl (fun q187 => ?_) (fun q187 => ?_)
    · skip
      have h188 : Rg 0 0 ((hp_I S 194 o0) &&& 4) := rg_eq_l (rg_and (x := (hp_I S 194 o0)) (⟨by decide, by decide⟩ : Rg 4 4 4)) (⟨by decide, by decide⟩ : Rg 0 0 0) q187
      refine tt_aload_n (j := 2) dX3_readPlace_55 rfl ?_
      refine gt_gI (id := 197) (v := ((x106 >>> (3 &&& 31)) &&& 7)) dX3_readPlace_56 fl_3_104 rfl rfl h0 hA113 (by rw [e114]; exact up2_self) ?_
      exact tt_loc (ks := [2, 3, 1, 0]) rfl (B117 ((x106 >>> (3 &&& 31)) &&& 7) (rg_w (rg_and (x := (x106 >>> (3 &&& 31))) (⟨by decide, by decide⟩ : Rg 7 7 7))))
    · skip
      have h189 : Rg 1 4 ((hp_I S 194 o0) &&& 4) := rg_ne_lo (rg_and (x := (hp_I S 194 o0)) (⟨by decide, by decide⟩ : Rg 4 4 4)) (⟨by decide, by decide⟩ : Rg 0 0 0) q187
      refine tt_aload_n (j := 2) dX3_readPlace_45 rfl ?_
      refine gt_gI (id := 197) (v := ((x106 >>> (3 &&& 31)) &&& 7)) dX3_readPlace_46 fl_3_104 rfl rfl h0 hA113 (by rw [e114]; exact up2_self) ?_
      refine tt_bipush (v := 8) dX3_readPlace_49 rfl ?_
      refine tt_iadd dX3_readPlace_51 ?_
      refine tt_goto (tgt := 59) dX3_readPlace_52 rfl ?_
      exact tt_loc (ks := [2, 3, 1, 0]) rfl (B117 (((x106 >>> (3 &&& 31)) &&& 7) + 8) (rg_w (rg_add (lo := 8) (hi := 15) (rg_and (x := (x106 >>> (3 &&& 31))) (⟨by decide, by decide⟩ : Rg 7 7 7)) (⟨by decide, by decide⟩ : Rg 8 8 8))))
  refine tt_if_eq (tgt := 18) dX3_readPlace_11 rfl (fun q190 => ?_) (fun q190 => ?_)
  · skip
    have h191 : Rg 0 0 ((hp_I S 194 o0) &&& 1) := rg_eq_l (rg_and (x := (hp_I S 194 o0)) (⟨by decide, by decide⟩ : Rg 1 1 1)) (⟨by decide, by decide⟩ : Rg 0 0 0) q190
    refine tt_iconst (v := 0) dX3_readPlace_18 rfl ?_
    exact tt_loc (ks := [1, 0]) rfl (B108 0 (rg_w (⟨by decide, by decide⟩ : Rg 0 0 0)))
  · skip
    have h192 : Rg 1 1 ((hp_I S 194 o0) &&& 1) := rg_ne_lo (rg_and (x := (hp_I S 194 o0)) (⟨by decide, by decide⟩ : Rg 1 1 1)) (⟨by decide, by decide⟩ : Rg 0 0 0) q190
    refine tt_iconst (v := 1) dX3_readPlace_14 rfl ?_
    refine tt_goto (tgt := 19) dX3_readPlace_15 rfl ?_
    exact tt_loc (ks := [1, 0]) rfl (B108 1 (rg_w (⟨by decide, by decide⟩ : Rg 1 1 1)))
set_option maxHeartbeats 4000000 in
theorem cs_X3_readNumber {xi : SX} {S : Hp} {E : List Nat} {kc nc : Nat} {P : Po} {o0 : Nat} {x1 : Int32} (hG : GI S E) (h0 : Oa S E 3 0 o0) (hP : ∀ r T x y, PV E [193, 195] S kc nc rJ ex0 [] r T x y → P r T x y) : TT xi M_X3_readNumber 0 [(0, .ref o0), (1, .int x1)] [] S kc nc P := by
  have hA : Af E [193, 195] S S := af_rf
  refine tt_lconst (v := 0) dX3_readNumber_0 rfl ?_
  refine tt_lstore_n (ks := [0, 1, 2]) (L' := [(2, .long 0), (0, .ref o0), (1, .int x1)]) dX3_readNumber_1 (by decide) rfl ?_
  refine tt_iconst (v := 0) dX3_readNumber_2 rfl ?_
  refine tt_istore (ks := [0, 1, 2, 3]) (L' := [(4, .int 0), (2, .long 0), (0, .ref o0), (1, .int x1)]) dX3_readNumber_3 (by decide) rfl ?_
  have B101 : ∀ (nn : Nat) (S102 : Hp) (y105 : Int64) (x106 : Int32), (2147483648 - x106.toInt).toNat = nn → GI S102 E → Af E [193, 195] S S102 → Rg 0 2147483647 x106 → TT xi M_X3_readNumber 5 [(0, .ref o0), (1, .int x1), (2, .long y105), (4, .int x106)] [] S102 kc nc P := by
    intro nn
    induction nn using Nat.strongRecOn with
    | ind nn ihB101 =>
      intro S102 y105 x106 hmB101 hG103 hA104 h107
      subst hmB101
      refine tt_iload (j := 3) dX3_readNumber_5 rfl ?_
      refine tt_iload_n (j := 1) dX3_readNumber_7 rfl ?_
      refine tt_icmp_ge (tgt := 31) dX3_readNumber_8 rfl (fun q108 => ?_) (fun q108 => ?_)
      · skip
        refine tt_bipush (v := 64) dX3_readNumber_31 rfl ?_
        refine tt_bipush (v := 8) dX3_readNumber_33 rfl ?_
        refine tt_iload_n (j := 1) dX3_readNumber_35 rfl ?_
        refine tt_imul dX3_readNumber_36 ?_
        refine tt_isub dX3_readNumber_37 ?_
        refine tt_istore (ks := [0, 1, 2, 3]) (L' := [(4, .int (64 - (8 * x1))), (0, .ref o0), (1, .int x1), (2, .long y105)]) dX3_readNumber_38 (by decide) rfl ?_
        refine tt_lload_n (j := 3) dX3_readNumber_40 rfl ?_
        refine tt_iload (j := 0) dX3_readNumber_41 rfl ?_
        refine tt_lshl dX3_readNumber_43 (gt_tl (fun y109 => ?_))
        refine tt_iload (j := 0) dX3_readNumber_44 rfl ?_
        refine tt_lshr dX3_readNumber_46 (gt_tl (fun y110 => ?_))
        exact tt_lreturn dX3_readNumber_47 rfl (hP _ _ _ _ ⟨hG103, hA104, Or.inl ⟨_, rfl, ⟨_, rfl⟩, trivial, rfl, rfl⟩⟩)
      · skip
        have h111 : Rg 0 2147483646 x106 := rg_lt_l h107 (rg_all x1) (nle_lt q108)
        have h112 : Rg 1 2147483647 x1 := rg_lt_r h107 (rg_all x1) (nle_lt q108)
        refine tt_lload_n (j := 2) dX3_readNumber_11 rfl ?_
        refine tt_aload_n (j := 0) dX3_readNumber_12 rfl ?_
        refine gt_VI (As := []) dX3_readNumber_13 ca_X3_30 ⟨by decide, by decide⟩ h0 hA104 rfl (Nat.le_of_ble_eq_true rfl) (Nat.le_of_ble_eq_true rfl) (by decide) (cs_X3_nextByte hG103 (oa_af h0 hA104) (fun _ _ _ _ h => h)) rfl (fun _ h => nomatch h) (fun S113 x118 h119 hx117 hG114 hB115 hA116 => ?_)
        refine tt_i2l dX3_readNumber_16 ?_
        refine tt_bipush (v := 8) dX3_readNumber_17 rfl ?_
        refine tt_iload (j := 3) dX3_readNumber_19 rfl ?_
        refine tt_imul dX3_readNumber_21 ?_
        refine tt_lshl dX3_readNumber_22 (gt_tl (fun y120 => ?_))
        refine tt_lor dX3_readNumber_23 (gt_tl (fun y121 => ?_))
        refine tt_lstore_n (ks := [0, 1, 2, 3]) (L' := [(2, .long y121), (0, .ref o0), (1, .int x1), (4, .int x106)]) dX3_readNumber_24 (by decide) rfl ?_
        refine tt_iinc (j := 3) (v := (x106 + 1)) (ks := [0, 1, 2, 3]) (L' := [(4, .int (x106 + 1)), (2, .long y121), (0, .ref o0), (1, .int x1)]) dX3_readNumber_25 rfl rfl (by decide) rfl ?_
        refine tt_goto (tgt := 5) dX3_readNumber_28 rfl ?_
        exact tt_loc (ks := [2, 3, 1, 0]) rfl (ihB101 _ (rg_up h111) S113 y121 (x106 + 1) rfl hG114 hA116 (rg_w (rg_add (lo := 1) (hi := 2147483647) h111 (⟨by decide, by decide⟩ : Rg 1 1 1))))
  exact tt_loc (ks := [2, 3, 1, 0]) rfl (B101 _ S 0 0 rfl hG hA (rg_w (⟨by decide, by decide⟩ : Rg 0 0 0)))
set_option maxHeartbeats 4000000 in
theorem cs_X4_timesGot {xi : SX} {S : Hp} {E : List Nat} {kc nc : Nat} {P : Po} {o0 : Nat} {x1 : Int32} (hG : GI S E) (h0 : Oa S E 4 0 o0) (hP : ∀ r T x y, PV E [] S kc nc (rI (-2147483648) 2147483647) (fun _ T => T = S) [] r T x y → P r T x y) : TT xi M_X4_timesGot 0 [(0, .ref o0), (1, .int x1)] [] S kc nc P := by
  have hA : Af E [] S S := af_rf
  refine tt_aload_n (j := 0) dX4_timesGot_0 rfl ?_
  refine tt_iload_n (j := 1) dX4_timesGot_1 rfl ?_
  refine gt_VPp (As := [.int x1]) dX4_timesGot_2 ca_X4_67 ⟨by decide, by decide⟩ h0 hA rfl (Nat.le_of_ble_eq_true rfl) (Nat.le_of_ble_eq_true rfl) (by decide) (cs_X4_pointIfMade hG (oa_af h0 hA) (fun _ _ _ _ h => h)) rfl (fun _ h => nomatch h) (fun _ _ q => q) (fun hx105 => ?_) (fun b106 h107 hx105 => ?_)
  · skip
    refine tt_astore_nN (ks := [0, 1, 2]) (L' := [(2, .null), (0, .ref o0), (1, .int x1)]) dX4_timesGot_5 (by decide) rfl ?_
    refine tt_aload_nN (j := 0) dX4_timesGot_6 rfl ?_
    have B108 : ∀ (x109 : Int32), TT xi M_X4_timesGot 18 [(0, .ref o0), (1, .int x1)] [.int x109] S kc nc P := by
      intro x109 
      exact tt_ireturn dX4_timesGot_18 .int rfl rfl (hP _ _ _ _ ⟨hG, hA, Or.inl ⟨_, rfl, ⟨_, rfl, rg_w (rg_all x109)⟩, rfl, rfl, rfl⟩⟩)
    refine tt_ifnonnullN dX4_timesGot_7 ?_
    refine tt_iconst (v := 0) dX4_timesGot_10 rfl ?_
    refine tt_goto (tgt := 18) dX4_timesGot_11 rfl ?_
    exact tt_loc (ks := [1, 2]) rfl (B108 0)
  · skip
    refine tt_astore_n (ks := [0, 1, 2]) (L' := [(2, .ref b106), (0, .ref o0), (1, .int x1)]) dX4_timesGot_5 (by decide) rfl ?_
    refine tt_aload_n (j := 0) dX4_timesGot_6 rfl ?_
    have B110 : ∀ (x111 : Int32), TT xi M_X4_timesGot 18 [(0, .ref o0), (1, .int x1)] [.int x111] S kc nc P := by
      intro x111 
      exact tt_ireturn dX4_timesGot_18 .int rfl rfl (hP _ _ _ _ ⟨hG, hA, Or.inl ⟨_, rfl, ⟨_, rfl, rg_w (rg_all x111)⟩, rfl, rfl, rfl⟩⟩)
    refine tt_ifnonnull (tgt := 14) dX4_timesGot_7 rfl ?_
    refine tt_aload_n (j := 0) dX4_timesGot_14 rfl ?_
    refine tt_getI (id := 321) dX4_timesGot_15 fl_4_59 rfl rfl (ob_af h107 hA) ?_
    exact tt_loc (ks := [1, 2]) rfl (B110 (hp_I S 321 b106))
set_option maxHeartbeats 4000000 in
theorem cs_X6_prepare {xi : SX} {S : Hp} {E : List Nat} {kc nc : Nat} {P : Po} {o0 : Nat} {x1 : Int32} {y2 : Int64} (hG : GI S E) (h0 : Oa S E 6 0 o0) (hP : ∀ r T x y, PV E [9992] S kc nc rV ex0 [] r T x y → P r T x y) : TT xi M_X6_prepare 0 [(0, .ref o0), (1, .int x1), (2, .long y2)] [] S kc nc P := by
  have hA : Af E [9992] S S := af_rf
  refine tt_iload_n (j := 1) dX6_prepare_0 rfl ?_
  refine gt_SNIp (As := [.int x1]) dX6_prepare_1 ca_X6_30 ⟨by decide, by decide⟩ hA (Nat.le_of_ble_eq_true rfl) (Nat.le_of_ble_eq_true rfl) (by decide) (cs_X9_isLocation hG  (fun _ _ _ _ h => h)) (fun _ _ q => q.1) (fun x106 h107 hx105 => ?_)
  have B108 : ∀ (S109 : Hp), GI S109 E → Af E [9992] S S109 → TT xi M_X6_prepare 14 [(0, .ref o0), (1, .int x1), (2, .long y2)] [] S109 kc nc P := by
    intro S109 hG110 hA111
    exact tt_vreturn dX6_prepare_14 rfl (hP _ _ _ _ ⟨hG110, hA111, Or.inl ⟨_, rfl, rfl, trivial, rfl, rfl⟩⟩)
  refine tt_if_eq (tgt := 14) dX6_prepare_4 rfl (fun q112 => ?_) (fun q112 => ?_)
  · skip
    have h113 : Rg 0 0 x106 := rg_eq_l h107 (⟨by decide, by decide⟩ : Rg 0 0 0) q112
    exact B108 S hG hA
  · skip
    have h114 : Rg 1 1 x106 := rg_ne_lo h107 (⟨by decide, by decide⟩ : Rg 0 0 0) q112
    have h115 : Rg 0 23 x1 := (((hx105.2) _ rfl).1 q112)
    refine tt_aload_n (j := 0) dX6_prepare_7 rfl ?_
    obtain ⟨b116, hr117, ho118⟩ := gi_R (k := 386) hG h0 33 24
    refine gt_gR (id := 386) dX6_prepare_8 fl_6_9 rfl rfl h0 hA hr117 ?_
    refine tt_iload_n (j := 1) dX6_prepare_11 rfl ?_
    refine tt_lload_n (j := 2) dX6_prepare_12 rfl ?_
    refine gt_lS dX6_prepare_13 ho118 hA (rg_in h115) hG (Or.inl (by decide)) (Or.inr (ow_mk 9992 (k := 386) h0 hr117)) (fun S119 hG120 hA121 e122 f123 er124 => ?_)
    exact B108 S119 hG120 hA121
set_option maxHeartbeats 4000000 in
theorem cs_X6_begin {xi : SX} {S : Hp} {E : List Nat} {kc nc : Nat} {P : Po} {o0 : Nat} (hG : GI S E) (h0 : Oa S E 6 0 o0) (hP : ∀ r T x y, PV E [388, 389, 9993] S kc nc rV ex0 [] r T x y → P r T x y) : TT xi M_X6_begin 0 [(0, .ref o0)] [] S kc nc P := by
  have hA : Af E [388, 389, 9993] S S := af_rf
  refine tt_aload_n (j := 0) dX6_begin_0 rfl ?_
  obtain ⟨b101, hr102, ho103⟩ := gi_R (k := 386) hG h0 33 24
  refine gt_gR (id := 386) dX6_begin_1 fl_6_9 rfl rfl h0 hA hr102 ?_
  refine tt_iconst (v := 0) dX6_begin_4 rfl ?_
  refine tt_aload_n (j := 0) dX6_begin_5 rfl ?_
  obtain ⟨b104, hr105, ho106⟩ := gi_R (k := 387) hG h0 33 24
  refine gt_gR (id := 387) dX6_begin_6 fl_6_15 rfl rfl h0 hA hr105 ?_
  refine tt_iconst (v := 0) dX6_begin_9 rfl ?_
  refine tt_bipush (v := 24) dX6_begin_10 rfl ?_
  refine gt_cp dX6_begin_12 ca_X6_34 ho103 ho106 hA (ow_mk 9993 (k := 387) h0 hr105) ⟨by decide, by decide⟩ hG (fun S107 hG108 hA109 e110 f111 er112 => ?_)
  refine tt_aload_n (j := 0) dX6_begin_15 rfl ?_
  refine tt_iconst (v := 0) dX6_begin_16 rfl ?_
  refine gt_pI (id := 389) (x := 0) dX6_begin_17 fl_6_40 rfl rfl h0 hA109 rfl rfl rfl (gp_Ir hG108 (⟨by decide, by decide⟩ : Rg 0 0 0)) (by decide) (fun h => absurd h (by decide)) (fun h => absurd h (by decide)) (fun S113 hG114 hA115 e116 f117 er118 => ?_)
  refine tt_aload_n (j := 0) dX6_begin_20 rfl ?_
  refine tt_lconst (v := 0) dX6_begin_21 rfl ?_
  refine gt_Vv (As := [.long 0]) dX6_begin_22 ca_X6_44 ⟨by decide, by decide⟩ h0 hA115 rfl (Nat.le_of_ble_eq_true rfl) (Nat.le_of_ble_eq_true rfl) (by decide) (cs_X6_moveTo hG114 (oa_af h0 hA115) (fun _ _ _ _ h => h)) rfl (fun _ h => nomatch h) (fun S119 hx123 hG120 hB121 hA122 => ?_)
  exact tt_vreturn dX6_begin_25 rfl (hP _ _ _ _ ⟨hG120, hA122, Or.inl ⟨_, rfl, rfl, trivial, rfl, rfl⟩⟩)
set_option maxHeartbeats 4000000 in
theorem cs_X6_read {xi : SX} {S : Hp} {E : List Nat} {kc nc : Nat} {P : Po} {o0 : Nat} {x1 : Int32} (hG : GI S E) (h0 : Oa S E 6 0 o0) (hP : ∀ r T x y, PV E [] S kc nc rJ (fun _ T => T = S) [] r T x y → P r T x y) : TT xi M_X6_read 0 [(0, .ref o0), (1, .int x1)] [] S kc nc P := by
  have hA : Af E [] S S := af_rf
  refine tt_iload_n (j := 1) dX6_read_0 rfl ?_
  refine gt_SNIp (As := [.int x1]) dX6_read_1 ca_X6_30 ⟨by decide, by decide⟩ hA (Nat.le_of_ble_eq_true rfl) (Nat.le_of_ble_eq_true rfl) (by decide) (cs_X9_isLocation hG  (fun _ _ _ _ h => h)) (fun _ _ q => q.1) (fun x106 h107 hx105 => ?_)
  have B108 : ∀ (y109 : Int64), TT xi M_X6_read 17 [(0, .ref o0), (1, .int x1)] [.long y109] S kc nc P := by
    intro y109 
    exact tt_lreturn dX6_read_17 rfl (hP _ _ _ _ ⟨hG, hA, Or.inl ⟨_, rfl, ⟨_, rfl⟩, rfl, rfl, rfl⟩⟩)
  refine tt_if_eq (tgt := 16) dX6_read_4 rfl (fun q110 => ?_) (fun q110 => ?_)
  · skip
    have h111 : Rg 0 0 x106 := rg_eq_l h107 (⟨by decide, by decide⟩ : Rg 0 0 0) q110
    refine tt_lconst (v := 0) dX6_read_16 rfl ?_
    exact B108 0
  · skip
    have h112 : Rg 1 1 x106 := rg_ne_lo h107 (⟨by decide, by decide⟩ : Rg 0 0 0) q110
    have h113 : Rg 0 23 x1 := (((hx105.2) _ rfl).1 q110)
    refine tt_aload_n (j := 0) dX6_read_7 rfl ?_
    obtain ⟨b114, hr115, ho116⟩ := gi_R (k := 387) hG h0 33 24
    refine gt_gR (id := 387) dX6_read_8 fl_6_15 rfl rfl h0 hA hr115 ?_
    refine tt_iload_n (j := 1) dX6_read_11 rfl ?_
    refine gt_lLt dX6_read_12 ho116 hA (rg_in h113) ?_
    refine tt_goto (tgt := 17) dX6_read_13 rfl ?_
    exact B108 (hp_j S b114 (x1 : Int32).toNatClampNeg)
set_option maxHeartbeats 4000000 in
theorem cs_X6_write {xi : SX} {S : Hp} {E : List Nat} {kc nc : Nat} {P : Po} {o0 : Nat} {y1 : Int64} (hG : GI S E) (h0 : Oa S E 6 0 o0) (hP : ∀ r T x y, PV E [9993] S kc nc rV ex0 [] r T x y → P r T x y) : TT xi M_X6_write 0 [(0, .ref o0), (1, .long y1)] [] S kc nc P := by
  have hA : Af E [9993] S S := af_rf
  refine tt_aload_n (j := 0) dX6_write_0 rfl ?_
  obtain ⟨b101, hr102, ho103⟩ := gi_R (k := 385) hG h0 3 0
  refine gt_gR (id := 385) dX6_write_1 fl_6_26 rfl rfl h0 hA hr102 ?_
  refine tt_getI (id := 202) dX6_write_4 fl_6_91 rfl rfl (ob_af ho103 hA) ?_
  refine tt_istore_n (ks := [0, 1, 2]) (L' := [(3, .int (hp_I S 202 b101)), (0, .ref o0), (1, .long y1)]) dX6_write_7 (by decide) rfl ?_
  refine tt_iload_n (j := 0) dX6_write_8 rfl ?_
  refine gt_SNIp (As := [.int (hp_I S 202 b101)]) dX6_write_9 ca_X6_30 ⟨by decide, by decide⟩ hA (Nat.le_of_ble_eq_true rfl) (Nat.le_of_ble_eq_true rfl) (by decide) (cs_X9_isLocation hG  (fun _ _ _ _ h => h)) (fun _ _ q => q.1) (fun x109 h110 hx108 => ?_)
  have B111 : ∀ (S112 : Hp), GI S112 E → Af E [9993] S S112 → TT xi M_X6_write 42 [(0, .ref o0), (1, .long y1), (3, .int (hp_I S 202 b101))] [] S112 kc nc P := by
    intro S112 hG113 hA114
    exact tt_vreturn dX6_write_42 rfl (hP _ _ _ _ ⟨hG113, hA114, Or.inl ⟨_, rfl, rfl, trivial, rfl, rfl⟩⟩)
  refine tt_if_eq (tgt := 42) dX6_write_12 rfl (fun q115 => ?_) (fun q115 => ?_)
  · skip
    have h116 : Rg 0 0 x109 := rg_eq_l h110 (⟨by decide, by decide⟩ : Rg 0 0 0) q115
    exact tt_loc (ks := [1, 2, 0]) rfl (B111 S hG hA)
  · skip
    have h117 : Rg 1 1 x109 := rg_ne_lo h110 (⟨by decide, by decide⟩ : Rg 0 0 0) q115
    have h118 : Rg 0 23 (hp_I S 202 b101) := (((hx108.2) _ rfl).1 q115)
    refine tt_aload_n (j := 1) dX6_write_15 rfl ?_
    obtain ⟨b119, hr120, ho121⟩ := gi_R (k := 387) hG h0 33 24
    refine gt_gR (id := 387) dX6_write_16 fl_6_15 rfl rfl h0 hA hr120 ?_
    refine tt_iload_n (j := 0) dX6_write_19 rfl ?_
    refine tt_aload_n (j := 1) dX6_write_20 rfl ?_
    refine gt_gR (id := 385) dX6_write_21 fl_6_26 rfl rfl h0 hA hr102 ?_
    refine tt_getI (id := 201) dX6_write_24 fl_6_127 rfl rfl (ob_af ho103 hA) ?_
    refine tt_bipush (v := 64) dX6_write_27 rfl ?_
    have B122 : ∀ (y123 : Int64), TT xi M_X6_write 41 [(0, .ref o0), (1, .long y1), (3, .int (hp_I S 202 b101))] [.long y123, .int (hp_I S 202 b101), .ref b119] S kc nc P := by
      intro y123 
      refine gt_lS dX6_write_41 ho121 hA (rg_in h118) hG (Or.inl (by decide)) (Or.inr (ow_mk 9993 (k := 387) h0 hr120)) (fun S124 hG125 hA126 e127 f128 er129 => ?_)
      exact B111 S124 hG125 hA126
    refine tt_icmp_ne (tgt := 36) dX6_write_29 rfl (fun q130 => ?_) (fun q130 => ?_)
    · skip
      refine tt_lload_n (j := 2) dX6_write_36 rfl ?_
      refine tt_ldc2 (v := 4294967295) dX6_write_37 kl_6_130 ?_
      refine tt_land dX6_write_40 (gt_tl (fun y131 => ?_))
      exact tt_loc (ks := [1, 2, 0]) rfl (B122 y131)
    · skip
      have h132 : Rg 64 64 (hp_I S 201 b101) := rg_eq_l (rg_all (hp_I S 201 b101)) (⟨by decide, by decide⟩ : Rg 64 64 64) q130
      refine tt_lload_n (j := 2) dX6_write_32 rfl ?_
      refine tt_goto (tgt := 41) dX6_write_33 rfl ?_
      exact tt_loc (ks := [1, 2, 0]) rfl (B122 y1)
set_option maxHeartbeats 4000000 in
theorem cs_X6_sum {xi : SX} {S : Hp} {E : List Nat} {kc nc : Nat} {P : Po} {o0 : Nat} {y1 : Int64} {y3 : Int64} (hG : GI S E) (h0 : Oa S E 6 0 o0) (hP : ∀ r T x y, PV E [389, 390, 391, 392, 393] S kc nc rJ ex0 [] r T x y → P r T x y) : TT xi M_X6_sum 0 [(0, .ref o0), (1, .long y1), (3, .long y3)] [] S kc nc P := by
  have hA : Af E [389, 390, 391, 392, 393] S S := af_rf
  refine tt_aload_n (j := 0) dX6_sum_0 rfl ?_
  refine tt_lload_n (j := 1) dX6_sum_1 rfl ?_
  refine tt_lload_n (j := 2) dX6_sum_2 rfl ?_
  refine tt_ladd dX6_sum_3 (gt_tl (fun y101 => ?_))
  refine gt_VJ (As := [.long y101]) dX6_sum_4 ca_X6_119 ⟨by decide, by decide⟩ h0 hA rfl (Nat.le_of_ble_eq_true rfl) (Nat.le_of_ble_eq_true rfl) (by decide) (cs_X6_noteBits hG (oa_af h0 hA) (fun _ _ _ _ h => h)) rfl (fun _ h => nomatch h) (fun S102 y107 hx106 hG103 hB104 hA105 => ?_)
  refine tt_lstore (ks := [0, 1, 2, 3]) (L' := [(5, .long y107), (0, .ref o0), (1, .long y1), (3, .long y3)]) dX6_sum_7 (by decide) rfl ?_
  refine tt_aload_n (j := 1) dX6_sum_9 rfl ?_
  refine tt_lload (j := 0) dX6_sum_10 rfl ?_
  refine tt_lload_n (j := 2) dX6_sum_12 rfl ?_
  refine gt_SIp (As := [.long y107, .long y1]) dX6_sum_13 ca_X6_132 ⟨by decide, by decide⟩ hA105 (Nat.le_of_ble_eq_true rfl) (Nat.le_of_ble_eq_true rfl) (by decide) (cs_J13_compareUnsigned_74951 hG103  (fun _ _ _ _ h => h)) rfl (fun _ h => nomatch h) (fun _ _ q => q) (fun x114 h115 hx113 => ?_)
  have B116 : ∀ (x117 : Int32), Rg 0 1 x117 → TT xi M_X6_sum 24 [(0, .ref o0), (1, .long y1), (3, .long y3), (5, .long y107)] [.int x117, .ref o0] S102 kc nc P := by
    intro x117 h118
    refine gt_pI (id := 392) (x := x117) dX6_sum_24 fl_6_82 rfl rfl h0 hA105 (rg_nar (rg_w h118)) (rg_fit (rg_w h118)) rfl (gp_Ir hG103 h118) (by decide) (fun h => absurd h (by decide)) (fun h => absurd h (by decide)) (fun S119 hG120 hA121 e122 f123 er124 => ?_)
    refine tt_aload_n (j := 0) dX6_sum_27 rfl ?_
    refine tt_lload_n (j := 1) dX6_sum_28 rfl ?_
    refine tt_lload (j := 3) dX6_sum_29 rfl ?_
    refine tt_lxor dX6_sum_31 (gt_tl (fun y125 => ?_))
    refine tt_lload_n (j := 2) dX6_sum_32 rfl ?_
    refine tt_lload (j := 3) dX6_sum_33 rfl ?_
    refine tt_lxor dX6_sum_35 (gt_tl (fun y126 => ?_))
    refine tt_land dX6_sum_36 (gt_tl (fun y127 => ?_))
    refine tt_lconst (v := 0) dX6_sum_37 rfl ?_
    refine tt_lcmp dX6_sum_38 ?_
    have B128 : ∀ (x129 : Int32), Rg 0 1 x129 → TT xi M_X6_sum 47 [(0, .ref o0), (1, .long y1), (3, .long y3), (5, .long y107)] [.int x129, .ref o0] S119 kc nc P := by
      intro x129 h130
      refine gt_pI (id := 393) (x := x129) dX6_sum_47 fl_6_79 rfl rfl h0 hA121 (rg_nar (rg_w h130)) (rg_fit (rg_w h130)) rfl (gp_Ir hG120 h130) (by decide) (fun h => absurd h (by decide)) (fun h => absurd h (by decide)) (fun S131 hG132 hA133 e134 f135 er136 => ?_)
      refine tt_lload (j := 3) dX6_sum_50 rfl ?_
      exact tt_lreturn dX6_sum_52 rfl (hP _ _ _ _ ⟨hG132, hA133, Or.inl ⟨_, rfl, ⟨_, rfl⟩, trivial, rfl, rfl⟩⟩)
    refine tt_if_ge (tgt := 46) dX6_sum_39 rfl (fun q137 => ?_) (fun q137 => ?_)
    · skip
      have h138 : Rl 0 9223372036854775807 y127 := rl_le_r (⟨by decide, by decide⟩ : Rl 0 0 0) (rl_all y127) (lc_ge_t q137)
      refine tt_iconst (v := 0) dX6_sum_46 rfl ?_
      exact B128 0 (rg_w (⟨by decide, by decide⟩ : Rg 0 0 0))
    · skip
      have h139 : Rl (-9223372036854775808) (-1) y127 := rl_lt_l (rl_all y127) (⟨by decide, by decide⟩ : Rl 0 0 0) (lc_ge_f q137)
      refine tt_iconst (v := 1) dX6_sum_42 rfl ?_
      refine tt_goto (tgt := 47) dX6_sum_43 rfl ?_
      exact B128 1 (rg_w (⟨by decide, by decide⟩ : Rg 1 1 1))
  refine tt_if_ge (tgt := 23) dX6_sum_16 rfl (fun q140 => ?_) (fun q140 => ?_)
  · skip
    have h141 : Rg 0 2147483647 x114 := rg_le_r (⟨by decide, by decide⟩ : Rg 0 0 0) h115 q140
    refine tt_iconst (v := 0) dX6_sum_23 rfl ?_
    exact tt_loc (ks := [1, 2, 3, 0]) rfl (B116 0 (rg_w (⟨by decide, by decide⟩ : Rg 0 0 0)))
  · skip
    have h142 : Rg (-2147483648) (-1) x114 := rg_lt_l h115 (⟨by decide, by decide⟩ : Rg 0 0 0) (nle_lt q140)
    refine tt_iconst (v := 1) dX6_sum_19 rfl ?_
    refine tt_goto (tgt := 24) dX6_sum_20 rfl ?_
    exact tt_loc (ks := [1, 2, 3, 0]) rfl (B116 1 (rg_w (⟨by decide, by decide⟩ : Rg 1 1 1)))
set_option maxHeartbeats 4000000 in
theorem cs_X6_difference {xi : SX} {S : Hp} {E : List Nat} {kc nc : Nat} {P : Po} {o0 : Nat} {y1 : Int64} {y3 : Int64} (hG : GI S E) (h0 : Oa S E 6 0 o0) (hP : ∀ r T x y, PV E [389, 390, 391, 392, 393] S kc nc rJ ex0 [] r T x y → P r T x y) : TT xi M_X6_difference 0 [(0, .ref o0), (1, .long y1), (3, .long y3)] [] S kc nc P := by
  have hA : Af E [389, 390, 391, 392, 393] S S := af_rf
  refine tt_aload_n (j := 0) dX6_difference_0 rfl ?_
  refine tt_lload_n (j := 1) dX6_difference_1 rfl ?_
  refine tt_lload_n (j := 2) dX6_difference_2 rfl ?_
  refine tt_lsub dX6_difference_3 (gt_tl (fun y101 => ?_))
  refine gt_VJ (As := [.long y101]) dX6_difference_4 ca_X6_119 ⟨by decide, by decide⟩ h0 hA rfl (Nat.le_of_ble_eq_true rfl) (Nat.le_of_ble_eq_true rfl) (by decide) (cs_X6_noteBits hG (oa_af h0 hA) (fun _ _ _ _ h => h)) rfl (fun _ h => nomatch h) (fun S102 y107 hx106 hG103 hB104 hA105 => ?_)
  refine tt_lstore (ks := [0, 1, 2, 3]) (L' := [(5, .long y107), (0, .ref o0), (1, .long y1), (3, .long y3)]) dX6_difference_7 (by decide) rfl ?_
  refine tt_aload_n (j := 1) dX6_difference_9 rfl ?_
  refine tt_lload_n (j := 2) dX6_difference_10 rfl ?_
  refine tt_lload_n (j := 3) dX6_difference_11 rfl ?_
  refine gt_SIp (As := [.long y1, .long y3]) dX6_difference_12 ca_X6_132 ⟨by decide, by decide⟩ hA105 (Nat.le_of_ble_eq_true rfl) (Nat.le_of_ble_eq_true rfl) (by decide) (cs_J13_compareUnsigned_74951 hG103  (fun _ _ _ _ h => h)) rfl (fun _ h => nomatch h) (fun _ _ q => q) (fun x114 h115 hx113 => ?_)
  have B116 : ∀ (x117 : Int32), Rg 0 1 x117 → TT xi M_X6_difference 23 [(0, .ref o0), (1, .long y1), (3, .long y3), (5, .long y107)] [.int x117, .ref o0] S102 kc nc P := by
    intro x117 h118
    refine gt_pI (id := 392) (x := x117) dX6_difference_23 fl_6_82 rfl rfl h0 hA105 (rg_nar (rg_w h118)) (rg_fit (rg_w h118)) rfl (gp_Ir hG103 h118) (by decide) (fun h => absurd h (by decide)) (fun h => absurd h (by decide)) (fun S119 hG120 hA121 e122 f123 er124 => ?_)
    refine tt_aload_n (j := 0) dX6_difference_26 rfl ?_
    refine tt_lload_n (j := 1) dX6_difference_27 rfl ?_
    refine tt_lload_n (j := 2) dX6_difference_28 rfl ?_
    refine tt_lxor dX6_difference_29 (gt_tl (fun y125 => ?_))
    refine tt_lload_n (j := 1) dX6_difference_30 rfl ?_
    refine tt_lload (j := 3) dX6_difference_31 rfl ?_
    refine tt_lxor dX6_difference_33 (gt_tl (fun y126 => ?_))
    refine tt_land dX6_difference_34 (gt_tl (fun y127 => ?_))
    refine tt_lconst (v := 0) dX6_difference_35 rfl ?_
    refine tt_lcmp dX6_difference_36 ?_
    have B128 : ∀ (x129 : Int32), Rg 0 1 x129 → TT xi M_X6_difference 45 [(0, .ref o0), (1, .long y1), (3, .long y3), (5, .long y107)] [.int x129, .ref o0] S119 kc nc P := by
      intro x129 h130
      refine gt_pI (id := 393) (x := x129) dX6_difference_45 fl_6_79 rfl rfl h0 hA121 (rg_nar (rg_w h130)) (rg_fit (rg_w h130)) rfl (gp_Ir hG120 h130) (by decide) (fun h => absurd h (by decide)) (fun h => absurd h (by decide)) (fun S131 hG132 hA133 e134 f135 er136 => ?_)
      refine tt_lload (j := 3) dX6_difference_48 rfl ?_
      exact tt_lreturn dX6_difference_50 rfl (hP _ _ _ _ ⟨hG132, hA133, Or.inl ⟨_, rfl, ⟨_, rfl⟩, trivial, rfl, rfl⟩⟩)
    refine tt_if_ge (tgt := 44) dX6_difference_37 rfl (fun q137 => ?_) (fun q137 => ?_)
    · skip
      have h138 : Rl 0 9223372036854775807 y127 := rl_le_r (⟨by decide, by decide⟩ : Rl 0 0 0) (rl_all y127) (lc_ge_t q137)
      refine tt_iconst (v := 0) dX6_difference_44 rfl ?_
      exact B128 0 (rg_w (⟨by decide, by decide⟩ : Rg 0 0 0))
    · skip
      have h139 : Rl (-9223372036854775808) (-1) y127 := rl_lt_l (rl_all y127) (⟨by decide, by decide⟩ : Rl 0 0 0) (lc_ge_f q137)
      refine tt_iconst (v := 1) dX6_difference_40 rfl ?_
      refine tt_goto (tgt := 45) dX6_difference_41 rfl ?_
      exact B128 1 (rg_w (⟨by decide, by decide⟩ : Rg 1 1 1))
  refine tt_if_ge (tgt := 22) dX6_difference_15 rfl (fun q140 => ?_) (fun q140 => ?_)
  · skip
    have h141 : Rg 0 2147483647 x114 := rg_le_r (⟨by decide, by decide⟩ : Rg 0 0 0) h115 q140
    refine tt_iconst (v := 0) dX6_difference_22 rfl ?_
    exact tt_loc (ks := [1, 2, 3, 0]) rfl (B116 0 (rg_w (⟨by decide, by decide⟩ : Rg 0 0 0)))
  · skip
    have h142 : Rg (-2147483648) (-1) x114 := rg_lt_l h115 (⟨by decide, by decide⟩ : Rg 0 0 0) (nle_lt q140)
    refine tt_iconst (v := 1) dX6_difference_18 rfl ?_
    refine tt_goto (tgt := 23) dX6_difference_19 rfl ?_
    exact tt_loc (ks := [1, 2, 3, 0]) rfl (B116 1 (rg_w (⟨by decide, by decide⟩ : Rg 1 1 1)))
set_option maxHeartbeats 4000000 in
theorem cs_X6_nextTo {xi : SX} {S : Hp} {E : List Nat} {kc nc : Nat} {P : Po} {o0 : Nat} {y1 : Int64} {x3 : Int32} (hG : GI S E) (h0 : Oa S E 6 0 o0) (h3 : Rg 0 1 x3) (hP : ∀ r T x y, PV E [389, 390, 391, 392, 393] S kc nc rJ ex0 [] r T x y → P r T x y) : TT xi M_X6_nextTo 0 [(0, .ref o0), (1, .long y1), (3, .int x3)] [] S kc nc P := by
  have hA : Af E [389, 390, 391, 392, 393] S S := af_rf
  refine tt_aload_n (j := 0) dX6_nextTo_0 rfl ?_
  refine tt_getI (id := 389) dX6_nextTo_1 fl_6_40 rfl rfl (ob_af h0 hA) ?_
  refine tt_if_ne (tgt := 21) dX6_nextTo_4 rfl (fun q101 => ?_) (fun q101 => ?_)
  · skip
    have h102 : Rg 1 1 (hp_I S 389 o0) := rg_ne_lo (gi_I (k := 389) hG (oa_af h0 hA) 0 1) (⟨by decide, by decide⟩ : Rg 0 0 0) q101
    refine tt_aload_n (j := 0) dX6_nextTo_21 rfl ?_
    refine tt_getI (id := 392) dX6_nextTo_22 fl_6_82 rfl rfl (ob_af h0 hA) ?_
    refine tt_istore (ks := [0, 1, 2, 3]) (L' := [(4, .int (hp_I S 392 o0)), (0, .ref o0), (1, .long y1), (3, .int x3)]) dX6_nextTo_25 (by decide) rfl ?_
    refine tt_iload_n (j := 3) dX6_nextTo_27 rfl ?_
    have B103 : ∀ (S104 : Hp) (y107 : Int64), GI S104 E → Af E [389, 390, 391, 392, 393] S S104 → TT xi M_X6_nextTo 46 [(0, .ref o0), (1, .long y1), (3, .int x3), (4, .int (hp_I S 392 o0))] [.long y107] S104 kc nc P := by
      intro S104 y107 hG105 hA106
      refine tt_lstore (ks := [0, 1, 2, 3, 4]) (L' := [(5, .long y107), (0, .ref o0), (1, .long y1), (3, .int x3), (4, .int (hp_I S 392 o0))]) dX6_nextTo_46 (by decide) rfl ?_
      refine tt_aload_n (j := 1) dX6_nextTo_48 rfl ?_
      refine tt_iload (j := 4) dX6_nextTo_49 rfl ?_
      refine gt_pI (id := 392) (x := (hp_I S 392 o0)) dX6_nextTo_51 fl_6_82 rfl rfl h0 hA106 (rg_nar (rg_w (gi_I (k := 392) hG (oa_af h0 hA) 0 1))) (rg_fit (rg_w (gi_I (k := 392) hG (oa_af h0 hA) 0 1))) rfl (gp_Ir hG105 (gi_I (k := 392) hG (oa_af h0 hA) 0 1)) (by decide) (fun h => absurd h (by decide)) (fun h => absurd h (by decide)) (fun S108 hG109 hA110 e111 f112 er113 => ?_)
      refine tt_lload (j := 0) dX6_nextTo_54 rfl ?_
      exact tt_lreturn dX6_nextTo_56 rfl (hP _ _ _ _ ⟨hG109, hA110, Or.inl ⟨_, rfl, ⟨_, rfl⟩, trivial, rfl, rfl⟩⟩)
    refine tt_if_eq (tgt := 40) dX6_nextTo_28 rfl (fun q114 => ?_) (fun q114 => ?_)
    · skip
      have h115 : Rg 0 0 x3 := rg_eq_l h3 (⟨by decide, by decide⟩ : Rg 0 0 0) q114
      refine tt_aload_n (j := 1) dX6_nextTo_40 rfl ?_
      refine tt_lload_n (j := 2) dX6_nextTo_41 rfl ?_
      refine tt_lconst (v := 1) dX6_nextTo_42 rfl ?_
      refine gt_VJ (As := [.long y1, .long 1]) dX6_nextTo_43 ca_X6_112 ⟨by decide, by decide⟩ h0 hA rfl (Nat.le_of_ble_eq_true rfl) (Nat.le_of_ble_eq_true rfl) (by decide) (cs_X6_difference hG (oa_af h0 hA) (fun _ _ _ _ h => h)) rfl (fun _ h => nomatch h) (fun S116 y121 hx120 hG117 hB118 hA119 => ?_)
      exact tt_loc (ks := [1, 2, 3, 0]) rfl (B103 S116 y121 hG117 hA119)
    · skip
      have h123 : Rg 1 1 x3 := rg_ne_lo h3 (⟨by decide, by decide⟩ : Rg 0 0 0) q114
      refine tt_aload_n (j := 1) dX6_nextTo_31 rfl ?_
      refine tt_lload_n (j := 2) dX6_nextTo_32 rfl ?_
      refine tt_lconst (v := 1) dX6_nextTo_33 rfl ?_
      refine gt_VJ (As := [.long y1, .long 1]) dX6_nextTo_34 ca_X6_105 ⟨by decide, by decide⟩ h0 hA rfl (Nat.le_of_ble_eq_true rfl) (Nat.le_of_ble_eq_true rfl) (by decide) (cs_X6_sum hG (oa_af h0 hA) (fun _ _ _ _ h => h)) rfl (fun _ h => nomatch h) (fun S124 y129 hx128 hG125 hB126 hA127 => ?_)
      refine tt_goto (tgt := 46) dX6_nextTo_37 rfl ?_
      exact tt_loc (ks := [1, 2, 3, 0]) rfl (B103 S124 y129 hG125 hA127)
  · skip
    have h131 : Rg 0 0 (hp_I S 389 o0) := rg_eq_l (gi_I (k := 389) hG (oa_af h0 hA) 0 1) (⟨by decide, by decide⟩ : Rg 0 0 0) q101
    refine tt_iload_n (j := 2) dX6_nextTo_7 rfl ?_
    have B132 : ∀ (y133 : Int64), TT xi M_X6_nextTo 20 [(0, .ref o0), (1, .long y1), (3, .int x3)] [.long y133] S kc nc P := by
      intro y133 
      exact tt_lreturn dX6_nextTo_20 rfl (hP _ _ _ _ ⟨hG, hA, Or.inl ⟨_, rfl, ⟨_, rfl⟩, trivial, rfl, rfl⟩⟩)
    refine tt_if_eq (tgt := 17) dX6_nextTo_8 rfl (fun q134 => ?_) (fun q134 => ?_)
    · skip
      have h135 : Rg 0 0 x3 := rg_eq_l h3 (⟨by decide, by decide⟩ : Rg 0 0 0) q134
      refine tt_lload_n (j := 1) dX6_nextTo_17 rfl ?_
      refine tt_lconst (v := 1) dX6_nextTo_18 rfl ?_
      refine tt_lsub dX6_nextTo_19 (gt_tl (fun y136 => ?_))
      exact B132 y136
    · skip
      have h137 : Rg 1 1 x3 := rg_ne_lo h3 (⟨by decide, by decide⟩ : Rg 0 0 0) q134
      refine tt_lload_n (j := 1) dX6_nextTo_11 rfl ?_
      refine tt_lconst (v := 1) dX6_nextTo_12 rfl ?_
      refine tt_ladd dX6_nextTo_13 (gt_tl (fun y138 => ?_))
      refine tt_goto (tgt := 20) dX6_nextTo_14 rfl ?_
      exact B132 y138
set_option maxHeartbeats 4000000 in
theorem cs_X7_join {xi : SX} {S : Hp} {E : List Nat} {kc nc : Nat} {P : Po} {o0 : Nat} {o1 : Nat} {o2 : Nat} (hG : GI S E) (h0 : Oa S E 7 0 o0) (h1 : Oa S E 7 0 o1) (h2 : Oa S E 7 0 o2) (hP : ∀ r T x y, PV E [9987] S kc nc rV ex0 [] r T x y → P r T x y) : TT xi M_X7_join 0 [(0, .ref o0), (1, .ref o1), (2, .ref o2)] [] S kc nc P := by
  have hA : Af E [9987] S S := af_rf
  refine tt_aload_n (j := 1) dX7_join_0 rfl ?_
  refine gt_VIp (As := []) dX7_join_1 ca_X7_29 ⟨by decide, by decide⟩ h1 hA rfl (Nat.le_of_ble_eq_true rfl) (Nat.le_of_ble_eq_true rfl) (by decide) (cs_X7_isAny hG (oa_af h1 hA) (fun _ _ _ _ h => h)) rfl (fun _ h => nomatch h) (fun _ _ q => q) (fun x106 h107 hx105 => ?_)
  have B108 : TT xi M_X7_join 14 [(0, .ref o0), (1, .ref o1), (2, .ref o2)] [] S kc nc P := by
    refine tt_aload_n (j := 0) dX7_join_14 rfl ?_
    refine gt_Vv (As := []) dX7_join_15 ca_X7_33 ⟨by decide, by decide⟩ h0 hA rfl (Nat.le_of_ble_eq_true rfl) (Nat.le_of_ble_eq_true rfl) (by decide) (cs_X7_becomeAny hG (oa_af h0 hA) (fun _ _ _ _ h => h)) rfl (fun _ h => nomatch h) (fun S109 hx113 hG110 hB111 hA112 => ?_)
    exact tt_vreturn dX7_join_18 rfl (hP _ _ _ _ ⟨hG110, hA112, Or.inl ⟨_, rfl, rfl, trivial, rfl, rfl⟩⟩)
  refine tt_if_ne (tgt := 14) dX7_join_4 rfl (fun q114 => ?_) (fun q114 => ?_)
  · skip
    have h115 : Rg 1 1 x106 := rg_ne_lo h107 (⟨by decide, by decide⟩ : Rg 0 0 0) q114
    exact B108 
  · skip
    have h116 : Rg 0 0 x106 := rg_eq_l h107 (⟨by decide, by decide⟩ : Rg 0 0 0) q114
    refine tt_aload_n (j := 2) dX7_join_7 rfl ?_
    refine gt_VIp (As := []) dX7_join_8 ca_X7_29 ⟨by decide, by decide⟩ h2 hA rfl (Nat.le_of_ble_eq_true rfl) (Nat.le_of_ble_eq_true rfl) (by decide) (cs_X7_isAny hG (oa_af h2 hA) (fun _ _ _ _ h => h)) rfl (fun _ h => nomatch h) (fun _ _ q => q) (fun x122 h123 hx121 => ?_)
    refine tt_if_eq (tgt := 19) dX7_join_11 rfl (fun q124 => ?_) (fun q124 => ?_)
    · skip
      have h125 : Rg 0 0 x122 := rg_eq_l h123 (⟨by decide, by decide⟩ : Rg 0 0 0) q124
      refine tt_aload_n (j := 1) dX7_join_19 rfl ?_
      refine gt_gJ (id := 450) (v := (hp_J S 450 o1)) dX7_join_20 fl_7_15 rfl rfl h1 hA rfl ?_
      refine tt_aload_n (j := 2) dX7_join_23 rfl ?_
      refine gt_gJ (id := 450) (v := (hp_J S 450 o2)) dX7_join_24 fl_7_15 rfl rfl h2 hA rfl ?_
      refine gt_SJp (As := [.long (hp_J S 450 o1), .long (hp_J S 450 o2)]) dX7_join_27 ca_X7_36 ⟨by decide, by decide⟩ hA (Nat.le_of_ble_eq_true rfl) (Nat.le_of_ble_eq_true rfl) (by decide) (cs_X7_gcd hG  (fun _ _ _ _ h => h)) rfl (fun _ h => nomatch h) (fun _ _ q => q) (fun y131 hx130 => ?_)
      refine tt_aload_n (j := 1) dX7_join_30 rfl ?_
      refine gt_gJ (id := 448) (v := (hp_J S 448 o1)) dX7_join_31 fl_7_23 rfl rfl h1 hA rfl ?_
      refine tt_aload_n (j := 2) dX7_join_34 rfl ?_
      refine gt_gJ (id := 448) (v := (hp_J S 448 o2)) dX7_join_35 fl_7_23 rfl rfl h2 hA rfl ?_
      refine tt_lsub dX7_join_38 (gt_tl (fun y133 => ?_))
      refine gt_SJp (As := [.long y131, .long y133]) dX7_join_39 ca_X7_36 ⟨by decide, by decide⟩ hA (Nat.le_of_ble_eq_true rfl) (Nat.le_of_ble_eq_true rfl) (by decide) (cs_X7_gcd hG  (fun _ _ _ _ h => h)) rfl (fun _ h => nomatch h) (fun _ _ q => q) (fun y139 hx138 => ?_)
      refine tt_lstore_n (ks := [0, 1, 2, 3]) (L' := [(3, .long y139), (0, .ref o0), (1, .ref o1), (2, .ref o2)]) dX7_join_42 (by decide) rfl ?_
      refine tt_aload_n (j := 1) dX7_join_43 rfl ?_
      refine tt_aload_n (j := 2) dX7_join_44 rfl ?_
      refine gt_gJ (id := 448) (v := (hp_J S 448 o1)) dX7_join_45 fl_7_23 rfl rfl h1 hA rfl ?_
      refine tt_aload_n (j := 3) dX7_join_48 rfl ?_
      refine gt_gJ (id := 448) (v := (hp_J S 448 o2)) dX7_join_49 fl_7_23 rfl rfl h2 hA rfl ?_
      refine gt_SJp (As := [.long (hp_J S 448 o1), .long (hp_J S 448 o2)]) dX7_join_52 ca_X7_40 ⟨by decide, by decide⟩ hA (Nat.le_of_ble_eq_true rfl) (Nat.le_of_ble_eq_true rfl) (by decide) (cs_J9_min_f86c9 hG  (fun _ _ _ _ h => h)) rfl (fun _ h => nomatch h) (fun _ _ q => q) (fun y146 hx145 => ?_)
      refine tt_aload_n (j := 2) dX7_join_55 rfl ?_
      refine gt_gJ (id := 449) (v := (hp_J S 449 o1)) dX7_join_56 fl_7_26 rfl rfl h1 hA rfl ?_
      refine tt_aload_n (j := 3) dX7_join_59 rfl ?_
      refine gt_gJ (id := 449) (v := (hp_J S 449 o2)) dX7_join_60 fl_7_26 rfl rfl h2 hA rfl ?_
      refine gt_SJp (As := [.long (hp_J S 449 o1), .long (hp_J S 449 o2)]) dX7_join_63 ca_X7_45 ⟨by decide, by decide⟩ hA (Nat.le_of_ble_eq_true rfl) (Nat.le_of_ble_eq_true rfl) (by decide) (cs_J9_max_f86c9 hG  (fun _ _ _ _ h => h)) rfl (fun _ h => nomatch h) (fun _ _ q => q) (fun y153 hx152 => ?_)
      refine tt_lload_n (j := 0) dX7_join_66 rfl ?_
      refine gt_Vv (As := [.long y146, .long y153, .long y139]) dX7_join_67 ca_X7_48 ⟨by decide, by decide⟩ h0 hA rfl (Nat.le_of_ble_eq_true rfl) (Nat.le_of_ble_eq_true rfl) (by decide) (cs_X7_become hG (oa_af h0 hA) (fun _ _ _ _ h => h)) rfl (fun _ h => nomatch h) (fun S155 hx159 hG156 hB157 hA158 => ?_)
      exact tt_vreturn dX7_join_70 rfl (hP _ _ _ _ ⟨hG156, hA158, Or.inl ⟨_, rfl, rfl, trivial, rfl, rfl⟩⟩)
    · skip
      have h160 : Rg 1 1 x122 := rg_ne_lo h123 (⟨by decide, by decide⟩ : Rg 0 0 0) q124
      exact B108 
set_option maxHeartbeats 4000000 in
theorem cs_X7_cut {xi : SX} {S : Hp} {E : List Nat} {kc nc : Nat} {P : Po} {o0 : Nat} {y1 : Int64} {y3 : Int64} (hG : GI S E) (h0 : Oa S E 7 0 o0) (hP : ∀ r T x y, PV E [9987] S kc nc rV ex0 [] r T x y → P r T x y) : TT xi M_X7_cut 0 [(0, .ref o0), (1, .long y1), (3, .long y3)] [] S kc nc P := by
  have hA : Af E [9987] S S := af_rf
  refine tt_aload_n (j := 0) dX7_cut_0 rfl ?_
  refine gt_gJ (id := 450) (v := (hp_J S 450 o0)) dX7_cut_1 fl_7_15 rfl rfl h0 hA rfl ?_
  refine tt_lconst (v := 0) dX7_cut_4 rfl ?_
  refine tt_lcmp dX7_cut_5 ?_
  refine tt_if_ge (tgt := 10) dX7_cut_6 rfl (fun q101 => ?_) (fun q101 => ?_)
  · skip
    have h102 : Rl 0 9223372036854775807 (hp_J S 450 o0) := rl_le_r (⟨by decide, by decide⟩ : Rl 0 0 0) (rl_all (hp_J S 450 o0)) (lc_ge_t q101)
    refine tt_lload_n (j := 1) dX7_cut_10 rfl ?_
    refine tt_aload_n (j := 0) dX7_cut_11 rfl ?_
    refine gt_gJ (id := 449) (v := (hp_J S 449 o0)) dX7_cut_12 fl_7_26 rfl rfl h0 hA rfl ?_
    refine tt_lcmp dX7_cut_15 ?_
    have B103 : TT xi M_X7_cut 28 [(0, .ref o0), (1, .long y1), (3, .long y3)] [] S kc nc P := by
      refine tt_aload_n (j := 0) dX7_cut_28 rfl ?_
      refine gt_Vv (As := []) dX7_cut_29 ca_X7_52 ⟨by decide, by decide⟩ h0 hA rfl (Nat.le_of_ble_eq_true rfl) (Nat.le_of_ble_eq_true rfl) (by decide) (cs_X7_becomeNone hG (oa_af h0 hA) (fun _ _ _ _ h => h)) rfl (fun _ h => nomatch h) (fun S104 hx108 hG105 hB106 hA107 => ?_)
      exact tt_vreturn dX7_cut_32 rfl (hP _ _ _ _ ⟨hG105, hA107, Or.inl ⟨_, rfl, rfl, trivial, rfl, rfl⟩⟩)
    refine tt_if_gt (tgt := 28) dX7_cut_16 rfl (fun q109 => ?_) (fun q109 => ?_)
    · skip
      have h110 : Rl (-9223372036854775808) 9223372036854775806 (hp_J S 449 o0) := rl_lt_l (rl_all (hp_J S 449 o0)) (rl_all y1) (lc_gt_t q109)
      have h111 : Rl (-9223372036854775807) 9223372036854775807 y1 := rl_lt_r (rl_all (hp_J S 449 o0)) (rl_all y1) (lc_gt_t q109)
      exact B103 
    · skip
      refine tt_lload_n (j := 2) dX7_cut_19 rfl ?_
      refine tt_aload_n (j := 0) dX7_cut_20 rfl ?_
      refine gt_gJ (id := 448) (v := (hp_J S 448 o0)) dX7_cut_21 fl_7_23 rfl rfl h0 hA rfl ?_
      refine tt_lcmp dX7_cut_24 ?_
      refine tt_if_ge (tgt := 33) dX7_cut_25 rfl (fun q112 => ?_) (fun q112 => ?_)
      · skip
        refine tt_lload_n (j := 1) dX7_cut_33 rfl ?_
        refine tt_aload_n (j := 0) dX7_cut_34 rfl ?_
        refine gt_gJ (id := 448) (v := (hp_J S 448 o0)) dX7_cut_35 fl_7_23 rfl rfl h0 hA rfl ?_
        refine tt_lcmp dX7_cut_38 ?_
        have B113 : ∀ (y114 : Int64), TT xi M_X7_cut 73 [(0, .ref o0), (1, .long y1), (3, .long y3)] [.long y114] S kc nc P := by
          intro y114 
          refine tt_lstore (ks := [0, 1, 2, 3]) (L' := [(5, .long y114), (0, .ref o0), (1, .long y1), (3, .long y3)]) dX7_cut_73 (by decide) rfl ?_
          refine tt_lload_n (j := 3) dX7_cut_75 rfl ?_
          refine tt_aload_n (j := 1) dX7_cut_76 rfl ?_
          refine gt_gJ (id := 449) (v := (hp_J S 449 o0)) dX7_cut_77 fl_7_26 rfl rfl h0 hA rfl ?_
          refine tt_lcmp dX7_cut_80 ?_
          have B115 : ∀ (y116 : Int64), TT xi M_X7_cut 115 [(0, .ref o0), (1, .long y1), (3, .long y3), (5, .long y114)] [.long y116] S kc nc P := by
            intro y116 
            refine tt_lstore (ks := [0, 1, 2, 3, 4]) (L' := [(7, .long y116), (0, .ref o0), (1, .long y1), (3, .long y3), (5, .long y114)]) dX7_cut_115 (by decide) rfl ?_
            refine tt_lload (j := 4) dX7_cut_117 rfl ?_
            refine tt_lload (j := 0) dX7_cut_119 rfl ?_
            refine tt_lcmp dX7_cut_121 ?_
            have B117 : ∀ (S118 : Hp), GI S118 E → Af E [9987] S S118 → TT xi M_X7_cut 144 [(0, .ref o0), (1, .long y1), (3, .long y3), (5, .long y114), (7, .long y116)] [] S118 kc nc P := by
              intro S118 hG119 hA120
              exact tt_vreturn dX7_cut_144 rfl (hP _ _ _ _ ⟨hG119, hA120, Or.inl ⟨_, rfl, rfl, trivial, rfl, rfl⟩⟩)
            refine tt_if_le (tgt := 132) dX7_cut_122 rfl (fun q121 => ?_) (fun q121 => ?_)
            · skip
              refine tt_aload_n (j := 1) dX7_cut_132 rfl ?_
              refine tt_lload (j := 4) dX7_cut_133 rfl ?_
              refine tt_lload (j := 0) dX7_cut_135 rfl ?_
              refine tt_aload_n (j := 1) dX7_cut_137 rfl ?_
              refine gt_gJ (id := 450) (v := (hp_J S 450 o0)) dX7_cut_138 fl_7_15 rfl rfl h0 hA rfl ?_
              refine gt_Vv (As := [.long y114, .long y116, .long (hp_J S 450 o0)]) dX7_cut_141 ca_X7_48 ⟨by decide, by decide⟩ h0 hA rfl (Nat.le_of_ble_eq_true rfl) (Nat.le_of_ble_eq_true rfl) (by decide) (cs_X7_become hG (oa_af h0 hA) (fun _ _ _ _ h => h)) rfl (fun _ h => nomatch h) (fun S122 hx126 hG123 hB124 hA125 => ?_)
              exact tt_loc (ks := [1, 2, 3, 4, 0]) rfl (B117 S122 hG123 hA125)
            · skip
              have h127 : Rl (-9223372036854775808) 9223372036854775806 y116 := rl_lt_l (rl_all y116) (rl_all y114) (lc_le_f q121)
              have h128 : Rl (-9223372036854775807) 9223372036854775807 y114 := rl_lt_r (rl_all y116) (rl_all y114) (lc_le_f q121)
              refine tt_aload_n (j := 1) dX7_cut_125 rfl ?_
              refine gt_Vv (As := []) dX7_cut_126 ca_X7_52 ⟨by decide, by decide⟩ h0 hA rfl (Nat.le_of_ble_eq_true rfl) (Nat.le_of_ble_eq_true rfl) (by decide) (cs_X7_becomeNone hG (oa_af h0 hA) (fun _ _ _ _ h => h)) rfl (fun _ h => nomatch h) (fun S129 hx133 hG130 hB131 hA132 => ?_)
              refine tt_goto (tgt := 144) dX7_cut_129 rfl ?_
              exact tt_loc (ks := [1, 2, 3, 4, 0]) rfl (B117 S129 hG130 hA132)
          have B134 : TT xi M_X7_cut 111 [(0, .ref o0), (1, .long y1), (3, .long y3), (5, .long y114)] [] S kc nc P := by
            refine tt_aload_n (j := 0) dX7_cut_111 rfl ?_
            refine gt_gJ (id := 449) (v := (hp_J S 449 o0)) dX7_cut_112 fl_7_26 rfl rfl h0 hA rfl ?_
            exact B115 (hp_J S 449 o0)
          refine tt_if_ge (tgt := 111) dX7_cut_81 rfl (fun q135 => ?_) (fun q135 => ?_)
          · skip
            exact tt_loc (ks := [1, 2, 3, 0]) rfl (B134 )
          · skip
            have h136 : Rl (-9223372036854775808) 9223372036854775806 y3 := rl_lt_l (rl_all y3) (rl_all (hp_J S 449 o0)) (lc_ge_f q135)
            have h137 : Rl (-9223372036854775807) 9223372036854775807 (hp_J S 449 o0) := rl_lt_r (rl_all y3) (rl_all (hp_J S 449 o0)) (lc_ge_f q135)
            refine tt_aload_n (j := 1) dX7_cut_84 rfl ?_
            refine gt_gJ (id := 450) (v := (hp_J S 450 o0)) dX7_cut_85 fl_7_15 rfl rfl h0 hA rfl ?_
            refine tt_lconst (v := 0) dX7_cut_88 rfl ?_
            refine tt_lcmp dX7_cut_89 ?_
            refine tt_if_le (tgt := 111) dX7_cut_90 rfl (fun q138 => ?_) (fun q138 => ?_)
            · skip
              have h139 : Rl 0 0 (hp_J S 450 o0) := rl_le_l h102 (⟨by decide, by decide⟩ : Rl 0 0 0) (lc_le_t q138)
              exact tt_loc (ks := [1, 2, 3, 0]) rfl (B134 )
            · skip
              have h140 : Rl 1 9223372036854775807 (hp_J S 450 o0) := rl_lt_r (⟨by decide, by decide⟩ : Rl 0 0 0) h102 (lc_le_f q138)
              refine tt_lload_n (j := 3) dX7_cut_93 rfl ?_
              refine tt_lload_n (j := 3) dX7_cut_94 rfl ?_
              refine tt_aload_n (j := 1) dX7_cut_95 rfl ?_
              refine gt_gJ (id := 449) (v := (hp_J S 449 o0)) dX7_cut_96 fl_7_26 rfl rfl h0 hA rfl ?_
              refine tt_lsub dX7_cut_99 (gt_tl (fun y141 => ?_))
              refine tt_aload_n (j := 1) dX7_cut_100 rfl ?_
              refine gt_gJ (id := 450) (v := (hp_J S 450 o0)) dX7_cut_101 fl_7_15 rfl rfl h0 hA rfl ?_
              refine gt_SJp (As := [.long y141, .long (hp_J S 450 o0)]) dX7_cut_104 ca_X7_55 ⟨by decide, by decide⟩ hA (Nat.le_of_ble_eq_true rfl) (Nat.le_of_ble_eq_true rfl) (by decide) (cs_J9_floorMod_f86c9 hG (nz_pos (lc_le_f q138)) (fun _ _ _ _ h => h)) rfl (fun _ h => nomatch h) (fun _ _ q => q) (fun y147 hx146 => ?_)
              refine tt_lsub dX7_cut_107 (gt_tl (fun y149 => ?_))
              refine tt_goto (tgt := 115) dX7_cut_108 rfl ?_
              exact tt_loc (ks := [1, 2, 3, 0]) rfl (B115 y149)
        have B150 : TT xi M_X7_cut 69 [(0, .ref o0), (1, .long y1), (3, .long y3)] [] S kc nc P := by
          refine tt_aload_n (j := 0) dX7_cut_69 rfl ?_
          refine gt_gJ (id := 448) (v := (hp_J S 448 o0)) dX7_cut_70 fl_7_23 rfl rfl h0 hA rfl ?_
          exact B113 (hp_J S 448 o0)
        refine tt_if_le (tgt := 69) dX7_cut_39 rfl (fun q151 => ?_) (fun q151 => ?_)
        · skip
          exact B150 
        · skip
          have h152 : Rl (-9223372036854775808) 9223372036854775806 (hp_J S 448 o0) := rl_lt_l (rl_all (hp_J S 448 o0)) (rl_all y1) (lc_le_f q151)
          have h153 : Rl (-9223372036854775807) 9223372036854775807 y1 := rl_lt_r (rl_all (hp_J S 448 o0)) (rl_all y1) (lc_le_f q151)
          refine tt_aload_n (j := 0) dX7_cut_42 rfl ?_
          refine gt_gJ (id := 450) (v := (hp_J S 450 o0)) dX7_cut_43 fl_7_15 rfl rfl h0 hA rfl ?_
          refine tt_lconst (v := 0) dX7_cut_46 rfl ?_
          refine tt_lcmp dX7_cut_47 ?_
          refine tt_if_le (tgt := 69) dX7_cut_48 rfl (fun q154 => ?_) (fun q154 => ?_)
          · skip
            have h155 : Rl 0 0 (hp_J S 450 o0) := rl_le_l h102 (⟨by decide, by decide⟩ : Rl 0 0 0) (lc_le_t q154)
            exact B150 
          · skip
            have h156 : Rl 1 9223372036854775807 (hp_J S 450 o0) := rl_lt_r (⟨by decide, by decide⟩ : Rl 0 0 0) h102 (lc_le_f q154)
            refine tt_lload_n (j := 1) dX7_cut_51 rfl ?_
            refine tt_aload_n (j := 0) dX7_cut_52 rfl ?_
            refine gt_gJ (id := 448) (v := (hp_J S 448 o0)) dX7_cut_53 fl_7_23 rfl rfl h0 hA rfl ?_
            refine tt_lload_n (j := 1) dX7_cut_56 rfl ?_
            refine tt_lsub dX7_cut_57 (gt_tl (fun y157 => ?_))
            refine tt_aload_n (j := 0) dX7_cut_58 rfl ?_
            refine gt_gJ (id := 450) (v := (hp_J S 450 o0)) dX7_cut_59 fl_7_15 rfl rfl h0 hA rfl ?_
            refine gt_SJp (As := [.long y157, .long (hp_J S 450 o0)]) dX7_cut_62 ca_X7_55 ⟨by decide, by decide⟩ hA (Nat.le_of_ble_eq_true rfl) (Nat.le_of_ble_eq_true rfl) (by decide) (cs_J9_floorMod_f86c9 hG (nz_pos (lc_le_f q154)) (fun _ _ _ _ h => h)) rfl (fun _ h => nomatch h) (fun _ _ q => q) (fun y163 hx162 => ?_)
            refine tt_ladd dX7_cut_65 (gt_tl (fun y165 => ?_))
            refine tt_goto (tgt := 73) dX7_cut_66 rfl ?_
            exact B113 y165
      · skip
        have h166 : Rl (-9223372036854775808) 9223372036854775806 y3 := rl_lt_l (rl_all y3) (rl_all (hp_J S 448 o0)) (lc_ge_f q112)
        have h167 : Rl (-9223372036854775807) 9223372036854775807 (hp_J S 448 o0) := rl_lt_r (rl_all y3) (rl_all (hp_J S 448 o0)) (lc_ge_f q112)
        exact B103 
  · skip
    have h168 : Rl (-9223372036854775808) (-1) (hp_J S 450 o0) := rl_lt_l (rl_all (hp_J S 450 o0)) (⟨by decide, by decide⟩ : Rl 0 0 0) (lc_ge_f q101)
    exact tt_vreturn dX7_cut_9 rfl (hP _ _ _ _ ⟨hG, hA, Or.inl ⟨_, rfl, rfl, trivial, rfl, rfl⟩⟩)
set_option maxHeartbeats 4000000 in
theorem cs_X7_takeLowHalf {xi : SX} {S : Hp} {E : List Nat} {kc nc : Nat} {P : Po} {o0 : Nat} (hG : GI S E) (h0 : Oa S E 7 0 o0) (hP : ∀ r T x y, PV E [9987] S kc nc rV ex0 [] r T x y → P r T x y) : TT xi M_X7_takeLowHalf 0 [(0, .ref o0)] [] S kc nc P := by
  have hA : Af E [9987] S S := af_rf
  refine tt_aload_n (j := 0) dX7_takeLowHalf_0 rfl ?_
  refine gt_VIp (As := []) dX7_takeLowHalf_1 ca_X7_29 ⟨by decide, by decide⟩ h0 hA rfl (Nat.le_of_ble_eq_true rfl) (Nat.le_of_ble_eq_true rfl) (by decide) (cs_X7_isAny hG (oa_af h0 hA) (fun _ _ _ _ h => h)) rfl (fun _ h => nomatch h) (fun _ _ q => q) (fun x106 h107 hx105 => ?_)
  have B108 : ∀ (S109 : Hp), GI S109 E → Af E [9987] S S109 → TT xi M_X7_takeLowHalf 101 [(0, .ref o0)] [] S109 kc nc P := by
    intro S109 hG110 hA111
    exact tt_vreturn dX7_takeLowHalf_101 rfl (hP _ _ _ _ ⟨hG110, hA111, Or.inl ⟨_, rfl, rfl, trivial, rfl, rfl⟩⟩)
  refine tt_if_eq (tgt := 19) dX7_takeLowHalf_4 rfl (fun q112 => ?_) (fun q112 => ?_)
  · skip
    have h113 : Rg 0 0 x106 := rg_eq_l h107 (⟨by decide, by decide⟩ : Rg 0 0 0) q112
    refine tt_aload_n (j := 0) dX7_takeLowHalf_19 rfl ?_
    refine gt_VIp (As := []) dX7_takeLowHalf_20 ca_X7_58 ⟨by decide, by decide⟩ h0 hA rfl (Nat.le_of_ble_eq_true rfl) (Nat.le_of_ble_eq_true rfl) (by decide) (cs_X7_isSingle hG (oa_af h0 hA) (fun _ _ _ _ h => h)) rfl (fun _ h => nomatch h) (fun _ _ q => q) (fun x119 h120 hx118 => ?_)
    refine tt_if_eq (tgt := 45) dX7_takeLowHalf_23 rfl (fun q121 => ?_) (fun q121 => ?_)
    · skip
      have h122 : Rg 0 0 x119 := rg_eq_l h120 (⟨by decide, by decide⟩ : Rg 0 0 0) q121
      refine tt_aload_n (j := 0) dX7_takeLowHalf_45 rfl ?_
      refine gt_gJ (id := 448) (v := (hp_J S 448 o0)) dX7_takeLowHalf_46 fl_7_23 rfl rfl h0 hA rfl ?_
      refine tt_lconst (v := 0) dX7_takeLowHalf_49 rfl ?_
      refine tt_lcmp dX7_takeLowHalf_50 ?_
      have B123 : TT xi M_X7_takeLowHalf 65 [(0, .ref o0)] [] S kc nc P := by
        refine tt_aload_n (j := 0) dX7_takeLowHalf_65 rfl ?_
        refine gt_gJ (id := 450) (v := (hp_J S 450 o0)) dX7_takeLowHalf_66 fl_7_15 rfl rfl h0 hA rfl ?_
        refine gt_SJp (As := [.long (hp_J S 450 o0)]) dX7_takeLowHalf_69 ca_X7_97 ⟨by decide, by decide⟩ hA (Nat.le_of_ble_eq_true rfl) (Nat.le_of_ble_eq_true rfl) (by decide) (cs_J13_lowestOneBit_067f4 hG  (fun _ _ _ _ h => h)) rfl (fun _ h => nomatch h) (fun _ _ q => q) (fun y129 hx128 => ?_)
        refine tt_ldc2 (v := 4294967296) dX7_takeLowHalf_72 kl_7_95 ?_
        refine gt_SJp (As := [.long y129, .long 4294967296]) dX7_takeLowHalf_75 ca_X7_40 ⟨by decide, by decide⟩ hA (Nat.le_of_ble_eq_true rfl) (Nat.le_of_ble_eq_true rfl) (by decide) (cs_J9_min_f86c9 hG  (fun _ _ _ _ h => h)) rfl (fun _ h => nomatch h) (fun _ _ q => q) (fun y136 hx135 => ?_)
        refine tt_lstore_n (ks := [0, 1]) (L' := [(1, .long y136), (0, .ref o0)]) dX7_takeLowHalf_78 (by decide) rfl ?_
        refine tt_aload_n (j := 1) dX7_takeLowHalf_79 rfl ?_
        refine gt_gJ (id := 448) (v := (hp_J S 448 o0)) dX7_takeLowHalf_80 fl_7_23 rfl rfl h0 hA rfl ?_
        refine tt_lload_n (j := 0) dX7_takeLowHalf_83 rfl ?_
        refine tt_lconst (v := 1) dX7_takeLowHalf_84 rfl ?_
        refine tt_lsub dX7_takeLowHalf_85 (gt_tl (fun y138 => ?_))
        refine tt_land dX7_takeLowHalf_86 (gt_tl (fun y139 => ?_))
        refine tt_lstore_n (ks := [0, 1, 2]) (L' := [(3, .long y139), (1, .long y136), (0, .ref o0)]) dX7_takeLowHalf_87 (by decide) rfl ?_
        refine tt_aload_n (j := 2) dX7_takeLowHalf_88 rfl ?_
        refine tt_lload_n (j := 0) dX7_takeLowHalf_89 rfl ?_
        refine tt_ldc2 (v := 4294967296) dX7_takeLowHalf_90 kl_7_95 ?_
        refine tt_lload_n (j := 1) dX7_takeLowHalf_93 rfl ?_
        refine tt_lsub dX7_takeLowHalf_94 (gt_tl (fun y140 => ?_))
        refine tt_lload_n (j := 0) dX7_takeLowHalf_95 rfl ?_
        refine tt_ladd dX7_takeLowHalf_96 (gt_tl (fun y141 => ?_))
        refine tt_lload_n (j := 1) dX7_takeLowHalf_97 rfl ?_
        refine gt_Vv (As := [.long y139, .long y141, .long y136]) dX7_takeLowHalf_98 ca_X7_48 ⟨by decide, by decide⟩ h0 hA rfl (Nat.le_of_ble_eq_true rfl) (Nat.le_of_ble_eq_true rfl) (by decide) (cs_X7_become hG (oa_af h0 hA) (fun _ _ _ _ h => h)) rfl (fun _ h => nomatch h) (fun S142 hx146 hG143 hB144 hA145 => ?_)
        exact tt_loc (ks := [2]) rfl (B108 S142 hG143 hA145)
      refine tt_if_lt (tgt := 65) dX7_takeLowHalf_51 rfl (fun q147 => ?_) (fun q147 => ?_)
      · skip
        have h148 : Rl (-9223372036854775808) (-1) (hp_J S 448 o0) := rl_lt_l (rl_all (hp_J S 448 o0)) (⟨by decide, by decide⟩ : Rl 0 0 0) (lc_lt_t q147)
        exact B123 
      · skip
        have h149 : Rl 0 9223372036854775807 (hp_J S 448 o0) := rl_le_r (⟨by decide, by decide⟩ : Rl 0 0 0) (rl_all (hp_J S 448 o0)) (lc_lt_f q147)
        refine tt_aload_n (j := 0) dX7_takeLowHalf_54 rfl ?_
        refine gt_gJ (id := 449) (v := (hp_J S 449 o0)) dX7_takeLowHalf_55 fl_7_26 rfl rfl h0 hA rfl ?_
        refine tt_ldc2 (v := 4294967296) dX7_takeLowHalf_58 kl_7_95 ?_
        refine tt_lcmp dX7_takeLowHalf_61 ?_
        refine tt_if_lt (tgt := 101) dX7_takeLowHalf_62 rfl (fun q150 => ?_) (fun q150 => ?_)
        · skip
          have h151 : Rl (-9223372036854775808) 4294967295 (hp_J S 449 o0) := rl_lt_l (rl_all (hp_J S 449 o0)) (⟨by decide, by decide⟩ : Rl 4294967296 4294967296 4294967296) (lc_lt_t q150)
          exact B108 S hG hA
        · skip
          have h152 : Rl 4294967296 9223372036854775807 (hp_J S 449 o0) := rl_le_r (⟨by decide, by decide⟩ : Rl 4294967296 4294967296 4294967296) (rl_all (hp_J S 449 o0)) (lc_lt_f q150)
          exact B123 
    · skip
      have h153 : Rg 1 1 x119 := rg_ne_lo h120 (⟨by decide, by decide⟩ : Rg 0 0 0) q121
      refine tt_aload_n (j := 0) dX7_takeLowHalf_26 rfl ?_
      refine gt_gJ (id := 448) (v := (hp_J S 448 o0)) dX7_takeLowHalf_27 fl_7_23 rfl rfl h0 hA rfl ?_
      refine tt_ldc2 (v := 4294967295) dX7_takeLowHalf_30 kl_7_93 ?_
      refine tt_land dX7_takeLowHalf_33 (gt_tl (fun y154 => ?_))
      refine tt_lstore_n (ks := [0, 1]) (L' := [(1, .long y154), (0, .ref o0)]) dX7_takeLowHalf_34 (by decide) rfl ?_
      refine tt_aload_n (j := 1) dX7_takeLowHalf_35 rfl ?_
      refine tt_lload_n (j := 0) dX7_takeLowHalf_36 rfl ?_
      refine tt_lload_n (j := 0) dX7_takeLowHalf_37 rfl ?_
      refine tt_lconst (v := 0) dX7_takeLowHalf_38 rfl ?_
      refine gt_Vv (As := [.long y154, .long y154, .long 0]) dX7_takeLowHalf_39 ca_X7_48 ⟨by decide, by decide⟩ h0 hA rfl (Nat.le_of_ble_eq_true rfl) (Nat.le_of_ble_eq_true rfl) (by decide) (cs_X7_become hG (oa_af h0 hA) (fun _ _ _ _ h => h)) rfl (fun _ h => nomatch h) (fun S155 hx159 hG156 hB157 hA158 => ?_)
      refine tt_goto (tgt := 101) dX7_takeLowHalf_42 rfl ?_
      exact tt_loc (ks := [1]) rfl (B108 S155 hG156 hA158)
  · skip
    have h160 : Rg 1 1 x106 := rg_ne_lo h107 (⟨by decide, by decide⟩ : Rg 0 0 0) q112
    refine tt_aload_n (j := 0) dX7_takeLowHalf_7 rfl ?_
    refine tt_lconst (v := 0) dX7_takeLowHalf_8 rfl ?_
    refine tt_ldc2 (v := 4294967295) dX7_takeLowHalf_9 kl_7_93 ?_
    refine tt_lconst (v := 1) dX7_takeLowHalf_12 rfl ?_
    refine gt_Vv (As := [.long 0, .long 4294967295, .long 1]) dX7_takeLowHalf_13 ca_X7_48 ⟨by decide, by decide⟩ h0 hA rfl (Nat.le_of_ble_eq_true rfl) (Nat.le_of_ble_eq_true rfl) (by decide) (cs_X7_become hG (oa_af h0 hA) (fun _ _ _ _ h => h)) rfl (fun _ h => nomatch h) (fun S161 hx165 hG162 hB163 hA164 => ?_)
    refine tt_goto (tgt := 101) dX7_takeLowHalf_16 rfl ?_
    exact B108 S161 hG162 hA164
set_option maxHeartbeats 4000000 in
theorem cs_X7_takeSignedHalf {xi : SX} {S : Hp} {E : List Nat} {kc nc : Nat} {P : Po} {o0 : Nat} (hG : GI S E) (h0 : Oa S E 7 0 o0) (hP : ∀ r T x y, PV E [9987] S kc nc rV ex0 [] r T x y → P r T x y) : TT xi M_X7_takeSignedHalf 0 [(0, .ref o0)] [] S kc nc P := by
  have hA : Af E [9987] S S := af_rf
  refine tt_aload_n (j := 0) dX7_takeSignedHalf_0 rfl ?_
  refine gt_Vv (As := []) dX7_takeSignedHalf_1 ca_X7_103 ⟨by decide, by decide⟩ h0 hA rfl (Nat.le_of_ble_eq_true rfl) (Nat.le_of_ble_eq_true rfl) (by decide) (cs_X7_takeLowHalf hG (oa_af h0 hA) (fun _ _ _ _ h => h)) rfl (fun _ h => nomatch h) (fun S101 hx105 hG102 hB103 hA104 => ?_)
  refine tt_aload_n (j := 0) dX7_takeSignedHalf_4 rfl ?_
  refine gt_gJ (id := 449) (v := (hp_J S101 449 o0)) dX7_takeSignedHalf_5 fl_7_26 rfl rfl h0 hA104 rfl ?_
  refine tt_ldc2 (v := 2147483648) dX7_takeSignedHalf_8 kl_7_106 ?_
  refine tt_lcmp dX7_takeSignedHalf_11 ?_
  refine tt_if_ge (tgt := 16) dX7_takeSignedHalf_12 rfl (fun q106 => ?_) (fun q106 => ?_)
  · skip
    have h107 : Rl 2147483648 9223372036854775807 (hp_J S101 449 o0) := rl_le_r (⟨by decide, by decide⟩ : Rl 2147483648 2147483648 2147483648) (rl_all (hp_J S101 449 o0)) (lc_ge_t q106)
    refine tt_aload_n (j := 0) dX7_takeSignedHalf_16 rfl ?_
    refine gt_gJ (id := 448) (v := (hp_J S101 448 o0)) dX7_takeSignedHalf_17 fl_7_23 rfl rfl h0 hA104 rfl ?_
    refine tt_ldc2 (v := 2147483648) dX7_takeSignedHalf_20 kl_7_106 ?_
    refine tt_lcmp dX7_takeSignedHalf_23 ?_
    refine tt_if_lt (tgt := 52) dX7_takeSignedHalf_24 rfl (fun q108 => ?_) (fun q108 => ?_)
    · skip
      have h109 : Rl (-9223372036854775808) 2147483647 (hp_J S101 448 o0) := rl_lt_l (rl_all (hp_J S101 448 o0)) (⟨by decide, by decide⟩ : Rl 2147483648 2147483648 2147483648) (lc_lt_t q108)
      refine tt_aload_n (j := 0) dX7_takeSignedHalf_52 rfl ?_
      refine gt_gJ (id := 450) (v := (hp_J S101 450 o0)) dX7_takeSignedHalf_53 fl_7_15 rfl rfl h0 hA104 rfl ?_
      refine gt_SJp (As := [.long (hp_J S101 450 o0)]) dX7_takeSignedHalf_56 ca_X7_97 ⟨by decide, by decide⟩ hA104 (Nat.le_of_ble_eq_true rfl) (Nat.le_of_ble_eq_true rfl) (by decide) (cs_J13_lowestOneBit_067f4 hG102  (fun _ _ _ _ h => h)) rfl (fun _ h => nomatch h) (fun _ _ q => q) (fun y115 hx114 => ?_)
      refine tt_lstore_n (ks := [0, 1]) (L' := [(1, .long y115), (0, .ref o0)]) dX7_takeSignedHalf_59 (by decide) rfl ?_
      refine tt_aload_n (j := 1) dX7_takeSignedHalf_60 rfl ?_
      refine gt_gJ (id := 448) (v := (hp_J S101 448 o0)) dX7_takeSignedHalf_61 fl_7_23 rfl rfl h0 hA104 rfl ?_
      refine tt_lload_n (j := 0) dX7_takeSignedHalf_64 rfl ?_
      refine tt_lconst (v := 1) dX7_takeSignedHalf_65 rfl ?_
      refine tt_lsub dX7_takeSignedHalf_66 (gt_tl (fun y117 => ?_))
      refine tt_land dX7_takeSignedHalf_67 (gt_tl (fun y118 => ?_))
      refine tt_lstore_n (ks := [0, 1, 2]) (L' := [(3, .long y118), (1, .long y115), (0, .ref o0)]) dX7_takeSignedHalf_68 (by decide) rfl ?_
      refine tt_aload_n (j := 2) dX7_takeSignedHalf_69 rfl ?_
      refine tt_lload_n (j := 0) dX7_takeSignedHalf_70 rfl ?_
      refine tt_ldc2 (v := 2147483648) dX7_takeSignedHalf_71 kl_7_106 ?_
      refine tt_lsub dX7_takeSignedHalf_74 (gt_tl (fun y119 => ?_))
      refine tt_ldc2 (v := 2147483648) dX7_takeSignedHalf_75 kl_7_106 ?_
      refine tt_lload_n (j := 1) dX7_takeSignedHalf_78 rfl ?_
      refine tt_lsub dX7_takeSignedHalf_79 (gt_tl (fun y120 => ?_))
      refine tt_lload_n (j := 0) dX7_takeSignedHalf_80 rfl ?_
      refine tt_ladd dX7_takeSignedHalf_81 (gt_tl (fun y121 => ?_))
      refine tt_lload_n (j := 1) dX7_takeSignedHalf_82 rfl ?_
      refine gt_Vv (As := [.long y119, .long y121, .long y115]) dX7_takeSignedHalf_83 ca_X7_48 ⟨by decide, by decide⟩ h0 hA104 rfl (Nat.le_of_ble_eq_true rfl) (Nat.le_of_ble_eq_true rfl) (by decide) (cs_X7_become hG102 (oa_af h0 hA104) (fun _ _ _ _ h => h)) rfl (fun _ h => nomatch h) (fun S122 hx126 hG123 hB124 hA125 => ?_)
      exact tt_vreturn dX7_takeSignedHalf_86 rfl (hP _ _ _ _ ⟨hG123, hA125, Or.inl ⟨_, rfl, rfl, trivial, rfl, rfl⟩⟩)
    · skip
      have h127 : Rl 2147483648 9223372036854775807 (hp_J S101 448 o0) := rl_le_r (⟨by decide, by decide⟩ : Rl 2147483648 2147483648 2147483648) (rl_all (hp_J S101 448 o0)) (lc_lt_f q108)
      refine tt_aload_n (j := 0) dX7_takeSignedHalf_27 rfl ?_
      refine tt_aload_n (j := 0) dX7_takeSignedHalf_28 rfl ?_
      refine gt_gJ (id := 448) (v := (hp_J S101 448 o0)) dX7_takeSignedHalf_29 fl_7_23 rfl rfl h0 hA104 rfl ?_
      refine tt_ldc2 (v := 4294967296) dX7_takeSignedHalf_32 kl_7_95 ?_
      refine tt_lsub dX7_takeSignedHalf_35 (gt_tl (fun y128 => ?_))
      refine tt_aload_n (j := 0) dX7_takeSignedHalf_36 rfl ?_
      refine gt_gJ (id := 449) (v := (hp_J S101 449 o0)) dX7_takeSignedHalf_37 fl_7_26 rfl rfl h0 hA104 rfl ?_
      refine tt_ldc2 (v := 4294967296) dX7_takeSignedHalf_40 kl_7_95 ?_
      refine tt_lsub dX7_takeSignedHalf_43 (gt_tl (fun y129 => ?_))
      refine tt_aload_n (j := 0) dX7_takeSignedHalf_44 rfl ?_
      refine gt_gJ (id := 450) (v := (hp_J S101 450 o0)) dX7_takeSignedHalf_45 fl_7_15 rfl rfl h0 hA104 rfl ?_
      refine gt_Vv (As := [.long y128, .long y129, .long (hp_J S101 450 o0)]) dX7_takeSignedHalf_48 ca_X7_48 ⟨by decide, by decide⟩ h0 hA104 rfl (Nat.le_of_ble_eq_true rfl) (Nat.le_of_ble_eq_true rfl) (by decide) (cs_X7_become hG102 (oa_af h0 hA104) (fun _ _ _ _ h => h)) rfl (fun _ h => nomatch h) (fun S130 hx134 hG131 hB132 hA133 => ?_)
      exact tt_vreturn dX7_takeSignedHalf_51 rfl (hP _ _ _ _ ⟨hG131, hA133, Or.inl ⟨_, rfl, rfl, trivial, rfl, rfl⟩⟩)
  · skip
    have h135 : Rl (-9223372036854775808) 2147483647 (hp_J S101 449 o0) := rl_lt_l (rl_all (hp_J S101 449 o0)) (⟨by decide, by decide⟩ : Rl 2147483648 2147483648 2147483648) (lc_ge_f q106)
    exact tt_vreturn dX7_takeSignedHalf_15 rfl (hP _ _ _ _ ⟨hG102, hA104, Or.inl ⟨_, rfl, rfl, trivial, rfl, rfl⟩⟩)
