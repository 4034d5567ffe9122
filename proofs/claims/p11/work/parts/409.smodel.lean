set_option maxHeartbeats 4000000 in
theorem ct_read {xi : SX} {S : Hp} {E : List Nat} {kc nc : Nat} {P : Po} {o0 : Nat} {x1 : Int32} (hG : GI S E) (h0 : Oa S E 10 0 o0) (hq : hp_I S 662 o0 = 0 → (Rg 19 22 (hp_I S 655 o0) ∨ Rg 0 23 (hp_I S 657 o0)) ∧ Rg (-1) 23 (hp_I S 658 o0)) (hP : ∀ r T x y, PV E [656, 661, 662] S kc nc (rI 0 1) (fun v T => (∀ z, v = some (.int z) → ¬ z = 0 → (Rg 19 22 (hp_I T 655 o0) ∨ Rg 0 23 (hp_I T 657 o0)) ∧ Rg (-1) 23 (hp_I T 658 o0))) [] r T x y → P r T x y) : TT xi M_X10_read 107 [(0, .ref o0), (1, .int x1)] [] S kc nc P := by
  have hA : Af E [656, 661, 662] S S := af_rf
  refine tt_aload_n (j := 0) dX10_read_107 rfl ?_
  refine tt_getI (id := 655) dX10_read_108 fl_10_107 rfl rfl (ob_af h0 hA) ?_
  refine tt_bipush (v := 7) dX10_read_111 rfl ?_
  have B101 : ∀ (x102 : Int32), Rg 0 1 x102 → TT xi M_X10_read 139 [(0, .ref o0), (1, .int x1)] [.int x102] S kc nc P := by
    intro x102 h103
    refine tt_istore (ks := [0, 1, 2]) (L' := [(4, .int x102), (0, .ref o0), (1, .int x1)]) dX10_read_139 (by decide) rfl ?_
    refine tt_aload_n (j := 1) dX10_read_141 rfl ?_
    refine tt_aload_n (j := 1) dX10_read_142 rfl ?_
    refine tt_getI (id := 662) dX10_read_143 fl_10_84 rfl rfl (ob_af h0 hA) ?_
    have B104 : TT xi M_X10_read 170 [(0, .ref o0), (1, .int x1), (4, .int x102)] [.ref o0] S kc nc P := by
      refine tt_iconst (v := 1) dX10_read_170 rfl ?_
      refine tt_goto (tgt := 175) dX10_read_171 rfl ?_
      refine gt_pI (id := 662) (x := 1) dX10_read_175 fl_10_84 rfl rfl h0 hA rfl rfl rfl (gp_Ir hG (⟨by decide, by decide⟩ : Rg 1 1 1)) (by decide) (fun _ _ q => absurd q (by decide)) (fun h => absurd h (by decide)) (fun S105 hG106 hA107 e108 f109 er110 => ?_)
      refine tt_aload_n (j := 0) dX10_read_178 rfl ?_
      refine tt_aload_n (j := 0) dX10_read_179 rfl ?_
      refine gt_gI (id := 654) (v := (hp_I S 654 o0)) dX10_read_180 fl_10_81 rfl rfl h0 hA107 (i_af (k := 654) h0 hA107) ?_
      refine tt_iload_n (j := 1) dX10_read_183 rfl ?_
      refine tt_isub dX10_read_184 ?_
      refine gt_pI (id := 661) (x := ((hp_I S 654 o0) - x1)) dX10_read_185 fl_10_134 rfl rfl h0 hA107 rfl rfl rfl (gp_I hG106) (by decide) (fun h => absurd h (by decide)) (fun h => absurd h (by decide)) (fun S111 hG112 hA113 e114 f115 er116 => ?_)
      refine tt_aload_n (j := 0) dX10_read_188 rfl ?_
      refine gt_gI (id := 655) (v := (hp_I S 655 o0)) dX10_read_189 fl_10_107 rfl rfl h0 hA113 (i_af (k := 655) h0 hA113) ?_
      refine tt_bipush (v := 19) dX10_read_192 rfl ?_
      have B117 : ∀ (S118 : Hp), GI S118 E → Af E [656, 661, 662] S S118 → TT xi M_X10_read 202 [(0, .ref o0), (1, .int x1), (4, .int x102)] [] S118 kc nc P := by
        intro S118 hG119 hA120
        refine tt_aload_n (j := 0) dX10_read_202 rfl ?_
        refine tt_getI (id := 662) dX10_read_203 fl_10_84 rfl rfl (ob_af h0 hA120) ?_
        refine tt_if_ne (tgt := 213) dX10_read_206 rfl (fun q121 => ?_) (fun q121 => ?_)
        · skip
          have h122 : Rg 1 1 (hp_I S118 662 o0) := rg_ne_lo (gi_I (k := 662) hG119 (oa_af h0 hA120) 0 1) (⟨by decide, by decide⟩ : Rg 0 0 0) q121
          refine tt_iconst (v := 0) dX10_read_213 rfl ?_
          exact tt_ireturn dX10_read_214 .boolean rfl rfl (hP _ _ _ _ ⟨hG119, hA120, Or.inl ⟨_, rfl, ⟨_, rfl, rg_w (⟨by decide, by decide⟩ : Rg 0 0 0)⟩, ei_0, rfl, rfl⟩⟩)
        · skip
          have h123 : Rg 0 0 (hp_I S118 662 o0) := rg_eq_l (gi_I (k := 662) hG119 (oa_af h0 hA120) 0 1) (⟨by decide, by decide⟩ : Rg 0 0 0) q121
          refine tt_iconst (v := 1) dX10_read_209 rfl ?_
          refine tt_goto (tgt := 214) dX10_read_210 rfl ?_
          exact tt_ireturn dX10_read_214 .boolean rfl rfl (hP _ _ _ _ ⟨hG119, hA120, Or.inl ⟨_, rfl, ⟨_, rfl, rg_w (⟨by decide, by decide⟩ : Rg 1 1 1)⟩, (fun _ _ _ => by rw [i_af (k := 655) h0 hA120, i_af (k := 657) h0 hA120, i_af (k := 658) h0 hA120]; exact hq (mo_af h0 hA120 (rg_eqc h123))), rfl, rfl⟩⟩)
      refine tt_icmp_lt (tgt := 202) dX10_read_194 rfl (fun q124 => ?_) (fun q124 => ?_)
      · skip
        have h125 : Rg (-2147483648) 18 (hp_I S 655 o0) := rg_lt_l (rg_all (hp_I S 655 o0)) (⟨by decide, by decide⟩ : Rg 19 19 19) q124
        exact B117 S111 hG112 hA113
      · skip
        have h126 : Rg 19 2147483647 (hp_I S 655 o0) := rg_le_r (⟨by decide, by decide⟩ : Rg 19 19 19) (rg_all (hp_I S 655 o0)) (nlt_le q124)
        refine tt_aload_n (j := 0) dX10_read_197 rfl ?_
        refine tt_iconst (v := 0) dX10_read_198 rfl ?_
        refine gt_pI (id := 656) (x := 0) dX10_read_199 fl_10_127 rfl rfl h0 hA113 rfl rfl rfl (gp_I hG112) (by decide) (fun h => absurd h (by decide)) (fun h => absurd h (by decide)) (fun S127 hG128 hA129 e130 f131 er132 => ?_)
        exact B117 S127 hG128 hA129
    refine tt_if_ne (tgt := 170) dX10_read_146 rfl (fun q133 => ?_) (fun q133 => ?_)
    · skip
      have h134 : Rg 1 1 (hp_I S 662 o0) := rg_ne_lo (gi_I (k := 662) hG (oa_af h0 hA) 0 1) (⟨by decide, by decide⟩ : Rg 0 0 0) q133
      exact tt_loc (ks := [1, 2, 0]) rfl (B104 )
    · skip
      have h135 : Rg 0 0 (hp_I S 662 o0) := rg_eq_l (gi_I (k := 662) hG (oa_af h0 hA) 0 1) (⟨by decide, by decide⟩ : Rg 0 0 0) q133
      refine tt_iload (j := 0) dX10_read_149 rfl ?_
      have B136 : TT xi M_X10_read 174 [(0, .ref o0), (1, .int x1), (4, .int x102)] [.ref o0] S kc nc P := by
        refine tt_iconst (v := 0) dX10_read_174 rfl ?_
        refine gt_pI (id := 662) (x := 0) dX10_read_175 fl_10_84 rfl rfl h0 hA rfl rfl rfl (gp_Ir hG (⟨by decide, by decide⟩ : Rg 0 0 0)) (by decide) (fun _ _ _ => (rg_eqc h135)) (fun h => absurd h (by decide)) (fun S137 hG138 hA139 e140 f141 er142 => ?_)
        refine tt_aload_n (j := 0) dX10_read_178 rfl ?_
        refine tt_aload_n (j := 0) dX10_read_179 rfl ?_
        refine gt_gI (id := 654) (v := (hp_I S 654 o0)) dX10_read_180 fl_10_81 rfl rfl h0 hA139 (i_af (k := 654) h0 hA139) ?_
        refine tt_iload_n (j := 1) dX10_read_183 rfl ?_
        refine tt_isub dX10_read_184 ?_
        refine gt_pI (id := 661) (x := ((hp_I S 654 o0) - x1)) dX10_read_185 fl_10_134 rfl rfl h0 hA139 rfl rfl rfl (gp_I hG138) (by decide) (fun h => absurd h (by decide)) (fun h => absurd h (by decide)) (fun S143 hG144 hA145 e146 f147 er148 => ?_)
        refine tt_aload_n (j := 0) dX10_read_188 rfl ?_
        refine gt_gI (id := 655) (v := (hp_I S 655 o0)) dX10_read_189 fl_10_107 rfl rfl h0 hA145 (i_af (k := 655) h0 hA145) ?_
        refine tt_bipush (v := 19) dX10_read_192 rfl ?_
        have B149 : ∀ (S150 : Hp), GI S150 E → Af E [656, 661, 662] S S150 → TT xi M_X10_read 202 [(0, .ref o0), (1, .int x1), (4, .int x102)] [] S150 kc nc P := by
          intro S150 hG151 hA152
          refine tt_aload_n (j := 0) dX10_read_202 rfl ?_
          refine tt_getI (id := 662) dX10_read_203 fl_10_84 rfl rfl (ob_af h0 hA152) ?_
          refine tt_if_ne (tgt := 213) dX10_read_206 rfl (fun q153 => ?_) (fun q153 => ?_)
          · skip
            have h154 : Rg 1 1 (hp_I S150 662 o0) := rg_ne_lo (gi_I (k := 662) hG151 (oa_af h0 hA152) 0 1) (⟨by decide, by decide⟩ : Rg 0 0 0) q153
            refine tt_iconst (v := 0) dX10_read_213 rfl ?_
            exact tt_ireturn dX10_read_214 .boolean rfl rfl (hP _ _ _ _ ⟨hG151, hA152, Or.inl ⟨_, rfl, ⟨_, rfl, rg_w (⟨by decide, by decide⟩ : Rg 0 0 0)⟩, ei_0, rfl, rfl⟩⟩)
          · skip
            have h155 : Rg 0 0 (hp_I S150 662 o0) := rg_eq_l (gi_I (k := 662) hG151 (oa_af h0 hA152) 0 1) (⟨by decide, by decide⟩ : Rg 0 0 0) q153
            refine tt_iconst (v := 1) dX10_read_209 rfl ?_
            refine tt_goto (tgt := 214) dX10_read_210 rfl ?_
            exact tt_ireturn dX10_read_214 .boolean rfl rfl (hP _ _ _ _ ⟨hG151, hA152, Or.inl ⟨_, rfl, ⟨_, rfl, rg_w (⟨by decide, by decide⟩ : Rg 1 1 1)⟩, (fun _ _ _ => by rw [i_af (k := 655) h0 hA152, i_af (k := 657) h0 hA152, i_af (k := 658) h0 hA152]; exact hq (mo_af h0 hA152 (rg_eqc h155))), rfl, rfl⟩⟩)
        refine tt_icmp_lt (tgt := 202) dX10_read_194 rfl (fun q156 => ?_) (fun q156 => ?_)
        · skip
          have h157 : Rg (-2147483648) 18 (hp_I S 655 o0) := rg_lt_l (rg_all (hp_I S 655 o0)) (⟨by decide, by decide⟩ : Rg 19 19 19) q156
          exact B149 S143 hG144 hA145
        · skip
          have h158 : Rg 19 2147483647 (hp_I S 655 o0) := rg_le_r (⟨by decide, by decide⟩ : Rg 19 19 19) (rg_all (hp_I S 655 o0)) (nlt_le q156)
          refine tt_aload_n (j := 0) dX10_read_197 rfl ?_
          refine tt_iconst (v := 0) dX10_read_198 rfl ?_
          refine gt_pI (id := 656) (x := 0) dX10_read_199 fl_10_127 rfl rfl h0 hA145 rfl rfl rfl (gp_I hG144) (by decide) (fun h => absurd h (by decide)) (fun h => absurd h (by decide)) (fun S159 hG160 hA161 e162 f163 er164 => ?_)
          exact B149 S159 hG160 hA161
      refine tt_if_eq (tgt := 174) dX10_read_151 rfl (fun q165 => ?_) (fun q165 => ?_)
      · skip
        have h166 : Rg 0 0 x102 := rg_eq_l h103 (⟨by decide, by decide⟩ : Rg 0 0 0) q165
        exact tt_loc (ks := [1, 2, 0]) rfl (B136 )
      · skip
        have h167 : Rg 1 1 x102 := rg_ne_lo h103 (⟨by decide, by decide⟩ : Rg 0 0 0) q165
        refine tt_aload_n (j := 1) dX10_read_154 rfl ?_
        refine tt_getI (id := 657) dX10_read_155 fl_10_110 rfl rfl (ob_af h0 hA) ?_
        refine tt_iconst (v := 4) dX10_read_158 rfl ?_
        refine tt_icmp_eq (tgt := 170) dX10_read_159 rfl (fun q168 => ?_) (fun q168 => ?_)
        · skip
          have h169 : Rg 4 4 (hp_I S 657 o0) := rg_eq_l (rg_all (hp_I S 657 o0)) (⟨by decide, by decide⟩ : Rg 4 4 4) q168
          exact tt_loc (ks := [1, 2, 0]) rfl (B104 )
        · skip
          refine tt_aload_n (j := 1) dX10_read_162 rfl ?_
          refine tt_getI (id := 657) dX10_read_163 fl_10_110 rfl rfl (ob_af h0 hA) ?_
          refine tt_iconst (v := 5) dX10_read_166 rfl ?_
          refine tt_icmp_ne (tgt := 174) dX10_read_167 rfl (fun q170 => ?_) (fun q170 => ?_)
          · skip
            exact tt_loc (ks := [1, 2, 0]) rfl (B136 )
          · skip
            have h171 : Rg 5 5 (hp_I S 657 o0) := rg_eq_l (rg_all (hp_I S 657 o0)) (⟨by decide, by decide⟩ : Rg 5 5 5) q170
            exact tt_loc (ks := [1, 2, 0]) rfl (B104 )
  have B172 : TT xi M_X10_read 138 [(0, .ref o0), (1, .int x1)] [] S kc nc P := by
    refine tt_iconst (v := 0) dX10_read_138 rfl ?_
    exact B101 0 (rg_w (⟨by decide, by decide⟩ : Rg 0 0 0))
  refine tt_icmp_eq (tgt := 138) dX10_read_113 rfl (fun q173 => ?_) (fun q173 => ?_)
  · skip
    have h174 : Rg 7 7 (hp_I S 655 o0) := rg_eq_l (rg_all (hp_I S 655 o0)) (⟨by decide, by decide⟩ : Rg 7 7 7) q173
    exact B172 
  · skip
    refine tt_aload_n (j := 0) dX10_read_116 rfl ?_
    refine tt_getI (id := 655) dX10_read_117 fl_10_107 rfl rfl (ob_af h0 hA) ?_
    refine tt_bipush (v := 8) dX10_read_120 rfl ?_
    refine tt_icmp_eq (tgt := 138) dX10_read_122 rfl (fun q175 => ?_) (fun q175 => ?_)
    · skip
      have h176 : Rg 8 8 (hp_I S 655 o0) := rg_eq_l (rg_all (hp_I S 655 o0)) (⟨by decide, by decide⟩ : Rg 8 8 8) q175
      exact B172 
    · skip
      refine tt_aload_n (j := 0) dX10_read_125 rfl ?_
      refine tt_getI (id := 655) dX10_read_126 fl_10_107 rfl rfl (ob_af h0 hA) ?_
      refine tt_bipush (v := 19) dX10_read_129 rfl ?_
      refine tt_icmp_ge (tgt := 138) dX10_read_131 rfl (fun q177 => ?_) (fun q177 => ?_)
      · skip
        have h178 : Rg 19 2147483647 (hp_I S 655 o0) := rg_le_r (⟨by decide, by decide⟩ : Rg 19 19 19) (rg_all (hp_I S 655 o0)) q177
        exact B172 
      · skip
        have h179 : Rg (-2147483648) 18 (hp_I S 655 o0) := rg_lt_l (rg_all (hp_I S 655 o0)) (⟨by decide, by decide⟩ : Rg 19 19 19) (nle_lt q177)
        refine tt_iconst (v := 1) dX10_read_134 rfl ?_
        refine tt_goto (tgt := 139) dX10_read_135 rfl ?_
        exact B101 1 (rg_w (⟨by decide, by decide⟩ : Rg 1 1 1))
set_option maxHeartbeats 4000000 in
theorem cs_X10_read {xi : SX} {S : Hp} {E : List Nat} {kc nc : Nat} {P : Po} {o0 : Nat} {x1 : Int32} (hG : GI S E) (h0 : Oa S E 10 0 o0) (h1 : Rg 0 199 x1) (hP : ∀ r T x y, PV E [654, 655, 656, 657, 658, 659, 661, 662, 672, 673, 674, 675, 9998] S kc nc (rI 0 1) (fun v T => (∀ z, v = some (.int z) → ¬ z = 0 → (Rg 19 22 (hp_I T 655 o0) ∨ Rg 0 23 (hp_I T 657 o0)) ∧ Rg (-1) 23 (hp_I T 658 o0))) [] r T x y → P r T x y) : TT xi M_X10_read 0 [(0, .ref o0), (1, .int x1)] [] S kc nc P := by
  have hA : Af E [654, 655, 656, 657, 658, 659, 661, 662, 672, 673, 674, 675, 9998] S S := af_rf
  refine tt_aload_n (j := 0) dX10_read_0 rfl ?_
  refine tt_iload_n (j := 1) dX10_read_1 rfl ?_
  refine gt_pI (id := 654) (x := x1) dX10_read_2 fl_10_81 rfl rfl h0 hA rfl rfl rfl (gp_Ir hG h1) (by decide) (fun h => absurd h (by decide)) (fun h => absurd h (by decide)) (fun S101 hG102 hA103 e104 f105 er106 => ?_)
  refine tt_aload_n (j := 0) dX10_read_5 rfl ?_
  refine tt_iconst (v := 0) dX10_read_6 rfl ?_
  refine gt_pI (id := 662) (x := 0) dX10_read_7 fl_10_84 rfl rfl h0 hA103 rfl rfl rfl (gp_Ir hG102 (⟨by decide, by decide⟩ : Rg 0 0 0)) (by decide) (fun _ h => absurd (by decide) h) (fun h => absurd h (by decide)) (fun S107 hG108 hA109 e110 f111 er112 => ?_)
  refine tt_aload_n (j := 0) dX10_read_10 rfl ?_
  refine tt_lconst (v := 0) dX10_read_11 rfl ?_
  refine gt_pJ (id := 660) (x := 0) dX10_read_12 fl_10_116 rfl rfl h0 hA109 rfl rfl rfl hG108 (fun S113 hG114 hA115 e116 f117 er118 => ?_)
  refine tt_aload_n (j := 0) dX10_read_15 rfl ?_
  refine tt_iconst (v := 0) dX10_read_16 rfl ?_
  refine gt_pI (id := 659) (x := 0) dX10_read_17 fl_10_120 rfl rfl h0 hA115 rfl rfl rfl (gp_I hG114) (by decide) (fun h => absurd h (by decide)) (fun h => absurd h (by decide)) (fun S119 hG120 hA121 e122 f123 er124 => ?_)
  refine tt_aload_n (j := 0) dX10_read_20 rfl ?_
  refine tt_bipush (v := 21) dX10_read_21 rfl ?_
  refine tt_iconst (v := (-1)) dX10_read_23 rfl ?_
  refine tt_iconst (v := (-1)) dX10_read_24 rfl ?_
  refine gt_Vv (As := [.int 21, .int (-1), .int (-1)]) dX10_read_25 ca_X10_123 ⟨by decide, by decide⟩ h0 hA121 rfl (Nat.le_of_ble_eq_true rfl) (Nat.le_of_ble_eq_true rfl) (by decide) (cs_X10_take hG120 (oa_af h0 hA121) (fun _ _ _ _ h => h)) rfl (fun _ h => nomatch h) (fun S125 hx129 hG126 hB127 hA128 => ?_)
  refine tt_aload_n (j := 0) dX10_read_28 rfl ?_
  refine gt_VI (As := []) dX10_read_29 ca_X10_87 ⟨by decide, by decide⟩ h0 hA128 rfl (Nat.le_of_ble_eq_true rfl) (Nat.le_of_ble_eq_true rfl) (by decide) (cs_X10_next hG126 (oa_af h0 hA128) (fun _ _ _ _ h => h)) rfl (fun _ h => nomatch h) (fun S130 x135 h136 hx134 hG131 hB132 hA133 => ?_)
  refine tt_istore_n (ks := [0, 1, 2]) (L' := [(2, .int x135), (0, .ref o0), (1, .int x1)]) dX10_read_32 (by decide) rfl ?_
  refine tt_iconst (v := 0) dX10_read_33 rfl ?_
  refine tt_istore_n (ks := [0, 1, 2, 3]) (L' := [(3, .int 0), (2, .int x135), (0, .ref o0), (1, .int x1)]) dX10_read_34 (by decide) rfl ?_
  refine tt_iload_n (j := 1) dX10_read_35 rfl ?_
  refine tt_bipush (v := 64) dX10_read_36 rfl ?_
  refine tt_icmp_lt (tgt := 76) dX10_read_38 rfl (fun q137 => ?_) (fun q137 => ?_)
  · skip
    have h138 : Rg (-2147483648) 63 x135 := rg_lt_l h136 (⟨by decide, by decide⟩ : Rg 64 64 64) q137
    refine tt_aload_n (j := 2) dX10_read_76 rfl ?_
    refine tt_iload_n (j := 0) dX10_read_77 rfl ?_
    refine tt_bipush (v := 8) dX10_read_78 rfl ?_
    refine tt_iand dX10_read_80 ?_
    have B139 : ∀ (x140 : Int32), Rg 32 64 x140 → TT xi M_X10_read 91 [(0, .ref o0), (1, .int x1), (2, .int x135), (3, .int 0)] [.int x140, .ref o0] S130 kc nc P := by
      intro x140 h141
      refine gt_pI (id := 656) (x := x140) dX10_read_91 fl_10_127 rfl rfl h0 hA133 rfl rfl rfl (gp_I hG131) (by decide) (fun h => absurd h (by decide)) (fun h => absurd h (by decide)) (fun S142 hG143 hA144 e145 f146 er147 => ?_)
      refine tt_aload_n (j := 0) dX10_read_94 rfl ?_
      refine tt_getI (id := 662) dX10_read_95 fl_10_84 rfl rfl (ob_af h0 hA144) ?_
      refine tt_if_ne (tgt := 107) dX10_read_98 rfl (fun q148 => ?_) (fun q148 => ?_)
      · skip
        have h149 : Rg 1 1 (hp_I S142 662 o0) := rg_ne_lo (gi_I (k := 662) hG143 (oa_af h0 hA144) 0 1) (⟨by decide, by decide⟩ : Rg 0 0 0) q148
        exact tt_loc (ks := [0, 1]) rfl (ct_read hG143 (oa_af h0 hA144) (fun q => absurd q (rg_nec h149)) (fun r T x y h => hP r T x y (pv_tr hA144 h (by decide) (fun _ _ h => h))))
      · skip
        have h150 : Rg 0 0 (hp_I S142 662 o0) := rg_eq_l (gi_I (k := 662) hG143 (oa_af h0 hA144) 0 1) (⟨by decide, by decide⟩ : Rg 0 0 0) q148
        refine tt_aload_n (j := 0) dX10_read_101 rfl ?_
        refine tt_iload_n (j := 2) dX10_read_102 rfl ?_
        refine tt_iload_n (j := 3) dX10_read_103 rfl ?_
        refine gt_Vv (As := [.int x135, .int 0]) dX10_read_104 ca_X10_130 ⟨by decide, by decide⟩ h0 hA144 rfl (Nat.le_of_ble_eq_true rfl) (Nat.le_of_ble_eq_true rfl) (by decide) (cs_X10_readRest hG143 (oa_af h0 hA144) (rg_cast ((congrFun (congrFun e145 655) o0).trans ((congrFun (up2_ne (k := 655)) o0).trans ((i_af (k := 655) (oa_af h0 hA128) hB132).trans hx129.1))) (rg_w (⟨by decide, by decide⟩ : Rg 21 21 21))) (rg_cast ((congrFun (congrFun e145 658) o0).trans ((congrFun (up2_ne (k := 658)) o0).trans ((i_af (k := 658) (oa_af h0 hA128) hB132).trans hx129.2.2))) (rg_w (⟨by decide, by decide⟩ : Rg (-1) (-1) (-1)))) (fun _ _ _ _ h => h)) rfl (fun _ h => nomatch h) (fun S151 hx155 hG152 hB153 hA154 => ?_)
        exact tt_loc (ks := [0, 1]) rfl (ct_read hG152 (oa_af h0 hA154) hx155 (fun r T x y h => hP r T x y (pv_tr hA154 h (by decide) (fun _ _ h => h))))
    refine tt_if_eq (tgt := 89) dX10_read_81 rfl (fun q156 => ?_) (fun q156 => ?_)
    · skip
      have h157 : Rg 0 0 (0 &&& 8) := rg_eq_l (rg_and (x := 0) (⟨by decide, by decide⟩ : Rg 8 8 8)) (⟨by decide, by decide⟩ : Rg 0 0 0) q156
      refine tt_bipush (v := 32) dX10_read_89 rfl ?_
      exact tt_loc (ks := [2, 3, 1, 0]) rfl (B139 32 (rg_w (⟨by decide, by decide⟩ : Rg 32 32 32)))
    · skip
      have h158 : Rg 1 8 (0 &&& 8) := rg_ne_lo (rg_and (x := 0) (⟨by decide, by decide⟩ : Rg 8 8 8)) (⟨by decide, by decide⟩ : Rg 0 0 0) q156
      refine tt_bipush (v := 64) dX10_read_84 rfl ?_
      refine tt_goto (tgt := 91) dX10_read_86 rfl ?_
      exact tt_loc (ks := [2, 3, 1, 0]) rfl (B139 64 (rg_w (⟨by decide, by decide⟩ : Rg 64 64 64)))
  · skip
    have h159 : Rg 64 2147483647 x135 := rg_le_r (⟨by decide, by decide⟩ : Rg 64 64 64) h136 (nlt_le q137)
    refine tt_iload_n (j := 1) dX10_read_41 rfl ?_
    refine tt_bipush (v := 80) dX10_read_42 rfl ?_
    refine tt_icmp_ge (tgt := 76) dX10_read_44 rfl (fun q160 => ?_) (fun q160 => ?_)
    · skip
      have h161 : Rg 80 2147483647 x135 := rg_le_r (⟨by decide, by decide⟩ : Rg 80 80 80) h159 q160
      refine tt_aload_n (j := 2) dX10_read_76 rfl ?_
      refine tt_iload_n (j := 0) dX10_read_77 rfl ?_
      refine tt_bipush (v := 8) dX10_read_78 rfl ?_
      refine tt_iand dX10_read_80 ?_
      have B162 : ∀ (x163 : Int32), Rg 32 64 x163 → TT xi M_X10_read 91 [(0, .ref o0), (1, .int x1), (2, .int x135), (3, .int 0)] [.int x163, .ref o0] S130 kc nc P := by
        intro x163 h164
        refine gt_pI (id := 656) (x := x163) dX10_read_91 fl_10_127 rfl rfl h0 hA133 rfl rfl rfl (gp_I hG131) (by decide) (fun h => absurd h (by decide)) (fun h => absurd h (by decide)) (fun S165 hG166 hA167 e168 f169 er170 => ?_)
        refine tt_aload_n (j := 0) dX10_read_94 rfl ?_
        refine tt_getI (id := 662) dX10_read_95 fl_10_84 rfl rfl (ob_af h0 hA167) ?_
        refine tt_if_ne (tgt := 107) dX10_read_98 rfl (fun q171 => ?_) (fun q171 => ?_)
        · skip
          have h172 : Rg 1 1 (hp_I S165 662 o0) := rg_ne_lo (gi_I (k := 662) hG166 (oa_af h0 hA167) 0 1) (⟨by decide, by decide⟩ : Rg 0 0 0) q171
          exact tt_loc (ks := [0, 1]) rfl (ct_read hG166 (oa_af h0 hA167) (fun q => absurd q (rg_nec h172)) (fun r T x y h => hP r T x y (pv_tr hA167 h (by decide) (fun _ _ h => h))))
        · skip
          have h173 : Rg 0 0 (hp_I S165 662 o0) := rg_eq_l (gi_I (k := 662) hG166 (oa_af h0 hA167) 0 1) (⟨by decide, by decide⟩ : Rg 0 0 0) q171
          refine tt_aload_n (j := 0) dX10_read_101 rfl ?_
          refine tt_iload_n (j := 2) dX10_read_102 rfl ?_
          refine tt_iload_n (j := 3) dX10_read_103 rfl ?_
          refine gt_Vv (As := [.int x135, .int 0]) dX10_read_104 ca_X10_130 ⟨by decide, by decide⟩ h0 hA167 rfl (Nat.le_of_ble_eq_true rfl) (Nat.le_of_ble_eq_true rfl) (by decide) (cs_X10_readRest hG166 (oa_af h0 hA167) (rg_cast ((congrFun (congrFun e168 655) o0).trans ((congrFun (up2_ne (k := 655)) o0).trans ((i_af (k := 655) (oa_af h0 hA128) hB132).trans hx129.1))) (rg_w (⟨by decide, by decide⟩ : Rg 21 21 21))) (rg_cast ((congrFun (congrFun e168 658) o0).trans ((congrFun (up2_ne (k := 658)) o0).trans ((i_af (k := 658) (oa_af h0 hA128) hB132).trans hx129.2.2))) (rg_w (⟨by decide, by decide⟩ : Rg (-1) (-1) (-1)))) (fun _ _ _ _ h => h)) rfl (fun _ h => nomatch h) (fun S174 hx178 hG175 hB176 hA177 => ?_)
          exact tt_loc (ks := [0, 1]) rfl (ct_read hG175 (oa_af h0 hA177) hx178 (fun r T x y h => hP r T x y (pv_tr hA177 h (by decide) (fun _ _ h => h))))
      refine tt_if_eq (tgt := 89) dX10_read_81 rfl (fun q179 => ?_) (fun q179 => ?_)
      · skip
        have h180 : Rg 0 0 (0 &&& 8) := rg_eq_l (rg_and (x := 0) (⟨by decide, by decide⟩ : Rg 8 8 8)) (⟨by decide, by decide⟩ : Rg 0 0 0) q179
        refine tt_bipush (v := 32) dX10_read_89 rfl ?_
        exact tt_loc (ks := [2, 3, 1, 0]) rfl (B162 32 (rg_w (⟨by decide, by decide⟩ : Rg 32 32 32)))
      · skip
        have h181 : Rg 1 8 (0 &&& 8) := rg_ne_lo (rg_and (x := 0) (⟨by decide, by decide⟩ : Rg 8 8 8)) (⟨by decide, by decide⟩ : Rg 0 0 0) q179
        refine tt_bipush (v := 64) dX10_read_84 rfl ?_
        refine tt_goto (tgt := 91) dX10_read_86 rfl ?_
        exact tt_loc (ks := [2, 3, 1, 0]) rfl (B162 64 (rg_w (⟨by decide, by decide⟩ : Rg 64 64 64)))
    · skip
      have h182 : Rg 64 79 x135 := rg_lt_l h159 (⟨by decide, by decide⟩ : Rg 80 80 80) (nle_lt q160)
      refine tt_iload_n (j := 1) dX10_read_47 rfl ?_
      refine tt_istore_n (ks := [0, 1, 2, 3]) (L' := [(3, .int x135), (2, .int x135), (0, .ref o0), (1, .int x1)]) dX10_read_48 (by decide) rfl ?_
      refine tt_aload_n (j := 2) dX10_read_49 rfl ?_
      refine tt_aload_n (j := 2) dX10_read_50 rfl ?_
      refine tt_getI (id := 662) dX10_read_51 fl_10_84 rfl rfl (ob_af h0 hA133) ?_
      have B183 : TT xi M_X10_read 63 [(0, .ref o0), (1, .int x1), (2, .int x135), (3, .int x135)] [.ref o0] S130 kc nc P := by
        refine tt_iconst (v := 1) dX10_read_63 rfl ?_
        refine tt_goto (tgt := 68) dX10_read_64 rfl ?_
        refine gt_pI (id := 662) (x := 1) dX10_read_68 fl_10_84 rfl rfl h0 hA133 rfl rfl rfl (gp_Ir hG131 (⟨by decide, by decide⟩ : Rg 1 1 1)) (by decide) (fun _ h => absurd (by decide) h) (fun h => absurd h (by decide)) (fun S184 hG185 hA186 e187 f188 er189 => ?_)
        refine tt_aload_n (j := 0) dX10_read_71 rfl ?_
        refine gt_VI (As := []) dX10_read_72 ca_X10_87 ⟨by decide, by decide⟩ h0 hA186 rfl (Nat.le_of_ble_eq_true rfl) (Nat.le_of_ble_eq_true rfl) (by decide) (cs_X10_next hG185 (oa_af h0 hA186) (fun _ _ _ _ h => h)) rfl (fun _ h => nomatch h) (fun S190 x195 h196 hx194 hG191 hB192 hA193 => ?_)
        refine tt_istore_n (ks := [0, 1, 2, 3]) (L' := [(2, .int x195), (0, .ref o0), (1, .int x1), (3, .int x135)]) dX10_read_75 (by decide) rfl ?_
        refine tt_aload_n (j := 1) dX10_read_76 rfl ?_
        refine tt_iload_n (j := 3) dX10_read_77 rfl ?_
        refine tt_bipush (v := 8) dX10_read_78 rfl ?_
        refine tt_iand dX10_read_80 ?_
        have B197 : ∀ (x198 : Int32), Rg 32 64 x198 → TT xi M_X10_read 91 [(0, .ref o0), (1, .int x1), (2, .int x195), (3, .int x135)] [.int x198, .ref o0] S190 kc nc P := by
          intro x198 h199
          refine gt_pI (id := 656) (x := x198) dX10_read_91 fl_10_127 rfl rfl h0 hA193 rfl rfl rfl (gp_I hG191) (by decide) (fun h => absurd h (by decide)) (fun h => absurd h (by decide)) (fun S200 hG201 hA202 e203 f204 er205 => ?_)
          refine tt_aload_n (j := 0) dX10_read_94 rfl ?_
          refine tt_getI (id := 662) dX10_read_95 fl_10_84 rfl rfl (ob_af h0 hA202) ?_
          refine tt_if_ne (tgt := 107) dX10_read_98 rfl (fun q206 => ?_) (fun q206 => ?_)
          · skip
            have h207 : Rg 1 1 (hp_I S200 662 o0) := rg_ne_lo (gi_I (k := 662) hG201 (oa_af h0 hA202) 0 1) (⟨by decide, by decide⟩ : Rg 0 0 0) q206
            exact tt_loc (ks := [0, 1]) rfl (ct_read hG201 (oa_af h0 hA202) (fun q => absurd q (rg_nec h207)) (fun r T x y h => hP r T x y (pv_tr hA202 h (by decide) (fun _ _ h => h))))
          · skip
            have h208 : Rg 0 0 (hp_I S200 662 o0) := rg_eq_l (gi_I (k := 662) hG201 (oa_af h0 hA202) 0 1) (⟨by decide, by decide⟩ : Rg 0 0 0) q206
            refine tt_aload_n (j := 0) dX10_read_101 rfl ?_
            refine tt_iload_n (j := 2) dX10_read_102 rfl ?_
            refine tt_iload_n (j := 3) dX10_read_103 rfl ?_
            refine gt_Vv (As := [.int x195, .int x135]) dX10_read_104 ca_X10_130 ⟨by decide, by decide⟩ h0 hA202 rfl (Nat.le_of_ble_eq_true rfl) (Nat.le_of_ble_eq_true rfl) (by decide) (cs_X10_readRest hG201 (oa_af h0 hA202) (rg_cast ((congrFun (congrFun e203 655) o0).trans ((congrFun (up2_ne (k := 655)) o0).trans ((i_af (k := 655) (oa_af h0 hA186) hB192).trans ((congrFun (congrFun e187 655) o0).trans ((congrFun (up2_ne (k := 655)) o0).trans ((i_af (k := 655) (oa_af h0 hA128) hB132).trans hx129.1)))))) (rg_w (⟨by decide, by decide⟩ : Rg 21 21 21))) (rg_cast ((congrFun (congrFun e203 658) o0).trans ((congrFun (up2_ne (k := 658)) o0).trans ((i_af (k := 658) (oa_af h0 hA186) hB192).trans ((congrFun (congrFun e187 658) o0).trans ((congrFun (up2_ne (k := 658)) o0).trans ((i_af (k := 658) (oa_af h0 hA128) hB132).trans hx129.2.2)))))) (rg_w (⟨by decide, by decide⟩ : Rg (-1) (-1) (-1)))) (fun _ _ _ _ h => h)) rfl (fun _ h => nomatch h) (fun S209 hx213 hG210 hB211 hA212 => ?_)
            exact tt_loc (ks := [0, 1]) rfl (ct_read hG210 (oa_af h0 hA212) hx213 (fun r T x y h => hP r T x y (pv_tr hA212 h (by decide) (fun _ _ h => h))))
        refine tt_if_eq (tgt := 89) dX10_read_81 rfl (fun q214 => ?_) (fun q214 => ?_)
        · skip
          have h215 : Rg 0 0 (x135 &&& 8) := rg_eq_l (rg_and (x := x135) (⟨by decide, by decide⟩ : Rg 8 8 8)) (⟨by decide, by decide⟩ : Rg 0 0 0) q214
          refine tt_bipush (v := 32) dX10_read_89 rfl ?_
          exact tt_loc (ks := [1, 2, 0, 3]) rfl (B197 32 (rg_w (⟨by decide, by decide⟩ : Rg 32 32 32)))
        · skip
          have h216 : Rg 1 8 (x135 &&& 8) := rg_ne_lo (rg_and (x := x135) (⟨by decide, by decide⟩ : Rg 8 8 8)) (⟨by decide, by decide⟩ : Rg 0 0 0) q214
          refine tt_bipush (v := 64) dX10_read_84 rfl ?_
          refine tt_goto (tgt := 91) dX10_read_86 rfl ?_
          exact tt_loc (ks := [1, 2, 0, 3]) rfl (B197 64 (rg_w (⟨by decide, by decide⟩ : Rg 64 64 64)))
      refine tt_if_ne (tgt := 63) dX10_read_54 rfl (fun q217 => ?_) (fun q217 => ?_)
      · skip
        have h218 : Rg 1 1 (hp_I S130 662 o0) := rg_ne_lo (gi_I (k := 662) hG131 (oa_af h0 hA133) 0 1) (⟨by decide, by decide⟩ : Rg 0 0 0) q217
        exact tt_loc (ks := [2, 3, 1, 0]) rfl (B183 )
      · skip
        have h219 : Rg 0 0 (hp_I S130 662 o0) := rg_eq_l (gi_I (k := 662) hG131 (oa_af h0 hA133) 0 1) (⟨by decide, by decide⟩ : Rg 0 0 0) q217
        refine tt_iload_n (j := 1) dX10_read_57 rfl ?_
        refine tt_iconst (v := 2) dX10_read_58 rfl ?_
        refine tt_iand dX10_read_59 ?_
        refine tt_if_eq (tgt := 67) dX10_read_60 rfl (fun q220 => ?_) (fun q220 => ?_)
        · skip
          have h221 : Rg 0 0 (x135 &&& 2) := rg_eq_l (rg_and (x := x135) (⟨by decide, by decide⟩ : Rg 2 2 2)) (⟨by decide, by decide⟩ : Rg 0 0 0) q220
          refine tt_iconst (v := 0) dX10_read_67 rfl ?_
          refine gt_pI (id := 662) (x := 0) dX10_read_68 fl_10_84 rfl rfl h0 hA133 rfl rfl rfl (gp_Ir hG131 (⟨by decide, by decide⟩ : Rg 0 0 0)) (by decide) (fun _ h => absurd (by decide) h) (fun h => absurd h (by decide)) (fun S222 hG223 hA224 e225 f226 er227 => ?_)
          refine tt_aload_n (j := 2) dX10_read_71 rfl ?_
          refine gt_VI (As := []) dX10_read_72 ca_X10_87 ⟨by decide, by decide⟩ h0 hA224 rfl (Nat.le_of_ble_eq_true rfl) (Nat.le_of_ble_eq_true rfl) (by decide) (cs_X10_next hG223 (oa_af h0 hA224) (fun _ _ _ _ h => h)) rfl (fun _ h => nomatch h) (fun S228 x233 h234 hx232 hG229 hB230 hA231 => ?_)
          refine tt_istore_n (ks := [0, 1, 2, 3]) (L' := [(2, .int x233), (3, .int x135), (0, .ref o0), (1, .int x1)]) dX10_read_75 (by decide) rfl ?_
          refine tt_aload_n (j := 2) dX10_read_76 rfl ?_
          refine tt_iload_n (j := 1) dX10_read_77 rfl ?_
          refine tt_bipush (v := 8) dX10_read_78 rfl ?_
          refine tt_iand dX10_read_80 ?_
          have B235 : ∀ (x236 : Int32), Rg 32 64 x236 → TT xi M_X10_read 91 [(0, .ref o0), (1, .int x1), (2, .int x233), (3, .int x135)] [.int x236, .ref o0] S228 kc nc P := by
            intro x236 h237
            refine gt_pI (id := 656) (x := x236) dX10_read_91 fl_10_127 rfl rfl h0 hA231 rfl rfl rfl (gp_I hG229) (by decide) (fun h => absurd h (by decide)) (fun h => absurd h (by decide)) (fun S238 hG239 hA240 e241 f242 er243 => ?_)
            refine tt_aload_n (j := 0) dX10_read_94 rfl ?_
            refine tt_getI (id := 662) dX10_read_95 fl_10_84 rfl rfl (ob_af h0 hA240) ?_
            refine tt_if_ne (tgt := 107) dX10_read_98 rfl (fun q244 => ?_) (fun q244 => ?_)
            · skip
              have h245 : Rg 1 1 (hp_I S238 662 o0) := rg_ne_lo (gi_I (k := 662) hG239 (oa_af h0 hA240) 0 1) (⟨by decide, by decide⟩ : Rg 0 0 0) q244
              exact tt_loc (ks := [0, 1]) rfl (ct_read hG239 (oa_af h0 hA240) (fun q => absurd q (rg_nec h245)) (fun r T x y h => hP r T x y (pv_tr hA240 h (by decide) (fun _ _ h => h))))
            · skip
              have h246 : Rg 0 0 (hp_I S238 662 o0) := rg_eq_l (gi_I (k := 662) hG239 (oa_af h0 hA240) 0 1) (⟨by decide, by decide⟩ : Rg 0 0 0) q244
              refine tt_aload_n (j := 0) dX10_read_101 rfl ?_
              refine tt_iload_n (j := 2) dX10_read_102 rfl ?_
              refine tt_iload_n (j := 3) dX10_read_103 rfl ?_
              refine gt_Vv (As := [.int x233, .int x135]) dX10_read_104 ca_X10_130 ⟨by decide, by decide⟩ h0 hA240 rfl (Nat.le_of_ble_eq_true rfl) (Nat.le_of_ble_eq_true rfl) (by decide) (cs_X10_readRest hG239 (oa_af h0 hA240) (rg_cast ((congrFun (congrFun e241 655) o0).trans ((congrFun (up2_ne (k := 655)) o0).trans ((i_af (k := 655) (oa_af h0 hA224) hB230).trans ((congrFun (congrFun e225 655) o0).trans ((congrFun (up2_ne (k := 655)) o0).trans ((i_af (k := 655) (oa_af h0 hA128) hB132).trans hx129.1)))))) (rg_w (⟨by decide, by decide⟩ : Rg 21 21 21))) (rg_cast ((congrFun (congrFun e241 658) o0).trans ((congrFun (up2_ne (k := 658)) o0).trans ((i_af (k := 658) (oa_af h0 hA224) hB230).trans ((congrFun (congrFun e225 658) o0).trans ((congrFun (up2_ne (k := 658)) o0).trans ((i_af (k := 658) (oa_af h0 hA128) hB132).trans hx129.2.2)))))) (rg_w (⟨by decide, by decide⟩ : Rg (-1) (-1) (-1)))) (fun _ _ _ _ h => h)) rfl (fun _ h => nomatch h) (fun S247 hx251 hG248 hB249 hA250 => ?_)
              exact tt_loc (ks := [0, 1]) rfl (ct_read hG248 (oa_af h0 hA250) hx251 (fun r T x y h => hP r T x y (pv_tr hA250 h (by decide) (fun _ _ h => h))))
          refine tt_if_eq (tgt := 89) dX10_read_81 rfl (fun q252 => ?_) (fun q252 => ?_)
          · skip
            have h253 : Rg 0 0 (x135 &&& 8) := rg_eq_l (rg_and (x := x135) (⟨by decide, by decide⟩ : Rg 8 8 8)) (⟨by decide, by decide⟩ : Rg 0 0 0) q252
            refine tt_bipush (v := 32) dX10_read_89 rfl ?_
            exact tt_loc (ks := [2, 3, 0, 1]) rfl (B235 32 (rg_w (⟨by decide, by decide⟩ : Rg 32 32 32)))
          · skip
            have h254 : Rg 1 8 (x135 &&& 8) := rg_ne_lo (rg_and (x := x135) (⟨by decide, by decide⟩ : Rg 8 8 8)) (⟨by decide, by decide⟩ : Rg 0 0 0) q252
            refine tt_bipush (v := 64) dX10_read_84 rfl ?_
            refine tt_goto (tgt := 91) dX10_read_86 rfl ?_
            exact tt_loc (ks := [2, 3, 0, 1]) rfl (B235 64 (rg_w (⟨by decide, by decide⟩ : Rg 64 64 64)))
        · skip
          have h255 : Rg 1 2 (x135 &&& 2) := rg_ne_lo (rg_and (x := x135) (⟨by decide, by decide⟩ : Rg 2 2 2)) (⟨by decide, by decide⟩ : Rg 0 0 0) q220
          exact tt_loc (ks := [2, 3, 1, 0]) rfl (B183 )
set_option maxHeartbeats 4000000 in
theorem cs_X10_decode {xi : SX} {S : Hp} {E : List Nat} {kc nc : Nat} {P : Po} {o0 : Nat} {x1 : Int32} {x2 : Int32} (hG : GI S E) (h0 : Oa S E 10 0 o0) (hP : ∀ r T x y, PV E [640, 654, 655, 656, 657, 658, 659, 661, 662, 672, 673, 674, 675, 9998] S kc nc (rI (-2147483648) 2147483647) ex0 [] r T x y → P r T x y) : TT xi M_X10_decode 0 [(0, .ref o0), (1, .int x1), (2, .int x2)] [] S kc nc P := by
  have hA : Af E [640, 654, 655, 656, 657, 658, 659, 661, 662, 672, 673, 674, 675, 9998] S S := af_rf
  refine tt_aload_n (j := 0) dX10_decode_0 rfl ?_
  refine tt_iload_n (j := 1) dX10_decode_1 rfl ?_
  refine tt_i2l dX10_decode_2 ?_
  refine tt_lconst (v := 0) dX10_decode_3 rfl ?_
  refine tt_aload_n (j := 0) dX10_decode_4 rfl ?_
  refine tt_getI (id := 642) dX10_decode_5 fl_10_71 rfl rfl (ob_af h0 hA) ?_
  refine tt_iconst (v := 1) dX10_decode_8 rfl ?_
  refine tt_isub dX10_decode_9 ?_
  refine tt_i2l dX10_decode_10 ?_
  refine gt_SIp (As := [.long (x1 : Int32).toInt64, .long 0, .long (((hp_I S 642 o0) - 1) : Int32).toInt64]) dX10_decode_11 ca_X10_67 ⟨by decide, by decide⟩ hA (Nat.le_of_ble_eq_true rfl) (Nat.le_of_ble_eq_true rfl) (by decide) (cs_X10_isIn hG  (fun _ _ _ _ h => h)) rfl (fun _ h => nomatch h) (fun _ _ q => q.1) (fun x106 h107 hx105 => ?_)
  refine tt_if_eq (tgt := 33) dX10_decode_14 rfl (fun q108 => ?_) (fun q108 => ?_)
  · skip
    have h109 : Rg 0 0 x106 := rg_eq_l h107 (⟨by decide, by decide⟩ : Rg 0 0 0) q108
    refine tt_iconst (v := 1) dX10_decode_33 rfl ?_
    refine gt_VI (As := [.int 1]) dX10_decode_34 ca_X10_74 ⟨by decide, by decide⟩ h0 hA rfl (Nat.le_of_ble_eq_true rfl) (Nat.le_of_ble_eq_true rfl) (by decide) (cs_X10_refused hG (oa_af h0 hA) (fun _ _ _ _ h => h)) rfl (fun _ h => nomatch h) (fun S110 x115 h116 hx114 hG111 hB112 hA113 => ?_)
    obtain rfl := (hx114.1 _ rfl).trans (show bI (0 < (1 : Int32)) = 1 by decide)
    refine tt_if_eq (tgt := 42) dX10_decode_37 rfl (fun q => absurd q (by decide)) (fun _ => ?_)
    refine tt_iconst (v := 0) dX10_decode_40 rfl ?_
    exact tt_ireturn dX10_decode_41 .int rfl rfl (hP _ _ _ _ ⟨hG111, hA113, Or.inl ⟨_, rfl, ⟨_, rfl, rg_w (⟨by decide, by decide⟩ : Rg 0 0 0)⟩, trivial, rfl, rfl⟩⟩)
  · skip
    have h117 : Rg 1 1 x106 := rg_ne_lo h107 (⟨by decide, by decide⟩ : Rg 0 0 0) q108
    have h118 : Rl 0 199 (x1 : Int32).toInt64 := in_rl ((fun z e => (hx105.2 z e).1) _ rfl q108) (⟨by decide, by decide⟩ : Rl 0 0 0) (rg_i2l (rg_sub (lo := (-1)) (hi := 199) (gi_I (k := 642) hG (oa_af h0 hA) 0 200) (⟨by decide, by decide⟩ : Rg 1 1 1)))
    have h119 : Rg 0 199 x1 := rg_of_l h118
    refine tt_iload_n (j := 2) dX10_decode_17 rfl ?_
    refine tt_i2l dX10_decode_18 ?_
    refine tt_lconst (v := 0) dX10_decode_19 rfl ?_
    refine tt_ldc2 (v := 5) dX10_decode_20 kl_10_153 ?_
    refine gt_SIp (As := [.long (x2 : Int32).toInt64, .long 0, .long 5]) dX10_decode_23 ca_X10_67 ⟨by decide, by decide⟩ hA (Nat.le_of_ble_eq_true rfl) (Nat.le_of_ble_eq_true rfl) (by decide) (cs_X10_isIn hG  (fun _ _ _ _ h => h)) rfl (fun _ h => nomatch h) (fun _ _ q => q.1) (fun x125 h126 hx124 => ?_)
    refine tt_if_eq (tgt := 33) dX10_decode_26 rfl (fun q127 => ?_) (fun q127 => ?_)
    · skip
      have h128 : Rg 0 0 x125 := rg_eq_l h126 (⟨by decide, by decide⟩ : Rg 0 0 0) q127
      refine tt_iconst (v := 1) dX10_decode_33 rfl ?_
      refine gt_VI (As := [.int 1]) dX10_decode_34 ca_X10_74 ⟨by decide, by decide⟩ h0 hA rfl (Nat.le_of_ble_eq_true rfl) (Nat.le_of_ble_eq_true rfl) (by decide) (cs_X10_refused hG (oa_af h0 hA) (fun _ _ _ _ h => h)) rfl (fun _ h => nomatch h) (fun S129 x134 h135 hx133 hG130 hB131 hA132 => ?_)
      obtain rfl := (hx133.1 _ rfl).trans (show bI (0 < (1 : Int32)) = 1 by decide)
      refine tt_if_eq (tgt := 42) dX10_decode_37 rfl (fun q => absurd q (by decide)) (fun _ => ?_)
      refine tt_iconst (v := 0) dX10_decode_40 rfl ?_
      exact tt_ireturn dX10_decode_41 .int rfl rfl (hP _ _ _ _ ⟨hG130, hA132, Or.inl ⟨_, rfl, ⟨_, rfl, rg_w (⟨by decide, by decide⟩ : Rg 0 0 0)⟩, trivial, rfl, rfl⟩⟩)
    · skip
      have h136 : Rg 1 1 x125 := rg_ne_lo h126 (⟨by decide, by decide⟩ : Rg 0 0 0) q127
      have h137 : Rl 0 5 (x2 : Int32).toInt64 := in_rl ((fun z e => (hx124.2 z e).1) _ rfl q127) (⟨by decide, by decide⟩ : Rl 0 0 0) (⟨by decide, by decide⟩ : Rl 5 5 5)
      have h138 : Rg 0 5 x2 := rg_of_l h137
      refine tt_iconst (v := 0) dX10_decode_29 rfl ?_
      refine tt_goto (tgt := 34) dX10_decode_30 rfl ?_
      refine gt_VI (As := [.int 0]) dX10_decode_34 ca_X10_74 ⟨by decide, by decide⟩ h0 hA rfl (Nat.le_of_ble_eq_true rfl) (Nat.le_of_ble_eq_true rfl) (by decide) (cs_X10_refused hG (oa_af h0 hA) (fun _ _ _ _ h => h)) rfl (fun _ h => nomatch h) (fun S139 x144 h145 hx143 hG140 hB141 hA142 => ?_)
      obtain rfl := (hx143.1 _ rfl).trans (show bI (0 < (0 : Int32)) = 0 by decide)
      refine tt_if_eq (tgt := 42) dX10_decode_37 rfl (fun _ => ?_) (fun q => absurd q (by decide))
      refine tt_aload_n (j := 0) dX10_decode_42 rfl ?_
      refine tt_iload_n (j := 1) dX10_decode_43 rfl ?_
      refine gt_VI (As := [.int x1]) dX10_decode_44 ca_X10_155 ⟨by decide, by decide⟩ h0 hA142 rfl (Nat.le_of_ble_eq_true rfl) (Nat.le_of_ble_eq_true rfl) (by decide) (cs_X10_read hG140 (oa_af h0 hA142) (rg_w h119) (fun _ _ _ _ h => h)) rfl (fun _ h => nomatch h) (fun S146 x151 h152 hx150 hG147 hB148 hA149 => ?_)
      refine tt_if_ne (tgt := 52) dX10_decode_47 rfl (fun q153 => ?_) (fun q153 => ?_)
      · skip
        have h154 : Rg 1 1 x151 := rg_ne_lo h152 (⟨by decide, by decide⟩ : Rg 0 0 0) q153
        have hE155 := (hx150 _ rfl q153)
        refine tt_iload_n (j := 2) dX10_decode_52 rfl ?_
        refine tt_if_ne (tgt := 63) dX10_decode_53 rfl (fun q156 => ?_) (fun q156 => ?_)
        · skip
          have h157 : Rg 1 5 x2 := rg_ne_lo h138 (⟨by decide, by decide⟩ : Rg 0 0 0) q156
          refine tt_iload_n (j := 2) dX10_decode_63 rfl ?_
          refine tt_iconst (v := 1) dX10_decode_64 rfl ?_
          refine tt_icmp_ne (tgt := 75) dX10_decode_65 rfl (fun q158 => ?_) (fun q158 => ?_)
          · skip
            have h159 : Rg 2 5 x2 := rg_ne_lo h157 (⟨by decide, by decide⟩ : Rg 1 1 1) q158
            refine tt_iload_n (j := 2) dX10_decode_75 rfl ?_
            refine tt_iconst (v := 2) dX10_decode_76 rfl ?_
            refine tt_icmp_ne (tgt := 87) dX10_decode_77 rfl (fun q160 => ?_) (fun q160 => ?_)
            · skip
              have h161 : Rg 3 5 x2 := rg_ne_lo h159 (⟨by decide, by decide⟩ : Rg 2 2 2) q160
              refine tt_iload_n (j := 2) dX10_decode_87 rfl ?_
              refine tt_iconst (v := 3) dX10_decode_88 rfl ?_
              refine tt_icmp_ne (tgt := 99) dX10_decode_89 rfl (fun q162 => ?_) (fun q162 => ?_)
              · skip
                have h163 : Rg 4 5 x2 := rg_ne_lo h161 (⟨by decide, by decide⟩ : Rg 3 3 3) q162
                refine tt_iload_n (j := 2) dX10_decode_99 rfl ?_
                refine tt_iconst (v := 4) dX10_decode_100 rfl ?_
                refine tt_icmp_ne (tgt := 111) dX10_decode_101 rfl (fun q164 => ?_) (fun q164 => ?_)
                · skip
                  have h165 : Rg 5 5 x2 := rg_ne_lo h163 (⟨by decide, by decide⟩ : Rg 4 4 4) q164
                  refine tt_aload_n (j := 0) dX10_decode_111 rfl ?_
                  refine tt_getI (id := 659) dX10_decode_112 fl_10_120 rfl rfl (ob_af h0 hA149) ?_
                  exact tt_ireturn dX10_decode_115 .int rfl rfl (hP _ _ _ _ ⟨hG147, hA149, Or.inl ⟨_, rfl, ⟨_, rfl, rg_w (rg_all (hp_I S146 659 o0))⟩, trivial, rfl, rfl⟩⟩)
                · skip
                  have h166 : Rg 4 4 x2 := rg_eq_l h163 (⟨by decide, by decide⟩ : Rg 4 4 4) q164
                  refine tt_aload_n (j := 0) dX10_decode_104 rfl ?_
                  refine tt_getI (id := 658) dX10_decode_105 fl_10_113 rfl rfl (ob_af h0 hA149) ?_
                  refine tt_goto (tgt := 115) dX10_decode_108 rfl ?_
                  exact tt_ireturn dX10_decode_115 .int rfl rfl (hP _ _ _ _ ⟨hG147, hA149, Or.inl ⟨_, rfl, ⟨_, rfl, rg_w (rg_all (hp_I S146 658 o0))⟩, trivial, rfl, rfl⟩⟩)
              · skip
                have h167 : Rg 3 3 x2 := rg_eq_l h161 (⟨by decide, by decide⟩ : Rg 3 3 3) q162
                refine tt_aload_n (j := 0) dX10_decode_92 rfl ?_
                refine tt_getI (id := 657) dX10_decode_93 fl_10_110 rfl rfl (ob_af h0 hA149) ?_
                refine tt_goto (tgt := 115) dX10_decode_96 rfl ?_
                exact tt_ireturn dX10_decode_115 .int rfl rfl (hP _ _ _ _ ⟨hG147, hA149, Or.inl ⟨_, rfl, ⟨_, rfl, rg_w (rg_all (hp_I S146 657 o0))⟩, trivial, rfl, rfl⟩⟩)
            · skip
              have h168 : Rg 2 2 x2 := rg_eq_l h159 (⟨by decide, by decide⟩ : Rg 2 2 2) q160
              refine tt_aload_n (j := 0) dX10_decode_80 rfl ?_
              refine tt_getI (id := 656) dX10_decode_81 fl_10_127 rfl rfl (ob_af h0 hA149) ?_
              refine tt_goto (tgt := 115) dX10_decode_84 rfl ?_
              exact tt_ireturn dX10_decode_115 .int rfl rfl (hP _ _ _ _ ⟨hG147, hA149, Or.inl ⟨_, rfl, ⟨_, rfl, rg_w (rg_all (hp_I S146 656 o0))⟩, trivial, rfl, rfl⟩⟩)
          · skip
            have h169 : Rg 1 1 x2 := rg_eq_l h157 (⟨by decide, by decide⟩ : Rg 1 1 1) q158
            refine tt_aload_n (j := 0) dX10_decode_68 rfl ?_
            refine tt_getI (id := 655) dX10_decode_69 fl_10_107 rfl rfl (ob_af h0 hA149) ?_
            refine tt_goto (tgt := 115) dX10_decode_72 rfl ?_
            exact tt_ireturn dX10_decode_115 .int rfl rfl (hP _ _ _ _ ⟨hG147, hA149, Or.inl ⟨_, rfl, ⟨_, rfl, rg_w (rg_all (hp_I S146 655 o0))⟩, trivial, rfl, rfl⟩⟩)
        · skip
          have h170 : Rg 0 0 x2 := rg_eq_l h138 (⟨by decide, by decide⟩ : Rg 0 0 0) q156
          refine tt_aload_n (j := 0) dX10_decode_56 rfl ?_
          refine tt_getI (id := 661) dX10_decode_57 fl_10_134 rfl rfl (ob_af h0 hA149) ?_
          refine tt_goto (tgt := 115) dX10_decode_60 rfl ?_
          exact tt_ireturn dX10_decode_115 .int rfl rfl (hP _ _ _ _ ⟨hG147, hA149, Or.inl ⟨_, rfl, ⟨_, rfl, rg_w (rg_all (hp_I S146 661 o0))⟩, trivial, rfl, rfl⟩⟩)
      · skip
        have h171 : Rg 0 0 x151 := rg_eq_l h152 (⟨by decide, by decide⟩ : Rg 0 0 0) q153
        refine tt_iconst (v := (-1)) dX10_decode_50 rfl ?_
        exact tt_ireturn dX10_decode_51 .int rfl rfl (hP _ _ _ _ ⟨hG147, hA149, Or.inl ⟨_, rfl, ⟨_, rfl, rg_w (⟨by decide, by decide⟩ : Rg (-1) (-1) (-1))⟩, trivial, rfl, rfl⟩⟩)
set_option maxHeartbeats 4000000 in
theorem cs_X10_constant {xi : SX} {S : Hp} {E : List Nat} {kc nc : Nat} {P : Po} {o0 : Nat} {x1 : Int32} (hG : GI S E) (h0 : Oa S E 10 0 o0) (hP : ∀ r T x y, PV E [640, 654, 655, 656, 657, 658, 659, 661, 662, 672, 673, 674, 675, 9998] S kc nc rJ ex0 [] r T x y → P r T x y) : TT xi M_X10_constant 0 [(0, .ref o0), (1, .int x1)] [] S kc nc P := by
  have hA : Af E [640, 654, 655, 656, 657, 658, 659, 661, 662, 672, 673, 674, 675, 9998] S S := af_rf
  refine tt_aload_n (j := 0) dX10_constant_0 rfl ?_
  refine tt_iload_n (j := 1) dX10_constant_1 rfl ?_
  refine tt_i2l dX10_constant_2 ?_
  refine tt_lconst (v := 0) dX10_constant_3 rfl ?_
  refine tt_aload_n (j := 0) dX10_constant_4 rfl ?_
  refine tt_getI (id := 642) dX10_constant_5 fl_10_71 rfl rfl (ob_af h0 hA) ?_
  refine tt_iconst (v := 1) dX10_constant_8 rfl ?_
  refine tt_isub dX10_constant_9 ?_
  refine tt_i2l dX10_constant_10 ?_
  refine gt_SIp (As := [.long (x1 : Int32).toInt64, .long 0, .long (((hp_I S 642 o0) - 1) : Int32).toInt64]) dX10_constant_11 ca_X10_67 ⟨by decide, by decide⟩ hA (Nat.le_of_ble_eq_true rfl) (Nat.le_of_ble_eq_true rfl) (by decide) (cs_X10_isIn hG  (fun _ _ _ _ h => h)) rfl (fun _ h => nomatch h) (fun _ _ q => q.1) (fun x106 h107 hx105 => ?_)
  refine tt_if_eq (tgt := 21) dX10_constant_14 rfl (fun q108 => ?_) (fun q108 => ?_)
  · skip
    have h109 : Rg 0 0 x106 := rg_eq_l h107 (⟨by decide, by decide⟩ : Rg 0 0 0) q108
    refine tt_iconst (v := 1) dX10_constant_21 rfl ?_
    refine gt_VI (As := [.int 1]) dX10_constant_22 ca_X10_74 ⟨by decide, by decide⟩ h0 hA rfl (Nat.le_of_ble_eq_true rfl) (Nat.le_of_ble_eq_true rfl) (by decide) (cs_X10_refused hG (oa_af h0 hA) (fun _ _ _ _ h => h)) rfl (fun _ h => nomatch h) (fun S110 x115 h116 hx114 hG111 hB112 hA113 => ?_)
    obtain rfl := (hx114.1 _ rfl).trans (show bI (0 < (1 : Int32)) = 1 by decide)
    refine tt_if_eq (tgt := 30) dX10_constant_25 rfl (fun q => absurd q (by decide)) (fun _ => ?_)
    refine tt_lconst (v := 0) dX10_constant_28 rfl ?_
    exact tt_lreturn dX10_constant_29 rfl (hP _ _ _ _ ⟨hG111, hA113, Or.inl ⟨_, rfl, ⟨_, rfl⟩, trivial, rfl, rfl⟩⟩)
  · skip
    have h117 : Rg 1 1 x106 := rg_ne_lo h107 (⟨by decide, by decide⟩ : Rg 0 0 0) q108
    have h118 : Rl 0 199 (x1 : Int32).toInt64 := in_rl ((fun z e => (hx105.2 z e).1) _ rfl q108) (⟨by decide, by decide⟩ : Rl 0 0 0) (rg_i2l (rg_sub (lo := (-1)) (hi := 199) (gi_I (k := 642) hG (oa_af h0 hA) 0 200) (⟨by decide, by decide⟩ : Rg 1 1 1)))
    have h119 : Rg 0 199 x1 := rg_of_l h118
    refine tt_iconst (v := 0) dX10_constant_17 rfl ?_
    refine tt_goto (tgt := 22) dX10_constant_18 rfl ?_
    refine gt_VI (As := [.int 0]) dX10_constant_22 ca_X10_74 ⟨by decide, by decide⟩ h0 hA rfl (Nat.le_of_ble_eq_true rfl) (Nat.le_of_ble_eq_true rfl) (by decide) (cs_X10_refused hG (oa_af h0 hA) (fun _ _ _ _ h => h)) rfl (fun _ h => nomatch h) (fun S120 x125 h126 hx124 hG121 hB122 hA123 => ?_)
    obtain rfl := (hx124.1 _ rfl).trans (show bI (0 < (0 : Int32)) = 0 by decide)
    refine tt_if_eq (tgt := 30) dX10_constant_25 rfl (fun _ => ?_) (fun q => absurd q (by decide))
    refine tt_aload_n (j := 0) dX10_constant_30 rfl ?_
    refine tt_iload_n (j := 1) dX10_constant_31 rfl ?_
    refine gt_VI (As := [.int x1]) dX10_constant_32 ca_X10_155 ⟨by decide, by decide⟩ h0 hA123 rfl (Nat.le_of_ble_eq_true rfl) (Nat.le_of_ble_eq_true rfl) (by decide) (cs_X10_read hG121 (oa_af h0 hA123) (rg_w h119) (fun _ _ _ _ h => h)) rfl (fun _ h => nomatch h) (fun S127 x132 h133 hx131 hG128 hB129 hA130 => ?_)
    refine tt_if_eq (tgt := 45) dX10_constant_35 rfl (fun q134 => ?_) (fun q134 => ?_)
    · skip
      have h135 : Rg 0 0 x132 := rg_eq_l h133 (⟨by decide, by decide⟩ : Rg 0 0 0) q134
      refine tt_lconst (v := 0) dX10_constant_45 rfl ?_
      exact tt_lreturn dX10_constant_46 rfl (hP _ _ _ _ ⟨hG128, hA130, Or.inl ⟨_, rfl, ⟨_, rfl⟩, trivial, rfl, rfl⟩⟩)
    · skip
      have h136 : Rg 1 1 x132 := rg_ne_lo h133 (⟨by decide, by decide⟩ : Rg 0 0 0) q134
      have hE137 := (hx131 _ rfl q134)
      refine tt_aload_n (j := 0) dX10_constant_38 rfl ?_
      refine gt_gJ (id := 660) (v := (hp_J S127 660 o0)) dX10_constant_39 fl_10_116 rfl rfl h0 hA130 rfl ?_
      refine tt_goto (tgt := 46) dX10_constant_42 rfl ?_
      exact tt_lreturn dX10_constant_46 rfl (hP _ _ _ _ ⟨hG128, hA130, Or.inl ⟨_, rfl, ⟨_, rfl⟩, trivial, rfl, rfl⟩⟩)
set_option maxHeartbeats 4000000 in
theorem cs_X10_act {xi : SX} {S : Hp} {E : List Nat} {kc nc : Nat} {P : Po} {o0 : Nat} {x1 : Int32} (hG : GI S E) (h0 : Oa S E 10 0 o0) (g657 : Rg 0 23 (hp_I S 657 o0)) (g658 : Rg (-1) 23 (hp_I S 658 o0)) (hP : ∀ r T x y, PV E [9988, 9989] S kc nc rV ex0 [] r T x y → P r T x y) : TT xi M_X10_act 0 [(0, .ref o0), (1, .int x1)] [] S kc nc P := by
  have hA : Af E [9988, 9989] S S := af_rf
  refine tt_aload_n (j := 0) dX10_act_0 rfl ?_
  refine tt_getI (id := 656) dX10_act_1 fl_10_127 rfl rfl (ob_af h0 hA) ?_
  refine tt_bipush (v := 32) dX10_act_4 rfl ?_
  have B101 : ∀ (x102 : Int32), Rg 0 1 x102 → TT xi M_X10_act 14 [(0, .ref o0), (1, .int x1)] [.int x102] S kc nc P := by
    intro x102 h103
    refine tt_istore_n (ks := [0, 1, 2]) (L' := [(2, .int x102), (0, .ref o0), (1, .int x1)]) dX10_act_14 (by decide) rfl ?_
    refine tt_aload_n (j := 1) dX10_act_15 rfl ?_
    refine tt_sipush (v := 4848) dX10_act_16 rfl ?_
    refine tt_sipush (v := 4856) dX10_act_19 rfl ?_
    refine tt_aload_n (j := 1) dX10_act_22 rfl ?_
    refine tt_getI (id := 657) dX10_act_23 fl_10_110 rfl rfl (ob_af h0 hA) ?_
    refine tt_iadd dX10_act_26 ?_
    refine gt_Vv (As := [.int 4848, .int (4856 + (hp_I S 657 o0))]) dX10_act_27 ca_X10_169 ⟨by decide, by decide⟩ h0 hA rfl (Nat.le_of_ble_eq_true rfl) (Nat.le_of_ble_eq_true rfl) (by decide) (cs_X10_copy hG (oa_af h0 hA) (rg_w (⟨by decide, by decide⟩ : Rg 4848 4848 4848)) (rg_w (rg_add (lo := 4856) (hi := 4879) (⟨by decide, by decide⟩ : Rg 4856 4856 4856) g657)) (fun _ _ _ _ h => h)) rfl (fun _ h => nomatch h) (fun S104 hx108 hG105 hB106 hA107 => ?_)
    refine tt_aload_n (j := 1) dX10_act_30 rfl ?_
    refine tt_sipush (v := 4849) dX10_act_31 rfl ?_
    refine gt_Vv (As := [.int 4849]) dX10_act_34 ca_X10_215 ⟨by decide, by decide⟩ h0 hA107 rfl (Nat.le_of_ble_eq_true rfl) (Nat.le_of_ble_eq_true rfl) (by decide) (cs_X10_operand hG105 (oa_af h0 hA107) (rg_w (⟨by decide, by decide⟩ : Rg 4849 4849 4849)) (rg_cast (i_af (k := 658) h0 hA107) (rg_w g658)) (fun _ _ _ _ h => h)) rfl (fun _ h => nomatch h) (fun S109 hx113 hG110 hB111 hA112 => ?_)
    refine tt_aload_n (j := 1) dX10_act_37 rfl ?_
    refine gt_gI (id := 655) (v := (hp_I S 655 o0)) dX10_act_38 fl_10_107 rfl rfl h0 hA112 (i_af (k := 655) h0 hA112) ?_
    refine tt_bipush (v := 17) dX10_act_41 rfl ?_
    have B114 : ∀ (x115 : Int32), Rg 0 1 x115 → TT xi M_X10_act 60 [(0, .ref o0), (1, .int x1), (2, .int x102)] [.int x115] S109 kc nc P := by
      intro x115 h116
      refine tt_istore_n (ks := [0, 1, 2, 3]) (L' := [(3, .int x115), (0, .ref o0), (1, .int x1), (2, .int x102)]) dX10_act_60 (by decide) rfl ?_
      refine tt_iload_n (j := 3) dX10_act_61 rfl ?_
      have B117 : ∀ (S118 : Hp), GI S118 E → Af E [9988, 9989] S S118 → TT xi M_X10_act 81 [(0, .ref o0), (1, .int x1), (2, .int x102), (3, .int x115)] [] S118 kc nc P := by
        intro S118 hG119 hA120
        refine tt_aload_n (j := 0) dX10_act_81 rfl ?_
        refine gt_gI (id := 655) (v := (hp_I S 655 o0)) dX10_act_82 fl_10_107 rfl rfl h0 hA120 (i_af (k := 655) h0 hA120) ?_
        refine tt_bipush (v := 6) dX10_act_85 rfl ?_
        have B121 : ∀ (x122 : Int32), Rg 0 1 x122 → TT xi M_X10_act 114 [(0, .ref o0), (1, .int x1), (2, .int x102), (3, .int x115)] [.int x122] S118 kc nc P := by
          intro x122 h123
          refine tt_istore (ks := [0, 1, 2, 3, 4]) (L' := [(4, .int x122), (0, .ref o0), (1, .int x1), (2, .int x102), (3, .int x115)]) dX10_act_114 (by decide) rfl ?_
          refine tt_iload (j := 0) dX10_act_116 rfl ?_
          have B124 : ∀ (S125 : Hp), GI S125 E → Af E [9988, 9989] S S125 → TT xi M_X10_act 136 [(0, .ref o0), (1, .int x1), (2, .int x102), (3, .int x115), (4, .int x122)] [] S125 kc nc P := by
            intro S125 hG126 hA127
            refine tt_iload_n (j := 2) dX10_act_136 rfl ?_
            have B128 : ∀ (S129 : Hp), GI S129 E → Af E [9988, 9989] S S129 → TT xi M_X10_act 160 [(0, .ref o0), (1, .int x1), (2, .int x102), (3, .int x115), (4, .int x122)] [] S129 kc nc P := by
              intro S129 hG130 hA131
              refine tt_aload_n (j := 0) dX10_act_160 rfl ?_
              refine gt_gI (id := 655) (v := (hp_I S 655 o0)) dX10_act_161 fl_10_107 rfl rfl h0 hA131 (i_af (k := 655) h0 hA131) ?_
              refine tt_bipush (v := 7) dX10_act_164 rfl ?_
              have B132 : ∀ (S133 : Hp), GI S133 E → Af E [9988, 9989] S S133 → TT xi M_X10_act 193 [(0, .ref o0), (1, .int x1), (2, .int x102), (3, .int x115), (4, .int x122)] [] S133 kc nc P := by
                intro S133 hG134 hA135
                refine tt_aload_n (j := 0) dX10_act_193 rfl ?_
                refine gt_Vv (As := []) dX10_act_194 ca_X10_225 ⟨by decide, by decide⟩ h0 hA135 rfl (Nat.le_of_ble_eq_true rfl) (Nat.le_of_ble_eq_true rfl) (by decide) (cs_X10_note hG134 (oa_af h0 hA135) (rg_cast (i_af (k := 657) h0 hA135) (rg_w g657)) (rg_cast (i_af (k := 658) h0 hA135) (rg_w g658)) (fun _ _ _ _ h => h)) rfl (fun _ h => nomatch h) (fun S136 hx140 hG137 hB138 hA139 => ?_)
                exact tt_vreturn dX10_act_197 rfl (hP _ _ _ _ ⟨hG137, hA139, Or.inl ⟨_, rfl, rfl, trivial, rfl, rfl⟩⟩)
              refine tt_icmp_eq (tgt := 193) dX10_act_166 rfl (fun q141 => ?_) (fun q141 => ?_)
              · skip
                have h142 : Rg 7 7 (hp_I S 655 o0) := rg_eq_l (rg_all (hp_I S 655 o0)) (⟨by decide, by decide⟩ : Rg 7 7 7) q141
                exact B132 S129 hG130 hA131
              · skip
                refine tt_aload_n (j := 0) dX10_act_169 rfl ?_
                refine gt_gI (id := 655) (v := (hp_I S 655 o0)) dX10_act_170 fl_10_107 rfl rfl h0 hA131 (i_af (k := 655) h0 hA131) ?_
                refine tt_bipush (v := 8) dX10_act_173 rfl ?_
                refine tt_icmp_eq (tgt := 193) dX10_act_175 rfl (fun q143 => ?_) (fun q143 => ?_)
                · skip
                  have h144 : Rg 8 8 (hp_I S 655 o0) := rg_eq_l (rg_all (hp_I S 655 o0)) (⟨by decide, by decide⟩ : Rg 8 8 8) q143
                  exact B132 S129 hG130 hA131
                · skip
                  refine tt_aload_n (j := 0) dX10_act_178 rfl ?_
                  refine tt_sipush (v := 4856) dX10_act_179 rfl ?_
                  refine tt_aload_n (j := 0) dX10_act_182 rfl ?_
                  refine gt_gI (id := 657) (v := (hp_I S 657 o0)) dX10_act_183 fl_10_110 rfl rfl h0 hA131 (i_af (k := 657) h0 hA131) ?_
                  refine tt_iadd dX10_act_186 ?_
                  refine tt_sipush (v := 4850) dX10_act_187 rfl ?_
                  refine gt_Vv (As := [.int (4856 + (hp_I S 657 o0)), .int 4850]) dX10_act_190 ca_X10_169 ⟨by decide, by decide⟩ h0 hA131 rfl (Nat.le_of_ble_eq_true rfl) (Nat.le_of_ble_eq_true rfl) (by decide) (cs_X10_copy hG130 (oa_af h0 hA131) (rg_w (rg_add (lo := 4856) (hi := 4879) (⟨by decide, by decide⟩ : Rg 4856 4856 4856) g657)) (rg_w (⟨by decide, by decide⟩ : Rg 4850 4850 4850)) (fun _ _ _ _ h => h)) rfl (fun _ h => nomatch h) (fun S145 hx149 hG146 hB147 hA148 => ?_)
                  exact B132 S145 hG146 hA148
            refine tt_if_eq (tgt := 160) dX10_act_137 rfl (fun q150 => ?_) (fun q150 => ?_)
            · skip
              have h151 : Rg 0 0 x102 := rg_eq_l h103 (⟨by decide, by decide⟩ : Rg 0 0 0) q150
              exact B128 S125 hG126 hA127
            · skip
              have h152 : Rg 1 1 x102 := rg_ne_lo h103 (⟨by decide, by decide⟩ : Rg 0 0 0) q150
              refine tt_aload_n (j := 0) dX10_act_140 rfl ?_
              refine tt_sipush (v := 4851) dX10_act_141 rfl ?_
              refine tt_sipush (v := 4850) dX10_act_144 rfl ?_
              refine gt_Vv (As := [.int 4851, .int 4850]) dX10_act_147 ca_X10_169 ⟨by decide, by decide⟩ h0 hA127 rfl (Nat.le_of_ble_eq_true rfl) (Nat.le_of_ble_eq_true rfl) (by decide) (cs_X10_copy hG126 (oa_af h0 hA127) (rg_w (⟨by decide, by decide⟩ : Rg 4851 4851 4851)) (rg_w (⟨by decide, by decide⟩ : Rg 4850 4850 4850)) (fun _ _ _ _ h => h)) rfl (fun _ h => nomatch h) (fun S153 hx157 hG154 hB155 hA156 => ?_)
              refine tt_aload_n (j := 0) dX10_act_150 rfl ?_
              refine tt_sipush (v := 4850) dX10_act_151 rfl ?_
              refine tt_sipush (v := 4851) dX10_act_154 rfl ?_
              refine gt_Vv (As := [.int 4850, .int 4851]) dX10_act_157 ca_X10_210 ⟨by decide, by decide⟩ h0 hA156 rfl (Nat.le_of_ble_eq_true rfl) (Nat.le_of_ble_eq_true rfl) (by decide) (cs_X10_lowPart hG154 (oa_af h0 hA156) (rg_w (⟨by decide, by decide⟩ : Rg 4850 4850 4850)) (rg_w (⟨by decide, by decide⟩ : Rg 4851 4851 4851)) (fun _ _ _ _ h => h)) rfl (fun _ h => nomatch h) (fun S158 hx162 hG159 hB160 hA161 => ?_)
              exact B128 S158 hG159 hA161
          refine tt_if_eq (tgt := 132) dX10_act_118 rfl (fun q163 => ?_) (fun q163 => ?_)
          · skip
            have h164 : Rg 0 0 x122 := rg_eq_l h123 (⟨by decide, by decide⟩ : Rg 0 0 0) q163
            refine tt_aload_n (j := 1) dX10_act_132 rfl ?_
            refine gt_Vv (As := []) dX10_act_133 ca_X10_222 ⟨by decide, by decide⟩ h0 hA120 rfl (Nat.le_of_ble_eq_true rfl) (Nat.le_of_ble_eq_true rfl) (by decide) (cs_X10_work hG119 (oa_af h0 hA120) (fun _ _ _ _ h => h)) rfl (fun _ h => nomatch h) (fun S165 hx169 hG166 hB167 hA168 => ?_)
            exact tt_loc (ks := [1, 2, 3, 4, 0]) rfl (B124 S165 hG166 hA168)
          · skip
            have h170 : Rg 1 1 x122 := rg_ne_lo h123 (⟨by decide, by decide⟩ : Rg 0 0 0) q163
            refine tt_aload_n (j := 1) dX10_act_121 rfl ?_
            refine tt_sipush (v := 4850) dX10_act_122 rfl ?_
            refine tt_lconst (v := 0) dX10_act_125 rfl ?_
            refine gt_Vv (As := [.int 4850, .long 0]) dX10_act_126 ca_X10_193 ⟨by decide, by decide⟩ h0 hA120 rfl (Nat.le_of_ble_eq_true rfl) (Nat.le_of_ble_eq_true rfl) (by decide) (cs_X10_one hG119 (oa_af h0 hA120) (rg_w (⟨by decide, by decide⟩ : Rg 4850 4850 4850)) (fun _ _ _ _ h => h)) rfl (fun _ h => nomatch h) (fun S171 hx175 hG172 hB173 hA174 => ?_)
            refine tt_goto (tgt := 136) dX10_act_129 rfl ?_
            exact tt_loc (ks := [1, 2, 3, 4, 0]) rfl (B124 S171 hG172 hA174)
        have B176 : TT xi M_X10_act 113 [(0, .ref o0), (1, .int x1), (2, .int x102), (3, .int x115)] [] S118 kc nc P := by
          refine tt_iconst (v := 0) dX10_act_113 rfl ?_
          exact B121 0 (rg_w (⟨by decide, by decide⟩ : Rg 0 0 0))
        have B177 : TT xi M_X10_act 98 [(0, .ref o0), (1, .int x1), (2, .int x102), (3, .int x115)] [] S118 kc nc P := by
          refine tt_aload_n (j := 0) dX10_act_98 rfl ?_
          refine gt_gI (id := 658) (v := (hp_I S 658 o0)) dX10_act_99 fl_10_113 rfl rfl h0 hA120 (i_af (k := 658) h0 hA120) ?_
          refine tt_aload_n (j := 0) dX10_act_102 rfl ?_
          refine gt_gI (id := 657) (v := (hp_I S 657 o0)) dX10_act_103 fl_10_110 rfl rfl h0 hA120 (i_af (k := 657) h0 hA120) ?_
          refine tt_icmp_ne (tgt := 113) dX10_act_106 rfl (fun q178 => ?_) (fun q178 => ?_)
          · skip
            exact B176 
          · skip
            have h179 : Rg 0 23 (hp_I S 658 o0) := rg_eq_l g658 g657 q178
            refine tt_iconst (v := 1) dX10_act_109 rfl ?_
            refine tt_goto (tgt := 114) dX10_act_110 rfl ?_
            exact B121 1 (rg_w (⟨by decide, by decide⟩ : Rg 1 1 1))
        refine tt_icmp_eq (tgt := 98) dX10_act_87 rfl (fun q180 => ?_) (fun q180 => ?_)
        · skip
          have h181 : Rg 6 6 (hp_I S 655 o0) := rg_eq_l (rg_all (hp_I S 655 o0)) (⟨by decide, by decide⟩ : Rg 6 6 6) q180
          exact B177 
        · skip
          refine tt_aload_n (j := 0) dX10_act_90 rfl ?_
          refine gt_gI (id := 655) (v := (hp_I S 655 o0)) dX10_act_91 fl_10_107 rfl rfl h0 hA120 (i_af (k := 655) h0 hA120) ?_
          refine tt_iconst (v := 5) dX10_act_94 rfl ?_
          refine tt_icmp_ne (tgt := 113) dX10_act_95 rfl (fun q182 => ?_) (fun q182 => ?_)
          · skip
            exact B176 
          · skip
            have h183 : Rg 5 5 (hp_I S 655 o0) := rg_eq_l (rg_all (hp_I S 655 o0)) (⟨by decide, by decide⟩ : Rg 5 5 5) q182
            exact B177 
      refine tt_if_eq (tgt := 81) dX10_act_62 rfl (fun q184 => ?_) (fun q184 => ?_)
      · skip
        have h185 : Rg 0 0 x102 := rg_eq_l h103 (⟨by decide, by decide⟩ : Rg 0 0 0) q184
        exact tt_loc (ks := [1, 2, 3, 0]) rfl (B117 S109 hG110 hA112)
      · skip
        have h186 : Rg 1 1 x102 := rg_ne_lo h103 (⟨by decide, by decide⟩ : Rg 0 0 0) q184
        refine tt_aload_n (j := 1) dX10_act_65 rfl ?_
        refine tt_sipush (v := 4848) dX10_act_66 rfl ?_
        refine tt_iload_n (j := 0) dX10_act_69 rfl ?_
        refine gt_Vv (As := [.int 4848, .int x115]) dX10_act_70 ca_X10_218 ⟨by decide, by decide⟩ h0 hA112 rfl (Nat.le_of_ble_eq_true rfl) (Nat.le_of_ble_eq_true rfl) (by decide) (cs_X10_narrowed hG110 (oa_af h0 hA112) (rg_w (⟨by decide, by decide⟩ : Rg 4848 4848 4848)) (rg_w h116) (fun _ _ _ _ h => h)) rfl (fun _ h => nomatch h) (fun S187 hx191 hG188 hB189 hA190 => ?_)
        refine tt_aload_n (j := 1) dX10_act_73 rfl ?_
        refine tt_sipush (v := 4849) dX10_act_74 rfl ?_
        refine tt_iload_n (j := 0) dX10_act_77 rfl ?_
        refine gt_Vv (As := [.int 4849, .int x115]) dX10_act_78 ca_X10_218 ⟨by decide, by decide⟩ h0 hA190 rfl (Nat.le_of_ble_eq_true rfl) (Nat.le_of_ble_eq_true rfl) (by decide) (cs_X10_narrowed hG188 (oa_af h0 hA190) (rg_w (⟨by decide, by decide⟩ : Rg 4849 4849 4849)) (rg_w h116) (fun _ _ _ _ h => h)) rfl (fun _ h => nomatch h) (fun S192 hx196 hG193 hB194 hA195 => ?_)
        exact tt_loc (ks := [1, 2, 3, 0]) rfl (B117 S192 hG193 hA195)
    have B197 : TT xi M_X10_act 55 [(0, .ref o0), (1, .int x1), (2, .int x102)] [] S109 kc nc P := by
      refine tt_iconst (v := 1) dX10_act_55 rfl ?_
      refine tt_goto (tgt := 60) dX10_act_56 rfl ?_
      exact B114 1 (rg_w (⟨by decide, by decide⟩ : Rg 1 1 1))
    refine tt_icmp_eq (tgt := 55) dX10_act_43 rfl (fun q198 => ?_) (fun q198 => ?_)
    · skip
      have h199 : Rg 17 17 (hp_I S 655 o0) := rg_eq_l (rg_all (hp_I S 655 o0)) (⟨by decide, by decide⟩ : Rg 17 17 17) q198
      exact tt_loc (ks := [1, 2, 0]) rfl (B197 )
    · skip
      refine tt_aload_n (j := 1) dX10_act_46 rfl ?_
      refine gt_gI (id := 655) (v := (hp_I S 655 o0)) dX10_act_47 fl_10_107 rfl rfl h0 hA112 (i_af (k := 655) h0 hA112) ?_
      refine tt_bipush (v := 16) dX10_act_50 rfl ?_
      refine tt_icmp_ne (tgt := 59) dX10_act_52 rfl (fun q200 => ?_) (fun q200 => ?_)
      · skip
        refine tt_iconst (v := 0) dX10_act_59 rfl ?_
        exact tt_loc (ks := [1, 2, 0]) rfl (B114 0 (rg_w (⟨by decide, by decide⟩ : Rg 0 0 0)))
      · skip
        have h201 : Rg 16 16 (hp_I S 655 o0) := rg_eq_l (rg_all (hp_I S 655 o0)) (⟨by decide, by decide⟩ : Rg 16 16 16) q200
        exact tt_loc (ks := [1, 2, 0]) rfl (B197 )
  refine tt_icmp_ne (tgt := 13) dX10_act_6 rfl (fun q202 => ?_) (fun q202 => ?_)
  · skip
    refine tt_iconst (v := 0) dX10_act_13 rfl ?_
    exact B101 0 (rg_w (⟨by decide, by decide⟩ : Rg 0 0 0))
  · skip
    have h203 : Rg 32 32 (hp_I S 656 o0) := rg_eq_l (rg_all (hp_I S 656 o0)) (⟨by decide, by decide⟩ : Rg 32 32 32) q202
    refine tt_iconst (v := 1) dX10_act_9 rfl ?_
    refine tt_goto (tgt := 14) dX10_act_10 rfl ?_
    exact B101 1 (rg_w (⟨by decide, by decide⟩ : Rg 1 1 1))
set_option maxHeartbeats 4000000 in
theorem cs_X10_goThrough {xi : SX} {S : Hp} {E : List Nat} {kc nc : Nat} {P : Po} {o0 : Nat} {x1 : Int32} (hG : GI S E) (h0 : Oa S E 10 0 o0) (h1 : Rg 0 199 x1) (hP : ∀ r T x y, PV E [654, 655, 656, 657, 658, 659, 661, 662, 672, 673, 674, 675, 676, 9988, 9989, 9998] S kc nc rV ex0 [] r T x y → P r T x y) : TT xi M_X10_goThrough 0 [(0, .ref o0), (1, .int x1)] [] S kc nc P := by
  have hA : Af E [654, 655, 656, 657, 658, 659, 661, 662, 672, 673, 674, 675, 676, 9988, 9989, 9998] S S := af_rf
  refine tt_aload_n (j := 0) dX10_goThrough_0 rfl ?_
  obtain ⟨b101, hr102, ho103⟩ := gi_R (k := 648) hG h0 34 201
  refine gt_gR (id := 648) dX10_goThrough_1 fl_10_29 rfl rfl h0 hA hr102 ?_
  refine tt_iload_n (j := 1) dX10_goThrough_4 rfl ?_
  refine tt_iconst (v := 0) dX10_goThrough_5 rfl ?_
  refine gt_zS dX10_goThrough_6 ho103 hA (Or.inl (by decide)) (rg_in h1) hG (rg_w (⟨by decide, by decide⟩ : Rg 0 0 0)) (fun S104 hG105 hA106 e107 f108 er109 => ?_)
  refine tt_iconst (v := 0) dX10_goThrough_7 rfl ?_
  refine tt_istore_n (ks := [0, 1, 2]) (L' := [(2, .int 0), (0, .ref o0), (1, .int x1)]) dX10_goThrough_8 (by decide) rfl ?_
  have B110 : ∀ (nn : Nat) (S111 : Hp) (x114 : Int32), (2147483648 - x114.toInt).toNat = nn → GI S111 E → Af E [654, 655, 656, 657, 658, 659, 661, 662, 672, 673, 674, 675, 676, 9988, 9989, 9998] S S111 → Rg 0 24 x114 → TT xi M_X10_goThrough 9 [(0, .ref o0), (1, .int x1), (2, .int x114)] [] S111 kc nc P := by
    intro nn
    induction nn using Nat.strongRecOn with
    | ind nn ihB110 =>
      intro S111 x114 hmB110 hG112 hA113 h115
      subst hmB110
      refine tt_iload_n (j := 2) dX10_goThrough_9 rfl ?_
      refine tt_bipush (v := 24) dX10_goThrough_10 rfl ?_
      refine tt_icmp_ge (tgt := 36) dX10_goThrough_12 rfl (fun q116 => ?_) (fun q116 => ?_)
      · skip
        have h117 : Rg 24 24 x114 := rg_le_r (⟨by decide, by decide⟩ : Rg 24 24 24) h115 q116
        refine tt_aload_n (j := 0) dX10_goThrough_36 rfl ?_
        refine tt_sipush (v := 201) dX10_goThrough_37 rfl ?_
        refine tt_iload_n (j := 1) dX10_goThrough_40 rfl ?_
        refine gt_Vv (As := [.int 201, .int x1]) dX10_goThrough_41 ca_X10_284 ⟨by decide, by decide⟩ h0 hA113 rfl (Nat.le_of_ble_eq_true rfl) (Nat.le_of_ble_eq_true rfl) (by decide) (cs_X10_copyRecord hG112 (oa_af h0 hA113) (rg_w (⟨by decide, by decide⟩ : Rg 201 201 201)) (rg_w h1) (fun _ _ _ _ h => h)) rfl (fun _ h => nomatch h) (fun S118 hx122 hG119 hB120 hA121 => ?_)
        refine tt_aload_n (j := 0) dX10_goThrough_44 rfl ?_
        refine tt_iload_n (j := 1) dX10_goThrough_45 rfl ?_
        refine gt_VI (As := [.int x1]) dX10_goThrough_46 ca_X10_155 ⟨by decide, by decide⟩ h0 hA121 rfl (Nat.le_of_ble_eq_true rfl) (Nat.le_of_ble_eq_true rfl) (by decide) (cs_X10_read hG119 (oa_af h0 hA121) (rg_w h1) (fun _ _ _ _ h => h)) rfl (fun _ h => nomatch h) (fun S123 x128 h129 hx127 hG124 hB125 hA126 => ?_)
        have B130 : TT xi M_X10_goThrough 61 [(0, .ref o0), (1, .int x1), (2, .int x114)] [] S123 kc nc P := by
          exact tt_vreturn dX10_goThrough_61 rfl (hP _ _ _ _ ⟨hG124, hA126, Or.inl ⟨_, rfl, rfl, trivial, rfl, rfl⟩⟩)
        refine tt_if_eq (tgt := 61) dX10_goThrough_49 rfl (fun q131 => ?_) (fun q131 => ?_)
        · skip
          have h132 : Rg 0 0 x128 := rg_eq_l h129 (⟨by decide, by decide⟩ : Rg 0 0 0) q131
          exact B130 
        · skip
          have h133 : Rg 1 1 x128 := rg_ne_lo h129 (⟨by decide, by decide⟩ : Rg 0 0 0) q131
          have hE134 := (hx127 _ rfl q131)
          refine tt_aload_n (j := 0) dX10_goThrough_52 rfl ?_
          refine tt_getI (id := 655) dX10_goThrough_53 fl_10_107 rfl rfl (ob_af h0 hA126) ?_
          refine tt_bipush (v := 22) dX10_goThrough_56 rfl ?_
          refine tt_icmp_ne (tgt := 62) dX10_goThrough_58 rfl (fun q135 => ?_) (fun q135 => ?_)
          · skip
            refine tt_iload_n (j := 1) dX10_goThrough_62 rfl ?_
            refine tt_aload_n (j := 0) dX10_goThrough_63 rfl ?_
            refine tt_getI (id := 661) dX10_goThrough_64 fl_10_134 rfl rfl (ob_af h0 hA126) ?_
            refine tt_iadd dX10_goThrough_67 ?_
            refine tt_istore_n (ks := [0, 1, 2]) (L' := [(2, .int (x1 + (hp_I S123 661 o0))), (0, .ref o0), (1, .int x1)]) dX10_goThrough_68 (by decide) rfl ?_
            refine tt_aload_n (j := 1) dX10_goThrough_69 rfl ?_
            refine tt_getI (id := 655) dX10_goThrough_70 fl_10_107 rfl rfl (ob_af h0 hA126) ?_
            refine tt_bipush (v := 19) dX10_goThrough_73 rfl ?_
            have B136 : ∀ (S137 : Hp), GI S137 E → Af E [654, 655, 656, 657, 658, 659, 661, 662, 672, 673, 674, 675, 676, 9988, 9989, 9998] S S137 → TT xi M_X10_goThrough 83 [(0, .ref o0), (1, .int x1), (2, .int (x1 + (hp_I S123 661 o0)))] [] S137 kc nc P := by
              intro S137 hG138 hA139
              refine tt_aload_n (j := 0) dX10_goThrough_83 rfl ?_
              refine gt_gJ (id := 660) (v := (hp_J S137 660 o0)) dX10_goThrough_84 fl_10_116 rfl rfl h0 hA139 rfl ?_
              refine tt_lstore_n (ks := [0, 1, 2, 3]) (L' := [(3, .long (hp_J S137 660 o0)), (0, .ref o0), (1, .int x1), (2, .int (x1 + (hp_I S123 661 o0)))]) dX10_goThrough_87 (by decide) rfl ?_
              refine tt_aload_n (j := 1) dX10_goThrough_88 rfl ?_
              refine tt_getI (id := 655) dX10_goThrough_89 fl_10_107 rfl rfl (ob_af h0 hA139) ?_
              refine tt_bipush (v := 20) dX10_goThrough_92 rfl ?_
              have B140 : ∀ (S141 : Hp), GI S141 E → Af E [654, 655, 656, 657, 658, 659, 661, 662, 672, 673, 674, 675, 676, 9988, 9989, 9998] S S141 → TT xi M_X10_goThrough 179 [(0, .ref o0), (1, .int x1), (2, .int (x1 + (hp_I S123 661 o0))), (3, .long (hp_J S137 660 o0))] [] S141 kc nc P := by
                intro S141 hG142 hA143
                exact tt_vreturn dX10_goThrough_179 rfl (hP _ _ _ _ ⟨hG142, hA143, Or.inl ⟨_, rfl, rfl, trivial, rfl, rfl⟩⟩)
              refine tt_icmp_ne (tgt := 113) dX10_goThrough_94 rfl (fun q144 => ?_) (fun q144 => ?_)
              · skip
                refine tt_aload_n (j := 1) dX10_goThrough_113 rfl ?_
                refine tt_getI (id := 655) dX10_goThrough_114 fl_10_107 rfl rfl (ob_af h0 hA139) ?_
                refine tt_bipush (v := 19) dX10_goThrough_117 rfl ?_
                refine tt_icmp_ne (tgt := 164) dX10_goThrough_119 rfl (fun q145 => ?_) (fun q145 => ?_)
                · skip
                  refine tt_aload_n (j := 1) dX10_goThrough_164 rfl ?_
                  refine tt_iconst (v := (-1)) dX10_goThrough_165 rfl ?_
                  refine gt_VI (As := [.int (-1)]) dX10_goThrough_166 ca_X10_300 ⟨by decide, by decide⟩ h0 hA139 rfl (Nat.le_of_ble_eq_true rfl) (Nat.le_of_ble_eq_true rfl) (by decide) (cs_X10_goAlong hG138 (oa_af h0 hA139) (fun _ _ _ _ h => h)) rfl (fun _ h => nomatch h) (fun S146 x151 h152 hx150 hG147 hB148 hA149 => ?_)
                  refine tt_if_eq (tgt := 179) dX10_goThrough_169 rfl (fun q153 => ?_) (fun q153 => ?_)
                  · skip
                    have h154 : Rg 0 0 x151 := rg_eq_l h152 (⟨by decide, by decide⟩ : Rg 0 0 0) q153
                    exact tt_loc (ks := [1, 2, 3, 0]) rfl (B140 S146 hG147 hA149)
                  · skip
                    have h155 : Rg 1 1 x151 := rg_ne_lo h152 (⟨by decide, by decide⟩ : Rg 0 0 0) q153
                    refine tt_aload_n (j := 1) dX10_goThrough_172 rfl ?_
                    refine tt_iload_n (j := 3) dX10_goThrough_173 rfl ?_
                    refine tt_i2l dX10_goThrough_174 ?_
                    refine tt_iload_n (j := 2) dX10_goThrough_175 rfl ?_
                    refine gt_Vv (As := [.long ((x1 + (hp_I S123 661 o0)) : Int32).toInt64, .int x1]) dX10_goThrough_176 ca_X10_303 ⟨by decide, by decide⟩ h0 hA149 rfl (Nat.le_of_ble_eq_true rfl) (Nat.le_of_ble_eq_true rfl) (by decide) (cs_X10_arrive hG147 (oa_af h0 hA149) (fun _ _ _ _ h => h)) rfl (fun _ h => nomatch h) (fun S156 hx160 hG157 hB158 hA159 => ?_)
                    exact tt_loc (ks := [1, 2, 3, 0]) rfl (B140 S156 hG157 hA159)
                · skip
                  have h161 : Rg 19 19 (hp_I S137 655 o0) := rg_eq_l (rg_all (hp_I S137 655 o0)) (⟨by decide, by decide⟩ : Rg 19 19 19) q145
                  refine tt_aload_n (j := 1) dX10_goThrough_122 rfl ?_
                  refine tt_getI (id := 659) dX10_goThrough_123 fl_10_120 rfl rfl (ob_af h0 hA139) ?_
                  refine tt_istore (ks := [0, 1, 2, 3, 4]) (L' := [(5, .int (hp_I S137 659 o0)), (3, .long (hp_J S137 660 o0)), (0, .ref o0), (1, .int x1), (2, .int (x1 + (hp_I S123 661 o0)))]) dX10_goThrough_126 (by decide) rfl ?_
                  refine tt_aload_n (j := 2) dX10_goThrough_128 rfl ?_
                  refine tt_iload (j := 0) dX10_goThrough_129 rfl ?_
                  refine tt_iconst (v := 1) dX10_goThrough_131 rfl ?_
                  refine tt_ixor dX10_goThrough_132 ?_
                  refine gt_VI (As := [.int ((hp_I S137 659 o0) ^^^ 1)]) dX10_goThrough_133 ca_X10_300 ⟨by decide, by decide⟩ h0 hA139 rfl (Nat.le_of_ble_eq_true rfl) (Nat.le_of_ble_eq_true rfl) (by decide) (cs_X10_goAlong hG138 (oa_af h0 hA139) (fun _ _ _ _ h => h)) rfl (fun _ h => nomatch h) (fun S162 x167 h168 hx166 hG163 hB164 hA165 => ?_)
                  have B169 : ∀ (S170 : Hp), GI S170 E → Af E [654, 655, 656, 657, 658, 659, 661, 662, 672, 673, 674, 675, 676, 9988, 9989, 9998] S S170 → TT xi M_X10_goThrough 146 [(0, .ref o0), (1, .int x1), (2, .int (x1 + (hp_I S123 661 o0))), (3, .long (hp_J S137 660 o0)), (5, .int (hp_I S137 659 o0))] [] S170 kc nc P := by
                    intro S170 hG171 hA172
                    refine tt_aload_n (j := 0) dX10_goThrough_146 rfl ?_
                    refine tt_iload (j := 4) dX10_goThrough_147 rfl ?_
                    refine gt_VI (As := [.int (hp_I S137 659 o0)]) dX10_goThrough_149 ca_X10_300 ⟨by decide, by decide⟩ h0 hA172 rfl (Nat.le_of_ble_eq_true rfl) (Nat.le_of_ble_eq_true rfl) (by decide) (cs_X10_goAlong hG171 (oa_af h0 hA172) (fun _ _ _ _ h => h)) rfl (fun _ h => nomatch h) (fun S173 x178 h179 hx177 hG174 hB175 hA176 => ?_)
                    have B180 : ∀ (S181 : Hp), GI S181 E → Af E [654, 655, 656, 657, 658, 659, 661, 662, 672, 673, 674, 675, 676, 9988, 9989, 9998] S S181 → TT xi M_X10_goThrough 161 [(0, .ref o0), (1, .int x1), (2, .int (x1 + (hp_I S123 661 o0))), (3, .long (hp_J S137 660 o0)), (5, .int (hp_I S137 659 o0))] [] S181 kc nc P := by
                      intro S181 hG182 hA183
                      refine tt_goto (tgt := 179) dX10_goThrough_161 rfl ?_
                      exact tt_loc (ks := [0, 1, 2, 3]) rfl (B140 S181 hG182 hA183)
                    refine tt_if_eq (tgt := 161) dX10_goThrough_152 rfl (fun q184 => ?_) (fun q184 => ?_)
                    · skip
                      have h185 : Rg 0 0 x178 := rg_eq_l h179 (⟨by decide, by decide⟩ : Rg 0 0 0) q184
                      exact B180 S173 hG174 hA176
                    · skip
                      have h186 : Rg 1 1 x178 := rg_ne_lo h179 (⟨by decide, by decide⟩ : Rg 0 0 0) q184
                      refine tt_aload_n (j := 0) dX10_goThrough_155 rfl ?_
                      refine tt_lload_n (j := 3) dX10_goThrough_156 rfl ?_
                      refine tt_iload_n (j := 1) dX10_goThrough_157 rfl ?_
                      refine gt_Vv (As := [.long (hp_J S137 660 o0), .int x1]) dX10_goThrough_158 ca_X10_303 ⟨by decide, by decide⟩ h0 hA176 rfl (Nat.le_of_ble_eq_true rfl) (Nat.le_of_ble_eq_true rfl) (by decide) (cs_X10_arrive hG174 (oa_af h0 hA176) (fun _ _ _ _ h => h)) rfl (fun _ h => nomatch h) (fun S187 hx191 hG188 hB189 hA190 => ?_)
                      exact B180 S187 hG188 hA190
                  refine tt_if_eq (tgt := 146) dX10_goThrough_136 rfl (fun q192 => ?_) (fun q192 => ?_)
                  · skip
                    have h193 : Rg 0 0 x167 := rg_eq_l h168 (⟨by decide, by decide⟩ : Rg 0 0 0) q192
                    exact tt_loc (ks := [2, 3, 4, 1, 0]) rfl (B169 S162 hG163 hA165)
                  · skip
                    have h194 : Rg 1 1 x167 := rg_ne_lo h168 (⟨by decide, by decide⟩ : Rg 0 0 0) q192
                    refine tt_aload_n (j := 2) dX10_goThrough_139 rfl ?_
                    refine tt_iload_n (j := 4) dX10_goThrough_140 rfl ?_
                    refine tt_i2l dX10_goThrough_141 ?_
                    refine tt_iload_n (j := 3) dX10_goThrough_142 rfl ?_
                    refine gt_Vv (As := [.long ((x1 + (hp_I S123 661 o0)) : Int32).toInt64, .int x1]) dX10_goThrough_143 ca_X10_303 ⟨by decide, by decide⟩ h0 hA165 rfl (Nat.le_of_ble_eq_true rfl) (Nat.le_of_ble_eq_true rfl) (by decide) (cs_X10_arrive hG163 (oa_af h0 hA165) (fun _ _ _ _ h => h)) rfl (fun _ h => nomatch h) (fun S195 hx199 hG196 hB197 hA198 => ?_)
                    exact tt_loc (ks := [2, 3, 4, 1, 0]) rfl (B169 S195 hG196 hA198)
              · skip
                have h200 : Rg 20 20 (hp_I S137 655 o0) := rg_eq_l (rg_all (hp_I S137 655 o0)) (⟨by decide, by decide⟩ : Rg 20 20 20) q144
                refine tt_aload_n (j := 1) dX10_goThrough_97 rfl ?_
                refine tt_iconst (v := (-1)) dX10_goThrough_98 rfl ?_
                refine gt_VI (As := [.int (-1)]) dX10_goThrough_99 ca_X10_300 ⟨by decide, by decide⟩ h0 hA139 rfl (Nat.le_of_ble_eq_true rfl) (Nat.le_of_ble_eq_true rfl) (by decide) (cs_X10_goAlong hG138 (oa_af h0 hA139) (fun _ _ _ _ h => h)) rfl (fun _ h => nomatch h) (fun S201 x206 h207 hx205 hG202 hB203 hA204 => ?_)
                refine tt_istore (ks := [0, 1, 2, 3, 4]) (L' := [(5, .int x206), (3, .long (hp_J S137 660 o0)), (0, .ref o0), (1, .int x1), (2, .int (x1 + (hp_I S123 661 o0)))]) dX10_goThrough_102 (by decide) rfl ?_
                refine tt_aload_n (j := 2) dX10_goThrough_104 rfl ?_
                refine tt_lload_n (j := 1) dX10_goThrough_105 rfl ?_
                refine tt_iload_n (j := 3) dX10_goThrough_106 rfl ?_
                refine gt_Vv (As := [.long (hp_J S137 660 o0), .int x1]) dX10_goThrough_107 ca_X10_303 ⟨by decide, by decide⟩ h0 hA204 rfl (Nat.le_of_ble_eq_true rfl) (Nat.le_of_ble_eq_true rfl) (by decide) (cs_X10_arrive hG202 (oa_af h0 hA204) (fun _ _ _ _ h => h)) rfl (fun _ h => nomatch h) (fun S208 hx212 hG209 hB210 hA211 => ?_)
                refine tt_goto (tgt := 179) dX10_goThrough_110 rfl ?_
                exact tt_loc (ks := [2, 3, 4, 1]) rfl (B140 S208 hG209 hA211)
            refine tt_icmp_ge (tgt := 83) dX10_goThrough_75 rfl (fun q213 => ?_) (fun q213 => ?_)
            · skip
              have h214 : Rg 19 2147483647 (hp_I S123 655 o0) := rg_le_r (⟨by decide, by decide⟩ : Rg 19 19 19) (rg_all (hp_I S123 655 o0)) q213
              exact tt_loc (ks := [1, 2, 0]) rfl (B136 S123 hG124 hA126)
            · skip
              have h215 : Rg (-2147483648) 18 (hp_I S123 655 o0) := rg_lt_l (rg_all (hp_I S123 655 o0)) (⟨by decide, by decide⟩ : Rg 19 19 19) (nle_lt q213)
              refine tt_aload_n (j := 1) dX10_goThrough_78 rfl ?_
              refine tt_iload_n (j := 2) dX10_goThrough_79 rfl ?_
              refine gt_Vv (As := [.int x1]) dX10_goThrough_80 ca_X10_297 ⟨by decide, by decide⟩ h0 hA126 rfl (Nat.le_of_ble_eq_true rfl) (Nat.le_of_ble_eq_true rfl) (by decide) (cs_X10_act hG124 (oa_af h0 hA126) (rg_w (ex_g hE134.1 h215)) (rg_w hE134.2) (fun _ _ _ _ h => h)) rfl (fun _ h => nomatch h) (fun S216 hx220 hG217 hB218 hA219 => ?_)
              exact tt_loc (ks := [1, 2, 0]) rfl (B136 S216 hG217 hA219)
          · skip
            have h221 : Rg 22 22 (hp_I S123 655 o0) := rg_eq_l (rg_all (hp_I S123 655 o0)) (⟨by decide, by decide⟩ : Rg 22 22 22) q135
            exact B130 
      · skip
        have h222 : Rg 0 23 x114 := rg_lt_l h115 (⟨by decide, by decide⟩ : Rg 24 24 24) (nle_lt q116)
        refine tt_aload_n (j := 0) dX10_goThrough_15 rfl ?_
        refine tt_sipush (v := 4856) dX10_goThrough_16 rfl ?_
        refine tt_iload_n (j := 2) dX10_goThrough_19 rfl ?_
        refine tt_iadd dX10_goThrough_20 ?_
        refine tt_bipush (v := 24) dX10_goThrough_21 rfl ?_
        refine tt_iload_n (j := 1) dX10_goThrough_23 rfl ?_
        refine tt_imul dX10_goThrough_24 ?_
        refine tt_iload_n (j := 2) dX10_goThrough_25 rfl ?_
        refine tt_iadd dX10_goThrough_26 ?_
        refine gt_Vv (As := [.int (4856 + x114), .int ((24 * x1) + x114)]) dX10_goThrough_27 ca_X10_169 ⟨by decide, by decide⟩ h0 hA113 rfl (Nat.le_of_ble_eq_true rfl) (Nat.le_of_ble_eq_true rfl) (by decide) (cs_X10_copy hG112 (oa_af h0 hA113) (rg_w (rg_add (lo := 4856) (hi := 4879) (⟨by decide, by decide⟩ : Rg 4856 4856 4856) h222)) (rg_w (rg_add (lo := 0) (hi := 4799) (rg_mul (lo := 0) (hi := 4776) (⟨by decide, by decide⟩ : Rg 24 24 24) h1) h222)) (fun _ _ _ _ h => h)) rfl (fun _ h => nomatch h) (fun S223 hx227 hG224 hB225 hA226 => ?_)
        refine tt_iinc (j := 2) (v := (x114 + 1)) (ks := [0, 1, 2]) (L' := [(2, .int (x114 + 1)), (0, .ref o0), (1, .int x1)]) dX10_goThrough_30 rfl rfl (by decide) rfl ?_
        refine tt_goto (tgt := 9) dX10_goThrough_33 rfl ?_
        exact tt_loc (ks := [1, 2, 0]) rfl (ihB110 _ (rg_up h222) S223 (x114 + 1) rfl hG224 hA226 (rg_w (rg_add (lo := 1) (hi := 24) h222 (⟨by decide, by decide⟩ : Rg 1 1 1))))
  exact tt_loc (ks := [1, 2, 0]) rfl (B110 _ S104 0 rfl hG105 hA106 (rg_w (⟨by decide, by decide⟩ : Rg 0 0 0)))
set_option maxHeartbeats 4000000 in
theorem cs_X10_look {xi : SX} {S : Hp} {E : List Nat} {kc nc : Nat} {P : Po} {o0 : Nat} (hG : GI S E) (h0 : Oa S E 10 0 o0) (hP : ∀ r T x y, PV E [640, 653, 654, 655, 656, 657, 658, 659, 661, 662, 672, 673, 674, 675, 676, 9988, 9989, 9998] S kc nc (rI (-2147483648) 2147483647) ex0 [] r T x y → P r T x y) : TT xi M_X10_look 0 [(0, .ref o0)] [] S kc nc P := by
  have hA : Af E [640, 653, 654, 655, 656, 657, 658, 659, 661, 662, 672, 673, 674, 675, 676, 9988, 9989, 9998] S S := af_rf
  refine tt_aload_n (j := 0) dX10_look_0 rfl ?_
  refine tt_iconst (v := 0) dX10_look_1 rfl ?_
  refine gt_pI (id := 640) (x := 0) dX10_look_2 fl_10_55 rfl rfl h0 hA rfl rfl rfl (gp_I hG) (by decide) (fun h => absurd h (by decide)) (fun h => absurd h (by decide)) (fun S101 hG102 hA103 e104 f105 er106 => ?_)
  refine tt_iconst (v := 0) dX10_look_5 rfl ?_
  refine tt_istore_n (ks := [0, 1]) (L' := [(1, .int 0), (0, .ref o0)]) dX10_look_6 (by decide) rfl ?_
  have B107 : ∀ (nn : Nat) (S108 : Hp) (x111 : Int32), (2147483648 - x111.toInt).toNat = nn → GI S108 E → Af E [640, 653, 654, 655, 656, 657, 658, 659, 661, 662, 672, 673, 674, 675, 676, 9988, 9989, 9998] S S108 → Rg 0 201 x111 → TT xi M_X10_look 7 [(0, .ref o0), (1, .int x111)] [] S108 kc nc P := by
    intro nn
    induction nn using Nat.strongRecOn with
    | ind nn ihB107 =>
      intro S108 x111 hmB107 hG109 hA110 h112
      subst hmB107
      refine tt_iload_n (j := 1) dX10_look_7 rfl ?_
      refine tt_sipush (v := 200) dX10_look_8 rfl ?_
      refine tt_icmp_gt (tgt := 34) dX10_look_11 rfl (fun q113 => ?_) (fun q113 => ?_)
      · skip
        have h114 : Rg 201 201 x111 := rg_lt_r (⟨by decide, by decide⟩ : Rg 200 200 200) h112 q113
        refine tt_aload_n (j := 0) dX10_look_34 rfl ?_
        refine tt_iconst (v := 1) dX10_look_35 rfl ?_
        refine gt_pI (id := 653) (x := 1) dX10_look_36 fl_10_58 rfl rfl h0 hA110 rfl rfl rfl (gp_Ir hG109 (⟨by decide, by decide⟩ : Rg 1 1 1)) (by decide) (fun h => absurd h (by decide)) (fun h => absurd h (by decide)) (fun S115 hG116 hA117 e118 f119 er120 => ?_)
        refine tt_aload_n (j := 0) dX10_look_39 rfl ?_
        refine gt_gI (id := 642) (v := (hp_I S 642 o0)) dX10_look_40 fl_10_71 rfl rfl h0 hA117 (i_af (k := 642) h0 hA117) ?_
        refine tt_if_ne (tgt := 48) dX10_look_43 rfl (fun q121 => ?_) (fun q121 => ?_)
        · skip
          have h122 : Rg 1 200 (hp_I S 642 o0) := rg_ne_lo (gi_I (k := 642) hG (oa_af h0 hA) 0 200) (⟨by decide, by decide⟩ : Rg 0 0 0) q121
          refine tt_aload_n (j := 0) dX10_look_48 rfl ?_
          obtain ⟨b123, hr124, ho125⟩ := gi_R (k := 647) hG h0 32 201
          refine gt_gR (id := 647) dX10_look_49 fl_10_26 rfl rfl h0 hA117 hr124 ?_
          refine tt_iconst (v := 0) dX10_look_52 rfl ?_
          refine tt_iconst (v := 1) dX10_look_53 rfl ?_
          refine gt_iS dX10_look_54 ho125 hA117 (Or.inl (by decide)) (rg_in (⟨by decide, by decide⟩ : Rg 0 0 0)) hG116 (by decide) (fun S126 hG127 hA128 e129 f130 er131 => ?_)
          refine tt_aload_n (j := 0) dX10_look_55 rfl ?_
          obtain ⟨b132, hr133, ho134⟩ := gi_R (k := 648) hG h0 34 201
          refine gt_gR (id := 648) dX10_look_56 fl_10_29 rfl rfl h0 hA128 hr133 ?_
          refine tt_iconst (v := 0) dX10_look_59 rfl ?_
          refine tt_iconst (v := 1) dX10_look_60 rfl ?_
          refine gt_zS dX10_look_61 ho134 hA128 (Or.inl (by decide)) (rg_in (⟨by decide, by decide⟩ : Rg 0 0 0)) hG127 (rg_w (⟨by decide, by decide⟩ : Rg 1 1 1)) (fun S135 hG136 hA137 e138 f139 er140 => ?_)
          refine tt_aload_n (j := 0) dX10_look_62 rfl ?_
          obtain ⟨b141, hr142, ho143⟩ := gi_R (k := 649) hG h0 32 202
          refine gt_gR (id := 649) dX10_look_63 fl_10_33 rfl rfl h0 hA137 hr142 ?_
          refine tt_iconst (v := 0) dX10_look_66 rfl ?_
          refine tt_iconst (v := 0) dX10_look_67 rfl ?_
          refine gt_iSR dX10_look_68 ho143 hA137 (rg_in (⟨by decide, by decide⟩ : Rg 0 0 0)) hG136 (rg_w (⟨by decide, by decide⟩ : Rg 0 0 0)) (fun S144 hG145 hA146 e147 f148 er149 => ?_)
          refine tt_iconst (v := 0) dX10_look_69 rfl ?_
          refine tt_istore_n (ks := [0, 1]) (L' := [(1, .int 0), (0, .ref o0)]) dX10_look_70 (by decide) rfl ?_
          have B150 : ∀ (nn : Nat) (S151 : Hp) (x154 : Int32), (2147483648 - x154.toInt).toNat = nn → GI S151 E → Af E [640, 653, 654, 655, 656, 657, 658, 659, 661, 662, 672, 673, 674, 675, 676, 9988, 9989, 9998] S S151 → Rg 0 24 x154 → TT xi M_X10_look 71 [(0, .ref o0), (1, .int x154)] [] S151 kc nc P := by
            intro nn
            induction nn using Nat.strongRecOn with
            | ind nn ihB150 =>
              intro S151 x154 hmB150 hG152 hA153 h155
              subst hmB150
              refine tt_iload_n (j := 1) dX10_look_71 rfl ?_
              refine tt_bipush (v := 24) dX10_look_72 rfl ?_
              refine tt_icmp_ge (tgt := 93) dX10_look_74 rfl (fun q156 => ?_) (fun q156 => ?_)
              · skip
                have h157 : Rg 24 24 x154 := rg_le_r (⟨by decide, by decide⟩ : Rg 24 24 24) h155 q156
                refine tt_iconst (v := 0) dX10_look_93 rfl ?_
                refine tt_istore_n (ks := [0, 1]) (L' := [(1, .int 0), (0, .ref o0)]) dX10_look_94 (by decide) rfl ?_
                refine tt_iconst (v := 1) dX10_look_95 rfl ?_
                refine tt_istore_n (ks := [0, 1, 2]) (L' := [(2, .int 1), (1, .int 0), (0, .ref o0)]) dX10_look_96 (by decide) rfl ?_
                have B158 : ∀ (nn : Nat) (S159 : Hp) (x162 : Int32) (x164 : Int32), (2147483648 - x162.toInt).toNat = nn → GI S159 E → Af E [640, 653, 654, 655, 656, 657, 658, 659, 661, 662, 672, 673, 674, 675, 676, 9988, 9989, 9998] S S159 → Rg 0 60 x162 → Rg 0 1 x164 → TT xi M_X10_look 97 [(0, .ref o0), (1, .int x162), (2, .int x164)] [] S159 kc nc P := by
                  intro nn
                  induction nn using Nat.strongRecOn with
                  | ind nn ihB158 =>
                    intro S159 x162 x164 hmB158 hG160 hA161 h163 h165
                    subst hmB158
                    refine tt_iload_n (j := 2) dX10_look_97 rfl ?_
                    have B166 : TT xi M_X10_look 180 [(0, .ref o0), (1, .int x162), (2, .int x164)] [] S159 kc nc P := by
                      refine tt_iload_n (j := 2) dX10_look_180 rfl ?_
                      refine tt_if_eq (tgt := 213) dX10_look_181 rfl (fun q167 => ?_) (fun q167 => ?_)
                      · skip
                        have h168 : Rg 0 0 x164 := rg_eq_l h165 (⟨by decide, by decide⟩ : Rg 0 0 0) q167
                        refine tt_iload_n (j := 1) dX10_look_213 rfl ?_
                        exact tt_ireturn dX10_look_214 .int rfl rfl (hP _ _ _ _ ⟨hG160, hA161, Or.inl ⟨_, rfl, ⟨_, rfl, rg_w h163⟩, trivial, rfl, rfl⟩⟩)
                      · skip
                        have h169 : Rg 1 1 x164 := rg_ne_lo h165 (⟨by decide, by decide⟩ : Rg 0 0 0) q167
                        refine tt_aload_n (j := 0) dX10_look_184 rfl ?_
                        refine tt_iconst (v := 0) dX10_look_185 rfl ?_
                        refine gt_pI (id := 653) (x := 0) dX10_look_186 fl_10_58 rfl rfl h0 hA161 rfl rfl rfl (gp_Ir hG160 (⟨by decide, by decide⟩ : Rg 0 0 0)) (by decide) (fun h => absurd h (by decide)) (fun h => absurd h (by decide)) (fun S170 hG171 hA172 e173 f174 er175 => ?_)
                        refine tt_iconst (v := 0) dX10_look_189 rfl ?_
                        refine tt_istore_n (ks := [0, 1, 2, 3]) (L' := [(3, .int 0), (0, .ref o0), (1, .int x162), (2, .int x164)]) dX10_look_190 (by decide) rfl ?_
                        have B176 : ∀ (nn : Nat) (S177 : Hp) (x180 : Int32), (2147483648 - x180.toInt).toNat = nn → GI S177 E → Af E [640, 653, 654, 655, 656, 657, 658, 659, 661, 662, 672, 673, 674, 675, 676, 9988, 9989, 9998] S S177 → Rg 0 201 x180 → TT xi M_X10_look 191 [(0, .ref o0), (1, .int x162), (2, .int x164), (3, .int x180)] [] S177 kc nc P := by
                          intro nn
                          induction nn using Nat.strongRecOn with
                          | ind nn ihB176 =>
                            intro S177 x180 hmB176 hG178 hA179 h181
                            subst hmB176
                            refine tt_iload_n (j := 3) dX10_look_191 rfl ?_
                            refine tt_sipush (v := 200) dX10_look_192 rfl ?_
                            refine tt_icmp_gt (tgt := 211) dX10_look_195 rfl (fun q182 => ?_) (fun q182 => ?_)
                            · skip
                              have h183 : Rg 201 201 x180 := rg_lt_r (⟨by decide, by decide⟩ : Rg 200 200 200) h181 q182
                              refine tt_iconst (v := (-1)) dX10_look_211 rfl ?_
                              exact tt_ireturn dX10_look_212 .int rfl rfl (hP _ _ _ _ ⟨hG178, hA179, Or.inl ⟨_, rfl, ⟨_, rfl, rg_w (⟨by decide, by decide⟩ : Rg (-1) (-1) (-1))⟩, trivial, rfl, rfl⟩⟩)
                            · skip
                              have h184 : Rg 0 200 x180 := rg_le_l h181 (⟨by decide, by decide⟩ : Rg 200 200 200) (nlt_le q182)
                              refine tt_aload_n (j := 0) dX10_look_198 rfl ?_
                              refine gt_gR (id := 647) dX10_look_199 fl_10_26 rfl rfl h0 hA179 hr124 ?_
                              refine tt_iload_n (j := 3) dX10_look_202 rfl ?_
                              refine tt_iconst (v := 0) dX10_look_203 rfl ?_
                              refine gt_iS dX10_look_204 ho125 hA179 (Or.inl (by decide)) (rg_in h184) hG178 (by decide) (fun S185 hG186 hA187 e188 f189 er190 => ?_)
                              refine tt_iinc (j := 3) (v := (x180 + 1)) (ks := [0, 1, 2, 3]) (L' := [(3, .int (x180 + 1)), (0, .ref o0), (1, .int x162), (2, .int x164)]) dX10_look_205 rfl rfl (by decide) rfl ?_
                              refine tt_goto (tgt := 191) dX10_look_208 rfl ?_
                              exact tt_loc (ks := [1, 2, 3, 0]) rfl (ihB176 _ (rg_up h184) S185 (x180 + 1) rfl hG186 hA187 (rg_w (rg_add (lo := 1) (hi := 201) h184 (⟨by decide, by decide⟩ : Rg 1 1 1))))
                        exact tt_loc (ks := [1, 2, 3, 0]) rfl (B176 _ S170 0 rfl hG171 hA172 (rg_w (⟨by decide, by decide⟩ : Rg 0 0 0)))
                    refine tt_if_eq (tgt := 180) dX10_look_98 rfl (fun q191 => ?_) (fun q191 => ?_)
                    · skip
                      have h192 : Rg 0 0 x164 := rg_eq_l h165 (⟨by decide, by decide⟩ : Rg 0 0 0) q191
                      exact B166 
                    · skip
                      have h193 : Rg 1 1 x164 := rg_ne_lo h165 (⟨by decide, by decide⟩ : Rg 0 0 0) q191
                      refine tt_iload_n (j := 1) dX10_look_101 rfl ?_
                      refine tt_bipush (v := 60) dX10_look_102 rfl ?_
                      refine tt_icmp_ge (tgt := 180) dX10_look_104 rfl (fun q194 => ?_) (fun q194 => ?_)
                      · skip
                        have h195 : Rg 60 60 x162 := rg_le_r (⟨by decide, by decide⟩ : Rg 60 60 60) h163 q194
                        exact B166 
                      · skip
                        have h196 : Rg 0 59 x162 := rg_lt_l h163 (⟨by decide, by decide⟩ : Rg 60 60 60) (nle_lt q194)
                        refine tt_iinc (j := 1) (v := (x162 + 1)) (ks := [0, 1, 2]) (L' := [(1, .int (x162 + 1)), (0, .ref o0), (2, .int x164)]) dX10_look_107 rfl rfl (by decide) rfl ?_
                        refine tt_iconst (v := 0) dX10_look_110 rfl ?_
                        refine tt_istore_n (ks := [0, 1, 2, 3]) (L' := [(3, .int 0), (1, .int (x162 + 1)), (0, .ref o0), (2, .int x164)]) dX10_look_111 (by decide) rfl ?_
                        have B197 : ∀ (nn : Nat) (S198 : Hp) (x201 : Int32), (2147483648 - x201.toInt).toNat = nn → GI S198 E → Af E [640, 653, 654, 655, 656, 657, 658, 659, 661, 662, 672, 673, 674, 675, 676, 9988, 9989, 9998] S S198 → Rg 0 200 x201 → TT xi M_X10_look 112 [(0, .ref o0), (1, .int (x162 + 1)), (2, .int x164), (3, .int x201)] [] S198 kc nc P := by
                          intro nn
                          induction nn using Nat.strongRecOn with
                          | ind nn ihB197 =>
                            intro S198 x201 hmB197 hG199 hA200 h202
                            subst hmB197
                            refine tt_iload_n (j := 3) dX10_look_112 rfl ?_
                            refine tt_aload_n (j := 0) dX10_look_113 rfl ?_
                            refine gt_gI (id := 642) (v := (hp_I S 642 o0)) dX10_look_114 fl_10_71 rfl rfl h0 hA200 (i_af (k := 642) h0 hA200) ?_
                            refine tt_icmp_ge (tgt := 140) dX10_look_117 rfl (fun q203 => ?_) (fun q203 => ?_)
                            · skip
                              have h204 : Rg 1 200 x201 := rg_le_r h122 h202 q203
                              refine tt_iconst (v := 0) dX10_look_140 rfl ?_
                              refine tt_istore_n (ks := [0, 1, 2, 3]) (L' := [(2, .int 0), (0, .ref o0), (1, .int (x162 + 1)), (3, .int x201)]) dX10_look_141 (by decide) rfl ?_
                              refine tt_iconst (v := 0) dX10_look_142 rfl ?_
                              refine tt_istore_n (ks := [0, 1, 2, 3]) (L' := [(3, .int 0), (2, .int 0), (0, .ref o0), (1, .int (x162 + 1))]) dX10_look_143 (by decide) rfl ?_
                              have B205 : ∀ (nn : Nat) (x206 : Int32) (x208 : Int32), (2147483648 - x208.toInt).toNat = nn → Rg 0 1 x206 → Rg 0 200 x208 → TT xi M_X10_look 144 [(0, .ref o0), (1, .int (x162 + 1)), (2, .int x206), (3, .int x208)] [] S198 kc nc P := by
                                intro nn
                                induction nn using Nat.strongRecOn with
                                | ind nn ihB205 =>
                                  intro x206 x208 hmB205 h207 h209
                                  subst hmB205
                                  refine tt_iload_n (j := 3) dX10_look_144 rfl ?_
                                  refine tt_aload_n (j := 0) dX10_look_145 rfl ?_
                                  refine gt_gI (id := 642) (v := (hp_I S 642 o0)) dX10_look_146 fl_10_71 rfl rfl h0 hA200 (i_af (k := 642) h0 hA200) ?_
                                  refine tt_icmp_ge (tgt := 177) dX10_look_149 rfl (fun q210 => ?_) (fun q210 => ?_)
                                  · skip
                                    have h211 : Rg 1 200 x208 := rg_le_r h122 h209 q210
                                    refine tt_goto (tgt := 97) dX10_look_177 rfl ?_
                                    exact tt_loc (ks := [0, 1, 2]) rfl (ihB158 _ (rg_up h196) S198 (x162 + 1) x206 rfl hG199 hA200 (rg_w (rg_add (lo := 1) (hi := 60) h196 (⟨by decide, by decide⟩ : Rg 1 1 1))) h207)
                                  · skip
                                    have h212 : Rg 0 199 x208 := rg_lt_l h209 h122 (nle_lt q210)
                                    refine tt_iload_n (j := 2) dX10_look_152 rfl ?_
                                    have B213 : ∀ (x214 : Int32), Rg 0 1 x214 → TT xi M_X10_look 170 [(0, .ref o0), (1, .int (x162 + 1)), (2, .int x206), (3, .int x208)] [.int x214] S198 kc nc P := by
                                      intro x214 h215
                                      refine tt_istore_n (ks := [0, 1, 2, 3]) (L' := [(2, .int x214), (0, .ref o0), (1, .int (x162 + 1)), (3, .int x208)]) dX10_look_170 (by decide) rfl ?_
                                      refine tt_iinc (j := 3) (v := (x208 + 1)) (ks := [0, 1, 2, 3]) (L' := [(3, .int (x208 + 1)), (2, .int x214), (0, .ref o0), (1, .int (x162 + 1))]) dX10_look_171 rfl rfl (by decide) rfl ?_
                                      refine tt_goto (tgt := 144) dX10_look_174 rfl ?_
                                      exact tt_loc (ks := [2, 3, 1, 0]) rfl (ihB205 _ (rg_up h212) x214 (x208 + 1) rfl h215 (rg_w (rg_add (lo := 1) (hi := 200) h212 (⟨by decide, by decide⟩ : Rg 1 1 1))))
                                    have B216 : TT xi M_X10_look 165 [(0, .ref o0), (1, .int (x162 + 1)), (2, .int x206), (3, .int x208)] [] S198 kc nc P := by
                                      refine tt_iconst (v := 1) dX10_look_165 rfl ?_
                                      refine tt_goto (tgt := 170) dX10_look_166 rfl ?_
                                      exact B213 1 (rg_w (⟨by decide, by decide⟩ : Rg 1 1 1))
                                    refine tt_if_ne (tgt := 165) dX10_look_153 rfl (fun q217 => ?_) (fun q217 => ?_)
                                    · skip
                                      have h218 : Rg 1 1 x206 := rg_ne_lo h207 (⟨by decide, by decide⟩ : Rg 0 0 0) q217
                                      exact B216 
                                    · skip
                                      have h219 : Rg 0 0 x206 := rg_eq_l h207 (⟨by decide, by decide⟩ : Rg 0 0 0) q217
                                      refine tt_aload_n (j := 0) dX10_look_156 rfl ?_
                                      refine gt_gR (id := 648) dX10_look_157 fl_10_29 rfl rfl h0 hA200 hr133 ?_
                                      refine tt_iload_n (j := 3) dX10_look_160 rfl ?_
                                      refine gt_zL dX10_look_161 ho134 hA200 (rg_in h212) hG199 (fun x220 h221 => ?_)
                                      refine tt_if_eq (tgt := 169) dX10_look_162 rfl (fun q222 => ?_) (fun q222 => ?_)
                                      · skip
                                        have h223 : Rg 0 0 x220 := rg_eq_l h221 (⟨by decide, by decide⟩ : Rg 0 0 0) q222
                                        refine tt_iconst (v := 0) dX10_look_169 rfl ?_
                                        exact B213 0 (rg_w (⟨by decide, by decide⟩ : Rg 0 0 0))
                                      · skip
                                        have h224 : Rg 1 1 x220 := rg_ne_lo h221 (⟨by decide, by decide⟩ : Rg 0 0 0) q222
                                        exact B216 
                              exact tt_loc (ks := [2, 3, 1, 0]) rfl (B205 _ 0 0 rfl (rg_w (⟨by decide, by decide⟩ : Rg 0 0 0)) (rg_w (⟨by decide, by decide⟩ : Rg 0 0 0)))
                            · skip
                              have h225 : Rg 0 199 x201 := rg_lt_l h202 h122 (nle_lt q203)
                              refine tt_aload_n (j := 0) dX10_look_120 rfl ?_
                              refine gt_gR (id := 648) dX10_look_121 fl_10_29 rfl rfl h0 hA200 hr133 ?_
                              refine tt_iload_n (j := 3) dX10_look_124 rfl ?_
                              refine gt_zL dX10_look_125 ho134 hA200 (rg_in h225) hG199 (fun x226 h227 => ?_)
                              have B228 : ∀ (S229 : Hp), GI S229 E → Af E [640, 653, 654, 655, 656, 657, 658, 659, 661, 662, 672, 673, 674, 675, 676, 9988, 9989, 9998] S S229 → TT xi M_X10_look 134 [(0, .ref o0), (1, .int (x162 + 1)), (2, .int x164), (3, .int x201)] [] S229 kc nc P := by
                                intro S229 hG230 hA231
                                refine tt_iinc (j := 3) (v := (x201 + 1)) (ks := [0, 1, 2, 3]) (L' := [(3, .int (x201 + 1)), (0, .ref o0), (1, .int (x162 + 1)), (2, .int x164)]) dX10_look_134 rfl rfl (by decide) rfl ?_
                                refine tt_goto (tgt := 112) dX10_look_137 rfl ?_
                                exact tt_loc (ks := [1, 2, 3, 0]) rfl (ihB197 _ (rg_up h225) S229 (x201 + 1) rfl hG230 hA231 (rg_w (rg_add (lo := 1) (hi := 200) h225 (⟨by decide, by decide⟩ : Rg 1 1 1))))
                              refine tt_if_eq (tgt := 134) dX10_look_126 rfl (fun q232 => ?_) (fun q232 => ?_)
                              · skip
                                have h233 : Rg 0 0 x226 := rg_eq_l h227 (⟨by decide, by decide⟩ : Rg 0 0 0) q232
                                exact B228 S198 hG199 hA200
                              · skip
                                have h234 : Rg 1 1 x226 := rg_ne_lo h227 (⟨by decide, by decide⟩ : Rg 0 0 0) q232
                                refine tt_aload_n (j := 0) dX10_look_129 rfl ?_
                                refine tt_iload_n (j := 3) dX10_look_130 rfl ?_
                                refine gt_Vv (As := [.int x201]) dX10_look_131 ca_X10_307 ⟨by decide, by decide⟩ h0 hA200 rfl (Nat.le_of_ble_eq_true rfl) (Nat.le_of_ble_eq_true rfl) (by decide) (cs_X10_goThrough hG199 (oa_af h0 hA200) (rg_w h225) (fun _ _ _ _ h => h)) rfl (fun _ h => nomatch h) (fun S235 hx239 hG236 hB237 hA238 => ?_)
                                exact B228 S235 hG236 hA238
                        exact tt_loc (ks := [2, 1, 3, 0]) rfl (B197 _ S159 0 rfl hG160 hA161 (rg_w (⟨by decide, by decide⟩ : Rg 0 0 0)))
                exact tt_loc (ks := [2, 1, 0]) rfl (B158 _ S151 0 1 rfl hG152 hA153 (rg_w (⟨by decide, by decide⟩ : Rg 0 0 0)) (rg_w (⟨by decide, by decide⟩ : Rg 1 1 1)))
              · skip
                have h240 : Rg 0 23 x154 := rg_lt_l h155 (⟨by decide, by decide⟩ : Rg 24 24 24) (nle_lt q156)
                refine tt_aload_n (j := 0) dX10_look_77 rfl ?_
                refine tt_iload_n (j := 1) dX10_look_78 rfl ?_
                refine tt_sipush (v := 4880) dX10_look_79 rfl ?_
                refine tt_iload_n (j := 1) dX10_look_82 rfl ?_
                refine tt_iadd dX10_look_83 ?_
                refine gt_Vv (As := [.int x154, .int (4880 + x154)]) dX10_look_84 ca_X10_169 ⟨by decide, by decide⟩ h0 hA153 rfl (Nat.le_of_ble_eq_true rfl) (Nat.le_of_ble_eq_true rfl) (by decide) (cs_X10_copy hG152 (oa_af h0 hA153) (rg_w h240) (rg_w (rg_add (lo := 4880) (hi := 4903) (⟨by decide, by decide⟩ : Rg 4880 4880 4880) h240)) (fun _ _ _ _ h => h)) rfl (fun _ h => nomatch h) (fun S241 hx245 hG242 hB243 hA244 => ?_)
                refine tt_iinc (j := 1) (v := (x154 + 1)) (ks := [0, 1]) (L' := [(1, .int (x154 + 1)), (0, .ref o0)]) dX10_look_87 rfl rfl (by decide) rfl ?_
                refine tt_goto (tgt := 71) dX10_look_90 rfl ?_
                exact tt_loc (ks := [1, 0]) rfl (ihB150 _ (rg_up h240) S241 (x154 + 1) rfl hG242 hA244 (rg_w (rg_add (lo := 1) (hi := 24) h240 (⟨by decide, by decide⟩ : Rg 1 1 1))))
          exact tt_loc (ks := [1, 0]) rfl (B150 _ S144 0 rfl hG145 hA146 (rg_w (⟨by decide, by decide⟩ : Rg 0 0 0)))
        · skip
          have h246 : Rg 0 0 (hp_I S 642 o0) := rg_eq_l (gi_I (k := 642) hG (oa_af h0 hA) 0 200) (⟨by decide, by decide⟩ : Rg 0 0 0) q121
          refine tt_iconst (v := 0) dX10_look_46 rfl ?_
          exact tt_ireturn dX10_look_47 .int rfl rfl (hP _ _ _ _ ⟨hG116, hA117, Or.inl ⟨_, rfl, ⟨_, rfl, rg_w (⟨by decide, by decide⟩ : Rg 0 0 0)⟩, trivial, rfl, rfl⟩⟩)
      · skip
        have h247 : Rg 0 200 x111 := rg_le_l h112 (⟨by decide, by decide⟩ : Rg 200 200 200) (nlt_le q113)
        refine tt_aload_n (j := 0) dX10_look_14 rfl ?_
        obtain ⟨b248, hr249, ho250⟩ := gi_R (k := 647) hG h0 32 201
        refine gt_gR (id := 647) dX10_look_15 fl_10_26 rfl rfl h0 hA110 hr249 ?_
        refine tt_iload_n (j := 1) dX10_look_18 rfl ?_
        refine tt_iconst (v := 0) dX10_look_19 rfl ?_
        refine gt_iS dX10_look_20 ho250 hA110 (Or.inl (by decide)) (rg_in h247) hG109 (by decide) (fun S251 hG252 hA253 e254 f255 er256 => ?_)
        refine tt_aload_n (j := 0) dX10_look_21 rfl ?_
        obtain ⟨b257, hr258, ho259⟩ := gi_R (k := 648) hG h0 34 201
        refine gt_gR (id := 648) dX10_look_22 fl_10_29 rfl rfl h0 hA253 hr258 ?_
        refine tt_iload_n (j := 1) dX10_look_25 rfl ?_
        refine tt_iconst (v := 0) dX10_look_26 rfl ?_
        refine gt_zS dX10_look_27 ho259 hA253 (Or.inl (by decide)) (rg_in h247) hG252 (rg_w (⟨by decide, by decide⟩ : Rg 0 0 0)) (fun S260 hG261 hA262 e263 f264 er265 => ?_)
        refine tt_iinc (j := 1) (v := (x111 + 1)) (ks := [0, 1]) (L' := [(1, .int (x111 + 1)), (0, .ref o0)]) dX10_look_28 rfl rfl (by decide) rfl ?_
        refine tt_goto (tgt := 7) dX10_look_31 rfl ?_
        exact tt_loc (ks := [1, 0]) rfl (ihB107 _ (rg_up h247) S260 (x111 + 1) rfl hG261 hA262 (rg_w (rg_add (lo := 1) (hi := 201) h247 (⟨by decide, by decide⟩ : Rg 1 1 1))))
  exact tt_loc (ks := [1, 0]) rfl (B107 _ S101 0 rfl hG102 hA103 (rg_w (⟨by decide, by decide⟩ : Rg 0 0 0)))
