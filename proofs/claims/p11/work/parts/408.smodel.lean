set_option maxHeartbeats 4000000 in
theorem cs_X10_readRest {xi : SX} {S : Hp} {E : List Nat} {kc nc : Nat} {P : Po} {o0 : Nat} {x1 : Int32} {x2 : Int32} (hG : GI S E) (h0 : Oa S E 10 0 o0) (g655 : Rg 19 22 (hp_I S 655 o0)) (g658 : Rg (-1) (-1) (hp_I S 658 o0)) (hP : ∀ r T x y, PV E [654, 655, 657, 658, 659, 662, 672, 673, 674, 675] S kc nc rV (fun v T => (hp_I T 662 o0 = 0 → (Rg 19 22 (hp_I T 655 o0) ∨ Rg 0 23 (hp_I T 657 o0)) ∧ Rg (-1) 23 (hp_I T 658 o0))) [] r T x y → P r T x y) : TT xi M_X10_readRest 0 [(0, .ref o0), (1, .int x1), (2, .int x2)] [] S kc nc P := by
  have hA : Af E [654, 655, 657, 658, 659, 662, 672, 673, 674, 675] S S := af_rf
  refine tt_iload_n (j := 1) dX10_readRest_0 rfl ?_
  refine tt_bipush (v := 64) dX10_readRest_1 rfl ?_
  refine tt_icmp_ge (tgt := 102) dX10_readRest_3 rfl (fun q101 => ?_) (fun q101 => ?_)
  · skip
    have h102 : Rg 64 2147483647 x1 := rg_le_r (⟨by decide, by decide⟩ : Rg 64 64 64) (rg_all x1) q101
    refine tt_iload_n (j := 1) dX10_readRest_102 rfl ?_
    refine tt_sipush (v := 129) dX10_readRest_103 rfl ?_
    refine tt_icmp_eq (tgt := 116) dX10_readRest_106 rfl (fun q103 => ?_) (fun q103 => ?_)
    · skip
      have h104 : Rg 129 129 x1 := rg_eq_l h102 (⟨by decide, by decide⟩ : Rg 129 129 129) q103
      refine tt_aload_n (j := 0) dX10_readRest_116 rfl ?_
      refine tt_iload_n (j := 2) dX10_readRest_117 rfl ?_
      refine gt_Vv (As := [.int x2]) dX10_readRest_118 ca_X10_137 ⟨by decide, by decide⟩ h0 hA rfl (Nat.le_of_ble_eq_true rfl) (Nat.le_of_ble_eq_true rfl) (by decide) (cs_X10_readPlaces hG (oa_af h0 hA) (fun _ _ _ _ h => h)) rfl (fun _ h => nomatch h) (fun S105 hx109 hG106 hB107 hA108 => ?_)
      refine tt_aload_n (j := 0) dX10_readRest_121 rfl ?_
      refine tt_aload_n (j := 0) dX10_readRest_122 rfl ?_
      refine tt_getI (id := 662) dX10_readRest_123 fl_10_84 rfl rfl (ob_af h0 hA108) ?_
      refine tt_if_ne (tgt := 139) dX10_readRest_126 rfl (fun q110 => ?_) (fun q110 => ?_)
      · skip
        have h111 : Rg 1 1 (hp_I S105 662 o0) := rg_ne_lo (gi_I (k := 662) hG106 (oa_af h0 hA108) 0 1) (⟨by decide, by decide⟩ : Rg 0 0 0) q110
        refine tt_iconst (v := 1) dX10_readRest_139 rfl ?_
        refine tt_goto (tgt := 144) dX10_readRest_140 rfl ?_
        refine gt_pI (id := 662) (x := 1) dX10_readRest_144 fl_10_84 rfl rfl h0 hA108 rfl rfl rfl (gp_Ir hG106 (⟨by decide, by decide⟩ : Rg 1 1 1)) (by decide) (fun _ _ q => absurd q (by decide)) (fun h => absurd h (by decide)) (fun S112 hG113 hA114 e115 f116 er117 => ?_)
        refine tt_aload_n (j := 0) dX10_readRest_147 rfl ?_
        refine tt_aload_n (j := 0) dX10_readRest_148 rfl ?_
        refine tt_getI (id := 674) dX10_readRest_149 fl_10_94 rfl rfl (ob_af h0 hA114) ?_
        refine tt_aload_n (j := 0) dX10_readRest_152 rfl ?_
        refine gt_gI (id := 673) (v := (hp_I S105 673 o0)) dX10_readRest_153 fl_10_100 rfl rfl h0 hA114 ((congrFun (congrFun e115 673) o0).trans ((congrFun (up2_ne (k := 673)) o0).trans rfl)) ?_
        refine tt_iconst (v := (-1)) dX10_readRest_156 rfl ?_
        refine gt_Vv (As := [.int (hp_I S112 674 o0), .int (hp_I S105 673 o0), .int (-1)]) dX10_readRest_157 ca_X10_123 ⟨by decide, by decide⟩ h0 hA114 rfl (Nat.le_of_ble_eq_true rfl) (Nat.le_of_ble_eq_true rfl) (by decide) (cs_X10_take hG113 (oa_af h0 hA114) (fun _ _ _ _ h => h)) rfl (fun _ h => nomatch h) (fun S118 hx122 hG119 hB120 hA121 => ?_)
        refine tt_aload_n (j := 0) dX10_readRest_160 rfl ?_
        refine tt_aload_n (j := 0) dX10_readRest_161 rfl ?_
        refine tt_iload_n (j := 1) dX10_readRest_162 rfl ?_
        refine tt_sipush (v := 129) dX10_readRest_163 rfl ?_
        refine tt_icmp_ne (tgt := 173) dX10_readRest_166 rfl (fun q123 => ?_) (fun q123 => ?_)
        · skip
          have h124 : Rg 130 129 x1 := rg_ne_lo h104 (⟨by decide, by decide⟩ : Rg 129 129 129) q123
          exact rg_no h124
        · skip
          refine tt_iconst (v := 4) dX10_readRest_169 rfl ?_
          refine tt_goto (tgt := 174) dX10_readRest_170 rfl ?_
          refine gt_VJ (As := [.int 4]) dX10_readRest_174 ca_X10_103 ⟨by decide, by decide⟩ h0 hA121 rfl (Nat.le_of_ble_eq_true rfl) (Nat.le_of_ble_eq_true rfl) (by decide) (cs_X10_number hG119 (oa_af h0 hA121) (fun _ _ _ _ h => h)) rfl (fun _ h => nomatch h) (fun S125 y130 hx129 hG126 hB127 hA128 => ?_)
          refine gt_pJ (id := 660) (x := y130) dX10_readRest_177 fl_10_116 rfl rfl h0 hA128 rfl rfl rfl hG126 (fun S132 hG133 hA134 e135 f136 er137 => ?_)
          refine tt_goto (tgt := 766) dX10_readRest_180 rfl ?_
          exact tt_vreturn dX10_readRest_766 rfl (hP _ _ _ _ ⟨hG133, hA134, Or.inl ⟨_, rfl, rfl, (fun q => (absurd (((congrFun (congrFun e115 662) o0).trans up2_self).symm.trans (mo_af (oa_af h0 hA114) hB120 (mo_af (oa_af h0 hA121) hB127 ((congrFun (congrFun e135 662) o0).symm.trans q)))) (by decide))), rfl, rfl⟩⟩)
      · skip
        have h138 : Rg 0 0 (hp_I S105 662 o0) := rg_eq_l (gi_I (k := 662) hG106 (oa_af h0 hA108) 0 1) (⟨by decide, by decide⟩ : Rg 0 0 0) q110
        refine tt_aload_n (j := 0) dX10_readRest_129 rfl ?_
        refine tt_getI (id := 674) dX10_readRest_130 fl_10_94 rfl rfl (ob_af h0 hA108) ?_
        refine gt_SIp (As := [.int (hp_I S105 674 o0)]) dX10_readRest_133 ca_X10_141 ⟨by decide, by decide⟩ hA108 (Nat.le_of_ble_eq_true rfl) (Nat.le_of_ble_eq_true rfl) (by decide) (cs_X10_isSimple hG106  (fun _ _ _ _ h => h)) rfl (fun _ h => nomatch h) (fun _ _ q => q) (fun x144 h145 hx143 => ?_)
        refine tt_if_ne (tgt := 143) dX10_readRest_136 rfl (fun q146 => ?_) (fun q146 => ?_)
        · skip
          have h147 : Rg 1 1 x144 := rg_ne_lo h145 (⟨by decide, by decide⟩ : Rg 0 0 0) q146
          refine tt_iconst (v := 0) dX10_readRest_143 rfl ?_
          refine gt_pI (id := 662) (x := 0) dX10_readRest_144 fl_10_84 rfl rfl h0 hA108 rfl rfl rfl (gp_Ir hG106 (⟨by decide, by decide⟩ : Rg 0 0 0)) (by decide) (fun _ _ _ => (rg_eqc h138)) (fun h => absurd h (by decide)) (fun S148 hG149 hA150 e151 f152 er153 => ?_)
          refine tt_aload_n (j := 0) dX10_readRest_147 rfl ?_
          refine tt_aload_n (j := 0) dX10_readRest_148 rfl ?_
          refine gt_gI (id := 674) (v := (hp_I S105 674 o0)) dX10_readRest_149 fl_10_94 rfl rfl h0 hA150 ((congrFun (congrFun e151 674) o0).trans ((congrFun (up2_ne (k := 674)) o0).trans rfl)) ?_
          refine tt_aload_n (j := 0) dX10_readRest_152 rfl ?_
          refine gt_gI (id := 673) (v := (hp_I S105 673 o0)) dX10_readRest_153 fl_10_100 rfl rfl h0 hA150 ((congrFun (congrFun e151 673) o0).trans ((congrFun (up2_ne (k := 673)) o0).trans rfl)) ?_
          refine tt_iconst (v := (-1)) dX10_readRest_156 rfl ?_
          refine gt_Vv (As := [.int (hp_I S105 674 o0), .int (hp_I S105 673 o0), .int (-1)]) dX10_readRest_157 ca_X10_123 ⟨by decide, by decide⟩ h0 hA150 rfl (Nat.le_of_ble_eq_true rfl) (Nat.le_of_ble_eq_true rfl) (by decide) (cs_X10_take hG149 (oa_af h0 hA150) (fun _ _ _ _ h => h)) rfl (fun _ h => nomatch h) (fun S154 hx158 hG155 hB156 hA157 => ?_)
          refine tt_aload_n (j := 0) dX10_readRest_160 rfl ?_
          refine tt_aload_n (j := 0) dX10_readRest_161 rfl ?_
          refine tt_iload_n (j := 1) dX10_readRest_162 rfl ?_
          refine tt_sipush (v := 129) dX10_readRest_163 rfl ?_
          refine tt_icmp_ne (tgt := 173) dX10_readRest_166 rfl (fun q159 => ?_) (fun q159 => ?_)
          · skip
            have h160 : Rg 130 129 x1 := rg_ne_lo h104 (⟨by decide, by decide⟩ : Rg 129 129 129) q159
            exact rg_no h160
          · skip
            refine tt_iconst (v := 4) dX10_readRest_169 rfl ?_
            refine tt_goto (tgt := 174) dX10_readRest_170 rfl ?_
            refine gt_VJ (As := [.int 4]) dX10_readRest_174 ca_X10_103 ⟨by decide, by decide⟩ h0 hA157 rfl (Nat.le_of_ble_eq_true rfl) (Nat.le_of_ble_eq_true rfl) (by decide) (cs_X10_number hG155 (oa_af h0 hA157) (fun _ _ _ _ h => h)) rfl (fun _ h => nomatch h) (fun S161 y166 hx165 hG162 hB163 hA164 => ?_)
            refine gt_pJ (id := 660) (x := y166) dX10_readRest_177 fl_10_116 rfl rfl h0 hA164 rfl rfl rfl hG162 (fun S168 hG169 hA170 e171 f172 er173 => ?_)
            refine tt_goto (tgt := 766) dX10_readRest_180 rfl ?_
            exact tt_vreturn dX10_readRest_766 rfl (hP _ _ _ _ ⟨hG169, hA170, Or.inl ⟨_, rfl, rfl, (fun q => ⟨(Or.inr (rg_cast ((congrFun (congrFun e171 657) o0).trans ((i_af (k := 657) (oa_af h0 hA157) hB163).trans hx158.2.1)) (rg_w (hx109 (rg_eqc h138))))), (rg_cast ((congrFun (congrFun e171 658) o0).trans ((i_af (k := 658) (oa_af h0 hA157) hB163).trans hx158.2.2)) (rg_w (⟨by decide, by decide⟩ : Rg (-1) (-1) (-1))))⟩), rfl, rfl⟩⟩)
        · skip
          have h174 : Rg 0 0 x144 := rg_eq_l h145 (⟨by decide, by decide⟩ : Rg 0 0 0) q146
          refine tt_iconst (v := 1) dX10_readRest_139 rfl ?_
          refine tt_goto (tgt := 144) dX10_readRest_140 rfl ?_
          refine gt_pI (id := 662) (x := 1) dX10_readRest_144 fl_10_84 rfl rfl h0 hA108 rfl rfl rfl (gp_Ir hG106 (⟨by decide, by decide⟩ : Rg 1 1 1)) (by decide) (fun _ _ q => absurd q (by decide)) (fun h => absurd h (by decide)) (fun S175 hG176 hA177 e178 f179 er180 => ?_)
          refine tt_aload_n (j := 0) dX10_readRest_147 rfl ?_
          refine tt_aload_n (j := 0) dX10_readRest_148 rfl ?_
          refine gt_gI (id := 674) (v := (hp_I S105 674 o0)) dX10_readRest_149 fl_10_94 rfl rfl h0 hA177 ((congrFun (congrFun e178 674) o0).trans ((congrFun (up2_ne (k := 674)) o0).trans rfl)) ?_
          refine tt_aload_n (j := 0) dX10_readRest_152 rfl ?_
          refine gt_gI (id := 673) (v := (hp_I S105 673 o0)) dX10_readRest_153 fl_10_100 rfl rfl h0 hA177 ((congrFun (congrFun e178 673) o0).trans ((congrFun (up2_ne (k := 673)) o0).trans rfl)) ?_
          refine tt_iconst (v := (-1)) dX10_readRest_156 rfl ?_
          refine gt_Vv (As := [.int (hp_I S105 674 o0), .int (hp_I S105 673 o0), .int (-1)]) dX10_readRest_157 ca_X10_123 ⟨by decide, by decide⟩ h0 hA177 rfl (Nat.le_of_ble_eq_true rfl) (Nat.le_of_ble_eq_true rfl) (by decide) (cs_X10_take hG176 (oa_af h0 hA177) (fun _ _ _ _ h => h)) rfl (fun _ h => nomatch h) (fun S181 hx185 hG182 hB183 hA184 => ?_)
          refine tt_aload_n (j := 0) dX10_readRest_160 rfl ?_
          refine tt_aload_n (j := 0) dX10_readRest_161 rfl ?_
          refine tt_iload_n (j := 1) dX10_readRest_162 rfl ?_
          refine tt_sipush (v := 129) dX10_readRest_163 rfl ?_
          refine tt_icmp_ne (tgt := 173) dX10_readRest_166 rfl (fun q186 => ?_) (fun q186 => ?_)
          · skip
            have h187 : Rg 130 129 x1 := rg_ne_lo h104 (⟨by decide, by decide⟩ : Rg 129 129 129) q186
            exact rg_no h187
          · skip
            refine tt_iconst (v := 4) dX10_readRest_169 rfl ?_
            refine tt_goto (tgt := 174) dX10_readRest_170 rfl ?_
            refine gt_VJ (As := [.int 4]) dX10_readRest_174 ca_X10_103 ⟨by decide, by decide⟩ h0 hA184 rfl (Nat.le_of_ble_eq_true rfl) (Nat.le_of_ble_eq_true rfl) (by decide) (cs_X10_number hG182 (oa_af h0 hA184) (fun _ _ _ _ h => h)) rfl (fun _ h => nomatch h) (fun S188 y193 hx192 hG189 hB190 hA191 => ?_)
            refine gt_pJ (id := 660) (x := y193) dX10_readRest_177 fl_10_116 rfl rfl h0 hA191 rfl rfl rfl hG189 (fun S195 hG196 hA197 e198 f199 er200 => ?_)
            refine tt_goto (tgt := 766) dX10_readRest_180 rfl ?_
            exact tt_vreturn dX10_readRest_766 rfl (hP _ _ _ _ ⟨hG196, hA197, Or.inl ⟨_, rfl, rfl, (fun q => (absurd (((congrFun (congrFun e178 662) o0).trans up2_self).symm.trans (mo_af (oa_af h0 hA177) hB183 (mo_af (oa_af h0 hA184) hB190 ((congrFun (congrFun e198 662) o0).symm.trans q)))) (by decide))), rfl, rfl⟩⟩)
    · skip
      refine tt_iload_n (j := 1) dX10_readRest_109 rfl ?_
      refine tt_sipush (v := 131) dX10_readRest_110 rfl ?_
      refine tt_icmp_ne (tgt := 183) dX10_readRest_113 rfl (fun q201 => ?_) (fun q201 => ?_)
      · skip
        refine tt_iload_n (j := 1) dX10_readRest_183 rfl ?_
        refine tt_sipush (v := 133) dX10_readRest_184 rfl ?_
        refine tt_icmp_ne (tgt := 212) dX10_readRest_187 rfl (fun q202 => ?_) (fun q202 => ?_)
        · skip
          refine tt_iload_n (j := 1) dX10_readRest_212 rfl ?_
          refine tt_sipush (v := 247) dX10_readRest_213 rfl ?_
          refine tt_icmp_ne (tgt := 315) dX10_readRest_216 rfl (fun q203 => ?_) (fun q203 => ?_)
          · skip
            refine tt_iload_n (j := 1) dX10_readRest_315 rfl ?_
            refine tt_sipush (v := 255) dX10_readRest_316 rfl ?_
            refine tt_icmp_ne (tgt := 377) dX10_readRest_319 rfl (fun q204 => ?_) (fun q204 => ?_)
            · skip
              refine tt_iload_n (j := 1) dX10_readRest_377 rfl ?_
              refine tt_sipush (v := 137) dX10_readRest_378 rfl ?_
              refine tt_icmp_eq (tgt := 391) dX10_readRest_381 rfl (fun q205 => ?_) (fun q205 => ?_)
              · skip
                have h206 : Rg 137 137 x1 := rg_eq_l h102 (⟨by decide, by decide⟩ : Rg 137 137 137) q205
                refine tt_aload_n (j := 0) dX10_readRest_391 rfl ?_
                refine tt_iload_n (j := 2) dX10_readRest_392 rfl ?_
                refine gt_Vv (As := [.int x2]) dX10_readRest_393 ca_X10_137 ⟨by decide, by decide⟩ h0 hA rfl (Nat.le_of_ble_eq_true rfl) (Nat.le_of_ble_eq_true rfl) (by decide) (cs_X10_readPlaces hG (oa_af h0 hA) (fun _ _ _ _ h => h)) rfl (fun _ h => nomatch h) (fun S207 hx211 hG208 hB209 hA210 => ?_)
                refine tt_aload_n (j := 0) dX10_readRest_396 rfl ?_
                refine tt_bipush (v := 13) dX10_readRest_397 rfl ?_
                refine tt_iload_n (j := 1) dX10_readRest_399 rfl ?_
                refine tt_sipush (v := 137) dX10_readRest_400 rfl ?_
                refine tt_icmp_ne (tgt := 413) dX10_readRest_403 rfl (fun q212 => ?_) (fun q212 => ?_)
                · skip
                  have h213 : Rg 138 137 x1 := rg_ne_lo h206 (⟨by decide, by decide⟩ : Rg 137 137 137) q212
                  exact rg_no h213
                · skip
                  refine tt_aload_n (j := 0) dX10_readRest_406 rfl ?_
                  refine tt_getI (id := 673) dX10_readRest_407 fl_10_100 rfl rfl (ob_af h0 hA210) ?_
                  refine tt_goto (tgt := 417) dX10_readRest_410 rfl ?_
                  refine tt_iload_n (j := 1) dX10_readRest_417 rfl ?_
                  refine tt_sipush (v := 137) dX10_readRest_418 rfl ?_
                  refine tt_icmp_ne (tgt := 431) dX10_readRest_421 rfl (fun q214 => ?_) (fun q214 => ?_)
                  · skip
                    have h215 : Rg 138 137 x1 := rg_ne_lo h206 (⟨by decide, by decide⟩ : Rg 137 137 137) q214
                    exact rg_no h215
                  · skip
                    refine tt_aload_n (j := 0) dX10_readRest_424 rfl ?_
                    refine tt_getI (id := 672) dX10_readRest_425 fl_10_97 rfl rfl (ob_af h0 hA210) ?_
                    refine tt_goto (tgt := 435) dX10_readRest_428 rfl ?_
                    refine gt_Vv (As := [.int 13, .int (hp_I S207 673 o0), .int (hp_I S207 672 o0)]) dX10_readRest_435 ca_X10_123 ⟨by decide, by decide⟩ h0 hA210 rfl (Nat.le_of_ble_eq_true rfl) (Nat.le_of_ble_eq_true rfl) (by decide) (cs_X10_take hG208 (oa_af h0 hA210) (fun _ _ _ _ h => h)) rfl (fun _ h => nomatch h) (fun S216 hx220 hG217 hB218 hA219 => ?_)
                    refine tt_goto (tgt := 766) dX10_readRest_438 rfl ?_
                    exact tt_vreturn dX10_readRest_766 rfl (hP _ _ _ _ ⟨hG217, hA219, Or.inl ⟨_, rfl, rfl, (fun q => ⟨(Or.inr (rg_cast hx220.2.1 (rg_w (hx211 (mo_af (oa_af h0 hA210) hB218 q))))), (rg_cast hx220.2.2 (rg_w (gi_I (k := 672) hG208 (oa_af h0 hA210) 0 15)))⟩), rfl, rfl⟩⟩)
              · skip
                refine tt_iload_n (j := 1) dX10_readRest_384 rfl ?_
                refine tt_sipush (v := 139) dX10_readRest_385 rfl ?_
                refine tt_icmp_ne (tgt := 441) dX10_readRest_388 rfl (fun q221 => ?_) (fun q221 => ?_)
                · skip
                  refine tt_iload_n (j := 1) dX10_readRest_441 rfl ?_
                  refine tt_sipush (v := 199) dX10_readRest_442 rfl ?_
                  refine tt_icmp_ne (tgt := 499) dX10_readRest_445 rfl (fun q222 => ?_) (fun q222 => ?_)
                  · skip
                    refine tt_iload_n (j := 1) dX10_readRest_499 rfl ?_
                    refine tt_sipush (v := 184) dX10_readRest_500 rfl ?_
                    refine tt_icmp_lt (tgt := 564) dX10_readRest_503 rfl (fun q223 => ?_) (fun q223 => ?_)
                    · skip
                      have h224 : Rg 64 183 x1 := rg_lt_l h102 (⟨by decide, by decide⟩ : Rg 184 184 184) q223
                      refine tt_iload_n (j := 1) dX10_readRest_564 rfl ?_
                      refine tt_sipush (v := 193) dX10_readRest_565 rfl ?_
                      refine tt_icmp_ne (tgt := 682) dX10_readRest_568 rfl (fun q225 => ?_) (fun q225 => ?_)
                      · skip
                        refine tt_iload_n (j := 1) dX10_readRest_682 rfl ?_
                        refine tt_bipush (v := 99) dX10_readRest_683 rfl ?_
                        refine tt_icmp_ne (tgt := 743) dX10_readRest_685 rfl (fun q226 => ?_) (fun q226 => ?_)
                        · skip
                          refine tt_iload_n (j := 1) dX10_readRest_743 rfl ?_
                          refine tt_bipush (v := 15) dX10_readRest_744 rfl ?_
                          refine tt_icmp_ne (tgt := 761) dX10_readRest_746 rfl (fun q227 => ?_) (fun q227 => ?_)
                          · skip
                            refine tt_aload_n (j := 0) dX10_readRest_761 rfl ?_
                            refine tt_iload_n (j := 1) dX10_readRest_762 rfl ?_
                            refine gt_Vv (As := [.int x1]) dX10_readRest_763 ca_X10_147 ⟨by decide, by decide⟩ h0 hA rfl (Nat.le_of_ble_eq_true rfl) (Nat.le_of_ble_eq_true rfl) (by decide) (cs_X10_readJumps hG (oa_af h0 hA) (rg_w g655) (rg_w g658) (fun _ _ _ _ h => h)) rfl (fun _ h => nomatch h) (fun S228 hx232 hG229 hB230 hA231 => ?_)
                            exact tt_vreturn dX10_readRest_766 rfl (hP _ _ _ _ ⟨hG229, hA231, Or.inl ⟨_, rfl, rfl, hx232, rfl, rfl⟩⟩)
                          · skip
                            refine tt_aload_n (j := 0) dX10_readRest_749 rfl ?_
                            refine tt_aload_n (j := 0) dX10_readRest_750 rfl ?_
                            refine gt_VI (As := []) dX10_readRest_751 ca_X10_87 ⟨by decide, by decide⟩ h0 hA rfl (Nat.le_of_ble_eq_true rfl) (Nat.le_of_ble_eq_true rfl) (by decide) (cs_X10_next hG (oa_af h0 hA) (fun _ _ _ _ h => h)) rfl (fun _ h => nomatch h) (fun S233 x238 h239 hx237 hG234 hB235 hA236 => ?_)
                            refine tt_iload_n (j := 2) dX10_readRest_754 rfl ?_
                            refine gt_Vv (As := [.int x238, .int x2]) dX10_readRest_755 ca_X10_144 ⟨by decide, by decide⟩ h0 hA236 rfl (Nat.le_of_ble_eq_true rfl) (Nat.le_of_ble_eq_true rfl) (by decide) (cs_X10_readTwo hG234 (oa_af h0 hA236) (rg_cast ((i_af (k := 655) (oa_af h0 hA) hB235).trans rfl) (rg_w g655)) (rg_cast ((i_af (k := 658) (oa_af h0 hA) hB235).trans rfl) (rg_w g658)) (fun _ _ _ _ h => h)) rfl (fun _ h => nomatch h) (fun S240 hx244 hG241 hB242 hA243 => ?_)
                            refine tt_goto (tgt := 766) dX10_readRest_758 rfl ?_
                            exact tt_vreturn dX10_readRest_766 rfl (hP _ _ _ _ ⟨hG241, hA243, Or.inl ⟨_, rfl, rfl, hx244, rfl, rfl⟩⟩)
                        · skip
                          have h245 : Rg 99 99 x1 := rg_eq_l h224 (⟨by decide, by decide⟩ : Rg 99 99 99) q226
                          refine tt_aload_n (j := 0) dX10_readRest_688 rfl ?_
                          refine tt_iload_n (j := 2) dX10_readRest_689 rfl ?_
                          refine gt_Vv (As := [.int x2]) dX10_readRest_690 ca_X10_137 ⟨by decide, by decide⟩ h0 hA rfl (Nat.le_of_ble_eq_true rfl) (Nat.le_of_ble_eq_true rfl) (by decide) (cs_X10_readPlaces hG (oa_af h0 hA) (fun _ _ _ _ h => h)) rfl (fun _ h => nomatch h) (fun S246 hx250 hG247 hB248 hA249 => ?_)
                          refine tt_aload_n (j := 0) dX10_readRest_693 rfl ?_
                          refine tt_aload_n (j := 0) dX10_readRest_694 rfl ?_
                          refine tt_getI (id := 662) dX10_readRest_695 fl_10_84 rfl rfl (ob_af h0 hA249) ?_
                          refine tt_if_ne (tgt := 718) dX10_readRest_698 rfl (fun q251 => ?_) (fun q251 => ?_)
                          · skip
                            have h252 : Rg 1 1 (hp_I S246 662 o0) := rg_ne_lo (gi_I (k := 662) hG247 (oa_af h0 hA249) 0 1) (⟨by decide, by decide⟩ : Rg 0 0 0) q251
                            refine tt_iconst (v := 1) dX10_readRest_718 rfl ?_
                            refine tt_goto (tgt := 723) dX10_readRest_719 rfl ?_
                            refine gt_pI (id := 662) (x := 1) dX10_readRest_723 fl_10_84 rfl rfl h0 hA249 rfl rfl rfl (gp_Ir hG247 (⟨by decide, by decide⟩ : Rg 1 1 1)) (by decide) (fun _ _ q => absurd q (by decide)) (fun h => absurd h (by decide)) (fun S253 hG254 hA255 e256 f257 er258 => ?_)
                            refine tt_aload_n (j := 0) dX10_readRest_726 rfl ?_
                            refine tt_bipush (v := 18) dX10_readRest_727 rfl ?_
                            refine tt_aload_n (j := 0) dX10_readRest_729 rfl ?_
                            refine tt_getI (id := 672) dX10_readRest_730 fl_10_97 rfl rfl (ob_af h0 hA255) ?_
                            refine tt_aload_n (j := 0) dX10_readRest_733 rfl ?_
                            refine gt_gI (id := 673) (v := (hp_I S246 673 o0)) dX10_readRest_734 fl_10_100 rfl rfl h0 hA255 ((congrFun (congrFun e256 673) o0).trans ((congrFun (up2_ne (k := 673)) o0).trans rfl)) ?_
                            refine gt_Vv (As := [.int 18, .int (hp_I S253 672 o0), .int (hp_I S246 673 o0)]) dX10_readRest_737 ca_X10_123 ⟨by decide, by decide⟩ h0 hA255 rfl (Nat.le_of_ble_eq_true rfl) (Nat.le_of_ble_eq_true rfl) (by decide) (cs_X10_take hG254 (oa_af h0 hA255) (fun _ _ _ _ h => h)) rfl (fun _ h => nomatch h) (fun S259 hx263 hG260 hB261 hA262 => ?_)
                            refine tt_goto (tgt := 766) dX10_readRest_740 rfl ?_
                            exact tt_vreturn dX10_readRest_766 rfl (hP _ _ _ _ ⟨hG260, hA262, Or.inl ⟨_, rfl, rfl, (fun q => (absurd (((congrFun (congrFun e256 662) o0).trans up2_self).symm.trans (mo_af (oa_af h0 hA255) hB261 q)) (by decide))), rfl, rfl⟩⟩)
                          · skip
                            have h264 : Rg 0 0 (hp_I S246 662 o0) := rg_eq_l (gi_I (k := 662) hG247 (oa_af h0 hA249) 0 1) (⟨by decide, by decide⟩ : Rg 0 0 0) q251
                            refine tt_aload_n (j := 0) dX10_readRest_701 rfl ?_
                            refine gt_gI (id := 656) (v := (hp_I S 656 o0)) dX10_readRest_702 fl_10_127 rfl rfl h0 hA249 (i_af (k := 656) h0 hA249) ?_
                            refine tt_bipush (v := 32) dX10_readRest_705 rfl ?_
                            refine tt_icmp_eq (tgt := 718) dX10_readRest_707 rfl (fun q265 => ?_) (fun q265 => ?_)
                            · skip
                              have h266 : Rg 32 32 (hp_I S 656 o0) := rg_eq_l (rg_all (hp_I S 656 o0)) (⟨by decide, by decide⟩ : Rg 32 32 32) q265
                              refine tt_iconst (v := 1) dX10_readRest_718 rfl ?_
                              refine tt_goto (tgt := 723) dX10_readRest_719 rfl ?_
                              refine gt_pI (id := 662) (x := 1) dX10_readRest_723 fl_10_84 rfl rfl h0 hA249 rfl rfl rfl (gp_Ir hG247 (⟨by decide, by decide⟩ : Rg 1 1 1)) (by decide) (fun _ _ q => absurd q (by decide)) (fun h => absurd h (by decide)) (fun S267 hG268 hA269 e270 f271 er272 => ?_)
                              refine tt_aload_n (j := 0) dX10_readRest_726 rfl ?_
                              refine tt_bipush (v := 18) dX10_readRest_727 rfl ?_
                              refine tt_aload_n (j := 0) dX10_readRest_729 rfl ?_
                              refine tt_getI (id := 672) dX10_readRest_730 fl_10_97 rfl rfl (ob_af h0 hA269) ?_
                              refine tt_aload_n (j := 0) dX10_readRest_733 rfl ?_
                              refine gt_gI (id := 673) (v := (hp_I S246 673 o0)) dX10_readRest_734 fl_10_100 rfl rfl h0 hA269 ((congrFun (congrFun e270 673) o0).trans ((congrFun (up2_ne (k := 673)) o0).trans rfl)) ?_
                              refine gt_Vv (As := [.int 18, .int (hp_I S267 672 o0), .int (hp_I S246 673 o0)]) dX10_readRest_737 ca_X10_123 ⟨by decide, by decide⟩ h0 hA269 rfl (Nat.le_of_ble_eq_true rfl) (Nat.le_of_ble_eq_true rfl) (by decide) (cs_X10_take hG268 (oa_af h0 hA269) (fun _ _ _ _ h => h)) rfl (fun _ h => nomatch h) (fun S273 hx277 hG274 hB275 hA276 => ?_)
                              refine tt_goto (tgt := 766) dX10_readRest_740 rfl ?_
                              exact tt_vreturn dX10_readRest_766 rfl (hP _ _ _ _ ⟨hG274, hA276, Or.inl ⟨_, rfl, rfl, (fun q => (absurd (((congrFun (congrFun e270 662) o0).trans up2_self).symm.trans (mo_af (oa_af h0 hA269) hB275 q)) (by decide))), rfl, rfl⟩⟩)
                            · skip
                              refine tt_aload_n (j := 0) dX10_readRest_710 rfl ?_
                              refine tt_getI (id := 675) dX10_readRest_711 fl_10_91 rfl rfl (ob_af h0 hA249) ?_
                              refine tt_iconst (v := 3) dX10_readRest_714 rfl ?_
                              refine tt_icmp_eq (tgt := 722) dX10_readRest_715 rfl (fun q278 => ?_) (fun q278 => ?_)
                              · skip
                                have h279 : Rg 3 3 (hp_I S246 675 o0) := rg_eq_l (rg_all (hp_I S246 675 o0)) (⟨by decide, by decide⟩ : Rg 3 3 3) q278
                                refine tt_iconst (v := 0) dX10_readRest_722 rfl ?_
                                refine gt_pI (id := 662) (x := 0) dX10_readRest_723 fl_10_84 rfl rfl h0 hA249 rfl rfl rfl (gp_Ir hG247 (⟨by decide, by decide⟩ : Rg 0 0 0)) (by decide) (fun _ _ _ => (rg_eqc h264)) (fun h => absurd h (by decide)) (fun S280 hG281 hA282 e283 f284 er285 => ?_)
                                refine tt_aload_n (j := 0) dX10_readRest_726 rfl ?_
                                refine tt_bipush (v := 18) dX10_readRest_727 rfl ?_
                                refine tt_aload_n (j := 0) dX10_readRest_729 rfl ?_
                                refine tt_getI (id := 672) dX10_readRest_730 fl_10_97 rfl rfl (ob_af h0 hA282) ?_
                                refine tt_aload_n (j := 0) dX10_readRest_733 rfl ?_
                                refine gt_gI (id := 673) (v := (hp_I S246 673 o0)) dX10_readRest_734 fl_10_100 rfl rfl h0 hA282 ((congrFun (congrFun e283 673) o0).trans ((congrFun (up2_ne (k := 673)) o0).trans rfl)) ?_
                                refine gt_Vv (As := [.int 18, .int (hp_I S280 672 o0), .int (hp_I S246 673 o0)]) dX10_readRest_737 ca_X10_123 ⟨by decide, by decide⟩ h0 hA282 rfl (Nat.le_of_ble_eq_true rfl) (Nat.le_of_ble_eq_true rfl) (by decide) (cs_X10_take hG281 (oa_af h0 hA282) (fun _ _ _ _ h => h)) rfl (fun _ h => nomatch h) (fun S286 hx290 hG287 hB288 hA289 => ?_)
                                refine tt_goto (tgt := 766) dX10_readRest_740 rfl ?_
                                exact tt_vreturn dX10_readRest_766 rfl (hP _ _ _ _ ⟨hG287, hA289, Or.inl ⟨_, rfl, rfl, (fun q => ⟨(Or.inr (rg_cast hx290.2.1 (rg_w (gi_I (k := 672) hG281 (oa_af h0 hA282) 0 15)))), (rg_cast hx290.2.2 (rg_w (hx250 (rg_eqc h264))))⟩), rfl, rfl⟩⟩)
                              · skip
                                refine tt_iconst (v := 1) dX10_readRest_718 rfl ?_
                                refine tt_goto (tgt := 723) dX10_readRest_719 rfl ?_
                                refine gt_pI (id := 662) (x := 1) dX10_readRest_723 fl_10_84 rfl rfl h0 hA249 rfl rfl rfl (gp_Ir hG247 (⟨by decide, by decide⟩ : Rg 1 1 1)) (by decide) (fun _ _ q => absurd q (by decide)) (fun h => absurd h (by decide)) (fun S291 hG292 hA293 e294 f295 er296 => ?_)
                                refine tt_aload_n (j := 0) dX10_readRest_726 rfl ?_
                                refine tt_bipush (v := 18) dX10_readRest_727 rfl ?_
                                refine tt_aload_n (j := 0) dX10_readRest_729 rfl ?_
                                refine tt_getI (id := 672) dX10_readRest_730 fl_10_97 rfl rfl (ob_af h0 hA293) ?_
                                refine tt_aload_n (j := 0) dX10_readRest_733 rfl ?_
                                refine gt_gI (id := 673) (v := (hp_I S246 673 o0)) dX10_readRest_734 fl_10_100 rfl rfl h0 hA293 ((congrFun (congrFun e294 673) o0).trans ((congrFun (up2_ne (k := 673)) o0).trans rfl)) ?_
                                refine gt_Vv (As := [.int 18, .int (hp_I S291 672 o0), .int (hp_I S246 673 o0)]) dX10_readRest_737 ca_X10_123 ⟨by decide, by decide⟩ h0 hA293 rfl (Nat.le_of_ble_eq_true rfl) (Nat.le_of_ble_eq_true rfl) (by decide) (cs_X10_take hG292 (oa_af h0 hA293) (fun _ _ _ _ h => h)) rfl (fun _ h => nomatch h) (fun S297 hx301 hG298 hB299 hA300 => ?_)
                                refine tt_goto (tgt := 766) dX10_readRest_740 rfl ?_
                                exact tt_vreturn dX10_readRest_766 rfl (hP _ _ _ _ ⟨hG298, hA300, Or.inl ⟨_, rfl, rfl, (fun q => (absurd (((congrFun (congrFun e294 662) o0).trans up2_self).symm.trans (mo_af (oa_af h0 hA293) hB299 q)) (by decide))), rfl, rfl⟩⟩)
                      · skip
                        refine tt_aload_n (j := 0) dX10_readRest_571 rfl ?_
                        refine tt_iload_n (j := 2) dX10_readRest_572 rfl ?_
                        refine gt_Vv (As := [.int x2]) dX10_readRest_573 ca_X10_137 ⟨by decide, by decide⟩ h0 hA rfl (Nat.le_of_ble_eq_true rfl) (Nat.le_of_ble_eq_true rfl) (by decide) (cs_X10_readPlaces hG (oa_af h0 hA) (fun _ _ _ _ h => h)) rfl (fun _ h => nomatch h) (fun S302 hx306 hG303 hB304 hA305 => ?_)
                        refine tt_aload_n (j := 0) dX10_readRest_576 rfl ?_
                        refine tt_aload_n (j := 0) dX10_readRest_577 rfl ?_
                        refine tt_getI (id := 662) dX10_readRest_578 fl_10_84 rfl rfl (ob_af h0 hA305) ?_
                        refine tt_if_ne (tgt := 609) dX10_readRest_581 rfl (fun q307 => ?_) (fun q307 => ?_)
                        · skip
                          have h308 : Rg 1 1 (hp_I S302 662 o0) := rg_ne_lo (gi_I (k := 662) hG303 (oa_af h0 hA305) 0 1) (⟨by decide, by decide⟩ : Rg 0 0 0) q307
                          refine tt_iconst (v := 1) dX10_readRest_609 rfl ?_
                          refine tt_goto (tgt := 614) dX10_readRest_610 rfl ?_
                          refine gt_pI (id := 662) (x := 1) dX10_readRest_614 fl_10_84 rfl rfl h0 hA305 rfl rfl rfl (gp_Ir hG303 (⟨by decide, by decide⟩ : Rg 1 1 1)) (by decide) (fun _ _ q => absurd q (by decide)) (fun h => absurd h (by decide)) (fun S309 hG310 hA311 e312 f313 er314 => ?_)
                          refine tt_aload_n (j := 0) dX10_readRest_617 rfl ?_
                          refine tt_aload_n (j := 0) dX10_readRest_618 rfl ?_
                          refine tt_getI (id := 674) dX10_readRest_619 fl_10_94 rfl rfl (ob_af h0 hA311) ?_
                          refine tt_iconst (v := 4) dX10_readRest_622 rfl ?_
                          refine tt_icmp_ne (tgt := 631) dX10_readRest_623 rfl (fun q315 => ?_) (fun q315 => ?_)
                          · skip
                            refine tt_aload_n (j := 0) dX10_readRest_631 rfl ?_
                            refine tt_getI (id := 674) dX10_readRest_632 fl_10_94 rfl rfl (ob_af h0 hA311) ?_
                            refine tt_iconst (v := 5) dX10_readRest_635 rfl ?_
                            refine tt_icmp_ne (tgt := 644) dX10_readRest_636 rfl (fun q316 => ?_) (fun q316 => ?_)
                            · skip
                              refine tt_bipush (v := 16) dX10_readRest_644 rfl ?_
                              refine tt_aload_n (j := 0) dX10_readRest_646 rfl ?_
                              refine gt_gI (id := 673) (v := (hp_I S302 673 o0)) dX10_readRest_647 fl_10_100 rfl rfl h0 hA311 ((congrFun (congrFun e312 673) o0).trans ((congrFun (up2_ne (k := 673)) o0).trans rfl)) ?_
                              refine tt_iconst (v := (-1)) dX10_readRest_650 rfl ?_
                              refine gt_Vv (As := [.int 16, .int (hp_I S302 673 o0), .int (-1)]) dX10_readRest_651 ca_X10_123 ⟨by decide, by decide⟩ h0 hA311 rfl (Nat.le_of_ble_eq_true rfl) (Nat.le_of_ble_eq_true rfl) (by decide) (cs_X10_take hG310 (oa_af h0 hA311) (fun _ _ _ _ h => h)) rfl (fun _ h => nomatch h) (fun S317 hx321 hG318 hB319 hA320 => ?_)
                              refine tt_aload_n (j := 0) dX10_readRest_654 rfl ?_
                              refine tt_aload_n (j := 0) dX10_readRest_655 rfl ?_
                              refine gt_VI (As := []) dX10_readRest_656 ca_X10_87 ⟨by decide, by decide⟩ h0 hA320 rfl (Nat.le_of_ble_eq_true rfl) (Nat.le_of_ble_eq_true rfl) (by decide) (cs_X10_next hG318 (oa_af h0 hA320) (fun _ _ _ _ h => h)) rfl (fun _ h => nomatch h) (fun S322 x327 h328 hx326 hG323 hB324 hA325 => ?_)
                              refine tt_aload_n (j := 0) dX10_readRest_659 rfl ?_
                              refine gt_gI (id := 656) (v := (hp_I S 656 o0)) dX10_readRest_660 fl_10_127 rfl rfl h0 hA325 (i_af (k := 656) h0 hA325) ?_
                              refine tt_bipush (v := 64) dX10_readRest_663 rfl ?_
                              refine tt_icmp_ne (tgt := 673) dX10_readRest_665 rfl (fun q329 => ?_) (fun q329 => ?_)
                              · skip
                                refine tt_bipush (v := 31) dX10_readRest_673 rfl ?_
                                refine tt_iand dX10_readRest_675 ?_
                                refine gt_pI (id := 659) (x := (x327 &&& 31)) dX10_readRest_676 fl_10_120 rfl rfl h0 hA325 rfl rfl rfl (gp_I hG323) (by decide) (fun h => absurd h (by decide)) (fun h => absurd h (by decide)) (fun S330 hG331 hA332 e333 f334 er335 => ?_)
                                refine tt_goto (tgt := 766) dX10_readRest_679 rfl ?_
                                exact tt_vreturn dX10_readRest_766 rfl (hP _ _ _ _ ⟨hG331, hA332, Or.inl ⟨_, rfl, rfl, (fun q => (absurd (((congrFun (congrFun e312 662) o0).trans up2_self).symm.trans (mo_af (oa_af h0 hA311) hB319 (mo_af (oa_af h0 hA320) hB324 ((congrFun (up2_ne (k := 662)) o0).symm.trans ((congrFun (congrFun e333 662) o0).symm.trans q))))) (by decide))), rfl, rfl⟩⟩)
                              · skip
                                have h336 : Rg 64 64 (hp_I S 656 o0) := rg_eq_l (rg_all (hp_I S 656 o0)) (⟨by decide, by decide⟩ : Rg 64 64 64) q329
                                refine tt_bipush (v := 63) dX10_readRest_668 rfl ?_
                                refine tt_goto (tgt := 675) dX10_readRest_670 rfl ?_
                                refine tt_iand dX10_readRest_675 ?_
                                refine gt_pI (id := 659) (x := (x327 &&& 63)) dX10_readRest_676 fl_10_120 rfl rfl h0 hA325 rfl rfl rfl (gp_I hG323) (by decide) (fun h => absurd h (by decide)) (fun h => absurd h (by decide)) (fun S337 hG338 hA339 e340 f341 er342 => ?_)
                                refine tt_goto (tgt := 766) dX10_readRest_679 rfl ?_
                                exact tt_vreturn dX10_readRest_766 rfl (hP _ _ _ _ ⟨hG338, hA339, Or.inl ⟨_, rfl, rfl, (fun q => (absurd (((congrFun (congrFun e312 662) o0).trans up2_self).symm.trans (mo_af (oa_af h0 hA311) hB319 (mo_af (oa_af h0 hA320) hB324 ((congrFun (up2_ne (k := 662)) o0).symm.trans ((congrFun (congrFun e340 662) o0).symm.trans q))))) (by decide))), rfl, rfl⟩⟩)
                            · skip
                              have h343 : Rg 5 5 (hp_I S309 674 o0) := rg_eq_l (gi_I (k := 674) hG310 (oa_af h0 hA311) 0 7) (⟨by decide, by decide⟩ : Rg 5 5 5) q316
                              refine tt_bipush (v := 15) dX10_readRest_639 rfl ?_
                              refine tt_goto (tgt := 646) dX10_readRest_641 rfl ?_
                              refine tt_aload_n (j := 0) dX10_readRest_646 rfl ?_
                              refine gt_gI (id := 673) (v := (hp_I S302 673 o0)) dX10_readRest_647 fl_10_100 rfl rfl h0 hA311 ((congrFun (congrFun e312 673) o0).trans ((congrFun (up2_ne (k := 673)) o0).trans rfl)) ?_
                              refine tt_iconst (v := (-1)) dX10_readRest_650 rfl ?_
                              refine gt_Vv (As := [.int 15, .int (hp_I S302 673 o0), .int (-1)]) dX10_readRest_651 ca_X10_123 ⟨by decide, by decide⟩ h0 hA311 rfl (Nat.le_of_ble_eq_true rfl) (Nat.le_of_ble_eq_true rfl) (by decide) (cs_X10_take hG310 (oa_af h0 hA311) (fun _ _ _ _ h => h)) rfl (fun _ h => nomatch h) (fun S344 hx348 hG345 hB346 hA347 => ?_)
                              refine tt_aload_n (j := 0) dX10_readRest_654 rfl ?_
                              refine tt_aload_n (j := 0) dX10_readRest_655 rfl ?_
                              refine gt_VI (As := []) dX10_readRest_656 ca_X10_87 ⟨by decide, by decide⟩ h0 hA347 rfl (Nat.le_of_ble_eq_true rfl) (Nat.le_of_ble_eq_true rfl) (by decide) (cs_X10_next hG345 (oa_af h0 hA347) (fun _ _ _ _ h => h)) rfl (fun _ h => nomatch h) (fun S349 x354 h355 hx353 hG350 hB351 hA352 => ?_)
                              refine tt_aload_n (j := 0) dX10_readRest_659 rfl ?_
                              refine gt_gI (id := 656) (v := (hp_I S 656 o0)) dX10_readRest_660 fl_10_127 rfl rfl h0 hA352 (i_af (k := 656) h0 hA352) ?_
                              refine tt_bipush (v := 64) dX10_readRest_663 rfl ?_
                              refine tt_icmp_ne (tgt := 673) dX10_readRest_665 rfl (fun q356 => ?_) (fun q356 => ?_)
                              · skip
                                refine tt_bipush (v := 31) dX10_readRest_673 rfl ?_
                                refine tt_iand dX10_readRest_675 ?_
                                refine gt_pI (id := 659) (x := (x354 &&& 31)) dX10_readRest_676 fl_10_120 rfl rfl h0 hA352 rfl rfl rfl (gp_I hG350) (by decide) (fun h => absurd h (by decide)) (fun h => absurd h (by decide)) (fun S357 hG358 hA359 e360 f361 er362 => ?_)
                                refine tt_goto (tgt := 766) dX10_readRest_679 rfl ?_
                                exact tt_vreturn dX10_readRest_766 rfl (hP _ _ _ _ ⟨hG358, hA359, Or.inl ⟨_, rfl, rfl, (fun q => (absurd (((congrFun (congrFun e312 662) o0).trans up2_self).symm.trans (mo_af (oa_af h0 hA311) hB346 (mo_af (oa_af h0 hA347) hB351 ((congrFun (up2_ne (k := 662)) o0).symm.trans ((congrFun (congrFun e360 662) o0).symm.trans q))))) (by decide))), rfl, rfl⟩⟩)
                              · skip
                                have h363 : Rg 64 64 (hp_I S 656 o0) := rg_eq_l (rg_all (hp_I S 656 o0)) (⟨by decide, by decide⟩ : Rg 64 64 64) q356
                                refine tt_bipush (v := 63) dX10_readRest_668 rfl ?_
                                refine tt_goto (tgt := 675) dX10_readRest_670 rfl ?_
                                refine tt_iand dX10_readRest_675 ?_
                                refine gt_pI (id := 659) (x := (x354 &&& 63)) dX10_readRest_676 fl_10_120 rfl rfl h0 hA352 rfl rfl rfl (gp_I hG350) (by decide) (fun h => absurd h (by decide)) (fun h => absurd h (by decide)) (fun S364 hG365 hA366 e367 f368 er369 => ?_)
                                refine tt_goto (tgt := 766) dX10_readRest_679 rfl ?_
                                exact tt_vreturn dX10_readRest_766 rfl (hP _ _ _ _ ⟨hG365, hA366, Or.inl ⟨_, rfl, rfl, (fun q => (absurd (((congrFun (congrFun e312 662) o0).trans up2_self).symm.trans (mo_af (oa_af h0 hA311) hB346 (mo_af (oa_af h0 hA347) hB351 ((congrFun (up2_ne (k := 662)) o0).symm.trans ((congrFun (congrFun e367 662) o0).symm.trans q))))) (by decide))), rfl, rfl⟩⟩)
                          · skip
                            have h370 : Rg 4 4 (hp_I S309 674 o0) := rg_eq_l (gi_I (k := 674) hG310 (oa_af h0 hA311) 0 7) (⟨by decide, by decide⟩ : Rg 4 4 4) q315
                            refine tt_bipush (v := 14) dX10_readRest_626 rfl ?_
                            refine tt_goto (tgt := 646) dX10_readRest_628 rfl ?_
                            refine tt_aload_n (j := 0) dX10_readRest_646 rfl ?_
                            refine gt_gI (id := 673) (v := (hp_I S302 673 o0)) dX10_readRest_647 fl_10_100 rfl rfl h0 hA311 ((congrFun (congrFun e312 673) o0).trans ((congrFun (up2_ne (k := 673)) o0).trans rfl)) ?_
                            refine tt_iconst (v := (-1)) dX10_readRest_650 rfl ?_
                            refine gt_Vv (As := [.int 14, .int (hp_I S302 673 o0), .int (-1)]) dX10_readRest_651 ca_X10_123 ⟨by decide, by decide⟩ h0 hA311 rfl (Nat.le_of_ble_eq_true rfl) (Nat.le_of_ble_eq_true rfl) (by decide) (cs_X10_take hG310 (oa_af h0 hA311) (fun _ _ _ _ h => h)) rfl (fun _ h => nomatch h) (fun S371 hx375 hG372 hB373 hA374 => ?_)
                            refine tt_aload_n (j := 0) dX10_readRest_654 rfl ?_
                            refine tt_aload_n (j := 0) dX10_readRest_655 rfl ?_
                            refine gt_VI (As := []) dX10_readRest_656 ca_X10_87 ⟨by decide, by decide⟩ h0 hA374 rfl (Nat.le_of_ble_eq_true rfl) (Nat.le_of_ble_eq_true rfl) (by decide) (cs_X10_next hG372 (oa_af h0 hA374) (fun _ _ _ _ h => h)) rfl (fun _ h => nomatch h) (fun S376 x381 h382 hx380 hG377 hB378 hA379 => ?_)
                            refine tt_aload_n (j := 0) dX10_readRest_659 rfl ?_
                            refine gt_gI (id := 656) (v := (hp_I S 656 o0)) dX10_readRest_660 fl_10_127 rfl rfl h0 hA379 (i_af (k := 656) h0 hA379) ?_
                            refine tt_bipush (v := 64) dX10_readRest_663 rfl ?_
                            refine tt_icmp_ne (tgt := 673) dX10_readRest_665 rfl (fun q383 => ?_) (fun q383 => ?_)
                            · skip
                              refine tt_bipush (v := 31) dX10_readRest_673 rfl ?_
                              refine tt_iand dX10_readRest_675 ?_
                              refine gt_pI (id := 659) (x := (x381 &&& 31)) dX10_readRest_676 fl_10_120 rfl rfl h0 hA379 rfl rfl rfl (gp_I hG377) (by decide) (fun h => absurd h (by decide)) (fun h => absurd h (by decide)) (fun S384 hG385 hA386 e387 f388 er389 => ?_)
                              refine tt_goto (tgt := 766) dX10_readRest_679 rfl ?_
                              exact tt_vreturn dX10_readRest_766 rfl (hP _ _ _ _ ⟨hG385, hA386, Or.inl ⟨_, rfl, rfl, (fun q => (absurd (((congrFun (congrFun e312 662) o0).trans up2_self).symm.trans (mo_af (oa_af h0 hA311) hB373 (mo_af (oa_af h0 hA374) hB378 ((congrFun (up2_ne (k := 662)) o0).symm.trans ((congrFun (congrFun e387 662) o0).symm.trans q))))) (by decide))), rfl, rfl⟩⟩)
                            · skip
                              have h390 : Rg 64 64 (hp_I S 656 o0) := rg_eq_l (rg_all (hp_I S 656 o0)) (⟨by decide, by decide⟩ : Rg 64 64 64) q383
                              refine tt_bipush (v := 63) dX10_readRest_668 rfl ?_
                              refine tt_goto (tgt := 675) dX10_readRest_670 rfl ?_
                              refine tt_iand dX10_readRest_675 ?_
                              refine gt_pI (id := 659) (x := (x381 &&& 63)) dX10_readRest_676 fl_10_120 rfl rfl h0 hA379 rfl rfl rfl (gp_I hG377) (by decide) (fun h => absurd h (by decide)) (fun h => absurd h (by decide)) (fun S391 hG392 hA393 e394 f395 er396 => ?_)
                              refine tt_goto (tgt := 766) dX10_readRest_679 rfl ?_
                              exact tt_vreturn dX10_readRest_766 rfl (hP _ _ _ _ ⟨hG392, hA393, Or.inl ⟨_, rfl, rfl, (fun q => (absurd (((congrFun (congrFun e312 662) o0).trans up2_self).symm.trans (mo_af (oa_af h0 hA311) hB373 (mo_af (oa_af h0 hA374) hB378 ((congrFun (up2_ne (k := 662)) o0).symm.trans ((congrFun (congrFun e394 662) o0).symm.trans q))))) (by decide))), rfl, rfl⟩⟩)
                        · skip
                          have h397 : Rg 0 0 (hp_I S302 662 o0) := rg_eq_l (gi_I (k := 662) hG303 (oa_af h0 hA305) 0 1) (⟨by decide, by decide⟩ : Rg 0 0 0) q307
                          refine tt_aload_n (j := 0) dX10_readRest_584 rfl ?_
                          refine tt_getI (id := 674) dX10_readRest_585 fl_10_94 rfl rfl (ob_af h0 hA305) ?_
                          refine tt_iconst (v := 4) dX10_readRest_588 rfl ?_
                          refine tt_icmp_eq (tgt := 613) dX10_readRest_589 rfl (fun q398 => ?_) (fun q398 => ?_)
                          · skip
                            have h399 : Rg 4 4 (hp_I S302 674 o0) := rg_eq_l (gi_I (k := 674) hG303 (oa_af h0 hA305) 0 7) (⟨by decide, by decide⟩ : Rg 4 4 4) q398
                            refine tt_iconst (v := 0) dX10_readRest_613 rfl ?_
                            refine gt_pI (id := 662) (x := 0) dX10_readRest_614 fl_10_84 rfl rfl h0 hA305 rfl rfl rfl (gp_Ir hG303 (⟨by decide, by decide⟩ : Rg 0 0 0)) (by decide) (fun _ _ _ => (rg_eqc h397)) (fun h => absurd h (by decide)) (fun S400 hG401 hA402 e403 f404 er405 => ?_)
                            refine tt_aload_n (j := 0) dX10_readRest_617 rfl ?_
                            refine tt_aload_n (j := 0) dX10_readRest_618 rfl ?_
                            refine gt_gI (id := 674) (v := (hp_I S302 674 o0)) dX10_readRest_619 fl_10_94 rfl rfl h0 hA402 ((congrFun (congrFun e403 674) o0).trans ((congrFun (up2_ne (k := 674)) o0).trans rfl)) ?_
                            refine tt_iconst (v := 4) dX10_readRest_622 rfl ?_
                            refine tt_icmp_ne (tgt := 631) dX10_readRest_623 rfl (fun q406 => ?_) (fun q406 => ?_)
                            · skip
                              have h407 : Rg 5 4 (hp_I S302 674 o0) := rg_ne_lo h399 (⟨by decide, by decide⟩ : Rg 4 4 4) q406
                              exact rg_no h407
                            · skip
                              refine tt_bipush (v := 14) dX10_readRest_626 rfl ?_
                              refine tt_goto (tgt := 646) dX10_readRest_628 rfl ?_
                              refine tt_aload_n (j := 0) dX10_readRest_646 rfl ?_
                              refine gt_gI (id := 673) (v := (hp_I S302 673 o0)) dX10_readRest_647 fl_10_100 rfl rfl h0 hA402 ((congrFun (congrFun e403 673) o0).trans ((congrFun (up2_ne (k := 673)) o0).trans rfl)) ?_
                              refine tt_iconst (v := (-1)) dX10_readRest_650 rfl ?_
                              refine gt_Vv (As := [.int 14, .int (hp_I S302 673 o0), .int (-1)]) dX10_readRest_651 ca_X10_123 ⟨by decide, by decide⟩ h0 hA402 rfl (Nat.le_of_ble_eq_true rfl) (Nat.le_of_ble_eq_true rfl) (by decide) (cs_X10_take hG401 (oa_af h0 hA402) (fun _ _ _ _ h => h)) rfl (fun _ h => nomatch h) (fun S408 hx412 hG409 hB410 hA411 => ?_)
                              refine tt_aload_n (j := 0) dX10_readRest_654 rfl ?_
                              refine tt_aload_n (j := 0) dX10_readRest_655 rfl ?_
                              refine gt_VI (As := []) dX10_readRest_656 ca_X10_87 ⟨by decide, by decide⟩ h0 hA411 rfl (Nat.le_of_ble_eq_true rfl) (Nat.le_of_ble_eq_true rfl) (by decide) (cs_X10_next hG409 (oa_af h0 hA411) (fun _ _ _ _ h => h)) rfl (fun _ h => nomatch h) (fun S413 x418 h419 hx417 hG414 hB415 hA416 => ?_)
                              refine tt_aload_n (j := 0) dX10_readRest_659 rfl ?_
                              refine gt_gI (id := 656) (v := (hp_I S 656 o0)) dX10_readRest_660 fl_10_127 rfl rfl h0 hA416 (i_af (k := 656) h0 hA416) ?_
                              refine tt_bipush (v := 64) dX10_readRest_663 rfl ?_
                              refine tt_icmp_ne (tgt := 673) dX10_readRest_665 rfl (fun q420 => ?_) (fun q420 => ?_)
                              · skip
                                refine tt_bipush (v := 31) dX10_readRest_673 rfl ?_
                                refine tt_iand dX10_readRest_675 ?_
                                refine gt_pI (id := 659) (x := (x418 &&& 31)) dX10_readRest_676 fl_10_120 rfl rfl h0 hA416 rfl rfl rfl (gp_I hG414) (by decide) (fun h => absurd h (by decide)) (fun h => absurd h (by decide)) (fun S421 hG422 hA423 e424 f425 er426 => ?_)
                                refine tt_goto (tgt := 766) dX10_readRest_679 rfl ?_
                                exact tt_vreturn dX10_readRest_766 rfl (hP _ _ _ _ ⟨hG422, hA423, Or.inl ⟨_, rfl, rfl, (fun q => ⟨(Or.inr (rg_cast ((congrFun (congrFun e424 657) o0).trans ((congrFun (up2_ne (k := 657)) o0).trans ((i_af (k := 657) (oa_af h0 hA411) hB415).trans hx412.2.1))) (rg_w (hx306 (rg_eqc h397))))), (rg_cast ((congrFun (congrFun e424 658) o0).trans ((congrFun (up2_ne (k := 658)) o0).trans ((i_af (k := 658) (oa_af h0 hA411) hB415).trans hx412.2.2))) (rg_w (⟨by decide, by decide⟩ : Rg (-1) (-1) (-1))))⟩), rfl, rfl⟩⟩)
                              · skip
                                have h427 : Rg 64 64 (hp_I S 656 o0) := rg_eq_l (rg_all (hp_I S 656 o0)) (⟨by decide, by decide⟩ : Rg 64 64 64) q420
                                refine tt_bipush (v := 63) dX10_readRest_668 rfl ?_
                                refine tt_goto (tgt := 675) dX10_readRest_670 rfl ?_
                                refine tt_iand dX10_readRest_675 ?_
                                refine gt_pI (id := 659) (x := (x418 &&& 63)) dX10_readRest_676 fl_10_120 rfl rfl h0 hA416 rfl rfl rfl (gp_I hG414) (by decide) (fun h => absurd h (by decide)) (fun h => absurd h (by decide)) (fun S428 hG429 hA430 e431 f432 er433 => ?_)
                                refine tt_goto (tgt := 766) dX10_readRest_679 rfl ?_
                                exact tt_vreturn dX10_readRest_766 rfl (hP _ _ _ _ ⟨hG429, hA430, Or.inl ⟨_, rfl, rfl, (fun q => ⟨(Or.inr (rg_cast ((congrFun (congrFun e431 657) o0).trans ((congrFun (up2_ne (k := 657)) o0).trans ((i_af (k := 657) (oa_af h0 hA411) hB415).trans hx412.2.1))) (rg_w (hx306 (rg_eqc h397))))), (rg_cast ((congrFun (congrFun e431 658) o0).trans ((congrFun (up2_ne (k := 658)) o0).trans ((i_af (k := 658) (oa_af h0 hA411) hB415).trans hx412.2.2))) (rg_w (⟨by decide, by decide⟩ : Rg (-1) (-1) (-1))))⟩), rfl, rfl⟩⟩)
                          · skip
                            refine tt_aload_n (j := 0) dX10_readRest_592 rfl ?_
                            refine tt_getI (id := 674) dX10_readRest_593 fl_10_94 rfl rfl (ob_af h0 hA305) ?_
                            refine tt_iconst (v := 5) dX10_readRest_596 rfl ?_
                            refine tt_icmp_eq (tgt := 613) dX10_readRest_597 rfl (fun q434 => ?_) (fun q434 => ?_)
                            · skip
                              have h435 : Rg 5 5 (hp_I S302 674 o0) := rg_eq_l (gi_I (k := 674) hG303 (oa_af h0 hA305) 0 7) (⟨by decide, by decide⟩ : Rg 5 5 5) q434
                              refine tt_iconst (v := 0) dX10_readRest_613 rfl ?_
                              refine gt_pI (id := 662) (x := 0) dX10_readRest_614 fl_10_84 rfl rfl h0 hA305 rfl rfl rfl (gp_Ir hG303 (⟨by decide, by decide⟩ : Rg 0 0 0)) (by decide) (fun _ _ _ => (rg_eqc h397)) (fun h => absurd h (by decide)) (fun S436 hG437 hA438 e439 f440 er441 => ?_)
                              refine tt_aload_n (j := 0) dX10_readRest_617 rfl ?_
                              refine tt_aload_n (j := 0) dX10_readRest_618 rfl ?_
                              refine gt_gI (id := 674) (v := (hp_I S302 674 o0)) dX10_readRest_619 fl_10_94 rfl rfl h0 hA438 ((congrFun (congrFun e439 674) o0).trans ((congrFun (up2_ne (k := 674)) o0).trans rfl)) ?_
                              refine tt_iconst (v := 4) dX10_readRest_622 rfl ?_
                              refine tt_icmp_ne (tgt := 631) dX10_readRest_623 rfl (fun q442 => ?_) (fun q442 => ?_)
                              · skip
                                refine tt_aload_n (j := 0) dX10_readRest_631 rfl ?_
                                refine gt_gI (id := 674) (v := (hp_I S302 674 o0)) dX10_readRest_632 fl_10_94 rfl rfl h0 hA438 ((congrFun (congrFun e439 674) o0).trans ((congrFun (up2_ne (k := 674)) o0).trans rfl)) ?_
                                refine tt_iconst (v := 5) dX10_readRest_635 rfl ?_
                                refine tt_icmp_ne (tgt := 644) dX10_readRest_636 rfl (fun q443 => ?_) (fun q443 => ?_)
                                · skip
                                  have h444 : Rg 6 5 (hp_I S302 674 o0) := rg_ne_lo h435 (⟨by decide, by decide⟩ : Rg 5 5 5) q443
                                  exact rg_no h444
                                · skip
                                  refine tt_bipush (v := 15) dX10_readRest_639 rfl ?_
                                  refine tt_goto (tgt := 646) dX10_readRest_641 rfl ?_
                                  refine tt_aload_n (j := 0) dX10_readRest_646 rfl ?_
                                  refine gt_gI (id := 673) (v := (hp_I S302 673 o0)) dX10_readRest_647 fl_10_100 rfl rfl h0 hA438 ((congrFun (congrFun e439 673) o0).trans ((congrFun (up2_ne (k := 673)) o0).trans rfl)) ?_
                                  refine tt_iconst (v := (-1)) dX10_readRest_650 rfl ?_
                                  refine gt_Vv (As := [.int 15, .int (hp_I S302 673 o0), .int (-1)]) dX10_readRest_651 ca_X10_123 ⟨by decide, by decide⟩ h0 hA438 rfl (Nat.le_of_ble_eq_true rfl) (Nat.le_of_ble_eq_true rfl) (by decide) (cs_X10_take hG437 (oa_af h0 hA438) (fun _ _ _ _ h => h)) rfl (fun _ h => nomatch h) (fun S445 hx449 hG446 hB447 hA448 => ?_)
                                  refine tt_aload_n (j := 0) dX10_readRest_654 rfl ?_
                                  refine tt_aload_n (j := 0) dX10_readRest_655 rfl ?_
                                  refine gt_VI (As := []) dX10_readRest_656 ca_X10_87 ⟨by decide, by decide⟩ h0 hA448 rfl (Nat.le_of_ble_eq_true rfl) (Nat.le_of_ble_eq_true rfl) (by decide) (cs_X10_next hG446 (oa_af h0 hA448) (fun _ _ _ _ h => h)) rfl (fun _ h => nomatch h) (fun S450 x455 h456 hx454 hG451 hB452 hA453 => ?_)
                                  refine tt_aload_n (j := 0) dX10_readRest_659 rfl ?_
                                  refine gt_gI (id := 656) (v := (hp_I S 656 o0)) dX10_readRest_660 fl_10_127 rfl rfl h0 hA453 (i_af (k := 656) h0 hA453) ?_
                                  refine tt_bipush (v := 64) dX10_readRest_663 rfl ?_
                                  refine tt_icmp_ne (tgt := 673) dX10_readRest_665 rfl (fun q457 => ?_) (fun q457 => ?_)
                                  · skip
                                    refine tt_bipush (v := 31) dX10_readRest_673 rfl ?_
                                    refine tt_iand dX10_readRest_675 ?_
                                    refine gt_pI (id := 659) (x := (x455 &&& 31)) dX10_readRest_676 fl_10_120 rfl rfl h0 hA453 rfl rfl rfl (gp_I hG451) (by decide) (fun h => absurd h (by decide)) (fun h => absurd h (by decide)) (fun S458 hG459 hA460 e461 f462 er463 => ?_)
                                    refine tt_goto (tgt := 766) dX10_readRest_679 rfl ?_
                                    exact tt_vreturn dX10_readRest_766 rfl (hP _ _ _ _ ⟨hG459, hA460, Or.inl ⟨_, rfl, rfl, (fun q => ⟨(Or.inr (rg_cast ((congrFun (congrFun e461 657) o0).trans ((congrFun (up2_ne (k := 657)) o0).trans ((i_af (k := 657) (oa_af h0 hA448) hB452).trans hx449.2.1))) (rg_w (hx306 (rg_eqc h397))))), (rg_cast ((congrFun (congrFun e461 658) o0).trans ((congrFun (up2_ne (k := 658)) o0).trans ((i_af (k := 658) (oa_af h0 hA448) hB452).trans hx449.2.2))) (rg_w (⟨by decide, by decide⟩ : Rg (-1) (-1) (-1))))⟩), rfl, rfl⟩⟩)
                                  · skip
                                    have h464 : Rg 64 64 (hp_I S 656 o0) := rg_eq_l (rg_all (hp_I S 656 o0)) (⟨by decide, by decide⟩ : Rg 64 64 64) q457
                                    refine tt_bipush (v := 63) dX10_readRest_668 rfl ?_
                                    refine tt_goto (tgt := 675) dX10_readRest_670 rfl ?_
                                    refine tt_iand dX10_readRest_675 ?_
                                    refine gt_pI (id := 659) (x := (x455 &&& 63)) dX10_readRest_676 fl_10_120 rfl rfl h0 hA453 rfl rfl rfl (gp_I hG451) (by decide) (fun h => absurd h (by decide)) (fun h => absurd h (by decide)) (fun S465 hG466 hA467 e468 f469 er470 => ?_)
                                    refine tt_goto (tgt := 766) dX10_readRest_679 rfl ?_
                                    exact tt_vreturn dX10_readRest_766 rfl (hP _ _ _ _ ⟨hG466, hA467, Or.inl ⟨_, rfl, rfl, (fun q => ⟨(Or.inr (rg_cast ((congrFun (congrFun e468 657) o0).trans ((congrFun (up2_ne (k := 657)) o0).trans ((i_af (k := 657) (oa_af h0 hA448) hB452).trans hx449.2.1))) (rg_w (hx306 (rg_eqc h397))))), (rg_cast ((congrFun (congrFun e468 658) o0).trans ((congrFun (up2_ne (k := 658)) o0).trans ((i_af (k := 658) (oa_af h0 hA448) hB452).trans hx449.2.2))) (rg_w (⟨by decide, by decide⟩ : Rg (-1) (-1) (-1))))⟩), rfl, rfl⟩⟩)
                              · skip
                                refine tt_bipush (v := 14) dX10_readRest_626 rfl ?_
                                refine tt_goto (tgt := 646) dX10_readRest_628 rfl ?_
                                refine tt_aload_n (j := 0) dX10_readRest_646 rfl ?_
                                refine gt_gI (id := 673) (v := (hp_I S302 673 o0)) dX10_readRest_647 fl_10_100 rfl rfl h0 hA438 ((congrFun (congrFun e439 673) o0).trans ((congrFun (up2_ne (k := 673)) o0).trans rfl)) ?_
                                refine tt_iconst (v := (-1)) dX10_readRest_650 rfl ?_
                                refine gt_Vv (As := [.int 14, .int (hp_I S302 673 o0), .int (-1)]) dX10_readRest_651 ca_X10_123 ⟨by decide, by decide⟩ h0 hA438 rfl (Nat.le_of_ble_eq_true rfl) (Nat.le_of_ble_eq_true rfl) (by decide) (cs_X10_take hG437 (oa_af h0 hA438) (fun _ _ _ _ h => h)) rfl (fun _ h => nomatch h) (fun S471 hx475 hG472 hB473 hA474 => ?_)
                                refine tt_aload_n (j := 0) dX10_readRest_654 rfl ?_
                                refine tt_aload_n (j := 0) dX10_readRest_655 rfl ?_
                                refine gt_VI (As := []) dX10_readRest_656 ca_X10_87 ⟨by decide, by decide⟩ h0 hA474 rfl (Nat.le_of_ble_eq_true rfl) (Nat.le_of_ble_eq_true rfl) (by decide) (cs_X10_next hG472 (oa_af h0 hA474) (fun _ _ _ _ h => h)) rfl (fun _ h => nomatch h) (fun S476 x481 h482 hx480 hG477 hB478 hA479 => ?_)
                                refine tt_aload_n (j := 0) dX10_readRest_659 rfl ?_
                                refine gt_gI (id := 656) (v := (hp_I S 656 o0)) dX10_readRest_660 fl_10_127 rfl rfl h0 hA479 (i_af (k := 656) h0 hA479) ?_
                                refine tt_bipush (v := 64) dX10_readRest_663 rfl ?_
                                refine tt_icmp_ne (tgt := 673) dX10_readRest_665 rfl (fun q483 => ?_) (fun q483 => ?_)
                                · skip
                                  refine tt_bipush (v := 31) dX10_readRest_673 rfl ?_
                                  refine tt_iand dX10_readRest_675 ?_
                                  refine gt_pI (id := 659) (x := (x481 &&& 31)) dX10_readRest_676 fl_10_120 rfl rfl h0 hA479 rfl rfl rfl (gp_I hG477) (by decide) (fun h => absurd h (by decide)) (fun h => absurd h (by decide)) (fun S484 hG485 hA486 e487 f488 er489 => ?_)
                                  refine tt_goto (tgt := 766) dX10_readRest_679 rfl ?_
                                  exact tt_vreturn dX10_readRest_766 rfl (hP _ _ _ _ ⟨hG485, hA486, Or.inl ⟨_, rfl, rfl, (fun q => ⟨(Or.inr (rg_cast ((congrFun (congrFun e487 657) o0).trans ((congrFun (up2_ne (k := 657)) o0).trans ((i_af (k := 657) (oa_af h0 hA474) hB478).trans hx475.2.1))) (rg_w (hx306 (rg_eqc h397))))), (rg_cast ((congrFun (congrFun e487 658) o0).trans ((congrFun (up2_ne (k := 658)) o0).trans ((i_af (k := 658) (oa_af h0 hA474) hB478).trans hx475.2.2))) (rg_w (⟨by decide, by decide⟩ : Rg (-1) (-1) (-1))))⟩), rfl, rfl⟩⟩)
                                · skip
                                  have h490 : Rg 64 64 (hp_I S 656 o0) := rg_eq_l (rg_all (hp_I S 656 o0)) (⟨by decide, by decide⟩ : Rg 64 64 64) q483
                                  refine tt_bipush (v := 63) dX10_readRest_668 rfl ?_
                                  refine tt_goto (tgt := 675) dX10_readRest_670 rfl ?_
                                  refine tt_iand dX10_readRest_675 ?_
                                  refine gt_pI (id := 659) (x := (x481 &&& 63)) dX10_readRest_676 fl_10_120 rfl rfl h0 hA479 rfl rfl rfl (gp_I hG477) (by decide) (fun h => absurd h (by decide)) (fun h => absurd h (by decide)) (fun S491 hG492 hA493 e494 f495 er496 => ?_)
                                  refine tt_goto (tgt := 766) dX10_readRest_679 rfl ?_
                                  exact tt_vreturn dX10_readRest_766 rfl (hP _ _ _ _ ⟨hG492, hA493, Or.inl ⟨_, rfl, rfl, (fun q => ⟨(Or.inr (rg_cast ((congrFun (congrFun e494 657) o0).trans ((congrFun (up2_ne (k := 657)) o0).trans ((i_af (k := 657) (oa_af h0 hA474) hB478).trans hx475.2.1))) (rg_w (hx306 (rg_eqc h397))))), (rg_cast ((congrFun (congrFun e494 658) o0).trans ((congrFun (up2_ne (k := 658)) o0).trans ((i_af (k := 658) (oa_af h0 hA474) hB478).trans hx475.2.2))) (rg_w (⟨by decide, by decide⟩ : Rg (-1) (-1) (-1))))⟩), rfl, rfl⟩⟩)
                            · skip
                              refine tt_aload_n (j := 0) dX10_readRest_600 rfl ?_
                              refine tt_getI (id := 674) dX10_readRest_601 fl_10_94 rfl rfl (ob_af h0 hA305) ?_
                              refine tt_bipush (v := 7) dX10_readRest_604 rfl ?_
                              refine tt_icmp_eq (tgt := 613) dX10_readRest_606 rfl (fun q497 => ?_) (fun q497 => ?_)
                              · skip
                                have h498 : Rg 7 7 (hp_I S302 674 o0) := rg_eq_l (gi_I (k := 674) hG303 (oa_af h0 hA305) 0 7) (⟨by decide, by decide⟩ : Rg 7 7 7) q497
                                refine tt_iconst (v := 0) dX10_readRest_613 rfl ?_
                                refine gt_pI (id := 662) (x := 0) dX10_readRest_614 fl_10_84 rfl rfl h0 hA305 rfl rfl rfl (gp_Ir hG303 (⟨by decide, by decide⟩ : Rg 0 0 0)) (by decide) (fun _ _ _ => (rg_eqc h397)) (fun h => absurd h (by decide)) (fun S499 hG500 hA501 e502 f503 er504 => ?_)
                                refine tt_aload_n (j := 0) dX10_readRest_617 rfl ?_
                                refine tt_aload_n (j := 0) dX10_readRest_618 rfl ?_
                                refine gt_gI (id := 674) (v := (hp_I S302 674 o0)) dX10_readRest_619 fl_10_94 rfl rfl h0 hA501 ((congrFun (congrFun e502 674) o0).trans ((congrFun (up2_ne (k := 674)) o0).trans rfl)) ?_
                                refine tt_iconst (v := 4) dX10_readRest_622 rfl ?_
                                refine tt_icmp_ne (tgt := 631) dX10_readRest_623 rfl (fun q505 => ?_) (fun q505 => ?_)
                                · skip
                                  refine tt_aload_n (j := 0) dX10_readRest_631 rfl ?_
                                  refine gt_gI (id := 674) (v := (hp_I S302 674 o0)) dX10_readRest_632 fl_10_94 rfl rfl h0 hA501 ((congrFun (congrFun e502 674) o0).trans ((congrFun (up2_ne (k := 674)) o0).trans rfl)) ?_
                                  refine tt_iconst (v := 5) dX10_readRest_635 rfl ?_
                                  refine tt_icmp_ne (tgt := 644) dX10_readRest_636 rfl (fun q506 => ?_) (fun q506 => ?_)
                                  · skip
                                    refine tt_bipush (v := 16) dX10_readRest_644 rfl ?_
                                    refine tt_aload_n (j := 0) dX10_readRest_646 rfl ?_
                                    refine gt_gI (id := 673) (v := (hp_I S302 673 o0)) dX10_readRest_647 fl_10_100 rfl rfl h0 hA501 ((congrFun (congrFun e502 673) o0).trans ((congrFun (up2_ne (k := 673)) o0).trans rfl)) ?_
                                    refine tt_iconst (v := (-1)) dX10_readRest_650 rfl ?_
                                    refine gt_Vv (As := [.int 16, .int (hp_I S302 673 o0), .int (-1)]) dX10_readRest_651 ca_X10_123 ⟨by decide, by decide⟩ h0 hA501 rfl (Nat.le_of_ble_eq_true rfl) (Nat.le_of_ble_eq_true rfl) (by decide) (cs_X10_take hG500 (oa_af h0 hA501) (fun _ _ _ _ h => h)) rfl (fun _ h => nomatch h) (fun S507 hx511 hG508 hB509 hA510 => ?_)
                                    refine tt_aload_n (j := 0) dX10_readRest_654 rfl ?_
                                    refine tt_aload_n (j := 0) dX10_readRest_655 rfl ?_
                                    refine gt_VI (As := []) dX10_readRest_656 ca_X10_87 ⟨by decide, by decide⟩ h0 hA510 rfl (Nat.le_of_ble_eq_true rfl) (Nat.le_of_ble_eq_true rfl) (by decide) (cs_X10_next hG508 (oa_af h0 hA510) (fun _ _ _ _ h => h)) rfl (fun _ h => nomatch h) (fun S512 x517 h518 hx516 hG513 hB514 hA515 => ?_)
                                    refine tt_aload_n (j := 0) dX10_readRest_659 rfl ?_
                                    refine gt_gI (id := 656) (v := (hp_I S 656 o0)) dX10_readRest_660 fl_10_127 rfl rfl h0 hA515 (i_af (k := 656) h0 hA515) ?_
                                    refine tt_bipush (v := 64) dX10_readRest_663 rfl ?_
                                    refine tt_icmp_ne (tgt := 673) dX10_readRest_665 rfl (fun q519 => ?_) (fun q519 => ?_)
                                    · skip
                                      refine tt_bipush (v := 31) dX10_readRest_673 rfl ?_
                                      refine tt_iand dX10_readRest_675 ?_
                                      refine gt_pI (id := 659) (x := (x517 &&& 31)) dX10_readRest_676 fl_10_120 rfl rfl h0 hA515 rfl rfl rfl (gp_I hG513) (by decide) (fun h => absurd h (by decide)) (fun h => absurd h (by decide)) (fun S520 hG521 hA522 e523 f524 er525 => ?_)
                                      refine tt_goto (tgt := 766) dX10_readRest_679 rfl ?_
                                      exact tt_vreturn dX10_readRest_766 rfl (hP _ _ _ _ ⟨hG521, hA522, Or.inl ⟨_, rfl, rfl, (fun q => ⟨(Or.inr (rg_cast ((congrFun (congrFun e523 657) o0).trans ((congrFun (up2_ne (k := 657)) o0).trans ((i_af (k := 657) (oa_af h0 hA510) hB514).trans hx511.2.1))) (rg_w (hx306 (rg_eqc h397))))), (rg_cast ((congrFun (congrFun e523 658) o0).trans ((congrFun (up2_ne (k := 658)) o0).trans ((i_af (k := 658) (oa_af h0 hA510) hB514).trans hx511.2.2))) (rg_w (⟨by decide, by decide⟩ : Rg (-1) (-1) (-1))))⟩), rfl, rfl⟩⟩)
                                    · skip
                                      have h526 : Rg 64 64 (hp_I S 656 o0) := rg_eq_l (rg_all (hp_I S 656 o0)) (⟨by decide, by decide⟩ : Rg 64 64 64) q519
                                      refine tt_bipush (v := 63) dX10_readRest_668 rfl ?_
                                      refine tt_goto (tgt := 675) dX10_readRest_670 rfl ?_
                                      refine tt_iand dX10_readRest_675 ?_
                                      refine gt_pI (id := 659) (x := (x517 &&& 63)) dX10_readRest_676 fl_10_120 rfl rfl h0 hA515 rfl rfl rfl (gp_I hG513) (by decide) (fun h => absurd h (by decide)) (fun h => absurd h (by decide)) (fun S527 hG528 hA529 e530 f531 er532 => ?_)
                                      refine tt_goto (tgt := 766) dX10_readRest_679 rfl ?_
                                      exact tt_vreturn dX10_readRest_766 rfl (hP _ _ _ _ ⟨hG528, hA529, Or.inl ⟨_, rfl, rfl, (fun q => ⟨(Or.inr (rg_cast ((congrFun (congrFun e530 657) o0).trans ((congrFun (up2_ne (k := 657)) o0).trans ((i_af (k := 657) (oa_af h0 hA510) hB514).trans hx511.2.1))) (rg_w (hx306 (rg_eqc h397))))), (rg_cast ((congrFun (congrFun e530 658) o0).trans ((congrFun (up2_ne (k := 658)) o0).trans ((i_af (k := 658) (oa_af h0 hA510) hB514).trans hx511.2.2))) (rg_w (⟨by decide, by decide⟩ : Rg (-1) (-1) (-1))))⟩), rfl, rfl⟩⟩)
                                  · skip
                                    refine tt_bipush (v := 15) dX10_readRest_639 rfl ?_
                                    refine tt_goto (tgt := 646) dX10_readRest_641 rfl ?_
                                    refine tt_aload_n (j := 0) dX10_readRest_646 rfl ?_
                                    refine gt_gI (id := 673) (v := (hp_I S302 673 o0)) dX10_readRest_647 fl_10_100 rfl rfl h0 hA501 ((congrFun (congrFun e502 673) o0).trans ((congrFun (up2_ne (k := 673)) o0).trans rfl)) ?_
                                    refine tt_iconst (v := (-1)) dX10_readRest_650 rfl ?_
                                    refine gt_Vv (As := [.int 15, .int (hp_I S302 673 o0), .int (-1)]) dX10_readRest_651 ca_X10_123 ⟨by decide, by decide⟩ h0 hA501 rfl (Nat.le_of_ble_eq_true rfl) (Nat.le_of_ble_eq_true rfl) (by decide) (cs_X10_take hG500 (oa_af h0 hA501) (fun _ _ _ _ h => h)) rfl (fun _ h => nomatch h) (fun S533 hx537 hG534 hB535 hA536 => ?_)
                                    refine tt_aload_n (j := 0) dX10_readRest_654 rfl ?_
                                    refine tt_aload_n (j := 0) dX10_readRest_655 rfl ?_
                                    refine gt_VI (As := []) dX10_readRest_656 ca_X10_87 ⟨by decide, by decide⟩ h0 hA536 rfl (Nat.le_of_ble_eq_true rfl) (Nat.le_of_ble_eq_true rfl) (by decide) (cs_X10_next hG534 (oa_af h0 hA536) (fun _ _ _ _ h => h)) rfl (fun _ h => nomatch h) (fun S538 x543 h544 hx542 hG539 hB540 hA541 => ?_)
                                    refine tt_aload_n (j := 0) dX10_readRest_659 rfl ?_
                                    refine gt_gI (id := 656) (v := (hp_I S 656 o0)) dX10_readRest_660 fl_10_127 rfl rfl h0 hA541 (i_af (k := 656) h0 hA541) ?_
                                    refine tt_bipush (v := 64) dX10_readRest_663 rfl ?_
                                    refine tt_icmp_ne (tgt := 673) dX10_readRest_665 rfl (fun q545 => ?_) (fun q545 => ?_)
                                    · skip
                                      refine tt_bipush (v := 31) dX10_readRest_673 rfl ?_
                                      refine tt_iand dX10_readRest_675 ?_
                                      refine gt_pI (id := 659) (x := (x543 &&& 31)) dX10_readRest_676 fl_10_120 rfl rfl h0 hA541 rfl rfl rfl (gp_I hG539) (by decide) (fun h => absurd h (by decide)) (fun h => absurd h (by decide)) (fun S546 hG547 hA548 e549 f550 er551 => ?_)
                                      refine tt_goto (tgt := 766) dX10_readRest_679 rfl ?_
                                      exact tt_vreturn dX10_readRest_766 rfl (hP _ _ _ _ ⟨hG547, hA548, Or.inl ⟨_, rfl, rfl, (fun q => ⟨(Or.inr (rg_cast ((congrFun (congrFun e549 657) o0).trans ((congrFun (up2_ne (k := 657)) o0).trans ((i_af (k := 657) (oa_af h0 hA536) hB540).trans hx537.2.1))) (rg_w (hx306 (rg_eqc h397))))), (rg_cast ((congrFun (congrFun e549 658) o0).trans ((congrFun (up2_ne (k := 658)) o0).trans ((i_af (k := 658) (oa_af h0 hA536) hB540).trans hx537.2.2))) (rg_w (⟨by decide, by decide⟩ : Rg (-1) (-1) (-1))))⟩), rfl, rfl⟩⟩)
                                    · skip
                                      have h552 : Rg 64 64 (hp_I S 656 o0) := rg_eq_l (rg_all (hp_I S 656 o0)) (⟨by decide, by decide⟩ : Rg 64 64 64) q545
                                      refine tt_bipush (v := 63) dX10_readRest_668 rfl ?_
                                      refine tt_goto (tgt := 675) dX10_readRest_670 rfl ?_
                                      refine tt_iand dX10_readRest_675 ?_
                                      refine gt_pI (id := 659) (x := (x543 &&& 63)) dX10_readRest_676 fl_10_120 rfl rfl h0 hA541 rfl rfl rfl (gp_I hG539) (by decide) (fun h => absurd h (by decide)) (fun h => absurd h (by decide)) (fun S553 hG554 hA555 e556 f557 er558 => ?_)
                                      refine tt_goto (tgt := 766) dX10_readRest_679 rfl ?_
                                      exact tt_vreturn dX10_readRest_766 rfl (hP _ _ _ _ ⟨hG554, hA555, Or.inl ⟨_, rfl, rfl, (fun q => ⟨(Or.inr (rg_cast ((congrFun (congrFun e556 657) o0).trans ((congrFun (up2_ne (k := 657)) o0).trans ((i_af (k := 657) (oa_af h0 hA536) hB540).trans hx537.2.1))) (rg_w (hx306 (rg_eqc h397))))), (rg_cast ((congrFun (congrFun e556 658) o0).trans ((congrFun (up2_ne (k := 658)) o0).trans ((i_af (k := 658) (oa_af h0 hA536) hB540).trans hx537.2.2))) (rg_w (⟨by decide, by decide⟩ : Rg (-1) (-1) (-1))))⟩), rfl, rfl⟩⟩)
                                · skip
                                  refine tt_bipush (v := 14) dX10_readRest_626 rfl ?_
                                  refine tt_goto (tgt := 646) dX10_readRest_628 rfl ?_
                                  refine tt_aload_n (j := 0) dX10_readRest_646 rfl ?_
                                  refine gt_gI (id := 673) (v := (hp_I S302 673 o0)) dX10_readRest_647 fl_10_100 rfl rfl h0 hA501 ((congrFun (congrFun e502 673) o0).trans ((congrFun (up2_ne (k := 673)) o0).trans rfl)) ?_
                                  refine tt_iconst (v := (-1)) dX10_readRest_650 rfl ?_
                                  refine gt_Vv (As := [.int 14, .int (hp_I S302 673 o0), .int (-1)]) dX10_readRest_651 ca_X10_123 ⟨by decide, by decide⟩ h0 hA501 rfl (Nat.le_of_ble_eq_true rfl) (Nat.le_of_ble_eq_true rfl) (by decide) (cs_X10_take hG500 (oa_af h0 hA501) (fun _ _ _ _ h => h)) rfl (fun _ h => nomatch h) (fun S559 hx563 hG560 hB561 hA562 => ?_)
                                  refine tt_aload_n (j := 0) dX10_readRest_654 rfl ?_
                                  refine tt_aload_n (j := 0) dX10_readRest_655 rfl ?_
                                  refine gt_VI (As := []) dX10_readRest_656 ca_X10_87 ⟨by decide, by decide⟩ h0 hA562 rfl (Nat.le_of_ble_eq_true rfl) (Nat.le_of_ble_eq_true rfl) (by decide) (cs_X10_next hG560 (oa_af h0 hA562) (fun _ _ _ _ h => h)) rfl (fun _ h => nomatch h) (fun S564 x569 h570 hx568 hG565 hB566 hA567 => ?_)
                                  refine tt_aload_n (j := 0) dX10_readRest_659 rfl ?_
                                  refine gt_gI (id := 656) (v := (hp_I S 656 o0)) dX10_readRest_660 fl_10_127 rfl rfl h0 hA567 (i_af (k := 656) h0 hA567) ?_
                                  refine tt_bipush (v := 64) dX10_readRest_663 rfl ?_
                                  refine tt_icmp_ne (tgt := 673) dX10_readRest_665 rfl (fun q571 => ?_) (fun q571 => ?_)
                                  · skip
                                    refine tt_bipush (v := 31) dX10_readRest_673 rfl ?_
                                    refine tt_iand dX10_readRest_675 ?_
                                    refine gt_pI (id := 659) (x := (x569 &&& 31)) dX10_readRest_676 fl_10_120 rfl rfl h0 hA567 rfl rfl rfl (gp_I hG565) (by decide) (fun h => absurd h (by decide)) (fun h => absurd h (by decide)) (fun S572 hG573 hA574 e575 f576 er577 => ?_)
                                    refine tt_goto (tgt := 766) dX10_readRest_679 rfl ?_
                                    exact tt_vreturn dX10_readRest_766 rfl (hP _ _ _ _ ⟨hG573, hA574, Or.inl ⟨_, rfl, rfl, (fun q => ⟨(Or.inr (rg_cast ((congrFun (congrFun e575 657) o0).trans ((congrFun (up2_ne (k := 657)) o0).trans ((i_af (k := 657) (oa_af h0 hA562) hB566).trans hx563.2.1))) (rg_w (hx306 (rg_eqc h397))))), (rg_cast ((congrFun (congrFun e575 658) o0).trans ((congrFun (up2_ne (k := 658)) o0).trans ((i_af (k := 658) (oa_af h0 hA562) hB566).trans hx563.2.2))) (rg_w (⟨by decide, by decide⟩ : Rg (-1) (-1) (-1))))⟩), rfl, rfl⟩⟩)
                                  · skip
                                    have h578 : Rg 64 64 (hp_I S 656 o0) := rg_eq_l (rg_all (hp_I S 656 o0)) (⟨by decide, by decide⟩ : Rg 64 64 64) q571
                                    refine tt_bipush (v := 63) dX10_readRest_668 rfl ?_
                                    refine tt_goto (tgt := 675) dX10_readRest_670 rfl ?_
                                    refine tt_iand dX10_readRest_675 ?_
                                    refine gt_pI (id := 659) (x := (x569 &&& 63)) dX10_readRest_676 fl_10_120 rfl rfl h0 hA567 rfl rfl rfl (gp_I hG565) (by decide) (fun h => absurd h (by decide)) (fun h => absurd h (by decide)) (fun S579 hG580 hA581 e582 f583 er584 => ?_)
                                    refine tt_goto (tgt := 766) dX10_readRest_679 rfl ?_
                                    exact tt_vreturn dX10_readRest_766 rfl (hP _ _ _ _ ⟨hG580, hA581, Or.inl ⟨_, rfl, rfl, (fun q => ⟨(Or.inr (rg_cast ((congrFun (congrFun e582 657) o0).trans ((congrFun (up2_ne (k := 657)) o0).trans ((i_af (k := 657) (oa_af h0 hA562) hB566).trans hx563.2.1))) (rg_w (hx306 (rg_eqc h397))))), (rg_cast ((congrFun (congrFun e582 658) o0).trans ((congrFun (up2_ne (k := 658)) o0).trans ((i_af (k := 658) (oa_af h0 hA562) hB566).trans hx563.2.2))) (rg_w (⟨by decide, by decide⟩ : Rg (-1) (-1) (-1))))⟩), rfl, rfl⟩⟩)
                              · skip
                                have h585 : Rg 0 6 (hp_I S302 674 o0) := rg_ne_hi (gi_I (k := 674) hG303 (oa_af h0 hA305) 0 7) (⟨by decide, by decide⟩ : Rg 7 7 7) q497
                                refine tt_iconst (v := 1) dX10_readRest_609 rfl ?_
                                refine tt_goto (tgt := 614) dX10_readRest_610 rfl ?_
                                refine gt_pI (id := 662) (x := 1) dX10_readRest_614 fl_10_84 rfl rfl h0 hA305 rfl rfl rfl (gp_Ir hG303 (⟨by decide, by decide⟩ : Rg 1 1 1)) (by decide) (fun _ _ q => absurd q (by decide)) (fun h => absurd h (by decide)) (fun S586 hG587 hA588 e589 f590 er591 => ?_)
                                refine tt_aload_n (j := 0) dX10_readRest_617 rfl ?_
                                refine tt_aload_n (j := 0) dX10_readRest_618 rfl ?_
                                refine gt_gI (id := 674) (v := (hp_I S302 674 o0)) dX10_readRest_619 fl_10_94 rfl rfl h0 hA588 ((congrFun (congrFun e589 674) o0).trans ((congrFun (up2_ne (k := 674)) o0).trans rfl)) ?_
                                refine tt_iconst (v := 4) dX10_readRest_622 rfl ?_
                                refine tt_icmp_ne (tgt := 631) dX10_readRest_623 rfl (fun q592 => ?_) (fun q592 => ?_)
                                · skip
                                  refine tt_aload_n (j := 0) dX10_readRest_631 rfl ?_
                                  refine gt_gI (id := 674) (v := (hp_I S302 674 o0)) dX10_readRest_632 fl_10_94 rfl rfl h0 hA588 ((congrFun (congrFun e589 674) o0).trans ((congrFun (up2_ne (k := 674)) o0).trans rfl)) ?_
                                  refine tt_iconst (v := 5) dX10_readRest_635 rfl ?_
                                  refine tt_icmp_ne (tgt := 644) dX10_readRest_636 rfl (fun q593 => ?_) (fun q593 => ?_)
                                  · skip
                                    refine tt_bipush (v := 16) dX10_readRest_644 rfl ?_
                                    refine tt_aload_n (j := 0) dX10_readRest_646 rfl ?_
                                    refine gt_gI (id := 673) (v := (hp_I S302 673 o0)) dX10_readRest_647 fl_10_100 rfl rfl h0 hA588 ((congrFun (congrFun e589 673) o0).trans ((congrFun (up2_ne (k := 673)) o0).trans rfl)) ?_
                                    refine tt_iconst (v := (-1)) dX10_readRest_650 rfl ?_
                                    refine gt_Vv (As := [.int 16, .int (hp_I S302 673 o0), .int (-1)]) dX10_readRest_651 ca_X10_123 ⟨by decide, by decide⟩ h0 hA588 rfl (Nat.le_of_ble_eq_true rfl) (Nat.le_of_ble_eq_true rfl) (by decide) (cs_X10_take hG587 (oa_af h0 hA588) (fun _ _ _ _ h => h)) rfl (fun _ h => nomatch h) (fun S594 hx598 hG595 hB596 hA597 => ?_)
                                    refine tt_aload_n (j := 0) dX10_readRest_654 rfl ?_
                                    refine tt_aload_n (j := 0) dX10_readRest_655 rfl ?_
                                    refine gt_VI (As := []) dX10_readRest_656 ca_X10_87 ⟨by decide, by decide⟩ h0 hA597 rfl (Nat.le_of_ble_eq_true rfl) (Nat.le_of_ble_eq_true rfl) (by decide) (cs_X10_next hG595 (oa_af h0 hA597) (fun _ _ _ _ h => h)) rfl (fun _ h => nomatch h) (fun S599 x604 h605 hx603 hG600 hB601 hA602 => ?_)
                                    refine tt_aload_n (j := 0) dX10_readRest_659 rfl ?_
                                    refine gt_gI (id := 656) (v := (hp_I S 656 o0)) dX10_readRest_660 fl_10_127 rfl rfl h0 hA602 (i_af (k := 656) h0 hA602) ?_
                                    refine tt_bipush (v := 64) dX10_readRest_663 rfl ?_
                                    refine tt_icmp_ne (tgt := 673) dX10_readRest_665 rfl (fun q606 => ?_) (fun q606 => ?_)
                                    · skip
                                      refine tt_bipush (v := 31) dX10_readRest_673 rfl ?_
                                      refine tt_iand dX10_readRest_675 ?_
                                      refine gt_pI (id := 659) (x := (x604 &&& 31)) dX10_readRest_676 fl_10_120 rfl rfl h0 hA602 rfl rfl rfl (gp_I hG600) (by decide) (fun h => absurd h (by decide)) (fun h => absurd h (by decide)) (fun S607 hG608 hA609 e610 f611 er612 => ?_)
                                      refine tt_goto (tgt := 766) dX10_readRest_679 rfl ?_
                                      exact tt_vreturn dX10_readRest_766 rfl (hP _ _ _ _ ⟨hG608, hA609, Or.inl ⟨_, rfl, rfl, (fun q => (absurd (((congrFun (congrFun e589 662) o0).trans up2_self).symm.trans (mo_af (oa_af h0 hA588) hB596 (mo_af (oa_af h0 hA597) hB601 ((congrFun (up2_ne (k := 662)) o0).symm.trans ((congrFun (congrFun e610 662) o0).symm.trans q))))) (by decide))), rfl, rfl⟩⟩)
                                    · skip
                                      have h613 : Rg 64 64 (hp_I S 656 o0) := rg_eq_l (rg_all (hp_I S 656 o0)) (⟨by decide, by decide⟩ : Rg 64 64 64) q606
                                      refine tt_bipush (v := 63) dX10_readRest_668 rfl ?_
                                      refine tt_goto (tgt := 675) dX10_readRest_670 rfl ?_
                                      refine tt_iand dX10_readRest_675 ?_
                                      refine gt_pI (id := 659) (x := (x604 &&& 63)) dX10_readRest_676 fl_10_120 rfl rfl h0 hA602 rfl rfl rfl (gp_I hG600) (by decide) (fun h => absurd h (by decide)) (fun h => absurd h (by decide)) (fun S614 hG615 hA616 e617 f618 er619 => ?_)
                                      refine tt_goto (tgt := 766) dX10_readRest_679 rfl ?_
                                      exact tt_vreturn dX10_readRest_766 rfl (hP _ _ _ _ ⟨hG615, hA616, Or.inl ⟨_, rfl, rfl, (fun q => (absurd (((congrFun (congrFun e589 662) o0).trans up2_self).symm.trans (mo_af (oa_af h0 hA588) hB596 (mo_af (oa_af h0 hA597) hB601 ((congrFun (up2_ne (k := 662)) o0).symm.trans ((congrFun (congrFun e617 662) o0).symm.trans q))))) (by decide))), rfl, rfl⟩⟩)
                                  · skip
                                    have h620 : Rg 5 5 (hp_I S302 674 o0) := rg_eq_l h585 (⟨by decide, by decide⟩ : Rg 5 5 5) q593
                                    refine tt_bipush (v := 15) dX10_readRest_639 rfl ?_
                                    refine tt_goto (tgt := 646) dX10_readRest_641 rfl ?_
                                    refine tt_aload_n (j := 0) dX10_readRest_646 rfl ?_
                                    refine gt_gI (id := 673) (v := (hp_I S302 673 o0)) dX10_readRest_647 fl_10_100 rfl rfl h0 hA588 ((congrFun (congrFun e589 673) o0).trans ((congrFun (up2_ne (k := 673)) o0).trans rfl)) ?_
                                    refine tt_iconst (v := (-1)) dX10_readRest_650 rfl ?_
                                    refine gt_Vv (As := [.int 15, .int (hp_I S302 673 o0), .int (-1)]) dX10_readRest_651 ca_X10_123 ⟨by decide, by decide⟩ h0 hA588 rfl (Nat.le_of_ble_eq_true rfl) (Nat.le_of_ble_eq_true rfl) (by decide) (cs_X10_take hG587 (oa_af h0 hA588) (fun _ _ _ _ h => h)) rfl (fun _ h => nomatch h) (fun S621 hx625 hG622 hB623 hA624 => ?_)
                                    refine tt_aload_n (j := 0) dX10_readRest_654 rfl ?_
                                    refine tt_aload_n (j := 0) dX10_readRest_655 rfl ?_
                                    refine gt_VI (As := []) dX10_readRest_656 ca_X10_87 ⟨by decide, by decide⟩ h0 hA624 rfl (Nat.le_of_ble_eq_true rfl) (Nat.le_of_ble_eq_true rfl) (by decide) (cs_X10_next hG622 (oa_af h0 hA624) (fun _ _ _ _ h => h)) rfl (fun _ h => nomatch h) (fun S626 x631 h632 hx630 hG627 hB628 hA629 => ?_)
                                    refine tt_aload_n (j := 0) dX10_readRest_659 rfl ?_
                                    refine gt_gI (id := 656) (v := (hp_I S 656 o0)) dX10_readRest_660 fl_10_127 rfl rfl h0 hA629 (i_af (k := 656) h0 hA629) ?_
                                    refine tt_bipush (v := 64) dX10_readRest_663 rfl ?_
                                    refine tt_icmp_ne (tgt := 673) dX10_readRest_665 rfl (fun q633 => ?_) (fun q633 => ?_)
                                    · skip
                                      refine tt_bipush (v := 31) dX10_readRest_673 rfl ?_
                                      refine tt_iand dX10_readRest_675 ?_
                                      refine gt_pI (id := 659) (x := (x631 &&& 31)) dX10_readRest_676 fl_10_120 rfl rfl h0 hA629 rfl rfl rfl (gp_I hG627) (by decide) (fun h => absurd h (by decide)) (fun h => absurd h (by decide)) (fun S634 hG635 hA636 e637 f638 er639 => ?_)
                                      refine tt_goto (tgt := 766) dX10_readRest_679 rfl ?_
                                      exact tt_vreturn dX10_readRest_766 rfl (hP _ _ _ _ ⟨hG635, hA636, Or.inl ⟨_, rfl, rfl, (fun q => (absurd (((congrFun (congrFun e589 662) o0).trans up2_self).symm.trans (mo_af (oa_af h0 hA588) hB623 (mo_af (oa_af h0 hA624) hB628 ((congrFun (up2_ne (k := 662)) o0).symm.trans ((congrFun (congrFun e637 662) o0).symm.trans q))))) (by decide))), rfl, rfl⟩⟩)
                                    · skip
                                      have h640 : Rg 64 64 (hp_I S 656 o0) := rg_eq_l (rg_all (hp_I S 656 o0)) (⟨by decide, by decide⟩ : Rg 64 64 64) q633
                                      refine tt_bipush (v := 63) dX10_readRest_668 rfl ?_
                                      refine tt_goto (tgt := 675) dX10_readRest_670 rfl ?_
                                      refine tt_iand dX10_readRest_675 ?_
                                      refine gt_pI (id := 659) (x := (x631 &&& 63)) dX10_readRest_676 fl_10_120 rfl rfl h0 hA629 rfl rfl rfl (gp_I hG627) (by decide) (fun h => absurd h (by decide)) (fun h => absurd h (by decide)) (fun S641 hG642 hA643 e644 f645 er646 => ?_)
                                      refine tt_goto (tgt := 766) dX10_readRest_679 rfl ?_
                                      exact tt_vreturn dX10_readRest_766 rfl (hP _ _ _ _ ⟨hG642, hA643, Or.inl ⟨_, rfl, rfl, (fun q => (absurd (((congrFun (congrFun e589 662) o0).trans up2_self).symm.trans (mo_af (oa_af h0 hA588) hB623 (mo_af (oa_af h0 hA624) hB628 ((congrFun (up2_ne (k := 662)) o0).symm.trans ((congrFun (congrFun e644 662) o0).symm.trans q))))) (by decide))), rfl, rfl⟩⟩)
                                · skip
                                  have h647 : Rg 4 4 (hp_I S302 674 o0) := rg_eq_l h585 (⟨by decide, by decide⟩ : Rg 4 4 4) q592
                                  refine tt_bipush (v := 14) dX10_readRest_626 rfl ?_
                                  refine tt_goto (tgt := 646) dX10_readRest_628 rfl ?_
                                  refine tt_aload_n (j := 0) dX10_readRest_646 rfl ?_
                                  refine gt_gI (id := 673) (v := (hp_I S302 673 o0)) dX10_readRest_647 fl_10_100 rfl rfl h0 hA588 ((congrFun (congrFun e589 673) o0).trans ((congrFun (up2_ne (k := 673)) o0).trans rfl)) ?_
                                  refine tt_iconst (v := (-1)) dX10_readRest_650 rfl ?_
                                  refine gt_Vv (As := [.int 14, .int (hp_I S302 673 o0), .int (-1)]) dX10_readRest_651 ca_X10_123 ⟨by decide, by decide⟩ h0 hA588 rfl (Nat.le_of_ble_eq_true rfl) (Nat.le_of_ble_eq_true rfl) (by decide) (cs_X10_take hG587 (oa_af h0 hA588) (fun _ _ _ _ h => h)) rfl (fun _ h => nomatch h) (fun S648 hx652 hG649 hB650 hA651 => ?_)
                                  refine tt_aload_n (j := 0) dX10_readRest_654 rfl ?_
                                  refine tt_aload_n (j := 0) dX10_readRest_655 rfl ?_
                                  refine gt_VI (As := []) dX10_readRest_656 ca_X10_87 ⟨by decide, by decide⟩ h0 hA651 rfl (Nat.le_of_ble_eq_true rfl) (Nat.le_of_ble_eq_true rfl) (by decide) (cs_X10_next hG649 (oa_af h0 hA651) (fun _ _ _ _ h => h)) rfl (fun _ h => nomatch h) (fun S653 x658 h659 hx657 hG654 hB655 hA656 => ?_)
                                  refine tt_aload_n (j := 0) dX10_readRest_659 rfl ?_
                                  refine gt_gI (id := 656) (v := (hp_I S 656 o0)) dX10_readRest_660 fl_10_127 rfl rfl h0 hA656 (i_af (k := 656) h0 hA656) ?_
                                  refine tt_bipush (v := 64) dX10_readRest_663 rfl ?_
                                  refine tt_icmp_ne (tgt := 673) dX10_readRest_665 rfl (fun q660 => ?_) (fun q660 => ?_)
                                  · skip
                                    refine tt_bipush (v := 31) dX10_readRest_673 rfl ?_
                                    refine tt_iand dX10_readRest_675 ?_
                                    refine gt_pI (id := 659) (x := (x658 &&& 31)) dX10_readRest_676 fl_10_120 rfl rfl h0 hA656 rfl rfl rfl (gp_I hG654) (by decide) (fun h => absurd h (by decide)) (fun h => absurd h (by decide)) (fun S661 hG662 hA663 e664 f665 er666 => ?_)
                                    refine tt_goto (tgt := 766) dX10_readRest_679 rfl ?_
                                    exact tt_vreturn dX10_readRest_766 rfl (hP _ _ _ _ ⟨hG662, hA663, Or.inl ⟨_, rfl, rfl, (fun q => (absurd (((congrFun (congrFun e589 662) o0).trans up2_self).symm.trans (mo_af (oa_af h0 hA588) hB650 (mo_af (oa_af h0 hA651) hB655 ((congrFun (up2_ne (k := 662)) o0).symm.trans ((congrFun (congrFun e664 662) o0).symm.trans q))))) (by decide))), rfl, rfl⟩⟩)
                                  · skip
                                    have h667 : Rg 64 64 (hp_I S 656 o0) := rg_eq_l (rg_all (hp_I S 656 o0)) (⟨by decide, by decide⟩ : Rg 64 64 64) q660
                                    refine tt_bipush (v := 63) dX10_readRest_668 rfl ?_
                                    refine tt_goto (tgt := 675) dX10_readRest_670 rfl ?_
                                    refine tt_iand dX10_readRest_675 ?_
                                    refine gt_pI (id := 659) (x := (x658 &&& 63)) dX10_readRest_676 fl_10_120 rfl rfl h0 hA656 rfl rfl rfl (gp_I hG654) (by decide) (fun h => absurd h (by decide)) (fun h => absurd h (by decide)) (fun S668 hG669 hA670 e671 f672 er673 => ?_)
                                    refine tt_goto (tgt := 766) dX10_readRest_679 rfl ?_
                                    exact tt_vreturn dX10_readRest_766 rfl (hP _ _ _ _ ⟨hG669, hA670, Or.inl ⟨_, rfl, rfl, (fun q => (absurd (((congrFun (congrFun e589 662) o0).trans up2_self).symm.trans (mo_af (oa_af h0 hA588) hB650 (mo_af (oa_af h0 hA651) hB655 ((congrFun (up2_ne (k := 662)) o0).symm.trans ((congrFun (congrFun e671 662) o0).symm.trans q))))) (by decide))), rfl, rfl⟩⟩)
                    · skip
                      have h674 : Rg 184 2147483647 x1 := rg_le_r (⟨by decide, by decide⟩ : Rg 184 184 184) h102 (nlt_le q223)
                      refine tt_iload_n (j := 1) dX10_readRest_506 rfl ?_
                      refine tt_sipush (v := 192) dX10_readRest_507 rfl ?_
                      refine tt_icmp_ge (tgt := 564) dX10_readRest_510 rfl (fun q675 => ?_) (fun q675 => ?_)
                      · skip
                        have h676 : Rg 192 2147483647 x1 := rg_le_r (⟨by decide, by decide⟩ : Rg 192 192 192) h674 q675
                        refine tt_iload_n (j := 1) dX10_readRest_564 rfl ?_
                        refine tt_sipush (v := 193) dX10_readRest_565 rfl ?_
                        refine tt_icmp_ne (tgt := 682) dX10_readRest_568 rfl (fun q677 => ?_) (fun q677 => ?_)
                        · skip
                          refine tt_iload_n (j := 1) dX10_readRest_682 rfl ?_
                          refine tt_bipush (v := 99) dX10_readRest_683 rfl ?_
                          refine tt_icmp_ne (tgt := 743) dX10_readRest_685 rfl (fun q678 => ?_) (fun q678 => ?_)
                          · skip
                            refine tt_iload_n (j := 1) dX10_readRest_743 rfl ?_
                            refine tt_bipush (v := 15) dX10_readRest_744 rfl ?_
                            refine tt_icmp_ne (tgt := 761) dX10_readRest_746 rfl (fun q679 => ?_) (fun q679 => ?_)
                            · skip
                              refine tt_aload_n (j := 0) dX10_readRest_761 rfl ?_
                              refine tt_iload_n (j := 1) dX10_readRest_762 rfl ?_
                              refine gt_Vv (As := [.int x1]) dX10_readRest_763 ca_X10_147 ⟨by decide, by decide⟩ h0 hA rfl (Nat.le_of_ble_eq_true rfl) (Nat.le_of_ble_eq_true rfl) (by decide) (cs_X10_readJumps hG (oa_af h0 hA) (rg_w g655) (rg_w g658) (fun _ _ _ _ h => h)) rfl (fun _ h => nomatch h) (fun S680 hx684 hG681 hB682 hA683 => ?_)
                              exact tt_vreturn dX10_readRest_766 rfl (hP _ _ _ _ ⟨hG681, hA683, Or.inl ⟨_, rfl, rfl, hx684, rfl, rfl⟩⟩)
                            · skip
                              refine tt_aload_n (j := 0) dX10_readRest_749 rfl ?_
                              refine tt_aload_n (j := 0) dX10_readRest_750 rfl ?_
                              refine gt_VI (As := []) dX10_readRest_751 ca_X10_87 ⟨by decide, by decide⟩ h0 hA rfl (Nat.le_of_ble_eq_true rfl) (Nat.le_of_ble_eq_true rfl) (by decide) (cs_X10_next hG (oa_af h0 hA) (fun _ _ _ _ h => h)) rfl (fun _ h => nomatch h) (fun S685 x690 h691 hx689 hG686 hB687 hA688 => ?_)
                              refine tt_iload_n (j := 2) dX10_readRest_754 rfl ?_
                              refine gt_Vv (As := [.int x690, .int x2]) dX10_readRest_755 ca_X10_144 ⟨by decide, by decide⟩ h0 hA688 rfl (Nat.le_of_ble_eq_true rfl) (Nat.le_of_ble_eq_true rfl) (by decide) (cs_X10_readTwo hG686 (oa_af h0 hA688) (rg_cast ((i_af (k := 655) (oa_af h0 hA) hB687).trans rfl) (rg_w g655)) (rg_cast ((i_af (k := 658) (oa_af h0 hA) hB687).trans rfl) (rg_w g658)) (fun _ _ _ _ h => h)) rfl (fun _ h => nomatch h) (fun S692 hx696 hG693 hB694 hA695 => ?_)
                              refine tt_goto (tgt := 766) dX10_readRest_758 rfl ?_
                              exact tt_vreturn dX10_readRest_766 rfl (hP _ _ _ _ ⟨hG693, hA695, Or.inl ⟨_, rfl, rfl, hx696, rfl, rfl⟩⟩)
                          · skip
                            refine tt_aload_n (j := 0) dX10_readRest_688 rfl ?_
                            refine tt_iload_n (j := 2) dX10_readRest_689 rfl ?_
                            refine gt_Vv (As := [.int x2]) dX10_readRest_690 ca_X10_137 ⟨by decide, by decide⟩ h0 hA rfl (Nat.le_of_ble_eq_true rfl) (Nat.le_of_ble_eq_true rfl) (by decide) (cs_X10_readPlaces hG (oa_af h0 hA) (fun _ _ _ _ h => h)) rfl (fun _ h => nomatch h) (fun S697 hx701 hG698 hB699 hA700 => ?_)
                            refine tt_aload_n (j := 0) dX10_readRest_693 rfl ?_
                            refine tt_aload_n (j := 0) dX10_readRest_694 rfl ?_
                            refine tt_getI (id := 662) dX10_readRest_695 fl_10_84 rfl rfl (ob_af h0 hA700) ?_
                            refine tt_if_ne (tgt := 718) dX10_readRest_698 rfl (fun q702 => ?_) (fun q702 => ?_)
                            · skip
                              have h703 : Rg 1 1 (hp_I S697 662 o0) := rg_ne_lo (gi_I (k := 662) hG698 (oa_af h0 hA700) 0 1) (⟨by decide, by decide⟩ : Rg 0 0 0) q702
                              refine tt_iconst (v := 1) dX10_readRest_718 rfl ?_
                              refine tt_goto (tgt := 723) dX10_readRest_719 rfl ?_
                              refine gt_pI (id := 662) (x := 1) dX10_readRest_723 fl_10_84 rfl rfl h0 hA700 rfl rfl rfl (gp_Ir hG698 (⟨by decide, by decide⟩ : Rg 1 1 1)) (by decide) (fun _ _ q => absurd q (by decide)) (fun h => absurd h (by decide)) (fun S704 hG705 hA706 e707 f708 er709 => ?_)
                              refine tt_aload_n (j := 0) dX10_readRest_726 rfl ?_
                              refine tt_bipush (v := 18) dX10_readRest_727 rfl ?_
                              refine tt_aload_n (j := 0) dX10_readRest_729 rfl ?_
                              refine tt_getI (id := 672) dX10_readRest_730 fl_10_97 rfl rfl (ob_af h0 hA706) ?_
                              refine tt_aload_n (j := 0) dX10_readRest_733 rfl ?_
                              refine gt_gI (id := 673) (v := (hp_I S697 673 o0)) dX10_readRest_734 fl_10_100 rfl rfl h0 hA706 ((congrFun (congrFun e707 673) o0).trans ((congrFun (up2_ne (k := 673)) o0).trans rfl)) ?_
                              refine gt_Vv (As := [.int 18, .int (hp_I S704 672 o0), .int (hp_I S697 673 o0)]) dX10_readRest_737 ca_X10_123 ⟨by decide, by decide⟩ h0 hA706 rfl (Nat.le_of_ble_eq_true rfl) (Nat.le_of_ble_eq_true rfl) (by decide) (cs_X10_take hG705 (oa_af h0 hA706) (fun _ _ _ _ h => h)) rfl (fun _ h => nomatch h) (fun S710 hx714 hG711 hB712 hA713 => ?_)
                              refine tt_goto (tgt := 766) dX10_readRest_740 rfl ?_
                              exact tt_vreturn dX10_readRest_766 rfl (hP _ _ _ _ ⟨hG711, hA713, Or.inl ⟨_, rfl, rfl, (fun q => (absurd (((congrFun (congrFun e707 662) o0).trans up2_self).symm.trans (mo_af (oa_af h0 hA706) hB712 q)) (by decide))), rfl, rfl⟩⟩)
                            · skip
                              have h715 : Rg 0 0 (hp_I S697 662 o0) := rg_eq_l (gi_I (k := 662) hG698 (oa_af h0 hA700) 0 1) (⟨by decide, by decide⟩ : Rg 0 0 0) q702
                              refine tt_aload_n (j := 0) dX10_readRest_701 rfl ?_
                              refine gt_gI (id := 656) (v := (hp_I S 656 o0)) dX10_readRest_702 fl_10_127 rfl rfl h0 hA700 (i_af (k := 656) h0 hA700) ?_
                              refine tt_bipush (v := 32) dX10_readRest_705 rfl ?_
                              refine tt_icmp_eq (tgt := 718) dX10_readRest_707 rfl (fun q716 => ?_) (fun q716 => ?_)
                              · skip
                                have h717 : Rg 32 32 (hp_I S 656 o0) := rg_eq_l (rg_all (hp_I S 656 o0)) (⟨by decide, by decide⟩ : Rg 32 32 32) q716
                                refine tt_iconst (v := 1) dX10_readRest_718 rfl ?_
                                refine tt_goto (tgt := 723) dX10_readRest_719 rfl ?_
                                refine gt_pI (id := 662) (x := 1) dX10_readRest_723 fl_10_84 rfl rfl h0 hA700 rfl rfl rfl (gp_Ir hG698 (⟨by decide, by decide⟩ : Rg 1 1 1)) (by decide) (fun _ _ q => absurd q (by decide)) (fun h => absurd h (by decide)) (fun S718 hG719 hA720 e721 f722 er723 => ?_)
                                refine tt_aload_n (j := 0) dX10_readRest_726 rfl ?_
                                refine tt_bipush (v := 18) dX10_readRest_727 rfl ?_
                                refine tt_aload_n (j := 0) dX10_readRest_729 rfl ?_
                                refine tt_getI (id := 672) dX10_readRest_730 fl_10_97 rfl rfl (ob_af h0 hA720) ?_
                                refine tt_aload_n (j := 0) dX10_readRest_733 rfl ?_
                                refine gt_gI (id := 673) (v := (hp_I S697 673 o0)) dX10_readRest_734 fl_10_100 rfl rfl h0 hA720 ((congrFun (congrFun e721 673) o0).trans ((congrFun (up2_ne (k := 673)) o0).trans rfl)) ?_
                                refine gt_Vv (As := [.int 18, .int (hp_I S718 672 o0), .int (hp_I S697 673 o0)]) dX10_readRest_737 ca_X10_123 ⟨by decide, by decide⟩ h0 hA720 rfl (Nat.le_of_ble_eq_true rfl) (Nat.le_of_ble_eq_true rfl) (by decide) (cs_X10_take hG719 (oa_af h0 hA720) (fun _ _ _ _ h => h)) rfl (fun _ h => nomatch h) (fun S724 hx728 hG725 hB726 hA727 => ?_)
                                refine tt_goto (tgt := 766) dX10_readRest_740 rfl ?_
                                exact tt_vreturn dX10_readRest_766 rfl (hP _ _ _ _ ⟨hG725, hA727, Or.inl ⟨_, rfl, rfl, (fun q => (absurd (((congrFun (congrFun e721 662) o0).trans up2_self).symm.trans (mo_af (oa_af h0 hA720) hB726 q)) (by decide))), rfl, rfl⟩⟩)
                              · skip
                                refine tt_aload_n (j := 0) dX10_readRest_710 rfl ?_
                                refine tt_getI (id := 675) dX10_readRest_711 fl_10_91 rfl rfl (ob_af h0 hA700) ?_
                                refine tt_iconst (v := 3) dX10_readRest_714 rfl ?_
                                refine tt_icmp_eq (tgt := 722) dX10_readRest_715 rfl (fun q729 => ?_) (fun q729 => ?_)
                                · skip
                                  have h730 : Rg 3 3 (hp_I S697 675 o0) := rg_eq_l (rg_all (hp_I S697 675 o0)) (⟨by decide, by decide⟩ : Rg 3 3 3) q729
                                  refine tt_iconst (v := 0) dX10_readRest_722 rfl ?_
                                  refine gt_pI (id := 662) (x := 0) dX10_readRest_723 fl_10_84 rfl rfl h0 hA700 rfl rfl rfl (gp_Ir hG698 (⟨by decide, by decide⟩ : Rg 0 0 0)) (by decide) (fun _ _ _ => (rg_eqc h715)) (fun h => absurd h (by decide)) (fun S731 hG732 hA733 e734 f735 er736 => ?_)
                                  refine tt_aload_n (j := 0) dX10_readRest_726 rfl ?_
                                  refine tt_bipush (v := 18) dX10_readRest_727 rfl ?_
                                  refine tt_aload_n (j := 0) dX10_readRest_729 rfl ?_
                                  refine tt_getI (id := 672) dX10_readRest_730 fl_10_97 rfl rfl (ob_af h0 hA733) ?_
                                  refine tt_aload_n (j := 0) dX10_readRest_733 rfl ?_
                                  refine gt_gI (id := 673) (v := (hp_I S697 673 o0)) dX10_readRest_734 fl_10_100 rfl rfl h0 hA733 ((congrFun (congrFun e734 673) o0).trans ((congrFun (up2_ne (k := 673)) o0).trans rfl)) ?_
                                  refine gt_Vv (As := [.int 18, .int (hp_I S731 672 o0), .int (hp_I S697 673 o0)]) dX10_readRest_737 ca_X10_123 ⟨by decide, by decide⟩ h0 hA733 rfl (Nat.le_of_ble_eq_true rfl) (Nat.le_of_ble_eq_true rfl) (by decide) (cs_X10_take hG732 (oa_af h0 hA733) (fun _ _ _ _ h => h)) rfl (fun _ h => nomatch h) (fun S737 hx741 hG738 hB739 hA740 => ?_)
                                  refine tt_goto (tgt := 766) dX10_readRest_740 rfl ?_
                                  exact tt_vreturn dX10_readRest_766 rfl (hP _ _ _ _ ⟨hG738, hA740, Or.inl ⟨_, rfl, rfl, (fun q => ⟨(Or.inr (rg_cast hx741.2.1 (rg_w (gi_I (k := 672) hG732 (oa_af h0 hA733) 0 15)))), (rg_cast hx741.2.2 (rg_w (hx701 (rg_eqc h715))))⟩), rfl, rfl⟩⟩)
                                · skip
                                  refine tt_iconst (v := 1) dX10_readRest_718 rfl ?_
                                  refine tt_goto (tgt := 723) dX10_readRest_719 rfl ?_
                                  refine gt_pI (id := 662) (x := 1) dX10_readRest_723 fl_10_84 rfl rfl h0 hA700 rfl rfl rfl (gp_Ir hG698 (⟨by decide, by decide⟩ : Rg 1 1 1)) (by decide) (fun _ _ q => absurd q (by decide)) (fun h => absurd h (by decide)) (fun S742 hG743 hA744 e745 f746 er747 => ?_)
                                  refine tt_aload_n (j := 0) dX10_readRest_726 rfl ?_
                                  refine tt_bipush (v := 18) dX10_readRest_727 rfl ?_
                                  refine tt_aload_n (j := 0) dX10_readRest_729 rfl ?_
                                  refine tt_getI (id := 672) dX10_readRest_730 fl_10_97 rfl rfl (ob_af h0 hA744) ?_
                                  refine tt_aload_n (j := 0) dX10_readRest_733 rfl ?_
                                  refine gt_gI (id := 673) (v := (hp_I S697 673 o0)) dX10_readRest_734 fl_10_100 rfl rfl h0 hA744 ((congrFun (congrFun e745 673) o0).trans ((congrFun (up2_ne (k := 673)) o0).trans rfl)) ?_
                                  refine gt_Vv (As := [.int 18, .int (hp_I S742 672 o0), .int (hp_I S697 673 o0)]) dX10_readRest_737 ca_X10_123 ⟨by decide, by decide⟩ h0 hA744 rfl (Nat.le_of_ble_eq_true rfl) (Nat.le_of_ble_eq_true rfl) (by decide) (cs_X10_take hG743 (oa_af h0 hA744) (fun _ _ _ _ h => h)) rfl (fun _ h => nomatch h) (fun S748 hx752 hG749 hB750 hA751 => ?_)
                                  refine tt_goto (tgt := 766) dX10_readRest_740 rfl ?_
                                  exact tt_vreturn dX10_readRest_766 rfl (hP _ _ _ _ ⟨hG749, hA751, Or.inl ⟨_, rfl, rfl, (fun q => (absurd (((congrFun (congrFun e745 662) o0).trans up2_self).symm.trans (mo_af (oa_af h0 hA744) hB750 q)) (by decide))), rfl, rfl⟩⟩)
                        · skip
                          have h753 : Rg 193 193 x1 := rg_eq_l h676 (⟨by decide, by decide⟩ : Rg 193 193 193) q677
                          refine tt_aload_n (j := 0) dX10_readRest_571 rfl ?_
                          refine tt_iload_n (j := 2) dX10_readRest_572 rfl ?_
                          refine gt_Vv (As := [.int x2]) dX10_readRest_573 ca_X10_137 ⟨by decide, by decide⟩ h0 hA rfl (Nat.le_of_ble_eq_true rfl) (Nat.le_of_ble_eq_true rfl) (by decide) (cs_X10_readPlaces hG (oa_af h0 hA) (fun _ _ _ _ h => h)) rfl (fun _ h => nomatch h) (fun S754 hx758 hG755 hB756 hA757 => ?_)
                          refine tt_aload_n (j := 0) dX10_readRest_576 rfl ?_
                          refine tt_aload_n (j := 0) dX10_readRest_577 rfl ?_
                          refine tt_getI (id := 662) dX10_readRest_578 fl_10_84 rfl rfl (ob_af h0 hA757) ?_
                          refine tt_if_ne (tgt := 609) dX10_readRest_581 rfl (fun q759 => ?_) (fun q759 => ?_)
                          · skip
                            have h760 : Rg 1 1 (hp_I S754 662 o0) := rg_ne_lo (gi_I (k := 662) hG755 (oa_af h0 hA757) 0 1) (⟨by decide, by decide⟩ : Rg 0 0 0) q759
                            refine tt_iconst (v := 1) dX10_readRest_609 rfl ?_
                            refine tt_goto (tgt := 614) dX10_readRest_610 rfl ?_
                            refine gt_pI (id := 662) (x := 1) dX10_readRest_614 fl_10_84 rfl rfl h0 hA757 rfl rfl rfl (gp_Ir hG755 (⟨by decide, by decide⟩ : Rg 1 1 1)) (by decide) (fun _ _ q => absurd q (by decide)) (fun h => absurd h (by decide)) (fun S761 hG762 hA763 e764 f765 er766 => ?_)
                            refine tt_aload_n (j := 0) dX10_readRest_617 rfl ?_
                            refine tt_aload_n (j := 0) dX10_readRest_618 rfl ?_
                            refine tt_getI (id := 674) dX10_readRest_619 fl_10_94 rfl rfl (ob_af h0 hA763) ?_
                            refine tt_iconst (v := 4) dX10_readRest_622 rfl ?_
                            refine tt_icmp_ne (tgt := 631) dX10_readRest_623 rfl (fun q767 => ?_) (fun q767 => ?_)
                            · skip
                              refine tt_aload_n (j := 0) dX10_readRest_631 rfl ?_
                              refine tt_getI (id := 674) dX10_readRest_632 fl_10_94 rfl rfl (ob_af h0 hA763) ?_
                              refine tt_iconst (v := 5) dX10_readRest_635 rfl ?_
                              refine tt_icmp_ne (tgt := 644) dX10_readRest_636 rfl (fun q768 => ?_) (fun q768 => ?_)
                              · skip
                                refine tt_bipush (v := 16) dX10_readRest_644 rfl ?_
                                refine tt_aload_n (j := 0) dX10_readRest_646 rfl ?_
                                refine gt_gI (id := 673) (v := (hp_I S754 673 o0)) dX10_readRest_647 fl_10_100 rfl rfl h0 hA763 ((congrFun (congrFun e764 673) o0).trans ((congrFun (up2_ne (k := 673)) o0).trans rfl)) ?_
                                refine tt_iconst (v := (-1)) dX10_readRest_650 rfl ?_
                                refine gt_Vv (As := [.int 16, .int (hp_I S754 673 o0), .int (-1)]) dX10_readRest_651 ca_X10_123 ⟨by decide, by decide⟩ h0 hA763 rfl (Nat.le_of_ble_eq_true rfl) (Nat.le_of_ble_eq_true rfl) (by decide) (cs_X10_take hG762 (oa_af h0 hA763) (fun _ _ _ _ h => h)) rfl (fun _ h => nomatch h) (fun S769 hx773 hG770 hB771 hA772 => ?_)
                                refine tt_aload_n (j := 0) dX10_readRest_654 rfl ?_
                                refine tt_aload_n (j := 0) dX10_readRest_655 rfl ?_
                                refine gt_VI (As := []) dX10_readRest_656 ca_X10_87 ⟨by decide, by decide⟩ h0 hA772 rfl (Nat.le_of_ble_eq_true rfl) (Nat.le_of_ble_eq_true rfl) (by decide) (cs_X10_next hG770 (oa_af h0 hA772) (fun _ _ _ _ h => h)) rfl (fun _ h => nomatch h) (fun S774 x779 h780 hx778 hG775 hB776 hA777 => ?_)
                                refine tt_aload_n (j := 0) dX10_readRest_659 rfl ?_
                                refine gt_gI (id := 656) (v := (hp_I S 656 o0)) dX10_readRest_660 fl_10_127 rfl rfl h0 hA777 (i_af (k := 656) h0 hA777) ?_
                                refine tt_bipush (v := 64) dX10_readRest_663 rfl ?_
                                refine tt_icmp_ne (tgt := 673) dX10_readRest_665 rfl (fun q781 => ?_) (fun q781 => ?_)
                                · skip
                                  refine tt_bipush (v := 31) dX10_readRest_673 rfl ?_
                                  refine tt_iand dX10_readRest_675 ?_
                                  refine gt_pI (id := 659) (x := (x779 &&& 31)) dX10_readRest_676 fl_10_120 rfl rfl h0 hA777 rfl rfl rfl (gp_I hG775) (by decide) (fun h => absurd h (by decide)) (fun h => absurd h (by decide)) (fun S782 hG783 hA784 e785 f786 er787 => ?_)
                                  refine tt_goto (tgt := 766) dX10_readRest_679 rfl ?_
                                  exact tt_vreturn dX10_readRest_766 rfl (hP _ _ _ _ ⟨hG783, hA784, Or.inl ⟨_, rfl, rfl, (fun q => (absurd (((congrFun (congrFun e764 662) o0).trans up2_self).symm.trans (mo_af (oa_af h0 hA763) hB771 (mo_af (oa_af h0 hA772) hB776 ((congrFun (up2_ne (k := 662)) o0).symm.trans ((congrFun (congrFun e785 662) o0).symm.trans q))))) (by decide))), rfl, rfl⟩⟩)
                                · skip
                                  have h788 : Rg 64 64 (hp_I S 656 o0) := rg_eq_l (rg_all (hp_I S 656 o0)) (⟨by decide, by decide⟩ : Rg 64 64 64) q781
                                  refine tt_bipush (v := 63) dX10_readRest_668 rfl ?_
                                  refine tt_goto (tgt := 675) dX10_readRest_670 rfl ?_
                                  refine tt_iand dX10_readRest_675 ?_
                                  refine gt_pI (id := 659) (x := (x779 &&& 63)) dX10_readRest_676 fl_10_120 rfl rfl h0 hA777 rfl rfl rfl (gp_I hG775) (by decide) (fun h => absurd h (by decide)) (fun h => absurd h (by decide)) (fun S789 hG790 hA791 e792 f793 er794 => ?_)
                                  refine tt_goto (tgt := 766) dX10_readRest_679 rfl ?_
                                  exact tt_vreturn dX10_readRest_766 rfl (hP _ _ _ _ ⟨hG790, hA791, Or.inl ⟨_, rfl, rfl, (fun q => (absurd (((congrFun (congrFun e764 662) o0).trans up2_self).symm.trans (mo_af (oa_af h0 hA763) hB771 (mo_af (oa_af h0 hA772) hB776 ((congrFun (up2_ne (k := 662)) o0).symm.trans ((congrFun (congrFun e792 662) o0).symm.trans q))))) (by decide))), rfl, rfl⟩⟩)
                              · skip
                                have h795 : Rg 5 5 (hp_I S761 674 o0) := rg_eq_l (gi_I (k := 674) hG762 (oa_af h0 hA763) 0 7) (⟨by decide, by decide⟩ : Rg 5 5 5) q768
                                refine tt_bipush (v := 15) dX10_readRest_639 rfl ?_
                                refine tt_goto (tgt := 646) dX10_readRest_641 rfl ?_
                                refine tt_aload_n (j := 0) dX10_readRest_646 rfl ?_
                                refine gt_gI (id := 673) (v := (hp_I S754 673 o0)) dX10_readRest_647 fl_10_100 rfl rfl h0 hA763 ((congrFun (congrFun e764 673) o0).trans ((congrFun (up2_ne (k := 673)) o0).trans rfl)) ?_
                                refine tt_iconst (v := (-1)) dX10_readRest_650 rfl ?_
                                refine gt_Vv (As := [.int 15, .int (hp_I S754 673 o0), .int (-1)]) dX10_readRest_651 ca_X10_123 ⟨by decide, by decide⟩ h0 hA763 rfl (Nat.le_of_ble_eq_true rfl) (Nat.le_of_ble_eq_true rfl) (by decide) (cs_X10_take hG762 (oa_af h0 hA763) (fun _ _ _ _ h => h)) rfl (fun _ h => nomatch h) (fun S796 hx800 hG797 hB798 hA799 => ?_)
                                refine tt_aload_n (j := 0) dX10_readRest_654 rfl ?_
                                refine tt_aload_n (j := 0) dX10_readRest_655 rfl ?_
                                refine gt_VI (As := []) dX10_readRest_656 ca_X10_87 ⟨by decide, by decide⟩ h0 hA799 rfl (Nat.le_of_ble_eq_true rfl) (Nat.le_of_ble_eq_true rfl) (by decide) (cs_X10_next hG797 (oa_af h0 hA799) (fun _ _ _ _ h => h)) rfl (fun _ h => nomatch h) (fun S801 x806 h807 hx805 hG802 hB803 hA804 => ?_)
                                refine tt_aload_n (j := 0) dX10_readRest_659 rfl ?_
                                refine gt_gI (id := 656) (v := (hp_I S 656 o0)) dX10_readRest_660 fl_10_127 rfl rfl h0 hA804 (i_af (k := 656) h0 hA804) ?_
                                refine tt_bipush (v := 64) dX10_readRest_663 rfl ?_
                                refine tt_icmp_ne (tgt := 673) dX10_readRest_665 rfl (fun q808 => ?_) (fun q808 => ?_)
                                · skip
                                  refine tt_bipush (v := 31) dX10_readRest_673 rfl ?_
                                  refine tt_iand dX10_readRest_675 ?_
                                  refine gt_pI (id := 659) (x := (x806 &&& 31)) dX10_readRest_676 fl_10_120 rfl rfl h0 hA804 rfl rfl rfl (gp_I hG802) (by decide) (fun h => absurd h (by decide)) (fun h => absurd h (by decide)) (fun S809 hG810 hA811 e812 f813 er814 => ?_)
                                  refine tt_goto (tgt := 766) dX10_readRest_679 rfl ?_
                                  exact tt_vreturn dX10_readRest_766 rfl (hP _ _ _ _ ⟨hG810, hA811, Or.inl ⟨_, rfl, rfl, (fun q => (absurd (((congrFun (congrFun e764 662) o0).trans up2_self).symm.trans (mo_af (oa_af h0 hA763) hB798 (mo_af (oa_af h0 hA799) hB803 ((congrFun (up2_ne (k := 662)) o0).symm.trans ((congrFun (congrFun e812 662) o0).symm.trans q))))) (by decide))), rfl, rfl⟩⟩)
                                · skip
                                  have h815 : Rg 64 64 (hp_I S 656 o0) := rg_eq_l (rg_all (hp_I S 656 o0)) (⟨by decide, by decide⟩ : Rg 64 64 64) q808
                                  refine tt_bipush (v := 63) dX10_readRest_668 rfl ?_
                                  refine tt_goto (tgt := 675) dX10_readRest_670 rfl ?_
                                  refine tt_iand dX10_readRest_675 ?_
                                  refine gt_pI (id := 659) (x := (x806 &&& 63)) dX10_readRest_676 fl_10_120 rfl rfl h0 hA804 rfl rfl rfl (gp_I hG802) (by decide) (fun h => absurd h (by decide)) (fun h => absurd h (by decide)) (fun S816 hG817 hA818 e819 f820 er821 => ?_)
                                  refine tt_goto (tgt := 766) dX10_readRest_679 rfl ?_
                                  exact tt_vreturn dX10_readRest_766 rfl (hP _ _ _ _ ⟨hG817, hA818, Or.inl ⟨_, rfl, rfl, (fun q => (absurd (((congrFun (congrFun e764 662) o0).trans up2_self).symm.trans (mo_af (oa_af h0 hA763) hB798 (mo_af (oa_af h0 hA799) hB803 ((congrFun (up2_ne (k := 662)) o0).symm.trans ((congrFun (congrFun e819 662) o0).symm.trans q))))) (by decide))), rfl, rfl⟩⟩)
                            · skip
                              have h822 : Rg 4 4 (hp_I S761 674 o0) := rg_eq_l (gi_I (k := 674) hG762 (oa_af h0 hA763) 0 7) (⟨by decide, by decide⟩ : Rg 4 4 4) q767
                              refine tt_bipush (v := 14) dX10_readRest_626 rfl ?_
                              refine tt_goto (tgt := 646) dX10_readRest_628 rfl ?_
                              refine tt_aload_n (j := 0) dX10_readRest_646 rfl ?_
                              refine gt_gI (id := 673) (v := (hp_I S754 673 o0)) dX10_readRest_647 fl_10_100 rfl rfl h0 hA763 ((congrFun (congrFun e764 673) o0).trans ((congrFun (up2_ne (k := 673)) o0).trans rfl)) ?_
                              refine tt_iconst (v := (-1)) dX10_readRest_650 rfl ?_
                              refine gt_Vv (As := [.int 14, .int (hp_I S754 673 o0), .int (-1)]) dX10_readRest_651 ca_X10_123 ⟨by decide, by decide⟩ h0 hA763 rfl (Nat.le_of_ble_eq_true rfl) (Nat.le_of_ble_eq_true rfl) (by decide) (cs_X10_take hG762 (oa_af h0 hA763) (fun _ _ _ _ h => h)) rfl (fun _ h => nomatch h) (fun S823 hx827 hG824 hB825 hA826 => ?_)
                              refine tt_aload_n (j := 0) dX10_readRest_654 rfl ?_
                              refine tt_aload_n (j := 0) dX10_readRest_655 rfl ?_
                              refine gt_VI (As := []) dX10_readRest_656 ca_X10_87 ⟨by decide, by decide⟩ h0 hA826 rfl (Nat.le_of_ble_eq_true rfl) (Nat.le_of_ble_eq_true rfl) (by decide) (cs_X10_next hG824 (oa_af h0 hA826) (fun _ _ _ _ h => h)) rfl (fun _ h => nomatch h) (fun S828 x833 h834 hx832 hG829 hB830 hA831 => ?_)
                              refine tt_aload_n (j := 0) dX10_readRest_659 rfl ?_
                              refine gt_gI (id := 656) (v := (hp_I S 656 o0)) dX10_readRest_660 fl_10_127 rfl rfl h0 hA831 (i_af (k := 656) h0 hA831) ?_
                              refine tt_bipush (v := 64) dX10_readRest_663 rfl ?_
                              refine tt_icmp_ne (tgt := 673) dX10_readRest_665 rfl (fun q835 => ?_) (fun q835 => ?_)
                              · skip
                                refine tt_bipush (v := 31) dX10_readRest_673 rfl ?_
                                refine tt_iand dX10_readRest_675 ?_
                                refine gt_pI (id := 659) (x := (x833 &&& 31)) dX10_readRest_676 fl_10_120 rfl rfl h0 hA831 rfl rfl rfl (gp_I hG829) (by decide) (fun h => absurd h (by decide)) (fun h => absurd h (by decide)) (fun S836 hG837 hA838 e839 f840 er841 => ?_)
                                refine tt_goto (tgt := 766) dX10_readRest_679 rfl ?_
                                exact tt_vreturn dX10_readRest_766 rfl (hP _ _ _ _ ⟨hG837, hA838, Or.inl ⟨_, rfl, rfl, (fun q => (absurd (((congrFun (congrFun e764 662) o0).trans up2_self).symm.trans (mo_af (oa_af h0 hA763) hB825 (mo_af (oa_af h0 hA826) hB830 ((congrFun (up2_ne (k := 662)) o0).symm.trans ((congrFun (congrFun e839 662) o0).symm.trans q))))) (by decide))), rfl, rfl⟩⟩)
                              · skip
                                have h842 : Rg 64 64 (hp_I S 656 o0) := rg_eq_l (rg_all (hp_I S 656 o0)) (⟨by decide, by decide⟩ : Rg 64 64 64) q835
                                refine tt_bipush (v := 63) dX10_readRest_668 rfl ?_
                                refine tt_goto (tgt := 675) dX10_readRest_670 rfl ?_
                                refine tt_iand dX10_readRest_675 ?_
                                refine gt_pI (id := 659) (x := (x833 &&& 63)) dX10_readRest_676 fl_10_120 rfl rfl h0 hA831 rfl rfl rfl (gp_I hG829) (by decide) (fun h => absurd h (by decide)) (fun h => absurd h (by decide)) (fun S843 hG844 hA845 e846 f847 er848 => ?_)
                                refine tt_goto (tgt := 766) dX10_readRest_679 rfl ?_
                                exact tt_vreturn dX10_readRest_766 rfl (hP _ _ _ _ ⟨hG844, hA845, Or.inl ⟨_, rfl, rfl, (fun q => (absurd (((congrFun (congrFun e764 662) o0).trans up2_self).symm.trans (mo_af (oa_af h0 hA763) hB825 (mo_af (oa_af h0 hA826) hB830 ((congrFun (up2_ne (k := 662)) o0).symm.trans ((congrFun (congrFun e846 662) o0).symm.trans q))))) (by decide))), rfl, rfl⟩⟩)
                          · skip
                            have h849 : Rg 0 0 (hp_I S754 662 o0) := rg_eq_l (gi_I (k := 662) hG755 (oa_af h0 hA757) 0 1) (⟨by decide, by decide⟩ : Rg 0 0 0) q759
                            refine tt_aload_n (j := 0) dX10_readRest_584 rfl ?_
                            refine tt_getI (id := 674) dX10_readRest_585 fl_10_94 rfl rfl (ob_af h0 hA757) ?_
                            refine tt_iconst (v := 4) dX10_readRest_588 rfl ?_
                            refine tt_icmp_eq (tgt := 613) dX10_readRest_589 rfl (fun q850 => ?_) (fun q850 => ?_)
                            · skip
                              have h851 : Rg 4 4 (hp_I S754 674 o0) := rg_eq_l (gi_I (k := 674) hG755 (oa_af h0 hA757) 0 7) (⟨by decide, by decide⟩ : Rg 4 4 4) q850
                              refine tt_iconst (v := 0) dX10_readRest_613 rfl ?_
                              refine gt_pI (id := 662) (x := 0) dX10_readRest_614 fl_10_84 rfl rfl h0 hA757 rfl rfl rfl (gp_Ir hG755 (⟨by decide, by decide⟩ : Rg 0 0 0)) (by decide) (fun _ _ _ => (rg_eqc h849)) (fun h => absurd h (by decide)) (fun S852 hG853 hA854 e855 f856 er857 => ?_)
                              refine tt_aload_n (j := 0) dX10_readRest_617 rfl ?_
                              refine tt_aload_n (j := 0) dX10_readRest_618 rfl ?_
                              refine gt_gI (id := 674) (v := (hp_I S754 674 o0)) dX10_readRest_619 fl_10_94 rfl rfl h0 hA854 ((congrFun (congrFun e855 674) o0).trans ((congrFun (up2_ne (k := 674)) o0).trans rfl)) ?_
                              refine tt_iconst (v := 4) dX10_readRest_622 rfl ?_
                              refine tt_icmp_ne (tgt := 631) dX10_readRest_623 rfl (fun q858 => ?_) (fun q858 => ?_)
                              · skip
                                have h859 : Rg 5 4 (hp_I S754 674 o0) := rg_ne_lo h851 (⟨by decide, by decide⟩ : Rg 4 4 4) q858
                                exact rg_no h859
                              · skip
                                refine tt_bipush (v := 14) dX10_readRest_626 rfl ?_
                                refine tt_goto (tgt := 646) dX10_readRest_628 rfl ?_
                                refine tt_aload_n (j := 0) dX10_readRest_646 rfl ?_
                                refine gt_gI (id := 673) (v := (hp_I S754 673 o0)) dX10_readRest_647 fl_10_100 rfl rfl h0 hA854 ((congrFun (congrFun e855 673) o0).trans ((congrFun (up2_ne (k := 673)) o0).trans rfl)) ?_
                                refine tt_iconst (v := (-1)) dX10_readRest_650 rfl ?_
                                refine gt_Vv (As := [.int 14, .int (hp_I S754 673 o0), .int (-1)]) dX10_readRest_651 ca_X10_123 ⟨by decide, by decide⟩ h0 hA854 rfl (Nat.le_of_ble_eq_true rfl) (Nat.le_of_ble_eq_true rfl) (by decide) (cs_X10_take hG853 (oa_af h0 hA854) (fun _ _ _ _ h => h)) rfl (fun _ h => nomatch h) (fun S860 hx864 hG861 hB862 hA863 => ?_)
                                refine tt_aload_n (j := 0) dX10_readRest_654 rfl ?_
                                refine tt_aload_n (j := 0) dX10_readRest_655 rfl ?_
                                refine gt_VI (As := []) dX10_readRest_656 ca_X10_87 ⟨by decide, by decide⟩ h0 hA863 rfl (Nat.le_of_ble_eq_true rfl) (Nat.le_of_ble_eq_true rfl) (by decide) (cs_X10_next hG861 (oa_af h0 hA863) (fun _ _ _ _ h => h)) rfl (fun _ h => nomatch h) (fun S865 x870 h871 hx869 hG866 hB867 hA868 => ?_)
                                refine tt_aload_n (j := 0) dX10_readRest_659 rfl ?_
                                refine gt_gI (id := 656) (v := (hp_I S 656 o0)) dX10_readRest_660 fl_10_127 rfl rfl h0 hA868 (i_af (k := 656) h0 hA868) ?_
                                refine tt_bipush (v := 64) dX10_readRest_663 rfl ?_
                                refine tt_icmp_ne (tgt := 673) dX10_readRest_665 rfl (fun q872 => ?_) (fun q872 => ?_)
                                · skip
                                  refine tt_bipush (v := 31) dX10_readRest_673 rfl ?_
                                  refine tt_iand dX10_readRest_675 ?_
                                  refine gt_pI (id := 659) (x := (x870 &&& 31)) dX10_readRest_676 fl_10_120 rfl rfl h0 hA868 rfl rfl rfl (gp_I hG866) (by decide) (fun h => absurd h (by decide)) (fun h => absurd h (by decide)) (fun S873 hG874 hA875 e876 f877 er878 => ?_)
                                  refine tt_goto (tgt := 766) dX10_readRest_679 rfl ?_
                                  exact tt_vreturn dX10_readRest_766 rfl (hP _ _ _ _ ⟨hG874, hA875, Or.inl ⟨_, rfl, rfl, (fun q => ⟨(Or.inr (rg_cast ((congrFun (congrFun e876 657) o0).trans ((congrFun (up2_ne (k := 657)) o0).trans ((i_af (k := 657) (oa_af h0 hA863) hB867).trans hx864.2.1))) (rg_w (hx758 (rg_eqc h849))))), (rg_cast ((congrFun (congrFun e876 658) o0).trans ((congrFun (up2_ne (k := 658)) o0).trans ((i_af (k := 658) (oa_af h0 hA863) hB867).trans hx864.2.2))) (rg_w (⟨by decide, by decide⟩ : Rg (-1) (-1) (-1))))⟩), rfl, rfl⟩⟩)
                                · skip
                                  have h879 : Rg 64 64 (hp_I S 656 o0) := rg_eq_l (rg_all (hp_I S 656 o0)) (⟨by decide, by decide⟩ : Rg 64 64 64) q872
                                  refine tt_bipush (v := 63) dX10_readRest_668 rfl ?_
                                  refine tt_goto (tgt := 675) dX10_readRest_670 rfl ?_
                                  refine tt_iand dX10_readRest_675 ?_
                                  refine gt_pI (id := 659) (x := (x870 &&& 63)) dX10_readRest_676 fl_10_120 rfl rfl h0 hA868 rfl rfl rfl (gp_I hG866) (by decide) (fun h => absurd h (by decide)) (fun h => absurd h (by decide)) (fun S880 hG881 hA882 e883 f884 er885 => ?_)
                                  refine tt_goto (tgt := 766) dX10_readRest_679 rfl ?_
                                  exact tt_vreturn dX10_readRest_766 rfl (hP _ _ _ _ ⟨hG881, hA882, Or.inl ⟨_, rfl, rfl, (fun q => ⟨(Or.inr (rg_cast ((congrFun (congrFun e883 657) o0).trans ((congrFun (up2_ne (k := 657)) o0).trans ((i_af (k := 657) (oa_af h0 hA863) hB867).trans hx864.2.1))) (rg_w (hx758 (rg_eqc h849))))), (rg_cast ((congrFun (congrFun e883 658) o0).trans ((congrFun (up2_ne (k := 658)) o0).trans ((i_af (k := 658) (oa_af h0 hA863) hB867).trans hx864.2.2))) (rg_w (⟨by decide, by decide⟩ : Rg (-1) (-1) (-1))))⟩), rfl, rfl⟩⟩)
                            · skip
                              refine tt_aload_n (j := 0) dX10_readRest_592 rfl ?_
                              refine tt_getI (id := 674) dX10_readRest_593 fl_10_94 rfl rfl (ob_af h0 hA757) ?_
                              refine tt_iconst (v := 5) dX10_readRest_596 rfl ?_
                              refine tt_icmp_eq (tgt := 613) dX10_readRest_597 rfl (fun q886 => ?_) (fun q886 => ?_)
                              · skip
                                have h887 : Rg 5 5 (hp_I S754 674 o0) := rg_eq_l (gi_I (k := 674) hG755 (oa_af h0 hA757) 0 7) (⟨by decide, by decide⟩ : Rg 5 5 5) q886
                                refine tt_iconst (v := 0) dX10_readRest_613 rfl ?_
                                refine gt_pI (id := 662) (x := 0) dX10_readRest_614 fl_10_84 rfl rfl h0 hA757 rfl rfl rfl (gp_Ir hG755 (⟨by decide, by decide⟩ : Rg 0 0 0)) (by decide) (fun _ _ _ => (rg_eqc h849)) (fun h => absurd h (by decide)) (fun S888 hG889 hA890 e891 f892 er893 => ?_)
                                refine tt_aload_n (j := 0) dX10_readRest_617 rfl ?_
                                refine tt_aload_n (j := 0) dX10_readRest_618 rfl ?_
                                refine gt_gI (id := 674) (v := (hp_I S754 674 o0)) dX10_readRest_619 fl_10_94 rfl rfl h0 hA890 ((congrFun (congrFun e891 674) o0).trans ((congrFun (up2_ne (k := 674)) o0).trans rfl)) ?_
                                refine tt_iconst (v := 4) dX10_readRest_622 rfl ?_
                                refine tt_icmp_ne (tgt := 631) dX10_readRest_623 rfl (fun q894 => ?_) (fun q894 => ?_)
                                · skip
                                  refine tt_aload_n (j := 0) dX10_readRest_631 rfl ?_
                                  refine gt_gI (id := 674) (v := (hp_I S754 674 o0)) dX10_readRest_632 fl_10_94 rfl rfl h0 hA890 ((congrFun (congrFun e891 674) o0).trans ((congrFun (up2_ne (k := 674)) o0).trans rfl)) ?_
                                  refine tt_iconst (v := 5) dX10_readRest_635 rfl ?_
                                  refine tt_icmp_ne (tgt := 644) dX10_readRest_636 rfl (fun q895 => ?_) (fun q895 => ?_)
                                  · skip
                                    have h896 : Rg 6 5 (hp_I S754 674 o0) := rg_ne_lo h887 (⟨by decide, by decide⟩ : Rg 5 5 5) q895
                                    exact rg_no h896
                                  · skip
                                    refine tt_bipush (v := 15) dX10_readRest_639 rfl ?_
                                    refine tt_goto (tgt := 646) dX10_readRest_641 rfl ?_
                                    refine tt_aload_n (j := 0) dX10_readRest_646 rfl ?_
                                    refine gt_gI (id := 673) (v := (hp_I S754 673 o0)) dX10_readRest_647 fl_10_100 rfl rfl h0 hA890 ((congrFun (congrFun e891 673) o0).trans ((congrFun (up2_ne (k := 673)) o0).trans rfl)) ?_
                                    refine tt_iconst (v := (-1)) dX10_readRest_650 rfl ?_
                                    refine gt_Vv (As := [.int 15, .int (hp_I S754 673 o0), .int (-1)]) dX10_readRest_651 ca_X10_123 ⟨by decide, by decide⟩ h0 hA890 rfl (Nat.le_of_ble_eq_true rfl) (Nat.le_of_ble_eq_true rfl) (by decide) (cs_X10_take hG889 (oa_af h0 hA890) (fun _ _ _ _ h => h)) rfl (fun _ h => nomatch h) (fun S897 hx901 hG898 hB899 hA900 => ?_)
                                    refine tt_aload_n (j := 0) dX10_readRest_654 rfl ?_
                                    refine tt_aload_n (j := 0) dX10_readRest_655 rfl ?_
                                    refine gt_VI (As := []) dX10_readRest_656 ca_X10_87 ⟨by decide, by decide⟩ h0 hA900 rfl (Nat.le_of_ble_eq_true rfl) (Nat.le_of_ble_eq_true rfl) (by decide) (cs_X10_next hG898 (oa_af h0 hA900) (fun _ _ _ _ h => h)) rfl (fun _ h => nomatch h) (fun S902 x907 h908 hx906 hG903 hB904 hA905 => ?_)
                                    refine tt_aload_n (j := 0) dX10_readRest_659 rfl ?_
                                    refine gt_gI (id := 656) (v := (hp_I S 656 o0)) dX10_readRest_660 fl_10_127 rfl rfl h0 hA905 (i_af (k := 656) h0 hA905) ?_
                                    refine tt_bipush (v := 64) dX10_readRest_663 rfl ?_
                                    refine tt_icmp_ne (tgt := 673) dX10_readRest_665 rfl (fun q909 => ?_) (fun q909 => ?_)
                                    · skip
                                      refine tt_bipush (v := 31) dX10_readRest_673 rfl ?_
                                      refine tt_iand dX10_readRest_675 ?_
                                      refine gt_pI (id := 659) (x := (x907 &&& 31)) dX10_readRest_676 fl_10_120 rfl rfl h0 hA905 rfl rfl rfl (gp_I hG903) (by decide) (fun h => absurd h (by decide)) (fun h => absurd h (by decide)) (fun S910 hG911 hA912 e913 f914 er915 => ?_)
                                      refine tt_goto (tgt := 766) dX10_readRest_679 rfl ?_
                                      exact tt_vreturn dX10_readRest_766 rfl (hP _ _ _ _ ⟨hG911, hA912, Or.inl ⟨_, rfl, rfl, (fun q => ⟨(Or.inr (rg_cast ((congrFun (congrFun e913 657) o0).trans ((congrFun (up2_ne (k := 657)) o0).trans ((i_af (k := 657) (oa_af h0 hA900) hB904).trans hx901.2.1))) (rg_w (hx758 (rg_eqc h849))))), (rg_cast ((congrFun (congrFun e913 658) o0).trans ((congrFun (up2_ne (k := 658)) o0).trans ((i_af (k := 658) (oa_af h0 hA900) hB904).trans hx901.2.2))) (rg_w (⟨by decide, by decide⟩ : Rg (-1) (-1) (-1))))⟩), rfl, rfl⟩⟩)
                                    · skip
                                      have h916 : Rg 64 64 (hp_I S 656 o0) := rg_eq_l (rg_all (hp_I S 656 o0)) (⟨by decide, by decide⟩ : Rg 64 64 64) q909
                                      refine tt_bipush (v := 63) dX10_readRest_668 rfl ?_
                                      refine tt_goto (tgt := 675) dX10_readRest_670 rfl ?_
                                      refine tt_iand dX10_readRest_675 ?_
                                      refine gt_pI (id := 659) (x := (x907 &&& 63)) dX10_readRest_676 fl_10_120 rfl rfl h0 hA905 rfl rfl rfl (gp_I hG903) (by decide) (fun h => absurd h (by decide)) (fun h => absurd h (by decide)) (fun S917 hG918 hA919 e920 f921 er922 => ?_)
                                      refine tt_goto (tgt := 766) dX10_readRest_679 rfl ?_
                                      exact tt_vreturn dX10_readRest_766 rfl (hP _ _ _ _ ⟨hG918, hA919, Or.inl ⟨_, rfl, rfl, (fun q => ⟨(Or.inr (rg_cast ((congrFun (congrFun e920 657) o0).trans ((congrFun (up2_ne (k := 657)) o0).trans ((i_af (k := 657) (oa_af h0 hA900) hB904).trans hx901.2.1))) (rg_w (hx758 (rg_eqc h849))))), (rg_cast ((congrFun (congrFun e920 658) o0).trans ((congrFun (up2_ne (k := 658)) o0).trans ((i_af (k := 658) (oa_af h0 hA900) hB904).trans hx901.2.2))) (rg_w (⟨by decide, by decide⟩ : Rg (-1) (-1) (-1))))⟩), rfl, rfl⟩⟩)
                                · skip
                                  refine tt_bipush (v := 14) dX10_readRest_626 rfl ?_
                                  refine tt_goto (tgt := 646) dX10_readRest_628 rfl ?_
                                  refine tt_aload_n (j := 0) dX10_readRest_646 rfl ?_
                                  refine gt_gI (id := 673) (v := (hp_I S754 673 o0)) dX10_readRest_647 fl_10_100 rfl rfl h0 hA890 ((congrFun (congrFun e891 673) o0).trans ((congrFun (up2_ne (k := 673)) o0).trans rfl)) ?_
                                  refine tt_iconst (v := (-1)) dX10_readRest_650 rfl ?_
                                  refine gt_Vv (As := [.int 14, .int (hp_I S754 673 o0), .int (-1)]) dX10_readRest_651 ca_X10_123 ⟨by decide, by decide⟩ h0 hA890 rfl (Nat.le_of_ble_eq_true rfl) (Nat.le_of_ble_eq_true rfl) (by decide) (cs_X10_take hG889 (oa_af h0 hA890) (fun _ _ _ _ h => h)) rfl (fun _ h => nomatch h) (fun S923 hx927 hG924 hB925 hA926 => ?_)
                                  refine tt_aload_n (j := 0) dX10_readRest_654 rfl ?_
                                  refine tt_aload_n (j := 0) dX10_readRest_655 rfl ?_
                                  refine gt_VI (As := []) dX10_readRest_656 ca_X10_87 ⟨by decide, by decide⟩ h0 hA926 rfl (Nat.le_of_ble_eq_true rfl) (Nat.le_of_ble_eq_true rfl) (by decide) (cs_X10_next hG924 (oa_af h0 hA926) (fun _ _ _ _ h => h)) rfl (fun _ h => nomatch h) (fun S928 x933 h934 hx932 hG929 hB930 hA931 => ?_)
                                  refine tt_aload_n (j := 0) dX10_readRest_659 rfl ?_
                                  refine gt_gI (id := 656) (v := (hp_I S 656 o0)) dX10_readRest_660 fl_10_127 rfl rfl h0 hA931 (i_af (k := 656) h0 hA931) ?_
                                  refine tt_bipush (v := 64) dX10_readRest_663 rfl ?_
                                  refine tt_icmp_ne (tgt := 673) dX10_readRest_665 rfl (fun q935 => ?_) (fun q935 => ?_)
                                  · skip
                                    refine tt_bipush (v := 31) dX10_readRest_673 rfl ?_
                                    refine tt_iand dX10_readRest_675 ?_
                                    refine gt_pI (id := 659) (x := (x933 &&& 31)) dX10_readRest_676 fl_10_120 rfl rfl h0 hA931 rfl rfl rfl (gp_I hG929) (by decide) (fun h => absurd h (by decide)) (fun h => absurd h (by decide)) (fun S936 hG937 hA938 e939 f940 er941 => ?_)
                                    refine tt_goto (tgt := 766) dX10_readRest_679 rfl ?_
                                    exact tt_vreturn dX10_readRest_766 rfl (hP _ _ _ _ ⟨hG937, hA938, Or.inl ⟨_, rfl, rfl, (fun q => ⟨(Or.inr (rg_cast ((congrFun (congrFun e939 657) o0).trans ((congrFun (up2_ne (k := 657)) o0).trans ((i_af (k := 657) (oa_af h0 hA926) hB930).trans hx927.2.1))) (rg_w (hx758 (rg_eqc h849))))), (rg_cast ((congrFun (congrFun e939 658) o0).trans ((congrFun (up2_ne (k := 658)) o0).trans ((i_af (k := 658) (oa_af h0 hA926) hB930).trans hx927.2.2))) (rg_w (⟨by decide, by decide⟩ : Rg (-1) (-1) (-1))))⟩), rfl, rfl⟩⟩)
                                  · skip
                                    have h942 : Rg 64 64 (hp_I S 656 o0) := rg_eq_l (rg_all (hp_I S 656 o0)) (⟨by decide, by decide⟩ : Rg 64 64 64) q935
                                    refine tt_bipush (v := 63) dX10_readRest_668 rfl ?_
                                    refine tt_goto (tgt := 675) dX10_readRest_670 rfl ?_
                                    refine tt_iand dX10_readRest_675 ?_
                                    refine gt_pI (id := 659) (x := (x933 &&& 63)) dX10_readRest_676 fl_10_120 rfl rfl h0 hA931 rfl rfl rfl (gp_I hG929) (by decide) (fun h => absurd h (by decide)) (fun h => absurd h (by decide)) (fun S943 hG944 hA945 e946 f947 er948 => ?_)
                                    refine tt_goto (tgt := 766) dX10_readRest_679 rfl ?_
                                    exact tt_vreturn dX10_readRest_766 rfl (hP _ _ _ _ ⟨hG944, hA945, Or.inl ⟨_, rfl, rfl, (fun q => ⟨(Or.inr (rg_cast ((congrFun (congrFun e946 657) o0).trans ((congrFun (up2_ne (k := 657)) o0).trans ((i_af (k := 657) (oa_af h0 hA926) hB930).trans hx927.2.1))) (rg_w (hx758 (rg_eqc h849))))), (rg_cast ((congrFun (congrFun e946 658) o0).trans ((congrFun (up2_ne (k := 658)) o0).trans ((i_af (k := 658) (oa_af h0 hA926) hB930).trans hx927.2.2))) (rg_w (⟨by decide, by decide⟩ : Rg (-1) (-1) (-1))))⟩), rfl, rfl⟩⟩)
                              · skip
                                refine tt_aload_n (j := 0) dX10_readRest_600 rfl ?_
                                refine tt_getI (id := 674) dX10_readRest_601 fl_10_94 rfl rfl (ob_af h0 hA757) ?_
                                refine tt_bipush (v := 7) dX10_readRest_604 rfl ?_
                                refine tt_icmp_eq (tgt := 613) dX10_readRest_606 rfl (fun q949 => ?_) (fun q949 => ?_)
                                · skip
                                  have h950 : Rg 7 7 (hp_I S754 674 o0) := rg_eq_l (gi_I (k := 674) hG755 (oa_af h0 hA757) 0 7) (⟨by decide, by decide⟩ : Rg 7 7 7) q949
                                  refine tt_iconst (v := 0) dX10_readRest_613 rfl ?_
                                  refine gt_pI (id := 662) (x := 0) dX10_readRest_614 fl_10_84 rfl rfl h0 hA757 rfl rfl rfl (gp_Ir hG755 (⟨by decide, by decide⟩ : Rg 0 0 0)) (by decide) (fun _ _ _ => (rg_eqc h849)) (fun h => absurd h (by decide)) (fun S951 hG952 hA953 e954 f955 er956 => ?_)
                                  refine tt_aload_n (j := 0) dX10_readRest_617 rfl ?_
                                  refine tt_aload_n (j := 0) dX10_readRest_618 rfl ?_
                                  refine gt_gI (id := 674) (v := (hp_I S754 674 o0)) dX10_readRest_619 fl_10_94 rfl rfl h0 hA953 ((congrFun (congrFun e954 674) o0).trans ((congrFun (up2_ne (k := 674)) o0).trans rfl)) ?_
                                  refine tt_iconst (v := 4) dX10_readRest_622 rfl ?_
                                  refine tt_icmp_ne (tgt := 631) dX10_readRest_623 rfl (fun q957 => ?_) (fun q957 => ?_)
                                  · skip
                                    refine tt_aload_n (j := 0) dX10_readRest_631 rfl ?_
                                    refine gt_gI (id := 674) (v := (hp_I S754 674 o0)) dX10_readRest_632 fl_10_94 rfl rfl h0 hA953 ((congrFun (congrFun e954 674) o0).trans ((congrFun (up2_ne (k := 674)) o0).trans rfl)) ?_
                                    refine tt_iconst (v := 5) dX10_readRest_635 rfl ?_
                                    refine tt_icmp_ne (tgt := 644) dX10_readRest_636 rfl (fun q958 => ?_) (fun q958 => ?_)
                                    · skip
                                      refine tt_bipush (v := 16) dX10_readRest_644 rfl ?_
                                      refine tt_aload_n (j := 0) dX10_readRest_646 rfl ?_
                                      refine gt_gI (id := 673) (v := (hp_I S754 673 o0)) dX10_readRest_647 fl_10_100 rfl rfl h0 hA953 ((congrFun (congrFun e954 673) o0).trans ((congrFun (up2_ne (k := 673)) o0).trans rfl)) ?_
                                      refine tt_iconst (v := (-1)) dX10_readRest_650 rfl ?_
                                      refine gt_Vv (As := [.int 16, .int (hp_I S754 673 o0), .int (-1)]) dX10_readRest_651 ca_X10_123 ⟨by decide, by decide⟩ h0 hA953 rfl (Nat.le_of_ble_eq_true rfl) (Nat.le_of_ble_eq_true rfl) (by decide) (cs_X10_take hG952 (oa_af h0 hA953) (fun _ _ _ _ h => h)) rfl (fun _ h => nomatch h) (fun S959 hx963 hG960 hB961 hA962 => ?_)
                                      refine tt_aload_n (j := 0) dX10_readRest_654 rfl ?_
                                      refine tt_aload_n (j := 0) dX10_readRest_655 rfl ?_
                                      refine gt_VI (As := []) dX10_readRest_656 ca_X10_87 ⟨by decide, by decide⟩ h0 hA962 rfl (Nat.le_of_ble_eq_true rfl) (Nat.le_of_ble_eq_true rfl) (by decide) (cs_X10_next hG960 (oa_af h0 hA962) (fun _ _ _ _ h => h)) rfl (fun _ h => nomatch h) (fun S964 x969 h970 hx968 hG965 hB966 hA967 => ?_)
                                      refine tt_aload_n (j := 0) dX10_readRest_659 rfl ?_
                                      refine gt_gI (id := 656) (v := (hp_I S 656 o0)) dX10_readRest_660 fl_10_127 rfl rfl h0 hA967 (i_af (k := 656) h0 hA967) ?_
                                      refine tt_bipush (v := 64) dX10_readRest_663 rfl ?_
                                      refine tt_icmp_ne (tgt := 673) dX10_readRest_665 rfl (fun q971 => ?_) (fun q971 => ?_)
                                      · skip
                                        refine tt_bipush (v := 31) dX10_readRest_673 rfl ?_
                                        refine tt_iand dX10_readRest_675 ?_
                                        refine gt_pI (id := 659) (x := (x969 &&& 31)) dX10_readRest_676 fl_10_120 rfl rfl h0 hA967 rfl rfl rfl (gp_I hG965) (by decide) (fun h => absurd h (by decide)) (fun h => absurd h (by decide)) (fun S972 hG973 hA974 e975 f976 er977 => ?_)
                                        refine tt_goto (tgt := 766) dX10_readRest_679 rfl ?_
                                        exact tt_vreturn dX10_readRest_766 rfl (hP _ _ _ _ ⟨hG973, hA974, Or.inl ⟨_, rfl, rfl, (fun q => ⟨(Or.inr (rg_cast ((congrFun (congrFun e975 657) o0).trans ((congrFun (up2_ne (k := 657)) o0).trans ((i_af (k := 657) (oa_af h0 hA962) hB966).trans hx963.2.1))) (rg_w (hx758 (rg_eqc h849))))), (rg_cast ((congrFun (congrFun e975 658) o0).trans ((congrFun (up2_ne (k := 658)) o0).trans ((i_af (k := 658) (oa_af h0 hA962) hB966).trans hx963.2.2))) (rg_w (⟨by decide, by decide⟩ : Rg (-1) (-1) (-1))))⟩), rfl, rfl⟩⟩)
                                      · skip
                                        have h978 : Rg 64 64 (hp_I S 656 o0) := rg_eq_l (rg_all (hp_I S 656 o0)) (⟨by decide, by decide⟩ : Rg 64 64 64) q971
                                        refine tt_bipush (v := 63) dX10_readRest_668 rfl ?_
                                        refine tt_goto (tgt := 675) dX10_readRest_670 rfl ?_
                                        refine tt_iand dX10_readRest_675 ?_
                                        refine gt_pI (id := 659) (x := (x969 &&& 63)) dX10_readRest_676 fl_10_120 rfl rfl h0 hA967 rfl rfl rfl (gp_I hG965) (by decide) (fun h => absurd h (by decide)) (fun h => absurd h (by decide)) (fun S979 hG980 hA981 e982 f983 er984 => ?_)
                                        refine tt_goto (tgt := 766) dX10_readRest_679 rfl ?_
                                        exact tt_vreturn dX10_readRest_766 rfl (hP _ _ _ _ ⟨hG980, hA981, Or.inl ⟨_, rfl, rfl, (fun q => ⟨(Or.inr (rg_cast ((congrFun (congrFun e982 657) o0).trans ((congrFun (up2_ne (k := 657)) o0).trans ((i_af (k := 657) (oa_af h0 hA962) hB966).trans hx963.2.1))) (rg_w (hx758 (rg_eqc h849))))), (rg_cast ((congrFun (congrFun e982 658) o0).trans ((congrFun (up2_ne (k := 658)) o0).trans ((i_af (k := 658) (oa_af h0 hA962) hB966).trans hx963.2.2))) (rg_w (⟨by decide, by decide⟩ : Rg (-1) (-1) (-1))))⟩), rfl, rfl⟩⟩)
                                    · skip
                                      refine tt_bipush (v := 15) dX10_readRest_639 rfl ?_
                                      refine tt_goto (tgt := 646) dX10_readRest_641 rfl ?_
                                      refine tt_aload_n (j := 0) dX10_readRest_646 rfl ?_
                                      refine gt_gI (id := 673) (v := (hp_I S754 673 o0)) dX10_readRest_647 fl_10_100 rfl rfl h0 hA953 ((congrFun (congrFun e954 673) o0).trans ((congrFun (up2_ne (k := 673)) o0).trans rfl)) ?_
                                      refine tt_iconst (v := (-1)) dX10_readRest_650 rfl ?_
                                      refine gt_Vv (As := [.int 15, .int (hp_I S754 673 o0), .int (-1)]) dX10_readRest_651 ca_X10_123 ⟨by decide, by decide⟩ h0 hA953 rfl (Nat.le_of_ble_eq_true rfl) (Nat.le_of_ble_eq_true rfl) (by decide) (cs_X10_take hG952 (oa_af h0 hA953) (fun _ _ _ _ h => h)) rfl (fun _ h => nomatch h) (fun S985 hx989 hG986 hB987 hA988 => ?_)
                                      refine tt_aload_n (j := 0) dX10_readRest_654 rfl ?_
                                      refine tt_aload_n (j := 0) dX10_readRest_655 rfl ?_
                                      refine gt_VI (As := []) dX10_readRest_656 ca_X10_87 ⟨by decide, by decide⟩ h0 hA988 rfl (Nat.le_of_ble_eq_true rfl) (Nat.le_of_ble_eq_true rfl) (by decide) (cs_X10_next hG986 (oa_af h0 hA988) (fun _ _ _ _ h => h)) rfl (fun _ h => nomatch h) (fun S990 x995 h996 hx994 hG991 hB992 hA993 => ?_)
                                      refine tt_aload_n (j := 0) dX10_readRest_659 rfl ?_
                                      refine gt_gI (id := 656) (v := (hp_I S 656 o0)) dX10_readRest_660 fl_10_127 rfl rfl h0 hA993 (i_af (k := 656) h0 hA993) ?_
                                      refine tt_bipush (v := 64) dX10_readRest_663 rfl ?_
                                      refine tt_icmp_ne (tgt := 673) dX10_readRest_665 rfl (fun q997 => ?_) (fun q997 => ?_)
                                      · skip
                                        refine tt_bipush (v := 31) dX10_readRest_673 rfl ?_
                                        refine tt_iand dX10_readRest_675 ?_
                                        refine gt_pI (id := 659) (x := (x995 &&& 31)) dX10_readRest_676 fl_10_120 rfl rfl h0 hA993 rfl rfl rfl (gp_I hG991) (by decide) (fun h => absurd h (by decide)) (fun h => absurd h (by decide)) (fun S998 hG999 hA1000 e1001 f1002 er1003 => ?_)
                                        refine tt_goto (tgt := 766) dX10_readRest_679 rfl ?_
                                        exact tt_vreturn dX10_readRest_766 rfl (hP _ _ _ _ ⟨hG999, hA1000, Or.inl ⟨_, rfl, rfl, (fun q => ⟨(Or.inr (rg_cast ((congrFun (congrFun e1001 657) o0).trans ((congrFun (up2_ne (k := 657)) o0).trans ((i_af (k := 657) (oa_af h0 hA988) hB992).trans hx989.2.1))) (rg_w (hx758 (rg_eqc h849))))), (rg_cast ((congrFun (congrFun e1001 658) o0).trans ((congrFun (up2_ne (k := 658)) o0).trans ((i_af (k := 658) (oa_af h0 hA988) hB992).trans hx989.2.2))) (rg_w (⟨by decide, by decide⟩ : Rg (-1) (-1) (-1))))⟩), rfl, rfl⟩⟩)
                                      · skip
                                        have h1004 : Rg 64 64 (hp_I S 656 o0) := rg_eq_l (rg_all (hp_I S 656 o0)) (⟨by decide, by decide⟩ : Rg 64 64 64) q997
                                        refine tt_bipush (v := 63) dX10_readRest_668 rfl ?_
                                        refine tt_goto (tgt := 675) dX10_readRest_670 rfl ?_
                                        refine tt_iand dX10_readRest_675 ?_
                                        refine gt_pI (id := 659) (x := (x995 &&& 63)) dX10_readRest_676 fl_10_120 rfl rfl h0 hA993 rfl rfl rfl (gp_I hG991) (by decide) (fun h => absurd h (by decide)) (fun h => absurd h (by decide)) (fun S1005 hG1006 hA1007 e1008 f1009 er1010 => ?_)
                                        refine tt_goto (tgt := 766) dX10_readRest_679 rfl ?_
                                        exact tt_vreturn dX10_readRest_766 rfl (hP _ _ _ _ ⟨hG1006, hA1007, Or.inl ⟨_, rfl, rfl, (fun q => ⟨(Or.inr (rg_cast ((congrFun (congrFun e1008 657) o0).trans ((congrFun (up2_ne (k := 657)) o0).trans ((i_af (k := 657) (oa_af h0 hA988) hB992).trans hx989.2.1))) (rg_w (hx758 (rg_eqc h849))))), (rg_cast ((congrFun (congrFun e1008 658) o0).trans ((congrFun (up2_ne (k := 658)) o0).trans ((i_af (k := 658) (oa_af h0 hA988) hB992).trans hx989.2.2))) (rg_w (⟨by decide, by decide⟩ : Rg (-1) (-1) (-1))))⟩), rfl, rfl⟩⟩)
                                  · skip
                                    refine tt_bipush (v := 14) dX10_readRest_626 rfl ?_
                                    refine tt_goto (tgt := 646) dX10_readRest_628 rfl ?_
                                    refine tt_aload_n (j := 0) dX10_readRest_646 rfl ?_
                                    refine gt_gI (id := 673) (v := (hp_I S754 673 o0)) dX10_readRest_647 fl_10_100 rfl rfl h0 hA953 ((congrFun (congrFun e954 673) o0).trans ((congrFun (up2_ne (k := 673)) o0).trans rfl)) ?_
                                    refine tt_iconst (v := (-1)) dX10_readRest_650 rfl ?_
                                    refine gt_Vv (As := [.int 14, .int (hp_I S754 673 o0), .int (-1)]) dX10_readRest_651 ca_X10_123 ⟨by decide, by decide⟩ h0 hA953 rfl (Nat.le_of_ble_eq_true rfl) (Nat.le_of_ble_eq_true rfl) (by decide) (cs_X10_take hG952 (oa_af h0 hA953) (fun _ _ _ _ h => h)) rfl (fun _ h => nomatch h) (fun S1011 hx1015 hG1012 hB1013 hA1014 => ?_)
                                    refine tt_aload_n (j := 0) dX10_readRest_654 rfl ?_
                                    refine tt_aload_n (j := 0) dX10_readRest_655 rfl ?_
                                    refine gt_VI (As := []) dX10_readRest_656 ca_X10_87 ⟨by decide, by decide⟩ h0 hA1014 rfl (Nat.le_of_ble_eq_true rfl) (Nat.le_of_ble_eq_true rfl) (by decide) (cs_X10_next hG1012 (oa_af h0 hA1014) (fun _ _ _ _ h => h)) rfl (fun _ h => nomatch h) (fun S1016 x1021 h1022 hx1020 hG1017 hB1018 hA1019 => ?_)
                                    refine tt_aload_n (j := 0) dX10_readRest_659 rfl ?_
                                    refine gt_gI (id := 656) (v := (hp_I S 656 o0)) dX10_readRest_660 fl_10_127 rfl rfl h0 hA1019 (i_af (k := 656) h0 hA1019) ?_
                                    refine tt_bipush (v := 64) dX10_readRest_663 rfl ?_
                                    refine tt_icmp_ne (tgt := 673) dX10_readRest_665 rfl (fun q1023 => ?_) (fun q1023 => ?_)
                                    · skip
                                      refine tt_bipush (v := 31) dX10_readRest_673 rfl ?_
                                      refine tt_iand dX10_readRest_675 ?_
                                      refine gt_pI (id := 659) (x := (x1021 &&& 31)) dX10_readRest_676 fl_10_120 rfl rfl h0 hA1019 rfl rfl rfl (gp_I hG1017) (by decide) (fun h => absurd h (by decide)) (fun h => absurd h (by decide)) (fun S1024 hG1025 hA1026 e1027 f1028 er1029 => ?_)
                                      refine tt_goto (tgt := 766) dX10_readRest_679 rfl ?_
                                      exact tt_vreturn dX10_readRest_766 rfl (hP _ _ _ _ ⟨hG1025, hA1026, Or.inl ⟨_, rfl, rfl, (fun q => ⟨(Or.inr (rg_cast ((congrFun (congrFun e1027 657) o0).trans ((congrFun (up2_ne (k := 657)) o0).trans ((i_af (k := 657) (oa_af h0 hA1014) hB1018).trans hx1015.2.1))) (rg_w (hx758 (rg_eqc h849))))), (rg_cast ((congrFun (congrFun e1027 658) o0).trans ((congrFun (up2_ne (k := 658)) o0).trans ((i_af (k := 658) (oa_af h0 hA1014) hB1018).trans hx1015.2.2))) (rg_w (⟨by decide, by decide⟩ : Rg (-1) (-1) (-1))))⟩), rfl, rfl⟩⟩)
                                    · skip
                                      have h1030 : Rg 64 64 (hp_I S 656 o0) := rg_eq_l (rg_all (hp_I S 656 o0)) (⟨by decide, by decide⟩ : Rg 64 64 64) q1023
                                      refine tt_bipush (v := 63) dX10_readRest_668 rfl ?_
                                      refine tt_goto (tgt := 675) dX10_readRest_670 rfl ?_
                                      refine tt_iand dX10_readRest_675 ?_
                                      refine gt_pI (id := 659) (x := (x1021 &&& 63)) dX10_readRest_676 fl_10_120 rfl rfl h0 hA1019 rfl rfl rfl (gp_I hG1017) (by decide) (fun h => absurd h (by decide)) (fun h => absurd h (by decide)) (fun S1031 hG1032 hA1033 e1034 f1035 er1036 => ?_)
                                      refine tt_goto (tgt := 766) dX10_readRest_679 rfl ?_
                                      exact tt_vreturn dX10_readRest_766 rfl (hP _ _ _ _ ⟨hG1032, hA1033, Or.inl ⟨_, rfl, rfl, (fun q => ⟨(Or.inr (rg_cast ((congrFun (congrFun e1034 657) o0).trans ((congrFun (up2_ne (k := 657)) o0).trans ((i_af (k := 657) (oa_af h0 hA1014) hB1018).trans hx1015.2.1))) (rg_w (hx758 (rg_eqc h849))))), (rg_cast ((congrFun (congrFun e1034 658) o0).trans ((congrFun (up2_ne (k := 658)) o0).trans ((i_af (k := 658) (oa_af h0 hA1014) hB1018).trans hx1015.2.2))) (rg_w (⟨by decide, by decide⟩ : Rg (-1) (-1) (-1))))⟩), rfl, rfl⟩⟩)
                                · skip
                                  have h1037 : Rg 0 6 (hp_I S754 674 o0) := rg_ne_hi (gi_I (k := 674) hG755 (oa_af h0 hA757) 0 7) (⟨by decide, by decide⟩ : Rg 7 7 7) q949
                                  refine tt_iconst (v := 1) dX10_readRest_609 rfl ?_
                                  refine tt_goto (tgt := 614) dX10_readRest_610 rfl ?_
                                  refine gt_pI (id := 662) (x := 1) dX10_readRest_614 fl_10_84 rfl rfl h0 hA757 rfl rfl rfl (gp_Ir hG755 (⟨by decide, by decide⟩ : Rg 1 1 1)) (by decide) (fun _ _ q => absurd q (by decide)) (fun h => absurd h (by decide)) (fun S1038 hG1039 hA1040 e1041 f1042 er1043 => ?_)
                                  refine tt_aload_n (j := 0) dX10_readRest_617 rfl ?_
                                  refine tt_aload_n (j := 0) dX10_readRest_618 rfl ?_
                                  refine gt_gI (id := 674) (v := (hp_I S754 674 o0)) dX10_readRest_619 fl_10_94 rfl rfl h0 hA1040 ((congrFun (congrFun e1041 674) o0).trans ((congrFun (up2_ne (k := 674)) o0).trans rfl)) ?_
                                  refine tt_iconst (v := 4) dX10_readRest_622 rfl ?_
                                  refine tt_icmp_ne (tgt := 631) dX10_readRest_623 rfl (fun q1044 => ?_) (fun q1044 => ?_)
                                  · skip
                                    refine tt_aload_n (j := 0) dX10_readRest_631 rfl ?_
                                    refine gt_gI (id := 674) (v := (hp_I S754 674 o0)) dX10_readRest_632 fl_10_94 rfl rfl h0 hA1040 ((congrFun (congrFun e1041 674) o0).trans ((congrFun (up2_ne (k := 674)) o0).trans rfl)) ?_
                                    refine tt_iconst (v := 5) dX10_readRest_635 rfl ?_
                                    refine tt_icmp_ne (tgt := 644) dX10_readRest_636 rfl (fun q1045 => ?_) (fun q1045 => ?_)
                                    · skip
                                      refine tt_bipush (v := 16) dX10_readRest_644 rfl ?_
                                      refine tt_aload_n (j := 0) dX10_readRest_646 rfl ?_
                                      refine gt_gI (id := 673) (v := (hp_I S754 673 o0)) dX10_readRest_647 fl_10_100 rfl rfl h0 hA1040 ((congrFun (congrFun e1041 673) o0).trans ((congrFun (up2_ne (k := 673)) o0).trans rfl)) ?_
                                      refine tt_iconst (v := (-1)) dX10_readRest_650 rfl ?_
                                      refine gt_Vv (As := [.int 16, .int (hp_I S754 673 o0), .int (-1)]) dX10_readRest_651 ca_X10_123 ⟨by decide, by decide⟩ h0 hA1040 rfl (Nat.le_of_ble_eq_true rfl) (Nat.le_of_ble_eq_true rfl) (by decide) (cs_X10_take hG1039 (oa_af h0 hA1040) (fun _ _ _ _ h => h)) rfl (fun _ h => nomatch h) (fun S1046 hx1050 hG1047 hB1048 hA1049 => ?_)
                                      refine tt_aload_n (j := 0) dX10_readRest_654 rfl ?_
                                      refine tt_aload_n (j := 0) dX10_readRest_655 rfl ?_
                                      refine gt_VI (As := []) dX10_readRest_656 ca_X10_87 ⟨by decide, by decide⟩ h0 hA1049 rfl (Nat.le_of_ble_eq_true rfl) (Nat.le_of_ble_eq_true rfl) (by decide) (cs_X10_next hG1047 (oa_af h0 hA1049) (fun _ _ _ _ h => h)) rfl (fun _ h => nomatch h) (fun S1051 x1056 h1057 hx1055 hG1052 hB1053 hA1054 => ?_)
                                      refine tt_aload_n (j := 0) dX10_readRest_659 rfl ?_
                                      refine gt_gI (id := 656) (v := (hp_I S 656 o0)) dX10_readRest_660 fl_10_127 rfl rfl h0 hA1054 (i_af (k := 656) h0 hA1054) ?_
                                      refine tt_bipush (v := 64) dX10_readRest_663 rfl ?_
                                      refine tt_icmp_ne (tgt := 673) dX10_readRest_665 rfl (fun q1058 => ?_) (fun q1058 => ?_)
                                      · skip
                                        refine tt_bipush (v := 31) dX10_readRest_673 rfl ?_
                                        refine tt_iand dX10_readRest_675 ?_
                                        refine gt_pI (id := 659) (x := (x1056 &&& 31)) dX10_readRest_676 fl_10_120 rfl rfl h0 hA1054 rfl rfl rfl (gp_I hG1052) (by decide) (fun h => absurd h (by decide)) (fun h => absurd h (by decide)) (fun S1059 hG1060 hA1061 e1062 f1063 er1064 => ?_)
                                        refine tt_goto (tgt := 766) dX10_readRest_679 rfl ?_
                                        exact tt_vreturn dX10_readRest_766 rfl (hP _ _ _ _ ⟨hG1060, hA1061, Or.inl ⟨_, rfl, rfl, (fun q => (absurd (((congrFun (congrFun e1041 662) o0).trans up2_self).symm.trans (mo_af (oa_af h0 hA1040) hB1048 (mo_af (oa_af h0 hA1049) hB1053 ((congrFun (up2_ne (k := 662)) o0).symm.trans ((congrFun (congrFun e1062 662) o0).symm.trans q))))) (by decide))), rfl, rfl⟩⟩)
                                      · skip
                                        have h1065 : Rg 64 64 (hp_I S 656 o0) := rg_eq_l (rg_all (hp_I S 656 o0)) (⟨by decide, by decide⟩ : Rg 64 64 64) q1058
                                        refine tt_bipush (v := 63) dX10_readRest_668 rfl ?_
                                        refine tt_goto (tgt := 675) dX10_readRest_670 rfl ?_
                                        refine tt_iand dX10_readRest_675 ?_
                                        refine gt_pI (id := 659) (x := (x1056 &&& 63)) dX10_readRest_676 fl_10_120 rfl rfl h0 hA1054 rfl rfl rfl (gp_I hG1052) (by decide) (fun h => absurd h (by decide)) (fun h => absurd h (by decide)) (fun S1066 hG1067 hA1068 e1069 f1070 er1071 => ?_)
                                        refine tt_goto (tgt := 766) dX10_readRest_679 rfl ?_
                                        exact tt_vreturn dX10_readRest_766 rfl (hP _ _ _ _ ⟨hG1067, hA1068, Or.inl ⟨_, rfl, rfl, (fun q => (absurd (((congrFun (congrFun e1041 662) o0).trans up2_self).symm.trans (mo_af (oa_af h0 hA1040) hB1048 (mo_af (oa_af h0 hA1049) hB1053 ((congrFun (up2_ne (k := 662)) o0).symm.trans ((congrFun (congrFun e1069 662) o0).symm.trans q))))) (by decide))), rfl, rfl⟩⟩)
                                    · skip
                                      have h1072 : Rg 5 5 (hp_I S754 674 o0) := rg_eq_l h1037 (⟨by decide, by decide⟩ : Rg 5 5 5) q1045
                                      refine tt_bipush (v := 15) dX10_readRest_639 rfl ?_
                                      refine tt_goto (tgt := 646) dX10_readRest_641 rfl ?_
                                      refine tt_aload_n (j := 0) dX10_readRest_646 rfl ?_
                                      refine gt_gI (id := 673) (v := (hp_I S754 673 o0)) dX10_readRest_647 fl_10_100 rfl rfl h0 hA1040 ((congrFun (congrFun e1041 673) o0).trans ((congrFun (up2_ne (k := 673)) o0).trans rfl)) ?_
                                      refine tt_iconst (v := (-1)) dX10_readRest_650 rfl ?_
                                      refine gt_Vv (As := [.int 15, .int (hp_I S754 673 o0), .int (-1)]) dX10_readRest_651 ca_X10_123 ⟨by decide, by decide⟩ h0 hA1040 rfl (Nat.le_of_ble_eq_true rfl) (Nat.le_of_ble_eq_true rfl) (by decide) (cs_X10_take hG1039 (oa_af h0 hA1040) (fun _ _ _ _ h => h)) rfl (fun _ h => nomatch h) (fun S1073 hx1077 hG1074 hB1075 hA1076 => ?_)
                                      refine tt_aload_n (j := 0) dX10_readRest_654 rfl ?_
                                      refine tt_aload_n (j := 0) dX10_readRest_655 rfl ?_
                                      refine gt_VI (As := []) dX10_readRest_656 ca_X10_87 ⟨by decide, by decide⟩ h0 hA1076 rfl (Nat.le_of_ble_eq_true rfl) (Nat.le_of_ble_eq_true rfl) (by decide) (cs_X10_next hG1074 (oa_af h0 hA1076) (fun _ _ _ _ h => h)) rfl (fun _ h => nomatch h) (fun S1078 x1083 h1084 hx1082 hG1079 hB1080 hA1081 => ?_)
                                      refine tt_aload_n (j := 0) dX10_readRest_659 rfl ?_
                                      refine gt_gI (id := 656) (v := (hp_I S 656 o0)) dX10_readRest_660 fl_10_127 rfl rfl h0 hA1081 (i_af (k := 656) h0 hA1081) ?_
                                      refine tt_bipush (v := 64) dX10_readRest_663 rfl ?_
                                      refine tt_icmp_ne (tgt := 673) dX10_readRest_665 rfl (fun q1085 => ?_) (fun q1085 => ?_)
                                      · skip
                                        refine tt_bipush (v := 31) dX10_readRest_673 rfl ?_
                                        refine tt_iand dX10_readRest_675 ?_
                                        refine gt_pI (id := 659) (x := (x1083 &&& 31)) dX10_readRest_676 fl_10_120 rfl rfl h0 hA1081 rfl rfl rfl (gp_I hG1079) (by decide) (fun h => absurd h (by decide)) (fun h => absurd h (by decide)) (fun S1086 hG1087 hA1088 e1089 f1090 er1091 => ?_)
                                        refine tt_goto (tgt := 766) dX10_readRest_679 rfl ?_
                                        exact tt_vreturn dX10_readRest_766 rfl (hP _ _ _ _ ⟨hG1087, hA1088, Or.inl ⟨_, rfl, rfl, (fun q => (absurd (((congrFun (congrFun e1041 662) o0).trans up2_self).symm.trans (mo_af (oa_af h0 hA1040) hB1075 (mo_af (oa_af h0 hA1076) hB1080 ((congrFun (up2_ne (k := 662)) o0).symm.trans ((congrFun (congrFun e1089 662) o0).symm.trans q))))) (by decide))), rfl, rfl⟩⟩)
                                      · skip
                                        have h1092 : Rg 64 64 (hp_I S 656 o0) := rg_eq_l (rg_all (hp_I S 656 o0)) (⟨by decide, by decide⟩ : Rg 64 64 64) q1085
                                        refine tt_bipush (v := 63) dX10_readRest_668 rfl ?_
                                        refine tt_goto (tgt := 675) dX10_readRest_670 rfl ?_
                                        refine tt_iand dX10_readRest_675 ?_
                                        refine gt_pI (id := 659) (x := (x1083 &&& 63)) dX10_readRest_676 fl_10_120 rfl rfl h0 hA1081 rfl rfl rfl (gp_I hG1079) (by decide) (fun h => absurd h (by decide)) (fun h => absurd h (by decide)) (fun S1093 hG1094 hA1095 e1096 f1097 er1098 => ?_)
                                        refine tt_goto (tgt := 766) dX10_readRest_679 rfl ?_
                                        exact tt_vreturn dX10_readRest_766 rfl (hP _ _ _ _ ⟨hG1094, hA1095, Or.inl ⟨_, rfl, rfl, (fun q => (absurd (((congrFun (congrFun e1041 662) o0).trans up2_self).symm.trans (mo_af (oa_af h0 hA1040) hB1075 (mo_af (oa_af h0 hA1076) hB1080 ((congrFun (up2_ne (k := 662)) o0).symm.trans ((congrFun (congrFun e1096 662) o0).symm.trans q))))) (by decide))), rfl, rfl⟩⟩)
                                  · skip
                                    have h1099 : Rg 4 4 (hp_I S754 674 o0) := rg_eq_l h1037 (⟨by decide, by decide⟩ : Rg 4 4 4) q1044
                                    refine tt_bipush (v := 14) dX10_readRest_626 rfl ?_
                                    refine tt_goto (tgt := 646) dX10_readRest_628 rfl ?_
                                    refine tt_aload_n (j := 0) dX10_readRest_646 rfl ?_
                                    refine gt_gI (id := 673) (v := (hp_I S754 673 o0)) dX10_readRest_647 fl_10_100 rfl rfl h0 hA1040 ((congrFun (congrFun e1041 673) o0).trans ((congrFun (up2_ne (k := 673)) o0).trans rfl)) ?_
                                    refine tt_iconst (v := (-1)) dX10_readRest_650 rfl ?_
                                    refine gt_Vv (As := [.int 14, .int (hp_I S754 673 o0), .int (-1)]) dX10_readRest_651 ca_X10_123 ⟨by decide, by decide⟩ h0 hA1040 rfl (Nat.le_of_ble_eq_true rfl) (Nat.le_of_ble_eq_true rfl) (by decide) (cs_X10_take hG1039 (oa_af h0 hA1040) (fun _ _ _ _ h => h)) rfl (fun _ h => nomatch h) (fun S1100 hx1104 hG1101 hB1102 hA1103 => ?_)
                                    refine tt_aload_n (j := 0) dX10_readRest_654 rfl ?_
                                    refine tt_aload_n (j := 0) dX10_readRest_655 rfl ?_
                                    refine gt_VI (As := []) dX10_readRest_656 ca_X10_87 ⟨by decide, by decide⟩ h0 hA1103 rfl (Nat.le_of_ble_eq_true rfl) (Nat.le_of_ble_eq_true rfl) (by decide) (cs_X10_next hG1101 (oa_af h0 hA1103) (fun _ _ _ _ h => h)) rfl (fun _ h => nomatch h) (fun S1105 x1110 h1111 hx1109 hG1106 hB1107 hA1108 => ?_)
                                    refine tt_aload_n (j := 0) dX10_readRest_659 rfl ?_
                                    refine gt_gI (id := 656) (v := (hp_I S 656 o0)) dX10_readRest_660 fl_10_127 rfl rfl h0 hA1108 (i_af (k := 656) h0 hA1108) ?_
                                    refine tt_bipush (v := 64) dX10_readRest_663 rfl ?_
                                    refine tt_icmp_ne (tgt := 673) dX10_readRest_665 rfl (fun q1112 => ?_) (fun q1112 => ?_)
                                    · skip
                                      refine tt_bipush (v := 31) dX10_readRest_673 rfl ?_
                                      refine tt_iand dX10_readRest_675 ?_
                                      refine gt_pI (id := 659) (x := (x1110 &&& 31)) dX10_readRest_676 fl_10_120 rfl rfl h0 hA1108 rfl rfl rfl (gp_I hG1106) (by decide) (fun h => absurd h (by decide)) (fun h => absurd h (by decide)) (fun S1113 hG1114 hA1115 e1116 f1117 er1118 => ?_)
                                      refine tt_goto (tgt := 766) dX10_readRest_679 rfl ?_
                                      exact tt_vreturn dX10_readRest_766 rfl (hP _ _ _ _ ⟨hG1114, hA1115, Or.inl ⟨_, rfl, rfl, (fun q => (absurd (((congrFun (congrFun e1041 662) o0).trans up2_self).symm.trans (mo_af (oa_af h0 hA1040) hB1102 (mo_af (oa_af h0 hA1103) hB1107 ((congrFun (up2_ne (k := 662)) o0).symm.trans ((congrFun (congrFun e1116 662) o0).symm.trans q))))) (by decide))), rfl, rfl⟩⟩)
                                    · skip
                                      have h1119 : Rg 64 64 (hp_I S 656 o0) := rg_eq_l (rg_all (hp_I S 656 o0)) (⟨by decide, by decide⟩ : Rg 64 64 64) q1112
                                      refine tt_bipush (v := 63) dX10_readRest_668 rfl ?_
                                      refine tt_goto (tgt := 675) dX10_readRest_670 rfl ?_
                                      refine tt_iand dX10_readRest_675 ?_
                                      refine gt_pI (id := 659) (x := (x1110 &&& 63)) dX10_readRest_676 fl_10_120 rfl rfl h0 hA1108 rfl rfl rfl (gp_I hG1106) (by decide) (fun h => absurd h (by decide)) (fun h => absurd h (by decide)) (fun S1120 hG1121 hA1122 e1123 f1124 er1125 => ?_)
                                      refine tt_goto (tgt := 766) dX10_readRest_679 rfl ?_
                                      exact tt_vreturn dX10_readRest_766 rfl (hP _ _ _ _ ⟨hG1121, hA1122, Or.inl ⟨_, rfl, rfl, (fun q => (absurd (((congrFun (congrFun e1041 662) o0).trans up2_self).symm.trans (mo_af (oa_af h0 hA1040) hB1102 (mo_af (oa_af h0 hA1103) hB1107 ((congrFun (up2_ne (k := 662)) o0).symm.trans ((congrFun (congrFun e1123 662) o0).symm.trans q))))) (by decide))), rfl, rfl⟩⟩)
                      · skip
                        have h1126 : Rg 184 191 x1 := rg_lt_l h674 (⟨by decide, by decide⟩ : Rg 192 192 192) (nle_lt q675)
                        refine tt_aload_n (j := 0) dX10_readRest_513 rfl ?_
                        refine tt_bipush (v := 13) dX10_readRest_514 rfl ?_
                        refine tt_iload_n (j := 1) dX10_readRest_516 rfl ?_
                        refine tt_sipush (v := 184) dX10_readRest_517 rfl ?_
                        refine tt_isub dX10_readRest_520 ?_
                        refine tt_iload_n (j := 2) dX10_readRest_521 rfl ?_
                        refine tt_iconst (v := 1) dX10_readRest_522 rfl ?_
                        refine tt_iand dX10_readRest_523 ?_
                        refine tt_if_eq (tgt := 532) dX10_readRest_524 rfl (fun q1127 => ?_) (fun q1127 => ?_)
                        · skip
                          have h1128 : Rg 0 0 (x2 &&& 1) := rg_eq_l (rg_and (x := x2) (⟨by decide, by decide⟩ : Rg 1 1 1)) (⟨by decide, by decide⟩ : Rg 0 0 0) q1127
                          refine tt_iconst (v := 0) dX10_readRest_532 rfl ?_
                          refine tt_iadd dX10_readRest_533 ?_
                          refine tt_iconst (v := (-1)) dX10_readRest_534 rfl ?_
                          refine gt_Vv (As := [.int 13, .int ((x1 - 184) + 0), .int (-1)]) dX10_readRest_535 ca_X10_123 ⟨by decide, by decide⟩ h0 hA rfl (Nat.le_of_ble_eq_true rfl) (Nat.le_of_ble_eq_true rfl) (by decide) (cs_X10_take hG (oa_af h0 hA) (fun _ _ _ _ h => h)) rfl (fun _ h => nomatch h) (fun S1129 hx1133 hG1130 hB1131 hA1132 => ?_)
                          refine tt_aload_n (j := 0) dX10_readRest_538 rfl ?_
                          refine tt_aload_n (j := 0) dX10_readRest_539 rfl ?_
                          refine tt_aload_n (j := 0) dX10_readRest_540 rfl ?_
                          refine gt_gI (id := 656) (v := (hp_I S 656 o0)) dX10_readRest_541 fl_10_127 rfl rfl h0 hA1132 (i_af (k := 656) h0 hA1132) ?_
                          refine tt_bipush (v := 64) dX10_readRest_544 rfl ?_
                          refine tt_icmp_ne (tgt := 554) dX10_readRest_546 rfl (fun q1134 => ?_) (fun q1134 => ?_)
                          · skip
                            refine tt_iconst (v := 4) dX10_readRest_554 rfl ?_
                            refine gt_VJ (As := [.int 4]) dX10_readRest_555 ca_X10_103 ⟨by decide, by decide⟩ h0 hA1132 rfl (Nat.le_of_ble_eq_true rfl) (Nat.le_of_ble_eq_true rfl) (by decide) (cs_X10_number hG1130 (oa_af h0 hA1132) (fun _ _ _ _ h => h)) rfl (fun _ h => nomatch h) (fun S1135 y1140 hx1139 hG1136 hB1137 hA1138 => ?_)
                            refine gt_pJ (id := 660) (x := y1140) dX10_readRest_558 fl_10_116 rfl rfl h0 hA1138 rfl rfl rfl hG1136 (fun S1142 hG1143 hA1144 e1145 f1146 er1147 => ?_)
                            refine tt_goto (tgt := 766) dX10_readRest_561 rfl ?_
                            exact tt_vreturn dX10_readRest_766 rfl (hP _ _ _ _ ⟨hG1143, hA1144, Or.inl ⟨_, rfl, rfl, (fun q => ⟨(Or.inr (rg_cast ((congrFun (congrFun e1145 657) o0).trans ((i_af (k := 657) (oa_af h0 hA1132) hB1137).trans hx1133.2.1)) (rg_w (rg_add (lo := 0) (hi := 7) (rg_sub (lo := 0) (hi := 7) h1126 (⟨by decide, by decide⟩ : Rg 184 184 184)) (⟨by decide, by decide⟩ : Rg 0 0 0))))), (rg_cast ((congrFun (congrFun e1145 658) o0).trans ((i_af (k := 658) (oa_af h0 hA1132) hB1137).trans hx1133.2.2)) (rg_w (⟨by decide, by decide⟩ : Rg (-1) (-1) (-1))))⟩), rfl, rfl⟩⟩)
                          · skip
                            have h1148 : Rg 64 64 (hp_I S 656 o0) := rg_eq_l (rg_all (hp_I S 656 o0)) (⟨by decide, by decide⟩ : Rg 64 64 64) q1134
                            refine tt_bipush (v := 8) dX10_readRest_549 rfl ?_
                            refine tt_goto (tgt := 555) dX10_readRest_551 rfl ?_
                            refine gt_VJ (As := [.int 8]) dX10_readRest_555 ca_X10_103 ⟨by decide, by decide⟩ h0 hA1132 rfl (Nat.le_of_ble_eq_true rfl) (Nat.le_of_ble_eq_true rfl) (by decide) (cs_X10_number hG1130 (oa_af h0 hA1132) (fun _ _ _ _ h => h)) rfl (fun _ h => nomatch h) (fun S1149 y1154 hx1153 hG1150 hB1151 hA1152 => ?_)
                            refine gt_pJ (id := 660) (x := y1154) dX10_readRest_558 fl_10_116 rfl rfl h0 hA1152 rfl rfl rfl hG1150 (fun S1156 hG1157 hA1158 e1159 f1160 er1161 => ?_)
                            refine tt_goto (tgt := 766) dX10_readRest_561 rfl ?_
                            exact tt_vreturn dX10_readRest_766 rfl (hP _ _ _ _ ⟨hG1157, hA1158, Or.inl ⟨_, rfl, rfl, (fun q => ⟨(Or.inr (rg_cast ((congrFun (congrFun e1159 657) o0).trans ((i_af (k := 657) (oa_af h0 hA1132) hB1151).trans hx1133.2.1)) (rg_w (rg_add (lo := 0) (hi := 7) (rg_sub (lo := 0) (hi := 7) h1126 (⟨by decide, by decide⟩ : Rg 184 184 184)) (⟨by decide, by decide⟩ : Rg 0 0 0))))), (rg_cast ((congrFun (congrFun e1159 658) o0).trans ((i_af (k := 658) (oa_af h0 hA1132) hB1151).trans hx1133.2.2)) (rg_w (⟨by decide, by decide⟩ : Rg (-1) (-1) (-1))))⟩), rfl, rfl⟩⟩)
                        · skip
                          have h1162 : Rg 1 1 (x2 &&& 1) := rg_ne_lo (rg_and (x := x2) (⟨by decide, by decide⟩ : Rg 1 1 1)) (⟨by decide, by decide⟩ : Rg 0 0 0) q1127
                          refine tt_bipush (v := 8) dX10_readRest_527 rfl ?_
                          refine tt_goto (tgt := 533) dX10_readRest_529 rfl ?_
                          refine tt_iadd dX10_readRest_533 ?_
                          refine tt_iconst (v := (-1)) dX10_readRest_534 rfl ?_
                          refine gt_Vv (As := [.int 13, .int ((x1 - 184) + 8), .int (-1)]) dX10_readRest_535 ca_X10_123 ⟨by decide, by decide⟩ h0 hA rfl (Nat.le_of_ble_eq_true rfl) (Nat.le_of_ble_eq_true rfl) (by decide) (cs_X10_take hG (oa_af h0 hA) (fun _ _ _ _ h => h)) rfl (fun _ h => nomatch h) (fun S1163 hx1167 hG1164 hB1165 hA1166 => ?_)
                          refine tt_aload_n (j := 0) dX10_readRest_538 rfl ?_
                          refine tt_aload_n (j := 0) dX10_readRest_539 rfl ?_
                          refine tt_aload_n (j := 0) dX10_readRest_540 rfl ?_
                          refine gt_gI (id := 656) (v := (hp_I S 656 o0)) dX10_readRest_541 fl_10_127 rfl rfl h0 hA1166 (i_af (k := 656) h0 hA1166) ?_
                          refine tt_bipush (v := 64) dX10_readRest_544 rfl ?_
                          refine tt_icmp_ne (tgt := 554) dX10_readRest_546 rfl (fun q1168 => ?_) (fun q1168 => ?_)
                          · skip
                            refine tt_iconst (v := 4) dX10_readRest_554 rfl ?_
                            refine gt_VJ (As := [.int 4]) dX10_readRest_555 ca_X10_103 ⟨by decide, by decide⟩ h0 hA1166 rfl (Nat.le_of_ble_eq_true rfl) (Nat.le_of_ble_eq_true rfl) (by decide) (cs_X10_number hG1164 (oa_af h0 hA1166) (fun _ _ _ _ h => h)) rfl (fun _ h => nomatch h) (fun S1169 y1174 hx1173 hG1170 hB1171 hA1172 => ?_)
                            refine gt_pJ (id := 660) (x := y1174) dX10_readRest_558 fl_10_116 rfl rfl h0 hA1172 rfl rfl rfl hG1170 (fun S1176 hG1177 hA1178 e1179 f1180 er1181 => ?_)
                            refine tt_goto (tgt := 766) dX10_readRest_561 rfl ?_
                            exact tt_vreturn dX10_readRest_766 rfl (hP _ _ _ _ ⟨hG1177, hA1178, Or.inl ⟨_, rfl, rfl, (fun q => ⟨(Or.inr (rg_cast ((congrFun (congrFun e1179 657) o0).trans ((i_af (k := 657) (oa_af h0 hA1166) hB1171).trans hx1167.2.1)) (rg_w (rg_add (lo := 8) (hi := 15) (rg_sub (lo := 0) (hi := 7) h1126 (⟨by decide, by decide⟩ : Rg 184 184 184)) (⟨by decide, by decide⟩ : Rg 8 8 8))))), (rg_cast ((congrFun (congrFun e1179 658) o0).trans ((i_af (k := 658) (oa_af h0 hA1166) hB1171).trans hx1167.2.2)) (rg_w (⟨by decide, by decide⟩ : Rg (-1) (-1) (-1))))⟩), rfl, rfl⟩⟩)
                          · skip
                            have h1182 : Rg 64 64 (hp_I S 656 o0) := rg_eq_l (rg_all (hp_I S 656 o0)) (⟨by decide, by decide⟩ : Rg 64 64 64) q1168
                            refine tt_bipush (v := 8) dX10_readRest_549 rfl ?_
                            refine tt_goto (tgt := 555) dX10_readRest_551 rfl ?_
                            refine gt_VJ (As := [.int 8]) dX10_readRest_555 ca_X10_103 ⟨by decide, by decide⟩ h0 hA1166 rfl (Nat.le_of_ble_eq_true rfl) (Nat.le_of_ble_eq_true rfl) (by decide) (cs_X10_number hG1164 (oa_af h0 hA1166) (fun _ _ _ _ h => h)) rfl (fun _ h => nomatch h) (fun S1183 y1188 hx1187 hG1184 hB1185 hA1186 => ?_)
                            refine gt_pJ (id := 660) (x := y1188) dX10_readRest_558 fl_10_116 rfl rfl h0 hA1186 rfl rfl rfl hG1184 (fun S1190 hG1191 hA1192 e1193 f1194 er1195 => ?_)
                            refine tt_goto (tgt := 766) dX10_readRest_561 rfl ?_
                            exact tt_vreturn dX10_readRest_766 rfl (hP _ _ _ _ ⟨hG1191, hA1192, Or.inl ⟨_, rfl, rfl, (fun q => ⟨(Or.inr (rg_cast ((congrFun (congrFun e1193 657) o0).trans ((i_af (k := 657) (oa_af h0 hA1166) hB1185).trans hx1167.2.1)) (rg_w (rg_add (lo := 8) (hi := 15) (rg_sub (lo := 0) (hi := 7) h1126 (⟨by decide, by decide⟩ : Rg 184 184 184)) (⟨by decide, by decide⟩ : Rg 8 8 8))))), (rg_cast ((congrFun (congrFun e1193 658) o0).trans ((i_af (k := 658) (oa_af h0 hA1166) hB1185).trans hx1167.2.2)) (rg_w (⟨by decide, by decide⟩ : Rg (-1) (-1) (-1))))⟩), rfl, rfl⟩⟩)
                  · skip
                    have h1196 : Rg 199 199 x1 := rg_eq_l h102 (⟨by decide, by decide⟩ : Rg 199 199 199) q222
                    refine tt_aload_n (j := 0) dX10_readRest_448 rfl ?_
                    refine tt_iload_n (j := 2) dX10_readRest_449 rfl ?_
                    refine gt_Vv (As := [.int x2]) dX10_readRest_450 ca_X10_137 ⟨by decide, by decide⟩ h0 hA rfl (Nat.le_of_ble_eq_true rfl) (Nat.le_of_ble_eq_true rfl) (by decide) (cs_X10_readPlaces hG (oa_af h0 hA) (fun _ _ _ _ h => h)) rfl (fun _ h => nomatch h) (fun S1197 hx1201 hG1198 hB1199 hA1200 => ?_)
                    refine tt_aload_n (j := 0) dX10_readRest_453 rfl ?_
                    refine tt_aload_n (j := 0) dX10_readRest_454 rfl ?_
                    refine tt_getI (id := 662) dX10_readRest_455 fl_10_84 rfl rfl (ob_af h0 hA1200) ?_
                    refine tt_if_ne (tgt := 468) dX10_readRest_458 rfl (fun q1202 => ?_) (fun q1202 => ?_)
                    · skip
                      have h1203 : Rg 1 1 (hp_I S1197 662 o0) := rg_ne_lo (gi_I (k := 662) hG1198 (oa_af h0 hA1200) 0 1) (⟨by decide, by decide⟩ : Rg 0 0 0) q1202
                      refine tt_iconst (v := 1) dX10_readRest_468 rfl ?_
                      refine tt_goto (tgt := 473) dX10_readRest_469 rfl ?_
                      refine gt_pI (id := 662) (x := 1) dX10_readRest_473 fl_10_84 rfl rfl h0 hA1200 rfl rfl rfl (gp_Ir hG1198 (⟨by decide, by decide⟩ : Rg 1 1 1)) (by decide) (fun _ _ q => absurd q (by decide)) (fun h => absurd h (by decide)) (fun S1204 hG1205 hA1206 e1207 f1208 er1209 => ?_)
                      refine tt_aload_n (j := 0) dX10_readRest_476 rfl ?_
                      refine tt_bipush (v := 13) dX10_readRest_477 rfl ?_
                      refine tt_aload_n (j := 0) dX10_readRest_479 rfl ?_
                      refine gt_gI (id := 673) (v := (hp_I S1197 673 o0)) dX10_readRest_480 fl_10_100 rfl rfl h0 hA1206 ((congrFun (congrFun e1207 673) o0).trans ((congrFun (up2_ne (k := 673)) o0).trans rfl)) ?_
                      refine tt_iconst (v := (-1)) dX10_readRest_483 rfl ?_
                      refine gt_Vv (As := [.int 13, .int (hp_I S1197 673 o0), .int (-1)]) dX10_readRest_484 ca_X10_123 ⟨by decide, by decide⟩ h0 hA1206 rfl (Nat.le_of_ble_eq_true rfl) (Nat.le_of_ble_eq_true rfl) (by decide) (cs_X10_take hG1205 (oa_af h0 hA1206) (fun _ _ _ _ h => h)) rfl (fun _ h => nomatch h) (fun S1210 hx1214 hG1211 hB1212 hA1213 => ?_)
                      refine tt_aload_n (j := 0) dX10_readRest_487 rfl ?_
                      refine tt_aload_n (j := 0) dX10_readRest_488 rfl ?_
                      refine tt_iconst (v := 4) dX10_readRest_489 rfl ?_
                      refine gt_VJ (As := [.int 4]) dX10_readRest_490 ca_X10_103 ⟨by decide, by decide⟩ h0 hA1213 rfl (Nat.le_of_ble_eq_true rfl) (Nat.le_of_ble_eq_true rfl) (by decide) (cs_X10_number hG1211 (oa_af h0 hA1213) (fun _ _ _ _ h => h)) rfl (fun _ h => nomatch h) (fun S1215 y1220 hx1219 hG1216 hB1217 hA1218 => ?_)
                      refine gt_pJ (id := 660) (x := y1220) dX10_readRest_493 fl_10_116 rfl rfl h0 hA1218 rfl rfl rfl hG1216 (fun S1222 hG1223 hA1224 e1225 f1226 er1227 => ?_)
                      refine tt_goto (tgt := 766) dX10_readRest_496 rfl ?_
                      exact tt_vreturn dX10_readRest_766 rfl (hP _ _ _ _ ⟨hG1223, hA1224, Or.inl ⟨_, rfl, rfl, (fun q => (absurd (((congrFun (congrFun e1207 662) o0).trans up2_self).symm.trans (mo_af (oa_af h0 hA1206) hB1212 (mo_af (oa_af h0 hA1213) hB1217 ((congrFun (congrFun e1225 662) o0).symm.trans q)))) (by decide))), rfl, rfl⟩⟩)
                    · skip
                      have h1228 : Rg 0 0 (hp_I S1197 662 o0) := rg_eq_l (gi_I (k := 662) hG1198 (oa_af h0 hA1200) 0 1) (⟨by decide, by decide⟩ : Rg 0 0 0) q1202
                      refine tt_aload_n (j := 0) dX10_readRest_461 rfl ?_
                      refine tt_getI (id := 674) dX10_readRest_462 fl_10_94 rfl rfl (ob_af h0 hA1200) ?_
                      refine tt_if_eq (tgt := 472) dX10_readRest_465 rfl (fun q1229 => ?_) (fun q1229 => ?_)
                      · skip
                        have h1230 : Rg 0 0 (hp_I S1197 674 o0) := rg_eq_l (gi_I (k := 674) hG1198 (oa_af h0 hA1200) 0 7) (⟨by decide, by decide⟩ : Rg 0 0 0) q1229
                        refine tt_iconst (v := 0) dX10_readRest_472 rfl ?_
                        refine gt_pI (id := 662) (x := 0) dX10_readRest_473 fl_10_84 rfl rfl h0 hA1200 rfl rfl rfl (gp_Ir hG1198 (⟨by decide, by decide⟩ : Rg 0 0 0)) (by decide) (fun _ _ _ => (rg_eqc h1228)) (fun h => absurd h (by decide)) (fun S1231 hG1232 hA1233 e1234 f1235 er1236 => ?_)
                        refine tt_aload_n (j := 0) dX10_readRest_476 rfl ?_
                        refine tt_bipush (v := 13) dX10_readRest_477 rfl ?_
                        refine tt_aload_n (j := 0) dX10_readRest_479 rfl ?_
                        refine gt_gI (id := 673) (v := (hp_I S1197 673 o0)) dX10_readRest_480 fl_10_100 rfl rfl h0 hA1233 ((congrFun (congrFun e1234 673) o0).trans ((congrFun (up2_ne (k := 673)) o0).trans rfl)) ?_
                        refine tt_iconst (v := (-1)) dX10_readRest_483 rfl ?_
                        refine gt_Vv (As := [.int 13, .int (hp_I S1197 673 o0), .int (-1)]) dX10_readRest_484 ca_X10_123 ⟨by decide, by decide⟩ h0 hA1233 rfl (Nat.le_of_ble_eq_true rfl) (Nat.le_of_ble_eq_true rfl) (by decide) (cs_X10_take hG1232 (oa_af h0 hA1233) (fun _ _ _ _ h => h)) rfl (fun _ h => nomatch h) (fun S1237 hx1241 hG1238 hB1239 hA1240 => ?_)
                        refine tt_aload_n (j := 0) dX10_readRest_487 rfl ?_
                        refine tt_aload_n (j := 0) dX10_readRest_488 rfl ?_
                        refine tt_iconst (v := 4) dX10_readRest_489 rfl ?_
                        refine gt_VJ (As := [.int 4]) dX10_readRest_490 ca_X10_103 ⟨by decide, by decide⟩ h0 hA1240 rfl (Nat.le_of_ble_eq_true rfl) (Nat.le_of_ble_eq_true rfl) (by decide) (cs_X10_number hG1238 (oa_af h0 hA1240) (fun _ _ _ _ h => h)) rfl (fun _ h => nomatch h) (fun S1242 y1247 hx1246 hG1243 hB1244 hA1245 => ?_)
                        refine gt_pJ (id := 660) (x := y1247) dX10_readRest_493 fl_10_116 rfl rfl h0 hA1245 rfl rfl rfl hG1243 (fun S1249 hG1250 hA1251 e1252 f1253 er1254 => ?_)
                        refine tt_goto (tgt := 766) dX10_readRest_496 rfl ?_
                        exact tt_vreturn dX10_readRest_766 rfl (hP _ _ _ _ ⟨hG1250, hA1251, Or.inl ⟨_, rfl, rfl, (fun q => ⟨(Or.inr (rg_cast ((congrFun (congrFun e1252 657) o0).trans ((i_af (k := 657) (oa_af h0 hA1240) hB1244).trans hx1241.2.1)) (rg_w (hx1201 (rg_eqc h1228))))), (rg_cast ((congrFun (congrFun e1252 658) o0).trans ((i_af (k := 658) (oa_af h0 hA1240) hB1244).trans hx1241.2.2)) (rg_w (⟨by decide, by decide⟩ : Rg (-1) (-1) (-1))))⟩), rfl, rfl⟩⟩)
                      · skip
                        have h1255 : Rg 1 7 (hp_I S1197 674 o0) := rg_ne_lo (gi_I (k := 674) hG1198 (oa_af h0 hA1200) 0 7) (⟨by decide, by decide⟩ : Rg 0 0 0) q1229
                        refine tt_iconst (v := 1) dX10_readRest_468 rfl ?_
                        refine tt_goto (tgt := 473) dX10_readRest_469 rfl ?_
                        refine gt_pI (id := 662) (x := 1) dX10_readRest_473 fl_10_84 rfl rfl h0 hA1200 rfl rfl rfl (gp_Ir hG1198 (⟨by decide, by decide⟩ : Rg 1 1 1)) (by decide) (fun _ _ q => absurd q (by decide)) (fun h => absurd h (by decide)) (fun S1256 hG1257 hA1258 e1259 f1260 er1261 => ?_)
                        refine tt_aload_n (j := 0) dX10_readRest_476 rfl ?_
                        refine tt_bipush (v := 13) dX10_readRest_477 rfl ?_
                        refine tt_aload_n (j := 0) dX10_readRest_479 rfl ?_
                        refine gt_gI (id := 673) (v := (hp_I S1197 673 o0)) dX10_readRest_480 fl_10_100 rfl rfl h0 hA1258 ((congrFun (congrFun e1259 673) o0).trans ((congrFun (up2_ne (k := 673)) o0).trans rfl)) ?_
                        refine tt_iconst (v := (-1)) dX10_readRest_483 rfl ?_
                        refine gt_Vv (As := [.int 13, .int (hp_I S1197 673 o0), .int (-1)]) dX10_readRest_484 ca_X10_123 ⟨by decide, by decide⟩ h0 hA1258 rfl (Nat.le_of_ble_eq_true rfl) (Nat.le_of_ble_eq_true rfl) (by decide) (cs_X10_take hG1257 (oa_af h0 hA1258) (fun _ _ _ _ h => h)) rfl (fun _ h => nomatch h) (fun S1262 hx1266 hG1263 hB1264 hA1265 => ?_)
                        refine tt_aload_n (j := 0) dX10_readRest_487 rfl ?_
                        refine tt_aload_n (j := 0) dX10_readRest_488 rfl ?_
                        refine tt_iconst (v := 4) dX10_readRest_489 rfl ?_
                        refine gt_VJ (As := [.int 4]) dX10_readRest_490 ca_X10_103 ⟨by decide, by decide⟩ h0 hA1265 rfl (Nat.le_of_ble_eq_true rfl) (Nat.le_of_ble_eq_true rfl) (by decide) (cs_X10_number hG1263 (oa_af h0 hA1265) (fun _ _ _ _ h => h)) rfl (fun _ h => nomatch h) (fun S1267 y1272 hx1271 hG1268 hB1269 hA1270 => ?_)
                        refine gt_pJ (id := 660) (x := y1272) dX10_readRest_493 fl_10_116 rfl rfl h0 hA1270 rfl rfl rfl hG1268 (fun S1274 hG1275 hA1276 e1277 f1278 er1279 => ?_)
                        refine tt_goto (tgt := 766) dX10_readRest_496 rfl ?_
                        exact tt_vreturn dX10_readRest_766 rfl (hP _ _ _ _ ⟨hG1275, hA1276, Or.inl ⟨_, rfl, rfl, (fun q => (absurd (((congrFun (congrFun e1259 662) o0).trans up2_self).symm.trans (mo_af (oa_af h0 hA1258) hB1264 (mo_af (oa_af h0 hA1265) hB1269 ((congrFun (congrFun e1277 662) o0).symm.trans q)))) (by decide))), rfl, rfl⟩⟩)
                · skip
                  have h1280 : Rg 139 139 x1 := rg_eq_l h102 (⟨by decide, by decide⟩ : Rg 139 139 139) q221
                  refine tt_aload_n (j := 0) dX10_readRest_391 rfl ?_
                  refine tt_iload_n (j := 2) dX10_readRest_392 rfl ?_
                  refine gt_Vv (As := [.int x2]) dX10_readRest_393 ca_X10_137 ⟨by decide, by decide⟩ h0 hA rfl (Nat.le_of_ble_eq_true rfl) (Nat.le_of_ble_eq_true rfl) (by decide) (cs_X10_readPlaces hG (oa_af h0 hA) (fun _ _ _ _ h => h)) rfl (fun _ h => nomatch h) (fun S1281 hx1285 hG1282 hB1283 hA1284 => ?_)
                  refine tt_aload_n (j := 0) dX10_readRest_396 rfl ?_
                  refine tt_bipush (v := 13) dX10_readRest_397 rfl ?_
                  refine tt_iload_n (j := 1) dX10_readRest_399 rfl ?_
                  refine tt_sipush (v := 137) dX10_readRest_400 rfl ?_
                  refine tt_icmp_ne (tgt := 413) dX10_readRest_403 rfl (fun q1286 => ?_) (fun q1286 => ?_)
                  · skip
                    refine tt_aload_n (j := 0) dX10_readRest_413 rfl ?_
                    refine tt_getI (id := 672) dX10_readRest_414 fl_10_97 rfl rfl (ob_af h0 hA1284) ?_
                    refine tt_iload_n (j := 1) dX10_readRest_417 rfl ?_
                    refine tt_sipush (v := 137) dX10_readRest_418 rfl ?_
                    refine tt_icmp_ne (tgt := 431) dX10_readRest_421 rfl (fun q1287 => ?_) (fun q1287 => ?_)
                    · skip
                      refine tt_aload_n (j := 0) dX10_readRest_431 rfl ?_
                      refine tt_getI (id := 673) dX10_readRest_432 fl_10_100 rfl rfl (ob_af h0 hA1284) ?_
                      refine gt_Vv (As := [.int 13, .int (hp_I S1281 672 o0), .int (hp_I S1281 673 o0)]) dX10_readRest_435 ca_X10_123 ⟨by decide, by decide⟩ h0 hA1284 rfl (Nat.le_of_ble_eq_true rfl) (Nat.le_of_ble_eq_true rfl) (by decide) (cs_X10_take hG1282 (oa_af h0 hA1284) (fun _ _ _ _ h => h)) rfl (fun _ h => nomatch h) (fun S1288 hx1292 hG1289 hB1290 hA1291 => ?_)
                      refine tt_goto (tgt := 766) dX10_readRest_438 rfl ?_
                      exact tt_vreturn dX10_readRest_766 rfl (hP _ _ _ _ ⟨hG1289, hA1291, Or.inl ⟨_, rfl, rfl, (fun q => ⟨(Or.inr (rg_cast hx1292.2.1 (rg_w (gi_I (k := 672) hG1282 (oa_af h0 hA1284) 0 15)))), (rg_cast hx1292.2.2 (rg_w (hx1285 (mo_af (oa_af h0 hA1284) hB1290 q))))⟩), rfl, rfl⟩⟩)
                    · skip
                      refine tt_aload_n (j := 0) dX10_readRest_424 rfl ?_
                      refine tt_getI (id := 672) dX10_readRest_425 fl_10_97 rfl rfl (ob_af h0 hA1284) ?_
                      refine tt_goto (tgt := 435) dX10_readRest_428 rfl ?_
                      refine gt_Vv (As := [.int 13, .int (hp_I S1281 672 o0), .int (hp_I S1281 672 o0)]) dX10_readRest_435 ca_X10_123 ⟨by decide, by decide⟩ h0 hA1284 rfl (Nat.le_of_ble_eq_true rfl) (Nat.le_of_ble_eq_true rfl) (by decide) (cs_X10_take hG1282 (oa_af h0 hA1284) (fun _ _ _ _ h => h)) rfl (fun _ h => nomatch h) (fun S1293 hx1297 hG1294 hB1295 hA1296 => ?_)
                      refine tt_goto (tgt := 766) dX10_readRest_438 rfl ?_
                      exact tt_vreturn dX10_readRest_766 rfl (hP _ _ _ _ ⟨hG1294, hA1296, Or.inl ⟨_, rfl, rfl, (fun q => ⟨(Or.inr (rg_cast hx1297.2.1 (rg_w (gi_I (k := 672) hG1282 (oa_af h0 hA1284) 0 15)))), (rg_cast hx1297.2.2 (rg_w (gi_I (k := 672) hG1282 (oa_af h0 hA1284) 0 15)))⟩), rfl, rfl⟩⟩)
                  · skip
                    refine tt_aload_n (j := 0) dX10_readRest_406 rfl ?_
                    refine tt_getI (id := 673) dX10_readRest_407 fl_10_100 rfl rfl (ob_af h0 hA1284) ?_
                    refine tt_goto (tgt := 417) dX10_readRest_410 rfl ?_
                    refine tt_iload_n (j := 1) dX10_readRest_417 rfl ?_
                    refine tt_sipush (v := 137) dX10_readRest_418 rfl ?_
                    refine tt_icmp_ne (tgt := 431) dX10_readRest_421 rfl (fun q1298 => ?_) (fun q1298 => ?_)
                    · skip
                      refine tt_aload_n (j := 0) dX10_readRest_431 rfl ?_
                      refine tt_getI (id := 673) dX10_readRest_432 fl_10_100 rfl rfl (ob_af h0 hA1284) ?_
                      refine gt_Vv (As := [.int 13, .int (hp_I S1281 673 o0), .int (hp_I S1281 673 o0)]) dX10_readRest_435 ca_X10_123 ⟨by decide, by decide⟩ h0 hA1284 rfl (Nat.le_of_ble_eq_true rfl) (Nat.le_of_ble_eq_true rfl) (by decide) (cs_X10_take hG1282 (oa_af h0 hA1284) (fun _ _ _ _ h => h)) rfl (fun _ h => nomatch h) (fun S1299 hx1303 hG1300 hB1301 hA1302 => ?_)
                      refine tt_goto (tgt := 766) dX10_readRest_438 rfl ?_
                      exact tt_vreturn dX10_readRest_766 rfl (hP _ _ _ _ ⟨hG1300, hA1302, Or.inl ⟨_, rfl, rfl, (fun q => ⟨(Or.inr (rg_cast hx1303.2.1 (rg_w (hx1285 (mo_af (oa_af h0 hA1284) hB1301 q))))), (rg_cast hx1303.2.2 (rg_w (hx1285 (mo_af (oa_af h0 hA1284) hB1301 q))))⟩), rfl, rfl⟩⟩)
                    · skip
                      refine tt_aload_n (j := 0) dX10_readRest_424 rfl ?_
                      refine tt_getI (id := 672) dX10_readRest_425 fl_10_97 rfl rfl (ob_af h0 hA1284) ?_
                      refine tt_goto (tgt := 435) dX10_readRest_428 rfl ?_
                      refine gt_Vv (As := [.int 13, .int (hp_I S1281 673 o0), .int (hp_I S1281 672 o0)]) dX10_readRest_435 ca_X10_123 ⟨by decide, by decide⟩ h0 hA1284 rfl (Nat.le_of_ble_eq_true rfl) (Nat.le_of_ble_eq_true rfl) (by decide) (cs_X10_take hG1282 (oa_af h0 hA1284) (fun _ _ _ _ h => h)) rfl (fun _ h => nomatch h) (fun S1304 hx1308 hG1305 hB1306 hA1307 => ?_)
                      refine tt_goto (tgt := 766) dX10_readRest_438 rfl ?_
                      exact tt_vreturn dX10_readRest_766 rfl (hP _ _ _ _ ⟨hG1305, hA1307, Or.inl ⟨_, rfl, rfl, (fun q => ⟨(Or.inr (rg_cast hx1308.2.1 (rg_w (hx1285 (mo_af (oa_af h0 hA1284) hB1306 q))))), (rg_cast hx1308.2.2 (rg_w (gi_I (k := 672) hG1282 (oa_af h0 hA1284) 0 15)))⟩), rfl, rfl⟩⟩)
            · skip
              have h1309 : Rg 255 255 x1 := rg_eq_l h102 (⟨by decide, by decide⟩ : Rg 255 255 255) q204
              refine tt_aload_n (j := 0) dX10_readRest_322 rfl ?_
              refine tt_iload_n (j := 2) dX10_readRest_323 rfl ?_
              refine gt_Vv (As := [.int x2]) dX10_readRest_324 ca_X10_137 ⟨by decide, by decide⟩ h0 hA rfl (Nat.le_of_ble_eq_true rfl) (Nat.le_of_ble_eq_true rfl) (by decide) (cs_X10_readPlaces hG (oa_af h0 hA) (fun _ _ _ _ h => h)) rfl (fun _ h => nomatch h) (fun S1310 hx1314 hG1311 hB1312 hA1313 => ?_)
              refine tt_aload_n (j := 0) dX10_readRest_327 rfl ?_
              refine tt_aload_n (j := 0) dX10_readRest_328 rfl ?_
              refine tt_getI (id := 662) dX10_readRest_329 fl_10_84 rfl rfl (ob_af h0 hA1313) ?_
              refine tt_if_ne (tgt := 343) dX10_readRest_332 rfl (fun q1315 => ?_) (fun q1315 => ?_)
              · skip
                have h1316 : Rg 1 1 (hp_I S1310 662 o0) := rg_ne_lo (gi_I (k := 662) hG1311 (oa_af h0 hA1313) 0 1) (⟨by decide, by decide⟩ : Rg 0 0 0) q1315
                refine tt_iconst (v := 1) dX10_readRest_343 rfl ?_
                refine tt_goto (tgt := 348) dX10_readRest_344 rfl ?_
                refine gt_pI (id := 662) (x := 1) dX10_readRest_348 fl_10_84 rfl rfl h0 hA1313 rfl rfl rfl (gp_Ir hG1311 (⟨by decide, by decide⟩ : Rg 1 1 1)) (by decide) (fun _ _ q => absurd q (by decide)) (fun h => absurd h (by decide)) (fun S1317 hG1318 hA1319 e1320 f1321 er1322 => ?_)
                refine tt_aload_n (j := 0) dX10_readRest_351 rfl ?_
                refine tt_aload_n (j := 0) dX10_readRest_352 rfl ?_
                refine tt_getI (id := 674) dX10_readRest_353 fl_10_94 rfl rfl (ob_af h0 hA1319) ?_
                refine tt_if_ne (tgt := 364) dX10_readRest_356 rfl (fun q1323 => ?_) (fun q1323 => ?_)
                · skip
                  have h1324 : Rg 1 7 (hp_I S1317 674 o0) := rg_ne_lo (gi_I (k := 674) hG1318 (oa_af h0 hA1319) 0 7) (⟨by decide, by decide⟩ : Rg 0 0 0) q1323
                  refine tt_bipush (v := 12) dX10_readRest_364 rfl ?_
                  refine tt_aload_n (j := 0) dX10_readRest_366 rfl ?_
                  refine gt_gI (id := 673) (v := (hp_I S1310 673 o0)) dX10_readRest_367 fl_10_100 rfl rfl h0 hA1319 ((congrFun (congrFun e1320 673) o0).trans ((congrFun (up2_ne (k := 673)) o0).trans rfl)) ?_
                  refine tt_iconst (v := (-1)) dX10_readRest_370 rfl ?_
                  refine gt_Vv (As := [.int 12, .int (hp_I S1310 673 o0), .int (-1)]) dX10_readRest_371 ca_X10_123 ⟨by decide, by decide⟩ h0 hA1319 rfl (Nat.le_of_ble_eq_true rfl) (Nat.le_of_ble_eq_true rfl) (by decide) (cs_X10_take hG1318 (oa_af h0 hA1319) (fun _ _ _ _ h => h)) rfl (fun _ h => nomatch h) (fun S1325 hx1329 hG1326 hB1327 hA1328 => ?_)
                  refine tt_goto (tgt := 766) dX10_readRest_374 rfl ?_
                  exact tt_vreturn dX10_readRest_766 rfl (hP _ _ _ _ ⟨hG1326, hA1328, Or.inl ⟨_, rfl, rfl, (fun q => (absurd (((congrFun (congrFun e1320 662) o0).trans up2_self).symm.trans (mo_af (oa_af h0 hA1319) hB1327 q)) (by decide))), rfl, rfl⟩⟩)
                · skip
                  have h1330 : Rg 0 0 (hp_I S1317 674 o0) := rg_eq_l (gi_I (k := 674) hG1318 (oa_af h0 hA1319) 0 7) (⟨by decide, by decide⟩ : Rg 0 0 0) q1323
                  refine tt_bipush (v := 11) dX10_readRest_359 rfl ?_
                  refine tt_goto (tgt := 366) dX10_readRest_361 rfl ?_
                  refine tt_aload_n (j := 0) dX10_readRest_366 rfl ?_
                  refine gt_gI (id := 673) (v := (hp_I S1310 673 o0)) dX10_readRest_367 fl_10_100 rfl rfl h0 hA1319 ((congrFun (congrFun e1320 673) o0).trans ((congrFun (up2_ne (k := 673)) o0).trans rfl)) ?_
                  refine tt_iconst (v := (-1)) dX10_readRest_370 rfl ?_
                  refine gt_Vv (As := [.int 11, .int (hp_I S1310 673 o0), .int (-1)]) dX10_readRest_371 ca_X10_123 ⟨by decide, by decide⟩ h0 hA1319 rfl (Nat.le_of_ble_eq_true rfl) (Nat.le_of_ble_eq_true rfl) (by decide) (cs_X10_take hG1318 (oa_af h0 hA1319) (fun _ _ _ _ h => h)) rfl (fun _ h => nomatch h) (fun S1331 hx1335 hG1332 hB1333 hA1334 => ?_)
                  refine tt_goto (tgt := 766) dX10_readRest_374 rfl ?_
                  exact tt_vreturn dX10_readRest_766 rfl (hP _ _ _ _ ⟨hG1332, hA1334, Or.inl ⟨_, rfl, rfl, (fun q => (absurd (((congrFun (congrFun e1320 662) o0).trans up2_self).symm.trans (mo_af (oa_af h0 hA1319) hB1333 q)) (by decide))), rfl, rfl⟩⟩)
              · skip
                have h1336 : Rg 0 0 (hp_I S1310 662 o0) := rg_eq_l (gi_I (k := 662) hG1311 (oa_af h0 hA1313) 0 1) (⟨by decide, by decide⟩ : Rg 0 0 0) q1315
                refine tt_aload_n (j := 0) dX10_readRest_335 rfl ?_
                refine tt_getI (id := 674) dX10_readRest_336 fl_10_94 rfl rfl (ob_af h0 hA1313) ?_
                refine tt_iconst (v := 1) dX10_readRest_339 rfl ?_
                refine tt_icmp_le (tgt := 347) dX10_readRest_340 rfl (fun q1337 => ?_) (fun q1337 => ?_)
                · skip
                  have h1338 : Rg 0 1 (hp_I S1310 674 o0) := rg_le_l (gi_I (k := 674) hG1311 (oa_af h0 hA1313) 0 7) (⟨by decide, by decide⟩ : Rg 1 1 1) q1337
                  refine tt_iconst (v := 0) dX10_readRest_347 rfl ?_
                  refine gt_pI (id := 662) (x := 0) dX10_readRest_348 fl_10_84 rfl rfl h0 hA1313 rfl rfl rfl (gp_Ir hG1311 (⟨by decide, by decide⟩ : Rg 0 0 0)) (by decide) (fun _ _ _ => (rg_eqc h1336)) (fun h => absurd h (by decide)) (fun S1339 hG1340 hA1341 e1342 f1343 er1344 => ?_)
                  refine tt_aload_n (j := 0) dX10_readRest_351 rfl ?_
                  refine tt_aload_n (j := 0) dX10_readRest_352 rfl ?_
                  refine gt_gI (id := 674) (v := (hp_I S1310 674 o0)) dX10_readRest_353 fl_10_94 rfl rfl h0 hA1341 ((congrFun (congrFun e1342 674) o0).trans ((congrFun (up2_ne (k := 674)) o0).trans rfl)) ?_
                  refine tt_if_ne (tgt := 364) dX10_readRest_356 rfl (fun q1345 => ?_) (fun q1345 => ?_)
                  · skip
                    have h1346 : Rg 1 1 (hp_I S1310 674 o0) := rg_ne_lo h1338 (⟨by decide, by decide⟩ : Rg 0 0 0) q1345
                    refine tt_bipush (v := 12) dX10_readRest_364 rfl ?_
                    refine tt_aload_n (j := 0) dX10_readRest_366 rfl ?_
                    refine gt_gI (id := 673) (v := (hp_I S1310 673 o0)) dX10_readRest_367 fl_10_100 rfl rfl h0 hA1341 ((congrFun (congrFun e1342 673) o0).trans ((congrFun (up2_ne (k := 673)) o0).trans rfl)) ?_
                    refine tt_iconst (v := (-1)) dX10_readRest_370 rfl ?_
                    refine gt_Vv (As := [.int 12, .int (hp_I S1310 673 o0), .int (-1)]) dX10_readRest_371 ca_X10_123 ⟨by decide, by decide⟩ h0 hA1341 rfl (Nat.le_of_ble_eq_true rfl) (Nat.le_of_ble_eq_true rfl) (by decide) (cs_X10_take hG1340 (oa_af h0 hA1341) (fun _ _ _ _ h => h)) rfl (fun _ h => nomatch h) (fun S1347 hx1351 hG1348 hB1349 hA1350 => ?_)
                    refine tt_goto (tgt := 766) dX10_readRest_374 rfl ?_
                    exact tt_vreturn dX10_readRest_766 rfl (hP _ _ _ _ ⟨hG1348, hA1350, Or.inl ⟨_, rfl, rfl, (fun q => ⟨(Or.inr (rg_cast hx1351.2.1 (rg_w (hx1314 (rg_eqc h1336))))), (rg_cast hx1351.2.2 (rg_w (⟨by decide, by decide⟩ : Rg (-1) (-1) (-1))))⟩), rfl, rfl⟩⟩)
                  · skip
                    have h1352 : Rg 0 0 (hp_I S1310 674 o0) := rg_eq_l h1338 (⟨by decide, by decide⟩ : Rg 0 0 0) q1345
                    refine tt_bipush (v := 11) dX10_readRest_359 rfl ?_
                    refine tt_goto (tgt := 366) dX10_readRest_361 rfl ?_
                    refine tt_aload_n (j := 0) dX10_readRest_366 rfl ?_
                    refine gt_gI (id := 673) (v := (hp_I S1310 673 o0)) dX10_readRest_367 fl_10_100 rfl rfl h0 hA1341 ((congrFun (congrFun e1342 673) o0).trans ((congrFun (up2_ne (k := 673)) o0).trans rfl)) ?_
                    refine tt_iconst (v := (-1)) dX10_readRest_370 rfl ?_
                    refine gt_Vv (As := [.int 11, .int (hp_I S1310 673 o0), .int (-1)]) dX10_readRest_371 ca_X10_123 ⟨by decide, by decide⟩ h0 hA1341 rfl (Nat.le_of_ble_eq_true rfl) (Nat.le_of_ble_eq_true rfl) (by decide) (cs_X10_take hG1340 (oa_af h0 hA1341) (fun _ _ _ _ h => h)) rfl (fun _ h => nomatch h) (fun S1353 hx1357 hG1354 hB1355 hA1356 => ?_)
                    refine tt_goto (tgt := 766) dX10_readRest_374 rfl ?_
                    exact tt_vreturn dX10_readRest_766 rfl (hP _ _ _ _ ⟨hG1354, hA1356, Or.inl ⟨_, rfl, rfl, (fun q => ⟨(Or.inr (rg_cast hx1357.2.1 (rg_w (hx1314 (rg_eqc h1336))))), (rg_cast hx1357.2.2 (rg_w (⟨by decide, by decide⟩ : Rg (-1) (-1) (-1))))⟩), rfl, rfl⟩⟩)
                · skip
                  have h1358 : Rg 2 7 (hp_I S1310 674 o0) := rg_lt_r (⟨by decide, by decide⟩ : Rg 1 1 1) (gi_I (k := 674) hG1311 (oa_af h0 hA1313) 0 7) (nle_lt q1337)
                  refine tt_iconst (v := 1) dX10_readRest_343 rfl ?_
                  refine tt_goto (tgt := 348) dX10_readRest_344 rfl ?_
                  refine gt_pI (id := 662) (x := 1) dX10_readRest_348 fl_10_84 rfl rfl h0 hA1313 rfl rfl rfl (gp_Ir hG1311 (⟨by decide, by decide⟩ : Rg 1 1 1)) (by decide) (fun _ _ q => absurd q (by decide)) (fun h => absurd h (by decide)) (fun S1359 hG1360 hA1361 e1362 f1363 er1364 => ?_)
                  refine tt_aload_n (j := 0) dX10_readRest_351 rfl ?_
                  refine tt_aload_n (j := 0) dX10_readRest_352 rfl ?_
                  refine gt_gI (id := 674) (v := (hp_I S1310 674 o0)) dX10_readRest_353 fl_10_94 rfl rfl h0 hA1361 ((congrFun (congrFun e1362 674) o0).trans ((congrFun (up2_ne (k := 674)) o0).trans rfl)) ?_
                  refine tt_if_ne (tgt := 364) dX10_readRest_356 rfl (fun q1365 => ?_) (fun q1365 => ?_)
                  · skip
                    refine tt_bipush (v := 12) dX10_readRest_364 rfl ?_
                    refine tt_aload_n (j := 0) dX10_readRest_366 rfl ?_
                    refine gt_gI (id := 673) (v := (hp_I S1310 673 o0)) dX10_readRest_367 fl_10_100 rfl rfl h0 hA1361 ((congrFun (congrFun e1362 673) o0).trans ((congrFun (up2_ne (k := 673)) o0).trans rfl)) ?_
                    refine tt_iconst (v := (-1)) dX10_readRest_370 rfl ?_
                    refine gt_Vv (As := [.int 12, .int (hp_I S1310 673 o0), .int (-1)]) dX10_readRest_371 ca_X10_123 ⟨by decide, by decide⟩ h0 hA1361 rfl (Nat.le_of_ble_eq_true rfl) (Nat.le_of_ble_eq_true rfl) (by decide) (cs_X10_take hG1360 (oa_af h0 hA1361) (fun _ _ _ _ h => h)) rfl (fun _ h => nomatch h) (fun S1366 hx1370 hG1367 hB1368 hA1369 => ?_)
                    refine tt_goto (tgt := 766) dX10_readRest_374 rfl ?_
                    exact tt_vreturn dX10_readRest_766 rfl (hP _ _ _ _ ⟨hG1367, hA1369, Or.inl ⟨_, rfl, rfl, (fun q => (absurd (((congrFun (congrFun e1362 662) o0).trans up2_self).symm.trans (mo_af (oa_af h0 hA1361) hB1368 q)) (by decide))), rfl, rfl⟩⟩)
                  · skip
                    refine tt_bipush (v := 11) dX10_readRest_359 rfl ?_
                    refine tt_goto (tgt := 366) dX10_readRest_361 rfl ?_
                    refine tt_aload_n (j := 0) dX10_readRest_366 rfl ?_
                    refine gt_gI (id := 673) (v := (hp_I S1310 673 o0)) dX10_readRest_367 fl_10_100 rfl rfl h0 hA1361 ((congrFun (congrFun e1362 673) o0).trans ((congrFun (up2_ne (k := 673)) o0).trans rfl)) ?_
                    refine tt_iconst (v := (-1)) dX10_readRest_370 rfl ?_
                    refine gt_Vv (As := [.int 11, .int (hp_I S1310 673 o0), .int (-1)]) dX10_readRest_371 ca_X10_123 ⟨by decide, by decide⟩ h0 hA1361 rfl (Nat.le_of_ble_eq_true rfl) (Nat.le_of_ble_eq_true rfl) (by decide) (cs_X10_take hG1360 (oa_af h0 hA1361) (fun _ _ _ _ h => h)) rfl (fun _ h => nomatch h) (fun S1371 hx1375 hG1372 hB1373 hA1374 => ?_)
                    refine tt_goto (tgt := 766) dX10_readRest_374 rfl ?_
                    exact tt_vreturn dX10_readRest_766 rfl (hP _ _ _ _ ⟨hG1372, hA1374, Or.inl ⟨_, rfl, rfl, (fun q => (absurd (((congrFun (congrFun e1362 662) o0).trans up2_self).symm.trans (mo_af (oa_af h0 hA1361) hB1373 q)) (by decide))), rfl, rfl⟩⟩)
          · skip
            have h1376 : Rg 247 247 x1 := rg_eq_l h102 (⟨by decide, by decide⟩ : Rg 247 247 247) q203
            refine tt_aload_n (j := 0) dX10_readRest_219 rfl ?_
            refine tt_iload_n (j := 2) dX10_readRest_220 rfl ?_
            refine gt_Vv (As := [.int x2]) dX10_readRest_221 ca_X10_137 ⟨by decide, by decide⟩ h0 hA rfl (Nat.le_of_ble_eq_true rfl) (Nat.le_of_ble_eq_true rfl) (by decide) (cs_X10_readPlaces hG (oa_af h0 hA) (fun _ _ _ _ h => h)) rfl (fun _ h => nomatch h) (fun S1377 hx1381 hG1378 hB1379 hA1380 => ?_)
            refine tt_aload_n (j := 0) dX10_readRest_224 rfl ?_
            refine tt_aload_n (j := 0) dX10_readRest_225 rfl ?_
            refine tt_getI (id := 662) dX10_readRest_226 fl_10_84 rfl rfl (ob_af h0 hA1380) ?_
            refine tt_if_ne (tgt := 248) dX10_readRest_229 rfl (fun q1382 => ?_) (fun q1382 => ?_)
            · skip
              have h1383 : Rg 1 1 (hp_I S1377 662 o0) := rg_ne_lo (gi_I (k := 662) hG1378 (oa_af h0 hA1380) 0 1) (⟨by decide, by decide⟩ : Rg 0 0 0) q1382
              refine tt_iconst (v := 1) dX10_readRest_248 rfl ?_
              refine tt_goto (tgt := 253) dX10_readRest_249 rfl ?_
              refine gt_pI (id := 662) (x := 1) dX10_readRest_253 fl_10_84 rfl rfl h0 hA1380 rfl rfl rfl (gp_Ir hG1378 (⟨by decide, by decide⟩ : Rg 1 1 1)) (by decide) (fun _ _ q => absurd q (by decide)) (fun h => absurd h (by decide)) (fun S1384 hG1385 hA1386 e1387 f1388 er1389 => ?_)
              refine tt_aload_n (j := 0) dX10_readRest_256 rfl ?_
              refine tt_aload_n (j := 0) dX10_readRest_257 rfl ?_
              refine tt_getI (id := 674) dX10_readRest_258 fl_10_94 rfl rfl (ob_af h0 hA1386) ?_
              refine tt_if_ne (tgt := 269) dX10_readRest_261 rfl (fun q1390 => ?_) (fun q1390 => ?_)
              · skip
                have h1391 : Rg 1 7 (hp_I S1384 674 o0) := rg_ne_lo (gi_I (k := 674) hG1385 (oa_af h0 hA1386) 0 7) (⟨by decide, by decide⟩ : Rg 0 0 0) q1390
                refine tt_aload_n (j := 0) dX10_readRest_269 rfl ?_
                refine tt_getI (id := 674) dX10_readRest_270 fl_10_94 rfl rfl (ob_af h0 hA1386) ?_
                refine tt_iconst (v := 2) dX10_readRest_273 rfl ?_
                refine tt_icmp_ne (tgt := 282) dX10_readRest_274 rfl (fun q1392 => ?_) (fun q1392 => ?_)
                · skip
                  refine tt_bipush (v := 10) dX10_readRest_282 rfl ?_
                  refine tt_aload_n (j := 0) dX10_readRest_284 rfl ?_
                  refine gt_gI (id := 673) (v := (hp_I S1377 673 o0)) dX10_readRest_285 fl_10_100 rfl rfl h0 hA1386 ((congrFun (congrFun e1387 673) o0).trans ((congrFun (up2_ne (k := 673)) o0).trans rfl)) ?_
                  refine tt_iconst (v := (-1)) dX10_readRest_288 rfl ?_
                  refine gt_Vv (As := [.int 10, .int (hp_I S1377 673 o0), .int (-1)]) dX10_readRest_289 ca_X10_123 ⟨by decide, by decide⟩ h0 hA1386 rfl (Nat.le_of_ble_eq_true rfl) (Nat.le_of_ble_eq_true rfl) (by decide) (cs_X10_take hG1385 (oa_af h0 hA1386) (fun _ _ _ _ h => h)) rfl (fun _ h => nomatch h) (fun S1393 hx1397 hG1394 hB1395 hA1396 => ?_)
                  refine tt_aload_n (j := 0) dX10_readRest_292 rfl ?_
                  refine tt_aload_n (j := 0) dX10_readRest_293 rfl ?_
                  refine gt_gI (id := 674) (v := (hp_I S1384 674 o0)) dX10_readRest_294 fl_10_94 rfl rfl h0 hA1396 ((i_af (k := 674) (oa_af h0 hA1386) hB1395).trans rfl) ?_
                  refine tt_if_ne (tgt := 308) dX10_readRest_297 rfl (fun q1398 => ?_) (fun q1398 => ?_)
                  · skip
                    refine tt_lconst (v := 0) dX10_readRest_308 rfl ?_
                    refine gt_pJ (id := 660) (x := 0) dX10_readRest_309 fl_10_116 rfl rfl h0 hA1396 rfl rfl rfl hG1394 (fun S1399 hG1400 hA1401 e1402 f1403 er1404 => ?_)
                    refine tt_goto (tgt := 766) dX10_readRest_312 rfl ?_
                    exact tt_vreturn dX10_readRest_766 rfl (hP _ _ _ _ ⟨hG1400, hA1401, Or.inl ⟨_, rfl, rfl, (fun q => (absurd (((congrFun (congrFun e1387 662) o0).trans up2_self).symm.trans (mo_af (oa_af h0 hA1386) hB1395 ((congrFun (congrFun e1402 662) o0).symm.trans q))) (by decide))), rfl, rfl⟩⟩)
                  · skip
                    refine tt_aload_n (j := 0) dX10_readRest_300 rfl ?_
                    refine tt_iconst (v := 4) dX10_readRest_301 rfl ?_
                    refine gt_VJ (As := [.int 4]) dX10_readRest_302 ca_X10_103 ⟨by decide, by decide⟩ h0 hA1396 rfl (Nat.le_of_ble_eq_true rfl) (Nat.le_of_ble_eq_true rfl) (by decide) (cs_X10_number hG1394 (oa_af h0 hA1396) (fun _ _ _ _ h => h)) rfl (fun _ h => nomatch h) (fun S1405 y1410 hx1409 hG1406 hB1407 hA1408 => ?_)
                    refine tt_goto (tgt := 309) dX10_readRest_305 rfl ?_
                    refine gt_pJ (id := 660) (x := y1410) dX10_readRest_309 fl_10_116 rfl rfl h0 hA1408 rfl rfl rfl hG1406 (fun S1412 hG1413 hA1414 e1415 f1416 er1417 => ?_)
                    refine tt_goto (tgt := 766) dX10_readRest_312 rfl ?_
                    exact tt_vreturn dX10_readRest_766 rfl (hP _ _ _ _ ⟨hG1413, hA1414, Or.inl ⟨_, rfl, rfl, (fun q => (absurd (((congrFun (congrFun e1387 662) o0).trans up2_self).symm.trans (mo_af (oa_af h0 hA1386) hB1395 (mo_af (oa_af h0 hA1396) hB1407 ((congrFun (congrFun e1415 662) o0).symm.trans q)))) (by decide))), rfl, rfl⟩⟩)
                · skip
                  have h1418 : Rg 2 2 (hp_I S1384 674 o0) := rg_eq_l h1391 (⟨by decide, by decide⟩ : Rg 2 2 2) q1392
                  refine tt_bipush (v := 9) dX10_readRest_277 rfl ?_
                  refine tt_goto (tgt := 284) dX10_readRest_279 rfl ?_
                  refine tt_aload_n (j := 0) dX10_readRest_284 rfl ?_
                  refine gt_gI (id := 673) (v := (hp_I S1377 673 o0)) dX10_readRest_285 fl_10_100 rfl rfl h0 hA1386 ((congrFun (congrFun e1387 673) o0).trans ((congrFun (up2_ne (k := 673)) o0).trans rfl)) ?_
                  refine tt_iconst (v := (-1)) dX10_readRest_288 rfl ?_
                  refine gt_Vv (As := [.int 9, .int (hp_I S1377 673 o0), .int (-1)]) dX10_readRest_289 ca_X10_123 ⟨by decide, by decide⟩ h0 hA1386 rfl (Nat.le_of_ble_eq_true rfl) (Nat.le_of_ble_eq_true rfl) (by decide) (cs_X10_take hG1385 (oa_af h0 hA1386) (fun _ _ _ _ h => h)) rfl (fun _ h => nomatch h) (fun S1419 hx1423 hG1420 hB1421 hA1422 => ?_)
                  refine tt_aload_n (j := 0) dX10_readRest_292 rfl ?_
                  refine tt_aload_n (j := 0) dX10_readRest_293 rfl ?_
                  refine gt_gI (id := 674) (v := (hp_I S1384 674 o0)) dX10_readRest_294 fl_10_94 rfl rfl h0 hA1422 ((i_af (k := 674) (oa_af h0 hA1386) hB1421).trans rfl) ?_
                  refine tt_if_ne (tgt := 308) dX10_readRest_297 rfl (fun q1424 => ?_) (fun q1424 => ?_)
                  · skip
                    refine tt_lconst (v := 0) dX10_readRest_308 rfl ?_
                    refine gt_pJ (id := 660) (x := 0) dX10_readRest_309 fl_10_116 rfl rfl h0 hA1422 rfl rfl rfl hG1420 (fun S1425 hG1426 hA1427 e1428 f1429 er1430 => ?_)
                    refine tt_goto (tgt := 766) dX10_readRest_312 rfl ?_
                    exact tt_vreturn dX10_readRest_766 rfl (hP _ _ _ _ ⟨hG1426, hA1427, Or.inl ⟨_, rfl, rfl, (fun q => (absurd (((congrFun (congrFun e1387 662) o0).trans up2_self).symm.trans (mo_af (oa_af h0 hA1386) hB1421 ((congrFun (congrFun e1428 662) o0).symm.trans q))) (by decide))), rfl, rfl⟩⟩)
                  · skip
                    refine tt_aload_n (j := 0) dX10_readRest_300 rfl ?_
                    refine tt_iconst (v := 4) dX10_readRest_301 rfl ?_
                    refine gt_VJ (As := [.int 4]) dX10_readRest_302 ca_X10_103 ⟨by decide, by decide⟩ h0 hA1422 rfl (Nat.le_of_ble_eq_true rfl) (Nat.le_of_ble_eq_true rfl) (by decide) (cs_X10_number hG1420 (oa_af h0 hA1422) (fun _ _ _ _ h => h)) rfl (fun _ h => nomatch h) (fun S1431 y1436 hx1435 hG1432 hB1433 hA1434 => ?_)
                    refine tt_goto (tgt := 309) dX10_readRest_305 rfl ?_
                    refine gt_pJ (id := 660) (x := y1436) dX10_readRest_309 fl_10_116 rfl rfl h0 hA1434 rfl rfl rfl hG1432 (fun S1438 hG1439 hA1440 e1441 f1442 er1443 => ?_)
                    refine tt_goto (tgt := 766) dX10_readRest_312 rfl ?_
                    exact tt_vreturn dX10_readRest_766 rfl (hP _ _ _ _ ⟨hG1439, hA1440, Or.inl ⟨_, rfl, rfl, (fun q => (absurd (((congrFun (congrFun e1387 662) o0).trans up2_self).symm.trans (mo_af (oa_af h0 hA1386) hB1421 (mo_af (oa_af h0 hA1422) hB1433 ((congrFun (congrFun e1441 662) o0).symm.trans q)))) (by decide))), rfl, rfl⟩⟩)
              · skip
                have h1444 : Rg 0 0 (hp_I S1384 674 o0) := rg_eq_l (gi_I (k := 674) hG1385 (oa_af h0 hA1386) 0 7) (⟨by decide, by decide⟩ : Rg 0 0 0) q1390
                refine tt_bipush (v := 8) dX10_readRest_264 rfl ?_
                refine tt_goto (tgt := 284) dX10_readRest_266 rfl ?_
                refine tt_aload_n (j := 0) dX10_readRest_284 rfl ?_
                refine gt_gI (id := 673) (v := (hp_I S1377 673 o0)) dX10_readRest_285 fl_10_100 rfl rfl h0 hA1386 ((congrFun (congrFun e1387 673) o0).trans ((congrFun (up2_ne (k := 673)) o0).trans rfl)) ?_
                refine tt_iconst (v := (-1)) dX10_readRest_288 rfl ?_
                refine gt_Vv (As := [.int 8, .int (hp_I S1377 673 o0), .int (-1)]) dX10_readRest_289 ca_X10_123 ⟨by decide, by decide⟩ h0 hA1386 rfl (Nat.le_of_ble_eq_true rfl) (Nat.le_of_ble_eq_true rfl) (by decide) (cs_X10_take hG1385 (oa_af h0 hA1386) (fun _ _ _ _ h => h)) rfl (fun _ h => nomatch h) (fun S1445 hx1449 hG1446 hB1447 hA1448 => ?_)
                refine tt_aload_n (j := 0) dX10_readRest_292 rfl ?_
                refine tt_aload_n (j := 0) dX10_readRest_293 rfl ?_
                refine gt_gI (id := 674) (v := (hp_I S1384 674 o0)) dX10_readRest_294 fl_10_94 rfl rfl h0 hA1448 ((i_af (k := 674) (oa_af h0 hA1386) hB1447).trans rfl) ?_
                refine tt_if_ne (tgt := 308) dX10_readRest_297 rfl (fun q1450 => ?_) (fun q1450 => ?_)
                · skip
                  have h1451 : Rg 1 0 (hp_I S1384 674 o0) := rg_ne_lo h1444 (⟨by decide, by decide⟩ : Rg 0 0 0) q1450
                  exact rg_no h1451
                · skip
                  refine tt_aload_n (j := 0) dX10_readRest_300 rfl ?_
                  refine tt_iconst (v := 4) dX10_readRest_301 rfl ?_
                  refine gt_VJ (As := [.int 4]) dX10_readRest_302 ca_X10_103 ⟨by decide, by decide⟩ h0 hA1448 rfl (Nat.le_of_ble_eq_true rfl) (Nat.le_of_ble_eq_true rfl) (by decide) (cs_X10_number hG1446 (oa_af h0 hA1448) (fun _ _ _ _ h => h)) rfl (fun _ h => nomatch h) (fun S1452 y1457 hx1456 hG1453 hB1454 hA1455 => ?_)
                  refine tt_goto (tgt := 309) dX10_readRest_305 rfl ?_
                  refine gt_pJ (id := 660) (x := y1457) dX10_readRest_309 fl_10_116 rfl rfl h0 hA1455 rfl rfl rfl hG1453 (fun S1459 hG1460 hA1461 e1462 f1463 er1464 => ?_)
                  refine tt_goto (tgt := 766) dX10_readRest_312 rfl ?_
                  exact tt_vreturn dX10_readRest_766 rfl (hP _ _ _ _ ⟨hG1460, hA1461, Or.inl ⟨_, rfl, rfl, (fun q => (absurd (((congrFun (congrFun e1387 662) o0).trans up2_self).symm.trans (mo_af (oa_af h0 hA1386) hB1447 (mo_af (oa_af h0 hA1448) hB1454 ((congrFun (congrFun e1462 662) o0).symm.trans q)))) (by decide))), rfl, rfl⟩⟩)
            · skip
              have h1465 : Rg 0 0 (hp_I S1377 662 o0) := rg_eq_l (gi_I (k := 662) hG1378 (oa_af h0 hA1380) 0 1) (⟨by decide, by decide⟩ : Rg 0 0 0) q1382
              refine tt_aload_n (j := 0) dX10_readRest_232 rfl ?_
              refine tt_getI (id := 674) dX10_readRest_233 fl_10_94 rfl rfl (ob_af h0 hA1380) ?_
              refine tt_iconst (v := 1) dX10_readRest_236 rfl ?_
              refine tt_icmp_eq (tgt := 248) dX10_readRest_237 rfl (fun q1466 => ?_) (fun q1466 => ?_)
              · skip
                have h1467 : Rg 1 1 (hp_I S1377 674 o0) := rg_eq_l (gi_I (k := 674) hG1378 (oa_af h0 hA1380) 0 7) (⟨by decide, by decide⟩ : Rg 1 1 1) q1466
                refine tt_iconst (v := 1) dX10_readRest_248 rfl ?_
                refine tt_goto (tgt := 253) dX10_readRest_249 rfl ?_
                refine gt_pI (id := 662) (x := 1) dX10_readRest_253 fl_10_84 rfl rfl h0 hA1380 rfl rfl rfl (gp_Ir hG1378 (⟨by decide, by decide⟩ : Rg 1 1 1)) (by decide) (fun _ _ q => absurd q (by decide)) (fun h => absurd h (by decide)) (fun S1468 hG1469 hA1470 e1471 f1472 er1473 => ?_)
                refine tt_aload_n (j := 0) dX10_readRest_256 rfl ?_
                refine tt_aload_n (j := 0) dX10_readRest_257 rfl ?_
                refine gt_gI (id := 674) (v := (hp_I S1377 674 o0)) dX10_readRest_258 fl_10_94 rfl rfl h0 hA1470 ((congrFun (congrFun e1471 674) o0).trans ((congrFun (up2_ne (k := 674)) o0).trans rfl)) ?_
                refine tt_if_ne (tgt := 269) dX10_readRest_261 rfl (fun q1474 => ?_) (fun q1474 => ?_)
                · skip
                  refine tt_aload_n (j := 0) dX10_readRest_269 rfl ?_
                  refine gt_gI (id := 674) (v := (hp_I S1377 674 o0)) dX10_readRest_270 fl_10_94 rfl rfl h0 hA1470 ((congrFun (congrFun e1471 674) o0).trans ((congrFun (up2_ne (k := 674)) o0).trans rfl)) ?_
                  refine tt_iconst (v := 2) dX10_readRest_273 rfl ?_
                  refine tt_icmp_ne (tgt := 282) dX10_readRest_274 rfl (fun q1475 => ?_) (fun q1475 => ?_)
                  · skip
                    refine tt_bipush (v := 10) dX10_readRest_282 rfl ?_
                    refine tt_aload_n (j := 0) dX10_readRest_284 rfl ?_
                    refine gt_gI (id := 673) (v := (hp_I S1377 673 o0)) dX10_readRest_285 fl_10_100 rfl rfl h0 hA1470 ((congrFun (congrFun e1471 673) o0).trans ((congrFun (up2_ne (k := 673)) o0).trans rfl)) ?_
                    refine tt_iconst (v := (-1)) dX10_readRest_288 rfl ?_
                    refine gt_Vv (As := [.int 10, .int (hp_I S1377 673 o0), .int (-1)]) dX10_readRest_289 ca_X10_123 ⟨by decide, by decide⟩ h0 hA1470 rfl (Nat.le_of_ble_eq_true rfl) (Nat.le_of_ble_eq_true rfl) (by decide) (cs_X10_take hG1469 (oa_af h0 hA1470) (fun _ _ _ _ h => h)) rfl (fun _ h => nomatch h) (fun S1476 hx1480 hG1477 hB1478 hA1479 => ?_)
                    refine tt_aload_n (j := 0) dX10_readRest_292 rfl ?_
                    refine tt_aload_n (j := 0) dX10_readRest_293 rfl ?_
                    refine gt_gI (id := 674) (v := (hp_I S1377 674 o0)) dX10_readRest_294 fl_10_94 rfl rfl h0 hA1479 ((i_af (k := 674) (oa_af h0 hA1470) hB1478).trans ((congrFun (congrFun e1471 674) o0).trans ((congrFun (up2_ne (k := 674)) o0).trans rfl))) ?_
                    refine tt_if_ne (tgt := 308) dX10_readRest_297 rfl (fun q1481 => ?_) (fun q1481 => ?_)
                    · skip
                      refine tt_lconst (v := 0) dX10_readRest_308 rfl ?_
                      refine gt_pJ (id := 660) (x := 0) dX10_readRest_309 fl_10_116 rfl rfl h0 hA1479 rfl rfl rfl hG1477 (fun S1482 hG1483 hA1484 e1485 f1486 er1487 => ?_)
                      refine tt_goto (tgt := 766) dX10_readRest_312 rfl ?_
                      exact tt_vreturn dX10_readRest_766 rfl (hP _ _ _ _ ⟨hG1483, hA1484, Or.inl ⟨_, rfl, rfl, (fun q => (absurd (((congrFun (congrFun e1471 662) o0).trans up2_self).symm.trans (mo_af (oa_af h0 hA1470) hB1478 ((congrFun (congrFun e1485 662) o0).symm.trans q))) (by decide))), rfl, rfl⟩⟩)
                    · skip
                      refine tt_aload_n (j := 0) dX10_readRest_300 rfl ?_
                      refine tt_iconst (v := 4) dX10_readRest_301 rfl ?_
                      refine gt_VJ (As := [.int 4]) dX10_readRest_302 ca_X10_103 ⟨by decide, by decide⟩ h0 hA1479 rfl (Nat.le_of_ble_eq_true rfl) (Nat.le_of_ble_eq_true rfl) (by decide) (cs_X10_number hG1477 (oa_af h0 hA1479) (fun _ _ _ _ h => h)) rfl (fun _ h => nomatch h) (fun S1488 y1493 hx1492 hG1489 hB1490 hA1491 => ?_)
                      refine tt_goto (tgt := 309) dX10_readRest_305 rfl ?_
                      refine gt_pJ (id := 660) (x := y1493) dX10_readRest_309 fl_10_116 rfl rfl h0 hA1491 rfl rfl rfl hG1489 (fun S1495 hG1496 hA1497 e1498 f1499 er1500 => ?_)
                      refine tt_goto (tgt := 766) dX10_readRest_312 rfl ?_
                      exact tt_vreturn dX10_readRest_766 rfl (hP _ _ _ _ ⟨hG1496, hA1497, Or.inl ⟨_, rfl, rfl, (fun q => (absurd (((congrFun (congrFun e1471 662) o0).trans up2_self).symm.trans (mo_af (oa_af h0 hA1470) hB1478 (mo_af (oa_af h0 hA1479) hB1490 ((congrFun (congrFun e1498 662) o0).symm.trans q)))) (by decide))), rfl, rfl⟩⟩)
                  · skip
                    refine tt_bipush (v := 9) dX10_readRest_277 rfl ?_
                    refine tt_goto (tgt := 284) dX10_readRest_279 rfl ?_
                    refine tt_aload_n (j := 0) dX10_readRest_284 rfl ?_
                    refine gt_gI (id := 673) (v := (hp_I S1377 673 o0)) dX10_readRest_285 fl_10_100 rfl rfl h0 hA1470 ((congrFun (congrFun e1471 673) o0).trans ((congrFun (up2_ne (k := 673)) o0).trans rfl)) ?_
                    refine tt_iconst (v := (-1)) dX10_readRest_288 rfl ?_
                    refine gt_Vv (As := [.int 9, .int (hp_I S1377 673 o0), .int (-1)]) dX10_readRest_289 ca_X10_123 ⟨by decide, by decide⟩ h0 hA1470 rfl (Nat.le_of_ble_eq_true rfl) (Nat.le_of_ble_eq_true rfl) (by decide) (cs_X10_take hG1469 (oa_af h0 hA1470) (fun _ _ _ _ h => h)) rfl (fun _ h => nomatch h) (fun S1501 hx1505 hG1502 hB1503 hA1504 => ?_)
                    refine tt_aload_n (j := 0) dX10_readRest_292 rfl ?_
                    refine tt_aload_n (j := 0) dX10_readRest_293 rfl ?_
                    refine gt_gI (id := 674) (v := (hp_I S1377 674 o0)) dX10_readRest_294 fl_10_94 rfl rfl h0 hA1504 ((i_af (k := 674) (oa_af h0 hA1470) hB1503).trans ((congrFun (congrFun e1471 674) o0).trans ((congrFun (up2_ne (k := 674)) o0).trans rfl))) ?_
                    refine tt_if_ne (tgt := 308) dX10_readRest_297 rfl (fun q1506 => ?_) (fun q1506 => ?_)
                    · skip
                      refine tt_lconst (v := 0) dX10_readRest_308 rfl ?_
                      refine gt_pJ (id := 660) (x := 0) dX10_readRest_309 fl_10_116 rfl rfl h0 hA1504 rfl rfl rfl hG1502 (fun S1507 hG1508 hA1509 e1510 f1511 er1512 => ?_)
                      refine tt_goto (tgt := 766) dX10_readRest_312 rfl ?_
                      exact tt_vreturn dX10_readRest_766 rfl (hP _ _ _ _ ⟨hG1508, hA1509, Or.inl ⟨_, rfl, rfl, (fun q => (absurd (((congrFun (congrFun e1471 662) o0).trans up2_self).symm.trans (mo_af (oa_af h0 hA1470) hB1503 ((congrFun (congrFun e1510 662) o0).symm.trans q))) (by decide))), rfl, rfl⟩⟩)
                    · skip
                      refine tt_aload_n (j := 0) dX10_readRest_300 rfl ?_
                      refine tt_iconst (v := 4) dX10_readRest_301 rfl ?_
                      refine gt_VJ (As := [.int 4]) dX10_readRest_302 ca_X10_103 ⟨by decide, by decide⟩ h0 hA1504 rfl (Nat.le_of_ble_eq_true rfl) (Nat.le_of_ble_eq_true rfl) (by decide) (cs_X10_number hG1502 (oa_af h0 hA1504) (fun _ _ _ _ h => h)) rfl (fun _ h => nomatch h) (fun S1513 y1518 hx1517 hG1514 hB1515 hA1516 => ?_)
                      refine tt_goto (tgt := 309) dX10_readRest_305 rfl ?_
                      refine gt_pJ (id := 660) (x := y1518) dX10_readRest_309 fl_10_116 rfl rfl h0 hA1516 rfl rfl rfl hG1514 (fun S1520 hG1521 hA1522 e1523 f1524 er1525 => ?_)
                      refine tt_goto (tgt := 766) dX10_readRest_312 rfl ?_
                      exact tt_vreturn dX10_readRest_766 rfl (hP _ _ _ _ ⟨hG1521, hA1522, Or.inl ⟨_, rfl, rfl, (fun q => (absurd (((congrFun (congrFun e1471 662) o0).trans up2_self).symm.trans (mo_af (oa_af h0 hA1470) hB1503 (mo_af (oa_af h0 hA1504) hB1515 ((congrFun (congrFun e1523 662) o0).symm.trans q)))) (by decide))), rfl, rfl⟩⟩)
                · skip
                  refine tt_bipush (v := 8) dX10_readRest_264 rfl ?_
                  refine tt_goto (tgt := 284) dX10_readRest_266 rfl ?_
                  refine tt_aload_n (j := 0) dX10_readRest_284 rfl ?_
                  refine gt_gI (id := 673) (v := (hp_I S1377 673 o0)) dX10_readRest_285 fl_10_100 rfl rfl h0 hA1470 ((congrFun (congrFun e1471 673) o0).trans ((congrFun (up2_ne (k := 673)) o0).trans rfl)) ?_
                  refine tt_iconst (v := (-1)) dX10_readRest_288 rfl ?_
                  refine gt_Vv (As := [.int 8, .int (hp_I S1377 673 o0), .int (-1)]) dX10_readRest_289 ca_X10_123 ⟨by decide, by decide⟩ h0 hA1470 rfl (Nat.le_of_ble_eq_true rfl) (Nat.le_of_ble_eq_true rfl) (by decide) (cs_X10_take hG1469 (oa_af h0 hA1470) (fun _ _ _ _ h => h)) rfl (fun _ h => nomatch h) (fun S1526 hx1530 hG1527 hB1528 hA1529 => ?_)
                  refine tt_aload_n (j := 0) dX10_readRest_292 rfl ?_
                  refine tt_aload_n (j := 0) dX10_readRest_293 rfl ?_
                  refine gt_gI (id := 674) (v := (hp_I S1377 674 o0)) dX10_readRest_294 fl_10_94 rfl rfl h0 hA1529 ((i_af (k := 674) (oa_af h0 hA1470) hB1528).trans ((congrFun (congrFun e1471 674) o0).trans ((congrFun (up2_ne (k := 674)) o0).trans rfl))) ?_
                  refine tt_if_ne (tgt := 308) dX10_readRest_297 rfl (fun q1531 => ?_) (fun q1531 => ?_)
                  · skip
                    refine tt_lconst (v := 0) dX10_readRest_308 rfl ?_
                    refine gt_pJ (id := 660) (x := 0) dX10_readRest_309 fl_10_116 rfl rfl h0 hA1529 rfl rfl rfl hG1527 (fun S1532 hG1533 hA1534 e1535 f1536 er1537 => ?_)
                    refine tt_goto (tgt := 766) dX10_readRest_312 rfl ?_
                    exact tt_vreturn dX10_readRest_766 rfl (hP _ _ _ _ ⟨hG1533, hA1534, Or.inl ⟨_, rfl, rfl, (fun q => (absurd (((congrFun (congrFun e1471 662) o0).trans up2_self).symm.trans (mo_af (oa_af h0 hA1470) hB1528 ((congrFun (congrFun e1535 662) o0).symm.trans q))) (by decide))), rfl, rfl⟩⟩)
                  · skip
                    refine tt_aload_n (j := 0) dX10_readRest_300 rfl ?_
                    refine tt_iconst (v := 4) dX10_readRest_301 rfl ?_
                    refine gt_VJ (As := [.int 4]) dX10_readRest_302 ca_X10_103 ⟨by decide, by decide⟩ h0 hA1529 rfl (Nat.le_of_ble_eq_true rfl) (Nat.le_of_ble_eq_true rfl) (by decide) (cs_X10_number hG1527 (oa_af h0 hA1529) (fun _ _ _ _ h => h)) rfl (fun _ h => nomatch h) (fun S1538 y1543 hx1542 hG1539 hB1540 hA1541 => ?_)
                    refine tt_goto (tgt := 309) dX10_readRest_305 rfl ?_
                    refine gt_pJ (id := 660) (x := y1543) dX10_readRest_309 fl_10_116 rfl rfl h0 hA1541 rfl rfl rfl hG1539 (fun S1545 hG1546 hA1547 e1548 f1549 er1550 => ?_)
                    refine tt_goto (tgt := 766) dX10_readRest_312 rfl ?_
                    exact tt_vreturn dX10_readRest_766 rfl (hP _ _ _ _ ⟨hG1546, hA1547, Or.inl ⟨_, rfl, rfl, (fun q => (absurd (((congrFun (congrFun e1471 662) o0).trans up2_self).symm.trans (mo_af (oa_af h0 hA1470) hB1528 (mo_af (oa_af h0 hA1529) hB1540 ((congrFun (congrFun e1548 662) o0).symm.trans q)))) (by decide))), rfl, rfl⟩⟩)
              · skip
                refine tt_aload_n (j := 0) dX10_readRest_240 rfl ?_
                refine tt_getI (id := 674) dX10_readRest_241 fl_10_94 rfl rfl (ob_af h0 hA1380) ?_
                refine tt_iconst (v := 3) dX10_readRest_244 rfl ?_
                refine tt_icmp_le (tgt := 252) dX10_readRest_245 rfl (fun q1551 => ?_) (fun q1551 => ?_)
                · skip
                  have h1552 : Rg 0 3 (hp_I S1377 674 o0) := rg_le_l (gi_I (k := 674) hG1378 (oa_af h0 hA1380) 0 7) (⟨by decide, by decide⟩ : Rg 3 3 3) q1551
                  refine tt_iconst (v := 0) dX10_readRest_252 rfl ?_
                  refine gt_pI (id := 662) (x := 0) dX10_readRest_253 fl_10_84 rfl rfl h0 hA1380 rfl rfl rfl (gp_Ir hG1378 (⟨by decide, by decide⟩ : Rg 0 0 0)) (by decide) (fun _ _ _ => (rg_eqc h1465)) (fun h => absurd h (by decide)) (fun S1553 hG1554 hA1555 e1556 f1557 er1558 => ?_)
                  refine tt_aload_n (j := 0) dX10_readRest_256 rfl ?_
                  refine tt_aload_n (j := 0) dX10_readRest_257 rfl ?_
                  refine gt_gI (id := 674) (v := (hp_I S1377 674 o0)) dX10_readRest_258 fl_10_94 rfl rfl h0 hA1555 ((congrFun (congrFun e1556 674) o0).trans ((congrFun (up2_ne (k := 674)) o0).trans rfl)) ?_
                  refine tt_if_ne (tgt := 269) dX10_readRest_261 rfl (fun q1559 => ?_) (fun q1559 => ?_)
                  · skip
                    have h1560 : Rg 1 3 (hp_I S1377 674 o0) := rg_ne_lo h1552 (⟨by decide, by decide⟩ : Rg 0 0 0) q1559
                    refine tt_aload_n (j := 0) dX10_readRest_269 rfl ?_
                    refine gt_gI (id := 674) (v := (hp_I S1377 674 o0)) dX10_readRest_270 fl_10_94 rfl rfl h0 hA1555 ((congrFun (congrFun e1556 674) o0).trans ((congrFun (up2_ne (k := 674)) o0).trans rfl)) ?_
                    refine tt_iconst (v := 2) dX10_readRest_273 rfl ?_
                    refine tt_icmp_ne (tgt := 282) dX10_readRest_274 rfl (fun q1561 => ?_) (fun q1561 => ?_)
                    · skip
                      refine tt_bipush (v := 10) dX10_readRest_282 rfl ?_
                      refine tt_aload_n (j := 0) dX10_readRest_284 rfl ?_
                      refine gt_gI (id := 673) (v := (hp_I S1377 673 o0)) dX10_readRest_285 fl_10_100 rfl rfl h0 hA1555 ((congrFun (congrFun e1556 673) o0).trans ((congrFun (up2_ne (k := 673)) o0).trans rfl)) ?_
                      refine tt_iconst (v := (-1)) dX10_readRest_288 rfl ?_
                      refine gt_Vv (As := [.int 10, .int (hp_I S1377 673 o0), .int (-1)]) dX10_readRest_289 ca_X10_123 ⟨by decide, by decide⟩ h0 hA1555 rfl (Nat.le_of_ble_eq_true rfl) (Nat.le_of_ble_eq_true rfl) (by decide) (cs_X10_take hG1554 (oa_af h0 hA1555) (fun _ _ _ _ h => h)) rfl (fun _ h => nomatch h) (fun S1562 hx1566 hG1563 hB1564 hA1565 => ?_)
                      refine tt_aload_n (j := 0) dX10_readRest_292 rfl ?_
                      refine tt_aload_n (j := 0) dX10_readRest_293 rfl ?_
                      refine gt_gI (id := 674) (v := (hp_I S1377 674 o0)) dX10_readRest_294 fl_10_94 rfl rfl h0 hA1565 ((i_af (k := 674) (oa_af h0 hA1555) hB1564).trans ((congrFun (congrFun e1556 674) o0).trans ((congrFun (up2_ne (k := 674)) o0).trans rfl))) ?_
                      refine tt_if_ne (tgt := 308) dX10_readRest_297 rfl (fun q1567 => ?_) (fun q1567 => ?_)
                      · skip
                        refine tt_lconst (v := 0) dX10_readRest_308 rfl ?_
                        refine gt_pJ (id := 660) (x := 0) dX10_readRest_309 fl_10_116 rfl rfl h0 hA1565 rfl rfl rfl hG1563 (fun S1568 hG1569 hA1570 e1571 f1572 er1573 => ?_)
                        refine tt_goto (tgt := 766) dX10_readRest_312 rfl ?_
                        exact tt_vreturn dX10_readRest_766 rfl (hP _ _ _ _ ⟨hG1569, hA1570, Or.inl ⟨_, rfl, rfl, (fun q => ⟨(Or.inr (rg_cast ((congrFun (congrFun e1571 657) o0).trans hx1566.2.1) (rg_w (hx1381 (rg_eqc h1465))))), (rg_cast ((congrFun (congrFun e1571 658) o0).trans hx1566.2.2) (rg_w (⟨by decide, by decide⟩ : Rg (-1) (-1) (-1))))⟩), rfl, rfl⟩⟩)
                      · skip
                        refine tt_aload_n (j := 0) dX10_readRest_300 rfl ?_
                        refine tt_iconst (v := 4) dX10_readRest_301 rfl ?_
                        refine gt_VJ (As := [.int 4]) dX10_readRest_302 ca_X10_103 ⟨by decide, by decide⟩ h0 hA1565 rfl (Nat.le_of_ble_eq_true rfl) (Nat.le_of_ble_eq_true rfl) (by decide) (cs_X10_number hG1563 (oa_af h0 hA1565) (fun _ _ _ _ h => h)) rfl (fun _ h => nomatch h) (fun S1574 y1579 hx1578 hG1575 hB1576 hA1577 => ?_)
                        refine tt_goto (tgt := 309) dX10_readRest_305 rfl ?_
                        refine gt_pJ (id := 660) (x := y1579) dX10_readRest_309 fl_10_116 rfl rfl h0 hA1577 rfl rfl rfl hG1575 (fun S1581 hG1582 hA1583 e1584 f1585 er1586 => ?_)
                        refine tt_goto (tgt := 766) dX10_readRest_312 rfl ?_
                        exact tt_vreturn dX10_readRest_766 rfl (hP _ _ _ _ ⟨hG1582, hA1583, Or.inl ⟨_, rfl, rfl, (fun q => ⟨(Or.inr (rg_cast ((congrFun (congrFun e1584 657) o0).trans ((i_af (k := 657) (oa_af h0 hA1565) hB1576).trans hx1566.2.1)) (rg_w (hx1381 (rg_eqc h1465))))), (rg_cast ((congrFun (congrFun e1584 658) o0).trans ((i_af (k := 658) (oa_af h0 hA1565) hB1576).trans hx1566.2.2)) (rg_w (⟨by decide, by decide⟩ : Rg (-1) (-1) (-1))))⟩), rfl, rfl⟩⟩)
                    · skip
                      have h1587 : Rg 2 2 (hp_I S1377 674 o0) := rg_eq_l h1560 (⟨by decide, by decide⟩ : Rg 2 2 2) q1561
                      refine tt_bipush (v := 9) dX10_readRest_277 rfl ?_
                      refine tt_goto (tgt := 284) dX10_readRest_279 rfl ?_
                      refine tt_aload_n (j := 0) dX10_readRest_284 rfl ?_
                      refine gt_gI (id := 673) (v := (hp_I S1377 673 o0)) dX10_readRest_285 fl_10_100 rfl rfl h0 hA1555 ((congrFun (congrFun e1556 673) o0).trans ((congrFun (up2_ne (k := 673)) o0).trans rfl)) ?_
                      refine tt_iconst (v := (-1)) dX10_readRest_288 rfl ?_
                      refine gt_Vv (As := [.int 9, .int (hp_I S1377 673 o0), .int (-1)]) dX10_readRest_289 ca_X10_123 ⟨by decide, by decide⟩ h0 hA1555 rfl (Nat.le_of_ble_eq_true rfl) (Nat.le_of_ble_eq_true rfl) (by decide) (cs_X10_take hG1554 (oa_af h0 hA1555) (fun _ _ _ _ h => h)) rfl (fun _ h => nomatch h) (fun S1588 hx1592 hG1589 hB1590 hA1591 => ?_)
                      refine tt_aload_n (j := 0) dX10_readRest_292 rfl ?_
                      refine tt_aload_n (j := 0) dX10_readRest_293 rfl ?_
                      refine gt_gI (id := 674) (v := (hp_I S1377 674 o0)) dX10_readRest_294 fl_10_94 rfl rfl h0 hA1591 ((i_af (k := 674) (oa_af h0 hA1555) hB1590).trans ((congrFun (congrFun e1556 674) o0).trans ((congrFun (up2_ne (k := 674)) o0).trans rfl))) ?_
                      refine tt_if_ne (tgt := 308) dX10_readRest_297 rfl (fun q1593 => ?_) (fun q1593 => ?_)
                      · skip
                        refine tt_lconst (v := 0) dX10_readRest_308 rfl ?_
                        refine gt_pJ (id := 660) (x := 0) dX10_readRest_309 fl_10_116 rfl rfl h0 hA1591 rfl rfl rfl hG1589 (fun S1594 hG1595 hA1596 e1597 f1598 er1599 => ?_)
                        refine tt_goto (tgt := 766) dX10_readRest_312 rfl ?_
                        exact tt_vreturn dX10_readRest_766 rfl (hP _ _ _ _ ⟨hG1595, hA1596, Or.inl ⟨_, rfl, rfl, (fun q => ⟨(Or.inr (rg_cast ((congrFun (congrFun e1597 657) o0).trans hx1592.2.1) (rg_w (hx1381 (rg_eqc h1465))))), (rg_cast ((congrFun (congrFun e1597 658) o0).trans hx1592.2.2) (rg_w (⟨by decide, by decide⟩ : Rg (-1) (-1) (-1))))⟩), rfl, rfl⟩⟩)
                      · skip
                        refine tt_aload_n (j := 0) dX10_readRest_300 rfl ?_
                        refine tt_iconst (v := 4) dX10_readRest_301 rfl ?_
                        refine gt_VJ (As := [.int 4]) dX10_readRest_302 ca_X10_103 ⟨by decide, by decide⟩ h0 hA1591 rfl (Nat.le_of_ble_eq_true rfl) (Nat.le_of_ble_eq_true rfl) (by decide) (cs_X10_number hG1589 (oa_af h0 hA1591) (fun _ _ _ _ h => h)) rfl (fun _ h => nomatch h) (fun S1600 y1605 hx1604 hG1601 hB1602 hA1603 => ?_)
                        refine tt_goto (tgt := 309) dX10_readRest_305 rfl ?_
                        refine gt_pJ (id := 660) (x := y1605) dX10_readRest_309 fl_10_116 rfl rfl h0 hA1603 rfl rfl rfl hG1601 (fun S1607 hG1608 hA1609 e1610 f1611 er1612 => ?_)
                        refine tt_goto (tgt := 766) dX10_readRest_312 rfl ?_
                        exact tt_vreturn dX10_readRest_766 rfl (hP _ _ _ _ ⟨hG1608, hA1609, Or.inl ⟨_, rfl, rfl, (fun q => ⟨(Or.inr (rg_cast ((congrFun (congrFun e1610 657) o0).trans ((i_af (k := 657) (oa_af h0 hA1591) hB1602).trans hx1592.2.1)) (rg_w (hx1381 (rg_eqc h1465))))), (rg_cast ((congrFun (congrFun e1610 658) o0).trans ((i_af (k := 658) (oa_af h0 hA1591) hB1602).trans hx1592.2.2)) (rg_w (⟨by decide, by decide⟩ : Rg (-1) (-1) (-1))))⟩), rfl, rfl⟩⟩)
                  · skip
                    have h1613 : Rg 0 0 (hp_I S1377 674 o0) := rg_eq_l h1552 (⟨by decide, by decide⟩ : Rg 0 0 0) q1559
                    refine tt_bipush (v := 8) dX10_readRest_264 rfl ?_
                    refine tt_goto (tgt := 284) dX10_readRest_266 rfl ?_
                    refine tt_aload_n (j := 0) dX10_readRest_284 rfl ?_
                    refine gt_gI (id := 673) (v := (hp_I S1377 673 o0)) dX10_readRest_285 fl_10_100 rfl rfl h0 hA1555 ((congrFun (congrFun e1556 673) o0).trans ((congrFun (up2_ne (k := 673)) o0).trans rfl)) ?_
                    refine tt_iconst (v := (-1)) dX10_readRest_288 rfl ?_
                    refine gt_Vv (As := [.int 8, .int (hp_I S1377 673 o0), .int (-1)]) dX10_readRest_289 ca_X10_123 ⟨by decide, by decide⟩ h0 hA1555 rfl (Nat.le_of_ble_eq_true rfl) (Nat.le_of_ble_eq_true rfl) (by decide) (cs_X10_take hG1554 (oa_af h0 hA1555) (fun _ _ _ _ h => h)) rfl (fun _ h => nomatch h) (fun S1614 hx1618 hG1615 hB1616 hA1617 => ?_)
                    refine tt_aload_n (j := 0) dX10_readRest_292 rfl ?_
                    refine tt_aload_n (j := 0) dX10_readRest_293 rfl ?_
                    refine gt_gI (id := 674) (v := (hp_I S1377 674 o0)) dX10_readRest_294 fl_10_94 rfl rfl h0 hA1617 ((i_af (k := 674) (oa_af h0 hA1555) hB1616).trans ((congrFun (congrFun e1556 674) o0).trans ((congrFun (up2_ne (k := 674)) o0).trans rfl))) ?_
                    refine tt_if_ne (tgt := 308) dX10_readRest_297 rfl (fun q1619 => ?_) (fun q1619 => ?_)
                    · skip
                      have h1620 : Rg 1 0 (hp_I S1377 674 o0) := rg_ne_lo h1613 (⟨by decide, by decide⟩ : Rg 0 0 0) q1619
                      exact rg_no h1620
                    · skip
                      refine tt_aload_n (j := 0) dX10_readRest_300 rfl ?_
                      refine tt_iconst (v := 4) dX10_readRest_301 rfl ?_
                      refine gt_VJ (As := [.int 4]) dX10_readRest_302 ca_X10_103 ⟨by decide, by decide⟩ h0 hA1617 rfl (Nat.le_of_ble_eq_true rfl) (Nat.le_of_ble_eq_true rfl) (by decide) (cs_X10_number hG1615 (oa_af h0 hA1617) (fun _ _ _ _ h => h)) rfl (fun _ h => nomatch h) (fun S1621 y1626 hx1625 hG1622 hB1623 hA1624 => ?_)
                      refine tt_goto (tgt := 309) dX10_readRest_305 rfl ?_
                      refine gt_pJ (id := 660) (x := y1626) dX10_readRest_309 fl_10_116 rfl rfl h0 hA1624 rfl rfl rfl hG1622 (fun S1628 hG1629 hA1630 e1631 f1632 er1633 => ?_)
                      refine tt_goto (tgt := 766) dX10_readRest_312 rfl ?_
                      exact tt_vreturn dX10_readRest_766 rfl (hP _ _ _ _ ⟨hG1629, hA1630, Or.inl ⟨_, rfl, rfl, (fun q => ⟨(Or.inr (rg_cast ((congrFun (congrFun e1631 657) o0).trans ((i_af (k := 657) (oa_af h0 hA1617) hB1623).trans hx1618.2.1)) (rg_w (hx1381 (rg_eqc h1465))))), (rg_cast ((congrFun (congrFun e1631 658) o0).trans ((i_af (k := 658) (oa_af h0 hA1617) hB1623).trans hx1618.2.2)) (rg_w (⟨by decide, by decide⟩ : Rg (-1) (-1) (-1))))⟩), rfl, rfl⟩⟩)
                · skip
                  have h1634 : Rg 4 7 (hp_I S1377 674 o0) := rg_lt_r (⟨by decide, by decide⟩ : Rg 3 3 3) (gi_I (k := 674) hG1378 (oa_af h0 hA1380) 0 7) (nle_lt q1551)
                  refine tt_iconst (v := 1) dX10_readRest_248 rfl ?_
                  refine tt_goto (tgt := 253) dX10_readRest_249 rfl ?_
                  refine gt_pI (id := 662) (x := 1) dX10_readRest_253 fl_10_84 rfl rfl h0 hA1380 rfl rfl rfl (gp_Ir hG1378 (⟨by decide, by decide⟩ : Rg 1 1 1)) (by decide) (fun _ _ q => absurd q (by decide)) (fun h => absurd h (by decide)) (fun S1635 hG1636 hA1637 e1638 f1639 er1640 => ?_)
                  refine tt_aload_n (j := 0) dX10_readRest_256 rfl ?_
                  refine tt_aload_n (j := 0) dX10_readRest_257 rfl ?_
                  refine gt_gI (id := 674) (v := (hp_I S1377 674 o0)) dX10_readRest_258 fl_10_94 rfl rfl h0 hA1637 ((congrFun (congrFun e1638 674) o0).trans ((congrFun (up2_ne (k := 674)) o0).trans rfl)) ?_
                  refine tt_if_ne (tgt := 269) dX10_readRest_261 rfl (fun q1641 => ?_) (fun q1641 => ?_)
                  · skip
                    refine tt_aload_n (j := 0) dX10_readRest_269 rfl ?_
                    refine gt_gI (id := 674) (v := (hp_I S1377 674 o0)) dX10_readRest_270 fl_10_94 rfl rfl h0 hA1637 ((congrFun (congrFun e1638 674) o0).trans ((congrFun (up2_ne (k := 674)) o0).trans rfl)) ?_
                    refine tt_iconst (v := 2) dX10_readRest_273 rfl ?_
                    refine tt_icmp_ne (tgt := 282) dX10_readRest_274 rfl (fun q1642 => ?_) (fun q1642 => ?_)
                    · skip
                      refine tt_bipush (v := 10) dX10_readRest_282 rfl ?_
                      refine tt_aload_n (j := 0) dX10_readRest_284 rfl ?_
                      refine gt_gI (id := 673) (v := (hp_I S1377 673 o0)) dX10_readRest_285 fl_10_100 rfl rfl h0 hA1637 ((congrFun (congrFun e1638 673) o0).trans ((congrFun (up2_ne (k := 673)) o0).trans rfl)) ?_
                      refine tt_iconst (v := (-1)) dX10_readRest_288 rfl ?_
                      refine gt_Vv (As := [.int 10, .int (hp_I S1377 673 o0), .int (-1)]) dX10_readRest_289 ca_X10_123 ⟨by decide, by decide⟩ h0 hA1637 rfl (Nat.le_of_ble_eq_true rfl) (Nat.le_of_ble_eq_true rfl) (by decide) (cs_X10_take hG1636 (oa_af h0 hA1637) (fun _ _ _ _ h => h)) rfl (fun _ h => nomatch h) (fun S1643 hx1647 hG1644 hB1645 hA1646 => ?_)
                      refine tt_aload_n (j := 0) dX10_readRest_292 rfl ?_
                      refine tt_aload_n (j := 0) dX10_readRest_293 rfl ?_
                      refine gt_gI (id := 674) (v := (hp_I S1377 674 o0)) dX10_readRest_294 fl_10_94 rfl rfl h0 hA1646 ((i_af (k := 674) (oa_af h0 hA1637) hB1645).trans ((congrFun (congrFun e1638 674) o0).trans ((congrFun (up2_ne (k := 674)) o0).trans rfl))) ?_
                      refine tt_if_ne (tgt := 308) dX10_readRest_297 rfl (fun q1648 => ?_) (fun q1648 => ?_)
                      · skip
                        refine tt_lconst (v := 0) dX10_readRest_308 rfl ?_
                        refine gt_pJ (id := 660) (x := 0) dX10_readRest_309 fl_10_116 rfl rfl h0 hA1646 rfl rfl rfl hG1644 (fun S1649 hG1650 hA1651 e1652 f1653 er1654 => ?_)
                        refine tt_goto (tgt := 766) dX10_readRest_312 rfl ?_
                        exact tt_vreturn dX10_readRest_766 rfl (hP _ _ _ _ ⟨hG1650, hA1651, Or.inl ⟨_, rfl, rfl, (fun q => (absurd (((congrFun (congrFun e1638 662) o0).trans up2_self).symm.trans (mo_af (oa_af h0 hA1637) hB1645 ((congrFun (congrFun e1652 662) o0).symm.trans q))) (by decide))), rfl, rfl⟩⟩)
                      · skip
                        refine tt_aload_n (j := 0) dX10_readRest_300 rfl ?_
                        refine tt_iconst (v := 4) dX10_readRest_301 rfl ?_
                        refine gt_VJ (As := [.int 4]) dX10_readRest_302 ca_X10_103 ⟨by decide, by decide⟩ h0 hA1646 rfl (Nat.le_of_ble_eq_true rfl) (Nat.le_of_ble_eq_true rfl) (by decide) (cs_X10_number hG1644 (oa_af h0 hA1646) (fun _ _ _ _ h => h)) rfl (fun _ h => nomatch h) (fun S1655 y1660 hx1659 hG1656 hB1657 hA1658 => ?_)
                        refine tt_goto (tgt := 309) dX10_readRest_305 rfl ?_
                        refine gt_pJ (id := 660) (x := y1660) dX10_readRest_309 fl_10_116 rfl rfl h0 hA1658 rfl rfl rfl hG1656 (fun S1662 hG1663 hA1664 e1665 f1666 er1667 => ?_)
                        refine tt_goto (tgt := 766) dX10_readRest_312 rfl ?_
                        exact tt_vreturn dX10_readRest_766 rfl (hP _ _ _ _ ⟨hG1663, hA1664, Or.inl ⟨_, rfl, rfl, (fun q => (absurd (((congrFun (congrFun e1638 662) o0).trans up2_self).symm.trans (mo_af (oa_af h0 hA1637) hB1645 (mo_af (oa_af h0 hA1646) hB1657 ((congrFun (congrFun e1665 662) o0).symm.trans q)))) (by decide))), rfl, rfl⟩⟩)
                    · skip
                      refine tt_bipush (v := 9) dX10_readRest_277 rfl ?_
                      refine tt_goto (tgt := 284) dX10_readRest_279 rfl ?_
                      refine tt_aload_n (j := 0) dX10_readRest_284 rfl ?_
                      refine gt_gI (id := 673) (v := (hp_I S1377 673 o0)) dX10_readRest_285 fl_10_100 rfl rfl h0 hA1637 ((congrFun (congrFun e1638 673) o0).trans ((congrFun (up2_ne (k := 673)) o0).trans rfl)) ?_
                      refine tt_iconst (v := (-1)) dX10_readRest_288 rfl ?_
                      refine gt_Vv (As := [.int 9, .int (hp_I S1377 673 o0), .int (-1)]) dX10_readRest_289 ca_X10_123 ⟨by decide, by decide⟩ h0 hA1637 rfl (Nat.le_of_ble_eq_true rfl) (Nat.le_of_ble_eq_true rfl) (by decide) (cs_X10_take hG1636 (oa_af h0 hA1637) (fun _ _ _ _ h => h)) rfl (fun _ h => nomatch h) (fun S1668 hx1672 hG1669 hB1670 hA1671 => ?_)
                      refine tt_aload_n (j := 0) dX10_readRest_292 rfl ?_
                      refine tt_aload_n (j := 0) dX10_readRest_293 rfl ?_
                      refine gt_gI (id := 674) (v := (hp_I S1377 674 o0)) dX10_readRest_294 fl_10_94 rfl rfl h0 hA1671 ((i_af (k := 674) (oa_af h0 hA1637) hB1670).trans ((congrFun (congrFun e1638 674) o0).trans ((congrFun (up2_ne (k := 674)) o0).trans rfl))) ?_
                      refine tt_if_ne (tgt := 308) dX10_readRest_297 rfl (fun q1673 => ?_) (fun q1673 => ?_)
                      · skip
                        refine tt_lconst (v := 0) dX10_readRest_308 rfl ?_
                        refine gt_pJ (id := 660) (x := 0) dX10_readRest_309 fl_10_116 rfl rfl h0 hA1671 rfl rfl rfl hG1669 (fun S1674 hG1675 hA1676 e1677 f1678 er1679 => ?_)
                        refine tt_goto (tgt := 766) dX10_readRest_312 rfl ?_
                        exact tt_vreturn dX10_readRest_766 rfl (hP _ _ _ _ ⟨hG1675, hA1676, Or.inl ⟨_, rfl, rfl, (fun q => (absurd (((congrFun (congrFun e1638 662) o0).trans up2_self).symm.trans (mo_af (oa_af h0 hA1637) hB1670 ((congrFun (congrFun e1677 662) o0).symm.trans q))) (by decide))), rfl, rfl⟩⟩)
                      · skip
                        refine tt_aload_n (j := 0) dX10_readRest_300 rfl ?_
                        refine tt_iconst (v := 4) dX10_readRest_301 rfl ?_
                        refine gt_VJ (As := [.int 4]) dX10_readRest_302 ca_X10_103 ⟨by decide, by decide⟩ h0 hA1671 rfl (Nat.le_of_ble_eq_true rfl) (Nat.le_of_ble_eq_true rfl) (by decide) (cs_X10_number hG1669 (oa_af h0 hA1671) (fun _ _ _ _ h => h)) rfl (fun _ h => nomatch h) (fun S1680 y1685 hx1684 hG1681 hB1682 hA1683 => ?_)
                        refine tt_goto (tgt := 309) dX10_readRest_305 rfl ?_
                        refine gt_pJ (id := 660) (x := y1685) dX10_readRest_309 fl_10_116 rfl rfl h0 hA1683 rfl rfl rfl hG1681 (fun S1687 hG1688 hA1689 e1690 f1691 er1692 => ?_)
                        refine tt_goto (tgt := 766) dX10_readRest_312 rfl ?_
                        exact tt_vreturn dX10_readRest_766 rfl (hP _ _ _ _ ⟨hG1688, hA1689, Or.inl ⟨_, rfl, rfl, (fun q => (absurd (((congrFun (congrFun e1638 662) o0).trans up2_self).symm.trans (mo_af (oa_af h0 hA1637) hB1670 (mo_af (oa_af h0 hA1671) hB1682 ((congrFun (congrFun e1690 662) o0).symm.trans q)))) (by decide))), rfl, rfl⟩⟩)
                  · skip
                    refine tt_bipush (v := 8) dX10_readRest_264 rfl ?_
                    refine tt_goto (tgt := 284) dX10_readRest_266 rfl ?_
                    refine tt_aload_n (j := 0) dX10_readRest_284 rfl ?_
                    refine gt_gI (id := 673) (v := (hp_I S1377 673 o0)) dX10_readRest_285 fl_10_100 rfl rfl h0 hA1637 ((congrFun (congrFun e1638 673) o0).trans ((congrFun (up2_ne (k := 673)) o0).trans rfl)) ?_
                    refine tt_iconst (v := (-1)) dX10_readRest_288 rfl ?_
                    refine gt_Vv (As := [.int 8, .int (hp_I S1377 673 o0), .int (-1)]) dX10_readRest_289 ca_X10_123 ⟨by decide, by decide⟩ h0 hA1637 rfl (Nat.le_of_ble_eq_true rfl) (Nat.le_of_ble_eq_true rfl) (by decide) (cs_X10_take hG1636 (oa_af h0 hA1637) (fun _ _ _ _ h => h)) rfl (fun _ h => nomatch h) (fun S1693 hx1697 hG1694 hB1695 hA1696 => ?_)
                    refine tt_aload_n (j := 0) dX10_readRest_292 rfl ?_
                    refine tt_aload_n (j := 0) dX10_readRest_293 rfl ?_
                    refine gt_gI (id := 674) (v := (hp_I S1377 674 o0)) dX10_readRest_294 fl_10_94 rfl rfl h0 hA1696 ((i_af (k := 674) (oa_af h0 hA1637) hB1695).trans ((congrFun (congrFun e1638 674) o0).trans ((congrFun (up2_ne (k := 674)) o0).trans rfl))) ?_
                    refine tt_if_ne (tgt := 308) dX10_readRest_297 rfl (fun q1698 => ?_) (fun q1698 => ?_)
                    · skip
                      refine tt_lconst (v := 0) dX10_readRest_308 rfl ?_
                      refine gt_pJ (id := 660) (x := 0) dX10_readRest_309 fl_10_116 rfl rfl h0 hA1696 rfl rfl rfl hG1694 (fun S1699 hG1700 hA1701 e1702 f1703 er1704 => ?_)
                      refine tt_goto (tgt := 766) dX10_readRest_312 rfl ?_
                      exact tt_vreturn dX10_readRest_766 rfl (hP _ _ _ _ ⟨hG1700, hA1701, Or.inl ⟨_, rfl, rfl, (fun q => (absurd (((congrFun (congrFun e1638 662) o0).trans up2_self).symm.trans (mo_af (oa_af h0 hA1637) hB1695 ((congrFun (congrFun e1702 662) o0).symm.trans q))) (by decide))), rfl, rfl⟩⟩)
                    · skip
                      refine tt_aload_n (j := 0) dX10_readRest_300 rfl ?_
                      refine tt_iconst (v := 4) dX10_readRest_301 rfl ?_
                      refine gt_VJ (As := [.int 4]) dX10_readRest_302 ca_X10_103 ⟨by decide, by decide⟩ h0 hA1696 rfl (Nat.le_of_ble_eq_true rfl) (Nat.le_of_ble_eq_true rfl) (by decide) (cs_X10_number hG1694 (oa_af h0 hA1696) (fun _ _ _ _ h => h)) rfl (fun _ h => nomatch h) (fun S1705 y1710 hx1709 hG1706 hB1707 hA1708 => ?_)
                      refine tt_goto (tgt := 309) dX10_readRest_305 rfl ?_
                      refine gt_pJ (id := 660) (x := y1710) dX10_readRest_309 fl_10_116 rfl rfl h0 hA1708 rfl rfl rfl hG1706 (fun S1712 hG1713 hA1714 e1715 f1716 er1717 => ?_)
                      refine tt_goto (tgt := 766) dX10_readRest_312 rfl ?_
                      exact tt_vreturn dX10_readRest_766 rfl (hP _ _ _ _ ⟨hG1713, hA1714, Or.inl ⟨_, rfl, rfl, (fun q => (absurd (((congrFun (congrFun e1638 662) o0).trans up2_self).symm.trans (mo_af (oa_af h0 hA1637) hB1695 (mo_af (oa_af h0 hA1696) hB1707 ((congrFun (congrFun e1715 662) o0).symm.trans q)))) (by decide))), rfl, rfl⟩⟩)
        · skip
          have h1718 : Rg 133 133 x1 := rg_eq_l h102 (⟨by decide, by decide⟩ : Rg 133 133 133) q202
          refine tt_aload_n (j := 0) dX10_readRest_190 rfl ?_
          refine tt_iload_n (j := 2) dX10_readRest_191 rfl ?_
          refine gt_Vv (As := [.int x2]) dX10_readRest_192 ca_X10_137 ⟨by decide, by decide⟩ h0 hA rfl (Nat.le_of_ble_eq_true rfl) (Nat.le_of_ble_eq_true rfl) (by decide) (cs_X10_readPlaces hG (oa_af h0 hA) (fun _ _ _ _ h => h)) rfl (fun _ h => nomatch h) (fun S1719 hx1723 hG1720 hB1721 hA1722 => ?_)
          refine tt_aload_n (j := 0) dX10_readRest_195 rfl ?_
          refine tt_bipush (v := 8) dX10_readRest_196 rfl ?_
          refine tt_aload_n (j := 0) dX10_readRest_198 rfl ?_
          refine tt_getI (id := 673) dX10_readRest_199 fl_10_100 rfl rfl (ob_af h0 hA1722) ?_
          refine tt_aload_n (j := 0) dX10_readRest_202 rfl ?_
          refine tt_getI (id := 672) dX10_readRest_203 fl_10_97 rfl rfl (ob_af h0 hA1722) ?_
          refine gt_Vv (As := [.int 8, .int (hp_I S1719 673 o0), .int (hp_I S1719 672 o0)]) dX10_readRest_206 ca_X10_123 ⟨by decide, by decide⟩ h0 hA1722 rfl (Nat.le_of_ble_eq_true rfl) (Nat.le_of_ble_eq_true rfl) (by decide) (cs_X10_take hG1720 (oa_af h0 hA1722) (fun _ _ _ _ h => h)) rfl (fun _ h => nomatch h) (fun S1724 hx1728 hG1725 hB1726 hA1727 => ?_)
          refine tt_goto (tgt := 766) dX10_readRest_209 rfl ?_
          exact tt_vreturn dX10_readRest_766 rfl (hP _ _ _ _ ⟨hG1725, hA1727, Or.inl ⟨_, rfl, rfl, (fun q => ⟨(Or.inr (rg_cast hx1728.2.1 (rg_w (hx1723 (mo_af (oa_af h0 hA1722) hB1726 q))))), (rg_cast hx1728.2.2 (rg_w (gi_I (k := 672) hG1720 (oa_af h0 hA1722) 0 15)))⟩), rfl, rfl⟩⟩)
      · skip
        have h1729 : Rg 131 131 x1 := rg_eq_l h102 (⟨by decide, by decide⟩ : Rg 131 131 131) q201
        refine tt_aload_n (j := 0) dX10_readRest_116 rfl ?_
        refine tt_iload_n (j := 2) dX10_readRest_117 rfl ?_
        refine gt_Vv (As := [.int x2]) dX10_readRest_118 ca_X10_137 ⟨by decide, by decide⟩ h0 hA rfl (Nat.le_of_ble_eq_true rfl) (Nat.le_of_ble_eq_true rfl) (by decide) (cs_X10_readPlaces hG (oa_af h0 hA) (fun _ _ _ _ h => h)) rfl (fun _ h => nomatch h) (fun S1730 hx1734 hG1731 hB1732 hA1733 => ?_)
        refine tt_aload_n (j := 0) dX10_readRest_121 rfl ?_
        refine tt_aload_n (j := 0) dX10_readRest_122 rfl ?_
        refine tt_getI (id := 662) dX10_readRest_123 fl_10_84 rfl rfl (ob_af h0 hA1733) ?_
        refine tt_if_ne (tgt := 139) dX10_readRest_126 rfl (fun q1735 => ?_) (fun q1735 => ?_)
        · skip
          have h1736 : Rg 1 1 (hp_I S1730 662 o0) := rg_ne_lo (gi_I (k := 662) hG1731 (oa_af h0 hA1733) 0 1) (⟨by decide, by decide⟩ : Rg 0 0 0) q1735
          refine tt_iconst (v := 1) dX10_readRest_139 rfl ?_
          refine tt_goto (tgt := 144) dX10_readRest_140 rfl ?_
          refine gt_pI (id := 662) (x := 1) dX10_readRest_144 fl_10_84 rfl rfl h0 hA1733 rfl rfl rfl (gp_Ir hG1731 (⟨by decide, by decide⟩ : Rg 1 1 1)) (by decide) (fun _ _ q => absurd q (by decide)) (fun h => absurd h (by decide)) (fun S1737 hG1738 hA1739 e1740 f1741 er1742 => ?_)
          refine tt_aload_n (j := 0) dX10_readRest_147 rfl ?_
          refine tt_aload_n (j := 0) dX10_readRest_148 rfl ?_
          refine tt_getI (id := 674) dX10_readRest_149 fl_10_94 rfl rfl (ob_af h0 hA1739) ?_
          refine tt_aload_n (j := 0) dX10_readRest_152 rfl ?_
          refine gt_gI (id := 673) (v := (hp_I S1730 673 o0)) dX10_readRest_153 fl_10_100 rfl rfl h0 hA1739 ((congrFun (congrFun e1740 673) o0).trans ((congrFun (up2_ne (k := 673)) o0).trans rfl)) ?_
          refine tt_iconst (v := (-1)) dX10_readRest_156 rfl ?_
          refine gt_Vv (As := [.int (hp_I S1737 674 o0), .int (hp_I S1730 673 o0), .int (-1)]) dX10_readRest_157 ca_X10_123 ⟨by decide, by decide⟩ h0 hA1739 rfl (Nat.le_of_ble_eq_true rfl) (Nat.le_of_ble_eq_true rfl) (by decide) (cs_X10_take hG1738 (oa_af h0 hA1739) (fun _ _ _ _ h => h)) rfl (fun _ h => nomatch h) (fun S1743 hx1747 hG1744 hB1745 hA1746 => ?_)
          refine tt_aload_n (j := 0) dX10_readRest_160 rfl ?_
          refine tt_aload_n (j := 0) dX10_readRest_161 rfl ?_
          refine tt_iload_n (j := 1) dX10_readRest_162 rfl ?_
          refine tt_sipush (v := 129) dX10_readRest_163 rfl ?_
          refine tt_icmp_ne (tgt := 173) dX10_readRest_166 rfl (fun q1748 => ?_) (fun q1748 => ?_)
          · skip
            refine tt_iconst (v := 1) dX10_readRest_173 rfl ?_
            refine gt_VJ (As := [.int 1]) dX10_readRest_174 ca_X10_103 ⟨by decide, by decide⟩ h0 hA1746 rfl (Nat.le_of_ble_eq_true rfl) (Nat.le_of_ble_eq_true rfl) (by decide) (cs_X10_number hG1744 (oa_af h0 hA1746) (fun _ _ _ _ h => h)) rfl (fun _ h => nomatch h) (fun S1749 y1754 hx1753 hG1750 hB1751 hA1752 => ?_)
            refine gt_pJ (id := 660) (x := y1754) dX10_readRest_177 fl_10_116 rfl rfl h0 hA1752 rfl rfl rfl hG1750 (fun S1756 hG1757 hA1758 e1759 f1760 er1761 => ?_)
            refine tt_goto (tgt := 766) dX10_readRest_180 rfl ?_
            exact tt_vreturn dX10_readRest_766 rfl (hP _ _ _ _ ⟨hG1757, hA1758, Or.inl ⟨_, rfl, rfl, (fun q => (absurd (((congrFun (congrFun e1740 662) o0).trans up2_self).symm.trans (mo_af (oa_af h0 hA1739) hB1745 (mo_af (oa_af h0 hA1746) hB1751 ((congrFun (congrFun e1759 662) o0).symm.trans q)))) (by decide))), rfl, rfl⟩⟩)
          · skip
            refine tt_iconst (v := 4) dX10_readRest_169 rfl ?_
            refine tt_goto (tgt := 174) dX10_readRest_170 rfl ?_
            refine gt_VJ (As := [.int 4]) dX10_readRest_174 ca_X10_103 ⟨by decide, by decide⟩ h0 hA1746 rfl (Nat.le_of_ble_eq_true rfl) (Nat.le_of_ble_eq_true rfl) (by decide) (cs_X10_number hG1744 (oa_af h0 hA1746) (fun _ _ _ _ h => h)) rfl (fun _ h => nomatch h) (fun S1762 y1767 hx1766 hG1763 hB1764 hA1765 => ?_)
            refine gt_pJ (id := 660) (x := y1767) dX10_readRest_177 fl_10_116 rfl rfl h0 hA1765 rfl rfl rfl hG1763 (fun S1769 hG1770 hA1771 e1772 f1773 er1774 => ?_)
            refine tt_goto (tgt := 766) dX10_readRest_180 rfl ?_
            exact tt_vreturn dX10_readRest_766 rfl (hP _ _ _ _ ⟨hG1770, hA1771, Or.inl ⟨_, rfl, rfl, (fun q => (absurd (((congrFun (congrFun e1740 662) o0).trans up2_self).symm.trans (mo_af (oa_af h0 hA1739) hB1745 (mo_af (oa_af h0 hA1746) hB1764 ((congrFun (congrFun e1772 662) o0).symm.trans q)))) (by decide))), rfl, rfl⟩⟩)
        · skip
          have h1775 : Rg 0 0 (hp_I S1730 662 o0) := rg_eq_l (gi_I (k := 662) hG1731 (oa_af h0 hA1733) 0 1) (⟨by decide, by decide⟩ : Rg 0 0 0) q1735
          refine tt_aload_n (j := 0) dX10_readRest_129 rfl ?_
          refine tt_getI (id := 674) dX10_readRest_130 fl_10_94 rfl rfl (ob_af h0 hA1733) ?_
          refine gt_SIp (As := [.int (hp_I S1730 674 o0)]) dX10_readRest_133 ca_X10_141 ⟨by decide, by decide⟩ hA1733 (Nat.le_of_ble_eq_true rfl) (Nat.le_of_ble_eq_true rfl) (by decide) (cs_X10_isSimple hG1731  (fun _ _ _ _ h => h)) rfl (fun _ h => nomatch h) (fun _ _ q => q) (fun x1781 h1782 hx1780 => ?_)
          refine tt_if_ne (tgt := 143) dX10_readRest_136 rfl (fun q1783 => ?_) (fun q1783 => ?_)
          · skip
            have h1784 : Rg 1 1 x1781 := rg_ne_lo h1782 (⟨by decide, by decide⟩ : Rg 0 0 0) q1783
            refine tt_iconst (v := 0) dX10_readRest_143 rfl ?_
            refine gt_pI (id := 662) (x := 0) dX10_readRest_144 fl_10_84 rfl rfl h0 hA1733 rfl rfl rfl (gp_Ir hG1731 (⟨by decide, by decide⟩ : Rg 0 0 0)) (by decide) (fun _ _ _ => (rg_eqc h1775)) (fun h => absurd h (by decide)) (fun S1785 hG1786 hA1787 e1788 f1789 er1790 => ?_)
            refine tt_aload_n (j := 0) dX10_readRest_147 rfl ?_
            refine tt_aload_n (j := 0) dX10_readRest_148 rfl ?_
            refine gt_gI (id := 674) (v := (hp_I S1730 674 o0)) dX10_readRest_149 fl_10_94 rfl rfl h0 hA1787 ((congrFun (congrFun e1788 674) o0).trans ((congrFun (up2_ne (k := 674)) o0).trans rfl)) ?_
            refine tt_aload_n (j := 0) dX10_readRest_152 rfl ?_
            refine gt_gI (id := 673) (v := (hp_I S1730 673 o0)) dX10_readRest_153 fl_10_100 rfl rfl h0 hA1787 ((congrFun (congrFun e1788 673) o0).trans ((congrFun (up2_ne (k := 673)) o0).trans rfl)) ?_
            refine tt_iconst (v := (-1)) dX10_readRest_156 rfl ?_
            refine gt_Vv (As := [.int (hp_I S1730 674 o0), .int (hp_I S1730 673 o0), .int (-1)]) dX10_readRest_157 ca_X10_123 ⟨by decide, by decide⟩ h0 hA1787 rfl (Nat.le_of_ble_eq_true rfl) (Nat.le_of_ble_eq_true rfl) (by decide) (cs_X10_take hG1786 (oa_af h0 hA1787) (fun _ _ _ _ h => h)) rfl (fun _ h => nomatch h) (fun S1791 hx1795 hG1792 hB1793 hA1794 => ?_)
            refine tt_aload_n (j := 0) dX10_readRest_160 rfl ?_
            refine tt_aload_n (j := 0) dX10_readRest_161 rfl ?_
            refine tt_iload_n (j := 1) dX10_readRest_162 rfl ?_
            refine tt_sipush (v := 129) dX10_readRest_163 rfl ?_
            refine tt_icmp_ne (tgt := 173) dX10_readRest_166 rfl (fun q1796 => ?_) (fun q1796 => ?_)
            · skip
              refine tt_iconst (v := 1) dX10_readRest_173 rfl ?_
              refine gt_VJ (As := [.int 1]) dX10_readRest_174 ca_X10_103 ⟨by decide, by decide⟩ h0 hA1794 rfl (Nat.le_of_ble_eq_true rfl) (Nat.le_of_ble_eq_true rfl) (by decide) (cs_X10_number hG1792 (oa_af h0 hA1794) (fun _ _ _ _ h => h)) rfl (fun _ h => nomatch h) (fun S1797 y1802 hx1801 hG1798 hB1799 hA1800 => ?_)
              refine gt_pJ (id := 660) (x := y1802) dX10_readRest_177 fl_10_116 rfl rfl h0 hA1800 rfl rfl rfl hG1798 (fun S1804 hG1805 hA1806 e1807 f1808 er1809 => ?_)
              refine tt_goto (tgt := 766) dX10_readRest_180 rfl ?_
              exact tt_vreturn dX10_readRest_766 rfl (hP _ _ _ _ ⟨hG1805, hA1806, Or.inl ⟨_, rfl, rfl, (fun q => ⟨(Or.inr (rg_cast ((congrFun (congrFun e1807 657) o0).trans ((i_af (k := 657) (oa_af h0 hA1794) hB1799).trans hx1795.2.1)) (rg_w (hx1734 (rg_eqc h1775))))), (rg_cast ((congrFun (congrFun e1807 658) o0).trans ((i_af (k := 658) (oa_af h0 hA1794) hB1799).trans hx1795.2.2)) (rg_w (⟨by decide, by decide⟩ : Rg (-1) (-1) (-1))))⟩), rfl, rfl⟩⟩)
            · skip
              refine tt_iconst (v := 4) dX10_readRest_169 rfl ?_
              refine tt_goto (tgt := 174) dX10_readRest_170 rfl ?_
              refine gt_VJ (As := [.int 4]) dX10_readRest_174 ca_X10_103 ⟨by decide, by decide⟩ h0 hA1794 rfl (Nat.le_of_ble_eq_true rfl) (Nat.le_of_ble_eq_true rfl) (by decide) (cs_X10_number hG1792 (oa_af h0 hA1794) (fun _ _ _ _ h => h)) rfl (fun _ h => nomatch h) (fun S1810 y1815 hx1814 hG1811 hB1812 hA1813 => ?_)
              refine gt_pJ (id := 660) (x := y1815) dX10_readRest_177 fl_10_116 rfl rfl h0 hA1813 rfl rfl rfl hG1811 (fun S1817 hG1818 hA1819 e1820 f1821 er1822 => ?_)
              refine tt_goto (tgt := 766) dX10_readRest_180 rfl ?_
              exact tt_vreturn dX10_readRest_766 rfl (hP _ _ _ _ ⟨hG1818, hA1819, Or.inl ⟨_, rfl, rfl, (fun q => ⟨(Or.inr (rg_cast ((congrFun (congrFun e1820 657) o0).trans ((i_af (k := 657) (oa_af h0 hA1794) hB1812).trans hx1795.2.1)) (rg_w (hx1734 (rg_eqc h1775))))), (rg_cast ((congrFun (congrFun e1820 658) o0).trans ((i_af (k := 658) (oa_af h0 hA1794) hB1812).trans hx1795.2.2)) (rg_w (⟨by decide, by decide⟩ : Rg (-1) (-1) (-1))))⟩), rfl, rfl⟩⟩)
          · skip
            have h1823 : Rg 0 0 x1781 := rg_eq_l h1782 (⟨by decide, by decide⟩ : Rg 0 0 0) q1783
            refine tt_iconst (v := 1) dX10_readRest_139 rfl ?_
            refine tt_goto (tgt := 144) dX10_readRest_140 rfl ?_
            refine gt_pI (id := 662) (x := 1) dX10_readRest_144 fl_10_84 rfl rfl h0 hA1733 rfl rfl rfl (gp_Ir hG1731 (⟨by decide, by decide⟩ : Rg 1 1 1)) (by decide) (fun _ _ q => absurd q (by decide)) (fun h => absurd h (by decide)) (fun S1824 hG1825 hA1826 e1827 f1828 er1829 => ?_)
            refine tt_aload_n (j := 0) dX10_readRest_147 rfl ?_
            refine tt_aload_n (j := 0) dX10_readRest_148 rfl ?_
            refine gt_gI (id := 674) (v := (hp_I S1730 674 o0)) dX10_readRest_149 fl_10_94 rfl rfl h0 hA1826 ((congrFun (congrFun e1827 674) o0).trans ((congrFun (up2_ne (k := 674)) o0).trans rfl)) ?_
            refine tt_aload_n (j := 0) dX10_readRest_152 rfl ?_
            refine gt_gI (id := 673) (v := (hp_I S1730 673 o0)) dX10_readRest_153 fl_10_100 rfl rfl h0 hA1826 ((congrFun (congrFun e1827 673) o0).trans ((congrFun (up2_ne (k := 673)) o0).trans rfl)) ?_
            refine tt_iconst (v := (-1)) dX10_readRest_156 rfl ?_
            refine gt_Vv (As := [.int (hp_I S1730 674 o0), .int (hp_I S1730 673 o0), .int (-1)]) dX10_readRest_157 ca_X10_123 ⟨by decide, by decide⟩ h0 hA1826 rfl (Nat.le_of_ble_eq_true rfl) (Nat.le_of_ble_eq_true rfl) (by decide) (cs_X10_take hG1825 (oa_af h0 hA1826) (fun _ _ _ _ h => h)) rfl (fun _ h => nomatch h) (fun S1830 hx1834 hG1831 hB1832 hA1833 => ?_)
            refine tt_aload_n (j := 0) dX10_readRest_160 rfl ?_
            refine tt_aload_n (j := 0) dX10_readRest_161 rfl ?_
            refine tt_iload_n (j := 1) dX10_readRest_162 rfl ?_
            refine tt_sipush (v := 129) dX10_readRest_163 rfl ?_
            refine tt_icmp_ne (tgt := 173) dX10_readRest_166 rfl (fun q1835 => ?_) (fun q1835 => ?_)
            · skip
              refine tt_iconst (v := 1) dX10_readRest_173 rfl ?_
              refine gt_VJ (As := [.int 1]) dX10_readRest_174 ca_X10_103 ⟨by decide, by decide⟩ h0 hA1833 rfl (Nat.le_of_ble_eq_true rfl) (Nat.le_of_ble_eq_true rfl) (by decide) (cs_X10_number hG1831 (oa_af h0 hA1833) (fun _ _ _ _ h => h)) rfl (fun _ h => nomatch h) (fun S1836 y1841 hx1840 hG1837 hB1838 hA1839 => ?_)
              refine gt_pJ (id := 660) (x := y1841) dX10_readRest_177 fl_10_116 rfl rfl h0 hA1839 rfl rfl rfl hG1837 (fun S1843 hG1844 hA1845 e1846 f1847 er1848 => ?_)
              refine tt_goto (tgt := 766) dX10_readRest_180 rfl ?_
              exact tt_vreturn dX10_readRest_766 rfl (hP _ _ _ _ ⟨hG1844, hA1845, Or.inl ⟨_, rfl, rfl, (fun q => (absurd (((congrFun (congrFun e1827 662) o0).trans up2_self).symm.trans (mo_af (oa_af h0 hA1826) hB1832 (mo_af (oa_af h0 hA1833) hB1838 ((congrFun (congrFun e1846 662) o0).symm.trans q)))) (by decide))), rfl, rfl⟩⟩)
            · skip
              refine tt_iconst (v := 4) dX10_readRest_169 rfl ?_
              refine tt_goto (tgt := 174) dX10_readRest_170 rfl ?_
              refine gt_VJ (As := [.int 4]) dX10_readRest_174 ca_X10_103 ⟨by decide, by decide⟩ h0 hA1833 rfl (Nat.le_of_ble_eq_true rfl) (Nat.le_of_ble_eq_true rfl) (by decide) (cs_X10_number hG1831 (oa_af h0 hA1833) (fun _ _ _ _ h => h)) rfl (fun _ h => nomatch h) (fun S1849 y1854 hx1853 hG1850 hB1851 hA1852 => ?_)
              refine gt_pJ (id := 660) (x := y1854) dX10_readRest_177 fl_10_116 rfl rfl h0 hA1852 rfl rfl rfl hG1850 (fun S1856 hG1857 hA1858 e1859 f1860 er1861 => ?_)
              refine tt_goto (tgt := 766) dX10_readRest_180 rfl ?_
              exact tt_vreturn dX10_readRest_766 rfl (hP _ _ _ _ ⟨hG1857, hA1858, Or.inl ⟨_, rfl, rfl, (fun q => (absurd (((congrFun (congrFun e1827 662) o0).trans up2_self).symm.trans (mo_af (oa_af h0 hA1826) hB1832 (mo_af (oa_af h0 hA1833) hB1851 ((congrFun (congrFun e1859 662) o0).symm.trans q)))) (by decide))), rfl, rfl⟩⟩)
  · skip
    have h1862 : Rg (-2147483648) 63 x1 := rg_lt_l (rg_all x1) (⟨by decide, by decide⟩ : Rg 64 64 64) (nle_lt q101)
    refine tt_iload_n (j := 1) dX10_readRest_6 rfl ?_
    refine tt_bipush (v := 8) dX10_readRest_7 rfl ?_
    refine tt_irem dX10_readRest_9 (by decide) (gt_ti (fun x1863 => ?_))
    refine tt_iconst (v := 1) dX10_readRest_10 rfl ?_
    refine tt_icmp_eq (tgt := 22) dX10_readRest_11 rfl (fun q1864 => ?_) (fun q1864 => ?_)
    · skip
      have h1865 : Rg 1 1 x1863 := rg_eq_l (rg_all x1863) (⟨by decide, by decide⟩ : Rg 1 1 1) q1864
      refine tt_aload_n (j := 0) dX10_readRest_22 rfl ?_
      refine tt_iload_n (j := 2) dX10_readRest_23 rfl ?_
      refine gt_Vv (As := [.int x2]) dX10_readRest_24 ca_X10_137 ⟨by decide, by decide⟩ h0 hA rfl (Nat.le_of_ble_eq_true rfl) (Nat.le_of_ble_eq_true rfl) (by decide) (cs_X10_readPlaces hG (oa_af h0 hA) (fun _ _ _ _ h => h)) rfl (fun _ h => nomatch h) (fun S1866 hx1870 hG1867 hB1868 hA1869 => ?_)
      refine tt_aload_n (j := 0) dX10_readRest_27 rfl ?_
      refine tt_aload_n (j := 0) dX10_readRest_28 rfl ?_
      refine tt_getI (id := 662) dX10_readRest_29 fl_10_84 rfl rfl (ob_af h0 hA1869) ?_
      refine tt_if_ne (tgt := 45) dX10_readRest_32 rfl (fun q1871 => ?_) (fun q1871 => ?_)
      · skip
        have h1872 : Rg 1 1 (hp_I S1866 662 o0) := rg_ne_lo (gi_I (k := 662) hG1867 (oa_af h0 hA1869) 0 1) (⟨by decide, by decide⟩ : Rg 0 0 0) q1871
        refine tt_iconst (v := 1) dX10_readRest_45 rfl ?_
        refine tt_goto (tgt := 50) dX10_readRest_46 rfl ?_
        refine gt_pI (id := 662) (x := 1) dX10_readRest_50 fl_10_84 rfl rfl h0 hA1869 rfl rfl rfl (gp_Ir hG1867 (⟨by decide, by decide⟩ : Rg 1 1 1)) (by decide) (fun _ _ q => absurd q (by decide)) (fun h => absurd h (by decide)) (fun S1873 hG1874 hA1875 e1876 f1877 er1878 => ?_)
        refine tt_aload_n (j := 0) dX10_readRest_53 rfl ?_
        refine tt_iload_n (j := 1) dX10_readRest_54 rfl ?_
        refine tt_bipush (v := 8) dX10_readRest_55 rfl ?_
        refine tt_idiv dX10_readRest_57 (by decide) (gt_ti (fun x1879 => ?_))
        refine tt_iload_n (j := 1) dX10_readRest_58 rfl ?_
        refine tt_bipush (v := 8) dX10_readRest_59 rfl ?_
        refine tt_irem dX10_readRest_61 (by decide) (gt_ti (fun x1880 => ?_))
        refine tt_iconst (v := 1) dX10_readRest_62 rfl ?_
        refine tt_icmp_ne (tgt := 73) dX10_readRest_63 rfl (fun q1881 => ?_) (fun q1881 => ?_)
        · skip
          refine tt_aload_n (j := 0) dX10_readRest_73 rfl ?_
          refine tt_getI (id := 672) dX10_readRest_74 fl_10_97 rfl rfl (ob_af h0 hA1875) ?_
          refine tt_iload_n (j := 1) dX10_readRest_77 rfl ?_
          refine tt_bipush (v := 8) dX10_readRest_78 rfl ?_
          refine tt_irem dX10_readRest_80 (by decide) (gt_ti (fun x1882 => ?_))
          refine tt_iconst (v := 1) dX10_readRest_81 rfl ?_
          refine tt_icmp_ne (tgt := 92) dX10_readRest_82 rfl (fun q1883 => ?_) (fun q1883 => ?_)
          · skip
            refine tt_aload_n (j := 0) dX10_readRest_92 rfl ?_
            refine gt_gI (id := 673) (v := (hp_I S1866 673 o0)) dX10_readRest_93 fl_10_100 rfl rfl h0 hA1875 ((congrFun (congrFun e1876 673) o0).trans ((congrFun (up2_ne (k := 673)) o0).trans rfl)) ?_
            refine gt_Vv (As := [.int x1879, .int (hp_I S1873 672 o0), .int (hp_I S1866 673 o0)]) dX10_readRest_96 ca_X10_123 ⟨by decide, by decide⟩ h0 hA1875 rfl (Nat.le_of_ble_eq_true rfl) (Nat.le_of_ble_eq_true rfl) (by decide) (cs_X10_take hG1874 (oa_af h0 hA1875) (fun _ _ _ _ h => h)) rfl (fun _ h => nomatch h) (fun S1884 hx1888 hG1885 hB1886 hA1887 => ?_)
            refine tt_goto (tgt := 766) dX10_readRest_99 rfl ?_
            exact tt_vreturn dX10_readRest_766 rfl (hP _ _ _ _ ⟨hG1885, hA1887, Or.inl ⟨_, rfl, rfl, (fun q => (absurd (((congrFun (congrFun e1876 662) o0).trans up2_self).symm.trans (mo_af (oa_af h0 hA1875) hB1886 q)) (by decide))), rfl, rfl⟩⟩)
          · skip
            have h1889 : Rg 1 1 x1882 := rg_eq_l (rg_all x1882) (⟨by decide, by decide⟩ : Rg 1 1 1) q1883
            refine tt_aload_n (j := 0) dX10_readRest_85 rfl ?_
            refine tt_getI (id := 672) dX10_readRest_86 fl_10_97 rfl rfl (ob_af h0 hA1875) ?_
            refine tt_goto (tgt := 96) dX10_readRest_89 rfl ?_
            refine gt_Vv (As := [.int x1879, .int (hp_I S1873 672 o0), .int (hp_I S1873 672 o0)]) dX10_readRest_96 ca_X10_123 ⟨by decide, by decide⟩ h0 hA1875 rfl (Nat.le_of_ble_eq_true rfl) (Nat.le_of_ble_eq_true rfl) (by decide) (cs_X10_take hG1874 (oa_af h0 hA1875) (fun _ _ _ _ h => h)) rfl (fun _ h => nomatch h) (fun S1890 hx1894 hG1891 hB1892 hA1893 => ?_)
            refine tt_goto (tgt := 766) dX10_readRest_99 rfl ?_
            exact tt_vreturn dX10_readRest_766 rfl (hP _ _ _ _ ⟨hG1891, hA1893, Or.inl ⟨_, rfl, rfl, (fun q => (absurd (((congrFun (congrFun e1876 662) o0).trans up2_self).symm.trans (mo_af (oa_af h0 hA1875) hB1892 q)) (by decide))), rfl, rfl⟩⟩)
        · skip
          have h1895 : Rg 1 1 x1880 := rg_eq_l (rg_all x1880) (⟨by decide, by decide⟩ : Rg 1 1 1) q1881
          refine tt_aload_n (j := 0) dX10_readRest_66 rfl ?_
          refine gt_gI (id := 673) (v := (hp_I S1866 673 o0)) dX10_readRest_67 fl_10_100 rfl rfl h0 hA1875 ((congrFun (congrFun e1876 673) o0).trans ((congrFun (up2_ne (k := 673)) o0).trans rfl)) ?_
          refine tt_goto (tgt := 77) dX10_readRest_70 rfl ?_
          refine tt_iload_n (j := 1) dX10_readRest_77 rfl ?_
          refine tt_bipush (v := 8) dX10_readRest_78 rfl ?_
          refine tt_irem dX10_readRest_80 (by decide) (gt_ti (fun x1896 => ?_))
          refine tt_iconst (v := 1) dX10_readRest_81 rfl ?_
          refine tt_icmp_ne (tgt := 92) dX10_readRest_82 rfl (fun q1897 => ?_) (fun q1897 => ?_)
          · skip
            refine tt_aload_n (j := 0) dX10_readRest_92 rfl ?_
            refine gt_gI (id := 673) (v := (hp_I S1866 673 o0)) dX10_readRest_93 fl_10_100 rfl rfl h0 hA1875 ((congrFun (congrFun e1876 673) o0).trans ((congrFun (up2_ne (k := 673)) o0).trans rfl)) ?_
            refine gt_Vv (As := [.int x1879, .int (hp_I S1866 673 o0), .int (hp_I S1866 673 o0)]) dX10_readRest_96 ca_X10_123 ⟨by decide, by decide⟩ h0 hA1875 rfl (Nat.le_of_ble_eq_true rfl) (Nat.le_of_ble_eq_true rfl) (by decide) (cs_X10_take hG1874 (oa_af h0 hA1875) (fun _ _ _ _ h => h)) rfl (fun _ h => nomatch h) (fun S1898 hx1902 hG1899 hB1900 hA1901 => ?_)
            refine tt_goto (tgt := 766) dX10_readRest_99 rfl ?_
            exact tt_vreturn dX10_readRest_766 rfl (hP _ _ _ _ ⟨hG1899, hA1901, Or.inl ⟨_, rfl, rfl, (fun q => (absurd (((congrFun (congrFun e1876 662) o0).trans up2_self).symm.trans (mo_af (oa_af h0 hA1875) hB1900 q)) (by decide))), rfl, rfl⟩⟩)
          · skip
            have h1903 : Rg 1 1 x1896 := rg_eq_l (rg_all x1896) (⟨by decide, by decide⟩ : Rg 1 1 1) q1897
            refine tt_aload_n (j := 0) dX10_readRest_85 rfl ?_
            refine tt_getI (id := 672) dX10_readRest_86 fl_10_97 rfl rfl (ob_af h0 hA1875) ?_
            refine tt_goto (tgt := 96) dX10_readRest_89 rfl ?_
            refine gt_Vv (As := [.int x1879, .int (hp_I S1866 673 o0), .int (hp_I S1873 672 o0)]) dX10_readRest_96 ca_X10_123 ⟨by decide, by decide⟩ h0 hA1875 rfl (Nat.le_of_ble_eq_true rfl) (Nat.le_of_ble_eq_true rfl) (by decide) (cs_X10_take hG1874 (oa_af h0 hA1875) (fun _ _ _ _ h => h)) rfl (fun _ h => nomatch h) (fun S1904 hx1908 hG1905 hB1906 hA1907 => ?_)
            refine tt_goto (tgt := 766) dX10_readRest_99 rfl ?_
            exact tt_vreturn dX10_readRest_766 rfl (hP _ _ _ _ ⟨hG1905, hA1907, Or.inl ⟨_, rfl, rfl, (fun q => (absurd (((congrFun (congrFun e1876 662) o0).trans up2_self).symm.trans (mo_af (oa_af h0 hA1875) hB1906 q)) (by decide))), rfl, rfl⟩⟩)
      · skip
        have h1909 : Rg 0 0 (hp_I S1866 662 o0) := rg_eq_l (gi_I (k := 662) hG1867 (oa_af h0 hA1869) 0 1) (⟨by decide, by decide⟩ : Rg 0 0 0) q1871
        refine tt_iload_n (j := 1) dX10_readRest_35 rfl ?_
        refine tt_bipush (v := 8) dX10_readRest_36 rfl ?_
        refine tt_idiv dX10_readRest_38 (by decide) (gt_ti (fun x1910 => ?_))
        refine gt_SIp (As := [.int x1910]) dX10_readRest_39 ca_X10_141 ⟨by decide, by decide⟩ hA1869 (Nat.le_of_ble_eq_true rfl) (Nat.le_of_ble_eq_true rfl) (by decide) (cs_X10_isSimple hG1867  (fun _ _ _ _ h => h)) rfl (fun _ h => nomatch h) (fun _ _ q => q) (fun x1916 h1917 hx1915 => ?_)
        refine tt_if_ne (tgt := 49) dX10_readRest_42 rfl (fun q1918 => ?_) (fun q1918 => ?_)
        · skip
          have h1919 : Rg 1 1 x1916 := rg_ne_lo h1917 (⟨by decide, by decide⟩ : Rg 0 0 0) q1918
          refine tt_iconst (v := 0) dX10_readRest_49 rfl ?_
          refine gt_pI (id := 662) (x := 0) dX10_readRest_50 fl_10_84 rfl rfl h0 hA1869 rfl rfl rfl (gp_Ir hG1867 (⟨by decide, by decide⟩ : Rg 0 0 0)) (by decide) (fun _ _ _ => (rg_eqc h1909)) (fun h => absurd h (by decide)) (fun S1920 hG1921 hA1922 e1923 f1924 er1925 => ?_)
          refine tt_aload_n (j := 0) dX10_readRest_53 rfl ?_
          refine tt_iload_n (j := 1) dX10_readRest_54 rfl ?_
          refine tt_bipush (v := 8) dX10_readRest_55 rfl ?_
          refine tt_idiv dX10_readRest_57 (by decide) (gt_ti (fun x1926 => ?_))
          refine tt_iload_n (j := 1) dX10_readRest_58 rfl ?_
          refine tt_bipush (v := 8) dX10_readRest_59 rfl ?_
          refine tt_irem dX10_readRest_61 (by decide) (gt_ti (fun x1927 => ?_))
          refine tt_iconst (v := 1) dX10_readRest_62 rfl ?_
          refine tt_icmp_ne (tgt := 73) dX10_readRest_63 rfl (fun q1928 => ?_) (fun q1928 => ?_)
          · skip
            refine tt_aload_n (j := 0) dX10_readRest_73 rfl ?_
            refine tt_getI (id := 672) dX10_readRest_74 fl_10_97 rfl rfl (ob_af h0 hA1922) ?_
            refine tt_iload_n (j := 1) dX10_readRest_77 rfl ?_
            refine tt_bipush (v := 8) dX10_readRest_78 rfl ?_
            refine tt_irem dX10_readRest_80 (by decide) (gt_ti (fun x1929 => ?_))
            refine tt_iconst (v := 1) dX10_readRest_81 rfl ?_
            refine tt_icmp_ne (tgt := 92) dX10_readRest_82 rfl (fun q1930 => ?_) (fun q1930 => ?_)
            · skip
              refine tt_aload_n (j := 0) dX10_readRest_92 rfl ?_
              refine gt_gI (id := 673) (v := (hp_I S1866 673 o0)) dX10_readRest_93 fl_10_100 rfl rfl h0 hA1922 ((congrFun (congrFun e1923 673) o0).trans ((congrFun (up2_ne (k := 673)) o0).trans rfl)) ?_
              refine gt_Vv (As := [.int x1926, .int (hp_I S1920 672 o0), .int (hp_I S1866 673 o0)]) dX10_readRest_96 ca_X10_123 ⟨by decide, by decide⟩ h0 hA1922 rfl (Nat.le_of_ble_eq_true rfl) (Nat.le_of_ble_eq_true rfl) (by decide) (cs_X10_take hG1921 (oa_af h0 hA1922) (fun _ _ _ _ h => h)) rfl (fun _ h => nomatch h) (fun S1931 hx1935 hG1932 hB1933 hA1934 => ?_)
              refine tt_goto (tgt := 766) dX10_readRest_99 rfl ?_
              exact tt_vreturn dX10_readRest_766 rfl (hP _ _ _ _ ⟨hG1932, hA1934, Or.inl ⟨_, rfl, rfl, (fun q => ⟨(Or.inr (rg_cast hx1935.2.1 (rg_w (gi_I (k := 672) hG1921 (oa_af h0 hA1922) 0 15)))), (rg_cast hx1935.2.2 (rg_w (hx1870 (rg_eqc h1909))))⟩), rfl, rfl⟩⟩)
            · skip
              have h1936 : Rg 1 1 x1929 := rg_eq_l (rg_all x1929) (⟨by decide, by decide⟩ : Rg 1 1 1) q1930
              refine tt_aload_n (j := 0) dX10_readRest_85 rfl ?_
              refine tt_getI (id := 672) dX10_readRest_86 fl_10_97 rfl rfl (ob_af h0 hA1922) ?_
              refine tt_goto (tgt := 96) dX10_readRest_89 rfl ?_
              refine gt_Vv (As := [.int x1926, .int (hp_I S1920 672 o0), .int (hp_I S1920 672 o0)]) dX10_readRest_96 ca_X10_123 ⟨by decide, by decide⟩ h0 hA1922 rfl (Nat.le_of_ble_eq_true rfl) (Nat.le_of_ble_eq_true rfl) (by decide) (cs_X10_take hG1921 (oa_af h0 hA1922) (fun _ _ _ _ h => h)) rfl (fun _ h => nomatch h) (fun S1937 hx1941 hG1938 hB1939 hA1940 => ?_)
              refine tt_goto (tgt := 766) dX10_readRest_99 rfl ?_
              exact tt_vreturn dX10_readRest_766 rfl (hP _ _ _ _ ⟨hG1938, hA1940, Or.inl ⟨_, rfl, rfl, (fun q => ⟨(Or.inr (rg_cast hx1941.2.1 (rg_w (gi_I (k := 672) hG1921 (oa_af h0 hA1922) 0 15)))), (rg_cast hx1941.2.2 (rg_w (gi_I (k := 672) hG1921 (oa_af h0 hA1922) 0 15)))⟩), rfl, rfl⟩⟩)
          · skip
            have h1942 : Rg 1 1 x1927 := rg_eq_l (rg_all x1927) (⟨by decide, by decide⟩ : Rg 1 1 1) q1928
            refine tt_aload_n (j := 0) dX10_readRest_66 rfl ?_
            refine gt_gI (id := 673) (v := (hp_I S1866 673 o0)) dX10_readRest_67 fl_10_100 rfl rfl h0 hA1922 ((congrFun (congrFun e1923 673) o0).trans ((congrFun (up2_ne (k := 673)) o0).trans rfl)) ?_
            refine tt_goto (tgt := 77) dX10_readRest_70 rfl ?_
            refine tt_iload_n (j := 1) dX10_readRest_77 rfl ?_
            refine tt_bipush (v := 8) dX10_readRest_78 rfl ?_
            refine tt_irem dX10_readRest_80 (by decide) (gt_ti (fun x1943 => ?_))
            refine tt_iconst (v := 1) dX10_readRest_81 rfl ?_
            refine tt_icmp_ne (tgt := 92) dX10_readRest_82 rfl (fun q1944 => ?_) (fun q1944 => ?_)
            · skip
              refine tt_aload_n (j := 0) dX10_readRest_92 rfl ?_
              refine gt_gI (id := 673) (v := (hp_I S1866 673 o0)) dX10_readRest_93 fl_10_100 rfl rfl h0 hA1922 ((congrFun (congrFun e1923 673) o0).trans ((congrFun (up2_ne (k := 673)) o0).trans rfl)) ?_
              refine gt_Vv (As := [.int x1926, .int (hp_I S1866 673 o0), .int (hp_I S1866 673 o0)]) dX10_readRest_96 ca_X10_123 ⟨by decide, by decide⟩ h0 hA1922 rfl (Nat.le_of_ble_eq_true rfl) (Nat.le_of_ble_eq_true rfl) (by decide) (cs_X10_take hG1921 (oa_af h0 hA1922) (fun _ _ _ _ h => h)) rfl (fun _ h => nomatch h) (fun S1945 hx1949 hG1946 hB1947 hA1948 => ?_)
              refine tt_goto (tgt := 766) dX10_readRest_99 rfl ?_
              exact tt_vreturn dX10_readRest_766 rfl (hP _ _ _ _ ⟨hG1946, hA1948, Or.inl ⟨_, rfl, rfl, (fun q => ⟨(Or.inr (rg_cast hx1949.2.1 (rg_w (hx1870 (rg_eqc h1909))))), (rg_cast hx1949.2.2 (rg_w (hx1870 (rg_eqc h1909))))⟩), rfl, rfl⟩⟩)
            · skip
              have h1950 : Rg 1 1 x1943 := rg_eq_l (rg_all x1943) (⟨by decide, by decide⟩ : Rg 1 1 1) q1944
              refine tt_aload_n (j := 0) dX10_readRest_85 rfl ?_
              refine tt_getI (id := 672) dX10_readRest_86 fl_10_97 rfl rfl (ob_af h0 hA1922) ?_
              refine tt_goto (tgt := 96) dX10_readRest_89 rfl ?_
              refine gt_Vv (As := [.int x1926, .int (hp_I S1866 673 o0), .int (hp_I S1920 672 o0)]) dX10_readRest_96 ca_X10_123 ⟨by decide, by decide⟩ h0 hA1922 rfl (Nat.le_of_ble_eq_true rfl) (Nat.le_of_ble_eq_true rfl) (by decide) (cs_X10_take hG1921 (oa_af h0 hA1922) (fun _ _ _ _ h => h)) rfl (fun _ h => nomatch h) (fun S1951 hx1955 hG1952 hB1953 hA1954 => ?_)
              refine tt_goto (tgt := 766) dX10_readRest_99 rfl ?_
              exact tt_vreturn dX10_readRest_766 rfl (hP _ _ _ _ ⟨hG1952, hA1954, Or.inl ⟨_, rfl, rfl, (fun q => ⟨(Or.inr (rg_cast hx1955.2.1 (rg_w (hx1870 (rg_eqc h1909))))), (rg_cast hx1955.2.2 (rg_w (gi_I (k := 672) hG1921 (oa_af h0 hA1922) 0 15)))⟩), rfl, rfl⟩⟩)
        · skip
          have h1956 : Rg 0 0 x1916 := rg_eq_l h1917 (⟨by decide, by decide⟩ : Rg 0 0 0) q1918
          refine tt_iconst (v := 1) dX10_readRest_45 rfl ?_
          refine tt_goto (tgt := 50) dX10_readRest_46 rfl ?_
          refine gt_pI (id := 662) (x := 1) dX10_readRest_50 fl_10_84 rfl rfl h0 hA1869 rfl rfl rfl (gp_Ir hG1867 (⟨by decide, by decide⟩ : Rg 1 1 1)) (by decide) (fun _ _ q => absurd q (by decide)) (fun h => absurd h (by decide)) (fun S1957 hG1958 hA1959 e1960 f1961 er1962 => ?_)
          refine tt_aload_n (j := 0) dX10_readRest_53 rfl ?_
          refine tt_iload_n (j := 1) dX10_readRest_54 rfl ?_
          refine tt_bipush (v := 8) dX10_readRest_55 rfl ?_
          refine tt_idiv dX10_readRest_57 (by decide) (gt_ti (fun x1963 => ?_))
          refine tt_iload_n (j := 1) dX10_readRest_58 rfl ?_
          refine tt_bipush (v := 8) dX10_readRest_59 rfl ?_
          refine tt_irem dX10_readRest_61 (by decide) (gt_ti (fun x1964 => ?_))
          refine tt_iconst (v := 1) dX10_readRest_62 rfl ?_
          refine tt_icmp_ne (tgt := 73) dX10_readRest_63 rfl (fun q1965 => ?_) (fun q1965 => ?_)
          · skip
            refine tt_aload_n (j := 0) dX10_readRest_73 rfl ?_
            refine tt_getI (id := 672) dX10_readRest_74 fl_10_97 rfl rfl (ob_af h0 hA1959) ?_
            refine tt_iload_n (j := 1) dX10_readRest_77 rfl ?_
            refine tt_bipush (v := 8) dX10_readRest_78 rfl ?_
            refine tt_irem dX10_readRest_80 (by decide) (gt_ti (fun x1966 => ?_))
            refine tt_iconst (v := 1) dX10_readRest_81 rfl ?_
            refine tt_icmp_ne (tgt := 92) dX10_readRest_82 rfl (fun q1967 => ?_) (fun q1967 => ?_)
            · skip
              refine tt_aload_n (j := 0) dX10_readRest_92 rfl ?_
              refine gt_gI (id := 673) (v := (hp_I S1866 673 o0)) dX10_readRest_93 fl_10_100 rfl rfl h0 hA1959 ((congrFun (congrFun e1960 673) o0).trans ((congrFun (up2_ne (k := 673)) o0).trans rfl)) ?_
              refine gt_Vv (As := [.int x1963, .int (hp_I S1957 672 o0), .int (hp_I S1866 673 o0)]) dX10_readRest_96 ca_X10_123 ⟨by decide, by decide⟩ h0 hA1959 rfl (Nat.le_of_ble_eq_true rfl) (Nat.le_of_ble_eq_true rfl) (by decide) (cs_X10_take hG1958 (oa_af h0 hA1959) (fun _ _ _ _ h => h)) rfl (fun _ h => nomatch h) (fun S1968 hx1972 hG1969 hB1970 hA1971 => ?_)
              refine tt_goto (tgt := 766) dX10_readRest_99 rfl ?_
              exact tt_vreturn dX10_readRest_766 rfl (hP _ _ _ _ ⟨hG1969, hA1971, Or.inl ⟨_, rfl, rfl, (fun q => (absurd (((congrFun (congrFun e1960 662) o0).trans up2_self).symm.trans (mo_af (oa_af h0 hA1959) hB1970 q)) (by decide))), rfl, rfl⟩⟩)
            · skip
              have h1973 : Rg 1 1 x1966 := rg_eq_l (rg_all x1966) (⟨by decide, by decide⟩ : Rg 1 1 1) q1967
              refine tt_aload_n (j := 0) dX10_readRest_85 rfl ?_
              refine tt_getI (id := 672) dX10_readRest_86 fl_10_97 rfl rfl (ob_af h0 hA1959) ?_
              refine tt_goto (tgt := 96) dX10_readRest_89 rfl ?_
              refine gt_Vv (As := [.int x1963, .int (hp_I S1957 672 o0), .int (hp_I S1957 672 o0)]) dX10_readRest_96 ca_X10_123 ⟨by decide, by decide⟩ h0 hA1959 rfl (Nat.le_of_ble_eq_true rfl) (Nat.le_of_ble_eq_true rfl) (by decide) (cs_X10_take hG1958 (oa_af h0 hA1959) (fun _ _ _ _ h => h)) rfl (fun _ h => nomatch h) (fun S1974 hx1978 hG1975 hB1976 hA1977 => ?_)
              refine tt_goto (tgt := 766) dX10_readRest_99 rfl ?_
              exact tt_vreturn dX10_readRest_766 rfl (hP _ _ _ _ ⟨hG1975, hA1977, Or.inl ⟨_, rfl, rfl, (fun q => (absurd (((congrFun (congrFun e1960 662) o0).trans up2_self).symm.trans (mo_af (oa_af h0 hA1959) hB1976 q)) (by decide))), rfl, rfl⟩⟩)
          · skip
            have h1979 : Rg 1 1 x1964 := rg_eq_l (rg_all x1964) (⟨by decide, by decide⟩ : Rg 1 1 1) q1965
            refine tt_aload_n (j := 0) dX10_readRest_66 rfl ?_
            refine gt_gI (id := 673) (v := (hp_I S1866 673 o0)) dX10_readRest_67 fl_10_100 rfl rfl h0 hA1959 ((congrFun (congrFun e1960 673) o0).trans ((congrFun (up2_ne (k := 673)) o0).trans rfl)) ?_
            refine tt_goto (tgt := 77) dX10_readRest_70 rfl ?_
            refine tt_iload_n (j := 1) dX10_readRest_77 rfl ?_
            refine tt_bipush (v := 8) dX10_readRest_78 rfl ?_
            refine tt_irem dX10_readRest_80 (by decide) (gt_ti (fun x1980 => ?_))
            refine tt_iconst (v := 1) dX10_readRest_81 rfl ?_
            refine tt_icmp_ne (tgt := 92) dX10_readRest_82 rfl (fun q1981 => ?_) (fun q1981 => ?_)
            · skip
              refine tt_aload_n (j := 0) dX10_readRest_92 rfl ?_
              refine gt_gI (id := 673) (v := (hp_I S1866 673 o0)) dX10_readRest_93 fl_10_100 rfl rfl h0 hA1959 ((congrFun (congrFun e1960 673) o0).trans ((congrFun (up2_ne (k := 673)) o0).trans rfl)) ?_
              refine gt_Vv (As := [.int x1963, .int (hp_I S1866 673 o0), .int (hp_I S1866 673 o0)]) dX10_readRest_96 ca_X10_123 ⟨by decide, by decide⟩ h0 hA1959 rfl (Nat.le_of_ble_eq_true rfl) (Nat.le_of_ble_eq_true rfl) (by decide) (cs_X10_take hG1958 (oa_af h0 hA1959) (fun _ _ _ _ h => h)) rfl (fun _ h => nomatch h) (fun S1982 hx1986 hG1983 hB1984 hA1985 => ?_)
              refine tt_goto (tgt := 766) dX10_readRest_99 rfl ?_
              exact tt_vreturn dX10_readRest_766 rfl (hP _ _ _ _ ⟨hG1983, hA1985, Or.inl ⟨_, rfl, rfl, (fun q => (absurd (((congrFun (congrFun e1960 662) o0).trans up2_self).symm.trans (mo_af (oa_af h0 hA1959) hB1984 q)) (by decide))), rfl, rfl⟩⟩)
            · skip
              have h1987 : Rg 1 1 x1980 := rg_eq_l (rg_all x1980) (⟨by decide, by decide⟩ : Rg 1 1 1) q1981
              refine tt_aload_n (j := 0) dX10_readRest_85 rfl ?_
              refine tt_getI (id := 672) dX10_readRest_86 fl_10_97 rfl rfl (ob_af h0 hA1959) ?_
              refine tt_goto (tgt := 96) dX10_readRest_89 rfl ?_
              refine gt_Vv (As := [.int x1963, .int (hp_I S1866 673 o0), .int (hp_I S1957 672 o0)]) dX10_readRest_96 ca_X10_123 ⟨by decide, by decide⟩ h0 hA1959 rfl (Nat.le_of_ble_eq_true rfl) (Nat.le_of_ble_eq_true rfl) (by decide) (cs_X10_take hG1958 (oa_af h0 hA1959) (fun _ _ _ _ h => h)) rfl (fun _ h => nomatch h) (fun S1988 hx1992 hG1989 hB1990 hA1991 => ?_)
              refine tt_goto (tgt := 766) dX10_readRest_99 rfl ?_
              exact tt_vreturn dX10_readRest_766 rfl (hP _ _ _ _ ⟨hG1989, hA1991, Or.inl ⟨_, rfl, rfl, (fun q => (absurd (((congrFun (congrFun e1960 662) o0).trans up2_self).symm.trans (mo_af (oa_af h0 hA1959) hB1990 q)) (by decide))), rfl, rfl⟩⟩)
    · skip
      refine tt_iload_n (j := 1) dX10_readRest_14 rfl ?_
      refine tt_bipush (v := 8) dX10_readRest_15 rfl ?_
      refine tt_irem dX10_readRest_17 (by decide) (gt_ti (fun x1993 => ?_))
      refine tt_iconst (v := 3) dX10_readRest_18 rfl ?_
      refine tt_icmp_ne (tgt := 102) dX10_readRest_19 rfl (fun q1994 => ?_) (fun q1994 => ?_)
      · skip
        refine tt_iload_n (j := 1) dX10_readRest_102 rfl ?_
        refine tt_sipush (v := 129) dX10_readRest_103 rfl ?_
        refine tt_icmp_eq (tgt := 116) dX10_readRest_106 rfl (fun q1995 => ?_) (fun q1995 => ?_)
        · skip
          refine tt_aload_n (j := 0) dX10_readRest_116 rfl ?_
          refine tt_iload_n (j := 2) dX10_readRest_117 rfl ?_
          refine gt_Vv (As := [.int x2]) dX10_readRest_118 ca_X10_137 ⟨by decide, by decide⟩ h0 hA rfl (Nat.le_of_ble_eq_true rfl) (Nat.le_of_ble_eq_true rfl) (by decide) (cs_X10_readPlaces hG (oa_af h0 hA) (fun _ _ _ _ h => h)) rfl (fun _ h => nomatch h) (fun S1996 hx2000 hG1997 hB1998 hA1999 => ?_)
          refine tt_aload_n (j := 0) dX10_readRest_121 rfl ?_
          refine tt_aload_n (j := 0) dX10_readRest_122 rfl ?_
          refine tt_getI (id := 662) dX10_readRest_123 fl_10_84 rfl rfl (ob_af h0 hA1999) ?_
          refine tt_if_ne (tgt := 139) dX10_readRest_126 rfl (fun q2001 => ?_) (fun q2001 => ?_)
          · skip
            have h2002 : Rg 1 1 (hp_I S1996 662 o0) := rg_ne_lo (gi_I (k := 662) hG1997 (oa_af h0 hA1999) 0 1) (⟨by decide, by decide⟩ : Rg 0 0 0) q2001
            refine tt_iconst (v := 1) dX10_readRest_139 rfl ?_
            refine tt_goto (tgt := 144) dX10_readRest_140 rfl ?_
            refine gt_pI (id := 662) (x := 1) dX10_readRest_144 fl_10_84 rfl rfl h0 hA1999 rfl rfl rfl (gp_Ir hG1997 (⟨by decide, by decide⟩ : Rg 1 1 1)) (by decide) (fun _ _ q => absurd q (by decide)) (fun h => absurd h (by decide)) (fun S2003 hG2004 hA2005 e2006 f2007 er2008 => ?_)
            refine tt_aload_n (j := 0) dX10_readRest_147 rfl ?_
            refine tt_aload_n (j := 0) dX10_readRest_148 rfl ?_
            refine tt_getI (id := 674) dX10_readRest_149 fl_10_94 rfl rfl (ob_af h0 hA2005) ?_
            refine tt_aload_n (j := 0) dX10_readRest_152 rfl ?_
            refine gt_gI (id := 673) (v := (hp_I S1996 673 o0)) dX10_readRest_153 fl_10_100 rfl rfl h0 hA2005 ((congrFun (congrFun e2006 673) o0).trans ((congrFun (up2_ne (k := 673)) o0).trans rfl)) ?_
            refine tt_iconst (v := (-1)) dX10_readRest_156 rfl ?_
            refine gt_Vv (As := [.int (hp_I S2003 674 o0), .int (hp_I S1996 673 o0), .int (-1)]) dX10_readRest_157 ca_X10_123 ⟨by decide, by decide⟩ h0 hA2005 rfl (Nat.le_of_ble_eq_true rfl) (Nat.le_of_ble_eq_true rfl) (by decide) (cs_X10_take hG2004 (oa_af h0 hA2005) (fun _ _ _ _ h => h)) rfl (fun _ h => nomatch h) (fun S2009 hx2013 hG2010 hB2011 hA2012 => ?_)
            refine tt_aload_n (j := 0) dX10_readRest_160 rfl ?_
            refine tt_aload_n (j := 0) dX10_readRest_161 rfl ?_
            refine tt_iload_n (j := 1) dX10_readRest_162 rfl ?_
            refine tt_sipush (v := 129) dX10_readRest_163 rfl ?_
            refine tt_icmp_ne (tgt := 173) dX10_readRest_166 rfl (fun q2014 => ?_) (fun q2014 => ?_)
            · skip
              refine tt_iconst (v := 1) dX10_readRest_173 rfl ?_
              refine gt_VJ (As := [.int 1]) dX10_readRest_174 ca_X10_103 ⟨by decide, by decide⟩ h0 hA2012 rfl (Nat.le_of_ble_eq_true rfl) (Nat.le_of_ble_eq_true rfl) (by decide) (cs_X10_number hG2010 (oa_af h0 hA2012) (fun _ _ _ _ h => h)) rfl (fun _ h => nomatch h) (fun S2015 y2020 hx2019 hG2016 hB2017 hA2018 => ?_)
              refine gt_pJ (id := 660) (x := y2020) dX10_readRest_177 fl_10_116 rfl rfl h0 hA2018 rfl rfl rfl hG2016 (fun S2022 hG2023 hA2024 e2025 f2026 er2027 => ?_)
              refine tt_goto (tgt := 766) dX10_readRest_180 rfl ?_
              exact tt_vreturn dX10_readRest_766 rfl (hP _ _ _ _ ⟨hG2023, hA2024, Or.inl ⟨_, rfl, rfl, (fun q => (absurd (((congrFun (congrFun e2006 662) o0).trans up2_self).symm.trans (mo_af (oa_af h0 hA2005) hB2011 (mo_af (oa_af h0 hA2012) hB2017 ((congrFun (congrFun e2025 662) o0).symm.trans q)))) (by decide))), rfl, rfl⟩⟩)
            · skip
              refine tt_iconst (v := 4) dX10_readRest_169 rfl ?_
              refine tt_goto (tgt := 174) dX10_readRest_170 rfl ?_
              refine gt_VJ (As := [.int 4]) dX10_readRest_174 ca_X10_103 ⟨by decide, by decide⟩ h0 hA2012 rfl (Nat.le_of_ble_eq_true rfl) (Nat.le_of_ble_eq_true rfl) (by decide) (cs_X10_number hG2010 (oa_af h0 hA2012) (fun _ _ _ _ h => h)) rfl (fun _ h => nomatch h) (fun S2028 y2033 hx2032 hG2029 hB2030 hA2031 => ?_)
              refine gt_pJ (id := 660) (x := y2033) dX10_readRest_177 fl_10_116 rfl rfl h0 hA2031 rfl rfl rfl hG2029 (fun S2035 hG2036 hA2037 e2038 f2039 er2040 => ?_)
              refine tt_goto (tgt := 766) dX10_readRest_180 rfl ?_
              exact tt_vreturn dX10_readRest_766 rfl (hP _ _ _ _ ⟨hG2036, hA2037, Or.inl ⟨_, rfl, rfl, (fun q => (absurd (((congrFun (congrFun e2006 662) o0).trans up2_self).symm.trans (mo_af (oa_af h0 hA2005) hB2011 (mo_af (oa_af h0 hA2012) hB2030 ((congrFun (congrFun e2038 662) o0).symm.trans q)))) (by decide))), rfl, rfl⟩⟩)
          · skip
            have h2041 : Rg 0 0 (hp_I S1996 662 o0) := rg_eq_l (gi_I (k := 662) hG1997 (oa_af h0 hA1999) 0 1) (⟨by decide, by decide⟩ : Rg 0 0 0) q2001
            refine tt_aload_n (j := 0) dX10_readRest_129 rfl ?_
            refine tt_getI (id := 674) dX10_readRest_130 fl_10_94 rfl rfl (ob_af h0 hA1999) ?_
            refine gt_SIp (As := [.int (hp_I S1996 674 o0)]) dX10_readRest_133 ca_X10_141 ⟨by decide, by decide⟩ hA1999 (Nat.le_of_ble_eq_true rfl) (Nat.le_of_ble_eq_true rfl) (by decide) (cs_X10_isSimple hG1997  (fun _ _ _ _ h => h)) rfl (fun _ h => nomatch h) (fun _ _ q => q) (fun x2047 h2048 hx2046 => ?_)
            refine tt_if_ne (tgt := 143) dX10_readRest_136 rfl (fun q2049 => ?_) (fun q2049 => ?_)
            · skip
              have h2050 : Rg 1 1 x2047 := rg_ne_lo h2048 (⟨by decide, by decide⟩ : Rg 0 0 0) q2049
              refine tt_iconst (v := 0) dX10_readRest_143 rfl ?_
              refine gt_pI (id := 662) (x := 0) dX10_readRest_144 fl_10_84 rfl rfl h0 hA1999 rfl rfl rfl (gp_Ir hG1997 (⟨by decide, by decide⟩ : Rg 0 0 0)) (by decide) (fun _ _ _ => (rg_eqc h2041)) (fun h => absurd h (by decide)) (fun S2051 hG2052 hA2053 e2054 f2055 er2056 => ?_)
              refine tt_aload_n (j := 0) dX10_readRest_147 rfl ?_
              refine tt_aload_n (j := 0) dX10_readRest_148 rfl ?_
              refine gt_gI (id := 674) (v := (hp_I S1996 674 o0)) dX10_readRest_149 fl_10_94 rfl rfl h0 hA2053 ((congrFun (congrFun e2054 674) o0).trans ((congrFun (up2_ne (k := 674)) o0).trans rfl)) ?_
              refine tt_aload_n (j := 0) dX10_readRest_152 rfl ?_
              refine gt_gI (id := 673) (v := (hp_I S1996 673 o0)) dX10_readRest_153 fl_10_100 rfl rfl h0 hA2053 ((congrFun (congrFun e2054 673) o0).trans ((congrFun (up2_ne (k := 673)) o0).trans rfl)) ?_
              refine tt_iconst (v := (-1)) dX10_readRest_156 rfl ?_
              refine gt_Vv (As := [.int (hp_I S1996 674 o0), .int (hp_I S1996 673 o0), .int (-1)]) dX10_readRest_157 ca_X10_123 ⟨by decide, by decide⟩ h0 hA2053 rfl (Nat.le_of_ble_eq_true rfl) (Nat.le_of_ble_eq_true rfl) (by decide) (cs_X10_take hG2052 (oa_af h0 hA2053) (fun _ _ _ _ h => h)) rfl (fun _ h => nomatch h) (fun S2057 hx2061 hG2058 hB2059 hA2060 => ?_)
              refine tt_aload_n (j := 0) dX10_readRest_160 rfl ?_
              refine tt_aload_n (j := 0) dX10_readRest_161 rfl ?_
              refine tt_iload_n (j := 1) dX10_readRest_162 rfl ?_
              refine tt_sipush (v := 129) dX10_readRest_163 rfl ?_
              refine tt_icmp_ne (tgt := 173) dX10_readRest_166 rfl (fun q2062 => ?_) (fun q2062 => ?_)
              · skip
                refine tt_iconst (v := 1) dX10_readRest_173 rfl ?_
                refine gt_VJ (As := [.int 1]) dX10_readRest_174 ca_X10_103 ⟨by decide, by decide⟩ h0 hA2060 rfl (Nat.le_of_ble_eq_true rfl) (Nat.le_of_ble_eq_true rfl) (by decide) (cs_X10_number hG2058 (oa_af h0 hA2060) (fun _ _ _ _ h => h)) rfl (fun _ h => nomatch h) (fun S2063 y2068 hx2067 hG2064 hB2065 hA2066 => ?_)
                refine gt_pJ (id := 660) (x := y2068) dX10_readRest_177 fl_10_116 rfl rfl h0 hA2066 rfl rfl rfl hG2064 (fun S2070 hG2071 hA2072 e2073 f2074 er2075 => ?_)
                refine tt_goto (tgt := 766) dX10_readRest_180 rfl ?_
                exact tt_vreturn dX10_readRest_766 rfl (hP _ _ _ _ ⟨hG2071, hA2072, Or.inl ⟨_, rfl, rfl, (fun q => ⟨(Or.inr (rg_cast ((congrFun (congrFun e2073 657) o0).trans ((i_af (k := 657) (oa_af h0 hA2060) hB2065).trans hx2061.2.1)) (rg_w (hx2000 (rg_eqc h2041))))), (rg_cast ((congrFun (congrFun e2073 658) o0).trans ((i_af (k := 658) (oa_af h0 hA2060) hB2065).trans hx2061.2.2)) (rg_w (⟨by decide, by decide⟩ : Rg (-1) (-1) (-1))))⟩), rfl, rfl⟩⟩)
              · skip
                refine tt_iconst (v := 4) dX10_readRest_169 rfl ?_
                refine tt_goto (tgt := 174) dX10_readRest_170 rfl ?_
                refine gt_VJ (As := [.int 4]) dX10_readRest_174 ca_X10_103 ⟨by decide, by decide⟩ h0 hA2060 rfl (Nat.le_of_ble_eq_true rfl) (Nat.le_of_ble_eq_true rfl) (by decide) (cs_X10_number hG2058 (oa_af h0 hA2060) (fun _ _ _ _ h => h)) rfl (fun _ h => nomatch h) (fun S2076 y2081 hx2080 hG2077 hB2078 hA2079 => ?_)
                refine gt_pJ (id := 660) (x := y2081) dX10_readRest_177 fl_10_116 rfl rfl h0 hA2079 rfl rfl rfl hG2077 (fun S2083 hG2084 hA2085 e2086 f2087 er2088 => ?_)
                refine tt_goto (tgt := 766) dX10_readRest_180 rfl ?_
                exact tt_vreturn dX10_readRest_766 rfl (hP _ _ _ _ ⟨hG2084, hA2085, Or.inl ⟨_, rfl, rfl, (fun q => ⟨(Or.inr (rg_cast ((congrFun (congrFun e2086 657) o0).trans ((i_af (k := 657) (oa_af h0 hA2060) hB2078).trans hx2061.2.1)) (rg_w (hx2000 (rg_eqc h2041))))), (rg_cast ((congrFun (congrFun e2086 658) o0).trans ((i_af (k := 658) (oa_af h0 hA2060) hB2078).trans hx2061.2.2)) (rg_w (⟨by decide, by decide⟩ : Rg (-1) (-1) (-1))))⟩), rfl, rfl⟩⟩)
            · skip
              have h2089 : Rg 0 0 x2047 := rg_eq_l h2048 (⟨by decide, by decide⟩ : Rg 0 0 0) q2049
              refine tt_iconst (v := 1) dX10_readRest_139 rfl ?_
              refine tt_goto (tgt := 144) dX10_readRest_140 rfl ?_
              refine gt_pI (id := 662) (x := 1) dX10_readRest_144 fl_10_84 rfl rfl h0 hA1999 rfl rfl rfl (gp_Ir hG1997 (⟨by decide, by decide⟩ : Rg 1 1 1)) (by decide) (fun _ _ q => absurd q (by decide)) (fun h => absurd h (by decide)) (fun S2090 hG2091 hA2092 e2093 f2094 er2095 => ?_)
              refine tt_aload_n (j := 0) dX10_readRest_147 rfl ?_
              refine tt_aload_n (j := 0) dX10_readRest_148 rfl ?_
              refine gt_gI (id := 674) (v := (hp_I S1996 674 o0)) dX10_readRest_149 fl_10_94 rfl rfl h0 hA2092 ((congrFun (congrFun e2093 674) o0).trans ((congrFun (up2_ne (k := 674)) o0).trans rfl)) ?_
              refine tt_aload_n (j := 0) dX10_readRest_152 rfl ?_
              refine gt_gI (id := 673) (v := (hp_I S1996 673 o0)) dX10_readRest_153 fl_10_100 rfl rfl h0 hA2092 ((congrFun (congrFun e2093 673) o0).trans ((congrFun (up2_ne (k := 673)) o0).trans rfl)) ?_
              refine tt_iconst (v := (-1)) dX10_readRest_156 rfl ?_
              refine gt_Vv (As := [.int (hp_I S1996 674 o0), .int (hp_I S1996 673 o0), .int (-1)]) dX10_readRest_157 ca_X10_123 ⟨by decide, by decide⟩ h0 hA2092 rfl (Nat.le_of_ble_eq_true rfl) (Nat.le_of_ble_eq_true rfl) (by decide) (cs_X10_take hG2091 (oa_af h0 hA2092) (fun _ _ _ _ h => h)) rfl (fun _ h => nomatch h) (fun S2096 hx2100 hG2097 hB2098 hA2099 => ?_)
              refine tt_aload_n (j := 0) dX10_readRest_160 rfl ?_
              refine tt_aload_n (j := 0) dX10_readRest_161 rfl ?_
              refine tt_iload_n (j := 1) dX10_readRest_162 rfl ?_
              refine tt_sipush (v := 129) dX10_readRest_163 rfl ?_
              refine tt_icmp_ne (tgt := 173) dX10_readRest_166 rfl (fun q2101 => ?_) (fun q2101 => ?_)
              · skip
                refine tt_iconst (v := 1) dX10_readRest_173 rfl ?_
                refine gt_VJ (As := [.int 1]) dX10_readRest_174 ca_X10_103 ⟨by decide, by decide⟩ h0 hA2099 rfl (Nat.le_of_ble_eq_true rfl) (Nat.le_of_ble_eq_true rfl) (by decide) (cs_X10_number hG2097 (oa_af h0 hA2099) (fun _ _ _ _ h => h)) rfl (fun _ h => nomatch h) (fun S2102 y2107 hx2106 hG2103 hB2104 hA2105 => ?_)
                refine gt_pJ (id := 660) (x := y2107) dX10_readRest_177 fl_10_116 rfl rfl h0 hA2105 rfl rfl rfl hG2103 (fun S2109 hG2110 hA2111 e2112 f2113 er2114 => ?_)
                refine tt_goto (tgt := 766) dX10_readRest_180 rfl ?_
                exact tt_vreturn dX10_readRest_766 rfl (hP _ _ _ _ ⟨hG2110, hA2111, Or.inl ⟨_, rfl, rfl, (fun q => (absurd (((congrFun (congrFun e2093 662) o0).trans up2_self).symm.trans (mo_af (oa_af h0 hA2092) hB2098 (mo_af (oa_af h0 hA2099) hB2104 ((congrFun (congrFun e2112 662) o0).symm.trans q)))) (by decide))), rfl, rfl⟩⟩)
              · skip
                refine tt_iconst (v := 4) dX10_readRest_169 rfl ?_
                refine tt_goto (tgt := 174) dX10_readRest_170 rfl ?_
                refine gt_VJ (As := [.int 4]) dX10_readRest_174 ca_X10_103 ⟨by decide, by decide⟩ h0 hA2099 rfl (Nat.le_of_ble_eq_true rfl) (Nat.le_of_ble_eq_true rfl) (by decide) (cs_X10_number hG2097 (oa_af h0 hA2099) (fun _ _ _ _ h => h)) rfl (fun _ h => nomatch h) (fun S2115 y2120 hx2119 hG2116 hB2117 hA2118 => ?_)
                refine gt_pJ (id := 660) (x := y2120) dX10_readRest_177 fl_10_116 rfl rfl h0 hA2118 rfl rfl rfl hG2116 (fun S2122 hG2123 hA2124 e2125 f2126 er2127 => ?_)
                refine tt_goto (tgt := 766) dX10_readRest_180 rfl ?_
                exact tt_vreturn dX10_readRest_766 rfl (hP _ _ _ _ ⟨hG2123, hA2124, Or.inl ⟨_, rfl, rfl, (fun q => (absurd (((congrFun (congrFun e2093 662) o0).trans up2_self).symm.trans (mo_af (oa_af h0 hA2092) hB2098 (mo_af (oa_af h0 hA2099) hB2117 ((congrFun (congrFun e2125 662) o0).symm.trans q)))) (by decide))), rfl, rfl⟩⟩)
        · skip
          refine tt_iload_n (j := 1) dX10_readRest_109 rfl ?_
          refine tt_sipush (v := 131) dX10_readRest_110 rfl ?_
          refine tt_icmp_ne (tgt := 183) dX10_readRest_113 rfl (fun q2128 => ?_) (fun q2128 => ?_)
          · skip
            refine tt_iload_n (j := 1) dX10_readRest_183 rfl ?_
            refine tt_sipush (v := 133) dX10_readRest_184 rfl ?_
            refine tt_icmp_ne (tgt := 212) dX10_readRest_187 rfl (fun q2129 => ?_) (fun q2129 => ?_)
            · skip
              refine tt_iload_n (j := 1) dX10_readRest_212 rfl ?_
              refine tt_sipush (v := 247) dX10_readRest_213 rfl ?_
              refine tt_icmp_ne (tgt := 315) dX10_readRest_216 rfl (fun q2130 => ?_) (fun q2130 => ?_)
              · skip
                refine tt_iload_n (j := 1) dX10_readRest_315 rfl ?_
                refine tt_sipush (v := 255) dX10_readRest_316 rfl ?_
                refine tt_icmp_ne (tgt := 377) dX10_readRest_319 rfl (fun q2131 => ?_) (fun q2131 => ?_)
                · skip
                  refine tt_iload_n (j := 1) dX10_readRest_377 rfl ?_
                  refine tt_sipush (v := 137) dX10_readRest_378 rfl ?_
                  refine tt_icmp_eq (tgt := 391) dX10_readRest_381 rfl (fun q2132 => ?_) (fun q2132 => ?_)
                  · skip
                    refine tt_aload_n (j := 0) dX10_readRest_391 rfl ?_
                    refine tt_iload_n (j := 2) dX10_readRest_392 rfl ?_
                    refine gt_Vv (As := [.int x2]) dX10_readRest_393 ca_X10_137 ⟨by decide, by decide⟩ h0 hA rfl (Nat.le_of_ble_eq_true rfl) (Nat.le_of_ble_eq_true rfl) (by decide) (cs_X10_readPlaces hG (oa_af h0 hA) (fun _ _ _ _ h => h)) rfl (fun _ h => nomatch h) (fun S2133 hx2137 hG2134 hB2135 hA2136 => ?_)
                    refine tt_aload_n (j := 0) dX10_readRest_396 rfl ?_
                    refine tt_bipush (v := 13) dX10_readRest_397 rfl ?_
                    refine tt_iload_n (j := 1) dX10_readRest_399 rfl ?_
                    refine tt_sipush (v := 137) dX10_readRest_400 rfl ?_
                    refine tt_icmp_ne (tgt := 413) dX10_readRest_403 rfl (fun q2138 => ?_) (fun q2138 => ?_)
                    · skip
                      refine tt_aload_n (j := 0) dX10_readRest_413 rfl ?_
                      refine tt_getI (id := 672) dX10_readRest_414 fl_10_97 rfl rfl (ob_af h0 hA2136) ?_
                      refine tt_iload_n (j := 1) dX10_readRest_417 rfl ?_
                      refine tt_sipush (v := 137) dX10_readRest_418 rfl ?_
                      refine tt_icmp_ne (tgt := 431) dX10_readRest_421 rfl (fun q2139 => ?_) (fun q2139 => ?_)
                      · skip
                        refine tt_aload_n (j := 0) dX10_readRest_431 rfl ?_
                        refine tt_getI (id := 673) dX10_readRest_432 fl_10_100 rfl rfl (ob_af h0 hA2136) ?_
                        refine gt_Vv (As := [.int 13, .int (hp_I S2133 672 o0), .int (hp_I S2133 673 o0)]) dX10_readRest_435 ca_X10_123 ⟨by decide, by decide⟩ h0 hA2136 rfl (Nat.le_of_ble_eq_true rfl) (Nat.le_of_ble_eq_true rfl) (by decide) (cs_X10_take hG2134 (oa_af h0 hA2136) (fun _ _ _ _ h => h)) rfl (fun _ h => nomatch h) (fun S2140 hx2144 hG2141 hB2142 hA2143 => ?_)
                        refine tt_goto (tgt := 766) dX10_readRest_438 rfl ?_
                        exact tt_vreturn dX10_readRest_766 rfl (hP _ _ _ _ ⟨hG2141, hA2143, Or.inl ⟨_, rfl, rfl, (fun q => ⟨(Or.inr (rg_cast hx2144.2.1 (rg_w (gi_I (k := 672) hG2134 (oa_af h0 hA2136) 0 15)))), (rg_cast hx2144.2.2 (rg_w (hx2137 (mo_af (oa_af h0 hA2136) hB2142 q))))⟩), rfl, rfl⟩⟩)
                      · skip
                        refine tt_aload_n (j := 0) dX10_readRest_424 rfl ?_
                        refine tt_getI (id := 672) dX10_readRest_425 fl_10_97 rfl rfl (ob_af h0 hA2136) ?_
                        refine tt_goto (tgt := 435) dX10_readRest_428 rfl ?_
                        refine gt_Vv (As := [.int 13, .int (hp_I S2133 672 o0), .int (hp_I S2133 672 o0)]) dX10_readRest_435 ca_X10_123 ⟨by decide, by decide⟩ h0 hA2136 rfl (Nat.le_of_ble_eq_true rfl) (Nat.le_of_ble_eq_true rfl) (by decide) (cs_X10_take hG2134 (oa_af h0 hA2136) (fun _ _ _ _ h => h)) rfl (fun _ h => nomatch h) (fun S2145 hx2149 hG2146 hB2147 hA2148 => ?_)
                        refine tt_goto (tgt := 766) dX10_readRest_438 rfl ?_
                        exact tt_vreturn dX10_readRest_766 rfl (hP _ _ _ _ ⟨hG2146, hA2148, Or.inl ⟨_, rfl, rfl, (fun q => ⟨(Or.inr (rg_cast hx2149.2.1 (rg_w (gi_I (k := 672) hG2134 (oa_af h0 hA2136) 0 15)))), (rg_cast hx2149.2.2 (rg_w (gi_I (k := 672) hG2134 (oa_af h0 hA2136) 0 15)))⟩), rfl, rfl⟩⟩)
                    · skip
                      refine tt_aload_n (j := 0) dX10_readRest_406 rfl ?_
                      refine tt_getI (id := 673) dX10_readRest_407 fl_10_100 rfl rfl (ob_af h0 hA2136) ?_
                      refine tt_goto (tgt := 417) dX10_readRest_410 rfl ?_
                      refine tt_iload_n (j := 1) dX10_readRest_417 rfl ?_
                      refine tt_sipush (v := 137) dX10_readRest_418 rfl ?_
                      refine tt_icmp_ne (tgt := 431) dX10_readRest_421 rfl (fun q2150 => ?_) (fun q2150 => ?_)
                      · skip
                        refine tt_aload_n (j := 0) dX10_readRest_431 rfl ?_
                        refine tt_getI (id := 673) dX10_readRest_432 fl_10_100 rfl rfl (ob_af h0 hA2136) ?_
                        refine gt_Vv (As := [.int 13, .int (hp_I S2133 673 o0), .int (hp_I S2133 673 o0)]) dX10_readRest_435 ca_X10_123 ⟨by decide, by decide⟩ h0 hA2136 rfl (Nat.le_of_ble_eq_true rfl) (Nat.le_of_ble_eq_true rfl) (by decide) (cs_X10_take hG2134 (oa_af h0 hA2136) (fun _ _ _ _ h => h)) rfl (fun _ h => nomatch h) (fun S2151 hx2155 hG2152 hB2153 hA2154 => ?_)
                        refine tt_goto (tgt := 766) dX10_readRest_438 rfl ?_
                        exact tt_vreturn dX10_readRest_766 rfl (hP _ _ _ _ ⟨hG2152, hA2154, Or.inl ⟨_, rfl, rfl, (fun q => ⟨(Or.inr (rg_cast hx2155.2.1 (rg_w (hx2137 (mo_af (oa_af h0 hA2136) hB2153 q))))), (rg_cast hx2155.2.2 (rg_w (hx2137 (mo_af (oa_af h0 hA2136) hB2153 q))))⟩), rfl, rfl⟩⟩)
                      · skip
                        refine tt_aload_n (j := 0) dX10_readRest_424 rfl ?_
                        refine tt_getI (id := 672) dX10_readRest_425 fl_10_97 rfl rfl (ob_af h0 hA2136) ?_
                        refine tt_goto (tgt := 435) dX10_readRest_428 rfl ?_
                        refine gt_Vv (As := [.int 13, .int (hp_I S2133 673 o0), .int (hp_I S2133 672 o0)]) dX10_readRest_435 ca_X10_123 ⟨by decide, by decide⟩ h0 hA2136 rfl (Nat.le_of_ble_eq_true rfl) (Nat.le_of_ble_eq_true rfl) (by decide) (cs_X10_take hG2134 (oa_af h0 hA2136) (fun _ _ _ _ h => h)) rfl (fun _ h => nomatch h) (fun S2156 hx2160 hG2157 hB2158 hA2159 => ?_)
                        refine tt_goto (tgt := 766) dX10_readRest_438 rfl ?_
                        exact tt_vreturn dX10_readRest_766 rfl (hP _ _ _ _ ⟨hG2157, hA2159, Or.inl ⟨_, rfl, rfl, (fun q => ⟨(Or.inr (rg_cast hx2160.2.1 (rg_w (hx2137 (mo_af (oa_af h0 hA2136) hB2158 q))))), (rg_cast hx2160.2.2 (rg_w (gi_I (k := 672) hG2134 (oa_af h0 hA2136) 0 15)))⟩), rfl, rfl⟩⟩)
                  · skip
                    refine tt_iload_n (j := 1) dX10_readRest_384 rfl ?_
                    refine tt_sipush (v := 139) dX10_readRest_385 rfl ?_
                    refine tt_icmp_ne (tgt := 441) dX10_readRest_388 rfl (fun q2161 => ?_) (fun q2161 => ?_)
                    · skip
                      refine tt_iload_n (j := 1) dX10_readRest_441 rfl ?_
                      refine tt_sipush (v := 199) dX10_readRest_442 rfl ?_
                      refine tt_icmp_ne (tgt := 499) dX10_readRest_445 rfl (fun q2162 => ?_) (fun q2162 => ?_)
                      · skip
                        refine tt_iload_n (j := 1) dX10_readRest_499 rfl ?_
                        refine tt_sipush (v := 184) dX10_readRest_500 rfl ?_
                        refine tt_icmp_lt (tgt := 564) dX10_readRest_503 rfl (fun q2163 => ?_) (fun q2163 => ?_)
                        · skip
                          refine tt_iload_n (j := 1) dX10_readRest_564 rfl ?_
                          refine tt_sipush (v := 193) dX10_readRest_565 rfl ?_
                          refine tt_icmp_ne (tgt := 682) dX10_readRest_568 rfl (fun q2164 => ?_) (fun q2164 => ?_)
                          · skip
                            refine tt_iload_n (j := 1) dX10_readRest_682 rfl ?_
                            refine tt_bipush (v := 99) dX10_readRest_683 rfl ?_
                            refine tt_icmp_ne (tgt := 743) dX10_readRest_685 rfl (fun q2165 => ?_) (fun q2165 => ?_)
                            · skip
                              refine tt_iload_n (j := 1) dX10_readRest_743 rfl ?_
                              refine tt_bipush (v := 15) dX10_readRest_744 rfl ?_
                              refine tt_icmp_ne (tgt := 761) dX10_readRest_746 rfl (fun q2166 => ?_) (fun q2166 => ?_)
                              · skip
                                refine tt_aload_n (j := 0) dX10_readRest_761 rfl ?_
                                refine tt_iload_n (j := 1) dX10_readRest_762 rfl ?_
                                refine gt_Vv (As := [.int x1]) dX10_readRest_763 ca_X10_147 ⟨by decide, by decide⟩ h0 hA rfl (Nat.le_of_ble_eq_true rfl) (Nat.le_of_ble_eq_true rfl) (by decide) (cs_X10_readJumps hG (oa_af h0 hA) (rg_w g655) (rg_w g658) (fun _ _ _ _ h => h)) rfl (fun _ h => nomatch h) (fun S2167 hx2171 hG2168 hB2169 hA2170 => ?_)
                                exact tt_vreturn dX10_readRest_766 rfl (hP _ _ _ _ ⟨hG2168, hA2170, Or.inl ⟨_, rfl, rfl, hx2171, rfl, rfl⟩⟩)
                              · skip
                                have h2172 : Rg 15 15 x1 := rg_eq_l h1862 (⟨by decide, by decide⟩ : Rg 15 15 15) q2166
                                refine tt_aload_n (j := 0) dX10_readRest_749 rfl ?_
                                refine tt_aload_n (j := 0) dX10_readRest_750 rfl ?_
                                refine gt_VI (As := []) dX10_readRest_751 ca_X10_87 ⟨by decide, by decide⟩ h0 hA rfl (Nat.le_of_ble_eq_true rfl) (Nat.le_of_ble_eq_true rfl) (by decide) (cs_X10_next hG (oa_af h0 hA) (fun _ _ _ _ h => h)) rfl (fun _ h => nomatch h) (fun S2173 x2178 h2179 hx2177 hG2174 hB2175 hA2176 => ?_)
                                refine tt_iload_n (j := 2) dX10_readRest_754 rfl ?_
                                refine gt_Vv (As := [.int x2178, .int x2]) dX10_readRest_755 ca_X10_144 ⟨by decide, by decide⟩ h0 hA2176 rfl (Nat.le_of_ble_eq_true rfl) (Nat.le_of_ble_eq_true rfl) (by decide) (cs_X10_readTwo hG2174 (oa_af h0 hA2176) (rg_cast ((i_af (k := 655) (oa_af h0 hA) hB2175).trans rfl) (rg_w g655)) (rg_cast ((i_af (k := 658) (oa_af h0 hA) hB2175).trans rfl) (rg_w g658)) (fun _ _ _ _ h => h)) rfl (fun _ h => nomatch h) (fun S2180 hx2184 hG2181 hB2182 hA2183 => ?_)
                                refine tt_goto (tgt := 766) dX10_readRest_758 rfl ?_
                                exact tt_vreturn dX10_readRest_766 rfl (hP _ _ _ _ ⟨hG2181, hA2183, Or.inl ⟨_, rfl, rfl, hx2184, rfl, rfl⟩⟩)
                            · skip
                              refine tt_aload_n (j := 0) dX10_readRest_688 rfl ?_
                              refine tt_iload_n (j := 2) dX10_readRest_689 rfl ?_
                              refine gt_Vv (As := [.int x2]) dX10_readRest_690 ca_X10_137 ⟨by decide, by decide⟩ h0 hA rfl (Nat.le_of_ble_eq_true rfl) (Nat.le_of_ble_eq_true rfl) (by decide) (cs_X10_readPlaces hG (oa_af h0 hA) (fun _ _ _ _ h => h)) rfl (fun _ h => nomatch h) (fun S2185 hx2189 hG2186 hB2187 hA2188 => ?_)
                              refine tt_aload_n (j := 0) dX10_readRest_693 rfl ?_
                              refine tt_aload_n (j := 0) dX10_readRest_694 rfl ?_
                              refine tt_getI (id := 662) dX10_readRest_695 fl_10_84 rfl rfl (ob_af h0 hA2188) ?_
                              refine tt_if_ne (tgt := 718) dX10_readRest_698 rfl (fun q2190 => ?_) (fun q2190 => ?_)
                              · skip
                                have h2191 : Rg 1 1 (hp_I S2185 662 o0) := rg_ne_lo (gi_I (k := 662) hG2186 (oa_af h0 hA2188) 0 1) (⟨by decide, by decide⟩ : Rg 0 0 0) q2190
                                refine tt_iconst (v := 1) dX10_readRest_718 rfl ?_
                                refine tt_goto (tgt := 723) dX10_readRest_719 rfl ?_
                                refine gt_pI (id := 662) (x := 1) dX10_readRest_723 fl_10_84 rfl rfl h0 hA2188 rfl rfl rfl (gp_Ir hG2186 (⟨by decide, by decide⟩ : Rg 1 1 1)) (by decide) (fun _ _ q => absurd q (by decide)) (fun h => absurd h (by decide)) (fun S2192 hG2193 hA2194 e2195 f2196 er2197 => ?_)
                                refine tt_aload_n (j := 0) dX10_readRest_726 rfl ?_
                                refine tt_bipush (v := 18) dX10_readRest_727 rfl ?_
                                refine tt_aload_n (j := 0) dX10_readRest_729 rfl ?_
                                refine tt_getI (id := 672) dX10_readRest_730 fl_10_97 rfl rfl (ob_af h0 hA2194) ?_
                                refine tt_aload_n (j := 0) dX10_readRest_733 rfl ?_
                                refine gt_gI (id := 673) (v := (hp_I S2185 673 o0)) dX10_readRest_734 fl_10_100 rfl rfl h0 hA2194 ((congrFun (congrFun e2195 673) o0).trans ((congrFun (up2_ne (k := 673)) o0).trans rfl)) ?_
                                refine gt_Vv (As := [.int 18, .int (hp_I S2192 672 o0), .int (hp_I S2185 673 o0)]) dX10_readRest_737 ca_X10_123 ⟨by decide, by decide⟩ h0 hA2194 rfl (Nat.le_of_ble_eq_true rfl) (Nat.le_of_ble_eq_true rfl) (by decide) (cs_X10_take hG2193 (oa_af h0 hA2194) (fun _ _ _ _ h => h)) rfl (fun _ h => nomatch h) (fun S2198 hx2202 hG2199 hB2200 hA2201 => ?_)
                                refine tt_goto (tgt := 766) dX10_readRest_740 rfl ?_
                                exact tt_vreturn dX10_readRest_766 rfl (hP _ _ _ _ ⟨hG2199, hA2201, Or.inl ⟨_, rfl, rfl, (fun q => (absurd (((congrFun (congrFun e2195 662) o0).trans up2_self).symm.trans (mo_af (oa_af h0 hA2194) hB2200 q)) (by decide))), rfl, rfl⟩⟩)
                              · skip
                                have h2203 : Rg 0 0 (hp_I S2185 662 o0) := rg_eq_l (gi_I (k := 662) hG2186 (oa_af h0 hA2188) 0 1) (⟨by decide, by decide⟩ : Rg 0 0 0) q2190
                                refine tt_aload_n (j := 0) dX10_readRest_701 rfl ?_
                                refine gt_gI (id := 656) (v := (hp_I S 656 o0)) dX10_readRest_702 fl_10_127 rfl rfl h0 hA2188 (i_af (k := 656) h0 hA2188) ?_
                                refine tt_bipush (v := 32) dX10_readRest_705 rfl ?_
                                refine tt_icmp_eq (tgt := 718) dX10_readRest_707 rfl (fun q2204 => ?_) (fun q2204 => ?_)
                                · skip
                                  have h2205 : Rg 32 32 (hp_I S 656 o0) := rg_eq_l (rg_all (hp_I S 656 o0)) (⟨by decide, by decide⟩ : Rg 32 32 32) q2204
                                  refine tt_iconst (v := 1) dX10_readRest_718 rfl ?_
                                  refine tt_goto (tgt := 723) dX10_readRest_719 rfl ?_
                                  refine gt_pI (id := 662) (x := 1) dX10_readRest_723 fl_10_84 rfl rfl h0 hA2188 rfl rfl rfl (gp_Ir hG2186 (⟨by decide, by decide⟩ : Rg 1 1 1)) (by decide) (fun _ _ q => absurd q (by decide)) (fun h => absurd h (by decide)) (fun S2206 hG2207 hA2208 e2209 f2210 er2211 => ?_)
                                  refine tt_aload_n (j := 0) dX10_readRest_726 rfl ?_
                                  refine tt_bipush (v := 18) dX10_readRest_727 rfl ?_
                                  refine tt_aload_n (j := 0) dX10_readRest_729 rfl ?_
                                  refine tt_getI (id := 672) dX10_readRest_730 fl_10_97 rfl rfl (ob_af h0 hA2208) ?_
                                  refine tt_aload_n (j := 0) dX10_readRest_733 rfl ?_
                                  refine gt_gI (id := 673) (v := (hp_I S2185 673 o0)) dX10_readRest_734 fl_10_100 rfl rfl h0 hA2208 ((congrFun (congrFun e2209 673) o0).trans ((congrFun (up2_ne (k := 673)) o0).trans rfl)) ?_
                                  refine gt_Vv (As := [.int 18, .int (hp_I S2206 672 o0), .int (hp_I S2185 673 o0)]) dX10_readRest_737 ca_X10_123 ⟨by decide, by decide⟩ h0 hA2208 rfl (Nat.le_of_ble_eq_true rfl) (Nat.le_of_ble_eq_true rfl) (by decide) (cs_X10_take hG2207 (oa_af h0 hA2208) (fun _ _ _ _ h => h)) rfl (fun _ h => nomatch h) (fun S2212 hx2216 hG2213 hB2214 hA2215 => ?_)
                                  refine tt_goto (tgt := 766) dX10_readRest_740 rfl ?_
                                  exact tt_vreturn dX10_readRest_766 rfl (hP _ _ _ _ ⟨hG2213, hA2215, Or.inl ⟨_, rfl, rfl, (fun q => (absurd (((congrFun (congrFun e2209 662) o0).trans up2_self).symm.trans (mo_af (oa_af h0 hA2208) hB2214 q)) (by decide))), rfl, rfl⟩⟩)
                                · skip
                                  refine tt_aload_n (j := 0) dX10_readRest_710 rfl ?_
                                  refine tt_getI (id := 675) dX10_readRest_711 fl_10_91 rfl rfl (ob_af h0 hA2188) ?_
                                  refine tt_iconst (v := 3) dX10_readRest_714 rfl ?_
                                  refine tt_icmp_eq (tgt := 722) dX10_readRest_715 rfl (fun q2217 => ?_) (fun q2217 => ?_)
                                  · skip
                                    have h2218 : Rg 3 3 (hp_I S2185 675 o0) := rg_eq_l (rg_all (hp_I S2185 675 o0)) (⟨by decide, by decide⟩ : Rg 3 3 3) q2217
                                    refine tt_iconst (v := 0) dX10_readRest_722 rfl ?_
                                    refine gt_pI (id := 662) (x := 0) dX10_readRest_723 fl_10_84 rfl rfl h0 hA2188 rfl rfl rfl (gp_Ir hG2186 (⟨by decide, by decide⟩ : Rg 0 0 0)) (by decide) (fun _ _ _ => (rg_eqc h2203)) (fun h => absurd h (by decide)) (fun S2219 hG2220 hA2221 e2222 f2223 er2224 => ?_)
                                    refine tt_aload_n (j := 0) dX10_readRest_726 rfl ?_
                                    refine tt_bipush (v := 18) dX10_readRest_727 rfl ?_
                                    refine tt_aload_n (j := 0) dX10_readRest_729 rfl ?_
                                    refine tt_getI (id := 672) dX10_readRest_730 fl_10_97 rfl rfl (ob_af h0 hA2221) ?_
                                    refine tt_aload_n (j := 0) dX10_readRest_733 rfl ?_
                                    refine gt_gI (id := 673) (v := (hp_I S2185 673 o0)) dX10_readRest_734 fl_10_100 rfl rfl h0 hA2221 ((congrFun (congrFun e2222 673) o0).trans ((congrFun (up2_ne (k := 673)) o0).trans rfl)) ?_
                                    refine gt_Vv (As := [.int 18, .int (hp_I S2219 672 o0), .int (hp_I S2185 673 o0)]) dX10_readRest_737 ca_X10_123 ⟨by decide, by decide⟩ h0 hA2221 rfl (Nat.le_of_ble_eq_true rfl) (Nat.le_of_ble_eq_true rfl) (by decide) (cs_X10_take hG2220 (oa_af h0 hA2221) (fun _ _ _ _ h => h)) rfl (fun _ h => nomatch h) (fun S2225 hx2229 hG2226 hB2227 hA2228 => ?_)
                                    refine tt_goto (tgt := 766) dX10_readRest_740 rfl ?_
                                    exact tt_vreturn dX10_readRest_766 rfl (hP _ _ _ _ ⟨hG2226, hA2228, Or.inl ⟨_, rfl, rfl, (fun q => ⟨(Or.inr (rg_cast hx2229.2.1 (rg_w (gi_I (k := 672) hG2220 (oa_af h0 hA2221) 0 15)))), (rg_cast hx2229.2.2 (rg_w (hx2189 (rg_eqc h2203))))⟩), rfl, rfl⟩⟩)
                                  · skip
                                    refine tt_iconst (v := 1) dX10_readRest_718 rfl ?_
                                    refine tt_goto (tgt := 723) dX10_readRest_719 rfl ?_
                                    refine gt_pI (id := 662) (x := 1) dX10_readRest_723 fl_10_84 rfl rfl h0 hA2188 rfl rfl rfl (gp_Ir hG2186 (⟨by decide, by decide⟩ : Rg 1 1 1)) (by decide) (fun _ _ q => absurd q (by decide)) (fun h => absurd h (by decide)) (fun S2230 hG2231 hA2232 e2233 f2234 er2235 => ?_)
                                    refine tt_aload_n (j := 0) dX10_readRest_726 rfl ?_
                                    refine tt_bipush (v := 18) dX10_readRest_727 rfl ?_
                                    refine tt_aload_n (j := 0) dX10_readRest_729 rfl ?_
                                    refine tt_getI (id := 672) dX10_readRest_730 fl_10_97 rfl rfl (ob_af h0 hA2232) ?_
                                    refine tt_aload_n (j := 0) dX10_readRest_733 rfl ?_
                                    refine gt_gI (id := 673) (v := (hp_I S2185 673 o0)) dX10_readRest_734 fl_10_100 rfl rfl h0 hA2232 ((congrFun (congrFun e2233 673) o0).trans ((congrFun (up2_ne (k := 673)) o0).trans rfl)) ?_
                                    refine gt_Vv (As := [.int 18, .int (hp_I S2230 672 o0), .int (hp_I S2185 673 o0)]) dX10_readRest_737 ca_X10_123 ⟨by decide, by decide⟩ h0 hA2232 rfl (Nat.le_of_ble_eq_true rfl) (Nat.le_of_ble_eq_true rfl) (by decide) (cs_X10_take hG2231 (oa_af h0 hA2232) (fun _ _ _ _ h => h)) rfl (fun _ h => nomatch h) (fun S2236 hx2240 hG2237 hB2238 hA2239 => ?_)
                                    refine tt_goto (tgt := 766) dX10_readRest_740 rfl ?_
                                    exact tt_vreturn dX10_readRest_766 rfl (hP _ _ _ _ ⟨hG2237, hA2239, Or.inl ⟨_, rfl, rfl, (fun q => (absurd (((congrFun (congrFun e2233 662) o0).trans up2_self).symm.trans (mo_af (oa_af h0 hA2232) hB2238 q)) (by decide))), rfl, rfl⟩⟩)
                          · skip
                            refine tt_aload_n (j := 0) dX10_readRest_571 rfl ?_
                            refine tt_iload_n (j := 2) dX10_readRest_572 rfl ?_
                            refine gt_Vv (As := [.int x2]) dX10_readRest_573 ca_X10_137 ⟨by decide, by decide⟩ h0 hA rfl (Nat.le_of_ble_eq_true rfl) (Nat.le_of_ble_eq_true rfl) (by decide) (cs_X10_readPlaces hG (oa_af h0 hA) (fun _ _ _ _ h => h)) rfl (fun _ h => nomatch h) (fun S2241 hx2245 hG2242 hB2243 hA2244 => ?_)
                            refine tt_aload_n (j := 0) dX10_readRest_576 rfl ?_
                            refine tt_aload_n (j := 0) dX10_readRest_577 rfl ?_
                            refine tt_getI (id := 662) dX10_readRest_578 fl_10_84 rfl rfl (ob_af h0 hA2244) ?_
                            refine tt_if_ne (tgt := 609) dX10_readRest_581 rfl (fun q2246 => ?_) (fun q2246 => ?_)
                            · skip
                              have h2247 : Rg 1 1 (hp_I S2241 662 o0) := rg_ne_lo (gi_I (k := 662) hG2242 (oa_af h0 hA2244) 0 1) (⟨by decide, by decide⟩ : Rg 0 0 0) q2246
                              refine tt_iconst (v := 1) dX10_readRest_609 rfl ?_
                              refine tt_goto (tgt := 614) dX10_readRest_610 rfl ?_
                              refine gt_pI (id := 662) (x := 1) dX10_readRest_614 fl_10_84 rfl rfl h0 hA2244 rfl rfl rfl (gp_Ir hG2242 (⟨by decide, by decide⟩ : Rg 1 1 1)) (by decide) (fun _ _ q => absurd q (by decide)) (fun h => absurd h (by decide)) (fun S2248 hG2249 hA2250 e2251 f2252 er2253 => ?_)
                              refine tt_aload_n (j := 0) dX10_readRest_617 rfl ?_
                              refine tt_aload_n (j := 0) dX10_readRest_618 rfl ?_
                              refine tt_getI (id := 674) dX10_readRest_619 fl_10_94 rfl rfl (ob_af h0 hA2250) ?_
                              refine tt_iconst (v := 4) dX10_readRest_622 rfl ?_
                              refine tt_icmp_ne (tgt := 631) dX10_readRest_623 rfl (fun q2254 => ?_) (fun q2254 => ?_)
                              · skip
                                refine tt_aload_n (j := 0) dX10_readRest_631 rfl ?_
                                refine tt_getI (id := 674) dX10_readRest_632 fl_10_94 rfl rfl (ob_af h0 hA2250) ?_
                                refine tt_iconst (v := 5) dX10_readRest_635 rfl ?_
                                refine tt_icmp_ne (tgt := 644) dX10_readRest_636 rfl (fun q2255 => ?_) (fun q2255 => ?_)
                                · skip
                                  refine tt_bipush (v := 16) dX10_readRest_644 rfl ?_
                                  refine tt_aload_n (j := 0) dX10_readRest_646 rfl ?_
                                  refine gt_gI (id := 673) (v := (hp_I S2241 673 o0)) dX10_readRest_647 fl_10_100 rfl rfl h0 hA2250 ((congrFun (congrFun e2251 673) o0).trans ((congrFun (up2_ne (k := 673)) o0).trans rfl)) ?_
                                  refine tt_iconst (v := (-1)) dX10_readRest_650 rfl ?_
                                  refine gt_Vv (As := [.int 16, .int (hp_I S2241 673 o0), .int (-1)]) dX10_readRest_651 ca_X10_123 ⟨by decide, by decide⟩ h0 hA2250 rfl (Nat.le_of_ble_eq_true rfl) (Nat.le_of_ble_eq_true rfl) (by decide) (cs_X10_take hG2249 (oa_af h0 hA2250) (fun _ _ _ _ h => h)) rfl (fun _ h => nomatch h) (fun S2256 hx2260 hG2257 hB2258 hA2259 => ?_)
                                  refine tt_aload_n (j := 0) dX10_readRest_654 rfl ?_
                                  refine tt_aload_n (j := 0) dX10_readRest_655 rfl ?_
                                  refine gt_VI (As := []) dX10_readRest_656 ca_X10_87 ⟨by decide, by decide⟩ h0 hA2259 rfl (Nat.le_of_ble_eq_true rfl) (Nat.le_of_ble_eq_true rfl) (by decide) (cs_X10_next hG2257 (oa_af h0 hA2259) (fun _ _ _ _ h => h)) rfl (fun _ h => nomatch h) (fun S2261 x2266 h2267 hx2265 hG2262 hB2263 hA2264 => ?_)
                                  refine tt_aload_n (j := 0) dX10_readRest_659 rfl ?_
                                  refine gt_gI (id := 656) (v := (hp_I S 656 o0)) dX10_readRest_660 fl_10_127 rfl rfl h0 hA2264 (i_af (k := 656) h0 hA2264) ?_
                                  refine tt_bipush (v := 64) dX10_readRest_663 rfl ?_
                                  refine tt_icmp_ne (tgt := 673) dX10_readRest_665 rfl (fun q2268 => ?_) (fun q2268 => ?_)
                                  · skip
                                    refine tt_bipush (v := 31) dX10_readRest_673 rfl ?_
                                    refine tt_iand dX10_readRest_675 ?_
                                    refine gt_pI (id := 659) (x := (x2266 &&& 31)) dX10_readRest_676 fl_10_120 rfl rfl h0 hA2264 rfl rfl rfl (gp_I hG2262) (by decide) (fun h => absurd h (by decide)) (fun h => absurd h (by decide)) (fun S2269 hG2270 hA2271 e2272 f2273 er2274 => ?_)
                                    refine tt_goto (tgt := 766) dX10_readRest_679 rfl ?_
                                    exact tt_vreturn dX10_readRest_766 rfl (hP _ _ _ _ ⟨hG2270, hA2271, Or.inl ⟨_, rfl, rfl, (fun q => (absurd (((congrFun (congrFun e2251 662) o0).trans up2_self).symm.trans (mo_af (oa_af h0 hA2250) hB2258 (mo_af (oa_af h0 hA2259) hB2263 ((congrFun (up2_ne (k := 662)) o0).symm.trans ((congrFun (congrFun e2272 662) o0).symm.trans q))))) (by decide))), rfl, rfl⟩⟩)
                                  · skip
                                    have h2275 : Rg 64 64 (hp_I S 656 o0) := rg_eq_l (rg_all (hp_I S 656 o0)) (⟨by decide, by decide⟩ : Rg 64 64 64) q2268
                                    refine tt_bipush (v := 63) dX10_readRest_668 rfl ?_
                                    refine tt_goto (tgt := 675) dX10_readRest_670 rfl ?_
                                    refine tt_iand dX10_readRest_675 ?_
                                    refine gt_pI (id := 659) (x := (x2266 &&& 63)) dX10_readRest_676 fl_10_120 rfl rfl h0 hA2264 rfl rfl rfl (gp_I hG2262) (by decide) (fun h => absurd h (by decide)) (fun h => absurd h (by decide)) (fun S2276 hG2277 hA2278 e2279 f2280 er2281 => ?_)
                                    refine tt_goto (tgt := 766) dX10_readRest_679 rfl ?_
                                    exact tt_vreturn dX10_readRest_766 rfl (hP _ _ _ _ ⟨hG2277, hA2278, Or.inl ⟨_, rfl, rfl, (fun q => (absurd (((congrFun (congrFun e2251 662) o0).trans up2_self).symm.trans (mo_af (oa_af h0 hA2250) hB2258 (mo_af (oa_af h0 hA2259) hB2263 ((congrFun (up2_ne (k := 662)) o0).symm.trans ((congrFun (congrFun e2279 662) o0).symm.trans q))))) (by decide))), rfl, rfl⟩⟩)
                                · skip
                                  have h2282 : Rg 5 5 (hp_I S2248 674 o0) := rg_eq_l (gi_I (k := 674) hG2249 (oa_af h0 hA2250) 0 7) (⟨by decide, by decide⟩ : Rg 5 5 5) q2255
                                  refine tt_bipush (v := 15) dX10_readRest_639 rfl ?_
                                  refine tt_goto (tgt := 646) dX10_readRest_641 rfl ?_
                                  refine tt_aload_n (j := 0) dX10_readRest_646 rfl ?_
                                  refine gt_gI (id := 673) (v := (hp_I S2241 673 o0)) dX10_readRest_647 fl_10_100 rfl rfl h0 hA2250 ((congrFun (congrFun e2251 673) o0).trans ((congrFun (up2_ne (k := 673)) o0).trans rfl)) ?_
                                  refine tt_iconst (v := (-1)) dX10_readRest_650 rfl ?_
                                  refine gt_Vv (As := [.int 15, .int (hp_I S2241 673 o0), .int (-1)]) dX10_readRest_651 ca_X10_123 ⟨by decide, by decide⟩ h0 hA2250 rfl (Nat.le_of_ble_eq_true rfl) (Nat.le_of_ble_eq_true rfl) (by decide) (cs_X10_take hG2249 (oa_af h0 hA2250) (fun _ _ _ _ h => h)) rfl (fun _ h => nomatch h) (fun S2283 hx2287 hG2284 hB2285 hA2286 => ?_)
                                  refine tt_aload_n (j := 0) dX10_readRest_654 rfl ?_
                                  refine tt_aload_n (j := 0) dX10_readRest_655 rfl ?_
                                  refine gt_VI (As := []) dX10_readRest_656 ca_X10_87 ⟨by decide, by decide⟩ h0 hA2286 rfl (Nat.le_of_ble_eq_true rfl) (Nat.le_of_ble_eq_true rfl) (by decide) (cs_X10_next hG2284 (oa_af h0 hA2286) (fun _ _ _ _ h => h)) rfl (fun _ h => nomatch h) (fun S2288 x2293 h2294 hx2292 hG2289 hB2290 hA2291 => ?_)
                                  refine tt_aload_n (j := 0) dX10_readRest_659 rfl ?_
                                  refine gt_gI (id := 656) (v := (hp_I S 656 o0)) dX10_readRest_660 fl_10_127 rfl rfl h0 hA2291 (i_af (k := 656) h0 hA2291) ?_
                                  refine tt_bipush (v := 64) dX10_readRest_663 rfl ?_
                                  refine tt_icmp_ne (tgt := 673) dX10_readRest_665 rfl (fun q2295 => ?_) (fun q2295 => ?_)
                                  · skip
                                    refine tt_bipush (v := 31) dX10_readRest_673 rfl ?_
                                    refine tt_iand dX10_readRest_675 ?_
                                    refine gt_pI (id := 659) (x := (x2293 &&& 31)) dX10_readRest_676 fl_10_120 rfl rfl h0 hA2291 rfl rfl rfl (gp_I hG2289) (by decide) (fun h => absurd h (by decide)) (fun h => absurd h (by decide)) (fun S2296 hG2297 hA2298 e2299 f2300 er2301 => ?_)
                                    refine tt_goto (tgt := 766) dX10_readRest_679 rfl ?_
                                    exact tt_vreturn dX10_readRest_766 rfl (hP _ _ _ _ ⟨hG2297, hA2298, Or.inl ⟨_, rfl, rfl, (fun q => (absurd (((congrFun (congrFun e2251 662) o0).trans up2_self).symm.trans (mo_af (oa_af h0 hA2250) hB2285 (mo_af (oa_af h0 hA2286) hB2290 ((congrFun (up2_ne (k := 662)) o0).symm.trans ((congrFun (congrFun e2299 662) o0).symm.trans q))))) (by decide))), rfl, rfl⟩⟩)
                                  · skip
                                    have h2302 : Rg 64 64 (hp_I S 656 o0) := rg_eq_l (rg_all (hp_I S 656 o0)) (⟨by decide, by decide⟩ : Rg 64 64 64) q2295
                                    refine tt_bipush (v := 63) dX10_readRest_668 rfl ?_
                                    refine tt_goto (tgt := 675) dX10_readRest_670 rfl ?_
                                    refine tt_iand dX10_readRest_675 ?_
                                    refine gt_pI (id := 659) (x := (x2293 &&& 63)) dX10_readRest_676 fl_10_120 rfl rfl h0 hA2291 rfl rfl rfl (gp_I hG2289) (by decide) (fun h => absurd h (by decide)) (fun h => absurd h (by decide)) (fun S2303 hG2304 hA2305 e2306 f2307 er2308 => ?_)
                                    refine tt_goto (tgt := 766) dX10_readRest_679 rfl ?_
                                    exact tt_vreturn dX10_readRest_766 rfl (hP _ _ _ _ ⟨hG2304, hA2305, Or.inl ⟨_, rfl, rfl, (fun q => (absurd (((congrFun (congrFun e2251 662) o0).trans up2_self).symm.trans (mo_af (oa_af h0 hA2250) hB2285 (mo_af (oa_af h0 hA2286) hB2290 ((congrFun (up2_ne (k := 662)) o0).symm.trans ((congrFun (congrFun e2306 662) o0).symm.trans q))))) (by decide))), rfl, rfl⟩⟩)
                              · skip
                                have h2309 : Rg 4 4 (hp_I S2248 674 o0) := rg_eq_l (gi_I (k := 674) hG2249 (oa_af h0 hA2250) 0 7) (⟨by decide, by decide⟩ : Rg 4 4 4) q2254
                                refine tt_bipush (v := 14) dX10_readRest_626 rfl ?_
                                refine tt_goto (tgt := 646) dX10_readRest_628 rfl ?_
                                refine tt_aload_n (j := 0) dX10_readRest_646 rfl ?_
                                refine gt_gI (id := 673) (v := (hp_I S2241 673 o0)) dX10_readRest_647 fl_10_100 rfl rfl h0 hA2250 ((congrFun (congrFun e2251 673) o0).trans ((congrFun (up2_ne (k := 673)) o0).trans rfl)) ?_
                                refine tt_iconst (v := (-1)) dX10_readRest_650 rfl ?_
                                refine gt_Vv (As := [.int 14, .int (hp_I S2241 673 o0), .int (-1)]) dX10_readRest_651 ca_X10_123 ⟨by decide, by decide⟩ h0 hA2250 rfl (Nat.le_of_ble_eq_true rfl) (Nat.le_of_ble_eq_true rfl) (by decide) (cs_X10_take hG2249 (oa_af h0 hA2250) (fun _ _ _ _ h => h)) rfl (fun _ h => nomatch h) (fun S2310 hx2314 hG2311 hB2312 hA2313 => ?_)
                                refine tt_aload_n (j := 0) dX10_readRest_654 rfl ?_
                                refine tt_aload_n (j := 0) dX10_readRest_655 rfl ?_
                                refine gt_VI (As := []) dX10_readRest_656 ca_X10_87 ⟨by decide, by decide⟩ h0 hA2313 rfl (Nat.le_of_ble_eq_true rfl) (Nat.le_of_ble_eq_true rfl) (by decide) (cs_X10_next hG2311 (oa_af h0 hA2313) (fun _ _ _ _ h => h)) rfl (fun _ h => nomatch h) (fun S2315 x2320 h2321 hx2319 hG2316 hB2317 hA2318 => ?_)
                                refine tt_aload_n (j := 0) dX10_readRest_659 rfl ?_
                                refine gt_gI (id := 656) (v := (hp_I S 656 o0)) dX10_readRest_660 fl_10_127 rfl rfl h0 hA2318 (i_af (k := 656) h0 hA2318) ?_
                                refine tt_bipush (v := 64) dX10_readRest_663 rfl ?_
                                refine tt_icmp_ne (tgt := 673) dX10_readRest_665 rfl (fun q2322 => ?_) (fun q2322 => ?_)
                                · skip
                                  refine tt_bipush (v := 31) dX10_readRest_673 rfl ?_
                                  refine tt_iand dX10_readRest_675 ?_
                                  refine gt_pI (id := 659) (x := (x2320 &&& 31)) dX10_readRest_676 fl_10_120 rfl rfl h0 hA2318 rfl rfl rfl (gp_I hG2316) (by decide) (fun h => absurd h (by decide)) (fun h => absurd h (by decide)) (fun S2323 hG2324 hA2325 e2326 f2327 er2328 => ?_)
                                  refine tt_goto (tgt := 766) dX10_readRest_679 rfl ?_
                                  exact tt_vreturn dX10_readRest_766 rfl (hP _ _ _ _ ⟨hG2324, hA2325, Or.inl ⟨_, rfl, rfl, (fun q => (absurd (((congrFun (congrFun e2251 662) o0).trans up2_self).symm.trans (mo_af (oa_af h0 hA2250) hB2312 (mo_af (oa_af h0 hA2313) hB2317 ((congrFun (up2_ne (k := 662)) o0).symm.trans ((congrFun (congrFun e2326 662) o0).symm.trans q))))) (by decide))), rfl, rfl⟩⟩)
                                · skip
                                  have h2329 : Rg 64 64 (hp_I S 656 o0) := rg_eq_l (rg_all (hp_I S 656 o0)) (⟨by decide, by decide⟩ : Rg 64 64 64) q2322
                                  refine tt_bipush (v := 63) dX10_readRest_668 rfl ?_
                                  refine tt_goto (tgt := 675) dX10_readRest_670 rfl ?_
                                  refine tt_iand dX10_readRest_675 ?_
                                  refine gt_pI (id := 659) (x := (x2320 &&& 63)) dX10_readRest_676 fl_10_120 rfl rfl h0 hA2318 rfl rfl rfl (gp_I hG2316) (by decide) (fun h => absurd h (by decide)) (fun h => absurd h (by decide)) (fun S2330 hG2331 hA2332 e2333 f2334 er2335 => ?_)
                                  refine tt_goto (tgt := 766) dX10_readRest_679 rfl ?_
                                  exact tt_vreturn dX10_readRest_766 rfl (hP _ _ _ _ ⟨hG2331, hA2332, Or.inl ⟨_, rfl, rfl, (fun q => (absurd (((congrFun (congrFun e2251 662) o0).trans up2_self).symm.trans (mo_af (oa_af h0 hA2250) hB2312 (mo_af (oa_af h0 hA2313) hB2317 ((congrFun (up2_ne (k := 662)) o0).symm.trans ((congrFun (congrFun e2333 662) o0).symm.trans q))))) (by decide))), rfl, rfl⟩⟩)
                            · skip
                              have h2336 : Rg 0 0 (hp_I S2241 662 o0) := rg_eq_l (gi_I (k := 662) hG2242 (oa_af h0 hA2244) 0 1) (⟨by decide, by decide⟩ : Rg 0 0 0) q2246
                              refine tt_aload_n (j := 0) dX10_readRest_584 rfl ?_
                              refine tt_getI (id := 674) dX10_readRest_585 fl_10_94 rfl rfl (ob_af h0 hA2244) ?_
                              refine tt_iconst (v := 4) dX10_readRest_588 rfl ?_
                              refine tt_icmp_eq (tgt := 613) dX10_readRest_589 rfl (fun q2337 => ?_) (fun q2337 => ?_)
                              · skip
                                have h2338 : Rg 4 4 (hp_I S2241 674 o0) := rg_eq_l (gi_I (k := 674) hG2242 (oa_af h0 hA2244) 0 7) (⟨by decide, by decide⟩ : Rg 4 4 4) q2337
                                refine tt_iconst (v := 0) dX10_readRest_613 rfl ?_
                                refine gt_pI (id := 662) (x := 0) dX10_readRest_614 fl_10_84 rfl rfl h0 hA2244 rfl rfl rfl (gp_Ir hG2242 (⟨by decide, by decide⟩ : Rg 0 0 0)) (by decide) (fun _ _ _ => (rg_eqc h2336)) (fun h => absurd h (by decide)) (fun S2339 hG2340 hA2341 e2342 f2343 er2344 => ?_)
                                refine tt_aload_n (j := 0) dX10_readRest_617 rfl ?_
                                refine tt_aload_n (j := 0) dX10_readRest_618 rfl ?_
                                refine gt_gI (id := 674) (v := (hp_I S2241 674 o0)) dX10_readRest_619 fl_10_94 rfl rfl h0 hA2341 ((congrFun (congrFun e2342 674) o0).trans ((congrFun (up2_ne (k := 674)) o0).trans rfl)) ?_
                                refine tt_iconst (v := 4) dX10_readRest_622 rfl ?_
                                refine tt_icmp_ne (tgt := 631) dX10_readRest_623 rfl (fun q2345 => ?_) (fun q2345 => ?_)
                                · skip
                                  have h2346 : Rg 5 4 (hp_I S2241 674 o0) := rg_ne_lo h2338 (⟨by decide, by decide⟩ : Rg 4 4 4) q2345
                                  exact rg_no h2346
                                · skip
                                  refine tt_bipush (v := 14) dX10_readRest_626 rfl ?_
                                  refine tt_goto (tgt := 646) dX10_readRest_628 rfl ?_
                                  refine tt_aload_n (j := 0) dX10_readRest_646 rfl ?_
                                  refine gt_gI (id := 673) (v := (hp_I S2241 673 o0)) dX10_readRest_647 fl_10_100 rfl rfl h0 hA2341 ((congrFun (congrFun e2342 673) o0).trans ((congrFun (up2_ne (k := 673)) o0).trans rfl)) ?_
                                  refine tt_iconst (v := (-1)) dX10_readRest_650 rfl ?_
                                  refine gt_Vv (As := [.int 14, .int (hp_I S2241 673 o0), .int (-1)]) dX10_readRest_651 ca_X10_123 ⟨by decide, by decide⟩ h0 hA2341 rfl (Nat.le_of_ble_eq_true rfl) (Nat.le_of_ble_eq_true rfl) (by decide) (cs_X10_take hG2340 (oa_af h0 hA2341) (fun _ _ _ _ h => h)) rfl (fun _ h => nomatch h) (fun S2347 hx2351 hG2348 hB2349 hA2350 => ?_)
                                  refine tt_aload_n (j := 0) dX10_readRest_654 rfl ?_
                                  refine tt_aload_n (j := 0) dX10_readRest_655 rfl ?_
                                  refine gt_VI (As := []) dX10_readRest_656 ca_X10_87 ⟨by decide, by decide⟩ h0 hA2350 rfl (Nat.le_of_ble_eq_true rfl) (Nat.le_of_ble_eq_true rfl) (by decide) (cs_X10_next hG2348 (oa_af h0 hA2350) (fun _ _ _ _ h => h)) rfl (fun _ h => nomatch h) (fun S2352 x2357 h2358 hx2356 hG2353 hB2354 hA2355 => ?_)
                                  refine tt_aload_n (j := 0) dX10_readRest_659 rfl ?_
                                  refine gt_gI (id := 656) (v := (hp_I S 656 o0)) dX10_readRest_660 fl_10_127 rfl rfl h0 hA2355 (i_af (k := 656) h0 hA2355) ?_
                                  refine tt_bipush (v := 64) dX10_readRest_663 rfl ?_
                                  refine tt_icmp_ne (tgt := 673) dX10_readRest_665 rfl (fun q2359 => ?_) (fun q2359 => ?_)
                                  · skip
                                    refine tt_bipush (v := 31) dX10_readRest_673 rfl ?_
                                    refine tt_iand dX10_readRest_675 ?_
                                    refine gt_pI (id := 659) (x := (x2357 &&& 31)) dX10_readRest_676 fl_10_120 rfl rfl h0 hA2355 rfl rfl rfl (gp_I hG2353) (by decide) (fun h => absurd h (by decide)) (fun h => absurd h (by decide)) (fun S2360 hG2361 hA2362 e2363 f2364 er2365 => ?_)
                                    refine tt_goto (tgt := 766) dX10_readRest_679 rfl ?_
                                    exact tt_vreturn dX10_readRest_766 rfl (hP _ _ _ _ ⟨hG2361, hA2362, Or.inl ⟨_, rfl, rfl, (fun q => ⟨(Or.inr (rg_cast ((congrFun (congrFun e2363 657) o0).trans ((congrFun (up2_ne (k := 657)) o0).trans ((i_af (k := 657) (oa_af h0 hA2350) hB2354).trans hx2351.2.1))) (rg_w (hx2245 (rg_eqc h2336))))), (rg_cast ((congrFun (congrFun e2363 658) o0).trans ((congrFun (up2_ne (k := 658)) o0).trans ((i_af (k := 658) (oa_af h0 hA2350) hB2354).trans hx2351.2.2))) (rg_w (⟨by decide, by decide⟩ : Rg (-1) (-1) (-1))))⟩), rfl, rfl⟩⟩)
                                  · skip
                                    have h2366 : Rg 64 64 (hp_I S 656 o0) := rg_eq_l (rg_all (hp_I S 656 o0)) (⟨by decide, by decide⟩ : Rg 64 64 64) q2359
                                    refine tt_bipush (v := 63) dX10_readRest_668 rfl ?_
                                    refine tt_goto (tgt := 675) dX10_readRest_670 rfl ?_
                                    refine tt_iand dX10_readRest_675 ?_
                                    refine gt_pI (id := 659) (x := (x2357 &&& 63)) dX10_readRest_676 fl_10_120 rfl rfl h0 hA2355 rfl rfl rfl (gp_I hG2353) (by decide) (fun h => absurd h (by decide)) (fun h => absurd h (by decide)) (fun S2367 hG2368 hA2369 e2370 f2371 er2372 => ?_)
                                    refine tt_goto (tgt := 766) dX10_readRest_679 rfl ?_
                                    exact tt_vreturn dX10_readRest_766 rfl (hP _ _ _ _ ⟨hG2368, hA2369, Or.inl ⟨_, rfl, rfl, (fun q => ⟨(Or.inr (rg_cast ((congrFun (congrFun e2370 657) o0).trans ((congrFun (up2_ne (k := 657)) o0).trans ((i_af (k := 657) (oa_af h0 hA2350) hB2354).trans hx2351.2.1))) (rg_w (hx2245 (rg_eqc h2336))))), (rg_cast ((congrFun (congrFun e2370 658) o0).trans ((congrFun (up2_ne (k := 658)) o0).trans ((i_af (k := 658) (oa_af h0 hA2350) hB2354).trans hx2351.2.2))) (rg_w (⟨by decide, by decide⟩ : Rg (-1) (-1) (-1))))⟩), rfl, rfl⟩⟩)
                              · skip
                                refine tt_aload_n (j := 0) dX10_readRest_592 rfl ?_
                                refine tt_getI (id := 674) dX10_readRest_593 fl_10_94 rfl rfl (ob_af h0 hA2244) ?_
                                refine tt_iconst (v := 5) dX10_readRest_596 rfl ?_
                                refine tt_icmp_eq (tgt := 613) dX10_readRest_597 rfl (fun q2373 => ?_) (fun q2373 => ?_)
                                · skip
                                  have h2374 : Rg 5 5 (hp_I S2241 674 o0) := rg_eq_l (gi_I (k := 674) hG2242 (oa_af h0 hA2244) 0 7) (⟨by decide, by decide⟩ : Rg 5 5 5) q2373
                                  refine tt_iconst (v := 0) dX10_readRest_613 rfl ?_
                                  refine gt_pI (id := 662) (x := 0) dX10_readRest_614 fl_10_84 rfl rfl h0 hA2244 rfl rfl rfl (gp_Ir hG2242 (⟨by decide, by decide⟩ : Rg 0 0 0)) (by decide) (fun _ _ _ => (rg_eqc h2336)) (fun h => absurd h (by decide)) (fun S2375 hG2376 hA2377 e2378 f2379 er2380 => ?_)
                                  refine tt_aload_n (j := 0) dX10_readRest_617 rfl ?_
                                  refine tt_aload_n (j := 0) dX10_readRest_618 rfl ?_
                                  refine gt_gI (id := 674) (v := (hp_I S2241 674 o0)) dX10_readRest_619 fl_10_94 rfl rfl h0 hA2377 ((congrFun (congrFun e2378 674) o0).trans ((congrFun (up2_ne (k := 674)) o0).trans rfl)) ?_
                                  refine tt_iconst (v := 4) dX10_readRest_622 rfl ?_
                                  refine tt_icmp_ne (tgt := 631) dX10_readRest_623 rfl (fun q2381 => ?_) (fun q2381 => ?_)
                                  · skip
                                    refine tt_aload_n (j := 0) dX10_readRest_631 rfl ?_
                                    refine gt_gI (id := 674) (v := (hp_I S2241 674 o0)) dX10_readRest_632 fl_10_94 rfl rfl h0 hA2377 ((congrFun (congrFun e2378 674) o0).trans ((congrFun (up2_ne (k := 674)) o0).trans rfl)) ?_
                                    refine tt_iconst (v := 5) dX10_readRest_635 rfl ?_
                                    refine tt_icmp_ne (tgt := 644) dX10_readRest_636 rfl (fun q2382 => ?_) (fun q2382 => ?_)
                                    · skip
                                      have h2383 : Rg 6 5 (hp_I S2241 674 o0) := rg_ne_lo h2374 (⟨by decide, by decide⟩ : Rg 5 5 5) q2382
                                      exact rg_no h2383
                                    · skip
                                      refine tt_bipush (v := 15) dX10_readRest_639 rfl ?_
                                      refine tt_goto (tgt := 646) dX10_readRest_641 rfl ?_
                                      refine tt_aload_n (j := 0) dX10_readRest_646 rfl ?_
                                      refine gt_gI (id := 673) (v := (hp_I S2241 673 o0)) dX10_readRest_647 fl_10_100 rfl rfl h0 hA2377 ((congrFun (congrFun e2378 673) o0).trans ((congrFun (up2_ne (k := 673)) o0).trans rfl)) ?_
                                      refine tt_iconst (v := (-1)) dX10_readRest_650 rfl ?_
                                      refine gt_Vv (As := [.int 15, .int (hp_I S2241 673 o0), .int (-1)]) dX10_readRest_651 ca_X10_123 ⟨by decide, by decide⟩ h0 hA2377 rfl (Nat.le_of_ble_eq_true rfl) (Nat.le_of_ble_eq_true rfl) (by decide) (cs_X10_take hG2376 (oa_af h0 hA2377) (fun _ _ _ _ h => h)) rfl (fun _ h => nomatch h) (fun S2384 hx2388 hG2385 hB2386 hA2387 => ?_)
                                      refine tt_aload_n (j := 0) dX10_readRest_654 rfl ?_
                                      refine tt_aload_n (j := 0) dX10_readRest_655 rfl ?_
                                      refine gt_VI (As := []) dX10_readRest_656 ca_X10_87 ⟨by decide, by decide⟩ h0 hA2387 rfl (Nat.le_of_ble_eq_true rfl) (Nat.le_of_ble_eq_true rfl) (by decide) (cs_X10_next hG2385 (oa_af h0 hA2387) (fun _ _ _ _ h => h)) rfl (fun _ h => nomatch h) (fun S2389 x2394 h2395 hx2393 hG2390 hB2391 hA2392 => ?_)
                                      refine tt_aload_n (j := 0) dX10_readRest_659 rfl ?_
                                      refine gt_gI (id := 656) (v := (hp_I S 656 o0)) dX10_readRest_660 fl_10_127 rfl rfl h0 hA2392 (i_af (k := 656) h0 hA2392) ?_
                                      refine tt_bipush (v := 64) dX10_readRest_663 rfl ?_
                                      refine tt_icmp_ne (tgt := 673) dX10_readRest_665 rfl (fun q2396 => ?_) (fun q2396 => ?_)
                                      · skip
                                        refine tt_bipush (v := 31) dX10_readRest_673 rfl ?_
                                        refine tt_iand dX10_readRest_675 ?_
                                        refine gt_pI (id := 659) (x := (x2394 &&& 31)) dX10_readRest_676 fl_10_120 rfl rfl h0 hA2392 rfl rfl rfl (gp_I hG2390) (by decide) (fun h => absurd h (by decide)) (fun h => absurd h (by decide)) (fun S2397 hG2398 hA2399 e2400 f2401 er2402 => ?_)
                                        refine tt_goto (tgt := 766) dX10_readRest_679 rfl ?_
                                        exact tt_vreturn dX10_readRest_766 rfl (hP _ _ _ _ ⟨hG2398, hA2399, Or.inl ⟨_, rfl, rfl, (fun q => ⟨(Or.inr (rg_cast ((congrFun (congrFun e2400 657) o0).trans ((congrFun (up2_ne (k := 657)) o0).trans ((i_af (k := 657) (oa_af h0 hA2387) hB2391).trans hx2388.2.1))) (rg_w (hx2245 (rg_eqc h2336))))), (rg_cast ((congrFun (congrFun e2400 658) o0).trans ((congrFun (up2_ne (k := 658)) o0).trans ((i_af (k := 658) (oa_af h0 hA2387) hB2391).trans hx2388.2.2))) (rg_w (⟨by decide, by decide⟩ : Rg (-1) (-1) (-1))))⟩), rfl, rfl⟩⟩)
                                      · skip
                                        have h2403 : Rg 64 64 (hp_I S 656 o0) := rg_eq_l (rg_all (hp_I S 656 o0)) (⟨by decide, by decide⟩ : Rg 64 64 64) q2396
                                        refine tt_bipush (v := 63) dX10_readRest_668 rfl ?_
                                        refine tt_goto (tgt := 675) dX10_readRest_670 rfl ?_
                                        refine tt_iand dX10_readRest_675 ?_
                                        refine gt_pI (id := 659) (x := (x2394 &&& 63)) dX10_readRest_676 fl_10_120 rfl rfl h0 hA2392 rfl rfl rfl (gp_I hG2390) (by decide) (fun h => absurd h (by decide)) (fun h => absurd h (by decide)) (fun S2404 hG2405 hA2406 e2407 f2408 er2409 => ?_)
                                        refine tt_goto (tgt := 766) dX10_readRest_679 rfl ?_
                                        exact tt_vreturn dX10_readRest_766 rfl (hP _ _ _ _ ⟨hG2405, hA2406, Or.inl ⟨_, rfl, rfl, (fun q => ⟨(Or.inr (rg_cast ((congrFun (congrFun e2407 657) o0).trans ((congrFun (up2_ne (k := 657)) o0).trans ((i_af (k := 657) (oa_af h0 hA2387) hB2391).trans hx2388.2.1))) (rg_w (hx2245 (rg_eqc h2336))))), (rg_cast ((congrFun (congrFun e2407 658) o0).trans ((congrFun (up2_ne (k := 658)) o0).trans ((i_af (k := 658) (oa_af h0 hA2387) hB2391).trans hx2388.2.2))) (rg_w (⟨by decide, by decide⟩ : Rg (-1) (-1) (-1))))⟩), rfl, rfl⟩⟩)
                                  · skip
                                    refine tt_bipush (v := 14) dX10_readRest_626 rfl ?_
                                    refine tt_goto (tgt := 646) dX10_readRest_628 rfl ?_
                                    refine tt_aload_n (j := 0) dX10_readRest_646 rfl ?_
                                    refine gt_gI (id := 673) (v := (hp_I S2241 673 o0)) dX10_readRest_647 fl_10_100 rfl rfl h0 hA2377 ((congrFun (congrFun e2378 673) o0).trans ((congrFun (up2_ne (k := 673)) o0).trans rfl)) ?_
                                    refine tt_iconst (v := (-1)) dX10_readRest_650 rfl ?_
                                    refine gt_Vv (As := [.int 14, .int (hp_I S2241 673 o0), .int (-1)]) dX10_readRest_651 ca_X10_123 ⟨by decide, by decide⟩ h0 hA2377 rfl (Nat.le_of_ble_eq_true rfl) (Nat.le_of_ble_eq_true rfl) (by decide) (cs_X10_take hG2376 (oa_af h0 hA2377) (fun _ _ _ _ h => h)) rfl (fun _ h => nomatch h) (fun S2410 hx2414 hG2411 hB2412 hA2413 => ?_)
                                    refine tt_aload_n (j := 0) dX10_readRest_654 rfl ?_
                                    refine tt_aload_n (j := 0) dX10_readRest_655 rfl ?_
                                    refine gt_VI (As := []) dX10_readRest_656 ca_X10_87 ⟨by decide, by decide⟩ h0 hA2413 rfl (Nat.le_of_ble_eq_true rfl) (Nat.le_of_ble_eq_true rfl) (by decide) (cs_X10_next hG2411 (oa_af h0 hA2413) (fun _ _ _ _ h => h)) rfl (fun _ h => nomatch h) (fun S2415 x2420 h2421 hx2419 hG2416 hB2417 hA2418 => ?_)
                                    refine tt_aload_n (j := 0) dX10_readRest_659 rfl ?_
                                    refine gt_gI (id := 656) (v := (hp_I S 656 o0)) dX10_readRest_660 fl_10_127 rfl rfl h0 hA2418 (i_af (k := 656) h0 hA2418) ?_
                                    refine tt_bipush (v := 64) dX10_readRest_663 rfl ?_
                                    refine tt_icmp_ne (tgt := 673) dX10_readRest_665 rfl (fun q2422 => ?_) (fun q2422 => ?_)
                                    · skip
                                      refine tt_bipush (v := 31) dX10_readRest_673 rfl ?_
                                      refine tt_iand dX10_readRest_675 ?_
                                      refine gt_pI (id := 659) (x := (x2420 &&& 31)) dX10_readRest_676 fl_10_120 rfl rfl h0 hA2418 rfl rfl rfl (gp_I hG2416) (by decide) (fun h => absurd h (by decide)) (fun h => absurd h (by decide)) (fun S2423 hG2424 hA2425 e2426 f2427 er2428 => ?_)
                                      refine tt_goto (tgt := 766) dX10_readRest_679 rfl ?_
                                      exact tt_vreturn dX10_readRest_766 rfl (hP _ _ _ _ ⟨hG2424, hA2425, Or.inl ⟨_, rfl, rfl, (fun q => ⟨(Or.inr (rg_cast ((congrFun (congrFun e2426 657) o0).trans ((congrFun (up2_ne (k := 657)) o0).trans ((i_af (k := 657) (oa_af h0 hA2413) hB2417).trans hx2414.2.1))) (rg_w (hx2245 (rg_eqc h2336))))), (rg_cast ((congrFun (congrFun e2426 658) o0).trans ((congrFun (up2_ne (k := 658)) o0).trans ((i_af (k := 658) (oa_af h0 hA2413) hB2417).trans hx2414.2.2))) (rg_w (⟨by decide, by decide⟩ : Rg (-1) (-1) (-1))))⟩), rfl, rfl⟩⟩)
                                    · skip
                                      have h2429 : Rg 64 64 (hp_I S 656 o0) := rg_eq_l (rg_all (hp_I S 656 o0)) (⟨by decide, by decide⟩ : Rg 64 64 64) q2422
                                      refine tt_bipush (v := 63) dX10_readRest_668 rfl ?_
                                      refine tt_goto (tgt := 675) dX10_readRest_670 rfl ?_
                                      refine tt_iand dX10_readRest_675 ?_
                                      refine gt_pI (id := 659) (x := (x2420 &&& 63)) dX10_readRest_676 fl_10_120 rfl rfl h0 hA2418 rfl rfl rfl (gp_I hG2416) (by decide) (fun h => absurd h (by decide)) (fun h => absurd h (by decide)) (fun S2430 hG2431 hA2432 e2433 f2434 er2435 => ?_)
                                      refine tt_goto (tgt := 766) dX10_readRest_679 rfl ?_
                                      exact tt_vreturn dX10_readRest_766 rfl (hP _ _ _ _ ⟨hG2431, hA2432, Or.inl ⟨_, rfl, rfl, (fun q => ⟨(Or.inr (rg_cast ((congrFun (congrFun e2433 657) o0).trans ((congrFun (up2_ne (k := 657)) o0).trans ((i_af (k := 657) (oa_af h0 hA2413) hB2417).trans hx2414.2.1))) (rg_w (hx2245 (rg_eqc h2336))))), (rg_cast ((congrFun (congrFun e2433 658) o0).trans ((congrFun (up2_ne (k := 658)) o0).trans ((i_af (k := 658) (oa_af h0 hA2413) hB2417).trans hx2414.2.2))) (rg_w (⟨by decide, by decide⟩ : Rg (-1) (-1) (-1))))⟩), rfl, rfl⟩⟩)
                                · skip
                                  refine tt_aload_n (j := 0) dX10_readRest_600 rfl ?_
                                  refine tt_getI (id := 674) dX10_readRest_601 fl_10_94 rfl rfl (ob_af h0 hA2244) ?_
                                  refine tt_bipush (v := 7) dX10_readRest_604 rfl ?_
                                  refine tt_icmp_eq (tgt := 613) dX10_readRest_606 rfl (fun q2436 => ?_) (fun q2436 => ?_)
                                  · skip
                                    have h2437 : Rg 7 7 (hp_I S2241 674 o0) := rg_eq_l (gi_I (k := 674) hG2242 (oa_af h0 hA2244) 0 7) (⟨by decide, by decide⟩ : Rg 7 7 7) q2436
                                    refine tt_iconst (v := 0) dX10_readRest_613 rfl ?_
                                    refine gt_pI (id := 662) (x := 0) dX10_readRest_614 fl_10_84 rfl rfl h0 hA2244 rfl rfl rfl (gp_Ir hG2242 (⟨by decide, by decide⟩ : Rg 0 0 0)) (by decide) (fun _ _ _ => (rg_eqc h2336)) (fun h => absurd h (by decide)) (fun S2438 hG2439 hA2440 e2441 f2442 er2443 => ?_)
                                    refine tt_aload_n (j := 0) dX10_readRest_617 rfl ?_
                                    refine tt_aload_n (j := 0) dX10_readRest_618 rfl ?_
                                    refine gt_gI (id := 674) (v := (hp_I S2241 674 o0)) dX10_readRest_619 fl_10_94 rfl rfl h0 hA2440 ((congrFun (congrFun e2441 674) o0).trans ((congrFun (up2_ne (k := 674)) o0).trans rfl)) ?_
                                    refine tt_iconst (v := 4) dX10_readRest_622 rfl ?_
                                    refine tt_icmp_ne (tgt := 631) dX10_readRest_623 rfl (fun q2444 => ?_) (fun q2444 => ?_)
                                    · skip
                                      refine tt_aload_n (j := 0) dX10_readRest_631 rfl ?_
                                      refine gt_gI (id := 674) (v := (hp_I S2241 674 o0)) dX10_readRest_632 fl_10_94 rfl rfl h0 hA2440 ((congrFun (congrFun e2441 674) o0).trans ((congrFun (up2_ne (k := 674)) o0).trans rfl)) ?_
                                      refine tt_iconst (v := 5) dX10_readRest_635 rfl ?_
                                      refine tt_icmp_ne (tgt := 644) dX10_readRest_636 rfl (fun q2445 => ?_) (fun q2445 => ?_)
                                      · skip
                                        refine tt_bipush (v := 16) dX10_readRest_644 rfl ?_
                                        refine tt_aload_n (j := 0) dX10_readRest_646 rfl ?_
                                        refine gt_gI (id := 673) (v := (hp_I S2241 673 o0)) dX10_readRest_647 fl_10_100 rfl rfl h0 hA2440 ((congrFun (congrFun e2441 673) o0).trans ((congrFun (up2_ne (k := 673)) o0).trans rfl)) ?_
                                        refine tt_iconst (v := (-1)) dX10_readRest_650 rfl ?_
                                        refine gt_Vv (As := [.int 16, .int (hp_I S2241 673 o0), .int (-1)]) dX10_readRest_651 ca_X10_123 ⟨by decide, by decide⟩ h0 hA2440 rfl (Nat.le_of_ble_eq_true rfl) (Nat.le_of_ble_eq_true rfl) (by decide) (cs_X10_take hG2439 (oa_af h0 hA2440) (fun _ _ _ _ h => h)) rfl (fun _ h => nomatch h) (fun S2446 hx2450 hG2447 hB2448 hA2449 => ?_)
                                        refine tt_aload_n (j := 0) dX10_readRest_654 rfl ?_
                                        refine tt_aload_n (j := 0) dX10_readRest_655 rfl ?_
                                        refine gt_VI (As := []) dX10_readRest_656 ca_X10_87 ⟨by decide, by decide⟩ h0 hA2449 rfl (Nat.le_of_ble_eq_true rfl) (Nat.le_of_ble_eq_true rfl) (by decide) (cs_X10_next hG2447 (oa_af h0 hA2449) (fun _ _ _ _ h => h)) rfl (fun _ h => nomatch h) (fun S2451 x2456 h2457 hx2455 hG2452 hB2453 hA2454 => ?_)
                                        refine tt_aload_n (j := 0) dX10_readRest_659 rfl ?_
                                        refine gt_gI (id := 656) (v := (hp_I S 656 o0)) dX10_readRest_660 fl_10_127 rfl rfl h0 hA2454 (i_af (k := 656) h0 hA2454) ?_
                                        refine tt_bipush (v := 64) dX10_readRest_663 rfl ?_
                                        refine tt_icmp_ne (tgt := 673) dX10_readRest_665 rfl (fun q2458 => ?_) (fun q2458 => ?_)
                                        · skip
                                          refine tt_bipush (v := 31) dX10_readRest_673 rfl ?_
                                          refine tt_iand dX10_readRest_675 ?_
                                          refine gt_pI (id := 659) (x := (x2456 &&& 31)) dX10_readRest_676 fl_10_120 rfl rfl h0 hA2454 rfl rfl rfl (gp_I hG2452) (by decide) (fun h => absurd h (by decide)) (fun h => absurd h (by decide)) (fun S2459 hG2460 hA2461 e2462 f2463 er2464 => ?_)
                                          refine tt_goto (tgt := 766) dX10_readRest_679 rfl ?_
                                          exact tt_vreturn dX10_readRest_766 rfl (hP _ _ _ _ ⟨hG2460, hA2461, Or.inl ⟨_, rfl, rfl, (fun q => ⟨(Or.inr (rg_cast ((congrFun (congrFun e2462 657) o0).trans ((congrFun (up2_ne (k := 657)) o0).trans ((i_af (k := 657) (oa_af h0 hA2449) hB2453).trans hx2450.2.1))) (rg_w (hx2245 (rg_eqc h2336))))), (rg_cast ((congrFun (congrFun e2462 658) o0).trans ((congrFun (up2_ne (k := 658)) o0).trans ((i_af (k := 658) (oa_af h0 hA2449) hB2453).trans hx2450.2.2))) (rg_w (⟨by decide, by decide⟩ : Rg (-1) (-1) (-1))))⟩), rfl, rfl⟩⟩)
                                        · skip
                                          have h2465 : Rg 64 64 (hp_I S 656 o0) := rg_eq_l (rg_all (hp_I S 656 o0)) (⟨by decide, by decide⟩ : Rg 64 64 64) q2458
                                          refine tt_bipush (v := 63) dX10_readRest_668 rfl ?_
                                          refine tt_goto (tgt := 675) dX10_readRest_670 rfl ?_
                                          refine tt_iand dX10_readRest_675 ?_
                                          refine gt_pI (id := 659) (x := (x2456 &&& 63)) dX10_readRest_676 fl_10_120 rfl rfl h0 hA2454 rfl rfl rfl (gp_I hG2452) (by decide) (fun h => absurd h (by decide)) (fun h => absurd h (by decide)) (fun S2466 hG2467 hA2468 e2469 f2470 er2471 => ?_)
                                          refine tt_goto (tgt := 766) dX10_readRest_679 rfl ?_
                                          exact tt_vreturn dX10_readRest_766 rfl (hP _ _ _ _ ⟨hG2467, hA2468, Or.inl ⟨_, rfl, rfl, (fun q => ⟨(Or.inr (rg_cast ((congrFun (congrFun e2469 657) o0).trans ((congrFun (up2_ne (k := 657)) o0).trans ((i_af (k := 657) (oa_af h0 hA2449) hB2453).trans hx2450.2.1))) (rg_w (hx2245 (rg_eqc h2336))))), (rg_cast ((congrFun (congrFun e2469 658) o0).trans ((congrFun (up2_ne (k := 658)) o0).trans ((i_af (k := 658) (oa_af h0 hA2449) hB2453).trans hx2450.2.2))) (rg_w (⟨by decide, by decide⟩ : Rg (-1) (-1) (-1))))⟩), rfl, rfl⟩⟩)
                                      · skip
                                        refine tt_bipush (v := 15) dX10_readRest_639 rfl ?_
                                        refine tt_goto (tgt := 646) dX10_readRest_641 rfl ?_
                                        refine tt_aload_n (j := 0) dX10_readRest_646 rfl ?_
                                        refine gt_gI (id := 673) (v := (hp_I S2241 673 o0)) dX10_readRest_647 fl_10_100 rfl rfl h0 hA2440 ((congrFun (congrFun e2441 673) o0).trans ((congrFun (up2_ne (k := 673)) o0).trans rfl)) ?_
                                        refine tt_iconst (v := (-1)) dX10_readRest_650 rfl ?_
                                        refine gt_Vv (As := [.int 15, .int (hp_I S2241 673 o0), .int (-1)]) dX10_readRest_651 ca_X10_123 ⟨by decide, by decide⟩ h0 hA2440 rfl (Nat.le_of_ble_eq_true rfl) (Nat.le_of_ble_eq_true rfl) (by decide) (cs_X10_take hG2439 (oa_af h0 hA2440) (fun _ _ _ _ h => h)) rfl (fun _ h => nomatch h) (fun S2472 hx2476 hG2473 hB2474 hA2475 => ?_)
                                        refine tt_aload_n (j := 0) dX10_readRest_654 rfl ?_
                                        refine tt_aload_n (j := 0) dX10_readRest_655 rfl ?_
                                        refine gt_VI (As := []) dX10_readRest_656 ca_X10_87 ⟨by decide, by decide⟩ h0 hA2475 rfl (Nat.le_of_ble_eq_true rfl) (Nat.le_of_ble_eq_true rfl) (by decide) (cs_X10_next hG2473 (oa_af h0 hA2475) (fun _ _ _ _ h => h)) rfl (fun _ h => nomatch h) (fun S2477 x2482 h2483 hx2481 hG2478 hB2479 hA2480 => ?_)
                                        refine tt_aload_n (j := 0) dX10_readRest_659 rfl ?_
                                        refine gt_gI (id := 656) (v := (hp_I S 656 o0)) dX10_readRest_660 fl_10_127 rfl rfl h0 hA2480 (i_af (k := 656) h0 hA2480) ?_
                                        refine tt_bipush (v := 64) dX10_readRest_663 rfl ?_
                                        refine tt_icmp_ne (tgt := 673) dX10_readRest_665 rfl (fun q2484 => ?_) (fun q2484 => ?_)
                                        · skip
                                          refine tt_bipush (v := 31) dX10_readRest_673 rfl ?_
                                          refine tt_iand dX10_readRest_675 ?_
                                          refine gt_pI (id := 659) (x := (x2482 &&& 31)) dX10_readRest_676 fl_10_120 rfl rfl h0 hA2480 rfl rfl rfl (gp_I hG2478) (by decide) (fun h => absurd h (by decide)) (fun h => absurd h (by decide)) (fun S2485 hG2486 hA2487 e2488 f2489 er2490 => ?_)
                                          refine tt_goto (tgt := 766) dX10_readRest_679 rfl ?_
                                          exact tt_vreturn dX10_readRest_766 rfl (hP _ _ _ _ ⟨hG2486, hA2487, Or.inl ⟨_, rfl, rfl, (fun q => ⟨(Or.inr (rg_cast ((congrFun (congrFun e2488 657) o0).trans ((congrFun (up2_ne (k := 657)) o0).trans ((i_af (k := 657) (oa_af h0 hA2475) hB2479).trans hx2476.2.1))) (rg_w (hx2245 (rg_eqc h2336))))), (rg_cast ((congrFun (congrFun e2488 658) o0).trans ((congrFun (up2_ne (k := 658)) o0).trans ((i_af (k := 658) (oa_af h0 hA2475) hB2479).trans hx2476.2.2))) (rg_w (⟨by decide, by decide⟩ : Rg (-1) (-1) (-1))))⟩), rfl, rfl⟩⟩)
                                        · skip
                                          have h2491 : Rg 64 64 (hp_I S 656 o0) := rg_eq_l (rg_all (hp_I S 656 o0)) (⟨by decide, by decide⟩ : Rg 64 64 64) q2484
                                          refine tt_bipush (v := 63) dX10_readRest_668 rfl ?_
                                          refine tt_goto (tgt := 675) dX10_readRest_670 rfl ?_
                                          refine tt_iand dX10_readRest_675 ?_
                                          refine gt_pI (id := 659) (x := (x2482 &&& 63)) dX10_readRest_676 fl_10_120 rfl rfl h0 hA2480 rfl rfl rfl (gp_I hG2478) (by decide) (fun h => absurd h (by decide)) (fun h => absurd h (by decide)) (fun S2492 hG2493 hA2494 e2495 f2496 er2497 => ?_)
                                          refine tt_goto (tgt := 766) dX10_readRest_679 rfl ?_
                                          exact tt_vreturn dX10_readRest_766 rfl (hP _ _ _ _ ⟨hG2493, hA2494, Or.inl ⟨_, rfl, rfl, (fun q => ⟨(Or.inr (rg_cast ((congrFun (congrFun e2495 657) o0).trans ((congrFun (up2_ne (k := 657)) o0).trans ((i_af (k := 657) (oa_af h0 hA2475) hB2479).trans hx2476.2.1))) (rg_w (hx2245 (rg_eqc h2336))))), (rg_cast ((congrFun (congrFun e2495 658) o0).trans ((congrFun (up2_ne (k := 658)) o0).trans ((i_af (k := 658) (oa_af h0 hA2475) hB2479).trans hx2476.2.2))) (rg_w (⟨by decide, by decide⟩ : Rg (-1) (-1) (-1))))⟩), rfl, rfl⟩⟩)
                                    · skip
                                      refine tt_bipush (v := 14) dX10_readRest_626 rfl ?_
                                      refine tt_goto (tgt := 646) dX10_readRest_628 rfl ?_
                                      refine tt_aload_n (j := 0) dX10_readRest_646 rfl ?_
                                      refine gt_gI (id := 673) (v := (hp_I S2241 673 o0)) dX10_readRest_647 fl_10_100 rfl rfl h0 hA2440 ((congrFun (congrFun e2441 673) o0).trans ((congrFun (up2_ne (k := 673)) o0).trans rfl)) ?_
                                      refine tt_iconst (v := (-1)) dX10_readRest_650 rfl ?_
                                      refine gt_Vv (As := [.int 14, .int (hp_I S2241 673 o0), .int (-1)]) dX10_readRest_651 ca_X10_123 ⟨by decide, by decide⟩ h0 hA2440 rfl (Nat.le_of_ble_eq_true rfl) (Nat.le_of_ble_eq_true rfl) (by decide) (cs_X10_take hG2439 (oa_af h0 hA2440) (fun _ _ _ _ h => h)) rfl (fun _ h => nomatch h) (fun S2498 hx2502 hG2499 hB2500 hA2501 => ?_)
                                      refine tt_aload_n (j := 0) dX10_readRest_654 rfl ?_
                                      refine tt_aload_n (j := 0) dX10_readRest_655 rfl ?_
                                      refine gt_VI (As := []) dX10_readRest_656 ca_X10_87 ⟨by decide, by decide⟩ h0 hA2501 rfl (Nat.le_of_ble_eq_true rfl) (Nat.le_of_ble_eq_true rfl) (by decide) (cs_X10_next hG2499 (oa_af h0 hA2501) (fun _ _ _ _ h => h)) rfl (fun _ h => nomatch h) (fun S2503 x2508 h2509 hx2507 hG2504 hB2505 hA2506 => ?_)
                                      refine tt_aload_n (j := 0) dX10_readRest_659 rfl ?_
                                      refine gt_gI (id := 656) (v := (hp_I S 656 o0)) dX10_readRest_660 fl_10_127 rfl rfl h0 hA2506 (i_af (k := 656) h0 hA2506) ?_
                                      refine tt_bipush (v := 64) dX10_readRest_663 rfl ?_
                                      refine tt_icmp_ne (tgt := 673) dX10_readRest_665 rfl (fun q2510 => ?_) (fun q2510 => ?_)
                                      · skip
                                        refine tt_bipush (v := 31) dX10_readRest_673 rfl ?_
                                        refine tt_iand dX10_readRest_675 ?_
                                        refine gt_pI (id := 659) (x := (x2508 &&& 31)) dX10_readRest_676 fl_10_120 rfl rfl h0 hA2506 rfl rfl rfl (gp_I hG2504) (by decide) (fun h => absurd h (by decide)) (fun h => absurd h (by decide)) (fun S2511 hG2512 hA2513 e2514 f2515 er2516 => ?_)
                                        refine tt_goto (tgt := 766) dX10_readRest_679 rfl ?_
                                        exact tt_vreturn dX10_readRest_766 rfl (hP _ _ _ _ ⟨hG2512, hA2513, Or.inl ⟨_, rfl, rfl, (fun q => ⟨(Or.inr (rg_cast ((congrFun (congrFun e2514 657) o0).trans ((congrFun (up2_ne (k := 657)) o0).trans ((i_af (k := 657) (oa_af h0 hA2501) hB2505).trans hx2502.2.1))) (rg_w (hx2245 (rg_eqc h2336))))), (rg_cast ((congrFun (congrFun e2514 658) o0).trans ((congrFun (up2_ne (k := 658)) o0).trans ((i_af (k := 658) (oa_af h0 hA2501) hB2505).trans hx2502.2.2))) (rg_w (⟨by decide, by decide⟩ : Rg (-1) (-1) (-1))))⟩), rfl, rfl⟩⟩)
                                      · skip
                                        have h2517 : Rg 64 64 (hp_I S 656 o0) := rg_eq_l (rg_all (hp_I S 656 o0)) (⟨by decide, by decide⟩ : Rg 64 64 64) q2510
                                        refine tt_bipush (v := 63) dX10_readRest_668 rfl ?_
                                        refine tt_goto (tgt := 675) dX10_readRest_670 rfl ?_
                                        refine tt_iand dX10_readRest_675 ?_
                                        refine gt_pI (id := 659) (x := (x2508 &&& 63)) dX10_readRest_676 fl_10_120 rfl rfl h0 hA2506 rfl rfl rfl (gp_I hG2504) (by decide) (fun h => absurd h (by decide)) (fun h => absurd h (by decide)) (fun S2518 hG2519 hA2520 e2521 f2522 er2523 => ?_)
                                        refine tt_goto (tgt := 766) dX10_readRest_679 rfl ?_
                                        exact tt_vreturn dX10_readRest_766 rfl (hP _ _ _ _ ⟨hG2519, hA2520, Or.inl ⟨_, rfl, rfl, (fun q => ⟨(Or.inr (rg_cast ((congrFun (congrFun e2521 657) o0).trans ((congrFun (up2_ne (k := 657)) o0).trans ((i_af (k := 657) (oa_af h0 hA2501) hB2505).trans hx2502.2.1))) (rg_w (hx2245 (rg_eqc h2336))))), (rg_cast ((congrFun (congrFun e2521 658) o0).trans ((congrFun (up2_ne (k := 658)) o0).trans ((i_af (k := 658) (oa_af h0 hA2501) hB2505).trans hx2502.2.2))) (rg_w (⟨by decide, by decide⟩ : Rg (-1) (-1) (-1))))⟩), rfl, rfl⟩⟩)
                                  · skip
                                    have h2524 : Rg 0 6 (hp_I S2241 674 o0) := rg_ne_hi (gi_I (k := 674) hG2242 (oa_af h0 hA2244) 0 7) (⟨by decide, by decide⟩ : Rg 7 7 7) q2436
                                    refine tt_iconst (v := 1) dX10_readRest_609 rfl ?_
                                    refine tt_goto (tgt := 614) dX10_readRest_610 rfl ?_
                                    refine gt_pI (id := 662) (x := 1) dX10_readRest_614 fl_10_84 rfl rfl h0 hA2244 rfl rfl rfl (gp_Ir hG2242 (⟨by decide, by decide⟩ : Rg 1 1 1)) (by decide) (fun _ _ q => absurd q (by decide)) (fun h => absurd h (by decide)) (fun S2525 hG2526 hA2527 e2528 f2529 er2530 => ?_)
                                    refine tt_aload_n (j := 0) dX10_readRest_617 rfl ?_
                                    refine tt_aload_n (j := 0) dX10_readRest_618 rfl ?_
                                    refine gt_gI (id := 674) (v := (hp_I S2241 674 o0)) dX10_readRest_619 fl_10_94 rfl rfl h0 hA2527 ((congrFun (congrFun e2528 674) o0).trans ((congrFun (up2_ne (k := 674)) o0).trans rfl)) ?_
                                    refine tt_iconst (v := 4) dX10_readRest_622 rfl ?_
                                    refine tt_icmp_ne (tgt := 631) dX10_readRest_623 rfl (fun q2531 => ?_) (fun q2531 => ?_)
                                    · skip
                                      refine tt_aload_n (j := 0) dX10_readRest_631 rfl ?_
                                      refine gt_gI (id := 674) (v := (hp_I S2241 674 o0)) dX10_readRest_632 fl_10_94 rfl rfl h0 hA2527 ((congrFun (congrFun e2528 674) o0).trans ((congrFun (up2_ne (k := 674)) o0).trans rfl)) ?_
                                      refine tt_iconst (v := 5) dX10_readRest_635 rfl ?_
                                      refine tt_icmp_ne (tgt := 644) dX10_readRest_636 rfl (fun q2532 => ?_) (fun q2532 => ?_)
                                      · skip
                                        refine tt_bipush (v := 16) dX10_readRest_644 rfl ?_
                                        refine tt_aload_n (j := 0) dX10_readRest_646 rfl ?_
                                        refine gt_gI (id := 673) (v := (hp_I S2241 673 o0)) dX10_readRest_647 fl_10_100 rfl rfl h0 hA2527 ((congrFun (congrFun e2528 673) o0).trans ((congrFun (up2_ne (k := 673)) o0).trans rfl)) ?_
                                        refine tt_iconst (v := (-1)) dX10_readRest_650 rfl ?_
                                        refine gt_Vv (As := [.int 16, .int (hp_I S2241 673 o0), .int (-1)]) dX10_readRest_651 ca_X10_123 ⟨by decide, by decide⟩ h0 hA2527 rfl (Nat.le_of_ble_eq_true rfl) (Nat.le_of_ble_eq_true rfl) (by decide) (cs_X10_take hG2526 (oa_af h0 hA2527) (fun _ _ _ _ h => h)) rfl (fun _ h => nomatch h) (fun S2533 hx2537 hG2534 hB2535 hA2536 => ?_)
                                        refine tt_aload_n (j := 0) dX10_readRest_654 rfl ?_
                                        refine tt_aload_n (j := 0) dX10_readRest_655 rfl ?_
                                        refine gt_VI (As := []) dX10_readRest_656 ca_X10_87 ⟨by decide, by decide⟩ h0 hA2536 rfl (Nat.le_of_ble_eq_true rfl) (Nat.le_of_ble_eq_true rfl) (by decide) (cs_X10_next hG2534 (oa_af h0 hA2536) (fun _ _ _ _ h => h)) rfl (fun _ h => nomatch h) (fun S2538 x2543 h2544 hx2542 hG2539 hB2540 hA2541 => ?_)
                                        refine tt_aload_n (j := 0) dX10_readRest_659 rfl ?_
                                        refine gt_gI (id := 656) (v := (hp_I S 656 o0)) dX10_readRest_660 fl_10_127 rfl rfl h0 hA2541 (i_af (k := 656) h0 hA2541) ?_
                                        refine tt_bipush (v := 64) dX10_readRest_663 rfl ?_
                                        refine tt_icmp_ne (tgt := 673) dX10_readRest_665 rfl (fun q2545 => ?_) (fun q2545 => ?_)
                                        · skip
                                          refine tt_bipush (v := 31) dX10_readRest_673 rfl ?_
                                          refine tt_iand dX10_readRest_675 ?_
                                          refine gt_pI (id := 659) (x := (x2543 &&& 31)) dX10_readRest_676 fl_10_120 rfl rfl h0 hA2541 rfl rfl rfl (gp_I hG2539) (by decide) (fun h => absurd h (by decide)) (fun h => absurd h (by decide)) (fun S2546 hG2547 hA2548 e2549 f2550 er2551 => ?_)
                                          refine tt_goto (tgt := 766) dX10_readRest_679 rfl ?_
                                          exact tt_vreturn dX10_readRest_766 rfl (hP _ _ _ _ ⟨hG2547, hA2548, Or.inl ⟨_, rfl, rfl, (fun q => (absurd (((congrFun (congrFun e2528 662) o0).trans up2_self).symm.trans (mo_af (oa_af h0 hA2527) hB2535 (mo_af (oa_af h0 hA2536) hB2540 ((congrFun (up2_ne (k := 662)) o0).symm.trans ((congrFun (congrFun e2549 662) o0).symm.trans q))))) (by decide))), rfl, rfl⟩⟩)
                                        · skip
                                          have h2552 : Rg 64 64 (hp_I S 656 o0) := rg_eq_l (rg_all (hp_I S 656 o0)) (⟨by decide, by decide⟩ : Rg 64 64 64) q2545
                                          refine tt_bipush (v := 63) dX10_readRest_668 rfl ?_
                                          refine tt_goto (tgt := 675) dX10_readRest_670 rfl ?_
                                          refine tt_iand dX10_readRest_675 ?_
                                          refine gt_pI (id := 659) (x := (x2543 &&& 63)) dX10_readRest_676 fl_10_120 rfl rfl h0 hA2541 rfl rfl rfl (gp_I hG2539) (by decide) (fun h => absurd h (by decide)) (fun h => absurd h (by decide)) (fun S2553 hG2554 hA2555 e2556 f2557 er2558 => ?_)
                                          refine tt_goto (tgt := 766) dX10_readRest_679 rfl ?_
                                          exact tt_vreturn dX10_readRest_766 rfl (hP _ _ _ _ ⟨hG2554, hA2555, Or.inl ⟨_, rfl, rfl, (fun q => (absurd (((congrFun (congrFun e2528 662) o0).trans up2_self).symm.trans (mo_af (oa_af h0 hA2527) hB2535 (mo_af (oa_af h0 hA2536) hB2540 ((congrFun (up2_ne (k := 662)) o0).symm.trans ((congrFun (congrFun e2556 662) o0).symm.trans q))))) (by decide))), rfl, rfl⟩⟩)
                                      · skip
                                        have h2559 : Rg 5 5 (hp_I S2241 674 o0) := rg_eq_l h2524 (⟨by decide, by decide⟩ : Rg 5 5 5) q2532
                                        refine tt_bipush (v := 15) dX10_readRest_639 rfl ?_
                                        refine tt_goto (tgt := 646) dX10_readRest_641 rfl ?_
                                        refine tt_aload_n (j := 0) dX10_readRest_646 rfl ?_
                                        refine gt_gI (id := 673) (v := (hp_I S2241 673 o0)) dX10_readRest_647 fl_10_100 rfl rfl h0 hA2527 ((congrFun (congrFun e2528 673) o0).trans ((congrFun (up2_ne (k := 673)) o0).trans rfl)) ?_
                                        refine tt_iconst (v := (-1)) dX10_readRest_650 rfl ?_
                                        refine gt_Vv (As := [.int 15, .int (hp_I S2241 673 o0), .int (-1)]) dX10_readRest_651 ca_X10_123 ⟨by decide, by decide⟩ h0 hA2527 rfl (Nat.le_of_ble_eq_true rfl) (Nat.le_of_ble_eq_true rfl) (by decide) (cs_X10_take hG2526 (oa_af h0 hA2527) (fun _ _ _ _ h => h)) rfl (fun _ h => nomatch h) (fun S2560 hx2564 hG2561 hB2562 hA2563 => ?_)
                                        refine tt_aload_n (j := 0) dX10_readRest_654 rfl ?_
                                        refine tt_aload_n (j := 0) dX10_readRest_655 rfl ?_
                                        refine gt_VI (As := []) dX10_readRest_656 ca_X10_87 ⟨by decide, by decide⟩ h0 hA2563 rfl (Nat.le_of_ble_eq_true rfl) (Nat.le_of_ble_eq_true rfl) (by decide) (cs_X10_next hG2561 (oa_af h0 hA2563) (fun _ _ _ _ h => h)) rfl (fun _ h => nomatch h) (fun S2565 x2570 h2571 hx2569 hG2566 hB2567 hA2568 => ?_)
                                        refine tt_aload_n (j := 0) dX10_readRest_659 rfl ?_
                                        refine gt_gI (id := 656) (v := (hp_I S 656 o0)) dX10_readRest_660 fl_10_127 rfl rfl h0 hA2568 (i_af (k := 656) h0 hA2568) ?_
                                        refine tt_bipush (v := 64) dX10_readRest_663 rfl ?_
                                        refine tt_icmp_ne (tgt := 673) dX10_readRest_665 rfl (fun q2572 => ?_) (fun q2572 => ?_)
                                        · skip
                                          refine tt_bipush (v := 31) dX10_readRest_673 rfl ?_
                                          refine tt_iand dX10_readRest_675 ?_
                                          refine gt_pI (id := 659) (x := (x2570 &&& 31)) dX10_readRest_676 fl_10_120 rfl rfl h0 hA2568 rfl rfl rfl (gp_I hG2566) (by decide) (fun h => absurd h (by decide)) (fun h => absurd h (by decide)) (fun S2573 hG2574 hA2575 e2576 f2577 er2578 => ?_)
                                          refine tt_goto (tgt := 766) dX10_readRest_679 rfl ?_
                                          exact tt_vreturn dX10_readRest_766 rfl (hP _ _ _ _ ⟨hG2574, hA2575, Or.inl ⟨_, rfl, rfl, (fun q => (absurd (((congrFun (congrFun e2528 662) o0).trans up2_self).symm.trans (mo_af (oa_af h0 hA2527) hB2562 (mo_af (oa_af h0 hA2563) hB2567 ((congrFun (up2_ne (k := 662)) o0).symm.trans ((congrFun (congrFun e2576 662) o0).symm.trans q))))) (by decide))), rfl, rfl⟩⟩)
                                        · skip
                                          have h2579 : Rg 64 64 (hp_I S 656 o0) := rg_eq_l (rg_all (hp_I S 656 o0)) (⟨by decide, by decide⟩ : Rg 64 64 64) q2572
                                          refine tt_bipush (v := 63) dX10_readRest_668 rfl ?_
                                          refine tt_goto (tgt := 675) dX10_readRest_670 rfl ?_
                                          refine tt_iand dX10_readRest_675 ?_
                                          refine gt_pI (id := 659) (x := (x2570 &&& 63)) dX10_readRest_676 fl_10_120 rfl rfl h0 hA2568 rfl rfl rfl (gp_I hG2566) (by decide) (fun h => absurd h (by decide)) (fun h => absurd h (by decide)) (fun S2580 hG2581 hA2582 e2583 f2584 er2585 => ?_)
                                          refine tt_goto (tgt := 766) dX10_readRest_679 rfl ?_
                                          exact tt_vreturn dX10_readRest_766 rfl (hP _ _ _ _ ⟨hG2581, hA2582, Or.inl ⟨_, rfl, rfl, (fun q => (absurd (((congrFun (congrFun e2528 662) o0).trans up2_self).symm.trans (mo_af (oa_af h0 hA2527) hB2562 (mo_af (oa_af h0 hA2563) hB2567 ((congrFun (up2_ne (k := 662)) o0).symm.trans ((congrFun (congrFun e2583 662) o0).symm.trans q))))) (by decide))), rfl, rfl⟩⟩)
                                    · skip
                                      have h2586 : Rg 4 4 (hp_I S2241 674 o0) := rg_eq_l h2524 (⟨by decide, by decide⟩ : Rg 4 4 4) q2531
                                      refine tt_bipush (v := 14) dX10_readRest_626 rfl ?_
                                      refine tt_goto (tgt := 646) dX10_readRest_628 rfl ?_
                                      refine tt_aload_n (j := 0) dX10_readRest_646 rfl ?_
                                      refine gt_gI (id := 673) (v := (hp_I S2241 673 o0)) dX10_readRest_647 fl_10_100 rfl rfl h0 hA2527 ((congrFun (congrFun e2528 673) o0).trans ((congrFun (up2_ne (k := 673)) o0).trans rfl)) ?_
                                      refine tt_iconst (v := (-1)) dX10_readRest_650 rfl ?_
                                      refine gt_Vv (As := [.int 14, .int (hp_I S2241 673 o0), .int (-1)]) dX10_readRest_651 ca_X10_123 ⟨by decide, by decide⟩ h0 hA2527 rfl (Nat.le_of_ble_eq_true rfl) (Nat.le_of_ble_eq_true rfl) (by decide) (cs_X10_take hG2526 (oa_af h0 hA2527) (fun _ _ _ _ h => h)) rfl (fun _ h => nomatch h) (fun S2587 hx2591 hG2588 hB2589 hA2590 => ?_)
                                      refine tt_aload_n (j := 0) dX10_readRest_654 rfl ?_
                                      refine tt_aload_n (j := 0) dX10_readRest_655 rfl ?_
                                      refine gt_VI (As := []) dX10_readRest_656 ca_X10_87 ⟨by decide, by decide⟩ h0 hA2590 rfl (Nat.le_of_ble_eq_true rfl) (Nat.le_of_ble_eq_true rfl) (by decide) (cs_X10_next hG2588 (oa_af h0 hA2590) (fun _ _ _ _ h => h)) rfl (fun _ h => nomatch h) (fun S2592 x2597 h2598 hx2596 hG2593 hB2594 hA2595 => ?_)
                                      refine tt_aload_n (j := 0) dX10_readRest_659 rfl ?_
                                      refine gt_gI (id := 656) (v := (hp_I S 656 o0)) dX10_readRest_660 fl_10_127 rfl rfl h0 hA2595 (i_af (k := 656) h0 hA2595) ?_
                                      refine tt_bipush (v := 64) dX10_readRest_663 rfl ?_
                                      refine tt_icmp_ne (tgt := 673) dX10_readRest_665 rfl (fun q2599 => ?_) (fun q2599 => ?_)
                                      · skip
                                        refine tt_bipush (v := 31) dX10_readRest_673 rfl ?_
                                        refine tt_iand dX10_readRest_675 ?_
                                        refine gt_pI (id := 659) (x := (x2597 &&& 31)) dX10_readRest_676 fl_10_120 rfl rfl h0 hA2595 rfl rfl rfl (gp_I hG2593) (by decide) (fun h => absurd h (by decide)) (fun h => absurd h (by decide)) (fun S2600 hG2601 hA2602 e2603 f2604 er2605 => ?_)
                                        refine tt_goto (tgt := 766) dX10_readRest_679 rfl ?_
                                        exact tt_vreturn dX10_readRest_766 rfl (hP _ _ _ _ ⟨hG2601, hA2602, Or.inl ⟨_, rfl, rfl, (fun q => (absurd (((congrFun (congrFun e2528 662) o0).trans up2_self).symm.trans (mo_af (oa_af h0 hA2527) hB2589 (mo_af (oa_af h0 hA2590) hB2594 ((congrFun (up2_ne (k := 662)) o0).symm.trans ((congrFun (congrFun e2603 662) o0).symm.trans q))))) (by decide))), rfl, rfl⟩⟩)
                                      · skip
                                        have h2606 : Rg 64 64 (hp_I S 656 o0) := rg_eq_l (rg_all (hp_I S 656 o0)) (⟨by decide, by decide⟩ : Rg 64 64 64) q2599
                                        refine tt_bipush (v := 63) dX10_readRest_668 rfl ?_
                                        refine tt_goto (tgt := 675) dX10_readRest_670 rfl ?_
                                        refine tt_iand dX10_readRest_675 ?_
                                        refine gt_pI (id := 659) (x := (x2597 &&& 63)) dX10_readRest_676 fl_10_120 rfl rfl h0 hA2595 rfl rfl rfl (gp_I hG2593) (by decide) (fun h => absurd h (by decide)) (fun h => absurd h (by decide)) (fun S2607 hG2608 hA2609 e2610 f2611 er2612 => ?_)
                                        refine tt_goto (tgt := 766) dX10_readRest_679 rfl ?_
                                        exact tt_vreturn dX10_readRest_766 rfl (hP _ _ _ _ ⟨hG2608, hA2609, Or.inl ⟨_, rfl, rfl, (fun q => (absurd (((congrFun (congrFun e2528 662) o0).trans up2_self).symm.trans (mo_af (oa_af h0 hA2527) hB2589 (mo_af (oa_af h0 hA2590) hB2594 ((congrFun (up2_ne (k := 662)) o0).symm.trans ((congrFun (congrFun e2610 662) o0).symm.trans q))))) (by decide))), rfl, rfl⟩⟩)
                        · skip
                          have h2613 : Rg 184 63 184 := rg_le_l (⟨by decide, by decide⟩ : Rg 184 184 184) h1862 (nlt_le q2163)
                          have h2614 : Rg 184 63 x1 := rg_le_r (⟨by decide, by decide⟩ : Rg 184 184 184) h1862 (nlt_le q2163)
                          exact rg_no h2613
                      · skip
                        refine tt_aload_n (j := 0) dX10_readRest_448 rfl ?_
                        refine tt_iload_n (j := 2) dX10_readRest_449 rfl ?_
                        refine gt_Vv (As := [.int x2]) dX10_readRest_450 ca_X10_137 ⟨by decide, by decide⟩ h0 hA rfl (Nat.le_of_ble_eq_true rfl) (Nat.le_of_ble_eq_true rfl) (by decide) (cs_X10_readPlaces hG (oa_af h0 hA) (fun _ _ _ _ h => h)) rfl (fun _ h => nomatch h) (fun S2615 hx2619 hG2616 hB2617 hA2618 => ?_)
                        refine tt_aload_n (j := 0) dX10_readRest_453 rfl ?_
                        refine tt_aload_n (j := 0) dX10_readRest_454 rfl ?_
                        refine tt_getI (id := 662) dX10_readRest_455 fl_10_84 rfl rfl (ob_af h0 hA2618) ?_
                        refine tt_if_ne (tgt := 468) dX10_readRest_458 rfl (fun q2620 => ?_) (fun q2620 => ?_)
                        · skip
                          have h2621 : Rg 1 1 (hp_I S2615 662 o0) := rg_ne_lo (gi_I (k := 662) hG2616 (oa_af h0 hA2618) 0 1) (⟨by decide, by decide⟩ : Rg 0 0 0) q2620
                          refine tt_iconst (v := 1) dX10_readRest_468 rfl ?_
                          refine tt_goto (tgt := 473) dX10_readRest_469 rfl ?_
                          refine gt_pI (id := 662) (x := 1) dX10_readRest_473 fl_10_84 rfl rfl h0 hA2618 rfl rfl rfl (gp_Ir hG2616 (⟨by decide, by decide⟩ : Rg 1 1 1)) (by decide) (fun _ _ q => absurd q (by decide)) (fun h => absurd h (by decide)) (fun S2622 hG2623 hA2624 e2625 f2626 er2627 => ?_)
                          refine tt_aload_n (j := 0) dX10_readRest_476 rfl ?_
                          refine tt_bipush (v := 13) dX10_readRest_477 rfl ?_
                          refine tt_aload_n (j := 0) dX10_readRest_479 rfl ?_
                          refine gt_gI (id := 673) (v := (hp_I S2615 673 o0)) dX10_readRest_480 fl_10_100 rfl rfl h0 hA2624 ((congrFun (congrFun e2625 673) o0).trans ((congrFun (up2_ne (k := 673)) o0).trans rfl)) ?_
                          refine tt_iconst (v := (-1)) dX10_readRest_483 rfl ?_
                          refine gt_Vv (As := [.int 13, .int (hp_I S2615 673 o0), .int (-1)]) dX10_readRest_484 ca_X10_123 ⟨by decide, by decide⟩ h0 hA2624 rfl (Nat.le_of_ble_eq_true rfl) (Nat.le_of_ble_eq_true rfl) (by decide) (cs_X10_take hG2623 (oa_af h0 hA2624) (fun _ _ _ _ h => h)) rfl (fun _ h => nomatch h) (fun S2628 hx2632 hG2629 hB2630 hA2631 => ?_)
                          refine tt_aload_n (j := 0) dX10_readRest_487 rfl ?_
                          refine tt_aload_n (j := 0) dX10_readRest_488 rfl ?_
                          refine tt_iconst (v := 4) dX10_readRest_489 rfl ?_
                          refine gt_VJ (As := [.int 4]) dX10_readRest_490 ca_X10_103 ⟨by decide, by decide⟩ h0 hA2631 rfl (Nat.le_of_ble_eq_true rfl) (Nat.le_of_ble_eq_true rfl) (by decide) (cs_X10_number hG2629 (oa_af h0 hA2631) (fun _ _ _ _ h => h)) rfl (fun _ h => nomatch h) (fun S2633 y2638 hx2637 hG2634 hB2635 hA2636 => ?_)
                          refine gt_pJ (id := 660) (x := y2638) dX10_readRest_493 fl_10_116 rfl rfl h0 hA2636 rfl rfl rfl hG2634 (fun S2640 hG2641 hA2642 e2643 f2644 er2645 => ?_)
                          refine tt_goto (tgt := 766) dX10_readRest_496 rfl ?_
                          exact tt_vreturn dX10_readRest_766 rfl (hP _ _ _ _ ⟨hG2641, hA2642, Or.inl ⟨_, rfl, rfl, (fun q => (absurd (((congrFun (congrFun e2625 662) o0).trans up2_self).symm.trans (mo_af (oa_af h0 hA2624) hB2630 (mo_af (oa_af h0 hA2631) hB2635 ((congrFun (congrFun e2643 662) o0).symm.trans q)))) (by decide))), rfl, rfl⟩⟩)
                        · skip
                          have h2646 : Rg 0 0 (hp_I S2615 662 o0) := rg_eq_l (gi_I (k := 662) hG2616 (oa_af h0 hA2618) 0 1) (⟨by decide, by decide⟩ : Rg 0 0 0) q2620
                          refine tt_aload_n (j := 0) dX10_readRest_461 rfl ?_
                          refine tt_getI (id := 674) dX10_readRest_462 fl_10_94 rfl rfl (ob_af h0 hA2618) ?_
                          refine tt_if_eq (tgt := 472) dX10_readRest_465 rfl (fun q2647 => ?_) (fun q2647 => ?_)
                          · skip
                            have h2648 : Rg 0 0 (hp_I S2615 674 o0) := rg_eq_l (gi_I (k := 674) hG2616 (oa_af h0 hA2618) 0 7) (⟨by decide, by decide⟩ : Rg 0 0 0) q2647
                            refine tt_iconst (v := 0) dX10_readRest_472 rfl ?_
                            refine gt_pI (id := 662) (x := 0) dX10_readRest_473 fl_10_84 rfl rfl h0 hA2618 rfl rfl rfl (gp_Ir hG2616 (⟨by decide, by decide⟩ : Rg 0 0 0)) (by decide) (fun _ _ _ => (rg_eqc h2646)) (fun h => absurd h (by decide)) (fun S2649 hG2650 hA2651 e2652 f2653 er2654 => ?_)
                            refine tt_aload_n (j := 0) dX10_readRest_476 rfl ?_
                            refine tt_bipush (v := 13) dX10_readRest_477 rfl ?_
                            refine tt_aload_n (j := 0) dX10_readRest_479 rfl ?_
                            refine gt_gI (id := 673) (v := (hp_I S2615 673 o0)) dX10_readRest_480 fl_10_100 rfl rfl h0 hA2651 ((congrFun (congrFun e2652 673) o0).trans ((congrFun (up2_ne (k := 673)) o0).trans rfl)) ?_
                            refine tt_iconst (v := (-1)) dX10_readRest_483 rfl ?_
                            refine gt_Vv (As := [.int 13, .int (hp_I S2615 673 o0), .int (-1)]) dX10_readRest_484 ca_X10_123 ⟨by decide, by decide⟩ h0 hA2651 rfl (Nat.le_of_ble_eq_true rfl) (Nat.le_of_ble_eq_true rfl) (by decide) (cs_X10_take hG2650 (oa_af h0 hA2651) (fun _ _ _ _ h => h)) rfl (fun _ h => nomatch h) (fun S2655 hx2659 hG2656 hB2657 hA2658 => ?_)
                            refine tt_aload_n (j := 0) dX10_readRest_487 rfl ?_
                            refine tt_aload_n (j := 0) dX10_readRest_488 rfl ?_
                            refine tt_iconst (v := 4) dX10_readRest_489 rfl ?_
                            refine gt_VJ (As := [.int 4]) dX10_readRest_490 ca_X10_103 ⟨by decide, by decide⟩ h0 hA2658 rfl (Nat.le_of_ble_eq_true rfl) (Nat.le_of_ble_eq_true rfl) (by decide) (cs_X10_number hG2656 (oa_af h0 hA2658) (fun _ _ _ _ h => h)) rfl (fun _ h => nomatch h) (fun S2660 y2665 hx2664 hG2661 hB2662 hA2663 => ?_)
                            refine gt_pJ (id := 660) (x := y2665) dX10_readRest_493 fl_10_116 rfl rfl h0 hA2663 rfl rfl rfl hG2661 (fun S2667 hG2668 hA2669 e2670 f2671 er2672 => ?_)
                            refine tt_goto (tgt := 766) dX10_readRest_496 rfl ?_
                            exact tt_vreturn dX10_readRest_766 rfl (hP _ _ _ _ ⟨hG2668, hA2669, Or.inl ⟨_, rfl, rfl, (fun q => ⟨(Or.inr (rg_cast ((congrFun (congrFun e2670 657) o0).trans ((i_af (k := 657) (oa_af h0 hA2658) hB2662).trans hx2659.2.1)) (rg_w (hx2619 (rg_eqc h2646))))), (rg_cast ((congrFun (congrFun e2670 658) o0).trans ((i_af (k := 658) (oa_af h0 hA2658) hB2662).trans hx2659.2.2)) (rg_w (⟨by decide, by decide⟩ : Rg (-1) (-1) (-1))))⟩), rfl, rfl⟩⟩)
                          · skip
                            have h2673 : Rg 1 7 (hp_I S2615 674 o0) := rg_ne_lo (gi_I (k := 674) hG2616 (oa_af h0 hA2618) 0 7) (⟨by decide, by decide⟩ : Rg 0 0 0) q2647
                            refine tt_iconst (v := 1) dX10_readRest_468 rfl ?_
                            refine tt_goto (tgt := 473) dX10_readRest_469 rfl ?_
                            refine gt_pI (id := 662) (x := 1) dX10_readRest_473 fl_10_84 rfl rfl h0 hA2618 rfl rfl rfl (gp_Ir hG2616 (⟨by decide, by decide⟩ : Rg 1 1 1)) (by decide) (fun _ _ q => absurd q (by decide)) (fun h => absurd h (by decide)) (fun S2674 hG2675 hA2676 e2677 f2678 er2679 => ?_)
                            refine tt_aload_n (j := 0) dX10_readRest_476 rfl ?_
                            refine tt_bipush (v := 13) dX10_readRest_477 rfl ?_
                            refine tt_aload_n (j := 0) dX10_readRest_479 rfl ?_
                            refine gt_gI (id := 673) (v := (hp_I S2615 673 o0)) dX10_readRest_480 fl_10_100 rfl rfl h0 hA2676 ((congrFun (congrFun e2677 673) o0).trans ((congrFun (up2_ne (k := 673)) o0).trans rfl)) ?_
                            refine tt_iconst (v := (-1)) dX10_readRest_483 rfl ?_
                            refine gt_Vv (As := [.int 13, .int (hp_I S2615 673 o0), .int (-1)]) dX10_readRest_484 ca_X10_123 ⟨by decide, by decide⟩ h0 hA2676 rfl (Nat.le_of_ble_eq_true rfl) (Nat.le_of_ble_eq_true rfl) (by decide) (cs_X10_take hG2675 (oa_af h0 hA2676) (fun _ _ _ _ h => h)) rfl (fun _ h => nomatch h) (fun S2680 hx2684 hG2681 hB2682 hA2683 => ?_)
                            refine tt_aload_n (j := 0) dX10_readRest_487 rfl ?_
                            refine tt_aload_n (j := 0) dX10_readRest_488 rfl ?_
                            refine tt_iconst (v := 4) dX10_readRest_489 rfl ?_
                            refine gt_VJ (As := [.int 4]) dX10_readRest_490 ca_X10_103 ⟨by decide, by decide⟩ h0 hA2683 rfl (Nat.le_of_ble_eq_true rfl) (Nat.le_of_ble_eq_true rfl) (by decide) (cs_X10_number hG2681 (oa_af h0 hA2683) (fun _ _ _ _ h => h)) rfl (fun _ h => nomatch h) (fun S2685 y2690 hx2689 hG2686 hB2687 hA2688 => ?_)
                            refine gt_pJ (id := 660) (x := y2690) dX10_readRest_493 fl_10_116 rfl rfl h0 hA2688 rfl rfl rfl hG2686 (fun S2692 hG2693 hA2694 e2695 f2696 er2697 => ?_)
                            refine tt_goto (tgt := 766) dX10_readRest_496 rfl ?_
                            exact tt_vreturn dX10_readRest_766 rfl (hP _ _ _ _ ⟨hG2693, hA2694, Or.inl ⟨_, rfl, rfl, (fun q => (absurd (((congrFun (congrFun e2677 662) o0).trans up2_self).symm.trans (mo_af (oa_af h0 hA2676) hB2682 (mo_af (oa_af h0 hA2683) hB2687 ((congrFun (congrFun e2695 662) o0).symm.trans q)))) (by decide))), rfl, rfl⟩⟩)
                    · skip
                      refine tt_aload_n (j := 0) dX10_readRest_391 rfl ?_
                      refine tt_iload_n (j := 2) dX10_readRest_392 rfl ?_
                      refine gt_Vv (As := [.int x2]) dX10_readRest_393 ca_X10_137 ⟨by decide, by decide⟩ h0 hA rfl (Nat.le_of_ble_eq_true rfl) (Nat.le_of_ble_eq_true rfl) (by decide) (cs_X10_readPlaces hG (oa_af h0 hA) (fun _ _ _ _ h => h)) rfl (fun _ h => nomatch h) (fun S2698 hx2702 hG2699 hB2700 hA2701 => ?_)
                      refine tt_aload_n (j := 0) dX10_readRest_396 rfl ?_
                      refine tt_bipush (v := 13) dX10_readRest_397 rfl ?_
                      refine tt_iload_n (j := 1) dX10_readRest_399 rfl ?_
                      refine tt_sipush (v := 137) dX10_readRest_400 rfl ?_
                      refine tt_icmp_ne (tgt := 413) dX10_readRest_403 rfl (fun q2703 => ?_) (fun q2703 => ?_)
                      · skip
                        refine tt_aload_n (j := 0) dX10_readRest_413 rfl ?_
                        refine tt_getI (id := 672) dX10_readRest_414 fl_10_97 rfl rfl (ob_af h0 hA2701) ?_
                        refine tt_iload_n (j := 1) dX10_readRest_417 rfl ?_
                        refine tt_sipush (v := 137) dX10_readRest_418 rfl ?_
                        refine tt_icmp_ne (tgt := 431) dX10_readRest_421 rfl (fun q2704 => ?_) (fun q2704 => ?_)
                        · skip
                          refine tt_aload_n (j := 0) dX10_readRest_431 rfl ?_
                          refine tt_getI (id := 673) dX10_readRest_432 fl_10_100 rfl rfl (ob_af h0 hA2701) ?_
                          refine gt_Vv (As := [.int 13, .int (hp_I S2698 672 o0), .int (hp_I S2698 673 o0)]) dX10_readRest_435 ca_X10_123 ⟨by decide, by decide⟩ h0 hA2701 rfl (Nat.le_of_ble_eq_true rfl) (Nat.le_of_ble_eq_true rfl) (by decide) (cs_X10_take hG2699 (oa_af h0 hA2701) (fun _ _ _ _ h => h)) rfl (fun _ h => nomatch h) (fun S2705 hx2709 hG2706 hB2707 hA2708 => ?_)
                          refine tt_goto (tgt := 766) dX10_readRest_438 rfl ?_
                          exact tt_vreturn dX10_readRest_766 rfl (hP _ _ _ _ ⟨hG2706, hA2708, Or.inl ⟨_, rfl, rfl, (fun q => ⟨(Or.inr (rg_cast hx2709.2.1 (rg_w (gi_I (k := 672) hG2699 (oa_af h0 hA2701) 0 15)))), (rg_cast hx2709.2.2 (rg_w (hx2702 (mo_af (oa_af h0 hA2701) hB2707 q))))⟩), rfl, rfl⟩⟩)
                        · skip
                          refine tt_aload_n (j := 0) dX10_readRest_424 rfl ?_
                          refine tt_getI (id := 672) dX10_readRest_425 fl_10_97 rfl rfl (ob_af h0 hA2701) ?_
                          refine tt_goto (tgt := 435) dX10_readRest_428 rfl ?_
                          refine gt_Vv (As := [.int 13, .int (hp_I S2698 672 o0), .int (hp_I S2698 672 o0)]) dX10_readRest_435 ca_X10_123 ⟨by decide, by decide⟩ h0 hA2701 rfl (Nat.le_of_ble_eq_true rfl) (Nat.le_of_ble_eq_true rfl) (by decide) (cs_X10_take hG2699 (oa_af h0 hA2701) (fun _ _ _ _ h => h)) rfl (fun _ h => nomatch h) (fun S2710 hx2714 hG2711 hB2712 hA2713 => ?_)
                          refine tt_goto (tgt := 766) dX10_readRest_438 rfl ?_
                          exact tt_vreturn dX10_readRest_766 rfl (hP _ _ _ _ ⟨hG2711, hA2713, Or.inl ⟨_, rfl, rfl, (fun q => ⟨(Or.inr (rg_cast hx2714.2.1 (rg_w (gi_I (k := 672) hG2699 (oa_af h0 hA2701) 0 15)))), (rg_cast hx2714.2.2 (rg_w (gi_I (k := 672) hG2699 (oa_af h0 hA2701) 0 15)))⟩), rfl, rfl⟩⟩)
                      · skip
                        refine tt_aload_n (j := 0) dX10_readRest_406 rfl ?_
                        refine tt_getI (id := 673) dX10_readRest_407 fl_10_100 rfl rfl (ob_af h0 hA2701) ?_
                        refine tt_goto (tgt := 417) dX10_readRest_410 rfl ?_
                        refine tt_iload_n (j := 1) dX10_readRest_417 rfl ?_
                        refine tt_sipush (v := 137) dX10_readRest_418 rfl ?_
                        refine tt_icmp_ne (tgt := 431) dX10_readRest_421 rfl (fun q2715 => ?_) (fun q2715 => ?_)
                        · skip
                          refine tt_aload_n (j := 0) dX10_readRest_431 rfl ?_
                          refine tt_getI (id := 673) dX10_readRest_432 fl_10_100 rfl rfl (ob_af h0 hA2701) ?_
                          refine gt_Vv (As := [.int 13, .int (hp_I S2698 673 o0), .int (hp_I S2698 673 o0)]) dX10_readRest_435 ca_X10_123 ⟨by decide, by decide⟩ h0 hA2701 rfl (Nat.le_of_ble_eq_true rfl) (Nat.le_of_ble_eq_true rfl) (by decide) (cs_X10_take hG2699 (oa_af h0 hA2701) (fun _ _ _ _ h => h)) rfl (fun _ h => nomatch h) (fun S2716 hx2720 hG2717 hB2718 hA2719 => ?_)
                          refine tt_goto (tgt := 766) dX10_readRest_438 rfl ?_
                          exact tt_vreturn dX10_readRest_766 rfl (hP _ _ _ _ ⟨hG2717, hA2719, Or.inl ⟨_, rfl, rfl, (fun q => ⟨(Or.inr (rg_cast hx2720.2.1 (rg_w (hx2702 (mo_af (oa_af h0 hA2701) hB2718 q))))), (rg_cast hx2720.2.2 (rg_w (hx2702 (mo_af (oa_af h0 hA2701) hB2718 q))))⟩), rfl, rfl⟩⟩)
                        · skip
                          refine tt_aload_n (j := 0) dX10_readRest_424 rfl ?_
                          refine tt_getI (id := 672) dX10_readRest_425 fl_10_97 rfl rfl (ob_af h0 hA2701) ?_
                          refine tt_goto (tgt := 435) dX10_readRest_428 rfl ?_
                          refine gt_Vv (As := [.int 13, .int (hp_I S2698 673 o0), .int (hp_I S2698 672 o0)]) dX10_readRest_435 ca_X10_123 ⟨by decide, by decide⟩ h0 hA2701 rfl (Nat.le_of_ble_eq_true rfl) (Nat.le_of_ble_eq_true rfl) (by decide) (cs_X10_take hG2699 (oa_af h0 hA2701) (fun _ _ _ _ h => h)) rfl (fun _ h => nomatch h) (fun S2721 hx2725 hG2722 hB2723 hA2724 => ?_)
                          refine tt_goto (tgt := 766) dX10_readRest_438 rfl ?_
                          exact tt_vreturn dX10_readRest_766 rfl (hP _ _ _ _ ⟨hG2722, hA2724, Or.inl ⟨_, rfl, rfl, (fun q => ⟨(Or.inr (rg_cast hx2725.2.1 (rg_w (hx2702 (mo_af (oa_af h0 hA2701) hB2723 q))))), (rg_cast hx2725.2.2 (rg_w (gi_I (k := 672) hG2699 (oa_af h0 hA2701) 0 15)))⟩), rfl, rfl⟩⟩)
                · skip
                  refine tt_aload_n (j := 0) dX10_readRest_322 rfl ?_
                  refine tt_iload_n (j := 2) dX10_readRest_323 rfl ?_
                  refine gt_Vv (As := [.int x2]) dX10_readRest_324 ca_X10_137 ⟨by decide, by decide⟩ h0 hA rfl (Nat.le_of_ble_eq_true rfl) (Nat.le_of_ble_eq_true rfl) (by decide) (cs_X10_readPlaces hG (oa_af h0 hA) (fun _ _ _ _ h => h)) rfl (fun _ h => nomatch h) (fun S2726 hx2730 hG2727 hB2728 hA2729 => ?_)
                  refine tt_aload_n (j := 0) dX10_readRest_327 rfl ?_
                  refine tt_aload_n (j := 0) dX10_readRest_328 rfl ?_
                  refine tt_getI (id := 662) dX10_readRest_329 fl_10_84 rfl rfl (ob_af h0 hA2729) ?_
                  refine tt_if_ne (tgt := 343) dX10_readRest_332 rfl (fun q2731 => ?_) (fun q2731 => ?_)
                  · skip
                    have h2732 : Rg 1 1 (hp_I S2726 662 o0) := rg_ne_lo (gi_I (k := 662) hG2727 (oa_af h0 hA2729) 0 1) (⟨by decide, by decide⟩ : Rg 0 0 0) q2731
                    refine tt_iconst (v := 1) dX10_readRest_343 rfl ?_
                    refine tt_goto (tgt := 348) dX10_readRest_344 rfl ?_
                    refine gt_pI (id := 662) (x := 1) dX10_readRest_348 fl_10_84 rfl rfl h0 hA2729 rfl rfl rfl (gp_Ir hG2727 (⟨by decide, by decide⟩ : Rg 1 1 1)) (by decide) (fun _ _ q => absurd q (by decide)) (fun h => absurd h (by decide)) (fun S2733 hG2734 hA2735 e2736 f2737 er2738 => ?_)
                    refine tt_aload_n (j := 0) dX10_readRest_351 rfl ?_
                    refine tt_aload_n (j := 0) dX10_readRest_352 rfl ?_
                    refine tt_getI (id := 674) dX10_readRest_353 fl_10_94 rfl rfl (ob_af h0 hA2735) ?_
                    refine tt_if_ne (tgt := 364) dX10_readRest_356 rfl (fun q2739 => ?_) (fun q2739 => ?_)
                    · skip
                      have h2740 : Rg 1 7 (hp_I S2733 674 o0) := rg_ne_lo (gi_I (k := 674) hG2734 (oa_af h0 hA2735) 0 7) (⟨by decide, by decide⟩ : Rg 0 0 0) q2739
                      refine tt_bipush (v := 12) dX10_readRest_364 rfl ?_
                      refine tt_aload_n (j := 0) dX10_readRest_366 rfl ?_
                      refine gt_gI (id := 673) (v := (hp_I S2726 673 o0)) dX10_readRest_367 fl_10_100 rfl rfl h0 hA2735 ((congrFun (congrFun e2736 673) o0).trans ((congrFun (up2_ne (k := 673)) o0).trans rfl)) ?_
                      refine tt_iconst (v := (-1)) dX10_readRest_370 rfl ?_
                      refine gt_Vv (As := [.int 12, .int (hp_I S2726 673 o0), .int (-1)]) dX10_readRest_371 ca_X10_123 ⟨by decide, by decide⟩ h0 hA2735 rfl (Nat.le_of_ble_eq_true rfl) (Nat.le_of_ble_eq_true rfl) (by decide) (cs_X10_take hG2734 (oa_af h0 hA2735) (fun _ _ _ _ h => h)) rfl (fun _ h => nomatch h) (fun S2741 hx2745 hG2742 hB2743 hA2744 => ?_)
                      refine tt_goto (tgt := 766) dX10_readRest_374 rfl ?_
                      exact tt_vreturn dX10_readRest_766 rfl (hP _ _ _ _ ⟨hG2742, hA2744, Or.inl ⟨_, rfl, rfl, (fun q => (absurd (((congrFun (congrFun e2736 662) o0).trans up2_self).symm.trans (mo_af (oa_af h0 hA2735) hB2743 q)) (by decide))), rfl, rfl⟩⟩)
                    · skip
                      have h2746 : Rg 0 0 (hp_I S2733 674 o0) := rg_eq_l (gi_I (k := 674) hG2734 (oa_af h0 hA2735) 0 7) (⟨by decide, by decide⟩ : Rg 0 0 0) q2739
                      refine tt_bipush (v := 11) dX10_readRest_359 rfl ?_
                      refine tt_goto (tgt := 366) dX10_readRest_361 rfl ?_
                      refine tt_aload_n (j := 0) dX10_readRest_366 rfl ?_
                      refine gt_gI (id := 673) (v := (hp_I S2726 673 o0)) dX10_readRest_367 fl_10_100 rfl rfl h0 hA2735 ((congrFun (congrFun e2736 673) o0).trans ((congrFun (up2_ne (k := 673)) o0).trans rfl)) ?_
                      refine tt_iconst (v := (-1)) dX10_readRest_370 rfl ?_
                      refine gt_Vv (As := [.int 11, .int (hp_I S2726 673 o0), .int (-1)]) dX10_readRest_371 ca_X10_123 ⟨by decide, by decide⟩ h0 hA2735 rfl (Nat.le_of_ble_eq_true rfl) (Nat.le_of_ble_eq_true rfl) (by decide) (cs_X10_take hG2734 (oa_af h0 hA2735) (fun _ _ _ _ h => h)) rfl (fun _ h => nomatch h) (fun S2747 hx2751 hG2748 hB2749 hA2750 => ?_)
                      refine tt_goto (tgt := 766) dX10_readRest_374 rfl ?_
                      exact tt_vreturn dX10_readRest_766 rfl (hP _ _ _ _ ⟨hG2748, hA2750, Or.inl ⟨_, rfl, rfl, (fun q => (absurd (((congrFun (congrFun e2736 662) o0).trans up2_self).symm.trans (mo_af (oa_af h0 hA2735) hB2749 q)) (by decide))), rfl, rfl⟩⟩)
                  · skip
                    have h2752 : Rg 0 0 (hp_I S2726 662 o0) := rg_eq_l (gi_I (k := 662) hG2727 (oa_af h0 hA2729) 0 1) (⟨by decide, by decide⟩ : Rg 0 0 0) q2731
                    refine tt_aload_n (j := 0) dX10_readRest_335 rfl ?_
                    refine tt_getI (id := 674) dX10_readRest_336 fl_10_94 rfl rfl (ob_af h0 hA2729) ?_
                    refine tt_iconst (v := 1) dX10_readRest_339 rfl ?_
                    refine tt_icmp_le (tgt := 347) dX10_readRest_340 rfl (fun q2753 => ?_) (fun q2753 => ?_)
                    · skip
                      have h2754 : Rg 0 1 (hp_I S2726 674 o0) := rg_le_l (gi_I (k := 674) hG2727 (oa_af h0 hA2729) 0 7) (⟨by decide, by decide⟩ : Rg 1 1 1) q2753
                      refine tt_iconst (v := 0) dX10_readRest_347 rfl ?_
                      refine gt_pI (id := 662) (x := 0) dX10_readRest_348 fl_10_84 rfl rfl h0 hA2729 rfl rfl rfl (gp_Ir hG2727 (⟨by decide, by decide⟩ : Rg 0 0 0)) (by decide) (fun _ _ _ => (rg_eqc h2752)) (fun h => absurd h (by decide)) (fun S2755 hG2756 hA2757 e2758 f2759 er2760 => ?_)
                      refine tt_aload_n (j := 0) dX10_readRest_351 rfl ?_
                      refine tt_aload_n (j := 0) dX10_readRest_352 rfl ?_
                      refine gt_gI (id := 674) (v := (hp_I S2726 674 o0)) dX10_readRest_353 fl_10_94 rfl rfl h0 hA2757 ((congrFun (congrFun e2758 674) o0).trans ((congrFun (up2_ne (k := 674)) o0).trans rfl)) ?_
                      refine tt_if_ne (tgt := 364) dX10_readRest_356 rfl (fun q2761 => ?_) (fun q2761 => ?_)
                      · skip
                        have h2762 : Rg 1 1 (hp_I S2726 674 o0) := rg_ne_lo h2754 (⟨by decide, by decide⟩ : Rg 0 0 0) q2761
                        refine tt_bipush (v := 12) dX10_readRest_364 rfl ?_
                        refine tt_aload_n (j := 0) dX10_readRest_366 rfl ?_
                        refine gt_gI (id := 673) (v := (hp_I S2726 673 o0)) dX10_readRest_367 fl_10_100 rfl rfl h0 hA2757 ((congrFun (congrFun e2758 673) o0).trans ((congrFun (up2_ne (k := 673)) o0).trans rfl)) ?_
                        refine tt_iconst (v := (-1)) dX10_readRest_370 rfl ?_
                        refine gt_Vv (As := [.int 12, .int (hp_I S2726 673 o0), .int (-1)]) dX10_readRest_371 ca_X10_123 ⟨by decide, by decide⟩ h0 hA2757 rfl (Nat.le_of_ble_eq_true rfl) (Nat.le_of_ble_eq_true rfl) (by decide) (cs_X10_take hG2756 (oa_af h0 hA2757) (fun _ _ _ _ h => h)) rfl (fun _ h => nomatch h) (fun S2763 hx2767 hG2764 hB2765 hA2766 => ?_)
                        refine tt_goto (tgt := 766) dX10_readRest_374 rfl ?_
                        exact tt_vreturn dX10_readRest_766 rfl (hP _ _ _ _ ⟨hG2764, hA2766, Or.inl ⟨_, rfl, rfl, (fun q => ⟨(Or.inr (rg_cast hx2767.2.1 (rg_w (hx2730 (rg_eqc h2752))))), (rg_cast hx2767.2.2 (rg_w (⟨by decide, by decide⟩ : Rg (-1) (-1) (-1))))⟩), rfl, rfl⟩⟩)
                      · skip
                        have h2768 : Rg 0 0 (hp_I S2726 674 o0) := rg_eq_l h2754 (⟨by decide, by decide⟩ : Rg 0 0 0) q2761
                        refine tt_bipush (v := 11) dX10_readRest_359 rfl ?_
                        refine tt_goto (tgt := 366) dX10_readRest_361 rfl ?_
                        refine tt_aload_n (j := 0) dX10_readRest_366 rfl ?_
                        refine gt_gI (id := 673) (v := (hp_I S2726 673 o0)) dX10_readRest_367 fl_10_100 rfl rfl h0 hA2757 ((congrFun (congrFun e2758 673) o0).trans ((congrFun (up2_ne (k := 673)) o0).trans rfl)) ?_
                        refine tt_iconst (v := (-1)) dX10_readRest_370 rfl ?_
                        refine gt_Vv (As := [.int 11, .int (hp_I S2726 673 o0), .int (-1)]) dX10_readRest_371 ca_X10_123 ⟨by decide, by decide⟩ h0 hA2757 rfl (Nat.le_of_ble_eq_true rfl) (Nat.le_of_ble_eq_true rfl) (by decide) (cs_X10_take hG2756 (oa_af h0 hA2757) (fun _ _ _ _ h => h)) rfl (fun _ h => nomatch h) (fun S2769 hx2773 hG2770 hB2771 hA2772 => ?_)
                        refine tt_goto (tgt := 766) dX10_readRest_374 rfl ?_
                        exact tt_vreturn dX10_readRest_766 rfl (hP _ _ _ _ ⟨hG2770, hA2772, Or.inl ⟨_, rfl, rfl, (fun q => ⟨(Or.inr (rg_cast hx2773.2.1 (rg_w (hx2730 (rg_eqc h2752))))), (rg_cast hx2773.2.2 (rg_w (⟨by decide, by decide⟩ : Rg (-1) (-1) (-1))))⟩), rfl, rfl⟩⟩)
                    · skip
                      have h2774 : Rg 2 7 (hp_I S2726 674 o0) := rg_lt_r (⟨by decide, by decide⟩ : Rg 1 1 1) (gi_I (k := 674) hG2727 (oa_af h0 hA2729) 0 7) (nle_lt q2753)
                      refine tt_iconst (v := 1) dX10_readRest_343 rfl ?_
                      refine tt_goto (tgt := 348) dX10_readRest_344 rfl ?_
                      refine gt_pI (id := 662) (x := 1) dX10_readRest_348 fl_10_84 rfl rfl h0 hA2729 rfl rfl rfl (gp_Ir hG2727 (⟨by decide, by decide⟩ : Rg 1 1 1)) (by decide) (fun _ _ q => absurd q (by decide)) (fun h => absurd h (by decide)) (fun S2775 hG2776 hA2777 e2778 f2779 er2780 => ?_)
                      refine tt_aload_n (j := 0) dX10_readRest_351 rfl ?_
                      refine tt_aload_n (j := 0) dX10_readRest_352 rfl ?_
                      refine gt_gI (id := 674) (v := (hp_I S2726 674 o0)) dX10_readRest_353 fl_10_94 rfl rfl h0 hA2777 ((congrFun (congrFun e2778 674) o0).trans ((congrFun (up2_ne (k := 674)) o0).trans rfl)) ?_
                      refine tt_if_ne (tgt := 364) dX10_readRest_356 rfl (fun q2781 => ?_) (fun q2781 => ?_)
                      · skip
                        refine tt_bipush (v := 12) dX10_readRest_364 rfl ?_
                        refine tt_aload_n (j := 0) dX10_readRest_366 rfl ?_
                        refine gt_gI (id := 673) (v := (hp_I S2726 673 o0)) dX10_readRest_367 fl_10_100 rfl rfl h0 hA2777 ((congrFun (congrFun e2778 673) o0).trans ((congrFun (up2_ne (k := 673)) o0).trans rfl)) ?_
                        refine tt_iconst (v := (-1)) dX10_readRest_370 rfl ?_
                        refine gt_Vv (As := [.int 12, .int (hp_I S2726 673 o0), .int (-1)]) dX10_readRest_371 ca_X10_123 ⟨by decide, by decide⟩ h0 hA2777 rfl (Nat.le_of_ble_eq_true rfl) (Nat.le_of_ble_eq_true rfl) (by decide) (cs_X10_take hG2776 (oa_af h0 hA2777) (fun _ _ _ _ h => h)) rfl (fun _ h => nomatch h) (fun S2782 hx2786 hG2783 hB2784 hA2785 => ?_)
                        refine tt_goto (tgt := 766) dX10_readRest_374 rfl ?_
                        exact tt_vreturn dX10_readRest_766 rfl (hP _ _ _ _ ⟨hG2783, hA2785, Or.inl ⟨_, rfl, rfl, (fun q => (absurd (((congrFun (congrFun e2778 662) o0).trans up2_self).symm.trans (mo_af (oa_af h0 hA2777) hB2784 q)) (by decide))), rfl, rfl⟩⟩)
                      · skip
                        refine tt_bipush (v := 11) dX10_readRest_359 rfl ?_
                        refine tt_goto (tgt := 366) dX10_readRest_361 rfl ?_
                        refine tt_aload_n (j := 0) dX10_readRest_366 rfl ?_
                        refine gt_gI (id := 673) (v := (hp_I S2726 673 o0)) dX10_readRest_367 fl_10_100 rfl rfl h0 hA2777 ((congrFun (congrFun e2778 673) o0).trans ((congrFun (up2_ne (k := 673)) o0).trans rfl)) ?_
                        refine tt_iconst (v := (-1)) dX10_readRest_370 rfl ?_
                        refine gt_Vv (As := [.int 11, .int (hp_I S2726 673 o0), .int (-1)]) dX10_readRest_371 ca_X10_123 ⟨by decide, by decide⟩ h0 hA2777 rfl (Nat.le_of_ble_eq_true rfl) (Nat.le_of_ble_eq_true rfl) (by decide) (cs_X10_take hG2776 (oa_af h0 hA2777) (fun _ _ _ _ h => h)) rfl (fun _ h => nomatch h) (fun S2787 hx2791 hG2788 hB2789 hA2790 => ?_)
                        refine tt_goto (tgt := 766) dX10_readRest_374 rfl ?_
                        exact tt_vreturn dX10_readRest_766 rfl (hP _ _ _ _ ⟨hG2788, hA2790, Or.inl ⟨_, rfl, rfl, (fun q => (absurd (((congrFun (congrFun e2778 662) o0).trans up2_self).symm.trans (mo_af (oa_af h0 hA2777) hB2789 q)) (by decide))), rfl, rfl⟩⟩)
              · skip
                refine tt_aload_n (j := 0) dX10_readRest_219 rfl ?_
                refine tt_iload_n (j := 2) dX10_readRest_220 rfl ?_
                refine gt_Vv (As := [.int x2]) dX10_readRest_221 ca_X10_137 ⟨by decide, by decide⟩ h0 hA rfl (Nat.le_of_ble_eq_true rfl) (Nat.le_of_ble_eq_true rfl) (by decide) (cs_X10_readPlaces hG (oa_af h0 hA) (fun _ _ _ _ h => h)) rfl (fun _ h => nomatch h) (fun S2792 hx2796 hG2793 hB2794 hA2795 => ?_)
                refine tt_aload_n (j := 0) dX10_readRest_224 rfl ?_
                refine tt_aload_n (j := 0) dX10_readRest_225 rfl ?_
                refine tt_getI (id := 662) dX10_readRest_226 fl_10_84 rfl rfl (ob_af h0 hA2795) ?_
                refine tt_if_ne (tgt := 248) dX10_readRest_229 rfl (fun q2797 => ?_) (fun q2797 => ?_)
                · skip
                  have h2798 : Rg 1 1 (hp_I S2792 662 o0) := rg_ne_lo (gi_I (k := 662) hG2793 (oa_af h0 hA2795) 0 1) (⟨by decide, by decide⟩ : Rg 0 0 0) q2797
                  refine tt_iconst (v := 1) dX10_readRest_248 rfl ?_
                  refine tt_goto (tgt := 253) dX10_readRest_249 rfl ?_
                  refine gt_pI (id := 662) (x := 1) dX10_readRest_253 fl_10_84 rfl rfl h0 hA2795 rfl rfl rfl (gp_Ir hG2793 (⟨by decide, by decide⟩ : Rg 1 1 1)) (by decide) (fun _ _ q => absurd q (by decide)) (fun h => absurd h (by decide)) (fun S2799 hG2800 hA2801 e2802 f2803 er2804 => ?_)
                  refine tt_aload_n (j := 0) dX10_readRest_256 rfl ?_
                  refine tt_aload_n (j := 0) dX10_readRest_257 rfl ?_
                  refine tt_getI (id := 674) dX10_readRest_258 fl_10_94 rfl rfl (ob_af h0 hA2801) ?_
                  refine tt_if_ne (tgt := 269) dX10_readRest_261 rfl (fun q2805 => ?_) (fun q2805 => ?_)
                  · skip
                    have h2806 : Rg 1 7 (hp_I S2799 674 o0) := rg_ne_lo (gi_I (k := 674) hG2800 (oa_af h0 hA2801) 0 7) (⟨by decide, by decide⟩ : Rg 0 0 0) q2805
                    refine tt_aload_n (j := 0) dX10_readRest_269 rfl ?_
                    refine tt_getI (id := 674) dX10_readRest_270 fl_10_94 rfl rfl (ob_af h0 hA2801) ?_
                    refine tt_iconst (v := 2) dX10_readRest_273 rfl ?_
                    refine tt_icmp_ne (tgt := 282) dX10_readRest_274 rfl (fun q2807 => ?_) (fun q2807 => ?_)
                    · skip
                      refine tt_bipush (v := 10) dX10_readRest_282 rfl ?_
                      refine tt_aload_n (j := 0) dX10_readRest_284 rfl ?_
                      refine gt_gI (id := 673) (v := (hp_I S2792 673 o0)) dX10_readRest_285 fl_10_100 rfl rfl h0 hA2801 ((congrFun (congrFun e2802 673) o0).trans ((congrFun (up2_ne (k := 673)) o0).trans rfl)) ?_
                      refine tt_iconst (v := (-1)) dX10_readRest_288 rfl ?_
                      refine gt_Vv (As := [.int 10, .int (hp_I S2792 673 o0), .int (-1)]) dX10_readRest_289 ca_X10_123 ⟨by decide, by decide⟩ h0 hA2801 rfl (Nat.le_of_ble_eq_true rfl) (Nat.le_of_ble_eq_true rfl) (by decide) (cs_X10_take hG2800 (oa_af h0 hA2801) (fun _ _ _ _ h => h)) rfl (fun _ h => nomatch h) (fun S2808 hx2812 hG2809 hB2810 hA2811 => ?_)
                      refine tt_aload_n (j := 0) dX10_readRest_292 rfl ?_
                      refine tt_aload_n (j := 0) dX10_readRest_293 rfl ?_
                      refine gt_gI (id := 674) (v := (hp_I S2799 674 o0)) dX10_readRest_294 fl_10_94 rfl rfl h0 hA2811 ((i_af (k := 674) (oa_af h0 hA2801) hB2810).trans rfl) ?_
                      refine tt_if_ne (tgt := 308) dX10_readRest_297 rfl (fun q2813 => ?_) (fun q2813 => ?_)
                      · skip
                        refine tt_lconst (v := 0) dX10_readRest_308 rfl ?_
                        refine gt_pJ (id := 660) (x := 0) dX10_readRest_309 fl_10_116 rfl rfl h0 hA2811 rfl rfl rfl hG2809 (fun S2814 hG2815 hA2816 e2817 f2818 er2819 => ?_)
                        refine tt_goto (tgt := 766) dX10_readRest_312 rfl ?_
                        exact tt_vreturn dX10_readRest_766 rfl (hP _ _ _ _ ⟨hG2815, hA2816, Or.inl ⟨_, rfl, rfl, (fun q => (absurd (((congrFun (congrFun e2802 662) o0).trans up2_self).symm.trans (mo_af (oa_af h0 hA2801) hB2810 ((congrFun (congrFun e2817 662) o0).symm.trans q))) (by decide))), rfl, rfl⟩⟩)
                      · skip
                        refine tt_aload_n (j := 0) dX10_readRest_300 rfl ?_
                        refine tt_iconst (v := 4) dX10_readRest_301 rfl ?_
                        refine gt_VJ (As := [.int 4]) dX10_readRest_302 ca_X10_103 ⟨by decide, by decide⟩ h0 hA2811 rfl (Nat.le_of_ble_eq_true rfl) (Nat.le_of_ble_eq_true rfl) (by decide) (cs_X10_number hG2809 (oa_af h0 hA2811) (fun _ _ _ _ h => h)) rfl (fun _ h => nomatch h) (fun S2820 y2825 hx2824 hG2821 hB2822 hA2823 => ?_)
                        refine tt_goto (tgt := 309) dX10_readRest_305 rfl ?_
                        refine gt_pJ (id := 660) (x := y2825) dX10_readRest_309 fl_10_116 rfl rfl h0 hA2823 rfl rfl rfl hG2821 (fun S2827 hG2828 hA2829 e2830 f2831 er2832 => ?_)
                        refine tt_goto (tgt := 766) dX10_readRest_312 rfl ?_
                        exact tt_vreturn dX10_readRest_766 rfl (hP _ _ _ _ ⟨hG2828, hA2829, Or.inl ⟨_, rfl, rfl, (fun q => (absurd (((congrFun (congrFun e2802 662) o0).trans up2_self).symm.trans (mo_af (oa_af h0 hA2801) hB2810 (mo_af (oa_af h0 hA2811) hB2822 ((congrFun (congrFun e2830 662) o0).symm.trans q)))) (by decide))), rfl, rfl⟩⟩)
                    · skip
                      have h2833 : Rg 2 2 (hp_I S2799 674 o0) := rg_eq_l h2806 (⟨by decide, by decide⟩ : Rg 2 2 2) q2807
                      refine tt_bipush (v := 9) dX10_readRest_277 rfl ?_
                      refine tt_goto (tgt := 284) dX10_readRest_279 rfl ?_
                      refine tt_aload_n (j := 0) dX10_readRest_284 rfl ?_
                      refine gt_gI (id := 673) (v := (hp_I S2792 673 o0)) dX10_readRest_285 fl_10_100 rfl rfl h0 hA2801 ((congrFun (congrFun e2802 673) o0).trans ((congrFun (up2_ne (k := 673)) o0).trans rfl)) ?_
                      refine tt_iconst (v := (-1)) dX10_readRest_288 rfl ?_
                      refine gt_Vv (As := [.int 9, .int (hp_I S2792 673 o0), .int (-1)]) dX10_readRest_289 ca_X10_123 ⟨by decide, by decide⟩ h0 hA2801 rfl (Nat.le_of_ble_eq_true rfl) (Nat.le_of_ble_eq_true rfl) (by decide) (cs_X10_take hG2800 (oa_af h0 hA2801) (fun _ _ _ _ h => h)) rfl (fun _ h => nomatch h) (fun S2834 hx2838 hG2835 hB2836 hA2837 => ?_)
                      refine tt_aload_n (j := 0) dX10_readRest_292 rfl ?_
                      refine tt_aload_n (j := 0) dX10_readRest_293 rfl ?_
                      refine gt_gI (id := 674) (v := (hp_I S2799 674 o0)) dX10_readRest_294 fl_10_94 rfl rfl h0 hA2837 ((i_af (k := 674) (oa_af h0 hA2801) hB2836).trans rfl) ?_
                      refine tt_if_ne (tgt := 308) dX10_readRest_297 rfl (fun q2839 => ?_) (fun q2839 => ?_)
                      · skip
                        refine tt_lconst (v := 0) dX10_readRest_308 rfl ?_
                        refine gt_pJ (id := 660) (x := 0) dX10_readRest_309 fl_10_116 rfl rfl h0 hA2837 rfl rfl rfl hG2835 (fun S2840 hG2841 hA2842 e2843 f2844 er2845 => ?_)
                        refine tt_goto (tgt := 766) dX10_readRest_312 rfl ?_
                        exact tt_vreturn dX10_readRest_766 rfl (hP _ _ _ _ ⟨hG2841, hA2842, Or.inl ⟨_, rfl, rfl, (fun q => (absurd (((congrFun (congrFun e2802 662) o0).trans up2_self).symm.trans (mo_af (oa_af h0 hA2801) hB2836 ((congrFun (congrFun e2843 662) o0).symm.trans q))) (by decide))), rfl, rfl⟩⟩)
                      · skip
                        refine tt_aload_n (j := 0) dX10_readRest_300 rfl ?_
                        refine tt_iconst (v := 4) dX10_readRest_301 rfl ?_
                        refine gt_VJ (As := [.int 4]) dX10_readRest_302 ca_X10_103 ⟨by decide, by decide⟩ h0 hA2837 rfl (Nat.le_of_ble_eq_true rfl) (Nat.le_of_ble_eq_true rfl) (by decide) (cs_X10_number hG2835 (oa_af h0 hA2837) (fun _ _ _ _ h => h)) rfl (fun _ h => nomatch h) (fun S2846 y2851 hx2850 hG2847 hB2848 hA2849 => ?_)
                        refine tt_goto (tgt := 309) dX10_readRest_305 rfl ?_
                        refine gt_pJ (id := 660) (x := y2851) dX10_readRest_309 fl_10_116 rfl rfl h0 hA2849 rfl rfl rfl hG2847 (fun S2853 hG2854 hA2855 e2856 f2857 er2858 => ?_)
                        refine tt_goto (tgt := 766) dX10_readRest_312 rfl ?_
                        exact tt_vreturn dX10_readRest_766 rfl (hP _ _ _ _ ⟨hG2854, hA2855, Or.inl ⟨_, rfl, rfl, (fun q => (absurd (((congrFun (congrFun e2802 662) o0).trans up2_self).symm.trans (mo_af (oa_af h0 hA2801) hB2836 (mo_af (oa_af h0 hA2837) hB2848 ((congrFun (congrFun e2856 662) o0).symm.trans q)))) (by decide))), rfl, rfl⟩⟩)
                  · skip
                    have h2859 : Rg 0 0 (hp_I S2799 674 o0) := rg_eq_l (gi_I (k := 674) hG2800 (oa_af h0 hA2801) 0 7) (⟨by decide, by decide⟩ : Rg 0 0 0) q2805
                    refine tt_bipush (v := 8) dX10_readRest_264 rfl ?_
                    refine tt_goto (tgt := 284) dX10_readRest_266 rfl ?_
                    refine tt_aload_n (j := 0) dX10_readRest_284 rfl ?_
                    refine gt_gI (id := 673) (v := (hp_I S2792 673 o0)) dX10_readRest_285 fl_10_100 rfl rfl h0 hA2801 ((congrFun (congrFun e2802 673) o0).trans ((congrFun (up2_ne (k := 673)) o0).trans rfl)) ?_
                    refine tt_iconst (v := (-1)) dX10_readRest_288 rfl ?_
                    refine gt_Vv (As := [.int 8, .int (hp_I S2792 673 o0), .int (-1)]) dX10_readRest_289 ca_X10_123 ⟨by decide, by decide⟩ h0 hA2801 rfl (Nat.le_of_ble_eq_true rfl) (Nat.le_of_ble_eq_true rfl) (by decide) (cs_X10_take hG2800 (oa_af h0 hA2801) (fun _ _ _ _ h => h)) rfl (fun _ h => nomatch h) (fun S2860 hx2864 hG2861 hB2862 hA2863 => ?_)
                    refine tt_aload_n (j := 0) dX10_readRest_292 rfl ?_
                    refine tt_aload_n (j := 0) dX10_readRest_293 rfl ?_
                    refine gt_gI (id := 674) (v := (hp_I S2799 674 o0)) dX10_readRest_294 fl_10_94 rfl rfl h0 hA2863 ((i_af (k := 674) (oa_af h0 hA2801) hB2862).trans rfl) ?_
                    refine tt_if_ne (tgt := 308) dX10_readRest_297 rfl (fun q2865 => ?_) (fun q2865 => ?_)
                    · skip
                      have h2866 : Rg 1 0 (hp_I S2799 674 o0) := rg_ne_lo h2859 (⟨by decide, by decide⟩ : Rg 0 0 0) q2865
                      exact rg_no h2866
                    · skip
                      refine tt_aload_n (j := 0) dX10_readRest_300 rfl ?_
                      refine tt_iconst (v := 4) dX10_readRest_301 rfl ?_
                      refine gt_VJ (As := [.int 4]) dX10_readRest_302 ca_X10_103 ⟨by decide, by decide⟩ h0 hA2863 rfl (Nat.le_of_ble_eq_true rfl) (Nat.le_of_ble_eq_true rfl) (by decide) (cs_X10_number hG2861 (oa_af h0 hA2863) (fun _ _ _ _ h => h)) rfl (fun _ h => nomatch h) (fun S2867 y2872 hx2871 hG2868 hB2869 hA2870 => ?_)
                      refine tt_goto (tgt := 309) dX10_readRest_305 rfl ?_
                      refine gt_pJ (id := 660) (x := y2872) dX10_readRest_309 fl_10_116 rfl rfl h0 hA2870 rfl rfl rfl hG2868 (fun S2874 hG2875 hA2876 e2877 f2878 er2879 => ?_)
                      refine tt_goto (tgt := 766) dX10_readRest_312 rfl ?_
                      exact tt_vreturn dX10_readRest_766 rfl (hP _ _ _ _ ⟨hG2875, hA2876, Or.inl ⟨_, rfl, rfl, (fun q => (absurd (((congrFun (congrFun e2802 662) o0).trans up2_self).symm.trans (mo_af (oa_af h0 hA2801) hB2862 (mo_af (oa_af h0 hA2863) hB2869 ((congrFun (congrFun e2877 662) o0).symm.trans q)))) (by decide))), rfl, rfl⟩⟩)
                · skip
                  have h2880 : Rg 0 0 (hp_I S2792 662 o0) := rg_eq_l (gi_I (k := 662) hG2793 (oa_af h0 hA2795) 0 1) (⟨by decide, by decide⟩ : Rg 0 0 0) q2797
                  refine tt_aload_n (j := 0) dX10_readRest_232 rfl ?_
                  refine tt_getI (id := 674) dX10_readRest_233 fl_10_94 rfl rfl (ob_af h0 hA2795) ?_
                  refine tt_iconst (v := 1) dX10_readRest_236 rfl ?_
                  refine tt_icmp_eq (tgt := 248) dX10_readRest_237 rfl (fun q2881 => ?_) (fun q2881 => ?_)
                  · skip
                    have h2882 : Rg 1 1 (hp_I S2792 674 o0) := rg_eq_l (gi_I (k := 674) hG2793 (oa_af h0 hA2795) 0 7) (⟨by decide, by decide⟩ : Rg 1 1 1) q2881
                    refine tt_iconst (v := 1) dX10_readRest_248 rfl ?_
                    refine tt_goto (tgt := 253) dX10_readRest_249 rfl ?_
                    refine gt_pI (id := 662) (x := 1) dX10_readRest_253 fl_10_84 rfl rfl h0 hA2795 rfl rfl rfl (gp_Ir hG2793 (⟨by decide, by decide⟩ : Rg 1 1 1)) (by decide) (fun _ _ q => absurd q (by decide)) (fun h => absurd h (by decide)) (fun S2883 hG2884 hA2885 e2886 f2887 er2888 => ?_)
                    refine tt_aload_n (j := 0) dX10_readRest_256 rfl ?_
                    refine tt_aload_n (j := 0) dX10_readRest_257 rfl ?_
                    refine gt_gI (id := 674) (v := (hp_I S2792 674 o0)) dX10_readRest_258 fl_10_94 rfl rfl h0 hA2885 ((congrFun (congrFun e2886 674) o0).trans ((congrFun (up2_ne (k := 674)) o0).trans rfl)) ?_
                    refine tt_if_ne (tgt := 269) dX10_readRest_261 rfl (fun q2889 => ?_) (fun q2889 => ?_)
                    · skip
                      refine tt_aload_n (j := 0) dX10_readRest_269 rfl ?_
                      refine gt_gI (id := 674) (v := (hp_I S2792 674 o0)) dX10_readRest_270 fl_10_94 rfl rfl h0 hA2885 ((congrFun (congrFun e2886 674) o0).trans ((congrFun (up2_ne (k := 674)) o0).trans rfl)) ?_
                      refine tt_iconst (v := 2) dX10_readRest_273 rfl ?_
                      refine tt_icmp_ne (tgt := 282) dX10_readRest_274 rfl (fun q2890 => ?_) (fun q2890 => ?_)
                      · skip
                        refine tt_bipush (v := 10) dX10_readRest_282 rfl ?_
                        refine tt_aload_n (j := 0) dX10_readRest_284 rfl ?_
                        refine gt_gI (id := 673) (v := (hp_I S2792 673 o0)) dX10_readRest_285 fl_10_100 rfl rfl h0 hA2885 ((congrFun (congrFun e2886 673) o0).trans ((congrFun (up2_ne (k := 673)) o0).trans rfl)) ?_
                        refine tt_iconst (v := (-1)) dX10_readRest_288 rfl ?_
                        refine gt_Vv (As := [.int 10, .int (hp_I S2792 673 o0), .int (-1)]) dX10_readRest_289 ca_X10_123 ⟨by decide, by decide⟩ h0 hA2885 rfl (Nat.le_of_ble_eq_true rfl) (Nat.le_of_ble_eq_true rfl) (by decide) (cs_X10_take hG2884 (oa_af h0 hA2885) (fun _ _ _ _ h => h)) rfl (fun _ h => nomatch h) (fun S2891 hx2895 hG2892 hB2893 hA2894 => ?_)
                        refine tt_aload_n (j := 0) dX10_readRest_292 rfl ?_
                        refine tt_aload_n (j := 0) dX10_readRest_293 rfl ?_
                        refine gt_gI (id := 674) (v := (hp_I S2792 674 o0)) dX10_readRest_294 fl_10_94 rfl rfl h0 hA2894 ((i_af (k := 674) (oa_af h0 hA2885) hB2893).trans ((congrFun (congrFun e2886 674) o0).trans ((congrFun (up2_ne (k := 674)) o0).trans rfl))) ?_
                        refine tt_if_ne (tgt := 308) dX10_readRest_297 rfl (fun q2896 => ?_) (fun q2896 => ?_)
                        · skip
                          refine tt_lconst (v := 0) dX10_readRest_308 rfl ?_
                          refine gt_pJ (id := 660) (x := 0) dX10_readRest_309 fl_10_116 rfl rfl h0 hA2894 rfl rfl rfl hG2892 (fun S2897 hG2898 hA2899 e2900 f2901 er2902 => ?_)
                          refine tt_goto (tgt := 766) dX10_readRest_312 rfl ?_
                          exact tt_vreturn dX10_readRest_766 rfl (hP _ _ _ _ ⟨hG2898, hA2899, Or.inl ⟨_, rfl, rfl, (fun q => (absurd (((congrFun (congrFun e2886 662) o0).trans up2_self).symm.trans (mo_af (oa_af h0 hA2885) hB2893 ((congrFun (congrFun e2900 662) o0).symm.trans q))) (by decide))), rfl, rfl⟩⟩)
                        · skip
                          refine tt_aload_n (j := 0) dX10_readRest_300 rfl ?_
                          refine tt_iconst (v := 4) dX10_readRest_301 rfl ?_
                          refine gt_VJ (As := [.int 4]) dX10_readRest_302 ca_X10_103 ⟨by decide, by decide⟩ h0 hA2894 rfl (Nat.le_of_ble_eq_true rfl) (Nat.le_of_ble_eq_true rfl) (by decide) (cs_X10_number hG2892 (oa_af h0 hA2894) (fun _ _ _ _ h => h)) rfl (fun _ h => nomatch h) (fun S2903 y2908 hx2907 hG2904 hB2905 hA2906 => ?_)
                          refine tt_goto (tgt := 309) dX10_readRest_305 rfl ?_
                          refine gt_pJ (id := 660) (x := y2908) dX10_readRest_309 fl_10_116 rfl rfl h0 hA2906 rfl rfl rfl hG2904 (fun S2910 hG2911 hA2912 e2913 f2914 er2915 => ?_)
                          refine tt_goto (tgt := 766) dX10_readRest_312 rfl ?_
                          exact tt_vreturn dX10_readRest_766 rfl (hP _ _ _ _ ⟨hG2911, hA2912, Or.inl ⟨_, rfl, rfl, (fun q => (absurd (((congrFun (congrFun e2886 662) o0).trans up2_self).symm.trans (mo_af (oa_af h0 hA2885) hB2893 (mo_af (oa_af h0 hA2894) hB2905 ((congrFun (congrFun e2913 662) o0).symm.trans q)))) (by decide))), rfl, rfl⟩⟩)
                      · skip
                        refine tt_bipush (v := 9) dX10_readRest_277 rfl ?_
                        refine tt_goto (tgt := 284) dX10_readRest_279 rfl ?_
                        refine tt_aload_n (j := 0) dX10_readRest_284 rfl ?_
                        refine gt_gI (id := 673) (v := (hp_I S2792 673 o0)) dX10_readRest_285 fl_10_100 rfl rfl h0 hA2885 ((congrFun (congrFun e2886 673) o0).trans ((congrFun (up2_ne (k := 673)) o0).trans rfl)) ?_
                        refine tt_iconst (v := (-1)) dX10_readRest_288 rfl ?_
                        refine gt_Vv (As := [.int 9, .int (hp_I S2792 673 o0), .int (-1)]) dX10_readRest_289 ca_X10_123 ⟨by decide, by decide⟩ h0 hA2885 rfl (Nat.le_of_ble_eq_true rfl) (Nat.le_of_ble_eq_true rfl) (by decide) (cs_X10_take hG2884 (oa_af h0 hA2885) (fun _ _ _ _ h => h)) rfl (fun _ h => nomatch h) (fun S2916 hx2920 hG2917 hB2918 hA2919 => ?_)
                        refine tt_aload_n (j := 0) dX10_readRest_292 rfl ?_
                        refine tt_aload_n (j := 0) dX10_readRest_293 rfl ?_
                        refine gt_gI (id := 674) (v := (hp_I S2792 674 o0)) dX10_readRest_294 fl_10_94 rfl rfl h0 hA2919 ((i_af (k := 674) (oa_af h0 hA2885) hB2918).trans ((congrFun (congrFun e2886 674) o0).trans ((congrFun (up2_ne (k := 674)) o0).trans rfl))) ?_
                        refine tt_if_ne (tgt := 308) dX10_readRest_297 rfl (fun q2921 => ?_) (fun q2921 => ?_)
                        · skip
                          refine tt_lconst (v := 0) dX10_readRest_308 rfl ?_
                          refine gt_pJ (id := 660) (x := 0) dX10_readRest_309 fl_10_116 rfl rfl h0 hA2919 rfl rfl rfl hG2917 (fun S2922 hG2923 hA2924 e2925 f2926 er2927 => ?_)
                          refine tt_goto (tgt := 766) dX10_readRest_312 rfl ?_
                          exact tt_vreturn dX10_readRest_766 rfl (hP _ _ _ _ ⟨hG2923, hA2924, Or.inl ⟨_, rfl, rfl, (fun q => (absurd (((congrFun (congrFun e2886 662) o0).trans up2_self).symm.trans (mo_af (oa_af h0 hA2885) hB2918 ((congrFun (congrFun e2925 662) o0).symm.trans q))) (by decide))), rfl, rfl⟩⟩)
                        · skip
                          refine tt_aload_n (j := 0) dX10_readRest_300 rfl ?_
                          refine tt_iconst (v := 4) dX10_readRest_301 rfl ?_
                          refine gt_VJ (As := [.int 4]) dX10_readRest_302 ca_X10_103 ⟨by decide, by decide⟩ h0 hA2919 rfl (Nat.le_of_ble_eq_true rfl) (Nat.le_of_ble_eq_true rfl) (by decide) (cs_X10_number hG2917 (oa_af h0 hA2919) (fun _ _ _ _ h => h)) rfl (fun _ h => nomatch h) (fun S2928 y2933 hx2932 hG2929 hB2930 hA2931 => ?_)
                          refine tt_goto (tgt := 309) dX10_readRest_305 rfl ?_
                          refine gt_pJ (id := 660) (x := y2933) dX10_readRest_309 fl_10_116 rfl rfl h0 hA2931 rfl rfl rfl hG2929 (fun S2935 hG2936 hA2937 e2938 f2939 er2940 => ?_)
                          refine tt_goto (tgt := 766) dX10_readRest_312 rfl ?_
                          exact tt_vreturn dX10_readRest_766 rfl (hP _ _ _ _ ⟨hG2936, hA2937, Or.inl ⟨_, rfl, rfl, (fun q => (absurd (((congrFun (congrFun e2886 662) o0).trans up2_self).symm.trans (mo_af (oa_af h0 hA2885) hB2918 (mo_af (oa_af h0 hA2919) hB2930 ((congrFun (congrFun e2938 662) o0).symm.trans q)))) (by decide))), rfl, rfl⟩⟩)
                    · skip
                      refine tt_bipush (v := 8) dX10_readRest_264 rfl ?_
                      refine tt_goto (tgt := 284) dX10_readRest_266 rfl ?_
                      refine tt_aload_n (j := 0) dX10_readRest_284 rfl ?_
                      refine gt_gI (id := 673) (v := (hp_I S2792 673 o0)) dX10_readRest_285 fl_10_100 rfl rfl h0 hA2885 ((congrFun (congrFun e2886 673) o0).trans ((congrFun (up2_ne (k := 673)) o0).trans rfl)) ?_
                      refine tt_iconst (v := (-1)) dX10_readRest_288 rfl ?_
                      refine gt_Vv (As := [.int 8, .int (hp_I S2792 673 o0), .int (-1)]) dX10_readRest_289 ca_X10_123 ⟨by decide, by decide⟩ h0 hA2885 rfl (Nat.le_of_ble_eq_true rfl) (Nat.le_of_ble_eq_true rfl) (by decide) (cs_X10_take hG2884 (oa_af h0 hA2885) (fun _ _ _ _ h => h)) rfl (fun _ h => nomatch h) (fun S2941 hx2945 hG2942 hB2943 hA2944 => ?_)
                      refine tt_aload_n (j := 0) dX10_readRest_292 rfl ?_
                      refine tt_aload_n (j := 0) dX10_readRest_293 rfl ?_
                      refine gt_gI (id := 674) (v := (hp_I S2792 674 o0)) dX10_readRest_294 fl_10_94 rfl rfl h0 hA2944 ((i_af (k := 674) (oa_af h0 hA2885) hB2943).trans ((congrFun (congrFun e2886 674) o0).trans ((congrFun (up2_ne (k := 674)) o0).trans rfl))) ?_
                      refine tt_if_ne (tgt := 308) dX10_readRest_297 rfl (fun q2946 => ?_) (fun q2946 => ?_)
                      · skip
                        refine tt_lconst (v := 0) dX10_readRest_308 rfl ?_
                        refine gt_pJ (id := 660) (x := 0) dX10_readRest_309 fl_10_116 rfl rfl h0 hA2944 rfl rfl rfl hG2942 (fun S2947 hG2948 hA2949 e2950 f2951 er2952 => ?_)
                        refine tt_goto (tgt := 766) dX10_readRest_312 rfl ?_
                        exact tt_vreturn dX10_readRest_766 rfl (hP _ _ _ _ ⟨hG2948, hA2949, Or.inl ⟨_, rfl, rfl, (fun q => (absurd (((congrFun (congrFun e2886 662) o0).trans up2_self).symm.trans (mo_af (oa_af h0 hA2885) hB2943 ((congrFun (congrFun e2950 662) o0).symm.trans q))) (by decide))), rfl, rfl⟩⟩)
                      · skip
                        refine tt_aload_n (j := 0) dX10_readRest_300 rfl ?_
                        refine tt_iconst (v := 4) dX10_readRest_301 rfl ?_
                        refine gt_VJ (As := [.int 4]) dX10_readRest_302 ca_X10_103 ⟨by decide, by decide⟩ h0 hA2944 rfl (Nat.le_of_ble_eq_true rfl) (Nat.le_of_ble_eq_true rfl) (by decide) (cs_X10_number hG2942 (oa_af h0 hA2944) (fun _ _ _ _ h => h)) rfl (fun _ h => nomatch h) (fun S2953 y2958 hx2957 hG2954 hB2955 hA2956 => ?_)
                        refine tt_goto (tgt := 309) dX10_readRest_305 rfl ?_
                        refine gt_pJ (id := 660) (x := y2958) dX10_readRest_309 fl_10_116 rfl rfl h0 hA2956 rfl rfl rfl hG2954 (fun S2960 hG2961 hA2962 e2963 f2964 er2965 => ?_)
                        refine tt_goto (tgt := 766) dX10_readRest_312 rfl ?_
                        exact tt_vreturn dX10_readRest_766 rfl (hP _ _ _ _ ⟨hG2961, hA2962, Or.inl ⟨_, rfl, rfl, (fun q => (absurd (((congrFun (congrFun e2886 662) o0).trans up2_self).symm.trans (mo_af (oa_af h0 hA2885) hB2943 (mo_af (oa_af h0 hA2944) hB2955 ((congrFun (congrFun e2963 662) o0).symm.trans q)))) (by decide))), rfl, rfl⟩⟩)
                  · skip
                    refine tt_aload_n (j := 0) dX10_readRest_240 rfl ?_
                    refine tt_getI (id := 674) dX10_readRest_241 fl_10_94 rfl rfl (ob_af h0 hA2795) ?_
                    refine tt_iconst (v := 3) dX10_readRest_244 rfl ?_
                    refine tt_icmp_le (tgt := 252) dX10_readRest_245 rfl (fun q2966 => ?_) (fun q2966 => ?_)
                    · skip
                      have h2967 : Rg 0 3 (hp_I S2792 674 o0) := rg_le_l (gi_I (k := 674) hG2793 (oa_af h0 hA2795) 0 7) (⟨by decide, by decide⟩ : Rg 3 3 3) q2966
                      refine tt_iconst (v := 0) dX10_readRest_252 rfl ?_
                      refine gt_pI (id := 662) (x := 0) dX10_readRest_253 fl_10_84 rfl rfl h0 hA2795 rfl rfl rfl (gp_Ir hG2793 (⟨by decide, by decide⟩ : Rg 0 0 0)) (by decide) (fun _ _ _ => (rg_eqc h2880)) (fun h => absurd h (by decide)) (fun S2968 hG2969 hA2970 e2971 f2972 er2973 => ?_)
                      refine tt_aload_n (j := 0) dX10_readRest_256 rfl ?_
                      refine tt_aload_n (j := 0) dX10_readRest_257 rfl ?_
                      refine gt_gI (id := 674) (v := (hp_I S2792 674 o0)) dX10_readRest_258 fl_10_94 rfl rfl h0 hA2970 ((congrFun (congrFun e2971 674) o0).trans ((congrFun (up2_ne (k := 674)) o0).trans rfl)) ?_
                      refine tt_if_ne (tgt := 269) dX10_readRest_261 rfl (fun q2974 => ?_) (fun q2974 => ?_)
                      · skip
                        have h2975 : Rg 1 3 (hp_I S2792 674 o0) := rg_ne_lo h2967 (⟨by decide, by decide⟩ : Rg 0 0 0) q2974
                        refine tt_aload_n (j := 0) dX10_readRest_269 rfl ?_
                        refine gt_gI (id := 674) (v := (hp_I S2792 674 o0)) dX10_readRest_270 fl_10_94 rfl rfl h0 hA2970 ((congrFun (congrFun e2971 674) o0).trans ((congrFun (up2_ne (k := 674)) o0).trans rfl)) ?_
                        refine tt_iconst (v := 2) dX10_readRest_273 rfl ?_
                        refine tt_icmp_ne (tgt := 282) dX10_readRest_274 rfl (fun q2976 => ?_) (fun q2976 => ?_)
                        · skip
                          refine tt_bipush (v := 10) dX10_readRest_282 rfl ?_
                          refine tt_aload_n (j := 0) dX10_readRest_284 rfl ?_
                          refine gt_gI (id := 673) (v := (hp_I S2792 673 o0)) dX10_readRest_285 fl_10_100 rfl rfl h0 hA2970 ((congrFun (congrFun e2971 673) o0).trans ((congrFun (up2_ne (k := 673)) o0).trans rfl)) ?_
                          refine tt_iconst (v := (-1)) dX10_readRest_288 rfl ?_
                          refine gt_Vv (As := [.int 10, .int (hp_I S2792 673 o0), .int (-1)]) dX10_readRest_289 ca_X10_123 ⟨by decide, by decide⟩ h0 hA2970 rfl (Nat.le_of_ble_eq_true rfl) (Nat.le_of_ble_eq_true rfl) (by decide) (cs_X10_take hG2969 (oa_af h0 hA2970) (fun _ _ _ _ h => h)) rfl (fun _ h => nomatch h) (fun S2977 hx2981 hG2978 hB2979 hA2980 => ?_)
                          refine tt_aload_n (j := 0) dX10_readRest_292 rfl ?_
                          refine tt_aload_n (j := 0) dX10_readRest_293 rfl ?_
                          refine gt_gI (id := 674) (v := (hp_I S2792 674 o0)) dX10_readRest_294 fl_10_94 rfl rfl h0 hA2980 ((i_af (k := 674) (oa_af h0 hA2970) hB2979).trans ((congrFun (congrFun e2971 674) o0).trans ((congrFun (up2_ne (k := 674)) o0).trans rfl))) ?_
                          refine tt_if_ne (tgt := 308) dX10_readRest_297 rfl (fun q2982 => ?_) (fun q2982 => ?_)
                          · skip
                            refine tt_lconst (v := 0) dX10_readRest_308 rfl ?_
                            refine gt_pJ (id := 660) (x := 0) dX10_readRest_309 fl_10_116 rfl rfl h0 hA2980 rfl rfl rfl hG2978 (fun S2983 hG2984 hA2985 e2986 f2987 er2988 => ?_)
                            refine tt_goto (tgt := 766) dX10_readRest_312 rfl ?_
                            exact tt_vreturn dX10_readRest_766 rfl (hP _ _ _ _ ⟨hG2984, hA2985, Or.inl ⟨_, rfl, rfl, (fun q => ⟨(Or.inr (rg_cast ((congrFun (congrFun e2986 657) o0).trans hx2981.2.1) (rg_w (hx2796 (rg_eqc h2880))))), (rg_cast ((congrFun (congrFun e2986 658) o0).trans hx2981.2.2) (rg_w (⟨by decide, by decide⟩ : Rg (-1) (-1) (-1))))⟩), rfl, rfl⟩⟩)
                          · skip
                            refine tt_aload_n (j := 0) dX10_readRest_300 rfl ?_
                            refine tt_iconst (v := 4) dX10_readRest_301 rfl ?_
                            refine gt_VJ (As := [.int 4]) dX10_readRest_302 ca_X10_103 ⟨by decide, by decide⟩ h0 hA2980 rfl (Nat.le_of_ble_eq_true rfl) (Nat.le_of_ble_eq_true rfl) (by decide) (cs_X10_number hG2978 (oa_af h0 hA2980) (fun _ _ _ _ h => h)) rfl (fun _ h => nomatch h) (fun S2989 y2994 hx2993 hG2990 hB2991 hA2992 => ?_)
                            refine tt_goto (tgt := 309) dX10_readRest_305 rfl ?_
                            refine gt_pJ (id := 660) (x := y2994) dX10_readRest_309 fl_10_116 rfl rfl h0 hA2992 rfl rfl rfl hG2990 (fun S2996 hG2997 hA2998 e2999 f3000 er3001 => ?_)
                            refine tt_goto (tgt := 766) dX10_readRest_312 rfl ?_
                            exact tt_vreturn dX10_readRest_766 rfl (hP _ _ _ _ ⟨hG2997, hA2998, Or.inl ⟨_, rfl, rfl, (fun q => ⟨(Or.inr (rg_cast ((congrFun (congrFun e2999 657) o0).trans ((i_af (k := 657) (oa_af h0 hA2980) hB2991).trans hx2981.2.1)) (rg_w (hx2796 (rg_eqc h2880))))), (rg_cast ((congrFun (congrFun e2999 658) o0).trans ((i_af (k := 658) (oa_af h0 hA2980) hB2991).trans hx2981.2.2)) (rg_w (⟨by decide, by decide⟩ : Rg (-1) (-1) (-1))))⟩), rfl, rfl⟩⟩)
                        · skip
                          have h3002 : Rg 2 2 (hp_I S2792 674 o0) := rg_eq_l h2975 (⟨by decide, by decide⟩ : Rg 2 2 2) q2976
                          refine tt_bipush (v := 9) dX10_readRest_277 rfl ?_
                          refine tt_goto (tgt := 284) dX10_readRest_279 rfl ?_
                          refine tt_aload_n (j := 0) dX10_readRest_284 rfl ?_
                          refine gt_gI (id := 673) (v := (hp_I S2792 673 o0)) dX10_readRest_285 fl_10_100 rfl rfl h0 hA2970 ((congrFun (congrFun e2971 673) o0).trans ((congrFun (up2_ne (k := 673)) o0).trans rfl)) ?_
                          refine tt_iconst (v := (-1)) dX10_readRest_288 rfl ?_
                          refine gt_Vv (As := [.int 9, .int (hp_I S2792 673 o0), .int (-1)]) dX10_readRest_289 ca_X10_123 ⟨by decide, by decide⟩ h0 hA2970 rfl (Nat.le_of_ble_eq_true rfl) (Nat.le_of_ble_eq_true rfl) (by decide) (cs_X10_take hG2969 (oa_af h0 hA2970) (fun _ _ _ _ h => h)) rfl (fun _ h => nomatch h) (fun S3003 hx3007 hG3004 hB3005 hA3006 => ?_)
                          refine tt_aload_n (j := 0) dX10_readRest_292 rfl ?_
                          refine tt_aload_n (j := 0) dX10_readRest_293 rfl ?_
                          refine gt_gI (id := 674) (v := (hp_I S2792 674 o0)) dX10_readRest_294 fl_10_94 rfl rfl h0 hA3006 ((i_af (k := 674) (oa_af h0 hA2970) hB3005).trans ((congrFun (congrFun e2971 674) o0).trans ((congrFun (up2_ne (k := 674)) o0).trans rfl))) ?_
                          refine tt_if_ne (tgt := 308) dX10_readRest_297 rfl (fun q3008 => ?_) (fun q3008 => ?_)
                          · skip
                            refine tt_lconst (v := 0) dX10_readRest_308 rfl ?_
                            refine gt_pJ (id := 660) (x := 0) dX10_readRest_309 fl_10_116 rfl rfl h0 hA3006 rfl rfl rfl hG3004 (fun S3009 hG3010 hA3011 e3012 f3013 er3014 => ?_)
                            refine tt_goto (tgt := 766) dX10_readRest_312 rfl ?_
                            exact tt_vreturn dX10_readRest_766 rfl (hP _ _ _ _ ⟨hG3010, hA3011, Or.inl ⟨_, rfl, rfl, (fun q => ⟨(Or.inr (rg_cast ((congrFun (congrFun e3012 657) o0).trans hx3007.2.1) (rg_w (hx2796 (rg_eqc h2880))))), (rg_cast ((congrFun (congrFun e3012 658) o0).trans hx3007.2.2) (rg_w (⟨by decide, by decide⟩ : Rg (-1) (-1) (-1))))⟩), rfl, rfl⟩⟩)
                          · skip
                            refine tt_aload_n (j := 0) dX10_readRest_300 rfl ?_
                            refine tt_iconst (v := 4) dX10_readRest_301 rfl ?_
                            refine gt_VJ (As := [.int 4]) dX10_readRest_302 ca_X10_103 ⟨by decide, by decide⟩ h0 hA3006 rfl (Nat.le_of_ble_eq_true rfl) (Nat.le_of_ble_eq_true rfl) (by decide) (cs_X10_number hG3004 (oa_af h0 hA3006) (fun _ _ _ _ h => h)) rfl (fun _ h => nomatch h) (fun S3015 y3020 hx3019 hG3016 hB3017 hA3018 => ?_)
                            refine tt_goto (tgt := 309) dX10_readRest_305 rfl ?_
                            refine gt_pJ (id := 660) (x := y3020) dX10_readRest_309 fl_10_116 rfl rfl h0 hA3018 rfl rfl rfl hG3016 (fun S3022 hG3023 hA3024 e3025 f3026 er3027 => ?_)
                            refine tt_goto (tgt := 766) dX10_readRest_312 rfl ?_
                            exact tt_vreturn dX10_readRest_766 rfl (hP _ _ _ _ ⟨hG3023, hA3024, Or.inl ⟨_, rfl, rfl, (fun q => ⟨(Or.inr (rg_cast ((congrFun (congrFun e3025 657) o0).trans ((i_af (k := 657) (oa_af h0 hA3006) hB3017).trans hx3007.2.1)) (rg_w (hx2796 (rg_eqc h2880))))), (rg_cast ((congrFun (congrFun e3025 658) o0).trans ((i_af (k := 658) (oa_af h0 hA3006) hB3017).trans hx3007.2.2)) (rg_w (⟨by decide, by decide⟩ : Rg (-1) (-1) (-1))))⟩), rfl, rfl⟩⟩)
                      · skip
                        have h3028 : Rg 0 0 (hp_I S2792 674 o0) := rg_eq_l h2967 (⟨by decide, by decide⟩ : Rg 0 0 0) q2974
                        refine tt_bipush (v := 8) dX10_readRest_264 rfl ?_
                        refine tt_goto (tgt := 284) dX10_readRest_266 rfl ?_
                        refine tt_aload_n (j := 0) dX10_readRest_284 rfl ?_
                        refine gt_gI (id := 673) (v := (hp_I S2792 673 o0)) dX10_readRest_285 fl_10_100 rfl rfl h0 hA2970 ((congrFun (congrFun e2971 673) o0).trans ((congrFun (up2_ne (k := 673)) o0).trans rfl)) ?_
                        refine tt_iconst (v := (-1)) dX10_readRest_288 rfl ?_
                        refine gt_Vv (As := [.int 8, .int (hp_I S2792 673 o0), .int (-1)]) dX10_readRest_289 ca_X10_123 ⟨by decide, by decide⟩ h0 hA2970 rfl (Nat.le_of_ble_eq_true rfl) (Nat.le_of_ble_eq_true rfl) (by decide) (cs_X10_take hG2969 (oa_af h0 hA2970) (fun _ _ _ _ h => h)) rfl (fun _ h => nomatch h) (fun S3029 hx3033 hG3030 hB3031 hA3032 => ?_)
                        refine tt_aload_n (j := 0) dX10_readRest_292 rfl ?_
                        refine tt_aload_n (j := 0) dX10_readRest_293 rfl ?_
                        refine gt_gI (id := 674) (v := (hp_I S2792 674 o0)) dX10_readRest_294 fl_10_94 rfl rfl h0 hA3032 ((i_af (k := 674) (oa_af h0 hA2970) hB3031).trans ((congrFun (congrFun e2971 674) o0).trans ((congrFun (up2_ne (k := 674)) o0).trans rfl))) ?_
                        refine tt_if_ne (tgt := 308) dX10_readRest_297 rfl (fun q3034 => ?_) (fun q3034 => ?_)
                        · skip
                          have h3035 : Rg 1 0 (hp_I S2792 674 o0) := rg_ne_lo h3028 (⟨by decide, by decide⟩ : Rg 0 0 0) q3034
                          exact rg_no h3035
                        · skip
                          refine tt_aload_n (j := 0) dX10_readRest_300 rfl ?_
                          refine tt_iconst (v := 4) dX10_readRest_301 rfl ?_
                          refine gt_VJ (As := [.int 4]) dX10_readRest_302 ca_X10_103 ⟨by decide, by decide⟩ h0 hA3032 rfl (Nat.le_of_ble_eq_true rfl) (Nat.le_of_ble_eq_true rfl) (by decide) (cs_X10_number hG3030 (oa_af h0 hA3032) (fun _ _ _ _ h => h)) rfl (fun _ h => nomatch h) (fun S3036 y3041 hx3040 hG3037 hB3038 hA3039 => ?_)
                          refine tt_goto (tgt := 309) dX10_readRest_305 rfl ?_
                          refine gt_pJ (id := 660) (x := y3041) dX10_readRest_309 fl_10_116 rfl rfl h0 hA3039 rfl rfl rfl hG3037 (fun S3043 hG3044 hA3045 e3046 f3047 er3048 => ?_)
                          refine tt_goto (tgt := 766) dX10_readRest_312 rfl ?_
                          exact tt_vreturn dX10_readRest_766 rfl (hP _ _ _ _ ⟨hG3044, hA3045, Or.inl ⟨_, rfl, rfl, (fun q => ⟨(Or.inr (rg_cast ((congrFun (congrFun e3046 657) o0).trans ((i_af (k := 657) (oa_af h0 hA3032) hB3038).trans hx3033.2.1)) (rg_w (hx2796 (rg_eqc h2880))))), (rg_cast ((congrFun (congrFun e3046 658) o0).trans ((i_af (k := 658) (oa_af h0 hA3032) hB3038).trans hx3033.2.2)) (rg_w (⟨by decide, by decide⟩ : Rg (-1) (-1) (-1))))⟩), rfl, rfl⟩⟩)
                    · skip
                      have h3049 : Rg 4 7 (hp_I S2792 674 o0) := rg_lt_r (⟨by decide, by decide⟩ : Rg 3 3 3) (gi_I (k := 674) hG2793 (oa_af h0 hA2795) 0 7) (nle_lt q2966)
                      refine tt_iconst (v := 1) dX10_readRest_248 rfl ?_
                      refine tt_goto (tgt := 253) dX10_readRest_249 rfl ?_
                      refine gt_pI (id := 662) (x := 1) dX10_readRest_253 fl_10_84 rfl rfl h0 hA2795 rfl rfl rfl (gp_Ir hG2793 (⟨by decide, by decide⟩ : Rg 1 1 1)) (by decide) (fun _ _ q => absurd q (by decide)) (fun h => absurd h (by decide)) (fun S3050 hG3051 hA3052 e3053 f3054 er3055 => ?_)
                      refine tt_aload_n (j := 0) dX10_readRest_256 rfl ?_
                      refine tt_aload_n (j := 0) dX10_readRest_257 rfl ?_
                      refine gt_gI (id := 674) (v := (hp_I S2792 674 o0)) dX10_readRest_258 fl_10_94 rfl rfl h0 hA3052 ((congrFun (congrFun e3053 674) o0).trans ((congrFun (up2_ne (k := 674)) o0).trans rfl)) ?_
                      refine tt_if_ne (tgt := 269) dX10_readRest_261 rfl (fun q3056 => ?_) (fun q3056 => ?_)
                      · skip
                        refine tt_aload_n (j := 0) dX10_readRest_269 rfl ?_
                        refine gt_gI (id := 674) (v := (hp_I S2792 674 o0)) dX10_readRest_270 fl_10_94 rfl rfl h0 hA3052 ((congrFun (congrFun e3053 674) o0).trans ((congrFun (up2_ne (k := 674)) o0).trans rfl)) ?_
                        refine tt_iconst (v := 2) dX10_readRest_273 rfl ?_
                        refine tt_icmp_ne (tgt := 282) dX10_readRest_274 rfl (fun q3057 => ?_) (fun q3057 => ?_)
                        · skip
                          refine tt_bipush (v := 10) dX10_readRest_282 rfl ?_
                          refine tt_aload_n (j := 0) dX10_readRest_284 rfl ?_
                          refine gt_gI (id := 673) (v := (hp_I S2792 673 o0)) dX10_readRest_285 fl_10_100 rfl rfl h0 hA3052 ((congrFun (congrFun e3053 673) o0).trans ((congrFun (up2_ne (k := 673)) o0).trans rfl)) ?_
                          refine tt_iconst (v := (-1)) dX10_readRest_288 rfl ?_
                          refine gt_Vv (As := [.int 10, .int (hp_I S2792 673 o0), .int (-1)]) dX10_readRest_289 ca_X10_123 ⟨by decide, by decide⟩ h0 hA3052 rfl (Nat.le_of_ble_eq_true rfl) (Nat.le_of_ble_eq_true rfl) (by decide) (cs_X10_take hG3051 (oa_af h0 hA3052) (fun _ _ _ _ h => h)) rfl (fun _ h => nomatch h) (fun S3058 hx3062 hG3059 hB3060 hA3061 => ?_)
                          refine tt_aload_n (j := 0) dX10_readRest_292 rfl ?_
                          refine tt_aload_n (j := 0) dX10_readRest_293 rfl ?_
                          refine gt_gI (id := 674) (v := (hp_I S2792 674 o0)) dX10_readRest_294 fl_10_94 rfl rfl h0 hA3061 ((i_af (k := 674) (oa_af h0 hA3052) hB3060).trans ((congrFun (congrFun e3053 674) o0).trans ((congrFun (up2_ne (k := 674)) o0).trans rfl))) ?_
                          refine tt_if_ne (tgt := 308) dX10_readRest_297 rfl (fun q3063 => ?_) (fun q3063 => ?_)
                          · skip
                            refine tt_lconst (v := 0) dX10_readRest_308 rfl ?_
                            refine gt_pJ (id := 660) (x := 0) dX10_readRest_309 fl_10_116 rfl rfl h0 hA3061 rfl rfl rfl hG3059 (fun S3064 hG3065 hA3066 e3067 f3068 er3069 => ?_)
                            refine tt_goto (tgt := 766) dX10_readRest_312 rfl ?_
                            exact tt_vreturn dX10_readRest_766 rfl (hP _ _ _ _ ⟨hG3065, hA3066, Or.inl ⟨_, rfl, rfl, (fun q => (absurd (((congrFun (congrFun e3053 662) o0).trans up2_self).symm.trans (mo_af (oa_af h0 hA3052) hB3060 ((congrFun (congrFun e3067 662) o0).symm.trans q))) (by decide))), rfl, rfl⟩⟩)
                          · skip
                            refine tt_aload_n (j := 0) dX10_readRest_300 rfl ?_
                            refine tt_iconst (v := 4) dX10_readRest_301 rfl ?_
                            refine gt_VJ (As := [.int 4]) dX10_readRest_302 ca_X10_103 ⟨by decide, by decide⟩ h0 hA3061 rfl (Nat.le_of_ble_eq_true rfl) (Nat.le_of_ble_eq_true rfl) (by decide) (cs_X10_number hG3059 (oa_af h0 hA3061) (fun _ _ _ _ h => h)) rfl (fun _ h => nomatch h) (fun S3070 y3075 hx3074 hG3071 hB3072 hA3073 => ?_)
                            refine tt_goto (tgt := 309) dX10_readRest_305 rfl ?_
                            refine gt_pJ (id := 660) (x := y3075) dX10_readRest_309 fl_10_116 rfl rfl h0 hA3073 rfl rfl rfl hG3071 (fun S3077 hG3078 hA3079 e3080 f3081 er3082 => ?_)
                            refine tt_goto (tgt := 766) dX10_readRest_312 rfl ?_
                            exact tt_vreturn dX10_readRest_766 rfl (hP _ _ _ _ ⟨hG3078, hA3079, Or.inl ⟨_, rfl, rfl, (fun q => (absurd (((congrFun (congrFun e3053 662) o0).trans up2_self).symm.trans (mo_af (oa_af h0 hA3052) hB3060 (mo_af (oa_af h0 hA3061) hB3072 ((congrFun (congrFun e3080 662) o0).symm.trans q)))) (by decide))), rfl, rfl⟩⟩)
                        · skip
                          refine tt_bipush (v := 9) dX10_readRest_277 rfl ?_
                          refine tt_goto (tgt := 284) dX10_readRest_279 rfl ?_
                          refine tt_aload_n (j := 0) dX10_readRest_284 rfl ?_
                          refine gt_gI (id := 673) (v := (hp_I S2792 673 o0)) dX10_readRest_285 fl_10_100 rfl rfl h0 hA3052 ((congrFun (congrFun e3053 673) o0).trans ((congrFun (up2_ne (k := 673)) o0).trans rfl)) ?_
                          refine tt_iconst (v := (-1)) dX10_readRest_288 rfl ?_
                          refine gt_Vv (As := [.int 9, .int (hp_I S2792 673 o0), .int (-1)]) dX10_readRest_289 ca_X10_123 ⟨by decide, by decide⟩ h0 hA3052 rfl (Nat.le_of_ble_eq_true rfl) (Nat.le_of_ble_eq_true rfl) (by decide) (cs_X10_take hG3051 (oa_af h0 hA3052) (fun _ _ _ _ h => h)) rfl (fun _ h => nomatch h) (fun S3083 hx3087 hG3084 hB3085 hA3086 => ?_)
                          refine tt_aload_n (j := 0) dX10_readRest_292 rfl ?_
                          refine tt_aload_n (j := 0) dX10_readRest_293 rfl ?_
                          refine gt_gI (id := 674) (v := (hp_I S2792 674 o0)) dX10_readRest_294 fl_10_94 rfl rfl h0 hA3086 ((i_af (k := 674) (oa_af h0 hA3052) hB3085).trans ((congrFun (congrFun e3053 674) o0).trans ((congrFun (up2_ne (k := 674)) o0).trans rfl))) ?_
                          refine tt_if_ne (tgt := 308) dX10_readRest_297 rfl (fun q3088 => ?_) (fun q3088 => ?_)
                          · skip
                            refine tt_lconst (v := 0) dX10_readRest_308 rfl ?_
                            refine gt_pJ (id := 660) (x := 0) dX10_readRest_309 fl_10_116 rfl rfl h0 hA3086 rfl rfl rfl hG3084 (fun S3089 hG3090 hA3091 e3092 f3093 er3094 => ?_)
                            refine tt_goto (tgt := 766) dX10_readRest_312 rfl ?_
                            exact tt_vreturn dX10_readRest_766 rfl (hP _ _ _ _ ⟨hG3090, hA3091, Or.inl ⟨_, rfl, rfl, (fun q => (absurd (((congrFun (congrFun e3053 662) o0).trans up2_self).symm.trans (mo_af (oa_af h0 hA3052) hB3085 ((congrFun (congrFun e3092 662) o0).symm.trans q))) (by decide))), rfl, rfl⟩⟩)
                          · skip
                            refine tt_aload_n (j := 0) dX10_readRest_300 rfl ?_
                            refine tt_iconst (v := 4) dX10_readRest_301 rfl ?_
                            refine gt_VJ (As := [.int 4]) dX10_readRest_302 ca_X10_103 ⟨by decide, by decide⟩ h0 hA3086 rfl (Nat.le_of_ble_eq_true rfl) (Nat.le_of_ble_eq_true rfl) (by decide) (cs_X10_number hG3084 (oa_af h0 hA3086) (fun _ _ _ _ h => h)) rfl (fun _ h => nomatch h) (fun S3095 y3100 hx3099 hG3096 hB3097 hA3098 => ?_)
                            refine tt_goto (tgt := 309) dX10_readRest_305 rfl ?_
                            refine gt_pJ (id := 660) (x := y3100) dX10_readRest_309 fl_10_116 rfl rfl h0 hA3098 rfl rfl rfl hG3096 (fun S3102 hG3103 hA3104 e3105 f3106 er3107 => ?_)
                            refine tt_goto (tgt := 766) dX10_readRest_312 rfl ?_
                            exact tt_vreturn dX10_readRest_766 rfl (hP _ _ _ _ ⟨hG3103, hA3104, Or.inl ⟨_, rfl, rfl, (fun q => (absurd (((congrFun (congrFun e3053 662) o0).trans up2_self).symm.trans (mo_af (oa_af h0 hA3052) hB3085 (mo_af (oa_af h0 hA3086) hB3097 ((congrFun (congrFun e3105 662) o0).symm.trans q)))) (by decide))), rfl, rfl⟩⟩)
                      · skip
                        refine tt_bipush (v := 8) dX10_readRest_264 rfl ?_
                        refine tt_goto (tgt := 284) dX10_readRest_266 rfl ?_
                        refine tt_aload_n (j := 0) dX10_readRest_284 rfl ?_
                        refine gt_gI (id := 673) (v := (hp_I S2792 673 o0)) dX10_readRest_285 fl_10_100 rfl rfl h0 hA3052 ((congrFun (congrFun e3053 673) o0).trans ((congrFun (up2_ne (k := 673)) o0).trans rfl)) ?_
                        refine tt_iconst (v := (-1)) dX10_readRest_288 rfl ?_
                        refine gt_Vv (As := [.int 8, .int (hp_I S2792 673 o0), .int (-1)]) dX10_readRest_289 ca_X10_123 ⟨by decide, by decide⟩ h0 hA3052 rfl (Nat.le_of_ble_eq_true rfl) (Nat.le_of_ble_eq_true rfl) (by decide) (cs_X10_take hG3051 (oa_af h0 hA3052) (fun _ _ _ _ h => h)) rfl (fun _ h => nomatch h) (fun S3108 hx3112 hG3109 hB3110 hA3111 => ?_)
                        refine tt_aload_n (j := 0) dX10_readRest_292 rfl ?_
                        refine tt_aload_n (j := 0) dX10_readRest_293 rfl ?_
                        refine gt_gI (id := 674) (v := (hp_I S2792 674 o0)) dX10_readRest_294 fl_10_94 rfl rfl h0 hA3111 ((i_af (k := 674) (oa_af h0 hA3052) hB3110).trans ((congrFun (congrFun e3053 674) o0).trans ((congrFun (up2_ne (k := 674)) o0).trans rfl))) ?_
                        refine tt_if_ne (tgt := 308) dX10_readRest_297 rfl (fun q3113 => ?_) (fun q3113 => ?_)
                        · skip
                          refine tt_lconst (v := 0) dX10_readRest_308 rfl ?_
                          refine gt_pJ (id := 660) (x := 0) dX10_readRest_309 fl_10_116 rfl rfl h0 hA3111 rfl rfl rfl hG3109 (fun S3114 hG3115 hA3116 e3117 f3118 er3119 => ?_)
                          refine tt_goto (tgt := 766) dX10_readRest_312 rfl ?_
                          exact tt_vreturn dX10_readRest_766 rfl (hP _ _ _ _ ⟨hG3115, hA3116, Or.inl ⟨_, rfl, rfl, (fun q => (absurd (((congrFun (congrFun e3053 662) o0).trans up2_self).symm.trans (mo_af (oa_af h0 hA3052) hB3110 ((congrFun (congrFun e3117 662) o0).symm.trans q))) (by decide))), rfl, rfl⟩⟩)
                        · skip
                          refine tt_aload_n (j := 0) dX10_readRest_300 rfl ?_
                          refine tt_iconst (v := 4) dX10_readRest_301 rfl ?_
                          refine gt_VJ (As := [.int 4]) dX10_readRest_302 ca_X10_103 ⟨by decide, by decide⟩ h0 hA3111 rfl (Nat.le_of_ble_eq_true rfl) (Nat.le_of_ble_eq_true rfl) (by decide) (cs_X10_number hG3109 (oa_af h0 hA3111) (fun _ _ _ _ h => h)) rfl (fun _ h => nomatch h) (fun S3120 y3125 hx3124 hG3121 hB3122 hA3123 => ?_)
                          refine tt_goto (tgt := 309) dX10_readRest_305 rfl ?_
                          refine gt_pJ (id := 660) (x := y3125) dX10_readRest_309 fl_10_116 rfl rfl h0 hA3123 rfl rfl rfl hG3121 (fun S3127 hG3128 hA3129 e3130 f3131 er3132 => ?_)
                          refine tt_goto (tgt := 766) dX10_readRest_312 rfl ?_
                          exact tt_vreturn dX10_readRest_766 rfl (hP _ _ _ _ ⟨hG3128, hA3129, Or.inl ⟨_, rfl, rfl, (fun q => (absurd (((congrFun (congrFun e3053 662) o0).trans up2_self).symm.trans (mo_af (oa_af h0 hA3052) hB3110 (mo_af (oa_af h0 hA3111) hB3122 ((congrFun (congrFun e3130 662) o0).symm.trans q)))) (by decide))), rfl, rfl⟩⟩)
            · skip
              refine tt_aload_n (j := 0) dX10_readRest_190 rfl ?_
              refine tt_iload_n (j := 2) dX10_readRest_191 rfl ?_
              refine gt_Vv (As := [.int x2]) dX10_readRest_192 ca_X10_137 ⟨by decide, by decide⟩ h0 hA rfl (Nat.le_of_ble_eq_true rfl) (Nat.le_of_ble_eq_true rfl) (by decide) (cs_X10_readPlaces hG (oa_af h0 hA) (fun _ _ _ _ h => h)) rfl (fun _ h => nomatch h) (fun S3133 hx3137 hG3134 hB3135 hA3136 => ?_)
              refine tt_aload_n (j := 0) dX10_readRest_195 rfl ?_
              refine tt_bipush (v := 8) dX10_readRest_196 rfl ?_
              refine tt_aload_n (j := 0) dX10_readRest_198 rfl ?_
              refine tt_getI (id := 673) dX10_readRest_199 fl_10_100 rfl rfl (ob_af h0 hA3136) ?_
              refine tt_aload_n (j := 0) dX10_readRest_202 rfl ?_
              refine tt_getI (id := 672) dX10_readRest_203 fl_10_97 rfl rfl (ob_af h0 hA3136) ?_
              refine gt_Vv (As := [.int 8, .int (hp_I S3133 673 o0), .int (hp_I S3133 672 o0)]) dX10_readRest_206 ca_X10_123 ⟨by decide, by decide⟩ h0 hA3136 rfl (Nat.le_of_ble_eq_true rfl) (Nat.le_of_ble_eq_true rfl) (by decide) (cs_X10_take hG3134 (oa_af h0 hA3136) (fun _ _ _ _ h => h)) rfl (fun _ h => nomatch h) (fun S3138 hx3142 hG3139 hB3140 hA3141 => ?_)
              refine tt_goto (tgt := 766) dX10_readRest_209 rfl ?_
              exact tt_vreturn dX10_readRest_766 rfl (hP _ _ _ _ ⟨hG3139, hA3141, Or.inl ⟨_, rfl, rfl, (fun q => ⟨(Or.inr (rg_cast hx3142.2.1 (rg_w (hx3137 (mo_af (oa_af h0 hA3136) hB3140 q))))), (rg_cast hx3142.2.2 (rg_w (gi_I (k := 672) hG3134 (oa_af h0 hA3136) 0 15)))⟩), rfl, rfl⟩⟩)
          · skip
            refine tt_aload_n (j := 0) dX10_readRest_116 rfl ?_
            refine tt_iload_n (j := 2) dX10_readRest_117 rfl ?_
            refine gt_Vv (As := [.int x2]) dX10_readRest_118 ca_X10_137 ⟨by decide, by decide⟩ h0 hA rfl (Nat.le_of_ble_eq_true rfl) (Nat.le_of_ble_eq_true rfl) (by decide) (cs_X10_readPlaces hG (oa_af h0 hA) (fun _ _ _ _ h => h)) rfl (fun _ h => nomatch h) (fun S3143 hx3147 hG3144 hB3145 hA3146 => ?_)
            refine tt_aload_n (j := 0) dX10_readRest_121 rfl ?_
            refine tt_aload_n (j := 0) dX10_readRest_122 rfl ?_
            refine tt_getI (id := 662) dX10_readRest_123 fl_10_84 rfl rfl (ob_af h0 hA3146) ?_
            refine tt_if_ne (tgt := 139) dX10_readRest_126 rfl (fun q3148 => ?_) (fun q3148 => ?_)
            · skip
              have h3149 : Rg 1 1 (hp_I S3143 662 o0) := rg_ne_lo (gi_I (k := 662) hG3144 (oa_af h0 hA3146) 0 1) (⟨by decide, by decide⟩ : Rg 0 0 0) q3148
              refine tt_iconst (v := 1) dX10_readRest_139 rfl ?_
              refine tt_goto (tgt := 144) dX10_readRest_140 rfl ?_
              refine gt_pI (id := 662) (x := 1) dX10_readRest_144 fl_10_84 rfl rfl h0 hA3146 rfl rfl rfl (gp_Ir hG3144 (⟨by decide, by decide⟩ : Rg 1 1 1)) (by decide) (fun _ _ q => absurd q (by decide)) (fun h => absurd h (by decide)) (fun S3150 hG3151 hA3152 e3153 f3154 er3155 => ?_)
              refine tt_aload_n (j := 0) dX10_readRest_147 rfl ?_
              refine tt_aload_n (j := 0) dX10_readRest_148 rfl ?_
              refine tt_getI (id := 674) dX10_readRest_149 fl_10_94 rfl rfl (ob_af h0 hA3152) ?_
              refine tt_aload_n (j := 0) dX10_readRest_152 rfl ?_
              refine gt_gI (id := 673) (v := (hp_I S3143 673 o0)) dX10_readRest_153 fl_10_100 rfl rfl h0 hA3152 ((congrFun (congrFun e3153 673) o0).trans ((congrFun (up2_ne (k := 673)) o0).trans rfl)) ?_
              refine tt_iconst (v := (-1)) dX10_readRest_156 rfl ?_
              refine gt_Vv (As := [.int (hp_I S3150 674 o0), .int (hp_I S3143 673 o0), .int (-1)]) dX10_readRest_157 ca_X10_123 ⟨by decide, by decide⟩ h0 hA3152 rfl (Nat.le_of_ble_eq_true rfl) (Nat.le_of_ble_eq_true rfl) (by decide) (cs_X10_take hG3151 (oa_af h0 hA3152) (fun _ _ _ _ h => h)) rfl (fun _ h => nomatch h) (fun S3156 hx3160 hG3157 hB3158 hA3159 => ?_)
              refine tt_aload_n (j := 0) dX10_readRest_160 rfl ?_
              refine tt_aload_n (j := 0) dX10_readRest_161 rfl ?_
              refine tt_iload_n (j := 1) dX10_readRest_162 rfl ?_
              refine tt_sipush (v := 129) dX10_readRest_163 rfl ?_
              refine tt_icmp_ne (tgt := 173) dX10_readRest_166 rfl (fun q3161 => ?_) (fun q3161 => ?_)
              · skip
                refine tt_iconst (v := 1) dX10_readRest_173 rfl ?_
                refine gt_VJ (As := [.int 1]) dX10_readRest_174 ca_X10_103 ⟨by decide, by decide⟩ h0 hA3159 rfl (Nat.le_of_ble_eq_true rfl) (Nat.le_of_ble_eq_true rfl) (by decide) (cs_X10_number hG3157 (oa_af h0 hA3159) (fun _ _ _ _ h => h)) rfl (fun _ h => nomatch h) (fun S3162 y3167 hx3166 hG3163 hB3164 hA3165 => ?_)
                refine gt_pJ (id := 660) (x := y3167) dX10_readRest_177 fl_10_116 rfl rfl h0 hA3165 rfl rfl rfl hG3163 (fun S3169 hG3170 hA3171 e3172 f3173 er3174 => ?_)
                refine tt_goto (tgt := 766) dX10_readRest_180 rfl ?_
                exact tt_vreturn dX10_readRest_766 rfl (hP _ _ _ _ ⟨hG3170, hA3171, Or.inl ⟨_, rfl, rfl, (fun q => (absurd (((congrFun (congrFun e3153 662) o0).trans up2_self).symm.trans (mo_af (oa_af h0 hA3152) hB3158 (mo_af (oa_af h0 hA3159) hB3164 ((congrFun (congrFun e3172 662) o0).symm.trans q)))) (by decide))), rfl, rfl⟩⟩)
              · skip
                refine tt_iconst (v := 4) dX10_readRest_169 rfl ?_
                refine tt_goto (tgt := 174) dX10_readRest_170 rfl ?_
                refine gt_VJ (As := [.int 4]) dX10_readRest_174 ca_X10_103 ⟨by decide, by decide⟩ h0 hA3159 rfl (Nat.le_of_ble_eq_true rfl) (Nat.le_of_ble_eq_true rfl) (by decide) (cs_X10_number hG3157 (oa_af h0 hA3159) (fun _ _ _ _ h => h)) rfl (fun _ h => nomatch h) (fun S3175 y3180 hx3179 hG3176 hB3177 hA3178 => ?_)
                refine gt_pJ (id := 660) (x := y3180) dX10_readRest_177 fl_10_116 rfl rfl h0 hA3178 rfl rfl rfl hG3176 (fun S3182 hG3183 hA3184 e3185 f3186 er3187 => ?_)
                refine tt_goto (tgt := 766) dX10_readRest_180 rfl ?_
                exact tt_vreturn dX10_readRest_766 rfl (hP _ _ _ _ ⟨hG3183, hA3184, Or.inl ⟨_, rfl, rfl, (fun q => (absurd (((congrFun (congrFun e3153 662) o0).trans up2_self).symm.trans (mo_af (oa_af h0 hA3152) hB3158 (mo_af (oa_af h0 hA3159) hB3177 ((congrFun (congrFun e3185 662) o0).symm.trans q)))) (by decide))), rfl, rfl⟩⟩)
            · skip
              have h3188 : Rg 0 0 (hp_I S3143 662 o0) := rg_eq_l (gi_I (k := 662) hG3144 (oa_af h0 hA3146) 0 1) (⟨by decide, by decide⟩ : Rg 0 0 0) q3148
              refine tt_aload_n (j := 0) dX10_readRest_129 rfl ?_
              refine tt_getI (id := 674) dX10_readRest_130 fl_10_94 rfl rfl (ob_af h0 hA3146) ?_
              refine gt_SIp (As := [.int (hp_I S3143 674 o0)]) dX10_readRest_133 ca_X10_141 ⟨by decide, by decide⟩ hA3146 (Nat.le_of_ble_eq_true rfl) (Nat.le_of_ble_eq_true rfl) (by decide) (cs_X10_isSimple hG3144  (fun _ _ _ _ h => h)) rfl (fun _ h => nomatch h) (fun _ _ q => q) (fun x3194 h3195 hx3193 => ?_)
              refine tt_if_ne (tgt := 143) dX10_readRest_136 rfl (fun q3196 => ?_) (fun q3196 => ?_)
              · skip
                have h3197 : Rg 1 1 x3194 := rg_ne_lo h3195 (⟨by decide, by decide⟩ : Rg 0 0 0) q3196
                refine tt_iconst (v := 0) dX10_readRest_143 rfl ?_
                refine gt_pI (id := 662) (x := 0) dX10_readRest_144 fl_10_84 rfl rfl h0 hA3146 rfl rfl rfl (gp_Ir hG3144 (⟨by decide, by decide⟩ : Rg 0 0 0)) (by decide) (fun _ _ _ => (rg_eqc h3188)) (fun h => absurd h (by decide)) (fun S3198 hG3199 hA3200 e3201 f3202 er3203 => ?_)
                refine tt_aload_n (j := 0) dX10_readRest_147 rfl ?_
                refine tt_aload_n (j := 0) dX10_readRest_148 rfl ?_
                refine gt_gI (id := 674) (v := (hp_I S3143 674 o0)) dX10_readRest_149 fl_10_94 rfl rfl h0 hA3200 ((congrFun (congrFun e3201 674) o0).trans ((congrFun (up2_ne (k := 674)) o0).trans rfl)) ?_
                refine tt_aload_n (j := 0) dX10_readRest_152 rfl ?_
                refine gt_gI (id := 673) (v := (hp_I S3143 673 o0)) dX10_readRest_153 fl_10_100 rfl rfl h0 hA3200 ((congrFun (congrFun e3201 673) o0).trans ((congrFun (up2_ne (k := 673)) o0).trans rfl)) ?_
                refine tt_iconst (v := (-1)) dX10_readRest_156 rfl ?_
                refine gt_Vv (As := [.int (hp_I S3143 674 o0), .int (hp_I S3143 673 o0), .int (-1)]) dX10_readRest_157 ca_X10_123 ⟨by decide, by decide⟩ h0 hA3200 rfl (Nat.le_of_ble_eq_true rfl) (Nat.le_of_ble_eq_true rfl) (by decide) (cs_X10_take hG3199 (oa_af h0 hA3200) (fun _ _ _ _ h => h)) rfl (fun _ h => nomatch h) (fun S3204 hx3208 hG3205 hB3206 hA3207 => ?_)
                refine tt_aload_n (j := 0) dX10_readRest_160 rfl ?_
                refine tt_aload_n (j := 0) dX10_readRest_161 rfl ?_
                refine tt_iload_n (j := 1) dX10_readRest_162 rfl ?_
                refine tt_sipush (v := 129) dX10_readRest_163 rfl ?_
                refine tt_icmp_ne (tgt := 173) dX10_readRest_166 rfl (fun q3209 => ?_) (fun q3209 => ?_)
                · skip
                  refine tt_iconst (v := 1) dX10_readRest_173 rfl ?_
                  refine gt_VJ (As := [.int 1]) dX10_readRest_174 ca_X10_103 ⟨by decide, by decide⟩ h0 hA3207 rfl (Nat.le_of_ble_eq_true rfl) (Nat.le_of_ble_eq_true rfl) (by decide) (cs_X10_number hG3205 (oa_af h0 hA3207) (fun _ _ _ _ h => h)) rfl (fun _ h => nomatch h) (fun S3210 y3215 hx3214 hG3211 hB3212 hA3213 => ?_)
                  refine gt_pJ (id := 660) (x := y3215) dX10_readRest_177 fl_10_116 rfl rfl h0 hA3213 rfl rfl rfl hG3211 (fun S3217 hG3218 hA3219 e3220 f3221 er3222 => ?_)
                  refine tt_goto (tgt := 766) dX10_readRest_180 rfl ?_
                  exact tt_vreturn dX10_readRest_766 rfl (hP _ _ _ _ ⟨hG3218, hA3219, Or.inl ⟨_, rfl, rfl, (fun q => ⟨(Or.inr (rg_cast ((congrFun (congrFun e3220 657) o0).trans ((i_af (k := 657) (oa_af h0 hA3207) hB3212).trans hx3208.2.1)) (rg_w (hx3147 (rg_eqc h3188))))), (rg_cast ((congrFun (congrFun e3220 658) o0).trans ((i_af (k := 658) (oa_af h0 hA3207) hB3212).trans hx3208.2.2)) (rg_w (⟨by decide, by decide⟩ : Rg (-1) (-1) (-1))))⟩), rfl, rfl⟩⟩)
                · skip
                  refine tt_iconst (v := 4) dX10_readRest_169 rfl ?_
                  refine tt_goto (tgt := 174) dX10_readRest_170 rfl ?_
                  refine gt_VJ (As := [.int 4]) dX10_readRest_174 ca_X10_103 ⟨by decide, by decide⟩ h0 hA3207 rfl (Nat.le_of_ble_eq_true rfl) (Nat.le_of_ble_eq_true rfl) (by decide) (cs_X10_number hG3205 (oa_af h0 hA3207) (fun _ _ _ _ h => h)) rfl (fun _ h => nomatch h) (fun S3223 y3228 hx3227 hG3224 hB3225 hA3226 => ?_)
                  refine gt_pJ (id := 660) (x := y3228) dX10_readRest_177 fl_10_116 rfl rfl h0 hA3226 rfl rfl rfl hG3224 (fun S3230 hG3231 hA3232 e3233 f3234 er3235 => ?_)
                  refine tt_goto (tgt := 766) dX10_readRest_180 rfl ?_
                  exact tt_vreturn dX10_readRest_766 rfl (hP _ _ _ _ ⟨hG3231, hA3232, Or.inl ⟨_, rfl, rfl, (fun q => ⟨(Or.inr (rg_cast ((congrFun (congrFun e3233 657) o0).trans ((i_af (k := 657) (oa_af h0 hA3207) hB3225).trans hx3208.2.1)) (rg_w (hx3147 (rg_eqc h3188))))), (rg_cast ((congrFun (congrFun e3233 658) o0).trans ((i_af (k := 658) (oa_af h0 hA3207) hB3225).trans hx3208.2.2)) (rg_w (⟨by decide, by decide⟩ : Rg (-1) (-1) (-1))))⟩), rfl, rfl⟩⟩)
              · skip
                have h3236 : Rg 0 0 x3194 := rg_eq_l h3195 (⟨by decide, by decide⟩ : Rg 0 0 0) q3196
                refine tt_iconst (v := 1) dX10_readRest_139 rfl ?_
                refine tt_goto (tgt := 144) dX10_readRest_140 rfl ?_
                refine gt_pI (id := 662) (x := 1) dX10_readRest_144 fl_10_84 rfl rfl h0 hA3146 rfl rfl rfl (gp_Ir hG3144 (⟨by decide, by decide⟩ : Rg 1 1 1)) (by decide) (fun _ _ q => absurd q (by decide)) (fun h => absurd h (by decide)) (fun S3237 hG3238 hA3239 e3240 f3241 er3242 => ?_)
                refine tt_aload_n (j := 0) dX10_readRest_147 rfl ?_
                refine tt_aload_n (j := 0) dX10_readRest_148 rfl ?_
                refine gt_gI (id := 674) (v := (hp_I S3143 674 o0)) dX10_readRest_149 fl_10_94 rfl rfl h0 hA3239 ((congrFun (congrFun e3240 674) o0).trans ((congrFun (up2_ne (k := 674)) o0).trans rfl)) ?_
                refine tt_aload_n (j := 0) dX10_readRest_152 rfl ?_
                refine gt_gI (id := 673) (v := (hp_I S3143 673 o0)) dX10_readRest_153 fl_10_100 rfl rfl h0 hA3239 ((congrFun (congrFun e3240 673) o0).trans ((congrFun (up2_ne (k := 673)) o0).trans rfl)) ?_
                refine tt_iconst (v := (-1)) dX10_readRest_156 rfl ?_
                refine gt_Vv (As := [.int (hp_I S3143 674 o0), .int (hp_I S3143 673 o0), .int (-1)]) dX10_readRest_157 ca_X10_123 ⟨by decide, by decide⟩ h0 hA3239 rfl (Nat.le_of_ble_eq_true rfl) (Nat.le_of_ble_eq_true rfl) (by decide) (cs_X10_take hG3238 (oa_af h0 hA3239) (fun _ _ _ _ h => h)) rfl (fun _ h => nomatch h) (fun S3243 hx3247 hG3244 hB3245 hA3246 => ?_)
                refine tt_aload_n (j := 0) dX10_readRest_160 rfl ?_
                refine tt_aload_n (j := 0) dX10_readRest_161 rfl ?_
                refine tt_iload_n (j := 1) dX10_readRest_162 rfl ?_
                refine tt_sipush (v := 129) dX10_readRest_163 rfl ?_
                refine tt_icmp_ne (tgt := 173) dX10_readRest_166 rfl (fun q3248 => ?_) (fun q3248 => ?_)
                · skip
                  refine tt_iconst (v := 1) dX10_readRest_173 rfl ?_
                  refine gt_VJ (As := [.int 1]) dX10_readRest_174 ca_X10_103 ⟨by decide, by decide⟩ h0 hA3246 rfl (Nat.le_of_ble_eq_true rfl) (Nat.le_of_ble_eq_true rfl) (by decide) (cs_X10_number hG3244 (oa_af h0 hA3246) (fun _ _ _ _ h => h)) rfl (fun _ h => nomatch h) (fun S3249 y3254 hx3253 hG3250 hB3251 hA3252 => ?_)
                  refine gt_pJ (id := 660) (x := y3254) dX10_readRest_177 fl_10_116 rfl rfl h0 hA3252 rfl rfl rfl hG3250 (fun S3256 hG3257 hA3258 e3259 f3260 er3261 => ?_)
                  refine tt_goto (tgt := 766) dX10_readRest_180 rfl ?_
                  exact tt_vreturn dX10_readRest_766 rfl (hP _ _ _ _ ⟨hG3257, hA3258, Or.inl ⟨_, rfl, rfl, (fun q => (absurd (((congrFun (congrFun e3240 662) o0).trans up2_self).symm.trans (mo_af (oa_af h0 hA3239) hB3245 (mo_af (oa_af h0 hA3246) hB3251 ((congrFun (congrFun e3259 662) o0).symm.trans q)))) (by decide))), rfl, rfl⟩⟩)
                · skip
                  refine tt_iconst (v := 4) dX10_readRest_169 rfl ?_
                  refine tt_goto (tgt := 174) dX10_readRest_170 rfl ?_
                  refine gt_VJ (As := [.int 4]) dX10_readRest_174 ca_X10_103 ⟨by decide, by decide⟩ h0 hA3246 rfl (Nat.le_of_ble_eq_true rfl) (Nat.le_of_ble_eq_true rfl) (by decide) (cs_X10_number hG3244 (oa_af h0 hA3246) (fun _ _ _ _ h => h)) rfl (fun _ h => nomatch h) (fun S3262 y3267 hx3266 hG3263 hB3264 hA3265 => ?_)
                  refine gt_pJ (id := 660) (x := y3267) dX10_readRest_177 fl_10_116 rfl rfl h0 hA3265 rfl rfl rfl hG3263 (fun S3269 hG3270 hA3271 e3272 f3273 er3274 => ?_)
                  refine tt_goto (tgt := 766) dX10_readRest_180 rfl ?_
                  exact tt_vreturn dX10_readRest_766 rfl (hP _ _ _ _ ⟨hG3270, hA3271, Or.inl ⟨_, rfl, rfl, (fun q => (absurd (((congrFun (congrFun e3240 662) o0).trans up2_self).symm.trans (mo_af (oa_af h0 hA3239) hB3245 (mo_af (oa_af h0 hA3246) hB3264 ((congrFun (congrFun e3272 662) o0).symm.trans q)))) (by decide))), rfl, rfl⟩⟩)
      · skip
        have h3275 : Rg 3 3 x1993 := rg_eq_l (rg_all x1993) (⟨by decide, by decide⟩ : Rg 3 3 3) q1994
        refine tt_aload_n (j := 0) dX10_readRest_22 rfl ?_
        refine tt_iload_n (j := 2) dX10_readRest_23 rfl ?_
        refine gt_Vv (As := [.int x2]) dX10_readRest_24 ca_X10_137 ⟨by decide, by decide⟩ h0 hA rfl (Nat.le_of_ble_eq_true rfl) (Nat.le_of_ble_eq_true rfl) (by decide) (cs_X10_readPlaces hG (oa_af h0 hA) (fun _ _ _ _ h => h)) rfl (fun _ h => nomatch h) (fun S3276 hx3280 hG3277 hB3278 hA3279 => ?_)
        refine tt_aload_n (j := 0) dX10_readRest_27 rfl ?_
        refine tt_aload_n (j := 0) dX10_readRest_28 rfl ?_
        refine tt_getI (id := 662) dX10_readRest_29 fl_10_84 rfl rfl (ob_af h0 hA3279) ?_
        refine tt_if_ne (tgt := 45) dX10_readRest_32 rfl (fun q3281 => ?_) (fun q3281 => ?_)
        · skip
          have h3282 : Rg 1 1 (hp_I S3276 662 o0) := rg_ne_lo (gi_I (k := 662) hG3277 (oa_af h0 hA3279) 0 1) (⟨by decide, by decide⟩ : Rg 0 0 0) q3281
          refine tt_iconst (v := 1) dX10_readRest_45 rfl ?_
          refine tt_goto (tgt := 50) dX10_readRest_46 rfl ?_
          refine gt_pI (id := 662) (x := 1) dX10_readRest_50 fl_10_84 rfl rfl h0 hA3279 rfl rfl rfl (gp_Ir hG3277 (⟨by decide, by decide⟩ : Rg 1 1 1)) (by decide) (fun _ _ q => absurd q (by decide)) (fun h => absurd h (by decide)) (fun S3283 hG3284 hA3285 e3286 f3287 er3288 => ?_)
          refine tt_aload_n (j := 0) dX10_readRest_53 rfl ?_
          refine tt_iload_n (j := 1) dX10_readRest_54 rfl ?_
          refine tt_bipush (v := 8) dX10_readRest_55 rfl ?_
          refine tt_idiv dX10_readRest_57 (by decide) (gt_ti (fun x3289 => ?_))
          refine tt_iload_n (j := 1) dX10_readRest_58 rfl ?_
          refine tt_bipush (v := 8) dX10_readRest_59 rfl ?_
          refine tt_irem dX10_readRest_61 (by decide) (gt_ti (fun x3290 => ?_))
          refine tt_iconst (v := 1) dX10_readRest_62 rfl ?_
          refine tt_icmp_ne (tgt := 73) dX10_readRest_63 rfl (fun q3291 => ?_) (fun q3291 => ?_)
          · skip
            refine tt_aload_n (j := 0) dX10_readRest_73 rfl ?_
            refine tt_getI (id := 672) dX10_readRest_74 fl_10_97 rfl rfl (ob_af h0 hA3285) ?_
            refine tt_iload_n (j := 1) dX10_readRest_77 rfl ?_
            refine tt_bipush (v := 8) dX10_readRest_78 rfl ?_
            refine tt_irem dX10_readRest_80 (by decide) (gt_ti (fun x3292 => ?_))
            refine tt_iconst (v := 1) dX10_readRest_81 rfl ?_
            refine tt_icmp_ne (tgt := 92) dX10_readRest_82 rfl (fun q3293 => ?_) (fun q3293 => ?_)
            · skip
              refine tt_aload_n (j := 0) dX10_readRest_92 rfl ?_
              refine gt_gI (id := 673) (v := (hp_I S3276 673 o0)) dX10_readRest_93 fl_10_100 rfl rfl h0 hA3285 ((congrFun (congrFun e3286 673) o0).trans ((congrFun (up2_ne (k := 673)) o0).trans rfl)) ?_
              refine gt_Vv (As := [.int x3289, .int (hp_I S3283 672 o0), .int (hp_I S3276 673 o0)]) dX10_readRest_96 ca_X10_123 ⟨by decide, by decide⟩ h0 hA3285 rfl (Nat.le_of_ble_eq_true rfl) (Nat.le_of_ble_eq_true rfl) (by decide) (cs_X10_take hG3284 (oa_af h0 hA3285) (fun _ _ _ _ h => h)) rfl (fun _ h => nomatch h) (fun S3294 hx3298 hG3295 hB3296 hA3297 => ?_)
              refine tt_goto (tgt := 766) dX10_readRest_99 rfl ?_
              exact tt_vreturn dX10_readRest_766 rfl (hP _ _ _ _ ⟨hG3295, hA3297, Or.inl ⟨_, rfl, rfl, (fun q => (absurd (((congrFun (congrFun e3286 662) o0).trans up2_self).symm.trans (mo_af (oa_af h0 hA3285) hB3296 q)) (by decide))), rfl, rfl⟩⟩)
            · skip
              have h3299 : Rg 1 1 x3292 := rg_eq_l (rg_all x3292) (⟨by decide, by decide⟩ : Rg 1 1 1) q3293
              refine tt_aload_n (j := 0) dX10_readRest_85 rfl ?_
              refine tt_getI (id := 672) dX10_readRest_86 fl_10_97 rfl rfl (ob_af h0 hA3285) ?_
              refine tt_goto (tgt := 96) dX10_readRest_89 rfl ?_
              refine gt_Vv (As := [.int x3289, .int (hp_I S3283 672 o0), .int (hp_I S3283 672 o0)]) dX10_readRest_96 ca_X10_123 ⟨by decide, by decide⟩ h0 hA3285 rfl (Nat.le_of_ble_eq_true rfl) (Nat.le_of_ble_eq_true rfl) (by decide) (cs_X10_take hG3284 (oa_af h0 hA3285) (fun _ _ _ _ h => h)) rfl (fun _ h => nomatch h) (fun S3300 hx3304 hG3301 hB3302 hA3303 => ?_)
              refine tt_goto (tgt := 766) dX10_readRest_99 rfl ?_
              exact tt_vreturn dX10_readRest_766 rfl (hP _ _ _ _ ⟨hG3301, hA3303, Or.inl ⟨_, rfl, rfl, (fun q => (absurd (((congrFun (congrFun e3286 662) o0).trans up2_self).symm.trans (mo_af (oa_af h0 hA3285) hB3302 q)) (by decide))), rfl, rfl⟩⟩)
          · skip
            have h3305 : Rg 1 1 x3290 := rg_eq_l (rg_all x3290) (⟨by decide, by decide⟩ : Rg 1 1 1) q3291
            refine tt_aload_n (j := 0) dX10_readRest_66 rfl ?_
            refine gt_gI (id := 673) (v := (hp_I S3276 673 o0)) dX10_readRest_67 fl_10_100 rfl rfl h0 hA3285 ((congrFun (congrFun e3286 673) o0).trans ((congrFun (up2_ne (k := 673)) o0).trans rfl)) ?_
            refine tt_goto (tgt := 77) dX10_readRest_70 rfl ?_
            refine tt_iload_n (j := 1) dX10_readRest_77 rfl ?_
            refine tt_bipush (v := 8) dX10_readRest_78 rfl ?_
            refine tt_irem dX10_readRest_80 (by decide) (gt_ti (fun x3306 => ?_))
            refine tt_iconst (v := 1) dX10_readRest_81 rfl ?_
            refine tt_icmp_ne (tgt := 92) dX10_readRest_82 rfl (fun q3307 => ?_) (fun q3307 => ?_)
            · skip
              refine tt_aload_n (j := 0) dX10_readRest_92 rfl ?_
              refine gt_gI (id := 673) (v := (hp_I S3276 673 o0)) dX10_readRest_93 fl_10_100 rfl rfl h0 hA3285 ((congrFun (congrFun e3286 673) o0).trans ((congrFun (up2_ne (k := 673)) o0).trans rfl)) ?_
              refine gt_Vv (As := [.int x3289, .int (hp_I S3276 673 o0), .int (hp_I S3276 673 o0)]) dX10_readRest_96 ca_X10_123 ⟨by decide, by decide⟩ h0 hA3285 rfl (Nat.le_of_ble_eq_true rfl) (Nat.le_of_ble_eq_true rfl) (by decide) (cs_X10_take hG3284 (oa_af h0 hA3285) (fun _ _ _ _ h => h)) rfl (fun _ h => nomatch h) (fun S3308 hx3312 hG3309 hB3310 hA3311 => ?_)
              refine tt_goto (tgt := 766) dX10_readRest_99 rfl ?_
              exact tt_vreturn dX10_readRest_766 rfl (hP _ _ _ _ ⟨hG3309, hA3311, Or.inl ⟨_, rfl, rfl, (fun q => (absurd (((congrFun (congrFun e3286 662) o0).trans up2_self).symm.trans (mo_af (oa_af h0 hA3285) hB3310 q)) (by decide))), rfl, rfl⟩⟩)
            · skip
              have h3313 : Rg 1 1 x3306 := rg_eq_l (rg_all x3306) (⟨by decide, by decide⟩ : Rg 1 1 1) q3307
              refine tt_aload_n (j := 0) dX10_readRest_85 rfl ?_
              refine tt_getI (id := 672) dX10_readRest_86 fl_10_97 rfl rfl (ob_af h0 hA3285) ?_
              refine tt_goto (tgt := 96) dX10_readRest_89 rfl ?_
              refine gt_Vv (As := [.int x3289, .int (hp_I S3276 673 o0), .int (hp_I S3283 672 o0)]) dX10_readRest_96 ca_X10_123 ⟨by decide, by decide⟩ h0 hA3285 rfl (Nat.le_of_ble_eq_true rfl) (Nat.le_of_ble_eq_true rfl) (by decide) (cs_X10_take hG3284 (oa_af h0 hA3285) (fun _ _ _ _ h => h)) rfl (fun _ h => nomatch h) (fun S3314 hx3318 hG3315 hB3316 hA3317 => ?_)
              refine tt_goto (tgt := 766) dX10_readRest_99 rfl ?_
              exact tt_vreturn dX10_readRest_766 rfl (hP _ _ _ _ ⟨hG3315, hA3317, Or.inl ⟨_, rfl, rfl, (fun q => (absurd (((congrFun (congrFun e3286 662) o0).trans up2_self).symm.trans (mo_af (oa_af h0 hA3285) hB3316 q)) (by decide))), rfl, rfl⟩⟩)
        · skip
          have h3319 : Rg 0 0 (hp_I S3276 662 o0) := rg_eq_l (gi_I (k := 662) hG3277 (oa_af h0 hA3279) 0 1) (⟨by decide, by decide⟩ : Rg 0 0 0) q3281
          refine tt_iload_n (j := 1) dX10_readRest_35 rfl ?_
          refine tt_bipush (v := 8) dX10_readRest_36 rfl ?_
          refine tt_idiv dX10_readRest_38 (by decide) (gt_ti (fun x3320 => ?_))
          refine gt_SIp (As := [.int x3320]) dX10_readRest_39 ca_X10_141 ⟨by decide, by decide⟩ hA3279 (Nat.le_of_ble_eq_true rfl) (Nat.le_of_ble_eq_true rfl) (by decide) (cs_X10_isSimple hG3277  (fun _ _ _ _ h => h)) rfl (fun _ h => nomatch h) (fun _ _ q => q) (fun x3326 h3327 hx3325 => ?_)
          refine tt_if_ne (tgt := 49) dX10_readRest_42 rfl (fun q3328 => ?_) (fun q3328 => ?_)
          · skip
            have h3329 : Rg 1 1 x3326 := rg_ne_lo h3327 (⟨by decide, by decide⟩ : Rg 0 0 0) q3328
            refine tt_iconst (v := 0) dX10_readRest_49 rfl ?_
            refine gt_pI (id := 662) (x := 0) dX10_readRest_50 fl_10_84 rfl rfl h0 hA3279 rfl rfl rfl (gp_Ir hG3277 (⟨by decide, by decide⟩ : Rg 0 0 0)) (by decide) (fun _ _ _ => (rg_eqc h3319)) (fun h => absurd h (by decide)) (fun S3330 hG3331 hA3332 e3333 f3334 er3335 => ?_)
            refine tt_aload_n (j := 0) dX10_readRest_53 rfl ?_
            refine tt_iload_n (j := 1) dX10_readRest_54 rfl ?_
            refine tt_bipush (v := 8) dX10_readRest_55 rfl ?_
            refine tt_idiv dX10_readRest_57 (by decide) (gt_ti (fun x3336 => ?_))
            refine tt_iload_n (j := 1) dX10_readRest_58 rfl ?_
            refine tt_bipush (v := 8) dX10_readRest_59 rfl ?_
            refine tt_irem dX10_readRest_61 (by decide) (gt_ti (fun x3337 => ?_))
            refine tt_iconst (v := 1) dX10_readRest_62 rfl ?_
            refine tt_icmp_ne (tgt := 73) dX10_readRest_63 rfl (fun q3338 => ?_) (fun q3338 => ?_)
            · skip
              refine tt_aload_n (j := 0) dX10_readRest_73 rfl ?_
              refine tt_getI (id := 672) dX10_readRest_74 fl_10_97 rfl rfl (ob_af h0 hA3332) ?_
              refine tt_iload_n (j := 1) dX10_readRest_77 rfl ?_
              refine tt_bipush (v := 8) dX10_readRest_78 rfl ?_
              refine tt_irem dX10_readRest_80 (by decide) (gt_ti (fun x3339 => ?_))
              refine tt_iconst (v := 1) dX10_readRest_81 rfl ?_
              refine tt_icmp_ne (tgt := 92) dX10_readRest_82 rfl (fun q3340 => ?_) (fun q3340 => ?_)
              · skip
                refine tt_aload_n (j := 0) dX10_readRest_92 rfl ?_
                refine gt_gI (id := 673) (v := (hp_I S3276 673 o0)) dX10_readRest_93 fl_10_100 rfl rfl h0 hA3332 ((congrFun (congrFun e3333 673) o0).trans ((congrFun (up2_ne (k := 673)) o0).trans rfl)) ?_
                refine gt_Vv (As := [.int x3336, .int (hp_I S3330 672 o0), .int (hp_I S3276 673 o0)]) dX10_readRest_96 ca_X10_123 ⟨by decide, by decide⟩ h0 hA3332 rfl (Nat.le_of_ble_eq_true rfl) (Nat.le_of_ble_eq_true rfl) (by decide) (cs_X10_take hG3331 (oa_af h0 hA3332) (fun _ _ _ _ h => h)) rfl (fun _ h => nomatch h) (fun S3341 hx3345 hG3342 hB3343 hA3344 => ?_)
                refine tt_goto (tgt := 766) dX10_readRest_99 rfl ?_
                exact tt_vreturn dX10_readRest_766 rfl (hP _ _ _ _ ⟨hG3342, hA3344, Or.inl ⟨_, rfl, rfl, (fun q => ⟨(Or.inr (rg_cast hx3345.2.1 (rg_w (gi_I (k := 672) hG3331 (oa_af h0 hA3332) 0 15)))), (rg_cast hx3345.2.2 (rg_w (hx3280 (rg_eqc h3319))))⟩), rfl, rfl⟩⟩)
              · skip
                have h3346 : Rg 1 1 x3339 := rg_eq_l (rg_all x3339) (⟨by decide, by decide⟩ : Rg 1 1 1) q3340
                refine tt_aload_n (j := 0) dX10_readRest_85 rfl ?_
                refine tt_getI (id := 672) dX10_readRest_86 fl_10_97 rfl rfl (ob_af h0 hA3332) ?_
                refine tt_goto (tgt := 96) dX10_readRest_89 rfl ?_
                refine gt_Vv (As := [.int x3336, .int (hp_I S3330 672 o0), .int (hp_I S3330 672 o0)]) dX10_readRest_96 ca_X10_123 ⟨by decide, by decide⟩ h0 hA3332 rfl (Nat.le_of_ble_eq_true rfl) (Nat.le_of_ble_eq_true rfl) (by decide) (cs_X10_take hG3331 (oa_af h0 hA3332) (fun _ _ _ _ h => h)) rfl (fun _ h => nomatch h) (fun S3347 hx3351 hG3348 hB3349 hA3350 => ?_)
                refine tt_goto (tgt := 766) dX10_readRest_99 rfl ?_
                exact tt_vreturn dX10_readRest_766 rfl (hP _ _ _ _ ⟨hG3348, hA3350, Or.inl ⟨_, rfl, rfl, (fun q => ⟨(Or.inr (rg_cast hx3351.2.1 (rg_w (gi_I (k := 672) hG3331 (oa_af h0 hA3332) 0 15)))), (rg_cast hx3351.2.2 (rg_w (gi_I (k := 672) hG3331 (oa_af h0 hA3332) 0 15)))⟩), rfl, rfl⟩⟩)
            · skip
              have h3352 : Rg 1 1 x3337 := rg_eq_l (rg_all x3337) (⟨by decide, by decide⟩ : Rg 1 1 1) q3338
              refine tt_aload_n (j := 0) dX10_readRest_66 rfl ?_
              refine gt_gI (id := 673) (v := (hp_I S3276 673 o0)) dX10_readRest_67 fl_10_100 rfl rfl h0 hA3332 ((congrFun (congrFun e3333 673) o0).trans ((congrFun (up2_ne (k := 673)) o0).trans rfl)) ?_
              refine tt_goto (tgt := 77) dX10_readRest_70 rfl ?_
              refine tt_iload_n (j := 1) dX10_readRest_77 rfl ?_
              refine tt_bipush (v := 8) dX10_readRest_78 rfl ?_
              refine tt_irem dX10_readRest_80 (by decide) (gt_ti (fun x3353 => ?_))
              refine tt_iconst (v := 1) dX10_readRest_81 rfl ?_
              refine tt_icmp_ne (tgt := 92) dX10_readRest_82 rfl (fun q3354 => ?_) (fun q3354 => ?_)
              · skip
                refine tt_aload_n (j := 0) dX10_readRest_92 rfl ?_
                refine gt_gI (id := 673) (v := (hp_I S3276 673 o0)) dX10_readRest_93 fl_10_100 rfl rfl h0 hA3332 ((congrFun (congrFun e3333 673) o0).trans ((congrFun (up2_ne (k := 673)) o0).trans rfl)) ?_
                refine gt_Vv (As := [.int x3336, .int (hp_I S3276 673 o0), .int (hp_I S3276 673 o0)]) dX10_readRest_96 ca_X10_123 ⟨by decide, by decide⟩ h0 hA3332 rfl (Nat.le_of_ble_eq_true rfl) (Nat.le_of_ble_eq_true rfl) (by decide) (cs_X10_take hG3331 (oa_af h0 hA3332) (fun _ _ _ _ h => h)) rfl (fun _ h => nomatch h) (fun S3355 hx3359 hG3356 hB3357 hA3358 => ?_)
                refine tt_goto (tgt := 766) dX10_readRest_99 rfl ?_
                exact tt_vreturn dX10_readRest_766 rfl (hP _ _ _ _ ⟨hG3356, hA3358, Or.inl ⟨_, rfl, rfl, (fun q => ⟨(Or.inr (rg_cast hx3359.2.1 (rg_w (hx3280 (rg_eqc h3319))))), (rg_cast hx3359.2.2 (rg_w (hx3280 (rg_eqc h3319))))⟩), rfl, rfl⟩⟩)
              · skip
                have h3360 : Rg 1 1 x3353 := rg_eq_l (rg_all x3353) (⟨by decide, by decide⟩ : Rg 1 1 1) q3354
                refine tt_aload_n (j := 0) dX10_readRest_85 rfl ?_
                refine tt_getI (id := 672) dX10_readRest_86 fl_10_97 rfl rfl (ob_af h0 hA3332) ?_
                refine tt_goto (tgt := 96) dX10_readRest_89 rfl ?_
                refine gt_Vv (As := [.int x3336, .int (hp_I S3276 673 o0), .int (hp_I S3330 672 o0)]) dX10_readRest_96 ca_X10_123 ⟨by decide, by decide⟩ h0 hA3332 rfl (Nat.le_of_ble_eq_true rfl) (Nat.le_of_ble_eq_true rfl) (by decide) (cs_X10_take hG3331 (oa_af h0 hA3332) (fun _ _ _ _ h => h)) rfl (fun _ h => nomatch h) (fun S3361 hx3365 hG3362 hB3363 hA3364 => ?_)
                refine tt_goto (tgt := 766) dX10_readRest_99 rfl ?_
                exact tt_vreturn dX10_readRest_766 rfl (hP _ _ _ _ ⟨hG3362, hA3364, Or.inl ⟨_, rfl, rfl, (fun q => ⟨(Or.inr (rg_cast hx3365.2.1 (rg_w (hx3280 (rg_eqc h3319))))), (rg_cast hx3365.2.2 (rg_w (gi_I (k := 672) hG3331 (oa_af h0 hA3332) 0 15)))⟩), rfl, rfl⟩⟩)
          · skip
            have h3366 : Rg 0 0 x3326 := rg_eq_l h3327 (⟨by decide, by decide⟩ : Rg 0 0 0) q3328
            refine tt_iconst (v := 1) dX10_readRest_45 rfl ?_
            refine tt_goto (tgt := 50) dX10_readRest_46 rfl ?_
            refine gt_pI (id := 662) (x := 1) dX10_readRest_50 fl_10_84 rfl rfl h0 hA3279 rfl rfl rfl (gp_Ir hG3277 (⟨by decide, by decide⟩ : Rg 1 1 1)) (by decide) (fun _ _ q => absurd q (by decide)) (fun h => absurd h (by decide)) (fun S3367 hG3368 hA3369 e3370 f3371 er3372 => ?_)
            refine tt_aload_n (j := 0) dX10_readRest_53 rfl ?_
            refine tt_iload_n (j := 1) dX10_readRest_54 rfl ?_
            refine tt_bipush (v := 8) dX10_readRest_55 rfl ?_
            refine tt_idiv dX10_readRest_57 (by decide) (gt_ti (fun x3373 => ?_))
            refine tt_iload_n (j := 1) dX10_readRest_58 rfl ?_
            refine tt_bipush (v := 8) dX10_readRest_59 rfl ?_
            refine tt_irem dX10_readRest_61 (by decide) (gt_ti (fun x3374 => ?_))
            refine tt_iconst (v := 1) dX10_readRest_62 rfl ?_
            refine tt_icmp_ne (tgt := 73) dX10_readRest_63 rfl (fun q3375 => ?_) (fun q3375 => ?_)
            · skip
              refine tt_aload_n (j := 0) dX10_readRest_73 rfl ?_
              refine tt_getI (id := 672) dX10_readRest_74 fl_10_97 rfl rfl (ob_af h0 hA3369) ?_
              refine tt_iload_n (j := 1) dX10_readRest_77 rfl ?_
              refine tt_bipush (v := 8) dX10_readRest_78 rfl ?_
              refine tt_irem dX10_readRest_80 (by decide) (gt_ti (fun x3376 => ?_))
              refine tt_iconst (v := 1) dX10_readRest_81 rfl ?_
              refine tt_icmp_ne (tgt := 92) dX10_readRest_82 rfl (fun q3377 => ?_) (fun q3377 => ?_)
              · skip
                refine tt_aload_n (j := 0) dX10_readRest_92 rfl ?_
                refine gt_gI (id := 673) (v := (hp_I S3276 673 o0)) dX10_readRest_93 fl_10_100 rfl rfl h0 hA3369 ((congrFun (congrFun e3370 673) o0).trans ((congrFun (up2_ne (k := 673)) o0).trans rfl)) ?_
                refine gt_Vv (As := [.int x3373, .int (hp_I S3367 672 o0), .int (hp_I S3276 673 o0)]) dX10_readRest_96 ca_X10_123 ⟨by decide, by decide⟩ h0 hA3369 rfl (Nat.le_of_ble_eq_true rfl) (Nat.le_of_ble_eq_true rfl) (by decide) (cs_X10_take hG3368 (oa_af h0 hA3369) (fun _ _ _ _ h => h)) rfl (fun _ h => nomatch h) (fun S3378 hx3382 hG3379 hB3380 hA3381 => ?_)
                refine tt_goto (tgt := 766) dX10_readRest_99 rfl ?_
                exact tt_vreturn dX10_readRest_766 rfl (hP _ _ _ _ ⟨hG3379, hA3381, Or.inl ⟨_, rfl, rfl, (fun q => (absurd (((congrFun (congrFun e3370 662) o0).trans up2_self).symm.trans (mo_af (oa_af h0 hA3369) hB3380 q)) (by decide))), rfl, rfl⟩⟩)
              · skip
                have h3383 : Rg 1 1 x3376 := rg_eq_l (rg_all x3376) (⟨by decide, by decide⟩ : Rg 1 1 1) q3377
                refine tt_aload_n (j := 0) dX10_readRest_85 rfl ?_
                refine tt_getI (id := 672) dX10_readRest_86 fl_10_97 rfl rfl (ob_af h0 hA3369) ?_
                refine tt_goto (tgt := 96) dX10_readRest_89 rfl ?_
                refine gt_Vv (As := [.int x3373, .int (hp_I S3367 672 o0), .int (hp_I S3367 672 o0)]) dX10_readRest_96 ca_X10_123 ⟨by decide, by decide⟩ h0 hA3369 rfl (Nat.le_of_ble_eq_true rfl) (Nat.le_of_ble_eq_true rfl) (by decide) (cs_X10_take hG3368 (oa_af h0 hA3369) (fun _ _ _ _ h => h)) rfl (fun _ h => nomatch h) (fun S3384 hx3388 hG3385 hB3386 hA3387 => ?_)
                refine tt_goto (tgt := 766) dX10_readRest_99 rfl ?_
                exact tt_vreturn dX10_readRest_766 rfl (hP _ _ _ _ ⟨hG3385, hA3387, Or.inl ⟨_, rfl, rfl, (fun q => (absurd (((congrFun (congrFun e3370 662) o0).trans up2_self).symm.trans (mo_af (oa_af h0 hA3369) hB3386 q)) (by decide))), rfl, rfl⟩⟩)
            · skip
              have h3389 : Rg 1 1 x3374 := rg_eq_l (rg_all x3374) (⟨by decide, by decide⟩ : Rg 1 1 1) q3375
              refine tt_aload_n (j := 0) dX10_readRest_66 rfl ?_
              refine gt_gI (id := 673) (v := (hp_I S3276 673 o0)) dX10_readRest_67 fl_10_100 rfl rfl h0 hA3369 ((congrFun (congrFun e3370 673) o0).trans ((congrFun (up2_ne (k := 673)) o0).trans rfl)) ?_
              refine tt_goto (tgt := 77) dX10_readRest_70 rfl ?_
              refine tt_iload_n (j := 1) dX10_readRest_77 rfl ?_
              refine tt_bipush (v := 8) dX10_readRest_78 rfl ?_
              refine tt_irem dX10_readRest_80 (by decide) (gt_ti (fun x3390 => ?_))
              refine tt_iconst (v := 1) dX10_readRest_81 rfl ?_
              refine tt_icmp_ne (tgt := 92) dX10_readRest_82 rfl (fun q3391 => ?_) (fun q3391 => ?_)
              · skip
                refine tt_aload_n (j := 0) dX10_readRest_92 rfl ?_
                refine gt_gI (id := 673) (v := (hp_I S3276 673 o0)) dX10_readRest_93 fl_10_100 rfl rfl h0 hA3369 ((congrFun (congrFun e3370 673) o0).trans ((congrFun (up2_ne (k := 673)) o0).trans rfl)) ?_
                refine gt_Vv (As := [.int x3373, .int (hp_I S3276 673 o0), .int (hp_I S3276 673 o0)]) dX10_readRest_96 ca_X10_123 ⟨by decide, by decide⟩ h0 hA3369 rfl (Nat.le_of_ble_eq_true rfl) (Nat.le_of_ble_eq_true rfl) (by decide) (cs_X10_take hG3368 (oa_af h0 hA3369) (fun _ _ _ _ h => h)) rfl (fun _ h => nomatch h) (fun S3392 hx3396 hG3393 hB3394 hA3395 => ?_)
                refine tt_goto (tgt := 766) dX10_readRest_99 rfl ?_
                exact tt_vreturn dX10_readRest_766 rfl (hP _ _ _ _ ⟨hG3393, hA3395, Or.inl ⟨_, rfl, rfl, (fun q => (absurd (((congrFun (congrFun e3370 662) o0).trans up2_self).symm.trans (mo_af (oa_af h0 hA3369) hB3394 q)) (by decide))), rfl, rfl⟩⟩)
              · skip
                have h3397 : Rg 1 1 x3390 := rg_eq_l (rg_all x3390) (⟨by decide, by decide⟩ : Rg 1 1 1) q3391
                refine tt_aload_n (j := 0) dX10_readRest_85 rfl ?_
                refine tt_getI (id := 672) dX10_readRest_86 fl_10_97 rfl rfl (ob_af h0 hA3369) ?_
                refine tt_goto (tgt := 96) dX10_readRest_89 rfl ?_
                refine gt_Vv (As := [.int x3373, .int (hp_I S3276 673 o0), .int (hp_I S3367 672 o0)]) dX10_readRest_96 ca_X10_123 ⟨by decide, by decide⟩ h0 hA3369 rfl (Nat.le_of_ble_eq_true rfl) (Nat.le_of_ble_eq_true rfl) (by decide) (cs_X10_take hG3368 (oa_af h0 hA3369) (fun _ _ _ _ h => h)) rfl (fun _ h => nomatch h) (fun S3398 hx3402 hG3399 hB3400 hA3401 => ?_)
                refine tt_goto (tgt := 766) dX10_readRest_99 rfl ?_
                exact tt_vreturn dX10_readRest_766 rfl (hP _ _ _ _ ⟨hG3399, hA3401, Or.inl ⟨_, rfl, rfl, (fun q => (absurd (((congrFun (congrFun e3370 662) o0).trans up2_self).symm.trans (mo_af (oa_af h0 hA3369) hB3400 q)) (by decide))), rfl, rfl⟩⟩)
