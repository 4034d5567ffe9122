set_option maxHeartbeats 4000000 in
theorem cs_X10_goAlong {xi : SX} {S : Hp} {E : List Nat} {kc nc : Nat} {P : Po} {o0 : Nat} {x1 : Int32} (hG : GI S E) (h0 : Oa S E 10 0 o0) (hP : ∀ r T x y, PV E [676, 9989] S kc nc (rI 0 1) ex0 [] r T x y → P r T x y) : TT xi M_X10_goAlong 0 [(0, .ref o0), (1, .int x1)] [] S kc nc P := by
  have hA : Af E [676, 9989] S S := af_rf
  refine tt_aload_n (j := 0) dX10_goAlong_0 rfl ?_
  refine tt_iconst (v := 0) dX10_goAlong_1 rfl ?_
  refine gt_pI (id := 676) (x := 0) dX10_goAlong_2 fl_10_250 rfl rfl h0 hA rfl rfl rfl (gp_Ir hG (⟨by decide, by decide⟩ : Rg 0 0 0)) (by decide) (fun h => absurd h (by decide)) (fun h => absurd h (by decide)) (fun S101 hG102 hA103 e104 f105 er106 => ?_)
  refine tt_iconst (v := 0) dX10_goAlong_5 rfl ?_
  refine tt_istore_n (ks := [0, 1, 2]) (L' := [(2, .int 0), (0, .ref o0), (1, .int x1)]) dX10_goAlong_6 (by decide) rfl ?_
  have B107 : ∀ (nn : Nat) (S108 : Hp) (x111 : Int32), (2147483648 - x111.toInt).toNat = nn → GI S108 E → Af E [676, 9989] S S108 → Rg 0 24 x111 → TT xi M_X10_goAlong 7 [(0, .ref o0), (1, .int x1), (2, .int x111)] [] S108 kc nc P := by
    intro nn
    induction nn using Nat.strongRecOn with
    | ind nn ihB107 =>
      intro S108 x111 hmB107 hG109 hA110 h112
      subst hmB107
      refine tt_iload_n (j := 2) dX10_goAlong_7 rfl ?_
      refine tt_bipush (v := 24) dX10_goAlong_8 rfl ?_
      refine tt_icmp_ge (tgt := 33) dX10_goAlong_10 rfl (fun q113 => ?_) (fun q113 => ?_)
      · skip
        have h114 : Rg 24 24 x111 := rg_le_r (⟨by decide, by decide⟩ : Rg 24 24 24) h112 q113
        refine tt_aload_n (j := 0) dX10_goAlong_33 rfl ?_
        obtain ⟨b115, hr116, ho117⟩ := gi_R (k := 649) hG h0 32 202
        refine gt_gR (id := 649) dX10_goAlong_34 fl_10_33 rfl rfl h0 hA110 hr116 ?_
        refine tt_sipush (v := 201) dX10_goAlong_37 rfl ?_
        refine gt_iLR dX10_goAlong_40 ho117 hA110 (rg_in (⟨by decide, by decide⟩ : Rg 201 201 201)) hG109 (fun x118 h119 => ?_)
        refine tt_istore_n (ks := [0, 1, 2]) (L' := [(2, .int x118), (0, .ref o0), (1, .int x1)]) dX10_goAlong_41 (by decide) rfl ?_
        refine tt_iload_n (j := 2) dX10_goAlong_42 rfl ?_
        have B120 : ∀ (S121 : Hp), GI S121 E → Af E [676, 9989] S S121 → TT xi M_X10_goAlong 228 [(0, .ref o0), (1, .int x1), (2, .int x118)] [] S121 kc nc P := by
          intro S121 hG122 hA123
          refine tt_aload_n (j := 0) dX10_goAlong_228 rfl ?_
          refine tt_getI (id := 676) dX10_goAlong_229 fl_10_250 rfl rfl (ob_af h0 hA123) ?_
          have B124 : ∀ (x125 : Int32), Rg 0 1 x125 → TT xi M_X10_goAlong 240 [(0, .ref o0), (1, .int x1), (2, .int x118)] [.int x125] S121 kc nc P := by
            intro x125 h126
            refine tt_istore_n (ks := [0, 1, 2, 3]) (L' := [(3, .int x125), (0, .ref o0), (1, .int x1), (2, .int x118)]) dX10_goAlong_240 (by decide) rfl ?_
            refine tt_iconst (v := 0) dX10_goAlong_241 rfl ?_
            refine tt_istore (ks := [0, 1, 2, 3, 4]) (L' := [(4, .int 0), (3, .int x125), (0, .ref o0), (1, .int x1), (2, .int x118)]) dX10_goAlong_242 (by decide) rfl ?_
            have B127 : ∀ (nn : Nat) (x128 : Int32) (x130 : Int32), (2147483648 - x130.toInt).toNat = nn → Rg 0 1 x128 → Rg 0 24 x130 → TT xi M_X10_goAlong 244 [(0, .ref o0), (1, .int x1), (2, .int x118), (3, .int x128), (4, .int x130)] [] S121 kc nc P := by
              intro nn
              induction nn using Nat.strongRecOn with
              | ind nn ihB127 =>
                intro x128 x130 hmB127 h129 h131
                subst hmB127
                refine tt_iload (j := 4) dX10_goAlong_244 rfl ?_
                refine tt_bipush (v := 24) dX10_goAlong_246 rfl ?_
                refine tt_icmp_ge (tgt := 281) dX10_goAlong_248 rfl (fun q132 => ?_) (fun q132 => ?_)
                · skip
                  have h133 : Rg 24 24 x130 := rg_le_r (⟨by decide, by decide⟩ : Rg 24 24 24) h131 q132
                  refine tt_iload_n (j := 3) dX10_goAlong_281 rfl ?_
                  exact tt_ireturn dX10_goAlong_282 .boolean rfl (rg_nar (rg_w h129)) (hP _ _ _ _ ⟨hG122, hA123, Or.inl ⟨_, rfl, ⟨_, rfl, rg_w h129⟩, trivial, rfl, rfl⟩⟩)
                · skip
                  have h134 : Rg 0 23 x130 := rg_lt_l h131 (⟨by decide, by decide⟩ : Rg 24 24 24) (nle_lt q132)
                  refine tt_iload_n (j := 3) dX10_goAlong_251 rfl ?_
                  have B135 : ∀ (x136 : Int32), Rg 0 1 x136 → TT xi M_X10_goAlong 274 [(0, .ref o0), (1, .int x1), (2, .int x118), (3, .int x128), (4, .int x130)] [.int x136] S121 kc nc P := by
                    intro x136 h137
                    refine tt_istore_n (ks := [0, 1, 2, 3, 4]) (L' := [(3, .int x136), (0, .ref o0), (1, .int x1), (2, .int x118), (4, .int x130)]) dX10_goAlong_274 (by decide) rfl ?_
                    refine tt_iinc (j := 4) (v := (x130 + 1)) (ks := [0, 1, 2, 3, 4]) (L' := [(4, .int (x130 + 1)), (3, .int x136), (0, .ref o0), (1, .int x1), (2, .int x118)]) dX10_goAlong_275 rfl rfl (by decide) rfl ?_
                    refine tt_goto (tgt := 244) dX10_goAlong_278 rfl ?_
                    exact tt_loc (ks := [2, 3, 4, 1, 0]) rfl (ihB127 _ (rg_up h134) x136 (x130 + 1) rfl h137 (rg_w (rg_add (lo := 1) (hi := 24) h134 (⟨by decide, by decide⟩ : Rg 1 1 1))))
                  have B138 : TT xi M_X10_goAlong 273 [(0, .ref o0), (1, .int x1), (2, .int x118), (3, .int x128), (4, .int x130)] [] S121 kc nc P := by
                    refine tt_iconst (v := 0) dX10_goAlong_273 rfl ?_
                    exact B135 0 (rg_w (⟨by decide, by decide⟩ : Rg 0 0 0))
                  refine tt_if_eq (tgt := 273) dX10_goAlong_252 rfl (fun q139 => ?_) (fun q139 => ?_)
                  · skip
                    have h140 : Rg 0 0 x128 := rg_eq_l h129 (⟨by decide, by decide⟩ : Rg 0 0 0) q139
                    exact B138 
                  · skip
                    have h141 : Rg 1 1 x128 := rg_ne_lo h129 (⟨by decide, by decide⟩ : Rg 0 0 0) q139
                    refine tt_aload_n (j := 0) dX10_goAlong_255 rfl ?_
                    obtain ⟨b142, hr143, ho144⟩ := gi_R (k := 643) hG h0 32 4940
                    refine gt_gR (id := 643) dX10_goAlong_256 fl_10_13 rfl rfl h0 hA123 hr143 ?_
                    refine tt_sipush (v := 4904) dX10_goAlong_259 rfl ?_
                    refine tt_iload (j := 4) dX10_goAlong_262 rfl ?_
                    refine tt_iadd dX10_goAlong_264 ?_
                    refine gt_iL dX10_goAlong_265 ho144 hA123 (rg_in (rg_add (lo := 4904) (hi := 4927) (⟨by decide, by decide⟩ : Rg 4904 4904 4904) h134)) (fun x145 => ?_)
                    refine tt_if_eq (tgt := 273) dX10_goAlong_266 rfl (fun q146 => ?_) (fun q146 => ?_)
                    · skip
                      have h147 : Rg 0 0 x145 := rg_eq_l (rg_all x145) (⟨by decide, by decide⟩ : Rg 0 0 0) q146
                      exact B138 
                    · skip
                      refine tt_iconst (v := 1) dX10_goAlong_269 rfl ?_
                      refine tt_goto (tgt := 274) dX10_goAlong_270 rfl ?_
                      exact B135 1 (rg_w (⟨by decide, by decide⟩ : Rg 1 1 1))
            exact tt_loc (ks := [2, 3, 4, 1, 0]) rfl (B127 _ x125 0 rfl h126 (rg_w (⟨by decide, by decide⟩ : Rg 0 0 0)))
          refine tt_if_ne (tgt := 239) dX10_goAlong_232 rfl (fun q148 => ?_) (fun q148 => ?_)
          · skip
            have h149 : Rg 1 1 (hp_I S121 676 o0) := rg_ne_lo (gi_I (k := 676) hG122 (oa_af h0 hA123) 0 1) (⟨by decide, by decide⟩ : Rg 0 0 0) q148
            refine tt_iconst (v := 0) dX10_goAlong_239 rfl ?_
            exact B124 0 (rg_w (⟨by decide, by decide⟩ : Rg 0 0 0))
          · skip
            have h150 : Rg 0 0 (hp_I S121 676 o0) := rg_eq_l (gi_I (k := 676) hG122 (oa_af h0 hA123) 0 1) (⟨by decide, by decide⟩ : Rg 0 0 0) q148
            refine tt_iconst (v := 1) dX10_goAlong_235 rfl ?_
            refine tt_goto (tgt := 240) dX10_goAlong_236 rfl ?_
            exact B124 1 (rg_w (⟨by decide, by decide⟩ : Rg 1 1 1))
        refine tt_if_lt (tgt := 228) dX10_goAlong_43 rfl (fun q151 => ?_) (fun q151 => ?_)
        · skip
          have h152 : Rg (-2147483648) (-1) x1 := rg_lt_l (rg_all x1) (⟨by decide, by decide⟩ : Rg 0 0 0) q151
          exact tt_loc (ks := [1, 2, 0]) rfl (B120 S108 hG109 hA110)
        · skip
          have h153 : Rg 0 2147483647 x1 := rg_le_r (⟨by decide, by decide⟩ : Rg 0 0 0) (rg_all x1) (nlt_le q151)
          refine tt_iload_n (j := 0) dX10_goAlong_46 rfl ?_
          refine tt_if_le (tgt := 228) dX10_goAlong_47 rfl (fun q154 => ?_) (fun q154 => ?_)
          · skip
            have h155 : Rg (-1) 0 x118 := rg_le_l h119 (⟨by decide, by decide⟩ : Rg 0 0 0) q154
            exact tt_loc (ks := [1, 2, 0]) rfl (B120 S108 hG109 hA110)
          · skip
            have h156 : Rg 1 31 x118 := rg_lt_r (⟨by decide, by decide⟩ : Rg 0 0 0) h119 (nle_lt q154)
            refine tt_aload_n (j := 1) dX10_goAlong_50 rfl ?_
            obtain ⟨b157, hr158, ho159⟩ := gi_R (k := 650) hG h0 32 202
            refine gt_gR (id := 650) dX10_goAlong_51 fl_10_36 rfl rfl h0 hA110 hr158 ?_
            refine tt_sipush (v := 201) dX10_goAlong_54 rfl ?_
            refine gt_iLR dX10_goAlong_57 ho159 hA110 (rg_in (⟨by decide, by decide⟩ : Rg 201 201 201)) hG109 (fun x160 h161 => ?_)
            refine tt_istore_n (ks := [0, 1, 2, 3]) (L' := [(3, .int x160), (2, .int x118), (0, .ref o0), (1, .int x1)]) dX10_goAlong_58 (by decide) rfl ?_
            refine tt_aload_n (j := 2) dX10_goAlong_59 rfl ?_
            refine tt_sipush (v := 4928) dX10_goAlong_60 rfl ?_
            refine tt_sipush (v := 4856) dX10_goAlong_63 rfl ?_
            refine tt_iload_n (j := 0) dX10_goAlong_66 rfl ?_
            refine tt_iadd dX10_goAlong_67 ?_
            refine gt_Vv (As := [.int 4928, .int (4856 + x160)]) dX10_goAlong_68 ca_X10_169 ⟨by decide, by decide⟩ h0 hA110 rfl (Nat.le_of_ble_eq_true rfl) (Nat.le_of_ble_eq_true rfl) (by decide) (cs_X10_copy hG109 (oa_af h0 hA110) (rg_w (⟨by decide, by decide⟩ : Rg 4928 4928 4928)) (rg_w (rg_add (lo := 4855) (hi := 4887) (⟨by decide, by decide⟩ : Rg 4856 4856 4856) h161)) (fun _ _ _ _ h => h)) rfl (fun _ h => nomatch h) (fun S162 hx166 hG163 hB164 hA165 => ?_)
            refine tt_iload_n (j := 1) dX10_goAlong_71 rfl ?_
            refine tt_iconst (v := 1) dX10_goAlong_72 rfl ?_
            refine tt_icmp_ne (tgt := 112) dX10_goAlong_73 rfl (fun q167 => ?_) (fun q167 => ?_)
            · skip
              have h168 : Rg 2 31 x118 := rg_ne_lo h156 (⟨by decide, by decide⟩ : Rg 1 1 1) q167
              refine tt_iload_n (j := 1) dX10_goAlong_112 rfl ?_
              refine tt_iconst (v := 2) dX10_goAlong_113 rfl ?_
              refine tt_icmp_ne (tgt := 142) dX10_goAlong_114 rfl (fun q169 => ?_) (fun q169 => ?_)
              · skip
                have h170 : Rg 3 31 x118 := rg_ne_lo h168 (⟨by decide, by decide⟩ : Rg 2 2 2) q169
                refine tt_iload_n (j := 3) dX10_goAlong_142 rfl ?_
                refine tt_iconst (v := 4) dX10_goAlong_143 rfl ?_
                have B171 : TT xi M_X10_goAlong 152 [(0, .ref o0), (1, .int x1), (2, .int x118), (3, .int x160)] [] S162 kc nc P := by
                  refine tt_aload_n (j := 0) dX10_goAlong_152 rfl ?_
                  refine tt_sipush (v := 4929) dX10_goAlong_153 rfl ?_
                  refine tt_lconst (v := 0) dX10_goAlong_156 rfl ?_
                  refine gt_Vv (As := [.int 4929, .long 0]) dX10_goAlong_157 ca_X10_193 ⟨by decide, by decide⟩ h0 hA165 rfl (Nat.le_of_ble_eq_true rfl) (Nat.le_of_ble_eq_true rfl) (by decide) (cs_X10_one hG163 (oa_af h0 hA165) (rg_w (⟨by decide, by decide⟩ : Rg 4929 4929 4929)) (fun _ _ _ _ h => h)) rfl (fun _ h => nomatch h) (fun S172 hx176 hG173 hB174 hA175 => ?_)
                  refine tt_aload_n (j := 0) dX10_goAlong_160 rfl ?_
                  refine tt_iload_n (j := 3) dX10_goAlong_161 rfl ?_
                  refine tt_iconst (v := (-1)) dX10_goAlong_162 rfl ?_
                  refine tt_iload_n (j := 1) dX10_goAlong_163 rfl ?_
                  refine tt_iconst (v := 4) dX10_goAlong_164 rfl ?_
                  have B177 : ∀ (x178 : Int32), Rg 0 1 x178 → TT xi M_X10_goAlong 173 [(0, .ref o0), (1, .int x1), (2, .int x118), (3, .int x160)] [.int x178, .int (-1), .int x160, .ref o0] S172 kc nc P := by
                    intro x178 h179
                    refine gt_Vv (As := [.int x160, .int (-1), .int x178]) dX10_goAlong_173 ca_X10_270 ⟨by decide, by decide⟩ h0 hA175 rfl (Nat.le_of_ble_eq_true rfl) (Nat.le_of_ble_eq_true rfl) (by decide) (cs_X10_equal hG173 (oa_af h0 hA175) (rg_w h161) (rg_w (⟨by decide, by decide⟩ : Rg (-1) (-1) (-1))) (rg_w h179) (fun _ _ _ _ h => h)) rfl (fun _ h => nomatch h) (fun S180 hx184 hG181 hB182 hA183 => ?_)
                    refine tt_goto (tgt := 228) dX10_goAlong_176 rfl ?_
                    exact tt_loc (ks := [0, 1, 2]) rfl (B120 S180 hG181 hA183)
                  refine tt_icmp_ne (tgt := 172) dX10_goAlong_165 rfl (fun q185 => ?_) (fun q185 => ?_)
                  · skip
                    refine tt_iconst (v := 0) dX10_goAlong_172 rfl ?_
                    exact B177 0 (rg_w (⟨by decide, by decide⟩ : Rg 0 0 0))
                  · skip
                    have h186 : Rg 4 4 x1 := rg_eq_l h153 (⟨by decide, by decide⟩ : Rg 4 4 4) q185
                    refine tt_iconst (v := 1) dX10_goAlong_168 rfl ?_
                    refine tt_goto (tgt := 173) dX10_goAlong_169 rfl ?_
                    exact B177 1 (rg_w (⟨by decide, by decide⟩ : Rg 1 1 1))
                refine tt_icmp_eq (tgt := 152) dX10_goAlong_144 rfl (fun q187 => ?_) (fun q187 => ?_)
                · skip
                  have h188 : Rg 4 4 x1 := rg_eq_l h153 (⟨by decide, by decide⟩ : Rg 4 4 4) q187
                  exact tt_loc (ks := [2, 3, 1, 0]) rfl (B171 )
                · skip
                  refine tt_iload_n (j := 3) dX10_goAlong_147 rfl ?_
                  refine tt_iconst (v := 5) dX10_goAlong_148 rfl ?_
                  refine tt_icmp_ne (tgt := 179) dX10_goAlong_149 rfl (fun q189 => ?_) (fun q189 => ?_)
                  · skip
                    refine tt_iload_n (j := 3) dX10_goAlong_179 rfl ?_
                    refine tt_bipush (v := 8) dX10_goAlong_180 rfl ?_
                    refine tt_icmp_ne (tgt := 206) dX10_goAlong_182 rfl (fun q190 => ?_) (fun q190 => ?_)
                    · skip
                      refine tt_iload_n (j := 3) dX10_goAlong_206 rfl ?_
                      refine tt_bipush (v := 9) dX10_goAlong_207 rfl ?_
                      refine tt_icmp_ne (tgt := 228) dX10_goAlong_209 rfl (fun q191 => ?_) (fun q191 => ?_)
                      · skip
                        exact tt_loc (ks := [2, 3, 1]) rfl (B120 S162 hG163 hA165)
                      · skip
                        have h192 : Rg 9 9 x1 := rg_eq_l h153 (⟨by decide, by decide⟩ : Rg 9 9 9) q191
                        refine tt_aload_n (j := 2) dX10_goAlong_212 rfl ?_
                        refine tt_sipush (v := 4904) dX10_goAlong_213 rfl ?_
                        refine tt_iload_n (j := 0) dX10_goAlong_216 rfl ?_
                        refine tt_iadd dX10_goAlong_217 ?_
                        refine tt_sipush (v := 4928) dX10_goAlong_218 rfl ?_
                        refine tt_iconst (v := 1) dX10_goAlong_221 rfl ?_
                        refine tt_lconst (v := 0) dX10_goAlong_222 rfl ?_
                        refine tt_iconst (v := 0) dX10_goAlong_223 rfl ?_
                        refine tt_lconst (v := 0) dX10_goAlong_224 rfl ?_
                        refine gt_Vv (As := [.int (4904 + x160), .int 4928, .int 1, .long 0, .int 0, .long 0]) dX10_goAlong_225 ca_X10_263 ⟨by decide, by decide⟩ h0 hA165 rfl (Nat.le_of_ble_eq_true rfl) (Nat.le_of_ble_eq_true rfl) (by decide) (cs_X10_cut hG163 (oa_af h0 hA165) (rg_w (rg_add (lo := 4903) (hi := 4935) (⟨by decide, by decide⟩ : Rg 4904 4904 4904) h161)) (rg_w (⟨by decide, by decide⟩ : Rg 4928 4928 4928)) (rg_w (⟨by decide, by decide⟩ : Rg 1 1 1)) (rg_w (⟨by decide, by decide⟩ : Rg 0 0 0)) (fun _ _ _ _ h => h)) rfl (fun _ h => nomatch h) (fun S193 hx197 hG194 hB195 hA196 => ?_)
                        exact tt_loc (ks := [2, 3, 1]) rfl (B120 S193 hG194 hA196)
                    · skip
                      have h198 : Rg 8 8 x1 := rg_eq_l h153 (⟨by decide, by decide⟩ : Rg 8 8 8) q190
                      refine tt_aload_n (j := 2) dX10_goAlong_185 rfl ?_
                      refine tt_sipush (v := 4904) dX10_goAlong_186 rfl ?_
                      refine tt_iload_n (j := 0) dX10_goAlong_189 rfl ?_
                      refine tt_iadd dX10_goAlong_190 ?_
                      refine tt_sipush (v := 4928) dX10_goAlong_191 rfl ?_
                      refine tt_iconst (v := 0) dX10_goAlong_194 rfl ?_
                      refine tt_lconst (v := 0) dX10_goAlong_195 rfl ?_
                      refine tt_iconst (v := 1) dX10_goAlong_196 rfl ?_
                      refine tt_ldc2 (v := (-1)) dX10_goAlong_197 kl_10_204 ?_
                      refine gt_Vv (As := [.int (4904 + x160), .int 4928, .int 0, .long 0, .int 1, .long (-1)]) dX10_goAlong_200 ca_X10_263 ⟨by decide, by decide⟩ h0 hA165 rfl (Nat.le_of_ble_eq_true rfl) (Nat.le_of_ble_eq_true rfl) (by decide) (cs_X10_cut hG163 (oa_af h0 hA165) (rg_w (rg_add (lo := 4903) (hi := 4935) (⟨by decide, by decide⟩ : Rg 4904 4904 4904) h161)) (rg_w (⟨by decide, by decide⟩ : Rg 4928 4928 4928)) (rg_w (⟨by decide, by decide⟩ : Rg 0 0 0)) (rg_w (⟨by decide, by decide⟩ : Rg 1 1 1)) (fun _ _ _ _ h => h)) rfl (fun _ h => nomatch h) (fun S199 hx203 hG200 hB201 hA202 => ?_)
                      refine tt_goto (tgt := 228) dX10_goAlong_203 rfl ?_
                      exact tt_loc (ks := [2, 3, 1]) rfl (B120 S199 hG200 hA202)
                  · skip
                    have h204 : Rg 5 5 x1 := rg_eq_l h153 (⟨by decide, by decide⟩ : Rg 5 5 5) q189
                    exact tt_loc (ks := [2, 3, 1, 0]) rfl (B171 )
              · skip
                have h205 : Rg 2 2 x118 := rg_eq_l h168 (⟨by decide, by decide⟩ : Rg 2 2 2) q169
                refine tt_aload_n (j := 2) dX10_goAlong_117 rfl ?_
                refine tt_sipush (v := 4929) dX10_goAlong_118 rfl ?_
                refine tt_aload_n (j := 2) dX10_goAlong_121 rfl ?_
                obtain ⟨b206, hr207, ho208⟩ := gi_R (k := 652) hG h0 33 202
                refine gt_gR (id := 652) dX10_goAlong_122 fl_10_42 rfl rfl h0 hA165 hr207 ?_
                refine tt_sipush (v := 201) dX10_goAlong_125 rfl ?_
                refine gt_lLt dX10_goAlong_128 ho208 hA165 (rg_in (⟨by decide, by decide⟩ : Rg 201 201 201)) ?_
                refine gt_Vv (As := [.int 4929, .long (hp_j S162 b206 (201 : Int32).toNatClampNeg)]) dX10_goAlong_129 ca_X10_193 ⟨by decide, by decide⟩ h0 hA165 rfl (Nat.le_of_ble_eq_true rfl) (Nat.le_of_ble_eq_true rfl) (by decide) (cs_X10_one hG163 (oa_af h0 hA165) (rg_w (⟨by decide, by decide⟩ : Rg 4929 4929 4929)) (fun _ _ _ _ h => h)) rfl (fun _ h => nomatch h) (fun S209 hx213 hG210 hB211 hA212 => ?_)
                refine tt_aload_n (j := 2) dX10_goAlong_132 rfl ?_
                refine tt_iload_n (j := 0) dX10_goAlong_133 rfl ?_
                refine tt_iconst (v := (-1)) dX10_goAlong_134 rfl ?_
                refine tt_iload_n (j := 3) dX10_goAlong_135 rfl ?_
                refine gt_Vv (As := [.int x160, .int (-1), .int x1]) dX10_goAlong_136 ca_X10_281 ⟨by decide, by decide⟩ h0 hA212 rfl (Nat.le_of_ble_eq_true rfl) (Nat.le_of_ble_eq_true rfl) (by decide) (cs_X10_compared hG210 (oa_af h0 hA212) (rg_w h161) (rg_w (⟨by decide, by decide⟩ : Rg (-1) (-1) (-1))) (fun _ _ _ _ h => h)) rfl (fun _ h => nomatch h) (fun S214 hx218 hG215 hB216 hA217 => ?_)
                refine tt_goto (tgt := 228) dX10_goAlong_139 rfl ?_
                exact tt_loc (ks := [2, 3, 1]) rfl (B120 S214 hG215 hA217)
            · skip
              have h219 : Rg 1 1 x118 := rg_eq_l h156 (⟨by decide, by decide⟩ : Rg 1 1 1) q167
              refine tt_aload_n (j := 2) dX10_goAlong_76 rfl ?_
              refine tt_sipush (v := 4929) dX10_goAlong_77 rfl ?_
              refine tt_sipush (v := 4856) dX10_goAlong_80 rfl ?_
              refine tt_aload_n (j := 2) dX10_goAlong_83 rfl ?_
              obtain ⟨b220, hr221, ho222⟩ := gi_R (k := 651) hG h0 32 202
              refine gt_gR (id := 651) dX10_goAlong_84 fl_10_39 rfl rfl h0 hA165 hr221 ?_
              refine tt_sipush (v := 201) dX10_goAlong_87 rfl ?_
              refine gt_iLR dX10_goAlong_90 ho222 hA165 (rg_in (⟨by decide, by decide⟩ : Rg 201 201 201)) hG163 (fun x223 h224 => ?_)
              refine tt_iadd dX10_goAlong_91 ?_
              refine gt_Vv (As := [.int 4929, .int (4856 + x223)]) dX10_goAlong_92 ca_X10_169 ⟨by decide, by decide⟩ h0 hA165 rfl (Nat.le_of_ble_eq_true rfl) (Nat.le_of_ble_eq_true rfl) (by decide) (cs_X10_copy hG163 (oa_af h0 hA165) (rg_w (⟨by decide, by decide⟩ : Rg 4929 4929 4929)) (rg_w (rg_add (lo := 4855) (hi := 4887) (⟨by decide, by decide⟩ : Rg 4856 4856 4856) h224)) (fun _ _ _ _ h => h)) rfl (fun _ h => nomatch h) (fun S225 hx229 hG226 hB227 hA228 => ?_)
              refine tt_aload_n (j := 2) dX10_goAlong_95 rfl ?_
              refine tt_iload_n (j := 0) dX10_goAlong_96 rfl ?_
              refine tt_aload_n (j := 2) dX10_goAlong_97 rfl ?_
              refine gt_gR (id := 651) dX10_goAlong_98 fl_10_39 rfl rfl h0 hA228 hr221 ?_
              refine tt_sipush (v := 201) dX10_goAlong_101 rfl ?_
              refine gt_iLR dX10_goAlong_104 ho222 hA228 (rg_in (⟨by decide, by decide⟩ : Rg 201 201 201)) hG226 (fun x230 h231 => ?_)
              refine tt_iload_n (j := 3) dX10_goAlong_105 rfl ?_
              refine gt_Vv (As := [.int x160, .int x230, .int x1]) dX10_goAlong_106 ca_X10_281 ⟨by decide, by decide⟩ h0 hA228 rfl (Nat.le_of_ble_eq_true rfl) (Nat.le_of_ble_eq_true rfl) (by decide) (cs_X10_compared hG226 (oa_af h0 hA228) (rg_w h161) (rg_w h231) (fun _ _ _ _ h => h)) rfl (fun _ h => nomatch h) (fun S232 hx236 hG233 hB234 hA235 => ?_)
              refine tt_goto (tgt := 228) dX10_goAlong_109 rfl ?_
              exact tt_loc (ks := [2, 3, 1]) rfl (B120 S232 hG233 hA235)
      · skip
        have h237 : Rg 0 23 x111 := rg_lt_l h112 (⟨by decide, by decide⟩ : Rg 24 24 24) (nle_lt q113)
        refine tt_aload_n (j := 0) dX10_goAlong_13 rfl ?_
        refine tt_sipush (v := 4904) dX10_goAlong_14 rfl ?_
        refine tt_iload_n (j := 2) dX10_goAlong_17 rfl ?_
        refine tt_iadd dX10_goAlong_18 ?_
        refine tt_sipush (v := 4856) dX10_goAlong_19 rfl ?_
        refine tt_iload_n (j := 2) dX10_goAlong_22 rfl ?_
        refine tt_iadd dX10_goAlong_23 ?_
        refine gt_Vv (As := [.int (4904 + x111), .int (4856 + x111)]) dX10_goAlong_24 ca_X10_169 ⟨by decide, by decide⟩ h0 hA110 rfl (Nat.le_of_ble_eq_true rfl) (Nat.le_of_ble_eq_true rfl) (by decide) (cs_X10_copy hG109 (oa_af h0 hA110) (rg_w (rg_add (lo := 4904) (hi := 4927) (⟨by decide, by decide⟩ : Rg 4904 4904 4904) h237)) (rg_w (rg_add (lo := 4856) (hi := 4879) (⟨by decide, by decide⟩ : Rg 4856 4856 4856) h237)) (fun _ _ _ _ h => h)) rfl (fun _ h => nomatch h) (fun S238 hx242 hG239 hB240 hA241 => ?_)
        refine tt_iinc (j := 2) (v := (x111 + 1)) (ks := [0, 1, 2]) (L' := [(2, .int (x111 + 1)), (0, .ref o0), (1, .int x1)]) dX10_goAlong_27 rfl rfl (by decide) rfl ?_
        refine tt_goto (tgt := 7) dX10_goAlong_30 rfl ?_
        exact tt_loc (ks := [1, 2, 0]) rfl (ihB107 _ (rg_up h237) S238 (x111 + 1) rfl hG239 hA241 (rg_w (rg_add (lo := 1) (hi := 24) h237 (⟨by decide, by decide⟩ : Rg 1 1 1))))
  exact tt_loc (ks := [1, 2, 0]) rfl (B107 _ S101 0 rfl hG102 hA103 (rg_w (⟨by decide, by decide⟩ : Rg 0 0 0)))
set_option maxHeartbeats 4000000 in
theorem cs_X10_arrive {xi : SX} {S : Hp} {E : List Nat} {kc nc : Nat} {P : Po} {o0 : Nat} {y1 : Int64} {x3 : Int32} (hG : GI S E) (h0 : Oa S E 10 0 o0) (hP : ∀ r T x y, PV E [9988, 9989] S kc nc rV ex0 [] r T x y → P r T x y) : TT xi M_X10_arrive 0 [(0, .ref o0), (1, .long y1), (3, .int x3)] [] S kc nc P := by
  have hA : Af E [9988, 9989] S S := af_rf
  refine tt_lload_n (j := 1) dX10_arrive_0 rfl ?_
  refine tt_lconst (v := 0) dX10_arrive_1 rfl ?_
  refine tt_aload_n (j := 0) dX10_arrive_2 rfl ?_
  refine tt_getI (id := 642) dX10_arrive_3 fl_10_71 rfl rfl (ob_af h0 hA) ?_
  refine tt_iconst (v := 1) dX10_arrive_6 rfl ?_
  refine tt_isub dX10_arrive_7 ?_
  refine tt_i2l dX10_arrive_8 ?_
  refine gt_SIp (As := [.long y1, .long 0, .long (((hp_I S 642 o0) - 1) : Int32).toInt64]) dX10_arrive_9 ca_X10_67 ⟨by decide, by decide⟩ hA (Nat.le_of_ble_eq_true rfl) (Nat.le_of_ble_eq_true rfl) (by decide) (cs_X10_isIn hG  (fun _ _ _ _ h => h)) rfl (fun _ h => nomatch h) (fun _ _ q => q.1) (fun x106 h107 hx105 => ?_)
  refine tt_if_ne (tgt := 16) dX10_arrive_12 rfl (fun q108 => ?_) (fun q108 => ?_)
  · skip
    have h109 : Rg 1 1 x106 := rg_ne_lo h107 (⟨by decide, by decide⟩ : Rg 0 0 0) q108
    have h110 : Rl 0 199 y1 := in_rl ((fun z e => (hx105.2 z e).1) _ rfl q108) (⟨by decide, by decide⟩ : Rl 0 0 0) (rg_i2l (rg_sub (lo := (-1)) (hi := 199) (gi_I (k := 642) hG (oa_af h0 hA) 0 200) (⟨by decide, by decide⟩ : Rg 1 1 1)))
    refine tt_lload_n (j := 1) dX10_arrive_16 rfl ?_
    refine tt_l2i dX10_arrive_17 ?_
    refine tt_istore (ks := [0, 1, 2, 3]) (L' := [(4, .int (y1 : Int64).toInt32), (0, .ref o0), (1, .long y1), (3, .int x3)]) dX10_arrive_18 (by decide) rfl ?_
    refine tt_aload_n (j := 1) dX10_arrive_20 rfl ?_
    obtain ⟨b111, hr112, ho113⟩ := gi_R (k := 647) hG h0 32 201
    refine gt_gR (id := 647) dX10_arrive_21 fl_10_26 rfl rfl h0 hA hr112 ?_
    refine tt_iload (j := 0) dX10_arrive_24 rfl ?_
    refine gt_iL dX10_arrive_26 ho113 hA (rg_in (rl_l2i h110)) (fun x114 => ?_)
    refine tt_if_ne (tgt := 90) dX10_arrive_27 rfl (fun q115 => ?_) (fun q115 => ?_)
    · skip
      refine tt_iconst (v := 0) dX10_arrive_90 rfl ?_
      refine tt_istore (ks := [0, 1, 2, 3, 4]) (L' := [(5, .int 0), (4, .int (y1 : Int64).toInt32), (0, .ref o0), (1, .long y1), (3, .int x3)]) dX10_arrive_91 (by decide) rfl ?_
      refine tt_iconst (v := 0) dX10_arrive_93 rfl ?_
      refine tt_istore (ks := [0, 1, 2, 3, 4, 5]) (L' := [(6, .int 0), (5, .int 0), (4, .int (y1 : Int64).toInt32), (0, .ref o0), (1, .long y1), (3, .int x3)]) dX10_arrive_94 (by decide) rfl ?_
      have B116 : ∀ (nn : Nat) (S117 : Hp) (x120 : Int32) (x122 : Int32), (2147483648 - x122.toInt).toNat = nn → GI S117 E → Af E [9988, 9989] S S117 → Rg 0 1 x120 → Rg 0 24 x122 → TT xi M_X10_arrive 96 [(0, .ref o0), (1, .long y1), (3, .int x3), (4, .int (y1 : Int64).toInt32), (5, .int x120), (6, .int x122)] [] S117 kc nc P := by
        intro nn
        induction nn using Nat.strongRecOn with
        | ind nn ihB116 =>
          intro S117 x120 x122 hmB116 hG118 hA119 h121 h123
          subst hmB116
          refine tt_iload (j := 5) dX10_arrive_96 rfl ?_
          refine tt_bipush (v := 24) dX10_arrive_98 rfl ?_
          refine tt_icmp_ge (tgt := 226) dX10_arrive_100 rfl (fun q124 => ?_) (fun q124 => ?_)
          · skip
            have h125 : Rg 24 24 x122 := rg_le_r (⟨by decide, by decide⟩ : Rg 24 24 24) h123 q124
            refine tt_aload_n (j := 0) dX10_arrive_226 rfl ?_
            refine tt_iload (j := 3) dX10_arrive_227 rfl ?_
            refine tt_sipush (v := 201) dX10_arrive_229 rfl ?_
            refine gt_VIp (As := [.int (y1 : Int64).toInt32, .int 201]) dX10_arrive_232 ca_X10_294 ⟨by decide, by decide⟩ h0 hA119 rfl (Nat.le_of_ble_eq_true rfl) (Nat.le_of_ble_eq_true rfl) (by decide) (cs_X10_isSameRecord hG118 (oa_af h0 hA119) (rg_w (rl_l2i h110)) (rg_w (⟨by decide, by decide⟩ : Rg 201 201 201)) (fun _ _ _ _ h => h)) rfl (fun _ h => nomatch h) (fun _ _ q => q) (fun x131 h132 hx130 => ?_)
            have B133 : ∀ (S134 : Hp) (x137 : Int32), GI S134 E → Af E [9988, 9989] S S134 → Rg 0 1 x137 → TT xi M_X10_arrive 268 [(0, .ref o0), (1, .long y1), (3, .int x3), (4, .int (y1 : Int64).toInt32), (5, .int x137), (6, .int x122)] [] S134 kc nc P := by
              intro S134 x137 hG135 hA136 h138
              refine tt_iload (j := 4) dX10_arrive_268 rfl ?_
              have B139 : ∀ (S140 : Hp), GI S140 E → Af E [9988, 9989] S S140 → TT xi M_X10_arrive 292 [(0, .ref o0), (1, .long y1), (3, .int x3), (4, .int (y1 : Int64).toInt32), (5, .int x137), (6, .int x122)] [] S140 kc nc P := by
                intro S140 hG141 hA142
                exact tt_vreturn dX10_arrive_292 rfl (hP _ _ _ _ ⟨hG141, hA142, Or.inl ⟨_, rfl, rfl, trivial, rfl, rfl⟩⟩)
              refine tt_if_eq (tgt := 292) dX10_arrive_270 rfl (fun q143 => ?_) (fun q143 => ?_)
              · skip
                have h144 : Rg 0 0 x137 := rg_eq_l h138 (⟨by decide, by decide⟩ : Rg 0 0 0) q143
                exact B139 S134 hG135 hA136
              · skip
                have h145 : Rg 1 1 x137 := rg_ne_lo h138 (⟨by decide, by decide⟩ : Rg 0 0 0) q143
                refine tt_aload_n (j := 0) dX10_arrive_273 rfl ?_
                refine gt_gR (id := 647) dX10_arrive_274 fl_10_26 rfl rfl h0 hA136 hr112 ?_
                refine tt_iload (j := 3) dX10_arrive_277 rfl ?_
                refine tt_dup2_11 dX10_arrive_279 rfl rfl ?_
                refine gt_iL dX10_arrive_280 ho113 hA136 (rg_in (rl_l2i h110)) (fun x146 => ?_)
                refine tt_iconst (v := 1) dX10_arrive_281 rfl ?_
                refine tt_iadd dX10_arrive_282 ?_
                refine gt_iS dX10_arrive_283 ho113 hA136 (Or.inl (by decide)) (rg_in (rl_l2i h110)) hG135 (by decide) (fun S147 hG148 hA149 e150 f151 er152 => ?_)
                refine tt_aload_n (j := 0) dX10_arrive_284 rfl ?_
                obtain ⟨b153, hr154, ho155⟩ := gi_R (k := 648) hG h0 34 201
                refine gt_gR (id := 648) dX10_arrive_285 fl_10_29 rfl rfl h0 hA149 hr154 ?_
                refine tt_iload (j := 3) dX10_arrive_288 rfl ?_
                refine tt_iconst (v := 1) dX10_arrive_290 rfl ?_
                refine gt_zS dX10_arrive_291 ho155 hA149 (Or.inl (by decide)) (rg_in (rl_l2i h110)) hG148 (rg_w (⟨by decide, by decide⟩ : Rg 1 1 1)) (fun S156 hG157 hA158 e159 f160 er161 => ?_)
                exact B139 S156 hG157 hA158
            refine tt_if_ne (tgt := 268) dX10_arrive_235 rfl (fun q162 => ?_) (fun q162 => ?_)
            · skip
              have h163 : Rg 1 1 x131 := rg_ne_lo h132 (⟨by decide, by decide⟩ : Rg 0 0 0) q162
              exact B133 S117 x120 hG118 hA119 h121
            · skip
              have h164 : Rg 0 0 x131 := rg_eq_l h132 (⟨by decide, by decide⟩ : Rg 0 0 0) q162
              refine tt_iload (j := 4) dX10_arrive_238 rfl ?_
              have B165 : ∀ (x166 : Int32), Rg 0 1 x166 → TT xi M_X10_arrive 258 [(0, .ref o0), (1, .long y1), (3, .int x3), (4, .int (y1 : Int64).toInt32), (5, .int x120), (6, .int x122)] [.int x166] S117 kc nc P := by
                intro x166 h167
                refine tt_istore (ks := [0, 1, 2, 3, 4, 5]) (L' := [(5, .int x166), (0, .ref o0), (1, .long y1), (3, .int x3), (4, .int (y1 : Int64).toInt32), (6, .int x122)]) dX10_arrive_258 (by decide) rfl ?_
                refine tt_aload_n (j := 1) dX10_arrive_260 rfl ?_
                obtain ⟨b168, hr169, ho170⟩ := gi_R (k := 649) hG h0 32 202
                refine gt_gR (id := 649) dX10_arrive_261 fl_10_33 rfl rfl h0 hA119 hr169 ?_
                refine tt_iload (j := 4) dX10_arrive_264 rfl ?_
                refine tt_iconst (v := 0) dX10_arrive_266 rfl ?_
                refine gt_iSR dX10_arrive_267 ho170 hA119 (rg_in (rl_l2i h110)) hG118 (rg_w (⟨by decide, by decide⟩ : Rg 0 0 0)) (fun S171 hG172 hA173 e174 f175 er176 => ?_)
                exact tt_loc (ks := [1, 2, 3, 4, 0, 5]) rfl (B133 S171 x166 hG172 hA173 h167)
              have B177 : TT xi M_X10_arrive 253 [(0, .ref o0), (1, .long y1), (3, .int x3), (4, .int (y1 : Int64).toInt32), (5, .int x120), (6, .int x122)] [] S117 kc nc P := by
                refine tt_iconst (v := 1) dX10_arrive_253 rfl ?_
                refine tt_goto (tgt := 258) dX10_arrive_254 rfl ?_
                exact B165 1 (rg_w (⟨by decide, by decide⟩ : Rg 1 1 1))
              refine tt_if_ne (tgt := 253) dX10_arrive_240 rfl (fun q178 => ?_) (fun q178 => ?_)
              · skip
                have h179 : Rg 1 1 x120 := rg_ne_lo h121 (⟨by decide, by decide⟩ : Rg 0 0 0) q178
                exact B177 
              · skip
                have h180 : Rg 0 0 x120 := rg_eq_l h121 (⟨by decide, by decide⟩ : Rg 0 0 0) q178
                refine tt_aload_n (j := 0) dX10_arrive_243 rfl ?_
                obtain ⟨b181, hr182, ho183⟩ := gi_R (k := 649) hG h0 32 202
                refine gt_gR (id := 649) dX10_arrive_244 fl_10_33 rfl rfl h0 hA119 hr182 ?_
                refine tt_iload (j := 3) dX10_arrive_247 rfl ?_
                refine gt_iLR dX10_arrive_249 ho183 hA119 (rg_in (rl_l2i h110)) hG118 (fun x184 h185 => ?_)
                refine tt_if_eq (tgt := 257) dX10_arrive_250 rfl (fun q186 => ?_) (fun q186 => ?_)
                · skip
                  have h187 : Rg 0 0 x184 := rg_eq_l h185 (⟨by decide, by decide⟩ : Rg 0 0 0) q186
                  refine tt_iconst (v := 0) dX10_arrive_257 rfl ?_
                  exact B165 0 (rg_w (⟨by decide, by decide⟩ : Rg 0 0 0))
                · skip
                  exact B177 
          · skip
            have h188 : Rg 0 23 x122 := rg_lt_l h123 (⟨by decide, by decide⟩ : Rg 24 24 24) (nle_lt q124)
            refine tt_aload_n (j := 0) dX10_arrive_103 rfl ?_
            refine tt_sipush (v := 4848) dX10_arrive_104 rfl ?_
            refine tt_bipush (v := 24) dX10_arrive_107 rfl ?_
            refine tt_iload (j := 3) dX10_arrive_109 rfl ?_
            refine tt_imul dX10_arrive_111 ?_
            refine tt_iload (j := 5) dX10_arrive_112 rfl ?_
            refine tt_iadd dX10_arrive_114 ?_
            refine gt_Vv (As := [.int 4848, .int ((24 * (y1 : Int64).toInt32) + x122)]) dX10_arrive_115 ca_X10_169 ⟨by decide, by decide⟩ h0 hA119 rfl (Nat.le_of_ble_eq_true rfl) (Nat.le_of_ble_eq_true rfl) (by decide) (cs_X10_copy hG118 (oa_af h0 hA119) (rg_w (⟨by decide, by decide⟩ : Rg 4848 4848 4848)) (rg_w (rg_add (lo := 0) (hi := 4799) (rg_mul (lo := 0) (hi := 4776) (⟨by decide, by decide⟩ : Rg 24 24 24) (rl_l2i h110)) h188)) (fun _ _ _ _ h => h)) rfl (fun _ h => nomatch h) (fun S189 hx193 hG190 hB191 hA192 => ?_)
            refine tt_iload (j := 3) dX10_arrive_118 rfl ?_
            refine tt_iload_n (j := 2) dX10_arrive_120 rfl ?_
            have B194 : ∀ (S195 : Hp), GI S195 E → Af E [9988, 9989] S S195 → TT xi M_X10_arrive 190 [(0, .ref o0), (1, .long y1), (3, .int x3), (4, .int (y1 : Int64).toInt32), (5, .int x120), (6, .int x122)] [] S195 kc nc P := by
              intro S195 hG196 hA197
              refine tt_iload (j := 4) dX10_arrive_190 rfl ?_
              have B198 : ∀ (x199 : Int32), Rg 0 1 x199 → TT xi M_X10_arrive 218 [(0, .ref o0), (1, .long y1), (3, .int x3), (4, .int (y1 : Int64).toInt32), (5, .int x120), (6, .int x122)] [.int x199] S195 kc nc P := by
                intro x199 h200
                refine tt_istore (ks := [0, 1, 2, 3, 4, 5]) (L' := [(5, .int x199), (0, .ref o0), (1, .long y1), (3, .int x3), (4, .int (y1 : Int64).toInt32), (6, .int x122)]) dX10_arrive_218 (by decide) rfl ?_
                refine tt_iinc (j := 5) (v := (x122 + 1)) (ks := [0, 1, 2, 3, 4, 5]) (L' := [(6, .int (x122 + 1)), (5, .int x199), (0, .ref o0), (1, .long y1), (3, .int x3), (4, .int (y1 : Int64).toInt32)]) dX10_arrive_220 rfl rfl (by decide) rfl ?_
                refine tt_goto (tgt := 96) dX10_arrive_223 rfl ?_
                exact tt_loc (ks := [2, 3, 4, 5, 1, 0]) rfl (ihB116 _ (rg_up h188) S195 x199 (x122 + 1) rfl hG196 hA197 h200 (rg_w (rg_add (lo := 1) (hi := 24) h188 (⟨by decide, by decide⟩ : Rg 1 1 1))))
              have B201 : TT xi M_X10_arrive 213 [(0, .ref o0), (1, .long y1), (3, .int x3), (4, .int (y1 : Int64).toInt32), (5, .int x120), (6, .int x122)] [] S195 kc nc P := by
                refine tt_iconst (v := 1) dX10_arrive_213 rfl ?_
                refine tt_goto (tgt := 218) dX10_arrive_214 rfl ?_
                exact B198 1 (rg_w (⟨by decide, by decide⟩ : Rg 1 1 1))
              refine tt_if_ne (tgt := 213) dX10_arrive_192 rfl (fun q202 => ?_) (fun q202 => ?_)
              · skip
                have h203 : Rg 1 1 x120 := rg_ne_lo h121 (⟨by decide, by decide⟩ : Rg 0 0 0) q202
                exact B201 
              · skip
                have h204 : Rg 0 0 x120 := rg_eq_l h121 (⟨by decide, by decide⟩ : Rg 0 0 0) q202
                refine tt_aload_n (j := 0) dX10_arrive_195 rfl ?_
                refine tt_sipush (v := 4848) dX10_arrive_196 rfl ?_
                refine tt_bipush (v := 24) dX10_arrive_199 rfl ?_
                refine tt_iload (j := 3) dX10_arrive_201 rfl ?_
                refine tt_imul dX10_arrive_203 ?_
                refine tt_iload (j := 5) dX10_arrive_204 rfl ?_
                refine tt_iadd dX10_arrive_206 ?_
                refine gt_VIp (As := [.int 4848, .int ((24 * (y1 : Int64).toInt32) + x122)]) dX10_arrive_207 ca_X10_290 ⟨by decide, by decide⟩ h0 hA197 rfl (Nat.le_of_ble_eq_true rfl) (Nat.le_of_ble_eq_true rfl) (by decide) (cs_X10_isSame hG196 (oa_af h0 hA197) (rg_w (⟨by decide, by decide⟩ : Rg 4848 4848 4848)) (rg_w (rg_add (lo := 0) (hi := 4799) (rg_mul (lo := 0) (hi := 4776) (⟨by decide, by decide⟩ : Rg 24 24 24) (rl_l2i h110)) h188)) (fun _ _ _ _ h => h)) rfl (fun _ h => nomatch h) (fun _ _ q => q) (fun x210 h211 hx209 => ?_)
                refine tt_if_ne (tgt := 217) dX10_arrive_210 rfl (fun q212 => ?_) (fun q212 => ?_)
                · skip
                  have h213 : Rg 1 1 x210 := rg_ne_lo h211 (⟨by decide, by decide⟩ : Rg 0 0 0) q212
                  refine tt_iconst (v := 0) dX10_arrive_217 rfl ?_
                  exact B198 0 (rg_w (⟨by decide, by decide⟩ : Rg 0 0 0))
                · skip
                  have h214 : Rg 0 0 x210 := rg_eq_l h211 (⟨by decide, by decide⟩ : Rg 0 0 0) q212
                  exact B201 
            have B215 : TT xi M_X10_arrive 159 [(0, .ref o0), (1, .long y1), (3, .int x3), (4, .int (y1 : Int64).toInt32), (5, .int x120), (6, .int x122)] [] S189 kc nc P := by
              refine tt_aload_n (j := 0) dX10_arrive_159 rfl ?_
              refine tt_sipush (v := 4850) dX10_arrive_160 rfl ?_
              refine tt_sipush (v := 4848) dX10_arrive_163 rfl ?_
              refine tt_sipush (v := 4904) dX10_arrive_166 rfl ?_
              refine tt_iload (j := 5) dX10_arrive_169 rfl ?_
              refine tt_iadd dX10_arrive_171 ?_
              refine gt_Vv (As := [.int 4850, .int 4848, .int (4904 + x122)]) dX10_arrive_172 ca_X10_176 ⟨by decide, by decide⟩ h0 hA192 rfl (Nat.le_of_ble_eq_true rfl) (Nat.le_of_ble_eq_true rfl) (by decide) (cs_X10_join hG190 (oa_af h0 hA192) (rg_w (⟨by decide, by decide⟩ : Rg 4850 4850 4850)) (rg_w (⟨by decide, by decide⟩ : Rg 4848 4848 4848)) (rg_w (rg_add (lo := 4904) (hi := 4927) (⟨by decide, by decide⟩ : Rg 4904 4904 4904) h188)) (fun _ _ _ _ h => h)) rfl (fun _ h => nomatch h) (fun S216 hx220 hG217 hB218 hA219 => ?_)
              refine tt_aload_n (j := 0) dX10_arrive_175 rfl ?_
              refine tt_bipush (v := 24) dX10_arrive_176 rfl ?_
              refine tt_iload (j := 3) dX10_arrive_178 rfl ?_
              refine tt_imul dX10_arrive_180 ?_
              refine tt_iload (j := 5) dX10_arrive_181 rfl ?_
              refine tt_iadd dX10_arrive_183 ?_
              refine tt_sipush (v := 4850) dX10_arrive_184 rfl ?_
              refine gt_Vv (As := [.int ((24 * (y1 : Int64).toInt32) + x122), .int 4850]) dX10_arrive_187 ca_X10_169 ⟨by decide, by decide⟩ h0 hA219 rfl (Nat.le_of_ble_eq_true rfl) (Nat.le_of_ble_eq_true rfl) (by decide) (cs_X10_copy hG217 (oa_af h0 hA219) (rg_w (rg_add (lo := 0) (hi := 4799) (rg_mul (lo := 0) (hi := 4776) (⟨by decide, by decide⟩ : Rg 24 24 24) (rl_l2i h110)) h188)) (rg_w (⟨by decide, by decide⟩ : Rg 4850 4850 4850)) (fun _ _ _ _ h => h)) rfl (fun _ h => nomatch h) (fun S221 hx225 hG222 hB223 hA224 => ?_)
              exact B194 S221 hG222 hA224
            refine tt_icmp_gt (tgt := 159) dX10_arrive_121 rfl (fun q226 => ?_) (fun q226 => ?_)
            · skip
              have h227 : Rg (-2147483648) 198 x3 := rg_lt_l (rg_all x3) (rl_l2i h110) q226
              exact B215 
            · skip
              have h228 : Rg 0 2147483647 x3 := rg_le_r (rl_l2i h110) (rg_all x3) (nlt_le q226)
              refine tt_aload_n (j := 0) dX10_arrive_124 rfl ?_
              refine gt_gR (id := 647) dX10_arrive_125 fl_10_26 rfl rfl h0 hA192 hr112 ?_
              refine tt_iload (j := 3) dX10_arrive_128 rfl ?_
              refine gt_iL dX10_arrive_130 ho113 hA192 (rg_in (rl_l2i h110)) (fun x229 => ?_)
              refine tt_iconst (v := 3) dX10_arrive_131 rfl ?_
              refine tt_icmp_lt (tgt := 159) dX10_arrive_132 rfl (fun q230 => ?_) (fun q230 => ?_)
              · skip
                have h231 : Rg (-2147483648) 2 x229 := rg_lt_l (rg_all x229) (⟨by decide, by decide⟩ : Rg 3 3 3) q230
                exact B215 
              · skip
                have h232 : Rg 3 2147483647 x229 := rg_le_r (⟨by decide, by decide⟩ : Rg 3 3 3) (rg_all x229) (nlt_le q230)
                refine tt_aload_n (j := 0) dX10_arrive_135 rfl ?_
                refine tt_bipush (v := 24) dX10_arrive_136 rfl ?_
                refine tt_iload (j := 3) dX10_arrive_138 rfl ?_
                refine tt_imul dX10_arrive_140 ?_
                refine tt_iload (j := 5) dX10_arrive_141 rfl ?_
                refine tt_iadd dX10_arrive_143 ?_
                refine tt_sipush (v := 4848) dX10_arrive_144 rfl ?_
                refine tt_sipush (v := 4904) dX10_arrive_147 rfl ?_
                refine tt_iload (j := 5) dX10_arrive_150 rfl ?_
                refine tt_iadd dX10_arrive_152 ?_
                refine gt_Vv (As := [.int ((24 * (y1 : Int64).toInt32) + x122), .int 4848, .int (4904 + x122)]) dX10_arrive_153 ca_X10_287 ⟨by decide, by decide⟩ h0 hA192 rfl (Nat.le_of_ble_eq_true rfl) (Nat.le_of_ble_eq_true rfl) (by decide) (cs_X10_widen hG190 (oa_af h0 hA192) (rg_w (rg_add (lo := 0) (hi := 4799) (rg_mul (lo := 0) (hi := 4776) (⟨by decide, by decide⟩ : Rg 24 24 24) (rl_l2i h110)) h188)) (rg_w (⟨by decide, by decide⟩ : Rg 4848 4848 4848)) (rg_w (rg_add (lo := 4904) (hi := 4927) (⟨by decide, by decide⟩ : Rg 4904 4904 4904) h188)) (fun _ _ _ _ h => h)) rfl (fun _ h => nomatch h) (fun S233 hx237 hG234 hB235 hA236 => ?_)
                refine tt_goto (tgt := 190) dX10_arrive_156 rfl ?_
                exact B194 S233 hG234 hA236
      exact tt_loc (ks := [3, 4, 5, 2, 1, 0]) rfl (B116 _ S 0 0 rfl hG hA (rg_w (⟨by decide, by decide⟩ : Rg 0 0 0)) (rg_w (⟨by decide, by decide⟩ : Rg 0 0 0)))
    · skip
      have h238 : Rg 0 0 x114 := rg_eq_l (rg_all x114) (⟨by decide, by decide⟩ : Rg 0 0 0) q115
      refine tt_iconst (v := 0) dX10_arrive_30 rfl ?_
      refine tt_istore (ks := [0, 1, 2, 3, 4]) (L' := [(5, .int 0), (4, .int (y1 : Int64).toInt32), (0, .ref o0), (1, .long y1), (3, .int x3)]) dX10_arrive_31 (by decide) rfl ?_
      have B239 : ∀ (nn : Nat) (S240 : Hp) (x243 : Int32), (2147483648 - x243.toInt).toNat = nn → GI S240 E → Af E [9988, 9989] S S240 → Rg 0 24 x243 → TT xi M_X10_arrive 33 [(0, .ref o0), (1, .long y1), (3, .int x3), (4, .int (y1 : Int64).toInt32), (5, .int x243)] [] S240 kc nc P := by
        intro nn
        induction nn using Nat.strongRecOn with
        | ind nn ihB239 =>
          intro S240 x243 hmB239 hG241 hA242 h244
          subst hmB239
          refine tt_iload (j := 4) dX10_arrive_33 rfl ?_
          refine tt_bipush (v := 24) dX10_arrive_35 rfl ?_
          refine tt_icmp_ge (tgt := 64) dX10_arrive_37 rfl (fun q245 => ?_) (fun q245 => ?_)
          · skip
            have h246 : Rg 24 24 x243 := rg_le_r (⟨by decide, by decide⟩ : Rg 24 24 24) h244 q245
            refine tt_aload_n (j := 0) dX10_arrive_64 rfl ?_
            refine tt_iload (j := 3) dX10_arrive_65 rfl ?_
            refine tt_sipush (v := 201) dX10_arrive_67 rfl ?_
            refine gt_Vv (As := [.int (y1 : Int64).toInt32, .int 201]) dX10_arrive_70 ca_X10_284 ⟨by decide, by decide⟩ h0 hA242 rfl (Nat.le_of_ble_eq_true rfl) (Nat.le_of_ble_eq_true rfl) (by decide) (cs_X10_copyRecord hG241 (oa_af h0 hA242) (rg_w (rl_l2i h110)) (rg_w (⟨by decide, by decide⟩ : Rg 201 201 201)) (fun _ _ _ _ h => h)) rfl (fun _ h => nomatch h) (fun S247 hx251 hG248 hB249 hA250 => ?_)
            refine tt_aload_n (j := 0) dX10_arrive_73 rfl ?_
            refine gt_gR (id := 647) dX10_arrive_74 fl_10_26 rfl rfl h0 hA250 hr112 ?_
            refine tt_iload (j := 3) dX10_arrive_77 rfl ?_
            refine tt_iconst (v := 1) dX10_arrive_79 rfl ?_
            refine gt_iS dX10_arrive_80 ho113 hA250 (Or.inl (by decide)) (rg_in (rl_l2i h110)) hG248 (by decide) (fun S252 hG253 hA254 e255 f256 er257 => ?_)
            refine tt_aload_n (j := 0) dX10_arrive_81 rfl ?_
            obtain ⟨b258, hr259, ho260⟩ := gi_R (k := 648) hG h0 34 201
            refine gt_gR (id := 648) dX10_arrive_82 fl_10_29 rfl rfl h0 hA254 hr259 ?_
            refine tt_iload (j := 3) dX10_arrive_85 rfl ?_
            refine tt_iconst (v := 1) dX10_arrive_87 rfl ?_
            refine gt_zS dX10_arrive_88 ho260 hA254 (Or.inl (by decide)) (rg_in (rl_l2i h110)) hG253 (rg_w (⟨by decide, by decide⟩ : Rg 1 1 1)) (fun S261 hG262 hA263 e264 f265 er266 => ?_)
            exact tt_vreturn dX10_arrive_89 rfl (hP _ _ _ _ ⟨hG262, hA263, Or.inl ⟨_, rfl, rfl, trivial, rfl, rfl⟩⟩)
          · skip
            have h267 : Rg 0 23 x243 := rg_lt_l h244 (⟨by decide, by decide⟩ : Rg 24 24 24) (nle_lt q245)
            refine tt_aload_n (j := 0) dX10_arrive_40 rfl ?_
            refine tt_bipush (v := 24) dX10_arrive_41 rfl ?_
            refine tt_iload (j := 3) dX10_arrive_43 rfl ?_
            refine tt_imul dX10_arrive_45 ?_
            refine tt_iload (j := 4) dX10_arrive_46 rfl ?_
            refine tt_iadd dX10_arrive_48 ?_
            refine tt_sipush (v := 4904) dX10_arrive_49 rfl ?_
            refine tt_iload (j := 4) dX10_arrive_52 rfl ?_
            refine tt_iadd dX10_arrive_54 ?_
            refine gt_Vv (As := [.int ((24 * (y1 : Int64).toInt32) + x243), .int (4904 + x243)]) dX10_arrive_55 ca_X10_169 ⟨by decide, by decide⟩ h0 hA242 rfl (Nat.le_of_ble_eq_true rfl) (Nat.le_of_ble_eq_true rfl) (by decide) (cs_X10_copy hG241 (oa_af h0 hA242) (rg_w (rg_add (lo := 0) (hi := 4799) (rg_mul (lo := 0) (hi := 4776) (⟨by decide, by decide⟩ : Rg 24 24 24) (rl_l2i h110)) h267)) (rg_w (rg_add (lo := 4904) (hi := 4927) (⟨by decide, by decide⟩ : Rg 4904 4904 4904) h267)) (fun _ _ _ _ h => h)) rfl (fun _ h => nomatch h) (fun S268 hx272 hG269 hB270 hA271 => ?_)
            refine tt_iinc (j := 4) (v := (x243 + 1)) (ks := [0, 1, 2, 3, 4]) (L' := [(5, .int (x243 + 1)), (0, .ref o0), (1, .long y1), (3, .int x3), (4, .int (y1 : Int64).toInt32)]) dX10_arrive_58 rfl rfl (by decide) rfl ?_
            refine tt_goto (tgt := 33) dX10_arrive_61 rfl ?_
            exact tt_loc (ks := [1, 2, 3, 4, 0]) rfl (ihB239 _ (rg_up h267) S268 (x243 + 1) rfl hG269 hA271 (rg_w (rg_add (lo := 1) (hi := 24) h267 (⟨by decide, by decide⟩ : Rg 1 1 1))))
      exact tt_loc (ks := [2, 3, 4, 1, 0]) rfl (B239 _ S 0 rfl hG hA (rg_w (⟨by decide, by decide⟩ : Rg 0 0 0)))
  · skip
    have h273 : Rg 0 0 x106 := rg_eq_l h107 (⟨by decide, by decide⟩ : Rg 0 0 0) q108
    exact tt_vreturn dX10_arrive_15 rfl (hP _ _ _ _ ⟨hG, hA, Or.inl ⟨_, rfl, rfl, trivial, rfl, rfl⟩⟩)
set_option maxHeartbeats 4000000 in
theorem cs_X10_isPlace {xi : SX} {S : Hp} {E : List Nat} {kc nc : Nat} {P : Po} {x0 : Int32} (hG : GI S E)  (hP : ∀ r T x y, PV E [] S kc nc (rI 0 1) (fun v T => T = S ∧ ∀ z, v = some (.int z) → (¬ z = 0 → Rg 0 23 x0) ∧ (z = 0 → ¬ Rg 0 23 x0)) [] r T x y → P r T x y) : TT xi M_X10_isPlace 0 [(0, .int x0)] [] S kc nc P := by
  have hA : Af E [] S S := af_rf
  refine tt_iload_n (j := 0) dX10_isPlace_0 rfl ?_
  refine tt_if_lt (tgt := 14) dX10_isPlace_1 rfl (fun q101 => ?_) (fun q101 => ?_)
  · skip
    have h102 : Rg (-2147483648) (-1) x0 := rg_lt_l (rg_all x0) (⟨by decide, by decide⟩ : Rg 0 0 0) q101
    refine tt_iconst (v := 0) dX10_isPlace_14 rfl ?_
    exact tt_ireturn dX10_isPlace_15 .boolean rfl rfl (hP _ _ _ _ ⟨hG, hA, Or.inl ⟨_, rfl, ⟨_, rfl, rg_w (⟨by decide, by decide⟩ : Rg 0 0 0)⟩, ⟨rfl, (ei_00 (rg_out h102))⟩, rfl, rfl⟩⟩)
  · skip
    have h103 : Rg 0 2147483647 x0 := rg_le_r (⟨by decide, by decide⟩ : Rg 0 0 0) (rg_all x0) (nlt_le q101)
    refine tt_iload_n (j := 0) dX10_isPlace_4 rfl ?_
    refine tt_bipush (v := 24) dX10_isPlace_5 rfl ?_
    refine tt_icmp_ge (tgt := 14) dX10_isPlace_7 rfl (fun q104 => ?_) (fun q104 => ?_)
    · skip
      have h105 : Rg 24 2147483647 x0 := rg_le_r (⟨by decide, by decide⟩ : Rg 24 24 24) h103 q104
      refine tt_iconst (v := 0) dX10_isPlace_14 rfl ?_
      exact tt_ireturn dX10_isPlace_15 .boolean rfl rfl (hP _ _ _ _ ⟨hG, hA, Or.inl ⟨_, rfl, ⟨_, rfl, rg_w (⟨by decide, by decide⟩ : Rg 0 0 0)⟩, ⟨rfl, (ei_00 (rg_out h105))⟩, rfl, rfl⟩⟩)
    · skip
      have h106 : Rg 0 23 x0 := rg_lt_l h103 (⟨by decide, by decide⟩ : Rg 24 24 24) (nle_lt q104)
      refine tt_iconst (v := 1) dX10_isPlace_10 rfl ?_
      refine tt_goto (tgt := 15) dX10_isPlace_11 rfl ?_
      exact tt_ireturn dX10_isPlace_15 .boolean rfl rfl (hP _ _ _ _ ⟨hG, hA, Or.inl ⟨_, rfl, ⟨_, rfl, rg_w (⟨by decide, by decide⟩ : Rg 1 1 1)⟩, ⟨rfl, (ei_1 (rg_w h106))⟩, rfl, rfl⟩⟩)
set_option maxHeartbeats 4000000 in
theorem cs_X10_given {xi : SX} {S : Hp} {E : List Nat} {kc nc : Nat} {P : Po} {o0 : Nat} {x1 : Int32} {y2 : Int64} {y4 : Int64} {y6 : Int64} (hG : GI S E) (h0 : Oa S E 10 0 o0) (hP : ∀ r T x y, PV E [640, 9989] S kc nc rV ex0 [] r T x y → P r T x y) : TT xi M_X10_given 0 [(0, .ref o0), (1, .int x1), (2, .long y2), (4, .long y4), (6, .long y6)] [] S kc nc P := by
  have hA : Af E [640, 9989] S S := af_rf
  refine tt_iload_n (j := 1) dX10_given_0 rfl ?_
  refine gt_SIp (As := [.int x1]) dX10_given_1 ca_X10_310 ⟨by decide, by decide⟩ hA (Nat.le_of_ble_eq_true rfl) (Nat.le_of_ble_eq_true rfl) (by decide) (cs_X10_isPlace hG  (fun _ _ _ _ h => h)) rfl (fun _ h => nomatch h) (fun _ _ q => q.1) (fun x106 h107 hx105 => ?_)
  refine tt_if_eq (tgt := 81) dX10_given_4 rfl (fun q108 => ?_) (fun q108 => ?_)
  · skip
    have h109 : Rg 0 0 x106 := rg_eq_l h107 (⟨by decide, by decide⟩ : Rg 0 0 0) q108
    refine tt_iconst (v := 0) dX10_given_81 rfl ?_
    refine tt_istore (ks := [0, 1, 2, 3, 4, 5]) (L' := [(8, .int 0), (0, .ref o0), (1, .int x1), (2, .long y2), (4, .long y4), (6, .long y6)]) dX10_given_82 (by decide) rfl ?_
    refine tt_aload_n (j := 1) dX10_given_84 rfl ?_
    refine tt_iload (j := 0) dX10_given_85 rfl ?_
    refine tt_if_eq (tgt := 94) dX10_given_87 rfl (fun _ => ?_) (fun q => absurd q (by decide))
    refine tt_iconst (v := 1) dX10_given_94 rfl ?_
    refine gt_VI (As := [.int 1]) dX10_given_95 ca_X10_74 ⟨by decide, by decide⟩ h0 hA rfl (Nat.le_of_ble_eq_true rfl) (Nat.le_of_ble_eq_true rfl) (by decide) (cs_X10_refused hG (oa_af h0 hA) (fun _ _ _ _ h => h)) rfl (fun _ h => nomatch h) (fun S110 x115 h116 hx114 hG111 hB112 hA113 => ?_)
    obtain rfl := (hx114.1 _ rfl).trans (show bI (0 < (1 : Int32)) = 1 by decide)
    refine tt_if_eq (tgt := 102) dX10_given_98 rfl (fun q => absurd q (by decide)) (fun _ => ?_)
    exact tt_vreturn dX10_given_101 rfl (hP _ _ _ _ ⟨hG111, hA113, Or.inl ⟨_, rfl, rfl, trivial, rfl, rfl⟩⟩)
  · skip
    have h117 : Rg 1 1 x106 := rg_ne_lo h107 (⟨by decide, by decide⟩ : Rg 0 0 0) q108
    have h118 : Rg 0 23 x1 := (((hx105.2) _ rfl).1 q108)
    refine tt_lload_n (j := 2) dX10_given_7 rfl ?_
    refine tt_lload (j := 3) dX10_given_8 rfl ?_
    refine tt_lcmp dX10_given_10 ?_
    refine tt_if_gt (tgt := 81) dX10_given_11 rfl (fun q119 => ?_) (fun q119 => ?_)
    · skip
      have h120 : Rl (-9223372036854775808) 9223372036854775806 y4 := rl_lt_l (rl_all y4) (rl_all y2) (lc_gt_t q119)
      have h121 : Rl (-9223372036854775807) 9223372036854775807 y2 := rl_lt_r (rl_all y4) (rl_all y2) (lc_gt_t q119)
      refine tt_iconst (v := 0) dX10_given_81 rfl ?_
      refine tt_istore (ks := [0, 1, 2, 3, 4, 5]) (L' := [(8, .int 0), (0, .ref o0), (1, .int x1), (2, .long y2), (4, .long y4), (6, .long y6)]) dX10_given_82 (by decide) rfl ?_
      refine tt_aload_n (j := 1) dX10_given_84 rfl ?_
      refine tt_iload (j := 0) dX10_given_85 rfl ?_
      refine tt_if_eq (tgt := 94) dX10_given_87 rfl (fun _ => ?_) (fun q => absurd q (by decide))
      refine tt_iconst (v := 1) dX10_given_94 rfl ?_
      refine gt_VI (As := [.int 1]) dX10_given_95 ca_X10_74 ⟨by decide, by decide⟩ h0 hA rfl (Nat.le_of_ble_eq_true rfl) (Nat.le_of_ble_eq_true rfl) (by decide) (cs_X10_refused hG (oa_af h0 hA) (fun _ _ _ _ h => h)) rfl (fun _ h => nomatch h) (fun S122 x127 h128 hx126 hG123 hB124 hA125 => ?_)
      obtain rfl := (hx126.1 _ rfl).trans (show bI (0 < (1 : Int32)) = 1 by decide)
      refine tt_if_eq (tgt := 102) dX10_given_98 rfl (fun q => absurd q (by decide)) (fun _ => ?_)
      exact tt_vreturn dX10_given_101 rfl (hP _ _ _ _ ⟨hG123, hA125, Or.inl ⟨_, rfl, rfl, trivial, rfl, rfl⟩⟩)
    · skip
      refine tt_lload_n (j := 2) dX10_given_14 rfl ?_
      refine tt_ldc2 (v := (-2305843009213693952)) dX10_given_15 kl_10_158 ?_
      refine tt_ldc2 (v := 2305843009213693952) dX10_given_18 kl_10_160 ?_
      refine gt_SIp (As := [.long y2, .long (-2305843009213693952), .long 2305843009213693952]) dX10_given_21 ca_X10_67 ⟨by decide, by decide⟩ hA (Nat.le_of_ble_eq_true rfl) (Nat.le_of_ble_eq_true rfl) (by decide) (cs_X10_isIn hG  (fun _ _ _ _ h => h)) rfl (fun _ h => nomatch h) (fun _ _ q => q.1) (fun x134 h135 hx133 => ?_)
      refine tt_if_eq (tgt := 81) dX10_given_24 rfl (fun q136 => ?_) (fun q136 => ?_)
      · skip
        have h137 : Rg 0 0 x134 := rg_eq_l h135 (⟨by decide, by decide⟩ : Rg 0 0 0) q136
        refine tt_iconst (v := 0) dX10_given_81 rfl ?_
        refine tt_istore (ks := [0, 1, 2, 3, 4, 5]) (L' := [(8, .int 0), (0, .ref o0), (1, .int x1), (2, .long y2), (4, .long y4), (6, .long y6)]) dX10_given_82 (by decide) rfl ?_
        refine tt_aload_n (j := 1) dX10_given_84 rfl ?_
        refine tt_iload (j := 0) dX10_given_85 rfl ?_
        refine tt_if_eq (tgt := 94) dX10_given_87 rfl (fun _ => ?_) (fun q => absurd q (by decide))
        refine tt_iconst (v := 1) dX10_given_94 rfl ?_
        refine gt_VI (As := [.int 1]) dX10_given_95 ca_X10_74 ⟨by decide, by decide⟩ h0 hA rfl (Nat.le_of_ble_eq_true rfl) (Nat.le_of_ble_eq_true rfl) (by decide) (cs_X10_refused hG (oa_af h0 hA) (fun _ _ _ _ h => h)) rfl (fun _ h => nomatch h) (fun S138 x143 h144 hx142 hG139 hB140 hA141 => ?_)
        obtain rfl := (hx142.1 _ rfl).trans (show bI (0 < (1 : Int32)) = 1 by decide)
        refine tt_if_eq (tgt := 102) dX10_given_98 rfl (fun q => absurd q (by decide)) (fun _ => ?_)
        exact tt_vreturn dX10_given_101 rfl (hP _ _ _ _ ⟨hG139, hA141, Or.inl ⟨_, rfl, rfl, trivial, rfl, rfl⟩⟩)
      · skip
        have h145 : Rg 1 1 x134 := rg_ne_lo h135 (⟨by decide, by decide⟩ : Rg 0 0 0) q136
        have h146 : Rl (-2305843009213693952) 2305843009213693952 y2 := in_rl ((fun z e => (hx133.2 z e).1) _ rfl q136) (⟨by decide, by decide⟩ : Rl (-2305843009213693952) (-2305843009213693952) (-2305843009213693952)) (⟨by decide, by decide⟩ : Rl 2305843009213693952 2305843009213693952 2305843009213693952)
        refine tt_lload (j := 3) dX10_given_27 rfl ?_
        refine tt_ldc2 (v := (-2305843009213693952)) dX10_given_29 kl_10_158 ?_
        refine tt_ldc2 (v := 2305843009213693952) dX10_given_32 kl_10_160 ?_
        refine gt_SIp (As := [.long y4, .long (-2305843009213693952), .long 2305843009213693952]) dX10_given_35 ca_X10_67 ⟨by decide, by decide⟩ hA (Nat.le_of_ble_eq_true rfl) (Nat.le_of_ble_eq_true rfl) (by decide) (cs_X10_isIn hG  (fun _ _ _ _ h => h)) rfl (fun _ h => nomatch h) (fun _ _ q => q.1) (fun x152 h153 hx151 => ?_)
        refine tt_if_eq (tgt := 81) dX10_given_38 rfl (fun q154 => ?_) (fun q154 => ?_)
        · skip
          have h155 : Rg 0 0 x152 := rg_eq_l h153 (⟨by decide, by decide⟩ : Rg 0 0 0) q154
          refine tt_iconst (v := 0) dX10_given_81 rfl ?_
          refine tt_istore (ks := [0, 1, 2, 3, 4, 5]) (L' := [(8, .int 0), (0, .ref o0), (1, .int x1), (2, .long y2), (4, .long y4), (6, .long y6)]) dX10_given_82 (by decide) rfl ?_
          refine tt_aload_n (j := 1) dX10_given_84 rfl ?_
          refine tt_iload (j := 0) dX10_given_85 rfl ?_
          refine tt_if_eq (tgt := 94) dX10_given_87 rfl (fun _ => ?_) (fun q => absurd q (by decide))
          refine tt_iconst (v := 1) dX10_given_94 rfl ?_
          refine gt_VI (As := [.int 1]) dX10_given_95 ca_X10_74 ⟨by decide, by decide⟩ h0 hA rfl (Nat.le_of_ble_eq_true rfl) (Nat.le_of_ble_eq_true rfl) (by decide) (cs_X10_refused hG (oa_af h0 hA) (fun _ _ _ _ h => h)) rfl (fun _ h => nomatch h) (fun S156 x161 h162 hx160 hG157 hB158 hA159 => ?_)
          obtain rfl := (hx160.1 _ rfl).trans (show bI (0 < (1 : Int32)) = 1 by decide)
          refine tt_if_eq (tgt := 102) dX10_given_98 rfl (fun q => absurd q (by decide)) (fun _ => ?_)
          exact tt_vreturn dX10_given_101 rfl (hP _ _ _ _ ⟨hG157, hA159, Or.inl ⟨_, rfl, rfl, trivial, rfl, rfl⟩⟩)
        · skip
          have h163 : Rg 1 1 x152 := rg_ne_lo h153 (⟨by decide, by decide⟩ : Rg 0 0 0) q154
          have h164 : Rl (-2305843009213693952) 2305843009213693952 y4 := in_rl ((fun z e => (hx151.2 z e).1) _ rfl q154) (⟨by decide, by decide⟩ : Rl (-2305843009213693952) (-2305843009213693952) (-2305843009213693952)) (⟨by decide, by decide⟩ : Rl 2305843009213693952 2305843009213693952 2305843009213693952)
          refine tt_lload_n (j := 2) dX10_given_41 rfl ?_
          refine tt_lload (j := 3) dX10_given_42 rfl ?_
          refine tt_lcmp dX10_given_44 ?_
          refine tt_if_ne (tgt := 58) dX10_given_45 rfl (fun q165 => ?_) (fun q165 => ?_)
          · skip
            refine tt_lload (j := 4) dX10_given_58 rfl ?_
            refine tt_lconst (v := 0) dX10_given_60 rfl ?_
            refine tt_lcmp dX10_given_61 ?_
            refine tt_if_le (tgt := 81) dX10_given_62 rfl (fun q166 => ?_) (fun q166 => ?_)
            · skip
              have h167 : Rl (-9223372036854775808) 0 y6 := rl_le_l (rl_all y6) (⟨by decide, by decide⟩ : Rl 0 0 0) (lc_le_t q166)
              refine tt_iconst (v := 0) dX10_given_81 rfl ?_
              refine tt_istore (ks := [0, 1, 2, 3, 4, 5]) (L' := [(8, .int 0), (0, .ref o0), (1, .int x1), (2, .long y2), (4, .long y4), (6, .long y6)]) dX10_given_82 (by decide) rfl ?_
              refine tt_aload_n (j := 1) dX10_given_84 rfl ?_
              refine tt_iload (j := 0) dX10_given_85 rfl ?_
              refine tt_if_eq (tgt := 94) dX10_given_87 rfl (fun _ => ?_) (fun q => absurd q (by decide))
              refine tt_iconst (v := 1) dX10_given_94 rfl ?_
              refine gt_VI (As := [.int 1]) dX10_given_95 ca_X10_74 ⟨by decide, by decide⟩ h0 hA rfl (Nat.le_of_ble_eq_true rfl) (Nat.le_of_ble_eq_true rfl) (by decide) (cs_X10_refused hG (oa_af h0 hA) (fun _ _ _ _ h => h)) rfl (fun _ h => nomatch h) (fun S168 x173 h174 hx172 hG169 hB170 hA171 => ?_)
              obtain rfl := (hx172.1 _ rfl).trans (show bI (0 < (1 : Int32)) = 1 by decide)
              refine tt_if_eq (tgt := 102) dX10_given_98 rfl (fun q => absurd q (by decide)) (fun _ => ?_)
              exact tt_vreturn dX10_given_101 rfl (hP _ _ _ _ ⟨hG169, hA171, Or.inl ⟨_, rfl, rfl, trivial, rfl, rfl⟩⟩)
            · skip
              have h175 : Rl 1 9223372036854775807 y6 := rl_lt_r (⟨by decide, by decide⟩ : Rl 0 0 0) (rl_all y6) (lc_le_f q166)
              refine tt_lload (j := 3) dX10_given_65 rfl ?_
              refine tt_lload_n (j := 2) dX10_given_67 rfl ?_
              refine tt_lsub dX10_given_68 (gt_tl (fun y176 => ?_))
              refine tt_lload (j := 4) dX10_given_69 rfl ?_
              refine tt_lrem dX10_given_71 (nz_pos (lc_le_f q166)) (gt_tl (fun y177 => ?_))
              refine tt_lconst (v := 0) dX10_given_72 rfl ?_
              refine tt_lcmp dX10_given_73 ?_
              refine tt_if_ne (tgt := 81) dX10_given_74 rfl (fun q178 => ?_) (fun q178 => ?_)
              · skip
                refine tt_iconst (v := 0) dX10_given_81 rfl ?_
                refine tt_istore (ks := [0, 1, 2, 3, 4, 5]) (L' := [(8, .int 0), (0, .ref o0), (1, .int x1), (2, .long y2), (4, .long y4), (6, .long y6)]) dX10_given_82 (by decide) rfl ?_
                refine tt_aload_n (j := 1) dX10_given_84 rfl ?_
                refine tt_iload (j := 0) dX10_given_85 rfl ?_
                refine tt_if_eq (tgt := 94) dX10_given_87 rfl (fun _ => ?_) (fun q => absurd q (by decide))
                refine tt_iconst (v := 1) dX10_given_94 rfl ?_
                refine gt_VI (As := [.int 1]) dX10_given_95 ca_X10_74 ⟨by decide, by decide⟩ h0 hA rfl (Nat.le_of_ble_eq_true rfl) (Nat.le_of_ble_eq_true rfl) (by decide) (cs_X10_refused hG (oa_af h0 hA) (fun _ _ _ _ h => h)) rfl (fun _ h => nomatch h) (fun S179 x184 h185 hx183 hG180 hB181 hA182 => ?_)
                obtain rfl := (hx183.1 _ rfl).trans (show bI (0 < (1 : Int32)) = 1 by decide)
                refine tt_if_eq (tgt := 102) dX10_given_98 rfl (fun q => absurd q (by decide)) (fun _ => ?_)
                exact tt_vreturn dX10_given_101 rfl (hP _ _ _ _ ⟨hG180, hA182, Or.inl ⟨_, rfl, rfl, trivial, rfl, rfl⟩⟩)
              · skip
                have h186 : Rl 0 0 y177 := rl_eq_l (rl_all y177) (⟨by decide, by decide⟩ : Rl 0 0 0) (lc_ne_f q178)
                refine tt_iconst (v := 1) dX10_given_77 rfl ?_
                refine tt_goto (tgt := 82) dX10_given_78 rfl ?_
                refine tt_istore (ks := [0, 1, 2, 3, 4, 5]) (L' := [(8, .int 1), (0, .ref o0), (1, .int x1), (2, .long y2), (4, .long y4), (6, .long y6)]) dX10_given_82 (by decide) rfl ?_
                refine tt_aload_n (j := 1) dX10_given_84 rfl ?_
                refine tt_iload (j := 0) dX10_given_85 rfl ?_
                refine tt_if_eq (tgt := 94) dX10_given_87 rfl (fun q => absurd q (by decide)) (fun _ => ?_)
                refine tt_iconst (v := 0) dX10_given_90 rfl ?_
                refine tt_goto (tgt := 95) dX10_given_91 rfl ?_
                refine gt_VI (As := [.int 0]) dX10_given_95 ca_X10_74 ⟨by decide, by decide⟩ h0 hA rfl (Nat.le_of_ble_eq_true rfl) (Nat.le_of_ble_eq_true rfl) (by decide) (cs_X10_refused hG (oa_af h0 hA) (fun _ _ _ _ h => h)) rfl (fun _ h => nomatch h) (fun S187 x192 h193 hx191 hG188 hB189 hA190 => ?_)
                obtain rfl := (hx191.1 _ rfl).trans (show bI (0 < (0 : Int32)) = 0 by decide)
                refine tt_if_eq (tgt := 102) dX10_given_98 rfl (fun _ => ?_) (fun q => absurd q (by decide))
                refine tt_aload_n (j := 1) dX10_given_102 rfl ?_
                refine tt_sipush (v := 4880) dX10_given_103 rfl ?_
                refine tt_iload_n (j := 2) dX10_given_106 rfl ?_
                refine tt_iadd dX10_given_107 ?_
                refine tt_iconst (v := 1) dX10_given_108 rfl ?_
                refine tt_lload_n (j := 3) dX10_given_109 rfl ?_
                refine tt_lload (j := 4) dX10_given_110 rfl ?_
                refine tt_lload (j := 5) dX10_given_112 rfl ?_
                refine gt_Vv (As := [.int (4880 + x1), .int 1, .long y2, .long y4, .long y6]) dX10_given_114 ca_X10_165 ⟨by decide, by decide⟩ h0 hA190 rfl (Nat.le_of_ble_eq_true rfl) (Nat.le_of_ble_eq_true rfl) (by decide) (cs_X10_make hG188 (oa_af h0 hA190) (rg_w (rg_add (lo := 4880) (hi := 4903) (⟨by decide, by decide⟩ : Rg 4880 4880 4880) h118)) (fun _ _ _ _ h => h)) rfl (fun _ h => nomatch h) (fun S194 hx198 hG195 hB196 hA197 => ?_)
                exact tt_vreturn dX10_given_117 rfl (hP _ _ _ _ ⟨hG195, hA197, Or.inl ⟨_, rfl, rfl, trivial, rfl, rfl⟩⟩)
          · skip
            refine tt_lload (j := 4) dX10_given_48 rfl ?_
            refine tt_lconst (v := 0) dX10_given_50 rfl ?_
            refine tt_lcmp dX10_given_51 ?_
            refine tt_if_ne (tgt := 81) dX10_given_52 rfl (fun q199 => ?_) (fun q199 => ?_)
            · skip
              refine tt_iconst (v := 0) dX10_given_81 rfl ?_
              refine tt_istore (ks := [0, 1, 2, 3, 4, 5]) (L' := [(8, .int 0), (0, .ref o0), (1, .int x1), (2, .long y2), (4, .long y4), (6, .long y6)]) dX10_given_82 (by decide) rfl ?_
              refine tt_aload_n (j := 1) dX10_given_84 rfl ?_
              refine tt_iload (j := 0) dX10_given_85 rfl ?_
              refine tt_if_eq (tgt := 94) dX10_given_87 rfl (fun _ => ?_) (fun q => absurd q (by decide))
              refine tt_iconst (v := 1) dX10_given_94 rfl ?_
              refine gt_VI (As := [.int 1]) dX10_given_95 ca_X10_74 ⟨by decide, by decide⟩ h0 hA rfl (Nat.le_of_ble_eq_true rfl) (Nat.le_of_ble_eq_true rfl) (by decide) (cs_X10_refused hG (oa_af h0 hA) (fun _ _ _ _ h => h)) rfl (fun _ h => nomatch h) (fun S200 x205 h206 hx204 hG201 hB202 hA203 => ?_)
              obtain rfl := (hx204.1 _ rfl).trans (show bI (0 < (1 : Int32)) = 1 by decide)
              refine tt_if_eq (tgt := 102) dX10_given_98 rfl (fun q => absurd q (by decide)) (fun _ => ?_)
              exact tt_vreturn dX10_given_101 rfl (hP _ _ _ _ ⟨hG201, hA203, Or.inl ⟨_, rfl, rfl, trivial, rfl, rfl⟩⟩)
            · skip
              have h207 : Rl 0 0 y6 := rl_eq_l (rl_all y6) (⟨by decide, by decide⟩ : Rl 0 0 0) (lc_ne_f q199)
              refine tt_goto (tgt := 77) dX10_given_55 rfl ?_
              refine tt_iconst (v := 1) dX10_given_77 rfl ?_
              refine tt_goto (tgt := 82) dX10_given_78 rfl ?_
              refine tt_istore (ks := [0, 1, 2, 3, 4, 5]) (L' := [(8, .int 1), (0, .ref o0), (1, .int x1), (2, .long y2), (4, .long y4), (6, .long y6)]) dX10_given_82 (by decide) rfl ?_
              refine tt_aload_n (j := 1) dX10_given_84 rfl ?_
              refine tt_iload (j := 0) dX10_given_85 rfl ?_
              refine tt_if_eq (tgt := 94) dX10_given_87 rfl (fun q => absurd q (by decide)) (fun _ => ?_)
              refine tt_iconst (v := 0) dX10_given_90 rfl ?_
              refine tt_goto (tgt := 95) dX10_given_91 rfl ?_
              refine gt_VI (As := [.int 0]) dX10_given_95 ca_X10_74 ⟨by decide, by decide⟩ h0 hA rfl (Nat.le_of_ble_eq_true rfl) (Nat.le_of_ble_eq_true rfl) (by decide) (cs_X10_refused hG (oa_af h0 hA) (fun _ _ _ _ h => h)) rfl (fun _ h => nomatch h) (fun S208 x213 h214 hx212 hG209 hB210 hA211 => ?_)
              obtain rfl := (hx212.1 _ rfl).trans (show bI (0 < (0 : Int32)) = 0 by decide)
              refine tt_if_eq (tgt := 102) dX10_given_98 rfl (fun _ => ?_) (fun q => absurd q (by decide))
              refine tt_aload_n (j := 1) dX10_given_102 rfl ?_
              refine tt_sipush (v := 4880) dX10_given_103 rfl ?_
              refine tt_iload_n (j := 2) dX10_given_106 rfl ?_
              refine tt_iadd dX10_given_107 ?_
              refine tt_iconst (v := 1) dX10_given_108 rfl ?_
              refine tt_lload_n (j := 3) dX10_given_109 rfl ?_
              refine tt_lload (j := 4) dX10_given_110 rfl ?_
              refine tt_lload (j := 5) dX10_given_112 rfl ?_
              refine gt_Vv (As := [.int (4880 + x1), .int 1, .long y2, .long y4, .long y6]) dX10_given_114 ca_X10_165 ⟨by decide, by decide⟩ h0 hA211 rfl (Nat.le_of_ble_eq_true rfl) (Nat.le_of_ble_eq_true rfl) (by decide) (cs_X10_make hG209 (oa_af h0 hA211) (rg_w (rg_add (lo := 4880) (hi := 4903) (⟨by decide, by decide⟩ : Rg 4880 4880 4880) h118)) (fun _ _ _ _ h => h)) rfl (fun _ h => nomatch h) (fun S215 hx219 hG216 hB217 hA218 => ?_)
              exact tt_vreturn dX10_given_117 rfl (hP _ _ _ _ ⟨hG216, hA218, Or.inl ⟨_, rfl, rfl, trivial, rfl, rfl⟩⟩)
set_option maxHeartbeats 4000000 in
theorem cs_X10_any {xi : SX} {S : Hp} {E : List Nat} {kc nc : Nat} {P : Po} {o0 : Nat} {x1 : Int32} (hG : GI S E) (h0 : Oa S E 10 0 o0) (hP : ∀ r T x y, PV E [640, 9989] S kc nc rV ex0 [] r T x y → P r T x y) : TT xi M_X10_any 0 [(0, .ref o0), (1, .int x1)] [] S kc nc P := by
  have hA : Af E [640, 9989] S S := af_rf
  refine tt_aload_n (j := 0) dX10_any_0 rfl ?_
  refine tt_iload_n (j := 1) dX10_any_1 rfl ?_
  refine gt_SIp (As := [.int x1]) dX10_any_2 ca_X10_310 ⟨by decide, by decide⟩ hA (Nat.le_of_ble_eq_true rfl) (Nat.le_of_ble_eq_true rfl) (by decide) (cs_X10_isPlace hG  (fun _ _ _ _ h => h)) rfl (fun _ h => nomatch h) (fun _ _ q => q.1) (fun x106 h107 hx105 => ?_)
  refine tt_if_eq (tgt := 12) dX10_any_5 rfl (fun q108 => ?_) (fun q108 => ?_)
  · skip
    have h109 : Rg 0 0 x106 := rg_eq_l h107 (⟨by decide, by decide⟩ : Rg 0 0 0) q108
    refine tt_iconst (v := 1) dX10_any_12 rfl ?_
    refine gt_VI (As := [.int 1]) dX10_any_13 ca_X10_74 ⟨by decide, by decide⟩ h0 hA rfl (Nat.le_of_ble_eq_true rfl) (Nat.le_of_ble_eq_true rfl) (by decide) (cs_X10_refused hG (oa_af h0 hA) (fun _ _ _ _ h => h)) rfl (fun _ h => nomatch h) (fun S110 x115 h116 hx114 hG111 hB112 hA113 => ?_)
    obtain rfl := (hx114.1 _ rfl).trans (show bI (0 < (1 : Int32)) = 1 by decide)
    refine tt_if_eq (tgt := 20) dX10_any_16 rfl (fun q => absurd q (by decide)) (fun _ => ?_)
    exact tt_vreturn dX10_any_19 rfl (hP _ _ _ _ ⟨hG111, hA113, Or.inl ⟨_, rfl, rfl, trivial, rfl, rfl⟩⟩)
  · skip
    have h117 : Rg 1 1 x106 := rg_ne_lo h107 (⟨by decide, by decide⟩ : Rg 0 0 0) q108
    have h118 : Rg 0 23 x1 := (((hx105.2) _ rfl).1 q108)
    refine tt_iconst (v := 0) dX10_any_8 rfl ?_
    refine tt_goto (tgt := 13) dX10_any_9 rfl ?_
    refine gt_VI (As := [.int 0]) dX10_any_13 ca_X10_74 ⟨by decide, by decide⟩ h0 hA rfl (Nat.le_of_ble_eq_true rfl) (Nat.le_of_ble_eq_true rfl) (by decide) (cs_X10_refused hG (oa_af h0 hA) (fun _ _ _ _ h => h)) rfl (fun _ h => nomatch h) (fun S119 x124 h125 hx123 hG120 hB121 hA122 => ?_)
    obtain rfl := (hx123.1 _ rfl).trans (show bI (0 < (0 : Int32)) = 0 by decide)
    refine tt_if_eq (tgt := 20) dX10_any_16 rfl (fun _ => ?_) (fun q => absurd q (by decide))
    refine tt_aload_n (j := 0) dX10_any_20 rfl ?_
    obtain ⟨b126, hr127, ho128⟩ := gi_R (k := 643) hG h0 32 4940
    refine gt_gR (id := 643) dX10_any_21 fl_10_13 rfl rfl h0 hA122 hr127 ?_
    refine tt_sipush (v := 4880) dX10_any_24 rfl ?_
    refine tt_iload_n (j := 1) dX10_any_27 rfl ?_
    refine tt_iadd dX10_any_28 ?_
    refine tt_iconst (v := 2) dX10_any_29 rfl ?_
    refine gt_iS dX10_any_30 ho128 hA122 (Or.inl (by decide)) (rg_in (rg_add (lo := 4880) (hi := 4903) (⟨by decide, by decide⟩ : Rg 4880 4880 4880) h118)) hG120 (by decide) (fun S129 hG130 hA131 e132 f133 er134 => ?_)
    exact tt_vreturn dX10_any_31 rfl (hP _ _ _ _ ⟨hG130, hA131, Or.inl ⟨_, rfl, rfl, trivial, rfl, rfl⟩⟩)
set_option maxHeartbeats 4000000 in
theorem cs_X10_isReached {xi : SX} {S : Hp} {E : List Nat} {kc nc : Nat} {P : Po} {o0 : Nat} {x1 : Int32} (hG : GI S E) (h0 : Oa S E 10 0 o0) (hP : ∀ r T x y, PV E [] S kc nc (rI 0 1) (fun v T => T = S ∧ ∀ z, v = some (.int z) → ¬ z = 0 → Rg 0 199 x1) [] r T x y → P r T x y) : TT xi M_X10_isReached 0 [(0, .ref o0), (1, .int x1)] [] S kc nc P := by
  have hA : Af E [] S S := af_rf
  refine tt_iload_n (j := 1) dX10_isReached_0 rfl ?_
  refine tt_i2l dX10_isReached_1 ?_
  refine tt_lconst (v := 0) dX10_isReached_2 rfl ?_
  refine tt_aload_n (j := 0) dX10_isReached_3 rfl ?_
  refine tt_getI (id := 642) dX10_isReached_4 fl_10_71 rfl rfl (ob_af h0 hA) ?_
  refine tt_iconst (v := 1) dX10_isReached_7 rfl ?_
  refine tt_isub dX10_isReached_8 ?_
  refine tt_i2l dX10_isReached_9 ?_
  refine gt_SIp (As := [.long (x1 : Int32).toInt64, .long 0, .long (((hp_I S 642 o0) - 1) : Int32).toInt64]) dX10_isReached_10 ca_X10_67 ⟨by decide, by decide⟩ hA (Nat.le_of_ble_eq_true rfl) (Nat.le_of_ble_eq_true rfl) (by decide) (cs_X10_isIn hG  (fun _ _ _ _ h => h)) rfl (fun _ h => nomatch h) (fun _ _ q => q.1) (fun x106 h107 hx105 => ?_)
  refine tt_if_eq (tgt := 29) dX10_isReached_13 rfl (fun q108 => ?_) (fun q108 => ?_)
  · skip
    have h109 : Rg 0 0 x106 := rg_eq_l h107 (⟨by decide, by decide⟩ : Rg 0 0 0) q108
    refine tt_iconst (v := 0) dX10_isReached_29 rfl ?_
    exact tt_ireturn dX10_isReached_30 .boolean rfl rfl (hP _ _ _ _ ⟨hG, hA, Or.inl ⟨_, rfl, ⟨_, rfl, rg_w (⟨by decide, by decide⟩ : Rg 0 0 0)⟩, ⟨rfl, ei_0⟩, rfl, rfl⟩⟩)
  · skip
    have h110 : Rg 1 1 x106 := rg_ne_lo h107 (⟨by decide, by decide⟩ : Rg 0 0 0) q108
    have h111 : Rl 0 199 (x1 : Int32).toInt64 := in_rl ((fun z e => (hx105.2 z e).1) _ rfl q108) (⟨by decide, by decide⟩ : Rl 0 0 0) (rg_i2l (rg_sub (lo := (-1)) (hi := 199) (gi_I (k := 642) hG (oa_af h0 hA) 0 200) (⟨by decide, by decide⟩ : Rg 1 1 1)))
    have h112 : Rg 0 199 x1 := rg_of_l h111
    refine tt_aload_n (j := 0) dX10_isReached_16 rfl ?_
    obtain ⟨b113, hr114, ho115⟩ := gi_R (k := 647) hG h0 32 201
    refine gt_gR (id := 647) dX10_isReached_17 fl_10_26 rfl rfl h0 hA hr114 ?_
    refine tt_iload_n (j := 1) dX10_isReached_20 rfl ?_
    refine gt_iL dX10_isReached_21 ho115 hA (rg_in h112) (fun x116 => ?_)
    refine tt_if_le (tgt := 29) dX10_isReached_22 rfl (fun q117 => ?_) (fun q117 => ?_)
    · skip
      have h118 : Rg (-2147483648) 0 x116 := rg_le_l (rg_all x116) (⟨by decide, by decide⟩ : Rg 0 0 0) q117
      refine tt_iconst (v := 0) dX10_isReached_29 rfl ?_
      exact tt_ireturn dX10_isReached_30 .boolean rfl rfl (hP _ _ _ _ ⟨hG, hA, Or.inl ⟨_, rfl, ⟨_, rfl, rg_w (⟨by decide, by decide⟩ : Rg 0 0 0)⟩, ⟨rfl, ei_0⟩, rfl, rfl⟩⟩)
    · skip
      have h119 : Rg 1 2147483647 x116 := rg_lt_r (⟨by decide, by decide⟩ : Rg 0 0 0) (rg_all x116) (nle_lt q117)
      refine tt_iconst (v := 1) dX10_isReached_25 rfl ?_
      refine tt_goto (tgt := 30) dX10_isReached_26 rfl ?_
      exact tt_ireturn dX10_isReached_30 .boolean rfl rfl (hP _ _ _ _ ⟨hG, hA, Or.inl ⟨_, rfl, ⟨_, rfl, rg_w (⟨by decide, by decide⟩ : Rg 1 1 1)⟩, ⟨rfl, (fun _ _ _ => rg_w h112)⟩, rfl, rfl⟩⟩)
set_option maxHeartbeats 4000000 in
theorem cs_X10_reached {xi : SX} {S : Hp} {E : List Nat} {kc nc : Nat} {P : Po} {o0 : Nat} {x1 : Int32} (hG : GI S E) (h0 : Oa S E 10 0 o0) (hP : ∀ r T x y, PV E [640] S kc nc (rI (-2147483648) 2147483647) ex0 [] r T x y → P r T x y) : TT xi M_X10_reached 0 [(0, .ref o0), (1, .int x1)] [] S kc nc P := by
  have hA : Af E [640] S S := af_rf
  refine tt_aload_n (j := 0) dX10_reached_0 rfl ?_
  refine tt_iconst (v := 0) dX10_reached_1 rfl ?_
  refine gt_pI (id := 640) (x := 0) dX10_reached_2 fl_10_55 rfl rfl h0 hA rfl rfl rfl (gp_I hG) (by decide) (fun h => absurd h (by decide)) (fun h => absurd h (by decide)) (fun S101 hG102 hA103 e104 f105 er106 => ?_)
  refine tt_aload_n (j := 0) dX10_reached_5 rfl ?_
  refine tt_iload_n (j := 1) dX10_reached_6 rfl ?_
  refine gt_VIp (As := [.int x1]) dX10_reached_7 ca_X10_313 ⟨by decide, by decide⟩ h0 hA103 rfl (Nat.le_of_ble_eq_true rfl) (Nat.le_of_ble_eq_true rfl) (by decide) (cs_X10_isReached hG102 (oa_af h0 hA103) (fun _ _ _ _ h => h)) rfl (fun _ h => nomatch h) (fun _ _ q => q.1) (fun x112 h113 hx111 => ?_)
  have B114 : ∀ (x115 : Int32), TT xi M_X10_reached 23 [(0, .ref o0), (1, .int x1)] [.int x115] S101 kc nc P := by
    intro x115 
    exact tt_ireturn dX10_reached_23 .int rfl rfl (hP _ _ _ _ ⟨hG102, hA103, Or.inl ⟨_, rfl, ⟨_, rfl, rg_w (rg_all x115)⟩, trivial, rfl, rfl⟩⟩)
  refine tt_if_eq (tgt := 22) dX10_reached_10 rfl (fun q116 => ?_) (fun q116 => ?_)
  · skip
    have h117 : Rg 0 0 x112 := rg_eq_l h113 (⟨by decide, by decide⟩ : Rg 0 0 0) q116
    refine tt_iconst (v := 0) dX10_reached_22 rfl ?_
    exact B114 0
  · skip
    have h118 : Rg 1 1 x112 := rg_ne_lo h113 (⟨by decide, by decide⟩ : Rg 0 0 0) q116
    have h119 : Rg 0 199 x1 := ((hx111.2) _ rfl q116)
    refine tt_aload_n (j := 0) dX10_reached_13 rfl ?_
    obtain ⟨b120, hr121, ho122⟩ := gi_R (k := 647) hG h0 32 201
    refine gt_gR (id := 647) dX10_reached_14 fl_10_26 rfl rfl h0 hA103 hr121 ?_
    refine tt_iload_n (j := 1) dX10_reached_17 rfl ?_
    refine gt_iL dX10_reached_18 ho122 hA103 (rg_in h119) (fun x123 => ?_)
    refine tt_goto (tgt := 23) dX10_reached_19 rfl ?_
    exact B114 x123
set_option maxHeartbeats 4000000 in
theorem cs_X10_set {xi : SX} {S : Hp} {E : List Nat} {kc nc : Nat} {P : Po} {o0 : Nat} {x1 : Int32} {x2 : Int32} {x3 : Int32} (hG : GI S E) (h0 : Oa S E 10 0 o0) (hP : ∀ r T x y, PV E [640] S kc nc rJ ex0 [] r T x y → P r T x y) : TT xi M_X10_set 0 [(0, .ref o0), (1, .int x1), (2, .int x2), (3, .int x3)] [] S kc nc P := by
  have hA : Af E [640] S S := af_rf
  refine tt_aload_n (j := 0) dX10_set_0 rfl ?_
  refine tt_iload_n (j := 2) dX10_set_1 rfl ?_
  refine gt_SIp (As := [.int x2]) dX10_set_2 ca_X10_310 ⟨by decide, by decide⟩ hA (Nat.le_of_ble_eq_true rfl) (Nat.le_of_ble_eq_true rfl) (by decide) (cs_X10_isPlace hG  (fun _ _ _ _ h => h)) rfl (fun _ h => nomatch h) (fun _ _ q => q.1) (fun x106 h107 hx105 => ?_)
  refine tt_if_eq (tgt := 20) dX10_set_5 rfl (fun q108 => ?_) (fun q108 => ?_)
  · skip
    have h109 : Rg 0 0 x106 := rg_eq_l h107 (⟨by decide, by decide⟩ : Rg 0 0 0) q108
    refine tt_iconst (v := 1) dX10_set_20 rfl ?_
    refine tt_goto (tgt := 37) dX10_set_21 rfl ?_
    refine gt_VI (As := [.int 1]) dX10_set_37 ca_X10_74 ⟨by decide, by decide⟩ h0 hA rfl (Nat.le_of_ble_eq_true rfl) (Nat.le_of_ble_eq_true rfl) (by decide) (cs_X10_refused hG (oa_af h0 hA) (fun _ _ _ _ h => h)) rfl (fun _ h => nomatch h) (fun S110 x115 h116 hx114 hG111 hB112 hA113 => ?_)
    obtain rfl := (hx114.1 _ rfl).trans (show bI (0 < (1 : Int32)) = 1 by decide)
    refine tt_if_eq (tgt := 45) dX10_set_40 rfl (fun q => absurd q (by decide)) (fun _ => ?_)
    refine tt_lconst (v := 0) dX10_set_43 rfl ?_
    exact tt_lreturn dX10_set_44 rfl (hP _ _ _ _ ⟨hG111, hA113, Or.inl ⟨_, rfl, ⟨_, rfl⟩, trivial, rfl, rfl⟩⟩)
  · skip
    have h117 : Rg 1 1 x106 := rg_ne_lo h107 (⟨by decide, by decide⟩ : Rg 0 0 0) q108
    have h118 : Rg 0 23 x2 := (((hx105.2) _ rfl).1 q108)
    refine tt_iload_n (j := 3) dX10_set_8 rfl ?_
    refine tt_i2l dX10_set_9 ?_
    refine tt_lconst (v := 0) dX10_set_10 rfl ?_
    refine tt_ldc2 (v := 2) dX10_set_11 kl_10_199 ?_
    refine gt_SIp (As := [.long (x3 : Int32).toInt64, .long 0, .long 2]) dX10_set_14 ca_X10_67 ⟨by decide, by decide⟩ hA (Nat.le_of_ble_eq_true rfl) (Nat.le_of_ble_eq_true rfl) (by decide) (cs_X10_isIn hG  (fun _ _ _ _ h => h)) rfl (fun _ h => nomatch h) (fun _ _ q => q.1) (fun x124 h125 hx123 => ?_)
    refine tt_if_ne (tgt := 24) dX10_set_17 rfl (fun q126 => ?_) (fun q126 => ?_)
    · skip
      have h127 : Rg 1 1 x124 := rg_ne_lo h125 (⟨by decide, by decide⟩ : Rg 0 0 0) q126
      have h128 : Rl 0 2 (x3 : Int32).toInt64 := in_rl ((fun z e => (hx123.2 z e).1) _ rfl q126) (⟨by decide, by decide⟩ : Rl 0 0 0) (⟨by decide, by decide⟩ : Rl 2 2 2)
      have h129 : Rg 0 2 x3 := rg_of_l h128
      refine tt_aload_n (j := 0) dX10_set_24 rfl ?_
      refine tt_iload_n (j := 1) dX10_set_25 rfl ?_
      refine gt_VIp (As := [.int x1]) dX10_set_26 ca_X10_313 ⟨by decide, by decide⟩ h0 hA rfl (Nat.le_of_ble_eq_true rfl) (Nat.le_of_ble_eq_true rfl) (by decide) (cs_X10_isReached hG (oa_af h0 hA) (fun _ _ _ _ h => h)) rfl (fun _ h => nomatch h) (fun _ _ q => q.1) (fun x135 h136 hx134 => ?_)
      refine tt_if_ne (tgt := 36) dX10_set_29 rfl (fun q137 => ?_) (fun q137 => ?_)
      · skip
        have h138 : Rg 1 1 x135 := rg_ne_lo h136 (⟨by decide, by decide⟩ : Rg 0 0 0) q137
        have h139 : Rg 0 199 x1 := ((hx134.2) _ rfl q137)
        refine tt_iconst (v := 0) dX10_set_36 rfl ?_
        refine gt_VI (As := [.int 0]) dX10_set_37 ca_X10_74 ⟨by decide, by decide⟩ h0 hA rfl (Nat.le_of_ble_eq_true rfl) (Nat.le_of_ble_eq_true rfl) (by decide) (cs_X10_refused hG (oa_af h0 hA) (fun _ _ _ _ h => h)) rfl (fun _ h => nomatch h) (fun S140 x145 h146 hx144 hG141 hB142 hA143 => ?_)
        obtain rfl := (hx144.1 _ rfl).trans (show bI (0 < (0 : Int32)) = 0 by decide)
        refine tt_if_eq (tgt := 45) dX10_set_40 rfl (fun _ => ?_) (fun q => absurd q (by decide))
        refine tt_bipush (v := 24) dX10_set_45 rfl ?_
        refine tt_iload_n (j := 1) dX10_set_47 rfl ?_
        refine tt_imul dX10_set_48 ?_
        refine tt_iload_n (j := 2) dX10_set_49 rfl ?_
        refine tt_iadd dX10_set_50 ?_
        refine tt_istore (ks := [0, 1, 2, 3, 4]) (L' := [(4, .int ((24 * x1) + x2)), (0, .ref o0), (1, .int x1), (2, .int x2), (3, .int x3)]) dX10_set_51 (by decide) rfl ?_
        refine tt_aload_n (j := 1) dX10_set_53 rfl ?_
        obtain ⟨b147, hr148, ho149⟩ := gi_R (k := 643) hG h0 32 4940
        refine gt_gR (id := 643) dX10_set_54 fl_10_13 rfl rfl h0 hA143 hr148 ?_
        refine tt_iload (j := 0) dX10_set_57 rfl ?_
        refine gt_iL dX10_set_59 ho149 hA143 (rg_in (rg_add (lo := 0) (hi := 4799) (rg_mul (lo := 0) (hi := 4776) (⟨by decide, by decide⟩ : Rg 24 24 24) h139) h118)) (fun x150 => ?_)
        refine tt_iconst (v := 2) dX10_set_60 rfl ?_
        refine tt_icmp_ne (tgt := 77) dX10_set_61 rfl (fun q151 => ?_) (fun q151 => ?_)
        · skip
          refine tt_iload_n (j := 4) dX10_set_77 rfl ?_
          refine tt_if_ne (tgt := 91) dX10_set_78 rfl (fun q152 => ?_) (fun q152 => ?_)
          · skip
            have h153 : Rg 1 2 x3 := rg_ne_lo h129 (⟨by decide, by decide⟩ : Rg 0 0 0) q152
            refine tt_iload_n (j := 4) dX10_set_91 rfl ?_
            refine tt_iconst (v := 1) dX10_set_92 rfl ?_
            refine tt_icmp_ne (tgt := 106) dX10_set_93 rfl (fun q154 => ?_) (fun q154 => ?_)
            · skip
              have h155 : Rg 2 2 x3 := rg_ne_lo h153 (⟨by decide, by decide⟩ : Rg 1 1 1) q154
              refine tt_aload_n (j := 1) dX10_set_106 rfl ?_
              obtain ⟨b156, hr157, ho158⟩ := gi_R (k := 646) hG h0 33 4940
              refine gt_gR (id := 646) dX10_set_107 fl_10_23 rfl rfl h0 hA143 hr157 ?_
              refine tt_iload (j := 0) dX10_set_110 rfl ?_
              refine gt_lLt dX10_set_112 ho158 hA143 (rg_in (rg_add (lo := 0) (hi := 4799) (rg_mul (lo := 0) (hi := 4776) (⟨by decide, by decide⟩ : Rg 24 24 24) h139) h118)) ?_
              exact tt_lreturn dX10_set_113 rfl (hP _ _ _ _ ⟨hG141, hA143, Or.inl ⟨_, rfl, ⟨_, rfl⟩, trivial, rfl, rfl⟩⟩)
            · skip
              have h159 : Rg 1 1 x3 := rg_eq_l h153 (⟨by decide, by decide⟩ : Rg 1 1 1) q154
              refine tt_aload_n (j := 1) dX10_set_96 rfl ?_
              obtain ⟨b160, hr161, ho162⟩ := gi_R (k := 645) hG h0 33 4940
              refine gt_gR (id := 645) dX10_set_97 fl_10_20 rfl rfl h0 hA143 hr161 ?_
              refine tt_iload (j := 0) dX10_set_100 rfl ?_
              refine gt_lLt dX10_set_102 ho162 hA143 (rg_in (rg_add (lo := 0) (hi := 4799) (rg_mul (lo := 0) (hi := 4776) (⟨by decide, by decide⟩ : Rg 24 24 24) h139) h118)) ?_
              refine tt_goto (tgt := 113) dX10_set_103 rfl ?_
              exact tt_lreturn dX10_set_113 rfl (hP _ _ _ _ ⟨hG141, hA143, Or.inl ⟨_, rfl, ⟨_, rfl⟩, trivial, rfl, rfl⟩⟩)
          · skip
            have h163 : Rg 0 0 x3 := rg_eq_l h129 (⟨by decide, by decide⟩ : Rg 0 0 0) q152
            refine tt_aload_n (j := 1) dX10_set_81 rfl ?_
            obtain ⟨b164, hr165, ho166⟩ := gi_R (k := 644) hG h0 33 4940
            refine gt_gR (id := 644) dX10_set_82 fl_10_16 rfl rfl h0 hA143 hr165 ?_
            refine tt_iload (j := 0) dX10_set_85 rfl ?_
            refine gt_lLt dX10_set_87 ho166 hA143 (rg_in (rg_add (lo := 0) (hi := 4799) (rg_mul (lo := 0) (hi := 4776) (⟨by decide, by decide⟩ : Rg 24 24 24) h139) h118)) ?_
            refine tt_goto (tgt := 113) dX10_set_88 rfl ?_
            exact tt_lreturn dX10_set_113 rfl (hP _ _ _ _ ⟨hG141, hA143, Or.inl ⟨_, rfl, ⟨_, rfl⟩, trivial, rfl, rfl⟩⟩)
        · skip
          have h167 : Rg 2 2 x150 := rg_eq_l (rg_all x150) (⟨by decide, by decide⟩ : Rg 2 2 2) q151
          refine tt_iload_n (j := 4) dX10_set_64 rfl ?_
          refine tt_iconst (v := 2) dX10_set_65 rfl ?_
          refine tt_icmp_ne (tgt := 75) dX10_set_66 rfl (fun q168 => ?_) (fun q168 => ?_)
          · skip
            have h169 : Rg 0 1 x3 := rg_ne_hi h129 (⟨by decide, by decide⟩ : Rg 2 2 2) q168
            refine tt_lconst (v := 0) dX10_set_75 rfl ?_
            exact tt_lreturn dX10_set_76 rfl (hP _ _ _ _ ⟨hG141, hA143, Or.inl ⟨_, rfl, ⟨_, rfl⟩, trivial, rfl, rfl⟩⟩)
          · skip
            have h170 : Rg 2 2 x3 := rg_eq_l h129 (⟨by decide, by decide⟩ : Rg 2 2 2) q168
            refine tt_ldc2 (v := (-1)) dX10_set_69 kl_10_204 ?_
            refine tt_goto (tgt := 76) dX10_set_72 rfl ?_
            exact tt_lreturn dX10_set_76 rfl (hP _ _ _ _ ⟨hG141, hA143, Or.inl ⟨_, rfl, ⟨_, rfl⟩, trivial, rfl, rfl⟩⟩)
      · skip
        have h171 : Rg 0 0 x135 := rg_eq_l h136 (⟨by decide, by decide⟩ : Rg 0 0 0) q137
        refine tt_iconst (v := 2) dX10_set_32 rfl ?_
        refine tt_goto (tgt := 37) dX10_set_33 rfl ?_
        refine gt_VI (As := [.int 2]) dX10_set_37 ca_X10_74 ⟨by decide, by decide⟩ h0 hA rfl (Nat.le_of_ble_eq_true rfl) (Nat.le_of_ble_eq_true rfl) (by decide) (cs_X10_refused hG (oa_af h0 hA) (fun _ _ _ _ h => h)) rfl (fun _ h => nomatch h) (fun S172 x177 h178 hx176 hG173 hB174 hA175 => ?_)
        obtain rfl := (hx176.1 _ rfl).trans (show bI (0 < (2 : Int32)) = 1 by decide)
        refine tt_if_eq (tgt := 45) dX10_set_40 rfl (fun q => absurd q (by decide)) (fun _ => ?_)
        refine tt_lconst (v := 0) dX10_set_43 rfl ?_
        exact tt_lreturn dX10_set_44 rfl (hP _ _ _ _ ⟨hG173, hA175, Or.inl ⟨_, rfl, ⟨_, rfl⟩, trivial, rfl, rfl⟩⟩)
    · skip
      have h179 : Rg 0 0 x124 := rg_eq_l h125 (⟨by decide, by decide⟩ : Rg 0 0 0) q126
      refine tt_iconst (v := 1) dX10_set_20 rfl ?_
      refine tt_goto (tgt := 37) dX10_set_21 rfl ?_
      refine gt_VI (As := [.int 1]) dX10_set_37 ca_X10_74 ⟨by decide, by decide⟩ h0 hA rfl (Nat.le_of_ble_eq_true rfl) (Nat.le_of_ble_eq_true rfl) (by decide) (cs_X10_refused hG (oa_af h0 hA) (fun _ _ _ _ h => h)) rfl (fun _ h => nomatch h) (fun S180 x185 h186 hx184 hG181 hB182 hA183 => ?_)
      obtain rfl := (hx184.1 _ rfl).trans (show bI (0 < (1 : Int32)) = 1 by decide)
      refine tt_if_eq (tgt := 45) dX10_set_40 rfl (fun q => absurd q (by decide)) (fun _ => ?_)
      refine tt_lconst (v := 0) dX10_set_43 rfl ?_
      exact tt_lreturn dX10_set_44 rfl (hP _ _ _ _ ⟨hG181, hA183, Or.inl ⟨_, rfl, ⟨_, rfl⟩, trivial, rfl, rfl⟩⟩)
