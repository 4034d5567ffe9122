section LWH
variable {xi : SX} {M N : MD} {pc : Nat} {L : List (Nat × Value)} {rest As : List Value} {S S0 T : Hp} {i k0 n0 : Nat} {P : Po} {E ws vs : List Nat} {cz : Int32 → Prop}
theorem gt_SW (h : decode (md_c M) pc = .ok (.invokestatic i, 3)) (hcv : CTW (md_y M).cls i N As.length) (hrm : RM M N) (hA : Af E ws S0 S) (hlen : (lg_sl As).length ≤ md_L N) (hr8 : (rest.map fun v => v.category).sum ≤ 8) (hs : ∀ k ∈ vs, k ∈ ws) (hk : 1 ≤ k0) (hn : 6 ≤ n0) (kx : TT xi N 0 (lv_args 0 As) [] S 1 6 (PW E vs S cz)) (kk : ∀ (T : Hp) (z : Int32), cz z → GI T E → Af E vs S T → Af E ws S0 T → TT xi M (pc + 3) L (.int z :: rest) T (k0 - 1) (n0 - 6) P) : TT xi M pc L (As.reverse ++ rest) S k0 n0 P := by
  refine tt_callSW (k1 := 1) (n1 := 6) (k2 := k0 - 1) (n2 := n0 - 6) h hcv hrm hlen hr8 (by omega) (by omega) kx (fun v T x y hw => ?_) (fun X T hw => ?_)
  · obtain ⟨g1, g2, z, e, hz⟩ := hw
    cases e
    exact kk T z hz g1 g2 (af_tr hA g2 hs)
  · obtain ⟨g1, g2, z, e, hz⟩ := hw
    cases e
abbrev Rel (S : Hp) (o : Nat) : Prop := ¬ hp_I S 663 o = 0 → ¬ hp_I S 664 o = -1
theorem rel_af {o kd n : Nat} (h : Rel S o) (ho : Oa S E kd n o) (hA : Af E vs S T) (h1 : 663 ∉ vs := by decide) (h2 : 664 ∉ vs := by decide) : Rel T o := by
  unfold Rel
  rw [i_af ho hA h1, i_af ho hA h2]
  exact h
theorem rel_go {o kd n : Nat} (h : Rel S o) (ho : Oa S E kd n o) (hA : Af E vs S T) (h1 : 663 ∉ vs := by decide) (h2 : 9997 ∉ vs := by decide) : Rel T o := by
  intro q
  rw [i_af ho hA h1] at q
  exact he_af ho hA (h q) h2
theorem pa_af {o n pa : Nat} (hG : GI S E) (ho : Oa S E 9 n o) (hA : Af E ws S T) (h : (hp_R S 579 o).bind (fun q => hp_R S 258 q) = some pa) : (hp_R T 579 o).bind (fun q => hp_R T 258 q) = some pa := by
  obtain ⟨b, h1, h2⟩ := gi_R (k := 579) hG ho 4 0
  rw [r_af ho hA h1]
  rw [h1] at h
  exact (r_af h2 hA rfl).trans h
end LWH
theorem lw_in {L : Nat} {x : Int32} (hL : L ≤ 4096) (hx : Rg 0 4104 x) (h : ¬ Int32.ofNat L - 8 < x) : 0 ≤ x.toInt ∧ x.toInt + 8 ≤ (L : Int) := by
  obtain ⟨x1, x2⟩ := hx
  rw [Int32.lt_iff_toInt_lt] at h
  have e1 : (Int32.ofNat L).toInt = (L : Int) := by
    rw [Int32.toInt_ofNat_of_lt (by omega)]
  have e2 : (Int32.ofNat L - 8).toInt = (L : Int) - 8 := by
    rw [Int32.toInt_sub, e1, show (8 : Int32).toInt = 8 from rfl, bmod_in (by omega) (by omega)]
  rw [e2] at h
  omega
theorem sc_in {L : Nat} {x j : Int32} (h : 0 ≤ x.toInt ∧ x.toInt + 8 ≤ (L : Int)) (hL : L ≤ 4096) (h1 : 0 ≤ j.toInt := by decide) (h2 : j.toInt ≤ 7 := by decide) : vp_in (x + j) L := by
  obtain ⟨x1, x2⟩ := h
  have e : (x + j).toInt = x.toInt + j.toInt := by rw [Int32.toInt_add, bmod_in (by omega) (by omega)]
  intro q
  rcases q with q | q
  · have := Int32.lt_iff_toInt_lt.mp q
    have e0 : (0 : Int32).toInt = 0 := rfl
    omega
  · have e2 : (x + j).toNatClampNeg = (x + j).toInt.toNat := rfl
    omega
theorem sc_0 {L : Nat} {x : Int32} (h : 0 ≤ x.toInt ∧ x.toInt + 8 ≤ (L : Int)) : vp_in x L := by
  obtain ⟨x1, x2⟩ := h
  intro q
  rcases q with q | q
  · have := Int32.lt_iff_toInt_lt.mp q
    have e0 : (0 : Int32).toInt = 0 := rfl
    omega
  · have e2 : x.toNatClampNeg = x.toInt.toNat := rfl
    omega
theorem lw_up {L : Nat} {x : Int32} (h : 0 ≤ x.toInt ∧ x.toInt + 8 ≤ (L : Int)) (hL : L ≤ 4096) : (x + 8).toInt = x.toInt + 8 := by
  rw [Int32.toInt_add, show (8 : Int32).toInt = 8 from rfl, bmod_in (by omega) (by omega)]
abbrev PL : Po := fun r _ _ _ => r = .inl (some (.int 1))
set_option maxHeartbeats 8000000 in
theorem law_loop {b L : Nat} {xs : Nat → Int32} (hL : L ≤ 4096) {o1 o2 o3 pa : Nat} : ∀ (nn : Nat) (x4 : Int32) (S : Hp) (k n : Nat), (4104 - x4.toInt).toNat = nn → Rg 0 4104 x4 → GI S [] → Oa S [] 9 0 o1 → Oa S [] 10 0 o2 → Oa S [] 33 1 o3 → Rel S o2 → (hp_R S 579 o1).bind (fun q => hp_R S 258 q) = some pa → 5 * nl (hp_r S pa) + (4104 - x4.toInt).toNat ≤ k → 82 * nl (hp_r S pa) + 6 * (4104 - x4.toInt).toNat ≤ n → TT (b, L, xs) M_law 23 [(4, .int x4), (3, .ref o3), (2, .ref o2), (1, .ref o1), (0, .ref b)] [] S k n PL := by
  intro nn
  induction nn using Nat.strongRecOn with
  | ind nn ih =>
    intro x4 S k n hm hx4 hG h1 h2 h3 hrel hpa hkb hnb
    subst hm
    have hA : Af [] [65, 193, 194, 195, 196, 197, 198, 199, 200, 201, 202, 203, 204, 321, 322, 388, 389, 390, 391, 392, 393, 515, 516, 517, 640, 642, 653, 654, 655, 656, 657, 658, 659, 661, 662, 663, 664, 667, 668, 669, 670, 671, 672, 673, 674, 675, 676, 9997, 9998, 9999] S S := af_rf
    have er0 : hp_r S = hp_r S := rfl
    refine tt_iload (j := 0) dL_law_23 rfl ?_
    refine tt_aload_n (j := 4) dL_law_25 rfl ?_
    refine tt_slen (xi := (b, L, xs)) dL_law_26 ?_
    refine tt_bipush (v := 8) dL_law_27 rfl ?_
    refine tt_isub dL_law_29 ?_
    refine tt_icmp_gt (tgt := 799) dL_law_30 rfl (fun q => ?_) (fun q => ?_)
    · refine tt_iconst (v := 1) dL_law_799 rfl ?_
      exact tt_ireturn dL_law_800 .boolean rfl rfl rfl
    have hx := lw_in hL hx4 q
    have hm1 : 8 ≤ (4104 - x4.toInt).toNat := by omega
    have hJ : ∀ (T : Hp) (k9 n9 : Nat), GI T [] → Af [] [65, 193, 194, 195, 196, 197, 198, 199, 200, 201, 202, 203, 204, 321, 322, 388, 389, 390, 391, 392, 393, 515, 516, 517, 640, 642, 653, 654, 655, 656, 657, 658, 659, 661, 662, 663, 664, 667, 668, 669, 670, 671, 672, 673, 674, 675, 676, 9997, 9998, 9999] S T → Rel T o2 → 5 * nl (hp_r T pa) + (4104 - x4.toInt).toNat ≤ k9 + 1 → 82 * nl (hp_r T pa) + 6 * (4104 - x4.toInt).toNat ≤ n9 + 6 → TT (b, L, xs) M_law 793 [(4, .int x4), (3, .ref o3), (2, .ref o2), (1, .ref o1), (0, .ref b)] [] T k9 n9 PL := by
      intro T k9 n9 g1 g2 g3 g4 g5
      have e8 := lw_up hx hL
      refine tt_iinc (j := 0) (v := (x4 + 8)) (ks := [0, 1, 2, 3, 4]) (L' := [(4, .int (x4 + 8)), (3, .ref o3), (2, .ref o2), (1, .ref o1), (0, .ref b)]) dL_law_793 rfl rfl (by decide) rfl ?_
      refine tt_goto (tgt := 23) dL_law_796 rfl ?_
      exact ih _ (by rw [e8]; omega) (x4 + 8) T k9 n9 rfl ⟨by rw [e8]; omega, by rw [e8]; omega⟩ g1 (oa_af h1 g2) (oa_af h2 g2) (oa_af h3 g2) g3 (pa_af hG h1 g2 hpa) (by rw [e8]; omega) (by rw [e8]; omega)
    refine tt_aload_n (j := 4) dL_law_33 rfl ?_
    refine tt_iload (j := 0) dL_law_34 rfl ?_
    refine tt_sld (xi := (b, L, xs)) dL_law_36 (sc_0 hx) ?_
    refine tt_bipush (v := 15) dL_law_37 rfl ?_
    refine tt_iand dL_law_39 ?_
    refine gt_ts [116, 192, 205, 366, 391, 431, 459, 472, 497, 549, 633, 644, 724, 752, 765, 793] dL_law_40 (by decide) (by decide) (fa_cons ?_ (fa_cons ?_ (fa_cons ?_ (fa_cons ?_ (fa_cons ?_ (fa_cons ?_ (fa_cons ?_ (fa_cons ?_ (fa_cons ?_ (fa_cons ?_ (fa_cons ?_ (fa_cons ?_ (fa_cons ?_ (fa_cons ?_ (fa_cons ?_ (fa_cons ?_ fa_nil))))))))))))))))
    · skip
      refine tt_aload_n (j := 3) dL_law_116 rfl ?_
      refine tt_aload_n (j := 4) dL_law_117 rfl ?_
      refine tt_iload (j := 0) dL_law_118 rfl ?_
      refine tt_iconst (v := 1) dL_law_120 rfl ?_
      refine tt_iadd dL_law_121 ?_
      refine tt_sld (xi := (b, L, xs)) dL_law_122 (sc_in hx hL) ?_
      refine tt_aload_n (j := 4) dL_law_123 rfl ?_
      refine tt_iload (j := 0) dL_law_124 rfl ?_
      refine tt_iconst (v := 2) dL_law_126 rfl ?_
      refine tt_iadd dL_law_127 ?_
      refine tt_sld (xi := (b, L, xs)) dL_law_128 (sc_in hx hL) ?_
      refine tt_aload_n (j := 4) dL_law_129 rfl ?_
      refine tt_iload (j := 0) dL_law_130 rfl ?_
      refine tt_iconst (v := 3) dL_law_132 rfl ?_
      refine tt_iadd dL_law_133 ?_
      refine tt_sld (xi := (b, L, xs)) dL_law_134 (sc_in hx hL) ?_
      refine tt_aload_n (j := 4) dL_law_135 rfl ?_
      refine tt_iload (j := 0) dL_law_136 rfl ?_
      refine tt_iconst (v := 4) dL_law_138 rfl ?_
      refine tt_iadd dL_law_139 ?_
      refine tt_sld (xi := (b, L, xs)) dL_law_140 (sc_in hx hL) ?_
      refine tt_aload_n (j := 4) dL_law_141 rfl ?_
      refine tt_iload (j := 0) dL_law_142 rfl ?_
      refine tt_iconst (v := 5) dL_law_144 rfl ?_
      refine tt_iadd dL_law_145 ?_
      refine tt_sld (xi := (b, L, xs)) dL_law_146 (sc_in hx hL) ?_
      refine tt_aload_n (j := 1) dL_law_147 rfl ?_
      refine gt_SW (As := [.ref o1, .int (xs (x4 + 1).toNatClampNeg), .int (xs (x4 + 2).toNatClampNeg), .int (xs (x4 + 3).toNatClampNeg), .int (xs (x4 + 4).toNatClampNeg), .int (xs (x4 + 5).toNatClampNeg), .ref o3]) dL_law_148 ca_L_56 ⟨by decide, by decide⟩ hA (Nat.le_of_ble_eq_true rfl) (Nat.le_of_ble_eq_true rfl) (by decide) (by omega) (by omega) (cw_L_feed hG (oa_af h1 hA) (oa_af h3 hA) (fun _ _ _ _ h => h)) (fun S1 z2 hz3 hG4 hB5 hA6 => ?_)
      have rl7 := rel_af hrel (oa_af h2 hA) hB5
      have er8 := (hB5.2.2.2.1 (by decide)).2.trans er0
      refine tt_istore (ks := [0, 1, 2, 3, 4, 5]) (L' := [(5, .int z2), (4, .int x4), (3, .ref o3), (2, .ref o2), (1, .ref o1), (0, .ref b)]) dL_law_151 (by decide) rfl ?_
      refine tt_aload_n (j := 3) dL_law_153 rfl ?_
      refine tt_aload_n (j := 5) dL_law_154 rfl ?_
      refine tt_iload (j := 1) dL_law_155 rfl ?_
      refine tt_iconst (v := 1) dL_law_157 rfl ?_
      refine tt_iadd dL_law_158 ?_
      refine tt_sld (xi := (b, L, xs)) dL_law_159 (sc_in hx hL) ?_
      refine tt_aload_n (j := 5) dL_law_160 rfl ?_
      refine tt_iload (j := 1) dL_law_161 rfl ?_
      refine tt_iconst (v := 2) dL_law_163 rfl ?_
      refine tt_iadd dL_law_164 ?_
      refine tt_sld (xi := (b, L, xs)) dL_law_165 (sc_in hx hL) ?_
      refine tt_aload_n (j := 5) dL_law_166 rfl ?_
      refine tt_iload (j := 1) dL_law_167 rfl ?_
      refine tt_iconst (v := 3) dL_law_169 rfl ?_
      refine tt_iadd dL_law_170 ?_
      refine tt_sld (xi := (b, L, xs)) dL_law_171 (sc_in hx hL) ?_
      refine tt_aload_n (j := 5) dL_law_172 rfl ?_
      refine tt_iload (j := 1) dL_law_173 rfl ?_
      refine tt_iconst (v := 4) dL_law_175 rfl ?_
      refine tt_iadd dL_law_176 ?_
      refine tt_sld (xi := (b, L, xs)) dL_law_177 (sc_in hx hL) ?_
      refine tt_aload_n (j := 5) dL_law_178 rfl ?_
      refine tt_iload (j := 1) dL_law_179 rfl ?_
      refine tt_iconst (v := 5) dL_law_181 rfl ?_
      refine tt_iadd dL_law_182 ?_
      refine tt_sld (xi := (b, L, xs)) dL_law_183 (sc_in hx hL) ?_
      refine gt_VI (As := [.int (xs (x4 + 1).toNatClampNeg), .int (xs (x4 + 2).toNatClampNeg), .int (xs (x4 + 3).toNatClampNeg), .int (xs (x4 + 4).toNatClampNeg), .int (xs (x4 + 5).toNatClampNeg)]) dL_law_184 ca_L_61 ⟨by decide, by decide⟩ h2 hA6 rfl (Nat.le_of_ble_eq_true rfl) (Nat.le_of_ble_eq_true rfl) (by decide) (cs_X10_feed hG4 (oa_af h2 hA6) (fun _ _ _ _ h => h)) rfl (fun _ h => nomatch h) (fun S9 v10 hz11 hx12 hG13 hB14 hA15 => ?_)
      have rl16 := hx12 rl7
      have er17 := (hB14.2.2.2.1 (by decide)).2.trans er8
      refine tt_istore (ks := [0, 1, 2, 3, 4, 5, 6]) (L' := [(6, .int v10), (5, .int z2), (4, .int x4), (3, .ref o3), (2, .ref o2), (1, .ref o1), (0, .ref b)]) dL_law_187 (by decide) rfl ?_
      refine tt_goto (tgt := 793) dL_law_189 rfl ?_
      exact tt_loc (ks := [2, 3, 4, 5, 6]) rfl (hJ S9 (k - 1) (n - 6) hG13 hA15 rl16 (by rw [er17]; omega) (by rw [er17]; omega))
    · skip
      refine tt_aload_n (j := 3) dL_law_192 rfl ?_
      refine gt_VI (As := []) dL_law_193 ca_L_62 ⟨by decide, by decide⟩ h1 hA rfl (Nat.le_of_ble_eq_true rfl) (Nat.le_of_ble_eq_true rfl) (by decide) (cs_X9_erase hG (oa_af h1 hA) (fun _ _ _ _ h => h)) rfl (fun _ h => nomatch h) (fun S18 v19 hz20 hx21 hG22 hB23 hA24 => ?_)
      have rl25 := rel_af hrel (oa_af h2 hA) hB23
      have er26 := (hB23.2.2.2.1 (by decide)).2.trans er0
      refine tt_pop dL_law_196 rfl ?_
      refine tt_aload_n (j := 2) dL_law_197 rfl ?_
      refine gt_VI (As := []) dL_law_198 ca_L_66 ⟨by decide, by decide⟩ h2 hA24 rfl (Nat.le_of_ble_eq_true rfl) (Nat.le_of_ble_eq_true rfl) (by decide) (cs_X10_erase hG22 (oa_af h2 hA24) (fun _ _ _ _ h => h)) rfl (fun _ h => nomatch h) (fun S27 v28 hz29 hx30 hG31 hB32 hA33 => ?_)
      have rl34 := hx30 rl25
      have er35 := (hB32.2.2.2.1 (by decide)).2.trans er26
      refine tt_pop dL_law_201 rfl ?_
      refine tt_goto (tgt := 793) dL_law_202 rfl ?_
      exact tt_loc (ks := [0, 1, 2, 3, 4]) rfl (hJ S27 k n hG31 hA33 rl34 (by rw [er35]; omega) (by rw [er35]; omega))
    · skip
      refine tt_aload_n (j := 3) dL_law_205 rfl ?_
      refine tt_aload_n (j := 4) dL_law_206 rfl ?_
      refine tt_iload (j := 0) dL_law_207 rfl ?_
      refine tt_iconst (v := 1) dL_law_209 rfl ?_
      refine tt_iadd dL_law_210 ?_
      refine tt_sld (xi := (b, L, xs)) dL_law_211 (sc_in hx hL) ?_
      refine tt_aload_n (j := 4) dL_law_212 rfl ?_
      refine tt_iload (j := 0) dL_law_213 rfl ?_
      refine tt_iconst (v := 2) dL_law_215 rfl ?_
      refine tt_iadd dL_law_216 ?_
      refine tt_sld (xi := (b, L, xs)) dL_law_217 (sc_in hx hL) ?_
      refine tt_i2l dL_law_218 ?_
      refine tt_bipush (v := 32) dL_law_219 rfl ?_
      refine tt_lshl dL_law_221 ?_
      refine tt_aload_n (j := 4) dL_law_222 rfl ?_
      refine tt_iload (j := 0) dL_law_223 rfl ?_
      refine tt_iconst (v := 3) dL_law_225 rfl ?_
      refine tt_iadd dL_law_226 ?_
      refine tt_sld (xi := (b, L, xs)) dL_law_227 (sc_in hx hL) ?_
      refine tt_i2l dL_law_228 ?_
      refine tt_ldc2 (v := 4294967295) dL_law_229 kl_L_67 ?_
      refine tt_land dL_law_232 ?_
      refine tt_lor dL_law_233 ?_
      refine tt_aload_n (j := 4) dL_law_234 rfl ?_
      refine tt_iload (j := 0) dL_law_235 rfl ?_
      refine tt_iconst (v := 4) dL_law_237 rfl ?_
      refine tt_iadd dL_law_238 ?_
      refine tt_sld (xi := (b, L, xs)) dL_law_239 (sc_in hx hL) ?_
      refine tt_i2l dL_law_240 ?_
      refine tt_bipush (v := 32) dL_law_241 rfl ?_
      refine tt_lshl dL_law_243 ?_
      refine tt_aload_n (j := 4) dL_law_244 rfl ?_
      refine tt_iload (j := 0) dL_law_245 rfl ?_
      refine tt_iconst (v := 5) dL_law_247 rfl ?_
      refine tt_iadd dL_law_248 ?_
      refine tt_sld (xi := (b, L, xs)) dL_law_249 (sc_in hx hL) ?_
      refine tt_i2l dL_law_250 ?_
      refine tt_ldc2 (v := 4294967295) dL_law_251 kl_L_67 ?_
      refine tt_land dL_law_254 ?_
      refine tt_lor dL_law_255 ?_
      refine tt_aload_n (j := 4) dL_law_256 rfl ?_
      refine tt_iload (j := 0) dL_law_257 rfl ?_
      refine tt_bipush (v := 6) dL_law_259 rfl ?_
      refine tt_iadd dL_law_261 ?_
      refine tt_sld (xi := (b, L, xs)) dL_law_262 (sc_in hx hL) ?_
      refine tt_i2l dL_law_263 ?_
      refine tt_bipush (v := 32) dL_law_264 rfl ?_
      refine tt_lshl dL_law_266 ?_
      refine tt_aload_n (j := 4) dL_law_267 rfl ?_
      refine tt_iload (j := 0) dL_law_268 rfl ?_
      refine tt_bipush (v := 7) dL_law_270 rfl ?_
      refine tt_iadd dL_law_272 ?_
      refine tt_sld (xi := (b, L, xs)) dL_law_273 (sc_in hx hL) ?_
      refine tt_i2l dL_law_274 ?_
      refine tt_ldc2 (v := 4294967295) dL_law_275 kl_L_67 ?_
      refine tt_land dL_law_278 ?_
      refine tt_lor dL_law_279 ?_
      refine gt_SW (As := [.ref o1, .int (xs (x4 + 1).toNatClampNeg), .long ((((xs (x4 + 2).toNatClampNeg) : Int32).toInt64 <<< ((32 : Int32).toInt64 &&& 63)) ||| (((xs (x4 + 3).toNatClampNeg) : Int32).toInt64 &&& 4294967295)), .long ((((xs (x4 + 4).toNatClampNeg) : Int32).toInt64 <<< ((32 : Int32).toInt64 &&& 63)) ||| (((xs (x4 + 5).toNatClampNeg) : Int32).toInt64 &&& 4294967295)), .long ((((xs (x4 + 6).toNatClampNeg) : Int32).toInt64 <<< ((32 : Int32).toInt64 &&& 63)) ||| (((xs (x4 + 7).toNatClampNeg) : Int32).toInt64 &&& 4294967295))]) dL_law_280 ca_L_69 ⟨by decide, by decide⟩ hA (Nat.le_of_ble_eq_true rfl) (Nat.le_of_ble_eq_true rfl) (by decide) (by omega) (by omega) (cw_L_given hG (oa_af h1 hA) (fun _ _ _ _ h => h)) (fun S36 z37 hz38 hG39 hB40 hA41 => ?_)
      have rl42 := rel_af hrel (oa_af h2 hA) hB40
      have er43 := (hB40.2.2.2.1 (by decide)).2.trans er0
      refine tt_istore (ks := [0, 1, 2, 3, 4, 5]) (L' := [(5, .int z37), (4, .int x4), (3, .ref o3), (2, .ref o2), (1, .ref o1), (0, .ref b)]) dL_law_283 (by decide) rfl ?_
      refine tt_aload_n (j := 3) dL_law_285 rfl ?_
      refine tt_aload_n (j := 5) dL_law_286 rfl ?_
      refine tt_iload (j := 1) dL_law_287 rfl ?_
      refine tt_iconst (v := 1) dL_law_289 rfl ?_
      refine tt_iadd dL_law_290 ?_
      refine tt_sld (xi := (b, L, xs)) dL_law_291 (sc_in hx hL) ?_
      refine tt_aload_n (j := 5) dL_law_292 rfl ?_
      refine tt_iload (j := 1) dL_law_293 rfl ?_
      refine tt_iconst (v := 2) dL_law_295 rfl ?_
      refine tt_iadd dL_law_296 ?_
      refine tt_sld (xi := (b, L, xs)) dL_law_297 (sc_in hx hL) ?_
      refine tt_i2l dL_law_298 ?_
      refine tt_bipush (v := 32) dL_law_299 rfl ?_
      refine tt_lshl dL_law_301 ?_
      refine tt_aload_n (j := 5) dL_law_302 rfl ?_
      refine tt_iload (j := 1) dL_law_303 rfl ?_
      refine tt_iconst (v := 3) dL_law_305 rfl ?_
      refine tt_iadd dL_law_306 ?_
      refine tt_sld (xi := (b, L, xs)) dL_law_307 (sc_in hx hL) ?_
      refine tt_i2l dL_law_308 ?_
      refine tt_ldc2 (v := 4294967295) dL_law_309 kl_L_67 ?_
      refine tt_land dL_law_312 ?_
      refine tt_lor dL_law_313 ?_
      refine tt_aload_n (j := 5) dL_law_314 rfl ?_
      refine tt_iload (j := 1) dL_law_315 rfl ?_
      refine tt_iconst (v := 4) dL_law_317 rfl ?_
      refine tt_iadd dL_law_318 ?_
      refine tt_sld (xi := (b, L, xs)) dL_law_319 (sc_in hx hL) ?_
      refine tt_i2l dL_law_320 ?_
      refine tt_bipush (v := 32) dL_law_321 rfl ?_
      refine tt_lshl dL_law_323 ?_
      refine tt_aload_n (j := 5) dL_law_324 rfl ?_
      refine tt_iload (j := 1) dL_law_325 rfl ?_
      refine tt_iconst (v := 5) dL_law_327 rfl ?_
      refine tt_iadd dL_law_328 ?_
      refine tt_sld (xi := (b, L, xs)) dL_law_329 (sc_in hx hL) ?_
      refine tt_i2l dL_law_330 ?_
      refine tt_ldc2 (v := 4294967295) dL_law_331 kl_L_67 ?_
      refine tt_land dL_law_334 ?_
      refine tt_lor dL_law_335 ?_
      refine tt_aload_n (j := 5) dL_law_336 rfl ?_
      refine tt_iload (j := 1) dL_law_337 rfl ?_
      refine tt_bipush (v := 6) dL_law_339 rfl ?_
      refine tt_iadd dL_law_341 ?_
      refine tt_sld (xi := (b, L, xs)) dL_law_342 (sc_in hx hL) ?_
      refine tt_i2l dL_law_343 ?_
      refine tt_bipush (v := 32) dL_law_344 rfl ?_
      refine tt_lshl dL_law_346 ?_
      refine tt_aload_n (j := 5) dL_law_347 rfl ?_
      refine tt_iload (j := 1) dL_law_348 rfl ?_
      refine tt_bipush (v := 7) dL_law_350 rfl ?_
      refine tt_iadd dL_law_352 ?_
      refine tt_sld (xi := (b, L, xs)) dL_law_353 (sc_in hx hL) ?_
      refine tt_i2l dL_law_354 ?_
      refine tt_ldc2 (v := 4294967295) dL_law_355 kl_L_67 ?_
      refine tt_land dL_law_358 ?_
      refine tt_lor dL_law_359 ?_
      refine gt_Vv (As := [.int (xs (x4 + 1).toNatClampNeg), .long ((((xs (x4 + 2).toNatClampNeg) : Int32).toInt64 <<< ((32 : Int32).toInt64 &&& 63)) ||| (((xs (x4 + 3).toNatClampNeg) : Int32).toInt64 &&& 4294967295)), .long ((((xs (x4 + 4).toNatClampNeg) : Int32).toInt64 <<< ((32 : Int32).toInt64 &&& 63)) ||| (((xs (x4 + 5).toNatClampNeg) : Int32).toInt64 &&& 4294967295)), .long ((((xs (x4 + 6).toNatClampNeg) : Int32).toInt64 <<< ((32 : Int32).toInt64 &&& 63)) ||| (((xs (x4 + 7).toNatClampNeg) : Int32).toInt64 &&& 4294967295))]) dL_law_360 ca_L_72 ⟨by decide, by decide⟩ h2 hA41 rfl (Nat.le_of_ble_eq_true rfl) (Nat.le_of_ble_eq_true rfl) (by decide) (cs_X10_given hG39 (oa_af h2 hA41) (fun _ _ _ _ h => h)) rfl (fun _ h => nomatch h) (fun S44 hx47 hG48 hB49 hA50 => ?_)
      have rl51 := rel_af rl42 (oa_af h2 hA41) hB49
      have er52 := (hB49.2.2.2.1 (by decide)).2.trans er43
      refine tt_goto (tgt := 793) dL_law_363 rfl ?_
      exact tt_loc (ks := [1, 2, 3, 4, 5]) rfl (hJ S44 (k - 1) (n - 6) hG48 hA50 rl51 (by rw [er52]; omega) (by rw [er52]; omega))
    · skip
      refine tt_aload_n (j := 3) dL_law_366 rfl ?_
      refine tt_aload_n (j := 4) dL_law_367 rfl ?_
      refine tt_iload (j := 0) dL_law_368 rfl ?_
      refine tt_iconst (v := 1) dL_law_370 rfl ?_
      refine tt_iadd dL_law_371 ?_
      refine tt_sld (xi := (b, L, xs)) dL_law_372 (sc_in hx hL) ?_
      refine gt_SW (As := [.ref o1, .int (xs (x4 + 1).toNatClampNeg)]) dL_law_373 ca_L_73 ⟨by decide, by decide⟩ hA (Nat.le_of_ble_eq_true rfl) (Nat.le_of_ble_eq_true rfl) (by decide) (by omega) (by omega) (cw_L_any hG (oa_af h1 hA) (fun _ _ _ _ h => h)) (fun S53 z54 hz55 hG56 hB57 hA58 => ?_)
      have rl59 := rel_af hrel (oa_af h2 hA) hB57
      have er60 := (hB57.2.2.2.1 (by decide)).2.trans er0
      refine tt_istore (ks := [0, 1, 2, 3, 4, 5]) (L' := [(5, .int z54), (4, .int x4), (3, .ref o3), (2, .ref o2), (1, .ref o1), (0, .ref b)]) dL_law_376 (by decide) rfl ?_
      refine tt_aload_n (j := 3) dL_law_378 rfl ?_
      refine tt_aload_n (j := 5) dL_law_379 rfl ?_
      refine tt_iload (j := 1) dL_law_380 rfl ?_
      refine tt_iconst (v := 1) dL_law_382 rfl ?_
      refine tt_iadd dL_law_383 ?_
      refine tt_sld (xi := (b, L, xs)) dL_law_384 (sc_in hx hL) ?_
      refine gt_Vv (As := [.int (xs (x4 + 1).toNatClampNeg)]) dL_law_385 ca_L_76 ⟨by decide, by decide⟩ h2 hA58 rfl (Nat.le_of_ble_eq_true rfl) (Nat.le_of_ble_eq_true rfl) (by decide) (cs_X10_any hG56 (oa_af h2 hA58) (fun _ _ _ _ h => h)) rfl (fun _ h => nomatch h) (fun S61 hx64 hG65 hB66 hA67 => ?_)
      have rl68 := rel_af rl59 (oa_af h2 hA58) hB66
      have er69 := (hB66.2.2.2.1 (by decide)).2.trans er60
      refine tt_goto (tgt := 793) dL_law_388 rfl ?_
      exact tt_loc (ks := [1, 2, 3, 4, 5]) rfl (hJ S61 (k - 1) (n - 6) hG65 hA67 rl68 (by rw [er69]; omega) (by rw [er69]; omega))
    · skip
      refine tt_aload_n (j := 3) dL_law_391 rfl ?_
      refine tt_aload_n (j := 4) dL_law_392 rfl ?_
      refine tt_iload (j := 0) dL_law_393 rfl ?_
      refine tt_iconst (v := 1) dL_law_395 rfl ?_
      refine tt_iadd dL_law_396 ?_
      refine tt_sld (xi := (b, L, xs)) dL_law_397 (sc_in hx hL) ?_
      refine tt_aload_n (j := 4) dL_law_398 rfl ?_
      refine tt_iload (j := 0) dL_law_399 rfl ?_
      refine tt_iconst (v := 2) dL_law_401 rfl ?_
      refine tt_iadd dL_law_402 ?_
      refine tt_sld (xi := (b, L, xs)) dL_law_403 (sc_in hx hL) ?_
      refine tt_aload_n (j := 1) dL_law_404 rfl ?_
      refine gt_SW (As := [.ref o1, .int (xs (x4 + 1).toNatClampNeg), .int (xs (x4 + 2).toNatClampNeg), .ref o3]) dL_law_405 ca_L_77 ⟨by decide, by decide⟩ hA (Nat.le_of_ble_eq_true rfl) (Nat.le_of_ble_eq_true rfl) (by decide) (by omega) (by omega) (cw_L_decode hG (oa_af h1 hA) (oa_af h3 hA) (fun _ _ _ _ h => h)) (fun S70 z71 hz72 hG73 hB74 hA75 => ?_)
      have rl76 := rel_af hrel (oa_af h2 hA) hB74
      have er77 := (hB74.2.2.2.1 (by decide)).2.trans er0
      refine tt_istore (ks := [0, 1, 2, 3, 4, 5]) (L' := [(5, .int z71), (4, .int x4), (3, .ref o3), (2, .ref o2), (1, .ref o1), (0, .ref b)]) dL_law_408 (by decide) rfl ?_
      refine tt_aload_n (j := 3) dL_law_410 rfl ?_
      refine tt_aload_n (j := 5) dL_law_411 rfl ?_
      refine tt_iload (j := 1) dL_law_412 rfl ?_
      refine tt_iconst (v := 1) dL_law_414 rfl ?_
      refine tt_iadd dL_law_415 ?_
      refine tt_sld (xi := (b, L, xs)) dL_law_416 (sc_in hx hL) ?_
      refine tt_aload_n (j := 5) dL_law_417 rfl ?_
      refine tt_iload (j := 1) dL_law_418 rfl ?_
      refine tt_iconst (v := 2) dL_law_420 rfl ?_
      refine tt_iadd dL_law_421 ?_
      refine tt_sld (xi := (b, L, xs)) dL_law_422 (sc_in hx hL) ?_
      refine gt_VI (As := [.int (xs (x4 + 1).toNatClampNeg), .int (xs (x4 + 2).toNatClampNeg)]) dL_law_423 ca_L_80 ⟨by decide, by decide⟩ h2 hA75 rfl (Nat.le_of_ble_eq_true rfl) (Nat.le_of_ble_eq_true rfl) (by decide) (cs_X10_decode hG73 (oa_af h2 hA75) (fun _ _ _ _ h => h)) rfl (fun _ h => nomatch h) (fun S78 v79 hz80 hx81 hG82 hB83 hA84 => ?_)
      have rl85 := rel_af rl76 (oa_af h2 hA75) hB83
      have er86 := (hB83.2.2.2.1 (by decide)).2.trans er77
      refine tt_istore (ks := [0, 1, 2, 3, 4, 5, 6]) (L' := [(6, .int v79), (5, .int z71), (4, .int x4), (3, .ref o3), (2, .ref o2), (1, .ref o1), (0, .ref b)]) dL_law_426 (by decide) rfl ?_
      refine tt_goto (tgt := 793) dL_law_428 rfl ?_
      exact tt_loc (ks := [2, 3, 4, 5, 6]) rfl (hJ S78 (k - 1) (n - 6) hG82 hA84 rl85 (by rw [er86]; omega) (by rw [er86]; omega))
    · skip
      refine tt_aload_n (j := 3) dL_law_431 rfl ?_
      refine tt_aload_n (j := 4) dL_law_432 rfl ?_
      refine tt_iload (j := 0) dL_law_433 rfl ?_
      refine tt_iconst (v := 1) dL_law_435 rfl ?_
      refine tt_iadd dL_law_436 ?_
      refine tt_sld (xi := (b, L, xs)) dL_law_437 (sc_in hx hL) ?_
      refine tt_aload_n (j := 1) dL_law_438 rfl ?_
      refine gt_SW (As := [.ref o1, .int (xs (x4 + 1).toNatClampNeg), .ref o3]) dL_law_439 ca_L_81 ⟨by decide, by decide⟩ hA (Nat.le_of_ble_eq_true rfl) (Nat.le_of_ble_eq_true rfl) (by decide) (by omega) (by omega) (cw_L_constant hG (oa_af h1 hA) (oa_af h3 hA) (fun _ _ _ _ h => h)) (fun S87 z88 hz89 hG90 hB91 hA92 => ?_)
      have rl93 := rel_af hrel (oa_af h2 hA) hB91
      have er94 := (hB91.2.2.2.1 (by decide)).2.trans er0
      refine tt_istore (ks := [0, 1, 2, 3, 4, 5]) (L' := [(5, .int z88), (4, .int x4), (3, .ref o3), (2, .ref o2), (1, .ref o1), (0, .ref b)]) dL_law_442 (by decide) rfl ?_
      refine tt_aload_n (j := 3) dL_law_444 rfl ?_
      refine tt_aload_n (j := 5) dL_law_445 rfl ?_
      refine tt_iload (j := 1) dL_law_446 rfl ?_
      refine tt_iconst (v := 1) dL_law_448 rfl ?_
      refine tt_iadd dL_law_449 ?_
      refine tt_sld (xi := (b, L, xs)) dL_law_450 (sc_in hx hL) ?_
      refine gt_VJ (As := [.int (xs (x4 + 1).toNatClampNeg)]) dL_law_451 ca_L_84 ⟨by decide, by decide⟩ h2 hA92 rfl (Nat.le_of_ble_eq_true rfl) (Nat.le_of_ble_eq_true rfl) (by decide) (cs_X10_constant hG90 (oa_af h2 hA92) (fun _ _ _ _ h => h)) rfl (fun _ h => nomatch h) (fun S95 v96 hx98 hG99 hB100 hA101 => ?_)
      have rl102 := rel_af rl93 (oa_af h2 hA92) hB100
      have er103 := (hB100.2.2.2.1 (by decide)).2.trans er94
      refine tt_lstore (ks := [0, 1, 2, 3, 4, 5, 6]) (L' := [(6, .long v96), (5, .int z88), (4, .int x4), (3, .ref o3), (2, .ref o2), (1, .ref o1), (0, .ref b)]) dL_law_454 (by decide) rfl ?_
      refine tt_goto (tgt := 793) dL_law_456 rfl ?_
      exact tt_loc (ks := [2, 3, 4, 5, 6]) rfl (hJ S95 (k - 1) (n - 6) hG99 hA101 rl102 (by rw [er103]; omega) (by rw [er103]; omega))
    · skip
      refine tt_aload_n (j := 3) dL_law_459 rfl ?_
      refine gt_AI (pa := pa) (As := []) dL_law_460 ca_L_85 ⟨by decide, by decide⟩ h1 hA rfl (Nat.le_of_ble_eq_true rfl) (Nat.le_of_ble_eq_true rfl) (by decide) (cs_X9_look rfl hG (oa_af h1 hA) (pa_af hG h1 hA hpa) (by rw [er0]; omega) (by rw [er0]; omega) (fun _ _ _ _ h => h)) rfl (fun S104 v105 k111 n112 hz106 hG108 hB109 hA110 bd113 => ?_)
      have rl114 := rel_af hrel (oa_af h2 hA) hB109
      have er115 : hp_r S104 = hp_r S104 := rfl
      refine tt_pop dL_law_463 rfl ?_
      refine tt_aload_n (j := 2) dL_law_464 rfl ?_
      refine gt_VI (As := []) dL_law_465 ca_L_88 ⟨by decide, by decide⟩ h2 hA110 rfl (Nat.le_of_ble_eq_true rfl) (Nat.le_of_ble_eq_true rfl) (by decide) (cs_X10_look hG108 (oa_af h2 hA110) (fun _ _ _ _ h => h)) rfl (fun _ h => nomatch h) (fun S116 v117 hz118 hx119 hG120 hB121 hA122 => ?_)
      have rl123 := rel_af rl114 (oa_af h2 hA110) hB121
      have er124 := (hB121.2.2.2.1 (by decide)).2.trans er115
      refine tt_pop dL_law_468 rfl ?_
      refine tt_goto (tgt := 793) dL_law_469 rfl ?_
      exact tt_loc (ks := [0, 1, 2, 3, 4]) rfl (hJ S116 k111 n112 hG120 hA122 rl123 (by have q1 := bd113.1; have q2 := bd113.2; rw [er124]; omega) (by have q1 := bd113.1; have q2 := bd113.2; rw [er124]; omega))
    · skip
      refine tt_aload_n (j := 3) dL_law_472 rfl ?_
      refine tt_aload_n (j := 4) dL_law_473 rfl ?_
      refine tt_iload (j := 0) dL_law_474 rfl ?_
      refine tt_iconst (v := 1) dL_law_476 rfl ?_
      refine tt_iadd dL_law_477 ?_
      refine tt_sld (xi := (b, L, xs)) dL_law_478 (sc_in hx hL) ?_
      refine gt_VIp (As := [.int (xs (x4 + 1).toNatClampNeg)]) dL_law_479 ca_L_89 ⟨by decide, by decide⟩ h1 hA rfl (Nat.le_of_ble_eq_true rfl) (Nat.le_of_ble_eq_true rfl) (by decide) (cs_X9_reached hG (oa_af h1 hA) (fun _ _ _ _ h => h)) rfl (fun _ h => nomatch h) (fun _ _ q => q) (fun v126 hz127 hx128 => ?_)
      refine tt_pop dL_law_482 rfl ?_
      refine tt_aload_n (j := 2) dL_law_483 rfl ?_
      refine tt_aload_n (j := 4) dL_law_484 rfl ?_
      refine tt_iload (j := 0) dL_law_485 rfl ?_
      refine tt_iconst (v := 1) dL_law_487 rfl ?_
      refine tt_iadd dL_law_488 ?_
      refine tt_sld (xi := (b, L, xs)) dL_law_489 (sc_in hx hL) ?_
      refine gt_VI (As := [.int (xs (x4 + 1).toNatClampNeg)]) dL_law_490 ca_L_92 ⟨by decide, by decide⟩ h2 hA rfl (Nat.le_of_ble_eq_true rfl) (Nat.le_of_ble_eq_true rfl) (by decide) (cs_X10_reached hG (oa_af h2 hA) (fun _ _ _ _ h => h)) rfl (fun _ h => nomatch h) (fun S132 v133 hz134 hx135 hG136 hB137 hA138 => ?_)
      have rl139 := rel_af hrel (oa_af h2 hA) hB137
      have er140 := (hB137.2.2.2.1 (by decide)).2.trans er0
      refine tt_pop dL_law_493 rfl ?_
      refine tt_goto (tgt := 793) dL_law_494 rfl ?_
      exact tt_loc (ks := [0, 1, 2, 3, 4]) rfl (hJ S132 k n hG136 hA138 rl139 (by rw [er140]; omega) (by rw [er140]; omega))
    · skip
      refine tt_aload_n (j := 3) dL_law_497 rfl ?_
      refine tt_aload_n (j := 4) dL_law_498 rfl ?_
      refine tt_iload (j := 0) dL_law_499 rfl ?_
      refine tt_iconst (v := 1) dL_law_501 rfl ?_
      refine tt_iadd dL_law_502 ?_
      refine tt_sld (xi := (b, L, xs)) dL_law_503 (sc_in hx hL) ?_
      refine tt_aload_n (j := 4) dL_law_504 rfl ?_
      refine tt_iload (j := 0) dL_law_505 rfl ?_
      refine tt_iconst (v := 2) dL_law_507 rfl ?_
      refine tt_iadd dL_law_508 ?_
      refine tt_sld (xi := (b, L, xs)) dL_law_509 (sc_in hx hL) ?_
      refine tt_aload_n (j := 4) dL_law_510 rfl ?_
      refine tt_iload (j := 0) dL_law_511 rfl ?_
      refine tt_iconst (v := 3) dL_law_513 rfl ?_
      refine tt_iadd dL_law_514 ?_
      refine tt_sld (xi := (b, L, xs)) dL_law_515 (sc_in hx hL) ?_
      refine tt_aload_n (j := 1) dL_law_516 rfl ?_
      refine gt_SW (As := [.ref o1, .int (xs (x4 + 1).toNatClampNeg), .int (xs (x4 + 2).toNatClampNeg), .int (xs (x4 + 3).toNatClampNeg), .ref o3]) dL_law_517 ca_L_93 ⟨by decide, by decide⟩ hA (Nat.le_of_ble_eq_true rfl) (Nat.le_of_ble_eq_true rfl) (by decide) (by omega) (by omega) (cw_L_set hG (oa_af h1 hA) (oa_af h3 hA) (fun _ _ _ _ h => h)) (fun S141 z142 hz143 hG144 hB145 hA146 => ?_)
      have rl147 := rel_af hrel (oa_af h2 hA) hB145
      have er148 := (hB145.2.2.2.1 (by decide)).2.trans er0
      refine tt_istore (ks := [0, 1, 2, 3, 4, 5]) (L' := [(5, .int z142), (4, .int x4), (3, .ref o3), (2, .ref o2), (1, .ref o1), (0, .ref b)]) dL_law_520 (by decide) rfl ?_
      refine tt_aload_n (j := 3) dL_law_522 rfl ?_
      refine tt_aload_n (j := 5) dL_law_523 rfl ?_
      refine tt_iload (j := 1) dL_law_524 rfl ?_
      refine tt_iconst (v := 1) dL_law_526 rfl ?_
      refine tt_iadd dL_law_527 ?_
      refine tt_sld (xi := (b, L, xs)) dL_law_528 (sc_in hx hL) ?_
      refine tt_aload_n (j := 5) dL_law_529 rfl ?_
      refine tt_iload (j := 1) dL_law_530 rfl ?_
      refine tt_iconst (v := 2) dL_law_532 rfl ?_
      refine tt_iadd dL_law_533 ?_
      refine tt_sld (xi := (b, L, xs)) dL_law_534 (sc_in hx hL) ?_
      refine tt_aload_n (j := 5) dL_law_535 rfl ?_
      refine tt_iload (j := 1) dL_law_536 rfl ?_
      refine tt_iconst (v := 3) dL_law_538 rfl ?_
      refine tt_iadd dL_law_539 ?_
      refine tt_sld (xi := (b, L, xs)) dL_law_540 (sc_in hx hL) ?_
      refine gt_VJ (As := [.int (xs (x4 + 1).toNatClampNeg), .int (xs (x4 + 2).toNatClampNeg), .int (xs (x4 + 3).toNatClampNeg)]) dL_law_541 ca_L_96 ⟨by decide, by decide⟩ h2 hA146 rfl (Nat.le_of_ble_eq_true rfl) (Nat.le_of_ble_eq_true rfl) (by decide) (cs_X10_set hG144 (oa_af h2 hA146) (fun _ _ _ _ h => h)) rfl (fun _ h => nomatch h) (fun S149 v150 hx152 hG153 hB154 hA155 => ?_)
      have rl156 := rel_af rl147 (oa_af h2 hA146) hB154
      have er157 := (hB154.2.2.2.1 (by decide)).2.trans er148
      refine tt_lstore (ks := [0, 1, 2, 3, 4, 5, 6]) (L' := [(6, .long v150), (5, .int z142), (4, .int x4), (3, .ref o3), (2, .ref o2), (1, .ref o1), (0, .ref b)]) dL_law_544 (by decide) rfl ?_
      refine tt_goto (tgt := 793) dL_law_546 rfl ?_
      exact tt_loc (ks := [2, 3, 4, 5, 6]) rfl (hJ S149 (k - 1) (n - 6) hG153 hA155 rl156 (by rw [er157]; omega) (by rw [er157]; omega))
    · skip
      refine tt_aload_n (j := 3) dL_law_549 rfl ?_
      refine tt_aload_n (j := 4) dL_law_550 rfl ?_
      refine tt_iload (j := 0) dL_law_551 rfl ?_
      refine tt_iconst (v := 1) dL_law_553 rfl ?_
      refine tt_iadd dL_law_554 ?_
      refine tt_sld (xi := (b, L, xs)) dL_law_555 (sc_in hx hL) ?_
      refine tt_aload_n (j := 4) dL_law_556 rfl ?_
      refine tt_iload (j := 0) dL_law_557 rfl ?_
      refine tt_iconst (v := 2) dL_law_559 rfl ?_
      refine tt_iadd dL_law_560 ?_
      refine tt_sld (xi := (b, L, xs)) dL_law_561 (sc_in hx hL) ?_
      refine tt_aload_n (j := 4) dL_law_562 rfl ?_
      refine tt_iload (j := 0) dL_law_563 rfl ?_
      refine tt_iconst (v := 3) dL_law_565 rfl ?_
      refine tt_iadd dL_law_566 ?_
      refine tt_sld (xi := (b, L, xs)) dL_law_567 (sc_in hx hL) ?_
      refine tt_i2l dL_law_568 ?_
      refine tt_bipush (v := 32) dL_law_569 rfl ?_
      refine tt_lshl dL_law_571 ?_
      refine tt_aload_n (j := 4) dL_law_572 rfl ?_
      refine tt_iload (j := 0) dL_law_573 rfl ?_
      refine tt_iconst (v := 4) dL_law_575 rfl ?_
      refine tt_iadd dL_law_576 ?_
      refine tt_sld (xi := (b, L, xs)) dL_law_577 (sc_in hx hL) ?_
      refine tt_i2l dL_law_578 ?_
      refine tt_ldc2 (v := 4294967295) dL_law_579 kl_L_67 ?_
      refine tt_land dL_law_582 ?_
      refine tt_lor dL_law_583 ?_
      refine tt_aload_n (j := 1) dL_law_584 rfl ?_
      refine gt_SW (As := [.ref o1, .int (xs (x4 + 1).toNatClampNeg), .int (xs (x4 + 2).toNatClampNeg), .long ((((xs (x4 + 3).toNatClampNeg) : Int32).toInt64 <<< ((32 : Int32).toInt64 &&& 63)) ||| (((xs (x4 + 4).toNatClampNeg) : Int32).toInt64 &&& 4294967295)), .ref o3]) dL_law_585 ca_L_97 ⟨by decide, by decide⟩ hA (Nat.le_of_ble_eq_true rfl) (Nat.le_of_ble_eq_true rfl) (by decide) (by omega) (by omega) (cw_L_has hG (oa_af h1 hA) (oa_af h3 hA) (fun _ _ _ _ h => h)) (fun S158 z159 hz160 hG161 hB162 hA163 => ?_)
      have rl164 := rel_af hrel (oa_af h2 hA) hB162
      have er165 := (hB162.2.2.2.1 (by decide)).2.trans er0
      refine tt_istore (ks := [0, 1, 2, 3, 4, 5]) (L' := [(5, .int z159), (4, .int x4), (3, .ref o3), (2, .ref o2), (1, .ref o1), (0, .ref b)]) dL_law_588 (by decide) rfl ?_
      refine tt_aload_n (j := 3) dL_law_590 rfl ?_
      refine tt_aload_n (j := 5) dL_law_591 rfl ?_
      refine tt_iload (j := 1) dL_law_592 rfl ?_
      refine tt_iconst (v := 1) dL_law_594 rfl ?_
      refine tt_iadd dL_law_595 ?_
      refine tt_sld (xi := (b, L, xs)) dL_law_596 (sc_in hx hL) ?_
      refine tt_aload_n (j := 5) dL_law_597 rfl ?_
      refine tt_iload (j := 1) dL_law_598 rfl ?_
      refine tt_iconst (v := 2) dL_law_600 rfl ?_
      refine tt_iadd dL_law_601 ?_
      refine tt_sld (xi := (b, L, xs)) dL_law_602 (sc_in hx hL) ?_
      refine tt_aload_n (j := 5) dL_law_603 rfl ?_
      refine tt_iload (j := 1) dL_law_604 rfl ?_
      refine tt_iconst (v := 3) dL_law_606 rfl ?_
      refine tt_iadd dL_law_607 ?_
      refine tt_sld (xi := (b, L, xs)) dL_law_608 (sc_in hx hL) ?_
      refine tt_i2l dL_law_609 ?_
      refine tt_bipush (v := 32) dL_law_610 rfl ?_
      refine tt_lshl dL_law_612 ?_
      refine tt_aload_n (j := 5) dL_law_613 rfl ?_
      refine tt_iload (j := 1) dL_law_614 rfl ?_
      refine tt_iconst (v := 4) dL_law_616 rfl ?_
      refine tt_iadd dL_law_617 ?_
      refine tt_sld (xi := (b, L, xs)) dL_law_618 (sc_in hx hL) ?_
      refine tt_i2l dL_law_619 ?_
      refine tt_ldc2 (v := 4294967295) dL_law_620 kl_L_67 ?_
      refine tt_land dL_law_623 ?_
      refine tt_lor dL_law_624 ?_
      refine gt_VI (As := [.int (xs (x4 + 1).toNatClampNeg), .int (xs (x4 + 2).toNatClampNeg), .long ((((xs (x4 + 3).toNatClampNeg) : Int32).toInt64 <<< ((32 : Int32).toInt64 &&& 63)) ||| (((xs (x4 + 4).toNatClampNeg) : Int32).toInt64 &&& 4294967295))]) dL_law_625 ca_L_100 ⟨by decide, by decide⟩ h2 hA163 rfl (Nat.le_of_ble_eq_true rfl) (Nat.le_of_ble_eq_true rfl) (by decide) (cs_X10_has hG161 (oa_af h2 hA163) (fun _ _ _ _ h => h)) rfl (fun _ h => nomatch h) (fun S166 v167 hz168 hx169 hG170 hB171 hA172 => ?_)
      have rl173 := rel_af rl164 (oa_af h2 hA163) hB171
      have er174 := (hB171.2.2.2.1 (by decide)).2.trans er165
      refine tt_istore (ks := [0, 1, 2, 3, 4, 5, 6]) (L' := [(6, .int v167), (5, .int z159), (4, .int x4), (3, .ref o3), (2, .ref o2), (1, .ref o1), (0, .ref b)]) dL_law_628 (by decide) rfl ?_
      refine tt_goto (tgt := 793) dL_law_630 rfl ?_
      exact tt_loc (ks := [2, 3, 4, 5, 6]) rfl (hJ S166 (k - 1) (n - 6) hG170 hA172 rl173 (by rw [er174]; omega) (by rw [er174]; omega))
    · skip
      refine tt_aload_n (j := 3) dL_law_633 rfl ?_
      refine gt_Vv (As := []) dL_law_634 ca_L_101 ⟨by decide, by decide⟩ h1 hA rfl (Nat.le_of_ble_eq_true rfl) (Nat.le_of_ble_eq_true rfl) (by decide) (cs_X9_start hG (oa_af h1 hA) (fun _ _ _ _ h => h)) rfl (fun _ h => nomatch h) (fun S175 hx178 hG179 hB180 hA181 => ?_)
      have rl182 := rel_af hrel (oa_af h2 hA) hB180
      have er183 := (hB180.2.2.2.1 (by decide)).2.trans er0
      refine tt_aload_n (j := 2) dL_law_637 rfl ?_
      refine gt_Vv (As := []) dL_law_638 ca_L_104 ⟨by decide, by decide⟩ h2 hA181 rfl (Nat.le_of_ble_eq_true rfl) (Nat.le_of_ble_eq_true rfl) (by decide) (cs_X10_start hG179 (oa_af h2 hA181) (fun _ _ _ _ h => h)) rfl (fun _ h => nomatch h) (fun S184 hx187 hG188 hB189 hA190 => ?_)
      have rl191 := hx187 rl182
      have er192 := (hB189.2.2.2.1 (by decide)).2.trans er183
      refine tt_goto (tgt := 793) dL_law_641 rfl ?_
      exact tt_loc (ks := [0, 1, 2, 3, 4]) rfl (hJ S184 k n hG188 hA190 rl191 (by rw [er192]; omega) (by rw [er192]; omega))
    · skip
      refine tt_aload_n (j := 3) dL_law_644 rfl ?_
      refine tt_aload_n (j := 4) dL_law_645 rfl ?_
      refine tt_iload (j := 0) dL_law_646 rfl ?_
      refine tt_iconst (v := 1) dL_law_648 rfl ?_
      refine tt_iadd dL_law_649 ?_
      refine tt_sld (xi := (b, L, xs)) dL_law_650 (sc_in hx hL) ?_
      refine tt_aload_n (j := 4) dL_law_651 rfl ?_
      refine tt_iload (j := 0) dL_law_652 rfl ?_
      refine tt_iconst (v := 2) dL_law_654 rfl ?_
      refine tt_iadd dL_law_655 ?_
      refine tt_sld (xi := (b, L, xs)) dL_law_656 (sc_in hx hL) ?_
      refine tt_i2l dL_law_657 ?_
      refine tt_bipush (v := 32) dL_law_658 rfl ?_
      refine tt_lshl dL_law_660 ?_
      refine tt_aload_n (j := 4) dL_law_661 rfl ?_
      refine tt_iload (j := 0) dL_law_662 rfl ?_
      refine tt_iconst (v := 3) dL_law_664 rfl ?_
      refine tt_iadd dL_law_665 ?_
      refine tt_sld (xi := (b, L, xs)) dL_law_666 (sc_in hx hL) ?_
      refine tt_i2l dL_law_667 ?_
      refine tt_ldc2 (v := 4294967295) dL_law_668 kl_L_67 ?_
      refine tt_land dL_law_671 ?_
      refine tt_lor dL_law_672 ?_
      by_cases hr9 : Rg 0 23 (xs (x4 + 1).toNatClampNeg)
      · skip
        refine gt_SW (As := [.ref o1, .int (xs (x4 + 1).toNatClampNeg), .long ((((xs (x4 + 2).toNatClampNeg) : Int32).toInt64 <<< ((32 : Int32).toInt64 &&& 63)) ||| (((xs (x4 + 3).toNatClampNeg) : Int32).toInt64 &&& 4294967295))]) dL_law_673 ca_L_105 ⟨by decide, by decide⟩ hA (Nat.le_of_ble_eq_true rfl) (Nat.le_of_ble_eq_true rfl) (by decide) (by omega) (by omega) (cwo_L_put hG (oa_af h1 hA) hr9 (fun _ _ _ _ h => h)) (fun S193 z194 hz195 hG196 hB197 hA198 => ?_)
        have rl199 := rel_af hrel (oa_af h2 hA) hB197
        have er200 := (hB197.2.2.2.1 (by decide)).2.trans er0
        obtain rfl : z194 = 0 := hz195
        refine tt_istore (ks := [0, 1, 2, 3, 4, 5]) (L' := [(5, .int 0), (4, .int x4), (3, .ref o3), (2, .ref o2), (1, .ref o1), (0, .ref b)]) dL_law_676 (by decide) rfl ?_
        refine tt_aload_n (j := 3) dL_law_678 rfl ?_
        refine tt_aload_n (j := 5) dL_law_679 rfl ?_
        refine tt_iload (j := 1) dL_law_680 rfl ?_
        refine tt_iconst (v := 1) dL_law_682 rfl ?_
        refine tt_iadd dL_law_683 ?_
        refine tt_sld (xi := (b, L, xs)) dL_law_684 (sc_in hx hL) ?_
        refine tt_aload_n (j := 5) dL_law_685 rfl ?_
        refine tt_iload (j := 1) dL_law_686 rfl ?_
        refine tt_iconst (v := 2) dL_law_688 rfl ?_
        refine tt_iadd dL_law_689 ?_
        refine tt_sld (xi := (b, L, xs)) dL_law_690 (sc_in hx hL) ?_
        refine tt_i2l dL_law_691 ?_
        refine tt_bipush (v := 32) dL_law_692 rfl ?_
        refine tt_lshl dL_law_694 ?_
        refine tt_aload_n (j := 5) dL_law_695 rfl ?_
        refine tt_iload (j := 1) dL_law_696 rfl ?_
        refine tt_iconst (v := 3) dL_law_698 rfl ?_
        refine tt_iadd dL_law_699 ?_
        refine tt_sld (xi := (b, L, xs)) dL_law_700 (sc_in hx hL) ?_
        refine tt_i2l dL_law_701 ?_
        refine tt_ldc2 (v := 4294967295) dL_law_702 kl_L_67 ?_
        refine tt_land dL_law_705 ?_
        refine tt_lor dL_law_706 ?_
        refine gt_Vv (As := [.int (xs (x4 + 1).toNatClampNeg), .long ((((xs (x4 + 2).toNatClampNeg) : Int32).toInt64 <<< ((32 : Int32).toInt64 &&& 63)) ||| (((xs (x4 + 3).toNatClampNeg) : Int32).toInt64 &&& 4294967295))]) dL_law_707 ca_L_108 ⟨by decide, by decide⟩ h2 hA198 rfl (Nat.le_of_ble_eq_true rfl) (Nat.le_of_ble_eq_true rfl) (by decide) (co_X10_put hG196 (oa_af h2 hA198) hr9 (fun _ _ _ _ h => h)) rfl (fun _ h => nomatch h) (fun S201 hx204 hG205 hB206 hA207 => ?_)
        have rl208 := rel_af rl199 (oa_af h2 hA198) hB206
        have er209 := (hB206.2.2.2.1 (by decide)).2.trans er200
        refine tt_aload_n (j := 3) dL_law_710 rfl ?_
        refine gt_VIp (As := []) dL_law_711 ca_L_109 ⟨by decide, by decide⟩ h2 hA207 rfl (Nat.le_of_ble_eq_true rfl) (Nat.le_of_ble_eq_true rfl) (by decide) (cs_X10_thrown hG205 (oa_af h2 hA207) (fun _ _ _ _ h => h)) rfl (fun _ h => nomatch h) (fun _ _ q => q.1) (fun v211 hz212 hx213 => ?_)
        obtain rfl : v211 = 0 := (hx213.2 _ rfl).trans hx204
        refine tt_iload (j := 0) dL_law_714 rfl ?_
        refine tt_icmp_eq (tgt := 721) dL_law_716 rfl (fun _ => ?_) (fun q => absurd rfl q)
        refine tt_goto (tgt := 793) dL_law_721 rfl ?_
        exact tt_loc (ks := [1, 2, 3, 4, 5]) rfl (hJ S201 (k - 1) (n - 6) hG205 hA207 rl208 (by rw [er209]; omega) (by rw [er209]; omega))
      · skip
        refine gt_SW (As := [.ref o1, .int (xs (x4 + 1).toNatClampNeg), .long ((((xs (x4 + 2).toNatClampNeg) : Int32).toInt64 <<< ((32 : Int32).toInt64 &&& 63)) ||| (((xs (x4 + 3).toNatClampNeg) : Int32).toInt64 &&& 4294967295))]) dL_law_673 ca_L_105 ⟨by decide, by decide⟩ hA (Nat.le_of_ble_eq_true rfl) (Nat.le_of_ble_eq_true rfl) (by decide) (by omega) (by omega) (cwn_L_put hG (oa_af h1 hA) hr9 (fun _ _ _ _ h => h)) (fun S217 z218 hz219 hG220 hB221 hA222 => ?_)
        have rl223 := rel_af hrel (oa_af h2 hA) hB221
        have er224 := (hB221.2.2.2.1 (by decide)).2.trans er0
        obtain rfl : z218 = 1 := hz219
        refine tt_istore (ks := [0, 1, 2, 3, 4, 5]) (L' := [(5, .int 1), (4, .int x4), (3, .ref o3), (2, .ref o2), (1, .ref o1), (0, .ref b)]) dL_law_676 (by decide) rfl ?_
        refine tt_aload_n (j := 3) dL_law_678 rfl ?_
        refine tt_aload_n (j := 5) dL_law_679 rfl ?_
        refine tt_iload (j := 1) dL_law_680 rfl ?_
        refine tt_iconst (v := 1) dL_law_682 rfl ?_
        refine tt_iadd dL_law_683 ?_
        refine tt_sld (xi := (b, L, xs)) dL_law_684 (sc_in hx hL) ?_
        refine tt_aload_n (j := 5) dL_law_685 rfl ?_
        refine tt_iload (j := 1) dL_law_686 rfl ?_
        refine tt_iconst (v := 2) dL_law_688 rfl ?_
        refine tt_iadd dL_law_689 ?_
        refine tt_sld (xi := (b, L, xs)) dL_law_690 (sc_in hx hL) ?_
        refine tt_i2l dL_law_691 ?_
        refine tt_bipush (v := 32) dL_law_692 rfl ?_
        refine tt_lshl dL_law_694 ?_
        refine tt_aload_n (j := 5) dL_law_695 rfl ?_
        refine tt_iload (j := 1) dL_law_696 rfl ?_
        refine tt_iconst (v := 3) dL_law_698 rfl ?_
        refine tt_iadd dL_law_699 ?_
        refine tt_sld (xi := (b, L, xs)) dL_law_700 (sc_in hx hL) ?_
        refine tt_i2l dL_law_701 ?_
        refine tt_ldc2 (v := 4294967295) dL_law_702 kl_L_67 ?_
        refine tt_land dL_law_705 ?_
        refine tt_lor dL_law_706 ?_
        refine gt_Vv (As := [.int (xs (x4 + 1).toNatClampNeg), .long ((((xs (x4 + 2).toNatClampNeg) : Int32).toInt64 <<< ((32 : Int32).toInt64 &&& 63)) ||| (((xs (x4 + 3).toNatClampNeg) : Int32).toInt64 &&& 4294967295))]) dL_law_707 ca_L_108 ⟨by decide, by decide⟩ h2 hA222 rfl (Nat.le_of_ble_eq_true rfl) (Nat.le_of_ble_eq_true rfl) (by decide) (cn_X10_put hG220 (oa_af h2 hA222) hr9 (fun _ _ _ _ h => h)) rfl (fun _ h => nomatch h) (fun S225 hx228 hG229 hB230 hA231 => ?_)
        have rl232 := rel_af rl223 (oa_af h2 hA222) hB230
        have er233 := (hB230.2.2.2.1 (by decide)).2.trans er224
        refine tt_aload_n (j := 3) dL_law_710 rfl ?_
        refine gt_VIp (As := []) dL_law_711 ca_L_109 ⟨by decide, by decide⟩ h2 hA231 rfl (Nat.le_of_ble_eq_true rfl) (Nat.le_of_ble_eq_true rfl) (by decide) (cs_X10_thrown hG229 (oa_af h2 hA231) (fun _ _ _ _ h => h)) rfl (fun _ h => nomatch h) (fun _ _ q => q.1) (fun v235 hz236 hx237 => ?_)
        obtain rfl : v235 = 1 := (hx237.2 _ rfl).trans hx228
        refine tt_iload (j := 0) dL_law_714 rfl ?_
        refine tt_icmp_eq (tgt := 721) dL_law_716 rfl (fun _ => ?_) (fun q => absurd rfl q)
        refine tt_goto (tgt := 793) dL_law_721 rfl ?_
        exact tt_loc (ks := [1, 2, 3, 4, 5]) rfl (hJ S225 (k - 1) (n - 6) hG229 hA231 rl232 (by rw [er233]; omega) (by rw [er233]; omega))
    · skip
      refine tt_aload_n (j := 3) dL_law_724 rfl ?_
      refine tt_aload_n (j := 4) dL_law_725 rfl ?_
      refine tt_iload (j := 0) dL_law_726 rfl ?_
      refine tt_iconst (v := 1) dL_law_728 rfl ?_
      refine tt_iadd dL_law_729 ?_
      refine tt_sld (xi := (b, L, xs)) dL_law_730 (sc_in hx hL) ?_
      refine tt_aload_n (j := 1) dL_law_731 rfl ?_
      refine gt_SW (As := [.ref o1, .int (xs (x4 + 1).toNatClampNeg), .ref o3]) dL_law_732 ca_L_112 ⟨by decide, by decide⟩ hA (Nat.le_of_ble_eq_true rfl) (Nat.le_of_ble_eq_true rfl) (by decide) (by omega) (by omega) (cw_L_go hG (oa_af h1 hA) (oa_af h3 hA) (fun _ _ _ _ h => h)) (fun S241 z242 hz243 hG244 hB245 hA246 => ?_)
      have rl247 := rel_af hrel (oa_af h2 hA) hB245
      have er248 := (hB245.2.2.2.1 (by decide)).2.trans er0
      refine tt_istore (ks := [0, 1, 2, 3, 4, 5]) (L' := [(5, .int z242), (4, .int x4), (3, .ref o3), (2, .ref o2), (1, .ref o1), (0, .ref b)]) dL_law_735 (by decide) rfl ?_
      refine tt_aload_n (j := 3) dL_law_737 rfl ?_
      refine tt_aload_n (j := 5) dL_law_738 rfl ?_
      refine tt_iload (j := 1) dL_law_739 rfl ?_
      refine tt_iconst (v := 1) dL_law_741 rfl ?_
      refine tt_iadd dL_law_742 ?_
      refine tt_sld (xi := (b, L, xs)) dL_law_743 (sc_in hx hL) ?_
      refine gt_VI (As := [.int (xs (x4 + 1).toNatClampNeg)]) dL_law_744 ca_L_114 ⟨by decide, by decide⟩ h2 hA246 rfl (Nat.le_of_ble_eq_true rfl) (Nat.le_of_ble_eq_true rfl) (by decide) (cs_X10_go hG244 (oa_af h2 hA246) rl247 (fun _ _ _ _ h => h)) rfl (fun _ h => nomatch h) (fun S249 v250 hz251 hx252 hG253 hB254 hA255 => ?_)
      have rl256 := rel_go rl247 (oa_af h2 hA246) hB254
      have er257 := (hB254.2.2.2.1 (by decide)).2.trans er248
      refine tt_istore (ks := [0, 1, 2, 3, 4, 5, 6]) (L' := [(6, .int v250), (5, .int z242), (4, .int x4), (3, .ref o3), (2, .ref o2), (1, .ref o1), (0, .ref b)]) dL_law_747 (by decide) rfl ?_
      refine tt_goto (tgt := 793) dL_law_749 rfl ?_
      exact tt_loc (ks := [2, 3, 4, 5, 6]) rfl (hJ S249 (k - 1) (n - 6) hG253 hA255 rl256 (by rw [er257]; omega) (by rw [er257]; omega))
    · skip
      refine tt_aload_n (j := 3) dL_law_752 rfl ?_
      refine gt_VIp (As := []) dL_law_753 ca_L_115 ⟨by decide, by decide⟩ h1 hA rfl (Nat.le_of_ble_eq_true rfl) (Nat.le_of_ble_eq_true rfl) (by decide) (cs_X9_at hG (oa_af h1 hA) (fun _ _ _ _ h => h)) rfl (fun _ h => nomatch h) (fun _ _ q => q) (fun v259 hz260 hx261 => ?_)
      refine tt_pop dL_law_756 rfl ?_
      refine tt_aload_n (j := 2) dL_law_757 rfl ?_
      refine gt_VI (As := []) dL_law_758 ca_L_118 ⟨by decide, by decide⟩ h2 hA rfl (Nat.le_of_ble_eq_true rfl) (Nat.le_of_ble_eq_true rfl) (by decide) (cs_X10_at hG (oa_af h2 hA) (fun _ _ _ _ h => h)) rfl (fun _ h => nomatch h) (fun S265 v266 hz267 hx268 hG269 hB270 hA271 => ?_)
      have rl272 := rel_af hrel (oa_af h2 hA) hB270
      have er273 := (hB270.2.2.2.1 (by decide)).2.trans er0
      refine tt_pop dL_law_761 rfl ?_
      refine tt_goto (tgt := 793) dL_law_762 rfl ?_
      exact tt_loc (ks := [0, 1, 2, 3, 4]) rfl (hJ S265 k n hG269 hA271 rl272 (by rw [er273]; omega) (by rw [er273]; omega))
    · skip
      refine tt_aload_n (j := 3) dL_law_765 rfl ?_
      refine tt_aload_n (j := 4) dL_law_766 rfl ?_
      refine tt_iload (j := 0) dL_law_767 rfl ?_
      refine tt_iconst (v := 1) dL_law_769 rfl ?_
      refine tt_iadd dL_law_770 ?_
      refine tt_sld (xi := (b, L, xs)) dL_law_771 (sc_in hx hL) ?_
      refine tt_aload_n (j := 1) dL_law_772 rfl ?_
      refine gt_SW (As := [.ref o1, .int (xs (x4 + 1).toNatClampNeg), .ref o3]) dL_law_773 ca_L_119 ⟨by decide, by decide⟩ hA (Nat.le_of_ble_eq_true rfl) (Nat.le_of_ble_eq_true rfl) (by decide) (by omega) (by omega) (cw_L_value hG (oa_af h1 hA) (oa_af h3 hA) (fun _ _ _ _ h => h)) (fun S274 z275 hz276 hG277 hB278 hA279 => ?_)
      have rl280 := rel_af hrel (oa_af h2 hA) hB278
      have er281 := (hB278.2.2.2.1 (by decide)).2.trans er0
      refine tt_istore (ks := [0, 1, 2, 3, 4, 5]) (L' := [(5, .int z275), (4, .int x4), (3, .ref o3), (2, .ref o2), (1, .ref o1), (0, .ref b)]) dL_law_776 (by decide) rfl ?_
      refine tt_aload_n (j := 3) dL_law_778 rfl ?_
      refine tt_aload_n (j := 5) dL_law_779 rfl ?_
      refine tt_iload (j := 1) dL_law_780 rfl ?_
      refine tt_iconst (v := 1) dL_law_782 rfl ?_
      refine tt_iadd dL_law_783 ?_
      refine tt_sld (xi := (b, L, xs)) dL_law_784 (sc_in hx hL) ?_
      refine gt_VJ (As := [.int (xs (x4 + 1).toNatClampNeg)]) dL_law_785 ca_L_121 ⟨by decide, by decide⟩ h2 hA279 rfl (Nat.le_of_ble_eq_true rfl) (Nat.le_of_ble_eq_true rfl) (by decide) (cs_X10_value hG277 (oa_af h2 hA279) (fun _ _ _ _ h => h)) rfl (fun _ h => nomatch h) (fun S282 v283 hx285 hG286 hB287 hA288 => ?_)
      have rl289 := rel_af rl280 (oa_af h2 hA279) hB287
      have er290 := (hB287.2.2.2.1 (by decide)).2.trans er281
      refine tt_lstore (ks := [0, 1, 2, 3, 4, 5, 6]) (L' := [(6, .long v283), (5, .int z275), (4, .int x4), (3, .ref o3), (2, .ref o2), (1, .ref o1), (0, .ref b)]) dL_law_788 (by decide) rfl ?_
      refine tt_goto (tgt := 793) dL_law_790 rfl ?_
      exact tt_loc (ks := [2, 3, 4, 5, 6]) rfl (hJ S282 (k - 1) (n - 6) hG286 hA288 rl289 (by rw [er290]; omega) (by rw [er290]; omega))
    · skip
      exact tt_loc (ks := [0, 1, 2, 3, 4]) rfl (hJ S k n hG hA hrel (by rw [er0]; omega) (by rw [er0]; omega))
set_option maxHeartbeats 4000000 in
theorem law_true {b L : Nat} {xs : Nat → Int32} (hL : L ≤ 4096) : TT (b, L, xs) M_law 0 [(0, .ref b)] [] S_0 601024 7293034 PL := by
  have hG0 : GI S_0 [] := fun a ha => nomatch ha
  refine tt_newo (k1 := 601023) (n1 := 7293029) dL_law_0 nl_L_8 (by decide) (by decide) (fun a1 ha1 => ?_)
  refine tt_dup dL_law_3 rfl ?_
  refine tt_callI (As := []) (Mid := fun r T _ _ => r = .inl none ∧ GI T [] ∧ Oa T [] 9 0 a1) (k1 := 26) (n1 := 670) (k2 := 600997) (n2 := 7292359) dL_law_4 ca_L_52 ⟨by decide, by decide⟩ (Nat.le_of_ble_eq_true rfl) (Nat.le_of_ble_eq_true rfl) (by decide) (by decide) (cc_9 (gi_o hG0 ha1) in_o (fun q h => nomatch h) (fun h => nomatch h) k_o zf_o (kc := 26) (nc := 670) (by decide) (by decide) (fun T u1 u2 u3 u4 => ⟨rfl, u1, u2⟩)) (fun v T1 x y hw => ?_) (fun X T hw => by obtain ⟨e, -⟩ := hw; cases e)
  obtain ⟨e1, g1, g2⟩ := hw
  cases e1
  show TT (b, L, xs) M_law 7 [(0, .ref b)] [.ref a1] T1 600997 7292359 PL
  refine tt_astore_n (ks := [0, 1]) (L' := [(1, .ref a1), (0, .ref b)]) dL_law_7 (by decide) rfl ?_
  refine tt_newo (k1 := 600996) (n1 := 7292322) dL_law_8 nl_L_53 (by decide) (by decide) (fun a2 ha2 => ?_)
  refine tt_dup dL_law_11 rfl ?_
  refine tt_callI (As := []) (Mid := fun r T _ _ => r = .inl none ∧ GI T [] ∧ Oa T [] 10 0 a2 ∧ Cf a2 (nw_o T1 10 a2) T ∧ hp_I T 663 a2 = 0) (k1 := 13) (n1 := 21218) (k2 := 600983) (n2 := 7271104) dL_law_12 ca_L_55 ⟨by decide, by decide⟩ (Nat.le_of_ble_eq_true rfl) (Nat.le_of_ble_eq_true rfl) (by decide) (by decide) (cc_10 (gi_o g1 ha2) in_o (fun q h => nomatch h) (fun h => nomatch h) k_o zf_o (kc := 13) (nc := 21218) (by decide) (by decide) (fun T u1 u2 u3 u4 u5 => ⟨rfl, u1, u2, u3, u5⟩)) (fun v T2 x y hw => ?_) (fun X T hw => by obtain ⟨e, -⟩ := hw; cases e)
  obtain ⟨e2, g3, g4, g5, g6⟩ := hw
  cases e2
  have cn2 := cn_new ha2 g5
  show TT (b, L, xs) M_law 15 [(1, .ref a1), (0, .ref b)] [.ref a2] T2 600983 7271104 PL
  refine tt_astore_n (ks := [0, 1, 2]) (L' := [(2, .ref a2), (1, .ref a1), (0, .ref b)]) dL_law_15 (by decide) rfl ?_
  refine tt_iconst (v := 1) dL_law_16 rfl ?_
  refine gn_J (k1 := 600982) (n1 := 7271103) dL_law_17 ka_long (by decide) (len := 1) rfl (by decide) (by decide) (by decide) g3 (fun q h => nomatch h) (fun a3 T3 g7 cn3 g8 => ?_)
  refine tt_astore_n (ks := [0, 1, 2, 3]) (L' := [(3, .ref a3), (2, .ref a2), (1, .ref a1), (0, .ref b)]) dL_law_19 (by decide) rfl ?_
  refine tt_iconst (v := 0) dL_law_20 rfl ?_
  refine tt_istore (ks := [0, 1, 2, 3, 4]) (L' := [(4, .int 0), (3, .ref a3), (2, .ref a2), (1, .ref a1), (0, .ref b)]) dL_law_21 (by decide) rfl ?_
  have ox := oa_cn (oa_cn g2 cn2) cn3
  have om := oa_cn g4 cn3
  obtain ⟨l1, r1, p1⟩ := gi_R (k := 579) g7 ox 4 0
  obtain ⟨pa, r2, p2⟩ := gi_R (k := 258) g7 p1 35 200
  have hn := nl_le (hp_r T3 pa)
  have e0 : (4104 - (0 : Int32).toInt).toNat = 4104 := rfl
  exact law_loop hL _ 0 T3 _ _ rfl ⟨by decide, by decide⟩ g7 ox om g8 (fun q => absurd (((cn3.2.1 a2 g4.1).2 663).trans g6) q) (pa := pa) (by rw [r1]; exact r2) (by rw [e0]; omega) (by rw [e0]; omega)
