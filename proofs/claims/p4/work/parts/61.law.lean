section LWH
variable {xi : SX} {M N : MD} {pc : Nat} {L : List (Nat × Value)} {rest As : List Value} {S S0 T : Hp} {i k0 n0 : Nat} {P : Po} {E ws vs : List Nat} {cz : Int32 → Prop}
theorem gt_SW (h : decode (md_c M) pc = .ok (.invokestatic i, 3)) (hcv : CTW (md_y M).cls i N As.length) (hrm : RM M N) (hA : Af E ws S0 S) (hlen : (lg_sl As).length ≤ md_L N) (hr8 : (rest.map fun v => v.category).sum ≤ 8) (hs : ∀ k ∈ vs, k ∈ ws) (hk : 1 ≤ k0) (hn : 6 ≤ n0) (kx : TT xi N 0 (lv_args 0 As) [] S 1 6 (PW E vs S cz)) (kk : ∀ (T : Hp) (z : Int32), cz z → GI T E → Af E vs S T → Af E ws S0 T → TT xi M (pc + 3) L (.int z :: rest) T (k0 - 1) (n0 - 6) P) : TT xi M pc L (As.reverse ++ rest) S k0 n0 P := by
  refine tt_callSW (k1 := 1) (n1 := 6) (k2 := k0 - 1) (n2 := n0 - 6) h hcv hrm hlen hr8 (by omega) (by omega) kx (fun v T x y hw => ?_) (fun X T hw => ?_)
  · obtain ⟨g1, g2, z, e, hz⟩ := hw
    cases e
    exact kk T z hz g1 g2 (af_tr hA g2 hs)
  · obtain ⟨g1, g2, z, e, hz⟩ := hw
    cases e
abbrev Rel (S : Hp) (o : Nat) : Prop := ¬ hp_I S 663 o = 0 → ¬ hp_I S 664 o = -1
theorem rel_af {o kd n : Nat} (h : Rel S o) (ho : Oa S E kd n o) (hA : Af E vs S T) (h1 : 663 ∉ vs := by decide) (h2 : 664 ∉ vs := by decide) : Rel T o := by
  unfold Rel
  rw [i_af ho hA h1, i_af ho hA h2]
  exact h
theorem rel_go {o kd n : Nat} (h : Rel S o) (ho : Oa S E kd n o) (hA : Af E vs S T) (h1 : 663 ∉ vs := by decide) (h2 : 9997 ∉ vs := by decide) : Rel T o := by
  intro q
  rw [i_af ho hA h1] at q
  exact he_af ho hA (h q) h2
theorem pa_af {o n pa : Nat} (hG : GI S E) (ho : Oa S E 9 n o) (hA : Af E ws S T) (h : (hp_R S 579 o).bind (fun q => hp_R S 258 q) = some pa) : (hp_R T 579 o).bind (fun q => hp_R T 258 q) = some pa := by
  obtain ⟨b, h1, h2⟩ := gi_R (k := 579) hG ho 4 0
  rw [r_af ho hA h1]
  rw [h1] at h
  exact (r_af h2 hA rfl).trans h
end LWH
theorem lw_in {L : Nat} {x : Int32} (hL : L ≤ 4096) (hx : Rg 0 4104 x) (h : ¬ Int32.ofNat L - 8 < x) : 0 ≤ x.toInt ∧ x.toInt + 8 ≤ (L : Int) := by
  obtain ⟨x1, x2⟩ := hx
  rw [Int32.lt_iff_toInt_lt] at h
  have e1 : (Int32.ofNat L).toInt = (L : Int) := by
    rw [Int32.toInt_ofNat_of_lt (by omega)]
  have e2 : (Int32.ofNat L - 8).toInt = (L : Int) - 8 := by
    rw [Int32.toInt_sub, e1, show (8 : Int32).toInt = 8 from rfl, bmod_in (by omega) (by omega)]
  rw [e2] at h
  omega
theorem sc_in {L : Nat} {x j : Int32} (h : 0 ≤ x.toInt ∧ x.toInt + 8 ≤ (L : Int)) (hL : L ≤ 4096) (h1 : 0 ≤ j.toInt := by decide) (h2 : j.toInt ≤ 7 := by decide) : vp_in (x + j) L := by
  obtain ⟨x1, x2⟩ := h
  have e : (x + j).toInt = x.toInt + j.toInt := by rw [Int32.toInt_add, bmod_in (by omega) (by omega)]
  intro q
  rcases q with q | q
  · have := Int32.lt_iff_toInt_lt.mp q
    have e0 : (0 : Int32).toInt = 0 := rfl
    omega
  · have e2 : (x + j).toNatClampNeg = (x + j).toInt.toNat := rfl
    omega
theorem sc_0 {L : Nat} {x : Int32} (h : 0 ≤ x.toInt ∧ x.toInt + 8 ≤ (L : Int)) : vp_in x L := by
  obtain ⟨x1, x2⟩ := h
  intro q
  rcases q with q | q
  · have := Int32.lt_iff_toInt_lt.mp q
    have e0 : (0 : Int32).toInt = 0 := rfl
    omega
  · have e2 : x.toNatClampNeg = x.toInt.toNat := rfl
    omega
theorem lw_up {L : Nat} {x : Int32} (h : 0 ≤ x.toInt ∧ x.toInt + 8 ≤ (L : Int)) (hL : L ≤ 4096) : (x + 8).toInt = x.toInt + 8 := by
  rw [Int32.toInt_add, show (8 : Int32).toInt = 8 from rfl, bmod_in (by omega) (by omega)]
abbrev PL : Po := fun r _ _ _ => r = .inl (some (.int 1))
set_option maxHeartbeats 8000000 in
theorem law_loop {b L : Nat} {xs : Nat → Int32} (hL : L ≤ 4096) {o1 o2 o3 pa : Nat} : ∀ (nn : Nat) (x4 : Int32) (S : Hp) (k n : Nat), (4104 - x4.toInt).toNat = nn → Rg 0 4104 x4 → GI S [] → Oa S [] 9 0 o1 → Oa S [] 10 0 o2 → Oa S [] 33 1 o3 → Rel S o2 → (hp_R S 579 o1).bind (fun q => hp_R S 258 q) = some pa → 5 * nl (hp_r S pa) + (4104 - x4.toInt).toNat ≤ k → 82 * nl (hp_r S pa) + 6 * (4104 - x4.toInt).toNat ≤ n → TT (b, L, xs) M_law 23 [(4, .int x4), (3, .ref o3), (2, .ref o2), (1, .ref o1), (0, .ref b)] [] S k n PL := by
  intro nn
  induction nn using Nat.strongRecOn with
  | ind nn ih =>
    intro x4 S k n hm hx4 hG h1 h2 h3 hrel hpa hkb hnb
    subst hm
    have hA : Af [] [65, 193, 194, 195, 196, 197, 198, 199, 200, 201, 202, 203, 204, 321, 322, 388, 389, 390, 391, 392, 393, 515, 516, 517, 640, 642, 653, 654, 655, 656, 657, 658, 659, 661, 662, 663, 664, 667, 668, 669, 670, 671, 672, 673, 674, 675, 676, 9997, 9998, 9999] S S := af_rf
    have er0 : hp_r S = hp_r S := rfl
    refine tt_iload (j := 0) dL_law_23 rfl ?_
    refine tt_aload_n (j := 4) dL_law_25 rfl ?_
    refine tt_slen (xi := (b, L, xs)) dL_law_26 ?_
    refine tt_bipush (v := 8) dL_law_27 rfl ?_
    refine tt_isub dL_law_29 ?_
    refine tt_icmp_gt (tgt := 799) dL_law_30 rfl (fun q => ?_) (fun q => ?_)
    · refine tt_iconst (v := 1) dL_law_799 rfl ?_
      exact tt_ireturn dL_law_800 .boolean rfl rfl rfl
    have hx := lw_in hL hx4 q
    have hm1 : 8 ≤ (4104 - x4.toInt).toNat := by omega
    have hJ : ∀ (T : Hp) (k9 n9 : Nat), GI T [] → Af [] [65, 193, 194, 195, 196, 197, 198, 199, 200, 201, 202, 203, 204, 321, 322, 388, 389, 390, 391, 392, 393, 515, 516, 517, 640, 642, 653, 654, 655, 656, 657, 658, 659, 661, 662, 663, 664, 667, 668, 669, 670, 671, 672, 673, 674, 675, 676, 9997, 9998, 9999] S T → Rel T o2 → 5 * nl (hp_r T pa) + (4104 - x4.toInt).toNat ≤ k9 + 1 → 82 * nl (hp_r T pa) + 6 * (4104 - x4.toInt).toNat ≤ n9 + 6 → TT (b, L, xs) M_law 793 [(4, .int x4), (3, .ref o3), (2, .ref o2), (1, .ref o1), (0, .ref b)] [] T k9 n9 PL := by
      intro T k9 n9 g1 g2 g3 g4 g5
      have e8 := lw_up hx hL
      refine tt_iinc (j := 0) (v := (x4 + 8)) (ks := [0, 1, 2, 3, 4]) (L' := [(4, .int (x4 + 8)), (3, .ref o3), (2, .ref o2), (1, .ref o1), (0, .ref b)]) dL_law_793 rfl rfl (by decide) rfl ?_
      refine tt_goto (tgt := 23) dL_law_796 rfl ?_
      exact ih _ (by rw [e8]; omega) (x4 + 8) T k9 n9 rfl ⟨by rw [e8]; omega, by rw [e8]; omega⟩ g1 (oa_af h1 g2) (oa_af h2 g2) (oa_af h3 g2) g3 (pa_af hG h1 g2 hpa) (by rw [e8]; omega) (by rw [e8]; omega)
    refine tt_aload_n (j := 4) dL_law_33 rfl ?_
    refine tt_iload (j := 0) dL_law_34 rfl ?_
    refine tt_sld (xi := (b, L, xs)) dL_law_36 (sc_0 hx) ?_
    refine tt_bipush (v := 15) dL_law_37 rfl ?_
    refine tt_iand dL_law_39 ?_
    refine gt_ts [116, 192, 205, 377, 402, 442, 470, 483, 508, 560, 644, 655, 724, 752, 765, 793] dL_law_40 (by decide) (by decide) (fa_cons ?_ (fa_cons ?_ (fa_cons ?_ (fa_cons ?_ (fa_cons ?_ (fa_cons ?_ (fa_cons ?_ (fa_cons ?_ (fa_cons ?_ (fa_cons ?_ (fa_cons ?_ (fa_cons ?_ (fa_cons ?_ (fa_cons ?_ (fa_cons ?_ (fa_cons ?_ fa_nil))))))))))))))))
    · skip
      refine tt_aload_n (j := 3) dL_law_116 rfl ?_
      refine tt_aload_n (j := 4) dL_law_117 rfl ?_
      refine tt_iload (j := 0) dL_law_118 rfl ?_
      refine tt_iconst (v := 1) dL_law_120 rfl ?_
      refine tt_iadd dL_law_121 ?_
      refine tt_sld (xi := (b, L, xs)) dL_law_122 (sc_in hx hL) ?_
      refine tt_aload_n (j := 4) dL_law_123 rfl ?_
      refine tt_iload (j := 0) dL_law_124 rfl ?_
      refine tt_iconst (v := 2) dL_law_126 rfl ?_
      refine tt_iadd dL_law_127 ?_
      refine tt_sld (xi := (b, L, xs)) dL_law_128 (sc_in hx hL) ?_
      refine tt_aload_n (j := 4) dL_law_129 rfl ?_
      refine tt_iload (j := 0) dL_law_130 rfl ?_
      refine tt_iconst (v := 3) dL_law_132 rfl ?_
      refine tt_iadd dL_law_133 ?_
      refine tt_sld (xi := (b, L, xs)) dL_law_134 (sc_in hx hL) ?_
      refine tt_aload_n (j := 4) dL_law_135 rfl ?_
      refine tt_iload (j := 0) dL_law_136 rfl ?_
      refine tt_iconst (v := 4) dL_law_138 rfl ?_
      refine tt_iadd dL_law_139 ?_
      refine tt_sld (xi := (b, L, xs)) dL_law_140 (sc_in hx hL) ?_
      refine tt_aload_n (j := 4) dL_law_141 rfl ?_
      refine tt_iload (j := 0) dL_law_142 rfl ?_
      refine tt_iconst (v := 5) dL_law_144 rfl ?_
      refine tt_iadd dL_law_145 ?_
      refine tt_sld (xi := (b, L, xs)) dL_law_146 (sc_in hx hL) ?_
      refine tt_aload_n (j := 1) dL_law_147 rfl ?_
      refine gt_SW (As := [.ref o1, .int (xs (x4 + 1).toNatClampNeg), .int (xs (x4 + 2).toNatClampNeg), .int (xs (x4 + 3).toNatClampNeg), .int (xs (x4 + 4).toNatClampNeg), .int (xs (x4 + 5).toNatClampNeg), .ref o3]) dL_law_148 ca_L_56 ⟨by decide, by decide⟩ hA (Nat.le_of_ble_eq_true rfl) (Nat.le_of_ble_eq_true rfl) (by decide) (by omega) (by omega) (cw_L_feed hG (oa_af h1 hA) (oa_af h3 hA) (fun _ _ _ _ h => h)) (fun S1 z2 hz3 hG4 hB5 hA6 => ?_)
      have rl7 := rel_af hrel (oa_af h2 hA) hB5
      have er8 := (hB5.2.2.2.1 (by decide)).2.trans er0
      refine tt_istore (ks := [0, 1, 2, 3, 4, 5]) (L' := [(5, .int z2), (4, .int x4), (3, .ref o3), (2, .ref o2), (1, .ref o1), (0, .ref b)]) dL_law_151 (by decide) rfl ?_
      refine tt_aload_n (j := 3) dL_law_153 rfl ?_
      refine tt_aload_n (j := 5) dL_law_154 rfl ?_
      refine tt_iload (j := 1) dL_law_155 rfl ?_
      refine tt_iconst (v := 1) dL_law_157 rfl ?_
      refine tt_iadd dL_law_158 ?_
      refine tt_sld (xi := (b, L, xs)) dL_law_159 (sc_in hx hL) ?_
      refine tt_aload_n (j := 5) dL_law_160 rfl ?_
      refine tt_iload (j := 1) dL_law_161 rfl ?_
      refine tt_iconst (v := 2) dL_law_163 rfl ?_
      refine tt_iadd dL_law_164 ?_
      refine tt_sld (xi := (b, L, xs)) dL_law_165 (sc_in hx hL) ?_
      refine tt_aload_n (j := 5) dL_law_166 rfl ?_
      refine tt_iload (j := 1) dL_law_167 rfl ?_
      refine tt_iconst (v := 3) dL_law_169 rfl ?_
      refine tt_iadd dL_law_170 ?_
      refine tt_sld (xi := (b, L, xs)) dL_law_171 (sc_in hx hL) ?_
      refine tt_aload_n (j := 5) dL_law_172 rfl ?_
      refine tt_iload (j := 1) dL_law_173 rfl ?_
      refine tt_iconst (v := 4) dL_law_175 rfl ?_
      refine tt_iadd dL_law_176 ?_
      refine tt_sld (xi := (b, L, xs)) dL_law_177 (sc_in hx hL) ?_
      refine tt_aload_n (j := 5) dL_law_178 rfl ?_
      refine tt_iload (j := 1) dL_law_179 rfl ?_
      refine tt_iconst (v := 5) dL_law_181 rfl ?_
      refine tt_iadd dL_law_182 ?_
      refine tt_sld (xi := (b, L, xs)) dL_law_183 (sc_in hx hL) ?_
      refine gt_VI (As := [.int (xs (x4 + 1).toNatClampNeg), .int (xs (x4 + 2).toNatClampNeg), .int (xs (x4 + 3).toNatClampNeg), .int (xs (x4 + 4).toNatClampNeg), .int (xs (x4 + 5).toNatClampNeg)]) dL_law_184 ca_L_61 ⟨by decide, by decide⟩ h2 hA6 rfl (Nat.le_of_ble_eq_true rfl) (Nat.le_of_ble_eq_true rfl) (by decide) (cs_X10_feed hG4 (oa_af h2 hA6) (fun _ _ _ _ h => h)) rfl (fun _ h => nomatch h) (fun S9 v10 hz11 hx12 hG13 hB14 hA15 => ?_)
      have rl16 := hx12 rl7
      have er17 := (hB14.2.2.2.1 (by decide)).2.trans er8
      refine tt_istore (ks := [0, 1, 2, 3, 4, 5, 6]) (L' := [(6, .int v10), (5, .int z2), (4, .int x4), (3, .ref o3), (2, .ref o2), (1, .ref o1), (0, .ref b)]) dL_law_187 (by decide) rfl ?_
      refine tt_goto (tgt := 793) dL_law_189 rfl ?_
      exact tt_loc (ks := [2, 3, 4, 5, 6]) rfl (hJ S9 (k - 1) (n - 6) hG13 hA15 rl16 (by rw [er17]; omega) (by rw [er17]; omega))
    · skip
      refine tt_aload_n (j := 3) dL_law_192 rfl ?_
      refine gt_VI (As := []) dL_law_193 ca_L_62 ⟨by decide, by decide⟩ h1 hA rfl (Nat.le_of_ble_eq_true rfl) (Nat.le_of_ble_eq_true rfl) (by decide) (cs_X9_erase hG (oa_af h1 hA) (fun _ _ _ _ h => h)) rfl (fun _ h => nomatch h) (fun S18 v19 hz20 hx21 hG22 hB23 hA24 => ?_)
      have rl25 := rel_af hrel (oa_af h2 hA) hB23
      have er26 := (hB23.2.2.2.1 (by decide)).2.trans er0
      refine tt_pop dL_law_196 rfl ?_
      refine tt_aload_n (j := 2) dL_law_197 rfl ?_
      refine gt_VI (As := []) dL_law_198 ca_L_66 ⟨by decide, by decide⟩ h2 hA24 rfl (Nat.le_of_ble_eq_true rfl) (Nat.le_of_ble_eq_true rfl) (by decide) (cs_X10_erase hG22 (oa_af h2 hA24) (fun _ _ _ _ h => h)) rfl (fun _ h => nomatch h) (fun S27 v28 hz29 hx30 hG31 hB32 hA33 => ?_)
      have rl34 := hx30 rl25
      have er35 := (hB32.2.2.2.1 (by decide)).2.trans er26
      refine tt_pop dL_law_201 rfl ?_
      refine tt_goto (tgt := 793) dL_law_202 rfl ?_
      exact tt_loc (ks := [0, 1, 2, 3, 4]) rfl (hJ S27 k n hG31 hA33 rl34 (by rw [er35]; omega) (by rw [er35]; omega))
    · skip
      refine tt_aload_n (j := 3) dL_law_205 rfl ?_
      refine tt_aload_n (j := 4) dL_law_206 rfl ?_
      refine tt_iload (j := 0) dL_law_207 rfl ?_
      refine tt_iconst (v := 1) dL_law_209 rfl ?_
      refine tt_iadd dL_law_210 ?_
      refine tt_sld (xi := (b, L, xs)) dL_law_211 (sc_in hx hL) ?_
      refine tt_aload_n (j := 4) dL_law_212 rfl ?_
      refine tt_iload (j := 0) dL_law_213 rfl ?_
      refine tt_iconst (v := 2) dL_law_215 rfl ?_
      refine tt_iadd dL_law_216 ?_
      refine tt_sld (xi := (b, L, xs)) dL_law_217 (sc_in hx hL) ?_
      refine tt_i2l dL_law_218 ?_
      refine tt_bipush (v := 32) dL_law_219 rfl ?_
      refine tt_lshl dL_law_221 ?_
      refine tt_aload_n (j := 4) dL_law_222 rfl ?_
      refine tt_iload (j := 0) dL_law_223 rfl ?_
      refine tt_iconst (v := 3) dL_law_225 rfl ?_
      refine tt_iadd dL_law_226 ?_
      refine tt_sld (xi := (b, L, xs)) dL_law_227 (sc_in hx hL) ?_
      refine tt_i2l dL_law_228 ?_
      refine tt_ldc2 (v := 4294967295) dL_law_229 kl_L_67 ?_
      refine tt_land dL_law_232 ?_
      refine tt_lor dL_law_233 ?_
      refine tt_aload_n (j := 4) dL_law_234 rfl ?_
      refine tt_iload (j := 0) dL_law_235 rfl ?_
      refine tt_iconst (v := 4) dL_law_237 rfl ?_
      refine tt_iadd dL_law_238 ?_
      refine tt_sld (xi := (b, L, xs)) dL_law_239 (sc_in hx hL) ?_
      refine tt_i2l dL_law_240 ?_
      refine tt_bipush (v := 32) dL_law_241 rfl ?_
      refine tt_lshl dL_law_243 ?_
      refine tt_aload_n (j := 4) dL_law_244 rfl ?_
      refine tt_iload (j := 0) dL_law_245 rfl ?_
      refine tt_iconst (v := 5) dL_law_247 rfl ?_
      refine tt_iadd dL_law_248 ?_
      refine tt_sld (xi := (b, L, xs)) dL_law_249 (sc_in hx hL) ?_
      refine tt_i2l dL_law_250 ?_
      refine tt_ldc2 (v := 4294967295) dL_law_251 kl_L_67 ?_
      refine tt_land dL_law_254 ?_
      refine tt_lor dL_law_255 ?_
      refine tt_aload_n (j := 4) dL_law_256 rfl ?_
      refine tt_iload (j := 0) dL_law_257 rfl ?_
      refine tt_bipush (v := 6) dL_law_259 rfl ?_
      refine tt_iadd dL_law_261 ?_
      refine tt_sld (xi := (b, L, xs)) dL_law_262 (sc_in hx hL) ?_
      refine tt_i2l dL_law_263 ?_
      refine tt_bipush (v := 32) dL_law_264 rfl ?_
      refine tt_lshl dL_law_266 ?_
      refine tt_aload_n (j := 4) dL_law_267 rfl ?_
      refine tt_iload (j := 0) dL_law_268 rfl ?_
      refine tt_bipush (v := 7) dL_law_270 rfl ?_
      refine tt_iadd dL_law_272 ?_
      refine tt_sld (xi := (b, L, xs)) dL_law_273 (sc_in hx hL) ?_
      refine tt_i2l dL_law_274 ?_
      refine tt_ldc2 (v := 4294967295) dL_law_275 kl_L_67 ?_
      refine tt_land dL_law_278 ?_
      refine tt_lor dL_law_279 ?_
      by_cases hr9 : Rg 0 23 (xs (x4 + 1).toNatClampNeg)
      · by_cases ht9 : Trip ((((xs (x4 + 2).toNatClampNeg) : Int32).toInt64 <<< ((32 : Int32).toInt64 &&& 63)) ||| (((xs (x4 + 3).toNatClampNeg) : Int32).toInt64 &&& 4294967295)) ((((xs (x4 + 4).toNatClampNeg) : Int32).toInt64 <<< ((32 : Int32).toInt64 &&& 63)) ||| (((xs (x4 + 5).toNatClampNeg) : Int32).toInt64 &&& 4294967295)) ((((xs (x4 + 6).toNatClampNeg) : Int32).toInt64 <<< ((32 : Int32).toInt64 &&& 63)) ||| (((xs (x4 + 7).toNatClampNeg) : Int32).toInt64 &&& 4294967295))
        · skip
          refine gt_SW (As := [.ref o1, .int (xs (x4 + 1).toNatClampNeg), .long ((((xs (x4 + 2).toNatClampNeg) : Int32).toInt64 <<< ((32 : Int32).toInt64 &&& 63)) ||| (((xs (x4 + 3).toNatClampNeg) : Int32).toInt64 &&& 4294967295)), .long ((((xs (x4 + 4).toNatClampNeg) : Int32).toInt64 <<< ((32 : Int32).toInt64 &&& 63)) ||| (((xs (x4 + 5).toNatClampNeg) : Int32).toInt64 &&& 4294967295)), .long ((((xs (x4 + 6).toNatClampNeg) : Int32).toInt64 <<< ((32 : Int32).toInt64 &&& 63)) ||| (((xs (x4 + 7).toNatClampNeg) : Int32).toInt64 &&& 4294967295))]) dL_law_280 ca_L_69 ⟨by decide, by decide⟩ hA (Nat.le_of_ble_eq_true rfl) (Nat.le_of_ble_eq_true rfl) (by decide) (by omega) (by omega) (cwo_L_given hG (oa_af h1 hA) hr9 ht9 (fun _ _ _ _ h => h)) (fun S36 z37 hz38 hG39 hB40 hA41 => ?_)
          have rl42 := rel_af hrel (oa_af h2 hA) hB40
          have er43 := (hB40.2.2.2.1 (by decide)).2.trans er0
          obtain rfl : z37 = 0 := hz38
          refine tt_istore (ks := [0, 1, 2, 3, 4, 5]) (L' := [(5, .int 0), (4, .int x4), (3, .ref o3), (2, .ref o2), (1, .ref o1), (0, .ref b)]) dL_law_283 (by decide) rfl ?_
          refine tt_aload_n (j := 3) dL_law_285 rfl ?_
          refine tt_aload_n (j := 5) dL_law_286 rfl ?_
          refine tt_iload (j := 1) dL_law_287 rfl ?_
          refine tt_iconst (v := 1) dL_law_289 rfl ?_
          refine tt_iadd dL_law_290 ?_
          refine tt_sld (xi := (b, L, xs)) dL_law_291 (sc_in hx hL) ?_
          refine tt_aload_n (j := 5) dL_law_292 rfl ?_
          refine tt_iload (j := 1) dL_law_293 rfl ?_
          refine tt_iconst (v := 2) dL_law_295 rfl ?_
          refine tt_iadd dL_law_296 ?_
          refine tt_sld (xi := (b, L, xs)) dL_law_297 (sc_in hx hL) ?_
          refine tt_i2l dL_law_298 ?_
          refine tt_bipush (v := 32) dL_law_299 rfl ?_
          refine tt_lshl dL_law_301 ?_
          refine tt_aload_n (j := 5) dL_law_302 rfl ?_
          refine tt_iload (j := 1) dL_law_303 rfl ?_
          refine tt_iconst (v := 3) dL_law_305 rfl ?_
          refine tt_iadd dL_law_306 ?_
          refine tt_sld (xi := (b, L, xs)) dL_law_307 (sc_in hx hL) ?_
          refine tt_i2l dL_law_308 ?_
          refine tt_ldc2 (v := 4294967295) dL_law_309 kl_L_67 ?_
          refine tt_land dL_law_312 ?_
          refine tt_lor dL_law_313 ?_
          refine tt_aload_n (j := 5) dL_law_314 rfl ?_
          refine tt_iload (j := 1) dL_law_315 rfl ?_
          refine tt_iconst (v := 4) dL_law_317 rfl ?_
          refine tt_iadd dL_law_318 ?_
          refine tt_sld (xi := (b, L, xs)) dL_law_319 (sc_in hx hL) ?_
          refine tt_i2l dL_law_320 ?_
          refine tt_bipush (v := 32) dL_law_321 rfl ?_
          refine tt_lshl dL_law_323 ?_
          refine tt_aload_n (j := 5) dL_law_324 rfl ?_
          refine tt_iload (j := 1) dL_law_325 rfl ?_
          refine tt_iconst (v := 5) dL_law_327 rfl ?_
          refine tt_iadd dL_law_328 ?_
          refine tt_sld (xi := (b, L, xs)) dL_law_329 (sc_in hx hL) ?_
          refine tt_i2l dL_law_330 ?_
          refine tt_ldc2 (v := 4294967295) dL_law_331 kl_L_67 ?_
          refine tt_land dL_law_334 ?_
          refine tt_lor dL_law_335 ?_
          refine tt_aload_n (j := 5) dL_law_336 rfl ?_
          refine tt_iload (j := 1) dL_law_337 rfl ?_
          refine tt_bipush (v := 6) dL_law_339 rfl ?_
          refine tt_iadd dL_law_341 ?_
          refine tt_sld (xi := (b, L, xs)) dL_law_342 (sc_in hx hL) ?_
          refine tt_i2l dL_law_343 ?_
          refine tt_bipush (v := 32) dL_law_344 rfl ?_
          refine tt_lshl dL_law_346 ?_
          refine tt_aload_n (j := 5) dL_law_347 rfl ?_
          refine tt_iload (j := 1) dL_law_348 rfl ?_
          refine tt_bipush (v := 7) dL_law_350 rfl ?_
          refine tt_iadd dL_law_352 ?_
          refine tt_sld (xi := (b, L, xs)) dL_law_353 (sc_in hx hL) ?_
          refine tt_i2l dL_law_354 ?_
          refine tt_ldc2 (v := 4294967295) dL_law_355 kl_L_67 ?_
          refine tt_land dL_law_358 ?_
          refine tt_lor dL_law_359 ?_
          refine gt_Vv (As := [.int (xs (x4 + 1).toNatClampNeg), .long ((((xs (x4 + 2).toNatClampNeg) : Int32).toInt64 <<< ((32 : Int32).toInt64 &&& 63)) ||| (((xs (x4 + 3).toNatClampNeg) : Int32).toInt64 &&& 4294967295)), .long ((((xs (x4 + 4).toNatClampNeg) : Int32).toInt64 <<< ((32 : Int32).toInt64 &&& 63)) ||| (((xs (x4 + 5).toNatClampNeg) : Int32).toInt64 &&& 4294967295)), .long ((((xs (x4 + 6).toNatClampNeg) : Int32).toInt64 <<< ((32 : Int32).toInt64 &&& 63)) ||| (((xs (x4 + 7).toNatClampNeg) : Int32).toInt64 &&& 4294967295))]) dL_law_360 ca_L_72 ⟨by decide, by decide⟩ h2 hA41 rfl (Nat.le_of_ble_eq_true rfl) (Nat.le_of_ble_eq_true rfl) (by decide) (cq_X10_given hG39 (oa_af h2 hA41) (fun _ _ _ _ h => h)) rfl (fun _ h => nomatch h) (fun S44 hx47 hG48 hB49 hA50 => ?_)
          have rl51 := rel_af rl42 (oa_af h2 hA41) hB49
          have er52 := (hB49.2.2.2.1 (by decide)).2.trans er43
          have h653 : hp_I S44 640 o2 = 0 := hx47.elim (fun h => h.1) (fun h => absurd ⟨hr9, ht9⟩ h.2)
          refine tt_aload_n (j := 3) dL_law_363 rfl ?_
          refine gt_VIp (As := []) dL_law_364 ca_L_73 ⟨by decide, by decide⟩ h2 hA50 rfl (Nat.le_of_ble_eq_true rfl) (Nat.le_of_ble_eq_true rfl) (by decide) (cs_X10_thrown hG48 (oa_af h2 hA50) (fun _ _ _ _ h => h)) rfl (fun _ h => nomatch h) (fun _ _ q => q.1) (fun v55 hz56 hx57 => ?_)
          obtain rfl : v55 = 0 := (hx57.2 _ rfl).trans h653
          refine tt_iload (j := 0) dL_law_367 rfl ?_
          refine tt_icmp_eq (tgt := 374) dL_law_369 rfl (fun _ => ?_) (fun q => absurd rfl q)
          refine tt_goto (tgt := 793) dL_law_374 rfl ?_
          exact tt_loc (ks := [1, 2, 3, 4, 5]) rfl (hJ S44 (k - 1) (n - 6) hG48 hA50 rl51 (by rw [er52]; omega) (by rw [er52]; omega))
        · skip
          refine gt_SW (As := [.ref o1, .int (xs (x4 + 1).toNatClampNeg), .long ((((xs (x4 + 2).toNatClampNeg) : Int32).toInt64 <<< ((32 : Int32).toInt64 &&& 63)) ||| (((xs (x4 + 3).toNatClampNeg) : Int32).toInt64 &&& 4294967295)), .long ((((xs (x4 + 4).toNatClampNeg) : Int32).toInt64 <<< ((32 : Int32).toInt64 &&& 63)) ||| (((xs (x4 + 5).toNatClampNeg) : Int32).toInt64 &&& 4294967295)), .long ((((xs (x4 + 6).toNatClampNeg) : Int32).toInt64 <<< ((32 : Int32).toInt64 &&& 63)) ||| (((xs (x4 + 7).toNatClampNeg) : Int32).toInt64 &&& 4294967295))]) dL_law_280 ca_L_69 ⟨by decide, by decide⟩ hA (Nat.le_of_ble_eq_true rfl) (Nat.le_of_ble_eq_true rfl) (by decide) (by omega) (by omega) (cwk_L_given hG (oa_af h1 hA) hr9 ht9 (fun _ _ _ _ h => h)) (fun S61 z62 hz63 hG64 hB65 hA66 => ?_)
          have rl67 := rel_af hrel (oa_af h2 hA) hB65
          have er68 := (hB65.2.2.2.1 (by decide)).2.trans er0
          obtain rfl : z62 = 1 := hz63
          refine tt_istore (ks := [0, 1, 2, 3, 4, 5]) (L' := [(5, .int 1), (4, .int x4), (3, .ref o3), (2, .ref o2), (1, .ref o1), (0, .ref b)]) dL_law_283 (by decide) rfl ?_
          refine tt_aload_n (j := 3) dL_law_285 rfl ?_
          refine tt_aload_n (j := 5) dL_law_286 rfl ?_
          refine tt_iload (j := 1) dL_law_287 rfl ?_
          refine tt_iconst (v := 1) dL_law_289 rfl ?_
          refine tt_iadd dL_law_290 ?_
          refine tt_sld (xi := (b, L, xs)) dL_law_291 (sc_in hx hL) ?_
          refine tt_aload_n (j := 5) dL_law_292 rfl ?_
          refine tt_iload (j := 1) dL_law_293 rfl ?_
          refine tt_iconst (v := 2) dL_law_295 rfl ?_
          refine tt_iadd dL_law_296 ?_
          refine tt_sld (xi := (b, L, xs)) dL_law_297 (sc_in hx hL) ?_
          refine tt_i2l dL_law_298 ?_
          refine tt_bipush (v := 32) dL_law_299 rfl ?_
          refine tt_lshl dL_law_301 ?_
          refine tt_aload_n (j := 5) dL_law_302 rfl ?_
          refine tt_iload (j := 1) dL_law_303 rfl ?_
          refine tt_iconst (v := 3) dL_law_305 rfl ?_
          refine tt_iadd dL_law_306 ?_
          refine tt_sld (xi := (b, L, xs)) dL_law_307 (sc_in hx hL) ?_
          refine tt_i2l dL_law_308 ?_
          refine tt_ldc2 (v := 4294967295) dL_law_309 kl_L_67 ?_
          refine tt_land dL_law_312 ?_
          refine tt_lor dL_law_313 ?_
          refine tt_aload_n (j := 5) dL_law_314 rfl ?_
          refine tt_iload (j := 1) dL_law_315 rfl ?_
          refine tt_iconst (v := 4) dL_law_317 rfl ?_
          refine tt_iadd dL_law_318 ?_
          refine tt_sld (xi := (b, L, xs)) dL_law_319 (sc_in hx hL) ?_
          refine tt_i2l dL_law_320 ?_
          refine tt_bipush (v := 32) dL_law_321 rfl ?_
          refine tt_lshl dL_law_323 ?_
          refine tt_aload_n (j := 5) dL_law_324 rfl ?_
          refine tt_iload (j := 1) dL_law_325 rfl ?_
          refine tt_iconst (v := 5) dL_law_327 rfl ?_
          refine tt_iadd dL_law_328 ?_
          refine tt_sld (xi := (b, L, xs)) dL_law_329 (sc_in hx hL) ?_
          refine tt_i2l dL_law_330 ?_
          refine tt_ldc2 (v := 4294967295) dL_law_331 kl_L_67 ?_
          refine tt_land dL_law_334 ?_
          refine tt_lor dL_law_335 ?_
          refine tt_aload_n (j := 5) dL_law_336 rfl ?_
          refine tt_iload (j := 1) dL_law_337 rfl ?_
          refine tt_bipush (v := 6) dL_law_339 rfl ?_
          refine tt_iadd dL_law_341 ?_
          refine tt_sld (xi := (b, L, xs)) dL_law_342 (sc_in hx hL) ?_
          refine tt_i2l dL_law_343 ?_
          refine tt_bipush (v := 32) dL_law_344 rfl ?_
          refine tt_lshl dL_law_346 ?_
          refine tt_aload_n (j := 5) dL_law_347 rfl ?_
          refine tt_iload (j := 1) dL_law_348 rfl ?_
          refine tt_bipush (v := 7) dL_law_350 rfl ?_
          refine tt_iadd dL_law_352 ?_
          refine tt_sld (xi := (b, L, xs)) dL_law_353 (sc_in hx hL) ?_
          refine tt_i2l dL_law_354 ?_
          refine tt_ldc2 (v := 4294967295) dL_law_355 kl_L_67 ?_
          refine tt_land dL_law_358 ?_
          refine tt_lor dL_law_359 ?_
          refine gt_Vv (As := [.int (xs (x4 + 1).toNatClampNeg), .long ((((xs (x4 + 2).toNatClampNeg) : Int32).toInt64 <<< ((32 : Int32).toInt64 &&& 63)) ||| (((xs (x4 + 3).toNatClampNeg) : Int32).toInt64 &&& 4294967295)), .long ((((xs (x4 + 4).toNatClampNeg) : Int32).toInt64 <<< ((32 : Int32).toInt64 &&& 63)) ||| (((xs (x4 + 5).toNatClampNeg) : Int32).toInt64 &&& 4294967295)), .long ((((xs (x4 + 6).toNatClampNeg) : Int32).toInt64 <<< ((32 : Int32).toInt64 &&& 63)) ||| (((xs (x4 + 7).toNatClampNeg) : Int32).toInt64 &&& 4294967295))]) dL_law_360 ca_L_72 ⟨by decide, by decide⟩ h2 hA66 rfl (Nat.le_of_ble_eq_true rfl) (Nat.le_of_ble_eq_true rfl) (by decide) (cq_X10_given hG64 (oa_af h2 hA66) (fun _ _ _ _ h => h)) rfl (fun _ h => nomatch h) (fun S69 hx72 hG73 hB74 hA75 => ?_)
          have rl76 := rel_af rl67 (oa_af h2 hA66) hB74
          have er77 := (hB74.2.2.2.1 (by decide)).2.trans er68
          have h678 : hp_I S69 640 o2 = 1 := hx72.elim (fun h => absurd h.2.2 ht9) (fun h => h.1)
          refine tt_aload_n (j := 3) dL_law_363 rfl ?_
          refine gt_VIp (As := []) dL_law_364 ca_L_73 ⟨by decide, by decide⟩ h2 hA75 rfl (Nat.le_of_ble_eq_true rfl) (Nat.le_of_ble_eq_true rfl) (by decide) (cs_X10_thrown hG73 (oa_af h2 hA75) (fun _ _ _ _ h => h)) rfl (fun _ h => nomatch h) (fun _ _ q => q.1) (fun v80 hz81 hx82 => ?_)
          obtain rfl : v80 = 1 := (hx82.2 _ rfl).trans h678
          refine tt_iload (j := 0) dL_law_367 rfl ?_
          refine tt_icmp_eq (tgt := 374) dL_law_369 rfl (fun _ => ?_) (fun q => absurd rfl q)
          refine tt_goto (tgt := 793) dL_law_374 rfl ?_
          exact tt_loc (ks := [1, 2, 3, 4, 5]) rfl (hJ S69 (k - 1) (n - 6) hG73 hA75 rl76 (by rw [er77]; omega) (by rw [er77]; omega))
      · skip
        refine gt_SW (As := [.ref o1, .int (xs (x4 + 1).toNatClampNeg), .long ((((xs (x4 + 2).toNatClampNeg) : Int32).toInt64 <<< ((32 : Int32).toInt64 &&& 63)) ||| (((xs (x4 + 3).toNatClampNeg) : Int32).toInt64 &&& 4294967295)), .long ((((xs (x4 + 4).toNatClampNeg) : Int32).toInt64 <<< ((32 : Int32).toInt64 &&& 63)) ||| (((xs (x4 + 5).toNatClampNeg) : Int32).toInt64 &&& 4294967295)), .long ((((xs (x4 + 6).toNatClampNeg) : Int32).toInt64 <<< ((32 : Int32).toInt64 &&& 63)) ||| (((xs (x4 + 7).toNatClampNeg) : Int32).toInt64 &&& 4294967295))]) dL_law_280 ca_L_69 ⟨by decide, by decide⟩ hA (Nat.le_of_ble_eq_true rfl) (Nat.le_of_ble_eq_true rfl) (by decide) (by omega) (by omega) (cwn_L_given hG (oa_af h1 hA) hr9 (fun _ _ _ _ h => h)) (fun S86 z87 hz88 hG89 hB90 hA91 => ?_)
        have rl92 := rel_af hrel (oa_af h2 hA) hB90
        have er93 := (hB90.2.2.2.1 (by decide)).2.trans er0
        obtain rfl : z87 = 1 := hz88
        refine tt_istore (ks := [0, 1, 2, 3, 4, 5]) (L' := [(5, .int 1), (4, .int x4), (3, .ref o3), (2, .ref o2), (1, .ref o1), (0, .ref b)]) dL_law_283 (by decide) rfl ?_
        refine tt_aload_n (j := 3) dL_law_285 rfl ?_
        refine tt_aload_n (j := 5) dL_law_286 rfl ?_
        refine tt_iload (j := 1) dL_law_287 rfl ?_
        refine tt_iconst (v := 1) dL_law_289 rfl ?_
        refine tt_iadd dL_law_290 ?_
        refine tt_sld (xi := (b, L, xs)) dL_law_291 (sc_in hx hL) ?_
        refine tt_aload_n (j := 5) dL_law_292 rfl ?_
        refine tt_iload (j := 1) dL_law_293 rfl ?_
        refine tt_iconst (v := 2) dL_law_295 rfl ?_
        refine tt_iadd dL_law_296 ?_
        refine tt_sld (xi := (b, L, xs)) dL_law_297 (sc_in hx hL) ?_
        refine tt_i2l dL_law_298 ?_
        refine tt_bipush (v := 32) dL_law_299 rfl ?_
        refine tt_lshl dL_law_301 ?_
        refine tt_aload_n (j := 5) dL_law_302 rfl ?_
        refine tt_iload (j := 1) dL_law_303 rfl ?_
        refine tt_iconst (v := 3) dL_law_305 rfl ?_
        refine tt_iadd dL_law_306 ?_
        refine tt_sld (xi := (b, L, xs)) dL_law_307 (sc_in hx hL) ?_
        refine tt_i2l dL_law_308 ?_
        refine tt_ldc2 (v := 4294967295) dL_law_309 kl_L_67 ?_
        refine tt_land dL_law_312 ?_
        refine tt_lor dL_law_313 ?_
        refine tt_aload_n (j := 5) dL_law_314 rfl ?_
        refine tt_iload (j := 1) dL_law_315 rfl ?_
        refine tt_iconst (v := 4) dL_law_317 rfl ?_
        refine tt_iadd dL_law_318 ?_
        refine tt_sld (xi := (b, L, xs)) dL_law_319 (sc_in hx hL) ?_
        refine tt_i2l dL_law_320 ?_
        refine tt_bipush (v := 32) dL_law_321 rfl ?_
        refine tt_lshl dL_law_323 ?_
        refine tt_aload_n (j := 5) dL_law_324 rfl ?_
        refine tt_iload (j := 1) dL_law_325 rfl ?_
        refine tt_iconst (v := 5) dL_law_327 rfl ?_
        refine tt_iadd dL_law_328 ?_
        refine tt_sld (xi := (b, L, xs)) dL_law_329 (sc_in hx hL) ?_
        refine tt_i2l dL_law_330 ?_
        refine tt_ldc2 (v := 4294967295) dL_law_331 kl_L_67 ?_
        refine tt_land dL_law_334 ?_
        refine tt_lor dL_law_335 ?_
        refine tt_aload_n (j := 5) dL_law_336 rfl ?_
        refine tt_iload (j := 1) dL_law_337 rfl ?_
        refine tt_bipush (v := 6) dL_law_339 rfl ?_
        refine tt_iadd dL_law_341 ?_
        refine tt_sld (xi := (b, L, xs)) dL_law_342 (sc_in hx hL) ?_
        refine tt_i2l dL_law_343 ?_
        refine tt_bipush (v := 32) dL_law_344 rfl ?_
        refine tt_lshl dL_law_346 ?_
        refine tt_aload_n (j := 5) dL_law_347 rfl ?_
        refine tt_iload (j := 1) dL_law_348 rfl ?_
        refine tt_bipush (v := 7) dL_law_350 rfl ?_
        refine tt_iadd dL_law_352 ?_
        refine tt_sld (xi := (b, L, xs)) dL_law_353 (sc_in hx hL) ?_
        refine tt_i2l dL_law_354 ?_
        refine tt_ldc2 (v := 4294967295) dL_law_355 kl_L_67 ?_
        refine tt_land dL_law_358 ?_
        refine tt_lor dL_law_359 ?_
        refine gt_Vv (As := [.int (xs (x4 + 1).toNatClampNeg), .long ((((xs (x4 + 2).toNatClampNeg) : Int32).toInt64 <<< ((32 : Int32).toInt64 &&& 63)) ||| (((xs (x4 + 3).toNatClampNeg) : Int32).toInt64 &&& 4294967295)), .long ((((xs (x4 + 4).toNatClampNeg) : Int32).toInt64 <<< ((32 : Int32).toInt64 &&& 63)) ||| (((xs (x4 + 5).toNatClampNeg) : Int32).toInt64 &&& 4294967295)), .long ((((xs (x4 + 6).toNatClampNeg) : Int32).toInt64 <<< ((32 : Int32).toInt64 &&& 63)) ||| (((xs (x4 + 7).toNatClampNeg) : Int32).toInt64 &&& 4294967295))]) dL_law_360 ca_L_72 ⟨by decide, by decide⟩ h2 hA91 rfl (Nat.le_of_ble_eq_true rfl) (Nat.le_of_ble_eq_true rfl) (by decide) (cq_X10_given hG89 (oa_af h2 hA91) (fun _ _ _ _ h => h)) rfl (fun _ h => nomatch h) (fun S94 hx97 hG98 hB99 hA100 => ?_)
        have rl101 := rel_af rl92 (oa_af h2 hA91) hB99
        have er102 := (hB99.2.2.2.1 (by decide)).2.trans er93
        have h6103 : hp_I S94 640 o2 = 1 := hx97.elim (fun h => absurd h.2.1 hr9) (fun h => h.1)
        refine tt_aload_n (j := 3) dL_law_363 rfl ?_
        refine gt_VIp (As := []) dL_law_364 ca_L_73 ⟨by decide, by decide⟩ h2 hA100 rfl (Nat.le_of_ble_eq_true rfl) (Nat.le_of_ble_eq_true rfl) (by decide) (cs_X10_thrown hG98 (oa_af h2 hA100) (fun _ _ _ _ h => h)) rfl (fun _ h => nomatch h) (fun _ _ q => q.1) (fun v105 hz106 hx107 => ?_)
        obtain rfl : v105 = 1 := (hx107.2 _ rfl).trans h6103
        refine tt_iload (j := 0) dL_law_367 rfl ?_
        refine tt_icmp_eq (tgt := 374) dL_law_369 rfl (fun _ => ?_) (fun q => absurd rfl q)
        refine tt_goto (tgt := 793) dL_law_374 rfl ?_
        exact tt_loc (ks := [1, 2, 3, 4, 5]) rfl (hJ S94 (k - 1) (n - 6) hG98 hA100 rl101 (by rw [er102]; omega) (by rw [er102]; omega))
    · skip
      refine tt_aload_n (j := 3) dL_law_377 rfl ?_
      refine tt_aload_n (j := 4) dL_law_378 rfl ?_
      refine tt_iload (j := 0) dL_law_379 rfl ?_
      refine tt_iconst (v := 1) dL_law_381 rfl ?_
      refine tt_iadd dL_law_382 ?_
      refine tt_sld (xi := (b, L, xs)) dL_law_383 (sc_in hx hL) ?_
      refine gt_SW (As := [.ref o1, .int (xs (x4 + 1).toNatClampNeg)]) dL_law_384 ca_L_76 ⟨by decide, by decide⟩ hA (Nat.le_of_ble_eq_true rfl) (Nat.le_of_ble_eq_true rfl) (by decide) (by omega) (by omega) (cw_L_any hG (oa_af h1 hA) (fun _ _ _ _ h => h)) (fun S111 z112 hz113 hG114 hB115 hA116 => ?_)
      have rl117 := rel_af hrel (oa_af h2 hA) hB115
      have er118 := (hB115.2.2.2.1 (by decide)).2.trans er0
      refine tt_istore (ks := [0, 1, 2, 3, 4, 5]) (L' := [(5, .int z112), (4, .int x4), (3, .ref o3), (2, .ref o2), (1, .ref o1), (0, .ref b)]) dL_law_387 (by decide) rfl ?_
      refine tt_aload_n (j := 3) dL_law_389 rfl ?_
      refine tt_aload_n (j := 5) dL_law_390 rfl ?_
      refine tt_iload (j := 1) dL_law_391 rfl ?_
      refine tt_iconst (v := 1) dL_law_393 rfl ?_
      refine tt_iadd dL_law_394 ?_
      refine tt_sld (xi := (b, L, xs)) dL_law_395 (sc_in hx hL) ?_
      refine gt_Vv (As := [.int (xs (x4 + 1).toNatClampNeg)]) dL_law_396 ca_L_79 ⟨by decide, by decide⟩ h2 hA116 rfl (Nat.le_of_ble_eq_true rfl) (Nat.le_of_ble_eq_true rfl) (by decide) (cs_X10_any hG114 (oa_af h2 hA116) (fun _ _ _ _ h => h)) rfl (fun _ h => nomatch h) (fun S119 hx122 hG123 hB124 hA125 => ?_)
      have rl126 := rel_af rl117 (oa_af h2 hA116) hB124
      have er127 := (hB124.2.2.2.1 (by decide)).2.trans er118
      refine tt_goto (tgt := 793) dL_law_399 rfl ?_
      exact tt_loc (ks := [1, 2, 3, 4, 5]) rfl (hJ S119 (k - 1) (n - 6) hG123 hA125 rl126 (by rw [er127]; omega) (by rw [er127]; omega))
    · skip
      refine tt_aload_n (j := 3) dL_law_402 rfl ?_
      refine tt_aload_n (j := 4) dL_law_403 rfl ?_
      refine tt_iload (j := 0) dL_law_404 rfl ?_
      refine tt_iconst (v := 1) dL_law_406 rfl ?_
      refine tt_iadd dL_law_407 ?_
      refine tt_sld (xi := (b, L, xs)) dL_law_408 (sc_in hx hL) ?_
      refine tt_aload_n (j := 4) dL_law_409 rfl ?_
      refine tt_iload (j := 0) dL_law_410 rfl ?_
      refine tt_iconst (v := 2) dL_law_412 rfl ?_
      refine tt_iadd dL_law_413 ?_
      refine tt_sld (xi := (b, L, xs)) dL_law_414 (sc_in hx hL) ?_
      refine tt_aload_n (j := 1) dL_law_415 rfl ?_
      refine gt_SW (As := [.ref o1, .int (xs (x4 + 1).toNatClampNeg), .int (xs (x4 + 2).toNatClampNeg), .ref o3]) dL_law_416 ca_L_80 ⟨by decide, by decide⟩ hA (Nat.le_of_ble_eq_true rfl) (Nat.le_of_ble_eq_true rfl) (by decide) (by omega) (by omega) (cw_L_decode hG (oa_af h1 hA) (oa_af h3 hA) (fun _ _ _ _ h => h)) (fun S128 z129 hz130 hG131 hB132 hA133 => ?_)
      have rl134 := rel_af hrel (oa_af h2 hA) hB132
      have er135 := (hB132.2.2.2.1 (by decide)).2.trans er0
      refine tt_istore (ks := [0, 1, 2, 3, 4, 5]) (L' := [(5, .int z129), (4, .int x4), (3, .ref o3), (2, .ref o2), (1, .ref o1), (0, .ref b)]) dL_law_419 (by decide) rfl ?_
      refine tt_aload_n (j := 3) dL_law_421 rfl ?_
      refine tt_aload_n (j := 5) dL_law_422 rfl ?_
      refine tt_iload (j := 1) dL_law_423 rfl ?_
      refine tt_iconst (v := 1) dL_law_425 rfl ?_
      refine tt_iadd dL_law_426 ?_
      refine tt_sld (xi := (b, L, xs)) dL_law_427 (sc_in hx hL) ?_
      refine tt_aload_n (j := 5) dL_law_428 rfl ?_
      refine tt_iload (j := 1) dL_law_429 rfl ?_
      refine tt_iconst (v := 2) dL_law_431 rfl ?_
      refine tt_iadd dL_law_432 ?_
      refine tt_sld (xi := (b, L, xs)) dL_law_433 (sc_in hx hL) ?_
      refine gt_VI (As := [.int (xs (x4 + 1).toNatClampNeg), .int (xs (x4 + 2).toNatClampNeg)]) dL_law_434 ca_L_83 ⟨by decide, by decide⟩ h2 hA133 rfl (Nat.le_of_ble_eq_true rfl) (Nat.le_of_ble_eq_true rfl) (by decide) (cs_X10_decode hG131 (oa_af h2 hA133) (fun _ _ _ _ h => h)) rfl (fun _ h => nomatch h) (fun S136 v137 hz138 hx139 hG140 hB141 hA142 => ?_)
      have rl143 := rel_af rl134 (oa_af h2 hA133) hB141
      have er144 := (hB141.2.2.2.1 (by decide)).2.trans er135
      refine tt_istore (ks := [0, 1, 2, 3, 4, 5, 6]) (L' := [(6, .int v137), (5, .int z129), (4, .int x4), (3, .ref o3), (2, .ref o2), (1, .ref o1), (0, .ref b)]) dL_law_437 (by decide) rfl ?_
      refine tt_goto (tgt := 793) dL_law_439 rfl ?_
      exact tt_loc (ks := [2, 3, 4, 5, 6]) rfl (hJ S136 (k - 1) (n - 6) hG140 hA142 rl143 (by rw [er144]; omega) (by rw [er144]; omega))
    · skip
      refine tt_aload_n (j := 3) dL_law_442 rfl ?_
      refine tt_aload_n (j := 4) dL_law_443 rfl ?_
      refine tt_iload (j := 0) dL_law_444 rfl ?_
      refine tt_iconst (v := 1) dL_law_446 rfl ?_
      refine tt_iadd dL_law_447 ?_
      refine tt_sld (xi := (b, L, xs)) dL_law_448 (sc_in hx hL) ?_
      refine tt_aload_n (j := 1) dL_law_449 rfl ?_
      refine gt_SW (As := [.ref o1, .int (xs (x4 + 1).toNatClampNeg), .ref o3]) dL_law_450 ca_L_84 ⟨by decide, by decide⟩ hA (Nat.le_of_ble_eq_true rfl) (Nat.le_of_ble_eq_true rfl) (by decide) (by omega) (by omega) (cw_L_constant hG (oa_af h1 hA) (oa_af h3 hA) (fun _ _ _ _ h => h)) (fun S145 z146 hz147 hG148 hB149 hA150 => ?_)
      have rl151 := rel_af hrel (oa_af h2 hA) hB149
      have er152 := (hB149.2.2.2.1 (by decide)).2.trans er0
      refine tt_istore (ks := [0, 1, 2, 3, 4, 5]) (L' := [(5, .int z146), (4, .int x4), (3, .ref o3), (2, .ref o2), (1, .ref o1), (0, .ref b)]) dL_law_453 (by decide) rfl ?_
      refine tt_aload_n (j := 3) dL_law_455 rfl ?_
      refine tt_aload_n (j := 5) dL_law_456 rfl ?_
      refine tt_iload (j := 1) dL_law_457 rfl ?_
      refine tt_iconst (v := 1) dL_law_459 rfl ?_
      refine tt_iadd dL_law_460 ?_
      refine tt_sld (xi := (b, L, xs)) dL_law_461 (sc_in hx hL) ?_
      refine gt_VJ (As := [.int (xs (x4 + 1).toNatClampNeg)]) dL_law_462 ca_L_87 ⟨by decide, by decide⟩ h2 hA150 rfl (Nat.le_of_ble_eq_true rfl) (Nat.le_of_ble_eq_true rfl) (by decide) (cs_X10_constant hG148 (oa_af h2 hA150) (fun _ _ _ _ h => h)) rfl (fun _ h => nomatch h) (fun S153 v154 hx156 hG157 hB158 hA159 => ?_)
      have rl160 := rel_af rl151 (oa_af h2 hA150) hB158
      have er161 := (hB158.2.2.2.1 (by decide)).2.trans er152
      refine tt_lstore (ks := [0, 1, 2, 3, 4, 5, 6]) (L' := [(6, .long v154), (5, .int z146), (4, .int x4), (3, .ref o3), (2, .ref o2), (1, .ref o1), (0, .ref b)]) dL_law_465 (by decide) rfl ?_
      refine tt_goto (tgt := 793) dL_law_467 rfl ?_
      exact tt_loc (ks := [2, 3, 4, 5, 6]) rfl (hJ S153 (k - 1) (n - 6) hG157 hA159 rl160 (by rw [er161]; omega) (by rw [er161]; omega))
    · skip
      refine tt_aload_n (j := 3) dL_law_470 rfl ?_
      refine gt_AI (pa := pa) (As := []) dL_law_471 ca_L_88 ⟨by decide, by decide⟩ h1 hA rfl (Nat.le_of_ble_eq_true rfl) (Nat.le_of_ble_eq_true rfl) (by decide) (cs_X9_look rfl hG (oa_af h1 hA) (pa_af hG h1 hA hpa) (by rw [er0]; omega) (by rw [er0]; omega) (fun _ _ _ _ h => h)) rfl (fun S162 v163 k169 n170 hz164 hG166 hB167 hA168 bd171 => ?_)
      have rl172 := rel_af hrel (oa_af h2 hA) hB167
      have er173 : hp_r S162 = hp_r S162 := rfl
      refine tt_pop dL_law_474 rfl ?_
      refine tt_aload_n (j := 2) dL_law_475 rfl ?_
      refine gt_VI (As := []) dL_law_476 ca_L_91 ⟨by decide, by decide⟩ h2 hA168 rfl (Nat.le_of_ble_eq_true rfl) (Nat.le_of_ble_eq_true rfl) (by decide) (cs_X10_look hG166 (oa_af h2 hA168) (fun _ _ _ _ h => h)) rfl (fun _ h => nomatch h) (fun S174 v175 hz176 hx177 hG178 hB179 hA180 => ?_)
      have rl181 := rel_af rl172 (oa_af h2 hA168) hB179
      have er182 := (hB179.2.2.2.1 (by decide)).2.trans er173
      refine tt_pop dL_law_479 rfl ?_
      refine tt_goto (tgt := 793) dL_law_480 rfl ?_
      exact tt_loc (ks := [0, 1, 2, 3, 4]) rfl (hJ S174 k169 n170 hG178 hA180 rl181 (by have q1 := bd171.1; have q2 := bd171.2; rw [er182]; omega) (by have q1 := bd171.1; have q2 := bd171.2; rw [er182]; omega))
    · skip
      refine tt_aload_n (j := 3) dL_law_483 rfl ?_
      refine tt_aload_n (j := 4) dL_law_484 rfl ?_
      refine tt_iload (j := 0) dL_law_485 rfl ?_
      refine tt_iconst (v := 1) dL_law_487 rfl ?_
      refine tt_iadd dL_law_488 ?_
      refine tt_sld (xi := (b, L, xs)) dL_law_489 (sc_in hx hL) ?_
      refine gt_VIp (As := [.int (xs (x4 + 1).toNatClampNeg)]) dL_law_490 ca_L_92 ⟨by decide, by decide⟩ h1 hA rfl (Nat.le_of_ble_eq_true rfl) (Nat.le_of_ble_eq_true rfl) (by decide) (cs_X9_reached hG (oa_af h1 hA) (fun _ _ _ _ h => h)) rfl (fun _ h => nomatch h) (fun _ _ q => q) (fun v184 hz185 hx186 => ?_)
      refine tt_pop dL_law_493 rfl ?_
      refine tt_aload_n (j := 2) dL_law_494 rfl ?_
      refine tt_aload_n (j := 4) dL_law_495 rfl ?_
      refine tt_iload (j := 0) dL_law_496 rfl ?_
      refine tt_iconst (v := 1) dL_law_498 rfl ?_
      refine tt_iadd dL_law_499 ?_
      refine tt_sld (xi := (b, L, xs)) dL_law_500 (sc_in hx hL) ?_
      refine gt_VI (As := [.int (xs (x4 + 1).toNatClampNeg)]) dL_law_501 ca_L_95 ⟨by decide, by decide⟩ h2 hA rfl (Nat.le_of_ble_eq_true rfl) (Nat.le_of_ble_eq_true rfl) (by decide) (cs_X10_reached hG (oa_af h2 hA) (fun _ _ _ _ h => h)) rfl (fun _ h => nomatch h) (fun S190 v191 hz192 hx193 hG194 hB195 hA196 => ?_)
      have rl197 := rel_af hrel (oa_af h2 hA) hB195
      have er198 := (hB195.2.2.2.1 (by decide)).2.trans er0
      refine tt_pop dL_law_504 rfl ?_
      refine tt_goto (tgt := 793) dL_law_505 rfl ?_
      exact tt_loc (ks := [0, 1, 2, 3, 4]) rfl (hJ S190 k n hG194 hA196 rl197 (by rw [er198]; omega) (by rw [er198]; omega))
    · skip
      refine tt_aload_n (j := 3) dL_law_508 rfl ?_
      refine tt_aload_n (j := 4) dL_law_509 rfl ?_
      refine tt_iload (j := 0) dL_law_510 rfl ?_
      refine tt_iconst (v := 1) dL_law_512 rfl ?_
      refine tt_iadd dL_law_513 ?_
      refine tt_sld (xi := (b, L, xs)) dL_law_514 (sc_in hx hL) ?_
      refine tt_aload_n (j := 4) dL_law_515 rfl ?_
      refine tt_iload (j := 0) dL_law_516 rfl ?_
      refine tt_iconst (v := 2) dL_law_518 rfl ?_
      refine tt_iadd dL_law_519 ?_
      refine tt_sld (xi := (b, L, xs)) dL_law_520 (sc_in hx hL) ?_
      refine tt_aload_n (j := 4) dL_law_521 rfl ?_
      refine tt_iload (j := 0) dL_law_522 rfl ?_
      refine tt_iconst (v := 3) dL_law_524 rfl ?_
      refine tt_iadd dL_law_525 ?_
      refine tt_sld (xi := (b, L, xs)) dL_law_526 (sc_in hx hL) ?_
      refine tt_aload_n (j := 1) dL_law_527 rfl ?_
      refine gt_SW (As := [.ref o1, .int (xs (x4 + 1).toNatClampNeg), .int (xs (x4 + 2).toNatClampNeg), .int (xs (x4 + 3).toNatClampNeg), .ref o3]) dL_law_528 ca_L_96 ⟨by decide, by decide⟩ hA (Nat.le_of_ble_eq_true rfl) (Nat.le_of_ble_eq_true rfl) (by decide) (by omega) (by omega) (cw_L_set hG (oa_af h1 hA) (oa_af h3 hA) (fun _ _ _ _ h => h)) (fun S199 z200 hz201 hG202 hB203 hA204 => ?_)
      have rl205 := rel_af hrel (oa_af h2 hA) hB203
      have er206 := (hB203.2.2.2.1 (by decide)).2.trans er0
      refine tt_istore (ks := [0, 1, 2, 3, 4, 5]) (L' := [(5, .int z200), (4, .int x4), (3, .ref o3), (2, .ref o2), (1, .ref o1), (0, .ref b)]) dL_law_531 (by decide) rfl ?_
      refine tt_aload_n (j := 3) dL_law_533 rfl ?_
      refine tt_aload_n (j := 5) dL_law_534 rfl ?_
      refine tt_iload (j := 1) dL_law_535 rfl ?_
      refine tt_iconst (v := 1) dL_law_537 rfl ?_
      refine tt_iadd dL_law_538 ?_
      refine tt_sld (xi := (b, L, xs)) dL_law_539 (sc_in hx hL) ?_
      refine tt_aload_n (j := 5) dL_law_540 rfl ?_
      refine tt_iload (j := 1) dL_law_541 rfl ?_
      refine tt_iconst (v := 2) dL_law_543 rfl ?_
      refine tt_iadd dL_law_544 ?_
      refine tt_sld (xi := (b, L, xs)) dL_law_545 (sc_in hx hL) ?_
      refine tt_aload_n (j := 5) dL_law_546 rfl ?_
      refine tt_iload (j := 1) dL_law_547 rfl ?_
      refine tt_iconst (v := 3) dL_law_549 rfl ?_
      refine tt_iadd dL_law_550 ?_
      refine tt_sld (xi := (b, L, xs)) dL_law_551 (sc_in hx hL) ?_
      refine gt_VJ (As := [.int (xs (x4 + 1).toNatClampNeg), .int (xs (x4 + 2).toNatClampNeg), .int (xs (x4 + 3).toNatClampNeg)]) dL_law_552 ca_L_99 ⟨by decide, by decide⟩ h2 hA204 rfl (Nat.le_of_ble_eq_true rfl) (Nat.le_of_ble_eq_true rfl) (by decide) (cs_X10_set hG202 (oa_af h2 hA204) (fun _ _ _ _ h => h)) rfl (fun _ h => nomatch h) (fun S207 v208 hx210 hG211 hB212 hA213 => ?_)
      have rl214 := rel_af rl205 (oa_af h2 hA204) hB212
      have er215 := (hB212.2.2.2.1 (by decide)).2.trans er206
      refine tt_lstore (ks := [0, 1, 2, 3, 4, 5, 6]) (L' := [(6, .long v208), (5, .int z200), (4, .int x4), (3, .ref o3), (2, .ref o2), (1, .ref o1), (0, .ref b)]) dL_law_555 (by decide) rfl ?_
      refine tt_goto (tgt := 793) dL_law_557 rfl ?_
      exact tt_loc (ks := [2, 3, 4, 5, 6]) rfl (hJ S207 (k - 1) (n - 6) hG211 hA213 rl214 (by rw [er215]; omega) (by rw [er215]; omega))
    · skip
      refine tt_aload_n (j := 3) dL_law_560 rfl ?_
      refine tt_aload_n (j := 4) dL_law_561 rfl ?_
      refine tt_iload (j := 0) dL_law_562 rfl ?_
      refine tt_iconst (v := 1) dL_law_564 rfl ?_
      refine tt_iadd dL_law_565 ?_
      refine tt_sld (xi := (b, L, xs)) dL_law_566 (sc_in hx hL) ?_
      refine tt_aload_n (j := 4) dL_law_567 rfl ?_
      refine tt_iload (j := 0) dL_law_568 rfl ?_
      refine tt_iconst (v := 2) dL_law_570 rfl ?_
      refine tt_iadd dL_law_571 ?_
      refine tt_sld (xi := (b, L, xs)) dL_law_572 (sc_in hx hL) ?_
      refine tt_aload_n (j := 4) dL_law_573 rfl ?_
      refine tt_iload (j := 0) dL_law_574 rfl ?_
      refine tt_iconst (v := 3) dL_law_576 rfl ?_
      refine tt_iadd dL_law_577 ?_
      refine tt_sld (xi := (b, L, xs)) dL_law_578 (sc_in hx hL) ?_
      refine tt_i2l dL_law_579 ?_
      refine tt_bipush (v := 32) dL_law_580 rfl ?_
      refine tt_lshl dL_law_582 ?_
      refine tt_aload_n (j := 4) dL_law_583 rfl ?_
      refine tt_iload (j := 0) dL_law_584 rfl ?_
      refine tt_iconst (v := 4) dL_law_586 rfl ?_
      refine tt_iadd dL_law_587 ?_
      refine tt_sld (xi := (b, L, xs)) dL_law_588 (sc_in hx hL) ?_
      refine tt_i2l dL_law_589 ?_
      refine tt_ldc2 (v := 4294967295) dL_law_590 kl_L_67 ?_
      refine tt_land dL_law_593 ?_
      refine tt_lor dL_law_594 ?_
      refine tt_aload_n (j := 1) dL_law_595 rfl ?_
      refine gt_SW (As := [.ref o1, .int (xs (x4 + 1).toNatClampNeg), .int (xs (x4 + 2).toNatClampNeg), .long ((((xs (x4 + 3).toNatClampNeg) : Int32).toInt64 <<< ((32 : Int32).toInt64 &&& 63)) ||| (((xs (x4 + 4).toNatClampNeg) : Int32).toInt64 &&& 4294967295)), .ref o3]) dL_law_596 ca_L_100 ⟨by decide, by decide⟩ hA (Nat.le_of_ble_eq_true rfl) (Nat.le_of_ble_eq_true rfl) (by decide) (by omega) (by omega) (cw_L_has hG (oa_af h1 hA) (oa_af h3 hA) (fun _ _ _ _ h => h)) (fun S216 z217 hz218 hG219 hB220 hA221 => ?_)
      have rl222 := rel_af hrel (oa_af h2 hA) hB220
      have er223 := (hB220.2.2.2.1 (by decide)).2.trans er0
      refine tt_istore (ks := [0, 1, 2, 3, 4, 5]) (L' := [(5, .int z217), (4, .int x4), (3, .ref o3), (2, .ref o2), (1, .ref o1), (0, .ref b)]) dL_law_599 (by decide) rfl ?_
      refine tt_aload_n (j := 3) dL_law_601 rfl ?_
      refine tt_aload_n (j := 5) dL_law_602 rfl ?_
      refine tt_iload (j := 1) dL_law_603 rfl ?_
      refine tt_iconst (v := 1) dL_law_605 rfl ?_
      refine tt_iadd dL_law_606 ?_
      refine tt_sld (xi := (b, L, xs)) dL_law_607 (sc_in hx hL) ?_
      refine tt_aload_n (j := 5) dL_law_608 rfl ?_
      refine tt_iload (j := 1) dL_law_609 rfl ?_
      refine tt_iconst (v := 2) dL_law_611 rfl ?_
      refine tt_iadd dL_law_612 ?_
      refine tt_sld (xi := (b, L, xs)) dL_law_613 (sc_in hx hL) ?_
      refine tt_aload_n (j := 5) dL_law_614 rfl ?_
      refine tt_iload (j := 1) dL_law_615 rfl ?_
      refine tt_iconst (v := 3) dL_law_617 rfl ?_
      refine tt_iadd dL_law_618 ?_
      refine tt_sld (xi := (b, L, xs)) dL_law_619 (sc_in hx hL) ?_
      refine tt_i2l dL_law_620 ?_
      refine tt_bipush (v := 32) dL_law_621 rfl ?_
      refine tt_lshl dL_law_623 ?_
      refine tt_aload_n (j := 5) dL_law_624 rfl ?_
      refine tt_iload (j := 1) dL_law_625 rfl ?_
      refine tt_iconst (v := 4) dL_law_627 rfl ?_
      refine tt_iadd dL_law_628 ?_
      refine tt_sld (xi := (b, L, xs)) dL_law_629 (sc_in hx hL) ?_
      refine tt_i2l dL_law_630 ?_
      refine tt_ldc2 (v := 4294967295) dL_law_631 kl_L_67 ?_
      refine tt_land dL_law_634 ?_
      refine tt_lor dL_law_635 ?_
      refine gt_VI (As := [.int (xs (x4 + 1).toNatClampNeg), .int (xs (x4 + 2).toNatClampNeg), .long ((((xs (x4 + 3).toNatClampNeg) : Int32).toInt64 <<< ((32 : Int32).toInt64 &&& 63)) ||| (((xs (x4 + 4).toNatClampNeg) : Int32).toInt64 &&& 4294967295))]) dL_law_636 ca_L_103 ⟨by decide, by decide⟩ h2 hA221 rfl (Nat.le_of_ble_eq_true rfl) (Nat.le_of_ble_eq_true rfl) (by decide) (cs_X10_has hG219 (oa_af h2 hA221) (fun _ _ _ _ h => h)) rfl (fun _ h => nomatch h) (fun S224 v225 hz226 hx227 hG228 hB229 hA230 => ?_)
      have rl231 := rel_af rl222 (oa_af h2 hA221) hB229
      have er232 := (hB229.2.2.2.1 (by decide)).2.trans er223
      refine tt_istore (ks := [0, 1, 2, 3, 4, 5, 6]) (L' := [(6, .int v225), (5, .int z217), (4, .int x4), (3, .ref o3), (2, .ref o2), (1, .ref o1), (0, .ref b)]) dL_law_639 (by decide) rfl ?_
      refine tt_goto (tgt := 793) dL_law_641 rfl ?_
      exact tt_loc (ks := [2, 3, 4, 5, 6]) rfl (hJ S224 (k - 1) (n - 6) hG228 hA230 rl231 (by rw [er232]; omega) (by rw [er232]; omega))
    · skip
      refine tt_aload_n (j := 3) dL_law_644 rfl ?_
      refine gt_Vv (As := []) dL_law_645 ca_L_104 ⟨by decide, by decide⟩ h1 hA rfl (Nat.le_of_ble_eq_true rfl) (Nat.le_of_ble_eq_true rfl) (by decide) (cs_X9_start hG (oa_af h1 hA) (fun _ _ _ _ h => h)) rfl (fun _ h => nomatch h) (fun S233 hx236 hG237 hB238 hA239 => ?_)
      have rl240 := rel_af hrel (oa_af h2 hA) hB238
      have er241 := (hB238.2.2.2.1 (by decide)).2.trans er0
      refine tt_aload_n (j := 2) dL_law_648 rfl ?_
      refine gt_Vv (As := []) dL_law_649 ca_L_107 ⟨by decide, by decide⟩ h2 hA239 rfl (Nat.le_of_ble_eq_true rfl) (Nat.le_of_ble_eq_true rfl) (by decide) (cs_X10_start hG237 (oa_af h2 hA239) (fun _ _ _ _ h => h)) rfl (fun _ h => nomatch h) (fun S242 hx245 hG246 hB247 hA248 => ?_)
      have rl249 := hx245 rl240
      have er250 := (hB247.2.2.2.1 (by decide)).2.trans er241
      refine tt_goto (tgt := 793) dL_law_652 rfl ?_
      exact tt_loc (ks := [0, 1, 2, 3, 4]) rfl (hJ S242 k n hG246 hA248 rl249 (by rw [er250]; omega) (by rw [er250]; omega))
    · skip
      refine tt_aload_n (j := 3) dL_law_655 rfl ?_
      refine tt_aload_n (j := 4) dL_law_656 rfl ?_
      refine tt_iload (j := 0) dL_law_657 rfl ?_
      refine tt_iconst (v := 1) dL_law_659 rfl ?_
      refine tt_iadd dL_law_660 ?_
      refine tt_sld (xi := (b, L, xs)) dL_law_661 (sc_in hx hL) ?_
      refine tt_aload_n (j := 4) dL_law_662 rfl ?_
      refine tt_iload (j := 0) dL_law_663 rfl ?_
      refine tt_iconst (v := 2) dL_law_665 rfl ?_
      refine tt_iadd dL_law_666 ?_
      refine tt_sld (xi := (b, L, xs)) dL_law_667 (sc_in hx hL) ?_
      refine tt_i2l dL_law_668 ?_
      refine tt_bipush (v := 32) dL_law_669 rfl ?_
      refine tt_lshl dL_law_671 ?_
      refine tt_aload_n (j := 4) dL_law_672 rfl ?_
      refine tt_iload (j := 0) dL_law_673 rfl ?_
      refine tt_iconst (v := 3) dL_law_675 rfl ?_
      refine tt_iadd dL_law_676 ?_
      refine tt_sld (xi := (b, L, xs)) dL_law_677 (sc_in hx hL) ?_
      refine tt_i2l dL_law_678 ?_
      refine tt_ldc2 (v := 4294967295) dL_law_679 kl_L_67 ?_
      refine tt_land dL_law_682 ?_
      refine tt_lor dL_law_683 ?_
      refine gt_SW (As := [.ref o1, .int (xs (x4 + 1).toNatClampNeg), .long ((((xs (x4 + 2).toNatClampNeg) : Int32).toInt64 <<< ((32 : Int32).toInt64 &&& 63)) ||| (((xs (x4 + 3).toNatClampNeg) : Int32).toInt64 &&& 4294967295))]) dL_law_684 ca_L_108 ⟨by decide, by decide⟩ hA (Nat.le_of_ble_eq_true rfl) (Nat.le_of_ble_eq_true rfl) (by decide) (by omega) (by omega) (cw_L_put hG (oa_af h1 hA) (fun _ _ _ _ h => h)) (fun S251 z252 hz253 hG254 hB255 hA256 => ?_)
      have rl257 := rel_af hrel (oa_af h2 hA) hB255
      have er258 := (hB255.2.2.2.1 (by decide)).2.trans er0
      refine tt_istore (ks := [0, 1, 2, 3, 4, 5]) (L' := [(5, .int z252), (4, .int x4), (3, .ref o3), (2, .ref o2), (1, .ref o1), (0, .ref b)]) dL_law_687 (by decide) rfl ?_
      refine tt_aload_n (j := 3) dL_law_689 rfl ?_
      refine tt_aload_n (j := 5) dL_law_690 rfl ?_
      refine tt_iload (j := 1) dL_law_691 rfl ?_
      refine tt_iconst (v := 1) dL_law_693 rfl ?_
      refine tt_iadd dL_law_694 ?_
      refine tt_sld (xi := (b, L, xs)) dL_law_695 (sc_in hx hL) ?_
      refine tt_aload_n (j := 5) dL_law_696 rfl ?_
      refine tt_iload (j := 1) dL_law_697 rfl ?_
      refine tt_iconst (v := 2) dL_law_699 rfl ?_
      refine tt_iadd dL_law_700 ?_
      refine tt_sld (xi := (b, L, xs)) dL_law_701 (sc_in hx hL) ?_
      refine tt_i2l dL_law_702 ?_
      refine tt_bipush (v := 32) dL_law_703 rfl ?_
      refine tt_lshl dL_law_705 ?_
      refine tt_aload_n (j := 5) dL_law_706 rfl ?_
      refine tt_iload (j := 1) dL_law_707 rfl ?_
      refine tt_iconst (v := 3) dL_law_709 rfl ?_
      refine tt_iadd dL_law_710 ?_
      refine tt_sld (xi := (b, L, xs)) dL_law_711 (sc_in hx hL) ?_
      refine tt_i2l dL_law_712 ?_
      refine tt_ldc2 (v := 4294967295) dL_law_713 kl_L_67 ?_
      refine tt_land dL_law_716 ?_
      refine tt_lor dL_law_717 ?_
      refine gt_Vv (As := [.int (xs (x4 + 1).toNatClampNeg), .long ((((xs (x4 + 2).toNatClampNeg) : Int32).toInt64 <<< ((32 : Int32).toInt64 &&& 63)) ||| (((xs (x4 + 3).toNatClampNeg) : Int32).toInt64 &&& 4294967295))]) dL_law_718 ca_L_111 ⟨by decide, by decide⟩ h2 hA256 rfl (Nat.le_of_ble_eq_true rfl) (Nat.le_of_ble_eq_true rfl) (by decide) (cs_X10_put hG254 (oa_af h2 hA256) (fun _ _ _ _ h => h)) rfl (fun _ h => nomatch h) (fun S259 hx262 hG263 hB264 hA265 => ?_)
      have rl266 := rel_af rl257 (oa_af h2 hA256) hB264
      have er267 := (hB264.2.2.2.1 (by decide)).2.trans er258
      refine tt_goto (tgt := 793) dL_law_721 rfl ?_
      exact tt_loc (ks := [1, 2, 3, 4, 5]) rfl (hJ S259 (k - 1) (n - 6) hG263 hA265 rl266 (by rw [er267]; omega) (by rw [er267]; omega))
    · skip
      refine tt_aload_n (j := 3) dL_law_724 rfl ?_
      refine tt_aload_n (j := 4) dL_law_725 rfl ?_
      refine tt_iload (j := 0) dL_law_726 rfl ?_
      refine tt_iconst (v := 1) dL_law_728 rfl ?_
      refine tt_iadd dL_law_729 ?_
      refine tt_sld (xi := (b, L, xs)) dL_law_730 (sc_in hx hL) ?_
      refine tt_aload_n (j := 1) dL_law_731 rfl ?_
      refine gt_SW (As := [.ref o1, .int (xs (x4 + 1).toNatClampNeg), .ref o3]) dL_law_732 ca_L_112 ⟨by decide, by decide⟩ hA (Nat.le_of_ble_eq_true rfl) (Nat.le_of_ble_eq_true rfl) (by decide) (by omega) (by omega) (cw_L_go hG (oa_af h1 hA) (oa_af h3 hA) (fun _ _ _ _ h => h)) (fun S268 z269 hz270 hG271 hB272 hA273 => ?_)
      have rl274 := rel_af hrel (oa_af h2 hA) hB272
      have er275 := (hB272.2.2.2.1 (by decide)).2.trans er0
      refine tt_istore (ks := [0, 1, 2, 3, 4, 5]) (L' := [(5, .int z269), (4, .int x4), (3, .ref o3), (2, .ref o2), (1, .ref o1), (0, .ref b)]) dL_law_735 (by decide) rfl ?_
      refine tt_aload_n (j := 3) dL_law_737 rfl ?_
      refine tt_aload_n (j := 5) dL_law_738 rfl ?_
      refine tt_iload (j := 1) dL_law_739 rfl ?_
      refine tt_iconst (v := 1) dL_law_741 rfl ?_
      refine tt_iadd dL_law_742 ?_
      refine tt_sld (xi := (b, L, xs)) dL_law_743 (sc_in hx hL) ?_
      refine gt_VI (As := [.int (xs (x4 + 1).toNatClampNeg)]) dL_law_744 ca_L_114 ⟨by decide, by decide⟩ h2 hA273 rfl (Nat.le_of_ble_eq_true rfl) (Nat.le_of_ble_eq_true rfl) (by decide) (cs_X10_go hG271 (oa_af h2 hA273) rl274 (fun _ _ _ _ h => h)) rfl (fun _ h => nomatch h) (fun S276 v277 hz278 hx279 hG280 hB281 hA282 => ?_)
      have rl283 := rel_go rl274 (oa_af h2 hA273) hB281
      have er284 := (hB281.2.2.2.1 (by decide)).2.trans er275
      refine tt_istore (ks := [0, 1, 2, 3, 4, 5, 6]) (L' := [(6, .int v277), (5, .int z269), (4, .int x4), (3, .ref o3), (2, .ref o2), (1, .ref o1), (0, .ref b)]) dL_law_747 (by decide) rfl ?_
      refine tt_goto (tgt := 793) dL_law_749 rfl ?_
      exact tt_loc (ks := [2, 3, 4, 5, 6]) rfl (hJ S276 (k - 1) (n - 6) hG280 hA282 rl283 (by rw [er284]; omega) (by rw [er284]; omega))
    · skip
      refine tt_aload_n (j := 3) dL_law_752 rfl ?_
      refine gt_VIp (As := []) dL_law_753 ca_L_115 ⟨by decide, by decide⟩ h1 hA rfl (Nat.le_of_ble_eq_true rfl) (Nat.le_of_ble_eq_true rfl) (by decide) (cs_X9_at hG (oa_af h1 hA) (fun _ _ _ _ h => h)) rfl (fun _ h => nomatch h) (fun _ _ q => q) (fun v286 hz287 hx288 => ?_)
      refine tt_pop dL_law_756 rfl ?_
      refine tt_aload_n (j := 2) dL_law_757 rfl ?_
      refine gt_VI (As := []) dL_law_758 ca_L_118 ⟨by decide, by decide⟩ h2 hA rfl (Nat.le_of_ble_eq_true rfl) (Nat.le_of_ble_eq_true rfl) (by decide) (cs_X10_at hG (oa_af h2 hA) (fun _ _ _ _ h => h)) rfl (fun _ h => nomatch h) (fun S292 v293 hz294 hx295 hG296 hB297 hA298 => ?_)
      have rl299 := rel_af hrel (oa_af h2 hA) hB297
      have er300 := (hB297.2.2.2.1 (by decide)).2.trans er0
      refine tt_pop dL_law_761 rfl ?_
      refine tt_goto (tgt := 793) dL_law_762 rfl ?_
      exact tt_loc (ks := [0, 1, 2, 3, 4]) rfl (hJ S292 k n hG296 hA298 rl299 (by rw [er300]; omega) (by rw [er300]; omega))
    · skip
      refine tt_aload_n (j := 3) dL_law_765 rfl ?_
      refine tt_aload_n (j := 4) dL_law_766 rfl ?_
      refine tt_iload (j := 0) dL_law_767 rfl ?_
      refine tt_iconst (v := 1) dL_law_769 rfl ?_
      refine tt_iadd dL_law_770 ?_
      refine tt_sld (xi := (b, L, xs)) dL_law_771 (sc_in hx hL) ?_
      refine tt_aload_n (j := 1) dL_law_772 rfl ?_
      refine gt_SW (As := [.ref o1, .int (xs (x4 + 1).toNatClampNeg), .ref o3]) dL_law_773 ca_L_119 ⟨by decide, by decide⟩ hA (Nat.le_of_ble_eq_true rfl) (Nat.le_of_ble_eq_true rfl) (by decide) (by omega) (by omega) (cw_L_value hG (oa_af h1 hA) (oa_af h3 hA) (fun _ _ _ _ h => h)) (fun S301 z302 hz303 hG304 hB305 hA306 => ?_)
      have rl307 := rel_af hrel (oa_af h2 hA) hB305
      have er308 := (hB305.2.2.2.1 (by decide)).2.trans er0
      refine tt_istore (ks := [0, 1, 2, 3, 4, 5]) (L' := [(5, .int z302), (4, .int x4), (3, .ref o3), (2, .ref o2), (1, .ref o1), (0, .ref b)]) dL_law_776 (by decide) rfl ?_
      refine tt_aload_n (j := 3) dL_law_778 rfl ?_
      refine tt_aload_n (j := 5) dL_law_779 rfl ?_
      refine tt_iload (j := 1) dL_law_780 rfl ?_
      refine tt_iconst (v := 1) dL_law_782 rfl ?_
      refine tt_iadd dL_law_783 ?_
      refine tt_sld (xi := (b, L, xs)) dL_law_784 (sc_in hx hL) ?_
      refine gt_VJ (As := [.int (xs (x4 + 1).toNatClampNeg)]) dL_law_785 ca_L_121 ⟨by decide, by decide⟩ h2 hA306 rfl (Nat.le_of_ble_eq_true rfl) (Nat.le_of_ble_eq_true rfl) (by decide) (cs_X10_value hG304 (oa_af h2 hA306) (fun _ _ _ _ h => h)) rfl (fun _ h => nomatch h) (fun S309 v310 hx312 hG313 hB314 hA315 => ?_)
      have rl316 := rel_af rl307 (oa_af h2 hA306) hB314
      have er317 := (hB314.2.2.2.1 (by decide)).2.trans er308
      refine tt_lstore (ks := [0, 1, 2, 3, 4, 5, 6]) (L' := [(6, .long v310), (5, .int z302), (4, .int x4), (3, .ref o3), (2, .ref o2), (1, .ref o1), (0, .ref b)]) dL_law_788 (by decide) rfl ?_
      refine tt_goto (tgt := 793) dL_law_790 rfl ?_
      exact tt_loc (ks := [2, 3, 4, 5, 6]) rfl (hJ S309 (k - 1) (n - 6) hG313 hA315 rl316 (by rw [er317]; omega) (by rw [er317]; omega))
    · skip
      exact tt_loc (ks := [0, 1, 2, 3, 4]) rfl (hJ S k n hG hA hrel (by rw [er0]; omega) (by rw [er0]; omega))
set_option maxHeartbeats 4000000 in
theorem law_true {b L : Nat} {xs : Nat → Int32} (hL : L ≤ 4096) : TT (b, L, xs) M_law 0 [(0, .ref b)] [] S_0 601024 7293034 PL := by
  have hG0 : GI S_0 [] := fun a ha => nomatch ha
  refine tt_newo (k1 := 601023) (n1 := 7293029) dL_law_0 nl_L_8 (by decide) (by decide) (fun a1 ha1 => ?_)
  refine tt_dup dL_law_3 rfl ?_
  refine tt_callI (As := []) (Mid := fun r T _ _ => r = .inl none ∧ GI T [] ∧ Oa T [] 9 0 a1) (k1 := 26) (n1 := 670) (k2 := 600997) (n2 := 7292359) dL_law_4 ca_L_52 ⟨by decide, by decide⟩ (Nat.le_of_ble_eq_true rfl) (Nat.le_of_ble_eq_true rfl) (by decide) (by decide) (cc_9 (gi_o hG0 ha1) in_o (fun q h => nomatch h) (fun h => nomatch h) k_o zf_o (kc := 26) (nc := 670) (by decide) (by decide) (fun T u1 u2 u3 u4 => ⟨rfl, u1, u2⟩)) (fun v T1 x y hw => ?_) (fun X T hw => by obtain ⟨e, -⟩ := hw; cases e)
  obtain ⟨e1, g1, g2⟩ := hw
  cases e1
  show TT (b, L, xs) M_law 7 [(0, .ref b)] [.ref a1] T1 600997 7292359 PL
  refine tt_astore_n (ks := [0, 1]) (L' := [(1, .ref a1), (0, .ref b)]) dL_law_7 (by decide) rfl ?_
  refine tt_newo (k1 := 600996) (n1 := 7292322) dL_law_8 nl_L_53 (by decide) (by decide) (fun a2 ha2 => ?_)
  refine tt_dup dL_law_11 rfl ?_
  refine tt_callI (As := []) (Mid := fun r T _ _ => r = .inl none ∧ GI T [] ∧ Oa T [] 10 0 a2 ∧ Cf a2 (nw_o T1 10 a2) T ∧ hp_I T 663 a2 = 0) (k1 := 13) (n1 := 21218) (k2 := 600983) (n2 := 7271104) dL_law_12 ca_L_55 ⟨by decide, by decide⟩ (Nat.le_of_ble_eq_true rfl) (Nat.le_of_ble_eq_true rfl) (by decide) (by decide) (cc_10 (gi_o g1 ha2) in_o (fun q h => nomatch h) (fun h => nomatch h) k_o zf_o (kc := 13) (nc := 21218) (by decide) (by decide) (fun T u1 u2 u3 u4 u5 => ⟨rfl, u1, u2, u3, u5⟩)) (fun v T2 x y hw => ?_) (fun X T hw => by obtain ⟨e, -⟩ := hw; cases e)
  obtain ⟨e2, g3, g4, g5, g6⟩ := hw
  cases e2
  have cn2 := cn_new ha2 g5
  show TT (b, L, xs) M_law 15 [(1, .ref a1), (0, .ref b)] [.ref a2] T2 600983 7271104 PL
  refine tt_astore_n (ks := [0, 1, 2]) (L' := [(2, .ref a2), (1, .ref a1), (0, .ref b)]) dL_law_15 (by decide) rfl ?_
  refine tt_iconst (v := 1) dL_law_16 rfl ?_
  refine gn_J (k1 := 600982) (n1 := 7271103) dL_law_17 ka_long (by decide) (len := 1) rfl (by decide) (by decide) (by decide) g3 (fun q h => nomatch h) (fun a3 T3 g7 cn3 g8 => ?_)
  refine tt_astore_n (ks := [0, 1, 2, 3]) (L' := [(3, .ref a3), (2, .ref a2), (1, .ref a1), (0, .ref b)]) dL_law_19 (by decide) rfl ?_
  refine tt_iconst (v := 0) dL_law_20 rfl ?_
  refine tt_istore (ks := [0, 1, 2, 3, 4]) (L' := [(4, .int 0), (3, .ref a3), (2, .ref a2), (1, .ref a1), (0, .ref b)]) dL_law_21 (by decide) rfl ?_
  have ox := oa_cn (oa_cn g2 cn2) cn3
  have om := oa_cn g4 cn3
  obtain ⟨l1, r1, p1⟩ := gi_R (k := 579) g7 ox 4 0
  obtain ⟨pa, r2, p2⟩ := gi_R (k := 258) g7 p1 35 200
  have hn := nl_le (hp_r T3 pa)
  have e0 : (4104 - (0 : Int32).toInt).toNat = 4104 := rfl
  exact law_loop hL _ 0 T3 _ _ rfl ⟨by decide, by decide⟩ g7 ox om g8 (fun q => absurd (((cn3.2.1 a2 g4.1).2 663).trans g6) q) (pa := pa) (by rw [r1]; exact r2) (by rw [e0]; omega) (by rw [e0]; omega)
