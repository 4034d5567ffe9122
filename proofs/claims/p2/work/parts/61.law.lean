section LWH
variable {xi : SX} {M N : MD} {pc : Nat} {L : List (Nat × Value)} {rest As : List Value} {S S0 T : Hp} {i k0 n0 : Nat} {P : Po} {E ws vs : List Nat} {cz : Int32 → Prop}
theorem gt_SW (h : decode (md_c M) pc = .ok (.invokestatic i, 3)) (hcv : CTW (md_y M).cls i N As.length) (hrm : RM M N) (hA : Af E ws S0 S) (hlen : (lg_sl As).length ≤ md_L N) (hr8 : (rest.map fun v => v.category).sum ≤ 8) (hs : ∀ k ∈ vs, k ∈ ws) (hk : 1 ≤ k0) (hn : 6 ≤ n0) (kx : TT xi N 0 (lv_args 0 As) [] S 1 6 (PW E vs S cz)) (kk : ∀ (T : Hp) (z : Int32), cz z → GI T E → Af E vs S T → Af E ws S0 T → TT xi M (pc + 3) L (.int z :: rest) T (k0 - 1) (n0 - 6) P) : TT xi M pc L (As.reverse ++ rest) S k0 n0 P := by
  refine tt_callSW (k1 := 1) (n1 := 6) (k2 := k0 - 1) (n2 := n0 - 6) h hcv hrm hlen hr8 (by omega) (by omega) kx (fun v T x y hw => ?_) (fun X T hw => ?_)
  · obtain ⟨g1, g2, z, e, hz⟩ := hw
    cases e
    exact kk T z hz g1 g2 (af_tr hA g2 hs)
  · obtain ⟨g1, g2, z, e, hz⟩ := hw
    cases e
theorem gt_SX {cx : Int32 → Hp → Prop} (h : decode (md_c M) pc = .ok (.invokestatic i, 3)) (hcv : CTW (md_y M).cls i N As.length) (hrm : RM M N) (hA : Af E ws S0 S) (hlen : (lg_sl As).length ≤ md_L N) (hr8 : (rest.map fun v => v.category).sum ≤ 8) (hs : ∀ k ∈ vs, k ∈ ws) (hk : 1 ≤ k0) (hn : 6 ≤ n0) (kx : TT xi N 0 (lv_args 0 As) [] S 1 6 (PX E vs S cx)) (kk : ∀ (T : Hp) (z : Int32), cx z T → GI T E → Af E vs S T → Af E ws S0 T → TT xi M (pc + 3) L (.int z :: rest) T (k0 - 1) (n0 - 6) P) : TT xi M pc L (As.reverse ++ rest) S k0 n0 P := by
  refine tt_callSW (k1 := 1) (n1 := 6) (k2 := k0 - 1) (n2 := n0 - 6) h hcv hrm hlen hr8 (by omega) (by omega) kx (fun v T x y hw => ?_) (fun X T hw => ?_)
  · obtain ⟨g1, g2, z, e, hz⟩ := hw
    cases e
    exact kk T z hz g1 g2 (af_tr hA g2 hs)
  · obtain ⟨g1, g2, z, e, hz⟩ := hw
    cases e
theorem cn_af {c o kd n kd2 n2 : Nat} (h : hp_I S 65 c = hp_I S 642 o) (oc : Oa S E kd n c) (om : Oa S E kd2 n2 o) (hB : Af E vs S T) (h1 : 65 ∉ vs := by decide) (h2 : 642 ∉ vs := by decide) : hp_I T 65 c = hp_I T 642 o := (i_af oc hB h1).trans (h.trans (i_af om hB h2).symm)
abbrev Fx (t b1 b2 n : Int32) : Prop := (t = 1 ∧ ¬ Rg 0 16 n ∧ b2 = b1) ∨ (t = 2 ∧ Rg 0 16 n ∧ 200 < b1.toInt + n.toInt ∧ b2 = b1) ∨ (t = 0 ∧ Rg 0 16 n ∧ b1.toInt + n.toInt ≤ 200 ∧ b2.toInt = b1.toInt + n.toInt)
theorem fc_o {t a0 a1 a2 b0 b1 b2 n : Int32} (hc : a0 = b0) (hs : a0.toInt + n.toInt ≤ 200) (hr : Rg 0 16 n) (fo : a1.toInt = a0.toInt + n.toInt) (s2 : b1 = b0) (ea : a2 = a1) (hx : Fx t b1 b2 n) : a2 = b2 ∧ t = 0 := by
  subst hc s2 ea
  rcases hx with ⟨-, h, -⟩ | ⟨-, -, h, -⟩ | ⟨h1, -, -, h⟩
  · exact absurd hr h
  · omega
  · exact ⟨Int32.toInt_inj.mp (by omega), h1⟩
theorem fc_k {t a0 a1 a2 b1 b2 n : Int32} (hc : a1 = b1) (e1 : a1 = a0) (hs : ¬ a0.toInt + n.toInt ≤ 200) (hr : Rg 0 16 n) (ea : a2 = a1) (hx : Fx t b1 b2 n) : a2 = b2 ∧ t = 2 := by
  subst hc e1 ea
  rcases hx with ⟨-, h, -⟩ | ⟨h1, -, -, h⟩ | ⟨-, -, h, -⟩
  · exact absurd hr h
  · exact ⟨h.symm, h1⟩
  · exact absurd h hs
theorem fc_n {t a1 a2 b1 b2 n : Int32} (hc : a1 = b1) (hr : ¬ Rg 0 16 n) (ea : a2 = a1) (hx : Fx t b1 b2 n) : a2 = b2 ∧ t = 1 := by
  subst hc ea
  rcases hx with ⟨h1, -, h⟩ | ⟨-, h, -⟩ | ⟨-, h, -⟩
  · exact ⟨h.symm, h1⟩
  · exact absurd h hr
  · exact absurd h hr
abbrev Rel (S : Hp) (o : Nat) : Prop := ¬ hp_I S 663 o = 0 → ¬ hp_I S 664 o = -1
theorem rel_af {o kd n : Nat} (h : Rel S o) (ho : Oa S E kd n o) (hA : Af E vs S T) (h1 : 663 ∉ vs := by decide) (h2 : 664 ∉ vs := by decide) : Rel T o := by
  unfold Rel
  rw [i_af ho hA h1, i_af ho hA h2]
  exact h
theorem rel_go {o kd n : Nat} (h : Rel S o) (ho : Oa S E kd n o) (hA : Af E vs S T) (h1 : 663 ∉ vs := by decide) (h2 : 9997 ∉ vs := by decide) : Rel T o := by
  intro q
  rw [i_af ho hA h1] at q
  exact he_af ho hA (h q) h2
theorem pa_af {o n pa : Nat} (hG : GI S E) (ho : Oa S E 9 n o) (hA : Af E ws S T) (h : (hp_R S 579 o).bind (fun q => hp_R S 258 q) = some pa) : (hp_R T 579 o).bind (fun q => hp_R T 258 q) = some pa := by
  obtain ⟨b, h1, h2⟩ := gi_R (k := 579) hG ho 4 0
  rw [r_af ho hA h1]
  rw [h1] at h
  exact (r_af h2 hA rfl).trans h
end LWH
theorem lw_in {L : Nat} {x : Int32} (hL : L ≤ 4096) (hx : Rg 0 4104 x) (h : ¬ Int32.ofNat L - 8 < x) : 0 ≤ x.toInt ∧ x.toInt + 8 ≤ (L : Int) := by
  obtain ⟨x1, x2⟩ := hx
  rw [Int32.lt_iff_toInt_lt] at h
  have e1 : (Int32.ofNat L).toInt = (L : Int) := by
    rw [Int32.toInt_ofNat_of_lt (by omega)]
  have e2 : (Int32.ofNat L - 8).toInt = (L : Int) - 8 := by
    rw [Int32.toInt_sub, e1, show (8 : Int32).toInt = 8 from rfl, bmod_in (by omega) (by omega)]
  rw [e2] at h
  omega
theorem sc_in {L : Nat} {x j : Int32} (h : 0 ≤ x.toInt ∧ x.toInt + 8 ≤ (L : Int)) (hL : L ≤ 4096) (h1 : 0 ≤ j.toInt := by decide) (h2 : j.toInt ≤ 7 := by decide) : vp_in (x + j) L := by
  obtain ⟨x1, x2⟩ := h
  have e : (x + j).toInt = x.toInt + j.toInt := by rw [Int32.toInt_add, bmod_in (by omega) (by omega)]
  intro q
  rcases q with q | q
  · have := Int32.lt_iff_toInt_lt.mp q
    have e0 : (0 : Int32).toInt = 0 := rfl
    omega
  · have e2 : (x + j).toNatClampNeg = (x + j).toInt.toNat := rfl
    omega
theorem sc_0 {L : Nat} {x : Int32} (h : 0 ≤ x.toInt ∧ x.toInt + 8 ≤ (L : Int)) : vp_in x L := by
  obtain ⟨x1, x2⟩ := h
  intro q
  rcases q with q | q
  · have := Int32.lt_iff_toInt_lt.mp q
    have e0 : (0 : Int32).toInt = 0 := rfl
    omega
  · have e2 : x.toNatClampNeg = x.toInt.toNat := rfl
    omega
theorem lw_up {L : Nat} {x : Int32} (h : 0 ≤ x.toInt ∧ x.toInt + 8 ≤ (L : Int)) (hL : L ≤ 4096) : (x + 8).toInt = x.toInt + 8 := by
  rw [Int32.toInt_add, show (8 : Int32).toInt = 8 from rfl, bmod_in (by omega) (by omega)]
abbrev PL : Po := fun r _ _ _ => r = .inl (some (.int 1))
set_option maxHeartbeats 8000000 in
theorem law_loop {b L : Nat} {xs : Nat → Int32} (hL : L ≤ 4096) {o1 o2 o3 pa c1 : Nat} : ∀ (nn : Nat) (x4 : Int32) (S : Hp) (k n : Nat), (4104 - x4.toInt).toNat = nn → Rg 0 4104 x4 → GI S [] → Oa S [] 9 0 o1 → Oa S [] 10 0 o2 → Oa S [] 33 1 o3 → Rel S o2 → (hp_R S 579 o1).bind (fun q => hp_R S 258 q) = some pa → hp_R S 576 o1 = some c1 → Oa S [] 1 0 c1 → hp_I S 65 c1 = hp_I S 642 o2 → 5 * nl (hp_r S pa) + (4104 - x4.toInt).toNat ≤ k → 82 * nl (hp_r S pa) + 6 * (4104 - x4.toInt).toNat ≤ n → TT (b, L, xs) M_law 23 [(4, .int x4), (3, .ref o3), (2, .ref o2), (1, .ref o1), (0, .ref b)] [] S k n PL := by
  intro nn
  induction nn using Nat.strongRecOn with
  | ind nn ih =>
    intro x4 S k n hm hx4 hG h1 h2 h3 hrel hpa hrc hc1 hcn hkb hnb
    subst hm
    have hA : Af [] [65, 193, 194, 195, 196, 197, 198, 199, 200, 201, 202, 203, 204, 321, 322, 388, 389, 390, 391, 392, 393, 515, 516, 517, 640, 642, 653, 654, 655, 656, 657, 658, 659, 661, 662, 663, 664, 667, 668, 669, 670, 671, 672, 673, 674, 675, 676, 9996, 9997, 9998, 9999] S S := af_rf
    have er0 : hp_r S = hp_r S := rfl
    refine tt_iload (j := 0) dL_law_23 rfl ?_
    refine tt_aload_n (j := 4) dL_law_25 rfl ?_
    refine tt_slen (xi := (b, L, xs)) dL_law_26 ?_
    refine tt_bipush (v := 8) dL_law_27 rfl ?_
    refine tt_isub dL_law_29 ?_
    refine tt_icmp_gt (tgt := 816) dL_law_30 rfl (fun q => ?_) (fun q => ?_)
    · refine tt_iconst (v := 1) dL_law_816 rfl ?_
      exact tt_ireturn dL_law_817 .boolean rfl rfl rfl
    have hx := lw_in hL hx4 q
    have hm1 : 8 ≤ (4104 - x4.toInt).toNat := by omega
    have hJ : ∀ (T : Hp) (k9 n9 : Nat), GI T [] → Af [] [65, 193, 194, 195, 196, 197, 198, 199, 200, 201, 202, 203, 204, 321, 322, 388, 389, 390, 391, 392, 393, 515, 516, 517, 640, 642, 653, 654, 655, 656, 657, 658, 659, 661, 662, 663, 664, 667, 668, 669, 670, 671, 672, 673, 674, 675, 676, 9996, 9997, 9998, 9999] S T → Rel T o2 → hp_I T 65 c1 = hp_I T 642 o2 → 5 * nl (hp_r T pa) + (4104 - x4.toInt).toNat ≤ k9 + 1 → 82 * nl (hp_r T pa) + 6 * (4104 - x4.toInt).toNat ≤ n9 + 6 → TT (b, L, xs) M_law 810 [(4, .int x4), (3, .ref o3), (2, .ref o2), (1, .ref o1), (0, .ref b)] [] T k9 n9 PL := by
      intro T k9 n9 g1 g2 g3 g6 g4 g5
      have e8 := lw_up hx hL
      refine tt_iinc (j := 0) (v := (x4 + 8)) (ks := [0, 1, 2, 3, 4]) (L' := [(4, .int (x4 + 8)), (3, .ref o3), (2, .ref o2), (1, .ref o1), (0, .ref b)]) dL_law_810 rfl rfl (by decide) rfl ?_
      refine tt_goto (tgt := 23) dL_law_813 rfl ?_
      exact ih _ (by rw [e8]; omega) (x4 + 8) T k9 n9 rfl ⟨by rw [e8]; omega, by rw [e8]; omega⟩ g1 (oa_af h1 g2) (oa_af h2 g2) (oa_af h3 g2) g3 (pa_af hG h1 g2 hpa) (r_af h1 g2 hrc) (oa_af hc1 g2) g6 (by rw [e8]; omega) (by rw [e8]; omega)
    refine tt_aload_n (j := 4) dL_law_33 rfl ?_
    refine tt_iload (j := 0) dL_law_34 rfl ?_
    refine tt_sld (xi := (b, L, xs)) dL_law_36 (sc_0 hx) ?_
    refine tt_bipush (v := 15) dL_law_37 rfl ?_
    refine tt_iand dL_law_39 ?_
    refine gt_ts [116, 220, 233, 394, 419, 459, 487, 500, 525, 577, 661, 672, 741, 769, 782, 810] dL_law_40 (by decide) (by decide) (fa_cons ?_ (fa_cons ?_ (fa_cons ?_ (fa_cons ?_ (fa_cons ?_ (fa_cons ?_ (fa_cons ?_ (fa_cons ?_ (fa_cons ?_ (fa_cons ?_ (fa_cons ?_ (fa_cons ?_ (fa_cons ?_ (fa_cons ?_ (fa_cons ?_ (fa_cons ?_ fa_nil))))))))))))))))
    · skip
      refine tt_aload_n (j := 3) dL_law_116 rfl ?_
      refine tt_aload_n (j := 4) dL_law_117 rfl ?_
      refine tt_iload (j := 0) dL_law_118 rfl ?_
      refine tt_iconst (v := 1) dL_law_120 rfl ?_
      refine tt_iadd dL_law_121 ?_
      refine tt_sld (xi := (b, L, xs)) dL_law_122 (sc_in hx hL) ?_
      refine tt_aload_n (j := 4) dL_law_123 rfl ?_
      refine tt_iload (j := 0) dL_law_124 rfl ?_
      refine tt_iconst (v := 2) dL_law_126 rfl ?_
      refine tt_iadd dL_law_127 ?_
      refine tt_sld (xi := (b, L, xs)) dL_law_128 (sc_in hx hL) ?_
      refine tt_aload_n (j := 4) dL_law_129 rfl ?_
      refine tt_iload (j := 0) dL_law_130 rfl ?_
      refine tt_iconst (v := 3) dL_law_132 rfl ?_
      refine tt_iadd dL_law_133 ?_
      refine tt_sld (xi := (b, L, xs)) dL_law_134 (sc_in hx hL) ?_
      refine tt_aload_n (j := 4) dL_law_135 rfl ?_
      refine tt_iload (j := 0) dL_law_136 rfl ?_
      refine tt_iconst (v := 4) dL_law_138 rfl ?_
      refine tt_iadd dL_law_139 ?_
      refine tt_sld (xi := (b, L, xs)) dL_law_140 (sc_in hx hL) ?_
      refine tt_aload_n (j := 4) dL_law_141 rfl ?_
      refine tt_iload (j := 0) dL_law_142 rfl ?_
      refine tt_iconst (v := 5) dL_law_144 rfl ?_
      refine tt_iadd dL_law_145 ?_
      refine tt_sld (xi := (b, L, xs)) dL_law_146 (sc_in hx hL) ?_
      refine tt_aload_n (j := 1) dL_law_147 rfl ?_
      by_cases hr9 : Rg 0 16 (xs (x4 + 1).toNatClampNeg)
      · by_cases hs9 : (hp_I S 65 c1).toInt + (xs (x4 + 1).toNatClampNeg).toInt ≤ 200
        · skip
          refine gt_SX (As := [.ref o1, .int (xs (x4 + 1).toNatClampNeg), .int (xs (x4 + 2).toNatClampNeg), .int (xs (x4 + 3).toNatClampNeg), .int (xs (x4 + 4).toNatClampNeg), .int (xs (x4 + 5).toNatClampNeg), .ref o3]) dL_law_148 ca_L_56 ⟨by decide, by decide⟩ hA (Nat.le_of_ble_eq_true rfl) (Nat.le_of_ble_eq_true rfl) (by decide) (by omega) (by omega) (cwo_L_feed hG (oa_af h1 hA) hr9 (oa_af h3 hA) (fun c hc => by obtain rfl : c1 = c := Option.some.inj ((r_af h1 hA hrc).symm.trans hc); exact hs9) (fun _ _ _ _ h => h)) (fun S1 z2 hz3 hG4 hB5 hA6 => ?_)
          have rl7 := rel_af hrel (oa_af h2 hA) hB5
          have er8 := (hB5.2.2.2.1 (by decide)).2.trans er0
          obtain ⟨hz3, hz9⟩ := hz3
          obtain ⟨fo10, fj12⟩ := hz9 c1 (r_af h1 hA hrc)
          have s211 := i_af (k := 642) (oa_af h2 hA) hB5
          obtain rfl : z2 = 0 := hz3
          refine tt_istore (ks := [0, 1, 2, 3, 4, 5]) (L' := [(5, .int 0), (4, .int x4), (3, .ref o3), (2, .ref o2), (1, .ref o1), (0, .ref b)]) dL_law_151 (by decide) rfl ?_
          refine tt_aload_n (j := 3) dL_law_153 rfl ?_
          refine tt_aload_n (j := 5) dL_law_154 rfl ?_
          refine tt_iload (j := 1) dL_law_155 rfl ?_
          refine tt_iconst (v := 1) dL_law_157 rfl ?_
          refine tt_iadd dL_law_158 ?_
          refine tt_sld (xi := (b, L, xs)) dL_law_159 (sc_in hx hL) ?_
          refine tt_aload_n (j := 5) dL_law_160 rfl ?_
          refine tt_iload (j := 1) dL_law_161 rfl ?_
          refine tt_iconst (v := 2) dL_law_163 rfl ?_
          refine tt_iadd dL_law_164 ?_
          refine tt_sld (xi := (b, L, xs)) dL_law_165 (sc_in hx hL) ?_
          refine tt_aload_n (j := 5) dL_law_166 rfl ?_
          refine tt_iload (j := 1) dL_law_167 rfl ?_
          refine tt_iconst (v := 3) dL_law_169 rfl ?_
          refine tt_iadd dL_law_170 ?_
          refine tt_sld (xi := (b, L, xs)) dL_law_171 (sc_in hx hL) ?_
          refine tt_aload_n (j := 5) dL_law_172 rfl ?_
          refine tt_iload (j := 1) dL_law_173 rfl ?_
          refine tt_iconst (v := 4) dL_law_175 rfl ?_
          refine tt_iadd dL_law_176 ?_
          refine tt_sld (xi := (b, L, xs)) dL_law_177 (sc_in hx hL) ?_
          refine tt_aload_n (j := 5) dL_law_178 rfl ?_
          refine tt_iload (j := 1) dL_law_179 rfl ?_
          refine tt_iconst (v := 5) dL_law_181 rfl ?_
          refine tt_iadd dL_law_182 ?_
          refine tt_sld (xi := (b, L, xs)) dL_law_183 (sc_in hx hL) ?_
          refine gt_VI (As := [.int (xs (x4 + 1).toNatClampNeg), .int (xs (x4 + 2).toNatClampNeg), .int (xs (x4 + 3).toNatClampNeg), .int (xs (x4 + 4).toNatClampNeg), .int (xs (x4 + 5).toNatClampNeg)]) dL_law_184 ca_L_61 ⟨by decide, by decide⟩ h2 hA6 rfl (Nat.le_of_ble_eq_true rfl) (Nat.le_of_ble_eq_true rfl) (by decide) (cq_X10_feed hG4 (oa_af h2 hA6) (fun _ _ _ _ h => h)) rfl (fun _ h => nomatch h) (fun S13 v14 hz15 hx16 hG17 hB18 hA19 => ?_)
          have rl20 := hx16.1 rl7
          have er21 := (hB18.2.2.2.1 (by decide)).2.trans er8
          have h622 := fc_o hcn hs9 hr9 fo10 s211 (i_af (k := 65) (oa_af hc1 hA6) hB18) hx16.2.1
          have oq23 : hp_j S13 o3 (0 : Int32).toNatClampNeg = (v14 : Int32).toInt64 := (congrFun (j_af (oa_af h3 hA6) hB18) _).trans (fj12.trans (congrArg Int32.toInt64 ((i_af (k := 65) (oa_af hc1 hA6) hB18).symm.trans (h622.1.trans (ei_v _ (hx16.2.2 h622.2))))))
          refine tt_istore (ks := [0, 1, 2, 3, 4, 5, 6]) (L' := [(6, .int v14), (5, .int 0), (4, .int x4), (3, .ref o3), (2, .ref o2), (1, .ref o1), (0, .ref b)]) dL_law_187 (by decide) rfl ?_
          refine tt_aload_n (j := 4) dL_law_189 rfl ?_
          refine gt_VIp (As := []) dL_law_190 ca_L_62 ⟨by decide, by decide⟩ h2 hA19 rfl (Nat.le_of_ble_eq_true rfl) (Nat.le_of_ble_eq_true rfl) (by decide) (cs_X10_thrown hG17 (oa_af h2 hA19) (fun _ _ _ _ h => h)) rfl (fun _ h => nomatch h) (fun _ _ q => q.1) (fun v25 hz26 hx27 => ?_)
          obtain rfl : v25 = 0 := (hx27.2 _ rfl).trans h622.2
          refine tt_iload (j := 1) dL_law_193 rfl ?_
          refine tt_icmp_eq (tgt := 200) dL_law_195 rfl (fun _ => ?_) (fun q => absurd rfl q)
          refine tt_iload (j := 1) dL_law_200 rfl ?_
          refine tt_if_ne (tgt := 217) dL_law_202 rfl (fun q => absurd q (by decide)) (fun _ => ?_)
          refine tt_aload_n (j := 3) dL_law_205 rfl ?_
          refine tt_iconst (v := 0) dL_law_206 rfl ?_
          refine gt_lLt dL_law_207 h3 hA19 (rg_in (⟨by decide, by decide⟩ : Rg 0 0 0)) ?_
          refine tt_iload (j := 0) dL_law_208 rfl ?_
          refine tt_i2l dL_law_210 ?_
          refine tt_lcmp dL_law_211 ?_
          refine tt_if_eq (tgt := 217) dL_law_212 rfl (fun _ => ?_) (fun q => absurd oq23 (lc_eq_f q))
          refine tt_goto (tgt := 810) dL_law_217 rfl ?_
          exact tt_loc (ks := [2, 3, 4, 5, 6]) rfl (hJ S13 (k - 1) (n - 6) hG17 hA19 rl20 h622.1 (by rw [er21]; omega) (by rw [er21]; omega))
        · skip
          refine gt_SW (As := [.ref o1, .int (xs (x4 + 1).toNatClampNeg), .int (xs (x4 + 2).toNatClampNeg), .int (xs (x4 + 3).toNatClampNeg), .int (xs (x4 + 4).toNatClampNeg), .int (xs (x4 + 5).toNatClampNeg), .ref o3]) dL_law_148 ca_L_56 ⟨by decide, by decide⟩ hA (Nat.le_of_ble_eq_true rfl) (Nat.le_of_ble_eq_true rfl) (by decide) (by omega) (by omega) (cwk_L_feed hG (oa_af h1 hA) hr9 (oa_af h3 hA) (fun c hc => by obtain rfl : c1 = c := Option.some.inj ((r_af h1 hA hrc).symm.trans hc); omega) (fun _ _ _ _ h => h)) (fun S31 z32 hz33 hG34 hB35 hA36 => ?_)
          have rl37 := rel_af hrel (oa_af h2 hA) hB35
          have er38 := (hB35.2.2.2.1 (by decide)).2.trans er0
          have cn39 := cn_af hcn (oa_af hc1 hA) (oa_af h2 hA) hB35
          obtain rfl : z32 = 2 := hz33
          refine tt_istore (ks := [0, 1, 2, 3, 4, 5]) (L' := [(5, .int 2), (4, .int x4), (3, .ref o3), (2, .ref o2), (1, .ref o1), (0, .ref b)]) dL_law_151 (by decide) rfl ?_
          refine tt_aload_n (j := 3) dL_law_153 rfl ?_
          refine tt_aload_n (j := 5) dL_law_154 rfl ?_
          refine tt_iload (j := 1) dL_law_155 rfl ?_
          refine tt_iconst (v := 1) dL_law_157 rfl ?_
          refine tt_iadd dL_law_158 ?_
          refine tt_sld (xi := (b, L, xs)) dL_law_159 (sc_in hx hL) ?_
          refine tt_aload_n (j := 5) dL_law_160 rfl ?_
          refine tt_iload (j := 1) dL_law_161 rfl ?_
          refine tt_iconst (v := 2) dL_law_163 rfl ?_
          refine tt_iadd dL_law_164 ?_
          refine tt_sld (xi := (b, L, xs)) dL_law_165 (sc_in hx hL) ?_
          refine tt_aload_n (j := 5) dL_law_166 rfl ?_
          refine tt_iload (j := 1) dL_law_167 rfl ?_
          refine tt_iconst (v := 3) dL_law_169 rfl ?_
          refine tt_iadd dL_law_170 ?_
          refine tt_sld (xi := (b, L, xs)) dL_law_171 (sc_in hx hL) ?_
          refine tt_aload_n (j := 5) dL_law_172 rfl ?_
          refine tt_iload (j := 1) dL_law_173 rfl ?_
          refine tt_iconst (v := 4) dL_law_175 rfl ?_
          refine tt_iadd dL_law_176 ?_
          refine tt_sld (xi := (b, L, xs)) dL_law_177 (sc_in hx hL) ?_
          refine tt_aload_n (j := 5) dL_law_178 rfl ?_
          refine tt_iload (j := 1) dL_law_179 rfl ?_
          refine tt_iconst (v := 5) dL_law_181 rfl ?_
          refine tt_iadd dL_law_182 ?_
          refine tt_sld (xi := (b, L, xs)) dL_law_183 (sc_in hx hL) ?_
          refine gt_VI (As := [.int (xs (x4 + 1).toNatClampNeg), .int (xs (x4 + 2).toNatClampNeg), .int (xs (x4 + 3).toNatClampNeg), .int (xs (x4 + 4).toNatClampNeg), .int (xs (x4 + 5).toNatClampNeg)]) dL_law_184 ca_L_61 ⟨by decide, by decide⟩ h2 hA36 rfl (Nat.le_of_ble_eq_true rfl) (Nat.le_of_ble_eq_true rfl) (by decide) (cq_X10_feed hG34 (oa_af h2 hA36) (fun _ _ _ _ h => h)) rfl (fun _ h => nomatch h) (fun S40 v41 hz42 hx43 hG44 hB45 hA46 => ?_)
          have rl47 := hx43.1 rl37
          have er48 := (hB45.2.2.2.1 (by decide)).2.trans er38
          have h649 := fc_k cn39 (i_af (k := 65) (oa_af hc1 hA) hB35) hs9 hr9 (i_af (k := 65) (oa_af hc1 hA36) hB45) hx43.2.1
          refine tt_istore (ks := [0, 1, 2, 3, 4, 5, 6]) (L' := [(6, .int v41), (5, .int 2), (4, .int x4), (3, .ref o3), (2, .ref o2), (1, .ref o1), (0, .ref b)]) dL_law_187 (by decide) rfl ?_
          refine tt_aload_n (j := 4) dL_law_189 rfl ?_
          refine gt_VIp (As := []) dL_law_190 ca_L_62 ⟨by decide, by decide⟩ h2 hA46 rfl (Nat.le_of_ble_eq_true rfl) (Nat.le_of_ble_eq_true rfl) (by decide) (cs_X10_thrown hG44 (oa_af h2 hA46) (fun _ _ _ _ h => h)) rfl (fun _ h => nomatch h) (fun _ _ q => q.1) (fun v51 hz52 hx53 => ?_)
          obtain rfl : v51 = 2 := (hx53.2 _ rfl).trans h649.2
          refine tt_iload (j := 1) dL_law_193 rfl ?_
          refine tt_icmp_eq (tgt := 200) dL_law_195 rfl (fun _ => ?_) (fun q => absurd rfl q)
          refine tt_iload (j := 1) dL_law_200 rfl ?_
          refine tt_if_ne (tgt := 217) dL_law_202 rfl (fun _ => ?_) (fun q => absurd q (by decide))
          refine tt_goto (tgt := 810) dL_law_217 rfl ?_
          exact tt_loc (ks := [2, 3, 4, 5, 6]) rfl (hJ S40 (k - 1) (n - 6) hG44 hA46 rl47 h649.1 (by rw [er48]; omega) (by rw [er48]; omega))
      · skip
        refine gt_SW (As := [.ref o1, .int (xs (x4 + 1).toNatClampNeg), .int (xs (x4 + 2).toNatClampNeg), .int (xs (x4 + 3).toNatClampNeg), .int (xs (x4 + 4).toNatClampNeg), .int (xs (x4 + 5).toNatClampNeg), .ref o3]) dL_law_148 ca_L_56 ⟨by decide, by decide⟩ hA (Nat.le_of_ble_eq_true rfl) (Nat.le_of_ble_eq_true rfl) (by decide) (by omega) (by omega) (cwn_L_feed hG (oa_af h1 hA) (oa_af h3 hA) hr9 (fun _ _ _ _ h => h)) (fun S57 z58 hz59 hG60 hB61 hA62 => ?_)
        have rl63 := rel_af hrel (oa_af h2 hA) hB61
        have er64 := (hB61.2.2.2.1 (by decide)).2.trans er0
        have cn65 := cn_af hcn (oa_af hc1 hA) (oa_af h2 hA) hB61
        obtain rfl : z58 = 1 := hz59
        refine tt_istore (ks := [0, 1, 2, 3, 4, 5]) (L' := [(5, .int 1), (4, .int x4), (3, .ref o3), (2, .ref o2), (1, .ref o1), (0, .ref b)]) dL_law_151 (by decide) rfl ?_
        refine tt_aload_n (j := 3) dL_law_153 rfl ?_
        refine tt_aload_n (j := 5) dL_law_154 rfl ?_
        refine tt_iload (j := 1) dL_law_155 rfl ?_
        refine tt_iconst (v := 1) dL_law_157 rfl ?_
        refine tt_iadd dL_law_158 ?_
        refine tt_sld (xi := (b, L, xs)) dL_law_159 (sc_in hx hL) ?_
        refine tt_aload_n (j := 5) dL_law_160 rfl ?_
        refine tt_iload (j := 1) dL_law_161 rfl ?_
        refine tt_iconst (v := 2) dL_law_163 rfl ?_
        refine tt_iadd dL_law_164 ?_
        refine tt_sld (xi := (b, L, xs)) dL_law_165 (sc_in hx hL) ?_
        refine tt_aload_n (j := 5) dL_law_166 rfl ?_
        refine tt_iload (j := 1) dL_law_167 rfl ?_
        refine tt_iconst (v := 3) dL_law_169 rfl ?_
        refine tt_iadd dL_law_170 ?_
        refine tt_sld (xi := (b, L, xs)) dL_law_171 (sc_in hx hL) ?_
        refine tt_aload_n (j := 5) dL_law_172 rfl ?_
        refine tt_iload (j := 1) dL_law_173 rfl ?_
        refine tt_iconst (v := 4) dL_law_175 rfl ?_
        refine tt_iadd dL_law_176 ?_
        refine tt_sld (xi := (b, L, xs)) dL_law_177 (sc_in hx hL) ?_
        refine tt_aload_n (j := 5) dL_law_178 rfl ?_
        refine tt_iload (j := 1) dL_law_179 rfl ?_
        refine tt_iconst (v := 5) dL_law_181 rfl ?_
        refine tt_iadd dL_law_182 ?_
        refine tt_sld (xi := (b, L, xs)) dL_law_183 (sc_in hx hL) ?_
        refine gt_VI (As := [.int (xs (x4 + 1).toNatClampNeg), .int (xs (x4 + 2).toNatClampNeg), .int (xs (x4 + 3).toNatClampNeg), .int (xs (x4 + 4).toNatClampNeg), .int (xs (x4 + 5).toNatClampNeg)]) dL_law_184 ca_L_61 ⟨by decide, by decide⟩ h2 hA62 rfl (Nat.le_of_ble_eq_true rfl) (Nat.le_of_ble_eq_true rfl) (by decide) (cq_X10_feed hG60 (oa_af h2 hA62) (fun _ _ _ _ h => h)) rfl (fun _ h => nomatch h) (fun S66 v67 hz68 hx69 hG70 hB71 hA72 => ?_)
        have rl73 := hx69.1 rl63
        have er74 := (hB71.2.2.2.1 (by decide)).2.trans er64
        have h675 := fc_n cn65 hr9 (i_af (k := 65) (oa_af hc1 hA62) hB71) hx69.2.1
        refine tt_istore (ks := [0, 1, 2, 3, 4, 5, 6]) (L' := [(6, .int v67), (5, .int 1), (4, .int x4), (3, .ref o3), (2, .ref o2), (1, .ref o1), (0, .ref b)]) dL_law_187 (by decide) rfl ?_
        refine tt_aload_n (j := 4) dL_law_189 rfl ?_
        refine gt_VIp (As := []) dL_law_190 ca_L_62 ⟨by decide, by decide⟩ h2 hA72 rfl (Nat.le_of_ble_eq_true rfl) (Nat.le_of_ble_eq_true rfl) (by decide) (cs_X10_thrown hG70 (oa_af h2 hA72) (fun _ _ _ _ h => h)) rfl (fun _ h => nomatch h) (fun _ _ q => q.1) (fun v77 hz78 hx79 => ?_)
        obtain rfl : v77 = 1 := (hx79.2 _ rfl).trans h675.2
        refine tt_iload (j := 1) dL_law_193 rfl ?_
        refine tt_icmp_eq (tgt := 200) dL_law_195 rfl (fun _ => ?_) (fun q => absurd rfl q)
        refine tt_iload (j := 1) dL_law_200 rfl ?_
        refine tt_if_ne (tgt := 217) dL_law_202 rfl (fun _ => ?_) (fun q => absurd q (by decide))
        refine tt_goto (tgt := 810) dL_law_217 rfl ?_
        exact tt_loc (ks := [2, 3, 4, 5, 6]) rfl (hJ S66 (k - 1) (n - 6) hG70 hA72 rl73 h675.1 (by rw [er74]; omega) (by rw [er74]; omega))
    · skip
      refine tt_aload_n (j := 3) dL_law_220 rfl ?_
      refine gt_VI (As := []) dL_law_221 ca_L_66 ⟨by decide, by decide⟩ h1 hA rfl (Nat.le_of_ble_eq_true rfl) (Nat.le_of_ble_eq_true rfl) (by decide) (cq_X9_erase hG (oa_af h1 hA) (fun _ _ _ _ h => h)) rfl (fun _ h => nomatch h) (fun S83 v84 hz85 hx86 hG87 hB88 hA89 => ?_)
      have rl90 := rel_af hrel (oa_af h2 hA) hB88
      have er91 := (hB88.2.2.2.1 (by decide)).2.trans er0
      obtain ⟨ev92, ec93⟩ := hx86 c1 (r_af h1 hA hrc)
      have e94 := ei_v _ ev92
      have s295 := i_af (k := 642) (oa_af h2 hA) hB88
      refine tt_pop dL_law_224 rfl ?_
      refine tt_aload_n (j := 2) dL_law_225 rfl ?_
      refine gt_VI (As := []) dL_law_226 ca_L_69 ⟨by decide, by decide⟩ h2 hA89 rfl (Nat.le_of_ble_eq_true rfl) (Nat.le_of_ble_eq_true rfl) (by decide) (cq_X10_erase hG87 (oa_af h2 hA89) (fun _ _ _ _ h => h)) rfl (fun _ h => nomatch h) (fun S96 v97 hz98 hx99 hG100 hB101 hA102 => ?_)
      have rl103 := hx99.1 rl90
      have er104 := (hB101.2.2.2.1 (by decide)).2.trans er91
      have e105 := (e94.symm.trans (hcn.trans s295.symm)).trans (ei_v _ hx99.2.1)
      have cn106 := ((i_af (k := 65) (oa_af hc1 hA89) hB101).trans ec93).trans hx99.2.2.symm
      refine tt_pop dL_law_229 rfl ?_
      refine tt_goto (tgt := 810) dL_law_230 rfl ?_
      exact tt_loc (ks := [0, 1, 2, 3, 4]) rfl (hJ S96 k n hG100 hA102 rl103 cn106 (by rw [er104]; omega) (by rw [er104]; omega))
    · skip
      refine tt_aload_n (j := 3) dL_law_233 rfl ?_
      refine tt_aload_n (j := 4) dL_law_234 rfl ?_
      refine tt_iload (j := 0) dL_law_235 rfl ?_
      refine tt_iconst (v := 1) dL_law_237 rfl ?_
      refine tt_iadd dL_law_238 ?_
      refine tt_sld (xi := (b, L, xs)) dL_law_239 (sc_in hx hL) ?_
      refine tt_aload_n (j := 4) dL_law_240 rfl ?_
      refine tt_iload (j := 0) dL_law_241 rfl ?_
      refine tt_iconst (v := 2) dL_law_243 rfl ?_
      refine tt_iadd dL_law_244 ?_
      refine tt_sld (xi := (b, L, xs)) dL_law_245 (sc_in hx hL) ?_
      refine tt_i2l dL_law_246 ?_
      refine tt_bipush (v := 32) dL_law_247 rfl ?_
      refine tt_lshl dL_law_249 ?_
      refine tt_aload_n (j := 4) dL_law_250 rfl ?_
      refine tt_iload (j := 0) dL_law_251 rfl ?_
      refine tt_iconst (v := 3) dL_law_253 rfl ?_
      refine tt_iadd dL_law_254 ?_
      refine tt_sld (xi := (b, L, xs)) dL_law_255 (sc_in hx hL) ?_
      refine tt_i2l dL_law_256 ?_
      refine tt_ldc2 (v := 4294967295) dL_law_257 kl_L_70 ?_
      refine tt_land dL_law_260 ?_
      refine tt_lor dL_law_261 ?_
      refine tt_aload_n (j := 4) dL_law_262 rfl ?_
      refine tt_iload (j := 0) dL_law_263 rfl ?_
      refine tt_iconst (v := 4) dL_law_265 rfl ?_
      refine tt_iadd dL_law_266 ?_
      refine tt_sld (xi := (b, L, xs)) dL_law_267 (sc_in hx hL) ?_
      refine tt_i2l dL_law_268 ?_
      refine tt_bipush (v := 32) dL_law_269 rfl ?_
      refine tt_lshl dL_law_271 ?_
      refine tt_aload_n (j := 4) dL_law_272 rfl ?_
      refine tt_iload (j := 0) dL_law_273 rfl ?_
      refine tt_iconst (v := 5) dL_law_275 rfl ?_
      refine tt_iadd dL_law_276 ?_
      refine tt_sld (xi := (b, L, xs)) dL_law_277 (sc_in hx hL) ?_
      refine tt_i2l dL_law_278 ?_
      refine tt_ldc2 (v := 4294967295) dL_law_279 kl_L_70 ?_
      refine tt_land dL_law_282 ?_
      refine tt_lor dL_law_283 ?_
      refine tt_aload_n (j := 4) dL_law_284 rfl ?_
      refine tt_iload (j := 0) dL_law_285 rfl ?_
      refine tt_bipush (v := 6) dL_law_287 rfl ?_
      refine tt_iadd dL_law_289 ?_
      refine tt_sld (xi := (b, L, xs)) dL_law_290 (sc_in hx hL) ?_
      refine tt_i2l dL_law_291 ?_
      refine tt_bipush (v := 32) dL_law_292 rfl ?_
      refine tt_lshl dL_law_294 ?_
      refine tt_aload_n (j := 4) dL_law_295 rfl ?_
      refine tt_iload (j := 0) dL_law_296 rfl ?_
      refine tt_bipush (v := 7) dL_law_298 rfl ?_
      refine tt_iadd dL_law_300 ?_
      refine tt_sld (xi := (b, L, xs)) dL_law_301 (sc_in hx hL) ?_
      refine tt_i2l dL_law_302 ?_
      refine tt_ldc2 (v := 4294967295) dL_law_303 kl_L_70 ?_
      refine tt_land dL_law_306 ?_
      refine tt_lor dL_law_307 ?_
      refine gt_SW (As := [.ref o1, .int (xs (x4 + 1).toNatClampNeg), .long ((((xs (x4 + 2).toNatClampNeg) : Int32).toInt64 <<< ((32 : Int32).toInt64 &&& 63)) ||| (((xs (x4 + 3).toNatClampNeg) : Int32).toInt64 &&& 4294967295)), .long ((((xs (x4 + 4).toNatClampNeg) : Int32).toInt64 <<< ((32 : Int32).toInt64 &&& 63)) ||| (((xs (x4 + 5).toNatClampNeg) : Int32).toInt64 &&& 4294967295)), .long ((((xs (x4 + 6).toNatClampNeg) : Int32).toInt64 <<< ((32 : Int32).toInt64 &&& 63)) ||| (((xs (x4 + 7).toNatClampNeg) : Int32).toInt64 &&& 4294967295))]) dL_law_308 ca_L_72 ⟨by decide, by decide⟩ hA (Nat.le_of_ble_eq_true rfl) (Nat.le_of_ble_eq_true rfl) (by decide) (by omega) (by omega) (cw_L_given hG (oa_af h1 hA) (fun _ _ _ _ h => h)) (fun S107 z108 hz109 hG110 hB111 hA112 => ?_)
      have rl113 := rel_af hrel (oa_af h2 hA) hB111
      have er114 := (hB111.2.2.2.1 (by decide)).2.trans er0
      have cn115 := cn_af hcn (oa_af hc1 hA) (oa_af h2 hA) hB111
      refine tt_istore (ks := [0, 1, 2, 3, 4, 5]) (L' := [(5, .int z108), (4, .int x4), (3, .ref o3), (2, .ref o2), (1, .ref o1), (0, .ref b)]) dL_law_311 (by decide) rfl ?_
      refine tt_aload_n (j := 3) dL_law_313 rfl ?_
      refine tt_aload_n (j := 5) dL_law_314 rfl ?_
      refine tt_iload (j := 1) dL_law_315 rfl ?_
      refine tt_iconst (v := 1) dL_law_317 rfl ?_
      refine tt_iadd dL_law_318 ?_
      refine tt_sld (xi := (b, L, xs)) dL_law_319 (sc_in hx hL) ?_
      refine tt_aload_n (j := 5) dL_law_320 rfl ?_
      refine tt_iload (j := 1) dL_law_321 rfl ?_
      refine tt_iconst (v := 2) dL_law_323 rfl ?_
      refine tt_iadd dL_law_324 ?_
      refine tt_sld (xi := (b, L, xs)) dL_law_325 (sc_in hx hL) ?_
      refine tt_i2l dL_law_326 ?_
      refine tt_bipush (v := 32) dL_law_327 rfl ?_
      refine tt_lshl dL_law_329 ?_
      refine tt_aload_n (j := 5) dL_law_330 rfl ?_
      refine tt_iload (j := 1) dL_law_331 rfl ?_
      refine tt_iconst (v := 3) dL_law_333 rfl ?_
      refine tt_iadd dL_law_334 ?_
      refine tt_sld (xi := (b, L, xs)) dL_law_335 (sc_in hx hL) ?_
      refine tt_i2l dL_law_336 ?_
      refine tt_ldc2 (v := 4294967295) dL_law_337 kl_L_70 ?_
      refine tt_land dL_law_340 ?_
      refine tt_lor dL_law_341 ?_
      refine tt_aload_n (j := 5) dL_law_342 rfl ?_
      refine tt_iload (j := 1) dL_law_343 rfl ?_
      refine tt_iconst (v := 4) dL_law_345 rfl ?_
      refine tt_iadd dL_law_346 ?_
      refine tt_sld (xi := (b, L, xs)) dL_law_347 (sc_in hx hL) ?_
      refine tt_i2l dL_law_348 ?_
      refine tt_bipush (v := 32) dL_law_349 rfl ?_
      refine tt_lshl dL_law_351 ?_
      refine tt_aload_n (j := 5) dL_law_352 rfl ?_
      refine tt_iload (j := 1) dL_law_353 rfl ?_
      refine tt_iconst (v := 5) dL_law_355 rfl ?_
      refine tt_iadd dL_law_356 ?_
      refine tt_sld (xi := (b, L, xs)) dL_law_357 (sc_in hx hL) ?_
      refine tt_i2l dL_law_358 ?_
      refine tt_ldc2 (v := 4294967295) dL_law_359 kl_L_70 ?_
      refine tt_land dL_law_362 ?_
      refine tt_lor dL_law_363 ?_
      refine tt_aload_n (j := 5) dL_law_364 rfl ?_
      refine tt_iload (j := 1) dL_law_365 rfl ?_
      refine tt_bipush (v := 6) dL_law_367 rfl ?_
      refine tt_iadd dL_law_369 ?_
      refine tt_sld (xi := (b, L, xs)) dL_law_370 (sc_in hx hL) ?_
      refine tt_i2l dL_law_371 ?_
      refine tt_bipush (v := 32) dL_law_372 rfl ?_
      refine tt_lshl dL_law_374 ?_
      refine tt_aload_n (j := 5) dL_law_375 rfl ?_
      refine tt_iload (j := 1) dL_law_376 rfl ?_
      refine tt_bipush (v := 7) dL_law_378 rfl ?_
      refine tt_iadd dL_law_380 ?_
      refine tt_sld (xi := (b, L, xs)) dL_law_381 (sc_in hx hL) ?_
      refine tt_i2l dL_law_382 ?_
      refine tt_ldc2 (v := 4294967295) dL_law_383 kl_L_70 ?_
      refine tt_land dL_law_386 ?_
      refine tt_lor dL_law_387 ?_
      refine gt_Vv (As := [.int (xs (x4 + 1).toNatClampNeg), .long ((((xs (x4 + 2).toNatClampNeg) : Int32).toInt64 <<< ((32 : Int32).toInt64 &&& 63)) ||| (((xs (x4 + 3).toNatClampNeg) : Int32).toInt64 &&& 4294967295)), .long ((((xs (x4 + 4).toNatClampNeg) : Int32).toInt64 <<< ((32 : Int32).toInt64 &&& 63)) ||| (((xs (x4 + 5).toNatClampNeg) : Int32).toInt64 &&& 4294967295)), .long ((((xs (x4 + 6).toNatClampNeg) : Int32).toInt64 <<< ((32 : Int32).toInt64 &&& 63)) ||| (((xs (x4 + 7).toNatClampNeg) : Int32).toInt64 &&& 4294967295))]) dL_law_388 ca_L_75 ⟨by decide, by decide⟩ h2 hA112 rfl (Nat.le_of_ble_eq_true rfl) (Nat.le_of_ble_eq_true rfl) (by decide) (cs_X10_given hG110 (oa_af h2 hA112) (fun _ _ _ _ h => h)) rfl (fun _ h => nomatch h) (fun S116 hx119 hG120 hB121 hA122 => ?_)
      have rl123 := rel_af rl113 (oa_af h2 hA112) hB121
      have er124 := (hB121.2.2.2.1 (by decide)).2.trans er114
      have cn125 := cn_af cn115 (oa_af hc1 hA112) (oa_af h2 hA112) hB121
      refine tt_goto (tgt := 810) dL_law_391 rfl ?_
      exact tt_loc (ks := [1, 2, 3, 4, 5]) rfl (hJ S116 (k - 1) (n - 6) hG120 hA122 rl123 cn125 (by rw [er124]; omega) (by rw [er124]; omega))
    · skip
      refine tt_aload_n (j := 3) dL_law_394 rfl ?_
      refine tt_aload_n (j := 4) dL_law_395 rfl ?_
      refine tt_iload (j := 0) dL_law_396 rfl ?_
      refine tt_iconst (v := 1) dL_law_398 rfl ?_
      refine tt_iadd dL_law_399 ?_
      refine tt_sld (xi := (b, L, xs)) dL_law_400 (sc_in hx hL) ?_
      refine gt_SW (As := [.ref o1, .int (xs (x4 + 1).toNatClampNeg)]) dL_law_401 ca_L_76 ⟨by decide, by decide⟩ hA (Nat.le_of_ble_eq_true rfl) (Nat.le_of_ble_eq_true rfl) (by decide) (by omega) (by omega) (cw_L_any hG (oa_af h1 hA) (fun _ _ _ _ h => h)) (fun S126 z127 hz128 hG129 hB130 hA131 => ?_)
      have rl132 := rel_af hrel (oa_af h2 hA) hB130
      have er133 := (hB130.2.2.2.1 (by decide)).2.trans er0
      have cn134 := cn_af hcn (oa_af hc1 hA) (oa_af h2 hA) hB130
      refine tt_istore (ks := [0, 1, 2, 3, 4, 5]) (L' := [(5, .int z127), (4, .int x4), (3, .ref o3), (2, .ref o2), (1, .ref o1), (0, .ref b)]) dL_law_404 (by decide) rfl ?_
      refine tt_aload_n (j := 3) dL_law_406 rfl ?_
      refine tt_aload_n (j := 5) dL_law_407 rfl ?_
      refine tt_iload (j := 1) dL_law_408 rfl ?_
      refine tt_iconst (v := 1) dL_law_410 rfl ?_
      refine tt_iadd dL_law_411 ?_
      refine tt_sld (xi := (b, L, xs)) dL_law_412 (sc_in hx hL) ?_
      refine gt_Vv (As := [.int (xs (x4 + 1).toNatClampNeg)]) dL_law_413 ca_L_79 ⟨by decide, by decide⟩ h2 hA131 rfl (Nat.le_of_ble_eq_true rfl) (Nat.le_of_ble_eq_true rfl) (by decide) (cs_X10_any hG129 (oa_af h2 hA131) (fun _ _ _ _ h => h)) rfl (fun _ h => nomatch h) (fun S135 hx138 hG139 hB140 hA141 => ?_)
      have rl142 := rel_af rl132 (oa_af h2 hA131) hB140
      have er143 := (hB140.2.2.2.1 (by decide)).2.trans er133
      have cn144 := cn_af cn134 (oa_af hc1 hA131) (oa_af h2 hA131) hB140
      refine tt_goto (tgt := 810) dL_law_416 rfl ?_
      exact tt_loc (ks := [1, 2, 3, 4, 5]) rfl (hJ S135 (k - 1) (n - 6) hG139 hA141 rl142 cn144 (by rw [er143]; omega) (by rw [er143]; omega))
    · skip
      refine tt_aload_n (j := 3) dL_law_419 rfl ?_
      refine tt_aload_n (j := 4) dL_law_420 rfl ?_
      refine tt_iload (j := 0) dL_law_421 rfl ?_
      refine tt_iconst (v := 1) dL_law_423 rfl ?_
      refine tt_iadd dL_law_424 ?_
      refine tt_sld (xi := (b, L, xs)) dL_law_425 (sc_in hx hL) ?_
      refine tt_aload_n (j := 4) dL_law_426 rfl ?_
      refine tt_iload (j := 0) dL_law_427 rfl ?_
      refine tt_iconst (v := 2) dL_law_429 rfl ?_
      refine tt_iadd dL_law_430 ?_
      refine tt_sld (xi := (b, L, xs)) dL_law_431 (sc_in hx hL) ?_
      refine tt_aload_n (j := 1) dL_law_432 rfl ?_
      refine gt_SW (As := [.ref o1, .int (xs (x4 + 1).toNatClampNeg), .int (xs (x4 + 2).toNatClampNeg), .ref o3]) dL_law_433 ca_L_80 ⟨by decide, by decide⟩ hA (Nat.le_of_ble_eq_true rfl) (Nat.le_of_ble_eq_true rfl) (by decide) (by omega) (by omega) (cw_L_decode hG (oa_af h1 hA) (oa_af h3 hA) (fun _ _ _ _ h => h)) (fun S145 z146 hz147 hG148 hB149 hA150 => ?_)
      have rl151 := rel_af hrel (oa_af h2 hA) hB149
      have er152 := (hB149.2.2.2.1 (by decide)).2.trans er0
      have cn153 := cn_af hcn (oa_af hc1 hA) (oa_af h2 hA) hB149
      refine tt_istore (ks := [0, 1, 2, 3, 4, 5]) (L' := [(5, .int z146), (4, .int x4), (3, .ref o3), (2, .ref o2), (1, .ref o1), (0, .ref b)]) dL_law_436 (by decide) rfl ?_
      refine tt_aload_n (j := 3) dL_law_438 rfl ?_
      refine tt_aload_n (j := 5) dL_law_439 rfl ?_
      refine tt_iload (j := 1) dL_law_440 rfl ?_
      refine tt_iconst (v := 1) dL_law_442 rfl ?_
      refine tt_iadd dL_law_443 ?_
      refine tt_sld (xi := (b, L, xs)) dL_law_444 (sc_in hx hL) ?_
      refine tt_aload_n (j := 5) dL_law_445 rfl ?_
      refine tt_iload (j := 1) dL_law_446 rfl ?_
      refine tt_iconst (v := 2) dL_law_448 rfl ?_
      refine tt_iadd dL_law_449 ?_
      refine tt_sld (xi := (b, L, xs)) dL_law_450 (sc_in hx hL) ?_
      refine gt_VI (As := [.int (xs (x4 + 1).toNatClampNeg), .int (xs (x4 + 2).toNatClampNeg)]) dL_law_451 ca_L_83 ⟨by decide, by decide⟩ h2 hA150 rfl (Nat.le_of_ble_eq_true rfl) (Nat.le_of_ble_eq_true rfl) (by decide) (cs_X10_decode hG148 (oa_af h2 hA150) (fun _ _ _ _ h => h)) rfl (fun _ h => nomatch h) (fun S154 v155 hz156 hx157 hG158 hB159 hA160 => ?_)
      have rl161 := rel_af rl151 (oa_af h2 hA150) hB159
      have er162 := (hB159.2.2.2.1 (by decide)).2.trans er152
      have cn163 := cn_af cn153 (oa_af hc1 hA150) (oa_af h2 hA150) hB159
      refine tt_istore (ks := [0, 1, 2, 3, 4, 5, 6]) (L' := [(6, .int v155), (5, .int z146), (4, .int x4), (3, .ref o3), (2, .ref o2), (1, .ref o1), (0, .ref b)]) dL_law_454 (by decide) rfl ?_
      refine tt_goto (tgt := 810) dL_law_456 rfl ?_
      exact tt_loc (ks := [2, 3, 4, 5, 6]) rfl (hJ S154 (k - 1) (n - 6) hG158 hA160 rl161 cn163 (by rw [er162]; omega) (by rw [er162]; omega))
    · skip
      refine tt_aload_n (j := 3) dL_law_459 rfl ?_
      refine tt_aload_n (j := 4) dL_law_460 rfl ?_
      refine tt_iload (j := 0) dL_law_461 rfl ?_
      refine tt_iconst (v := 1) dL_law_463 rfl ?_
      refine tt_iadd dL_law_464 ?_
      refine tt_sld (xi := (b, L, xs)) dL_law_465 (sc_in hx hL) ?_
      refine tt_aload_n (j := 1) dL_law_466 rfl ?_
      refine gt_SW (As := [.ref o1, .int (xs (x4 + 1).toNatClampNeg), .ref o3]) dL_law_467 ca_L_84 ⟨by decide, by decide⟩ hA (Nat.le_of_ble_eq_true rfl) (Nat.le_of_ble_eq_true rfl) (by decide) (by omega) (by omega) (cw_L_constant hG (oa_af h1 hA) (oa_af h3 hA) (fun _ _ _ _ h => h)) (fun S164 z165 hz166 hG167 hB168 hA169 => ?_)
      have rl170 := rel_af hrel (oa_af h2 hA) hB168
      have er171 := (hB168.2.2.2.1 (by decide)).2.trans er0
      have cn172 := cn_af hcn (oa_af hc1 hA) (oa_af h2 hA) hB168
      refine tt_istore (ks := [0, 1, 2, 3, 4, 5]) (L' := [(5, .int z165), (4, .int x4), (3, .ref o3), (2, .ref o2), (1, .ref o1), (0, .ref b)]) dL_law_470 (by decide) rfl ?_
      refine tt_aload_n (j := 3) dL_law_472 rfl ?_
      refine tt_aload_n (j := 5) dL_law_473 rfl ?_
      refine tt_iload (j := 1) dL_law_474 rfl ?_
      refine tt_iconst (v := 1) dL_law_476 rfl ?_
      refine tt_iadd dL_law_477 ?_
      refine tt_sld (xi := (b, L, xs)) dL_law_478 (sc_in hx hL) ?_
      refine gt_VJ (As := [.int (xs (x4 + 1).toNatClampNeg)]) dL_law_479 ca_L_87 ⟨by decide, by decide⟩ h2 hA169 rfl (Nat.le_of_ble_eq_true rfl) (Nat.le_of_ble_eq_true rfl) (by decide) (cs_X10_constant hG167 (oa_af h2 hA169) (fun _ _ _ _ h => h)) rfl (fun _ h => nomatch h) (fun S173 v174 hx176 hG177 hB178 hA179 => ?_)
      have rl180 := rel_af rl170 (oa_af h2 hA169) hB178
      have er181 := (hB178.2.2.2.1 (by decide)).2.trans er171
      have cn182 := cn_af cn172 (oa_af hc1 hA169) (oa_af h2 hA169) hB178
      refine tt_lstore (ks := [0, 1, 2, 3, 4, 5, 6]) (L' := [(6, .long v174), (5, .int z165), (4, .int x4), (3, .ref o3), (2, .ref o2), (1, .ref o1), (0, .ref b)]) dL_law_482 (by decide) rfl ?_
      refine tt_goto (tgt := 810) dL_law_484 rfl ?_
      exact tt_loc (ks := [2, 3, 4, 5, 6]) rfl (hJ S173 (k - 1) (n - 6) hG177 hA179 rl180 cn182 (by rw [er181]; omega) (by rw [er181]; omega))
    · skip
      refine tt_aload_n (j := 3) dL_law_487 rfl ?_
      refine gt_AI (pa := pa) (As := []) dL_law_488 ca_L_88 ⟨by decide, by decide⟩ h1 hA rfl (Nat.le_of_ble_eq_true rfl) (Nat.le_of_ble_eq_true rfl) (by decide) (cs_X9_look rfl hG (oa_af h1 hA) (pa_af hG h1 hA hpa) (by rw [er0]; omega) (by rw [er0]; omega) (fun _ _ _ _ h => h)) rfl (fun S183 v184 k190 n191 hz185 hG187 hB188 hA189 bd192 => ?_)
      have rl193 := rel_af hrel (oa_af h2 hA) hB188
      have er194 : hp_r S183 = hp_r S183 := rfl
      have cn195 := cn_af hcn (oa_af hc1 hA) (oa_af h2 hA) hB188
      refine tt_pop dL_law_491 rfl ?_
      refine tt_aload_n (j := 2) dL_law_492 rfl ?_
      refine gt_VI (As := []) dL_law_493 ca_L_91 ⟨by decide, by decide⟩ h2 hA189 rfl (Nat.le_of_ble_eq_true rfl) (Nat.le_of_ble_eq_true rfl) (by decide) (cs_X10_look hG187 (oa_af h2 hA189) (fun _ _ _ _ h => h)) rfl (fun _ h => nomatch h) (fun S196 v197 hz198 hx199 hG200 hB201 hA202 => ?_)
      have rl203 := rel_af rl193 (oa_af h2 hA189) hB201
      have er204 := (hB201.2.2.2.1 (by decide)).2.trans er194
      have cn205 := cn_af cn195 (oa_af hc1 hA189) (oa_af h2 hA189) hB201
      refine tt_pop dL_law_496 rfl ?_
      refine tt_goto (tgt := 810) dL_law_497 rfl ?_
      exact tt_loc (ks := [0, 1, 2, 3, 4]) rfl (hJ S196 k190 n191 hG200 hA202 rl203 cn205 (by have q1 := bd192.1; have q2 := bd192.2; rw [er204]; omega) (by have q1 := bd192.1; have q2 := bd192.2; rw [er204]; omega))
    · skip
      refine tt_aload_n (j := 3) dL_law_500 rfl ?_
      refine tt_aload_n (j := 4) dL_law_501 rfl ?_
      refine tt_iload (j := 0) dL_law_502 rfl ?_
      refine tt_iconst (v := 1) dL_law_504 rfl ?_
      refine tt_iadd dL_law_505 ?_
      refine tt_sld (xi := (b, L, xs)) dL_law_506 (sc_in hx hL) ?_
      refine gt_VIp (As := [.int (xs (x4 + 1).toNatClampNeg)]) dL_law_507 ca_L_92 ⟨by decide, by decide⟩ h1 hA rfl (Nat.le_of_ble_eq_true rfl) (Nat.le_of_ble_eq_true rfl) (by decide) (cs_X9_reached hG (oa_af h1 hA) (fun _ _ _ _ h => h)) rfl (fun _ h => nomatch h) (fun _ _ q => q) (fun v207 hz208 hx209 => ?_)
      refine tt_pop dL_law_510 rfl ?_
      refine tt_aload_n (j := 2) dL_law_511 rfl ?_
      refine tt_aload_n (j := 4) dL_law_512 rfl ?_
      refine tt_iload (j := 0) dL_law_513 rfl ?_
      refine tt_iconst (v := 1) dL_law_515 rfl ?_
      refine tt_iadd dL_law_516 ?_
      refine tt_sld (xi := (b, L, xs)) dL_law_517 (sc_in hx hL) ?_
      refine gt_VI (As := [.int (xs (x4 + 1).toNatClampNeg)]) dL_law_518 ca_L_95 ⟨by decide, by decide⟩ h2 hA rfl (Nat.le_of_ble_eq_true rfl) (Nat.le_of_ble_eq_true rfl) (by decide) (cs_X10_reached hG (oa_af h2 hA) (fun _ _ _ _ h => h)) rfl (fun _ h => nomatch h) (fun S213 v214 hz215 hx216 hG217 hB218 hA219 => ?_)
      have rl220 := rel_af hrel (oa_af h2 hA) hB218
      have er221 := (hB218.2.2.2.1 (by decide)).2.trans er0
      have cn222 := cn_af hcn (oa_af hc1 hA) (oa_af h2 hA) hB218
      refine tt_pop dL_law_521 rfl ?_
      refine tt_goto (tgt := 810) dL_law_522 rfl ?_
      exact tt_loc (ks := [0, 1, 2, 3, 4]) rfl (hJ S213 k n hG217 hA219 rl220 cn222 (by rw [er221]; omega) (by rw [er221]; omega))
    · skip
      refine tt_aload_n (j := 3) dL_law_525 rfl ?_
      refine tt_aload_n (j := 4) dL_law_526 rfl ?_
      refine tt_iload (j := 0) dL_law_527 rfl ?_
      refine tt_iconst (v := 1) dL_law_529 rfl ?_
      refine tt_iadd dL_law_530 ?_
      refine tt_sld (xi := (b, L, xs)) dL_law_531 (sc_in hx hL) ?_
      refine tt_aload_n (j := 4) dL_law_532 rfl ?_
      refine tt_iload (j := 0) dL_law_533 rfl ?_
      refine tt_iconst (v := 2) dL_law_535 rfl ?_
      refine tt_iadd dL_law_536 ?_
      refine tt_sld (xi := (b, L, xs)) dL_law_537 (sc_in hx hL) ?_
      refine tt_aload_n (j := 4) dL_law_538 rfl ?_
      refine tt_iload (j := 0) dL_law_539 rfl ?_
      refine tt_iconst (v := 3) dL_law_541 rfl ?_
      refine tt_iadd dL_law_542 ?_
      refine tt_sld (xi := (b, L, xs)) dL_law_543 (sc_in hx hL) ?_
      refine tt_aload_n (j := 1) dL_law_544 rfl ?_
      refine gt_SW (As := [.ref o1, .int (xs (x4 + 1).toNatClampNeg), .int (xs (x4 + 2).toNatClampNeg), .int (xs (x4 + 3).toNatClampNeg), .ref o3]) dL_law_545 ca_L_96 ⟨by decide, by decide⟩ hA (Nat.le_of_ble_eq_true rfl) (Nat.le_of_ble_eq_true rfl) (by decide) (by omega) (by omega) (cw_L_set hG (oa_af h1 hA) (oa_af h3 hA) (fun _ _ _ _ h => h)) (fun S223 z224 hz225 hG226 hB227 hA228 => ?_)
      have rl229 := rel_af hrel (oa_af h2 hA) hB227
      have er230 := (hB227.2.2.2.1 (by decide)).2.trans er0
      have cn231 := cn_af hcn (oa_af hc1 hA) (oa_af h2 hA) hB227
      refine tt_istore (ks := [0, 1, 2, 3, 4, 5]) (L' := [(5, .int z224), (4, .int x4), (3, .ref o3), (2, .ref o2), (1, .ref o1), (0, .ref b)]) dL_law_548 (by decide) rfl ?_
      refine tt_aload_n (j := 3) dL_law_550 rfl ?_
      refine tt_aload_n (j := 5) dL_law_551 rfl ?_
      refine tt_iload (j := 1) dL_law_552 rfl ?_
      refine tt_iconst (v := 1) dL_law_554 rfl ?_
      refine tt_iadd dL_law_555 ?_
      refine tt_sld (xi := (b, L, xs)) dL_law_556 (sc_in hx hL) ?_
      refine tt_aload_n (j := 5) dL_law_557 rfl ?_
      refine tt_iload (j := 1) dL_law_558 rfl ?_
      refine tt_iconst (v := 2) dL_law_560 rfl ?_
      refine tt_iadd dL_law_561 ?_
      refine tt_sld (xi := (b, L, xs)) dL_law_562 (sc_in hx hL) ?_
      refine tt_aload_n (j := 5) dL_law_563 rfl ?_
      refine tt_iload (j := 1) dL_law_564 rfl ?_
      refine tt_iconst (v := 3) dL_law_566 rfl ?_
      refine tt_iadd dL_law_567 ?_
      refine tt_sld (xi := (b, L, xs)) dL_law_568 (sc_in hx hL) ?_
      refine gt_VJ (As := [.int (xs (x4 + 1).toNatClampNeg), .int (xs (x4 + 2).toNatClampNeg), .int (xs (x4 + 3).toNatClampNeg)]) dL_law_569 ca_L_99 ⟨by decide, by decide⟩ h2 hA228 rfl (Nat.le_of_ble_eq_true rfl) (Nat.le_of_ble_eq_true rfl) (by decide) (cs_X10_set hG226 (oa_af h2 hA228) (fun _ _ _ _ h => h)) rfl (fun _ h => nomatch h) (fun S232 v233 hx235 hG236 hB237 hA238 => ?_)
      have rl239 := rel_af rl229 (oa_af h2 hA228) hB237
      have er240 := (hB237.2.2.2.1 (by decide)).2.trans er230
      have cn241 := cn_af cn231 (oa_af hc1 hA228) (oa_af h2 hA228) hB237
      refine tt_lstore (ks := [0, 1, 2, 3, 4, 5, 6]) (L' := [(6, .long v233), (5, .int z224), (4, .int x4), (3, .ref o3), (2, .ref o2), (1, .ref o1), (0, .ref b)]) dL_law_572 (by decide) rfl ?_
      refine tt_goto (tgt := 810) dL_law_574 rfl ?_
      exact tt_loc (ks := [2, 3, 4, 5, 6]) rfl (hJ S232 (k - 1) (n - 6) hG236 hA238 rl239 cn241 (by rw [er240]; omega) (by rw [er240]; omega))
    · skip
      refine tt_aload_n (j := 3) dL_law_577 rfl ?_
      refine tt_aload_n (j := 4) dL_law_578 rfl ?_
      refine tt_iload (j := 0) dL_law_579 rfl ?_
      refine tt_iconst (v := 1) dL_law_581 rfl ?_
      refine tt_iadd dL_law_582 ?_
      refine tt_sld (xi := (b, L, xs)) dL_law_583 (sc_in hx hL) ?_
      refine tt_aload_n (j := 4) dL_law_584 rfl ?_
      refine tt_iload (j := 0) dL_law_585 rfl ?_
      refine tt_iconst (v := 2) dL_law_587 rfl ?_
      refine tt_iadd dL_law_588 ?_
      refine tt_sld (xi := (b, L, xs)) dL_law_589 (sc_in hx hL) ?_
      refine tt_aload_n (j := 4) dL_law_590 rfl ?_
      refine tt_iload (j := 0) dL_law_591 rfl ?_
      refine tt_iconst (v := 3) dL_law_593 rfl ?_
      refine tt_iadd dL_law_594 ?_
      refine tt_sld (xi := (b, L, xs)) dL_law_595 (sc_in hx hL) ?_
      refine tt_i2l dL_law_596 ?_
      refine tt_bipush (v := 32) dL_law_597 rfl ?_
      refine tt_lshl dL_law_599 ?_
      refine tt_aload_n (j := 4) dL_law_600 rfl ?_
      refine tt_iload (j := 0) dL_law_601 rfl ?_
      refine tt_iconst (v := 4) dL_law_603 rfl ?_
      refine tt_iadd dL_law_604 ?_
      refine tt_sld (xi := (b, L, xs)) dL_law_605 (sc_in hx hL) ?_
      refine tt_i2l dL_law_606 ?_
      refine tt_ldc2 (v := 4294967295) dL_law_607 kl_L_70 ?_
      refine tt_land dL_law_610 ?_
      refine tt_lor dL_law_611 ?_
      refine tt_aload_n (j := 1) dL_law_612 rfl ?_
      refine gt_SW (As := [.ref o1, .int (xs (x4 + 1).toNatClampNeg), .int (xs (x4 + 2).toNatClampNeg), .long ((((xs (x4 + 3).toNatClampNeg) : Int32).toInt64 <<< ((32 : Int32).toInt64 &&& 63)) ||| (((xs (x4 + 4).toNatClampNeg) : Int32).toInt64 &&& 4294967295)), .ref o3]) dL_law_613 ca_L_100 ⟨by decide, by decide⟩ hA (Nat.le_of_ble_eq_true rfl) (Nat.le_of_ble_eq_true rfl) (by decide) (by omega) (by omega) (cw_L_has hG (oa_af h1 hA) (oa_af h3 hA) (fun _ _ _ _ h => h)) (fun S242 z243 hz244 hG245 hB246 hA247 => ?_)
      have rl248 := rel_af hrel (oa_af h2 hA) hB246
      have er249 := (hB246.2.2.2.1 (by decide)).2.trans er0
      have cn250 := cn_af hcn (oa_af hc1 hA) (oa_af h2 hA) hB246
      refine tt_istore (ks := [0, 1, 2, 3, 4, 5]) (L' := [(5, .int z243), (4, .int x4), (3, .ref o3), (2, .ref o2), (1, .ref o1), (0, .ref b)]) dL_law_616 (by decide) rfl ?_
      refine tt_aload_n (j := 3) dL_law_618 rfl ?_
      refine tt_aload_n (j := 5) dL_law_619 rfl ?_
      refine tt_iload (j := 1) dL_law_620 rfl ?_
      refine tt_iconst (v := 1) dL_law_622 rfl ?_
      refine tt_iadd dL_law_623 ?_
      refine tt_sld (xi := (b, L, xs)) dL_law_624 (sc_in hx hL) ?_
      refine tt_aload_n (j := 5) dL_law_625 rfl ?_
      refine tt_iload (j := 1) dL_law_626 rfl ?_
      refine tt_iconst (v := 2) dL_law_628 rfl ?_
      refine tt_iadd dL_law_629 ?_
      refine tt_sld (xi := (b, L, xs)) dL_law_630 (sc_in hx hL) ?_
      refine tt_aload_n (j := 5) dL_law_631 rfl ?_
      refine tt_iload (j := 1) dL_law_632 rfl ?_
      refine tt_iconst (v := 3) dL_law_634 rfl ?_
      refine tt_iadd dL_law_635 ?_
      refine tt_sld (xi := (b, L, xs)) dL_law_636 (sc_in hx hL) ?_
      refine tt_i2l dL_law_637 ?_
      refine tt_bipush (v := 32) dL_law_638 rfl ?_
      refine tt_lshl dL_law_640 ?_
      refine tt_aload_n (j := 5) dL_law_641 rfl ?_
      refine tt_iload (j := 1) dL_law_642 rfl ?_
      refine tt_iconst (v := 4) dL_law_644 rfl ?_
      refine tt_iadd dL_law_645 ?_
      refine tt_sld (xi := (b, L, xs)) dL_law_646 (sc_in hx hL) ?_
      refine tt_i2l dL_law_647 ?_
      refine tt_ldc2 (v := 4294967295) dL_law_648 kl_L_70 ?_
      refine tt_land dL_law_651 ?_
      refine tt_lor dL_law_652 ?_
      refine gt_VI (As := [.int (xs (x4 + 1).toNatClampNeg), .int (xs (x4 + 2).toNatClampNeg), .long ((((xs (x4 + 3).toNatClampNeg) : Int32).toInt64 <<< ((32 : Int32).toInt64 &&& 63)) ||| (((xs (x4 + 4).toNatClampNeg) : Int32).toInt64 &&& 4294967295))]) dL_law_653 ca_L_103 ⟨by decide, by decide⟩ h2 hA247 rfl (Nat.le_of_ble_eq_true rfl) (Nat.le_of_ble_eq_true rfl) (by decide) (cs_X10_has hG245 (oa_af h2 hA247) (fun _ _ _ _ h => h)) rfl (fun _ h => nomatch h) (fun S251 v252 hz253 hx254 hG255 hB256 hA257 => ?_)
      have rl258 := rel_af rl248 (oa_af h2 hA247) hB256
      have er259 := (hB256.2.2.2.1 (by decide)).2.trans er249
      have cn260 := cn_af cn250 (oa_af hc1 hA247) (oa_af h2 hA247) hB256
      refine tt_istore (ks := [0, 1, 2, 3, 4, 5, 6]) (L' := [(6, .int v252), (5, .int z243), (4, .int x4), (3, .ref o3), (2, .ref o2), (1, .ref o1), (0, .ref b)]) dL_law_656 (by decide) rfl ?_
      refine tt_goto (tgt := 810) dL_law_658 rfl ?_
      exact tt_loc (ks := [2, 3, 4, 5, 6]) rfl (hJ S251 (k - 1) (n - 6) hG255 hA257 rl258 cn260 (by rw [er259]; omega) (by rw [er259]; omega))
    · skip
      refine tt_aload_n (j := 3) dL_law_661 rfl ?_
      refine gt_Vv (As := []) dL_law_662 ca_L_104 ⟨by decide, by decide⟩ h1 hA rfl (Nat.le_of_ble_eq_true rfl) (Nat.le_of_ble_eq_true rfl) (by decide) (cs_X9_start hG (oa_af h1 hA) (fun _ _ _ _ h => h)) rfl (fun _ h => nomatch h) (fun S261 hx264 hG265 hB266 hA267 => ?_)
      have rl268 := rel_af hrel (oa_af h2 hA) hB266
      have er269 := (hB266.2.2.2.1 (by decide)).2.trans er0
      have cn270 := cn_af hcn (oa_af hc1 hA) (oa_af h2 hA) hB266
      refine tt_aload_n (j := 2) dL_law_665 rfl ?_
      refine gt_Vv (As := []) dL_law_666 ca_L_107 ⟨by decide, by decide⟩ h2 hA267 rfl (Nat.le_of_ble_eq_true rfl) (Nat.le_of_ble_eq_true rfl) (by decide) (cs_X10_start hG265 (oa_af h2 hA267) (fun _ _ _ _ h => h)) rfl (fun _ h => nomatch h) (fun S271 hx274 hG275 hB276 hA277 => ?_)
      have rl278 := hx274 rl268
      have er279 := (hB276.2.2.2.1 (by decide)).2.trans er269
      have cn280 := cn_af cn270 (oa_af hc1 hA267) (oa_af h2 hA267) hB276
      refine tt_goto (tgt := 810) dL_law_669 rfl ?_
      exact tt_loc (ks := [0, 1, 2, 3, 4]) rfl (hJ S271 k n hG275 hA277 rl278 cn280 (by rw [er279]; omega) (by rw [er279]; omega))
    · skip
      refine tt_aload_n (j := 3) dL_law_672 rfl ?_
      refine tt_aload_n (j := 4) dL_law_673 rfl ?_
      refine tt_iload (j := 0) dL_law_674 rfl ?_
      refine tt_iconst (v := 1) dL_law_676 rfl ?_
      refine tt_iadd dL_law_677 ?_
      refine tt_sld (xi := (b, L, xs)) dL_law_678 (sc_in hx hL) ?_
      refine tt_aload_n (j := 4) dL_law_679 rfl ?_
      refine tt_iload (j := 0) dL_law_680 rfl ?_
      refine tt_iconst (v := 2) dL_law_682 rfl ?_
      refine tt_iadd dL_law_683 ?_
      refine tt_sld (xi := (b, L, xs)) dL_law_684 (sc_in hx hL) ?_
      refine tt_i2l dL_law_685 ?_
      refine tt_bipush (v := 32) dL_law_686 rfl ?_
      refine tt_lshl dL_law_688 ?_
      refine tt_aload_n (j := 4) dL_law_689 rfl ?_
      refine tt_iload (j := 0) dL_law_690 rfl ?_
      refine tt_iconst (v := 3) dL_law_692 rfl ?_
      refine tt_iadd dL_law_693 ?_
      refine tt_sld (xi := (b, L, xs)) dL_law_694 (sc_in hx hL) ?_
      refine tt_i2l dL_law_695 ?_
      refine tt_ldc2 (v := 4294967295) dL_law_696 kl_L_70 ?_
      refine tt_land dL_law_699 ?_
      refine tt_lor dL_law_700 ?_
      refine gt_SW (As := [.ref o1, .int (xs (x4 + 1).toNatClampNeg), .long ((((xs (x4 + 2).toNatClampNeg) : Int32).toInt64 <<< ((32 : Int32).toInt64 &&& 63)) ||| (((xs (x4 + 3).toNatClampNeg) : Int32).toInt64 &&& 4294967295))]) dL_law_701 ca_L_108 ⟨by decide, by decide⟩ hA (Nat.le_of_ble_eq_true rfl) (Nat.le_of_ble_eq_true rfl) (by decide) (by omega) (by omega) (cw_L_put hG (oa_af h1 hA) (fun _ _ _ _ h => h)) (fun S281 z282 hz283 hG284 hB285 hA286 => ?_)
      have rl287 := rel_af hrel (oa_af h2 hA) hB285
      have er288 := (hB285.2.2.2.1 (by decide)).2.trans er0
      have cn289 := cn_af hcn (oa_af hc1 hA) (oa_af h2 hA) hB285
      refine tt_istore (ks := [0, 1, 2, 3, 4, 5]) (L' := [(5, .int z282), (4, .int x4), (3, .ref o3), (2, .ref o2), (1, .ref o1), (0, .ref b)]) dL_law_704 (by decide) rfl ?_
      refine tt_aload_n (j := 3) dL_law_706 rfl ?_
      refine tt_aload_n (j := 5) dL_law_707 rfl ?_
      refine tt_iload (j := 1) dL_law_708 rfl ?_
      refine tt_iconst (v := 1) dL_law_710 rfl ?_
      refine tt_iadd dL_law_711 ?_
      refine tt_sld (xi := (b, L, xs)) dL_law_712 (sc_in hx hL) ?_
      refine tt_aload_n (j := 5) dL_law_713 rfl ?_
      refine tt_iload (j := 1) dL_law_714 rfl ?_
      refine tt_iconst (v := 2) dL_law_716 rfl ?_
      refine tt_iadd dL_law_717 ?_
      refine tt_sld (xi := (b, L, xs)) dL_law_718 (sc_in hx hL) ?_
      refine tt_i2l dL_law_719 ?_
      refine tt_bipush (v := 32) dL_law_720 rfl ?_
      refine tt_lshl dL_law_722 ?_
      refine tt_aload_n (j := 5) dL_law_723 rfl ?_
      refine tt_iload (j := 1) dL_law_724 rfl ?_
      refine tt_iconst (v := 3) dL_law_726 rfl ?_
      refine tt_iadd dL_law_727 ?_
      refine tt_sld (xi := (b, L, xs)) dL_law_728 (sc_in hx hL) ?_
      refine tt_i2l dL_law_729 ?_
      refine tt_ldc2 (v := 4294967295) dL_law_730 kl_L_70 ?_
      refine tt_land dL_law_733 ?_
      refine tt_lor dL_law_734 ?_
      refine gt_Vv (As := [.int (xs (x4 + 1).toNatClampNeg), .long ((((xs (x4 + 2).toNatClampNeg) : Int32).toInt64 <<< ((32 : Int32).toInt64 &&& 63)) ||| (((xs (x4 + 3).toNatClampNeg) : Int32).toInt64 &&& 4294967295))]) dL_law_735 ca_L_111 ⟨by decide, by decide⟩ h2 hA286 rfl (Nat.le_of_ble_eq_true rfl) (Nat.le_of_ble_eq_true rfl) (by decide) (cs_X10_put hG284 (oa_af h2 hA286) (fun _ _ _ _ h => h)) rfl (fun _ h => nomatch h) (fun S290 hx293 hG294 hB295 hA296 => ?_)
      have rl297 := rel_af rl287 (oa_af h2 hA286) hB295
      have er298 := (hB295.2.2.2.1 (by decide)).2.trans er288
      have cn299 := cn_af cn289 (oa_af hc1 hA286) (oa_af h2 hA286) hB295
      refine tt_goto (tgt := 810) dL_law_738 rfl ?_
      exact tt_loc (ks := [1, 2, 3, 4, 5]) rfl (hJ S290 (k - 1) (n - 6) hG294 hA296 rl297 cn299 (by rw [er298]; omega) (by rw [er298]; omega))
    · skip
      refine tt_aload_n (j := 3) dL_law_741 rfl ?_
      refine tt_aload_n (j := 4) dL_law_742 rfl ?_
      refine tt_iload (j := 0) dL_law_743 rfl ?_
      refine tt_iconst (v := 1) dL_law_745 rfl ?_
      refine tt_iadd dL_law_746 ?_
      refine tt_sld (xi := (b, L, xs)) dL_law_747 (sc_in hx hL) ?_
      refine tt_aload_n (j := 1) dL_law_748 rfl ?_
      refine gt_SW (As := [.ref o1, .int (xs (x4 + 1).toNatClampNeg), .ref o3]) dL_law_749 ca_L_112 ⟨by decide, by decide⟩ hA (Nat.le_of_ble_eq_true rfl) (Nat.le_of_ble_eq_true rfl) (by decide) (by omega) (by omega) (cw_L_go hG (oa_af h1 hA) (oa_af h3 hA) (fun _ _ _ _ h => h)) (fun S300 z301 hz302 hG303 hB304 hA305 => ?_)
      have rl306 := rel_af hrel (oa_af h2 hA) hB304
      have er307 := (hB304.2.2.2.1 (by decide)).2.trans er0
      have cn308 := cn_af hcn (oa_af hc1 hA) (oa_af h2 hA) hB304
      refine tt_istore (ks := [0, 1, 2, 3, 4, 5]) (L' := [(5, .int z301), (4, .int x4), (3, .ref o3), (2, .ref o2), (1, .ref o1), (0, .ref b)]) dL_law_752 (by decide) rfl ?_
      refine tt_aload_n (j := 3) dL_law_754 rfl ?_
      refine tt_aload_n (j := 5) dL_law_755 rfl ?_
      refine tt_iload (j := 1) dL_law_756 rfl ?_
      refine tt_iconst (v := 1) dL_law_758 rfl ?_
      refine tt_iadd dL_law_759 ?_
      refine tt_sld (xi := (b, L, xs)) dL_law_760 (sc_in hx hL) ?_
      refine gt_VI (As := [.int (xs (x4 + 1).toNatClampNeg)]) dL_law_761 ca_L_114 ⟨by decide, by decide⟩ h2 hA305 rfl (Nat.le_of_ble_eq_true rfl) (Nat.le_of_ble_eq_true rfl) (by decide) (cs_X10_go hG303 (oa_af h2 hA305) rl306 (fun _ _ _ _ h => h)) rfl (fun _ h => nomatch h) (fun S309 v310 hz311 hx312 hG313 hB314 hA315 => ?_)
      have rl316 := rel_go rl306 (oa_af h2 hA305) hB314
      have er317 := (hB314.2.2.2.1 (by decide)).2.trans er307
      have cn318 := cn_af cn308 (oa_af hc1 hA305) (oa_af h2 hA305) hB314
      refine tt_istore (ks := [0, 1, 2, 3, 4, 5, 6]) (L' := [(6, .int v310), (5, .int z301), (4, .int x4), (3, .ref o3), (2, .ref o2), (1, .ref o1), (0, .ref b)]) dL_law_764 (by decide) rfl ?_
      refine tt_goto (tgt := 810) dL_law_766 rfl ?_
      exact tt_loc (ks := [2, 3, 4, 5, 6]) rfl (hJ S309 (k - 1) (n - 6) hG313 hA315 rl316 cn318 (by rw [er317]; omega) (by rw [er317]; omega))
    · skip
      refine tt_aload_n (j := 3) dL_law_769 rfl ?_
      refine gt_VIp (As := []) dL_law_770 ca_L_115 ⟨by decide, by decide⟩ h1 hA rfl (Nat.le_of_ble_eq_true rfl) (Nat.le_of_ble_eq_true rfl) (by decide) (cs_X9_at hG (oa_af h1 hA) (fun _ _ _ _ h => h)) rfl (fun _ h => nomatch h) (fun _ _ q => q) (fun v320 hz321 hx322 => ?_)
      refine tt_pop dL_law_773 rfl ?_
      refine tt_aload_n (j := 2) dL_law_774 rfl ?_
      refine gt_VI (As := []) dL_law_775 ca_L_118 ⟨by decide, by decide⟩ h2 hA rfl (Nat.le_of_ble_eq_true rfl) (Nat.le_of_ble_eq_true rfl) (by decide) (cs_X10_at hG (oa_af h2 hA) (fun _ _ _ _ h => h)) rfl (fun _ h => nomatch h) (fun S326 v327 hz328 hx329 hG330 hB331 hA332 => ?_)
      have rl333 := rel_af hrel (oa_af h2 hA) hB331
      have er334 := (hB331.2.2.2.1 (by decide)).2.trans er0
      have cn335 := cn_af hcn (oa_af hc1 hA) (oa_af h2 hA) hB331
      refine tt_pop dL_law_778 rfl ?_
      refine tt_goto (tgt := 810) dL_law_779 rfl ?_
      exact tt_loc (ks := [0, 1, 2, 3, 4]) rfl (hJ S326 k n hG330 hA332 rl333 cn335 (by rw [er334]; omega) (by rw [er334]; omega))
    · skip
      refine tt_aload_n (j := 3) dL_law_782 rfl ?_
      refine tt_aload_n (j := 4) dL_law_783 rfl ?_
      refine tt_iload (j := 0) dL_law_784 rfl ?_
      refine tt_iconst (v := 1) dL_law_786 rfl ?_
      refine tt_iadd dL_law_787 ?_
      refine tt_sld (xi := (b, L, xs)) dL_law_788 (sc_in hx hL) ?_
      refine tt_aload_n (j := 1) dL_law_789 rfl ?_
      refine gt_SW (As := [.ref o1, .int (xs (x4 + 1).toNatClampNeg), .ref o3]) dL_law_790 ca_L_119 ⟨by decide, by decide⟩ hA (Nat.le_of_ble_eq_true rfl) (Nat.le_of_ble_eq_true rfl) (by decide) (by omega) (by omega) (cw_L_value hG (oa_af h1 hA) (oa_af h3 hA) (fun _ _ _ _ h => h)) (fun S336 z337 hz338 hG339 hB340 hA341 => ?_)
      have rl342 := rel_af hrel (oa_af h2 hA) hB340
      have er343 := (hB340.2.2.2.1 (by decide)).2.trans er0
      have cn344 := cn_af hcn (oa_af hc1 hA) (oa_af h2 hA) hB340
      refine tt_istore (ks := [0, 1, 2, 3, 4, 5]) (L' := [(5, .int z337), (4, .int x4), (3, .ref o3), (2, .ref o2), (1, .ref o1), (0, .ref b)]) dL_law_793 (by decide) rfl ?_
      refine tt_aload_n (j := 3) dL_law_795 rfl ?_
      refine tt_aload_n (j := 5) dL_law_796 rfl ?_
      refine tt_iload (j := 1) dL_law_797 rfl ?_
      refine tt_iconst (v := 1) dL_law_799 rfl ?_
      refine tt_iadd dL_law_800 ?_
      refine tt_sld (xi := (b, L, xs)) dL_law_801 (sc_in hx hL) ?_
      refine gt_VJ (As := [.int (xs (x4 + 1).toNatClampNeg)]) dL_law_802 ca_L_121 ⟨by decide, by decide⟩ h2 hA341 rfl (Nat.le_of_ble_eq_true rfl) (Nat.le_of_ble_eq_true rfl) (by decide) (cs_X10_value hG339 (oa_af h2 hA341) (fun _ _ _ _ h => h)) rfl (fun _ h => nomatch h) (fun S345 v346 hx348 hG349 hB350 hA351 => ?_)
      have rl352 := rel_af rl342 (oa_af h2 hA341) hB350
      have er353 := (hB350.2.2.2.1 (by decide)).2.trans er343
      have cn354 := cn_af cn344 (oa_af hc1 hA341) (oa_af h2 hA341) hB350
      refine tt_lstore (ks := [0, 1, 2, 3, 4, 5, 6]) (L' := [(6, .long v346), (5, .int z337), (4, .int x4), (3, .ref o3), (2, .ref o2), (1, .ref o1), (0, .ref b)]) dL_law_805 (by decide) rfl ?_
      refine tt_goto (tgt := 810) dL_law_807 rfl ?_
      exact tt_loc (ks := [2, 3, 4, 5, 6]) rfl (hJ S345 (k - 1) (n - 6) hG349 hA351 rl352 cn354 (by rw [er353]; omega) (by rw [er353]; omega))
    · skip
      exact tt_loc (ks := [0, 1, 2, 3, 4]) rfl (hJ S k n hG hA hrel hcn (by rw [er0]; omega) (by rw [er0]; omega))
set_option maxHeartbeats 4000000 in
theorem law_true {b L : Nat} {xs : Nat → Int32} (hL : L ≤ 4096) : TT (b, L, xs) M_law 0 [(0, .ref b)] [] S_0 601024 7293034 PL := by
  have hG0 : GI S_0 [] := fun a ha => nomatch ha
  refine tt_newo (k1 := 601023) (n1 := 7293029) dL_law_0 nl_L_8 (by decide) (by decide) (fun a1 ha1 => ?_)
  refine tt_dup dL_law_3 rfl ?_
  refine tt_callI (As := []) (Mid := fun r T _ _ => r = .inl none ∧ GI T [] ∧ Oa T [] 9 0 a1 ∧ (∃ c, hp_R T 576 a1 = some c ∧ Oa T [] 1 0 c ∧ hp_I T 65 c = 0)) (k1 := 26) (n1 := 670) (k2 := 600997) (n2 := 7292359) dL_law_4 ca_L_52 ⟨by decide, by decide⟩ (Nat.le_of_ble_eq_true rfl) (Nat.le_of_ble_eq_true rfl) (by decide) (by decide) (cc_9 (gi_o hG0 ha1) in_o (fun q h => nomatch h) (fun h => nomatch h) k_o zf_o (kc := 26) (nc := 670) (by decide) (by decide) (fun T u1 u2 u3 u4 => ⟨rfl, u1, u2, u4⟩)) (fun v T1 x y hw => ?_) (fun X T hw => by obtain ⟨e, -⟩ := hw; cases e)
  obtain ⟨e1, g1, g2, c1, r5, r6, r7⟩ := hw
  cases e1
  show TT (b, L, xs) M_law 7 [(0, .ref b)] [.ref a1] T1 600997 7292359 PL
  refine tt_astore_n (ks := [0, 1]) (L' := [(1, .ref a1), (0, .ref b)]) dL_law_7 (by decide) rfl ?_
  refine tt_newo (k1 := 600996) (n1 := 7292322) dL_law_8 nl_L_53 (by decide) (by decide) (fun a2 ha2 => ?_)
  refine tt_dup dL_law_11 rfl ?_
  refine tt_callI (As := []) (Mid := fun r T _ _ => r = .inl none ∧ GI T [] ∧ Oa T [] 10 0 a2 ∧ Cf a2 (nw_o T1 10 a2) T ∧ hp_I T 663 a2 = 0 ∧ hp_I T 642 a2 = 0) (k1 := 13) (n1 := 21218) (k2 := 600983) (n2 := 7271104) dL_law_12 ca_L_55 ⟨by decide, by decide⟩ (Nat.le_of_ble_eq_true rfl) (Nat.le_of_ble_eq_true rfl) (by decide) (by decide) (cc_10 (gi_o g1 ha2) in_o (fun q h => nomatch h) (fun h => nomatch h) k_o zf_o (kc := 13) (nc := 21218) (by decide) (by decide) (fun T u1 u2 u3 u4 u5 => ⟨rfl, u1, u2, u3, u5, u4⟩)) (fun v T2 x y hw => ?_) (fun X T hw => by obtain ⟨e, -⟩ := hw; cases e)
  obtain ⟨e2, g3, g4, g5, g6, g9⟩ := hw
  cases e2
  have cn2 := cn_new ha2 g5
  show TT (b, L, xs) M_law 15 [(1, .ref a1), (0, .ref b)] [.ref a2] T2 600983 7271104 PL
  refine tt_astore_n (ks := [0, 1, 2]) (L' := [(2, .ref a2), (1, .ref a1), (0, .ref b)]) dL_law_15 (by decide) rfl ?_
  refine tt_iconst (v := 1) dL_law_16 rfl ?_
  refine gn_J (k1 := 600982) (n1 := 7271103) dL_law_17 ka_long (by decide) (len := 1) rfl (by decide) (by decide) (by decide) g3 (fun q h => nomatch h) (fun a3 T3 g7 cn3 g8 => ?_)
  refine tt_astore_n (ks := [0, 1, 2, 3]) (L' := [(3, .ref a3), (2, .ref a2), (1, .ref a1), (0, .ref b)]) dL_law_19 (by decide) rfl ?_
  refine tt_iconst (v := 0) dL_law_20 rfl ?_
  refine tt_istore (ks := [0, 1, 2, 3, 4]) (L' := [(4, .int 0), (3, .ref a3), (2, .ref a2), (1, .ref a1), (0, .ref b)]) dL_law_21 (by decide) rfl ?_
  have ox := oa_cn (oa_cn g2 cn2) cn3
  have om := oa_cn g4 cn3
  obtain ⟨l1, r1, p1⟩ := gi_R (k := 579) g7 ox 4 0
  obtain ⟨pa, r2, p2⟩ := gi_R (k := 258) g7 p1 35 200
  have hn := nl_le (hp_r T3 pa)
  have e0 : (4104 - (0 : Int32).toInt).toNat = 4104 := rfl
  exact law_loop hL _ 0 T3 _ _ rfl ⟨by decide, by decide⟩ g7 ox om g8 (fun q => absurd (((cn3.2.1 a2 g4.1).2 663).trans g6) q) (pa := pa) (by rw [r1]; exact r2) (((cn3.2.1 a1 (l_cn g2.1 cn2)).1 576).trans (((cn2.2.1 a1 g2.1).1 576).trans r5)) (oa_cn (oa_cn r6 cn2) cn3) ((((cn3.2.1 c1 (l_cn r6.1 cn2)).2 65).trans (((cn2.2.1 c1 r6.1).2 65).trans r7)).trans (((cn3.2.1 a2 g4.1).2 642).trans g9).symm) (by rw [e0]; omega) (by rw [e0]; omega)
