section LWH
variable {xi : SX} {M N : MD} {pc : Nat} {L : List (Nat × Value)} {rest As : List Value} {S S0 T : Hp} {i k0 n0 : Nat} {P : Po} {E ws vs : List Nat} {cz : Int32 → Prop}
theorem gt_SW (h : decode (md_c M) pc = .ok (.invokestatic i, 3)) (hcv : CTW (md_y M).cls i N As.length) (hrm : RM M N) (hA : Af E ws S0 S) (hlen : (lg_sl As).length ≤ md_L N) (hr8 : (rest.map fun v => v.category).sum ≤ 8) (hs : ∀ k ∈ vs, k ∈ ws) (hk : 1 ≤ k0) (hn : 6 ≤ n0) (kx : TT xi N 0 (lv_args 0 As) [] S 1 6 (PW E vs S cz)) (kk : ∀ (T : Hp) (z : Int32), cz z → GI T E → Af E vs S T → Af E ws S0 T → TT xi M (pc + 3) L (.int z :: rest) T (k0 - 1) (n0 - 6) P) : TT xi M pc L (As.reverse ++ rest) S k0 n0 P := by
  refine tt_callSW (k1 := 1) (n1 := 6) (k2 := k0 - 1) (n2 := n0 - 6) h hcv hrm hlen hr8 (by omega) (by omega) kx (fun v T x y hw => ?_) (fun X T hw => ?_)
  · obtain ⟨g1, g2, z, e, hz⟩ := hw
    cases e
    exact kk T z hz g1 g2 (af_tr hA g2 hs)
  · obtain ⟨g1, g2, z, e, hz⟩ := hw
    cases e
theorem gt_SX {cx : Int32 → Hp → Prop} (h : decode (md_c M) pc = .ok (.invokestatic i, 3)) (hcv : CTW (md_y M).cls i N As.length) (hrm : RM M N) (hA : Af E ws S0 S) (hlen : (lg_sl As).length ≤ md_L N) (hr8 : (rest.map fun v => v.category).sum ≤ 8) (hs : ∀ k ∈ vs, k ∈ ws) (hk : 1 ≤ k0) (hn : 6 ≤ n0) (kx : TT xi N 0 (lv_args 0 As) [] S 1 6 (PX E vs S cx)) (kk : ∀ (T : Hp) (z : Int32), cx z T → GI T E → Af E vs S T → Af E ws S0 T → TT xi M (pc + 3) L (.int z :: rest) T (k0 - 1) (n0 - 6) P) : TT xi M pc L (As.reverse ++ rest) S k0 n0 P := by
  refine tt_callSW (k1 := 1) (n1 := 6) (k2 := k0 - 1) (n2 := n0 - 6) h hcv hrm hlen hr8 (by omega) (by omega) kx (fun v T x y hw => ?_) (fun X T hw => ?_)
  · obtain ⟨g1, g2, z, e, hz⟩ := hw
    cases e
    exact kk T z hz g1 g2 (af_tr hA g2 hs)
  · obtain ⟨g1, g2, z, e, hz⟩ := hw
    cases e
theorem cn_af {c o kd n kd2 n2 : Nat} (h : hp_I S 65 c = hp_I S 642 o) (oc : Oa S E kd n c) (om : Oa S E kd2 n2 o) (hB : Af E vs S T) (h1 : 65 ∉ vs := by decide) (h2 : 642 ∉ vs := by decide) : hp_I T 65 c = hp_I T 642 o := (i_af oc hB h1).trans (h.trans (i_af om hB h2).symm)
abbrev Fx (t b1 b2 n : Int32) : Prop := (t = 1 ∧ ¬ Rg 0 16 n ∧ b2 = b1) ∨ (t = 2 ∧ Rg 0 16 n ∧ 200 < b1.toInt + n.toInt ∧ b2 = b1) ∨ (t = 0 ∧ Rg 0 16 n ∧ b1.toInt + n.toInt ≤ 200 ∧ b2.toInt = b1.toInt + n.toInt)
theorem fc_o {t a0 a1 a2 b0 b1 b2 n : Int32} (hc : a0 = b0) (hs : a0.toInt + n.toInt ≤ 200) (hr : Rg 0 16 n) (fo : a1.toInt = a0.toInt + n.toInt) (s2 : b1 = b0) (ea : a2 = a1) (hx : Fx t b1 b2 n) : a2 = b2 ∧ t = 0 := by
  subst hc s2 ea
  rcases hx with ⟨-, h, -⟩ | ⟨-, -, h, -⟩ | ⟨h1, -, -, h⟩
  · exact absurd hr h
  · omega
  · exact ⟨Int32.toInt_inj.mp (by omega), h1⟩
theorem fc_k {t a0 a1 a2 b1 b2 n : Int32} (hc : a1 = b1) (e1 : a1 = a0) (hs : ¬ a0.toInt + n.toInt ≤ 200) (hr : Rg 0 16 n) (ea : a2 = a1) (hx : Fx t b1 b2 n) : a2 = b2 ∧ t = 2 := by
  subst hc e1 ea
  rcases hx with ⟨-, h, -⟩ | ⟨h1, -, -, h⟩ | ⟨-, -, h, -⟩
  · exact absurd hr h
  · exact ⟨h.symm, h1⟩
  · exact absurd h hs
theorem fc_n {t a1 a2 b1 b2 n : Int32} (hc : a1 = b1) (hr : ¬ Rg 0 16 n) (ea : a2 = a1) (hx : Fx t b1 b2 n) : a2 = b2 ∧ t = 1 := by
  subst hc ea
  rcases hx with ⟨h1, -, h⟩ | ⟨-, h, -⟩ | ⟨-, h, -⟩
  · exact ⟨h.symm, h1⟩
  · exact absurd h hr
  · exact absurd h hr
abbrev Rel (S : Hp) (o : Nat) : Prop := ¬ hp_I S 663 o = 0 → ¬ hp_I S 664 o = -1
theorem rel_af {o kd n : Nat} (h : Rel S o) (ho : Oa S E kd n o) (hA : Af E vs S T) (h1 : 663 ∉ vs := by decide) (h2 : 664 ∉ vs := by decide) : Rel T o := by
  unfold Rel
  rw [i_af ho hA h1, i_af ho hA h2]
  exact h
theorem rel_go {o kd n : Nat} (h : Rel S o) (ho : Oa S E kd n o) (hA : Af E vs S T) (h1 : 663 ∉ vs := by decide) (h2 : 9997 ∉ vs := by decide) : Rel T o := by
  intro q
  rw [i_af ho hA h1] at q
  exact he_af ho hA (h q) h2
theorem pa_af {o n pa : Nat} (hG : GI S E) (ho : Oa S E 9 n o) (hA : Af E ws S T) (h : (hp_R S 579 o).bind (fun q => hp_R S 258 q) = some pa) : (hp_R T 579 o).bind (fun q => hp_R T 258 q) = some pa := by
  obtain ⟨b, h1, h2⟩ := gi_R (k := 579) hG ho 4 0
  rw [r_af ho hA h1]
  rw [h1] at h
  exact (r_af h2 hA rfl).trans h
end LWH
theorem lw_in {L : Nat} {x : Int32} (hL : L ≤ 4096) (hx : Rg 0 4104 x) (h : ¬ Int32.ofNat L - 8 < x) : 0 ≤ x.toInt ∧ x.toInt + 8 ≤ (L : Int) := by
  obtain ⟨x1, x2⟩ := hx
  rw [Int32.lt_iff_toInt_lt] at h
  have e1 : (Int32.ofNat L).toInt = (L : Int) := by
    rw [Int32.toInt_ofNat_of_lt (by omega)]
  have e2 : (Int32.ofNat L - 8).toInt = (L : Int) - 8 := by
    rw [Int32.toInt_sub, e1, show (8 : Int32).toInt = 8 from rfl, bmod_in (by omega) (by omega)]
  rw [e2] at h
  omega
theorem sc_in {L : Nat} {x j : Int32} (h : 0 ≤ x.toInt ∧ x.toInt + 8 ≤ (L : Int)) (hL : L ≤ 4096) (h1 : 0 ≤ j.toInt := by decide) (h2 : j.toInt ≤ 7 := by decide) : vp_in (x + j) L := by
  obtain ⟨x1, x2⟩ := h
  have e : (x + j).toInt = x.toInt + j.toInt := by rw [Int32.toInt_add, bmod_in (by omega) (by omega)]
  intro q
  rcases q with q | q
  · have := Int32.lt_iff_toInt_lt.mp q
    have e0 : (0 : Int32).toInt = 0 := rfl
    omega
  · have e2 : (x + j).toNatClampNeg = (x + j).toInt.toNat := rfl
    omega
theorem sc_0 {L : Nat} {x : Int32} (h : 0 ≤ x.toInt ∧ x.toInt + 8 ≤ (L : Int)) : vp_in x L := by
  obtain ⟨x1, x2⟩ := h
  intro q
  rcases q with q | q
  · have := Int32.lt_iff_toInt_lt.mp q
    have e0 : (0 : Int32).toInt = 0 := rfl
    omega
  · have e2 : x.toNatClampNeg = x.toInt.toNat := rfl
    omega
theorem lw_up {L : Nat} {x : Int32} (h : 0 ≤ x.toInt ∧ x.toInt + 8 ≤ (L : Int)) (hL : L ≤ 4096) : (x + 8).toInt = x.toInt + 8 := by
  rw [Int32.toInt_add, show (8 : Int32).toInt = 8 from rfl, bmod_in (by omega) (by omega)]
abbrev PL : Po := fun r _ _ _ => r = .inl (some (.int 1))
set_option maxHeartbeats 8000000 in
theorem law_loop {b L : Nat} {xs : Nat → Int32} (hL : L ≤ 4096) {o1 o2 o3 pa c1 : Nat} : ∀ (nn : Nat) (x4 : Int32) (S : Hp) (k n : Nat), (4104 - x4.toInt).toNat = nn → Rg 0 4104 x4 → GI S [] → Oa S [] 9 0 o1 → Oa S [] 10 0 o2 → Oa S [] 33 1 o3 → Rel S o2 → (hp_R S 579 o1).bind (fun q => hp_R S 258 q) = some pa → hp_R S 576 o1 = some c1 → Oa S [] 1 0 c1 → hp_I S 65 c1 = hp_I S 642 o2 → 5 * nl (hp_r S pa) + (4104 - x4.toInt).toNat ≤ k → 82 * nl (hp_r S pa) + 6 * (4104 - x4.toInt).toNat ≤ n → TT (b, L, xs) M_law 23 [(4, .int x4), (3, .ref o3), (2, .ref o2), (1, .ref o1), (0, .ref b)] [] S k n PL := by
  intro nn
  induction nn using Nat.strongRecOn with
  | ind nn ih =>
    intro x4 S k n hm hx4 hG h1 h2 h3 hrel hpa hrc hc1 hcn hkb hnb
    subst hm
    have hA : Af [] [65, 193, 194, 195, 196, 197, 198, 199, 200, 201, 202, 203, 204, 321, 322, 388, 389, 390, 391, 392, 393, 515, 516, 517, 640, 642, 653, 654, 655, 656, 657, 658, 659, 661, 662, 663, 664, 667, 668, 669, 670, 671, 672, 673, 674, 675, 676, 9995, 9996, 9997, 9998, 9999] S S := af_rf
    have er0 : hp_r S = hp_r S := rfl
    refine tt_iload (j := 0) dL_law_23 rfl ?_
    refine tt_aload_n (j := 4) dL_law_25 rfl ?_
    refine tt_slen (xi := (b, L, xs)) dL_law_26 ?_
    refine tt_bipush (v := 8) dL_law_27 rfl ?_
    refine tt_isub dL_law_29 ?_
    refine tt_icmp_gt (tgt := 788) dL_law_30 rfl (fun q => ?_) (fun q => ?_)
    · refine tt_iconst (v := 1) dL_law_788 rfl ?_
      exact tt_ireturn dL_law_789 .boolean rfl rfl rfl
    have hx := lw_in hL hx4 q
    have hm1 : 8 ≤ (4104 - x4.toInt).toNat := by omega
    have hJ : ∀ (T : Hp) (k9 n9 : Nat), GI T [] → Af [] [65, 193, 194, 195, 196, 197, 198, 199, 200, 201, 202, 203, 204, 321, 322, 388, 389, 390, 391, 392, 393, 515, 516, 517, 640, 642, 653, 654, 655, 656, 657, 658, 659, 661, 662, 663, 664, 667, 668, 669, 670, 671, 672, 673, 674, 675, 676, 9995, 9996, 9997, 9998, 9999] S T → Rel T o2 → hp_I T 65 c1 = hp_I T 642 o2 → 5 * nl (hp_r T pa) + (4104 - x4.toInt).toNat ≤ k9 + 1 → 82 * nl (hp_r T pa) + 6 * (4104 - x4.toInt).toNat ≤ n9 + 6 → TT (b, L, xs) M_law 782 [(4, .int x4), (3, .ref o3), (2, .ref o2), (1, .ref o1), (0, .ref b)] [] T k9 n9 PL := by
      intro T k9 n9 g1 g2 g3 g6 g4 g5
      have e8 := lw_up hx hL
      refine tt_iinc (j := 0) (v := (x4 + 8)) (ks := [0, 1, 2, 3, 4]) (L' := [(4, .int (x4 + 8)), (3, .ref o3), (2, .ref o2), (1, .ref o1), (0, .ref b)]) dL_law_782 rfl rfl (by decide) rfl ?_
      refine tt_goto (tgt := 23) dL_law_785 rfl ?_
      exact ih _ (by rw [e8]; omega) (x4 + 8) T k9 n9 rfl ⟨by rw [e8]; omega, by rw [e8]; omega⟩ g1 (oa_af h1 g2) (oa_af h2 g2) (oa_af h3 g2) g3 (pa_af hG h1 g2 hpa) (r_af h1 g2 hrc) (oa_af hc1 g2) g6 (by rw [e8]; omega) (by rw [e8]; omega)
    refine tt_aload_n (j := 4) dL_law_33 rfl ?_
    refine tt_iload (j := 0) dL_law_34 rfl ?_
    refine tt_sld (xi := (b, L, xs)) dL_law_36 (sc_0 hx) ?_
    refine tt_bipush (v := 15) dL_law_37 rfl ?_
    refine tt_iand dL_law_39 ?_
    refine gt_ts [116, 192, 205, 366, 391, 431, 459, 472, 497, 549, 633, 644, 713, 741, 754, 782] dL_law_40 (by decide) (by decide) (fa_cons ?_ (fa_cons ?_ (fa_cons ?_ (fa_cons ?_ (fa_cons ?_ (fa_cons ?_ (fa_cons ?_ (fa_cons ?_ (fa_cons ?_ (fa_cons ?_ (fa_cons ?_ (fa_cons ?_ (fa_cons ?_ (fa_cons ?_ (fa_cons ?_ (fa_cons ?_ fa_nil))))))))))))))))
    · skip
      refine tt_aload_n (j := 3) dL_law_116 rfl ?_
      refine tt_aload_n (j := 4) dL_law_117 rfl ?_
      refine tt_iload (j := 0) dL_law_118 rfl ?_
      refine tt_iconst (v := 1) dL_law_120 rfl ?_
      refine tt_iadd dL_law_121 ?_
      refine tt_sld (xi := (b, L, xs)) dL_law_122 (sc_in hx hL) ?_
      refine tt_aload_n (j := 4) dL_law_123 rfl ?_
      refine tt_iload (j := 0) dL_law_124 rfl ?_
      refine tt_iconst (v := 2) dL_law_126 rfl ?_
      refine tt_iadd dL_law_127 ?_
      refine tt_sld (xi := (b, L, xs)) dL_law_128 (sc_in hx hL) ?_
      refine tt_aload_n (j := 4) dL_law_129 rfl ?_
      refine tt_iload (j := 0) dL_law_130 rfl ?_
      refine tt_iconst (v := 3) dL_law_132 rfl ?_
      refine tt_iadd dL_law_133 ?_
      refine tt_sld (xi := (b, L, xs)) dL_law_134 (sc_in hx hL) ?_
      refine tt_aload_n (j := 4) dL_law_135 rfl ?_
      refine tt_iload (j := 0) dL_law_136 rfl ?_
      refine tt_iconst (v := 4) dL_law_138 rfl ?_
      refine tt_iadd dL_law_139 ?_
      refine tt_sld (xi := (b, L, xs)) dL_law_140 (sc_in hx hL) ?_
      refine tt_aload_n (j := 4) dL_law_141 rfl ?_
      refine tt_iload (j := 0) dL_law_142 rfl ?_
      refine tt_iconst (v := 5) dL_law_144 rfl ?_
      refine tt_iadd dL_law_145 ?_
      refine tt_sld (xi := (b, L, xs)) dL_law_146 (sc_in hx hL) ?_
      refine tt_aload_n (j := 1) dL_law_147 rfl ?_
      by_cases hr9 : Rg 0 16 (xs (x4 + 1).toNatClampNeg)
      · by_cases hs9 : (hp_I S 65 c1).toInt + (xs (x4 + 1).toNatClampNeg).toInt ≤ 200
        · skip
          refine gt_SX (As := [.ref o1, .int (xs (x4 + 1).toNatClampNeg), .int (xs (x4 + 2).toNatClampNeg), .int (xs (x4 + 3).toNatClampNeg), .int (xs (x4 + 4).toNatClampNeg), .int (xs (x4 + 5).toNatClampNeg), .ref o3]) dL_law_148 ca_L_56 ⟨by decide, by decide⟩ hA (Nat.le_of_ble_eq_true rfl) (Nat.le_of_ble_eq_true rfl) (by decide) (by omega) (by omega) (cwo_L_feed hG (oa_af h1 hA) hr9 (oa_af h3 hA) (fun c hc => by obtain rfl : c1 = c := Option.some.inj ((r_af h1 hA hrc).symm.trans hc); exact hs9) (fun _ _ _ _ h => h)) (fun S1 z2 hz3 hG4 hB5 hA6 => ?_)
          have rl7 := rel_af hrel (oa_af h2 hA) hB5
          have er8 := (hB5.2.2.2.1 (by decide)).2.trans er0
          obtain ⟨hz3, hz9⟩ := hz3
          obtain ⟨fo10, fj12⟩ := hz9 c1 (r_af h1 hA hrc)
          have s211 := i_af (k := 642) (oa_af h2 hA) hB5
          obtain rfl : z2 = 0 := hz3
          refine tt_istore (ks := [0, 1, 2, 3, 4, 5]) (L' := [(5, .int 0), (4, .int x4), (3, .ref o3), (2, .ref o2), (1, .ref o1), (0, .ref b)]) dL_law_151 (by decide) rfl ?_
          refine tt_aload_n (j := 3) dL_law_153 rfl ?_
          refine tt_aload_n (j := 5) dL_law_154 rfl ?_
          refine tt_iload (j := 1) dL_law_155 rfl ?_
          refine tt_iconst (v := 1) dL_law_157 rfl ?_
          refine tt_iadd dL_law_158 ?_
          refine tt_sld (xi := (b, L, xs)) dL_law_159 (sc_in hx hL) ?_
          refine tt_aload_n (j := 5) dL_law_160 rfl ?_
          refine tt_iload (j := 1) dL_law_161 rfl ?_
          refine tt_iconst (v := 2) dL_law_163 rfl ?_
          refine tt_iadd dL_law_164 ?_
          refine tt_sld (xi := (b, L, xs)) dL_law_165 (sc_in hx hL) ?_
          refine tt_aload_n (j := 5) dL_law_166 rfl ?_
          refine tt_iload (j := 1) dL_law_167 rfl ?_
          refine tt_iconst (v := 3) dL_law_169 rfl ?_
          refine tt_iadd dL_law_170 ?_
          refine tt_sld (xi := (b, L, xs)) dL_law_171 (sc_in hx hL) ?_
          refine tt_aload_n (j := 5) dL_law_172 rfl ?_
          refine tt_iload (j := 1) dL_law_173 rfl ?_
          refine tt_iconst (v := 4) dL_law_175 rfl ?_
          refine tt_iadd dL_law_176 ?_
          refine tt_sld (xi := (b, L, xs)) dL_law_177 (sc_in hx hL) ?_
          refine tt_aload_n (j := 5) dL_law_178 rfl ?_
          refine tt_iload (j := 1) dL_law_179 rfl ?_
          refine tt_iconst (v := 5) dL_law_181 rfl ?_
          refine tt_iadd dL_law_182 ?_
          refine tt_sld (xi := (b, L, xs)) dL_law_183 (sc_in hx hL) ?_
          refine gt_VI (As := [.int (xs (x4 + 1).toNatClampNeg), .int (xs (x4 + 2).toNatClampNeg), .int (xs (x4 + 3).toNatClampNeg), .int (xs (x4 + 4).toNatClampNeg), .int (xs (x4 + 5).toNatClampNeg)]) dL_law_184 ca_L_61 ⟨by decide, by decide⟩ h2 hA6 rfl (Nat.le_of_ble_eq_true rfl) (Nat.le_of_ble_eq_true rfl) (by decide) (cq_X10_feed hG4 (oa_af h2 hA6) (fun _ _ _ _ h => h)) rfl (fun _ h => nomatch h) (fun S13 v14 hz15 hx16 hG17 hB18 hA19 => ?_)
          have rl20 := hx16.1 rl7
          have er21 := (hB18.2.2.2.1 (by decide)).2.trans er8
          have h622 := fc_o hcn hs9 hr9 fo10 s211 (i_af (k := 65) (oa_af hc1 hA6) hB18) hx16.2.1
          refine tt_istore (ks := [0, 1, 2, 3, 4, 5, 6]) (L' := [(6, .int v14), (5, .int 0), (4, .int x4), (3, .ref o3), (2, .ref o2), (1, .ref o1), (0, .ref b)]) dL_law_187 (by decide) rfl ?_
          refine tt_goto (tgt := 782) dL_law_189 rfl ?_
          exact tt_loc (ks := [2, 3, 4, 5, 6]) rfl (hJ S13 (k - 1) (n - 6) hG17 hA19 rl20 h622.1 (by rw [er21]; omega) (by rw [er21]; omega))
        · skip
          refine gt_SW (As := [.ref o1, .int (xs (x4 + 1).toNatClampNeg), .int (xs (x4 + 2).toNatClampNeg), .int (xs (x4 + 3).toNatClampNeg), .int (xs (x4 + 4).toNatClampNeg), .int (xs (x4 + 5).toNatClampNeg), .ref o3]) dL_law_148 ca_L_56 ⟨by decide, by decide⟩ hA (Nat.le_of_ble_eq_true rfl) (Nat.le_of_ble_eq_true rfl) (by decide) (by omega) (by omega) (cwk_L_feed hG (oa_af h1 hA) hr9 (oa_af h3 hA) (fun c hc => by obtain rfl : c1 = c := Option.some.inj ((r_af h1 hA hrc).symm.trans hc); omega) (fun _ _ _ _ h => h)) (fun S23 z24 hz25 hG26 hB27 hA28 => ?_)
          have rl29 := rel_af hrel (oa_af h2 hA) hB27
          have er30 := (hB27.2.2.2.1 (by decide)).2.trans er0
          have cn31 := cn_af hcn (oa_af hc1 hA) (oa_af h2 hA) hB27
          obtain rfl : z24 = 2 := hz25
          refine tt_istore (ks := [0, 1, 2, 3, 4, 5]) (L' := [(5, .int 2), (4, .int x4), (3, .ref o3), (2, .ref o2), (1, .ref o1), (0, .ref b)]) dL_law_151 (by decide) rfl ?_
          refine tt_aload_n (j := 3) dL_law_153 rfl ?_
          refine tt_aload_n (j := 5) dL_law_154 rfl ?_
          refine tt_iload (j := 1) dL_law_155 rfl ?_
          refine tt_iconst (v := 1) dL_law_157 rfl ?_
          refine tt_iadd dL_law_158 ?_
          refine tt_sld (xi := (b, L, xs)) dL_law_159 (sc_in hx hL) ?_
          refine tt_aload_n (j := 5) dL_law_160 rfl ?_
          refine tt_iload (j := 1) dL_law_161 rfl ?_
          refine tt_iconst (v := 2) dL_law_163 rfl ?_
          refine tt_iadd dL_law_164 ?_
          refine tt_sld (xi := (b, L, xs)) dL_law_165 (sc_in hx hL) ?_
          refine tt_aload_n (j := 5) dL_law_166 rfl ?_
          refine tt_iload (j := 1) dL_law_167 rfl ?_
          refine tt_iconst (v := 3) dL_law_169 rfl ?_
          refine tt_iadd dL_law_170 ?_
          refine tt_sld (xi := (b, L, xs)) dL_law_171 (sc_in hx hL) ?_
          refine tt_aload_n (j := 5) dL_law_172 rfl ?_
          refine tt_iload (j := 1) dL_law_173 rfl ?_
          refine tt_iconst (v := 4) dL_law_175 rfl ?_
          refine tt_iadd dL_law_176 ?_
          refine tt_sld (xi := (b, L, xs)) dL_law_177 (sc_in hx hL) ?_
          refine tt_aload_n (j := 5) dL_law_178 rfl ?_
          refine tt_iload (j := 1) dL_law_179 rfl ?_
          refine tt_iconst (v := 5) dL_law_181 rfl ?_
          refine tt_iadd dL_law_182 ?_
          refine tt_sld (xi := (b, L, xs)) dL_law_183 (sc_in hx hL) ?_
          refine gt_VI (As := [.int (xs (x4 + 1).toNatClampNeg), .int (xs (x4 + 2).toNatClampNeg), .int (xs (x4 + 3).toNatClampNeg), .int (xs (x4 + 4).toNatClampNeg), .int (xs (x4 + 5).toNatClampNeg)]) dL_law_184 ca_L_61 ⟨by decide, by decide⟩ h2 hA28 rfl (Nat.le_of_ble_eq_true rfl) (Nat.le_of_ble_eq_true rfl) (by decide) (cq_X10_feed hG26 (oa_af h2 hA28) (fun _ _ _ _ h => h)) rfl (fun _ h => nomatch h) (fun S32 v33 hz34 hx35 hG36 hB37 hA38 => ?_)
          have rl39 := hx35.1 rl29
          have er40 := (hB37.2.2.2.1 (by decide)).2.trans er30
          have h641 := fc_k cn31 (i_af (k := 65) (oa_af hc1 hA) hB27) hs9 hr9 (i_af (k := 65) (oa_af hc1 hA28) hB37) hx35.2.1
          refine tt_istore (ks := [0, 1, 2, 3, 4, 5, 6]) (L' := [(6, .int v33), (5, .int 2), (4, .int x4), (3, .ref o3), (2, .ref o2), (1, .ref o1), (0, .ref b)]) dL_law_187 (by decide) rfl ?_
          refine tt_goto (tgt := 782) dL_law_189 rfl ?_
          exact tt_loc (ks := [2, 3, 4, 5, 6]) rfl (hJ S32 (k - 1) (n - 6) hG36 hA38 rl39 h641.1 (by rw [er40]; omega) (by rw [er40]; omega))
      · skip
        refine gt_SW (As := [.ref o1, .int (xs (x4 + 1).toNatClampNeg), .int (xs (x4 + 2).toNatClampNeg), .int (xs (x4 + 3).toNatClampNeg), .int (xs (x4 + 4).toNatClampNeg), .int (xs (x4 + 5).toNatClampNeg), .ref o3]) dL_law_148 ca_L_56 ⟨by decide, by decide⟩ hA (Nat.le_of_ble_eq_true rfl) (Nat.le_of_ble_eq_true rfl) (by decide) (by omega) (by omega) (cwn_L_feed hG (oa_af h1 hA) (oa_af h3 hA) hr9 (fun _ _ _ _ h => h)) (fun S42 z43 hz44 hG45 hB46 hA47 => ?_)
        have rl48 := rel_af hrel (oa_af h2 hA) hB46
        have er49 := (hB46.2.2.2.1 (by decide)).2.trans er0
        have cn50 := cn_af hcn (oa_af hc1 hA) (oa_af h2 hA) hB46
        obtain rfl : z43 = 1 := hz44
        refine tt_istore (ks := [0, 1, 2, 3, 4, 5]) (L' := [(5, .int 1), (4, .int x4), (3, .ref o3), (2, .ref o2), (1, .ref o1), (0, .ref b)]) dL_law_151 (by decide) rfl ?_
        refine tt_aload_n (j := 3) dL_law_153 rfl ?_
        refine tt_aload_n (j := 5) dL_law_154 rfl ?_
        refine tt_iload (j := 1) dL_law_155 rfl ?_
        refine tt_iconst (v := 1) dL_law_157 rfl ?_
        refine tt_iadd dL_law_158 ?_
        refine tt_sld (xi := (b, L, xs)) dL_law_159 (sc_in hx hL) ?_
        refine tt_aload_n (j := 5) dL_law_160 rfl ?_
        refine tt_iload (j := 1) dL_law_161 rfl ?_
        refine tt_iconst (v := 2) dL_law_163 rfl ?_
        refine tt_iadd dL_law_164 ?_
        refine tt_sld (xi := (b, L, xs)) dL_law_165 (sc_in hx hL) ?_
        refine tt_aload_n (j := 5) dL_law_166 rfl ?_
        refine tt_iload (j := 1) dL_law_167 rfl ?_
        refine tt_iconst (v := 3) dL_law_169 rfl ?_
        refine tt_iadd dL_law_170 ?_
        refine tt_sld (xi := (b, L, xs)) dL_law_171 (sc_in hx hL) ?_
        refine tt_aload_n (j := 5) dL_law_172 rfl ?_
        refine tt_iload (j := 1) dL_law_173 rfl ?_
        refine tt_iconst (v := 4) dL_law_175 rfl ?_
        refine tt_iadd dL_law_176 ?_
        refine tt_sld (xi := (b, L, xs)) dL_law_177 (sc_in hx hL) ?_
        refine tt_aload_n (j := 5) dL_law_178 rfl ?_
        refine tt_iload (j := 1) dL_law_179 rfl ?_
        refine tt_iconst (v := 5) dL_law_181 rfl ?_
        refine tt_iadd dL_law_182 ?_
        refine tt_sld (xi := (b, L, xs)) dL_law_183 (sc_in hx hL) ?_
        refine gt_VI (As := [.int (xs (x4 + 1).toNatClampNeg), .int (xs (x4 + 2).toNatClampNeg), .int (xs (x4 + 3).toNatClampNeg), .int (xs (x4 + 4).toNatClampNeg), .int (xs (x4 + 5).toNatClampNeg)]) dL_law_184 ca_L_61 ⟨by decide, by decide⟩ h2 hA47 rfl (Nat.le_of_ble_eq_true rfl) (Nat.le_of_ble_eq_true rfl) (by decide) (cq_X10_feed hG45 (oa_af h2 hA47) (fun _ _ _ _ h => h)) rfl (fun _ h => nomatch h) (fun S51 v52 hz53 hx54 hG55 hB56 hA57 => ?_)
        have rl58 := hx54.1 rl48
        have er59 := (hB56.2.2.2.1 (by decide)).2.trans er49
        have h660 := fc_n cn50 hr9 (i_af (k := 65) (oa_af hc1 hA47) hB56) hx54.2.1
        refine tt_istore (ks := [0, 1, 2, 3, 4, 5, 6]) (L' := [(6, .int v52), (5, .int 1), (4, .int x4), (3, .ref o3), (2, .ref o2), (1, .ref o1), (0, .ref b)]) dL_law_187 (by decide) rfl ?_
        refine tt_goto (tgt := 782) dL_law_189 rfl ?_
        exact tt_loc (ks := [2, 3, 4, 5, 6]) rfl (hJ S51 (k - 1) (n - 6) hG55 hA57 rl58 h660.1 (by rw [er59]; omega) (by rw [er59]; omega))
    · skip
      refine tt_aload_n (j := 3) dL_law_192 rfl ?_
      refine gt_VI (As := []) dL_law_193 ca_L_62 ⟨by decide, by decide⟩ h1 hA rfl (Nat.le_of_ble_eq_true rfl) (Nat.le_of_ble_eq_true rfl) (by decide) (cq_X9_erase hG (oa_af h1 hA) (fun _ _ _ _ h => h)) rfl (fun _ h => nomatch h) (fun S61 v62 hz63 hx64 hG65 hB66 hA67 => ?_)
      have rl68 := rel_af hrel (oa_af h2 hA) hB66
      have er69 := (hB66.2.2.2.1 (by decide)).2.trans er0
      obtain ⟨ev70, ec71⟩ := hx64 c1 (r_af h1 hA hrc)
      have e72 := ei_v _ ev70
      have s273 := i_af (k := 642) (oa_af h2 hA) hB66
      refine tt_aload_n (j := 2) dL_law_196 rfl ?_
      refine gt_VI (As := []) dL_law_197 ca_L_66 ⟨by decide, by decide⟩ h2 hA67 rfl (Nat.le_of_ble_eq_true rfl) (Nat.le_of_ble_eq_true rfl) (by decide) (cq_X10_erase hG65 (oa_af h2 hA67) (fun _ _ _ _ h => h)) rfl (fun _ h => nomatch h) (fun S74 v75 hz76 hx77 hG78 hB79 hA80 => ?_)
      have rl81 := hx77.1 rl68
      have er82 := (hB79.2.2.2.1 (by decide)).2.trans er69
      have e83 := (e72.symm.trans (hcn.trans s273.symm)).trans (ei_v _ hx77.2.1)
      have cn84 := ((i_af (k := 65) (oa_af hc1 hA67) hB79).trans ec71).trans hx77.2.2.symm
      refine tt_icmp_eq (tgt := 782) dL_law_200 rfl (fun _ => ?_) (fun q => absurd e83 q)
      exact tt_loc (ks := [0, 1, 2, 3, 4]) rfl (hJ S74 k n hG78 hA80 rl81 cn84 (by rw [er82]; omega) (by rw [er82]; omega))
    · skip
      refine tt_aload_n (j := 3) dL_law_205 rfl ?_
      refine tt_aload_n (j := 4) dL_law_206 rfl ?_
      refine tt_iload (j := 0) dL_law_207 rfl ?_
      refine tt_iconst (v := 1) dL_law_209 rfl ?_
      refine tt_iadd dL_law_210 ?_
      refine tt_sld (xi := (b, L, xs)) dL_law_211 (sc_in hx hL) ?_
      refine tt_aload_n (j := 4) dL_law_212 rfl ?_
      refine tt_iload (j := 0) dL_law_213 rfl ?_
      refine tt_iconst (v := 2) dL_law_215 rfl ?_
      refine tt_iadd dL_law_216 ?_
      refine tt_sld (xi := (b, L, xs)) dL_law_217 (sc_in hx hL) ?_
      refine tt_i2l dL_law_218 ?_
      refine tt_bipush (v := 32) dL_law_219 rfl ?_
      refine tt_lshl dL_law_221 ?_
      refine tt_aload_n (j := 4) dL_law_222 rfl ?_
      refine tt_iload (j := 0) dL_law_223 rfl ?_
      refine tt_iconst (v := 3) dL_law_225 rfl ?_
      refine tt_iadd dL_law_226 ?_
      refine tt_sld (xi := (b, L, xs)) dL_law_227 (sc_in hx hL) ?_
      refine tt_i2l dL_law_228 ?_
      refine tt_ldc2 (v := 4294967295) dL_law_229 kl_L_67 ?_
      refine tt_land dL_law_232 ?_
      refine tt_lor dL_law_233 ?_
      refine tt_aload_n (j := 4) dL_law_234 rfl ?_
      refine tt_iload (j := 0) dL_law_235 rfl ?_
      refine tt_iconst (v := 4) dL_law_237 rfl ?_
      refine tt_iadd dL_law_238 ?_
      refine tt_sld (xi := (b, L, xs)) dL_law_239 (sc_in hx hL) ?_
      refine tt_i2l dL_law_240 ?_
      refine tt_bipush (v := 32) dL_law_241 rfl ?_
      refine tt_lshl dL_law_243 ?_
      refine tt_aload_n (j := 4) dL_law_244 rfl ?_
      refine tt_iload (j := 0) dL_law_245 rfl ?_
      refine tt_iconst (v := 5) dL_law_247 rfl ?_
      refine tt_iadd dL_law_248 ?_
      refine tt_sld (xi := (b, L, xs)) dL_law_249 (sc_in hx hL) ?_
      refine tt_i2l dL_law_250 ?_
      refine tt_ldc2 (v := 4294967295) dL_law_251 kl_L_67 ?_
      refine tt_land dL_law_254 ?_
      refine tt_lor dL_law_255 ?_
      refine tt_aload_n (j := 4) dL_law_256 rfl ?_
      refine tt_iload (j := 0) dL_law_257 rfl ?_
      refine tt_bipush (v := 6) dL_law_259 rfl ?_
      refine tt_iadd dL_law_261 ?_
      refine tt_sld (xi := (b, L, xs)) dL_law_262 (sc_in hx hL) ?_
      refine tt_i2l dL_law_263 ?_
      refine tt_bipush (v := 32) dL_law_264 rfl ?_
      refine tt_lshl dL_law_266 ?_
      refine tt_aload_n (j := 4) dL_law_267 rfl ?_
      refine tt_iload (j := 0) dL_law_268 rfl ?_
      refine tt_bipush (v := 7) dL_law_270 rfl ?_
      refine tt_iadd dL_law_272 ?_
      refine tt_sld (xi := (b, L, xs)) dL_law_273 (sc_in hx hL) ?_
      refine tt_i2l dL_law_274 ?_
      refine tt_ldc2 (v := 4294967295) dL_law_275 kl_L_67 ?_
      refine tt_land dL_law_278 ?_
      refine tt_lor dL_law_279 ?_
      refine gt_SW (As := [.ref o1, .int (xs (x4 + 1).toNatClampNeg), .long ((((xs (x4 + 2).toNatClampNeg) : Int32).toInt64 <<< ((32 : Int32).toInt64 &&& 63)) ||| (((xs (x4 + 3).toNatClampNeg) : Int32).toInt64 &&& 4294967295)), .long ((((xs (x4 + 4).toNatClampNeg) : Int32).toInt64 <<< ((32 : Int32).toInt64 &&& 63)) ||| (((xs (x4 + 5).toNatClampNeg) : Int32).toInt64 &&& 4294967295)), .long ((((xs (x4 + 6).toNatClampNeg) : Int32).toInt64 <<< ((32 : Int32).toInt64 &&& 63)) ||| (((xs (x4 + 7).toNatClampNeg) : Int32).toInt64 &&& 4294967295))]) dL_law_280 ca_L_69 ⟨by decide, by decide⟩ hA (Nat.le_of_ble_eq_true rfl) (Nat.le_of_ble_eq_true rfl) (by decide) (by omega) (by omega) (cw_L_given hG (oa_af h1 hA) (fun _ _ _ _ h => h)) (fun S85 z86 hz87 hG88 hB89 hA90 => ?_)
      have rl91 := rel_af hrel (oa_af h2 hA) hB89
      have er92 := (hB89.2.2.2.1 (by decide)).2.trans er0
      have cn93 := cn_af hcn (oa_af hc1 hA) (oa_af h2 hA) hB89
      refine tt_istore (ks := [0, 1, 2, 3, 4, 5]) (L' := [(5, .int z86), (4, .int x4), (3, .ref o3), (2, .ref o2), (1, .ref o1), (0, .ref b)]) dL_law_283 (by decide) rfl ?_
      refine tt_aload_n (j := 3) dL_law_285 rfl ?_
      refine tt_aload_n (j := 5) dL_law_286 rfl ?_
      refine tt_iload (j := 1) dL_law_287 rfl ?_
      refine tt_iconst (v := 1) dL_law_289 rfl ?_
      refine tt_iadd dL_law_290 ?_
      refine tt_sld (xi := (b, L, xs)) dL_law_291 (sc_in hx hL) ?_
      refine tt_aload_n (j := 5) dL_law_292 rfl ?_
      refine tt_iload (j := 1) dL_law_293 rfl ?_
      refine tt_iconst (v := 2) dL_law_295 rfl ?_
      refine tt_iadd dL_law_296 ?_
      refine tt_sld (xi := (b, L, xs)) dL_law_297 (sc_in hx hL) ?_
      refine tt_i2l dL_law_298 ?_
      refine tt_bipush (v := 32) dL_law_299 rfl ?_
      refine tt_lshl dL_law_301 ?_
      refine tt_aload_n (j := 5) dL_law_302 rfl ?_
      refine tt_iload (j := 1) dL_law_303 rfl ?_
      refine tt_iconst (v := 3) dL_law_305 rfl ?_
      refine tt_iadd dL_law_306 ?_
      refine tt_sld (xi := (b, L, xs)) dL_law_307 (sc_in hx hL) ?_
      refine tt_i2l dL_law_308 ?_
      refine tt_ldc2 (v := 4294967295) dL_law_309 kl_L_67 ?_
      refine tt_land dL_law_312 ?_
      refine tt_lor dL_law_313 ?_
      refine tt_aload_n (j := 5) dL_law_314 rfl ?_
      refine tt_iload (j := 1) dL_law_315 rfl ?_
      refine tt_iconst (v := 4) dL_law_317 rfl ?_
      refine tt_iadd dL_law_318 ?_
      refine tt_sld (xi := (b, L, xs)) dL_law_319 (sc_in hx hL) ?_
      refine tt_i2l dL_law_320 ?_
      refine tt_bipush (v := 32) dL_law_321 rfl ?_
      refine tt_lshl dL_law_323 ?_
      refine tt_aload_n (j := 5) dL_law_324 rfl ?_
      refine tt_iload (j := 1) dL_law_325 rfl ?_
      refine tt_iconst (v := 5) dL_law_327 rfl ?_
      refine tt_iadd dL_law_328 ?_
      refine tt_sld (xi := (b, L, xs)) dL_law_329 (sc_in hx hL) ?_
      refine tt_i2l dL_law_330 ?_
      refine tt_ldc2 (v := 4294967295) dL_law_331 kl_L_67 ?_
      refine tt_land dL_law_334 ?_
      refine tt_lor dL_law_335 ?_
      refine tt_aload_n (j := 5) dL_law_336 rfl ?_
      refine tt_iload (j := 1) dL_law_337 rfl ?_
      refine tt_bipush (v := 6) dL_law_339 rfl ?_
      refine tt_iadd dL_law_341 ?_
      refine tt_sld (xi := (b, L, xs)) dL_law_342 (sc_in hx hL) ?_
      refine tt_i2l dL_law_343 ?_
      refine tt_bipush (v := 32) dL_law_344 rfl ?_
      refine tt_lshl dL_law_346 ?_
      refine tt_aload_n (j := 5) dL_law_347 rfl ?_
      refine tt_iload (j := 1) dL_law_348 rfl ?_
      refine tt_bipush (v := 7) dL_law_350 rfl ?_
      refine tt_iadd dL_law_352 ?_
      refine tt_sld (xi := (b, L, xs)) dL_law_353 (sc_in hx hL) ?_
      refine tt_i2l dL_law_354 ?_
      refine tt_ldc2 (v := 4294967295) dL_law_355 kl_L_67 ?_
      refine tt_land dL_law_358 ?_
      refine tt_lor dL_law_359 ?_
      refine gt_Vv (As := [.int (xs (x4 + 1).toNatClampNeg), .long ((((xs (x4 + 2).toNatClampNeg) : Int32).toInt64 <<< ((32 : Int32).toInt64 &&& 63)) ||| (((xs (x4 + 3).toNatClampNeg) : Int32).toInt64 &&& 4294967295)), .long ((((xs (x4 + 4).toNatClampNeg) : Int32).toInt64 <<< ((32 : Int32).toInt64 &&& 63)) ||| (((xs (x4 + 5).toNatClampNeg) : Int32).toInt64 &&& 4294967295)), .long ((((xs (x4 + 6).toNatClampNeg) : Int32).toInt64 <<< ((32 : Int32).toInt64 &&& 63)) ||| (((xs (x4 + 7).toNatClampNeg) : Int32).toInt64 &&& 4294967295))]) dL_law_360 ca_L_72 ⟨by decide, by decide⟩ h2 hA90 rfl (Nat.le_of_ble_eq_true rfl) (Nat.le_of_ble_eq_true rfl) (by decide) (cs_X10_given hG88 (oa_af h2 hA90) (fun _ _ _ _ h => h)) rfl (fun _ h => nomatch h) (fun S94 hx97 hG98 hB99 hA100 => ?_)
      have rl101 := rel_af rl91 (oa_af h2 hA90) hB99
      have er102 := (hB99.2.2.2.1 (by decide)).2.trans er92
      have cn103 := cn_af cn93 (oa_af hc1 hA90) (oa_af h2 hA90) hB99
      refine tt_goto (tgt := 782) dL_law_363 rfl ?_
      exact tt_loc (ks := [1, 2, 3, 4, 5]) rfl (hJ S94 (k - 1) (n - 6) hG98 hA100 rl101 cn103 (by rw [er102]; omega) (by rw [er102]; omega))
    · skip
      refine tt_aload_n (j := 3) dL_law_366 rfl ?_
      refine tt_aload_n (j := 4) dL_law_367 rfl ?_
      refine tt_iload (j := 0) dL_law_368 rfl ?_
      refine tt_iconst (v := 1) dL_law_370 rfl ?_
      refine tt_iadd dL_law_371 ?_
      refine tt_sld (xi := (b, L, xs)) dL_law_372 (sc_in hx hL) ?_
      refine gt_SW (As := [.ref o1, .int (xs (x4 + 1).toNatClampNeg)]) dL_law_373 ca_L_73 ⟨by decide, by decide⟩ hA (Nat.le_of_ble_eq_true rfl) (Nat.le_of_ble_eq_true rfl) (by decide) (by omega) (by omega) (cw_L_any hG (oa_af h1 hA) (fun _ _ _ _ h => h)) (fun S104 z105 hz106 hG107 hB108 hA109 => ?_)
      have rl110 := rel_af hrel (oa_af h2 hA) hB108
      have er111 := (hB108.2.2.2.1 (by decide)).2.trans er0
      have cn112 := cn_af hcn (oa_af hc1 hA) (oa_af h2 hA) hB108
      refine tt_istore (ks := [0, 1, 2, 3, 4, 5]) (L' := [(5, .int z105), (4, .int x4), (3, .ref o3), (2, .ref o2), (1, .ref o1), (0, .ref b)]) dL_law_376 (by decide) rfl ?_
      refine tt_aload_n (j := 3) dL_law_378 rfl ?_
      refine tt_aload_n (j := 5) dL_law_379 rfl ?_
      refine tt_iload (j := 1) dL_law_380 rfl ?_
      refine tt_iconst (v := 1) dL_law_382 rfl ?_
      refine tt_iadd dL_law_383 ?_
      refine tt_sld (xi := (b, L, xs)) dL_law_384 (sc_in hx hL) ?_
      refine gt_Vv (As := [.int (xs (x4 + 1).toNatClampNeg)]) dL_law_385 ca_L_76 ⟨by decide, by decide⟩ h2 hA109 rfl (Nat.le_of_ble_eq_true rfl) (Nat.le_of_ble_eq_true rfl) (by decide) (cs_X10_any hG107 (oa_af h2 hA109) (fun _ _ _ _ h => h)) rfl (fun _ h => nomatch h) (fun S113 hx116 hG117 hB118 hA119 => ?_)
      have rl120 := rel_af rl110 (oa_af h2 hA109) hB118
      have er121 := (hB118.2.2.2.1 (by decide)).2.trans er111
      have cn122 := cn_af cn112 (oa_af hc1 hA109) (oa_af h2 hA109) hB118
      refine tt_goto (tgt := 782) dL_law_388 rfl ?_
      exact tt_loc (ks := [1, 2, 3, 4, 5]) rfl (hJ S113 (k - 1) (n - 6) hG117 hA119 rl120 cn122 (by rw [er121]; omega) (by rw [er121]; omega))
    · skip
      refine tt_aload_n (j := 3) dL_law_391 rfl ?_
      refine tt_aload_n (j := 4) dL_law_392 rfl ?_
      refine tt_iload (j := 0) dL_law_393 rfl ?_
      refine tt_iconst (v := 1) dL_law_395 rfl ?_
      refine tt_iadd dL_law_396 ?_
      refine tt_sld (xi := (b, L, xs)) dL_law_397 (sc_in hx hL) ?_
      refine tt_aload_n (j := 4) dL_law_398 rfl ?_
      refine tt_iload (j := 0) dL_law_399 rfl ?_
      refine tt_iconst (v := 2) dL_law_401 rfl ?_
      refine tt_iadd dL_law_402 ?_
      refine tt_sld (xi := (b, L, xs)) dL_law_403 (sc_in hx hL) ?_
      refine tt_aload_n (j := 1) dL_law_404 rfl ?_
      refine gt_SW (As := [.ref o1, .int (xs (x4 + 1).toNatClampNeg), .int (xs (x4 + 2).toNatClampNeg), .ref o3]) dL_law_405 ca_L_77 ⟨by decide, by decide⟩ hA (Nat.le_of_ble_eq_true rfl) (Nat.le_of_ble_eq_true rfl) (by decide) (by omega) (by omega) (cw_L_decode hG (oa_af h1 hA) (oa_af h3 hA) (fun _ _ _ _ h => h)) (fun S123 z124 hz125 hG126 hB127 hA128 => ?_)
      have rl129 := rel_af hrel (oa_af h2 hA) hB127
      have er130 := (hB127.2.2.2.1 (by decide)).2.trans er0
      have cn131 := cn_af hcn (oa_af hc1 hA) (oa_af h2 hA) hB127
      refine tt_istore (ks := [0, 1, 2, 3, 4, 5]) (L' := [(5, .int z124), (4, .int x4), (3, .ref o3), (2, .ref o2), (1, .ref o1), (0, .ref b)]) dL_law_408 (by decide) rfl ?_
      refine tt_aload_n (j := 3) dL_law_410 rfl ?_
      refine tt_aload_n (j := 5) dL_law_411 rfl ?_
      refine tt_iload (j := 1) dL_law_412 rfl ?_
      refine tt_iconst (v := 1) dL_law_414 rfl ?_
      refine tt_iadd dL_law_415 ?_
      refine tt_sld (xi := (b, L, xs)) dL_law_416 (sc_in hx hL) ?_
      refine tt_aload_n (j := 5) dL_law_417 rfl ?_
      refine tt_iload (j := 1) dL_law_418 rfl ?_
      refine tt_iconst (v := 2) dL_law_420 rfl ?_
      refine tt_iadd dL_law_421 ?_
      refine tt_sld (xi := (b, L, xs)) dL_law_422 (sc_in hx hL) ?_
      refine gt_VI (As := [.int (xs (x4 + 1).toNatClampNeg), .int (xs (x4 + 2).toNatClampNeg)]) dL_law_423 ca_L_80 ⟨by decide, by decide⟩ h2 hA128 rfl (Nat.le_of_ble_eq_true rfl) (Nat.le_of_ble_eq_true rfl) (by decide) (cs_X10_decode hG126 (oa_af h2 hA128) (fun _ _ _ _ h => h)) rfl (fun _ h => nomatch h) (fun S132 v133 hz134 hx135 hG136 hB137 hA138 => ?_)
      have rl139 := rel_af rl129 (oa_af h2 hA128) hB137
      have er140 := (hB137.2.2.2.1 (by decide)).2.trans er130
      have cn141 := cn_af cn131 (oa_af hc1 hA128) (oa_af h2 hA128) hB137
      refine tt_istore (ks := [0, 1, 2, 3, 4, 5, 6]) (L' := [(6, .int v133), (5, .int z124), (4, .int x4), (3, .ref o3), (2, .ref o2), (1, .ref o1), (0, .ref b)]) dL_law_426 (by decide) rfl ?_
      refine tt_goto (tgt := 782) dL_law_428 rfl ?_
      exact tt_loc (ks := [2, 3, 4, 5, 6]) rfl (hJ S132 (k - 1) (n - 6) hG136 hA138 rl139 cn141 (by rw [er140]; omega) (by rw [er140]; omega))
    · skip
      refine tt_aload_n (j := 3) dL_law_431 rfl ?_
      refine tt_aload_n (j := 4) dL_law_432 rfl ?_
      refine tt_iload (j := 0) dL_law_433 rfl ?_
      refine tt_iconst (v := 1) dL_law_435 rfl ?_
      refine tt_iadd dL_law_436 ?_
      refine tt_sld (xi := (b, L, xs)) dL_law_437 (sc_in hx hL) ?_
      refine tt_aload_n (j := 1) dL_law_438 rfl ?_
      refine gt_SW (As := [.ref o1, .int (xs (x4 + 1).toNatClampNeg), .ref o3]) dL_law_439 ca_L_81 ⟨by decide, by decide⟩ hA (Nat.le_of_ble_eq_true rfl) (Nat.le_of_ble_eq_true rfl) (by decide) (by omega) (by omega) (cw_L_constant hG (oa_af h1 hA) (oa_af h3 hA) (fun _ _ _ _ h => h)) (fun S142 z143 hz144 hG145 hB146 hA147 => ?_)
      have rl148 := rel_af hrel (oa_af h2 hA) hB146
      have er149 := (hB146.2.2.2.1 (by decide)).2.trans er0
      have cn150 := cn_af hcn (oa_af hc1 hA) (oa_af h2 hA) hB146
      refine tt_istore (ks := [0, 1, 2, 3, 4, 5]) (L' := [(5, .int z143), (4, .int x4), (3, .ref o3), (2, .ref o2), (1, .ref o1), (0, .ref b)]) dL_law_442 (by decide) rfl ?_
      refine tt_aload_n (j := 3) dL_law_444 rfl ?_
      refine tt_aload_n (j := 5) dL_law_445 rfl ?_
      refine tt_iload (j := 1) dL_law_446 rfl ?_
      refine tt_iconst (v := 1) dL_law_448 rfl ?_
      refine tt_iadd dL_law_449 ?_
      refine tt_sld (xi := (b, L, xs)) dL_law_450 (sc_in hx hL) ?_
      refine gt_VJ (As := [.int (xs (x4 + 1).toNatClampNeg)]) dL_law_451 ca_L_84 ⟨by decide, by decide⟩ h2 hA147 rfl (Nat.le_of_ble_eq_true rfl) (Nat.le_of_ble_eq_true rfl) (by decide) (cs_X10_constant hG145 (oa_af h2 hA147) (fun _ _ _ _ h => h)) rfl (fun _ h => nomatch h) (fun S151 v152 hx154 hG155 hB156 hA157 => ?_)
      have rl158 := rel_af rl148 (oa_af h2 hA147) hB156
      have er159 := (hB156.2.2.2.1 (by decide)).2.trans er149
      have cn160 := cn_af cn150 (oa_af hc1 hA147) (oa_af h2 hA147) hB156
      refine tt_lstore (ks := [0, 1, 2, 3, 4, 5, 6]) (L' := [(6, .long v152), (5, .int z143), (4, .int x4), (3, .ref o3), (2, .ref o2), (1, .ref o1), (0, .ref b)]) dL_law_454 (by decide) rfl ?_
      refine tt_goto (tgt := 782) dL_law_456 rfl ?_
      exact tt_loc (ks := [2, 3, 4, 5, 6]) rfl (hJ S151 (k - 1) (n - 6) hG155 hA157 rl158 cn160 (by rw [er159]; omega) (by rw [er159]; omega))
    · skip
      refine tt_aload_n (j := 3) dL_law_459 rfl ?_
      refine gt_AI (pa := pa) (As := []) dL_law_460 ca_L_85 ⟨by decide, by decide⟩ h1 hA rfl (Nat.le_of_ble_eq_true rfl) (Nat.le_of_ble_eq_true rfl) (by decide) (cs_X9_look rfl hG (oa_af h1 hA) (pa_af hG h1 hA hpa) (by rw [er0]; omega) (by rw [er0]; omega) (fun _ _ _ _ h => h)) rfl (fun S161 v162 k168 n169 hz163 hG165 hB166 hA167 bd170 => ?_)
      have rl171 := rel_af hrel (oa_af h2 hA) hB166
      have er172 : hp_r S161 = hp_r S161 := rfl
      have cn173 := cn_af hcn (oa_af hc1 hA) (oa_af h2 hA) hB166
      refine tt_pop dL_law_463 rfl ?_
      refine tt_aload_n (j := 2) dL_law_464 rfl ?_
      refine gt_VI (As := []) dL_law_465 ca_L_88 ⟨by decide, by decide⟩ h2 hA167 rfl (Nat.le_of_ble_eq_true rfl) (Nat.le_of_ble_eq_true rfl) (by decide) (cs_X10_look hG165 (oa_af h2 hA167) (fun _ _ _ _ h => h)) rfl (fun _ h => nomatch h) (fun S174 v175 hz176 hx177 hG178 hB179 hA180 => ?_)
      have rl181 := rel_af rl171 (oa_af h2 hA167) hB179
      have er182 := (hB179.2.2.2.1 (by decide)).2.trans er172
      have cn183 := cn_af cn173 (oa_af hc1 hA167) (oa_af h2 hA167) hB179
      refine tt_pop dL_law_468 rfl ?_
      refine tt_goto (tgt := 782) dL_law_469 rfl ?_
      exact tt_loc (ks := [0, 1, 2, 3, 4]) rfl (hJ S174 k168 n169 hG178 hA180 rl181 cn183 (by have q1 := bd170.1; have q2 := bd170.2; rw [er182]; omega) (by have q1 := bd170.1; have q2 := bd170.2; rw [er182]; omega))
    · skip
      refine tt_aload_n (j := 3) dL_law_472 rfl ?_
      refine tt_aload_n (j := 4) dL_law_473 rfl ?_
      refine tt_iload (j := 0) dL_law_474 rfl ?_
      refine tt_iconst (v := 1) dL_law_476 rfl ?_
      refine tt_iadd dL_law_477 ?_
      refine tt_sld (xi := (b, L, xs)) dL_law_478 (sc_in hx hL) ?_
      refine gt_VIp (As := [.int (xs (x4 + 1).toNatClampNeg)]) dL_law_479 ca_L_89 ⟨by decide, by decide⟩ h1 hA rfl (Nat.le_of_ble_eq_true rfl) (Nat.le_of_ble_eq_true rfl) (by decide) (cs_X9_reached hG (oa_af h1 hA) (fun _ _ _ _ h => h)) rfl (fun _ h => nomatch h) (fun _ _ q => q) (fun v185 hz186 hx187 => ?_)
      refine tt_pop dL_law_482 rfl ?_
      refine tt_aload_n (j := 2) dL_law_483 rfl ?_
      refine tt_aload_n (j := 4) dL_law_484 rfl ?_
      refine tt_iload (j := 0) dL_law_485 rfl ?_
      refine tt_iconst (v := 1) dL_law_487 rfl ?_
      refine tt_iadd dL_law_488 ?_
      refine tt_sld (xi := (b, L, xs)) dL_law_489 (sc_in hx hL) ?_
      refine gt_VI (As := [.int (xs (x4 + 1).toNatClampNeg)]) dL_law_490 ca_L_92 ⟨by decide, by decide⟩ h2 hA rfl (Nat.le_of_ble_eq_true rfl) (Nat.le_of_ble_eq_true rfl) (by decide) (cs_X10_reached hG (oa_af h2 hA) (fun _ _ _ _ h => h)) rfl (fun _ h => nomatch h) (fun S191 v192 hz193 hx194 hG195 hB196 hA197 => ?_)
      have rl198 := rel_af hrel (oa_af h2 hA) hB196
      have er199 := (hB196.2.2.2.1 (by decide)).2.trans er0
      have cn200 := cn_af hcn (oa_af hc1 hA) (oa_af h2 hA) hB196
      refine tt_pop dL_law_493 rfl ?_
      refine tt_goto (tgt := 782) dL_law_494 rfl ?_
      exact tt_loc (ks := [0, 1, 2, 3, 4]) rfl (hJ S191 k n hG195 hA197 rl198 cn200 (by rw [er199]; omega) (by rw [er199]; omega))
    · skip
      refine tt_aload_n (j := 3) dL_law_497 rfl ?_
      refine tt_aload_n (j := 4) dL_law_498 rfl ?_
      refine tt_iload (j := 0) dL_law_499 rfl ?_
      refine tt_iconst (v := 1) dL_law_501 rfl ?_
      refine tt_iadd dL_law_502 ?_
      refine tt_sld (xi := (b, L, xs)) dL_law_503 (sc_in hx hL) ?_
      refine tt_aload_n (j := 4) dL_law_504 rfl ?_
      refine tt_iload (j := 0) dL_law_505 rfl ?_
      refine tt_iconst (v := 2) dL_law_507 rfl ?_
      refine tt_iadd dL_law_508 ?_
      refine tt_sld (xi := (b, L, xs)) dL_law_509 (sc_in hx hL) ?_
      refine tt_aload_n (j := 4) dL_law_510 rfl ?_
      refine tt_iload (j := 0) dL_law_511 rfl ?_
      refine tt_iconst (v := 3) dL_law_513 rfl ?_
      refine tt_iadd dL_law_514 ?_
      refine tt_sld (xi := (b, L, xs)) dL_law_515 (sc_in hx hL) ?_
      refine tt_aload_n (j := 1) dL_law_516 rfl ?_
      refine gt_SW (As := [.ref o1, .int (xs (x4 + 1).toNatClampNeg), .int (xs (x4 + 2).toNatClampNeg), .int (xs (x4 + 3).toNatClampNeg), .ref o3]) dL_law_517 ca_L_93 ⟨by decide, by decide⟩ hA (Nat.le_of_ble_eq_true rfl) (Nat.le_of_ble_eq_true rfl) (by decide) (by omega) (by omega) (cw_L_set hG (oa_af h1 hA) (oa_af h3 hA) (fun _ _ _ _ h => h)) (fun S201 z202 hz203 hG204 hB205 hA206 => ?_)
      have rl207 := rel_af hrel (oa_af h2 hA) hB205
      have er208 := (hB205.2.2.2.1 (by decide)).2.trans er0
      have cn209 := cn_af hcn (oa_af hc1 hA) (oa_af h2 hA) hB205
      refine tt_istore (ks := [0, 1, 2, 3, 4, 5]) (L' := [(5, .int z202), (4, .int x4), (3, .ref o3), (2, .ref o2), (1, .ref o1), (0, .ref b)]) dL_law_520 (by decide) rfl ?_
      refine tt_aload_n (j := 3) dL_law_522 rfl ?_
      refine tt_aload_n (j := 5) dL_law_523 rfl ?_
      refine tt_iload (j := 1) dL_law_524 rfl ?_
      refine tt_iconst (v := 1) dL_law_526 rfl ?_
      refine tt_iadd dL_law_527 ?_
      refine tt_sld (xi := (b, L, xs)) dL_law_528 (sc_in hx hL) ?_
      refine tt_aload_n (j := 5) dL_law_529 rfl ?_
      refine tt_iload (j := 1) dL_law_530 rfl ?_
      refine tt_iconst (v := 2) dL_law_532 rfl ?_
      refine tt_iadd dL_law_533 ?_
      refine tt_sld (xi := (b, L, xs)) dL_law_534 (sc_in hx hL) ?_
      refine tt_aload_n (j := 5) dL_law_535 rfl ?_
      refine tt_iload (j := 1) dL_law_536 rfl ?_
      refine tt_iconst (v := 3) dL_law_538 rfl ?_
      refine tt_iadd dL_law_539 ?_
      refine tt_sld (xi := (b, L, xs)) dL_law_540 (sc_in hx hL) ?_
      refine gt_VJ (As := [.int (xs (x4 + 1).toNatClampNeg), .int (xs (x4 + 2).toNatClampNeg), .int (xs (x4 + 3).toNatClampNeg)]) dL_law_541 ca_L_96 ⟨by decide, by decide⟩ h2 hA206 rfl (Nat.le_of_ble_eq_true rfl) (Nat.le_of_ble_eq_true rfl) (by decide) (cs_X10_set hG204 (oa_af h2 hA206) (fun _ _ _ _ h => h)) rfl (fun _ h => nomatch h) (fun S210 v211 hx213 hG214 hB215 hA216 => ?_)
      have rl217 := rel_af rl207 (oa_af h2 hA206) hB215
      have er218 := (hB215.2.2.2.1 (by decide)).2.trans er208
      have cn219 := cn_af cn209 (oa_af hc1 hA206) (oa_af h2 hA206) hB215
      refine tt_lstore (ks := [0, 1, 2, 3, 4, 5, 6]) (L' := [(6, .long v211), (5, .int z202), (4, .int x4), (3, .ref o3), (2, .ref o2), (1, .ref o1), (0, .ref b)]) dL_law_544 (by decide) rfl ?_
      refine tt_goto (tgt := 782) dL_law_546 rfl ?_
      exact tt_loc (ks := [2, 3, 4, 5, 6]) rfl (hJ S210 (k - 1) (n - 6) hG214 hA216 rl217 cn219 (by rw [er218]; omega) (by rw [er218]; omega))
    · skip
      refine tt_aload_n (j := 3) dL_law_549 rfl ?_
      refine tt_aload_n (j := 4) dL_law_550 rfl ?_
      refine tt_iload (j := 0) dL_law_551 rfl ?_
      refine tt_iconst (v := 1) dL_law_553 rfl ?_
      refine tt_iadd dL_law_554 ?_
      refine tt_sld (xi := (b, L, xs)) dL_law_555 (sc_in hx hL) ?_
      refine tt_aload_n (j := 4) dL_law_556 rfl ?_
      refine tt_iload (j := 0) dL_law_557 rfl ?_
      refine tt_iconst (v := 2) dL_law_559 rfl ?_
      refine tt_iadd dL_law_560 ?_
      refine tt_sld (xi := (b, L, xs)) dL_law_561 (sc_in hx hL) ?_
      refine tt_aload_n (j := 4) dL_law_562 rfl ?_
      refine tt_iload (j := 0) dL_law_563 rfl ?_
      refine tt_iconst (v := 3) dL_law_565 rfl ?_
      refine tt_iadd dL_law_566 ?_
      refine tt_sld (xi := (b, L, xs)) dL_law_567 (sc_in hx hL) ?_
      refine tt_i2l dL_law_568 ?_
      refine tt_bipush (v := 32) dL_law_569 rfl ?_
      refine tt_lshl dL_law_571 ?_
      refine tt_aload_n (j := 4) dL_law_572 rfl ?_
      refine tt_iload (j := 0) dL_law_573 rfl ?_
      refine tt_iconst (v := 4) dL_law_575 rfl ?_
      refine tt_iadd dL_law_576 ?_
      refine tt_sld (xi := (b, L, xs)) dL_law_577 (sc_in hx hL) ?_
      refine tt_i2l dL_law_578 ?_
      refine tt_ldc2 (v := 4294967295) dL_law_579 kl_L_67 ?_
      refine tt_land dL_law_582 ?_
      refine tt_lor dL_law_583 ?_
      refine tt_aload_n (j := 1) dL_law_584 rfl ?_
      refine gt_SW (As := [.ref o1, .int (xs (x4 + 1).toNatClampNeg), .int (xs (x4 + 2).toNatClampNeg), .long ((((xs (x4 + 3).toNatClampNeg) : Int32).toInt64 <<< ((32 : Int32).toInt64 &&& 63)) ||| (((xs (x4 + 4).toNatClampNeg) : Int32).toInt64 &&& 4294967295)), .ref o3]) dL_law_585 ca_L_97 ⟨by decide, by decide⟩ hA (Nat.le_of_ble_eq_true rfl) (Nat.le_of_ble_eq_true rfl) (by decide) (by omega) (by omega) (cw_L_has hG (oa_af h1 hA) (oa_af h3 hA) (fun _ _ _ _ h => h)) (fun S220 z221 hz222 hG223 hB224 hA225 => ?_)
      have rl226 := rel_af hrel (oa_af h2 hA) hB224
      have er227 := (hB224.2.2.2.1 (by decide)).2.trans er0
      have cn228 := cn_af hcn (oa_af hc1 hA) (oa_af h2 hA) hB224
      refine tt_istore (ks := [0, 1, 2, 3, 4, 5]) (L' := [(5, .int z221), (4, .int x4), (3, .ref o3), (2, .ref o2), (1, .ref o1), (0, .ref b)]) dL_law_588 (by decide) rfl ?_
      refine tt_aload_n (j := 3) dL_law_590 rfl ?_
      refine tt_aload_n (j := 5) dL_law_591 rfl ?_
      refine tt_iload (j := 1) dL_law_592 rfl ?_
      refine tt_iconst (v := 1) dL_law_594 rfl ?_
      refine tt_iadd dL_law_595 ?_
      refine tt_sld (xi := (b, L, xs)) dL_law_596 (sc_in hx hL) ?_
      refine tt_aload_n (j := 5) dL_law_597 rfl ?_
      refine tt_iload (j := 1) dL_law_598 rfl ?_
      refine tt_iconst (v := 2) dL_law_600 rfl ?_
      refine tt_iadd dL_law_601 ?_
      refine tt_sld (xi := (b, L, xs)) dL_law_602 (sc_in hx hL) ?_
      refine tt_aload_n (j := 5) dL_law_603 rfl ?_
      refine tt_iload (j := 1) dL_law_604 rfl ?_
      refine tt_iconst (v := 3) dL_law_606 rfl ?_
      refine tt_iadd dL_law_607 ?_
      refine tt_sld (xi := (b, L, xs)) dL_law_608 (sc_in hx hL) ?_
      refine tt_i2l dL_law_609 ?_
      refine tt_bipush (v := 32) dL_law_610 rfl ?_
      refine tt_lshl dL_law_612 ?_
      refine tt_aload_n (j := 5) dL_law_613 rfl ?_
      refine tt_iload (j := 1) dL_law_614 rfl ?_
      refine tt_iconst (v := 4) dL_law_616 rfl ?_
      refine tt_iadd dL_law_617 ?_
      refine tt_sld (xi := (b, L, xs)) dL_law_618 (sc_in hx hL) ?_
      refine tt_i2l dL_law_619 ?_
      refine tt_ldc2 (v := 4294967295) dL_law_620 kl_L_67 ?_
      refine tt_land dL_law_623 ?_
      refine tt_lor dL_law_624 ?_
      refine gt_VI (As := [.int (xs (x4 + 1).toNatClampNeg), .int (xs (x4 + 2).toNatClampNeg), .long ((((xs (x4 + 3).toNatClampNeg) : Int32).toInt64 <<< ((32 : Int32).toInt64 &&& 63)) ||| (((xs (x4 + 4).toNatClampNeg) : Int32).toInt64 &&& 4294967295))]) dL_law_625 ca_L_100 ⟨by decide, by decide⟩ h2 hA225 rfl (Nat.le_of_ble_eq_true rfl) (Nat.le_of_ble_eq_true rfl) (by decide) (cs_X10_has hG223 (oa_af h2 hA225) (fun _ _ _ _ h => h)) rfl (fun _ h => nomatch h) (fun S229 v230 hz231 hx232 hG233 hB234 hA235 => ?_)
      have rl236 := rel_af rl226 (oa_af h2 hA225) hB234
      have er237 := (hB234.2.2.2.1 (by decide)).2.trans er227
      have cn238 := cn_af cn228 (oa_af hc1 hA225) (oa_af h2 hA225) hB234
      refine tt_istore (ks := [0, 1, 2, 3, 4, 5, 6]) (L' := [(6, .int v230), (5, .int z221), (4, .int x4), (3, .ref o3), (2, .ref o2), (1, .ref o1), (0, .ref b)]) dL_law_628 (by decide) rfl ?_
      refine tt_goto (tgt := 782) dL_law_630 rfl ?_
      exact tt_loc (ks := [2, 3, 4, 5, 6]) rfl (hJ S229 (k - 1) (n - 6) hG233 hA235 rl236 cn238 (by rw [er237]; omega) (by rw [er237]; omega))
    · skip
      refine tt_aload_n (j := 3) dL_law_633 rfl ?_
      refine gt_Vv (As := []) dL_law_634 ca_L_101 ⟨by decide, by decide⟩ h1 hA rfl (Nat.le_of_ble_eq_true rfl) (Nat.le_of_ble_eq_true rfl) (by decide) (cs_X9_start hG (oa_af h1 hA) (fun _ _ _ _ h => h)) rfl (fun _ h => nomatch h) (fun S239 hx242 hG243 hB244 hA245 => ?_)
      have rl246 := rel_af hrel (oa_af h2 hA) hB244
      have er247 := (hB244.2.2.2.1 (by decide)).2.trans er0
      have cn248 := cn_af hcn (oa_af hc1 hA) (oa_af h2 hA) hB244
      refine tt_aload_n (j := 2) dL_law_637 rfl ?_
      refine gt_Vv (As := []) dL_law_638 ca_L_104 ⟨by decide, by decide⟩ h2 hA245 rfl (Nat.le_of_ble_eq_true rfl) (Nat.le_of_ble_eq_true rfl) (by decide) (cs_X10_start hG243 (oa_af h2 hA245) (fun _ _ _ _ h => h)) rfl (fun _ h => nomatch h) (fun S249 hx252 hG253 hB254 hA255 => ?_)
      have rl256 := hx252 rl246
      have er257 := (hB254.2.2.2.1 (by decide)).2.trans er247
      have cn258 := cn_af cn248 (oa_af hc1 hA245) (oa_af h2 hA245) hB254
      refine tt_goto (tgt := 782) dL_law_641 rfl ?_
      exact tt_loc (ks := [0, 1, 2, 3, 4]) rfl (hJ S249 k n hG253 hA255 rl256 cn258 (by rw [er257]; omega) (by rw [er257]; omega))
    · skip
      refine tt_aload_n (j := 3) dL_law_644 rfl ?_
      refine tt_aload_n (j := 4) dL_law_645 rfl ?_
      refine tt_iload (j := 0) dL_law_646 rfl ?_
      refine tt_iconst (v := 1) dL_law_648 rfl ?_
      refine tt_iadd dL_law_649 ?_
      refine tt_sld (xi := (b, L, xs)) dL_law_650 (sc_in hx hL) ?_
      refine tt_aload_n (j := 4) dL_law_651 rfl ?_
      refine tt_iload (j := 0) dL_law_652 rfl ?_
      refine tt_iconst (v := 2) dL_law_654 rfl ?_
      refine tt_iadd dL_law_655 ?_
      refine tt_sld (xi := (b, L, xs)) dL_law_656 (sc_in hx hL) ?_
      refine tt_i2l dL_law_657 ?_
      refine tt_bipush (v := 32) dL_law_658 rfl ?_
      refine tt_lshl dL_law_660 ?_
      refine tt_aload_n (j := 4) dL_law_661 rfl ?_
      refine tt_iload (j := 0) dL_law_662 rfl ?_
      refine tt_iconst (v := 3) dL_law_664 rfl ?_
      refine tt_iadd dL_law_665 ?_
      refine tt_sld (xi := (b, L, xs)) dL_law_666 (sc_in hx hL) ?_
      refine tt_i2l dL_law_667 ?_
      refine tt_ldc2 (v := 4294967295) dL_law_668 kl_L_67 ?_
      refine tt_land dL_law_671 ?_
      refine tt_lor dL_law_672 ?_
      refine gt_SW (As := [.ref o1, .int (xs (x4 + 1).toNatClampNeg), .long ((((xs (x4 + 2).toNatClampNeg) : Int32).toInt64 <<< ((32 : Int32).toInt64 &&& 63)) ||| (((xs (x4 + 3).toNatClampNeg) : Int32).toInt64 &&& 4294967295))]) dL_law_673 ca_L_105 ⟨by decide, by decide⟩ hA (Nat.le_of_ble_eq_true rfl) (Nat.le_of_ble_eq_true rfl) (by decide) (by omega) (by omega) (cw_L_put hG (oa_af h1 hA) (fun _ _ _ _ h => h)) (fun S259 z260 hz261 hG262 hB263 hA264 => ?_)
      have rl265 := rel_af hrel (oa_af h2 hA) hB263
      have er266 := (hB263.2.2.2.1 (by decide)).2.trans er0
      have cn267 := cn_af hcn (oa_af hc1 hA) (oa_af h2 hA) hB263
      refine tt_istore (ks := [0, 1, 2, 3, 4, 5]) (L' := [(5, .int z260), (4, .int x4), (3, .ref o3), (2, .ref o2), (1, .ref o1), (0, .ref b)]) dL_law_676 (by decide) rfl ?_
      refine tt_aload_n (j := 3) dL_law_678 rfl ?_
      refine tt_aload_n (j := 5) dL_law_679 rfl ?_
      refine tt_iload (j := 1) dL_law_680 rfl ?_
      refine tt_iconst (v := 1) dL_law_682 rfl ?_
      refine tt_iadd dL_law_683 ?_
      refine tt_sld (xi := (b, L, xs)) dL_law_684 (sc_in hx hL) ?_
      refine tt_aload_n (j := 5) dL_law_685 rfl ?_
      refine tt_iload (j := 1) dL_law_686 rfl ?_
      refine tt_iconst (v := 2) dL_law_688 rfl ?_
      refine tt_iadd dL_law_689 ?_
      refine tt_sld (xi := (b, L, xs)) dL_law_690 (sc_in hx hL) ?_
      refine tt_i2l dL_law_691 ?_
      refine tt_bipush (v := 32) dL_law_692 rfl ?_
      refine tt_lshl dL_law_694 ?_
      refine tt_aload_n (j := 5) dL_law_695 rfl ?_
      refine tt_iload (j := 1) dL_law_696 rfl ?_
      refine tt_iconst (v := 3) dL_law_698 rfl ?_
      refine tt_iadd dL_law_699 ?_
      refine tt_sld (xi := (b, L, xs)) dL_law_700 (sc_in hx hL) ?_
      refine tt_i2l dL_law_701 ?_
      refine tt_ldc2 (v := 4294967295) dL_law_702 kl_L_67 ?_
      refine tt_land dL_law_705 ?_
      refine tt_lor dL_law_706 ?_
      refine gt_Vv (As := [.int (xs (x4 + 1).toNatClampNeg), .long ((((xs (x4 + 2).toNatClampNeg) : Int32).toInt64 <<< ((32 : Int32).toInt64 &&& 63)) ||| (((xs (x4 + 3).toNatClampNeg) : Int32).toInt64 &&& 4294967295))]) dL_law_707 ca_L_108 ⟨by decide, by decide⟩ h2 hA264 rfl (Nat.le_of_ble_eq_true rfl) (Nat.le_of_ble_eq_true rfl) (by decide) (cs_X10_put hG262 (oa_af h2 hA264) (fun _ _ _ _ h => h)) rfl (fun _ h => nomatch h) (fun S268 hx271 hG272 hB273 hA274 => ?_)
      have rl275 := rel_af rl265 (oa_af h2 hA264) hB273
      have er276 := (hB273.2.2.2.1 (by decide)).2.trans er266
      have cn277 := cn_af cn267 (oa_af hc1 hA264) (oa_af h2 hA264) hB273
      refine tt_goto (tgt := 782) dL_law_710 rfl ?_
      exact tt_loc (ks := [1, 2, 3, 4, 5]) rfl (hJ S268 (k - 1) (n - 6) hG272 hA274 rl275 cn277 (by rw [er276]; omega) (by rw [er276]; omega))
    · skip
      refine tt_aload_n (j := 3) dL_law_713 rfl ?_
      refine tt_aload_n (j := 4) dL_law_714 rfl ?_
      refine tt_iload (j := 0) dL_law_715 rfl ?_
      refine tt_iconst (v := 1) dL_law_717 rfl ?_
      refine tt_iadd dL_law_718 ?_
      refine tt_sld (xi := (b, L, xs)) dL_law_719 (sc_in hx hL) ?_
      refine tt_aload_n (j := 1) dL_law_720 rfl ?_
      refine gt_SW (As := [.ref o1, .int (xs (x4 + 1).toNatClampNeg), .ref o3]) dL_law_721 ca_L_109 ⟨by decide, by decide⟩ hA (Nat.le_of_ble_eq_true rfl) (Nat.le_of_ble_eq_true rfl) (by decide) (by omega) (by omega) (cw_L_go hG (oa_af h1 hA) (oa_af h3 hA) (fun _ _ _ _ h => h)) (fun S278 z279 hz280 hG281 hB282 hA283 => ?_)
      have rl284 := rel_af hrel (oa_af h2 hA) hB282
      have er285 := (hB282.2.2.2.1 (by decide)).2.trans er0
      have cn286 := cn_af hcn (oa_af hc1 hA) (oa_af h2 hA) hB282
      refine tt_istore (ks := [0, 1, 2, 3, 4, 5]) (L' := [(5, .int z279), (4, .int x4), (3, .ref o3), (2, .ref o2), (1, .ref o1), (0, .ref b)]) dL_law_724 (by decide) rfl ?_
      refine tt_aload_n (j := 3) dL_law_726 rfl ?_
      refine tt_aload_n (j := 5) dL_law_727 rfl ?_
      refine tt_iload (j := 1) dL_law_728 rfl ?_
      refine tt_iconst (v := 1) dL_law_730 rfl ?_
      refine tt_iadd dL_law_731 ?_
      refine tt_sld (xi := (b, L, xs)) dL_law_732 (sc_in hx hL) ?_
      refine gt_VI (As := [.int (xs (x4 + 1).toNatClampNeg)]) dL_law_733 ca_L_111 ⟨by decide, by decide⟩ h2 hA283 rfl (Nat.le_of_ble_eq_true rfl) (Nat.le_of_ble_eq_true rfl) (by decide) (cs_X10_go hG281 (oa_af h2 hA283) rl284 (fun _ _ _ _ h => h)) rfl (fun _ h => nomatch h) (fun S287 v288 hz289 hx290 hG291 hB292 hA293 => ?_)
      have rl294 := rel_go rl284 (oa_af h2 hA283) hB292
      have er295 := (hB292.2.2.2.1 (by decide)).2.trans er285
      have cn296 := cn_af cn286 (oa_af hc1 hA283) (oa_af h2 hA283) hB292
      refine tt_istore (ks := [0, 1, 2, 3, 4, 5, 6]) (L' := [(6, .int v288), (5, .int z279), (4, .int x4), (3, .ref o3), (2, .ref o2), (1, .ref o1), (0, .ref b)]) dL_law_736 (by decide) rfl ?_
      refine tt_goto (tgt := 782) dL_law_738 rfl ?_
      exact tt_loc (ks := [2, 3, 4, 5, 6]) rfl (hJ S287 (k - 1) (n - 6) hG291 hA293 rl294 cn296 (by rw [er295]; omega) (by rw [er295]; omega))
    · skip
      refine tt_aload_n (j := 3) dL_law_741 rfl ?_
      refine gt_VIp (As := []) dL_law_742 ca_L_112 ⟨by decide, by decide⟩ h1 hA rfl (Nat.le_of_ble_eq_true rfl) (Nat.le_of_ble_eq_true rfl) (by decide) (cs_X9_at hG (oa_af h1 hA) (fun _ _ _ _ h => h)) rfl (fun _ h => nomatch h) (fun _ _ q => q) (fun v298 hz299 hx300 => ?_)
      refine tt_pop dL_law_745 rfl ?_
      refine tt_aload_n (j := 2) dL_law_746 rfl ?_
      refine gt_VI (As := []) dL_law_747 ca_L_115 ⟨by decide, by decide⟩ h2 hA rfl (Nat.le_of_ble_eq_true rfl) (Nat.le_of_ble_eq_true rfl) (by decide) (cs_X10_at hG (oa_af h2 hA) (fun _ _ _ _ h => h)) rfl (fun _ h => nomatch h) (fun S304 v305 hz306 hx307 hG308 hB309 hA310 => ?_)
      have rl311 := rel_af hrel (oa_af h2 hA) hB309
      have er312 := (hB309.2.2.2.1 (by decide)).2.trans er0
      have cn313 := cn_af hcn (oa_af hc1 hA) (oa_af h2 hA) hB309
      refine tt_pop dL_law_750 rfl ?_
      refine tt_goto (tgt := 782) dL_law_751 rfl ?_
      exact tt_loc (ks := [0, 1, 2, 3, 4]) rfl (hJ S304 k n hG308 hA310 rl311 cn313 (by rw [er312]; omega) (by rw [er312]; omega))
    · skip
      refine tt_aload_n (j := 3) dL_law_754 rfl ?_
      refine tt_aload_n (j := 4) dL_law_755 rfl ?_
      refine tt_iload (j := 0) dL_law_756 rfl ?_
      refine tt_iconst (v := 1) dL_law_758 rfl ?_
      refine tt_iadd dL_law_759 ?_
      refine tt_sld (xi := (b, L, xs)) dL_law_760 (sc_in hx hL) ?_
      refine tt_aload_n (j := 1) dL_law_761 rfl ?_
      refine gt_SW (As := [.ref o1, .int (xs (x4 + 1).toNatClampNeg), .ref o3]) dL_law_762 ca_L_116 ⟨by decide, by decide⟩ hA (Nat.le_of_ble_eq_true rfl) (Nat.le_of_ble_eq_true rfl) (by decide) (by omega) (by omega) (cw_L_value hG (oa_af h1 hA) (oa_af h3 hA) (fun _ _ _ _ h => h)) (fun S314 z315 hz316 hG317 hB318 hA319 => ?_)
      have rl320 := rel_af hrel (oa_af h2 hA) hB318
      have er321 := (hB318.2.2.2.1 (by decide)).2.trans er0
      have cn322 := cn_af hcn (oa_af hc1 hA) (oa_af h2 hA) hB318
      refine tt_istore (ks := [0, 1, 2, 3, 4, 5]) (L' := [(5, .int z315), (4, .int x4), (3, .ref o3), (2, .ref o2), (1, .ref o1), (0, .ref b)]) dL_law_765 (by decide) rfl ?_
      refine tt_aload_n (j := 3) dL_law_767 rfl ?_
      refine tt_aload_n (j := 5) dL_law_768 rfl ?_
      refine tt_iload (j := 1) dL_law_769 rfl ?_
      refine tt_iconst (v := 1) dL_law_771 rfl ?_
      refine tt_iadd dL_law_772 ?_
      refine tt_sld (xi := (b, L, xs)) dL_law_773 (sc_in hx hL) ?_
      refine gt_VJ (As := [.int (xs (x4 + 1).toNatClampNeg)]) dL_law_774 ca_L_118 ⟨by decide, by decide⟩ h2 hA319 rfl (Nat.le_of_ble_eq_true rfl) (Nat.le_of_ble_eq_true rfl) (by decide) (cs_X10_value hG317 (oa_af h2 hA319) (fun _ _ _ _ h => h)) rfl (fun _ h => nomatch h) (fun S323 v324 hx326 hG327 hB328 hA329 => ?_)
      have rl330 := rel_af rl320 (oa_af h2 hA319) hB328
      have er331 := (hB328.2.2.2.1 (by decide)).2.trans er321
      have cn332 := cn_af cn322 (oa_af hc1 hA319) (oa_af h2 hA319) hB328
      refine tt_lstore (ks := [0, 1, 2, 3, 4, 5, 6]) (L' := [(6, .long v324), (5, .int z315), (4, .int x4), (3, .ref o3), (2, .ref o2), (1, .ref o1), (0, .ref b)]) dL_law_777 (by decide) rfl ?_
      refine tt_goto (tgt := 782) dL_law_779 rfl ?_
      exact tt_loc (ks := [2, 3, 4, 5, 6]) rfl (hJ S323 (k - 1) (n - 6) hG327 hA329 rl330 cn332 (by rw [er331]; omega) (by rw [er331]; omega))
    · skip
      exact tt_loc (ks := [0, 1, 2, 3, 4]) rfl (hJ S k n hG hA hrel hcn (by rw [er0]; omega) (by rw [er0]; omega))
set_option maxHeartbeats 4000000 in
theorem law_true {b L : Nat} {xs : Nat → Int32} (hL : L ≤ 4096) : TT (b, L, xs) M_law 0 [(0, .ref b)] [] S_0 601024 7293034 PL := by
  have hG0 : GI S_0 [] := fun a ha => nomatch ha
  refine tt_newo (k1 := 601023) (n1 := 7293029) dL_law_0 nl_L_8 (by decide) (by decide) (fun a1 ha1 => ?_)
  refine tt_dup dL_law_3 rfl ?_
  refine tt_callI (As := []) (Mid := fun r T _ _ => r = .inl none ∧ GI T [] ∧ Oa T [] 9 0 a1 ∧ (∃ c, hp_R T 576 a1 = some c ∧ Oa T [] 1 0 c ∧ hp_I T 65 c = 0)) (k1 := 26) (n1 := 670) (k2 := 600997) (n2 := 7292359) dL_law_4 ca_L_52 ⟨by decide, by decide⟩ (Nat.le_of_ble_eq_true rfl) (Nat.le_of_ble_eq_true rfl) (by decide) (by decide) (cc_9 (gi_o hG0 ha1) in_o (fun q h => nomatch h) (fun h => nomatch h) k_o zf_o (kc := 26) (nc := 670) (by decide) (by decide) (fun T u1 u2 u3 u4 => ⟨rfl, u1, u2, u4⟩)) (fun v T1 x y hw => ?_) (fun X T hw => by obtain ⟨e, -⟩ := hw; cases e)
  obtain ⟨e1, g1, g2, c1, r5, r6, r7⟩ := hw
  cases e1
  show TT (b, L, xs) M_law 7 [(0, .ref b)] [.ref a1] T1 600997 7292359 PL
  refine tt_astore_n (ks := [0, 1]) (L' := [(1, .ref a1), (0, .ref b)]) dL_law_7 (by decide) rfl ?_
  refine tt_newo (k1 := 600996) (n1 := 7292322) dL_law_8 nl_L_53 (by decide) (by decide) (fun a2 ha2 => ?_)
  refine tt_dup dL_law_11 rfl ?_
  refine tt_callI (As := []) (Mid := fun r T _ _ => r = .inl none ∧ GI T [] ∧ Oa T [] 10 0 a2 ∧ Cf a2 (nw_o T1 10 a2) T ∧ hp_I T 663 a2 = 0 ∧ hp_I T 642 a2 = 0) (k1 := 13) (n1 := 21218) (k2 := 600983) (n2 := 7271104) dL_law_12 ca_L_55 ⟨by decide, by decide⟩ (Nat.le_of_ble_eq_true rfl) (Nat.le_of_ble_eq_true rfl) (by decide) (by decide) (cc_10 (gi_o g1 ha2) in_o (fun q h => nomatch h) (fun h => nomatch h) k_o zf_o (kc := 13) (nc := 21218) (by decide) (by decide) (fun T u1 u2 u3 u4 u5 => ⟨rfl, u1, u2, u3, u5, u4⟩)) (fun v T2 x y hw => ?_) (fun X T hw => by obtain ⟨e, -⟩ := hw; cases e)
  obtain ⟨e2, g3, g4, g5, g6, g9⟩ := hw
  cases e2
  have cn2 := cn_new ha2 g5
  show TT (b, L, xs) M_law 15 [(1, .ref a1), (0, .ref b)] [.ref a2] T2 600983 7271104 PL
  refine tt_astore_n (ks := [0, 1, 2]) (L' := [(2, .ref a2), (1, .ref a1), (0, .ref b)]) dL_law_15 (by decide) rfl ?_
  refine tt_iconst (v := 1) dL_law_16 rfl ?_
  refine gn_J (k1 := 600982) (n1 := 7271103) dL_law_17 ka_long (by decide) (len := 1) rfl (by decide) (by decide) (by decide) g3 (fun q h => nomatch h) (fun a3 T3 g7 cn3 g8 => ?_)
  refine tt_astore_n (ks := [0, 1, 2, 3]) (L' := [(3, .ref a3), (2, .ref a2), (1, .ref a1), (0, .ref b)]) dL_law_19 (by decide) rfl ?_
  refine tt_iconst (v := 0) dL_law_20 rfl ?_
  refine tt_istore (ks := [0, 1, 2, 3, 4]) (L' := [(4, .int 0), (3, .ref a3), (2, .ref a2), (1, .ref a1), (0, .ref b)]) dL_law_21 (by decide) rfl ?_
  have ox := oa_cn (oa_cn g2 cn2) cn3
  have om := oa_cn g4 cn3
  obtain ⟨l1, r1, p1⟩ := gi_R (k := 579) g7 ox 4 0
  obtain ⟨pa, r2, p2⟩ := gi_R (k := 258) g7 p1 35 200
  have hn := nl_le (hp_r T3 pa)
  have e0 : (4104 - (0 : Int32).toInt).toNat = 4104 := rfl
  exact law_loop hL _ 0 T3 _ _ rfl ⟨by decide, by decide⟩ g7 ox om g8 (fun q => absurd (((cn3.2.1 a2 g4.1).2 663).trans g6) q) (pa := pa) (by rw [r1]; exact r2) (((cn3.2.1 a1 (l_cn g2.1 cn2)).1 576).trans (((cn2.2.1 a1 g2.1).1 576).trans r5)) (oa_cn (oa_cn r6 cn2) cn3) ((((cn3.2.1 c1 (l_cn r6.1 cn2)).2 65).trans (((cn2.2.1 c1 r6.1).2 65).trans r7)).trans (((cn3.2.1 a2 g4.1).2 642).trans g9).symm) (by rw [e0]; omega) (by rw [e0]; omega)
