section LWH
variable {xi : SX} {M N : MD} {pc : Nat} {L : List (Nat × Value)} {rest As : List Value} {S S0 T : Hp} {i k0 n0 : Nat} {P : Po} {E ws vs : List Nat} {cz : Int32 → Prop}
theorem gt_SW (h : decode (md_c M) pc = .ok (.invokestatic i, 3)) (hcv : CTW (md_y M).cls i N As.length) (hrm : RM M N) (hA : Af E ws S0 S) (hlen : (lg_sl As).length ≤ md_L N) (hr8 : (rest.map fun v => v.category).sum ≤ 8) (hs : ∀ k ∈ vs, k ∈ ws) (hk : 1 ≤ k0) (hn : 6 ≤ n0) (kx : TT xi N 0 (lv_args 0 As) [] S 1 6 (PW E vs S cz)) (kk : ∀ (T : Hp) (z : Int32), cz z → GI T E → Af E vs S T → Af E ws S0 T → TT xi M (pc + 3) L (.int z :: rest) T (k0 - 1) (n0 - 6) P) : TT xi M pc L (As.reverse ++ rest) S k0 n0 P := by
  refine tt_callSW (k1 := 1) (n1 := 6) (k2 := k0 - 1) (n2 := n0 - 6) h hcv hrm hlen hr8 (by omega) (by omega) kx (fun v T x y hw => ?_) (fun X T hw => ?_)
  · obtain ⟨g1, g2, z, e, hz⟩ := hw
    cases e
    exact kk T z hz g1 g2 (af_tr hA g2 hs)
  · obtain ⟨g1, g2, z, e, hz⟩ := hw
    cases e
theorem gt_SX {cx : Int32 → Hp → Prop} (h : decode (md_c M) pc = .ok (.invokestatic i, 3)) (hcv : CTW (md_y M).cls i N As.length) (hrm : RM M N) (hA : Af E ws S0 S) (hlen : (lg_sl As).length ≤ md_L N) (hr8 : (rest.map fun v => v.category).sum ≤ 8) (hs : ∀ k ∈ vs, k ∈ ws) (hk : 1 ≤ k0) (hn : 6 ≤ n0) (kx : TT xi N 0 (lv_args 0 As) [] S 1 6 (PX E vs S cx)) (kk : ∀ (T : Hp) (z : Int32), cx z T → GI T E → Af E vs S T → Af E ws S0 T → TT xi M (pc + 3) L (.int z :: rest) T (k0 - 1) (n0 - 6) P) : TT xi M pc L (As.reverse ++ rest) S k0 n0 P := by
  refine tt_callSW (k1 := 1) (n1 := 6) (k2 := k0 - 1) (n2 := n0 - 6) h hcv hrm hlen hr8 (by omega) (by omega) kx (fun v T x y hw => ?_) (fun X T hw => ?_)
  · obtain ⟨g1, g2, z, e, hz⟩ := hw
    cases e
    exact kk T z hz g1 g2 (af_tr hA g2 hs)
  · obtain ⟨g1, g2, z, e, hz⟩ := hw
    cases e
theorem cn_af {c o kd n kd2 n2 : Nat} (h : hp_I S 65 c = hp_I S 642 o) (oc : Oa S E kd n c) (om : Oa S E kd2 n2 o) (hB : Af E vs S T) (h1 : 65 ∉ vs := by decide) (h2 : 642 ∉ vs := by decide) : hp_I T 65 c = hp_I T 642 o := (i_af oc hB h1).trans (h.trans (i_af om hB h2).symm)
theorem by_af {ab am : Nat} (h : hp_i S ab = hp_i S am ∧ ∀ i, Rg 0 255 (hp_i S am i)) (oa : Oa S E 32 200 ab) (om : Oa S E 32 200 am) (hB : Af E vs S T) (h1 : 9995 ∉ vs := by decide) : hp_i T ab = hp_i T am ∧ ∀ i, Rg 0 255 (hp_i T am i) := by
  rw [b_af oa hB h1, b_af om hB h1]; exact h
theorem fb_o {S0 S1 S2 : Hp} {ab am : Nat} {s1 s2 a b c d x : Int32} (hne : ab ≠ am) (w1 : Bw S0 S1 [] ab s1 (GC a b c d) x) (w2 : Bw S1 S2 [] am s2 (GR a b c d) x) (oab : Oa S1 [] 32 200 ab) (oam : Oa S0 [] 32 200 am) (es : s1 = s2) (hx : Rg 0 16 x) (h : hp_i S0 ab = hp_i S0 am ∧ ∀ i, Rg 0 255 (hp_i S0 am i)) : hp_i S2 ab = hp_i S2 am ∧ ∀ i, Rg 0 255 (hp_i S2 am i) := by
  subst es
  have hm : x.toInt.toNat ≤ 16 := by have := hx.2; omega
  rw [w2.2 ab oab hne, w1.1, w2.1, w1.2 am oam hne.symm]
  exact ⟨wb_eq h.1 hm, wb_rg h.2⟩
theorem by_0 {S1 : Hp} {ab am : Nat} (h1 : hp_i S1 ab = fun _ => 0) (h2 : hp_i S1 am = fun _ => 0) : hp_i S1 ab = hp_i S1 am ∧ ∀ i, Rg 0 255 (hp_i S1 am i) := ⟨h1.trans h2.symm, fun i => rg_cast (congrFun h2 i) (⟨by decide, by decide⟩ : Rg 0 255 0)⟩
theorem fb_n {S1 S2 : Hp} {ab am : Nat} (hq : ∀ q, Oa S1 [] 32 200 q → hp_i S2 q = hp_i S1 q) (oab : Oa S1 [] 32 200 ab) (oam : Oa S1 [] 32 200 am) (h : hp_i S1 ab = hp_i S1 am ∧ ∀ i, Rg 0 255 (hp_i S1 am i)) : hp_i S2 ab = hp_i S2 am ∧ ∀ i, Rg 0 255 (hp_i S2 am i) := by
  rw [hq ab oab, hq am oam]; exact h
theorem dc_o {t n1 n2 x w : Int32} {A : Prop} (e : n1 = n2) (hr : Rg 0 (n1.toInt - 1) x) (hs : Rg 0 5 w) (h : (t = 0 ∧ (Rg 0 (n2.toInt - 1) x ∧ Rg 0 5 w) ∧ A) ∨ (t = 1 ∧ ¬ (Rg 0 (n2.toInt - 1) x ∧ Rg 0 5 w))) : t = 0 ∧ A := by
  subst e
  rcases h with ⟨h1, -, h2⟩ | ⟨-, h⟩
  · exact ⟨h1, h2⟩
  · exact absurd ⟨hr, hs⟩ h
theorem dc_n {t n1 n2 x w : Int32} {A : Prop} (e : n1 = n2) (hr : ¬ (Rg 0 (n1.toInt - 1) x ∧ Rg 0 5 w)) (h : (t = 0 ∧ (Rg 0 (n2.toInt - 1) x ∧ Rg 0 5 w) ∧ A) ∨ (t = 1 ∧ ¬ (Rg 0 (n2.toInt - 1) x ∧ Rg 0 5 w))) : t = 1 := by
  subst e
  rcases h with ⟨-, h, -⟩ | ⟨h, -⟩
  · exact absurd h hr
  · exact h
theorem dc_q {y : Int64} {v : Int32} {f g : DD → Int32} (h1 : ∃ d, y = (f d).toInt64) (h2 : ∃ r, some (Value.int v) = some (.int (g r))) (h : ∀ d r, f d = g r) : y = v.toInt64 := by
  obtain ⟨d, e1⟩ := h1
  obtain ⟨r, e2⟩ := h2
  rw [e1, h d r, ei_w e2]
abbrev Fx (t b1 b2 n : Int32) : Prop := (t = 1 ∧ ¬ Rg 0 16 n ∧ b2 = b1) ∨ (t = 2 ∧ Rg 0 16 n ∧ 200 < b1.toInt + n.toInt ∧ b2 = b1) ∨ (t = 0 ∧ Rg 0 16 n ∧ b1.toInt + n.toInt ≤ 200 ∧ b2.toInt = b1.toInt + n.toInt)
theorem fc_o {t a0 a1 a2 b0 b1 b2 n : Int32} (hc : a0 = b0) (hs : a0.toInt + n.toInt ≤ 200) (hr : Rg 0 16 n) (fo : a1.toInt = a0.toInt + n.toInt) (s2 : b1 = b0) (ea : a2 = a1) (hx : Fx t b1 b2 n) : a2 = b2 ∧ t = 0 := by
  subst hc s2 ea
  rcases hx with ⟨-, h, -⟩ | ⟨-, -, h, -⟩ | ⟨h1, -, -, h⟩
  · exact absurd hr h
  · omega
  · exact ⟨Int32.toInt_inj.mp (by omega), h1⟩
theorem fc_k {t a0 a1 a2 b1 b2 n : Int32} (hc : a1 = b1) (e1 : a1 = a0) (hs : ¬ a0.toInt + n.toInt ≤ 200) (hr : Rg 0 16 n) (ea : a2 = a1) (hx : Fx t b1 b2 n) : a2 = b2 ∧ t = 2 := by
  subst hc e1 ea
  rcases hx with ⟨-, h, -⟩ | ⟨h1, -, -, h⟩ | ⟨-, -, h, -⟩
  · exact absurd hr h
  · exact ⟨h.symm, h1⟩
  · exact absurd h hs
theorem fc_n {t a1 a2 b1 b2 n : Int32} (hc : a1 = b1) (hr : ¬ Rg 0 16 n) (ea : a2 = a1) (hx : Fx t b1 b2 n) : a2 = b2 ∧ t = 1 := by
  subst hc ea
  rcases hx with ⟨h1, -, h⟩ | ⟨-, h, -⟩ | ⟨-, h, -⟩
  · exact ⟨h.symm, h1⟩
  · exact absurd h hr
  · exact absurd h hr
abbrev Rel (S : Hp) (o : Nat) : Prop := ¬ hp_I S 663 o = 0 → ¬ hp_I S 664 o = -1
theorem rel_af {o kd n : Nat} (h : Rel S o) (ho : Oa S E kd n o) (hA : Af E vs S T) (h1 : 663 ∉ vs := by decide) (h2 : 664 ∉ vs := by decide) : Rel T o := by
  unfold Rel
  rw [i_af ho hA h1, i_af ho hA h2]
  exact h
theorem rel_go {o kd n : Nat} (h : Rel S o) (ho : Oa S E kd n o) (hA : Af E vs S T) (h1 : 663 ∉ vs := by decide) (h2 : 9997 ∉ vs := by decide) : Rel T o := by
  intro q
  rw [i_af ho hA h1] at q
  exact he_af ho hA (h q) h2
theorem pa_af {o n pa : Nat} (hG : GI S E) (ho : Oa S E 9 n o) (hA : Af E ws S T) (h : (hp_R S 579 o).bind (fun q => hp_R S 258 q) = some pa) : (hp_R T 579 o).bind (fun q => hp_R T 258 q) = some pa := by
  obtain ⟨b, h1, h2⟩ := gi_R (k := 579) hG ho 4 0
  rw [r_af ho hA h1]
  rw [h1] at h
  exact (r_af h2 hA rfl).trans h
end LWH
theorem lw_in {L : Nat} {x : Int32} (hL : L ≤ 4096) (hx : Rg 0 4104 x) (h : ¬ Int32.ofNat L - 8 < x) : 0 ≤ x.toInt ∧ x.toInt + 8 ≤ (L : Int) := by
  obtain ⟨x1, x2⟩ := hx
  rw [Int32.lt_iff_toInt_lt] at h
  have e1 : (Int32.ofNat L).toInt = (L : Int) := by
    rw [Int32.toInt_ofNat_of_lt (by omega)]
  have e2 : (Int32.ofNat L - 8).toInt = (L : Int) - 8 := by
    rw [Int32.toInt_sub, e1, show (8 : Int32).toInt = 8 from rfl, bmod_in (by omega) (by omega)]
  rw [e2] at h
  omega
theorem sc_in {L : Nat} {x j : Int32} (h : 0 ≤ x.toInt ∧ x.toInt + 8 ≤ (L : Int)) (hL : L ≤ 4096) (h1 : 0 ≤ j.toInt := by decide) (h2 : j.toInt ≤ 7 := by decide) : vp_in (x + j) L := by
  obtain ⟨x1, x2⟩ := h
  have e : (x + j).toInt = x.toInt + j.toInt := by rw [Int32.toInt_add, bmod_in (by omega) (by omega)]
  intro q
  rcases q with q | q
  · have := Int32.lt_iff_toInt_lt.mp q
    have e0 : (0 : Int32).toInt = 0 := rfl
    omega
  · have e2 : (x + j).toNatClampNeg = (x + j).toInt.toNat := rfl
    omega
theorem sc_0 {L : Nat} {x : Int32} (h : 0 ≤ x.toInt ∧ x.toInt + 8 ≤ (L : Int)) : vp_in x L := by
  obtain ⟨x1, x2⟩ := h
  intro q
  rcases q with q | q
  · have := Int32.lt_iff_toInt_lt.mp q
    have e0 : (0 : Int32).toInt = 0 := rfl
    omega
  · have e2 : x.toNatClampNeg = x.toInt.toNat := rfl
    omega
theorem lw_up {L : Nat} {x : Int32} (h : 0 ≤ x.toInt ∧ x.toInt + 8 ≤ (L : Int)) (hL : L ≤ 4096) : (x + 8).toInt = x.toInt + 8 := by
  rw [Int32.toInt_add, show (8 : Int32).toInt = 8 from rfl, bmod_in (by omega) (by omega)]
abbrev PL : Po := fun r _ _ _ => r = .inl (some (.int 1))
set_option maxHeartbeats 8000000 in
theorem law_loop {b L : Nat} {xs : Nat → Int32} (hL : L ≤ 4096) {o1 o2 o3 pa c1 i1 ab am : Nat} (hne : ab ≠ am) : ∀ (nn : Nat) (x4 : Int32) (S : Hp) (k n : Nat), (4104 - x4.toInt).toNat = nn → Rg 0 4104 x4 → GI S [] → Oa S [] 9 0 o1 → Oa S [] 10 0 o2 → Oa S [] 33 1 o3 → Rel S o2 → (hp_R S 579 o1).bind (fun q => hp_R S 258 q) = some pa → hp_R S 576 o1 = some c1 → Oa S [] 1 0 c1 → hp_I S 65 c1 = hp_I S 642 o2 → hp_R S 577 o1 = some i1 → Oa S [] 3 0 i1 → hp_R S 192 i1 = some c1 → hp_R S 64 c1 = some ab → Oa S [] 32 200 ab → hp_R S 641 o2 = some am → Oa S [] 32 200 am → (hp_i S ab = hp_i S am ∧ ∀ i, Rg 0 255 (hp_i S am i)) → 5 * nl (hp_r S pa) + (4104 - x4.toInt).toNat ≤ k → 82 * nl (hp_r S pa) + 6 * (4104 - x4.toInt).toNat ≤ n → TT (b, L, xs) M_law 23 [(4, .int x4), (3, .ref o3), (2, .ref o2), (1, .ref o1), (0, .ref b)] [] S k n PL := by
  intro nn
  induction nn using Nat.strongRecOn with
  | ind nn ih =>
    intro x4 S k n hm hx4 hG h1 h2 h3 hrel hpa hrc hc1 hcn hri hoi hrj hrb hob hrm hom hby hkb hnb
    subst hm
    have hA : Af [] [65, 193, 194, 195, 196, 197, 198, 199, 200, 201, 202, 203, 204, 321, 322, 388, 389, 390, 391, 392, 393, 515, 516, 517, 640, 642, 653, 654, 655, 656, 657, 658, 659, 661, 662, 663, 664, 667, 668, 669, 670, 671, 672, 673, 674, 675, 676, 9995, 9996, 9997, 9998, 9999] S S := af_rf
    have er0 : hp_r S = hp_r S := rfl
    refine tt_iload (j := 0) dL_law_23 rfl ?_
    refine tt_aload_n (j := 4) dL_law_25 rfl ?_
    refine tt_slen (xi := (b, L, xs)) dL_law_26 ?_
    refine tt_bipush (v := 8) dL_law_27 rfl ?_
    refine tt_isub dL_law_29 ?_
    refine tt_icmp_gt (tgt := 816) dL_law_30 rfl (fun q => ?_) (fun q => ?_)
    · refine tt_iconst (v := 1) dL_law_816 rfl ?_
      exact tt_ireturn dL_law_817 .boolean rfl rfl rfl
    have hx := lw_in hL hx4 q
    have hm1 : 8 ≤ (4104 - x4.toInt).toNat := by omega
    have hJ : ∀ (T : Hp) (k9 n9 : Nat), GI T [] → Af [] [65, 193, 194, 195, 196, 197, 198, 199, 200, 201, 202, 203, 204, 321, 322, 388, 389, 390, 391, 392, 393, 515, 516, 517, 640, 642, 653, 654, 655, 656, 657, 658, 659, 661, 662, 663, 664, 667, 668, 669, 670, 671, 672, 673, 674, 675, 676, 9995, 9996, 9997, 9998, 9999] S T → Rel T o2 → hp_I T 65 c1 = hp_I T 642 o2 → (hp_i T ab = hp_i T am ∧ ∀ i, Rg 0 255 (hp_i T am i)) → 5 * nl (hp_r T pa) + (4104 - x4.toInt).toNat ≤ k9 + 1 → 82 * nl (hp_r T pa) + 6 * (4104 - x4.toInt).toNat ≤ n9 + 6 → TT (b, L, xs) M_law 810 [(4, .int x4), (3, .ref o3), (2, .ref o2), (1, .ref o1), (0, .ref b)] [] T k9 n9 PL := by
      intro T k9 n9 g1 g2 g3 g6 g7 g4 g5
      have e8 := lw_up hx hL
      refine tt_iinc (j := 0) (v := (x4 + 8)) (ks := [0, 1, 2, 3, 4]) (L' := [(4, .int (x4 + 8)), (3, .ref o3), (2, .ref o2), (1, .ref o1), (0, .ref b)]) dL_law_810 rfl rfl (by decide) rfl ?_
      refine tt_goto (tgt := 23) dL_law_813 rfl ?_
      exact ih _ (by rw [e8]; omega) (x4 + 8) T k9 n9 rfl ⟨by rw [e8]; omega, by rw [e8]; omega⟩ g1 (oa_af h1 g2) (oa_af h2 g2) (oa_af h3 g2) g3 (pa_af hG h1 g2 hpa) (r_af h1 g2 hrc) (oa_af hc1 g2) g6 (r_af h1 g2 hri) (oa_af hoi g2) (r_af hoi g2 hrj) (r_af hc1 g2 hrb) (oa_af hob g2) (r_af h2 g2 hrm) (oa_af hom g2) g7 (by rw [e8]; omega) (by rw [e8]; omega)
    refine tt_aload_n (j := 4) dL_law_33 rfl ?_
    refine tt_iload (j := 0) dL_law_34 rfl ?_
    refine tt_sld (xi := (b, L, xs)) dL_law_36 (sc_0 hx) ?_
    refine tt_bipush (v := 15) dL_law_37 rfl ?_
    refine tt_iand dL_law_39 ?_
    refine gt_ts [116, 192, 205, 366, 391, 459, 487, 500, 525, 577, 661, 672, 741, 769, 782, 810] dL_law_40 (by decide) (by decide) (fa_cons ?_ (fa_cons ?_ (fa_cons ?_ (fa_cons ?_ (fa_cons ?_ (fa_cons ?_ (fa_cons ?_ (fa_cons ?_ (fa_cons ?_ (fa_cons ?_ (fa_cons ?_ (fa_cons ?_ (fa_cons ?_ (fa_cons ?_ (fa_cons ?_ (fa_cons ?_ fa_nil))))))))))))))))
    · skip
      refine tt_aload_n (j := 3) dL_law_116 rfl ?_
      refine tt_aload_n (j := 4) dL_law_117 rfl ?_
      refine tt_iload (j := 0) dL_law_118 rfl ?_
      refine tt_iconst (v := 1) dL_law_120 rfl ?_
      refine tt_iadd dL_law_121 ?_
      refine tt_sld (xi := (b, L, xs)) dL_law_122 (sc_in hx hL) ?_
      refine tt_aload_n (j := 4) dL_law_123 rfl ?_
      refine tt_iload (j := 0) dL_law_124 rfl ?_
      refine tt_iconst (v := 2) dL_law_126 rfl ?_
      refine tt_iadd dL_law_127 ?_
      refine tt_sld (xi := (b, L, xs)) dL_law_128 (sc_in hx hL) ?_
      refine tt_aload_n (j := 4) dL_law_129 rfl ?_
      refine tt_iload (j := 0) dL_law_130 rfl ?_
      refine tt_iconst (v := 3) dL_law_132 rfl ?_
      refine tt_iadd dL_law_133 ?_
      refine tt_sld (xi := (b, L, xs)) dL_law_134 (sc_in hx hL) ?_
      refine tt_aload_n (j := 4) dL_law_135 rfl ?_
      refine tt_iload (j := 0) dL_law_136 rfl ?_
      refine tt_iconst (v := 4) dL_law_138 rfl ?_
      refine tt_iadd dL_law_139 ?_
      refine tt_sld (xi := (b, L, xs)) dL_law_140 (sc_in hx hL) ?_
      refine tt_aload_n (j := 4) dL_law_141 rfl ?_
      refine tt_iload (j := 0) dL_law_142 rfl ?_
      refine tt_iconst (v := 5) dL_law_144 rfl ?_
      refine tt_iadd dL_law_145 ?_
      refine tt_sld (xi := (b, L, xs)) dL_law_146 (sc_in hx hL) ?_
      refine tt_aload_n (j := 1) dL_law_147 rfl ?_
      by_cases hr9 : Rg 0 16 (xs (x4 + 1).toNatClampNeg)
      · by_cases hs9 : (hp_I S 65 c1).toInt + (xs (x4 + 1).toNatClampNeg).toInt ≤ 200
        · skip
          refine gt_SX (As := [.ref o1, .int (xs (x4 + 1).toNatClampNeg), .int (xs (x4 + 2).toNatClampNeg), .int (xs (x4 + 3).toNatClampNeg), .int (xs (x4 + 4).toNatClampNeg), .int (xs (x4 + 5).toNatClampNeg), .ref o3]) dL_law_148 ca_L_56 ⟨by decide, by decide⟩ hA (Nat.le_of_ble_eq_true rfl) (Nat.le_of_ble_eq_true rfl) (by decide) (by omega) (by omega) (cbw_L_feed hG (oa_af h1 hA) hr9 (oa_af h3 hA) (fun c hc => by obtain rfl : c1 = c := Option.some.inj ((r_af h1 hA hrc).symm.trans hc); exact hs9) (fun _ _ _ _ h => h)) (fun S1 z2 hz3 hG4 hB5 hA6 => ?_)
          have rl7 := rel_af hrel (oa_af h2 hA) hB5
          have er8 := (hB5.2.2.2.1 (by decide)).2.trans er0
          obtain ⟨hz3, hz9⟩ := hz3
          obtain ⟨fo10, fj12⟩ := hz9 c1 (r_af h1 hA hrc)
          have s211 := i_af (k := 642) (oa_af h2 hA) hB5
          obtain ⟨fj12, bw13⟩ := fj12
          have bw13 := bw13 ab (r_af hc1 hA hrb)
          obtain rfl : z2 = 0 := hz3
          refine tt_istore (ks := [0, 1, 2, 3, 4, 5]) (L' := [(5, .int 0), (4, .int x4), (3, .ref o3), (2, .ref o2), (1, .ref o1), (0, .ref b)]) dL_law_151 (by decide) rfl ?_
          refine tt_aload_n (j := 3) dL_law_153 rfl ?_
          refine tt_aload_n (j := 5) dL_law_154 rfl ?_
          refine tt_iload (j := 1) dL_law_155 rfl ?_
          refine tt_iconst (v := 1) dL_law_157 rfl ?_
          refine tt_iadd dL_law_158 ?_
          refine tt_sld (xi := (b, L, xs)) dL_law_159 (sc_in hx hL) ?_
          refine tt_aload_n (j := 5) dL_law_160 rfl ?_
          refine tt_iload (j := 1) dL_law_161 rfl ?_
          refine tt_iconst (v := 2) dL_law_163 rfl ?_
          refine tt_iadd dL_law_164 ?_
          refine tt_sld (xi := (b, L, xs)) dL_law_165 (sc_in hx hL) ?_
          refine tt_aload_n (j := 5) dL_law_166 rfl ?_
          refine tt_iload (j := 1) dL_law_167 rfl ?_
          refine tt_iconst (v := 3) dL_law_169 rfl ?_
          refine tt_iadd dL_law_170 ?_
          refine tt_sld (xi := (b, L, xs)) dL_law_171 (sc_in hx hL) ?_
          refine tt_aload_n (j := 5) dL_law_172 rfl ?_
          refine tt_iload (j := 1) dL_law_173 rfl ?_
          refine tt_iconst (v := 4) dL_law_175 rfl ?_
          refine tt_iadd dL_law_176 ?_
          refine tt_sld (xi := (b, L, xs)) dL_law_177 (sc_in hx hL) ?_
          refine tt_aload_n (j := 5) dL_law_178 rfl ?_
          refine tt_iload (j := 1) dL_law_179 rfl ?_
          refine tt_iconst (v := 5) dL_law_181 rfl ?_
          refine tt_iadd dL_law_182 ?_
          refine tt_sld (xi := (b, L, xs)) dL_law_183 (sc_in hx hL) ?_
          refine gt_VI (As := [.int (xs (x4 + 1).toNatClampNeg), .int (xs (x4 + 2).toNatClampNeg), .int (xs (x4 + 3).toNatClampNeg), .int (xs (x4 + 4).toNatClampNeg), .int (xs (x4 + 5).toNatClampNeg)]) dL_law_184 ca_L_61 ⟨by decide, by decide⟩ h2 hA6 rfl (Nat.le_of_ble_eq_true rfl) (Nat.le_of_ble_eq_true rfl) (by decide) (cb_X10_feed hG4 (oa_af h2 hA6) (r_af h2 hA6 hrm) (oa_af hom hA6) (fun _ _ _ _ h => h)) rfl (fun _ h => nomatch h) (fun S14 v15 hz16 hx17 hG18 hB19 hA20 => ?_)
          obtain ⟨hx17, bA21, bB22⟩ := hx17
          have rl23 := hx17.1 rl7
          have er24 := (hB19.2.2.2.1 (by decide)).2.trans er8
          have h625 := fc_o hcn hs9 hr9 fo10 s211 (i_af (k := 65) (oa_af hc1 hA6) hB19) hx17.2.1
          have by26 := fb_o hne bw13 (bA21 h625.2) (oa_af hob hA6) hom (hcn.trans s211.symm) hr9 hby
          refine tt_istore (ks := [0, 1, 2, 3, 4, 5, 6]) (L' := [(6, .int v15), (5, .int 0), (4, .int x4), (3, .ref o3), (2, .ref o2), (1, .ref o1), (0, .ref b)]) dL_law_187 (by decide) rfl ?_
          refine tt_goto (tgt := 810) dL_law_189 rfl ?_
          exact tt_loc (ks := [2, 3, 4, 5, 6]) rfl (hJ S14 (k - 1) (n - 6) hG18 hA20 rl23 h625.1 by26 (by rw [er24]; omega) (by rw [er24]; omega))
        · skip
          refine gt_SW (As := [.ref o1, .int (xs (x4 + 1).toNatClampNeg), .int (xs (x4 + 2).toNatClampNeg), .int (xs (x4 + 3).toNatClampNeg), .int (xs (x4 + 4).toNatClampNeg), .int (xs (x4 + 5).toNatClampNeg), .ref o3]) dL_law_148 ca_L_56 ⟨by decide, by decide⟩ hA (Nat.le_of_ble_eq_true rfl) (Nat.le_of_ble_eq_true rfl) (by decide) (by omega) (by omega) (cwk_L_feed hG (oa_af h1 hA) hr9 (oa_af h3 hA) (fun c hc => by obtain rfl : c1 = c := Option.some.inj ((r_af h1 hA hrc).symm.trans hc); omega) (fun _ _ _ _ h => h)) (fun S27 z28 hz29 hG30 hB31 hA32 => ?_)
          have rl33 := rel_af hrel (oa_af h2 hA) hB31
          have er34 := (hB31.2.2.2.1 (by decide)).2.trans er0
          have by35 := by_af hby (oa_af hob hA) (oa_af hom hA) hB31
          have cn36 := cn_af hcn (oa_af hc1 hA) (oa_af h2 hA) hB31
          obtain rfl : z28 = 2 := hz29
          refine tt_istore (ks := [0, 1, 2, 3, 4, 5]) (L' := [(5, .int 2), (4, .int x4), (3, .ref o3), (2, .ref o2), (1, .ref o1), (0, .ref b)]) dL_law_151 (by decide) rfl ?_
          refine tt_aload_n (j := 3) dL_law_153 rfl ?_
          refine tt_aload_n (j := 5) dL_law_154 rfl ?_
          refine tt_iload (j := 1) dL_law_155 rfl ?_
          refine tt_iconst (v := 1) dL_law_157 rfl ?_
          refine tt_iadd dL_law_158 ?_
          refine tt_sld (xi := (b, L, xs)) dL_law_159 (sc_in hx hL) ?_
          refine tt_aload_n (j := 5) dL_law_160 rfl ?_
          refine tt_iload (j := 1) dL_law_161 rfl ?_
          refine tt_iconst (v := 2) dL_law_163 rfl ?_
          refine tt_iadd dL_law_164 ?_
          refine tt_sld (xi := (b, L, xs)) dL_law_165 (sc_in hx hL) ?_
          refine tt_aload_n (j := 5) dL_law_166 rfl ?_
          refine tt_iload (j := 1) dL_law_167 rfl ?_
          refine tt_iconst (v := 3) dL_law_169 rfl ?_
          refine tt_iadd dL_law_170 ?_
          refine tt_sld (xi := (b, L, xs)) dL_law_171 (sc_in hx hL) ?_
          refine tt_aload_n (j := 5) dL_law_172 rfl ?_
          refine tt_iload (j := 1) dL_law_173 rfl ?_
          refine tt_iconst (v := 4) dL_law_175 rfl ?_
          refine tt_iadd dL_law_176 ?_
          refine tt_sld (xi := (b, L, xs)) dL_law_177 (sc_in hx hL) ?_
          refine tt_aload_n (j := 5) dL_law_178 rfl ?_
          refine tt_iload (j := 1) dL_law_179 rfl ?_
          refine tt_iconst (v := 5) dL_law_181 rfl ?_
          refine tt_iadd dL_law_182 ?_
          refine tt_sld (xi := (b, L, xs)) dL_law_183 (sc_in hx hL) ?_
          refine gt_VI (As := [.int (xs (x4 + 1).toNatClampNeg), .int (xs (x4 + 2).toNatClampNeg), .int (xs (x4 + 3).toNatClampNeg), .int (xs (x4 + 4).toNatClampNeg), .int (xs (x4 + 5).toNatClampNeg)]) dL_law_184 ca_L_61 ⟨by decide, by decide⟩ h2 hA32 rfl (Nat.le_of_ble_eq_true rfl) (Nat.le_of_ble_eq_true rfl) (by decide) (cb_X10_feed hG30 (oa_af h2 hA32) (r_af h2 hA32 hrm) (oa_af hom hA32) (fun _ _ _ _ h => h)) rfl (fun _ h => nomatch h) (fun S37 v38 hz39 hx40 hG41 hB42 hA43 => ?_)
          obtain ⟨hx40, bA44, bB45⟩ := hx40
          have rl46 := hx40.1 rl33
          have er47 := (hB42.2.2.2.1 (by decide)).2.trans er34
          have h648 := fc_k cn36 (i_af (k := 65) (oa_af hc1 hA) hB31) hs9 hr9 (i_af (k := 65) (oa_af hc1 hA32) hB42) hx40.2.1
          have by49 := fb_n (bB45 (by rw [h648.2]; decide)) (oa_af hob hA32) (oa_af hom hA32) by35
          refine tt_istore (ks := [0, 1, 2, 3, 4, 5, 6]) (L' := [(6, .int v38), (5, .int 2), (4, .int x4), (3, .ref o3), (2, .ref o2), (1, .ref o1), (0, .ref b)]) dL_law_187 (by decide) rfl ?_
          refine tt_goto (tgt := 810) dL_law_189 rfl ?_
          exact tt_loc (ks := [2, 3, 4, 5, 6]) rfl (hJ S37 (k - 1) (n - 6) hG41 hA43 rl46 h648.1 by49 (by rw [er47]; omega) (by rw [er47]; omega))
      · skip
        refine gt_SW (As := [.ref o1, .int (xs (x4 + 1).toNatClampNeg), .int (xs (x4 + 2).toNatClampNeg), .int (xs (x4 + 3).toNatClampNeg), .int (xs (x4 + 4).toNatClampNeg), .int (xs (x4 + 5).toNatClampNeg), .ref o3]) dL_law_148 ca_L_56 ⟨by decide, by decide⟩ hA (Nat.le_of_ble_eq_true rfl) (Nat.le_of_ble_eq_true rfl) (by decide) (by omega) (by omega) (cwn_L_feed hG (oa_af h1 hA) (oa_af h3 hA) hr9 (fun _ _ _ _ h => h)) (fun S50 z51 hz52 hG53 hB54 hA55 => ?_)
        have rl56 := rel_af hrel (oa_af h2 hA) hB54
        have er57 := (hB54.2.2.2.1 (by decide)).2.trans er0
        have by58 := by_af hby (oa_af hob hA) (oa_af hom hA) hB54
        have cn59 := cn_af hcn (oa_af hc1 hA) (oa_af h2 hA) hB54
        obtain rfl : z51 = 1 := hz52
        refine tt_istore (ks := [0, 1, 2, 3, 4, 5]) (L' := [(5, .int 1), (4, .int x4), (3, .ref o3), (2, .ref o2), (1, .ref o1), (0, .ref b)]) dL_law_151 (by decide) rfl ?_
        refine tt_aload_n (j := 3) dL_law_153 rfl ?_
        refine tt_aload_n (j := 5) dL_law_154 rfl ?_
        refine tt_iload (j := 1) dL_law_155 rfl ?_
        refine tt_iconst (v := 1) dL_law_157 rfl ?_
        refine tt_iadd dL_law_158 ?_
        refine tt_sld (xi := (b, L, xs)) dL_law_159 (sc_in hx hL) ?_
        refine tt_aload_n (j := 5) dL_law_160 rfl ?_
        refine tt_iload (j := 1) dL_law_161 rfl ?_
        refine tt_iconst (v := 2) dL_law_163 rfl ?_
        refine tt_iadd dL_law_164 ?_
        refine tt_sld (xi := (b, L, xs)) dL_law_165 (sc_in hx hL) ?_
        refine tt_aload_n (j := 5) dL_law_166 rfl ?_
        refine tt_iload (j := 1) dL_law_167 rfl ?_
        refine tt_iconst (v := 3) dL_law_169 rfl ?_
        refine tt_iadd dL_law_170 ?_
        refine tt_sld (xi := (b, L, xs)) dL_law_171 (sc_in hx hL) ?_
        refine tt_aload_n (j := 5) dL_law_172 rfl ?_
        refine tt_iload (j := 1) dL_law_173 rfl ?_
        refine tt_iconst (v := 4) dL_law_175 rfl ?_
        refine tt_iadd dL_law_176 ?_
        refine tt_sld (xi := (b, L, xs)) dL_law_177 (sc_in hx hL) ?_
        refine tt_aload_n (j := 5) dL_law_178 rfl ?_
        refine tt_iload (j := 1) dL_law_179 rfl ?_
        refine tt_iconst (v := 5) dL_law_181 rfl ?_
        refine tt_iadd dL_law_182 ?_
        refine tt_sld (xi := (b, L, xs)) dL_law_183 (sc_in hx hL) ?_
        refine gt_VI (As := [.int (xs (x4 + 1).toNatClampNeg), .int (xs (x4 + 2).toNatClampNeg), .int (xs (x4 + 3).toNatClampNeg), .int (xs (x4 + 4).toNatClampNeg), .int (xs (x4 + 5).toNatClampNeg)]) dL_law_184 ca_L_61 ⟨by decide, by decide⟩ h2 hA55 rfl (Nat.le_of_ble_eq_true rfl) (Nat.le_of_ble_eq_true rfl) (by decide) (cb_X10_feed hG53 (oa_af h2 hA55) (r_af h2 hA55 hrm) (oa_af hom hA55) (fun _ _ _ _ h => h)) rfl (fun _ h => nomatch h) (fun S60 v61 hz62 hx63 hG64 hB65 hA66 => ?_)
        obtain ⟨hx63, bA67, bB68⟩ := hx63
        have rl69 := hx63.1 rl56
        have er70 := (hB65.2.2.2.1 (by decide)).2.trans er57
        have h671 := fc_n cn59 hr9 (i_af (k := 65) (oa_af hc1 hA55) hB65) hx63.2.1
        have by72 := fb_n (bB68 (by rw [h671.2]; decide)) (oa_af hob hA55) (oa_af hom hA55) by58
        refine tt_istore (ks := [0, 1, 2, 3, 4, 5, 6]) (L' := [(6, .int v61), (5, .int 1), (4, .int x4), (3, .ref o3), (2, .ref o2), (1, .ref o1), (0, .ref b)]) dL_law_187 (by decide) rfl ?_
        refine tt_goto (tgt := 810) dL_law_189 rfl ?_
        exact tt_loc (ks := [2, 3, 4, 5, 6]) rfl (hJ S60 (k - 1) (n - 6) hG64 hA66 rl69 h671.1 by72 (by rw [er70]; omega) (by rw [er70]; omega))
    · skip
      refine tt_aload_n (j := 3) dL_law_192 rfl ?_
      refine gt_VI (As := []) dL_law_193 ca_L_62 ⟨by decide, by decide⟩ h1 hA rfl (Nat.le_of_ble_eq_true rfl) (Nat.le_of_ble_eq_true rfl) (by decide) (cq_X9_erase hG (oa_af h1 hA) (fun _ _ _ _ h => h)) rfl (fun _ h => nomatch h) (fun S73 v74 hz75 hx76 hG77 hB78 hA79 => ?_)
      have by80 := by_af hby (oa_af hob hA) (oa_af hom hA) hB78
      have rl81 := rel_af hrel (oa_af h2 hA) hB78
      have er82 := (hB78.2.2.2.1 (by decide)).2.trans er0
      obtain ⟨ev83, ec84⟩ := hx76 c1 (r_af h1 hA hrc)
      have e85 := ei_v _ ev83
      have s286 := i_af (k := 642) (oa_af h2 hA) hB78
      refine tt_pop dL_law_196 rfl ?_
      refine tt_aload_n (j := 2) dL_law_197 rfl ?_
      refine gt_VI (As := []) dL_law_198 ca_L_66 ⟨by decide, by decide⟩ h2 hA79 rfl (Nat.le_of_ble_eq_true rfl) (Nat.le_of_ble_eq_true rfl) (by decide) (cq_X10_erase hG77 (oa_af h2 hA79) (fun _ _ _ _ h => h)) rfl (fun _ h => nomatch h) (fun S87 v88 hz89 hx90 hG91 hB92 hA93 => ?_)
      have by94 := by_af by80 (oa_af hob hA79) (oa_af hom hA79) hB92
      have rl95 := hx90.1 rl81
      have er96 := (hB92.2.2.2.1 (by decide)).2.trans er82
      have e97 := (e85.symm.trans (hcn.trans s286.symm)).trans (ei_v _ hx90.2.1)
      have cn98 := ((i_af (k := 65) (oa_af hc1 hA79) hB92).trans ec84).trans hx90.2.2.symm
      refine tt_pop dL_law_201 rfl ?_
      refine tt_goto (tgt := 810) dL_law_202 rfl ?_
      exact tt_loc (ks := [0, 1, 2, 3, 4]) rfl (hJ S87 k n hG91 hA93 rl95 cn98 by94 (by rw [er96]; omega) (by rw [er96]; omega))
    · skip
      refine tt_aload_n (j := 3) dL_law_205 rfl ?_
      refine tt_aload_n (j := 4) dL_law_206 rfl ?_
      refine tt_iload (j := 0) dL_law_207 rfl ?_
      refine tt_iconst (v := 1) dL_law_209 rfl ?_
      refine tt_iadd dL_law_210 ?_
      refine tt_sld (xi := (b, L, xs)) dL_law_211 (sc_in hx hL) ?_
      refine tt_aload_n (j := 4) dL_law_212 rfl ?_
      refine tt_iload (j := 0) dL_law_213 rfl ?_
      refine tt_iconst (v := 2) dL_law_215 rfl ?_
      refine tt_iadd dL_law_216 ?_
      refine tt_sld (xi := (b, L, xs)) dL_law_217 (sc_in hx hL) ?_
      refine tt_i2l dL_law_218 ?_
      refine tt_bipush (v := 32) dL_law_219 rfl ?_
      refine tt_lshl dL_law_221 ?_
      refine tt_aload_n (j := 4) dL_law_222 rfl ?_
      refine tt_iload (j := 0) dL_law_223 rfl ?_
      refine tt_iconst (v := 3) dL_law_225 rfl ?_
      refine tt_iadd dL_law_226 ?_
      refine tt_sld (xi := (b, L, xs)) dL_law_227 (sc_in hx hL) ?_
      refine tt_i2l dL_law_228 ?_
      refine tt_ldc2 (v := 4294967295) dL_law_229 kl_L_67 ?_
      refine tt_land dL_law_232 ?_
      refine tt_lor dL_law_233 ?_
      refine tt_aload_n (j := 4) dL_law_234 rfl ?_
      refine tt_iload (j := 0) dL_law_235 rfl ?_
      refine tt_iconst (v := 4) dL_law_237 rfl ?_
      refine tt_iadd dL_law_238 ?_
      refine tt_sld (xi := (b, L, xs)) dL_law_239 (sc_in hx hL) ?_
      refine tt_i2l dL_law_240 ?_
      refine tt_bipush (v := 32) dL_law_241 rfl ?_
      refine tt_lshl dL_law_243 ?_
      refine tt_aload_n (j := 4) dL_law_244 rfl ?_
      refine tt_iload (j := 0) dL_law_245 rfl ?_
      refine tt_iconst (v := 5) dL_law_247 rfl ?_
      refine tt_iadd dL_law_248 ?_
      refine tt_sld (xi := (b, L, xs)) dL_law_249 (sc_in hx hL) ?_
      refine tt_i2l dL_law_250 ?_
      refine tt_ldc2 (v := 4294967295) dL_law_251 kl_L_67 ?_
      refine tt_land dL_law_254 ?_
      refine tt_lor dL_law_255 ?_
      refine tt_aload_n (j := 4) dL_law_256 rfl ?_
      refine tt_iload (j := 0) dL_law_257 rfl ?_
      refine tt_bipush (v := 6) dL_law_259 rfl ?_
      refine tt_iadd dL_law_261 ?_
      refine tt_sld (xi := (b, L, xs)) dL_law_262 (sc_in hx hL) ?_
      refine tt_i2l dL_law_263 ?_
      refine tt_bipush (v := 32) dL_law_264 rfl ?_
      refine tt_lshl dL_law_266 ?_
      refine tt_aload_n (j := 4) dL_law_267 rfl ?_
      refine tt_iload (j := 0) dL_law_268 rfl ?_
      refine tt_bipush (v := 7) dL_law_270 rfl ?_
      refine tt_iadd dL_law_272 ?_
      refine tt_sld (xi := (b, L, xs)) dL_law_273 (sc_in hx hL) ?_
      refine tt_i2l dL_law_274 ?_
      refine tt_ldc2 (v := 4294967295) dL_law_275 kl_L_67 ?_
      refine tt_land dL_law_278 ?_
      refine tt_lor dL_law_279 ?_
      refine gt_SW (As := [.ref o1, .int (xs (x4 + 1).toNatClampNeg), .long ((((xs (x4 + 2).toNatClampNeg) : Int32).toInt64 <<< ((32 : Int32).toInt64 &&& 63)) ||| (((xs (x4 + 3).toNatClampNeg) : Int32).toInt64 &&& 4294967295)), .long ((((xs (x4 + 4).toNatClampNeg) : Int32).toInt64 <<< ((32 : Int32).toInt64 &&& 63)) ||| (((xs (x4 + 5).toNatClampNeg) : Int32).toInt64 &&& 4294967295)), .long ((((xs (x4 + 6).toNatClampNeg) : Int32).toInt64 <<< ((32 : Int32).toInt64 &&& 63)) ||| (((xs (x4 + 7).toNatClampNeg) : Int32).toInt64 &&& 4294967295))]) dL_law_280 ca_L_69 ⟨by decide, by decide⟩ hA (Nat.le_of_ble_eq_true rfl) (Nat.le_of_ble_eq_true rfl) (by decide) (by omega) (by omega) (cw_L_given hG (oa_af h1 hA) (fun _ _ _ _ h => h)) (fun S99 z100 hz101 hG102 hB103 hA104 => ?_)
      have rl105 := rel_af hrel (oa_af h2 hA) hB103
      have er106 := (hB103.2.2.2.1 (by decide)).2.trans er0
      have by107 := by_af hby (oa_af hob hA) (oa_af hom hA) hB103
      have cn108 := cn_af hcn (oa_af hc1 hA) (oa_af h2 hA) hB103
      refine tt_istore (ks := [0, 1, 2, 3, 4, 5]) (L' := [(5, .int z100), (4, .int x4), (3, .ref o3), (2, .ref o2), (1, .ref o1), (0, .ref b)]) dL_law_283 (by decide) rfl ?_
      refine tt_aload_n (j := 3) dL_law_285 rfl ?_
      refine tt_aload_n (j := 5) dL_law_286 rfl ?_
      refine tt_iload (j := 1) dL_law_287 rfl ?_
      refine tt_iconst (v := 1) dL_law_289 rfl ?_
      refine tt_iadd dL_law_290 ?_
      refine tt_sld (xi := (b, L, xs)) dL_law_291 (sc_in hx hL) ?_
      refine tt_aload_n (j := 5) dL_law_292 rfl ?_
      refine tt_iload (j := 1) dL_law_293 rfl ?_
      refine tt_iconst (v := 2) dL_law_295 rfl ?_
      refine tt_iadd dL_law_296 ?_
      refine tt_sld (xi := (b, L, xs)) dL_law_297 (sc_in hx hL) ?_
      refine tt_i2l dL_law_298 ?_
      refine tt_bipush (v := 32) dL_law_299 rfl ?_
      refine tt_lshl dL_law_301 ?_
      refine tt_aload_n (j := 5) dL_law_302 rfl ?_
      refine tt_iload (j := 1) dL_law_303 rfl ?_
      refine tt_iconst (v := 3) dL_law_305 rfl ?_
      refine tt_iadd dL_law_306 ?_
      refine tt_sld (xi := (b, L, xs)) dL_law_307 (sc_in hx hL) ?_
      refine tt_i2l dL_law_308 ?_
      refine tt_ldc2 (v := 4294967295) dL_law_309 kl_L_67 ?_
      refine tt_land dL_law_312 ?_
      refine tt_lor dL_law_313 ?_
      refine tt_aload_n (j := 5) dL_law_314 rfl ?_
      refine tt_iload (j := 1) dL_law_315 rfl ?_
      refine tt_iconst (v := 4) dL_law_317 rfl ?_
      refine tt_iadd dL_law_318 ?_
      refine tt_sld (xi := (b, L, xs)) dL_law_319 (sc_in hx hL) ?_
      refine tt_i2l dL_law_320 ?_
      refine tt_bipush (v := 32) dL_law_321 rfl ?_
      refine tt_lshl dL_law_323 ?_
      refine tt_aload_n (j := 5) dL_law_324 rfl ?_
      refine tt_iload (j := 1) dL_law_325 rfl ?_
      refine tt_iconst (v := 5) dL_law_327 rfl ?_
      refine tt_iadd dL_law_328 ?_
      refine tt_sld (xi := (b, L, xs)) dL_law_329 (sc_in hx hL) ?_
      refine tt_i2l dL_law_330 ?_
      refine tt_ldc2 (v := 4294967295) dL_law_331 kl_L_67 ?_
      refine tt_land dL_law_334 ?_
      refine tt_lor dL_law_335 ?_
      refine tt_aload_n (j := 5) dL_law_336 rfl ?_
      refine tt_iload (j := 1) dL_law_337 rfl ?_
      refine tt_bipush (v := 6) dL_law_339 rfl ?_
      refine tt_iadd dL_law_341 ?_
      refine tt_sld (xi := (b, L, xs)) dL_law_342 (sc_in hx hL) ?_
      refine tt_i2l dL_law_343 ?_
      refine tt_bipush (v := 32) dL_law_344 rfl ?_
      refine tt_lshl dL_law_346 ?_
      refine tt_aload_n (j := 5) dL_law_347 rfl ?_
      refine tt_iload (j := 1) dL_law_348 rfl ?_
      refine tt_bipush (v := 7) dL_law_350 rfl ?_
      refine tt_iadd dL_law_352 ?_
      refine tt_sld (xi := (b, L, xs)) dL_law_353 (sc_in hx hL) ?_
      refine tt_i2l dL_law_354 ?_
      refine tt_ldc2 (v := 4294967295) dL_law_355 kl_L_67 ?_
      refine tt_land dL_law_358 ?_
      refine tt_lor dL_law_359 ?_
      refine gt_Vv (As := [.int (xs (x4 + 1).toNatClampNeg), .long ((((xs (x4 + 2).toNatClampNeg) : Int32).toInt64 <<< ((32 : Int32).toInt64 &&& 63)) ||| (((xs (x4 + 3).toNatClampNeg) : Int32).toInt64 &&& 4294967295)), .long ((((xs (x4 + 4).toNatClampNeg) : Int32).toInt64 <<< ((32 : Int32).toInt64 &&& 63)) ||| (((xs (x4 + 5).toNatClampNeg) : Int32).toInt64 &&& 4294967295)), .long ((((xs (x4 + 6).toNatClampNeg) : Int32).toInt64 <<< ((32 : Int32).toInt64 &&& 63)) ||| (((xs (x4 + 7).toNatClampNeg) : Int32).toInt64 &&& 4294967295))]) dL_law_360 ca_L_72 ⟨by decide, by decide⟩ h2 hA104 rfl (Nat.le_of_ble_eq_true rfl) (Nat.le_of_ble_eq_true rfl) (by decide) (cs_X10_given hG102 (oa_af h2 hA104) (fun _ _ _ _ h => h)) rfl (fun _ h => nomatch h) (fun S109 hx112 hG113 hB114 hA115 => ?_)
      have by116 := by_af by107 (oa_af hob hA104) (oa_af hom hA104) hB114
      have rl117 := rel_af rl105 (oa_af h2 hA104) hB114
      have er118 := (hB114.2.2.2.1 (by decide)).2.trans er106
      have cn119 := cn_af cn108 (oa_af hc1 hA104) (oa_af h2 hA104) hB114
      refine tt_goto (tgt := 810) dL_law_363 rfl ?_
      exact tt_loc (ks := [1, 2, 3, 4, 5]) rfl (hJ S109 (k - 1) (n - 6) hG113 hA115 rl117 cn119 by116 (by rw [er118]; omega) (by rw [er118]; omega))
    · skip
      refine tt_aload_n (j := 3) dL_law_366 rfl ?_
      refine tt_aload_n (j := 4) dL_law_367 rfl ?_
      refine tt_iload (j := 0) dL_law_368 rfl ?_
      refine tt_iconst (v := 1) dL_law_370 rfl ?_
      refine tt_iadd dL_law_371 ?_
      refine tt_sld (xi := (b, L, xs)) dL_law_372 (sc_in hx hL) ?_
      refine gt_SW (As := [.ref o1, .int (xs (x4 + 1).toNatClampNeg)]) dL_law_373 ca_L_73 ⟨by decide, by decide⟩ hA (Nat.le_of_ble_eq_true rfl) (Nat.le_of_ble_eq_true rfl) (by decide) (by omega) (by omega) (cw_L_any hG (oa_af h1 hA) (fun _ _ _ _ h => h)) (fun S120 z121 hz122 hG123 hB124 hA125 => ?_)
      have rl126 := rel_af hrel (oa_af h2 hA) hB124
      have er127 := (hB124.2.2.2.1 (by decide)).2.trans er0
      have by128 := by_af hby (oa_af hob hA) (oa_af hom hA) hB124
      have cn129 := cn_af hcn (oa_af hc1 hA) (oa_af h2 hA) hB124
      refine tt_istore (ks := [0, 1, 2, 3, 4, 5]) (L' := [(5, .int z121), (4, .int x4), (3, .ref o3), (2, .ref o2), (1, .ref o1), (0, .ref b)]) dL_law_376 (by decide) rfl ?_
      refine tt_aload_n (j := 3) dL_law_378 rfl ?_
      refine tt_aload_n (j := 5) dL_law_379 rfl ?_
      refine tt_iload (j := 1) dL_law_380 rfl ?_
      refine tt_iconst (v := 1) dL_law_382 rfl ?_
      refine tt_iadd dL_law_383 ?_
      refine tt_sld (xi := (b, L, xs)) dL_law_384 (sc_in hx hL) ?_
      refine gt_Vv (As := [.int (xs (x4 + 1).toNatClampNeg)]) dL_law_385 ca_L_76 ⟨by decide, by decide⟩ h2 hA125 rfl (Nat.le_of_ble_eq_true rfl) (Nat.le_of_ble_eq_true rfl) (by decide) (cs_X10_any hG123 (oa_af h2 hA125) (fun _ _ _ _ h => h)) rfl (fun _ h => nomatch h) (fun S130 hx133 hG134 hB135 hA136 => ?_)
      have by137 := by_af by128 (oa_af hob hA125) (oa_af hom hA125) hB135
      have rl138 := rel_af rl126 (oa_af h2 hA125) hB135
      have er139 := (hB135.2.2.2.1 (by decide)).2.trans er127
      have cn140 := cn_af cn129 (oa_af hc1 hA125) (oa_af h2 hA125) hB135
      refine tt_goto (tgt := 810) dL_law_388 rfl ?_
      exact tt_loc (ks := [1, 2, 3, 4, 5]) rfl (hJ S130 (k - 1) (n - 6) hG134 hA136 rl138 cn140 by137 (by rw [er139]; omega) (by rw [er139]; omega))
    · skip
      refine tt_aload_n (j := 3) dL_law_391 rfl ?_
      refine tt_aload_n (j := 4) dL_law_392 rfl ?_
      refine tt_iload (j := 0) dL_law_393 rfl ?_
      refine tt_iconst (v := 1) dL_law_395 rfl ?_
      refine tt_iadd dL_law_396 ?_
      refine tt_sld (xi := (b, L, xs)) dL_law_397 (sc_in hx hL) ?_
      refine tt_aload_n (j := 4) dL_law_398 rfl ?_
      refine tt_iload (j := 0) dL_law_399 rfl ?_
      refine tt_iconst (v := 2) dL_law_401 rfl ?_
      refine tt_iadd dL_law_402 ?_
      refine tt_sld (xi := (b, L, xs)) dL_law_403 (sc_in hx hL) ?_
      refine tt_aload_n (j := 1) dL_law_404 rfl ?_
      by_cases hr9 : Rg 0 ((hp_I S 65 c1).toInt - 1) (xs (x4 + 1).toNatClampNeg)
      · by_cases hs9 : Rg 0 5 (xs (x4 + 2).toNatClampNeg)
        · skip
          refine gt_SX (As := [.ref o1, .int (xs (x4 + 1).toNatClampNeg), .int (xs (x4 + 2).toNatClampNeg), .ref o3]) dL_law_405 ca_L_77 ⟨by decide, by decide⟩ hA (Nat.le_of_ble_eq_true rfl) (Nat.le_of_ble_eq_true rfl) (by decide) (by omega) (by omega) (cwod_L_decode hG (oa_af h1 hA) (oa_af h3 hA) (fun c hc => by obtain rfl : c1 = c := Option.some.inj (hrc.symm.trans hc); exact hr9) hs9 hri hoi ⟨c1, ab, hrj, hc1, hrb, hob, rfl, rfl⟩ (fun _ _ _ _ h => h)) (fun S141 z142 hz143 hG144 hB145 hA146 => ?_)
          have rl147 := rel_af hrel (oa_af h2 hA) hB145
          have er148 := (hB145.2.2.2.1 (by decide)).2.trans er0
          obtain ⟨hz143, dj149⟩ := hz143
          have by150 := by_af hby (oa_af hob hA) (oa_af hom hA) hB145
          have cn151 := cn_af hcn (oa_af hc1 hA) (oa_af h2 hA) hB145
          obtain rfl : z142 = 0 := hz143
          refine tt_istore (ks := [0, 1, 2, 3, 4, 5]) (L' := [(5, .int 0), (4, .int x4), (3, .ref o3), (2, .ref o2), (1, .ref o1), (0, .ref b)]) dL_law_408 (by decide) rfl ?_
          refine tt_aload_n (j := 3) dL_law_410 rfl ?_
          refine tt_aload_n (j := 5) dL_law_411 rfl ?_
          refine tt_iload (j := 1) dL_law_412 rfl ?_
          refine tt_iconst (v := 1) dL_law_414 rfl ?_
          refine tt_iadd dL_law_415 ?_
          refine tt_sld (xi := (b, L, xs)) dL_law_416 (sc_in hx hL) ?_
          refine tt_aload_n (j := 5) dL_law_417 rfl ?_
          refine tt_iload (j := 1) dL_law_418 rfl ?_
          refine tt_iconst (v := 2) dL_law_420 rfl ?_
          refine tt_iadd dL_law_421 ?_
          refine tt_sld (xi := (b, L, xs)) dL_law_422 (sc_in hx hL) ?_
          refine gt_VI (As := [.int (xs (x4 + 1).toNatClampNeg), .int (xs (x4 + 2).toNatClampNeg)]) dL_law_423 ca_L_80 ⟨by decide, by decide⟩ h2 hA146 rfl (Nat.le_of_ble_eq_true rfl) (Nat.le_of_ble_eq_true rfl) (by decide) (cx_X10_decode hG144 (oa_af h2 hA146) (br_af (bs := hp_i S ab) (n := hp_I S 65 c1) ⟨am, hrm, hom, hby.1.symm, hcn.symm⟩ h2 hB145) (fun _ _ _ _ h => h)) rfl (fun _ h => nomatch h) (fun S152 v153 hz154 hx155 hG156 hB157 hA158 => ?_)
          have by159 := by_af by150 (oa_af hob hA146) (oa_af hom hA146) hB157
          have rl160 := rel_af rl147 (oa_af h2 hA146) hB157
          have er161 := (hB157.2.2.2.1 (by decide)).2.trans er148
          have cn162 := cn_af cn151 (oa_af hc1 hA146) (oa_af h2 hA146) hB157
          have h6163 := dc_o (hcn.trans (i_af (k := 642) h2 hB145).symm) hr9 hs9 hx155
          have oq164 : hp_j S152 o3 (0 : Int32).toNatClampNeg = (v153 : Int32).toInt64 := (congrFun (j_af (oa_af h3 hA146) hB157) _).trans (dc_q dj149 h6163.2 (fun d r => dec_tell (gi_I (k := 65) hG hc1 0 200) (by rw [hby.1]; exact hby.2) hr9))
          refine tt_istore (ks := [0, 1, 2, 3, 4, 5, 6]) (L' := [(6, .int v153), (5, .int 0), (4, .int x4), (3, .ref o3), (2, .ref o2), (1, .ref o1), (0, .ref b)]) dL_law_426 (by decide) rfl ?_
          refine tt_aload_n (j := 4) dL_law_428 rfl ?_
          refine gt_VIp (As := []) dL_law_429 ca_L_81 ⟨by decide, by decide⟩ h2 hA158 rfl (Nat.le_of_ble_eq_true rfl) (Nat.le_of_ble_eq_true rfl) (by decide) (cs_X10_thrown hG156 (oa_af h2 hA158) (fun _ _ _ _ h => h)) rfl (fun _ h => nomatch h) (fun _ _ q => q.1) (fun v166 hz167 hx168 => ?_)
          obtain rfl : v166 = 0 := (hx168.2 _ rfl).trans h6163.1
          refine tt_iload (j := 1) dL_law_432 rfl ?_
          refine tt_icmp_eq (tgt := 439) dL_law_434 rfl (fun _ => ?_) (fun q => absurd rfl q)
          refine tt_iload (j := 1) dL_law_439 rfl ?_
          refine tt_if_ne (tgt := 456) dL_law_441 rfl (fun q => absurd q (by decide)) (fun _ => ?_)
          refine tt_aload_n (j := 3) dL_law_444 rfl ?_
          refine tt_iconst (v := 0) dL_law_445 rfl ?_
          refine gt_lLt dL_law_446 h3 hA158 (rg_in (⟨by decide, by decide⟩ : Rg 0 0 0)) ?_
          refine tt_iload (j := 0) dL_law_447 rfl ?_
          refine tt_i2l dL_law_449 ?_
          refine tt_lcmp dL_law_450 ?_
          refine tt_if_eq (tgt := 456) dL_law_451 rfl (fun _ => ?_) (fun q => absurd oq164 (lc_eq_f q))
          refine tt_goto (tgt := 810) dL_law_456 rfl ?_
          exact tt_loc (ks := [2, 3, 4, 5, 6]) rfl (hJ S152 (k - 1) (n - 6) hG156 hA158 rl160 cn162 by159 (by rw [er161]; omega) (by rw [er161]; omega))
        · skip
          refine gt_SW (As := [.ref o1, .int (xs (x4 + 1).toNatClampNeg), .int (xs (x4 + 2).toNatClampNeg), .ref o3]) dL_law_405 ca_L_77 ⟨by decide, by decide⟩ hA (Nat.le_of_ble_eq_true rfl) (Nat.le_of_ble_eq_true rfl) (by decide) (by omega) (by omega) (cwkd_L_decode hG (oa_af h1 hA) (oa_af h3 hA) (fun c hc => by obtain rfl : c1 = c := Option.some.inj (hrc.symm.trans hc); exact hr9) hs9 (fun _ _ _ _ h => h)) (fun S172 z173 hz174 hG175 hB176 hA177 => ?_)
          have rl178 := rel_af hrel (oa_af h2 hA) hB176
          have er179 := (hB176.2.2.2.1 (by decide)).2.trans er0
          have by180 := by_af hby (oa_af hob hA) (oa_af hom hA) hB176
          have cn181 := cn_af hcn (oa_af hc1 hA) (oa_af h2 hA) hB176
          obtain rfl : z173 = 1 := hz174
          refine tt_istore (ks := [0, 1, 2, 3, 4, 5]) (L' := [(5, .int 1), (4, .int x4), (3, .ref o3), (2, .ref o2), (1, .ref o1), (0, .ref b)]) dL_law_408 (by decide) rfl ?_
          refine tt_aload_n (j := 3) dL_law_410 rfl ?_
          refine tt_aload_n (j := 5) dL_law_411 rfl ?_
          refine tt_iload (j := 1) dL_law_412 rfl ?_
          refine tt_iconst (v := 1) dL_law_414 rfl ?_
          refine tt_iadd dL_law_415 ?_
          refine tt_sld (xi := (b, L, xs)) dL_law_416 (sc_in hx hL) ?_
          refine tt_aload_n (j := 5) dL_law_417 rfl ?_
          refine tt_iload (j := 1) dL_law_418 rfl ?_
          refine tt_iconst (v := 2) dL_law_420 rfl ?_
          refine tt_iadd dL_law_421 ?_
          refine tt_sld (xi := (b, L, xs)) dL_law_422 (sc_in hx hL) ?_
          refine gt_VI (As := [.int (xs (x4 + 1).toNatClampNeg), .int (xs (x4 + 2).toNatClampNeg)]) dL_law_423 ca_L_80 ⟨by decide, by decide⟩ h2 hA177 rfl (Nat.le_of_ble_eq_true rfl) (Nat.le_of_ble_eq_true rfl) (by decide) (cx_X10_decode hG175 (oa_af h2 hA177) (br_af (bs := hp_i S ab) (n := hp_I S 65 c1) ⟨am, hrm, hom, hby.1.symm, hcn.symm⟩ h2 hB176) (fun _ _ _ _ h => h)) rfl (fun _ h => nomatch h) (fun S182 v183 hz184 hx185 hG186 hB187 hA188 => ?_)
          have by189 := by_af by180 (oa_af hob hA177) (oa_af hom hA177) hB187
          have rl190 := rel_af rl178 (oa_af h2 hA177) hB187
          have er191 := (hB187.2.2.2.1 (by decide)).2.trans er179
          have cn192 := cn_af cn181 (oa_af hc1 hA177) (oa_af h2 hA177) hB187
          have h6193 := dc_n (hcn.trans (i_af (k := 642) h2 hB176).symm) (fun q => hs9 q.2) hx185
          refine tt_istore (ks := [0, 1, 2, 3, 4, 5, 6]) (L' := [(6, .int v183), (5, .int 1), (4, .int x4), (3, .ref o3), (2, .ref o2), (1, .ref o1), (0, .ref b)]) dL_law_426 (by decide) rfl ?_
          refine tt_aload_n (j := 4) dL_law_428 rfl ?_
          refine gt_VIp (As := []) dL_law_429 ca_L_81 ⟨by decide, by decide⟩ h2 hA188 rfl (Nat.le_of_ble_eq_true rfl) (Nat.le_of_ble_eq_true rfl) (by decide) (cs_X10_thrown hG186 (oa_af h2 hA188) (fun _ _ _ _ h => h)) rfl (fun _ h => nomatch h) (fun _ _ q => q.1) (fun v195 hz196 hx197 => ?_)
          obtain rfl : v195 = 1 := (hx197.2 _ rfl).trans h6193
          refine tt_iload (j := 1) dL_law_432 rfl ?_
          refine tt_icmp_eq (tgt := 439) dL_law_434 rfl (fun _ => ?_) (fun q => absurd rfl q)
          refine tt_iload (j := 1) dL_law_439 rfl ?_
          refine tt_if_ne (tgt := 456) dL_law_441 rfl (fun _ => ?_) (fun q => absurd q (by decide))
          refine tt_goto (tgt := 810) dL_law_456 rfl ?_
          exact tt_loc (ks := [2, 3, 4, 5, 6]) rfl (hJ S182 (k - 1) (n - 6) hG186 hA188 rl190 cn192 by189 (by rw [er191]; omega) (by rw [er191]; omega))
      · skip
        refine gt_SW (As := [.ref o1, .int (xs (x4 + 1).toNatClampNeg), .int (xs (x4 + 2).toNatClampNeg), .ref o3]) dL_law_405 ca_L_77 ⟨by decide, by decide⟩ hA (Nat.le_of_ble_eq_true rfl) (Nat.le_of_ble_eq_true rfl) (by decide) (by omega) (by omega) (cwnd_L_decode hG (oa_af h1 hA) (oa_af h3 hA) (fun c hc => by obtain rfl : c1 = c := Option.some.inj (hrc.symm.trans hc); exact hr9) (fun _ _ _ _ h => h)) (fun S201 z202 hz203 hG204 hB205 hA206 => ?_)
        have rl207 := rel_af hrel (oa_af h2 hA) hB205
        have er208 := (hB205.2.2.2.1 (by decide)).2.trans er0
        have by209 := by_af hby (oa_af hob hA) (oa_af hom hA) hB205
        have cn210 := cn_af hcn (oa_af hc1 hA) (oa_af h2 hA) hB205
        obtain rfl : z202 = 1 := hz203
        refine tt_istore (ks := [0, 1, 2, 3, 4, 5]) (L' := [(5, .int 1), (4, .int x4), (3, .ref o3), (2, .ref o2), (1, .ref o1), (0, .ref b)]) dL_law_408 (by decide) rfl ?_
        refine tt_aload_n (j := 3) dL_law_410 rfl ?_
        refine tt_aload_n (j := 5) dL_law_411 rfl ?_
        refine tt_iload (j := 1) dL_law_412 rfl ?_
        refine tt_iconst (v := 1) dL_law_414 rfl ?_
        refine tt_iadd dL_law_415 ?_
        refine tt_sld (xi := (b, L, xs)) dL_law_416 (sc_in hx hL) ?_
        refine tt_aload_n (j := 5) dL_law_417 rfl ?_
        refine tt_iload (j := 1) dL_law_418 rfl ?_
        refine tt_iconst (v := 2) dL_law_420 rfl ?_
        refine tt_iadd dL_law_421 ?_
        refine tt_sld (xi := (b, L, xs)) dL_law_422 (sc_in hx hL) ?_
        refine gt_VI (As := [.int (xs (x4 + 1).toNatClampNeg), .int (xs (x4 + 2).toNatClampNeg)]) dL_law_423 ca_L_80 ⟨by decide, by decide⟩ h2 hA206 rfl (Nat.le_of_ble_eq_true rfl) (Nat.le_of_ble_eq_true rfl) (by decide) (cx_X10_decode hG204 (oa_af h2 hA206) (br_af (bs := hp_i S ab) (n := hp_I S 65 c1) ⟨am, hrm, hom, hby.1.symm, hcn.symm⟩ h2 hB205) (fun _ _ _ _ h => h)) rfl (fun _ h => nomatch h) (fun S211 v212 hz213 hx214 hG215 hB216 hA217 => ?_)
        have by218 := by_af by209 (oa_af hob hA206) (oa_af hom hA206) hB216
        have rl219 := rel_af rl207 (oa_af h2 hA206) hB216
        have er220 := (hB216.2.2.2.1 (by decide)).2.trans er208
        have cn221 := cn_af cn210 (oa_af hc1 hA206) (oa_af h2 hA206) hB216
        have h6222 := dc_n (hcn.trans (i_af (k := 642) h2 hB205).symm) (fun q => hr9 q.1) hx214
        refine tt_istore (ks := [0, 1, 2, 3, 4, 5, 6]) (L' := [(6, .int v212), (5, .int 1), (4, .int x4), (3, .ref o3), (2, .ref o2), (1, .ref o1), (0, .ref b)]) dL_law_426 (by decide) rfl ?_
        refine tt_aload_n (j := 4) dL_law_428 rfl ?_
        refine gt_VIp (As := []) dL_law_429 ca_L_81 ⟨by decide, by decide⟩ h2 hA217 rfl (Nat.le_of_ble_eq_true rfl) (Nat.le_of_ble_eq_true rfl) (by decide) (cs_X10_thrown hG215 (oa_af h2 hA217) (fun _ _ _ _ h => h)) rfl (fun _ h => nomatch h) (fun _ _ q => q.1) (fun v224 hz225 hx226 => ?_)
        obtain rfl : v224 = 1 := (hx226.2 _ rfl).trans h6222
        refine tt_iload (j := 1) dL_law_432 rfl ?_
        refine tt_icmp_eq (tgt := 439) dL_law_434 rfl (fun _ => ?_) (fun q => absurd rfl q)
        refine tt_iload (j := 1) dL_law_439 rfl ?_
        refine tt_if_ne (tgt := 456) dL_law_441 rfl (fun _ => ?_) (fun q => absurd q (by decide))
        refine tt_goto (tgt := 810) dL_law_456 rfl ?_
        exact tt_loc (ks := [2, 3, 4, 5, 6]) rfl (hJ S211 (k - 1) (n - 6) hG215 hA217 rl219 cn221 by218 (by rw [er220]; omega) (by rw [er220]; omega))
    · skip
      refine tt_aload_n (j := 3) dL_law_459 rfl ?_
      refine tt_aload_n (j := 4) dL_law_460 rfl ?_
      refine tt_iload (j := 0) dL_law_461 rfl ?_
      refine tt_iconst (v := 1) dL_law_463 rfl ?_
      refine tt_iadd dL_law_464 ?_
      refine tt_sld (xi := (b, L, xs)) dL_law_465 (sc_in hx hL) ?_
      refine tt_aload_n (j := 1) dL_law_466 rfl ?_
      refine gt_SW (As := [.ref o1, .int (xs (x4 + 1).toNatClampNeg), .ref o3]) dL_law_467 ca_L_84 ⟨by decide, by decide⟩ hA (Nat.le_of_ble_eq_true rfl) (Nat.le_of_ble_eq_true rfl) (by decide) (by omega) (by omega) (cw_L_constant hG (oa_af h1 hA) (oa_af h3 hA) (fun _ _ _ _ h => h)) (fun S230 z231 hz232 hG233 hB234 hA235 => ?_)
      have rl236 := rel_af hrel (oa_af h2 hA) hB234
      have er237 := (hB234.2.2.2.1 (by decide)).2.trans er0
      have by238 := by_af hby (oa_af hob hA) (oa_af hom hA) hB234
      have cn239 := cn_af hcn (oa_af hc1 hA) (oa_af h2 hA) hB234
      refine tt_istore (ks := [0, 1, 2, 3, 4, 5]) (L' := [(5, .int z231), (4, .int x4), (3, .ref o3), (2, .ref o2), (1, .ref o1), (0, .ref b)]) dL_law_470 (by decide) rfl ?_
      refine tt_aload_n (j := 3) dL_law_472 rfl ?_
      refine tt_aload_n (j := 5) dL_law_473 rfl ?_
      refine tt_iload (j := 1) dL_law_474 rfl ?_
      refine tt_iconst (v := 1) dL_law_476 rfl ?_
      refine tt_iadd dL_law_477 ?_
      refine tt_sld (xi := (b, L, xs)) dL_law_478 (sc_in hx hL) ?_
      refine gt_VJ (As := [.int (xs (x4 + 1).toNatClampNeg)]) dL_law_479 ca_L_87 ⟨by decide, by decide⟩ h2 hA235 rfl (Nat.le_of_ble_eq_true rfl) (Nat.le_of_ble_eq_true rfl) (by decide) (cs_X10_constant hG233 (oa_af h2 hA235) (fun _ _ _ _ h => h)) rfl (fun _ h => nomatch h) (fun S240 v241 hx243 hG244 hB245 hA246 => ?_)
      have by247 := by_af by238 (oa_af hob hA235) (oa_af hom hA235) hB245
      have rl248 := rel_af rl236 (oa_af h2 hA235) hB245
      have er249 := (hB245.2.2.2.1 (by decide)).2.trans er237
      have cn250 := cn_af cn239 (oa_af hc1 hA235) (oa_af h2 hA235) hB245
      refine tt_lstore (ks := [0, 1, 2, 3, 4, 5, 6]) (L' := [(6, .long v241), (5, .int z231), (4, .int x4), (3, .ref o3), (2, .ref o2), (1, .ref o1), (0, .ref b)]) dL_law_482 (by decide) rfl ?_
      refine tt_goto (tgt := 810) dL_law_484 rfl ?_
      exact tt_loc (ks := [2, 3, 4, 5, 6]) rfl (hJ S240 (k - 1) (n - 6) hG244 hA246 rl248 cn250 by247 (by rw [er249]; omega) (by rw [er249]; omega))
    · skip
      refine tt_aload_n (j := 3) dL_law_487 rfl ?_
      refine gt_AI (pa := pa) (As := []) dL_law_488 ca_L_88 ⟨by decide, by decide⟩ h1 hA rfl (Nat.le_of_ble_eq_true rfl) (Nat.le_of_ble_eq_true rfl) (by decide) (cs_X9_look rfl hG (oa_af h1 hA) (pa_af hG h1 hA hpa) (by rw [er0]; omega) (by rw [er0]; omega) (fun _ _ _ _ h => h)) rfl (fun S251 v252 k258 n259 hz253 hG255 hB256 hA257 bd260 => ?_)
      have rl261 := rel_af hrel (oa_af h2 hA) hB256
      have er262 : hp_r S251 = hp_r S251 := rfl
      have cn263 := cn_af hcn (oa_af hc1 hA) (oa_af h2 hA) hB256
      have by264 := by_af hby (oa_af hob hA) (oa_af hom hA) hB256
      refine tt_pop dL_law_491 rfl ?_
      refine tt_aload_n (j := 2) dL_law_492 rfl ?_
      refine gt_VI (As := []) dL_law_493 ca_L_91 ⟨by decide, by decide⟩ h2 hA257 rfl (Nat.le_of_ble_eq_true rfl) (Nat.le_of_ble_eq_true rfl) (by decide) (cs_X10_look hG255 (oa_af h2 hA257) (fun _ _ _ _ h => h)) rfl (fun _ h => nomatch h) (fun S265 v266 hz267 hx268 hG269 hB270 hA271 => ?_)
      have by272 := by_af by264 (oa_af hob hA257) (oa_af hom hA257) hB270
      have rl273 := rel_af rl261 (oa_af h2 hA257) hB270
      have er274 := (hB270.2.2.2.1 (by decide)).2.trans er262
      have cn275 := cn_af cn263 (oa_af hc1 hA257) (oa_af h2 hA257) hB270
      refine tt_pop dL_law_496 rfl ?_
      refine tt_goto (tgt := 810) dL_law_497 rfl ?_
      exact tt_loc (ks := [0, 1, 2, 3, 4]) rfl (hJ S265 k258 n259 hG269 hA271 rl273 cn275 by272 (by have q1 := bd260.1; have q2 := bd260.2; rw [er274]; omega) (by have q1 := bd260.1; have q2 := bd260.2; rw [er274]; omega))
    · skip
      refine tt_aload_n (j := 3) dL_law_500 rfl ?_
      refine tt_aload_n (j := 4) dL_law_501 rfl ?_
      refine tt_iload (j := 0) dL_law_502 rfl ?_
      refine tt_iconst (v := 1) dL_law_504 rfl ?_
      refine tt_iadd dL_law_505 ?_
      refine tt_sld (xi := (b, L, xs)) dL_law_506 (sc_in hx hL) ?_
      refine gt_VIp (As := [.int (xs (x4 + 1).toNatClampNeg)]) dL_law_507 ca_L_92 ⟨by decide, by decide⟩ h1 hA rfl (Nat.le_of_ble_eq_true rfl) (Nat.le_of_ble_eq_true rfl) (by decide) (cs_X9_reached hG (oa_af h1 hA) (fun _ _ _ _ h => h)) rfl (fun _ h => nomatch h) (fun _ _ q => q) (fun v277 hz278 hx279 => ?_)
      refine tt_pop dL_law_510 rfl ?_
      refine tt_aload_n (j := 2) dL_law_511 rfl ?_
      refine tt_aload_n (j := 4) dL_law_512 rfl ?_
      refine tt_iload (j := 0) dL_law_513 rfl ?_
      refine tt_iconst (v := 1) dL_law_515 rfl ?_
      refine tt_iadd dL_law_516 ?_
      refine tt_sld (xi := (b, L, xs)) dL_law_517 (sc_in hx hL) ?_
      refine gt_VI (As := [.int (xs (x4 + 1).toNatClampNeg)]) dL_law_518 ca_L_95 ⟨by decide, by decide⟩ h2 hA rfl (Nat.le_of_ble_eq_true rfl) (Nat.le_of_ble_eq_true rfl) (by decide) (cs_X10_reached hG (oa_af h2 hA) (fun _ _ _ _ h => h)) rfl (fun _ h => nomatch h) (fun S283 v284 hz285 hx286 hG287 hB288 hA289 => ?_)
      have by290 := by_af hby (oa_af hob hA) (oa_af hom hA) hB288
      have rl291 := rel_af hrel (oa_af h2 hA) hB288
      have er292 := (hB288.2.2.2.1 (by decide)).2.trans er0
      have cn293 := cn_af hcn (oa_af hc1 hA) (oa_af h2 hA) hB288
      refine tt_pop dL_law_521 rfl ?_
      refine tt_goto (tgt := 810) dL_law_522 rfl ?_
      exact tt_loc (ks := [0, 1, 2, 3, 4]) rfl (hJ S283 k n hG287 hA289 rl291 cn293 by290 (by rw [er292]; omega) (by rw [er292]; omega))
    · skip
      refine tt_aload_n (j := 3) dL_law_525 rfl ?_
      refine tt_aload_n (j := 4) dL_law_526 rfl ?_
      refine tt_iload (j := 0) dL_law_527 rfl ?_
      refine tt_iconst (v := 1) dL_law_529 rfl ?_
      refine tt_iadd dL_law_530 ?_
      refine tt_sld (xi := (b, L, xs)) dL_law_531 (sc_in hx hL) ?_
      refine tt_aload_n (j := 4) dL_law_532 rfl ?_
      refine tt_iload (j := 0) dL_law_533 rfl ?_
      refine tt_iconst (v := 2) dL_law_535 rfl ?_
      refine tt_iadd dL_law_536 ?_
      refine tt_sld (xi := (b, L, xs)) dL_law_537 (sc_in hx hL) ?_
      refine tt_aload_n (j := 4) dL_law_538 rfl ?_
      refine tt_iload (j := 0) dL_law_539 rfl ?_
      refine tt_iconst (v := 3) dL_law_541 rfl ?_
      refine tt_iadd dL_law_542 ?_
      refine tt_sld (xi := (b, L, xs)) dL_law_543 (sc_in hx hL) ?_
      refine tt_aload_n (j := 1) dL_law_544 rfl ?_
      refine gt_SW (As := [.ref o1, .int (xs (x4 + 1).toNatClampNeg), .int (xs (x4 + 2).toNatClampNeg), .int (xs (x4 + 3).toNatClampNeg), .ref o3]) dL_law_545 ca_L_96 ⟨by decide, by decide⟩ hA (Nat.le_of_ble_eq_true rfl) (Nat.le_of_ble_eq_true rfl) (by decide) (by omega) (by omega) (cw_L_set hG (oa_af h1 hA) (oa_af h3 hA) (fun _ _ _ _ h => h)) (fun S294 z295 hz296 hG297 hB298 hA299 => ?_)
      have rl300 := rel_af hrel (oa_af h2 hA) hB298
      have er301 := (hB298.2.2.2.1 (by decide)).2.trans er0
      have by302 := by_af hby (oa_af hob hA) (oa_af hom hA) hB298
      have cn303 := cn_af hcn (oa_af hc1 hA) (oa_af h2 hA) hB298
      refine tt_istore (ks := [0, 1, 2, 3, 4, 5]) (L' := [(5, .int z295), (4, .int x4), (3, .ref o3), (2, .ref o2), (1, .ref o1), (0, .ref b)]) dL_law_548 (by decide) rfl ?_
      refine tt_aload_n (j := 3) dL_law_550 rfl ?_
      refine tt_aload_n (j := 5) dL_law_551 rfl ?_
      refine tt_iload (j := 1) dL_law_552 rfl ?_
      refine tt_iconst (v := 1) dL_law_554 rfl ?_
      refine tt_iadd dL_law_555 ?_
      refine tt_sld (xi := (b, L, xs)) dL_law_556 (sc_in hx hL) ?_
      refine tt_aload_n (j := 5) dL_law_557 rfl ?_
      refine tt_iload (j := 1) dL_law_558 rfl ?_
      refine tt_iconst (v := 2) dL_law_560 rfl ?_
      refine tt_iadd dL_law_561 ?_
      refine tt_sld (xi := (b, L, xs)) dL_law_562 (sc_in hx hL) ?_
      refine tt_aload_n (j := 5) dL_law_563 rfl ?_
      refine tt_iload (j := 1) dL_law_564 rfl ?_
      refine tt_iconst (v := 3) dL_law_566 rfl ?_
      refine tt_iadd dL_law_567 ?_
      refine tt_sld (xi := (b, L, xs)) dL_law_568 (sc_in hx hL) ?_
      refine gt_VJ (As := [.int (xs (x4 + 1).toNatClampNeg), .int (xs (x4 + 2).toNatClampNeg), .int (xs (x4 + 3).toNatClampNeg)]) dL_law_569 ca_L_99 ⟨by decide, by decide⟩ h2 hA299 rfl (Nat.le_of_ble_eq_true rfl) (Nat.le_of_ble_eq_true rfl) (by decide) (cs_X10_set hG297 (oa_af h2 hA299) (fun _ _ _ _ h => h)) rfl (fun _ h => nomatch h) (fun S304 v305 hx307 hG308 hB309 hA310 => ?_)
      have by311 := by_af by302 (oa_af hob hA299) (oa_af hom hA299) hB309
      have rl312 := rel_af rl300 (oa_af h2 hA299) hB309
      have er313 := (hB309.2.2.2.1 (by decide)).2.trans er301
      have cn314 := cn_af cn303 (oa_af hc1 hA299) (oa_af h2 hA299) hB309
      refine tt_lstore (ks := [0, 1, 2, 3, 4, 5, 6]) (L' := [(6, .long v305), (5, .int z295), (4, .int x4), (3, .ref o3), (2, .ref o2), (1, .ref o1), (0, .ref b)]) dL_law_572 (by decide) rfl ?_
      refine tt_goto (tgt := 810) dL_law_574 rfl ?_
      exact tt_loc (ks := [2, 3, 4, 5, 6]) rfl (hJ S304 (k - 1) (n - 6) hG308 hA310 rl312 cn314 by311 (by rw [er313]; omega) (by rw [er313]; omega))
    · skip
      refine tt_aload_n (j := 3) dL_law_577 rfl ?_
      refine tt_aload_n (j := 4) dL_law_578 rfl ?_
      refine tt_iload (j := 0) dL_law_579 rfl ?_
      refine tt_iconst (v := 1) dL_law_581 rfl ?_
      refine tt_iadd dL_law_582 ?_
      refine tt_sld (xi := (b, L, xs)) dL_law_583 (sc_in hx hL) ?_
      refine tt_aload_n (j := 4) dL_law_584 rfl ?_
      refine tt_iload (j := 0) dL_law_585 rfl ?_
      refine tt_iconst (v := 2) dL_law_587 rfl ?_
      refine tt_iadd dL_law_588 ?_
      refine tt_sld (xi := (b, L, xs)) dL_law_589 (sc_in hx hL) ?_
      refine tt_aload_n (j := 4) dL_law_590 rfl ?_
      refine tt_iload (j := 0) dL_law_591 rfl ?_
      refine tt_iconst (v := 3) dL_law_593 rfl ?_
      refine tt_iadd dL_law_594 ?_
      refine tt_sld (xi := (b, L, xs)) dL_law_595 (sc_in hx hL) ?_
      refine tt_i2l dL_law_596 ?_
      refine tt_bipush (v := 32) dL_law_597 rfl ?_
      refine tt_lshl dL_law_599 ?_
      refine tt_aload_n (j := 4) dL_law_600 rfl ?_
      refine tt_iload (j := 0) dL_law_601 rfl ?_
      refine tt_iconst (v := 4) dL_law_603 rfl ?_
      refine tt_iadd dL_law_604 ?_
      refine tt_sld (xi := (b, L, xs)) dL_law_605 (sc_in hx hL) ?_
      refine tt_i2l dL_law_606 ?_
      refine tt_ldc2 (v := 4294967295) dL_law_607 kl_L_67 ?_
      refine tt_land dL_law_610 ?_
      refine tt_lor dL_law_611 ?_
      refine tt_aload_n (j := 1) dL_law_612 rfl ?_
      refine gt_SW (As := [.ref o1, .int (xs (x4 + 1).toNatClampNeg), .int (xs (x4 + 2).toNatClampNeg), .long ((((xs (x4 + 3).toNatClampNeg) : Int32).toInt64 <<< ((32 : Int32).toInt64 &&& 63)) ||| (((xs (x4 + 4).toNatClampNeg) : Int32).toInt64 &&& 4294967295)), .ref o3]) dL_law_613 ca_L_100 ⟨by decide, by decide⟩ hA (Nat.le_of_ble_eq_true rfl) (Nat.le_of_ble_eq_true rfl) (by decide) (by omega) (by omega) (cw_L_has hG (oa_af h1 hA) (oa_af h3 hA) (fun _ _ _ _ h => h)) (fun S315 z316 hz317 hG318 hB319 hA320 => ?_)
      have rl321 := rel_af hrel (oa_af h2 hA) hB319
      have er322 := (hB319.2.2.2.1 (by decide)).2.trans er0
      have by323 := by_af hby (oa_af hob hA) (oa_af hom hA) hB319
      have cn324 := cn_af hcn (oa_af hc1 hA) (oa_af h2 hA) hB319
      refine tt_istore (ks := [0, 1, 2, 3, 4, 5]) (L' := [(5, .int z316), (4, .int x4), (3, .ref o3), (2, .ref o2), (1, .ref o1), (0, .ref b)]) dL_law_616 (by decide) rfl ?_
      refine tt_aload_n (j := 3) dL_law_618 rfl ?_
      refine tt_aload_n (j := 5) dL_law_619 rfl ?_
      refine tt_iload (j := 1) dL_law_620 rfl ?_
      refine tt_iconst (v := 1) dL_law_622 rfl ?_
      refine tt_iadd dL_law_623 ?_
      refine tt_sld (xi := (b, L, xs)) dL_law_624 (sc_in hx hL) ?_
      refine tt_aload_n (j := 5) dL_law_625 rfl ?_
      refine tt_iload (j := 1) dL_law_626 rfl ?_
      refine tt_iconst (v := 2) dL_law_628 rfl ?_
      refine tt_iadd dL_law_629 ?_
      refine tt_sld (xi := (b, L, xs)) dL_law_630 (sc_in hx hL) ?_
      refine tt_aload_n (j := 5) dL_law_631 rfl ?_
      refine tt_iload (j := 1) dL_law_632 rfl ?_
      refine tt_iconst (v := 3) dL_law_634 rfl ?_
      refine tt_iadd dL_law_635 ?_
      refine tt_sld (xi := (b, L, xs)) dL_law_636 (sc_in hx hL) ?_
      refine tt_i2l dL_law_637 ?_
      refine tt_bipush (v := 32) dL_law_638 rfl ?_
      refine tt_lshl dL_law_640 ?_
      refine tt_aload_n (j := 5) dL_law_641 rfl ?_
      refine tt_iload (j := 1) dL_law_642 rfl ?_
      refine tt_iconst (v := 4) dL_law_644 rfl ?_
      refine tt_iadd dL_law_645 ?_
      refine tt_sld (xi := (b, L, xs)) dL_law_646 (sc_in hx hL) ?_
      refine tt_i2l dL_law_647 ?_
      refine tt_ldc2 (v := 4294967295) dL_law_648 kl_L_67 ?_
      refine tt_land dL_law_651 ?_
      refine tt_lor dL_law_652 ?_
      refine gt_VI (As := [.int (xs (x4 + 1).toNatClampNeg), .int (xs (x4 + 2).toNatClampNeg), .long ((((xs (x4 + 3).toNatClampNeg) : Int32).toInt64 <<< ((32 : Int32).toInt64 &&& 63)) ||| (((xs (x4 + 4).toNatClampNeg) : Int32).toInt64 &&& 4294967295))]) dL_law_653 ca_L_103 ⟨by decide, by decide⟩ h2 hA320 rfl (Nat.le_of_ble_eq_true rfl) (Nat.le_of_ble_eq_true rfl) (by decide) (cs_X10_has hG318 (oa_af h2 hA320) (fun _ _ _ _ h => h)) rfl (fun _ h => nomatch h) (fun S325 v326 hz327 hx328 hG329 hB330 hA331 => ?_)
      have by332 := by_af by323 (oa_af hob hA320) (oa_af hom hA320) hB330
      have rl333 := rel_af rl321 (oa_af h2 hA320) hB330
      have er334 := (hB330.2.2.2.1 (by decide)).2.trans er322
      have cn335 := cn_af cn324 (oa_af hc1 hA320) (oa_af h2 hA320) hB330
      refine tt_istore (ks := [0, 1, 2, 3, 4, 5, 6]) (L' := [(6, .int v326), (5, .int z316), (4, .int x4), (3, .ref o3), (2, .ref o2), (1, .ref o1), (0, .ref b)]) dL_law_656 (by decide) rfl ?_
      refine tt_goto (tgt := 810) dL_law_658 rfl ?_
      exact tt_loc (ks := [2, 3, 4, 5, 6]) rfl (hJ S325 (k - 1) (n - 6) hG329 hA331 rl333 cn335 by332 (by rw [er334]; omega) (by rw [er334]; omega))
    · skip
      refine tt_aload_n (j := 3) dL_law_661 rfl ?_
      refine gt_Vv (As := []) dL_law_662 ca_L_104 ⟨by decide, by decide⟩ h1 hA rfl (Nat.le_of_ble_eq_true rfl) (Nat.le_of_ble_eq_true rfl) (by decide) (cs_X9_start hG (oa_af h1 hA) (fun _ _ _ _ h => h)) rfl (fun _ h => nomatch h) (fun S336 hx339 hG340 hB341 hA342 => ?_)
      have by343 := by_af hby (oa_af hob hA) (oa_af hom hA) hB341
      have rl344 := rel_af hrel (oa_af h2 hA) hB341
      have er345 := (hB341.2.2.2.1 (by decide)).2.trans er0
      have cn346 := cn_af hcn (oa_af hc1 hA) (oa_af h2 hA) hB341
      refine tt_aload_n (j := 2) dL_law_665 rfl ?_
      refine gt_Vv (As := []) dL_law_666 ca_L_107 ⟨by decide, by decide⟩ h2 hA342 rfl (Nat.le_of_ble_eq_true rfl) (Nat.le_of_ble_eq_true rfl) (by decide) (cs_X10_start hG340 (oa_af h2 hA342) (fun _ _ _ _ h => h)) rfl (fun _ h => nomatch h) (fun S347 hx350 hG351 hB352 hA353 => ?_)
      have by354 := by_af by343 (oa_af hob hA342) (oa_af hom hA342) hB352
      have rl355 := hx350 rl344
      have er356 := (hB352.2.2.2.1 (by decide)).2.trans er345
      have cn357 := cn_af cn346 (oa_af hc1 hA342) (oa_af h2 hA342) hB352
      refine tt_goto (tgt := 810) dL_law_669 rfl ?_
      exact tt_loc (ks := [0, 1, 2, 3, 4]) rfl (hJ S347 k n hG351 hA353 rl355 cn357 by354 (by rw [er356]; omega) (by rw [er356]; omega))
    · skip
      refine tt_aload_n (j := 3) dL_law_672 rfl ?_
      refine tt_aload_n (j := 4) dL_law_673 rfl ?_
      refine tt_iload (j := 0) dL_law_674 rfl ?_
      refine tt_iconst (v := 1) dL_law_676 rfl ?_
      refine tt_iadd dL_law_677 ?_
      refine tt_sld (xi := (b, L, xs)) dL_law_678 (sc_in hx hL) ?_
      refine tt_aload_n (j := 4) dL_law_679 rfl ?_
      refine tt_iload (j := 0) dL_law_680 rfl ?_
      refine tt_iconst (v := 2) dL_law_682 rfl ?_
      refine tt_iadd dL_law_683 ?_
      refine tt_sld (xi := (b, L, xs)) dL_law_684 (sc_in hx hL) ?_
      refine tt_i2l dL_law_685 ?_
      refine tt_bipush (v := 32) dL_law_686 rfl ?_
      refine tt_lshl dL_law_688 ?_
      refine tt_aload_n (j := 4) dL_law_689 rfl ?_
      refine tt_iload (j := 0) dL_law_690 rfl ?_
      refine tt_iconst (v := 3) dL_law_692 rfl ?_
      refine tt_iadd dL_law_693 ?_
      refine tt_sld (xi := (b, L, xs)) dL_law_694 (sc_in hx hL) ?_
      refine tt_i2l dL_law_695 ?_
      refine tt_ldc2 (v := 4294967295) dL_law_696 kl_L_67 ?_
      refine tt_land dL_law_699 ?_
      refine tt_lor dL_law_700 ?_
      refine gt_SW (As := [.ref o1, .int (xs (x4 + 1).toNatClampNeg), .long ((((xs (x4 + 2).toNatClampNeg) : Int32).toInt64 <<< ((32 : Int32).toInt64 &&& 63)) ||| (((xs (x4 + 3).toNatClampNeg) : Int32).toInt64 &&& 4294967295))]) dL_law_701 ca_L_108 ⟨by decide, by decide⟩ hA (Nat.le_of_ble_eq_true rfl) (Nat.le_of_ble_eq_true rfl) (by decide) (by omega) (by omega) (cw_L_put hG (oa_af h1 hA) (fun _ _ _ _ h => h)) (fun S358 z359 hz360 hG361 hB362 hA363 => ?_)
      have rl364 := rel_af hrel (oa_af h2 hA) hB362
      have er365 := (hB362.2.2.2.1 (by decide)).2.trans er0
      have by366 := by_af hby (oa_af hob hA) (oa_af hom hA) hB362
      have cn367 := cn_af hcn (oa_af hc1 hA) (oa_af h2 hA) hB362
      refine tt_istore (ks := [0, 1, 2, 3, 4, 5]) (L' := [(5, .int z359), (4, .int x4), (3, .ref o3), (2, .ref o2), (1, .ref o1), (0, .ref b)]) dL_law_704 (by decide) rfl ?_
      refine tt_aload_n (j := 3) dL_law_706 rfl ?_
      refine tt_aload_n (j := 5) dL_law_707 rfl ?_
      refine tt_iload (j := 1) dL_law_708 rfl ?_
      refine tt_iconst (v := 1) dL_law_710 rfl ?_
      refine tt_iadd dL_law_711 ?_
      refine tt_sld (xi := (b, L, xs)) dL_law_712 (sc_in hx hL) ?_
      refine tt_aload_n (j := 5) dL_law_713 rfl ?_
      refine tt_iload (j := 1) dL_law_714 rfl ?_
      refine tt_iconst (v := 2) dL_law_716 rfl ?_
      refine tt_iadd dL_law_717 ?_
      refine tt_sld (xi := (b, L, xs)) dL_law_718 (sc_in hx hL) ?_
      refine tt_i2l dL_law_719 ?_
      refine tt_bipush (v := 32) dL_law_720 rfl ?_
      refine tt_lshl dL_law_722 ?_
      refine tt_aload_n (j := 5) dL_law_723 rfl ?_
      refine tt_iload (j := 1) dL_law_724 rfl ?_
      refine tt_iconst (v := 3) dL_law_726 rfl ?_
      refine tt_iadd dL_law_727 ?_
      refine tt_sld (xi := (b, L, xs)) dL_law_728 (sc_in hx hL) ?_
      refine tt_i2l dL_law_729 ?_
      refine tt_ldc2 (v := 4294967295) dL_law_730 kl_L_67 ?_
      refine tt_land dL_law_733 ?_
      refine tt_lor dL_law_734 ?_
      refine gt_Vv (As := [.int (xs (x4 + 1).toNatClampNeg), .long ((((xs (x4 + 2).toNatClampNeg) : Int32).toInt64 <<< ((32 : Int32).toInt64 &&& 63)) ||| (((xs (x4 + 3).toNatClampNeg) : Int32).toInt64 &&& 4294967295))]) dL_law_735 ca_L_111 ⟨by decide, by decide⟩ h2 hA363 rfl (Nat.le_of_ble_eq_true rfl) (Nat.le_of_ble_eq_true rfl) (by decide) (cs_X10_put hG361 (oa_af h2 hA363) (fun _ _ _ _ h => h)) rfl (fun _ h => nomatch h) (fun S368 hx371 hG372 hB373 hA374 => ?_)
      have by375 := by_af by366 (oa_af hob hA363) (oa_af hom hA363) hB373
      have rl376 := rel_af rl364 (oa_af h2 hA363) hB373
      have er377 := (hB373.2.2.2.1 (by decide)).2.trans er365
      have cn378 := cn_af cn367 (oa_af hc1 hA363) (oa_af h2 hA363) hB373
      refine tt_goto (tgt := 810) dL_law_738 rfl ?_
      exact tt_loc (ks := [1, 2, 3, 4, 5]) rfl (hJ S368 (k - 1) (n - 6) hG372 hA374 rl376 cn378 by375 (by rw [er377]; omega) (by rw [er377]; omega))
    · skip
      refine tt_aload_n (j := 3) dL_law_741 rfl ?_
      refine tt_aload_n (j := 4) dL_law_742 rfl ?_
      refine tt_iload (j := 0) dL_law_743 rfl ?_
      refine tt_iconst (v := 1) dL_law_745 rfl ?_
      refine tt_iadd dL_law_746 ?_
      refine tt_sld (xi := (b, L, xs)) dL_law_747 (sc_in hx hL) ?_
      refine tt_aload_n (j := 1) dL_law_748 rfl ?_
      refine gt_SW (As := [.ref o1, .int (xs (x4 + 1).toNatClampNeg), .ref o3]) dL_law_749 ca_L_112 ⟨by decide, by decide⟩ hA (Nat.le_of_ble_eq_true rfl) (Nat.le_of_ble_eq_true rfl) (by decide) (by omega) (by omega) (cw_L_go hG (oa_af h1 hA) (oa_af h3 hA) (fun _ _ _ _ h => h)) (fun S379 z380 hz381 hG382 hB383 hA384 => ?_)
      have rl385 := rel_af hrel (oa_af h2 hA) hB383
      have er386 := (hB383.2.2.2.1 (by decide)).2.trans er0
      have by387 := by_af hby (oa_af hob hA) (oa_af hom hA) hB383
      have cn388 := cn_af hcn (oa_af hc1 hA) (oa_af h2 hA) hB383
      refine tt_istore (ks := [0, 1, 2, 3, 4, 5]) (L' := [(5, .int z380), (4, .int x4), (3, .ref o3), (2, .ref o2), (1, .ref o1), (0, .ref b)]) dL_law_752 (by decide) rfl ?_
      refine tt_aload_n (j := 3) dL_law_754 rfl ?_
      refine tt_aload_n (j := 5) dL_law_755 rfl ?_
      refine tt_iload (j := 1) dL_law_756 rfl ?_
      refine tt_iconst (v := 1) dL_law_758 rfl ?_
      refine tt_iadd dL_law_759 ?_
      refine tt_sld (xi := (b, L, xs)) dL_law_760 (sc_in hx hL) ?_
      refine gt_VI (As := [.int (xs (x4 + 1).toNatClampNeg)]) dL_law_761 ca_L_114 ⟨by decide, by decide⟩ h2 hA384 rfl (Nat.le_of_ble_eq_true rfl) (Nat.le_of_ble_eq_true rfl) (by decide) (cs_X10_go hG382 (oa_af h2 hA384) rl385 (fun _ _ _ _ h => h)) rfl (fun _ h => nomatch h) (fun S389 v390 hz391 hx392 hG393 hB394 hA395 => ?_)
      have by396 := by_af by387 (oa_af hob hA384) (oa_af hom hA384) hB394
      have rl397 := rel_go rl385 (oa_af h2 hA384) hB394
      have er398 := (hB394.2.2.2.1 (by decide)).2.trans er386
      have cn399 := cn_af cn388 (oa_af hc1 hA384) (oa_af h2 hA384) hB394
      refine tt_istore (ks := [0, 1, 2, 3, 4, 5, 6]) (L' := [(6, .int v390), (5, .int z380), (4, .int x4), (3, .ref o3), (2, .ref o2), (1, .ref o1), (0, .ref b)]) dL_law_764 (by decide) rfl ?_
      refine tt_goto (tgt := 810) dL_law_766 rfl ?_
      exact tt_loc (ks := [2, 3, 4, 5, 6]) rfl (hJ S389 (k - 1) (n - 6) hG393 hA395 rl397 cn399 by396 (by rw [er398]; omega) (by rw [er398]; omega))
    · skip
      refine tt_aload_n (j := 3) dL_law_769 rfl ?_
      refine gt_VIp (As := []) dL_law_770 ca_L_115 ⟨by decide, by decide⟩ h1 hA rfl (Nat.le_of_ble_eq_true rfl) (Nat.le_of_ble_eq_true rfl) (by decide) (cs_X9_at hG (oa_af h1 hA) (fun _ _ _ _ h => h)) rfl (fun _ h => nomatch h) (fun _ _ q => q) (fun v401 hz402 hx403 => ?_)
      refine tt_pop dL_law_773 rfl ?_
      refine tt_aload_n (j := 2) dL_law_774 rfl ?_
      refine gt_VI (As := []) dL_law_775 ca_L_118 ⟨by decide, by decide⟩ h2 hA rfl (Nat.le_of_ble_eq_true rfl) (Nat.le_of_ble_eq_true rfl) (by decide) (cs_X10_at hG (oa_af h2 hA) (fun _ _ _ _ h => h)) rfl (fun _ h => nomatch h) (fun S407 v408 hz409 hx410 hG411 hB412 hA413 => ?_)
      have by414 := by_af hby (oa_af hob hA) (oa_af hom hA) hB412
      have rl415 := rel_af hrel (oa_af h2 hA) hB412
      have er416 := (hB412.2.2.2.1 (by decide)).2.trans er0
      have cn417 := cn_af hcn (oa_af hc1 hA) (oa_af h2 hA) hB412
      refine tt_pop dL_law_778 rfl ?_
      refine tt_goto (tgt := 810) dL_law_779 rfl ?_
      exact tt_loc (ks := [0, 1, 2, 3, 4]) rfl (hJ S407 k n hG411 hA413 rl415 cn417 by414 (by rw [er416]; omega) (by rw [er416]; omega))
    · skip
      refine tt_aload_n (j := 3) dL_law_782 rfl ?_
      refine tt_aload_n (j := 4) dL_law_783 rfl ?_
      refine tt_iload (j := 0) dL_law_784 rfl ?_
      refine tt_iconst (v := 1) dL_law_786 rfl ?_
      refine tt_iadd dL_law_787 ?_
      refine tt_sld (xi := (b, L, xs)) dL_law_788 (sc_in hx hL) ?_
      refine tt_aload_n (j := 1) dL_law_789 rfl ?_
      refine gt_SW (As := [.ref o1, .int (xs (x4 + 1).toNatClampNeg), .ref o3]) dL_law_790 ca_L_119 ⟨by decide, by decide⟩ hA (Nat.le_of_ble_eq_true rfl) (Nat.le_of_ble_eq_true rfl) (by decide) (by omega) (by omega) (cw_L_value hG (oa_af h1 hA) (oa_af h3 hA) (fun _ _ _ _ h => h)) (fun S418 z419 hz420 hG421 hB422 hA423 => ?_)
      have rl424 := rel_af hrel (oa_af h2 hA) hB422
      have er425 := (hB422.2.2.2.1 (by decide)).2.trans er0
      have by426 := by_af hby (oa_af hob hA) (oa_af hom hA) hB422
      have cn427 := cn_af hcn (oa_af hc1 hA) (oa_af h2 hA) hB422
      refine tt_istore (ks := [0, 1, 2, 3, 4, 5]) (L' := [(5, .int z419), (4, .int x4), (3, .ref o3), (2, .ref o2), (1, .ref o1), (0, .ref b)]) dL_law_793 (by decide) rfl ?_
      refine tt_aload_n (j := 3) dL_law_795 rfl ?_
      refine tt_aload_n (j := 5) dL_law_796 rfl ?_
      refine tt_iload (j := 1) dL_law_797 rfl ?_
      refine tt_iconst (v := 1) dL_law_799 rfl ?_
      refine tt_iadd dL_law_800 ?_
      refine tt_sld (xi := (b, L, xs)) dL_law_801 (sc_in hx hL) ?_
      refine gt_VJ (As := [.int (xs (x4 + 1).toNatClampNeg)]) dL_law_802 ca_L_121 ⟨by decide, by decide⟩ h2 hA423 rfl (Nat.le_of_ble_eq_true rfl) (Nat.le_of_ble_eq_true rfl) (by decide) (cs_X10_value hG421 (oa_af h2 hA423) (fun _ _ _ _ h => h)) rfl (fun _ h => nomatch h) (fun S428 v429 hx431 hG432 hB433 hA434 => ?_)
      have by435 := by_af by426 (oa_af hob hA423) (oa_af hom hA423) hB433
      have rl436 := rel_af rl424 (oa_af h2 hA423) hB433
      have er437 := (hB433.2.2.2.1 (by decide)).2.trans er425
      have cn438 := cn_af cn427 (oa_af hc1 hA423) (oa_af h2 hA423) hB433
      refine tt_lstore (ks := [0, 1, 2, 3, 4, 5, 6]) (L' := [(6, .long v429), (5, .int z419), (4, .int x4), (3, .ref o3), (2, .ref o2), (1, .ref o1), (0, .ref b)]) dL_law_805 (by decide) rfl ?_
      refine tt_goto (tgt := 810) dL_law_807 rfl ?_
      exact tt_loc (ks := [2, 3, 4, 5, 6]) rfl (hJ S428 (k - 1) (n - 6) hG432 hA434 rl436 cn438 by435 (by rw [er437]; omega) (by rw [er437]; omega))
    · skip
      exact tt_loc (ks := [0, 1, 2, 3, 4]) rfl (hJ S k n hG hA hrel hcn hby (by rw [er0]; omega) (by rw [er0]; omega))
