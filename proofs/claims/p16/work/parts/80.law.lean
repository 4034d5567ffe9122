section LWH
variable {xi : SX} {M N : MD} {pc : Nat} {L : List (Nat × Value)} {rest As : List Value} {S S0 T : Hp} {i k0 n0 : Nat} {P : Po} {E ws vs : List Nat} {cz : Int32 → Prop}
theorem gt_SW (h : decode (md_c M) pc = .ok (.invokestatic i, 3)) (hcv : CTW (md_y M).cls i N As.length) (hrm : RM M N) (hA : Af E ws S0 S) (hlen : (lg_sl As).length ≤ md_L N) (hr8 : (rest.map fun v => v.category).sum ≤ 8) (hs : ∀ k ∈ vs, k ∈ ws) (hk : 1 ≤ k0) (hn : 6 ≤ n0) (kx : TT xi N 0 (lv_args 0 As) [] S 1 6 (PW E vs S cz)) (kk : ∀ (T : Hp) (z : Int32), cz z → GI T E → Af E vs S T → Af E ws S0 T → TT xi M (pc + 3) L (.int z :: rest) T (k0 - 1) (n0 - 6) P) : TT xi M pc L (As.reverse ++ rest) S k0 n0 P := by
  refine tt_callSW (k1 := 1) (n1 := 6) (k2 := k0 - 1) (n2 := n0 - 6) h hcv hrm hlen hr8 (by omega) (by omega) kx (fun v T x y hw => ?_) (fun X T hw => ?_)
  · obtain ⟨g1, g2, z, e, hz⟩ := hw
    cases e
    exact kk T z hz g1 g2 (af_tr hA g2 hs)
  · obtain ⟨g1, g2, z, e, hz⟩ := hw
    cases e
theorem gt_SX {cx : Int32 → Hp → Prop} (h : decode (md_c M) pc = .ok (.invokestatic i, 3)) (hcv : CTW (md_y M).cls i N As.length) (hrm : RM M N) (hA : Af E ws S0 S) (hlen : (lg_sl As).length ≤ md_L N) (hr8 : (rest.map fun v => v.category).sum ≤ 8) (hs : ∀ k ∈ vs, k ∈ ws) (hk : 1 ≤ k0) (hn : 6 ≤ n0) (kx : TT xi N 0 (lv_args 0 As) [] S 1 6 (PX E vs S cx)) (kk : ∀ (T : Hp) (z : Int32), cx z T → GI T E → Af E vs S T → Af E ws S0 T → TT xi M (pc + 3) L (.int z :: rest) T (k0 - 1) (n0 - 6) P) : TT xi M pc L (As.reverse ++ rest) S k0 n0 P := by
  refine tt_callSW (k1 := 1) (n1 := 6) (k2 := k0 - 1) (n2 := n0 - 6) h hcv hrm hlen hr8 (by omega) (by omega) kx (fun v T x y hw => ?_) (fun X T hw => ?_)
  · obtain ⟨g1, g2, z, e, hz⟩ := hw
    cases e
    exact kk T z hz g1 g2 (af_tr hA g2 hs)
  · obtain ⟨g1, g2, z, e, hz⟩ := hw
    cases e
theorem cn_af {c o kd n kd2 n2 : Nat} (h : hp_I S 65 c = hp_I S 642 o) (oc : Oa S E kd n c) (om : Oa S E kd2 n2 o) (hB : Af E vs S T) (h1 : 65 ∉ vs := by decide) (h2 : 642 ∉ vs := by decide) : hp_I T 65 c = hp_I T 642 o := (i_af oc hB h1).trans (h.trans (i_af om hB h2).symm)
theorem by_af {ab am : Nat} (h : hp_i S ab = hp_i S am ∧ ∀ i, Rg 0 255 (hp_i S am i)) (oa : Oa S E 32 200 ab) (om : Oa S E 32 200 am) (hB : Af E vs S T) (h1 : 9995 ∉ vs := by decide) : hp_i T ab = hp_i T am ∧ ∀ i, Rg 0 255 (hp_i T am i) := by
  rw [b_af oa hB h1, b_af om hB h1]; exact h
theorem fb_o {S0 S1 S2 : Hp} {ab am : Nat} {s1 s2 a b c d x : Int32} (hne : ab ≠ am) (w1 : Bw S0 S1 [] ab s1 (GC a b c d) x) (w2 : Bw S1 S2 [] am s2 (GR a b c d) x) (oab : Oa S1 [] 32 200 ab) (oam : Oa S0 [] 32 200 am) (es : s1 = s2) (hx : Rg 0 16 x) (h : hp_i S0 ab = hp_i S0 am ∧ ∀ i, Rg 0 255 (hp_i S0 am i)) : hp_i S2 ab = hp_i S2 am ∧ ∀ i, Rg 0 255 (hp_i S2 am i) := by
  subst es
  have hm : x.toInt.toNat ≤ 16 := by have := hx.2; omega
  rw [w2.2 ab oab hne, w1.1, w2.1, w1.2 am oam hne.symm]
  exact ⟨wb_eq h.1 hm, wb_rg h.2⟩
theorem by_0 {S1 : Hp} {ab am : Nat} (h1 : hp_i S1 ab = fun _ => 0) (h2 : hp_i S1 am = fun _ => 0) : hp_i S1 ab = hp_i S1 am ∧ ∀ i, Rg 0 255 (hp_i S1 am i) := ⟨h1.trans h2.symm, fun i => rg_cast (congrFun h2 i) (⟨by decide, by decide⟩ : Rg 0 255 0)⟩
theorem fb_n {S1 S2 : Hp} {ab am : Nat} (hq : ∀ q, Oa S1 [] 32 200 q → hp_i S2 q = hp_i S1 q) (oab : Oa S1 [] 32 200 ab) (oam : Oa S1 [] 32 200 am) (h : hp_i S1 ab = hp_i S1 am ∧ ∀ i, Rg 0 255 (hp_i S1 am i)) : hp_i S2 ab = hp_i S2 am ∧ ∀ i, Rg 0 255 (hp_i S2 am i) := by
  rw [hq ab oab, hq am oam]; exact h
theorem dc_o {t n1 n2 x w : Int32} {A : Prop} (e : n1 = n2) (hr : Rg 0 (n1.toInt - 1) x) (hs : Rg 0 5 w) (h : (t = 0 ∧ (Rg 0 (n2.toInt - 1) x ∧ Rg 0 5 w) ∧ A) ∨ (t = 1 ∧ ¬ (Rg 0 (n2.toInt - 1) x ∧ Rg 0 5 w))) : t = 0 ∧ A := by
  subst e
  rcases h with ⟨h1, -, h2⟩ | ⟨-, h⟩
  · exact ⟨h1, h2⟩
  · exact absurd ⟨hr, hs⟩ h
theorem dc_n {t n1 n2 x w : Int32} {A : Prop} (e : n1 = n2) (hr : ¬ (Rg 0 (n1.toInt - 1) x ∧ Rg 0 5 w)) (h : (t = 0 ∧ (Rg 0 (n2.toInt - 1) x ∧ Rg 0 5 w) ∧ A) ∨ (t = 1 ∧ ¬ (Rg 0 (n2.toInt - 1) x ∧ Rg 0 5 w))) : t = 1 := by
  subst e
  rcases h with ⟨-, h, -⟩ | ⟨h, -⟩
  · exact absurd h hr
  · exact h
theorem dc_q {y : Int64} {v : Int32} {f g : DD → Int32} (h1 : ∃ d, y = (f d).toInt64) (h2 : ∃ r, some (Value.int v) = some (.int (g r))) (h : ∀ d r, f d = g r) : y = v.toInt64 := by
  obtain ⟨d, e1⟩ := h1
  obtain ⟨r, e2⟩ := h2
  rw [e1, h d r, ei_w e2]
abbrev Fx (t b1 b2 n : Int32) : Prop := (t = 1 ∧ ¬ Rg 0 16 n ∧ b2 = b1) ∨ (t = 2 ∧ Rg 0 16 n ∧ 200 < b1.toInt + n.toInt ∧ b2 = b1) ∨ (t = 0 ∧ Rg 0 16 n ∧ b1.toInt + n.toInt ≤ 200 ∧ b2.toInt = b1.toInt + n.toInt)
theorem fc_o {t a0 a1 a2 b0 b1 b2 n : Int32} (hc : a0 = b0) (hs : a0.toInt + n.toInt ≤ 200) (hr : Rg 0 16 n) (fo : a1.toInt = a0.toInt + n.toInt) (s2 : b1 = b0) (ea : a2 = a1) (hx : Fx t b1 b2 n) : a2 = b2 ∧ t = 0 := by
  subst hc s2 ea
  rcases hx with ⟨-, h, -⟩ | ⟨-, -, h, -⟩ | ⟨h1, -, -, h⟩
  · exact absurd hr h
  · omega
  · exact ⟨Int32.toInt_inj.mp (by omega), h1⟩
theorem fc_k {t a0 a1 a2 b1 b2 n : Int32} (hc : a1 = b1) (e1 : a1 = a0) (hs : ¬ a0.toInt + n.toInt ≤ 200) (hr : Rg 0 16 n) (ea : a2 = a1) (hx : Fx t b1 b2 n) : a2 = b2 ∧ t = 2 := by
  subst hc e1 ea
  rcases hx with ⟨-, h, -⟩ | ⟨h1, -, -, h⟩ | ⟨-, -, h, -⟩
  · exact absurd hr h
  · exact ⟨h.symm, h1⟩
  · exact absurd h hs
theorem fc_n {t a1 a2 b1 b2 n : Int32} (hc : a1 = b1) (hr : ¬ Rg 0 16 n) (ea : a2 = a1) (hx : Fx t b1 b2 n) : a2 = b2 ∧ t = 1 := by
  subst hc ea
  rcases hx with ⟨h1, -, h⟩ | ⟨-, h, -⟩ | ⟨-, h, -⟩
  · exact ⟨h.symm, h1⟩
  · exact absurd h hr
  · exact absurd h hr
theorem fx_n {t b1 b2 n : Int32} (h : Fx t b1 b2 n) (ht : ¬ t = 0) : b2 = b1 := by
  rcases h with ⟨-, -, h⟩ | ⟨-, -, -, h⟩ | ⟨h, -⟩
  · exact h
  · exact h
  · exact absurd h ht
abbrev Rel (S : Hp) (o : Nat) : Prop := ¬ hp_I S 663 o = 0 → ¬ hp_I S 664 o = -1
theorem rel_af {o kd n : Nat} (h : Rel S o) (ho : Oa S E kd n o) (hA : Af E vs S T) (h1 : 663 ∉ vs := by decide) (h2 : 664 ∉ vs := by decide) : Rel T o := by
  unfold Rel
  rw [i_af ho hA h1, i_af ho hA h2]
  exact h
theorem rel_go {o kd n : Nat} (h : Rel S o) (ho : Oa S E kd n o) (hA : Af E vs S T) (h1 : 663 ∉ vs := by decide) (h2 : 9997 ∉ vs := by decide) : Rel T o := by
  intro q
  rw [i_af ho hA h1] at q
  exact he_af ho hA (h q) h2
theorem pa_af {o n pa : Nat} (hG : GI S E) (ho : Oa S E 9 n o) (hA : Af E ws S T) (h : (hp_R S 579 o).bind (fun q => hp_R S 258 q) = some pa) : (hp_R T 579 o).bind (fun q => hp_R T 258 q) = some pa := by
  obtain ⟨b, h1, h2⟩ := gi_R (k := 579) hG ho 4 0
  rw [r_af ho hA h1]
  rw [h1] at h
  exact (r_af h2 hA rfl).trans h
end LWH
theorem lw_in {L : Nat} {x : Int32} (hL : L ≤ 4096) (hx : Rg 0 4104 x) (h : ¬ Int32.ofNat L - 8 < x) : 0 ≤ x.toInt ∧ x.toInt + 8 ≤ (L : Int) := by
  obtain ⟨x1, x2⟩ := hx
  rw [Int32.lt_iff_toInt_lt] at h
  have e1 : (Int32.ofNat L).toInt = (L : Int) := by
    rw [Int32.toInt_ofNat_of_lt (by omega)]
  have e2 : (Int32.ofNat L - 8).toInt = (L : Int) - 8 := by
    rw [Int32.toInt_sub, e1, show (8 : Int32).toInt = 8 from rfl, bmod_in (by omega) (by omega)]
  rw [e2] at h
  omega
theorem sc_in {L : Nat} {x j : Int32} (h : 0 ≤ x.toInt ∧ x.toInt + 8 ≤ (L : Int)) (hL : L ≤ 4096) (h1 : 0 ≤ j.toInt := by decide) (h2 : j.toInt ≤ 7 := by decide) : vp_in (x + j) L := by
  obtain ⟨x1, x2⟩ := h
  have e : (x + j).toInt = x.toInt + j.toInt := by rw [Int32.toInt_add, bmod_in (by omega) (by omega)]
  intro q
  rcases q with q | q
  · have := Int32.lt_iff_toInt_lt.mp q
    have e0 : (0 : Int32).toInt = 0 := rfl
    omega
  · have e2 : (x + j).toNatClampNeg = (x + j).toInt.toNat := rfl
    omega
theorem sc_0 {L : Nat} {x : Int32} (h : 0 ≤ x.toInt ∧ x.toInt + 8 ≤ (L : Int)) : vp_in x L := by
  obtain ⟨x1, x2⟩ := h
  intro q
  rcases q with q | q
  · have := Int32.lt_iff_toInt_lt.mp q
    have e0 : (0 : Int32).toInt = 0 := rfl
    omega
  · have e2 : x.toNatClampNeg = x.toInt.toNat := rfl
    omega
theorem lw_up {L : Nat} {x : Int32} (h : 0 ≤ x.toInt ∧ x.toInt + 8 ≤ (L : Int)) (hL : L ≤ 4096) : (x + 8).toInt = x.toInt + 8 := by
  rw [Int32.toInt_add, show (8 : Int32).toInt = 8 from rfl, bmod_in (by omega) (by omega)]
abbrev PL : Po := fun r _ _ _ => r = .inl (some (.int 1))
set_option maxHeartbeats 8000000 in
theorem law_loop {b L : Nat} {xs : Nat → Int32} (hL : L ≤ 4096) {o1 o2 o3 pa c1 i1 ab am r1 hd pr vl sv : Nat} (hne : ab ≠ am) : ∀ (nn : Nat) (x4 : Int32) (S : Hp) (k n : Nat), (4104 - x4.toInt).toNat = nn → Rg 0 4104 x4 → GI S [] → Oa S [] 9 0 o1 → Oa S [] 10 0 o2 → Oa S [] 33 1 o3 → Rel S o2 → (hp_R S 579 o1).bind (fun q => hp_R S 258 q) = some pa → hp_R S 576 o1 = some c1 → Oa S [] 1 0 c1 → hp_I S 65 c1 = hp_I S 642 o2 → hp_R S 577 o1 = some i1 → Oa S [] 3 0 i1 → hp_R S 192 i1 = some c1 → hp_R S 64 c1 = some ab → Oa S [] 32 200 ab → hp_R S 641 o2 = some am → Oa S [] 32 200 am → (hp_i S ab = hp_i S am ∧ ∀ i, Rg 0 255 (hp_i S am i)) → RO S o1 r1 i1 c1 hd pr o2 vl sv → RU S r1 hd pr o2 vl sv → 5 * nl (hp_r S pa) + (4104 - x4.toInt).toNat ≤ k → 82 * nl (hp_r S pa) + 6 * (4104 - x4.toInt).toNat ≤ n → TT (b, L, xs) M_law 23 [(4, .int x4), (3, .ref o3), (2, .ref o2), (1, .ref o1), (0, .ref b)] [] S k n PL := by
  intro nn
  induction nn using Nat.strongRecOn with
  | ind nn ih =>
    intro x4 S k n hm hx4 hG h1 h2 h3 hrel hpa hrc hc1 hcn hri hoi hrj hrb hob hrm hom hby hro hru hkb hnb
    subst hm
    have hA : Af [] [65, 193, 194, 195, 196, 197, 198, 199, 200, 201, 202, 203, 204, 321, 322, 388, 389, 390, 391, 392, 393, 515, 516, 517, 640, 642, 653, 654, 655, 656, 657, 658, 659, 661, 662, 663, 664, 667, 668, 669, 670, 671, 672, 673, 674, 675, 676, 9990, 9991, 9992, 9993, 9994, 9995, 9996, 9997, 9998, 9999] S S := af_rf
    have er0 : hp_r S = hp_r S := rfl
    refine tt_iload (j := 0) dL_law_23 rfl ?_
    refine tt_aload_n (j := 4) dL_law_25 rfl ?_
    refine tt_slen (xi := (b, L, xs)) dL_law_26 ?_
    refine tt_bipush (v := 8) dL_law_27 rfl ?_
    refine tt_isub dL_law_29 ?_
    refine tt_icmp_gt (tgt := 815) dL_law_30 rfl (fun q => ?_) (fun q => ?_)
    · refine tt_iconst (v := 1) dL_law_815 rfl ?_
      exact tt_ireturn dL_law_816 .boolean rfl rfl rfl
    have hx := lw_in hL hx4 q
    have hm1 : 8 ≤ (4104 - x4.toInt).toNat := by omega
    have hJ : ∀ (T : Hp) (k9 n9 : Nat), GI T [] → Af [] [65, 193, 194, 195, 196, 197, 198, 199, 200, 201, 202, 203, 204, 321, 322, 388, 389, 390, 391, 392, 393, 515, 516, 517, 640, 642, 653, 654, 655, 656, 657, 658, 659, 661, 662, 663, 664, 667, 668, 669, 670, 671, 672, 673, 674, 675, 676, 9990, 9991, 9992, 9993, 9994, 9995, 9996, 9997, 9998, 9999] S T → Rel T o2 → hp_I T 65 c1 = hp_I T 642 o2 → (hp_i T ab = hp_i T am ∧ ∀ i, Rg 0 255 (hp_i T am i)) → RU T r1 hd pr o2 vl sv → 5 * nl (hp_r T pa) + (4104 - x4.toInt).toNat ≤ k9 + 1 → 82 * nl (hp_r T pa) + 6 * (4104 - x4.toInt).toNat ≤ n9 + 6 → TT (b, L, xs) M_law 809 [(4, .int x4), (3, .ref o3), (2, .ref o2), (1, .ref o1), (0, .ref b)] [] T k9 n9 PL := by
      intro T k9 n9 g1 g2 g3 g6 g7 g8 g4 g5
      have e8 := lw_up hx hL
      refine tt_iinc (j := 0) (v := (x4 + 8)) (ks := [0, 1, 2, 3, 4]) (L' := [(4, .int (x4 + 8)), (3, .ref o3), (2, .ref o2), (1, .ref o1), (0, .ref b)]) dL_law_809 rfl rfl (by decide) rfl ?_
      refine tt_goto (tgt := 23) dL_law_812 rfl ?_
      exact ih _ (by rw [e8]; omega) (x4 + 8) T k9 n9 rfl ⟨by rw [e8]; omega, by rw [e8]; omega⟩ g1 (oa_af h1 g2) (oa_af h2 g2) (oa_af h3 g2) g3 (pa_af hG h1 g2 hpa) (r_af h1 g2 hrc) (oa_af hc1 g2) g6 (r_af h1 g2 hri) (oa_af hoi g2) (r_af hoi g2 hrj) (r_af hc1 g2 hrb) (oa_af hob g2) (r_af h2 g2 hrm) (oa_af hom g2) g7 (ro_af hro h1 h2 g2) g8 (by rw [e8]; omega) (by rw [e8]; omega)
    refine tt_aload_n (j := 4) dL_law_33 rfl ?_
    refine tt_iload (j := 0) dL_law_34 rfl ?_
    refine tt_sld (xi := (b, L, xs)) dL_law_36 (sc_0 hx) ?_
    refine tt_bipush (v := 15) dL_law_37 rfl ?_
    refine tt_iand dL_law_39 ?_
    refine gt_ts [116, 192, 205, 366, 391, 431, 459, 472, 497, 549, 633, 644, 713, 741, 754, 809] dL_law_40 (by decide) (by decide) (fa_cons ?_ (fa_cons ?_ (fa_cons ?_ (fa_cons ?_ (fa_cons ?_ (fa_cons ?_ (fa_cons ?_ (fa_cons ?_ (fa_cons ?_ (fa_cons ?_ (fa_cons ?_ (fa_cons ?_ (fa_cons ?_ (fa_cons ?_ (fa_cons ?_ (fa_cons ?_ fa_nil))))))))))))))))
    · skip
      refine tt_aload_n (j := 3) dL_law_116 rfl ?_
      refine tt_aload_n (j := 4) dL_law_117 rfl ?_
      refine tt_iload (j := 0) dL_law_118 rfl ?_
      refine tt_iconst (v := 1) dL_law_120 rfl ?_
      refine tt_iadd dL_law_121 ?_
      refine tt_sld (xi := (b, L, xs)) dL_law_122 (sc_in hx hL) ?_
      refine tt_aload_n (j := 4) dL_law_123 rfl ?_
      refine tt_iload (j := 0) dL_law_124 rfl ?_
      refine tt_iconst (v := 2) dL_law_126 rfl ?_
      refine tt_iadd dL_law_127 ?_
      refine tt_sld (xi := (b, L, xs)) dL_law_128 (sc_in hx hL) ?_
      refine tt_aload_n (j := 4) dL_law_129 rfl ?_
      refine tt_iload (j := 0) dL_law_130 rfl ?_
      refine tt_iconst (v := 3) dL_law_132 rfl ?_
      refine tt_iadd dL_law_133 ?_
      refine tt_sld (xi := (b, L, xs)) dL_law_134 (sc_in hx hL) ?_
      refine tt_aload_n (j := 4) dL_law_135 rfl ?_
      refine tt_iload (j := 0) dL_law_136 rfl ?_
      refine tt_iconst (v := 4) dL_law_138 rfl ?_
      refine tt_iadd dL_law_139 ?_
      refine tt_sld (xi := (b, L, xs)) dL_law_140 (sc_in hx hL) ?_
      refine tt_aload_n (j := 4) dL_law_141 rfl ?_
      refine tt_iload (j := 0) dL_law_142 rfl ?_
      refine tt_iconst (v := 5) dL_law_144 rfl ?_
      refine tt_iadd dL_law_145 ?_
      refine tt_sld (xi := (b, L, xs)) dL_law_146 (sc_in hx hL) ?_
      refine tt_aload_n (j := 1) dL_law_147 rfl ?_
      by_cases hr9 : Rg 0 16 (xs (x4 + 1).toNatClampNeg)
      · by_cases hs9 : (hp_I S 65 c1).toInt + (xs (x4 + 1).toNatClampNeg).toInt ≤ 200
        · skip
          refine gt_SX (As := [.ref o1, .int (xs (x4 + 1).toNatClampNeg), .int (xs (x4 + 2).toNatClampNeg), .int (xs (x4 + 3).toNatClampNeg), .int (xs (x4 + 4).toNatClampNeg), .int (xs (x4 + 5).toNatClampNeg), .ref o3]) dL_law_148 ca_L_56 ⟨by decide, by decide⟩ hA (Nat.le_of_ble_eq_true rfl) (Nat.le_of_ble_eq_true rfl) (by decide) (by omega) (by omega) (czw_L_feed hG (oa_af h1 hA) hr9 (oa_af h3 hA) (fun c hc => by obtain rfl : c1 = c := Option.some.inj ((r_af h1 hA hrc).symm.trans hc); exact hs9) (fun _ _ _ _ h => h)) (fun S1 z2 hz3 hG4 hB5 hA6 => ?_)
          have rl7 := rel_af hrel (oa_af h2 hA) hB5
          have er8 := (hB5.2.2.2.1 (by decide)).2.trans er0
          obtain ⟨hz3, hw10, hz9⟩ := hz3
          obtain ⟨fo11, fj13⟩ := hz9 c1 (r_af h1 hA hrc)
          have s212 := i_af (k := 642) (oa_af h2 hA) hB5
          obtain ⟨fj13, bw14⟩ := fj13
          have bw14 := bw14 ab (r_af hc1 hA hrb)
          obtain rfl : z2 = 0 := hz3
          refine tt_istore (ks := [0, 1, 2, 3, 4, 5]) (L' := [(5, .int 0), (4, .int x4), (3, .ref o3), (2, .ref o2), (1, .ref o1), (0, .ref b)]) dL_law_151 (by decide) rfl ?_
          refine tt_aload_n (j := 3) dL_law_153 rfl ?_
          refine tt_aload_n (j := 5) dL_law_154 rfl ?_
          refine tt_iload (j := 1) dL_law_155 rfl ?_
          refine tt_iconst (v := 1) dL_law_157 rfl ?_
          refine tt_iadd dL_law_158 ?_
          refine tt_sld (xi := (b, L, xs)) dL_law_159 (sc_in hx hL) ?_
          refine tt_aload_n (j := 5) dL_law_160 rfl ?_
          refine tt_iload (j := 1) dL_law_161 rfl ?_
          refine tt_iconst (v := 2) dL_law_163 rfl ?_
          refine tt_iadd dL_law_164 ?_
          refine tt_sld (xi := (b, L, xs)) dL_law_165 (sc_in hx hL) ?_
          refine tt_aload_n (j := 5) dL_law_166 rfl ?_
          refine tt_iload (j := 1) dL_law_167 rfl ?_
          refine tt_iconst (v := 3) dL_law_169 rfl ?_
          refine tt_iadd dL_law_170 ?_
          refine tt_sld (xi := (b, L, xs)) dL_law_171 (sc_in hx hL) ?_
          refine tt_aload_n (j := 5) dL_law_172 rfl ?_
          refine tt_iload (j := 1) dL_law_173 rfl ?_
          refine tt_iconst (v := 4) dL_law_175 rfl ?_
          refine tt_iadd dL_law_176 ?_
          refine tt_sld (xi := (b, L, xs)) dL_law_177 (sc_in hx hL) ?_
          refine tt_aload_n (j := 5) dL_law_178 rfl ?_
          refine tt_iload (j := 1) dL_law_179 rfl ?_
          refine tt_iconst (v := 5) dL_law_181 rfl ?_
          refine tt_iadd dL_law_182 ?_
          refine tt_sld (xi := (b, L, xs)) dL_law_183 (sc_in hx hL) ?_
          refine gt_VI (As := [.int (xs (x4 + 1).toNatClampNeg), .int (xs (x4 + 2).toNatClampNeg), .int (xs (x4 + 3).toNatClampNeg), .int (xs (x4 + 4).toNatClampNeg), .int (xs (x4 + 5).toNatClampNeg)]) dL_law_184 ca_L_61 ⟨by decide, by decide⟩ h2 hA6 rfl (Nat.le_of_ble_eq_true rfl) (Nat.le_of_ble_eq_true rfl) (by decide) (cz_X10_feed hG4 (oa_af h2 hA6) (r_af h2 hA6 hrm) (oa_af hom hA6) (fun _ _ _ _ h => h)) rfl (fun _ h => nomatch h) (fun S15 v16 hz17 hx18 hG19 hB20 hA21 => ?_)
          obtain ⟨⟨hx18, bA22, bB23⟩, cA24, cB25⟩ := hx18
          have rl26 := hx18.1 rl7
          have er27 := (hB20.2.2.2.1 (by decide)).2.trans er8
          have h628 := fc_o hcn hs9 hr9 fo11 s212 (i_af (k := 65) (oa_af hc1 hA6) hB20) hx18.2.1
          have by29 := fb_o hne bw14 (bA22 h628.2) (oa_af hob hA6) hom (hcn.trans s212.symm) hr9 hby
          have ru30 := ru_end hro h1 h2 hru.1 hB5 (hw10 r1 hro.1) hB20 (cA24 h628.2)
          refine tt_istore (ks := [0, 1, 2, 3, 4, 5, 6]) (L' := [(6, .int v16), (5, .int 0), (4, .int x4), (3, .ref o3), (2, .ref o2), (1, .ref o1), (0, .ref b)]) dL_law_187 (by decide) rfl ?_
          refine tt_goto (tgt := 809) dL_law_189 rfl ?_
          exact tt_loc (ks := [2, 3, 4, 5, 6]) rfl (hJ S15 (k - 1) (n - 6) hG19 hA21 rl26 h628.1 by29 ru30 (by rw [er27]; omega) (by rw [er27]; omega))
        · skip
          refine gt_SW (As := [.ref o1, .int (xs (x4 + 1).toNatClampNeg), .int (xs (x4 + 2).toNatClampNeg), .int (xs (x4 + 3).toNatClampNeg), .int (xs (x4 + 4).toNatClampNeg), .int (xs (x4 + 5).toNatClampNeg), .ref o3]) dL_law_148 ca_L_56 ⟨by decide, by decide⟩ hA (Nat.le_of_ble_eq_true rfl) (Nat.le_of_ble_eq_true rfl) (by decide) (by omega) (by omega) (cwk_L_feed hG (oa_af h1 hA) hr9 (oa_af h3 hA) (fun c hc => by obtain rfl : c1 = c := Option.some.inj ((r_af h1 hA hrc).symm.trans hc); omega) (fun _ _ _ _ h => h)) (fun S31 z32 hz33 hG34 hB35 hA36 => ?_)
          have rl37 := rel_af hrel (oa_af h2 hA) hB35
          have er38 := (hB35.2.2.2.1 (by decide)).2.trans er0
          have ru39 := ru_af hru (ro_af hro h1 h2 hA) (oa_af h2 hA) hB35
          have by40 := by_af hby (oa_af hob hA) (oa_af hom hA) hB35
          have cn41 := cn_af hcn (oa_af hc1 hA) (oa_af h2 hA) hB35
          obtain rfl : z32 = 2 := hz33
          refine tt_istore (ks := [0, 1, 2, 3, 4, 5]) (L' := [(5, .int 2), (4, .int x4), (3, .ref o3), (2, .ref o2), (1, .ref o1), (0, .ref b)]) dL_law_151 (by decide) rfl ?_
          refine tt_aload_n (j := 3) dL_law_153 rfl ?_
          refine tt_aload_n (j := 5) dL_law_154 rfl ?_
          refine tt_iload (j := 1) dL_law_155 rfl ?_
          refine tt_iconst (v := 1) dL_law_157 rfl ?_
          refine tt_iadd dL_law_158 ?_
          refine tt_sld (xi := (b, L, xs)) dL_law_159 (sc_in hx hL) ?_
          refine tt_aload_n (j := 5) dL_law_160 rfl ?_
          refine tt_iload (j := 1) dL_law_161 rfl ?_
          refine tt_iconst (v := 2) dL_law_163 rfl ?_
          refine tt_iadd dL_law_164 ?_
          refine tt_sld (xi := (b, L, xs)) dL_law_165 (sc_in hx hL) ?_
          refine tt_aload_n (j := 5) dL_law_166 rfl ?_
          refine tt_iload (j := 1) dL_law_167 rfl ?_
          refine tt_iconst (v := 3) dL_law_169 rfl ?_
          refine tt_iadd dL_law_170 ?_
          refine tt_sld (xi := (b, L, xs)) dL_law_171 (sc_in hx hL) ?_
          refine tt_aload_n (j := 5) dL_law_172 rfl ?_
          refine tt_iload (j := 1) dL_law_173 rfl ?_
          refine tt_iconst (v := 4) dL_law_175 rfl ?_
          refine tt_iadd dL_law_176 ?_
          refine tt_sld (xi := (b, L, xs)) dL_law_177 (sc_in hx hL) ?_
          refine tt_aload_n (j := 5) dL_law_178 rfl ?_
          refine tt_iload (j := 1) dL_law_179 rfl ?_
          refine tt_iconst (v := 5) dL_law_181 rfl ?_
          refine tt_iadd dL_law_182 ?_
          refine tt_sld (xi := (b, L, xs)) dL_law_183 (sc_in hx hL) ?_
          refine gt_VI (As := [.int (xs (x4 + 1).toNatClampNeg), .int (xs (x4 + 2).toNatClampNeg), .int (xs (x4 + 3).toNatClampNeg), .int (xs (x4 + 4).toNatClampNeg), .int (xs (x4 + 5).toNatClampNeg)]) dL_law_184 ca_L_61 ⟨by decide, by decide⟩ h2 hA36 rfl (Nat.le_of_ble_eq_true rfl) (Nat.le_of_ble_eq_true rfl) (by decide) (cz_X10_feed hG34 (oa_af h2 hA36) (r_af h2 hA36 hrm) (oa_af hom hA36) (fun _ _ _ _ h => h)) rfl (fun _ h => nomatch h) (fun S42 v43 hz44 hx45 hG46 hB47 hA48 => ?_)
          obtain ⟨⟨hx45, bA49, bB50⟩, cA51, cB52⟩ := hx45
          have rl53 := hx45.1 rl37
          have er54 := (hB47.2.2.2.1 (by decide)).2.trans er38
          have h655 := fc_k cn41 (i_af (k := 65) (oa_af hc1 hA) hB35) hs9 hr9 (i_af (k := 65) (oa_af hc1 hA36) hB47) hx45.2.1
          have by56 := fb_n (bB50 (by rw [h655.2]; decide)) (oa_af hob hA36) (oa_af hom hA36) by40
          have ru57 := ru_fn (ro_af hro h1 h2 hA36) (oa_af h2 hA36) ru39 hB47 (cB52 (by rw [h655.2]; decide)) (fx_n hx45.2.1 (by rw [h655.2]; decide))
          refine tt_istore (ks := [0, 1, 2, 3, 4, 5, 6]) (L' := [(6, .int v43), (5, .int 2), (4, .int x4), (3, .ref o3), (2, .ref o2), (1, .ref o1), (0, .ref b)]) dL_law_187 (by decide) rfl ?_
          refine tt_goto (tgt := 809) dL_law_189 rfl ?_
          exact tt_loc (ks := [2, 3, 4, 5, 6]) rfl (hJ S42 (k - 1) (n - 6) hG46 hA48 rl53 h655.1 by56 ru57 (by rw [er54]; omega) (by rw [er54]; omega))
      · skip
        refine gt_SW (As := [.ref o1, .int (xs (x4 + 1).toNatClampNeg), .int (xs (x4 + 2).toNatClampNeg), .int (xs (x4 + 3).toNatClampNeg), .int (xs (x4 + 4).toNatClampNeg), .int (xs (x4 + 5).toNatClampNeg), .ref o3]) dL_law_148 ca_L_56 ⟨by decide, by decide⟩ hA (Nat.le_of_ble_eq_true rfl) (Nat.le_of_ble_eq_true rfl) (by decide) (by omega) (by omega) (cwn_L_feed hG (oa_af h1 hA) (oa_af h3 hA) hr9 (fun _ _ _ _ h => h)) (fun S58 z59 hz60 hG61 hB62 hA63 => ?_)
        have rl64 := rel_af hrel (oa_af h2 hA) hB62
        have er65 := (hB62.2.2.2.1 (by decide)).2.trans er0
        have ru66 := ru_af hru (ro_af hro h1 h2 hA) (oa_af h2 hA) hB62
        have by67 := by_af hby (oa_af hob hA) (oa_af hom hA) hB62
        have cn68 := cn_af hcn (oa_af hc1 hA) (oa_af h2 hA) hB62
        obtain rfl : z59 = 1 := hz60
        refine tt_istore (ks := [0, 1, 2, 3, 4, 5]) (L' := [(5, .int 1), (4, .int x4), (3, .ref o3), (2, .ref o2), (1, .ref o1), (0, .ref b)]) dL_law_151 (by decide) rfl ?_
        refine tt_aload_n (j := 3) dL_law_153 rfl ?_
        refine tt_aload_n (j := 5) dL_law_154 rfl ?_
        refine tt_iload (j := 1) dL_law_155 rfl ?_
        refine tt_iconst (v := 1) dL_law_157 rfl ?_
        refine tt_iadd dL_law_158 ?_
        refine tt_sld (xi := (b, L, xs)) dL_law_159 (sc_in hx hL) ?_
        refine tt_aload_n (j := 5) dL_law_160 rfl ?_
        refine tt_iload (j := 1) dL_law_161 rfl ?_
        refine tt_iconst (v := 2) dL_law_163 rfl ?_
        refine tt_iadd dL_law_164 ?_
        refine tt_sld (xi := (b, L, xs)) dL_law_165 (sc_in hx hL) ?_
        refine tt_aload_n (j := 5) dL_law_166 rfl ?_
        refine tt_iload (j := 1) dL_law_167 rfl ?_
        refine tt_iconst (v := 3) dL_law_169 rfl ?_
        refine tt_iadd dL_law_170 ?_
        refine tt_sld (xi := (b, L, xs)) dL_law_171 (sc_in hx hL) ?_
        refine tt_aload_n (j := 5) dL_law_172 rfl ?_
        refine tt_iload (j := 1) dL_law_173 rfl ?_
        refine tt_iconst (v := 4) dL_law_175 rfl ?_
        refine tt_iadd dL_law_176 ?_
        refine tt_sld (xi := (b, L, xs)) dL_law_177 (sc_in hx hL) ?_
        refine tt_aload_n (j := 5) dL_law_178 rfl ?_
        refine tt_iload (j := 1) dL_law_179 rfl ?_
        refine tt_iconst (v := 5) dL_law_181 rfl ?_
        refine tt_iadd dL_law_182 ?_
        refine tt_sld (xi := (b, L, xs)) dL_law_183 (sc_in hx hL) ?_
        refine gt_VI (As := [.int (xs (x4 + 1).toNatClampNeg), .int (xs (x4 + 2).toNatClampNeg), .int (xs (x4 + 3).toNatClampNeg), .int (xs (x4 + 4).toNatClampNeg), .int (xs (x4 + 5).toNatClampNeg)]) dL_law_184 ca_L_61 ⟨by decide, by decide⟩ h2 hA63 rfl (Nat.le_of_ble_eq_true rfl) (Nat.le_of_ble_eq_true rfl) (by decide) (cz_X10_feed hG61 (oa_af h2 hA63) (r_af h2 hA63 hrm) (oa_af hom hA63) (fun _ _ _ _ h => h)) rfl (fun _ h => nomatch h) (fun S69 v70 hz71 hx72 hG73 hB74 hA75 => ?_)
        obtain ⟨⟨hx72, bA76, bB77⟩, cA78, cB79⟩ := hx72
        have rl80 := hx72.1 rl64
        have er81 := (hB74.2.2.2.1 (by decide)).2.trans er65
        have h682 := fc_n cn68 hr9 (i_af (k := 65) (oa_af hc1 hA63) hB74) hx72.2.1
        have by83 := fb_n (bB77 (by rw [h682.2]; decide)) (oa_af hob hA63) (oa_af hom hA63) by67
        have ru84 := ru_fn (ro_af hro h1 h2 hA63) (oa_af h2 hA63) ru66 hB74 (cB79 (by rw [h682.2]; decide)) (fx_n hx72.2.1 (by rw [h682.2]; decide))
        refine tt_istore (ks := [0, 1, 2, 3, 4, 5, 6]) (L' := [(6, .int v70), (5, .int 1), (4, .int x4), (3, .ref o3), (2, .ref o2), (1, .ref o1), (0, .ref b)]) dL_law_187 (by decide) rfl ?_
        refine tt_goto (tgt := 809) dL_law_189 rfl ?_
        exact tt_loc (ks := [2, 3, 4, 5, 6]) rfl (hJ S69 (k - 1) (n - 6) hG73 hA75 rl80 h682.1 by83 ru84 (by rw [er81]; omega) (by rw [er81]; omega))
    · skip
      refine tt_aload_n (j := 3) dL_law_192 rfl ?_
      refine gt_VI (As := []) dL_law_193 ca_L_62 ⟨by decide, by decide⟩ h1 hA rfl (Nat.le_of_ble_eq_true rfl) (Nat.le_of_ble_eq_true rfl) (by decide) (cz_X9_erase hG (oa_af h1 hA) (fun _ _ _ _ h => h)) rfl (fun _ h => nomatch h) (fun S85 v86 hz87 hx88 hG89 hB90 hA91 => ?_)
      have by92 := by_af hby (oa_af hob hA) (oa_af hom hA) hB90
      have ex95 := hx88.2 r1 hro.1
      have hx88 := hx88.1
      have rl93 := rel_af hrel (oa_af h2 hA) hB90
      have er94 := (hB90.2.2.2.1 (by decide)).2.trans er0
      obtain ⟨ev96, ec97⟩ := hx88 c1 (r_af h1 hA hrc)
      have e98 := ei_v _ ev96
      have s299 := i_af (k := 642) (oa_af h2 hA) hB90
      refine tt_pop dL_law_196 rfl ?_
      refine tt_aload_n (j := 2) dL_law_197 rfl ?_
      refine gt_VI (As := []) dL_law_198 ca_L_66 ⟨by decide, by decide⟩ h2 hA91 rfl (Nat.le_of_ble_eq_true rfl) (Nat.le_of_ble_eq_true rfl) (by decide) (cz_X10_erase hG89 (oa_af h2 hA91) (fun _ _ _ _ h => h)) rfl (fun _ h => nomatch h) (fun S100 v101 hz102 hx103 hG104 hB105 hA106 => ?_)
      have by107 := by_af by92 (oa_af hob hA91) (oa_af hom hA91) hB105
      have ru110 := ru_end hro h1 h2 hru.1 hB90 ex95 hB105 hx103.2
      have hx103 := hx103.1
      have rl108 := un_rel ru110.2
      have er109 := (hB105.2.2.2.1 (by decide)).2.trans er94
      have e111 := (e98.symm.trans (hcn.trans s299.symm)).trans (ei_v _ hx103.2.1)
      have cn112 := ((i_af (k := 65) (oa_af hc1 hA91) hB105).trans ec97).trans hx103.2.2.symm
      refine tt_pop dL_law_201 rfl ?_
      refine tt_goto (tgt := 809) dL_law_202 rfl ?_
      exact tt_loc (ks := [0, 1, 2, 3, 4]) rfl (hJ S100 k n hG104 hA106 rl108 cn112 by107 ru110 (by rw [er109]; omega) (by rw [er109]; omega))
    · skip
      refine tt_aload_n (j := 3) dL_law_205 rfl ?_
      refine tt_aload_n (j := 4) dL_law_206 rfl ?_
      refine tt_iload (j := 0) dL_law_207 rfl ?_
      refine tt_iconst (v := 1) dL_law_209 rfl ?_
      refine tt_iadd dL_law_210 ?_
      refine tt_sld (xi := (b, L, xs)) dL_law_211 (sc_in hx hL) ?_
      refine tt_aload_n (j := 4) dL_law_212 rfl ?_
      refine tt_iload (j := 0) dL_law_213 rfl ?_
      refine tt_iconst (v := 2) dL_law_215 rfl ?_
      refine tt_iadd dL_law_216 ?_
      refine tt_sld (xi := (b, L, xs)) dL_law_217 (sc_in hx hL) ?_
      refine tt_i2l dL_law_218 ?_
      refine tt_bipush (v := 32) dL_law_219 rfl ?_
      refine tt_lshl dL_law_221 ?_
      refine tt_aload_n (j := 4) dL_law_222 rfl ?_
      refine tt_iload (j := 0) dL_law_223 rfl ?_
      refine tt_iconst (v := 3) dL_law_225 rfl ?_
      refine tt_iadd dL_law_226 ?_
      refine tt_sld (xi := (b, L, xs)) dL_law_227 (sc_in hx hL) ?_
      refine tt_i2l dL_law_228 ?_
      refine tt_ldc2 (v := 4294967295) dL_law_229 kl_L_67 ?_
      refine tt_land dL_law_232 ?_
      refine tt_lor dL_law_233 ?_
      refine tt_aload_n (j := 4) dL_law_234 rfl ?_
      refine tt_iload (j := 0) dL_law_235 rfl ?_
      refine tt_iconst (v := 4) dL_law_237 rfl ?_
      refine tt_iadd dL_law_238 ?_
      refine tt_sld (xi := (b, L, xs)) dL_law_239 (sc_in hx hL) ?_
      refine tt_i2l dL_law_240 ?_
      refine tt_bipush (v := 32) dL_law_241 rfl ?_
      refine tt_lshl dL_law_243 ?_
      refine tt_aload_n (j := 4) dL_law_244 rfl ?_
      refine tt_iload (j := 0) dL_law_245 rfl ?_
      refine tt_iconst (v := 5) dL_law_247 rfl ?_
      refine tt_iadd dL_law_248 ?_
      refine tt_sld (xi := (b, L, xs)) dL_law_249 (sc_in hx hL) ?_
      refine tt_i2l dL_law_250 ?_
      refine tt_ldc2 (v := 4294967295) dL_law_251 kl_L_67 ?_
      refine tt_land dL_law_254 ?_
      refine tt_lor dL_law_255 ?_
      refine tt_aload_n (j := 4) dL_law_256 rfl ?_
      refine tt_iload (j := 0) dL_law_257 rfl ?_
      refine tt_bipush (v := 6) dL_law_259 rfl ?_
      refine tt_iadd dL_law_261 ?_
      refine tt_sld (xi := (b, L, xs)) dL_law_262 (sc_in hx hL) ?_
      refine tt_i2l dL_law_263 ?_
      refine tt_bipush (v := 32) dL_law_264 rfl ?_
      refine tt_lshl dL_law_266 ?_
      refine tt_aload_n (j := 4) dL_law_267 rfl ?_
      refine tt_iload (j := 0) dL_law_268 rfl ?_
      refine tt_bipush (v := 7) dL_law_270 rfl ?_
      refine tt_iadd dL_law_272 ?_
      refine tt_sld (xi := (b, L, xs)) dL_law_273 (sc_in hx hL) ?_
      refine tt_i2l dL_law_274 ?_
      refine tt_ldc2 (v := 4294967295) dL_law_275 kl_L_67 ?_
      refine tt_land dL_law_278 ?_
      refine tt_lor dL_law_279 ?_
      refine gt_SW (As := [.ref o1, .int (xs (x4 + 1).toNatClampNeg), .long ((((xs (x4 + 2).toNatClampNeg) : Int32).toInt64 <<< ((32 : Int32).toInt64 &&& 63)) ||| (((xs (x4 + 3).toNatClampNeg) : Int32).toInt64 &&& 4294967295)), .long ((((xs (x4 + 4).toNatClampNeg) : Int32).toInt64 <<< ((32 : Int32).toInt64 &&& 63)) ||| (((xs (x4 + 5).toNatClampNeg) : Int32).toInt64 &&& 4294967295)), .long ((((xs (x4 + 6).toNatClampNeg) : Int32).toInt64 <<< ((32 : Int32).toInt64 &&& 63)) ||| (((xs (x4 + 7).toNatClampNeg) : Int32).toInt64 &&& 4294967295))]) dL_law_280 ca_L_69 ⟨by decide, by decide⟩ hA (Nat.le_of_ble_eq_true rfl) (Nat.le_of_ble_eq_true rfl) (by decide) (by omega) (by omega) (cw_L_given hG (oa_af h1 hA) (fun _ _ _ _ h => h)) (fun S113 z114 hz115 hG116 hB117 hA118 => ?_)
      have rl119 := rel_af hrel (oa_af h2 hA) hB117
      have er120 := (hB117.2.2.2.1 (by decide)).2.trans er0
      have ru121 := ru_af hru (ro_af hro h1 h2 hA) (oa_af h2 hA) hB117
      have by122 := by_af hby (oa_af hob hA) (oa_af hom hA) hB117
      have cn123 := cn_af hcn (oa_af hc1 hA) (oa_af h2 hA) hB117
      refine tt_istore (ks := [0, 1, 2, 3, 4, 5]) (L' := [(5, .int z114), (4, .int x4), (3, .ref o3), (2, .ref o2), (1, .ref o1), (0, .ref b)]) dL_law_283 (by decide) rfl ?_
      refine tt_aload_n (j := 3) dL_law_285 rfl ?_
      refine tt_aload_n (j := 5) dL_law_286 rfl ?_
      refine tt_iload (j := 1) dL_law_287 rfl ?_
      refine tt_iconst (v := 1) dL_law_289 rfl ?_
      refine tt_iadd dL_law_290 ?_
      refine tt_sld (xi := (b, L, xs)) dL_law_291 (sc_in hx hL) ?_
      refine tt_aload_n (j := 5) dL_law_292 rfl ?_
      refine tt_iload (j := 1) dL_law_293 rfl ?_
      refine tt_iconst (v := 2) dL_law_295 rfl ?_
      refine tt_iadd dL_law_296 ?_
      refine tt_sld (xi := (b, L, xs)) dL_law_297 (sc_in hx hL) ?_
      refine tt_i2l dL_law_298 ?_
      refine tt_bipush (v := 32) dL_law_299 rfl ?_
      refine tt_lshl dL_law_301 ?_
      refine tt_aload_n (j := 5) dL_law_302 rfl ?_
      refine tt_iload (j := 1) dL_law_303 rfl ?_
      refine tt_iconst (v := 3) dL_law_305 rfl ?_
      refine tt_iadd dL_law_306 ?_
      refine tt_sld (xi := (b, L, xs)) dL_law_307 (sc_in hx hL) ?_
      refine tt_i2l dL_law_308 ?_
      refine tt_ldc2 (v := 4294967295) dL_law_309 kl_L_67 ?_
      refine tt_land dL_law_312 ?_
      refine tt_lor dL_law_313 ?_
      refine tt_aload_n (j := 5) dL_law_314 rfl ?_
      refine tt_iload (j := 1) dL_law_315 rfl ?_
      refine tt_iconst (v := 4) dL_law_317 rfl ?_
      refine tt_iadd dL_law_318 ?_
      refine tt_sld (xi := (b, L, xs)) dL_law_319 (sc_in hx hL) ?_
      refine tt_i2l dL_law_320 ?_
      refine tt_bipush (v := 32) dL_law_321 rfl ?_
      refine tt_lshl dL_law_323 ?_
      refine tt_aload_n (j := 5) dL_law_324 rfl ?_
      refine tt_iload (j := 1) dL_law_325 rfl ?_
      refine tt_iconst (v := 5) dL_law_327 rfl ?_
      refine tt_iadd dL_law_328 ?_
      refine tt_sld (xi := (b, L, xs)) dL_law_329 (sc_in hx hL) ?_
      refine tt_i2l dL_law_330 ?_
      refine tt_ldc2 (v := 4294967295) dL_law_331 kl_L_67 ?_
      refine tt_land dL_law_334 ?_
      refine tt_lor dL_law_335 ?_
      refine tt_aload_n (j := 5) dL_law_336 rfl ?_
      refine tt_iload (j := 1) dL_law_337 rfl ?_
      refine tt_bipush (v := 6) dL_law_339 rfl ?_
      refine tt_iadd dL_law_341 ?_
      refine tt_sld (xi := (b, L, xs)) dL_law_342 (sc_in hx hL) ?_
      refine tt_i2l dL_law_343 ?_
      refine tt_bipush (v := 32) dL_law_344 rfl ?_
      refine tt_lshl dL_law_346 ?_
      refine tt_aload_n (j := 5) dL_law_347 rfl ?_
      refine tt_iload (j := 1) dL_law_348 rfl ?_
      refine tt_bipush (v := 7) dL_law_350 rfl ?_
      refine tt_iadd dL_law_352 ?_
      refine tt_sld (xi := (b, L, xs)) dL_law_353 (sc_in hx hL) ?_
      refine tt_i2l dL_law_354 ?_
      refine tt_ldc2 (v := 4294967295) dL_law_355 kl_L_67 ?_
      refine tt_land dL_law_358 ?_
      refine tt_lor dL_law_359 ?_
      refine gt_Vv (As := [.int (xs (x4 + 1).toNatClampNeg), .long ((((xs (x4 + 2).toNatClampNeg) : Int32).toInt64 <<< ((32 : Int32).toInt64 &&& 63)) ||| (((xs (x4 + 3).toNatClampNeg) : Int32).toInt64 &&& 4294967295)), .long ((((xs (x4 + 4).toNatClampNeg) : Int32).toInt64 <<< ((32 : Int32).toInt64 &&& 63)) ||| (((xs (x4 + 5).toNatClampNeg) : Int32).toInt64 &&& 4294967295)), .long ((((xs (x4 + 6).toNatClampNeg) : Int32).toInt64 <<< ((32 : Int32).toInt64 &&& 63)) ||| (((xs (x4 + 7).toNatClampNeg) : Int32).toInt64 &&& 4294967295))]) dL_law_360 ca_L_72 ⟨by decide, by decide⟩ h2 hA118 rfl (Nat.le_of_ble_eq_true rfl) (Nat.le_of_ble_eq_true rfl) (by decide) (cs_X10_given hG116 (oa_af h2 hA118) (fun _ _ _ _ h => h)) rfl (fun _ h => nomatch h) (fun S124 hx127 hG128 hB129 hA130 => ?_)
      have by131 := by_af by122 (oa_af hob hA118) (oa_af hom hA118) hB129
      have ru134 := ru_af ru121 (ro_af hro h1 h2 hA118) (oa_af h2 hA118) hB129
      have rl132 := un_rel ru134.2
      have er133 := (hB129.2.2.2.1 (by decide)).2.trans er120
      have cn135 := cn_af cn123 (oa_af hc1 hA118) (oa_af h2 hA118) hB129
      refine tt_goto (tgt := 809) dL_law_363 rfl ?_
      exact tt_loc (ks := [1, 2, 3, 4, 5]) rfl (hJ S124 (k - 1) (n - 6) hG128 hA130 rl132 cn135 by131 ru134 (by rw [er133]; omega) (by rw [er133]; omega))
    · skip
      refine tt_aload_n (j := 3) dL_law_366 rfl ?_
      refine tt_aload_n (j := 4) dL_law_367 rfl ?_
      refine tt_iload (j := 0) dL_law_368 rfl ?_
      refine tt_iconst (v := 1) dL_law_370 rfl ?_
      refine tt_iadd dL_law_371 ?_
      refine tt_sld (xi := (b, L, xs)) dL_law_372 (sc_in hx hL) ?_
      refine gt_SW (As := [.ref o1, .int (xs (x4 + 1).toNatClampNeg)]) dL_law_373 ca_L_73 ⟨by decide, by decide⟩ hA (Nat.le_of_ble_eq_true rfl) (Nat.le_of_ble_eq_true rfl) (by decide) (by omega) (by omega) (cw_L_any hG (oa_af h1 hA) (fun _ _ _ _ h => h)) (fun S136 z137 hz138 hG139 hB140 hA141 => ?_)
      have rl142 := rel_af hrel (oa_af h2 hA) hB140
      have er143 := (hB140.2.2.2.1 (by decide)).2.trans er0
      have ru144 := ru_af hru (ro_af hro h1 h2 hA) (oa_af h2 hA) hB140
      have by145 := by_af hby (oa_af hob hA) (oa_af hom hA) hB140
      have cn146 := cn_af hcn (oa_af hc1 hA) (oa_af h2 hA) hB140
      refine tt_istore (ks := [0, 1, 2, 3, 4, 5]) (L' := [(5, .int z137), (4, .int x4), (3, .ref o3), (2, .ref o2), (1, .ref o1), (0, .ref b)]) dL_law_376 (by decide) rfl ?_
      refine tt_aload_n (j := 3) dL_law_378 rfl ?_
      refine tt_aload_n (j := 5) dL_law_379 rfl ?_
      refine tt_iload (j := 1) dL_law_380 rfl ?_
      refine tt_iconst (v := 1) dL_law_382 rfl ?_
      refine tt_iadd dL_law_383 ?_
      refine tt_sld (xi := (b, L, xs)) dL_law_384 (sc_in hx hL) ?_
      refine gt_Vv (As := [.int (xs (x4 + 1).toNatClampNeg)]) dL_law_385 ca_L_76 ⟨by decide, by decide⟩ h2 hA141 rfl (Nat.le_of_ble_eq_true rfl) (Nat.le_of_ble_eq_true rfl) (by decide) (cs_X10_any hG139 (oa_af h2 hA141) (fun _ _ _ _ h => h)) rfl (fun _ h => nomatch h) (fun S147 hx150 hG151 hB152 hA153 => ?_)
      have by154 := by_af by145 (oa_af hob hA141) (oa_af hom hA141) hB152
      have ru157 := ru_af ru144 (ro_af hro h1 h2 hA141) (oa_af h2 hA141) hB152
      have rl155 := un_rel ru157.2
      have er156 := (hB152.2.2.2.1 (by decide)).2.trans er143
      have cn158 := cn_af cn146 (oa_af hc1 hA141) (oa_af h2 hA141) hB152
      refine tt_goto (tgt := 809) dL_law_388 rfl ?_
      exact tt_loc (ks := [1, 2, 3, 4, 5]) rfl (hJ S147 (k - 1) (n - 6) hG151 hA153 rl155 cn158 by154 ru157 (by rw [er156]; omega) (by rw [er156]; omega))
    · skip
      refine tt_aload_n (j := 3) dL_law_391 rfl ?_
      refine tt_aload_n (j := 4) dL_law_392 rfl ?_
      refine tt_iload (j := 0) dL_law_393 rfl ?_
      refine tt_iconst (v := 1) dL_law_395 rfl ?_
      refine tt_iadd dL_law_396 ?_
      refine tt_sld (xi := (b, L, xs)) dL_law_397 (sc_in hx hL) ?_
      refine tt_aload_n (j := 4) dL_law_398 rfl ?_
      refine tt_iload (j := 0) dL_law_399 rfl ?_
      refine tt_iconst (v := 2) dL_law_401 rfl ?_
      refine tt_iadd dL_law_402 ?_
      refine tt_sld (xi := (b, L, xs)) dL_law_403 (sc_in hx hL) ?_
      refine tt_aload_n (j := 1) dL_law_404 rfl ?_
      refine gt_SW (As := [.ref o1, .int (xs (x4 + 1).toNatClampNeg), .int (xs (x4 + 2).toNatClampNeg), .ref o3]) dL_law_405 ca_L_77 ⟨by decide, by decide⟩ hA (Nat.le_of_ble_eq_true rfl) (Nat.le_of_ble_eq_true rfl) (by decide) (by omega) (by omega) (cw_L_decode hG (oa_af h1 hA) (oa_af h3 hA) (fun _ _ _ _ h => h)) (fun S159 z160 hz161 hG162 hB163 hA164 => ?_)
      have rl165 := rel_af hrel (oa_af h2 hA) hB163
      have er166 := (hB163.2.2.2.1 (by decide)).2.trans er0
      have ru167 := ru_af hru (ro_af hro h1 h2 hA) (oa_af h2 hA) hB163
      have by168 := by_af hby (oa_af hob hA) (oa_af hom hA) hB163
      have cn169 := cn_af hcn (oa_af hc1 hA) (oa_af h2 hA) hB163
      refine tt_istore (ks := [0, 1, 2, 3, 4, 5]) (L' := [(5, .int z160), (4, .int x4), (3, .ref o3), (2, .ref o2), (1, .ref o1), (0, .ref b)]) dL_law_408 (by decide) rfl ?_
      refine tt_aload_n (j := 3) dL_law_410 rfl ?_
      refine tt_aload_n (j := 5) dL_law_411 rfl ?_
      refine tt_iload (j := 1) dL_law_412 rfl ?_
      refine tt_iconst (v := 1) dL_law_414 rfl ?_
      refine tt_iadd dL_law_415 ?_
      refine tt_sld (xi := (b, L, xs)) dL_law_416 (sc_in hx hL) ?_
      refine tt_aload_n (j := 5) dL_law_417 rfl ?_
      refine tt_iload (j := 1) dL_law_418 rfl ?_
      refine tt_iconst (v := 2) dL_law_420 rfl ?_
      refine tt_iadd dL_law_421 ?_
      refine tt_sld (xi := (b, L, xs)) dL_law_422 (sc_in hx hL) ?_
      refine gt_VI (As := [.int (xs (x4 + 1).toNatClampNeg), .int (xs (x4 + 2).toNatClampNeg)]) dL_law_423 ca_L_80 ⟨by decide, by decide⟩ h2 hA164 rfl (Nat.le_of_ble_eq_true rfl) (Nat.le_of_ble_eq_true rfl) (by decide) (cs_X10_decode hG162 (oa_af h2 hA164) (fun _ _ _ _ h => h)) rfl (fun _ h => nomatch h) (fun S170 v171 hz172 hx173 hG174 hB175 hA176 => ?_)
      have by177 := by_af by168 (oa_af hob hA164) (oa_af hom hA164) hB175
      have ru180 := ru_af ru167 (ro_af hro h1 h2 hA164) (oa_af h2 hA164) hB175
      have rl178 := un_rel ru180.2
      have er179 := (hB175.2.2.2.1 (by decide)).2.trans er166
      have cn181 := cn_af cn169 (oa_af hc1 hA164) (oa_af h2 hA164) hB175
      refine tt_istore (ks := [0, 1, 2, 3, 4, 5, 6]) (L' := [(6, .int v171), (5, .int z160), (4, .int x4), (3, .ref o3), (2, .ref o2), (1, .ref o1), (0, .ref b)]) dL_law_426 (by decide) rfl ?_
      refine tt_goto (tgt := 809) dL_law_428 rfl ?_
      exact tt_loc (ks := [2, 3, 4, 5, 6]) rfl (hJ S170 (k - 1) (n - 6) hG174 hA176 rl178 cn181 by177 ru180 (by rw [er179]; omega) (by rw [er179]; omega))
    · skip
      refine tt_aload_n (j := 3) dL_law_431 rfl ?_
      refine tt_aload_n (j := 4) dL_law_432 rfl ?_
      refine tt_iload (j := 0) dL_law_433 rfl ?_
      refine tt_iconst (v := 1) dL_law_435 rfl ?_
      refine tt_iadd dL_law_436 ?_
      refine tt_sld (xi := (b, L, xs)) dL_law_437 (sc_in hx hL) ?_
      refine tt_aload_n (j := 1) dL_law_438 rfl ?_
      refine gt_SW (As := [.ref o1, .int (xs (x4 + 1).toNatClampNeg), .ref o3]) dL_law_439 ca_L_81 ⟨by decide, by decide⟩ hA (Nat.le_of_ble_eq_true rfl) (Nat.le_of_ble_eq_true rfl) (by decide) (by omega) (by omega) (cw_L_constant hG (oa_af h1 hA) (oa_af h3 hA) (fun _ _ _ _ h => h)) (fun S182 z183 hz184 hG185 hB186 hA187 => ?_)
      have rl188 := rel_af hrel (oa_af h2 hA) hB186
      have er189 := (hB186.2.2.2.1 (by decide)).2.trans er0
      have ru190 := ru_af hru (ro_af hro h1 h2 hA) (oa_af h2 hA) hB186
      have by191 := by_af hby (oa_af hob hA) (oa_af hom hA) hB186
      have cn192 := cn_af hcn (oa_af hc1 hA) (oa_af h2 hA) hB186
      refine tt_istore (ks := [0, 1, 2, 3, 4, 5]) (L' := [(5, .int z183), (4, .int x4), (3, .ref o3), (2, .ref o2), (1, .ref o1), (0, .ref b)]) dL_law_442 (by decide) rfl ?_
      refine tt_aload_n (j := 3) dL_law_444 rfl ?_
      refine tt_aload_n (j := 5) dL_law_445 rfl ?_
      refine tt_iload (j := 1) dL_law_446 rfl ?_
      refine tt_iconst (v := 1) dL_law_448 rfl ?_
      refine tt_iadd dL_law_449 ?_
      refine tt_sld (xi := (b, L, xs)) dL_law_450 (sc_in hx hL) ?_
      refine gt_VJ (As := [.int (xs (x4 + 1).toNatClampNeg)]) dL_law_451 ca_L_84 ⟨by decide, by decide⟩ h2 hA187 rfl (Nat.le_of_ble_eq_true rfl) (Nat.le_of_ble_eq_true rfl) (by decide) (cs_X10_constant hG185 (oa_af h2 hA187) (fun _ _ _ _ h => h)) rfl (fun _ h => nomatch h) (fun S193 v194 hx196 hG197 hB198 hA199 => ?_)
      have by200 := by_af by191 (oa_af hob hA187) (oa_af hom hA187) hB198
      have ru203 := ru_af ru190 (ro_af hro h1 h2 hA187) (oa_af h2 hA187) hB198
      have rl201 := un_rel ru203.2
      have er202 := (hB198.2.2.2.1 (by decide)).2.trans er189
      have cn204 := cn_af cn192 (oa_af hc1 hA187) (oa_af h2 hA187) hB198
      refine tt_lstore (ks := [0, 1, 2, 3, 4, 5, 6]) (L' := [(6, .long v194), (5, .int z183), (4, .int x4), (3, .ref o3), (2, .ref o2), (1, .ref o1), (0, .ref b)]) dL_law_454 (by decide) rfl ?_
      refine tt_goto (tgt := 809) dL_law_456 rfl ?_
      exact tt_loc (ks := [2, 3, 4, 5, 6]) rfl (hJ S193 (k - 1) (n - 6) hG197 hA199 rl201 cn204 by200 ru203 (by rw [er202]; omega) (by rw [er202]; omega))
    · skip
      refine tt_aload_n (j := 3) dL_law_459 rfl ?_
      refine gt_AI (pa := pa) (As := []) dL_law_460 ca_L_85 ⟨by decide, by decide⟩ h1 hA rfl (Nat.le_of_ble_eq_true rfl) (Nat.le_of_ble_eq_true rfl) (by decide) (cs_X9_look rfl hG (oa_af h1 hA) (pa_af hG h1 hA hpa) (by rw [er0]; omega) (by rw [er0]; omega) (fun _ _ _ _ h => h)) rfl (fun S205 v206 k212 n213 hz207 hG209 hB210 hA211 bd214 => ?_)
      have rl215 := rel_af hrel (oa_af h2 hA) hB210
      have er216 : hp_r S205 = hp_r S205 := rfl
      have cn217 := cn_af hcn (oa_af hc1 hA) (oa_af h2 hA) hB210
      have by218 := by_af hby (oa_af hob hA) (oa_af hom hA) hB210
      have ru219 := ru_af hru (ro_af hro h1 h2 hA) (oa_af h2 hA) hB210
      refine tt_pop dL_law_463 rfl ?_
      refine tt_aload_n (j := 2) dL_law_464 rfl ?_
      refine gt_VI (As := []) dL_law_465 ca_L_88 ⟨by decide, by decide⟩ h2 hA211 rfl (Nat.le_of_ble_eq_true rfl) (Nat.le_of_ble_eq_true rfl) (by decide) (cs_X10_look hG209 (oa_af h2 hA211) (fun _ _ _ _ h => h)) rfl (fun _ h => nomatch h) (fun S220 v221 hz222 hx223 hG224 hB225 hA226 => ?_)
      have by227 := by_af by218 (oa_af hob hA211) (oa_af hom hA211) hB225
      have ru230 := ru_af ru219 (ro_af hro h1 h2 hA211) (oa_af h2 hA211) hB225
      have rl228 := un_rel ru230.2
      have er229 := (hB225.2.2.2.1 (by decide)).2.trans er216
      have cn231 := cn_af cn217 (oa_af hc1 hA211) (oa_af h2 hA211) hB225
      refine tt_pop dL_law_468 rfl ?_
      refine tt_goto (tgt := 809) dL_law_469 rfl ?_
      exact tt_loc (ks := [0, 1, 2, 3, 4]) rfl (hJ S220 k212 n213 hG224 hA226 rl228 cn231 by227 ru230 (by have q1 := bd214.1; have q2 := bd214.2; rw [er229]; omega) (by have q1 := bd214.1; have q2 := bd214.2; rw [er229]; omega))
    · skip
      refine tt_aload_n (j := 3) dL_law_472 rfl ?_
      refine tt_aload_n (j := 4) dL_law_473 rfl ?_
      refine tt_iload (j := 0) dL_law_474 rfl ?_
      refine tt_iconst (v := 1) dL_law_476 rfl ?_
      refine tt_iadd dL_law_477 ?_
      refine tt_sld (xi := (b, L, xs)) dL_law_478 (sc_in hx hL) ?_
      refine gt_VIp (As := [.int (xs (x4 + 1).toNatClampNeg)]) dL_law_479 ca_L_89 ⟨by decide, by decide⟩ h1 hA rfl (Nat.le_of_ble_eq_true rfl) (Nat.le_of_ble_eq_true rfl) (by decide) (cs_X9_reached hG (oa_af h1 hA) (fun _ _ _ _ h => h)) rfl (fun _ h => nomatch h) (fun _ _ q => q) (fun v233 hz234 hx235 => ?_)
      refine tt_pop dL_law_482 rfl ?_
      refine tt_aload_n (j := 2) dL_law_483 rfl ?_
      refine tt_aload_n (j := 4) dL_law_484 rfl ?_
      refine tt_iload (j := 0) dL_law_485 rfl ?_
      refine tt_iconst (v := 1) dL_law_487 rfl ?_
      refine tt_iadd dL_law_488 ?_
      refine tt_sld (xi := (b, L, xs)) dL_law_489 (sc_in hx hL) ?_
      refine gt_VI (As := [.int (xs (x4 + 1).toNatClampNeg)]) dL_law_490 ca_L_92 ⟨by decide, by decide⟩ h2 hA rfl (Nat.le_of_ble_eq_true rfl) (Nat.le_of_ble_eq_true rfl) (by decide) (cs_X10_reached hG (oa_af h2 hA) (fun _ _ _ _ h => h)) rfl (fun _ h => nomatch h) (fun S239 v240 hz241 hx242 hG243 hB244 hA245 => ?_)
      have by246 := by_af hby (oa_af hob hA) (oa_af hom hA) hB244
      have ru249 := ru_af hru (ro_af hro h1 h2 hA) (oa_af h2 hA) hB244
      have rl247 := un_rel ru249.2
      have er248 := (hB244.2.2.2.1 (by decide)).2.trans er0
      have cn250 := cn_af hcn (oa_af hc1 hA) (oa_af h2 hA) hB244
      refine tt_pop dL_law_493 rfl ?_
      refine tt_goto (tgt := 809) dL_law_494 rfl ?_
      exact tt_loc (ks := [0, 1, 2, 3, 4]) rfl (hJ S239 k n hG243 hA245 rl247 cn250 by246 ru249 (by rw [er248]; omega) (by rw [er248]; omega))
    · skip
      refine tt_aload_n (j := 3) dL_law_497 rfl ?_
      refine tt_aload_n (j := 4) dL_law_498 rfl ?_
      refine tt_iload (j := 0) dL_law_499 rfl ?_
      refine tt_iconst (v := 1) dL_law_501 rfl ?_
      refine tt_iadd dL_law_502 ?_
      refine tt_sld (xi := (b, L, xs)) dL_law_503 (sc_in hx hL) ?_
      refine tt_aload_n (j := 4) dL_law_504 rfl ?_
      refine tt_iload (j := 0) dL_law_505 rfl ?_
      refine tt_iconst (v := 2) dL_law_507 rfl ?_
      refine tt_iadd dL_law_508 ?_
      refine tt_sld (xi := (b, L, xs)) dL_law_509 (sc_in hx hL) ?_
      refine tt_aload_n (j := 4) dL_law_510 rfl ?_
      refine tt_iload (j := 0) dL_law_511 rfl ?_
      refine tt_iconst (v := 3) dL_law_513 rfl ?_
      refine tt_iadd dL_law_514 ?_
      refine tt_sld (xi := (b, L, xs)) dL_law_515 (sc_in hx hL) ?_
      refine tt_aload_n (j := 1) dL_law_516 rfl ?_
      refine gt_SW (As := [.ref o1, .int (xs (x4 + 1).toNatClampNeg), .int (xs (x4 + 2).toNatClampNeg), .int (xs (x4 + 3).toNatClampNeg), .ref o3]) dL_law_517 ca_L_93 ⟨by decide, by decide⟩ hA (Nat.le_of_ble_eq_true rfl) (Nat.le_of_ble_eq_true rfl) (by decide) (by omega) (by omega) (cw_L_set hG (oa_af h1 hA) (oa_af h3 hA) (fun _ _ _ _ h => h)) (fun S251 z252 hz253 hG254 hB255 hA256 => ?_)
      have rl257 := rel_af hrel (oa_af h2 hA) hB255
      have er258 := (hB255.2.2.2.1 (by decide)).2.trans er0
      have ru259 := ru_af hru (ro_af hro h1 h2 hA) (oa_af h2 hA) hB255
      have by260 := by_af hby (oa_af hob hA) (oa_af hom hA) hB255
      have cn261 := cn_af hcn (oa_af hc1 hA) (oa_af h2 hA) hB255
      refine tt_istore (ks := [0, 1, 2, 3, 4, 5]) (L' := [(5, .int z252), (4, .int x4), (3, .ref o3), (2, .ref o2), (1, .ref o1), (0, .ref b)]) dL_law_520 (by decide) rfl ?_
      refine tt_aload_n (j := 3) dL_law_522 rfl ?_
      refine tt_aload_n (j := 5) dL_law_523 rfl ?_
      refine tt_iload (j := 1) dL_law_524 rfl ?_
      refine tt_iconst (v := 1) dL_law_526 rfl ?_
      refine tt_iadd dL_law_527 ?_
      refine tt_sld (xi := (b, L, xs)) dL_law_528 (sc_in hx hL) ?_
      refine tt_aload_n (j := 5) dL_law_529 rfl ?_
      refine tt_iload (j := 1) dL_law_530 rfl ?_
      refine tt_iconst (v := 2) dL_law_532 rfl ?_
      refine tt_iadd dL_law_533 ?_
      refine tt_sld (xi := (b, L, xs)) dL_law_534 (sc_in hx hL) ?_
      refine tt_aload_n (j := 5) dL_law_535 rfl ?_
      refine tt_iload (j := 1) dL_law_536 rfl ?_
      refine tt_iconst (v := 3) dL_law_538 rfl ?_
      refine tt_iadd dL_law_539 ?_
      refine tt_sld (xi := (b, L, xs)) dL_law_540 (sc_in hx hL) ?_
      refine gt_VJ (As := [.int (xs (x4 + 1).toNatClampNeg), .int (xs (x4 + 2).toNatClampNeg), .int (xs (x4 + 3).toNatClampNeg)]) dL_law_541 ca_L_96 ⟨by decide, by decide⟩ h2 hA256 rfl (Nat.le_of_ble_eq_true rfl) (Nat.le_of_ble_eq_true rfl) (by decide) (cs_X10_set hG254 (oa_af h2 hA256) (fun _ _ _ _ h => h)) rfl (fun _ h => nomatch h) (fun S262 v263 hx265 hG266 hB267 hA268 => ?_)
      have by269 := by_af by260 (oa_af hob hA256) (oa_af hom hA256) hB267
      have ru272 := ru_af ru259 (ro_af hro h1 h2 hA256) (oa_af h2 hA256) hB267
      have rl270 := un_rel ru272.2
      have er271 := (hB267.2.2.2.1 (by decide)).2.trans er258
      have cn273 := cn_af cn261 (oa_af hc1 hA256) (oa_af h2 hA256) hB267
      refine tt_lstore (ks := [0, 1, 2, 3, 4, 5, 6]) (L' := [(6, .long v263), (5, .int z252), (4, .int x4), (3, .ref o3), (2, .ref o2), (1, .ref o1), (0, .ref b)]) dL_law_544 (by decide) rfl ?_
      refine tt_goto (tgt := 809) dL_law_546 rfl ?_
      exact tt_loc (ks := [2, 3, 4, 5, 6]) rfl (hJ S262 (k - 1) (n - 6) hG266 hA268 rl270 cn273 by269 ru272 (by rw [er271]; omega) (by rw [er271]; omega))
    · skip
      refine tt_aload_n (j := 3) dL_law_549 rfl ?_
      refine tt_aload_n (j := 4) dL_law_550 rfl ?_
      refine tt_iload (j := 0) dL_law_551 rfl ?_
      refine tt_iconst (v := 1) dL_law_553 rfl ?_
      refine tt_iadd dL_law_554 ?_
      refine tt_sld (xi := (b, L, xs)) dL_law_555 (sc_in hx hL) ?_
      refine tt_aload_n (j := 4) dL_law_556 rfl ?_
      refine tt_iload (j := 0) dL_law_557 rfl ?_
      refine tt_iconst (v := 2) dL_law_559 rfl ?_
      refine tt_iadd dL_law_560 ?_
      refine tt_sld (xi := (b, L, xs)) dL_law_561 (sc_in hx hL) ?_
      refine tt_aload_n (j := 4) dL_law_562 rfl ?_
      refine tt_iload (j := 0) dL_law_563 rfl ?_
      refine tt_iconst (v := 3) dL_law_565 rfl ?_
      refine tt_iadd dL_law_566 ?_
      refine tt_sld (xi := (b, L, xs)) dL_law_567 (sc_in hx hL) ?_
      refine tt_i2l dL_law_568 ?_
      refine tt_bipush (v := 32) dL_law_569 rfl ?_
      refine tt_lshl dL_law_571 ?_
      refine tt_aload_n (j := 4) dL_law_572 rfl ?_
      refine tt_iload (j := 0) dL_law_573 rfl ?_
      refine tt_iconst (v := 4) dL_law_575 rfl ?_
      refine tt_iadd dL_law_576 ?_
      refine tt_sld (xi := (b, L, xs)) dL_law_577 (sc_in hx hL) ?_
      refine tt_i2l dL_law_578 ?_
      refine tt_ldc2 (v := 4294967295) dL_law_579 kl_L_67 ?_
      refine tt_land dL_law_582 ?_
      refine tt_lor dL_law_583 ?_
      refine tt_aload_n (j := 1) dL_law_584 rfl ?_
      refine gt_SW (As := [.ref o1, .int (xs (x4 + 1).toNatClampNeg), .int (xs (x4 + 2).toNatClampNeg), .long ((((xs (x4 + 3).toNatClampNeg) : Int32).toInt64 <<< ((32 : Int32).toInt64 &&& 63)) ||| (((xs (x4 + 4).toNatClampNeg) : Int32).toInt64 &&& 4294967295)), .ref o3]) dL_law_585 ca_L_97 ⟨by decide, by decide⟩ hA (Nat.le_of_ble_eq_true rfl) (Nat.le_of_ble_eq_true rfl) (by decide) (by omega) (by omega) (cw_L_has hG (oa_af h1 hA) (oa_af h3 hA) (fun _ _ _ _ h => h)) (fun S274 z275 hz276 hG277 hB278 hA279 => ?_)
      have rl280 := rel_af hrel (oa_af h2 hA) hB278
      have er281 := (hB278.2.2.2.1 (by decide)).2.trans er0
      have ru282 := ru_af hru (ro_af hro h1 h2 hA) (oa_af h2 hA) hB278
      have by283 := by_af hby (oa_af hob hA) (oa_af hom hA) hB278
      have cn284 := cn_af hcn (oa_af hc1 hA) (oa_af h2 hA) hB278
      refine tt_istore (ks := [0, 1, 2, 3, 4, 5]) (L' := [(5, .int z275), (4, .int x4), (3, .ref o3), (2, .ref o2), (1, .ref o1), (0, .ref b)]) dL_law_588 (by decide) rfl ?_
      refine tt_aload_n (j := 3) dL_law_590 rfl ?_
      refine tt_aload_n (j := 5) dL_law_591 rfl ?_
      refine tt_iload (j := 1) dL_law_592 rfl ?_
      refine tt_iconst (v := 1) dL_law_594 rfl ?_
      refine tt_iadd dL_law_595 ?_
      refine tt_sld (xi := (b, L, xs)) dL_law_596 (sc_in hx hL) ?_
      refine tt_aload_n (j := 5) dL_law_597 rfl ?_
      refine tt_iload (j := 1) dL_law_598 rfl ?_
      refine tt_iconst (v := 2) dL_law_600 rfl ?_
      refine tt_iadd dL_law_601 ?_
      refine tt_sld (xi := (b, L, xs)) dL_law_602 (sc_in hx hL) ?_
      refine tt_aload_n (j := 5) dL_law_603 rfl ?_
      refine tt_iload (j := 1) dL_law_604 rfl ?_
      refine tt_iconst (v := 3) dL_law_606 rfl ?_
      refine tt_iadd dL_law_607 ?_
      refine tt_sld (xi := (b, L, xs)) dL_law_608 (sc_in hx hL) ?_
      refine tt_i2l dL_law_609 ?_
      refine tt_bipush (v := 32) dL_law_610 rfl ?_
      refine tt_lshl dL_law_612 ?_
      refine tt_aload_n (j := 5) dL_law_613 rfl ?_
      refine tt_iload (j := 1) dL_law_614 rfl ?_
      refine tt_iconst (v := 4) dL_law_616 rfl ?_
      refine tt_iadd dL_law_617 ?_
      refine tt_sld (xi := (b, L, xs)) dL_law_618 (sc_in hx hL) ?_
      refine tt_i2l dL_law_619 ?_
      refine tt_ldc2 (v := 4294967295) dL_law_620 kl_L_67 ?_
      refine tt_land dL_law_623 ?_
      refine tt_lor dL_law_624 ?_
      refine gt_VI (As := [.int (xs (x4 + 1).toNatClampNeg), .int (xs (x4 + 2).toNatClampNeg), .long ((((xs (x4 + 3).toNatClampNeg) : Int32).toInt64 <<< ((32 : Int32).toInt64 &&& 63)) ||| (((xs (x4 + 4).toNatClampNeg) : Int32).toInt64 &&& 4294967295))]) dL_law_625 ca_L_100 ⟨by decide, by decide⟩ h2 hA279 rfl (Nat.le_of_ble_eq_true rfl) (Nat.le_of_ble_eq_true rfl) (by decide) (cs_X10_has hG277 (oa_af h2 hA279) (fun _ _ _ _ h => h)) rfl (fun _ h => nomatch h) (fun S285 v286 hz287 hx288 hG289 hB290 hA291 => ?_)
      have by292 := by_af by283 (oa_af hob hA279) (oa_af hom hA279) hB290
      have ru295 := ru_af ru282 (ro_af hro h1 h2 hA279) (oa_af h2 hA279) hB290
      have rl293 := un_rel ru295.2
      have er294 := (hB290.2.2.2.1 (by decide)).2.trans er281
      have cn296 := cn_af cn284 (oa_af hc1 hA279) (oa_af h2 hA279) hB290
      refine tt_istore (ks := [0, 1, 2, 3, 4, 5, 6]) (L' := [(6, .int v286), (5, .int z275), (4, .int x4), (3, .ref o3), (2, .ref o2), (1, .ref o1), (0, .ref b)]) dL_law_628 (by decide) rfl ?_
      refine tt_goto (tgt := 809) dL_law_630 rfl ?_
      exact tt_loc (ks := [2, 3, 4, 5, 6]) rfl (hJ S285 (k - 1) (n - 6) hG289 hA291 rl293 cn296 by292 ru295 (by rw [er294]; omega) (by rw [er294]; omega))
    · skip
      refine tt_aload_n (j := 3) dL_law_633 rfl ?_
      refine gt_Vv (As := []) dL_law_634 ca_L_101 ⟨by decide, by decide⟩ h1 hA rfl (Nat.le_of_ble_eq_true rfl) (Nat.le_of_ble_eq_true rfl) (by decide) (cr_X9_start hG (oa_af h1 hA) hro.1 (⟨hro.2.1, hro.2.2.2.1, hoi, (ro_hd hro).1, (ro_hd hro).2.1, ⟨c1, ab, hrj, hc1, hrb, hob, rfl, rfl⟩, c1, hro.2.2.1, hc1, rfl⟩ : RC S [] r1 i1 hd (hp_i S ab) (hp_I S 65 c1)) (gi_I (k := 65) hG hc1 0 200) (ro_pr hro).1 (ro_pr hro).2.1 (fun _ _ _ _ h => h)) rfl (fun _ h => nomatch h) (fun S297 hx300 hG301 hB302 hA303 => ?_)
      have by304 := by_af hby (oa_af hob hA) (oa_af hom hA) hB302
      have rl305 := rel_af hrel (oa_af h2 hA) hB302
      have er306 := (hB302.2.2.2.1 (by decide)).2.trans er0
      have cn307 := cn_af hcn (oa_af hc1 hA) (oa_af h2 hA) hB302
      refine tt_aload_n (j := 2) dL_law_637 rfl ?_
      refine gt_Vv (As := []) dL_law_638 ca_L_104 ⟨by decide, by decide⟩ h2 hA303 rfl (Nat.le_of_ble_eq_true rfl) (Nat.le_of_ble_eq_true rfl) (by decide) (cr_X10_start hG301 (oa_af h2 hA303) (ro_vl (ro_af hro h1 h2 hA303)).1 (ro_vl (ro_af hro h1 h2 hA303)).2.1 (ro_sv (ro_af hro h1 h2 hA303)).1 (ro_sv (ro_af hro h1 h2 hA303)).2.1 (ro_ne (ro_af hro h1 h2 hA303) (oa_af h2 hA303)) (fun _ _ _ _ h => h)) rfl (fun _ h => nomatch h) (fun S308 hx311 hG312 hB313 hA314 => ?_)
      have by315 := by_af by304 (oa_af hob hA303) (oa_af hom hA303) hB313
      have ru318 := ru_start hro h1 h2 hru.1 hcn (gi_I (k := 65) hG hc1 0 200) hB302 hx300 hB313 hx311
      have rl316 := un_rel ru318.2
      have er317 := (hB313.2.2.2.1 (by decide)).2.trans er306
      have cn319 := cn_af cn307 (oa_af hc1 hA303) (oa_af h2 hA303) hB313
      refine tt_goto (tgt := 809) dL_law_641 rfl ?_
      exact tt_loc (ks := [0, 1, 2, 3, 4]) rfl (hJ S308 k n hG312 hA314 rl316 cn319 by315 ru318 (by rw [er317]; omega) (by rw [er317]; omega))
    · skip
      refine tt_aload_n (j := 3) dL_law_644 rfl ?_
      refine tt_aload_n (j := 4) dL_law_645 rfl ?_
      refine tt_iload (j := 0) dL_law_646 rfl ?_
      refine tt_iconst (v := 1) dL_law_648 rfl ?_
      refine tt_iadd dL_law_649 ?_
      refine tt_sld (xi := (b, L, xs)) dL_law_650 (sc_in hx hL) ?_
      refine tt_aload_n (j := 4) dL_law_651 rfl ?_
      refine tt_iload (j := 0) dL_law_652 rfl ?_
      refine tt_iconst (v := 2) dL_law_654 rfl ?_
      refine tt_iadd dL_law_655 ?_
      refine tt_sld (xi := (b, L, xs)) dL_law_656 (sc_in hx hL) ?_
      refine tt_i2l dL_law_657 ?_
      refine tt_bipush (v := 32) dL_law_658 rfl ?_
      refine tt_lshl dL_law_660 ?_
      refine tt_aload_n (j := 4) dL_law_661 rfl ?_
      refine tt_iload (j := 0) dL_law_662 rfl ?_
      refine tt_iconst (v := 3) dL_law_664 rfl ?_
      refine tt_iadd dL_law_665 ?_
      refine tt_sld (xi := (b, L, xs)) dL_law_666 (sc_in hx hL) ?_
      refine tt_i2l dL_law_667 ?_
      refine tt_ldc2 (v := 4294967295) dL_law_668 kl_L_67 ?_
      refine tt_land dL_law_671 ?_
      refine tt_lor dL_law_672 ?_
      by_cases hr9 : Rg 0 23 (xs (x4 + 1).toNatClampNeg)
      · skip
        refine gt_SX (As := [.ref o1, .int (xs (x4 + 1).toNatClampNeg), .long ((((xs (x4 + 2).toNatClampNeg) : Int32).toInt64 <<< ((32 : Int32).toInt64 &&& 63)) ||| (((xs (x4 + 3).toNatClampNeg) : Int32).toInt64 &&& 4294967295))]) dL_law_673 ca_L_105 ⟨by decide, by decide⟩ hA (Nat.le_of_ble_eq_true rfl) (Nat.le_of_ble_eq_true rfl) (by decide) (by omega) (by omega) (crwo_L_put hG h1 hr9 hro.1 (ro_pr hro).1 (fun _ _ _ _ h => h)) (fun S320 z321 hz322 hG323 hB324 hA325 => ?_)
        have rl326 := rel_af hrel (oa_af h2 hA) hB324
        have er327 := (hB324.2.2.2.1 (by decide)).2.trans er0
        obtain ⟨hz322, pj328⟩ := hz322
        have by329 := by_af hby (oa_af hob hA) (oa_af hom hA) hB324
        have cn330 := cn_af hcn (oa_af hc1 hA) (oa_af h2 hA) hB324
        obtain rfl : z321 = 0 := hz322
        refine tt_istore (ks := [0, 1, 2, 3, 4, 5]) (L' := [(5, .int 0), (4, .int x4), (3, .ref o3), (2, .ref o2), (1, .ref o1), (0, .ref b)]) dL_law_676 (by decide) rfl ?_
        refine tt_aload_n (j := 3) dL_law_678 rfl ?_
        refine tt_aload_n (j := 5) dL_law_679 rfl ?_
        refine tt_iload (j := 1) dL_law_680 rfl ?_
        refine tt_iconst (v := 1) dL_law_682 rfl ?_
        refine tt_iadd dL_law_683 ?_
        refine tt_sld (xi := (b, L, xs)) dL_law_684 (sc_in hx hL) ?_
        refine tt_aload_n (j := 5) dL_law_685 rfl ?_
        refine tt_iload (j := 1) dL_law_686 rfl ?_
        refine tt_iconst (v := 2) dL_law_688 rfl ?_
        refine tt_iadd dL_law_689 ?_
        refine tt_sld (xi := (b, L, xs)) dL_law_690 (sc_in hx hL) ?_
        refine tt_i2l dL_law_691 ?_
        refine tt_bipush (v := 32) dL_law_692 rfl ?_
        refine tt_lshl dL_law_694 ?_
        refine tt_aload_n (j := 5) dL_law_695 rfl ?_
        refine tt_iload (j := 1) dL_law_696 rfl ?_
        refine tt_iconst (v := 3) dL_law_698 rfl ?_
        refine tt_iadd dL_law_699 ?_
        refine tt_sld (xi := (b, L, xs)) dL_law_700 (sc_in hx hL) ?_
        refine tt_i2l dL_law_701 ?_
        refine tt_ldc2 (v := 4294967295) dL_law_702 kl_L_67 ?_
        refine tt_land dL_law_705 ?_
        refine tt_lor dL_law_706 ?_
        refine gt_Vv (As := [.int (xs (x4 + 1).toNatClampNeg), .long ((((xs (x4 + 2).toNatClampNeg) : Int32).toInt64 <<< ((32 : Int32).toInt64 &&& 63)) ||| (((xs (x4 + 3).toNatClampNeg) : Int32).toInt64 &&& 4294967295))]) dL_law_707 ca_L_108 ⟨by decide, by decide⟩ h2 hA325 rfl (Nat.le_of_ble_eq_true rfl) (Nat.le_of_ble_eq_true rfl) (by decide) (cro_X10_put hG323 (oa_af h2 hA325) hr9 (ro_sv (ro_af hro h1 h2 hA325)).1 (ro_sv (ro_af hro h1 h2 hA325)).2.2 (fun _ _ _ _ h => h)) rfl (fun _ h => nomatch h) (fun S331 hx334 hG335 hB336 hA337 => ?_)
        have by338 := by_af by329 (oa_af hob hA325) (oa_af hom hA325) hB336
        have ru341 := ru_put hro h1 h2 hru hB324 pj328 hB336 hx334.2
        have hx334 := hx334.1
        have rl339 := un_rel ru341.2
        have er340 := (hB336.2.2.2.1 (by decide)).2.trans er327
        have cn342 := cn_af cn330 (oa_af hc1 hA325) (oa_af h2 hA325) hB336
        refine tt_goto (tgt := 809) dL_law_710 rfl ?_
        exact tt_loc (ks := [1, 2, 3, 4, 5]) rfl (hJ S331 (k - 1) (n - 6) hG335 hA337 rl339 cn342 by338 ru341 (by rw [er340]; omega) (by rw [er340]; omega))
      · skip
        refine gt_SW (As := [.ref o1, .int (xs (x4 + 1).toNatClampNeg), .long ((((xs (x4 + 2).toNatClampNeg) : Int32).toInt64 <<< ((32 : Int32).toInt64 &&& 63)) ||| (((xs (x4 + 3).toNatClampNeg) : Int32).toInt64 &&& 4294967295))]) dL_law_673 ca_L_105 ⟨by decide, by decide⟩ hA (Nat.le_of_ble_eq_true rfl) (Nat.le_of_ble_eq_true rfl) (by decide) (by omega) (by omega) (crwn_L_put hG h1 hr9 (fun _ _ _ _ h => h)) (fun S343 z344 hz345 hG346 hB347 hA348 => ?_)
        have rl349 := rel_af hrel (oa_af h2 hA) hB347
        have er350 := (hB347.2.2.2.1 (by decide)).2.trans er0
        have ru351 := ru_af hru (ro_af hro h1 h2 hA) (oa_af h2 hA) hB347
        have by352 := by_af hby (oa_af hob hA) (oa_af hom hA) hB347
        have cn353 := cn_af hcn (oa_af hc1 hA) (oa_af h2 hA) hB347
        obtain rfl : z344 = 1 := hz345
        refine tt_istore (ks := [0, 1, 2, 3, 4, 5]) (L' := [(5, .int 1), (4, .int x4), (3, .ref o3), (2, .ref o2), (1, .ref o1), (0, .ref b)]) dL_law_676 (by decide) rfl ?_
        refine tt_aload_n (j := 3) dL_law_678 rfl ?_
        refine tt_aload_n (j := 5) dL_law_679 rfl ?_
        refine tt_iload (j := 1) dL_law_680 rfl ?_
        refine tt_iconst (v := 1) dL_law_682 rfl ?_
        refine tt_iadd dL_law_683 ?_
        refine tt_sld (xi := (b, L, xs)) dL_law_684 (sc_in hx hL) ?_
        refine tt_aload_n (j := 5) dL_law_685 rfl ?_
        refine tt_iload (j := 1) dL_law_686 rfl ?_
        refine tt_iconst (v := 2) dL_law_688 rfl ?_
        refine tt_iadd dL_law_689 ?_
        refine tt_sld (xi := (b, L, xs)) dL_law_690 (sc_in hx hL) ?_
        refine tt_i2l dL_law_691 ?_
        refine tt_bipush (v := 32) dL_law_692 rfl ?_
        refine tt_lshl dL_law_694 ?_
        refine tt_aload_n (j := 5) dL_law_695 rfl ?_
        refine tt_iload (j := 1) dL_law_696 rfl ?_
        refine tt_iconst (v := 3) dL_law_698 rfl ?_
        refine tt_iadd dL_law_699 ?_
        refine tt_sld (xi := (b, L, xs)) dL_law_700 (sc_in hx hL) ?_
        refine tt_i2l dL_law_701 ?_
        refine tt_ldc2 (v := 4294967295) dL_law_702 kl_L_67 ?_
        refine tt_land dL_law_705 ?_
        refine tt_lor dL_law_706 ?_
        refine gt_Vv (As := [.int (xs (x4 + 1).toNatClampNeg), .long ((((xs (x4 + 2).toNatClampNeg) : Int32).toInt64 <<< ((32 : Int32).toInt64 &&& 63)) ||| (((xs (x4 + 3).toNatClampNeg) : Int32).toInt64 &&& 4294967295))]) dL_law_707 ca_L_108 ⟨by decide, by decide⟩ h2 hA348 rfl (Nat.le_of_ble_eq_true rfl) (Nat.le_of_ble_eq_true rfl) (by decide) (crn_X10_put hG346 (oa_af h2 hA348) hr9 (fun _ _ _ _ h => h)) rfl (fun _ h => nomatch h) (fun S354 hx357 hG358 hB359 hA360 => ?_)
        have by361 := by_af by352 (oa_af hob hA348) (oa_af hom hA348) hB359
        have ru364 := ru_af ru351 (ro_af hro h1 h2 hA348) (oa_af h2 hA348) hB359
        have rl362 := un_rel ru364.2
        have er363 := (hB359.2.2.2.1 (by decide)).2.trans er350
        have cn365 := cn_af cn353 (oa_af hc1 hA348) (oa_af h2 hA348) hB359
        refine tt_goto (tgt := 809) dL_law_710 rfl ?_
        exact tt_loc (ks := [1, 2, 3, 4, 5]) rfl (hJ S354 (k - 1) (n - 6) hG358 hA360 rl362 cn365 by361 ru364 (by rw [er363]; omega) (by rw [er363]; omega))
    · skip
      refine tt_aload_n (j := 3) dL_law_713 rfl ?_
      refine tt_aload_n (j := 4) dL_law_714 rfl ?_
      refine tt_iload (j := 0) dL_law_715 rfl ?_
      refine tt_iconst (v := 1) dL_law_717 rfl ?_
      refine tt_iadd dL_law_718 ?_
      refine tt_sld (xi := (b, L, xs)) dL_law_719 (sc_in hx hL) ?_
      refine tt_aload_n (j := 1) dL_law_720 rfl ?_
      by_cases hr9 : Rg 1 1000 (xs (x4 + 1).toNatClampNeg)
      · by_cases hs9 : hp_I S 388 r1 = -1
        · skip
          refine gt_SW (As := [.ref o1, .int (xs (x4 + 1).toNatClampNeg), .ref o3]) dL_law_721 ca_L_109 ⟨by decide, by decide⟩ hA (Nat.le_of_ble_eq_true rfl) (Nat.le_of_ble_eq_true rfl) (by decide) (by omega) (by omega) (crwk_L_go hG h1 h3 hr9 (fun r hr => by obtain rfl : r1 = r := Option.some.inj (hro.1.symm.trans hr); exact hs9) (fun _ _ _ _ h => h)) (fun S366 z367 hz368 hG369 hB370 hA371 => ?_)
          have rl372 := rel_af hrel (oa_af h2 hA) hB370
          have er373 := (hB370.2.2.2.1 (by decide)).2.trans er0
          have ru374 := ru_af hru (ro_af hro h1 h2 hA) (oa_af h2 hA) hB370
          have by375 := by_af hby (oa_af hob hA) (oa_af hom hA) hB370
          have cn376 := cn_af hcn (oa_af hc1 hA) (oa_af h2 hA) hB370
          obtain rfl : z367 = 2 := hz368
          refine tt_istore (ks := [0, 1, 2, 3, 4, 5]) (L' := [(5, .int 2), (4, .int x4), (3, .ref o3), (2, .ref o2), (1, .ref o1), (0, .ref b)]) dL_law_724 (by decide) rfl ?_
          refine tt_aload_n (j := 3) dL_law_726 rfl ?_
          refine tt_aload_n (j := 5) dL_law_727 rfl ?_
          refine tt_iload (j := 1) dL_law_728 rfl ?_
          refine tt_iconst (v := 1) dL_law_730 rfl ?_
          refine tt_iadd dL_law_731 ?_
          refine tt_sld (xi := (b, L, xs)) dL_law_732 (sc_in hx hL) ?_
          refine gt_VI (As := [.int (xs (x4 + 1).toNatClampNeg)]) dL_law_733 ca_L_111 ⟨by decide, by decide⟩ h2 hA371 rfl (Nat.le_of_ble_eq_true rfl) (Nat.le_of_ble_eq_true rfl) (by decide) (crgk_X10_go hG369 (oa_af h2 hA371) hr9 (by rw [i_af (k := 663) h2 hB370]; exact ru_off hru.2 hs9) (fun _ _ _ _ h => h)) rfl (fun _ h => nomatch h) (fun S377 v378 hz379 hx380 hG381 hB382 hA383 => ?_)
          have by384 := by_af by375 (oa_af hob hA371) (oa_af hom hA371) hB382
          have ru387 := ru_af ru374 (ro_af hro h1 h2 hA371) (oa_af h2 hA371) hB382
          have rl385 := un_rel ru387.2
          have er386 := (hB382.2.2.2.1 (by decide)).2.trans er373
          have cn388 := cn_af cn376 (oa_af hc1 hA371) (oa_af h2 hA371) hB382
          refine tt_istore (ks := [0, 1, 2, 3, 4, 5, 6]) (L' := [(6, .int v378), (5, .int 2), (4, .int x4), (3, .ref o3), (2, .ref o2), (1, .ref o1), (0, .ref b)]) dL_law_736 (by decide) rfl ?_
          refine tt_goto (tgt := 809) dL_law_738 rfl ?_
          exact tt_loc (ks := [2, 3, 4, 5, 6]) rfl (hJ S377 (k - 1) (n - 6) hG381 hA383 rl385 cn388 by384 ru387 (by rw [er386]; omega) (by rw [er386]; omega))
        · skip
          refine gt_SX (As := [.ref o1, .int (xs (x4 + 1).toNatClampNeg), .ref o3]) dL_law_721 ca_L_109 ⟨by decide, by decide⟩ hA (Nat.le_of_ble_eq_true rfl) (Nat.le_of_ble_eq_true rfl) (by decide) (by omega) (by omega) (crwo_L_go hG h1 h3 hr9 hro.1 hs9 (⟨hro.2.1, hro.2.2.2.1, hoi, (ro_hd hro).1, (ro_hd hro).2.1, ⟨c1, ab, hrj, hc1, hrb, hob, rfl, rfl⟩, c1, hro.2.2.1, hc1, rfl⟩ : RC S [] r1 i1 hd (hp_i S ab) (hp_I S 65 c1)) (fun _ _ _ _ h => h)) (fun S389 z390 hz391 hG392 hB393 hA394 => ?_)
          have rl395 := rel_af hrel (oa_af h2 hA) hB393
          have er396 := (hB393.2.2.2.1 (by decide)).2.trans er0
          obtain ⟨hz391, o397, ej398, it399⟩ := hz391
          have by400 := by_af hby (oa_af hob hA) (oa_af hom hA) hB393
          have cn401 := cn_af hcn (oa_af hc1 hA) (oa_af h2 hA) hB393
          obtain rfl : z390 = 0 := hz391
          refine tt_istore (ks := [0, 1, 2, 3, 4, 5]) (L' := [(5, .int 0), (4, .int x4), (3, .ref o3), (2, .ref o2), (1, .ref o1), (0, .ref b)]) dL_law_724 (by decide) rfl ?_
          refine tt_aload_n (j := 3) dL_law_726 rfl ?_
          refine tt_aload_n (j := 5) dL_law_727 rfl ?_
          refine tt_iload (j := 1) dL_law_728 rfl ?_
          refine tt_iconst (v := 1) dL_law_730 rfl ?_
          refine tt_iadd dL_law_731 ?_
          refine tt_sld (xi := (b, L, xs)) dL_law_732 (sc_in hx hL) ?_
          refine gt_VI (As := [.int (xs (x4 + 1).toNatClampNeg)]) dL_law_733 ca_L_111 ⟨by decide, by decide⟩ h2 hA394 rfl (Nat.le_of_ble_eq_true rfl) (Nat.le_of_ble_eq_true rfl) (by decide) (crgo_X10_go hG392 (rr_af (bs := hp_i S ab) (n := hp_I S 65 c1) ⟨h2, (ro_vl hro).1, (ro_vl hro).2.1, ⟨am, hrm, hom, hby.1.symm, hcn.symm⟩, hcn.symm⟩ hB393) (gi_I (k := 65) hG hc1 0 200) (fun i => by rw [hby.1]; exact hby.2 i) hr9 (by rw [i_af (k := 663) h2 hB393]; exact (ru_on hru.2 hs9).1) (by rw [i_af (k := 664) h2 hB393]; exact (ru_on hru.2 hs9).2.1) (by rw [qr_na (ro_vl hro) h2 hB393, hcn]; exact (ru_on hru.2 hs9).2.2.2) (fun _ _ _ _ h => h)) rfl (fun _ h => nomatch h) (fun S402 v403 hz404 hx405 hG406 hB407 hA408 => ?_)
          have by409 := by_af by400 (oa_af hob hA394) (oa_af hom hA394) hB407
          obtain ⟨h6412, o413, e414, it415⟩ := hx405
          obtain ⟨ge416, ru417⟩ := ru_go hro h2 hru hs9 hcn (gi_I (k := 65) hG hc1 0 200) (fun i => by rw [hby.1]; exact hby.2 i) h1 hB393 it399 hB407 it415
          have oq418 : hp_j S402 o3 (0 : Int32).toNatClampNeg = (v403 : Int32).toInt64 := (congrFun (j_af (oa_af h3 hA394) hB407) _).trans (ej398.trans (congrArg Int32.toInt64 (ge416.trans (ei_w e414).symm)))
          have rl410 := un_rel ru417.2
          have er411 := (hB407.2.2.2.1 (by decide)).2.trans er396
          have cn419 := cn_af cn401 (oa_af hc1 hA394) (oa_af h2 hA394) hB407
          refine tt_istore (ks := [0, 1, 2, 3, 4, 5, 6]) (L' := [(6, .int v403), (5, .int 0), (4, .int x4), (3, .ref o3), (2, .ref o2), (1, .ref o1), (0, .ref b)]) dL_law_736 (by decide) rfl ?_
          refine tt_goto (tgt := 809) dL_law_738 rfl ?_
          exact tt_loc (ks := [2, 3, 4, 5, 6]) rfl (hJ S402 (k - 1) (n - 6) hG406 hA408 rl410 cn419 by409 ru417 (by rw [er411]; omega) (by rw [er411]; omega))
      · skip
        refine gt_SW (As := [.ref o1, .int (xs (x4 + 1).toNatClampNeg), .ref o3]) dL_law_721 ca_L_109 ⟨by decide, by decide⟩ hA (Nat.le_of_ble_eq_true rfl) (Nat.le_of_ble_eq_true rfl) (by decide) (by omega) (by omega) (crwn_L_go hG h1 h3 hr9 (fun _ _ _ _ h => h)) (fun S420 z421 hz422 hG423 hB424 hA425 => ?_)
        have rl426 := rel_af hrel (oa_af h2 hA) hB424
        have er427 := (hB424.2.2.2.1 (by decide)).2.trans er0
        have ru428 := ru_af hru (ro_af hro h1 h2 hA) (oa_af h2 hA) hB424
        have by429 := by_af hby (oa_af hob hA) (oa_af hom hA) hB424
        have cn430 := cn_af hcn (oa_af hc1 hA) (oa_af h2 hA) hB424
        obtain rfl : z421 = 1 := hz422
        refine tt_istore (ks := [0, 1, 2, 3, 4, 5]) (L' := [(5, .int 1), (4, .int x4), (3, .ref o3), (2, .ref o2), (1, .ref o1), (0, .ref b)]) dL_law_724 (by decide) rfl ?_
        refine tt_aload_n (j := 3) dL_law_726 rfl ?_
        refine tt_aload_n (j := 5) dL_law_727 rfl ?_
        refine tt_iload (j := 1) dL_law_728 rfl ?_
        refine tt_iconst (v := 1) dL_law_730 rfl ?_
        refine tt_iadd dL_law_731 ?_
        refine tt_sld (xi := (b, L, xs)) dL_law_732 (sc_in hx hL) ?_
        refine gt_VI (As := [.int (xs (x4 + 1).toNatClampNeg)]) dL_law_733 ca_L_111 ⟨by decide, by decide⟩ h2 hA425 rfl (Nat.le_of_ble_eq_true rfl) (Nat.le_of_ble_eq_true rfl) (by decide) (crgn_X10_go hG423 (oa_af h2 hA425) hr9 (fun _ _ _ _ h => h)) rfl (fun _ h => nomatch h) (fun S431 v432 hz433 hx434 hG435 hB436 hA437 => ?_)
        have by438 := by_af by429 (oa_af hob hA425) (oa_af hom hA425) hB436
        have ru441 := ru_af ru428 (ro_af hro h1 h2 hA425) (oa_af h2 hA425) hB436
        have rl439 := un_rel ru441.2
        have er440 := (hB436.2.2.2.1 (by decide)).2.trans er427
        have cn442 := cn_af cn430 (oa_af hc1 hA425) (oa_af h2 hA425) hB436
        refine tt_istore (ks := [0, 1, 2, 3, 4, 5, 6]) (L' := [(6, .int v432), (5, .int 1), (4, .int x4), (3, .ref o3), (2, .ref o2), (1, .ref o1), (0, .ref b)]) dL_law_736 (by decide) rfl ?_
        refine tt_goto (tgt := 809) dL_law_738 rfl ?_
        exact tt_loc (ks := [2, 3, 4, 5, 6]) rfl (hJ S431 (k - 1) (n - 6) hG435 hA437 rl439 cn442 by438 ru441 (by rw [er440]; omega) (by rw [er440]; omega))
    · skip
      refine tt_aload_n (j := 3) dL_law_741 rfl ?_
      refine gt_VIp (As := []) dL_law_742 ca_L_112 ⟨by decide, by decide⟩ h1 hA rfl (Nat.le_of_ble_eq_true rfl) (Nat.le_of_ble_eq_true rfl) (by decide) (cr_X9_at hG (oa_af h1 hA) (ro_af hro h1 h2 hA).1 (fun _ _ _ _ h => h)) rfl (fun _ h => nomatch h) (fun _ _ q => q.1) (fun v444 hz445 hx446 => ?_)
      refine tt_pop dL_law_745 rfl ?_
      refine tt_aload_n (j := 2) dL_law_746 rfl ?_
      refine gt_VI (As := []) dL_law_747 ca_L_115 ⟨by decide, by decide⟩ h2 hA rfl (Nat.le_of_ble_eq_true rfl) (Nat.le_of_ble_eq_true rfl) (by decide) (cr_X10_at hG (oa_af h2 hA) (fun _ _ _ _ h => h)) rfl (fun _ h => nomatch h) (fun S450 v451 hz452 hx453 hG454 hB455 hA456 => ?_)
      have by457 := by_af hby (oa_af hob hA) (oa_af hom hA) hB455
      have ru460 := ru_af hru (ro_af hro h1 h2 hA) (oa_af h2 hA) hB455
      have rl458 := un_rel ru460.2
      have er459 := (hB455.2.2.2.1 (by decide)).2.trans er0
      have cn461 := cn_af hcn (oa_af hc1 hA) (oa_af h2 hA) hB455
      refine tt_pop dL_law_750 rfl ?_
      refine tt_goto (tgt := 809) dL_law_751 rfl ?_
      exact tt_loc (ks := [0, 1, 2, 3, 4]) rfl (hJ S450 k n hG454 hA456 rl458 cn461 by457 ru460 (by rw [er459]; omega) (by rw [er459]; omega))
    · skip
      refine tt_aload_n (j := 3) dL_law_754 rfl ?_
      refine tt_aload_n (j := 4) dL_law_755 rfl ?_
      refine tt_iload (j := 0) dL_law_756 rfl ?_
      refine tt_iconst (v := 1) dL_law_758 rfl ?_
      refine tt_iadd dL_law_759 ?_
      refine tt_sld (xi := (b, L, xs)) dL_law_760 (sc_in hx hL) ?_
      refine tt_aload_n (j := 1) dL_law_761 rfl ?_
      by_cases hr9 : Rg 0 23 (xs (x4 + 1).toNatClampNeg)
      · skip
        refine gt_SX (As := [.ref o1, .int (xs (x4 + 1).toNatClampNeg), .ref o3]) dL_law_762 ca_L_116 ⟨by decide, by decide⟩ hA (Nat.le_of_ble_eq_true rfl) (Nat.le_of_ble_eq_true rfl) (by decide) (by omega) (by omega) (crwo_L_value hG h1 h3 hr9 hro.1 (⟨hro.2.1, hro.2.2.2.1, hoi, (ro_hd hro).1, (ro_hd hro).2.1, ⟨c1, ab, hrj, hc1, hrb, hob, rfl, rfl⟩, c1, hro.2.2.1, hc1, rfl⟩ : RC S [] r1 i1 hd (hp_i S ab) (hp_I S 65 c1)) (fun _ _ _ _ h => h)) (fun S462 z463 hz464 hG465 hB466 hA467 => ?_)
        have rl468 := rel_af hrel (oa_af h2 hA) hB466
        have er469 := (hB466.2.2.2.1 (by decide)).2.trans er0
        obtain ⟨hz464, vj470⟩ := hz464
        have ru471 := ru_af hru (ro_af hro h1 h2 hA) (oa_af h2 hA) hB466
        have by472 := by_af hby (oa_af hob hA) (oa_af hom hA) hB466
        have cn473 := cn_af hcn (oa_af hc1 hA) (oa_af h2 hA) hB466
        obtain rfl : z463 = 0 := hz464
        refine tt_istore (ks := [0, 1, 2, 3, 4, 5]) (L' := [(5, .int 0), (4, .int x4), (3, .ref o3), (2, .ref o2), (1, .ref o1), (0, .ref b)]) dL_law_765 (by decide) rfl ?_
        refine tt_aload_n (j := 3) dL_law_767 rfl ?_
        refine tt_aload_n (j := 5) dL_law_768 rfl ?_
        refine tt_iload (j := 1) dL_law_769 rfl ?_
        refine tt_iconst (v := 1) dL_law_771 rfl ?_
        refine tt_iadd dL_law_772 ?_
        refine tt_sld (xi := (b, L, xs)) dL_law_773 (sc_in hx hL) ?_
        refine gt_VJ (As := [.int (xs (x4 + 1).toNatClampNeg)]) dL_law_774 ca_L_118 ⟨by decide, by decide⟩ h2 hA467 rfl (Nat.le_of_ble_eq_true rfl) (Nat.le_of_ble_eq_true rfl) (by decide) (cro_X10_value hG465 (oa_af h2 hA467) hr9 (ro_vl (ro_af hro h1 h2 hA467)).1 (ro_vl (ro_af hro h1 h2 hA467)).2.2 (fun _ _ _ _ h => h)) rfl (fun _ h => nomatch h) (fun S474 v475 hx477 hG478 hB479 hA480 => ?_)
        have by481 := by_af by472 (oa_af hob hA467) (oa_af hom hA467) hB479
        have ru484 := ru_af ru471 (ro_af hro h1 h2 hA467) (oa_af h2 hA467) hB479
        have oq485 : hp_j S474 o3 (0 : Int32).toNatClampNeg = v475 := (congrFun (j_af (oa_af h3 hA467) hB479) _).trans (vj470.trans (by rw [el_w hx477.2, i_af (k := 663) h2 hB466, j4_j (ro_vl hro) hB466]; exact un_val hru.2 (ix_lt hr9)))
        have rl482 := un_rel ru484.2
        have er483 := (hB479.2.2.2.1 (by decide)).2.trans er469
        have cn486 := cn_af cn473 (oa_af hc1 hA467) (oa_af h2 hA467) hB479
        refine tt_lstore (ks := [0, 1, 2, 3, 4, 5, 6]) (L' := [(6, .long v475), (5, .int 0), (4, .int x4), (3, .ref o3), (2, .ref o2), (1, .ref o1), (0, .ref b)]) dL_law_777 (by decide) rfl ?_
        refine tt_aload_n (j := 4) dL_law_779 rfl ?_
        refine gt_VIp (As := []) dL_law_780 ca_L_119 ⟨by decide, by decide⟩ h2 hA480 rfl (Nat.le_of_ble_eq_true rfl) (Nat.le_of_ble_eq_true rfl) (by decide) (cs_X10_thrown hG478 (oa_af h2 hA480) (fun _ _ _ _ h => h)) rfl (fun _ h => nomatch h) (fun _ _ q => q.1) (fun v488 hz489 hx490 => ?_)
        obtain rfl : v488 = 0 := (hx490.2 _ rfl).trans hx477.1
        refine tt_iload (j := 1) dL_law_783 rfl ?_
        refine tt_icmp_eq (tgt := 790) dL_law_785 rfl (fun _ => ?_) (fun q => absurd rfl q)
        refine tt_iload (j := 1) dL_law_790 rfl ?_
        refine tt_if_ne (tgt := 806) dL_law_792 rfl (fun q => absurd q (by decide)) (fun _ => ?_)
        refine tt_aload_n (j := 3) dL_law_795 rfl ?_
        refine tt_iconst (v := 0) dL_law_796 rfl ?_
        refine gt_lLt dL_law_797 h3 hA480 (rg_in (⟨by decide, by decide⟩ : Rg 0 0 0)) ?_
        refine tt_lload (j := 0) dL_law_798 rfl ?_
        refine tt_lcmp dL_law_800 ?_
        refine tt_if_eq (tgt := 806) dL_law_801 rfl (fun _ => ?_) (fun q => absurd oq485 (lc_eq_f q))
        refine tt_goto (tgt := 809) dL_law_806 rfl ?_
        exact tt_loc (ks := [2, 3, 4, 5, 6]) rfl (hJ S474 (k - 1) (n - 6) hG478 hA480 rl482 cn486 by481 ru484 (by rw [er483]; omega) (by rw [er483]; omega))
      · skip
        refine gt_SW (As := [.ref o1, .int (xs (x4 + 1).toNatClampNeg), .ref o3]) dL_law_762 ca_L_116 ⟨by decide, by decide⟩ hA (Nat.le_of_ble_eq_true rfl) (Nat.le_of_ble_eq_true rfl) (by decide) (by omega) (by omega) (crwn_L_value hG h1 h3 hr9 (fun _ _ _ _ h => h)) (fun S494 z495 hz496 hG497 hB498 hA499 => ?_)
        have rl500 := rel_af hrel (oa_af h2 hA) hB498
        have er501 := (hB498.2.2.2.1 (by decide)).2.trans er0
        have ru502 := ru_af hru (ro_af hro h1 h2 hA) (oa_af h2 hA) hB498
        have by503 := by_af hby (oa_af hob hA) (oa_af hom hA) hB498
        have cn504 := cn_af hcn (oa_af hc1 hA) (oa_af h2 hA) hB498
        obtain rfl : z495 = 1 := hz496
        refine tt_istore (ks := [0, 1, 2, 3, 4, 5]) (L' := [(5, .int 1), (4, .int x4), (3, .ref o3), (2, .ref o2), (1, .ref o1), (0, .ref b)]) dL_law_765 (by decide) rfl ?_
        refine tt_aload_n (j := 3) dL_law_767 rfl ?_
        refine tt_aload_n (j := 5) dL_law_768 rfl ?_
        refine tt_iload (j := 1) dL_law_769 rfl ?_
        refine tt_iconst (v := 1) dL_law_771 rfl ?_
        refine tt_iadd dL_law_772 ?_
        refine tt_sld (xi := (b, L, xs)) dL_law_773 (sc_in hx hL) ?_
        refine gt_VJ (As := [.int (xs (x4 + 1).toNatClampNeg)]) dL_law_774 ca_L_118 ⟨by decide, by decide⟩ h2 hA499 rfl (Nat.le_of_ble_eq_true rfl) (Nat.le_of_ble_eq_true rfl) (by decide) (crn_X10_value hG497 (oa_af h2 hA499) hr9 (fun _ _ _ _ h => h)) rfl (fun _ h => nomatch h) (fun S505 v506 hx508 hG509 hB510 hA511 => ?_)
        have by512 := by_af by503 (oa_af hob hA499) (oa_af hom hA499) hB510
        have ru515 := ru_af ru502 (ro_af hro h1 h2 hA499) (oa_af h2 hA499) hB510
        have rl513 := un_rel ru515.2
        have er514 := (hB510.2.2.2.1 (by decide)).2.trans er501
        have cn516 := cn_af cn504 (oa_af hc1 hA499) (oa_af h2 hA499) hB510
        refine tt_lstore (ks := [0, 1, 2, 3, 4, 5, 6]) (L' := [(6, .long v506), (5, .int 1), (4, .int x4), (3, .ref o3), (2, .ref o2), (1, .ref o1), (0, .ref b)]) dL_law_777 (by decide) rfl ?_
        refine tt_aload_n (j := 4) dL_law_779 rfl ?_
        refine gt_VIp (As := []) dL_law_780 ca_L_119 ⟨by decide, by decide⟩ h2 hA511 rfl (Nat.le_of_ble_eq_true rfl) (Nat.le_of_ble_eq_true rfl) (by decide) (cs_X10_thrown hG509 (oa_af h2 hA511) (fun _ _ _ _ h => h)) rfl (fun _ h => nomatch h) (fun _ _ q => q.1) (fun v518 hz519 hx520 => ?_)
        obtain rfl : v518 = 1 := (hx520.2 _ rfl).trans hx508
        refine tt_iload (j := 1) dL_law_783 rfl ?_
        refine tt_icmp_eq (tgt := 790) dL_law_785 rfl (fun _ => ?_) (fun q => absurd rfl q)
        refine tt_iload (j := 1) dL_law_790 rfl ?_
        refine tt_if_ne (tgt := 806) dL_law_792 rfl (fun _ => ?_) (fun q => absurd q (by decide))
        refine tt_goto (tgt := 809) dL_law_806 rfl ?_
        exact tt_loc (ks := [2, 3, 4, 5, 6]) rfl (hJ S505 (k - 1) (n - 6) hG509 hA511 rl513 cn516 by512 ru515 (by rw [er514]; omega) (by rw [er514]; omega))
    · skip
      exact tt_loc (ks := [0, 1, 2, 3, 4]) rfl (hJ S k n hG hA hrel hcn hby hru (by rw [er0]; omega) (by rw [er0]; omega))
set_option maxHeartbeats 4000000 in
theorem law_true {b L : Nat} {xs : Nat → Int32} (hL : L ≤ 4096) : TT (b, L, xs) M_law 0 [(0, .ref b)] [] S_0 601024 7293034 PL := by
  have hG0 : GI S_0 [] := fun a ha => nomatch ha
  refine tt_newo (k1 := 601023) (n1 := 7293029) dL_law_0 nl_L_8 (by decide) (by decide) (fun a1 ha1 => ?_)
  refine tt_dup dL_law_3 rfl ?_
  refine tt_callI (As := []) (Mid := fun r T _ _ => r = .inl none ∧ GI T [] ∧ Oa T [] 9 0 a1 ∧ (∃ b i r, hp_R T 576 a1 = some b ∧ Oa T [] 1 0 b ∧ hp_I T 65 b = 0 ∧ hp_R T 577 a1 = some i ∧ Oa T [] 3 0 i ∧ hp_R T 192 i = some b ∧ Ar [] T 64 b ∧ hp_R T 580 a1 = some r ∧ Oa T [] 6 0 r ∧ hp_R T 384 r = some b ∧ hp_R T 385 r = some i ∧ hp_I T 388 r = -1 ∧ (∃ a, Ja T 386 r a) ∧ (∃ a, Ja T 387 r a))) (k1 := 26) (n1 := 670) (k2 := 600997) (n2 := 7292359) dL_law_4 ca_L_52 ⟨by decide, by decide⟩ (Nat.le_of_ble_eq_true rfl) (Nat.le_of_ble_eq_true rfl) (by decide) (by decide) (cc_9 (gi_o hG0 ha1) in_o (fun q h => nomatch h) (fun h => nomatch h) k_o zf_o rfl (kc := 26) (nc := 670) (by decide) (by decide) (fun T u1 u2 u3 u4 => ⟨rfl, u1, u2, u4⟩)) (fun v T1 x y hw => ?_) (fun X T hw => by obtain ⟨e, -⟩ := hw; cases e)
  obtain ⟨e1, g1, g2, c1, i1, rr, r5, r6, r7, r8, r9, r10, ⟨ab, s1, -, s3, s4, s5⟩, v1, v2, v3, v4, v5, ⟨pr, v6⟩, ⟨hd, v7⟩⟩ := hw
  cases e1
  show TT (b, L, xs) M_law 7 [(0, .ref b)] [.ref a1] T1 600997 7292359 PL
  refine tt_astore_n (ks := [0, 1]) (L' := [(1, .ref a1), (0, .ref b)]) dL_law_7 (by decide) rfl ?_
  refine tt_newo (k1 := 600996) (n1 := 7292322) dL_law_8 nl_L_53 (by decide) (by decide) (fun a2 ha2 => ?_)
  refine tt_dup dL_law_11 rfl ?_
  refine tt_callI (As := []) (Mid := fun r T _ _ => r = .inl none ∧ GI T [] ∧ Oa T [] 10 0 a2 ∧ Cf a2 (nw_o T1 10 a2) T ∧ hp_I T 663 a2 = 0 ∧ hp_I T 642 a2 = 0 ∧ Ar (hp_L (nw_o T1 10 a2)) T 641 a2 ∧ hp_I T 664 a2 = -1 ∧ (∃ a, Ja T 665 a2 a) ∧ (∃ a, Ja T 666 a2 a)) (k1 := 13) (n1 := 21218) (k2 := 600983) (n2 := 7271104) dL_law_12 ca_L_55 ⟨by decide, by decide⟩ (Nat.le_of_ble_eq_true rfl) (Nat.le_of_ble_eq_true rfl) (by decide) (by decide) (cc_10 (gi_o g1 ha2) in_o (fun q h => nomatch h) (fun h => nomatch h) k_o zf_o (rl_o (rl_gi g1 (fun q h => nomatch h)) ha2) (kc := 13) (nc := 21218) (by decide) (by decide) (fun T u1 u2 u3 u4 u5 u6 u7 u8 u9 => ⟨rfl, u1, u2, u3, u5, u4, u6, u7, u8, u9⟩)) (fun v T2 x y hw => ?_) (fun X T hw => by obtain ⟨e, -⟩ := hw; cases e)
  obtain ⟨e2, g3, g4, g5, g6, g9, ⟨am, t1, t2, t3, t4, t5⟩, y1, ⟨sv, y2⟩, ⟨vl, y3⟩⟩ := hw
  cases e2
  have cn2 := cn_new ha2 g5
  show TT (b, L, xs) M_law 15 [(1, .ref a1), (0, .ref b)] [.ref a2] T2 600983 7271104 PL
  refine tt_astore_n (ks := [0, 1, 2]) (L' := [(2, .ref a2), (1, .ref a1), (0, .ref b)]) dL_law_15 (by decide) rfl ?_
  refine tt_iconst (v := 1) dL_law_16 rfl ?_
  refine gn_J (k1 := 600982) (n1 := 7271103) dL_law_17 ka_long (by decide) (len := 1) rfl (by decide) (by decide) (by decide) g3 (fun q h => nomatch h) (fun a3 T3 g7 cn3 g8 _ _ => ?_)
  refine tt_astore_n (ks := [0, 1, 2, 3]) (L' := [(3, .ref a3), (2, .ref a2), (1, .ref a1), (0, .ref b)]) dL_law_19 (by decide) rfl ?_
  refine tt_iconst (v := 0) dL_law_20 rfl ?_
  refine tt_istore (ks := [0, 1, 2, 3, 4]) (L' := [(4, .int 0), (3, .ref a3), (2, .ref a2), (1, .ref a1), (0, .ref b)]) dL_law_21 (by decide) rfl ?_
  have ox := oa_cn (oa_cn g2 cn2) cn3
  have om := oa_cn g4 cn3
  obtain ⟨l1, r1, p1⟩ := gi_R (k := 579) g7 ox 4 0
  obtain ⟨pa, r2, p2⟩ := gi_R (k := 258) g7 p1 35 200
  have hne : ab ≠ am := fun e => t2 (e ▸ l_cn s3 (cn_o ha2))
  have hrb := rl_cn (rl_cn s1 r6.1 cn2) (l_cn r6.1 cn2) cn3
  obtain ⟨ab2, q1, q2⟩ := gi_R (k := 64) g7 (oa_cn (oa_cn r6 cn2) cn3) 32 200
  obtain rfl : ab = ab2 := Option.some.inj (hrb.symm.trans q1)
  have hrm := rl_cn t1 g4.1 cn3
  obtain ⟨am2, q3, q4⟩ := gi_R (k := 641) g7 om 32 200
  obtain rfl : am = am2 := Option.some.inj (hrm.symm.trans q3)
  have hz1 : hp_i T3 ab = fun _ => 0 := (cn3.2.2.2.1 ab (l_cn s3 cn2) ((cn2.1 ab s3).2.2.trans s4)).trans ((cn2.2.2.2.1 ab s3 s4).trans s5)
  have hz2 : hp_i T3 am = fun _ => 0 := (cn3.2.2.2.1 am t3 t4).trans t5
  have hby : hp_i T3 ab = hp_i T3 am ∧ ∀ i, Rg 0 255 (hp_i T3 am i) := by_0 hz1 hz2
  have o6 := oa_cn (oa_cn v2 cn2) cn3
  have w6 := ja_cn (ja_cn v6 v2.1 cn2) (l_cn v2.1 cn2) cn3
  have w7 := ja_cn (ja_cn v7 v2.1 cn2) (l_cn v2.1 cn2) cn3
  have z2 := ja_cn y2 g4.1 cn3
  have z3 := ja_cn y3 g4.1 cn3
  have hro : RO T3 a1 rr i1 c1 hd pr a2 vl sv := ⟨rl_cn (rl_cn v1 g2.1 cn2) (l_cn g2.1 cn2) cn3, o6, rl_cn (rl_cn v3 v2.1 cn2) (l_cn v2.1 cn2) cn3, rl_cn (rl_cn v4 v2.1 cn2) (l_cn v2.1 cn2) cn3, j4_ja w6 g7 o6, j4_ja w7 g7 o6, j4_ja z2 g7 om, j4_ja z3 g7 om⟩
  have hru : RU T3 rr hd pr a2 vl sv := ⟨fun i _ => by rw [w6.2.2.2.1, z2.2.2.2.1], Or.inl ⟨((cn3.2.1 rr (l_cn v2.1 cn2)).2 388).trans (((cn2.2.1 rr v2.1).2 388).trans v5), ((cn3.2.1 a2 g4.1).2 663).trans g6, ((cn3.2.1 a2 g4.1).2 664).trans y1⟩⟩
  have hn := nl_le (hp_r T3 pa)
  have e0 : (4104 - (0 : Int32).toInt).toNat = 4104 := rfl
  exact law_loop hL hne _ 0 T3 _ _ rfl ⟨by decide, by decide⟩ g7 ox om g8 (fun q => absurd (((cn3.2.1 a2 g4.1).2 663).trans g6) q) (pa := pa) (by rw [r1]; exact r2) (((cn3.2.1 a1 (l_cn g2.1 cn2)).1 576).trans (((cn2.2.1 a1 g2.1).1 576).trans r5)) (oa_cn (oa_cn r6 cn2) cn3) ((((cn3.2.1 c1 (l_cn r6.1 cn2)).2 65).trans (((cn2.2.1 c1 r6.1).2 65).trans r7)).trans (((cn3.2.1 a2 g4.1).2 642).trans g9).symm) (rl_cn (rl_cn r8 g2.1 cn2) (l_cn g2.1 cn2) cn3) (oa_cn (oa_cn r9 cn2) cn3) (rl_cn (rl_cn r10 r9.1 cn2) (l_cn r9.1 cn2) cn3) hrb q2 hrm q4 hby hro hru (by rw [e0]; omega) (by rw [e0]; omega)
