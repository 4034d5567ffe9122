section LWH
variable {xi : SX} {M N : MD} {pc : Nat} {L : List (Nat × Value)} {rest As : List Value} {S S0 T : Hp} {i k0 n0 : Nat} {P : Po} {E ws vs : List Nat} {cz : Int32 → Prop}
theorem gt_SW (h : decode (md_c M) pc = .ok (.invokestatic i, 3)) (hcv : CTW (md_y M).cls i N As.length) (hrm : RM M N) (hA : Af E ws S0 S) (hlen : (lg_sl As).length ≤ md_L N) (hr8 : (rest.map fun v => v.category).sum ≤ 8) (hs : ∀ k ∈ vs, k ∈ ws) (hk : 1 ≤ k0) (hn : 6 ≤ n0) (kx : TT xi N 0 (lv_args 0 As) [] S 1 6 (PW E vs S cz)) (kk : ∀ (T : Hp) (z : Int32), cz z → GI T E → Af E vs S T → Af E ws S0 T → TT xi M (pc + 3) L (.int z :: rest) T (k0 - 1) (n0 - 6) P) : TT xi M pc L (As.reverse ++ rest) S k0 n0 P := by
  refine tt_callSW (k1 := 1) (n1 := 6) (k2 := k0 - 1) (n2 := n0 - 6) h hcv hrm hlen hr8 (by omega) (by omega) kx (fun v T x y hw => ?_) (fun X T hw => ?_)
  · obtain ⟨g1, g2, z, e, hz⟩ := hw
    cases e
    exact kk T z hz g1 g2 (af_tr hA g2 hs)
  · obtain ⟨g1, g2, z, e, hz⟩ := hw
    cases e
theorem gt_SX {cx : Int32 → Hp → Prop} (h : decode (md_c M) pc = .ok (.invokestatic i, 3)) (hcv : CTW (md_y M).cls i N As.length) (hrm : RM M N) (hA : Af E ws S0 S) (hlen : (lg_sl As).length ≤ md_L N) (hr8 : (rest.map fun v => v.category).sum ≤ 8) (hs : ∀ k ∈ vs, k ∈ ws) (hk : 1 ≤ k0) (hn : 6 ≤ n0) (kx : TT xi N 0 (lv_args 0 As) [] S 1 6 (PX E vs S cx)) (kk : ∀ (T : Hp) (z : Int32), cx z T → GI T E → Af E vs S T → Af E ws S0 T → TT xi M (pc + 3) L (.int z :: rest) T (k0 - 1) (n0 - 6) P) : TT xi M pc L (As.reverse ++ rest) S k0 n0 P := by
  refine tt_callSW (k1 := 1) (n1 := 6) (k2 := k0 - 1) (n2 := n0 - 6) h hcv hrm hlen hr8 (by omega) (by omega) kx (fun v T x y hw => ?_) (fun X T hw => ?_)
  · obtain ⟨g1, g2, z, e, hz⟩ := hw
    cases e
    exact kk T z hz g1 g2 (af_tr hA g2 hs)
  · obtain ⟨g1, g2, z, e, hz⟩ := hw
    cases e
theorem cn_af {c o kd n kd2 n2 : Nat} (h : hp_I S 65 c = hp_I S 642 o) (oc : Oa S E kd n c) (om : Oa S E kd2 n2 o) (hB : Af E vs S T) (h1 : 65 ∉ vs := by decide) (h2 : 642 ∉ vs := by decide) : hp_I T 65 c = hp_I T 642 o := (i_af oc hB h1).trans (h.trans (i_af om hB h2).symm)
theorem by_af {ab am : Nat} (h : hp_i S ab = hp_i S am ∧ ∀ i, Rg 0 255 (hp_i S am i)) (oa : Oa S E 32 200 ab) (om : Oa S E 32 200 am) (hB : Af E vs S T) (h1 : 9995 ∉ vs := by decide) : hp_i T ab = hp_i T am ∧ ∀ i, Rg 0 255 (hp_i T am i) := by
  rw [b_af oa hB h1, b_af om hB h1]; exact h
theorem fb_o {S0 S1 S2 : Hp} {ab am : Nat} {s1 s2 a b c d x : Int32} (hne : ab ≠ am) (w1 : Bw S0 S1 [] ab s1 (GC a b c d) x) (w2 : Bw S1 S2 [] am s2 (GR a b c d) x) (oab : Oa S1 [] 32 200 ab) (oam : Oa S0 [] 32 200 am) (es : s1 = s2) (hx : Rg 0 16 x) (h : hp_i S0 ab = hp_i S0 am ∧ ∀ i, Rg 0 255 (hp_i S0 am i)) : hp_i S2 ab = hp_i S2 am ∧ ∀ i, Rg 0 255 (hp_i S2 am i) := by
  subst es
  have hm : x.toInt.toNat ≤ 16 := by have := hx.2; omega
  rw [w2.2 ab oab hne, w1.1, w2.1, w1.2 am oam hne.symm]
  exact ⟨wb_eq h.1 hm, wb_rg h.2⟩
theorem by_0 {S1 : Hp} {ab am : Nat} (h1 : hp_i S1 ab = fun _ => 0) (h2 : hp_i S1 am = fun _ => 0) : hp_i S1 ab = hp_i S1 am ∧ ∀ i, Rg 0 255 (hp_i S1 am i) := ⟨h1.trans h2.symm, fun i => rg_cast (congrFun h2 i) (⟨by decide, by decide⟩ : Rg 0 255 0)⟩
theorem fb_n {S1 S2 : Hp} {ab am : Nat} (hq : ∀ q, Oa S1 [] 32 200 q → hp_i S2 q = hp_i S1 q) (oab : Oa S1 [] 32 200 ab) (oam : Oa S1 [] 32 200 am) (h : hp_i S1 ab = hp_i S1 am ∧ ∀ i, Rg 0 255 (hp_i S1 am i)) : hp_i S2 ab = hp_i S2 am ∧ ∀ i, Rg 0 255 (hp_i S2 am i) := by
  rw [hq ab oab, hq am oam]; exact h
theorem dc_o {t n1 n2 x w : Int32} {A : Prop} (e : n1 = n2) (hr : Rg 0 (n1.toInt - 1) x) (hs : Rg 0 5 w) (h : (t = 0 ∧ (Rg 0 (n2.toInt - 1) x ∧ Rg 0 5 w) ∧ A) ∨ (t = 1 ∧ ¬ (Rg 0 (n2.toInt - 1) x ∧ Rg 0 5 w))) : t = 0 ∧ A := by
  subst e
  rcases h with ⟨h1, -, h2⟩ | ⟨-, h⟩
  · exact ⟨h1, h2⟩
  · exact absurd ⟨hr, hs⟩ h
theorem dc_n {t n1 n2 x w : Int32} {A : Prop} (e : n1 = n2) (hr : ¬ (Rg 0 (n1.toInt - 1) x ∧ Rg 0 5 w)) (h : (t = 0 ∧ (Rg 0 (n2.toInt - 1) x ∧ Rg 0 5 w) ∧ A) ∨ (t = 1 ∧ ¬ (Rg 0 (n2.toInt - 1) x ∧ Rg 0 5 w))) : t = 1 := by
  subst e
  rcases h with ⟨-, h, -⟩ | ⟨h, -⟩
  · exact absurd h hr
  · exact h
theorem dc_q {y : Int64} {v : Int32} {f g : DD → Int32} (h1 : ∃ d, y = (f d).toInt64) (h2 : ∃ r, some (Value.int v) = some (.int (g r))) (h : ∀ d r, f d = g r) : y = v.toInt64 := by
  obtain ⟨d, e1⟩ := h1
  obtain ⟨r, e2⟩ := h2
  rw [e1, h d r, ei_w e2]
abbrev Fxl (t b1 b2 n : Int32) : Prop := (t = 1 ∧ ¬ Rg 0 16 n ∧ b2 = b1) ∨ (t = 2 ∧ Rg 0 16 n ∧ 200 < b1.toInt + n.toInt ∧ b2 = b1) ∨ (t = 0 ∧ Rg 0 16 n ∧ b1.toInt + n.toInt ≤ 200 ∧ b2.toInt = b1.toInt + n.toInt)
theorem fc_o {t a0 a1 a2 b0 b1 b2 n : Int32} (hc : a0 = b0) (hs : a0.toInt + n.toInt ≤ 200) (hr : Rg 0 16 n) (fo : a1.toInt = a0.toInt + n.toInt) (s2 : b1 = b0) (ea : a2 = a1) (hx : Fxl t b1 b2 n) : a2 = b2 ∧ t = 0 := by
  subst hc s2 ea
  rcases hx with ⟨-, h, -⟩ | ⟨-, -, h, -⟩ | ⟨h1, -, -, h⟩
  · exact absurd hr h
  · omega
  · exact ⟨Int32.toInt_inj.mp (by omega), h1⟩
theorem fc_k {t a0 a1 a2 b1 b2 n : Int32} (hc : a1 = b1) (e1 : a1 = a0) (hs : ¬ a0.toInt + n.toInt ≤ 200) (hr : Rg 0 16 n) (ea : a2 = a1) (hx : Fxl t b1 b2 n) : a2 = b2 ∧ t = 2 := by
  subst hc e1 ea
  rcases hx with ⟨-, h, -⟩ | ⟨h1, -, -, h⟩ | ⟨-, -, h, -⟩
  · exact absurd hr h
  · exact ⟨h.symm, h1⟩
  · exact absurd h hs
theorem fc_n {t a1 a2 b1 b2 n : Int32} (hc : a1 = b1) (hr : ¬ Rg 0 16 n) (ea : a2 = a1) (hx : Fxl t b1 b2 n) : a2 = b2 ∧ t = 1 := by
  subst hc ea
  rcases hx with ⟨h1, -, h⟩ | ⟨-, h, -⟩ | ⟨-, h, -⟩
  · exact ⟨h.symm, h1⟩
  · exact absurd h hr
  · exact absurd h hr
theorem fxl_n {t b1 b2 n : Int32} (h : Fxl t b1 b2 n) (ht : ¬ t = 0) : b2 = b1 := by
  rcases h with ⟨-, -, h⟩ | ⟨-, -, -, h⟩ | ⟨h, -⟩
  · exact h
  · exact h
  · exact absurd h ht
abbrev Rel (S : Hp) (o : Nat) : Prop := ¬ hp_I S 663 o = 0 → ¬ hp_I S 664 o = -1
theorem rel_af {o kd n : Nat} (h : Rel S o) (ho : Oa S E kd n o) (hA : Af E vs S T) (h1 : 663 ∉ vs := by decide) (h2 : 664 ∉ vs := by decide) : Rel T o := by
  unfold Rel
  rw [i_af ho hA h1, i_af ho hA h2]
  exact h
theorem rel_go {o kd n : Nat} (h : Rel S o) (ho : Oa S E kd n o) (hA : Af E vs S T) (h1 : 663 ∉ vs := by decide) (h2 : 9997 ∉ vs := by decide) : Rel T o := by
  intro q
  rw [i_af ho hA h1] at q
  exact he_af ho hA (h q) h2
theorem pa_af {o n pa : Nat} (hG : GI S E) (ho : Oa S E 9 n o) (hA : Af E ws S T) (h : (hp_R S 579 o).bind (fun q => hp_R S 258 q) = some pa) : (hp_R T 579 o).bind (fun q => hp_R T 258 q) = some pa := by
  obtain ⟨b, h1, h2⟩ := gi_R (k := 579) hG ho 4 0
  rw [r_af ho hA h1]
  rw [h1] at h
  exact (r_af h2 hA rfl).trans h
end LWH
theorem lw_in {L : Nat} {x : Int32} (hL : L ≤ 4096) (hx : Rg 0 4104 x) (h : ¬ Int32.ofNat L - 8 < x) : 0 ≤ x.toInt ∧ x.toInt + 8 ≤ (L : Int) := by
  obtain ⟨x1, x2⟩ := hx
  rw [Int32.lt_iff_toInt_lt] at h
  have e1 : (Int32.ofNat L).toInt = (L : Int) := by
    rw [Int32.toInt_ofNat_of_lt (by omega)]
  have e2 : (Int32.ofNat L - 8).toInt = (L : Int) - 8 := by
    rw [Int32.toInt_sub, e1, show (8 : Int32).toInt = 8 from rfl, bmod_in (by omega) (by omega)]
  rw [e2] at h
  omega
theorem sc_in {L : Nat} {x j : Int32} (h : 0 ≤ x.toInt ∧ x.toInt + 8 ≤ (L : Int)) (hL : L ≤ 4096) (h1 : 0 ≤ j.toInt := by decide) (h2 : j.toInt ≤ 7 := by decide) : vp_in (x + j) L := by
  obtain ⟨x1, x2⟩ := h
  have e : (x + j).toInt = x.toInt + j.toInt := by rw [Int32.toInt_add, bmod_in (by omega) (by omega)]
  intro q
  rcases q with q | q
  · have := Int32.lt_iff_toInt_lt.mp q
    have e0 : (0 : Int32).toInt = 0 := rfl
    omega
  · have e2 : (x + j).toNatClampNeg = (x + j).toInt.toNat := rfl
    omega
theorem sc_0 {L : Nat} {x : Int32} (h : 0 ≤ x.toInt ∧ x.toInt + 8 ≤ (L : Int)) : vp_in x L := by
  obtain ⟨x1, x2⟩ := h
  intro q
  rcases q with q | q
  · have := Int32.lt_iff_toInt_lt.mp q
    have e0 : (0 : Int32).toInt = 0 := rfl
    omega
  · have e2 : x.toNatClampNeg = x.toInt.toNat := rfl
    omega
theorem lw_up {L : Nat} {x : Int32} (h : 0 ≤ x.toInt ∧ x.toInt + 8 ≤ (L : Int)) (hL : L ≤ 4096) : (x + 8).toInt = x.toInt + 8 := by
  rw [Int32.toInt_add, show (8 : Int32).toInt = 8 from rfl, bmod_in (by omega) (by omega)]
abbrev PL : Po := fun r _ _ _ => r = .inl (some (.int 1))
set_option maxHeartbeats 8000000 in
theorem law_loop {b L : Nat} {xs : Nat → Int32} (hL : L ≤ 4096) {o1 o2 o3 pa c1 i1 ab am lk : Nat} (hne : ab ≠ am) : ∀ (nn : Nat) (x4 : Int32) (S : Hp) (k n : Nat), (4104 - x4.toInt).toNat = nn → Rg 0 4104 x4 → GI S [] → Oa S [] 9 0 o1 → Oa S [] 10 0 o2 → Oa S [] 33 1 o3 → Rel S o2 → (hp_R S 579 o1).bind (fun q => hp_R S 258 q) = some pa → hp_R S 576 o1 = some c1 → Oa S [] 1 0 c1 → hp_I S 65 c1 = hp_I S 642 o2 → hp_R S 577 o1 = some i1 → Oa S [] 3 0 i1 → hp_R S 192 i1 = some c1 → hp_R S 64 c1 = some ab → Oa S [] 32 200 ab → hp_R S 641 o2 = some am → Oa S [] 32 200 am → (hp_i S ab = hp_i S am ∧ ∀ i, Rg 0 255 (hp_i S am i)) → hp_R S 579 o1 = some lk → Oa S [] 4 0 lk → hp_R S 256 lk = some c1 → hp_R S 257 lk = some i1 → LI S o1 o2 pa → 5 * nl (hp_r S pa) + (4104 - x4.toInt).toNat ≤ k → 82 * nl (hp_r S pa) + 6 * (4104 - x4.toInt).toNat ≤ n → TT (b, L, xs) M_law 23 [(4, .int x4), (3, .ref o3), (2, .ref o2), (1, .ref o1), (0, .ref b)] [] S k n PL := by
  intro nn
  induction nn using Nat.strongRecOn with
  | ind nn ih =>
    intro x4 S k n hm hx4 hG h1 h2 h3 hrel hpa hrc hc1 hcn hri hoi hrj hrb hob hrm hom hby hlk hlo hlc hlj hli hkb hnb
    subst hm
    have hA : Af [] [65, 193, 194, 195, 196, 197, 198, 199, 200, 201, 202, 203, 204, 321, 322, 388, 389, 390, 391, 392, 393, 515, 516, 517, 640, 642, 653, 654, 655, 656, 657, 658, 659, 661, 662, 663, 664, 667, 668, 669, 670, 671, 672, 673, 674, 675, 676, 9987, 9988, 9989, 9990, 9991, 9992, 9993, 9994, 9995, 9996, 9997, 9998, 9999] S S := af_rf
    have er0 : hp_r S = hp_r S := rfl
    refine tt_iload (j := 0) dL_law_23 rfl ?_
    refine tt_aload_n (j := 4) dL_law_25 rfl ?_
    refine tt_slen (xi := (b, L, xs)) dL_law_26 ?_
    refine tt_bipush (v := 8) dL_law_27 rfl ?_
    refine tt_isub dL_law_29 ?_
    refine tt_icmp_gt (tgt := 788) dL_law_30 rfl (fun q => ?_) (fun q => ?_)
    · refine tt_iconst (v := 1) dL_law_788 rfl ?_
      exact tt_ireturn dL_law_789 .boolean rfl rfl rfl
    have hx := lw_in hL hx4 q
    have hm1 : 8 ≤ (4104 - x4.toInt).toNat := by omega
    have hJ : ∀ (T : Hp) (k9 n9 : Nat), GI T [] → Af [] [65, 193, 194, 195, 196, 197, 198, 199, 200, 201, 202, 203, 204, 321, 322, 388, 389, 390, 391, 392, 393, 515, 516, 517, 640, 642, 653, 654, 655, 656, 657, 658, 659, 661, 662, 663, 664, 667, 668, 669, 670, 671, 672, 673, 674, 675, 676, 9987, 9988, 9989, 9990, 9991, 9992, 9993, 9994, 9995, 9996, 9997, 9998, 9999] S T → Rel T o2 → hp_I T 65 c1 = hp_I T 642 o2 → (hp_i T ab = hp_i T am ∧ ∀ i, Rg 0 255 (hp_i T am i)) → LI T o1 o2 pa → 5 * nl (hp_r T pa) + (4104 - x4.toInt).toNat ≤ k9 + 1 → 82 * nl (hp_r T pa) + 6 * (4104 - x4.toInt).toNat ≤ n9 + 6 → TT (b, L, xs) M_law 782 [(4, .int x4), (3, .ref o3), (2, .ref o2), (1, .ref o1), (0, .ref b)] [] T k9 n9 PL := by
      intro T k9 n9 g1 g2 g3 g6 g7 g9 g4 g5
      have e8 := lw_up hx hL
      refine tt_iinc (j := 0) (v := (x4 + 8)) (ks := [0, 1, 2, 3, 4]) (L' := [(4, .int (x4 + 8)), (3, .ref o3), (2, .ref o2), (1, .ref o1), (0, .ref b)]) dL_law_782 rfl rfl (by decide) rfl ?_
      refine tt_goto (tgt := 23) dL_law_785 rfl ?_
      exact ih _ (by rw [e8]; omega) (x4 + 8) T k9 n9 rfl ⟨by rw [e8]; omega, by rw [e8]; omega⟩ g1 (oa_af h1 g2) (oa_af h2 g2) (oa_af h3 g2) g3 (pa_af hG h1 g2 hpa) (r_af h1 g2 hrc) (oa_af hc1 g2) g6 (r_af h1 g2 hri) (oa_af hoi g2) (r_af hoi g2 hrj) (r_af hc1 g2 hrb) (oa_af hob g2) (r_af h2 g2 hrm) (oa_af hom g2) g7 (r_af h1 g2 hlk) (oa_af hlo g2) (r_af hlo g2 hlc) (r_af hlo g2 hlj) g9 (by rw [e8]; omega) (by rw [e8]; omega)
    refine tt_aload_n (j := 4) dL_law_33 rfl ?_
    refine tt_iload (j := 0) dL_law_34 rfl ?_
    refine tt_sld (xi := (b, L, xs)) dL_law_36 (sc_0 hx) ?_
    refine tt_bipush (v := 15) dL_law_37 rfl ?_
    refine tt_iand dL_law_39 ?_
    refine gt_ts [116, 192, 205, 366, 391, 431, 459, 472, 497, 549, 633, 644, 713, 741, 754, 782] dL_law_40 (by decide) (by decide) (fa_cons ?_ (fa_cons ?_ (fa_cons ?_ (fa_cons ?_ (fa_cons ?_ (fa_cons ?_ (fa_cons ?_ (fa_cons ?_ (fa_cons ?_ (fa_cons ?_ (fa_cons ?_ (fa_cons ?_ (fa_cons ?_ (fa_cons ?_ (fa_cons ?_ (fa_cons ?_ fa_nil))))))))))))))))
    · skip
      refine tt_aload_n (j := 3) dL_law_116 rfl ?_
      refine tt_aload_n (j := 4) dL_law_117 rfl ?_
      refine tt_iload (j := 0) dL_law_118 rfl ?_
      refine tt_iconst (v := 1) dL_law_120 rfl ?_
      refine tt_iadd dL_law_121 ?_
      refine tt_sld (xi := (b, L, xs)) dL_law_122 (sc_in hx hL) ?_
      refine tt_aload_n (j := 4) dL_law_123 rfl ?_
      refine tt_iload (j := 0) dL_law_124 rfl ?_
      refine tt_iconst (v := 2) dL_law_126 rfl ?_
      refine tt_iadd dL_law_127 ?_
      refine tt_sld (xi := (b, L, xs)) dL_law_128 (sc_in hx hL) ?_
      refine tt_aload_n (j := 4) dL_law_129 rfl ?_
      refine tt_iload (j := 0) dL_law_130 rfl ?_
      refine tt_iconst (v := 3) dL_law_132 rfl ?_
      refine tt_iadd dL_law_133 ?_
      refine tt_sld (xi := (b, L, xs)) dL_law_134 (sc_in hx hL) ?_
      refine tt_aload_n (j := 4) dL_law_135 rfl ?_
      refine tt_iload (j := 0) dL_law_136 rfl ?_
      refine tt_iconst (v := 4) dL_law_138 rfl ?_
      refine tt_iadd dL_law_139 ?_
      refine tt_sld (xi := (b, L, xs)) dL_law_140 (sc_in hx hL) ?_
      refine tt_aload_n (j := 4) dL_law_141 rfl ?_
      refine tt_iload (j := 0) dL_law_142 rfl ?_
      refine tt_iconst (v := 5) dL_law_144 rfl ?_
      refine tt_iadd dL_law_145 ?_
      refine tt_sld (xi := (b, L, xs)) dL_law_146 (sc_in hx hL) ?_
      refine tt_aload_n (j := 1) dL_law_147 rfl ?_
      by_cases hr9 : Rg 0 16 (xs (x4 + 1).toNatClampNeg)
      · by_cases hs9 : (hp_I S 65 c1).toInt + (xs (x4 + 1).toNatClampNeg).toInt ≤ 200
        · skip
          refine gt_SX (As := [.ref o1, .int (xs (x4 + 1).toNatClampNeg), .int (xs (x4 + 2).toNatClampNeg), .int (xs (x4 + 3).toNatClampNeg), .int (xs (x4 + 4).toNatClampNeg), .int (xs (x4 + 5).toNatClampNeg), .ref o3]) dL_law_148 ca_L_56 ⟨by decide, by decide⟩ hA (Nat.le_of_ble_eq_true rfl) (Nat.le_of_ble_eq_true rfl) (by decide) (by omega) (by omega) (cbw_L_feed hG (oa_af h1 hA) hr9 (oa_af h3 hA) (fun c hc => by obtain rfl : c1 = c := Option.some.inj ((r_af h1 hA hrc).symm.trans hc); exact hs9) (fun _ _ _ _ h => h)) (fun S1 z2 hz3 hG4 hB5 hA6 => ?_)
          have li7 := li_af hli hG (oa_af h1 hA) (oa_af h2 hA) hB5
          have rl8 := rel_af hrel (oa_af h2 hA) hB5
          have er9 := (hB5.2.2.2.1 (by decide)).2.trans er0
          obtain ⟨hz3, hz10⟩ := hz3
          obtain ⟨fo12, fj14⟩ := hz10 c1 (r_af h1 hA hrc)
          have s213 := i_af (k := 642) (oa_af h2 hA) hB5
          obtain ⟨fj14, bw15⟩ := fj14
          have bw15 := bw15 ab (r_af hc1 hA hrb)
          obtain rfl : z2 = 0 := hz3
          refine tt_istore (ks := [0, 1, 2, 3, 4, 5]) (L' := [(5, .int 0), (4, .int x4), (3, .ref o3), (2, .ref o2), (1, .ref o1), (0, .ref b)]) dL_law_151 (by decide) rfl ?_
          refine tt_aload_n (j := 3) dL_law_153 rfl ?_
          refine tt_aload_n (j := 5) dL_law_154 rfl ?_
          refine tt_iload (j := 1) dL_law_155 rfl ?_
          refine tt_iconst (v := 1) dL_law_157 rfl ?_
          refine tt_iadd dL_law_158 ?_
          refine tt_sld (xi := (b, L, xs)) dL_law_159 (sc_in hx hL) ?_
          refine tt_aload_n (j := 5) dL_law_160 rfl ?_
          refine tt_iload (j := 1) dL_law_161 rfl ?_
          refine tt_iconst (v := 2) dL_law_163 rfl ?_
          refine tt_iadd dL_law_164 ?_
          refine tt_sld (xi := (b, L, xs)) dL_law_165 (sc_in hx hL) ?_
          refine tt_aload_n (j := 5) dL_law_166 rfl ?_
          refine tt_iload (j := 1) dL_law_167 rfl ?_
          refine tt_iconst (v := 3) dL_law_169 rfl ?_
          refine tt_iadd dL_law_170 ?_
          refine tt_sld (xi := (b, L, xs)) dL_law_171 (sc_in hx hL) ?_
          refine tt_aload_n (j := 5) dL_law_172 rfl ?_
          refine tt_iload (j := 1) dL_law_173 rfl ?_
          refine tt_iconst (v := 4) dL_law_175 rfl ?_
          refine tt_iadd dL_law_176 ?_
          refine tt_sld (xi := (b, L, xs)) dL_law_177 (sc_in hx hL) ?_
          refine tt_aload_n (j := 5) dL_law_178 rfl ?_
          refine tt_iload (j := 1) dL_law_179 rfl ?_
          refine tt_iconst (v := 5) dL_law_181 rfl ?_
          refine tt_iadd dL_law_182 ?_
          refine tt_sld (xi := (b, L, xs)) dL_law_183 (sc_in hx hL) ?_
          refine gt_VI (As := [.int (xs (x4 + 1).toNatClampNeg), .int (xs (x4 + 2).toNatClampNeg), .int (xs (x4 + 3).toNatClampNeg), .int (xs (x4 + 4).toNatClampNeg), .int (xs (x4 + 5).toNatClampNeg)]) dL_law_184 ca_L_61 ⟨by decide, by decide⟩ h2 hA6 rfl (Nat.le_of_ble_eq_true rfl) (Nat.le_of_ble_eq_true rfl) (by decide) (cb_X10_feed hG4 (oa_af h2 hA6) (r_af h2 hA6 hrm) (oa_af hom hA6) (fun _ _ _ _ h => h)) rfl (fun _ h => nomatch h) (fun S16 v17 hz18 hx19 hG20 hB21 hA22 => ?_)
          have li23 := li_af li7 hG4 (oa_af h1 hA6) (oa_af h2 hA6) hB21
          obtain ⟨hx19, bA24, bB25⟩ := hx19
          have rl28 := hx19.1 rl8
          have er29 := (hB21.2.2.2.1 (by decide)).2.trans er9
          have h630 := fc_o hcn hs9 hr9 fo12 s213 (i_af (k := 65) (oa_af hc1 hA6) hB21) hx19.2.1
          have by31 := fb_o hne bw15 (bA24 h630.2) (oa_af hob hA6) hom (hcn.trans s213.symm) hr9 hby
          refine tt_istore (ks := [0, 1, 2, 3, 4, 5, 6]) (L' := [(6, .int v17), (5, .int 0), (4, .int x4), (3, .ref o3), (2, .ref o2), (1, .ref o1), (0, .ref b)]) dL_law_187 (by decide) rfl ?_
          refine tt_goto (tgt := 782) dL_law_189 rfl ?_
          exact tt_loc (ks := [2, 3, 4, 5, 6]) rfl (hJ S16 (k - 1) (n - 6) hG20 hA22 rl28 h630.1 by31 li23 (by rw [er29]; omega) (by rw [er29]; omega))
        · skip
          refine gt_SW (As := [.ref o1, .int (xs (x4 + 1).toNatClampNeg), .int (xs (x4 + 2).toNatClampNeg), .int (xs (x4 + 3).toNatClampNeg), .int (xs (x4 + 4).toNatClampNeg), .int (xs (x4 + 5).toNatClampNeg), .ref o3]) dL_law_148 ca_L_56 ⟨by decide, by decide⟩ hA (Nat.le_of_ble_eq_true rfl) (Nat.le_of_ble_eq_true rfl) (by decide) (by omega) (by omega) (cwk_L_feed hG (oa_af h1 hA) hr9 (oa_af h3 hA) (fun c hc => by obtain rfl : c1 = c := Option.some.inj ((r_af h1 hA hrc).symm.trans hc); omega) (fun _ _ _ _ h => h)) (fun S32 z33 hz34 hG35 hB36 hA37 => ?_)
          have li38 := li_af hli hG (oa_af h1 hA) (oa_af h2 hA) hB36
          have rl39 := rel_af hrel (oa_af h2 hA) hB36
          have er40 := (hB36.2.2.2.1 (by decide)).2.trans er0
          have by41 := by_af hby (oa_af hob hA) (oa_af hom hA) hB36
          have cn42 := cn_af hcn (oa_af hc1 hA) (oa_af h2 hA) hB36
          obtain rfl : z33 = 2 := hz34
          refine tt_istore (ks := [0, 1, 2, 3, 4, 5]) (L' := [(5, .int 2), (4, .int x4), (3, .ref o3), (2, .ref o2), (1, .ref o1), (0, .ref b)]) dL_law_151 (by decide) rfl ?_
          refine tt_aload_n (j := 3) dL_law_153 rfl ?_
          refine tt_aload_n (j := 5) dL_law_154 rfl ?_
          refine tt_iload (j := 1) dL_law_155 rfl ?_
          refine tt_iconst (v := 1) dL_law_157 rfl ?_
          refine tt_iadd dL_law_158 ?_
          refine tt_sld (xi := (b, L, xs)) dL_law_159 (sc_in hx hL) ?_
          refine tt_aload_n (j := 5) dL_law_160 rfl ?_
          refine tt_iload (j := 1) dL_law_161 rfl ?_
          refine tt_iconst (v := 2) dL_law_163 rfl ?_
          refine tt_iadd dL_law_164 ?_
          refine tt_sld (xi := (b, L, xs)) dL_law_165 (sc_in hx hL) ?_
          refine tt_aload_n (j := 5) dL_law_166 rfl ?_
          refine tt_iload (j := 1) dL_law_167 rfl ?_
          refine tt_iconst (v := 3) dL_law_169 rfl ?_
          refine tt_iadd dL_law_170 ?_
          refine tt_sld (xi := (b, L, xs)) dL_law_171 (sc_in hx hL) ?_
          refine tt_aload_n (j := 5) dL_law_172 rfl ?_
          refine tt_iload (j := 1) dL_law_173 rfl ?_
          refine tt_iconst (v := 4) dL_law_175 rfl ?_
          refine tt_iadd dL_law_176 ?_
          refine tt_sld (xi := (b, L, xs)) dL_law_177 (sc_in hx hL) ?_
          refine tt_aload_n (j := 5) dL_law_178 rfl ?_
          refine tt_iload (j := 1) dL_law_179 rfl ?_
          refine tt_iconst (v := 5) dL_law_181 rfl ?_
          refine tt_iadd dL_law_182 ?_
          refine tt_sld (xi := (b, L, xs)) dL_law_183 (sc_in hx hL) ?_
          refine gt_VI (As := [.int (xs (x4 + 1).toNatClampNeg), .int (xs (x4 + 2).toNatClampNeg), .int (xs (x4 + 3).toNatClampNeg), .int (xs (x4 + 4).toNatClampNeg), .int (xs (x4 + 5).toNatClampNeg)]) dL_law_184 ca_L_61 ⟨by decide, by decide⟩ h2 hA37 rfl (Nat.le_of_ble_eq_true rfl) (Nat.le_of_ble_eq_true rfl) (by decide) (cb_X10_feed hG35 (oa_af h2 hA37) (r_af h2 hA37 hrm) (oa_af hom hA37) (fun _ _ _ _ h => h)) rfl (fun _ h => nomatch h) (fun S43 v44 hz45 hx46 hG47 hB48 hA49 => ?_)
          have li50 := li_af li38 hG35 (oa_af h1 hA37) (oa_af h2 hA37) hB48
          obtain ⟨hx46, bA51, bB52⟩ := hx46
          have rl55 := hx46.1 rl39
          have er56 := (hB48.2.2.2.1 (by decide)).2.trans er40
          have h657 := fc_k cn42 (i_af (k := 65) (oa_af hc1 hA) hB36) hs9 hr9 (i_af (k := 65) (oa_af hc1 hA37) hB48) hx46.2.1
          have by58 := fb_n (bB52 (by rw [h657.2]; decide)) (oa_af hob hA37) (oa_af hom hA37) by41
          refine tt_istore (ks := [0, 1, 2, 3, 4, 5, 6]) (L' := [(6, .int v44), (5, .int 2), (4, .int x4), (3, .ref o3), (2, .ref o2), (1, .ref o1), (0, .ref b)]) dL_law_187 (by decide) rfl ?_
          refine tt_goto (tgt := 782) dL_law_189 rfl ?_
          exact tt_loc (ks := [2, 3, 4, 5, 6]) rfl (hJ S43 (k - 1) (n - 6) hG47 hA49 rl55 h657.1 by58 li50 (by rw [er56]; omega) (by rw [er56]; omega))
      · skip
        refine gt_SW (As := [.ref o1, .int (xs (x4 + 1).toNatClampNeg), .int (xs (x4 + 2).toNatClampNeg), .int (xs (x4 + 3).toNatClampNeg), .int (xs (x4 + 4).toNatClampNeg), .int (xs (x4 + 5).toNatClampNeg), .ref o3]) dL_law_148 ca_L_56 ⟨by decide, by decide⟩ hA (Nat.le_of_ble_eq_true rfl) (Nat.le_of_ble_eq_true rfl) (by decide) (by omega) (by omega) (cwn_L_feed hG (oa_af h1 hA) (oa_af h3 hA) hr9 (fun _ _ _ _ h => h)) (fun S59 z60 hz61 hG62 hB63 hA64 => ?_)
        have li65 := li_af hli hG (oa_af h1 hA) (oa_af h2 hA) hB63
        have rl66 := rel_af hrel (oa_af h2 hA) hB63
        have er67 := (hB63.2.2.2.1 (by decide)).2.trans er0
        have by68 := by_af hby (oa_af hob hA) (oa_af hom hA) hB63
        have cn69 := cn_af hcn (oa_af hc1 hA) (oa_af h2 hA) hB63
        obtain rfl : z60 = 1 := hz61
        refine tt_istore (ks := [0, 1, 2, 3, 4, 5]) (L' := [(5, .int 1), (4, .int x4), (3, .ref o3), (2, .ref o2), (1, .ref o1), (0, .ref b)]) dL_law_151 (by decide) rfl ?_
        refine tt_aload_n (j := 3) dL_law_153 rfl ?_
        refine tt_aload_n (j := 5) dL_law_154 rfl ?_
        refine tt_iload (j := 1) dL_law_155 rfl ?_
        refine tt_iconst (v := 1) dL_law_157 rfl ?_
        refine tt_iadd dL_law_158 ?_
        refine tt_sld (xi := (b, L, xs)) dL_law_159 (sc_in hx hL) ?_
        refine tt_aload_n (j := 5) dL_law_160 rfl ?_
        refine tt_iload (j := 1) dL_law_161 rfl ?_
        refine tt_iconst (v := 2) dL_law_163 rfl ?_
        refine tt_iadd dL_law_164 ?_
        refine tt_sld (xi := (b, L, xs)) dL_law_165 (sc_in hx hL) ?_
        refine tt_aload_n (j := 5) dL_law_166 rfl ?_
        refine tt_iload (j := 1) dL_law_167 rfl ?_
        refine tt_iconst (v := 3) dL_law_169 rfl ?_
        refine tt_iadd dL_law_170 ?_
        refine tt_sld (xi := (b, L, xs)) dL_law_171 (sc_in hx hL) ?_
        refine tt_aload_n (j := 5) dL_law_172 rfl ?_
        refine tt_iload (j := 1) dL_law_173 rfl ?_
        refine tt_iconst (v := 4) dL_law_175 rfl ?_
        refine tt_iadd dL_law_176 ?_
        refine tt_sld (xi := (b, L, xs)) dL_law_177 (sc_in hx hL) ?_
        refine tt_aload_n (j := 5) dL_law_178 rfl ?_
        refine tt_iload (j := 1) dL_law_179 rfl ?_
        refine tt_iconst (v := 5) dL_law_181 rfl ?_
        refine tt_iadd dL_law_182 ?_
        refine tt_sld (xi := (b, L, xs)) dL_law_183 (sc_in hx hL) ?_
        refine gt_VI (As := [.int (xs (x4 + 1).toNatClampNeg), .int (xs (x4 + 2).toNatClampNeg), .int (xs (x4 + 3).toNatClampNeg), .int (xs (x4 + 4).toNatClampNeg), .int (xs (x4 + 5).toNatClampNeg)]) dL_law_184 ca_L_61 ⟨by decide, by decide⟩ h2 hA64 rfl (Nat.le_of_ble_eq_true rfl) (Nat.le_of_ble_eq_true rfl) (by decide) (cb_X10_feed hG62 (oa_af h2 hA64) (r_af h2 hA64 hrm) (oa_af hom hA64) (fun _ _ _ _ h => h)) rfl (fun _ h => nomatch h) (fun S70 v71 hz72 hx73 hG74 hB75 hA76 => ?_)
        have li77 := li_af li65 hG62 (oa_af h1 hA64) (oa_af h2 hA64) hB75
        obtain ⟨hx73, bA78, bB79⟩ := hx73
        have rl82 := hx73.1 rl66
        have er83 := (hB75.2.2.2.1 (by decide)).2.trans er67
        have h684 := fc_n cn69 hr9 (i_af (k := 65) (oa_af hc1 hA64) hB75) hx73.2.1
        have by85 := fb_n (bB79 (by rw [h684.2]; decide)) (oa_af hob hA64) (oa_af hom hA64) by68
        refine tt_istore (ks := [0, 1, 2, 3, 4, 5, 6]) (L' := [(6, .int v71), (5, .int 1), (4, .int x4), (3, .ref o3), (2, .ref o2), (1, .ref o1), (0, .ref b)]) dL_law_187 (by decide) rfl ?_
        refine tt_goto (tgt := 782) dL_law_189 rfl ?_
        exact tt_loc (ks := [2, 3, 4, 5, 6]) rfl (hJ S70 (k - 1) (n - 6) hG74 hA76 rl82 h684.1 by85 li77 (by rw [er83]; omega) (by rw [er83]; omega))
    · skip
      refine tt_aload_n (j := 3) dL_law_192 rfl ?_
      refine gt_VI (As := []) dL_law_193 ca_L_62 ⟨by decide, by decide⟩ h1 hA rfl (Nat.le_of_ble_eq_true rfl) (Nat.le_of_ble_eq_true rfl) (by decide) (cq_X9_erase hG (oa_af h1 hA) (fun _ _ _ _ h => h)) rfl (fun _ h => nomatch h) (fun S86 v87 hz88 hx89 hG90 hB91 hA92 => ?_)
      have li93 := li_af hli hG (oa_af h1 hA) (oa_af h2 hA) hB91
      have by94 := by_af hby (oa_af hob hA) (oa_af hom hA) hB91
      have rl95 := rel_af hrel (oa_af h2 hA) hB91
      have er96 := (hB91.2.2.2.1 (by decide)).2.trans er0
      obtain ⟨ev97, ec98⟩ := hx89 c1 (r_af h1 hA hrc)
      have e99 := ei_v _ ev97
      have s2100 := i_af (k := 642) (oa_af h2 hA) hB91
      refine tt_pop dL_law_196 rfl ?_
      refine tt_aload_n (j := 2) dL_law_197 rfl ?_
      refine gt_VI (As := []) dL_law_198 ca_L_66 ⟨by decide, by decide⟩ h2 hA92 rfl (Nat.le_of_ble_eq_true rfl) (Nat.le_of_ble_eq_true rfl) (by decide) (cq_X10_erase hG90 (oa_af h2 hA92) (fun _ _ _ _ h => h)) rfl (fun _ h => nomatch h) (fun S101 v102 hz103 hx104 hG105 hB106 hA107 => ?_)
      have li108 := li_af li93 hG90 (oa_af h1 hA92) (oa_af h2 hA92) hB106
      have by109 := by_af by94 (oa_af hob hA92) (oa_af hom hA92) hB106
      have rl110 := hx104.1 rl95
      have er111 := (hB106.2.2.2.1 (by decide)).2.trans er96
      have e112 := (e99.symm.trans (hcn.trans s2100.symm)).trans (ei_v _ hx104.2.1)
      have cn113 := ((i_af (k := 65) (oa_af hc1 hA92) hB106).trans ec98).trans hx104.2.2.symm
      refine tt_pop dL_law_201 rfl ?_
      refine tt_goto (tgt := 782) dL_law_202 rfl ?_
      exact tt_loc (ks := [0, 1, 2, 3, 4]) rfl (hJ S101 k n hG105 hA107 rl110 cn113 by109 li108 (by rw [er111]; omega) (by rw [er111]; omega))
    · skip
      refine tt_aload_n (j := 3) dL_law_205 rfl ?_
      refine tt_aload_n (j := 4) dL_law_206 rfl ?_
      refine tt_iload (j := 0) dL_law_207 rfl ?_
      refine tt_iconst (v := 1) dL_law_209 rfl ?_
      refine tt_iadd dL_law_210 ?_
      refine tt_sld (xi := (b, L, xs)) dL_law_211 (sc_in hx hL) ?_
      refine tt_aload_n (j := 4) dL_law_212 rfl ?_
      refine tt_iload (j := 0) dL_law_213 rfl ?_
      refine tt_iconst (v := 2) dL_law_215 rfl ?_
      refine tt_iadd dL_law_216 ?_
      refine tt_sld (xi := (b, L, xs)) dL_law_217 (sc_in hx hL) ?_
      refine tt_i2l dL_law_218 ?_
      refine tt_bipush (v := 32) dL_law_219 rfl ?_
      refine tt_lshl dL_law_221 ?_
      refine tt_aload_n (j := 4) dL_law_222 rfl ?_
      refine tt_iload (j := 0) dL_law_223 rfl ?_
      refine tt_iconst (v := 3) dL_law_225 rfl ?_
      refine tt_iadd dL_law_226 ?_
      refine tt_sld (xi := (b, L, xs)) dL_law_227 (sc_in hx hL) ?_
      refine tt_i2l dL_law_228 ?_
      refine tt_ldc2 (v := 4294967295) dL_law_229 kl_L_67 ?_
      refine tt_land dL_law_232 ?_
      refine tt_lor dL_law_233 ?_
      refine tt_aload_n (j := 4) dL_law_234 rfl ?_
      refine tt_iload (j := 0) dL_law_235 rfl ?_
      refine tt_iconst (v := 4) dL_law_237 rfl ?_
      refine tt_iadd dL_law_238 ?_
      refine tt_sld (xi := (b, L, xs)) dL_law_239 (sc_in hx hL) ?_
      refine tt_i2l dL_law_240 ?_
      refine tt_bipush (v := 32) dL_law_241 rfl ?_
      refine tt_lshl dL_law_243 ?_
      refine tt_aload_n (j := 4) dL_law_244 rfl ?_
      refine tt_iload (j := 0) dL_law_245 rfl ?_
      refine tt_iconst (v := 5) dL_law_247 rfl ?_
      refine tt_iadd dL_law_248 ?_
      refine tt_sld (xi := (b, L, xs)) dL_law_249 (sc_in hx hL) ?_
      refine tt_i2l dL_law_250 ?_
      refine tt_ldc2 (v := 4294967295) dL_law_251 kl_L_67 ?_
      refine tt_land dL_law_254 ?_
      refine tt_lor dL_law_255 ?_
      refine tt_aload_n (j := 4) dL_law_256 rfl ?_
      refine tt_iload (j := 0) dL_law_257 rfl ?_
      refine tt_bipush (v := 6) dL_law_259 rfl ?_
      refine tt_iadd dL_law_261 ?_
      refine tt_sld (xi := (b, L, xs)) dL_law_262 (sc_in hx hL) ?_
      refine tt_i2l dL_law_263 ?_
      refine tt_bipush (v := 32) dL_law_264 rfl ?_
      refine tt_lshl dL_law_266 ?_
      refine tt_aload_n (j := 4) dL_law_267 rfl ?_
      refine tt_iload (j := 0) dL_law_268 rfl ?_
      refine tt_bipush (v := 7) dL_law_270 rfl ?_
      refine tt_iadd dL_law_272 ?_
      refine tt_sld (xi := (b, L, xs)) dL_law_273 (sc_in hx hL) ?_
      refine tt_i2l dL_law_274 ?_
      refine tt_ldc2 (v := 4294967295) dL_law_275 kl_L_67 ?_
      refine tt_land dL_law_278 ?_
      refine tt_lor dL_law_279 ?_
      by_cases hr9 : Rg 0 23 (xs (x4 + 1).toNatClampNeg)
      · by_cases ht9 : Trip ((((xs (x4 + 2).toNatClampNeg) : Int32).toInt64 <<< ((32 : Int32).toInt64 &&& 63)) ||| (((xs (x4 + 3).toNatClampNeg) : Int32).toInt64 &&& 4294967295)) ((((xs (x4 + 4).toNatClampNeg) : Int32).toInt64 <<< ((32 : Int32).toInt64 &&& 63)) ||| (((xs (x4 + 5).toNatClampNeg) : Int32).toInt64 &&& 4294967295)) ((((xs (x4 + 6).toNatClampNeg) : Int32).toInt64 <<< ((32 : Int32).toInt64 &&& 63)) ||| (((xs (x4 + 7).toNatClampNeg) : Int32).toInt64 &&& 4294967295))
        · skip
          refine gt_SX (As := [.ref o1, .int (xs (x4 + 1).toNatClampNeg), .long ((((xs (x4 + 2).toNatClampNeg) : Int32).toInt64 <<< ((32 : Int32).toInt64 &&& 63)) ||| (((xs (x4 + 3).toNatClampNeg) : Int32).toInt64 &&& 4294967295)), .long ((((xs (x4 + 4).toNatClampNeg) : Int32).toInt64 <<< ((32 : Int32).toInt64 &&& 63)) ||| (((xs (x4 + 5).toNatClampNeg) : Int32).toInt64 &&& 4294967295)), .long ((((xs (x4 + 6).toNatClampNeg) : Int32).toInt64 <<< ((32 : Int32).toInt64 &&& 63)) ||| (((xs (x4 + 7).toNatClampNeg) : Int32).toInt64 &&& 4294967295))]) dL_law_280 ca_L_69 ⟨by decide, by decide⟩ hA (Nat.le_of_ble_eq_true rfl) (Nat.le_of_ble_eq_true rfl) (by decide) (by omega) (by omega) (cywo_L_given (rk_gi rfl hG) hG h1 hr9 ht9 (fun _ _ _ _ h => h)) (fun S114 z115 hz116 hG117 hB118 hA119 => ?_)
          obtain ⟨hz116, ek120⟩ := hz116
          have rl121 := rel_af hrel (oa_af h2 hA) hB118
          have er122 := (hB118.2.2.2.1 (by decide)).2.trans er0
          have by123 := by_af hby (oa_af hob hA) (oa_af hom hA) hB118
          have cn124 := cn_af hcn (oa_af hc1 hA) (oa_af h2 hA) hB118
          obtain rfl : z115 = 0 := hz116
          refine tt_istore (ks := [0, 1, 2, 3, 4, 5]) (L' := [(5, .int 0), (4, .int x4), (3, .ref o3), (2, .ref o2), (1, .ref o1), (0, .ref b)]) dL_law_283 (by decide) rfl ?_
          refine tt_aload_n (j := 3) dL_law_285 rfl ?_
          refine tt_aload_n (j := 5) dL_law_286 rfl ?_
          refine tt_iload (j := 1) dL_law_287 rfl ?_
          refine tt_iconst (v := 1) dL_law_289 rfl ?_
          refine tt_iadd dL_law_290 ?_
          refine tt_sld (xi := (b, L, xs)) dL_law_291 (sc_in hx hL) ?_
          refine tt_aload_n (j := 5) dL_law_292 rfl ?_
          refine tt_iload (j := 1) dL_law_293 rfl ?_
          refine tt_iconst (v := 2) dL_law_295 rfl ?_
          refine tt_iadd dL_law_296 ?_
          refine tt_sld (xi := (b, L, xs)) dL_law_297 (sc_in hx hL) ?_
          refine tt_i2l dL_law_298 ?_
          refine tt_bipush (v := 32) dL_law_299 rfl ?_
          refine tt_lshl dL_law_301 ?_
          refine tt_aload_n (j := 5) dL_law_302 rfl ?_
          refine tt_iload (j := 1) dL_law_303 rfl ?_
          refine tt_iconst (v := 3) dL_law_305 rfl ?_
          refine tt_iadd dL_law_306 ?_
          refine tt_sld (xi := (b, L, xs)) dL_law_307 (sc_in hx hL) ?_
          refine tt_i2l dL_law_308 ?_
          refine tt_ldc2 (v := 4294967295) dL_law_309 kl_L_67 ?_
          refine tt_land dL_law_312 ?_
          refine tt_lor dL_law_313 ?_
          refine tt_aload_n (j := 5) dL_law_314 rfl ?_
          refine tt_iload (j := 1) dL_law_315 rfl ?_
          refine tt_iconst (v := 4) dL_law_317 rfl ?_
          refine tt_iadd dL_law_318 ?_
          refine tt_sld (xi := (b, L, xs)) dL_law_319 (sc_in hx hL) ?_
          refine tt_i2l dL_law_320 ?_
          refine tt_bipush (v := 32) dL_law_321 rfl ?_
          refine tt_lshl dL_law_323 ?_
          refine tt_aload_n (j := 5) dL_law_324 rfl ?_
          refine tt_iload (j := 1) dL_law_325 rfl ?_
          refine tt_iconst (v := 5) dL_law_327 rfl ?_
          refine tt_iadd dL_law_328 ?_
          refine tt_sld (xi := (b, L, xs)) dL_law_329 (sc_in hx hL) ?_
          refine tt_i2l dL_law_330 ?_
          refine tt_ldc2 (v := 4294967295) dL_law_331 kl_L_67 ?_
          refine tt_land dL_law_334 ?_
          refine tt_lor dL_law_335 ?_
          refine tt_aload_n (j := 5) dL_law_336 rfl ?_
          refine tt_iload (j := 1) dL_law_337 rfl ?_
          refine tt_bipush (v := 6) dL_law_339 rfl ?_
          refine tt_iadd dL_law_341 ?_
          refine tt_sld (xi := (b, L, xs)) dL_law_342 (sc_in hx hL) ?_
          refine tt_i2l dL_law_343 ?_
          refine tt_bipush (v := 32) dL_law_344 rfl ?_
          refine tt_lshl dL_law_346 ?_
          refine tt_aload_n (j := 5) dL_law_347 rfl ?_
          refine tt_iload (j := 1) dL_law_348 rfl ?_
          refine tt_bipush (v := 7) dL_law_350 rfl ?_
          refine tt_iadd dL_law_352 ?_
          refine tt_sld (xi := (b, L, xs)) dL_law_353 (sc_in hx hL) ?_
          refine tt_i2l dL_law_354 ?_
          refine tt_ldc2 (v := 4294967295) dL_law_355 kl_L_67 ?_
          refine tt_land dL_law_358 ?_
          refine tt_lor dL_law_359 ?_
          refine gt_Vv (As := [.int (xs (x4 + 1).toNatClampNeg), .long ((((xs (x4 + 2).toNatClampNeg) : Int32).toInt64 <<< ((32 : Int32).toInt64 &&& 63)) ||| (((xs (x4 + 3).toNatClampNeg) : Int32).toInt64 &&& 4294967295)), .long ((((xs (x4 + 4).toNatClampNeg) : Int32).toInt64 <<< ((32 : Int32).toInt64 &&& 63)) ||| (((xs (x4 + 5).toNatClampNeg) : Int32).toInt64 &&& 4294967295)), .long ((((xs (x4 + 6).toNatClampNeg) : Int32).toInt64 <<< ((32 : Int32).toInt64 &&& 63)) ||| (((xs (x4 + 7).toNatClampNeg) : Int32).toInt64 &&& 4294967295))]) dL_law_360 ca_L_72 ⟨by decide, by decide⟩ h2 hA119 rfl (Nat.le_of_ble_eq_true rfl) (Nat.le_of_ble_eq_true rfl) (by decide) (cy_X10_given (rk_gi rfl hG117) hG117 (oa_af h2 hA119) (fun _ _ _ _ h => h)) rfl (fun _ h => nomatch h) (fun S125 hx128 hG129 hB130 hA131 => ?_)
          obtain ⟨-, -, -, _, a134, e133⟩ | ⟨-, hno, -⟩ := hx128
          rotate_left
          · exact absurd ⟨hr9, ht9⟩ hno
          have li132 := li_given hli hG h1 h2 hr9 ht9 hB118 ek120 hG117 hB130 a134 e133
          have by135 := by_af by123 (oa_af hob hA119) (oa_af hom hA119) hB130
          have rl136 := rel_af rl121 (oa_af h2 hA119) hB130
          have er137 := (hB130.2.2.2.1 (by decide)).2.trans er122
          have cn138 := cn_af cn124 (oa_af hc1 hA119) (oa_af h2 hA119) hB130
          refine tt_goto (tgt := 782) dL_law_363 rfl ?_
          exact tt_loc (ks := [1, 2, 3, 4, 5]) rfl (hJ S125 (k - 1) (n - 6) hG129 hA131 rl136 cn138 by135 li132 (by rw [er137]; omega) (by rw [er137]; omega))
        · skip
          refine gt_SW (As := [.ref o1, .int (xs (x4 + 1).toNatClampNeg), .long ((((xs (x4 + 2).toNatClampNeg) : Int32).toInt64 <<< ((32 : Int32).toInt64 &&& 63)) ||| (((xs (x4 + 3).toNatClampNeg) : Int32).toInt64 &&& 4294967295)), .long ((((xs (x4 + 4).toNatClampNeg) : Int32).toInt64 <<< ((32 : Int32).toInt64 &&& 63)) ||| (((xs (x4 + 5).toNatClampNeg) : Int32).toInt64 &&& 4294967295)), .long ((((xs (x4 + 6).toNatClampNeg) : Int32).toInt64 <<< ((32 : Int32).toInt64 &&& 63)) ||| (((xs (x4 + 7).toNatClampNeg) : Int32).toInt64 &&& 4294967295))]) dL_law_280 ca_L_69 ⟨by decide, by decide⟩ hA (Nat.le_of_ble_eq_true rfl) (Nat.le_of_ble_eq_true rfl) (by decide) (by omega) (by omega) (cywk_L_given hG h1 hr9 ht9 (fun _ _ _ _ h => h)) (fun S139 z140 hz141 hG142 hB143 hA144 => ?_)
          have li145 := li_af hli hG (oa_af h1 hA) (oa_af h2 hA) hB143
          have rl146 := rel_af hrel (oa_af h2 hA) hB143
          have er147 := (hB143.2.2.2.1 (by decide)).2.trans er0
          have by148 := by_af hby (oa_af hob hA) (oa_af hom hA) hB143
          have cn149 := cn_af hcn (oa_af hc1 hA) (oa_af h2 hA) hB143
          obtain rfl : z140 = 1 := hz141
          refine tt_istore (ks := [0, 1, 2, 3, 4, 5]) (L' := [(5, .int 1), (4, .int x4), (3, .ref o3), (2, .ref o2), (1, .ref o1), (0, .ref b)]) dL_law_283 (by decide) rfl ?_
          refine tt_aload_n (j := 3) dL_law_285 rfl ?_
          refine tt_aload_n (j := 5) dL_law_286 rfl ?_
          refine tt_iload (j := 1) dL_law_287 rfl ?_
          refine tt_iconst (v := 1) dL_law_289 rfl ?_
          refine tt_iadd dL_law_290 ?_
          refine tt_sld (xi := (b, L, xs)) dL_law_291 (sc_in hx hL) ?_
          refine tt_aload_n (j := 5) dL_law_292 rfl ?_
          refine tt_iload (j := 1) dL_law_293 rfl ?_
          refine tt_iconst (v := 2) dL_law_295 rfl ?_
          refine tt_iadd dL_law_296 ?_
          refine tt_sld (xi := (b, L, xs)) dL_law_297 (sc_in hx hL) ?_
          refine tt_i2l dL_law_298 ?_
          refine tt_bipush (v := 32) dL_law_299 rfl ?_
          refine tt_lshl dL_law_301 ?_
          refine tt_aload_n (j := 5) dL_law_302 rfl ?_
          refine tt_iload (j := 1) dL_law_303 rfl ?_
          refine tt_iconst (v := 3) dL_law_305 rfl ?_
          refine tt_iadd dL_law_306 ?_
          refine tt_sld (xi := (b, L, xs)) dL_law_307 (sc_in hx hL) ?_
          refine tt_i2l dL_law_308 ?_
          refine tt_ldc2 (v := 4294967295) dL_law_309 kl_L_67 ?_
          refine tt_land dL_law_312 ?_
          refine tt_lor dL_law_313 ?_
          refine tt_aload_n (j := 5) dL_law_314 rfl ?_
          refine tt_iload (j := 1) dL_law_315 rfl ?_
          refine tt_iconst (v := 4) dL_law_317 rfl ?_
          refine tt_iadd dL_law_318 ?_
          refine tt_sld (xi := (b, L, xs)) dL_law_319 (sc_in hx hL) ?_
          refine tt_i2l dL_law_320 ?_
          refine tt_bipush (v := 32) dL_law_321 rfl ?_
          refine tt_lshl dL_law_323 ?_
          refine tt_aload_n (j := 5) dL_law_324 rfl ?_
          refine tt_iload (j := 1) dL_law_325 rfl ?_
          refine tt_iconst (v := 5) dL_law_327 rfl ?_
          refine tt_iadd dL_law_328 ?_
          refine tt_sld (xi := (b, L, xs)) dL_law_329 (sc_in hx hL) ?_
          refine tt_i2l dL_law_330 ?_
          refine tt_ldc2 (v := 4294967295) dL_law_331 kl_L_67 ?_
          refine tt_land dL_law_334 ?_
          refine tt_lor dL_law_335 ?_
          refine tt_aload_n (j := 5) dL_law_336 rfl ?_
          refine tt_iload (j := 1) dL_law_337 rfl ?_
          refine tt_bipush (v := 6) dL_law_339 rfl ?_
          refine tt_iadd dL_law_341 ?_
          refine tt_sld (xi := (b, L, xs)) dL_law_342 (sc_in hx hL) ?_
          refine tt_i2l dL_law_343 ?_
          refine tt_bipush (v := 32) dL_law_344 rfl ?_
          refine tt_lshl dL_law_346 ?_
          refine tt_aload_n (j := 5) dL_law_347 rfl ?_
          refine tt_iload (j := 1) dL_law_348 rfl ?_
          refine tt_bipush (v := 7) dL_law_350 rfl ?_
          refine tt_iadd dL_law_352 ?_
          refine tt_sld (xi := (b, L, xs)) dL_law_353 (sc_in hx hL) ?_
          refine tt_i2l dL_law_354 ?_
          refine tt_ldc2 (v := 4294967295) dL_law_355 kl_L_67 ?_
          refine tt_land dL_law_358 ?_
          refine tt_lor dL_law_359 ?_
          refine gt_Vv (As := [.int (xs (x4 + 1).toNatClampNeg), .long ((((xs (x4 + 2).toNatClampNeg) : Int32).toInt64 <<< ((32 : Int32).toInt64 &&& 63)) ||| (((xs (x4 + 3).toNatClampNeg) : Int32).toInt64 &&& 4294967295)), .long ((((xs (x4 + 4).toNatClampNeg) : Int32).toInt64 <<< ((32 : Int32).toInt64 &&& 63)) ||| (((xs (x4 + 5).toNatClampNeg) : Int32).toInt64 &&& 4294967295)), .long ((((xs (x4 + 6).toNatClampNeg) : Int32).toInt64 <<< ((32 : Int32).toInt64 &&& 63)) ||| (((xs (x4 + 7).toNatClampNeg) : Int32).toInt64 &&& 4294967295))]) dL_law_360 ca_L_72 ⟨by decide, by decide⟩ h2 hA144 rfl (Nat.le_of_ble_eq_true rfl) (Nat.le_of_ble_eq_true rfl) (by decide) (cy_X10_given (rk_gi rfl hG142) hG142 (oa_af h2 hA144) (fun _ _ _ _ h => h)) rfl (fun _ h => nomatch h) (fun S150 hx153 hG154 hB155 hA156 => ?_)
          obtain ⟨-, hy1, hy2, -⟩ | ⟨-, -, a158⟩ := hx153
          · exact absurd hy2 ht9
          have li157 := li_af li145 hG142 (oa_af h1 hA144) (oa_af h2 hA144) a158
          have by159 := by_af by148 (oa_af hob hA144) (oa_af hom hA144) hB155
          have rl160 := rel_af rl146 (oa_af h2 hA144) hB155
          have er161 := (hB155.2.2.2.1 (by decide)).2.trans er147
          have cn162 := cn_af cn149 (oa_af hc1 hA144) (oa_af h2 hA144) hB155
          refine tt_goto (tgt := 782) dL_law_363 rfl ?_
          exact tt_loc (ks := [1, 2, 3, 4, 5]) rfl (hJ S150 (k - 1) (n - 6) hG154 hA156 rl160 cn162 by159 li157 (by rw [er161]; omega) (by rw [er161]; omega))
      · skip
        refine gt_SW (As := [.ref o1, .int (xs (x4 + 1).toNatClampNeg), .long ((((xs (x4 + 2).toNatClampNeg) : Int32).toInt64 <<< ((32 : Int32).toInt64 &&& 63)) ||| (((xs (x4 + 3).toNatClampNeg) : Int32).toInt64 &&& 4294967295)), .long ((((xs (x4 + 4).toNatClampNeg) : Int32).toInt64 <<< ((32 : Int32).toInt64 &&& 63)) ||| (((xs (x4 + 5).toNatClampNeg) : Int32).toInt64 &&& 4294967295)), .long ((((xs (x4 + 6).toNatClampNeg) : Int32).toInt64 <<< ((32 : Int32).toInt64 &&& 63)) ||| (((xs (x4 + 7).toNatClampNeg) : Int32).toInt64 &&& 4294967295))]) dL_law_280 ca_L_69 ⟨by decide, by decide⟩ hA (Nat.le_of_ble_eq_true rfl) (Nat.le_of_ble_eq_true rfl) (by decide) (by omega) (by omega) (cywn_L_given hG h1 hr9 (fun _ _ _ _ h => h)) (fun S163 z164 hz165 hG166 hB167 hA168 => ?_)
        have li169 := li_af hli hG (oa_af h1 hA) (oa_af h2 hA) hB167
        have rl170 := rel_af hrel (oa_af h2 hA) hB167
        have er171 := (hB167.2.2.2.1 (by decide)).2.trans er0
        have by172 := by_af hby (oa_af hob hA) (oa_af hom hA) hB167
        have cn173 := cn_af hcn (oa_af hc1 hA) (oa_af h2 hA) hB167
        obtain rfl : z164 = 1 := hz165
        refine tt_istore (ks := [0, 1, 2, 3, 4, 5]) (L' := [(5, .int 1), (4, .int x4), (3, .ref o3), (2, .ref o2), (1, .ref o1), (0, .ref b)]) dL_law_283 (by decide) rfl ?_
        refine tt_aload_n (j := 3) dL_law_285 rfl ?_
        refine tt_aload_n (j := 5) dL_law_286 rfl ?_
        refine tt_iload (j := 1) dL_law_287 rfl ?_
        refine tt_iconst (v := 1) dL_law_289 rfl ?_
        refine tt_iadd dL_law_290 ?_
        refine tt_sld (xi := (b, L, xs)) dL_law_291 (sc_in hx hL) ?_
        refine tt_aload_n (j := 5) dL_law_292 rfl ?_
        refine tt_iload (j := 1) dL_law_293 rfl ?_
        refine tt_iconst (v := 2) dL_law_295 rfl ?_
        refine tt_iadd dL_law_296 ?_
        refine tt_sld (xi := (b, L, xs)) dL_law_297 (sc_in hx hL) ?_
        refine tt_i2l dL_law_298 ?_
        refine tt_bipush (v := 32) dL_law_299 rfl ?_
        refine tt_lshl dL_law_301 ?_
        refine tt_aload_n (j := 5) dL_law_302 rfl ?_
        refine tt_iload (j := 1) dL_law_303 rfl ?_
        refine tt_iconst (v := 3) dL_law_305 rfl ?_
        refine tt_iadd dL_law_306 ?_
        refine tt_sld (xi := (b, L, xs)) dL_law_307 (sc_in hx hL) ?_
        refine tt_i2l dL_law_308 ?_
        refine tt_ldc2 (v := 4294967295) dL_law_309 kl_L_67 ?_
        refine tt_land dL_law_312 ?_
        refine tt_lor dL_law_313 ?_
        refine tt_aload_n (j := 5) dL_law_314 rfl ?_
        refine tt_iload (j := 1) dL_law_315 rfl ?_
        refine tt_iconst (v := 4) dL_law_317 rfl ?_
        refine tt_iadd dL_law_318 ?_
        refine tt_sld (xi := (b, L, xs)) dL_law_319 (sc_in hx hL) ?_
        refine tt_i2l dL_law_320 ?_
        refine tt_bipush (v := 32) dL_law_321 rfl ?_
        refine tt_lshl dL_law_323 ?_
        refine tt_aload_n (j := 5) dL_law_324 rfl ?_
        refine tt_iload (j := 1) dL_law_325 rfl ?_
        refine tt_iconst (v := 5) dL_law_327 rfl ?_
        refine tt_iadd dL_law_328 ?_
        refine tt_sld (xi := (b, L, xs)) dL_law_329 (sc_in hx hL) ?_
        refine tt_i2l dL_law_330 ?_
        refine tt_ldc2 (v := 4294967295) dL_law_331 kl_L_67 ?_
        refine tt_land dL_law_334 ?_
        refine tt_lor dL_law_335 ?_
        refine tt_aload_n (j := 5) dL_law_336 rfl ?_
        refine tt_iload (j := 1) dL_law_337 rfl ?_
        refine tt_bipush (v := 6) dL_law_339 rfl ?_
        refine tt_iadd dL_law_341 ?_
        refine tt_sld (xi := (b, L, xs)) dL_law_342 (sc_in hx hL) ?_
        refine tt_i2l dL_law_343 ?_
        refine tt_bipush (v := 32) dL_law_344 rfl ?_
        refine tt_lshl dL_law_346 ?_
        refine tt_aload_n (j := 5) dL_law_347 rfl ?_
        refine tt_iload (j := 1) dL_law_348 rfl ?_
        refine tt_bipush (v := 7) dL_law_350 rfl ?_
        refine tt_iadd dL_law_352 ?_
        refine tt_sld (xi := (b, L, xs)) dL_law_353 (sc_in hx hL) ?_
        refine tt_i2l dL_law_354 ?_
        refine tt_ldc2 (v := 4294967295) dL_law_355 kl_L_67 ?_
        refine tt_land dL_law_358 ?_
        refine tt_lor dL_law_359 ?_
        refine gt_Vv (As := [.int (xs (x4 + 1).toNatClampNeg), .long ((((xs (x4 + 2).toNatClampNeg) : Int32).toInt64 <<< ((32 : Int32).toInt64 &&& 63)) ||| (((xs (x4 + 3).toNatClampNeg) : Int32).toInt64 &&& 4294967295)), .long ((((xs (x4 + 4).toNatClampNeg) : Int32).toInt64 <<< ((32 : Int32).toInt64 &&& 63)) ||| (((xs (x4 + 5).toNatClampNeg) : Int32).toInt64 &&& 4294967295)), .long ((((xs (x4 + 6).toNatClampNeg) : Int32).toInt64 <<< ((32 : Int32).toInt64 &&& 63)) ||| (((xs (x4 + 7).toNatClampNeg) : Int32).toInt64 &&& 4294967295))]) dL_law_360 ca_L_72 ⟨by decide, by decide⟩ h2 hA168 rfl (Nat.le_of_ble_eq_true rfl) (Nat.le_of_ble_eq_true rfl) (by decide) (cy_X10_given (rk_gi rfl hG166) hG166 (oa_af h2 hA168) (fun _ _ _ _ h => h)) rfl (fun _ h => nomatch h) (fun S174 hx177 hG178 hB179 hA180 => ?_)
        obtain ⟨-, hy1, hy2, -⟩ | ⟨-, -, a182⟩ := hx177
        · exact absurd hy1 hr9
        have li181 := li_af li169 hG166 (oa_af h1 hA168) (oa_af h2 hA168) a182
        have by183 := by_af by172 (oa_af hob hA168) (oa_af hom hA168) hB179
        have rl184 := rel_af rl170 (oa_af h2 hA168) hB179
        have er185 := (hB179.2.2.2.1 (by decide)).2.trans er171
        have cn186 := cn_af cn173 (oa_af hc1 hA168) (oa_af h2 hA168) hB179
        refine tt_goto (tgt := 782) dL_law_363 rfl ?_
        exact tt_loc (ks := [1, 2, 3, 4, 5]) rfl (hJ S174 (k - 1) (n - 6) hG178 hA180 rl184 cn186 by183 li181 (by rw [er185]; omega) (by rw [er185]; omega))
    · skip
      refine tt_aload_n (j := 3) dL_law_366 rfl ?_
      refine tt_aload_n (j := 4) dL_law_367 rfl ?_
      refine tt_iload (j := 0) dL_law_368 rfl ?_
      refine tt_iconst (v := 1) dL_law_370 rfl ?_
      refine tt_iadd dL_law_371 ?_
      refine tt_sld (xi := (b, L, xs)) dL_law_372 (sc_in hx hL) ?_
      by_cases hr9 : Rg 0 23 (xs (x4 + 1).toNatClampNeg)
      · skip
        refine gt_SX (As := [.ref o1, .int (xs (x4 + 1).toNatClampNeg)]) dL_law_373 ca_L_73 ⟨by decide, by decide⟩ hA (Nat.le_of_ble_eq_true rfl) (Nat.le_of_ble_eq_true rfl) (by decide) (by omega) (by omega) (cywo_L_any (rk_gi rfl hG) hG h1 hr9 (fun _ _ _ _ h => h)) (fun S187 z188 hz189 hG190 hB191 hA192 => ?_)
        obtain ⟨hz189, ek193⟩ := hz189
        have rl194 := rel_af hrel (oa_af h2 hA) hB191
        have er195 := (hB191.2.2.2.1 (by decide)).2.trans er0
        have by196 := by_af hby (oa_af hob hA) (oa_af hom hA) hB191
        have cn197 := cn_af hcn (oa_af hc1 hA) (oa_af h2 hA) hB191
        obtain rfl : z188 = 0 := hz189
        refine tt_istore (ks := [0, 1, 2, 3, 4, 5]) (L' := [(5, .int 0), (4, .int x4), (3, .ref o3), (2, .ref o2), (1, .ref o1), (0, .ref b)]) dL_law_376 (by decide) rfl ?_
        refine tt_aload_n (j := 3) dL_law_378 rfl ?_
        refine tt_aload_n (j := 5) dL_law_379 rfl ?_
        refine tt_iload (j := 1) dL_law_380 rfl ?_
        refine tt_iconst (v := 1) dL_law_382 rfl ?_
        refine tt_iadd dL_law_383 ?_
        refine tt_sld (xi := (b, L, xs)) dL_law_384 (sc_in hx hL) ?_
        refine gt_Vv (As := [.int (xs (x4 + 1).toNatClampNeg)]) dL_law_385 ca_L_76 ⟨by decide, by decide⟩ h2 hA192 rfl (Nat.le_of_ble_eq_true rfl) (Nat.le_of_ble_eq_true rfl) (by decide) (cyo_X10_any (rk_gi rfl hG190) hG190 (oa_af h2 hA192) hr9 (fun _ _ _ _ h => h)) rfl (fun _ h => nomatch h) (fun S198 hx201 hG202 hB203 hA204 => ?_)
        obtain ⟨-, _, a207, e206⟩ := hx201
        have li205 := li_any hli hG h1 h2 hr9 hB191 ek193 hG190 hB203 a207 e206
        have by208 := by_af by196 (oa_af hob hA192) (oa_af hom hA192) hB203
        have rl209 := rel_af rl194 (oa_af h2 hA192) hB203
        have er210 := (hB203.2.2.2.1 (by decide)).2.trans er195
        have cn211 := cn_af cn197 (oa_af hc1 hA192) (oa_af h2 hA192) hB203
        refine tt_goto (tgt := 782) dL_law_388 rfl ?_
        exact tt_loc (ks := [1, 2, 3, 4, 5]) rfl (hJ S198 (k - 1) (n - 6) hG202 hA204 rl209 cn211 by208 li205 (by rw [er210]; omega) (by rw [er210]; omega))
      · skip
        refine gt_SW (As := [.ref o1, .int (xs (x4 + 1).toNatClampNeg)]) dL_law_373 ca_L_73 ⟨by decide, by decide⟩ hA (Nat.le_of_ble_eq_true rfl) (Nat.le_of_ble_eq_true rfl) (by decide) (by omega) (by omega) (cywn_L_any hG h1 hr9 (fun _ _ _ _ h => h)) (fun S212 z213 hz214 hG215 hB216 hA217 => ?_)
        have li218 := li_af hli hG (oa_af h1 hA) (oa_af h2 hA) hB216
        have rl219 := rel_af hrel (oa_af h2 hA) hB216
        have er220 := (hB216.2.2.2.1 (by decide)).2.trans er0
        have by221 := by_af hby (oa_af hob hA) (oa_af hom hA) hB216
        have cn222 := cn_af hcn (oa_af hc1 hA) (oa_af h2 hA) hB216
        obtain rfl : z213 = 1 := hz214
        refine tt_istore (ks := [0, 1, 2, 3, 4, 5]) (L' := [(5, .int 1), (4, .int x4), (3, .ref o3), (2, .ref o2), (1, .ref o1), (0, .ref b)]) dL_law_376 (by decide) rfl ?_
        refine tt_aload_n (j := 3) dL_law_378 rfl ?_
        refine tt_aload_n (j := 5) dL_law_379 rfl ?_
        refine tt_iload (j := 1) dL_law_380 rfl ?_
        refine tt_iconst (v := 1) dL_law_382 rfl ?_
        refine tt_iadd dL_law_383 ?_
        refine tt_sld (xi := (b, L, xs)) dL_law_384 (sc_in hx hL) ?_
        refine gt_Vv (As := [.int (xs (x4 + 1).toNatClampNeg)]) dL_law_385 ca_L_76 ⟨by decide, by decide⟩ h2 hA217 rfl (Nat.le_of_ble_eq_true rfl) (Nat.le_of_ble_eq_true rfl) (by decide) (cyn_X10_any hG215 (oa_af h2 hA217) hr9 (fun _ _ _ _ h => h)) rfl (fun _ h => nomatch h) (fun S223 hx226 hG227 hB228 hA229 => ?_)
        have li230 := li_af li218 hG215 (oa_af h1 hA217) (oa_af h2 hA217) hB228
        have by231 := by_af by221 (oa_af hob hA217) (oa_af hom hA217) hB228
        have rl232 := rel_af rl219 (oa_af h2 hA217) hB228
        have er233 := (hB228.2.2.2.1 (by decide)).2.trans er220
        have cn234 := cn_af cn222 (oa_af hc1 hA217) (oa_af h2 hA217) hB228
        refine tt_goto (tgt := 782) dL_law_388 rfl ?_
        exact tt_loc (ks := [1, 2, 3, 4, 5]) rfl (hJ S223 (k - 1) (n - 6) hG227 hA229 rl232 cn234 by231 li230 (by rw [er233]; omega) (by rw [er233]; omega))
    · skip
      refine tt_aload_n (j := 3) dL_law_391 rfl ?_
      refine tt_aload_n (j := 4) dL_law_392 rfl ?_
      refine tt_iload (j := 0) dL_law_393 rfl ?_
      refine tt_iconst (v := 1) dL_law_395 rfl ?_
      refine tt_iadd dL_law_396 ?_
      refine tt_sld (xi := (b, L, xs)) dL_law_397 (sc_in hx hL) ?_
      refine tt_aload_n (j := 4) dL_law_398 rfl ?_
      refine tt_iload (j := 0) dL_law_399 rfl ?_
      refine tt_iconst (v := 2) dL_law_401 rfl ?_
      refine tt_iadd dL_law_402 ?_
      refine tt_sld (xi := (b, L, xs)) dL_law_403 (sc_in hx hL) ?_
      refine tt_aload_n (j := 1) dL_law_404 rfl ?_
      refine gt_SW (As := [.ref o1, .int (xs (x4 + 1).toNatClampNeg), .int (xs (x4 + 2).toNatClampNeg), .ref o3]) dL_law_405 ca_L_77 ⟨by decide, by decide⟩ hA (Nat.le_of_ble_eq_true rfl) (Nat.le_of_ble_eq_true rfl) (by decide) (by omega) (by omega) (cw_L_decode hG (oa_af h1 hA) (oa_af h3 hA) (fun _ _ _ _ h => h)) (fun S235 z236 hz237 hG238 hB239 hA240 => ?_)
      have li241 := li_af hli hG (oa_af h1 hA) (oa_af h2 hA) hB239
      have rl242 := rel_af hrel (oa_af h2 hA) hB239
      have er243 := (hB239.2.2.2.1 (by decide)).2.trans er0
      have by244 := by_af hby (oa_af hob hA) (oa_af hom hA) hB239
      have cn245 := cn_af hcn (oa_af hc1 hA) (oa_af h2 hA) hB239
      refine tt_istore (ks := [0, 1, 2, 3, 4, 5]) (L' := [(5, .int z236), (4, .int x4), (3, .ref o3), (2, .ref o2), (1, .ref o1), (0, .ref b)]) dL_law_408 (by decide) rfl ?_
      refine tt_aload_n (j := 3) dL_law_410 rfl ?_
      refine tt_aload_n (j := 5) dL_law_411 rfl ?_
      refine tt_iload (j := 1) dL_law_412 rfl ?_
      refine tt_iconst (v := 1) dL_law_414 rfl ?_
      refine tt_iadd dL_law_415 ?_
      refine tt_sld (xi := (b, L, xs)) dL_law_416 (sc_in hx hL) ?_
      refine tt_aload_n (j := 5) dL_law_417 rfl ?_
      refine tt_iload (j := 1) dL_law_418 rfl ?_
      refine tt_iconst (v := 2) dL_law_420 rfl ?_
      refine tt_iadd dL_law_421 ?_
      refine tt_sld (xi := (b, L, xs)) dL_law_422 (sc_in hx hL) ?_
      refine gt_VI (As := [.int (xs (x4 + 1).toNatClampNeg), .int (xs (x4 + 2).toNatClampNeg)]) dL_law_423 ca_L_80 ⟨by decide, by decide⟩ h2 hA240 rfl (Nat.le_of_ble_eq_true rfl) (Nat.le_of_ble_eq_true rfl) (by decide) (cs_X10_decode hG238 (oa_af h2 hA240) (fun _ _ _ _ h => h)) rfl (fun _ h => nomatch h) (fun S246 v247 hz248 hx249 hG250 hB251 hA252 => ?_)
      have li253 := li_af li241 hG238 (oa_af h1 hA240) (oa_af h2 hA240) hB251
      have by254 := by_af by244 (oa_af hob hA240) (oa_af hom hA240) hB251
      have rl255 := rel_af rl242 (oa_af h2 hA240) hB251
      have er256 := (hB251.2.2.2.1 (by decide)).2.trans er243
      have cn257 := cn_af cn245 (oa_af hc1 hA240) (oa_af h2 hA240) hB251
      refine tt_istore (ks := [0, 1, 2, 3, 4, 5, 6]) (L' := [(6, .int v247), (5, .int z236), (4, .int x4), (3, .ref o3), (2, .ref o2), (1, .ref o1), (0, .ref b)]) dL_law_426 (by decide) rfl ?_
      refine tt_goto (tgt := 782) dL_law_428 rfl ?_
      exact tt_loc (ks := [2, 3, 4, 5, 6]) rfl (hJ S246 (k - 1) (n - 6) hG250 hA252 rl255 cn257 by254 li253 (by rw [er256]; omega) (by rw [er256]; omega))
    · skip
      refine tt_aload_n (j := 3) dL_law_431 rfl ?_
      refine tt_aload_n (j := 4) dL_law_432 rfl ?_
      refine tt_iload (j := 0) dL_law_433 rfl ?_
      refine tt_iconst (v := 1) dL_law_435 rfl ?_
      refine tt_iadd dL_law_436 ?_
      refine tt_sld (xi := (b, L, xs)) dL_law_437 (sc_in hx hL) ?_
      refine tt_aload_n (j := 1) dL_law_438 rfl ?_
      refine gt_SW (As := [.ref o1, .int (xs (x4 + 1).toNatClampNeg), .ref o3]) dL_law_439 ca_L_81 ⟨by decide, by decide⟩ hA (Nat.le_of_ble_eq_true rfl) (Nat.le_of_ble_eq_true rfl) (by decide) (by omega) (by omega) (cw_L_constant hG (oa_af h1 hA) (oa_af h3 hA) (fun _ _ _ _ h => h)) (fun S258 z259 hz260 hG261 hB262 hA263 => ?_)
      have li264 := li_af hli hG (oa_af h1 hA) (oa_af h2 hA) hB262
      have rl265 := rel_af hrel (oa_af h2 hA) hB262
      have er266 := (hB262.2.2.2.1 (by decide)).2.trans er0
      have by267 := by_af hby (oa_af hob hA) (oa_af hom hA) hB262
      have cn268 := cn_af hcn (oa_af hc1 hA) (oa_af h2 hA) hB262
      refine tt_istore (ks := [0, 1, 2, 3, 4, 5]) (L' := [(5, .int z259), (4, .int x4), (3, .ref o3), (2, .ref o2), (1, .ref o1), (0, .ref b)]) dL_law_442 (by decide) rfl ?_
      refine tt_aload_n (j := 3) dL_law_444 rfl ?_
      refine tt_aload_n (j := 5) dL_law_445 rfl ?_
      refine tt_iload (j := 1) dL_law_446 rfl ?_
      refine tt_iconst (v := 1) dL_law_448 rfl ?_
      refine tt_iadd dL_law_449 ?_
      refine tt_sld (xi := (b, L, xs)) dL_law_450 (sc_in hx hL) ?_
      refine gt_VJ (As := [.int (xs (x4 + 1).toNatClampNeg)]) dL_law_451 ca_L_84 ⟨by decide, by decide⟩ h2 hA263 rfl (Nat.le_of_ble_eq_true rfl) (Nat.le_of_ble_eq_true rfl) (by decide) (cs_X10_constant hG261 (oa_af h2 hA263) (fun _ _ _ _ h => h)) rfl (fun _ h => nomatch h) (fun S269 v270 hx272 hG273 hB274 hA275 => ?_)
      have li276 := li_af li264 hG261 (oa_af h1 hA263) (oa_af h2 hA263) hB274
      have by277 := by_af by267 (oa_af hob hA263) (oa_af hom hA263) hB274
      have rl278 := rel_af rl265 (oa_af h2 hA263) hB274
      have er279 := (hB274.2.2.2.1 (by decide)).2.trans er266
      have cn280 := cn_af cn268 (oa_af hc1 hA263) (oa_af h2 hA263) hB274
      refine tt_lstore (ks := [0, 1, 2, 3, 4, 5, 6]) (L' := [(6, .long v270), (5, .int z259), (4, .int x4), (3, .ref o3), (2, .ref o2), (1, .ref o1), (0, .ref b)]) dL_law_454 (by decide) rfl ?_
      refine tt_goto (tgt := 782) dL_law_456 rfl ?_
      exact tt_loc (ks := [2, 3, 4, 5, 6]) rfl (hJ S269 (k - 1) (n - 6) hG273 hA275 rl278 cn280 by277 li276 (by rw [er279]; omega) (by rw [er279]; omega))
    · skip
      refine tt_aload_n (j := 3) dL_law_459 rfl ?_
      obtain ⟨t9, ht9⟩ := ctb_any hli.1 hli.2.1
      refine gt_BI (pa := pa) (As := []) dL_law_460 ca_L_85 ⟨by decide, by decide⟩ h1 hA rfl (Nat.le_of_ble_eq_true rfl) (Nat.le_of_ble_eq_true rfl) (by decide) (ck_look (n := hp_I S 65 c1) (bs := hp_i S ab) (f := sT S (RR S 578 o1)) (r := sC S (RR S 578 o1)) rfl hG h1 hlk (by have h9 := hpa; rw [hlk] at h9; exact h9) (by omega) (by omega) ht9 (by rw [rr_R hlc]) (by rw [rr_R hlj]; exact ⟨c1, ab, hrj, hc1, hrb, hob, rfl, rfl⟩) (fun i => by rw [hby.1]; exact hby.2 i) (fun _ _ => rfl) rfl (fun _ _ _ _ h => h)) rfl (fun S281 v282 k288 n289 hz283 hx284 hG285 hB286 hA287 bd290 => ?_)
      have rl291 := rel_af hrel (oa_af h2 hA) hB286
      have er292 : hp_r S281 = hp_r S281 := rfl
      have cn293 := cn_af hcn (oa_af hc1 hA) (oa_af h2 hA) hB286
      have by294 := by_af hby (oa_af hob hA) (oa_af hom hA) hB286
      refine tt_aload_n (j := 2) dL_law_463 rfl ?_
      refine gt_VI (As := []) dL_law_464 ca_L_88 ⟨by decide, by decide⟩ h2 hA287 rfl (Nat.le_of_ble_eq_true rfl) (Nat.le_of_ble_eq_true rfl) (by decide) (cg_look (n := hp_I S 65 c1) (bs := hp_i S ab) (f := sT S (RR S 578 o1)) (r := sC S (RR S 578 o1)) hG285 (oa_af h2 hA287) (rk_gi rfl hG285) (d4_uq (csp_uq hx284) (rk_gi rfl hG285) (oa_af h2 hA287)) (d9_uq (csp_uq hx284) (rk_gi rfl hG285) (oa_af h2 hA287)) (d8_uq (csp_uq hx284) (rk_gi rfl hG285) (oa_af h2 hA287)) (br_af (bs := hp_i S ab) (n := hp_I S 65 c1) ⟨am, hrm, hom, hby.1.symm, hcn.symm⟩ h2 hB286) (fun i => by rw [hby.1]; exact hby.2 i) (li_en hli hG h1 h2 hB286).1 (li_en hli hG h1 h2 hB286).2 (fun _ _ _ _ h => h)) rfl (fun _ h => nomatch h) (fun S295 v296 hz297 hx298 hG299 hB300 hA301 => ?_)
      obtain ⟨ev302, li303⟩ := li_look hli hG h1 h2 hB286 hx284 hG285 hB300 hx298
      have by304 := by_af by294 (oa_af hob hA287) (oa_af hom hA287) hB300
      have rl305 := rel_af rl291 (oa_af h2 hA287) hB300
      have er306 := (hB300.2.2.2.1 (by decide)).2.trans er292
      have cn307 := cn_af cn293 (oa_af hc1 hA287) (oa_af h2 hA287) hB300
      refine tt_icmp_eq (tgt := 782) dL_law_467 rfl (fun _ => ?_) (fun q => absurd ev302 q)
      exact tt_loc (ks := [0, 1, 2, 3, 4]) rfl (hJ S295 k288 n289 hG299 hA301 rl305 cn307 by304 li303 (by have q1 := bd290.1; have q2 := bd290.2; rw [er306]; omega) (by have q1 := bd290.1; have q2 := bd290.2; rw [er306]; omega))
    · skip
      refine tt_aload_n (j := 3) dL_law_472 rfl ?_
      refine tt_aload_n (j := 4) dL_law_473 rfl ?_
      refine tt_iload (j := 0) dL_law_474 rfl ?_
      refine tt_iconst (v := 1) dL_law_476 rfl ?_
      refine tt_iadd dL_law_477 ?_
      refine tt_sld (xi := (b, L, xs)) dL_law_478 (sc_in hx hL) ?_
      refine gt_VIp (As := [.int (xs (x4 + 1).toNatClampNeg)]) dL_law_479 ca_L_89 ⟨by decide, by decide⟩ h1 hA rfl (Nat.le_of_ble_eq_true rfl) (Nat.le_of_ble_eq_true rfl) (by decide) (cs_X9_reached hG (oa_af h1 hA) (fun _ _ _ _ h => h)) rfl (fun _ h => nomatch h) (fun _ _ q => q) (fun v309 hz310 hx311 => ?_)
      refine tt_pop dL_law_482 rfl ?_
      refine tt_aload_n (j := 2) dL_law_483 rfl ?_
      refine tt_aload_n (j := 4) dL_law_484 rfl ?_
      refine tt_iload (j := 0) dL_law_485 rfl ?_
      refine tt_iconst (v := 1) dL_law_487 rfl ?_
      refine tt_iadd dL_law_488 ?_
      refine tt_sld (xi := (b, L, xs)) dL_law_489 (sc_in hx hL) ?_
      refine gt_VI (As := [.int (xs (x4 + 1).toNatClampNeg)]) dL_law_490 ca_L_92 ⟨by decide, by decide⟩ h2 hA rfl (Nat.le_of_ble_eq_true rfl) (Nat.le_of_ble_eq_true rfl) (by decide) (cs_X10_reached hG (oa_af h2 hA) (fun _ _ _ _ h => h)) rfl (fun _ h => nomatch h) (fun S315 v316 hz317 hx318 hG319 hB320 hA321 => ?_)
      have li322 := li_af hli hG (oa_af h1 hA) (oa_af h2 hA) hB320
      have by323 := by_af hby (oa_af hob hA) (oa_af hom hA) hB320
      have rl324 := rel_af hrel (oa_af h2 hA) hB320
      have er325 := (hB320.2.2.2.1 (by decide)).2.trans er0
      have cn326 := cn_af hcn (oa_af hc1 hA) (oa_af h2 hA) hB320
      refine tt_pop dL_law_493 rfl ?_
      refine tt_goto (tgt := 782) dL_law_494 rfl ?_
      exact tt_loc (ks := [0, 1, 2, 3, 4]) rfl (hJ S315 k n hG319 hA321 rl324 cn326 by323 li322 (by rw [er325]; omega) (by rw [er325]; omega))
    · skip
      refine tt_aload_n (j := 3) dL_law_497 rfl ?_
      refine tt_aload_n (j := 4) dL_law_498 rfl ?_
      refine tt_iload (j := 0) dL_law_499 rfl ?_
      refine tt_iconst (v := 1) dL_law_501 rfl ?_
      refine tt_iadd dL_law_502 ?_
      refine tt_sld (xi := (b, L, xs)) dL_law_503 (sc_in hx hL) ?_
      refine tt_aload_n (j := 4) dL_law_504 rfl ?_
      refine tt_iload (j := 0) dL_law_505 rfl ?_
      refine tt_iconst (v := 2) dL_law_507 rfl ?_
      refine tt_iadd dL_law_508 ?_
      refine tt_sld (xi := (b, L, xs)) dL_law_509 (sc_in hx hL) ?_
      refine tt_aload_n (j := 4) dL_law_510 rfl ?_
      refine tt_iload (j := 0) dL_law_511 rfl ?_
      refine tt_iconst (v := 3) dL_law_513 rfl ?_
      refine tt_iadd dL_law_514 ?_
      refine tt_sld (xi := (b, L, xs)) dL_law_515 (sc_in hx hL) ?_
      refine tt_aload_n (j := 1) dL_law_516 rfl ?_
      refine gt_SW (As := [.ref o1, .int (xs (x4 + 1).toNatClampNeg), .int (xs (x4 + 2).toNatClampNeg), .int (xs (x4 + 3).toNatClampNeg), .ref o3]) dL_law_517 ca_L_93 ⟨by decide, by decide⟩ hA (Nat.le_of_ble_eq_true rfl) (Nat.le_of_ble_eq_true rfl) (by decide) (by omega) (by omega) (cw_L_set hG (oa_af h1 hA) (oa_af h3 hA) (fun _ _ _ _ h => h)) (fun S327 z328 hz329 hG330 hB331 hA332 => ?_)
      have li333 := li_af hli hG (oa_af h1 hA) (oa_af h2 hA) hB331
      have rl334 := rel_af hrel (oa_af h2 hA) hB331
      have er335 := (hB331.2.2.2.1 (by decide)).2.trans er0
      have by336 := by_af hby (oa_af hob hA) (oa_af hom hA) hB331
      have cn337 := cn_af hcn (oa_af hc1 hA) (oa_af h2 hA) hB331
      refine tt_istore (ks := [0, 1, 2, 3, 4, 5]) (L' := [(5, .int z328), (4, .int x4), (3, .ref o3), (2, .ref o2), (1, .ref o1), (0, .ref b)]) dL_law_520 (by decide) rfl ?_
      refine tt_aload_n (j := 3) dL_law_522 rfl ?_
      refine tt_aload_n (j := 5) dL_law_523 rfl ?_
      refine tt_iload (j := 1) dL_law_524 rfl ?_
      refine tt_iconst (v := 1) dL_law_526 rfl ?_
      refine tt_iadd dL_law_527 ?_
      refine tt_sld (xi := (b, L, xs)) dL_law_528 (sc_in hx hL) ?_
      refine tt_aload_n (j := 5) dL_law_529 rfl ?_
      refine tt_iload (j := 1) dL_law_530 rfl ?_
      refine tt_iconst (v := 2) dL_law_532 rfl ?_
      refine tt_iadd dL_law_533 ?_
      refine tt_sld (xi := (b, L, xs)) dL_law_534 (sc_in hx hL) ?_
      refine tt_aload_n (j := 5) dL_law_535 rfl ?_
      refine tt_iload (j := 1) dL_law_536 rfl ?_
      refine tt_iconst (v := 3) dL_law_538 rfl ?_
      refine tt_iadd dL_law_539 ?_
      refine tt_sld (xi := (b, L, xs)) dL_law_540 (sc_in hx hL) ?_
      refine gt_VJ (As := [.int (xs (x4 + 1).toNatClampNeg), .int (xs (x4 + 2).toNatClampNeg), .int (xs (x4 + 3).toNatClampNeg)]) dL_law_541 ca_L_96 ⟨by decide, by decide⟩ h2 hA332 rfl (Nat.le_of_ble_eq_true rfl) (Nat.le_of_ble_eq_true rfl) (by decide) (cs_X10_set hG330 (oa_af h2 hA332) (fun _ _ _ _ h => h)) rfl (fun _ h => nomatch h) (fun S338 v339 hx341 hG342 hB343 hA344 => ?_)
      have li345 := li_af li333 hG330 (oa_af h1 hA332) (oa_af h2 hA332) hB343
      have by346 := by_af by336 (oa_af hob hA332) (oa_af hom hA332) hB343
      have rl347 := rel_af rl334 (oa_af h2 hA332) hB343
      have er348 := (hB343.2.2.2.1 (by decide)).2.trans er335
      have cn349 := cn_af cn337 (oa_af hc1 hA332) (oa_af h2 hA332) hB343
      refine tt_lstore (ks := [0, 1, 2, 3, 4, 5, 6]) (L' := [(6, .long v339), (5, .int z328), (4, .int x4), (3, .ref o3), (2, .ref o2), (1, .ref o1), (0, .ref b)]) dL_law_544 (by decide) rfl ?_
      refine tt_goto (tgt := 782) dL_law_546 rfl ?_
      exact tt_loc (ks := [2, 3, 4, 5, 6]) rfl (hJ S338 (k - 1) (n - 6) hG342 hA344 rl347 cn349 by346 li345 (by rw [er348]; omega) (by rw [er348]; omega))
    · skip
      refine tt_aload_n (j := 3) dL_law_549 rfl ?_
      refine tt_aload_n (j := 4) dL_law_550 rfl ?_
      refine tt_iload (j := 0) dL_law_551 rfl ?_
      refine tt_iconst (v := 1) dL_law_553 rfl ?_
      refine tt_iadd dL_law_554 ?_
      refine tt_sld (xi := (b, L, xs)) dL_law_555 (sc_in hx hL) ?_
      refine tt_aload_n (j := 4) dL_law_556 rfl ?_
      refine tt_iload (j := 0) dL_law_557 rfl ?_
      refine tt_iconst (v := 2) dL_law_559 rfl ?_
      refine tt_iadd dL_law_560 ?_
      refine tt_sld (xi := (b, L, xs)) dL_law_561 (sc_in hx hL) ?_
      refine tt_aload_n (j := 4) dL_law_562 rfl ?_
      refine tt_iload (j := 0) dL_law_563 rfl ?_
      refine tt_iconst (v := 3) dL_law_565 rfl ?_
      refine tt_iadd dL_law_566 ?_
      refine tt_sld (xi := (b, L, xs)) dL_law_567 (sc_in hx hL) ?_
      refine tt_i2l dL_law_568 ?_
      refine tt_bipush (v := 32) dL_law_569 rfl ?_
      refine tt_lshl dL_law_571 ?_
      refine tt_aload_n (j := 4) dL_law_572 rfl ?_
      refine tt_iload (j := 0) dL_law_573 rfl ?_
      refine tt_iconst (v := 4) dL_law_575 rfl ?_
      refine tt_iadd dL_law_576 ?_
      refine tt_sld (xi := (b, L, xs)) dL_law_577 (sc_in hx hL) ?_
      refine tt_i2l dL_law_578 ?_
      refine tt_ldc2 (v := 4294967295) dL_law_579 kl_L_67 ?_
      refine tt_land dL_law_582 ?_
      refine tt_lor dL_law_583 ?_
      refine tt_aload_n (j := 1) dL_law_584 rfl ?_
      refine gt_SW (As := [.ref o1, .int (xs (x4 + 1).toNatClampNeg), .int (xs (x4 + 2).toNatClampNeg), .long ((((xs (x4 + 3).toNatClampNeg) : Int32).toInt64 <<< ((32 : Int32).toInt64 &&& 63)) ||| (((xs (x4 + 4).toNatClampNeg) : Int32).toInt64 &&& 4294967295)), .ref o3]) dL_law_585 ca_L_97 ⟨by decide, by decide⟩ hA (Nat.le_of_ble_eq_true rfl) (Nat.le_of_ble_eq_true rfl) (by decide) (by omega) (by omega) (cw_L_has hG (oa_af h1 hA) (oa_af h3 hA) (fun _ _ _ _ h => h)) (fun S350 z351 hz352 hG353 hB354 hA355 => ?_)
      have li356 := li_af hli hG (oa_af h1 hA) (oa_af h2 hA) hB354
      have rl357 := rel_af hrel (oa_af h2 hA) hB354
      have er358 := (hB354.2.2.2.1 (by decide)).2.trans er0
      have by359 := by_af hby (oa_af hob hA) (oa_af hom hA) hB354
      have cn360 := cn_af hcn (oa_af hc1 hA) (oa_af h2 hA) hB354
      refine tt_istore (ks := [0, 1, 2, 3, 4, 5]) (L' := [(5, .int z351), (4, .int x4), (3, .ref o3), (2, .ref o2), (1, .ref o1), (0, .ref b)]) dL_law_588 (by decide) rfl ?_
      refine tt_aload_n (j := 3) dL_law_590 rfl ?_
      refine tt_aload_n (j := 5) dL_law_591 rfl ?_
      refine tt_iload (j := 1) dL_law_592 rfl ?_
      refine tt_iconst (v := 1) dL_law_594 rfl ?_
      refine tt_iadd dL_law_595 ?_
      refine tt_sld (xi := (b, L, xs)) dL_law_596 (sc_in hx hL) ?_
      refine tt_aload_n (j := 5) dL_law_597 rfl ?_
      refine tt_iload (j := 1) dL_law_598 rfl ?_
      refine tt_iconst (v := 2) dL_law_600 rfl ?_
      refine tt_iadd dL_law_601 ?_
      refine tt_sld (xi := (b, L, xs)) dL_law_602 (sc_in hx hL) ?_
      refine tt_aload_n (j := 5) dL_law_603 rfl ?_
      refine tt_iload (j := 1) dL_law_604 rfl ?_
      refine tt_iconst (v := 3) dL_law_606 rfl ?_
      refine tt_iadd dL_law_607 ?_
      refine tt_sld (xi := (b, L, xs)) dL_law_608 (sc_in hx hL) ?_
      refine tt_i2l dL_law_609 ?_
      refine tt_bipush (v := 32) dL_law_610 rfl ?_
      refine tt_lshl dL_law_612 ?_
      refine tt_aload_n (j := 5) dL_law_613 rfl ?_
      refine tt_iload (j := 1) dL_law_614 rfl ?_
      refine tt_iconst (v := 4) dL_law_616 rfl ?_
      refine tt_iadd dL_law_617 ?_
      refine tt_sld (xi := (b, L, xs)) dL_law_618 (sc_in hx hL) ?_
      refine tt_i2l dL_law_619 ?_
      refine tt_ldc2 (v := 4294967295) dL_law_620 kl_L_67 ?_
      refine tt_land dL_law_623 ?_
      refine tt_lor dL_law_624 ?_
      refine gt_VI (As := [.int (xs (x4 + 1).toNatClampNeg), .int (xs (x4 + 2).toNatClampNeg), .long ((((xs (x4 + 3).toNatClampNeg) : Int32).toInt64 <<< ((32 : Int32).toInt64 &&& 63)) ||| (((xs (x4 + 4).toNatClampNeg) : Int32).toInt64 &&& 4294967295))]) dL_law_625 ca_L_100 ⟨by decide, by decide⟩ h2 hA355 rfl (Nat.le_of_ble_eq_true rfl) (Nat.le_of_ble_eq_true rfl) (by decide) (cs_X10_has hG353 (oa_af h2 hA355) (fun _ _ _ _ h => h)) rfl (fun _ h => nomatch h) (fun S361 v362 hz363 hx364 hG365 hB366 hA367 => ?_)
      have li368 := li_af li356 hG353 (oa_af h1 hA355) (oa_af h2 hA355) hB366
      have by369 := by_af by359 (oa_af hob hA355) (oa_af hom hA355) hB366
      have rl370 := rel_af rl357 (oa_af h2 hA355) hB366
      have er371 := (hB366.2.2.2.1 (by decide)).2.trans er358
      have cn372 := cn_af cn360 (oa_af hc1 hA355) (oa_af h2 hA355) hB366
      refine tt_istore (ks := [0, 1, 2, 3, 4, 5, 6]) (L' := [(6, .int v362), (5, .int z351), (4, .int x4), (3, .ref o3), (2, .ref o2), (1, .ref o1), (0, .ref b)]) dL_law_628 (by decide) rfl ?_
      refine tt_goto (tgt := 782) dL_law_630 rfl ?_
      exact tt_loc (ks := [2, 3, 4, 5, 6]) rfl (hJ S361 (k - 1) (n - 6) hG365 hA367 rl370 cn372 by369 li368 (by rw [er371]; omega) (by rw [er371]; omega))
    · skip
      refine tt_aload_n (j := 3) dL_law_633 rfl ?_
      refine gt_Vv (As := []) dL_law_634 ca_L_101 ⟨by decide, by decide⟩ h1 hA rfl (Nat.le_of_ble_eq_true rfl) (Nat.le_of_ble_eq_true rfl) (by decide) (cs_X9_start hG (oa_af h1 hA) (fun _ _ _ _ h => h)) rfl (fun _ h => nomatch h) (fun S373 hx376 hG377 hB378 hA379 => ?_)
      have li380 := li_af hli hG (oa_af h1 hA) (oa_af h2 hA) hB378
      have by381 := by_af hby (oa_af hob hA) (oa_af hom hA) hB378
      have rl382 := rel_af hrel (oa_af h2 hA) hB378
      have er383 := (hB378.2.2.2.1 (by decide)).2.trans er0
      have cn384 := cn_af hcn (oa_af hc1 hA) (oa_af h2 hA) hB378
      refine tt_aload_n (j := 2) dL_law_637 rfl ?_
      refine gt_Vv (As := []) dL_law_638 ca_L_104 ⟨by decide, by decide⟩ h2 hA379 rfl (Nat.le_of_ble_eq_true rfl) (Nat.le_of_ble_eq_true rfl) (by decide) (cs_X10_start hG377 (oa_af h2 hA379) (fun _ _ _ _ h => h)) rfl (fun _ h => nomatch h) (fun S385 hx388 hG389 hB390 hA391 => ?_)
      have li392 := li_af li380 hG377 (oa_af h1 hA379) (oa_af h2 hA379) hB390
      have by393 := by_af by381 (oa_af hob hA379) (oa_af hom hA379) hB390
      have rl394 := hx388 rl382
      have er395 := (hB390.2.2.2.1 (by decide)).2.trans er383
      have cn396 := cn_af cn384 (oa_af hc1 hA379) (oa_af h2 hA379) hB390
      refine tt_goto (tgt := 782) dL_law_641 rfl ?_
      exact tt_loc (ks := [0, 1, 2, 3, 4]) rfl (hJ S385 k n hG389 hA391 rl394 cn396 by393 li392 (by rw [er395]; omega) (by rw [er395]; omega))
    · skip
      refine tt_aload_n (j := 3) dL_law_644 rfl ?_
      refine tt_aload_n (j := 4) dL_law_645 rfl ?_
      refine tt_iload (j := 0) dL_law_646 rfl ?_
      refine tt_iconst (v := 1) dL_law_648 rfl ?_
      refine tt_iadd dL_law_649 ?_
      refine tt_sld (xi := (b, L, xs)) dL_law_650 (sc_in hx hL) ?_
      refine tt_aload_n (j := 4) dL_law_651 rfl ?_
      refine tt_iload (j := 0) dL_law_652 rfl ?_
      refine tt_iconst (v := 2) dL_law_654 rfl ?_
      refine tt_iadd dL_law_655 ?_
      refine tt_sld (xi := (b, L, xs)) dL_law_656 (sc_in hx hL) ?_
      refine tt_i2l dL_law_657 ?_
      refine tt_bipush (v := 32) dL_law_658 rfl ?_
      refine tt_lshl dL_law_660 ?_
      refine tt_aload_n (j := 4) dL_law_661 rfl ?_
      refine tt_iload (j := 0) dL_law_662 rfl ?_
      refine tt_iconst (v := 3) dL_law_664 rfl ?_
      refine tt_iadd dL_law_665 ?_
      refine tt_sld (xi := (b, L, xs)) dL_law_666 (sc_in hx hL) ?_
      refine tt_i2l dL_law_667 ?_
      refine tt_ldc2 (v := 4294967295) dL_law_668 kl_L_67 ?_
      refine tt_land dL_law_671 ?_
      refine tt_lor dL_law_672 ?_
      refine gt_SW (As := [.ref o1, .int (xs (x4 + 1).toNatClampNeg), .long ((((xs (x4 + 2).toNatClampNeg) : Int32).toInt64 <<< ((32 : Int32).toInt64 &&& 63)) ||| (((xs (x4 + 3).toNatClampNeg) : Int32).toInt64 &&& 4294967295))]) dL_law_673 ca_L_105 ⟨by decide, by decide⟩ hA (Nat.le_of_ble_eq_true rfl) (Nat.le_of_ble_eq_true rfl) (by decide) (by omega) (by omega) (cw_L_put hG (oa_af h1 hA) (fun _ _ _ _ h => h)) (fun S397 z398 hz399 hG400 hB401 hA402 => ?_)
      have li403 := li_af hli hG (oa_af h1 hA) (oa_af h2 hA) hB401
      have rl404 := rel_af hrel (oa_af h2 hA) hB401
      have er405 := (hB401.2.2.2.1 (by decide)).2.trans er0
      have by406 := by_af hby (oa_af hob hA) (oa_af hom hA) hB401
      have cn407 := cn_af hcn (oa_af hc1 hA) (oa_af h2 hA) hB401
      refine tt_istore (ks := [0, 1, 2, 3, 4, 5]) (L' := [(5, .int z398), (4, .int x4), (3, .ref o3), (2, .ref o2), (1, .ref o1), (0, .ref b)]) dL_law_676 (by decide) rfl ?_
      refine tt_aload_n (j := 3) dL_law_678 rfl ?_
      refine tt_aload_n (j := 5) dL_law_679 rfl ?_
      refine tt_iload (j := 1) dL_law_680 rfl ?_
      refine tt_iconst (v := 1) dL_law_682 rfl ?_
      refine tt_iadd dL_law_683 ?_
      refine tt_sld (xi := (b, L, xs)) dL_law_684 (sc_in hx hL) ?_
      refine tt_aload_n (j := 5) dL_law_685 rfl ?_
      refine tt_iload (j := 1) dL_law_686 rfl ?_
      refine tt_iconst (v := 2) dL_law_688 rfl ?_
      refine tt_iadd dL_law_689 ?_
      refine tt_sld (xi := (b, L, xs)) dL_law_690 (sc_in hx hL) ?_
      refine tt_i2l dL_law_691 ?_
      refine tt_bipush (v := 32) dL_law_692 rfl ?_
      refine tt_lshl dL_law_694 ?_
      refine tt_aload_n (j := 5) dL_law_695 rfl ?_
      refine tt_iload (j := 1) dL_law_696 rfl ?_
      refine tt_iconst (v := 3) dL_law_698 rfl ?_
      refine tt_iadd dL_law_699 ?_
      refine tt_sld (xi := (b, L, xs)) dL_law_700 (sc_in hx hL) ?_
      refine tt_i2l dL_law_701 ?_
      refine tt_ldc2 (v := 4294967295) dL_law_702 kl_L_67 ?_
      refine tt_land dL_law_705 ?_
      refine tt_lor dL_law_706 ?_
      refine gt_Vv (As := [.int (xs (x4 + 1).toNatClampNeg), .long ((((xs (x4 + 2).toNatClampNeg) : Int32).toInt64 <<< ((32 : Int32).toInt64 &&& 63)) ||| (((xs (x4 + 3).toNatClampNeg) : Int32).toInt64 &&& 4294967295))]) dL_law_707 ca_L_108 ⟨by decide, by decide⟩ h2 hA402 rfl (Nat.le_of_ble_eq_true rfl) (Nat.le_of_ble_eq_true rfl) (by decide) (cs_X10_put hG400 (oa_af h2 hA402) (fun _ _ _ _ h => h)) rfl (fun _ h => nomatch h) (fun S408 hx411 hG412 hB413 hA414 => ?_)
      have li415 := li_af li403 hG400 (oa_af h1 hA402) (oa_af h2 hA402) hB413
      have by416 := by_af by406 (oa_af hob hA402) (oa_af hom hA402) hB413
      have rl417 := rel_af rl404 (oa_af h2 hA402) hB413
      have er418 := (hB413.2.2.2.1 (by decide)).2.trans er405
      have cn419 := cn_af cn407 (oa_af hc1 hA402) (oa_af h2 hA402) hB413
      refine tt_goto (tgt := 782) dL_law_710 rfl ?_
      exact tt_loc (ks := [1, 2, 3, 4, 5]) rfl (hJ S408 (k - 1) (n - 6) hG412 hA414 rl417 cn419 by416 li415 (by rw [er418]; omega) (by rw [er418]; omega))
    · skip
      refine tt_aload_n (j := 3) dL_law_713 rfl ?_
      refine tt_aload_n (j := 4) dL_law_714 rfl ?_
      refine tt_iload (j := 0) dL_law_715 rfl ?_
      refine tt_iconst (v := 1) dL_law_717 rfl ?_
      refine tt_iadd dL_law_718 ?_
      refine tt_sld (xi := (b, L, xs)) dL_law_719 (sc_in hx hL) ?_
      refine tt_aload_n (j := 1) dL_law_720 rfl ?_
      refine gt_SW (As := [.ref o1, .int (xs (x4 + 1).toNatClampNeg), .ref o3]) dL_law_721 ca_L_109 ⟨by decide, by decide⟩ hA (Nat.le_of_ble_eq_true rfl) (Nat.le_of_ble_eq_true rfl) (by decide) (by omega) (by omega) (cw_L_go hG (oa_af h1 hA) (oa_af h3 hA) (fun _ _ _ _ h => h)) (fun S420 z421 hz422 hG423 hB424 hA425 => ?_)
      have li426 := li_af hli hG (oa_af h1 hA) (oa_af h2 hA) hB424
      have rl427 := rel_af hrel (oa_af h2 hA) hB424
      have er428 := (hB424.2.2.2.1 (by decide)).2.trans er0
      have by429 := by_af hby (oa_af hob hA) (oa_af hom hA) hB424
      have cn430 := cn_af hcn (oa_af hc1 hA) (oa_af h2 hA) hB424
      refine tt_istore (ks := [0, 1, 2, 3, 4, 5]) (L' := [(5, .int z421), (4, .int x4), (3, .ref o3), (2, .ref o2), (1, .ref o1), (0, .ref b)]) dL_law_724 (by decide) rfl ?_
      refine tt_aload_n (j := 3) dL_law_726 rfl ?_
      refine tt_aload_n (j := 5) dL_law_727 rfl ?_
      refine tt_iload (j := 1) dL_law_728 rfl ?_
      refine tt_iconst (v := 1) dL_law_730 rfl ?_
      refine tt_iadd dL_law_731 ?_
      refine tt_sld (xi := (b, L, xs)) dL_law_732 (sc_in hx hL) ?_
      refine gt_VI (As := [.int (xs (x4 + 1).toNatClampNeg)]) dL_law_733 ca_L_111 ⟨by decide, by decide⟩ h2 hA425 rfl (Nat.le_of_ble_eq_true rfl) (Nat.le_of_ble_eq_true rfl) (by decide) (cs_X10_go hG423 (oa_af h2 hA425) rl427 (fun _ _ _ _ h => h)) rfl (fun _ h => nomatch h) (fun S431 v432 hz433 hx434 hG435 hB436 hA437 => ?_)
      have li438 := li_af li426 hG423 (oa_af h1 hA425) (oa_af h2 hA425) hB436
      have by439 := by_af by429 (oa_af hob hA425) (oa_af hom hA425) hB436
      have rl440 := rel_go rl427 (oa_af h2 hA425) hB436
      have er441 := (hB436.2.2.2.1 (by decide)).2.trans er428
      have cn442 := cn_af cn430 (oa_af hc1 hA425) (oa_af h2 hA425) hB436
      refine tt_istore (ks := [0, 1, 2, 3, 4, 5, 6]) (L' := [(6, .int v432), (5, .int z421), (4, .int x4), (3, .ref o3), (2, .ref o2), (1, .ref o1), (0, .ref b)]) dL_law_736 (by decide) rfl ?_
      refine tt_goto (tgt := 782) dL_law_738 rfl ?_
      exact tt_loc (ks := [2, 3, 4, 5, 6]) rfl (hJ S431 (k - 1) (n - 6) hG435 hA437 rl440 cn442 by439 li438 (by rw [er441]; omega) (by rw [er441]; omega))
    · skip
      refine tt_aload_n (j := 3) dL_law_741 rfl ?_
      refine gt_VIp (As := []) dL_law_742 ca_L_112 ⟨by decide, by decide⟩ h1 hA rfl (Nat.le_of_ble_eq_true rfl) (Nat.le_of_ble_eq_true rfl) (by decide) (cs_X9_at hG (oa_af h1 hA) (fun _ _ _ _ h => h)) rfl (fun _ h => nomatch h) (fun _ _ q => q) (fun v444 hz445 hx446 => ?_)
      refine tt_pop dL_law_745 rfl ?_
      refine tt_aload_n (j := 2) dL_law_746 rfl ?_
      refine gt_VI (As := []) dL_law_747 ca_L_115 ⟨by decide, by decide⟩ h2 hA rfl (Nat.le_of_ble_eq_true rfl) (Nat.le_of_ble_eq_true rfl) (by decide) (cs_X10_at hG (oa_af h2 hA) (fun _ _ _ _ h => h)) rfl (fun _ h => nomatch h) (fun S450 v451 hz452 hx453 hG454 hB455 hA456 => ?_)
      have li457 := li_af hli hG (oa_af h1 hA) (oa_af h2 hA) hB455
      have by458 := by_af hby (oa_af hob hA) (oa_af hom hA) hB455
      have rl459 := rel_af hrel (oa_af h2 hA) hB455
      have er460 := (hB455.2.2.2.1 (by decide)).2.trans er0
      have cn461 := cn_af hcn (oa_af hc1 hA) (oa_af h2 hA) hB455
      refine tt_pop dL_law_750 rfl ?_
      refine tt_goto (tgt := 782) dL_law_751 rfl ?_
      exact tt_loc (ks := [0, 1, 2, 3, 4]) rfl (hJ S450 k n hG454 hA456 rl459 cn461 by458 li457 (by rw [er460]; omega) (by rw [er460]; omega))
    · skip
      refine tt_aload_n (j := 3) dL_law_754 rfl ?_
      refine tt_aload_n (j := 4) dL_law_755 rfl ?_
      refine tt_iload (j := 0) dL_law_756 rfl ?_
      refine tt_iconst (v := 1) dL_law_758 rfl ?_
      refine tt_iadd dL_law_759 ?_
      refine tt_sld (xi := (b, L, xs)) dL_law_760 (sc_in hx hL) ?_
      refine tt_aload_n (j := 1) dL_law_761 rfl ?_
      refine gt_SW (As := [.ref o1, .int (xs (x4 + 1).toNatClampNeg), .ref o3]) dL_law_762 ca_L_116 ⟨by decide, by decide⟩ hA (Nat.le_of_ble_eq_true rfl) (Nat.le_of_ble_eq_true rfl) (by decide) (by omega) (by omega) (cw_L_value hG (oa_af h1 hA) (oa_af h3 hA) (fun _ _ _ _ h => h)) (fun S462 z463 hz464 hG465 hB466 hA467 => ?_)
      have li468 := li_af hli hG (oa_af h1 hA) (oa_af h2 hA) hB466
      have rl469 := rel_af hrel (oa_af h2 hA) hB466
      have er470 := (hB466.2.2.2.1 (by decide)).2.trans er0
      have by471 := by_af hby (oa_af hob hA) (oa_af hom hA) hB466
      have cn472 := cn_af hcn (oa_af hc1 hA) (oa_af h2 hA) hB466
      refine tt_istore (ks := [0, 1, 2, 3, 4, 5]) (L' := [(5, .int z463), (4, .int x4), (3, .ref o3), (2, .ref o2), (1, .ref o1), (0, .ref b)]) dL_law_765 (by decide) rfl ?_
      refine tt_aload_n (j := 3) dL_law_767 rfl ?_
      refine tt_aload_n (j := 5) dL_law_768 rfl ?_
      refine tt_iload (j := 1) dL_law_769 rfl ?_
      refine tt_iconst (v := 1) dL_law_771 rfl ?_
      refine tt_iadd dL_law_772 ?_
      refine tt_sld (xi := (b, L, xs)) dL_law_773 (sc_in hx hL) ?_
      refine gt_VJ (As := [.int (xs (x4 + 1).toNatClampNeg)]) dL_law_774 ca_L_118 ⟨by decide, by decide⟩ h2 hA467 rfl (Nat.le_of_ble_eq_true rfl) (Nat.le_of_ble_eq_true rfl) (by decide) (cs_X10_value hG465 (oa_af h2 hA467) (fun _ _ _ _ h => h)) rfl (fun _ h => nomatch h) (fun S473 v474 hx476 hG477 hB478 hA479 => ?_)
      have li480 := li_af li468 hG465 (oa_af h1 hA467) (oa_af h2 hA467) hB478
      have by481 := by_af by471 (oa_af hob hA467) (oa_af hom hA467) hB478
      have rl482 := rel_af rl469 (oa_af h2 hA467) hB478
      have er483 := (hB478.2.2.2.1 (by decide)).2.trans er470
      have cn484 := cn_af cn472 (oa_af hc1 hA467) (oa_af h2 hA467) hB478
      refine tt_lstore (ks := [0, 1, 2, 3, 4, 5, 6]) (L' := [(6, .long v474), (5, .int z463), (4, .int x4), (3, .ref o3), (2, .ref o2), (1, .ref o1), (0, .ref b)]) dL_law_777 (by decide) rfl ?_
      refine tt_goto (tgt := 782) dL_law_779 rfl ?_
      exact tt_loc (ks := [2, 3, 4, 5, 6]) rfl (hJ S473 (k - 1) (n - 6) hG477 hA479 rl482 cn484 by481 li480 (by rw [er483]; omega) (by rw [er483]; omega))
    · skip
      exact tt_loc (ks := [0, 1, 2, 3, 4]) rfl (hJ S k n hG hA hrel hcn hby hli (by rw [er0]; omega) (by rw [er0]; omega))
set_option maxHeartbeats 4000000 in
theorem law_true {b L : Nat} {xs : Nat → Int32} (hL : L ≤ 4096) : TT (b, L, xs) M_law 0 [(0, .ref b)] [] S_0 601024 7293034 PL := by
  have hG0 : GI S_0 [] := fun a ha => nomatch ha
  refine tt_newo (k1 := 601023) (n1 := 7293029) dL_law_0 nl_L_8 (by decide) (by decide) (fun a1 ha1 => ?_)
  refine tt_dup dL_law_3 rfl ?_
  refine tt_callI (As := []) (Mid := fun r T _ _ => r = .inl none ∧ GI T [] ∧ Oa T [] 9 0 a1 ∧ Cf a1 (nw_o S_0 9 a1) T ∧ (∃ b i r, hp_R T 576 a1 = some b ∧ Oa T [] 1 0 b ∧ hp_I T 65 b = 0 ∧ hp_R T 577 a1 = some i ∧ Oa T [] 3 0 i ∧ hp_R T 192 i = some b ∧ Ar [] T 64 b ∧ hp_R T 580 a1 = some r ∧ Oa T [] 6 0 r ∧ hp_R T 384 r = some b ∧ hp_R T 385 r = some i ∧ hp_I T 388 r = -1 ∧ (∃ a, Ja T 386 r a) ∧ (∃ a, Ja T 387 r a)) ∧ (∃ en lk b i, hp_R T 578 a1 = some en ∧ S8 T en ∧ hp_R T 579 a1 = some lk ∧ LkF T lk b i ∧ hp_R T 576 a1 = some b ∧ hp_R T 577 a1 = some i)) (k1 := 26) (n1 := 670) (k2 := 600997) (n2 := 7292359) dL_law_4 ca_L_52 ⟨by decide, by decide⟩ (Nat.le_of_ble_eq_true rfl) (Nat.le_of_ble_eq_true rfl) (by decide) (by decide) (cd_9 (gi_o hG0 ha1) in_o (fun q h => nomatch h) (fun h => nomatch h) k_o zf_o rfl (kc := 26) (nc := 670) (by decide) (by decide) (fun T u1 u2 u3 u4 u5 => ⟨rfl, u1, u2, u3, u4, u5⟩)) (fun v T1 x y hw => ?_) (fun X T hw => by obtain ⟨e, -⟩ := hw; cases e)
  obtain ⟨e1, g1, g2, gC, ⟨c1, i1, rr, r5, r6, r7, r8, r9, r10, ⟨ab, s1, -, s3, s4, s5⟩, -⟩, en, lk, c2, i2, w1, w2, w3, w4, w5, w6⟩ := hw
  cases e1
  obtain rfl : c1 = c2 := Option.some.inj (r5.symm.trans w5)
  obtain rfl : i1 = i2 := Option.some.inj (r8.symm.trans w6)
  have U1 : UQ T1 := gC.2.2.2.2.2.2.2.1 (uq_o uq_0 ha1)
  show TT (b, L, xs) M_law 7 [(0, .ref b)] [.ref a1] T1 600997 7292359 PL
  refine tt_astore_n (ks := [0, 1]) (L' := [(1, .ref a1), (0, .ref b)]) dL_law_7 (by decide) rfl ?_
  refine tt_newo (k1 := 600996) (n1 := 7292322) dL_law_8 nl_L_53 (by decide) (by decide) (fun a2 ha2 => ?_)
  refine tt_dup dL_law_11 rfl ?_
  refine tt_callI (As := []) (Mid := fun r T _ _ => r = .inl none ∧ GI T [] ∧ Oa T [] 10 0 a2 ∧ Cf a2 (nw_o T1 10 a2) T ∧ hp_I T 663 a2 = 0 ∧ hp_I T 642 a2 = 0 ∧ Ar (hp_L (nw_o T1 10 a2)) T 641 a2 ∧ (∃ a b, hp_R T 643 a2 = some a ∧ (∀ i, i < 24 → hp_i T a (4880 + i) = 2) ∧ hp_R T 647 a2 = some b ∧ Az T b)) (k1 := 13) (n1 := 21218) (k2 := 600983) (n2 := 7271104) dL_law_12 ca_L_55 ⟨by decide, by decide⟩ (Nat.le_of_ble_eq_true rfl) (Nat.le_of_ble_eq_true rfl) (by decide) (by decide) (cd_10 (gi_o g1 ha2) in_o (fun q h => nomatch h) (fun h => nomatch h) k_o zf_o (rl_o (rl_gi g1 (fun q h => nomatch h)) ha2) (kc := 13) (nc := 21218) (by decide) (by decide) (fun T u1 u2 u3 u4 u5 u6 u7 u8 u9 u10 => ⟨rfl, u1, u2, u3, u5, u4, u6, u10⟩)) (fun v T2 x y hw => ?_) (fun X T hw => by obtain ⟨e, -⟩ := hw; cases e)
  obtain ⟨e2, g3, g4, g5, g6, g9, ⟨am, t1, t2, t3, t4, t5⟩, ca, cg, x1, x2, x3, x4⟩ := hw
  cases e2
  have cn2 := cn_new ha2 g5
  have U2 : UQ T2 := cn2.2.2.2.2.2.2.1 U1
  show TT (b, L, xs) M_law 15 [(1, .ref a1), (0, .ref b)] [.ref a2] T2 600983 7271104 PL
  refine tt_astore_n (ks := [0, 1, 2]) (L' := [(2, .ref a2), (1, .ref a1), (0, .ref b)]) dL_law_15 (by decide) rfl ?_
  refine tt_iconst (v := 1) dL_law_16 rfl ?_
  refine gn_J (k1 := 600982) (n1 := 7271103) dL_law_17 ka_long (by decide) (len := 1) rfl (by decide) (by decide) (by decide) g3 (fun q h => nomatch h) (fun a3 T3 g7 cn3 g8 _ _ => ?_)
  have U3 : UQ T3 := cn3.2.2.2.2.2.2.1 U2
  refine tt_astore_n (ks := [0, 1, 2, 3]) (L' := [(3, .ref a3), (2, .ref a2), (1, .ref a1), (0, .ref b)]) dL_law_19 (by decide) rfl ?_
  refine tt_iconst (v := 0) dL_law_20 rfl ?_
  refine tt_istore (ks := [0, 1, 2, 3, 4]) (L' := [(4, .int 0), (3, .ref a3), (2, .ref a2), (1, .ref a1), (0, .ref b)]) dL_law_21 (by decide) rfl ?_
  have ox := oa_cn (oa_cn g2 cn2) cn3
  have om := oa_cn g4 cn3
  have hne : ab ≠ am := fun e => t2 (e ▸ l_cn s3 (cn_o ha2))
  have hrb := rl_cn (rl_cn s1 r6.1 cn2) (l_cn r6.1 cn2) cn3
  obtain ⟨ab2, q1, q2⟩ := gi_R (k := 64) g7 (oa_cn (oa_cn r6 cn2) cn3) 32 200
  obtain rfl : ab = ab2 := Option.some.inj (hrb.symm.trans q1)
  have hrm := rl_cn t1 g4.1 cn3
  obtain ⟨am2, q3, q4⟩ := gi_R (k := 641) g7 om 32 200
  obtain rfl : am = am2 := Option.some.inj (hrm.symm.trans q3)
  have hz1 : hp_i T3 ab = fun _ => 0 := (cn3.2.2.2.1 ab (l_cn s3 cn2) ((cn2.1 ab s3).2.2.trans s4)).trans ((cn2.2.2.2.1 ab s3 s4).trans s5)
  have hz2 : hp_i T3 am = fun _ => 0 := (cn3.2.2.2.1 am t3 t4).trans t5
  have hby : hp_i T3 ab = hp_i T3 am ∧ ∀ i, Rg 0 255 (hp_i T3 am i) := by_0 hz1 hz2
  obtain ⟨ll, lf1, lf2, pa, lf3, lf4⟩ := lf_cn (lf_cn w4 cn2) cn3
  have l3 := rl_cn (rl_cn w3 g2.1 cn2) (l_cn g2.1 cn2) cn3
  obtain ⟨lk2, l4, l5⟩ := gi_R (k := 579) g7 ox 4 0
  obtain rfl : lk2 = lk := Option.some.inj (l4.symm.trans l3)
  have oca : ca ∈ hp_L T2 ∧ hp_N T2 ca = 4940 := by
    obtain ⟨q5, q6, q7⟩ := gi_R (k := 643) g3 g4 32 4940
    obtain rfl : q5 = ca := Option.some.inj (q6.symm.trans x1)
    exact ⟨q7.1, q7.2.2.2 (by decide)⟩
  have eca : hp_i T3 ca = hp_i T2 ca := (cn3.2.2.2.2.2.1.2.1 (fun z => nomatch z) ca oca.1 oca.2).1
  have hli : LI T3 a1 a2 pa := li_start U3 (rl_cn (rl_cn w1 g2.1 cn2) (l_cn g2.1 cn2) cn3) (s8_cn (s8_cn w2 cn2) cn3) lf4.2 (rl_cn x1 g4.1 cn3) (fun i hi => by rw [eca]; exact x2 i hi)
  have hn := nl_le (hp_r T3 pa)
  have e0 : (4104 - (0 : Int32).toInt).toNat = 4104 := rfl
  exact law_loop hL hne _ 0 T3 _ _ rfl ⟨by decide, by decide⟩ g7 ox om g8 (fun q => absurd (((cn3.2.1 a2 g4.1).2 663).trans g6) q) (pa := pa) (by rw [l3]; exact lf3) (((cn3.2.1 a1 (l_cn g2.1 cn2)).1 576).trans (((cn2.2.1 a1 g2.1).1 576).trans r5)) (oa_cn (oa_cn r6 cn2) cn3) ((((cn3.2.1 c1 (l_cn r6.1 cn2)).2 65).trans (((cn2.2.1 c1 r6.1).2 65).trans r7)).trans (((cn3.2.1 a2 g4.1).2 642).trans g9).symm) (rl_cn (rl_cn r8 g2.1 cn2) (l_cn g2.1 cn2) cn3) (oa_cn (oa_cn r9 cn2) cn3) (rl_cn (rl_cn r10 r9.1 cn2) (l_cn r9.1 cn2) cn3) hrb q2 hrm q4 hby l3 l5 lf1 lf2 hli (by rw [e0]; omega) (by rw [e0]; omega)
