section LWH
variable {xi : SX} {M N : MD} {pc : Nat} {L : List (Nat × Value)} {rest As : List Value} {S S0 T : Hp} {i k0 n0 : Nat} {P : Po} {E ws vs : List Nat} {cz : Int32 → Prop}
theorem gt_SW (h : decode (md_c M) pc = .ok (.invokestatic i, 3)) (hcv : CTW (md_y M).cls i N As.length) (hrm : RM M N) (hA : Af E ws S0 S) (hlen : (lg_sl As).length ≤ md_L N) (hr8 : (rest.map fun v => v.category).sum ≤ 8) (hs : ∀ k ∈ vs, k ∈ ws) (hk : 1 ≤ k0) (hn : 6 ≤ n0) (kx : TT xi N 0 (lv_args 0 As) [] S 1 6 (PW E vs S cz)) (kk : ∀ (T : Hp) (z : Int32), cz z → GI T E → Af E vs S T → Af E ws S0 T → TT xi M (pc + 3) L (.int z :: rest) T (k0 - 1) (n0 - 6) P) : TT xi M pc L (As.reverse ++ rest) S k0 n0 P := by
  refine tt_callSW (k1 := 1) (n1 := 6) (k2 := k0 - 1) (n2 := n0 - 6) h hcv hrm hlen hr8 (by omega) (by omega) kx (fun v T x y hw => ?_) (fun X T hw => ?_)
  · obtain ⟨g1, g2, z, e, hz⟩ := hw
    cases e
    exact kk T z hz g1 g2 (af_tr hA g2 hs)
  · obtain ⟨g1, g2, z, e, hz⟩ := hw
    cases e
theorem gt_SX {cx : Int32 → Hp → Prop} (h : decode (md_c M) pc = .ok (.invokestatic i, 3)) (hcv : CTW (md_y M).cls i N As.length) (hrm : RM M N) (hA : Af E ws S0 S) (hlen : (lg_sl As).length ≤ md_L N) (hr8 : (rest.map fun v => v.category).sum ≤ 8) (hs : ∀ k ∈ vs, k ∈ ws) (hk : 1 ≤ k0) (hn : 6 ≤ n0) (kx : TT xi N 0 (lv_args 0 As) [] S 1 6 (PX E vs S cx)) (kk : ∀ (T : Hp) (z : Int32), cx z T → GI T E → Af E vs S T → Af E ws S0 T → TT xi M (pc + 3) L (.int z :: rest) T (k0 - 1) (n0 - 6) P) : TT xi M pc L (As.reverse ++ rest) S k0 n0 P := by
  refine tt_callSW (k1 := 1) (n1 := 6) (k2 := k0 - 1) (n2 := n0 - 6) h hcv hrm hlen hr8 (by omega) (by omega) kx (fun v T x y hw => ?_) (fun X T hw => ?_)
  · obtain ⟨g1, g2, z, e, hz⟩ := hw
    cases e
    exact kk T z hz g1 g2 (af_tr hA g2 hs)
  · obtain ⟨g1, g2, z, e, hz⟩ := hw
    cases e
theorem cn_af {c o kd n kd2 n2 : Nat} (h : hp_I S 65 c = hp_I S 642 o) (oc : Oa S E kd n c) (om : Oa S E kd2 n2 o) (hB : Af E vs S T) (h1 : 65 ∉ vs := by decide) (h2 : 642 ∉ vs := by decide) : hp_I T 65 c = hp_I T 642 o := (i_af oc hB h1).trans (h.trans (i_af om hB h2).symm)
theorem by_af {ab am : Nat} (h : hp_i S ab = hp_i S am ∧ ∀ i, Rg 0 255 (hp_i S am i)) (oa : Oa S E 32 200 ab) (om : Oa S E 32 200 am) (hB : Af E vs S T) (h1 : 9995 ∉ vs := by decide) : hp_i T ab = hp_i T am ∧ ∀ i, Rg 0 255 (hp_i T am i) := by
  rw [b_af oa hB h1, b_af om hB h1]; exact h
theorem fb_o {S0 S1 S2 : Hp} {ab am : Nat} {s1 s2 a b c d x : Int32} (hne : ab ≠ am) (w1 : Bw S0 S1 [] ab s1 (GC a b c d) x) (w2 : Bw S1 S2 [] am s2 (GR a b c d) x) (oab : Oa S1 [] 32 200 ab) (oam : Oa S0 [] 32 200 am) (es : s1 = s2) (hx : Rg 0 16 x) (h : hp_i S0 ab = hp_i S0 am ∧ ∀ i, Rg 0 255 (hp_i S0 am i)) : hp_i S2 ab = hp_i S2 am ∧ ∀ i, Rg 0 255 (hp_i S2 am i) := by
  subst es
  have hm : x.toInt.toNat ≤ 16 := by have := hx.2; omega
  rw [w2.2 ab oab hne, w1.1, w2.1, w1.2 am oam hne.symm]
  exact ⟨wb_eq h.1 hm, wb_rg h.2⟩
theorem by_0 {S1 : Hp} {ab am : Nat} (h1 : hp_i S1 ab = fun _ => 0) (h2 : hp_i S1 am = fun _ => 0) : hp_i S1 ab = hp_i S1 am ∧ ∀ i, Rg 0 255 (hp_i S1 am i) := ⟨h1.trans h2.symm, fun i => rg_cast (congrFun h2 i) (⟨by decide, by decide⟩ : Rg 0 255 0)⟩
theorem fb_n {S1 S2 : Hp} {ab am : Nat} (hq : ∀ q, Oa S1 [] 32 200 q → hp_i S2 q = hp_i S1 q) (oab : Oa S1 [] 32 200 ab) (oam : Oa S1 [] 32 200 am) (h : hp_i S1 ab = hp_i S1 am ∧ ∀ i, Rg 0 255 (hp_i S1 am i)) : hp_i S2 ab = hp_i S2 am ∧ ∀ i, Rg 0 255 (hp_i S2 am i) := by
  rw [hq ab oab, hq am oam]; exact h
theorem dc_o {t n1 n2 x w : Int32} {A : Prop} (e : n1 = n2) (hr : Rg 0 (n1.toInt - 1) x) (hs : Rg 0 5 w) (h : (t = 0 ∧ (Rg 0 (n2.toInt - 1) x ∧ Rg 0 5 w) ∧ A) ∨ (t = 1 ∧ ¬ (Rg 0 (n2.toInt - 1) x ∧ Rg 0 5 w))) : t = 0 ∧ A := by
  subst e
  rcases h with ⟨h1, -, h2⟩ | ⟨-, h⟩
  · exact ⟨h1, h2⟩
  · exact absurd ⟨hr, hs⟩ h
theorem dc_n {t n1 n2 x w : Int32} {A : Prop} (e : n1 = n2) (hr : ¬ (Rg 0 (n1.toInt - 1) x ∧ Rg 0 5 w)) (h : (t = 0 ∧ (Rg 0 (n2.toInt - 1) x ∧ Rg 0 5 w) ∧ A) ∨ (t = 1 ∧ ¬ (Rg 0 (n2.toInt - 1) x ∧ Rg 0 5 w))) : t = 1 := by
  subst e
  rcases h with ⟨-, h, -⟩ | ⟨h, -⟩
  · exact absurd h hr
  · exact h
theorem dc_q {y : Int64} {v : Int32} {f g : DD → Int32} (h1 : ∃ d, y = (f d).toInt64) (h2 : ∃ r, some (Value.int v) = some (.int (g r))) (h : ∀ d r, f d = g r) : y = v.toInt64 := by
  obtain ⟨d, e1⟩ := h1
  obtain ⟨r, e2⟩ := h2
  rw [e1, h d r, ei_w e2]
abbrev Fxl (t b1 b2 n : Int32) : Prop := (t = 1 ∧ ¬ Rg 0 16 n ∧ b2 = b1) ∨ (t = 2 ∧ Rg 0 16 n ∧ 200 < b1.toInt + n.toInt ∧ b2 = b1) ∨ (t = 0 ∧ Rg 0 16 n ∧ b1.toInt + n.toInt ≤ 200 ∧ b2.toInt = b1.toInt + n.toInt)
theorem fc_o {t a0 a1 a2 b0 b1 b2 n : Int32} (hc : a0 = b0) (hs : a0.toInt + n.toInt ≤ 200) (hr : Rg 0 16 n) (fo : a1.toInt = a0.toInt + n.toInt) (s2 : b1 = b0) (ea : a2 = a1) (hx : Fxl t b1 b2 n) : a2 = b2 ∧ t = 0 := by
  subst hc s2 ea
  rcases hx with ⟨-, h, -⟩ | ⟨-, -, h, -⟩ | ⟨h1, -, -, h⟩
  · exact absurd hr h
  · omega
  · exact ⟨Int32.toInt_inj.mp (by omega), h1⟩
theorem fc_k {t a0 a1 a2 b1 b2 n : Int32} (hc : a1 = b1) (e1 : a1 = a0) (hs : ¬ a0.toInt + n.toInt ≤ 200) (hr : Rg 0 16 n) (ea : a2 = a1) (hx : Fxl t b1 b2 n) : a2 = b2 ∧ t = 2 := by
  subst hc e1 ea
  rcases hx with ⟨-, h, -⟩ | ⟨h1, -, -, h⟩ | ⟨-, -, h, -⟩
  · exact absurd hr h
  · exact ⟨h.symm, h1⟩
  · exact absurd h hs
theorem fc_n {t a1 a2 b1 b2 n : Int32} (hc : a1 = b1) (hr : ¬ Rg 0 16 n) (ea : a2 = a1) (hx : Fxl t b1 b2 n) : a2 = b2 ∧ t = 1 := by
  subst hc ea
  rcases hx with ⟨h1, -, h⟩ | ⟨-, h, -⟩ | ⟨-, h, -⟩
  · exact ⟨h.symm, h1⟩
  · exact absurd h hr
  · exact absurd h hr
theorem fxl_n {t b1 b2 n : Int32} (h : Fxl t b1 b2 n) (ht : ¬ t = 0) : b2 = b1 := by
  rcases h with ⟨-, -, h⟩ | ⟨-, -, -, h⟩ | ⟨h, -⟩
  · exact h
  · exact h
  · exact absurd h ht
abbrev Rel (S : Hp) (o : Nat) : Prop := ¬ hp_I S 663 o = 0 → ¬ hp_I S 664 o = -1
theorem rel_af {o kd n : Nat} (h : Rel S o) (ho : Oa S E kd n o) (hA : Af E vs S T) (h1 : 663 ∉ vs := by decide) (h2 : 664 ∉ vs := by decide) : Rel T o := by
  unfold Rel
  rw [i_af ho hA h1, i_af ho hA h2]
  exact h
theorem rel_go {o kd n : Nat} (h : Rel S o) (ho : Oa S E kd n o) (hA : Af E vs S T) (h1 : 663 ∉ vs := by decide) (h2 : 9997 ∉ vs := by decide) : Rel T o := by
  intro q
  rw [i_af ho hA h1] at q
  exact he_af ho hA (h q) h2
theorem pa_af {o n pa : Nat} (hG : GI S E) (ho : Oa S E 9 n o) (hA : Af E ws S T) (h : (hp_R S 579 o).bind (fun q => hp_R S 258 q) = some pa) : (hp_R T 579 o).bind (fun q => hp_R T 258 q) = some pa := by
  obtain ⟨b, h1, h2⟩ := gi_R (k := 579) hG ho 4 0
  rw [r_af ho hA h1]
  rw [h1] at h
  exact (r_af h2 hA rfl).trans h
end LWH
theorem lw_in {L : Nat} {x : Int32} (hL : L ≤ 4096) (hx : Rg 0 4104 x) (h : ¬ Int32.ofNat L - 8 < x) : 0 ≤ x.toInt ∧ x.toInt + 8 ≤ (L : Int) := by
  obtain ⟨x1, x2⟩ := hx
  rw [Int32.lt_iff_toInt_lt] at h
  have e1 : (Int32.ofNat L).toInt = (L : Int) := by
    rw [Int32.toInt_ofNat_of_lt (by omega)]
  have e2 : (Int32.ofNat L - 8).toInt = (L : Int) - 8 := by
    rw [Int32.toInt_sub, e1, show (8 : Int32).toInt = 8 from rfl, bmod_in (by omega) (by omega)]
  rw [e2] at h
  omega
theorem sc_in {L : Nat} {x j : Int32} (h : 0 ≤ x.toInt ∧ x.toInt + 8 ≤ (L : Int)) (hL : L ≤ 4096) (h1 : 0 ≤ j.toInt := by decide) (h2 : j.toInt ≤ 7 := by decide) : vp_in (x + j) L := by
  obtain ⟨x1, x2⟩ := h
  have e : (x + j).toInt = x.toInt + j.toInt := by rw [Int32.toInt_add, bmod_in (by omega) (by omega)]
  intro q
  rcases q with q | q
  · have := Int32.lt_iff_toInt_lt.mp q
    have e0 : (0 : Int32).toInt = 0 := rfl
    omega
  · have e2 : (x + j).toNatClampNeg = (x + j).toInt.toNat := rfl
    omega
theorem sc_0 {L : Nat} {x : Int32} (h : 0 ≤ x.toInt ∧ x.toInt + 8 ≤ (L : Int)) : vp_in x L := by
  obtain ⟨x1, x2⟩ := h
  intro q
  rcases q with q | q
  · have := Int32.lt_iff_toInt_lt.mp q
    have e0 : (0 : Int32).toInt = 0 := rfl
    omega
  · have e2 : x.toNatClampNeg = x.toInt.toNat := rfl
    omega
theorem lw_up {L : Nat} {x : Int32} (h : 0 ≤ x.toInt ∧ x.toInt + 8 ≤ (L : Int)) (hL : L ≤ 4096) : (x + 8).toInt = x.toInt + 8 := by
  rw [Int32.toInt_add, show (8 : Int32).toInt = 8 from rfl, bmod_in (by omega) (by omega)]
abbrev PL : Po := fun r _ _ _ => r = .inl (some (.int 1))
set_option maxHeartbeats 8000000 in
theorem law_loop {b L : Nat} {xs : Nat → Int32} (hL : L ≤ 4096) {o1 o2 o3 pa c1 i1 ab am lk : Nat} (hne : ab ≠ am) : ∀ (nn : Nat) (x4 : Int32) (S : Hp) (k n : Nat), (4104 - x4.toInt).toNat = nn → Rg 0 4104 x4 → GI S [] → Oa S [] 9 0 o1 → Oa S [] 10 0 o2 → Oa S [] 33 1 o3 → Rel S o2 → (hp_R S 579 o1).bind (fun q => hp_R S 258 q) = some pa → hp_R S 576 o1 = some c1 → Oa S [] 1 0 c1 → hp_I S 65 c1 = hp_I S 642 o2 → hp_R S 577 o1 = some i1 → Oa S [] 3 0 i1 → hp_R S 192 i1 = some c1 → hp_R S 64 c1 = some ab → Oa S [] 32 200 ab → hp_R S 641 o2 = some am → Oa S [] 32 200 am → (hp_i S ab = hp_i S am ∧ ∀ i, Rg 0 255 (hp_i S am i)) → hp_R S 579 o1 = some lk → Oa S [] 4 0 lk → hp_R S 256 lk = some c1 → hp_R S 257 lk = some i1 → LJ S o1 o2 pa → 5 * nl (hp_r S pa) + (4104 - x4.toInt).toNat ≤ k → 82 * nl (hp_r S pa) + 6 * (4104 - x4.toInt).toNat ≤ n → TT (b, L, xs) M_law 23 [(4, .int x4), (3, .ref o3), (2, .ref o2), (1, .ref o1), (0, .ref b)] [] S k n PL := by
  intro nn
  induction nn using Nat.strongRecOn with
  | ind nn ih =>
    intro x4 S k n hm hx4 hG h1 h2 h3 hrel hpa hrc hc1 hcn hri hoi hrj hrb hob hrm hom hby hlk hlo hlc hlj hli hkb hnb
    subst hm
    obtain ⟨pq, hpq, hpo⟩ := gi_R (k := 258) hG hlo 35 200
    have hpq0 : hp_R S 258 lk = some pa := by have h9 := hpa; rw [hlk] at h9; exact h9
    obtain rfl : pa = pq := Option.some.inj (hpq0.symm.trans hpq)
    have hA : Af [] [65, 193, 194, 195, 196, 197, 198, 199, 200, 201, 202, 203, 204, 321, 322, 388, 389, 390, 391, 392, 393, 515, 516, 517, 640, 642, 653, 654, 655, 656, 657, 658, 659, 661, 662, 663, 664, 667, 668, 669, 670, 671, 672, 673, 674, 675, 676, 9987, 9988, 9989, 9990, 9991, 9992, 9993, 9994, 9995, 9996, 9997, 9998, 9999] S S := af_rf
    have er0 : hp_r S = hp_r S := rfl
    refine tt_iload (j := 0) dL_law_23 rfl ?_
    refine tt_aload_n (j := 4) dL_law_25 rfl ?_
    refine tt_slen (xi := (b, L, xs)) dL_law_26 ?_
    refine tt_bipush (v := 8) dL_law_27 rfl ?_
    refine tt_isub dL_law_29 ?_
    refine tt_icmp_gt (tgt := 823) dL_law_30 rfl (fun q => ?_) (fun q => ?_)
    · refine tt_iconst (v := 1) dL_law_823 rfl ?_
      exact tt_ireturn dL_law_824 .boolean rfl rfl rfl
    have hx := lw_in hL hx4 q
    have hm1 : 8 ≤ (4104 - x4.toInt).toNat := by omega
    have hJ : ∀ (T : Hp) (k9 n9 : Nat), GI T [] → Af [] [65, 193, 194, 195, 196, 197, 198, 199, 200, 201, 202, 203, 204, 321, 322, 388, 389, 390, 391, 392, 393, 515, 516, 517, 640, 642, 653, 654, 655, 656, 657, 658, 659, 661, 662, 663, 664, 667, 668, 669, 670, 671, 672, 673, 674, 675, 676, 9987, 9988, 9989, 9990, 9991, 9992, 9993, 9994, 9995, 9996, 9997, 9998, 9999] S T → Rel T o2 → hp_I T 65 c1 = hp_I T 642 o2 → (hp_i T ab = hp_i T am ∧ ∀ i, Rg 0 255 (hp_i T am i)) → LJ T o1 o2 pa → 5 * nl (hp_r T pa) + (4104 - x4.toInt).toNat ≤ k9 + 1 → 82 * nl (hp_r T pa) + 6 * (4104 - x4.toInt).toNat ≤ n9 + 6 → TT (b, L, xs) M_law 817 [(4, .int x4), (3, .ref o3), (2, .ref o2), (1, .ref o1), (0, .ref b)] [] T k9 n9 PL := by
      intro T k9 n9 g1 g2 g3 g6 g7 g9 g4 g5
      have e8 := lw_up hx hL
      refine tt_iinc (j := 0) (v := (x4 + 8)) (ks := [0, 1, 2, 3, 4]) (L' := [(4, .int (x4 + 8)), (3, .ref o3), (2, .ref o2), (1, .ref o1), (0, .ref b)]) dL_law_817 rfl rfl (by decide) rfl ?_
      refine tt_goto (tgt := 23) dL_law_820 rfl ?_
      exact ih _ (by rw [e8]; omega) (x4 + 8) T k9 n9 rfl ⟨by rw [e8]; omega, by rw [e8]; omega⟩ g1 (oa_af h1 g2) (oa_af h2 g2) (oa_af h3 g2) g3 (pa_af hG h1 g2 hpa) (r_af h1 g2 hrc) (oa_af hc1 g2) g6 (r_af h1 g2 hri) (oa_af hoi g2) (r_af hoi g2 hrj) (r_af hc1 g2 hrb) (oa_af hob g2) (r_af h2 g2 hrm) (oa_af hom g2) g7 (r_af h1 g2 hlk) (oa_af hlo g2) (r_af hlo g2 hlc) (r_af hlo g2 hlj) g9 (by rw [e8]; omega) (by rw [e8]; omega)
    refine tt_aload_n (j := 4) dL_law_33 rfl ?_
    refine tt_iload (j := 0) dL_law_34 rfl ?_
    refine tt_sld (xi := (b, L, xs)) dL_law_36 (sc_0 hx) ?_
    refine tt_bipush (v := 15) dL_law_37 rfl ?_
    refine tt_iand dL_law_39 ?_
    refine gt_ts [116, 192, 205, 366, 391, 431, 459, 472, 497, 549, 668, 679, 748, 776, 789, 817] dL_law_40 (by decide) (by decide) (fa_cons ?_ (fa_cons ?_ (fa_cons ?_ (fa_cons ?_ (fa_cons ?_ (fa_cons ?_ (fa_cons ?_ (fa_cons ?_ (fa_cons ?_ (fa_cons ?_ (fa_cons ?_ (fa_cons ?_ (fa_cons ?_ (fa_cons ?_ (fa_cons ?_ (fa_cons ?_ fa_nil))))))))))))))))
    · skip
      refine tt_aload_n (j := 3) dL_law_116 rfl ?_
      refine tt_aload_n (j := 4) dL_law_117 rfl ?_
      refine tt_iload (j := 0) dL_law_118 rfl ?_
      refine tt_iconst (v := 1) dL_law_120 rfl ?_
      refine tt_iadd dL_law_121 ?_
      refine tt_sld (xi := (b, L, xs)) dL_law_122 (sc_in hx hL) ?_
      refine tt_aload_n (j := 4) dL_law_123 rfl ?_
      refine tt_iload (j := 0) dL_law_124 rfl ?_
      refine tt_iconst (v := 2) dL_law_126 rfl ?_
      refine tt_iadd dL_law_127 ?_
      refine tt_sld (xi := (b, L, xs)) dL_law_128 (sc_in hx hL) ?_
      refine tt_aload_n (j := 4) dL_law_129 rfl ?_
      refine tt_iload (j := 0) dL_law_130 rfl ?_
      refine tt_iconst (v := 3) dL_law_132 rfl ?_
      refine tt_iadd dL_law_133 ?_
      refine tt_sld (xi := (b, L, xs)) dL_law_134 (sc_in hx hL) ?_
      refine tt_aload_n (j := 4) dL_law_135 rfl ?_
      refine tt_iload (j := 0) dL_law_136 rfl ?_
      refine tt_iconst (v := 4) dL_law_138 rfl ?_
      refine tt_iadd dL_law_139 ?_
      refine tt_sld (xi := (b, L, xs)) dL_law_140 (sc_in hx hL) ?_
      refine tt_aload_n (j := 4) dL_law_141 rfl ?_
      refine tt_iload (j := 0) dL_law_142 rfl ?_
      refine tt_iconst (v := 5) dL_law_144 rfl ?_
      refine tt_iadd dL_law_145 ?_
      refine tt_sld (xi := (b, L, xs)) dL_law_146 (sc_in hx hL) ?_
      refine tt_aload_n (j := 1) dL_law_147 rfl ?_
      by_cases hr9 : Rg 0 16 (xs (x4 + 1).toNatClampNeg)
      · by_cases hs9 : (hp_I S 65 c1).toInt + (xs (x4 + 1).toNatClampNeg).toInt ≤ 200
        · skip
          refine gt_SX (As := [.ref o1, .int (xs (x4 + 1).toNatClampNeg), .int (xs (x4 + 2).toNatClampNeg), .int (xs (x4 + 3).toNatClampNeg), .int (xs (x4 + 4).toNatClampNeg), .int (xs (x4 + 5).toNatClampNeg), .ref o3]) dL_law_148 ca_L_56 ⟨by decide, by decide⟩ hA (Nat.le_of_ble_eq_true rfl) (Nat.le_of_ble_eq_true rfl) (by decide) (by omega) (by omega) (cvw_L_feed hG (oa_af h1 hA) hr9 (oa_af h3 hA) (fun c hc => by obtain rfl : c1 = c := Option.some.inj ((r_af h1 hA hrc).symm.trans hc); exact hs9) (fun _ _ _ _ h => h)) (fun S1 z2 hz3 hG4 hB5 hA6 => ?_)
          have rl7 := rel_af hrel (oa_af h2 hA) hB5
          have er8 := (hB5.2.2.2.1 (by decide)).2.trans er0
          obtain ⟨hz3, hw10, hz9⟩ := hz3
          obtain ⟨fo11, fj13⟩ := hz9 c1 (r_af h1 hA hrc)
          have s212 := i_af (k := 642) (oa_af h2 hA) hB5
          obtain ⟨fj13, bw14⟩ := fj13
          have bw14 := bw14 ab (r_af hc1 hA hrb)
          obtain rfl : z2 = 0 := hz3
          refine tt_istore (ks := [0, 1, 2, 3, 4, 5]) (L' := [(5, .int 0), (4, .int x4), (3, .ref o3), (2, .ref o2), (1, .ref o1), (0, .ref b)]) dL_law_151 (by decide) rfl ?_
          refine tt_aload_n (j := 3) dL_law_153 rfl ?_
          refine tt_aload_n (j := 5) dL_law_154 rfl ?_
          refine tt_iload (j := 1) dL_law_155 rfl ?_
          refine tt_iconst (v := 1) dL_law_157 rfl ?_
          refine tt_iadd dL_law_158 ?_
          refine tt_sld (xi := (b, L, xs)) dL_law_159 (sc_in hx hL) ?_
          refine tt_aload_n (j := 5) dL_law_160 rfl ?_
          refine tt_iload (j := 1) dL_law_161 rfl ?_
          refine tt_iconst (v := 2) dL_law_163 rfl ?_
          refine tt_iadd dL_law_164 ?_
          refine tt_sld (xi := (b, L, xs)) dL_law_165 (sc_in hx hL) ?_
          refine tt_aload_n (j := 5) dL_law_166 rfl ?_
          refine tt_iload (j := 1) dL_law_167 rfl ?_
          refine tt_iconst (v := 3) dL_law_169 rfl ?_
          refine tt_iadd dL_law_170 ?_
          refine tt_sld (xi := (b, L, xs)) dL_law_171 (sc_in hx hL) ?_
          refine tt_aload_n (j := 5) dL_law_172 rfl ?_
          refine tt_iload (j := 1) dL_law_173 rfl ?_
          refine tt_iconst (v := 4) dL_law_175 rfl ?_
          refine tt_iadd dL_law_176 ?_
          refine tt_sld (xi := (b, L, xs)) dL_law_177 (sc_in hx hL) ?_
          refine tt_aload_n (j := 5) dL_law_178 rfl ?_
          refine tt_iload (j := 1) dL_law_179 rfl ?_
          refine tt_iconst (v := 5) dL_law_181 rfl ?_
          refine tt_iadd dL_law_182 ?_
          refine tt_sld (xi := (b, L, xs)) dL_law_183 (sc_in hx hL) ?_
          refine gt_VI (As := [.int (xs (x4 + 1).toNatClampNeg), .int (xs (x4 + 2).toNatClampNeg), .int (xs (x4 + 3).toNatClampNeg), .int (xs (x4 + 4).toNatClampNeg), .int (xs (x4 + 5).toNatClampNeg)]) dL_law_184 ca_L_61 ⟨by decide, by decide⟩ h2 hA6 rfl (Nat.le_of_ble_eq_true rfl) (Nat.le_of_ble_eq_true rfl) (by decide) (cv_X10_feed (rk_gi rfl hG4) hG4 (oa_af h2 hA6) (r_af h2 hA6 hrm) (oa_af hom hA6) (fun _ _ _ _ h => h)) rfl (fun _ h => nomatch h) (fun S15 v16 hz17 hx18 hG19 hB20 hA21 => ?_)
          obtain ⟨⟨hx18, bA22, bB23⟩, cA24, cB25⟩ := hx18
          have rl26 := hx18.1 rl7
          have er27 := (hB20.2.2.2.1 (by decide)).2.trans er8
          have h628 := fc_o hcn hs9 hr9 fo11 s212 (i_af (k := 65) (oa_af hc1 hA6) hB20) hx18.2.1
          have by29 := fb_o hne bw14 (bA22 h628.2) (oa_af hob hA6) hom (hcn.trans s212.symm) hr9 hby
          have li30 := lj_fg hli hG h1 h2 hpo hB5 (hw10 lk pa hlk hpq) hG4 hB20 (cA24 h628.2)
          refine tt_istore (ks := [0, 1, 2, 3, 4, 5, 6]) (L' := [(6, .int v16), (5, .int 0), (4, .int x4), (3, .ref o3), (2, .ref o2), (1, .ref o1), (0, .ref b)]) dL_law_187 (by decide) rfl ?_
          refine tt_goto (tgt := 817) dL_law_189 rfl ?_
          exact tt_loc (ks := [2, 3, 4, 5, 6]) rfl (hJ S15 (k - 1) (n - 6) hG19 hA21 rl26 h628.1 by29 li30 (by rw [er27]; omega) (by rw [er27]; omega))
        · skip
          refine gt_SW (As := [.ref o1, .int (xs (x4 + 1).toNatClampNeg), .int (xs (x4 + 2).toNatClampNeg), .int (xs (x4 + 3).toNatClampNeg), .int (xs (x4 + 4).toNatClampNeg), .int (xs (x4 + 5).toNatClampNeg), .ref o3]) dL_law_148 ca_L_56 ⟨by decide, by decide⟩ hA (Nat.le_of_ble_eq_true rfl) (Nat.le_of_ble_eq_true rfl) (by decide) (by omega) (by omega) (cwk_L_feed hG (oa_af h1 hA) hr9 (oa_af h3 hA) (fun c hc => by obtain rfl : c1 = c := Option.some.inj ((r_af h1 hA hrc).symm.trans hc); omega) (fun _ _ _ _ h => h)) (fun S31 z32 hz33 hG34 hB35 hA36 => ?_)
          have li37 := lj_af hli hG (oa_af h1 hA) (oa_af h2 hA) (oa_af hpo hA) hB35
          have rl38 := rel_af hrel (oa_af h2 hA) hB35
          have er39 := (hB35.2.2.2.1 (by decide)).2.trans er0
          have by40 := by_af hby (oa_af hob hA) (oa_af hom hA) hB35
          have cn41 := cn_af hcn (oa_af hc1 hA) (oa_af h2 hA) hB35
          obtain rfl : z32 = 2 := hz33
          refine tt_istore (ks := [0, 1, 2, 3, 4, 5]) (L' := [(5, .int 2), (4, .int x4), (3, .ref o3), (2, .ref o2), (1, .ref o1), (0, .ref b)]) dL_law_151 (by decide) rfl ?_
          refine tt_aload_n (j := 3) dL_law_153 rfl ?_
          refine tt_aload_n (j := 5) dL_law_154 rfl ?_
          refine tt_iload (j := 1) dL_law_155 rfl ?_
          refine tt_iconst (v := 1) dL_law_157 rfl ?_
          refine tt_iadd dL_law_158 ?_
          refine tt_sld (xi := (b, L, xs)) dL_law_159 (sc_in hx hL) ?_
          refine tt_aload_n (j := 5) dL_law_160 rfl ?_
          refine tt_iload (j := 1) dL_law_161 rfl ?_
          refine tt_iconst (v := 2) dL_law_163 rfl ?_
          refine tt_iadd dL_law_164 ?_
          refine tt_sld (xi := (b, L, xs)) dL_law_165 (sc_in hx hL) ?_
          refine tt_aload_n (j := 5) dL_law_166 rfl ?_
          refine tt_iload (j := 1) dL_law_167 rfl ?_
          refine tt_iconst (v := 3) dL_law_169 rfl ?_
          refine tt_iadd dL_law_170 ?_
          refine tt_sld (xi := (b, L, xs)) dL_law_171 (sc_in hx hL) ?_
          refine tt_aload_n (j := 5) dL_law_172 rfl ?_
          refine tt_iload (j := 1) dL_law_173 rfl ?_
          refine tt_iconst (v := 4) dL_law_175 rfl ?_
          refine tt_iadd dL_law_176 ?_
          refine tt_sld (xi := (b, L, xs)) dL_law_177 (sc_in hx hL) ?_
          refine tt_aload_n (j := 5) dL_law_178 rfl ?_
          refine tt_iload (j := 1) dL_law_179 rfl ?_
          refine tt_iconst (v := 5) dL_law_181 rfl ?_
          refine tt_iadd dL_law_182 ?_
          refine tt_sld (xi := (b, L, xs)) dL_law_183 (sc_in hx hL) ?_
          refine gt_VI (As := [.int (xs (x4 + 1).toNatClampNeg), .int (xs (x4 + 2).toNatClampNeg), .int (xs (x4 + 3).toNatClampNeg), .int (xs (x4 + 4).toNatClampNeg), .int (xs (x4 + 5).toNatClampNeg)]) dL_law_184 ca_L_61 ⟨by decide, by decide⟩ h2 hA36 rfl (Nat.le_of_ble_eq_true rfl) (Nat.le_of_ble_eq_true rfl) (by decide) (cv_X10_feed (rk_gi rfl hG34) hG34 (oa_af h2 hA36) (r_af h2 hA36 hrm) (oa_af hom hA36) (fun _ _ _ _ h => h)) rfl (fun _ h => nomatch h) (fun S42 v43 hz44 hx45 hG46 hB47 hA48 => ?_)
          obtain ⟨⟨hx45, bA49, bB50⟩, cA51, cB52⟩ := hx45
          have rl53 := hx45.1 rl38
          have er54 := (hB47.2.2.2.1 (by decide)).2.trans er39
          have h655 := fc_k cn41 (i_af (k := 65) (oa_af hc1 hA) hB35) hs9 hr9 (i_af (k := 65) (oa_af hc1 hA36) hB47) hx45.2.1
          have by56 := fb_n (bB50 (by rw [h655.2]; decide)) (oa_af hob hA36) (oa_af hom hA36) by40
          have li57 := lj_af li37 hG34 (oa_af h1 hA36) (oa_af h2 hA36) (oa_af hpo hA36) (cB52 (by rw [h655.2]; decide))
          refine tt_istore (ks := [0, 1, 2, 3, 4, 5, 6]) (L' := [(6, .int v43), (5, .int 2), (4, .int x4), (3, .ref o3), (2, .ref o2), (1, .ref o1), (0, .ref b)]) dL_law_187 (by decide) rfl ?_
          refine tt_goto (tgt := 817) dL_law_189 rfl ?_
          exact tt_loc (ks := [2, 3, 4, 5, 6]) rfl (hJ S42 (k - 1) (n - 6) hG46 hA48 rl53 h655.1 by56 li57 (by rw [er54]; omega) (by rw [er54]; omega))
      · skip
        refine gt_SW (As := [.ref o1, .int (xs (x4 + 1).toNatClampNeg), .int (xs (x4 + 2).toNatClampNeg), .int (xs (x4 + 3).toNatClampNeg), .int (xs (x4 + 4).toNatClampNeg), .int (xs (x4 + 5).toNatClampNeg), .ref o3]) dL_law_148 ca_L_56 ⟨by decide, by decide⟩ hA (Nat.le_of_ble_eq_true rfl) (Nat.le_of_ble_eq_true rfl) (by decide) (by omega) (by omega) (cwn_L_feed hG (oa_af h1 hA) (oa_af h3 hA) hr9 (fun _ _ _ _ h => h)) (fun S58 z59 hz60 hG61 hB62 hA63 => ?_)
        have li64 := lj_af hli hG (oa_af h1 hA) (oa_af h2 hA) (oa_af hpo hA) hB62
        have rl65 := rel_af hrel (oa_af h2 hA) hB62
        have er66 := (hB62.2.2.2.1 (by decide)).2.trans er0
        have by67 := by_af hby (oa_af hob hA) (oa_af hom hA) hB62
        have cn68 := cn_af hcn (oa_af hc1 hA) (oa_af h2 hA) hB62
        obtain rfl : z59 = 1 := hz60
        refine tt_istore (ks := [0, 1, 2, 3, 4, 5]) (L' := [(5, .int 1), (4, .int x4), (3, .ref o3), (2, .ref o2), (1, .ref o1), (0, .ref b)]) dL_law_151 (by decide) rfl ?_
        refine tt_aload_n (j := 3) dL_law_153 rfl ?_
        refine tt_aload_n (j := 5) dL_law_154 rfl ?_
        refine tt_iload (j := 1) dL_law_155 rfl ?_
        refine tt_iconst (v := 1) dL_law_157 rfl ?_
        refine tt_iadd dL_law_158 ?_
        refine tt_sld (xi := (b, L, xs)) dL_law_159 (sc_in hx hL) ?_
        refine tt_aload_n (j := 5) dL_law_160 rfl ?_
        refine tt_iload (j := 1) dL_law_161 rfl ?_
        refine tt_iconst (v := 2) dL_law_163 rfl ?_
        refine tt_iadd dL_law_164 ?_
        refine tt_sld (xi := (b, L, xs)) dL_law_165 (sc_in hx hL) ?_
        refine tt_aload_n (j := 5) dL_law_166 rfl ?_
        refine tt_iload (j := 1) dL_law_167 rfl ?_
        refine tt_iconst (v := 3) dL_law_169 rfl ?_
        refine tt_iadd dL_law_170 ?_
        refine tt_sld (xi := (b, L, xs)) dL_law_171 (sc_in hx hL) ?_
        refine tt_aload_n (j := 5) dL_law_172 rfl ?_
        refine tt_iload (j := 1) dL_law_173 rfl ?_
        refine tt_iconst (v := 4) dL_law_175 rfl ?_
        refine tt_iadd dL_law_176 ?_
        refine tt_sld (xi := (b, L, xs)) dL_law_177 (sc_in hx hL) ?_
        refine tt_aload_n (j := 5) dL_law_178 rfl ?_
        refine tt_iload (j := 1) dL_law_179 rfl ?_
        refine tt_iconst (v := 5) dL_law_181 rfl ?_
        refine tt_iadd dL_law_182 ?_
        refine tt_sld (xi := (b, L, xs)) dL_law_183 (sc_in hx hL) ?_
        refine gt_VI (As := [.int (xs (x4 + 1).toNatClampNeg), .int (xs (x4 + 2).toNatClampNeg), .int (xs (x4 + 3).toNatClampNeg), .int (xs (x4 + 4).toNatClampNeg), .int (xs (x4 + 5).toNatClampNeg)]) dL_law_184 ca_L_61 ⟨by decide, by decide⟩ h2 hA63 rfl (Nat.le_of_ble_eq_true rfl) (Nat.le_of_ble_eq_true rfl) (by decide) (cv_X10_feed (rk_gi rfl hG61) hG61 (oa_af h2 hA63) (r_af h2 hA63 hrm) (oa_af hom hA63) (fun _ _ _ _ h => h)) rfl (fun _ h => nomatch h) (fun S69 v70 hz71 hx72 hG73 hB74 hA75 => ?_)
        obtain ⟨⟨hx72, bA76, bB77⟩, cA78, cB79⟩ := hx72
        have rl80 := hx72.1 rl65
        have er81 := (hB74.2.2.2.1 (by decide)).2.trans er66
        have h682 := fc_n cn68 hr9 (i_af (k := 65) (oa_af hc1 hA63) hB74) hx72.2.1
        have by83 := fb_n (bB77 (by rw [h682.2]; decide)) (oa_af hob hA63) (oa_af hom hA63) by67
        have li84 := lj_af li64 hG61 (oa_af h1 hA63) (oa_af h2 hA63) (oa_af hpo hA63) (cB79 (by rw [h682.2]; decide))
        refine tt_istore (ks := [0, 1, 2, 3, 4, 5, 6]) (L' := [(6, .int v70), (5, .int 1), (4, .int x4), (3, .ref o3), (2, .ref o2), (1, .ref o1), (0, .ref b)]) dL_law_187 (by decide) rfl ?_
        refine tt_goto (tgt := 817) dL_law_189 rfl ?_
        exact tt_loc (ks := [2, 3, 4, 5, 6]) rfl (hJ S69 (k - 1) (n - 6) hG73 hA75 rl80 h682.1 by83 li84 (by rw [er81]; omega) (by rw [er81]; omega))
    · skip
      refine tt_aload_n (j := 3) dL_law_192 rfl ?_
      refine gt_VI (As := []) dL_law_193 ca_L_62 ⟨by decide, by decide⟩ h1 hA rfl (Nat.le_of_ble_eq_true rfl) (Nat.le_of_ble_eq_true rfl) (by decide) (cv_X9_erase hG (oa_af h1 hA) (fun _ _ _ _ h => h)) rfl (fun _ h => nomatch h) (fun S85 v86 hz87 hx88 hG89 hB90 hA91 => ?_)
      have ex92 := hx88.2 lk pa hlk hpq
      have hx88 := hx88.1
      have by93 := by_af hby (oa_af hob hA) (oa_af hom hA) hB90
      have rl94 := rel_af hrel (oa_af h2 hA) hB90
      have er95 := (hB90.2.2.2.1 (by decide)).2.trans er0
      obtain ⟨ev96, ec97⟩ := hx88 c1 (r_af h1 hA hrc)
      have e98 := ei_v _ ev96
      have s299 := i_af (k := 642) (oa_af h2 hA) hB90
      refine tt_pop dL_law_196 rfl ?_
      refine tt_aload_n (j := 2) dL_law_197 rfl ?_
      refine gt_VI (As := []) dL_law_198 ca_L_66 ⟨by decide, by decide⟩ h2 hA91 rfl (Nat.le_of_ble_eq_true rfl) (Nat.le_of_ble_eq_true rfl) (by decide) (cv_X10_erase (rk_gi rfl hG89) hG89 (oa_af h2 hA91) (fun _ _ _ _ h => h)) rfl (fun _ h => nomatch h) (fun S100 v101 hz102 hx103 hG104 hB105 hA106 => ?_)
      have li107 := lj_fg hli hG h1 h2 hpo hB90 ex92 hG89 hB105 hx103.2
      have hx103 := hx103.1
      have by108 := by_af by93 (oa_af hob hA91) (oa_af hom hA91) hB105
      have rl109 := hx103.1 rl94
      have er110 := (hB105.2.2.2.1 (by decide)).2.trans er95
      have e111 := (e98.symm.trans (hcn.trans s299.symm)).trans (ei_v _ hx103.2.1)
      have cn112 := ((i_af (k := 65) (oa_af hc1 hA91) hB105).trans ec97).trans hx103.2.2.symm
      refine tt_pop dL_law_201 rfl ?_
      refine tt_goto (tgt := 817) dL_law_202 rfl ?_
      exact tt_loc (ks := [0, 1, 2, 3, 4]) rfl (hJ S100 k n hG104 hA106 rl109 cn112 by108 li107 (by rw [er110]; omega) (by rw [er110]; omega))
    · skip
      refine tt_aload_n (j := 3) dL_law_205 rfl ?_
      refine tt_aload_n (j := 4) dL_law_206 rfl ?_
      refine tt_iload (j := 0) dL_law_207 rfl ?_
      refine tt_iconst (v := 1) dL_law_209 rfl ?_
      refine tt_iadd dL_law_210 ?_
      refine tt_sld (xi := (b, L, xs)) dL_law_211 (sc_in hx hL) ?_
      refine tt_aload_n (j := 4) dL_law_212 rfl ?_
      refine tt_iload (j := 0) dL_law_213 rfl ?_
      refine tt_iconst (v := 2) dL_law_215 rfl ?_
      refine tt_iadd dL_law_216 ?_
      refine tt_sld (xi := (b, L, xs)) dL_law_217 (sc_in hx hL) ?_
      refine tt_i2l dL_law_218 ?_
      refine tt_bipush (v := 32) dL_law_219 rfl ?_
      refine tt_lshl dL_law_221 ?_
      refine tt_aload_n (j := 4) dL_law_222 rfl ?_
      refine tt_iload (j := 0) dL_law_223 rfl ?_
      refine tt_iconst (v := 3) dL_law_225 rfl ?_
      refine tt_iadd dL_law_226 ?_
      refine tt_sld (xi := (b, L, xs)) dL_law_227 (sc_in hx hL) ?_
      refine tt_i2l dL_law_228 ?_
      refine tt_ldc2 (v := 4294967295) dL_law_229 kl_L_67 ?_
      refine tt_land dL_law_232 ?_
      refine tt_lor dL_law_233 ?_
      refine tt_aload_n (j := 4) dL_law_234 rfl ?_
      refine tt_iload (j := 0) dL_law_235 rfl ?_
      refine tt_iconst (v := 4) dL_law_237 rfl ?_
      refine tt_iadd dL_law_238 ?_
      refine tt_sld (xi := (b, L, xs)) dL_law_239 (sc_in hx hL) ?_
      refine tt_i2l dL_law_240 ?_
      refine tt_bipush (v := 32) dL_law_241 rfl ?_
      refine tt_lshl dL_law_243 ?_
      refine tt_aload_n (j := 4) dL_law_244 rfl ?_
      refine tt_iload (j := 0) dL_law_245 rfl ?_
      refine tt_iconst (v := 5) dL_law_247 rfl ?_
      refine tt_iadd dL_law_248 ?_
      refine tt_sld (xi := (b, L, xs)) dL_law_249 (sc_in hx hL) ?_
      refine tt_i2l dL_law_250 ?_
      refine tt_ldc2 (v := 4294967295) dL_law_251 kl_L_67 ?_
      refine tt_land dL_law_254 ?_
      refine tt_lor dL_law_255 ?_
      refine tt_aload_n (j := 4) dL_law_256 rfl ?_
      refine tt_iload (j := 0) dL_law_257 rfl ?_
      refine tt_bipush (v := 6) dL_law_259 rfl ?_
      refine tt_iadd dL_law_261 ?_
      refine tt_sld (xi := (b, L, xs)) dL_law_262 (sc_in hx hL) ?_
      refine tt_i2l dL_law_263 ?_
      refine tt_bipush (v := 32) dL_law_264 rfl ?_
      refine tt_lshl dL_law_266 ?_
      refine tt_aload_n (j := 4) dL_law_267 rfl ?_
      refine tt_iload (j := 0) dL_law_268 rfl ?_
      refine tt_bipush (v := 7) dL_law_270 rfl ?_
      refine tt_iadd dL_law_272 ?_
      refine tt_sld (xi := (b, L, xs)) dL_law_273 (sc_in hx hL) ?_
      refine tt_i2l dL_law_274 ?_
      refine tt_ldc2 (v := 4294967295) dL_law_275 kl_L_67 ?_
      refine tt_land dL_law_278 ?_
      refine tt_lor dL_law_279 ?_
      by_cases hr9 : Rg 0 23 (xs (x4 + 1).toNatClampNeg)
      · by_cases ht9 : Trip ((((xs (x4 + 2).toNatClampNeg) : Int32).toInt64 <<< ((32 : Int32).toInt64 &&& 63)) ||| (((xs (x4 + 3).toNatClampNeg) : Int32).toInt64 &&& 4294967295)) ((((xs (x4 + 4).toNatClampNeg) : Int32).toInt64 <<< ((32 : Int32).toInt64 &&& 63)) ||| (((xs (x4 + 5).toNatClampNeg) : Int32).toInt64 &&& 4294967295)) ((((xs (x4 + 6).toNatClampNeg) : Int32).toInt64 <<< ((32 : Int32).toInt64 &&& 63)) ||| (((xs (x4 + 7).toNatClampNeg) : Int32).toInt64 &&& 4294967295))
        · skip
          refine gt_SX (As := [.ref o1, .int (xs (x4 + 1).toNatClampNeg), .long ((((xs (x4 + 2).toNatClampNeg) : Int32).toInt64 <<< ((32 : Int32).toInt64 &&& 63)) ||| (((xs (x4 + 3).toNatClampNeg) : Int32).toInt64 &&& 4294967295)), .long ((((xs (x4 + 4).toNatClampNeg) : Int32).toInt64 <<< ((32 : Int32).toInt64 &&& 63)) ||| (((xs (x4 + 5).toNatClampNeg) : Int32).toInt64 &&& 4294967295)), .long ((((xs (x4 + 6).toNatClampNeg) : Int32).toInt64 <<< ((32 : Int32).toInt64 &&& 63)) ||| (((xs (x4 + 7).toNatClampNeg) : Int32).toInt64 &&& 4294967295))]) dL_law_280 ca_L_69 ⟨by decide, by decide⟩ hA (Nat.le_of_ble_eq_true rfl) (Nat.le_of_ble_eq_true rfl) (by decide) (by omega) (by omega) (cywo_L_given (rk_gi rfl hG) hG h1 hr9 ht9 (fun _ _ _ _ h => h)) (fun S113 z114 hz115 hG116 hB117 hA118 => ?_)
          obtain ⟨hz115, ek119⟩ := hz115
          have rl120 := rel_af hrel (oa_af h2 hA) hB117
          have er121 := (hB117.2.2.2.1 (by decide)).2.trans er0
          have by122 := by_af hby (oa_af hob hA) (oa_af hom hA) hB117
          have cn123 := cn_af hcn (oa_af hc1 hA) (oa_af h2 hA) hB117
          obtain rfl : z114 = 0 := hz115
          refine tt_istore (ks := [0, 1, 2, 3, 4, 5]) (L' := [(5, .int 0), (4, .int x4), (3, .ref o3), (2, .ref o2), (1, .ref o1), (0, .ref b)]) dL_law_283 (by decide) rfl ?_
          refine tt_aload_n (j := 3) dL_law_285 rfl ?_
          refine tt_aload_n (j := 5) dL_law_286 rfl ?_
          refine tt_iload (j := 1) dL_law_287 rfl ?_
          refine tt_iconst (v := 1) dL_law_289 rfl ?_
          refine tt_iadd dL_law_290 ?_
          refine tt_sld (xi := (b, L, xs)) dL_law_291 (sc_in hx hL) ?_
          refine tt_aload_n (j := 5) dL_law_292 rfl ?_
          refine tt_iload (j := 1) dL_law_293 rfl ?_
          refine tt_iconst (v := 2) dL_law_295 rfl ?_
          refine tt_iadd dL_law_296 ?_
          refine tt_sld (xi := (b, L, xs)) dL_law_297 (sc_in hx hL) ?_
          refine tt_i2l dL_law_298 ?_
          refine tt_bipush (v := 32) dL_law_299 rfl ?_
          refine tt_lshl dL_law_301 ?_
          refine tt_aload_n (j := 5) dL_law_302 rfl ?_
          refine tt_iload (j := 1) dL_law_303 rfl ?_
          refine tt_iconst (v := 3) dL_law_305 rfl ?_
          refine tt_iadd dL_law_306 ?_
          refine tt_sld (xi := (b, L, xs)) dL_law_307 (sc_in hx hL) ?_
          refine tt_i2l dL_law_308 ?_
          refine tt_ldc2 (v := 4294967295) dL_law_309 kl_L_67 ?_
          refine tt_land dL_law_312 ?_
          refine tt_lor dL_law_313 ?_
          refine tt_aload_n (j := 5) dL_law_314 rfl ?_
          refine tt_iload (j := 1) dL_law_315 rfl ?_
          refine tt_iconst (v := 4) dL_law_317 rfl ?_
          refine tt_iadd dL_law_318 ?_
          refine tt_sld (xi := (b, L, xs)) dL_law_319 (sc_in hx hL) ?_
          refine tt_i2l dL_law_320 ?_
          refine tt_bipush (v := 32) dL_law_321 rfl ?_
          refine tt_lshl dL_law_323 ?_
          refine tt_aload_n (j := 5) dL_law_324 rfl ?_
          refine tt_iload (j := 1) dL_law_325 rfl ?_
          refine tt_iconst (v := 5) dL_law_327 rfl ?_
          refine tt_iadd dL_law_328 ?_
          refine tt_sld (xi := (b, L, xs)) dL_law_329 (sc_in hx hL) ?_
          refine tt_i2l dL_law_330 ?_
          refine tt_ldc2 (v := 4294967295) dL_law_331 kl_L_67 ?_
          refine tt_land dL_law_334 ?_
          refine tt_lor dL_law_335 ?_
          refine tt_aload_n (j := 5) dL_law_336 rfl ?_
          refine tt_iload (j := 1) dL_law_337 rfl ?_
          refine tt_bipush (v := 6) dL_law_339 rfl ?_
          refine tt_iadd dL_law_341 ?_
          refine tt_sld (xi := (b, L, xs)) dL_law_342 (sc_in hx hL) ?_
          refine tt_i2l dL_law_343 ?_
          refine tt_bipush (v := 32) dL_law_344 rfl ?_
          refine tt_lshl dL_law_346 ?_
          refine tt_aload_n (j := 5) dL_law_347 rfl ?_
          refine tt_iload (j := 1) dL_law_348 rfl ?_
          refine tt_bipush (v := 7) dL_law_350 rfl ?_
          refine tt_iadd dL_law_352 ?_
          refine tt_sld (xi := (b, L, xs)) dL_law_353 (sc_in hx hL) ?_
          refine tt_i2l dL_law_354 ?_
          refine tt_ldc2 (v := 4294967295) dL_law_355 kl_L_67 ?_
          refine tt_land dL_law_358 ?_
          refine tt_lor dL_law_359 ?_
          refine gt_Vv (As := [.int (xs (x4 + 1).toNatClampNeg), .long ((((xs (x4 + 2).toNatClampNeg) : Int32).toInt64 <<< ((32 : Int32).toInt64 &&& 63)) ||| (((xs (x4 + 3).toNatClampNeg) : Int32).toInt64 &&& 4294967295)), .long ((((xs (x4 + 4).toNatClampNeg) : Int32).toInt64 <<< ((32 : Int32).toInt64 &&& 63)) ||| (((xs (x4 + 5).toNatClampNeg) : Int32).toInt64 &&& 4294967295)), .long ((((xs (x4 + 6).toNatClampNeg) : Int32).toInt64 <<< ((32 : Int32).toInt64 &&& 63)) ||| (((xs (x4 + 7).toNatClampNeg) : Int32).toInt64 &&& 4294967295))]) dL_law_360 ca_L_72 ⟨by decide, by decide⟩ h2 hA118 rfl (Nat.le_of_ble_eq_true rfl) (Nat.le_of_ble_eq_true rfl) (by decide) (cy_X10_given (rk_gi rfl hG116) hG116 (oa_af h2 hA118) (fun _ _ _ _ h => h)) rfl (fun _ h => nomatch h) (fun S124 hx127 hG128 hB129 hA130 => ?_)
          obtain ⟨-, -, -, _, a133, e132⟩ | ⟨-, hno, -⟩ := hx127
          rotate_left
          · exact absurd ⟨hr9, ht9⟩ hno
          have li131 := lj_given hli hG h1 h2 hpo hr9 ht9 hB117 ek119 hG116 hB129 a133 e132
          have by134 := by_af by122 (oa_af hob hA118) (oa_af hom hA118) hB129
          have rl135 := rel_af rl120 (oa_af h2 hA118) hB129
          have er136 := (hB129.2.2.2.1 (by decide)).2.trans er121
          have cn137 := cn_af cn123 (oa_af hc1 hA118) (oa_af h2 hA118) hB129
          refine tt_goto (tgt := 817) dL_law_363 rfl ?_
          exact tt_loc (ks := [1, 2, 3, 4, 5]) rfl (hJ S124 (k - 1) (n - 6) hG128 hA130 rl135 cn137 by134 li131 (by rw [er136]; omega) (by rw [er136]; omega))
        · skip
          refine gt_SW (As := [.ref o1, .int (xs (x4 + 1).toNatClampNeg), .long ((((xs (x4 + 2).toNatClampNeg) : Int32).toInt64 <<< ((32 : Int32).toInt64 &&& 63)) ||| (((xs (x4 + 3).toNatClampNeg) : Int32).toInt64 &&& 4294967295)), .long ((((xs (x4 + 4).toNatClampNeg) : Int32).toInt64 <<< ((32 : Int32).toInt64 &&& 63)) ||| (((xs (x4 + 5).toNatClampNeg) : Int32).toInt64 &&& 4294967295)), .long ((((xs (x4 + 6).toNatClampNeg) : Int32).toInt64 <<< ((32 : Int32).toInt64 &&& 63)) ||| (((xs (x4 + 7).toNatClampNeg) : Int32).toInt64 &&& 4294967295))]) dL_law_280 ca_L_69 ⟨by decide, by decide⟩ hA (Nat.le_of_ble_eq_true rfl) (Nat.le_of_ble_eq_true rfl) (by decide) (by omega) (by omega) (cywk_L_given hG h1 hr9 ht9 (fun _ _ _ _ h => h)) (fun S138 z139 hz140 hG141 hB142 hA143 => ?_)
          have li144 := lj_af hli hG (oa_af h1 hA) (oa_af h2 hA) (oa_af hpo hA) hB142
          have rl145 := rel_af hrel (oa_af h2 hA) hB142
          have er146 := (hB142.2.2.2.1 (by decide)).2.trans er0
          have by147 := by_af hby (oa_af hob hA) (oa_af hom hA) hB142
          have cn148 := cn_af hcn (oa_af hc1 hA) (oa_af h2 hA) hB142
          obtain rfl : z139 = 1 := hz140
          refine tt_istore (ks := [0, 1, 2, 3, 4, 5]) (L' := [(5, .int 1), (4, .int x4), (3, .ref o3), (2, .ref o2), (1, .ref o1), (0, .ref b)]) dL_law_283 (by decide) rfl ?_
          refine tt_aload_n (j := 3) dL_law_285 rfl ?_
          refine tt_aload_n (j := 5) dL_law_286 rfl ?_
          refine tt_iload (j := 1) dL_law_287 rfl ?_
          refine tt_iconst (v := 1) dL_law_289 rfl ?_
          refine tt_iadd dL_law_290 ?_
          refine tt_sld (xi := (b, L, xs)) dL_law_291 (sc_in hx hL) ?_
          refine tt_aload_n (j := 5) dL_law_292 rfl ?_
          refine tt_iload (j := 1) dL_law_293 rfl ?_
          refine tt_iconst (v := 2) dL_law_295 rfl ?_
          refine tt_iadd dL_law_296 ?_
          refine tt_sld (xi := (b, L, xs)) dL_law_297 (sc_in hx hL) ?_
          refine tt_i2l dL_law_298 ?_
          refine tt_bipush (v := 32) dL_law_299 rfl ?_
          refine tt_lshl dL_law_301 ?_
          refine tt_aload_n (j := 5) dL_law_302 rfl ?_
          refine tt_iload (j := 1) dL_law_303 rfl ?_
          refine tt_iconst (v := 3) dL_law_305 rfl ?_
          refine tt_iadd dL_law_306 ?_
          refine tt_sld (xi := (b, L, xs)) dL_law_307 (sc_in hx hL) ?_
          refine tt_i2l dL_law_308 ?_
          refine tt_ldc2 (v := 4294967295) dL_law_309 kl_L_67 ?_
          refine tt_land dL_law_312 ?_
          refine tt_lor dL_law_313 ?_
          refine tt_aload_n (j := 5) dL_law_314 rfl ?_
          refine tt_iload (j := 1) dL_law_315 rfl ?_
          refine tt_iconst (v := 4) dL_law_317 rfl ?_
          refine tt_iadd dL_law_318 ?_
          refine tt_sld (xi := (b, L, xs)) dL_law_319 (sc_in hx hL) ?_
          refine tt_i2l dL_law_320 ?_
          refine tt_bipush (v := 32) dL_law_321 rfl ?_
          refine tt_lshl dL_law_323 ?_
          refine tt_aload_n (j := 5) dL_law_324 rfl ?_
          refine tt_iload (j := 1) dL_law_325 rfl ?_
          refine tt_iconst (v := 5) dL_law_327 rfl ?_
          refine tt_iadd dL_law_328 ?_
          refine tt_sld (xi := (b, L, xs)) dL_law_329 (sc_in hx hL) ?_
          refine tt_i2l dL_law_330 ?_
          refine tt_ldc2 (v := 4294967295) dL_law_331 kl_L_67 ?_
          refine tt_land dL_law_334 ?_
          refine tt_lor dL_law_335 ?_
          refine tt_aload_n (j := 5) dL_law_336 rfl ?_
          refine tt_iload (j := 1) dL_law_337 rfl ?_
          refine tt_bipush (v := 6) dL_law_339 rfl ?_
          refine tt_iadd dL_law_341 ?_
          refine tt_sld (xi := (b, L, xs)) dL_law_342 (sc_in hx hL) ?_
          refine tt_i2l dL_law_343 ?_
          refine tt_bipush (v := 32) dL_law_344 rfl ?_
          refine tt_lshl dL_law_346 ?_
          refine tt_aload_n (j := 5) dL_law_347 rfl ?_
          refine tt_iload (j := 1) dL_law_348 rfl ?_
          refine tt_bipush (v := 7) dL_law_350 rfl ?_
          refine tt_iadd dL_law_352 ?_
          refine tt_sld (xi := (b, L, xs)) dL_law_353 (sc_in hx hL) ?_
          refine tt_i2l dL_law_354 ?_
          refine tt_ldc2 (v := 4294967295) dL_law_355 kl_L_67 ?_
          refine tt_land dL_law_358 ?_
          refine tt_lor dL_law_359 ?_
          refine gt_Vv (As := [.int (xs (x4 + 1).toNatClampNeg), .long ((((xs (x4 + 2).toNatClampNeg) : Int32).toInt64 <<< ((32 : Int32).toInt64 &&& 63)) ||| (((xs (x4 + 3).toNatClampNeg) : Int32).toInt64 &&& 4294967295)), .long ((((xs (x4 + 4).toNatClampNeg) : Int32).toInt64 <<< ((32 : Int32).toInt64 &&& 63)) ||| (((xs (x4 + 5).toNatClampNeg) : Int32).toInt64 &&& 4294967295)), .long ((((xs (x4 + 6).toNatClampNeg) : Int32).toInt64 <<< ((32 : Int32).toInt64 &&& 63)) ||| (((xs (x4 + 7).toNatClampNeg) : Int32).toInt64 &&& 4294967295))]) dL_law_360 ca_L_72 ⟨by decide, by decide⟩ h2 hA143 rfl (Nat.le_of_ble_eq_true rfl) (Nat.le_of_ble_eq_true rfl) (by decide) (cy_X10_given (rk_gi rfl hG141) hG141 (oa_af h2 hA143) (fun _ _ _ _ h => h)) rfl (fun _ h => nomatch h) (fun S149 hx152 hG153 hB154 hA155 => ?_)
          obtain ⟨-, hy1, hy2, -⟩ | ⟨-, -, a157⟩ := hx152
          · exact absurd hy2 ht9
          have li156 := lj_af li144 hG141 (oa_af h1 hA143) (oa_af h2 hA143) (oa_af hpo hA143) a157
          have by158 := by_af by147 (oa_af hob hA143) (oa_af hom hA143) hB154
          have rl159 := rel_af rl145 (oa_af h2 hA143) hB154
          have er160 := (hB154.2.2.2.1 (by decide)).2.trans er146
          have cn161 := cn_af cn148 (oa_af hc1 hA143) (oa_af h2 hA143) hB154
          refine tt_goto (tgt := 817) dL_law_363 rfl ?_
          exact tt_loc (ks := [1, 2, 3, 4, 5]) rfl (hJ S149 (k - 1) (n - 6) hG153 hA155 rl159 cn161 by158 li156 (by rw [er160]; omega) (by rw [er160]; omega))
      · skip
        refine gt_SW (As := [.ref o1, .int (xs (x4 + 1).toNatClampNeg), .long ((((xs (x4 + 2).toNatClampNeg) : Int32).toInt64 <<< ((32 : Int32).toInt64 &&& 63)) ||| (((xs (x4 + 3).toNatClampNeg) : Int32).toInt64 &&& 4294967295)), .long ((((xs (x4 + 4).toNatClampNeg) : Int32).toInt64 <<< ((32 : Int32).toInt64 &&& 63)) ||| (((xs (x4 + 5).toNatClampNeg) : Int32).toInt64 &&& 4294967295)), .long ((((xs (x4 + 6).toNatClampNeg) : Int32).toInt64 <<< ((32 : Int32).toInt64 &&& 63)) ||| (((xs (x4 + 7).toNatClampNeg) : Int32).toInt64 &&& 4294967295))]) dL_law_280 ca_L_69 ⟨by decide, by decide⟩ hA (Nat.le_of_ble_eq_true rfl) (Nat.le_of_ble_eq_true rfl) (by decide) (by omega) (by omega) (cywn_L_given hG h1 hr9 (fun _ _ _ _ h => h)) (fun S162 z163 hz164 hG165 hB166 hA167 => ?_)
        have li168 := lj_af hli hG (oa_af h1 hA) (oa_af h2 hA) (oa_af hpo hA) hB166
        have rl169 := rel_af hrel (oa_af h2 hA) hB166
        have er170 := (hB166.2.2.2.1 (by decide)).2.trans er0
        have by171 := by_af hby (oa_af hob hA) (oa_af hom hA) hB166
        have cn172 := cn_af hcn (oa_af hc1 hA) (oa_af h2 hA) hB166
        obtain rfl : z163 = 1 := hz164
        refine tt_istore (ks := [0, 1, 2, 3, 4, 5]) (L' := [(5, .int 1), (4, .int x4), (3, .ref o3), (2, .ref o2), (1, .ref o1), (0, .ref b)]) dL_law_283 (by decide) rfl ?_
        refine tt_aload_n (j := 3) dL_law_285 rfl ?_
        refine tt_aload_n (j := 5) dL_law_286 rfl ?_
        refine tt_iload (j := 1) dL_law_287 rfl ?_
        refine tt_iconst (v := 1) dL_law_289 rfl ?_
        refine tt_iadd dL_law_290 ?_
        refine tt_sld (xi := (b, L, xs)) dL_law_291 (sc_in hx hL) ?_
        refine tt_aload_n (j := 5) dL_law_292 rfl ?_
        refine tt_iload (j := 1) dL_law_293 rfl ?_
        refine tt_iconst (v := 2) dL_law_295 rfl ?_
        refine tt_iadd dL_law_296 ?_
        refine tt_sld (xi := (b, L, xs)) dL_law_297 (sc_in hx hL) ?_
        refine tt_i2l dL_law_298 ?_
        refine tt_bipush (v := 32) dL_law_299 rfl ?_
        refine tt_lshl dL_law_301 ?_
        refine tt_aload_n (j := 5) dL_law_302 rfl ?_
        refine tt_iload (j := 1) dL_law_303 rfl ?_
        refine tt_iconst (v := 3) dL_law_305 rfl ?_
        refine tt_iadd dL_law_306 ?_
        refine tt_sld (xi := (b, L, xs)) dL_law_307 (sc_in hx hL) ?_
        refine tt_i2l dL_law_308 ?_
        refine tt_ldc2 (v := 4294967295) dL_law_309 kl_L_67 ?_
        refine tt_land dL_law_312 ?_
        refine tt_lor dL_law_313 ?_
        refine tt_aload_n (j := 5) dL_law_314 rfl ?_
        refine tt_iload (j := 1) dL_law_315 rfl ?_
        refine tt_iconst (v := 4) dL_law_317 rfl ?_
        refine tt_iadd dL_law_318 ?_
        refine tt_sld (xi := (b, L, xs)) dL_law_319 (sc_in hx hL) ?_
        refine tt_i2l dL_law_320 ?_
        refine tt_bipush (v := 32) dL_law_321 rfl ?_
        refine tt_lshl dL_law_323 ?_
        refine tt_aload_n (j := 5) dL_law_324 rfl ?_
        refine tt_iload (j := 1) dL_law_325 rfl ?_
        refine tt_iconst (v := 5) dL_law_327 rfl ?_
        refine tt_iadd dL_law_328 ?_
        refine tt_sld (xi := (b, L, xs)) dL_law_329 (sc_in hx hL) ?_
        refine tt_i2l dL_law_330 ?_
        refine tt_ldc2 (v := 4294967295) dL_law_331 kl_L_67 ?_
        refine tt_land dL_law_334 ?_
        refine tt_lor dL_law_335 ?_
        refine tt_aload_n (j := 5) dL_law_336 rfl ?_
        refine tt_iload (j := 1) dL_law_337 rfl ?_
        refine tt_bipush (v := 6) dL_law_339 rfl ?_
        refine tt_iadd dL_law_341 ?_
        refine tt_sld (xi := (b, L, xs)) dL_law_342 (sc_in hx hL) ?_
        refine tt_i2l dL_law_343 ?_
        refine tt_bipush (v := 32) dL_law_344 rfl ?_
        refine tt_lshl dL_law_346 ?_
        refine tt_aload_n (j := 5) dL_law_347 rfl ?_
        refine tt_iload (j := 1) dL_law_348 rfl ?_
        refine tt_bipush (v := 7) dL_law_350 rfl ?_
        refine tt_iadd dL_law_352 ?_
        refine tt_sld (xi := (b, L, xs)) dL_law_353 (sc_in hx hL) ?_
        refine tt_i2l dL_law_354 ?_
        refine tt_ldc2 (v := 4294967295) dL_law_355 kl_L_67 ?_
        refine tt_land dL_law_358 ?_
        refine tt_lor dL_law_359 ?_
        refine gt_Vv (As := [.int (xs (x4 + 1).toNatClampNeg), .long ((((xs (x4 + 2).toNatClampNeg) : Int32).toInt64 <<< ((32 : Int32).toInt64 &&& 63)) ||| (((xs (x4 + 3).toNatClampNeg) : Int32).toInt64 &&& 4294967295)), .long ((((xs (x4 + 4).toNatClampNeg) : Int32).toInt64 <<< ((32 : Int32).toInt64 &&& 63)) ||| (((xs (x4 + 5).toNatClampNeg) : Int32).toInt64 &&& 4294967295)), .long ((((xs (x4 + 6).toNatClampNeg) : Int32).toInt64 <<< ((32 : Int32).toInt64 &&& 63)) ||| (((xs (x4 + 7).toNatClampNeg) : Int32).toInt64 &&& 4294967295))]) dL_law_360 ca_L_72 ⟨by decide, by decide⟩ h2 hA167 rfl (Nat.le_of_ble_eq_true rfl) (Nat.le_of_ble_eq_true rfl) (by decide) (cy_X10_given (rk_gi rfl hG165) hG165 (oa_af h2 hA167) (fun _ _ _ _ h => h)) rfl (fun _ h => nomatch h) (fun S173 hx176 hG177 hB178 hA179 => ?_)
        obtain ⟨-, hy1, hy2, -⟩ | ⟨-, -, a181⟩ := hx176
        · exact absurd hy1 hr9
        have li180 := lj_af li168 hG165 (oa_af h1 hA167) (oa_af h2 hA167) (oa_af hpo hA167) a181
        have by182 := by_af by171 (oa_af hob hA167) (oa_af hom hA167) hB178
        have rl183 := rel_af rl169 (oa_af h2 hA167) hB178
        have er184 := (hB178.2.2.2.1 (by decide)).2.trans er170
        have cn185 := cn_af cn172 (oa_af hc1 hA167) (oa_af h2 hA167) hB178
        refine tt_goto (tgt := 817) dL_law_363 rfl ?_
        exact tt_loc (ks := [1, 2, 3, 4, 5]) rfl (hJ S173 (k - 1) (n - 6) hG177 hA179 rl183 cn185 by182 li180 (by rw [er184]; omega) (by rw [er184]; omega))
    · skip
      refine tt_aload_n (j := 3) dL_law_366 rfl ?_
      refine tt_aload_n (j := 4) dL_law_367 rfl ?_
      refine tt_iload (j := 0) dL_law_368 rfl ?_
      refine tt_iconst (v := 1) dL_law_370 rfl ?_
      refine tt_iadd dL_law_371 ?_
      refine tt_sld (xi := (b, L, xs)) dL_law_372 (sc_in hx hL) ?_
      by_cases hr9 : Rg 0 23 (xs (x4 + 1).toNatClampNeg)
      · skip
        refine gt_SX (As := [.ref o1, .int (xs (x4 + 1).toNatClampNeg)]) dL_law_373 ca_L_73 ⟨by decide, by decide⟩ hA (Nat.le_of_ble_eq_true rfl) (Nat.le_of_ble_eq_true rfl) (by decide) (by omega) (by omega) (cywo_L_any (rk_gi rfl hG) hG h1 hr9 (fun _ _ _ _ h => h)) (fun S186 z187 hz188 hG189 hB190 hA191 => ?_)
        obtain ⟨hz188, ek192⟩ := hz188
        have rl193 := rel_af hrel (oa_af h2 hA) hB190
        have er194 := (hB190.2.2.2.1 (by decide)).2.trans er0
        have by195 := by_af hby (oa_af hob hA) (oa_af hom hA) hB190
        have cn196 := cn_af hcn (oa_af hc1 hA) (oa_af h2 hA) hB190
        obtain rfl : z187 = 0 := hz188
        refine tt_istore (ks := [0, 1, 2, 3, 4, 5]) (L' := [(5, .int 0), (4, .int x4), (3, .ref o3), (2, .ref o2), (1, .ref o1), (0, .ref b)]) dL_law_376 (by decide) rfl ?_
        refine tt_aload_n (j := 3) dL_law_378 rfl ?_
        refine tt_aload_n (j := 5) dL_law_379 rfl ?_
        refine tt_iload (j := 1) dL_law_380 rfl ?_
        refine tt_iconst (v := 1) dL_law_382 rfl ?_
        refine tt_iadd dL_law_383 ?_
        refine tt_sld (xi := (b, L, xs)) dL_law_384 (sc_in hx hL) ?_
        refine gt_Vv (As := [.int (xs (x4 + 1).toNatClampNeg)]) dL_law_385 ca_L_76 ⟨by decide, by decide⟩ h2 hA191 rfl (Nat.le_of_ble_eq_true rfl) (Nat.le_of_ble_eq_true rfl) (by decide) (cyo_X10_any (rk_gi rfl hG189) hG189 (oa_af h2 hA191) hr9 (fun _ _ _ _ h => h)) rfl (fun _ h => nomatch h) (fun S197 hx200 hG201 hB202 hA203 => ?_)
        obtain ⟨-, _, a206, e205⟩ := hx200
        have li204 := lj_any hli hG h1 h2 hpo hr9 hB190 ek192 hG189 hB202 a206 e205
        have by207 := by_af by195 (oa_af hob hA191) (oa_af hom hA191) hB202
        have rl208 := rel_af rl193 (oa_af h2 hA191) hB202
        have er209 := (hB202.2.2.2.1 (by decide)).2.trans er194
        have cn210 := cn_af cn196 (oa_af hc1 hA191) (oa_af h2 hA191) hB202
        refine tt_goto (tgt := 817) dL_law_388 rfl ?_
        exact tt_loc (ks := [1, 2, 3, 4, 5]) rfl (hJ S197 (k - 1) (n - 6) hG201 hA203 rl208 cn210 by207 li204 (by rw [er209]; omega) (by rw [er209]; omega))
      · skip
        refine gt_SW (As := [.ref o1, .int (xs (x4 + 1).toNatClampNeg)]) dL_law_373 ca_L_73 ⟨by decide, by decide⟩ hA (Nat.le_of_ble_eq_true rfl) (Nat.le_of_ble_eq_true rfl) (by decide) (by omega) (by omega) (cywn_L_any hG h1 hr9 (fun _ _ _ _ h => h)) (fun S211 z212 hz213 hG214 hB215 hA216 => ?_)
        have li217 := lj_af hli hG (oa_af h1 hA) (oa_af h2 hA) (oa_af hpo hA) hB215
        have rl218 := rel_af hrel (oa_af h2 hA) hB215
        have er219 := (hB215.2.2.2.1 (by decide)).2.trans er0
        have by220 := by_af hby (oa_af hob hA) (oa_af hom hA) hB215
        have cn221 := cn_af hcn (oa_af hc1 hA) (oa_af h2 hA) hB215
        obtain rfl : z212 = 1 := hz213
        refine tt_istore (ks := [0, 1, 2, 3, 4, 5]) (L' := [(5, .int 1), (4, .int x4), (3, .ref o3), (2, .ref o2), (1, .ref o1), (0, .ref b)]) dL_law_376 (by decide) rfl ?_
        refine tt_aload_n (j := 3) dL_law_378 rfl ?_
        refine tt_aload_n (j := 5) dL_law_379 rfl ?_
        refine tt_iload (j := 1) dL_law_380 rfl ?_
        refine tt_iconst (v := 1) dL_law_382 rfl ?_
        refine tt_iadd dL_law_383 ?_
        refine tt_sld (xi := (b, L, xs)) dL_law_384 (sc_in hx hL) ?_
        refine gt_Vv (As := [.int (xs (x4 + 1).toNatClampNeg)]) dL_law_385 ca_L_76 ⟨by decide, by decide⟩ h2 hA216 rfl (Nat.le_of_ble_eq_true rfl) (Nat.le_of_ble_eq_true rfl) (by decide) (cyn_X10_any hG214 (oa_af h2 hA216) hr9 (fun _ _ _ _ h => h)) rfl (fun _ h => nomatch h) (fun S222 hx225 hG226 hB227 hA228 => ?_)
        have li229 := lj_af li217 hG214 (oa_af h1 hA216) (oa_af h2 hA216) (oa_af hpo hA216) hB227
        have by230 := by_af by220 (oa_af hob hA216) (oa_af hom hA216) hB227
        have rl231 := rel_af rl218 (oa_af h2 hA216) hB227
        have er232 := (hB227.2.2.2.1 (by decide)).2.trans er219
        have cn233 := cn_af cn221 (oa_af hc1 hA216) (oa_af h2 hA216) hB227
        refine tt_goto (tgt := 817) dL_law_388 rfl ?_
        exact tt_loc (ks := [1, 2, 3, 4, 5]) rfl (hJ S222 (k - 1) (n - 6) hG226 hA228 rl231 cn233 by230 li229 (by rw [er232]; omega) (by rw [er232]; omega))
    · skip
      refine tt_aload_n (j := 3) dL_law_391 rfl ?_
      refine tt_aload_n (j := 4) dL_law_392 rfl ?_
      refine tt_iload (j := 0) dL_law_393 rfl ?_
      refine tt_iconst (v := 1) dL_law_395 rfl ?_
      refine tt_iadd dL_law_396 ?_
      refine tt_sld (xi := (b, L, xs)) dL_law_397 (sc_in hx hL) ?_
      refine tt_aload_n (j := 4) dL_law_398 rfl ?_
      refine tt_iload (j := 0) dL_law_399 rfl ?_
      refine tt_iconst (v := 2) dL_law_401 rfl ?_
      refine tt_iadd dL_law_402 ?_
      refine tt_sld (xi := (b, L, xs)) dL_law_403 (sc_in hx hL) ?_
      refine tt_aload_n (j := 1) dL_law_404 rfl ?_
      refine gt_SW (As := [.ref o1, .int (xs (x4 + 1).toNatClampNeg), .int (xs (x4 + 2).toNatClampNeg), .ref o3]) dL_law_405 ca_L_77 ⟨by decide, by decide⟩ hA (Nat.le_of_ble_eq_true rfl) (Nat.le_of_ble_eq_true rfl) (by decide) (by omega) (by omega) (cw_L_decode hG (oa_af h1 hA) (oa_af h3 hA) (fun _ _ _ _ h => h)) (fun S234 z235 hz236 hG237 hB238 hA239 => ?_)
      have li240 := lj_af hli hG (oa_af h1 hA) (oa_af h2 hA) (oa_af hpo hA) hB238
      have rl241 := rel_af hrel (oa_af h2 hA) hB238
      have er242 := (hB238.2.2.2.1 (by decide)).2.trans er0
      have by243 := by_af hby (oa_af hob hA) (oa_af hom hA) hB238
      have cn244 := cn_af hcn (oa_af hc1 hA) (oa_af h2 hA) hB238
      refine tt_istore (ks := [0, 1, 2, 3, 4, 5]) (L' := [(5, .int z235), (4, .int x4), (3, .ref o3), (2, .ref o2), (1, .ref o1), (0, .ref b)]) dL_law_408 (by decide) rfl ?_
      refine tt_aload_n (j := 3) dL_law_410 rfl ?_
      refine tt_aload_n (j := 5) dL_law_411 rfl ?_
      refine tt_iload (j := 1) dL_law_412 rfl ?_
      refine tt_iconst (v := 1) dL_law_414 rfl ?_
      refine tt_iadd dL_law_415 ?_
      refine tt_sld (xi := (b, L, xs)) dL_law_416 (sc_in hx hL) ?_
      refine tt_aload_n (j := 5) dL_law_417 rfl ?_
      refine tt_iload (j := 1) dL_law_418 rfl ?_
      refine tt_iconst (v := 2) dL_law_420 rfl ?_
      refine tt_iadd dL_law_421 ?_
      refine tt_sld (xi := (b, L, xs)) dL_law_422 (sc_in hx hL) ?_
      refine gt_VI (As := [.int (xs (x4 + 1).toNatClampNeg), .int (xs (x4 + 2).toNatClampNeg)]) dL_law_423 ca_L_80 ⟨by decide, by decide⟩ h2 hA239 rfl (Nat.le_of_ble_eq_true rfl) (Nat.le_of_ble_eq_true rfl) (by decide) (cs_X10_decode hG237 (oa_af h2 hA239) (fun _ _ _ _ h => h)) rfl (fun _ h => nomatch h) (fun S245 v246 hz247 hx248 hG249 hB250 hA251 => ?_)
      have li252 := lj_af li240 hG237 (oa_af h1 hA239) (oa_af h2 hA239) (oa_af hpo hA239) hB250
      have by253 := by_af by243 (oa_af hob hA239) (oa_af hom hA239) hB250
      have rl254 := rel_af rl241 (oa_af h2 hA239) hB250
      have er255 := (hB250.2.2.2.1 (by decide)).2.trans er242
      have cn256 := cn_af cn244 (oa_af hc1 hA239) (oa_af h2 hA239) hB250
      refine tt_istore (ks := [0, 1, 2, 3, 4, 5, 6]) (L' := [(6, .int v246), (5, .int z235), (4, .int x4), (3, .ref o3), (2, .ref o2), (1, .ref o1), (0, .ref b)]) dL_law_426 (by decide) rfl ?_
      refine tt_goto (tgt := 817) dL_law_428 rfl ?_
      exact tt_loc (ks := [2, 3, 4, 5, 6]) rfl (hJ S245 (k - 1) (n - 6) hG249 hA251 rl254 cn256 by253 li252 (by rw [er255]; omega) (by rw [er255]; omega))
    · skip
      refine tt_aload_n (j := 3) dL_law_431 rfl ?_
      refine tt_aload_n (j := 4) dL_law_432 rfl ?_
      refine tt_iload (j := 0) dL_law_433 rfl ?_
      refine tt_iconst (v := 1) dL_law_435 rfl ?_
      refine tt_iadd dL_law_436 ?_
      refine tt_sld (xi := (b, L, xs)) dL_law_437 (sc_in hx hL) ?_
      refine tt_aload_n (j := 1) dL_law_438 rfl ?_
      refine gt_SW (As := [.ref o1, .int (xs (x4 + 1).toNatClampNeg), .ref o3]) dL_law_439 ca_L_81 ⟨by decide, by decide⟩ hA (Nat.le_of_ble_eq_true rfl) (Nat.le_of_ble_eq_true rfl) (by decide) (by omega) (by omega) (cw_L_constant hG (oa_af h1 hA) (oa_af h3 hA) (fun _ _ _ _ h => h)) (fun S257 z258 hz259 hG260 hB261 hA262 => ?_)
      have li263 := lj_af hli hG (oa_af h1 hA) (oa_af h2 hA) (oa_af hpo hA) hB261
      have rl264 := rel_af hrel (oa_af h2 hA) hB261
      have er265 := (hB261.2.2.2.1 (by decide)).2.trans er0
      have by266 := by_af hby (oa_af hob hA) (oa_af hom hA) hB261
      have cn267 := cn_af hcn (oa_af hc1 hA) (oa_af h2 hA) hB261
      refine tt_istore (ks := [0, 1, 2, 3, 4, 5]) (L' := [(5, .int z258), (4, .int x4), (3, .ref o3), (2, .ref o2), (1, .ref o1), (0, .ref b)]) dL_law_442 (by decide) rfl ?_
      refine tt_aload_n (j := 3) dL_law_444 rfl ?_
      refine tt_aload_n (j := 5) dL_law_445 rfl ?_
      refine tt_iload (j := 1) dL_law_446 rfl ?_
      refine tt_iconst (v := 1) dL_law_448 rfl ?_
      refine tt_iadd dL_law_449 ?_
      refine tt_sld (xi := (b, L, xs)) dL_law_450 (sc_in hx hL) ?_
      refine gt_VJ (As := [.int (xs (x4 + 1).toNatClampNeg)]) dL_law_451 ca_L_84 ⟨by decide, by decide⟩ h2 hA262 rfl (Nat.le_of_ble_eq_true rfl) (Nat.le_of_ble_eq_true rfl) (by decide) (cs_X10_constant hG260 (oa_af h2 hA262) (fun _ _ _ _ h => h)) rfl (fun _ h => nomatch h) (fun S268 v269 hx271 hG272 hB273 hA274 => ?_)
      have li275 := lj_af li263 hG260 (oa_af h1 hA262) (oa_af h2 hA262) (oa_af hpo hA262) hB273
      have by276 := by_af by266 (oa_af hob hA262) (oa_af hom hA262) hB273
      have rl277 := rel_af rl264 (oa_af h2 hA262) hB273
      have er278 := (hB273.2.2.2.1 (by decide)).2.trans er265
      have cn279 := cn_af cn267 (oa_af hc1 hA262) (oa_af h2 hA262) hB273
      refine tt_lstore (ks := [0, 1, 2, 3, 4, 5, 6]) (L' := [(6, .long v269), (5, .int z258), (4, .int x4), (3, .ref o3), (2, .ref o2), (1, .ref o1), (0, .ref b)]) dL_law_454 (by decide) rfl ?_
      refine tt_goto (tgt := 817) dL_law_456 rfl ?_
      exact tt_loc (ks := [2, 3, 4, 5, 6]) rfl (hJ S268 (k - 1) (n - 6) hG272 hA274 rl277 cn279 by276 li275 (by rw [er278]; omega) (by rw [er278]; omega))
    · skip
      refine tt_aload_n (j := 3) dL_law_459 rfl ?_
      obtain ⟨t9, ht9⟩ := ctb_any hli.1.1 hli.1.2.1
      refine gt_BI (pa := pa) (As := []) dL_law_460 ca_L_85 ⟨by decide, by decide⟩ h1 hA rfl (Nat.le_of_ble_eq_true rfl) (Nat.le_of_ble_eq_true rfl) (by decide) (ck_look (n := hp_I S 65 c1) (bs := hp_i S ab) (f := sT S (RR S 578 o1)) (r := sC S (RR S 578 o1)) rfl hG h1 hlk (by have h9 := hpa; rw [hlk] at h9; exact h9) (by omega) (by omega) ht9 (by rw [rr_R hlc]) (by rw [rr_R hlj]; exact ⟨c1, ab, hrj, hc1, hrb, hob, rfl, rfl⟩) (fun i => by rw [hby.1]; exact hby.2 i) (fun _ _ => rfl) rfl (fun _ _ _ _ h => h)) rfl (fun S280 v281 k287 n288 hz282 hx283 hG284 hB285 hA286 bd289 => ?_)
      have rl290 := rel_af hrel (oa_af h2 hA) hB285
      have er291 : hp_r S280 = hp_r S280 := rfl
      have cn292 := cn_af hcn (oa_af hc1 hA) (oa_af h2 hA) hB285
      have by293 := by_af hby (oa_af hob hA) (oa_af hom hA) hB285
      refine tt_pop dL_law_463 rfl ?_
      refine tt_aload_n (j := 2) dL_law_464 rfl ?_
      refine gt_VI (As := []) dL_law_465 ca_L_88 ⟨by decide, by decide⟩ h2 hA286 rfl (Nat.le_of_ble_eq_true rfl) (Nat.le_of_ble_eq_true rfl) (by decide) (cg_look (n := hp_I S 65 c1) (bs := hp_i S ab) (f := sT S (RR S 578 o1)) (r := sC S (RR S 578 o1)) hG284 (oa_af h2 hA286) (rk_gi rfl hG284) (d4_uq (csp_uq hx283) (rk_gi rfl hG284) (oa_af h2 hA286)) (d9_uq (csp_uq hx283) (rk_gi rfl hG284) (oa_af h2 hA286)) (d8_uq (csp_uq hx283) (rk_gi rfl hG284) (oa_af h2 hA286)) (br_af (bs := hp_i S ab) (n := hp_I S 65 c1) ⟨am, hrm, hom, hby.1.symm, hcn.symm⟩ h2 hB285) (fun i => by rw [hby.1]; exact hby.2 i) (li_en hli.1 hG h1 h2 hB285).1 (li_en hli.1 hG h1 h2 hB285).2 (fun _ _ _ _ h => h)) rfl (fun _ h => nomatch h) (fun S294 v295 hz296 hx297 hG298 hB299 hA300 => ?_)
      obtain ⟨ev301, li302⟩ := lj_look hli hG h1 h2 hpo hcn.symm hB285 hx283 hG284 hB299 hx297
      have by303 := by_af by293 (oa_af hob hA286) (oa_af hom hA286) hB299
      have rl304 := rel_af rl290 (oa_af h2 hA286) hB299
      have er305 := (hB299.2.2.2.1 (by decide)).2.trans er291
      have cn306 := cn_af cn292 (oa_af hc1 hA286) (oa_af h2 hA286) hB299
      refine tt_pop dL_law_468 rfl ?_
      refine tt_goto (tgt := 817) dL_law_469 rfl ?_
      exact tt_loc (ks := [0, 1, 2, 3, 4]) rfl (hJ S294 k287 n288 hG298 hA300 rl304 cn306 by303 li302 (by have q1 := bd289.1; have q2 := bd289.2; rw [er305]; omega) (by have q1 := bd289.1; have q2 := bd289.2; rw [er305]; omega))
    · skip
      refine tt_aload_n (j := 3) dL_law_472 rfl ?_
      refine tt_aload_n (j := 4) dL_law_473 rfl ?_
      refine tt_iload (j := 0) dL_law_474 rfl ?_
      refine tt_iconst (v := 1) dL_law_476 rfl ?_
      refine tt_iadd dL_law_477 ?_
      refine tt_sld (xi := (b, L, xs)) dL_law_478 (sc_in hx hL) ?_
      refine gt_VIp (As := [.int (xs (x4 + 1).toNatClampNeg)]) dL_law_479 ca_L_89 ⟨by decide, by decide⟩ h1 hA rfl (Nat.le_of_ble_eq_true rfl) (Nat.le_of_ble_eq_true rfl) (by decide) (cs_X9_reached hG (oa_af h1 hA) (fun _ _ _ _ h => h)) rfl (fun _ h => nomatch h) (fun _ _ q => q) (fun v308 hz309 hx310 => ?_)
      refine tt_pop dL_law_482 rfl ?_
      refine tt_aload_n (j := 2) dL_law_483 rfl ?_
      refine tt_aload_n (j := 4) dL_law_484 rfl ?_
      refine tt_iload (j := 0) dL_law_485 rfl ?_
      refine tt_iconst (v := 1) dL_law_487 rfl ?_
      refine tt_iadd dL_law_488 ?_
      refine tt_sld (xi := (b, L, xs)) dL_law_489 (sc_in hx hL) ?_
      refine gt_VI (As := [.int (xs (x4 + 1).toNatClampNeg)]) dL_law_490 ca_L_92 ⟨by decide, by decide⟩ h2 hA rfl (Nat.le_of_ble_eq_true rfl) (Nat.le_of_ble_eq_true rfl) (by decide) (cs_X10_reached hG (oa_af h2 hA) (fun _ _ _ _ h => h)) rfl (fun _ h => nomatch h) (fun S314 v315 hz316 hx317 hG318 hB319 hA320 => ?_)
      have li321 := lj_af hli hG (oa_af h1 hA) (oa_af h2 hA) (oa_af hpo hA) hB319
      have by322 := by_af hby (oa_af hob hA) (oa_af hom hA) hB319
      have rl323 := rel_af hrel (oa_af h2 hA) hB319
      have er324 := (hB319.2.2.2.1 (by decide)).2.trans er0
      have cn325 := cn_af hcn (oa_af hc1 hA) (oa_af h2 hA) hB319
      refine tt_pop dL_law_493 rfl ?_
      refine tt_goto (tgt := 817) dL_law_494 rfl ?_
      exact tt_loc (ks := [0, 1, 2, 3, 4]) rfl (hJ S314 k n hG318 hA320 rl323 cn325 by322 li321 (by rw [er324]; omega) (by rw [er324]; omega))
    · skip
      refine tt_aload_n (j := 3) dL_law_497 rfl ?_
      refine tt_aload_n (j := 4) dL_law_498 rfl ?_
      refine tt_iload (j := 0) dL_law_499 rfl ?_
      refine tt_iconst (v := 1) dL_law_501 rfl ?_
      refine tt_iadd dL_law_502 ?_
      refine tt_sld (xi := (b, L, xs)) dL_law_503 (sc_in hx hL) ?_
      refine tt_aload_n (j := 4) dL_law_504 rfl ?_
      refine tt_iload (j := 0) dL_law_505 rfl ?_
      refine tt_iconst (v := 2) dL_law_507 rfl ?_
      refine tt_iadd dL_law_508 ?_
      refine tt_sld (xi := (b, L, xs)) dL_law_509 (sc_in hx hL) ?_
      refine tt_aload_n (j := 4) dL_law_510 rfl ?_
      refine tt_iload (j := 0) dL_law_511 rfl ?_
      refine tt_iconst (v := 3) dL_law_513 rfl ?_
      refine tt_iadd dL_law_514 ?_
      refine tt_sld (xi := (b, L, xs)) dL_law_515 (sc_in hx hL) ?_
      refine tt_aload_n (j := 1) dL_law_516 rfl ?_
      refine gt_SW (As := [.ref o1, .int (xs (x4 + 1).toNatClampNeg), .int (xs (x4 + 2).toNatClampNeg), .int (xs (x4 + 3).toNatClampNeg), .ref o3]) dL_law_517 ca_L_93 ⟨by decide, by decide⟩ hA (Nat.le_of_ble_eq_true rfl) (Nat.le_of_ble_eq_true rfl) (by decide) (by omega) (by omega) (cw_L_set hG (oa_af h1 hA) (oa_af h3 hA) (fun _ _ _ _ h => h)) (fun S326 z327 hz328 hG329 hB330 hA331 => ?_)
      have li332 := lj_af hli hG (oa_af h1 hA) (oa_af h2 hA) (oa_af hpo hA) hB330
      have rl333 := rel_af hrel (oa_af h2 hA) hB330
      have er334 := (hB330.2.2.2.1 (by decide)).2.trans er0
      have by335 := by_af hby (oa_af hob hA) (oa_af hom hA) hB330
      have cn336 := cn_af hcn (oa_af hc1 hA) (oa_af h2 hA) hB330
      refine tt_istore (ks := [0, 1, 2, 3, 4, 5]) (L' := [(5, .int z327), (4, .int x4), (3, .ref o3), (2, .ref o2), (1, .ref o1), (0, .ref b)]) dL_law_520 (by decide) rfl ?_
      refine tt_aload_n (j := 3) dL_law_522 rfl ?_
      refine tt_aload_n (j := 5) dL_law_523 rfl ?_
      refine tt_iload (j := 1) dL_law_524 rfl ?_
      refine tt_iconst (v := 1) dL_law_526 rfl ?_
      refine tt_iadd dL_law_527 ?_
      refine tt_sld (xi := (b, L, xs)) dL_law_528 (sc_in hx hL) ?_
      refine tt_aload_n (j := 5) dL_law_529 rfl ?_
      refine tt_iload (j := 1) dL_law_530 rfl ?_
      refine tt_iconst (v := 2) dL_law_532 rfl ?_
      refine tt_iadd dL_law_533 ?_
      refine tt_sld (xi := (b, L, xs)) dL_law_534 (sc_in hx hL) ?_
      refine tt_aload_n (j := 5) dL_law_535 rfl ?_
      refine tt_iload (j := 1) dL_law_536 rfl ?_
      refine tt_iconst (v := 3) dL_law_538 rfl ?_
      refine tt_iadd dL_law_539 ?_
      refine tt_sld (xi := (b, L, xs)) dL_law_540 (sc_in hx hL) ?_
      refine gt_VJ (As := [.int (xs (x4 + 1).toNatClampNeg), .int (xs (x4 + 2).toNatClampNeg), .int (xs (x4 + 3).toNatClampNeg)]) dL_law_541 ca_L_96 ⟨by decide, by decide⟩ h2 hA331 rfl (Nat.le_of_ble_eq_true rfl) (Nat.le_of_ble_eq_true rfl) (by decide) (cs_X10_set hG329 (oa_af h2 hA331) (fun _ _ _ _ h => h)) rfl (fun _ h => nomatch h) (fun S337 v338 hx340 hG341 hB342 hA343 => ?_)
      have li344 := lj_af li332 hG329 (oa_af h1 hA331) (oa_af h2 hA331) (oa_af hpo hA331) hB342
      have by345 := by_af by335 (oa_af hob hA331) (oa_af hom hA331) hB342
      have rl346 := rel_af rl333 (oa_af h2 hA331) hB342
      have er347 := (hB342.2.2.2.1 (by decide)).2.trans er334
      have cn348 := cn_af cn336 (oa_af hc1 hA331) (oa_af h2 hA331) hB342
      refine tt_lstore (ks := [0, 1, 2, 3, 4, 5, 6]) (L' := [(6, .long v338), (5, .int z327), (4, .int x4), (3, .ref o3), (2, .ref o2), (1, .ref o1), (0, .ref b)]) dL_law_544 (by decide) rfl ?_
      refine tt_goto (tgt := 817) dL_law_546 rfl ?_
      exact tt_loc (ks := [2, 3, 4, 5, 6]) rfl (hJ S337 (k - 1) (n - 6) hG341 hA343 rl346 cn348 by345 li344 (by rw [er347]; omega) (by rw [er347]; omega))
    · skip
      refine tt_aload_n (j := 3) dL_law_549 rfl ?_
      refine tt_aload_n (j := 4) dL_law_550 rfl ?_
      refine tt_iload (j := 0) dL_law_551 rfl ?_
      refine tt_iconst (v := 1) dL_law_553 rfl ?_
      refine tt_iadd dL_law_554 ?_
      refine tt_sld (xi := (b, L, xs)) dL_law_555 (sc_in hx hL) ?_
      refine tt_aload_n (j := 4) dL_law_556 rfl ?_
      refine tt_iload (j := 0) dL_law_557 rfl ?_
      refine tt_iconst (v := 2) dL_law_559 rfl ?_
      refine tt_iadd dL_law_560 ?_
      refine tt_sld (xi := (b, L, xs)) dL_law_561 (sc_in hx hL) ?_
      refine tt_aload_n (j := 4) dL_law_562 rfl ?_
      refine tt_iload (j := 0) dL_law_563 rfl ?_
      refine tt_iconst (v := 3) dL_law_565 rfl ?_
      refine tt_iadd dL_law_566 ?_
      refine tt_sld (xi := (b, L, xs)) dL_law_567 (sc_in hx hL) ?_
      refine tt_i2l dL_law_568 ?_
      refine tt_bipush (v := 32) dL_law_569 rfl ?_
      refine tt_lshl dL_law_571 ?_
      refine tt_aload_n (j := 4) dL_law_572 rfl ?_
      refine tt_iload (j := 0) dL_law_573 rfl ?_
      refine tt_iconst (v := 4) dL_law_575 rfl ?_
      refine tt_iadd dL_law_576 ?_
      refine tt_sld (xi := (b, L, xs)) dL_law_577 (sc_in hx hL) ?_
      refine tt_i2l dL_law_578 ?_
      refine tt_ldc2 (v := 4294967295) dL_law_579 kl_L_67 ?_
      refine tt_land dL_law_582 ?_
      refine tt_lor dL_law_583 ?_
      refine tt_aload_n (j := 1) dL_law_584 rfl ?_
      obtain ⟨t9, tc9, tr9, tp9, tz9⟩ := hli.2
      by_cases hr9 : Rg 0 23 (xs (x4 + 2).toNatClampNeg)
      · skip
        refine gt_SX (As := [.ref o1, .int (xs (x4 + 1).toNatClampNeg), .int (xs (x4 + 2).toNatClampNeg), .long ((((xs (x4 + 3).toNatClampNeg) : Int32).toInt64 <<< ((32 : Int32).toInt64 &&& 63)) ||| (((xs (x4 + 4).toNatClampNeg) : Int32).toInt64 &&& 4294967295)), .ref o3]) dL_law_585 ca_L_97 ⟨by decide, by decide⟩ hA (Nat.le_of_ble_eq_true rfl) (Nat.le_of_ble_eq_true rfl) (by decide) (by omega) (by omega) (ckwo_L_has rfl hlk hpq tc9 hr9 hG h1 h3 (fun _ _ _ _ h => h)) (fun S349 z350 hz351 hG352 hB353 hA354 => ?_)
        obtain ⟨hz351, ej355⟩ := hz351
        have li356 := lj_af hli hG (oa_af h1 hA) (oa_af h2 hA) (oa_af hpo hA) hB353
        have rl357 := rel_af hrel (oa_af h2 hA) hB353
        have er358 := (hB353.2.2.2.1 (by decide)).2.trans er0
        have by359 := by_af hby (oa_af hob hA) (oa_af hom hA) hB353
        have cn360 := cn_af hcn (oa_af hc1 hA) (oa_af h2 hA) hB353
        obtain rfl : z350 = 0 := hz351
        refine tt_istore (ks := [0, 1, 2, 3, 4, 5]) (L' := [(5, .int 0), (4, .int x4), (3, .ref o3), (2, .ref o2), (1, .ref o1), (0, .ref b)]) dL_law_588 (by decide) rfl ?_
        refine tt_aload_n (j := 3) dL_law_590 rfl ?_
        refine tt_aload_n (j := 5) dL_law_591 rfl ?_
        refine tt_iload (j := 1) dL_law_592 rfl ?_
        refine tt_iconst (v := 1) dL_law_594 rfl ?_
        refine tt_iadd dL_law_595 ?_
        refine tt_sld (xi := (b, L, xs)) dL_law_596 (sc_in hx hL) ?_
        refine tt_aload_n (j := 5) dL_law_597 rfl ?_
        refine tt_iload (j := 1) dL_law_598 rfl ?_
        refine tt_iconst (v := 2) dL_law_600 rfl ?_
        refine tt_iadd dL_law_601 ?_
        refine tt_sld (xi := (b, L, xs)) dL_law_602 (sc_in hx hL) ?_
        refine tt_aload_n (j := 5) dL_law_603 rfl ?_
        refine tt_iload (j := 1) dL_law_604 rfl ?_
        refine tt_iconst (v := 3) dL_law_606 rfl ?_
        refine tt_iadd dL_law_607 ?_
        refine tt_sld (xi := (b, L, xs)) dL_law_608 (sc_in hx hL) ?_
        refine tt_i2l dL_law_609 ?_
        refine tt_bipush (v := 32) dL_law_610 rfl ?_
        refine tt_lshl dL_law_612 ?_
        refine tt_aload_n (j := 5) dL_law_613 rfl ?_
        refine tt_iload (j := 1) dL_law_614 rfl ?_
        refine tt_iconst (v := 4) dL_law_616 rfl ?_
        refine tt_iadd dL_law_617 ?_
        refine tt_sld (xi := (b, L, xs)) dL_law_618 (sc_in hx hL) ?_
        refine tt_i2l dL_law_619 ?_
        refine tt_ldc2 (v := 4294967295) dL_law_620 kl_L_67 ?_
        refine tt_land dL_law_623 ?_
        refine tt_lor dL_law_624 ?_
        refine gt_VI (As := [.int (xs (x4 + 1).toNatClampNeg), .int (xs (x4 + 2).toNatClampNeg), .long ((((xs (x4 + 3).toNatClampNeg) : Int32).toInt64 <<< ((32 : Int32).toInt64 &&& 63)) ||| (((xs (x4 + 4).toNatClampNeg) : Int32).toInt64 &&& 4294967295))]) dL_law_625 ca_L_100 ⟨by decide, by decide⟩ h2 hA354 rfl (Nat.le_of_ble_eq_true rfl) (Nat.le_of_ble_eq_true rfl) (by decide) (cg_has hG352 (oa_af h2 hA354) (rk_af (rk_gi rfl hG) hB353) (d4_uq hli.1.1 (rk_gi rfl hG) h2) (rtg_af hG h2 (rk_gi rfl hG) hB353 tr9) tp9 (by rw [i_af (k := 642) h2 hB353]; exact tz9) (fun _ _ _ _ h => h)) rfl (fun _ h => nomatch h) (fun S361 v362 hz363 hx364 hG365 hB366 hA367 => ?_)
        obtain ⟨-, hq9⟩ | ⟨h6368, -, ev369⟩ := hx364
        · exact absurd hr9 hq9
        have li370 := lj_af li356 hG352 (oa_af h1 hA354) (oa_af h2 hA354) (oa_af hpo hA354) hB366
        have by371 := by_af by359 (oa_af hob hA354) (oa_af hom hA354) hB366
        have rl372 := rel_af rl357 (oa_af h2 hA354) hB366
        have er373 := (hB366.2.2.2.1 (by decide)).2.trans er358
        have cn374 := cn_af cn360 (oa_af hc1 hA354) (oa_af h2 hA354) hB366
        refine tt_istore (ks := [0, 1, 2, 3, 4, 5, 6]) (L' := [(6, .int v362), (5, .int 0), (4, .int x4), (3, .ref o3), (2, .ref o2), (1, .ref o1), (0, .ref b)]) dL_law_628 (by decide) rfl ?_
        refine tt_aload_n (j := 4) dL_law_630 rfl ?_
        refine gt_VIp (As := []) dL_law_631 ca_L_101 ⟨by decide, by decide⟩ h2 hA367 rfl (Nat.le_of_ble_eq_true rfl) (Nat.le_of_ble_eq_true rfl) (by decide) (cs_X10_thrown hG365 (oa_af h2 hA367) (fun _ _ _ _ h => h)) rfl (fun _ h => nomatch h) (fun _ _ q => q.1) (fun v376 hz377 hx378 => ?_)
        obtain rfl : v376 = 0 := (hx378.2 _ rfl).trans h6368
        refine tt_iload (j := 1) dL_law_634 rfl ?_
        refine tt_icmp_eq (tgt := 641) dL_law_636 rfl (fun _ => ?_) (fun q => absurd rfl q)
        refine tt_iload (j := 1) dL_law_641 rfl ?_
        refine tt_if_ne (tgt := 665) dL_law_643 rfl (fun q => absurd q (by decide)) (fun _ => ?_)
        refine tt_aload_n (j := 3) dL_law_646 rfl ?_
        refine tt_iconst (v := 0) dL_law_647 rfl ?_
        refine gt_lLt dL_law_648 h3 hA367 (rg_in (⟨by decide, by decide⟩ : Rg 0 0 0)) ?_
        refine tt_iload (j := 0) dL_law_649 rfl ?_
        refine tt_if_eq (tgt := 658) dL_law_651 rfl (fun qh => ?_) (fun qh => ?_)
        · skip
          refine tt_lconst (v := 0) dL_law_658 rfl ?_
          refine tt_lcmp dL_law_659 ?_
          refine tt_if_eq (tgt := 665) dL_law_660 rfl (fun _ => ?_) (fun q => absurd (((congrFun (j_af (oa_af h3 hA354) hB366) _).trans ej355).trans (if_pos ((ei_w ev369).symm.trans qh))) (lc_eq_f q))
          refine tt_goto (tgt := 817) dL_law_665 rfl ?_
          exact tt_loc (ks := [2, 3, 4, 5, 6]) rfl (hJ S361 (k - 1) (n - 6) hG365 hA367 rl372 cn374 by371 li370 (by rw [er373]; omega) (by rw [er373]; omega))
        · skip
          refine tt_lconst (v := 1) dL_law_654 rfl ?_
          refine tt_goto (tgt := 659) dL_law_655 rfl ?_
          refine tt_lcmp dL_law_659 ?_
          refine tt_if_eq (tgt := 665) dL_law_660 rfl (fun _ => ?_) (fun q => absurd (((congrFun (j_af (oa_af h3 hA354) hB366) _).trans ej355).trans (if_neg (fun hh => qh ((ei_w ev369).trans hh)))) (lc_eq_f q))
          refine tt_goto (tgt := 817) dL_law_665 rfl ?_
          exact tt_loc (ks := [2, 3, 4, 5, 6]) rfl (hJ S361 (k - 1) (n - 6) hG365 hA367 rl372 cn374 by371 li370 (by rw [er373]; omega) (by rw [er373]; omega))
      · skip
        refine gt_SW (As := [.ref o1, .int (xs (x4 + 1).toNatClampNeg), .int (xs (x4 + 2).toNatClampNeg), .long ((((xs (x4 + 3).toNatClampNeg) : Int32).toInt64 <<< ((32 : Int32).toInt64 &&& 63)) ||| (((xs (x4 + 4).toNatClampNeg) : Int32).toInt64 &&& 4294967295)), .ref o3]) dL_law_585 ca_L_97 ⟨by decide, by decide⟩ hA (Nat.le_of_ble_eq_true rfl) (Nat.le_of_ble_eq_true rfl) (by decide) (by omega) (by omega) (ckwn_L_has hr9 hG h1 h3 (fun _ _ _ _ h => h)) (fun S382 z383 hz384 hG385 hB386 hA387 => ?_)
        have li388 := lj_af hli hG (oa_af h1 hA) (oa_af h2 hA) (oa_af hpo hA) hB386
        have rl389 := rel_af hrel (oa_af h2 hA) hB386
        have er390 := (hB386.2.2.2.1 (by decide)).2.trans er0
        have by391 := by_af hby (oa_af hob hA) (oa_af hom hA) hB386
        have cn392 := cn_af hcn (oa_af hc1 hA) (oa_af h2 hA) hB386
        obtain rfl : z383 = 1 := hz384
        refine tt_istore (ks := [0, 1, 2, 3, 4, 5]) (L' := [(5, .int 1), (4, .int x4), (3, .ref o3), (2, .ref o2), (1, .ref o1), (0, .ref b)]) dL_law_588 (by decide) rfl ?_
        refine tt_aload_n (j := 3) dL_law_590 rfl ?_
        refine tt_aload_n (j := 5) dL_law_591 rfl ?_
        refine tt_iload (j := 1) dL_law_592 rfl ?_
        refine tt_iconst (v := 1) dL_law_594 rfl ?_
        refine tt_iadd dL_law_595 ?_
        refine tt_sld (xi := (b, L, xs)) dL_law_596 (sc_in hx hL) ?_
        refine tt_aload_n (j := 5) dL_law_597 rfl ?_
        refine tt_iload (j := 1) dL_law_598 rfl ?_
        refine tt_iconst (v := 2) dL_law_600 rfl ?_
        refine tt_iadd dL_law_601 ?_
        refine tt_sld (xi := (b, L, xs)) dL_law_602 (sc_in hx hL) ?_
        refine tt_aload_n (j := 5) dL_law_603 rfl ?_
        refine tt_iload (j := 1) dL_law_604 rfl ?_
        refine tt_iconst (v := 3) dL_law_606 rfl ?_
        refine tt_iadd dL_law_607 ?_
        refine tt_sld (xi := (b, L, xs)) dL_law_608 (sc_in hx hL) ?_
        refine tt_i2l dL_law_609 ?_
        refine tt_bipush (v := 32) dL_law_610 rfl ?_
        refine tt_lshl dL_law_612 ?_
        refine tt_aload_n (j := 5) dL_law_613 rfl ?_
        refine tt_iload (j := 1) dL_law_614 rfl ?_
        refine tt_iconst (v := 4) dL_law_616 rfl ?_
        refine tt_iadd dL_law_617 ?_
        refine tt_sld (xi := (b, L, xs)) dL_law_618 (sc_in hx hL) ?_
        refine tt_i2l dL_law_619 ?_
        refine tt_ldc2 (v := 4294967295) dL_law_620 kl_L_67 ?_
        refine tt_land dL_law_623 ?_
        refine tt_lor dL_law_624 ?_
        refine gt_VI (As := [.int (xs (x4 + 1).toNatClampNeg), .int (xs (x4 + 2).toNatClampNeg), .long ((((xs (x4 + 3).toNatClampNeg) : Int32).toInt64 <<< ((32 : Int32).toInt64 &&& 63)) ||| (((xs (x4 + 4).toNatClampNeg) : Int32).toInt64 &&& 4294967295))]) dL_law_625 ca_L_100 ⟨by decide, by decide⟩ h2 hA387 rfl (Nat.le_of_ble_eq_true rfl) (Nat.le_of_ble_eq_true rfl) (by decide) (cg_has hG385 (oa_af h2 hA387) (rk_af (rk_gi rfl hG) hB386) (d4_uq hli.1.1 (rk_gi rfl hG) h2) (rtg_af hG h2 (rk_gi rfl hG) hB386 tr9) tp9 (by rw [i_af (k := 642) h2 hB386]; exact tz9) (fun _ _ _ _ h => h)) rfl (fun _ h => nomatch h) (fun S393 v394 hz395 hx396 hG397 hB398 hA399 => ?_)
        obtain ⟨h6400, -⟩ | ⟨-, hq9, -⟩ := hx396
        rotate_left
        · exact absurd hq9 hr9
        have li402 := lj_af li388 hG385 (oa_af h1 hA387) (oa_af h2 hA387) (oa_af hpo hA387) hB398
        have by403 := by_af by391 (oa_af hob hA387) (oa_af hom hA387) hB398
        have rl404 := rel_af rl389 (oa_af h2 hA387) hB398
        have er405 := (hB398.2.2.2.1 (by decide)).2.trans er390
        have cn406 := cn_af cn392 (oa_af hc1 hA387) (oa_af h2 hA387) hB398
        refine tt_istore (ks := [0, 1, 2, 3, 4, 5, 6]) (L' := [(6, .int v394), (5, .int 1), (4, .int x4), (3, .ref o3), (2, .ref o2), (1, .ref o1), (0, .ref b)]) dL_law_628 (by decide) rfl ?_
        refine tt_aload_n (j := 4) dL_law_630 rfl ?_
        refine gt_VIp (As := []) dL_law_631 ca_L_101 ⟨by decide, by decide⟩ h2 hA399 rfl (Nat.le_of_ble_eq_true rfl) (Nat.le_of_ble_eq_true rfl) (by decide) (cs_X10_thrown hG397 (oa_af h2 hA399) (fun _ _ _ _ h => h)) rfl (fun _ h => nomatch h) (fun _ _ q => q.1) (fun v408 hz409 hx410 => ?_)
        obtain rfl : v408 = 1 := (hx410.2 _ rfl).trans h6400
        refine tt_iload (j := 1) dL_law_634 rfl ?_
        refine tt_icmp_eq (tgt := 641) dL_law_636 rfl (fun _ => ?_) (fun q => absurd rfl q)
        refine tt_iload (j := 1) dL_law_641 rfl ?_
        refine tt_if_ne (tgt := 665) dL_law_643 rfl (fun _ => ?_) (fun q => absurd q (by decide))
        refine tt_goto (tgt := 817) dL_law_665 rfl ?_
        exact tt_loc (ks := [2, 3, 4, 5, 6]) rfl (hJ S393 (k - 1) (n - 6) hG397 hA399 rl404 cn406 by403 li402 (by rw [er405]; omega) (by rw [er405]; omega))
    · skip
      refine tt_aload_n (j := 3) dL_law_668 rfl ?_
      refine gt_Vv (As := []) dL_law_669 ca_L_104 ⟨by decide, by decide⟩ h1 hA rfl (Nat.le_of_ble_eq_true rfl) (Nat.le_of_ble_eq_true rfl) (by decide) (cs_X9_start hG (oa_af h1 hA) (fun _ _ _ _ h => h)) rfl (fun _ h => nomatch h) (fun S414 hx417 hG418 hB419 hA420 => ?_)
      have li421 := lj_af hli hG (oa_af h1 hA) (oa_af h2 hA) (oa_af hpo hA) hB419
      have by422 := by_af hby (oa_af hob hA) (oa_af hom hA) hB419
      have rl423 := rel_af hrel (oa_af h2 hA) hB419
      have er424 := (hB419.2.2.2.1 (by decide)).2.trans er0
      have cn425 := cn_af hcn (oa_af hc1 hA) (oa_af h2 hA) hB419
      refine tt_aload_n (j := 2) dL_law_672 rfl ?_
      refine gt_Vv (As := []) dL_law_673 ca_L_107 ⟨by decide, by decide⟩ h2 hA420 rfl (Nat.le_of_ble_eq_true rfl) (Nat.le_of_ble_eq_true rfl) (by decide) (cs_X10_start hG418 (oa_af h2 hA420) (fun _ _ _ _ h => h)) rfl (fun _ h => nomatch h) (fun S426 hx429 hG430 hB431 hA432 => ?_)
      have li433 := lj_af li421 hG418 (oa_af h1 hA420) (oa_af h2 hA420) (oa_af hpo hA420) hB431
      have by434 := by_af by422 (oa_af hob hA420) (oa_af hom hA420) hB431
      have rl435 := hx429 rl423
      have er436 := (hB431.2.2.2.1 (by decide)).2.trans er424
      have cn437 := cn_af cn425 (oa_af hc1 hA420) (oa_af h2 hA420) hB431
      refine tt_goto (tgt := 817) dL_law_676 rfl ?_
      exact tt_loc (ks := [0, 1, 2, 3, 4]) rfl (hJ S426 k n hG430 hA432 rl435 cn437 by434 li433 (by rw [er436]; omega) (by rw [er436]; omega))
    · skip
      refine tt_aload_n (j := 3) dL_law_679 rfl ?_
      refine tt_aload_n (j := 4) dL_law_680 rfl ?_
      refine tt_iload (j := 0) dL_law_681 rfl ?_
      refine tt_iconst (v := 1) dL_law_683 rfl ?_
      refine tt_iadd dL_law_684 ?_
      refine tt_sld (xi := (b, L, xs)) dL_law_685 (sc_in hx hL) ?_
      refine tt_aload_n (j := 4) dL_law_686 rfl ?_
      refine tt_iload (j := 0) dL_law_687 rfl ?_
      refine tt_iconst (v := 2) dL_law_689 rfl ?_
      refine tt_iadd dL_law_690 ?_
      refine tt_sld (xi := (b, L, xs)) dL_law_691 (sc_in hx hL) ?_
      refine tt_i2l dL_law_692 ?_
      refine tt_bipush (v := 32) dL_law_693 rfl ?_
      refine tt_lshl dL_law_695 ?_
      refine tt_aload_n (j := 4) dL_law_696 rfl ?_
      refine tt_iload (j := 0) dL_law_697 rfl ?_
      refine tt_iconst (v := 3) dL_law_699 rfl ?_
      refine tt_iadd dL_law_700 ?_
      refine tt_sld (xi := (b, L, xs)) dL_law_701 (sc_in hx hL) ?_
      refine tt_i2l dL_law_702 ?_
      refine tt_ldc2 (v := 4294967295) dL_law_703 kl_L_67 ?_
      refine tt_land dL_law_706 ?_
      refine tt_lor dL_law_707 ?_
      refine gt_SW (As := [.ref o1, .int (xs (x4 + 1).toNatClampNeg), .long ((((xs (x4 + 2).toNatClampNeg) : Int32).toInt64 <<< ((32 : Int32).toInt64 &&& 63)) ||| (((xs (x4 + 3).toNatClampNeg) : Int32).toInt64 &&& 4294967295))]) dL_law_708 ca_L_108 ⟨by decide, by decide⟩ hA (Nat.le_of_ble_eq_true rfl) (Nat.le_of_ble_eq_true rfl) (by decide) (by omega) (by omega) (cw_L_put hG (oa_af h1 hA) (fun _ _ _ _ h => h)) (fun S438 z439 hz440 hG441 hB442 hA443 => ?_)
      have li444 := lj_af hli hG (oa_af h1 hA) (oa_af h2 hA) (oa_af hpo hA) hB442
      have rl445 := rel_af hrel (oa_af h2 hA) hB442
      have er446 := (hB442.2.2.2.1 (by decide)).2.trans er0
      have by447 := by_af hby (oa_af hob hA) (oa_af hom hA) hB442
      have cn448 := cn_af hcn (oa_af hc1 hA) (oa_af h2 hA) hB442
      refine tt_istore (ks := [0, 1, 2, 3, 4, 5]) (L' := [(5, .int z439), (4, .int x4), (3, .ref o3), (2, .ref o2), (1, .ref o1), (0, .ref b)]) dL_law_711 (by decide) rfl ?_
      refine tt_aload_n (j := 3) dL_law_713 rfl ?_
      refine tt_aload_n (j := 5) dL_law_714 rfl ?_
      refine tt_iload (j := 1) dL_law_715 rfl ?_
      refine tt_iconst (v := 1) dL_law_717 rfl ?_
      refine tt_iadd dL_law_718 ?_
      refine tt_sld (xi := (b, L, xs)) dL_law_719 (sc_in hx hL) ?_
      refine tt_aload_n (j := 5) dL_law_720 rfl ?_
      refine tt_iload (j := 1) dL_law_721 rfl ?_
      refine tt_iconst (v := 2) dL_law_723 rfl ?_
      refine tt_iadd dL_law_724 ?_
      refine tt_sld (xi := (b, L, xs)) dL_law_725 (sc_in hx hL) ?_
      refine tt_i2l dL_law_726 ?_
      refine tt_bipush (v := 32) dL_law_727 rfl ?_
      refine tt_lshl dL_law_729 ?_
      refine tt_aload_n (j := 5) dL_law_730 rfl ?_
      refine tt_iload (j := 1) dL_law_731 rfl ?_
      refine tt_iconst (v := 3) dL_law_733 rfl ?_
      refine tt_iadd dL_law_734 ?_
      refine tt_sld (xi := (b, L, xs)) dL_law_735 (sc_in hx hL) ?_
      refine tt_i2l dL_law_736 ?_
      refine tt_ldc2 (v := 4294967295) dL_law_737 kl_L_67 ?_
      refine tt_land dL_law_740 ?_
      refine tt_lor dL_law_741 ?_
      refine gt_Vv (As := [.int (xs (x4 + 1).toNatClampNeg), .long ((((xs (x4 + 2).toNatClampNeg) : Int32).toInt64 <<< ((32 : Int32).toInt64 &&& 63)) ||| (((xs (x4 + 3).toNatClampNeg) : Int32).toInt64 &&& 4294967295))]) dL_law_742 ca_L_111 ⟨by decide, by decide⟩ h2 hA443 rfl (Nat.le_of_ble_eq_true rfl) (Nat.le_of_ble_eq_true rfl) (by decide) (cs_X10_put hG441 (oa_af h2 hA443) (fun _ _ _ _ h => h)) rfl (fun _ h => nomatch h) (fun S449 hx452 hG453 hB454 hA455 => ?_)
      have li456 := lj_af li444 hG441 (oa_af h1 hA443) (oa_af h2 hA443) (oa_af hpo hA443) hB454
      have by457 := by_af by447 (oa_af hob hA443) (oa_af hom hA443) hB454
      have rl458 := rel_af rl445 (oa_af h2 hA443) hB454
      have er459 := (hB454.2.2.2.1 (by decide)).2.trans er446
      have cn460 := cn_af cn448 (oa_af hc1 hA443) (oa_af h2 hA443) hB454
      refine tt_goto (tgt := 817) dL_law_745 rfl ?_
      exact tt_loc (ks := [1, 2, 3, 4, 5]) rfl (hJ S449 (k - 1) (n - 6) hG453 hA455 rl458 cn460 by457 li456 (by rw [er459]; omega) (by rw [er459]; omega))
    · skip
      refine tt_aload_n (j := 3) dL_law_748 rfl ?_
      refine tt_aload_n (j := 4) dL_law_749 rfl ?_
      refine tt_iload (j := 0) dL_law_750 rfl ?_
      refine tt_iconst (v := 1) dL_law_752 rfl ?_
      refine tt_iadd dL_law_753 ?_
      refine tt_sld (xi := (b, L, xs)) dL_law_754 (sc_in hx hL) ?_
      refine tt_aload_n (j := 1) dL_law_755 rfl ?_
      refine gt_SW (As := [.ref o1, .int (xs (x4 + 1).toNatClampNeg), .ref o3]) dL_law_756 ca_L_112 ⟨by decide, by decide⟩ hA (Nat.le_of_ble_eq_true rfl) (Nat.le_of_ble_eq_true rfl) (by decide) (by omega) (by omega) (cw_L_go hG (oa_af h1 hA) (oa_af h3 hA) (fun _ _ _ _ h => h)) (fun S461 z462 hz463 hG464 hB465 hA466 => ?_)
      have li467 := lj_af hli hG (oa_af h1 hA) (oa_af h2 hA) (oa_af hpo hA) hB465
      have rl468 := rel_af hrel (oa_af h2 hA) hB465
      have er469 := (hB465.2.2.2.1 (by decide)).2.trans er0
      have by470 := by_af hby (oa_af hob hA) (oa_af hom hA) hB465
      have cn471 := cn_af hcn (oa_af hc1 hA) (oa_af h2 hA) hB465
      refine tt_istore (ks := [0, 1, 2, 3, 4, 5]) (L' := [(5, .int z462), (4, .int x4), (3, .ref o3), (2, .ref o2), (1, .ref o1), (0, .ref b)]) dL_law_759 (by decide) rfl ?_
      refine tt_aload_n (j := 3) dL_law_761 rfl ?_
      refine tt_aload_n (j := 5) dL_law_762 rfl ?_
      refine tt_iload (j := 1) dL_law_763 rfl ?_
      refine tt_iconst (v := 1) dL_law_765 rfl ?_
      refine tt_iadd dL_law_766 ?_
      refine tt_sld (xi := (b, L, xs)) dL_law_767 (sc_in hx hL) ?_
      refine gt_VI (As := [.int (xs (x4 + 1).toNatClampNeg)]) dL_law_768 ca_L_114 ⟨by decide, by decide⟩ h2 hA466 rfl (Nat.le_of_ble_eq_true rfl) (Nat.le_of_ble_eq_true rfl) (by decide) (cs_X10_go hG464 (oa_af h2 hA466) rl468 (fun _ _ _ _ h => h)) rfl (fun _ h => nomatch h) (fun S472 v473 hz474 hx475 hG476 hB477 hA478 => ?_)
      have li479 := lj_af li467 hG464 (oa_af h1 hA466) (oa_af h2 hA466) (oa_af hpo hA466) hB477
      have by480 := by_af by470 (oa_af hob hA466) (oa_af hom hA466) hB477
      have rl481 := rel_go rl468 (oa_af h2 hA466) hB477
      have er482 := (hB477.2.2.2.1 (by decide)).2.trans er469
      have cn483 := cn_af cn471 (oa_af hc1 hA466) (oa_af h2 hA466) hB477
      refine tt_istore (ks := [0, 1, 2, 3, 4, 5, 6]) (L' := [(6, .int v473), (5, .int z462), (4, .int x4), (3, .ref o3), (2, .ref o2), (1, .ref o1), (0, .ref b)]) dL_law_771 (by decide) rfl ?_
      refine tt_goto (tgt := 817) dL_law_773 rfl ?_
      exact tt_loc (ks := [2, 3, 4, 5, 6]) rfl (hJ S472 (k - 1) (n - 6) hG476 hA478 rl481 cn483 by480 li479 (by rw [er482]; omega) (by rw [er482]; omega))
    · skip
      refine tt_aload_n (j := 3) dL_law_776 rfl ?_
      refine gt_VIp (As := []) dL_law_777 ca_L_115 ⟨by decide, by decide⟩ h1 hA rfl (Nat.le_of_ble_eq_true rfl) (Nat.le_of_ble_eq_true rfl) (by decide) (cs_X9_at hG (oa_af h1 hA) (fun _ _ _ _ h => h)) rfl (fun _ h => nomatch h) (fun _ _ q => q) (fun v485 hz486 hx487 => ?_)
      refine tt_pop dL_law_780 rfl ?_
      refine tt_aload_n (j := 2) dL_law_781 rfl ?_
      refine gt_VI (As := []) dL_law_782 ca_L_118 ⟨by decide, by decide⟩ h2 hA rfl (Nat.le_of_ble_eq_true rfl) (Nat.le_of_ble_eq_true rfl) (by decide) (cs_X10_at hG (oa_af h2 hA) (fun _ _ _ _ h => h)) rfl (fun _ h => nomatch h) (fun S491 v492 hz493 hx494 hG495 hB496 hA497 => ?_)
      have li498 := lj_af hli hG (oa_af h1 hA) (oa_af h2 hA) (oa_af hpo hA) hB496
      have by499 := by_af hby (oa_af hob hA) (oa_af hom hA) hB496
      have rl500 := rel_af hrel (oa_af h2 hA) hB496
      have er501 := (hB496.2.2.2.1 (by decide)).2.trans er0
      have cn502 := cn_af hcn (oa_af hc1 hA) (oa_af h2 hA) hB496
      refine tt_pop dL_law_785 rfl ?_
      refine tt_goto (tgt := 817) dL_law_786 rfl ?_
      exact tt_loc (ks := [0, 1, 2, 3, 4]) rfl (hJ S491 k n hG495 hA497 rl500 cn502 by499 li498 (by rw [er501]; omega) (by rw [er501]; omega))
    · skip
      refine tt_aload_n (j := 3) dL_law_789 rfl ?_
      refine tt_aload_n (j := 4) dL_law_790 rfl ?_
      refine tt_iload (j := 0) dL_law_791 rfl ?_
      refine tt_iconst (v := 1) dL_law_793 rfl ?_
      refine tt_iadd dL_law_794 ?_
      refine tt_sld (xi := (b, L, xs)) dL_law_795 (sc_in hx hL) ?_
      refine tt_aload_n (j := 1) dL_law_796 rfl ?_
      refine gt_SW (As := [.ref o1, .int (xs (x4 + 1).toNatClampNeg), .ref o3]) dL_law_797 ca_L_119 ⟨by decide, by decide⟩ hA (Nat.le_of_ble_eq_true rfl) (Nat.le_of_ble_eq_true rfl) (by decide) (by omega) (by omega) (cw_L_value hG (oa_af h1 hA) (oa_af h3 hA) (fun _ _ _ _ h => h)) (fun S503 z504 hz505 hG506 hB507 hA508 => ?_)
      have li509 := lj_af hli hG (oa_af h1 hA) (oa_af h2 hA) (oa_af hpo hA) hB507
      have rl510 := rel_af hrel (oa_af h2 hA) hB507
      have er511 := (hB507.2.2.2.1 (by decide)).2.trans er0
      have by512 := by_af hby (oa_af hob hA) (oa_af hom hA) hB507
      have cn513 := cn_af hcn (oa_af hc1 hA) (oa_af h2 hA) hB507
      refine tt_istore (ks := [0, 1, 2, 3, 4, 5]) (L' := [(5, .int z504), (4, .int x4), (3, .ref o3), (2, .ref o2), (1, .ref o1), (0, .ref b)]) dL_law_800 (by decide) rfl ?_
      refine tt_aload_n (j := 3) dL_law_802 rfl ?_
      refine tt_aload_n (j := 5) dL_law_803 rfl ?_
      refine tt_iload (j := 1) dL_law_804 rfl ?_
      refine tt_iconst (v := 1) dL_law_806 rfl ?_
      refine tt_iadd dL_law_807 ?_
      refine tt_sld (xi := (b, L, xs)) dL_law_808 (sc_in hx hL) ?_
      refine gt_VJ (As := [.int (xs (x4 + 1).toNatClampNeg)]) dL_law_809 ca_L_121 ⟨by decide, by decide⟩ h2 hA508 rfl (Nat.le_of_ble_eq_true rfl) (Nat.le_of_ble_eq_true rfl) (by decide) (cs_X10_value hG506 (oa_af h2 hA508) (fun _ _ _ _ h => h)) rfl (fun _ h => nomatch h) (fun S514 v515 hx517 hG518 hB519 hA520 => ?_)
      have li521 := lj_af li509 hG506 (oa_af h1 hA508) (oa_af h2 hA508) (oa_af hpo hA508) hB519
      have by522 := by_af by512 (oa_af hob hA508) (oa_af hom hA508) hB519
      have rl523 := rel_af rl510 (oa_af h2 hA508) hB519
      have er524 := (hB519.2.2.2.1 (by decide)).2.trans er511
      have cn525 := cn_af cn513 (oa_af hc1 hA508) (oa_af h2 hA508) hB519
      refine tt_lstore (ks := [0, 1, 2, 3, 4, 5, 6]) (L' := [(6, .long v515), (5, .int z504), (4, .int x4), (3, .ref o3), (2, .ref o2), (1, .ref o1), (0, .ref b)]) dL_law_812 (by decide) rfl ?_
      refine tt_goto (tgt := 817) dL_law_814 rfl ?_
      exact tt_loc (ks := [2, 3, 4, 5, 6]) rfl (hJ S514 (k - 1) (n - 6) hG518 hA520 rl523 cn525 by522 li521 (by rw [er524]; omega) (by rw [er524]; omega))
    · skip
      exact tt_loc (ks := [0, 1, 2, 3, 4]) rfl (hJ S k n hG hA hrel hcn hby hli (by rw [er0]; omega) (by rw [er0]; omega))
set_option maxHeartbeats 4000000 in
theorem law_true {b L : Nat} {xs : Nat → Int32} (hL : L ≤ 4096) : TT (b, L, xs) M_law 0 [(0, .ref b)] [] S_0 601024 7293034 PL := by
  have hG0 : GI S_0 [] := fun a ha => nomatch ha
  refine tt_newo (k1 := 601023) (n1 := 7293029) dL_law_0 nl_L_8 (by decide) (by decide) (fun a1 ha1 => ?_)
  refine tt_dup dL_law_3 rfl ?_
  refine tt_callI (As := []) (Mid := fun r T _ _ => r = .inl none ∧ GI T [] ∧ Oa T [] 9 0 a1 ∧ Cf a1 (nw_o S_0 9 a1) T ∧ (∃ b i r, hp_R T 576 a1 = some b ∧ Oa T [] 1 0 b ∧ hp_I T 65 b = 0 ∧ hp_R T 577 a1 = some i ∧ Oa T [] 3 0 i ∧ hp_R T 192 i = some b ∧ Ar [] T 64 b ∧ hp_R T 580 a1 = some r ∧ Oa T [] 6 0 r ∧ hp_R T 384 r = some b ∧ hp_R T 385 r = some i ∧ hp_I T 388 r = -1 ∧ (∃ a, Ja T 386 r a) ∧ (∃ a, Ja T 387 r a)) ∧ (∃ en lk b i, hp_R T 578 a1 = some en ∧ S8 T en ∧ hp_R T 579 a1 = some lk ∧ LkF T lk b i ∧ hp_R T 576 a1 = some b ∧ hp_R T 577 a1 = some i)) (k1 := 26) (n1 := 670) (k2 := 600997) (n2 := 7292359) dL_law_4 ca_L_52 ⟨by decide, by decide⟩ (Nat.le_of_ble_eq_true rfl) (Nat.le_of_ble_eq_true rfl) (by decide) (by decide) (cd_9 (gi_o hG0 ha1) in_o (fun q h => nomatch h) (fun h => nomatch h) k_o zf_o rfl (kc := 26) (nc := 670) (by decide) (by decide) (fun T u1 u2 u3 u4 u5 => ⟨rfl, u1, u2, u3, u4, u5⟩)) (fun v T1 x y hw => ?_) (fun X T hw => by obtain ⟨e, -⟩ := hw; cases e)
  obtain ⟨e1, g1, g2, gC, ⟨c1, i1, rr, r5, r6, r7, r8, r9, r10, ⟨ab, s1, -, s3, s4, s5⟩, -⟩, en, lk, c2, i2, w1, w2, w3, w4, w5, w6⟩ := hw
  cases e1
  obtain rfl : c1 = c2 := Option.some.inj (r5.symm.trans w5)
  obtain rfl : i1 = i2 := Option.some.inj (r8.symm.trans w6)
  have U1 : UQ T1 := gC.2.2.2.2.2.2.2.1 (uq_o uq_0 ha1)
  show TT (b, L, xs) M_law 7 [(0, .ref b)] [.ref a1] T1 600997 7292359 PL
  refine tt_astore_n (ks := [0, 1]) (L' := [(1, .ref a1), (0, .ref b)]) dL_law_7 (by decide) rfl ?_
  refine tt_newo (k1 := 600996) (n1 := 7292322) dL_law_8 nl_L_53 (by decide) (by decide) (fun a2 ha2 => ?_)
  refine tt_dup dL_law_11 rfl ?_
  refine tt_callI (As := []) (Mid := fun r T _ _ => r = .inl none ∧ GI T [] ∧ Oa T [] 10 0 a2 ∧ Cf a2 (nw_o T1 10 a2) T ∧ hp_I T 663 a2 = 0 ∧ hp_I T 642 a2 = 0 ∧ Ar (hp_L (nw_o T1 10 a2)) T 641 a2 ∧ (∃ a b, hp_R T 643 a2 = some a ∧ (∀ i, i < 24 → hp_i T a (4880 + i) = 2) ∧ hp_R T 647 a2 = some b ∧ Az T b)) (k1 := 13) (n1 := 21218) (k2 := 600983) (n2 := 7271104) dL_law_12 ca_L_55 ⟨by decide, by decide⟩ (Nat.le_of_ble_eq_true rfl) (Nat.le_of_ble_eq_true rfl) (by decide) (by decide) (cd_10 (gi_o g1 ha2) in_o (fun q h => nomatch h) (fun h => nomatch h) k_o zf_o (rl_o (rl_gi g1 (fun q h => nomatch h)) ha2) (kc := 13) (nc := 21218) (by decide) (by decide) (fun T u1 u2 u3 u4 u5 u6 u7 u8 u9 u10 => ⟨rfl, u1, u2, u3, u5, u4, u6, u10⟩)) (fun v T2 x y hw => ?_) (fun X T hw => by obtain ⟨e, -⟩ := hw; cases e)
  obtain ⟨e2, g3, g4, g5, g6, g9, ⟨am, t1, t2, t3, t4, t5⟩, ca, cg, x1, x2, x3, x4⟩ := hw
  cases e2
  have cn2 := cn_new ha2 g5
  have U2 : UQ T2 := cn2.2.2.2.2.2.2.1 U1
  show TT (b, L, xs) M_law 15 [(1, .ref a1), (0, .ref b)] [.ref a2] T2 600983 7271104 PL
  refine tt_astore_n (ks := [0, 1, 2]) (L' := [(2, .ref a2), (1, .ref a1), (0, .ref b)]) dL_law_15 (by decide) rfl ?_
  refine tt_iconst (v := 1) dL_law_16 rfl ?_
  refine gn_J (k1 := 600982) (n1 := 7271103) dL_law_17 ka_long (by decide) (len := 1) rfl (by decide) (by decide) (by decide) g3 (fun q h => nomatch h) (fun a3 T3 g7 cn3 g8 _ _ => ?_)
  have U3 : UQ T3 := cn3.2.2.2.2.2.2.1 U2
  refine tt_astore_n (ks := [0, 1, 2, 3]) (L' := [(3, .ref a3), (2, .ref a2), (1, .ref a1), (0, .ref b)]) dL_law_19 (by decide) rfl ?_
  refine tt_iconst (v := 0) dL_law_20 rfl ?_
  refine tt_istore (ks := [0, 1, 2, 3, 4]) (L' := [(4, .int 0), (3, .ref a3), (2, .ref a2), (1, .ref a1), (0, .ref b)]) dL_law_21 (by decide) rfl ?_
  have ox := oa_cn (oa_cn g2 cn2) cn3
  have om := oa_cn g4 cn3
  have hne : ab ≠ am := fun e => t2 (e ▸ l_cn s3 (cn_o ha2))
  have hrb := rl_cn (rl_cn s1 r6.1 cn2) (l_cn r6.1 cn2) cn3
  obtain ⟨ab2, q1, q2⟩ := gi_R (k := 64) g7 (oa_cn (oa_cn r6 cn2) cn3) 32 200
  obtain rfl : ab = ab2 := Option.some.inj (hrb.symm.trans q1)
  have hrm := rl_cn t1 g4.1 cn3
  obtain ⟨am2, q3, q4⟩ := gi_R (k := 641) g7 om 32 200
  obtain rfl : am = am2 := Option.some.inj (hrm.symm.trans q3)
  have hz1 : hp_i T3 ab = fun _ => 0 := (cn3.2.2.2.1 ab (l_cn s3 cn2) ((cn2.1 ab s3).2.2.trans s4)).trans ((cn2.2.2.2.1 ab s3 s4).trans s5)
  have hz2 : hp_i T3 am = fun _ => 0 := (cn3.2.2.2.1 am t3 t4).trans t5
  have hby : hp_i T3 ab = hp_i T3 am ∧ ∀ i, Rg 0 255 (hp_i T3 am i) := by_0 hz1 hz2
  obtain ⟨ll, lf1, lf2, pa, lf3, lf4⟩ := lf_cn (lf_cn w4 cn2) cn3
  have l3 := rl_cn (rl_cn w3 g2.1 cn2) (l_cn g2.1 cn2) cn3
  obtain ⟨lk2, l4, l5⟩ := gi_R (k := 579) g7 ox 4 0
  obtain rfl : lk2 = lk := Option.some.inj (l4.symm.trans l3)
  have oca : ca ∈ hp_L T2 ∧ hp_N T2 ca = 4940 := by
    obtain ⟨q5, q6, q7⟩ := gi_R (k := 643) g3 g4 32 4940
    obtain rfl : q5 = ca := Option.some.inj (q6.symm.trans x1)
    exact ⟨q7.1, q7.2.2.2 (by decide)⟩
  have eca : hp_i T3 ca = hp_i T2 ca := (cn3.2.2.2.2.2.1.2.1 (fun z => nomatch z) ca oca.1 oca.2).1
  have hli0 : LI T3 a1 a2 pa := li_start U3 (rl_cn (rl_cn w1 g2.1 cn2) (l_cn g2.1 cn2) cn3) (s8_cn (s8_cn w2 cn2) cn3) lf4.2 (rl_cn x1 g4.1 cn3) (fun i hi => by rw [eca]; exact x2 i hi)
  have hli : LJ T3 a1 a2 pa := lj_start hli0 lf4.2 (rl_cn x3 g4.1 cn3) (az_cn x4 cn3).2.2
  have hn := nl_le (hp_r T3 pa)
  have e0 : (4104 - (0 : Int32).toInt).toNat = 4104 := rfl
  exact law_loop hL hne _ 0 T3 _ _ rfl ⟨by decide, by decide⟩ g7 ox om g8 (fun q => absurd (((cn3.2.1 a2 g4.1).2 663).trans g6) q) (pa := pa) (by rw [l3]; exact lf3) (((cn3.2.1 a1 (l_cn g2.1 cn2)).1 576).trans (((cn2.2.1 a1 g2.1).1 576).trans r5)) (oa_cn (oa_cn r6 cn2) cn3) ((((cn3.2.1 c1 (l_cn r6.1 cn2)).2 65).trans (((cn2.2.1 c1 r6.1).2 65).trans r7)).trans (((cn3.2.1 a2 g4.1).2 642).trans g9).symm) (rl_cn (rl_cn r8 g2.1 cn2) (l_cn g2.1 cn2) cn3) (oa_cn (oa_cn r9 cn2) cn3) (rl_cn (rl_cn r10 r9.1 cn2) (l_cn r9.1 cn2) cn3) hrb q2 hrm q4 hby l3 l5 lf1 lf2 hli (by rw [e0]; omega) (by rw [e0]; omega)
