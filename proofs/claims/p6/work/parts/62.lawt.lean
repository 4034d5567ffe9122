set_option maxHeartbeats 4000000 in
theorem law_true {b L : Nat} {xs : Nat → Int32} (hL : L ≤ 4096) : TT (b, L, xs) M_law 0 [(0, .ref b)] [] S_0 601024 7293034 PL := by
  have hG0 : GI S_0 [] := fun a ha => nomatch ha
  refine tt_newo (k1 := 601023) (n1 := 7293029) dL_law_0 nl_L_8 (by decide) (by decide) (fun a1 ha1 => ?_)
  refine tt_dup dL_law_3 rfl ?_
  refine tt_callI (As := []) (Mid := fun r T _ _ => r = .inl none ∧ GI T [] ∧ Oa T [] 9 0 a1 ∧ (∃ b i, hp_R T 576 a1 = some b ∧ Oa T [] 1 0 b ∧ hp_I T 65 b = 0 ∧ hp_R T 577 a1 = some i ∧ Oa T [] 3 0 i ∧ hp_R T 192 i = some b ∧ Ar [] T 64 b)) (k1 := 26) (n1 := 670) (k2 := 600997) (n2 := 7292359) dL_law_4 ca_L_52 ⟨by decide, by decide⟩ (Nat.le_of_ble_eq_true rfl) (Nat.le_of_ble_eq_true rfl) (by decide) (by decide) (cd_9 (gi_o hG0 ha1) in_o (fun q h => nomatch h) (fun h => nomatch h) k_o zf_o (kc := 26) (nc := 670) (by decide) (by decide) (fun T u1 u2 u3 u4 => ⟨rfl, u1, u2, u4⟩)) (fun v T1 x y hw => ?_) (fun X T hw => by obtain ⟨e, -⟩ := hw; cases e)
  obtain ⟨e1, g1, g2, c1, i1, r5, r6, r7, r8, r9, r10, ab, s1, -, s3, s4, s5⟩ := hw
  cases e1
  show TT (b, L, xs) M_law 7 [(0, .ref b)] [.ref a1] T1 600997 7292359 PL
  refine tt_astore_n (ks := [0, 1]) (L' := [(1, .ref a1), (0, .ref b)]) dL_law_7 (by decide) rfl ?_
  refine tt_newo (k1 := 600996) (n1 := 7292322) dL_law_8 nl_L_53 (by decide) (by decide) (fun a2 ha2 => ?_)
  refine tt_dup dL_law_11 rfl ?_
  refine tt_callI (As := []) (Mid := fun r T _ _ => r = .inl none ∧ GI T [] ∧ Oa T [] 10 0 a2 ∧ Cf a2 (nw_o T1 10 a2) T ∧ hp_I T 663 a2 = 0 ∧ hp_I T 642 a2 = 0 ∧ Ar (hp_L (nw_o T1 10 a2)) T 641 a2) (k1 := 13) (n1 := 21218) (k2 := 600983) (n2 := 7271104) dL_law_12 ca_L_55 ⟨by decide, by decide⟩ (Nat.le_of_ble_eq_true rfl) (Nat.le_of_ble_eq_true rfl) (by decide) (by decide) (cd_10 (gi_o g1 ha2) in_o (fun q h => nomatch h) (fun h => nomatch h) k_o zf_o (kc := 13) (nc := 21218) (by decide) (by decide) (fun T u1 u2 u3 u4 u5 u6 => ⟨rfl, u1, u2, u3, u5, u4, u6⟩)) (fun v T2 x y hw => ?_) (fun X T hw => by obtain ⟨e, -⟩ := hw; cases e)
  obtain ⟨e2, g3, g4, g5, g6, g9, am, t1, t2, t3, t4, t5⟩ := hw
  cases e2
  have cn2 := cn_new ha2 g5
  show TT (b, L, xs) M_law 15 [(1, .ref a1), (0, .ref b)] [.ref a2] T2 600983 7271104 PL
  refine tt_astore_n (ks := [0, 1, 2]) (L' := [(2, .ref a2), (1, .ref a1), (0, .ref b)]) dL_law_15 (by decide) rfl ?_
  refine tt_iconst (v := 1) dL_law_16 rfl ?_
  refine gn_J (k1 := 600982) (n1 := 7271103) dL_law_17 ka_long (by decide) (len := 1) rfl (by decide) (by decide) (by decide) g3 (fun q h => nomatch h) (fun a3 T3 g7 cn3 g8 => ?_)
  refine tt_astore_n (ks := [0, 1, 2, 3]) (L' := [(3, .ref a3), (2, .ref a2), (1, .ref a1), (0, .ref b)]) dL_law_19 (by decide) rfl ?_
  refine tt_iconst (v := 0) dL_law_20 rfl ?_
  refine tt_istore (ks := [0, 1, 2, 3, 4]) (L' := [(4, .int 0), (3, .ref a3), (2, .ref a2), (1, .ref a1), (0, .ref b)]) dL_law_21 (by decide) rfl ?_
  have ox := oa_cn (oa_cn g2 cn2) cn3
  have om := oa_cn g4 cn3
  obtain ⟨l1, r1, p1⟩ := gi_R (k := 579) g7 ox 4 0
  obtain ⟨pa, r2, p2⟩ := gi_R (k := 258) g7 p1 35 200
  have hne : ab ≠ am := fun e => t2 (e ▸ l_cn s3 (cn_o ha2))
  have hrb := rl_cn (rl_cn s1 r6.1 cn2) (l_cn r6.1 cn2) cn3
  obtain ⟨ab2, q1, q2⟩ := gi_R (k := 64) g7 (oa_cn (oa_cn r6 cn2) cn3) 32 200
  obtain rfl : ab = ab2 := Option.some.inj (hrb.symm.trans q1)
  have hrm := rl_cn t1 g4.1 cn3
  obtain ⟨am2, q3, q4⟩ := gi_R (k := 641) g7 om 32 200
  obtain rfl : am = am2 := Option.some.inj (hrm.symm.trans q3)
  have hz1 : hp_i T3 ab = fun _ => 0 := (cn3.2.2.2 ab (l_cn s3 cn2) ((cn2.1 ab s3).2.2.trans s4)).trans ((cn2.2.2.2 ab s3 s4).trans s5)
  have hz2 : hp_i T3 am = fun _ => 0 := (cn3.2.2.2 am t3 t4).trans t5
  have hby : hp_i T3 ab = hp_i T3 am ∧ ∀ i, Rg 0 255 (hp_i T3 am i) := by_0 hz1 hz2
  have hn := nl_le (hp_r T3 pa)
  have e0 : (4104 - (0 : Int32).toInt).toNat = 4104 := rfl
  exact law_loop hL hne _ 0 T3 _ _ rfl ⟨by decide, by decide⟩ g7 ox om g8 (fun q => absurd (((cn3.2.1 a2 g4.1).2 663).trans g6) q) (pa := pa) (by rw [r1]; exact r2) (((cn3.2.1 a1 (l_cn g2.1 cn2)).1 576).trans (((cn2.2.1 a1 g2.1).1 576).trans r5)) (oa_cn (oa_cn r6 cn2) cn3) ((((cn3.2.1 c1 (l_cn r6.1 cn2)).2 65).trans (((cn2.2.1 c1 r6.1).2 65).trans r7)).trans (((cn3.2.1 a2 g4.1).2 642).trans g9).symm) (rl_cn (rl_cn r8 g2.1 cn2) (l_cn g2.1 cn2) cn3) (oa_cn (oa_cn r9 cn2) cn3) (rl_cn (rl_cn r10 r9.1 cn2) (l_cn r9.1 cn2) cn3) hrb q2 hrm q4 hby (by rw [e0]; omega) (by rw [e0]; omega)
