set_option maxHeartbeats 4000000 in
theorem ct_arrive {xi : SX} {S : Hp} {E : List Nat} {kc nc : Nat} {P : Po} {o0 : Nat} {x1 : Int32} {x4 : Int32} {o5 : Nat} (hG : GI S E) (h0 : Oa S E 4 0 o0) (h5 : Oa S E 5 0 o5) (hP : ∀ r T x y, PV E [321, 322, 515, 516, 517, 9987, 9994] S kc nc rV ex0 [] r T x y → P r T x y) : TT xi M_X4_arrive 56 [(0, .ref o0), (1, .int x1), (4, .int x4), (5, .ref o5)] [] S kc nc P := by
  have hA : Af E [321, 322, 515, 516, 517, 9987, 9994] S S := af_rf
  refine tt_iconst (v := 1) dX4_arrive_56 rfl ?_
  refine tt_istore (ks := [0, 1, 2, 3, 4]) (L' := [(6, .int 1), (0, .ref o0), (1, .int x1), (4, .int x4), (5, .ref o5)]) dX4_arrive_57 (by decide) rfl ?_
  refine tt_aload (j := 4) dX4_arrive_59 rfl ?_
  refine tt_getI (id := 321) dX4_arrive_61 fl_4_59 rfl rfl (ob_af h5 hA) ?_
  have B101 : ∀ (S102 : Hp) (x105 : Int32), GI S102 E → Af E [321, 322, 515, 516, 517, 9987, 9994] S S102 → Rg 0 1 x105 → TT xi M_X4_arrive 113 [(0, .ref o0), (1, .int x1), (4, .int x4), (5, .ref o5), (6, .int x105)] [] S102 kc nc P := by
    intro S102 x105 hG103 hA104 h106
    refine tt_iload (j := 4) dX4_arrive_113 rfl ?_
    have B107 : ∀ (S108 : Hp), GI S108 E → Af E [321, 322, 515, 516, 517, 9987, 9994] S S108 → TT xi M_X4_arrive 135 [(0, .ref o0), (1, .int x1), (4, .int x4), (5, .ref o5), (6, .int x105)] [] S108 kc nc P := by
      intro S108 hG109 hA110
      exact tt_vreturn dX4_arrive_135 rfl (hP _ _ _ _ ⟨hG109, hA110, Or.inl ⟨_, rfl, rfl, trivial, rfl, rfl⟩⟩)
    refine tt_if_eq (tgt := 135) dX4_arrive_115 rfl (fun q111 => ?_) (fun q111 => ?_)
    · skip
      have h112 : Rg 0 0 x105 := rg_eq_l h106 (⟨by decide, by decide⟩ : Rg 0 0 0) q111
      exact B107 S102 hG103 hA104
    · skip
      have h113 : Rg 1 1 x105 := rg_ne_lo h106 (⟨by decide, by decide⟩ : Rg 0 0 0) q111
      refine tt_aload (j := 3) dX4_arrive_118 rfl ?_
      refine tt_dup dX4_arrive_120 rfl ?_
      refine tt_getI (id := 321) dX4_arrive_121 fl_4_59 rfl rfl (ob_af h5 hA104) ?_
      refine tt_iconst (v := 1) dX4_arrive_124 rfl ?_
      refine tt_iadd dX4_arrive_125 ?_
      refine gt_pI (id := 321) (x := ((hp_I S102 321 o5) + 1)) dX4_arrive_126 fl_4_59 rfl rfl h5 hA104 rfl rfl rfl (gp_I hG103) (by decide) (fun h => absurd h (by decide)) (fun h => absurd h (by decide)) (fun S114 hG115 hA116 e117 f118 er119 => ?_)
      refine tt_aload (j := 3) dX4_arrive_129 rfl ?_
      refine tt_iconst (v := 1) dX4_arrive_131 rfl ?_
      refine gt_pI (id := 322) (x := 1) dX4_arrive_132 fl_4_63 rfl rfl h5 hA116 rfl rfl rfl (gp_Ir hG115 (⟨by decide, by decide⟩ : Rg 1 1 1)) (by decide) (fun h => absurd h (by decide)) (fun h => absurd h (by decide)) (fun S120 hG121 hA122 e123 f124 er125 => ?_)
      exact B107 S120 hG121 hA122
  refine tt_if_ne (tgt := 82) dX4_arrive_64 rfl (fun q126 => ?_) (fun q126 => ?_)
  · skip
    refine tt_aload_n (j := 1) dX4_arrive_82 rfl ?_
    refine tt_aload (j := 4) dX4_arrive_83 rfl ?_
    obtain ⟨b127, hr128, ho129⟩ := gi_R (k := 320) hG h5 8 0
    refine gt_gR (id := 320) dX4_arrive_85 fl_4_74 rfl rfl h5 hA hr128 ?_
    refine tt_iload (j := 3) dX4_arrive_88 rfl ?_
    refine tt_iload_n (j := 2) dX4_arrive_90 rfl ?_
    have B130 : ∀ (x131 : Int32), Rg 0 1 x131 → TT xi M_X4_arrive 108 [(0, .ref o0), (1, .int x1), (4, .int x4), (5, .ref o5), (6, .int 1)] [.int x131, .ref b127, .ref o0] S kc nc P := by
      intro x131 h132
      refine gt_VI (As := [.ref b127, .int x131]) dX4_arrive_108 ca_X4_138 ⟨by decide, by decide⟩ h0 hA rfl (Nat.le_of_ble_eq_true rfl) (Nat.le_of_ble_eq_true rfl) (by decide) (cs_X4_absorb hG (oa_af h0 hA) (oa_af ho129 hA) (rg_w h132) (fun _ _ _ _ h => h)) rfl (fun _ h => nomatch h) (fun S133 x138 h139 hx137 hG134 hB135 hA136 => ?_)
      refine tt_istore (ks := [0, 1, 2, 3, 4]) (L' := [(6, .int x138), (0, .ref o0), (1, .int x1), (4, .int x4), (5, .ref o5)]) dX4_arrive_111 (by decide) rfl ?_
      exact tt_loc (ks := [1, 2, 3, 4, 0]) rfl (B101 S133 x138 hG134 hA136 h139)
    have B140 : TT xi M_X4_arrive 107 [(0, .ref o0), (1, .int x1), (4, .int x4), (5, .ref o5), (6, .int 1)] [.ref b127, .ref o0] S kc nc P := by
      refine tt_iconst (v := 0) dX4_arrive_107 rfl ?_
      exact B130 0 (rg_w (⟨by decide, by decide⟩ : Rg 0 0 0))
    refine tt_icmp_gt (tgt := 107) dX4_arrive_91 rfl (fun q141 => ?_) (fun q141 => ?_)
    · skip
      have h142 : Rg (-2147483648) 2147483646 x1 := rg_lt_l (rg_all x1) (rg_all x4) q141
      have h143 : Rg (-2147483647) 2147483647 x4 := rg_lt_r (rg_all x1) (rg_all x4) q141
      exact tt_loc (ks := [1, 2, 3, 4, 0]) rfl (B140 )
    · skip
      refine tt_aload (j := 4) dX4_arrive_94 rfl ?_
      refine tt_getI (id := 321) dX4_arrive_96 fl_4_59 rfl rfl (ob_af h5 hA) ?_
      refine tt_iconst (v := 3) dX4_arrive_99 rfl ?_
      refine tt_icmp_lt (tgt := 107) dX4_arrive_100 rfl (fun q144 => ?_) (fun q144 => ?_)
      · skip
        have h145 : Rg (-2147483648) 2 (hp_I S 321 o5) := rg_lt_l (rg_all (hp_I S 321 o5)) (⟨by decide, by decide⟩ : Rg 3 3 3) q144
        exact tt_loc (ks := [1, 2, 3, 4, 0]) rfl (B140 )
      · skip
        have h146 : Rg 3 2147483647 (hp_I S 321 o5) := rg_le_r (⟨by decide, by decide⟩ : Rg 3 3 3) (rg_all (hp_I S 321 o5)) (nlt_le q144)
        refine tt_iconst (v := 1) dX4_arrive_103 rfl ?_
        refine tt_goto (tgt := 108) dX4_arrive_104 rfl ?_
        exact tt_loc (ks := [1, 2, 3, 4, 0]) rfl (B130 1 (rg_w (⟨by decide, by decide⟩ : Rg 1 1 1)))
  · skip
    have h147 : Rg 0 0 (hp_I S 321 o5) := rg_eq_l (rg_all (hp_I S 321 o5)) (⟨by decide, by decide⟩ : Rg 0 0 0) q126
    refine tt_aload (j := 4) dX4_arrive_67 rfl ?_
    obtain ⟨b148, hr149, ho150⟩ := gi_R (k := 320) hG h5 8 0
    refine gt_gR (id := 320) dX4_arrive_69 fl_4_74 rfl rfl h5 hA hr149 ?_
    refine tt_aload_n (j := 1) dX4_arrive_72 rfl ?_
    obtain ⟨b151, hr152, ho153⟩ := gi_R (k := 259) hG h0 8 0
    refine gt_gR (id := 259) dX4_arrive_73 fl_4_20 rfl rfl h0 hA hr152 ?_
    refine gt_Vv (As := [.ref b151]) dX4_arrive_76 ca_X4_84 ⟨by decide, by decide⟩ ho150 hA rfl (Nat.le_of_ble_eq_true rfl) (Nat.le_of_ble_eq_true rfl) (by decide) (cs_X8_copyFrom hG (oa_af ho150 hA) (oa_af ho153 hA) (fun _ _ _ _ h => h)) rfl (fun _ h => nomatch h) (fun S154 hx158 hG155 hB156 hA157 => ?_)
    refine tt_goto (tgt := 113) dX4_arrive_79 rfl ?_
    exact tt_loc (ks := [1, 2, 3, 4, 0]) rfl (B101 S154 1 hG155 hA157 (rg_w (⟨by decide, by decide⟩ : Rg 1 1 1)))
set_option maxHeartbeats 4000000 in
theorem cs_X4_arrive {xi : SX} {S : Hp} {E : List Nat} {kc nc pa : Nat} {P : Po} {o0 : Nat} {x1 : Int32} {y2 : Int64} (hE0 : E = []) (hG : GI S E) (h0 : Oa S E 4 0 o0) (hpa : hp_R S 258 o0 = some pa) (hkc : 5 * nl (hp_r S pa) ≤ kc) (hnc : 82 * nl (hp_r S pa) ≤ nc) (hP : ∀ r T x y, PA E [321, 322, 515, 516, 517, 9987, 9994, 9999] S pa kc nc rV r T x y → P r T x y) : TT xi M_X4_arrive 0 [(0, .ref o0), (1, .int x1), (2, .long y2)] [] S kc nc P := by
  have hA : Af E [321, 322, 515, 516, 517, 9987, 9994, 9999] S S := af_rf
  obtain ⟨b1, hr1, ho1⟩ := gi_R (k := 256) hG h0 1 0
  obtain ⟨b2, hr2, ho2⟩ := gi_R (k := 258) hG h0 35 200
  obtain rfl : b2 = pa := Option.some.inj (hr2.symm.trans hpa)
  refine tt_aload_n (j := 0) dX4_arrive_0 rfl ?_
  refine gt_gR (id := 256) dX4_arrive_1 fl_4_51 rfl rfl h0 hA hr1 ?_
  refine tt_lload_n (j := 2) dX4_arrive_4 rfl ?_
  refine gt_VIp (As := [.long y2]) dX4_arrive_5 ca_X4_131 ⟨by decide, by decide⟩ ho1 hA rfl (Nat.le_of_ble_eq_true rfl) (Nat.le_of_ble_eq_true rfl) (by decide) (cs_X1_holds hG (oa_af ho1 hA) (fun _ _ _ _ h => h)) rfl (fun _ h => nomatch h) (fun _ _ q => q.1) (fun z hz hx => ?_)
  refine tt_if_eq (tgt := 19) dX4_arrive_8 rfl (fun q => ?_) (fun q => ?_)
  · exact tt_vreturn dX4_arrive_19 rfl (hP _ _ _ _ ⟨hG, hA, bd_rf, _, rfl, rfl⟩)
  have hy : Rl 0 199 y2 := hx.2 _ rfl q
  refine tt_lload_n (j := 2) dX4_arrive_11 rfl ?_
  refine tt_ldc2 (v := 200) dX4_arrive_12 kl_4_135 ?_
  refine tt_lcmp dX4_arrive_15 ?_
  refine tt_if_lt (tgt := 20) dX4_arrive_16 rfl (fun q2 => ?_) (fun q2 => ?_)
  rotate_left
  · exact tt_vreturn dX4_arrive_19 rfl (hP _ _ _ _ ⟨hG, hA, bd_rf, _, rfl, rfl⟩)
  refine tt_lload_n (j := 2) dX4_arrive_20 rfl ?_
  refine tt_l2i dX4_arrive_21 ?_
  have hi : Rg 0 199 (y2 : Int64).toInt32 := rl_l2i hy
  generalize (y2 : Int64).toInt32 = x4 at hi ⊢
  refine tt_istore (ks := [0, 1, 2, 3]) (L' := [(4, .int x4), (0, .ref o0), (1, .int x1), (2, .long y2)]) dX4_arrive_22 (by decide) rfl ?_
  refine tt_aload_n (j := 1) dX4_arrive_24 rfl ?_
  refine gt_gR (id := 258) dX4_arrive_25 fl_4_11 rfl rfl h0 hA hr2 ?_
  refine tt_iload (j := 0) dX4_arrive_28 rfl ?_
  refine tt_aaload dX4_arrive_30 (ob_af ho2 hA) (by rw [n_af ho2 hA]; exact rg_in hi) ?_
  have fin : ∀ (S1 : Hp) (b : Nat) (k n : Nat), GI S1 E → Af E [321, 322, 515, 516, 517, 9987, 9994, 9999] S S1 → Bd S b2 kc nc S1 k n → Oa S1 E 5 0 b → TT xi M_X4_arrive 56 [(0, .ref o0), (1, .int x1), (4, .int x4), (5, .ref b)] [] S1 k n P := by
    intro S1 b k n g1 g2 g3 g4
    refine ct_arrive g1 (oa_af h0 g2) g4 (fun r T x y h => ?_)
    obtain ⟨u1, u2, ⟨v, rfl, hv, -, rfl, rfl⟩ | ⟨X, hX, -⟩⟩ := h
    · obtain rfl : v = none := hv
      exact hP _ _ _ _ ⟨u1, af_tr g2 u2, bd_eq g3 (u2.2.2.2.1 (by decide)).2, _, rfl, rfl⟩
    · cases hX
  cases e : hp_r S b2 x4.toNatClampNeg with
  | some b =>
    refine tt_astore (ks := [0, 1, 2, 3, 4]) (L' := [(5, .ref b), (4, .int x4), (0, .ref o0), (1, .int x1), (2, .long y2)]) dX4_arrive_31 (by decide) rfl ?_
    refine tt_aload (j := 0) dX4_arrive_33 rfl ?_
    refine tt_ifnonnull (tgt := 56) dX4_arrive_35 rfl ?_
    exact tt_loc (ks := [2, 3, 1, 0]) rfl (fin S b kc nc hG hA bd_rf (gi_r hG ho2 e))
  | none =>
    refine tt_astoreN (ks := [0, 1, 2, 3, 4]) (L' := [(5, .null), (4, .int x4), (0, .ref o0), (1, .int x1), (2, .long y2)]) dX4_arrive_31 (by decide) rfl ?_
    refine tt_aloadN (j := 0) dX4_arrive_33 rfl ?_
    refine tt_ifnonnullN dX4_arrive_35 ?_
    have hnl := nl_up (b := 0) (rg_cl (n := 200) hi) e
    refine tt_newo (k1 := kc - 1) (n1 := nc - 3) dX4_arrive_38 nl_4_9 (by omega) (by show nc - 3 + 3 ≤ nc; omega) (fun a ha => ?_)
    refine tt_dup dX4_arrive_41 rfl ?_
    refine tt_callIN (As := []) (Mid := fun r T _ _ => r = .inl none ∧ GI T E ∧ Oa T E 5 0 a ∧ Cf a (nw_o S 5 a) T) (k1 := 4) (n1 := 79) (k2 := kc - 5) (n2 := nc - 82) dX4_arrive_42 ca_X4_137 ⟨by decide, by decide⟩ (Nat.le_of_ble_eq_true rfl) (Nat.le_of_ble_eq_true rfl) (by omega) (by omega) (cc_5 (gi_o hG ha) in_o (by rw [hE0]; intro q hq; cases hq) (by rw [hE0]; intro q; cases q) k_o zf_o (kc := 4) (nc := 79) (by decide) (by decide) (fun T u1 u2 u3 => ⟨rfl, u1, u2, u3⟩)) (fun v T x y hw => ?_) (fun X T hw => by obtain ⟨e, -⟩ := hw; cases e)
    obtain ⟨e9, g1, g2, g3⟩ := hw
    cases e9
    have cn := cn_new ha g3
    show TT xi M_X4_arrive 45 [(5, .null), (4, .int x4), (0, .ref o0), (1, .int x1), (2, .long y2)] [.ref a] T (kc - 5) (nc - 82) P
    have hA1 : Af E [321, 322, 515, 516, 517, 9987, 9994, 9999] S T := af_cn cn
    refine tt_astore (ks := [0, 1, 2, 3, 4]) (L' := [(5, .ref a), (4, .int x4), (0, .ref o0), (1, .int x1), (2, .long y2)]) dX4_arrive_45 (by decide) rfl ?_
    refine tt_aload_n (j := 2) dX4_arrive_47 rfl ?_
    refine gt_gR (id := 258) dX4_arrive_48 fl_4_11 rfl rfl h0 hA1 hr2 ?_
    refine tt_iload (j := 1) dX4_arrive_51 rfl ?_
    refine tt_aload (j := 0) dX4_arrive_53 rfl ?_
    refine tt_aastore dX4_arrive_55 (ob_af ho2 hA1) ⟨g2.1, g2.2.2.1⟩ (by rw [n_af ho2 hA1]; exact rg_in hi) ?_
    have er : hp_r T b2 = hp_r S b2 := cn.2.2.1 b2 ho2.1
    have hd := nl_up (b := a) (rg_cl (n := 200) hi) e
    refine tt_loc (ks := [2, 3, 1, 0]) rfl (fin _ a (kc - 5) (nc - 82) (gp_r g1 (oa_af ho2 hA1) g2) (af_tr hA1 af_r (fun _ h => h)) ⟨?_, ?_⟩ ?_)
    · rw [hq_r_r, va_up_self, er]
      omega
    · rw [hq_r_r, va_up_self, er]
      omega
    · have hO := g2
      unfold Oa at hO ⊢
      rw [hq_L_r, hq_K_r, hq_N_r]
      exact hO
set_option maxHeartbeats 4000000 in
theorem cs_X4_goThrough {xi : SX} {S : Hp} {E : List Nat} {kc nc pa : Nat} {P : Po} {o0 : Nat} {x1 : Int32} (hE0 : E = []) (hG : GI S E) (h0 : Oa S E 4 0 o0) (hpa : hp_R S 258 o0 = some pa) (hkc : 5 * nl (hp_r S pa) ≤ kc) (hnc : 82 * nl (hp_r S pa) ≤ nc) (hP : ∀ r T x y, PA E [193, 194, 195, 196, 197, 198, 199, 200, 201, 202, 203, 204, 321, 322, 515, 516, 517, 9987, 9994, 9999] S pa kc nc rV r T x y → P r T x y) : TT xi M_X4_goThrough 0 [(0, .ref o0), (1, .int x1)] [] S kc nc P := by
  have hA : Af E [193, 194, 195, 196, 197, 198, 199, 200, 201, 202, 203, 204, 321, 322, 515, 516, 517, 9987, 9994, 9999] S S := af_rf
  have bd0 : Bd S pa kc nc S kc nc := bd_rf
  refine tt_aload_n (j := 0) dX4_goThrough_0 rfl ?_
  refine tt_iload_n (j := 1) dX4_goThrough_1 rfl ?_
  refine gt_VPp (As := [.int x1]) dX4_goThrough_2 ca_X4_67 ⟨by decide, by decide⟩ h0 hA rfl (Nat.le_of_ble_eq_true rfl) (Nat.le_of_ble_eq_true rfl) (by decide) (cs_X4_pointIfMade hG (oa_af h0 hA) (fun _ _ _ _ h => h)) rfl (fun _ h => nomatch h) (fun _ _ q => q) (fun hx105 => ?_) (fun b106 h107 hx105 => ?_)
  · skip
    refine tt_astore_nN (ks := [0, 1, 2]) (L' := [(2, .null), (0, .ref o0), (1, .int x1)]) dX4_goThrough_5 (by decide) rfl ?_
    refine tt_aload_nN (j := 0) dX4_goThrough_6 rfl ?_
    refine tt_ifnonnullN dX4_goThrough_7 ?_
    exact tt_vreturn dX4_goThrough_10 rfl (hP _ _ _ _ ⟨hG, hA, bd0, _, rfl, rfl⟩)
  · skip
    refine tt_astore_n (ks := [0, 1, 2]) (L' := [(2, .ref b106), (0, .ref o0), (1, .int x1)]) dX4_goThrough_5 (by decide) rfl ?_
    refine tt_aload_n (j := 0) dX4_goThrough_6 rfl ?_
    refine tt_ifnonnull (tgt := 11) dX4_goThrough_7 rfl ?_
    refine tt_aload_n (j := 0) dX4_goThrough_11 rfl ?_
    refine tt_iconst (v := 0) dX4_goThrough_12 rfl ?_
    refine gt_pI (id := 322) (x := 0) dX4_goThrough_13 fl_4_63 rfl rfl h107 hA rfl rfl rfl (gp_Ir hG (⟨by decide, by decide⟩ : Rg 0 0 0)) (by decide) (fun h => absurd h (by decide)) (fun h => absurd h (by decide)) (fun S108 hG109 hA110 e111 f112 er113 => ?_)
    have bd114 := bd_eq bd0 er113
    refine tt_aload_n (j := 1) dX4_goThrough_16 rfl ?_
    obtain ⟨b115, hr116, ho117⟩ := gi_R (k := 257) hG h0 3 0
    refine gt_gR (id := 257) dX4_goThrough_17 fl_4_55 rfl rfl h0 hA110 hr116 ?_
    refine tt_iload_n (j := 2) dX4_goThrough_20 rfl ?_
    refine gt_Vv (As := [.int x1]) dX4_goThrough_21 ca_X4_105 ⟨by decide, by decide⟩ ho117 hA110 rfl (Nat.le_of_ble_eq_true rfl) (Nat.le_of_ble_eq_true rfl) (by decide) (cs_X3_readFrom hG109 (oa_af ho117 hA110) (fun _ _ _ _ h => h)) rfl (fun _ h => nomatch h) (fun S118 hx122 hG119 hB120 hA121 => ?_)
    have bd123 := bd_eq bd114 (hB120.2.2.2.1 (by decide)).2
    refine tt_aload_n (j := 1) dX4_goThrough_24 rfl ?_
    refine gt_gR (id := 257) dX4_goThrough_25 fl_4_55 rfl rfl h0 hA121 hr116 ?_
    refine tt_getI (id := 200) dX4_goThrough_28 fl_4_110 rfl rfl (ob_af ho117 hA121) ?_
    refine tt_istore_n (ks := [0, 1, 2, 3]) (L' := [(3, .int (hp_I S118 200 b115)), (2, .ref b106), (0, .ref o0), (1, .int x1)]) dX4_goThrough_31 (by decide) rfl ?_
    refine tt_iload_n (j := 0) dX4_goThrough_32 rfl ?_
    refine tt_iconst (v := (-1)) dX4_goThrough_33 rfl ?_
    have B124 : TT xi M_X4_goThrough 43 [(0, .ref o0), (1, .int x1), (2, .ref b106), (3, .int (hp_I S118 200 b115))] [] S118 kc nc P := by
      exact tt_vreturn dX4_goThrough_43 rfl (hP _ _ _ _ ⟨hG119, hA121, bd123, _, rfl, rfl⟩)
    refine tt_icmp_eq (tgt := 43) dX4_goThrough_34 rfl (fun q125 => ?_) (fun q125 => ?_)
    · skip
      have h126 : Rg (-1) (-1) (hp_I S118 200 b115) := rg_eq_l (rg_all (hp_I S118 200 b115)) (⟨by decide, by decide⟩ : Rg (-1) (-1) (-1)) q125
      exact tt_loc (ks := [2, 3, 1, 0]) rfl (B124 )
    · skip
      refine tt_iload_n (j := 0) dX4_goThrough_37 rfl ?_
      refine tt_bipush (v := 22) dX4_goThrough_38 rfl ?_
      refine tt_icmp_ne (tgt := 44) dX4_goThrough_40 rfl (fun q127 => ?_) (fun q127 => ?_)
      · skip
        refine tt_iload_n (j := 0) dX4_goThrough_44 rfl ?_
        refine tt_bipush (v := 20) dX4_goThrough_45 rfl ?_
        have B128 : ∀ (S129 : Hp) (k132 : Nat) (n133 : Nat), GI S129 E → Af E [193, 194, 195, 196, 197, 198, 199, 200, 201, 202, 203, 204, 321, 322, 515, 516, 517, 9987, 9994, 9999] S S129 → Bd S pa kc nc S129 k132 n133 → TT xi M_X4_goThrough 119 [(0, .ref o0), (1, .int x1), (2, .ref b106), (3, .int (hp_I S118 200 b115))] [] S129 k132 n133 P := by
          intro S129 k132 n133 hG130 hA131 bd134
          refine tt_iload_n (j := 3) dX4_goThrough_119 rfl ?_
          refine tt_bipush (v := 20) dX4_goThrough_120 rfl ?_
          have B135 : ∀ (S136 : Hp) (k139 : Nat) (n140 : Nat), GI S136 E → Af E [193, 194, 195, 196, 197, 198, 199, 200, 201, 202, 203, 204, 321, 322, 515, 516, 517, 9987, 9994, 9999] S S136 → Bd S pa kc nc S136 k139 n140 → TT xi M_X4_goThrough 182 [(0, .ref o0), (1, .int x1), (2, .ref b106), (3, .int (hp_I S118 200 b115))] [] S136 k139 n140 P := by
            intro S136 k139 n140 hG137 hA138 bd141
            exact tt_vreturn dX4_goThrough_182 rfl (hP _ _ _ _ ⟨hG137, hA138, bd141, _, rfl, rfl⟩)
          have B142 : TT xi M_X4_goThrough 131 [(0, .ref o0), (1, .int x1), (2, .ref b106), (3, .int (hp_I S118 200 b115))] [] S129 k132 n133 P := by
            refine tt_aload_n (j := 0) dX4_goThrough_131 rfl ?_
            obtain ⟨b143, hr144, ho145⟩ := gi_R (k := 259) hG h0 8 0
            refine gt_gR (id := 259) dX4_goThrough_132 fl_4_20 rfl rfl h0 hA131 hr144 ?_
            refine tt_aload_n (j := 2) dX4_goThrough_135 rfl ?_
            obtain ⟨b146, hr147, ho148⟩ := gi_R (k := 320) hG h107 8 0
            refine gt_gR (id := 320) dX4_goThrough_136 fl_4_74 rfl rfl h107 hA131 hr147 ?_
            refine gt_Vv (As := [.ref b146]) dX4_goThrough_139 ca_X4_84 ⟨by decide, by decide⟩ ho145 hA131 rfl (Nat.le_of_ble_eq_true rfl) (Nat.le_of_ble_eq_true rfl) (by decide) (cs_X8_copyFrom hG130 (oa_af ho145 hA131) (oa_af ho148 hA131) (fun _ _ _ _ h => h)) rfl (fun _ h => nomatch h) (fun S149 hx153 hG150 hB151 hA152 => ?_)
            have bd154 := bd_eq bd134 (hB151.2.2.2.1 (by decide)).2
            refine tt_iload_n (j := 3) dX4_goThrough_142 rfl ?_
            refine tt_bipush (v := 20) dX4_goThrough_143 rfl ?_
            have B155 : ∀ (S156 : Hp) (k159 : Nat) (n160 : Nat), GI S156 E → Af E [193, 194, 195, 196, 197, 198, 199, 200, 201, 202, 203, 204, 321, 322, 515, 516, 517, 9987, 9994, 9999] S S156 → Bd S pa kc nc S156 k159 n160 → TT xi M_X4_goThrough 170 [(0, .ref o0), (1, .int x1), (2, .ref b106), (3, .int (hp_I S118 200 b115))] [] S156 k159 n160 P := by
              intro S156 k159 n160 hG157 hA158 bd161
              refine tt_aload_n (j := 0) dX4_goThrough_170 rfl ?_
              refine tt_iload_n (j := 1) dX4_goThrough_171 rfl ?_
              refine tt_aload_n (j := 0) dX4_goThrough_172 rfl ?_
              refine gt_gR (id := 257) dX4_goThrough_173 fl_4_55 rfl rfl h0 hA158 hr116 ?_
              refine gt_gJ (id := 205) (v := (hp_J S156 205 b115)) dX4_goThrough_176 fl_4_127 rfl rfl ho117 hA158 rfl ?_
              refine gt_Av (As := [.int x1, .long (hp_J S156 205 b115)]) dX4_goThrough_179 ca_X4_88 ⟨by decide, by decide⟩ h0 hA158 rfl (Nat.le_of_ble_eq_true rfl) (Nat.le_of_ble_eq_true rfl) (by decide) (cs_X4_arrive hE0 hG157 (oa_af h0 hA158) (r_af h0 hA158 hpa) (bd_k bd161 hkc) (bd_n bd161 hnc) (fun _ _ _ _ h => h)) rfl (fun S162 k166 n167 hG163 hB164 hA165 bd168 => ?_)
              have bd171 := bd_tr bd161 bd168
              exact B135 S162 k166 n167 hG163 hA165 bd171
            refine tt_icmp_eq (tgt := 170) dX4_goThrough_145 rfl (fun q172 => ?_) (fun q172 => ?_)
            · skip
              have h173 : Rg 20 20 (hp_I S118 200 b115) := rg_eq_l (rg_all (hp_I S118 200 b115)) (⟨by decide, by decide⟩ : Rg 20 20 20) q172
              exact B155 S149 k132 n133 hG150 hA152 bd154
            · skip
              refine tt_aload_n (j := 0) dX4_goThrough_148 rfl ?_
              obtain ⟨b174, hr175, ho176⟩ := gi_R (k := 261) hG h0 0 0
              refine gt_gR (id := 261) dX4_goThrough_149 fl_4_34 rfl rfl h0 hA152 hr175 ?_
              refine tt_aload_n (j := 0) dX4_goThrough_152 rfl ?_
              refine gt_gR (id := 259) dX4_goThrough_153 fl_4_20 rfl rfl h0 hA152 hr144 ?_
              refine tt_aload_n (j := 0) dX4_goThrough_156 rfl ?_
              refine gt_gR (id := 257) dX4_goThrough_157 fl_4_55 rfl rfl h0 hA152 hr116 ?_
              refine tt_getI (id := 204) dX4_goThrough_160 fl_4_117 rfl rfl (ob_af ho117 hA152) ?_
              refine tt_iconst (v := 1) dX4_goThrough_163 rfl ?_
              refine gt_VI (As := [.ref b143, .int (hp_I S149 204 b115), .int 1]) dX4_goThrough_164 ca_X4_120 ⟨by decide, by decide⟩ ho176 hA152 rfl (Nat.le_of_ble_eq_true rfl) (Nat.le_of_ble_eq_true rfl) (by decide) (cs_X0_narrow hG150 (oa_af ho176 hA152) (oa_af ho145 hA152) (rg_w (⟨by decide, by decide⟩ : Rg 1 1 1)) (fun _ _ _ _ h => h)) rfl (fun _ h => nomatch h) (fun S177 x182 h183 hx181 hG178 hB179 hA180 => ?_)
              have bd184 := bd_eq bd154 (hB179.2.2.2.1 (by decide)).2
              refine tt_if_eq (tgt := 182) dX4_goThrough_167 rfl (fun q185 => ?_) (fun q185 => ?_)
              · skip
                have h186 : Rg 0 0 x182 := rg_eq_l h183 (⟨by decide, by decide⟩ : Rg 0 0 0) q185
                exact B135 S177 k132 n133 hG178 hA180 bd184
              · skip
                have h187 : Rg 1 1 x182 := rg_ne_lo h183 (⟨by decide, by decide⟩ : Rg 0 0 0) q185
                exact B155 S177 k132 n133 hG178 hA180 bd184
          refine tt_icmp_eq (tgt := 131) dX4_goThrough_122 rfl (fun q188 => ?_) (fun q188 => ?_)
          · skip
            have h189 : Rg 20 20 (hp_I S118 200 b115) := rg_eq_l (rg_all (hp_I S118 200 b115)) (⟨by decide, by decide⟩ : Rg 20 20 20) q188
            exact B142 
          · skip
            refine tt_iload_n (j := 3) dX4_goThrough_125 rfl ?_
            refine tt_bipush (v := 19) dX4_goThrough_126 rfl ?_
            refine tt_icmp_ne (tgt := 182) dX4_goThrough_128 rfl (fun q190 => ?_) (fun q190 => ?_)
            · skip
              exact B135 S129 k132 n133 hG130 hA131 bd134
            · skip
              have h191 : Rg 19 19 (hp_I S118 200 b115) := rg_eq_l (rg_all (hp_I S118 200 b115)) (⟨by decide, by decide⟩ : Rg 19 19 19) q190
              exact B142 
        refine tt_icmp_eq (tgt := 119) dX4_goThrough_47 rfl (fun q192 => ?_) (fun q192 => ?_)
        · skip
          have h193 : Rg 20 20 (hp_I S118 200 b115) := rg_eq_l (rg_all (hp_I S118 200 b115)) (⟨by decide, by decide⟩ : Rg 20 20 20) q192
          exact tt_loc (ks := [2, 3, 1, 0]) rfl (B128 S118 kc nc hG119 hA121 bd123)
        · skip
          refine tt_aload_n (j := 2) dX4_goThrough_50 rfl ?_
          obtain ⟨b194, hr195, ho196⟩ := gi_R (k := 259) hG h0 8 0
          refine gt_gR (id := 259) dX4_goThrough_51 fl_4_20 rfl rfl h0 hA121 hr195 ?_
          refine tt_aload_n (j := 1) dX4_goThrough_54 rfl ?_
          obtain ⟨b197, hr198, ho199⟩ := gi_R (k := 320) hG h107 8 0
          refine gt_gR (id := 320) dX4_goThrough_55 fl_4_74 rfl rfl h107 hA121 hr198 ?_
          refine gt_Vv (As := [.ref b197]) dX4_goThrough_58 ca_X4_84 ⟨by decide, by decide⟩ ho196 hA121 rfl (Nat.le_of_ble_eq_true rfl) (Nat.le_of_ble_eq_true rfl) (by decide) (cs_X8_copyFrom hG119 (oa_af ho196 hA121) (oa_af ho199 hA121) (fun _ _ _ _ h => h)) rfl (fun _ h => nomatch h) (fun S200 hx204 hG201 hB202 hA203 => ?_)
          have bd205 := bd_eq bd123 (hB202.2.2.2.1 (by decide)).2
          refine tt_aload_n (j := 2) dX4_goThrough_61 rfl ?_
          obtain ⟨b206, hr207, ho208⟩ := gi_R (k := 260) hG h0 2 0
          refine gt_gR (id := 260) dX4_goThrough_62 fl_4_27 rfl rfl h0 hA203 hr207 ?_
          refine tt_aload_n (j := 2) dX4_goThrough_65 rfl ?_
          refine gt_gR (id := 257) dX4_goThrough_66 fl_4_55 rfl rfl h0 hA203 hr116 ?_
          refine tt_aload_n (j := 2) dX4_goThrough_69 rfl ?_
          refine gt_gR (id := 259) dX4_goThrough_70 fl_4_20 rfl rfl h0 hA203 hr195 ?_
          refine gt_Vv (As := [.ref b115, .ref b194]) dX4_goThrough_73 ca_X4_113 ⟨by decide, by decide⟩ ho208 hA203 rfl (Nat.le_of_ble_eq_true rfl) (Nat.le_of_ble_eq_true rfl) (by decide) (cs_X2_apply hG201 (oa_af ho208 hA203) (oa_af ho117 hA203) (oa_af ho196 hA203) (fun _ _ _ _ h => h)) rfl (fun _ h => nomatch h) (fun S209 hx213 hG210 hB211 hA212 => ?_)
          have bd214 := bd_eq bd205 (hB211.2.2.2.1 (by decide)).2
          refine tt_iload_n (j := 0) dX4_goThrough_76 rfl ?_
          refine tt_bipush (v := 19) dX4_goThrough_77 rfl ?_
          have B215 : ∀ (S216 : Hp) (k219 : Nat) (n220 : Nat), GI S216 E → Af E [193, 194, 195, 196, 197, 198, 199, 200, 201, 202, 203, 204, 321, 322, 515, 516, 517, 9987, 9994, 9999] S S216 → Bd S pa kc nc S216 k219 n220 → TT xi M_X4_goThrough 104 [(0, .ref o0), (1, .int x1), (2, .ref b106), (3, .int (hp_I S118 200 b115))] [] S216 k219 n220 P := by
            intro S216 k219 n220 hG217 hA218 bd221
            refine tt_aload_n (j := 0) dX4_goThrough_104 rfl ?_
            refine tt_iload_n (j := 1) dX4_goThrough_105 rfl ?_
            refine tt_iload_n (j := 1) dX4_goThrough_106 rfl ?_
            refine tt_aload_n (j := 0) dX4_goThrough_107 rfl ?_
            refine gt_gR (id := 257) dX4_goThrough_108 fl_4_55 rfl rfl h0 hA218 hr116 ?_
            refine tt_getI (id := 199) dX4_goThrough_111 fl_4_124 rfl rfl (ob_af ho117 hA218) ?_
            refine tt_iadd dX4_goThrough_114 ?_
            refine tt_i2l dX4_goThrough_115 ?_
            refine gt_Av (As := [.int x1, .long ((x1 + (hp_I S216 199 b115)) : Int32).toInt64]) dX4_goThrough_116 ca_X4_88 ⟨by decide, by decide⟩ h0 hA218 rfl (Nat.le_of_ble_eq_true rfl) (Nat.le_of_ble_eq_true rfl) (by decide) (cs_X4_arrive hE0 hG217 (oa_af h0 hA218) (r_af h0 hA218 hpa) (bd_k bd221 hkc) (bd_n bd221 hnc) (fun _ _ _ _ h => h)) rfl (fun S222 k226 n227 hG223 hB224 hA225 bd228 => ?_)
            have bd231 := bd_tr bd221 bd228
            exact B128 S222 k226 n227 hG223 hA225 bd231
          refine tt_icmp_ne (tgt := 104) dX4_goThrough_79 rfl (fun q232 => ?_) (fun q232 => ?_)
          · skip
            exact tt_loc (ks := [2, 3, 1, 0]) rfl (B215 S209 kc nc hG210 hA212 bd214)
          · skip
            have h233 : Rg 19 19 (hp_I S118 200 b115) := rg_eq_l (rg_all (hp_I S118 200 b115)) (⟨by decide, by decide⟩ : Rg 19 19 19) q232
            refine tt_aload_n (j := 2) dX4_goThrough_82 rfl ?_
            obtain ⟨b234, hr235, ho236⟩ := gi_R (k := 261) hG h0 0 0
            refine gt_gR (id := 261) dX4_goThrough_83 fl_4_34 rfl rfl h0 hA212 hr235 ?_
            refine tt_aload_n (j := 2) dX4_goThrough_86 rfl ?_
            refine gt_gR (id := 259) dX4_goThrough_87 fl_4_20 rfl rfl h0 hA212 hr195 ?_
            refine tt_aload_n (j := 2) dX4_goThrough_90 rfl ?_
            refine gt_gR (id := 257) dX4_goThrough_91 fl_4_55 rfl rfl h0 hA212 hr116 ?_
            refine tt_getI (id := 204) dX4_goThrough_94 fl_4_117 rfl rfl (ob_af ho117 hA212) ?_
            refine tt_iconst (v := 0) dX4_goThrough_97 rfl ?_
            refine gt_VI (As := [.ref b194, .int (hp_I S209 204 b115), .int 0]) dX4_goThrough_98 ca_X4_120 ⟨by decide, by decide⟩ ho236 hA212 rfl (Nat.le_of_ble_eq_true rfl) (Nat.le_of_ble_eq_true rfl) (by decide) (cs_X0_narrow hG210 (oa_af ho236 hA212) (oa_af ho196 hA212) (rg_w (⟨by decide, by decide⟩ : Rg 0 0 0)) (fun _ _ _ _ h => h)) rfl (fun _ h => nomatch h) (fun S237 x242 h243 hx241 hG238 hB239 hA240 => ?_)
            have bd244 := bd_eq bd214 (hB239.2.2.2.1 (by decide)).2
            refine tt_if_eq (tgt := 119) dX4_goThrough_101 rfl (fun q245 => ?_) (fun q245 => ?_)
            · skip
              have h246 : Rg 0 0 x242 := rg_eq_l h243 (⟨by decide, by decide⟩ : Rg 0 0 0) q245
              exact tt_loc (ks := [2, 3, 1, 0]) rfl (B128 S237 kc nc hG238 hA240 bd244)
            · skip
              have h247 : Rg 1 1 x242 := rg_ne_lo h243 (⟨by decide, by decide⟩ : Rg 0 0 0) q245
              exact tt_loc (ks := [2, 3, 1, 0]) rfl (B215 S237 kc nc hG238 hA240 bd244)
      · skip
        have h248 : Rg 22 22 (hp_I S118 200 b115) := rg_eq_l (rg_all (hp_I S118 200 b115)) (⟨by decide, by decide⟩ : Rg 22 22 22) q127
        exact tt_loc (ks := [2, 3, 1, 0]) rfl (B124 )
set_option maxHeartbeats 4000000 in
theorem cs_X4_search {xi : SX} {S : Hp} {E : List Nat} {kc nc pa : Nat} {P : Po} {o0 : Nat} {o1 : Nat} (hE0 : E = []) (hG : GI S E) (h0 : Oa S E 4 0 o0) (h1 : Oa S E 8 0 o1) (hpa : hp_R S 258 o0 = some pa) (hkc : 5 * nl (hp_r S pa) ≤ kc) (hnc : 82 * nl (hp_r S pa) ≤ nc) (hP : ∀ r T x y, PA E [193, 194, 195, 196, 197, 198, 199, 200, 201, 202, 203, 204, 321, 322, 515, 516, 517, 9987, 9994, 9999] S pa kc nc (rI (-2147483648) 2147483647) r T x y → P r T x y) : TT xi M_X4_search 0 [(0, .ref o0), (1, .ref o1)] [] S kc nc P := by
  have hA : Af E [193, 194, 195, 196, 197, 198, 199, 200, 201, 202, 203, 204, 321, 322, 515, 516, 517, 9987, 9994, 9999] S S := af_rf
  have bd0 : Bd S pa kc nc S kc nc := bd_rf
  refine tt_aload_n (j := 0) dX4_search_0 rfl ?_
  refine gt_Vv (As := []) dX4_search_1 ca_X4_81 ⟨by decide, by decide⟩ h0 hA rfl (Nat.le_of_ble_eq_true rfl) (Nat.le_of_ble_eq_true rfl) (by decide) (cs_X4_forget hG (oa_af h0 hA) (fun _ _ _ _ h => h)) rfl (fun _ h => nomatch h) (fun S101 hx105 hG102 hB103 hA104 => ?_)
  have bd106 := bd_eq bd0 (hB103.2.2.2.1 (by decide)).2
  refine tt_aload_n (j := 0) dX4_search_4 rfl ?_
  obtain ⟨b107, hr108, ho109⟩ := gi_R (k := 259) hG h0 8 0
  refine gt_gR (id := 259) dX4_search_5 fl_4_20 rfl rfl h0 hA104 hr108 ?_
  refine tt_aload_n (j := 1) dX4_search_8 rfl ?_
  refine gt_Vv (As := [.ref o1]) dX4_search_9 ca_X4_84 ⟨by decide, by decide⟩ ho109 hA104 rfl (Nat.le_of_ble_eq_true rfl) (Nat.le_of_ble_eq_true rfl) (by decide) (cs_X8_copyFrom hG102 (oa_af ho109 hA104) (oa_af h1 hA104) (fun _ _ _ _ h => h)) rfl (fun _ h => nomatch h) (fun S110 hx114 hG111 hB112 hA113 => ?_)
  have bd115 := bd_eq bd106 (hB112.2.2.2.1 (by decide)).2
  refine tt_aload_n (j := 0) dX4_search_12 rfl ?_
  refine tt_iconst (v := 0) dX4_search_13 rfl ?_
  refine tt_lconst (v := 0) dX4_search_14 rfl ?_
  refine gt_Av (As := [.int 0, .long 0]) dX4_search_15 ca_X4_88 ⟨by decide, by decide⟩ h0 hA113 rfl (Nat.le_of_ble_eq_true rfl) (Nat.le_of_ble_eq_true rfl) (by decide) (cs_X4_arrive hE0 hG111 (oa_af h0 hA113) (r_af h0 hA113 hpa) (bd_k bd115 hkc) (bd_n bd115 hnc) (fun _ _ _ _ h => h)) rfl (fun S116 k120 n121 hG117 hB118 hA119 bd122 => ?_)
  have bd125 := bd_tr bd115 bd122
  refine tt_iconst (v := 0) dX4_search_18 rfl ?_
  refine tt_istore_n (ks := [0, 1, 2]) (L' := [(2, .int 0), (0, .ref o0), (1, .ref o1)]) dX4_search_19 (by decide) rfl ?_
  have B126 : ∀ (nn : Nat) (S127 : Hp) (k130 : Nat) (n131 : Nat) (x133 : Int32), (2147483648 - x133.toInt).toNat = nn → GI S127 E → Af E [193, 194, 195, 196, 197, 198, 199, 200, 201, 202, 203, 204, 321, 322, 515, 516, 517, 9987, 9994, 9999] S S127 → Bd S pa kc nc S127 k130 n131 → Rg 0 60 x133 → TT xi M_X4_search 20 [(0, .ref o0), (1, .ref o1), (2, .int x133)] [] S127 k130 n131 P := by
    intro nn
    induction nn using Nat.strongRecOn with
    | ind nn ihB126 =>
      intro S127 k130 n131 x133 hmB126 hG128 hA129 bd132 h134
      subst hmB126
      refine tt_iload_n (j := 2) dX4_search_20 rfl ?_
      refine tt_bipush (v := 60) dX4_search_21 rfl ?_
      refine tt_icmp_ge (tgt := 78) dX4_search_23 rfl (fun q135 => ?_) (fun q135 => ?_)
      · skip
        have h136 : Rg 60 60 x133 := rg_le_r (⟨by decide, by decide⟩ : Rg 60 60 60) h134 q135
        refine tt_iconst (v := 0) dX4_search_78 rfl ?_
        refine tt_istore_n (ks := [0, 1, 2]) (L' := [(2, .int 0), (0, .ref o0), (1, .ref o1)]) dX4_search_79 (by decide) rfl ?_
        have B137 : ∀ (nn : Nat) (x138 : Int32), (2147483648 - x138.toInt).toNat = nn → Rg 0 200 x138 → TT xi M_X4_search 80 [(0, .ref o0), (1, .ref o1), (2, .int x138)] [] S127 k130 n131 P := by
          intro nn
          induction nn using Nat.strongRecOn with
          | ind nn ihB137 =>
            intro x138 hmB137 h139
            subst hmB137
            refine tt_iload_n (j := 2) dX4_search_80 rfl ?_
            refine tt_aload_n (j := 0) dX4_search_81 rfl ?_
            obtain ⟨b140, hr141, ho142⟩ := gi_R (k := 256) hG h0 1 0
            refine gt_gR (id := 256) dX4_search_82 fl_4_51 rfl rfl h0 hA129 hr141 ?_
            refine tt_getI (id := 65) dX4_search_85 fl_4_92 rfl rfl (ob_af ho142 hA129) ?_
            refine tt_icmp_ge (tgt := 111) dX4_search_88 rfl (fun q143 => ?_) (fun q143 => ?_)
            · skip
              refine tt_bipush (v := 60) dX4_search_111 rfl ?_
              exact tt_ireturn dX4_search_113 .int rfl rfl (hP _ _ _ _ ⟨hG128, hA129, bd132, _, rfl, _, rfl, rg_w (⟨by decide, by decide⟩ : Rg 60 60 60)⟩)
            · skip
              have h144 : Rg 0 199 x138 := rg_lt_l h139 (gi_I (k := 65) hG128 (oa_af ho142 hA129) 0 200) (nle_lt q143)
              have h145 : Rg 1 200 (hp_I S127 65 b140) := rg_lt_r h139 (gi_I (k := 65) hG128 (oa_af ho142 hA129) 0 200) (nle_lt q143)
              refine tt_aload_n (j := 0) dX4_search_91 rfl ?_
              refine tt_iload_n (j := 2) dX4_search_92 rfl ?_
              refine gt_VIp (As := [.int x138]) dX4_search_93 ca_X4_97 ⟨by decide, by decide⟩ h0 hA129 rfl (Nat.le_of_ble_eq_true rfl) (Nat.le_of_ble_eq_true rfl) (by decide) (cs_X4_isWaiting hG128 (oa_af h0 hA129) (fun _ _ _ _ h => h)) rfl (fun _ h => nomatch h) (fun _ _ q => q) (fun x151 h152 hx150 => ?_)
              refine tt_if_eq (tgt := 105) dX4_search_96 rfl (fun q153 => ?_) (fun q153 => ?_)
              · skip
                have h154 : Rg 0 0 x151 := rg_eq_l h152 (⟨by decide, by decide⟩ : Rg 0 0 0) q153
                refine tt_iinc (j := 2) (v := (x138 + 1)) (ks := [0, 1, 2]) (L' := [(2, .int (x138 + 1)), (0, .ref o0), (1, .ref o1)]) dX4_search_105 rfl rfl (by decide) rfl ?_
                refine tt_goto (tgt := 80) dX4_search_108 rfl ?_
                exact tt_loc (ks := [1, 2, 0]) rfl (ihB137 _ (rg_up h144) (x138 + 1) rfl (rg_w (rg_add (lo := 1) (hi := 200) h144 (⟨by decide, by decide⟩ : Rg 1 1 1))))
              · skip
                have h155 : Rg 1 1 x151 := rg_ne_lo h152 (⟨by decide, by decide⟩ : Rg 0 0 0) q153
                refine tt_aload_n (j := 0) dX4_search_99 rfl ?_
                refine gt_Vv (As := []) dX4_search_100 ca_X4_81 ⟨by decide, by decide⟩ h0 hA129 rfl (Nat.le_of_ble_eq_true rfl) (Nat.le_of_ble_eq_true rfl) (by decide) (cs_X4_forget hG128 (oa_af h0 hA129) (fun _ _ _ _ h => h)) rfl (fun _ h => nomatch h) (fun S156 hx160 hG157 hB158 hA159 => ?_)
                have bd161 := bd_eq bd132 (hB158.2.2.2.1 (by decide)).2
                refine tt_iconst (v := (-1)) dX4_search_103 rfl ?_
                exact tt_ireturn dX4_search_104 .int rfl rfl (hP _ _ _ _ ⟨hG157, hA159, bd161, _, rfl, _, rfl, rg_w (⟨by decide, by decide⟩ : Rg (-1) (-1) (-1))⟩)
        exact tt_loc (ks := [1, 2, 0]) rfl (B137 _ 0 rfl (rg_w (⟨by decide, by decide⟩ : Rg 0 0 0)))
      · skip
        have h162 : Rg 0 59 x133 := rg_lt_l h134 (⟨by decide, by decide⟩ : Rg 60 60 60) (nle_lt q135)
        refine tt_iconst (v := 1) dX4_search_26 rfl ?_
        refine tt_istore_n (ks := [0, 1, 2, 3]) (L' := [(3, .int 1), (0, .ref o0), (1, .ref o1), (2, .int x133)]) dX4_search_27 (by decide) rfl ?_
        refine tt_iconst (v := 0) dX4_search_28 rfl ?_
        refine tt_istore (ks := [0, 1, 2, 3, 4]) (L' := [(4, .int 0), (3, .int 1), (0, .ref o0), (1, .ref o1), (2, .int x133)]) dX4_search_29 (by decide) rfl ?_
        have B163 : ∀ (nn : Nat) (S164 : Hp) (k167 : Nat) (n168 : Nat) (x170 : Int32) (x172 : Int32), (2147483648 - x172.toInt).toNat = nn → GI S164 E → Af E [193, 194, 195, 196, 197, 198, 199, 200, 201, 202, 203, 204, 321, 322, 515, 516, 517, 9987, 9994, 9999] S S164 → Bd S pa kc nc S164 k167 n168 → Rg 0 1 x170 → Rg 0 200 x172 → TT xi M_X4_search 31 [(0, .ref o0), (1, .ref o1), (2, .int x133), (3, .int x170), (4, .int x172)] [] S164 k167 n168 P := by
          intro nn
          induction nn using Nat.strongRecOn with
          | ind nn ihB163 =>
            intro S164 k167 n168 x170 x172 hmB163 hG165 hA166 bd169 h171 h173
            subst hmB163
            refine tt_iload (j := 4) dX4_search_31 rfl ?_
            refine tt_aload_n (j := 0) dX4_search_33 rfl ?_
            obtain ⟨b174, hr175, ho176⟩ := gi_R (k := 256) hG h0 1 0
            refine gt_gR (id := 256) dX4_search_34 fl_4_51 rfl rfl h0 hA166 hr175 ?_
            refine tt_getI (id := 65) dX4_search_37 fl_4_92 rfl rfl (ob_af ho176 hA166) ?_
            refine tt_icmp_ge (tgt := 66) dX4_search_40 rfl (fun q177 => ?_) (fun q177 => ?_)
            · skip
              refine tt_iload_n (j := 3) dX4_search_66 rfl ?_
              refine tt_if_eq (tgt := 72) dX4_search_67 rfl (fun q178 => ?_) (fun q178 => ?_)
              · skip
                have h179 : Rg 0 0 x170 := rg_eq_l h171 (⟨by decide, by decide⟩ : Rg 0 0 0) q178
                refine tt_iinc (j := 2) (v := (x133 + 1)) (ks := [0, 1, 2, 3, 4]) (L' := [(2, .int (x133 + 1)), (0, .ref o0), (1, .ref o1), (3, .int x170), (4, .int x172)]) dX4_search_72 rfl rfl (by decide) rfl ?_
                refine tt_goto (tgt := 20) dX4_search_75 rfl ?_
                exact tt_loc (ks := [1, 2, 0]) rfl (ihB126 _ (rg_up h162) S164 k167 n168 (x133 + 1) rfl hG165 hA166 bd169 (rg_w (rg_add (lo := 1) (hi := 60) h162 (⟨by decide, by decide⟩ : Rg 1 1 1))))
              · skip
                have h180 : Rg 1 1 x170 := rg_ne_lo h171 (⟨by decide, by decide⟩ : Rg 0 0 0) q178
                refine tt_iload_n (j := 2) dX4_search_70 rfl ?_
                exact tt_ireturn dX4_search_71 .int rfl rfl (hP _ _ _ _ ⟨hG165, hA166, bd169, _, rfl, _, rfl, rg_w h162⟩)
            · skip
              have h181 : Rg 0 199 x172 := rg_lt_l h173 (gi_I (k := 65) hG165 (oa_af ho176 hA166) 0 200) (nle_lt q177)
              have h182 : Rg 1 200 (hp_I S164 65 b174) := rg_lt_r h173 (gi_I (k := 65) hG165 (oa_af ho176 hA166) 0 200) (nle_lt q177)
              refine tt_aload_n (j := 0) dX4_search_43 rfl ?_
              refine tt_iload (j := 4) dX4_search_44 rfl ?_
              refine gt_VIp (As := [.int x172]) dX4_search_46 ca_X4_97 ⟨by decide, by decide⟩ h0 hA166 rfl (Nat.le_of_ble_eq_true rfl) (Nat.le_of_ble_eq_true rfl) (by decide) (cs_X4_isWaiting hG165 (oa_af h0 hA166) (fun _ _ _ _ h => h)) rfl (fun _ h => nomatch h) (fun _ _ q => q) (fun x188 h189 hx187 => ?_)
              have B190 : ∀ (S191 : Hp) (k194 : Nat) (n195 : Nat) (x197 : Int32), GI S191 E → Af E [193, 194, 195, 196, 197, 198, 199, 200, 201, 202, 203, 204, 321, 322, 515, 516, 517, 9987, 9994, 9999] S S191 → Bd S pa kc nc S191 k194 n195 → Rg 0 1 x197 → TT xi M_X4_search 60 [(0, .ref o0), (1, .ref o1), (2, .int x133), (3, .int x197), (4, .int x172)] [] S191 k194 n195 P := by
                intro S191 k194 n195 x197 hG192 hA193 bd196 h198
                refine tt_iinc (j := 4) (v := (x172 + 1)) (ks := [0, 1, 2, 3, 4]) (L' := [(4, .int (x172 + 1)), (0, .ref o0), (1, .ref o1), (2, .int x133), (3, .int x197)]) dX4_search_60 rfl rfl (by decide) rfl ?_
                refine tt_goto (tgt := 31) dX4_search_63 rfl ?_
                exact tt_loc (ks := [1, 2, 3, 4, 0]) rfl (ihB163 _ (rg_up h181) S191 k194 n195 x197 (x172 + 1) rfl hG192 hA193 bd196 h198 (rg_w (rg_add (lo := 1) (hi := 200) h181 (⟨by decide, by decide⟩ : Rg 1 1 1))))
              refine tt_if_eq (tgt := 60) dX4_search_49 rfl (fun q199 => ?_) (fun q199 => ?_)
              · skip
                have h200 : Rg 0 0 x188 := rg_eq_l h189 (⟨by decide, by decide⟩ : Rg 0 0 0) q199
                exact B190 S164 k167 n168 x170 hG165 hA166 bd169 h171
              · skip
                have h201 : Rg 1 1 x188 := rg_ne_lo h189 (⟨by decide, by decide⟩ : Rg 0 0 0) q199
                refine tt_iconst (v := 0) dX4_search_52 rfl ?_
                refine tt_istore_n (ks := [0, 1, 2, 3, 4]) (L' := [(3, .int 0), (0, .ref o0), (1, .ref o1), (2, .int x133), (4, .int x172)]) dX4_search_53 (by decide) rfl ?_
                refine tt_aload_n (j := 1) dX4_search_54 rfl ?_
                refine tt_iload (j := 4) dX4_search_55 rfl ?_
                refine gt_Av (As := [.int x172]) dX4_search_57 ca_X4_101 ⟨by decide, by decide⟩ h0 hA166 rfl (Nat.le_of_ble_eq_true rfl) (Nat.le_of_ble_eq_true rfl) (by decide) (cs_X4_goThrough hE0 hG165 (oa_af h0 hA166) (r_af h0 hA166 hpa) (bd_k bd169 hkc) (bd_n bd169 hnc) (fun _ _ _ _ h => h)) rfl (fun S202 k206 n207 hG203 hB204 hA205 bd208 => ?_)
                have bd211 := bd_tr bd169 bd208
                exact tt_loc (ks := [1, 2, 3, 0, 4]) rfl (B190 S202 k206 n207 0 hG203 hA205 bd211 (rg_w (⟨by decide, by decide⟩ : Rg 0 0 0)))
        exact tt_loc (ks := [2, 3, 4, 1, 0]) rfl (B163 _ S127 k130 n131 1 0 rfl hG128 hA129 bd132 (rg_w (⟨by decide, by decide⟩ : Rg 1 1 1)) (rg_w (⟨by decide, by decide⟩ : Rg 0 0 0)))
  exact tt_loc (ks := [1, 2, 0]) rfl (B126 _ S116 k120 n121 0 rfl hG117 hA119 bd125 (rg_w (⟨by decide, by decide⟩ : Rg 0 0 0)))
set_option maxHeartbeats 4000000 in
theorem cs_X9_look {xi : SX} {S : Hp} {E : List Nat} {kc nc pa : Nat} {P : Po} {o0 : Nat} (hE0 : E = []) (hG : GI S E) (h0 : Oa S E 9 0 o0) (hpa : (hp_R S 579 o0).bind (fun q => hp_R S 258 q) = some pa) (hkc : 5 * nl (hp_r S pa) ≤ kc) (hnc : 82 * nl (hp_r S pa) ≤ nc) (hP : ∀ r T x y, PA E [193, 194, 195, 196, 197, 198, 199, 200, 201, 202, 203, 204, 321, 322, 515, 516, 517, 9987, 9994, 9999] S pa kc nc (rI (-2147483648) 2147483647) r T x y → P r T x y) : TT xi M_X9_look 0 [(0, .ref o0)] [] S kc nc P := by
  have hA : Af E [193, 194, 195, 196, 197, 198, 199, 200, 201, 202, 203, 204, 321, 322, 515, 516, 517, 9987, 9994, 9999] S S := af_rf
  have bd0 : Bd S pa kc nc S kc nc := bd_rf
  refine tt_aload_n (j := 0) dX9_look_0 rfl ?_
  obtain ⟨b101, hr102, ho103⟩ := gi_R (k := 579) hG h0 4 0
  refine gt_gR (id := 579) dX9_look_1 fl_9_37 rfl rfl h0 hA hr102 ?_
  refine tt_aload_n (j := 0) dX9_look_4 rfl ?_
  obtain ⟨b104, hr105, ho106⟩ := gi_R (k := 578) hG h0 8 0
  refine gt_gR (id := 578) dX9_look_5 fl_9_28 rfl rfl h0 hA hr105 ?_
  refine gt_AI (As := [.ref b104]) dX9_look_8 ca_X9_111 ⟨by decide, by decide⟩ ho103 hA rfl (Nat.le_of_ble_eq_true rfl) (Nat.le_of_ble_eq_true rfl) (by decide) (cs_X4_search hE0 hG (oa_af ho103 hA) (oa_af ho106 hA) (by have h9 := hpa; rw [hr102] at h9; exact h9) (bd_k bd0 hkc) (bd_n bd0 hnc) (fun _ _ _ _ h => h)) rfl (fun S107 x114 k111 n112 h115 hG108 hB109 hA110 bd113 => ?_)
  have bd116 := bd_tr bd0 bd113
  exact tt_ireturn dX9_look_11 .int rfl rfl (hP _ _ _ _ ⟨hG108, hA110, bd116, _, rfl, _, rfl, rg_w h115⟩)
