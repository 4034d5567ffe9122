/-! what is forgotten -/
theorem lk_O {S : Hp} {E : List Nat} {o l : Nat} (hG : GI S E) (h0 : Oa S E 9 0 o) (h : hp_R S 579 o = some l) : Oa S E 4 0 l := by
  obtain ⟨b, b1, b2⟩ := gi_R (k := 579) hG h0 4 0
  exact Option.some.inj (b1.symm.trans h) ▸ b2
set_option maxHeartbeats 4000000 in
theorem ck_forget0 {xi : SX} {S : Hp} {E : List Nat} {kc nc lk : Nat} {P : Po} (hG : GI S E) (h0 : Oa S E 4 0 lk) (hP : ∀ r T x y, PV E [321, 322] S kc nc rV (fun _ T => ∀ pa, hp_R S 258 lk = some pa → Fgt S T pa 200) [] r T x y → P r T x y) : TT xi M_X4_forget 0 [(0, .ref lk)] [] S kc nc P := by
  have hA : Af E [321, 322] S S := af_rf
  refine tt_iconst (v := 0) dX4_forget_0 rfl ?_
  refine tt_istore_n (ks := [0, 1]) (L' := [(1, .int 0), (0, .ref lk)]) dX4_forget_1 (by decide) rfl ?_
  obtain ⟨b110, hr111, ho112⟩ := gi_R (k := 258) hG h0 35 200
  have B101 : ∀ (nn : Nat) (S102 : Hp) (x105 : Int32), (200 - x105.toInt).toNat < nn → GI S102 E → Af E [321, 322] S S102 → Rg 0 200 x105 → Fgt S S102 b110 x105.toNatClampNeg → TT xi M_X4_forget 2 [(0, .ref lk), (1, .int x105)] [] S102 kc nc P := by
    intro nn
    induction nn with
    | zero => intro S102 x105 h; exact absurd h (Nat.not_lt_zero _)
    | succ nn ih =>
      intro S102 x105 hm hG103 hA104 h106 hF
      refine tt_iload_n (j := 1) dX4_forget_2 rfl ?_
      refine tt_sipush (v := 200) dX4_forget_3 rfl ?_
      refine tt_icmp_ge (tgt := 36) dX4_forget_6 rfl (fun q107 => ?_) (fun q107 => ?_)
      · have h108 : Rg 200 200 x105 := rg_le_r (⟨by decide, by decide⟩ : Rg 200 200 200) h106 q107
        obtain rfl : x105 = 200 := rg_eqc h108
        exact tt_vreturn dX4_forget_36 rfl (hP _ _ _ _ ⟨hG103, hA104, Or.inl ⟨_, rfl, rfl, (fun pa hpa => by obtain rfl : b110 = pa := Option.some.inj (hr111.symm.trans hpa); exact hF), rfl, rfl⟩⟩)
      · have h109 : Rg 0 199 x105 := rg_lt_l h106 (⟨by decide, by decide⟩ : Rg 200 200 200) (nle_lt q107)
        obtain ⟨u1, u2, -⟩ := cl_upg h109
        have er : hp_r S102 = hp_r S := (hA104.2.2.2.1 (by decide)).2
        have J : ∀ S116, GI S116 E → Af E [321, 322] S S116 → Fgt S S116 b110 (x105.toNatClampNeg + 1) → TT xi M_X4_forget 30 [(0, .ref lk), (1, .int x105)] [] S116 kc nc P := by
          intro S116 hG117 hA118 hF2
          refine tt_iinc (j := 1) (v := (x105 + 1)) (ks := [0, 1]) (L' := [(1, .int (x105 + 1)), (0, .ref lk)]) dX4_forget_30 rfl rfl (by decide) rfl ?_
          refine tt_goto (tgt := 2) dX4_forget_33 rfl ?_
          exact tt_loc (ks := [1, 0]) rfl (ih S116 (x105 + 1) (lp_fu hm h109) hG117 hA118 u2 (by rw [u1]; exact hF2))
        refine tt_aload_n (j := 0) dX4_forget_9 rfl ?_
        refine gt_gR (id := 258) dX4_forget_10 fl_4_11 rfl rfl h0 hA104 hr111 ?_
        refine tt_iload_n (j := 1) dX4_forget_13 rfl ?_
        refine tt_aaload dX4_forget_14 (ob_af ho112 hA104) (by rw [n_af ho112 hA104]; exact rg_in h109) ?_
        rw [er]
        cases e : hp_r S b110 x105.toNatClampNeg with
        | none =>
          refine tt_astore_nN (ks := [0, 1, 2]) (L' := [(2, .null), (0, .ref lk), (1, .int x105)]) dX4_forget_15 (by decide) rfl ?_
          refine tt_aload_nN (j := 0) dX4_forget_16 rfl ?_
          refine tt_ifnullN (tgt := 30) dX4_forget_17 rfl ?_
          refine tt_loc (ks := [1, 2]) rfl (J S102 hG103 hA104 (fun j hj p hp => ?_))
          by_cases ej : j = x105.toNatClampNeg
          · rw [ej, e] at hp; cases hp
          · exact hF j (by omega) p hp
        | some b113 =>
          have h114 : Oa S E 5 0 b113 := gi_r hG ho112 e
          refine tt_astore_n (ks := [0, 1, 2]) (L' := [(2, .ref b113), (0, .ref lk), (1, .int x105)]) dX4_forget_15 (by decide) rfl ?_
          refine tt_aload_n (j := 0) dX4_forget_16 rfl ?_
          refine tt_ifnull dX4_forget_17 ?_
          refine tt_aload_n (j := 0) dX4_forget_20 rfl ?_
          refine tt_iconst (v := 0) dX4_forget_21 rfl ?_
          refine gx_pI (id := 321) (x := 0) dX4_forget_22 fl_4_59 rfl rfl h114 hA104 rfl rfl rfl (gp_I hG103) (by decide) (fun h => absurd h (by decide)) (fun h => absurd h (by decide)) rfl (fun S123 hG124 hA125 e126 => ?_)
          refine tt_aload_n (j := 0) dX4_forget_25 rfl ?_
          refine tt_iconst (v := 0) dX4_forget_26 rfl ?_
          refine gx_pI (id := 322) (x := 0) dX4_forget_27 fl_4_63 rfl rfl h114 hA125 rfl rfl rfl (gp_Ir hG124 (⟨by decide, by decide⟩ : Rg 0 0 0)) (by decide) (fun h => absurd h (by decide)) (fun h => absurd h (by decide)) e126 (fun S129 hG130 hA131 e132 => ?_)
          refine tt_loc (ks := [1, 2]) rfl (J S129 hG130 hA131 (fun j hj p hp => ?_))
          have f1 : hp_I S129 321 p = if p = b113 then 0 else hp_I S102 321 p := by
            rw [sg_I e132, mI_uI, if_neg (fun z => absurd z.1 (by decide)), mI_uI]
            by_cases z : p = b113
            · rw [if_pos ⟨rfl, z⟩, if_pos z]
            · rw [if_neg (fun y => z y.2), if_neg z]; rfl
          have f2 : hp_I S129 322 p = if p = b113 then 0 else hp_I S102 322 p := by
            rw [sg_I e132, mI_uI]
            by_cases z : p = b113
            · rw [if_pos ⟨rfl, z⟩, if_pos z]
            · rw [if_neg (fun y => z y.2), if_neg z, mI_uI, if_neg (fun y => absurd y.1 (by decide))]; rfl
          rw [f1, f2]
          by_cases ez : p = b113
          · rw [if_pos ez, if_pos ez]; exact ⟨rfl, rfl⟩
          · rw [if_neg ez, if_neg ez]
            by_cases ej : j = x105.toNatClampNeg
            · rw [ej, e] at hp; exact absurd (Option.some.inj hp).symm ez
            · exact hF j (by omega) p hp
  exact tt_loc (ks := [1, 0]) rfl (tt_loc (ks := [0, 1]) rfl (B101 201 S 0 (by decide) hG hA ⟨by decide, by decide⟩ (fun j hj => absurd hj (Nat.not_lt_zero _))))
set_option maxHeartbeats 4000000 in
theorem cv_X9_forgetFindings {xi : SX} {S : Hp} {E : List Nat} {kc nc : Nat} {P : Po} {o0 : Nat} (hG : GI S E) (h0 : Oa S E 9 0 o0) (hP : ∀ r T x y, PV E [321, 322, 388] S kc nc rV (fun v T => ∀ l9 p9, hp_R S 579 o0 = some l9 → hp_R S 258 l9 = some p9 → Fgt S T p9 200) [] r T x y → P r T x y) : TT xi M_X9_forgetFindings 0 [(0, .ref o0)] [] S kc nc P := by
  have hA : Af E [321, 322, 388] S S := af_rf
  refine tt_aload_n (j := 0) dX9_forgetFindings_0 rfl ?_
  obtain ⟨b101, hr102, ho103⟩ := gi_R (k := 579) hG h0 4 0
  refine gt_gR (id := 579) dX9_forgetFindings_1 fl_9_37 rfl rfl h0 hA hr102 ?_
  refine gt_Vv (As := []) dX9_forgetFindings_4 ca_X9_161 ⟨by decide, by decide⟩ ho103 hA rfl (Nat.le_of_ble_eq_true rfl) (Nat.le_of_ble_eq_true rfl) (by decide) (ck_forget0 hG (oa_af ho103 hA) (fun _ _ _ _ h => h)) rfl (fun _ h => nomatch h) (fun S104 hx108 hG105 hB106 hA107 => ?_)
  refine tt_aload_n (j := 0) dX9_forgetFindings_7 rfl ?_
  obtain ⟨b109, hr110, ho111⟩ := gi_R (k := 580) hG h0 6 0
  refine gt_gR (id := 580) dX9_forgetFindings_8 fl_9_44 rfl rfl h0 hA107 hr110 ?_
  refine tt_iconst (v := (-1)) dX9_forgetFindings_11 rfl ?_
  refine gt_pI (id := 388) (x := (-1)) dX9_forgetFindings_12 fl_9_148 rfl rfl ho111 hA107 rfl rfl rfl (gp_I hG105) (by decide) (fun h => absurd h (by decide)) (fun h => absurd h (by decide)) (fun S112 hG113 hA114 e115 f116 er117 => ?_)
  exact tt_vreturn dX9_forgetFindings_15 rfl (hP _ _ _ _ ⟨hG113, hA114, Or.inl ⟨_, rfl, rfl, (fun l9 p9 hl hp j hj p h9 => by obtain rfl : b101 = l9 := Option.some.inj (hr102.symm.trans hl); obtain ⟨y1, y2⟩ := hx108 p9 hp j hj p h9; exact ⟨(congrFun (congrFun e115 321) p).trans ((congrFun (up2_ne (k := 321)) p).trans y1), (congrFun (congrFun e115 322) p).trans ((congrFun (up2_ne (k := 322)) p).trans y2)⟩), rfl, rfl⟩⟩)
set_option maxHeartbeats 4000000 in
theorem cv_X9_erase {xi : SX} {S : Hp} {E : List Nat} {kc nc : Nat} {P : Po} {o0 : Nat} (hG : GI S E) (h0 : Oa S E 9 0 o0) (hP : ∀ r T x y, PV E [65, 321, 322, 388] S kc nc (rI (-2147483648) 2147483647) (fun v T => (∀ c, hp_R S 576 o0 = some c → v = some (.int (hp_I S 65 c)) ∧ hp_I T 65 c = 0) ∧ ∀ l9 p9, hp_R S 579 o0 = some l9 → hp_R S 258 l9 = some p9 → Fgt S T p9 200) [] r T x y → P r T x y) : TT xi M_X9_erase 0 [(0, .ref o0)] [] S kc nc P := by
  have hA : Af E [65, 321, 322, 388] S S := af_rf
  refine tt_aload_n (j := 0) dX9_erase_0 rfl ?_
  obtain ⟨b101, hr102, ho103⟩ := gi_R (k := 576) hG h0 1 0
  refine gt_gR (id := 576) dX9_erase_1 fl_9_10 rfl rfl h0 hA hr102 ?_
  refine tt_getI (id := 65) dX9_erase_4 fl_9_55 rfl rfl (ob_af ho103 hA) ?_
  refine tt_istore_n (ks := [0, 1]) (L' := [(1, .int (hp_I S 65 b101)), (0, .ref o0)]) dX9_erase_7 (by decide) rfl ?_
  refine tt_aload_n (j := 1) dX9_erase_8 rfl ?_
  refine gt_gR (id := 576) dX9_erase_9 fl_9_10 rfl rfl h0 hA hr102 ?_
  refine tt_iconst (v := 0) dX9_erase_12 rfl ?_
  refine gt_pI (id := 65) (x := 0) dX9_erase_13 fl_9_55 rfl rfl ho103 hA rfl rfl rfl (gp_Ir hG (⟨by decide, by decide⟩ : Rg 0 0 0)) (by decide) (fun h => absurd h (by decide)) (fun h => absurd h (by decide)) (fun S104 hG105 hA106 e107 f108 er109 => ?_)
  refine tt_aload_n (j := 1) dX9_erase_16 rfl ?_
  refine gt_Vv (As := []) dX9_erase_17 ca_X9_74 ⟨by decide, by decide⟩ h0 hA106 rfl (Nat.le_of_ble_eq_true rfl) (Nat.le_of_ble_eq_true rfl) (by decide) (cv_X9_forgetFindings hG105 (oa_af h0 hA106) (fun _ _ _ _ h => h)) rfl (fun _ h => nomatch h) (fun S110 hx114 hG111 hB112 hA113 => ?_)
  refine tt_iload_n (j := 0) dX9_erase_20 rfl ?_
  exact tt_ireturn dX9_erase_21 .int rfl rfl (hP _ _ _ _ ⟨hG111, hA113, Or.inl ⟨_, rfl, ⟨_, rfl, rg_w (gi_I (k := 65) hG (oa_af ho103 hA) 0 200)⟩, ⟨er_x hr102 ((i_af (k := 65) (oa_af ho103 hA106) hB112).trans (by rw [e107]; exact up2_self)), fun l9 p9 hl hp j hj p h9 => hx114 l9 p9 (r_af h0 hA106 hl) (r_af (lk_O hG h0 hl) hA106 hp) j hj p (by rw [er109]; exact h9)⟩, rfl, rfl⟩⟩)
set_option maxHeartbeats 4000000 in
theorem cv_X9_feed {xi : SX} {S : Hp} {E : List Nat} {kc nc : Nat} {P : Po} {o0 : Nat} {x1 : Int32} {x2 : Int32} {x3 : Int32} {x4 : Int32} {x5 : Int32} (hG : GI S E) (h0 : Oa S E 9 0 o0) (h1 : Rg 0 16 x1) (hs : ∀ c, hp_R S 576 o0 = some c → (hp_I S 65 c).toInt + x1.toInt ≤ 200) (hP : ∀ r T x y, PV E [65, 321, 322, 388, 9995] S kc nc (rI (-2147483648) 2147483647) (fun v T => (∀ c, hp_R S 576 o0 = some c → (hp_I T 65 c).toInt = (hp_I S 65 c).toInt + x1.toInt ∧ v = some (.int (hp_I T 65 c))) ∧ (∀ c ab, hp_R S 576 o0 = some c → hp_R S 64 c = some ab → Bw S T E ab (hp_I S 65 c) (GC x2 x3 x4 x5) x1) ∧ ∀ l9 p9, hp_R S 579 o0 = some l9 → hp_R S 258 l9 = some p9 → Fgt S T p9 200) [] r T x y → P r T x y) : TT xi M_X9_feed 0 [(0, .ref o0), (1, .int x1), (2, .int x2), (3, .int x3), (4, .int x4), (5, .int x5)] [] S kc nc P := by
  have hA : Af E [65, 321, 322, 388, 9995] S S := af_rf
  refine tt_iload_n (j := 1) dX9_feed_0 rfl ?_
  refine tt_if_lt (tgt := 10) dX9_feed_1 rfl (fun q101 => ?_) (fun q101 => ?_)
  · skip
    have h102 : Rg 0 (-1) x1 := rg_lt_l h1 (⟨by decide, by decide⟩ : Rg 0 0 0) q101
    have h103 : Rg 1 0 0 := rg_lt_r h1 (⟨by decide, by decide⟩ : Rg 0 0 0) q101
    exact rg_no h102
  · skip
    refine tt_iload_n (j := 1) dX9_feed_4 rfl ?_
    refine tt_bipush (v := 16) dX9_feed_5 rfl ?_
    refine tt_icmp_le (tgt := 20) dX9_feed_7 rfl (fun q104 => ?_) (fun q104 => ?_)
    · skip
      refine tt_aload_n (j := 0) dX9_feed_20 rfl ?_
      obtain ⟨b105, hr106, ho107⟩ := gi_R (k := 576) hG h0 1 0
      refine gt_gR (id := 576) dX9_feed_21 fl_9_10 rfl rfl h0 hA hr106 ?_
      refine tt_getI (id := 65) dX9_feed_24 fl_9_55 rfl rfl (ob_af ho107 hA) ?_
      refine tt_iload_n (j := 1) dX9_feed_27 rfl ?_
      refine tt_iadd dX9_feed_28 ?_
      refine tt_sipush (v := 200) dX9_feed_29 rfl ?_
      refine tt_icmp_le (tgt := 45) dX9_feed_32 rfl (fun q108 => ?_) (fun q108 => ?_)
      · skip
        have h109 : Rg 0 200 ((hp_I S 65 b105) + x1) := rg_le_l (rg_add (lo := 0) (hi := 216) (gi_I (k := 65) hG (oa_af ho107 hA) 0 200) h1) (⟨by decide, by decide⟩ : Rg 200 200 200) q108
        refine tt_aload_n (j := 0) dX9_feed_45 rfl ?_
        refine gt_gR (id := 576) dX9_feed_46 fl_9_10 rfl rfl h0 hA hr106 ?_
        refine tt_iload_n (j := 1) dX9_feed_49 rfl ?_
        refine tt_iconst (v := 4) dX9_feed_50 rfl ?_
        refine gt_SIp (As := [.int x1, .int 4]) dX9_feed_51 ca_X9_64 ⟨by decide, by decide⟩ hA (Nat.le_of_ble_eq_true rfl) (Nat.le_of_ble_eq_true rfl) (by decide) (cq_min hG  (fun _ _ _ _ h => h)) rfl (fun _ h => nomatch h) (fun _ _ q => q.1) (fun x115 h116 hx114 => ?_)
        have e4 : (4 : Int32).toInt = 4 := rfl
        have kx : 0 ≤ x1.toInt ∧ x1.toInt ≤ 16 := h1
        have m4 : (x1 - 4).toInt = x1.toInt - 4 := fd_sub h1 (c := 4) rfl
        have m8 : (x1 - 8).toInt = x1.toInt - 8 := fd_sub h1 (c := 8) rfl
        have m12 : (x1 - 12).toInt = x1.toInt - 12 := fd_sub h1 (c := 12) rfl
        have hs0 := hs _ hr106
        obtain ⟨ab, hab, hoa⟩ := gi_R (k := 64) hG ho107 32 200
        have mn117 : ((x1).toInt ≤ (4 : Int32).toInt ∧ x115.toInt = (x1).toInt) ∨ ((4 : Int32).toInt < (x1).toInt ∧ x115.toInt = (4 : Int32).toInt) := hx114.2 _ rfl
        refine tt_iload_n (j := 2) dX9_feed_54 rfl ?_
        refine gt_Vv (As := [.int x115, .int x2]) dX9_feed_55 ca_X9_70 ⟨by decide, by decide⟩ ho107 hA rfl (Nat.le_of_ble_eq_true rfl) (Nat.le_of_ble_eq_true rfl) (by decide) (cb_X1_append hG (oa_af ho107 hA) (by omega) (r_af ho107 hA hab) (oa_af hoa hA) (fun _ _ _ _ h => h)) rfl (fun _ h => nomatch h) (fun S118 hx122 hG119 hB120 hA121 => ?_)
        have ap123 : ((0 ≤ x115.toInt ∧ (hp_I S118 65 b105).toInt = (hp_I S 65 b105).toInt + x115.toInt) ∨ (x115.toInt < 0 ∧ (hp_I S118 65 b105).toInt = (hp_I S 65 b105).toInt)) := hx122.1
        refine tt_aload_n (j := 0) dX9_feed_58 rfl ?_
        refine gt_gR (id := 576) dX9_feed_59 fl_9_10 rfl rfl h0 hA121 hr106 ?_
        refine tt_iload_n (j := 1) dX9_feed_62 rfl ?_
        refine tt_iconst (v := 4) dX9_feed_63 rfl ?_
        refine tt_isub dX9_feed_64 ?_
        refine tt_iconst (v := 4) dX9_feed_65 rfl ?_
        refine gt_SIp (As := [.int (x1 - 4), .int 4]) dX9_feed_66 ca_X9_64 ⟨by decide, by decide⟩ hA121 (Nat.le_of_ble_eq_true rfl) (Nat.le_of_ble_eq_true rfl) (by decide) (cq_min hG119  (fun _ _ _ _ h => h)) rfl (fun _ h => nomatch h) (fun _ _ q => q.1) (fun x129 h130 hx128 => ?_)
        have mn131 : (((x1 - 4)).toInt ≤ (4 : Int32).toInt ∧ x129.toInt = ((x1 - 4)).toInt) ∨ ((4 : Int32).toInt < ((x1 - 4)).toInt ∧ x129.toInt = (4 : Int32).toInt) := hx128.2 _ rfl
        refine tt_iload_n (j := 3) dX9_feed_69 rfl ?_
        refine gt_Vv (As := [.int x129, .int x3]) dX9_feed_70 ca_X9_70 ⟨by decide, by decide⟩ ho107 hA121 rfl (Nat.le_of_ble_eq_true rfl) (Nat.le_of_ble_eq_true rfl) (by decide) (cb_X1_append hG119 (oa_af ho107 hA121) (by omega) (r_af ho107 hA121 hab) (oa_af hoa hA121) (fun _ _ _ _ h => h)) rfl (fun _ h => nomatch h) (fun S132 hx136 hG133 hB134 hA135 => ?_)
        have ap137 : ((0 ≤ x129.toInt ∧ (hp_I S132 65 b105).toInt = (hp_I S118 65 b105).toInt + x129.toInt) ∨ (x129.toInt < 0 ∧ (hp_I S132 65 b105).toInt = (hp_I S118 65 b105).toInt)) := hx136.1
        refine tt_aload_n (j := 0) dX9_feed_73 rfl ?_
        refine gt_gR (id := 576) dX9_feed_74 fl_9_10 rfl rfl h0 hA135 hr106 ?_
        refine tt_iload_n (j := 1) dX9_feed_77 rfl ?_
        refine tt_bipush (v := 8) dX9_feed_78 rfl ?_
        refine tt_isub dX9_feed_80 ?_
        refine tt_iconst (v := 4) dX9_feed_81 rfl ?_
        refine gt_SIp (As := [.int (x1 - 8), .int 4]) dX9_feed_82 ca_X9_64 ⟨by decide, by decide⟩ hA135 (Nat.le_of_ble_eq_true rfl) (Nat.le_of_ble_eq_true rfl) (by decide) (cq_min hG133  (fun _ _ _ _ h => h)) rfl (fun _ h => nomatch h) (fun _ _ q => q.1) (fun x143 h144 hx142 => ?_)
        have mn145 : (((x1 - 8)).toInt ≤ (4 : Int32).toInt ∧ x143.toInt = ((x1 - 8)).toInt) ∨ ((4 : Int32).toInt < ((x1 - 8)).toInt ∧ x143.toInt = (4 : Int32).toInt) := hx142.2 _ rfl
        refine tt_iload (j := 4) dX9_feed_85 rfl ?_
        refine gt_Vv (As := [.int x143, .int x4]) dX9_feed_87 ca_X9_70 ⟨by decide, by decide⟩ ho107 hA135 rfl (Nat.le_of_ble_eq_true rfl) (Nat.le_of_ble_eq_true rfl) (by decide) (cb_X1_append hG133 (oa_af ho107 hA135) (by omega) (r_af ho107 hA135 hab) (oa_af hoa hA135) (fun _ _ _ _ h => h)) rfl (fun _ h => nomatch h) (fun S146 hx150 hG147 hB148 hA149 => ?_)
        have ap151 : ((0 ≤ x143.toInt ∧ (hp_I S146 65 b105).toInt = (hp_I S132 65 b105).toInt + x143.toInt) ∨ (x143.toInt < 0 ∧ (hp_I S146 65 b105).toInt = (hp_I S132 65 b105).toInt)) := hx150.1
        refine tt_aload_n (j := 0) dX9_feed_90 rfl ?_
        refine gt_gR (id := 576) dX9_feed_91 fl_9_10 rfl rfl h0 hA149 hr106 ?_
        refine tt_iload_n (j := 1) dX9_feed_94 rfl ?_
        refine tt_bipush (v := 12) dX9_feed_95 rfl ?_
        refine tt_isub dX9_feed_97 ?_
        refine tt_iconst (v := 4) dX9_feed_98 rfl ?_
        refine gt_SIp (As := [.int (x1 - 12), .int 4]) dX9_feed_99 ca_X9_64 ⟨by decide, by decide⟩ hA149 (Nat.le_of_ble_eq_true rfl) (Nat.le_of_ble_eq_true rfl) (by decide) (cq_min hG147  (fun _ _ _ _ h => h)) rfl (fun _ h => nomatch h) (fun _ _ q => q.1) (fun x157 h158 hx156 => ?_)
        have mn159 : (((x1 - 12)).toInt ≤ (4 : Int32).toInt ∧ x157.toInt = ((x1 - 12)).toInt) ∨ ((4 : Int32).toInt < ((x1 - 12)).toInt ∧ x157.toInt = (4 : Int32).toInt) := hx156.2 _ rfl
        refine tt_iload (j := 5) dX9_feed_102 rfl ?_
        refine gt_Vv (As := [.int x157, .int x5]) dX9_feed_104 ca_X9_70 ⟨by decide, by decide⟩ ho107 hA149 rfl (Nat.le_of_ble_eq_true rfl) (Nat.le_of_ble_eq_true rfl) (by decide) (cb_X1_append hG147 (oa_af ho107 hA149) (by omega) (r_af ho107 hA149 hab) (oa_af hoa hA149) (fun _ _ _ _ h => h)) rfl (fun _ h => nomatch h) (fun S160 hx164 hG161 hB162 hA163 => ?_)
        have ap165 : ((0 ≤ x157.toInt ∧ (hp_I S160 65 b105).toInt = (hp_I S146 65 b105).toInt + x157.toInt) ∨ (x157.toInt < 0 ∧ (hp_I S160 65 b105).toInt = (hp_I S146 65 b105).toInt)) := hx164.1
        refine tt_aload_n (j := 0) dX9_feed_107 rfl ?_
        refine gt_Vv (As := []) dX9_feed_108 ca_X9_74 ⟨by decide, by decide⟩ h0 hA163 rfl (Nat.le_of_ble_eq_true rfl) (Nat.le_of_ble_eq_true rfl) (by decide) (cv_X9_forgetFindings hG161 (oa_af h0 hA163) (fun _ _ _ _ h => h)) rfl (fun _ h => nomatch h) (fun S166 hx170 hG167 hB168 hA169 => ?_)
        refine tt_aload_n (j := 0) dX9_feed_111 rfl ?_
        refine gt_gR (id := 576) dX9_feed_112 fl_9_10 rfl rfl h0 hA169 hr106 ?_
        refine gt_gI (id := 65) (v := (hp_I S160 65 b105)) dX9_feed_115 fl_9_55 rfl rfl ho107 hA169 ((i_af (k := 65) (oa_af ho107 hA163) hB168).trans rfl) ?_
        have hz0 := (gi_I (k := 65) hG ho107 0 200).1
        have bb := b_af (oa_af hoa hA163) hB168
        have b4 : hp_i S160 ab = wb (hp_i S ab) (hp_I S 65 b105).toInt.toNat (GC x2 x3 x4 x5) x1.toInt.toNat := bw_4 hx122.2.1 hx136.2.1 hx150.2.1 hx164.2.1 (by omega) (by omega) (by omega) (by omega) (by omega) (by omega) (by omega) (by omega)
        have bo : ∀ q, Oa S E 32 200 q → q ≠ ab → hp_i S166 q = hp_i S q := fun q hq hn => (b_af (oa_af hq hA163) hB168).trans ((hx164.2.2 q (oa_af hq hA149) hn).trans ((hx150.2.2 q (oa_af hq hA135) hn).trans ((hx136.2.2 q (oa_af hq hA121) hn).trans (hx122.2.2 q hq hn))))
        exact tt_ireturn dX9_feed_118 .int rfl rfl (hP _ _ _ _ ⟨hG167, hA169, Or.inl ⟨_, rfl, ⟨_, rfl, rg_w (gi_I (k := 65) hG161 (oa_af ho107 hA163) 0 200)⟩, ⟨fo_x hr106 ((i_af (k := 65) (oa_af ho107 hA163) hB168).trans rfl) (by omega), (fun c q hc hq => by obtain rfl : b105 = c := Option.some.inj (hr106.symm.trans hc); obtain rfl : ab = q := Option.some.inj (hab.symm.trans hq); exact ⟨bb.trans b4, bo⟩), fun l9 p9 hl hp j hj p h9 => hx170 l9 p9 (r_af h0 hA163 hl) (r_af (lk_O hG h0 hl) hA163 hp) j hj p (by rw [(hA163.2.2.2.1 (by decide)).2]; exact h9)⟩, rfl, rfl⟩⟩)
      · skip
        exact absurd (nle_lt q108) (fd_ok (gi_I (k := 65) hG (oa_af ho107 hA) 0 200) h1 (hs _ hr106))
    · skip
      have h171 : Rg 16 15 16 := rg_lt_l (⟨by decide, by decide⟩ : Rg 16 16 16) h1 (nle_lt q104)
      have h172 : Rg 17 16 x1 := rg_lt_r (⟨by decide, by decide⟩ : Rg 16 16 16) h1 (nle_lt q104)
      exact rg_no h171
set_option maxHeartbeats 4000000 in
theorem cvw_L_feed {xi : SX} {S : Hp} {E : List Nat} {P : Po} {o0 : Nat} {x1 : Int32} {x2 : Int32} {x3 : Int32} {x4 : Int32} {x5 : Int32} {o6 : Nat} (hG : GI S E) (h0 : Oa S E 9 0 o0) (h1 : Rg 0 16 x1) (h6 : Oa S E 33 1 o6) (hs : ∀ c, hp_R S 576 o0 = some c → (hp_I S 65 c).toInt + x1.toInt ≤ 200) (hP : ∀ r T x y, PX E [65, 321, 322, 388, 9995, 9996] S (fun z T => z = 0 ∧ (∀ l9 p9, hp_R S 579 o0 = some l9 → hp_R S 258 l9 = some p9 → Fgt S T p9 200) ∧ ∀ c, hp_R S 576 o0 = some c → (hp_I T 65 c).toInt = (hp_I S 65 c).toInt + x1.toInt ∧ hp_j T o6 (0 : Int32).toNatClampNeg = (hp_I T 65 c).toInt64 ∧ ∀ ab, hp_R S 64 c = some ab → Bw S T E ab (hp_I S 65 c) (GC x2 x3 x4 x5) x1) r T x y → P r T x y) : TT xi M_L_feed 0 [(0, .ref o0), (1, .int x1), (2, .int x2), (3, .int x3), (4, .int x4), (5, .int x5), (6, .ref o6)] [] S 1 6 P := by
  have hA : Af E [65, 321, 322, 388, 9995, 9996] S S := af_rf
  refine tt_aload (j := 6) dL_feed_0 rfl ?_
  refine tt_iconst (v := 0) dL_feed_2 rfl ?_
  refine tt_aload_n (j := 0) dL_feed_3 rfl ?_
  refine tt_iload_n (j := 1) dL_feed_4 rfl ?_
  refine tt_iload_n (j := 2) dL_feed_5 rfl ?_
  refine tt_iload_n (j := 3) dL_feed_6 rfl ?_
  refine tt_iload (j := 4) dL_feed_7 rfl ?_
  refine tt_iload (j := 5) dL_feed_9 rfl ?_
  refine gt_VC0 (As := [.int x1, .int x2, .int x3, .int x4, .int x5]) dL_feed_11 ca_L_7 ⟨by decide, by decide⟩ h0 hA rfl (Nat.le_of_ble_eq_true rfl) (Nat.le_of_ble_eq_true rfl) (by decide) (cv_X9_feed hG (oa_af h0 hA) (rg_w h1) hs (fun _ _ _ _ h => h)) (fun S101 v106 hv107 hx105 hG102 hB103 hA104 => ?_)
  obtain ⟨x108, rfl, h109⟩ := hv107
  show TT xi M_L_feed 14 [(0, .ref o0), (1, .int x1), (2, .int x2), (3, .int x3), (4, .int x4), (5, .int x5), (6, .ref o6)] [.int x108, .int 0, .ref o6] S101 1 6 P
  refine tt_i2l dL_feed_14 ?_
  refine gt_lS2 dL_feed_15 h6 hA104 (rg_in (⟨by decide, by decide⟩ : Rg 0 0 0)) hG102 (Or.inr (by decide)) (by decide) (fun S110 hG111 hA112 e113 f114 er115 ej116 ei116 => ?_)
  refine tt_goto (tgt := 27) dL_feed_16 rfl ?_
  refine tt_iconst (v := 0) dL_feed_27 rfl ?_
  exact tt_ireturn dL_feed_28 .int rfl rfl (hP _ _ _ _ ⟨hG111, hA112, _, rfl, ⟨rfl, (fun l9 p9 hl hp j hj p h9 => by obtain ⟨y1, y2⟩ := hx105.2.2 l9 p9 hl hp j hj p h9; exact ⟨(congrFun (congrFun e113 321) p).trans y1, (congrFun (congrFun e113 322) p).trans y2⟩), fun c hc => ⟨(congrArg Int32.toInt (congrFun (congrFun e113 65) c)).trans (hx105.1 c hc).1, out_x ej116 (congrFun (congrFun e113 65) c) (hx105.1 c hc).2, fun ab hq => ⟨(congrFun ei116 ab).trans (hx105.2.1 c ab hc hq).1, fun q h1 h2 => (congrFun ei116 q).trans ((hx105.2.1 c ab hc hq).2 q h1 h2)⟩⟩⟩⟩)
set_option maxHeartbeats 4000000 in
theorem cv_X10_forget {xi : SX} {S : Hp} {E : List Nat} {kc nc : Nat} {P : Po} {o0 : Nat} {R : Nat → Nat → Nat} (hR : RK S R) (hG : GI S E) (h0 : Oa S E 10 0 o0) (hP : ∀ r T x y, PV E [653, 663, 664, 9988, 9997] S kc nc rV (fun v T => hp_I T 663 o0 = 0 ∧ ∀ j, j < 201 → hp_i T (R 647 o0) j = 0) [] r T x y → P r T x y) : TT xi M_X10_forget 0 [(0, .ref o0)] [] S kc nc P := by
  have hA : Af E [653, 663, 664, 9988, 9997] S S := af_rf
  refine tt_aload_n (j := 0) dX10_forget_0 rfl ?_
  refine tt_iconst (v := 0) dX10_forget_1 rfl ?_
  refine gx_pI (id := 653) (x := 0) dX10_forget_2 fl_10_58 rfl rfl h0 hA rfl rfl rfl (gp_Ir hG (⟨by decide, by decide⟩ : Rg 0 0 0)) (by decide) (fun h => absurd h (by decide)) (fun h => absurd h (by decide)) rfl (fun S101 hG102 hA103 e104 => ?_)
  refine tt_iconst (v := 0) dX10_forget_5 rfl ?_
  refine tt_istore_n (ks := [0, 1]) (L' := [(1, .int 0), (0, .ref o0)]) dX10_forget_6 (by decide) rfl ?_
  have B107 : ∀ (nn : Nat) (S108 : Hp) (x111 : Int32), (201 - x111.toInt).toNat < nn → GI S108 E → Af E [653, 663, 664, 9988, 9997] S S108 → Rg 0 201 x111 → (∀ j, j < x111.toNatClampNeg → hp_i S108 (R 647 o0) j = 0) → TT xi M_X10_forget 7 [(0, .ref o0), (1, .int x111)] [] S108 kc nc P := by
    intro nn
    induction nn with
    | zero => intro S108 x111 h; exact absurd h (Nat.not_lt_zero _)
    | succ nn ih =>
      intro S108 x111 hm hG109 hA110 h112 hz
      refine tt_iload_n (j := 1) dX10_forget_7 rfl ?_
      refine tt_sipush (v := 200) dX10_forget_8 rfl ?_
      refine tt_icmp_gt (tgt := 34) dX10_forget_11 rfl (fun q113 => ?_) (fun q113 => ?_)
      · have h114 : Rg 201 201 x111 := rg_lt_r (⟨by decide, by decide⟩ : Rg 200 200 200) h112 q113
        obtain rfl : x111 = 201 := rg_eqc h114
        refine tt_aload_n (j := 0) dX10_forget_34 rfl ?_
        refine tt_iconst (v := 0) dX10_forget_35 rfl ?_
        refine gx_pI (id := 663) (x := 0) dX10_forget_36 fl_10_62 rfl rfl h0 hA110 rfl rfl rfl (gp_Ir hG109 (⟨by decide, by decide⟩ : Rg 0 0 0)) (by decide) (fun h => absurd h (by decide)) (fun h => absurd h (by decide)) rfl (fun S115 hG116 hA117 e118 => ?_)
        refine tt_aload_n (j := 0) dX10_forget_39 rfl ?_
        refine tt_iconst (v := (-1)) dX10_forget_40 rfl ?_
        refine gx_pI (id := 664) (x := (-1)) dX10_forget_41 fl_10_45 rfl rfl h0 hA117 rfl rfl rfl (gp_Ir hG116 (⟨by decide, by decide⟩ : Rg (-1) (-1) (-1))) (by decide) (fun h => absurd h (by decide)) (fun _ h => absurd (by decide) h) e118 (fun S121 hG122 hA123 e124 => ?_)
        refine tt_vreturn dX10_forget_44 rfl (hP _ _ _ _ ⟨hG122, hA123, Or.inl ⟨_, rfl, rfl, ⟨?_, fun j hj => ?_⟩, rfl, rfl⟩⟩)
        · rw [sg_I e124, mI_ne, mI_se]
        · rw [sg_i e124]
          exact hz j hj
      · have h127 : Rg 0 200 x111 := rg_le_l h112 (⟨by decide, by decide⟩ : Rg 200 200 200) (nlt_le q113)
        refine tt_aload_n (j := 0) dX10_forget_14 rfl ?_
        refine gt_gR (id := 647) dX10_forget_15 fl_10_26 rfl rfl h0 hA110 (rk_R (k := 647) hR h0 32 201) ?_
        refine tt_iload_n (j := 1) dX10_forget_18 rfl ?_
        refine tt_iconst (v := 0) dX10_forget_19 rfl ?_
        refine gx_iS dX10_forget_20 (rk_O (k := 647) hG hR h0 32 201) hA110 (Or.inl (by decide)) (rg_in h127) hG109 (by decide) rfl (fun S131 hG132 hA133 e134 => ?_)
        refine tt_aload_n (j := 0) dX10_forget_21 rfl ?_
        refine gt_gR (id := 648) dX10_forget_22 fl_10_29 rfl rfl h0 hA133 (rk_R (k := 648) hR h0 34 201) ?_
        refine tt_iload_n (j := 1) dX10_forget_25 rfl ?_
        refine tt_iconst (v := 0) dX10_forget_26 rfl ?_
        refine gx_zS dX10_forget_27 (rk_O (k := 648) hG hR h0 34 201) hA133 (Or.inl (by decide)) (rg_in h127) hG132 (rg_w (⟨by decide, by decide⟩ : Rg 0 0 0)) e134 (fun S140 hG141 hA142 e143 => ?_)
        refine tt_iinc (j := 1) (v := (x111 + 1)) (ks := [0, 1]) (L' := [(1, .int (x111 + 1)), (0, .ref o0)]) dX10_forget_28 rfl rfl (by decide) rfl ?_
        refine tt_goto (tgt := 7) dX10_forget_31 rfl ?_
        obtain ⟨u1, u2, -⟩ := cl_upg h127
        refine tt_loc (ks := [1, 0]) rfl (ih S140 (x111 + 1) (lp_fu hm h127) hG141 hA142 u2 (fun j hj => ?_))
        rw [u1] at hj
        rw [sg_i e143, mi_ui]
        by_cases z1 : R 647 o0 = R 648 o0 ∧ j = x111.toNatClampNeg
        · rw [if_pos z1]
        · rw [if_neg z1, mi_ui]
          by_cases z2 : j = x111.toNatClampNeg
          · rw [if_pos ⟨rfl, z2⟩]
          · rw [if_neg (fun z => z2 z.2)]
            exact hz j (by omega)
  exact tt_loc (ks := [1, 0]) rfl (tt_loc (ks := [0, 1]) rfl (B107 202 S101 0 (by decide) hG102 hA103 ⟨by decide, by decide⟩ (fun j hj => absurd hj (Nat.not_lt_zero _))))
set_option maxHeartbeats 4000000 in
theorem cv_X10_erase {xi : SX} {S : Hp} {E : List Nat} {kc nc : Nat} {P : Po} {o0 : Nat} {R : Nat → Nat → Nat} (hR : RK S R) (hG : GI S E) (h0 : Oa S E 10 0 o0) (hP : ∀ r T x y, PV E [640, 642, 653, 663, 664, 9988, 9997] S kc nc (rI (-2147483648) 2147483647) (fun v T => (((¬ hp_I S 663 o0 = 0 → ¬ hp_I S 664 o0 = -1) → ¬ hp_I T 663 o0 = 0 → ¬ hp_I T 664 o0 = -1) ∧ v = some (.int (hp_I S 642 o0)) ∧ hp_I T 642 o0 = 0) ∧ ∀ j, j < 201 → hp_i T (R 647 o0) j = 0) [] r T x y → P r T x y) : TT xi M_X10_erase 0 [(0, .ref o0)] [] S kc nc P := by
  have hA : Af E [640, 642, 653, 663, 664, 9988, 9997] S S := af_rf
  refine tt_aload_n (j := 0) dX10_erase_0 rfl ?_
  refine tt_iconst (v := 0) dX10_erase_1 rfl ?_
  refine gt_pI (id := 640) (x := 0) dX10_erase_2 fl_10_55 rfl rfl h0 hA rfl rfl rfl (gp_I hG) (by decide) (fun h => absurd h (by decide)) (fun h => absurd h (by decide)) (fun S101 hG102 hA103 e104 f105 er106 => ?_)
  refine tt_aload_n (j := 0) dX10_erase_5 rfl ?_
  refine gt_Vv (As := []) dX10_erase_6 ca_X10_78 ⟨by decide, by decide⟩ h0 hA103 rfl (Nat.le_of_ble_eq_true rfl) (Nat.le_of_ble_eq_true rfl) (by decide) (cv_X10_forget (rk_af hR hA103) hG102 (oa_af h0 hA103) (fun _ _ _ _ h => h)) rfl (fun _ h => nomatch h) (fun S107 hx111 hG108 hB109 hA110 => ?_)
  refine tt_aload_n (j := 0) dX10_erase_9 rfl ?_
  refine gt_gI (id := 642) (v := (hp_I S 642 o0)) dX10_erase_10 fl_10_71 rfl rfl h0 hA110 ((i_af (k := 642) (oa_af h0 hA103) hB109).trans ((congrFun (congrFun e104 642) o0).trans ((congrFun (up2_ne (k := 642)) o0).trans rfl))) ?_
  refine tt_istore_n (ks := [0, 1]) (L' := [(1, .int (hp_I S 642 o0)), (0, .ref o0)]) dX10_erase_13 (by decide) rfl ?_
  refine tt_aload_n (j := 1) dX10_erase_14 rfl ?_
  refine tt_iconst (v := 0) dX10_erase_15 rfl ?_
  refine gt_pIb (id := 642) (x := 0) dX10_erase_16 fl_10_71 rfl rfl h0 hA110 rfl rfl rfl (gp_Ir hG108 (⟨by decide, by decide⟩ : Rg 0 0 0)) (by decide) (fun h => absurd h (by decide)) (fun h => absurd h (by decide)) (fun S112 hG113 hA114 e115 f116 er117 bi9 => ?_)
  refine tt_iload_n (j := 0) dX10_erase_19 rfl ?_
  exact tt_ireturn dX10_erase_20 .int rfl rfl (hP _ _ _ _ ⟨hG113, hA114, Or.inl ⟨_, rfl, ⟨_, rfl, rg_w (gi_I (k := 642) hG (oa_af h0 hA) 0 200)⟩, ⟨⟨(fun _ q => absurd ((congrFun (congrFun e115 663) o0).trans ((congrFun (up2_ne (k := 663)) o0).trans hx111.1)) q), rfl, (by rw [e115]; exact up2_self)⟩, fun j hj => by rw [bi9]; exact hx111.2 j hj⟩, rfl, rfl⟩⟩)
set_option maxHeartbeats 4000000 in
theorem cv_X10_feed {xi : SX} {S : Hp} {E : List Nat} {kc nc : Nat} {P : Po} {o0 : Nat} {x1 : Int32} {x2 : Int32} {x3 : Int32} {x4 : Int32} {x5 : Int32} {R : Nat → Nat → Nat} (hR : RK S R) (hG : GI S E) (h0 : Oa S E 10 0 o0) {am : Nat} (ham : hp_R S 641 o0 = some am) (hom : Oa S E 32 200 am) (hP : ∀ r T x y, PV E [640, 642, 653, 663, 664, 9988, 9995, 9997] S kc nc (rI (-2147483648) 2147483647) (fun v T => ((((¬ hp_I S 663 o0 = 0 → ¬ hp_I S 664 o0 = -1) → ¬ hp_I T 663 o0 = 0 → ¬ hp_I T 664 o0 = -1) ∧ ((hp_I T 640 o0 = 1 ∧ ¬ Rg 0 16 x1 ∧ hp_I T 642 o0 = hp_I S 642 o0) ∨ (hp_I T 640 o0 = 2 ∧ Rg 0 16 x1 ∧ 200 < (hp_I S 642 o0).toInt + x1.toInt ∧ hp_I T 642 o0 = hp_I S 642 o0) ∨ (hp_I T 640 o0 = 0 ∧ Rg 0 16 x1 ∧ (hp_I S 642 o0).toInt + x1.toInt ≤ 200 ∧ (hp_I T 642 o0).toInt = (hp_I S 642 o0).toInt + x1.toInt)) ∧ (hp_I T 640 o0 = 0 → v = some (.int (hp_I T 642 o0)))) ∧ (hp_I T 640 o0 = 0 → Bw S T E am (hp_I S 642 o0) (GR x2 x3 x4 x5) x1) ∧ (¬ hp_I T 640 o0 = 0 → ∀ q, Oa S E 32 200 q → hp_i T q = hp_i S q)) ∧ (hp_I T 640 o0 = 0 → ∀ j, j < 201 → hp_i T (R 647 o0) j = 0) ∧ (¬ hp_I T 640 o0 = 0 → Af E [640] S T)) [] r T x y → P r T x y) : TT xi M_X10_feed 0 [(0, .ref o0), (1, .int x1), (2, .int x2), (3, .int x3), (4, .int x4), (5, .int x5)] [] S kc nc P := by
  have hA : Af E [640, 642, 653, 663, 664, 9988, 9995, 9997] S S := af_rf
  refine tt_aload_n (j := 0) dX10_feed_0 rfl ?_
  refine tt_iload_n (j := 1) dX10_feed_1 rfl ?_
  refine tt_i2l dX10_feed_2 ?_
  refine tt_lconst (v := 0) dX10_feed_3 rfl ?_
  refine tt_ldc2 (v := 16) dX10_feed_4 kl_10_65 ?_
  refine gt_SIp (As := [.long (x1 : Int32).toInt64, .long 0, .long 16]) dX10_feed_7 ca_X10_67 ⟨by decide, by decide⟩ hA (Nat.le_of_ble_eq_true rfl) (Nat.le_of_ble_eq_true rfl) (by decide) (cs_X10_isIn hG  (fun _ _ _ _ h => h)) rfl (fun _ h => nomatch h) (fun _ _ q => q.1) (fun x106 h107 hx105 => ?_)
  refine tt_if_ne (tgt := 17) dX10_feed_10 rfl (fun q108 => ?_) (fun q108 => ?_)
  · skip
    have h109 : Rg 1 1 x106 := rg_ne_lo h107 (⟨by decide, by decide⟩ : Rg 0 0 0) q108
    have h110 : Rl 0 16 (x1 : Int32).toInt64 := in_rl ((fun z e => (hx105.2 z e).1) _ rfl q108) (⟨by decide, by decide⟩ : Rl 0 0 0) (⟨by decide, by decide⟩ : Rl 16 16 16)
    have h111 : Rg 0 16 x1 := rg_of_l h110
    refine tt_aload_n (j := 0) dX10_feed_17 rfl ?_
    refine tt_getI (id := 642) dX10_feed_18 fl_10_71 rfl rfl (ob_af h0 hA) ?_
    refine tt_iload_n (j := 1) dX10_feed_21 rfl ?_
    refine tt_iadd dX10_feed_22 ?_
    refine tt_sipush (v := 200) dX10_feed_23 rfl ?_
    refine tt_icmp_le (tgt := 33) dX10_feed_26 rfl (fun q112 => ?_) (fun q112 => ?_)
    · skip
      have h113 : Rg 0 200 ((hp_I S 642 o0) + x1) := rg_le_l (rg_add (lo := 0) (hi := 216) (gi_I (k := 642) hG (oa_af h0 hA) 0 200) h111) (⟨by decide, by decide⟩ : Rg 200 200 200) q112
      refine tt_iconst (v := 0) dX10_feed_33 rfl ?_
      refine gt_VI (As := [.int 0]) dX10_feed_34 ca_X10_74 ⟨by decide, by decide⟩ h0 hA rfl (Nat.le_of_ble_eq_true rfl) (Nat.le_of_ble_eq_true rfl) (by decide) (cs_X10_refused hG (oa_af h0 hA) (fun _ _ _ _ h => h)) rfl (fun _ h => nomatch h) (fun S114 x119 h120 hx118 hG115 hB116 hA117 => ?_)
      obtain rfl := (hx118.1 _ rfl).trans (show bI (0 < (0 : Int32)) = 0 by decide)
      refine tt_if_eq (tgt := 42) dX10_feed_37 rfl (fun _ => ?_) (fun q => absurd q (by decide))
      refine tt_aload_n (j := 0) dX10_feed_42 rfl ?_
      refine gt_Vv (As := []) dX10_feed_43 ca_X10_78 ⟨by decide, by decide⟩ h0 hA117 rfl (Nat.le_of_ble_eq_true rfl) (Nat.le_of_ble_eq_true rfl) (by decide) (cv_X10_forget (rk_af hR hA117) hG115 (oa_af h0 hA117) (fun _ _ _ _ h => h)) rfl (fun _ h => nomatch h) (fun S121 hx125 hG122 hB123 hA124 => ?_)
      refine tt_iconst (v := 0) dX10_feed_46 rfl ?_
      refine tt_istore (ks := [0, 1, 2, 3, 4, 5, 6]) (L' := [(6, .int 0), (0, .ref o0), (1, .int x1), (2, .int x2), (3, .int x3), (4, .int x4), (5, .int x5)]) dX10_feed_47 (by decide) rfl ?_
      have B126 : ∀ (nn : Nat) (S127 : Hp) (x130 : Int32), (2147483648 - x130.toInt).toNat = nn → GI S127 E → Af E [640, 642, 653, 663, 664, 9988, 9995, 9997] S S127 → Rg 0 24 x130 → hp_I S127 642 o0 = ((hp_I S 642 o0) + x130) → hp_I S127 663 o0 = 0 → (x130 : Int32).toInt ≤ x1.toInt → hp_I S127 640 o0 = 0 → Bw S S127 E am (hp_I S 642 o0) (GR x2 x3 x4 x5) x130 → (∀ j, j < 201 → hp_i S127 (R 647 o0) j = 0) → TT xi M_X10_feed 49 [(0, .ref o0), (1, .int x1), (2, .int x2), (3, .int x3), (4, .int x4), (5, .int x5), (6, .int x130)] [] S127 kc nc P := by
        intro nn
        induction nn using Nat.strongRecOn with
        | ind nn ihB126 =>
          intro S127 x130 hmB126 hG128 hA129 h131 hl132 hl133 hl134 hl135 hbw h49
          subst hmB126
          refine tt_iload (j := 6) dX10_feed_49 rfl ?_
          refine tt_iload_n (j := 1) dX10_feed_51 rfl ?_
          refine tt_icmp_ge (tgt := 134) dX10_feed_52 rfl (fun q136 => ?_) (fun q136 => ?_)
          · skip
            refine tt_aload_n (j := 0) dX10_feed_134 rfl ?_
            refine gt_gI (id := 642) (v := ((hp_I S 642 o0) + x130)) dX10_feed_135 fl_10_71 rfl rfl h0 hA129 hl132 ?_
            exact tt_ireturn dX10_feed_138 .int rfl rfl (hP _ _ _ _ ⟨hG128, hA129, Or.inl ⟨_, rfl, ⟨_, rfl, rg_w (rg_all ((hp_I S 642 o0) + x130))⟩, ⟨⟨⟨(fun _ q => absurd hl133 q), Or.inr (Or.inr ⟨hl135, rg_w h111, fd_le (gi_I (k := 642) hG (oa_af h0 hA) 0 200) (rg_w h111) q112, fd_m hl132 hl134 q136 (gi_I (k := 642) hG (oa_af h0 hA) 0 200) (rg_w h111)⟩), fun _ => congrArg (fun q => some (Value.int q)) (Eq.symm hl132)⟩, fun _ => bw_e1 hbw (Or.inl hl134) q136 h131, fun q => absurd hl135 q⟩, fun _ => h49, fun q => absurd hl135 q⟩, rfl, rfl⟩⟩)
          · skip
            have h137 : Rg 0 199 ((hp_I S 642 o0) + x130) := feed_rg h131 (nle_lt q136) h111 h113 (gi_I (k := 642) hG (oa_af h0 hA) 0 200)
            have h138 : Rg 0 15 x130 := rg_lt_l h131 h111 (nle_lt q136)
            have h139 : Rg 1 16 x1 := rg_lt_r h131 h111 (nle_lt q136)
            refine tt_iload (j := 6) dX10_feed_55 rfl ?_
            refine tt_iconst (v := 4) dX10_feed_57 rfl ?_
            have B140 : ∀ (x141 : Int32), x141 = cel x2 x3 x4 x5 x130 → TT xi M_X10_feed 90 [(0, .ref o0), (1, .int x1), (2, .int x2), (3, .int x3), (4, .int x4), (5, .int x5), (6, .int x130)] [.int x141] S127 kc nc P := by
              intro x141 hcel
              refine tt_istore (ks := [0, 1, 2, 3, 4, 5, 6, 7]) (L' := [(7, .int x141), (0, .ref o0), (1, .int x1), (2, .int x2), (3, .int x3), (4, .int x4), (5, .int x5), (6, .int x130)]) dX10_feed_90 (by decide) rfl ?_
              refine tt_aload_n (j := 1) dX10_feed_92 rfl ?_
              skip
              refine gt_gR (id := 641) dX10_feed_93 fl_10_7 rfl rfl h0 hA129 ham ?_
              refine tt_aload_n (j := 1) dX10_feed_96 rfl ?_
              refine gt_gI (id := 642) (v := ((hp_I S 642 o0) + x130)) dX10_feed_97 fl_10_71 rfl rfl h0 hA129 hl132 ?_
              refine tt_iload (j := 0) dX10_feed_100 rfl ?_
              refine tt_bipush (v := 24) dX10_feed_102 rfl ?_
              refine tt_bipush (v := 8) dX10_feed_104 rfl ?_
              refine tt_iload (j := 7) dX10_feed_106 rfl ?_
              refine tt_iconst (v := 4) dX10_feed_108 rfl ?_
              refine tt_irem dX10_feed_109 (by decide) ?_
              refine tt_imul dX10_feed_110 ?_
              refine tt_isub dX10_feed_111 ?_
              refine tt_ishr dX10_feed_112 ?_
              refine tt_sipush (v := 255) dX10_feed_113 rfl ?_
              refine tt_iand dX10_feed_116 ?_
              refine gt_iSb dX10_feed_117 hom hA129 (Or.inr (by decide)) (rg_in h137) hG128 (by decide) (fun S146 hG147 hA148 e149 f150 er151 bi1 => ?_)
              refine tt_aload_n (j := 1) dX10_feed_118 rfl ?_
              refine tt_dup dX10_feed_119 rfl ?_
              refine gt_gI (id := 642) (v := ((hp_I S 642 o0) + x130)) dX10_feed_120 fl_10_71 rfl rfl h0 hA148 ((congrFun (congrFun e149 642) o0).trans hl132) ?_
              refine tt_iconst (v := 1) dX10_feed_123 rfl ?_
              refine tt_iadd dX10_feed_124 ?_
              refine gt_pIb (id := 642) (x := (((hp_I S 642 o0) + x130) + 1)) dX10_feed_125 fl_10_71 rfl rfl h0 hA148 rfl rfl rfl (gp_Ir hG147 (rg_add (lo := 1) (hi := 200) h137 (⟨by decide, by decide⟩ : Rg 1 1 1))) (by decide) (fun h => absurd h (by decide)) (fun h => absurd h (by decide)) (fun S152 hG153 hA154 e155 f156 er157 bi2 => ?_)
              refine tt_iinc (j := 7) (v := (x130 + 1)) (ks := [0, 1, 2, 3, 4, 5, 6, 7]) (L' := [(6, .int (x130 + 1)), (7, .int x141), (0, .ref o0), (1, .int x1), (2, .int x2), (3, .int x3), (4, .int x4), (5, .int x5)]) dX10_feed_128 rfl rfl (by decide) rfl ?_
              refine tt_goto (tgt := 49) dX10_feed_131 rfl ?_
              exact tt_loc (ks := [2, 3, 4, 5, 6, 7, 0]) rfl (ihB126 _ (rg_up h138) S152 (x130 + 1) rfl hG153 hA154 (rg_w (rg_add (lo := 1) (hi := 16) h138 (⟨by decide, by decide⟩ : Rg 1 1 1))) (Eq.trans (by rw [e155]; exact up2_self) (Int32.add_assoc _ _ _)) ((congrFun (congrFun e155 663) o0).trans ((congrFun (up2_ne (k := 663)) o0).trans ((congrFun (congrFun e149 663) o0).trans hl133))) (fd_b (nle_lt q136)) ((congrFun (congrFun e155 640) o0).trans ((congrFun (up2_ne (k := 640)) o0).trans ((congrFun (congrFun e149 640) o0).trans hl135))) (bw_s hbw (gr_c h138.1 hcel rfl) bi1 bi2 (rb_u (gi_I (k := 642) hG (oa_af h0 hA) 0 200) h138) (gi_I (k := 642) hG h0 0 200).1 h138) (fun j hj => by rw [bi2, bi1, va_up_ne _ _ (fun e => absurd ((oa_n1 (rk_O (k := 647) hG hR h0 32 201)).symm.trans ((congrArg (hp_N S) e).trans (oa_n1 hom))) (by decide))]; exact h49 j hj))
            refine tt_icmp_ge (tgt := 65) dX10_feed_58 rfl (fun q158 => ?_) (fun q158 => ?_)
            · skip
              have h159 : Rg 4 15 x130 := rg_le_r (⟨by decide, by decide⟩ : Rg 4 4 4) h138 q158
              refine tt_iload (j := 6) dX10_feed_65 rfl ?_
              refine tt_bipush (v := 8) dX10_feed_67 rfl ?_
              refine tt_icmp_ge (tgt := 76) dX10_feed_69 rfl (fun q160 => ?_) (fun q160 => ?_)
              · skip
                have h161 : Rg 8 15 x130 := rg_le_r (⟨by decide, by decide⟩ : Rg 8 8 8) h159 q160
                refine tt_iload (j := 6) dX10_feed_76 rfl ?_
                refine tt_bipush (v := 12) dX10_feed_78 rfl ?_
                refine tt_icmp_ge (tgt := 88) dX10_feed_80 rfl (fun q162 => ?_) (fun q162 => ?_)
                · skip
                  have h163 : Rg 12 15 x130 := rg_le_r (⟨by decide, by decide⟩ : Rg 12 12 12) h161 q162
                  refine tt_iload (j := 5) dX10_feed_88 rfl ?_
                  exact B140 x5 (cel_4 (Int32.not_lt.mpr q158) (Int32.not_lt.mpr q160) (Int32.not_lt.mpr q162))
                · skip
                  have h164 : Rg 8 11 x130 := rg_lt_l h161 (⟨by decide, by decide⟩ : Rg 12 12 12) (nle_lt q162)
                  refine tt_iload (j := 4) dX10_feed_83 rfl ?_
                  refine tt_goto (tgt := 90) dX10_feed_85 rfl ?_
                  exact B140 x4 (cel_3 (Int32.not_lt.mpr q158) (Int32.not_lt.mpr q160) (nle_lt q162))
              · skip
                have h165 : Rg 4 7 x130 := rg_lt_l h159 (⟨by decide, by decide⟩ : Rg 8 8 8) (nle_lt q160)
                refine tt_iload_n (j := 3) dX10_feed_72 rfl ?_
                refine tt_goto (tgt := 90) dX10_feed_73 rfl ?_
                exact B140 x3 (cel_2 (Int32.not_lt.mpr q158) (nle_lt q160))
            · skip
              have h166 : Rg 0 3 x130 := rg_lt_l h138 (⟨by decide, by decide⟩ : Rg 4 4 4) (nle_lt q158)
              refine tt_iload_n (j := 2) dX10_feed_61 rfl ?_
              refine tt_goto (tgt := 90) dX10_feed_62 rfl ?_
              exact B140 x2 (cel_1 (nle_lt q158))
      exact tt_loc (ks := [1, 2, 3, 4, 5, 6, 0]) rfl (B126 _ S121 0 rfl hG122 hA124 (rg_w (⟨by decide, by decide⟩ : Rg 0 0 0)) (Eq.trans ((i_af (k := 642) (oa_af h0 hA117) hB123).trans ((i_af (k := 642) (oa_af h0 hA) hB116).trans rfl)) (Int32.add_zero _).symm) hx125.1 (fd_e h111) ((i_af (k := 640) (oa_af h0 hA117) hB123).trans hx118.2) ⟨(b_af (oa_af hom hA117) hB123).trans ((b_af hom hB116).trans wb_0.symm), fun q hq _ => (b_af (oa_af hq hA117) hB123).trans (b_af hq hB116)⟩ hx125.2)
    · skip
      have h167 : Rg 201 216 ((hp_I S 642 o0) + x1) := rg_lt_r (⟨by decide, by decide⟩ : Rg 200 200 200) (rg_add (lo := 0) (hi := 216) (gi_I (k := 642) hG (oa_af h0 hA) 0 200) h111) (nle_lt q112)
      refine tt_iconst (v := 2) dX10_feed_29 rfl ?_
      refine tt_goto (tgt := 34) dX10_feed_30 rfl ?_
      refine gt_VI (As := [.int 2]) dX10_feed_34 ca_X10_74 ⟨by decide, by decide⟩ h0 hA rfl (Nat.le_of_ble_eq_true rfl) (Nat.le_of_ble_eq_true rfl) (by decide) (cs_X10_refused hG (oa_af h0 hA) (fun _ _ _ _ h => h)) rfl (fun _ h => nomatch h) (fun S168 x173 h174 hx172 hG169 hB170 hA171 => ?_)
      obtain rfl := (hx172.1 _ rfl).trans (show bI (0 < (2 : Int32)) = 1 by decide)
      refine tt_if_eq (tgt := 42) dX10_feed_37 rfl (fun q => absurd q (by decide)) (fun _ => ?_)
      refine tt_iconst (v := 0) dX10_feed_40 rfl ?_
      exact tt_ireturn dX10_feed_41 .int rfl rfl (hP _ _ _ _ ⟨hG169, hA171, Or.inl ⟨_, rfl, ⟨_, rfl, rg_w (⟨by decide, by decide⟩ : Rg 0 0 0)⟩, ⟨⟨⟨(fun h q e => h (fun e2 => q (Eq.trans ((i_af (k := 663) (oa_af h0 hA) hB170).trans rfl) e2)) (Eq.trans (Eq.symm ((i_af (k := 664) (oa_af h0 hA) hB170).trans rfl)) e)), Or.inr (Or.inl ⟨hx172.2, rg_w h111, fd_gt (gi_I (k := 642) hG (oa_af h0 hA) 0 200) (rg_w h111) (nle_lt q112), ((i_af (k := 642) (oa_af h0 hA) hB170).trans rfl)⟩), fun q => absurd (Eq.trans (Eq.symm hx172.2) q) (by decide)⟩, fun q => absurd (Eq.trans (Eq.symm hx172.2) q) (by decide), fun _ q hq => b_af hq hB170⟩, fun q => absurd (Eq.trans (Eq.symm hx172.2) q) (by decide), fun _ => hB170⟩, rfl, rfl⟩⟩)
  · skip
    have h175 : Rg 0 0 x106 := rg_eq_l h107 (⟨by decide, by decide⟩ : Rg 0 0 0) q108
    refine tt_iconst (v := 1) dX10_feed_13 rfl ?_
    refine tt_goto (tgt := 34) dX10_feed_14 rfl ?_
    refine gt_VI (As := [.int 1]) dX10_feed_34 ca_X10_74 ⟨by decide, by decide⟩ h0 hA rfl (Nat.le_of_ble_eq_true rfl) (Nat.le_of_ble_eq_true rfl) (by decide) (cs_X10_refused hG (oa_af h0 hA) (fun _ _ _ _ h => h)) rfl (fun _ h => nomatch h) (fun S176 x181 h182 hx180 hG177 hB178 hA179 => ?_)
    obtain rfl := (hx180.1 _ rfl).trans (show bI (0 < (1 : Int32)) = 1 by decide)
    refine tt_if_eq (tgt := 42) dX10_feed_37 rfl (fun q => absurd q (by decide)) (fun _ => ?_)
    refine tt_iconst (v := 0) dX10_feed_40 rfl ?_
    exact tt_ireturn dX10_feed_41 .int rfl rfl (hP _ _ _ _ ⟨hG177, hA179, Or.inl ⟨_, rfl, ⟨_, rfl, rg_w (⟨by decide, by decide⟩ : Rg 0 0 0)⟩, ⟨⟨⟨(fun h q e => h (fun e2 => q (Eq.trans ((i_af (k := 663) (oa_af h0 hA) hB178).trans rfl) e2)) (Eq.trans (Eq.symm ((i_af (k := 664) (oa_af h0 hA) hB178).trans rfl)) e)), Or.inl ⟨hx180.2, fd_nin ((hx105.2 _ rfl).2 q108), ((i_af (k := 642) (oa_af h0 hA) hB178).trans rfl)⟩, fun q => absurd (Eq.trans (Eq.symm hx180.2) q) (by decide)⟩, fun q => absurd (Eq.trans (Eq.symm hx180.2) q) (by decide), fun _ q hq => b_af hq hB178⟩, fun q => absurd (Eq.trans (Eq.symm hx180.2) q) (by decide), fun _ => hB178⟩, rfl, rfl⟩⟩)
