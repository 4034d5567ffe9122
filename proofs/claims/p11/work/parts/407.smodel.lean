set_option maxHeartbeats 4000000 in
theorem cs_X10_has {xi : SX} {S : Hp} {E : List Nat} {kc nc : Nat} {P : Po} {o0 : Nat} {x1 : Int32} {x2 : Int32} {y3 : Int64} (hG : GI S E) (h0 : Oa S E 10 0 o0) (hP : ∀ r T x y, PV E [640] S kc nc (rI 0 1) ex0 [] r T x y → P r T x y) : TT xi M_X10_has 0 [(0, .ref o0), (1, .int x1), (2, .int x2), (3, .long y3)] [] S kc nc P := by
  have hA : Af E [640] S S := af_rf
  refine tt_aload_n (j := 0) dX10_has_0 rfl ?_
  refine tt_iload_n (j := 2) dX10_has_1 rfl ?_
  refine gt_SIp (As := [.int x2]) dX10_has_2 ca_X10_310 ⟨by decide, by decide⟩ hA (Nat.le_of_ble_eq_true rfl) (Nat.le_of_ble_eq_true rfl) (by decide) (cs_X10_isPlace hG  (fun _ _ _ _ h => h)) rfl (fun _ h => nomatch h) (fun _ _ q => q.1) (fun x106 h107 hx105 => ?_)
  refine tt_if_eq (tgt := 12) dX10_has_5 rfl (fun q108 => ?_) (fun q108 => ?_)
  · skip
    have h109 : Rg 0 0 x106 := rg_eq_l h107 (⟨by decide, by decide⟩ : Rg 0 0 0) q108
    refine tt_iconst (v := 1) dX10_has_12 rfl ?_
    refine gt_VI (As := [.int 1]) dX10_has_13 ca_X10_74 ⟨by decide, by decide⟩ h0 hA rfl (Nat.le_of_ble_eq_true rfl) (Nat.le_of_ble_eq_true rfl) (by decide) (cs_X10_refused hG (oa_af h0 hA) (fun _ _ _ _ h => h)) rfl (fun _ h => nomatch h) (fun S110 x115 h116 hx114 hG111 hB112 hA113 => ?_)
    obtain rfl := (hx114.1 _ rfl).trans (show bI (0 < (1 : Int32)) = 1 by decide)
    refine tt_if_eq (tgt := 21) dX10_has_16 rfl (fun q => absurd q (by decide)) (fun _ => ?_)
    refine tt_iconst (v := 0) dX10_has_19 rfl ?_
    exact tt_ireturn dX10_has_20 .boolean rfl rfl (hP _ _ _ _ ⟨hG111, hA113, Or.inl ⟨_, rfl, ⟨_, rfl, rg_w (⟨by decide, by decide⟩ : Rg 0 0 0)⟩, trivial, rfl, rfl⟩⟩)
  · skip
    have h117 : Rg 1 1 x106 := rg_ne_lo h107 (⟨by decide, by decide⟩ : Rg 0 0 0) q108
    have h118 : Rg 0 23 x2 := (((hx105.2) _ rfl).1 q108)
    refine tt_iconst (v := 0) dX10_has_8 rfl ?_
    refine tt_goto (tgt := 13) dX10_has_9 rfl ?_
    refine gt_VI (As := [.int 0]) dX10_has_13 ca_X10_74 ⟨by decide, by decide⟩ h0 hA rfl (Nat.le_of_ble_eq_true rfl) (Nat.le_of_ble_eq_true rfl) (by decide) (cs_X10_refused hG (oa_af h0 hA) (fun _ _ _ _ h => h)) rfl (fun _ h => nomatch h) (fun S119 x124 h125 hx123 hG120 hB121 hA122 => ?_)
    obtain rfl := (hx123.1 _ rfl).trans (show bI (0 < (0 : Int32)) = 0 by decide)
    refine tt_if_eq (tgt := 21) dX10_has_16 rfl (fun _ => ?_) (fun q => absurd q (by decide))
    refine tt_aload_n (j := 0) dX10_has_21 rfl ?_
    refine tt_iload_n (j := 1) dX10_has_22 rfl ?_
    refine gt_VIp (As := [.int x1]) dX10_has_23 ca_X10_313 ⟨by decide, by decide⟩ h0 hA122 rfl (Nat.le_of_ble_eq_true rfl) (Nat.le_of_ble_eq_true rfl) (by decide) (cs_X10_isReached hG120 (oa_af h0 hA122) (fun _ _ _ _ h => h)) rfl (fun _ h => nomatch h) (fun _ _ q => q.1) (fun x131 h132 hx130 => ?_)
    refine tt_if_eq (tgt := 47) dX10_has_26 rfl (fun q133 => ?_) (fun q133 => ?_)
    · skip
      have h134 : Rg 0 0 x131 := rg_eq_l h132 (⟨by decide, by decide⟩ : Rg 0 0 0) q133
      refine tt_iconst (v := 0) dX10_has_47 rfl ?_
      exact tt_ireturn dX10_has_48 .boolean rfl rfl (hP _ _ _ _ ⟨hG120, hA122, Or.inl ⟨_, rfl, ⟨_, rfl, rg_w (⟨by decide, by decide⟩ : Rg 0 0 0)⟩, trivial, rfl, rfl⟩⟩)
    · skip
      have h135 : Rg 1 1 x131 := rg_ne_lo h132 (⟨by decide, by decide⟩ : Rg 0 0 0) q133
      have h136 : Rg 0 199 x1 := ((hx130.2) _ rfl q133)
      refine tt_aload_n (j := 0) dX10_has_29 rfl ?_
      refine tt_bipush (v := 24) dX10_has_30 rfl ?_
      refine tt_iload_n (j := 1) dX10_has_32 rfl ?_
      refine tt_imul dX10_has_33 ?_
      refine tt_iload_n (j := 2) dX10_has_34 rfl ?_
      refine tt_iadd dX10_has_35 ?_
      refine tt_lload_n (j := 3) dX10_has_36 rfl ?_
      refine gt_VIp (As := [.int ((24 * x1) + x2), .long y3]) dX10_has_37 ca_X10_253 ⟨by decide, by decide⟩ h0 hA122 rfl (Nat.le_of_ble_eq_true rfl) (Nat.le_of_ble_eq_true rfl) (by decide) (cs_X10_contains hG120 (oa_af h0 hA122) (rg_w (rg_add (lo := 0) (hi := 4799) (rg_mul (lo := 0) (hi := 4776) (⟨by decide, by decide⟩ : Rg 24 24 24) h136) h118)) (fun _ _ _ _ h => h)) rfl (fun _ h => nomatch h) (fun _ _ q => q) (fun x142 h143 hx141 => ?_)
      refine tt_if_eq (tgt := 47) dX10_has_40 rfl (fun q144 => ?_) (fun q144 => ?_)
      · skip
        have h145 : Rg 0 0 x142 := rg_eq_l h143 (⟨by decide, by decide⟩ : Rg 0 0 0) q144
        refine tt_iconst (v := 0) dX10_has_47 rfl ?_
        exact tt_ireturn dX10_has_48 .boolean rfl rfl (hP _ _ _ _ ⟨hG120, hA122, Or.inl ⟨_, rfl, ⟨_, rfl, rg_w (⟨by decide, by decide⟩ : Rg 0 0 0)⟩, trivial, rfl, rfl⟩⟩)
      · skip
        have h146 : Rg 1 1 x142 := rg_ne_lo h143 (⟨by decide, by decide⟩ : Rg 0 0 0) q144
        refine tt_iconst (v := 1) dX10_has_43 rfl ?_
        refine tt_goto (tgt := 48) dX10_has_44 rfl ?_
        exact tt_ireturn dX10_has_48 .boolean rfl rfl (hP _ _ _ _ ⟨hG120, hA122, Or.inl ⟨_, rfl, ⟨_, rfl, rg_w (⟨by decide, by decide⟩ : Rg 1 1 1)⟩, trivial, rfl, rfl⟩⟩)
set_option maxHeartbeats 4000000 in
theorem cs_X10_start {xi : SX} {S : Hp} {E : List Nat} {kc nc : Nat} {P : Po} {o0 : Nat} (hG : GI S E) (h0 : Oa S E 10 0 o0) (hP : ∀ r T x y, PV E [640, 663, 664, 667, 9990] S kc nc rV (fun v T => ((¬ hp_I S 663 o0 = 0 → ¬ hp_I S 664 o0 = -1) → ¬ hp_I T 663 o0 = 0 → ¬ hp_I T 664 o0 = -1)) [] r T x y → P r T x y) : TT xi M_X10_start 0 [(0, .ref o0)] [] S kc nc P := by
  have hA : Af E [640, 663, 664, 667, 9990] S S := af_rf
  refine tt_aload_n (j := 0) dX10_start_0 rfl ?_
  refine tt_iconst (v := 0) dX10_start_1 rfl ?_
  refine gt_pI (id := 640) (x := 0) dX10_start_2 fl_10_55 rfl rfl h0 hA rfl rfl rfl (gp_I hG) (by decide) (fun h => absurd h (by decide)) (fun h => absurd h (by decide)) (fun S101 hG102 hA103 e104 f105 er106 => ?_)
  refine tt_aload_n (j := 0) dX10_start_5 rfl ?_
  refine tt_iconst (v := 1) dX10_start_6 rfl ?_
  refine gt_pI (id := 663) (x := 1) dX10_start_7 fl_10_62 rfl rfl h0 hA103 rfl rfl rfl (gp_Ir hG102 (⟨by decide, by decide⟩ : Rg 1 1 1)) (by decide) (fun h => absurd h (by decide)) (fun h => absurd h (by decide)) (fun S107 hG108 hA109 e110 f111 er112 => ?_)
  refine tt_aload_n (j := 0) dX10_start_10 rfl ?_
  refine tt_aload_n (j := 0) dX10_start_11 rfl ?_
  refine gt_gI (id := 642) (v := (hp_I S 642 o0)) dX10_start_12 fl_10_71 rfl rfl h0 hA109 (i_af (k := 642) h0 hA109) ?_
  refine tt_if_ne (tgt := 23) dX10_start_15 rfl (fun q113 => ?_) (fun q113 => ?_)
  · skip
    have h114 : Rg 1 200 (hp_I S 642 o0) := rg_ne_lo (gi_I (k := 642) hG (oa_af h0 hA) 0 200) (⟨by decide, by decide⟩ : Rg 0 0 0) q113
    refine tt_iconst (v := 0) dX10_start_23 rfl ?_
    refine gt_pI (id := 664) (x := 0) dX10_start_24 fl_10_45 rfl rfl h0 hA109 rfl rfl rfl (gp_Ir hG108 (⟨by decide, by decide⟩ : Rg 0 0 0)) (by decide) (fun h => absurd h (by decide)) (fun _ _ _ => rg_nec (⟨by decide, by decide⟩ : Rg 0 0 0)) (fun S115 hG116 hA117 e118 f119 er120 => ?_)
    refine tt_aload_n (j := 0) dX10_start_27 rfl ?_
    refine tt_iconst (v := 1) dX10_start_28 rfl ?_
    refine gt_pI (id := 667) (x := 1) dX10_start_29 fl_10_316 rfl rfl h0 hA117 rfl rfl rfl (gp_Ir hG116 (⟨by decide, by decide⟩ : Rg 1 1 1)) (by decide) (fun h => absurd h (by decide)) (fun h => absurd h (by decide)) (fun S121 hG122 hA123 e124 f125 er126 => ?_)
    refine tt_iconst (v := 0) dX10_start_32 rfl ?_
    refine tt_istore_n (ks := [0, 1]) (L' := [(1, .int 0), (0, .ref o0)]) dX10_start_33 (by decide) rfl ?_
    have B127 : ∀ (nn : Nat) (S128 : Hp) (x131 : Int32), (2147483648 - x131.toInt).toNat = nn → GI S128 E → Af E [640, 663, 664, 667, 9990] S S128 → Rg 0 24 x131 → ¬ hp_I S128 664 o0 = -1 → TT xi M_X10_start 34 [(0, .ref o0), (1, .int x131)] [] S128 kc nc P := by
      intro nn
      induction nn using Nat.strongRecOn with
      | ind nn ihB127 =>
        intro S128 x131 hmB127 hG129 hA130 h132 hl133
        subst hmB127
        refine tt_iload_n (j := 1) dX10_start_34 rfl ?_
        refine tt_bipush (v := 24) dX10_start_35 rfl ?_
        refine tt_icmp_ge (tgt := 58) dX10_start_37 rfl (fun q134 => ?_) (fun q134 => ?_)
        · skip
          have h135 : Rg 24 24 x131 := rg_le_r (⟨by decide, by decide⟩ : Rg 24 24 24) h132 q134
          exact tt_vreturn dX10_start_58 rfl (hP _ _ _ _ ⟨hG129, hA130, Or.inl ⟨_, rfl, rfl, (fun _ _ e => hl133 (Eq.trans (Eq.symm rfl) e)), rfl, rfl⟩⟩)
        · skip
          have h136 : Rg 0 23 x131 := rg_lt_l h132 (⟨by decide, by decide⟩ : Rg 24 24 24) (nle_lt q134)
          refine tt_aload_n (j := 0) dX10_start_40 rfl ?_
          obtain ⟨b137, hr138, ho139⟩ := gi_R (k := 666) hG h0 33 24
          refine gt_gR (id := 666) dX10_start_41 fl_10_52 rfl rfl h0 hA130 hr138 ?_
          refine tt_iload_n (j := 1) dX10_start_44 rfl ?_
          refine tt_aload_n (j := 0) dX10_start_45 rfl ?_
          obtain ⟨b140, hr141, ho142⟩ := gi_R (k := 665) hG h0 33 24
          refine gt_gR (id := 665) dX10_start_46 fl_10_49 rfl rfl h0 hA130 hr141 ?_
          refine tt_iload_n (j := 1) dX10_start_49 rfl ?_
          refine gt_lLt dX10_start_50 ho142 hA130 (rg_in h136) ?_
          refine gt_lS dX10_start_51 ho139 hA130 (rg_in h136) hG129 (Or.inl (by decide)) (Or.inr (ow_mk 9990 (k := 666) h0 hr138)) (fun S143 hG144 hA145 e146 f147 er148 => ?_)
          refine tt_iinc (j := 1) (v := (x131 + 1)) (ks := [0, 1]) (L' := [(1, .int (x131 + 1)), (0, .ref o0)]) dX10_start_52 rfl rfl (by decide) rfl ?_
          refine tt_goto (tgt := 34) dX10_start_55 rfl ?_
          exact tt_loc (ks := [1, 0]) rfl (ihB127 _ (rg_up h136) S143 (x131 + 1) rfl hG144 hA145 (rg_w (rg_add (lo := 1) (hi := 24) h136 (⟨by decide, by decide⟩ : Rg 1 1 1))) (fun e => hl133 (Eq.trans (Eq.symm ((congrFun (congrFun e146 664) o0).trans rfl)) e)))
    exact tt_loc (ks := [1, 0]) rfl (B127 _ S121 0 rfl hG122 hA123 (rg_w (⟨by decide, by decide⟩ : Rg 0 0 0)) (fun e => absurd (Eq.trans (Eq.symm ((congrFun (congrFun e124 664) o0).trans ((congrFun (up2_ne (k := 664)) o0).trans (by rw [e118]; exact up2_self)))) e) (rg_nec (⟨by decide, by decide⟩ : Rg 0 0 0))))
  · skip
    have h149 : Rg 0 0 (hp_I S 642 o0) := rg_eq_l (gi_I (k := 642) hG (oa_af h0 hA) 0 200) (⟨by decide, by decide⟩ : Rg 0 0 0) q113
    refine tt_bipush (v := (-2)) dX10_start_18 rfl ?_
    refine tt_goto (tgt := 24) dX10_start_20 rfl ?_
    refine gt_pI (id := 664) (x := (-2)) dX10_start_24 fl_10_45 rfl rfl h0 hA109 rfl rfl rfl (gp_Ir hG108 (⟨by decide, by decide⟩ : Rg (-2) (-2) (-2))) (by decide) (fun h => absurd h (by decide)) (fun _ _ _ => rg_nec (⟨by decide, by decide⟩ : Rg (-2) (-2) (-2))) (fun S150 hG151 hA152 e153 f154 er155 => ?_)
    refine tt_aload_n (j := 0) dX10_start_27 rfl ?_
    refine tt_iconst (v := 1) dX10_start_28 rfl ?_
    refine gt_pI (id := 667) (x := 1) dX10_start_29 fl_10_316 rfl rfl h0 hA152 rfl rfl rfl (gp_Ir hG151 (⟨by decide, by decide⟩ : Rg 1 1 1)) (by decide) (fun h => absurd h (by decide)) (fun h => absurd h (by decide)) (fun S156 hG157 hA158 e159 f160 er161 => ?_)
    refine tt_iconst (v := 0) dX10_start_32 rfl ?_
    refine tt_istore_n (ks := [0, 1]) (L' := [(1, .int 0), (0, .ref o0)]) dX10_start_33 (by decide) rfl ?_
    have B162 : ∀ (nn : Nat) (S163 : Hp) (x166 : Int32), (2147483648 - x166.toInt).toNat = nn → GI S163 E → Af E [640, 663, 664, 667, 9990] S S163 → Rg 0 24 x166 → ¬ hp_I S163 664 o0 = -1 → TT xi M_X10_start 34 [(0, .ref o0), (1, .int x166)] [] S163 kc nc P := by
      intro nn
      induction nn using Nat.strongRecOn with
      | ind nn ihB162 =>
        intro S163 x166 hmB162 hG164 hA165 h167 hl168
        subst hmB162
        refine tt_iload_n (j := 1) dX10_start_34 rfl ?_
        refine tt_bipush (v := 24) dX10_start_35 rfl ?_
        refine tt_icmp_ge (tgt := 58) dX10_start_37 rfl (fun q169 => ?_) (fun q169 => ?_)
        · skip
          have h170 : Rg 24 24 x166 := rg_le_r (⟨by decide, by decide⟩ : Rg 24 24 24) h167 q169
          exact tt_vreturn dX10_start_58 rfl (hP _ _ _ _ ⟨hG164, hA165, Or.inl ⟨_, rfl, rfl, (fun _ _ e => hl168 (Eq.trans (Eq.symm rfl) e)), rfl, rfl⟩⟩)
        · skip
          have h171 : Rg 0 23 x166 := rg_lt_l h167 (⟨by decide, by decide⟩ : Rg 24 24 24) (nle_lt q169)
          refine tt_aload_n (j := 0) dX10_start_40 rfl ?_
          obtain ⟨b172, hr173, ho174⟩ := gi_R (k := 666) hG h0 33 24
          refine gt_gR (id := 666) dX10_start_41 fl_10_52 rfl rfl h0 hA165 hr173 ?_
          refine tt_iload_n (j := 1) dX10_start_44 rfl ?_
          refine tt_aload_n (j := 0) dX10_start_45 rfl ?_
          obtain ⟨b175, hr176, ho177⟩ := gi_R (k := 665) hG h0 33 24
          refine gt_gR (id := 665) dX10_start_46 fl_10_49 rfl rfl h0 hA165 hr176 ?_
          refine tt_iload_n (j := 1) dX10_start_49 rfl ?_
          refine gt_lLt dX10_start_50 ho177 hA165 (rg_in h171) ?_
          refine gt_lS dX10_start_51 ho174 hA165 (rg_in h171) hG164 (Or.inl (by decide)) (Or.inr (ow_mk 9990 (k := 666) h0 hr173)) (fun S178 hG179 hA180 e181 f182 er183 => ?_)
          refine tt_iinc (j := 1) (v := (x166 + 1)) (ks := [0, 1]) (L' := [(1, .int (x166 + 1)), (0, .ref o0)]) dX10_start_52 rfl rfl (by decide) rfl ?_
          refine tt_goto (tgt := 34) dX10_start_55 rfl ?_
          exact tt_loc (ks := [1, 0]) rfl (ihB162 _ (rg_up h171) S178 (x166 + 1) rfl hG179 hA180 (rg_w (rg_add (lo := 1) (hi := 24) h171 (⟨by decide, by decide⟩ : Rg 1 1 1))) (fun e => hl168 (Eq.trans (Eq.symm ((congrFun (congrFun e181 664) o0).trans rfl)) e)))
    exact tt_loc (ks := [1, 0]) rfl (B162 _ S156 0 rfl hG157 hA158 (rg_w (⟨by decide, by decide⟩ : Rg 0 0 0)) (fun e => absurd (Eq.trans (Eq.symm ((congrFun (congrFun e159 664) o0).trans ((congrFun (up2_ne (k := 664)) o0).trans (by rw [e153]; exact up2_self)))) e) (rg_nec (⟨by decide, by decide⟩ : Rg (-2) (-2) (-2)))))
set_option maxHeartbeats 4000000 in
theorem cs_X10_put {xi : SX} {S : Hp} {E : List Nat} {kc nc : Nat} {P : Po} {o0 : Nat} {x1 : Int32} {y2 : Int64} (hG : GI S E) (h0 : Oa S E 10 0 o0) (hP : ∀ r T x y, PV E [640, 9991] S kc nc rV ex0 [] r T x y → P r T x y) : TT xi M_X10_put 0 [(0, .ref o0), (1, .int x1), (2, .long y2)] [] S kc nc P := by
  have hA : Af E [640, 9991] S S := af_rf
  refine tt_aload_n (j := 0) dX10_put_0 rfl ?_
  refine tt_iload_n (j := 1) dX10_put_1 rfl ?_
  refine gt_SIp (As := [.int x1]) dX10_put_2 ca_X10_310 ⟨by decide, by decide⟩ hA (Nat.le_of_ble_eq_true rfl) (Nat.le_of_ble_eq_true rfl) (by decide) (cs_X10_isPlace hG  (fun _ _ _ _ h => h)) rfl (fun _ h => nomatch h) (fun _ _ q => q.1) (fun x106 h107 hx105 => ?_)
  refine tt_if_eq (tgt := 12) dX10_put_5 rfl (fun q108 => ?_) (fun q108 => ?_)
  · skip
    have h109 : Rg 0 0 x106 := rg_eq_l h107 (⟨by decide, by decide⟩ : Rg 0 0 0) q108
    refine tt_iconst (v := 1) dX10_put_12 rfl ?_
    refine gt_VI (As := [.int 1]) dX10_put_13 ca_X10_74 ⟨by decide, by decide⟩ h0 hA rfl (Nat.le_of_ble_eq_true rfl) (Nat.le_of_ble_eq_true rfl) (by decide) (cs_X10_refused hG (oa_af h0 hA) (fun _ _ _ _ h => h)) rfl (fun _ h => nomatch h) (fun S110 x115 h116 hx114 hG111 hB112 hA113 => ?_)
    obtain rfl := (hx114.1 _ rfl).trans (show bI (0 < (1 : Int32)) = 1 by decide)
    refine tt_if_eq (tgt := 20) dX10_put_16 rfl (fun q => absurd q (by decide)) (fun _ => ?_)
    exact tt_vreturn dX10_put_19 rfl (hP _ _ _ _ ⟨hG111, hA113, Or.inl ⟨_, rfl, rfl, trivial, rfl, rfl⟩⟩)
  · skip
    have h117 : Rg 1 1 x106 := rg_ne_lo h107 (⟨by decide, by decide⟩ : Rg 0 0 0) q108
    have h118 : Rg 0 23 x1 := (((hx105.2) _ rfl).1 q108)
    refine tt_iconst (v := 0) dX10_put_8 rfl ?_
    refine tt_goto (tgt := 13) dX10_put_9 rfl ?_
    refine gt_VI (As := [.int 0]) dX10_put_13 ca_X10_74 ⟨by decide, by decide⟩ h0 hA rfl (Nat.le_of_ble_eq_true rfl) (Nat.le_of_ble_eq_true rfl) (by decide) (cs_X10_refused hG (oa_af h0 hA) (fun _ _ _ _ h => h)) rfl (fun _ h => nomatch h) (fun S119 x124 h125 hx123 hG120 hB121 hA122 => ?_)
    obtain rfl := (hx123.1 _ rfl).trans (show bI (0 < (0 : Int32)) = 0 by decide)
    refine tt_if_eq (tgt := 20) dX10_put_16 rfl (fun _ => ?_) (fun q => absurd q (by decide))
    refine tt_aload_n (j := 0) dX10_put_20 rfl ?_
    obtain ⟨b126, hr127, ho128⟩ := gi_R (k := 665) hG h0 33 24
    refine gt_gR (id := 665) dX10_put_21 fl_10_49 rfl rfl h0 hA122 hr127 ?_
    refine tt_iload_n (j := 1) dX10_put_24 rfl ?_
    refine tt_lload_n (j := 2) dX10_put_25 rfl ?_
    refine gt_lS dX10_put_26 ho128 hA122 (rg_in h118) hG120 (Or.inl (by decide)) (Or.inr (ow_mk 9991 (k := 665) h0 hr127)) (fun S129 hG130 hA131 e132 f133 er134 => ?_)
    exact tt_vreturn dX10_put_27 rfl (hP _ _ _ _ ⟨hG130, hA131, Or.inl ⟨_, rfl, rfl, trivial, rfl, rfl⟩⟩)
set_option maxHeartbeats 4000000 in
theorem cs_X10_cutDown {xi : SX} {S : Hp} {E : List Nat} {kc nc : Nat} {P : Po} {o0 : Nat} {y1 : Int64} (hG : GI S E) (h0 : Oa S E 10 0 o0) (hP : ∀ r T x y, PV E [] S kc nc rJ (fun _ T => T = S) [] r T x y → P r T x y) : TT xi M_X10_cutDown 0 [(0, .ref o0), (1, .long y1)] [] S kc nc P := by
  have hA : Af E [] S S := af_rf
  refine tt_aload_n (j := 0) dX10_cutDown_0 rfl ?_
  refine tt_getI (id := 656) dX10_cutDown_1 fl_10_127 rfl rfl (ob_af h0 hA) ?_
  refine tt_bipush (v := 64) dX10_cutDown_4 rfl ?_
  have B101 : ∀ (y102 : Int64), TT xi M_X10_cutDown 16 [(0, .ref o0), (1, .long y1)] [.long y102] S kc nc P := by
    intro y102 
    exact tt_lreturn dX10_cutDown_16 rfl (hP _ _ _ _ ⟨hG, hA, Or.inl ⟨_, rfl, ⟨_, rfl⟩, rfl, rfl, rfl⟩⟩)
  refine tt_icmp_ne (tgt := 13) dX10_cutDown_6 rfl (fun q103 => ?_) (fun q103 => ?_)
  · skip
    refine tt_lload_n (j := 1) dX10_cutDown_13 rfl ?_
    refine tt_l2i dX10_cutDown_14 (gt_ti (fun x104 => ?_))
    refine tt_i2l dX10_cutDown_15 ?_
    exact B101 (x104 : Int32).toInt64
  · skip
    have h105 : Rg 64 64 (hp_I S 656 o0) := rg_eq_l (rg_all (hp_I S 656 o0)) (⟨by decide, by decide⟩ : Rg 64 64 64) q103
    refine tt_lload_n (j := 1) dX10_cutDown_9 rfl ?_
    refine tt_goto (tgt := 16) dX10_cutDown_10 rfl ?_
    exact B101 y1
set_option maxHeartbeats 4000000 in
theorem cs_X10_flags {xi : SX} {S : Hp} {E : List Nat} {kc nc : Nat} {P : Po} {o0 : Nat} {y1 : Int64} {x3 : Int32} {x4 : Int32} (hG : GI S E) (h0 : Oa S E 10 0 o0) (h3 : Rg 0 1 x3) (h4 : Rg 0 1 x4) (hP : ∀ r T x y, PV E [667, 668, 669, 670, 671] S kc nc rV ex0 [] r T x y → P r T x y) : TT xi M_X10_flags 0 [(0, .ref o0), (1, .long y1), (3, .int x3), (4, .int x4)] [] S kc nc P := by
  have hA : Af E [667, 668, 669, 670, 671] S S := af_rf
  refine tt_aload_n (j := 0) dX10_flags_0 rfl ?_
  refine tt_lload_n (j := 1) dX10_flags_1 rfl ?_
  refine tt_lconst (v := 0) dX10_flags_2 rfl ?_
  refine tt_lcmp dX10_flags_3 ?_
  have B101 : ∀ (x102 : Int32), Rg 0 1 x102 → TT xi M_X10_flags 12 [(0, .ref o0), (1, .long y1), (3, .int x3), (4, .int x4)] [.int x102, .ref o0] S kc nc P := by
    intro x102 h103
    refine gt_pI (id := 668) (x := x102) dX10_flags_12 fl_10_319 rfl rfl h0 hA (rg_nar (rg_w h103)) (rg_fit (rg_w h103)) rfl (gp_Ir hG h103) (by decide) (fun h => absurd h (by decide)) (fun h => absurd h (by decide)) (fun S104 hG105 hA106 e107 f108 er109 => ?_)
    refine tt_aload_n (j := 0) dX10_flags_15 rfl ?_
    refine tt_lload_n (j := 1) dX10_flags_16 rfl ?_
    refine tt_lconst (v := 0) dX10_flags_17 rfl ?_
    refine tt_lcmp dX10_flags_18 ?_
    have B110 : ∀ (x111 : Int32), Rg 0 1 x111 → TT xi M_X10_flags 27 [(0, .ref o0), (1, .long y1), (3, .int x3), (4, .int x4)] [.int x111, .ref o0] S104 kc nc P := by
      intro x111 h112
      refine gt_pI (id := 669) (x := x111) dX10_flags_27 fl_10_322 rfl rfl h0 hA106 (rg_nar (rg_w h112)) (rg_fit (rg_w h112)) rfl (gp_Ir hG105 h112) (by decide) (fun h => absurd h (by decide)) (fun h => absurd h (by decide)) (fun S113 hG114 hA115 e116 f117 er118 => ?_)
      refine tt_aload_n (j := 0) dX10_flags_30 rfl ?_
      refine tt_iload_n (j := 2) dX10_flags_31 rfl ?_
      refine gt_pI (id := 670) (x := x3) dX10_flags_32 fl_10_325 rfl rfl h0 hA115 (rg_nar (rg_w h3)) (rg_fit (rg_w h3)) rfl (gp_Ir hG114 h3) (by decide) (fun h => absurd h (by decide)) (fun h => absurd h (by decide)) (fun S119 hG120 hA121 e122 f123 er124 => ?_)
      refine tt_aload_n (j := 0) dX10_flags_35 rfl ?_
      refine tt_iload (j := 3) dX10_flags_36 rfl ?_
      refine gt_pI (id := 671) (x := x4) dX10_flags_38 fl_10_328 rfl rfl h0 hA121 (rg_nar (rg_w h4)) (rg_fit (rg_w h4)) rfl (gp_Ir hG120 h4) (by decide) (fun h => absurd h (by decide)) (fun h => absurd h (by decide)) (fun S125 hG126 hA127 e128 f129 er130 => ?_)
      refine tt_aload_n (j := 0) dX10_flags_41 rfl ?_
      refine tt_iconst (v := 0) dX10_flags_42 rfl ?_
      refine gt_pI (id := 667) (x := 0) dX10_flags_43 fl_10_316 rfl rfl h0 hA127 rfl rfl rfl (gp_Ir hG126 (⟨by decide, by decide⟩ : Rg 0 0 0)) (by decide) (fun h => absurd h (by decide)) (fun h => absurd h (by decide)) (fun S131 hG132 hA133 e134 f135 er136 => ?_)
      exact tt_vreturn dX10_flags_46 rfl (hP _ _ _ _ ⟨hG132, hA133, Or.inl ⟨_, rfl, rfl, trivial, rfl, rfl⟩⟩)
    refine tt_if_ge (tgt := 26) dX10_flags_19 rfl (fun q137 => ?_) (fun q137 => ?_)
    · skip
      have h138 : Rl 0 9223372036854775807 y1 := rl_le_r (⟨by decide, by decide⟩ : Rl 0 0 0) (rl_all y1) (lc_ge_t q137)
      refine tt_iconst (v := 0) dX10_flags_26 rfl ?_
      exact B110 0 (rg_w (⟨by decide, by decide⟩ : Rg 0 0 0))
    · skip
      have h139 : Rl (-9223372036854775808) (-1) y1 := rl_lt_l (rl_all y1) (⟨by decide, by decide⟩ : Rl 0 0 0) (lc_ge_f q137)
      refine tt_iconst (v := 1) dX10_flags_22 rfl ?_
      refine tt_goto (tgt := 27) dX10_flags_23 rfl ?_
      exact B110 1 (rg_w (⟨by decide, by decide⟩ : Rg 1 1 1))
  refine tt_if_ne (tgt := 11) dX10_flags_4 rfl (fun q140 => ?_) (fun q140 => ?_)
  · skip
    refine tt_iconst (v := 0) dX10_flags_11 rfl ?_
    exact B101 0 (rg_w (⟨by decide, by decide⟩ : Rg 0 0 0))
  · skip
    have h141 : Rl 0 0 y1 := rl_eq_l (rl_all y1) (⟨by decide, by decide⟩ : Rl 0 0 0) (lc_ne_f q140)
    refine tt_iconst (v := 1) dX10_flags_7 rfl ?_
    refine tt_goto (tgt := 12) dX10_flags_8 rfl ?_
    exact B101 1 (rg_w (⟨by decide, by decide⟩ : Rg 1 1 1))
set_option maxHeartbeats 4000000 in
theorem cs_X10_isBelow {xi : SX} {S : Hp} {E : List Nat} {kc nc : Nat} {P : Po} {y0 : Int64} {y2 : Int64} (hG : GI S E)  (hP : ∀ r T x y, PV E [] S kc nc (rI 0 1) (fun _ T => T = S) [] r T x y → P r T x y) : TT xi M_X10_isBelow 0 [(0, .long y0), (2, .long y2)] [] S kc nc P := by
  have hA : Af E [] S S := af_rf
  refine tt_lload_n (j := 0) dX10_isBelow_0 rfl ?_
  refine tt_ldc2 (v := (-9223372036854775808)) dX10_isBelow_1 kl_10_331 ?_
  refine tt_lxor dX10_isBelow_4 (gt_tl (fun y101 => ?_))
  refine tt_lload_n (j := 1) dX10_isBelow_5 rfl ?_
  refine tt_ldc2 (v := (-9223372036854775808)) dX10_isBelow_6 kl_10_331 ?_
  refine tt_lxor dX10_isBelow_9 (gt_tl (fun y102 => ?_))
  refine tt_lcmp dX10_isBelow_10 ?_
  have B103 : ∀ (x104 : Int32), Rg 0 1 x104 → TT xi M_X10_isBelow 19 [(0, .long y0), (2, .long y2)] [.int x104] S kc nc P := by
    intro x104 h105
    exact tt_ireturn dX10_isBelow_19 .boolean rfl (rg_nar (rg_w h105)) (hP _ _ _ _ ⟨hG, hA, Or.inl ⟨_, rfl, ⟨_, rfl, rg_w h105⟩, rfl, rfl, rfl⟩⟩)
  refine tt_if_ge (tgt := 18) dX10_isBelow_11 rfl (fun q106 => ?_) (fun q106 => ?_)
  · skip
    refine tt_iconst (v := 0) dX10_isBelow_18 rfl ?_
    exact B103 0 (rg_w (⟨by decide, by decide⟩ : Rg 0 0 0))
  · skip
    have h107 : Rl (-9223372036854775808) 9223372036854775806 y101 := rl_lt_l (rl_all y101) (rl_all y102) (lc_ge_f q106)
    have h108 : Rl (-9223372036854775807) 9223372036854775807 y102 := rl_lt_r (rl_all y101) (rl_all y102) (lc_ge_f q106)
    refine tt_iconst (v := 1) dX10_isBelow_14 rfl ?_
    refine tt_goto (tgt := 19) dX10_isBelow_15 rfl ?_
    exact B103 1 (rg_w (⟨by decide, by decide⟩ : Rg 1 1 1))
set_option maxHeartbeats 4000000 in
theorem cs_X10_sum {xi : SX} {S : Hp} {E : List Nat} {kc nc : Nat} {P : Po} {o0 : Nat} {y1 : Int64} {y3 : Int64} (hG : GI S E) (h0 : Oa S E 10 0 o0) (hP : ∀ r T x y, PV E [667, 668, 669, 670, 671] S kc nc rJ ex0 [] r T x y → P r T x y) : TT xi M_X10_sum 0 [(0, .ref o0), (1, .long y1), (3, .long y3)] [] S kc nc P := by
  have hA : Af E [667, 668, 669, 670, 671] S S := af_rf
  refine tt_aload_n (j := 0) dX10_sum_0 rfl ?_
  refine tt_lload_n (j := 1) dX10_sum_1 rfl ?_
  refine tt_lload_n (j := 2) dX10_sum_2 rfl ?_
  refine tt_ladd dX10_sum_3 (gt_tl (fun y101 => ?_))
  refine gt_VJp (As := [.long y101]) dX10_sum_4 ca_X10_333 ⟨by decide, by decide⟩ h0 hA rfl (Nat.le_of_ble_eq_true rfl) (Nat.le_of_ble_eq_true rfl) (by decide) (cs_X10_cutDown hG (oa_af h0 hA) (fun _ _ _ _ h => h)) rfl (fun _ h => nomatch h) (fun _ _ q => q) (fun y107 hx106 => ?_)
  refine tt_lstore (ks := [0, 1, 2, 3]) (L' := [(5, .long y107), (0, .ref o0), (1, .long y1), (3, .long y3)]) dX10_sum_7 (by decide) rfl ?_
  refine tt_aload_n (j := 1) dX10_sum_9 rfl ?_
  refine tt_lload (j := 0) dX10_sum_10 rfl ?_
  refine tt_lload (j := 0) dX10_sum_12 rfl ?_
  refine tt_lload_n (j := 2) dX10_sum_14 rfl ?_
  refine gt_SIp (As := [.long y107, .long y1]) dX10_sum_15 ca_X10_337 ⟨by decide, by decide⟩ hA (Nat.le_of_ble_eq_true rfl) (Nat.le_of_ble_eq_true rfl) (by decide) (cs_X10_isBelow hG  (fun _ _ _ _ h => h)) rfl (fun _ h => nomatch h) (fun _ _ q => q) (fun x114 h115 hx113 => ?_)
  refine tt_lload_n (j := 2) dX10_sum_18 rfl ?_
  refine tt_lload (j := 0) dX10_sum_19 rfl ?_
  refine tt_lxor dX10_sum_21 (gt_tl (fun y116 => ?_))
  refine tt_lload_n (j := 3) dX10_sum_22 rfl ?_
  refine tt_lload (j := 0) dX10_sum_23 rfl ?_
  refine tt_lxor dX10_sum_25 (gt_tl (fun y117 => ?_))
  refine tt_land dX10_sum_26 (gt_tl (fun y118 => ?_))
  refine tt_lconst (v := 0) dX10_sum_27 rfl ?_
  refine tt_lcmp dX10_sum_28 ?_
  have B119 : ∀ (x120 : Int32), Rg 0 1 x120 → TT xi M_X10_sum 37 [(0, .ref o0), (1, .long y1), (3, .long y3), (5, .long y107)] [.int x120, .int x114, .long y107, .ref o0] S kc nc P := by
    intro x120 h121
    refine gt_Vv (As := [.long y107, .int x114, .int x120]) dX10_sum_37 ca_X10_341 ⟨by decide, by decide⟩ h0 hA rfl (Nat.le_of_ble_eq_true rfl) (Nat.le_of_ble_eq_true rfl) (by decide) (cs_X10_flags hG (oa_af h0 hA) (rg_w h115) (rg_w h121) (fun _ _ _ _ h => h)) rfl (fun _ h => nomatch h) (fun S122 hx126 hG123 hB124 hA125 => ?_)
    refine tt_lload (j := 3) dX10_sum_40 rfl ?_
    exact tt_lreturn dX10_sum_42 rfl (hP _ _ _ _ ⟨hG123, hA125, Or.inl ⟨_, rfl, ⟨_, rfl⟩, trivial, rfl, rfl⟩⟩)
  refine tt_if_ge (tgt := 36) dX10_sum_29 rfl (fun q127 => ?_) (fun q127 => ?_)
  · skip
    have h128 : Rl 0 9223372036854775807 y118 := rl_le_r (⟨by decide, by decide⟩ : Rl 0 0 0) (rl_all y118) (lc_ge_t q127)
    refine tt_iconst (v := 0) dX10_sum_36 rfl ?_
    exact tt_loc (ks := [1, 2, 3, 0]) rfl (B119 0 (rg_w (⟨by decide, by decide⟩ : Rg 0 0 0)))
  · skip
    have h129 : Rl (-9223372036854775808) (-1) y118 := rl_lt_l (rl_all y118) (⟨by decide, by decide⟩ : Rl 0 0 0) (lc_ge_f q127)
    refine tt_iconst (v := 1) dX10_sum_32 rfl ?_
    refine tt_goto (tgt := 37) dX10_sum_33 rfl ?_
    exact tt_loc (ks := [1, 2, 3, 0]) rfl (B119 1 (rg_w (⟨by decide, by decide⟩ : Rg 1 1 1)))
set_option maxHeartbeats 4000000 in
theorem cs_X10_difference {xi : SX} {S : Hp} {E : List Nat} {kc nc : Nat} {P : Po} {o0 : Nat} {y1 : Int64} {y3 : Int64} (hG : GI S E) (h0 : Oa S E 10 0 o0) (hP : ∀ r T x y, PV E [667, 668, 669, 670, 671] S kc nc rJ ex0 [] r T x y → P r T x y) : TT xi M_X10_difference 0 [(0, .ref o0), (1, .long y1), (3, .long y3)] [] S kc nc P := by
  have hA : Af E [667, 668, 669, 670, 671] S S := af_rf
  refine tt_aload_n (j := 0) dX10_difference_0 rfl ?_
  refine tt_lload_n (j := 1) dX10_difference_1 rfl ?_
  refine tt_lload_n (j := 2) dX10_difference_2 rfl ?_
  refine tt_lsub dX10_difference_3 (gt_tl (fun y101 => ?_))
  refine gt_VJp (As := [.long y101]) dX10_difference_4 ca_X10_333 ⟨by decide, by decide⟩ h0 hA rfl (Nat.le_of_ble_eq_true rfl) (Nat.le_of_ble_eq_true rfl) (by decide) (cs_X10_cutDown hG (oa_af h0 hA) (fun _ _ _ _ h => h)) rfl (fun _ h => nomatch h) (fun _ _ q => q) (fun y107 hx106 => ?_)
  refine tt_lstore (ks := [0, 1, 2, 3]) (L' := [(5, .long y107), (0, .ref o0), (1, .long y1), (3, .long y3)]) dX10_difference_7 (by decide) rfl ?_
  refine tt_aload_n (j := 1) dX10_difference_9 rfl ?_
  refine tt_lload (j := 0) dX10_difference_10 rfl ?_
  refine tt_lload_n (j := 2) dX10_difference_12 rfl ?_
  refine tt_lload_n (j := 3) dX10_difference_13 rfl ?_
  refine gt_SIp (As := [.long y1, .long y3]) dX10_difference_14 ca_X10_337 ⟨by decide, by decide⟩ hA (Nat.le_of_ble_eq_true rfl) (Nat.le_of_ble_eq_true rfl) (by decide) (cs_X10_isBelow hG  (fun _ _ _ _ h => h)) rfl (fun _ h => nomatch h) (fun _ _ q => q) (fun x114 h115 hx113 => ?_)
  refine tt_lload_n (j := 2) dX10_difference_17 rfl ?_
  refine tt_lload_n (j := 3) dX10_difference_18 rfl ?_
  refine tt_lxor dX10_difference_19 (gt_tl (fun y116 => ?_))
  refine tt_lload_n (j := 2) dX10_difference_20 rfl ?_
  refine tt_lload (j := 0) dX10_difference_21 rfl ?_
  refine tt_lxor dX10_difference_23 (gt_tl (fun y117 => ?_))
  refine tt_land dX10_difference_24 (gt_tl (fun y118 => ?_))
  refine tt_lconst (v := 0) dX10_difference_25 rfl ?_
  refine tt_lcmp dX10_difference_26 ?_
  have B119 : ∀ (x120 : Int32), Rg 0 1 x120 → TT xi M_X10_difference 35 [(0, .ref o0), (1, .long y1), (3, .long y3), (5, .long y107)] [.int x120, .int x114, .long y107, .ref o0] S kc nc P := by
    intro x120 h121
    refine gt_Vv (As := [.long y107, .int x114, .int x120]) dX10_difference_35 ca_X10_341 ⟨by decide, by decide⟩ h0 hA rfl (Nat.le_of_ble_eq_true rfl) (Nat.le_of_ble_eq_true rfl) (by decide) (cs_X10_flags hG (oa_af h0 hA) (rg_w h115) (rg_w h121) (fun _ _ _ _ h => h)) rfl (fun _ h => nomatch h) (fun S122 hx126 hG123 hB124 hA125 => ?_)
    refine tt_lload (j := 3) dX10_difference_38 rfl ?_
    exact tt_lreturn dX10_difference_40 rfl (hP _ _ _ _ ⟨hG123, hA125, Or.inl ⟨_, rfl, ⟨_, rfl⟩, trivial, rfl, rfl⟩⟩)
  refine tt_if_ge (tgt := 34) dX10_difference_27 rfl (fun q127 => ?_) (fun q127 => ?_)
  · skip
    have h128 : Rl 0 9223372036854775807 y118 := rl_le_r (⟨by decide, by decide⟩ : Rl 0 0 0) (rl_all y118) (lc_ge_t q127)
    refine tt_iconst (v := 0) dX10_difference_34 rfl ?_
    exact tt_loc (ks := [1, 2, 3, 0]) rfl (B119 0 (rg_w (⟨by decide, by decide⟩ : Rg 0 0 0)))
  · skip
    have h129 : Rl (-9223372036854775808) (-1) y118 := rl_lt_l (rl_all y118) (⟨by decide, by decide⟩ : Rl 0 0 0) (lc_ge_f q127)
    refine tt_iconst (v := 1) dX10_difference_30 rfl ?_
    refine tt_goto (tgt := 35) dX10_difference_31 rfl ?_
    exact tt_loc (ks := [1, 2, 3, 0]) rfl (B119 1 (rg_w (⟨by decide, by decide⟩ : Rg 1 1 1)))
set_option maxHeartbeats 4000000 in
theorem cs_X10_bits {xi : SX} {S : Hp} {E : List Nat} {kc nc : Nat} {P : Po} {o0 : Nat} {y1 : Int64} (hG : GI S E) (h0 : Oa S E 10 0 o0) (hP : ∀ r T x y, PV E [667, 668, 669, 670, 671] S kc nc rJ ex0 [] r T x y → P r T x y) : TT xi M_X10_bits 0 [(0, .ref o0), (1, .long y1)] [] S kc nc P := by
  have hA : Af E [667, 668, 669, 670, 671] S S := af_rf
  refine tt_aload_n (j := 0) dX10_bits_0 rfl ?_
  refine tt_lload_n (j := 1) dX10_bits_1 rfl ?_
  refine tt_iconst (v := 0) dX10_bits_2 rfl ?_
  refine tt_iconst (v := 0) dX10_bits_3 rfl ?_
  refine gt_Vv (As := [.long y1, .int 0, .int 0]) dX10_bits_4 ca_X10_341 ⟨by decide, by decide⟩ h0 hA rfl (Nat.le_of_ble_eq_true rfl) (Nat.le_of_ble_eq_true rfl) (by decide) (cs_X10_flags hG (oa_af h0 hA) (rg_w (⟨by decide, by decide⟩ : Rg 0 0 0)) (rg_w (⟨by decide, by decide⟩ : Rg 0 0 0)) (fun _ _ _ _ h => h)) rfl (fun _ h => nomatch h) (fun S101 hx105 hG102 hB103 hA104 => ?_)
  refine tt_lload_n (j := 1) dX10_bits_7 rfl ?_
  exact tt_lreturn dX10_bits_8 rfl (hP _ _ _ _ ⟨hG102, hA104, Or.inl ⟨_, rfl, ⟨_, rfl⟩, trivial, rfl, rfl⟩⟩)
set_option maxHeartbeats 4000000 in
theorem cs_X10_count {xi : SX} {S : Hp} {E : List Nat} {kc nc : Nat} {P : Po} {o0 : Nat} {y1 : Int64} {y3 : Int64} (hG : GI S E) (h0 : Oa S E 10 0 o0) (hP : ∀ r T x y, PV E [667, 668, 669, 670, 671] S kc nc rJ ex0 [] r T x y → P r T x y) : TT xi M_X10_count 0 [(0, .ref o0), (1, .long y1), (3, .long y3)] [] S kc nc P := by
  have hA : Af E [667, 668, 669, 670, 671] S S := af_rf
  refine tt_aload_n (j := 0) dX10_count_0 rfl ?_
  refine tt_getI (id := 667) dX10_count_1 fl_10_316 rfl rfl (ob_af h0 hA) ?_
  refine tt_istore (ks := [0, 1, 2, 3]) (L' := [(5, .int (hp_I S 667 o0)), (0, .ref o0), (1, .long y1), (3, .long y3)]) dX10_count_4 (by decide) rfl ?_
  refine tt_aload_n (j := 1) dX10_count_6 rfl ?_
  refine tt_lload_n (j := 2) dX10_count_7 rfl ?_
  refine tt_lload_n (j := 3) dX10_count_8 rfl ?_
  refine tt_ladd dX10_count_9 (gt_tl (fun y101 => ?_))
  refine gt_VJp (As := [.long y101]) dX10_count_10 ca_X10_333 ⟨by decide, by decide⟩ h0 hA rfl (Nat.le_of_ble_eq_true rfl) (Nat.le_of_ble_eq_true rfl) (by decide) (cs_X10_cutDown hG (oa_af h0 hA) (fun _ _ _ _ h => h)) rfl (fun _ h => nomatch h) (fun _ _ q => q) (fun y107 hx106 => ?_)
  refine tt_lstore (ks := [0, 1, 2, 3, 4]) (L' := [(6, .long y107), (5, .int (hp_I S 667 o0)), (0, .ref o0), (1, .long y1), (3, .long y3)]) dX10_count_13 (by decide) rfl ?_
  refine tt_aload_n (j := 2) dX10_count_15 rfl ?_
  refine tt_lload (j := 0) dX10_count_16 rfl ?_
  refine tt_aload_n (j := 2) dX10_count_18 rfl ?_
  refine tt_getI (id := 670) dX10_count_19 fl_10_325 rfl rfl (ob_af h0 hA) ?_
  refine tt_lload_n (j := 4) dX10_count_22 rfl ?_
  refine tt_lconst (v := 0) dX10_count_23 rfl ?_
  refine tt_lcmp dX10_count_24 ?_
  have B109 : ∀ (x110 : Int32), Rg 0 1 x110 → TT xi M_X10_count 67 [(0, .ref o0), (1, .long y1), (3, .long y3), (5, .int (hp_I S 667 o0)), (6, .long y107)] [.int x110, .int (hp_I S 670 o0), .long y107, .ref o0] S kc nc P := by
    intro x110 h111
    refine gt_Vv (As := [.long y107, .int (hp_I S 670 o0), .int x110]) dX10_count_67 ca_X10_341 ⟨by decide, by decide⟩ h0 hA rfl (Nat.le_of_ble_eq_true rfl) (Nat.le_of_ble_eq_true rfl) (by decide) (cs_X10_flags hG (oa_af h0 hA) (rg_w (gi_I (k := 670) hG (oa_af h0 hA) 0 1)) (rg_w h111) (fun _ _ _ _ h => h)) rfl (fun _ h => nomatch h) (fun S112 hx116 hG113 hB114 hA115 => ?_)
    refine tt_aload_n (j := 0) dX10_count_70 rfl ?_
    refine tt_iload (j := 3) dX10_count_71 rfl ?_
    refine gt_pI (id := 667) (x := (hp_I S 667 o0)) dX10_count_73 fl_10_316 rfl rfl h0 hA115 (rg_nar (rg_w (gi_I (k := 667) hG (oa_af h0 hA) 0 1))) (rg_fit (rg_w (gi_I (k := 667) hG (oa_af h0 hA) 0 1))) rfl (gp_Ir hG113 (gi_I (k := 667) hG (oa_af h0 hA) 0 1)) (by decide) (fun h => absurd h (by decide)) (fun h => absurd h (by decide)) (fun S117 hG118 hA119 e120 f121 er122 => ?_)
    refine tt_lload (j := 4) dX10_count_76 rfl ?_
    exact tt_lreturn dX10_count_78 rfl (hP _ _ _ _ ⟨hG118, hA119, Or.inl ⟨_, rfl, ⟨_, rfl⟩, trivial, rfl, rfl⟩⟩)
  refine tt_if_le (tgt := 49) dX10_count_25 rfl (fun q123 => ?_) (fun q123 => ?_)
  · skip
    have h124 : Rl (-9223372036854775808) 0 y3 := rl_le_l (rl_all y3) (⟨by decide, by decide⟩ : Rl 0 0 0) (lc_le_t q123)
    refine tt_lload_n (j := 3) dX10_count_49 rfl ?_
    refine tt_lconst (v := 0) dX10_count_50 rfl ?_
    refine tt_lcmp dX10_count_51 ?_
    have B125 : TT xi M_X10_count 66 [(0, .ref o0), (1, .long y1), (3, .long y3), (5, .int (hp_I S 667 o0)), (6, .long y107)] [.int (hp_I S 670 o0), .long y107, .ref o0] S kc nc P := by
      refine tt_iconst (v := 0) dX10_count_66 rfl ?_
      exact B109 0 (rg_w (⟨by decide, by decide⟩ : Rg 0 0 0))
    refine tt_if_ge (tgt := 66) dX10_count_52 rfl (fun q126 => ?_) (fun q126 => ?_)
    · skip
      have h127 : Rl 0 9223372036854775807 y1 := rl_le_r (⟨by decide, by decide⟩ : Rl 0 0 0) (rl_all y1) (lc_ge_t q126)
      exact tt_loc (ks := [2, 3, 4, 1, 0]) rfl (B125 )
    · skip
      have h128 : Rl (-9223372036854775808) (-1) y1 := rl_lt_l (rl_all y1) (⟨by decide, by decide⟩ : Rl 0 0 0) (lc_ge_f q126)
      refine tt_lload (j := 0) dX10_count_55 rfl ?_
      refine tt_lconst (v := 0) dX10_count_57 rfl ?_
      refine tt_lcmp dX10_count_58 ?_
      refine tt_if_lt (tgt := 66) dX10_count_59 rfl (fun q129 => ?_) (fun q129 => ?_)
      · skip
        have h130 : Rl (-9223372036854775808) (-1) y107 := rl_lt_l (rl_all y107) (⟨by decide, by decide⟩ : Rl 0 0 0) (lc_lt_t q129)
        exact tt_loc (ks := [2, 3, 4, 1, 0]) rfl (B125 )
      · skip
        have h131 : Rl 0 9223372036854775807 y107 := rl_le_r (⟨by decide, by decide⟩ : Rl 0 0 0) (rl_all y107) (lc_lt_f q129)
        refine tt_iconst (v := 1) dX10_count_62 rfl ?_
        refine tt_goto (tgt := 67) dX10_count_63 rfl ?_
        exact tt_loc (ks := [2, 3, 4, 1, 0]) rfl (B109 1 (rg_w (⟨by decide, by decide⟩ : Rg 1 1 1)))
  · skip
    have h132 : Rl 1 9223372036854775807 y3 := rl_lt_r (⟨by decide, by decide⟩ : Rl 0 0 0) (rl_all y3) (lc_le_f q123)
    refine tt_lload_n (j := 3) dX10_count_28 rfl ?_
    refine tt_lconst (v := 0) dX10_count_29 rfl ?_
    refine tt_lcmp dX10_count_30 ?_
    have B133 : TT xi M_X10_count 45 [(0, .ref o0), (1, .long y1), (3, .long y3), (5, .int (hp_I S 667 o0)), (6, .long y107)] [.int (hp_I S 670 o0), .long y107, .ref o0] S kc nc P := by
      refine tt_iconst (v := 0) dX10_count_45 rfl ?_
      refine tt_goto (tgt := 67) dX10_count_46 rfl ?_
      exact B109 0 (rg_w (⟨by decide, by decide⟩ : Rg 0 0 0))
    refine tt_if_lt (tgt := 45) dX10_count_31 rfl (fun q134 => ?_) (fun q134 => ?_)
    · skip
      have h135 : Rl (-9223372036854775808) (-1) y1 := rl_lt_l (rl_all y1) (⟨by decide, by decide⟩ : Rl 0 0 0) (lc_lt_t q134)
      exact tt_loc (ks := [2, 3, 4, 1, 0]) rfl (B133 )
    · skip
      have h136 : Rl 0 9223372036854775807 y1 := rl_le_r (⟨by decide, by decide⟩ : Rl 0 0 0) (rl_all y1) (lc_lt_f q134)
      refine tt_lload (j := 0) dX10_count_34 rfl ?_
      refine tt_lconst (v := 0) dX10_count_36 rfl ?_
      refine tt_lcmp dX10_count_37 ?_
      refine tt_if_ge (tgt := 45) dX10_count_38 rfl (fun q137 => ?_) (fun q137 => ?_)
      · skip
        have h138 : Rl 0 9223372036854775807 y107 := rl_le_r (⟨by decide, by decide⟩ : Rl 0 0 0) (rl_all y107) (lc_ge_t q137)
        exact tt_loc (ks := [2, 3, 4, 1, 0]) rfl (B133 )
      · skip
        have h139 : Rl (-9223372036854775808) (-1) y107 := rl_lt_l (rl_all y107) (⟨by decide, by decide⟩ : Rl 0 0 0) (lc_ge_f q137)
        refine tt_iconst (v := 1) dX10_count_41 rfl ?_
        refine tt_goto (tgt := 67) dX10_count_42 rfl ?_
        exact tt_loc (ks := [2, 3, 4, 1, 0]) rfl (B109 1 (rg_w (⟨by decide, by decide⟩ : Rg 1 1 1)))
set_option maxHeartbeats 4000000 in
theorem cs_X10_shifted {xi : SX} {S : Hp} {E : List Nat} {kc nc : Nat} {P : Po} {o0 : Nat} {y1 : Int64} (hG : GI S E) (h0 : Oa S E 10 0 o0) (hP : ∀ r T x y, PV E [667] S kc nc rJ ex0 [] r T x y → P r T x y) : TT xi M_X10_shifted 0 [(0, .ref o0), (1, .long y1)] [] S kc nc P := by
  have hA : Af E [667] S S := af_rf
  refine tt_aload_n (j := 0) dX10_shifted_0 rfl ?_
  refine tt_iconst (v := 1) dX10_shifted_1 rfl ?_
  refine gt_pI (id := 667) (x := 1) dX10_shifted_2 fl_10_316 rfl rfl h0 hA rfl rfl rfl (gp_Ir hG (⟨by decide, by decide⟩ : Rg 1 1 1)) (by decide) (fun h => absurd h (by decide)) (fun h => absurd h (by decide)) (fun S101 hG102 hA103 e104 f105 er106 => ?_)
  refine tt_aload_n (j := 0) dX10_shifted_5 rfl ?_
  refine gt_gI (id := 656) (v := (hp_I S 656 o0)) dX10_shifted_6 fl_10_127 rfl rfl h0 hA103 (i_af (k := 656) h0 hA103) ?_
  refine tt_bipush (v := 64) dX10_shifted_9 rfl ?_
  have B107 : ∀ (y108 : Int64), TT xi M_X10_shifted 23 [(0, .ref o0), (1, .long y1)] [.long y108] S101 kc nc P := by
    intro y108 
    refine tt_lstore_n (ks := [0, 1, 2]) (L' := [(3, .long y108), (0, .ref o0), (1, .long y1)]) dX10_shifted_23 (by decide) rfl ?_
    refine tt_aload_n (j := 1) dX10_shifted_24 rfl ?_
    refine gt_gI (id := 655) (v := (hp_I S 655 o0)) dX10_shifted_25 fl_10_107 rfl rfl h0 hA103 (i_af (k := 655) h0 hA103) ?_
    refine tt_bipush (v := 14) dX10_shifted_28 rfl ?_
    have B109 : ∀ (y110 : Int64), TT xi M_X10_shifted 66 [(0, .ref o0), (1, .long y1), (3, .long y108)] [.long y110] S101 kc nc P := by
      intro y110 
      exact tt_lreturn dX10_shifted_66 rfl (hP _ _ _ _ ⟨hG102, hA103, Or.inl ⟨_, rfl, ⟨_, rfl⟩, trivial, rfl, rfl⟩⟩)
    refine tt_icmp_ne (tgt := 42) dX10_shifted_30 rfl (fun q111 => ?_) (fun q111 => ?_)
    · skip
      refine tt_aload_n (j := 1) dX10_shifted_42 rfl ?_
      refine gt_gI (id := 655) (v := (hp_I S 655 o0)) dX10_shifted_43 fl_10_107 rfl rfl h0 hA103 (i_af (k := 655) h0 hA103) ?_
      refine tt_bipush (v := 15) dX10_shifted_46 rfl ?_
      refine tt_icmp_ne (tgt := 60) dX10_shifted_48 rfl (fun q112 => ?_) (fun q112 => ?_)
      · skip
        refine tt_lload_n (j := 2) dX10_shifted_60 rfl ?_
        refine tt_aload_n (j := 1) dX10_shifted_61 rfl ?_
        refine gt_gI (id := 659) (v := (hp_I S 659 o0)) dX10_shifted_62 fl_10_120 rfl rfl h0 hA103 (i_af (k := 659) h0 hA103) ?_
        refine tt_lshr dX10_shifted_65 (gt_tl (fun y113 => ?_))
        exact tt_loc (ks := [1, 2, 0]) rfl (B109 y113)
      · skip
        have h114 : Rg 15 15 (hp_I S 655 o0) := rg_eq_l (rg_all (hp_I S 655 o0)) (⟨by decide, by decide⟩ : Rg 15 15 15) q112
        refine tt_lload_n (j := 0) dX10_shifted_51 rfl ?_
        refine tt_aload_n (j := 1) dX10_shifted_52 rfl ?_
        refine gt_gI (id := 659) (v := (hp_I S 659 o0)) dX10_shifted_53 fl_10_120 rfl rfl h0 hA103 (i_af (k := 659) h0 hA103) ?_
        refine tt_lushr dX10_shifted_56 (gt_tl (fun y115 => ?_))
        refine tt_goto (tgt := 66) dX10_shifted_57 rfl ?_
        exact tt_loc (ks := [1, 2, 0]) rfl (B109 y115)
    · skip
      have h116 : Rg 14 14 (hp_I S 655 o0) := rg_eq_l (rg_all (hp_I S 655 o0)) (⟨by decide, by decide⟩ : Rg 14 14 14) q111
      refine tt_lload_n (j := 2) dX10_shifted_33 rfl ?_
      refine tt_aload_n (j := 1) dX10_shifted_34 rfl ?_
      refine gt_gI (id := 659) (v := (hp_I S 659 o0)) dX10_shifted_35 fl_10_120 rfl rfl h0 hA103 (i_af (k := 659) h0 hA103) ?_
      refine tt_lshl dX10_shifted_38 (gt_tl (fun y117 => ?_))
      refine tt_goto (tgt := 66) dX10_shifted_39 rfl ?_
      exact tt_loc (ks := [1, 2, 0]) rfl (B109 y117)
  refine tt_icmp_ne (tgt := 18) dX10_shifted_11 rfl (fun q118 => ?_) (fun q118 => ?_)
  · skip
    refine tt_lload_n (j := 1) dX10_shifted_18 rfl ?_
    refine tt_ldc2 (v := 4294967295) dX10_shifted_19 kl_10_206 ?_
    refine tt_land dX10_shifted_22 (gt_tl (fun y119 => ?_))
    exact B107 y119
  · skip
    have h120 : Rg 64 64 (hp_I S 656 o0) := rg_eq_l (rg_all (hp_I S 656 o0)) (⟨by decide, by decide⟩ : Rg 64 64 64) q118
    refine tt_lload_n (j := 1) dX10_shifted_14 rfl ?_
    refine tt_goto (tgt := 23) dX10_shifted_15 rfl ?_
    exact B107 y1
set_option maxHeartbeats 4000000 in
theorem cs_X10_run {xi : SX} {S : Hp} {E : List Nat} {kc nc : Nat} {P : Po} {o0 : Nat} (hG : GI S E) (h0 : Oa S E 10 0 o0) (g657 : Rg 0 23 (hp_I S 657 o0)) (g658 : Rg (-1) 23 (hp_I S 658 o0)) (hP : ∀ r T x y, PV E [667, 668, 669, 670, 671, 9990] S kc nc rV ex0 [] r T x y → P r T x y) : TT xi M_X10_run 0 [(0, .ref o0)] [] S kc nc P := by
  have hA : Af E [667, 668, 669, 670, 671, 9990] S S := af_rf
  refine tt_aload_n (j := 0) dX10_run_0 rfl ?_
  refine tt_aload_n (j := 0) dX10_run_1 rfl ?_
  obtain ⟨b101, hr102, ho103⟩ := gi_R (k := 666) hG h0 33 24
  refine gt_gR (id := 666) dX10_run_2 fl_10_52 rfl rfl h0 hA hr102 ?_
  refine tt_aload_n (j := 0) dX10_run_5 rfl ?_
  refine tt_getI (id := 657) dX10_run_6 fl_10_110 rfl rfl (ob_af h0 hA) ?_
  refine gt_lLt dX10_run_9 ho103 hA (rg_in g657) ?_
  refine gt_VJp (As := [.long (hp_j S b101 ((hp_I S 657 o0) : Int32).toNatClampNeg)]) dX10_run_10 ca_X10_333 ⟨by decide, by decide⟩ h0 hA rfl (Nat.le_of_ble_eq_true rfl) (Nat.le_of_ble_eq_true rfl) (by decide) (cs_X10_cutDown hG (oa_af h0 hA) (fun _ _ _ _ h => h)) rfl (fun _ h => nomatch h) (fun _ _ q => q) (fun y109 hx108 => ?_)
  refine tt_lstore_n (ks := [0, 1]) (L' := [(1, .long y109), (0, .ref o0)]) dX10_run_13 (by decide) rfl ?_
  refine tt_aload_n (j := 1) dX10_run_14 rfl ?_
  refine tt_aload_n (j := 1) dX10_run_15 rfl ?_
  refine tt_getI (id := 658) dX10_run_16 fl_10_113 rfl rfl (ob_af h0 hA) ?_
  have B111 : ∀ (y112 : Int64), TT xi M_X10_run 38 [(0, .ref o0), (1, .long y109)] [.long y112, .ref o0] S kc nc P := by
    intro y112 
    refine gt_VJp (As := [.long y112]) dX10_run_38 ca_X10_333 ⟨by decide, by decide⟩ h0 hA rfl (Nat.le_of_ble_eq_true rfl) (Nat.le_of_ble_eq_true rfl) (by decide) (cs_X10_cutDown hG (oa_af h0 hA) (fun _ _ _ _ h => h)) rfl (fun _ h => nomatch h) (fun _ _ q => q) (fun y118 hx117 => ?_)
    refine tt_lstore_n (ks := [0, 1, 2]) (L' := [(3, .long y118), (0, .ref o0), (1, .long y109)]) dX10_run_41 (by decide) rfl ?_
    refine tt_lconst (v := 0) dX10_run_42 rfl ?_
    refine tt_lstore (ks := [0, 1, 2, 3]) (L' := [(5, .long 0), (3, .long y118), (0, .ref o0), (1, .long y109)]) dX10_run_43 (by decide) rfl ?_
    refine tt_aload_n (j := 2) dX10_run_45 rfl ?_
    refine tt_getI (id := 655) dX10_run_46 fl_10_107 rfl rfl (ob_af h0 hA) ?_
    have B120 : ∀ (S121 : Hp) (y124 : Int64), GI S121 E → Af E [667, 668, 669, 670, 671, 9990] S S121 → TT xi M_X10_run 277 [(0, .ref o0), (1, .long y109), (3, .long y118), (5, .long y124)] [] S121 kc nc P := by
      intro S121 y124 hG122 hA123
      refine tt_aload_n (j := 0) dX10_run_277 rfl ?_
      refine gt_gI (id := 655) (v := (hp_I S 655 o0)) dX10_run_278 fl_10_107 rfl rfl h0 hA123 (i_af (k := 655) h0 hA123) ?_
      refine tt_bipush (v := 7) dX10_run_281 rfl ?_
      have B125 : ∀ (S126 : Hp), GI S126 E → Af E [667, 668, 669, 670, 671, 9990] S S126 → TT xi M_X10_run 324 [(0, .ref o0), (1, .long y109), (3, .long y118), (5, .long y124)] [] S126 kc nc P := by
        intro S126 hG127 hA128
        exact tt_vreturn dX10_run_324 rfl (hP _ _ _ _ ⟨hG127, hA128, Or.inl ⟨_, rfl, rfl, trivial, rfl, rfl⟩⟩)
      refine tt_icmp_eq (tgt := 324) dX10_run_283 rfl (fun q129 => ?_) (fun q129 => ?_)
      · skip
        have h130 : Rg 7 7 (hp_I S 655 o0) := rg_eq_l (rg_all (hp_I S 655 o0)) (⟨by decide, by decide⟩ : Rg 7 7 7) q129
        exact B125 S121 hG122 hA123
      · skip
        refine tt_aload_n (j := 0) dX10_run_286 rfl ?_
        refine gt_gI (id := 655) (v := (hp_I S 655 o0)) dX10_run_287 fl_10_107 rfl rfl h0 hA123 (i_af (k := 655) h0 hA123) ?_
        refine tt_bipush (v := 8) dX10_run_290 rfl ?_
        refine tt_icmp_eq (tgt := 324) dX10_run_292 rfl (fun q131 => ?_) (fun q131 => ?_)
        · skip
          have h132 : Rg 8 8 (hp_I S 655 o0) := rg_eq_l (rg_all (hp_I S 655 o0)) (⟨by decide, by decide⟩ : Rg 8 8 8) q131
          exact B125 S121 hG122 hA123
        · skip
          refine tt_aload_n (j := 0) dX10_run_295 rfl ?_
          refine gt_gR (id := 666) dX10_run_296 fl_10_52 rfl rfl h0 hA123 hr102 ?_
          refine tt_aload_n (j := 0) dX10_run_299 rfl ?_
          refine gt_gI (id := 657) (v := (hp_I S 657 o0)) dX10_run_300 fl_10_110 rfl rfl h0 hA123 (i_af (k := 657) h0 hA123) ?_
          refine tt_aload_n (j := 0) dX10_run_303 rfl ?_
          refine gt_gI (id := 656) (v := (hp_I S 656 o0)) dX10_run_304 fl_10_127 rfl rfl h0 hA123 (i_af (k := 656) h0 hA123) ?_
          refine tt_bipush (v := 64) dX10_run_307 rfl ?_
          have B133 : ∀ (y134 : Int64), TT xi M_X10_run 323 [(0, .ref o0), (1, .long y109), (3, .long y118), (5, .long y124)] [.long y134, .int (hp_I S 657 o0), .ref b101] S121 kc nc P := by
            intro y134 
            refine gt_lS dX10_run_323 ho103 hA123 (rg_in g657) hG122 (Or.inl (by decide)) (Or.inr (ow_mk 9990 (k := 666) h0 hr102)) (fun S135 hG136 hA137 e138 f139 er140 => ?_)
            exact B125 S135 hG136 hA137
          refine tt_icmp_ne (tgt := 317) dX10_run_309 rfl (fun q141 => ?_) (fun q141 => ?_)
          · skip
            refine tt_lload (j := 3) dX10_run_317 rfl ?_
            refine tt_ldc2 (v := 4294967295) dX10_run_319 kl_10_206 ?_
            refine tt_land dX10_run_322 (gt_tl (fun y142 => ?_))
            exact B133 y142
          · skip
            have h143 : Rg 64 64 (hp_I S 656 o0) := rg_eq_l (rg_all (hp_I S 656 o0)) (⟨by decide, by decide⟩ : Rg 64 64 64) q141
            refine tt_lload (j := 3) dX10_run_312 rfl ?_
            refine tt_goto (tgt := 323) dX10_run_314 rfl ?_
            exact B133 y124
    refine gt_ts [140, 151, 162, 174, 186, 198, 208, 219, 230, 243, 249, 262, 270] dX10_run_49 (by decide) (by decide) (fa_cons ?_ (fa_cons ?_ (fa_cons ?_ (fa_cons ?_ (fa_cons ?_ (fa_cons ?_ (fa_cons ?_ (fa_cons ?_ (fa_cons ?_ (fa_cons ?_ (fa_cons ?_ (fa_cons ?_ (fa_cons ?_ fa_nil)))))))))))))
    · skip
      refine tt_aload_n (j := 2) dX10_run_140 rfl ?_
      refine tt_lload_n (j := 3) dX10_run_141 rfl ?_
      refine tt_lload_n (j := 1) dX10_run_142 rfl ?_
      refine gt_VJ (As := [.long y109, .long y118]) dX10_run_143 ca_X10_345 ⟨by decide, by decide⟩ h0 hA rfl (Nat.le_of_ble_eq_true rfl) (Nat.le_of_ble_eq_true rfl) (by decide) (cs_X10_sum hG (oa_af h0 hA) (fun _ _ _ _ h => h)) rfl (fun _ h => nomatch h) (fun S144 y149 hx148 hG145 hB146 hA147 => ?_)
      refine tt_lstore (ks := [0, 1, 2, 3]) (L' := [(5, .long y149), (3, .long y118), (0, .ref o0), (1, .long y109)]) dX10_run_146 (by decide) rfl ?_
      refine tt_goto (tgt := 277) dX10_run_148 rfl ?_
      exact tt_loc (ks := [2, 3, 1, 0]) rfl (B120 S144 y149 hG145 hA147)
    · skip
      refine tt_aload_n (j := 2) dX10_run_151 rfl ?_
      refine tt_lload_n (j := 3) dX10_run_152 rfl ?_
      refine tt_lload_n (j := 1) dX10_run_153 rfl ?_
      refine gt_VJ (As := [.long y109, .long y118]) dX10_run_154 ca_X10_348 ⟨by decide, by decide⟩ h0 hA rfl (Nat.le_of_ble_eq_true rfl) (Nat.le_of_ble_eq_true rfl) (by decide) (cs_X10_difference hG (oa_af h0 hA) (fun _ _ _ _ h => h)) rfl (fun _ h => nomatch h) (fun S151 y156 hx155 hG152 hB153 hA154 => ?_)
      refine tt_lstore (ks := [0, 1, 2, 3]) (L' := [(5, .long y156), (3, .long y118), (0, .ref o0), (1, .long y109)]) dX10_run_157 (by decide) rfl ?_
      refine tt_goto (tgt := 277) dX10_run_159 rfl ?_
      exact tt_loc (ks := [2, 3, 1, 0]) rfl (B120 S151 y156 hG152 hA154)
    · skip
      refine tt_aload_n (j := 2) dX10_run_162 rfl ?_
      refine tt_lload_n (j := 3) dX10_run_163 rfl ?_
      refine tt_lload_n (j := 1) dX10_run_164 rfl ?_
      refine tt_lor dX10_run_165 (gt_tl (fun y158 => ?_))
      refine gt_VJ (As := [.long y158]) dX10_run_166 ca_X10_351 ⟨by decide, by decide⟩ h0 hA rfl (Nat.le_of_ble_eq_true rfl) (Nat.le_of_ble_eq_true rfl) (by decide) (cs_X10_bits hG (oa_af h0 hA) (fun _ _ _ _ h => h)) rfl (fun _ h => nomatch h) (fun S159 y164 hx163 hG160 hB161 hA162 => ?_)
      refine tt_lstore (ks := [0, 1, 2, 3]) (L' := [(5, .long y164), (3, .long y118), (0, .ref o0), (1, .long y109)]) dX10_run_169 (by decide) rfl ?_
      refine tt_goto (tgt := 277) dX10_run_171 rfl ?_
      exact tt_loc (ks := [2, 3, 1, 0]) rfl (B120 S159 y164 hG160 hA162)
    · skip
      refine tt_aload_n (j := 2) dX10_run_174 rfl ?_
      refine tt_lload_n (j := 3) dX10_run_175 rfl ?_
      refine tt_lload_n (j := 1) dX10_run_176 rfl ?_
      refine tt_land dX10_run_177 (gt_tl (fun y166 => ?_))
      refine gt_VJ (As := [.long y166]) dX10_run_178 ca_X10_351 ⟨by decide, by decide⟩ h0 hA rfl (Nat.le_of_ble_eq_true rfl) (Nat.le_of_ble_eq_true rfl) (by decide) (cs_X10_bits hG (oa_af h0 hA) (fun _ _ _ _ h => h)) rfl (fun _ h => nomatch h) (fun S167 y172 hx171 hG168 hB169 hA170 => ?_)
      refine tt_lstore (ks := [0, 1, 2, 3]) (L' := [(5, .long y172), (3, .long y118), (0, .ref o0), (1, .long y109)]) dX10_run_181 (by decide) rfl ?_
      refine tt_goto (tgt := 277) dX10_run_183 rfl ?_
      exact tt_loc (ks := [2, 3, 1, 0]) rfl (B120 S167 y172 hG168 hA170)
    · skip
      refine tt_aload_n (j := 2) dX10_run_186 rfl ?_
      refine tt_lload_n (j := 3) dX10_run_187 rfl ?_
      refine tt_lload_n (j := 1) dX10_run_188 rfl ?_
      refine tt_lxor dX10_run_189 (gt_tl (fun y174 => ?_))
      refine gt_VJ (As := [.long y174]) dX10_run_190 ca_X10_351 ⟨by decide, by decide⟩ h0 hA rfl (Nat.le_of_ble_eq_true rfl) (Nat.le_of_ble_eq_true rfl) (by decide) (cs_X10_bits hG (oa_af h0 hA) (fun _ _ _ _ h => h)) rfl (fun _ h => nomatch h) (fun S175 y180 hx179 hG176 hB177 hA178 => ?_)
      refine tt_lstore (ks := [0, 1, 2, 3]) (L' := [(5, .long y180), (3, .long y118), (0, .ref o0), (1, .long y109)]) dX10_run_193 (by decide) rfl ?_
      refine tt_goto (tgt := 277) dX10_run_195 rfl ?_
      exact tt_loc (ks := [2, 3, 1, 0]) rfl (B120 S175 y180 hG176 hA178)
    · skip
      refine tt_lload_n (j := 3) dX10_run_198 rfl ?_
      refine tt_ldc2 (v := (-1)) dX10_run_199 kl_10_204 ?_
      refine tt_lxor dX10_run_202 (gt_tl (fun y182 => ?_))
      refine tt_lstore (ks := [0, 1, 2, 3]) (L' := [(5, .long y182), (3, .long y118), (0, .ref o0), (1, .long y109)]) dX10_run_203 (by decide) rfl ?_
      refine tt_goto (tgt := 277) dX10_run_205 rfl ?_
      exact tt_loc (ks := [2, 3, 1, 0]) rfl (B120 S y182 hG hA)
    · skip
      refine tt_aload_n (j := 2) dX10_run_208 rfl ?_
      refine tt_lconst (v := 0) dX10_run_209 rfl ?_
      refine tt_lload_n (j := 3) dX10_run_210 rfl ?_
      refine gt_VJ (As := [.long 0, .long y109]) dX10_run_211 ca_X10_348 ⟨by decide, by decide⟩ h0 hA rfl (Nat.le_of_ble_eq_true rfl) (Nat.le_of_ble_eq_true rfl) (by decide) (cs_X10_difference hG (oa_af h0 hA) (fun _ _ _ _ h => h)) rfl (fun _ h => nomatch h) (fun S183 y188 hx187 hG184 hB185 hA186 => ?_)
      refine tt_lstore (ks := [0, 1, 2, 3]) (L' := [(5, .long y188), (3, .long y118), (0, .ref o0), (1, .long y109)]) dX10_run_214 (by decide) rfl ?_
      refine tt_goto (tgt := 277) dX10_run_216 rfl ?_
      exact tt_loc (ks := [2, 3, 1, 0]) rfl (B120 S183 y188 hG184 hA186)
    · skip
      refine tt_aload_n (j := 2) dX10_run_219 rfl ?_
      refine tt_lload_n (j := 3) dX10_run_220 rfl ?_
      refine tt_lconst (v := 1) dX10_run_221 rfl ?_
      refine gt_VJ (As := [.long y109, .long 1]) dX10_run_222 ca_X10_354 ⟨by decide, by decide⟩ h0 hA rfl (Nat.le_of_ble_eq_true rfl) (Nat.le_of_ble_eq_true rfl) (by decide) (cs_X10_count hG (oa_af h0 hA) (fun _ _ _ _ h => h)) rfl (fun _ h => nomatch h) (fun S190 y195 hx194 hG191 hB192 hA193 => ?_)
      refine tt_lstore (ks := [0, 1, 2, 3]) (L' := [(5, .long y195), (3, .long y118), (0, .ref o0), (1, .long y109)]) dX10_run_225 (by decide) rfl ?_
      refine tt_goto (tgt := 277) dX10_run_227 rfl ?_
      exact tt_loc (ks := [2, 3, 1, 0]) rfl (B120 S190 y195 hG191 hA193)
    · skip
      refine tt_aload_n (j := 2) dX10_run_230 rfl ?_
      refine tt_lload_n (j := 3) dX10_run_231 rfl ?_
      refine tt_ldc2 (v := (-1)) dX10_run_232 kl_10_204 ?_
      refine gt_VJ (As := [.long y109, .long (-1)]) dX10_run_235 ca_X10_354 ⟨by decide, by decide⟩ h0 hA rfl (Nat.le_of_ble_eq_true rfl) (Nat.le_of_ble_eq_true rfl) (by decide) (cs_X10_count hG (oa_af h0 hA) (fun _ _ _ _ h => h)) rfl (fun _ h => nomatch h) (fun S197 y202 hx201 hG198 hB199 hA200 => ?_)
      refine tt_lstore (ks := [0, 1, 2, 3]) (L' := [(5, .long y202), (3, .long y118), (0, .ref o0), (1, .long y109)]) dX10_run_238 (by decide) rfl ?_
      refine tt_goto (tgt := 277) dX10_run_240 rfl ?_
      exact tt_loc (ks := [2, 3, 1, 0]) rfl (B120 S197 y202 hG198 hA200)
    · skip
      refine tt_lload_n (j := 1) dX10_run_243 rfl ?_
      refine tt_lstore (ks := [0, 1, 2, 3]) (L' := [(5, .long y118), (3, .long y118), (0, .ref o0), (1, .long y109)]) dX10_run_244 (by decide) rfl ?_
      refine tt_goto (tgt := 277) dX10_run_246 rfl ?_
      exact tt_loc (ks := [2, 3, 1, 0]) rfl (B120 S y118 hG hA)
    · skip
      refine tt_aload_n (j := 2) dX10_run_249 rfl ?_
      refine tt_iconst (v := 1) dX10_run_250 rfl ?_
      refine gt_pI (id := 667) (x := 1) dX10_run_251 fl_10_316 rfl rfl h0 hA rfl rfl rfl (gp_Ir hG (⟨by decide, by decide⟩ : Rg 1 1 1)) (by decide) (fun h => absurd h (by decide)) (fun h => absurd h (by decide)) (fun S204 hG205 hA206 e207 f208 er209 => ?_)
      refine tt_lload_n (j := 3) dX10_run_254 rfl ?_
      refine tt_lload_n (j := 1) dX10_run_255 rfl ?_
      refine tt_lmul dX10_run_256 (gt_tl (fun y210 => ?_))
      refine tt_lstore (ks := [0, 1, 2, 3]) (L' := [(5, .long y210), (3, .long y118), (0, .ref o0), (1, .long y109)]) dX10_run_257 (by decide) rfl ?_
      refine tt_goto (tgt := 277) dX10_run_259 rfl ?_
      exact tt_loc (ks := [2, 3, 1, 0]) rfl (B120 S204 y210 hG205 hA206)
    · skip
      refine tt_lload_n (j := 1) dX10_run_262 rfl ?_
      refine tt_l2i dX10_run_263 (gt_ti (fun x211 => ?_))
      refine tt_i2l dX10_run_264 ?_
      refine tt_lstore (ks := [0, 1, 2, 3]) (L' := [(5, .long (x211 : Int32).toInt64), (3, .long y118), (0, .ref o0), (1, .long y109)]) dX10_run_265 (by decide) rfl ?_
      refine tt_goto (tgt := 277) dX10_run_267 rfl ?_
      exact tt_loc (ks := [2, 3, 1, 0]) rfl (B120 S (x211 : Int32).toInt64 hG hA)
    · skip
      refine tt_aload_n (j := 2) dX10_run_270 rfl ?_
      refine tt_lload_n (j := 3) dX10_run_271 rfl ?_
      refine gt_VJ (As := [.long y109]) dX10_run_272 ca_X10_357 ⟨by decide, by decide⟩ h0 hA rfl (Nat.le_of_ble_eq_true rfl) (Nat.le_of_ble_eq_true rfl) (by decide) (cs_X10_shifted hG (oa_af h0 hA) (fun _ _ _ _ h => h)) rfl (fun _ h => nomatch h) (fun S212 y217 hx216 hG213 hB214 hA215 => ?_)
      refine tt_lstore (ks := [0, 1, 2, 3]) (L' := [(5, .long y217), (3, .long y118), (0, .ref o0), (1, .long y109)]) dX10_run_275 (by decide) rfl ?_
      exact tt_loc (ks := [2, 3, 1, 0]) rfl (B120 S212 y217 hG213 hA215)
  refine tt_if_lt (tgt := 34) dX10_run_19 rfl (fun q219 => ?_) (fun q219 => ?_)
  · skip
    have h220 : Rg (-1) (-1) (hp_I S 658 o0) := rg_lt_l g658 (⟨by decide, by decide⟩ : Rg 0 0 0) q219
    refine tt_aload_n (j := 1) dX10_run_34 rfl ?_
    refine gt_gJ (id := 660) (v := (hp_J S 660 o0)) dX10_run_35 fl_10_116 rfl rfl h0 hA rfl ?_
    exact tt_loc (ks := [1, 0]) rfl (B111 (hp_J S 660 o0))
  · skip
    have h221 : Rg 0 23 (hp_I S 658 o0) := rg_le_r (⟨by decide, by decide⟩ : Rg 0 0 0) g658 (nlt_le q219)
    refine tt_aload_n (j := 1) dX10_run_22 rfl ?_
    refine gt_gR (id := 666) dX10_run_23 fl_10_52 rfl rfl h0 hA hr102 ?_
    refine tt_aload_n (j := 1) dX10_run_26 rfl ?_
    refine tt_getI (id := 658) dX10_run_27 fl_10_113 rfl rfl (ob_af h0 hA) ?_
    refine gt_lLt dX10_run_30 ho103 hA (rg_in h221) ?_
    refine tt_goto (tgt := 38) dX10_run_31 rfl ?_
    exact tt_loc (ks := [1, 0]) rfl (B111 (hp_j S b101 ((hp_I S 658 o0) : Int32).toNatClampNeg))
set_option maxHeartbeats 4000000 in
theorem cs_X10_holds {xi : SX} {S : Hp} {E : List Nat} {kc nc : Nat} {P : Po} {o0 : Nat} {x1 : Int32} (hG : GI S E) (h0 : Oa S E 10 0 o0) (hP : ∀ r T x y, PV E [] S kc nc (rI 0 1) (fun _ T => T = S) [] r T x y → P r T x y) : TT xi M_X10_holds 0 [(0, .ref o0), (1, .int x1)] [] S kc nc P := by
  have hA : Af E [] S S := af_rf
  refine tt_iload_n (j := 1) dX10_holds_0 rfl ?_
  refine tt_iconst (v := 2) dX10_holds_1 rfl ?_
  refine tt_idiv dX10_holds_2 (by decide) (gt_ti (fun x101 => ?_))
  have B102 : ∀ (x103 : Int32), Rg 0 1 x103 → TT xi M_X10_holds 143 [(0, .ref o0), (1, .int x1), (2, .int x103)] [] S kc nc P := by
    intro x103 h104
    refine tt_iload_n (j := 2) dX10_holds_143 rfl ?_
    refine tt_iload_n (j := 1) dX10_holds_144 rfl ?_
    refine tt_iconst (v := 2) dX10_holds_145 rfl ?_
    refine tt_irem dX10_holds_146 (by decide) (gt_ti (fun x105 => ?_))
    have B106 : ∀ (x107 : Int32), Rg 0 1 x107 → TT xi M_X10_holds 155 [(0, .ref o0), (1, .int x1), (2, .int x103)] [.int x107, .int x103] S kc nc P := by
      intro x107 h108
      have B109 : ∀ (x110 : Int32), Rg 0 1 x110 → TT xi M_X10_holds 163 [(0, .ref o0), (1, .int x1), (2, .int x103)] [.int x110] S kc nc P := by
        intro x110 h111
        exact tt_ireturn dX10_holds_163 .boolean rfl (rg_nar (rg_w h111)) (hP _ _ _ _ ⟨hG, hA, Or.inl ⟨_, rfl, ⟨_, rfl, rg_w h111⟩, rfl, rfl, rfl⟩⟩)
      refine tt_icmp_ne (tgt := 162) dX10_holds_155 rfl (fun q112 => ?_) (fun q112 => ?_)
      · skip
        refine tt_iconst (v := 0) dX10_holds_162 rfl ?_
        exact B109 0 (rg_w (⟨by decide, by decide⟩ : Rg 0 0 0))
      · skip
        refine tt_iconst (v := 1) dX10_holds_158 rfl ?_
        refine tt_goto (tgt := 163) dX10_holds_159 rfl ?_
        exact B109 1 (rg_w (⟨by decide, by decide⟩ : Rg 1 1 1))
    refine tt_if_ne (tgt := 154) dX10_holds_147 rfl (fun q113 => ?_) (fun q113 => ?_)
    · skip
      refine tt_iconst (v := 0) dX10_holds_154 rfl ?_
      exact B106 0 (rg_w (⟨by decide, by decide⟩ : Rg 0 0 0))
    · skip
      have h114 : Rg 0 0 x105 := rg_eq_l (rg_all x105) (⟨by decide, by decide⟩ : Rg 0 0 0) q113
      refine tt_iconst (v := 1) dX10_holds_150 rfl ?_
      refine tt_goto (tgt := 155) dX10_holds_151 rfl ?_
      exact B106 1 (rg_w (⟨by decide, by decide⟩ : Rg 1 1 1))
  refine gt_ts [44, 52, 60, 68, 91, 99, 119] dX10_holds_3 (by decide) (by decide) (fa_cons ?_ (fa_cons ?_ (fa_cons ?_ (fa_cons ?_ (fa_cons ?_ (fa_cons ?_ (fa_cons ?_ fa_nil)))))))
  · skip
    refine tt_aload_n (j := 0) dX10_holds_44 rfl ?_
    refine tt_getI (id := 671) dX10_holds_45 fl_10_328 rfl rfl (ob_af h0 hA) ?_
    refine tt_istore_n (ks := [0, 1, 2]) (L' := [(2, .int (hp_I S 671 o0)), (0, .ref o0), (1, .int x1)]) dX10_holds_48 (by decide) rfl ?_
    refine tt_goto (tgt := 143) dX10_holds_49 rfl ?_
    exact tt_loc (ks := [1, 2, 0]) rfl (B102 (hp_I S 671 o0) (gi_I (k := 671) hG (oa_af h0 hA) 0 1))
  · skip
    refine tt_aload_n (j := 0) dX10_holds_52 rfl ?_
    refine tt_getI (id := 670) dX10_holds_53 fl_10_325 rfl rfl (ob_af h0 hA) ?_
    refine tt_istore_n (ks := [0, 1, 2]) (L' := [(2, .int (hp_I S 670 o0)), (0, .ref o0), (1, .int x1)]) dX10_holds_56 (by decide) rfl ?_
    refine tt_goto (tgt := 143) dX10_holds_57 rfl ?_
    exact tt_loc (ks := [1, 2, 0]) rfl (B102 (hp_I S 670 o0) (gi_I (k := 670) hG (oa_af h0 hA) 0 1))
  · skip
    refine tt_aload_n (j := 0) dX10_holds_60 rfl ?_
    refine tt_getI (id := 668) dX10_holds_61 fl_10_319 rfl rfl (ob_af h0 hA) ?_
    refine tt_istore_n (ks := [0, 1, 2]) (L' := [(2, .int (hp_I S 668 o0)), (0, .ref o0), (1, .int x1)]) dX10_holds_64 (by decide) rfl ?_
    refine tt_goto (tgt := 143) dX10_holds_65 rfl ?_
    exact tt_loc (ks := [1, 2, 0]) rfl (B102 (hp_I S 668 o0) (gi_I (k := 668) hG (oa_af h0 hA) 0 1))
  · skip
    refine tt_aload_n (j := 0) dX10_holds_68 rfl ?_
    refine tt_getI (id := 670) dX10_holds_69 fl_10_325 rfl rfl (ob_af h0 hA) ?_
    have B115 : ∀ (x116 : Int32), Rg 0 1 x116 → TT xi M_X10_holds 87 [(0, .ref o0), (1, .int x1)] [.int x116] S kc nc P := by
      intro x116 h117
      refine tt_istore_n (ks := [0, 1, 2]) (L' := [(2, .int x116), (0, .ref o0), (1, .int x1)]) dX10_holds_87 (by decide) rfl ?_
      refine tt_goto (tgt := 143) dX10_holds_88 rfl ?_
      exact tt_loc (ks := [1, 2, 0]) rfl (B102 x116 h117)
    have B118 : TT xi M_X10_holds 82 [(0, .ref o0), (1, .int x1)] [] S kc nc P := by
      refine tt_iconst (v := 1) dX10_holds_82 rfl ?_
      refine tt_goto (tgt := 87) dX10_holds_83 rfl ?_
      exact B115 1 (rg_w (⟨by decide, by decide⟩ : Rg 1 1 1))
    refine tt_if_ne (tgt := 82) dX10_holds_72 rfl (fun q119 => ?_) (fun q119 => ?_)
    · skip
      have h120 : Rg 1 1 (hp_I S 670 o0) := rg_ne_lo (gi_I (k := 670) hG (oa_af h0 hA) 0 1) (⟨by decide, by decide⟩ : Rg 0 0 0) q119
      exact B118 
    · skip
      have h121 : Rg 0 0 (hp_I S 670 o0) := rg_eq_l (gi_I (k := 670) hG (oa_af h0 hA) 0 1) (⟨by decide, by decide⟩ : Rg 0 0 0) q119
      refine tt_aload_n (j := 0) dX10_holds_75 rfl ?_
      refine tt_getI (id := 668) dX10_holds_76 fl_10_319 rfl rfl (ob_af h0 hA) ?_
      refine tt_if_eq (tgt := 86) dX10_holds_79 rfl (fun q122 => ?_) (fun q122 => ?_)
      · skip
        have h123 : Rg 0 0 (hp_I S 668 o0) := rg_eq_l (gi_I (k := 668) hG (oa_af h0 hA) 0 1) (⟨by decide, by decide⟩ : Rg 0 0 0) q122
        refine tt_iconst (v := 0) dX10_holds_86 rfl ?_
        exact B115 0 (rg_w (⟨by decide, by decide⟩ : Rg 0 0 0))
      · skip
        have h124 : Rg 1 1 (hp_I S 668 o0) := rg_ne_lo (gi_I (k := 668) hG (oa_af h0 hA) 0 1) (⟨by decide, by decide⟩ : Rg 0 0 0) q122
        exact B118 
  · skip
    refine tt_aload_n (j := 0) dX10_holds_91 rfl ?_
    refine tt_getI (id := 669) dX10_holds_92 fl_10_322 rfl rfl (ob_af h0 hA) ?_
    refine tt_istore_n (ks := [0, 1, 2]) (L' := [(2, .int (hp_I S 669 o0)), (0, .ref o0), (1, .int x1)]) dX10_holds_95 (by decide) rfl ?_
    refine tt_goto (tgt := 143) dX10_holds_96 rfl ?_
    exact tt_loc (ks := [1, 2, 0]) rfl (B102 (hp_I S 669 o0) (gi_I (k := 669) hG (oa_af h0 hA) 0 1))
  · skip
    refine tt_aload_n (j := 0) dX10_holds_99 rfl ?_
    refine tt_getI (id := 669) dX10_holds_100 fl_10_322 rfl rfl (ob_af h0 hA) ?_
    refine tt_aload_n (j := 0) dX10_holds_103 rfl ?_
    refine tt_getI (id := 671) dX10_holds_104 fl_10_328 rfl rfl (ob_af h0 hA) ?_
    have B125 : ∀ (x126 : Int32), Rg 0 1 x126 → TT xi M_X10_holds 115 [(0, .ref o0), (1, .int x1)] [.int x126] S kc nc P := by
      intro x126 h127
      refine tt_istore_n (ks := [0, 1, 2]) (L' := [(2, .int x126), (0, .ref o0), (1, .int x1)]) dX10_holds_115 (by decide) rfl ?_
      refine tt_goto (tgt := 143) dX10_holds_116 rfl ?_
      exact tt_loc (ks := [1, 2, 0]) rfl (B102 x126 h127)
    refine tt_icmp_eq (tgt := 114) dX10_holds_107 rfl (fun q128 => ?_) (fun q128 => ?_)
    · skip
      refine tt_iconst (v := 0) dX10_holds_114 rfl ?_
      exact B125 0 (rg_w (⟨by decide, by decide⟩ : Rg 0 0 0))
    · skip
      refine tt_iconst (v := 1) dX10_holds_110 rfl ?_
      refine tt_goto (tgt := 115) dX10_holds_111 rfl ?_
      exact B125 1 (rg_w (⟨by decide, by decide⟩ : Rg 1 1 1))
  · skip
    refine tt_aload_n (j := 0) dX10_holds_119 rfl ?_
    refine tt_getI (id := 668) dX10_holds_120 fl_10_319 rfl rfl (ob_af h0 hA) ?_
    have B129 : ∀ (x130 : Int32), Rg 0 1 x130 → TT xi M_X10_holds 142 [(0, .ref o0), (1, .int x1)] [.int x130] S kc nc P := by
      intro x130 h131
      refine tt_istore_n (ks := [0, 1, 2]) (L' := [(2, .int x130), (0, .ref o0), (1, .int x1)]) dX10_holds_142 (by decide) rfl ?_
      exact tt_loc (ks := [1, 2, 0]) rfl (B102 x130 h131)
    have B132 : TT xi M_X10_holds 137 [(0, .ref o0), (1, .int x1)] [] S kc nc P := by
      refine tt_iconst (v := 1) dX10_holds_137 rfl ?_
      refine tt_goto (tgt := 142) dX10_holds_138 rfl ?_
      exact B129 1 (rg_w (⟨by decide, by decide⟩ : Rg 1 1 1))
    refine tt_if_ne (tgt := 137) dX10_holds_123 rfl (fun q133 => ?_) (fun q133 => ?_)
    · skip
      have h134 : Rg 1 1 (hp_I S 668 o0) := rg_ne_lo (gi_I (k := 668) hG (oa_af h0 hA) 0 1) (⟨by decide, by decide⟩ : Rg 0 0 0) q133
      exact B132 
    · skip
      have h135 : Rg 0 0 (hp_I S 668 o0) := rg_eq_l (gi_I (k := 668) hG (oa_af h0 hA) 0 1) (⟨by decide, by decide⟩ : Rg 0 0 0) q133
      refine tt_aload_n (j := 0) dX10_holds_126 rfl ?_
      refine tt_getI (id := 669) dX10_holds_127 fl_10_322 rfl rfl (ob_af h0 hA) ?_
      refine tt_aload_n (j := 0) dX10_holds_130 rfl ?_
      refine tt_getI (id := 671) dX10_holds_131 fl_10_328 rfl rfl (ob_af h0 hA) ?_
      refine tt_icmp_eq (tgt := 141) dX10_holds_134 rfl (fun q136 => ?_) (fun q136 => ?_)
      · skip
        refine tt_iconst (v := 0) dX10_holds_141 rfl ?_
        exact B129 0 (rg_w (⟨by decide, by decide⟩ : Rg 0 0 0))
      · skip
        exact B132 
set_option maxHeartbeats 4000000 in
theorem cs_X10_at {xi : SX} {S : Hp} {E : List Nat} {kc nc : Nat} {P : Po} {o0 : Nat} (hG : GI S E) (h0 : Oa S E 10 0 o0) (hP : ∀ r T x y, PV E [640] S kc nc (rI (-2147483648) 2147483647) ex0 [] r T x y → P r T x y) : TT xi M_X10_at 0 [(0, .ref o0)] [] S kc nc P := by
  have hA : Af E [640] S S := af_rf
  refine tt_aload_n (j := 0) dX10_at_0 rfl ?_
  refine tt_iconst (v := 0) dX10_at_1 rfl ?_
  refine gt_pI (id := 640) (x := 0) dX10_at_2 fl_10_55 rfl rfl h0 hA rfl rfl rfl (gp_I hG) (by decide) (fun h => absurd h (by decide)) (fun h => absurd h (by decide)) (fun S101 hG102 hA103 e104 f105 er106 => ?_)
  refine tt_aload_n (j := 0) dX10_at_5 rfl ?_
  refine gt_gI (id := 664) (v := (hp_I S 664 o0)) dX10_at_6 fl_10_45 rfl rfl h0 hA103 (i_af (k := 664) h0 hA103) ?_
  exact tt_ireturn dX10_at_9 .int rfl rfl (hP _ _ _ _ ⟨hG102, hA103, Or.inl ⟨_, rfl, ⟨_, rfl, rg_w (gi_I (k := 664) hG (oa_af h0 hA) (-2) 199)⟩, trivial, rfl, rfl⟩⟩)
set_option maxHeartbeats 4000000 in
theorem cs_X10_value {xi : SX} {S : Hp} {E : List Nat} {kc nc : Nat} {P : Po} {o0 : Nat} {x1 : Int32} (hG : GI S E) (h0 : Oa S E 10 0 o0) (hP : ∀ r T x y, PV E [640] S kc nc rJ ex0 [] r T x y → P r T x y) : TT xi M_X10_value 0 [(0, .ref o0), (1, .int x1)] [] S kc nc P := by
  have hA : Af E [640] S S := af_rf
  refine tt_aload_n (j := 0) dX10_value_0 rfl ?_
  refine tt_iload_n (j := 1) dX10_value_1 rfl ?_
  refine gt_SIp (As := [.int x1]) dX10_value_2 ca_X10_310 ⟨by decide, by decide⟩ hA (Nat.le_of_ble_eq_true rfl) (Nat.le_of_ble_eq_true rfl) (by decide) (cs_X10_isPlace hG  (fun _ _ _ _ h => h)) rfl (fun _ h => nomatch h) (fun _ _ q => q.1) (fun x106 h107 hx105 => ?_)
  refine tt_if_eq (tgt := 12) dX10_value_5 rfl (fun q108 => ?_) (fun q108 => ?_)
  · skip
    have h109 : Rg 0 0 x106 := rg_eq_l h107 (⟨by decide, by decide⟩ : Rg 0 0 0) q108
    refine tt_iconst (v := 1) dX10_value_12 rfl ?_
    refine gt_VI (As := [.int 1]) dX10_value_13 ca_X10_74 ⟨by decide, by decide⟩ h0 hA rfl (Nat.le_of_ble_eq_true rfl) (Nat.le_of_ble_eq_true rfl) (by decide) (cs_X10_refused hG (oa_af h0 hA) (fun _ _ _ _ h => h)) rfl (fun _ h => nomatch h) (fun S110 x115 h116 hx114 hG111 hB112 hA113 => ?_)
    obtain rfl := (hx114.1 _ rfl).trans (show bI (0 < (1 : Int32)) = 1 by decide)
    refine tt_if_eq (tgt := 21) dX10_value_16 rfl (fun q => absurd q (by decide)) (fun _ => ?_)
    refine tt_lconst (v := 0) dX10_value_19 rfl ?_
    exact tt_lreturn dX10_value_20 rfl (hP _ _ _ _ ⟨hG111, hA113, Or.inl ⟨_, rfl, ⟨_, rfl⟩, trivial, rfl, rfl⟩⟩)
  · skip
    have h117 : Rg 1 1 x106 := rg_ne_lo h107 (⟨by decide, by decide⟩ : Rg 0 0 0) q108
    have h118 : Rg 0 23 x1 := (((hx105.2) _ rfl).1 q108)
    refine tt_iconst (v := 0) dX10_value_8 rfl ?_
    refine tt_goto (tgt := 13) dX10_value_9 rfl ?_
    refine gt_VI (As := [.int 0]) dX10_value_13 ca_X10_74 ⟨by decide, by decide⟩ h0 hA rfl (Nat.le_of_ble_eq_true rfl) (Nat.le_of_ble_eq_true rfl) (by decide) (cs_X10_refused hG (oa_af h0 hA) (fun _ _ _ _ h => h)) rfl (fun _ h => nomatch h) (fun S119 x124 h125 hx123 hG120 hB121 hA122 => ?_)
    obtain rfl := (hx123.1 _ rfl).trans (show bI (0 < (0 : Int32)) = 0 by decide)
    refine tt_if_eq (tgt := 21) dX10_value_16 rfl (fun _ => ?_) (fun q => absurd q (by decide))
    refine tt_aload_n (j := 0) dX10_value_21 rfl ?_
    refine gt_gI (id := 663) (v := (hp_I S 663 o0)) dX10_value_22 fl_10_62 rfl rfl h0 hA122 (i_af (k := 663) h0 hA122) ?_
    refine tt_if_eq (tgt := 37) dX10_value_25 rfl (fun q126 => ?_) (fun q126 => ?_)
    · skip
      have h127 : Rg 0 0 (hp_I S 663 o0) := rg_eq_l (gi_I (k := 663) hG (oa_af h0 hA) 0 1) (⟨by decide, by decide⟩ : Rg 0 0 0) q126
      refine tt_lconst (v := 0) dX10_value_37 rfl ?_
      exact tt_lreturn dX10_value_38 rfl (hP _ _ _ _ ⟨hG120, hA122, Or.inl ⟨_, rfl, ⟨_, rfl⟩, trivial, rfl, rfl⟩⟩)
    · skip
      have h128 : Rg 1 1 (hp_I S 663 o0) := rg_ne_lo (gi_I (k := 663) hG (oa_af h0 hA) 0 1) (⟨by decide, by decide⟩ : Rg 0 0 0) q126
      refine tt_aload_n (j := 0) dX10_value_28 rfl ?_
      obtain ⟨b129, hr130, ho131⟩ := gi_R (k := 666) hG h0 33 24
      refine gt_gR (id := 666) dX10_value_29 fl_10_52 rfl rfl h0 hA122 hr130 ?_
      refine tt_iload_n (j := 1) dX10_value_32 rfl ?_
      refine gt_lLt dX10_value_33 ho131 hA122 (rg_in h118) ?_
      refine tt_goto (tgt := 38) dX10_value_34 rfl ?_
      exact tt_lreturn dX10_value_38 rfl (hP _ _ _ _ ⟨hG120, hA122, Or.inl ⟨_, rfl, ⟨_, rfl⟩, trivial, rfl, rfl⟩⟩)
set_option maxHeartbeats 4000000 in
theorem cs_X10_readTwo {xi : SX} {S : Hp} {E : List Nat} {kc nc : Nat} {P : Po} {o0 : Nat} {x1 : Int32} {x2 : Int32} (hG : GI S E) (h0 : Oa S E 10 0 o0) (g655 : Rg 19 22 (hp_I S 655 o0)) (g658 : Rg (-1) (-1) (hp_I S 658 o0)) (hP : ∀ r T x y, PV E [654, 655, 657, 658, 659, 662, 672, 673, 674, 675] S kc nc rV (fun v T => (hp_I T 662 o0 = 0 → (Rg 19 22 (hp_I T 655 o0) ∨ Rg 0 23 (hp_I T 657 o0)) ∧ Rg (-1) 23 (hp_I T 658 o0))) [] r T x y → P r T x y) : TT xi M_X10_readTwo 0 [(0, .ref o0), (1, .int x1), (2, .int x2)] [] S kc nc P := by
  have hA : Af E [654, 655, 657, 658, 659, 662, 672, 673, 674, 675] S S := af_rf
  refine tt_iload_n (j := 1) dX10_readTwo_0 rfl ?_
  refine tt_sipush (v := 175) dX10_readTwo_1 rfl ?_
  refine tt_icmp_ne (tgt := 29) dX10_readTwo_4 rfl (fun q101 => ?_) (fun q101 => ?_)
  · skip
    refine tt_aload_n (j := 0) dX10_readTwo_29 rfl ?_
    refine tt_iload_n (j := 1) dX10_readTwo_30 rfl ?_
    refine tt_sipush (v := 128) dX10_readTwo_31 rfl ?_
    refine tt_isub dX10_readTwo_34 ?_
    refine tt_iconst (v := 4) dX10_readTwo_35 rfl ?_
    refine gt_Vv (As := [.int (x1 - 128), .int 4]) dX10_readTwo_36 ca_X10_150 ⟨by decide, by decide⟩ h0 hA rfl (Nat.le_of_ble_eq_true rfl) (Nat.le_of_ble_eq_true rfl) (by decide) (cs_X10_readIf hG (oa_af h0 hA) (rg_w g655) (rg_w g658) (fun _ _ _ _ h => h)) rfl (fun _ h => nomatch h) (fun S102 hx106 hG103 hB104 hA105 => ?_)
    exact tt_vreturn dX10_readTwo_39 rfl (hP _ _ _ _ ⟨hG103, hA105, Or.inl ⟨_, rfl, rfl, hx106, rfl, rfl⟩⟩)
  · skip
    have h107 : Rg 175 175 x1 := rg_eq_l (rg_all x1) (⟨by decide, by decide⟩ : Rg 175 175 175) q101
    refine tt_aload_n (j := 0) dX10_readTwo_7 rfl ?_
    refine tt_iload_n (j := 2) dX10_readTwo_8 rfl ?_
    refine gt_Vv (As := [.int x2]) dX10_readTwo_9 ca_X10_137 ⟨by decide, by decide⟩ h0 hA rfl (Nat.le_of_ble_eq_true rfl) (Nat.le_of_ble_eq_true rfl) (by decide) (cs_X10_readPlaces hG (oa_af h0 hA) (fun _ _ _ _ h => h)) rfl (fun _ h => nomatch h) (fun S108 hx112 hG109 hB110 hA111 => ?_)
    refine tt_aload_n (j := 0) dX10_readTwo_12 rfl ?_
    refine tt_bipush (v := 17) dX10_readTwo_13 rfl ?_
    refine tt_aload_n (j := 0) dX10_readTwo_15 rfl ?_
    refine tt_getI (id := 672) dX10_readTwo_16 fl_10_97 rfl rfl (ob_af h0 hA111) ?_
    refine tt_aload_n (j := 0) dX10_readTwo_19 rfl ?_
    refine tt_getI (id := 673) dX10_readTwo_20 fl_10_100 rfl rfl (ob_af h0 hA111) ?_
    refine gt_Vv (As := [.int 17, .int (hp_I S108 672 o0), .int (hp_I S108 673 o0)]) dX10_readTwo_23 ca_X10_123 ⟨by decide, by decide⟩ h0 hA111 rfl (Nat.le_of_ble_eq_true rfl) (Nat.le_of_ble_eq_true rfl) (by decide) (cs_X10_take hG109 (oa_af h0 hA111) (fun _ _ _ _ h => h)) rfl (fun _ h => nomatch h) (fun S113 hx117 hG114 hB115 hA116 => ?_)
    refine tt_goto (tgt := 39) dX10_readTwo_26 rfl ?_
    exact tt_vreturn dX10_readTwo_39 rfl (hP _ _ _ _ ⟨hG114, hA116, Or.inl ⟨_, rfl, rfl, (fun q => ⟨(Or.inr (rg_cast hx117.2.1 (rg_w (gi_I (k := 672) hG109 (oa_af h0 hA111) 0 15)))), (rg_cast hx117.2.2 (rg_w (hx112 (mo_af (oa_af h0 hA111) hB115 q))))⟩), rfl, rfl⟩⟩)
set_option maxHeartbeats 4000000 in
theorem cs_X10_work {xi : SX} {S : Hp} {E : List Nat} {kc nc : Nat} {P : Po} {o0 : Nat} (hG : GI S E) (h0 : Oa S E 10 0 o0) (hP : ∀ r T x y, PV E [9989] S kc nc rV ex0 [] r T x y → P r T x y) : TT xi M_X10_work 0 [(0, .ref o0)] [] S kc nc P := by
  have hA : Af E [9989] S S := af_rf
  refine tt_aload_n (j := 0) dX10_work_0 rfl ?_
  refine tt_getI (id := 655) dX10_work_1 fl_10_107 rfl rfl (ob_af h0 hA) ?_
  have B101 : ∀ (S102 : Hp), GI S102 E → Af E [9989] S S102 → TT xi M_X10_work 243 [(0, .ref o0)] [] S102 kc nc P := by
    intro S102 hG103 hA104
    exact tt_vreturn dX10_work_243 rfl (hP _ _ _ _ ⟨hG103, hA104, Or.inl ⟨_, rfl, rfl, trivial, rfl, rfl⟩⟩)
  refine gt_ts [96, 112, 128, 158, 174, 200, 213, 226, 239] dX10_work_4 (by decide) (by decide) (fa_cons ?_ (fa_cons ?_ (fa_cons ?_ (fa_cons ?_ (fa_cons ?_ (fa_cons ?_ (fa_cons ?_ (fa_cons ?_ (fa_cons ?_ fa_nil)))))))))
  · skip
    refine tt_aload_n (j := 0) dX10_work_96 rfl ?_
    refine tt_sipush (v := 4850) dX10_work_97 rfl ?_
    refine tt_sipush (v := 4848) dX10_work_100 rfl ?_
    refine tt_sipush (v := 4849) dX10_work_103 rfl ?_
    refine gt_Vv (As := [.int 4850, .int 4848, .int 4849]) dX10_work_106 ca_X10_186 ⟨by decide, by decide⟩ h0 hA rfl (Nat.le_of_ble_eq_true rfl) (Nat.le_of_ble_eq_true rfl) (by decide) (cs_X10_add hG (oa_af h0 hA) (rg_w (⟨by decide, by decide⟩ : Rg 4850 4850 4850)) (rg_w (⟨by decide, by decide⟩ : Rg 4848 4848 4848)) (rg_w (⟨by decide, by decide⟩ : Rg 4849 4849 4849)) (fun _ _ _ _ h => h)) rfl (fun _ h => nomatch h) (fun S105 hx109 hG106 hB107 hA108 => ?_)
    refine tt_goto (tgt := 243) dX10_work_109 rfl ?_
    exact B101 S105 hG106 hA108
  · skip
    refine tt_aload_n (j := 0) dX10_work_112 rfl ?_
    refine tt_sipush (v := 4850) dX10_work_113 rfl ?_
    refine tt_sipush (v := 4848) dX10_work_116 rfl ?_
    refine tt_sipush (v := 4849) dX10_work_119 rfl ?_
    refine gt_Vv (As := [.int 4850, .int 4848, .int 4849]) dX10_work_122 ca_X10_231 ⟨by decide, by decide⟩ h0 hA rfl (Nat.le_of_ble_eq_true rfl) (Nat.le_of_ble_eq_true rfl) (by decide) (cs_X10_subtract hG (oa_af h0 hA) (rg_w (⟨by decide, by decide⟩ : Rg 4850 4850 4850)) (rg_w (⟨by decide, by decide⟩ : Rg 4848 4848 4848)) (rg_w (⟨by decide, by decide⟩ : Rg 4849 4849 4849)) (fun _ _ _ _ h => h)) rfl (fun _ h => nomatch h) (fun S110 hx114 hG111 hB112 hA113 => ?_)
    refine tt_goto (tgt := 243) dX10_work_125 rfl ?_
    exact B101 S110 hG111 hA113
  · skip
    refine tt_aload_n (j := 0) dX10_work_128 rfl ?_
    refine tt_sipush (v := 4850) dX10_work_129 rfl ?_
    refine tt_sipush (v := 4848) dX10_work_132 rfl ?_
    refine tt_sipush (v := 4849) dX10_work_135 rfl ?_
    refine tt_aload_n (j := 0) dX10_work_138 rfl ?_
    refine tt_getI (id := 655) dX10_work_139 fl_10_107 rfl rfl (ob_af h0 hA) ?_
    refine tt_bipush (v := 6) dX10_work_142 rfl ?_
    have B115 : ∀ (x116 : Int32), Rg 0 1 x116 → TT xi M_X10_work 152 [(0, .ref o0)] [.int x116, .int 4849, .int 4848, .int 4850, .ref o0] S kc nc P := by
      intro x116 h117
      refine gt_Vv (As := [.int 4850, .int 4848, .int 4849, .int x116]) dX10_work_152 ca_X10_234 ⟨by decide, by decide⟩ h0 hA rfl (Nat.le_of_ble_eq_true rfl) (Nat.le_of_ble_eq_true rfl) (by decide) (cs_X10_or hG (oa_af h0 hA) (rg_w (⟨by decide, by decide⟩ : Rg 4850 4850 4850)) (rg_w (⟨by decide, by decide⟩ : Rg 4848 4848 4848)) (rg_w (⟨by decide, by decide⟩ : Rg 4849 4849 4849)) (rg_w h117) (fun _ _ _ _ h => h)) rfl (fun _ h => nomatch h) (fun S118 hx122 hG119 hB120 hA121 => ?_)
      refine tt_goto (tgt := 243) dX10_work_155 rfl ?_
      exact B101 S118 hG119 hA121
    refine tt_icmp_ne (tgt := 151) dX10_work_144 rfl (fun q123 => ?_) (fun q123 => ?_)
    · skip
      refine tt_iconst (v := 0) dX10_work_151 rfl ?_
      exact B115 0 (rg_w (⟨by decide, by decide⟩ : Rg 0 0 0))
    · skip
      have h124 : Rg 6 6 (hp_I S 655 o0) := rg_eq_l (rg_all (hp_I S 655 o0)) (⟨by decide, by decide⟩ : Rg 6 6 6) q123
      refine tt_iconst (v := 1) dX10_work_147 rfl ?_
      refine tt_goto (tgt := 152) dX10_work_148 rfl ?_
      exact B115 1 (rg_w (⟨by decide, by decide⟩ : Rg 1 1 1))
  · skip
    refine tt_aload_n (j := 0) dX10_work_158 rfl ?_
    refine tt_sipush (v := 4850) dX10_work_159 rfl ?_
    refine tt_sipush (v := 4848) dX10_work_162 rfl ?_
    refine tt_sipush (v := 4849) dX10_work_165 rfl ?_
    refine gt_Vv (As := [.int 4850, .int 4848, .int 4849]) dX10_work_168 ca_X10_238 ⟨by decide, by decide⟩ h0 hA rfl (Nat.le_of_ble_eq_true rfl) (Nat.le_of_ble_eq_true rfl) (by decide) (cs_X10_and hG (oa_af h0 hA) (rg_w (⟨by decide, by decide⟩ : Rg 4850 4850 4850)) (rg_w (⟨by decide, by decide⟩ : Rg 4848 4848 4848)) (rg_w (⟨by decide, by decide⟩ : Rg 4849 4849 4849)) (fun _ _ _ _ h => h)) rfl (fun _ h => nomatch h) (fun S125 hx129 hG126 hB127 hA128 => ?_)
    refine tt_goto (tgt := 243) dX10_work_171 rfl ?_
    exact B101 S125 hG126 hA128
  · skip
    refine tt_aload_n (j := 0) dX10_work_174 rfl ?_
    refine tt_sipush (v := 4931) dX10_work_175 rfl ?_
    refine tt_ldc2 (v := (-1)) dX10_work_178 kl_10_204 ?_
    refine gt_Vv (As := [.int 4931, .long (-1)]) dX10_work_181 ca_X10_193 ⟨by decide, by decide⟩ h0 hA rfl (Nat.le_of_ble_eq_true rfl) (Nat.le_of_ble_eq_true rfl) (by decide) (cs_X10_one hG (oa_af h0 hA) (rg_w (⟨by decide, by decide⟩ : Rg 4931 4931 4931)) (fun _ _ _ _ h => h)) rfl (fun _ h => nomatch h) (fun S130 hx134 hG131 hB132 hA133 => ?_)
    refine tt_aload_n (j := 0) dX10_work_184 rfl ?_
    refine tt_sipush (v := 4850) dX10_work_185 rfl ?_
    refine tt_sipush (v := 4931) dX10_work_188 rfl ?_
    refine tt_sipush (v := 4848) dX10_work_191 rfl ?_
    refine gt_Vv (As := [.int 4850, .int 4931, .int 4848]) dX10_work_194 ca_X10_231 ⟨by decide, by decide⟩ h0 hA133 rfl (Nat.le_of_ble_eq_true rfl) (Nat.le_of_ble_eq_true rfl) (by decide) (cs_X10_subtract hG131 (oa_af h0 hA133) (rg_w (⟨by decide, by decide⟩ : Rg 4850 4850 4850)) (rg_w (⟨by decide, by decide⟩ : Rg 4931 4931 4931)) (rg_w (⟨by decide, by decide⟩ : Rg 4848 4848 4848)) (fun _ _ _ _ h => h)) rfl (fun _ h => nomatch h) (fun S135 hx139 hG136 hB137 hA138 => ?_)
    refine tt_goto (tgt := 243) dX10_work_197 rfl ?_
    exact B101 S135 hG136 hA138
  · skip
    refine tt_aload_n (j := 0) dX10_work_200 rfl ?_
    refine tt_sipush (v := 4850) dX10_work_201 rfl ?_
    refine tt_sipush (v := 4848) dX10_work_204 rfl ?_
    refine gt_Vv (As := [.int 4850, .int 4848]) dX10_work_207 ca_X10_183 ⟨by decide, by decide⟩ h0 hA rfl (Nat.le_of_ble_eq_true rfl) (Nat.le_of_ble_eq_true rfl) (by decide) (cs_X10_negate hG (oa_af h0 hA) (rg_w (⟨by decide, by decide⟩ : Rg 4850 4850 4850)) (rg_w (⟨by decide, by decide⟩ : Rg 4848 4848 4848)) (fun _ _ _ _ h => h)) rfl (fun _ h => nomatch h) (fun S140 hx144 hG141 hB142 hA143 => ?_)
    refine tt_goto (tgt := 243) dX10_work_210 rfl ?_
    exact B101 S140 hG141 hA143
  · skip
    refine tt_aload_n (j := 0) dX10_work_213 rfl ?_
    refine tt_sipush (v := 4850) dX10_work_214 rfl ?_
    refine tt_sipush (v := 4849) dX10_work_217 rfl ?_
    refine gt_Vv (As := [.int 4850, .int 4849]) dX10_work_220 ca_X10_169 ⟨by decide, by decide⟩ h0 hA rfl (Nat.le_of_ble_eq_true rfl) (Nat.le_of_ble_eq_true rfl) (by decide) (cs_X10_copy hG (oa_af h0 hA) (rg_w (⟨by decide, by decide⟩ : Rg 4850 4850 4850)) (rg_w (⟨by decide, by decide⟩ : Rg 4849 4849 4849)) (fun _ _ _ _ h => h)) rfl (fun _ h => nomatch h) (fun S145 hx149 hG146 hB147 hA148 => ?_)
    refine tt_goto (tgt := 243) dX10_work_223 rfl ?_
    exact B101 S145 hG146 hA148
  · skip
    refine tt_aload_n (j := 0) dX10_work_226 rfl ?_
    refine tt_sipush (v := 4850) dX10_work_227 rfl ?_
    refine tt_sipush (v := 4849) dX10_work_230 rfl ?_
    refine gt_Vv (As := [.int 4850, .int 4849]) dX10_work_233 ca_X10_228 ⟨by decide, by decide⟩ h0 hA rfl (Nat.le_of_ble_eq_true rfl) (Nat.le_of_ble_eq_true rfl) (by decide) (cs_X10_signed hG (oa_af h0 hA) (rg_w (⟨by decide, by decide⟩ : Rg 4850 4850 4850)) (rg_w (⟨by decide, by decide⟩ : Rg 4849 4849 4849)) (fun _ _ _ _ h => h)) rfl (fun _ h => nomatch h) (fun S150 hx154 hG151 hB152 hA153 => ?_)
    refine tt_goto (tgt := 243) dX10_work_236 rfl ?_
    exact B101 S150 hG151 hA153
  · skip
    refine tt_aload_n (j := 0) dX10_work_239 rfl ?_
    refine gt_Vv (As := []) dX10_work_240 ca_X10_241 ⟨by decide, by decide⟩ h0 hA rfl (Nat.le_of_ble_eq_true rfl) (Nat.le_of_ble_eq_true rfl) (by decide) (cs_X10_workMore hG (oa_af h0 hA) (fun _ _ _ _ h => h)) rfl (fun _ h => nomatch h) (fun S155 hx159 hG156 hB157 hA158 => ?_)
    exact B101 S155 hG156 hA158
