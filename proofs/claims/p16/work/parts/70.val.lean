theorem cr_X9_at {xi : SX} {S : Hp} {E : List Nat} {kc nc : Nat} {P : Po} {o0 r1 : Nat} (hG : GI S E) (h0 : Oa S E 9 0 o0) (hr : hp_R S 580 o0 = some r1) (hP : ∀ r T x y, PV E [] S kc nc (rI (-2147483648) 2147483647) (fun v T => T = S ∧ v = some (.int (hp_I S 388 r1))) [] r T x y → P r T x y) : TT xi M_X9_at 0 [(0, .ref o0)] [] S kc nc P := by
  have hA : Af E [] S S := af_rf
  refine tt_aload_n (j := 0) dX9_at_0 rfl ?_
  obtain ⟨b101, hr102, ho103⟩ := gi_R (k := 580) hG h0 6 0
  obtain rfl : r1 = b101 := Option.some.inj (hr.symm.trans hr102)
  refine gt_gR (id := 580) dX9_at_1 fl_9_44 rfl rfl h0 hA hr102 ?_
  refine tt_getI (id := 388) dX9_at_4 fl_9_148 rfl rfl (ob_af ho103 hA) ?_
  exact tt_ireturn dX9_at_7 .int rfl rfl (hP _ _ _ _ ⟨hG, hA, Or.inl ⟨_, rfl, ⟨_, rfl, rg_w (rg_all (hp_I S 388 r1))⟩, ⟨rfl, rfl⟩, rfl, rfl⟩⟩)
theorem cr_X10_at {xi : SX} {S : Hp} {E : List Nat} {kc nc : Nat} {P : Po} {o0 : Nat} (hG : GI S E) (h0 : Oa S E 10 0 o0) (hP : ∀ r T x y, PV E [640] S kc nc (rI (-2147483648) 2147483647) (fun v T => v = some (.int (hp_I S 664 o0))) [] r T x y → P r T x y) : TT xi M_X10_at 0 [(0, .ref o0)] [] S kc nc P := by
  have hA : Af E [640] S S := af_rf
  refine tt_aload_n (j := 0) dX10_at_0 rfl ?_
  refine tt_iconst (v := 0) dX10_at_1 rfl ?_
  refine gt_pI (id := 640) (x := 0) dX10_at_2 fl_10_55 rfl rfl h0 hA rfl rfl rfl (gp_I hG) (by decide) (fun h => absurd h (by decide)) (fun h => absurd h (by decide)) (fun S101 hG102 hA103 e104 f105 er106 => ?_)
  refine tt_aload_n (j := 0) dX10_at_5 rfl ?_
  refine gt_gI (id := 664) (v := (hp_I S 664 o0)) dX10_at_6 fl_10_45 rfl rfl h0 hA103 (i_af (k := 664) h0 hA103) ?_
  exact tt_ireturn dX10_at_9 .int rfl rfl (hP _ _ _ _ ⟨hG102, hA103, Or.inl ⟨_, rfl, ⟨_, rfl, rg_w (gi_I (k := 664) hG (oa_af h0 hA) (-2) 199)⟩, rfl, rfl, rfl⟩⟩)
theorem cro_X9_value {xi : SX} {S : Hp} {E : List Nat} {kc nc : Nat} {P : Po} {o0 : Nat} {x1 : Int32} {r1 i1 hd : Nat} {bs : Nat → Int32} {n : Int32} (hG : GI S E) (h0 : Oa S E 9 0 o0) (h1 : Rg 0 23 x1) (hr : hp_R S 580 o0 = some r1) (hc : RC S E r1 i1 hd bs n) (hP : ∀ r T x y, PV E [] S kc nc rJ (fun v T => T = S ∧ v = some (.long (if hp_I S 388 r1 = -1 then 0 else hp_j S hd x1.toNatClampNeg))) [] r T x y → P r T x y) : TT xi M_X9_value 0 [(0, .ref o0), (1, .int x1)] [] S kc nc P := by
  have hA : Af E [] S S := af_rf
  refine tt_iload_n (j := 1) dX9_value_0 rfl ?_
  refine gt_Svp (As := [.int x1]) dX9_value_1 ca_X9_77 ⟨by decide, by decide⟩ hA (Nat.le_of_ble_eq_true rfl) (Nat.le_of_ble_eq_true rfl) (by decide) (co_X9_requireLocation_put hG h1 (fun _ _ _ _ h => h)) rfl (fun _ h => nomatch h) (fun _ _ q => q) (fun hx105 => ?_)
  refine tt_aload_n (j := 0) dX9_value_4 rfl ?_
  refine gt_gR (id := 580) dX9_value_5 fl_9_44 rfl rfl h0 hA hr ?_
  refine tt_getI (id := 388) dX9_value_8 fl_9_148 rfl rfl (ob_af hc.1 hA) ?_
  refine tt_iconst (v := (-1)) dX9_value_11 rfl ?_
  have B109 : ∀ (y110 : Int64), y110 = (if hp_I S 388 r1 = -1 then 0 else hp_j S hd x1.toNatClampNeg) → TT xi M_X9_value 27 [(0, .ref o0), (1, .int x1)] [.long y110] S kc nc P := by
    intro y110 e
    exact tt_lreturn dX9_value_27 rfl (hP _ _ _ _ ⟨hG, hA, Or.inl ⟨_, rfl, ⟨_, rfl⟩, ⟨rfl, by rw [e]⟩, rfl, rfl⟩⟩)
  refine tt_icmp_ne (tgt := 19) dX9_value_12 rfl (fun q111 => ?_) (fun q111 => ?_)
  · refine tt_aload_n (j := 0) dX9_value_19 rfl ?_
    refine gt_gR (id := 580) dX9_value_20 fl_9_44 rfl rfl h0 hA hr ?_
    refine tt_iload_n (j := 1) dX9_value_23 rfl ?_
    refine gt_VJp (As := [.int x1]) dX9_value_24 ca_X9_157 ⟨by decide, by decide⟩ hc.1 hA rfl (Nat.le_of_ble_eq_true rfl) (Nat.le_of_ble_eq_true rfl) (by decide) (cr_X6_read hG hc (fun _ _ _ _ h => h)) rfl (fun _ h => nomatch h) (fun _ _ q => q.1) (fun y117 hx116 => ?_)
    exact B109 y117 (by rw [if_neg q111, el_w hx116.2, g_X6_read_1 (il_nz h1)]; rfl)
  · refine tt_lconst (v := 0) dX9_value_15 rfl ?_
    refine tt_goto (tgt := 27) dX9_value_16 rfl ?_
    exact B109 0 (if_pos q111).symm
theorem crn_X9_value {xi : SX} {S : Hp} {E : List Nat} {kc nc : Nat} {P : Po} {o0 : Nat} {x1 : Int32} (hG : GI S E) (h0 : Oa S E 9 0 o0) (hq : ¬ Rg 0 23 x1) (hkc : 1 ≤ kc) (hnc : 6 ≤ nc) (hP : ∀ r T x y, PV E [] S kc nc (fun _ => False) ex0 ["java/lang/IllegalArgumentException"] r T x y → P r T x y) : TT xi M_X9_value 0 [(0, .ref o0), (1, .int x1)] [] S kc nc P := by
  have hA : Af E [] S S := af_rf
  refine tt_iload_n (j := 1) dX9_value_0 rfl ?_
  exact gt_S (As := [.int x1]) dX9_value_1 ca_X9_77 ⟨by decide, by decide⟩ hA (Nat.le_of_ble_eq_true rfl) (Nat.le_of_ble_eq_true rfl) (by decide) (cn_X9_requireLocation_put hG hq hkc hnc (fun _ _ _ _ h => h)) rfl (fun X hX T g1 g2 => hP _ _ _ _ ⟨g1, g2, Or.inr ⟨X, hX, rfl⟩⟩) (fun _ _ h => h.elim)
theorem crwo_L_value {xi : SX} {S : Hp} {E : List Nat} {P : Po} {o0 : Nat} {x1 : Int32} {r1 i1 hd : Nat} {bs : Nat → Int32} {n : Int32} {o2 : Nat} (hG : GI S E) (h0 : Oa S E 9 0 o0) (h2 : Oa S E 33 1 o2) (h1 : Rg 0 23 x1) (hr : hp_R S 580 o0 = some r1) (hc : RC S E r1 i1 hd bs n) (hP : ∀ r T x y, PX E [9996] S (fun z T => z = 0 ∧ hp_j T o2 (0 : Int32).toNatClampNeg = (if hp_I S 388 r1 = -1 then 0 else hp_j S hd x1.toNatClampNeg)) r T x y → P r T x y) : TT xi M_L_value 0 [(0, .ref o0), (1, .int x1), (2, .ref o2)] [] S 1 6 P := by
  have hA : Af E [9996] S S := af_rf
  refine tt_aload_n (j := 2) dL_value_0 rfl ?_
  refine tt_iconst (v := 0) dL_value_1 rfl ?_
  refine tt_aload_n (j := 0) dL_value_2 rfl ?_
  refine tt_iload_n (j := 1) dL_value_3 rfl ?_
  refine gt_VC0 (As := [.int x1]) dL_value_4 ca_L_49 ⟨by decide, by decide⟩ h0 hA rfl (Nat.le_of_ble_eq_true rfl) (Nat.le_of_ble_eq_true rfl) (by decide) (cro_X9_value hG (oa_af h0 hA) h1 hr hc (fun _ _ _ _ h => h)) (fun S101 v106 hv107 hx105 hG102 hB103 hA104 => ?_)
  obtain ⟨y113, rfl⟩ := hv107
  show TT xi M_L_value 7 [(0, .ref o0), (1, .int x1), (2, .ref o2)] [.long y113, .int 0, .ref o2] S101 1 6 P
  refine gt_lS1 dL_value_7 h2 hA104 (rg_in (⟨by decide, by decide⟩ : Rg 0 0 0)) hG102 (Or.inr (by decide)) (by decide) (fun S114 hG115 hA116 e117 f118 er119 ej120 => ?_)
  refine tt_goto (tgt := 14) dL_value_8 rfl ?_
  refine tt_iconst (v := 0) dL_value_14 rfl ?_
  exact tt_ireturn dL_value_15 .int rfl rfl (hP _ _ _ _ ⟨hG115, hA116, _, rfl, rfl, ej120.trans (el_w hx105.2)⟩)
theorem crwn_L_value {xi : SX} {S : Hp} {E : List Nat} {P : Po} {o0 : Nat} {x1 : Int32} {o2 : Nat} (hG : GI S E) (h0 : Oa S E 9 0 o0) (h2 : Oa S E 33 1 o2) (hq : ¬ Rg 0 23 x1) (hP : ∀ r T x y, PW E [9996] S (fun z => z = 1) r T x y → P r T x y) : TT xi M_L_value 0 [(0, .ref o0), (1, .int x1), (2, .ref o2)] [] S 1 6 P := by
  have hA : Af E [9996] S S := af_rf
  refine tt_aload_n (j := 2) dL_value_0 rfl ?_
  refine tt_iconst (v := 0) dL_value_1 rfl ?_
  refine tt_aload_n (j := 0) dL_value_2 rfl ?_
  refine tt_iload_n (j := 1) dL_value_3 rfl ?_
  refine gt_VC1 (As := [.int x1]) dL_value_4 ca_L_49 ⟨by decide, by decide⟩ h0 hA rfl (Nat.le_of_ble_eq_true rfl) (Nat.le_of_ble_eq_true rfl) (by decide) ch_L_value_0 (crn_X9_value hG (oa_af h0 hA) hq (by decide) (by decide) (fun _ _ _ _ h => h)) (fun S108 q109 hG110 hB111 hA112 => ?_) (fun _ _ h => h.elim)
  refine tt_astore_n (ks := [0, 1, 2, 3]) (L' := [(3, .ref q109), (0, .ref o0), (1, .int x1), (2, .ref o2)]) dL_value_11 (by decide) rfl ?_
  refine tt_iconst (v := 1) dL_value_12 rfl ?_
  exact tt_ireturn dL_value_13 .int rfl rfl (hP _ _ _ _ ⟨hG110, hA112, _, rfl, rfl⟩)
theorem cro_X10_value {xi : SX} {S : Hp} {E : List Nat} {kc nc : Nat} {P : Po} {o0 : Nat} {x1 : Int32} {vl : Nat} (hG : GI S E) (h0 : Oa S E 10 0 o0) (h1 : Rg 0 23 x1) (hrv : hp_R S 666 o0 = some vl) (hna : NA S vl 666) (hP : ∀ r T x y, PV E [640] S kc nc rJ (fun v T => hp_I T 640 o0 = 0 ∧ v = some (.long (if hp_I S 663 o0 = 0 then 0 else hp_j S vl x1.toNatClampNeg))) [] r T x y → P r T x y) : TT xi M_X10_value 0 [(0, .ref o0), (1, .int x1)] [] S kc nc P := by
  have hA : Af E [640] S S := af_rf
  refine tt_aload_n (j := 0) dX10_value_0 rfl ?_
  refine tt_iload_n (j := 1) dX10_value_1 rfl ?_
  refine gt_SIp (As := [.int x1]) dX10_value_2 ca_X10_310 ⟨by decide, by decide⟩ hA (Nat.le_of_ble_eq_true rfl) (Nat.le_of_ble_eq_true rfl) (by decide) (cs_X10_isPlace hG  (fun _ _ _ _ h => h)) rfl (fun _ h => nomatch h) (fun _ _ q => q.1) (fun x106 h107 hx105 => ?_)
  refine tt_if_eq (tgt := 12) dX10_value_5 rfl (fun q108 => ?_) (fun q108 => ?_)
  · skip
    exact absurd h1 (((hx105.2) _ rfl).2 q108)
  · skip
    have h117 : Rg 1 1 x106 := rg_ne_lo h107 (⟨by decide, by decide⟩ : Rg 0 0 0) q108
    have h118 : Rg 0 23 x1 := (((hx105.2) _ rfl).1 q108)
    refine tt_iconst (v := 0) dX10_value_8 rfl ?_
    refine tt_goto (tgt := 13) dX10_value_9 rfl ?_
    refine gt_VI (As := [.int 0]) dX10_value_13 ca_X10_74 ⟨by decide, by decide⟩ h0 hA rfl (Nat.le_of_ble_eq_true rfl) (Nat.le_of_ble_eq_true rfl) (by decide) (cs_X10_refused hG (oa_af h0 hA) (fun _ _ _ _ h => h)) rfl (fun _ h => nomatch h) (fun S119 x124 h125 hx123 hG120 hB121 hA122 => ?_)
    obtain rfl := (hx123.1 _ rfl).trans (show bI (0 < (0 : Int32)) = 0 by decide)
    refine tt_if_eq (tgt := 21) dX10_value_16 rfl (fun _ => ?_) (fun q => absurd q (by decide))
    refine tt_aload_n (j := 0) dX10_value_21 rfl ?_
    refine gt_gI (id := 663) (v := (hp_I S 663 o0)) dX10_value_22 fl_10_62 rfl rfl h0 hA122 (i_af (k := 663) h0 hA122) ?_
    refine tt_if_eq (tgt := 37) dX10_value_25 rfl (fun q126 => ?_) (fun q126 => ?_)
    · skip
      have h127 : Rg 0 0 (hp_I S 663 o0) := rg_eq_l (gi_I (k := 663) hG (oa_af h0 hA) 0 1) (⟨by decide, by decide⟩ : Rg 0 0 0) q126
      refine tt_lconst (v := 0) dX10_value_37 rfl ?_
      exact tt_lreturn dX10_value_38 rfl (hP _ _ _ _ ⟨hG120, hA122, Or.inl ⟨_, rfl, ⟨_, rfl⟩, ⟨hx123.2, by rw [if_pos q126]⟩, rfl, rfl⟩⟩)
    · skip
      have h128 : Rg 1 1 (hp_I S 663 o0) := rg_ne_lo (gi_I (k := 663) hG (oa_af h0 hA) 0 1) (⟨by decide, by decide⟩ : Rg 0 0 0) q126
      refine tt_aload_n (j := 0) dX10_value_28 rfl ?_
      obtain ⟨b129, hr130, ho131⟩ := gi_R (k := 666) hG h0 33 24
      obtain rfl : vl = b129 := Option.some.inj (hrv.symm.trans hr130)
      refine gt_gR (id := 666) dX10_value_29 fl_10_52 rfl rfl h0 hA122 hr130 ?_
      refine tt_iload_n (j := 1) dX10_value_32 rfl ?_
      refine gt_lLt dX10_value_33 ho131 hA122 (rg_in h118) ?_
      refine tt_goto (tgt := 38) dX10_value_34 rfl ?_
      exact tt_lreturn dX10_value_38 rfl (hP _ _ _ _ ⟨hG120, hA122, Or.inl ⟨_, rfl, ⟨_, rfl⟩, ⟨hx123.2, by rw [if_neg q126, j24_af hna ho131 hB121]⟩, rfl, rfl⟩⟩)
theorem crn_X10_value {xi : SX} {S : Hp} {E : List Nat} {kc nc : Nat} {P : Po} {o0 : Nat} {x1 : Int32} (hG : GI S E) (h0 : Oa S E 10 0 o0) (hq : ¬ Rg 0 23 x1) (hP : ∀ r T x y, PV E [640] S kc nc rJ (fun v T => hp_I T 640 o0 = 1) [] r T x y → P r T x y) : TT xi M_X10_value 0 [(0, .ref o0), (1, .int x1)] [] S kc nc P := by
  have hA : Af E [640] S S := af_rf
  refine tt_aload_n (j := 0) dX10_value_0 rfl ?_
  refine tt_iload_n (j := 1) dX10_value_1 rfl ?_
  refine gt_SIp (As := [.int x1]) dX10_value_2 ca_X10_310 ⟨by decide, by decide⟩ hA (Nat.le_of_ble_eq_true rfl) (Nat.le_of_ble_eq_true rfl) (by decide) (cs_X10_isPlace hG  (fun _ _ _ _ h => h)) rfl (fun _ h => nomatch h) (fun _ _ q => q.1) (fun x106 h107 hx105 => ?_)
  refine tt_if_eq (tgt := 12) dX10_value_5 rfl (fun q108 => ?_) (fun q108 => ?_)
  · skip
    have h109 : Rg 0 0 x106 := rg_eq_l h107 (⟨by decide, by decide⟩ : Rg 0 0 0) q108
    refine tt_iconst (v := 1) dX10_value_12 rfl ?_
    refine gt_VI (As := [.int 1]) dX10_value_13 ca_X10_74 ⟨by decide, by decide⟩ h0 hA rfl (Nat.le_of_ble_eq_true rfl) (Nat.le_of_ble_eq_true rfl) (by decide) (cs_X10_refused hG (oa_af h0 hA) (fun _ _ _ _ h => h)) rfl (fun _ h => nomatch h) (fun S110 x115 h116 hx114 hG111 hB112 hA113 => ?_)
    obtain rfl := (hx114.1 _ rfl).trans (show bI (0 < (1 : Int32)) = 1 by decide)
    refine tt_if_eq (tgt := 21) dX10_value_16 rfl (fun q => absurd q (by decide)) (fun _ => ?_)
    refine tt_lconst (v := 0) dX10_value_19 rfl ?_
    exact tt_lreturn dX10_value_20 rfl (hP _ _ _ _ ⟨hG111, hA113, Or.inl ⟨_, rfl, ⟨_, rfl⟩, hx114.2, rfl, rfl⟩⟩)
  · skip
    exact absurd (((hx105.2) _ rfl).1 q108) hq
theorem un_at {S : Hp} {r1 hd o2 vl : Nat} (h : Un S r1 hd o2 vl) : hp_I S 388 r1 = hp_I S 664 o2 := h.elim (fun q => q.1.trans q.2.2.symm) (fun q => q.2.2.1.1)
theorem un_val {S : Hp} {r1 hd o2 vl i : Nat} (h : Un S r1 hd o2 vl) (hi : i < 24) : (if hp_I S 388 r1 = -1 then 0 else hp_j S hd i) = if hp_I S 663 o2 = 0 then 0 else hp_j S vl i := by
  rcases h with ⟨a, b, c⟩ | ⟨a, b, c, d⟩
  · rw [if_pos a, if_pos b]
  · have e : ¬ hp_I S 388 r1 = -1 := fun q => b (Eq.trans (Eq.symm c.1) q)
    rw [if_neg e, if_neg a]
    exact c.2.2 i hi
