/-! set and has, in the reference -/
section SRF
variable {xi : SX} {S T : Hp} {E ws : List Nat} {kc nc m : Nat} {P : Po} {x1 x2 x3 : Int32} {y3 : Int64} {t : Tb} {R : Nat → Nat → Nat}
theorem rtg_af (hG : GI S E) (h0 : Oa S E 10 0 m) (hR : RK S R) (hA : Af E ws S T) (hT : RTg R m (sg S) t) (hw : 9989 ∉ ws := by decide) (hw2 : 9988 ∉ ws := by decide) : RTg R m (sg T) t := fun i hi => by
  rw [af_47 hG h0 hR hA hw2]
  refine ⟨(hT i hi).1, fun g k hk => ?_⟩
  rw [af_cC hG h0 hR hA hw]
  exact (hT i hi).2 g k hk
theorem in_02 (h : ¬ (¬ x3.toInt64 < 0 ∧ ¬ (2 : Int64) < x3.toInt64)) : ¬ Rg 0 2 x3 := fun z => h ⟨by
  rw [Int64.lt_iff_toInt_lt, Int32.toInt_toInt64, show (0 : Int64).toInt = 0 from rfl]
  have := z.1
  omega, by
  rw [Int64.lt_iff_toInt_lt, Int32.toInt_toInt64, show (2 : Int64).toInt = 2 from rfl]
  have := z.2
  omega⟩
set_option maxHeartbeats 4000000 in
theorem cg_set (hG : GI S E) (h0 : Oa S E 10 0 m) (hR : RK S R) (hT : RTg R m (sg S) t) (h9 : ∀ i, 0 ≤ (t i).1.toInt) (hZ : Zn (hp_I S 642 m) t) (hP : ∀ r T x y, PV E [640] S kc nc rJ (fun v T => (hp_I T 640 m = 1 ∧ ¬ (Rg 0 23 x2 ∧ Rg 0 2 x3)) ∨ (hp_I T 640 m = 2 ∧ (Rg 0 23 x2 ∧ Rg 0 2 x3) ∧ gotA t x1 = 0) ∨ (hp_I T 640 m = 0 ∧ (Rg 0 23 x2 ∧ Rg 0 2 x3) ∧ ¬ gotA t x1 = 0 ∧ v = some (.long (tsel x3 (setA t x1 x2))))) [] r T x y → P r T x y) : TT xi M_X10_set 0 [(0, .ref m), (1, .int x1), (2, .int x2), (3, .int x3)] [] S kc nc P := by
  have hA : Af E [640] S S := af_rf
  refine tt_aload_n (j := 0) dX10_set_0 rfl ?_
  refine tt_iload_n (j := 2) dX10_set_1 rfl ?_
  refine gt_SIp (As := [.int x2]) dX10_set_2 ca_X10_310 ⟨by decide, by decide⟩ hA (Nat.le_of_ble_eq_true rfl) (Nat.le_of_ble_eq_true rfl) (by decide) (cs_X10_isPlace hG  (fun _ _ _ _ h => h)) rfl (fun _ h => nomatch h) (fun _ _ q => q.1) (fun x106 h107 hx105 => ?_)
  have no : ¬ (Rg 0 23 x2 ∧ Rg 0 2 x3) → TT xi M_X10_set 20 [(0, .ref m), (1, .int x1), (2, .int x2), (3, .int x3)] [.ref m] S kc nc P := by
    intro hno
    refine tt_iconst (v := 1) dX10_set_20 rfl ?_
    refine tt_goto (tgt := 37) dX10_set_21 rfl ?_
    refine gt_VI (As := [.int 1]) dX10_set_37 ca_X10_74 ⟨by decide, by decide⟩ h0 hA rfl (Nat.le_of_ble_eq_true rfl) (Nat.le_of_ble_eq_true rfl) (by decide) (cs_X10_refused hG (oa_af h0 hA) (fun _ _ _ _ h => h)) rfl (fun _ h => nomatch h) (fun S110 x115 h116 hx114 hG111 hB112 hA113 => ?_)
    obtain rfl := (hx114.1 _ rfl).trans (show bI (0 < (1 : Int32)) = 1 by decide)
    refine tt_if_eq (tgt := 45) dX10_set_40 rfl (fun q => absurd q (by decide)) (fun _ => ?_)
    refine tt_lconst (v := 0) dX10_set_43 rfl ?_
    exact tt_lreturn dX10_set_44 rfl (hP _ _ _ _ ⟨hG111, hA113, Or.inl ⟨_, rfl, ⟨_, rfl⟩, Or.inl ⟨hx114.2, hno⟩, rfl, rfl⟩⟩)
  refine tt_if_eq (tgt := 20) dX10_set_5 rfl (fun q108 => ?_) (fun q108 => ?_)
  · exact no (fun z => ((hx105.2) _ rfl).2 q108 z.1)
  have h118 : Rg 0 23 x2 := (((hx105.2) _ rfl).1 q108)
  refine tt_iload_n (j := 3) dX10_set_8 rfl ?_
  refine tt_i2l dX10_set_9 ?_
  refine tt_lconst (v := 0) dX10_set_10 rfl ?_
  refine tt_ldc2 (v := 2) dX10_set_11 kl_10_199 ?_
  refine gt_SIp (As := [.long (x3 : Int32).toInt64, .long 0, .long 2]) dX10_set_14 ca_X10_67 ⟨by decide, by decide⟩ hA (Nat.le_of_ble_eq_true rfl) (Nat.le_of_ble_eq_true rfl) (by decide) (cs_X10_isIn hG  (fun _ _ _ _ h => h)) rfl (fun _ h => nomatch h) (fun _ _ q => q.1) (fun x124 h125 hx123 => ?_)
  refine tt_if_ne (tgt := 24) dX10_set_17 rfl (fun q126 => ?_) (fun q126 => ?_)
  rotate_left
  · exact no (fun z => in_02 ((hx123.2 _ rfl).2 q126) z.2)
  have h128 : Rl 0 2 (x3 : Int32).toInt64 := in_rl ((fun z e => (hx123.2 z e).1) _ rfl q126) (⟨by decide, by decide⟩ : Rl 0 0 0) (⟨by decide, by decide⟩ : Rl 2 2 2)
  have h129 : Rg 0 2 x3 := rg_of_l h128
  refine tt_aload_n (j := 0) dX10_set_24 rfl ?_
  refine tt_iload_n (j := 1) dX10_set_25 rfl ?_
  refine gt_VIp (As := [.int x1]) dX10_set_26 ca_X10_313 ⟨by decide, by decide⟩ h0 hA rfl (Nat.le_of_ble_eq_true rfl) (Nat.le_of_ble_eq_true rfl) (by decide) (cg_isReached hG (oa_af h0 hA) hR hT h9 hZ (fun _ _ _ _ h => h)) rfl (fun _ h => nomatch h) (fun _ _ q => q.1) (fun x135 h136 hx134 => ?_)
  obtain ⟨hz1, hz2⟩ := hx134.2 _ rfl
  refine tt_if_ne (tgt := 36) dX10_set_29 rfl (fun q137 => ?_) (fun q137 => ?_)
  rotate_left
  · refine tt_iconst (v := 2) dX10_set_32 rfl ?_
    refine tt_goto (tgt := 37) dX10_set_33 rfl ?_
    refine gt_VI (As := [.int 2]) dX10_set_37 ca_X10_74 ⟨by decide, by decide⟩ h0 hA rfl (Nat.le_of_ble_eq_true rfl) (Nat.le_of_ble_eq_true rfl) (by decide) (cs_X10_refused hG (oa_af h0 hA) (fun _ _ _ _ h => h)) rfl (fun _ h => nomatch h) (fun S172 x177 h178 hx176 hG173 hB174 hA175 => ?_)
    obtain rfl := (hx176.1 _ rfl).trans (show bI (0 < (2 : Int32)) = 1 by decide)
    refine tt_if_eq (tgt := 45) dX10_set_40 rfl (fun q => absurd q (by decide)) (fun _ => ?_)
    refine tt_lconst (v := 0) dX10_set_43 rfl ?_
    exact tt_lreturn dX10_set_44 rfl (hP _ _ _ _ ⟨hG173, hA175, Or.inl ⟨_, rfl, ⟨_, rfl⟩, Or.inr (Or.inl ⟨hx176.2, ⟨h118, h129⟩, hz1.mp q137⟩), rfl, rfl⟩⟩)
  have h139 : Rg 0 199 x1 := hz2 q137
  have hg : ¬ gotA t x1 = 0 := fun h => q137 (hz1.mpr h)
  have l1 : x1.toNatClampNeg < 200 := rg_cl h139
  refine tt_iconst (v := 0) dX10_set_36 rfl ?_
  refine gt_VI (As := [.int 0]) dX10_set_37 ca_X10_74 ⟨by decide, by decide⟩ h0 hA rfl (Nat.le_of_ble_eq_true rfl) (Nat.le_of_ble_eq_true rfl) (by decide) (cs_X10_refused hG (oa_af h0 hA) (fun _ _ _ _ h => h)) rfl (fun _ h => nomatch h) (fun S140 x145 h146 hx144 hG141 hB142 hA143 => ?_)
  obtain rfl := (hx144.1 _ rfl).trans (show bI (0 < (0 : Int32)) = 0 by decide)
  have hT2 := rtg_af hG h0 hR hB142 hT
  obtain ⟨gc, gab⟩ := (hT2 _ l1).2 (got_rg hg).2 _ (cl_23 h118)
  have iN := ix_24 h139 h118
  have K : ∀ y, y = tsel x3 (setA t x1 x2) → P (.inl (some (.long y))) S140 kc nc := fun y hy => hP _ _ _ _ ⟨hG141, hA143, Or.inl ⟨_, rfl, ⟨_, rfl⟩, Or.inr (Or.inr ⟨hx144.2, ⟨h118, h129⟩, hg, by rw [hy]⟩), rfl, rfl⟩⟩
  refine tt_if_eq (tgt := 45) dX10_set_40 rfl (fun _ => ?_) (fun q => absurd q (by decide))
  refine tt_bipush (v := 24) dX10_set_45 rfl ?_
  refine tt_iload_n (j := 1) dX10_set_47 rfl ?_
  refine tt_imul dX10_set_48 ?_
  refine tt_iload_n (j := 2) dX10_set_49 rfl ?_
  refine tt_iadd dX10_set_50 ?_
  refine tt_istore (ks := [0, 1, 2, 3, 4]) (L' := [(4, .int ((24 * x1) + x2)), (0, .ref m), (1, .int x1), (2, .int x2), (3, .int x3)]) dX10_set_51 (by decide) rfl ?_
  refine tt_aload_n (j := 1) dX10_set_53 rfl ?_
  have hin := rg_in (n := 4940) (rg_add (lo := 0) (hi := 4799) (rg_mul (lo := 0) (hi := 4776) (⟨by decide, by decide⟩ : Rg 24 24 24) h139) h118)
  refine gt_gR (id := 643) dX10_set_54 fl_10_13 rfl rfl h0 hA143 (rk_R (k := 643) hR h0 32 4940) ?_
  refine tt_iload (j := 0) dX10_set_57 rfl ?_
  refine gx_iL (v := (cC R m (sg S140) (24 * x1.toNatClampNeg + x2.toNatClampNeg)).1) dX10_set_59 (rk_O (k := 643) hG hR h0 32 4940) hA143 hin (by rw [iN]; rfl) ?_
  refine tt_iconst (v := 2) dX10_set_60 rfl ?_
  refine tt_icmp_ne (tgt := 77) dX10_set_61 rfl (fun q151 => ?_) (fun q151 => ?_)
  · have q151' : ¬ (cC R m (sg S140) (24 * x1.toNatClampNeg + x2.toNatClampNeg)).1 = 2 := q151
    have e1 : (cC R m (sg S140) (24 * x1.toNatClampNeg + x2.toNatClampNeg)).1 = 1 := by
      rcases gc with z | z
      · exact absurd z q151'
      · exact z.1
    have es : setA t x1 x2 = (cC R m (sg S140) (24 * x1.toNatClampNeg + x2.toNatClampNeg)).2 := by
      rw [show setA t x1 x2 = (t x1.toNatClampNeg).2.2.1 x2.toNatClampNeg from rfl, ← gab, ab_1 e1]
    refine tt_iload_n (j := 4) dX10_set_77 rfl ?_
    refine tt_if_ne (tgt := 91) dX10_set_78 rfl (fun q152 => ?_) (fun q152 => ?_)
    · have q152' : ¬ x3 = 0 := q152
      refine tt_iload_n (j := 4) dX10_set_91 rfl ?_
      refine tt_iconst (v := 1) dX10_set_92 rfl ?_
      refine tt_icmp_ne (tgt := 106) dX10_set_93 rfl (fun q154 => ?_) (fun q154 => ?_)
      · have q154' : ¬ x3 = 1 := q154
        refine tt_aload_n (j := 1) dX10_set_106 rfl ?_
        refine gt_gR (id := 646) dX10_set_107 fl_10_23 rfl rfl h0 hA143 (rk_R (k := 646) hR h0 33 4940) ?_
        refine tt_iload (j := 0) dX10_set_110 rfl ?_
        refine gt_lLt dX10_set_112 (rk_O (k := 646) hG hR h0 33 4940) hA143 hin ?_
        refine tt_lreturn dX10_set_113 rfl (K _ ?_)
        unfold tsel
        rw [if_neg q152', if_neg q154', es, iN]
        rfl
      · refine tt_aload_n (j := 1) dX10_set_96 rfl ?_
        refine gt_gR (id := 645) dX10_set_97 fl_10_20 rfl rfl h0 hA143 (rk_R (k := 645) hR h0 33 4940) ?_
        refine tt_iload (j := 0) dX10_set_100 rfl ?_
        refine gt_lLt dX10_set_102 (rk_O (k := 645) hG hR h0 33 4940) hA143 hin ?_
        refine tt_goto (tgt := 113) dX10_set_103 rfl ?_
        refine tt_lreturn dX10_set_113 rfl (K _ ?_)
        unfold tsel
        rw [if_neg q152', if_pos q154, es, iN]
        rfl
    · refine tt_aload_n (j := 1) dX10_set_81 rfl ?_
      refine gt_gR (id := 644) dX10_set_82 fl_10_16 rfl rfl h0 hA143 (rk_R (k := 644) hR h0 33 4940) ?_
      refine tt_iload (j := 0) dX10_set_85 rfl ?_
      refine gt_lLt dX10_set_87 (rk_O (k := 644) hG hR h0 33 4940) hA143 hin ?_
      refine tt_goto (tgt := 113) dX10_set_88 rfl ?_
      refine tt_lreturn dX10_set_113 rfl (K _ ?_)
      unfold tsel
      rw [if_pos q152, es, iN]
      rfl
  · have es : setA t x1 x2 = tANY := by
      rw [show setA t x1 x2 = (t x1.toNatClampNeg).2.2.1 x2.toNatClampNeg from rfl, ← gab, ab_2 q151]
    refine tt_iload_n (j := 4) dX10_set_64 rfl ?_
    refine tt_iconst (v := 2) dX10_set_65 rfl ?_
    refine tt_icmp_ne (tgt := 75) dX10_set_66 rfl (fun q168 => ?_) (fun q168 => ?_)
    · have h169 : Rg 0 1 x3 := rg_ne_hi h129 (⟨by decide, by decide⟩ : Rg 2 2 2) q168
      refine tt_lconst (v := 0) dX10_set_75 rfl ?_
      refine tt_lreturn dX10_set_76 rfl (K _ ?_)
      rw [es]
      rcases rg_01 h169 with z | z
      · rw [z]; rfl
      · rw [z]; rfl
    · refine tt_ldc2 (v := (-1)) dX10_set_69 kl_10_204 ?_
      refine tt_goto (tgt := 76) dX10_set_72 rfl ?_
      refine tt_lreturn dX10_set_76 rfl (K _ ?_)
      have q168' : x3 = 2 := q168
      rw [es, q168']
      rfl
set_option maxHeartbeats 4000000 in
theorem cg_has (hG : GI S E) (h0 : Oa S E 10 0 m) (hR : RK S R) (hD : D4 R m) (hT : RTg R m (sg S) t) (h9 : ∀ i, 0 ≤ (t i).1.toInt) (hZ : Zn (hp_I S 642 m) t) (hP : ∀ r T x y, PV E [640] S kc nc (rI 0 1) (fun v T => (hp_I T 640 m = 1 ∧ ¬ Rg 0 23 x2) ∨ (hp_I T 640 m = 0 ∧ Rg 0 23 x2 ∧ v = some (.int (hasA t x1 x2 y3)))) [] r T x y → P r T x y) : TT xi M_X10_has 0 [(0, .ref m), (1, .int x1), (2, .int x2), (3, .long y3)] [] S kc nc P := by
  have hA : Af E [640] S S := af_rf
  refine tt_aload_n (j := 0) dX10_has_0 rfl ?_
  refine tt_iload_n (j := 2) dX10_has_1 rfl ?_
  refine gt_SIp (As := [.int x2]) dX10_has_2 ca_X10_310 ⟨by decide, by decide⟩ hA (Nat.le_of_ble_eq_true rfl) (Nat.le_of_ble_eq_true rfl) (by decide) (cs_X10_isPlace hG  (fun _ _ _ _ h => h)) rfl (fun _ h => nomatch h) (fun _ _ q => q.1) (fun x106 h107 hx105 => ?_)
  refine tt_if_eq (tgt := 12) dX10_has_5 rfl (fun q108 => ?_) (fun q108 => ?_)
  · refine tt_iconst (v := 1) dX10_has_12 rfl ?_
    refine gt_VI (As := [.int 1]) dX10_has_13 ca_X10_74 ⟨by decide, by decide⟩ h0 hA rfl (Nat.le_of_ble_eq_true rfl) (Nat.le_of_ble_eq_true rfl) (by decide) (cs_X10_refused hG (oa_af h0 hA) (fun _ _ _ _ h => h)) rfl (fun _ h => nomatch h) (fun S110 x115 h116 hx114 hG111 hB112 hA113 => ?_)
    obtain rfl := (hx114.1 _ rfl).trans (show bI (0 < (1 : Int32)) = 1 by decide)
    refine tt_if_eq (tgt := 21) dX10_has_16 rfl (fun q => absurd q (by decide)) (fun _ => ?_)
    refine tt_iconst (v := 0) dX10_has_19 rfl ?_
    exact tt_ireturn dX10_has_20 .boolean rfl rfl (hP _ _ _ _ ⟨hG111, hA113, Or.inl ⟨_, rfl, ⟨_, rfl, rg_w (⟨by decide, by decide⟩ : Rg 0 0 0)⟩, Or.inl ⟨hx114.2, ((hx105.2) _ rfl).2 q108⟩, rfl, rfl⟩⟩)
  have h118 : Rg 0 23 x2 := (((hx105.2) _ rfl).1 q108)
  refine tt_iconst (v := 0) dX10_has_8 rfl ?_
  refine tt_goto (tgt := 13) dX10_has_9 rfl ?_
  refine gt_VI (As := [.int 0]) dX10_has_13 ca_X10_74 ⟨by decide, by decide⟩ h0 hA rfl (Nat.le_of_ble_eq_true rfl) (Nat.le_of_ble_eq_true rfl) (by decide) (cs_X10_refused hG (oa_af h0 hA) (fun _ _ _ _ h => h)) rfl (fun _ h => nomatch h) (fun S119 x124 h125 hx123 hG120 hB121 hA122 => ?_)
  obtain rfl := (hx123.1 _ rfl).trans (show bI (0 < (0 : Int32)) = 0 by decide)
  refine tt_if_eq (tgt := 21) dX10_has_16 rfl (fun _ => ?_) (fun q => absurd q (by decide))
  have hT2 := rtg_af hG h0 hR hB121 hT
  have hZ2 : Zn (hp_I S119 642 m) t := by rw [i_af (k := 642) h0 hB121]; exact hZ
  have K : ∀ w, Rg 0 1 w → w = hasA t x1 x2 y3 → P (.inl (some (.int w))) S119 kc nc := fun w hw1 hw => hP _ _ _ _ ⟨hG120, hA122, Or.inl ⟨_, rfl, ⟨_, rfl, hw1⟩, Or.inr ⟨hx123.2, h118, by rw [hw]⟩, rfl, rfl⟩⟩
  refine tt_aload_n (j := 0) dX10_has_21 rfl ?_
  refine tt_iload_n (j := 1) dX10_has_22 rfl ?_
  refine gt_VIp (As := [.int x1]) dX10_has_23 ca_X10_313 ⟨by decide, by decide⟩ h0 hA122 rfl (Nat.le_of_ble_eq_true rfl) (Nat.le_of_ble_eq_true rfl) (by decide) (cg_isReached hG120 (oa_af h0 hA122) (rk_af hR hA122) hT2 h9 hZ2 (fun _ _ _ _ h => h)) rfl (fun _ h => nomatch h) (fun _ _ q => q.1) (fun x131 h132 hx130 => ?_)
  obtain ⟨hz1, hz2⟩ := hx130.2 _ rfl
  refine tt_if_eq (tgt := 47) dX10_has_26 rfl (fun q133 => ?_) (fun q133 => ?_)
  · refine tt_iconst (v := 0) dX10_has_47 rfl ?_
    refine tt_ireturn dX10_has_48 .boolean rfl rfl (K 0 ⟨by decide, by decide⟩ ?_)
    unfold hasA
    rw [if_pos (hz1.mp q133)]
  · have h136 : Rg 0 199 x1 := hz2 q133
    have hg : ¬ gotA t x1 = 0 := fun h => q133 (hz1.mpr h)
    refine tt_aload_n (j := 0) dX10_has_29 rfl ?_
    refine tt_bipush (v := 24) dX10_has_30 rfl ?_
    refine tt_iload_n (j := 1) dX10_has_32 rfl ?_
    refine tt_imul dX10_has_33 ?_
    refine tt_iload_n (j := 2) dX10_has_34 rfl ?_
    refine tt_iadd dX10_has_35 ?_
    refine tt_lload_n (j := 3) dX10_has_36 rfl ?_
    refine gt_VIp (As := [.int ((24 * x1) + x2), .long y3]) dX10_has_37 ca_X10_253 ⟨by decide, by decide⟩ h0 hA122 rfl (Nat.le_of_ble_eq_true rfl) (Nat.le_of_ble_eq_true rfl) (by decide) (cz_X10_contains hG120 (oa_af h0 hA122) (rg_w (rg_add (lo := 0) (hi := 4799) (rg_mul (lo := 0) (hi := 4776) (⟨by decide, by decide⟩ : Rg 24 24 24) h136) h118)) (rk_af hR hA122) (fun _ _ _ _ h => h)) rfl (fun _ h => nomatch h) (fun _ _ q => q.1) (fun w hw hxw => ?_)
    obtain ⟨gc, gab⟩ := (hT2 _ (rg_cl h136)).2 (got_rg hg).2 _ (cl_23 h118)
    have ew : w = hasA t x1 x2 y3 := by
      unfold hasA
      rw [if_neg hg, ei_w hxw.2, zj_contains hD, ix_24 h136 h118, holds_ok gc, gab]
      rfl
    refine tt_if_eq (tgt := 47) dX10_has_40 rfl (fun q144 => ?_) (fun q144 => ?_)
    · refine tt_iconst (v := 0) dX10_has_47 rfl ?_
      exact tt_ireturn dX10_has_48 .boolean rfl rfl (K 0 ⟨by decide, by decide⟩ (q144.symm.trans ew))
    · have w1 : w = 1 := rg_eqc (rg_ne_lo (lo := 1) hw (⟨by decide, by decide⟩ : Rg 0 0 0) q144)
      refine tt_iconst (v := 1) dX10_has_43 rfl ?_
      refine tt_goto (tgt := 48) dX10_has_44 rfl ?_
      exact tt_ireturn dX10_has_48 .boolean rfl rfl (K 1 ⟨by decide, by decide⟩ (w1.symm.trans ew))
end SRF
