/-! how often something came to an address -/
def gotA (t : Tb) (x : Int32) : Int32 := if 0 ≤ x.toInt ∧ x.toInt ≤ 199 then (t x.toNatClampNeg).1 else 0
section RCH
variable {xi : SX} {S : Hp} {E : List Nat} {kc nc lk pa o0 m : Nat} {P : Po} {x1 : Int32} {t : Tb} {R : Nat → Nat → Nat}
set_option maxHeartbeats 4000000 in
theorem ck_timesGot (hG : GI S E) (h0 : Oa S E 4 0 lk) (hpa : hp_R S 258 lk = some pa) (hC : CRg S pa t) (hP : ∀ r T x y, PV E [] S kc nc (rI (-2147483648) 2147483647) (fun v T => T = S ∧ ∀ z, v = some (.int z) → z = gotA t x1) [] r T x y → P r T x y) : TT xi M_X4_timesGot 0 [(0, .ref lk), (1, .int x1)] [] S kc nc P := by
  have hA : Af E [] S S := af_rf
  refine tt_aload_n (j := 0) dX4_timesGot_0 rfl ?_
  refine tt_iload_n (j := 1) dX4_timesGot_1 rfl ?_
  refine gt_VPp (As := [.int x1]) dX4_timesGot_2 ca_X4_67 ⟨by decide, by decide⟩ h0 hA rfl (Nat.le_of_ble_eq_true rfl) (Nat.le_of_ble_eq_true rfl) (by decide) (ck_pointIfMade hG (oa_af h0 hA) hpa (fun _ _ _ _ h => h)) rfl (fun _ h => nomatch h) (fun _ _ q => q.1) (fun hx => ?_) (fun b h5 hx => ?_)
  · refine tt_astore_nN (ks := [0, 1, 2]) (L' := [(2, .null), (0, .ref lk), (1, .int x1)]) dX4_timesGot_5 (by decide) rfl ?_
    refine tt_aload_nN (j := 0) dX4_timesGot_6 rfl ?_
    refine tt_ifnonnullN dX4_timesGot_7 ?_
    refine tt_iconst (v := 0) dX4_timesGot_10 rfl ?_
    refine tt_goto (tgt := 18) dX4_timesGot_11 rfl ?_
    refine tt_ireturn dX4_timesGot_18 .int rfl rfl (hP _ _ _ _ ⟨hG, hA, Or.inl ⟨_, rfl, ⟨_, rfl, rg_w (⟨by decide, by decide⟩ : Rg 0 0 0)⟩, ⟨rfl, fun z hz => ?_⟩, rfl, rfl⟩⟩)
    cases hz
    unfold gotA
    by_cases c : 0 ≤ x1.toInt ∧ x1.toInt ≤ 199
    · rw [if_pos c]
      exact ((hC _ (rg_cl (n := 200) (c : Rg 0 199 x1))).1 (vr_n (hx.2.1 c))).symm
    · rw [if_neg c]
  · have hr : Rg 0 199 x1 := Classical.byContradiction (fun c => by
      have := hx.2.2 c
      injection this with z
      cases z)
    have e := vr_s (hx.2.1 hr)
    refine tt_astore_n (ks := [0, 1, 2]) (L' := [(2, .ref b), (0, .ref lk), (1, .int x1)]) dX4_timesGot_5 (by decide) rfl ?_
    refine tt_aload_n (j := 0) dX4_timesGot_6 rfl ?_
    refine tt_ifnonnull (tgt := 14) dX4_timesGot_7 rfl ?_
    refine tt_aload_n (j := 0) dX4_timesGot_14 rfl ?_
    refine tt_getI (id := 321) dX4_timesGot_15 fl_4_59 rfl rfl (ob_af h5 hA) ?_
    refine tt_ireturn dX4_timesGot_18 .int rfl rfl (hP _ _ _ _ ⟨hG, hA, Or.inl ⟨_, rfl, ⟨_, rfl, rg_w (rg_all _)⟩, ⟨rfl, fun z hz => ?_⟩, rfl, rfl⟩⟩)
    have ez : hp_I S 321 b = z := by injection hz with y; injection y
    rw [← ez]
    unfold gotA
    rw [if_pos (show 0 ≤ x1.toInt ∧ x1.toInt ≤ 199 from hr)]
    exact ((hC _ (rg_cl hr)).2 b e).1
theorem ck_reached (hG : GI S E) (h0 : Oa S E 9 0 o0) (hlk : hp_R S 579 o0 = some lk) (hpa : hp_R S 258 lk = some pa) (hC : CRg S pa t) (hP : ∀ r T x y, PV E [] S kc nc (rI (-2147483648) 2147483647) (fun v T => T = S ∧ ∀ z, v = some (.int z) → z = gotA t x1) [] r T x y → P r T x y) : TT xi M_X9_reached 0 [(0, .ref o0), (1, .int x1)] [] S kc nc P := by
  have hA : Af E [] S S := af_rf
  have ho := lk_O hG h0 hlk
  refine tt_aload_n (j := 0) dX9_reached_0 rfl ?_
  refine gt_gR (id := 579) dX9_reached_1 fl_9_37 rfl rfl h0 hA hlk ?_
  refine tt_iload_n (j := 1) dX9_reached_4 rfl ?_
  refine gt_VIp (As := [.int x1]) dX9_reached_5 ca_X9_115 ⟨by decide, by decide⟩ ho hA rfl (Nat.le_of_ble_eq_true rfl) (Nat.le_of_ble_eq_true rfl) (by decide) (ck_timesGot hG (oa_af ho hA) hpa hC (fun _ _ _ _ h => h)) rfl (fun _ h => nomatch h) (fun _ _ q => q.1) (fun z hz hx => ?_)
  exact tt_ireturn dX9_reached_8 .int rfl rfl (hP _ _ _ _ ⟨hG, hA, Or.inl ⟨_, rfl, ⟨_, rfl, rg_w hz⟩, hx, rfl, rfl⟩⟩)
theorem got_in (hZ : Zn (hp_I S 642 m) t) (hn : Rg 0 200 (hp_I S 642 m)) (h : ¬ (¬ x1.toInt64 < 0 ∧ ¬ ((hp_I S 642 m) - 1).toInt64 < x1.toInt64)) : gotA t x1 = 0 := by
  unfold gotA
  by_cases c : 0 ≤ x1.toInt ∧ x1.toInt ≤ 199
  · rw [if_pos c]
    refine hZ _ ?_
    have e1 : x1.toNatClampNeg = x1.toInt.toNat := rfl
    have e2 : (hp_I S 642 m).toNatClampNeg = (hp_I S 642 m).toInt.toNat := rfl
    have a1 : ¬ x1.toInt64 < 0 := by
      rw [Int64.lt_iff_toInt_lt, Int32.toInt_toInt64, show (0 : Int64).toInt = 0 from rfl]
      omega
    have a2 : ((hp_I S 642 m) - 1).toInt64 < x1.toInt64 := Classical.byContradiction (fun z => h ⟨a1, z⟩)
    rw [Int64.lt_iff_toInt_lt, Int32.toInt_toInt64, Int32.toInt_toInt64] at a2
    have e3 : ((hp_I S 642 m) - 1).toInt = (hp_I S 642 m).toInt - 1 := by
      have := hn.1
      have := hn.2
      rw [Int32.toInt_sub, show (1 : Int32).toInt = 1 from rfl, bmod_in (by omega) (by omega)]
    have := hn.1
    omega
  · rw [if_neg c]
set_option maxHeartbeats 4000000 in
theorem cg_isReached (hG : GI S E) (h0 : Oa S E 10 0 m) (hR : RK S R) (hT : RTg R m (sg S) t) (h9 : ∀ i, 0 ≤ (t i).1.toInt) (hZ : Zn (hp_I S 642 m) t) (hP : ∀ r T x y, PV E [] S kc nc (rI 0 1) (fun v T => T = S ∧ ∀ z, v = some (.int z) → (z = 0 ↔ gotA t x1 = 0) ∧ (¬ z = 0 → Rg 0 199 x1)) [] r T x y → P r T x y) : TT xi M_X10_isReached 0 [(0, .ref m), (1, .int x1)] [] S kc nc P := by
  have hA : Af E [] S S := af_rf
  have hn := gi_I (k := 642) hG h0 0 200
  have no : gotA t x1 = 0 → P (.inl (some (.int 0))) S kc nc := fun h => hP _ _ _ _ ⟨hG, hA, Or.inl ⟨_, rfl, ⟨_, rfl, rg_w (⟨by decide, by decide⟩ : Rg 0 0 0)⟩, ⟨rfl, fun z hz => by cases hz; exact ⟨⟨fun _ => h, fun _ => rfl⟩, fun q => absurd rfl q⟩⟩, rfl, rfl⟩⟩
  refine tt_iload_n (j := 1) dX10_isReached_0 rfl ?_
  refine tt_i2l dX10_isReached_1 ?_
  refine tt_lconst (v := 0) dX10_isReached_2 rfl ?_
  refine tt_aload_n (j := 0) dX10_isReached_3 rfl ?_
  refine tt_getI (id := 642) dX10_isReached_4 fl_10_71 rfl rfl (ob_af h0 hA) ?_
  refine tt_iconst (v := 1) dX10_isReached_7 rfl ?_
  refine tt_isub dX10_isReached_8 ?_
  refine tt_i2l dX10_isReached_9 ?_
  refine gt_SIp (As := [.long (x1 : Int32).toInt64, .long 0, .long (((hp_I S 642 m) - 1) : Int32).toInt64]) dX10_isReached_10 ca_X10_67 ⟨by decide, by decide⟩ hA (Nat.le_of_ble_eq_true rfl) (Nat.le_of_ble_eq_true rfl) (by decide) (cs_X10_isIn hG  (fun _ _ _ _ h => h)) rfl (fun _ h => nomatch h) (fun _ _ q => q.1) (fun x106 h107 hx105 => ?_)
  refine tt_if_eq (tgt := 29) dX10_isReached_13 rfl (fun q108 => ?_) (fun q108 => ?_)
  · refine tt_iconst (v := 0) dX10_isReached_29 rfl ?_
    exact tt_ireturn dX10_isReached_30 .boolean rfl rfl (no (got_in hZ hn ((hx105.2 _ rfl).2 q108)))
  · have h111 : Rl 0 199 (x1 : Int32).toInt64 := in_rl ((fun z e => (hx105.2 z e).1) _ rfl q108) (⟨by decide, by decide⟩ : Rl 0 0 0) (rg_i2l (rg_sub (lo := (-1)) (hi := 199) (gi_I (k := 642) hG (oa_af h0 hA) 0 200) (⟨by decide, by decide⟩ : Rg 1 1 1)))
    have h112 : Rg 0 199 x1 := rg_of_l h111
    have eg : gotA t x1 = (t x1.toNatClampNeg).1 := by
      unfold gotA
      rw [if_pos (show 0 ≤ x1.toInt ∧ x1.toInt ≤ 199 from h112)]
    have ev : hp_i S (R 647 m) x1.toNatClampNeg = gotA t x1 := by rw [eg]; exact (hT _ (rg_cl h112)).1
    refine tt_aload_n (j := 0) dX10_isReached_16 rfl ?_
    refine gt_gR (id := 647) dX10_isReached_17 fl_10_26 rfl rfl h0 hA (rk_R (k := 647) hR h0 32 201) ?_
    refine tt_iload_n (j := 1) dX10_isReached_20 rfl ?_
    refine gx_iL (v := gotA t x1) dX10_isReached_21 (rk_O (k := 647) hG hR h0 32 201) hA (rg_in h112) ev ?_
    have hpos : 0 ≤ (gotA t x1).toInt := by rw [eg]; exact h9 _
    refine tt_if_le (tgt := 29) dX10_isReached_22 rfl (fun q117 => ?_) (fun q117 => ?_)
    · refine tt_iconst (v := 0) dX10_isReached_29 rfl ?_
      refine tt_ireturn dX10_isReached_30 .boolean rfl rfl (no ?_)
      have l := Int32.le_iff_toInt_le.mp q117
      rw [show (0 : Int32).toInt = 0 from rfl] at l
      exact Int32.toInt_inj.mp (by rw [show (0 : Int32).toInt = 0 from rfl]; omega)
    · refine tt_iconst (v := 1) dX10_isReached_25 rfl ?_
      refine tt_goto (tgt := 30) dX10_isReached_26 rfl ?_
      refine tt_ireturn dX10_isReached_30 .boolean rfl rfl (hP _ _ _ _ ⟨hG, hA, Or.inl ⟨_, rfl, ⟨_, rfl, rg_w (⟨by decide, by decide⟩ : Rg 1 1 1)⟩, ⟨rfl, fun z hz => ?_⟩, rfl, rfl⟩⟩)
      cases hz
      refine ⟨⟨fun h => absurd h n10, fun h => ?_⟩, fun _ => h112⟩
      rw [h] at q117
      exact absurd (by decide) q117
set_option maxHeartbeats 4000000 in
theorem cg_reached (hG : GI S E) (h0 : Oa S E 10 0 m) (hR : RK S R) (hT : RTg R m (sg S) t) (h9 : ∀ i, 0 ≤ (t i).1.toInt) (hZ : Zn (hp_I S 642 m) t) (hP : ∀ r T x y, PV E [640] S kc nc (rI (-2147483648) 2147483647) (fun v T => v = some (.int (gotA t x1))) [] r T x y → P r T x y) : TT xi M_X10_reached 0 [(0, .ref m), (1, .int x1)] [] S kc nc P := by
  have hA : Af E [640] S S := af_rf
  refine tt_aload_n (j := 0) dX10_reached_0 rfl ?_
  refine tt_iconst (v := 0) dX10_reached_1 rfl ?_
  refine gx_pI (id := 640) (x := 0) dX10_reached_2 fl_10_55 rfl rfl h0 hA rfl rfl rfl (gp_I hG) (by decide) (fun h => absurd h (by decide)) (fun h => absurd h (by decide)) rfl (fun S1 hG1 hA1 e1 => ?_)
  have hT1 : RTg R m (sg S1) t := by rw [e1]; exact hT
  have hZ1 : Zn (hp_I S1 642 m) t := by rw [i_af (k := 642) h0 hA1]; exact hZ
  refine tt_aload_n (j := 0) dX10_reached_5 rfl ?_
  refine tt_iload_n (j := 1) dX10_reached_6 rfl ?_
  refine gt_VIp (As := [.int x1]) dX10_reached_7 ca_X10_313 ⟨by decide, by decide⟩ h0 hA1 rfl (Nat.le_of_ble_eq_true rfl) (Nat.le_of_ble_eq_true rfl) (by decide) (cg_isReached hG1 (oa_af h0 hA1) (rk_af hR hA1) hT1 h9 hZ1 (fun _ _ _ _ h => h)) rfl (fun _ h => nomatch h) (fun _ _ q => q.1) (fun z hz hx => ?_)
  obtain ⟨hz1, hz2⟩ := hx.2 z rfl
  refine tt_if_eq (tgt := 22) dX10_reached_10 rfl (fun q => ?_) (fun q => ?_)
  · refine tt_iconst (v := 0) dX10_reached_22 rfl ?_
    exact tt_ireturn dX10_reached_23 .int rfl rfl (hP _ _ _ _ ⟨hG1, hA1, Or.inl ⟨_, rfl, ⟨_, rfl, rg_w (⟨by decide, by decide⟩ : Rg 0 0 0)⟩, by rw [hz1.mp q], rfl, rfl⟩⟩)
  · have h112 := hz2 q
    have eg : gotA t x1 = (t x1.toNatClampNeg).1 := by
      unfold gotA
      rw [if_pos (show 0 ≤ x1.toInt ∧ x1.toInt ≤ 199 from h112)]
    refine tt_aload_n (j := 0) dX10_reached_13 rfl ?_
    refine gt_gR (id := 647) dX10_reached_14 fl_10_26 rfl rfl h0 hA1 (rk_R (k := 647) hR h0 32 201) ?_
    refine tt_iload_n (j := 1) dX10_reached_17 rfl ?_
    refine gx_iL (v := gotA t x1) dX10_reached_18 (rk_O (k := 647) hG hR h0 32 201) hA1 (rg_in h112) (by rw [eg]; exact (hT1 _ (rg_cl h112)).1) ?_
    refine tt_goto (tgt := 23) dX10_reached_19 rfl ?_
    exact tt_ireturn dX10_reached_23 .int rfl rfl (hP _ _ _ _ ⟨hG1, hA1, Or.inl ⟨_, rfl, ⟨_, rfl, rg_w (rg_all _)⟩, rfl, rfl, rfl⟩⟩)
end RCH
