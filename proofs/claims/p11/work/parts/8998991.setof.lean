/-! the sets that were found, and what they hold -/
def tsel (w : Int32) (t : Tr) : Int64 := if w = 0 then t.1 else if w = 1 then t.2.1 else t.2.2
def setA (t : Tb) (x l : Int32) : Tr := (t x.toNatClampNeg).2.2.1 l.toNatClampNeg
def hasA (t : Tb) (x l : Int32) (y : Int64) : Int32 := if gotA t x = 0 then 0 else K_holds (setA t x l) y
theorem got_rg {t : Tb} {x : Int32} (h : ¬ gotA t x = 0) : Rg 0 199 x ∧ ¬ (t x.toNatClampNeg).1 = 0 := by
  unfold gotA at h
  by_cases c : 0 ≤ x.toInt ∧ x.toInt ≤ 199
  · rw [if_pos c] at h; exact ⟨c, h⟩
  · rw [if_neg c] at h; exact absurd rfl h
theorem holds_ok {c : Ce} {y : Int64} (h : Gc c) : J_contains c y = K_holds (ab c) y := by
  unfold J_contains K_holds
  rcases h with h | ⟨h, hv⟩
  · rw [if_pos h, ab_2 h, if_pos rfl]
  · have h2 : ¬ c.1 = 2 := by rw [h]; decide
    obtain ⟨v1, v2, v3, v4, v5, v6⟩ := hv
    have n1 : ¬ c.2.2.2 = -1 := fun e => by
      rw [e, show ((-1) : Int64).toInt = -1 from rfl] at v4
      omega
    have n2 : ¬ c.2.2.2 < 0 := fun e => by
      have := i_lt.mp e
      rw [show (0 : Int64).toInt = 0 from rfl] at this
      omega
    rw [if_neg h2, if_pos h, ab_1 h, if_neg n1, if_neg n2]
    unfold Z_X10_isIn
    by_cases a1 : y < c.2.1
    · simp [a1]
    · by_cases a2 : c.2.2.1 < y
      · simp [a1, a2]
      · simp [a1, a2]
section SET
variable {xi : SX} {S T : Hp} {E ws : List Nat} {kc nc lk pa o0 o4 m : Nat} {P : Po} {x1 x2 x3 : Int32} {y3 : Int64} {t : Tb} {R : Nat → Nat → Nat}
set_option maxHeartbeats 4000000 in
theorem ck_spanOf (hE0 : E = []) (hG : GI S E) (h0 : Oa S E 4 0 lk) (hpa : hp_R S 258 lk = some pa) (hC : CRg S pa t) (hg : ¬ gotA t x1 = 0) (h2 : Rg 0 23 x2) (hP : ∀ r T x y, PV E [9987] S kc nc (rO S E 7 0) (fun v T => v = some (.ref (RR S 263 lk)) ∧ rS (sg T) (RR S 263 lk) = setA t x1 x2) [] r T x y → P r T x y) : TT xi M_X4_spanOf 0 [(0, .ref lk), (1, .int x1), (2, .int x2)] [] S kc nc P := by
  have hA : Af E [9987] S S := af_rf
  have hR := rk_gi hE0 hG
  obtain ⟨h1, hg2⟩ := got_rg hg
  have l1 : x1.toNatClampNeg < 200 := rg_cl h1
  refine tt_aload_n (j := 0) dX4_spanOf_0 rfl ?_
  refine tt_iload_n (j := 1) dX4_spanOf_1 rfl ?_
  refine gt_VPp (As := [.int x1]) dX4_spanOf_2 ca_X4_67 ⟨by decide, by decide⟩ h0 hA rfl (Nat.le_of_ble_eq_true rfl) (Nat.le_of_ble_eq_true rfl) (by decide) (ck_pointIfMade hG (oa_af h0 hA) hpa (fun _ _ _ _ h => h)) rfl (fun _ h => nomatch h) (fun _ _ q => q.1) (fun hx => ?_) (fun b h5 hx => ?_)
  · exact absurd ((hC _ l1).1 (vr_n (hx.2.1 h1))) hg2
  · have e := vr_s (hx.2.1 h1)
    have hst := rk_O (k := 320) hG hR h5 8 0
    have hsp := rk_O (k := 263) hG hR h0 7 0
    refine tt_astore_n (ks := [0, 1, 2, 3]) (L' := [(3, .ref b), (0, .ref lk), (1, .int x1), (2, .int x2)]) dX4_spanOf_5 (by decide) rfl ?_
    refine tt_aload_n (j := 0) dX4_spanOf_6 rfl ?_
    refine tt_ifnonnull (tgt := 20) dX4_spanOf_7 rfl ?_
    refine tt_aload_n (j := 0) dX4_spanOf_20 rfl ?_
    refine gt_gR (id := 320) dX4_spanOf_21 fl_4_74 rfl rfl h5 hA (rk_R (k := 320) hR h5 8 0) ?_
    refine tt_iload_n (j := 3) dX4_spanOf_24 rfl ?_
    refine tt_aload_n (j := 1) dX4_spanOf_25 rfl ?_
    refine gt_gR (id := 263) dX4_spanOf_26 fl_4_45 rfl rfl h0 hA (rk_R (k := 263) hR h0 7 0) ?_
    refine gt_Vv (As := [.int x2, .ref (RR S 263 lk)]) dX4_spanOf_29 ca_X4_77 ⟨by decide, by decide⟩ hst hA rfl (Nat.le_of_ble_eq_true rfl) (Nat.le_of_ble_eq_true rfl) (by decide) (cz_X8_load hG (oa_af hst hA) (oa_af hsp hA) hR (fun _ _ _ _ h => h)) rfl (fun _ h => nomatch h) (fun S1 hx1 hG1 hB1 hA1 => ?_)
    refine tt_aload_n (j := 1) dX4_spanOf_32 rfl ?_
    refine gt_gR (id := 263) dX4_spanOf_33 fl_4_45 rfl rfl h0 hA1 (rk_R (k := 263) hR h0 7 0) ?_
    refine tt_areturn dX4_spanOf_36 rfl (hP _ _ _ _ ⟨hG1, hA1, Or.inl ⟨_, rfl, ⟨_, rfl, hsp⟩, ⟨rfl, ?_⟩, rfl, rfl⟩⟩)
    have e1 : sg S1 = Z_X8_load (RR S) (sg S) (RR S 320 b) x2 (RR S 263 lk) := hx1
    rw [e1, zk_load, rS_w3, ldT_in h2]
    exact ((hC _ l1).2 b e).2 hg2 _ (cl_23 h2)
set_option maxHeartbeats 4000000 in
theorem ck_seto (hE0 : E = []) (hG : GI S E) (h0 : Oa S E 9 0 o0) (hlk : hp_R S 579 o0 = some lk) (hpa : hp_R S 258 lk = some pa) (hC : CRg S pa t) (h2 : Rg 0 23 x2) (h3 : Rg 0 2 x3) (hg : ¬ gotA t x1 = 0) (hP : ∀ r T x y, PV E [9987] S kc nc rJ (fun v T => v = some (.long (tsel x3 (setA t x1 x2)))) [] r T x y → P r T x y) : TT xi M_X9_set 0 [(0, .ref o0), (1, .int x1), (2, .int x2), (3, .int x3)] [] S kc nc P := by
  have hA : Af E [9987] S S := af_rf
  have ho := lk_O hG h0 hlk
  refine tt_iload_n (j := 2) dX9_set_0 rfl ?_
  refine gt_Svp (As := [.int x2]) dX9_set_1 ca_X9_77 ⟨by decide, by decide⟩ hA (Nat.le_of_ble_eq_true rfl) (Nat.le_of_ble_eq_true rfl) (by decide) (co_X9_requireLocation_any hG (rg_w h2) (fun _ _ _ _ h => h)) rfl (fun _ h => nomatch h) (fun _ _ q => q) (fun hx105 => ?_)
  refine tt_iload_n (j := 3) dX9_set_4 rfl ?_
  refine tt_if_lt (tgt := 13) dX9_set_5 rfl (fun q => ?_) (fun q => ?_)
  · exact rg_no (rg_lt_l (hi := -1) h3 (⟨by decide, by decide⟩ : Rg 0 0 0) q)
  refine tt_iload_n (j := 3) dX9_set_8 rfl ?_
  refine tt_iconst (v := 2) dX9_set_9 rfl ?_
  refine tt_icmp_le (tgt := 23) dX9_set_10 rfl (fun q2 => ?_) (fun q2 => ?_)
  rotate_left
  · exact rg_no (rg_lt_r (lo := 3) (⟨by decide, by decide⟩ : Rg 2 2 2) h3 (nle_lt q2))
  refine tt_aload_n (j := 0) dX9_set_23 rfl ?_
  refine gt_gR (id := 579) dX9_set_24 fl_9_37 rfl rfl h0 hA hlk ?_
  refine tt_iload_n (j := 1) dX9_set_27 rfl ?_
  refine gt_VIp (As := [.int x1]) dX9_set_28 ca_X9_115 ⟨by decide, by decide⟩ ho hA rfl (Nat.le_of_ble_eq_true rfl) (Nat.le_of_ble_eq_true rfl) (by decide) (ck_timesGot hG (oa_af ho hA) hpa hC (fun _ _ _ _ h => h)) rfl (fun _ h => nomatch h) (fun _ _ q => q.1) (fun z hz hx => ?_)
  have ez := hx.2 z rfl
  refine tt_if_ne (tgt := 44) dX9_set_31 rfl (fun q3 => ?_) (fun q3 => ?_)
  rotate_left
  · exact absurd (ez.symm.trans q3) hg
  refine tt_aload_n (j := 0) dX9_set_44 rfl ?_
  refine gt_gR (id := 579) dX9_set_45 fl_9_37 rfl rfl h0 hA hlk ?_
  refine tt_iload_n (j := 1) dX9_set_48 rfl ?_
  refine tt_iload_n (j := 2) dX9_set_49 rfl ?_
  refine gt_VO (As := [.int x1, .int x2]) dX9_set_50 ca_X9_122 ⟨by decide, by decide⟩ ho hA rfl (Nat.le_of_ble_eq_true rfl) (Nat.le_of_ble_eq_true rfl) (by decide) (ck_spanOf hE0 hG (oa_af ho hA) hpa hC hg h2 (fun _ _ _ _ h => h)) rfl (fun _ h => nomatch h) (fun S1 b hb hx1 hG1 hB1 hA1 => ?_)
  obtain ⟨eb, er⟩ := hx1
  have eb2 : RR S 263 lk = b := by injection eb with z; injection z with z; exact z.symm
  rw [eb2] at er
  refine tt_astore (ks := [0, 1, 2, 3, 4]) (L' := [(4, .ref b), (0, .ref o0), (1, .int x1), (2, .int x2), (3, .int x3)]) dX9_set_53 (by decide) rfl ?_
  refine tt_iload_n (j := 4) dX9_set_55 rfl ?_
  have e1 : hp_J S1 448 b = (setA t x1 x2).1 := congrArg (fun q => q.1) er
  have e2 : hp_J S1 449 b = (setA t x1 x2).2.1 := congrArg (fun q => q.2.1) er
  have e3 : hp_J S1 450 b = (setA t x1 x2).2.2 := congrArg (fun q => q.2.2) er
  have K : ∀ y, y = tsel x3 (setA t x1 x2) → P (.inl (some (.long y))) S1 kc nc := fun y hy => hP _ _ _ _ ⟨hG1, hA1, Or.inl ⟨_, rfl, ⟨_, rfl⟩, by rw [hy], rfl, rfl⟩⟩
  refine tt_if_ne (tgt := 67) dX9_set_56 rfl (fun q4 => ?_) (fun q4 => ?_)
  · refine tt_iload_n (j := 4) dX9_set_67 rfl ?_
    refine tt_iconst (v := 1) dX9_set_68 rfl ?_
    have q4' : ¬ x3 = 0 := q4
    refine tt_icmp_ne (tgt := 80) dX9_set_69 rfl (fun q5 => ?_) (fun q5 => ?_)
    · refine tt_aload (j := 0) dX9_set_80 rfl ?_
      refine gt_gJ (id := 450) (v := (setA t x1 x2).2.2) dX9_set_82 fl_9_132 rfl rfl hb hA1 e3 ?_
      refine tt_lreturn dX9_set_85 rfl (K _ ?_)
      have q5' : ¬ x3 = 1 := q5
      unfold tsel
      rw [if_neg q4', if_neg q5']
    · refine tt_aload (j := 0) dX9_set_72 rfl ?_
      refine gt_gJ (id := 449) (v := (setA t x1 x2).2.1) dX9_set_74 fl_9_129 rfl rfl hb hA1 e2 ?_
      refine tt_goto (tgt := 85) dX9_set_77 rfl ?_
      refine tt_lreturn dX9_set_85 rfl (K _ ?_)
      unfold tsel
      rw [if_neg q4', if_pos q5]
  · refine tt_aload (j := 0) dX9_set_59 rfl ?_
    refine gt_gJ (id := 448) (v := (setA t x1 x2).1) dX9_set_61 fl_9_126 rfl rfl hb hA1 e1 ?_
    refine tt_goto (tgt := 85) dX9_set_64 rfl ?_
    refine tt_lreturn dX9_set_85 rfl (K _ ?_)
    unfold tsel
    rw [if_pos q4]
set_option maxHeartbeats 4000000 in
theorem ck_setk (hG : GI S E) (h0 : Oa S E 9 0 o0) (hlk : hp_R S 579 o0 = some lk) (hpa : hp_R S 258 lk = some pa) (hC : CRg S pa t) (h2 : Rg 0 23 x2) (h3 : Rg 0 2 x3) (hg : gotA t x1 = 0) (hkc : 1 ≤ kc) (hnc : 6 ≤ nc) (hP : ∀ r T x y, PV E [] S kc nc (fun _ => False) ex0 ["java/lang/IllegalStateException"] r T x y → P r T x y) : TT xi M_X9_set 0 [(0, .ref o0), (1, .int x1), (2, .int x2), (3, .int x3)] [] S kc nc P := by
  have hA : Af E [] S S := af_rf
  have ho := lk_O hG h0 hlk
  refine tt_iload_n (j := 2) dX9_set_0 rfl ?_
  refine gt_Svp (As := [.int x2]) dX9_set_1 ca_X9_77 ⟨by decide, by decide⟩ hA (Nat.le_of_ble_eq_true rfl) (Nat.le_of_ble_eq_true rfl) (by decide) (co_X9_requireLocation_any hG (rg_w h2) (fun _ _ _ _ h => h)) rfl (fun _ h => nomatch h) (fun _ _ q => q) (fun hx105 => ?_)
  refine tt_iload_n (j := 3) dX9_set_4 rfl ?_
  refine tt_if_lt (tgt := 13) dX9_set_5 rfl (fun q => ?_) (fun q => ?_)
  · exact rg_no (rg_lt_l (hi := -1) h3 (⟨by decide, by decide⟩ : Rg 0 0 0) q)
  refine tt_iload_n (j := 3) dX9_set_8 rfl ?_
  refine tt_iconst (v := 2) dX9_set_9 rfl ?_
  refine tt_icmp_le (tgt := 23) dX9_set_10 rfl (fun q2 => ?_) (fun q2 => ?_)
  rotate_left
  · exact rg_no (rg_lt_r (lo := 3) (⟨by decide, by decide⟩ : Rg 2 2 2) h3 (nle_lt q2))
  refine tt_aload_n (j := 0) dX9_set_23 rfl ?_
  refine gt_gR (id := 579) dX9_set_24 fl_9_37 rfl rfl h0 hA hlk ?_
  refine tt_iload_n (j := 1) dX9_set_27 rfl ?_
  refine gt_VIp (As := [.int x1]) dX9_set_28 ca_X9_115 ⟨by decide, by decide⟩ ho hA rfl (Nat.le_of_ble_eq_true rfl) (Nat.le_of_ble_eq_true rfl) (by decide) (ck_timesGot hG (oa_af ho hA) hpa hC (fun _ _ _ _ h => h)) rfl (fun _ h => nomatch h) (fun _ _ q => q.1) (fun z hz hx => ?_)
  have ez := hx.2 z rfl
  refine tt_if_ne (tgt := 44) dX9_set_31 rfl (fun q3 => ?_) (fun q3 => ?_)
  · exact absurd (ez.trans hg) q3
  · exact tt_throw th_X9_set_34 (hP _ _ _ _ ⟨hG, hA, Or.inr ⟨_, List.mem_cons_self, rfl⟩⟩) hkc hnc (by decide)
set_option maxHeartbeats 4000000 in
theorem ck_setn (hG : GI S E) (h0 : Oa S E 9 0 o0) (hq : ¬ (Rg 0 23 x2 ∧ Rg 0 2 x3)) (hkc : 1 ≤ kc) (hnc : 6 ≤ nc) (hP : ∀ r T x y, PV E [] S kc nc (fun _ => False) ex0 ["java/lang/IllegalArgumentException"] r T x y → P r T x y) : TT xi M_X9_set 0 [(0, .ref o0), (1, .int x1), (2, .int x2), (3, .int x3)] [] S kc nc P := by
  have hA : Af E [] S S := af_rf
  refine tt_iload_n (j := 2) dX9_set_0 rfl ?_
  by_cases h2 : Rg 0 23 x2
  · refine gt_Svp (As := [.int x2]) dX9_set_1 ca_X9_77 ⟨by decide, by decide⟩ hA (Nat.le_of_ble_eq_true rfl) (Nat.le_of_ble_eq_true rfl) (by decide) (co_X9_requireLocation_any hG (rg_w h2) (fun _ _ _ _ h => h)) rfl (fun _ h => nomatch h) (fun _ _ q => q) (fun hx105 => ?_)
    have B : TT xi M_X9_set 13 [(0, .ref o0), (1, .int x1), (2, .int x2), (3, .int x3)] [] S kc nc P := tt_throw th_X9_set_13 (hP _ _ _ _ ⟨hG, hA, Or.inr ⟨_, List.mem_cons_self, rfl⟩⟩) hkc hnc (by decide)
    refine tt_iload_n (j := 3) dX9_set_4 rfl ?_
    refine tt_if_lt (tgt := 13) dX9_set_5 rfl (fun q => B) (fun q => ?_)
    refine tt_iload_n (j := 3) dX9_set_8 rfl ?_
    refine tt_iconst (v := 2) dX9_set_9 rfl ?_
    refine tt_icmp_le (tgt := 23) dX9_set_10 rfl (fun q2 => ?_) (fun q2 => B)
    exact absurd ⟨h2, rg_le_l (rg_le_r (lo := 0) (⟨by decide, by decide⟩ : Rg 0 0 0) (rg_all x3) (nlt_le q)) (⟨by decide, by decide⟩ : Rg 2 2 2) q2⟩ hq
  · exact gt_S (As := [.int x2]) dX9_set_1 ca_X9_77 ⟨by decide, by decide⟩ hA (Nat.le_of_ble_eq_true rfl) (Nat.le_of_ble_eq_true rfl) (by decide) (cn_X9_requireLocation_any hG h2 hkc hnc (fun _ _ _ _ h => h)) rfl (fun X hX T g1 g2 => hP _ _ _ _ ⟨g1, g2, Or.inr ⟨X, hX, rfl⟩⟩) (fun _ _ h => h.elim)
set_option maxHeartbeats 4000000 in
theorem ckwo_L_set (hE0 : E = []) (hlk : hp_R S 579 o0 = some lk) (hpa : hp_R S 258 lk = some pa) (hC : CRg S pa t) (h2 : Rg 0 23 x2) (h3 : Rg 0 2 x3) (hg : ¬ gotA t x1 = 0) (hG : GI S E) (h0 : Oa S E 9 0 o0) (h4 : Oa S E 33 1 o4) (hP : ∀ r T x y, PX E [9987, 9996] S (fun z T => z = 0 ∧ hp_j T o4 (0 : Int32).toNatClampNeg = tsel x3 (setA t x1 x2)) r T x y → P r T x y) : TT xi M_L_set 0 [(0, .ref o0), (1, .int x1), (2, .int x2), (3, .int x3), (4, .ref o4)] [] S 1 6 P := by
  have hA : Af E [9987, 9996] S S := af_rf
  refine tt_aload (j := 4) dL_set_0 rfl ?_
  refine tt_iconst (v := 0) dL_set_2 rfl ?_
  refine tt_aload_n (j := 0) dL_set_3 rfl ?_
  refine tt_iload_n (j := 1) dL_set_4 rfl ?_
  refine tt_iload_n (j := 2) dL_set_5 rfl ?_
  refine tt_iload_n (j := 3) dL_set_6 rfl ?_
  refine gt_VC0 (As := [.int x1, .int x2, .int x3]) dL_set_7 ca_L_33 ⟨by decide, by decide⟩ h0 hA rfl (Nat.le_of_ble_eq_true rfl) (Nat.le_of_ble_eq_true rfl) (by decide) (ck_seto hE0 hG (oa_af h0 hA) hlk hpa hC h2 h3 hg (fun _ _ _ _ h => h)) (fun S1 v hv hx hG1 hB1 hA1 => ?_)
  obtain ⟨y, rfl⟩ := hv
  have ey : y = tsel x3 (setA t x1 x2) := el_w hx
  show TT xi M_L_set 10 [(0, .ref o0), (1, .int x1), (2, .int x2), (3, .int x3), (4, .ref o4)] [.long y, .int 0, .ref o4] S1 1 6 P
  refine gt_lS1 dL_set_10 h4 hA1 (rg_in (⟨by decide, by decide⟩ : Rg 0 0 0)) hG1 (Or.inr (by decide)) (by decide) (fun S2 hG2 hA2 e117 f118 er119 ej120 => ?_)
  refine tt_goto (tgt := 22) dL_set_11 rfl ?_
  refine tt_iconst (v := 0) dL_set_22 rfl ?_
  exact tt_ireturn dL_set_23 .int rfl rfl (hP _ _ _ _ ⟨hG2, hA2, _, rfl, rfl, ej120.trans ey⟩)
set_option maxHeartbeats 4000000 in
theorem ckwk_L_set (hlk : hp_R S 579 o0 = some lk) (hpa : hp_R S 258 lk = some pa) (hC : CRg S pa t) (h2 : Rg 0 23 x2) (h3 : Rg 0 2 x3) (hg : gotA t x1 = 0) (hG : GI S E) (h0 : Oa S E 9 0 o0) (h4 : Oa S E 33 1 o4) (hP : ∀ r T x y, PW E [] S (fun z => z = 2) r T x y → P r T x y) : TT xi M_L_set 0 [(0, .ref o0), (1, .int x1), (2, .int x2), (3, .int x3), (4, .ref o4)] [] S 1 6 P := by
  have hA : Af E [] S S := af_rf
  refine tt_aload (j := 4) dL_set_0 rfl ?_
  refine tt_iconst (v := 0) dL_set_2 rfl ?_
  refine tt_aload_n (j := 0) dL_set_3 rfl ?_
  refine tt_iload_n (j := 1) dL_set_4 rfl ?_
  refine tt_iload_n (j := 2) dL_set_5 rfl ?_
  refine tt_iload_n (j := 3) dL_set_6 rfl ?_
  refine gt_VC1 (As := [.int x1, .int x2, .int x3]) dL_set_7 ca_L_33 ⟨by decide, by decide⟩ h0 hA rfl (Nat.le_of_ble_eq_true rfl) (Nat.le_of_ble_eq_true rfl) (by decide) ch_L_set_1 (ck_setk hG (oa_af h0 hA) hlk hpa hC h2 h3 hg (by decide) (by decide) (fun _ _ _ _ h => h)) (fun S108 q109 hG110 hB111 hA112 => ?_) (fun _ _ h => h.elim)
  refine tt_astore (ks := [0, 1, 2, 3, 4, 5]) (L' := [(5, .ref q109), (0, .ref o0), (1, .int x1), (2, .int x2), (3, .int x3), (4, .ref o4)]) dL_set_18 (by decide) rfl ?_
  refine tt_iconst (v := 2) dL_set_20 rfl ?_
  exact tt_ireturn dL_set_21 .int rfl rfl (hP _ _ _ _ ⟨hG110, hA112, _, rfl, rfl⟩)
set_option maxHeartbeats 4000000 in
theorem ckwn_L_set (hq : ¬ (Rg 0 23 x2 ∧ Rg 0 2 x3)) (hG : GI S E) (h0 : Oa S E 9 0 o0) (h4 : Oa S E 33 1 o4) (hP : ∀ r T x y, PW E [] S (fun z => z = 1) r T x y → P r T x y) : TT xi M_L_set 0 [(0, .ref o0), (1, .int x1), (2, .int x2), (3, .int x3), (4, .ref o4)] [] S 1 6 P := by
  have hA : Af E [] S S := af_rf
  refine tt_aload (j := 4) dL_set_0 rfl ?_
  refine tt_iconst (v := 0) dL_set_2 rfl ?_
  refine tt_aload_n (j := 0) dL_set_3 rfl ?_
  refine tt_iload_n (j := 1) dL_set_4 rfl ?_
  refine tt_iload_n (j := 2) dL_set_5 rfl ?_
  refine tt_iload_n (j := 3) dL_set_6 rfl ?_
  refine gt_VC1 (As := [.int x1, .int x2, .int x3]) dL_set_7 ca_L_33 ⟨by decide, by decide⟩ h0 hA rfl (Nat.le_of_ble_eq_true rfl) (Nat.le_of_ble_eq_true rfl) (by decide) ch_L_set_0 (ck_setn hG (oa_af h0 hA) hq (by decide) (by decide) (fun _ _ _ _ h => h)) (fun S108 q109 hG110 hB111 hA112 => ?_) (fun _ _ h => h.elim)
  refine tt_astore (ks := [0, 1, 2, 3, 4, 5]) (L' := [(5, .ref q109), (0, .ref o0), (1, .int x1), (2, .int x2), (3, .int x3), (4, .ref o4)]) dL_set_14 (by decide) rfl ?_
  refine tt_iconst (v := 1) dL_set_16 rfl ?_
  exact tt_ireturn dL_set_17 .int rfl rfl (hP _ _ _ _ ⟨hG110, hA112, _, rfl, rfl⟩)
set_option maxHeartbeats 4000000 in
theorem ck_haso (hE0 : E = []) (hG : GI S E) (h0 : Oa S E 9 0 o0) (hlk : hp_R S 579 o0 = some lk) (hpa : hp_R S 258 lk = some pa) (hC : CRg S pa t) (h2 : Rg 0 23 x2) (hP : ∀ r T x y, PV E [9987] S kc nc (rI 0 1) (fun v T => v = some (.int (hasA t x1 x2 y3))) [] r T x y → P r T x y) : TT xi M_X9_has 0 [(0, .ref o0), (1, .int x1), (2, .int x2), (3, .long y3)] [] S kc nc P := by
  have hA : Af E [9987] S S := af_rf
  have ho := lk_O hG h0 hlk
  refine tt_iload_n (j := 2) dX9_has_0 rfl ?_
  refine gt_Svp (As := [.int x2]) dX9_has_1 ca_X9_77 ⟨by decide, by decide⟩ hA (Nat.le_of_ble_eq_true rfl) (Nat.le_of_ble_eq_true rfl) (by decide) (co_X9_requireLocation_any hG (rg_w h2) (fun _ _ _ _ h => h)) rfl (fun _ h => nomatch h) (fun _ _ q => q) (fun hx105 => ?_)
  refine tt_aload_n (j := 0) dX9_has_4 rfl ?_
  refine gt_gR (id := 579) dX9_has_5 fl_9_37 rfl rfl h0 hA hlk ?_
  refine tt_iload_n (j := 1) dX9_has_8 rfl ?_
  refine gt_VIp (As := [.int x1]) dX9_has_9 ca_X9_115 ⟨by decide, by decide⟩ ho hA rfl (Nat.le_of_ble_eq_true rfl) (Nat.le_of_ble_eq_true rfl) (by decide) (ck_timesGot hG (oa_af ho hA) hpa hC (fun _ _ _ _ h => h)) rfl (fun _ h => nomatch h) (fun _ _ q => q.1) (fun z hz hx => ?_)
  have ez := hx.2 z rfl
  refine tt_if_eq (tgt := 35) dX9_has_12 rfl (fun q => ?_) (fun q => ?_)
  · refine tt_iconst (v := 0) dX9_has_35 rfl ?_
    refine tt_ireturn dX9_has_36 .boolean rfl rfl (hP _ _ _ _ ⟨hG, hA, Or.inl ⟨_, rfl, ⟨_, rfl, rg_w (⟨by decide, by decide⟩ : Rg 0 0 0)⟩, ?_, rfl, rfl⟩⟩)
    unfold hasA
    rw [if_pos (ez.symm.trans q)]
  · have hg : ¬ gotA t x1 = 0 := fun h => q (ez.trans h)
    refine tt_aload_n (j := 0) dX9_has_15 rfl ?_
    refine gt_gR (id := 579) dX9_has_16 fl_9_37 rfl rfl h0 hA hlk ?_
    refine tt_iload_n (j := 1) dX9_has_19 rfl ?_
    refine tt_iload_n (j := 2) dX9_has_20 rfl ?_
    refine gt_VO (As := [.int x1, .int x2]) dX9_has_21 ca_X9_122 ⟨by decide, by decide⟩ ho hA rfl (Nat.le_of_ble_eq_true rfl) (Nat.le_of_ble_eq_true rfl) (by decide) (ck_spanOf hE0 hG (oa_af ho hA) hpa hC hg h2 (fun _ _ _ _ h => h)) rfl (fun _ h => nomatch h) (fun S1 b hb hx1 hG1 hB1 hA1 => ?_)
    obtain ⟨eb, er⟩ := hx1
    have eb2 : RR S 263 lk = b := by injection eb with z; injection z with z; exact z.symm
    rw [eb2] at er
    refine tt_lload_n (j := 3) dX9_has_24 rfl ?_
    refine gt_VIp (As := [.long y3]) dX9_has_25 ca_X9_135 ⟨by decide, by decide⟩ hb hA1 rfl (Nat.le_of_ble_eq_true rfl) (Nat.le_of_ble_eq_true rfl) (by decide) (cz_X7_holds hG1 (oa_af hb hA1) (rk_gi hE0 hG1) (fun _ _ _ _ h => h)) rfl (fun _ h => nomatch h) (fun _ _ q => q.1) (fun w hw hxw => ?_)
    have ew : w = K_holds (setA t x1 x2) y3 := by
      rw [ei_w hxw.2, zk_holds, er]
    have eh : hasA t x1 x2 y3 = w := by
      unfold hasA
      rw [if_neg hg, ew]
    refine tt_if_eq (tgt := 35) dX9_has_28 rfl (fun q2 => ?_) (fun q2 => ?_)
    · refine tt_iconst (v := 0) dX9_has_35 rfl ?_
      exact tt_ireturn dX9_has_36 .boolean rfl rfl (hP _ _ _ _ ⟨hG1, hA1, Or.inl ⟨_, rfl, ⟨_, rfl, rg_w (⟨by decide, by decide⟩ : Rg 0 0 0)⟩, by rw [eh, q2], rfl, rfl⟩⟩)
    · have w1 : w = 1 := rg_eqc (rg_ne_lo (lo := 1) hw (⟨by decide, by decide⟩ : Rg 0 0 0) q2)
      refine tt_iconst (v := 1) dX9_has_31 rfl ?_
      refine tt_goto (tgt := 36) dX9_has_32 rfl ?_
      exact tt_ireturn dX9_has_36 .boolean rfl rfl (hP _ _ _ _ ⟨hG1, hA1, Or.inl ⟨_, rfl, ⟨_, rfl, rg_w (⟨by decide, by decide⟩ : Rg 1 1 1)⟩, by rw [eh, w1], rfl, rfl⟩⟩)
theorem ck_hasn (hG : GI S E) (h0 : Oa S E 9 0 o0) (h2 : ¬ Rg 0 23 x2) (hkc : 1 ≤ kc) (hnc : 6 ≤ nc) (hP : ∀ r T x y, PV E [] S kc nc (fun _ => False) ex0 ["java/lang/IllegalArgumentException"] r T x y → P r T x y) : TT xi M_X9_has 0 [(0, .ref o0), (1, .int x1), (2, .int x2), (3, .long y3)] [] S kc nc P := by
  have hA : Af E [] S S := af_rf
  refine tt_iload_n (j := 2) dX9_has_0 rfl ?_
  exact gt_S (As := [.int x2]) dX9_has_1 ca_X9_77 ⟨by decide, by decide⟩ hA (Nat.le_of_ble_eq_true rfl) (Nat.le_of_ble_eq_true rfl) (by decide) (cn_X9_requireLocation_any hG h2 hkc hnc (fun _ _ _ _ h => h)) rfl (fun X hX T g1 g2 => hP _ _ _ _ ⟨g1, g2, Or.inr ⟨X, hX, rfl⟩⟩) (fun _ _ h => h.elim)
set_option maxHeartbeats 4000000 in
theorem ckwo_L_has {o5 : Nat} (hE0 : E = []) (hlk : hp_R S 579 o0 = some lk) (hpa : hp_R S 258 lk = some pa) (hC : CRg S pa t) (h2 : Rg 0 23 x2) (hG : GI S E) (h0 : Oa S E 9 0 o0) (h5 : Oa S E 33 1 o5) (hP : ∀ r T x y, PX E [9987, 9996] S (fun z T => z = 0 ∧ hp_j T o5 (0 : Int32).toNatClampNeg = if hasA t x1 x2 y3 = 0 then 0 else 1) r T x y → P r T x y) : TT xi M_L_has 0 [(0, .ref o0), (1, .int x1), (2, .int x2), (3, .long y3), (5, .ref o5)] [] S 1 6 P := by
  have hA : Af E [9987, 9996] S S := af_rf
  refine tt_aload (j := 4) dL_has_0 rfl ?_
  refine tt_iconst (v := 0) dL_has_2 rfl ?_
  refine tt_aload_n (j := 0) dL_has_3 rfl ?_
  refine tt_iload_n (j := 1) dL_has_4 rfl ?_
  refine tt_iload_n (j := 2) dL_has_5 rfl ?_
  refine tt_lload_n (j := 3) dL_has_6 rfl ?_
  refine gt_VC0 (As := [.int x1, .int x2, .long y3]) dL_has_7 ca_L_37 ⟨by decide, by decide⟩ h0 hA rfl (Nat.le_of_ble_eq_true rfl) (Nat.le_of_ble_eq_true rfl) (by decide) (ck_haso hE0 hG (oa_af h0 hA) hlk hpa hC h2 (fun _ _ _ _ h => h)) (fun S1 v hv hx hG1 hB1 hA1 => ?_)
  obtain ⟨z, rfl, hz⟩ := hv
  have ez : z = hasA t x1 x2 y3 := ei_w hx
  show TT xi M_L_has 10 [(0, .ref o0), (1, .int x1), (2, .int x2), (3, .long y3), (5, .ref o5)] [.int z, .int 0, .ref o5] S1 1 6 P
  have B : ∀ (y : Int64), y = (if hasA t x1 x2 y3 = 0 then 0 else 1) → TT xi M_L_has 18 [(0, .ref o0), (1, .int x1), (2, .int x2), (3, .long y3), (5, .ref o5)] [.long y, .int 0, .ref o5] S1 1 6 P := by
    intro y hy
    refine gt_lS1 dL_has_18 h5 hA1 (rg_in (⟨by decide, by decide⟩ : Rg 0 0 0)) hG1 (Or.inr (by decide)) (by decide) (fun S2 hG2 hA2 e121 f122 er123 ej124 => ?_)
    refine tt_goto (tgt := 26) dL_has_19 rfl ?_
    refine tt_iconst (v := 0) dL_has_26 rfl ?_
    exact tt_ireturn dL_has_27 .int rfl rfl (hP _ _ _ _ ⟨hG2, hA2, _, rfl, rfl, ej124.trans hy⟩)
  refine tt_if_eq (tgt := 17) dL_has_10 rfl (fun q => ?_) (fun q => ?_)
  · refine tt_lconst (v := 0) dL_has_17 rfl ?_
    exact B 0 (by rw [if_pos (ez.symm.trans q)])
  · refine tt_lconst (v := 1) dL_has_13 rfl ?_
    refine tt_goto (tgt := 18) dL_has_14 rfl ?_
    exact B 1 (by rw [if_neg (fun h => q (ez.trans h))])
set_option maxHeartbeats 4000000 in
theorem ckwn_L_has {o5 : Nat} (h2 : ¬ Rg 0 23 x2) (hG : GI S E) (h0 : Oa S E 9 0 o0) (h5 : Oa S E 33 1 o5) (hP : ∀ r T x y, PW E [] S (fun z => z = 1) r T x y → P r T x y) : TT xi M_L_has 0 [(0, .ref o0), (1, .int x1), (2, .int x2), (3, .long y3), (5, .ref o5)] [] S 1 6 P := by
  have hA : Af E [] S S := af_rf
  refine tt_aload (j := 4) dL_has_0 rfl ?_
  refine tt_iconst (v := 0) dL_has_2 rfl ?_
  refine tt_aload_n (j := 0) dL_has_3 rfl ?_
  refine tt_iload_n (j := 1) dL_has_4 rfl ?_
  refine tt_iload_n (j := 2) dL_has_5 rfl ?_
  refine tt_lload_n (j := 3) dL_has_6 rfl ?_
  refine gt_VC1 (As := [.int x1, .int x2, .long y3]) dL_has_7 ca_L_37 ⟨by decide, by decide⟩ h0 hA rfl (Nat.le_of_ble_eq_true rfl) (Nat.le_of_ble_eq_true rfl) (by decide) ch_L_has_0 (ck_hasn hG (oa_af h0 hA) h2 (by decide) (by decide) (fun _ _ _ _ h => h)) (fun S108 q109 hG110 hB111 hA112 => ?_) (fun _ _ h => h.elim)
  refine tt_astore (ks := [0, 1, 2, 3, 4, 5]) (L' := [(6, .ref q109), (0, .ref o0), (1, .int x1), (2, .int x2), (3, .long y3), (5, .ref o5)]) dL_has_22 (by decide) rfl ?_
  refine tt_iconst (v := 1) dL_has_24 rfl ?_
  exact tt_ireturn dL_has_25 .int rfl rfl (hP _ _ _ _ ⟨hG110, hA112, _, rfl, rfl⟩)
end SET
