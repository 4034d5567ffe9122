/-! looking, in the class -/
theorem rd_all {n : Int32} {I : Nat → DD} {t : Tb} : ∀ k, (∀ i, i < k → (A_rd n I i t i).2.1 = 0) → A_rd n I k t = t := by
  intro k
  induction k with
  | zero => intro _; rfl
  | succ k ih =>
    intro h
    have e : A_rd n I (k + 1) t = if (A_rd n I k t k).2.1 = 0 then A_rd n I k t else A_go n (A_rd n I k t) (Int32.ofNat k) (I k) := rfl
    rw [e, if_pos (h k (by omega))]
    exact ih (fun i hi => h i (by omega))
theorem rd_idle {n : Int32} {I : Nat → DD} {t : Tb} (h : Idle n t) : ∀ k, k ≤ n.toNatClampNeg → A_rd n I k t = t := by
  intro k
  induction k with
  | zero => intro _; rfl
  | succ k ih =>
    intro hk
    have e : A_rd n I (k + 1) t = if (A_rd n I k t k).2.1 = 0 then A_rd n I k t else A_go n (A_rd n I k t) (Int32.ofNat k) (I k) := rfl
    have e2 := ih (by omega)
    rw [e, e2, if_pos (h k (by omega))]
/-- nothing waited in a whole ROUND -/
theorem rd_iff {n : Int32} {I : Nat → DD} {t : Tb} : (∀ i, i < n.toNatClampNeg → (A_rd n I i t i).2.1 = 0) ↔ Idle n t := by
  constructor
  · intro h i hi
    have e := rd_all (n := n) (I := I) (t := t) i (fun j hj => h j (by omega))
    have h2 := h i hi
    rw [e] at h2
    exact h2
  · intro h i hi
    rw [rd_idle h i (by omega)]
    exact h i hi
section CSR
variable {xi : SX} {S : Hp} {E : List Nat} {kc nc lk pa xo : Nat} {P : Po} {n : Int32} {t : Tb} {bs : Nat → Int32} {f : Nat → Tr} {r : Rc}
abbrev CSp (n : Int32) (bs : Nat → Int32) (t : Tb) (S : Hp) (pa : Nat) : Option Value → Hp → Prop := fun v T => ∃ x u, v = some (.int x) ∧ Res n (IAn bs n) t x u ∧ CTb T pa (if x = -1 then T0 else u) ∧ NE S T
theorem bc_rr {S1 : Hp} {ws : List Nat} (h0 : Oa S E 4 0 lk) (hA : Af E ws S S1) (hI : Oa S E 3 0 (RR S 257 lk)) (hb : BC S E (RR S 257 lk) bs n) (h1 : 9995 ∉ ws := by decide) (h2 : 65 ∉ ws := by decide) : BC S1 E (RR S1 257 lk) bs n := by
  rw [rr_af hA h0.1]
  exact bc_af hb hI hA h1 h2
theorem cn_rr {S1 : Hp} {ws : List Nat} (h0 : Oa S E 4 0 lk) (hA : Af E ws S S1) (hI : Oa S E 1 0 (RR S 256 lk)) (hn : hp_I S 65 (RR S 256 lk) = n) (h2 : 65 ∉ ws := by decide) : hp_I S1 65 (RR S1 256 lk) = n := by
  rw [rr_af hA h0.1]
  exact (i_af (k := 65) hI hA h2).trans hn
set_option maxHeartbeats 8000000 in
/-- one ROUND -/
theorem ck_s31 (hE0 : E = []) (hG : GI S E) (h0 : Oa S E 4 0 lk) (hpa : hp_R S 258 lk = some pa) (hkc : 5 * nl (hp_r S pa) ≤ kc) (hnc : 82 * nl (hp_r S pa) ≤ nc) (hn : hp_I S 65 (RR S 256 lk) = n) (hbc : BC S E (RR S 257 lk) bs n) (hB : ∀ i, Rg 0 255 (bs i)) {u : Tb} {x2 : Int32} {o1 : Nat} : ∀ (fu : Nat) (S1 : Hp) (k m : Nat) (x3 x4 : Int32), (200 - x4.toInt).toNat < fu → GI S1 E → Af E [193, 194, 195, 196, 197, 198, 199, 200, 201, 202, 203, 204, 321, 322, 515, 516, 517, 9987, 9994, 9999] S S1 → Bd S pa kc nc S1 k m → Rg 0 1 x3 → Rg 0 200 x4 → x4.toInt ≤ n.toInt → CTb S1 pa (A_rd n (IAn bs n) x4.toNatClampNeg u) → NE S S1 → (¬ x3 = 0 ↔ ∀ i, i < x4.toNatClampNeg → (A_rd n (IAn bs n) i u i).2.1 = 0) → (∀ (T : Hp) (k m : Nat) (x3 : Int32), GI T E → Af E [193, 194, 195, 196, 197, 198, 199, 200, 201, 202, 203, 204, 321, 322, 515, 516, 517, 9987, 9994, 9999] S T → Bd S pa kc nc T k m → Rg 0 1 x3 → CTb T pa (A_rd n (IAn bs n) n.toNatClampNeg u) → NE S T → (¬ x3 = 0 ↔ Idle n u) → TT xi M_X4_search 66 [(0, .ref lk), (1, .ref o1), (2, .int x2), (3, .int x3), (4, .int n)] [] T k m P) → TT xi M_X4_search 31 [(0, .ref lk), (1, .ref o1), (2, .int x2), (3, .int x3), (4, .int x4)] [] S1 k m P := by
  have hR := rk_gi hE0 hG
  have hcb := rk_O (k := 256) hG hR h0 1 0
  have hins := rk_O (k := 257) hG hR h0 3 0
  have hn2 : Rg 0 200 n := by rw [← hn]; exact gi_I (k := 65) hG hcb 0 200
  intro fu
  induction fu with
  | zero => intro S1 k m x3 x4 h; exact absurd h (Nat.not_lt_zero _)
  | succ fu ih =>
    intro S1 k m x3 x4 hf hG1 hA1 bd1 h3 h4 hle hC1 hN1 hi K
    refine tt_iload (j := 4) dX4_search_31 rfl ?_
    refine tt_aload_n (j := 0) dX4_search_33 rfl ?_
    refine gt_gR (id := 256) dX4_search_34 fl_4_51 rfl rfl h0 hA1 (rk_R (k := 256) hR h0 1 0) ?_
    refine gt_gI (id := 65) (v := n) dX4_search_37 fl_4_92 rfl rfl hcb hA1 ((i_af (k := 65) hcb hA1).trans hn) ?_
    refine tt_icmp_ge (tgt := 66) dX4_search_40 rfl (fun q => ?_) (fun q => ?_)
    · have l := Int32.le_iff_toInt_le.mp q
      obtain rfl : x4 = n := Int32.toInt_inj.mp (by omega)
      exact K S1 k m x3 hG1 hA1 bd1 h3 hC1 hN1 (hi.trans rd_iff)
    · have l := Int32.lt_iff_toInt_lt.mp (nle_lt q)
      have h4' : Rg 0 199 x4 := ⟨h4.1, by have := hn2.2; omega⟩
      obtain ⟨u1, u2, u3⟩ := cl_upg h4'
      have J : ∀ (S2 : Hp) (k m : Nat) (x3 : Int32), GI S2 E → Af E [193, 194, 195, 196, 197, 198, 199, 200, 201, 202, 203, 204, 321, 322, 515, 516, 517, 9987, 9994, 9999] S S2 → Bd S pa kc nc S2 k m → Rg 0 1 x3 → CTb S2 pa (A_rd n (IAn bs n) (x4.toNatClampNeg + 1) u) → NE S S2 → (¬ x3 = 0 ↔ ∀ i, i < x4.toNatClampNeg + 1 → (A_rd n (IAn bs n) i u i).2.1 = 0) → TT xi M_X4_search 60 [(0, .ref lk), (1, .ref o1), (2, .int x2), (3, .int x3), (4, .int x4)] [] S2 k m P := by
        intro S2 k m x3 g1 g2 g3 g4 g5 g6 g7
        refine tt_iinc (j := 4) (v := (x4 + 1)) (ks := [0, 1, 2, 3, 4]) (L' := [(4, .int (x4 + 1)), (0, .ref lk), (1, .ref o1), (2, .int x2), (3, .int x3)]) dX4_search_60 rfl rfl (by decide) rfl ?_
        refine tt_goto (tgt := 31) dX4_search_63 rfl ?_
        exact tt_loc (ks := [1, 2, 3, 4, 0]) rfl (ih S2 k m x3 (x4 + 1) (lp_fu hf h4') g1 g2 g3 g4 u2 (by omega) (by rw [u1]; exact g5) g6 (by rw [u1]; exact g7) K)
      refine tt_aload_n (j := 0) dX4_search_43 rfl ?_
      refine tt_iload (j := 4) dX4_search_44 rfl ?_
      refine gt_VIp (As := [.int x4]) dX4_search_46 ca_X4_97 ⟨by decide, by decide⟩ h0 hA1 rfl (Nat.le_of_ble_eq_true rfl) (Nat.le_of_ble_eq_true rfl) (by decide) (ck_isWaiting hG1 (oa_af h0 hA1) (r_af h0 hA1 hpa) h4' hC1.2.2 (fun _ _ _ _ h => h)) rfl (fun _ h => nomatch h) (fun _ _ q => q.1) (fun z hz hx => ?_)
      have hw := hx.2 z rfl
      refine tt_if_eq (tgt := 60) dX4_search_49 rfl (fun q2 => ?_) (fun q2 => ?_)
      · have hw2 := hw.mp q2
        refine J S1 k m x3 hG1 hA1 bd1 h3 ?_ hN1 ?_
        · unfold A_rd
          rw [if_pos hw2]
          exact hC1
        · rw [hi]
          constructor
          · intro h i hi2
            by_cases e : i = x4.toNatClampNeg
            · rw [e]; exact hw2
            · exact h i (by omega)
          · intro h i hi2
            exact h i (by omega)
      · have hw2 : ¬ (A_rd n (IAn bs n) x4.toNatClampNeg u x4.toNatClampNeg).2.1 = 0 := fun h => q2 (hw.mpr h)
        refine tt_iconst (v := 0) dX4_search_52 rfl ?_
        refine tt_istore_n (ks := [0, 1, 2, 3, 4]) (L' := [(3, .int 0), (0, .ref lk), (1, .ref o1), (2, .int x2), (4, .int x4)]) dX4_search_53 (by decide) rfl ?_
        refine tt_aload_n (j := 1) dX4_search_54 rfl ?_
        refine tt_iload (j := 4) dX4_search_55 rfl ?_
        refine gt_Bv (As := [.int x4]) dX4_search_57 ca_X4_101 ⟨by decide, by decide⟩ h0 hA1 rfl (Nat.le_of_ble_eq_true rfl) (Nat.le_of_ble_eq_true rfl) (by decide) (ck_goThrough (n := n) (bs := bs) hE0 hG1 (oa_af h0 hA1) (r_af h0 hA1 hpa) (bd_k bd1 hkc) (bd_n bd1 hnc) h4' hC1 (cn_rr h0 hA1 hcb hn) (bc_rr h0 hA1 hins hbc) hB (nle_lt q) hw2 (fun _ _ _ _ h => h)) rfl (fun S2 k2 n2 hx2 hG2 hB2 hA2 bd2 => ?_)
        refine tt_loc (ks := [1, 2, 3, 0, 4]) rfl (J S2 k2 n2 0 hG2 hA2 (bd_tr bd1 bd2) ⟨by decide, by decide⟩ ?_ (ne_tr hN1 hA1 hx2.2) ⟨fun h => absurd rfl h, fun h => absurd (h x4.toNatClampNeg (by omega)) hw2⟩)
        unfold A_rd
        rw [if_neg hw2, of_cl h4']
        have e : IAn bs n x4.toNatClampNeg = IA bs n x4 := by unfold IAn; rw [of_cl h4']
        rw [e]
        exact hx2.1
set_option maxHeartbeats 8000000 in
/-- is it TIRED -/
theorem ck_s80 (hE0 : E = []) (hG : GI S E) (h0 : Oa S E 4 0 lk) (hpa : hp_R S 258 lk = some pa) (hn : hp_I S 65 (RR S 256 lk) = n) {u : Tb} {o1 k m : Nat} {S1 : Hp} (hG1 : GI S1 E) (hA1 : Af E [193, 194, 195, 196, 197, 198, 199, 200, 201, 202, 203, 204, 321, 322, 515, 516, 517, 9987, 9994, 9999] S S1) (bd1 : Bd S pa kc nc S1 k m) (hC1 : CTb S1 pa u) (hN1 : NE S S1) (hP : ∀ r T x y, PB E [193, 194, 195, 196, 197, 198, 199, 200, 201, 202, 203, 204, 321, 322, 515, 516, 517, 9987, 9994, 9999] S pa kc nc (rI (-2147483648) 2147483647) (fun v T => NE S T ∧ ((v = some (.int 60) ∧ Idle n u ∧ CTb T pa u) ∨ (v = some (.int (-1)) ∧ ¬ Idle n u ∧ CTb T pa T0))) r T x y → P r T x y) : ∀ (fu : Nat) (x2 : Int32), (200 - x2.toInt).toNat < fu → Rg 0 200 x2 → x2.toInt ≤ n.toInt → (∀ i, i < x2.toNatClampNeg → (u i).2.1 = 0) → TT xi M_X4_search 80 [(0, .ref lk), (1, .ref o1), (2, .int x2)] [] S1 k m P := by
  have hR := rk_gi hE0 hG
  have hcb := rk_O (k := 256) hG hR h0 1 0
  have hn2 : Rg 0 200 n := by rw [← hn]; exact gi_I (k := 65) hG hcb 0 200
  intro fu
  induction fu with
  | zero => intro x2 h; exact absurd h (Nat.not_lt_zero _)
  | succ fu ih =>
    intro x2 hf h2 hle hi
    refine tt_iload_n (j := 2) dX4_search_80 rfl ?_
    refine tt_aload_n (j := 0) dX4_search_81 rfl ?_
    refine gt_gR (id := 256) dX4_search_82 fl_4_51 rfl rfl h0 hA1 (rk_R (k := 256) hR h0 1 0) ?_
    refine gt_gI (id := 65) (v := n) dX4_search_85 fl_4_92 rfl rfl hcb hA1 ((i_af (k := 65) hcb hA1).trans hn) ?_
    refine tt_icmp_ge (tgt := 111) dX4_search_88 rfl (fun q => ?_) (fun q => ?_)
    · have l := Int32.le_iff_toInt_le.mp q
      obtain rfl : x2 = n := Int32.toInt_inj.mp (by omega)
      refine tt_bipush (v := 60) dX4_search_111 rfl ?_
      exact tt_ireturn dX4_search_113 .int rfl rfl (hP _ _ _ _ ⟨hG1, hA1, bd1, _, rfl, ⟨_, rfl, rg_w (⟨by decide, by decide⟩ : Rg 60 60 60)⟩, hN1, Or.inl ⟨rfl, hi, hC1⟩⟩)
    · have l := Int32.lt_iff_toInt_lt.mp (nle_lt q)
      have h2' : Rg 0 199 x2 := ⟨h2.1, by have := hn2.2; omega⟩
      obtain ⟨u1, u2, u3⟩ := cl_upg h2'
      have l2 : x2.toNatClampNeg < n.toNatClampNeg := by
        have e1 : x2.toNatClampNeg = x2.toInt.toNat := rfl
        have e2 : n.toNatClampNeg = n.toInt.toNat := rfl
        have := h2'.1
        omega
      refine tt_aload_n (j := 0) dX4_search_91 rfl ?_
      refine tt_iload_n (j := 2) dX4_search_92 rfl ?_
      refine gt_VIp (As := [.int x2]) dX4_search_93 ca_X4_97 ⟨by decide, by decide⟩ h0 hA1 rfl (Nat.le_of_ble_eq_true rfl) (Nat.le_of_ble_eq_true rfl) (by decide) (ck_isWaiting hG1 (oa_af h0 hA1) (r_af h0 hA1 hpa) h2' hC1.2.2 (fun _ _ _ _ h => h)) rfl (fun _ h => nomatch h) (fun _ _ q => q.1) (fun z hz hx => ?_)
      have hw := hx.2 z rfl
      refine tt_if_eq (tgt := 105) dX4_search_96 rfl (fun q2 => ?_) (fun q2 => ?_)
      · refine tt_iinc (j := 2) (v := (x2 + 1)) (ks := [0, 1, 2]) (L' := [(2, .int (x2 + 1)), (0, .ref lk), (1, .ref o1)]) dX4_search_105 rfl rfl (by decide) rfl ?_
        refine tt_goto (tgt := 80) dX4_search_108 rfl ?_
        refine tt_loc (ks := [1, 2, 0]) rfl (ih (x2 + 1) (lp_fu hf h2') u2 (by omega) (fun i hi2 => ?_))
        rw [u1] at hi2
        by_cases e : i = x2.toNatClampNeg
        · rw [e]; exact hw.mp q2
        · exact hi i (by omega)
      · have hw2 : ¬ (u x2.toNatClampNeg).2.1 = 0 := fun h => q2 (hw.mpr h)
        refine tt_aload_n (j := 0) dX4_search_99 rfl ?_
        refine gt_Vv (As := []) dX4_search_100 ca_X4_81 ⟨by decide, by decide⟩ h0 hA1 rfl (Nat.le_of_ble_eq_true rfl) (Nat.le_of_ble_eq_true rfl) (by decide) (ck_forget hE0 hG1 (oa_af h0 hA1) (r_af h0 hA1 hpa) hC1 (fun _ _ _ _ h => h)) rfl (fun _ h => nomatch h) (fun S2 hx2 hG2 hB2 hA2 => ?_)
        refine tt_iconst (v := (-1)) dX4_search_103 rfl ?_
        exact tt_ireturn dX4_search_104 .int rfl rfl (hP _ _ _ _ ⟨hG2, hA2, bd_eq bd1 (hB2.2.2.2.1 (by decide)).2, _, rfl, ⟨_, rfl, rg_w (⟨by decide, by decide⟩ : Rg (-1) (-1) (-1))⟩, ne_tr hN1 hA1 hx2.2, Or.inr ⟨rfl, fun h => hw2 (h _ l2), hx2.1⟩⟩)
set_option maxHeartbeats 8000000 in
/-- the ROUNDS -/
theorem ck_s20 (hE0 : E = []) (hG : GI S E) (h0 : Oa S E 4 0 lk) (hpa : hp_R S 258 lk = some pa) (hkc : 5 * nl (hp_r S pa) ≤ kc) (hnc : 82 * nl (hp_r S pa) ≤ nc) (hn : hp_I S 65 (RR S 256 lk) = n) (hbc : BC S E (RR S 257 lk) bs n) (hB : ∀ i, Rg 0 255 (bs i)) {o1 : Nat} (hP : ∀ r T x y, PB E [193, 194, 195, 196, 197, 198, 199, 200, 201, 202, 203, 204, 321, 322, 515, 516, 517, 9987, 9994, 9999] S pa kc nc (rI (-2147483648) 2147483647) (CSp n bs t S pa) r T x y → P r T x y) : ∀ (fu : Nat) (S1 : Hp) (k m : Nat) (x2 : Int32), (60 - x2.toInt).toNat < fu → GI S1 E → Af E [193, 194, 195, 196, 197, 198, 199, 200, 201, 202, 203, 204, 321, 322, 515, 516, 517, 9987, 9994, 9999] S S1 → Bd S pa kc nc S1 k m → Rg 0 60 x2 → CTb S1 pa (A_it n (IAn bs n) x2.toNatClampNeg t) → NE S S1 → (∀ j, j < x2.toNatClampNeg → ¬ Idle n (A_it n (IAn bs n) j t)) → TT xi M_X4_search 20 [(0, .ref lk), (1, .ref o1), (2, .int x2)] [] S1 k m P := by
  have hR := rk_gi hE0 hG
  have hcb := rk_O (k := 256) hG hR h0 1 0
  have hn2 : Rg 0 200 n := by rw [← hn]; exact gi_I (k := 65) hG hcb 0 200
  have n0 : (0 : Int32).toInt ≤ n.toInt := by rw [show (0 : Int32).toInt = 0 from rfl]; exact hn2.1
  intro fu
  induction fu with
  | zero => intro S1 k m x2 h; exact absurd h (Nat.not_lt_zero _)
  | succ fu ih =>
    intro S1 k m x2 hf hG1 hA1 bd1 h2 hC1 hN1 hj
    refine tt_iload_n (j := 2) dX4_search_20 rfl ?_
    refine tt_bipush (v := 60) dX4_search_21 rfl ?_
    refine tt_icmp_ge (tgt := 78) dX4_search_23 rfl (fun q => ?_) (fun q => ?_)
    · have h60 : Rg 60 60 x2 := rg_le_r (⟨by decide, by decide⟩ : Rg 60 60 60) h2 q
      obtain rfl : x2 = 60 := rg_eqc h60
      refine tt_iconst (v := 0) dX4_search_78 rfl ?_
      refine tt_istore_n (ks := [0, 1, 2]) (L' := [(2, .int 0), (0, .ref lk), (1, .ref o1)]) dX4_search_79 (by decide) rfl ?_
      refine tt_loc (ks := [1, 2, 0]) rfl (tt_loc (ks := [0, 1, 2]) rfl (ck_s80 (n := n) hE0 hG h0 hpa hn hG1 hA1 bd1 hC1 hN1 (fun r T x y h => ?_) 201 0 (by decide) ⟨by decide, by decide⟩ n0 (fun i hi => absurd hi (Nat.not_lt_zero _))))
      obtain ⟨g1, g2, g3, v, e, g4, g5, g6⟩ := h
      refine hP _ _ _ _ ⟨g1, g2, g3, v, e, g4, ?_⟩
      rcases g6 with ⟨ev, w1, w2⟩ | ⟨ev, w1, w2⟩
      · refine ⟨60, A_it n (IAn bs n) 60 t, ev, Or.inl ⟨60, Nat.le_refl _, w1, hj, rfl, rfl⟩, ?_, g5⟩
        rw [if_neg (by decide)]
        exact w2
      · refine ⟨-1, T0, ev, Or.inr ⟨fun j hj2 => ?_, rfl⟩, ?_, g5⟩
        · by_cases e : j = 60
          · rw [e]; exact w1
          · exact hj j (by show j < 60; omega)
        · rw [if_pos rfl]
          exact w2
    · have h59 : Rg 0 59 x2 := rg_lt_l h2 (⟨by decide, by decide⟩ : Rg 60 60 60) (nle_lt q)
      obtain ⟨u1, u2, u3⟩ := cl_upg h59
      refine tt_iconst (v := 1) dX4_search_26 rfl ?_
      refine tt_istore_n (ks := [0, 1, 2, 3]) (L' := [(3, .int 1), (0, .ref lk), (1, .ref o1), (2, .int x2)]) dX4_search_27 (by decide) rfl ?_
      refine tt_iconst (v := 0) dX4_search_28 rfl ?_
      refine tt_istore (ks := [0, 1, 2, 3, 4]) (L' := [(4, .int 0), (3, .int 1), (0, .ref lk), (1, .ref o1), (2, .int x2)]) dX4_search_29 (by decide) rfl ?_
      refine tt_loc (ks := [2, 3, 4, 1, 0]) rfl (tt_loc (ks := [0, 1, 2, 3, 4]) rfl (ck_s31 (u := A_it n (IAn bs n) x2.toNatClampNeg t) hE0 hG h0 hpa hkc hnc hn hbc hB 201 S1 k m 1 0 (by decide) hG1 hA1 bd1 ⟨by decide, by decide⟩ ⟨by decide, by decide⟩ n0 hC1 hN1 ⟨fun _ i h => absurd h (Nat.not_lt_zero _), fun _ => by decide⟩ (fun S2 k2 m2 x3 hG2 hA2 bd2 h3 hC2 hN2 hid => ?_)))
      refine tt_iload_n (j := 3) dX4_search_66 rfl ?_
      refine tt_if_eq (tgt := 72) dX4_search_67 rfl (fun q2 => ?_) (fun q2 => ?_)
      · have hni : ¬ Idle n (A_it n (IAn bs n) x2.toNatClampNeg t) := fun h => hid.mpr h q2
        refine tt_iinc (j := 2) (v := (x2 + 1)) (ks := [0, 1, 2, 3, 4]) (L' := [(2, .int (x2 + 1)), (0, .ref lk), (1, .ref o1), (3, .int x3), (4, .int n)]) dX4_search_72 rfl rfl (by decide) rfl ?_
        refine tt_goto (tgt := 20) dX4_search_75 rfl ?_
        refine tt_loc (ks := [1, 2, 0]) rfl (ih S2 k2 m2 (x2 + 1) (lp_fu hf h59) hG2 hA2 bd2 u2 (by rw [u1]; exact hC2) hN2 (fun j hj2 => ?_))
        rw [u1] at hj2
        by_cases e : j = x2.toNatClampNeg
        · rw [e]; exact hni
        · exact hj j (by omega)
      · have hyi := hid.mp q2
        refine tt_iload_n (j := 2) dX4_search_70 rfl ?_
        have ne : ¬ x2 = -1 := rg_nec (v := -1) h2
        rw [rd_idle hyi _ (Nat.le_refl _)] at hC2
        refine tt_ireturn dX4_search_71 .int rfl rfl (hP _ _ _ _ ⟨hG2, hA2, bd2, _, rfl, ⟨_, rfl, rg_w h2⟩, x2, A_it n (IAn bs n) x2.toNatClampNeg t, rfl, Or.inl ⟨x2.toNatClampNeg, Nat.lt_succ_iff.mp (rg_cl h2), hyi, hj, (of_cl h2).symm, rfl⟩, ?_, hN2⟩)
        rw [if_neg ne]
        exact hC2
set_option maxHeartbeats 8000000 in
theorem ck_search (hE0 : E = []) (hG : GI S E) (h0 : Oa S E 4 0 lk) (hx0 : Oa S E 9 0 xo) (hpa : hp_R S 258 lk = some pa) (hkc : 5 * nl (hp_r S pa) ≤ kc) (hnc : 82 * nl (hp_r S pa) ≤ nc) (hC : CTb S pa t) (hn : hp_I S 65 (RR S 256 lk) = n) (hbc : BC S E (RR S 257 lk) bs n) (hB : ∀ i, Rg 0 255 (bs i)) (hf : A24 (sT S (RR S 578 xo)) f) (hr : sC S (RR S 578 xo) = r) (hP : ∀ r1 T x y, PB E [193, 194, 195, 196, 197, 198, 199, 200, 201, 202, 203, 204, 321, 322, 515, 516, 517, 9987, 9994, 9999] S pa kc nc (rI (-2147483648) 2147483647) (CSp n bs (TE n f r) S pa) r1 T x y → P r1 T x y) : TT xi M_X4_search 0 [(0, .ref lk), (1, .ref (RR S 578 xo))] [] S kc nc P := by
  have hA : Af E [193, 194, 195, 196, 197, 198, 199, 200, 201, 202, 203, 204, 321, 322, 515, 516, 517, 9987, 9994, 9999] S S := af_rf
  have hR := rk_gi hE0 hG
  have bd0 : Bd S pa kc nc S kc nc := bd_rf
  have hcb := rk_O (k := 256) hG hR h0 1 0
  have hins := rk_O (k := 257) hG hR h0 3 0
  have hwk := rk_O (k := 259) hG hR h0 8 0
  have hen := rk_O (k := 578) hG hR hx0 8 0
  have hne : RR S 578 xo ≠ RR S 259 lk := uq_ne (k := 578) (l := 259) hC.1 hR hx0 h0 (Or.inr (by decide)) 8 8 (c := 0) (d := 0)
  obtain ⟨pa2, hr2, ho2⟩ := gi_R (k := 258) hG h0 35 200
  obtain rfl : pa2 = pa := Option.some.inj (hr2.symm.trans hpa)
  refine tt_aload_n (j := 0) dX4_search_0 rfl ?_
  refine gt_Vv (As := []) dX4_search_1 ca_X4_81 ⟨by decide, by decide⟩ h0 hA rfl (Nat.le_of_ble_eq_true rfl) (Nat.le_of_ble_eq_true rfl) (by decide) (ck_forget hE0 hG (oa_af h0 hA) hpa hC (fun _ _ _ _ h => h)) rfl (fun _ h => nomatch h) (fun S1 hx1 hG1 hB1 hA1 => ?_)
  have bd1 := bd_eq bd0 (hB1.2.2.2.1 (by decide)).2
  obtain ⟨hC1, hN1⟩ := hx1
  obtain ⟨q1, q2⟩ := hN1 xo hx0.1 hx0.2.2.1
  refine tt_aload_n (j := 0) dX4_search_4 rfl ?_
  refine gt_gR (id := 259) dX4_search_5 fl_4_20 rfl rfl h0 hA1 (rk_R (k := 259) hR h0 8 0) ?_
  refine tt_aload_n (j := 1) dX4_search_8 rfl ?_
  refine gt_Vv (As := [.ref (RR S 578 xo)]) dX4_search_9 ca_X4_84 ⟨by decide, by decide⟩ hwk hA1 rfl (Nat.le_of_ble_eq_true rfl) (Nat.le_of_ble_eq_true rfl) (by decide) (cz_X8_copyFrom hG1 (oa_af hwk hA1) (oa_af hen hA1) (rk_gi hE0 hG1) (fun _ _ _ _ h => h)) rfl (fun _ h => nomatch h) (fun S2 hx2 hG2 hB2 hA2 => ?_)
  have bd2 := bd_eq bd1 (hB2.2.2.2.1 (by decide)).2
  obtain ⟨w1, w2, w3⟩ := wk_cp hE0 hG1 hC1.1 hB2 (oa_af hwk hA1) (oa_af hen hA1) hne hx2
  have e1W : RR S1 259 lk = RR S 259 lk := rr_af hA1 h0.1
  have e2W : RR S2 259 lk = RR S 259 lk := rr_af hA2 h0.1
  rw [← e1W] at w3
  obtain ⟨hC2, hN12⟩ := ci_wk hE0 hG1 (oa_af h0 hA1) (oa_af ho2 hA1) hB2 w3 hC1
  have hN2 := ne_tr hN1 hA1 hN12
  rw [q1] at w1
  rw [q2] at w2
  refine tt_aload_n (j := 0) dX4_search_12 rfl ?_
  refine tt_iconst (v := 0) dX4_search_13 rfl ?_
  refine tt_lconst (v := 0) dX4_search_14 rfl ?_
  refine gt_Bv (As := [.int 0, .long 0]) dX4_search_15 ca_X4_88 ⟨by decide, by decide⟩ h0 hA2 rfl (Nat.le_of_ble_eq_true rfl) (Nat.le_of_ble_eq_true rfl) (by decide) (ck_arrive (n := n) (f := f) (r := r) hE0 hG2 (oa_af h0 hA2) (r_af h0 hA2 hpa) (bd_k bd2 hkc) (bd_n bd2 hnc) hC2 (cn_rr h0 hA2 hcb hn) (by rw [e2W]; exact fun j hj => (w1 j hj).trans (hf j hj)) (by rw [e2W]; exact w2.trans hr) (fun _ _ _ _ h => h)) rfl (fun S3 k3 n3 hx3 hG3 hB3 hA3 bd3 => ?_)
  refine tt_iconst (v := 0) dX4_search_18 rfl ?_
  refine tt_istore_n (ks := [0, 1, 2]) (L' := [(2, .int 0), (0, .ref lk), (1, .ref (RR S 578 xo))]) dX4_search_19 (by decide) rfl ?_
  exact tt_loc (ks := [1, 2, 0]) rfl (tt_loc (ks := [0, 1, 2]) rfl (ck_s20 (t := TE n f r) hE0 hG h0 hpa hkc hnc hn hbc hB hP 61 S3 k3 n3 0 (by decide) hG3 hA3 (bd_tr bd2 bd3) ⟨by decide, by decide⟩ hx3.1 (ne_tr hN2 hA2 hx3.2.1) (fun j hj => absurd hj (Nat.not_lt_zero _))))
set_option maxHeartbeats 4000000 in
theorem ck_look (hE0 : E = []) (hG : GI S E) (hx0 : Oa S E 9 0 xo) (hlk : hp_R S 579 xo = some lk) (hpa : hp_R S 258 lk = some pa) (hkc : 5 * nl (hp_r S pa) ≤ kc) (hnc : 82 * nl (hp_r S pa) ≤ nc) (hC : CTb S pa t) (hn : hp_I S 65 (RR S 256 lk) = n) (hbc : BC S E (RR S 257 lk) bs n) (hB : ∀ i, Rg 0 255 (bs i)) (hf : A24 (sT S (RR S 578 xo)) f) (hr : sC S (RR S 578 xo) = r) (hP : ∀ r1 T x y, PB E [193, 194, 195, 196, 197, 198, 199, 200, 201, 202, 203, 204, 321, 322, 515, 516, 517, 9987, 9994, 9999] S pa kc nc (rI (-2147483648) 2147483647) (CSp n bs (TE n f r) S pa) r1 T x y → P r1 T x y) : TT xi M_X9_look 0 [(0, .ref xo)] [] S kc nc P := by
  have hA : Af E [193, 194, 195, 196, 197, 198, 199, 200, 201, 202, 203, 204, 321, 322, 515, 516, 517, 9987, 9994, 9999] S S := af_rf
  have hR := rk_gi hE0 hG
  obtain ⟨b1, hr1, ho1⟩ := gi_R (k := 579) hG hx0 4 0
  obtain rfl : b1 = lk := Option.some.inj (hr1.symm.trans hlk)
  refine tt_aload_n (j := 0) dX9_look_0 rfl ?_
  refine gt_gR (id := 579) dX9_look_1 fl_9_37 rfl rfl hx0 hA hr1 ?_
  refine tt_aload_n (j := 0) dX9_look_4 rfl ?_
  refine gt_gR (id := 578) dX9_look_5 fl_9_28 rfl rfl hx0 hA (rk_R (k := 578) hR hx0 8 0) ?_
  refine gt_BI (As := [.ref (RR S 578 xo)]) dX9_look_8 ca_X9_111 ⟨by decide, by decide⟩ ho1 hA rfl (Nat.le_of_ble_eq_true rfl) (Nat.le_of_ble_eq_true rfl) (by decide) (ck_search hE0 hG ho1 hx0 hpa hkc hnc hC hn hbc hB hf hr (fun _ _ _ _ h => h)) rfl (fun S1 z k1 n1 hz hx hG1 hB1 hA1 bd1 => ?_)
  exact tt_ireturn dX9_look_11 .int rfl rfl (hP _ _ _ _ ⟨hG1, hA1, bd1, _, rfl, ⟨_, rfl, rg_w hz⟩, hx⟩)
end CSR
