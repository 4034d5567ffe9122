/-! the class's small methods over the table -/
def vr (o : Option Nat) : Value := o.elim .null .ref
section CSM
variable {xi : SX} {S S1 T : Hp} {E ws : List Nat} {kc nc lk pa o0 : Nat} {P : Po} {x1 : Int32} {y1 : Int64} {t : Tb}
set_option maxHeartbeats 4000000 in
theorem ck_holds (hG : GI S E) (h0 : Oa S E 1 0 o0) (hP : ∀ r T x y, PV E [] S kc nc (rI 0 1) (fun v T => T = S ∧ ∀ z, v = some (.int z) → (¬ z = 0 ↔ InC (hp_I S 65 o0) y1)) [] r T x y → P r T x y) : TT xi M_X1_holds 0 [(0, .ref o0), (1, .long y1)] [] S kc nc P := by
  have hA : Af E [] S S := af_rf
  have no : ¬ InC (hp_I S 65 o0) y1 → P (.inl (some (.int 0))) S kc nc := fun h => hP _ _ _ _ ⟨hG, hA, Or.inl ⟨_, rfl, ⟨_, rfl, rg_w (⟨by decide, by decide⟩ : Rg 0 0 0)⟩, ⟨rfl, fun z hz => by cases hz; exact ⟨fun q => absurd rfl q, fun q => absurd q h⟩⟩, rfl, rfl⟩⟩
  refine tt_lload_n (j := 1) dX1_holds_0 rfl ?_
  refine tt_lconst (v := 0) dX1_holds_1 rfl ?_
  refine tt_lcmp dX1_holds_2 ?_
  refine tt_if_lt (tgt := 20) dX1_holds_3 rfl (fun q101 => ?_) (fun q101 => ?_)
  · refine tt_iconst (v := 0) dX1_holds_20 rfl ?_
    exact tt_ireturn dX1_holds_21 .boolean rfl rfl (no (fun z => z.1 (lc_lt_t q101)))
  · refine tt_lload_n (j := 1) dX1_holds_6 rfl ?_
    refine tt_aload_n (j := 0) dX1_holds_7 rfl ?_
    refine tt_getI (id := 65) dX1_holds_8 fl_1_15 rfl rfl (ob_af h0 hA) ?_
    refine tt_i2l dX1_holds_11 ?_
    refine tt_lcmp dX1_holds_12 ?_
    refine tt_if_ge (tgt := 20) dX1_holds_13 rfl (fun q104 => ?_) (fun q104 => ?_)
    · refine tt_iconst (v := 0) dX1_holds_20 rfl ?_
      exact tt_ireturn dX1_holds_21 .boolean rfl rfl (no (fun z => Int64.not_lt.mpr (lc_ge_t q104) z.2))
    · refine tt_iconst (v := 1) dX1_holds_16 rfl ?_
      refine tt_goto (tgt := 21) dX1_holds_17 rfl ?_
      exact tt_ireturn dX1_holds_21 .boolean rfl rfl (hP _ _ _ _ ⟨hG, hA, Or.inl ⟨_, rfl, ⟨_, rfl, rg_w (⟨by decide, by decide⟩ : Rg 1 1 1)⟩, ⟨rfl, fun z hz => by cases hz; exact ⟨fun _ => ⟨Int64.not_lt.mpr (lc_lt_f q101), lc_ge_f q104⟩, fun _ => by decide⟩⟩, rfl, rfl⟩⟩)
set_option maxHeartbeats 4000000 in
theorem ck_pointIfMade (hG : GI S E) (h0 : Oa S E 4 0 lk) (hpa : hp_R S 258 lk = some pa) (hP : ∀ r T x y, PV E [] S kc nc (rP S E) (fun v T => T = S ∧ (Rg 0 199 x1 → v = some (vr (hp_r S pa x1.toNatClampNeg))) ∧ (¬ Rg 0 199 x1 → v = some .null)) [] r T x y → P r T x y) : TT xi M_X4_pointIfMade 0 [(0, .ref lk), (1, .int x1)] [] S kc nc P := by
  have hA : Af E [] S S := af_rf
  have no : ¬ Rg 0 199 x1 → P (.inl (some .null)) S kc nc := fun h => hP _ _ _ _ ⟨hG, hA, Or.inl ⟨_, rfl, Or.inl rfl, ⟨rfl, fun q => absurd q h, fun _ => rfl⟩, rfl, rfl⟩⟩
  refine tt_iload_n (j := 1) dX4_pointIfMade_0 rfl ?_
  refine tt_if_lt (tgt := 20) dX4_pointIfMade_1 rfl (fun q101 => ?_) (fun q101 => ?_)
  · have h102 : Rg (-2147483648) (-1) x1 := rg_lt_l (rg_all x1) (⟨by decide, by decide⟩ : Rg 0 0 0) q101
    refine tt_null dX4_pointIfMade_20 ?_
    exact tt_areturnN dX4_pointIfMade_21 rfl (no (fun z => by have := z.1; have := h102.2; omega))
  · have h103 : Rg 0 2147483647 x1 := rg_le_r (⟨by decide, by decide⟩ : Rg 0 0 0) (rg_all x1) (nlt_le q101)
    refine tt_iload_n (j := 1) dX4_pointIfMade_4 rfl ?_
    refine tt_sipush (v := 200) dX4_pointIfMade_5 rfl ?_
    refine tt_icmp_ge (tgt := 20) dX4_pointIfMade_8 rfl (fun q104 => ?_) (fun q104 => ?_)
    · have h105 : Rg 200 2147483647 x1 := rg_le_r (⟨by decide, by decide⟩ : Rg 200 200 200) h103 q104
      refine tt_null dX4_pointIfMade_20 ?_
      exact tt_areturnN dX4_pointIfMade_21 rfl (no (fun z => by have := z.2; have := h105.1; omega))
    · have h106 : Rg 0 199 x1 := rg_lt_l h103 (⟨by decide, by decide⟩ : Rg 200 200 200) (nle_lt q104)
      refine tt_aload_n (j := 0) dX4_pointIfMade_11 rfl ?_
      obtain ⟨b107, hr108, ho109⟩ := gi_R (k := 258) hG h0 35 200
      obtain rfl : b107 = pa := Option.some.inj (hr108.symm.trans hpa)
      refine gt_gR (id := 258) dX4_pointIfMade_12 fl_4_11 rfl rfl h0 hA hr108 ?_
      refine tt_iload_n (j := 1) dX4_pointIfMade_15 rfl ?_
      refine tt_aaload dX4_pointIfMade_16 (ob_af ho109 hA) (by rw [n_af ho109 hA]; exact rg_in h106) ?_
      cases e : hp_r S b107 x1.toNatClampNeg with
      | none =>
        refine tt_goto (tgt := 21) dX4_pointIfMade_17 rfl ?_
        exact tt_areturnN dX4_pointIfMade_21 rfl (hP _ _ _ _ ⟨hG, hA, Or.inl ⟨_, rfl, Or.inl rfl, ⟨rfl, fun _ => by rw [e]; rfl, fun z => absurd h106 z⟩, rfl, rfl⟩⟩)
      | some b =>
        refine tt_goto (tgt := 21) dX4_pointIfMade_17 rfl ?_
        exact tt_areturn dX4_pointIfMade_21 rfl (hP _ _ _ _ ⟨hG, hA, Or.inl ⟨_, rfl, Or.inr ⟨_, rfl, gi_r hG ho109 e⟩, ⟨rfl, fun _ => by rw [e]; rfl, fun z => absurd h106 z⟩, rfl, rfl⟩⟩)
theorem vr_n {o : Option Nat} (h : (some Value.null : Option Value) = some (vr o)) : o = none := by
  cases o with
  | none => rfl
  | some b => exact absurd h (fun z => by injection z with z; cases z)
theorem vr_s {o : Option Nat} {b : Nat} (h : (some (Value.ref b) : Option Value) = some (vr o)) : o = some b := by
  cases o with
  | none => exact absurd h (fun z => by injection z with z; cases z)
  | some c =>
    have z := Option.some.inj h
    have z2 : b = c := by injection z
    rw [z2]
set_option maxHeartbeats 4000000 in
theorem ck_isWaiting (hG : GI S E) (h0 : Oa S E 4 0 lk) (hpa : hp_R S 258 lk = some pa) (h1 : Rg 0 199 x1) (hC : CRt S pa t) (hP : ∀ r T x y, PV E [] S kc nc (rI 0 1) (fun v T => T = S ∧ ∀ z, v = some (.int z) → (z = 0 ↔ (t x1.toNatClampNeg).2.1 = 0)) [] r T x y → P r T x y) : TT xi M_X4_isWaiting 0 [(0, .ref lk), (1, .int x1)] [] S kc nc P := by
  have hA : Af E [] S S := af_rf
  refine tt_aload_n (j := 0) dX4_isWaiting_0 rfl ?_
  refine tt_iload_n (j := 1) dX4_isWaiting_1 rfl ?_
  refine gt_VPp (As := [.int x1]) dX4_isWaiting_2 ca_X4_67 ⟨by decide, by decide⟩ h0 hA rfl (Nat.le_of_ble_eq_true rfl) (Nat.le_of_ble_eq_true rfl) (by decide) (ck_pointIfMade hG (oa_af h0 hA) hpa (fun _ _ _ _ h => h)) rfl (fun _ h => nomatch h) (fun _ _ q => q.1) (fun hx105 => ?_) (fun b106 h107 hx105 => ?_)
  · have e := vr_n (hx105.2.1 h1)
    have g := (hC _ (rg_cl h1)).1 e
    refine tt_astore_nN (ks := [0, 1, 2]) (L' := [(2, .null), (0, .ref lk), (1, .int x1)]) dX4_isWaiting_5 (by decide) rfl ?_
    refine tt_aload_nN (j := 0) dX4_isWaiting_6 rfl ?_
    refine tt_ifnullN (tgt := 21) dX4_isWaiting_7 rfl ?_
    refine tt_iconst (v := 0) dX4_isWaiting_21 rfl ?_
    exact tt_ireturn dX4_isWaiting_22 .boolean rfl rfl (hP _ _ _ _ ⟨hG, hA, Or.inl ⟨_, rfl, ⟨_, rfl, rg_w (⟨by decide, by decide⟩ : Rg 0 0 0)⟩, ⟨rfl, fun z hz => by cases hz; exact ⟨fun _ => g.2, fun _ => rfl⟩⟩, rfl, rfl⟩⟩)
  · have e := vr_s (hx105.2.1 h1)
    have g := ((hC _ (rg_cl h1)).2 _ e).2.1
    refine tt_astore_n (ks := [0, 1, 2]) (L' := [(2, .ref b106), (0, .ref lk), (1, .int x1)]) dX4_isWaiting_5 (by decide) rfl ?_
    refine tt_aload_n (j := 0) dX4_isWaiting_6 rfl ?_
    refine tt_ifnull dX4_isWaiting_7 ?_
    refine tt_aload_n (j := 0) dX4_isWaiting_10 rfl ?_
    refine tt_getI (id := 322) dX4_isWaiting_11 fl_4_63 rfl rfl (ob_af h107 hA) ?_
    refine tt_if_eq (tgt := 21) dX4_isWaiting_14 rfl (fun q116 => ?_) (fun q116 => ?_)
    · rw [g] at q116
      refine tt_iconst (v := 0) dX4_isWaiting_21 rfl ?_
      exact tt_ireturn dX4_isWaiting_22 .boolean rfl rfl (hP _ _ _ _ ⟨hG, hA, Or.inl ⟨_, rfl, ⟨_, rfl, rg_w (⟨by decide, by decide⟩ : Rg 0 0 0)⟩, ⟨rfl, fun z hz => by cases hz; exact ⟨fun _ => q116, fun _ => rfl⟩⟩, rfl, rfl⟩⟩)
    · rw [g] at q116
      refine tt_iconst (v := 1) dX4_isWaiting_17 rfl ?_
      refine tt_goto (tgt := 22) dX4_isWaiting_18 rfl ?_
      exact tt_ireturn dX4_isWaiting_22 .boolean rfl rfl (hP _ _ _ _ ⟨hG, hA, Or.inl ⟨_, rfl, ⟨_, rfl, rg_w (⟨by decide, by decide⟩ : Rg 1 1 1)⟩, ⟨rfl, fun z hz => by cases hz; exact ⟨fun h => absurd h (by decide), fun h => absurd h q116⟩⟩, rfl, rfl⟩⟩)
/-- all points are forgotten -/
def Fgt (S T : Hp) (pa : Nat) (x : Nat) : Prop := ∀ j, j < x → ∀ p, hp_r S pa j = some p → hp_I T 321 p = 0 ∧ hp_I T 322 p = 0
set_option maxHeartbeats 4000000 in
theorem ck_forget (hE0 : E = []) (hG : GI S E) (h0 : Oa S E 4 0 lk) (hpa : hp_R S 258 lk = some pa) (hC : CTb S pa t) (hP : ∀ r T x y, PV E [321, 322] S kc nc rV (fun _ T => CTb T pa T0 ∧ NE S T) [] r T x y → P r T x y) : TT xi M_X4_forget 0 [(0, .ref lk)] [] S kc nc P := by
  have hA : Af E [321, 322] S S := af_rf
  refine tt_iconst (v := 0) dX4_forget_0 rfl ?_
  refine tt_istore_n (ks := [0, 1]) (L' := [(1, .int 0), (0, .ref lk)]) dX4_forget_1 (by decide) rfl ?_
  obtain ⟨b110, hr111, ho112⟩ := gi_R (k := 258) hG h0 35 200
  obtain rfl : b110 = pa := Option.some.inj (hr111.symm.trans hpa)
  have B101 : ∀ (nn : Nat) (S102 : Hp) (x105 : Int32), (200 - x105.toInt).toNat < nn → GI S102 E → Af E [321, 322] S S102 → Rg 0 200 x105 → Fgt S S102 b110 x105.toNatClampNeg → TT xi M_X4_forget 2 [(0, .ref lk), (1, .int x105)] [] S102 kc nc P := by
    intro nn
    induction nn with
    | zero => intro S102 x105 h; exact absurd h (Nat.not_lt_zero _)
    | succ nn ih =>
      intro S102 x105 hm hG103 hA104 h106 hF
      refine tt_iload_n (j := 1) dX4_forget_2 rfl ?_
      refine tt_sipush (v := 200) dX4_forget_3 rfl ?_
      refine tt_icmp_ge (tgt := 36) dX4_forget_6 rfl (fun q107 => ?_) (fun q107 => ?_)
      · have h108 : Rg 200 200 x105 := rg_le_r (⟨by decide, by decide⟩ : Rg 200 200 200) h106 q107
        obtain rfl : x105 = 200 := rg_eqc h108
        have er : hp_r S102 = hp_r S := (hA104.2.2.2.1 (by decide)).2
        refine tt_vreturn dX4_forget_36 rfl (hP _ _ _ _ ⟨hG103, hA104, Or.inl ⟨_, rfl, rfl, ⟨⟨uq_af hC.1 hA104, fun i j p hi hj => by rw [er]; exact hC.2.1 i j p hi hj, fun i hi => ⟨fun _ => ⟨rfl, rfl⟩, fun p hp => ?_⟩⟩, fun x hx hk => ?_⟩, rfl, rfl⟩⟩)
        · rw [er] at hp
          obtain ⟨z1, z2⟩ := hF i hi p hp
          exact ⟨z1, z2, fun q => by rcases q with q | q <;> exact absurd rfl q⟩
        · exact st_af hE0 hG hC.1 hA104 (rk_O (k := 578) hG (rk_gi hE0 hG) (en_O hE0 hG hx hk) 8 0)
      · have h109 : Rg 0 199 x105 := rg_lt_l h106 (⟨by decide, by decide⟩ : Rg 200 200 200) (nle_lt q107)
        obtain ⟨u1, u2, -⟩ := cl_upg h109
        have er : hp_r S102 = hp_r S := (hA104.2.2.2.1 (by decide)).2
        have J : ∀ S116, GI S116 E → Af E [321, 322] S S116 → Fgt S S116 b110 (x105.toNatClampNeg + 1) → TT xi M_X4_forget 30 [(0, .ref lk), (1, .int x105)] [] S116 kc nc P := by
          intro S116 hG117 hA118 hF2
          refine tt_iinc (j := 1) (v := (x105 + 1)) (ks := [0, 1]) (L' := [(1, .int (x105 + 1)), (0, .ref lk)]) dX4_forget_30 rfl rfl (by decide) rfl ?_
          refine tt_goto (tgt := 2) dX4_forget_33 rfl ?_
          exact tt_loc (ks := [1, 0]) rfl (ih S116 (x105 + 1) (lp_fu hm h109) hG117 hA118 u2 (by rw [u1]; exact hF2))
        refine tt_aload_n (j := 0) dX4_forget_9 rfl ?_
        refine gt_gR (id := 258) dX4_forget_10 fl_4_11 rfl rfl h0 hA104 hr111 ?_
        refine tt_iload_n (j := 1) dX4_forget_13 rfl ?_
        refine tt_aaload dX4_forget_14 (ob_af ho112 hA104) (by rw [n_af ho112 hA104]; exact rg_in h109) ?_
        rw [er]
        cases e : hp_r S b110 x105.toNatClampNeg with
        | none =>
          refine tt_astore_nN (ks := [0, 1, 2]) (L' := [(2, .null), (0, .ref lk), (1, .int x105)]) dX4_forget_15 (by decide) rfl ?_
          refine tt_aload_nN (j := 0) dX4_forget_16 rfl ?_
          refine tt_ifnullN (tgt := 30) dX4_forget_17 rfl ?_
          refine tt_loc (ks := [1, 2]) rfl (J S102 hG103 hA104 (fun j hj p hp => ?_))
          by_cases ej : j = x105.toNatClampNeg
          · rw [ej, e] at hp; cases hp
          · exact hF j (by omega) p hp
        | some b113 =>
          have h114 : Oa S E 5 0 b113 := gi_r hG ho112 e
          refine tt_astore_n (ks := [0, 1, 2]) (L' := [(2, .ref b113), (0, .ref lk), (1, .int x105)]) dX4_forget_15 (by decide) rfl ?_
          refine tt_aload_n (j := 0) dX4_forget_16 rfl ?_
          refine tt_ifnull dX4_forget_17 ?_
          refine tt_aload_n (j := 0) dX4_forget_20 rfl ?_
          refine tt_iconst (v := 0) dX4_forget_21 rfl ?_
          refine gx_pI (id := 321) (x := 0) dX4_forget_22 fl_4_59 rfl rfl h114 hA104 rfl rfl rfl (gp_I hG103) (by decide) (fun h => absurd h (by decide)) (fun h => absurd h (by decide)) rfl (fun S123 hG124 hA125 e126 => ?_)
          refine tt_aload_n (j := 0) dX4_forget_25 rfl ?_
          refine tt_iconst (v := 0) dX4_forget_26 rfl ?_
          refine gx_pI (id := 322) (x := 0) dX4_forget_27 fl_4_63 rfl rfl h114 hA125 rfl rfl rfl (gp_Ir hG124 (⟨by decide, by decide⟩ : Rg 0 0 0)) (by decide) (fun h => absurd h (by decide)) (fun h => absurd h (by decide)) e126 (fun S129 hG130 hA131 e132 => ?_)
          refine tt_loc (ks := [1, 2]) rfl (J S129 hG130 hA131 (fun j hj p hp => ?_))
          have f1 : hp_I S129 321 p = if p = b113 then 0 else hp_I S102 321 p := by
            rw [sg_I e132, mI_uI, if_neg (fun z => absurd z.1 (by decide)), mI_uI]
            by_cases z : p = b113
            · rw [if_pos ⟨rfl, z⟩, if_pos z]
            · rw [if_neg (fun y => z y.2), if_neg z]; rfl
          have f2 : hp_I S129 322 p = if p = b113 then 0 else hp_I S102 322 p := by
            rw [sg_I e132, mI_uI]
            by_cases z : p = b113
            · rw [if_pos ⟨rfl, z⟩, if_pos z]
            · rw [if_neg (fun y => z y.2), if_neg z, mI_uI, if_neg (fun y => absurd y.1 (by decide))]; rfl
          rw [f1, f2]
          by_cases ez : p = b113
          · rw [if_pos ez, if_pos ez]; exact ⟨rfl, rfl⟩
          · rw [if_neg ez, if_neg ez]
            by_cases ej : j = x105.toNatClampNeg
            · rw [ej, e] at hp; exact absurd (Option.some.inj hp).symm ez
            · exact hF j (by omega) p hp
  exact tt_loc (ks := [1, 0]) rfl (tt_loc (ks := [0, 1]) rfl (B101 201 S 0 (by decide) hG hA ⟨by decide, by decide⟩ (fun j hj => absurd hj (Nat.not_lt_zero _))))
end CSM
