def Z_X10_note_p27 (R : Nat → Nat → Nat) (σ : SG) (o0 : Nat) : SG :=
  if (mi σ (R 649 o0) (201 : Int32).toNatClampNeg) ≤ 0 then
    Z_X10_note_p86 R σ o0 (0)
  else
    if (mi σ (R 650 o0) (201 : Int32).toNatClampNeg) = (mI σ 657 o0) then
      Z_X10_note_p86 R σ o0 (1)
    else
      if (mi σ (R 649 o0) (201 : Int32).toNatClampNeg) = 1 then
        if (mi σ (R 651 o0) (201 : Int32).toNatClampNeg) = (mI σ 657 o0) then
          Z_X10_note_p86 R σ o0 (1)
        else
          Z_X10_note_p86 R σ o0 (0)
      else
        Z_X10_note_p86 R σ o0 (0)
theorem zl_X10_note_p27_0 {R : Nat → Nat → Nat} {σ : SG} {o0 : Nat} (h0 : (mi σ (R 649 o0) (201 : Int32).toNatClampNeg) ≤ 0) : Z_X10_note_p27 R σ o0 = Z_X10_note_p86 R σ o0 (0) := by unfold Z_X10_note_p27; exact if_pos h0
theorem zl_X10_note_p27_1 {R : Nat → Nat → Nat} {σ : SG} {o0 : Nat} (h0 : ¬ (mi σ (R 649 o0) (201 : Int32).toNatClampNeg) ≤ 0) (h1 : (mi σ (R 650 o0) (201 : Int32).toNatClampNeg) = (mI σ 657 o0)) : Z_X10_note_p27 R σ o0 = Z_X10_note_p86 R σ o0 (1) := by unfold Z_X10_note_p27; exact Eq.trans (if_neg h0) (if_pos h1)
theorem zl_X10_note_p27_2 {R : Nat → Nat → Nat} {σ : SG} {o0 : Nat} (h0 : ¬ (mi σ (R 649 o0) (201 : Int32).toNatClampNeg) ≤ 0) (h1 : ¬ (mi σ (R 650 o0) (201 : Int32).toNatClampNeg) = (mI σ 657 o0)) (h2 : (mi σ (R 649 o0) (201 : Int32).toNatClampNeg) = 1) (h3 : (mi σ (R 651 o0) (201 : Int32).toNatClampNeg) = (mI σ 657 o0)) : Z_X10_note_p27 R σ o0 = Z_X10_note_p86 R σ o0 (1) := by unfold Z_X10_note_p27; exact Eq.trans (if_neg h0) (Eq.trans (if_neg h1) (Eq.trans (if_pos h2) (if_pos h3)))
theorem zl_X10_note_p27_3 {R : Nat → Nat → Nat} {σ : SG} {o0 : Nat} (h0 : ¬ (mi σ (R 649 o0) (201 : Int32).toNatClampNeg) ≤ 0) (h1 : ¬ (mi σ (R 650 o0) (201 : Int32).toNatClampNeg) = (mI σ 657 o0)) (h2 : (mi σ (R 649 o0) (201 : Int32).toNatClampNeg) = 1) (h3 : ¬ (mi σ (R 651 o0) (201 : Int32).toNatClampNeg) = (mI σ 657 o0)) : Z_X10_note_p27 R σ o0 = Z_X10_note_p86 R σ o0 (0) := by unfold Z_X10_note_p27; exact Eq.trans (if_neg h0) (Eq.trans (if_neg h1) (Eq.trans (if_pos h2) (if_neg h3)))
theorem zl_X10_note_p27_4 {R : Nat → Nat → Nat} {σ : SG} {o0 : Nat} (h0 : ¬ (mi σ (R 649 o0) (201 : Int32).toNatClampNeg) ≤ 0) (h1 : ¬ (mi σ (R 650 o0) (201 : Int32).toNatClampNeg) = (mI σ 657 o0)) (h2 : ¬ (mi σ (R 649 o0) (201 : Int32).toNatClampNeg) = 1) : Z_X10_note_p27 R σ o0 = Z_X10_note_p86 R σ o0 (0) := by unfold Z_X10_note_p27; exact Eq.trans (if_neg h0) (Eq.trans (if_neg h1) (if_neg h2))
set_option maxHeartbeats 40000000 in
theorem cz_X10_note_p27 {xi : SX} {S : Hp} {E : List Nat} {kc nc : Nat} {P : Po} {o0 : Nat} {R : Nat → Nat → Nat} (hG : GI S E) (h0 : Oa S E 10 0 o0) (hR : RK S R) (hg : Rg 0 23 (mI (sg S) 657 o0)) (ho : Rg (-1) 23 (mI (sg S) 658 o0)) (hP : ∀ r T x y, PV E [9988] S kc nc rV (fun v T => sg T = Z_X10_note_p27 R (sg S) o0) [] r T x y → P r T x y) : TT xi M_X10_note 27 [(0, .ref o0)] [] S kc nc P := by
  have hA : Af E [9988] S S := af_rf
  refine tt_aload_n (j := 0) dX10_note_27 rfl ?_
  have hr101 := rk_R (k := 649) hR h0 32 202
  have ho102 := rk_O (k := 649) hG hR h0 32 202
  refine gt_gR (id := 649) dX10_note_28 fl_10_33 rfl rfl h0 hA hr101 ?_
  refine tt_sipush (v := 201) dX10_note_31 rfl ?_
  refine gx_iL (v := (mi (sg S) (R 649 o0) (201 : Int32).toNatClampNeg)) dX10_note_34 ho102 hA (rg_in (⟨by decide, by decide⟩ : Rg 201 201 201)) (sg_i (a := (R 649 o0)) (i := (201 : Int32).toNatClampNeg) (show sg S = (sg S) from rfl)) ?_
  refine tt_if_le (tgt := 84) dX10_note_35 rfl (fun q103 => ?_) (fun q103 => ?_)
  · skip
    have h104 : Rg (-1) 0 (mi (sg S) (R 649 o0) (201 : Int32).toNatClampNeg) := rg_le_l (rg_cast (sg_i (a := (R 649 o0)) (i := (201 : Int32).toNatClampNeg) (show sg S = (sg S) from rfl)).symm (gi_i hG (oa_af ho102 hA))) (⟨by decide, by decide⟩ : Rg 0 0 0) q103
    refine tt_iconst (v := 0) dX10_note_84 rfl ?_
    refine tt_istore_n (ks := [0, 1]) (L' := [(1, .int 0), (0, .ref o0)]) dX10_note_85 (by decide) rfl ?_
    have hF : Z_X10_note_p27 R (sg S) o0 = Z_X10_note_p86 R (sg S) o0 (0) := by
      exact zl_X10_note_p27_0 q103
    exact tt_loc (ks := [1, 0]) rfl (cz_X10_note_p86 hG (oa_af h0 hA) (rg_w (⟨by decide, by decide⟩ : Rg 0 0 0)) hR hg ho (fun r T x y h => hP r T x y (pv_tr hA h (by decide) (fun v T e => e.trans ((congrArg (fun q9 => Z_X10_note_p86 R q9 o0 (0)) (show sg S = (sg S) from rfl)).trans hF.symm)))))
  · skip
    have h105 : Rg 1 31 (mi (sg S) (R 649 o0) (201 : Int32).toNatClampNeg) := rg_lt_r (⟨by decide, by decide⟩ : Rg 0 0 0) (rg_cast (sg_i (a := (R 649 o0)) (i := (201 : Int32).toNatClampNeg) (show sg S = (sg S) from rfl)).symm (gi_i hG (oa_af ho102 hA))) (nle_lt q103)
    refine tt_aload_n (j := 0) dX10_note_38 rfl ?_
    have hr106 := rk_R (k := 650) hR h0 32 202
    have ho107 := rk_O (k := 650) hG hR h0 32 202
    refine gt_gR (id := 650) dX10_note_39 fl_10_36 rfl rfl h0 hA hr106 ?_
    refine tt_sipush (v := 201) dX10_note_42 rfl ?_
    refine gx_iL (v := (mi (sg S) (R 650 o0) (201 : Int32).toNatClampNeg)) dX10_note_45 ho107 hA (rg_in (⟨by decide, by decide⟩ : Rg 201 201 201)) (sg_i (a := (R 650 o0)) (i := (201 : Int32).toNatClampNeg) (show sg S = (sg S) from rfl)) ?_
    refine tt_aload_n (j := 0) dX10_note_46 rfl ?_
    refine gt_gI (id := 657) (v := (mI (sg S) 657 o0)) dX10_note_47 fl_10_110 rfl rfl h0 hA (sg_I (k := 657) (o := o0) (show sg S = (sg S) from rfl)) ?_
    refine tt_icmp_eq (tgt := 80) dX10_note_50 rfl (fun q108 => ?_) (fun q108 => ?_)
    · skip
      have h109 : Rg 0 23 (mi (sg S) (R 650 o0) (201 : Int32).toNatClampNeg) := rg_eq_l (rg_cast (sg_i (a := (R 650 o0)) (i := (201 : Int32).toNatClampNeg) (show sg S = (sg S) from rfl)).symm (gi_i hG (oa_af ho107 hA))) hg q108
      refine tt_iconst (v := 1) dX10_note_80 rfl ?_
      refine tt_goto (tgt := 85) dX10_note_81 rfl ?_
      refine tt_istore_n (ks := [0, 1]) (L' := [(1, .int 1), (0, .ref o0)]) dX10_note_85 (by decide) rfl ?_
      have hF : Z_X10_note_p27 R (sg S) o0 = Z_X10_note_p86 R (sg S) o0 (1) := by
        exact zl_X10_note_p27_1 q103 q108
      exact tt_loc (ks := [1, 0]) rfl (cz_X10_note_p86 hG (oa_af h0 hA) (rg_w (⟨by decide, by decide⟩ : Rg 1 1 1)) hR hg ho (fun r T x y h => hP r T x y (pv_tr hA h (by decide) (fun v T e => e.trans ((congrArg (fun q9 => Z_X10_note_p86 R q9 o0 (1)) (show sg S = (sg S) from rfl)).trans hF.symm)))))
    · skip
      refine tt_aload_n (j := 0) dX10_note_53 rfl ?_
      refine gt_gR (id := 649) dX10_note_54 fl_10_33 rfl rfl h0 hA hr101 ?_
      refine tt_sipush (v := 201) dX10_note_57 rfl ?_
      refine gx_iL (v := (mi (sg S) (R 649 o0) (201 : Int32).toNatClampNeg)) dX10_note_60 ho102 hA (rg_in (⟨by decide, by decide⟩ : Rg 201 201 201)) (sg_i (a := (R 649 o0)) (i := (201 : Int32).toNatClampNeg) (show sg S = (sg S) from rfl)) ?_
      refine tt_iconst (v := 1) dX10_note_61 rfl ?_
      refine tt_icmp_ne (tgt := 84) dX10_note_62 rfl (fun q110 => ?_) (fun q110 => ?_)
      · skip
        have h111 : Rg 2 31 (mi (sg S) (R 649 o0) (201 : Int32).toNatClampNeg) := rg_ne_lo h105 (⟨by decide, by decide⟩ : Rg 1 1 1) q110
        refine tt_iconst (v := 0) dX10_note_84 rfl ?_
        refine tt_istore_n (ks := [0, 1]) (L' := [(1, .int 0), (0, .ref o0)]) dX10_note_85 (by decide) rfl ?_
        have hF : Z_X10_note_p27 R (sg S) o0 = Z_X10_note_p86 R (sg S) o0 (0) := by
          exact zl_X10_note_p27_4 q103 q108 q110
        exact tt_loc (ks := [1, 0]) rfl (cz_X10_note_p86 hG (oa_af h0 hA) (rg_w (⟨by decide, by decide⟩ : Rg 0 0 0)) hR hg ho (fun r T x y h => hP r T x y (pv_tr hA h (by decide) (fun v T e => e.trans ((congrArg (fun q9 => Z_X10_note_p86 R q9 o0 (0)) (show sg S = (sg S) from rfl)).trans hF.symm)))))
      · skip
        have h112 : Rg 1 1 (mi (sg S) (R 649 o0) (201 : Int32).toNatClampNeg) := rg_eq_l h105 (⟨by decide, by decide⟩ : Rg 1 1 1) q110
        refine tt_aload_n (j := 0) dX10_note_65 rfl ?_
        have hr113 := rk_R (k := 651) hR h0 32 202
        have ho114 := rk_O (k := 651) hG hR h0 32 202
        refine gt_gR (id := 651) dX10_note_66 fl_10_39 rfl rfl h0 hA hr113 ?_
        refine tt_sipush (v := 201) dX10_note_69 rfl ?_
        refine gx_iL (v := (mi (sg S) (R 651 o0) (201 : Int32).toNatClampNeg)) dX10_note_72 ho114 hA (rg_in (⟨by decide, by decide⟩ : Rg 201 201 201)) (sg_i (a := (R 651 o0)) (i := (201 : Int32).toNatClampNeg) (show sg S = (sg S) from rfl)) ?_
        refine tt_aload_n (j := 0) dX10_note_73 rfl ?_
        refine gt_gI (id := 657) (v := (mI (sg S) 657 o0)) dX10_note_74 fl_10_110 rfl rfl h0 hA (sg_I (k := 657) (o := o0) (show sg S = (sg S) from rfl)) ?_
        refine tt_icmp_ne (tgt := 84) dX10_note_77 rfl (fun q115 => ?_) (fun q115 => ?_)
        · skip
          refine tt_iconst (v := 0) dX10_note_84 rfl ?_
          refine tt_istore_n (ks := [0, 1]) (L' := [(1, .int 0), (0, .ref o0)]) dX10_note_85 (by decide) rfl ?_
          have hF : Z_X10_note_p27 R (sg S) o0 = Z_X10_note_p86 R (sg S) o0 (0) := by
            exact zl_X10_note_p27_3 q103 q108 q110 q115
          exact tt_loc (ks := [1, 0]) rfl (cz_X10_note_p86 hG (oa_af h0 hA) (rg_w (⟨by decide, by decide⟩ : Rg 0 0 0)) hR hg ho (fun r T x y h => hP r T x y (pv_tr hA h (by decide) (fun v T e => e.trans ((congrArg (fun q9 => Z_X10_note_p86 R q9 o0 (0)) (show sg S = (sg S) from rfl)).trans hF.symm)))))
        · skip
          have h116 : Rg 0 23 (mi (sg S) (R 651 o0) (201 : Int32).toNatClampNeg) := rg_eq_l (rg_cast (sg_i (a := (R 651 o0)) (i := (201 : Int32).toNatClampNeg) (show sg S = (sg S) from rfl)).symm (gi_i hG (oa_af ho114 hA))) hg q115
          refine tt_iconst (v := 1) dX10_note_80 rfl ?_
          refine tt_goto (tgt := 85) dX10_note_81 rfl ?_
          refine tt_istore_n (ks := [0, 1]) (L' := [(1, .int 1), (0, .ref o0)]) dX10_note_85 (by decide) rfl ?_
          have hF : Z_X10_note_p27 R (sg S) o0 = Z_X10_note_p86 R (sg S) o0 (1) := by
            exact zl_X10_note_p27_2 q103 q108 q110 q115
          exact tt_loc (ks := [1, 0]) rfl (cz_X10_note_p86 hG (oa_af h0 hA) (rg_w (⟨by decide, by decide⟩ : Rg 1 1 1)) hR hg ho (fun r T x y h => hP r T x y (pv_tr hA h (by decide) (fun v T e => e.trans ((congrArg (fun q9 => Z_X10_note_p86 R q9 o0 (1)) (show sg S = (sg S) from rfl)).trans hF.symm)))))
def Z_X10_note (R : Nat → Nat → Nat) (σ : SG) (o0 : Nat) : SG :=
  if (mI σ 655 o0) = 13 then
    Z_X10_note_p27 R σ o0
  else
    if (mI σ 655 o0) = 18 then
      Z_X10_note_p27 R σ o0
    else
      if (mI σ 655 o0) = 9 then
        Z_X10_note_p27 R σ o0
      else
        Z_X10_note_p111 R σ o0
theorem zl_X10_note_0 {R : Nat → Nat → Nat} {σ : SG} {o0 : Nat} (h0 : (mI σ 655 o0) = 13) : Z_X10_note R σ o0 = Z_X10_note_p27 R σ o0 := by unfold Z_X10_note; exact if_pos h0
theorem zl_X10_note_1 {R : Nat → Nat → Nat} {σ : SG} {o0 : Nat} (h0 : ¬ (mI σ 655 o0) = 13) (h1 : (mI σ 655 o0) = 18) : Z_X10_note R σ o0 = Z_X10_note_p27 R σ o0 := by unfold Z_X10_note; exact Eq.trans (if_neg h0) (if_pos h1)
theorem zl_X10_note_2 {R : Nat → Nat → Nat} {σ : SG} {o0 : Nat} (h0 : ¬ (mI σ 655 o0) = 13) (h1 : ¬ (mI σ 655 o0) = 18) (h2 : (mI σ 655 o0) = 9) : Z_X10_note R σ o0 = Z_X10_note_p27 R σ o0 := by unfold Z_X10_note; exact Eq.trans (if_neg h0) (Eq.trans (if_neg h1) (if_pos h2))
theorem zl_X10_note_3 {R : Nat → Nat → Nat} {σ : SG} {o0 : Nat} (h0 : ¬ (mI σ 655 o0) = 13) (h1 : ¬ (mI σ 655 o0) = 18) (h2 : ¬ (mI σ 655 o0) = 9) : Z_X10_note R σ o0 = Z_X10_note_p111 R σ o0 := by unfold Z_X10_note; exact Eq.trans (if_neg h0) (Eq.trans (if_neg h1) (if_neg h2))
set_option maxHeartbeats 40000000 in
theorem cz_X10_note {xi : SX} {S : Hp} {E : List Nat} {kc nc : Nat} {P : Po} {o0 : Nat} {R : Nat → Nat → Nat} (hG : GI S E) (h0 : Oa S E 10 0 o0) (hR : RK S R) (hg : Rg 0 23 (mI (sg S) 657 o0)) (ho : Rg (-1) 23 (mI (sg S) 658 o0)) (hP : ∀ r T x y, PV E [9988] S kc nc rV (fun v T => sg T = Z_X10_note R (sg S) o0) [] r T x y → P r T x y) : TT xi M_X10_note 0 [(0, .ref o0)] [] S kc nc P := by
  have hA : Af E [9988] S S := af_rf
  refine tt_aload_n (j := 0) dX10_note_0 rfl ?_
  refine gt_gI (id := 655) (v := (mI (sg S) 655 o0)) dX10_note_1 fl_10_107 rfl rfl h0 hA (sg_I (k := 655) (o := o0) (show sg S = (sg S) from rfl)) ?_
  refine tt_bipush (v := 13) dX10_note_4 rfl ?_
  refine tt_icmp_eq (tgt := 27) dX10_note_6 rfl (fun q101 => ?_) (fun q101 => ?_)
  · skip
    have h102 : Rg 13 13 (mI (sg S) 655 o0) := rg_eq_l (rg_all (mI (sg S) 655 o0)) (⟨by decide, by decide⟩ : Rg 13 13 13) q101
    have hF : Z_X10_note R (sg S) o0 = Z_X10_note_p27 R (sg S) o0 := by
      exact zl_X10_note_0 q101
    exact tt_loc (ks := [0]) rfl (cz_X10_note_p27 hG (oa_af h0 hA) hR hg ho (fun r T x y h => hP r T x y (pv_tr hA h (by decide) (fun v T e => e.trans ((congrArg (fun q9 => Z_X10_note_p27 R q9 o0) (show sg S = (sg S) from rfl)).trans hF.symm)))))
  · skip
    refine tt_aload_n (j := 0) dX10_note_9 rfl ?_
    refine gt_gI (id := 655) (v := (mI (sg S) 655 o0)) dX10_note_10 fl_10_107 rfl rfl h0 hA (sg_I (k := 655) (o := o0) (show sg S = (sg S) from rfl)) ?_
    refine tt_bipush (v := 18) dX10_note_13 rfl ?_
    refine tt_icmp_eq (tgt := 27) dX10_note_15 rfl (fun q103 => ?_) (fun q103 => ?_)
    · skip
      have h104 : Rg 18 18 (mI (sg S) 655 o0) := rg_eq_l (rg_all (mI (sg S) 655 o0)) (⟨by decide, by decide⟩ : Rg 18 18 18) q103
      have hF : Z_X10_note R (sg S) o0 = Z_X10_note_p27 R (sg S) o0 := by
        exact zl_X10_note_1 q101 q103
      exact tt_loc (ks := [0]) rfl (cz_X10_note_p27 hG (oa_af h0 hA) hR hg ho (fun r T x y h => hP r T x y (pv_tr hA h (by decide) (fun v T e => e.trans ((congrArg (fun q9 => Z_X10_note_p27 R q9 o0) (show sg S = (sg S) from rfl)).trans hF.symm)))))
    · skip
      refine tt_aload_n (j := 0) dX10_note_18 rfl ?_
      refine gt_gI (id := 655) (v := (mI (sg S) 655 o0)) dX10_note_19 fl_10_107 rfl rfl h0 hA (sg_I (k := 655) (o := o0) (show sg S = (sg S) from rfl)) ?_
      refine tt_bipush (v := 9) dX10_note_22 rfl ?_
      refine tt_icmp_ne (tgt := 111) dX10_note_24 rfl (fun q105 => ?_) (fun q105 => ?_)
      · skip
        have hF : Z_X10_note R (sg S) o0 = Z_X10_note_p111 R (sg S) o0 := by
          exact zl_X10_note_3 q101 q103 q105
        exact tt_loc (ks := [0]) rfl (cz_X10_note_p111 hG (oa_af h0 hA) hR hg ho (fun r T x y h => hP r T x y (pv_tr hA h (by decide) (fun v T e => e.trans ((congrArg (fun q9 => Z_X10_note_p111 R q9 o0) (show sg S = (sg S) from rfl)).trans hF.symm)))))
      · skip
        have h106 : Rg 9 9 (mI (sg S) 655 o0) := rg_eq_l (rg_all (mI (sg S) 655 o0)) (⟨by decide, by decide⟩ : Rg 9 9 9) q105
        have hF : Z_X10_note R (sg S) o0 = Z_X10_note_p27 R (sg S) o0 := by
          exact zl_X10_note_2 q101 q103 q105
        exact tt_loc (ks := [0]) rfl (cz_X10_note_p27 hG (oa_af h0 hA) hR hg ho (fun r T x y h => hP r T x y (pv_tr hA h (by decide) (fun v T e => e.trans ((congrArg (fun q9 => Z_X10_note_p27 R q9 o0) (show sg S = (sg S) from rfl)).trans hF.symm)))))
def Z_X10_act_p160 (R : Nat → Nat → Nat) (σ : SG) (o0 : Nat) : SG :=
  if (mI σ 655 o0) = 7 then
    let d108 := Z_X10_note R σ o0
    d108
  else
    if (mI σ 655 o0) = 8 then
      let d119 := Z_X10_note R σ o0
      d119
    else
      let d128 := Z_X10_copy R σ o0 ((4856 + (mI σ 657 o0))) (4850)
      let d137 := Z_X10_note R d128 o0
      d137
theorem zl_X10_act_p160_0 {R : Nat → Nat → Nat} {σ : SG} {o0 : Nat} (h0 : (mI σ 655 o0) = 7) : Z_X10_act_p160 R σ o0 = (Z_X10_note R σ o0) := by unfold Z_X10_act_p160; exact if_pos h0
theorem zl_X10_act_p160_1 {R : Nat → Nat → Nat} {σ : SG} {o0 : Nat} (h0 : ¬ (mI σ 655 o0) = 7) (h1 : (mI σ 655 o0) = 8) : Z_X10_act_p160 R σ o0 = (Z_X10_note R σ o0) := by unfold Z_X10_act_p160; exact Eq.trans (if_neg h0) (if_pos h1)
theorem zl_X10_act_p160_2 {R : Nat → Nat → Nat} {σ : SG} {o0 : Nat} (h0 : ¬ (mI σ 655 o0) = 7) (h1 : ¬ (mI σ 655 o0) = 8) : Z_X10_act_p160 R σ o0 = (Z_X10_note R (Z_X10_copy R σ o0 ((4856 + (mI σ 657 o0))) (4850)) o0) := by unfold Z_X10_act_p160; exact Eq.trans (if_neg h0) (if_neg h1)
set_option maxHeartbeats 40000000 in
theorem cz_X10_act_p160 {xi : SX} {S : Hp} {E : List Nat} {kc nc : Nat} {P : Po} {o0 : Nat} {R : Nat → Nat → Nat} (hG : GI S E) (h0 : Oa S E 10 0 o0) (hR : RK S R) (hg : Rg 0 23 (mI (sg S) 657 o0)) (ho : Rg (-1) 23 (mI (sg S) 658 o0)) (hP : ∀ r T x y, PV E [9988, 9989] S kc nc rV (fun v T => sg T = Z_X10_act_p160 R (sg S) o0) [] r T x y → P r T x y) : TT xi M_X10_act 160 [(0, .ref o0)] [] S kc nc P := by
  have hA : Af E [9988, 9989] S S := af_rf
  refine tt_aload_n (j := 0) dX10_act_160 rfl ?_
  refine gt_gI (id := 655) (v := (mI (sg S) 655 o0)) dX10_act_161 fl_10_107 rfl rfl h0 hA (sg_I (k := 655) (o := o0) (show sg S = (sg S) from rfl)) ?_
  refine tt_bipush (v := 7) dX10_act_164 rfl ?_
  refine tt_icmp_eq (tgt := 193) dX10_act_166 rfl (fun q101 => ?_) (fun q101 => ?_)
  · skip
    have h102 : Rg 7 7 (mI (sg S) 655 o0) := rg_eq_l (rg_all (mI (sg S) 655 o0)) (⟨by decide, by decide⟩ : Rg 7 7 7) q101
    refine tt_aload_n (j := 0) dX10_act_193 rfl ?_
    refine gt_Vv (As := []) dX10_act_194 ca_X10_225 ⟨by decide, by decide⟩ h0 hA rfl (Nat.le_of_ble_eq_true rfl) (Nat.le_of_ble_eq_true rfl) (by decide) (cz_X10_note hG (oa_af h0 hA) hR hg ho (fun _ _ _ _ h => h)) rfl (fun _ h => nomatch h) (fun S103 hx107 hG104 hB105 hA106 => ?_)
    obtain ⟨d108, hd109⟩ : ∃ q, Z_X10_note R (sg S) o0 = q := ⟨_, rfl⟩
    have hq110 := (congrArg (fun q9 => Z_X10_note R q9 o0) (show sg S = (sg S) from rfl)).trans hd109
    have hs111 := hx107.trans hq110
    have hF : Z_X10_act_p160 R (sg S) o0 = d108 := by
      subst hd109
      exact zl_X10_act_p160_0 q101
    exact tt_vreturn dX10_act_197 rfl (hP _ _ _ _ ⟨hG104, hA106, Or.inl ⟨_, rfl, rfl, Eq.trans hs111 hF.symm, rfl, rfl⟩⟩)
  · skip
    refine tt_aload_n (j := 0) dX10_act_169 rfl ?_
    refine gt_gI (id := 655) (v := (mI (sg S) 655 o0)) dX10_act_170 fl_10_107 rfl rfl h0 hA (sg_I (k := 655) (o := o0) (show sg S = (sg S) from rfl)) ?_
    refine tt_bipush (v := 8) dX10_act_173 rfl ?_
    refine tt_icmp_eq (tgt := 193) dX10_act_175 rfl (fun q112 => ?_) (fun q112 => ?_)
    · skip
      have h113 : Rg 8 8 (mI (sg S) 655 o0) := rg_eq_l (rg_all (mI (sg S) 655 o0)) (⟨by decide, by decide⟩ : Rg 8 8 8) q112
      refine tt_aload_n (j := 0) dX10_act_193 rfl ?_
      refine gt_Vv (As := []) dX10_act_194 ca_X10_225 ⟨by decide, by decide⟩ h0 hA rfl (Nat.le_of_ble_eq_true rfl) (Nat.le_of_ble_eq_true rfl) (by decide) (cz_X10_note hG (oa_af h0 hA) hR hg ho (fun _ _ _ _ h => h)) rfl (fun _ h => nomatch h) (fun S114 hx118 hG115 hB116 hA117 => ?_)
      obtain ⟨d119, hd120⟩ : ∃ q, Z_X10_note R (sg S) o0 = q := ⟨_, rfl⟩
      have hq121 := (congrArg (fun q9 => Z_X10_note R q9 o0) (show sg S = (sg S) from rfl)).trans hd120
      have hs122 := hx118.trans hq121
      have hF : Z_X10_act_p160 R (sg S) o0 = d119 := by
        subst hd120
        exact zl_X10_act_p160_1 q101 q112
      exact tt_vreturn dX10_act_197 rfl (hP _ _ _ _ ⟨hG115, hA117, Or.inl ⟨_, rfl, rfl, Eq.trans hs122 hF.symm, rfl, rfl⟩⟩)
    · skip
      refine tt_aload_n (j := 0) dX10_act_178 rfl ?_
      refine tt_sipush (v := 4856) dX10_act_179 rfl ?_
      refine tt_aload_n (j := 0) dX10_act_182 rfl ?_
      refine gt_gI (id := 657) (v := (mI (sg S) 657 o0)) dX10_act_183 fl_10_110 rfl rfl h0 hA (sg_I (k := 657) (o := o0) (show sg S = (sg S) from rfl)) ?_
      refine tt_iadd dX10_act_186 ?_
      refine tt_sipush (v := 4850) dX10_act_187 rfl ?_
      refine gt_Vv (As := [.int (4856 + (mI (sg S) 657 o0)), .int 4850]) dX10_act_190 ca_X10_169 ⟨by decide, by decide⟩ h0 hA rfl (Nat.le_of_ble_eq_true rfl) (Nat.le_of_ble_eq_true rfl) (by decide) (cz_X10_copy hG (oa_af h0 hA) (rg_w (rg_add (lo := 4856) (hi := 4879) (⟨by decide, by decide⟩ : Rg 4856 4856 4856) hg)) (rg_w (⟨by decide, by decide⟩ : Rg 4850 4850 4850)) hR (fun _ _ _ _ h => h)) rfl (fun _ h => nomatch h) (fun S123 hx127 hG124 hB125 hA126 => ?_)
      obtain ⟨d128, hd129⟩ : ∃ q, Z_X10_copy R (sg S) o0 ((4856 + (mI (sg S) 657 o0))) (4850) = q := ⟨_, rfl⟩
      have hq130 := (congrArg (fun q9 => Z_X10_copy R q9 o0 ((4856 + (mI (sg S) 657 o0))) (4850)) (show sg S = (sg S) from rfl)).trans hd129
      have hs131 := hx127.trans hq130
      refine tt_aload_n (j := 0) dX10_act_193 rfl ?_
      refine gt_Vv (As := []) dX10_act_194 ca_X10_225 ⟨by decide, by decide⟩ h0 hA126 rfl (Nat.le_of_ble_eq_true rfl) (Nat.le_of_ble_eq_true rfl) (by decide) (cz_X10_note hG124 (oa_af h0 hA126) (rk_af hR hA126) (rg_cast (show mI (sg S123) 657 o0 = mI (sg S) 657 o0 from i_af (k := 657) h0 hA126) hg) (rg_cast (show mI (sg S123) 658 o0 = mI (sg S) 658 o0 from i_af (k := 658) h0 hA126) ho) (fun _ _ _ _ h => h)) rfl (fun _ h => nomatch h) (fun S132 hx136 hG133 hB134 hA135 => ?_)
      obtain ⟨d137, hd138⟩ : ∃ q, Z_X10_note R d128 o0 = q := ⟨_, rfl⟩
      have hq139 := (congrArg (fun q9 => Z_X10_note R q9 o0) hs131).trans hd138
      have hs140 := hx136.trans hq139
      have hF : Z_X10_act_p160 R (sg S) o0 = d137 := by
        subst hd138
        subst hd129
        exact zl_X10_act_p160_2 q101 q112
      exact tt_vreturn dX10_act_197 rfl (hP _ _ _ _ ⟨hG133, hA135, Or.inl ⟨_, rfl, rfl, Eq.trans hs140 hF.symm, rfl, rfl⟩⟩)
def Z_X10_act_p136 (R : Nat → Nat → Nat) (σ : SG) (o0 : Nat) (x2 : Int32) : SG :=
  if x2 = 0 then
    Z_X10_act_p160 R σ o0
  else
    let d109 := Z_X10_copy R σ o0 (4851) (4850)
    let d118 := Z_X10_lowPart R d109 o0 (4850) (4851)
    Z_X10_act_p160 R d118 o0
theorem zl_X10_act_p136_0 {R : Nat → Nat → Nat} {σ : SG} {o0 : Nat} {x2 : Int32} (h0 : x2 = 0) : Z_X10_act_p136 R σ o0 x2 = Z_X10_act_p160 R σ o0 := by unfold Z_X10_act_p136; exact if_pos h0
theorem zl_X10_act_p136_1 {R : Nat → Nat → Nat} {σ : SG} {o0 : Nat} {x2 : Int32} (h0 : ¬ x2 = 0) : Z_X10_act_p136 R σ o0 x2 = Z_X10_act_p160 R (Z_X10_lowPart R (Z_X10_copy R σ o0 (4851) (4850)) o0 (4850) (4851)) o0 := by unfold Z_X10_act_p136; exact if_neg h0
set_option maxHeartbeats 40000000 in
theorem cz_X10_act_p136 {xi : SX} {S : Hp} {E : List Nat} {kc nc : Nat} {P : Po} {o0 : Nat} {x2 : Int32} {R : Nat → Nat → Nat} (hG : GI S E) (h0 : Oa S E 10 0 o0) (h2 : Rg 0 1 x2) (hR : RK S R) (hg : Rg 0 23 (mI (sg S) 657 o0)) (ho : Rg (-1) 23 (mI (sg S) 658 o0)) (hP : ∀ r T x y, PV E [9988, 9989] S kc nc rV (fun v T => sg T = Z_X10_act_p136 R (sg S) o0 x2) [] r T x y → P r T x y) : TT xi M_X10_act 136 [(0, .ref o0), (2, .int x2)] [] S kc nc P := by
  have hA : Af E [9988, 9989] S S := af_rf
  refine tt_iload_n (j := 1) dX10_act_136 rfl ?_
  refine tt_if_eq (tgt := 160) dX10_act_137 rfl (fun q101 => ?_) (fun q101 => ?_)
  · skip
    have h102 : Rg 0 0 x2 := rg_eq_l h2 (⟨by decide, by decide⟩ : Rg 0 0 0) q101
    have hF : Z_X10_act_p136 R (sg S) o0 x2 = Z_X10_act_p160 R (sg S) o0 := by
      exact zl_X10_act_p136_0 q101
    exact tt_loc (ks := [0]) rfl (cz_X10_act_p160 hG (oa_af h0 hA) hR hg ho (fun r T x y h => hP r T x y (pv_tr hA h (by decide) (fun v T e => e.trans ((congrArg (fun q9 => Z_X10_act_p160 R q9 o0) (show sg S = (sg S) from rfl)).trans hF.symm)))))
  · skip
    have h103 : Rg 1 1 x2 := rg_ne_lo h2 (⟨by decide, by decide⟩ : Rg 0 0 0) q101
    refine tt_aload_n (j := 0) dX10_act_140 rfl ?_
    refine tt_sipush (v := 4851) dX10_act_141 rfl ?_
    refine tt_sipush (v := 4850) dX10_act_144 rfl ?_
    refine gt_Vv (As := [.int 4851, .int 4850]) dX10_act_147 ca_X10_169 ⟨by decide, by decide⟩ h0 hA rfl (Nat.le_of_ble_eq_true rfl) (Nat.le_of_ble_eq_true rfl) (by decide) (cz_X10_copy hG (oa_af h0 hA) (rg_w (⟨by decide, by decide⟩ : Rg 4851 4851 4851)) (rg_w (⟨by decide, by decide⟩ : Rg 4850 4850 4850)) hR (fun _ _ _ _ h => h)) rfl (fun _ h => nomatch h) (fun S104 hx108 hG105 hB106 hA107 => ?_)
    obtain ⟨d109, hd110⟩ : ∃ q, Z_X10_copy R (sg S) o0 (4851) (4850) = q := ⟨_, rfl⟩
    have hq111 := (congrArg (fun q9 => Z_X10_copy R q9 o0 (4851) (4850)) (show sg S = (sg S) from rfl)).trans hd110
    have hs112 := hx108.trans hq111
    refine tt_aload_n (j := 0) dX10_act_150 rfl ?_
    refine tt_sipush (v := 4850) dX10_act_151 rfl ?_
    refine tt_sipush (v := 4851) dX10_act_154 rfl ?_
    refine gt_Vv (As := [.int 4850, .int 4851]) dX10_act_157 ca_X10_210 ⟨by decide, by decide⟩ h0 hA107 rfl (Nat.le_of_ble_eq_true rfl) (Nat.le_of_ble_eq_true rfl) (by decide) (cz_X10_lowPart hG105 (oa_af h0 hA107) (rg_w (⟨by decide, by decide⟩ : Rg 4850 4850 4850)) (rg_w (⟨by decide, by decide⟩ : Rg 4851 4851 4851)) (rk_af hR hA107) (fun _ _ _ _ h => h)) rfl (fun _ h => nomatch h) (fun S113 hx117 hG114 hB115 hA116 => ?_)
    obtain ⟨d118, hd119⟩ : ∃ q, Z_X10_lowPart R d109 o0 (4850) (4851) = q := ⟨_, rfl⟩
    have hq120 := (congrArg (fun q9 => Z_X10_lowPart R q9 o0 (4850) (4851)) hs112).trans hd119
    have hs121 := hx117.trans hq120
    have hF : Z_X10_act_p136 R (sg S) o0 x2 = Z_X10_act_p160 R d118 o0 := by
      subst hd119
      subst hd110
      exact zl_X10_act_p136_1 q101
    exact tt_loc (ks := [0]) rfl (cz_X10_act_p160 hG114 (oa_af h0 hA116) (rk_af hR hA116) (rg_cast (show mI (sg S113) 657 o0 = mI (sg S) 657 o0 from i_af (k := 657) h0 hA116) hg) (rg_cast (show mI (sg S113) 658 o0 = mI (sg S) 658 o0 from i_af (k := 658) h0 hA116) ho) (fun r T x y h => hP r T x y (pv_tr hA116 h (by decide) (fun v T e => e.trans ((congrArg (fun q9 => Z_X10_act_p160 R q9 o0) hs121).trans hF.symm)))))
def Z_X10_act_p81 (R : Nat → Nat → Nat) (σ : SG) (o0 : Nat) (x2 : Int32) : SG :=
  if (mI σ 655 o0) = 6 then
    if (mI σ 658 o0) = (mI σ 657 o0) then
      let d119 := Z_X10_one R σ o0 (4850) (0)
      Z_X10_act_p136 R d119 o0 (x2)
    else
      let d109 := Z_X10_work R σ o0
      Z_X10_act_p136 R d109 o0 (x2)
  else
    if (mI σ 655 o0) = 5 then
      if (mI σ 658 o0) = (mI σ 657 o0) then
        let d150 := Z_X10_one R σ o0 (4850) (0)
        Z_X10_act_p136 R d150 o0 (x2)
      else
        let d140 := Z_X10_work R σ o0
        Z_X10_act_p136 R d140 o0 (x2)
    else
      let d129 := Z_X10_work R σ o0
      Z_X10_act_p136 R d129 o0 (x2)
theorem zl_X10_act_p81_0 {R : Nat → Nat → Nat} {σ : SG} {o0 : Nat} {x2 : Int32} (h0 : (mI σ 655 o0) = 6) (h1 : (mI σ 658 o0) = (mI σ 657 o0)) : Z_X10_act_p81 R σ o0 x2 = Z_X10_act_p136 R (Z_X10_one R σ o0 (4850) (0)) o0 (x2) := by unfold Z_X10_act_p81; exact Eq.trans (if_pos h0) (if_pos h1)
theorem zl_X10_act_p81_1 {R : Nat → Nat → Nat} {σ : SG} {o0 : Nat} {x2 : Int32} (h0 : (mI σ 655 o0) = 6) (h1 : ¬ (mI σ 658 o0) = (mI σ 657 o0)) : Z_X10_act_p81 R σ o0 x2 = Z_X10_act_p136 R (Z_X10_work R σ o0) o0 (x2) := by unfold Z_X10_act_p81; exact Eq.trans (if_pos h0) (if_neg h1)
theorem zl_X10_act_p81_2 {R : Nat → Nat → Nat} {σ : SG} {o0 : Nat} {x2 : Int32} (h0 : ¬ (mI σ 655 o0) = 6) (h1 : (mI σ 655 o0) = 5) (h2 : (mI σ 658 o0) = (mI σ 657 o0)) : Z_X10_act_p81 R σ o0 x2 = Z_X10_act_p136 R (Z_X10_one R σ o0 (4850) (0)) o0 (x2) := by unfold Z_X10_act_p81; exact Eq.trans (if_neg h0) (Eq.trans (if_pos h1) (if_pos h2))
theorem zl_X10_act_p81_3 {R : Nat → Nat → Nat} {σ : SG} {o0 : Nat} {x2 : Int32} (h0 : ¬ (mI σ 655 o0) = 6) (h1 : (mI σ 655 o0) = 5) (h2 : ¬ (mI σ 658 o0) = (mI σ 657 o0)) : Z_X10_act_p81 R σ o0 x2 = Z_X10_act_p136 R (Z_X10_work R σ o0) o0 (x2) := by unfold Z_X10_act_p81; exact Eq.trans (if_neg h0) (Eq.trans (if_pos h1) (if_neg h2))
theorem zl_X10_act_p81_4 {R : Nat → Nat → Nat} {σ : SG} {o0 : Nat} {x2 : Int32} (h0 : ¬ (mI σ 655 o0) = 6) (h1 : ¬ (mI σ 655 o0) = 5) : Z_X10_act_p81 R σ o0 x2 = Z_X10_act_p136 R (Z_X10_work R σ o0) o0 (x2) := by unfold Z_X10_act_p81; exact Eq.trans (if_neg h0) (if_neg h1)
set_option maxHeartbeats 40000000 in
theorem cz_X10_act_p81 {xi : SX} {S : Hp} {E : List Nat} {kc nc : Nat} {P : Po} {o0 : Nat} {x2 : Int32} {R : Nat → Nat → Nat} (hG : GI S E) (h0 : Oa S E 10 0 o0) (h2 : Rg 0 1 x2) (hR : RK S R) (hg : Rg 0 23 (mI (sg S) 657 o0)) (ho : Rg (-1) 23 (mI (sg S) 658 o0)) (hP : ∀ r T x y, PV E [9988, 9989] S kc nc rV (fun v T => sg T = Z_X10_act_p81 R (sg S) o0 x2) [] r T x y → P r T x y) : TT xi M_X10_act 81 [(0, .ref o0), (2, .int x2)] [] S kc nc P := by
  have hA : Af E [9988, 9989] S S := af_rf
  refine tt_aload_n (j := 0) dX10_act_81 rfl ?_
  refine gt_gI (id := 655) (v := (mI (sg S) 655 o0)) dX10_act_82 fl_10_107 rfl rfl h0 hA (sg_I (k := 655) (o := o0) (show sg S = (sg S) from rfl)) ?_
  refine tt_bipush (v := 6) dX10_act_85 rfl ?_
  refine tt_icmp_eq (tgt := 98) dX10_act_87 rfl (fun q101 => ?_) (fun q101 => ?_)
  · skip
    have h102 : Rg 6 6 (mI (sg S) 655 o0) := rg_eq_l (rg_all (mI (sg S) 655 o0)) (⟨by decide, by decide⟩ : Rg 6 6 6) q101
    refine tt_aload_n (j := 0) dX10_act_98 rfl ?_
    refine gt_gI (id := 658) (v := (mI (sg S) 658 o0)) dX10_act_99 fl_10_113 rfl rfl h0 hA (sg_I (k := 658) (o := o0) (show sg S = (sg S) from rfl)) ?_
    refine tt_aload_n (j := 0) dX10_act_102 rfl ?_
    refine gt_gI (id := 657) (v := (mI (sg S) 657 o0)) dX10_act_103 fl_10_110 rfl rfl h0 hA (sg_I (k := 657) (o := o0) (show sg S = (sg S) from rfl)) ?_
    refine tt_icmp_ne (tgt := 113) dX10_act_106 rfl (fun q103 => ?_) (fun q103 => ?_)
    · skip
      refine tt_iconst (v := 0) dX10_act_113 rfl ?_
      refine tt_istore (ks := [0, 1, 2]) (L' := [(4, .int 0), (0, .ref o0), (2, .int x2)]) dX10_act_114 (by decide) rfl ?_
      refine tt_iload (j := 0) dX10_act_116 rfl ?_
      refine tt_if_eq (tgt := 132) dX10_act_118 rfl (fun _ => ?_) (fun q => absurd q (by decide))
      refine tt_aload_n (j := 1) dX10_act_132 rfl ?_
      refine gt_Vv (As := []) dX10_act_133 ca_X10_222 ⟨by decide, by decide⟩ h0 hA rfl (Nat.le_of_ble_eq_true rfl) (Nat.le_of_ble_eq_true rfl) (by decide) (cz_X10_work hG (oa_af h0 hA) hR (fun _ _ _ _ h => h)) rfl (fun _ h => nomatch h) (fun S104 hx108 hG105 hB106 hA107 => ?_)
      obtain ⟨d109, hd110⟩ : ∃ q, Z_X10_work R (sg S) o0 = q := ⟨_, rfl⟩
      have hq111 := (congrArg (fun q9 => Z_X10_work R q9 o0) (show sg S = (sg S) from rfl)).trans hd110
      have hs112 := hx108.trans hq111
      have hF : Z_X10_act_p81 R (sg S) o0 x2 = Z_X10_act_p136 R d109 o0 (x2) := by
        subst hd110
        exact zl_X10_act_p81_1 q101 q103
      exact tt_loc (ks := [1, 2]) rfl (cz_X10_act_p136 hG105 (oa_af h0 hA107) (rg_w h2) (rk_af hR hA107) (rg_cast (show mI (sg S104) 657 o0 = mI (sg S) 657 o0 from i_af (k := 657) h0 hA107) hg) (rg_cast (show mI (sg S104) 658 o0 = mI (sg S) 658 o0 from i_af (k := 658) h0 hA107) ho) (fun r T x y h => hP r T x y (pv_tr hA107 h (by decide) (fun v T e => e.trans ((congrArg (fun q9 => Z_X10_act_p136 R q9 o0 (x2)) hs112).trans hF.symm)))))
    · skip
      have h113 : Rg 0 23 (mI (sg S) 658 o0) := rg_eq_l ho hg q103
      refine tt_iconst (v := 1) dX10_act_109 rfl ?_
      refine tt_goto (tgt := 114) dX10_act_110 rfl ?_
      refine tt_istore (ks := [0, 1, 2]) (L' := [(4, .int 1), (0, .ref o0), (2, .int x2)]) dX10_act_114 (by decide) rfl ?_
      refine tt_iload (j := 0) dX10_act_116 rfl ?_
      refine tt_if_eq (tgt := 132) dX10_act_118 rfl (fun q => absurd q (by decide)) (fun _ => ?_)
      refine tt_aload_n (j := 1) dX10_act_121 rfl ?_
      refine tt_sipush (v := 4850) dX10_act_122 rfl ?_
      refine tt_lconst (v := 0) dX10_act_125 rfl ?_
      refine gt_Vv (As := [.int 4850, .long 0]) dX10_act_126 ca_X10_193 ⟨by decide, by decide⟩ h0 hA rfl (Nat.le_of_ble_eq_true rfl) (Nat.le_of_ble_eq_true rfl) (by decide) (cz_X10_one hG (oa_af h0 hA) (rg_w (⟨by decide, by decide⟩ : Rg 4850 4850 4850)) hR (fun _ _ _ _ h => h)) rfl (fun _ h => nomatch h) (fun S114 hx118 hG115 hB116 hA117 => ?_)
      obtain ⟨d119, hd120⟩ : ∃ q, Z_X10_one R (sg S) o0 (4850) (0) = q := ⟨_, rfl⟩
      have hq121 := (congrArg (fun q9 => Z_X10_one R q9 o0 (4850) (0)) (show sg S = (sg S) from rfl)).trans hd120
      have hs122 := hx118.trans hq121
      refine tt_goto (tgt := 136) dX10_act_129 rfl ?_
      have hF : Z_X10_act_p81 R (sg S) o0 x2 = Z_X10_act_p136 R d119 o0 (x2) := by
        subst hd120
        exact zl_X10_act_p81_0 q101 q103
      exact tt_loc (ks := [1, 2]) rfl (cz_X10_act_p136 hG115 (oa_af h0 hA117) (rg_w h2) (rk_af hR hA117) (rg_cast (show mI (sg S114) 657 o0 = mI (sg S) 657 o0 from i_af (k := 657) h0 hA117) hg) (rg_cast (show mI (sg S114) 658 o0 = mI (sg S) 658 o0 from i_af (k := 658) h0 hA117) ho) (fun r T x y h => hP r T x y (pv_tr hA117 h (by decide) (fun v T e => e.trans ((congrArg (fun q9 => Z_X10_act_p136 R q9 o0 (x2)) hs122).trans hF.symm)))))
  · skip
    refine tt_aload_n (j := 0) dX10_act_90 rfl ?_
    refine gt_gI (id := 655) (v := (mI (sg S) 655 o0)) dX10_act_91 fl_10_107 rfl rfl h0 hA (sg_I (k := 655) (o := o0) (show sg S = (sg S) from rfl)) ?_
    refine tt_iconst (v := 5) dX10_act_94 rfl ?_
    refine tt_icmp_ne (tgt := 113) dX10_act_95 rfl (fun q123 => ?_) (fun q123 => ?_)
    · skip
      refine tt_iconst (v := 0) dX10_act_113 rfl ?_
      refine tt_istore (ks := [0, 1, 2]) (L' := [(4, .int 0), (0, .ref o0), (2, .int x2)]) dX10_act_114 (by decide) rfl ?_
      refine tt_iload (j := 0) dX10_act_116 rfl ?_
      refine tt_if_eq (tgt := 132) dX10_act_118 rfl (fun _ => ?_) (fun q => absurd q (by decide))
      refine tt_aload_n (j := 1) dX10_act_132 rfl ?_
      refine gt_Vv (As := []) dX10_act_133 ca_X10_222 ⟨by decide, by decide⟩ h0 hA rfl (Nat.le_of_ble_eq_true rfl) (Nat.le_of_ble_eq_true rfl) (by decide) (cz_X10_work hG (oa_af h0 hA) hR (fun _ _ _ _ h => h)) rfl (fun _ h => nomatch h) (fun S124 hx128 hG125 hB126 hA127 => ?_)
      obtain ⟨d129, hd130⟩ : ∃ q, Z_X10_work R (sg S) o0 = q := ⟨_, rfl⟩
      have hq131 := (congrArg (fun q9 => Z_X10_work R q9 o0) (show sg S = (sg S) from rfl)).trans hd130
      have hs132 := hx128.trans hq131
      have hF : Z_X10_act_p81 R (sg S) o0 x2 = Z_X10_act_p136 R d129 o0 (x2) := by
        subst hd130
        exact zl_X10_act_p81_4 q101 q123
      exact tt_loc (ks := [1, 2]) rfl (cz_X10_act_p136 hG125 (oa_af h0 hA127) (rg_w h2) (rk_af hR hA127) (rg_cast (show mI (sg S124) 657 o0 = mI (sg S) 657 o0 from i_af (k := 657) h0 hA127) hg) (rg_cast (show mI (sg S124) 658 o0 = mI (sg S) 658 o0 from i_af (k := 658) h0 hA127) ho) (fun r T x y h => hP r T x y (pv_tr hA127 h (by decide) (fun v T e => e.trans ((congrArg (fun q9 => Z_X10_act_p136 R q9 o0 (x2)) hs132).trans hF.symm)))))
    · skip
      have h133 : Rg 5 5 (mI (sg S) 655 o0) := rg_eq_l (rg_all (mI (sg S) 655 o0)) (⟨by decide, by decide⟩ : Rg 5 5 5) q123
      refine tt_aload_n (j := 0) dX10_act_98 rfl ?_
      refine gt_gI (id := 658) (v := (mI (sg S) 658 o0)) dX10_act_99 fl_10_113 rfl rfl h0 hA (sg_I (k := 658) (o := o0) (show sg S = (sg S) from rfl)) ?_
      refine tt_aload_n (j := 0) dX10_act_102 rfl ?_
      refine gt_gI (id := 657) (v := (mI (sg S) 657 o0)) dX10_act_103 fl_10_110 rfl rfl h0 hA (sg_I (k := 657) (o := o0) (show sg S = (sg S) from rfl)) ?_
      refine tt_icmp_ne (tgt := 113) dX10_act_106 rfl (fun q134 => ?_) (fun q134 => ?_)
      · skip
        refine tt_iconst (v := 0) dX10_act_113 rfl ?_
        refine tt_istore (ks := [0, 1, 2]) (L' := [(4, .int 0), (0, .ref o0), (2, .int x2)]) dX10_act_114 (by decide) rfl ?_
        refine tt_iload (j := 0) dX10_act_116 rfl ?_
        refine tt_if_eq (tgt := 132) dX10_act_118 rfl (fun _ => ?_) (fun q => absurd q (by decide))
        refine tt_aload_n (j := 1) dX10_act_132 rfl ?_
        refine gt_Vv (As := []) dX10_act_133 ca_X10_222 ⟨by decide, by decide⟩ h0 hA rfl (Nat.le_of_ble_eq_true rfl) (Nat.le_of_ble_eq_true rfl) (by decide) (cz_X10_work hG (oa_af h0 hA) hR (fun _ _ _ _ h => h)) rfl (fun _ h => nomatch h) (fun S135 hx139 hG136 hB137 hA138 => ?_)
        obtain ⟨d140, hd141⟩ : ∃ q, Z_X10_work R (sg S) o0 = q := ⟨_, rfl⟩
        have hq142 := (congrArg (fun q9 => Z_X10_work R q9 o0) (show sg S = (sg S) from rfl)).trans hd141
        have hs143 := hx139.trans hq142
        have hF : Z_X10_act_p81 R (sg S) o0 x2 = Z_X10_act_p136 R d140 o0 (x2) := by
          subst hd141
          exact zl_X10_act_p81_3 q101 q123 q134
        exact tt_loc (ks := [1, 2]) rfl (cz_X10_act_p136 hG136 (oa_af h0 hA138) (rg_w h2) (rk_af hR hA138) (rg_cast (show mI (sg S135) 657 o0 = mI (sg S) 657 o0 from i_af (k := 657) h0 hA138) hg) (rg_cast (show mI (sg S135) 658 o0 = mI (sg S) 658 o0 from i_af (k := 658) h0 hA138) ho) (fun r T x y h => hP r T x y (pv_tr hA138 h (by decide) (fun v T e => e.trans ((congrArg (fun q9 => Z_X10_act_p136 R q9 o0 (x2)) hs143).trans hF.symm)))))
      · skip
        have h144 : Rg 0 23 (mI (sg S) 658 o0) := rg_eq_l ho hg q134
        refine tt_iconst (v := 1) dX10_act_109 rfl ?_
        refine tt_goto (tgt := 114) dX10_act_110 rfl ?_
        refine tt_istore (ks := [0, 1, 2]) (L' := [(4, .int 1), (0, .ref o0), (2, .int x2)]) dX10_act_114 (by decide) rfl ?_
        refine tt_iload (j := 0) dX10_act_116 rfl ?_
        refine tt_if_eq (tgt := 132) dX10_act_118 rfl (fun q => absurd q (by decide)) (fun _ => ?_)
        refine tt_aload_n (j := 1) dX10_act_121 rfl ?_
        refine tt_sipush (v := 4850) dX10_act_122 rfl ?_
        refine tt_lconst (v := 0) dX10_act_125 rfl ?_
        refine gt_Vv (As := [.int 4850, .long 0]) dX10_act_126 ca_X10_193 ⟨by decide, by decide⟩ h0 hA rfl (Nat.le_of_ble_eq_true rfl) (Nat.le_of_ble_eq_true rfl) (by decide) (cz_X10_one hG (oa_af h0 hA) (rg_w (⟨by decide, by decide⟩ : Rg 4850 4850 4850)) hR (fun _ _ _ _ h => h)) rfl (fun _ h => nomatch h) (fun S145 hx149 hG146 hB147 hA148 => ?_)
        obtain ⟨d150, hd151⟩ : ∃ q, Z_X10_one R (sg S) o0 (4850) (0) = q := ⟨_, rfl⟩
        have hq152 := (congrArg (fun q9 => Z_X10_one R q9 o0 (4850) (0)) (show sg S = (sg S) from rfl)).trans hd151
        have hs153 := hx149.trans hq152
        refine tt_goto (tgt := 136) dX10_act_129 rfl ?_
        have hF : Z_X10_act_p81 R (sg S) o0 x2 = Z_X10_act_p136 R d150 o0 (x2) := by
          subst hd151
          exact zl_X10_act_p81_2 q101 q123 q134
        exact tt_loc (ks := [1, 2]) rfl (cz_X10_act_p136 hG146 (oa_af h0 hA148) (rg_w h2) (rk_af hR hA148) (rg_cast (show mI (sg S145) 657 o0 = mI (sg S) 657 o0 from i_af (k := 657) h0 hA148) hg) (rg_cast (show mI (sg S145) 658 o0 = mI (sg S) 658 o0 from i_af (k := 658) h0 hA148) ho) (fun r T x y h => hP r T x y (pv_tr hA148 h (by decide) (fun v T e => e.trans ((congrArg (fun q9 => Z_X10_act_p136 R q9 o0 (x2)) hs153).trans hF.symm)))))
def Z_X10_act_p61 (R : Nat → Nat → Nat) (σ : SG) (o0 : Nat) (x2 : Int32) (x3 : Int32) : SG :=
  if x2 = 0 then
    Z_X10_act_p81 R σ o0 (x2)
  else
    let d109 := Z_X10_narrowed R σ o0 (4848) (x3)
    let d118 := Z_X10_narrowed R d109 o0 (4849) (x3)
    Z_X10_act_p81 R d118 o0 (x2)
theorem zl_X10_act_p61_0 {R : Nat → Nat → Nat} {σ : SG} {o0 : Nat} {x2 : Int32} {x3 : Int32} (h0 : x2 = 0) : Z_X10_act_p61 R σ o0 x2 x3 = Z_X10_act_p81 R σ o0 (x2) := by unfold Z_X10_act_p61; exact if_pos h0
theorem zl_X10_act_p61_1 {R : Nat → Nat → Nat} {σ : SG} {o0 : Nat} {x2 : Int32} {x3 : Int32} (h0 : ¬ x2 = 0) : Z_X10_act_p61 R σ o0 x2 x3 = Z_X10_act_p81 R (Z_X10_narrowed R (Z_X10_narrowed R σ o0 (4848) (x3)) o0 (4849) (x3)) o0 (x2) := by unfold Z_X10_act_p61; exact if_neg h0
set_option maxHeartbeats 40000000 in
theorem cz_X10_act_p61 {xi : SX} {S : Hp} {E : List Nat} {kc nc : Nat} {P : Po} {o0 : Nat} {x2 : Int32} {x3 : Int32} {R : Nat → Nat → Nat} (hG : GI S E) (h0 : Oa S E 10 0 o0) (h2 : Rg 0 1 x2) (h3 : Rg 0 1 x3) (hR : RK S R) (hg : Rg 0 23 (mI (sg S) 657 o0)) (ho : Rg (-1) 23 (mI (sg S) 658 o0)) (hP : ∀ r T x y, PV E [9988, 9989] S kc nc rV (fun v T => sg T = Z_X10_act_p61 R (sg S) o0 x2 x3) [] r T x y → P r T x y) : TT xi M_X10_act 61 [(0, .ref o0), (2, .int x2), (3, .int x3)] [] S kc nc P := by
  have hA : Af E [9988, 9989] S S := af_rf
  refine tt_iload_n (j := 1) dX10_act_61 rfl ?_
  refine tt_if_eq (tgt := 81) dX10_act_62 rfl (fun q101 => ?_) (fun q101 => ?_)
  · skip
    have h102 : Rg 0 0 x2 := rg_eq_l h2 (⟨by decide, by decide⟩ : Rg 0 0 0) q101
    have hF : Z_X10_act_p61 R (sg S) o0 x2 x3 = Z_X10_act_p81 R (sg S) o0 (x2) := by
      exact zl_X10_act_p61_0 q101
    exact tt_loc (ks := [0, 1]) rfl (cz_X10_act_p81 hG (oa_af h0 hA) (rg_w h102) hR hg ho (fun r T x y h => hP r T x y (pv_tr hA h (by decide) (fun v T e => e.trans ((congrArg (fun q9 => Z_X10_act_p81 R q9 o0 (x2)) (show sg S = (sg S) from rfl)).trans hF.symm)))))
  · skip
    have h103 : Rg 1 1 x2 := rg_ne_lo h2 (⟨by decide, by decide⟩ : Rg 0 0 0) q101
    refine tt_aload_n (j := 0) dX10_act_65 rfl ?_
    refine tt_sipush (v := 4848) dX10_act_66 rfl ?_
    refine tt_iload_n (j := 2) dX10_act_69 rfl ?_
    refine gt_Vv (As := [.int 4848, .int x3]) dX10_act_70 ca_X10_218 ⟨by decide, by decide⟩ h0 hA rfl (Nat.le_of_ble_eq_true rfl) (Nat.le_of_ble_eq_true rfl) (by decide) (cz_X10_narrowed hG (oa_af h0 hA) (rg_w (⟨by decide, by decide⟩ : Rg 4848 4848 4848)) (rg_w h3) hR (fun _ _ _ _ h => h)) rfl (fun _ h => nomatch h) (fun S104 hx108 hG105 hB106 hA107 => ?_)
    obtain ⟨d109, hd110⟩ : ∃ q, Z_X10_narrowed R (sg S) o0 (4848) (x3) = q := ⟨_, rfl⟩
    have hq111 := (congrArg (fun q9 => Z_X10_narrowed R q9 o0 (4848) (x3)) (show sg S = (sg S) from rfl)).trans hd110
    have hs112 := hx108.trans hq111
    refine tt_aload_n (j := 0) dX10_act_73 rfl ?_
    refine tt_sipush (v := 4849) dX10_act_74 rfl ?_
    refine tt_iload_n (j := 2) dX10_act_77 rfl ?_
    refine gt_Vv (As := [.int 4849, .int x3]) dX10_act_78 ca_X10_218 ⟨by decide, by decide⟩ h0 hA107 rfl (Nat.le_of_ble_eq_true rfl) (Nat.le_of_ble_eq_true rfl) (by decide) (cz_X10_narrowed hG105 (oa_af h0 hA107) (rg_w (⟨by decide, by decide⟩ : Rg 4849 4849 4849)) (rg_w h3) (rk_af hR hA107) (fun _ _ _ _ h => h)) rfl (fun _ h => nomatch h) (fun S113 hx117 hG114 hB115 hA116 => ?_)
    obtain ⟨d118, hd119⟩ : ∃ q, Z_X10_narrowed R d109 o0 (4849) (x3) = q := ⟨_, rfl⟩
    have hq120 := (congrArg (fun q9 => Z_X10_narrowed R q9 o0 (4849) (x3)) hs112).trans hd119
    have hs121 := hx117.trans hq120
    have hF : Z_X10_act_p61 R (sg S) o0 x2 x3 = Z_X10_act_p81 R d118 o0 (x2) := by
      subst hd119
      subst hd110
      exact zl_X10_act_p61_1 q101
    exact tt_loc (ks := [0, 1]) rfl (cz_X10_act_p81 hG114 (oa_af h0 hA116) (rg_w h103) (rk_af hR hA116) (rg_cast (show mI (sg S113) 657 o0 = mI (sg S) 657 o0 from i_af (k := 657) h0 hA116) hg) (rg_cast (show mI (sg S113) 658 o0 = mI (sg S) 658 o0 from i_af (k := 658) h0 hA116) ho) (fun r T x y h => hP r T x y (pv_tr hA116 h (by decide) (fun v T e => e.trans ((congrArg (fun q9 => Z_X10_act_p81 R q9 o0 (x2)) hs121).trans hF.symm)))))
def Z_X10_act_p15 (R : Nat → Nat → Nat) (σ : SG) (o0 : Nat) (x2 : Int32) : SG :=
  let d106 := Z_X10_copy R σ o0 (4848) ((4856 + (mI σ 657 o0)))
  let d115 := Z_X10_operand R d106 o0 (4849)
  if (mI σ 655 o0) = 17 then
    Z_X10_act_p61 R d115 o0 (x2) (1)
  else
    if (mI σ 655 o0) = 16 then
      Z_X10_act_p61 R d115 o0 (x2) (1)
    else
      Z_X10_act_p61 R d115 o0 (x2) (0)
theorem zl_X10_act_p15_0 {R : Nat → Nat → Nat} {σ : SG} {o0 : Nat} {x2 : Int32} (h0 : (mI σ 655 o0) = 17) : Z_X10_act_p15 R σ o0 x2 = Z_X10_act_p61 R (Z_X10_operand R (Z_X10_copy R σ o0 (4848) ((4856 + (mI σ 657 o0)))) o0 (4849)) o0 (x2) (1) := by unfold Z_X10_act_p15; exact if_pos h0
theorem zl_X10_act_p15_1 {R : Nat → Nat → Nat} {σ : SG} {o0 : Nat} {x2 : Int32} (h0 : ¬ (mI σ 655 o0) = 17) (h1 : (mI σ 655 o0) = 16) : Z_X10_act_p15 R σ o0 x2 = Z_X10_act_p61 R (Z_X10_operand R (Z_X10_copy R σ o0 (4848) ((4856 + (mI σ 657 o0)))) o0 (4849)) o0 (x2) (1) := by unfold Z_X10_act_p15; exact Eq.trans (if_neg h0) (if_pos h1)
theorem zl_X10_act_p15_2 {R : Nat → Nat → Nat} {σ : SG} {o0 : Nat} {x2 : Int32} (h0 : ¬ (mI σ 655 o0) = 17) (h1 : ¬ (mI σ 655 o0) = 16) : Z_X10_act_p15 R σ o0 x2 = Z_X10_act_p61 R (Z_X10_operand R (Z_X10_copy R σ o0 (4848) ((4856 + (mI σ 657 o0)))) o0 (4849)) o0 (x2) (0) := by unfold Z_X10_act_p15; exact Eq.trans (if_neg h0) (if_neg h1)
set_option maxHeartbeats 40000000 in
theorem cz_X10_act_p15 {xi : SX} {S : Hp} {E : List Nat} {kc nc : Nat} {P : Po} {o0 : Nat} {x2 : Int32} {R : Nat → Nat → Nat} (hG : GI S E) (h0 : Oa S E 10 0 o0) (h2 : Rg 0 1 x2) (hR : RK S R) (hg : Rg 0 23 (mI (sg S) 657 o0)) (ho : Rg (-1) 23 (mI (sg S) 658 o0)) (hP : ∀ r T x y, PV E [9988, 9989] S kc nc rV (fun v T => sg T = Z_X10_act_p15 R (sg S) o0 x2) [] r T x y → P r T x y) : TT xi M_X10_act 15 [(0, .ref o0), (2, .int x2)] [] S kc nc P := by
  have hA : Af E [9988, 9989] S S := af_rf
  refine tt_aload_n (j := 0) dX10_act_15 rfl ?_
  refine tt_sipush (v := 4848) dX10_act_16 rfl ?_
  refine tt_sipush (v := 4856) dX10_act_19 rfl ?_
  refine tt_aload_n (j := 0) dX10_act_22 rfl ?_
  refine gt_gI (id := 657) (v := (mI (sg S) 657 o0)) dX10_act_23 fl_10_110 rfl rfl h0 hA (sg_I (k := 657) (o := o0) (show sg S = (sg S) from rfl)) ?_
  refine tt_iadd dX10_act_26 ?_
  refine gt_Vv (As := [.int 4848, .int (4856 + (mI (sg S) 657 o0))]) dX10_act_27 ca_X10_169 ⟨by decide, by decide⟩ h0 hA rfl (Nat.le_of_ble_eq_true rfl) (Nat.le_of_ble_eq_true rfl) (by decide) (cz_X10_copy hG (oa_af h0 hA) (rg_w (⟨by decide, by decide⟩ : Rg 4848 4848 4848)) (rg_w (rg_add (lo := 4856) (hi := 4879) (⟨by decide, by decide⟩ : Rg 4856 4856 4856) hg)) hR (fun _ _ _ _ h => h)) rfl (fun _ h => nomatch h) (fun S101 hx105 hG102 hB103 hA104 => ?_)
  obtain ⟨d106, hd107⟩ : ∃ q, Z_X10_copy R (sg S) o0 (4848) ((4856 + (mI (sg S) 657 o0))) = q := ⟨_, rfl⟩
  have hq108 := (congrArg (fun q9 => Z_X10_copy R q9 o0 (4848) ((4856 + (mI (sg S) 657 o0)))) (show sg S = (sg S) from rfl)).trans hd107
  have hs109 := hx105.trans hq108
  refine tt_aload_n (j := 0) dX10_act_30 rfl ?_
  refine tt_sipush (v := 4849) dX10_act_31 rfl ?_
  refine gt_Vv (As := [.int 4849]) dX10_act_34 ca_X10_215 ⟨by decide, by decide⟩ h0 hA104 rfl (Nat.le_of_ble_eq_true rfl) (Nat.le_of_ble_eq_true rfl) (by decide) (cz_X10_operand hG102 (oa_af h0 hA104) (rg_w (⟨by decide, by decide⟩ : Rg 4849 4849 4849)) (rk_af hR hA104) (rg_cast (show mI (sg S101) 658 o0 = mI (sg S) 658 o0 from i_af (k := 658) h0 hA104) ho) (fun _ _ _ _ h => h)) rfl (fun _ h => nomatch h) (fun S110 hx114 hG111 hB112 hA113 => ?_)
  obtain ⟨d115, hd116⟩ : ∃ q, Z_X10_operand R d106 o0 (4849) = q := ⟨_, rfl⟩
  have hq117 := (congrArg (fun q9 => Z_X10_operand R q9 o0 (4849)) hs109).trans hd116
  have hs118 := hx114.trans hq117
  refine tt_aload_n (j := 0) dX10_act_37 rfl ?_
  refine gt_gI (id := 655) (v := (mI (sg S) 655 o0)) dX10_act_38 fl_10_107 rfl rfl h0 hA113 (show hp_I S110 655 o0 = mI (sg S) 655 o0 from i_af (k := 655) h0 hA113) ?_
  refine tt_bipush (v := 17) dX10_act_41 rfl ?_
  refine tt_icmp_eq (tgt := 55) dX10_act_43 rfl (fun q119 => ?_) (fun q119 => ?_)
  · skip
    have h120 : Rg 17 17 (mI (sg S) 655 o0) := rg_eq_l (rg_all (mI (sg S) 655 o0)) (⟨by decide, by decide⟩ : Rg 17 17 17) q119
    refine tt_iconst (v := 1) dX10_act_55 rfl ?_
    refine tt_goto (tgt := 60) dX10_act_56 rfl ?_
    refine tt_istore_n (ks := [0, 1, 2]) (L' := [(3, .int 1), (0, .ref o0), (2, .int x2)]) dX10_act_60 (by decide) rfl ?_
    have hF : Z_X10_act_p15 R (sg S) o0 x2 = Z_X10_act_p61 R d115 o0 (x2) (1) := by
      subst hd116
      subst hd107
      exact zl_X10_act_p15_0 q119
    exact tt_loc (ks := [1, 2, 0]) rfl (cz_X10_act_p61 hG111 (oa_af h0 hA113) (rg_w h2) (rg_w (⟨by decide, by decide⟩ : Rg 1 1 1)) (rk_af hR hA113) (rg_cast (show mI (sg S110) 657 o0 = mI (sg S) 657 o0 from i_af (k := 657) h0 hA113) hg) (rg_cast (show mI (sg S110) 658 o0 = mI (sg S) 658 o0 from i_af (k := 658) h0 hA113) ho) (fun r T x y h => hP r T x y (pv_tr hA113 h (by decide) (fun v T e => e.trans ((congrArg (fun q9 => Z_X10_act_p61 R q9 o0 (x2) (1)) hs118).trans hF.symm)))))
  · skip
    refine tt_aload_n (j := 0) dX10_act_46 rfl ?_
    refine gt_gI (id := 655) (v := (mI (sg S) 655 o0)) dX10_act_47 fl_10_107 rfl rfl h0 hA113 (show hp_I S110 655 o0 = mI (sg S) 655 o0 from i_af (k := 655) h0 hA113) ?_
    refine tt_bipush (v := 16) dX10_act_50 rfl ?_
    refine tt_icmp_ne (tgt := 59) dX10_act_52 rfl (fun q121 => ?_) (fun q121 => ?_)
    · skip
      refine tt_iconst (v := 0) dX10_act_59 rfl ?_
      refine tt_istore_n (ks := [0, 1, 2]) (L' := [(3, .int 0), (0, .ref o0), (2, .int x2)]) dX10_act_60 (by decide) rfl ?_
      have hF : Z_X10_act_p15 R (sg S) o0 x2 = Z_X10_act_p61 R d115 o0 (x2) (0) := by
        subst hd116
        subst hd107
        exact zl_X10_act_p15_2 q119 q121
      exact tt_loc (ks := [1, 2, 0]) rfl (cz_X10_act_p61 hG111 (oa_af h0 hA113) (rg_w h2) (rg_w (⟨by decide, by decide⟩ : Rg 0 0 0)) (rk_af hR hA113) (rg_cast (show mI (sg S110) 657 o0 = mI (sg S) 657 o0 from i_af (k := 657) h0 hA113) hg) (rg_cast (show mI (sg S110) 658 o0 = mI (sg S) 658 o0 from i_af (k := 658) h0 hA113) ho) (fun r T x y h => hP r T x y (pv_tr hA113 h (by decide) (fun v T e => e.trans ((congrArg (fun q9 => Z_X10_act_p61 R q9 o0 (x2) (0)) hs118).trans hF.symm)))))
    · skip
      have h122 : Rg 16 16 (mI (sg S) 655 o0) := rg_eq_l (rg_all (mI (sg S) 655 o0)) (⟨by decide, by decide⟩ : Rg 16 16 16) q121
      refine tt_iconst (v := 1) dX10_act_55 rfl ?_
      refine tt_goto (tgt := 60) dX10_act_56 rfl ?_
      refine tt_istore_n (ks := [0, 1, 2]) (L' := [(3, .int 1), (0, .ref o0), (2, .int x2)]) dX10_act_60 (by decide) rfl ?_
      have hF : Z_X10_act_p15 R (sg S) o0 x2 = Z_X10_act_p61 R d115 o0 (x2) (1) := by
        subst hd116
        subst hd107
        exact zl_X10_act_p15_1 q119 q121
      exact tt_loc (ks := [1, 2, 0]) rfl (cz_X10_act_p61 hG111 (oa_af h0 hA113) (rg_w h2) (rg_w (⟨by decide, by decide⟩ : Rg 1 1 1)) (rk_af hR hA113) (rg_cast (show mI (sg S110) 657 o0 = mI (sg S) 657 o0 from i_af (k := 657) h0 hA113) hg) (rg_cast (show mI (sg S110) 658 o0 = mI (sg S) 658 o0 from i_af (k := 658) h0 hA113) ho) (fun r T x y h => hP r T x y (pv_tr hA113 h (by decide) (fun v T e => e.trans ((congrArg (fun q9 => Z_X10_act_p61 R q9 o0 (x2) (1)) hs118).trans hF.symm)))))
def Z_X10_act (R : Nat → Nat → Nat) (σ : SG) (o0 : Nat) (x1 : Int32) : SG :=
  if (mI σ 656 o0) = 32 then
    Z_X10_act_p15 R σ o0 (1)
  else
    Z_X10_act_p15 R σ o0 (0)
theorem zl_X10_act_0 {R : Nat → Nat → Nat} {σ : SG} {o0 : Nat} {x1 : Int32} (h0 : (mI σ 656 o0) = 32) : Z_X10_act R σ o0 x1 = Z_X10_act_p15 R σ o0 (1) := by unfold Z_X10_act; exact if_pos h0
theorem zl_X10_act_1 {R : Nat → Nat → Nat} {σ : SG} {o0 : Nat} {x1 : Int32} (h0 : ¬ (mI σ 656 o0) = 32) : Z_X10_act R σ o0 x1 = Z_X10_act_p15 R σ o0 (0) := by unfold Z_X10_act; exact if_neg h0
set_option maxHeartbeats 40000000 in
theorem cz_X10_act {xi : SX} {S : Hp} {E : List Nat} {kc nc : Nat} {P : Po} {o0 : Nat} {x1 : Int32} {R : Nat → Nat → Nat} (hG : GI S E) (h0 : Oa S E 10 0 o0) (hR : RK S R) (hg : Rg 0 23 (mI (sg S) 657 o0)) (ho : Rg (-1) 23 (mI (sg S) 658 o0)) (hP : ∀ r T x y, PV E [9988, 9989] S kc nc rV (fun v T => sg T = Z_X10_act R (sg S) o0 x1) [] r T x y → P r T x y) : TT xi M_X10_act 0 [(0, .ref o0), (1, .int x1)] [] S kc nc P := by
  have hA : Af E [9988, 9989] S S := af_rf
  refine tt_aload_n (j := 0) dX10_act_0 rfl ?_
  refine gt_gI (id := 656) (v := (mI (sg S) 656 o0)) dX10_act_1 fl_10_127 rfl rfl h0 hA (sg_I (k := 656) (o := o0) (show sg S = (sg S) from rfl)) ?_
  refine tt_bipush (v := 32) dX10_act_4 rfl ?_
  refine tt_icmp_ne (tgt := 13) dX10_act_6 rfl (fun q101 => ?_) (fun q101 => ?_)
  · skip
    refine tt_iconst (v := 0) dX10_act_13 rfl ?_
    refine tt_istore_n (ks := [0, 1, 2]) (L' := [(2, .int 0), (0, .ref o0), (1, .int x1)]) dX10_act_14 (by decide) rfl ?_
    have hF : Z_X10_act R (sg S) o0 x1 = Z_X10_act_p15 R (sg S) o0 (0) := by
      exact zl_X10_act_1 q101
    exact tt_loc (ks := [1, 0]) rfl (cz_X10_act_p15 hG (oa_af h0 hA) (rg_w (⟨by decide, by decide⟩ : Rg 0 0 0)) hR hg ho (fun r T x y h => hP r T x y (pv_tr hA h (by decide) (fun v T e => e.trans ((congrArg (fun q9 => Z_X10_act_p15 R q9 o0 (0)) (show sg S = (sg S) from rfl)).trans hF.symm)))))
  · skip
    have h102 : Rg 32 32 (mI (sg S) 656 o0) := rg_eq_l (rg_all (mI (sg S) 656 o0)) (⟨by decide, by decide⟩ : Rg 32 32 32) q101
    refine tt_iconst (v := 1) dX10_act_9 rfl ?_
    refine tt_goto (tgt := 14) dX10_act_10 rfl ?_
    refine tt_istore_n (ks := [0, 1, 2]) (L' := [(2, .int 1), (0, .ref o0), (1, .int x1)]) dX10_act_14 (by decide) rfl ?_
    have hF : Z_X10_act R (sg S) o0 x1 = Z_X10_act_p15 R (sg S) o0 (1) := by
      exact zl_X10_act_0 q101
    exact tt_loc (ks := [1, 0]) rfl (cz_X10_act_p15 hG (oa_af h0 hA) (rg_w (⟨by decide, by decide⟩ : Rg 1 1 1)) hR hg ho (fun r T x y h => hP r T x y (pv_tr hA h (by decide) (fun v T e => e.trans ((congrArg (fun q9 => Z_X10_act_p15 R q9 o0 (1)) (show sg S = (sg S) from rfl)).trans hF.symm)))))
def Z_X10_isSameRecord (R : Nat → Nat → Nat) (σ : SG) (o0 : Nat) (x1 : Int32) (x2 : Int32) : Int32 :=
  if (mi σ (R 649 o0) (x1 : Int32).toNatClampNeg) = (mi σ (R 649 o0) (x2 : Int32).toNatClampNeg) then
    if (mi σ (R 649 o0) (x1 : Int32).toNatClampNeg) = 0 then
      1
    else
      if (mi σ (R 650 o0) (x1 : Int32).toNatClampNeg) = (mi σ (R 650 o0) (x2 : Int32).toNatClampNeg) then
        if (mi σ (R 649 o0) (x1 : Int32).toNatClampNeg) = 1 then
          if (mi σ (R 651 o0) (x1 : Int32).toNatClampNeg) = (mi σ (R 651 o0) (x2 : Int32).toNatClampNeg) then
            if (mi σ (R 649 o0) (x1 : Int32).toNatClampNeg) = 2 then
              if (mj σ (R 652 o0) (x1 : Int32).toNatClampNeg) = (mj σ (R 652 o0) (x2 : Int32).toNatClampNeg) then
                1
              else
                0
            else
              1
          else
            0
        else
          if (mi σ (R 649 o0) (x1 : Int32).toNatClampNeg) = 2 then
            if (mj σ (R 652 o0) (x1 : Int32).toNatClampNeg) = (mj σ (R 652 o0) (x2 : Int32).toNatClampNeg) then
              1
            else
              0
          else
            1
      else
        0
  else
    0
theorem zl_X10_isSameRecord_0 {R : Nat → Nat → Nat} {σ : SG} {o0 : Nat} {x1 : Int32} {x2 : Int32} (h0 : (mi σ (R 649 o0) (x1 : Int32).toNatClampNeg) = (mi σ (R 649 o0) (x2 : Int32).toNatClampNeg)) (h1 : (mi σ (R 649 o0) (x1 : Int32).toNatClampNeg) = 0) : Z_X10_isSameRecord R σ o0 x1 x2 = 1 := by unfold Z_X10_isSameRecord; exact Eq.trans (if_pos h0) (if_pos h1)
theorem zl_X10_isSameRecord_1 {R : Nat → Nat → Nat} {σ : SG} {o0 : Nat} {x1 : Int32} {x2 : Int32} (h0 : (mi σ (R 649 o0) (x1 : Int32).toNatClampNeg) = (mi σ (R 649 o0) (x2 : Int32).toNatClampNeg)) (h1 : ¬ (mi σ (R 649 o0) (x1 : Int32).toNatClampNeg) = 0) (h2 : (mi σ (R 650 o0) (x1 : Int32).toNatClampNeg) = (mi σ (R 650 o0) (x2 : Int32).toNatClampNeg)) (h3 : (mi σ (R 649 o0) (x1 : Int32).toNatClampNeg) = 1) (h4 : (mi σ (R 651 o0) (x1 : Int32).toNatClampNeg) = (mi σ (R 651 o0) (x2 : Int32).toNatClampNeg)) (h5 : (mi σ (R 649 o0) (x1 : Int32).toNatClampNeg) = 2) (h6 : (mj σ (R 652 o0) (x1 : Int32).toNatClampNeg) = (mj σ (R 652 o0) (x2 : Int32).toNatClampNeg)) : Z_X10_isSameRecord R σ o0 x1 x2 = 1 := by unfold Z_X10_isSameRecord; exact Eq.trans (if_pos h0) (Eq.trans (if_neg h1) (Eq.trans (if_pos h2) (Eq.trans (if_pos h3) (Eq.trans (if_pos h4) (Eq.trans (if_pos h5) (if_pos h6))))))
theorem zl_X10_isSameRecord_2 {R : Nat → Nat → Nat} {σ : SG} {o0 : Nat} {x1 : Int32} {x2 : Int32} (h0 : (mi σ (R 649 o0) (x1 : Int32).toNatClampNeg) = (mi σ (R 649 o0) (x2 : Int32).toNatClampNeg)) (h1 : ¬ (mi σ (R 649 o0) (x1 : Int32).toNatClampNeg) = 0) (h2 : (mi σ (R 650 o0) (x1 : Int32).toNatClampNeg) = (mi σ (R 650 o0) (x2 : Int32).toNatClampNeg)) (h3 : (mi σ (R 649 o0) (x1 : Int32).toNatClampNeg) = 1) (h4 : (mi σ (R 651 o0) (x1 : Int32).toNatClampNeg) = (mi σ (R 651 o0) (x2 : Int32).toNatClampNeg)) (h5 : (mi σ (R 649 o0) (x1 : Int32).toNatClampNeg) = 2) (h6 : ¬ (mj σ (R 652 o0) (x1 : Int32).toNatClampNeg) = (mj σ (R 652 o0) (x2 : Int32).toNatClampNeg)) : Z_X10_isSameRecord R σ o0 x1 x2 = 0 := by unfold Z_X10_isSameRecord; exact Eq.trans (if_pos h0) (Eq.trans (if_neg h1) (Eq.trans (if_pos h2) (Eq.trans (if_pos h3) (Eq.trans (if_pos h4) (Eq.trans (if_pos h5) (if_neg h6))))))
theorem zl_X10_isSameRecord_3 {R : Nat → Nat → Nat} {σ : SG} {o0 : Nat} {x1 : Int32} {x2 : Int32} (h0 : (mi σ (R 649 o0) (x1 : Int32).toNatClampNeg) = (mi σ (R 649 o0) (x2 : Int32).toNatClampNeg)) (h1 : ¬ (mi σ (R 649 o0) (x1 : Int32).toNatClampNeg) = 0) (h2 : (mi σ (R 650 o0) (x1 : Int32).toNatClampNeg) = (mi σ (R 650 o0) (x2 : Int32).toNatClampNeg)) (h3 : (mi σ (R 649 o0) (x1 : Int32).toNatClampNeg) = 1) (h4 : (mi σ (R 651 o0) (x1 : Int32).toNatClampNeg) = (mi σ (R 651 o0) (x2 : Int32).toNatClampNeg)) (h5 : ¬ (mi σ (R 649 o0) (x1 : Int32).toNatClampNeg) = 2) : Z_X10_isSameRecord R σ o0 x1 x2 = 1 := by unfold Z_X10_isSameRecord; exact Eq.trans (if_pos h0) (Eq.trans (if_neg h1) (Eq.trans (if_pos h2) (Eq.trans (if_pos h3) (Eq.trans (if_pos h4) (if_neg h5)))))
theorem zl_X10_isSameRecord_4 {R : Nat → Nat → Nat} {σ : SG} {o0 : Nat} {x1 : Int32} {x2 : Int32} (h0 : (mi σ (R 649 o0) (x1 : Int32).toNatClampNeg) = (mi σ (R 649 o0) (x2 : Int32).toNatClampNeg)) (h1 : ¬ (mi σ (R 649 o0) (x1 : Int32).toNatClampNeg) = 0) (h2 : (mi σ (R 650 o0) (x1 : Int32).toNatClampNeg) = (mi σ (R 650 o0) (x2 : Int32).toNatClampNeg)) (h3 : (mi σ (R 649 o0) (x1 : Int32).toNatClampNeg) = 1) (h4 : ¬ (mi σ (R 651 o0) (x1 : Int32).toNatClampNeg) = (mi σ (R 651 o0) (x2 : Int32).toNatClampNeg)) : Z_X10_isSameRecord R σ o0 x1 x2 = 0 := by unfold Z_X10_isSameRecord; exact Eq.trans (if_pos h0) (Eq.trans (if_neg h1) (Eq.trans (if_pos h2) (Eq.trans (if_pos h3) (if_neg h4))))
theorem zl_X10_isSameRecord_5 {R : Nat → Nat → Nat} {σ : SG} {o0 : Nat} {x1 : Int32} {x2 : Int32} (h0 : (mi σ (R 649 o0) (x1 : Int32).toNatClampNeg) = (mi σ (R 649 o0) (x2 : Int32).toNatClampNeg)) (h1 : ¬ (mi σ (R 649 o0) (x1 : Int32).toNatClampNeg) = 0) (h2 : (mi σ (R 650 o0) (x1 : Int32).toNatClampNeg) = (mi σ (R 650 o0) (x2 : Int32).toNatClampNeg)) (h3 : ¬ (mi σ (R 649 o0) (x1 : Int32).toNatClampNeg) = 1) (h4 : (mi σ (R 649 o0) (x1 : Int32).toNatClampNeg) = 2) (h5 : (mj σ (R 652 o0) (x1 : Int32).toNatClampNeg) = (mj σ (R 652 o0) (x2 : Int32).toNatClampNeg)) : Z_X10_isSameRecord R σ o0 x1 x2 = 1 := by unfold Z_X10_isSameRecord; exact Eq.trans (if_pos h0) (Eq.trans (if_neg h1) (Eq.trans (if_pos h2) (Eq.trans (if_neg h3) (Eq.trans (if_pos h4) (if_pos h5)))))
theorem zl_X10_isSameRecord_6 {R : Nat → Nat → Nat} {σ : SG} {o0 : Nat} {x1 : Int32} {x2 : Int32} (h0 : (mi σ (R 649 o0) (x1 : Int32).toNatClampNeg) = (mi σ (R 649 o0) (x2 : Int32).toNatClampNeg)) (h1 : ¬ (mi σ (R 649 o0) (x1 : Int32).toNatClampNeg) = 0) (h2 : (mi σ (R 650 o0) (x1 : Int32).toNatClampNeg) = (mi σ (R 650 o0) (x2 : Int32).toNatClampNeg)) (h3 : ¬ (mi σ (R 649 o0) (x1 : Int32).toNatClampNeg) = 1) (h4 : (mi σ (R 649 o0) (x1 : Int32).toNatClampNeg) = 2) (h5 : ¬ (mj σ (R 652 o0) (x1 : Int32).toNatClampNeg) = (mj σ (R 652 o0) (x2 : Int32).toNatClampNeg)) : Z_X10_isSameRecord R σ o0 x1 x2 = 0 := by unfold Z_X10_isSameRecord; exact Eq.trans (if_pos h0) (Eq.trans (if_neg h1) (Eq.trans (if_pos h2) (Eq.trans (if_neg h3) (Eq.trans (if_pos h4) (if_neg h5)))))
theorem zl_X10_isSameRecord_7 {R : Nat → Nat → Nat} {σ : SG} {o0 : Nat} {x1 : Int32} {x2 : Int32} (h0 : (mi σ (R 649 o0) (x1 : Int32).toNatClampNeg) = (mi σ (R 649 o0) (x2 : Int32).toNatClampNeg)) (h1 : ¬ (mi σ (R 649 o0) (x1 : Int32).toNatClampNeg) = 0) (h2 : (mi σ (R 650 o0) (x1 : Int32).toNatClampNeg) = (mi σ (R 650 o0) (x2 : Int32).toNatClampNeg)) (h3 : ¬ (mi σ (R 649 o0) (x1 : Int32).toNatClampNeg) = 1) (h4 : ¬ (mi σ (R 649 o0) (x1 : Int32).toNatClampNeg) = 2) : Z_X10_isSameRecord R σ o0 x1 x2 = 1 := by unfold Z_X10_isSameRecord; exact Eq.trans (if_pos h0) (Eq.trans (if_neg h1) (Eq.trans (if_pos h2) (Eq.trans (if_neg h3) (if_neg h4))))
theorem zl_X10_isSameRecord_8 {R : Nat → Nat → Nat} {σ : SG} {o0 : Nat} {x1 : Int32} {x2 : Int32} (h0 : (mi σ (R 649 o0) (x1 : Int32).toNatClampNeg) = (mi σ (R 649 o0) (x2 : Int32).toNatClampNeg)) (h1 : ¬ (mi σ (R 649 o0) (x1 : Int32).toNatClampNeg) = 0) (h2 : ¬ (mi σ (R 650 o0) (x1 : Int32).toNatClampNeg) = (mi σ (R 650 o0) (x2 : Int32).toNatClampNeg)) : Z_X10_isSameRecord R σ o0 x1 x2 = 0 := by unfold Z_X10_isSameRecord; exact Eq.trans (if_pos h0) (Eq.trans (if_neg h1) (if_neg h2))
theorem zl_X10_isSameRecord_9 {R : Nat → Nat → Nat} {σ : SG} {o0 : Nat} {x1 : Int32} {x2 : Int32} (h0 : ¬ (mi σ (R 649 o0) (x1 : Int32).toNatClampNeg) = (mi σ (R 649 o0) (x2 : Int32).toNatClampNeg)) : Z_X10_isSameRecord R σ o0 x1 x2 = 0 := by unfold Z_X10_isSameRecord; exact if_neg h0
set_option maxHeartbeats 40000000 in
theorem cz_X10_isSameRecord {xi : SX} {S : Hp} {E : List Nat} {kc nc : Nat} {P : Po} {o0 : Nat} {x1 : Int32} {x2 : Int32} {R : Nat → Nat → Nat} (hG : GI S E) (h0 : Oa S E 10 0 o0) (h1 : Rg 0 201 x1) (h2 : Rg 0 201 x2) (hR : RK S R) (hP : ∀ r T x y, PV E [] S kc nc (rI 0 1) (fun v T => T = S ∧ v = some (.int (Z_X10_isSameRecord R (sg S) o0 x1 x2))) [] r T x y → P r T x y) : TT xi M_X10_isSameRecord 0 [(0, .ref o0), (1, .int x1), (2, .int x2)] [] S kc nc P := by
  have hA : Af E [] S S := af_rf
  refine tt_aload_n (j := 0) dX10_isSameRecord_0 rfl ?_
  have hr101 := rk_R (k := 649) hR h0 32 202
  have ho102 := rk_O (k := 649) hG hR h0 32 202
  refine gt_gR (id := 649) dX10_isSameRecord_1 fl_10_33 rfl rfl h0 hA hr101 ?_
  refine tt_iload_n (j := 1) dX10_isSameRecord_4 rfl ?_
  refine gx_iL (v := (mi (sg S) (R 649 o0) (x1 : Int32).toNatClampNeg)) dX10_isSameRecord_5 ho102 hA (rg_in h1) (sg_i (a := (R 649 o0)) (i := (x1 : Int32).toNatClampNeg) (show sg S = (sg S) from rfl)) ?_
  refine tt_istore_n (ks := [0, 1, 2, 3]) (L' := [(3, .int (mi (sg S) (R 649 o0) (x1 : Int32).toNatClampNeg)), (0, .ref o0), (1, .int x1), (2, .int x2)]) dX10_isSameRecord_6 (by decide) rfl ?_
  refine tt_iload_n (j := 0) dX10_isSameRecord_7 rfl ?_
  refine tt_aload_n (j := 1) dX10_isSameRecord_8 rfl ?_
  refine gt_gR (id := 649) dX10_isSameRecord_9 fl_10_33 rfl rfl h0 hA hr101 ?_
  refine tt_iload_n (j := 3) dX10_isSameRecord_12 rfl ?_
  refine gx_iL (v := (mi (sg S) (R 649 o0) (x2 : Int32).toNatClampNeg)) dX10_isSameRecord_13 ho102 hA (rg_in h2) (sg_i (a := (R 649 o0)) (i := (x2 : Int32).toNatClampNeg) (show sg S = (sg S) from rfl)) ?_
  refine tt_icmp_ne (tgt := 21) dX10_isSameRecord_14 rfl (fun q103 => ?_) (fun q103 => ?_)
  · skip
    refine tt_iload_n (j := 0) dX10_isSameRecord_21 rfl ?_
    refine tt_aload_n (j := 1) dX10_isSameRecord_22 rfl ?_
    refine gt_gR (id := 649) dX10_isSameRecord_23 fl_10_33 rfl rfl h0 hA hr101 ?_
    refine tt_iload_n (j := 3) dX10_isSameRecord_26 rfl ?_
    refine gx_iL (v := (mi (sg S) (R 649 o0) (x2 : Int32).toNatClampNeg)) dX10_isSameRecord_27 ho102 hA (rg_in h2) (sg_i (a := (R 649 o0)) (i := (x2 : Int32).toNatClampNeg) (show sg S = (sg S) from rfl)) ?_
    refine tt_icmp_ne (tgt := 35) dX10_isSameRecord_28 rfl (fun _ => ?_) (fun q => absurd q q103)
    refine tt_iconst (v := 0) dX10_isSameRecord_35 rfl ?_
    have hF : Z_X10_isSameRecord R (sg S) o0 x1 x2 = 0 := by
      exact zl_X10_isSameRecord_9 q103
    exact tt_ireturn dX10_isSameRecord_36 .boolean rfl rfl (hP _ _ _ _ ⟨hG, hA, Or.inl ⟨_, rfl, ⟨_, rfl, rg_w (⟨by decide, by decide⟩ : Rg 0 0 0)⟩, ⟨rfl, congrArg (fun q => some (Value.int q)) hF.symm⟩, rfl, rfl⟩⟩)
  · skip
    refine tt_iload_n (j := 0) dX10_isSameRecord_17 rfl ?_
    refine tt_if_ne (tgt := 37) dX10_isSameRecord_18 rfl (fun q104 => ?_) (fun q104 => ?_)
    · skip
      refine tt_aload_n (j := 1) dX10_isSameRecord_37 rfl ?_
      have hr105 := rk_R (k := 650) hR h0 32 202
      have ho106 := rk_O (k := 650) hG hR h0 32 202
      refine gt_gR (id := 650) dX10_isSameRecord_38 fl_10_36 rfl rfl h0 hA hr105 ?_
      refine tt_iload_n (j := 2) dX10_isSameRecord_41 rfl ?_
      refine gx_iL (v := (mi (sg S) (R 650 o0) (x1 : Int32).toNatClampNeg)) dX10_isSameRecord_42 ho106 hA (rg_in h1) (sg_i (a := (R 650 o0)) (i := (x1 : Int32).toNatClampNeg) (show sg S = (sg S) from rfl)) ?_
      refine tt_aload_n (j := 1) dX10_isSameRecord_43 rfl ?_
      refine gt_gR (id := 650) dX10_isSameRecord_44 fl_10_36 rfl rfl h0 hA hr105 ?_
      refine tt_iload_n (j := 3) dX10_isSameRecord_47 rfl ?_
      refine gx_iL (v := (mi (sg S) (R 650 o0) (x2 : Int32).toNatClampNeg)) dX10_isSameRecord_48 ho106 hA (rg_in h2) (sg_i (a := (R 650 o0)) (i := (x2 : Int32).toNatClampNeg) (show sg S = (sg S) from rfl)) ?_
      refine tt_icmp_ne (tgt := 97) dX10_isSameRecord_49 rfl (fun q107 => ?_) (fun q107 => ?_)
      · skip
        refine tt_iconst (v := 0) dX10_isSameRecord_97 rfl ?_
        have hF : Z_X10_isSameRecord R (sg S) o0 x1 x2 = 0 := by
          exact zl_X10_isSameRecord_8 q103 q104 q107
        exact tt_ireturn dX10_isSameRecord_98 .boolean rfl rfl (hP _ _ _ _ ⟨hG, hA, Or.inl ⟨_, rfl, ⟨_, rfl, rg_w (⟨by decide, by decide⟩ : Rg 0 0 0)⟩, ⟨rfl, congrArg (fun q => some (Value.int q)) hF.symm⟩, rfl, rfl⟩⟩)
      · skip
        refine tt_iload_n (j := 0) dX10_isSameRecord_52 rfl ?_
        refine tt_iconst (v := 1) dX10_isSameRecord_53 rfl ?_
        refine tt_icmp_ne (tgt := 72) dX10_isSameRecord_54 rfl (fun q108 => ?_) (fun q108 => ?_)
        · skip
          refine tt_iload_n (j := 0) dX10_isSameRecord_72 rfl ?_
          refine tt_iconst (v := 2) dX10_isSameRecord_73 rfl ?_
          refine tt_icmp_ne (tgt := 93) dX10_isSameRecord_74 rfl (fun q109 => ?_) (fun q109 => ?_)
          · skip
            refine tt_iconst (v := 1) dX10_isSameRecord_93 rfl ?_
            refine tt_goto (tgt := 98) dX10_isSameRecord_94 rfl ?_
            have hF : Z_X10_isSameRecord R (sg S) o0 x1 x2 = 1 := by
              exact zl_X10_isSameRecord_7 q103 q104 q107 q108 q109
            exact tt_ireturn dX10_isSameRecord_98 .boolean rfl rfl (hP _ _ _ _ ⟨hG, hA, Or.inl ⟨_, rfl, ⟨_, rfl, rg_w (⟨by decide, by decide⟩ : Rg 1 1 1)⟩, ⟨rfl, congrArg (fun q => some (Value.int q)) hF.symm⟩, rfl, rfl⟩⟩)
          · skip
            have h110 : Rg 2 2 (mi (sg S) (R 649 o0) (x1 : Int32).toNatClampNeg) := rg_eq_l (rg_cast (sg_i (a := (R 649 o0)) (i := (x1 : Int32).toNatClampNeg) (show sg S = (sg S) from rfl)).symm (gi_i hG (oa_af ho102 hA))) (⟨by decide, by decide⟩ : Rg 2 2 2) q109
            refine tt_aload_n (j := 1) dX10_isSameRecord_77 rfl ?_
            have hr111 := rk_R (k := 652) hR h0 33 202
            have ho112 := rk_O (k := 652) hG hR h0 33 202
            refine gt_gR (id := 652) dX10_isSameRecord_78 fl_10_42 rfl rfl h0 hA hr111 ?_
            refine tt_iload_n (j := 2) dX10_isSameRecord_81 rfl ?_
            refine gt_lLv (v := (mj (sg S) (R 652 o0) (x1 : Int32).toNatClampNeg)) dX10_isSameRecord_82 ho112 hA (rg_in h1) (sg_j (a := (R 652 o0)) (i := (x1 : Int32).toNatClampNeg) (show sg S = (sg S) from rfl)) ?_
            refine tt_aload_n (j := 1) dX10_isSameRecord_83 rfl ?_
            refine gt_gR (id := 652) dX10_isSameRecord_84 fl_10_42 rfl rfl h0 hA hr111 ?_
            refine tt_iload_n (j := 3) dX10_isSameRecord_87 rfl ?_
            refine gt_lLv (v := (mj (sg S) (R 652 o0) (x2 : Int32).toNatClampNeg)) dX10_isSameRecord_88 ho112 hA (rg_in h2) (sg_j (a := (R 652 o0)) (i := (x2 : Int32).toNatClampNeg) (show sg S = (sg S) from rfl)) ?_
            refine tt_lcmp dX10_isSameRecord_89 ?_
            refine tt_if_ne (tgt := 97) dX10_isSameRecord_90 rfl (fun q113 => ?_) (fun q113 => ?_)
            · skip
              refine tt_iconst (v := 0) dX10_isSameRecord_97 rfl ?_
              have hF : Z_X10_isSameRecord R (sg S) o0 x1 x2 = 0 := by
                exact zl_X10_isSameRecord_6 q103 q104 q107 q108 q109 (lc_ne_t q113)
              exact tt_ireturn dX10_isSameRecord_98 .boolean rfl rfl (hP _ _ _ _ ⟨hG, hA, Or.inl ⟨_, rfl, ⟨_, rfl, rg_w (⟨by decide, by decide⟩ : Rg 0 0 0)⟩, ⟨rfl, congrArg (fun q => some (Value.int q)) hF.symm⟩, rfl, rfl⟩⟩)
            · skip
              refine tt_iconst (v := 1) dX10_isSameRecord_93 rfl ?_
              refine tt_goto (tgt := 98) dX10_isSameRecord_94 rfl ?_
              have hF : Z_X10_isSameRecord R (sg S) o0 x1 x2 = 1 := by
                exact zl_X10_isSameRecord_5 q103 q104 q107 q108 q109 (lc_ne_f q113)
              exact tt_ireturn dX10_isSameRecord_98 .boolean rfl rfl (hP _ _ _ _ ⟨hG, hA, Or.inl ⟨_, rfl, ⟨_, rfl, rg_w (⟨by decide, by decide⟩ : Rg 1 1 1)⟩, ⟨rfl, congrArg (fun q => some (Value.int q)) hF.symm⟩, rfl, rfl⟩⟩)
        · skip
          have h114 : Rg 1 1 (mi (sg S) (R 649 o0) (x1 : Int32).toNatClampNeg) := rg_eq_l (rg_cast (sg_i (a := (R 649 o0)) (i := (x1 : Int32).toNatClampNeg) (show sg S = (sg S) from rfl)).symm (gi_i hG (oa_af ho102 hA))) (⟨by decide, by decide⟩ : Rg 1 1 1) q108
          refine tt_aload_n (j := 1) dX10_isSameRecord_57 rfl ?_
          have hr115 := rk_R (k := 651) hR h0 32 202
          have ho116 := rk_O (k := 651) hG hR h0 32 202
          refine gt_gR (id := 651) dX10_isSameRecord_58 fl_10_39 rfl rfl h0 hA hr115 ?_
          refine tt_iload_n (j := 2) dX10_isSameRecord_61 rfl ?_
          refine gx_iL (v := (mi (sg S) (R 651 o0) (x1 : Int32).toNatClampNeg)) dX10_isSameRecord_62 ho116 hA (rg_in h1) (sg_i (a := (R 651 o0)) (i := (x1 : Int32).toNatClampNeg) (show sg S = (sg S) from rfl)) ?_
          refine tt_aload_n (j := 1) dX10_isSameRecord_63 rfl ?_
          refine gt_gR (id := 651) dX10_isSameRecord_64 fl_10_39 rfl rfl h0 hA hr115 ?_
          refine tt_iload_n (j := 3) dX10_isSameRecord_67 rfl ?_
          refine gx_iL (v := (mi (sg S) (R 651 o0) (x2 : Int32).toNatClampNeg)) dX10_isSameRecord_68 ho116 hA (rg_in h2) (sg_i (a := (R 651 o0)) (i := (x2 : Int32).toNatClampNeg) (show sg S = (sg S) from rfl)) ?_
          refine tt_icmp_ne (tgt := 97) dX10_isSameRecord_69 rfl (fun q117 => ?_) (fun q117 => ?_)
          · skip
            refine tt_iconst (v := 0) dX10_isSameRecord_97 rfl ?_
            have hF : Z_X10_isSameRecord R (sg S) o0 x1 x2 = 0 := by
              exact zl_X10_isSameRecord_4 q103 q104 q107 q108 q117
            exact tt_ireturn dX10_isSameRecord_98 .boolean rfl rfl (hP _ _ _ _ ⟨hG, hA, Or.inl ⟨_, rfl, ⟨_, rfl, rg_w (⟨by decide, by decide⟩ : Rg 0 0 0)⟩, ⟨rfl, congrArg (fun q => some (Value.int q)) hF.symm⟩, rfl, rfl⟩⟩)
          · skip
            refine tt_iload_n (j := 0) dX10_isSameRecord_72 rfl ?_
            refine tt_iconst (v := 2) dX10_isSameRecord_73 rfl ?_
            refine tt_icmp_ne (tgt := 93) dX10_isSameRecord_74 rfl (fun q118 => ?_) (fun q118 => ?_)
            · skip
              refine tt_iconst (v := 1) dX10_isSameRecord_93 rfl ?_
              refine tt_goto (tgt := 98) dX10_isSameRecord_94 rfl ?_
              have hF : Z_X10_isSameRecord R (sg S) o0 x1 x2 = 1 := by
                exact zl_X10_isSameRecord_3 q103 q104 q107 q108 q117 q118
              exact tt_ireturn dX10_isSameRecord_98 .boolean rfl rfl (hP _ _ _ _ ⟨hG, hA, Or.inl ⟨_, rfl, ⟨_, rfl, rg_w (⟨by decide, by decide⟩ : Rg 1 1 1)⟩, ⟨rfl, congrArg (fun q => some (Value.int q)) hF.symm⟩, rfl, rfl⟩⟩)
            · skip
              refine tt_aload_n (j := 1) dX10_isSameRecord_77 rfl ?_
              have hr119 := rk_R (k := 652) hR h0 33 202
              have ho120 := rk_O (k := 652) hG hR h0 33 202
              refine gt_gR (id := 652) dX10_isSameRecord_78 fl_10_42 rfl rfl h0 hA hr119 ?_
              refine tt_iload_n (j := 2) dX10_isSameRecord_81 rfl ?_
              refine gt_lLv (v := (mj (sg S) (R 652 o0) (x1 : Int32).toNatClampNeg)) dX10_isSameRecord_82 ho120 hA (rg_in h1) (sg_j (a := (R 652 o0)) (i := (x1 : Int32).toNatClampNeg) (show sg S = (sg S) from rfl)) ?_
              refine tt_aload_n (j := 1) dX10_isSameRecord_83 rfl ?_
              refine gt_gR (id := 652) dX10_isSameRecord_84 fl_10_42 rfl rfl h0 hA hr119 ?_
              refine tt_iload_n (j := 3) dX10_isSameRecord_87 rfl ?_
              refine gt_lLv (v := (mj (sg S) (R 652 o0) (x2 : Int32).toNatClampNeg)) dX10_isSameRecord_88 ho120 hA (rg_in h2) (sg_j (a := (R 652 o0)) (i := (x2 : Int32).toNatClampNeg) (show sg S = (sg S) from rfl)) ?_
              refine tt_lcmp dX10_isSameRecord_89 ?_
              refine tt_if_ne (tgt := 97) dX10_isSameRecord_90 rfl (fun q121 => ?_) (fun q121 => ?_)
              · skip
                refine tt_iconst (v := 0) dX10_isSameRecord_97 rfl ?_
                have hF : Z_X10_isSameRecord R (sg S) o0 x1 x2 = 0 := by
                  exact zl_X10_isSameRecord_2 q103 q104 q107 q108 q117 q118 (lc_ne_t q121)
                exact tt_ireturn dX10_isSameRecord_98 .boolean rfl rfl (hP _ _ _ _ ⟨hG, hA, Or.inl ⟨_, rfl, ⟨_, rfl, rg_w (⟨by decide, by decide⟩ : Rg 0 0 0)⟩, ⟨rfl, congrArg (fun q => some (Value.int q)) hF.symm⟩, rfl, rfl⟩⟩)
              · skip
                refine tt_iconst (v := 1) dX10_isSameRecord_93 rfl ?_
                refine tt_goto (tgt := 98) dX10_isSameRecord_94 rfl ?_
                have hF : Z_X10_isSameRecord R (sg S) o0 x1 x2 = 1 := by
                  exact zl_X10_isSameRecord_1 q103 q104 q107 q108 q117 q118 (lc_ne_f q121)
                exact tt_ireturn dX10_isSameRecord_98 .boolean rfl rfl (hP _ _ _ _ ⟨hG, hA, Or.inl ⟨_, rfl, ⟨_, rfl, rg_w (⟨by decide, by decide⟩ : Rg 1 1 1)⟩, ⟨rfl, congrArg (fun q => some (Value.int q)) hF.symm⟩, rfl, rfl⟩⟩)
    · skip
      have h122 : Rg 0 0 (mi (sg S) (R 649 o0) (x1 : Int32).toNatClampNeg) := rg_eq_l (rg_cast (sg_i (a := (R 649 o0)) (i := (x1 : Int32).toNatClampNeg) (show sg S = (sg S) from rfl)).symm (gi_i hG (oa_af ho102 hA))) (⟨by decide, by decide⟩ : Rg 0 0 0) q104
      refine tt_iload_n (j := 0) dX10_isSameRecord_21 rfl ?_
      refine tt_aload_n (j := 1) dX10_isSameRecord_22 rfl ?_
      refine gt_gR (id := 649) dX10_isSameRecord_23 fl_10_33 rfl rfl h0 hA hr101 ?_
      refine tt_iload_n (j := 3) dX10_isSameRecord_26 rfl ?_
      refine gx_iL (v := (mi (sg S) (R 649 o0) (x2 : Int32).toNatClampNeg)) dX10_isSameRecord_27 ho102 hA (rg_in h2) (sg_i (a := (R 649 o0)) (i := (x2 : Int32).toNatClampNeg) (show sg S = (sg S) from rfl)) ?_
      refine tt_icmp_ne (tgt := 35) dX10_isSameRecord_28 rfl (fun q => absurd q103 q) (fun _ => ?_)
      refine tt_iconst (v := 1) dX10_isSameRecord_31 rfl ?_
      refine tt_goto (tgt := 36) dX10_isSameRecord_32 rfl ?_
      have hF : Z_X10_isSameRecord R (sg S) o0 x1 x2 = 1 := by
        exact zl_X10_isSameRecord_0 q103 q104
      exact tt_ireturn dX10_isSameRecord_36 .boolean rfl rfl (hP _ _ _ _ ⟨hG, hA, Or.inl ⟨_, rfl, ⟨_, rfl, rg_w (⟨by decide, by decide⟩ : Rg 1 1 1)⟩, ⟨rfl, congrArg (fun q => some (Value.int q)) hF.symm⟩, rfl, rfl⟩⟩)
def Z_X10_copyRecord (R : Nat → Nat → Nat) (σ : SG) (o0 : Nat) (x1 : Int32) (x2 : Int32) : SG :=
  (uj (ui (ui (ui σ (R 649 o0) (x1 : Int32).toNatClampNeg (mi σ (R 649 o0) (x2 : Int32).toNatClampNeg)) (R 650 o0) (x1 : Int32).toNatClampNeg (mi (ui σ (R 649 o0) (x1 : Int32).toNatClampNeg (mi σ (R 649 o0) (x2 : Int32).toNatClampNeg)) (R 650 o0) (x2 : Int32).toNatClampNeg)) (R 651 o0) (x1 : Int32).toNatClampNeg (mi (ui (ui σ (R 649 o0) (x1 : Int32).toNatClampNeg (mi σ (R 649 o0) (x2 : Int32).toNatClampNeg)) (R 650 o0) (x1 : Int32).toNatClampNeg (mi (ui σ (R 649 o0) (x1 : Int32).toNatClampNeg (mi σ (R 649 o0) (x2 : Int32).toNatClampNeg)) (R 650 o0) (x2 : Int32).toNatClampNeg)) (R 651 o0) (x2 : Int32).toNatClampNeg)) (R 652 o0) (x1 : Int32).toNatClampNeg (mj (ui (ui (ui σ (R 649 o0) (x1 : Int32).toNatClampNeg (mi σ (R 649 o0) (x2 : Int32).toNatClampNeg)) (R 650 o0) (x1 : Int32).toNatClampNeg (mi (ui σ (R 649 o0) (x1 : Int32).toNatClampNeg (mi σ (R 649 o0) (x2 : Int32).toNatClampNeg)) (R 650 o0) (x2 : Int32).toNatClampNeg)) (R 651 o0) (x1 : Int32).toNatClampNeg (mi (ui (ui σ (R 649 o0) (x1 : Int32).toNatClampNeg (mi σ (R 649 o0) (x2 : Int32).toNatClampNeg)) (R 650 o0) (x1 : Int32).toNatClampNeg (mi (ui σ (R 649 o0) (x1 : Int32).toNatClampNeg (mi σ (R 649 o0) (x2 : Int32).toNatClampNeg)) (R 650 o0) (x2 : Int32).toNatClampNeg)) (R 651 o0) (x2 : Int32).toNatClampNeg)) (R 652 o0) (x2 : Int32).toNatClampNeg))
theorem zl_X10_copyRecord_0 {R : Nat → Nat → Nat} {σ : SG} {o0 : Nat} {x1 : Int32} {x2 : Int32}  : Z_X10_copyRecord R σ o0 x1 x2 = (uj (ui (ui (ui σ (R 649 o0) (x1 : Int32).toNatClampNeg (mi σ (R 649 o0) (x2 : Int32).toNatClampNeg)) (R 650 o0) (x1 : Int32).toNatClampNeg (mi (ui σ (R 649 o0) (x1 : Int32).toNatClampNeg (mi σ (R 649 o0) (x2 : Int32).toNatClampNeg)) (R 650 o0) (x2 : Int32).toNatClampNeg)) (R 651 o0) (x1 : Int32).toNatClampNeg (mi (ui (ui σ (R 649 o0) (x1 : Int32).toNatClampNeg (mi σ (R 649 o0) (x2 : Int32).toNatClampNeg)) (R 650 o0) (x1 : Int32).toNatClampNeg (mi (ui σ (R 649 o0) (x1 : Int32).toNatClampNeg (mi σ (R 649 o0) (x2 : Int32).toNatClampNeg)) (R 650 o0) (x2 : Int32).toNatClampNeg)) (R 651 o0) (x2 : Int32).toNatClampNeg)) (R 652 o0) (x1 : Int32).toNatClampNeg (mj (ui (ui (ui σ (R 649 o0) (x1 : Int32).toNatClampNeg (mi σ (R 649 o0) (x2 : Int32).toNatClampNeg)) (R 650 o0) (x1 : Int32).toNatClampNeg (mi (ui σ (R 649 o0) (x1 : Int32).toNatClampNeg (mi σ (R 649 o0) (x2 : Int32).toNatClampNeg)) (R 650 o0) (x2 : Int32).toNatClampNeg)) (R 651 o0) (x1 : Int32).toNatClampNeg (mi (ui (ui σ (R 649 o0) (x1 : Int32).toNatClampNeg (mi σ (R 649 o0) (x2 : Int32).toNatClampNeg)) (R 650 o0) (x1 : Int32).toNatClampNeg (mi (ui σ (R 649 o0) (x1 : Int32).toNatClampNeg (mi σ (R 649 o0) (x2 : Int32).toNatClampNeg)) (R 650 o0) (x2 : Int32).toNatClampNeg)) (R 651 o0) (x2 : Int32).toNatClampNeg)) (R 652 o0) (x2 : Int32).toNatClampNeg)) := rfl
set_option maxHeartbeats 40000000 in
theorem cz_X10_copyRecord {xi : SX} {S : Hp} {E : List Nat} {kc nc : Nat} {P : Po} {o0 : Nat} {x1 : Int32} {x2 : Int32} {R : Nat → Nat → Nat} (hG : GI S E) (h0 : Oa S E 10 0 o0) (h1 : Rg 0 201 x1) (h2 : Rg 0 201 x2) (hR : RK S R) (hP : ∀ r T x y, PV E [9988] S kc nc rV (fun v T => sg T = Z_X10_copyRecord R (sg S) o0 x1 x2) [] r T x y → P r T x y) : TT xi M_X10_copyRecord 0 [(0, .ref o0), (1, .int x1), (2, .int x2)] [] S kc nc P := by
  have hA : Af E [9988] S S := af_rf
  refine tt_aload_n (j := 0) dX10_copyRecord_0 rfl ?_
  have hr101 := rk_R (k := 649) hR h0 32 202
  have ho102 := rk_O (k := 649) hG hR h0 32 202
  refine gt_gR (id := 649) dX10_copyRecord_1 fl_10_33 rfl rfl h0 hA hr101 ?_
  refine tt_iload_n (j := 1) dX10_copyRecord_4 rfl ?_
  refine tt_aload_n (j := 0) dX10_copyRecord_5 rfl ?_
  refine gt_gR (id := 649) dX10_copyRecord_6 fl_10_33 rfl rfl h0 hA hr101 ?_
  refine tt_iload_n (j := 2) dX10_copyRecord_9 rfl ?_
  refine gx_iL (v := (mi (sg S) (R 649 o0) (x2 : Int32).toNatClampNeg)) dX10_copyRecord_10 ho102 hA (rg_in h2) (sg_i (a := (R 649 o0)) (i := (x2 : Int32).toNatClampNeg) (show sg S = (sg S) from rfl)) ?_
  refine gx_iSR dX10_copyRecord_11 ho102 hA (rg_in h1) hG (rg_w (rg_cast (sg_i (a := (R 649 o0)) (i := (x2 : Int32).toNatClampNeg) (show sg S = (sg S) from rfl)).symm (gi_i hG (oa_af ho102 hA)))) (show sg S = (sg S) from rfl) (fun S103 hG104 hA105 e106 => ?_)
  refine tt_aload_n (j := 0) dX10_copyRecord_12 rfl ?_
  have hr107 := rk_R (k := 650) hR h0 32 202
  have ho108 := rk_O (k := 650) hG hR h0 32 202
  refine gt_gR (id := 650) dX10_copyRecord_13 fl_10_36 rfl rfl h0 hA105 hr107 ?_
  refine tt_iload_n (j := 1) dX10_copyRecord_16 rfl ?_
  refine tt_aload_n (j := 0) dX10_copyRecord_17 rfl ?_
  refine gt_gR (id := 650) dX10_copyRecord_18 fl_10_36 rfl rfl h0 hA105 hr107 ?_
  refine tt_iload_n (j := 2) dX10_copyRecord_21 rfl ?_
  refine gx_iL (v := (mi (ui (sg S) (R 649 o0) (x1 : Int32).toNatClampNeg (mi (sg S) (R 649 o0) (x2 : Int32).toNatClampNeg)) (R 650 o0) (x2 : Int32).toNatClampNeg)) dX10_copyRecord_22 ho108 hA105 (rg_in h2) (sg_i (a := (R 650 o0)) (i := (x2 : Int32).toNatClampNeg) e106) ?_
  refine gx_iSR dX10_copyRecord_23 ho108 hA105 (rg_in h1) hG104 (rg_w (rg_cast (sg_i (a := (R 650 o0)) (i := (x2 : Int32).toNatClampNeg) e106).symm (gi_i hG104 (oa_af ho108 hA105)))) e106 (fun S109 hG110 hA111 e112 => ?_)
  refine tt_aload_n (j := 0) dX10_copyRecord_24 rfl ?_
  have hr113 := rk_R (k := 651) hR h0 32 202
  have ho114 := rk_O (k := 651) hG hR h0 32 202
  refine gt_gR (id := 651) dX10_copyRecord_25 fl_10_39 rfl rfl h0 hA111 hr113 ?_
  refine tt_iload_n (j := 1) dX10_copyRecord_28 rfl ?_
  refine tt_aload_n (j := 0) dX10_copyRecord_29 rfl ?_
  refine gt_gR (id := 651) dX10_copyRecord_30 fl_10_39 rfl rfl h0 hA111 hr113 ?_
  refine tt_iload_n (j := 2) dX10_copyRecord_33 rfl ?_
  refine gx_iL (v := (mi (ui (ui (sg S) (R 649 o0) (x1 : Int32).toNatClampNeg (mi (sg S) (R 649 o0) (x2 : Int32).toNatClampNeg)) (R 650 o0) (x1 : Int32).toNatClampNeg (mi (ui (sg S) (R 649 o0) (x1 : Int32).toNatClampNeg (mi (sg S) (R 649 o0) (x2 : Int32).toNatClampNeg)) (R 650 o0) (x2 : Int32).toNatClampNeg)) (R 651 o0) (x2 : Int32).toNatClampNeg)) dX10_copyRecord_34 ho114 hA111 (rg_in h2) (sg_i (a := (R 651 o0)) (i := (x2 : Int32).toNatClampNeg) e112) ?_
  refine gx_iSR dX10_copyRecord_35 ho114 hA111 (rg_in h1) hG110 (rg_w (rg_cast (sg_i (a := (R 651 o0)) (i := (x2 : Int32).toNatClampNeg) e112).symm (gi_i hG110 (oa_af ho114 hA111)))) e112 (fun S115 hG116 hA117 e118 => ?_)
  refine tt_aload_n (j := 0) dX10_copyRecord_36 rfl ?_
  have hr119 := rk_R (k := 652) hR h0 33 202
  have ho120 := rk_O (k := 652) hG hR h0 33 202
  refine gt_gR (id := 652) dX10_copyRecord_37 fl_10_42 rfl rfl h0 hA117 hr119 ?_
  refine tt_iload_n (j := 1) dX10_copyRecord_40 rfl ?_
  refine tt_aload_n (j := 0) dX10_copyRecord_41 rfl ?_
  refine gt_gR (id := 652) dX10_copyRecord_42 fl_10_42 rfl rfl h0 hA117 hr119 ?_
  refine tt_iload_n (j := 2) dX10_copyRecord_45 rfl ?_
  refine gt_lLv (v := (mj (ui (ui (ui (sg S) (R 649 o0) (x1 : Int32).toNatClampNeg (mi (sg S) (R 649 o0) (x2 : Int32).toNatClampNeg)) (R 650 o0) (x1 : Int32).toNatClampNeg (mi (ui (sg S) (R 649 o0) (x1 : Int32).toNatClampNeg (mi (sg S) (R 649 o0) (x2 : Int32).toNatClampNeg)) (R 650 o0) (x2 : Int32).toNatClampNeg)) (R 651 o0) (x1 : Int32).toNatClampNeg (mi (ui (ui (sg S) (R 649 o0) (x1 : Int32).toNatClampNeg (mi (sg S) (R 649 o0) (x2 : Int32).toNatClampNeg)) (R 650 o0) (x1 : Int32).toNatClampNeg (mi (ui (sg S) (R 649 o0) (x1 : Int32).toNatClampNeg (mi (sg S) (R 649 o0) (x2 : Int32).toNatClampNeg)) (R 650 o0) (x2 : Int32).toNatClampNeg)) (R 651 o0) (x2 : Int32).toNatClampNeg)) (R 652 o0) (x2 : Int32).toNatClampNeg)) dX10_copyRecord_46 ho120 hA117 (rg_in h2) (sg_j (a := (R 652 o0)) (i := (x2 : Int32).toNatClampNeg) e118) ?_
  refine gx_lS dX10_copyRecord_47 ho120 hA117 (rg_in h1) hG116 (Or.inl (by decide)) (Or.inl (by decide)) e118 (fun S121 hG122 hA123 e124 => ?_)
  have hF : Z_X10_copyRecord R (sg S) o0 x1 x2 = (uj (ui (ui (ui (sg S) (R 649 o0) (x1 : Int32).toNatClampNeg (mi (sg S) (R 649 o0) (x2 : Int32).toNatClampNeg)) (R 650 o0) (x1 : Int32).toNatClampNeg (mi (ui (sg S) (R 649 o0) (x1 : Int32).toNatClampNeg (mi (sg S) (R 649 o0) (x2 : Int32).toNatClampNeg)) (R 650 o0) (x2 : Int32).toNatClampNeg)) (R 651 o0) (x1 : Int32).toNatClampNeg (mi (ui (ui (sg S) (R 649 o0) (x1 : Int32).toNatClampNeg (mi (sg S) (R 649 o0) (x2 : Int32).toNatClampNeg)) (R 650 o0) (x1 : Int32).toNatClampNeg (mi (ui (sg S) (R 649 o0) (x1 : Int32).toNatClampNeg (mi (sg S) (R 649 o0) (x2 : Int32).toNatClampNeg)) (R 650 o0) (x2 : Int32).toNatClampNeg)) (R 651 o0) (x2 : Int32).toNatClampNeg)) (R 652 o0) (x1 : Int32).toNatClampNeg (mj (ui (ui (ui (sg S) (R 649 o0) (x1 : Int32).toNatClampNeg (mi (sg S) (R 649 o0) (x2 : Int32).toNatClampNeg)) (R 650 o0) (x1 : Int32).toNatClampNeg (mi (ui (sg S) (R 649 o0) (x1 : Int32).toNatClampNeg (mi (sg S) (R 649 o0) (x2 : Int32).toNatClampNeg)) (R 650 o0) (x2 : Int32).toNatClampNeg)) (R 651 o0) (x1 : Int32).toNatClampNeg (mi (ui (ui (sg S) (R 649 o0) (x1 : Int32).toNatClampNeg (mi (sg S) (R 649 o0) (x2 : Int32).toNatClampNeg)) (R 650 o0) (x1 : Int32).toNatClampNeg (mi (ui (sg S) (R 649 o0) (x1 : Int32).toNatClampNeg (mi (sg S) (R 649 o0) (x2 : Int32).toNatClampNeg)) (R 650 o0) (x2 : Int32).toNatClampNeg)) (R 651 o0) (x2 : Int32).toNatClampNeg)) (R 652 o0) (x2 : Int32).toNatClampNeg)) := by
    rfl
  exact tt_vreturn dX10_copyRecord_48 rfl (hP _ _ _ _ ⟨hG122, hA123, Or.inl ⟨_, rfl, rfl, Eq.trans e124 hF.symm, rfl, rfl⟩⟩)
def Z_X10_lay (R : Nat → Nat → Nat) (σ : SG) (o0 : Nat) (x1 : Int32) (x2 : Int32) : SG :=
  if (mI σ 676 o0) = 0 then
    if (mi σ (R 643 o0) (x2 : Int32).toNatClampNeg) = 0 then
      if x1 < 0 then
        (uI σ 676 o0 1)
      else
        let d152 := Z_X10_copy R (uI σ 676 o0 1) o0 ((4904 + x1)) (x2)
        d152
    else
      if x1 < 0 then
        (uI σ 676 o0 0)
      else
        let d135 := Z_X10_copy R (uI σ 676 o0 0) o0 ((4904 + x1)) (x2)
        d135
  else
    if x1 < 0 then
      (uI σ 676 o0 1)
    else
      let d115 := Z_X10_copy R (uI σ 676 o0 1) o0 ((4904 + x1)) (x2)
      d115
theorem zl_X10_lay_0 {R : Nat → Nat → Nat} {σ : SG} {o0 : Nat} {x1 : Int32} {x2 : Int32} (h0 : (mI σ 676 o0) = 0) (h1 : (mi σ (R 643 o0) (x2 : Int32).toNatClampNeg) = 0) (h2 : x1 < 0) : Z_X10_lay R σ o0 x1 x2 = (uI σ 676 o0 1) := by unfold Z_X10_lay; exact Eq.trans (if_pos h0) (Eq.trans (if_pos h1) (if_pos h2))
theorem zl_X10_lay_1 {R : Nat → Nat → Nat} {σ : SG} {o0 : Nat} {x1 : Int32} {x2 : Int32} (h0 : (mI σ 676 o0) = 0) (h1 : (mi σ (R 643 o0) (x2 : Int32).toNatClampNeg) = 0) (h2 : ¬ x1 < 0) : Z_X10_lay R σ o0 x1 x2 = (Z_X10_copy R (uI σ 676 o0 1) o0 ((4904 + x1)) (x2)) := by unfold Z_X10_lay; exact Eq.trans (if_pos h0) (Eq.trans (if_pos h1) (if_neg h2))
theorem zl_X10_lay_2 {R : Nat → Nat → Nat} {σ : SG} {o0 : Nat} {x1 : Int32} {x2 : Int32} (h0 : (mI σ 676 o0) = 0) (h1 : ¬ (mi σ (R 643 o0) (x2 : Int32).toNatClampNeg) = 0) (h2 : x1 < 0) : Z_X10_lay R σ o0 x1 x2 = (uI σ 676 o0 0) := by unfold Z_X10_lay; exact Eq.trans (if_pos h0) (Eq.trans (if_neg h1) (if_pos h2))
theorem zl_X10_lay_3 {R : Nat → Nat → Nat} {σ : SG} {o0 : Nat} {x1 : Int32} {x2 : Int32} (h0 : (mI σ 676 o0) = 0) (h1 : ¬ (mi σ (R 643 o0) (x2 : Int32).toNatClampNeg) = 0) (h2 : ¬ x1 < 0) : Z_X10_lay R σ o0 x1 x2 = (Z_X10_copy R (uI σ 676 o0 0) o0 ((4904 + x1)) (x2)) := by unfold Z_X10_lay; exact Eq.trans (if_pos h0) (Eq.trans (if_neg h1) (if_neg h2))
theorem zl_X10_lay_4 {R : Nat → Nat → Nat} {σ : SG} {o0 : Nat} {x1 : Int32} {x2 : Int32} (h0 : ¬ (mI σ 676 o0) = 0) (h1 : x1 < 0) : Z_X10_lay R σ o0 x1 x2 = (uI σ 676 o0 1) := by unfold Z_X10_lay; exact Eq.trans (if_neg h0) (if_pos h1)
theorem zl_X10_lay_5 {R : Nat → Nat → Nat} {σ : SG} {o0 : Nat} {x1 : Int32} {x2 : Int32} (h0 : ¬ (mI σ 676 o0) = 0) (h1 : ¬ x1 < 0) : Z_X10_lay R σ o0 x1 x2 = (Z_X10_copy R (uI σ 676 o0 1) o0 ((4904 + x1)) (x2)) := by unfold Z_X10_lay; exact Eq.trans (if_neg h0) (if_neg h1)
set_option maxHeartbeats 40000000 in
theorem cz_X10_lay {xi : SX} {S : Hp} {E : List Nat} {kc nc : Nat} {P : Po} {o0 : Nat} {x1 : Int32} {x2 : Int32} {R : Nat → Nat → Nat} (hG : GI S E) (h0 : Oa S E 10 0 o0) (h1 : Rg (-1) 31 x1) (h2 : Rg 0 4939 x2) (hR : RK S R) (hP : ∀ r T x y, PV E [676, 9989] S kc nc rV (fun v T => sg T = Z_X10_lay R (sg S) o0 x1 x2) [] r T x y → P r T x y) : TT xi M_X10_lay 0 [(0, .ref o0), (1, .int x1), (2, .int x2)] [] S kc nc P := by
  have hA : Af E [676, 9989] S S := af_rf
  refine tt_aload_n (j := 0) dX10_lay_0 rfl ?_
  refine tt_aload_n (j := 0) dX10_lay_1 rfl ?_
  refine gt_gI (id := 676) (v := (mI (sg S) 676 o0)) dX10_lay_2 fl_10_250 rfl rfl h0 hA (sg_I (k := 676) (o := o0) (show sg S = (sg S) from rfl)) ?_
  refine tt_if_ne (tgt := 17) dX10_lay_5 rfl (fun q101 => ?_) (fun q101 => ?_)
  · skip
    have h102 : Rg 1 1 (mI (sg S) 676 o0) := rg_ne_lo (rg_cast (sg_I (k := 676) (o := o0) (show sg S = (sg S) from rfl)).symm (gi_I (k := 676) hG (oa_af h0 hA) 0 1)) (⟨by decide, by decide⟩ : Rg 0 0 0) q101
    refine tt_iconst (v := 1) dX10_lay_17 rfl ?_
    refine tt_goto (tgt := 22) dX10_lay_18 rfl ?_
    refine gx_pI (id := 676) (x := 1) dX10_lay_22 fl_10_250 rfl rfl h0 hA rfl rfl rfl (gp_Ir hG (⟨by decide, by decide⟩ : Rg 1 1 1)) (by decide) (fun h => absurd h (by decide)) (fun h => absurd h (by decide)) (show sg S = (sg S) from rfl) (fun S103 hG104 hA105 e106 => ?_)
    refine tt_iload_n (j := 1) dX10_lay_25 rfl ?_
    refine tt_if_lt (tgt := 39) dX10_lay_26 rfl (fun q107 => ?_) (fun q107 => ?_)
    · skip
      have h108 : Rg (-1) (-1) x1 := rg_lt_l h1 (⟨by decide, by decide⟩ : Rg 0 0 0) q107
      have hF : Z_X10_lay R (sg S) o0 x1 x2 = (uI (sg S) 676 o0 1) := by
        exact zl_X10_lay_4 q101 q107
      exact tt_vreturn dX10_lay_39 rfl (hP _ _ _ _ ⟨hG104, hA105, Or.inl ⟨_, rfl, rfl, Eq.trans e106 hF.symm, rfl, rfl⟩⟩)
    · skip
      have h109 : Rg 0 31 x1 := rg_le_r (⟨by decide, by decide⟩ : Rg 0 0 0) h1 (nlt_le q107)
      refine tt_aload_n (j := 0) dX10_lay_29 rfl ?_
      refine tt_sipush (v := 4904) dX10_lay_30 rfl ?_
      refine tt_iload_n (j := 1) dX10_lay_33 rfl ?_
      refine tt_iadd dX10_lay_34 ?_
      refine tt_iload_n (j := 2) dX10_lay_35 rfl ?_
      refine gt_Vv (As := [.int (4904 + x1), .int x2]) dX10_lay_36 ca_X10_169 ⟨by decide, by decide⟩ h0 hA105 rfl (Nat.le_of_ble_eq_true rfl) (Nat.le_of_ble_eq_true rfl) (by decide) (cz_X10_copy hG104 (oa_af h0 hA105) (rg_w (rg_add (lo := 4904) (hi := 4935) (⟨by decide, by decide⟩ : Rg 4904 4904 4904) h109)) (rg_w h2) (rk_af hR hA105) (fun _ _ _ _ h => h)) rfl (fun _ h => nomatch h) (fun S110 hx114 hG111 hB112 hA113 => ?_)
      obtain ⟨d115, hd116⟩ : ∃ q, Z_X10_copy R (uI (sg S) 676 o0 1) o0 ((4904 + x1)) (x2) = q := ⟨_, rfl⟩
      have hq117 := (congrArg (fun q9 => Z_X10_copy R q9 o0 ((4904 + x1)) (x2)) e106).trans hd116
      have hs118 := hx114.trans hq117
      have hF : Z_X10_lay R (sg S) o0 x1 x2 = d115 := by
        subst hd116
        exact zl_X10_lay_5 q101 q107
      exact tt_vreturn dX10_lay_39 rfl (hP _ _ _ _ ⟨hG111, hA113, Or.inl ⟨_, rfl, rfl, Eq.trans hs118 hF.symm, rfl, rfl⟩⟩)
  · skip
    have h119 : Rg 0 0 (mI (sg S) 676 o0) := rg_eq_l (rg_cast (sg_I (k := 676) (o := o0) (show sg S = (sg S) from rfl)).symm (gi_I (k := 676) hG (oa_af h0 hA) 0 1)) (⟨by decide, by decide⟩ : Rg 0 0 0) q101
    refine tt_aload_n (j := 0) dX10_lay_8 rfl ?_
    have hr120 := rk_R (k := 643) hR h0 32 4940
    have ho121 := rk_O (k := 643) hG hR h0 32 4940
    refine gt_gR (id := 643) dX10_lay_9 fl_10_13 rfl rfl h0 hA hr120 ?_
    refine tt_iload_n (j := 2) dX10_lay_12 rfl ?_
    refine gx_iL (v := (mi (sg S) (R 643 o0) (x2 : Int32).toNatClampNeg)) dX10_lay_13 ho121 hA (rg_in h2) (sg_i (a := (R 643 o0)) (i := (x2 : Int32).toNatClampNeg) (show sg S = (sg S) from rfl)) ?_
    refine tt_if_ne (tgt := 21) dX10_lay_14 rfl (fun q122 => ?_) (fun q122 => ?_)
    · skip
      refine tt_iconst (v := 0) dX10_lay_21 rfl ?_
      refine gx_pI (id := 676) (x := 0) dX10_lay_22 fl_10_250 rfl rfl h0 hA rfl rfl rfl (gp_Ir hG (⟨by decide, by decide⟩ : Rg 0 0 0)) (by decide) (fun h => absurd h (by decide)) (fun h => absurd h (by decide)) (show sg S = (sg S) from rfl) (fun S123 hG124 hA125 e126 => ?_)
      refine tt_iload_n (j := 1) dX10_lay_25 rfl ?_
      refine tt_if_lt (tgt := 39) dX10_lay_26 rfl (fun q127 => ?_) (fun q127 => ?_)
      · skip
        have h128 : Rg (-1) (-1) x1 := rg_lt_l h1 (⟨by decide, by decide⟩ : Rg 0 0 0) q127
        have hF : Z_X10_lay R (sg S) o0 x1 x2 = (uI (sg S) 676 o0 0) := by
          exact zl_X10_lay_2 q101 q122 q127
        exact tt_vreturn dX10_lay_39 rfl (hP _ _ _ _ ⟨hG124, hA125, Or.inl ⟨_, rfl, rfl, Eq.trans e126 hF.symm, rfl, rfl⟩⟩)
      · skip
        have h129 : Rg 0 31 x1 := rg_le_r (⟨by decide, by decide⟩ : Rg 0 0 0) h1 (nlt_le q127)
        refine tt_aload_n (j := 0) dX10_lay_29 rfl ?_
        refine tt_sipush (v := 4904) dX10_lay_30 rfl ?_
        refine tt_iload_n (j := 1) dX10_lay_33 rfl ?_
        refine tt_iadd dX10_lay_34 ?_
        refine tt_iload_n (j := 2) dX10_lay_35 rfl ?_
        refine gt_Vv (As := [.int (4904 + x1), .int x2]) dX10_lay_36 ca_X10_169 ⟨by decide, by decide⟩ h0 hA125 rfl (Nat.le_of_ble_eq_true rfl) (Nat.le_of_ble_eq_true rfl) (by decide) (cz_X10_copy hG124 (oa_af h0 hA125) (rg_w (rg_add (lo := 4904) (hi := 4935) (⟨by decide, by decide⟩ : Rg 4904 4904 4904) h129)) (rg_w h2) (rk_af hR hA125) (fun _ _ _ _ h => h)) rfl (fun _ h => nomatch h) (fun S130 hx134 hG131 hB132 hA133 => ?_)
        obtain ⟨d135, hd136⟩ : ∃ q, Z_X10_copy R (uI (sg S) 676 o0 0) o0 ((4904 + x1)) (x2) = q := ⟨_, rfl⟩
        have hq137 := (congrArg (fun q9 => Z_X10_copy R q9 o0 ((4904 + x1)) (x2)) e126).trans hd136
        have hs138 := hx134.trans hq137
        have hF : Z_X10_lay R (sg S) o0 x1 x2 = d135 := by
          subst hd136
          exact zl_X10_lay_3 q101 q122 q127
        exact tt_vreturn dX10_lay_39 rfl (hP _ _ _ _ ⟨hG131, hA133, Or.inl ⟨_, rfl, rfl, Eq.trans hs138 hF.symm, rfl, rfl⟩⟩)
    · skip
      have h139 : Rg 0 0 (mi (sg S) (R 643 o0) (x2 : Int32).toNatClampNeg) := rg_eq_l (rg_all (mi (sg S) (R 643 o0) (x2 : Int32).toNatClampNeg)) (⟨by decide, by decide⟩ : Rg 0 0 0) q122
      refine tt_iconst (v := 1) dX10_lay_17 rfl ?_
      refine tt_goto (tgt := 22) dX10_lay_18 rfl ?_
      refine gx_pI (id := 676) (x := 1) dX10_lay_22 fl_10_250 rfl rfl h0 hA rfl rfl rfl (gp_Ir hG (⟨by decide, by decide⟩ : Rg 1 1 1)) (by decide) (fun h => absurd h (by decide)) (fun h => absurd h (by decide)) (show sg S = (sg S) from rfl) (fun S140 hG141 hA142 e143 => ?_)
      refine tt_iload_n (j := 1) dX10_lay_25 rfl ?_
      refine tt_if_lt (tgt := 39) dX10_lay_26 rfl (fun q144 => ?_) (fun q144 => ?_)
      · skip
        have h145 : Rg (-1) (-1) x1 := rg_lt_l h1 (⟨by decide, by decide⟩ : Rg 0 0 0) q144
        have hF : Z_X10_lay R (sg S) o0 x1 x2 = (uI (sg S) 676 o0 1) := by
          exact zl_X10_lay_0 q101 q122 q144
        exact tt_vreturn dX10_lay_39 rfl (hP _ _ _ _ ⟨hG141, hA142, Or.inl ⟨_, rfl, rfl, Eq.trans e143 hF.symm, rfl, rfl⟩⟩)
      · skip
        have h146 : Rg 0 31 x1 := rg_le_r (⟨by decide, by decide⟩ : Rg 0 0 0) h1 (nlt_le q144)
        refine tt_aload_n (j := 0) dX10_lay_29 rfl ?_
        refine tt_sipush (v := 4904) dX10_lay_30 rfl ?_
        refine tt_iload_n (j := 1) dX10_lay_33 rfl ?_
        refine tt_iadd dX10_lay_34 ?_
        refine tt_iload_n (j := 2) dX10_lay_35 rfl ?_
        refine gt_Vv (As := [.int (4904 + x1), .int x2]) dX10_lay_36 ca_X10_169 ⟨by decide, by decide⟩ h0 hA142 rfl (Nat.le_of_ble_eq_true rfl) (Nat.le_of_ble_eq_true rfl) (by decide) (cz_X10_copy hG141 (oa_af h0 hA142) (rg_w (rg_add (lo := 4904) (hi := 4935) (⟨by decide, by decide⟩ : Rg 4904 4904 4904) h146)) (rg_w h2) (rk_af hR hA142) (fun _ _ _ _ h => h)) rfl (fun _ h => nomatch h) (fun S147 hx151 hG148 hB149 hA150 => ?_)
        obtain ⟨d152, hd153⟩ : ∃ q, Z_X10_copy R (uI (sg S) 676 o0 1) o0 ((4904 + x1)) (x2) = q := ⟨_, rfl⟩
        have hq154 := (congrArg (fun q9 => Z_X10_copy R q9 o0 ((4904 + x1)) (x2)) e143).trans hd153
        have hs155 := hx151.trans hq154
        have hF : Z_X10_lay R (sg S) o0 x1 x2 = d152 := by
          subst hd153
          exact zl_X10_lay_1 q101 q122 q144
        exact tt_vreturn dX10_lay_39 rfl (hP _ _ _ _ ⟨hG148, hA150, Or.inl ⟨_, rfl, rfl, Eq.trans hs155 hF.symm, rfl, rfl⟩⟩)
def Z_X10_without (R : Nat → Nat → Nat) (σ : SG) (o0 : Nat) (x1 : Int32) (x2 : Int32) (y3 : Int64) : SG :=
  let d106 := Z_X10_copy R σ o0 (x1) (x2)
  if (mi d106 (R 643 o0) (x2 : Int32).toNatClampNeg) = 1 then
    if (Z_X10_isNumber R d106 o0 (x2) (y3)) = 0 then
      if (mj d106 (R 644 o0) (x2 : Int32).toNatClampNeg) = y3 then
        let d145 := Z_X10_make R d106 o0 (x1) (1) (((mj d106 (R 644 o0) (x2 : Int32).toNatClampNeg) + (mj d106 (R 646 o0) (x2 : Int32).toNatClampNeg))) ((mj d106 (R 645 o0) (x2 : Int32).toNatClampNeg)) ((mj d106 (R 646 o0) (x2 : Int32).toNatClampNeg))
        d145
      else
        if (mj d106 (R 645 o0) (x2 : Int32).toNatClampNeg) = y3 then
          let d132 := Z_X10_make R d106 o0 (x1) (1) ((mj d106 (R 644 o0) (x2 : Int32).toNatClampNeg)) (((mj d106 (R 645 o0) (x2 : Int32).toNatClampNeg) - (mj d106 (R 646 o0) (x2 : Int32).toNatClampNeg))) ((mj d106 (R 646 o0) (x2 : Int32).toNatClampNeg))
          d132
        else
          d106
    else
      (ui d106 (R 643 o0) (x1 : Int32).toNatClampNeg 0)
  else
    d106
theorem zl_X10_without_0 {R : Nat → Nat → Nat} {σ : SG} {o0 : Nat} {x1 : Int32} {x2 : Int32} {y3 : Int64} (h0 : (mi (Z_X10_copy R σ o0 (x1) (x2)) (R 643 o0) (x2 : Int32).toNatClampNeg) = 1) (h1 : (Z_X10_isNumber R (Z_X10_copy R σ o0 (x1) (x2)) o0 (x2) (y3)) = 0) (h2 : (mj (Z_X10_copy R σ o0 (x1) (x2)) (R 644 o0) (x2 : Int32).toNatClampNeg) = y3) : Z_X10_without R σ o0 x1 x2 y3 = (Z_X10_make R (Z_X10_copy R σ o0 (x1) (x2)) o0 (x1) (1) (((mj (Z_X10_copy R σ o0 (x1) (x2)) (R 644 o0) (x2 : Int32).toNatClampNeg) + (mj (Z_X10_copy R σ o0 (x1) (x2)) (R 646 o0) (x2 : Int32).toNatClampNeg))) ((mj (Z_X10_copy R σ o0 (x1) (x2)) (R 645 o0) (x2 : Int32).toNatClampNeg)) ((mj (Z_X10_copy R σ o0 (x1) (x2)) (R 646 o0) (x2 : Int32).toNatClampNeg))) := by unfold Z_X10_without; exact Eq.trans (if_pos h0) (Eq.trans (if_pos h1) (if_pos h2))
theorem zl_X10_without_1 {R : Nat → Nat → Nat} {σ : SG} {o0 : Nat} {x1 : Int32} {x2 : Int32} {y3 : Int64} (h0 : (mi (Z_X10_copy R σ o0 (x1) (x2)) (R 643 o0) (x2 : Int32).toNatClampNeg) = 1) (h1 : (Z_X10_isNumber R (Z_X10_copy R σ o0 (x1) (x2)) o0 (x2) (y3)) = 0) (h2 : ¬ (mj (Z_X10_copy R σ o0 (x1) (x2)) (R 644 o0) (x2 : Int32).toNatClampNeg) = y3) (h3 : (mj (Z_X10_copy R σ o0 (x1) (x2)) (R 645 o0) (x2 : Int32).toNatClampNeg) = y3) : Z_X10_without R σ o0 x1 x2 y3 = (Z_X10_make R (Z_X10_copy R σ o0 (x1) (x2)) o0 (x1) (1) ((mj (Z_X10_copy R σ o0 (x1) (x2)) (R 644 o0) (x2 : Int32).toNatClampNeg)) (((mj (Z_X10_copy R σ o0 (x1) (x2)) (R 645 o0) (x2 : Int32).toNatClampNeg) - (mj (Z_X10_copy R σ o0 (x1) (x2)) (R 646 o0) (x2 : Int32).toNatClampNeg))) ((mj (Z_X10_copy R σ o0 (x1) (x2)) (R 646 o0) (x2 : Int32).toNatClampNeg))) := by unfold Z_X10_without; exact Eq.trans (if_pos h0) (Eq.trans (if_pos h1) (Eq.trans (if_neg h2) (if_pos h3)))
theorem zl_X10_without_2 {R : Nat → Nat → Nat} {σ : SG} {o0 : Nat} {x1 : Int32} {x2 : Int32} {y3 : Int64} (h0 : (mi (Z_X10_copy R σ o0 (x1) (x2)) (R 643 o0) (x2 : Int32).toNatClampNeg) = 1) (h1 : (Z_X10_isNumber R (Z_X10_copy R σ o0 (x1) (x2)) o0 (x2) (y3)) = 0) (h2 : ¬ (mj (Z_X10_copy R σ o0 (x1) (x2)) (R 644 o0) (x2 : Int32).toNatClampNeg) = y3) (h3 : ¬ (mj (Z_X10_copy R σ o0 (x1) (x2)) (R 645 o0) (x2 : Int32).toNatClampNeg) = y3) : Z_X10_without R σ o0 x1 x2 y3 = (Z_X10_copy R σ o0 (x1) (x2)) := by unfold Z_X10_without; exact Eq.trans (if_pos h0) (Eq.trans (if_pos h1) (Eq.trans (if_neg h2) (if_neg h3)))
theorem zl_X10_without_3 {R : Nat → Nat → Nat} {σ : SG} {o0 : Nat} {x1 : Int32} {x2 : Int32} {y3 : Int64} (h0 : (mi (Z_X10_copy R σ o0 (x1) (x2)) (R 643 o0) (x2 : Int32).toNatClampNeg) = 1) (h1 : ¬ (Z_X10_isNumber R (Z_X10_copy R σ o0 (x1) (x2)) o0 (x2) (y3)) = 0) : Z_X10_without R σ o0 x1 x2 y3 = (ui (Z_X10_copy R σ o0 (x1) (x2)) (R 643 o0) (x1 : Int32).toNatClampNeg 0) := by unfold Z_X10_without; exact Eq.trans (if_pos h0) (if_neg h1)
theorem zl_X10_without_4 {R : Nat → Nat → Nat} {σ : SG} {o0 : Nat} {x1 : Int32} {x2 : Int32} {y3 : Int64} (h0 : ¬ (mi (Z_X10_copy R σ o0 (x1) (x2)) (R 643 o0) (x2 : Int32).toNatClampNeg) = 1) : Z_X10_without R σ o0 x1 x2 y3 = (Z_X10_copy R σ o0 (x1) (x2)) := by unfold Z_X10_without; exact if_neg h0
set_option maxHeartbeats 40000000 in
theorem cz_X10_without {xi : SX} {S : Hp} {E : List Nat} {kc nc : Nat} {P : Po} {o0 : Nat} {x1 : Int32} {x2 : Int32} {y3 : Int64} {R : Nat → Nat → Nat} (hG : GI S E) (h0 : Oa S E 10 0 o0) (h1 : Rg 0 4939 x1) (h2 : Rg 0 4939 x2) (hR : RK S R) (hP : ∀ r T x y, PV E [9989] S kc nc rV (fun v T => sg T = Z_X10_without R (sg S) o0 x1 x2 y3) [] r T x y → P r T x y) : TT xi M_X10_without 0 [(0, .ref o0), (1, .int x1), (2, .int x2), (3, .long y3)] [] S kc nc P := by
  have hA : Af E [9989] S S := af_rf
  refine tt_aload_n (j := 0) dX10_without_0 rfl ?_
  refine tt_iload_n (j := 1) dX10_without_1 rfl ?_
  refine tt_iload_n (j := 2) dX10_without_2 rfl ?_
  refine gt_Vv (As := [.int x1, .int x2]) dX10_without_3 ca_X10_169 ⟨by decide, by decide⟩ h0 hA rfl (Nat.le_of_ble_eq_true rfl) (Nat.le_of_ble_eq_true rfl) (by decide) (cz_X10_copy hG (oa_af h0 hA) (rg_w h1) (rg_w h2) hR (fun _ _ _ _ h => h)) rfl (fun _ h => nomatch h) (fun S101 hx105 hG102 hB103 hA104 => ?_)
  obtain ⟨d106, hd107⟩ : ∃ q, Z_X10_copy R (sg S) o0 (x1) (x2) = q := ⟨_, rfl⟩
  have hq108 := (congrArg (fun q9 => Z_X10_copy R q9 o0 (x1) (x2)) (show sg S = (sg S) from rfl)).trans hd107
  have hs109 := hx105.trans hq108
  refine tt_aload_n (j := 0) dX10_without_6 rfl ?_
  have hr110 := rk_R (k := 643) hR h0 32 4940
  have ho111 := rk_O (k := 643) hG hR h0 32 4940
  refine gt_gR (id := 643) dX10_without_7 fl_10_13 rfl rfl h0 hA104 hr110 ?_
  refine tt_iload_n (j := 2) dX10_without_10 rfl ?_
  refine gx_iL (v := (mi d106 (R 643 o0) (x2 : Int32).toNatClampNeg)) dX10_without_11 ho111 hA104 (rg_in h2) (sg_i (a := (R 643 o0)) (i := (x2 : Int32).toNatClampNeg) hs109) ?_
  refine tt_iconst (v := 1) dX10_without_12 rfl ?_
  refine tt_icmp_eq (tgt := 17) dX10_without_13 rfl (fun q112 => ?_) (fun q112 => ?_)
  · skip
    have h113 : Rg 1 1 (mi d106 (R 643 o0) (x2 : Int32).toNatClampNeg) := rg_eq_l (rg_all (mi d106 (R 643 o0) (x2 : Int32).toNatClampNeg)) (⟨by decide, by decide⟩ : Rg 1 1 1) q112
    refine tt_aload_n (j := 0) dX10_without_17 rfl ?_
    refine tt_iload_n (j := 2) dX10_without_18 rfl ?_
    refine tt_lload_n (j := 3) dX10_without_19 rfl ?_
    refine gt_VIp (As := [.int x2, .long y3]) dX10_without_20 ca_X10_189 ⟨by decide, by decide⟩ h0 hA104 rfl (Nat.le_of_ble_eq_true rfl) (Nat.le_of_ble_eq_true rfl) (by decide) (cz_X10_isNumber hG102 (oa_af h0 hA104) (rg_w h2) (rk_af hR hA104) (fun _ _ _ _ h => h)) rfl (fun _ h => nomatch h) (fun _ _ q => q.1) (fun x114 h115 hx116 => ?_)
    obtain rfl : Z_X10_isNumber R d106 o0 (x2) (y3) = x114 := ((ei_w hx116.2).trans (congrArg (fun q9 => Z_X10_isNumber R q9 o0 (x2) (y3)) hs109)).symm
    refine tt_if_eq (tgt := 36) dX10_without_23 rfl (fun q117 => ?_) (fun q117 => ?_)
    · skip
      have h118 : Rg 0 0 (Z_X10_isNumber R d106 o0 (x2) (y3)) := rg_eq_l h115 (⟨by decide, by decide⟩ : Rg 0 0 0) q117
      refine tt_aload_n (j := 0) dX10_without_36 rfl ?_
      have hr119 := rk_R (k := 644) hR h0 33 4940
      have ho120 := rk_O (k := 644) hG hR h0 33 4940
      refine gt_gR (id := 644) dX10_without_37 fl_10_16 rfl rfl h0 hA104 hr119 ?_
      refine tt_iload_n (j := 2) dX10_without_40 rfl ?_
      refine gt_lLv (v := (mj d106 (R 644 o0) (x2 : Int32).toNatClampNeg)) dX10_without_41 ho120 hA104 (rg_in h2) (sg_j (a := (R 644 o0)) (i := (x2 : Int32).toNatClampNeg) hs109) ?_
      refine tt_lload_n (j := 3) dX10_without_42 rfl ?_
      refine tt_lcmp dX10_without_43 ?_
      refine tt_if_ne (tgt := 81) dX10_without_44 rfl (fun q121 => ?_) (fun q121 => ?_)
      · skip
        refine tt_aload_n (j := 0) dX10_without_81 rfl ?_
        have hr122 := rk_R (k := 645) hR h0 33 4940
        have ho123 := rk_O (k := 645) hG hR h0 33 4940
        refine gt_gR (id := 645) dX10_without_82 fl_10_20 rfl rfl h0 hA104 hr122 ?_
        refine tt_iload_n (j := 2) dX10_without_85 rfl ?_
        refine gt_lLv (v := (mj d106 (R 645 o0) (x2 : Int32).toNatClampNeg)) dX10_without_86 ho123 hA104 (rg_in h2) (sg_j (a := (R 645 o0)) (i := (x2 : Int32).toNatClampNeg) hs109) ?_
        refine tt_lload_n (j := 3) dX10_without_87 rfl ?_
        refine tt_lcmp dX10_without_88 ?_
        refine tt_if_ne (tgt := 123) dX10_without_89 rfl (fun q124 => ?_) (fun q124 => ?_)
        · skip
          have hF : Z_X10_without R (sg S) o0 x1 x2 y3 = d106 := by
            subst hd107
            exact zl_X10_without_2 q112 q117 (lc_ne_t q121) (lc_ne_t q124)
          exact tt_vreturn dX10_without_123 rfl (hP _ _ _ _ ⟨hG102, hA104, Or.inl ⟨_, rfl, rfl, Eq.trans hs109 hF.symm, rfl, rfl⟩⟩)
        · skip
          refine tt_aload_n (j := 0) dX10_without_92 rfl ?_
          refine tt_iload_n (j := 1) dX10_without_93 rfl ?_
          refine tt_iconst (v := 1) dX10_without_94 rfl ?_
          refine tt_aload_n (j := 0) dX10_without_95 rfl ?_
          refine gt_gR (id := 644) dX10_without_96 fl_10_16 rfl rfl h0 hA104 hr119 ?_
          refine tt_iload_n (j := 2) dX10_without_99 rfl ?_
          refine gt_lLv (v := (mj d106 (R 644 o0) (x2 : Int32).toNatClampNeg)) dX10_without_100 ho120 hA104 (rg_in h2) (sg_j (a := (R 644 o0)) (i := (x2 : Int32).toNatClampNeg) hs109) ?_
          refine tt_aload_n (j := 0) dX10_without_101 rfl ?_
          refine gt_gR (id := 645) dX10_without_102 fl_10_20 rfl rfl h0 hA104 hr122 ?_
          refine tt_iload_n (j := 2) dX10_without_105 rfl ?_
          refine gt_lLv (v := (mj d106 (R 645 o0) (x2 : Int32).toNatClampNeg)) dX10_without_106 ho123 hA104 (rg_in h2) (sg_j (a := (R 645 o0)) (i := (x2 : Int32).toNatClampNeg) hs109) ?_
          refine tt_aload_n (j := 0) dX10_without_107 rfl ?_
          have hr125 := rk_R (k := 646) hR h0 33 4940
          have ho126 := rk_O (k := 646) hG hR h0 33 4940
          refine gt_gR (id := 646) dX10_without_108 fl_10_23 rfl rfl h0 hA104 hr125 ?_
          refine tt_iload_n (j := 2) dX10_without_111 rfl ?_
          refine gt_lLv (v := (mj d106 (R 646 o0) (x2 : Int32).toNatClampNeg)) dX10_without_112 ho126 hA104 (rg_in h2) (sg_j (a := (R 646 o0)) (i := (x2 : Int32).toNatClampNeg) hs109) ?_
          refine tt_lsub dX10_without_113 ?_
          refine tt_aload_n (j := 0) dX10_without_114 rfl ?_
          refine gt_gR (id := 646) dX10_without_115 fl_10_23 rfl rfl h0 hA104 hr125 ?_
          refine tt_iload_n (j := 2) dX10_without_118 rfl ?_
          refine gt_lLv (v := (mj d106 (R 646 o0) (x2 : Int32).toNatClampNeg)) dX10_without_119 ho126 hA104 (rg_in h2) (sg_j (a := (R 646 o0)) (i := (x2 : Int32).toNatClampNeg) hs109) ?_
          refine gt_Vv (As := [.int x1, .int 1, .long (mj d106 (R 644 o0) (x2 : Int32).toNatClampNeg), .long ((mj d106 (R 645 o0) (x2 : Int32).toNatClampNeg) - (mj d106 (R 646 o0) (x2 : Int32).toNatClampNeg)), .long (mj d106 (R 646 o0) (x2 : Int32).toNatClampNeg)]) dX10_without_120 ca_X10_165 ⟨by decide, by decide⟩ h0 hA104 rfl (Nat.le_of_ble_eq_true rfl) (Nat.le_of_ble_eq_true rfl) (by decide) (cz_X10_make hG102 (oa_af h0 hA104) (rg_w h1) (rk_af hR hA104) (fun _ _ _ _ h => h)) rfl (fun _ h => nomatch h) (fun S127 hx131 hG128 hB129 hA130 => ?_)
          obtain ⟨d132, hd133⟩ : ∃ q, Z_X10_make R d106 o0 (x1) (1) ((mj d106 (R 644 o0) (x2 : Int32).toNatClampNeg)) (((mj d106 (R 645 o0) (x2 : Int32).toNatClampNeg) - (mj d106 (R 646 o0) (x2 : Int32).toNatClampNeg))) ((mj d106 (R 646 o0) (x2 : Int32).toNatClampNeg)) = q := ⟨_, rfl⟩
          have hq134 := (congrArg (fun q9 => Z_X10_make R q9 o0 (x1) (1) ((mj d106 (R 644 o0) (x2 : Int32).toNatClampNeg)) (((mj d106 (R 645 o0) (x2 : Int32).toNatClampNeg) - (mj d106 (R 646 o0) (x2 : Int32).toNatClampNeg))) ((mj d106 (R 646 o0) (x2 : Int32).toNatClampNeg))) hs109).trans hd133
          have hs135 := hx131.trans hq134
          have hF : Z_X10_without R (sg S) o0 x1 x2 y3 = d132 := by
            subst hd133
            subst hd107
            exact zl_X10_without_1 q112 q117 (lc_ne_t q121) (lc_ne_f q124)
          exact tt_vreturn dX10_without_123 rfl (hP _ _ _ _ ⟨hG128, hA130, Or.inl ⟨_, rfl, rfl, Eq.trans hs135 hF.symm, rfl, rfl⟩⟩)
      · skip
        refine tt_aload_n (j := 0) dX10_without_47 rfl ?_
        refine tt_iload_n (j := 1) dX10_without_48 rfl ?_
        refine tt_iconst (v := 1) dX10_without_49 rfl ?_
        refine tt_aload_n (j := 0) dX10_without_50 rfl ?_
        refine gt_gR (id := 644) dX10_without_51 fl_10_16 rfl rfl h0 hA104 hr119 ?_
        refine tt_iload_n (j := 2) dX10_without_54 rfl ?_
        refine gt_lLv (v := (mj d106 (R 644 o0) (x2 : Int32).toNatClampNeg)) dX10_without_55 ho120 hA104 (rg_in h2) (sg_j (a := (R 644 o0)) (i := (x2 : Int32).toNatClampNeg) hs109) ?_
        refine tt_aload_n (j := 0) dX10_without_56 rfl ?_
        have hr136 := rk_R (k := 646) hR h0 33 4940
        have ho137 := rk_O (k := 646) hG hR h0 33 4940
        refine gt_gR (id := 646) dX10_without_57 fl_10_23 rfl rfl h0 hA104 hr136 ?_
        refine tt_iload_n (j := 2) dX10_without_60 rfl ?_
        refine gt_lLv (v := (mj d106 (R 646 o0) (x2 : Int32).toNatClampNeg)) dX10_without_61 ho137 hA104 (rg_in h2) (sg_j (a := (R 646 o0)) (i := (x2 : Int32).toNatClampNeg) hs109) ?_
        refine tt_ladd dX10_without_62 ?_
        refine tt_aload_n (j := 0) dX10_without_63 rfl ?_
        have hr138 := rk_R (k := 645) hR h0 33 4940
        have ho139 := rk_O (k := 645) hG hR h0 33 4940
        refine gt_gR (id := 645) dX10_without_64 fl_10_20 rfl rfl h0 hA104 hr138 ?_
        refine tt_iload_n (j := 2) dX10_without_67 rfl ?_
        refine gt_lLv (v := (mj d106 (R 645 o0) (x2 : Int32).toNatClampNeg)) dX10_without_68 ho139 hA104 (rg_in h2) (sg_j (a := (R 645 o0)) (i := (x2 : Int32).toNatClampNeg) hs109) ?_
        refine tt_aload_n (j := 0) dX10_without_69 rfl ?_
        refine gt_gR (id := 646) dX10_without_70 fl_10_23 rfl rfl h0 hA104 hr136 ?_
        refine tt_iload_n (j := 2) dX10_without_73 rfl ?_
        refine gt_lLv (v := (mj d106 (R 646 o0) (x2 : Int32).toNatClampNeg)) dX10_without_74 ho137 hA104 (rg_in h2) (sg_j (a := (R 646 o0)) (i := (x2 : Int32).toNatClampNeg) hs109) ?_
        refine gt_Vv (As := [.int x1, .int 1, .long ((mj d106 (R 644 o0) (x2 : Int32).toNatClampNeg) + (mj d106 (R 646 o0) (x2 : Int32).toNatClampNeg)), .long (mj d106 (R 645 o0) (x2 : Int32).toNatClampNeg), .long (mj d106 (R 646 o0) (x2 : Int32).toNatClampNeg)]) dX10_without_75 ca_X10_165 ⟨by decide, by decide⟩ h0 hA104 rfl (Nat.le_of_ble_eq_true rfl) (Nat.le_of_ble_eq_true rfl) (by decide) (cz_X10_make hG102 (oa_af h0 hA104) (rg_w h1) (rk_af hR hA104) (fun _ _ _ _ h => h)) rfl (fun _ h => nomatch h) (fun S140 hx144 hG141 hB142 hA143 => ?_)
        obtain ⟨d145, hd146⟩ : ∃ q, Z_X10_make R d106 o0 (x1) (1) (((mj d106 (R 644 o0) (x2 : Int32).toNatClampNeg) + (mj d106 (R 646 o0) (x2 : Int32).toNatClampNeg))) ((mj d106 (R 645 o0) (x2 : Int32).toNatClampNeg)) ((mj d106 (R 646 o0) (x2 : Int32).toNatClampNeg)) = q := ⟨_, rfl⟩
        have hq147 := (congrArg (fun q9 => Z_X10_make R q9 o0 (x1) (1) (((mj d106 (R 644 o0) (x2 : Int32).toNatClampNeg) + (mj d106 (R 646 o0) (x2 : Int32).toNatClampNeg))) ((mj d106 (R 645 o0) (x2 : Int32).toNatClampNeg)) ((mj d106 (R 646 o0) (x2 : Int32).toNatClampNeg))) hs109).trans hd146
        have hs148 := hx144.trans hq147
        refine tt_goto (tgt := 123) dX10_without_78 rfl ?_
        have hF : Z_X10_without R (sg S) o0 x1 x2 y3 = d145 := by
          subst hd146
          subst hd107
          exact zl_X10_without_0 q112 q117 (lc_ne_f q121)
        exact tt_vreturn dX10_without_123 rfl (hP _ _ _ _ ⟨hG141, hA143, Or.inl ⟨_, rfl, rfl, Eq.trans hs148 hF.symm, rfl, rfl⟩⟩)
    · skip
      have h149 : Rg 1 1 (Z_X10_isNumber R d106 o0 (x2) (y3)) := rg_ne_lo h115 (⟨by decide, by decide⟩ : Rg 0 0 0) q117
      refine tt_aload_n (j := 0) dX10_without_26 rfl ?_
      refine gt_gR (id := 643) dX10_without_27 fl_10_13 rfl rfl h0 hA104 hr110 ?_
      refine tt_iload_n (j := 1) dX10_without_30 rfl ?_
      refine tt_iconst (v := 0) dX10_without_31 rfl ?_
      refine gx_iS dX10_without_32 ho111 hA104 (Or.inl (by decide)) (rg_in h1) hG102 (by decide) hs109 (fun S150 hG151 hA152 e153 => ?_)
      refine tt_goto (tgt := 123) dX10_without_33 rfl ?_
      have hF : Z_X10_without R (sg S) o0 x1 x2 y3 = (ui d106 (R 643 o0) (x1 : Int32).toNatClampNeg 0) := by
        subst hd107
        exact zl_X10_without_3 q112 q117
      exact tt_vreturn dX10_without_123 rfl (hP _ _ _ _ ⟨hG151, hA152, Or.inl ⟨_, rfl, rfl, Eq.trans e153 hF.symm, rfl, rfl⟩⟩)
  · skip
    have hF : Z_X10_without R (sg S) o0 x1 x2 y3 = d106 := by
      subst hd107
      exact zl_X10_without_4 q112
    exact tt_vreturn dX10_without_16 rfl (hP _ _ _ _ ⟨hG102, hA104, Or.inl ⟨_, rfl, rfl, Eq.trans hs109 hF.symm, rfl, rfl⟩⟩)
def Z_X10_only (R : Nat → Nat → Nat) (σ : SG) (o0 : Nat) (x1 : Int32) (x2 : Int32) (y3 : Int64) : SG :=
  if (Z_X10_contains R σ o0 (x2) (y3)) = 0 then
    (ui σ (R 643 o0) (x1 : Int32).toNatClampNeg 0)
  else
    let d118 := Z_X10_one R σ o0 (x1) (y3)
    d118
theorem zl_X10_only_0 {R : Nat → Nat → Nat} {σ : SG} {o0 : Nat} {x1 : Int32} {x2 : Int32} {y3 : Int64} (h0 : (Z_X10_contains R σ o0 (x2) (y3)) = 0) : Z_X10_only R σ o0 x1 x2 y3 = (ui σ (R 643 o0) (x1 : Int32).toNatClampNeg 0) := by unfold Z_X10_only; exact if_pos h0
theorem zl_X10_only_1 {R : Nat → Nat → Nat} {σ : SG} {o0 : Nat} {x1 : Int32} {x2 : Int32} {y3 : Int64} (h0 : ¬ (Z_X10_contains R σ o0 (x2) (y3)) = 0) : Z_X10_only R σ o0 x1 x2 y3 = (Z_X10_one R σ o0 (x1) (y3)) := by unfold Z_X10_only; exact if_neg h0
set_option maxHeartbeats 40000000 in
theorem cz_X10_only {xi : SX} {S : Hp} {E : List Nat} {kc nc : Nat} {P : Po} {o0 : Nat} {x1 : Int32} {x2 : Int32} {y3 : Int64} {R : Nat → Nat → Nat} (hG : GI S E) (h0 : Oa S E 10 0 o0) (h1 : Rg 0 4939 x1) (h2 : Rg 0 4939 x2) (hR : RK S R) (hP : ∀ r T x y, PV E [9989] S kc nc rV (fun v T => sg T = Z_X10_only R (sg S) o0 x1 x2 y3) [] r T x y → P r T x y) : TT xi M_X10_only 0 [(0, .ref o0), (1, .int x1), (2, .int x2), (3, .long y3)] [] S kc nc P := by
  have hA : Af E [9989] S S := af_rf
  refine tt_aload_n (j := 0) dX10_only_0 rfl ?_
  refine tt_iload_n (j := 2) dX10_only_1 rfl ?_
  refine tt_lload_n (j := 3) dX10_only_2 rfl ?_
  refine gt_VIp (As := [.int x2, .long y3]) dX10_only_3 ca_X10_253 ⟨by decide, by decide⟩ h0 hA rfl (Nat.le_of_ble_eq_true rfl) (Nat.le_of_ble_eq_true rfl) (by decide) (cz_X10_contains hG (oa_af h0 hA) (rg_w h2) hR (fun _ _ _ _ h => h)) rfl (fun _ h => nomatch h) (fun _ _ q => q.1) (fun x101 h102 hx103 => ?_)
  obtain rfl : Z_X10_contains R (sg S) o0 (x2) (y3) = x101 := ((ei_w hx103.2).trans (congrArg (fun q9 => Z_X10_contains R q9 o0 (x2) (y3)) (show sg S = (sg S) from rfl))).symm
  refine tt_if_eq (tgt := 18) dX10_only_6 rfl (fun q104 => ?_) (fun q104 => ?_)
  · skip
    have h105 : Rg 0 0 (Z_X10_contains R (sg S) o0 (x2) (y3)) := rg_eq_l h102 (⟨by decide, by decide⟩ : Rg 0 0 0) q104
    refine tt_aload_n (j := 0) dX10_only_18 rfl ?_
    have hr106 := rk_R (k := 643) hR h0 32 4940
    have ho107 := rk_O (k := 643) hG hR h0 32 4940
    refine gt_gR (id := 643) dX10_only_19 fl_10_13 rfl rfl h0 hA hr106 ?_
    refine tt_iload_n (j := 1) dX10_only_22 rfl ?_
    refine tt_iconst (v := 0) dX10_only_23 rfl ?_
    refine gx_iS dX10_only_24 ho107 hA (Or.inl (by decide)) (rg_in h1) hG (by decide) (show sg S = (sg S) from rfl) (fun S108 hG109 hA110 e111 => ?_)
    have hF : Z_X10_only R (sg S) o0 x1 x2 y3 = (ui (sg S) (R 643 o0) (x1 : Int32).toNatClampNeg 0) := by
      exact zl_X10_only_0 q104
    exact tt_vreturn dX10_only_25 rfl (hP _ _ _ _ ⟨hG109, hA110, Or.inl ⟨_, rfl, rfl, Eq.trans e111 hF.symm, rfl, rfl⟩⟩)
  · skip
    have h112 : Rg 1 1 (Z_X10_contains R (sg S) o0 (x2) (y3)) := rg_ne_lo h102 (⟨by decide, by decide⟩ : Rg 0 0 0) q104
    refine tt_aload_n (j := 0) dX10_only_9 rfl ?_
    refine tt_iload_n (j := 1) dX10_only_10 rfl ?_
    refine tt_lload_n (j := 3) dX10_only_11 rfl ?_
    refine gt_Vv (As := [.int x1, .long y3]) dX10_only_12 ca_X10_193 ⟨by decide, by decide⟩ h0 hA rfl (Nat.le_of_ble_eq_true rfl) (Nat.le_of_ble_eq_true rfl) (by decide) (cz_X10_one hG (oa_af h0 hA) (rg_w h1) hR (fun _ _ _ _ h => h)) rfl (fun _ h => nomatch h) (fun S113 hx117 hG114 hB115 hA116 => ?_)
    obtain ⟨d118, hd119⟩ : ∃ q, Z_X10_one R (sg S) o0 (x1) (y3) = q := ⟨_, rfl⟩
    have hq120 := (congrArg (fun q9 => Z_X10_one R q9 o0 (x1) (y3)) (show sg S = (sg S) from rfl)).trans hd119
    have hs121 := hx117.trans hq120
    refine tt_goto (tgt := 25) dX10_only_15 rfl ?_
    have hF : Z_X10_only R (sg S) o0 x1 x2 y3 = d118 := by
      subst hd119
      exact zl_X10_only_1 q104
    exact tt_vreturn dX10_only_25 rfl (hP _ _ _ _ ⟨hG114, hA116, Or.inl ⟨_, rfl, rfl, Eq.trans hs121 hF.symm, rfl, rfl⟩⟩)
def Z_X10_equal_p292 (R : Nat → Nat → Nat) (σ : SG) (o0 : Nat) (x1 : Int32) (x2 : Int32) : SG :=
  let d106 := Z_X10_lay R σ o0 (x1) (4850)
  let d115 := Z_X10_lay R d106 o0 (x2) (4851)
  d115
theorem zl_X10_equal_p292_0 {R : Nat → Nat → Nat} {σ : SG} {o0 : Nat} {x1 : Int32} {x2 : Int32}  : Z_X10_equal_p292 R σ o0 x1 x2 = (Z_X10_lay R (Z_X10_lay R σ o0 (x1) (4850)) o0 (x2) (4851)) := rfl
set_option maxHeartbeats 40000000 in
theorem cz_X10_equal_p292 {xi : SX} {S : Hp} {E : List Nat} {kc nc : Nat} {P : Po} {o0 : Nat} {x1 : Int32} {x2 : Int32} {R : Nat → Nat → Nat} (hG : GI S E) (h0 : Oa S E 10 0 o0) (h1 : Rg (-1) 31 x1) (h2 : Rg (-1) 31 x2) (hR : RK S R) (hP : ∀ r T x y, PV E [676, 9989] S kc nc rV (fun v T => sg T = Z_X10_equal_p292 R (sg S) o0 x1 x2) [] r T x y → P r T x y) : TT xi M_X10_equal 292 [(0, .ref o0), (1, .int x1), (2, .int x2)] [] S kc nc P := by
  have hA : Af E [676, 9989] S S := af_rf
  refine tt_aload_n (j := 0) dX10_equal_292 rfl ?_
  refine tt_iload_n (j := 1) dX10_equal_293 rfl ?_
  refine tt_sipush (v := 4850) dX10_equal_294 rfl ?_
  refine gt_Vv (As := [.int x1, .int 4850]) dX10_equal_297 ca_X10_267 ⟨by decide, by decide⟩ h0 hA rfl (Nat.le_of_ble_eq_true rfl) (Nat.le_of_ble_eq_true rfl) (by decide) (cz_X10_lay hG (oa_af h0 hA) (rg_w h1) (rg_w (⟨by decide, by decide⟩ : Rg 4850 4850 4850)) hR (fun _ _ _ _ h => h)) rfl (fun _ h => nomatch h) (fun S101 hx105 hG102 hB103 hA104 => ?_)
  obtain ⟨d106, hd107⟩ : ∃ q, Z_X10_lay R (sg S) o0 (x1) (4850) = q := ⟨_, rfl⟩
  have hq108 := (congrArg (fun q9 => Z_X10_lay R q9 o0 (x1) (4850)) (show sg S = (sg S) from rfl)).trans hd107
  have hs109 := hx105.trans hq108
  refine tt_aload_n (j := 0) dX10_equal_300 rfl ?_
  refine tt_iload_n (j := 2) dX10_equal_301 rfl ?_
  refine tt_sipush (v := 4851) dX10_equal_302 rfl ?_
  refine gt_Vv (As := [.int x2, .int 4851]) dX10_equal_305 ca_X10_267 ⟨by decide, by decide⟩ h0 hA104 rfl (Nat.le_of_ble_eq_true rfl) (Nat.le_of_ble_eq_true rfl) (by decide) (cz_X10_lay hG102 (oa_af h0 hA104) (rg_w h2) (rg_w (⟨by decide, by decide⟩ : Rg 4851 4851 4851)) (rk_af hR hA104) (fun _ _ _ _ h => h)) rfl (fun _ h => nomatch h) (fun S110 hx114 hG111 hB112 hA113 => ?_)
  obtain ⟨d115, hd116⟩ : ∃ q, Z_X10_lay R d106 o0 (x2) (4851) = q := ⟨_, rfl⟩
  have hq117 := (congrArg (fun q9 => Z_X10_lay R q9 o0 (x2) (4851)) hs109).trans hd116
  have hs118 := hx114.trans hq117
  have hF : Z_X10_equal_p292 R (sg S) o0 x1 x2 = d115 := by
    subst hd116
    subst hd107
    rfl
  exact tt_vreturn dX10_equal_308 rfl (hP _ _ _ _ ⟨hG111, hA113, Or.inl ⟨_, rfl, rfl, Eq.trans hs118 hF.symm, rfl, rfl⟩⟩)
def Z_X10_equal_p227 (R : Nat → Nat → Nat) (σ : SG) (o0 : Nat) (x1 : Int32) (x2 : Int32) : SG :=
  if (mi σ (R 643 o0) (4928 : Int32).toNatClampNeg) = 1 then
    if (mi σ (R 643 o0) (4929 : Int32).toNatClampNeg) = 2 then
      let d125 := Z_X10_copy R σ o0 (4851) (4928)
      Z_X10_equal_p292 R d125 o0 (x1) (x2)
    else
      let d115 := Z_X10_cut R σ o0 (4851) (4929) (1) ((mj σ (R 644 o0) (4928 : Int32).toNatClampNeg)) (1) ((mj σ (R 645 o0) (4928 : Int32).toNatClampNeg))
      Z_X10_equal_p292 R d115 o0 (x1) (x2)
  else
    Z_X10_equal_p292 R σ o0 (x1) (x2)
theorem zl_X10_equal_p227_0 {R : Nat → Nat → Nat} {σ : SG} {o0 : Nat} {x1 : Int32} {x2 : Int32} (h0 : (mi σ (R 643 o0) (4928 : Int32).toNatClampNeg) = 1) (h1 : (mi σ (R 643 o0) (4929 : Int32).toNatClampNeg) = 2) : Z_X10_equal_p227 R σ o0 x1 x2 = Z_X10_equal_p292 R (Z_X10_copy R σ o0 (4851) (4928)) o0 (x1) (x2) := by unfold Z_X10_equal_p227; exact Eq.trans (if_pos h0) (if_pos h1)
theorem zl_X10_equal_p227_1 {R : Nat → Nat → Nat} {σ : SG} {o0 : Nat} {x1 : Int32} {x2 : Int32} (h0 : (mi σ (R 643 o0) (4928 : Int32).toNatClampNeg) = 1) (h1 : ¬ (mi σ (R 643 o0) (4929 : Int32).toNatClampNeg) = 2) : Z_X10_equal_p227 R σ o0 x1 x2 = Z_X10_equal_p292 R (Z_X10_cut R σ o0 (4851) (4929) (1) ((mj σ (R 644 o0) (4928 : Int32).toNatClampNeg)) (1) ((mj σ (R 645 o0) (4928 : Int32).toNatClampNeg))) o0 (x1) (x2) := by unfold Z_X10_equal_p227; exact Eq.trans (if_pos h0) (if_neg h1)
theorem zl_X10_equal_p227_2 {R : Nat → Nat → Nat} {σ : SG} {o0 : Nat} {x1 : Int32} {x2 : Int32} (h0 : ¬ (mi σ (R 643 o0) (4928 : Int32).toNatClampNeg) = 1) : Z_X10_equal_p227 R σ o0 x1 x2 = Z_X10_equal_p292 R σ o0 (x1) (x2) := by unfold Z_X10_equal_p227; exact if_neg h0
set_option maxHeartbeats 40000000 in
theorem cz_X10_equal_p227 {xi : SX} {S : Hp} {E : List Nat} {kc nc : Nat} {P : Po} {o0 : Nat} {x1 : Int32} {x2 : Int32} {R : Nat → Nat → Nat} (hG : GI S E) (h0 : Oa S E 10 0 o0) (h1 : Rg (-1) 31 x1) (h2 : Rg (-1) 31 x2) (hR : RK S R) (hP : ∀ r T x y, PV E [676, 9989] S kc nc rV (fun v T => sg T = Z_X10_equal_p227 R (sg S) o0 x1 x2) [] r T x y → P r T x y) : TT xi M_X10_equal 227 [(0, .ref o0), (1, .int x1), (2, .int x2)] [] S kc nc P := by
  have hA : Af E [676, 9989] S S := af_rf
  refine tt_aload_n (j := 0) dX10_equal_227 rfl ?_
  have hr101 := rk_R (k := 643) hR h0 32 4940
  have ho102 := rk_O (k := 643) hG hR h0 32 4940
  refine gt_gR (id := 643) dX10_equal_228 fl_10_13 rfl rfl h0 hA hr101 ?_
  refine tt_sipush (v := 4928) dX10_equal_231 rfl ?_
  refine gx_iL (v := (mi (sg S) (R 643 o0) (4928 : Int32).toNatClampNeg)) dX10_equal_234 ho102 hA (rg_in (⟨by decide, by decide⟩ : Rg 4928 4928 4928)) (sg_i (a := (R 643 o0)) (i := (4928 : Int32).toNatClampNeg) (show sg S = (sg S) from rfl)) ?_
  refine tt_iconst (v := 1) dX10_equal_235 rfl ?_
  refine tt_icmp_ne (tgt := 292) dX10_equal_236 rfl (fun q103 => ?_) (fun q103 => ?_)
  · skip
    have hF : Z_X10_equal_p227 R (sg S) o0 x1 x2 = Z_X10_equal_p292 R (sg S) o0 (x1) (x2) := by
      exact zl_X10_equal_p227_2 q103
    exact tt_loc (ks := [0, 1, 2]) rfl (cz_X10_equal_p292 hG (oa_af h0 hA) (rg_w h1) (rg_w h2) hR (fun r T x y h => hP r T x y (pv_tr hA h (by decide) (fun v T e => e.trans ((congrArg (fun q9 => Z_X10_equal_p292 R q9 o0 (x1) (x2)) (show sg S = (sg S) from rfl)).trans hF.symm)))))
  · skip
    have h104 : Rg 1 1 (mi (sg S) (R 643 o0) (4928 : Int32).toNatClampNeg) := rg_eq_l (rg_all (mi (sg S) (R 643 o0) (4928 : Int32).toNatClampNeg)) (⟨by decide, by decide⟩ : Rg 1 1 1) q103
    refine tt_aload_n (j := 0) dX10_equal_239 rfl ?_
    refine gt_gR (id := 643) dX10_equal_240 fl_10_13 rfl rfl h0 hA hr101 ?_
    refine tt_sipush (v := 4929) dX10_equal_243 rfl ?_
    refine gx_iL (v := (mi (sg S) (R 643 o0) (4929 : Int32).toNatClampNeg)) dX10_equal_246 ho102 hA (rg_in (⟨by decide, by decide⟩ : Rg 4929 4929 4929)) (sg_i (a := (R 643 o0)) (i := (4929 : Int32).toNatClampNeg) (show sg S = (sg S) from rfl)) ?_
    refine tt_iconst (v := 2) dX10_equal_247 rfl ?_
    refine tt_icmp_ne (tgt := 264) dX10_equal_248 rfl (fun q105 => ?_) (fun q105 => ?_)
    · skip
      refine tt_aload_n (j := 0) dX10_equal_264 rfl ?_
      refine tt_sipush (v := 4851) dX10_equal_265 rfl ?_
      refine tt_sipush (v := 4929) dX10_equal_268 rfl ?_
      refine tt_iconst (v := 1) dX10_equal_271 rfl ?_
      refine tt_aload_n (j := 0) dX10_equal_272 rfl ?_
      have hr106 := rk_R (k := 644) hR h0 33 4940
      have ho107 := rk_O (k := 644) hG hR h0 33 4940
      refine gt_gR (id := 644) dX10_equal_273 fl_10_16 rfl rfl h0 hA hr106 ?_
      refine tt_sipush (v := 4928) dX10_equal_276 rfl ?_
      refine gt_lLv (v := (mj (sg S) (R 644 o0) (4928 : Int32).toNatClampNeg)) dX10_equal_279 ho107 hA (rg_in (⟨by decide, by decide⟩ : Rg 4928 4928 4928)) (sg_j (a := (R 644 o0)) (i := (4928 : Int32).toNatClampNeg) (show sg S = (sg S) from rfl)) ?_
      refine tt_iconst (v := 1) dX10_equal_280 rfl ?_
      refine tt_aload_n (j := 0) dX10_equal_281 rfl ?_
      have hr108 := rk_R (k := 645) hR h0 33 4940
      have ho109 := rk_O (k := 645) hG hR h0 33 4940
      refine gt_gR (id := 645) dX10_equal_282 fl_10_20 rfl rfl h0 hA hr108 ?_
      refine tt_sipush (v := 4928) dX10_equal_285 rfl ?_
      refine gt_lLv (v := (mj (sg S) (R 645 o0) (4928 : Int32).toNatClampNeg)) dX10_equal_288 ho109 hA (rg_in (⟨by decide, by decide⟩ : Rg 4928 4928 4928)) (sg_j (a := (R 645 o0)) (i := (4928 : Int32).toNatClampNeg) (show sg S = (sg S) from rfl)) ?_
      refine gt_Vv (As := [.int 4851, .int 4929, .int 1, .long (mj (sg S) (R 644 o0) (4928 : Int32).toNatClampNeg), .int 1, .long (mj (sg S) (R 645 o0) (4928 : Int32).toNatClampNeg)]) dX10_equal_289 ca_X10_263 ⟨by decide, by decide⟩ h0 hA rfl (Nat.le_of_ble_eq_true rfl) (Nat.le_of_ble_eq_true rfl) (by decide) (cz_X10_cut hG (oa_af h0 hA) (rg_w (⟨by decide, by decide⟩ : Rg 4851 4851 4851)) (rg_w (⟨by decide, by decide⟩ : Rg 4929 4929 4929)) (rg_w (⟨by decide, by decide⟩ : Rg 1 1 1)) (rg_w (⟨by decide, by decide⟩ : Rg 1 1 1)) hR (fun _ _ _ _ h => h)) rfl (fun _ h => nomatch h) (fun S110 hx114 hG111 hB112 hA113 => ?_)
      obtain ⟨d115, hd116⟩ : ∃ q, Z_X10_cut R (sg S) o0 (4851) (4929) (1) ((mj (sg S) (R 644 o0) (4928 : Int32).toNatClampNeg)) (1) ((mj (sg S) (R 645 o0) (4928 : Int32).toNatClampNeg)) = q := ⟨_, rfl⟩
      have hq117 := (congrArg (fun q9 => Z_X10_cut R q9 o0 (4851) (4929) (1) ((mj (sg S) (R 644 o0) (4928 : Int32).toNatClampNeg)) (1) ((mj (sg S) (R 645 o0) (4928 : Int32).toNatClampNeg))) (show sg S = (sg S) from rfl)).trans hd116
      have hs118 := hx114.trans hq117
      have hF : Z_X10_equal_p227 R (sg S) o0 x1 x2 = Z_X10_equal_p292 R d115 o0 (x1) (x2) := by
        subst hd116
        exact zl_X10_equal_p227_1 q103 q105
      exact tt_loc (ks := [0, 1, 2]) rfl (cz_X10_equal_p292 hG111 (oa_af h0 hA113) (rg_w h1) (rg_w h2) (rk_af hR hA113) (fun r T x y h => hP r T x y (pv_tr hA113 h (by decide) (fun v T e => e.trans ((congrArg (fun q9 => Z_X10_equal_p292 R q9 o0 (x1) (x2)) hs118).trans hF.symm)))))
    · skip
      have h119 : Rg 2 2 (mi (sg S) (R 643 o0) (4929 : Int32).toNatClampNeg) := rg_eq_l (rg_all (mi (sg S) (R 643 o0) (4929 : Int32).toNatClampNeg)) (⟨by decide, by decide⟩ : Rg 2 2 2) q105
      refine tt_aload_n (j := 0) dX10_equal_251 rfl ?_
      refine tt_sipush (v := 4851) dX10_equal_252 rfl ?_
      refine tt_sipush (v := 4928) dX10_equal_255 rfl ?_
      refine gt_Vv (As := [.int 4851, .int 4928]) dX10_equal_258 ca_X10_169 ⟨by decide, by decide⟩ h0 hA rfl (Nat.le_of_ble_eq_true rfl) (Nat.le_of_ble_eq_true rfl) (by decide) (cz_X10_copy hG (oa_af h0 hA) (rg_w (⟨by decide, by decide⟩ : Rg 4851 4851 4851)) (rg_w (⟨by decide, by decide⟩ : Rg 4928 4928 4928)) hR (fun _ _ _ _ h => h)) rfl (fun _ h => nomatch h) (fun S120 hx124 hG121 hB122 hA123 => ?_)
      obtain ⟨d125, hd126⟩ : ∃ q, Z_X10_copy R (sg S) o0 (4851) (4928) = q := ⟨_, rfl⟩
      have hq127 := (congrArg (fun q9 => Z_X10_copy R q9 o0 (4851) (4928)) (show sg S = (sg S) from rfl)).trans hd126
      have hs128 := hx124.trans hq127
      refine tt_goto (tgt := 292) dX10_equal_261 rfl ?_
      have hF : Z_X10_equal_p227 R (sg S) o0 x1 x2 = Z_X10_equal_p292 R d125 o0 (x1) (x2) := by
        subst hd126
        exact zl_X10_equal_p227_0 q103 q105
      exact tt_loc (ks := [0, 1, 2]) rfl (cz_X10_equal_p292 hG121 (oa_af h0 hA123) (rg_w h1) (rg_w h2) (rk_af hR hA123) (fun r T x y h => hP r T x y (pv_tr hA123 h (by decide) (fun v T e => e.trans ((congrArg (fun q9 => Z_X10_equal_p292 R q9 o0 (x1) (x2)) hs128).trans hF.symm)))))
def Z_X10_equal_p162 (R : Nat → Nat → Nat) (σ : SG) (o0 : Nat) (x1 : Int32) (x2 : Int32) : SG :=
  if (mi σ (R 643 o0) (4929 : Int32).toNatClampNeg) = 1 then
    if (mi σ (R 643 o0) (4928 : Int32).toNatClampNeg) = 2 then
      let d125 := Z_X10_copy R σ o0 (4850) (4929)
      Z_X10_equal_p227 R d125 o0 (x1) (x2)
    else
      let d115 := Z_X10_cut R σ o0 (4850) (4928) (1) ((mj σ (R 644 o0) (4929 : Int32).toNatClampNeg)) (1) ((mj σ (R 645 o0) (4929 : Int32).toNatClampNeg))
      Z_X10_equal_p227 R d115 o0 (x1) (x2)
  else
    Z_X10_equal_p227 R σ o0 (x1) (x2)
theorem zl_X10_equal_p162_0 {R : Nat → Nat → Nat} {σ : SG} {o0 : Nat} {x1 : Int32} {x2 : Int32} (h0 : (mi σ (R 643 o0) (4929 : Int32).toNatClampNeg) = 1) (h1 : (mi σ (R 643 o0) (4928 : Int32).toNatClampNeg) = 2) : Z_X10_equal_p162 R σ o0 x1 x2 = Z_X10_equal_p227 R (Z_X10_copy R σ o0 (4850) (4929)) o0 (x1) (x2) := by unfold Z_X10_equal_p162; exact Eq.trans (if_pos h0) (if_pos h1)
theorem zl_X10_equal_p162_1 {R : Nat → Nat → Nat} {σ : SG} {o0 : Nat} {x1 : Int32} {x2 : Int32} (h0 : (mi σ (R 643 o0) (4929 : Int32).toNatClampNeg) = 1) (h1 : ¬ (mi σ (R 643 o0) (4928 : Int32).toNatClampNeg) = 2) : Z_X10_equal_p162 R σ o0 x1 x2 = Z_X10_equal_p227 R (Z_X10_cut R σ o0 (4850) (4928) (1) ((mj σ (R 644 o0) (4929 : Int32).toNatClampNeg)) (1) ((mj σ (R 645 o0) (4929 : Int32).toNatClampNeg))) o0 (x1) (x2) := by unfold Z_X10_equal_p162; exact Eq.trans (if_pos h0) (if_neg h1)
theorem zl_X10_equal_p162_2 {R : Nat → Nat → Nat} {σ : SG} {o0 : Nat} {x1 : Int32} {x2 : Int32} (h0 : ¬ (mi σ (R 643 o0) (4929 : Int32).toNatClampNeg) = 1) : Z_X10_equal_p162 R σ o0 x1 x2 = Z_X10_equal_p227 R σ o0 (x1) (x2) := by unfold Z_X10_equal_p162; exact if_neg h0
set_option maxHeartbeats 40000000 in
theorem cz_X10_equal_p162 {xi : SX} {S : Hp} {E : List Nat} {kc nc : Nat} {P : Po} {o0 : Nat} {x1 : Int32} {x2 : Int32} {R : Nat → Nat → Nat} (hG : GI S E) (h0 : Oa S E 10 0 o0) (h1 : Rg (-1) 31 x1) (h2 : Rg (-1) 31 x2) (hR : RK S R) (hP : ∀ r T x y, PV E [676, 9989] S kc nc rV (fun v T => sg T = Z_X10_equal_p162 R (sg S) o0 x1 x2) [] r T x y → P r T x y) : TT xi M_X10_equal 162 [(0, .ref o0), (1, .int x1), (2, .int x2)] [] S kc nc P := by
  have hA : Af E [676, 9989] S S := af_rf
  refine tt_aload_n (j := 0) dX10_equal_162 rfl ?_
  have hr101 := rk_R (k := 643) hR h0 32 4940
  have ho102 := rk_O (k := 643) hG hR h0 32 4940
  refine gt_gR (id := 643) dX10_equal_163 fl_10_13 rfl rfl h0 hA hr101 ?_
  refine tt_sipush (v := 4929) dX10_equal_166 rfl ?_
  refine gx_iL (v := (mi (sg S) (R 643 o0) (4929 : Int32).toNatClampNeg)) dX10_equal_169 ho102 hA (rg_in (⟨by decide, by decide⟩ : Rg 4929 4929 4929)) (sg_i (a := (R 643 o0)) (i := (4929 : Int32).toNatClampNeg) (show sg S = (sg S) from rfl)) ?_
  refine tt_iconst (v := 1) dX10_equal_170 rfl ?_
  refine tt_icmp_ne (tgt := 227) dX10_equal_171 rfl (fun q103 => ?_) (fun q103 => ?_)
  · skip
    have hF : Z_X10_equal_p162 R (sg S) o0 x1 x2 = Z_X10_equal_p227 R (sg S) o0 (x1) (x2) := by
      exact zl_X10_equal_p162_2 q103
    exact tt_loc (ks := [0, 1, 2]) rfl (cz_X10_equal_p227 hG (oa_af h0 hA) (rg_w h1) (rg_w h2) hR (fun r T x y h => hP r T x y (pv_tr hA h (by decide) (fun v T e => e.trans ((congrArg (fun q9 => Z_X10_equal_p227 R q9 o0 (x1) (x2)) (show sg S = (sg S) from rfl)).trans hF.symm)))))
  · skip
    have h104 : Rg 1 1 (mi (sg S) (R 643 o0) (4929 : Int32).toNatClampNeg) := rg_eq_l (rg_all (mi (sg S) (R 643 o0) (4929 : Int32).toNatClampNeg)) (⟨by decide, by decide⟩ : Rg 1 1 1) q103
    refine tt_aload_n (j := 0) dX10_equal_174 rfl ?_
    refine gt_gR (id := 643) dX10_equal_175 fl_10_13 rfl rfl h0 hA hr101 ?_
    refine tt_sipush (v := 4928) dX10_equal_178 rfl ?_
    refine gx_iL (v := (mi (sg S) (R 643 o0) (4928 : Int32).toNatClampNeg)) dX10_equal_181 ho102 hA (rg_in (⟨by decide, by decide⟩ : Rg 4928 4928 4928)) (sg_i (a := (R 643 o0)) (i := (4928 : Int32).toNatClampNeg) (show sg S = (sg S) from rfl)) ?_
    refine tt_iconst (v := 2) dX10_equal_182 rfl ?_
    refine tt_icmp_ne (tgt := 199) dX10_equal_183 rfl (fun q105 => ?_) (fun q105 => ?_)
    · skip
      refine tt_aload_n (j := 0) dX10_equal_199 rfl ?_
      refine tt_sipush (v := 4850) dX10_equal_200 rfl ?_
      refine tt_sipush (v := 4928) dX10_equal_203 rfl ?_
      refine tt_iconst (v := 1) dX10_equal_206 rfl ?_
      refine tt_aload_n (j := 0) dX10_equal_207 rfl ?_
      have hr106 := rk_R (k := 644) hR h0 33 4940
      have ho107 := rk_O (k := 644) hG hR h0 33 4940
      refine gt_gR (id := 644) dX10_equal_208 fl_10_16 rfl rfl h0 hA hr106 ?_
      refine tt_sipush (v := 4929) dX10_equal_211 rfl ?_
      refine gt_lLv (v := (mj (sg S) (R 644 o0) (4929 : Int32).toNatClampNeg)) dX10_equal_214 ho107 hA (rg_in (⟨by decide, by decide⟩ : Rg 4929 4929 4929)) (sg_j (a := (R 644 o0)) (i := (4929 : Int32).toNatClampNeg) (show sg S = (sg S) from rfl)) ?_
      refine tt_iconst (v := 1) dX10_equal_215 rfl ?_
      refine tt_aload_n (j := 0) dX10_equal_216 rfl ?_
      have hr108 := rk_R (k := 645) hR h0 33 4940
      have ho109 := rk_O (k := 645) hG hR h0 33 4940
      refine gt_gR (id := 645) dX10_equal_217 fl_10_20 rfl rfl h0 hA hr108 ?_
      refine tt_sipush (v := 4929) dX10_equal_220 rfl ?_
      refine gt_lLv (v := (mj (sg S) (R 645 o0) (4929 : Int32).toNatClampNeg)) dX10_equal_223 ho109 hA (rg_in (⟨by decide, by decide⟩ : Rg 4929 4929 4929)) (sg_j (a := (R 645 o0)) (i := (4929 : Int32).toNatClampNeg) (show sg S = (sg S) from rfl)) ?_
      refine gt_Vv (As := [.int 4850, .int 4928, .int 1, .long (mj (sg S) (R 644 o0) (4929 : Int32).toNatClampNeg), .int 1, .long (mj (sg S) (R 645 o0) (4929 : Int32).toNatClampNeg)]) dX10_equal_224 ca_X10_263 ⟨by decide, by decide⟩ h0 hA rfl (Nat.le_of_ble_eq_true rfl) (Nat.le_of_ble_eq_true rfl) (by decide) (cz_X10_cut hG (oa_af h0 hA) (rg_w (⟨by decide, by decide⟩ : Rg 4850 4850 4850)) (rg_w (⟨by decide, by decide⟩ : Rg 4928 4928 4928)) (rg_w (⟨by decide, by decide⟩ : Rg 1 1 1)) (rg_w (⟨by decide, by decide⟩ : Rg 1 1 1)) hR (fun _ _ _ _ h => h)) rfl (fun _ h => nomatch h) (fun S110 hx114 hG111 hB112 hA113 => ?_)
      obtain ⟨d115, hd116⟩ : ∃ q, Z_X10_cut R (sg S) o0 (4850) (4928) (1) ((mj (sg S) (R 644 o0) (4929 : Int32).toNatClampNeg)) (1) ((mj (sg S) (R 645 o0) (4929 : Int32).toNatClampNeg)) = q := ⟨_, rfl⟩
      have hq117 := (congrArg (fun q9 => Z_X10_cut R q9 o0 (4850) (4928) (1) ((mj (sg S) (R 644 o0) (4929 : Int32).toNatClampNeg)) (1) ((mj (sg S) (R 645 o0) (4929 : Int32).toNatClampNeg))) (show sg S = (sg S) from rfl)).trans hd116
      have hs118 := hx114.trans hq117
      have hF : Z_X10_equal_p162 R (sg S) o0 x1 x2 = Z_X10_equal_p227 R d115 o0 (x1) (x2) := by
        subst hd116
        exact zl_X10_equal_p162_1 q103 q105
      exact tt_loc (ks := [0, 1, 2]) rfl (cz_X10_equal_p227 hG111 (oa_af h0 hA113) (rg_w h1) (rg_w h2) (rk_af hR hA113) (fun r T x y h => hP r T x y (pv_tr hA113 h (by decide) (fun v T e => e.trans ((congrArg (fun q9 => Z_X10_equal_p227 R q9 o0 (x1) (x2)) hs118).trans hF.symm)))))
    · skip
      have h119 : Rg 2 2 (mi (sg S) (R 643 o0) (4928 : Int32).toNatClampNeg) := rg_eq_l (rg_all (mi (sg S) (R 643 o0) (4928 : Int32).toNatClampNeg)) (⟨by decide, by decide⟩ : Rg 2 2 2) q105
      refine tt_aload_n (j := 0) dX10_equal_186 rfl ?_
      refine tt_sipush (v := 4850) dX10_equal_187 rfl ?_
      refine tt_sipush (v := 4929) dX10_equal_190 rfl ?_
      refine gt_Vv (As := [.int 4850, .int 4929]) dX10_equal_193 ca_X10_169 ⟨by decide, by decide⟩ h0 hA rfl (Nat.le_of_ble_eq_true rfl) (Nat.le_of_ble_eq_true rfl) (by decide) (cz_X10_copy hG (oa_af h0 hA) (rg_w (⟨by decide, by decide⟩ : Rg 4850 4850 4850)) (rg_w (⟨by decide, by decide⟩ : Rg 4929 4929 4929)) hR (fun _ _ _ _ h => h)) rfl (fun _ h => nomatch h) (fun S120 hx124 hG121 hB122 hA123 => ?_)
      obtain ⟨d125, hd126⟩ : ∃ q, Z_X10_copy R (sg S) o0 (4850) (4929) = q := ⟨_, rfl⟩
      have hq127 := (congrArg (fun q9 => Z_X10_copy R q9 o0 (4850) (4929)) (show sg S = (sg S) from rfl)).trans hd126
      have hs128 := hx124.trans hq127
      refine tt_goto (tgt := 227) dX10_equal_196 rfl ?_
      have hF : Z_X10_equal_p162 R (sg S) o0 x1 x2 = Z_X10_equal_p227 R d125 o0 (x1) (x2) := by
        subst hd126
        exact zl_X10_equal_p162_0 q103 q105
      exact tt_loc (ks := [0, 1, 2]) rfl (cz_X10_equal_p227 hG121 (oa_af h0 hA123) (rg_w h1) (rg_w h2) (rk_af hR hA123) (fun r T x y h => hP r T x y (pv_tr hA123 h (by decide) (fun v T e => e.trans ((congrArg (fun q9 => Z_X10_equal_p227 R q9 o0 (x1) (x2)) hs128).trans hF.symm)))))
def Z_X10_equal_p131 (R : Nat → Nat → Nat) (σ : SG) (o0 : Nat) (x1 : Int32) (x2 : Int32) : SG :=
  if (Z_X10_isOne R σ o0 (4928)) = 0 then
    Z_X10_equal_p292 R σ o0 (x1) (x2)
  else
    let d114 := Z_X10_only R σ o0 (4851) (4929) ((mj σ (R 644 o0) (4928 : Int32).toNatClampNeg))
    Z_X10_equal_p292 R d114 o0 (x1) (x2)
theorem zl_X10_equal_p131_0 {R : Nat → Nat → Nat} {σ : SG} {o0 : Nat} {x1 : Int32} {x2 : Int32} (h0 : (Z_X10_isOne R σ o0 (4928)) = 0) : Z_X10_equal_p131 R σ o0 x1 x2 = Z_X10_equal_p292 R σ o0 (x1) (x2) := by unfold Z_X10_equal_p131; exact if_pos h0
theorem zl_X10_equal_p131_1 {R : Nat → Nat → Nat} {σ : SG} {o0 : Nat} {x1 : Int32} {x2 : Int32} (h0 : ¬ (Z_X10_isOne R σ o0 (4928)) = 0) : Z_X10_equal_p131 R σ o0 x1 x2 = Z_X10_equal_p292 R (Z_X10_only R σ o0 (4851) (4929) ((mj σ (R 644 o0) (4928 : Int32).toNatClampNeg))) o0 (x1) (x2) := by unfold Z_X10_equal_p131; exact if_neg h0
set_option maxHeartbeats 40000000 in
theorem cz_X10_equal_p131 {xi : SX} {S : Hp} {E : List Nat} {kc nc : Nat} {P : Po} {o0 : Nat} {x1 : Int32} {x2 : Int32} {R : Nat → Nat → Nat} (hG : GI S E) (h0 : Oa S E 10 0 o0) (h1 : Rg (-1) 31 x1) (h2 : Rg (-1) 31 x2) (hR : RK S R) (hP : ∀ r T x y, PV E [676, 9989] S kc nc rV (fun v T => sg T = Z_X10_equal_p131 R (sg S) o0 x1 x2) [] r T x y → P r T x y) : TT xi M_X10_equal 131 [(0, .ref o0), (1, .int x1), (2, .int x2)] [] S kc nc P := by
  have hA : Af E [676, 9989] S S := af_rf
  refine tt_aload_n (j := 0) dX10_equal_131 rfl ?_
  refine tt_sipush (v := 4928) dX10_equal_132 rfl ?_
  refine gt_VIp (As := [.int 4928]) dX10_equal_135 ca_X10_162 ⟨by decide, by decide⟩ h0 hA rfl (Nat.le_of_ble_eq_true rfl) (Nat.le_of_ble_eq_true rfl) (by decide) (cz_X10_isOne hG (oa_af h0 hA) (rg_w (⟨by decide, by decide⟩ : Rg 4928 4928 4928)) hR (fun _ _ _ _ h => h)) rfl (fun _ h => nomatch h) (fun _ _ q => q.1) (fun x101 h102 hx103 => ?_)
  obtain rfl : Z_X10_isOne R (sg S) o0 (4928) = x101 := ((ei_w hx103.2).trans (congrArg (fun q9 => Z_X10_isOne R q9 o0 (4928)) (show sg S = (sg S) from rfl))).symm
  refine tt_if_eq (tgt := 292) dX10_equal_138 rfl (fun q104 => ?_) (fun q104 => ?_)
  · skip
    have h105 : Rg 0 0 (Z_X10_isOne R (sg S) o0 (4928)) := rg_eq_l h102 (⟨by decide, by decide⟩ : Rg 0 0 0) q104
    have hF : Z_X10_equal_p131 R (sg S) o0 x1 x2 = Z_X10_equal_p292 R (sg S) o0 (x1) (x2) := by
      exact zl_X10_equal_p131_0 q104
    exact tt_loc (ks := [0, 1, 2]) rfl (cz_X10_equal_p292 hG (oa_af h0 hA) (rg_w h1) (rg_w h2) hR (fun r T x y h => hP r T x y (pv_tr hA h (by decide) (fun v T e => e.trans ((congrArg (fun q9 => Z_X10_equal_p292 R q9 o0 (x1) (x2)) (show sg S = (sg S) from rfl)).trans hF.symm)))))
  · skip
    have h106 : Rg 1 1 (Z_X10_isOne R (sg S) o0 (4928)) := rg_ne_lo h102 (⟨by decide, by decide⟩ : Rg 0 0 0) q104
    refine tt_aload_n (j := 0) dX10_equal_141 rfl ?_
    refine tt_sipush (v := 4851) dX10_equal_142 rfl ?_
    refine tt_sipush (v := 4929) dX10_equal_145 rfl ?_
    refine tt_aload_n (j := 0) dX10_equal_148 rfl ?_
    have hr107 := rk_R (k := 644) hR h0 33 4940
    have ho108 := rk_O (k := 644) hG hR h0 33 4940
    refine gt_gR (id := 644) dX10_equal_149 fl_10_16 rfl rfl h0 hA hr107 ?_
    refine tt_sipush (v := 4928) dX10_equal_152 rfl ?_
    refine gt_lLv (v := (mj (sg S) (R 644 o0) (4928 : Int32).toNatClampNeg)) dX10_equal_155 ho108 hA (rg_in (⟨by decide, by decide⟩ : Rg 4928 4928 4928)) (sg_j (a := (R 644 o0)) (i := (4928 : Int32).toNatClampNeg) (show sg S = (sg S) from rfl)) ?_
    refine gt_Vv (As := [.int 4851, .int 4929, .long (mj (sg S) (R 644 o0) (4928 : Int32).toNatClampNeg)]) dX10_equal_156 ca_X10_260 ⟨by decide, by decide⟩ h0 hA rfl (Nat.le_of_ble_eq_true rfl) (Nat.le_of_ble_eq_true rfl) (by decide) (cz_X10_only hG (oa_af h0 hA) (rg_w (⟨by decide, by decide⟩ : Rg 4851 4851 4851)) (rg_w (⟨by decide, by decide⟩ : Rg 4929 4929 4929)) hR (fun _ _ _ _ h => h)) rfl (fun _ h => nomatch h) (fun S109 hx113 hG110 hB111 hA112 => ?_)
    obtain ⟨d114, hd115⟩ : ∃ q, Z_X10_only R (sg S) o0 (4851) (4929) ((mj (sg S) (R 644 o0) (4928 : Int32).toNatClampNeg)) = q := ⟨_, rfl⟩
    have hq116 := (congrArg (fun q9 => Z_X10_only R q9 o0 (4851) (4929) ((mj (sg S) (R 644 o0) (4928 : Int32).toNatClampNeg))) (show sg S = (sg S) from rfl)).trans hd115
    have hs117 := hx113.trans hq116
    refine tt_goto (tgt := 292) dX10_equal_159 rfl ?_
    have hF : Z_X10_equal_p131 R (sg S) o0 x1 x2 = Z_X10_equal_p292 R d114 o0 (x1) (x2) := by
      subst hd115
      exact zl_X10_equal_p131_1 q104
    exact tt_loc (ks := [0, 1, 2]) rfl (cz_X10_equal_p292 hG110 (oa_af h0 hA112) (rg_w h1) (rg_w h2) (rk_af hR hA112) (fun r T x y h => hP r T x y (pv_tr hA112 h (by decide) (fun v T e => e.trans ((congrArg (fun q9 => Z_X10_equal_p292 R q9 o0 (x1) (x2)) hs117).trans hF.symm)))))
def Z_X10_equal_p103 (R : Nat → Nat → Nat) (σ : SG) (o0 : Nat) (x1 : Int32) (x2 : Int32) : SG :=
  if (Z_X10_isOne R σ o0 (4929)) = 0 then
    Z_X10_equal_p131 R σ o0 (x1) (x2)
  else
    let d114 := Z_X10_only R σ o0 (4850) (4928) ((mj σ (R 644 o0) (4929 : Int32).toNatClampNeg))
    Z_X10_equal_p131 R d114 o0 (x1) (x2)
theorem zl_X10_equal_p103_0 {R : Nat → Nat → Nat} {σ : SG} {o0 : Nat} {x1 : Int32} {x2 : Int32} (h0 : (Z_X10_isOne R σ o0 (4929)) = 0) : Z_X10_equal_p103 R σ o0 x1 x2 = Z_X10_equal_p131 R σ o0 (x1) (x2) := by unfold Z_X10_equal_p103; exact if_pos h0
theorem zl_X10_equal_p103_1 {R : Nat → Nat → Nat} {σ : SG} {o0 : Nat} {x1 : Int32} {x2 : Int32} (h0 : ¬ (Z_X10_isOne R σ o0 (4929)) = 0) : Z_X10_equal_p103 R σ o0 x1 x2 = Z_X10_equal_p131 R (Z_X10_only R σ o0 (4850) (4928) ((mj σ (R 644 o0) (4929 : Int32).toNatClampNeg))) o0 (x1) (x2) := by unfold Z_X10_equal_p103; exact if_neg h0
set_option maxHeartbeats 40000000 in
theorem cz_X10_equal_p103 {xi : SX} {S : Hp} {E : List Nat} {kc nc : Nat} {P : Po} {o0 : Nat} {x1 : Int32} {x2 : Int32} {R : Nat → Nat → Nat} (hG : GI S E) (h0 : Oa S E 10 0 o0) (h1 : Rg (-1) 31 x1) (h2 : Rg (-1) 31 x2) (hR : RK S R) (hP : ∀ r T x y, PV E [676, 9989] S kc nc rV (fun v T => sg T = Z_X10_equal_p103 R (sg S) o0 x1 x2) [] r T x y → P r T x y) : TT xi M_X10_equal 103 [(0, .ref o0), (1, .int x1), (2, .int x2)] [] S kc nc P := by
  have hA : Af E [676, 9989] S S := af_rf
  refine tt_aload_n (j := 0) dX10_equal_103 rfl ?_
  refine tt_sipush (v := 4929) dX10_equal_104 rfl ?_
  refine gt_VIp (As := [.int 4929]) dX10_equal_107 ca_X10_162 ⟨by decide, by decide⟩ h0 hA rfl (Nat.le_of_ble_eq_true rfl) (Nat.le_of_ble_eq_true rfl) (by decide) (cz_X10_isOne hG (oa_af h0 hA) (rg_w (⟨by decide, by decide⟩ : Rg 4929 4929 4929)) hR (fun _ _ _ _ h => h)) rfl (fun _ h => nomatch h) (fun _ _ q => q.1) (fun x101 h102 hx103 => ?_)
  obtain rfl : Z_X10_isOne R (sg S) o0 (4929) = x101 := ((ei_w hx103.2).trans (congrArg (fun q9 => Z_X10_isOne R q9 o0 (4929)) (show sg S = (sg S) from rfl))).symm
  refine tt_if_eq (tgt := 131) dX10_equal_110 rfl (fun q104 => ?_) (fun q104 => ?_)
  · skip
    have h105 : Rg 0 0 (Z_X10_isOne R (sg S) o0 (4929)) := rg_eq_l h102 (⟨by decide, by decide⟩ : Rg 0 0 0) q104
    have hF : Z_X10_equal_p103 R (sg S) o0 x1 x2 = Z_X10_equal_p131 R (sg S) o0 (x1) (x2) := by
      exact zl_X10_equal_p103_0 q104
    exact tt_loc (ks := [0, 1, 2]) rfl (cz_X10_equal_p131 hG (oa_af h0 hA) (rg_w h1) (rg_w h2) hR (fun r T x y h => hP r T x y (pv_tr hA h (by decide) (fun v T e => e.trans ((congrArg (fun q9 => Z_X10_equal_p131 R q9 o0 (x1) (x2)) (show sg S = (sg S) from rfl)).trans hF.symm)))))
  · skip
    have h106 : Rg 1 1 (Z_X10_isOne R (sg S) o0 (4929)) := rg_ne_lo h102 (⟨by decide, by decide⟩ : Rg 0 0 0) q104
    refine tt_aload_n (j := 0) dX10_equal_113 rfl ?_
    refine tt_sipush (v := 4850) dX10_equal_114 rfl ?_
    refine tt_sipush (v := 4928) dX10_equal_117 rfl ?_
    refine tt_aload_n (j := 0) dX10_equal_120 rfl ?_
    have hr107 := rk_R (k := 644) hR h0 33 4940
    have ho108 := rk_O (k := 644) hG hR h0 33 4940
    refine gt_gR (id := 644) dX10_equal_121 fl_10_16 rfl rfl h0 hA hr107 ?_
    refine tt_sipush (v := 4929) dX10_equal_124 rfl ?_
    refine gt_lLv (v := (mj (sg S) (R 644 o0) (4929 : Int32).toNatClampNeg)) dX10_equal_127 ho108 hA (rg_in (⟨by decide, by decide⟩ : Rg 4929 4929 4929)) (sg_j (a := (R 644 o0)) (i := (4929 : Int32).toNatClampNeg) (show sg S = (sg S) from rfl)) ?_
    refine gt_Vv (As := [.int 4850, .int 4928, .long (mj (sg S) (R 644 o0) (4929 : Int32).toNatClampNeg)]) dX10_equal_128 ca_X10_260 ⟨by decide, by decide⟩ h0 hA rfl (Nat.le_of_ble_eq_true rfl) (Nat.le_of_ble_eq_true rfl) (by decide) (cz_X10_only hG (oa_af h0 hA) (rg_w (⟨by decide, by decide⟩ : Rg 4850 4850 4850)) (rg_w (⟨by decide, by decide⟩ : Rg 4928 4928 4928)) hR (fun _ _ _ _ h => h)) rfl (fun _ h => nomatch h) (fun S109 hx113 hG110 hB111 hA112 => ?_)
    obtain ⟨d114, hd115⟩ : ∃ q, Z_X10_only R (sg S) o0 (4850) (4928) ((mj (sg S) (R 644 o0) (4929 : Int32).toNatClampNeg)) = q := ⟨_, rfl⟩
    have hq116 := (congrArg (fun q9 => Z_X10_only R q9 o0 (4850) (4928) ((mj (sg S) (R 644 o0) (4929 : Int32).toNatClampNeg))) (show sg S = (sg S) from rfl)).trans hd115
    have hs117 := hx113.trans hq116
    have hF : Z_X10_equal_p103 R (sg S) o0 x1 x2 = Z_X10_equal_p131 R d114 o0 (x1) (x2) := by
      subst hd115
      exact zl_X10_equal_p103_1 q104
    exact tt_loc (ks := [0, 1, 2]) rfl (cz_X10_equal_p131 hG110 (oa_af h0 hA112) (rg_w h1) (rg_w h2) (rk_af hR hA112) (fun r T x y h => hP r T x y (pv_tr hA112 h (by decide) (fun v T e => e.trans ((congrArg (fun q9 => Z_X10_equal_p131 R q9 o0 (x1) (x2)) hs117).trans hF.symm)))))
def Z_X10_equal_p52 (R : Nat → Nat → Nat) (σ : SG) (o0 : Nat) (x1 : Int32) (x2 : Int32) : SG :=
  if (Z_X10_isOne R σ o0 (4928)) = 0 then
    Z_X10_equal_p292 R σ o0 (x1) (x2)
  else
    let d114 := Z_X10_without R σ o0 (4851) (4929) ((mj σ (R 644 o0) (4928 : Int32).toNatClampNeg))
    Z_X10_equal_p292 R d114 o0 (x1) (x2)
theorem zl_X10_equal_p52_0 {R : Nat → Nat → Nat} {σ : SG} {o0 : Nat} {x1 : Int32} {x2 : Int32} (h0 : (Z_X10_isOne R σ o0 (4928)) = 0) : Z_X10_equal_p52 R σ o0 x1 x2 = Z_X10_equal_p292 R σ o0 (x1) (x2) := by unfold Z_X10_equal_p52; exact if_pos h0
theorem zl_X10_equal_p52_1 {R : Nat → Nat → Nat} {σ : SG} {o0 : Nat} {x1 : Int32} {x2 : Int32} (h0 : ¬ (Z_X10_isOne R σ o0 (4928)) = 0) : Z_X10_equal_p52 R σ o0 x1 x2 = Z_X10_equal_p292 R (Z_X10_without R σ o0 (4851) (4929) ((mj σ (R 644 o0) (4928 : Int32).toNatClampNeg))) o0 (x1) (x2) := by unfold Z_X10_equal_p52; exact if_neg h0
set_option maxHeartbeats 40000000 in
theorem cz_X10_equal_p52 {xi : SX} {S : Hp} {E : List Nat} {kc nc : Nat} {P : Po} {o0 : Nat} {x1 : Int32} {x2 : Int32} {R : Nat → Nat → Nat} (hG : GI S E) (h0 : Oa S E 10 0 o0) (h1 : Rg (-1) 31 x1) (h2 : Rg (-1) 31 x2) (hR : RK S R) (hP : ∀ r T x y, PV E [676, 9989] S kc nc rV (fun v T => sg T = Z_X10_equal_p52 R (sg S) o0 x1 x2) [] r T x y → P r T x y) : TT xi M_X10_equal 52 [(0, .ref o0), (1, .int x1), (2, .int x2)] [] S kc nc P := by
  have hA : Af E [676, 9989] S S := af_rf
  refine tt_aload_n (j := 0) dX10_equal_52 rfl ?_
  refine tt_sipush (v := 4928) dX10_equal_53 rfl ?_
  refine gt_VIp (As := [.int 4928]) dX10_equal_56 ca_X10_162 ⟨by decide, by decide⟩ h0 hA rfl (Nat.le_of_ble_eq_true rfl) (Nat.le_of_ble_eq_true rfl) (by decide) (cz_X10_isOne hG (oa_af h0 hA) (rg_w (⟨by decide, by decide⟩ : Rg 4928 4928 4928)) hR (fun _ _ _ _ h => h)) rfl (fun _ h => nomatch h) (fun _ _ q => q.1) (fun x101 h102 hx103 => ?_)
  obtain rfl : Z_X10_isOne R (sg S) o0 (4928) = x101 := ((ei_w hx103.2).trans (congrArg (fun q9 => Z_X10_isOne R q9 o0 (4928)) (show sg S = (sg S) from rfl))).symm
  refine tt_if_eq (tgt := 292) dX10_equal_59 rfl (fun q104 => ?_) (fun q104 => ?_)
  · skip
    have h105 : Rg 0 0 (Z_X10_isOne R (sg S) o0 (4928)) := rg_eq_l h102 (⟨by decide, by decide⟩ : Rg 0 0 0) q104
    have hF : Z_X10_equal_p52 R (sg S) o0 x1 x2 = Z_X10_equal_p292 R (sg S) o0 (x1) (x2) := by
      exact zl_X10_equal_p52_0 q104
    exact tt_loc (ks := [0, 1, 2]) rfl (cz_X10_equal_p292 hG (oa_af h0 hA) (rg_w h1) (rg_w h2) hR (fun r T x y h => hP r T x y (pv_tr hA h (by decide) (fun v T e => e.trans ((congrArg (fun q9 => Z_X10_equal_p292 R q9 o0 (x1) (x2)) (show sg S = (sg S) from rfl)).trans hF.symm)))))
  · skip
    have h106 : Rg 1 1 (Z_X10_isOne R (sg S) o0 (4928)) := rg_ne_lo h102 (⟨by decide, by decide⟩ : Rg 0 0 0) q104
    refine tt_aload_n (j := 0) dX10_equal_62 rfl ?_
    refine tt_sipush (v := 4851) dX10_equal_63 rfl ?_
    refine tt_sipush (v := 4929) dX10_equal_66 rfl ?_
    refine tt_aload_n (j := 0) dX10_equal_69 rfl ?_
    have hr107 := rk_R (k := 644) hR h0 33 4940
    have ho108 := rk_O (k := 644) hG hR h0 33 4940
    refine gt_gR (id := 644) dX10_equal_70 fl_10_16 rfl rfl h0 hA hr107 ?_
    refine tt_sipush (v := 4928) dX10_equal_73 rfl ?_
    refine gt_lLv (v := (mj (sg S) (R 644 o0) (4928 : Int32).toNatClampNeg)) dX10_equal_76 ho108 hA (rg_in (⟨by decide, by decide⟩ : Rg 4928 4928 4928)) (sg_j (a := (R 644 o0)) (i := (4928 : Int32).toNatClampNeg) (show sg S = (sg S) from rfl)) ?_
    refine gt_Vv (As := [.int 4851, .int 4929, .long (mj (sg S) (R 644 o0) (4928 : Int32).toNatClampNeg)]) dX10_equal_77 ca_X10_256 ⟨by decide, by decide⟩ h0 hA rfl (Nat.le_of_ble_eq_true rfl) (Nat.le_of_ble_eq_true rfl) (by decide) (cz_X10_without hG (oa_af h0 hA) (rg_w (⟨by decide, by decide⟩ : Rg 4851 4851 4851)) (rg_w (⟨by decide, by decide⟩ : Rg 4929 4929 4929)) hR (fun _ _ _ _ h => h)) rfl (fun _ h => nomatch h) (fun S109 hx113 hG110 hB111 hA112 => ?_)
    obtain ⟨d114, hd115⟩ : ∃ q, Z_X10_without R (sg S) o0 (4851) (4929) ((mj (sg S) (R 644 o0) (4928 : Int32).toNatClampNeg)) = q := ⟨_, rfl⟩
    have hq116 := (congrArg (fun q9 => Z_X10_without R q9 o0 (4851) (4929) ((mj (sg S) (R 644 o0) (4928 : Int32).toNatClampNeg))) (show sg S = (sg S) from rfl)).trans hd115
    have hs117 := hx113.trans hq116
    refine tt_goto (tgt := 292) dX10_equal_80 rfl ?_
    have hF : Z_X10_equal_p52 R (sg S) o0 x1 x2 = Z_X10_equal_p292 R d114 o0 (x1) (x2) := by
      subst hd115
      exact zl_X10_equal_p52_1 q104
    exact tt_loc (ks := [0, 1, 2]) rfl (cz_X10_equal_p292 hG110 (oa_af h0 hA112) (rg_w h1) (rg_w h2) (rk_af hR hA112) (fun r T x y h => hP r T x y (pv_tr hA112 h (by decide) (fun v T e => e.trans ((congrArg (fun q9 => Z_X10_equal_p292 R q9 o0 (x1) (x2)) hs117).trans hF.symm)))))
def Z_X10_equal (R : Nat → Nat → Nat) (σ : SG) (o0 : Nat) (x1 : Int32) (x2 : Int32) (x3 : Int32) : SG :=
  let d106 := Z_X10_copy R σ o0 (4850) (4928)
  let d115 := Z_X10_copy R d106 o0 (4851) (4929)
  if x3 = 0 then
    if (Z_X10_isOne R d115 o0 (4929)) = 0 then
      Z_X10_equal_p52 R d115 o0 (x1) (x2)
    else
      let d147 := Z_X10_without R d115 o0 (4850) (4928) ((mj d115 (R 644 o0) (4929 : Int32).toNatClampNeg))
      Z_X10_equal_p52 R d147 o0 (x1) (x2)
  else
    if (Z_X10_isOne R d115 o0 (4929)) = 0 then
      if (Z_X10_isOne R d115 o0 (4928)) = 0 then
        Z_X10_equal_p162 R d115 o0 (x1) (x2)
      else
        Z_X10_equal_p103 R d115 o0 (x1) (x2)
    else
      Z_X10_equal_p103 R d115 o0 (x1) (x2)
theorem zl_X10_equal_0 {R : Nat → Nat → Nat} {σ : SG} {o0 : Nat} {x1 : Int32} {x2 : Int32} {x3 : Int32} (h0 : x3 = 0) (h1 : (Z_X10_isOne R (Z_X10_copy R (Z_X10_copy R σ o0 (4850) (4928)) o0 (4851) (4929)) o0 (4929)) = 0) : Z_X10_equal R σ o0 x1 x2 x3 = Z_X10_equal_p52 R (Z_X10_copy R (Z_X10_copy R σ o0 (4850) (4928)) o0 (4851) (4929)) o0 (x1) (x2) := by unfold Z_X10_equal; exact Eq.trans (if_pos h0) (if_pos h1)
theorem zl_X10_equal_1 {R : Nat → Nat → Nat} {σ : SG} {o0 : Nat} {x1 : Int32} {x2 : Int32} {x3 : Int32} (h0 : x3 = 0) (h1 : ¬ (Z_X10_isOne R (Z_X10_copy R (Z_X10_copy R σ o0 (4850) (4928)) o0 (4851) (4929)) o0 (4929)) = 0) : Z_X10_equal R σ o0 x1 x2 x3 = Z_X10_equal_p52 R (Z_X10_without R (Z_X10_copy R (Z_X10_copy R σ o0 (4850) (4928)) o0 (4851) (4929)) o0 (4850) (4928) ((mj (Z_X10_copy R (Z_X10_copy R σ o0 (4850) (4928)) o0 (4851) (4929)) (R 644 o0) (4929 : Int32).toNatClampNeg))) o0 (x1) (x2) := by unfold Z_X10_equal; exact Eq.trans (if_pos h0) (if_neg h1)
theorem zl_X10_equal_2 {R : Nat → Nat → Nat} {σ : SG} {o0 : Nat} {x1 : Int32} {x2 : Int32} {x3 : Int32} (h0 : ¬ x3 = 0) (h1 : (Z_X10_isOne R (Z_X10_copy R (Z_X10_copy R σ o0 (4850) (4928)) o0 (4851) (4929)) o0 (4929)) = 0) (h2 : (Z_X10_isOne R (Z_X10_copy R (Z_X10_copy R σ o0 (4850) (4928)) o0 (4851) (4929)) o0 (4928)) = 0) : Z_X10_equal R σ o0 x1 x2 x3 = Z_X10_equal_p162 R (Z_X10_copy R (Z_X10_copy R σ o0 (4850) (4928)) o0 (4851) (4929)) o0 (x1) (x2) := by unfold Z_X10_equal; exact Eq.trans (if_neg h0) (Eq.trans (if_pos h1) (if_pos h2))
theorem zl_X10_equal_3 {R : Nat → Nat → Nat} {σ : SG} {o0 : Nat} {x1 : Int32} {x2 : Int32} {x3 : Int32} (h0 : ¬ x3 = 0) (h1 : (Z_X10_isOne R (Z_X10_copy R (Z_X10_copy R σ o0 (4850) (4928)) o0 (4851) (4929)) o0 (4929)) = 0) (h2 : ¬ (Z_X10_isOne R (Z_X10_copy R (Z_X10_copy R σ o0 (4850) (4928)) o0 (4851) (4929)) o0 (4928)) = 0) : Z_X10_equal R σ o0 x1 x2 x3 = Z_X10_equal_p103 R (Z_X10_copy R (Z_X10_copy R σ o0 (4850) (4928)) o0 (4851) (4929)) o0 (x1) (x2) := by unfold Z_X10_equal; exact Eq.trans (if_neg h0) (Eq.trans (if_pos h1) (if_neg h2))
theorem zl_X10_equal_4 {R : Nat → Nat → Nat} {σ : SG} {o0 : Nat} {x1 : Int32} {x2 : Int32} {x3 : Int32} (h0 : ¬ x3 = 0) (h1 : ¬ (Z_X10_isOne R (Z_X10_copy R (Z_X10_copy R σ o0 (4850) (4928)) o0 (4851) (4929)) o0 (4929)) = 0) : Z_X10_equal R σ o0 x1 x2 x3 = Z_X10_equal_p103 R (Z_X10_copy R (Z_X10_copy R σ o0 (4850) (4928)) o0 (4851) (4929)) o0 (x1) (x2) := by unfold Z_X10_equal; exact Eq.trans (if_neg h0) (if_neg h1)
set_option maxHeartbeats 40000000 in
theorem cz_X10_equal {xi : SX} {S : Hp} {E : List Nat} {kc nc : Nat} {P : Po} {o0 : Nat} {x1 : Int32} {x2 : Int32} {x3 : Int32} {R : Nat → Nat → Nat} (hG : GI S E) (h0 : Oa S E 10 0 o0) (h1 : Rg (-1) 31 x1) (h2 : Rg (-1) 31 x2) (h3 : Rg 0 1 x3) (hR : RK S R) (hP : ∀ r T x y, PV E [676, 9989] S kc nc rV (fun v T => sg T = Z_X10_equal R (sg S) o0 x1 x2 x3) [] r T x y → P r T x y) : TT xi M_X10_equal 0 [(0, .ref o0), (1, .int x1), (2, .int x2), (3, .int x3)] [] S kc nc P := by
  have hA : Af E [676, 9989] S S := af_rf
  refine tt_aload_n (j := 0) dX10_equal_0 rfl ?_
  refine tt_sipush (v := 4850) dX10_equal_1 rfl ?_
  refine tt_sipush (v := 4928) dX10_equal_4 rfl ?_
  refine gt_Vv (As := [.int 4850, .int 4928]) dX10_equal_7 ca_X10_169 ⟨by decide, by decide⟩ h0 hA rfl (Nat.le_of_ble_eq_true rfl) (Nat.le_of_ble_eq_true rfl) (by decide) (cz_X10_copy hG (oa_af h0 hA) (rg_w (⟨by decide, by decide⟩ : Rg 4850 4850 4850)) (rg_w (⟨by decide, by decide⟩ : Rg 4928 4928 4928)) hR (fun _ _ _ _ h => h)) rfl (fun _ h => nomatch h) (fun S101 hx105 hG102 hB103 hA104 => ?_)
  obtain ⟨d106, hd107⟩ : ∃ q, Z_X10_copy R (sg S) o0 (4850) (4928) = q := ⟨_, rfl⟩
  have hq108 := (congrArg (fun q9 => Z_X10_copy R q9 o0 (4850) (4928)) (show sg S = (sg S) from rfl)).trans hd107
  have hs109 := hx105.trans hq108
  refine tt_aload_n (j := 0) dX10_equal_10 rfl ?_
  refine tt_sipush (v := 4851) dX10_equal_11 rfl ?_
  refine tt_sipush (v := 4929) dX10_equal_14 rfl ?_
  refine gt_Vv (As := [.int 4851, .int 4929]) dX10_equal_17 ca_X10_169 ⟨by decide, by decide⟩ h0 hA104 rfl (Nat.le_of_ble_eq_true rfl) (Nat.le_of_ble_eq_true rfl) (by decide) (cz_X10_copy hG102 (oa_af h0 hA104) (rg_w (⟨by decide, by decide⟩ : Rg 4851 4851 4851)) (rg_w (⟨by decide, by decide⟩ : Rg 4929 4929 4929)) (rk_af hR hA104) (fun _ _ _ _ h => h)) rfl (fun _ h => nomatch h) (fun S110 hx114 hG111 hB112 hA113 => ?_)
  obtain ⟨d115, hd116⟩ : ∃ q, Z_X10_copy R d106 o0 (4851) (4929) = q := ⟨_, rfl⟩
  have hq117 := (congrArg (fun q9 => Z_X10_copy R q9 o0 (4851) (4929)) hs109).trans hd116
  have hs118 := hx114.trans hq117
  refine tt_iload_n (j := 3) dX10_equal_20 rfl ?_
  refine tt_if_ne (tgt := 83) dX10_equal_21 rfl (fun q119 => ?_) (fun q119 => ?_)
  · skip
    have h120 : Rg 1 1 x3 := rg_ne_lo h3 (⟨by decide, by decide⟩ : Rg 0 0 0) q119
    refine tt_aload_n (j := 0) dX10_equal_83 rfl ?_
    refine tt_sipush (v := 4929) dX10_equal_84 rfl ?_
    refine gt_VIp (As := [.int 4929]) dX10_equal_87 ca_X10_162 ⟨by decide, by decide⟩ h0 hA113 rfl (Nat.le_of_ble_eq_true rfl) (Nat.le_of_ble_eq_true rfl) (by decide) (cz_X10_isOne hG111 (oa_af h0 hA113) (rg_w (⟨by decide, by decide⟩ : Rg 4929 4929 4929)) (rk_af hR hA113) (fun _ _ _ _ h => h)) rfl (fun _ h => nomatch h) (fun _ _ q => q.1) (fun x121 h122 hx123 => ?_)
    obtain rfl : Z_X10_isOne R d115 o0 (4929) = x121 := ((ei_w hx123.2).trans (congrArg (fun q9 => Z_X10_isOne R q9 o0 (4929)) hs118)).symm
    refine tt_if_ne (tgt := 103) dX10_equal_90 rfl (fun q124 => ?_) (fun q124 => ?_)
    · skip
      have h125 : Rg 1 1 (Z_X10_isOne R d115 o0 (4929)) := rg_ne_lo h122 (⟨by decide, by decide⟩ : Rg 0 0 0) q124
      have hF : Z_X10_equal R (sg S) o0 x1 x2 x3 = Z_X10_equal_p103 R d115 o0 (x1) (x2) := by
        subst hd116
        subst hd107
        exact zl_X10_equal_4 q119 q124
      exact tt_loc (ks := [0, 1, 2]) rfl (cz_X10_equal_p103 hG111 (oa_af h0 hA113) (rg_w h1) (rg_w h2) (rk_af hR hA113) (fun r T x y h => hP r T x y (pv_tr hA113 h (by decide) (fun v T e => e.trans ((congrArg (fun q9 => Z_X10_equal_p103 R q9 o0 (x1) (x2)) hs118).trans hF.symm)))))
    · skip
      have h126 : Rg 0 0 (Z_X10_isOne R d115 o0 (4929)) := rg_eq_l h122 (⟨by decide, by decide⟩ : Rg 0 0 0) q124
      refine tt_aload_n (j := 0) dX10_equal_93 rfl ?_
      refine tt_sipush (v := 4928) dX10_equal_94 rfl ?_
      refine gt_VIp (As := [.int 4928]) dX10_equal_97 ca_X10_162 ⟨by decide, by decide⟩ h0 hA113 rfl (Nat.le_of_ble_eq_true rfl) (Nat.le_of_ble_eq_true rfl) (by decide) (cz_X10_isOne hG111 (oa_af h0 hA113) (rg_w (⟨by decide, by decide⟩ : Rg 4928 4928 4928)) (rk_af hR hA113) (fun _ _ _ _ h => h)) rfl (fun _ h => nomatch h) (fun _ _ q => q.1) (fun x127 h128 hx129 => ?_)
      obtain rfl : Z_X10_isOne R d115 o0 (4928) = x127 := ((ei_w hx129.2).trans (congrArg (fun q9 => Z_X10_isOne R q9 o0 (4928)) hs118)).symm
      refine tt_if_eq (tgt := 162) dX10_equal_100 rfl (fun q130 => ?_) (fun q130 => ?_)
      · skip
        have h131 : Rg 0 0 (Z_X10_isOne R d115 o0 (4928)) := rg_eq_l h128 (⟨by decide, by decide⟩ : Rg 0 0 0) q130
        have hF : Z_X10_equal R (sg S) o0 x1 x2 x3 = Z_X10_equal_p162 R d115 o0 (x1) (x2) := by
          subst hd116
          subst hd107
          exact zl_X10_equal_2 q119 q124 q130
        exact tt_loc (ks := [0, 1, 2]) rfl (cz_X10_equal_p162 hG111 (oa_af h0 hA113) (rg_w h1) (rg_w h2) (rk_af hR hA113) (fun r T x y h => hP r T x y (pv_tr hA113 h (by decide) (fun v T e => e.trans ((congrArg (fun q9 => Z_X10_equal_p162 R q9 o0 (x1) (x2)) hs118).trans hF.symm)))))
      · skip
        have h132 : Rg 1 1 (Z_X10_isOne R d115 o0 (4928)) := rg_ne_lo h128 (⟨by decide, by decide⟩ : Rg 0 0 0) q130
        have hF : Z_X10_equal R (sg S) o0 x1 x2 x3 = Z_X10_equal_p103 R d115 o0 (x1) (x2) := by
          subst hd116
          subst hd107
          exact zl_X10_equal_3 q119 q124 q130
        exact tt_loc (ks := [0, 1, 2]) rfl (cz_X10_equal_p103 hG111 (oa_af h0 hA113) (rg_w h1) (rg_w h2) (rk_af hR hA113) (fun r T x y h => hP r T x y (pv_tr hA113 h (by decide) (fun v T e => e.trans ((congrArg (fun q9 => Z_X10_equal_p103 R q9 o0 (x1) (x2)) hs118).trans hF.symm)))))
  · skip
    have h133 : Rg 0 0 x3 := rg_eq_l h3 (⟨by decide, by decide⟩ : Rg 0 0 0) q119
    refine tt_aload_n (j := 0) dX10_equal_24 rfl ?_
    refine tt_sipush (v := 4929) dX10_equal_25 rfl ?_
    refine gt_VIp (As := [.int 4929]) dX10_equal_28 ca_X10_162 ⟨by decide, by decide⟩ h0 hA113 rfl (Nat.le_of_ble_eq_true rfl) (Nat.le_of_ble_eq_true rfl) (by decide) (cz_X10_isOne hG111 (oa_af h0 hA113) (rg_w (⟨by decide, by decide⟩ : Rg 4929 4929 4929)) (rk_af hR hA113) (fun _ _ _ _ h => h)) rfl (fun _ h => nomatch h) (fun _ _ q => q.1) (fun x134 h135 hx136 => ?_)
    obtain rfl : Z_X10_isOne R d115 o0 (4929) = x134 := ((ei_w hx136.2).trans (congrArg (fun q9 => Z_X10_isOne R q9 o0 (4929)) hs118)).symm
    refine tt_if_eq (tgt := 52) dX10_equal_31 rfl (fun q137 => ?_) (fun q137 => ?_)
    · skip
      have h138 : Rg 0 0 (Z_X10_isOne R d115 o0 (4929)) := rg_eq_l h135 (⟨by decide, by decide⟩ : Rg 0 0 0) q137
      have hF : Z_X10_equal R (sg S) o0 x1 x2 x3 = Z_X10_equal_p52 R d115 o0 (x1) (x2) := by
        subst hd116
        subst hd107
        exact zl_X10_equal_0 q119 q137
      exact tt_loc (ks := [0, 1, 2]) rfl (cz_X10_equal_p52 hG111 (oa_af h0 hA113) (rg_w h1) (rg_w h2) (rk_af hR hA113) (fun r T x y h => hP r T x y (pv_tr hA113 h (by decide) (fun v T e => e.trans ((congrArg (fun q9 => Z_X10_equal_p52 R q9 o0 (x1) (x2)) hs118).trans hF.symm)))))
    · skip
      have h139 : Rg 1 1 (Z_X10_isOne R d115 o0 (4929)) := rg_ne_lo h135 (⟨by decide, by decide⟩ : Rg 0 0 0) q137
      refine tt_aload_n (j := 0) dX10_equal_34 rfl ?_
      refine tt_sipush (v := 4850) dX10_equal_35 rfl ?_
      refine tt_sipush (v := 4928) dX10_equal_38 rfl ?_
      refine tt_aload_n (j := 0) dX10_equal_41 rfl ?_
      have hr140 := rk_R (k := 644) hR h0 33 4940
      have ho141 := rk_O (k := 644) hG hR h0 33 4940
      refine gt_gR (id := 644) dX10_equal_42 fl_10_16 rfl rfl h0 hA113 hr140 ?_
      refine tt_sipush (v := 4929) dX10_equal_45 rfl ?_
      refine gt_lLv (v := (mj d115 (R 644 o0) (4929 : Int32).toNatClampNeg)) dX10_equal_48 ho141 hA113 (rg_in (⟨by decide, by decide⟩ : Rg 4929 4929 4929)) (sg_j (a := (R 644 o0)) (i := (4929 : Int32).toNatClampNeg) hs118) ?_
      refine gt_Vv (As := [.int 4850, .int 4928, .long (mj d115 (R 644 o0) (4929 : Int32).toNatClampNeg)]) dX10_equal_49 ca_X10_256 ⟨by decide, by decide⟩ h0 hA113 rfl (Nat.le_of_ble_eq_true rfl) (Nat.le_of_ble_eq_true rfl) (by decide) (cz_X10_without hG111 (oa_af h0 hA113) (rg_w (⟨by decide, by decide⟩ : Rg 4850 4850 4850)) (rg_w (⟨by decide, by decide⟩ : Rg 4928 4928 4928)) (rk_af hR hA113) (fun _ _ _ _ h => h)) rfl (fun _ h => nomatch h) (fun S142 hx146 hG143 hB144 hA145 => ?_)
      obtain ⟨d147, hd148⟩ : ∃ q, Z_X10_without R d115 o0 (4850) (4928) ((mj d115 (R 644 o0) (4929 : Int32).toNatClampNeg)) = q := ⟨_, rfl⟩
      have hq149 := (congrArg (fun q9 => Z_X10_without R q9 o0 (4850) (4928) ((mj d115 (R 644 o0) (4929 : Int32).toNatClampNeg))) hs118).trans hd148
      have hs150 := hx146.trans hq149
      have hF : Z_X10_equal R (sg S) o0 x1 x2 x3 = Z_X10_equal_p52 R d147 o0 (x1) (x2) := by
        subst hd148
        subst hd116
        subst hd107
        exact zl_X10_equal_1 q119 q137
      exact tt_loc (ks := [0, 1, 2]) rfl (cz_X10_equal_p52 hG143 (oa_af h0 hA145) (rg_w h1) (rg_w h2) (rk_af hR hA145) (fun r T x y h => hP r T x y (pv_tr hA145 h (by decide) (fun v T e => e.trans ((congrArg (fun q9 => Z_X10_equal_p52 R q9 o0 (x1) (x2)) hs150).trans hF.symm)))))
def Z_X10_below_p126 (R : Nat → Nat → Nat) (σ : SG) (o0 : Nat) (x1 : Int32) (x2 : Int32) (x3 : Int32) : SG :=
  if x3 = 0 then
    let d108 := Z_X10_lay R σ o0 (x1) (4850)
    let d117 := Z_X10_lay R d108 o0 (x2) (4851)
    d117
  else
    let d127 := Z_X10_lay R σ o0 (x1) (4851)
    let d136 := Z_X10_lay R d127 o0 (x2) (4850)
    d136
theorem zl_X10_below_p126_0 {R : Nat → Nat → Nat} {σ : SG} {o0 : Nat} {x1 : Int32} {x2 : Int32} {x3 : Int32} (h0 : x3 = 0) : Z_X10_below_p126 R σ o0 x1 x2 x3 = (Z_X10_lay R (Z_X10_lay R σ o0 (x1) (4850)) o0 (x2) (4851)) := by unfold Z_X10_below_p126; exact if_pos h0
theorem zl_X10_below_p126_1 {R : Nat → Nat → Nat} {σ : SG} {o0 : Nat} {x1 : Int32} {x2 : Int32} {x3 : Int32} (h0 : ¬ x3 = 0) : Z_X10_below_p126 R σ o0 x1 x2 x3 = (Z_X10_lay R (Z_X10_lay R σ o0 (x1) (4851)) o0 (x2) (4850)) := by unfold Z_X10_below_p126; exact if_neg h0
set_option maxHeartbeats 40000000 in
theorem cz_X10_below_p126 {xi : SX} {S : Hp} {E : List Nat} {kc nc : Nat} {P : Po} {o0 : Nat} {x1 : Int32} {x2 : Int32} {x3 : Int32} {R : Nat → Nat → Nat} (hG : GI S E) (h0 : Oa S E 10 0 o0) (h1 : Rg (-1) 31 x1) (h2 : Rg (-1) 31 x2) (h3 : Rg 0 1 x3) (hR : RK S R) (hP : ∀ r T x y, PV E [676, 9989] S kc nc rV (fun v T => sg T = Z_X10_below_p126 R (sg S) o0 x1 x2 x3) [] r T x y → P r T x y) : TT xi M_X10_below 126 [(0, .ref o0), (1, .int x1), (2, .int x2), (3, .int x3)] [] S kc nc P := by
  have hA : Af E [676, 9989] S S := af_rf
  refine tt_aload_n (j := 0) dX10_below_126 rfl ?_
  refine tt_iload_n (j := 1) dX10_below_127 rfl ?_
  refine tt_iload_n (j := 3) dX10_below_128 rfl ?_
  refine tt_if_eq (tgt := 138) dX10_below_129 rfl (fun q101 => ?_) (fun q101 => ?_)
  · skip
    have h102 : Rg 0 0 x3 := rg_eq_l h3 (⟨by decide, by decide⟩ : Rg 0 0 0) q101
    refine tt_sipush (v := 4850) dX10_below_138 rfl ?_
    refine gt_Vv (As := [.int x1, .int 4850]) dX10_below_141 ca_X10_267 ⟨by decide, by decide⟩ h0 hA rfl (Nat.le_of_ble_eq_true rfl) (Nat.le_of_ble_eq_true rfl) (by decide) (cz_X10_lay hG (oa_af h0 hA) (rg_w h1) (rg_w (⟨by decide, by decide⟩ : Rg 4850 4850 4850)) hR (fun _ _ _ _ h => h)) rfl (fun _ h => nomatch h) (fun S103 hx107 hG104 hB105 hA106 => ?_)
    obtain ⟨d108, hd109⟩ : ∃ q, Z_X10_lay R (sg S) o0 (x1) (4850) = q := ⟨_, rfl⟩
    have hq110 := (congrArg (fun q9 => Z_X10_lay R q9 o0 (x1) (4850)) (show sg S = (sg S) from rfl)).trans hd109
    have hs111 := hx107.trans hq110
    refine tt_aload_n (j := 0) dX10_below_144 rfl ?_
    refine tt_iload_n (j := 2) dX10_below_145 rfl ?_
    refine tt_iload_n (j := 3) dX10_below_146 rfl ?_
    refine tt_if_eq (tgt := 156) dX10_below_147 rfl (fun _ => ?_) (fun q => absurd q101 q)
    refine tt_sipush (v := 4851) dX10_below_156 rfl ?_
    refine gt_Vv (As := [.int x2, .int 4851]) dX10_below_159 ca_X10_267 ⟨by decide, by decide⟩ h0 hA106 rfl (Nat.le_of_ble_eq_true rfl) (Nat.le_of_ble_eq_true rfl) (by decide) (cz_X10_lay hG104 (oa_af h0 hA106) (rg_w h2) (rg_w (⟨by decide, by decide⟩ : Rg 4851 4851 4851)) (rk_af hR hA106) (fun _ _ _ _ h => h)) rfl (fun _ h => nomatch h) (fun S112 hx116 hG113 hB114 hA115 => ?_)
    obtain ⟨d117, hd118⟩ : ∃ q, Z_X10_lay R d108 o0 (x2) (4851) = q := ⟨_, rfl⟩
    have hq119 := (congrArg (fun q9 => Z_X10_lay R q9 o0 (x2) (4851)) hs111).trans hd118
    have hs120 := hx116.trans hq119
    have hF : Z_X10_below_p126 R (sg S) o0 x1 x2 x3 = d117 := by
      subst hd118
      subst hd109
      exact zl_X10_below_p126_0 q101
    exact tt_vreturn dX10_below_162 rfl (hP _ _ _ _ ⟨hG113, hA115, Or.inl ⟨_, rfl, rfl, Eq.trans hs120 hF.symm, rfl, rfl⟩⟩)
  · skip
    have h121 : Rg 1 1 x3 := rg_ne_lo h3 (⟨by decide, by decide⟩ : Rg 0 0 0) q101
    refine tt_sipush (v := 4851) dX10_below_132 rfl ?_
    refine tt_goto (tgt := 141) dX10_below_135 rfl ?_
    refine gt_Vv (As := [.int x1, .int 4851]) dX10_below_141 ca_X10_267 ⟨by decide, by decide⟩ h0 hA rfl (Nat.le_of_ble_eq_true rfl) (Nat.le_of_ble_eq_true rfl) (by decide) (cz_X10_lay hG (oa_af h0 hA) (rg_w h1) (rg_w (⟨by decide, by decide⟩ : Rg 4851 4851 4851)) hR (fun _ _ _ _ h => h)) rfl (fun _ h => nomatch h) (fun S122 hx126 hG123 hB124 hA125 => ?_)
    obtain ⟨d127, hd128⟩ : ∃ q, Z_X10_lay R (sg S) o0 (x1) (4851) = q := ⟨_, rfl⟩
    have hq129 := (congrArg (fun q9 => Z_X10_lay R q9 o0 (x1) (4851)) (show sg S = (sg S) from rfl)).trans hd128
    have hs130 := hx126.trans hq129
    refine tt_aload_n (j := 0) dX10_below_144 rfl ?_
    refine tt_iload_n (j := 2) dX10_below_145 rfl ?_
    refine tt_iload_n (j := 3) dX10_below_146 rfl ?_
    refine tt_if_eq (tgt := 156) dX10_below_147 rfl (fun q => absurd q q101) (fun _ => ?_)
    refine tt_sipush (v := 4850) dX10_below_150 rfl ?_
    refine tt_goto (tgt := 159) dX10_below_153 rfl ?_
    refine gt_Vv (As := [.int x2, .int 4850]) dX10_below_159 ca_X10_267 ⟨by decide, by decide⟩ h0 hA125 rfl (Nat.le_of_ble_eq_true rfl) (Nat.le_of_ble_eq_true rfl) (by decide) (cz_X10_lay hG123 (oa_af h0 hA125) (rg_w h2) (rg_w (⟨by decide, by decide⟩ : Rg 4850 4850 4850)) (rk_af hR hA125) (fun _ _ _ _ h => h)) rfl (fun _ h => nomatch h) (fun S131 hx135 hG132 hB133 hA134 => ?_)
    obtain ⟨d136, hd137⟩ : ∃ q, Z_X10_lay R d127 o0 (x2) (4850) = q := ⟨_, rfl⟩
    have hq138 := (congrArg (fun q9 => Z_X10_lay R q9 o0 (x2) (4850)) hs130).trans hd137
    have hs139 := hx135.trans hq138
    have hF : Z_X10_below_p126 R (sg S) o0 x1 x2 x3 = d136 := by
      subst hd137
      subst hd128
      exact zl_X10_below_p126_1 q101
    exact tt_vreturn dX10_below_162 rfl (hP _ _ _ _ ⟨hG132, hA134, Or.inl ⟨_, rfl, rfl, Eq.trans hs139 hF.symm, rfl, rfl⟩⟩)
def Z_X10_below_p93 (R : Nat → Nat → Nat) (σ : SG) (o0 : Nat) (x1 : Int32) (x2 : Int32) (x3 : Int32) (x5 : Int32) (x6 : Int32) (y7 : Int64) : SG :=
  if (mi σ (R 643 o0) (x5 : Int32).toNatClampNeg) = 1 then
    let d112 := Z_X10_cut R σ o0 (4851) (x6) (1) (((mj σ (R 644 o0) (x5 : Int32).toNatClampNeg) + y7)) (0) (0)
    Z_X10_below_p126 R d112 o0 (x1) (x2) (x3)
  else
    Z_X10_below_p126 R σ o0 (x1) (x2) (x3)
theorem zl_X10_below_p93_0 {R : Nat → Nat → Nat} {σ : SG} {o0 : Nat} {x1 : Int32} {x2 : Int32} {x3 : Int32} {x5 : Int32} {x6 : Int32} {y7 : Int64} (h0 : (mi σ (R 643 o0) (x5 : Int32).toNatClampNeg) = 1) : Z_X10_below_p93 R σ o0 x1 x2 x3 x5 x6 y7 = Z_X10_below_p126 R (Z_X10_cut R σ o0 (4851) (x6) (1) (((mj σ (R 644 o0) (x5 : Int32).toNatClampNeg) + y7)) (0) (0)) o0 (x1) (x2) (x3) := by unfold Z_X10_below_p93; exact if_pos h0
theorem zl_X10_below_p93_1 {R : Nat → Nat → Nat} {σ : SG} {o0 : Nat} {x1 : Int32} {x2 : Int32} {x3 : Int32} {x5 : Int32} {x6 : Int32} {y7 : Int64} (h0 : ¬ (mi σ (R 643 o0) (x5 : Int32).toNatClampNeg) = 1) : Z_X10_below_p93 R σ o0 x1 x2 x3 x5 x6 y7 = Z_X10_below_p126 R σ o0 (x1) (x2) (x3) := by unfold Z_X10_below_p93; exact if_neg h0
set_option maxHeartbeats 40000000 in
theorem cz_X10_below_p93 {xi : SX} {S : Hp} {E : List Nat} {kc nc : Nat} {P : Po} {o0 : Nat} {x1 : Int32} {x2 : Int32} {x3 : Int32} {x5 : Int32} {x6 : Int32} {y7 : Int64} {R : Nat → Nat → Nat} (hG : GI S E) (h0 : Oa S E 10 0 o0) (h1 : Rg (-1) 31 x1) (h2 : Rg (-1) 31 x2) (h3 : Rg 0 1 x3) (h5 : Rg 4928 4929 x5) (h6 : Rg 4928 4929 x6) (hR : RK S R) (hP : ∀ r T x y, PV E [676, 9989] S kc nc rV (fun v T => sg T = Z_X10_below_p93 R (sg S) o0 x1 x2 x3 x5 x6 y7) [] r T x y → P r T x y) : TT xi M_X10_below 93 [(0, .ref o0), (1, .int x1), (2, .int x2), (3, .int x3), (5, .int x5), (6, .int x6), (7, .long y7)] [] S kc nc P := by
  have hA : Af E [676, 9989] S S := af_rf
  refine tt_aload_n (j := 0) dX10_below_93 rfl ?_
  have hr101 := rk_R (k := 643) hR h0 32 4940
  have ho102 := rk_O (k := 643) hG hR h0 32 4940
  refine gt_gR (id := 643) dX10_below_94 fl_10_13 rfl rfl h0 hA hr101 ?_
  refine tt_iload (j := 4) dX10_below_97 rfl ?_
  refine gx_iL (v := (mi (sg S) (R 643 o0) (x5 : Int32).toNatClampNeg)) dX10_below_99 ho102 hA (rg_in h5) (sg_i (a := (R 643 o0)) (i := (x5 : Int32).toNatClampNeg) (show sg S = (sg S) from rfl)) ?_
  refine tt_iconst (v := 1) dX10_below_100 rfl ?_
  refine tt_icmp_ne (tgt := 126) dX10_below_101 rfl (fun q103 => ?_) (fun q103 => ?_)
  · skip
    have hF : Z_X10_below_p93 R (sg S) o0 x1 x2 x3 x5 x6 y7 = Z_X10_below_p126 R (sg S) o0 (x1) (x2) (x3) := by
      exact zl_X10_below_p93_1 q103
    exact tt_loc (ks := [0, 1, 2, 3]) rfl (cz_X10_below_p126 hG (oa_af h0 hA) (rg_w h1) (rg_w h2) (rg_w h3) hR (fun r T x y h => hP r T x y (pv_tr hA h (by decide) (fun v T e => e.trans ((congrArg (fun q9 => Z_X10_below_p126 R q9 o0 (x1) (x2) (x3)) (show sg S = (sg S) from rfl)).trans hF.symm)))))
  · skip
    have h104 : Rg 1 1 (mi (sg S) (R 643 o0) (x5 : Int32).toNatClampNeg) := rg_eq_l (rg_all (mi (sg S) (R 643 o0) (x5 : Int32).toNatClampNeg)) (⟨by decide, by decide⟩ : Rg 1 1 1) q103
    refine tt_aload_n (j := 0) dX10_below_104 rfl ?_
    refine tt_sipush (v := 4851) dX10_below_105 rfl ?_
    refine tt_iload (j := 5) dX10_below_108 rfl ?_
    refine tt_iconst (v := 1) dX10_below_110 rfl ?_
    refine tt_aload_n (j := 0) dX10_below_111 rfl ?_
    have hr105 := rk_R (k := 644) hR h0 33 4940
    have ho106 := rk_O (k := 644) hG hR h0 33 4940
    refine gt_gR (id := 644) dX10_below_112 fl_10_16 rfl rfl h0 hA hr105 ?_
    refine tt_iload (j := 4) dX10_below_115 rfl ?_
    refine gt_lLv (v := (mj (sg S) (R 644 o0) (x5 : Int32).toNatClampNeg)) dX10_below_117 ho106 hA (rg_in h5) (sg_j (a := (R 644 o0)) (i := (x5 : Int32).toNatClampNeg) (show sg S = (sg S) from rfl)) ?_
    refine tt_lload (j := 6) dX10_below_118 rfl ?_
    refine tt_ladd dX10_below_120 ?_
    refine tt_iconst (v := 0) dX10_below_121 rfl ?_
    refine tt_lconst (v := 0) dX10_below_122 rfl ?_
    refine gt_Vv (As := [.int 4851, .int x6, .int 1, .long ((mj (sg S) (R 644 o0) (x5 : Int32).toNatClampNeg) + y7), .int 0, .long 0]) dX10_below_123 ca_X10_263 ⟨by decide, by decide⟩ h0 hA rfl (Nat.le_of_ble_eq_true rfl) (Nat.le_of_ble_eq_true rfl) (by decide) (cz_X10_cut hG (oa_af h0 hA) (rg_w (⟨by decide, by decide⟩ : Rg 4851 4851 4851)) (rg_w h6) (rg_w (⟨by decide, by decide⟩ : Rg 1 1 1)) (rg_w (⟨by decide, by decide⟩ : Rg 0 0 0)) hR (fun _ _ _ _ h => h)) rfl (fun _ h => nomatch h) (fun S107 hx111 hG108 hB109 hA110 => ?_)
    obtain ⟨d112, hd113⟩ : ∃ q, Z_X10_cut R (sg S) o0 (4851) (x6) (1) (((mj (sg S) (R 644 o0) (x5 : Int32).toNatClampNeg) + y7)) (0) (0) = q := ⟨_, rfl⟩
    have hq114 := (congrArg (fun q9 => Z_X10_cut R q9 o0 (4851) (x6) (1) (((mj (sg S) (R 644 o0) (x5 : Int32).toNatClampNeg) + y7)) (0) (0)) (show sg S = (sg S) from rfl)).trans hd113
    have hs115 := hx111.trans hq114
    have hF : Z_X10_below_p93 R (sg S) o0 x1 x2 x3 x5 x6 y7 = Z_X10_below_p126 R d112 o0 (x1) (x2) (x3) := by
      subst hd113
      exact zl_X10_below_p93_0 q103
    exact tt_loc (ks := [0, 1, 2, 3]) rfl (cz_X10_below_p126 hG108 (oa_af h0 hA110) (rg_w h1) (rg_w h2) (rg_w h3) (rk_af hR hA110) (fun r T x y h => hP r T x y (pv_tr hA110 h (by decide) (fun v T e => e.trans ((congrArg (fun q9 => Z_X10_below_p126 R q9 o0 (x1) (x2) (x3)) hs115).trans hF.symm)))))
def Z_X10_below_p42 (R : Nat → Nat → Nat) (σ : SG) (o0 : Nat) (x1 : Int32) (x2 : Int32) (x3 : Int32) (x5 : Int32) (x6 : Int32) (y7 : Int64) : SG :=
  let d106 := Z_X10_copy R σ o0 (4850) (x5)
  let d115 := Z_X10_copy R d106 o0 (4851) (x6)
  if (mi d115 (R 643 o0) (x6 : Int32).toNatClampNeg) = 1 then
    let d130 := Z_X10_cut R d115 o0 (4850) (x5) (0) (0) (1) (((mj d115 (R 645 o0) (x6 : Int32).toNatClampNeg) - y7))
    Z_X10_below_p93 R d130 o0 (x1) (x2) (x3) (x5) (x6) (y7)
  else
    Z_X10_below_p93 R d115 o0 (x1) (x2) (x3) (x5) (x6) (y7)
theorem zl_X10_below_p42_0 {R : Nat → Nat → Nat} {σ : SG} {o0 : Nat} {x1 : Int32} {x2 : Int32} {x3 : Int32} {x5 : Int32} {x6 : Int32} {y7 : Int64} (h0 : (mi (Z_X10_copy R (Z_X10_copy R σ o0 (4850) (x5)) o0 (4851) (x6)) (R 643 o0) (x6 : Int32).toNatClampNeg) = 1) : Z_X10_below_p42 R σ o0 x1 x2 x3 x5 x6 y7 = Z_X10_below_p93 R (Z_X10_cut R (Z_X10_copy R (Z_X10_copy R σ o0 (4850) (x5)) o0 (4851) (x6)) o0 (4850) (x5) (0) (0) (1) (((mj (Z_X10_copy R (Z_X10_copy R σ o0 (4850) (x5)) o0 (4851) (x6)) (R 645 o0) (x6 : Int32).toNatClampNeg) - y7))) o0 (x1) (x2) (x3) (x5) (x6) (y7) := by unfold Z_X10_below_p42; exact if_pos h0
theorem zl_X10_below_p42_1 {R : Nat → Nat → Nat} {σ : SG} {o0 : Nat} {x1 : Int32} {x2 : Int32} {x3 : Int32} {x5 : Int32} {x6 : Int32} {y7 : Int64} (h0 : ¬ (mi (Z_X10_copy R (Z_X10_copy R σ o0 (4850) (x5)) o0 (4851) (x6)) (R 643 o0) (x6 : Int32).toNatClampNeg) = 1) : Z_X10_below_p42 R σ o0 x1 x2 x3 x5 x6 y7 = Z_X10_below_p93 R (Z_X10_copy R (Z_X10_copy R σ o0 (4850) (x5)) o0 (4851) (x6)) o0 (x1) (x2) (x3) (x5) (x6) (y7) := by unfold Z_X10_below_p42; exact if_neg h0
set_option maxHeartbeats 40000000 in
theorem cz_X10_below_p42 {xi : SX} {S : Hp} {E : List Nat} {kc nc : Nat} {P : Po} {o0 : Nat} {x1 : Int32} {x2 : Int32} {x3 : Int32} {x5 : Int32} {x6 : Int32} {y7 : Int64} {R : Nat → Nat → Nat} (hG : GI S E) (h0 : Oa S E 10 0 o0) (h1 : Rg (-1) 31 x1) (h2 : Rg (-1) 31 x2) (h3 : Rg 0 1 x3) (h5 : Rg 4928 4929 x5) (h6 : Rg 4928 4929 x6) (hR : RK S R) (hP : ∀ r T x y, PV E [676, 9989] S kc nc rV (fun v T => sg T = Z_X10_below_p42 R (sg S) o0 x1 x2 x3 x5 x6 y7) [] r T x y → P r T x y) : TT xi M_X10_below 42 [(0, .ref o0), (1, .int x1), (2, .int x2), (3, .int x3), (5, .int x5), (6, .int x6), (7, .long y7)] [] S kc nc P := by
  have hA : Af E [676, 9989] S S := af_rf
  refine tt_aload_n (j := 0) dX10_below_42 rfl ?_
  refine tt_sipush (v := 4850) dX10_below_43 rfl ?_
  refine tt_iload (j := 4) dX10_below_46 rfl ?_
  refine gt_Vv (As := [.int 4850, .int x5]) dX10_below_48 ca_X10_169 ⟨by decide, by decide⟩ h0 hA rfl (Nat.le_of_ble_eq_true rfl) (Nat.le_of_ble_eq_true rfl) (by decide) (cz_X10_copy hG (oa_af h0 hA) (rg_w (⟨by decide, by decide⟩ : Rg 4850 4850 4850)) (rg_w h5) hR (fun _ _ _ _ h => h)) rfl (fun _ h => nomatch h) (fun S101 hx105 hG102 hB103 hA104 => ?_)
  obtain ⟨d106, hd107⟩ : ∃ q, Z_X10_copy R (sg S) o0 (4850) (x5) = q := ⟨_, rfl⟩
  have hq108 := (congrArg (fun q9 => Z_X10_copy R q9 o0 (4850) (x5)) (show sg S = (sg S) from rfl)).trans hd107
  have hs109 := hx105.trans hq108
  refine tt_aload_n (j := 0) dX10_below_51 rfl ?_
  refine tt_sipush (v := 4851) dX10_below_52 rfl ?_
  refine tt_iload (j := 5) dX10_below_55 rfl ?_
  refine gt_Vv (As := [.int 4851, .int x6]) dX10_below_57 ca_X10_169 ⟨by decide, by decide⟩ h0 hA104 rfl (Nat.le_of_ble_eq_true rfl) (Nat.le_of_ble_eq_true rfl) (by decide) (cz_X10_copy hG102 (oa_af h0 hA104) (rg_w (⟨by decide, by decide⟩ : Rg 4851 4851 4851)) (rg_w h6) (rk_af hR hA104) (fun _ _ _ _ h => h)) rfl (fun _ h => nomatch h) (fun S110 hx114 hG111 hB112 hA113 => ?_)
  obtain ⟨d115, hd116⟩ : ∃ q, Z_X10_copy R d106 o0 (4851) (x6) = q := ⟨_, rfl⟩
  have hq117 := (congrArg (fun q9 => Z_X10_copy R q9 o0 (4851) (x6)) hs109).trans hd116
  have hs118 := hx114.trans hq117
  refine tt_aload_n (j := 0) dX10_below_60 rfl ?_
  have hr119 := rk_R (k := 643) hR h0 32 4940
  have ho120 := rk_O (k := 643) hG hR h0 32 4940
  refine gt_gR (id := 643) dX10_below_61 fl_10_13 rfl rfl h0 hA113 hr119 ?_
  refine tt_iload (j := 5) dX10_below_64 rfl ?_
  refine gx_iL (v := (mi d115 (R 643 o0) (x6 : Int32).toNatClampNeg)) dX10_below_66 ho120 hA113 (rg_in h6) (sg_i (a := (R 643 o0)) (i := (x6 : Int32).toNatClampNeg) hs118) ?_
  refine tt_iconst (v := 1) dX10_below_67 rfl ?_
  refine tt_icmp_ne (tgt := 93) dX10_below_68 rfl (fun q121 => ?_) (fun q121 => ?_)
  · skip
    have hF : Z_X10_below_p42 R (sg S) o0 x1 x2 x3 x5 x6 y7 = Z_X10_below_p93 R d115 o0 (x1) (x2) (x3) (x5) (x6) (y7) := by
      subst hd116
      subst hd107
      exact zl_X10_below_p42_1 q121
    exact tt_loc (ks := [0, 1, 2, 3, 4, 5, 6]) rfl (cz_X10_below_p93 hG111 (oa_af h0 hA113) (rg_w h1) (rg_w h2) (rg_w h3) (rg_w h5) (rg_w h6) (rk_af hR hA113) (fun r T x y h => hP r T x y (pv_tr hA113 h (by decide) (fun v T e => e.trans ((congrArg (fun q9 => Z_X10_below_p93 R q9 o0 (x1) (x2) (x3) (x5) (x6) (y7)) hs118).trans hF.symm)))))
  · skip
    have h122 : Rg 1 1 (mi d115 (R 643 o0) (x6 : Int32).toNatClampNeg) := rg_eq_l (rg_all (mi d115 (R 643 o0) (x6 : Int32).toNatClampNeg)) (⟨by decide, by decide⟩ : Rg 1 1 1) q121
    refine tt_aload_n (j := 0) dX10_below_71 rfl ?_
    refine tt_sipush (v := 4850) dX10_below_72 rfl ?_
    refine tt_iload (j := 4) dX10_below_75 rfl ?_
    refine tt_iconst (v := 0) dX10_below_77 rfl ?_
    refine tt_lconst (v := 0) dX10_below_78 rfl ?_
    refine tt_iconst (v := 1) dX10_below_79 rfl ?_
    refine tt_aload_n (j := 0) dX10_below_80 rfl ?_
    have hr123 := rk_R (k := 645) hR h0 33 4940
    have ho124 := rk_O (k := 645) hG hR h0 33 4940
    refine gt_gR (id := 645) dX10_below_81 fl_10_20 rfl rfl h0 hA113 hr123 ?_
    refine tt_iload (j := 5) dX10_below_84 rfl ?_
    refine gt_lLv (v := (mj d115 (R 645 o0) (x6 : Int32).toNatClampNeg)) dX10_below_86 ho124 hA113 (rg_in h6) (sg_j (a := (R 645 o0)) (i := (x6 : Int32).toNatClampNeg) hs118) ?_
    refine tt_lload (j := 6) dX10_below_87 rfl ?_
    refine tt_lsub dX10_below_89 ?_
    refine gt_Vv (As := [.int 4850, .int x5, .int 0, .long 0, .int 1, .long ((mj d115 (R 645 o0) (x6 : Int32).toNatClampNeg) - y7)]) dX10_below_90 ca_X10_263 ⟨by decide, by decide⟩ h0 hA113 rfl (Nat.le_of_ble_eq_true rfl) (Nat.le_of_ble_eq_true rfl) (by decide) (cz_X10_cut hG111 (oa_af h0 hA113) (rg_w (⟨by decide, by decide⟩ : Rg 4850 4850 4850)) (rg_w h5) (rg_w (⟨by decide, by decide⟩ : Rg 0 0 0)) (rg_w (⟨by decide, by decide⟩ : Rg 1 1 1)) (rk_af hR hA113) (fun _ _ _ _ h => h)) rfl (fun _ h => nomatch h) (fun S125 hx129 hG126 hB127 hA128 => ?_)
    obtain ⟨d130, hd131⟩ : ∃ q, Z_X10_cut R d115 o0 (4850) (x5) (0) (0) (1) (((mj d115 (R 645 o0) (x6 : Int32).toNatClampNeg) - y7)) = q := ⟨_, rfl⟩
    have hq132 := (congrArg (fun q9 => Z_X10_cut R q9 o0 (4850) (x5) (0) (0) (1) (((mj d115 (R 645 o0) (x6 : Int32).toNatClampNeg) - y7))) hs118).trans hd131
    have hs133 := hx129.trans hq132
    have hF : Z_X10_below_p42 R (sg S) o0 x1 x2 x3 x5 x6 y7 = Z_X10_below_p93 R d130 o0 (x1) (x2) (x3) (x5) (x6) (y7) := by
      subst hd131
      subst hd116
      subst hd107
      exact zl_X10_below_p42_0 q121
    exact tt_loc (ks := [0, 1, 2, 3, 4, 5, 6]) rfl (cz_X10_below_p93 hG126 (oa_af h0 hA128) (rg_w h1) (rg_w h2) (rg_w h3) (rg_w h5) (rg_w h6) (rk_af hR hA128) (fun r T x y h => hP r T x y (pv_tr hA128 h (by decide) (fun v T e => e.trans ((congrArg (fun q9 => Z_X10_below_p93 R q9 o0 (x1) (x2) (x3) (x5) (x6) (y7)) hs133).trans hF.symm)))))
def Z_X10_below_p30 (R : Nat → Nat → Nat) (σ : SG) (o0 : Nat) (x1 : Int32) (x2 : Int32) (x3 : Int32) (x4 : Int32) (x5 : Int32) (x6 : Int32) : SG :=
  if x4 = 0 then
    Z_X10_below_p42 R σ o0 (x1) (x2) (x3) (x5) (x6) (0)
  else
    Z_X10_below_p42 R σ o0 (x1) (x2) (x3) (x5) (x6) (1)
theorem zl_X10_below_p30_0 {R : Nat → Nat → Nat} {σ : SG} {o0 : Nat} {x1 : Int32} {x2 : Int32} {x3 : Int32} {x4 : Int32} {x5 : Int32} {x6 : Int32} (h0 : x4 = 0) : Z_X10_below_p30 R σ o0 x1 x2 x3 x4 x5 x6 = Z_X10_below_p42 R σ o0 (x1) (x2) (x3) (x5) (x6) (0) := by unfold Z_X10_below_p30; exact if_pos h0
theorem zl_X10_below_p30_1 {R : Nat → Nat → Nat} {σ : SG} {o0 : Nat} {x1 : Int32} {x2 : Int32} {x3 : Int32} {x4 : Int32} {x5 : Int32} {x6 : Int32} (h0 : ¬ x4 = 0) : Z_X10_below_p30 R σ o0 x1 x2 x3 x4 x5 x6 = Z_X10_below_p42 R σ o0 (x1) (x2) (x3) (x5) (x6) (1) := by unfold Z_X10_below_p30; exact if_neg h0
set_option maxHeartbeats 40000000 in
theorem cz_X10_below_p30 {xi : SX} {S : Hp} {E : List Nat} {kc nc : Nat} {P : Po} {o0 : Nat} {x1 : Int32} {x2 : Int32} {x3 : Int32} {x4 : Int32} {x5 : Int32} {x6 : Int32} {R : Nat → Nat → Nat} (hG : GI S E) (h0 : Oa S E 10 0 o0) (h1 : Rg (-1) 31 x1) (h2 : Rg (-1) 31 x2) (h3 : Rg 0 1 x3) (h4 : Rg 0 1 x4) (h5 : Rg 4928 4929 x5) (h6 : Rg 4928 4929 x6) (hR : RK S R) (hP : ∀ r T x y, PV E [676, 9989] S kc nc rV (fun v T => sg T = Z_X10_below_p30 R (sg S) o0 x1 x2 x3 x4 x5 x6) [] r T x y → P r T x y) : TT xi M_X10_below 30 [(0, .ref o0), (1, .int x1), (2, .int x2), (3, .int x3), (4, .int x4), (5, .int x5), (6, .int x6)] [] S kc nc P := by
  have hA : Af E [676, 9989] S S := af_rf
  refine tt_iload (j := 4) dX10_below_30 rfl ?_
  refine tt_if_eq (tgt := 39) dX10_below_32 rfl (fun q101 => ?_) (fun q101 => ?_)
  · skip
    have h102 : Rg 0 0 x4 := rg_eq_l h4 (⟨by decide, by decide⟩ : Rg 0 0 0) q101
    refine tt_lconst (v := 0) dX10_below_39 rfl ?_
    refine tt_lstore (ks := [0, 1, 2, 3, 4, 5, 6, 7]) (L' := [(7, .long 0), (0, .ref o0), (1, .int x1), (2, .int x2), (3, .int x3), (4, .int x4), (5, .int x5), (6, .int x6)]) dX10_below_40 (by decide) rfl ?_
    have hF : Z_X10_below_p30 R (sg S) o0 x1 x2 x3 x4 x5 x6 = Z_X10_below_p42 R (sg S) o0 (x1) (x2) (x3) (x5) (x6) (0) := by
      exact zl_X10_below_p30_0 q101
    exact tt_loc (ks := [1, 2, 3, 4, 6, 7, 0]) rfl (cz_X10_below_p42 hG (oa_af h0 hA) (rg_w h1) (rg_w h2) (rg_w h3) (rg_w h5) (rg_w h6) hR (fun r T x y h => hP r T x y (pv_tr hA h (by decide) (fun v T e => e.trans ((congrArg (fun q9 => Z_X10_below_p42 R q9 o0 (x1) (x2) (x3) (x5) (x6) (0)) (show sg S = (sg S) from rfl)).trans hF.symm)))))
  · skip
    have h103 : Rg 1 1 x4 := rg_ne_lo h4 (⟨by decide, by decide⟩ : Rg 0 0 0) q101
    refine tt_lconst (v := 1) dX10_below_35 rfl ?_
    refine tt_goto (tgt := 40) dX10_below_36 rfl ?_
    refine tt_lstore (ks := [0, 1, 2, 3, 4, 5, 6, 7]) (L' := [(7, .long 1), (0, .ref o0), (1, .int x1), (2, .int x2), (3, .int x3), (4, .int x4), (5, .int x5), (6, .int x6)]) dX10_below_40 (by decide) rfl ?_
    have hF : Z_X10_below_p30 R (sg S) o0 x1 x2 x3 x4 x5 x6 = Z_X10_below_p42 R (sg S) o0 (x1) (x2) (x3) (x5) (x6) (1) := by
      exact zl_X10_below_p30_1 q101
    exact tt_loc (ks := [1, 2, 3, 4, 6, 7, 0]) rfl (cz_X10_below_p42 hG (oa_af h0 hA) (rg_w h1) (rg_w h2) (rg_w h3) (rg_w h5) (rg_w h6) hR (fun r T x y h => hP r T x y (pv_tr hA h (by decide) (fun v T e => e.trans ((congrArg (fun q9 => Z_X10_below_p42 R q9 o0 (x1) (x2) (x3) (x5) (x6) (1)) (show sg S = (sg S) from rfl)).trans hF.symm)))))
def Z_X10_below (R : Nat → Nat → Nat) (σ : SG) (o0 : Nat) (x1 : Int32) (x2 : Int32) (x3 : Int32) (x4 : Int32) : SG :=
  if x3 = 0 then
    Z_X10_below_p30 R σ o0 (x1) (x2) (x3) (x4) (4928) (4929)
  else
    Z_X10_below_p30 R σ o0 (x1) (x2) (x3) (x4) (4929) (4928)
theorem zl_X10_below_0 {R : Nat → Nat → Nat} {σ : SG} {o0 : Nat} {x1 : Int32} {x2 : Int32} {x3 : Int32} {x4 : Int32} (h0 : x3 = 0) : Z_X10_below R σ o0 x1 x2 x3 x4 = Z_X10_below_p30 R σ o0 (x1) (x2) (x3) (x4) (4928) (4929) := by unfold Z_X10_below; exact if_pos h0
theorem zl_X10_below_1 {R : Nat → Nat → Nat} {σ : SG} {o0 : Nat} {x1 : Int32} {x2 : Int32} {x3 : Int32} {x4 : Int32} (h0 : ¬ x3 = 0) : Z_X10_below R σ o0 x1 x2 x3 x4 = Z_X10_below_p30 R σ o0 (x1) (x2) (x3) (x4) (4929) (4928) := by unfold Z_X10_below; exact if_neg h0
set_option maxHeartbeats 40000000 in
theorem cz_X10_below {xi : SX} {S : Hp} {E : List Nat} {kc nc : Nat} {P : Po} {o0 : Nat} {x1 : Int32} {x2 : Int32} {x3 : Int32} {x4 : Int32} {R : Nat → Nat → Nat} (hG : GI S E) (h0 : Oa S E 10 0 o0) (h1 : Rg (-1) 31 x1) (h2 : Rg (-1) 31 x2) (h3 : Rg 0 1 x3) (h4 : Rg 0 1 x4) (hR : RK S R) (hP : ∀ r T x y, PV E [676, 9989] S kc nc rV (fun v T => sg T = Z_X10_below R (sg S) o0 x1 x2 x3 x4) [] r T x y → P r T x y) : TT xi M_X10_below 0 [(0, .ref o0), (1, .int x1), (2, .int x2), (3, .int x3), (4, .int x4)] [] S kc nc P := by
  have hA : Af E [676, 9989] S S := af_rf
  refine tt_iload_n (j := 3) dX10_below_0 rfl ?_
  refine tt_if_eq (tgt := 10) dX10_below_1 rfl (fun q101 => ?_) (fun q101 => ?_)
  · skip
    have h102 : Rg 0 0 x3 := rg_eq_l h3 (⟨by decide, by decide⟩ : Rg 0 0 0) q101
    refine tt_sipush (v := 4928) dX10_below_10 rfl ?_
    refine tt_istore (ks := [0, 1, 2, 3, 4, 5]) (L' := [(5, .int 4928), (0, .ref o0), (1, .int x1), (2, .int x2), (3, .int x3), (4, .int x4)]) dX10_below_13 (by decide) rfl ?_
    refine tt_iload_n (j := 4) dX10_below_15 rfl ?_
    refine tt_if_eq (tgt := 25) dX10_below_16 rfl (fun _ => ?_) (fun q => absurd q101 q)
    refine tt_sipush (v := 4929) dX10_below_25 rfl ?_
    refine tt_istore (ks := [0, 1, 2, 3, 4, 5, 6]) (L' := [(6, .int 4929), (5, .int 4928), (0, .ref o0), (1, .int x1), (2, .int x2), (3, .int x3), (4, .int x4)]) dX10_below_28 (by decide) rfl ?_
    have hF : Z_X10_below R (sg S) o0 x1 x2 x3 x4 = Z_X10_below_p30 R (sg S) o0 (x1) (x2) (x3) (x4) (4928) (4929) := by
      exact zl_X10_below_0 q101
    exact tt_loc (ks := [2, 3, 4, 5, 6, 1, 0]) rfl (cz_X10_below_p30 hG (oa_af h0 hA) (rg_w h1) (rg_w h2) (rg_w h102) (rg_w h4) (rg_w (⟨by decide, by decide⟩ : Rg 4928 4928 4928)) (rg_w (⟨by decide, by decide⟩ : Rg 4929 4929 4929)) hR (fun r T x y h => hP r T x y (pv_tr hA h (by decide) (fun v T e => e.trans ((congrArg (fun q9 => Z_X10_below_p30 R q9 o0 (x1) (x2) (x3) (x4) (4928) (4929)) (show sg S = (sg S) from rfl)).trans hF.symm)))))
  · skip
    have h103 : Rg 1 1 x3 := rg_ne_lo h3 (⟨by decide, by decide⟩ : Rg 0 0 0) q101
    refine tt_sipush (v := 4929) dX10_below_4 rfl ?_
    refine tt_goto (tgt := 13) dX10_below_7 rfl ?_
    refine tt_istore (ks := [0, 1, 2, 3, 4, 5]) (L' := [(5, .int 4929), (0, .ref o0), (1, .int x1), (2, .int x2), (3, .int x3), (4, .int x4)]) dX10_below_13 (by decide) rfl ?_
    refine tt_iload_n (j := 4) dX10_below_15 rfl ?_
    refine tt_if_eq (tgt := 25) dX10_below_16 rfl (fun q => absurd q q101) (fun _ => ?_)
    refine tt_sipush (v := 4928) dX10_below_19 rfl ?_
    refine tt_goto (tgt := 28) dX10_below_22 rfl ?_
    refine tt_istore (ks := [0, 1, 2, 3, 4, 5, 6]) (L' := [(6, .int 4928), (5, .int 4929), (0, .ref o0), (1, .int x1), (2, .int x2), (3, .int x3), (4, .int x4)]) dX10_below_28 (by decide) rfl ?_
    have hF : Z_X10_below R (sg S) o0 x1 x2 x3 x4 = Z_X10_below_p30 R (sg S) o0 (x1) (x2) (x3) (x4) (4929) (4928) := by
      exact zl_X10_below_1 q101
    exact tt_loc (ks := [2, 3, 4, 5, 6, 1, 0]) rfl (cz_X10_below_p30 hG (oa_af h0 hA) (rg_w h1) (rg_w h2) (rg_w h103) (rg_w h4) (rg_w (⟨by decide, by decide⟩ : Rg 4929 4929 4929)) (rg_w (⟨by decide, by decide⟩ : Rg 4928 4928 4928)) hR (fun r T x y h => hP r T x y (pv_tr hA h (by decide) (fun v T e => e.trans ((congrArg (fun q9 => Z_X10_below_p30 R q9 o0 (x1) (x2) (x3) (x4) (4929) (4928)) (show sg S = (sg S) from rfl)).trans hF.symm)))))
def Z_X10_lower_p192 (R : Nat → Nat → Nat) (σ : SG) (o0 : Nat) (x1 : Int32) (x2 : Int32) (x3 : Int32) : SG :=
  if x3 = 0 then
    let d108 := Z_X10_lay R σ o0 (x1) (4850)
    let d117 := Z_X10_lay R d108 o0 (x2) (4851)
    d117
  else
    let d127 := Z_X10_lay R σ o0 (x1) (4851)
    let d136 := Z_X10_lay R d127 o0 (x2) (4850)
    d136
theorem zl_X10_lower_p192_0 {R : Nat → Nat → Nat} {σ : SG} {o0 : Nat} {x1 : Int32} {x2 : Int32} {x3 : Int32} (h0 : x3 = 0) : Z_X10_lower_p192 R σ o0 x1 x2 x3 = (Z_X10_lay R (Z_X10_lay R σ o0 (x1) (4850)) o0 (x2) (4851)) := by unfold Z_X10_lower_p192; exact if_pos h0
theorem zl_X10_lower_p192_1 {R : Nat → Nat → Nat} {σ : SG} {o0 : Nat} {x1 : Int32} {x2 : Int32} {x3 : Int32} (h0 : ¬ x3 = 0) : Z_X10_lower_p192 R σ o0 x1 x2 x3 = (Z_X10_lay R (Z_X10_lay R σ o0 (x1) (4851)) o0 (x2) (4850)) := by unfold Z_X10_lower_p192; exact if_neg h0
set_option maxHeartbeats 40000000 in
theorem cz_X10_lower_p192 {xi : SX} {S : Hp} {E : List Nat} {kc nc : Nat} {P : Po} {o0 : Nat} {x1 : Int32} {x2 : Int32} {x3 : Int32} {R : Nat → Nat → Nat} (hG : GI S E) (h0 : Oa S E 10 0 o0) (h1 : Rg (-1) 31 x1) (h2 : Rg (-1) 31 x2) (h3 : Rg 0 1 x3) (hR : RK S R) (hP : ∀ r T x y, PV E [676, 9989] S kc nc rV (fun v T => sg T = Z_X10_lower_p192 R (sg S) o0 x1 x2 x3) [] r T x y → P r T x y) : TT xi M_X10_lower 192 [(0, .ref o0), (1, .int x1), (2, .int x2), (3, .int x3)] [] S kc nc P := by
  have hA : Af E [676, 9989] S S := af_rf
  refine tt_aload_n (j := 0) dX10_lower_192 rfl ?_
  refine tt_iload_n (j := 1) dX10_lower_193 rfl ?_
  refine tt_iload_n (j := 3) dX10_lower_194 rfl ?_
  refine tt_if_eq (tgt := 204) dX10_lower_195 rfl (fun q101 => ?_) (fun q101 => ?_)
  · skip
    have h102 : Rg 0 0 x3 := rg_eq_l h3 (⟨by decide, by decide⟩ : Rg 0 0 0) q101
    refine tt_sipush (v := 4850) dX10_lower_204 rfl ?_
    refine gt_Vv (As := [.int x1, .int 4850]) dX10_lower_207 ca_X10_267 ⟨by decide, by decide⟩ h0 hA rfl (Nat.le_of_ble_eq_true rfl) (Nat.le_of_ble_eq_true rfl) (by decide) (cz_X10_lay hG (oa_af h0 hA) (rg_w h1) (rg_w (⟨by decide, by decide⟩ : Rg 4850 4850 4850)) hR (fun _ _ _ _ h => h)) rfl (fun _ h => nomatch h) (fun S103 hx107 hG104 hB105 hA106 => ?_)
    obtain ⟨d108, hd109⟩ : ∃ q, Z_X10_lay R (sg S) o0 (x1) (4850) = q := ⟨_, rfl⟩
    have hq110 := (congrArg (fun q9 => Z_X10_lay R q9 o0 (x1) (4850)) (show sg S = (sg S) from rfl)).trans hd109
    have hs111 := hx107.trans hq110
    refine tt_aload_n (j := 0) dX10_lower_210 rfl ?_
    refine tt_iload_n (j := 2) dX10_lower_211 rfl ?_
    refine tt_iload_n (j := 3) dX10_lower_212 rfl ?_
    refine tt_if_eq (tgt := 222) dX10_lower_213 rfl (fun _ => ?_) (fun q => absurd q101 q)
    refine tt_sipush (v := 4851) dX10_lower_222 rfl ?_
    refine gt_Vv (As := [.int x2, .int 4851]) dX10_lower_225 ca_X10_267 ⟨by decide, by decide⟩ h0 hA106 rfl (Nat.le_of_ble_eq_true rfl) (Nat.le_of_ble_eq_true rfl) (by decide) (cz_X10_lay hG104 (oa_af h0 hA106) (rg_w h2) (rg_w (⟨by decide, by decide⟩ : Rg 4851 4851 4851)) (rk_af hR hA106) (fun _ _ _ _ h => h)) rfl (fun _ h => nomatch h) (fun S112 hx116 hG113 hB114 hA115 => ?_)
    obtain ⟨d117, hd118⟩ : ∃ q, Z_X10_lay R d108 o0 (x2) (4851) = q := ⟨_, rfl⟩
    have hq119 := (congrArg (fun q9 => Z_X10_lay R q9 o0 (x2) (4851)) hs111).trans hd118
    have hs120 := hx116.trans hq119
    have hF : Z_X10_lower_p192 R (sg S) o0 x1 x2 x3 = d117 := by
      subst hd118
      subst hd109
      exact zl_X10_lower_p192_0 q101
    exact tt_vreturn dX10_lower_228 rfl (hP _ _ _ _ ⟨hG113, hA115, Or.inl ⟨_, rfl, rfl, Eq.trans hs120 hF.symm, rfl, rfl⟩⟩)
  · skip
    have h121 : Rg 1 1 x3 := rg_ne_lo h3 (⟨by decide, by decide⟩ : Rg 0 0 0) q101
    refine tt_sipush (v := 4851) dX10_lower_198 rfl ?_
    refine tt_goto (tgt := 207) dX10_lower_201 rfl ?_
    refine gt_Vv (As := [.int x1, .int 4851]) dX10_lower_207 ca_X10_267 ⟨by decide, by decide⟩ h0 hA rfl (Nat.le_of_ble_eq_true rfl) (Nat.le_of_ble_eq_true rfl) (by decide) (cz_X10_lay hG (oa_af h0 hA) (rg_w h1) (rg_w (⟨by decide, by decide⟩ : Rg 4851 4851 4851)) hR (fun _ _ _ _ h => h)) rfl (fun _ h => nomatch h) (fun S122 hx126 hG123 hB124 hA125 => ?_)
    obtain ⟨d127, hd128⟩ : ∃ q, Z_X10_lay R (sg S) o0 (x1) (4851) = q := ⟨_, rfl⟩
    have hq129 := (congrArg (fun q9 => Z_X10_lay R q9 o0 (x1) (4851)) (show sg S = (sg S) from rfl)).trans hd128
    have hs130 := hx126.trans hq129
    refine tt_aload_n (j := 0) dX10_lower_210 rfl ?_
    refine tt_iload_n (j := 2) dX10_lower_211 rfl ?_
    refine tt_iload_n (j := 3) dX10_lower_212 rfl ?_
    refine tt_if_eq (tgt := 222) dX10_lower_213 rfl (fun q => absurd q q101) (fun _ => ?_)
    refine tt_sipush (v := 4850) dX10_lower_216 rfl ?_
    refine tt_goto (tgt := 225) dX10_lower_219 rfl ?_
    refine gt_Vv (As := [.int x2, .int 4850]) dX10_lower_225 ca_X10_267 ⟨by decide, by decide⟩ h0 hA125 rfl (Nat.le_of_ble_eq_true rfl) (Nat.le_of_ble_eq_true rfl) (by decide) (cz_X10_lay hG123 (oa_af h0 hA125) (rg_w h2) (rg_w (⟨by decide, by decide⟩ : Rg 4850 4850 4850)) (rk_af hR hA125) (fun _ _ _ _ h => h)) rfl (fun _ h => nomatch h) (fun S131 hx135 hG132 hB133 hA134 => ?_)
    obtain ⟨d136, hd137⟩ : ∃ q, Z_X10_lay R d127 o0 (x2) (4850) = q := ⟨_, rfl⟩
    have hq138 := (congrArg (fun q9 => Z_X10_lay R q9 o0 (x2) (4850)) hs130).trans hd137
    have hs139 := hx135.trans hq138
    have hF : Z_X10_lower_p192 R (sg S) o0 x1 x2 x3 = d136 := by
      subst hd137
      subst hd128
      exact zl_X10_lower_p192_1 q101
    exact tt_vreturn dX10_lower_228 rfl (hP _ _ _ _ ⟨hG132, hA134, Or.inl ⟨_, rfl, rfl, Eq.trans hs139 hF.symm, rfl, rfl⟩⟩)
def Z_X10_lower_p42 (R : Nat → Nat → Nat) (σ : SG) (o0 : Nat) (x1 : Int32) (x2 : Int32) (x3 : Int32) (x5 : Int32) (x6 : Int32) (y7 : Int64) : SG :=
  if (mi σ (R 643 o0) (x6 : Int32).toNatClampNeg) = 1 then
    if (mj σ (R 644 o0) (x6 : Int32).toNatClampNeg) < (0 : Int64) then
      σ
    else
      let d113 := Z_X10_copy R σ o0 (4851) (x6)
      if (mi d113 (R 643 o0) (x5 : Int32).toNatClampNeg) = 1 then
        let d142 := Z_X10_cut R d113 o0 (4850) (x5) (1) (0) (1) (((mj d113 (R 645 o0) (x6 : Int32).toNatClampNeg) - y7))
        if (mj d142 (R 644 o0) (x5 : Int32).toNatClampNeg) < (0 : Int64) then
          Z_X10_lower_p192 R d142 o0 (x1) (x2) (x3)
        else
          let d152 := Z_X10_cut R d142 o0 (4851) (x6) (1) (((mj d142 (R 644 o0) (x5 : Int32).toNatClampNeg) + y7)) (0) (0)
          Z_X10_lower_p192 R d152 o0 (x1) (x2) (x3)
      else
        if ((mj d113 (R 645 o0) (x6 : Int32).toNatClampNeg) - y7) < (0 : Int64) then
          Z_X10_lower_p192 R (ui d113 (R 643 o0) (4850 : Int32).toNatClampNeg 0) o0 (x1) (x2) (x3)
        else
          let d126 := Z_X10_make R d113 o0 (4850) (1) (0) (((mj d113 (R 645 o0) (x6 : Int32).toNatClampNeg) - y7)) (1)
          Z_X10_lower_p192 R d126 o0 (x1) (x2) (x3)
  else
    σ
theorem zl_X10_lower_p42_0 {R : Nat → Nat → Nat} {σ : SG} {o0 : Nat} {x1 : Int32} {x2 : Int32} {x3 : Int32} {x5 : Int32} {x6 : Int32} {y7 : Int64} (h0 : (mi σ (R 643 o0) (x6 : Int32).toNatClampNeg) = 1) (h1 : (mj σ (R 644 o0) (x6 : Int32).toNatClampNeg) < (0 : Int64)) : Z_X10_lower_p42 R σ o0 x1 x2 x3 x5 x6 y7 = σ := by unfold Z_X10_lower_p42; exact Eq.trans (if_pos h0) (if_pos h1)
theorem zl_X10_lower_p42_1 {R : Nat → Nat → Nat} {σ : SG} {o0 : Nat} {x1 : Int32} {x2 : Int32} {x3 : Int32} {x5 : Int32} {x6 : Int32} {y7 : Int64} (h0 : (mi σ (R 643 o0) (x6 : Int32).toNatClampNeg) = 1) (h1 : ¬ (mj σ (R 644 o0) (x6 : Int32).toNatClampNeg) < (0 : Int64)) (h2 : (mi (Z_X10_copy R σ o0 (4851) (x6)) (R 643 o0) (x5 : Int32).toNatClampNeg) = 1) (h3 : (mj (Z_X10_cut R (Z_X10_copy R σ o0 (4851) (x6)) o0 (4850) (x5) (1) (0) (1) (((mj (Z_X10_copy R σ o0 (4851) (x6)) (R 645 o0) (x6 : Int32).toNatClampNeg) - y7))) (R 644 o0) (x5 : Int32).toNatClampNeg) < (0 : Int64)) : Z_X10_lower_p42 R σ o0 x1 x2 x3 x5 x6 y7 = Z_X10_lower_p192 R (Z_X10_cut R (Z_X10_copy R σ o0 (4851) (x6)) o0 (4850) (x5) (1) (0) (1) (((mj (Z_X10_copy R σ o0 (4851) (x6)) (R 645 o0) (x6 : Int32).toNatClampNeg) - y7))) o0 (x1) (x2) (x3) := by unfold Z_X10_lower_p42; exact Eq.trans (if_pos h0) (Eq.trans (if_neg h1) (Eq.trans (if_pos h2) (if_pos h3)))
theorem zl_X10_lower_p42_2 {R : Nat → Nat → Nat} {σ : SG} {o0 : Nat} {x1 : Int32} {x2 : Int32} {x3 : Int32} {x5 : Int32} {x6 : Int32} {y7 : Int64} (h0 : (mi σ (R 643 o0) (x6 : Int32).toNatClampNeg) = 1) (h1 : ¬ (mj σ (R 644 o0) (x6 : Int32).toNatClampNeg) < (0 : Int64)) (h2 : (mi (Z_X10_copy R σ o0 (4851) (x6)) (R 643 o0) (x5 : Int32).toNatClampNeg) = 1) (h3 : ¬ (mj (Z_X10_cut R (Z_X10_copy R σ o0 (4851) (x6)) o0 (4850) (x5) (1) (0) (1) (((mj (Z_X10_copy R σ o0 (4851) (x6)) (R 645 o0) (x6 : Int32).toNatClampNeg) - y7))) (R 644 o0) (x5 : Int32).toNatClampNeg) < (0 : Int64)) : Z_X10_lower_p42 R σ o0 x1 x2 x3 x5 x6 y7 = Z_X10_lower_p192 R (Z_X10_cut R (Z_X10_cut R (Z_X10_copy R σ o0 (4851) (x6)) o0 (4850) (x5) (1) (0) (1) (((mj (Z_X10_copy R σ o0 (4851) (x6)) (R 645 o0) (x6 : Int32).toNatClampNeg) - y7))) o0 (4851) (x6) (1) (((mj (Z_X10_cut R (Z_X10_copy R σ o0 (4851) (x6)) o0 (4850) (x5) (1) (0) (1) (((mj (Z_X10_copy R σ o0 (4851) (x6)) (R 645 o0) (x6 : Int32).toNatClampNeg) - y7))) (R 644 o0) (x5 : Int32).toNatClampNeg) + y7)) (0) (0)) o0 (x1) (x2) (x3) := by unfold Z_X10_lower_p42; exact Eq.trans (if_pos h0) (Eq.trans (if_neg h1) (Eq.trans (if_pos h2) (if_neg h3)))
theorem zl_X10_lower_p42_3 {R : Nat → Nat → Nat} {σ : SG} {o0 : Nat} {x1 : Int32} {x2 : Int32} {x3 : Int32} {x5 : Int32} {x6 : Int32} {y7 : Int64} (h0 : (mi σ (R 643 o0) (x6 : Int32).toNatClampNeg) = 1) (h1 : ¬ (mj σ (R 644 o0) (x6 : Int32).toNatClampNeg) < (0 : Int64)) (h2 : ¬ (mi (Z_X10_copy R σ o0 (4851) (x6)) (R 643 o0) (x5 : Int32).toNatClampNeg) = 1) (h3 : ((mj (Z_X10_copy R σ o0 (4851) (x6)) (R 645 o0) (x6 : Int32).toNatClampNeg) - y7) < (0 : Int64)) : Z_X10_lower_p42 R σ o0 x1 x2 x3 x5 x6 y7 = Z_X10_lower_p192 R (ui (Z_X10_copy R σ o0 (4851) (x6)) (R 643 o0) (4850 : Int32).toNatClampNeg 0) o0 (x1) (x2) (x3) := by unfold Z_X10_lower_p42; exact Eq.trans (if_pos h0) (Eq.trans (if_neg h1) (Eq.trans (if_neg h2) (if_pos h3)))
theorem zl_X10_lower_p42_4 {R : Nat → Nat → Nat} {σ : SG} {o0 : Nat} {x1 : Int32} {x2 : Int32} {x3 : Int32} {x5 : Int32} {x6 : Int32} {y7 : Int64} (h0 : (mi σ (R 643 o0) (x6 : Int32).toNatClampNeg) = 1) (h1 : ¬ (mj σ (R 644 o0) (x6 : Int32).toNatClampNeg) < (0 : Int64)) (h2 : ¬ (mi (Z_X10_copy R σ o0 (4851) (x6)) (R 643 o0) (x5 : Int32).toNatClampNeg) = 1) (h3 : ¬ ((mj (Z_X10_copy R σ o0 (4851) (x6)) (R 645 o0) (x6 : Int32).toNatClampNeg) - y7) < (0 : Int64)) : Z_X10_lower_p42 R σ o0 x1 x2 x3 x5 x6 y7 = Z_X10_lower_p192 R (Z_X10_make R (Z_X10_copy R σ o0 (4851) (x6)) o0 (4850) (1) (0) (((mj (Z_X10_copy R σ o0 (4851) (x6)) (R 645 o0) (x6 : Int32).toNatClampNeg) - y7)) (1)) o0 (x1) (x2) (x3) := by unfold Z_X10_lower_p42; exact Eq.trans (if_pos h0) (Eq.trans (if_neg h1) (Eq.trans (if_neg h2) (if_neg h3)))
theorem zl_X10_lower_p42_5 {R : Nat → Nat → Nat} {σ : SG} {o0 : Nat} {x1 : Int32} {x2 : Int32} {x3 : Int32} {x5 : Int32} {x6 : Int32} {y7 : Int64} (h0 : ¬ (mi σ (R 643 o0) (x6 : Int32).toNatClampNeg) = 1) : Z_X10_lower_p42 R σ o0 x1 x2 x3 x5 x6 y7 = σ := by unfold Z_X10_lower_p42; exact if_neg h0
set_option maxHeartbeats 40000000 in
theorem cz_X10_lower_p42 {xi : SX} {S : Hp} {E : List Nat} {kc nc : Nat} {P : Po} {o0 : Nat} {x1 : Int32} {x2 : Int32} {x3 : Int32} {x5 : Int32} {x6 : Int32} {y7 : Int64} {R : Nat → Nat → Nat} (hG : GI S E) (h0 : Oa S E 10 0 o0) (h1 : Rg (-1) 31 x1) (h2 : Rg (-1) 31 x2) (h3 : Rg 0 1 x3) (h5 : Rg 4928 4929 x5) (h6 : Rg 4928 4929 x6) (hR : RK S R) (hP : ∀ r T x y, PV E [676, 9989] S kc nc rV (fun v T => sg T = Z_X10_lower_p42 R (sg S) o0 x1 x2 x3 x5 x6 y7) [] r T x y → P r T x y) : TT xi M_X10_lower 42 [(0, .ref o0), (1, .int x1), (2, .int x2), (3, .int x3), (5, .int x5), (6, .int x6), (7, .long y7)] [] S kc nc P := by
  have hA : Af E [676, 9989] S S := af_rf
  refine tt_aload_n (j := 0) dX10_lower_42 rfl ?_
  have hr101 := rk_R (k := 643) hR h0 32 4940
  have ho102 := rk_O (k := 643) hG hR h0 32 4940
  refine gt_gR (id := 643) dX10_lower_43 fl_10_13 rfl rfl h0 hA hr101 ?_
  refine tt_iload (j := 5) dX10_lower_46 rfl ?_
  refine gx_iL (v := (mi (sg S) (R 643 o0) (x6 : Int32).toNatClampNeg)) dX10_lower_48 ho102 hA (rg_in h6) (sg_i (a := (R 643 o0)) (i := (x6 : Int32).toNatClampNeg) (show sg S = (sg S) from rfl)) ?_
  refine tt_iconst (v := 1) dX10_lower_49 rfl ?_
  refine tt_icmp_ne (tgt := 65) dX10_lower_50 rfl (fun q103 => ?_) (fun q103 => ?_)
  · skip
    have hF : Z_X10_lower_p42 R (sg S) o0 x1 x2 x3 x5 x6 y7 = (sg S) := by
      exact zl_X10_lower_p42_5 q103
    exact tt_vreturn dX10_lower_65 rfl (hP _ _ _ _ ⟨hG, hA, Or.inl ⟨_, rfl, rfl, Eq.trans (show sg S = (sg S) from rfl) hF.symm, rfl, rfl⟩⟩)
  · skip
    have h104 : Rg 1 1 (mi (sg S) (R 643 o0) (x6 : Int32).toNatClampNeg) := rg_eq_l (rg_all (mi (sg S) (R 643 o0) (x6 : Int32).toNatClampNeg)) (⟨by decide, by decide⟩ : Rg 1 1 1) q103
    refine tt_aload_n (j := 0) dX10_lower_53 rfl ?_
    have hr105 := rk_R (k := 644) hR h0 33 4940
    have ho106 := rk_O (k := 644) hG hR h0 33 4940
    refine gt_gR (id := 644) dX10_lower_54 fl_10_16 rfl rfl h0 hA hr105 ?_
    refine tt_iload (j := 5) dX10_lower_57 rfl ?_
    refine gt_lLv (v := (mj (sg S) (R 644 o0) (x6 : Int32).toNatClampNeg)) dX10_lower_59 ho106 hA (rg_in h6) (sg_j (a := (R 644 o0)) (i := (x6 : Int32).toNatClampNeg) (show sg S = (sg S) from rfl)) ?_
    refine tt_lconst (v := 0) dX10_lower_60 rfl ?_
    refine tt_lcmp dX10_lower_61 ?_
    refine tt_if_ge (tgt := 66) dX10_lower_62 rfl (fun q107 => ?_) (fun q107 => ?_)
    · skip
      refine tt_aload_n (j := 0) dX10_lower_66 rfl ?_
      refine tt_sipush (v := 4851) dX10_lower_67 rfl ?_
      refine tt_iload (j := 5) dX10_lower_70 rfl ?_
      refine gt_Vv (As := [.int 4851, .int x6]) dX10_lower_72 ca_X10_169 ⟨by decide, by decide⟩ h0 hA rfl (Nat.le_of_ble_eq_true rfl) (Nat.le_of_ble_eq_true rfl) (by decide) (cz_X10_copy hG (oa_af h0 hA) (rg_w (⟨by decide, by decide⟩ : Rg 4851 4851 4851)) (rg_w h6) hR (fun _ _ _ _ h => h)) rfl (fun _ h => nomatch h) (fun S108 hx112 hG109 hB110 hA111 => ?_)
      obtain ⟨d113, hd114⟩ : ∃ q, Z_X10_copy R (sg S) o0 (4851) (x6) = q := ⟨_, rfl⟩
      have hq115 := (congrArg (fun q9 => Z_X10_copy R q9 o0 (4851) (x6)) (show sg S = (sg S) from rfl)).trans hd114
      have hs116 := hx112.trans hq115
      refine tt_aload_n (j := 0) dX10_lower_75 rfl ?_
      refine gt_gR (id := 643) dX10_lower_76 fl_10_13 rfl rfl h0 hA111 hr101 ?_
      refine tt_iload (j := 4) dX10_lower_79 rfl ?_
      refine gx_iL (v := (mi d113 (R 643 o0) (x5 : Int32).toNatClampNeg)) dX10_lower_81 ho102 hA111 (rg_in h5) (sg_i (a := (R 643 o0)) (i := (x5 : Int32).toNatClampNeg) hs116) ?_
      refine tt_iconst (v := 1) dX10_lower_82 rfl ?_
      refine tt_icmp_ne (tgt := 145) dX10_lower_83 rfl (fun q117 => ?_) (fun q117 => ?_)
      · skip
        refine tt_aload_n (j := 0) dX10_lower_145 rfl ?_
        have hr118 := rk_R (k := 645) hR h0 33 4940
        have ho119 := rk_O (k := 645) hG hR h0 33 4940
        refine gt_gR (id := 645) dX10_lower_146 fl_10_20 rfl rfl h0 hA111 hr118 ?_
        refine tt_iload (j := 5) dX10_lower_149 rfl ?_
        refine gt_lLv (v := (mj d113 (R 645 o0) (x6 : Int32).toNatClampNeg)) dX10_lower_151 ho119 hA111 (rg_in h6) (sg_j (a := (R 645 o0)) (i := (x6 : Int32).toNatClampNeg) hs116) ?_
        refine tt_lload (j := 6) dX10_lower_152 rfl ?_
        refine tt_lsub dX10_lower_154 ?_
        refine tt_lconst (v := 0) dX10_lower_155 rfl ?_
        refine tt_lcmp dX10_lower_156 ?_
        refine tt_if_ge (tgt := 172) dX10_lower_157 rfl (fun q120 => ?_) (fun q120 => ?_)
        · skip
          refine tt_aload_n (j := 0) dX10_lower_172 rfl ?_
          refine tt_sipush (v := 4850) dX10_lower_173 rfl ?_
          refine tt_iconst (v := 1) dX10_lower_176 rfl ?_
          refine tt_lconst (v := 0) dX10_lower_177 rfl ?_
          refine tt_aload_n (j := 0) dX10_lower_178 rfl ?_
          refine gt_gR (id := 645) dX10_lower_179 fl_10_20 rfl rfl h0 hA111 hr118 ?_
          refine tt_iload (j := 5) dX10_lower_182 rfl ?_
          refine gt_lLv (v := (mj d113 (R 645 o0) (x6 : Int32).toNatClampNeg)) dX10_lower_184 ho119 hA111 (rg_in h6) (sg_j (a := (R 645 o0)) (i := (x6 : Int32).toNatClampNeg) hs116) ?_
          refine tt_lload (j := 6) dX10_lower_185 rfl ?_
          refine tt_lsub dX10_lower_187 ?_
          refine tt_lconst (v := 1) dX10_lower_188 rfl ?_
          refine gt_Vv (As := [.int 4850, .int 1, .long 0, .long ((mj d113 (R 645 o0) (x6 : Int32).toNatClampNeg) - y7), .long 1]) dX10_lower_189 ca_X10_165 ⟨by decide, by decide⟩ h0 hA111 rfl (Nat.le_of_ble_eq_true rfl) (Nat.le_of_ble_eq_true rfl) (by decide) (cz_X10_make hG109 (oa_af h0 hA111) (rg_w (⟨by decide, by decide⟩ : Rg 4850 4850 4850)) (rk_af hR hA111) (fun _ _ _ _ h => h)) rfl (fun _ h => nomatch h) (fun S121 hx125 hG122 hB123 hA124 => ?_)
          obtain ⟨d126, hd127⟩ : ∃ q, Z_X10_make R d113 o0 (4850) (1) (0) (((mj d113 (R 645 o0) (x6 : Int32).toNatClampNeg) - y7)) (1) = q := ⟨_, rfl⟩
          have hq128 := (congrArg (fun q9 => Z_X10_make R q9 o0 (4850) (1) (0) (((mj d113 (R 645 o0) (x6 : Int32).toNatClampNeg) - y7)) (1)) hs116).trans hd127
          have hs129 := hx125.trans hq128
          have hF : Z_X10_lower_p42 R (sg S) o0 x1 x2 x3 x5 x6 y7 = Z_X10_lower_p192 R d126 o0 (x1) (x2) (x3) := by
            subst hd127
            subst hd114
            exact zl_X10_lower_p42_4 q103 (Int64.not_lt.mpr (lc_ge_t q107)) q117 (Int64.not_lt.mpr (lc_ge_t q120))
          exact tt_loc (ks := [0, 1, 2, 3]) rfl (cz_X10_lower_p192 hG122 (oa_af h0 hA124) (rg_w h1) (rg_w h2) (rg_w h3) (rk_af hR hA124) (fun r T x y h => hP r T x y (pv_tr hA124 h (by decide) (fun v T e => e.trans ((congrArg (fun q9 => Z_X10_lower_p192 R q9 o0 (x1) (x2) (x3)) hs129).trans hF.symm)))))
        · skip
          refine tt_aload_n (j := 0) dX10_lower_160 rfl ?_
          refine gt_gR (id := 643) dX10_lower_161 fl_10_13 rfl rfl h0 hA111 hr101 ?_
          refine tt_sipush (v := 4850) dX10_lower_164 rfl ?_
          refine tt_iconst (v := 0) dX10_lower_167 rfl ?_
          refine gx_iS dX10_lower_168 ho102 hA111 (Or.inl (by decide)) (rg_in (⟨by decide, by decide⟩ : Rg 4850 4850 4850)) hG109 (by decide) hs116 (fun S130 hG131 hA132 e133 => ?_)
          refine tt_goto (tgt := 192) dX10_lower_169 rfl ?_
          have hF : Z_X10_lower_p42 R (sg S) o0 x1 x2 x3 x5 x6 y7 = Z_X10_lower_p192 R (ui d113 (R 643 o0) (4850 : Int32).toNatClampNeg 0) o0 (x1) (x2) (x3) := by
            subst hd114
            exact zl_X10_lower_p42_3 q103 (Int64.not_lt.mpr (lc_ge_t q107)) q117 (lc_ge_f q120)
          exact tt_loc (ks := [0, 1, 2, 3]) rfl (cz_X10_lower_p192 hG131 (oa_af h0 hA132) (rg_w h1) (rg_w h2) (rg_w h3) (rk_af hR hA132) (fun r T x y h => hP r T x y (pv_tr hA132 h (by decide) (fun v T e => e.trans ((congrArg (fun q9 => Z_X10_lower_p192 R q9 o0 (x1) (x2) (x3)) e133).trans hF.symm)))))
      · skip
        have h134 : Rg 1 1 (mi d113 (R 643 o0) (x5 : Int32).toNatClampNeg) := rg_eq_l (rg_all (mi d113 (R 643 o0) (x5 : Int32).toNatClampNeg)) (⟨by decide, by decide⟩ : Rg 1 1 1) q117
        refine tt_aload_n (j := 0) dX10_lower_86 rfl ?_
        refine tt_sipush (v := 4850) dX10_lower_87 rfl ?_
        refine tt_iload (j := 4) dX10_lower_90 rfl ?_
        refine tt_iconst (v := 1) dX10_lower_92 rfl ?_
        refine tt_lconst (v := 0) dX10_lower_93 rfl ?_
        refine tt_iconst (v := 1) dX10_lower_94 rfl ?_
        refine tt_aload_n (j := 0) dX10_lower_95 rfl ?_
        have hr135 := rk_R (k := 645) hR h0 33 4940
        have ho136 := rk_O (k := 645) hG hR h0 33 4940
        refine gt_gR (id := 645) dX10_lower_96 fl_10_20 rfl rfl h0 hA111 hr135 ?_
        refine tt_iload (j := 5) dX10_lower_99 rfl ?_
        refine gt_lLv (v := (mj d113 (R 645 o0) (x6 : Int32).toNatClampNeg)) dX10_lower_101 ho136 hA111 (rg_in h6) (sg_j (a := (R 645 o0)) (i := (x6 : Int32).toNatClampNeg) hs116) ?_
        refine tt_lload (j := 6) dX10_lower_102 rfl ?_
        refine tt_lsub dX10_lower_104 ?_
        refine gt_Vv (As := [.int 4850, .int x5, .int 1, .long 0, .int 1, .long ((mj d113 (R 645 o0) (x6 : Int32).toNatClampNeg) - y7)]) dX10_lower_105 ca_X10_263 ⟨by decide, by decide⟩ h0 hA111 rfl (Nat.le_of_ble_eq_true rfl) (Nat.le_of_ble_eq_true rfl) (by decide) (cz_X10_cut hG109 (oa_af h0 hA111) (rg_w (⟨by decide, by decide⟩ : Rg 4850 4850 4850)) (rg_w h5) (rg_w (⟨by decide, by decide⟩ : Rg 1 1 1)) (rg_w (⟨by decide, by decide⟩ : Rg 1 1 1)) (rk_af hR hA111) (fun _ _ _ _ h => h)) rfl (fun _ h => nomatch h) (fun S137 hx141 hG138 hB139 hA140 => ?_)
        obtain ⟨d142, hd143⟩ : ∃ q, Z_X10_cut R d113 o0 (4850) (x5) (1) (0) (1) (((mj d113 (R 645 o0) (x6 : Int32).toNatClampNeg) - y7)) = q := ⟨_, rfl⟩
        have hq144 := (congrArg (fun q9 => Z_X10_cut R q9 o0 (4850) (x5) (1) (0) (1) (((mj d113 (R 645 o0) (x6 : Int32).toNatClampNeg) - y7))) hs116).trans hd143
        have hs145 := hx141.trans hq144
        refine tt_aload_n (j := 0) dX10_lower_108 rfl ?_
        refine gt_gR (id := 644) dX10_lower_109 fl_10_16 rfl rfl h0 hA140 hr105 ?_
        refine tt_iload (j := 4) dX10_lower_112 rfl ?_
        refine gt_lLv (v := (mj d142 (R 644 o0) (x5 : Int32).toNatClampNeg)) dX10_lower_114 ho106 hA140 (rg_in h5) (sg_j (a := (R 644 o0)) (i := (x5 : Int32).toNatClampNeg) hs145) ?_
        refine tt_lconst (v := 0) dX10_lower_115 rfl ?_
        refine tt_lcmp dX10_lower_116 ?_
        refine tt_if_lt (tgt := 192) dX10_lower_117 rfl (fun q146 => ?_) (fun q146 => ?_)
        · skip
          have hF : Z_X10_lower_p42 R (sg S) o0 x1 x2 x3 x5 x6 y7 = Z_X10_lower_p192 R d142 o0 (x1) (x2) (x3) := by
            subst hd143
            subst hd114
            exact zl_X10_lower_p42_1 q103 (Int64.not_lt.mpr (lc_ge_t q107)) q117 (lc_lt_t q146)
          exact tt_loc (ks := [0, 1, 2, 3]) rfl (cz_X10_lower_p192 hG138 (oa_af h0 hA140) (rg_w h1) (rg_w h2) (rg_w h3) (rk_af hR hA140) (fun r T x y h => hP r T x y (pv_tr hA140 h (by decide) (fun v T e => e.trans ((congrArg (fun q9 => Z_X10_lower_p192 R q9 o0 (x1) (x2) (x3)) hs145).trans hF.symm)))))
        · skip
          refine tt_aload_n (j := 0) dX10_lower_120 rfl ?_
          refine tt_sipush (v := 4851) dX10_lower_121 rfl ?_
          refine tt_iload (j := 5) dX10_lower_124 rfl ?_
          refine tt_iconst (v := 1) dX10_lower_126 rfl ?_
          refine tt_aload_n (j := 0) dX10_lower_127 rfl ?_
          refine gt_gR (id := 644) dX10_lower_128 fl_10_16 rfl rfl h0 hA140 hr105 ?_
          refine tt_iload (j := 4) dX10_lower_131 rfl ?_
          refine gt_lLv (v := (mj d142 (R 644 o0) (x5 : Int32).toNatClampNeg)) dX10_lower_133 ho106 hA140 (rg_in h5) (sg_j (a := (R 644 o0)) (i := (x5 : Int32).toNatClampNeg) hs145) ?_
          refine tt_lload (j := 6) dX10_lower_134 rfl ?_
          refine tt_ladd dX10_lower_136 ?_
          refine tt_iconst (v := 0) dX10_lower_137 rfl ?_
          refine tt_lconst (v := 0) dX10_lower_138 rfl ?_
          refine gt_Vv (As := [.int 4851, .int x6, .int 1, .long ((mj d142 (R 644 o0) (x5 : Int32).toNatClampNeg) + y7), .int 0, .long 0]) dX10_lower_139 ca_X10_263 ⟨by decide, by decide⟩ h0 hA140 rfl (Nat.le_of_ble_eq_true rfl) (Nat.le_of_ble_eq_true rfl) (by decide) (cz_X10_cut hG138 (oa_af h0 hA140) (rg_w (⟨by decide, by decide⟩ : Rg 4851 4851 4851)) (rg_w h6) (rg_w (⟨by decide, by decide⟩ : Rg 1 1 1)) (rg_w (⟨by decide, by decide⟩ : Rg 0 0 0)) (rk_af hR hA140) (fun _ _ _ _ h => h)) rfl (fun _ h => nomatch h) (fun S147 hx151 hG148 hB149 hA150 => ?_)
          obtain ⟨d152, hd153⟩ : ∃ q, Z_X10_cut R d142 o0 (4851) (x6) (1) (((mj d142 (R 644 o0) (x5 : Int32).toNatClampNeg) + y7)) (0) (0) = q := ⟨_, rfl⟩
          have hq154 := (congrArg (fun q9 => Z_X10_cut R q9 o0 (4851) (x6) (1) (((mj d142 (R 644 o0) (x5 : Int32).toNatClampNeg) + y7)) (0) (0)) hs145).trans hd153
          have hs155 := hx151.trans hq154
          refine tt_goto (tgt := 192) dX10_lower_142 rfl ?_
          have hF : Z_X10_lower_p42 R (sg S) o0 x1 x2 x3 x5 x6 y7 = Z_X10_lower_p192 R d152 o0 (x1) (x2) (x3) := by
            subst hd153
            subst hd143
            subst hd114
            exact zl_X10_lower_p42_2 q103 (Int64.not_lt.mpr (lc_ge_t q107)) q117 (Int64.not_lt.mpr (lc_lt_f q146))
          exact tt_loc (ks := [0, 1, 2, 3]) rfl (cz_X10_lower_p192 hG148 (oa_af h0 hA150) (rg_w h1) (rg_w h2) (rg_w h3) (rk_af hR hA150) (fun r T x y h => hP r T x y (pv_tr hA150 h (by decide) (fun v T e => e.trans ((congrArg (fun q9 => Z_X10_lower_p192 R q9 o0 (x1) (x2) (x3)) hs155).trans hF.symm)))))
    · skip
      have hF : Z_X10_lower_p42 R (sg S) o0 x1 x2 x3 x5 x6 y7 = (sg S) := by
        exact zl_X10_lower_p42_0 q103 (lc_ge_f q107)
      exact tt_vreturn dX10_lower_65 rfl (hP _ _ _ _ ⟨hG, hA, Or.inl ⟨_, rfl, rfl, Eq.trans (show sg S = (sg S) from rfl) hF.symm, rfl, rfl⟩⟩)
def Z_X10_lower_p30 (R : Nat → Nat → Nat) (σ : SG) (o0 : Nat) (x1 : Int32) (x2 : Int32) (x3 : Int32) (x4 : Int32) (x5 : Int32) (x6 : Int32) : SG :=
  if x4 = 0 then
    Z_X10_lower_p42 R σ o0 (x1) (x2) (x3) (x5) (x6) (0)
  else
    Z_X10_lower_p42 R σ o0 (x1) (x2) (x3) (x5) (x6) (1)
theorem zl_X10_lower_p30_0 {R : Nat → Nat → Nat} {σ : SG} {o0 : Nat} {x1 : Int32} {x2 : Int32} {x3 : Int32} {x4 : Int32} {x5 : Int32} {x6 : Int32} (h0 : x4 = 0) : Z_X10_lower_p30 R σ o0 x1 x2 x3 x4 x5 x6 = Z_X10_lower_p42 R σ o0 (x1) (x2) (x3) (x5) (x6) (0) := by unfold Z_X10_lower_p30; exact if_pos h0
theorem zl_X10_lower_p30_1 {R : Nat → Nat → Nat} {σ : SG} {o0 : Nat} {x1 : Int32} {x2 : Int32} {x3 : Int32} {x4 : Int32} {x5 : Int32} {x6 : Int32} (h0 : ¬ x4 = 0) : Z_X10_lower_p30 R σ o0 x1 x2 x3 x4 x5 x6 = Z_X10_lower_p42 R σ o0 (x1) (x2) (x3) (x5) (x6) (1) := by unfold Z_X10_lower_p30; exact if_neg h0
set_option maxHeartbeats 40000000 in
theorem cz_X10_lower_p30 {xi : SX} {S : Hp} {E : List Nat} {kc nc : Nat} {P : Po} {o0 : Nat} {x1 : Int32} {x2 : Int32} {x3 : Int32} {x4 : Int32} {x5 : Int32} {x6 : Int32} {R : Nat → Nat → Nat} (hG : GI S E) (h0 : Oa S E 10 0 o0) (h1 : Rg (-1) 31 x1) (h2 : Rg (-1) 31 x2) (h3 : Rg 0 1 x3) (h4 : Rg 0 1 x4) (h5 : Rg 4928 4929 x5) (h6 : Rg 4928 4929 x6) (hR : RK S R) (hP : ∀ r T x y, PV E [676, 9989] S kc nc rV (fun v T => sg T = Z_X10_lower_p30 R (sg S) o0 x1 x2 x3 x4 x5 x6) [] r T x y → P r T x y) : TT xi M_X10_lower 30 [(0, .ref o0), (1, .int x1), (2, .int x2), (3, .int x3), (4, .int x4), (5, .int x5), (6, .int x6)] [] S kc nc P := by
  have hA : Af E [676, 9989] S S := af_rf
  refine tt_iload (j := 4) dX10_lower_30 rfl ?_
  refine tt_if_eq (tgt := 39) dX10_lower_32 rfl (fun q101 => ?_) (fun q101 => ?_)
  · skip
    have h102 : Rg 0 0 x4 := rg_eq_l h4 (⟨by decide, by decide⟩ : Rg 0 0 0) q101
    refine tt_lconst (v := 0) dX10_lower_39 rfl ?_
    refine tt_lstore (ks := [0, 1, 2, 3, 4, 5, 6, 7]) (L' := [(7, .long 0), (0, .ref o0), (1, .int x1), (2, .int x2), (3, .int x3), (4, .int x4), (5, .int x5), (6, .int x6)]) dX10_lower_40 (by decide) rfl ?_
    have hF : Z_X10_lower_p30 R (sg S) o0 x1 x2 x3 x4 x5 x6 = Z_X10_lower_p42 R (sg S) o0 (x1) (x2) (x3) (x5) (x6) (0) := by
      exact zl_X10_lower_p30_0 q101
    exact tt_loc (ks := [1, 2, 3, 4, 6, 7, 0]) rfl (cz_X10_lower_p42 hG (oa_af h0 hA) (rg_w h1) (rg_w h2) (rg_w h3) (rg_w h5) (rg_w h6) hR (fun r T x y h => hP r T x y (pv_tr hA h (by decide) (fun v T e => e.trans ((congrArg (fun q9 => Z_X10_lower_p42 R q9 o0 (x1) (x2) (x3) (x5) (x6) (0)) (show sg S = (sg S) from rfl)).trans hF.symm)))))
  · skip
    have h103 : Rg 1 1 x4 := rg_ne_lo h4 (⟨by decide, by decide⟩ : Rg 0 0 0) q101
    refine tt_lconst (v := 1) dX10_lower_35 rfl ?_
    refine tt_goto (tgt := 40) dX10_lower_36 rfl ?_
    refine tt_lstore (ks := [0, 1, 2, 3, 4, 5, 6, 7]) (L' := [(7, .long 1), (0, .ref o0), (1, .int x1), (2, .int x2), (3, .int x3), (4, .int x4), (5, .int x5), (6, .int x6)]) dX10_lower_40 (by decide) rfl ?_
    have hF : Z_X10_lower_p30 R (sg S) o0 x1 x2 x3 x4 x5 x6 = Z_X10_lower_p42 R (sg S) o0 (x1) (x2) (x3) (x5) (x6) (1) := by
      exact zl_X10_lower_p30_1 q101
    exact tt_loc (ks := [1, 2, 3, 4, 6, 7, 0]) rfl (cz_X10_lower_p42 hG (oa_af h0 hA) (rg_w h1) (rg_w h2) (rg_w h3) (rg_w h5) (rg_w h6) hR (fun r T x y h => hP r T x y (pv_tr hA h (by decide) (fun v T e => e.trans ((congrArg (fun q9 => Z_X10_lower_p42 R q9 o0 (x1) (x2) (x3) (x5) (x6) (1)) (show sg S = (sg S) from rfl)).trans hF.symm)))))
def Z_X10_lower (R : Nat → Nat → Nat) (σ : SG) (o0 : Nat) (x1 : Int32) (x2 : Int32) (x3 : Int32) (x4 : Int32) : SG :=
  if x3 = 0 then
    Z_X10_lower_p30 R σ o0 (x1) (x2) (x3) (x4) (4928) (4929)
  else
    Z_X10_lower_p30 R σ o0 (x1) (x2) (x3) (x4) (4929) (4928)
theorem zl_X10_lower_0 {R : Nat → Nat → Nat} {σ : SG} {o0 : Nat} {x1 : Int32} {x2 : Int32} {x3 : Int32} {x4 : Int32} (h0 : x3 = 0) : Z_X10_lower R σ o0 x1 x2 x3 x4 = Z_X10_lower_p30 R σ o0 (x1) (x2) (x3) (x4) (4928) (4929) := by unfold Z_X10_lower; exact if_pos h0
theorem zl_X10_lower_1 {R : Nat → Nat → Nat} {σ : SG} {o0 : Nat} {x1 : Int32} {x2 : Int32} {x3 : Int32} {x4 : Int32} (h0 : ¬ x3 = 0) : Z_X10_lower R σ o0 x1 x2 x3 x4 = Z_X10_lower_p30 R σ o0 (x1) (x2) (x3) (x4) (4929) (4928) := by unfold Z_X10_lower; exact if_neg h0
set_option maxHeartbeats 40000000 in
theorem cz_X10_lower {xi : SX} {S : Hp} {E : List Nat} {kc nc : Nat} {P : Po} {o0 : Nat} {x1 : Int32} {x2 : Int32} {x3 : Int32} {x4 : Int32} {R : Nat → Nat → Nat} (hG : GI S E) (h0 : Oa S E 10 0 o0) (h1 : Rg (-1) 31 x1) (h2 : Rg (-1) 31 x2) (h3 : Rg 0 1 x3) (h4 : Rg 0 1 x4) (hR : RK S R) (hP : ∀ r T x y, PV E [676, 9989] S kc nc rV (fun v T => sg T = Z_X10_lower R (sg S) o0 x1 x2 x3 x4) [] r T x y → P r T x y) : TT xi M_X10_lower 0 [(0, .ref o0), (1, .int x1), (2, .int x2), (3, .int x3), (4, .int x4)] [] S kc nc P := by
  have hA : Af E [676, 9989] S S := af_rf
  refine tt_iload_n (j := 3) dX10_lower_0 rfl ?_
  refine tt_if_eq (tgt := 10) dX10_lower_1 rfl (fun q101 => ?_) (fun q101 => ?_)
  · skip
    have h102 : Rg 0 0 x3 := rg_eq_l h3 (⟨by decide, by decide⟩ : Rg 0 0 0) q101
    refine tt_sipush (v := 4928) dX10_lower_10 rfl ?_
    refine tt_istore (ks := [0, 1, 2, 3, 4, 5]) (L' := [(5, .int 4928), (0, .ref o0), (1, .int x1), (2, .int x2), (3, .int x3), (4, .int x4)]) dX10_lower_13 (by decide) rfl ?_
    refine tt_iload_n (j := 4) dX10_lower_15 rfl ?_
    refine tt_if_eq (tgt := 25) dX10_lower_16 rfl (fun _ => ?_) (fun q => absurd q101 q)
    refine tt_sipush (v := 4929) dX10_lower_25 rfl ?_
    refine tt_istore (ks := [0, 1, 2, 3, 4, 5, 6]) (L' := [(6, .int 4929), (5, .int 4928), (0, .ref o0), (1, .int x1), (2, .int x2), (3, .int x3), (4, .int x4)]) dX10_lower_28 (by decide) rfl ?_
    have hF : Z_X10_lower R (sg S) o0 x1 x2 x3 x4 = Z_X10_lower_p30 R (sg S) o0 (x1) (x2) (x3) (x4) (4928) (4929) := by
      exact zl_X10_lower_0 q101
    exact tt_loc (ks := [2, 3, 4, 5, 6, 1, 0]) rfl (cz_X10_lower_p30 hG (oa_af h0 hA) (rg_w h1) (rg_w h2) (rg_w h102) (rg_w h4) (rg_w (⟨by decide, by decide⟩ : Rg 4928 4928 4928)) (rg_w (⟨by decide, by decide⟩ : Rg 4929 4929 4929)) hR (fun r T x y h => hP r T x y (pv_tr hA h (by decide) (fun v T e => e.trans ((congrArg (fun q9 => Z_X10_lower_p30 R q9 o0 (x1) (x2) (x3) (x4) (4928) (4929)) (show sg S = (sg S) from rfl)).trans hF.symm)))))
  · skip
    have h103 : Rg 1 1 x3 := rg_ne_lo h3 (⟨by decide, by decide⟩ : Rg 0 0 0) q101
    refine tt_sipush (v := 4929) dX10_lower_4 rfl ?_
    refine tt_goto (tgt := 13) dX10_lower_7 rfl ?_
    refine tt_istore (ks := [0, 1, 2, 3, 4, 5]) (L' := [(5, .int 4929), (0, .ref o0), (1, .int x1), (2, .int x2), (3, .int x3), (4, .int x4)]) dX10_lower_13 (by decide) rfl ?_
    refine tt_iload_n (j := 4) dX10_lower_15 rfl ?_
    refine tt_if_eq (tgt := 25) dX10_lower_16 rfl (fun q => absurd q q101) (fun _ => ?_)
    refine tt_sipush (v := 4928) dX10_lower_19 rfl ?_
    refine tt_goto (tgt := 28) dX10_lower_22 rfl ?_
    refine tt_istore (ks := [0, 1, 2, 3, 4, 5, 6]) (L' := [(6, .int 4928), (5, .int 4929), (0, .ref o0), (1, .int x1), (2, .int x2), (3, .int x3), (4, .int x4)]) dX10_lower_28 (by decide) rfl ?_
    have hF : Z_X10_lower R (sg S) o0 x1 x2 x3 x4 = Z_X10_lower_p30 R (sg S) o0 (x1) (x2) (x3) (x4) (4929) (4928) := by
      exact zl_X10_lower_1 q101
    exact tt_loc (ks := [2, 3, 4, 5, 6, 1, 0]) rfl (cz_X10_lower_p30 hG (oa_af h0 hA) (rg_w h1) (rg_w h2) (rg_w h103) (rg_w h4) (rg_w (⟨by decide, by decide⟩ : Rg 4929 4929 4929)) (rg_w (⟨by decide, by decide⟩ : Rg 4928 4928 4928)) hR (fun r T x y h => hP r T x y (pv_tr hA h (by decide) (fun v T e => e.trans ((congrArg (fun q9 => Z_X10_lower_p30 R q9 o0 (x1) (x2) (x3) (x4) (4929) (4928)) (show sg S = (sg S) from rfl)).trans hF.symm)))))
def Z_X10_compared (R : Nat → Nat → Nat) (σ : SG) (o0 : Nat) (x1 : Int32) (x2 : Int32) (x3 : Int32) : SG :=
  if x3 = 4 then
    let d108 := Z_X10_equal R σ o0 (x1) (x2) (1)
    d108
  else
    if x3 = 5 then
      let d279 := Z_X10_equal R σ o0 (x1) (x2) (0)
      d279
    else
      if x3 ≤ 11 then
        if x3 = 2 then
          if x3 = 3 then
            let d123 := Z_X10_lower R σ o0 (x1) (x2) (1) (1)
            d123
          else
            if x3 = 7 then
              let d142 := Z_X10_lower R σ o0 (x1) (x2) (1) (1)
              d142
            else
              let d133 := Z_X10_lower R σ o0 (x1) (x2) (0) (1)
              d133
        else
          if x3 = 3 then
            if x3 = 7 then
              let d163 := Z_X10_lower R σ o0 (x1) (x2) (1) (1)
              d163
            else
              let d154 := Z_X10_lower R σ o0 (x1) (x2) (1) (0)
              d154
          else
            if x3 = 6 then
              if x3 = 7 then
                let d184 := Z_X10_lower R σ o0 (x1) (x2) (1) (1)
                d184
              else
                let d175 := Z_X10_lower R σ o0 (x1) (x2) (0) (0)
                d175
            else
              if x3 = 7 then
                let d195 := Z_X10_lower R σ o0 (x1) (x2) (1) (1)
                d195
              else
                σ
      else
        if x3 = 13 then
          if x3 = 12 then
            let d208 := Z_X10_below R σ o0 (x1) (x2) (1) (1)
            d208
          else
            if x3 = 15 then
              let d227 := Z_X10_below R σ o0 (x1) (x2) (1) (1)
              d227
            else
              let d218 := Z_X10_below R σ o0 (x1) (x2) (1) (0)
              d218
        else
          if x3 = 15 then
            if x3 = 12 then
              let d260 := Z_X10_below R σ o0 (x1) (x2) (1) (1)
              d260
            else
              let d269 := Z_X10_below R σ o0 (x1) (x2) (1) (1)
              d269
          else
            if x3 = 12 then
              let d239 := Z_X10_below R σ o0 (x1) (x2) (0) (1)
              d239
            else
              let d249 := Z_X10_below R σ o0 (x1) (x2) (0) (0)
              d249
theorem zl_X10_compared_0 {R : Nat → Nat → Nat} {σ : SG} {o0 : Nat} {x1 : Int32} {x2 : Int32} {x3 : Int32} (h0 : x3 = 4) : Z_X10_compared R σ o0 x1 x2 x3 = (Z_X10_equal R σ o0 (x1) (x2) (1)) := by unfold Z_X10_compared; exact if_pos h0
theorem zl_X10_compared_1 {R : Nat → Nat → Nat} {σ : SG} {o0 : Nat} {x1 : Int32} {x2 : Int32} {x3 : Int32} (h0 : ¬ x3 = 4) (h1 : x3 = 5) : Z_X10_compared R σ o0 x1 x2 x3 = (Z_X10_equal R σ o0 (x1) (x2) (0)) := by unfold Z_X10_compared; exact Eq.trans (if_neg h0) (if_pos h1)
theorem zl_X10_compared_2 {R : Nat → Nat → Nat} {σ : SG} {o0 : Nat} {x1 : Int32} {x2 : Int32} {x3 : Int32} (h0 : ¬ x3 = 4) (h1 : ¬ x3 = 5) (h2 : x3 ≤ 11) (h3 : x3 = 2) (h4 : x3 = 3) : Z_X10_compared R σ o0 x1 x2 x3 = (Z_X10_lower R σ o0 (x1) (x2) (1) (1)) := by unfold Z_X10_compared; exact Eq.trans (if_neg h0) (Eq.trans (if_neg h1) (Eq.trans (if_pos h2) (Eq.trans (if_pos h3) (if_pos h4))))
theorem zl_X10_compared_3 {R : Nat → Nat → Nat} {σ : SG} {o0 : Nat} {x1 : Int32} {x2 : Int32} {x3 : Int32} (h0 : ¬ x3 = 4) (h1 : ¬ x3 = 5) (h2 : x3 ≤ 11) (h3 : x3 = 2) (h4 : ¬ x3 = 3) (h5 : x3 = 7) : Z_X10_compared R σ o0 x1 x2 x3 = (Z_X10_lower R σ o0 (x1) (x2) (1) (1)) := by unfold Z_X10_compared; exact Eq.trans (if_neg h0) (Eq.trans (if_neg h1) (Eq.trans (if_pos h2) (Eq.trans (if_pos h3) (Eq.trans (if_neg h4) (if_pos h5)))))
theorem zl_X10_compared_4 {R : Nat → Nat → Nat} {σ : SG} {o0 : Nat} {x1 : Int32} {x2 : Int32} {x3 : Int32} (h0 : ¬ x3 = 4) (h1 : ¬ x3 = 5) (h2 : x3 ≤ 11) (h3 : x3 = 2) (h4 : ¬ x3 = 3) (h5 : ¬ x3 = 7) : Z_X10_compared R σ o0 x1 x2 x3 = (Z_X10_lower R σ o0 (x1) (x2) (0) (1)) := by unfold Z_X10_compared; exact Eq.trans (if_neg h0) (Eq.trans (if_neg h1) (Eq.trans (if_pos h2) (Eq.trans (if_pos h3) (Eq.trans (if_neg h4) (if_neg h5)))))
theorem zl_X10_compared_5 {R : Nat → Nat → Nat} {σ : SG} {o0 : Nat} {x1 : Int32} {x2 : Int32} {x3 : Int32} (h0 : ¬ x3 = 4) (h1 : ¬ x3 = 5) (h2 : x3 ≤ 11) (h3 : ¬ x3 = 2) (h4 : x3 = 3) (h5 : x3 = 7) : Z_X10_compared R σ o0 x1 x2 x3 = (Z_X10_lower R σ o0 (x1) (x2) (1) (1)) := by unfold Z_X10_compared; exact Eq.trans (if_neg h0) (Eq.trans (if_neg h1) (Eq.trans (if_pos h2) (Eq.trans (if_neg h3) (Eq.trans (if_pos h4) (if_pos h5)))))
theorem zl_X10_compared_6 {R : Nat → Nat → Nat} {σ : SG} {o0 : Nat} {x1 : Int32} {x2 : Int32} {x3 : Int32} (h0 : ¬ x3 = 4) (h1 : ¬ x3 = 5) (h2 : x3 ≤ 11) (h3 : ¬ x3 = 2) (h4 : x3 = 3) (h5 : ¬ x3 = 7) : Z_X10_compared R σ o0 x1 x2 x3 = (Z_X10_lower R σ o0 (x1) (x2) (1) (0)) := by unfold Z_X10_compared; exact Eq.trans (if_neg h0) (Eq.trans (if_neg h1) (Eq.trans (if_pos h2) (Eq.trans (if_neg h3) (Eq.trans (if_pos h4) (if_neg h5)))))
theorem zl_X10_compared_7 {R : Nat → Nat → Nat} {σ : SG} {o0 : Nat} {x1 : Int32} {x2 : Int32} {x3 : Int32} (h0 : ¬ x3 = 4) (h1 : ¬ x3 = 5) (h2 : x3 ≤ 11) (h3 : ¬ x3 = 2) (h4 : ¬ x3 = 3) (h5 : x3 = 6) (h6 : x3 = 7) : Z_X10_compared R σ o0 x1 x2 x3 = (Z_X10_lower R σ o0 (x1) (x2) (1) (1)) := by unfold Z_X10_compared; exact Eq.trans (if_neg h0) (Eq.trans (if_neg h1) (Eq.trans (if_pos h2) (Eq.trans (if_neg h3) (Eq.trans (if_neg h4) (Eq.trans (if_pos h5) (if_pos h6))))))
theorem zl_X10_compared_8 {R : Nat → Nat → Nat} {σ : SG} {o0 : Nat} {x1 : Int32} {x2 : Int32} {x3 : Int32} (h0 : ¬ x3 = 4) (h1 : ¬ x3 = 5) (h2 : x3 ≤ 11) (h3 : ¬ x3 = 2) (h4 : ¬ x3 = 3) (h5 : x3 = 6) (h6 : ¬ x3 = 7) : Z_X10_compared R σ o0 x1 x2 x3 = (Z_X10_lower R σ o0 (x1) (x2) (0) (0)) := by unfold Z_X10_compared; exact Eq.trans (if_neg h0) (Eq.trans (if_neg h1) (Eq.trans (if_pos h2) (Eq.trans (if_neg h3) (Eq.trans (if_neg h4) (Eq.trans (if_pos h5) (if_neg h6))))))
theorem zl_X10_compared_9 {R : Nat → Nat → Nat} {σ : SG} {o0 : Nat} {x1 : Int32} {x2 : Int32} {x3 : Int32} (h0 : ¬ x3 = 4) (h1 : ¬ x3 = 5) (h2 : x3 ≤ 11) (h3 : ¬ x3 = 2) (h4 : ¬ x3 = 3) (h5 : ¬ x3 = 6) (h6 : x3 = 7) : Z_X10_compared R σ o0 x1 x2 x3 = (Z_X10_lower R σ o0 (x1) (x2) (1) (1)) := by unfold Z_X10_compared; exact Eq.trans (if_neg h0) (Eq.trans (if_neg h1) (Eq.trans (if_pos h2) (Eq.trans (if_neg h3) (Eq.trans (if_neg h4) (Eq.trans (if_neg h5) (if_pos h6))))))
theorem zl_X10_compared_10 {R : Nat → Nat → Nat} {σ : SG} {o0 : Nat} {x1 : Int32} {x2 : Int32} {x3 : Int32} (h0 : ¬ x3 = 4) (h1 : ¬ x3 = 5) (h2 : x3 ≤ 11) (h3 : ¬ x3 = 2) (h4 : ¬ x3 = 3) (h5 : ¬ x3 = 6) (h6 : ¬ x3 = 7) : Z_X10_compared R σ o0 x1 x2 x3 = σ := by unfold Z_X10_compared; exact Eq.trans (if_neg h0) (Eq.trans (if_neg h1) (Eq.trans (if_pos h2) (Eq.trans (if_neg h3) (Eq.trans (if_neg h4) (Eq.trans (if_neg h5) (if_neg h6))))))
theorem zl_X10_compared_11 {R : Nat → Nat → Nat} {σ : SG} {o0 : Nat} {x1 : Int32} {x2 : Int32} {x3 : Int32} (h0 : ¬ x3 = 4) (h1 : ¬ x3 = 5) (h2 : ¬ x3 ≤ 11) (h3 : x3 = 13) (h4 : x3 = 12) : Z_X10_compared R σ o0 x1 x2 x3 = (Z_X10_below R σ o0 (x1) (x2) (1) (1)) := by unfold Z_X10_compared; exact Eq.trans (if_neg h0) (Eq.trans (if_neg h1) (Eq.trans (if_neg h2) (Eq.trans (if_pos h3) (if_pos h4))))
theorem zl_X10_compared_12 {R : Nat → Nat → Nat} {σ : SG} {o0 : Nat} {x1 : Int32} {x2 : Int32} {x3 : Int32} (h0 : ¬ x3 = 4) (h1 : ¬ x3 = 5) (h2 : ¬ x3 ≤ 11) (h3 : x3 = 13) (h4 : ¬ x3 = 12) (h5 : x3 = 15) : Z_X10_compared R σ o0 x1 x2 x3 = (Z_X10_below R σ o0 (x1) (x2) (1) (1)) := by unfold Z_X10_compared; exact Eq.trans (if_neg h0) (Eq.trans (if_neg h1) (Eq.trans (if_neg h2) (Eq.trans (if_pos h3) (Eq.trans (if_neg h4) (if_pos h5)))))
theorem zl_X10_compared_13 {R : Nat → Nat → Nat} {σ : SG} {o0 : Nat} {x1 : Int32} {x2 : Int32} {x3 : Int32} (h0 : ¬ x3 = 4) (h1 : ¬ x3 = 5) (h2 : ¬ x3 ≤ 11) (h3 : x3 = 13) (h4 : ¬ x3 = 12) (h5 : ¬ x3 = 15) : Z_X10_compared R σ o0 x1 x2 x3 = (Z_X10_below R σ o0 (x1) (x2) (1) (0)) := by unfold Z_X10_compared; exact Eq.trans (if_neg h0) (Eq.trans (if_neg h1) (Eq.trans (if_neg h2) (Eq.trans (if_pos h3) (Eq.trans (if_neg h4) (if_neg h5)))))
theorem zl_X10_compared_14 {R : Nat → Nat → Nat} {σ : SG} {o0 : Nat} {x1 : Int32} {x2 : Int32} {x3 : Int32} (h0 : ¬ x3 = 4) (h1 : ¬ x3 = 5) (h2 : ¬ x3 ≤ 11) (h3 : ¬ x3 = 13) (h4 : x3 = 15) (h5 : x3 = 12) : Z_X10_compared R σ o0 x1 x2 x3 = (Z_X10_below R σ o0 (x1) (x2) (1) (1)) := by unfold Z_X10_compared; exact Eq.trans (if_neg h0) (Eq.trans (if_neg h1) (Eq.trans (if_neg h2) (Eq.trans (if_neg h3) (Eq.trans (if_pos h4) (if_pos h5)))))
theorem zl_X10_compared_15 {R : Nat → Nat → Nat} {σ : SG} {o0 : Nat} {x1 : Int32} {x2 : Int32} {x3 : Int32} (h0 : ¬ x3 = 4) (h1 : ¬ x3 = 5) (h2 : ¬ x3 ≤ 11) (h3 : ¬ x3 = 13) (h4 : x3 = 15) (h5 : ¬ x3 = 12) : Z_X10_compared R σ o0 x1 x2 x3 = (Z_X10_below R σ o0 (x1) (x2) (1) (1)) := by unfold Z_X10_compared; exact Eq.trans (if_neg h0) (Eq.trans (if_neg h1) (Eq.trans (if_neg h2) (Eq.trans (if_neg h3) (Eq.trans (if_pos h4) (if_neg h5)))))
theorem zl_X10_compared_16 {R : Nat → Nat → Nat} {σ : SG} {o0 : Nat} {x1 : Int32} {x2 : Int32} {x3 : Int32} (h0 : ¬ x3 = 4) (h1 : ¬ x3 = 5) (h2 : ¬ x3 ≤ 11) (h3 : ¬ x3 = 13) (h4 : ¬ x3 = 15) (h5 : x3 = 12) : Z_X10_compared R σ o0 x1 x2 x3 = (Z_X10_below R σ o0 (x1) (x2) (0) (1)) := by unfold Z_X10_compared; exact Eq.trans (if_neg h0) (Eq.trans (if_neg h1) (Eq.trans (if_neg h2) (Eq.trans (if_neg h3) (Eq.trans (if_neg h4) (if_pos h5)))))
theorem zl_X10_compared_17 {R : Nat → Nat → Nat} {σ : SG} {o0 : Nat} {x1 : Int32} {x2 : Int32} {x3 : Int32} (h0 : ¬ x3 = 4) (h1 : ¬ x3 = 5) (h2 : ¬ x3 ≤ 11) (h3 : ¬ x3 = 13) (h4 : ¬ x3 = 15) (h5 : ¬ x3 = 12) : Z_X10_compared R σ o0 x1 x2 x3 = (Z_X10_below R σ o0 (x1) (x2) (0) (0)) := by unfold Z_X10_compared; exact Eq.trans (if_neg h0) (Eq.trans (if_neg h1) (Eq.trans (if_neg h2) (Eq.trans (if_neg h3) (Eq.trans (if_neg h4) (if_neg h5)))))
set_option maxHeartbeats 40000000 in
theorem cz_X10_compared {xi : SX} {S : Hp} {E : List Nat} {kc nc : Nat} {P : Po} {o0 : Nat} {x1 : Int32} {x2 : Int32} {x3 : Int32} {R : Nat → Nat → Nat} (hG : GI S E) (h0 : Oa S E 10 0 o0) (h1 : Rg (-1) 31 x1) (h2 : Rg (-1) 31 x2) (hR : RK S R) (hP : ∀ r T x y, PV E [676, 9989] S kc nc rV (fun v T => sg T = Z_X10_compared R (sg S) o0 x1 x2 x3) [] r T x y → P r T x y) : TT xi M_X10_compared 0 [(0, .ref o0), (1, .int x1), (2, .int x2), (3, .int x3)] [] S kc nc P := by
  have hA : Af E [676, 9989] S S := af_rf
  refine tt_iload_n (j := 3) dX10_compared_0 rfl ?_
  refine tt_iconst (v := 4) dX10_compared_1 rfl ?_
  refine tt_icmp_eq (tgt := 10) dX10_compared_2 rfl (fun q101 => ?_) (fun q101 => ?_)
  · skip
    have h102 : Rg 4 4 x3 := rg_eq_l (rg_all x3) (⟨by decide, by decide⟩ : Rg 4 4 4) q101
    refine tt_aload_n (j := 0) dX10_compared_10 rfl ?_
    refine tt_iload_n (j := 1) dX10_compared_11 rfl ?_
    refine tt_iload_n (j := 2) dX10_compared_12 rfl ?_
    refine tt_iload_n (j := 3) dX10_compared_13 rfl ?_
    refine tt_iconst (v := 4) dX10_compared_14 rfl ?_
    refine tt_icmp_ne (tgt := 22) dX10_compared_15 rfl (fun q => absurd q101 q) (fun _ => ?_)
    refine tt_iconst (v := 1) dX10_compared_18 rfl ?_
    refine tt_goto (tgt := 23) dX10_compared_19 rfl ?_
    refine gt_Vv (As := [.int x1, .int x2, .int 1]) dX10_compared_23 ca_X10_270 ⟨by decide, by decide⟩ h0 hA rfl (Nat.le_of_ble_eq_true rfl) (Nat.le_of_ble_eq_true rfl) (by decide) (cz_X10_equal hG (oa_af h0 hA) (rg_w h1) (rg_w h2) (rg_w (⟨by decide, by decide⟩ : Rg 1 1 1)) hR (fun _ _ _ _ h => h)) rfl (fun _ h => nomatch h) (fun S103 hx107 hG104 hB105 hA106 => ?_)
    obtain ⟨d108, hd109⟩ : ∃ q, Z_X10_equal R (sg S) o0 (x1) (x2) (1) = q := ⟨_, rfl⟩
    have hq110 := (congrArg (fun q9 => Z_X10_equal R q9 o0 (x1) (x2) (1)) (show sg S = (sg S) from rfl)).trans hd109
    have hs111 := hx107.trans hq110
    refine tt_goto (tgt := 138) dX10_compared_26 rfl ?_
    have hF : Z_X10_compared R (sg S) o0 x1 x2 x3 = d108 := by
      subst hd109
      exact zl_X10_compared_0 q101
    exact tt_vreturn dX10_compared_138 rfl (hP _ _ _ _ ⟨hG104, hA106, Or.inl ⟨_, rfl, rfl, Eq.trans hs111 hF.symm, rfl, rfl⟩⟩)
  · skip
    refine tt_iload_n (j := 3) dX10_compared_5 rfl ?_
    refine tt_iconst (v := 5) dX10_compared_6 rfl ?_
    refine tt_icmp_ne (tgt := 29) dX10_compared_7 rfl (fun q112 => ?_) (fun q112 => ?_)
    · skip
      refine tt_iload_n (j := 3) dX10_compared_29 rfl ?_
      refine tt_bipush (v := 11) dX10_compared_30 rfl ?_
      refine tt_icmp_le (tgt := 78) dX10_compared_32 rfl (fun q113 => ?_) (fun q113 => ?_)
      · skip
        have h114 : Rg (-2147483648) 11 x3 := rg_le_l (rg_all x3) (⟨by decide, by decide⟩ : Rg 11 11 11) q113
        refine tt_iload_n (j := 3) dX10_compared_78 rfl ?_
        refine tt_iconst (v := 2) dX10_compared_79 rfl ?_
        refine tt_icmp_eq (tgt := 100) dX10_compared_80 rfl (fun q115 => ?_) (fun q115 => ?_)
        · skip
          have h116 : Rg 2 2 x3 := rg_eq_l h114 (⟨by decide, by decide⟩ : Rg 2 2 2) q115
          refine tt_aload_n (j := 0) dX10_compared_100 rfl ?_
          refine tt_iload_n (j := 1) dX10_compared_101 rfl ?_
          refine tt_iload_n (j := 2) dX10_compared_102 rfl ?_
          refine tt_iload_n (j := 3) dX10_compared_103 rfl ?_
          refine tt_iconst (v := 3) dX10_compared_104 rfl ?_
          refine tt_icmp_eq (tgt := 114) dX10_compared_105 rfl (fun q117 => ?_) (fun q117 => ?_)
          · skip
            refine tt_iconst (v := 1) dX10_compared_114 rfl ?_
            refine tt_goto (tgt := 119) dX10_compared_115 rfl ?_
            refine tt_iload_n (j := 3) dX10_compared_119 rfl ?_
            refine tt_iconst (v := 2) dX10_compared_120 rfl ?_
            refine tt_icmp_eq (tgt := 130) dX10_compared_121 rfl (fun _ => ?_) (fun q => absurd q115 q)
            refine tt_iconst (v := 1) dX10_compared_130 rfl ?_
            refine tt_goto (tgt := 135) dX10_compared_131 rfl ?_
            refine gt_Vv (As := [.int x1, .int x2, .int 1, .int 1]) dX10_compared_135 ca_X10_278 ⟨by decide, by decide⟩ h0 hA rfl (Nat.le_of_ble_eq_true rfl) (Nat.le_of_ble_eq_true rfl) (by decide) (cz_X10_lower hG (oa_af h0 hA) (rg_w h1) (rg_w h2) (rg_w (⟨by decide, by decide⟩ : Rg 1 1 1)) (rg_w (⟨by decide, by decide⟩ : Rg 1 1 1)) hR (fun _ _ _ _ h => h)) rfl (fun _ h => nomatch h) (fun S118 hx122 hG119 hB120 hA121 => ?_)
            obtain ⟨d123, hd124⟩ : ∃ q, Z_X10_lower R (sg S) o0 (x1) (x2) (1) (1) = q := ⟨_, rfl⟩
            have hq125 := (congrArg (fun q9 => Z_X10_lower R q9 o0 (x1) (x2) (1) (1)) (show sg S = (sg S) from rfl)).trans hd124
            have hs126 := hx122.trans hq125
            have hF : Z_X10_compared R (sg S) o0 x1 x2 x3 = d123 := by
              subst hd124
              exact zl_X10_compared_2 q101 q112 q113 q115 q117
            exact tt_vreturn dX10_compared_138 rfl (hP _ _ _ _ ⟨hG119, hA121, Or.inl ⟨_, rfl, rfl, Eq.trans hs126 hF.symm, rfl, rfl⟩⟩)
          · skip
            refine tt_iload_n (j := 3) dX10_compared_108 rfl ?_
            refine tt_bipush (v := 7) dX10_compared_109 rfl ?_
            refine tt_icmp_ne (tgt := 118) dX10_compared_111 rfl (fun q127 => ?_) (fun q127 => ?_)
            · skip
              refine tt_iconst (v := 0) dX10_compared_118 rfl ?_
              refine tt_iload_n (j := 3) dX10_compared_119 rfl ?_
              refine tt_iconst (v := 2) dX10_compared_120 rfl ?_
              refine tt_icmp_eq (tgt := 130) dX10_compared_121 rfl (fun _ => ?_) (fun q => absurd q115 q)
              refine tt_iconst (v := 1) dX10_compared_130 rfl ?_
              refine tt_goto (tgt := 135) dX10_compared_131 rfl ?_
              refine gt_Vv (As := [.int x1, .int x2, .int 0, .int 1]) dX10_compared_135 ca_X10_278 ⟨by decide, by decide⟩ h0 hA rfl (Nat.le_of_ble_eq_true rfl) (Nat.le_of_ble_eq_true rfl) (by decide) (cz_X10_lower hG (oa_af h0 hA) (rg_w h1) (rg_w h2) (rg_w (⟨by decide, by decide⟩ : Rg 0 0 0)) (rg_w (⟨by decide, by decide⟩ : Rg 1 1 1)) hR (fun _ _ _ _ h => h)) rfl (fun _ h => nomatch h) (fun S128 hx132 hG129 hB130 hA131 => ?_)
              obtain ⟨d133, hd134⟩ : ∃ q, Z_X10_lower R (sg S) o0 (x1) (x2) (0) (1) = q := ⟨_, rfl⟩
              have hq135 := (congrArg (fun q9 => Z_X10_lower R q9 o0 (x1) (x2) (0) (1)) (show sg S = (sg S) from rfl)).trans hd134
              have hs136 := hx132.trans hq135
              have hF : Z_X10_compared R (sg S) o0 x1 x2 x3 = d133 := by
                subst hd134
                exact zl_X10_compared_4 q101 q112 q113 q115 q117 q127
              exact tt_vreturn dX10_compared_138 rfl (hP _ _ _ _ ⟨hG129, hA131, Or.inl ⟨_, rfl, rfl, Eq.trans hs136 hF.symm, rfl, rfl⟩⟩)
            · skip
              refine tt_iconst (v := 1) dX10_compared_114 rfl ?_
              refine tt_goto (tgt := 119) dX10_compared_115 rfl ?_
              refine tt_iload_n (j := 3) dX10_compared_119 rfl ?_
              refine tt_iconst (v := 2) dX10_compared_120 rfl ?_
              refine tt_icmp_eq (tgt := 130) dX10_compared_121 rfl (fun _ => ?_) (fun q => absurd q115 q)
              refine tt_iconst (v := 1) dX10_compared_130 rfl ?_
              refine tt_goto (tgt := 135) dX10_compared_131 rfl ?_
              refine gt_Vv (As := [.int x1, .int x2, .int 1, .int 1]) dX10_compared_135 ca_X10_278 ⟨by decide, by decide⟩ h0 hA rfl (Nat.le_of_ble_eq_true rfl) (Nat.le_of_ble_eq_true rfl) (by decide) (cz_X10_lower hG (oa_af h0 hA) (rg_w h1) (rg_w h2) (rg_w (⟨by decide, by decide⟩ : Rg 1 1 1)) (rg_w (⟨by decide, by decide⟩ : Rg 1 1 1)) hR (fun _ _ _ _ h => h)) rfl (fun _ h => nomatch h) (fun S137 hx141 hG138 hB139 hA140 => ?_)
              obtain ⟨d142, hd143⟩ : ∃ q, Z_X10_lower R (sg S) o0 (x1) (x2) (1) (1) = q := ⟨_, rfl⟩
              have hq144 := (congrArg (fun q9 => Z_X10_lower R q9 o0 (x1) (x2) (1) (1)) (show sg S = (sg S) from rfl)).trans hd143
              have hs145 := hx141.trans hq144
              have hF : Z_X10_compared R (sg S) o0 x1 x2 x3 = d142 := by
                subst hd143
                exact zl_X10_compared_3 q101 q112 q113 q115 q117 q127
              exact tt_vreturn dX10_compared_138 rfl (hP _ _ _ _ ⟨hG138, hA140, Or.inl ⟨_, rfl, rfl, Eq.trans hs145 hF.symm, rfl, rfl⟩⟩)
        · skip
          refine tt_iload_n (j := 3) dX10_compared_83 rfl ?_
          refine tt_iconst (v := 3) dX10_compared_84 rfl ?_
          refine tt_icmp_eq (tgt := 100) dX10_compared_85 rfl (fun q146 => ?_) (fun q146 => ?_)
          · skip
            have h147 : Rg 3 3 x3 := rg_eq_l h114 (⟨by decide, by decide⟩ : Rg 3 3 3) q146
            refine tt_aload_n (j := 0) dX10_compared_100 rfl ?_
            refine tt_iload_n (j := 1) dX10_compared_101 rfl ?_
            refine tt_iload_n (j := 2) dX10_compared_102 rfl ?_
            refine tt_iload_n (j := 3) dX10_compared_103 rfl ?_
            refine tt_iconst (v := 3) dX10_compared_104 rfl ?_
            refine tt_icmp_eq (tgt := 114) dX10_compared_105 rfl (fun _ => ?_) (fun q => absurd q146 q)
            refine tt_iconst (v := 1) dX10_compared_114 rfl ?_
            refine tt_goto (tgt := 119) dX10_compared_115 rfl ?_
            refine tt_iload_n (j := 3) dX10_compared_119 rfl ?_
            refine tt_iconst (v := 2) dX10_compared_120 rfl ?_
            refine tt_icmp_eq (tgt := 130) dX10_compared_121 rfl (fun q => absurd q q115) (fun _ => ?_)
            refine tt_iload_n (j := 3) dX10_compared_124 rfl ?_
            refine tt_bipush (v := 7) dX10_compared_125 rfl ?_
            refine tt_icmp_ne (tgt := 134) dX10_compared_127 rfl (fun q148 => ?_) (fun q148 => ?_)
            · skip
              refine tt_iconst (v := 0) dX10_compared_134 rfl ?_
              refine gt_Vv (As := [.int x1, .int x2, .int 1, .int 0]) dX10_compared_135 ca_X10_278 ⟨by decide, by decide⟩ h0 hA rfl (Nat.le_of_ble_eq_true rfl) (Nat.le_of_ble_eq_true rfl) (by decide) (cz_X10_lower hG (oa_af h0 hA) (rg_w h1) (rg_w h2) (rg_w (⟨by decide, by decide⟩ : Rg 1 1 1)) (rg_w (⟨by decide, by decide⟩ : Rg 0 0 0)) hR (fun _ _ _ _ h => h)) rfl (fun _ h => nomatch h) (fun S149 hx153 hG150 hB151 hA152 => ?_)
              obtain ⟨d154, hd155⟩ : ∃ q, Z_X10_lower R (sg S) o0 (x1) (x2) (1) (0) = q := ⟨_, rfl⟩
              have hq156 := (congrArg (fun q9 => Z_X10_lower R q9 o0 (x1) (x2) (1) (0)) (show sg S = (sg S) from rfl)).trans hd155
              have hs157 := hx153.trans hq156
              have hF : Z_X10_compared R (sg S) o0 x1 x2 x3 = d154 := by
                subst hd155
                exact zl_X10_compared_6 q101 q112 q113 q115 q146 q148
              exact tt_vreturn dX10_compared_138 rfl (hP _ _ _ _ ⟨hG150, hA152, Or.inl ⟨_, rfl, rfl, Eq.trans hs157 hF.symm, rfl, rfl⟩⟩)
            · skip
              refine tt_iconst (v := 1) dX10_compared_130 rfl ?_
              refine tt_goto (tgt := 135) dX10_compared_131 rfl ?_
              refine gt_Vv (As := [.int x1, .int x2, .int 1, .int 1]) dX10_compared_135 ca_X10_278 ⟨by decide, by decide⟩ h0 hA rfl (Nat.le_of_ble_eq_true rfl) (Nat.le_of_ble_eq_true rfl) (by decide) (cz_X10_lower hG (oa_af h0 hA) (rg_w h1) (rg_w h2) (rg_w (⟨by decide, by decide⟩ : Rg 1 1 1)) (rg_w (⟨by decide, by decide⟩ : Rg 1 1 1)) hR (fun _ _ _ _ h => h)) rfl (fun _ h => nomatch h) (fun S158 hx162 hG159 hB160 hA161 => ?_)
              obtain ⟨d163, hd164⟩ : ∃ q, Z_X10_lower R (sg S) o0 (x1) (x2) (1) (1) = q := ⟨_, rfl⟩
              have hq165 := (congrArg (fun q9 => Z_X10_lower R q9 o0 (x1) (x2) (1) (1)) (show sg S = (sg S) from rfl)).trans hd164
              have hs166 := hx162.trans hq165
              have hF : Z_X10_compared R (sg S) o0 x1 x2 x3 = d163 := by
                subst hd164
                exact zl_X10_compared_5 q101 q112 q113 q115 q146 q148
              exact tt_vreturn dX10_compared_138 rfl (hP _ _ _ _ ⟨hG159, hA161, Or.inl ⟨_, rfl, rfl, Eq.trans hs166 hF.symm, rfl, rfl⟩⟩)
          · skip
            refine tt_iload_n (j := 3) dX10_compared_88 rfl ?_
            refine tt_bipush (v := 6) dX10_compared_89 rfl ?_
            refine tt_icmp_eq (tgt := 100) dX10_compared_91 rfl (fun q167 => ?_) (fun q167 => ?_)
            · skip
              have h168 : Rg 6 6 x3 := rg_eq_l h114 (⟨by decide, by decide⟩ : Rg 6 6 6) q167
              refine tt_aload_n (j := 0) dX10_compared_100 rfl ?_
              refine tt_iload_n (j := 1) dX10_compared_101 rfl ?_
              refine tt_iload_n (j := 2) dX10_compared_102 rfl ?_
              refine tt_iload_n (j := 3) dX10_compared_103 rfl ?_
              refine tt_iconst (v := 3) dX10_compared_104 rfl ?_
              refine tt_icmp_eq (tgt := 114) dX10_compared_105 rfl (fun q => absurd q q146) (fun _ => ?_)
              refine tt_iload_n (j := 3) dX10_compared_108 rfl ?_
              refine tt_bipush (v := 7) dX10_compared_109 rfl ?_
              refine tt_icmp_ne (tgt := 118) dX10_compared_111 rfl (fun q169 => ?_) (fun q169 => ?_)
              · skip
                refine tt_iconst (v := 0) dX10_compared_118 rfl ?_
                refine tt_iload_n (j := 3) dX10_compared_119 rfl ?_
                refine tt_iconst (v := 2) dX10_compared_120 rfl ?_
                refine tt_icmp_eq (tgt := 130) dX10_compared_121 rfl (fun q => absurd q q115) (fun _ => ?_)
                refine tt_iload_n (j := 3) dX10_compared_124 rfl ?_
                refine tt_bipush (v := 7) dX10_compared_125 rfl ?_
                refine tt_icmp_ne (tgt := 134) dX10_compared_127 rfl (fun _ => ?_) (fun q => absurd q q169)
                refine tt_iconst (v := 0) dX10_compared_134 rfl ?_
                refine gt_Vv (As := [.int x1, .int x2, .int 0, .int 0]) dX10_compared_135 ca_X10_278 ⟨by decide, by decide⟩ h0 hA rfl (Nat.le_of_ble_eq_true rfl) (Nat.le_of_ble_eq_true rfl) (by decide) (cz_X10_lower hG (oa_af h0 hA) (rg_w h1) (rg_w h2) (rg_w (⟨by decide, by decide⟩ : Rg 0 0 0)) (rg_w (⟨by decide, by decide⟩ : Rg 0 0 0)) hR (fun _ _ _ _ h => h)) rfl (fun _ h => nomatch h) (fun S170 hx174 hG171 hB172 hA173 => ?_)
                obtain ⟨d175, hd176⟩ : ∃ q, Z_X10_lower R (sg S) o0 (x1) (x2) (0) (0) = q := ⟨_, rfl⟩
                have hq177 := (congrArg (fun q9 => Z_X10_lower R q9 o0 (x1) (x2) (0) (0)) (show sg S = (sg S) from rfl)).trans hd176
                have hs178 := hx174.trans hq177
                have hF : Z_X10_compared R (sg S) o0 x1 x2 x3 = d175 := by
                  subst hd176
                  exact zl_X10_compared_8 q101 q112 q113 q115 q146 q167 q169
                exact tt_vreturn dX10_compared_138 rfl (hP _ _ _ _ ⟨hG171, hA173, Or.inl ⟨_, rfl, rfl, Eq.trans hs178 hF.symm, rfl, rfl⟩⟩)
              · skip
                refine tt_iconst (v := 1) dX10_compared_114 rfl ?_
                refine tt_goto (tgt := 119) dX10_compared_115 rfl ?_
                refine tt_iload_n (j := 3) dX10_compared_119 rfl ?_
                refine tt_iconst (v := 2) dX10_compared_120 rfl ?_
                refine tt_icmp_eq (tgt := 130) dX10_compared_121 rfl (fun q => absurd q q115) (fun _ => ?_)
                refine tt_iload_n (j := 3) dX10_compared_124 rfl ?_
                refine tt_bipush (v := 7) dX10_compared_125 rfl ?_
                refine tt_icmp_ne (tgt := 134) dX10_compared_127 rfl (fun q => absurd q169 q) (fun _ => ?_)
                refine tt_iconst (v := 1) dX10_compared_130 rfl ?_
                refine tt_goto (tgt := 135) dX10_compared_131 rfl ?_
                refine gt_Vv (As := [.int x1, .int x2, .int 1, .int 1]) dX10_compared_135 ca_X10_278 ⟨by decide, by decide⟩ h0 hA rfl (Nat.le_of_ble_eq_true rfl) (Nat.le_of_ble_eq_true rfl) (by decide) (cz_X10_lower hG (oa_af h0 hA) (rg_w h1) (rg_w h2) (rg_w (⟨by decide, by decide⟩ : Rg 1 1 1)) (rg_w (⟨by decide, by decide⟩ : Rg 1 1 1)) hR (fun _ _ _ _ h => h)) rfl (fun _ h => nomatch h) (fun S179 hx183 hG180 hB181 hA182 => ?_)
                obtain ⟨d184, hd185⟩ : ∃ q, Z_X10_lower R (sg S) o0 (x1) (x2) (1) (1) = q := ⟨_, rfl⟩
                have hq186 := (congrArg (fun q9 => Z_X10_lower R q9 o0 (x1) (x2) (1) (1)) (show sg S = (sg S) from rfl)).trans hd185
                have hs187 := hx183.trans hq186
                have hF : Z_X10_compared R (sg S) o0 x1 x2 x3 = d184 := by
                  subst hd185
                  exact zl_X10_compared_7 q101 q112 q113 q115 q146 q167 q169
                exact tt_vreturn dX10_compared_138 rfl (hP _ _ _ _ ⟨hG180, hA182, Or.inl ⟨_, rfl, rfl, Eq.trans hs187 hF.symm, rfl, rfl⟩⟩)
            · skip
              refine tt_iload_n (j := 3) dX10_compared_94 rfl ?_
              refine tt_bipush (v := 7) dX10_compared_95 rfl ?_
              refine tt_icmp_ne (tgt := 138) dX10_compared_97 rfl (fun q188 => ?_) (fun q188 => ?_)
              · skip
                have hF : Z_X10_compared R (sg S) o0 x1 x2 x3 = (sg S) := by
                  exact zl_X10_compared_10 q101 q112 q113 q115 q146 q167 q188
                exact tt_vreturn dX10_compared_138 rfl (hP _ _ _ _ ⟨hG, hA, Or.inl ⟨_, rfl, rfl, Eq.trans (show sg S = (sg S) from rfl) hF.symm, rfl, rfl⟩⟩)
              · skip
                have h189 : Rg 7 7 x3 := rg_eq_l h114 (⟨by decide, by decide⟩ : Rg 7 7 7) q188
                refine tt_aload_n (j := 0) dX10_compared_100 rfl ?_
                refine tt_iload_n (j := 1) dX10_compared_101 rfl ?_
                refine tt_iload_n (j := 2) dX10_compared_102 rfl ?_
                refine tt_iload_n (j := 3) dX10_compared_103 rfl ?_
                refine tt_iconst (v := 3) dX10_compared_104 rfl ?_
                refine tt_icmp_eq (tgt := 114) dX10_compared_105 rfl (fun q => absurd q q146) (fun _ => ?_)
                refine tt_iload_n (j := 3) dX10_compared_108 rfl ?_
                refine tt_bipush (v := 7) dX10_compared_109 rfl ?_
                refine tt_icmp_ne (tgt := 118) dX10_compared_111 rfl (fun q => absurd q188 q) (fun _ => ?_)
                refine tt_iconst (v := 1) dX10_compared_114 rfl ?_
                refine tt_goto (tgt := 119) dX10_compared_115 rfl ?_
                refine tt_iload_n (j := 3) dX10_compared_119 rfl ?_
                refine tt_iconst (v := 2) dX10_compared_120 rfl ?_
                refine tt_icmp_eq (tgt := 130) dX10_compared_121 rfl (fun q => absurd q q115) (fun _ => ?_)
                refine tt_iload_n (j := 3) dX10_compared_124 rfl ?_
                refine tt_bipush (v := 7) dX10_compared_125 rfl ?_
                refine tt_icmp_ne (tgt := 134) dX10_compared_127 rfl (fun q => absurd q188 q) (fun _ => ?_)
                refine tt_iconst (v := 1) dX10_compared_130 rfl ?_
                refine tt_goto (tgt := 135) dX10_compared_131 rfl ?_
                refine gt_Vv (As := [.int x1, .int x2, .int 1, .int 1]) dX10_compared_135 ca_X10_278 ⟨by decide, by decide⟩ h0 hA rfl (Nat.le_of_ble_eq_true rfl) (Nat.le_of_ble_eq_true rfl) (by decide) (cz_X10_lower hG (oa_af h0 hA) (rg_w h1) (rg_w h2) (rg_w (⟨by decide, by decide⟩ : Rg 1 1 1)) (rg_w (⟨by decide, by decide⟩ : Rg 1 1 1)) hR (fun _ _ _ _ h => h)) rfl (fun _ h => nomatch h) (fun S190 hx194 hG191 hB192 hA193 => ?_)
                obtain ⟨d195, hd196⟩ : ∃ q, Z_X10_lower R (sg S) o0 (x1) (x2) (1) (1) = q := ⟨_, rfl⟩
                have hq197 := (congrArg (fun q9 => Z_X10_lower R q9 o0 (x1) (x2) (1) (1)) (show sg S = (sg S) from rfl)).trans hd196
                have hs198 := hx194.trans hq197
                have hF : Z_X10_compared R (sg S) o0 x1 x2 x3 = d195 := by
                  subst hd196
                  exact zl_X10_compared_9 q101 q112 q113 q115 q146 q167 q188
                exact tt_vreturn dX10_compared_138 rfl (hP _ _ _ _ ⟨hG191, hA193, Or.inl ⟨_, rfl, rfl, Eq.trans hs198 hF.symm, rfl, rfl⟩⟩)
      · skip
        have h199 : Rg 12 2147483647 x3 := rg_lt_r (⟨by decide, by decide⟩ : Rg 11 11 11) (rg_all x3) (nle_lt q113)
        refine tt_aload_n (j := 0) dX10_compared_35 rfl ?_
        refine tt_iload_n (j := 1) dX10_compared_36 rfl ?_
        refine tt_iload_n (j := 2) dX10_compared_37 rfl ?_
        refine tt_iload_n (j := 3) dX10_compared_38 rfl ?_
        refine tt_bipush (v := 13) dX10_compared_39 rfl ?_
        refine tt_icmp_eq (tgt := 50) dX10_compared_41 rfl (fun q200 => ?_) (fun q200 => ?_)
        · skip
          have h201 : Rg 13 13 x3 := rg_eq_l h199 (⟨by decide, by decide⟩ : Rg 13 13 13) q200
          refine tt_iconst (v := 1) dX10_compared_50 rfl ?_
          refine tt_goto (tgt := 55) dX10_compared_51 rfl ?_
          refine tt_iload_n (j := 3) dX10_compared_55 rfl ?_
          refine tt_bipush (v := 12) dX10_compared_56 rfl ?_
          refine tt_icmp_eq (tgt := 67) dX10_compared_58 rfl (fun q202 => ?_) (fun q202 => ?_)
          · skip
            refine tt_iconst (v := 1) dX10_compared_67 rfl ?_
            refine tt_goto (tgt := 72) dX10_compared_68 rfl ?_
            refine gt_Vv (As := [.int x1, .int x2, .int 1, .int 1]) dX10_compared_72 ca_X10_274 ⟨by decide, by decide⟩ h0 hA rfl (Nat.le_of_ble_eq_true rfl) (Nat.le_of_ble_eq_true rfl) (by decide) (cz_X10_below hG (oa_af h0 hA) (rg_w h1) (rg_w h2) (rg_w (⟨by decide, by decide⟩ : Rg 1 1 1)) (rg_w (⟨by decide, by decide⟩ : Rg 1 1 1)) hR (fun _ _ _ _ h => h)) rfl (fun _ h => nomatch h) (fun S203 hx207 hG204 hB205 hA206 => ?_)
            obtain ⟨d208, hd209⟩ : ∃ q, Z_X10_below R (sg S) o0 (x1) (x2) (1) (1) = q := ⟨_, rfl⟩
            have hq210 := (congrArg (fun q9 => Z_X10_below R q9 o0 (x1) (x2) (1) (1)) (show sg S = (sg S) from rfl)).trans hd209
            have hs211 := hx207.trans hq210
            refine tt_goto (tgt := 138) dX10_compared_75 rfl ?_
            have hF : Z_X10_compared R (sg S) o0 x1 x2 x3 = d208 := by
              subst hd209
              exact zl_X10_compared_11 q101 q112 q113 q200 q202
            exact tt_vreturn dX10_compared_138 rfl (hP _ _ _ _ ⟨hG204, hA206, Or.inl ⟨_, rfl, rfl, Eq.trans hs211 hF.symm, rfl, rfl⟩⟩)
          · skip
            refine tt_iload_n (j := 3) dX10_compared_61 rfl ?_
            refine tt_bipush (v := 15) dX10_compared_62 rfl ?_
            refine tt_icmp_ne (tgt := 71) dX10_compared_64 rfl (fun q212 => ?_) (fun q212 => ?_)
            · skip
              refine tt_iconst (v := 0) dX10_compared_71 rfl ?_
              refine gt_Vv (As := [.int x1, .int x2, .int 1, .int 0]) dX10_compared_72 ca_X10_274 ⟨by decide, by decide⟩ h0 hA rfl (Nat.le_of_ble_eq_true rfl) (Nat.le_of_ble_eq_true rfl) (by decide) (cz_X10_below hG (oa_af h0 hA) (rg_w h1) (rg_w h2) (rg_w (⟨by decide, by decide⟩ : Rg 1 1 1)) (rg_w (⟨by decide, by decide⟩ : Rg 0 0 0)) hR (fun _ _ _ _ h => h)) rfl (fun _ h => nomatch h) (fun S213 hx217 hG214 hB215 hA216 => ?_)
              obtain ⟨d218, hd219⟩ : ∃ q, Z_X10_below R (sg S) o0 (x1) (x2) (1) (0) = q := ⟨_, rfl⟩
              have hq220 := (congrArg (fun q9 => Z_X10_below R q9 o0 (x1) (x2) (1) (0)) (show sg S = (sg S) from rfl)).trans hd219
              have hs221 := hx217.trans hq220
              refine tt_goto (tgt := 138) dX10_compared_75 rfl ?_
              have hF : Z_X10_compared R (sg S) o0 x1 x2 x3 = d218 := by
                subst hd219
                exact zl_X10_compared_13 q101 q112 q113 q200 q202 q212
              exact tt_vreturn dX10_compared_138 rfl (hP _ _ _ _ ⟨hG214, hA216, Or.inl ⟨_, rfl, rfl, Eq.trans hs221 hF.symm, rfl, rfl⟩⟩)
            · skip
              refine tt_iconst (v := 1) dX10_compared_67 rfl ?_
              refine tt_goto (tgt := 72) dX10_compared_68 rfl ?_
              refine gt_Vv (As := [.int x1, .int x2, .int 1, .int 1]) dX10_compared_72 ca_X10_274 ⟨by decide, by decide⟩ h0 hA rfl (Nat.le_of_ble_eq_true rfl) (Nat.le_of_ble_eq_true rfl) (by decide) (cz_X10_below hG (oa_af h0 hA) (rg_w h1) (rg_w h2) (rg_w (⟨by decide, by decide⟩ : Rg 1 1 1)) (rg_w (⟨by decide, by decide⟩ : Rg 1 1 1)) hR (fun _ _ _ _ h => h)) rfl (fun _ h => nomatch h) (fun S222 hx226 hG223 hB224 hA225 => ?_)
              obtain ⟨d227, hd228⟩ : ∃ q, Z_X10_below R (sg S) o0 (x1) (x2) (1) (1) = q := ⟨_, rfl⟩
              have hq229 := (congrArg (fun q9 => Z_X10_below R q9 o0 (x1) (x2) (1) (1)) (show sg S = (sg S) from rfl)).trans hd228
              have hs230 := hx226.trans hq229
              refine tt_goto (tgt := 138) dX10_compared_75 rfl ?_
              have hF : Z_X10_compared R (sg S) o0 x1 x2 x3 = d227 := by
                subst hd228
                exact zl_X10_compared_12 q101 q112 q113 q200 q202 q212
              exact tt_vreturn dX10_compared_138 rfl (hP _ _ _ _ ⟨hG223, hA225, Or.inl ⟨_, rfl, rfl, Eq.trans hs230 hF.symm, rfl, rfl⟩⟩)
        · skip
          refine tt_iload_n (j := 3) dX10_compared_44 rfl ?_
          refine tt_bipush (v := 15) dX10_compared_45 rfl ?_
          refine tt_icmp_ne (tgt := 54) dX10_compared_47 rfl (fun q231 => ?_) (fun q231 => ?_)
          · skip
            refine tt_iconst (v := 0) dX10_compared_54 rfl ?_
            refine tt_iload_n (j := 3) dX10_compared_55 rfl ?_
            refine tt_bipush (v := 12) dX10_compared_56 rfl ?_
            refine tt_icmp_eq (tgt := 67) dX10_compared_58 rfl (fun q232 => ?_) (fun q232 => ?_)
            · skip
              have h233 : Rg 12 12 x3 := rg_eq_l h199 (⟨by decide, by decide⟩ : Rg 12 12 12) q232
              refine tt_iconst (v := 1) dX10_compared_67 rfl ?_
              refine tt_goto (tgt := 72) dX10_compared_68 rfl ?_
              refine gt_Vv (As := [.int x1, .int x2, .int 0, .int 1]) dX10_compared_72 ca_X10_274 ⟨by decide, by decide⟩ h0 hA rfl (Nat.le_of_ble_eq_true rfl) (Nat.le_of_ble_eq_true rfl) (by decide) (cz_X10_below hG (oa_af h0 hA) (rg_w h1) (rg_w h2) (rg_w (⟨by decide, by decide⟩ : Rg 0 0 0)) (rg_w (⟨by decide, by decide⟩ : Rg 1 1 1)) hR (fun _ _ _ _ h => h)) rfl (fun _ h => nomatch h) (fun S234 hx238 hG235 hB236 hA237 => ?_)
              obtain ⟨d239, hd240⟩ : ∃ q, Z_X10_below R (sg S) o0 (x1) (x2) (0) (1) = q := ⟨_, rfl⟩
              have hq241 := (congrArg (fun q9 => Z_X10_below R q9 o0 (x1) (x2) (0) (1)) (show sg S = (sg S) from rfl)).trans hd240
              have hs242 := hx238.trans hq241
              refine tt_goto (tgt := 138) dX10_compared_75 rfl ?_
              have hF : Z_X10_compared R (sg S) o0 x1 x2 x3 = d239 := by
                subst hd240
                exact zl_X10_compared_16 q101 q112 q113 q200 q231 q232
              exact tt_vreturn dX10_compared_138 rfl (hP _ _ _ _ ⟨hG235, hA237, Or.inl ⟨_, rfl, rfl, Eq.trans hs242 hF.symm, rfl, rfl⟩⟩)
            · skip
              have h243 : Rg 13 2147483647 x3 := rg_ne_lo h199 (⟨by decide, by decide⟩ : Rg 12 12 12) q232
              refine tt_iload_n (j := 3) dX10_compared_61 rfl ?_
              refine tt_bipush (v := 15) dX10_compared_62 rfl ?_
              refine tt_icmp_ne (tgt := 71) dX10_compared_64 rfl (fun _ => ?_) (fun q => absurd q q231)
              refine tt_iconst (v := 0) dX10_compared_71 rfl ?_
              refine gt_Vv (As := [.int x1, .int x2, .int 0, .int 0]) dX10_compared_72 ca_X10_274 ⟨by decide, by decide⟩ h0 hA rfl (Nat.le_of_ble_eq_true rfl) (Nat.le_of_ble_eq_true rfl) (by decide) (cz_X10_below hG (oa_af h0 hA) (rg_w h1) (rg_w h2) (rg_w (⟨by decide, by decide⟩ : Rg 0 0 0)) (rg_w (⟨by decide, by decide⟩ : Rg 0 0 0)) hR (fun _ _ _ _ h => h)) rfl (fun _ h => nomatch h) (fun S244 hx248 hG245 hB246 hA247 => ?_)
              obtain ⟨d249, hd250⟩ : ∃ q, Z_X10_below R (sg S) o0 (x1) (x2) (0) (0) = q := ⟨_, rfl⟩
              have hq251 := (congrArg (fun q9 => Z_X10_below R q9 o0 (x1) (x2) (0) (0)) (show sg S = (sg S) from rfl)).trans hd250
              have hs252 := hx248.trans hq251
              refine tt_goto (tgt := 138) dX10_compared_75 rfl ?_
              have hF : Z_X10_compared R (sg S) o0 x1 x2 x3 = d249 := by
                subst hd250
                exact zl_X10_compared_17 q101 q112 q113 q200 q231 q232
              exact tt_vreturn dX10_compared_138 rfl (hP _ _ _ _ ⟨hG245, hA247, Or.inl ⟨_, rfl, rfl, Eq.trans hs252 hF.symm, rfl, rfl⟩⟩)
          · skip
            have h253 : Rg 15 15 x3 := rg_eq_l h199 (⟨by decide, by decide⟩ : Rg 15 15 15) q231
            refine tt_iconst (v := 1) dX10_compared_50 rfl ?_
            refine tt_goto (tgt := 55) dX10_compared_51 rfl ?_
            refine tt_iload_n (j := 3) dX10_compared_55 rfl ?_
            refine tt_bipush (v := 12) dX10_compared_56 rfl ?_
            refine tt_icmp_eq (tgt := 67) dX10_compared_58 rfl (fun q254 => ?_) (fun q254 => ?_)
            · skip
              refine tt_iconst (v := 1) dX10_compared_67 rfl ?_
              refine tt_goto (tgt := 72) dX10_compared_68 rfl ?_
              refine gt_Vv (As := [.int x1, .int x2, .int 1, .int 1]) dX10_compared_72 ca_X10_274 ⟨by decide, by decide⟩ h0 hA rfl (Nat.le_of_ble_eq_true rfl) (Nat.le_of_ble_eq_true rfl) (by decide) (cz_X10_below hG (oa_af h0 hA) (rg_w h1) (rg_w h2) (rg_w (⟨by decide, by decide⟩ : Rg 1 1 1)) (rg_w (⟨by decide, by decide⟩ : Rg 1 1 1)) hR (fun _ _ _ _ h => h)) rfl (fun _ h => nomatch h) (fun S255 hx259 hG256 hB257 hA258 => ?_)
              obtain ⟨d260, hd261⟩ : ∃ q, Z_X10_below R (sg S) o0 (x1) (x2) (1) (1) = q := ⟨_, rfl⟩
              have hq262 := (congrArg (fun q9 => Z_X10_below R q9 o0 (x1) (x2) (1) (1)) (show sg S = (sg S) from rfl)).trans hd261
              have hs263 := hx259.trans hq262
              refine tt_goto (tgt := 138) dX10_compared_75 rfl ?_
              have hF : Z_X10_compared R (sg S) o0 x1 x2 x3 = d260 := by
                subst hd261
                exact zl_X10_compared_14 q101 q112 q113 q200 q231 q254
              exact tt_vreturn dX10_compared_138 rfl (hP _ _ _ _ ⟨hG256, hA258, Or.inl ⟨_, rfl, rfl, Eq.trans hs263 hF.symm, rfl, rfl⟩⟩)
            · skip
              refine tt_iload_n (j := 3) dX10_compared_61 rfl ?_
              refine tt_bipush (v := 15) dX10_compared_62 rfl ?_
              refine tt_icmp_ne (tgt := 71) dX10_compared_64 rfl (fun q => absurd q231 q) (fun _ => ?_)
              refine tt_iconst (v := 1) dX10_compared_67 rfl ?_
              refine tt_goto (tgt := 72) dX10_compared_68 rfl ?_
              refine gt_Vv (As := [.int x1, .int x2, .int 1, .int 1]) dX10_compared_72 ca_X10_274 ⟨by decide, by decide⟩ h0 hA rfl (Nat.le_of_ble_eq_true rfl) (Nat.le_of_ble_eq_true rfl) (by decide) (cz_X10_below hG (oa_af h0 hA) (rg_w h1) (rg_w h2) (rg_w (⟨by decide, by decide⟩ : Rg 1 1 1)) (rg_w (⟨by decide, by decide⟩ : Rg 1 1 1)) hR (fun _ _ _ _ h => h)) rfl (fun _ h => nomatch h) (fun S264 hx268 hG265 hB266 hA267 => ?_)
              obtain ⟨d269, hd270⟩ : ∃ q, Z_X10_below R (sg S) o0 (x1) (x2) (1) (1) = q := ⟨_, rfl⟩
              have hq271 := (congrArg (fun q9 => Z_X10_below R q9 o0 (x1) (x2) (1) (1)) (show sg S = (sg S) from rfl)).trans hd270
              have hs272 := hx268.trans hq271
              refine tt_goto (tgt := 138) dX10_compared_75 rfl ?_
              have hF : Z_X10_compared R (sg S) o0 x1 x2 x3 = d269 := by
                subst hd270
                exact zl_X10_compared_15 q101 q112 q113 q200 q231 q254
              exact tt_vreturn dX10_compared_138 rfl (hP _ _ _ _ ⟨hG265, hA267, Or.inl ⟨_, rfl, rfl, Eq.trans hs272 hF.symm, rfl, rfl⟩⟩)
    · skip
      have h273 : Rg 5 5 x3 := rg_eq_l (rg_all x3) (⟨by decide, by decide⟩ : Rg 5 5 5) q112
      refine tt_aload_n (j := 0) dX10_compared_10 rfl ?_
      refine tt_iload_n (j := 1) dX10_compared_11 rfl ?_
      refine tt_iload_n (j := 2) dX10_compared_12 rfl ?_
      refine tt_iload_n (j := 3) dX10_compared_13 rfl ?_
      refine tt_iconst (v := 4) dX10_compared_14 rfl ?_
      refine tt_icmp_ne (tgt := 22) dX10_compared_15 rfl (fun _ => ?_) (fun q => absurd q q101)
      refine tt_iconst (v := 0) dX10_compared_22 rfl ?_
      refine gt_Vv (As := [.int x1, .int x2, .int 0]) dX10_compared_23 ca_X10_270 ⟨by decide, by decide⟩ h0 hA rfl (Nat.le_of_ble_eq_true rfl) (Nat.le_of_ble_eq_true rfl) (by decide) (cz_X10_equal hG (oa_af h0 hA) (rg_w h1) (rg_w h2) (rg_w (⟨by decide, by decide⟩ : Rg 0 0 0)) hR (fun _ _ _ _ h => h)) rfl (fun _ h => nomatch h) (fun S274 hx278 hG275 hB276 hA277 => ?_)
      obtain ⟨d279, hd280⟩ : ∃ q, Z_X10_equal R (sg S) o0 (x1) (x2) (0) = q := ⟨_, rfl⟩
      have hq281 := (congrArg (fun q9 => Z_X10_equal R q9 o0 (x1) (x2) (0)) (show sg S = (sg S) from rfl)).trans hd280
      have hs282 := hx278.trans hq281
      refine tt_goto (tgt := 138) dX10_compared_26 rfl ?_
      have hF : Z_X10_compared R (sg S) o0 x1 x2 x3 = d279 := by
        subst hd280
        exact zl_X10_compared_1 q101 q112
      exact tt_vreturn dX10_compared_138 rfl (hP _ _ _ _ ⟨hG275, hA277, Or.inl ⟨_, rfl, rfl, Eq.trans hs282 hF.symm, rfl, rfl⟩⟩)
def Z_X10_goAlong_p244_b (f : (Nat → Nat → Nat) → SG → Nat → Int32 → Int32 → SG × Int32) (R : Nat → Nat → Nat) (σ : SG) (o0 : Nat) (x3 : Int32) (x4 : Int32) : SG × Int32 :=
  if 24 ≤ x4 then
    (σ, x3)
  else
    if x3 = 0 then
      f R σ o0 (0) ((x4 + 1))
    else
      if (mi σ (R 643 o0) ((4904 + x4) : Int32).toNatClampNeg) = 0 then
        f R σ o0 (0) ((x4 + 1))
      else
        f R σ o0 (1) ((x4 + 1))
def Z_X10_goAlong_p244 : Nat → (Nat → Nat → Nat) → SG → Nat → Int32 → Int32 → SG × Int32
  | 0 => fun R σ o0 x3 x4 => (σ, 0)
  | n + 1 => Z_X10_goAlong_p244_b (Z_X10_goAlong_p244 n)
theorem zl_X10_goAlong_p244_0 {f : (Nat → Nat → Nat) → SG → Nat → Int32 → Int32 → SG × Int32} {R : Nat → Nat → Nat} {σ : SG} {o0 : Nat} {x3 : Int32} {x4 : Int32} (h0 : 24 ≤ x4) : Z_X10_goAlong_p244_b f R σ o0 x3 x4 = (σ, x3) := by unfold Z_X10_goAlong_p244_b; exact if_pos h0
theorem zl_X10_goAlong_p244_1 {f : (Nat → Nat → Nat) → SG → Nat → Int32 → Int32 → SG × Int32} {R : Nat → Nat → Nat} {σ : SG} {o0 : Nat} {x3 : Int32} {x4 : Int32} (h0 : ¬ 24 ≤ x4) (h1 : x3 = 0) : Z_X10_goAlong_p244_b f R σ o0 x3 x4 = f R σ o0 (0) ((x4 + 1)) := by unfold Z_X10_goAlong_p244_b; exact Eq.trans (if_neg h0) (if_pos h1)
theorem zl_X10_goAlong_p244_2 {f : (Nat → Nat → Nat) → SG → Nat → Int32 → Int32 → SG × Int32} {R : Nat → Nat → Nat} {σ : SG} {o0 : Nat} {x3 : Int32} {x4 : Int32} (h0 : ¬ 24 ≤ x4) (h1 : ¬ x3 = 0) (h2 : (mi σ (R 643 o0) ((4904 + x4) : Int32).toNatClampNeg) = 0) : Z_X10_goAlong_p244_b f R σ o0 x3 x4 = f R σ o0 (0) ((x4 + 1)) := by unfold Z_X10_goAlong_p244_b; exact Eq.trans (if_neg h0) (Eq.trans (if_neg h1) (if_pos h2))
theorem zl_X10_goAlong_p244_3 {f : (Nat → Nat → Nat) → SG → Nat → Int32 → Int32 → SG × Int32} {R : Nat → Nat → Nat} {σ : SG} {o0 : Nat} {x3 : Int32} {x4 : Int32} (h0 : ¬ 24 ≤ x4) (h1 : ¬ x3 = 0) (h2 : ¬ (mi σ (R 643 o0) ((4904 + x4) : Int32).toNatClampNeg) = 0) : Z_X10_goAlong_p244_b f R σ o0 x3 x4 = f R σ o0 (1) ((x4 + 1)) := by unfold Z_X10_goAlong_p244_b; exact Eq.trans (if_neg h0) (Eq.trans (if_neg h1) (if_neg h2))
set_option maxHeartbeats 40000000 in
theorem cz_X10_goAlong_p244 {xi : SX} {E : List Nat} {kc nc : Nat} : ∀ (fu : Nat) {S : Hp} {P : Po} {o0 : Nat} {x3 : Int32} {x4 : Int32} {R : Nat → Nat → Nat} (hG : GI S E) (h0 : Oa S E 10 0 o0) (h3 : Rg 0 1 x3) (h4 : Rg 0 24 x4) (hR : RK S R) (hfu : (24 - x4.toInt).toNat < fu) (hP : ∀ r T x y, PV E [] S kc nc (rI 0 1) (fun v T => v = some (.int (Z_X10_goAlong_p244 fu R (sg S) o0 x3 x4).2) ∧ sg T = (Z_X10_goAlong_p244 fu R (sg S) o0 x3 x4).1) [] r T x y → P r T x y), TT xi M_X10_goAlong 244 [(0, .ref o0), (3, .int x3), (4, .int x4)] [] S kc nc P := by
  intro fu
  induction fu with
  | zero =>
    intro S P o0 x3 x4 R hG h0 h3 h4 hR hfu hP
    exact absurd hfu (Nat.not_lt_zero _)
  | succ fu ih =>
    intro S P o0 x3 x4 R hG h0 h3 h4 hR hfu hP
    have hA : Af E [] S S := af_rf
    refine tt_iload (j := 2) dX10_goAlong_244 rfl ?_
    refine tt_bipush (v := 24) dX10_goAlong_246 rfl ?_
    refine tt_icmp_ge (tgt := 281) dX10_goAlong_248 rfl (fun q101 => ?_) (fun q101 => ?_)
    · skip
      have h102 : Rg 24 24 x4 := rg_le_r (⟨by decide, by decide⟩ : Rg 24 24 24) h4 q101
      refine tt_iload_n (j := 1) dX10_goAlong_281 rfl ?_
      have hF : Z_X10_goAlong_p244 (fu + 1) R (sg S) o0 x3 x4 = ((sg S), x3) := by
        exact zl_X10_goAlong_p244_0 q101
      exact tt_ireturn dX10_goAlong_282 .boolean rfl (rg_nar (rg_w h3)) (hP _ _ _ _ ⟨hG, hA, Or.inl ⟨_, rfl, ⟨_, rfl, rg_w h3⟩, ⟨congrArg (fun q => some (Value.int q.2)) hF.symm, Eq.trans (show sg S = (sg S) from rfl) (congrArg Prod.fst hF).symm⟩, rfl, rfl⟩⟩)
    · skip
      have h103 : Rg 0 23 x4 := rg_lt_l h4 (⟨by decide, by decide⟩ : Rg 24 24 24) (nle_lt q101)
      refine tt_iload_n (j := 1) dX10_goAlong_251 rfl ?_
      refine tt_if_eq (tgt := 273) dX10_goAlong_252 rfl (fun q104 => ?_) (fun q104 => ?_)
      · skip
        have h105 : Rg 0 0 x3 := rg_eq_l h3 (⟨by decide, by decide⟩ : Rg 0 0 0) q104
        refine tt_iconst (v := 0) dX10_goAlong_273 rfl ?_
        refine tt_istore_n (ks := [0, 1, 2]) (L' := [(3, .int 0), (0, .ref o0), (4, .int x4)]) dX10_goAlong_274 (by decide) rfl ?_
        refine tt_iinc (j := 2) (v := (x4 + 1)) (ks := [0, 1, 2]) (L' := [(4, .int (x4 + 1)), (3, .int 0), (0, .ref o0)]) dX10_goAlong_275 rfl rfl (by decide) rfl ?_
        refine tt_goto (tgt := 244) dX10_goAlong_278 rfl ?_
        have hF : Z_X10_goAlong_p244 (fu + 1) R (sg S) o0 x3 x4 = Z_X10_goAlong_p244 fu R (sg S) o0 (0) ((x4 + 1)) := by
          exact zl_X10_goAlong_p244_1 q101 q104
        exact tt_loc (ks := [2, 1, 0]) rfl (ih hG (oa_af h0 hA) (rg_w (⟨by decide, by decide⟩ : Rg 0 0 0)) (rg_w (rg_add (lo := 1) (hi := 24) h103 (⟨by decide, by decide⟩ : Rg 1 1 1))) hR (lp_fu hfu h103) (fun r T x y h => hP r T x y (pv_tr hA h (by decide) (fun v T e => (((congrArg (fun q9 => Z_X10_goAlong_p244 fu R q9 o0 (0) ((x4 + 1))) (show sg S = (sg S) from rfl)).trans hF.symm) ▸ e)))))
      · skip
        have h106 : Rg 1 1 x3 := rg_ne_lo h3 (⟨by decide, by decide⟩ : Rg 0 0 0) q104
        refine tt_aload_n (j := 0) dX10_goAlong_255 rfl ?_
        have hr107 := rk_R (k := 643) hR h0 32 4940
        have ho108 := rk_O (k := 643) hG hR h0 32 4940
        refine gt_gR (id := 643) dX10_goAlong_256 fl_10_13 rfl rfl h0 hA hr107 ?_
        refine tt_sipush (v := 4904) dX10_goAlong_259 rfl ?_
        refine tt_iload (j := 2) dX10_goAlong_262 rfl ?_
        refine tt_iadd dX10_goAlong_264 ?_
        refine gx_iL (v := (mi (sg S) (R 643 o0) ((4904 + x4) : Int32).toNatClampNeg)) dX10_goAlong_265 ho108 hA (rg_in (rg_add (lo := 4904) (hi := 4927) (⟨by decide, by decide⟩ : Rg 4904 4904 4904) h103)) (sg_i (a := (R 643 o0)) (i := ((4904 + x4) : Int32).toNatClampNeg) (show sg S = (sg S) from rfl)) ?_
        refine tt_if_eq (tgt := 273) dX10_goAlong_266 rfl (fun q109 => ?_) (fun q109 => ?_)
        · skip
          have h110 : Rg 0 0 (mi (sg S) (R 643 o0) ((4904 + x4) : Int32).toNatClampNeg) := rg_eq_l (rg_all (mi (sg S) (R 643 o0) ((4904 + x4) : Int32).toNatClampNeg)) (⟨by decide, by decide⟩ : Rg 0 0 0) q109
          refine tt_iconst (v := 0) dX10_goAlong_273 rfl ?_
          refine tt_istore_n (ks := [0, 1, 2]) (L' := [(3, .int 0), (0, .ref o0), (4, .int x4)]) dX10_goAlong_274 (by decide) rfl ?_
          refine tt_iinc (j := 2) (v := (x4 + 1)) (ks := [0, 1, 2]) (L' := [(4, .int (x4 + 1)), (3, .int 0), (0, .ref o0)]) dX10_goAlong_275 rfl rfl (by decide) rfl ?_
          refine tt_goto (tgt := 244) dX10_goAlong_278 rfl ?_
          have hF : Z_X10_goAlong_p244 (fu + 1) R (sg S) o0 x3 x4 = Z_X10_goAlong_p244 fu R (sg S) o0 (0) ((x4 + 1)) := by
            exact zl_X10_goAlong_p244_2 q101 q104 q109
          exact tt_loc (ks := [2, 1, 0]) rfl (ih hG (oa_af h0 hA) (rg_w (⟨by decide, by decide⟩ : Rg 0 0 0)) (rg_w (rg_add (lo := 1) (hi := 24) h103 (⟨by decide, by decide⟩ : Rg 1 1 1))) hR (lp_fu hfu h103) (fun r T x y h => hP r T x y (pv_tr hA h (by decide) (fun v T e => (((congrArg (fun q9 => Z_X10_goAlong_p244 fu R q9 o0 (0) ((x4 + 1))) (show sg S = (sg S) from rfl)).trans hF.symm) ▸ e)))))
        · skip
          refine tt_iconst (v := 1) dX10_goAlong_269 rfl ?_
          refine tt_goto (tgt := 274) dX10_goAlong_270 rfl ?_
          refine tt_istore_n (ks := [0, 1, 2]) (L' := [(3, .int 1), (0, .ref o0), (4, .int x4)]) dX10_goAlong_274 (by decide) rfl ?_
          refine tt_iinc (j := 2) (v := (x4 + 1)) (ks := [0, 1, 2]) (L' := [(4, .int (x4 + 1)), (3, .int 1), (0, .ref o0)]) dX10_goAlong_275 rfl rfl (by decide) rfl ?_
          refine tt_goto (tgt := 244) dX10_goAlong_278 rfl ?_
          have hF : Z_X10_goAlong_p244 (fu + 1) R (sg S) o0 x3 x4 = Z_X10_goAlong_p244 fu R (sg S) o0 (1) ((x4 + 1)) := by
            exact zl_X10_goAlong_p244_3 q101 q104 q109
          exact tt_loc (ks := [2, 1, 0]) rfl (ih hG (oa_af h0 hA) (rg_w (⟨by decide, by decide⟩ : Rg 1 1 1)) (rg_w (rg_add (lo := 1) (hi := 24) h103 (⟨by decide, by decide⟩ : Rg 1 1 1))) hR (lp_fu hfu h103) (fun r T x y h => hP r T x y (pv_tr hA h (by decide) (fun v T e => (((congrArg (fun q9 => Z_X10_goAlong_p244 fu R q9 o0 (1) ((x4 + 1))) (show sg S = (sg S) from rfl)).trans hF.symm) ▸ e)))))
def Z_X10_goAlong_p228 (R : Nat → Nat → Nat) (σ : SG) (o0 : Nat) : SG × Int32 :=
  if (mI σ 676 o0) = 0 then
    Z_X10_goAlong_p244 25 R σ o0 (1) (0)
  else
    Z_X10_goAlong_p244 25 R σ o0 (0) (0)
theorem zl_X10_goAlong_p228_0 {R : Nat → Nat → Nat} {σ : SG} {o0 : Nat} (h0 : (mI σ 676 o0) = 0) : Z_X10_goAlong_p228 R σ o0 = Z_X10_goAlong_p244 25 R σ o0 (1) (0) := by unfold Z_X10_goAlong_p228; exact if_pos h0
theorem zl_X10_goAlong_p228_1 {R : Nat → Nat → Nat} {σ : SG} {o0 : Nat} (h0 : ¬ (mI σ 676 o0) = 0) : Z_X10_goAlong_p228 R σ o0 = Z_X10_goAlong_p244 25 R σ o0 (0) (0) := by unfold Z_X10_goAlong_p228; exact if_neg h0
set_option maxHeartbeats 40000000 in
theorem cz_X10_goAlong_p228 {xi : SX} {S : Hp} {E : List Nat} {kc nc : Nat} {P : Po} {o0 : Nat} {R : Nat → Nat → Nat} (hG : GI S E) (h0 : Oa S E 10 0 o0) (hR : RK S R) (hP : ∀ r T x y, PV E [] S kc nc (rI 0 1) (fun v T => v = some (.int (Z_X10_goAlong_p228 R (sg S) o0).2) ∧ sg T = (Z_X10_goAlong_p228 R (sg S) o0).1) [] r T x y → P r T x y) : TT xi M_X10_goAlong 228 [(0, .ref o0)] [] S kc nc P := by
  have hA : Af E [] S S := af_rf
  refine tt_aload_n (j := 0) dX10_goAlong_228 rfl ?_
  refine gt_gI (id := 676) (v := (mI (sg S) 676 o0)) dX10_goAlong_229 fl_10_250 rfl rfl h0 hA (sg_I (k := 676) (o := o0) (show sg S = (sg S) from rfl)) ?_
  refine tt_if_ne (tgt := 239) dX10_goAlong_232 rfl (fun q101 => ?_) (fun q101 => ?_)
  · skip
    have h102 : Rg 1 1 (mI (sg S) 676 o0) := rg_ne_lo (rg_cast (sg_I (k := 676) (o := o0) (show sg S = (sg S) from rfl)).symm (gi_I (k := 676) hG (oa_af h0 hA) 0 1)) (⟨by decide, by decide⟩ : Rg 0 0 0) q101
    refine tt_iconst (v := 0) dX10_goAlong_239 rfl ?_
    refine tt_istore_n (ks := [0, 1]) (L' := [(3, .int 0), (0, .ref o0)]) dX10_goAlong_240 (by decide) rfl ?_
    refine tt_iconst (v := 0) dX10_goAlong_241 rfl ?_
    refine tt_istore (ks := [0, 1, 2]) (L' := [(4, .int 0), (3, .int 0), (0, .ref o0)]) dX10_goAlong_242 (by decide) rfl ?_
    have hF : Z_X10_goAlong_p228 R (sg S) o0 = Z_X10_goAlong_p244 25 R (sg S) o0 (0) (0) := by
      exact zl_X10_goAlong_p228_1 q101
    exact tt_loc (ks := [2, 1, 0]) rfl (cz_X10_goAlong_p244 25 hG (oa_af h0 hA) (rg_w (⟨by decide, by decide⟩ : Rg 0 0 0)) (rg_w (⟨by decide, by decide⟩ : Rg 0 0 0)) hR (by decide) (fun r T x y h => hP r T x y (pv_tr hA h (by decide) (fun v T e => (((congrArg (fun q9 => Z_X10_goAlong_p244 25 R q9 o0 (0) (0)) (show sg S = (sg S) from rfl)).trans hF.symm) ▸ e)))))
  · skip
    have h103 : Rg 0 0 (mI (sg S) 676 o0) := rg_eq_l (rg_cast (sg_I (k := 676) (o := o0) (show sg S = (sg S) from rfl)).symm (gi_I (k := 676) hG (oa_af h0 hA) 0 1)) (⟨by decide, by decide⟩ : Rg 0 0 0) q101
    refine tt_iconst (v := 1) dX10_goAlong_235 rfl ?_
    refine tt_goto (tgt := 240) dX10_goAlong_236 rfl ?_
    refine tt_istore_n (ks := [0, 1]) (L' := [(3, .int 1), (0, .ref o0)]) dX10_goAlong_240 (by decide) rfl ?_
    refine tt_iconst (v := 0) dX10_goAlong_241 rfl ?_
    refine tt_istore (ks := [0, 1, 2]) (L' := [(4, .int 0), (3, .int 1), (0, .ref o0)]) dX10_goAlong_242 (by decide) rfl ?_
    have hF : Z_X10_goAlong_p228 R (sg S) o0 = Z_X10_goAlong_p244 25 R (sg S) o0 (1) (0) := by
      exact zl_X10_goAlong_p228_0 q101
    exact tt_loc (ks := [2, 1, 0]) rfl (cz_X10_goAlong_p244 25 hG (oa_af h0 hA) (rg_w (⟨by decide, by decide⟩ : Rg 1 1 1)) (rg_w (⟨by decide, by decide⟩ : Rg 0 0 0)) hR (by decide) (fun r T x y h => hP r T x y (pv_tr hA h (by decide) (fun v T e => (((congrArg (fun q9 => Z_X10_goAlong_p244 25 R q9 o0 (1) (0)) (show sg S = (sg S) from rfl)).trans hF.symm) ▸ e)))))
def Z_X10_goAlong_p142 (R : Nat → Nat → Nat) (σ : SG) (o0 : Nat) (x1 : Int32) (x3 : Int32) : SG × Int32 :=
  if x1 = 4 then
    let d108 := Z_X10_one R σ o0 (4929) (0)
    let d117 := Z_X10_equal R d108 o0 (x3) ((-1)) (1)
    Z_X10_goAlong_p228 R d117 o0
  else
    if x1 = 5 then
      let d150 := Z_X10_one R σ o0 (4929) (0)
      let d159 := Z_X10_equal R d150 o0 (x3) ((-1)) (0)
      Z_X10_goAlong_p228 R d159 o0
    else
      if x1 = 8 then
        let d140 := Z_X10_cut R σ o0 ((4904 + x3)) (4928) (0) (0) (1) ((-1))
        Z_X10_goAlong_p228 R d140 o0
      else
        if x1 = 9 then
          let d130 := Z_X10_cut R σ o0 ((4904 + x3)) (4928) (1) (0) (0) (0)
          Z_X10_goAlong_p228 R d130 o0
        else
          Z_X10_goAlong_p228 R σ o0
theorem zl_X10_goAlong_p142_0 {R : Nat → Nat → Nat} {σ : SG} {o0 : Nat} {x1 : Int32} {x3 : Int32} (h0 : x1 = 4) : Z_X10_goAlong_p142 R σ o0 x1 x3 = Z_X10_goAlong_p228 R (Z_X10_equal R (Z_X10_one R σ o0 (4929) (0)) o0 (x3) ((-1)) (1)) o0 := by unfold Z_X10_goAlong_p142; exact if_pos h0
theorem zl_X10_goAlong_p142_1 {R : Nat → Nat → Nat} {σ : SG} {o0 : Nat} {x1 : Int32} {x3 : Int32} (h0 : ¬ x1 = 4) (h1 : x1 = 5) : Z_X10_goAlong_p142 R σ o0 x1 x3 = Z_X10_goAlong_p228 R (Z_X10_equal R (Z_X10_one R σ o0 (4929) (0)) o0 (x3) ((-1)) (0)) o0 := by unfold Z_X10_goAlong_p142; exact Eq.trans (if_neg h0) (if_pos h1)
theorem zl_X10_goAlong_p142_2 {R : Nat → Nat → Nat} {σ : SG} {o0 : Nat} {x1 : Int32} {x3 : Int32} (h0 : ¬ x1 = 4) (h1 : ¬ x1 = 5) (h2 : x1 = 8) : Z_X10_goAlong_p142 R σ o0 x1 x3 = Z_X10_goAlong_p228 R (Z_X10_cut R σ o0 ((4904 + x3)) (4928) (0) (0) (1) ((-1))) o0 := by unfold Z_X10_goAlong_p142; exact Eq.trans (if_neg h0) (Eq.trans (if_neg h1) (if_pos h2))
theorem zl_X10_goAlong_p142_3 {R : Nat → Nat → Nat} {σ : SG} {o0 : Nat} {x1 : Int32} {x3 : Int32} (h0 : ¬ x1 = 4) (h1 : ¬ x1 = 5) (h2 : ¬ x1 = 8) (h3 : x1 = 9) : Z_X10_goAlong_p142 R σ o0 x1 x3 = Z_X10_goAlong_p228 R (Z_X10_cut R σ o0 ((4904 + x3)) (4928) (1) (0) (0) (0)) o0 := by unfold Z_X10_goAlong_p142; exact Eq.trans (if_neg h0) (Eq.trans (if_neg h1) (Eq.trans (if_neg h2) (if_pos h3)))
theorem zl_X10_goAlong_p142_4 {R : Nat → Nat → Nat} {σ : SG} {o0 : Nat} {x1 : Int32} {x3 : Int32} (h0 : ¬ x1 = 4) (h1 : ¬ x1 = 5) (h2 : ¬ x1 = 8) (h3 : ¬ x1 = 9) : Z_X10_goAlong_p142 R σ o0 x1 x3 = Z_X10_goAlong_p228 R σ o0 := by unfold Z_X10_goAlong_p142; exact Eq.trans (if_neg h0) (Eq.trans (if_neg h1) (Eq.trans (if_neg h2) (if_neg h3)))
set_option maxHeartbeats 40000000 in
theorem cz_X10_goAlong_p142 {xi : SX} {S : Hp} {E : List Nat} {kc nc : Nat} {P : Po} {o0 : Nat} {x1 : Int32} {x3 : Int32} {R : Nat → Nat → Nat} (hG : GI S E) (h0 : Oa S E 10 0 o0) (h3 : Rg (-1) 31 x3) (hR : RK S R) (hP : ∀ r T x y, PV E [676, 9989] S kc nc (rI 0 1) (fun v T => v = some (.int (Z_X10_goAlong_p142 R (sg S) o0 x1 x3).2) ∧ sg T = (Z_X10_goAlong_p142 R (sg S) o0 x1 x3).1) [] r T x y → P r T x y) : TT xi M_X10_goAlong 142 [(0, .ref o0), (1, .int x1), (3, .int x3)] [] S kc nc P := by
  have hA : Af E [676, 9989] S S := af_rf
  refine tt_iload_n (j := 1) dX10_goAlong_142 rfl ?_
  refine tt_iconst (v := 4) dX10_goAlong_143 rfl ?_
  refine tt_icmp_eq (tgt := 152) dX10_goAlong_144 rfl (fun q101 => ?_) (fun q101 => ?_)
  · skip
    have h102 : Rg 4 4 x1 := rg_eq_l (rg_all x1) (⟨by decide, by decide⟩ : Rg 4 4 4) q101
    refine tt_aload_n (j := 0) dX10_goAlong_152 rfl ?_
    refine tt_sipush (v := 4929) dX10_goAlong_153 rfl ?_
    refine tt_lconst (v := 0) dX10_goAlong_156 rfl ?_
    refine gt_Vv (As := [.int 4929, .long 0]) dX10_goAlong_157 ca_X10_193 ⟨by decide, by decide⟩ h0 hA rfl (Nat.le_of_ble_eq_true rfl) (Nat.le_of_ble_eq_true rfl) (by decide) (cz_X10_one hG (oa_af h0 hA) (rg_w (⟨by decide, by decide⟩ : Rg 4929 4929 4929)) hR (fun _ _ _ _ h => h)) rfl (fun _ h => nomatch h) (fun S103 hx107 hG104 hB105 hA106 => ?_)
    obtain ⟨d108, hd109⟩ : ∃ q, Z_X10_one R (sg S) o0 (4929) (0) = q := ⟨_, rfl⟩
    have hq110 := (congrArg (fun q9 => Z_X10_one R q9 o0 (4929) (0)) (show sg S = (sg S) from rfl)).trans hd109
    have hs111 := hx107.trans hq110
    refine tt_aload_n (j := 0) dX10_goAlong_160 rfl ?_
    refine tt_iload_n (j := 2) dX10_goAlong_161 rfl ?_
    refine tt_iconst (v := (-1)) dX10_goAlong_162 rfl ?_
    refine tt_iload_n (j := 1) dX10_goAlong_163 rfl ?_
    refine tt_iconst (v := 4) dX10_goAlong_164 rfl ?_
    refine tt_icmp_ne (tgt := 172) dX10_goAlong_165 rfl (fun q => absurd q101 q) (fun _ => ?_)
    refine tt_iconst (v := 1) dX10_goAlong_168 rfl ?_
    refine tt_goto (tgt := 173) dX10_goAlong_169 rfl ?_
    refine gt_Vv (As := [.int x3, .int (-1), .int 1]) dX10_goAlong_173 ca_X10_270 ⟨by decide, by decide⟩ h0 hA106 rfl (Nat.le_of_ble_eq_true rfl) (Nat.le_of_ble_eq_true rfl) (by decide) (cz_X10_equal hG104 (oa_af h0 hA106) (rg_w h3) (rg_w (⟨by decide, by decide⟩ : Rg (-1) (-1) (-1))) (rg_w (⟨by decide, by decide⟩ : Rg 1 1 1)) (rk_af hR hA106) (fun _ _ _ _ h => h)) rfl (fun _ h => nomatch h) (fun S112 hx116 hG113 hB114 hA115 => ?_)
    obtain ⟨d117, hd118⟩ : ∃ q, Z_X10_equal R d108 o0 (x3) ((-1)) (1) = q := ⟨_, rfl⟩
    have hq119 := (congrArg (fun q9 => Z_X10_equal R q9 o0 (x3) ((-1)) (1)) hs111).trans hd118
    have hs120 := hx116.trans hq119
    refine tt_goto (tgt := 228) dX10_goAlong_176 rfl ?_
    have hF : Z_X10_goAlong_p142 R (sg S) o0 x1 x3 = Z_X10_goAlong_p228 R d117 o0 := by
      subst hd118
      subst hd109
      exact zl_X10_goAlong_p142_0 q101
    exact tt_loc (ks := [0]) rfl (cz_X10_goAlong_p228 hG113 (oa_af h0 hA115) (rk_af hR hA115) (fun r T x y h => hP r T x y (pv_tr hA115 h (by decide) (fun v T e => (((congrArg (fun q9 => Z_X10_goAlong_p228 R q9 o0) hs120).trans hF.symm) ▸ e)))))
  · skip
    refine tt_iload_n (j := 1) dX10_goAlong_147 rfl ?_
    refine tt_iconst (v := 5) dX10_goAlong_148 rfl ?_
    refine tt_icmp_ne (tgt := 179) dX10_goAlong_149 rfl (fun q121 => ?_) (fun q121 => ?_)
    · skip
      refine tt_iload_n (j := 1) dX10_goAlong_179 rfl ?_
      refine tt_bipush (v := 8) dX10_goAlong_180 rfl ?_
      refine tt_icmp_ne (tgt := 206) dX10_goAlong_182 rfl (fun q122 => ?_) (fun q122 => ?_)
      · skip
        refine tt_iload_n (j := 1) dX10_goAlong_206 rfl ?_
        refine tt_bipush (v := 9) dX10_goAlong_207 rfl ?_
        refine tt_icmp_ne (tgt := 228) dX10_goAlong_209 rfl (fun q123 => ?_) (fun q123 => ?_)
        · skip
          have hF : Z_X10_goAlong_p142 R (sg S) o0 x1 x3 = Z_X10_goAlong_p228 R (sg S) o0 := by
            exact zl_X10_goAlong_p142_4 q101 q121 q122 q123
          exact tt_loc (ks := [0]) rfl (cz_X10_goAlong_p228 hG (oa_af h0 hA) hR (fun r T x y h => hP r T x y (pv_tr hA h (by decide) (fun v T e => (((congrArg (fun q9 => Z_X10_goAlong_p228 R q9 o0) (show sg S = (sg S) from rfl)).trans hF.symm) ▸ e)))))
        · skip
          have h124 : Rg 9 9 x1 := rg_eq_l (rg_all x1) (⟨by decide, by decide⟩ : Rg 9 9 9) q123
          refine tt_aload_n (j := 0) dX10_goAlong_212 rfl ?_
          refine tt_sipush (v := 4904) dX10_goAlong_213 rfl ?_
          refine tt_iload_n (j := 2) dX10_goAlong_216 rfl ?_
          refine tt_iadd dX10_goAlong_217 ?_
          refine tt_sipush (v := 4928) dX10_goAlong_218 rfl ?_
          refine tt_iconst (v := 1) dX10_goAlong_221 rfl ?_
          refine tt_lconst (v := 0) dX10_goAlong_222 rfl ?_
          refine tt_iconst (v := 0) dX10_goAlong_223 rfl ?_
          refine tt_lconst (v := 0) dX10_goAlong_224 rfl ?_
          refine gt_Vv (As := [.int (4904 + x3), .int 4928, .int 1, .long 0, .int 0, .long 0]) dX10_goAlong_225 ca_X10_263 ⟨by decide, by decide⟩ h0 hA rfl (Nat.le_of_ble_eq_true rfl) (Nat.le_of_ble_eq_true rfl) (by decide) (cz_X10_cut hG (oa_af h0 hA) (rg_w (rg_add (lo := 4903) (hi := 4935) (⟨by decide, by decide⟩ : Rg 4904 4904 4904) h3)) (rg_w (⟨by decide, by decide⟩ : Rg 4928 4928 4928)) (rg_w (⟨by decide, by decide⟩ : Rg 1 1 1)) (rg_w (⟨by decide, by decide⟩ : Rg 0 0 0)) hR (fun _ _ _ _ h => h)) rfl (fun _ h => nomatch h) (fun S125 hx129 hG126 hB127 hA128 => ?_)
          obtain ⟨d130, hd131⟩ : ∃ q, Z_X10_cut R (sg S) o0 ((4904 + x3)) (4928) (1) (0) (0) (0) = q := ⟨_, rfl⟩
          have hq132 := (congrArg (fun q9 => Z_X10_cut R q9 o0 ((4904 + x3)) (4928) (1) (0) (0) (0)) (show sg S = (sg S) from rfl)).trans hd131
          have hs133 := hx129.trans hq132
          have hF : Z_X10_goAlong_p142 R (sg S) o0 x1 x3 = Z_X10_goAlong_p228 R d130 o0 := by
            subst hd131
            exact zl_X10_goAlong_p142_3 q101 q121 q122 q123
          exact tt_loc (ks := [0]) rfl (cz_X10_goAlong_p228 hG126 (oa_af h0 hA128) (rk_af hR hA128) (fun r T x y h => hP r T x y (pv_tr hA128 h (by decide) (fun v T e => (((congrArg (fun q9 => Z_X10_goAlong_p228 R q9 o0) hs133).trans hF.symm) ▸ e)))))
      · skip
        have h134 : Rg 8 8 x1 := rg_eq_l (rg_all x1) (⟨by decide, by decide⟩ : Rg 8 8 8) q122
        refine tt_aload_n (j := 0) dX10_goAlong_185 rfl ?_
        refine tt_sipush (v := 4904) dX10_goAlong_186 rfl ?_
        refine tt_iload_n (j := 2) dX10_goAlong_189 rfl ?_
        refine tt_iadd dX10_goAlong_190 ?_
        refine tt_sipush (v := 4928) dX10_goAlong_191 rfl ?_
        refine tt_iconst (v := 0) dX10_goAlong_194 rfl ?_
        refine tt_lconst (v := 0) dX10_goAlong_195 rfl ?_
        refine tt_iconst (v := 1) dX10_goAlong_196 rfl ?_
        refine tt_ldc2 (v := (-1)) dX10_goAlong_197 kl_10_204 ?_
        refine gt_Vv (As := [.int (4904 + x3), .int 4928, .int 0, .long 0, .int 1, .long (-1)]) dX10_goAlong_200 ca_X10_263 ⟨by decide, by decide⟩ h0 hA rfl (Nat.le_of_ble_eq_true rfl) (Nat.le_of_ble_eq_true rfl) (by decide) (cz_X10_cut hG (oa_af h0 hA) (rg_w (rg_add (lo := 4903) (hi := 4935) (⟨by decide, by decide⟩ : Rg 4904 4904 4904) h3)) (rg_w (⟨by decide, by decide⟩ : Rg 4928 4928 4928)) (rg_w (⟨by decide, by decide⟩ : Rg 0 0 0)) (rg_w (⟨by decide, by decide⟩ : Rg 1 1 1)) hR (fun _ _ _ _ h => h)) rfl (fun _ h => nomatch h) (fun S135 hx139 hG136 hB137 hA138 => ?_)
        obtain ⟨d140, hd141⟩ : ∃ q, Z_X10_cut R (sg S) o0 ((4904 + x3)) (4928) (0) (0) (1) ((-1)) = q := ⟨_, rfl⟩
        have hq142 := (congrArg (fun q9 => Z_X10_cut R q9 o0 ((4904 + x3)) (4928) (0) (0) (1) ((-1))) (show sg S = (sg S) from rfl)).trans hd141
        have hs143 := hx139.trans hq142
        refine tt_goto (tgt := 228) dX10_goAlong_203 rfl ?_
        have hF : Z_X10_goAlong_p142 R (sg S) o0 x1 x3 = Z_X10_goAlong_p228 R d140 o0 := by
          subst hd141
          exact zl_X10_goAlong_p142_2 q101 q121 q122
        exact tt_loc (ks := [0]) rfl (cz_X10_goAlong_p228 hG136 (oa_af h0 hA138) (rk_af hR hA138) (fun r T x y h => hP r T x y (pv_tr hA138 h (by decide) (fun v T e => (((congrArg (fun q9 => Z_X10_goAlong_p228 R q9 o0) hs143).trans hF.symm) ▸ e)))))
    · skip
      have h144 : Rg 5 5 x1 := rg_eq_l (rg_all x1) (⟨by decide, by decide⟩ : Rg 5 5 5) q121
      refine tt_aload_n (j := 0) dX10_goAlong_152 rfl ?_
      refine tt_sipush (v := 4929) dX10_goAlong_153 rfl ?_
      refine tt_lconst (v := 0) dX10_goAlong_156 rfl ?_
      refine gt_Vv (As := [.int 4929, .long 0]) dX10_goAlong_157 ca_X10_193 ⟨by decide, by decide⟩ h0 hA rfl (Nat.le_of_ble_eq_true rfl) (Nat.le_of_ble_eq_true rfl) (by decide) (cz_X10_one hG (oa_af h0 hA) (rg_w (⟨by decide, by decide⟩ : Rg 4929 4929 4929)) hR (fun _ _ _ _ h => h)) rfl (fun _ h => nomatch h) (fun S145 hx149 hG146 hB147 hA148 => ?_)
      obtain ⟨d150, hd151⟩ : ∃ q, Z_X10_one R (sg S) o0 (4929) (0) = q := ⟨_, rfl⟩
      have hq152 := (congrArg (fun q9 => Z_X10_one R q9 o0 (4929) (0)) (show sg S = (sg S) from rfl)).trans hd151
      have hs153 := hx149.trans hq152
      refine tt_aload_n (j := 0) dX10_goAlong_160 rfl ?_
      refine tt_iload_n (j := 2) dX10_goAlong_161 rfl ?_
      refine tt_iconst (v := (-1)) dX10_goAlong_162 rfl ?_
      refine tt_iload_n (j := 1) dX10_goAlong_163 rfl ?_
      refine tt_iconst (v := 4) dX10_goAlong_164 rfl ?_
      refine tt_icmp_ne (tgt := 172) dX10_goAlong_165 rfl (fun _ => ?_) (fun q => absurd q q101)
      refine tt_iconst (v := 0) dX10_goAlong_172 rfl ?_
      refine gt_Vv (As := [.int x3, .int (-1), .int 0]) dX10_goAlong_173 ca_X10_270 ⟨by decide, by decide⟩ h0 hA148 rfl (Nat.le_of_ble_eq_true rfl) (Nat.le_of_ble_eq_true rfl) (by decide) (cz_X10_equal hG146 (oa_af h0 hA148) (rg_w h3) (rg_w (⟨by decide, by decide⟩ : Rg (-1) (-1) (-1))) (rg_w (⟨by decide, by decide⟩ : Rg 0 0 0)) (rk_af hR hA148) (fun _ _ _ _ h => h)) rfl (fun _ h => nomatch h) (fun S154 hx158 hG155 hB156 hA157 => ?_)
      obtain ⟨d159, hd160⟩ : ∃ q, Z_X10_equal R d150 o0 (x3) ((-1)) (0) = q := ⟨_, rfl⟩
      have hq161 := (congrArg (fun q9 => Z_X10_equal R q9 o0 (x3) ((-1)) (0)) hs153).trans hd160
      have hs162 := hx158.trans hq161
      refine tt_goto (tgt := 228) dX10_goAlong_176 rfl ?_
      have hF : Z_X10_goAlong_p142 R (sg S) o0 x1 x3 = Z_X10_goAlong_p228 R d159 o0 := by
        subst hd160
        subst hd151
        exact zl_X10_goAlong_p142_1 q101 q121
      exact tt_loc (ks := [0]) rfl (cz_X10_goAlong_p228 hG155 (oa_af h0 hA157) (rk_af hR hA157) (fun r T x y h => hP r T x y (pv_tr hA157 h (by decide) (fun v T e => (((congrArg (fun q9 => Z_X10_goAlong_p228 R q9 o0) hs162).trans hF.symm) ▸ e)))))
def Z_X10_goAlong_p33 (R : Nat → Nat → Nat) (σ : SG) (o0 : Nat) (x1 : Int32) : SG × Int32 :=
  if x1 < 0 then
    Z_X10_goAlong_p228 R σ o0
  else
    if (mi σ (R 649 o0) (201 : Int32).toNatClampNeg) ≤ 0 then
      Z_X10_goAlong_p228 R σ o0
    else
      let d116 := Z_X10_copy R σ o0 (4928) ((4856 + (mi σ (R 650 o0) (201 : Int32).toNatClampNeg)))
      if (mi σ (R 649 o0) (201 : Int32).toNatClampNeg) = 1 then
        let d153 := Z_X10_copy R d116 o0 (4929) ((4856 + (mi d116 (R 651 o0) (201 : Int32).toNatClampNeg)))
        let d162 := Z_X10_compared R d153 o0 ((mi σ (R 650 o0) (201 : Int32).toNatClampNeg)) ((mi d153 (R 651 o0) (201 : Int32).toNatClampNeg)) (x1)
        Z_X10_goAlong_p228 R d162 o0
      else
        if (mi σ (R 649 o0) (201 : Int32).toNatClampNeg) = 2 then
          let d132 := Z_X10_one R d116 o0 (4929) ((mj d116 (R 652 o0) (201 : Int32).toNatClampNeg))
          let d141 := Z_X10_compared R d132 o0 ((mi σ (R 650 o0) (201 : Int32).toNatClampNeg)) ((-1)) (x1)
          Z_X10_goAlong_p228 R d141 o0
        else
          Z_X10_goAlong_p142 R d116 o0 (x1) ((mi σ (R 650 o0) (201 : Int32).toNatClampNeg))
theorem zl_X10_goAlong_p33_0 {R : Nat → Nat → Nat} {σ : SG} {o0 : Nat} {x1 : Int32} (h0 : x1 < 0) : Z_X10_goAlong_p33 R σ o0 x1 = Z_X10_goAlong_p228 R σ o0 := by unfold Z_X10_goAlong_p33; exact if_pos h0
theorem zl_X10_goAlong_p33_1 {R : Nat → Nat → Nat} {σ : SG} {o0 : Nat} {x1 : Int32} (h0 : ¬ x1 < 0) (h1 : (mi σ (R 649 o0) (201 : Int32).toNatClampNeg) ≤ 0) : Z_X10_goAlong_p33 R σ o0 x1 = Z_X10_goAlong_p228 R σ o0 := by unfold Z_X10_goAlong_p33; exact Eq.trans (if_neg h0) (if_pos h1)
theorem zl_X10_goAlong_p33_2 {R : Nat → Nat → Nat} {σ : SG} {o0 : Nat} {x1 : Int32} (h0 : ¬ x1 < 0) (h1 : ¬ (mi σ (R 649 o0) (201 : Int32).toNatClampNeg) ≤ 0) (h2 : (mi σ (R 649 o0) (201 : Int32).toNatClampNeg) = 1) : Z_X10_goAlong_p33 R σ o0 x1 = Z_X10_goAlong_p228 R (Z_X10_compared R (Z_X10_copy R (Z_X10_copy R σ o0 (4928) ((4856 + (mi σ (R 650 o0) (201 : Int32).toNatClampNeg)))) o0 (4929) ((4856 + (mi (Z_X10_copy R σ o0 (4928) ((4856 + (mi σ (R 650 o0) (201 : Int32).toNatClampNeg)))) (R 651 o0) (201 : Int32).toNatClampNeg)))) o0 ((mi σ (R 650 o0) (201 : Int32).toNatClampNeg)) ((mi (Z_X10_copy R (Z_X10_copy R σ o0 (4928) ((4856 + (mi σ (R 650 o0) (201 : Int32).toNatClampNeg)))) o0 (4929) ((4856 + (mi (Z_X10_copy R σ o0 (4928) ((4856 + (mi σ (R 650 o0) (201 : Int32).toNatClampNeg)))) (R 651 o0) (201 : Int32).toNatClampNeg)))) (R 651 o0) (201 : Int32).toNatClampNeg)) (x1)) o0 := by unfold Z_X10_goAlong_p33; exact Eq.trans (if_neg h0) (Eq.trans (if_neg h1) (if_pos h2))
theorem zl_X10_goAlong_p33_3 {R : Nat → Nat → Nat} {σ : SG} {o0 : Nat} {x1 : Int32} (h0 : ¬ x1 < 0) (h1 : ¬ (mi σ (R 649 o0) (201 : Int32).toNatClampNeg) ≤ 0) (h2 : ¬ (mi σ (R 649 o0) (201 : Int32).toNatClampNeg) = 1) (h3 : (mi σ (R 649 o0) (201 : Int32).toNatClampNeg) = 2) : Z_X10_goAlong_p33 R σ o0 x1 = Z_X10_goAlong_p228 R (Z_X10_compared R (Z_X10_one R (Z_X10_copy R σ o0 (4928) ((4856 + (mi σ (R 650 o0) (201 : Int32).toNatClampNeg)))) o0 (4929) ((mj (Z_X10_copy R σ o0 (4928) ((4856 + (mi σ (R 650 o0) (201 : Int32).toNatClampNeg)))) (R 652 o0) (201 : Int32).toNatClampNeg))) o0 ((mi σ (R 650 o0) (201 : Int32).toNatClampNeg)) ((-1)) (x1)) o0 := by unfold Z_X10_goAlong_p33; exact Eq.trans (if_neg h0) (Eq.trans (if_neg h1) (Eq.trans (if_neg h2) (if_pos h3)))
theorem zl_X10_goAlong_p33_4 {R : Nat → Nat → Nat} {σ : SG} {o0 : Nat} {x1 : Int32} (h0 : ¬ x1 < 0) (h1 : ¬ (mi σ (R 649 o0) (201 : Int32).toNatClampNeg) ≤ 0) (h2 : ¬ (mi σ (R 649 o0) (201 : Int32).toNatClampNeg) = 1) (h3 : ¬ (mi σ (R 649 o0) (201 : Int32).toNatClampNeg) = 2) : Z_X10_goAlong_p33 R σ o0 x1 = Z_X10_goAlong_p142 R (Z_X10_copy R σ o0 (4928) ((4856 + (mi σ (R 650 o0) (201 : Int32).toNatClampNeg)))) o0 (x1) ((mi σ (R 650 o0) (201 : Int32).toNatClampNeg)) := by unfold Z_X10_goAlong_p33; exact Eq.trans (if_neg h0) (Eq.trans (if_neg h1) (Eq.trans (if_neg h2) (if_neg h3)))
set_option maxHeartbeats 40000000 in
theorem cz_X10_goAlong_p33 {xi : SX} {S : Hp} {E : List Nat} {kc nc : Nat} {P : Po} {o0 : Nat} {x1 : Int32} {R : Nat → Nat → Nat} (hG : GI S E) (h0 : Oa S E 10 0 o0) (hR : RK S R) (hP : ∀ r T x y, PV E [676, 9989] S kc nc (rI 0 1) (fun v T => v = some (.int (Z_X10_goAlong_p33 R (sg S) o0 x1).2) ∧ sg T = (Z_X10_goAlong_p33 R (sg S) o0 x1).1) [] r T x y → P r T x y) : TT xi M_X10_goAlong 33 [(0, .ref o0), (1, .int x1)] [] S kc nc P := by
  have hA : Af E [676, 9989] S S := af_rf
  refine tt_aload_n (j := 0) dX10_goAlong_33 rfl ?_
  have hr101 := rk_R (k := 649) hR h0 32 202
  have ho102 := rk_O (k := 649) hG hR h0 32 202
  refine gt_gR (id := 649) dX10_goAlong_34 fl_10_33 rfl rfl h0 hA hr101 ?_
  refine tt_sipush (v := 201) dX10_goAlong_37 rfl ?_
  refine gx_iL (v := (mi (sg S) (R 649 o0) (201 : Int32).toNatClampNeg)) dX10_goAlong_40 ho102 hA (rg_in (⟨by decide, by decide⟩ : Rg 201 201 201)) (sg_i (a := (R 649 o0)) (i := (201 : Int32).toNatClampNeg) (show sg S = (sg S) from rfl)) ?_
  refine tt_istore_n (ks := [0, 1, 2]) (L' := [(2, .int (mi (sg S) (R 649 o0) (201 : Int32).toNatClampNeg)), (0, .ref o0), (1, .int x1)]) dX10_goAlong_41 (by decide) rfl ?_
  refine tt_iload_n (j := 2) dX10_goAlong_42 rfl ?_
  refine tt_if_lt (tgt := 228) dX10_goAlong_43 rfl (fun q103 => ?_) (fun q103 => ?_)
  · skip
    have h104 : Rg (-2147483648) (-1) x1 := rg_lt_l (rg_all x1) (⟨by decide, by decide⟩ : Rg 0 0 0) q103
    have hF : Z_X10_goAlong_p33 R (sg S) o0 x1 = Z_X10_goAlong_p228 R (sg S) o0 := by
      exact zl_X10_goAlong_p33_0 q103
    exact tt_loc (ks := [1]) rfl (cz_X10_goAlong_p228 hG (oa_af h0 hA) hR (fun r T x y h => hP r T x y (pv_tr hA h (by decide) (fun v T e => (((congrArg (fun q9 => Z_X10_goAlong_p228 R q9 o0) (show sg S = (sg S) from rfl)).trans hF.symm) ▸ e)))))
  · skip
    have h105 : Rg 0 2147483647 x1 := rg_le_r (⟨by decide, by decide⟩ : Rg 0 0 0) (rg_all x1) (nlt_le q103)
    refine tt_iload_n (j := 0) dX10_goAlong_46 rfl ?_
    refine tt_if_le (tgt := 228) dX10_goAlong_47 rfl (fun q106 => ?_) (fun q106 => ?_)
    · skip
      have h107 : Rg (-1) 0 (mi (sg S) (R 649 o0) (201 : Int32).toNatClampNeg) := rg_le_l (rg_cast (sg_i (a := (R 649 o0)) (i := (201 : Int32).toNatClampNeg) (show sg S = (sg S) from rfl)).symm (gi_i hG (oa_af ho102 hA))) (⟨by decide, by decide⟩ : Rg 0 0 0) q106
      have hF : Z_X10_goAlong_p33 R (sg S) o0 x1 = Z_X10_goAlong_p228 R (sg S) o0 := by
        exact zl_X10_goAlong_p33_1 q103 q106
      exact tt_loc (ks := [1]) rfl (cz_X10_goAlong_p228 hG (oa_af h0 hA) hR (fun r T x y h => hP r T x y (pv_tr hA h (by decide) (fun v T e => (((congrArg (fun q9 => Z_X10_goAlong_p228 R q9 o0) (show sg S = (sg S) from rfl)).trans hF.symm) ▸ e)))))
    · skip
      have h108 : Rg 1 31 (mi (sg S) (R 649 o0) (201 : Int32).toNatClampNeg) := rg_lt_r (⟨by decide, by decide⟩ : Rg 0 0 0) (rg_cast (sg_i (a := (R 649 o0)) (i := (201 : Int32).toNatClampNeg) (show sg S = (sg S) from rfl)).symm (gi_i hG (oa_af ho102 hA))) (nle_lt q106)
      refine tt_aload_n (j := 1) dX10_goAlong_50 rfl ?_
      have hr109 := rk_R (k := 650) hR h0 32 202
      have ho110 := rk_O (k := 650) hG hR h0 32 202
      refine gt_gR (id := 650) dX10_goAlong_51 fl_10_36 rfl rfl h0 hA hr109 ?_
      refine tt_sipush (v := 201) dX10_goAlong_54 rfl ?_
      refine gx_iL (v := (mi (sg S) (R 650 o0) (201 : Int32).toNatClampNeg)) dX10_goAlong_57 ho110 hA (rg_in (⟨by decide, by decide⟩ : Rg 201 201 201)) (sg_i (a := (R 650 o0)) (i := (201 : Int32).toNatClampNeg) (show sg S = (sg S) from rfl)) ?_
      refine tt_istore_n (ks := [0, 1, 2, 3]) (L' := [(3, .int (mi (sg S) (R 650 o0) (201 : Int32).toNatClampNeg)), (2, .int (mi (sg S) (R 649 o0) (201 : Int32).toNatClampNeg)), (0, .ref o0), (1, .int x1)]) dX10_goAlong_58 (by decide) rfl ?_
      refine tt_aload_n (j := 2) dX10_goAlong_59 rfl ?_
      refine tt_sipush (v := 4928) dX10_goAlong_60 rfl ?_
      refine tt_sipush (v := 4856) dX10_goAlong_63 rfl ?_
      refine tt_iload_n (j := 0) dX10_goAlong_66 rfl ?_
      refine tt_iadd dX10_goAlong_67 ?_
      refine gt_Vv (As := [.int 4928, .int (4856 + (mi (sg S) (R 650 o0) (201 : Int32).toNatClampNeg))]) dX10_goAlong_68 ca_X10_169 ⟨by decide, by decide⟩ h0 hA rfl (Nat.le_of_ble_eq_true rfl) (Nat.le_of_ble_eq_true rfl) (by decide) (cz_X10_copy hG (oa_af h0 hA) (rg_w (⟨by decide, by decide⟩ : Rg 4928 4928 4928)) (rg_w (rg_add (lo := 4855) (hi := 4887) (⟨by decide, by decide⟩ : Rg 4856 4856 4856) (rg_cast (sg_i (a := (R 650 o0)) (i := (201 : Int32).toNatClampNeg) (show sg S = (sg S) from rfl)).symm (gi_i hG (oa_af ho110 hA))))) hR (fun _ _ _ _ h => h)) rfl (fun _ h => nomatch h) (fun S111 hx115 hG112 hB113 hA114 => ?_)
      obtain ⟨d116, hd117⟩ : ∃ q, Z_X10_copy R (sg S) o0 (4928) ((4856 + (mi (sg S) (R 650 o0) (201 : Int32).toNatClampNeg))) = q := ⟨_, rfl⟩
      have hq118 := (congrArg (fun q9 => Z_X10_copy R q9 o0 (4928) ((4856 + (mi (sg S) (R 650 o0) (201 : Int32).toNatClampNeg)))) (show sg S = (sg S) from rfl)).trans hd117
      have hs119 := hx115.trans hq118
      refine tt_iload_n (j := 1) dX10_goAlong_71 rfl ?_
      refine tt_iconst (v := 1) dX10_goAlong_72 rfl ?_
      refine tt_icmp_ne (tgt := 112) dX10_goAlong_73 rfl (fun q120 => ?_) (fun q120 => ?_)
      · skip
        have h121 : Rg 2 31 (mi (sg S) (R 649 o0) (201 : Int32).toNatClampNeg) := rg_ne_lo h108 (⟨by decide, by decide⟩ : Rg 1 1 1) q120
        refine tt_iload_n (j := 1) dX10_goAlong_112 rfl ?_
        refine tt_iconst (v := 2) dX10_goAlong_113 rfl ?_
        refine tt_icmp_ne (tgt := 142) dX10_goAlong_114 rfl (fun q122 => ?_) (fun q122 => ?_)
        · skip
          have h123 : Rg 3 31 (mi (sg S) (R 649 o0) (201 : Int32).toNatClampNeg) := rg_ne_lo h121 (⟨by decide, by decide⟩ : Rg 2 2 2) q122
          have hF : Z_X10_goAlong_p33 R (sg S) o0 x1 = Z_X10_goAlong_p142 R d116 o0 (x1) ((mi (sg S) (R 650 o0) (201 : Int32).toNatClampNeg)) := by
            subst hd117
            exact zl_X10_goAlong_p33_4 q103 q106 q120 q122
          exact tt_loc (ks := [2, 3, 0]) rfl (cz_X10_goAlong_p142 hG112 (oa_af h0 hA114) (rg_w (rg_cast (sg_i (a := (R 650 o0)) (i := (201 : Int32).toNatClampNeg) (show sg S = (sg S) from rfl)).symm (gi_i hG (oa_af ho110 hA)))) (rk_af hR hA114) (fun r T x y h => hP r T x y (pv_tr hA114 h (by decide) (fun v T e => (((congrArg (fun q9 => Z_X10_goAlong_p142 R q9 o0 (x1) ((mi (sg S) (R 650 o0) (201 : Int32).toNatClampNeg))) hs119).trans hF.symm) ▸ e)))))
        · skip
          have h124 : Rg 2 2 (mi (sg S) (R 649 o0) (201 : Int32).toNatClampNeg) := rg_eq_l h121 (⟨by decide, by decide⟩ : Rg 2 2 2) q122
          refine tt_aload_n (j := 2) dX10_goAlong_117 rfl ?_
          refine tt_sipush (v := 4929) dX10_goAlong_118 rfl ?_
          refine tt_aload_n (j := 2) dX10_goAlong_121 rfl ?_
          have hr125 := rk_R (k := 652) hR h0 33 202
          have ho126 := rk_O (k := 652) hG hR h0 33 202
          refine gt_gR (id := 652) dX10_goAlong_122 fl_10_42 rfl rfl h0 hA114 hr125 ?_
          refine tt_sipush (v := 201) dX10_goAlong_125 rfl ?_
          refine gt_lLv (v := (mj d116 (R 652 o0) (201 : Int32).toNatClampNeg)) dX10_goAlong_128 ho126 hA114 (rg_in (⟨by decide, by decide⟩ : Rg 201 201 201)) (sg_j (a := (R 652 o0)) (i := (201 : Int32).toNatClampNeg) hs119) ?_
          refine gt_Vv (As := [.int 4929, .long (mj d116 (R 652 o0) (201 : Int32).toNatClampNeg)]) dX10_goAlong_129 ca_X10_193 ⟨by decide, by decide⟩ h0 hA114 rfl (Nat.le_of_ble_eq_true rfl) (Nat.le_of_ble_eq_true rfl) (by decide) (cz_X10_one hG112 (oa_af h0 hA114) (rg_w (⟨by decide, by decide⟩ : Rg 4929 4929 4929)) (rk_af hR hA114) (fun _ _ _ _ h => h)) rfl (fun _ h => nomatch h) (fun S127 hx131 hG128 hB129 hA130 => ?_)
          obtain ⟨d132, hd133⟩ : ∃ q, Z_X10_one R d116 o0 (4929) ((mj d116 (R 652 o0) (201 : Int32).toNatClampNeg)) = q := ⟨_, rfl⟩
          have hq134 := (congrArg (fun q9 => Z_X10_one R q9 o0 (4929) ((mj d116 (R 652 o0) (201 : Int32).toNatClampNeg))) hs119).trans hd133
          have hs135 := hx131.trans hq134
          refine tt_aload_n (j := 2) dX10_goAlong_132 rfl ?_
          refine tt_iload_n (j := 0) dX10_goAlong_133 rfl ?_
          refine tt_iconst (v := (-1)) dX10_goAlong_134 rfl ?_
          refine tt_iload_n (j := 3) dX10_goAlong_135 rfl ?_
          refine gt_Vv (As := [.int (mi (sg S) (R 650 o0) (201 : Int32).toNatClampNeg), .int (-1), .int x1]) dX10_goAlong_136 ca_X10_281 ⟨by decide, by decide⟩ h0 hA130 rfl (Nat.le_of_ble_eq_true rfl) (Nat.le_of_ble_eq_true rfl) (by decide) (cz_X10_compared hG128 (oa_af h0 hA130) (rg_w (rg_cast (sg_i (a := (R 650 o0)) (i := (201 : Int32).toNatClampNeg) (show sg S = (sg S) from rfl)).symm (gi_i hG (oa_af ho110 hA)))) (rg_w (⟨by decide, by decide⟩ : Rg (-1) (-1) (-1))) (rk_af hR hA130) (fun _ _ _ _ h => h)) rfl (fun _ h => nomatch h) (fun S136 hx140 hG137 hB138 hA139 => ?_)
          obtain ⟨d141, hd142⟩ : ∃ q, Z_X10_compared R d132 o0 ((mi (sg S) (R 650 o0) (201 : Int32).toNatClampNeg)) ((-1)) (x1) = q := ⟨_, rfl⟩
          have hq143 := (congrArg (fun q9 => Z_X10_compared R q9 o0 ((mi (sg S) (R 650 o0) (201 : Int32).toNatClampNeg)) ((-1)) (x1)) hs135).trans hd142
          have hs144 := hx140.trans hq143
          refine tt_goto (tgt := 228) dX10_goAlong_139 rfl ?_
          have hF : Z_X10_goAlong_p33 R (sg S) o0 x1 = Z_X10_goAlong_p228 R d141 o0 := by
            subst hd142
            subst hd133
            subst hd117
            exact zl_X10_goAlong_p33_3 q103 q106 q120 q122
          exact tt_loc (ks := [2]) rfl (cz_X10_goAlong_p228 hG137 (oa_af h0 hA139) (rk_af hR hA139) (fun r T x y h => hP r T x y (pv_tr hA139 h (by decide) (fun v T e => (((congrArg (fun q9 => Z_X10_goAlong_p228 R q9 o0) hs144).trans hF.symm) ▸ e)))))
      · skip
        have h145 : Rg 1 1 (mi (sg S) (R 649 o0) (201 : Int32).toNatClampNeg) := rg_eq_l h108 (⟨by decide, by decide⟩ : Rg 1 1 1) q120
        refine tt_aload_n (j := 2) dX10_goAlong_76 rfl ?_
        refine tt_sipush (v := 4929) dX10_goAlong_77 rfl ?_
        refine tt_sipush (v := 4856) dX10_goAlong_80 rfl ?_
        refine tt_aload_n (j := 2) dX10_goAlong_83 rfl ?_
        have hr146 := rk_R (k := 651) hR h0 32 202
        have ho147 := rk_O (k := 651) hG hR h0 32 202
        refine gt_gR (id := 651) dX10_goAlong_84 fl_10_39 rfl rfl h0 hA114 hr146 ?_
        refine tt_sipush (v := 201) dX10_goAlong_87 rfl ?_
        refine gx_iL (v := (mi d116 (R 651 o0) (201 : Int32).toNatClampNeg)) dX10_goAlong_90 ho147 hA114 (rg_in (⟨by decide, by decide⟩ : Rg 201 201 201)) (sg_i (a := (R 651 o0)) (i := (201 : Int32).toNatClampNeg) hs119) ?_
        refine tt_iadd dX10_goAlong_91 ?_
        refine gt_Vv (As := [.int 4929, .int (4856 + (mi d116 (R 651 o0) (201 : Int32).toNatClampNeg))]) dX10_goAlong_92 ca_X10_169 ⟨by decide, by decide⟩ h0 hA114 rfl (Nat.le_of_ble_eq_true rfl) (Nat.le_of_ble_eq_true rfl) (by decide) (cz_X10_copy hG112 (oa_af h0 hA114) (rg_w (⟨by decide, by decide⟩ : Rg 4929 4929 4929)) (rg_w (rg_add (lo := 4855) (hi := 4887) (⟨by decide, by decide⟩ : Rg 4856 4856 4856) (rg_cast (sg_i (a := (R 651 o0)) (i := (201 : Int32).toNatClampNeg) hs119).symm (gi_i hG112 (oa_af ho147 hA114))))) (rk_af hR hA114) (fun _ _ _ _ h => h)) rfl (fun _ h => nomatch h) (fun S148 hx152 hG149 hB150 hA151 => ?_)
        obtain ⟨d153, hd154⟩ : ∃ q, Z_X10_copy R d116 o0 (4929) ((4856 + (mi d116 (R 651 o0) (201 : Int32).toNatClampNeg))) = q := ⟨_, rfl⟩
        have hq155 := (congrArg (fun q9 => Z_X10_copy R q9 o0 (4929) ((4856 + (mi d116 (R 651 o0) (201 : Int32).toNatClampNeg)))) hs119).trans hd154
        have hs156 := hx152.trans hq155
        refine tt_aload_n (j := 2) dX10_goAlong_95 rfl ?_
        refine tt_iload_n (j := 0) dX10_goAlong_96 rfl ?_
        refine tt_aload_n (j := 2) dX10_goAlong_97 rfl ?_
        refine gt_gR (id := 651) dX10_goAlong_98 fl_10_39 rfl rfl h0 hA151 hr146 ?_
        refine tt_sipush (v := 201) dX10_goAlong_101 rfl ?_
        refine gx_iL (v := (mi d153 (R 651 o0) (201 : Int32).toNatClampNeg)) dX10_goAlong_104 ho147 hA151 (rg_in (⟨by decide, by decide⟩ : Rg 201 201 201)) (sg_i (a := (R 651 o0)) (i := (201 : Int32).toNatClampNeg) hs156) ?_
        refine tt_iload_n (j := 3) dX10_goAlong_105 rfl ?_
        refine gt_Vv (As := [.int (mi (sg S) (R 650 o0) (201 : Int32).toNatClampNeg), .int (mi d153 (R 651 o0) (201 : Int32).toNatClampNeg), .int x1]) dX10_goAlong_106 ca_X10_281 ⟨by decide, by decide⟩ h0 hA151 rfl (Nat.le_of_ble_eq_true rfl) (Nat.le_of_ble_eq_true rfl) (by decide) (cz_X10_compared hG149 (oa_af h0 hA151) (rg_w (rg_cast (sg_i (a := (R 650 o0)) (i := (201 : Int32).toNatClampNeg) (show sg S = (sg S) from rfl)).symm (gi_i hG (oa_af ho110 hA)))) (rg_w (rg_cast (sg_i (a := (R 651 o0)) (i := (201 : Int32).toNatClampNeg) hs156).symm (gi_i hG149 (oa_af ho147 hA151)))) (rk_af hR hA151) (fun _ _ _ _ h => h)) rfl (fun _ h => nomatch h) (fun S157 hx161 hG158 hB159 hA160 => ?_)
        obtain ⟨d162, hd163⟩ : ∃ q, Z_X10_compared R d153 o0 ((mi (sg S) (R 650 o0) (201 : Int32).toNatClampNeg)) ((mi d153 (R 651 o0) (201 : Int32).toNatClampNeg)) (x1) = q := ⟨_, rfl⟩
        have hq164 := (congrArg (fun q9 => Z_X10_compared R q9 o0 ((mi (sg S) (R 650 o0) (201 : Int32).toNatClampNeg)) ((mi d153 (R 651 o0) (201 : Int32).toNatClampNeg)) (x1)) hs156).trans hd163
        have hs165 := hx161.trans hq164
        refine tt_goto (tgt := 228) dX10_goAlong_109 rfl ?_
        have hF : Z_X10_goAlong_p33 R (sg S) o0 x1 = Z_X10_goAlong_p228 R d162 o0 := by
          subst hd163
          subst hd154
          subst hd117
          exact zl_X10_goAlong_p33_2 q103 q106 q120
        exact tt_loc (ks := [2]) rfl (cz_X10_goAlong_p228 hG158 (oa_af h0 hA160) (rk_af hR hA160) (fun r T x y h => hP r T x y (pv_tr hA160 h (by decide) (fun v T e => (((congrArg (fun q9 => Z_X10_goAlong_p228 R q9 o0) hs165).trans hF.symm) ▸ e)))))
def Z_X10_goAlong_p7_b (f : (Nat → Nat → Nat) → SG → Nat → Int32 → Int32 → SG × Int32) (R : Nat → Nat → Nat) (σ : SG) (o0 : Nat) (x1 : Int32) (x2 : Int32) : SG × Int32 :=
  if 24 ≤ x2 then
    Z_X10_goAlong_p33 R σ o0 (x1)
  else
    let d109 := Z_X10_copy R σ o0 ((4904 + x2)) ((4856 + x2))
    f R d109 o0 (x1) ((x2 + 1))
def Z_X10_goAlong_p7 : Nat → (Nat → Nat → Nat) → SG → Nat → Int32 → Int32 → SG × Int32
  | 0 => fun R σ o0 x1 x2 => (σ, 0)
  | n + 1 => Z_X10_goAlong_p7_b (Z_X10_goAlong_p7 n)
theorem zl_X10_goAlong_p7_0 {f : (Nat → Nat → Nat) → SG → Nat → Int32 → Int32 → SG × Int32} {R : Nat → Nat → Nat} {σ : SG} {o0 : Nat} {x1 : Int32} {x2 : Int32} (h0 : 24 ≤ x2) : Z_X10_goAlong_p7_b f R σ o0 x1 x2 = Z_X10_goAlong_p33 R σ o0 (x1) := by unfold Z_X10_goAlong_p7_b; exact if_pos h0
theorem zl_X10_goAlong_p7_1 {f : (Nat → Nat → Nat) → SG → Nat → Int32 → Int32 → SG × Int32} {R : Nat → Nat → Nat} {σ : SG} {o0 : Nat} {x1 : Int32} {x2 : Int32} (h0 : ¬ 24 ≤ x2) : Z_X10_goAlong_p7_b f R σ o0 x1 x2 = f R (Z_X10_copy R σ o0 ((4904 + x2)) ((4856 + x2))) o0 (x1) ((x2 + 1)) := by unfold Z_X10_goAlong_p7_b; exact if_neg h0
set_option maxHeartbeats 40000000 in
theorem cz_X10_goAlong_p7 {xi : SX} {E : List Nat} {kc nc : Nat} : ∀ (fu : Nat) {S : Hp} {P : Po} {o0 : Nat} {x1 : Int32} {x2 : Int32} {R : Nat → Nat → Nat} (hG : GI S E) (h0 : Oa S E 10 0 o0) (h2 : Rg 0 24 x2) (hR : RK S R) (hfu : (24 - x2.toInt).toNat < fu) (hP : ∀ r T x y, PV E [676, 9989] S kc nc (rI 0 1) (fun v T => v = some (.int (Z_X10_goAlong_p7 fu R (sg S) o0 x1 x2).2) ∧ sg T = (Z_X10_goAlong_p7 fu R (sg S) o0 x1 x2).1) [] r T x y → P r T x y), TT xi M_X10_goAlong 7 [(0, .ref o0), (1, .int x1), (2, .int x2)] [] S kc nc P := by
  intro fu
  induction fu with
  | zero =>
    intro S P o0 x1 x2 R hG h0 h2 hR hfu hP
    exact absurd hfu (Nat.not_lt_zero _)
  | succ fu ih =>
    intro S P o0 x1 x2 R hG h0 h2 hR hfu hP
    have hA : Af E [676, 9989] S S := af_rf
    refine tt_iload_n (j := 2) dX10_goAlong_7 rfl ?_
    refine tt_bipush (v := 24) dX10_goAlong_8 rfl ?_
    refine tt_icmp_ge (tgt := 33) dX10_goAlong_10 rfl (fun q101 => ?_) (fun q101 => ?_)
    · skip
      have h102 : Rg 24 24 x2 := rg_le_r (⟨by decide, by decide⟩ : Rg 24 24 24) h2 q101
      have hF : Z_X10_goAlong_p7 (fu + 1) R (sg S) o0 x1 x2 = Z_X10_goAlong_p33 R (sg S) o0 (x1) := by
        exact zl_X10_goAlong_p7_0 q101
      exact tt_loc (ks := [0, 1]) rfl (cz_X10_goAlong_p33 hG (oa_af h0 hA) hR (fun r T x y h => hP r T x y (pv_tr hA h (by decide) (fun v T e => (((congrArg (fun q9 => Z_X10_goAlong_p33 R q9 o0 (x1)) (show sg S = (sg S) from rfl)).trans hF.symm) ▸ e)))))
    · skip
      have h103 : Rg 0 23 x2 := rg_lt_l h2 (⟨by decide, by decide⟩ : Rg 24 24 24) (nle_lt q101)
      refine tt_aload_n (j := 0) dX10_goAlong_13 rfl ?_
      refine tt_sipush (v := 4904) dX10_goAlong_14 rfl ?_
      refine tt_iload_n (j := 2) dX10_goAlong_17 rfl ?_
      refine tt_iadd dX10_goAlong_18 ?_
      refine tt_sipush (v := 4856) dX10_goAlong_19 rfl ?_
      refine tt_iload_n (j := 2) dX10_goAlong_22 rfl ?_
      refine tt_iadd dX10_goAlong_23 ?_
      refine gt_Vv (As := [.int (4904 + x2), .int (4856 + x2)]) dX10_goAlong_24 ca_X10_169 ⟨by decide, by decide⟩ h0 hA rfl (Nat.le_of_ble_eq_true rfl) (Nat.le_of_ble_eq_true rfl) (by decide) (cz_X10_copy hG (oa_af h0 hA) (rg_w (rg_add (lo := 4904) (hi := 4927) (⟨by decide, by decide⟩ : Rg 4904 4904 4904) h103)) (rg_w (rg_add (lo := 4856) (hi := 4879) (⟨by decide, by decide⟩ : Rg 4856 4856 4856) h103)) hR (fun _ _ _ _ h => h)) rfl (fun _ h => nomatch h) (fun S104 hx108 hG105 hB106 hA107 => ?_)
      obtain ⟨d109, hd110⟩ : ∃ q, Z_X10_copy R (sg S) o0 ((4904 + x2)) ((4856 + x2)) = q := ⟨_, rfl⟩
      have hq111 := (congrArg (fun q9 => Z_X10_copy R q9 o0 ((4904 + x2)) ((4856 + x2))) (show sg S = (sg S) from rfl)).trans hd110
      have hs112 := hx108.trans hq111
      refine tt_iinc (j := 2) (v := (x2 + 1)) (ks := [0, 1, 2]) (L' := [(2, .int (x2 + 1)), (0, .ref o0), (1, .int x1)]) dX10_goAlong_27 rfl rfl (by decide) rfl ?_
      refine tt_goto (tgt := 7) dX10_goAlong_30 rfl ?_
      have hF : Z_X10_goAlong_p7 (fu + 1) R (sg S) o0 x1 x2 = Z_X10_goAlong_p7 fu R d109 o0 (x1) ((x2 + 1)) := by
        subst hd110
        exact zl_X10_goAlong_p7_1 q101
      exact tt_loc (ks := [1, 2, 0]) rfl (ih hG105 (oa_af h0 hA107) (rg_w (rg_add (lo := 1) (hi := 24) h103 (⟨by decide, by decide⟩ : Rg 1 1 1))) (rk_af hR hA107) (lp_fu hfu h103) (fun r T x y h => hP r T x y (pv_tr hA107 h (by decide) (fun v T e => (((congrArg (fun q9 => Z_X10_goAlong_p7 fu R q9 o0 (x1) ((x2 + 1))) hs112).trans hF.symm) ▸ e)))))
def Z_X10_goAlong (R : Nat → Nat → Nat) (σ : SG) (o0 : Nat) (x1 : Int32) : SG × Int32 :=
  Z_X10_goAlong_p7 25 R (uI σ 676 o0 0) o0 (x1) (0)
theorem zl_X10_goAlong_0 {R : Nat → Nat → Nat} {σ : SG} {o0 : Nat} {x1 : Int32}  : Z_X10_goAlong R σ o0 x1 = Z_X10_goAlong_p7 25 R (uI σ 676 o0 0) o0 (x1) (0) := rfl
set_option maxHeartbeats 40000000 in
theorem cz_X10_goAlong {xi : SX} {S : Hp} {E : List Nat} {kc nc : Nat} {P : Po} {o0 : Nat} {x1 : Int32} {R : Nat → Nat → Nat} (hG : GI S E) (h0 : Oa S E 10 0 o0) (hR : RK S R) (hP : ∀ r T x y, PV E [676, 9989] S kc nc (rI 0 1) (fun v T => v = some (.int (Z_X10_goAlong R (sg S) o0 x1).2) ∧ sg T = (Z_X10_goAlong R (sg S) o0 x1).1) [] r T x y → P r T x y) : TT xi M_X10_goAlong 0 [(0, .ref o0), (1, .int x1)] [] S kc nc P := by
  have hA : Af E [676, 9989] S S := af_rf
  refine tt_aload_n (j := 0) dX10_goAlong_0 rfl ?_
  refine tt_iconst (v := 0) dX10_goAlong_1 rfl ?_
  refine gx_pI (id := 676) (x := 0) dX10_goAlong_2 fl_10_250 rfl rfl h0 hA rfl rfl rfl (gp_Ir hG (⟨by decide, by decide⟩ : Rg 0 0 0)) (by decide) (fun h => absurd h (by decide)) (fun h => absurd h (by decide)) (show sg S = (sg S) from rfl) (fun S101 hG102 hA103 e104 => ?_)
  refine tt_iconst (v := 0) dX10_goAlong_5 rfl ?_
  refine tt_istore_n (ks := [0, 1, 2]) (L' := [(2, .int 0), (0, .ref o0), (1, .int x1)]) dX10_goAlong_6 (by decide) rfl ?_
  have hF : Z_X10_goAlong R (sg S) o0 x1 = Z_X10_goAlong_p7 25 R (uI (sg S) 676 o0 0) o0 (x1) (0) := by
    rfl
  exact tt_loc (ks := [1, 2, 0]) rfl (cz_X10_goAlong_p7 25 hG102 (oa_af h0 hA103) (rg_w (⟨by decide, by decide⟩ : Rg 0 0 0)) (rk_af hR hA103) (by decide) (fun r T x y h => hP r T x y (pv_tr hA103 h (by decide) (fun v T e => (((congrArg (fun q9 => Z_X10_goAlong_p7 25 R q9 o0 (x1) (0)) e104).trans hF.symm) ▸ e)))))
def Z_X10_arrive_p64 (R : Nat → Nat → Nat) (σ : SG) (o0 : Nat) (x4 : Int32) : SG :=
  let d106 := Z_X10_copyRecord R σ o0 (x4) (201)
  (ui (ui d106 (R 647 o0) (x4 : Int32).toNatClampNeg 1) (R 648 o0) (x4 : Int32).toNatClampNeg 1)
theorem zl_X10_arrive_p64_0 {R : Nat → Nat → Nat} {σ : SG} {o0 : Nat} {x4 : Int32}  : Z_X10_arrive_p64 R σ o0 x4 = (ui (ui (Z_X10_copyRecord R σ o0 (x4) (201)) (R 647 o0) (x4 : Int32).toNatClampNeg 1) (R 648 o0) (x4 : Int32).toNatClampNeg 1) := rfl
set_option maxHeartbeats 40000000 in
theorem cz_X10_arrive_p64 {xi : SX} {S : Hp} {E : List Nat} {kc nc : Nat} {P : Po} {o0 : Nat} {x4 : Int32} {R : Nat → Nat → Nat} (hG : GI S E) (h0 : Oa S E 10 0 o0) (h4 : Rg 0 199 x4) (hR : RK S R) (hP : ∀ r T x y, PV E [9988] S kc nc rV (fun v T => sg T = Z_X10_arrive_p64 R (sg S) o0 x4) [] r T x y → P r T x y) : TT xi M_X10_arrive 64 [(0, .ref o0), (4, .int x4)] [] S kc nc P := by
  have hA : Af E [9988] S S := af_rf
  refine tt_aload_n (j := 0) dX10_arrive_64 rfl ?_
  refine tt_iload (j := 1) dX10_arrive_65 rfl ?_
  refine tt_sipush (v := 201) dX10_arrive_67 rfl ?_
  refine gt_Vv (As := [.int x4, .int 201]) dX10_arrive_70 ca_X10_284 ⟨by decide, by decide⟩ h0 hA rfl (Nat.le_of_ble_eq_true rfl) (Nat.le_of_ble_eq_true rfl) (by decide) (cz_X10_copyRecord hG (oa_af h0 hA) (rg_w h4) (rg_w (⟨by decide, by decide⟩ : Rg 201 201 201)) hR (fun _ _ _ _ h => h)) rfl (fun _ h => nomatch h) (fun S101 hx105 hG102 hB103 hA104 => ?_)
  obtain ⟨d106, hd107⟩ : ∃ q, Z_X10_copyRecord R (sg S) o0 (x4) (201) = q := ⟨_, rfl⟩
  have hq108 := (congrArg (fun q9 => Z_X10_copyRecord R q9 o0 (x4) (201)) (show sg S = (sg S) from rfl)).trans hd107
  have hs109 := hx105.trans hq108
  refine tt_aload_n (j := 0) dX10_arrive_73 rfl ?_
  have hr110 := rk_R (k := 647) hR h0 32 201
  have ho111 := rk_O (k := 647) hG hR h0 32 201
  refine gt_gR (id := 647) dX10_arrive_74 fl_10_26 rfl rfl h0 hA104 hr110 ?_
  refine tt_iload (j := 1) dX10_arrive_77 rfl ?_
  refine tt_iconst (v := 1) dX10_arrive_79 rfl ?_
  refine gx_iS dX10_arrive_80 ho111 hA104 (Or.inl (by decide)) (rg_in h4) hG102 (by decide) hs109 (fun S112 hG113 hA114 e115 => ?_)
  refine tt_aload_n (j := 0) dX10_arrive_81 rfl ?_
  have hr116 := rk_R (k := 648) hR h0 34 201
  have ho117 := rk_O (k := 648) hG hR h0 34 201
  refine gt_gR (id := 648) dX10_arrive_82 fl_10_29 rfl rfl h0 hA114 hr116 ?_
  refine tt_iload (j := 1) dX10_arrive_85 rfl ?_
  refine tt_iconst (v := 1) dX10_arrive_87 rfl ?_
  refine gx_zS dX10_arrive_88 ho117 hA114 (Or.inl (by decide)) (rg_in h4) hG113 (rg_w (⟨by decide, by decide⟩ : Rg 1 1 1)) e115 (fun S118 hG119 hA120 e121 => ?_)
  have hF : Z_X10_arrive_p64 R (sg S) o0 x4 = (ui (ui d106 (R 647 o0) (x4 : Int32).toNatClampNeg 1) (R 648 o0) (x4 : Int32).toNatClampNeg 1) := by
    subst hd107
    rfl
  exact tt_vreturn dX10_arrive_89 rfl (hP _ _ _ _ ⟨hG119, hA120, Or.inl ⟨_, rfl, rfl, Eq.trans e121 hF.symm, rfl, rfl⟩⟩)
def Z_X10_arrive_p33_b (f : (Nat → Nat → Nat) → SG → Nat → Int32 → Int32 → SG) (R : Nat → Nat → Nat) (σ : SG) (o0 : Nat) (x4 : Int32) (x5 : Int32) : SG :=
  if 24 ≤ x5 then
    Z_X10_arrive_p64 R σ o0 (x4)
  else
    let d109 := Z_X10_copy R σ o0 (((24 * x4) + x5)) ((4904 + x5))
    f R d109 o0 (x4) ((x5 + 1))
def Z_X10_arrive_p33 : Nat → (Nat → Nat → Nat) → SG → Nat → Int32 → Int32 → SG
  | 0 => fun R σ o0 x4 x5 => σ
  | n + 1 => Z_X10_arrive_p33_b (Z_X10_arrive_p33 n)
theorem zl_X10_arrive_p33_0 {f : (Nat → Nat → Nat) → SG → Nat → Int32 → Int32 → SG} {R : Nat → Nat → Nat} {σ : SG} {o0 : Nat} {x4 : Int32} {x5 : Int32} (h0 : 24 ≤ x5) : Z_X10_arrive_p33_b f R σ o0 x4 x5 = Z_X10_arrive_p64 R σ o0 (x4) := by unfold Z_X10_arrive_p33_b; exact if_pos h0
theorem zl_X10_arrive_p33_1 {f : (Nat → Nat → Nat) → SG → Nat → Int32 → Int32 → SG} {R : Nat → Nat → Nat} {σ : SG} {o0 : Nat} {x4 : Int32} {x5 : Int32} (h0 : ¬ 24 ≤ x5) : Z_X10_arrive_p33_b f R σ o0 x4 x5 = f R (Z_X10_copy R σ o0 (((24 * x4) + x5)) ((4904 + x5))) o0 (x4) ((x5 + 1)) := by unfold Z_X10_arrive_p33_b; exact if_neg h0
set_option maxHeartbeats 40000000 in
theorem cz_X10_arrive_p33 {xi : SX} {E : List Nat} {kc nc : Nat} : ∀ (fu : Nat) {S : Hp} {P : Po} {o0 : Nat} {x4 : Int32} {x5 : Int32} {R : Nat → Nat → Nat} (hG : GI S E) (h0 : Oa S E 10 0 o0) (h4 : Rg 0 199 x4) (h5 : Rg 0 24 x5) (hR : RK S R) (hfu : (24 - x5.toInt).toNat < fu) (hP : ∀ r T x y, PV E [9988, 9989] S kc nc rV (fun v T => sg T = Z_X10_arrive_p33 fu R (sg S) o0 x4 x5) [] r T x y → P r T x y), TT xi M_X10_arrive 33 [(0, .ref o0), (4, .int x4), (5, .int x5)] [] S kc nc P := by
  intro fu
  induction fu with
  | zero =>
    intro S P o0 x4 x5 R hG h0 h4 h5 hR hfu hP
    exact absurd hfu (Nat.not_lt_zero _)
  | succ fu ih =>
    intro S P o0 x4 x5 R hG h0 h4 h5 hR hfu hP
    have hA : Af E [9988, 9989] S S := af_rf
    refine tt_iload (j := 2) dX10_arrive_33 rfl ?_
    refine tt_bipush (v := 24) dX10_arrive_35 rfl ?_
    refine tt_icmp_ge (tgt := 64) dX10_arrive_37 rfl (fun q101 => ?_) (fun q101 => ?_)
    · skip
      have h102 : Rg 24 24 x5 := rg_le_r (⟨by decide, by decide⟩ : Rg 24 24 24) h5 q101
      have hF : Z_X10_arrive_p33 (fu + 1) R (sg S) o0 x4 x5 = Z_X10_arrive_p64 R (sg S) o0 (x4) := by
        exact zl_X10_arrive_p33_0 q101
      exact tt_loc (ks := [0, 1]) rfl (cz_X10_arrive_p64 hG (oa_af h0 hA) (rg_w h4) hR (fun r T x y h => hP r T x y (pv_tr hA h (by decide) (fun v T e => e.trans ((congrArg (fun q9 => Z_X10_arrive_p64 R q9 o0 (x4)) (show sg S = (sg S) from rfl)).trans hF.symm)))))
    · skip
      have h103 : Rg 0 23 x5 := rg_lt_l h5 (⟨by decide, by decide⟩ : Rg 24 24 24) (nle_lt q101)
      refine tt_aload_n (j := 0) dX10_arrive_40 rfl ?_
      refine tt_bipush (v := 24) dX10_arrive_41 rfl ?_
      refine tt_iload (j := 1) dX10_arrive_43 rfl ?_
      refine tt_imul dX10_arrive_45 ?_
      refine tt_iload (j := 2) dX10_arrive_46 rfl ?_
      refine tt_iadd dX10_arrive_48 ?_
      refine tt_sipush (v := 4904) dX10_arrive_49 rfl ?_
      refine tt_iload (j := 2) dX10_arrive_52 rfl ?_
      refine tt_iadd dX10_arrive_54 ?_
      refine gt_Vv (As := [.int ((24 * x4) + x5), .int (4904 + x5)]) dX10_arrive_55 ca_X10_169 ⟨by decide, by decide⟩ h0 hA rfl (Nat.le_of_ble_eq_true rfl) (Nat.le_of_ble_eq_true rfl) (by decide) (cz_X10_copy hG (oa_af h0 hA) (rg_w (rg_add (lo := 0) (hi := 4799) (rg_mul (lo := 0) (hi := 4776) (⟨by decide, by decide⟩ : Rg 24 24 24) h4) h103)) (rg_w (rg_add (lo := 4904) (hi := 4927) (⟨by decide, by decide⟩ : Rg 4904 4904 4904) h103)) hR (fun _ _ _ _ h => h)) rfl (fun _ h => nomatch h) (fun S104 hx108 hG105 hB106 hA107 => ?_)
      obtain ⟨d109, hd110⟩ : ∃ q, Z_X10_copy R (sg S) o0 (((24 * x4) + x5)) ((4904 + x5)) = q := ⟨_, rfl⟩
      have hq111 := (congrArg (fun q9 => Z_X10_copy R q9 o0 (((24 * x4) + x5)) ((4904 + x5))) (show sg S = (sg S) from rfl)).trans hd110
      have hs112 := hx108.trans hq111
      refine tt_iinc (j := 2) (v := (x5 + 1)) (ks := [0, 1, 2]) (L' := [(5, .int (x5 + 1)), (0, .ref o0), (4, .int x4)]) dX10_arrive_58 rfl rfl (by decide) rfl ?_
      refine tt_goto (tgt := 33) dX10_arrive_61 rfl ?_
      have hF : Z_X10_arrive_p33 (fu + 1) R (sg S) o0 x4 x5 = Z_X10_arrive_p33 fu R d109 o0 (x4) ((x5 + 1)) := by
        subst hd110
        exact zl_X10_arrive_p33_1 q101
      exact tt_loc (ks := [1, 2, 0]) rfl (ih hG105 (oa_af h0 hA107) (rg_w h4) (rg_w (rg_add (lo := 1) (hi := 24) h103 (⟨by decide, by decide⟩ : Rg 1 1 1))) (rk_af hR hA107) (lp_fu hfu h103) (fun r T x y h => hP r T x y (pv_tr hA107 h (by decide) (fun v T e => e.trans ((congrArg (fun q9 => Z_X10_arrive_p33 fu R q9 o0 (x4) ((x5 + 1))) hs112).trans hF.symm)))))
def Z_X10_arrive_p268 (R : Nat → Nat → Nat) (σ : SG) (o0 : Nat) (x4 : Int32) (x5 : Int32) : SG :=
  if x5 = 0 then
    σ
  else
    (ui (ui σ (R 647 o0) (x4 : Int32).toNatClampNeg ((mi σ (R 647 o0) (x4 : Int32).toNatClampNeg) + 1)) (R 648 o0) (x4 : Int32).toNatClampNeg 1)
theorem zl_X10_arrive_p268_0 {R : Nat → Nat → Nat} {σ : SG} {o0 : Nat} {x4 : Int32} {x5 : Int32} (h0 : x5 = 0) : Z_X10_arrive_p268 R σ o0 x4 x5 = σ := by unfold Z_X10_arrive_p268; exact if_pos h0
theorem zl_X10_arrive_p268_1 {R : Nat → Nat → Nat} {σ : SG} {o0 : Nat} {x4 : Int32} {x5 : Int32} (h0 : ¬ x5 = 0) : Z_X10_arrive_p268 R σ o0 x4 x5 = (ui (ui σ (R 647 o0) (x4 : Int32).toNatClampNeg ((mi σ (R 647 o0) (x4 : Int32).toNatClampNeg) + 1)) (R 648 o0) (x4 : Int32).toNatClampNeg 1) := by unfold Z_X10_arrive_p268; exact if_neg h0
set_option maxHeartbeats 40000000 in
theorem cz_X10_arrive_p268 {xi : SX} {S : Hp} {E : List Nat} {kc nc : Nat} {P : Po} {o0 : Nat} {x4 : Int32} {x5 : Int32} {R : Nat → Nat → Nat} (hG : GI S E) (h0 : Oa S E 10 0 o0) (h4 : Rg 0 199 x4) (h5 : Rg 0 1 x5) (hR : RK S R) (hP : ∀ r T x y, PV E [9988, 9989] S kc nc rV (fun v T => sg T = Z_X10_arrive_p268 R (sg S) o0 x4 x5) [] r T x y → P r T x y) : TT xi M_X10_arrive 268 [(0, .ref o0), (4, .int x4), (5, .int x5)] [] S kc nc P := by
  have hA : Af E [9988, 9989] S S := af_rf
  refine tt_iload (j := 2) dX10_arrive_268 rfl ?_
  refine tt_if_eq (tgt := 292) dX10_arrive_270 rfl (fun q101 => ?_) (fun q101 => ?_)
  · skip
    have h102 : Rg 0 0 x5 := rg_eq_l h5 (⟨by decide, by decide⟩ : Rg 0 0 0) q101
    have hF : Z_X10_arrive_p268 R (sg S) o0 x4 x5 = (sg S) := by
      exact zl_X10_arrive_p268_0 q101
    exact tt_vreturn dX10_arrive_292 rfl (hP _ _ _ _ ⟨hG, hA, Or.inl ⟨_, rfl, rfl, Eq.trans (show sg S = (sg S) from rfl) hF.symm, rfl, rfl⟩⟩)
  · skip
    have h103 : Rg 1 1 x5 := rg_ne_lo h5 (⟨by decide, by decide⟩ : Rg 0 0 0) q101
    refine tt_aload_n (j := 0) dX10_arrive_273 rfl ?_
    have hr104 := rk_R (k := 647) hR h0 32 201
    have ho105 := rk_O (k := 647) hG hR h0 32 201
    refine gt_gR (id := 647) dX10_arrive_274 fl_10_26 rfl rfl h0 hA hr104 ?_
    refine tt_iload (j := 1) dX10_arrive_277 rfl ?_
    refine tt_dup2_11 dX10_arrive_279 rfl rfl ?_
    refine gx_iL (v := (mi (sg S) (R 647 o0) (x4 : Int32).toNatClampNeg)) dX10_arrive_280 ho105 hA (rg_in h4) (sg_i (a := (R 647 o0)) (i := (x4 : Int32).toNatClampNeg) (show sg S = (sg S) from rfl)) ?_
    refine tt_iconst (v := 1) dX10_arrive_281 rfl ?_
    refine tt_iadd dX10_arrive_282 ?_
    refine gx_iS dX10_arrive_283 ho105 hA (Or.inl (by decide)) (rg_in h4) hG (by decide) (show sg S = (sg S) from rfl) (fun S106 hG107 hA108 e109 => ?_)
    refine tt_aload_n (j := 0) dX10_arrive_284 rfl ?_
    have hr110 := rk_R (k := 648) hR h0 34 201
    have ho111 := rk_O (k := 648) hG hR h0 34 201
    refine gt_gR (id := 648) dX10_arrive_285 fl_10_29 rfl rfl h0 hA108 hr110 ?_
    refine tt_iload (j := 1) dX10_arrive_288 rfl ?_
    refine tt_iconst (v := 1) dX10_arrive_290 rfl ?_
    refine gx_zS dX10_arrive_291 ho111 hA108 (Or.inl (by decide)) (rg_in h4) hG107 (rg_w (⟨by decide, by decide⟩ : Rg 1 1 1)) e109 (fun S112 hG113 hA114 e115 => ?_)
    have hF : Z_X10_arrive_p268 R (sg S) o0 x4 x5 = (ui (ui (sg S) (R 647 o0) (x4 : Int32).toNatClampNeg ((mi (sg S) (R 647 o0) (x4 : Int32).toNatClampNeg) + 1)) (R 648 o0) (x4 : Int32).toNatClampNeg 1) := by
      exact zl_X10_arrive_p268_1 q101
    exact tt_vreturn dX10_arrive_292 rfl (hP _ _ _ _ ⟨hG113, hA114, Or.inl ⟨_, rfl, rfl, Eq.trans e115 hF.symm, rfl, rfl⟩⟩)
def Z_X10_arrive_p226 (R : Nat → Nat → Nat) (σ : SG) (o0 : Nat) (x4 : Int32) (x5 : Int32) : SG :=
  if (Z_X10_isSameRecord R σ o0 (x4) (201)) = 0 then
    if x5 = 0 then
      if (mi σ (R 649 o0) (x4 : Int32).toNatClampNeg) = 0 then
        Z_X10_arrive_p268 R (ui σ (R 649 o0) (x4 : Int32).toNatClampNeg 0) o0 (x4) (0)
      else
        Z_X10_arrive_p268 R (ui σ (R 649 o0) (x4 : Int32).toNatClampNeg 0) o0 (x4) (1)
    else
      Z_X10_arrive_p268 R (ui σ (R 649 o0) (x4 : Int32).toNatClampNeg 0) o0 (x4) (1)
  else
    Z_X10_arrive_p268 R σ o0 (x4) (x5)
theorem zl_X10_arrive_p226_0 {R : Nat → Nat → Nat} {σ : SG} {o0 : Nat} {x4 : Int32} {x5 : Int32} (h0 : (Z_X10_isSameRecord R σ o0 (x4) (201)) = 0) (h1 : x5 = 0) (h2 : (mi σ (R 649 o0) (x4 : Int32).toNatClampNeg) = 0) : Z_X10_arrive_p226 R σ o0 x4 x5 = Z_X10_arrive_p268 R (ui σ (R 649 o0) (x4 : Int32).toNatClampNeg 0) o0 (x4) (0) := by unfold Z_X10_arrive_p226; exact Eq.trans (if_pos h0) (Eq.trans (if_pos h1) (if_pos h2))
theorem zl_X10_arrive_p226_1 {R : Nat → Nat → Nat} {σ : SG} {o0 : Nat} {x4 : Int32} {x5 : Int32} (h0 : (Z_X10_isSameRecord R σ o0 (x4) (201)) = 0) (h1 : x5 = 0) (h2 : ¬ (mi σ (R 649 o0) (x4 : Int32).toNatClampNeg) = 0) : Z_X10_arrive_p226 R σ o0 x4 x5 = Z_X10_arrive_p268 R (ui σ (R 649 o0) (x4 : Int32).toNatClampNeg 0) o0 (x4) (1) := by unfold Z_X10_arrive_p226; exact Eq.trans (if_pos h0) (Eq.trans (if_pos h1) (if_neg h2))
theorem zl_X10_arrive_p226_2 {R : Nat → Nat → Nat} {σ : SG} {o0 : Nat} {x4 : Int32} {x5 : Int32} (h0 : (Z_X10_isSameRecord R σ o0 (x4) (201)) = 0) (h1 : ¬ x5 = 0) : Z_X10_arrive_p226 R σ o0 x4 x5 = Z_X10_arrive_p268 R (ui σ (R 649 o0) (x4 : Int32).toNatClampNeg 0) o0 (x4) (1) := by unfold Z_X10_arrive_p226; exact Eq.trans (if_pos h0) (if_neg h1)
theorem zl_X10_arrive_p226_3 {R : Nat → Nat → Nat} {σ : SG} {o0 : Nat} {x4 : Int32} {x5 : Int32} (h0 : ¬ (Z_X10_isSameRecord R σ o0 (x4) (201)) = 0) : Z_X10_arrive_p226 R σ o0 x4 x5 = Z_X10_arrive_p268 R σ o0 (x4) (x5) := by unfold Z_X10_arrive_p226; exact if_neg h0
set_option maxHeartbeats 40000000 in
theorem cz_X10_arrive_p226 {xi : SX} {S : Hp} {E : List Nat} {kc nc : Nat} {P : Po} {o0 : Nat} {x4 : Int32} {x5 : Int32} {R : Nat → Nat → Nat} (hG : GI S E) (h0 : Oa S E 10 0 o0) (h4 : Rg 0 199 x4) (h5 : Rg 0 1 x5) (hR : RK S R) (hP : ∀ r T x y, PV E [9988, 9989] S kc nc rV (fun v T => sg T = Z_X10_arrive_p226 R (sg S) o0 x4 x5) [] r T x y → P r T x y) : TT xi M_X10_arrive 226 [(0, .ref o0), (4, .int x4), (5, .int x5)] [] S kc nc P := by
  have hA : Af E [9988, 9989] S S := af_rf
  refine tt_aload_n (j := 0) dX10_arrive_226 rfl ?_
  refine tt_iload (j := 1) dX10_arrive_227 rfl ?_
  refine tt_sipush (v := 201) dX10_arrive_229 rfl ?_
  refine gt_VIp (As := [.int x4, .int 201]) dX10_arrive_232 ca_X10_294 ⟨by decide, by decide⟩ h0 hA rfl (Nat.le_of_ble_eq_true rfl) (Nat.le_of_ble_eq_true rfl) (by decide) (cz_X10_isSameRecord hG (oa_af h0 hA) (rg_w h4) (rg_w (⟨by decide, by decide⟩ : Rg 201 201 201)) hR (fun _ _ _ _ h => h)) rfl (fun _ h => nomatch h) (fun _ _ q => q.1) (fun x101 h102 hx103 => ?_)
  obtain rfl : Z_X10_isSameRecord R (sg S) o0 (x4) (201) = x101 := ((ei_w hx103.2).trans (congrArg (fun q9 => Z_X10_isSameRecord R q9 o0 (x4) (201)) (show sg S = (sg S) from rfl))).symm
  refine tt_if_ne (tgt := 268) dX10_arrive_235 rfl (fun q104 => ?_) (fun q104 => ?_)
  · skip
    have h105 : Rg 1 1 (Z_X10_isSameRecord R (sg S) o0 (x4) (201)) := rg_ne_lo h102 (⟨by decide, by decide⟩ : Rg 0 0 0) q104
    have hF : Z_X10_arrive_p226 R (sg S) o0 x4 x5 = Z_X10_arrive_p268 R (sg S) o0 (x4) (x5) := by
      exact zl_X10_arrive_p226_3 q104
    exact tt_loc (ks := [0, 1, 2]) rfl (cz_X10_arrive_p268 hG (oa_af h0 hA) (rg_w h4) (rg_w h5) hR (fun r T x y h => hP r T x y (pv_tr hA h (by decide) (fun v T e => e.trans ((congrArg (fun q9 => Z_X10_arrive_p268 R q9 o0 (x4) (x5)) (show sg S = (sg S) from rfl)).trans hF.symm)))))
  · skip
    have h106 : Rg 0 0 (Z_X10_isSameRecord R (sg S) o0 (x4) (201)) := rg_eq_l h102 (⟨by decide, by decide⟩ : Rg 0 0 0) q104
    refine tt_iload (j := 2) dX10_arrive_238 rfl ?_
    refine tt_if_ne (tgt := 253) dX10_arrive_240 rfl (fun q107 => ?_) (fun q107 => ?_)
    · skip
      have h108 : Rg 1 1 x5 := rg_ne_lo h5 (⟨by decide, by decide⟩ : Rg 0 0 0) q107
      refine tt_iconst (v := 1) dX10_arrive_253 rfl ?_
      refine tt_goto (tgt := 258) dX10_arrive_254 rfl ?_
      refine tt_istore (ks := [0, 1, 2]) (L' := [(5, .int 1), (0, .ref o0), (4, .int x4)]) dX10_arrive_258 (by decide) rfl ?_
      refine tt_aload_n (j := 1) dX10_arrive_260 rfl ?_
      have hr109 := rk_R (k := 649) hR h0 32 202
      have ho110 := rk_O (k := 649) hG hR h0 32 202
      refine gt_gR (id := 649) dX10_arrive_261 fl_10_33 rfl rfl h0 hA hr109 ?_
      refine tt_iload (j := 2) dX10_arrive_264 rfl ?_
      refine tt_iconst (v := 0) dX10_arrive_266 rfl ?_
      refine gx_iSR dX10_arrive_267 ho110 hA (rg_in h4) hG (rg_w (⟨by decide, by decide⟩ : Rg 0 0 0)) (show sg S = (sg S) from rfl) (fun S111 hG112 hA113 e114 => ?_)
      have hF : Z_X10_arrive_p226 R (sg S) o0 x4 x5 = Z_X10_arrive_p268 R (ui (sg S) (R 649 o0) (x4 : Int32).toNatClampNeg 0) o0 (x4) (1) := by
        exact zl_X10_arrive_p226_2 q104 q107
      exact tt_loc (ks := [1, 2, 0]) rfl (cz_X10_arrive_p268 hG112 (oa_af h0 hA113) (rg_w h4) (rg_w (⟨by decide, by decide⟩ : Rg 1 1 1)) (rk_af hR hA113) (fun r T x y h => hP r T x y (pv_tr hA113 h (by decide) (fun v T e => e.trans ((congrArg (fun q9 => Z_X10_arrive_p268 R q9 o0 (x4) (1)) e114).trans hF.symm)))))
    · skip
      have h115 : Rg 0 0 x5 := rg_eq_l h5 (⟨by decide, by decide⟩ : Rg 0 0 0) q107
      refine tt_aload_n (j := 0) dX10_arrive_243 rfl ?_
      have hr116 := rk_R (k := 649) hR h0 32 202
      have ho117 := rk_O (k := 649) hG hR h0 32 202
      refine gt_gR (id := 649) dX10_arrive_244 fl_10_33 rfl rfl h0 hA hr116 ?_
      refine tt_iload (j := 1) dX10_arrive_247 rfl ?_
      refine gx_iL (v := (mi (sg S) (R 649 o0) (x4 : Int32).toNatClampNeg)) dX10_arrive_249 ho117 hA (rg_in h4) (sg_i (a := (R 649 o0)) (i := (x4 : Int32).toNatClampNeg) (show sg S = (sg S) from rfl)) ?_
      refine tt_if_eq (tgt := 257) dX10_arrive_250 rfl (fun q118 => ?_) (fun q118 => ?_)
      · skip
        have h119 : Rg 0 0 (mi (sg S) (R 649 o0) (x4 : Int32).toNatClampNeg) := rg_eq_l (rg_cast (sg_i (a := (R 649 o0)) (i := (x4 : Int32).toNatClampNeg) (show sg S = (sg S) from rfl)).symm (gi_i hG (oa_af ho117 hA))) (⟨by decide, by decide⟩ : Rg 0 0 0) q118
        refine tt_iconst (v := 0) dX10_arrive_257 rfl ?_
        refine tt_istore (ks := [0, 1, 2]) (L' := [(5, .int 0), (0, .ref o0), (4, .int x4)]) dX10_arrive_258 (by decide) rfl ?_
        refine tt_aload_n (j := 1) dX10_arrive_260 rfl ?_
        refine gt_gR (id := 649) dX10_arrive_261 fl_10_33 rfl rfl h0 hA hr116 ?_
        refine tt_iload (j := 2) dX10_arrive_264 rfl ?_
        refine tt_iconst (v := 0) dX10_arrive_266 rfl ?_
        refine gx_iSR dX10_arrive_267 ho117 hA (rg_in h4) hG (rg_w (⟨by decide, by decide⟩ : Rg 0 0 0)) (show sg S = (sg S) from rfl) (fun S120 hG121 hA122 e123 => ?_)
        have hF : Z_X10_arrive_p226 R (sg S) o0 x4 x5 = Z_X10_arrive_p268 R (ui (sg S) (R 649 o0) (x4 : Int32).toNatClampNeg 0) o0 (x4) (0) := by
          exact zl_X10_arrive_p226_0 q104 q107 q118
        exact tt_loc (ks := [1, 2, 0]) rfl (cz_X10_arrive_p268 hG121 (oa_af h0 hA122) (rg_w h4) (rg_w (⟨by decide, by decide⟩ : Rg 0 0 0)) (rk_af hR hA122) (fun r T x y h => hP r T x y (pv_tr hA122 h (by decide) (fun v T e => e.trans ((congrArg (fun q9 => Z_X10_arrive_p268 R q9 o0 (x4) (0)) e123).trans hF.symm)))))
      · skip
        refine tt_iconst (v := 1) dX10_arrive_253 rfl ?_
        refine tt_goto (tgt := 258) dX10_arrive_254 rfl ?_
        refine tt_istore (ks := [0, 1, 2]) (L' := [(5, .int 1), (0, .ref o0), (4, .int x4)]) dX10_arrive_258 (by decide) rfl ?_
        refine tt_aload_n (j := 1) dX10_arrive_260 rfl ?_
        refine gt_gR (id := 649) dX10_arrive_261 fl_10_33 rfl rfl h0 hA hr116 ?_
        refine tt_iload (j := 2) dX10_arrive_264 rfl ?_
        refine tt_iconst (v := 0) dX10_arrive_266 rfl ?_
        refine gx_iSR dX10_arrive_267 ho117 hA (rg_in h4) hG (rg_w (⟨by decide, by decide⟩ : Rg 0 0 0)) (show sg S = (sg S) from rfl) (fun S124 hG125 hA126 e127 => ?_)
        have hF : Z_X10_arrive_p226 R (sg S) o0 x4 x5 = Z_X10_arrive_p268 R (ui (sg S) (R 649 o0) (x4 : Int32).toNatClampNeg 0) o0 (x4) (1) := by
          exact zl_X10_arrive_p226_1 q104 q107 q118
        exact tt_loc (ks := [1, 2, 0]) rfl (cz_X10_arrive_p268 hG125 (oa_af h0 hA126) (rg_w h4) (rg_w (⟨by decide, by decide⟩ : Rg 1 1 1)) (rk_af hR hA126) (fun r T x y h => hP r T x y (pv_tr hA126 h (by decide) (fun v T e => e.trans ((congrArg (fun q9 => Z_X10_arrive_p268 R q9 o0 (x4) (1)) e127).trans hF.symm)))))
def Z_X10_arrive_p96_b (f : (Nat → Nat → Nat) → SG → Nat → Int32 → Int32 → Int32 → Int32 → SG) (R : Nat → Nat → Nat) (σ : SG) (o0 : Nat) (x3 : Int32) (x4 : Int32) (x5 : Int32) (x6 : Int32) : SG :=
  if 24 ≤ x6 then
    Z_X10_arrive_p226 R σ o0 (x4) (x5)
  else
    let d109 := Z_X10_copy R σ o0 (4848) (((24 * x4) + x6))
    if x3 < x4 then
      let d120 := Z_X10_join R d109 o0 (4850) (4848) ((4904 + x6))
      let d129 := Z_X10_copy R d120 o0 (((24 * x4) + x6)) (4850)
      if x5 = 0 then
        if (Z_X10_isSame R d129 o0 (4848) (((24 * x4) + x6))) = 0 then
          f R d129 o0 (x3) (x4) (1) ((x6 + 1))
        else
          f R d129 o0 (x3) (x4) (0) ((x6 + 1))
      else
        f R d129 o0 (x3) (x4) (1) ((x6 + 1))
    else
      if (mi d109 (R 647 o0) (x4 : Int32).toNatClampNeg) < 3 then
        let d152 := Z_X10_join R d109 o0 (4850) (4848) ((4904 + x6))
        let d161 := Z_X10_copy R d152 o0 (((24 * x4) + x6)) (4850)
        if x5 = 0 then
          if (Z_X10_isSame R d161 o0 (4848) (((24 * x4) + x6))) = 0 then
            f R d161 o0 (x3) (x4) (1) ((x6 + 1))
          else
            f R d161 o0 (x3) (x4) (0) ((x6 + 1))
        else
          f R d161 o0 (x3) (x4) (1) ((x6 + 1))
      else
        let d180 := Z_X10_widen R d109 o0 (((24 * x4) + x6)) (4848) ((4904 + x6))
        if x5 = 0 then
          if (Z_X10_isSame R d180 o0 (4848) (((24 * x4) + x6))) = 0 then
            f R d180 o0 (x3) (x4) (1) ((x6 + 1))
          else
            f R d180 o0 (x3) (x4) (0) ((x6 + 1))
        else
          f R d180 o0 (x3) (x4) (1) ((x6 + 1))
def Z_X10_arrive_p96 : Nat → (Nat → Nat → Nat) → SG → Nat → Int32 → Int32 → Int32 → Int32 → SG
  | 0 => fun R σ o0 x3 x4 x5 x6 => σ
  | n + 1 => Z_X10_arrive_p96_b (Z_X10_arrive_p96 n)
theorem zl_X10_arrive_p96_0 {f : (Nat → Nat → Nat) → SG → Nat → Int32 → Int32 → Int32 → Int32 → SG} {R : Nat → Nat → Nat} {σ : SG} {o0 : Nat} {x3 : Int32} {x4 : Int32} {x5 : Int32} {x6 : Int32} (h0 : 24 ≤ x6) : Z_X10_arrive_p96_b f R σ o0 x3 x4 x5 x6 = Z_X10_arrive_p226 R σ o0 (x4) (x5) := by unfold Z_X10_arrive_p96_b; exact if_pos h0
theorem zl_X10_arrive_p96_1 {f : (Nat → Nat → Nat) → SG → Nat → Int32 → Int32 → Int32 → Int32 → SG} {R : Nat → Nat → Nat} {σ : SG} {o0 : Nat} {x3 : Int32} {x4 : Int32} {x5 : Int32} {x6 : Int32} (h0 : ¬ 24 ≤ x6) (h1 : x3 < x4) (h2 : x5 = 0) (h3 : (Z_X10_isSame R (Z_X10_copy R (Z_X10_join R (Z_X10_copy R σ o0 (4848) (((24 * x4) + x6))) o0 (4850) (4848) ((4904 + x6))) o0 (((24 * x4) + x6)) (4850)) o0 (4848) (((24 * x4) + x6))) = 0) : Z_X10_arrive_p96_b f R σ o0 x3 x4 x5 x6 = f R (Z_X10_copy R (Z_X10_join R (Z_X10_copy R σ o0 (4848) (((24 * x4) + x6))) o0 (4850) (4848) ((4904 + x6))) o0 (((24 * x4) + x6)) (4850)) o0 (x3) (x4) (1) ((x6 + 1)) := by unfold Z_X10_arrive_p96_b; exact Eq.trans (if_neg h0) (Eq.trans (if_pos h1) (Eq.trans (if_pos h2) (if_pos h3)))
theorem zl_X10_arrive_p96_2 {f : (Nat → Nat → Nat) → SG → Nat → Int32 → Int32 → Int32 → Int32 → SG} {R : Nat → Nat → Nat} {σ : SG} {o0 : Nat} {x3 : Int32} {x4 : Int32} {x5 : Int32} {x6 : Int32} (h0 : ¬ 24 ≤ x6) (h1 : x3 < x4) (h2 : x5 = 0) (h3 : ¬ (Z_X10_isSame R (Z_X10_copy R (Z_X10_join R (Z_X10_copy R σ o0 (4848) (((24 * x4) + x6))) o0 (4850) (4848) ((4904 + x6))) o0 (((24 * x4) + x6)) (4850)) o0 (4848) (((24 * x4) + x6))) = 0) : Z_X10_arrive_p96_b f R σ o0 x3 x4 x5 x6 = f R (Z_X10_copy R (Z_X10_join R (Z_X10_copy R σ o0 (4848) (((24 * x4) + x6))) o0 (4850) (4848) ((4904 + x6))) o0 (((24 * x4) + x6)) (4850)) o0 (x3) (x4) (0) ((x6 + 1)) := by unfold Z_X10_arrive_p96_b; exact Eq.trans (if_neg h0) (Eq.trans (if_pos h1) (Eq.trans (if_pos h2) (if_neg h3)))
theorem zl_X10_arrive_p96_3 {f : (Nat → Nat → Nat) → SG → Nat → Int32 → Int32 → Int32 → Int32 → SG} {R : Nat → Nat → Nat} {σ : SG} {o0 : Nat} {x3 : Int32} {x4 : Int32} {x5 : Int32} {x6 : Int32} (h0 : ¬ 24 ≤ x6) (h1 : x3 < x4) (h2 : ¬ x5 = 0) : Z_X10_arrive_p96_b f R σ o0 x3 x4 x5 x6 = f R (Z_X10_copy R (Z_X10_join R (Z_X10_copy R σ o0 (4848) (((24 * x4) + x6))) o0 (4850) (4848) ((4904 + x6))) o0 (((24 * x4) + x6)) (4850)) o0 (x3) (x4) (1) ((x6 + 1)) := by unfold Z_X10_arrive_p96_b; exact Eq.trans (if_neg h0) (Eq.trans (if_pos h1) (if_neg h2))
theorem zl_X10_arrive_p96_4 {f : (Nat → Nat → Nat) → SG → Nat → Int32 → Int32 → Int32 → Int32 → SG} {R : Nat → Nat → Nat} {σ : SG} {o0 : Nat} {x3 : Int32} {x4 : Int32} {x5 : Int32} {x6 : Int32} (h0 : ¬ 24 ≤ x6) (h1 : ¬ x3 < x4) (h2 : (mi (Z_X10_copy R σ o0 (4848) (((24 * x4) + x6))) (R 647 o0) (x4 : Int32).toNatClampNeg) < 3) (h3 : x5 = 0) (h4 : (Z_X10_isSame R (Z_X10_copy R (Z_X10_join R (Z_X10_copy R σ o0 (4848) (((24 * x4) + x6))) o0 (4850) (4848) ((4904 + x6))) o0 (((24 * x4) + x6)) (4850)) o0 (4848) (((24 * x4) + x6))) = 0) : Z_X10_arrive_p96_b f R σ o0 x3 x4 x5 x6 = f R (Z_X10_copy R (Z_X10_join R (Z_X10_copy R σ o0 (4848) (((24 * x4) + x6))) o0 (4850) (4848) ((4904 + x6))) o0 (((24 * x4) + x6)) (4850)) o0 (x3) (x4) (1) ((x6 + 1)) := by unfold Z_X10_arrive_p96_b; exact Eq.trans (if_neg h0) (Eq.trans (if_neg h1) (Eq.trans (if_pos h2) (Eq.trans (if_pos h3) (if_pos h4))))
theorem zl_X10_arrive_p96_5 {f : (Nat → Nat → Nat) → SG → Nat → Int32 → Int32 → Int32 → Int32 → SG} {R : Nat → Nat → Nat} {σ : SG} {o0 : Nat} {x3 : Int32} {x4 : Int32} {x5 : Int32} {x6 : Int32} (h0 : ¬ 24 ≤ x6) (h1 : ¬ x3 < x4) (h2 : (mi (Z_X10_copy R σ o0 (4848) (((24 * x4) + x6))) (R 647 o0) (x4 : Int32).toNatClampNeg) < 3) (h3 : x5 = 0) (h4 : ¬ (Z_X10_isSame R (Z_X10_copy R (Z_X10_join R (Z_X10_copy R σ o0 (4848) (((24 * x4) + x6))) o0 (4850) (4848) ((4904 + x6))) o0 (((24 * x4) + x6)) (4850)) o0 (4848) (((24 * x4) + x6))) = 0) : Z_X10_arrive_p96_b f R σ o0 x3 x4 x5 x6 = f R (Z_X10_copy R (Z_X10_join R (Z_X10_copy R σ o0 (4848) (((24 * x4) + x6))) o0 (4850) (4848) ((4904 + x6))) o0 (((24 * x4) + x6)) (4850)) o0 (x3) (x4) (0) ((x6 + 1)) := by unfold Z_X10_arrive_p96_b; exact Eq.trans (if_neg h0) (Eq.trans (if_neg h1) (Eq.trans (if_pos h2) (Eq.trans (if_pos h3) (if_neg h4))))
theorem zl_X10_arrive_p96_6 {f : (Nat → Nat → Nat) → SG → Nat → Int32 → Int32 → Int32 → Int32 → SG} {R : Nat → Nat → Nat} {σ : SG} {o0 : Nat} {x3 : Int32} {x4 : Int32} {x5 : Int32} {x6 : Int32} (h0 : ¬ 24 ≤ x6) (h1 : ¬ x3 < x4) (h2 : (mi (Z_X10_copy R σ o0 (4848) (((24 * x4) + x6))) (R 647 o0) (x4 : Int32).toNatClampNeg) < 3) (h3 : ¬ x5 = 0) : Z_X10_arrive_p96_b f R σ o0 x3 x4 x5 x6 = f R (Z_X10_copy R (Z_X10_join R (Z_X10_copy R σ o0 (4848) (((24 * x4) + x6))) o0 (4850) (4848) ((4904 + x6))) o0 (((24 * x4) + x6)) (4850)) o0 (x3) (x4) (1) ((x6 + 1)) := by unfold Z_X10_arrive_p96_b; exact Eq.trans (if_neg h0) (Eq.trans (if_neg h1) (Eq.trans (if_pos h2) (if_neg h3)))
theorem zl_X10_arrive_p96_7 {f : (Nat → Nat → Nat) → SG → Nat → Int32 → Int32 → Int32 → Int32 → SG} {R : Nat → Nat → Nat} {σ : SG} {o0 : Nat} {x3 : Int32} {x4 : Int32} {x5 : Int32} {x6 : Int32} (h0 : ¬ 24 ≤ x6) (h1 : ¬ x3 < x4) (h2 : ¬ (mi (Z_X10_copy R σ o0 (4848) (((24 * x4) + x6))) (R 647 o0) (x4 : Int32).toNatClampNeg) < 3) (h3 : x5 = 0) (h4 : (Z_X10_isSame R (Z_X10_widen R (Z_X10_copy R σ o0 (4848) (((24 * x4) + x6))) o0 (((24 * x4) + x6)) (4848) ((4904 + x6))) o0 (4848) (((24 * x4) + x6))) = 0) : Z_X10_arrive_p96_b f R σ o0 x3 x4 x5 x6 = f R (Z_X10_widen R (Z_X10_copy R σ o0 (4848) (((24 * x4) + x6))) o0 (((24 * x4) + x6)) (4848) ((4904 + x6))) o0 (x3) (x4) (1) ((x6 + 1)) := by unfold Z_X10_arrive_p96_b; exact Eq.trans (if_neg h0) (Eq.trans (if_neg h1) (Eq.trans (if_neg h2) (Eq.trans (if_pos h3) (if_pos h4))))
theorem zl_X10_arrive_p96_8 {f : (Nat → Nat → Nat) → SG → Nat → Int32 → Int32 → Int32 → Int32 → SG} {R : Nat → Nat → Nat} {σ : SG} {o0 : Nat} {x3 : Int32} {x4 : Int32} {x5 : Int32} {x6 : Int32} (h0 : ¬ 24 ≤ x6) (h1 : ¬ x3 < x4) (h2 : ¬ (mi (Z_X10_copy R σ o0 (4848) (((24 * x4) + x6))) (R 647 o0) (x4 : Int32).toNatClampNeg) < 3) (h3 : x5 = 0) (h4 : ¬ (Z_X10_isSame R (Z_X10_widen R (Z_X10_copy R σ o0 (4848) (((24 * x4) + x6))) o0 (((24 * x4) + x6)) (4848) ((4904 + x6))) o0 (4848) (((24 * x4) + x6))) = 0) : Z_X10_arrive_p96_b f R σ o0 x3 x4 x5 x6 = f R (Z_X10_widen R (Z_X10_copy R σ o0 (4848) (((24 * x4) + x6))) o0 (((24 * x4) + x6)) (4848) ((4904 + x6))) o0 (x3) (x4) (0) ((x6 + 1)) := by unfold Z_X10_arrive_p96_b; exact Eq.trans (if_neg h0) (Eq.trans (if_neg h1) (Eq.trans (if_neg h2) (Eq.trans (if_pos h3) (if_neg h4))))
theorem zl_X10_arrive_p96_9 {f : (Nat → Nat → Nat) → SG → Nat → Int32 → Int32 → Int32 → Int32 → SG} {R : Nat → Nat → Nat} {σ : SG} {o0 : Nat} {x3 : Int32} {x4 : Int32} {x5 : Int32} {x6 : Int32} (h0 : ¬ 24 ≤ x6) (h1 : ¬ x3 < x4) (h2 : ¬ (mi (Z_X10_copy R σ o0 (4848) (((24 * x4) + x6))) (R 647 o0) (x4 : Int32).toNatClampNeg) < 3) (h3 : ¬ x5 = 0) : Z_X10_arrive_p96_b f R σ o0 x3 x4 x5 x6 = f R (Z_X10_widen R (Z_X10_copy R σ o0 (4848) (((24 * x4) + x6))) o0 (((24 * x4) + x6)) (4848) ((4904 + x6))) o0 (x3) (x4) (1) ((x6 + 1)) := by unfold Z_X10_arrive_p96_b; exact Eq.trans (if_neg h0) (Eq.trans (if_neg h1) (Eq.trans (if_neg h2) (if_neg h3)))
set_option maxHeartbeats 40000000 in
theorem cz_X10_arrive_p96 {xi : SX} {E : List Nat} {kc nc : Nat} : ∀ (fu : Nat) {S : Hp} {P : Po} {o0 : Nat} {x3 : Int32} {x4 : Int32} {x5 : Int32} {x6 : Int32} {R : Nat → Nat → Nat} (hG : GI S E) (h0 : Oa S E 10 0 o0) (h4 : Rg 0 199 x4) (h5 : Rg 0 1 x5) (h6 : Rg 0 24 x6) (hR : RK S R) (hfu : (24 - x6.toInt).toNat < fu) (hP : ∀ r T x y, PV E [9988, 9989] S kc nc rV (fun v T => sg T = Z_X10_arrive_p96 fu R (sg S) o0 x3 x4 x5 x6) [] r T x y → P r T x y), TT xi M_X10_arrive 96 [(0, .ref o0), (3, .int x3), (4, .int x4), (5, .int x5), (6, .int x6)] [] S kc nc P := by
  intro fu
  induction fu with
  | zero =>
    intro S P o0 x3 x4 x5 x6 R hG h0 h4 h5 h6 hR hfu hP
    exact absurd hfu (Nat.not_lt_zero _)
  | succ fu ih =>
    intro S P o0 x3 x4 x5 x6 R hG h0 h4 h5 h6 hR hfu hP
    have hA : Af E [9988, 9989] S S := af_rf
    refine tt_iload (j := 4) dX10_arrive_96 rfl ?_
    refine tt_bipush (v := 24) dX10_arrive_98 rfl ?_
    refine tt_icmp_ge (tgt := 226) dX10_arrive_100 rfl (fun q101 => ?_) (fun q101 => ?_)
    · skip
      have h102 : Rg 24 24 x6 := rg_le_r (⟨by decide, by decide⟩ : Rg 24 24 24) h6 q101
      have hF : Z_X10_arrive_p96 (fu + 1) R (sg S) o0 x3 x4 x5 x6 = Z_X10_arrive_p226 R (sg S) o0 (x4) (x5) := by
        exact zl_X10_arrive_p96_0 q101
      exact tt_loc (ks := [0, 2, 3]) rfl (cz_X10_arrive_p226 hG (oa_af h0 hA) (rg_w h4) (rg_w h5) hR (fun r T x y h => hP r T x y (pv_tr hA h (by decide) (fun v T e => e.trans ((congrArg (fun q9 => Z_X10_arrive_p226 R q9 o0 (x4) (x5)) (show sg S = (sg S) from rfl)).trans hF.symm)))))
    · skip
      have h103 : Rg 0 23 x6 := rg_lt_l h6 (⟨by decide, by decide⟩ : Rg 24 24 24) (nle_lt q101)
      refine tt_aload_n (j := 0) dX10_arrive_103 rfl ?_
      refine tt_sipush (v := 4848) dX10_arrive_104 rfl ?_
      refine tt_bipush (v := 24) dX10_arrive_107 rfl ?_
      refine tt_iload (j := 2) dX10_arrive_109 rfl ?_
      refine tt_imul dX10_arrive_111 ?_
      refine tt_iload (j := 4) dX10_arrive_112 rfl ?_
      refine tt_iadd dX10_arrive_114 ?_
      refine gt_Vv (As := [.int 4848, .int ((24 * x4) + x6)]) dX10_arrive_115 ca_X10_169 ⟨by decide, by decide⟩ h0 hA rfl (Nat.le_of_ble_eq_true rfl) (Nat.le_of_ble_eq_true rfl) (by decide) (cz_X10_copy hG (oa_af h0 hA) (rg_w (⟨by decide, by decide⟩ : Rg 4848 4848 4848)) (rg_w (rg_add (lo := 0) (hi := 4799) (rg_mul (lo := 0) (hi := 4776) (⟨by decide, by decide⟩ : Rg 24 24 24) h4) h103)) hR (fun _ _ _ _ h => h)) rfl (fun _ h => nomatch h) (fun S104 hx108 hG105 hB106 hA107 => ?_)
      obtain ⟨d109, hd110⟩ : ∃ q, Z_X10_copy R (sg S) o0 (4848) (((24 * x4) + x6)) = q := ⟨_, rfl⟩
      have hq111 := (congrArg (fun q9 => Z_X10_copy R q9 o0 (4848) (((24 * x4) + x6))) (show sg S = (sg S) from rfl)).trans hd110
      have hs112 := hx108.trans hq111
      refine tt_iload (j := 2) dX10_arrive_118 rfl ?_
      refine tt_iload_n (j := 1) dX10_arrive_120 rfl ?_
      refine tt_icmp_gt (tgt := 159) dX10_arrive_121 rfl (fun q113 => ?_) (fun q113 => ?_)
      · skip
        have h114 : Rg (-2147483648) 198 x3 := rg_lt_l (rg_all x3) h4 q113
        refine tt_aload_n (j := 0) dX10_arrive_159 rfl ?_
        refine tt_sipush (v := 4850) dX10_arrive_160 rfl ?_
        refine tt_sipush (v := 4848) dX10_arrive_163 rfl ?_
        refine tt_sipush (v := 4904) dX10_arrive_166 rfl ?_
        refine tt_iload (j := 4) dX10_arrive_169 rfl ?_
        refine tt_iadd dX10_arrive_171 ?_
        refine gt_Vv (As := [.int 4850, .int 4848, .int (4904 + x6)]) dX10_arrive_172 ca_X10_176 ⟨by decide, by decide⟩ h0 hA107 rfl (Nat.le_of_ble_eq_true rfl) (Nat.le_of_ble_eq_true rfl) (by decide) (cz_X10_join hG105 (oa_af h0 hA107) (rg_w (⟨by decide, by decide⟩ : Rg 4850 4850 4850)) (rg_w (⟨by decide, by decide⟩ : Rg 4848 4848 4848)) (rg_w (rg_add (lo := 4904) (hi := 4927) (⟨by decide, by decide⟩ : Rg 4904 4904 4904) h103)) (rk_af hR hA107) (fun _ _ _ _ h => h)) rfl (fun _ h => nomatch h) (fun S115 hx119 hG116 hB117 hA118 => ?_)
        obtain ⟨d120, hd121⟩ : ∃ q, Z_X10_join R d109 o0 (4850) (4848) ((4904 + x6)) = q := ⟨_, rfl⟩
        have hq122 := (congrArg (fun q9 => Z_X10_join R q9 o0 (4850) (4848) ((4904 + x6))) hs112).trans hd121
        have hs123 := hx119.trans hq122
        refine tt_aload_n (j := 0) dX10_arrive_175 rfl ?_
        refine tt_bipush (v := 24) dX10_arrive_176 rfl ?_
        refine tt_iload (j := 2) dX10_arrive_178 rfl ?_
        refine tt_imul dX10_arrive_180 ?_
        refine tt_iload (j := 4) dX10_arrive_181 rfl ?_
        refine tt_iadd dX10_arrive_183 ?_
        refine tt_sipush (v := 4850) dX10_arrive_184 rfl ?_
        refine gt_Vv (As := [.int ((24 * x4) + x6), .int 4850]) dX10_arrive_187 ca_X10_169 ⟨by decide, by decide⟩ h0 hA118 rfl (Nat.le_of_ble_eq_true rfl) (Nat.le_of_ble_eq_true rfl) (by decide) (cz_X10_copy hG116 (oa_af h0 hA118) (rg_w (rg_add (lo := 0) (hi := 4799) (rg_mul (lo := 0) (hi := 4776) (⟨by decide, by decide⟩ : Rg 24 24 24) h4) h103)) (rg_w (⟨by decide, by decide⟩ : Rg 4850 4850 4850)) (rk_af hR hA118) (fun _ _ _ _ h => h)) rfl (fun _ h => nomatch h) (fun S124 hx128 hG125 hB126 hA127 => ?_)
        obtain ⟨d129, hd130⟩ : ∃ q, Z_X10_copy R d120 o0 (((24 * x4) + x6)) (4850) = q := ⟨_, rfl⟩
        have hq131 := (congrArg (fun q9 => Z_X10_copy R q9 o0 (((24 * x4) + x6)) (4850)) hs123).trans hd130
        have hs132 := hx128.trans hq131
        refine tt_iload (j := 3) dX10_arrive_190 rfl ?_
        refine tt_if_ne (tgt := 213) dX10_arrive_192 rfl (fun q133 => ?_) (fun q133 => ?_)
        · skip
          have h134 : Rg 1 1 x5 := rg_ne_lo h5 (⟨by decide, by decide⟩ : Rg 0 0 0) q133
          refine tt_iconst (v := 1) dX10_arrive_213 rfl ?_
          refine tt_goto (tgt := 218) dX10_arrive_214 rfl ?_
          refine tt_istore (ks := [0, 1, 2, 3, 4]) (L' := [(5, .int 1), (0, .ref o0), (3, .int x3), (4, .int x4), (6, .int x6)]) dX10_arrive_218 (by decide) rfl ?_
          refine tt_iinc (j := 4) (v := (x6 + 1)) (ks := [0, 1, 2, 3, 4]) (L' := [(6, .int (x6 + 1)), (5, .int 1), (0, .ref o0), (3, .int x3), (4, .int x4)]) dX10_arrive_220 rfl rfl (by decide) rfl ?_
          refine tt_goto (tgt := 96) dX10_arrive_223 rfl ?_
          have hF : Z_X10_arrive_p96 (fu + 1) R (sg S) o0 x3 x4 x5 x6 = Z_X10_arrive_p96 fu R d129 o0 (x3) (x4) (1) ((x6 + 1)) := by
            subst hd130
            subst hd121
            subst hd110
            exact zl_X10_arrive_p96_3 q101 q113 q133
          exact tt_loc (ks := [2, 3, 4, 1, 0]) rfl (ih hG125 (oa_af h0 hA127) (rg_w h4) (rg_w (⟨by decide, by decide⟩ : Rg 1 1 1)) (rg_w (rg_add (lo := 1) (hi := 24) h103 (⟨by decide, by decide⟩ : Rg 1 1 1))) (rk_af hR hA127) (lp_fu hfu h103) (fun r T x y h => hP r T x y (pv_tr hA127 h (by decide) (fun v T e => e.trans ((congrArg (fun q9 => Z_X10_arrive_p96 fu R q9 o0 (x3) (x4) (1) ((x6 + 1))) hs132).trans hF.symm)))))
        · skip
          have h135 : Rg 0 0 x5 := rg_eq_l h5 (⟨by decide, by decide⟩ : Rg 0 0 0) q133
          refine tt_aload_n (j := 0) dX10_arrive_195 rfl ?_
          refine tt_sipush (v := 4848) dX10_arrive_196 rfl ?_
          refine tt_bipush (v := 24) dX10_arrive_199 rfl ?_
          refine tt_iload (j := 2) dX10_arrive_201 rfl ?_
          refine tt_imul dX10_arrive_203 ?_
          refine tt_iload (j := 4) dX10_arrive_204 rfl ?_
          refine tt_iadd dX10_arrive_206 ?_
          refine gt_VIp (As := [.int 4848, .int ((24 * x4) + x6)]) dX10_arrive_207 ca_X10_290 ⟨by decide, by decide⟩ h0 hA127 rfl (Nat.le_of_ble_eq_true rfl) (Nat.le_of_ble_eq_true rfl) (by decide) (cz_X10_isSame hG125 (oa_af h0 hA127) (rg_w (⟨by decide, by decide⟩ : Rg 4848 4848 4848)) (rg_w (rg_add (lo := 0) (hi := 4799) (rg_mul (lo := 0) (hi := 4776) (⟨by decide, by decide⟩ : Rg 24 24 24) h4) h103)) (rk_af hR hA127) (fun _ _ _ _ h => h)) rfl (fun _ h => nomatch h) (fun _ _ q => q.1) (fun x136 h137 hx138 => ?_)
          obtain rfl : Z_X10_isSame R d129 o0 (4848) (((24 * x4) + x6)) = x136 := ((ei_w hx138.2).trans (congrArg (fun q9 => Z_X10_isSame R q9 o0 (4848) (((24 * x4) + x6))) hs132)).symm
          refine tt_if_ne (tgt := 217) dX10_arrive_210 rfl (fun q139 => ?_) (fun q139 => ?_)
          · skip
            have h140 : Rg 1 1 (Z_X10_isSame R d129 o0 (4848) (((24 * x4) + x6))) := rg_ne_lo h137 (⟨by decide, by decide⟩ : Rg 0 0 0) q139
            refine tt_iconst (v := 0) dX10_arrive_217 rfl ?_
            refine tt_istore (ks := [0, 1, 2, 3, 4]) (L' := [(5, .int 0), (0, .ref o0), (3, .int x3), (4, .int x4), (6, .int x6)]) dX10_arrive_218 (by decide) rfl ?_
            refine tt_iinc (j := 4) (v := (x6 + 1)) (ks := [0, 1, 2, 3, 4]) (L' := [(6, .int (x6 + 1)), (5, .int 0), (0, .ref o0), (3, .int x3), (4, .int x4)]) dX10_arrive_220 rfl rfl (by decide) rfl ?_
            refine tt_goto (tgt := 96) dX10_arrive_223 rfl ?_
            have hF : Z_X10_arrive_p96 (fu + 1) R (sg S) o0 x3 x4 x5 x6 = Z_X10_arrive_p96 fu R d129 o0 (x3) (x4) (0) ((x6 + 1)) := by
              subst hd130
              subst hd121
              subst hd110
              exact zl_X10_arrive_p96_2 q101 q113 q133 q139
            exact tt_loc (ks := [2, 3, 4, 1, 0]) rfl (ih hG125 (oa_af h0 hA127) (rg_w h4) (rg_w (⟨by decide, by decide⟩ : Rg 0 0 0)) (rg_w (rg_add (lo := 1) (hi := 24) h103 (⟨by decide, by decide⟩ : Rg 1 1 1))) (rk_af hR hA127) (lp_fu hfu h103) (fun r T x y h => hP r T x y (pv_tr hA127 h (by decide) (fun v T e => e.trans ((congrArg (fun q9 => Z_X10_arrive_p96 fu R q9 o0 (x3) (x4) (0) ((x6 + 1))) hs132).trans hF.symm)))))
          · skip
            have h141 : Rg 0 0 (Z_X10_isSame R d129 o0 (4848) (((24 * x4) + x6))) := rg_eq_l h137 (⟨by decide, by decide⟩ : Rg 0 0 0) q139
            refine tt_iconst (v := 1) dX10_arrive_213 rfl ?_
            refine tt_goto (tgt := 218) dX10_arrive_214 rfl ?_
            refine tt_istore (ks := [0, 1, 2, 3, 4]) (L' := [(5, .int 1), (0, .ref o0), (3, .int x3), (4, .int x4), (6, .int x6)]) dX10_arrive_218 (by decide) rfl ?_
            refine tt_iinc (j := 4) (v := (x6 + 1)) (ks := [0, 1, 2, 3, 4]) (L' := [(6, .int (x6 + 1)), (5, .int 1), (0, .ref o0), (3, .int x3), (4, .int x4)]) dX10_arrive_220 rfl rfl (by decide) rfl ?_
            refine tt_goto (tgt := 96) dX10_arrive_223 rfl ?_
            have hF : Z_X10_arrive_p96 (fu + 1) R (sg S) o0 x3 x4 x5 x6 = Z_X10_arrive_p96 fu R d129 o0 (x3) (x4) (1) ((x6 + 1)) := by
              subst hd130
              subst hd121
              subst hd110
              exact zl_X10_arrive_p96_1 q101 q113 q133 q139
            exact tt_loc (ks := [2, 3, 4, 1, 0]) rfl (ih hG125 (oa_af h0 hA127) (rg_w h4) (rg_w (⟨by decide, by decide⟩ : Rg 1 1 1)) (rg_w (rg_add (lo := 1) (hi := 24) h103 (⟨by decide, by decide⟩ : Rg 1 1 1))) (rk_af hR hA127) (lp_fu hfu h103) (fun r T x y h => hP r T x y (pv_tr hA127 h (by decide) (fun v T e => e.trans ((congrArg (fun q9 => Z_X10_arrive_p96 fu R q9 o0 (x3) (x4) (1) ((x6 + 1))) hs132).trans hF.symm)))))
      · skip
        have h142 : Rg 0 2147483647 x3 := rg_le_r h4 (rg_all x3) (nlt_le q113)
        refine tt_aload_n (j := 0) dX10_arrive_124 rfl ?_
        have hr143 := rk_R (k := 647) hR h0 32 201
        have ho144 := rk_O (k := 647) hG hR h0 32 201
        refine gt_gR (id := 647) dX10_arrive_125 fl_10_26 rfl rfl h0 hA107 hr143 ?_
        refine tt_iload (j := 2) dX10_arrive_128 rfl ?_
        refine gx_iL (v := (mi d109 (R 647 o0) (x4 : Int32).toNatClampNeg)) dX10_arrive_130 ho144 hA107 (rg_in h4) (sg_i (a := (R 647 o0)) (i := (x4 : Int32).toNatClampNeg) hs112) ?_
        refine tt_iconst (v := 3) dX10_arrive_131 rfl ?_
        refine tt_icmp_lt (tgt := 159) dX10_arrive_132 rfl (fun q145 => ?_) (fun q145 => ?_)
        · skip
          have h146 : Rg (-2147483648) 2 (mi d109 (R 647 o0) (x4 : Int32).toNatClampNeg) := rg_lt_l (rg_all (mi d109 (R 647 o0) (x4 : Int32).toNatClampNeg)) (⟨by decide, by decide⟩ : Rg 3 3 3) q145
          refine tt_aload_n (j := 0) dX10_arrive_159 rfl ?_
          refine tt_sipush (v := 4850) dX10_arrive_160 rfl ?_
          refine tt_sipush (v := 4848) dX10_arrive_163 rfl ?_
          refine tt_sipush (v := 4904) dX10_arrive_166 rfl ?_
          refine tt_iload (j := 4) dX10_arrive_169 rfl ?_
          refine tt_iadd dX10_arrive_171 ?_
          refine gt_Vv (As := [.int 4850, .int 4848, .int (4904 + x6)]) dX10_arrive_172 ca_X10_176 ⟨by decide, by decide⟩ h0 hA107 rfl (Nat.le_of_ble_eq_true rfl) (Nat.le_of_ble_eq_true rfl) (by decide) (cz_X10_join hG105 (oa_af h0 hA107) (rg_w (⟨by decide, by decide⟩ : Rg 4850 4850 4850)) (rg_w (⟨by decide, by decide⟩ : Rg 4848 4848 4848)) (rg_w (rg_add (lo := 4904) (hi := 4927) (⟨by decide, by decide⟩ : Rg 4904 4904 4904) h103)) (rk_af hR hA107) (fun _ _ _ _ h => h)) rfl (fun _ h => nomatch h) (fun S147 hx151 hG148 hB149 hA150 => ?_)
          obtain ⟨d152, hd153⟩ : ∃ q, Z_X10_join R d109 o0 (4850) (4848) ((4904 + x6)) = q := ⟨_, rfl⟩
          have hq154 := (congrArg (fun q9 => Z_X10_join R q9 o0 (4850) (4848) ((4904 + x6))) hs112).trans hd153
          have hs155 := hx151.trans hq154
          refine tt_aload_n (j := 0) dX10_arrive_175 rfl ?_
          refine tt_bipush (v := 24) dX10_arrive_176 rfl ?_
          refine tt_iload (j := 2) dX10_arrive_178 rfl ?_
          refine tt_imul dX10_arrive_180 ?_
          refine tt_iload (j := 4) dX10_arrive_181 rfl ?_
          refine tt_iadd dX10_arrive_183 ?_
          refine tt_sipush (v := 4850) dX10_arrive_184 rfl ?_
          refine gt_Vv (As := [.int ((24 * x4) + x6), .int 4850]) dX10_arrive_187 ca_X10_169 ⟨by decide, by decide⟩ h0 hA150 rfl (Nat.le_of_ble_eq_true rfl) (Nat.le_of_ble_eq_true rfl) (by decide) (cz_X10_copy hG148 (oa_af h0 hA150) (rg_w (rg_add (lo := 0) (hi := 4799) (rg_mul (lo := 0) (hi := 4776) (⟨by decide, by decide⟩ : Rg 24 24 24) h4) h103)) (rg_w (⟨by decide, by decide⟩ : Rg 4850 4850 4850)) (rk_af hR hA150) (fun _ _ _ _ h => h)) rfl (fun _ h => nomatch h) (fun S156 hx160 hG157 hB158 hA159 => ?_)
          obtain ⟨d161, hd162⟩ : ∃ q, Z_X10_copy R d152 o0 (((24 * x4) + x6)) (4850) = q := ⟨_, rfl⟩
          have hq163 := (congrArg (fun q9 => Z_X10_copy R q9 o0 (((24 * x4) + x6)) (4850)) hs155).trans hd162
          have hs164 := hx160.trans hq163
          refine tt_iload (j := 3) dX10_arrive_190 rfl ?_
          refine tt_if_ne (tgt := 213) dX10_arrive_192 rfl (fun q165 => ?_) (fun q165 => ?_)
          · skip
            have h166 : Rg 1 1 x5 := rg_ne_lo h5 (⟨by decide, by decide⟩ : Rg 0 0 0) q165
            refine tt_iconst (v := 1) dX10_arrive_213 rfl ?_
            refine tt_goto (tgt := 218) dX10_arrive_214 rfl ?_
            refine tt_istore (ks := [0, 1, 2, 3, 4]) (L' := [(5, .int 1), (0, .ref o0), (3, .int x3), (4, .int x4), (6, .int x6)]) dX10_arrive_218 (by decide) rfl ?_
            refine tt_iinc (j := 4) (v := (x6 + 1)) (ks := [0, 1, 2, 3, 4]) (L' := [(6, .int (x6 + 1)), (5, .int 1), (0, .ref o0), (3, .int x3), (4, .int x4)]) dX10_arrive_220 rfl rfl (by decide) rfl ?_
            refine tt_goto (tgt := 96) dX10_arrive_223 rfl ?_
            have hF : Z_X10_arrive_p96 (fu + 1) R (sg S) o0 x3 x4 x5 x6 = Z_X10_arrive_p96 fu R d161 o0 (x3) (x4) (1) ((x6 + 1)) := by
              subst hd162
              subst hd153
              subst hd110
              exact zl_X10_arrive_p96_6 q101 q113 q145 q165
            exact tt_loc (ks := [2, 3, 4, 1, 0]) rfl (ih hG157 (oa_af h0 hA159) (rg_w h4) (rg_w (⟨by decide, by decide⟩ : Rg 1 1 1)) (rg_w (rg_add (lo := 1) (hi := 24) h103 (⟨by decide, by decide⟩ : Rg 1 1 1))) (rk_af hR hA159) (lp_fu hfu h103) (fun r T x y h => hP r T x y (pv_tr hA159 h (by decide) (fun v T e => e.trans ((congrArg (fun q9 => Z_X10_arrive_p96 fu R q9 o0 (x3) (x4) (1) ((x6 + 1))) hs164).trans hF.symm)))))
          · skip
            have h167 : Rg 0 0 x5 := rg_eq_l h5 (⟨by decide, by decide⟩ : Rg 0 0 0) q165
            refine tt_aload_n (j := 0) dX10_arrive_195 rfl ?_
            refine tt_sipush (v := 4848) dX10_arrive_196 rfl ?_
            refine tt_bipush (v := 24) dX10_arrive_199 rfl ?_
            refine tt_iload (j := 2) dX10_arrive_201 rfl ?_
            refine tt_imul dX10_arrive_203 ?_
            refine tt_iload (j := 4) dX10_arrive_204 rfl ?_
            refine tt_iadd dX10_arrive_206 ?_
            refine gt_VIp (As := [.int 4848, .int ((24 * x4) + x6)]) dX10_arrive_207 ca_X10_290 ⟨by decide, by decide⟩ h0 hA159 rfl (Nat.le_of_ble_eq_true rfl) (Nat.le_of_ble_eq_true rfl) (by decide) (cz_X10_isSame hG157 (oa_af h0 hA159) (rg_w (⟨by decide, by decide⟩ : Rg 4848 4848 4848)) (rg_w (rg_add (lo := 0) (hi := 4799) (rg_mul (lo := 0) (hi := 4776) (⟨by decide, by decide⟩ : Rg 24 24 24) h4) h103)) (rk_af hR hA159) (fun _ _ _ _ h => h)) rfl (fun _ h => nomatch h) (fun _ _ q => q.1) (fun x168 h169 hx170 => ?_)
            obtain rfl : Z_X10_isSame R d161 o0 (4848) (((24 * x4) + x6)) = x168 := ((ei_w hx170.2).trans (congrArg (fun q9 => Z_X10_isSame R q9 o0 (4848) (((24 * x4) + x6))) hs164)).symm
            refine tt_if_ne (tgt := 217) dX10_arrive_210 rfl (fun q171 => ?_) (fun q171 => ?_)
            · skip
              have h172 : Rg 1 1 (Z_X10_isSame R d161 o0 (4848) (((24 * x4) + x6))) := rg_ne_lo h169 (⟨by decide, by decide⟩ : Rg 0 0 0) q171
              refine tt_iconst (v := 0) dX10_arrive_217 rfl ?_
              refine tt_istore (ks := [0, 1, 2, 3, 4]) (L' := [(5, .int 0), (0, .ref o0), (3, .int x3), (4, .int x4), (6, .int x6)]) dX10_arrive_218 (by decide) rfl ?_
              refine tt_iinc (j := 4) (v := (x6 + 1)) (ks := [0, 1, 2, 3, 4]) (L' := [(6, .int (x6 + 1)), (5, .int 0), (0, .ref o0), (3, .int x3), (4, .int x4)]) dX10_arrive_220 rfl rfl (by decide) rfl ?_
              refine tt_goto (tgt := 96) dX10_arrive_223 rfl ?_
              have hF : Z_X10_arrive_p96 (fu + 1) R (sg S) o0 x3 x4 x5 x6 = Z_X10_arrive_p96 fu R d161 o0 (x3) (x4) (0) ((x6 + 1)) := by
                subst hd162
                subst hd153
                subst hd110
                exact zl_X10_arrive_p96_5 q101 q113 q145 q165 q171
              exact tt_loc (ks := [2, 3, 4, 1, 0]) rfl (ih hG157 (oa_af h0 hA159) (rg_w h4) (rg_w (⟨by decide, by decide⟩ : Rg 0 0 0)) (rg_w (rg_add (lo := 1) (hi := 24) h103 (⟨by decide, by decide⟩ : Rg 1 1 1))) (rk_af hR hA159) (lp_fu hfu h103) (fun r T x y h => hP r T x y (pv_tr hA159 h (by decide) (fun v T e => e.trans ((congrArg (fun q9 => Z_X10_arrive_p96 fu R q9 o0 (x3) (x4) (0) ((x6 + 1))) hs164).trans hF.symm)))))
            · skip
              have h173 : Rg 0 0 (Z_X10_isSame R d161 o0 (4848) (((24 * x4) + x6))) := rg_eq_l h169 (⟨by decide, by decide⟩ : Rg 0 0 0) q171
              refine tt_iconst (v := 1) dX10_arrive_213 rfl ?_
              refine tt_goto (tgt := 218) dX10_arrive_214 rfl ?_
              refine tt_istore (ks := [0, 1, 2, 3, 4]) (L' := [(5, .int 1), (0, .ref o0), (3, .int x3), (4, .int x4), (6, .int x6)]) dX10_arrive_218 (by decide) rfl ?_
              refine tt_iinc (j := 4) (v := (x6 + 1)) (ks := [0, 1, 2, 3, 4]) (L' := [(6, .int (x6 + 1)), (5, .int 1), (0, .ref o0), (3, .int x3), (4, .int x4)]) dX10_arrive_220 rfl rfl (by decide) rfl ?_
              refine tt_goto (tgt := 96) dX10_arrive_223 rfl ?_
              have hF : Z_X10_arrive_p96 (fu + 1) R (sg S) o0 x3 x4 x5 x6 = Z_X10_arrive_p96 fu R d161 o0 (x3) (x4) (1) ((x6 + 1)) := by
                subst hd162
                subst hd153
                subst hd110
                exact zl_X10_arrive_p96_4 q101 q113 q145 q165 q171
              exact tt_loc (ks := [2, 3, 4, 1, 0]) rfl (ih hG157 (oa_af h0 hA159) (rg_w h4) (rg_w (⟨by decide, by decide⟩ : Rg 1 1 1)) (rg_w (rg_add (lo := 1) (hi := 24) h103 (⟨by decide, by decide⟩ : Rg 1 1 1))) (rk_af hR hA159) (lp_fu hfu h103) (fun r T x y h => hP r T x y (pv_tr hA159 h (by decide) (fun v T e => e.trans ((congrArg (fun q9 => Z_X10_arrive_p96 fu R q9 o0 (x3) (x4) (1) ((x6 + 1))) hs164).trans hF.symm)))))
        · skip
          have h174 : Rg 3 2147483647 (mi d109 (R 647 o0) (x4 : Int32).toNatClampNeg) := rg_le_r (⟨by decide, by decide⟩ : Rg 3 3 3) (rg_all (mi d109 (R 647 o0) (x4 : Int32).toNatClampNeg)) (nlt_le q145)
          refine tt_aload_n (j := 0) dX10_arrive_135 rfl ?_
          refine tt_bipush (v := 24) dX10_arrive_136 rfl ?_
          refine tt_iload (j := 2) dX10_arrive_138 rfl ?_
          refine tt_imul dX10_arrive_140 ?_
          refine tt_iload (j := 4) dX10_arrive_141 rfl ?_
          refine tt_iadd dX10_arrive_143 ?_
          refine tt_sipush (v := 4848) dX10_arrive_144 rfl ?_
          refine tt_sipush (v := 4904) dX10_arrive_147 rfl ?_
          refine tt_iload (j := 4) dX10_arrive_150 rfl ?_
          refine tt_iadd dX10_arrive_152 ?_
          refine gt_Vv (As := [.int ((24 * x4) + x6), .int 4848, .int (4904 + x6)]) dX10_arrive_153 ca_X10_287 ⟨by decide, by decide⟩ h0 hA107 rfl (Nat.le_of_ble_eq_true rfl) (Nat.le_of_ble_eq_true rfl) (by decide) (cz_X10_widen hG105 (oa_af h0 hA107) (rg_w (rg_add (lo := 0) (hi := 4799) (rg_mul (lo := 0) (hi := 4776) (⟨by decide, by decide⟩ : Rg 24 24 24) h4) h103)) (rg_w (⟨by decide, by decide⟩ : Rg 4848 4848 4848)) (rg_w (rg_add (lo := 4904) (hi := 4927) (⟨by decide, by decide⟩ : Rg 4904 4904 4904) h103)) (rk_af hR hA107) (fun _ _ _ _ h => h)) rfl (fun _ h => nomatch h) (fun S175 hx179 hG176 hB177 hA178 => ?_)
          obtain ⟨d180, hd181⟩ : ∃ q, Z_X10_widen R d109 o0 (((24 * x4) + x6)) (4848) ((4904 + x6)) = q := ⟨_, rfl⟩
          have hq182 := (congrArg (fun q9 => Z_X10_widen R q9 o0 (((24 * x4) + x6)) (4848) ((4904 + x6))) hs112).trans hd181
          have hs183 := hx179.trans hq182
          refine tt_goto (tgt := 190) dX10_arrive_156 rfl ?_
          refine tt_iload (j := 3) dX10_arrive_190 rfl ?_
          refine tt_if_ne (tgt := 213) dX10_arrive_192 rfl (fun q184 => ?_) (fun q184 => ?_)
          · skip
            have h185 : Rg 1 1 x5 := rg_ne_lo h5 (⟨by decide, by decide⟩ : Rg 0 0 0) q184
            refine tt_iconst (v := 1) dX10_arrive_213 rfl ?_
            refine tt_goto (tgt := 218) dX10_arrive_214 rfl ?_
            refine tt_istore (ks := [0, 1, 2, 3, 4]) (L' := [(5, .int 1), (0, .ref o0), (3, .int x3), (4, .int x4), (6, .int x6)]) dX10_arrive_218 (by decide) rfl ?_
            refine tt_iinc (j := 4) (v := (x6 + 1)) (ks := [0, 1, 2, 3, 4]) (L' := [(6, .int (x6 + 1)), (5, .int 1), (0, .ref o0), (3, .int x3), (4, .int x4)]) dX10_arrive_220 rfl rfl (by decide) rfl ?_
            refine tt_goto (tgt := 96) dX10_arrive_223 rfl ?_
            have hF : Z_X10_arrive_p96 (fu + 1) R (sg S) o0 x3 x4 x5 x6 = Z_X10_arrive_p96 fu R d180 o0 (x3) (x4) (1) ((x6 + 1)) := by
              subst hd181
              subst hd110
              exact zl_X10_arrive_p96_9 q101 q113 q145 q184
            exact tt_loc (ks := [2, 3, 4, 1, 0]) rfl (ih hG176 (oa_af h0 hA178) (rg_w h4) (rg_w (⟨by decide, by decide⟩ : Rg 1 1 1)) (rg_w (rg_add (lo := 1) (hi := 24) h103 (⟨by decide, by decide⟩ : Rg 1 1 1))) (rk_af hR hA178) (lp_fu hfu h103) (fun r T x y h => hP r T x y (pv_tr hA178 h (by decide) (fun v T e => e.trans ((congrArg (fun q9 => Z_X10_arrive_p96 fu R q9 o0 (x3) (x4) (1) ((x6 + 1))) hs183).trans hF.symm)))))
          · skip
            have h186 : Rg 0 0 x5 := rg_eq_l h5 (⟨by decide, by decide⟩ : Rg 0 0 0) q184
            refine tt_aload_n (j := 0) dX10_arrive_195 rfl ?_
            refine tt_sipush (v := 4848) dX10_arrive_196 rfl ?_
            refine tt_bipush (v := 24) dX10_arrive_199 rfl ?_
            refine tt_iload (j := 2) dX10_arrive_201 rfl ?_
            refine tt_imul dX10_arrive_203 ?_
            refine tt_iload (j := 4) dX10_arrive_204 rfl ?_
            refine tt_iadd dX10_arrive_206 ?_
            refine gt_VIp (As := [.int 4848, .int ((24 * x4) + x6)]) dX10_arrive_207 ca_X10_290 ⟨by decide, by decide⟩ h0 hA178 rfl (Nat.le_of_ble_eq_true rfl) (Nat.le_of_ble_eq_true rfl) (by decide) (cz_X10_isSame hG176 (oa_af h0 hA178) (rg_w (⟨by decide, by decide⟩ : Rg 4848 4848 4848)) (rg_w (rg_add (lo := 0) (hi := 4799) (rg_mul (lo := 0) (hi := 4776) (⟨by decide, by decide⟩ : Rg 24 24 24) h4) h103)) (rk_af hR hA178) (fun _ _ _ _ h => h)) rfl (fun _ h => nomatch h) (fun _ _ q => q.1) (fun x187 h188 hx189 => ?_)
            obtain rfl : Z_X10_isSame R d180 o0 (4848) (((24 * x4) + x6)) = x187 := ((ei_w hx189.2).trans (congrArg (fun q9 => Z_X10_isSame R q9 o0 (4848) (((24 * x4) + x6))) hs183)).symm
            refine tt_if_ne (tgt := 217) dX10_arrive_210 rfl (fun q190 => ?_) (fun q190 => ?_)
            · skip
              have h191 : Rg 1 1 (Z_X10_isSame R d180 o0 (4848) (((24 * x4) + x6))) := rg_ne_lo h188 (⟨by decide, by decide⟩ : Rg 0 0 0) q190
              refine tt_iconst (v := 0) dX10_arrive_217 rfl ?_
              refine tt_istore (ks := [0, 1, 2, 3, 4]) (L' := [(5, .int 0), (0, .ref o0), (3, .int x3), (4, .int x4), (6, .int x6)]) dX10_arrive_218 (by decide) rfl ?_
              refine tt_iinc (j := 4) (v := (x6 + 1)) (ks := [0, 1, 2, 3, 4]) (L' := [(6, .int (x6 + 1)), (5, .int 0), (0, .ref o0), (3, .int x3), (4, .int x4)]) dX10_arrive_220 rfl rfl (by decide) rfl ?_
              refine tt_goto (tgt := 96) dX10_arrive_223 rfl ?_
              have hF : Z_X10_arrive_p96 (fu + 1) R (sg S) o0 x3 x4 x5 x6 = Z_X10_arrive_p96 fu R d180 o0 (x3) (x4) (0) ((x6 + 1)) := by
                subst hd181
                subst hd110
                exact zl_X10_arrive_p96_8 q101 q113 q145 q184 q190
              exact tt_loc (ks := [2, 3, 4, 1, 0]) rfl (ih hG176 (oa_af h0 hA178) (rg_w h4) (rg_w (⟨by decide, by decide⟩ : Rg 0 0 0)) (rg_w (rg_add (lo := 1) (hi := 24) h103 (⟨by decide, by decide⟩ : Rg 1 1 1))) (rk_af hR hA178) (lp_fu hfu h103) (fun r T x y h => hP r T x y (pv_tr hA178 h (by decide) (fun v T e => e.trans ((congrArg (fun q9 => Z_X10_arrive_p96 fu R q9 o0 (x3) (x4) (0) ((x6 + 1))) hs183).trans hF.symm)))))
            · skip
              have h192 : Rg 0 0 (Z_X10_isSame R d180 o0 (4848) (((24 * x4) + x6))) := rg_eq_l h188 (⟨by decide, by decide⟩ : Rg 0 0 0) q190
              refine tt_iconst (v := 1) dX10_arrive_213 rfl ?_
              refine tt_goto (tgt := 218) dX10_arrive_214 rfl ?_
              refine tt_istore (ks := [0, 1, 2, 3, 4]) (L' := [(5, .int 1), (0, .ref o0), (3, .int x3), (4, .int x4), (6, .int x6)]) dX10_arrive_218 (by decide) rfl ?_
              refine tt_iinc (j := 4) (v := (x6 + 1)) (ks := [0, 1, 2, 3, 4]) (L' := [(6, .int (x6 + 1)), (5, .int 1), (0, .ref o0), (3, .int x3), (4, .int x4)]) dX10_arrive_220 rfl rfl (by decide) rfl ?_
              refine tt_goto (tgt := 96) dX10_arrive_223 rfl ?_
              have hF : Z_X10_arrive_p96 (fu + 1) R (sg S) o0 x3 x4 x5 x6 = Z_X10_arrive_p96 fu R d180 o0 (x3) (x4) (1) ((x6 + 1)) := by
                subst hd181
                subst hd110
                exact zl_X10_arrive_p96_7 q101 q113 q145 q184 q190
              exact tt_loc (ks := [2, 3, 4, 1, 0]) rfl (ih hG176 (oa_af h0 hA178) (rg_w h4) (rg_w (⟨by decide, by decide⟩ : Rg 1 1 1)) (rg_w (rg_add (lo := 1) (hi := 24) h103 (⟨by decide, by decide⟩ : Rg 1 1 1))) (rk_af hR hA178) (lp_fu hfu h103) (fun r T x y h => hP r T x y (pv_tr hA178 h (by decide) (fun v T e => e.trans ((congrArg (fun q9 => Z_X10_arrive_p96 fu R q9 o0 (x3) (x4) (1) ((x6 + 1))) hs183).trans hF.symm)))))
def Z_X10_arrive (R : Nat → Nat → Nat) (σ : SG) (o0 : Nat) (y1 : Int64) (x3 : Int32) : SG :=
  if (Z_X10_isIn (y1) (0) ((((mI σ 642 o0) - 1) : Int32).toInt64)) = 0 then
    σ
  else
    if (mi σ (R 647 o0) ((y1 : Int64).toInt32 : Int32).toNatClampNeg) = 0 then
      Z_X10_arrive_p33 25 R σ o0 ((y1 : Int64).toInt32) (0)
    else
      Z_X10_arrive_p96 25 R σ o0 (x3) ((y1 : Int64).toInt32) (0) (0)
theorem zl_X10_arrive_0 {R : Nat → Nat → Nat} {σ : SG} {o0 : Nat} {y1 : Int64} {x3 : Int32} (h0 : (Z_X10_isIn (y1) (0) ((((mI σ 642 o0) - 1) : Int32).toInt64)) = 0) : Z_X10_arrive R σ o0 y1 x3 = σ := by unfold Z_X10_arrive; exact if_pos h0
theorem zl_X10_arrive_1 {R : Nat → Nat → Nat} {σ : SG} {o0 : Nat} {y1 : Int64} {x3 : Int32} (h0 : ¬ (Z_X10_isIn (y1) (0) ((((mI σ 642 o0) - 1) : Int32).toInt64)) = 0) (h1 : (mi σ (R 647 o0) ((y1 : Int64).toInt32 : Int32).toNatClampNeg) = 0) : Z_X10_arrive R σ o0 y1 x3 = Z_X10_arrive_p33 25 R σ o0 ((y1 : Int64).toInt32) (0) := by unfold Z_X10_arrive; exact Eq.trans (if_neg h0) (if_pos h1)
theorem zl_X10_arrive_2 {R : Nat → Nat → Nat} {σ : SG} {o0 : Nat} {y1 : Int64} {x3 : Int32} (h0 : ¬ (Z_X10_isIn (y1) (0) ((((mI σ 642 o0) - 1) : Int32).toInt64)) = 0) (h1 : ¬ (mi σ (R 647 o0) ((y1 : Int64).toInt32 : Int32).toNatClampNeg) = 0) : Z_X10_arrive R σ o0 y1 x3 = Z_X10_arrive_p96 25 R σ o0 (x3) ((y1 : Int64).toInt32) (0) (0) := by unfold Z_X10_arrive; exact Eq.trans (if_neg h0) (if_neg h1)
set_option maxHeartbeats 40000000 in
theorem cz_X10_arrive {xi : SX} {S : Hp} {E : List Nat} {kc nc : Nat} {P : Po} {o0 : Nat} {y1 : Int64} {x3 : Int32} {R : Nat → Nat → Nat} (hG : GI S E) (h0 : Oa S E 10 0 o0) (hR : RK S R) (hP : ∀ r T x y, PV E [9988, 9989] S kc nc rV (fun v T => sg T = Z_X10_arrive R (sg S) o0 y1 x3) [] r T x y → P r T x y) : TT xi M_X10_arrive 0 [(0, .ref o0), (1, .long y1), (3, .int x3)] [] S kc nc P := by
  have hA : Af E [9988, 9989] S S := af_rf
  refine tt_lload_n (j := 1) dX10_arrive_0 rfl ?_
  refine tt_lconst (v := 0) dX10_arrive_1 rfl ?_
  refine tt_aload_n (j := 0) dX10_arrive_2 rfl ?_
  refine gt_gI (id := 642) (v := (mI (sg S) 642 o0)) dX10_arrive_3 fl_10_71 rfl rfl h0 hA (sg_I (k := 642) (o := o0) (show sg S = (sg S) from rfl)) ?_
  refine tt_iconst (v := 1) dX10_arrive_6 rfl ?_
  refine tt_isub dX10_arrive_7 ?_
  refine tt_i2l dX10_arrive_8 ?_
  refine gt_SIp (As := [.long y1, .long 0, .long (((mI (sg S) 642 o0) - 1) : Int32).toInt64]) dX10_arrive_9 ca_X10_67 ⟨by decide, by decide⟩ hA (Nat.le_of_ble_eq_true rfl) (Nat.le_of_ble_eq_true rfl) (by decide) (cz_X10_isIn hG  (fun _ _ _ _ h => h)) rfl (fun _ h => nomatch h) (fun _ _ q => q.1) (fun x101 h102 hx103 => ?_)
  obtain rfl : Z_X10_isIn (y1) (0) ((((mI (sg S) 642 o0) - 1) : Int32).toInt64) = x101 := ((ei_w hx103.2).trans rfl).symm
  refine tt_if_ne (tgt := 16) dX10_arrive_12 rfl (fun q104 => ?_) (fun q104 => ?_)
  · skip
    have h105 : Rl 0 199 y1 := isn_z q104 (gi_I (k := 642) hG h0 0 200)
    refine tt_lload_n (j := 1) dX10_arrive_16 rfl ?_
    refine tt_l2i dX10_arrive_17 ?_
    refine tt_istore (ks := [0, 1, 2, 3]) (L' := [(4, .int (y1 : Int64).toInt32), (0, .ref o0), (1, .long y1), (3, .int x3)]) dX10_arrive_18 (by decide) rfl ?_
    refine tt_aload_n (j := 1) dX10_arrive_20 rfl ?_
    have hr106 := rk_R (k := 647) hR h0 32 201
    have ho107 := rk_O (k := 647) hG hR h0 32 201
    refine gt_gR (id := 647) dX10_arrive_21 fl_10_26 rfl rfl h0 hA hr106 ?_
    refine tt_iload (j := 0) dX10_arrive_24 rfl ?_
    refine gx_iL (v := (mi (sg S) (R 647 o0) ((y1 : Int64).toInt32 : Int32).toNatClampNeg)) dX10_arrive_26 ho107 hA (rg_in (rl_l2i h105)) (sg_i (a := (R 647 o0)) (i := ((y1 : Int64).toInt32 : Int32).toNatClampNeg) (show sg S = (sg S) from rfl)) ?_
    refine tt_if_ne (tgt := 90) dX10_arrive_27 rfl (fun q108 => ?_) (fun q108 => ?_)
    · skip
      refine tt_iconst (v := 0) dX10_arrive_90 rfl ?_
      refine tt_istore (ks := [0, 1, 2, 3, 4]) (L' := [(5, .int 0), (4, .int (y1 : Int64).toInt32), (0, .ref o0), (1, .long y1), (3, .int x3)]) dX10_arrive_91 (by decide) rfl ?_
      refine tt_iconst (v := 0) dX10_arrive_93 rfl ?_
      refine tt_istore (ks := [0, 1, 2, 3, 4, 5]) (L' := [(6, .int 0), (5, .int 0), (4, .int (y1 : Int64).toInt32), (0, .ref o0), (1, .long y1), (3, .int x3)]) dX10_arrive_94 (by decide) rfl ?_
      have hF : Z_X10_arrive R (sg S) o0 y1 x3 = Z_X10_arrive_p96 25 R (sg S) o0 (x3) ((y1 : Int64).toInt32) (0) (0) := by
        exact zl_X10_arrive_2 q104 q108
      exact tt_loc (ks := [3, 5, 2, 1, 0]) rfl (cz_X10_arrive_p96 25 hG (oa_af h0 hA) (rg_w (rl_l2i h105)) (rg_w (⟨by decide, by decide⟩ : Rg 0 0 0)) (rg_w (⟨by decide, by decide⟩ : Rg 0 0 0)) hR (by decide) (fun r T x y h => hP r T x y (pv_tr hA h (by decide) (fun v T e => e.trans ((congrArg (fun q9 => Z_X10_arrive_p96 25 R q9 o0 (x3) ((y1 : Int64).toInt32) (0) (0)) (show sg S = (sg S) from rfl)).trans hF.symm)))))
    · skip
      have h109 : Rg 0 0 (mi (sg S) (R 647 o0) ((y1 : Int64).toInt32 : Int32).toNatClampNeg) := rg_eq_l (rg_all (mi (sg S) (R 647 o0) ((y1 : Int64).toInt32 : Int32).toNatClampNeg)) (⟨by decide, by decide⟩ : Rg 0 0 0) q108
      refine tt_iconst (v := 0) dX10_arrive_30 rfl ?_
      refine tt_istore (ks := [0, 1, 2, 3, 4]) (L' := [(5, .int 0), (4, .int (y1 : Int64).toInt32), (0, .ref o0), (1, .long y1), (3, .int x3)]) dX10_arrive_31 (by decide) rfl ?_
      have hF : Z_X10_arrive R (sg S) o0 y1 x3 = Z_X10_arrive_p33 25 R (sg S) o0 ((y1 : Int64).toInt32) (0) := by
        exact zl_X10_arrive_1 q104 q108
      exact tt_loc (ks := [2, 1, 0]) rfl (cz_X10_arrive_p33 25 hG (oa_af h0 hA) (rg_w (rl_l2i h105)) (rg_w (⟨by decide, by decide⟩ : Rg 0 0 0)) hR (by decide) (fun r T x y h => hP r T x y (pv_tr hA h (by decide) (fun v T e => e.trans ((congrArg (fun q9 => Z_X10_arrive_p33 25 R q9 o0 ((y1 : Int64).toInt32) (0)) (show sg S = (sg S) from rfl)).trans hF.symm)))))
  · skip
    have h110 : Rg 0 0 (Z_X10_isIn (y1) (0) ((((mI (sg S) 642 o0) - 1) : Int32).toInt64)) := rg_eq_l h102 (⟨by decide, by decide⟩ : Rg 0 0 0) q104
    have hF : Z_X10_arrive R (sg S) o0 y1 x3 = (sg S) := by
      exact zl_X10_arrive_0 q104
    exact tt_vreturn dX10_arrive_15 rfl (hP _ _ _ _ ⟨hG, hA, Or.inl ⟨_, rfl, rfl, Eq.trans (show sg S = (sg S) from rfl) hF.symm, rfl, rfl⟩⟩)
def Z_X10_goThrough_p83 (R : Nat → Nat → Nat) (σ : SG) (o0 : Nat) (x1 : Int32) (x2 : Int32) : SG :=
  if (mI σ 655 o0) = 20 then
    let d202 := Z_X10_goAlong R σ o0 ((-1))
    let d213 := Z_X10_arrive R d202.1 o0 ((mJ σ 660 o0)) (x1)
    d213
  else
    if (mI σ 655 o0) = 19 then
      let d132 := Z_X10_goAlong R σ o0 (((mI σ 659 o0) ^^^ 1))
      if d132.2 = 0 then
        let d145 := Z_X10_goAlong R d132.1 o0 ((mI σ 659 o0))
        if d145.2 = 0 then
          d145.1
        else
          let d159 := Z_X10_arrive R d145.1 o0 ((mJ σ 660 o0)) (x1)
          d159
      else
        let d169 := Z_X10_arrive R d132.1 o0 ((x2 : Int32).toInt64) (x1)
        let d178 := Z_X10_goAlong R d169 o0 ((mI σ 659 o0))
        if d178.2 = 0 then
          d178.1
        else
          let d192 := Z_X10_arrive R d178.1 o0 ((mJ σ 660 o0)) (x1)
          d192
    else
      let d108 := Z_X10_goAlong R σ o0 ((-1))
      if d108.2 = 0 then
        d108.1
      else
        let d122 := Z_X10_arrive R d108.1 o0 ((x2 : Int32).toInt64) (x1)
        d122
theorem zl_X10_goThrough_p83_0 {R : Nat → Nat → Nat} {σ : SG} {o0 : Nat} {x1 : Int32} {x2 : Int32} (h0 : (mI σ 655 o0) = 20) : Z_X10_goThrough_p83 R σ o0 x1 x2 = (Z_X10_arrive R (Z_X10_goAlong R σ o0 ((-1))).1 o0 ((mJ σ 660 o0)) (x1)) := by unfold Z_X10_goThrough_p83; exact if_pos h0
theorem zl_X10_goThrough_p83_1 {R : Nat → Nat → Nat} {σ : SG} {o0 : Nat} {x1 : Int32} {x2 : Int32} (h0 : ¬ (mI σ 655 o0) = 20) (h1 : (mI σ 655 o0) = 19) (h2 : (Z_X10_goAlong R σ o0 (((mI σ 659 o0) ^^^ 1))).2 = 0) (h3 : (Z_X10_goAlong R (Z_X10_goAlong R σ o0 (((mI σ 659 o0) ^^^ 1))).1 o0 ((mI σ 659 o0))).2 = 0) : Z_X10_goThrough_p83 R σ o0 x1 x2 = (Z_X10_goAlong R (Z_X10_goAlong R σ o0 (((mI σ 659 o0) ^^^ 1))).1 o0 ((mI σ 659 o0))).1 := by unfold Z_X10_goThrough_p83; exact Eq.trans (if_neg h0) (Eq.trans (if_pos h1) (Eq.trans (if_pos h2) (if_pos h3)))
theorem zl_X10_goThrough_p83_2 {R : Nat → Nat → Nat} {σ : SG} {o0 : Nat} {x1 : Int32} {x2 : Int32} (h0 : ¬ (mI σ 655 o0) = 20) (h1 : (mI σ 655 o0) = 19) (h2 : (Z_X10_goAlong R σ o0 (((mI σ 659 o0) ^^^ 1))).2 = 0) (h3 : ¬ (Z_X10_goAlong R (Z_X10_goAlong R σ o0 (((mI σ 659 o0) ^^^ 1))).1 o0 ((mI σ 659 o0))).2 = 0) : Z_X10_goThrough_p83 R σ o0 x1 x2 = (Z_X10_arrive R (Z_X10_goAlong R (Z_X10_goAlong R σ o0 (((mI σ 659 o0) ^^^ 1))).1 o0 ((mI σ 659 o0))).1 o0 ((mJ σ 660 o0)) (x1)) := by unfold Z_X10_goThrough_p83; exact Eq.trans (if_neg h0) (Eq.trans (if_pos h1) (Eq.trans (if_pos h2) (if_neg h3)))
theorem zl_X10_goThrough_p83_3 {R : Nat → Nat → Nat} {σ : SG} {o0 : Nat} {x1 : Int32} {x2 : Int32} (h0 : ¬ (mI σ 655 o0) = 20) (h1 : (mI σ 655 o0) = 19) (h2 : ¬ (Z_X10_goAlong R σ o0 (((mI σ 659 o0) ^^^ 1))).2 = 0) (h3 : (Z_X10_goAlong R (Z_X10_arrive R (Z_X10_goAlong R σ o0 (((mI σ 659 o0) ^^^ 1))).1 o0 ((x2 : Int32).toInt64) (x1)) o0 ((mI σ 659 o0))).2 = 0) : Z_X10_goThrough_p83 R σ o0 x1 x2 = (Z_X10_goAlong R (Z_X10_arrive R (Z_X10_goAlong R σ o0 (((mI σ 659 o0) ^^^ 1))).1 o0 ((x2 : Int32).toInt64) (x1)) o0 ((mI σ 659 o0))).1 := by unfold Z_X10_goThrough_p83; exact Eq.trans (if_neg h0) (Eq.trans (if_pos h1) (Eq.trans (if_neg h2) (if_pos h3)))
theorem zl_X10_goThrough_p83_4 {R : Nat → Nat → Nat} {σ : SG} {o0 : Nat} {x1 : Int32} {x2 : Int32} (h0 : ¬ (mI σ 655 o0) = 20) (h1 : (mI σ 655 o0) = 19) (h2 : ¬ (Z_X10_goAlong R σ o0 (((mI σ 659 o0) ^^^ 1))).2 = 0) (h3 : ¬ (Z_X10_goAlong R (Z_X10_arrive R (Z_X10_goAlong R σ o0 (((mI σ 659 o0) ^^^ 1))).1 o0 ((x2 : Int32).toInt64) (x1)) o0 ((mI σ 659 o0))).2 = 0) : Z_X10_goThrough_p83 R σ o0 x1 x2 = (Z_X10_arrive R (Z_X10_goAlong R (Z_X10_arrive R (Z_X10_goAlong R σ o0 (((mI σ 659 o0) ^^^ 1))).1 o0 ((x2 : Int32).toInt64) (x1)) o0 ((mI σ 659 o0))).1 o0 ((mJ σ 660 o0)) (x1)) := by unfold Z_X10_goThrough_p83; exact Eq.trans (if_neg h0) (Eq.trans (if_pos h1) (Eq.trans (if_neg h2) (if_neg h3)))
theorem zl_X10_goThrough_p83_5 {R : Nat → Nat → Nat} {σ : SG} {o0 : Nat} {x1 : Int32} {x2 : Int32} (h0 : ¬ (mI σ 655 o0) = 20) (h1 : ¬ (mI σ 655 o0) = 19) (h2 : (Z_X10_goAlong R σ o0 ((-1))).2 = 0) : Z_X10_goThrough_p83 R σ o0 x1 x2 = (Z_X10_goAlong R σ o0 ((-1))).1 := by unfold Z_X10_goThrough_p83; exact Eq.trans (if_neg h0) (Eq.trans (if_neg h1) (if_pos h2))
theorem zl_X10_goThrough_p83_6 {R : Nat → Nat → Nat} {σ : SG} {o0 : Nat} {x1 : Int32} {x2 : Int32} (h0 : ¬ (mI σ 655 o0) = 20) (h1 : ¬ (mI σ 655 o0) = 19) (h2 : ¬ (Z_X10_goAlong R σ o0 ((-1))).2 = 0) : Z_X10_goThrough_p83 R σ o0 x1 x2 = (Z_X10_arrive R (Z_X10_goAlong R σ o0 ((-1))).1 o0 ((x2 : Int32).toInt64) (x1)) := by unfold Z_X10_goThrough_p83; exact Eq.trans (if_neg h0) (Eq.trans (if_neg h1) (if_neg h2))
set_option maxHeartbeats 40000000 in
theorem cz_X10_goThrough_p83 {xi : SX} {S : Hp} {E : List Nat} {kc nc : Nat} {P : Po} {o0 : Nat} {x1 : Int32} {x2 : Int32} {R : Nat → Nat → Nat} (hG : GI S E) (h0 : Oa S E 10 0 o0) (h1 : Rg 0 199 x1) (hR : RK S R) (hP : ∀ r T x y, PV E [676, 9988, 9989] S kc nc rV (fun v T => sg T = Z_X10_goThrough_p83 R (sg S) o0 x1 x2) [] r T x y → P r T x y) : TT xi M_X10_goThrough 83 [(0, .ref o0), (1, .int x1), (2, .int x2)] [] S kc nc P := by
  have hA : Af E [676, 9988, 9989] S S := af_rf
  refine tt_aload_n (j := 0) dX10_goThrough_83 rfl ?_
  refine gt_gJ (id := 660) (v := (mJ (sg S) 660 o0)) dX10_goThrough_84 fl_10_116 rfl rfl h0 hA (sg_J (k := 660) (o := o0) (show sg S = (sg S) from rfl)) ?_
  refine tt_lstore_n (ks := [0, 1, 2, 3]) (L' := [(3, .long (mJ (sg S) 660 o0)), (0, .ref o0), (1, .int x1), (2, .int x2)]) dX10_goThrough_87 (by decide) rfl ?_
  refine tt_aload_n (j := 1) dX10_goThrough_88 rfl ?_
  refine gt_gI (id := 655) (v := (mI (sg S) 655 o0)) dX10_goThrough_89 fl_10_107 rfl rfl h0 hA (sg_I (k := 655) (o := o0) (show sg S = (sg S) from rfl)) ?_
  refine tt_bipush (v := 20) dX10_goThrough_92 rfl ?_
  refine tt_icmp_ne (tgt := 113) dX10_goThrough_94 rfl (fun q101 => ?_) (fun q101 => ?_)
  · skip
    refine tt_aload_n (j := 1) dX10_goThrough_113 rfl ?_
    refine gt_gI (id := 655) (v := (mI (sg S) 655 o0)) dX10_goThrough_114 fl_10_107 rfl rfl h0 hA (sg_I (k := 655) (o := o0) (show sg S = (sg S) from rfl)) ?_
    refine tt_bipush (v := 19) dX10_goThrough_117 rfl ?_
    refine tt_icmp_ne (tgt := 164) dX10_goThrough_119 rfl (fun q102 => ?_) (fun q102 => ?_)
    · skip
      refine tt_aload_n (j := 1) dX10_goThrough_164 rfl ?_
      refine tt_iconst (v := (-1)) dX10_goThrough_165 rfl ?_
      refine gt_VI (As := [.int (-1)]) dX10_goThrough_166 ca_X10_300 ⟨by decide, by decide⟩ h0 hA rfl (Nat.le_of_ble_eq_true rfl) (Nat.le_of_ble_eq_true rfl) (by decide) (cz_X10_goAlong hG (oa_af h0 hA) hR (fun _ _ _ _ h => h)) rfl (fun _ h => nomatch h) (fun S103 x112 h113 hx107 hG104 hB105 hA106 => ?_)
      obtain ⟨d108, hd109⟩ : ∃ q, Z_X10_goAlong R (sg S) o0 ((-1)) = q := ⟨_, rfl⟩
      have hq110 := (congrArg (fun q9 => Z_X10_goAlong R q9 o0 ((-1))) (show sg S = (sg S) from rfl)).trans hd109
      have hs111 := hx107.2.trans (congrArg Prod.fst hq110)
      obtain rfl : d108.2 = x112 := ((ei_w hx107.1).trans (congrArg Prod.snd hq110)).symm
      refine tt_if_eq (tgt := 179) dX10_goThrough_169 rfl (fun q114 => ?_) (fun q114 => ?_)
      · skip
        have h115 : Rg 0 0 d108.2 := rg_eq_l h113 (⟨by decide, by decide⟩ : Rg 0 0 0) q114
        have hF : Z_X10_goThrough_p83 R (sg S) o0 x1 x2 = d108.1 := by
          subst hd109
          exact zl_X10_goThrough_p83_5 q101 q102 q114
        exact tt_vreturn dX10_goThrough_179 rfl (hP _ _ _ _ ⟨hG104, hA106, Or.inl ⟨_, rfl, rfl, Eq.trans hs111 hF.symm, rfl, rfl⟩⟩)
      · skip
        have h116 : Rg 1 1 d108.2 := rg_ne_lo h113 (⟨by decide, by decide⟩ : Rg 0 0 0) q114
        refine tt_aload_n (j := 1) dX10_goThrough_172 rfl ?_
        refine tt_iload_n (j := 3) dX10_goThrough_173 rfl ?_
        refine tt_i2l dX10_goThrough_174 ?_
        refine tt_iload_n (j := 2) dX10_goThrough_175 rfl ?_
        refine gt_Vv (As := [.long (x2 : Int32).toInt64, .int x1]) dX10_goThrough_176 ca_X10_303 ⟨by decide, by decide⟩ h0 hA106 rfl (Nat.le_of_ble_eq_true rfl) (Nat.le_of_ble_eq_true rfl) (by decide) (cz_X10_arrive hG104 (oa_af h0 hA106) (rk_af hR hA106) (fun _ _ _ _ h => h)) rfl (fun _ h => nomatch h) (fun S117 hx121 hG118 hB119 hA120 => ?_)
        obtain ⟨d122, hd123⟩ : ∃ q, Z_X10_arrive R d108.1 o0 ((x2 : Int32).toInt64) (x1) = q := ⟨_, rfl⟩
        have hq124 := (congrArg (fun q9 => Z_X10_arrive R q9 o0 ((x2 : Int32).toInt64) (x1)) hs111).trans hd123
        have hs125 := hx121.trans hq124
        have hF : Z_X10_goThrough_p83 R (sg S) o0 x1 x2 = d122 := by
          subst hd123
          subst hd109
          exact zl_X10_goThrough_p83_6 q101 q102 q114
        exact tt_vreturn dX10_goThrough_179 rfl (hP _ _ _ _ ⟨hG118, hA120, Or.inl ⟨_, rfl, rfl, Eq.trans hs125 hF.symm, rfl, rfl⟩⟩)
    · skip
      have h126 : Rg 19 19 (mI (sg S) 655 o0) := rg_eq_l (rg_all (mI (sg S) 655 o0)) (⟨by decide, by decide⟩ : Rg 19 19 19) q102
      refine tt_aload_n (j := 1) dX10_goThrough_122 rfl ?_
      refine gt_gI (id := 659) (v := (mI (sg S) 659 o0)) dX10_goThrough_123 fl_10_120 rfl rfl h0 hA (sg_I (k := 659) (o := o0) (show sg S = (sg S) from rfl)) ?_
      refine tt_istore (ks := [0, 1, 2, 3, 4]) (L' := [(5, .int (mI (sg S) 659 o0)), (3, .long (mJ (sg S) 660 o0)), (0, .ref o0), (1, .int x1), (2, .int x2)]) dX10_goThrough_126 (by decide) rfl ?_
      refine tt_aload_n (j := 2) dX10_goThrough_128 rfl ?_
      refine tt_iload (j := 0) dX10_goThrough_129 rfl ?_
      refine tt_iconst (v := 1) dX10_goThrough_131 rfl ?_
      refine tt_ixor dX10_goThrough_132 ?_
      refine gt_VI (As := [.int ((mI (sg S) 659 o0) ^^^ 1)]) dX10_goThrough_133 ca_X10_300 ⟨by decide, by decide⟩ h0 hA rfl (Nat.le_of_ble_eq_true rfl) (Nat.le_of_ble_eq_true rfl) (by decide) (cz_X10_goAlong hG (oa_af h0 hA) hR (fun _ _ _ _ h => h)) rfl (fun _ h => nomatch h) (fun S127 x136 h137 hx131 hG128 hB129 hA130 => ?_)
      obtain ⟨d132, hd133⟩ : ∃ q, Z_X10_goAlong R (sg S) o0 (((mI (sg S) 659 o0) ^^^ 1)) = q := ⟨_, rfl⟩
      have hq134 := (congrArg (fun q9 => Z_X10_goAlong R q9 o0 (((mI (sg S) 659 o0) ^^^ 1))) (show sg S = (sg S) from rfl)).trans hd133
      have hs135 := hx131.2.trans (congrArg Prod.fst hq134)
      obtain rfl : d132.2 = x136 := ((ei_w hx131.1).trans (congrArg Prod.snd hq134)).symm
      refine tt_if_eq (tgt := 146) dX10_goThrough_136 rfl (fun q138 => ?_) (fun q138 => ?_)
      · skip
        have h139 : Rg 0 0 d132.2 := rg_eq_l h137 (⟨by decide, by decide⟩ : Rg 0 0 0) q138
        refine tt_aload_n (j := 2) dX10_goThrough_146 rfl ?_
        refine tt_iload (j := 0) dX10_goThrough_147 rfl ?_
        refine gt_VI (As := [.int (mI (sg S) 659 o0)]) dX10_goThrough_149 ca_X10_300 ⟨by decide, by decide⟩ h0 hA130 rfl (Nat.le_of_ble_eq_true rfl) (Nat.le_of_ble_eq_true rfl) (by decide) (cz_X10_goAlong hG128 (oa_af h0 hA130) (rk_af hR hA130) (fun _ _ _ _ h => h)) rfl (fun _ h => nomatch h) (fun S140 x149 h150 hx144 hG141 hB142 hA143 => ?_)
        obtain ⟨d145, hd146⟩ : ∃ q, Z_X10_goAlong R d132.1 o0 ((mI (sg S) 659 o0)) = q := ⟨_, rfl⟩
        have hq147 := (congrArg (fun q9 => Z_X10_goAlong R q9 o0 ((mI (sg S) 659 o0))) hs135).trans hd146
        have hs148 := hx144.2.trans (congrArg Prod.fst hq147)
        obtain rfl : d145.2 = x149 := ((ei_w hx144.1).trans (congrArg Prod.snd hq147)).symm
        refine tt_if_eq (tgt := 161) dX10_goThrough_152 rfl (fun q151 => ?_) (fun q151 => ?_)
        · skip
          have h152 : Rg 0 0 d145.2 := rg_eq_l h150 (⟨by decide, by decide⟩ : Rg 0 0 0) q151
          refine tt_goto (tgt := 179) dX10_goThrough_161 rfl ?_
          have hF : Z_X10_goThrough_p83 R (sg S) o0 x1 x2 = d145.1 := by
            subst hd146
            subst hd133
            exact zl_X10_goThrough_p83_1 q101 q102 q138 q151
          exact tt_vreturn dX10_goThrough_179 rfl (hP _ _ _ _ ⟨hG141, hA143, Or.inl ⟨_, rfl, rfl, Eq.trans hs148 hF.symm, rfl, rfl⟩⟩)
        · skip
          have h153 : Rg 1 1 d145.2 := rg_ne_lo h150 (⟨by decide, by decide⟩ : Rg 0 0 0) q151
          refine tt_aload_n (j := 2) dX10_goThrough_155 rfl ?_
          refine tt_lload_n (j := 1) dX10_goThrough_156 rfl ?_
          refine tt_iload_n (j := 3) dX10_goThrough_157 rfl ?_
          refine gt_Vv (As := [.long (mJ (sg S) 660 o0), .int x1]) dX10_goThrough_158 ca_X10_303 ⟨by decide, by decide⟩ h0 hA143 rfl (Nat.le_of_ble_eq_true rfl) (Nat.le_of_ble_eq_true rfl) (by decide) (cz_X10_arrive hG141 (oa_af h0 hA143) (rk_af hR hA143) (fun _ _ _ _ h => h)) rfl (fun _ h => nomatch h) (fun S154 hx158 hG155 hB156 hA157 => ?_)
          obtain ⟨d159, hd160⟩ : ∃ q, Z_X10_arrive R d145.1 o0 ((mJ (sg S) 660 o0)) (x1) = q := ⟨_, rfl⟩
          have hq161 := (congrArg (fun q9 => Z_X10_arrive R q9 o0 ((mJ (sg S) 660 o0)) (x1)) hs148).trans hd160
          have hs162 := hx158.trans hq161
          refine tt_goto (tgt := 179) dX10_goThrough_161 rfl ?_
          have hF : Z_X10_goThrough_p83 R (sg S) o0 x1 x2 = d159 := by
            subst hd160
            subst hd146
            subst hd133
            exact zl_X10_goThrough_p83_2 q101 q102 q138 q151
          exact tt_vreturn dX10_goThrough_179 rfl (hP _ _ _ _ ⟨hG155, hA157, Or.inl ⟨_, rfl, rfl, Eq.trans hs162 hF.symm, rfl, rfl⟩⟩)
      · skip
        have h163 : Rg 1 1 d132.2 := rg_ne_lo h137 (⟨by decide, by decide⟩ : Rg 0 0 0) q138
        refine tt_aload_n (j := 2) dX10_goThrough_139 rfl ?_
        refine tt_iload_n (j := 4) dX10_goThrough_140 rfl ?_
        refine tt_i2l dX10_goThrough_141 ?_
        refine tt_iload_n (j := 3) dX10_goThrough_142 rfl ?_
        refine gt_Vv (As := [.long (x2 : Int32).toInt64, .int x1]) dX10_goThrough_143 ca_X10_303 ⟨by decide, by decide⟩ h0 hA130 rfl (Nat.le_of_ble_eq_true rfl) (Nat.le_of_ble_eq_true rfl) (by decide) (cz_X10_arrive hG128 (oa_af h0 hA130) (rk_af hR hA130) (fun _ _ _ _ h => h)) rfl (fun _ h => nomatch h) (fun S164 hx168 hG165 hB166 hA167 => ?_)
        obtain ⟨d169, hd170⟩ : ∃ q, Z_X10_arrive R d132.1 o0 ((x2 : Int32).toInt64) (x1) = q := ⟨_, rfl⟩
        have hq171 := (congrArg (fun q9 => Z_X10_arrive R q9 o0 ((x2 : Int32).toInt64) (x1)) hs135).trans hd170
        have hs172 := hx168.trans hq171
        refine tt_aload_n (j := 2) dX10_goThrough_146 rfl ?_
        refine tt_iload (j := 0) dX10_goThrough_147 rfl ?_
        refine gt_VI (As := [.int (mI (sg S) 659 o0)]) dX10_goThrough_149 ca_X10_300 ⟨by decide, by decide⟩ h0 hA167 rfl (Nat.le_of_ble_eq_true rfl) (Nat.le_of_ble_eq_true rfl) (by decide) (cz_X10_goAlong hG165 (oa_af h0 hA167) (rk_af hR hA167) (fun _ _ _ _ h => h)) rfl (fun _ h => nomatch h) (fun S173 x182 h183 hx177 hG174 hB175 hA176 => ?_)
        obtain ⟨d178, hd179⟩ : ∃ q, Z_X10_goAlong R d169 o0 ((mI (sg S) 659 o0)) = q := ⟨_, rfl⟩
        have hq180 := (congrArg (fun q9 => Z_X10_goAlong R q9 o0 ((mI (sg S) 659 o0))) hs172).trans hd179
        have hs181 := hx177.2.trans (congrArg Prod.fst hq180)
        obtain rfl : d178.2 = x182 := ((ei_w hx177.1).trans (congrArg Prod.snd hq180)).symm
        refine tt_if_eq (tgt := 161) dX10_goThrough_152 rfl (fun q184 => ?_) (fun q184 => ?_)
        · skip
          have h185 : Rg 0 0 d178.2 := rg_eq_l h183 (⟨by decide, by decide⟩ : Rg 0 0 0) q184
          refine tt_goto (tgt := 179) dX10_goThrough_161 rfl ?_
          have hF : Z_X10_goThrough_p83 R (sg S) o0 x1 x2 = d178.1 := by
            subst hd179
            subst hd170
            subst hd133
            exact zl_X10_goThrough_p83_3 q101 q102 q138 q184
          exact tt_vreturn dX10_goThrough_179 rfl (hP _ _ _ _ ⟨hG174, hA176, Or.inl ⟨_, rfl, rfl, Eq.trans hs181 hF.symm, rfl, rfl⟩⟩)
        · skip
          have h186 : Rg 1 1 d178.2 := rg_ne_lo h183 (⟨by decide, by decide⟩ : Rg 0 0 0) q184
          refine tt_aload_n (j := 2) dX10_goThrough_155 rfl ?_
          refine tt_lload_n (j := 1) dX10_goThrough_156 rfl ?_
          refine tt_iload_n (j := 3) dX10_goThrough_157 rfl ?_
          refine gt_Vv (As := [.long (mJ (sg S) 660 o0), .int x1]) dX10_goThrough_158 ca_X10_303 ⟨by decide, by decide⟩ h0 hA176 rfl (Nat.le_of_ble_eq_true rfl) (Nat.le_of_ble_eq_true rfl) (by decide) (cz_X10_arrive hG174 (oa_af h0 hA176) (rk_af hR hA176) (fun _ _ _ _ h => h)) rfl (fun _ h => nomatch h) (fun S187 hx191 hG188 hB189 hA190 => ?_)
          obtain ⟨d192, hd193⟩ : ∃ q, Z_X10_arrive R d178.1 o0 ((mJ (sg S) 660 o0)) (x1) = q := ⟨_, rfl⟩
          have hq194 := (congrArg (fun q9 => Z_X10_arrive R q9 o0 ((mJ (sg S) 660 o0)) (x1)) hs181).trans hd193
          have hs195 := hx191.trans hq194
          refine tt_goto (tgt := 179) dX10_goThrough_161 rfl ?_
          have hF : Z_X10_goThrough_p83 R (sg S) o0 x1 x2 = d192 := by
            subst hd193
            subst hd179
            subst hd170
            subst hd133
            exact zl_X10_goThrough_p83_4 q101 q102 q138 q184
          exact tt_vreturn dX10_goThrough_179 rfl (hP _ _ _ _ ⟨hG188, hA190, Or.inl ⟨_, rfl, rfl, Eq.trans hs195 hF.symm, rfl, rfl⟩⟩)
  · skip
    have h196 : Rg 20 20 (mI (sg S) 655 o0) := rg_eq_l (rg_all (mI (sg S) 655 o0)) (⟨by decide, by decide⟩ : Rg 20 20 20) q101
    refine tt_aload_n (j := 1) dX10_goThrough_97 rfl ?_
    refine tt_iconst (v := (-1)) dX10_goThrough_98 rfl ?_
    refine gt_VI (As := [.int (-1)]) dX10_goThrough_99 ca_X10_300 ⟨by decide, by decide⟩ h0 hA rfl (Nat.le_of_ble_eq_true rfl) (Nat.le_of_ble_eq_true rfl) (by decide) (cz_X10_goAlong hG (oa_af h0 hA) hR (fun _ _ _ _ h => h)) rfl (fun _ h => nomatch h) (fun S197 x206 h207 hx201 hG198 hB199 hA200 => ?_)
    obtain ⟨d202, hd203⟩ : ∃ q, Z_X10_goAlong R (sg S) o0 ((-1)) = q := ⟨_, rfl⟩
    have hq204 := (congrArg (fun q9 => Z_X10_goAlong R q9 o0 ((-1))) (show sg S = (sg S) from rfl)).trans hd203
    have hs205 := hx201.2.trans (congrArg Prod.fst hq204)
    obtain rfl : d202.2 = x206 := ((ei_w hx201.1).trans (congrArg Prod.snd hq204)).symm
    refine tt_istore (ks := [0, 1, 2, 3, 4]) (L' := [(5, .int d202.2), (3, .long (mJ (sg S) 660 o0)), (0, .ref o0), (1, .int x1), (2, .int x2)]) dX10_goThrough_102 (by decide) rfl ?_
    refine tt_aload_n (j := 2) dX10_goThrough_104 rfl ?_
    refine tt_lload_n (j := 1) dX10_goThrough_105 rfl ?_
    refine tt_iload_n (j := 3) dX10_goThrough_106 rfl ?_
    refine gt_Vv (As := [.long (mJ (sg S) 660 o0), .int x1]) dX10_goThrough_107 ca_X10_303 ⟨by decide, by decide⟩ h0 hA200 rfl (Nat.le_of_ble_eq_true rfl) (Nat.le_of_ble_eq_true rfl) (by decide) (cz_X10_arrive hG198 (oa_af h0 hA200) (rk_af hR hA200) (fun _ _ _ _ h => h)) rfl (fun _ h => nomatch h) (fun S208 hx212 hG209 hB210 hA211 => ?_)
    obtain ⟨d213, hd214⟩ : ∃ q, Z_X10_arrive R d202.1 o0 ((mJ (sg S) 660 o0)) (x1) = q := ⟨_, rfl⟩
    have hq215 := (congrArg (fun q9 => Z_X10_arrive R q9 o0 ((mJ (sg S) 660 o0)) (x1)) hs205).trans hd214
    have hs216 := hx212.trans hq215
    refine tt_goto (tgt := 179) dX10_goThrough_110 rfl ?_
    have hF : Z_X10_goThrough_p83 R (sg S) o0 x1 x2 = d213 := by
      subst hd214
      subst hd203
      exact zl_X10_goThrough_p83_0 q101
    exact tt_vreturn dX10_goThrough_179 rfl (hP _ _ _ _ ⟨hG209, hA211, Or.inl ⟨_, rfl, rfl, Eq.trans hs216 hF.symm, rfl, rfl⟩⟩)
def Z_X10_goThrough_p62 (R : Nat → Nat → Nat) (σ : SG) (o0 : Nat) (x1 : Int32) : SG :=
  if 19 ≤ (mI σ 655 o0) then
    Z_X10_goThrough_p83 R σ o0 (x1) ((x1 + (mI σ 661 o0)))
  else
    let d109 := Z_X10_act R σ o0 (x1)
    Z_X10_goThrough_p83 R d109 o0 (x1) ((x1 + (mI σ 661 o0)))
theorem zl_X10_goThrough_p62_0 {R : Nat → Nat → Nat} {σ : SG} {o0 : Nat} {x1 : Int32} (h0 : 19 ≤ (mI σ 655 o0)) : Z_X10_goThrough_p62 R σ o0 x1 = Z_X10_goThrough_p83 R σ o0 (x1) ((x1 + (mI σ 661 o0))) := by unfold Z_X10_goThrough_p62; exact if_pos h0
theorem zl_X10_goThrough_p62_1 {R : Nat → Nat → Nat} {σ : SG} {o0 : Nat} {x1 : Int32} (h0 : ¬ 19 ≤ (mI σ 655 o0)) : Z_X10_goThrough_p62 R σ o0 x1 = Z_X10_goThrough_p83 R (Z_X10_act R σ o0 (x1)) o0 (x1) ((x1 + (mI σ 661 o0))) := by unfold Z_X10_goThrough_p62; exact if_neg h0
set_option maxHeartbeats 40000000 in
theorem cz_X10_goThrough_p62 {xi : SX} {S : Hp} {E : List Nat} {kc nc : Nat} {P : Po} {o0 : Nat} {x1 : Int32} {R : Nat → Nat → Nat} (hG : GI S E) (h0 : Oa S E 10 0 o0) (h1 : Rg 0 199 x1) (hR : RK S R) (hw : ¬ 19 ≤ (mI (sg S) 655 o0) → Rg 0 23 (mI (sg S) 657 o0) ∧ Rg (-1) 23 (mI (sg S) 658 o0)) (hP : ∀ r T x y, PV E [676, 9988, 9989] S kc nc rV (fun v T => sg T = Z_X10_goThrough_p62 R (sg S) o0 x1) [] r T x y → P r T x y) : TT xi M_X10_goThrough 62 [(0, .ref o0), (1, .int x1)] [] S kc nc P := by
  have hA : Af E [676, 9988, 9989] S S := af_rf
  refine tt_iload_n (j := 1) dX10_goThrough_62 rfl ?_
  refine tt_aload_n (j := 0) dX10_goThrough_63 rfl ?_
  refine gt_gI (id := 661) (v := (mI (sg S) 661 o0)) dX10_goThrough_64 fl_10_134 rfl rfl h0 hA (sg_I (k := 661) (o := o0) (show sg S = (sg S) from rfl)) ?_
  refine tt_iadd dX10_goThrough_67 ?_
  refine tt_istore_n (ks := [0, 1, 2]) (L' := [(2, .int (x1 + (mI (sg S) 661 o0))), (0, .ref o0), (1, .int x1)]) dX10_goThrough_68 (by decide) rfl ?_
  refine tt_aload_n (j := 1) dX10_goThrough_69 rfl ?_
  refine gt_gI (id := 655) (v := (mI (sg S) 655 o0)) dX10_goThrough_70 fl_10_107 rfl rfl h0 hA (sg_I (k := 655) (o := o0) (show sg S = (sg S) from rfl)) ?_
  refine tt_bipush (v := 19) dX10_goThrough_73 rfl ?_
  refine tt_icmp_ge (tgt := 83) dX10_goThrough_75 rfl (fun q101 => ?_) (fun q101 => ?_)
  · skip
    have h102 : Rg 19 2147483647 (mI (sg S) 655 o0) := rg_le_r (⟨by decide, by decide⟩ : Rg 19 19 19) (rg_all (mI (sg S) 655 o0)) q101
    have hF : Z_X10_goThrough_p62 R (sg S) o0 x1 = Z_X10_goThrough_p83 R (sg S) o0 (x1) ((x1 + (mI (sg S) 661 o0))) := by
      exact zl_X10_goThrough_p62_0 q101
    exact tt_loc (ks := [1, 2, 0]) rfl (cz_X10_goThrough_p83 hG (oa_af h0 hA) (rg_w h1) hR (fun r T x y h => hP r T x y (pv_tr hA h (by decide) (fun v T e => e.trans ((congrArg (fun q9 => Z_X10_goThrough_p83 R q9 o0 (x1) ((x1 + (mI (sg S) 661 o0)))) (show sg S = (sg S) from rfl)).trans hF.symm)))))
  · skip
    have h103 : Rg (-2147483648) 18 (mI (sg S) 655 o0) := rg_lt_l (rg_all (mI (sg S) 655 o0)) (⟨by decide, by decide⟩ : Rg 19 19 19) (nle_lt q101)
    refine tt_aload_n (j := 1) dX10_goThrough_78 rfl ?_
    refine tt_iload_n (j := 2) dX10_goThrough_79 rfl ?_
    refine gt_Vv (As := [.int x1]) dX10_goThrough_80 ca_X10_297 ⟨by decide, by decide⟩ h0 hA rfl (Nat.le_of_ble_eq_true rfl) (Nat.le_of_ble_eq_true rfl) (by decide) (cz_X10_act hG (oa_af h0 hA) hR (hw q101).1 (hw q101).2 (fun _ _ _ _ h => h)) rfl (fun _ h => nomatch h) (fun S104 hx108 hG105 hB106 hA107 => ?_)
    obtain ⟨d109, hd110⟩ : ∃ q, Z_X10_act R (sg S) o0 (x1) = q := ⟨_, rfl⟩
    have hq111 := (congrArg (fun q9 => Z_X10_act R q9 o0 (x1)) (show sg S = (sg S) from rfl)).trans hd110
    have hs112 := hx108.trans hq111
    have hF : Z_X10_goThrough_p62 R (sg S) o0 x1 = Z_X10_goThrough_p83 R d109 o0 (x1) ((x1 + (mI (sg S) 661 o0))) := by
      subst hd110
      exact zl_X10_goThrough_p62_1 q101
    exact tt_loc (ks := [1, 2, 0]) rfl (cz_X10_goThrough_p83 hG105 (oa_af h0 hA107) (rg_w h1) (rk_af hR hA107) (fun r T x y h => hP r T x y (pv_tr hA107 h (by decide) (fun v T e => e.trans ((congrArg (fun q9 => Z_X10_goThrough_p83 R q9 o0 (x1) ((x1 + (mI (sg S) 661 o0)))) hs112).trans hF.symm)))))
