def F_X10_next (bs : Nat → Int32) (n : Int32) (d : DD) : DD × Int32 :=
  if (e0 d) < n then
    ((((e0 d) + 1), (e1 d), (e2 d), (e3 d), (e4 d), (e5 d), (e6 d), (e7 d), (e8 d), (e9 d), (e10 d), (e11 d), (eJ d)), (bs ((((e0 d) + 1) - 1) : Int32).toNatClampNeg))
  else
    (((e0 d), (e1 d), (e2 d), (e3 d), (e4 d), (e5 d), (e6 d), 1, (e8 d), (e9 d), (e10 d), (e11 d), (eJ d)), 0)
theorem q_X10_next_0 {bs : Nat → Int32} {n : Int32} {d : DD} (h0 : (e0 d) < n) : F_X10_next bs n d  = ((((e0 d) + 1), (e1 d), (e2 d), (e3 d), (e4 d), (e5 d), (e6 d), (e7 d), (e8 d), (e9 d), (e10 d), (e11 d), (eJ d)), (bs ((((e0 d) + 1) - 1) : Int32).toNatClampNeg)) := by unfold F_X10_next; exact if_pos h0
theorem q_X10_next_1 {bs : Nat → Int32} {n : Int32} {d : DD} (h0 : ¬ (e0 d) < n) : F_X10_next bs n d  = (((e0 d), (e1 d), (e2 d), (e3 d), (e4 d), (e5 d), (e6 d), 1, (e8 d), (e9 d), (e10 d), (e11 d), (eJ d)), 0) := by unfold F_X10_next; exact if_neg h0
set_option maxHeartbeats 40000000 in
theorem ce_X10_next {xi : SX} {S : Hp} {E : List Nat} {kc nc : Nat} {P : Po} {o0 : Nat} {bs : Nat → Int32} {n : Int32} (hG : GI S E) (h0 : Oa S E 10 0 o0) (hb : BR S E o0 bs n) (hP : ∀ r T x y, PV E [654, 662, 9998] S kc nc (rI (-2147483648) 2147483647) (fun v T => XIR (F_X10_next bs n (StR S o0) ) T o0 v) [] r T x y → P r T x y) : TT xi M_X10_next 0 [(0, .ref o0)] [] S kc nc P := by
  have hA : Af E [654, 662, 9998] S S := af_rf
  obtain ⟨ab, hab, hoa, rfl, rfl⟩ := hb
  refine tt_aload_n (j := 0) dX10_next_0 rfl ?_
  refine gt_gI (id := 654) (v := (e0 (StR S o0))) dX10_next_1 fl_10_81 rfl rfl h0 hA (sR_654 (T := S) (o := o0) rfl) ?_
  refine tt_aload_n (j := 0) dX10_next_4 rfl ?_
  refine tt_getI (id := 642) dX10_next_5 fl_10_71 rfl rfl (ob_af h0 hA) ?_
  refine tt_icmp_lt (tgt := 18) dX10_next_8 rfl (fun q101 => ?_) (fun q101 => ?_)
  · skip
    have h102 : Rg 0 199 (e0 (StR S o0)) := rg_lt_l (gi_I (k := 654) hG h0 0 200) (gi_I (k := 642) hG (oa_af h0 hA) 0 200) q101
    have h103 : Rg 1 200 (hp_I S 642 o0) := rg_lt_r (gi_I (k := 654) hG h0 0 200) (gi_I (k := 642) hG (oa_af h0 hA) 0 200) q101
    refine tt_aload_n (j := 0) dX10_next_18 rfl ?_
    refine tt_dup dX10_next_19 rfl ?_
    refine gt_gI (id := 654) (v := (e0 (StR S o0))) dX10_next_20 fl_10_81 rfl rfl h0 hA (sR_654 (T := S) (o := o0) rfl) ?_
    refine tt_iconst (v := 1) dX10_next_23 rfl ?_
    refine tt_iadd dX10_next_24 ?_
    refine gt_pI (id := 654) (x := ((e0 (StR S o0)) + 1)) dX10_next_25 fl_10_81 rfl rfl h0 hA rfl rfl rfl (gp_Ir hG (rg_add (lo := 1) (hi := 200) h102 (⟨by decide, by decide⟩ : Rg 1 1 1))) (by decide) (fun h => absurd h (by decide)) (fun h => absurd h (by decide)) (fun S104 hG105 hA106 e107 f108 er109 => ?_)
    refine tt_aload_n (j := 0) dX10_next_28 rfl ?_
    refine gt_gR (id := 641) dX10_next_29 fl_10_7 rfl rfl h0 hA106 hab ?_
    refine tt_aload_n (j := 0) dX10_next_32 rfl ?_
    refine gt_gI (id := 654) (v := ((e0 (StR S o0)) + 1)) dX10_next_33 fl_10_81 rfl rfl h0 hA106 (by rw [e107]; exact up2_self) ?_
    refine tt_iconst (v := 1) dX10_next_36 rfl ?_
    refine tt_isub dX10_next_37 ?_
    refine gt_iLx dX10_next_38 hoa hA106 (rg_in (rg_sub (lo := 0) (hi := 199) (rg_add (lo := 1) (hi := 200) h102 (⟨by decide, by decide⟩ : Rg 1 1 1)) (⟨by decide, by decide⟩ : Rg 1 1 1))) ?_
    rw [b_af hoa hA106]
    have hF : F_X10_next (hp_i S ab) (hp_I S 642 o0) (StR S o0)  = ((((e0 (StR S o0)) + 1), (e1 (StR S o0)), (e2 (StR S o0)), (e3 (StR S o0)), (e4 (StR S o0)), (e5 (StR S o0)), (e6 (StR S o0)), (e7 (StR S o0)), (e8 (StR S o0)), (e9 (StR S o0)), (e10 (StR S o0)), (e11 (StR S o0)), (eJ (StR S o0))), (hp_i S ab ((((e0 (StR S o0)) + 1) - 1) : Int32).toNatClampNeg)) := by
      exact q_X10_next_0 q101
    exact tt_ireturn dX10_next_39 .int rfl rfl (hP _ _ _ _ ⟨hG105, hA106, Or.inl ⟨_, rfl, ⟨_, rfl, rg_w (rg_all (hp_i S ab ((((e0 (StR S o0)) + 1) - 1) : Int32).toNatClampNeg))⟩, xiR_mk hF (stR_mk (by rw [e107]; exact up2_self) ((congrFun (congrFun e107 655) o0).trans ((congrFun (up2_ne (k := 655)) o0).trans (sR_655 (T := S) (o := o0) rfl))) ((congrFun (congrFun e107 656) o0).trans ((congrFun (up2_ne (k := 656)) o0).trans (sR_656 (T := S) (o := o0) rfl))) ((congrFun (congrFun e107 657) o0).trans ((congrFun (up2_ne (k := 657)) o0).trans (sR_657 (T := S) (o := o0) rfl))) ((congrFun (congrFun e107 658) o0).trans ((congrFun (up2_ne (k := 658)) o0).trans (sR_658 (T := S) (o := o0) rfl))) ((congrFun (congrFun e107 659) o0).trans ((congrFun (up2_ne (k := 659)) o0).trans (sR_659 (T := S) (o := o0) rfl))) ((congrFun (congrFun e107 661) o0).trans ((congrFun (up2_ne (k := 661)) o0).trans (sR_661 (T := S) (o := o0) rfl))) ((congrFun (congrFun e107 662) o0).trans ((congrFun (up2_ne (k := 662)) o0).trans (sR_662 (T := S) (o := o0) rfl))) ((congrFun (congrFun e107 672) o0).trans ((congrFun (up2_ne (k := 672)) o0).trans (sR_672 (T := S) (o := o0) rfl))) ((congrFun (congrFun e107 673) o0).trans ((congrFun (up2_ne (k := 673)) o0).trans (sR_673 (T := S) (o := o0) rfl))) ((congrFun (congrFun e107 674) o0).trans ((congrFun (up2_ne (k := 674)) o0).trans (sR_674 (T := S) (o := o0) rfl))) ((congrFun (congrFun e107 675) o0).trans ((congrFun (up2_ne (k := 675)) o0).trans (sR_675 (T := S) (o := o0) rfl))) ((congrFun (congrFun f108 660) o0).trans (sR_660 (T := S) (o := o0) rfl))), rfl, rfl⟩⟩)
  · skip
    refine tt_aload_n (j := 0) dX10_next_11 rfl ?_
    refine tt_iconst (v := 1) dX10_next_12 rfl ?_
    refine gt_pI (id := 662) (x := 1) dX10_next_13 fl_10_84 rfl rfl h0 hA rfl rfl rfl (gp_Ir hG (⟨by decide, by decide⟩ : Rg 1 1 1)) (by decide) (fun _ h => absurd (by decide) h) (fun h => absurd h (by decide)) (fun S110 hG111 hA112 e113 f114 er115 => ?_)
    refine tt_iconst (v := 0) dX10_next_16 rfl ?_
    have hF : F_X10_next (hp_i S ab) (hp_I S 642 o0) (StR S o0)  = (((e0 (StR S o0)), (e1 (StR S o0)), (e2 (StR S o0)), (e3 (StR S o0)), (e4 (StR S o0)), (e5 (StR S o0)), (e6 (StR S o0)), 1, (e8 (StR S o0)), (e9 (StR S o0)), (e10 (StR S o0)), (e11 (StR S o0)), (eJ (StR S o0))), 0) := by
      exact q_X10_next_1 q101
    exact tt_ireturn dX10_next_17 .int rfl rfl (hP _ _ _ _ ⟨hG111, hA112, Or.inl ⟨_, rfl, ⟨_, rfl, rg_w (⟨by decide, by decide⟩ : Rg 0 0 0)⟩, xiR_mk hF (stR_mk ((congrFun (congrFun e113 654) o0).trans ((congrFun (up2_ne (k := 654)) o0).trans (sR_654 (T := S) (o := o0) rfl))) ((congrFun (congrFun e113 655) o0).trans ((congrFun (up2_ne (k := 655)) o0).trans (sR_655 (T := S) (o := o0) rfl))) ((congrFun (congrFun e113 656) o0).trans ((congrFun (up2_ne (k := 656)) o0).trans (sR_656 (T := S) (o := o0) rfl))) ((congrFun (congrFun e113 657) o0).trans ((congrFun (up2_ne (k := 657)) o0).trans (sR_657 (T := S) (o := o0) rfl))) ((congrFun (congrFun e113 658) o0).trans ((congrFun (up2_ne (k := 658)) o0).trans (sR_658 (T := S) (o := o0) rfl))) ((congrFun (congrFun e113 659) o0).trans ((congrFun (up2_ne (k := 659)) o0).trans (sR_659 (T := S) (o := o0) rfl))) ((congrFun (congrFun e113 661) o0).trans ((congrFun (up2_ne (k := 661)) o0).trans (sR_661 (T := S) (o := o0) rfl))) (by rw [e113]; exact up2_self) ((congrFun (congrFun e113 672) o0).trans ((congrFun (up2_ne (k := 672)) o0).trans (sR_672 (T := S) (o := o0) rfl))) ((congrFun (congrFun e113 673) o0).trans ((congrFun (up2_ne (k := 673)) o0).trans (sR_673 (T := S) (o := o0) rfl))) ((congrFun (congrFun e113 674) o0).trans ((congrFun (up2_ne (k := 674)) o0).trans (sR_674 (T := S) (o := o0) rfl))) ((congrFun (congrFun e113 675) o0).trans ((congrFun (up2_ne (k := 675)) o0).trans (sR_675 (T := S) (o := o0) rfl))) ((congrFun (congrFun f114 660) o0).trans (sR_660 (T := S) (o := o0) rfl))), rfl, rfl⟩⟩)
def F_X10_take (bs : Nat → Int32) (n : Int32) (d : DD) (x1 : Int32) (x2 : Int32) (x3 : Int32) : DD :=
  ((e0 d), x1, (e2 d), x2, x3, (e5 d), (e6 d), (e7 d), (e8 d), (e9 d), (e10 d), (e11 d), (eJ d))
theorem q_X10_take_0 {bs : Nat → Int32} {n : Int32} {d : DD} {x1 : Int32} {x2 : Int32} {x3 : Int32}  : F_X10_take bs n d x1 x2 x3 = ((e0 d), x1, (e2 d), x2, x3, (e5 d), (e6 d), (e7 d), (e8 d), (e9 d), (e10 d), (e11 d), (eJ d)) := rfl
set_option maxHeartbeats 40000000 in
theorem ce_X10_take {xi : SX} {S : Hp} {E : List Nat} {kc nc : Nat} {P : Po} {o0 : Nat} {x1 : Int32} {x2 : Int32} {x3 : Int32} {bs : Nat → Int32} {n : Int32} (hG : GI S E) (h0 : Oa S E 10 0 o0) (hb : BR S E o0 bs n) (hP : ∀ r T x y, PV E [655, 657, 658, 9998] S kc nc rV (fun v T => StR T o0 = F_X10_take bs n (StR S o0) x1 x2 x3) [] r T x y → P r T x y) : TT xi M_X10_take 0 [(0, .ref o0), (1, .int x1), (2, .int x2), (3, .int x3)] [] S kc nc P := by
  have hA : Af E [655, 657, 658, 9998] S S := af_rf
  refine tt_aload_n (j := 0) dX10_take_0 rfl ?_
  refine tt_iload_n (j := 1) dX10_take_1 rfl ?_
  refine gt_pI (id := 655) (x := x1) dX10_take_2 fl_10_107 rfl rfl h0 hA rfl rfl rfl (gp_I hG) (by decide) (fun h => absurd h (by decide)) (fun h => absurd h (by decide)) (fun S101 hG102 hA103 e104 f105 er106 => ?_)
  refine tt_aload_n (j := 0) dX10_take_5 rfl ?_
  refine tt_iload_n (j := 2) dX10_take_6 rfl ?_
  refine gt_pI (id := 657) (x := x2) dX10_take_7 fl_10_110 rfl rfl h0 hA103 rfl rfl rfl (gp_I hG102) (by decide) (fun h => absurd h (by decide)) (fun h => absurd h (by decide)) (fun S107 hG108 hA109 e110 f111 er112 => ?_)
  refine tt_aload_n (j := 0) dX10_take_10 rfl ?_
  refine tt_iload_n (j := 3) dX10_take_11 rfl ?_
  refine gt_pI (id := 658) (x := x3) dX10_take_12 fl_10_113 rfl rfl h0 hA109 rfl rfl rfl (gp_I hG108) (by decide) (fun h => absurd h (by decide)) (fun h => absurd h (by decide)) (fun S113 hG114 hA115 e116 f117 er118 => ?_)
  have hF : F_X10_take bs n (StR S o0) x1 x2 x3 = ((e0 (StR S o0)), x1, (e2 (StR S o0)), x2, x3, (e5 (StR S o0)), (e6 (StR S o0)), (e7 (StR S o0)), (e8 (StR S o0)), (e9 (StR S o0)), (e10 (StR S o0)), (e11 (StR S o0)), (eJ (StR S o0))) := by
    rfl
  exact tt_vreturn dX10_take_15 rfl (hP _ _ _ _ ⟨hG114, hA115, Or.inl ⟨_, rfl, rfl, Eq.trans (stR_mk ((congrFun (congrFun e116 654) o0).trans ((congrFun (up2_ne (k := 654)) o0).trans ((congrFun (congrFun e110 654) o0).trans ((congrFun (up2_ne (k := 654)) o0).trans ((congrFun (congrFun e104 654) o0).trans ((congrFun (up2_ne (k := 654)) o0).trans (sR_654 (T := S) (o := o0) rfl))))))) ((congrFun (congrFun e116 655) o0).trans ((congrFun (up2_ne (k := 655)) o0).trans ((congrFun (congrFun e110 655) o0).trans ((congrFun (up2_ne (k := 655)) o0).trans (by rw [e104]; exact up2_self))))) ((congrFun (congrFun e116 656) o0).trans ((congrFun (up2_ne (k := 656)) o0).trans ((congrFun (congrFun e110 656) o0).trans ((congrFun (up2_ne (k := 656)) o0).trans ((congrFun (congrFun e104 656) o0).trans ((congrFun (up2_ne (k := 656)) o0).trans (sR_656 (T := S) (o := o0) rfl))))))) ((congrFun (congrFun e116 657) o0).trans ((congrFun (up2_ne (k := 657)) o0).trans (by rw [e110]; exact up2_self))) (by rw [e116]; exact up2_self) ((congrFun (congrFun e116 659) o0).trans ((congrFun (up2_ne (k := 659)) o0).trans ((congrFun (congrFun e110 659) o0).trans ((congrFun (up2_ne (k := 659)) o0).trans ((congrFun (congrFun e104 659) o0).trans ((congrFun (up2_ne (k := 659)) o0).trans (sR_659 (T := S) (o := o0) rfl))))))) ((congrFun (congrFun e116 661) o0).trans ((congrFun (up2_ne (k := 661)) o0).trans ((congrFun (congrFun e110 661) o0).trans ((congrFun (up2_ne (k := 661)) o0).trans ((congrFun (congrFun e104 661) o0).trans ((congrFun (up2_ne (k := 661)) o0).trans (sR_661 (T := S) (o := o0) rfl))))))) ((congrFun (congrFun e116 662) o0).trans ((congrFun (up2_ne (k := 662)) o0).trans ((congrFun (congrFun e110 662) o0).trans ((congrFun (up2_ne (k := 662)) o0).trans ((congrFun (congrFun e104 662) o0).trans ((congrFun (up2_ne (k := 662)) o0).trans (sR_662 (T := S) (o := o0) rfl))))))) ((congrFun (congrFun e116 672) o0).trans ((congrFun (up2_ne (k := 672)) o0).trans ((congrFun (congrFun e110 672) o0).trans ((congrFun (up2_ne (k := 672)) o0).trans ((congrFun (congrFun e104 672) o0).trans ((congrFun (up2_ne (k := 672)) o0).trans (sR_672 (T := S) (o := o0) rfl))))))) ((congrFun (congrFun e116 673) o0).trans ((congrFun (up2_ne (k := 673)) o0).trans ((congrFun (congrFun e110 673) o0).trans ((congrFun (up2_ne (k := 673)) o0).trans ((congrFun (congrFun e104 673) o0).trans ((congrFun (up2_ne (k := 673)) o0).trans (sR_673 (T := S) (o := o0) rfl))))))) ((congrFun (congrFun e116 674) o0).trans ((congrFun (up2_ne (k := 674)) o0).trans ((congrFun (congrFun e110 674) o0).trans ((congrFun (up2_ne (k := 674)) o0).trans ((congrFun (congrFun e104 674) o0).trans ((congrFun (up2_ne (k := 674)) o0).trans (sR_674 (T := S) (o := o0) rfl))))))) ((congrFun (congrFun e116 675) o0).trans ((congrFun (up2_ne (k := 675)) o0).trans ((congrFun (congrFun e110 675) o0).trans ((congrFun (up2_ne (k := 675)) o0).trans ((congrFun (congrFun e104 675) o0).trans ((congrFun (up2_ne (k := 675)) o0).trans (sR_675 (T := S) (o := o0) rfl))))))) ((congrFun (congrFun f117 660) o0).trans ((congrFun (congrFun f111 660) o0).trans ((congrFun (congrFun f105 660) o0).trans (sR_660 (T := S) (o := o0) rfl))))) hF.symm, rfl, rfl⟩⟩)
def F_X10_isSimple  (x0 : Int32) : Int32 :=
  if x0 = 2 then
    0
  else
    if x0 = 3 then
      0
    else
      1
theorem q_X10_isSimple_0  {x0 : Int32} (h0 : x0 = 2) : F_X10_isSimple x0 = 0 := by unfold F_X10_isSimple; exact if_pos h0
theorem q_X10_isSimple_1  {x0 : Int32} (h0 : ¬ x0 = 2) (h1 : x0 = 3) : F_X10_isSimple x0 = 0 := by unfold F_X10_isSimple; exact Eq.trans (if_neg h0) (if_pos h1)
theorem q_X10_isSimple_2  {x0 : Int32} (h0 : ¬ x0 = 2) (h1 : ¬ x0 = 3) : F_X10_isSimple x0 = 1 := by unfold F_X10_isSimple; exact Eq.trans (if_neg h0) (if_neg h1)
set_option maxHeartbeats 40000000 in
theorem ce_X10_isSimple {xi : SX} {S : Hp} {E : List Nat} {kc nc : Nat} {P : Po} {x0 : Int32} (hG : GI S E)  (hP : ∀ r T x y, PV E [] S kc nc (rI 0 1) (fun v T => T = S ∧ v = some (.int (F_X10_isSimple x0))) [] r T x y → P r T x y) : TT xi M_X10_isSimple 0 [(0, .int x0)] [] S kc nc P := by
  have hA : Af E [] S S := af_rf
  refine tt_iload_n (j := 0) dX10_isSimple_0 rfl ?_
  refine tt_iconst (v := 2) dX10_isSimple_1 rfl ?_
  refine tt_icmp_eq (tgt := 14) dX10_isSimple_2 rfl (fun q101 => ?_) (fun q101 => ?_)
  · skip
    have h102 : Rg 2 2 x0 := rg_eq_l (rg_all x0) (⟨by decide, by decide⟩ : Rg 2 2 2) q101
    refine tt_iconst (v := 0) dX10_isSimple_14 rfl ?_
    have hF : F_X10_isSimple x0 = 0 := by
      exact q_X10_isSimple_0 q101
    exact tt_ireturn dX10_isSimple_15 .boolean rfl rfl (hP _ _ _ _ ⟨hG, hA, Or.inl ⟨_, rfl, ⟨_, rfl, rg_w (⟨by decide, by decide⟩ : Rg 0 0 0)⟩, ⟨rfl, congrArg (fun q => some (Value.int q)) hF.symm⟩, rfl, rfl⟩⟩)
  · skip
    refine tt_iload_n (j := 0) dX10_isSimple_5 rfl ?_
    refine tt_iconst (v := 3) dX10_isSimple_6 rfl ?_
    refine tt_icmp_eq (tgt := 14) dX10_isSimple_7 rfl (fun q103 => ?_) (fun q103 => ?_)
    · skip
      have h104 : Rg 3 3 x0 := rg_eq_l (rg_all x0) (⟨by decide, by decide⟩ : Rg 3 3 3) q103
      refine tt_iconst (v := 0) dX10_isSimple_14 rfl ?_
      have hF : F_X10_isSimple x0 = 0 := by
        exact q_X10_isSimple_1 q101 q103
      exact tt_ireturn dX10_isSimple_15 .boolean rfl rfl (hP _ _ _ _ ⟨hG, hA, Or.inl ⟨_, rfl, ⟨_, rfl, rg_w (⟨by decide, by decide⟩ : Rg 0 0 0)⟩, ⟨rfl, congrArg (fun q => some (Value.int q)) hF.symm⟩, rfl, rfl⟩⟩)
    · skip
      refine tt_iconst (v := 1) dX10_isSimple_10 rfl ?_
      refine tt_goto (tgt := 15) dX10_isSimple_11 rfl ?_
      have hF : F_X10_isSimple x0 = 1 := by
        exact q_X10_isSimple_2 q101 q103
      exact tt_ireturn dX10_isSimple_15 .boolean rfl rfl (hP _ _ _ _ ⟨hG, hA, Or.inl ⟨_, rfl, ⟨_, rfl, rg_w (⟨by decide, by decide⟩ : Rg 1 1 1)⟩, ⟨rfl, congrArg (fun q => some (Value.int q)) hF.symm⟩, rfl, rfl⟩⟩)
def F_X10_number_1 (bs : Nat → Int32) (n : Int32) (d : DD) : DD × Int64 :=
  let d106 := F_X10_next bs n d 
  (d106.1, (((0 ||| ((d106.2 : Int32).toInt64 <<< (((8 * 0) : Int32).toInt64 &&& 63))) <<< (((64 - (8 * 1)) : Int32).toInt64 &&& 63)) >>> (((64 - (8 * 1)) : Int32).toInt64 &&& 63)))
theorem q_X10_number_1_0 {bs : Nat → Int32} {n : Int32} {d : DD}  : F_X10_number_1 bs n d  = ((F_X10_next bs n d).1, (((0 ||| (((F_X10_next bs n d).2 : Int32).toInt64 <<< (((8 * 0) : Int32).toInt64 &&& 63))) <<< (((64 - (8 * 1)) : Int32).toInt64 &&& 63)) >>> (((64 - (8 * 1)) : Int32).toInt64 &&& 63))) := rfl
set_option maxHeartbeats 40000000 in
theorem ce_X10_number_1 {xi : SX} {S : Hp} {E : List Nat} {kc nc : Nat} {P : Po} {o0 : Nat} {bs : Nat → Int32} {n : Int32} (hG : GI S E) (h0 : Oa S E 10 0 o0) (hb : BR S E o0 bs n) (hP : ∀ r T x y, PV E [654, 662, 9998] S kc nc rJ (fun v T => XJR (F_X10_number_1 bs n (StR S o0) ) T o0 v) [] r T x y → P r T x y) : TT xi M_X10_number 0 [(0, .ref o0), (1, .int 1)] [] S kc nc P := by
  have hA : Af E [654, 662, 9998] S S := af_rf
  refine tt_lconst (v := 0) dX10_number_0 rfl ?_
  refine tt_lstore_n (ks := [0, 1, 2]) (L' := [(2, .long 0), (0, .ref o0), (1, .int 1)]) dX10_number_1 (by decide) rfl ?_
  refine tt_iconst (v := 0) dX10_number_2 rfl ?_
  refine tt_istore (ks := [0, 1, 2, 3]) (L' := [(4, .int 0), (2, .long 0), (0, .ref o0), (1, .int 1)]) dX10_number_3 (by decide) rfl ?_
  refine tt_iload (j := 0) dX10_number_5 rfl ?_
  refine tt_iload_n (j := 3) dX10_number_7 rfl ?_
  refine tt_icmp_ge (tgt := 31) dX10_number_8 rfl (fun q => absurd q (by decide)) (fun _ => ?_)
  refine tt_lload_n (j := 1) dX10_number_11 rfl ?_
  refine tt_aload_n (j := 2) dX10_number_12 rfl ?_
  refine gt_VI (As := []) dX10_number_13 ca_X10_87 ⟨by decide, by decide⟩ h0 hA rfl (Nat.le_of_ble_eq_true rfl) (Nat.le_of_ble_eq_true rfl) (by decide) (ce_X10_next hG (oa_af h0 hA) (br_af hb h0 hA) (fun _ _ _ _ h => h)) rfl (fun _ h => nomatch h) (fun S101 x110 h111 hx105 hG102 hB103 hA104 => ?_)
  obtain ⟨d106, hd107⟩ : ∃ q, F_X10_next bs n (StR S o0)  = q := ⟨_, rfl⟩
  have hq108 := (congrArg (fun q => F_X10_next bs n q ) (stR_mk (sR_654 (T := S) (o := o0) rfl) (sR_655 (T := S) (o := o0) rfl) (sR_656 (T := S) (o := o0) rfl) (sR_657 (T := S) (o := o0) rfl) (sR_658 (T := S) (o := o0) rfl) (sR_659 (T := S) (o := o0) rfl) (sR_661 (T := S) (o := o0) rfl) (sR_662 (T := S) (o := o0) rfl) (sR_672 (T := S) (o := o0) rfl) (sR_673 (T := S) (o := o0) rfl) (sR_674 (T := S) (o := o0) rfl) (sR_675 (T := S) (o := o0) rfl) (sR_660 (T := S) (o := o0) rfl))).trans hd107
  have hs109 := hx105.2.trans (congrArg Prod.fst hq108)
  obtain rfl : x110 = d106.2 := (xiR_v hx105).trans (congrArg Prod.snd hq108)
  refine tt_i2l dX10_number_16 ?_
  refine tt_bipush (v := 8) dX10_number_17 rfl ?_
  refine tt_iload (j := 0) dX10_number_19 rfl ?_
  refine tt_imul dX10_number_21 ?_
  refine tt_lshl dX10_number_22 ?_
  refine tt_lor dX10_number_23 ?_
  refine tt_lstore_n (ks := [0, 1, 2, 3]) (L' := [(2, .long (0 ||| ((d106.2 : Int32).toInt64 <<< (((8 * 0) : Int32).toInt64 &&& 63)))), (4, .int 0), (0, .ref o0), (1, .int 1)]) dX10_number_24 (by decide) rfl ?_
  refine tt_iinc (j := 1) (v := 1) (ks := [0, 1, 2, 3]) (L' := [(4, .int 1), (2, .long (0 ||| ((d106.2 : Int32).toInt64 <<< (((8 * 0) : Int32).toInt64 &&& 63)))), (0, .ref o0), (1, .int 1)]) dX10_number_25 rfl rfl (by decide) rfl ?_
  refine tt_goto (tgt := 5) dX10_number_28 rfl ?_
  refine tt_iload (j := 0) dX10_number_5 rfl ?_
  refine tt_iload_n (j := 3) dX10_number_7 rfl ?_
  refine tt_icmp_ge (tgt := 31) dX10_number_8 rfl (fun _ => ?_) (fun q => absurd q (by decide))
  refine tt_bipush (v := 64) dX10_number_31 rfl ?_
  refine tt_bipush (v := 8) dX10_number_33 rfl ?_
  refine tt_iload_n (j := 3) dX10_number_35 rfl ?_
  refine tt_imul dX10_number_36 ?_
  refine tt_isub dX10_number_37 ?_
  refine tt_istore (ks := [0, 1, 2, 3]) (L' := [(4, .int (64 - (8 * 1))), (2, .long (0 ||| ((d106.2 : Int32).toInt64 <<< (((8 * 0) : Int32).toInt64 &&& 63)))), (0, .ref o0), (1, .int 1)]) dX10_number_38 (by decide) rfl ?_
  refine tt_lload_n (j := 1) dX10_number_40 rfl ?_
  refine tt_iload (j := 0) dX10_number_41 rfl ?_
  refine tt_lshl dX10_number_43 ?_
  refine tt_iload (j := 0) dX10_number_44 rfl ?_
  refine tt_lshr dX10_number_46 ?_
  have hF : F_X10_number_1 bs n (StR S o0)  = (d106.1, (((0 ||| ((d106.2 : Int32).toInt64 <<< (((8 * 0) : Int32).toInt64 &&& 63))) <<< (((64 - (8 * 1)) : Int32).toInt64 &&& 63)) >>> (((64 - (8 * 1)) : Int32).toInt64 &&& 63))) := by
    subst hd107
    rfl
  exact tt_lreturn dX10_number_47 rfl (hP _ _ _ _ ⟨hG102, hA104, Or.inl ⟨_, rfl, ⟨_, rfl⟩, xjR_mk hF (stR_mk (sR_654 hs109) (sR_655 hs109) (sR_656 hs109) (sR_657 hs109) (sR_658 hs109) (sR_659 hs109) (sR_661 hs109) (sR_662 hs109) (sR_672 hs109) (sR_673 hs109) (sR_674 hs109) (sR_675 hs109) (sR_660 hs109)), rfl, rfl⟩⟩)
def F_X10_number_4 (bs : Nat → Int32) (n : Int32) (d : DD) : DD × Int64 :=
  let d106 := F_X10_next bs n d 
  let d117 := F_X10_next bs n d106.1 
  let d128 := F_X10_next bs n d117.1 
  let d139 := F_X10_next bs n d128.1 
  (d139.1, ((((((0 ||| ((d106.2 : Int32).toInt64 <<< (((8 * 0) : Int32).toInt64 &&& 63))) ||| ((d117.2 : Int32).toInt64 <<< (((8 * 1) : Int32).toInt64 &&& 63))) ||| ((d128.2 : Int32).toInt64 <<< (((8 * 2) : Int32).toInt64 &&& 63))) ||| ((d139.2 : Int32).toInt64 <<< (((8 * 3) : Int32).toInt64 &&& 63))) <<< (((64 - (8 * 4)) : Int32).toInt64 &&& 63)) >>> (((64 - (8 * 4)) : Int32).toInt64 &&& 63)))
theorem q_X10_number_4_0 {bs : Nat → Int32} {n : Int32} {d : DD}  : F_X10_number_4 bs n d  = ((F_X10_next bs n (F_X10_next bs n (F_X10_next bs n (F_X10_next bs n d).1).1).1).1, ((((((0 ||| (((F_X10_next bs n d).2 : Int32).toInt64 <<< (((8 * 0) : Int32).toInt64 &&& 63))) ||| (((F_X10_next bs n (F_X10_next bs n d).1).2 : Int32).toInt64 <<< (((8 * 1) : Int32).toInt64 &&& 63))) ||| (((F_X10_next bs n (F_X10_next bs n (F_X10_next bs n d).1).1).2 : Int32).toInt64 <<< (((8 * 2) : Int32).toInt64 &&& 63))) ||| (((F_X10_next bs n (F_X10_next bs n (F_X10_next bs n (F_X10_next bs n d).1).1).1).2 : Int32).toInt64 <<< (((8 * 3) : Int32).toInt64 &&& 63))) <<< (((64 - (8 * 4)) : Int32).toInt64 &&& 63)) >>> (((64 - (8 * 4)) : Int32).toInt64 &&& 63))) := rfl
set_option maxHeartbeats 40000000 in
theorem ce_X10_number_4 {xi : SX} {S : Hp} {E : List Nat} {kc nc : Nat} {P : Po} {o0 : Nat} {bs : Nat → Int32} {n : Int32} (hG : GI S E) (h0 : Oa S E 10 0 o0) (hb : BR S E o0 bs n) (hP : ∀ r T x y, PV E [654, 662, 9998] S kc nc rJ (fun v T => XJR (F_X10_number_4 bs n (StR S o0) ) T o0 v) [] r T x y → P r T x y) : TT xi M_X10_number 0 [(0, .ref o0), (1, .int 4)] [] S kc nc P := by
  have hA : Af E [654, 662, 9998] S S := af_rf
  refine tt_lconst (v := 0) dX10_number_0 rfl ?_
  refine tt_lstore_n (ks := [0, 1, 2]) (L' := [(2, .long 0), (0, .ref o0), (1, .int 4)]) dX10_number_1 (by decide) rfl ?_
  refine tt_iconst (v := 0) dX10_number_2 rfl ?_
  refine tt_istore (ks := [0, 1, 2, 3]) (L' := [(4, .int 0), (2, .long 0), (0, .ref o0), (1, .int 4)]) dX10_number_3 (by decide) rfl ?_
  refine tt_iload (j := 0) dX10_number_5 rfl ?_
  refine tt_iload_n (j := 3) dX10_number_7 rfl ?_
  refine tt_icmp_ge (tgt := 31) dX10_number_8 rfl (fun q => absurd q (by decide)) (fun _ => ?_)
  refine tt_lload_n (j := 1) dX10_number_11 rfl ?_
  refine tt_aload_n (j := 2) dX10_number_12 rfl ?_
  refine gt_VI (As := []) dX10_number_13 ca_X10_87 ⟨by decide, by decide⟩ h0 hA rfl (Nat.le_of_ble_eq_true rfl) (Nat.le_of_ble_eq_true rfl) (by decide) (ce_X10_next hG (oa_af h0 hA) (br_af hb h0 hA) (fun _ _ _ _ h => h)) rfl (fun _ h => nomatch h) (fun S101 x110 h111 hx105 hG102 hB103 hA104 => ?_)
  obtain ⟨d106, hd107⟩ : ∃ q, F_X10_next bs n (StR S o0)  = q := ⟨_, rfl⟩
  have hq108 := (congrArg (fun q => F_X10_next bs n q ) (stR_mk (sR_654 (T := S) (o := o0) rfl) (sR_655 (T := S) (o := o0) rfl) (sR_656 (T := S) (o := o0) rfl) (sR_657 (T := S) (o := o0) rfl) (sR_658 (T := S) (o := o0) rfl) (sR_659 (T := S) (o := o0) rfl) (sR_661 (T := S) (o := o0) rfl) (sR_662 (T := S) (o := o0) rfl) (sR_672 (T := S) (o := o0) rfl) (sR_673 (T := S) (o := o0) rfl) (sR_674 (T := S) (o := o0) rfl) (sR_675 (T := S) (o := o0) rfl) (sR_660 (T := S) (o := o0) rfl))).trans hd107
  have hs109 := hx105.2.trans (congrArg Prod.fst hq108)
  obtain rfl : x110 = d106.2 := (xiR_v hx105).trans (congrArg Prod.snd hq108)
  refine tt_i2l dX10_number_16 ?_
  refine tt_bipush (v := 8) dX10_number_17 rfl ?_
  refine tt_iload (j := 0) dX10_number_19 rfl ?_
  refine tt_imul dX10_number_21 ?_
  refine tt_lshl dX10_number_22 ?_
  refine tt_lor dX10_number_23 ?_
  refine tt_lstore_n (ks := [0, 1, 2, 3]) (L' := [(2, .long (0 ||| ((d106.2 : Int32).toInt64 <<< (((8 * 0) : Int32).toInt64 &&& 63)))), (4, .int 0), (0, .ref o0), (1, .int 4)]) dX10_number_24 (by decide) rfl ?_
  refine tt_iinc (j := 1) (v := 1) (ks := [0, 1, 2, 3]) (L' := [(4, .int 1), (2, .long (0 ||| ((d106.2 : Int32).toInt64 <<< (((8 * 0) : Int32).toInt64 &&& 63)))), (0, .ref o0), (1, .int 4)]) dX10_number_25 rfl rfl (by decide) rfl ?_
  refine tt_goto (tgt := 5) dX10_number_28 rfl ?_
  refine tt_iload (j := 0) dX10_number_5 rfl ?_
  refine tt_iload_n (j := 3) dX10_number_7 rfl ?_
  refine tt_icmp_ge (tgt := 31) dX10_number_8 rfl (fun q => absurd q (by decide)) (fun _ => ?_)
  refine tt_lload_n (j := 1) dX10_number_11 rfl ?_
  refine tt_aload_n (j := 2) dX10_number_12 rfl ?_
  refine gt_VI (As := []) dX10_number_13 ca_X10_87 ⟨by decide, by decide⟩ h0 hA104 rfl (Nat.le_of_ble_eq_true rfl) (Nat.le_of_ble_eq_true rfl) (by decide) (ce_X10_next hG102 (oa_af h0 hA104) (br_af hb h0 hA104) (fun _ _ _ _ h => h)) rfl (fun _ h => nomatch h) (fun S112 x121 h122 hx116 hG113 hB114 hA115 => ?_)
  obtain ⟨d117, hd118⟩ : ∃ q, F_X10_next bs n d106.1  = q := ⟨_, rfl⟩
  have hq119 := (congrArg (fun q => F_X10_next bs n q ) (stR_mk (sR_654 hs109) (sR_655 hs109) (sR_656 hs109) (sR_657 hs109) (sR_658 hs109) (sR_659 hs109) (sR_661 hs109) (sR_662 hs109) (sR_672 hs109) (sR_673 hs109) (sR_674 hs109) (sR_675 hs109) (sR_660 hs109))).trans hd118
  have hs120 := hx116.2.trans (congrArg Prod.fst hq119)
  obtain rfl : x121 = d117.2 := (xiR_v hx116).trans (congrArg Prod.snd hq119)
  refine tt_i2l dX10_number_16 ?_
  refine tt_bipush (v := 8) dX10_number_17 rfl ?_
  refine tt_iload (j := 0) dX10_number_19 rfl ?_
  refine tt_imul dX10_number_21 ?_
  refine tt_lshl dX10_number_22 ?_
  refine tt_lor dX10_number_23 ?_
  refine tt_lstore_n (ks := [0, 1, 2, 3]) (L' := [(2, .long ((0 ||| ((d106.2 : Int32).toInt64 <<< (((8 * 0) : Int32).toInt64 &&& 63))) ||| ((d117.2 : Int32).toInt64 <<< (((8 * 1) : Int32).toInt64 &&& 63)))), (4, .int 1), (0, .ref o0), (1, .int 4)]) dX10_number_24 (by decide) rfl ?_
  refine tt_iinc (j := 1) (v := 2) (ks := [0, 1, 2, 3]) (L' := [(4, .int 2), (2, .long ((0 ||| ((d106.2 : Int32).toInt64 <<< (((8 * 0) : Int32).toInt64 &&& 63))) ||| ((d117.2 : Int32).toInt64 <<< (((8 * 1) : Int32).toInt64 &&& 63)))), (0, .ref o0), (1, .int 4)]) dX10_number_25 rfl rfl (by decide) rfl ?_
  refine tt_goto (tgt := 5) dX10_number_28 rfl ?_
  refine tt_iload (j := 0) dX10_number_5 rfl ?_
  refine tt_iload_n (j := 3) dX10_number_7 rfl ?_
  refine tt_icmp_ge (tgt := 31) dX10_number_8 rfl (fun q => absurd q (by decide)) (fun _ => ?_)
  refine tt_lload_n (j := 1) dX10_number_11 rfl ?_
  refine tt_aload_n (j := 2) dX10_number_12 rfl ?_
  refine gt_VI (As := []) dX10_number_13 ca_X10_87 ⟨by decide, by decide⟩ h0 hA115 rfl (Nat.le_of_ble_eq_true rfl) (Nat.le_of_ble_eq_true rfl) (by decide) (ce_X10_next hG113 (oa_af h0 hA115) (br_af hb h0 hA115) (fun _ _ _ _ h => h)) rfl (fun _ h => nomatch h) (fun S123 x132 h133 hx127 hG124 hB125 hA126 => ?_)
  obtain ⟨d128, hd129⟩ : ∃ q, F_X10_next bs n d117.1  = q := ⟨_, rfl⟩
  have hq130 := (congrArg (fun q => F_X10_next bs n q ) (stR_mk (sR_654 hs120) (sR_655 hs120) (sR_656 hs120) (sR_657 hs120) (sR_658 hs120) (sR_659 hs120) (sR_661 hs120) (sR_662 hs120) (sR_672 hs120) (sR_673 hs120) (sR_674 hs120) (sR_675 hs120) (sR_660 hs120))).trans hd129
  have hs131 := hx127.2.trans (congrArg Prod.fst hq130)
  obtain rfl : x132 = d128.2 := (xiR_v hx127).trans (congrArg Prod.snd hq130)
  refine tt_i2l dX10_number_16 ?_
  refine tt_bipush (v := 8) dX10_number_17 rfl ?_
  refine tt_iload (j := 0) dX10_number_19 rfl ?_
  refine tt_imul dX10_number_21 ?_
  refine tt_lshl dX10_number_22 ?_
  refine tt_lor dX10_number_23 ?_
  refine tt_lstore_n (ks := [0, 1, 2, 3]) (L' := [(2, .long (((0 ||| ((d106.2 : Int32).toInt64 <<< (((8 * 0) : Int32).toInt64 &&& 63))) ||| ((d117.2 : Int32).toInt64 <<< (((8 * 1) : Int32).toInt64 &&& 63))) ||| ((d128.2 : Int32).toInt64 <<< (((8 * 2) : Int32).toInt64 &&& 63)))), (4, .int 2), (0, .ref o0), (1, .int 4)]) dX10_number_24 (by decide) rfl ?_
  refine tt_iinc (j := 1) (v := 3) (ks := [0, 1, 2, 3]) (L' := [(4, .int 3), (2, .long (((0 ||| ((d106.2 : Int32).toInt64 <<< (((8 * 0) : Int32).toInt64 &&& 63))) ||| ((d117.2 : Int32).toInt64 <<< (((8 * 1) : Int32).toInt64 &&& 63))) ||| ((d128.2 : Int32).toInt64 <<< (((8 * 2) : Int32).toInt64 &&& 63)))), (0, .ref o0), (1, .int 4)]) dX10_number_25 rfl rfl (by decide) rfl ?_
  refine tt_goto (tgt := 5) dX10_number_28 rfl ?_
  refine tt_iload (j := 0) dX10_number_5 rfl ?_
  refine tt_iload_n (j := 3) dX10_number_7 rfl ?_
  refine tt_icmp_ge (tgt := 31) dX10_number_8 rfl (fun q => absurd q (by decide)) (fun _ => ?_)
  refine tt_lload_n (j := 1) dX10_number_11 rfl ?_
  refine tt_aload_n (j := 2) dX10_number_12 rfl ?_
  refine gt_VI (As := []) dX10_number_13 ca_X10_87 ⟨by decide, by decide⟩ h0 hA126 rfl (Nat.le_of_ble_eq_true rfl) (Nat.le_of_ble_eq_true rfl) (by decide) (ce_X10_next hG124 (oa_af h0 hA126) (br_af hb h0 hA126) (fun _ _ _ _ h => h)) rfl (fun _ h => nomatch h) (fun S134 x143 h144 hx138 hG135 hB136 hA137 => ?_)
  obtain ⟨d139, hd140⟩ : ∃ q, F_X10_next bs n d128.1  = q := ⟨_, rfl⟩
  have hq141 := (congrArg (fun q => F_X10_next bs n q ) (stR_mk (sR_654 hs131) (sR_655 hs131) (sR_656 hs131) (sR_657 hs131) (sR_658 hs131) (sR_659 hs131) (sR_661 hs131) (sR_662 hs131) (sR_672 hs131) (sR_673 hs131) (sR_674 hs131) (sR_675 hs131) (sR_660 hs131))).trans hd140
  have hs142 := hx138.2.trans (congrArg Prod.fst hq141)
  obtain rfl : x143 = d139.2 := (xiR_v hx138).trans (congrArg Prod.snd hq141)
  refine tt_i2l dX10_number_16 ?_
  refine tt_bipush (v := 8) dX10_number_17 rfl ?_
  refine tt_iload (j := 0) dX10_number_19 rfl ?_
  refine tt_imul dX10_number_21 ?_
  refine tt_lshl dX10_number_22 ?_
  refine tt_lor dX10_number_23 ?_
  refine tt_lstore_n (ks := [0, 1, 2, 3]) (L' := [(2, .long ((((0 ||| ((d106.2 : Int32).toInt64 <<< (((8 * 0) : Int32).toInt64 &&& 63))) ||| ((d117.2 : Int32).toInt64 <<< (((8 * 1) : Int32).toInt64 &&& 63))) ||| ((d128.2 : Int32).toInt64 <<< (((8 * 2) : Int32).toInt64 &&& 63))) ||| ((d139.2 : Int32).toInt64 <<< (((8 * 3) : Int32).toInt64 &&& 63)))), (4, .int 3), (0, .ref o0), (1, .int 4)]) dX10_number_24 (by decide) rfl ?_
  refine tt_iinc (j := 1) (v := 4) (ks := [0, 1, 2, 3]) (L' := [(4, .int 4), (2, .long ((((0 ||| ((d106.2 : Int32).toInt64 <<< (((8 * 0) : Int32).toInt64 &&& 63))) ||| ((d117.2 : Int32).toInt64 <<< (((8 * 1) : Int32).toInt64 &&& 63))) ||| ((d128.2 : Int32).toInt64 <<< (((8 * 2) : Int32).toInt64 &&& 63))) ||| ((d139.2 : Int32).toInt64 <<< (((8 * 3) : Int32).toInt64 &&& 63)))), (0, .ref o0), (1, .int 4)]) dX10_number_25 rfl rfl (by decide) rfl ?_
  refine tt_goto (tgt := 5) dX10_number_28 rfl ?_
  refine tt_iload (j := 0) dX10_number_5 rfl ?_
  refine tt_iload_n (j := 3) dX10_number_7 rfl ?_
  refine tt_icmp_ge (tgt := 31) dX10_number_8 rfl (fun _ => ?_) (fun q => absurd q (by decide))
  refine tt_bipush (v := 64) dX10_number_31 rfl ?_
  refine tt_bipush (v := 8) dX10_number_33 rfl ?_
  refine tt_iload_n (j := 3) dX10_number_35 rfl ?_
  refine tt_imul dX10_number_36 ?_
  refine tt_isub dX10_number_37 ?_
  refine tt_istore (ks := [0, 1, 2, 3]) (L' := [(4, .int (64 - (8 * 4))), (2, .long ((((0 ||| ((d106.2 : Int32).toInt64 <<< (((8 * 0) : Int32).toInt64 &&& 63))) ||| ((d117.2 : Int32).toInt64 <<< (((8 * 1) : Int32).toInt64 &&& 63))) ||| ((d128.2 : Int32).toInt64 <<< (((8 * 2) : Int32).toInt64 &&& 63))) ||| ((d139.2 : Int32).toInt64 <<< (((8 * 3) : Int32).toInt64 &&& 63)))), (0, .ref o0), (1, .int 4)]) dX10_number_38 (by decide) rfl ?_
  refine tt_lload_n (j := 1) dX10_number_40 rfl ?_
  refine tt_iload (j := 0) dX10_number_41 rfl ?_
  refine tt_lshl dX10_number_43 ?_
  refine tt_iload (j := 0) dX10_number_44 rfl ?_
  refine tt_lshr dX10_number_46 ?_
  have hF : F_X10_number_4 bs n (StR S o0)  = (d139.1, ((((((0 ||| ((d106.2 : Int32).toInt64 <<< (((8 * 0) : Int32).toInt64 &&& 63))) ||| ((d117.2 : Int32).toInt64 <<< (((8 * 1) : Int32).toInt64 &&& 63))) ||| ((d128.2 : Int32).toInt64 <<< (((8 * 2) : Int32).toInt64 &&& 63))) ||| ((d139.2 : Int32).toInt64 <<< (((8 * 3) : Int32).toInt64 &&& 63))) <<< (((64 - (8 * 4)) : Int32).toInt64 &&& 63)) >>> (((64 - (8 * 4)) : Int32).toInt64 &&& 63))) := by
    subst hd140
    subst hd129
    subst hd118
    subst hd107
    rfl
  exact tt_lreturn dX10_number_47 rfl (hP _ _ _ _ ⟨hG135, hA137, Or.inl ⟨_, rfl, ⟨_, rfl⟩, xjR_mk hF (stR_mk (sR_654 hs142) (sR_655 hs142) (sR_656 hs142) (sR_657 hs142) (sR_658 hs142) (sR_659 hs142) (sR_661 hs142) (sR_662 hs142) (sR_672 hs142) (sR_673 hs142) (sR_674 hs142) (sR_675 hs142) (sR_660 hs142)), rfl, rfl⟩⟩)
def F_X10_number_8 (bs : Nat → Int32) (n : Int32) (d : DD) : DD × Int64 :=
  let d106 := F_X10_next bs n d 
  let d117 := F_X10_next bs n d106.1 
  let d128 := F_X10_next bs n d117.1 
  let d139 := F_X10_next bs n d128.1 
  let d150 := F_X10_next bs n d139.1 
  let d161 := F_X10_next bs n d150.1 
  let d172 := F_X10_next bs n d161.1 
  let d183 := F_X10_next bs n d172.1 
  (d183.1, ((((((((((0 ||| ((d106.2 : Int32).toInt64 <<< (((8 * 0) : Int32).toInt64 &&& 63))) ||| ((d117.2 : Int32).toInt64 <<< (((8 * 1) : Int32).toInt64 &&& 63))) ||| ((d128.2 : Int32).toInt64 <<< (((8 * 2) : Int32).toInt64 &&& 63))) ||| ((d139.2 : Int32).toInt64 <<< (((8 * 3) : Int32).toInt64 &&& 63))) ||| ((d150.2 : Int32).toInt64 <<< (((8 * 4) : Int32).toInt64 &&& 63))) ||| ((d161.2 : Int32).toInt64 <<< (((8 * 5) : Int32).toInt64 &&& 63))) ||| ((d172.2 : Int32).toInt64 <<< (((8 * 6) : Int32).toInt64 &&& 63))) ||| ((d183.2 : Int32).toInt64 <<< (((8 * 7) : Int32).toInt64 &&& 63))) <<< (((64 - (8 * 8)) : Int32).toInt64 &&& 63)) >>> (((64 - (8 * 8)) : Int32).toInt64 &&& 63)))
theorem q_X10_number_8_0 {bs : Nat → Int32} {n : Int32} {d : DD}  : F_X10_number_8 bs n d  = ((F_X10_next bs n (F_X10_next bs n (F_X10_next bs n (F_X10_next bs n (F_X10_next bs n (F_X10_next bs n (F_X10_next bs n (F_X10_next bs n d).1).1).1).1).1).1).1).1, ((((((((((0 ||| (((F_X10_next bs n d).2 : Int32).toInt64 <<< (((8 * 0) : Int32).toInt64 &&& 63))) ||| (((F_X10_next bs n (F_X10_next bs n d).1).2 : Int32).toInt64 <<< (((8 * 1) : Int32).toInt64 &&& 63))) ||| (((F_X10_next bs n (F_X10_next bs n (F_X10_next bs n d).1).1).2 : Int32).toInt64 <<< (((8 * 2) : Int32).toInt64 &&& 63))) ||| (((F_X10_next bs n (F_X10_next bs n (F_X10_next bs n (F_X10_next bs n d).1).1).1).2 : Int32).toInt64 <<< (((8 * 3) : Int32).toInt64 &&& 63))) ||| (((F_X10_next bs n (F_X10_next bs n (F_X10_next bs n (F_X10_next bs n (F_X10_next bs n d).1).1).1).1).2 : Int32).toInt64 <<< (((8 * 4) : Int32).toInt64 &&& 63))) ||| (((F_X10_next bs n (F_X10_next bs n (F_X10_next bs n (F_X10_next bs n (F_X10_next bs n (F_X10_next bs n d).1).1).1).1).1).2 : Int32).toInt64 <<< (((8 * 5) : Int32).toInt64 &&& 63))) ||| (((F_X10_next bs n (F_X10_next bs n (F_X10_next bs n (F_X10_next bs n (F_X10_next bs n (F_X10_next bs n (F_X10_next bs n d).1).1).1).1).1).1).2 : Int32).toInt64 <<< (((8 * 6) : Int32).toInt64 &&& 63))) ||| (((F_X10_next bs n (F_X10_next bs n (F_X10_next bs n (F_X10_next bs n (F_X10_next bs n (F_X10_next bs n (F_X10_next bs n (F_X10_next bs n d).1).1).1).1).1).1).1).2 : Int32).toInt64 <<< (((8 * 7) : Int32).toInt64 &&& 63))) <<< (((64 - (8 * 8)) : Int32).toInt64 &&& 63)) >>> (((64 - (8 * 8)) : Int32).toInt64 &&& 63))) := rfl
set_option maxHeartbeats 40000000 in
theorem ce_X10_number_8 {xi : SX} {S : Hp} {E : List Nat} {kc nc : Nat} {P : Po} {o0 : Nat} {bs : Nat → Int32} {n : Int32} (hG : GI S E) (h0 : Oa S E 10 0 o0) (hb : BR S E o0 bs n) (hP : ∀ r T x y, PV E [654, 662, 9998] S kc nc rJ (fun v T => XJR (F_X10_number_8 bs n (StR S o0) ) T o0 v) [] r T x y → P r T x y) : TT xi M_X10_number 0 [(0, .ref o0), (1, .int 8)] [] S kc nc P := by
  have hA : Af E [654, 662, 9998] S S := af_rf
  refine tt_lconst (v := 0) dX10_number_0 rfl ?_
  refine tt_lstore_n (ks := [0, 1, 2]) (L' := [(2, .long 0), (0, .ref o0), (1, .int 8)]) dX10_number_1 (by decide) rfl ?_
  refine tt_iconst (v := 0) dX10_number_2 rfl ?_
  refine tt_istore (ks := [0, 1, 2, 3]) (L' := [(4, .int 0), (2, .long 0), (0, .ref o0), (1, .int 8)]) dX10_number_3 (by decide) rfl ?_
  refine tt_iload (j := 0) dX10_number_5 rfl ?_
  refine tt_iload_n (j := 3) dX10_number_7 rfl ?_
  refine tt_icmp_ge (tgt := 31) dX10_number_8 rfl (fun q => absurd q (by decide)) (fun _ => ?_)
  refine tt_lload_n (j := 1) dX10_number_11 rfl ?_
  refine tt_aload_n (j := 2) dX10_number_12 rfl ?_
  refine gt_VI (As := []) dX10_number_13 ca_X10_87 ⟨by decide, by decide⟩ h0 hA rfl (Nat.le_of_ble_eq_true rfl) (Nat.le_of_ble_eq_true rfl) (by decide) (ce_X10_next hG (oa_af h0 hA) (br_af hb h0 hA) (fun _ _ _ _ h => h)) rfl (fun _ h => nomatch h) (fun S101 x110 h111 hx105 hG102 hB103 hA104 => ?_)
  obtain ⟨d106, hd107⟩ : ∃ q, F_X10_next bs n (StR S o0)  = q := ⟨_, rfl⟩
  have hq108 := (congrArg (fun q => F_X10_next bs n q ) (stR_mk (sR_654 (T := S) (o := o0) rfl) (sR_655 (T := S) (o := o0) rfl) (sR_656 (T := S) (o := o0) rfl) (sR_657 (T := S) (o := o0) rfl) (sR_658 (T := S) (o := o0) rfl) (sR_659 (T := S) (o := o0) rfl) (sR_661 (T := S) (o := o0) rfl) (sR_662 (T := S) (o := o0) rfl) (sR_672 (T := S) (o := o0) rfl) (sR_673 (T := S) (o := o0) rfl) (sR_674 (T := S) (o := o0) rfl) (sR_675 (T := S) (o := o0) rfl) (sR_660 (T := S) (o := o0) rfl))).trans hd107
  have hs109 := hx105.2.trans (congrArg Prod.fst hq108)
  obtain rfl : x110 = d106.2 := (xiR_v hx105).trans (congrArg Prod.snd hq108)
  refine tt_i2l dX10_number_16 ?_
  refine tt_bipush (v := 8) dX10_number_17 rfl ?_
  refine tt_iload (j := 0) dX10_number_19 rfl ?_
  refine tt_imul dX10_number_21 ?_
  refine tt_lshl dX10_number_22 ?_
  refine tt_lor dX10_number_23 ?_
  refine tt_lstore_n (ks := [0, 1, 2, 3]) (L' := [(2, .long (0 ||| ((d106.2 : Int32).toInt64 <<< (((8 * 0) : Int32).toInt64 &&& 63)))), (4, .int 0), (0, .ref o0), (1, .int 8)]) dX10_number_24 (by decide) rfl ?_
  refine tt_iinc (j := 1) (v := 1) (ks := [0, 1, 2, 3]) (L' := [(4, .int 1), (2, .long (0 ||| ((d106.2 : Int32).toInt64 <<< (((8 * 0) : Int32).toInt64 &&& 63)))), (0, .ref o0), (1, .int 8)]) dX10_number_25 rfl rfl (by decide) rfl ?_
  refine tt_goto (tgt := 5) dX10_number_28 rfl ?_
  refine tt_iload (j := 0) dX10_number_5 rfl ?_
  refine tt_iload_n (j := 3) dX10_number_7 rfl ?_
  refine tt_icmp_ge (tgt := 31) dX10_number_8 rfl (fun q => absurd q (by decide)) (fun _ => ?_)
  refine tt_lload_n (j := 1) dX10_number_11 rfl ?_
  refine tt_aload_n (j := 2) dX10_number_12 rfl ?_
  refine gt_VI (As := []) dX10_number_13 ca_X10_87 ⟨by decide, by decide⟩ h0 hA104 rfl (Nat.le_of_ble_eq_true rfl) (Nat.le_of_ble_eq_true rfl) (by decide) (ce_X10_next hG102 (oa_af h0 hA104) (br_af hb h0 hA104) (fun _ _ _ _ h => h)) rfl (fun _ h => nomatch h) (fun S112 x121 h122 hx116 hG113 hB114 hA115 => ?_)
  obtain ⟨d117, hd118⟩ : ∃ q, F_X10_next bs n d106.1  = q := ⟨_, rfl⟩
  have hq119 := (congrArg (fun q => F_X10_next bs n q ) (stR_mk (sR_654 hs109) (sR_655 hs109) (sR_656 hs109) (sR_657 hs109) (sR_658 hs109) (sR_659 hs109) (sR_661 hs109) (sR_662 hs109) (sR_672 hs109) (sR_673 hs109) (sR_674 hs109) (sR_675 hs109) (sR_660 hs109))).trans hd118
  have hs120 := hx116.2.trans (congrArg Prod.fst hq119)
  obtain rfl : x121 = d117.2 := (xiR_v hx116).trans (congrArg Prod.snd hq119)
  refine tt_i2l dX10_number_16 ?_
  refine tt_bipush (v := 8) dX10_number_17 rfl ?_
  refine tt_iload (j := 0) dX10_number_19 rfl ?_
  refine tt_imul dX10_number_21 ?_
  refine tt_lshl dX10_number_22 ?_
  refine tt_lor dX10_number_23 ?_
  refine tt_lstore_n (ks := [0, 1, 2, 3]) (L' := [(2, .long ((0 ||| ((d106.2 : Int32).toInt64 <<< (((8 * 0) : Int32).toInt64 &&& 63))) ||| ((d117.2 : Int32).toInt64 <<< (((8 * 1) : Int32).toInt64 &&& 63)))), (4, .int 1), (0, .ref o0), (1, .int 8)]) dX10_number_24 (by decide) rfl ?_
  refine tt_iinc (j := 1) (v := 2) (ks := [0, 1, 2, 3]) (L' := [(4, .int 2), (2, .long ((0 ||| ((d106.2 : Int32).toInt64 <<< (((8 * 0) : Int32).toInt64 &&& 63))) ||| ((d117.2 : Int32).toInt64 <<< (((8 * 1) : Int32).toInt64 &&& 63)))), (0, .ref o0), (1, .int 8)]) dX10_number_25 rfl rfl (by decide) rfl ?_
  refine tt_goto (tgt := 5) dX10_number_28 rfl ?_
  refine tt_iload (j := 0) dX10_number_5 rfl ?_
  refine tt_iload_n (j := 3) dX10_number_7 rfl ?_
  refine tt_icmp_ge (tgt := 31) dX10_number_8 rfl (fun q => absurd q (by decide)) (fun _ => ?_)
  refine tt_lload_n (j := 1) dX10_number_11 rfl ?_
  refine tt_aload_n (j := 2) dX10_number_12 rfl ?_
  refine gt_VI (As := []) dX10_number_13 ca_X10_87 ⟨by decide, by decide⟩ h0 hA115 rfl (Nat.le_of_ble_eq_true rfl) (Nat.le_of_ble_eq_true rfl) (by decide) (ce_X10_next hG113 (oa_af h0 hA115) (br_af hb h0 hA115) (fun _ _ _ _ h => h)) rfl (fun _ h => nomatch h) (fun S123 x132 h133 hx127 hG124 hB125 hA126 => ?_)
  obtain ⟨d128, hd129⟩ : ∃ q, F_X10_next bs n d117.1  = q := ⟨_, rfl⟩
  have hq130 := (congrArg (fun q => F_X10_next bs n q ) (stR_mk (sR_654 hs120) (sR_655 hs120) (sR_656 hs120) (sR_657 hs120) (sR_658 hs120) (sR_659 hs120) (sR_661 hs120) (sR_662 hs120) (sR_672 hs120) (sR_673 hs120) (sR_674 hs120) (sR_675 hs120) (sR_660 hs120))).trans hd129
  have hs131 := hx127.2.trans (congrArg Prod.fst hq130)
  obtain rfl : x132 = d128.2 := (xiR_v hx127).trans (congrArg Prod.snd hq130)
  refine tt_i2l dX10_number_16 ?_
  refine tt_bipush (v := 8) dX10_number_17 rfl ?_
  refine tt_iload (j := 0) dX10_number_19 rfl ?_
  refine tt_imul dX10_number_21 ?_
  refine tt_lshl dX10_number_22 ?_
  refine tt_lor dX10_number_23 ?_
  refine tt_lstore_n (ks := [0, 1, 2, 3]) (L' := [(2, .long (((0 ||| ((d106.2 : Int32).toInt64 <<< (((8 * 0) : Int32).toInt64 &&& 63))) ||| ((d117.2 : Int32).toInt64 <<< (((8 * 1) : Int32).toInt64 &&& 63))) ||| ((d128.2 : Int32).toInt64 <<< (((8 * 2) : Int32).toInt64 &&& 63)))), (4, .int 2), (0, .ref o0), (1, .int 8)]) dX10_number_24 (by decide) rfl ?_
  refine tt_iinc (j := 1) (v := 3) (ks := [0, 1, 2, 3]) (L' := [(4, .int 3), (2, .long (((0 ||| ((d106.2 : Int32).toInt64 <<< (((8 * 0) : Int32).toInt64 &&& 63))) ||| ((d117.2 : Int32).toInt64 <<< (((8 * 1) : Int32).toInt64 &&& 63))) ||| ((d128.2 : Int32).toInt64 <<< (((8 * 2) : Int32).toInt64 &&& 63)))), (0, .ref o0), (1, .int 8)]) dX10_number_25 rfl rfl (by decide) rfl ?_
  refine tt_goto (tgt := 5) dX10_number_28 rfl ?_
  refine tt_iload (j := 0) dX10_number_5 rfl ?_
  refine tt_iload_n (j := 3) dX10_number_7 rfl ?_
  refine tt_icmp_ge (tgt := 31) dX10_number_8 rfl (fun q => absurd q (by decide)) (fun _ => ?_)
  refine tt_lload_n (j := 1) dX10_number_11 rfl ?_
  refine tt_aload_n (j := 2) dX10_number_12 rfl ?_
  refine gt_VI (As := []) dX10_number_13 ca_X10_87 ⟨by decide, by decide⟩ h0 hA126 rfl (Nat.le_of_ble_eq_true rfl) (Nat.le_of_ble_eq_true rfl) (by decide) (ce_X10_next hG124 (oa_af h0 hA126) (br_af hb h0 hA126) (fun _ _ _ _ h => h)) rfl (fun _ h => nomatch h) (fun S134 x143 h144 hx138 hG135 hB136 hA137 => ?_)
  obtain ⟨d139, hd140⟩ : ∃ q, F_X10_next bs n d128.1  = q := ⟨_, rfl⟩
  have hq141 := (congrArg (fun q => F_X10_next bs n q ) (stR_mk (sR_654 hs131) (sR_655 hs131) (sR_656 hs131) (sR_657 hs131) (sR_658 hs131) (sR_659 hs131) (sR_661 hs131) (sR_662 hs131) (sR_672 hs131) (sR_673 hs131) (sR_674 hs131) (sR_675 hs131) (sR_660 hs131))).trans hd140
  have hs142 := hx138.2.trans (congrArg Prod.fst hq141)
  obtain rfl : x143 = d139.2 := (xiR_v hx138).trans (congrArg Prod.snd hq141)
  refine tt_i2l dX10_number_16 ?_
  refine tt_bipush (v := 8) dX10_number_17 rfl ?_
  refine tt_iload (j := 0) dX10_number_19 rfl ?_
  refine tt_imul dX10_number_21 ?_
  refine tt_lshl dX10_number_22 ?_
  refine tt_lor dX10_number_23 ?_
  refine tt_lstore_n (ks := [0, 1, 2, 3]) (L' := [(2, .long ((((0 ||| ((d106.2 : Int32).toInt64 <<< (((8 * 0) : Int32).toInt64 &&& 63))) ||| ((d117.2 : Int32).toInt64 <<< (((8 * 1) : Int32).toInt64 &&& 63))) ||| ((d128.2 : Int32).toInt64 <<< (((8 * 2) : Int32).toInt64 &&& 63))) ||| ((d139.2 : Int32).toInt64 <<< (((8 * 3) : Int32).toInt64 &&& 63)))), (4, .int 3), (0, .ref o0), (1, .int 8)]) dX10_number_24 (by decide) rfl ?_
  refine tt_iinc (j := 1) (v := 4) (ks := [0, 1, 2, 3]) (L' := [(4, .int 4), (2, .long ((((0 ||| ((d106.2 : Int32).toInt64 <<< (((8 * 0) : Int32).toInt64 &&& 63))) ||| ((d117.2 : Int32).toInt64 <<< (((8 * 1) : Int32).toInt64 &&& 63))) ||| ((d128.2 : Int32).toInt64 <<< (((8 * 2) : Int32).toInt64 &&& 63))) ||| ((d139.2 : Int32).toInt64 <<< (((8 * 3) : Int32).toInt64 &&& 63)))), (0, .ref o0), (1, .int 8)]) dX10_number_25 rfl rfl (by decide) rfl ?_
  refine tt_goto (tgt := 5) dX10_number_28 rfl ?_
  refine tt_iload (j := 0) dX10_number_5 rfl ?_
  refine tt_iload_n (j := 3) dX10_number_7 rfl ?_
  refine tt_icmp_ge (tgt := 31) dX10_number_8 rfl (fun q => absurd q (by decide)) (fun _ => ?_)
  refine tt_lload_n (j := 1) dX10_number_11 rfl ?_
  refine tt_aload_n (j := 2) dX10_number_12 rfl ?_
  refine gt_VI (As := []) dX10_number_13 ca_X10_87 ⟨by decide, by decide⟩ h0 hA137 rfl (Nat.le_of_ble_eq_true rfl) (Nat.le_of_ble_eq_true rfl) (by decide) (ce_X10_next hG135 (oa_af h0 hA137) (br_af hb h0 hA137) (fun _ _ _ _ h => h)) rfl (fun _ h => nomatch h) (fun S145 x154 h155 hx149 hG146 hB147 hA148 => ?_)
  obtain ⟨d150, hd151⟩ : ∃ q, F_X10_next bs n d139.1  = q := ⟨_, rfl⟩
  have hq152 := (congrArg (fun q => F_X10_next bs n q ) (stR_mk (sR_654 hs142) (sR_655 hs142) (sR_656 hs142) (sR_657 hs142) (sR_658 hs142) (sR_659 hs142) (sR_661 hs142) (sR_662 hs142) (sR_672 hs142) (sR_673 hs142) (sR_674 hs142) (sR_675 hs142) (sR_660 hs142))).trans hd151
  have hs153 := hx149.2.trans (congrArg Prod.fst hq152)
  obtain rfl : x154 = d150.2 := (xiR_v hx149).trans (congrArg Prod.snd hq152)
  refine tt_i2l dX10_number_16 ?_
  refine tt_bipush (v := 8) dX10_number_17 rfl ?_
  refine tt_iload (j := 0) dX10_number_19 rfl ?_
  refine tt_imul dX10_number_21 ?_
  refine tt_lshl dX10_number_22 ?_
  refine tt_lor dX10_number_23 ?_
  refine tt_lstore_n (ks := [0, 1, 2, 3]) (L' := [(2, .long (((((0 ||| ((d106.2 : Int32).toInt64 <<< (((8 * 0) : Int32).toInt64 &&& 63))) ||| ((d117.2 : Int32).toInt64 <<< (((8 * 1) : Int32).toInt64 &&& 63))) ||| ((d128.2 : Int32).toInt64 <<< (((8 * 2) : Int32).toInt64 &&& 63))) ||| ((d139.2 : Int32).toInt64 <<< (((8 * 3) : Int32).toInt64 &&& 63))) ||| ((d150.2 : Int32).toInt64 <<< (((8 * 4) : Int32).toInt64 &&& 63)))), (4, .int 4), (0, .ref o0), (1, .int 8)]) dX10_number_24 (by decide) rfl ?_
  refine tt_iinc (j := 1) (v := 5) (ks := [0, 1, 2, 3]) (L' := [(4, .int 5), (2, .long (((((0 ||| ((d106.2 : Int32).toInt64 <<< (((8 * 0) : Int32).toInt64 &&& 63))) ||| ((d117.2 : Int32).toInt64 <<< (((8 * 1) : Int32).toInt64 &&& 63))) ||| ((d128.2 : Int32).toInt64 <<< (((8 * 2) : Int32).toInt64 &&& 63))) ||| ((d139.2 : Int32).toInt64 <<< (((8 * 3) : Int32).toInt64 &&& 63))) ||| ((d150.2 : Int32).toInt64 <<< (((8 * 4) : Int32).toInt64 &&& 63)))), (0, .ref o0), (1, .int 8)]) dX10_number_25 rfl rfl (by decide) rfl ?_
  refine tt_goto (tgt := 5) dX10_number_28 rfl ?_
  refine tt_iload (j := 0) dX10_number_5 rfl ?_
  refine tt_iload_n (j := 3) dX10_number_7 rfl ?_
  refine tt_icmp_ge (tgt := 31) dX10_number_8 rfl (fun q => absurd q (by decide)) (fun _ => ?_)
  refine tt_lload_n (j := 1) dX10_number_11 rfl ?_
  refine tt_aload_n (j := 2) dX10_number_12 rfl ?_
  refine gt_VI (As := []) dX10_number_13 ca_X10_87 ⟨by decide, by decide⟩ h0 hA148 rfl (Nat.le_of_ble_eq_true rfl) (Nat.le_of_ble_eq_true rfl) (by decide) (ce_X10_next hG146 (oa_af h0 hA148) (br_af hb h0 hA148) (fun _ _ _ _ h => h)) rfl (fun _ h => nomatch h) (fun S156 x165 h166 hx160 hG157 hB158 hA159 => ?_)
  obtain ⟨d161, hd162⟩ : ∃ q, F_X10_next bs n d150.1  = q := ⟨_, rfl⟩
  have hq163 := (congrArg (fun q => F_X10_next bs n q ) (stR_mk (sR_654 hs153) (sR_655 hs153) (sR_656 hs153) (sR_657 hs153) (sR_658 hs153) (sR_659 hs153) (sR_661 hs153) (sR_662 hs153) (sR_672 hs153) (sR_673 hs153) (sR_674 hs153) (sR_675 hs153) (sR_660 hs153))).trans hd162
  have hs164 := hx160.2.trans (congrArg Prod.fst hq163)
  obtain rfl : x165 = d161.2 := (xiR_v hx160).trans (congrArg Prod.snd hq163)
  refine tt_i2l dX10_number_16 ?_
  refine tt_bipush (v := 8) dX10_number_17 rfl ?_
  refine tt_iload (j := 0) dX10_number_19 rfl ?_
  refine tt_imul dX10_number_21 ?_
  refine tt_lshl dX10_number_22 ?_
  refine tt_lor dX10_number_23 ?_
  refine tt_lstore_n (ks := [0, 1, 2, 3]) (L' := [(2, .long ((((((0 ||| ((d106.2 : Int32).toInt64 <<< (((8 * 0) : Int32).toInt64 &&& 63))) ||| ((d117.2 : Int32).toInt64 <<< (((8 * 1) : Int32).toInt64 &&& 63))) ||| ((d128.2 : Int32).toInt64 <<< (((8 * 2) : Int32).toInt64 &&& 63))) ||| ((d139.2 : Int32).toInt64 <<< (((8 * 3) : Int32).toInt64 &&& 63))) ||| ((d150.2 : Int32).toInt64 <<< (((8 * 4) : Int32).toInt64 &&& 63))) ||| ((d161.2 : Int32).toInt64 <<< (((8 * 5) : Int32).toInt64 &&& 63)))), (4, .int 5), (0, .ref o0), (1, .int 8)]) dX10_number_24 (by decide) rfl ?_
  refine tt_iinc (j := 1) (v := 6) (ks := [0, 1, 2, 3]) (L' := [(4, .int 6), (2, .long ((((((0 ||| ((d106.2 : Int32).toInt64 <<< (((8 * 0) : Int32).toInt64 &&& 63))) ||| ((d117.2 : Int32).toInt64 <<< (((8 * 1) : Int32).toInt64 &&& 63))) ||| ((d128.2 : Int32).toInt64 <<< (((8 * 2) : Int32).toInt64 &&& 63))) ||| ((d139.2 : Int32).toInt64 <<< (((8 * 3) : Int32).toInt64 &&& 63))) ||| ((d150.2 : Int32).toInt64 <<< (((8 * 4) : Int32).toInt64 &&& 63))) ||| ((d161.2 : Int32).toInt64 <<< (((8 * 5) : Int32).toInt64 &&& 63)))), (0, .ref o0), (1, .int 8)]) dX10_number_25 rfl rfl (by decide) rfl ?_
  refine tt_goto (tgt := 5) dX10_number_28 rfl ?_
  refine tt_iload (j := 0) dX10_number_5 rfl ?_
  refine tt_iload_n (j := 3) dX10_number_7 rfl ?_
  refine tt_icmp_ge (tgt := 31) dX10_number_8 rfl (fun q => absurd q (by decide)) (fun _ => ?_)
  refine tt_lload_n (j := 1) dX10_number_11 rfl ?_
  refine tt_aload_n (j := 2) dX10_number_12 rfl ?_
  refine gt_VI (As := []) dX10_number_13 ca_X10_87 ⟨by decide, by decide⟩ h0 hA159 rfl (Nat.le_of_ble_eq_true rfl) (Nat.le_of_ble_eq_true rfl) (by decide) (ce_X10_next hG157 (oa_af h0 hA159) (br_af hb h0 hA159) (fun _ _ _ _ h => h)) rfl (fun _ h => nomatch h) (fun S167 x176 h177 hx171 hG168 hB169 hA170 => ?_)
  obtain ⟨d172, hd173⟩ : ∃ q, F_X10_next bs n d161.1  = q := ⟨_, rfl⟩
  have hq174 := (congrArg (fun q => F_X10_next bs n q ) (stR_mk (sR_654 hs164) (sR_655 hs164) (sR_656 hs164) (sR_657 hs164) (sR_658 hs164) (sR_659 hs164) (sR_661 hs164) (sR_662 hs164) (sR_672 hs164) (sR_673 hs164) (sR_674 hs164) (sR_675 hs164) (sR_660 hs164))).trans hd173
  have hs175 := hx171.2.trans (congrArg Prod.fst hq174)
  obtain rfl : x176 = d172.2 := (xiR_v hx171).trans (congrArg Prod.snd hq174)
  refine tt_i2l dX10_number_16 ?_
  refine tt_bipush (v := 8) dX10_number_17 rfl ?_
  refine tt_iload (j := 0) dX10_number_19 rfl ?_
  refine tt_imul dX10_number_21 ?_
  refine tt_lshl dX10_number_22 ?_
  refine tt_lor dX10_number_23 ?_
  refine tt_lstore_n (ks := [0, 1, 2, 3]) (L' := [(2, .long (((((((0 ||| ((d106.2 : Int32).toInt64 <<< (((8 * 0) : Int32).toInt64 &&& 63))) ||| ((d117.2 : Int32).toInt64 <<< (((8 * 1) : Int32).toInt64 &&& 63))) ||| ((d128.2 : Int32).toInt64 <<< (((8 * 2) : Int32).toInt64 &&& 63))) ||| ((d139.2 : Int32).toInt64 <<< (((8 * 3) : Int32).toInt64 &&& 63))) ||| ((d150.2 : Int32).toInt64 <<< (((8 * 4) : Int32).toInt64 &&& 63))) ||| ((d161.2 : Int32).toInt64 <<< (((8 * 5) : Int32).toInt64 &&& 63))) ||| ((d172.2 : Int32).toInt64 <<< (((8 * 6) : Int32).toInt64 &&& 63)))), (4, .int 6), (0, .ref o0), (1, .int 8)]) dX10_number_24 (by decide) rfl ?_
  refine tt_iinc (j := 1) (v := 7) (ks := [0, 1, 2, 3]) (L' := [(4, .int 7), (2, .long (((((((0 ||| ((d106.2 : Int32).toInt64 <<< (((8 * 0) : Int32).toInt64 &&& 63))) ||| ((d117.2 : Int32).toInt64 <<< (((8 * 1) : Int32).toInt64 &&& 63))) ||| ((d128.2 : Int32).toInt64 <<< (((8 * 2) : Int32).toInt64 &&& 63))) ||| ((d139.2 : Int32).toInt64 <<< (((8 * 3) : Int32).toInt64 &&& 63))) ||| ((d150.2 : Int32).toInt64 <<< (((8 * 4) : Int32).toInt64 &&& 63))) ||| ((d161.2 : Int32).toInt64 <<< (((8 * 5) : Int32).toInt64 &&& 63))) ||| ((d172.2 : Int32).toInt64 <<< (((8 * 6) : Int32).toInt64 &&& 63)))), (0, .ref o0), (1, .int 8)]) dX10_number_25 rfl rfl (by decide) rfl ?_
  refine tt_goto (tgt := 5) dX10_number_28 rfl ?_
  refine tt_iload (j := 0) dX10_number_5 rfl ?_
  refine tt_iload_n (j := 3) dX10_number_7 rfl ?_
  refine tt_icmp_ge (tgt := 31) dX10_number_8 rfl (fun q => absurd q (by decide)) (fun _ => ?_)
  refine tt_lload_n (j := 1) dX10_number_11 rfl ?_
  refine tt_aload_n (j := 2) dX10_number_12 rfl ?_
  refine gt_VI (As := []) dX10_number_13 ca_X10_87 ⟨by decide, by decide⟩ h0 hA170 rfl (Nat.le_of_ble_eq_true rfl) (Nat.le_of_ble_eq_true rfl) (by decide) (ce_X10_next hG168 (oa_af h0 hA170) (br_af hb h0 hA170) (fun _ _ _ _ h => h)) rfl (fun _ h => nomatch h) (fun S178 x187 h188 hx182 hG179 hB180 hA181 => ?_)
  obtain ⟨d183, hd184⟩ : ∃ q, F_X10_next bs n d172.1  = q := ⟨_, rfl⟩
  have hq185 := (congrArg (fun q => F_X10_next bs n q ) (stR_mk (sR_654 hs175) (sR_655 hs175) (sR_656 hs175) (sR_657 hs175) (sR_658 hs175) (sR_659 hs175) (sR_661 hs175) (sR_662 hs175) (sR_672 hs175) (sR_673 hs175) (sR_674 hs175) (sR_675 hs175) (sR_660 hs175))).trans hd184
  have hs186 := hx182.2.trans (congrArg Prod.fst hq185)
  obtain rfl : x187 = d183.2 := (xiR_v hx182).trans (congrArg Prod.snd hq185)
  refine tt_i2l dX10_number_16 ?_
  refine tt_bipush (v := 8) dX10_number_17 rfl ?_
  refine tt_iload (j := 0) dX10_number_19 rfl ?_
  refine tt_imul dX10_number_21 ?_
  refine tt_lshl dX10_number_22 ?_
  refine tt_lor dX10_number_23 ?_
  refine tt_lstore_n (ks := [0, 1, 2, 3]) (L' := [(2, .long ((((((((0 ||| ((d106.2 : Int32).toInt64 <<< (((8 * 0) : Int32).toInt64 &&& 63))) ||| ((d117.2 : Int32).toInt64 <<< (((8 * 1) : Int32).toInt64 &&& 63))) ||| ((d128.2 : Int32).toInt64 <<< (((8 * 2) : Int32).toInt64 &&& 63))) ||| ((d139.2 : Int32).toInt64 <<< (((8 * 3) : Int32).toInt64 &&& 63))) ||| ((d150.2 : Int32).toInt64 <<< (((8 * 4) : Int32).toInt64 &&& 63))) ||| ((d161.2 : Int32).toInt64 <<< (((8 * 5) : Int32).toInt64 &&& 63))) ||| ((d172.2 : Int32).toInt64 <<< (((8 * 6) : Int32).toInt64 &&& 63))) ||| ((d183.2 : Int32).toInt64 <<< (((8 * 7) : Int32).toInt64 &&& 63)))), (4, .int 7), (0, .ref o0), (1, .int 8)]) dX10_number_24 (by decide) rfl ?_
  refine tt_iinc (j := 1) (v := 8) (ks := [0, 1, 2, 3]) (L' := [(4, .int 8), (2, .long ((((((((0 ||| ((d106.2 : Int32).toInt64 <<< (((8 * 0) : Int32).toInt64 &&& 63))) ||| ((d117.2 : Int32).toInt64 <<< (((8 * 1) : Int32).toInt64 &&& 63))) ||| ((d128.2 : Int32).toInt64 <<< (((8 * 2) : Int32).toInt64 &&& 63))) ||| ((d139.2 : Int32).toInt64 <<< (((8 * 3) : Int32).toInt64 &&& 63))) ||| ((d150.2 : Int32).toInt64 <<< (((8 * 4) : Int32).toInt64 &&& 63))) ||| ((d161.2 : Int32).toInt64 <<< (((8 * 5) : Int32).toInt64 &&& 63))) ||| ((d172.2 : Int32).toInt64 <<< (((8 * 6) : Int32).toInt64 &&& 63))) ||| ((d183.2 : Int32).toInt64 <<< (((8 * 7) : Int32).toInt64 &&& 63)))), (0, .ref o0), (1, .int 8)]) dX10_number_25 rfl rfl (by decide) rfl ?_
  refine tt_goto (tgt := 5) dX10_number_28 rfl ?_
  refine tt_iload (j := 0) dX10_number_5 rfl ?_
  refine tt_iload_n (j := 3) dX10_number_7 rfl ?_
  refine tt_icmp_ge (tgt := 31) dX10_number_8 rfl (fun _ => ?_) (fun q => absurd q (by decide))
  refine tt_bipush (v := 64) dX10_number_31 rfl ?_
  refine tt_bipush (v := 8) dX10_number_33 rfl ?_
  refine tt_iload_n (j := 3) dX10_number_35 rfl ?_
  refine tt_imul dX10_number_36 ?_
  refine tt_isub dX10_number_37 ?_
  refine tt_istore (ks := [0, 1, 2, 3]) (L' := [(4, .int (64 - (8 * 8))), (2, .long ((((((((0 ||| ((d106.2 : Int32).toInt64 <<< (((8 * 0) : Int32).toInt64 &&& 63))) ||| ((d117.2 : Int32).toInt64 <<< (((8 * 1) : Int32).toInt64 &&& 63))) ||| ((d128.2 : Int32).toInt64 <<< (((8 * 2) : Int32).toInt64 &&& 63))) ||| ((d139.2 : Int32).toInt64 <<< (((8 * 3) : Int32).toInt64 &&& 63))) ||| ((d150.2 : Int32).toInt64 <<< (((8 * 4) : Int32).toInt64 &&& 63))) ||| ((d161.2 : Int32).toInt64 <<< (((8 * 5) : Int32).toInt64 &&& 63))) ||| ((d172.2 : Int32).toInt64 <<< (((8 * 6) : Int32).toInt64 &&& 63))) ||| ((d183.2 : Int32).toInt64 <<< (((8 * 7) : Int32).toInt64 &&& 63)))), (0, .ref o0), (1, .int 8)]) dX10_number_38 (by decide) rfl ?_
  refine tt_lload_n (j := 1) dX10_number_40 rfl ?_
  refine tt_iload (j := 0) dX10_number_41 rfl ?_
  refine tt_lshl dX10_number_43 ?_
  refine tt_iload (j := 0) dX10_number_44 rfl ?_
  refine tt_lshr dX10_number_46 ?_
  have hF : F_X10_number_8 bs n (StR S o0)  = (d183.1, ((((((((((0 ||| ((d106.2 : Int32).toInt64 <<< (((8 * 0) : Int32).toInt64 &&& 63))) ||| ((d117.2 : Int32).toInt64 <<< (((8 * 1) : Int32).toInt64 &&& 63))) ||| ((d128.2 : Int32).toInt64 <<< (((8 * 2) : Int32).toInt64 &&& 63))) ||| ((d139.2 : Int32).toInt64 <<< (((8 * 3) : Int32).toInt64 &&& 63))) ||| ((d150.2 : Int32).toInt64 <<< (((8 * 4) : Int32).toInt64 &&& 63))) ||| ((d161.2 : Int32).toInt64 <<< (((8 * 5) : Int32).toInt64 &&& 63))) ||| ((d172.2 : Int32).toInt64 <<< (((8 * 6) : Int32).toInt64 &&& 63))) ||| ((d183.2 : Int32).toInt64 <<< (((8 * 7) : Int32).toInt64 &&& 63))) <<< (((64 - (8 * 8)) : Int32).toInt64 &&& 63)) >>> (((64 - (8 * 8)) : Int32).toInt64 &&& 63))) := by
    subst hd184
    subst hd173
    subst hd162
    subst hd151
    subst hd140
    subst hd129
    subst hd118
    subst hd107
    rfl
  exact tt_lreturn dX10_number_47 rfl (hP _ _ _ _ ⟨hG179, hA181, Or.inl ⟨_, rfl, ⟨_, rfl⟩, xjR_mk hF (stR_mk (sR_654 hs186) (sR_655 hs186) (sR_656 hs186) (sR_657 hs186) (sR_658 hs186) (sR_659 hs186) (sR_661 hs186) (sR_662 hs186) (sR_672 hs186) (sR_673 hs186) (sR_674 hs186) (sR_675 hs186) (sR_660 hs186)), rfl, rfl⟩⟩)
def F_X10_readPlaces_p156 (bs : Nat → Int32) (n : Int32) (d : DD) (x3 : Int32) : DD :=
  ((e0 d), (e1 d), (e2 d), (e3 d), (e4 d), (e5 d), (e6 d), (e7 d), (e8 d), (15 + (x3 / 8)), (e10 d), (e11 d), (eJ d))
theorem q_X10_readPlaces_p156_0 {bs : Nat → Int32} {n : Int32} {d : DD} {x3 : Int32}  : F_X10_readPlaces_p156 bs n d x3 = ((e0 d), (e1 d), (e2 d), (e3 d), (e4 d), (e5 d), (e6 d), (e7 d), (e8 d), (15 + (x3 / 8)), (e10 d), (e11 d), (eJ d)) := rfl
set_option maxHeartbeats 40000000 in
theorem ce_X10_readPlaces_p156 {xi : SX} {S : Hp} {E : List Nat} {kc nc : Nat} {P : Po} {o0 : Nat} {x3 : Int32} {bs : Nat → Int32} {n : Int32} (hG : GI S E) (h0 : Oa S E 10 0 o0) (hb : BR S E o0 bs n) (hP : ∀ r T x y, PV E [673, 9998] S kc nc rV (fun v T => StR T o0 = F_X10_readPlaces_p156 bs n (StR S o0) x3) [] r T x y → P r T x y) : TT xi M_X10_readPlaces 156 [(0, .ref o0), (3, .int x3)] [] S kc nc P := by
  have hA : Af E [673, 9998] S S := af_rf
  refine tt_aload_n (j := 0) dX10_readPlaces_156 rfl ?_
  refine tt_bipush (v := 15) dX10_readPlaces_157 rfl ?_
  refine tt_iload_n (j := 1) dX10_readPlaces_159 rfl ?_
  refine tt_bipush (v := 8) dX10_readPlaces_160 rfl ?_
  refine tt_idiv dX10_readPlaces_162 (by decide) ?_
  refine tt_iadd dX10_readPlaces_163 ?_
  refine gt_pI (id := 673) (x := (15 + (x3 / 8))) dX10_readPlaces_164 fl_10_100 rfl rfl h0 hA rfl rfl rfl (gp_I hG) (by decide) (fun h => absurd h (by decide)) (fun h => absurd h (by decide)) (fun S101 hG102 hA103 e104 f105 er106 => ?_)
  refine tt_goto (tgt := 175) dX10_readPlaces_167 rfl ?_
  have hF : F_X10_readPlaces_p156 bs n (StR S o0) x3 = ((e0 (StR S o0)), (e1 (StR S o0)), (e2 (StR S o0)), (e3 (StR S o0)), (e4 (StR S o0)), (e5 (StR S o0)), (e6 (StR S o0)), (e7 (StR S o0)), (e8 (StR S o0)), (15 + (x3 / 8)), (e10 (StR S o0)), (e11 (StR S o0)), (eJ (StR S o0))) := by
    rfl
  exact tt_vreturn dX10_readPlaces_175 rfl (hP _ _ _ _ ⟨hG102, hA103, Or.inl ⟨_, rfl, rfl, Eq.trans (stR_mk ((congrFun (congrFun e104 654) o0).trans ((congrFun (up2_ne (k := 654)) o0).trans (sR_654 (T := S) (o := o0) rfl))) ((congrFun (congrFun e104 655) o0).trans ((congrFun (up2_ne (k := 655)) o0).trans (sR_655 (T := S) (o := o0) rfl))) ((congrFun (congrFun e104 656) o0).trans ((congrFun (up2_ne (k := 656)) o0).trans (sR_656 (T := S) (o := o0) rfl))) ((congrFun (congrFun e104 657) o0).trans ((congrFun (up2_ne (k := 657)) o0).trans (sR_657 (T := S) (o := o0) rfl))) ((congrFun (congrFun e104 658) o0).trans ((congrFun (up2_ne (k := 658)) o0).trans (sR_658 (T := S) (o := o0) rfl))) ((congrFun (congrFun e104 659) o0).trans ((congrFun (up2_ne (k := 659)) o0).trans (sR_659 (T := S) (o := o0) rfl))) ((congrFun (congrFun e104 661) o0).trans ((congrFun (up2_ne (k := 661)) o0).trans (sR_661 (T := S) (o := o0) rfl))) ((congrFun (congrFun e104 662) o0).trans ((congrFun (up2_ne (k := 662)) o0).trans (sR_662 (T := S) (o := o0) rfl))) ((congrFun (congrFun e104 672) o0).trans ((congrFun (up2_ne (k := 672)) o0).trans (sR_672 (T := S) (o := o0) rfl))) (by rw [e104]; exact up2_self) ((congrFun (congrFun e104 674) o0).trans ((congrFun (up2_ne (k := 674)) o0).trans (sR_674 (T := S) (o := o0) rfl))) ((congrFun (congrFun e104 675) o0).trans ((congrFun (up2_ne (k := 675)) o0).trans (sR_675 (T := S) (o := o0) rfl))) ((congrFun (congrFun f105 660) o0).trans (sR_660 (T := S) (o := o0) rfl))) hF.symm, rfl, rfl⟩⟩)
def F_X10_readPlaces_p44 (bs : Nat → Int32) (n : Int32) (d : DD) (x1 : Int32) (x2 : Int32) : DD :=
  if (e11 d) = 3 then
    if (x1 &&& 1) = 0 then
      ((e0 d), (e1 d), (e2 d), (e3 d), (e4 d), (e5 d), (e6 d), (e7 d), (e8 d), ((x2 &&& 7) + 0), (e10 d), (e11 d), (eJ d))
    else
      ((e0 d), (e1 d), (e2 d), (e3 d), (e4 d), (e5 d), (e6 d), (e7 d), (e8 d), ((x2 &&& 7) + 8), (e10 d), (e11 d), (eJ d))
  else
    if (e11 d) = 1 then
      if (x2 &&& 7) = 5 then
        if (x1 &&& 1) = 0 then
          if (x1 &&& 8) = 0 then
            ((e0 d), (e1 d), (e2 d), (e3 d), (e4 d), (e5 d), (e6 d), 1, (e8 d), (x2 &&& 7), (e10 d), (e11 d), (eJ d))
          else
            let d147 := F_X10_number_1 bs n ((e0 d), (e1 d), (e2 d), (e3 d), (e4 d), (e5 d), (e6 d), (e7 d), (e8 d), (x2 &&& 7), (e10 d), (e11 d), (eJ d)) 
            if (e7 d147.1) = 0 then
              if (-(d147.2 : Int64).toInt32) < 8 then
                F_X10_readPlaces_p156 bs n ((e0 d147.1), (e1 d147.1), (e2 d147.1), (e3 d147.1), (e4 d147.1), (e5 d147.1), (e6 d147.1), 1, (e8 d147.1), (e9 d147.1), (e10 d147.1), (e11 d147.1), (eJ d147.1)) ((-(d147.2 : Int64).toInt32))
              else
                if 64 < (-(d147.2 : Int64).toInt32) then
                  F_X10_readPlaces_p156 bs n ((e0 d147.1), (e1 d147.1), (e2 d147.1), (e3 d147.1), (e4 d147.1), (e5 d147.1), (e6 d147.1), 1, (e8 d147.1), (e9 d147.1), (e10 d147.1), (e11 d147.1), (eJ d147.1)) ((-(d147.2 : Int64).toInt32))
                else
                  if ((-(d147.2 : Int64).toInt32) - (-(d147.2 : Int64).toInt32) / 8 * 8) = 0 then
                    F_X10_readPlaces_p156 bs n ((e0 d147.1), (e1 d147.1), (e2 d147.1), (e3 d147.1), (e4 d147.1), (e5 d147.1), (e6 d147.1), 0, (e8 d147.1), (e9 d147.1), (e10 d147.1), (e11 d147.1), (eJ d147.1)) ((-(d147.2 : Int64).toInt32))
                  else
                    F_X10_readPlaces_p156 bs n ((e0 d147.1), (e1 d147.1), (e2 d147.1), (e3 d147.1), (e4 d147.1), (e5 d147.1), (e6 d147.1), 1, (e8 d147.1), (e9 d147.1), (e10 d147.1), (e11 d147.1), (eJ d147.1)) ((-(d147.2 : Int64).toInt32))
            else
              F_X10_readPlaces_p156 bs n ((e0 d147.1), (e1 d147.1), (e2 d147.1), (e3 d147.1), (e4 d147.1), (e5 d147.1), (e6 d147.1), 1, (e8 d147.1), (e9 d147.1), (e10 d147.1), (e11 d147.1), (eJ d147.1)) ((-(d147.2 : Int64).toInt32))
        else
          ((e0 d), (e1 d), (e2 d), (e3 d), (e4 d), (e5 d), (e6 d), 1, (e8 d), (x2 &&& 7), (e10 d), (e11 d), (eJ d))
      else
        ((e0 d), (e1 d), (e2 d), (e3 d), (e4 d), (e5 d), (e6 d), 1, (e8 d), (x2 &&& 7), (e10 d), (e11 d), (eJ d))
    else
      ((e0 d), (e1 d), (e2 d), (e3 d), (e4 d), (e5 d), (e6 d), 1, (e8 d), (x2 &&& 7), (e10 d), (e11 d), (eJ d))
theorem q_X10_readPlaces_p44_0 {bs : Nat → Int32} {n : Int32} {d : DD} {x1 : Int32} {x2 : Int32} (h0 : (e11 d) = 3) (h1 : (x1 &&& 1) = 0) : F_X10_readPlaces_p44 bs n d x1 x2 = ((e0 d), (e1 d), (e2 d), (e3 d), (e4 d), (e5 d), (e6 d), (e7 d), (e8 d), ((x2 &&& 7) + 0), (e10 d), (e11 d), (eJ d)) := by unfold F_X10_readPlaces_p44; exact Eq.trans (if_pos h0) (if_pos h1)
theorem q_X10_readPlaces_p44_1 {bs : Nat → Int32} {n : Int32} {d : DD} {x1 : Int32} {x2 : Int32} (h0 : (e11 d) = 3) (h1 : ¬ (x1 &&& 1) = 0) : F_X10_readPlaces_p44 bs n d x1 x2 = ((e0 d), (e1 d), (e2 d), (e3 d), (e4 d), (e5 d), (e6 d), (e7 d), (e8 d), ((x2 &&& 7) + 8), (e10 d), (e11 d), (eJ d)) := by unfold F_X10_readPlaces_p44; exact Eq.trans (if_pos h0) (if_neg h1)
theorem q_X10_readPlaces_p44_2 {bs : Nat → Int32} {n : Int32} {d : DD} {x1 : Int32} {x2 : Int32} (h0 : ¬ (e11 d) = 3) (h1 : (e11 d) = 1) (h2 : (x2 &&& 7) = 5) (h3 : (x1 &&& 1) = 0) (h4 : (x1 &&& 8) = 0) : F_X10_readPlaces_p44 bs n d x1 x2 = ((e0 d), (e1 d), (e2 d), (e3 d), (e4 d), (e5 d), (e6 d), 1, (e8 d), (x2 &&& 7), (e10 d), (e11 d), (eJ d)) := by unfold F_X10_readPlaces_p44; exact Eq.trans (if_neg h0) (Eq.trans (if_pos h1) (Eq.trans (if_pos h2) (Eq.trans (if_pos h3) (if_pos h4))))
theorem q_X10_readPlaces_p44_3 {bs : Nat → Int32} {n : Int32} {d : DD} {x1 : Int32} {x2 : Int32} (h0 : ¬ (e11 d) = 3) (h1 : (e11 d) = 1) (h2 : (x2 &&& 7) = 5) (h3 : (x1 &&& 1) = 0) (h4 : ¬ (x1 &&& 8) = 0) (h5 : (e7 (F_X10_number_1 bs n ((e0 d), (e1 d), (e2 d), (e3 d), (e4 d), (e5 d), (e6 d), (e7 d), (e8 d), (x2 &&& 7), (e10 d), (e11 d), (eJ d))).1) = 0) (h6 : (-((F_X10_number_1 bs n ((e0 d), (e1 d), (e2 d), (e3 d), (e4 d), (e5 d), (e6 d), (e7 d), (e8 d), (x2 &&& 7), (e10 d), (e11 d), (eJ d))).2 : Int64).toInt32) < 8) : F_X10_readPlaces_p44 bs n d x1 x2 = F_X10_readPlaces_p156 bs n ((e0 (F_X10_number_1 bs n ((e0 d), (e1 d), (e2 d), (e3 d), (e4 d), (e5 d), (e6 d), (e7 d), (e8 d), (x2 &&& 7), (e10 d), (e11 d), (eJ d))).1), (e1 (F_X10_number_1 bs n ((e0 d), (e1 d), (e2 d), (e3 d), (e4 d), (e5 d), (e6 d), (e7 d), (e8 d), (x2 &&& 7), (e10 d), (e11 d), (eJ d))).1), (e2 (F_X10_number_1 bs n ((e0 d), (e1 d), (e2 d), (e3 d), (e4 d), (e5 d), (e6 d), (e7 d), (e8 d), (x2 &&& 7), (e10 d), (e11 d), (eJ d))).1), (e3 (F_X10_number_1 bs n ((e0 d), (e1 d), (e2 d), (e3 d), (e4 d), (e5 d), (e6 d), (e7 d), (e8 d), (x2 &&& 7), (e10 d), (e11 d), (eJ d))).1), (e4 (F_X10_number_1 bs n ((e0 d), (e1 d), (e2 d), (e3 d), (e4 d), (e5 d), (e6 d), (e7 d), (e8 d), (x2 &&& 7), (e10 d), (e11 d), (eJ d))).1), (e5 (F_X10_number_1 bs n ((e0 d), (e1 d), (e2 d), (e3 d), (e4 d), (e5 d), (e6 d), (e7 d), (e8 d), (x2 &&& 7), (e10 d), (e11 d), (eJ d))).1), (e6 (F_X10_number_1 bs n ((e0 d), (e1 d), (e2 d), (e3 d), (e4 d), (e5 d), (e6 d), (e7 d), (e8 d), (x2 &&& 7), (e10 d), (e11 d), (eJ d))).1), 1, (e8 (F_X10_number_1 bs n ((e0 d), (e1 d), (e2 d), (e3 d), (e4 d), (e5 d), (e6 d), (e7 d), (e8 d), (x2 &&& 7), (e10 d), (e11 d), (eJ d))).1), (e9 (F_X10_number_1 bs n ((e0 d), (e1 d), (e2 d), (e3 d), (e4 d), (e5 d), (e6 d), (e7 d), (e8 d), (x2 &&& 7), (e10 d), (e11 d), (eJ d))).1), (e10 (F_X10_number_1 bs n ((e0 d), (e1 d), (e2 d), (e3 d), (e4 d), (e5 d), (e6 d), (e7 d), (e8 d), (x2 &&& 7), (e10 d), (e11 d), (eJ d))).1), (e11 (F_X10_number_1 bs n ((e0 d), (e1 d), (e2 d), (e3 d), (e4 d), (e5 d), (e6 d), (e7 d), (e8 d), (x2 &&& 7), (e10 d), (e11 d), (eJ d))).1), (eJ (F_X10_number_1 bs n ((e0 d), (e1 d), (e2 d), (e3 d), (e4 d), (e5 d), (e6 d), (e7 d), (e8 d), (x2 &&& 7), (e10 d), (e11 d), (eJ d))).1)) ((-((F_X10_number_1 bs n ((e0 d), (e1 d), (e2 d), (e3 d), (e4 d), (e5 d), (e6 d), (e7 d), (e8 d), (x2 &&& 7), (e10 d), (e11 d), (eJ d))).2 : Int64).toInt32)) := by unfold F_X10_readPlaces_p44; exact Eq.trans (if_neg h0) (Eq.trans (if_pos h1) (Eq.trans (if_pos h2) (Eq.trans (if_pos h3) (Eq.trans (if_neg h4) (Eq.trans (if_pos h5) (if_pos h6))))))
theorem q_X10_readPlaces_p44_4 {bs : Nat → Int32} {n : Int32} {d : DD} {x1 : Int32} {x2 : Int32} (h0 : ¬ (e11 d) = 3) (h1 : (e11 d) = 1) (h2 : (x2 &&& 7) = 5) (h3 : (x1 &&& 1) = 0) (h4 : ¬ (x1 &&& 8) = 0) (h5 : (e7 (F_X10_number_1 bs n ((e0 d), (e1 d), (e2 d), (e3 d), (e4 d), (e5 d), (e6 d), (e7 d), (e8 d), (x2 &&& 7), (e10 d), (e11 d), (eJ d))).1) = 0) (h6 : ¬ (-((F_X10_number_1 bs n ((e0 d), (e1 d), (e2 d), (e3 d), (e4 d), (e5 d), (e6 d), (e7 d), (e8 d), (x2 &&& 7), (e10 d), (e11 d), (eJ d))).2 : Int64).toInt32) < 8) (h7 : 64 < (-((F_X10_number_1 bs n ((e0 d), (e1 d), (e2 d), (e3 d), (e4 d), (e5 d), (e6 d), (e7 d), (e8 d), (x2 &&& 7), (e10 d), (e11 d), (eJ d))).2 : Int64).toInt32)) : F_X10_readPlaces_p44 bs n d x1 x2 = F_X10_readPlaces_p156 bs n ((e0 (F_X10_number_1 bs n ((e0 d), (e1 d), (e2 d), (e3 d), (e4 d), (e5 d), (e6 d), (e7 d), (e8 d), (x2 &&& 7), (e10 d), (e11 d), (eJ d))).1), (e1 (F_X10_number_1 bs n ((e0 d), (e1 d), (e2 d), (e3 d), (e4 d), (e5 d), (e6 d), (e7 d), (e8 d), (x2 &&& 7), (e10 d), (e11 d), (eJ d))).1), (e2 (F_X10_number_1 bs n ((e0 d), (e1 d), (e2 d), (e3 d), (e4 d), (e5 d), (e6 d), (e7 d), (e8 d), (x2 &&& 7), (e10 d), (e11 d), (eJ d))).1), (e3 (F_X10_number_1 bs n ((e0 d), (e1 d), (e2 d), (e3 d), (e4 d), (e5 d), (e6 d), (e7 d), (e8 d), (x2 &&& 7), (e10 d), (e11 d), (eJ d))).1), (e4 (F_X10_number_1 bs n ((e0 d), (e1 d), (e2 d), (e3 d), (e4 d), (e5 d), (e6 d), (e7 d), (e8 d), (x2 &&& 7), (e10 d), (e11 d), (eJ d))).1), (e5 (F_X10_number_1 bs n ((e0 d), (e1 d), (e2 d), (e3 d), (e4 d), (e5 d), (e6 d), (e7 d), (e8 d), (x2 &&& 7), (e10 d), (e11 d), (eJ d))).1), (e6 (F_X10_number_1 bs n ((e0 d), (e1 d), (e2 d), (e3 d), (e4 d), (e5 d), (e6 d), (e7 d), (e8 d), (x2 &&& 7), (e10 d), (e11 d), (eJ d))).1), 1, (e8 (F_X10_number_1 bs n ((e0 d), (e1 d), (e2 d), (e3 d), (e4 d), (e5 d), (e6 d), (e7 d), (e8 d), (x2 &&& 7), (e10 d), (e11 d), (eJ d))).1), (e9 (F_X10_number_1 bs n ((e0 d), (e1 d), (e2 d), (e3 d), (e4 d), (e5 d), (e6 d), (e7 d), (e8 d), (x2 &&& 7), (e10 d), (e11 d), (eJ d))).1), (e10 (F_X10_number_1 bs n ((e0 d), (e1 d), (e2 d), (e3 d), (e4 d), (e5 d), (e6 d), (e7 d), (e8 d), (x2 &&& 7), (e10 d), (e11 d), (eJ d))).1), (e11 (F_X10_number_1 bs n ((e0 d), (e1 d), (e2 d), (e3 d), (e4 d), (e5 d), (e6 d), (e7 d), (e8 d), (x2 &&& 7), (e10 d), (e11 d), (eJ d))).1), (eJ (F_X10_number_1 bs n ((e0 d), (e1 d), (e2 d), (e3 d), (e4 d), (e5 d), (e6 d), (e7 d), (e8 d), (x2 &&& 7), (e10 d), (e11 d), (eJ d))).1)) ((-((F_X10_number_1 bs n ((e0 d), (e1 d), (e2 d), (e3 d), (e4 d), (e5 d), (e6 d), (e7 d), (e8 d), (x2 &&& 7), (e10 d), (e11 d), (eJ d))).2 : Int64).toInt32)) := by unfold F_X10_readPlaces_p44; exact Eq.trans (if_neg h0) (Eq.trans (if_pos h1) (Eq.trans (if_pos h2) (Eq.trans (if_pos h3) (Eq.trans (if_neg h4) (Eq.trans (if_pos h5) (Eq.trans (if_neg h6) (if_pos h7)))))))
theorem q_X10_readPlaces_p44_5 {bs : Nat → Int32} {n : Int32} {d : DD} {x1 : Int32} {x2 : Int32} (h0 : ¬ (e11 d) = 3) (h1 : (e11 d) = 1) (h2 : (x2 &&& 7) = 5) (h3 : (x1 &&& 1) = 0) (h4 : ¬ (x1 &&& 8) = 0) (h5 : (e7 (F_X10_number_1 bs n ((e0 d), (e1 d), (e2 d), (e3 d), (e4 d), (e5 d), (e6 d), (e7 d), (e8 d), (x2 &&& 7), (e10 d), (e11 d), (eJ d))).1) = 0) (h6 : ¬ (-((F_X10_number_1 bs n ((e0 d), (e1 d), (e2 d), (e3 d), (e4 d), (e5 d), (e6 d), (e7 d), (e8 d), (x2 &&& 7), (e10 d), (e11 d), (eJ d))).2 : Int64).toInt32) < 8) (h7 : ¬ 64 < (-((F_X10_number_1 bs n ((e0 d), (e1 d), (e2 d), (e3 d), (e4 d), (e5 d), (e6 d), (e7 d), (e8 d), (x2 &&& 7), (e10 d), (e11 d), (eJ d))).2 : Int64).toInt32)) (h8 : ((-((F_X10_number_1 bs n ((e0 d), (e1 d), (e2 d), (e3 d), (e4 d), (e5 d), (e6 d), (e7 d), (e8 d), (x2 &&& 7), (e10 d), (e11 d), (eJ d))).2 : Int64).toInt32) - (-((F_X10_number_1 bs n ((e0 d), (e1 d), (e2 d), (e3 d), (e4 d), (e5 d), (e6 d), (e7 d), (e8 d), (x2 &&& 7), (e10 d), (e11 d), (eJ d))).2 : Int64).toInt32) / 8 * 8) = 0) : F_X10_readPlaces_p44 bs n d x1 x2 = F_X10_readPlaces_p156 bs n ((e0 (F_X10_number_1 bs n ((e0 d), (e1 d), (e2 d), (e3 d), (e4 d), (e5 d), (e6 d), (e7 d), (e8 d), (x2 &&& 7), (e10 d), (e11 d), (eJ d))).1), (e1 (F_X10_number_1 bs n ((e0 d), (e1 d), (e2 d), (e3 d), (e4 d), (e5 d), (e6 d), (e7 d), (e8 d), (x2 &&& 7), (e10 d), (e11 d), (eJ d))).1), (e2 (F_X10_number_1 bs n ((e0 d), (e1 d), (e2 d), (e3 d), (e4 d), (e5 d), (e6 d), (e7 d), (e8 d), (x2 &&& 7), (e10 d), (e11 d), (eJ d))).1), (e3 (F_X10_number_1 bs n ((e0 d), (e1 d), (e2 d), (e3 d), (e4 d), (e5 d), (e6 d), (e7 d), (e8 d), (x2 &&& 7), (e10 d), (e11 d), (eJ d))).1), (e4 (F_X10_number_1 bs n ((e0 d), (e1 d), (e2 d), (e3 d), (e4 d), (e5 d), (e6 d), (e7 d), (e8 d), (x2 &&& 7), (e10 d), (e11 d), (eJ d))).1), (e5 (F_X10_number_1 bs n ((e0 d), (e1 d), (e2 d), (e3 d), (e4 d), (e5 d), (e6 d), (e7 d), (e8 d), (x2 &&& 7), (e10 d), (e11 d), (eJ d))).1), (e6 (F_X10_number_1 bs n ((e0 d), (e1 d), (e2 d), (e3 d), (e4 d), (e5 d), (e6 d), (e7 d), (e8 d), (x2 &&& 7), (e10 d), (e11 d), (eJ d))).1), 0, (e8 (F_X10_number_1 bs n ((e0 d), (e1 d), (e2 d), (e3 d), (e4 d), (e5 d), (e6 d), (e7 d), (e8 d), (x2 &&& 7), (e10 d), (e11 d), (eJ d))).1), (e9 (F_X10_number_1 bs n ((e0 d), (e1 d), (e2 d), (e3 d), (e4 d), (e5 d), (e6 d), (e7 d), (e8 d), (x2 &&& 7), (e10 d), (e11 d), (eJ d))).1), (e10 (F_X10_number_1 bs n ((e0 d), (e1 d), (e2 d), (e3 d), (e4 d), (e5 d), (e6 d), (e7 d), (e8 d), (x2 &&& 7), (e10 d), (e11 d), (eJ d))).1), (e11 (F_X10_number_1 bs n ((e0 d), (e1 d), (e2 d), (e3 d), (e4 d), (e5 d), (e6 d), (e7 d), (e8 d), (x2 &&& 7), (e10 d), (e11 d), (eJ d))).1), (eJ (F_X10_number_1 bs n ((e0 d), (e1 d), (e2 d), (e3 d), (e4 d), (e5 d), (e6 d), (e7 d), (e8 d), (x2 &&& 7), (e10 d), (e11 d), (eJ d))).1)) ((-((F_X10_number_1 bs n ((e0 d), (e1 d), (e2 d), (e3 d), (e4 d), (e5 d), (e6 d), (e7 d), (e8 d), (x2 &&& 7), (e10 d), (e11 d), (eJ d))).2 : Int64).toInt32)) := by unfold F_X10_readPlaces_p44; exact Eq.trans (if_neg h0) (Eq.trans (if_pos h1) (Eq.trans (if_pos h2) (Eq.trans (if_pos h3) (Eq.trans (if_neg h4) (Eq.trans (if_pos h5) (Eq.trans (if_neg h6) (Eq.trans (if_neg h7) (if_pos h8))))))))
theorem q_X10_readPlaces_p44_6 {bs : Nat → Int32} {n : Int32} {d : DD} {x1 : Int32} {x2 : Int32} (h0 : ¬ (e11 d) = 3) (h1 : (e11 d) = 1) (h2 : (x2 &&& 7) = 5) (h3 : (x1 &&& 1) = 0) (h4 : ¬ (x1 &&& 8) = 0) (h5 : (e7 (F_X10_number_1 bs n ((e0 d), (e1 d), (e2 d), (e3 d), (e4 d), (e5 d), (e6 d), (e7 d), (e8 d), (x2 &&& 7), (e10 d), (e11 d), (eJ d))).1) = 0) (h6 : ¬ (-((F_X10_number_1 bs n ((e0 d), (e1 d), (e2 d), (e3 d), (e4 d), (e5 d), (e6 d), (e7 d), (e8 d), (x2 &&& 7), (e10 d), (e11 d), (eJ d))).2 : Int64).toInt32) < 8) (h7 : ¬ 64 < (-((F_X10_number_1 bs n ((e0 d), (e1 d), (e2 d), (e3 d), (e4 d), (e5 d), (e6 d), (e7 d), (e8 d), (x2 &&& 7), (e10 d), (e11 d), (eJ d))).2 : Int64).toInt32)) (h8 : ¬ ((-((F_X10_number_1 bs n ((e0 d), (e1 d), (e2 d), (e3 d), (e4 d), (e5 d), (e6 d), (e7 d), (e8 d), (x2 &&& 7), (e10 d), (e11 d), (eJ d))).2 : Int64).toInt32) - (-((F_X10_number_1 bs n ((e0 d), (e1 d), (e2 d), (e3 d), (e4 d), (e5 d), (e6 d), (e7 d), (e8 d), (x2 &&& 7), (e10 d), (e11 d), (eJ d))).2 : Int64).toInt32) / 8 * 8) = 0) : F_X10_readPlaces_p44 bs n d x1 x2 = F_X10_readPlaces_p156 bs n ((e0 (F_X10_number_1 bs n ((e0 d), (e1 d), (e2 d), (e3 d), (e4 d), (e5 d), (e6 d), (e7 d), (e8 d), (x2 &&& 7), (e10 d), (e11 d), (eJ d))).1), (e1 (F_X10_number_1 bs n ((e0 d), (e1 d), (e2 d), (e3 d), (e4 d), (e5 d), (e6 d), (e7 d), (e8 d), (x2 &&& 7), (e10 d), (e11 d), (eJ d))).1), (e2 (F_X10_number_1 bs n ((e0 d), (e1 d), (e2 d), (e3 d), (e4 d), (e5 d), (e6 d), (e7 d), (e8 d), (x2 &&& 7), (e10 d), (e11 d), (eJ d))).1), (e3 (F_X10_number_1 bs n ((e0 d), (e1 d), (e2 d), (e3 d), (e4 d), (e5 d), (e6 d), (e7 d), (e8 d), (x2 &&& 7), (e10 d), (e11 d), (eJ d))).1), (e4 (F_X10_number_1 bs n ((e0 d), (e1 d), (e2 d), (e3 d), (e4 d), (e5 d), (e6 d), (e7 d), (e8 d), (x2 &&& 7), (e10 d), (e11 d), (eJ d))).1), (e5 (F_X10_number_1 bs n ((e0 d), (e1 d), (e2 d), (e3 d), (e4 d), (e5 d), (e6 d), (e7 d), (e8 d), (x2 &&& 7), (e10 d), (e11 d), (eJ d))).1), (e6 (F_X10_number_1 bs n ((e0 d), (e1 d), (e2 d), (e3 d), (e4 d), (e5 d), (e6 d), (e7 d), (e8 d), (x2 &&& 7), (e10 d), (e11 d), (eJ d))).1), 1, (e8 (F_X10_number_1 bs n ((e0 d), (e1 d), (e2 d), (e3 d), (e4 d), (e5 d), (e6 d), (e7 d), (e8 d), (x2 &&& 7), (e10 d), (e11 d), (eJ d))).1), (e9 (F_X10_number_1 bs n ((e0 d), (e1 d), (e2 d), (e3 d), (e4 d), (e5 d), (e6 d), (e7 d), (e8 d), (x2 &&& 7), (e10 d), (e11 d), (eJ d))).1), (e10 (F_X10_number_1 bs n ((e0 d), (e1 d), (e2 d), (e3 d), (e4 d), (e5 d), (e6 d), (e7 d), (e8 d), (x2 &&& 7), (e10 d), (e11 d), (eJ d))).1), (e11 (F_X10_number_1 bs n ((e0 d), (e1 d), (e2 d), (e3 d), (e4 d), (e5 d), (e6 d), (e7 d), (e8 d), (x2 &&& 7), (e10 d), (e11 d), (eJ d))).1), (eJ (F_X10_number_1 bs n ((e0 d), (e1 d), (e2 d), (e3 d), (e4 d), (e5 d), (e6 d), (e7 d), (e8 d), (x2 &&& 7), (e10 d), (e11 d), (eJ d))).1)) ((-((F_X10_number_1 bs n ((e0 d), (e1 d), (e2 d), (e3 d), (e4 d), (e5 d), (e6 d), (e7 d), (e8 d), (x2 &&& 7), (e10 d), (e11 d), (eJ d))).2 : Int64).toInt32)) := by unfold F_X10_readPlaces_p44; exact Eq.trans (if_neg h0) (Eq.trans (if_pos h1) (Eq.trans (if_pos h2) (Eq.trans (if_pos h3) (Eq.trans (if_neg h4) (Eq.trans (if_pos h5) (Eq.trans (if_neg h6) (Eq.trans (if_neg h7) (if_neg h8))))))))
theorem q_X10_readPlaces_p44_7 {bs : Nat → Int32} {n : Int32} {d : DD} {x1 : Int32} {x2 : Int32} (h0 : ¬ (e11 d) = 3) (h1 : (e11 d) = 1) (h2 : (x2 &&& 7) = 5) (h3 : (x1 &&& 1) = 0) (h4 : ¬ (x1 &&& 8) = 0) (h5 : ¬ (e7 (F_X10_number_1 bs n ((e0 d), (e1 d), (e2 d), (e3 d), (e4 d), (e5 d), (e6 d), (e7 d), (e8 d), (x2 &&& 7), (e10 d), (e11 d), (eJ d))).1) = 0) : F_X10_readPlaces_p44 bs n d x1 x2 = F_X10_readPlaces_p156 bs n ((e0 (F_X10_number_1 bs n ((e0 d), (e1 d), (e2 d), (e3 d), (e4 d), (e5 d), (e6 d), (e7 d), (e8 d), (x2 &&& 7), (e10 d), (e11 d), (eJ d))).1), (e1 (F_X10_number_1 bs n ((e0 d), (e1 d), (e2 d), (e3 d), (e4 d), (e5 d), (e6 d), (e7 d), (e8 d), (x2 &&& 7), (e10 d), (e11 d), (eJ d))).1), (e2 (F_X10_number_1 bs n ((e0 d), (e1 d), (e2 d), (e3 d), (e4 d), (e5 d), (e6 d), (e7 d), (e8 d), (x2 &&& 7), (e10 d), (e11 d), (eJ d))).1), (e3 (F_X10_number_1 bs n ((e0 d), (e1 d), (e2 d), (e3 d), (e4 d), (e5 d), (e6 d), (e7 d), (e8 d), (x2 &&& 7), (e10 d), (e11 d), (eJ d))).1), (e4 (F_X10_number_1 bs n ((e0 d), (e1 d), (e2 d), (e3 d), (e4 d), (e5 d), (e6 d), (e7 d), (e8 d), (x2 &&& 7), (e10 d), (e11 d), (eJ d))).1), (e5 (F_X10_number_1 bs n ((e0 d), (e1 d), (e2 d), (e3 d), (e4 d), (e5 d), (e6 d), (e7 d), (e8 d), (x2 &&& 7), (e10 d), (e11 d), (eJ d))).1), (e6 (F_X10_number_1 bs n ((e0 d), (e1 d), (e2 d), (e3 d), (e4 d), (e5 d), (e6 d), (e7 d), (e8 d), (x2 &&& 7), (e10 d), (e11 d), (eJ d))).1), 1, (e8 (F_X10_number_1 bs n ((e0 d), (e1 d), (e2 d), (e3 d), (e4 d), (e5 d), (e6 d), (e7 d), (e8 d), (x2 &&& 7), (e10 d), (e11 d), (eJ d))).1), (e9 (F_X10_number_1 bs n ((e0 d), (e1 d), (e2 d), (e3 d), (e4 d), (e5 d), (e6 d), (e7 d), (e8 d), (x2 &&& 7), (e10 d), (e11 d), (eJ d))).1), (e10 (F_X10_number_1 bs n ((e0 d), (e1 d), (e2 d), (e3 d), (e4 d), (e5 d), (e6 d), (e7 d), (e8 d), (x2 &&& 7), (e10 d), (e11 d), (eJ d))).1), (e11 (F_X10_number_1 bs n ((e0 d), (e1 d), (e2 d), (e3 d), (e4 d), (e5 d), (e6 d), (e7 d), (e8 d), (x2 &&& 7), (e10 d), (e11 d), (eJ d))).1), (eJ (F_X10_number_1 bs n ((e0 d), (e1 d), (e2 d), (e3 d), (e4 d), (e5 d), (e6 d), (e7 d), (e8 d), (x2 &&& 7), (e10 d), (e11 d), (eJ d))).1)) ((-((F_X10_number_1 bs n ((e0 d), (e1 d), (e2 d), (e3 d), (e4 d), (e5 d), (e6 d), (e7 d), (e8 d), (x2 &&& 7), (e10 d), (e11 d), (eJ d))).2 : Int64).toInt32)) := by unfold F_X10_readPlaces_p44; exact Eq.trans (if_neg h0) (Eq.trans (if_pos h1) (Eq.trans (if_pos h2) (Eq.trans (if_pos h3) (Eq.trans (if_neg h4) (if_neg h5)))))
theorem q_X10_readPlaces_p44_8 {bs : Nat → Int32} {n : Int32} {d : DD} {x1 : Int32} {x2 : Int32} (h0 : ¬ (e11 d) = 3) (h1 : (e11 d) = 1) (h2 : (x2 &&& 7) = 5) (h3 : ¬ (x1 &&& 1) = 0) : F_X10_readPlaces_p44 bs n d x1 x2 = ((e0 d), (e1 d), (e2 d), (e3 d), (e4 d), (e5 d), (e6 d), 1, (e8 d), (x2 &&& 7), (e10 d), (e11 d), (eJ d)) := by unfold F_X10_readPlaces_p44; exact Eq.trans (if_neg h0) (Eq.trans (if_pos h1) (Eq.trans (if_pos h2) (if_neg h3)))
theorem q_X10_readPlaces_p44_9 {bs : Nat → Int32} {n : Int32} {d : DD} {x1 : Int32} {x2 : Int32} (h0 : ¬ (e11 d) = 3) (h1 : (e11 d) = 1) (h2 : ¬ (x2 &&& 7) = 5) : F_X10_readPlaces_p44 bs n d x1 x2 = ((e0 d), (e1 d), (e2 d), (e3 d), (e4 d), (e5 d), (e6 d), 1, (e8 d), (x2 &&& 7), (e10 d), (e11 d), (eJ d)) := by unfold F_X10_readPlaces_p44; exact Eq.trans (if_neg h0) (Eq.trans (if_pos h1) (if_neg h2))
theorem q_X10_readPlaces_p44_10 {bs : Nat → Int32} {n : Int32} {d : DD} {x1 : Int32} {x2 : Int32} (h0 : ¬ (e11 d) = 3) (h1 : ¬ (e11 d) = 1) : F_X10_readPlaces_p44 bs n d x1 x2 = ((e0 d), (e1 d), (e2 d), (e3 d), (e4 d), (e5 d), (e6 d), 1, (e8 d), (x2 &&& 7), (e10 d), (e11 d), (eJ d)) := by unfold F_X10_readPlaces_p44; exact Eq.trans (if_neg h0) (if_neg h1)
set_option maxHeartbeats 40000000 in
theorem ce_X10_readPlaces_p44 {xi : SX} {S : Hp} {E : List Nat} {kc nc : Nat} {P : Po} {o0 : Nat} {x1 : Int32} {x2 : Int32} {bs : Nat → Int32} {n : Int32} (hG : GI S E) (h0 : Oa S E 10 0 o0) (hb : BR S E o0 bs n) (hP : ∀ r T x y, PV E [654, 662, 673, 9998] S kc nc rV (fun v T => StR T o0 = F_X10_readPlaces_p44 bs n (StR S o0) x1 x2) [] r T x y → P r T x y) : TT xi M_X10_readPlaces 44 [(0, .ref o0), (1, .int x1), (2, .int x2)] [] S kc nc P := by
  have hA : Af E [654, 662, 673, 9998] S S := af_rf
  refine tt_aload_n (j := 0) dX10_readPlaces_44 rfl ?_
  refine tt_iload_n (j := 2) dX10_readPlaces_45 rfl ?_
  refine tt_bipush (v := 7) dX10_readPlaces_46 rfl ?_
  refine tt_iand dX10_readPlaces_48 ?_
  refine gt_pI (id := 673) (x := (x2 &&& 7)) dX10_readPlaces_49 fl_10_100 rfl rfl h0 hA rfl rfl rfl (gp_I hG) (by decide) (fun h => absurd h (by decide)) (fun h => absurd h (by decide)) (fun S101 hG102 hA103 e104 f105 er106 => ?_)
  refine tt_aload_n (j := 0) dX10_readPlaces_52 rfl ?_
  refine gt_gI (id := 675) (v := (e11 (StR S o0))) dX10_readPlaces_53 fl_10_91 rfl rfl h0 hA103 ((congrFun (congrFun e104 675) o0).trans ((congrFun (up2_ne (k := 675)) o0).trans (sR_675 (T := S) (o := o0) rfl))) ?_
  refine tt_iconst (v := 3) dX10_readPlaces_56 rfl ?_
  refine tt_icmp_ne (tgt := 84) dX10_readPlaces_57 rfl (fun q107 => ?_) (fun q107 => ?_)
  · skip
    refine tt_aload_n (j := 0) dX10_readPlaces_84 rfl ?_
    refine gt_gI (id := 675) (v := (e11 (StR S o0))) dX10_readPlaces_85 fl_10_91 rfl rfl h0 hA103 ((congrFun (congrFun e104 675) o0).trans ((congrFun (up2_ne (k := 675)) o0).trans (sR_675 (T := S) (o := o0) rfl))) ?_
    refine tt_iconst (v := 1) dX10_readPlaces_88 rfl ?_
    refine tt_icmp_ne (tgt := 170) dX10_readPlaces_89 rfl (fun q108 => ?_) (fun q108 => ?_)
    · skip
      refine tt_aload_n (j := 0) dX10_readPlaces_170 rfl ?_
      refine tt_iconst (v := 1) dX10_readPlaces_171 rfl ?_
      refine gt_pI (id := 662) (x := 1) dX10_readPlaces_172 fl_10_84 rfl rfl h0 hA103 rfl rfl rfl (gp_Ir hG102 (⟨by decide, by decide⟩ : Rg 1 1 1)) (by decide) (fun _ h => absurd (by decide) h) (fun h => absurd h (by decide)) (fun S109 hG110 hA111 e112 f113 er114 => ?_)
      have hF : F_X10_readPlaces_p44 bs n (StR S o0) x1 x2 = ((e0 (StR S o0)), (e1 (StR S o0)), (e2 (StR S o0)), (e3 (StR S o0)), (e4 (StR S o0)), (e5 (StR S o0)), (e6 (StR S o0)), 1, (e8 (StR S o0)), (x2 &&& 7), (e10 (StR S o0)), (e11 (StR S o0)), (eJ (StR S o0))) := by
        exact q_X10_readPlaces_p44_10 q107 q108
      exact tt_vreturn dX10_readPlaces_175 rfl (hP _ _ _ _ ⟨hG110, hA111, Or.inl ⟨_, rfl, rfl, Eq.trans (stR_mk ((congrFun (congrFun e112 654) o0).trans ((congrFun (up2_ne (k := 654)) o0).trans ((congrFun (congrFun e104 654) o0).trans ((congrFun (up2_ne (k := 654)) o0).trans (sR_654 (T := S) (o := o0) rfl))))) ((congrFun (congrFun e112 655) o0).trans ((congrFun (up2_ne (k := 655)) o0).trans ((congrFun (congrFun e104 655) o0).trans ((congrFun (up2_ne (k := 655)) o0).trans (sR_655 (T := S) (o := o0) rfl))))) ((congrFun (congrFun e112 656) o0).trans ((congrFun (up2_ne (k := 656)) o0).trans ((congrFun (congrFun e104 656) o0).trans ((congrFun (up2_ne (k := 656)) o0).trans (sR_656 (T := S) (o := o0) rfl))))) ((congrFun (congrFun e112 657) o0).trans ((congrFun (up2_ne (k := 657)) o0).trans ((congrFun (congrFun e104 657) o0).trans ((congrFun (up2_ne (k := 657)) o0).trans (sR_657 (T := S) (o := o0) rfl))))) ((congrFun (congrFun e112 658) o0).trans ((congrFun (up2_ne (k := 658)) o0).trans ((congrFun (congrFun e104 658) o0).trans ((congrFun (up2_ne (k := 658)) o0).trans (sR_658 (T := S) (o := o0) rfl))))) ((congrFun (congrFun e112 659) o0).trans ((congrFun (up2_ne (k := 659)) o0).trans ((congrFun (congrFun e104 659) o0).trans ((congrFun (up2_ne (k := 659)) o0).trans (sR_659 (T := S) (o := o0) rfl))))) ((congrFun (congrFun e112 661) o0).trans ((congrFun (up2_ne (k := 661)) o0).trans ((congrFun (congrFun e104 661) o0).trans ((congrFun (up2_ne (k := 661)) o0).trans (sR_661 (T := S) (o := o0) rfl))))) (by rw [e112]; exact up2_self) ((congrFun (congrFun e112 672) o0).trans ((congrFun (up2_ne (k := 672)) o0).trans ((congrFun (congrFun e104 672) o0).trans ((congrFun (up2_ne (k := 672)) o0).trans (sR_672 (T := S) (o := o0) rfl))))) ((congrFun (congrFun e112 673) o0).trans ((congrFun (up2_ne (k := 673)) o0).trans (by rw [e104]; exact up2_self))) ((congrFun (congrFun e112 674) o0).trans ((congrFun (up2_ne (k := 674)) o0).trans ((congrFun (congrFun e104 674) o0).trans ((congrFun (up2_ne (k := 674)) o0).trans (sR_674 (T := S) (o := o0) rfl))))) ((congrFun (congrFun e112 675) o0).trans ((congrFun (up2_ne (k := 675)) o0).trans ((congrFun (congrFun e104 675) o0).trans ((congrFun (up2_ne (k := 675)) o0).trans (sR_675 (T := S) (o := o0) rfl))))) ((congrFun (congrFun f113 660) o0).trans ((congrFun (congrFun f105 660) o0).trans (sR_660 (T := S) (o := o0) rfl)))) hF.symm, rfl, rfl⟩⟩)
    · skip
      have h115 : Rg 1 1 (e11 (StR S o0)) := rg_eq_l (rg_all (e11 (StR S o0))) (⟨by decide, by decide⟩ : Rg 1 1 1) q108
      refine tt_aload_n (j := 0) dX10_readPlaces_92 rfl ?_
      refine gt_gI (id := 673) (v := (x2 &&& 7)) dX10_readPlaces_93 fl_10_100 rfl rfl h0 hA103 (by rw [e104]; exact up2_self) ?_
      refine tt_iconst (v := 5) dX10_readPlaces_96 rfl ?_
      refine tt_icmp_ne (tgt := 170) dX10_readPlaces_97 rfl (fun q116 => ?_) (fun q116 => ?_)
      · skip
        refine tt_aload_n (j := 0) dX10_readPlaces_170 rfl ?_
        refine tt_iconst (v := 1) dX10_readPlaces_171 rfl ?_
        refine gt_pI (id := 662) (x := 1) dX10_readPlaces_172 fl_10_84 rfl rfl h0 hA103 rfl rfl rfl (gp_Ir hG102 (⟨by decide, by decide⟩ : Rg 1 1 1)) (by decide) (fun _ h => absurd (by decide) h) (fun h => absurd h (by decide)) (fun S117 hG118 hA119 e120 f121 er122 => ?_)
        have hF : F_X10_readPlaces_p44 bs n (StR S o0) x1 x2 = ((e0 (StR S o0)), (e1 (StR S o0)), (e2 (StR S o0)), (e3 (StR S o0)), (e4 (StR S o0)), (e5 (StR S o0)), (e6 (StR S o0)), 1, (e8 (StR S o0)), (x2 &&& 7), (e10 (StR S o0)), (e11 (StR S o0)), (eJ (StR S o0))) := by
          exact q_X10_readPlaces_p44_9 q107 q108 q116
        exact tt_vreturn dX10_readPlaces_175 rfl (hP _ _ _ _ ⟨hG118, hA119, Or.inl ⟨_, rfl, rfl, Eq.trans (stR_mk ((congrFun (congrFun e120 654) o0).trans ((congrFun (up2_ne (k := 654)) o0).trans ((congrFun (congrFun e104 654) o0).trans ((congrFun (up2_ne (k := 654)) o0).trans (sR_654 (T := S) (o := o0) rfl))))) ((congrFun (congrFun e120 655) o0).trans ((congrFun (up2_ne (k := 655)) o0).trans ((congrFun (congrFun e104 655) o0).trans ((congrFun (up2_ne (k := 655)) o0).trans (sR_655 (T := S) (o := o0) rfl))))) ((congrFun (congrFun e120 656) o0).trans ((congrFun (up2_ne (k := 656)) o0).trans ((congrFun (congrFun e104 656) o0).trans ((congrFun (up2_ne (k := 656)) o0).trans (sR_656 (T := S) (o := o0) rfl))))) ((congrFun (congrFun e120 657) o0).trans ((congrFun (up2_ne (k := 657)) o0).trans ((congrFun (congrFun e104 657) o0).trans ((congrFun (up2_ne (k := 657)) o0).trans (sR_657 (T := S) (o := o0) rfl))))) ((congrFun (congrFun e120 658) o0).trans ((congrFun (up2_ne (k := 658)) o0).trans ((congrFun (congrFun e104 658) o0).trans ((congrFun (up2_ne (k := 658)) o0).trans (sR_658 (T := S) (o := o0) rfl))))) ((congrFun (congrFun e120 659) o0).trans ((congrFun (up2_ne (k := 659)) o0).trans ((congrFun (congrFun e104 659) o0).trans ((congrFun (up2_ne (k := 659)) o0).trans (sR_659 (T := S) (o := o0) rfl))))) ((congrFun (congrFun e120 661) o0).trans ((congrFun (up2_ne (k := 661)) o0).trans ((congrFun (congrFun e104 661) o0).trans ((congrFun (up2_ne (k := 661)) o0).trans (sR_661 (T := S) (o := o0) rfl))))) (by rw [e120]; exact up2_self) ((congrFun (congrFun e120 672) o0).trans ((congrFun (up2_ne (k := 672)) o0).trans ((congrFun (congrFun e104 672) o0).trans ((congrFun (up2_ne (k := 672)) o0).trans (sR_672 (T := S) (o := o0) rfl))))) ((congrFun (congrFun e120 673) o0).trans ((congrFun (up2_ne (k := 673)) o0).trans (by rw [e104]; exact up2_self))) ((congrFun (congrFun e120 674) o0).trans ((congrFun (up2_ne (k := 674)) o0).trans ((congrFun (congrFun e104 674) o0).trans ((congrFun (up2_ne (k := 674)) o0).trans (sR_674 (T := S) (o := o0) rfl))))) ((congrFun (congrFun e120 675) o0).trans ((congrFun (up2_ne (k := 675)) o0).trans ((congrFun (congrFun e104 675) o0).trans ((congrFun (up2_ne (k := 675)) o0).trans (sR_675 (T := S) (o := o0) rfl))))) ((congrFun (congrFun f121 660) o0).trans ((congrFun (congrFun f105 660) o0).trans (sR_660 (T := S) (o := o0) rfl)))) hF.symm, rfl, rfl⟩⟩)
      · skip
        have h123 : Rg 5 5 (x2 &&& 7) := rg_eq_l (rg_and (x := x2) (⟨by decide, by decide⟩ : Rg 7 7 7)) (⟨by decide, by decide⟩ : Rg 5 5 5) q116
        refine tt_iload_n (j := 1) dX10_readPlaces_100 rfl ?_
        refine tt_iconst (v := 1) dX10_readPlaces_101 rfl ?_
        refine tt_iand dX10_readPlaces_102 ?_
        refine tt_if_ne (tgt := 170) dX10_readPlaces_103 rfl (fun q124 => ?_) (fun q124 => ?_)
        · skip
          have h125 : Rg 1 1 (x1 &&& 1) := rg_ne_lo (rg_and (x := x1) (⟨by decide, by decide⟩ : Rg 1 1 1)) (⟨by decide, by decide⟩ : Rg 0 0 0) q124
          refine tt_aload_n (j := 0) dX10_readPlaces_170 rfl ?_
          refine tt_iconst (v := 1) dX10_readPlaces_171 rfl ?_
          refine gt_pI (id := 662) (x := 1) dX10_readPlaces_172 fl_10_84 rfl rfl h0 hA103 rfl rfl rfl (gp_Ir hG102 (⟨by decide, by decide⟩ : Rg 1 1 1)) (by decide) (fun _ h => absurd (by decide) h) (fun h => absurd h (by decide)) (fun S126 hG127 hA128 e129 f130 er131 => ?_)
          have hF : F_X10_readPlaces_p44 bs n (StR S o0) x1 x2 = ((e0 (StR S o0)), (e1 (StR S o0)), (e2 (StR S o0)), (e3 (StR S o0)), (e4 (StR S o0)), (e5 (StR S o0)), (e6 (StR S o0)), 1, (e8 (StR S o0)), (x2 &&& 7), (e10 (StR S o0)), (e11 (StR S o0)), (eJ (StR S o0))) := by
            exact q_X10_readPlaces_p44_8 q107 q108 q116 q124
          exact tt_vreturn dX10_readPlaces_175 rfl (hP _ _ _ _ ⟨hG127, hA128, Or.inl ⟨_, rfl, rfl, Eq.trans (stR_mk ((congrFun (congrFun e129 654) o0).trans ((congrFun (up2_ne (k := 654)) o0).trans ((congrFun (congrFun e104 654) o0).trans ((congrFun (up2_ne (k := 654)) o0).trans (sR_654 (T := S) (o := o0) rfl))))) ((congrFun (congrFun e129 655) o0).trans ((congrFun (up2_ne (k := 655)) o0).trans ((congrFun (congrFun e104 655) o0).trans ((congrFun (up2_ne (k := 655)) o0).trans (sR_655 (T := S) (o := o0) rfl))))) ((congrFun (congrFun e129 656) o0).trans ((congrFun (up2_ne (k := 656)) o0).trans ((congrFun (congrFun e104 656) o0).trans ((congrFun (up2_ne (k := 656)) o0).trans (sR_656 (T := S) (o := o0) rfl))))) ((congrFun (congrFun e129 657) o0).trans ((congrFun (up2_ne (k := 657)) o0).trans ((congrFun (congrFun e104 657) o0).trans ((congrFun (up2_ne (k := 657)) o0).trans (sR_657 (T := S) (o := o0) rfl))))) ((congrFun (congrFun e129 658) o0).trans ((congrFun (up2_ne (k := 658)) o0).trans ((congrFun (congrFun e104 658) o0).trans ((congrFun (up2_ne (k := 658)) o0).trans (sR_658 (T := S) (o := o0) rfl))))) ((congrFun (congrFun e129 659) o0).trans ((congrFun (up2_ne (k := 659)) o0).trans ((congrFun (congrFun e104 659) o0).trans ((congrFun (up2_ne (k := 659)) o0).trans (sR_659 (T := S) (o := o0) rfl))))) ((congrFun (congrFun e129 661) o0).trans ((congrFun (up2_ne (k := 661)) o0).trans ((congrFun (congrFun e104 661) o0).trans ((congrFun (up2_ne (k := 661)) o0).trans (sR_661 (T := S) (o := o0) rfl))))) (by rw [e129]; exact up2_self) ((congrFun (congrFun e129 672) o0).trans ((congrFun (up2_ne (k := 672)) o0).trans ((congrFun (congrFun e104 672) o0).trans ((congrFun (up2_ne (k := 672)) o0).trans (sR_672 (T := S) (o := o0) rfl))))) ((congrFun (congrFun e129 673) o0).trans ((congrFun (up2_ne (k := 673)) o0).trans (by rw [e104]; exact up2_self))) ((congrFun (congrFun e129 674) o0).trans ((congrFun (up2_ne (k := 674)) o0).trans ((congrFun (congrFun e104 674) o0).trans ((congrFun (up2_ne (k := 674)) o0).trans (sR_674 (T := S) (o := o0) rfl))))) ((congrFun (congrFun e129 675) o0).trans ((congrFun (up2_ne (k := 675)) o0).trans ((congrFun (congrFun e104 675) o0).trans ((congrFun (up2_ne (k := 675)) o0).trans (sR_675 (T := S) (o := o0) rfl))))) ((congrFun (congrFun f130 660) o0).trans ((congrFun (congrFun f105 660) o0).trans (sR_660 (T := S) (o := o0) rfl)))) hF.symm, rfl, rfl⟩⟩)
        · skip
          have h132 : Rg 0 0 (x1 &&& 1) := rg_eq_l (rg_and (x := x1) (⟨by decide, by decide⟩ : Rg 1 1 1)) (⟨by decide, by decide⟩ : Rg 0 0 0) q124
          refine tt_iload_n (j := 1) dX10_readPlaces_106 rfl ?_
          refine tt_bipush (v := 8) dX10_readPlaces_107 rfl ?_
          refine tt_iand dX10_readPlaces_109 ?_
          refine tt_if_eq (tgt := 170) dX10_readPlaces_110 rfl (fun q133 => ?_) (fun q133 => ?_)
          · skip
            have h134 : Rg 0 0 (x1 &&& 8) := rg_eq_l (rg_and (x := x1) (⟨by decide, by decide⟩ : Rg 8 8 8)) (⟨by decide, by decide⟩ : Rg 0 0 0) q133
            refine tt_aload_n (j := 0) dX10_readPlaces_170 rfl ?_
            refine tt_iconst (v := 1) dX10_readPlaces_171 rfl ?_
            refine gt_pI (id := 662) (x := 1) dX10_readPlaces_172 fl_10_84 rfl rfl h0 hA103 rfl rfl rfl (gp_Ir hG102 (⟨by decide, by decide⟩ : Rg 1 1 1)) (by decide) (fun _ h => absurd (by decide) h) (fun h => absurd h (by decide)) (fun S135 hG136 hA137 e138 f139 er140 => ?_)
            have hF : F_X10_readPlaces_p44 bs n (StR S o0) x1 x2 = ((e0 (StR S o0)), (e1 (StR S o0)), (e2 (StR S o0)), (e3 (StR S o0)), (e4 (StR S o0)), (e5 (StR S o0)), (e6 (StR S o0)), 1, (e8 (StR S o0)), (x2 &&& 7), (e10 (StR S o0)), (e11 (StR S o0)), (eJ (StR S o0))) := by
              exact q_X10_readPlaces_p44_2 q107 q108 q116 q124 q133
            exact tt_vreturn dX10_readPlaces_175 rfl (hP _ _ _ _ ⟨hG136, hA137, Or.inl ⟨_, rfl, rfl, Eq.trans (stR_mk ((congrFun (congrFun e138 654) o0).trans ((congrFun (up2_ne (k := 654)) o0).trans ((congrFun (congrFun e104 654) o0).trans ((congrFun (up2_ne (k := 654)) o0).trans (sR_654 (T := S) (o := o0) rfl))))) ((congrFun (congrFun e138 655) o0).trans ((congrFun (up2_ne (k := 655)) o0).trans ((congrFun (congrFun e104 655) o0).trans ((congrFun (up2_ne (k := 655)) o0).trans (sR_655 (T := S) (o := o0) rfl))))) ((congrFun (congrFun e138 656) o0).trans ((congrFun (up2_ne (k := 656)) o0).trans ((congrFun (congrFun e104 656) o0).trans ((congrFun (up2_ne (k := 656)) o0).trans (sR_656 (T := S) (o := o0) rfl))))) ((congrFun (congrFun e138 657) o0).trans ((congrFun (up2_ne (k := 657)) o0).trans ((congrFun (congrFun e104 657) o0).trans ((congrFun (up2_ne (k := 657)) o0).trans (sR_657 (T := S) (o := o0) rfl))))) ((congrFun (congrFun e138 658) o0).trans ((congrFun (up2_ne (k := 658)) o0).trans ((congrFun (congrFun e104 658) o0).trans ((congrFun (up2_ne (k := 658)) o0).trans (sR_658 (T := S) (o := o0) rfl))))) ((congrFun (congrFun e138 659) o0).trans ((congrFun (up2_ne (k := 659)) o0).trans ((congrFun (congrFun e104 659) o0).trans ((congrFun (up2_ne (k := 659)) o0).trans (sR_659 (T := S) (o := o0) rfl))))) ((congrFun (congrFun e138 661) o0).trans ((congrFun (up2_ne (k := 661)) o0).trans ((congrFun (congrFun e104 661) o0).trans ((congrFun (up2_ne (k := 661)) o0).trans (sR_661 (T := S) (o := o0) rfl))))) (by rw [e138]; exact up2_self) ((congrFun (congrFun e138 672) o0).trans ((congrFun (up2_ne (k := 672)) o0).trans ((congrFun (congrFun e104 672) o0).trans ((congrFun (up2_ne (k := 672)) o0).trans (sR_672 (T := S) (o := o0) rfl))))) ((congrFun (congrFun e138 673) o0).trans ((congrFun (up2_ne (k := 673)) o0).trans (by rw [e104]; exact up2_self))) ((congrFun (congrFun e138 674) o0).trans ((congrFun (up2_ne (k := 674)) o0).trans ((congrFun (congrFun e104 674) o0).trans ((congrFun (up2_ne (k := 674)) o0).trans (sR_674 (T := S) (o := o0) rfl))))) ((congrFun (congrFun e138 675) o0).trans ((congrFun (up2_ne (k := 675)) o0).trans ((congrFun (congrFun e104 675) o0).trans ((congrFun (up2_ne (k := 675)) o0).trans (sR_675 (T := S) (o := o0) rfl))))) ((congrFun (congrFun f139 660) o0).trans ((congrFun (congrFun f105 660) o0).trans (sR_660 (T := S) (o := o0) rfl)))) hF.symm, rfl, rfl⟩⟩)
          · skip
            have h141 : Rg 1 8 (x1 &&& 8) := rg_ne_lo (rg_and (x := x1) (⟨by decide, by decide⟩ : Rg 8 8 8)) (⟨by decide, by decide⟩ : Rg 0 0 0) q133
            refine tt_aload_n (j := 0) dX10_readPlaces_113 rfl ?_
            refine tt_iconst (v := 1) dX10_readPlaces_114 rfl ?_
            refine gt_VJ (As := [.int 1]) dX10_readPlaces_115 ca_X10_103 ⟨by decide, by decide⟩ h0 hA103 rfl (Nat.le_of_ble_eq_true rfl) (Nat.le_of_ble_eq_true rfl) (by decide) (ce_X10_number_1 hG102 (oa_af h0 hA103) (br_af hb h0 hA103) (fun _ _ _ _ h => h)) rfl (fun _ h => nomatch h) (fun S142 y151 hx146 hG143 hB144 hA145 => ?_)
            obtain ⟨d147, hd148⟩ : ∃ q, F_X10_number_1 bs n ((e0 (StR S o0)), (e1 (StR S o0)), (e2 (StR S o0)), (e3 (StR S o0)), (e4 (StR S o0)), (e5 (StR S o0)), (e6 (StR S o0)), (e7 (StR S o0)), (e8 (StR S o0)), (x2 &&& 7), (e10 (StR S o0)), (e11 (StR S o0)), (eJ (StR S o0)))  = q := ⟨_, rfl⟩
            have hq149 := (congrArg (fun q => F_X10_number_1 bs n q ) (stR_mk ((congrFun (congrFun e104 654) o0).trans ((congrFun (up2_ne (k := 654)) o0).trans (sR_654 (T := S) (o := o0) rfl))) ((congrFun (congrFun e104 655) o0).trans ((congrFun (up2_ne (k := 655)) o0).trans (sR_655 (T := S) (o := o0) rfl))) ((congrFun (congrFun e104 656) o0).trans ((congrFun (up2_ne (k := 656)) o0).trans (sR_656 (T := S) (o := o0) rfl))) ((congrFun (congrFun e104 657) o0).trans ((congrFun (up2_ne (k := 657)) o0).trans (sR_657 (T := S) (o := o0) rfl))) ((congrFun (congrFun e104 658) o0).trans ((congrFun (up2_ne (k := 658)) o0).trans (sR_658 (T := S) (o := o0) rfl))) ((congrFun (congrFun e104 659) o0).trans ((congrFun (up2_ne (k := 659)) o0).trans (sR_659 (T := S) (o := o0) rfl))) ((congrFun (congrFun e104 661) o0).trans ((congrFun (up2_ne (k := 661)) o0).trans (sR_661 (T := S) (o := o0) rfl))) ((congrFun (congrFun e104 662) o0).trans ((congrFun (up2_ne (k := 662)) o0).trans (sR_662 (T := S) (o := o0) rfl))) ((congrFun (congrFun e104 672) o0).trans ((congrFun (up2_ne (k := 672)) o0).trans (sR_672 (T := S) (o := o0) rfl))) (by rw [e104]; exact up2_self) ((congrFun (congrFun e104 674) o0).trans ((congrFun (up2_ne (k := 674)) o0).trans (sR_674 (T := S) (o := o0) rfl))) ((congrFun (congrFun e104 675) o0).trans ((congrFun (up2_ne (k := 675)) o0).trans (sR_675 (T := S) (o := o0) rfl))) ((congrFun (congrFun f105 660) o0).trans (sR_660 (T := S) (o := o0) rfl)))).trans hd148
            have hs150 := hx146.2.trans (congrArg Prod.fst hq149)
            obtain rfl : y151 = d147.2 := (xjR_v hx146).trans (congrArg Prod.snd hq149)
            refine tt_l2i dX10_readPlaces_118 ?_
            refine tt_ineg dX10_readPlaces_119 ?_
            refine tt_istore_n (ks := [0, 1, 2, 3]) (L' := [(3, .int (-(d147.2 : Int64).toInt32)), (0, .ref o0), (1, .int x1), (2, .int x2)]) dX10_readPlaces_120 (by decide) rfl ?_
            refine tt_aload_n (j := 1) dX10_readPlaces_121 rfl ?_
            refine tt_aload_n (j := 1) dX10_readPlaces_122 rfl ?_
            refine gt_gI (id := 662) (v := (e7 d147.1)) dX10_readPlaces_123 fl_10_84 rfl rfl h0 hA145 (sR_662 hs150) ?_
            refine tt_if_ne (tgt := 148) dX10_readPlaces_126 rfl (fun q152 => ?_) (fun q152 => ?_)
            · skip
              refine tt_iconst (v := 1) dX10_readPlaces_148 rfl ?_
              refine tt_goto (tgt := 153) dX10_readPlaces_149 rfl ?_
              refine gt_pI (id := 662) (x := 1) dX10_readPlaces_153 fl_10_84 rfl rfl h0 hA145 rfl rfl rfl (gp_Ir hG143 (⟨by decide, by decide⟩ : Rg 1 1 1)) (by decide) (fun _ h => absurd (by decide) h) (fun h => absurd h (by decide)) (fun S153 hG154 hA155 e156 f157 er158 => ?_)
              have hF : F_X10_readPlaces_p44 bs n (StR S o0) x1 x2 = F_X10_readPlaces_p156 bs n ((e0 d147.1), (e1 d147.1), (e2 d147.1), (e3 d147.1), (e4 d147.1), (e5 d147.1), (e6 d147.1), 1, (e8 d147.1), (e9 d147.1), (e10 d147.1), (e11 d147.1), (eJ d147.1)) ((-(d147.2 : Int64).toInt32)) := by
                subst hd148
                exact q_X10_readPlaces_p44_7 q107 q108 q116 q124 q133 q152
              exact tt_loc (ks := [1, 0]) rfl (ce_X10_readPlaces_p156 hG154 (oa_af h0 hA155) (br_af hb h0 hA155) (fun r T x y h => hP r T x y (pv_tr hA155 h (by decide) (fun v T e => e.trans ((congrArg (fun q => F_X10_readPlaces_p156 bs n q ((-(d147.2 : Int64).toInt32))) (stR_mk ((congrFun (congrFun e156 654) o0).trans ((congrFun (up2_ne (k := 654)) o0).trans (sR_654 hs150))) ((congrFun (congrFun e156 655) o0).trans ((congrFun (up2_ne (k := 655)) o0).trans (sR_655 hs150))) ((congrFun (congrFun e156 656) o0).trans ((congrFun (up2_ne (k := 656)) o0).trans (sR_656 hs150))) ((congrFun (congrFun e156 657) o0).trans ((congrFun (up2_ne (k := 657)) o0).trans (sR_657 hs150))) ((congrFun (congrFun e156 658) o0).trans ((congrFun (up2_ne (k := 658)) o0).trans (sR_658 hs150))) ((congrFun (congrFun e156 659) o0).trans ((congrFun (up2_ne (k := 659)) o0).trans (sR_659 hs150))) ((congrFun (congrFun e156 661) o0).trans ((congrFun (up2_ne (k := 661)) o0).trans (sR_661 hs150))) (by rw [e156]; exact up2_self) ((congrFun (congrFun e156 672) o0).trans ((congrFun (up2_ne (k := 672)) o0).trans (sR_672 hs150))) ((congrFun (congrFun e156 673) o0).trans ((congrFun (up2_ne (k := 673)) o0).trans (sR_673 hs150))) ((congrFun (congrFun e156 674) o0).trans ((congrFun (up2_ne (k := 674)) o0).trans (sR_674 hs150))) ((congrFun (congrFun e156 675) o0).trans ((congrFun (up2_ne (k := 675)) o0).trans (sR_675 hs150))) ((congrFun (congrFun f157 660) o0).trans (sR_660 hs150)))).trans hF.symm)))))
            · skip
              have h159 : Rg 0 0 (e7 d147.1) := rg_eq_l (rg_all (e7 d147.1)) (⟨by decide, by decide⟩ : Rg 0 0 0) q152
              refine tt_iload_n (j := 0) dX10_readPlaces_129 rfl ?_
              refine tt_bipush (v := 8) dX10_readPlaces_130 rfl ?_
              refine tt_icmp_lt (tgt := 148) dX10_readPlaces_132 rfl (fun q160 => ?_) (fun q160 => ?_)
              · skip
                have h161 : Rg (-2147483648) 7 (-(d147.2 : Int64).toInt32) := rg_lt_l (rg_all (-(d147.2 : Int64).toInt32)) (⟨by decide, by decide⟩ : Rg 8 8 8) q160
                refine tt_iconst (v := 1) dX10_readPlaces_148 rfl ?_
                refine tt_goto (tgt := 153) dX10_readPlaces_149 rfl ?_
                refine gt_pI (id := 662) (x := 1) dX10_readPlaces_153 fl_10_84 rfl rfl h0 hA145 rfl rfl rfl (gp_Ir hG143 (⟨by decide, by decide⟩ : Rg 1 1 1)) (by decide) (fun _ h => absurd (by decide) h) (fun h => absurd h (by decide)) (fun S162 hG163 hA164 e165 f166 er167 => ?_)
                have hF : F_X10_readPlaces_p44 bs n (StR S o0) x1 x2 = F_X10_readPlaces_p156 bs n ((e0 d147.1), (e1 d147.1), (e2 d147.1), (e3 d147.1), (e4 d147.1), (e5 d147.1), (e6 d147.1), 1, (e8 d147.1), (e9 d147.1), (e10 d147.1), (e11 d147.1), (eJ d147.1)) ((-(d147.2 : Int64).toInt32)) := by
                  subst hd148
                  exact q_X10_readPlaces_p44_3 q107 q108 q116 q124 q133 q152 q160
                exact tt_loc (ks := [1, 0]) rfl (ce_X10_readPlaces_p156 hG163 (oa_af h0 hA164) (br_af hb h0 hA164) (fun r T x y h => hP r T x y (pv_tr hA164 h (by decide) (fun v T e => e.trans ((congrArg (fun q => F_X10_readPlaces_p156 bs n q ((-(d147.2 : Int64).toInt32))) (stR_mk ((congrFun (congrFun e165 654) o0).trans ((congrFun (up2_ne (k := 654)) o0).trans (sR_654 hs150))) ((congrFun (congrFun e165 655) o0).trans ((congrFun (up2_ne (k := 655)) o0).trans (sR_655 hs150))) ((congrFun (congrFun e165 656) o0).trans ((congrFun (up2_ne (k := 656)) o0).trans (sR_656 hs150))) ((congrFun (congrFun e165 657) o0).trans ((congrFun (up2_ne (k := 657)) o0).trans (sR_657 hs150))) ((congrFun (congrFun e165 658) o0).trans ((congrFun (up2_ne (k := 658)) o0).trans (sR_658 hs150))) ((congrFun (congrFun e165 659) o0).trans ((congrFun (up2_ne (k := 659)) o0).trans (sR_659 hs150))) ((congrFun (congrFun e165 661) o0).trans ((congrFun (up2_ne (k := 661)) o0).trans (sR_661 hs150))) (by rw [e165]; exact up2_self) ((congrFun (congrFun e165 672) o0).trans ((congrFun (up2_ne (k := 672)) o0).trans (sR_672 hs150))) ((congrFun (congrFun e165 673) o0).trans ((congrFun (up2_ne (k := 673)) o0).trans (sR_673 hs150))) ((congrFun (congrFun e165 674) o0).trans ((congrFun (up2_ne (k := 674)) o0).trans (sR_674 hs150))) ((congrFun (congrFun e165 675) o0).trans ((congrFun (up2_ne (k := 675)) o0).trans (sR_675 hs150))) ((congrFun (congrFun f166 660) o0).trans (sR_660 hs150)))).trans hF.symm)))))
              · skip
                have h168 : Rg 8 2147483647 (-(d147.2 : Int64).toInt32) := rg_le_r (⟨by decide, by decide⟩ : Rg 8 8 8) (rg_all (-(d147.2 : Int64).toInt32)) (nlt_le q160)
                refine tt_iload_n (j := 0) dX10_readPlaces_135 rfl ?_
                refine tt_bipush (v := 64) dX10_readPlaces_136 rfl ?_
                refine tt_icmp_gt (tgt := 148) dX10_readPlaces_138 rfl (fun q169 => ?_) (fun q169 => ?_)
                · skip
                  have h170 : Rg 65 2147483647 (-(d147.2 : Int64).toInt32) := rg_lt_r (⟨by decide, by decide⟩ : Rg 64 64 64) h168 q169
                  refine tt_iconst (v := 1) dX10_readPlaces_148 rfl ?_
                  refine tt_goto (tgt := 153) dX10_readPlaces_149 rfl ?_
                  refine gt_pI (id := 662) (x := 1) dX10_readPlaces_153 fl_10_84 rfl rfl h0 hA145 rfl rfl rfl (gp_Ir hG143 (⟨by decide, by decide⟩ : Rg 1 1 1)) (by decide) (fun _ h => absurd (by decide) h) (fun h => absurd h (by decide)) (fun S171 hG172 hA173 e174 f175 er176 => ?_)
                  have hF : F_X10_readPlaces_p44 bs n (StR S o0) x1 x2 = F_X10_readPlaces_p156 bs n ((e0 d147.1), (e1 d147.1), (e2 d147.1), (e3 d147.1), (e4 d147.1), (e5 d147.1), (e6 d147.1), 1, (e8 d147.1), (e9 d147.1), (e10 d147.1), (e11 d147.1), (eJ d147.1)) ((-(d147.2 : Int64).toInt32)) := by
                    subst hd148
                    exact q_X10_readPlaces_p44_4 q107 q108 q116 q124 q133 q152 q160 q169
                  exact tt_loc (ks := [1, 0]) rfl (ce_X10_readPlaces_p156 hG172 (oa_af h0 hA173) (br_af hb h0 hA173) (fun r T x y h => hP r T x y (pv_tr hA173 h (by decide) (fun v T e => e.trans ((congrArg (fun q => F_X10_readPlaces_p156 bs n q ((-(d147.2 : Int64).toInt32))) (stR_mk ((congrFun (congrFun e174 654) o0).trans ((congrFun (up2_ne (k := 654)) o0).trans (sR_654 hs150))) ((congrFun (congrFun e174 655) o0).trans ((congrFun (up2_ne (k := 655)) o0).trans (sR_655 hs150))) ((congrFun (congrFun e174 656) o0).trans ((congrFun (up2_ne (k := 656)) o0).trans (sR_656 hs150))) ((congrFun (congrFun e174 657) o0).trans ((congrFun (up2_ne (k := 657)) o0).trans (sR_657 hs150))) ((congrFun (congrFun e174 658) o0).trans ((congrFun (up2_ne (k := 658)) o0).trans (sR_658 hs150))) ((congrFun (congrFun e174 659) o0).trans ((congrFun (up2_ne (k := 659)) o0).trans (sR_659 hs150))) ((congrFun (congrFun e174 661) o0).trans ((congrFun (up2_ne (k := 661)) o0).trans (sR_661 hs150))) (by rw [e174]; exact up2_self) ((congrFun (congrFun e174 672) o0).trans ((congrFun (up2_ne (k := 672)) o0).trans (sR_672 hs150))) ((congrFun (congrFun e174 673) o0).trans ((congrFun (up2_ne (k := 673)) o0).trans (sR_673 hs150))) ((congrFun (congrFun e174 674) o0).trans ((congrFun (up2_ne (k := 674)) o0).trans (sR_674 hs150))) ((congrFun (congrFun e174 675) o0).trans ((congrFun (up2_ne (k := 675)) o0).trans (sR_675 hs150))) ((congrFun (congrFun f175 660) o0).trans (sR_660 hs150)))).trans hF.symm)))))
                · skip
                  have h177 : Rg 8 64 (-(d147.2 : Int64).toInt32) := rg_le_l h168 (⟨by decide, by decide⟩ : Rg 64 64 64) (nlt_le q169)
                  refine tt_iload_n (j := 0) dX10_readPlaces_141 rfl ?_
                  refine tt_bipush (v := 8) dX10_readPlaces_142 rfl ?_
                  refine tt_irem dX10_readPlaces_144 (by decide) ?_
                  refine tt_if_eq (tgt := 152) dX10_readPlaces_145 rfl (fun q178 => ?_) (fun q178 => ?_)
                  · skip
                    have h179 : Rg 0 0 ((-(d147.2 : Int64).toInt32) - (-(d147.2 : Int64).toInt32) / 8 * 8) := rg_eq_l (rg_all ((-(d147.2 : Int64).toInt32) - (-(d147.2 : Int64).toInt32) / 8 * 8)) (⟨by decide, by decide⟩ : Rg 0 0 0) q178
                    refine tt_iconst (v := 0) dX10_readPlaces_152 rfl ?_
                    refine gt_pI (id := 662) (x := 0) dX10_readPlaces_153 fl_10_84 rfl rfl h0 hA145 rfl rfl rfl (gp_Ir hG143 (⟨by decide, by decide⟩ : Rg 0 0 0)) (by decide) (fun _ h => absurd (by decide) h) (fun h => absurd h (by decide)) (fun S180 hG181 hA182 e183 f184 er185 => ?_)
                    have hF : F_X10_readPlaces_p44 bs n (StR S o0) x1 x2 = F_X10_readPlaces_p156 bs n ((e0 d147.1), (e1 d147.1), (e2 d147.1), (e3 d147.1), (e4 d147.1), (e5 d147.1), (e6 d147.1), 0, (e8 d147.1), (e9 d147.1), (e10 d147.1), (e11 d147.1), (eJ d147.1)) ((-(d147.2 : Int64).toInt32)) := by
                      subst hd148
                      exact q_X10_readPlaces_p44_5 q107 q108 q116 q124 q133 q152 q160 q169 q178
                    exact tt_loc (ks := [1, 0]) rfl (ce_X10_readPlaces_p156 hG181 (oa_af h0 hA182) (br_af hb h0 hA182) (fun r T x y h => hP r T x y (pv_tr hA182 h (by decide) (fun v T e => e.trans ((congrArg (fun q => F_X10_readPlaces_p156 bs n q ((-(d147.2 : Int64).toInt32))) (stR_mk ((congrFun (congrFun e183 654) o0).trans ((congrFun (up2_ne (k := 654)) o0).trans (sR_654 hs150))) ((congrFun (congrFun e183 655) o0).trans ((congrFun (up2_ne (k := 655)) o0).trans (sR_655 hs150))) ((congrFun (congrFun e183 656) o0).trans ((congrFun (up2_ne (k := 656)) o0).trans (sR_656 hs150))) ((congrFun (congrFun e183 657) o0).trans ((congrFun (up2_ne (k := 657)) o0).trans (sR_657 hs150))) ((congrFun (congrFun e183 658) o0).trans ((congrFun (up2_ne (k := 658)) o0).trans (sR_658 hs150))) ((congrFun (congrFun e183 659) o0).trans ((congrFun (up2_ne (k := 659)) o0).trans (sR_659 hs150))) ((congrFun (congrFun e183 661) o0).trans ((congrFun (up2_ne (k := 661)) o0).trans (sR_661 hs150))) (by rw [e183]; exact up2_self) ((congrFun (congrFun e183 672) o0).trans ((congrFun (up2_ne (k := 672)) o0).trans (sR_672 hs150))) ((congrFun (congrFun e183 673) o0).trans ((congrFun (up2_ne (k := 673)) o0).trans (sR_673 hs150))) ((congrFun (congrFun e183 674) o0).trans ((congrFun (up2_ne (k := 674)) o0).trans (sR_674 hs150))) ((congrFun (congrFun e183 675) o0).trans ((congrFun (up2_ne (k := 675)) o0).trans (sR_675 hs150))) ((congrFun (congrFun f184 660) o0).trans (sR_660 hs150)))).trans hF.symm)))))
                  · skip
                    refine tt_iconst (v := 1) dX10_readPlaces_148 rfl ?_
                    refine tt_goto (tgt := 153) dX10_readPlaces_149 rfl ?_
                    refine gt_pI (id := 662) (x := 1) dX10_readPlaces_153 fl_10_84 rfl rfl h0 hA145 rfl rfl rfl (gp_Ir hG143 (⟨by decide, by decide⟩ : Rg 1 1 1)) (by decide) (fun _ h => absurd (by decide) h) (fun h => absurd h (by decide)) (fun S186 hG187 hA188 e189 f190 er191 => ?_)
                    have hF : F_X10_readPlaces_p44 bs n (StR S o0) x1 x2 = F_X10_readPlaces_p156 bs n ((e0 d147.1), (e1 d147.1), (e2 d147.1), (e3 d147.1), (e4 d147.1), (e5 d147.1), (e6 d147.1), 1, (e8 d147.1), (e9 d147.1), (e10 d147.1), (e11 d147.1), (eJ d147.1)) ((-(d147.2 : Int64).toInt32)) := by
                      subst hd148
                      exact q_X10_readPlaces_p44_6 q107 q108 q116 q124 q133 q152 q160 q169 q178
                    exact tt_loc (ks := [1, 0]) rfl (ce_X10_readPlaces_p156 hG187 (oa_af h0 hA188) (br_af hb h0 hA188) (fun r T x y h => hP r T x y (pv_tr hA188 h (by decide) (fun v T e => e.trans ((congrArg (fun q => F_X10_readPlaces_p156 bs n q ((-(d147.2 : Int64).toInt32))) (stR_mk ((congrFun (congrFun e189 654) o0).trans ((congrFun (up2_ne (k := 654)) o0).trans (sR_654 hs150))) ((congrFun (congrFun e189 655) o0).trans ((congrFun (up2_ne (k := 655)) o0).trans (sR_655 hs150))) ((congrFun (congrFun e189 656) o0).trans ((congrFun (up2_ne (k := 656)) o0).trans (sR_656 hs150))) ((congrFun (congrFun e189 657) o0).trans ((congrFun (up2_ne (k := 657)) o0).trans (sR_657 hs150))) ((congrFun (congrFun e189 658) o0).trans ((congrFun (up2_ne (k := 658)) o0).trans (sR_658 hs150))) ((congrFun (congrFun e189 659) o0).trans ((congrFun (up2_ne (k := 659)) o0).trans (sR_659 hs150))) ((congrFun (congrFun e189 661) o0).trans ((congrFun (up2_ne (k := 661)) o0).trans (sR_661 hs150))) (by rw [e189]; exact up2_self) ((congrFun (congrFun e189 672) o0).trans ((congrFun (up2_ne (k := 672)) o0).trans (sR_672 hs150))) ((congrFun (congrFun e189 673) o0).trans ((congrFun (up2_ne (k := 673)) o0).trans (sR_673 hs150))) ((congrFun (congrFun e189 674) o0).trans ((congrFun (up2_ne (k := 674)) o0).trans (sR_674 hs150))) ((congrFun (congrFun e189 675) o0).trans ((congrFun (up2_ne (k := 675)) o0).trans (sR_675 hs150))) ((congrFun (congrFun f190 660) o0).trans (sR_660 hs150)))).trans hF.symm)))))
  · skip
    have h192 : Rg 3 3 (e11 (StR S o0)) := rg_eq_l (rg_all (e11 (StR S o0))) (⟨by decide, by decide⟩ : Rg 3 3 3) q107
    refine tt_aload_n (j := 0) dX10_readPlaces_60 rfl ?_
    refine tt_aload_n (j := 0) dX10_readPlaces_61 rfl ?_
    refine gt_gI (id := 673) (v := (x2 &&& 7)) dX10_readPlaces_62 fl_10_100 rfl rfl h0 hA103 (by rw [e104]; exact up2_self) ?_
    refine tt_iload_n (j := 1) dX10_readPlaces_65 rfl ?_
    refine tt_iconst (v := 1) dX10_readPlaces_66 rfl ?_
    refine tt_iand dX10_readPlaces_67 ?_
    refine tt_if_eq (tgt := 76) dX10_readPlaces_68 rfl (fun q193 => ?_) (fun q193 => ?_)
    · skip
      have h194 : Rg 0 0 (x1 &&& 1) := rg_eq_l (rg_and (x := x1) (⟨by decide, by decide⟩ : Rg 1 1 1)) (⟨by decide, by decide⟩ : Rg 0 0 0) q193
      refine tt_iconst (v := 0) dX10_readPlaces_76 rfl ?_
      refine tt_iadd dX10_readPlaces_77 ?_
      refine gt_pI (id := 673) (x := ((x2 &&& 7) + 0)) dX10_readPlaces_78 fl_10_100 rfl rfl h0 hA103 rfl rfl rfl (gp_I hG102) (by decide) (fun h => absurd h (by decide)) (fun h => absurd h (by decide)) (fun S195 hG196 hA197 e198 f199 er200 => ?_)
      refine tt_goto (tgt := 175) dX10_readPlaces_81 rfl ?_
      have hF : F_X10_readPlaces_p44 bs n (StR S o0) x1 x2 = ((e0 (StR S o0)), (e1 (StR S o0)), (e2 (StR S o0)), (e3 (StR S o0)), (e4 (StR S o0)), (e5 (StR S o0)), (e6 (StR S o0)), (e7 (StR S o0)), (e8 (StR S o0)), ((x2 &&& 7) + 0), (e10 (StR S o0)), (e11 (StR S o0)), (eJ (StR S o0))) := by
        exact q_X10_readPlaces_p44_0 q107 q193
      exact tt_vreturn dX10_readPlaces_175 rfl (hP _ _ _ _ ⟨hG196, hA197, Or.inl ⟨_, rfl, rfl, Eq.trans (stR_mk ((congrFun (congrFun e198 654) o0).trans ((congrFun (up2_ne (k := 654)) o0).trans ((congrFun (congrFun e104 654) o0).trans ((congrFun (up2_ne (k := 654)) o0).trans (sR_654 (T := S) (o := o0) rfl))))) ((congrFun (congrFun e198 655) o0).trans ((congrFun (up2_ne (k := 655)) o0).trans ((congrFun (congrFun e104 655) o0).trans ((congrFun (up2_ne (k := 655)) o0).trans (sR_655 (T := S) (o := o0) rfl))))) ((congrFun (congrFun e198 656) o0).trans ((congrFun (up2_ne (k := 656)) o0).trans ((congrFun (congrFun e104 656) o0).trans ((congrFun (up2_ne (k := 656)) o0).trans (sR_656 (T := S) (o := o0) rfl))))) ((congrFun (congrFun e198 657) o0).trans ((congrFun (up2_ne (k := 657)) o0).trans ((congrFun (congrFun e104 657) o0).trans ((congrFun (up2_ne (k := 657)) o0).trans (sR_657 (T := S) (o := o0) rfl))))) ((congrFun (congrFun e198 658) o0).trans ((congrFun (up2_ne (k := 658)) o0).trans ((congrFun (congrFun e104 658) o0).trans ((congrFun (up2_ne (k := 658)) o0).trans (sR_658 (T := S) (o := o0) rfl))))) ((congrFun (congrFun e198 659) o0).trans ((congrFun (up2_ne (k := 659)) o0).trans ((congrFun (congrFun e104 659) o0).trans ((congrFun (up2_ne (k := 659)) o0).trans (sR_659 (T := S) (o := o0) rfl))))) ((congrFun (congrFun e198 661) o0).trans ((congrFun (up2_ne (k := 661)) o0).trans ((congrFun (congrFun e104 661) o0).trans ((congrFun (up2_ne (k := 661)) o0).trans (sR_661 (T := S) (o := o0) rfl))))) ((congrFun (congrFun e198 662) o0).trans ((congrFun (up2_ne (k := 662)) o0).trans ((congrFun (congrFun e104 662) o0).trans ((congrFun (up2_ne (k := 662)) o0).trans (sR_662 (T := S) (o := o0) rfl))))) ((congrFun (congrFun e198 672) o0).trans ((congrFun (up2_ne (k := 672)) o0).trans ((congrFun (congrFun e104 672) o0).trans ((congrFun (up2_ne (k := 672)) o0).trans (sR_672 (T := S) (o := o0) rfl))))) (by rw [e198]; exact up2_self) ((congrFun (congrFun e198 674) o0).trans ((congrFun (up2_ne (k := 674)) o0).trans ((congrFun (congrFun e104 674) o0).trans ((congrFun (up2_ne (k := 674)) o0).trans (sR_674 (T := S) (o := o0) rfl))))) ((congrFun (congrFun e198 675) o0).trans ((congrFun (up2_ne (k := 675)) o0).trans ((congrFun (congrFun e104 675) o0).trans ((congrFun (up2_ne (k := 675)) o0).trans (sR_675 (T := S) (o := o0) rfl))))) ((congrFun (congrFun f199 660) o0).trans ((congrFun (congrFun f105 660) o0).trans (sR_660 (T := S) (o := o0) rfl)))) hF.symm, rfl, rfl⟩⟩)
    · skip
      have h201 : Rg 1 1 (x1 &&& 1) := rg_ne_lo (rg_and (x := x1) (⟨by decide, by decide⟩ : Rg 1 1 1)) (⟨by decide, by decide⟩ : Rg 0 0 0) q193
      refine tt_bipush (v := 8) dX10_readPlaces_71 rfl ?_
      refine tt_goto (tgt := 77) dX10_readPlaces_73 rfl ?_
      refine tt_iadd dX10_readPlaces_77 ?_
      refine gt_pI (id := 673) (x := ((x2 &&& 7) + 8)) dX10_readPlaces_78 fl_10_100 rfl rfl h0 hA103 rfl rfl rfl (gp_I hG102) (by decide) (fun h => absurd h (by decide)) (fun h => absurd h (by decide)) (fun S202 hG203 hA204 e205 f206 er207 => ?_)
      refine tt_goto (tgt := 175) dX10_readPlaces_81 rfl ?_
      have hF : F_X10_readPlaces_p44 bs n (StR S o0) x1 x2 = ((e0 (StR S o0)), (e1 (StR S o0)), (e2 (StR S o0)), (e3 (StR S o0)), (e4 (StR S o0)), (e5 (StR S o0)), (e6 (StR S o0)), (e7 (StR S o0)), (e8 (StR S o0)), ((x2 &&& 7) + 8), (e10 (StR S o0)), (e11 (StR S o0)), (eJ (StR S o0))) := by
        exact q_X10_readPlaces_p44_1 q107 q193
      exact tt_vreturn dX10_readPlaces_175 rfl (hP _ _ _ _ ⟨hG203, hA204, Or.inl ⟨_, rfl, rfl, Eq.trans (stR_mk ((congrFun (congrFun e205 654) o0).trans ((congrFun (up2_ne (k := 654)) o0).trans ((congrFun (congrFun e104 654) o0).trans ((congrFun (up2_ne (k := 654)) o0).trans (sR_654 (T := S) (o := o0) rfl))))) ((congrFun (congrFun e205 655) o0).trans ((congrFun (up2_ne (k := 655)) o0).trans ((congrFun (congrFun e104 655) o0).trans ((congrFun (up2_ne (k := 655)) o0).trans (sR_655 (T := S) (o := o0) rfl))))) ((congrFun (congrFun e205 656) o0).trans ((congrFun (up2_ne (k := 656)) o0).trans ((congrFun (congrFun e104 656) o0).trans ((congrFun (up2_ne (k := 656)) o0).trans (sR_656 (T := S) (o := o0) rfl))))) ((congrFun (congrFun e205 657) o0).trans ((congrFun (up2_ne (k := 657)) o0).trans ((congrFun (congrFun e104 657) o0).trans ((congrFun (up2_ne (k := 657)) o0).trans (sR_657 (T := S) (o := o0) rfl))))) ((congrFun (congrFun e205 658) o0).trans ((congrFun (up2_ne (k := 658)) o0).trans ((congrFun (congrFun e104 658) o0).trans ((congrFun (up2_ne (k := 658)) o0).trans (sR_658 (T := S) (o := o0) rfl))))) ((congrFun (congrFun e205 659) o0).trans ((congrFun (up2_ne (k := 659)) o0).trans ((congrFun (congrFun e104 659) o0).trans ((congrFun (up2_ne (k := 659)) o0).trans (sR_659 (T := S) (o := o0) rfl))))) ((congrFun (congrFun e205 661) o0).trans ((congrFun (up2_ne (k := 661)) o0).trans ((congrFun (congrFun e104 661) o0).trans ((congrFun (up2_ne (k := 661)) o0).trans (sR_661 (T := S) (o := o0) rfl))))) ((congrFun (congrFun e205 662) o0).trans ((congrFun (up2_ne (k := 662)) o0).trans ((congrFun (congrFun e104 662) o0).trans ((congrFun (up2_ne (k := 662)) o0).trans (sR_662 (T := S) (o := o0) rfl))))) ((congrFun (congrFun e205 672) o0).trans ((congrFun (up2_ne (k := 672)) o0).trans ((congrFun (congrFun e104 672) o0).trans ((congrFun (up2_ne (k := 672)) o0).trans (sR_672 (T := S) (o := o0) rfl))))) (by rw [e205]; exact up2_self) ((congrFun (congrFun e205 674) o0).trans ((congrFun (up2_ne (k := 674)) o0).trans ((congrFun (congrFun e104 674) o0).trans ((congrFun (up2_ne (k := 674)) o0).trans (sR_674 (T := S) (o := o0) rfl))))) ((congrFun (congrFun e205 675) o0).trans ((congrFun (up2_ne (k := 675)) o0).trans ((congrFun (congrFun e104 675) o0).trans ((congrFun (up2_ne (k := 675)) o0).trans (sR_675 (T := S) (o := o0) rfl))))) ((congrFun (congrFun f206 660) o0).trans ((congrFun (congrFun f105 660) o0).trans (sR_660 (T := S) (o := o0) rfl)))) hF.symm, rfl, rfl⟩⟩)
def F_X10_readPlaces (bs : Nat → Int32) (n : Int32) (d : DD) (x1 : Int32) : DD :=
  let d106 := F_X10_next bs n d 
  if (x1 &&& 4) = 0 then
    F_X10_readPlaces_p44 bs n ((e0 d106.1), (e1 d106.1), (e2 d106.1), (e3 d106.1), (e4 d106.1), (e5 d106.1), (e6 d106.1), (e7 d106.1), (((d106.2 >>> (3 &&& 31)) &&& 7) + 0), (e9 d106.1), ((d106.2 >>> (3 &&& 31)) &&& 7), (d106.2 >>> (6 &&& 31)), (eJ d106.1)) (x1) (d106.2)
  else
    F_X10_readPlaces_p44 bs n ((e0 d106.1), (e1 d106.1), (e2 d106.1), (e3 d106.1), (e4 d106.1), (e5 d106.1), (e6 d106.1), (e7 d106.1), (((d106.2 >>> (3 &&& 31)) &&& 7) + 8), (e9 d106.1), ((d106.2 >>> (3 &&& 31)) &&& 7), (d106.2 >>> (6 &&& 31)), (eJ d106.1)) (x1) (d106.2)
theorem q_X10_readPlaces_0 {bs : Nat → Int32} {n : Int32} {d : DD} {x1 : Int32} (h0 : (x1 &&& 4) = 0) : F_X10_readPlaces bs n d x1 = F_X10_readPlaces_p44 bs n ((e0 (F_X10_next bs n d).1), (e1 (F_X10_next bs n d).1), (e2 (F_X10_next bs n d).1), (e3 (F_X10_next bs n d).1), (e4 (F_X10_next bs n d).1), (e5 (F_X10_next bs n d).1), (e6 (F_X10_next bs n d).1), (e7 (F_X10_next bs n d).1), ((((F_X10_next bs n d).2 >>> (3 &&& 31)) &&& 7) + 0), (e9 (F_X10_next bs n d).1), (((F_X10_next bs n d).2 >>> (3 &&& 31)) &&& 7), ((F_X10_next bs n d).2 >>> (6 &&& 31)), (eJ (F_X10_next bs n d).1)) (x1) ((F_X10_next bs n d).2) := by unfold F_X10_readPlaces; exact if_pos h0
theorem q_X10_readPlaces_1 {bs : Nat → Int32} {n : Int32} {d : DD} {x1 : Int32} (h0 : ¬ (x1 &&& 4) = 0) : F_X10_readPlaces bs n d x1 = F_X10_readPlaces_p44 bs n ((e0 (F_X10_next bs n d).1), (e1 (F_X10_next bs n d).1), (e2 (F_X10_next bs n d).1), (e3 (F_X10_next bs n d).1), (e4 (F_X10_next bs n d).1), (e5 (F_X10_next bs n d).1), (e6 (F_X10_next bs n d).1), (e7 (F_X10_next bs n d).1), ((((F_X10_next bs n d).2 >>> (3 &&& 31)) &&& 7) + 8), (e9 (F_X10_next bs n d).1), (((F_X10_next bs n d).2 >>> (3 &&& 31)) &&& 7), ((F_X10_next bs n d).2 >>> (6 &&& 31)), (eJ (F_X10_next bs n d).1)) (x1) ((F_X10_next bs n d).2) := by unfold F_X10_readPlaces; exact if_neg h0
set_option maxHeartbeats 40000000 in
theorem ce_X10_readPlaces {xi : SX} {S : Hp} {E : List Nat} {kc nc : Nat} {P : Po} {o0 : Nat} {x1 : Int32} {bs : Nat → Int32} {n : Int32} (hG : GI S E) (h0 : Oa S E 10 0 o0) (hb : BR S E o0 bs n) (hP : ∀ r T x y, PV E [654, 662, 672, 673, 674, 675, 9998] S kc nc rV (fun v T => StR T o0 = F_X10_readPlaces bs n (StR S o0) x1) [] r T x y → P r T x y) : TT xi M_X10_readPlaces 0 [(0, .ref o0), (1, .int x1)] [] S kc nc P := by
  have hA : Af E [654, 662, 672, 673, 674, 675, 9998] S S := af_rf
  refine tt_aload_n (j := 0) dX10_readPlaces_0 rfl ?_
  refine gt_VI (As := []) dX10_readPlaces_1 ca_X10_87 ⟨by decide, by decide⟩ h0 hA rfl (Nat.le_of_ble_eq_true rfl) (Nat.le_of_ble_eq_true rfl) (by decide) (ce_X10_next hG (oa_af h0 hA) (br_af hb h0 hA) (fun _ _ _ _ h => h)) rfl (fun _ h => nomatch h) (fun S101 x110 h111 hx105 hG102 hB103 hA104 => ?_)
  obtain ⟨d106, hd107⟩ : ∃ q, F_X10_next bs n (StR S o0)  = q := ⟨_, rfl⟩
  have hq108 := (congrArg (fun q => F_X10_next bs n q ) (stR_mk (sR_654 (T := S) (o := o0) rfl) (sR_655 (T := S) (o := o0) rfl) (sR_656 (T := S) (o := o0) rfl) (sR_657 (T := S) (o := o0) rfl) (sR_658 (T := S) (o := o0) rfl) (sR_659 (T := S) (o := o0) rfl) (sR_661 (T := S) (o := o0) rfl) (sR_662 (T := S) (o := o0) rfl) (sR_672 (T := S) (o := o0) rfl) (sR_673 (T := S) (o := o0) rfl) (sR_674 (T := S) (o := o0) rfl) (sR_675 (T := S) (o := o0) rfl) (sR_660 (T := S) (o := o0) rfl))).trans hd107
  have hs109 := hx105.2.trans (congrArg Prod.fst hq108)
  obtain rfl : x110 = d106.2 := (xiR_v hx105).trans (congrArg Prod.snd hq108)
  refine tt_istore_n (ks := [0, 1, 2]) (L' := [(2, .int d106.2), (0, .ref o0), (1, .int x1)]) dX10_readPlaces_4 (by decide) rfl ?_
  refine tt_aload_n (j := 1) dX10_readPlaces_5 rfl ?_
  refine tt_iload_n (j := 0) dX10_readPlaces_6 rfl ?_
  refine tt_bipush (v := 6) dX10_readPlaces_7 rfl ?_
  refine tt_ishr dX10_readPlaces_9 ?_
  refine gt_pI (id := 675) (x := (d106.2 >>> (6 &&& 31))) dX10_readPlaces_10 fl_10_91 rfl rfl h0 hA104 rfl rfl rfl (gp_I hG102) (by decide) (fun h => absurd h (by decide)) (fun h => absurd h (by decide)) (fun S112 hG113 hA114 e115 f116 er117 => ?_)
  refine tt_aload_n (j := 1) dX10_readPlaces_13 rfl ?_
  refine tt_iload_n (j := 0) dX10_readPlaces_14 rfl ?_
  refine tt_iconst (v := 3) dX10_readPlaces_15 rfl ?_
  refine tt_ishr dX10_readPlaces_16 ?_
  refine tt_bipush (v := 7) dX10_readPlaces_17 rfl ?_
  refine tt_iand dX10_readPlaces_19 ?_
  refine gt_pI (id := 674) (x := ((d106.2 >>> (3 &&& 31)) &&& 7)) dX10_readPlaces_20 fl_10_94 rfl rfl h0 hA114 rfl rfl rfl (gp_Ir hG113 (rg_and (x := (d106.2 >>> (3 &&& 31))) (⟨by decide, by decide⟩ : Rg 7 7 7))) (by decide) (fun h => absurd h (by decide)) (fun h => absurd h (by decide)) (fun S118 hG119 hA120 e121 f122 er123 => ?_)
  refine tt_aload_n (j := 1) dX10_readPlaces_23 rfl ?_
  refine tt_aload_n (j := 1) dX10_readPlaces_24 rfl ?_
  refine gt_gI (id := 674) (v := ((d106.2 >>> (3 &&& 31)) &&& 7)) dX10_readPlaces_25 fl_10_94 rfl rfl h0 hA120 (by rw [e121]; exact up2_self) ?_
  refine tt_iload_n (j := 2) dX10_readPlaces_28 rfl ?_
  refine tt_iconst (v := 4) dX10_readPlaces_29 rfl ?_
  refine tt_iand dX10_readPlaces_30 ?_
  refine tt_if_eq (tgt := 39) dX10_readPlaces_31 rfl (fun q124 => ?_) (fun q124 => ?_)
  · skip
    have h125 : Rg 0 0 (x1 &&& 4) := rg_eq_l (rg_and (x := x1) (⟨by decide, by decide⟩ : Rg 4 4 4)) (⟨by decide, by decide⟩ : Rg 0 0 0) q124
    refine tt_iconst (v := 0) dX10_readPlaces_39 rfl ?_
    refine tt_iadd dX10_readPlaces_40 ?_
    refine gt_pI (id := 672) (x := (((d106.2 >>> (3 &&& 31)) &&& 7) + 0)) dX10_readPlaces_41 fl_10_97 rfl rfl h0 hA120 rfl rfl rfl (gp_Ir hG119 (rg_add (lo := 0) (hi := 7) (rg_and (x := (d106.2 >>> (3 &&& 31))) (⟨by decide, by decide⟩ : Rg 7 7 7)) (⟨by decide, by decide⟩ : Rg 0 0 0))) (by decide) (fun h => absurd h (by decide)) (fun h => absurd h (by decide)) (fun S126 hG127 hA128 e129 f130 er131 => ?_)
    have hF : F_X10_readPlaces bs n (StR S o0) x1 = F_X10_readPlaces_p44 bs n ((e0 d106.1), (e1 d106.1), (e2 d106.1), (e3 d106.1), (e4 d106.1), (e5 d106.1), (e6 d106.1), (e7 d106.1), (((d106.2 >>> (3 &&& 31)) &&& 7) + 0), (e9 d106.1), ((d106.2 >>> (3 &&& 31)) &&& 7), (d106.2 >>> (6 &&& 31)), (eJ d106.1)) (x1) (d106.2) := by
      subst hd107
      exact q_X10_readPlaces_0 q124
    exact tt_loc (ks := [1, 2, 0]) rfl (ce_X10_readPlaces_p44 hG127 (oa_af h0 hA128) (br_af hb h0 hA128) (fun r T x y h => hP r T x y (pv_tr hA128 h (by decide) (fun v T e => e.trans ((congrArg (fun q => F_X10_readPlaces_p44 bs n q (x1) (d106.2)) (stR_mk ((congrFun (congrFun e129 654) o0).trans ((congrFun (up2_ne (k := 654)) o0).trans ((congrFun (congrFun e121 654) o0).trans ((congrFun (up2_ne (k := 654)) o0).trans ((congrFun (congrFun e115 654) o0).trans ((congrFun (up2_ne (k := 654)) o0).trans (sR_654 hs109))))))) ((congrFun (congrFun e129 655) o0).trans ((congrFun (up2_ne (k := 655)) o0).trans ((congrFun (congrFun e121 655) o0).trans ((congrFun (up2_ne (k := 655)) o0).trans ((congrFun (congrFun e115 655) o0).trans ((congrFun (up2_ne (k := 655)) o0).trans (sR_655 hs109))))))) ((congrFun (congrFun e129 656) o0).trans ((congrFun (up2_ne (k := 656)) o0).trans ((congrFun (congrFun e121 656) o0).trans ((congrFun (up2_ne (k := 656)) o0).trans ((congrFun (congrFun e115 656) o0).trans ((congrFun (up2_ne (k := 656)) o0).trans (sR_656 hs109))))))) ((congrFun (congrFun e129 657) o0).trans ((congrFun (up2_ne (k := 657)) o0).trans ((congrFun (congrFun e121 657) o0).trans ((congrFun (up2_ne (k := 657)) o0).trans ((congrFun (congrFun e115 657) o0).trans ((congrFun (up2_ne (k := 657)) o0).trans (sR_657 hs109))))))) ((congrFun (congrFun e129 658) o0).trans ((congrFun (up2_ne (k := 658)) o0).trans ((congrFun (congrFun e121 658) o0).trans ((congrFun (up2_ne (k := 658)) o0).trans ((congrFun (congrFun e115 658) o0).trans ((congrFun (up2_ne (k := 658)) o0).trans (sR_658 hs109))))))) ((congrFun (congrFun e129 659) o0).trans ((congrFun (up2_ne (k := 659)) o0).trans ((congrFun (congrFun e121 659) o0).trans ((congrFun (up2_ne (k := 659)) o0).trans ((congrFun (congrFun e115 659) o0).trans ((congrFun (up2_ne (k := 659)) o0).trans (sR_659 hs109))))))) ((congrFun (congrFun e129 661) o0).trans ((congrFun (up2_ne (k := 661)) o0).trans ((congrFun (congrFun e121 661) o0).trans ((congrFun (up2_ne (k := 661)) o0).trans ((congrFun (congrFun e115 661) o0).trans ((congrFun (up2_ne (k := 661)) o0).trans (sR_661 hs109))))))) ((congrFun (congrFun e129 662) o0).trans ((congrFun (up2_ne (k := 662)) o0).trans ((congrFun (congrFun e121 662) o0).trans ((congrFun (up2_ne (k := 662)) o0).trans ((congrFun (congrFun e115 662) o0).trans ((congrFun (up2_ne (k := 662)) o0).trans (sR_662 hs109))))))) (by rw [e129]; exact up2_self) ((congrFun (congrFun e129 673) o0).trans ((congrFun (up2_ne (k := 673)) o0).trans ((congrFun (congrFun e121 673) o0).trans ((congrFun (up2_ne (k := 673)) o0).trans ((congrFun (congrFun e115 673) o0).trans ((congrFun (up2_ne (k := 673)) o0).trans (sR_673 hs109))))))) ((congrFun (congrFun e129 674) o0).trans ((congrFun (up2_ne (k := 674)) o0).trans (by rw [e121]; exact up2_self))) ((congrFun (congrFun e129 675) o0).trans ((congrFun (up2_ne (k := 675)) o0).trans ((congrFun (congrFun e121 675) o0).trans ((congrFun (up2_ne (k := 675)) o0).trans (by rw [e115]; exact up2_self))))) ((congrFun (congrFun f130 660) o0).trans ((congrFun (congrFun f122 660) o0).trans ((congrFun (congrFun f116 660) o0).trans (sR_660 hs109)))))).trans hF.symm)))))
  · skip
    have h132 : Rg 1 4 (x1 &&& 4) := rg_ne_lo (rg_and (x := x1) (⟨by decide, by decide⟩ : Rg 4 4 4)) (⟨by decide, by decide⟩ : Rg 0 0 0) q124
    refine tt_bipush (v := 8) dX10_readPlaces_34 rfl ?_
    refine tt_goto (tgt := 40) dX10_readPlaces_36 rfl ?_
    refine tt_iadd dX10_readPlaces_40 ?_
    refine gt_pI (id := 672) (x := (((d106.2 >>> (3 &&& 31)) &&& 7) + 8)) dX10_readPlaces_41 fl_10_97 rfl rfl h0 hA120 rfl rfl rfl (gp_Ir hG119 (rg_add (lo := 8) (hi := 15) (rg_and (x := (d106.2 >>> (3 &&& 31))) (⟨by decide, by decide⟩ : Rg 7 7 7)) (⟨by decide, by decide⟩ : Rg 8 8 8))) (by decide) (fun h => absurd h (by decide)) (fun h => absurd h (by decide)) (fun S133 hG134 hA135 e136 f137 er138 => ?_)
    have hF : F_X10_readPlaces bs n (StR S o0) x1 = F_X10_readPlaces_p44 bs n ((e0 d106.1), (e1 d106.1), (e2 d106.1), (e3 d106.1), (e4 d106.1), (e5 d106.1), (e6 d106.1), (e7 d106.1), (((d106.2 >>> (3 &&& 31)) &&& 7) + 8), (e9 d106.1), ((d106.2 >>> (3 &&& 31)) &&& 7), (d106.2 >>> (6 &&& 31)), (eJ d106.1)) (x1) (d106.2) := by
      subst hd107
      exact q_X10_readPlaces_1 q124
    exact tt_loc (ks := [1, 2, 0]) rfl (ce_X10_readPlaces_p44 hG134 (oa_af h0 hA135) (br_af hb h0 hA135) (fun r T x y h => hP r T x y (pv_tr hA135 h (by decide) (fun v T e => e.trans ((congrArg (fun q => F_X10_readPlaces_p44 bs n q (x1) (d106.2)) (stR_mk ((congrFun (congrFun e136 654) o0).trans ((congrFun (up2_ne (k := 654)) o0).trans ((congrFun (congrFun e121 654) o0).trans ((congrFun (up2_ne (k := 654)) o0).trans ((congrFun (congrFun e115 654) o0).trans ((congrFun (up2_ne (k := 654)) o0).trans (sR_654 hs109))))))) ((congrFun (congrFun e136 655) o0).trans ((congrFun (up2_ne (k := 655)) o0).trans ((congrFun (congrFun e121 655) o0).trans ((congrFun (up2_ne (k := 655)) o0).trans ((congrFun (congrFun e115 655) o0).trans ((congrFun (up2_ne (k := 655)) o0).trans (sR_655 hs109))))))) ((congrFun (congrFun e136 656) o0).trans ((congrFun (up2_ne (k := 656)) o0).trans ((congrFun (congrFun e121 656) o0).trans ((congrFun (up2_ne (k := 656)) o0).trans ((congrFun (congrFun e115 656) o0).trans ((congrFun (up2_ne (k := 656)) o0).trans (sR_656 hs109))))))) ((congrFun (congrFun e136 657) o0).trans ((congrFun (up2_ne (k := 657)) o0).trans ((congrFun (congrFun e121 657) o0).trans ((congrFun (up2_ne (k := 657)) o0).trans ((congrFun (congrFun e115 657) o0).trans ((congrFun (up2_ne (k := 657)) o0).trans (sR_657 hs109))))))) ((congrFun (congrFun e136 658) o0).trans ((congrFun (up2_ne (k := 658)) o0).trans ((congrFun (congrFun e121 658) o0).trans ((congrFun (up2_ne (k := 658)) o0).trans ((congrFun (congrFun e115 658) o0).trans ((congrFun (up2_ne (k := 658)) o0).trans (sR_658 hs109))))))) ((congrFun (congrFun e136 659) o0).trans ((congrFun (up2_ne (k := 659)) o0).trans ((congrFun (congrFun e121 659) o0).trans ((congrFun (up2_ne (k := 659)) o0).trans ((congrFun (congrFun e115 659) o0).trans ((congrFun (up2_ne (k := 659)) o0).trans (sR_659 hs109))))))) ((congrFun (congrFun e136 661) o0).trans ((congrFun (up2_ne (k := 661)) o0).trans ((congrFun (congrFun e121 661) o0).trans ((congrFun (up2_ne (k := 661)) o0).trans ((congrFun (congrFun e115 661) o0).trans ((congrFun (up2_ne (k := 661)) o0).trans (sR_661 hs109))))))) ((congrFun (congrFun e136 662) o0).trans ((congrFun (up2_ne (k := 662)) o0).trans ((congrFun (congrFun e121 662) o0).trans ((congrFun (up2_ne (k := 662)) o0).trans ((congrFun (congrFun e115 662) o0).trans ((congrFun (up2_ne (k := 662)) o0).trans (sR_662 hs109))))))) (by rw [e136]; exact up2_self) ((congrFun (congrFun e136 673) o0).trans ((congrFun (up2_ne (k := 673)) o0).trans ((congrFun (congrFun e121 673) o0).trans ((congrFun (up2_ne (k := 673)) o0).trans ((congrFun (congrFun e115 673) o0).trans ((congrFun (up2_ne (k := 673)) o0).trans (sR_673 hs109))))))) ((congrFun (congrFun e136 674) o0).trans ((congrFun (up2_ne (k := 674)) o0).trans (by rw [e121]; exact up2_self))) ((congrFun (congrFun e136 675) o0).trans ((congrFun (up2_ne (k := 675)) o0).trans ((congrFun (congrFun e121 675) o0).trans ((congrFun (up2_ne (k := 675)) o0).trans (by rw [e115]; exact up2_self))))) ((congrFun (congrFun f137 660) o0).trans ((congrFun (congrFun f122 660) o0).trans ((congrFun (congrFun f116 660) o0).trans (sR_660 hs109)))))).trans hF.symm)))))
def F_X10_readIf_1_p38 (bs : Nat → Int32) (n : Int32) (d : DD) (x1 : Int32) : DD :=
  let d118 := F_X10_number_1 bs n ((e0 d), 19, (e2 d), (e3 d), (e4 d), x1, (e6 d), (e7 d), (e8 d), (e9 d), (e10 d), (e11 d), (eJ d)) 
  ((e0 d118.1), (e1 d118.1), (e2 d118.1), (e3 d118.1), (e4 d118.1), (e5 d118.1), (e6 d118.1), (e7 d118.1), (e8 d118.1), (e9 d118.1), (e10 d118.1), (e11 d118.1), (d118.2 + ((e0 d118.1) : Int32).toInt64))
theorem q_X10_readIf_1_p38_0 {bs : Nat → Int32} {n : Int32} {d : DD} {x1 : Int32}  : F_X10_readIf_1_p38 bs n d x1 = ((e0 (F_X10_number_1 bs n ((e0 d), 19, (e2 d), (e3 d), (e4 d), x1, (e6 d), (e7 d), (e8 d), (e9 d), (e10 d), (e11 d), (eJ d))).1), (e1 (F_X10_number_1 bs n ((e0 d), 19, (e2 d), (e3 d), (e4 d), x1, (e6 d), (e7 d), (e8 d), (e9 d), (e10 d), (e11 d), (eJ d))).1), (e2 (F_X10_number_1 bs n ((e0 d), 19, (e2 d), (e3 d), (e4 d), x1, (e6 d), (e7 d), (e8 d), (e9 d), (e10 d), (e11 d), (eJ d))).1), (e3 (F_X10_number_1 bs n ((e0 d), 19, (e2 d), (e3 d), (e4 d), x1, (e6 d), (e7 d), (e8 d), (e9 d), (e10 d), (e11 d), (eJ d))).1), (e4 (F_X10_number_1 bs n ((e0 d), 19, (e2 d), (e3 d), (e4 d), x1, (e6 d), (e7 d), (e8 d), (e9 d), (e10 d), (e11 d), (eJ d))).1), (e5 (F_X10_number_1 bs n ((e0 d), 19, (e2 d), (e3 d), (e4 d), x1, (e6 d), (e7 d), (e8 d), (e9 d), (e10 d), (e11 d), (eJ d))).1), (e6 (F_X10_number_1 bs n ((e0 d), 19, (e2 d), (e3 d), (e4 d), x1, (e6 d), (e7 d), (e8 d), (e9 d), (e10 d), (e11 d), (eJ d))).1), (e7 (F_X10_number_1 bs n ((e0 d), 19, (e2 d), (e3 d), (e4 d), x1, (e6 d), (e7 d), (e8 d), (e9 d), (e10 d), (e11 d), (eJ d))).1), (e8 (F_X10_number_1 bs n ((e0 d), 19, (e2 d), (e3 d), (e4 d), x1, (e6 d), (e7 d), (e8 d), (e9 d), (e10 d), (e11 d), (eJ d))).1), (e9 (F_X10_number_1 bs n ((e0 d), 19, (e2 d), (e3 d), (e4 d), x1, (e6 d), (e7 d), (e8 d), (e9 d), (e10 d), (e11 d), (eJ d))).1), (e10 (F_X10_number_1 bs n ((e0 d), 19, (e2 d), (e3 d), (e4 d), x1, (e6 d), (e7 d), (e8 d), (e9 d), (e10 d), (e11 d), (eJ d))).1), (e11 (F_X10_number_1 bs n ((e0 d), 19, (e2 d), (e3 d), (e4 d), x1, (e6 d), (e7 d), (e8 d), (e9 d), (e10 d), (e11 d), (eJ d))).1), ((F_X10_number_1 bs n ((e0 d), 19, (e2 d), (e3 d), (e4 d), x1, (e6 d), (e7 d), (e8 d), (e9 d), (e10 d), (e11 d), (eJ d))).2 + ((e0 (F_X10_number_1 bs n ((e0 d), 19, (e2 d), (e3 d), (e4 d), x1, (e6 d), (e7 d), (e8 d), (e9 d), (e10 d), (e11 d), (eJ d))).1) : Int32).toInt64)) := rfl
set_option maxHeartbeats 40000000 in
theorem ce_X10_readIf_1_p38 {xi : SX} {S : Hp} {E : List Nat} {kc nc : Nat} {P : Po} {o0 : Nat} {x1 : Int32} {bs : Nat → Int32} {n : Int32} (hG : GI S E) (h0 : Oa S E 10 0 o0) (hb : BR S E o0 bs n) (hP : ∀ r T x y, PV E [654, 655, 659, 662, 9998] S kc nc rV (fun v T => StR T o0 = F_X10_readIf_1_p38 bs n (StR S o0) x1) [] r T x y → P r T x y) : TT xi M_X10_readIf 38 [(0, .ref o0), (1, .int x1), (2, .int 1)] [] S kc nc P := by
  have hA : Af E [654, 655, 659, 662, 9998] S S := af_rf
  refine tt_aload_n (j := 0) dX10_readIf_38 rfl ?_
  refine tt_bipush (v := 19) dX10_readIf_39 rfl ?_
  refine gt_pI (id := 655) (x := 19) dX10_readIf_41 fl_10_107 rfl rfl h0 hA rfl rfl rfl (gp_I hG) (by decide) (fun h => absurd h (by decide)) (fun h => absurd h (by decide)) (fun S101 hG102 hA103 e104 f105 er106 => ?_)
  refine tt_aload_n (j := 0) dX10_readIf_44 rfl ?_
  refine tt_iload_n (j := 1) dX10_readIf_45 rfl ?_
  refine gt_pI (id := 659) (x := x1) dX10_readIf_46 fl_10_120 rfl rfl h0 hA103 rfl rfl rfl (gp_I hG102) (by decide) (fun h => absurd h (by decide)) (fun h => absurd h (by decide)) (fun S107 hG108 hA109 e110 f111 er112 => ?_)
  refine tt_aload_n (j := 0) dX10_readIf_49 rfl ?_
  refine tt_aload_n (j := 0) dX10_readIf_50 rfl ?_
  refine tt_iload_n (j := 2) dX10_readIf_51 rfl ?_
  refine gt_VJ (As := [.int 1]) dX10_readIf_52 ca_X10_103 ⟨by decide, by decide⟩ h0 hA109 rfl (Nat.le_of_ble_eq_true rfl) (Nat.le_of_ble_eq_true rfl) (by decide) (ce_X10_number_1 hG108 (oa_af h0 hA109) (br_af hb h0 hA109) (fun _ _ _ _ h => h)) rfl (fun _ h => nomatch h) (fun S113 y122 hx117 hG114 hB115 hA116 => ?_)
  obtain ⟨d118, hd119⟩ : ∃ q, F_X10_number_1 bs n ((e0 (StR S o0)), 19, (e2 (StR S o0)), (e3 (StR S o0)), (e4 (StR S o0)), x1, (e6 (StR S o0)), (e7 (StR S o0)), (e8 (StR S o0)), (e9 (StR S o0)), (e10 (StR S o0)), (e11 (StR S o0)), (eJ (StR S o0)))  = q := ⟨_, rfl⟩
  have hq120 := (congrArg (fun q => F_X10_number_1 bs n q ) (stR_mk ((congrFun (congrFun e110 654) o0).trans ((congrFun (up2_ne (k := 654)) o0).trans ((congrFun (congrFun e104 654) o0).trans ((congrFun (up2_ne (k := 654)) o0).trans (sR_654 (T := S) (o := o0) rfl))))) ((congrFun (congrFun e110 655) o0).trans ((congrFun (up2_ne (k := 655)) o0).trans (by rw [e104]; exact up2_self))) ((congrFun (congrFun e110 656) o0).trans ((congrFun (up2_ne (k := 656)) o0).trans ((congrFun (congrFun e104 656) o0).trans ((congrFun (up2_ne (k := 656)) o0).trans (sR_656 (T := S) (o := o0) rfl))))) ((congrFun (congrFun e110 657) o0).trans ((congrFun (up2_ne (k := 657)) o0).trans ((congrFun (congrFun e104 657) o0).trans ((congrFun (up2_ne (k := 657)) o0).trans (sR_657 (T := S) (o := o0) rfl))))) ((congrFun (congrFun e110 658) o0).trans ((congrFun (up2_ne (k := 658)) o0).trans ((congrFun (congrFun e104 658) o0).trans ((congrFun (up2_ne (k := 658)) o0).trans (sR_658 (T := S) (o := o0) rfl))))) (by rw [e110]; exact up2_self) ((congrFun (congrFun e110 661) o0).trans ((congrFun (up2_ne (k := 661)) o0).trans ((congrFun (congrFun e104 661) o0).trans ((congrFun (up2_ne (k := 661)) o0).trans (sR_661 (T := S) (o := o0) rfl))))) ((congrFun (congrFun e110 662) o0).trans ((congrFun (up2_ne (k := 662)) o0).trans ((congrFun (congrFun e104 662) o0).trans ((congrFun (up2_ne (k := 662)) o0).trans (sR_662 (T := S) (o := o0) rfl))))) ((congrFun (congrFun e110 672) o0).trans ((congrFun (up2_ne (k := 672)) o0).trans ((congrFun (congrFun e104 672) o0).trans ((congrFun (up2_ne (k := 672)) o0).trans (sR_672 (T := S) (o := o0) rfl))))) ((congrFun (congrFun e110 673) o0).trans ((congrFun (up2_ne (k := 673)) o0).trans ((congrFun (congrFun e104 673) o0).trans ((congrFun (up2_ne (k := 673)) o0).trans (sR_673 (T := S) (o := o0) rfl))))) ((congrFun (congrFun e110 674) o0).trans ((congrFun (up2_ne (k := 674)) o0).trans ((congrFun (congrFun e104 674) o0).trans ((congrFun (up2_ne (k := 674)) o0).trans (sR_674 (T := S) (o := o0) rfl))))) ((congrFun (congrFun e110 675) o0).trans ((congrFun (up2_ne (k := 675)) o0).trans ((congrFun (congrFun e104 675) o0).trans ((congrFun (up2_ne (k := 675)) o0).trans (sR_675 (T := S) (o := o0) rfl))))) ((congrFun (congrFun f111 660) o0).trans ((congrFun (congrFun f105 660) o0).trans (sR_660 (T := S) (o := o0) rfl))))).trans hd119
  have hs121 := hx117.2.trans (congrArg Prod.fst hq120)
  obtain rfl : y122 = d118.2 := (xjR_v hx117).trans (congrArg Prod.snd hq120)
  refine gt_pJ (id := 660) (x := d118.2) dX10_readIf_55 fl_10_116 rfl rfl h0 hA116 rfl rfl rfl hG114 (fun S123 hG124 hA125 e126 f127 er128 => ?_)
  refine tt_aload_n (j := 0) dX10_readIf_58 rfl ?_
  refine tt_aload_n (j := 0) dX10_readIf_59 rfl ?_
  refine gt_gJ (id := 660) (v := d118.2) dX10_readIf_60 fl_10_116 rfl rfl h0 hA125 (by rw [f127]; exact up2_self) ?_
  refine tt_aload_n (j := 0) dX10_readIf_63 rfl ?_
  refine gt_gI (id := 654) (v := (e0 d118.1)) dX10_readIf_64 fl_10_81 rfl rfl h0 hA125 ((congrFun (congrFun e126 654) o0).trans (sR_654 hs121)) ?_
  refine tt_i2l dX10_readIf_67 ?_
  refine tt_ladd dX10_readIf_68 ?_
  refine gt_pJ (id := 660) (x := (d118.2 + ((e0 d118.1) : Int32).toInt64)) dX10_readIf_69 fl_10_116 rfl rfl h0 hA125 rfl rfl rfl hG124 (fun S129 hG130 hA131 e132 f133 er134 => ?_)
  have hF : F_X10_readIf_1_p38 bs n (StR S o0) x1 = ((e0 d118.1), (e1 d118.1), (e2 d118.1), (e3 d118.1), (e4 d118.1), (e5 d118.1), (e6 d118.1), (e7 d118.1), (e8 d118.1), (e9 d118.1), (e10 d118.1), (e11 d118.1), (d118.2 + ((e0 d118.1) : Int32).toInt64)) := by
    subst hd119
    rfl
  exact tt_vreturn dX10_readIf_72 rfl (hP _ _ _ _ ⟨hG130, hA131, Or.inl ⟨_, rfl, rfl, Eq.trans (stR_mk ((congrFun (congrFun e132 654) o0).trans ((congrFun (congrFun e126 654) o0).trans (sR_654 hs121))) ((congrFun (congrFun e132 655) o0).trans ((congrFun (congrFun e126 655) o0).trans (sR_655 hs121))) ((congrFun (congrFun e132 656) o0).trans ((congrFun (congrFun e126 656) o0).trans (sR_656 hs121))) ((congrFun (congrFun e132 657) o0).trans ((congrFun (congrFun e126 657) o0).trans (sR_657 hs121))) ((congrFun (congrFun e132 658) o0).trans ((congrFun (congrFun e126 658) o0).trans (sR_658 hs121))) ((congrFun (congrFun e132 659) o0).trans ((congrFun (congrFun e126 659) o0).trans (sR_659 hs121))) ((congrFun (congrFun e132 661) o0).trans ((congrFun (congrFun e126 661) o0).trans (sR_661 hs121))) ((congrFun (congrFun e132 662) o0).trans ((congrFun (congrFun e126 662) o0).trans (sR_662 hs121))) ((congrFun (congrFun e132 672) o0).trans ((congrFun (congrFun e126 672) o0).trans (sR_672 hs121))) ((congrFun (congrFun e132 673) o0).trans ((congrFun (congrFun e126 673) o0).trans (sR_673 hs121))) ((congrFun (congrFun e132 674) o0).trans ((congrFun (congrFun e126 674) o0).trans (sR_674 hs121))) ((congrFun (congrFun e132 675) o0).trans ((congrFun (congrFun e126 675) o0).trans (sR_675 hs121))) (by rw [f133]; exact up2_self)) hF.symm, rfl, rfl⟩⟩)
def F_X10_readIf_1 (bs : Nat → Int32) (n : Int32) (d : DD) (x1 : Int32) : DD :=
  if (e7 d) = 0 then
    if x1 < 0 then
      F_X10_readIf_1_p38 bs n ((e0 d), (e1 d), (e2 d), (e3 d), (e4 d), (e5 d), (e6 d), 1, (e8 d), (e9 d), (e10 d), (e11 d), (eJ d)) (x1)
    else
      if 15 < x1 then
        F_X10_readIf_1_p38 bs n ((e0 d), (e1 d), (e2 d), (e3 d), (e4 d), (e5 d), (e6 d), 1, (e8 d), (e9 d), (e10 d), (e11 d), (eJ d)) (x1)
      else
        if x1 = 10 then
          F_X10_readIf_1_p38 bs n ((e0 d), (e1 d), (e2 d), (e3 d), (e4 d), (e5 d), (e6 d), 1, (e8 d), (e9 d), (e10 d), (e11 d), (eJ d)) (x1)
        else
          if x1 = 11 then
            F_X10_readIf_1_p38 bs n ((e0 d), (e1 d), (e2 d), (e3 d), (e4 d), (e5 d), (e6 d), 1, (e8 d), (e9 d), (e10 d), (e11 d), (eJ d)) (x1)
          else
            F_X10_readIf_1_p38 bs n ((e0 d), (e1 d), (e2 d), (e3 d), (e4 d), (e5 d), (e6 d), 0, (e8 d), (e9 d), (e10 d), (e11 d), (eJ d)) (x1)
  else
    F_X10_readIf_1_p38 bs n ((e0 d), (e1 d), (e2 d), (e3 d), (e4 d), (e5 d), (e6 d), 1, (e8 d), (e9 d), (e10 d), (e11 d), (eJ d)) (x1)
theorem q_X10_readIf_1_0 {bs : Nat → Int32} {n : Int32} {d : DD} {x1 : Int32} (h0 : (e7 d) = 0) (h1 : x1 < 0) : F_X10_readIf_1 bs n d x1 = F_X10_readIf_1_p38 bs n ((e0 d), (e1 d), (e2 d), (e3 d), (e4 d), (e5 d), (e6 d), 1, (e8 d), (e9 d), (e10 d), (e11 d), (eJ d)) (x1) := by unfold F_X10_readIf_1; exact Eq.trans (if_pos h0) (if_pos h1)
theorem q_X10_readIf_1_1 {bs : Nat → Int32} {n : Int32} {d : DD} {x1 : Int32} (h0 : (e7 d) = 0) (h1 : ¬ x1 < 0) (h2 : 15 < x1) : F_X10_readIf_1 bs n d x1 = F_X10_readIf_1_p38 bs n ((e0 d), (e1 d), (e2 d), (e3 d), (e4 d), (e5 d), (e6 d), 1, (e8 d), (e9 d), (e10 d), (e11 d), (eJ d)) (x1) := by unfold F_X10_readIf_1; exact Eq.trans (if_pos h0) (Eq.trans (if_neg h1) (if_pos h2))
theorem q_X10_readIf_1_2 {bs : Nat → Int32} {n : Int32} {d : DD} {x1 : Int32} (h0 : (e7 d) = 0) (h1 : ¬ x1 < 0) (h2 : ¬ 15 < x1) (h3 : x1 = 10) : F_X10_readIf_1 bs n d x1 = F_X10_readIf_1_p38 bs n ((e0 d), (e1 d), (e2 d), (e3 d), (e4 d), (e5 d), (e6 d), 1, (e8 d), (e9 d), (e10 d), (e11 d), (eJ d)) (x1) := by unfold F_X10_readIf_1; exact Eq.trans (if_pos h0) (Eq.trans (if_neg h1) (Eq.trans (if_neg h2) (if_pos h3)))
theorem q_X10_readIf_1_3 {bs : Nat → Int32} {n : Int32} {d : DD} {x1 : Int32} (h0 : (e7 d) = 0) (h1 : ¬ x1 < 0) (h2 : ¬ 15 < x1) (h3 : ¬ x1 = 10) (h4 : x1 = 11) : F_X10_readIf_1 bs n d x1 = F_X10_readIf_1_p38 bs n ((e0 d), (e1 d), (e2 d), (e3 d), (e4 d), (e5 d), (e6 d), 1, (e8 d), (e9 d), (e10 d), (e11 d), (eJ d)) (x1) := by unfold F_X10_readIf_1; exact Eq.trans (if_pos h0) (Eq.trans (if_neg h1) (Eq.trans (if_neg h2) (Eq.trans (if_neg h3) (if_pos h4))))
theorem q_X10_readIf_1_4 {bs : Nat → Int32} {n : Int32} {d : DD} {x1 : Int32} (h0 : (e7 d) = 0) (h1 : ¬ x1 < 0) (h2 : ¬ 15 < x1) (h3 : ¬ x1 = 10) (h4 : ¬ x1 = 11) : F_X10_readIf_1 bs n d x1 = F_X10_readIf_1_p38 bs n ((e0 d), (e1 d), (e2 d), (e3 d), (e4 d), (e5 d), (e6 d), 0, (e8 d), (e9 d), (e10 d), (e11 d), (eJ d)) (x1) := by unfold F_X10_readIf_1; exact Eq.trans (if_pos h0) (Eq.trans (if_neg h1) (Eq.trans (if_neg h2) (Eq.trans (if_neg h3) (if_neg h4))))
theorem q_X10_readIf_1_5 {bs : Nat → Int32} {n : Int32} {d : DD} {x1 : Int32} (h0 : ¬ (e7 d) = 0) : F_X10_readIf_1 bs n d x1 = F_X10_readIf_1_p38 bs n ((e0 d), (e1 d), (e2 d), (e3 d), (e4 d), (e5 d), (e6 d), 1, (e8 d), (e9 d), (e10 d), (e11 d), (eJ d)) (x1) := by unfold F_X10_readIf_1; exact if_neg h0
set_option maxHeartbeats 40000000 in
theorem ce_X10_readIf_1 {xi : SX} {S : Hp} {E : List Nat} {kc nc : Nat} {P : Po} {o0 : Nat} {x1 : Int32} {bs : Nat → Int32} {n : Int32} (hG : GI S E) (h0 : Oa S E 10 0 o0) (hb : BR S E o0 bs n) (hP : ∀ r T x y, PV E [654, 655, 659, 662, 9998] S kc nc rV (fun v T => StR T o0 = F_X10_readIf_1 bs n (StR S o0) x1) [] r T x y → P r T x y) : TT xi M_X10_readIf 0 [(0, .ref o0), (1, .int x1), (2, .int 1)] [] S kc nc P := by
  have hA : Af E [654, 655, 659, 662, 9998] S S := af_rf
  refine tt_aload_n (j := 0) dX10_readIf_0 rfl ?_
  refine tt_aload_n (j := 0) dX10_readIf_1 rfl ?_
  refine gt_gI (id := 662) (v := (e7 (StR S o0))) dX10_readIf_2 fl_10_84 rfl rfl h0 hA (sR_662 (T := S) (o := o0) rfl) ?_
  refine tt_if_ne (tgt := 30) dX10_readIf_5 rfl (fun q101 => ?_) (fun q101 => ?_)
  · skip
    have h102 : Rg 1 1 (e7 (StR S o0)) := rg_ne_lo (gi_I (k := 662) hG h0 0 1) (⟨by decide, by decide⟩ : Rg 0 0 0) q101
    refine tt_iconst (v := 1) dX10_readIf_30 rfl ?_
    refine tt_goto (tgt := 35) dX10_readIf_31 rfl ?_
    refine gt_pI (id := 662) (x := 1) dX10_readIf_35 fl_10_84 rfl rfl h0 hA rfl rfl rfl (gp_Ir hG (⟨by decide, by decide⟩ : Rg 1 1 1)) (by decide) (fun _ h => absurd (by decide) h) (fun h => absurd h (by decide)) (fun S103 hG104 hA105 e106 f107 er108 => ?_)
    have hF : F_X10_readIf_1 bs n (StR S o0) x1 = F_X10_readIf_1_p38 bs n ((e0 (StR S o0)), (e1 (StR S o0)), (e2 (StR S o0)), (e3 (StR S o0)), (e4 (StR S o0)), (e5 (StR S o0)), (e6 (StR S o0)), 1, (e8 (StR S o0)), (e9 (StR S o0)), (e10 (StR S o0)), (e11 (StR S o0)), (eJ (StR S o0))) (x1) := by
      exact q_X10_readIf_1_5 q101
    exact tt_loc (ks := [0, 1, 2]) rfl (ce_X10_readIf_1_p38 hG104 (oa_af h0 hA105) (br_af hb h0 hA105) (fun r T x y h => hP r T x y (pv_tr hA105 h (by decide) (fun v T e => e.trans ((congrArg (fun q => F_X10_readIf_1_p38 bs n q (x1)) (stR_mk ((congrFun (congrFun e106 654) o0).trans ((congrFun (up2_ne (k := 654)) o0).trans (sR_654 (T := S) (o := o0) rfl))) ((congrFun (congrFun e106 655) o0).trans ((congrFun (up2_ne (k := 655)) o0).trans (sR_655 (T := S) (o := o0) rfl))) ((congrFun (congrFun e106 656) o0).trans ((congrFun (up2_ne (k := 656)) o0).trans (sR_656 (T := S) (o := o0) rfl))) ((congrFun (congrFun e106 657) o0).trans ((congrFun (up2_ne (k := 657)) o0).trans (sR_657 (T := S) (o := o0) rfl))) ((congrFun (congrFun e106 658) o0).trans ((congrFun (up2_ne (k := 658)) o0).trans (sR_658 (T := S) (o := o0) rfl))) ((congrFun (congrFun e106 659) o0).trans ((congrFun (up2_ne (k := 659)) o0).trans (sR_659 (T := S) (o := o0) rfl))) ((congrFun (congrFun e106 661) o0).trans ((congrFun (up2_ne (k := 661)) o0).trans (sR_661 (T := S) (o := o0) rfl))) (by rw [e106]; exact up2_self) ((congrFun (congrFun e106 672) o0).trans ((congrFun (up2_ne (k := 672)) o0).trans (sR_672 (T := S) (o := o0) rfl))) ((congrFun (congrFun e106 673) o0).trans ((congrFun (up2_ne (k := 673)) o0).trans (sR_673 (T := S) (o := o0) rfl))) ((congrFun (congrFun e106 674) o0).trans ((congrFun (up2_ne (k := 674)) o0).trans (sR_674 (T := S) (o := o0) rfl))) ((congrFun (congrFun e106 675) o0).trans ((congrFun (up2_ne (k := 675)) o0).trans (sR_675 (T := S) (o := o0) rfl))) ((congrFun (congrFun f107 660) o0).trans (sR_660 (T := S) (o := o0) rfl)))).trans hF.symm)))))
  · skip
    have h109 : Rg 0 0 (e7 (StR S o0)) := rg_eq_l (gi_I (k := 662) hG h0 0 1) (⟨by decide, by decide⟩ : Rg 0 0 0) q101
    refine tt_iload_n (j := 1) dX10_readIf_8 rfl ?_
    refine tt_if_lt (tgt := 30) dX10_readIf_9 rfl (fun q110 => ?_) (fun q110 => ?_)
    · skip
      have h111 : Rg (-2147483648) (-1) x1 := rg_lt_l (rg_all x1) (⟨by decide, by decide⟩ : Rg 0 0 0) q110
      refine tt_iconst (v := 1) dX10_readIf_30 rfl ?_
      refine tt_goto (tgt := 35) dX10_readIf_31 rfl ?_
      refine gt_pI (id := 662) (x := 1) dX10_readIf_35 fl_10_84 rfl rfl h0 hA rfl rfl rfl (gp_Ir hG (⟨by decide, by decide⟩ : Rg 1 1 1)) (by decide) (fun _ h => absurd (by decide) h) (fun h => absurd h (by decide)) (fun S112 hG113 hA114 e115 f116 er117 => ?_)
      have hF : F_X10_readIf_1 bs n (StR S o0) x1 = F_X10_readIf_1_p38 bs n ((e0 (StR S o0)), (e1 (StR S o0)), (e2 (StR S o0)), (e3 (StR S o0)), (e4 (StR S o0)), (e5 (StR S o0)), (e6 (StR S o0)), 1, (e8 (StR S o0)), (e9 (StR S o0)), (e10 (StR S o0)), (e11 (StR S o0)), (eJ (StR S o0))) (x1) := by
        exact q_X10_readIf_1_0 q101 q110
      exact tt_loc (ks := [0, 1, 2]) rfl (ce_X10_readIf_1_p38 hG113 (oa_af h0 hA114) (br_af hb h0 hA114) (fun r T x y h => hP r T x y (pv_tr hA114 h (by decide) (fun v T e => e.trans ((congrArg (fun q => F_X10_readIf_1_p38 bs n q (x1)) (stR_mk ((congrFun (congrFun e115 654) o0).trans ((congrFun (up2_ne (k := 654)) o0).trans (sR_654 (T := S) (o := o0) rfl))) ((congrFun (congrFun e115 655) o0).trans ((congrFun (up2_ne (k := 655)) o0).trans (sR_655 (T := S) (o := o0) rfl))) ((congrFun (congrFun e115 656) o0).trans ((congrFun (up2_ne (k := 656)) o0).trans (sR_656 (T := S) (o := o0) rfl))) ((congrFun (congrFun e115 657) o0).trans ((congrFun (up2_ne (k := 657)) o0).trans (sR_657 (T := S) (o := o0) rfl))) ((congrFun (congrFun e115 658) o0).trans ((congrFun (up2_ne (k := 658)) o0).trans (sR_658 (T := S) (o := o0) rfl))) ((congrFun (congrFun e115 659) o0).trans ((congrFun (up2_ne (k := 659)) o0).trans (sR_659 (T := S) (o := o0) rfl))) ((congrFun (congrFun e115 661) o0).trans ((congrFun (up2_ne (k := 661)) o0).trans (sR_661 (T := S) (o := o0) rfl))) (by rw [e115]; exact up2_self) ((congrFun (congrFun e115 672) o0).trans ((congrFun (up2_ne (k := 672)) o0).trans (sR_672 (T := S) (o := o0) rfl))) ((congrFun (congrFun e115 673) o0).trans ((congrFun (up2_ne (k := 673)) o0).trans (sR_673 (T := S) (o := o0) rfl))) ((congrFun (congrFun e115 674) o0).trans ((congrFun (up2_ne (k := 674)) o0).trans (sR_674 (T := S) (o := o0) rfl))) ((congrFun (congrFun e115 675) o0).trans ((congrFun (up2_ne (k := 675)) o0).trans (sR_675 (T := S) (o := o0) rfl))) ((congrFun (congrFun f116 660) o0).trans (sR_660 (T := S) (o := o0) rfl)))).trans hF.symm)))))
    · skip
      have h118 : Rg 0 2147483647 x1 := rg_le_r (⟨by decide, by decide⟩ : Rg 0 0 0) (rg_all x1) (nlt_le q110)
      refine tt_iload_n (j := 1) dX10_readIf_12 rfl ?_
      refine tt_bipush (v := 15) dX10_readIf_13 rfl ?_
      refine tt_icmp_gt (tgt := 30) dX10_readIf_15 rfl (fun q119 => ?_) (fun q119 => ?_)
      · skip
        have h120 : Rg 16 2147483647 x1 := rg_lt_r (⟨by decide, by decide⟩ : Rg 15 15 15) h118 q119
        refine tt_iconst (v := 1) dX10_readIf_30 rfl ?_
        refine tt_goto (tgt := 35) dX10_readIf_31 rfl ?_
        refine gt_pI (id := 662) (x := 1) dX10_readIf_35 fl_10_84 rfl rfl h0 hA rfl rfl rfl (gp_Ir hG (⟨by decide, by decide⟩ : Rg 1 1 1)) (by decide) (fun _ h => absurd (by decide) h) (fun h => absurd h (by decide)) (fun S121 hG122 hA123 e124 f125 er126 => ?_)
        have hF : F_X10_readIf_1 bs n (StR S o0) x1 = F_X10_readIf_1_p38 bs n ((e0 (StR S o0)), (e1 (StR S o0)), (e2 (StR S o0)), (e3 (StR S o0)), (e4 (StR S o0)), (e5 (StR S o0)), (e6 (StR S o0)), 1, (e8 (StR S o0)), (e9 (StR S o0)), (e10 (StR S o0)), (e11 (StR S o0)), (eJ (StR S o0))) (x1) := by
          exact q_X10_readIf_1_1 q101 q110 q119
        exact tt_loc (ks := [0, 1, 2]) rfl (ce_X10_readIf_1_p38 hG122 (oa_af h0 hA123) (br_af hb h0 hA123) (fun r T x y h => hP r T x y (pv_tr hA123 h (by decide) (fun v T e => e.trans ((congrArg (fun q => F_X10_readIf_1_p38 bs n q (x1)) (stR_mk ((congrFun (congrFun e124 654) o0).trans ((congrFun (up2_ne (k := 654)) o0).trans (sR_654 (T := S) (o := o0) rfl))) ((congrFun (congrFun e124 655) o0).trans ((congrFun (up2_ne (k := 655)) o0).trans (sR_655 (T := S) (o := o0) rfl))) ((congrFun (congrFun e124 656) o0).trans ((congrFun (up2_ne (k := 656)) o0).trans (sR_656 (T := S) (o := o0) rfl))) ((congrFun (congrFun e124 657) o0).trans ((congrFun (up2_ne (k := 657)) o0).trans (sR_657 (T := S) (o := o0) rfl))) ((congrFun (congrFun e124 658) o0).trans ((congrFun (up2_ne (k := 658)) o0).trans (sR_658 (T := S) (o := o0) rfl))) ((congrFun (congrFun e124 659) o0).trans ((congrFun (up2_ne (k := 659)) o0).trans (sR_659 (T := S) (o := o0) rfl))) ((congrFun (congrFun e124 661) o0).trans ((congrFun (up2_ne (k := 661)) o0).trans (sR_661 (T := S) (o := o0) rfl))) (by rw [e124]; exact up2_self) ((congrFun (congrFun e124 672) o0).trans ((congrFun (up2_ne (k := 672)) o0).trans (sR_672 (T := S) (o := o0) rfl))) ((congrFun (congrFun e124 673) o0).trans ((congrFun (up2_ne (k := 673)) o0).trans (sR_673 (T := S) (o := o0) rfl))) ((congrFun (congrFun e124 674) o0).trans ((congrFun (up2_ne (k := 674)) o0).trans (sR_674 (T := S) (o := o0) rfl))) ((congrFun (congrFun e124 675) o0).trans ((congrFun (up2_ne (k := 675)) o0).trans (sR_675 (T := S) (o := o0) rfl))) ((congrFun (congrFun f125 660) o0).trans (sR_660 (T := S) (o := o0) rfl)))).trans hF.symm)))))
      · skip
        have h127 : Rg 0 15 x1 := rg_le_l h118 (⟨by decide, by decide⟩ : Rg 15 15 15) (nlt_le q119)
        refine tt_iload_n (j := 1) dX10_readIf_18 rfl ?_
        refine tt_bipush (v := 10) dX10_readIf_19 rfl ?_
        refine tt_icmp_eq (tgt := 30) dX10_readIf_21 rfl (fun q128 => ?_) (fun q128 => ?_)
        · skip
          have h129 : Rg 10 10 x1 := rg_eq_l h127 (⟨by decide, by decide⟩ : Rg 10 10 10) q128
          refine tt_iconst (v := 1) dX10_readIf_30 rfl ?_
          refine tt_goto (tgt := 35) dX10_readIf_31 rfl ?_
          refine gt_pI (id := 662) (x := 1) dX10_readIf_35 fl_10_84 rfl rfl h0 hA rfl rfl rfl (gp_Ir hG (⟨by decide, by decide⟩ : Rg 1 1 1)) (by decide) (fun _ h => absurd (by decide) h) (fun h => absurd h (by decide)) (fun S130 hG131 hA132 e133 f134 er135 => ?_)
          have hF : F_X10_readIf_1 bs n (StR S o0) x1 = F_X10_readIf_1_p38 bs n ((e0 (StR S o0)), (e1 (StR S o0)), (e2 (StR S o0)), (e3 (StR S o0)), (e4 (StR S o0)), (e5 (StR S o0)), (e6 (StR S o0)), 1, (e8 (StR S o0)), (e9 (StR S o0)), (e10 (StR S o0)), (e11 (StR S o0)), (eJ (StR S o0))) (x1) := by
            exact q_X10_readIf_1_2 q101 q110 q119 q128
          exact tt_loc (ks := [0, 1, 2]) rfl (ce_X10_readIf_1_p38 hG131 (oa_af h0 hA132) (br_af hb h0 hA132) (fun r T x y h => hP r T x y (pv_tr hA132 h (by decide) (fun v T e => e.trans ((congrArg (fun q => F_X10_readIf_1_p38 bs n q (x1)) (stR_mk ((congrFun (congrFun e133 654) o0).trans ((congrFun (up2_ne (k := 654)) o0).trans (sR_654 (T := S) (o := o0) rfl))) ((congrFun (congrFun e133 655) o0).trans ((congrFun (up2_ne (k := 655)) o0).trans (sR_655 (T := S) (o := o0) rfl))) ((congrFun (congrFun e133 656) o0).trans ((congrFun (up2_ne (k := 656)) o0).trans (sR_656 (T := S) (o := o0) rfl))) ((congrFun (congrFun e133 657) o0).trans ((congrFun (up2_ne (k := 657)) o0).trans (sR_657 (T := S) (o := o0) rfl))) ((congrFun (congrFun e133 658) o0).trans ((congrFun (up2_ne (k := 658)) o0).trans (sR_658 (T := S) (o := o0) rfl))) ((congrFun (congrFun e133 659) o0).trans ((congrFun (up2_ne (k := 659)) o0).trans (sR_659 (T := S) (o := o0) rfl))) ((congrFun (congrFun e133 661) o0).trans ((congrFun (up2_ne (k := 661)) o0).trans (sR_661 (T := S) (o := o0) rfl))) (by rw [e133]; exact up2_self) ((congrFun (congrFun e133 672) o0).trans ((congrFun (up2_ne (k := 672)) o0).trans (sR_672 (T := S) (o := o0) rfl))) ((congrFun (congrFun e133 673) o0).trans ((congrFun (up2_ne (k := 673)) o0).trans (sR_673 (T := S) (o := o0) rfl))) ((congrFun (congrFun e133 674) o0).trans ((congrFun (up2_ne (k := 674)) o0).trans (sR_674 (T := S) (o := o0) rfl))) ((congrFun (congrFun e133 675) o0).trans ((congrFun (up2_ne (k := 675)) o0).trans (sR_675 (T := S) (o := o0) rfl))) ((congrFun (congrFun f134 660) o0).trans (sR_660 (T := S) (o := o0) rfl)))).trans hF.symm)))))
        · skip
          refine tt_iload_n (j := 1) dX10_readIf_24 rfl ?_
          refine tt_bipush (v := 11) dX10_readIf_25 rfl ?_
          refine tt_icmp_ne (tgt := 34) dX10_readIf_27 rfl (fun q136 => ?_) (fun q136 => ?_)
          · skip
            refine tt_iconst (v := 0) dX10_readIf_34 rfl ?_
            refine gt_pI (id := 662) (x := 0) dX10_readIf_35 fl_10_84 rfl rfl h0 hA rfl rfl rfl (gp_Ir hG (⟨by decide, by decide⟩ : Rg 0 0 0)) (by decide) (fun _ h => absurd (by decide) h) (fun h => absurd h (by decide)) (fun S137 hG138 hA139 e140 f141 er142 => ?_)
            have hF : F_X10_readIf_1 bs n (StR S o0) x1 = F_X10_readIf_1_p38 bs n ((e0 (StR S o0)), (e1 (StR S o0)), (e2 (StR S o0)), (e3 (StR S o0)), (e4 (StR S o0)), (e5 (StR S o0)), (e6 (StR S o0)), 0, (e8 (StR S o0)), (e9 (StR S o0)), (e10 (StR S o0)), (e11 (StR S o0)), (eJ (StR S o0))) (x1) := by
              exact q_X10_readIf_1_4 q101 q110 q119 q128 q136
            exact tt_loc (ks := [0, 1, 2]) rfl (ce_X10_readIf_1_p38 hG138 (oa_af h0 hA139) (br_af hb h0 hA139) (fun r T x y h => hP r T x y (pv_tr hA139 h (by decide) (fun v T e => e.trans ((congrArg (fun q => F_X10_readIf_1_p38 bs n q (x1)) (stR_mk ((congrFun (congrFun e140 654) o0).trans ((congrFun (up2_ne (k := 654)) o0).trans (sR_654 (T := S) (o := o0) rfl))) ((congrFun (congrFun e140 655) o0).trans ((congrFun (up2_ne (k := 655)) o0).trans (sR_655 (T := S) (o := o0) rfl))) ((congrFun (congrFun e140 656) o0).trans ((congrFun (up2_ne (k := 656)) o0).trans (sR_656 (T := S) (o := o0) rfl))) ((congrFun (congrFun e140 657) o0).trans ((congrFun (up2_ne (k := 657)) o0).trans (sR_657 (T := S) (o := o0) rfl))) ((congrFun (congrFun e140 658) o0).trans ((congrFun (up2_ne (k := 658)) o0).trans (sR_658 (T := S) (o := o0) rfl))) ((congrFun (congrFun e140 659) o0).trans ((congrFun (up2_ne (k := 659)) o0).trans (sR_659 (T := S) (o := o0) rfl))) ((congrFun (congrFun e140 661) o0).trans ((congrFun (up2_ne (k := 661)) o0).trans (sR_661 (T := S) (o := o0) rfl))) (by rw [e140]; exact up2_self) ((congrFun (congrFun e140 672) o0).trans ((congrFun (up2_ne (k := 672)) o0).trans (sR_672 (T := S) (o := o0) rfl))) ((congrFun (congrFun e140 673) o0).trans ((congrFun (up2_ne (k := 673)) o0).trans (sR_673 (T := S) (o := o0) rfl))) ((congrFun (congrFun e140 674) o0).trans ((congrFun (up2_ne (k := 674)) o0).trans (sR_674 (T := S) (o := o0) rfl))) ((congrFun (congrFun e140 675) o0).trans ((congrFun (up2_ne (k := 675)) o0).trans (sR_675 (T := S) (o := o0) rfl))) ((congrFun (congrFun f141 660) o0).trans (sR_660 (T := S) (o := o0) rfl)))).trans hF.symm)))))
          · skip
            have h143 : Rg 11 11 x1 := rg_eq_l h127 (⟨by decide, by decide⟩ : Rg 11 11 11) q136
            refine tt_iconst (v := 1) dX10_readIf_30 rfl ?_
            refine tt_goto (tgt := 35) dX10_readIf_31 rfl ?_
            refine gt_pI (id := 662) (x := 1) dX10_readIf_35 fl_10_84 rfl rfl h0 hA rfl rfl rfl (gp_Ir hG (⟨by decide, by decide⟩ : Rg 1 1 1)) (by decide) (fun _ h => absurd (by decide) h) (fun h => absurd h (by decide)) (fun S144 hG145 hA146 e147 f148 er149 => ?_)
            have hF : F_X10_readIf_1 bs n (StR S o0) x1 = F_X10_readIf_1_p38 bs n ((e0 (StR S o0)), (e1 (StR S o0)), (e2 (StR S o0)), (e3 (StR S o0)), (e4 (StR S o0)), (e5 (StR S o0)), (e6 (StR S o0)), 1, (e8 (StR S o0)), (e9 (StR S o0)), (e10 (StR S o0)), (e11 (StR S o0)), (eJ (StR S o0))) (x1) := by
              exact q_X10_readIf_1_3 q101 q110 q119 q128 q136
            exact tt_loc (ks := [0, 1, 2]) rfl (ce_X10_readIf_1_p38 hG145 (oa_af h0 hA146) (br_af hb h0 hA146) (fun r T x y h => hP r T x y (pv_tr hA146 h (by decide) (fun v T e => e.trans ((congrArg (fun q => F_X10_readIf_1_p38 bs n q (x1)) (stR_mk ((congrFun (congrFun e147 654) o0).trans ((congrFun (up2_ne (k := 654)) o0).trans (sR_654 (T := S) (o := o0) rfl))) ((congrFun (congrFun e147 655) o0).trans ((congrFun (up2_ne (k := 655)) o0).trans (sR_655 (T := S) (o := o0) rfl))) ((congrFun (congrFun e147 656) o0).trans ((congrFun (up2_ne (k := 656)) o0).trans (sR_656 (T := S) (o := o0) rfl))) ((congrFun (congrFun e147 657) o0).trans ((congrFun (up2_ne (k := 657)) o0).trans (sR_657 (T := S) (o := o0) rfl))) ((congrFun (congrFun e147 658) o0).trans ((congrFun (up2_ne (k := 658)) o0).trans (sR_658 (T := S) (o := o0) rfl))) ((congrFun (congrFun e147 659) o0).trans ((congrFun (up2_ne (k := 659)) o0).trans (sR_659 (T := S) (o := o0) rfl))) ((congrFun (congrFun e147 661) o0).trans ((congrFun (up2_ne (k := 661)) o0).trans (sR_661 (T := S) (o := o0) rfl))) (by rw [e147]; exact up2_self) ((congrFun (congrFun e147 672) o0).trans ((congrFun (up2_ne (k := 672)) o0).trans (sR_672 (T := S) (o := o0) rfl))) ((congrFun (congrFun e147 673) o0).trans ((congrFun (up2_ne (k := 673)) o0).trans (sR_673 (T := S) (o := o0) rfl))) ((congrFun (congrFun e147 674) o0).trans ((congrFun (up2_ne (k := 674)) o0).trans (sR_674 (T := S) (o := o0) rfl))) ((congrFun (congrFun e147 675) o0).trans ((congrFun (up2_ne (k := 675)) o0).trans (sR_675 (T := S) (o := o0) rfl))) ((congrFun (congrFun f148 660) o0).trans (sR_660 (T := S) (o := o0) rfl)))).trans hF.symm)))))
def F_X10_readIf_4_p38 (bs : Nat → Int32) (n : Int32) (d : DD) (x1 : Int32) : DD :=
  let d118 := F_X10_number_4 bs n ((e0 d), 19, (e2 d), (e3 d), (e4 d), x1, (e6 d), (e7 d), (e8 d), (e9 d), (e10 d), (e11 d), (eJ d)) 
  ((e0 d118.1), (e1 d118.1), (e2 d118.1), (e3 d118.1), (e4 d118.1), (e5 d118.1), (e6 d118.1), (e7 d118.1), (e8 d118.1), (e9 d118.1), (e10 d118.1), (e11 d118.1), (d118.2 + ((e0 d118.1) : Int32).toInt64))
theorem q_X10_readIf_4_p38_0 {bs : Nat → Int32} {n : Int32} {d : DD} {x1 : Int32}  : F_X10_readIf_4_p38 bs n d x1 = ((e0 (F_X10_number_4 bs n ((e0 d), 19, (e2 d), (e3 d), (e4 d), x1, (e6 d), (e7 d), (e8 d), (e9 d), (e10 d), (e11 d), (eJ d))).1), (e1 (F_X10_number_4 bs n ((e0 d), 19, (e2 d), (e3 d), (e4 d), x1, (e6 d), (e7 d), (e8 d), (e9 d), (e10 d), (e11 d), (eJ d))).1), (e2 (F_X10_number_4 bs n ((e0 d), 19, (e2 d), (e3 d), (e4 d), x1, (e6 d), (e7 d), (e8 d), (e9 d), (e10 d), (e11 d), (eJ d))).1), (e3 (F_X10_number_4 bs n ((e0 d), 19, (e2 d), (e3 d), (e4 d), x1, (e6 d), (e7 d), (e8 d), (e9 d), (e10 d), (e11 d), (eJ d))).1), (e4 (F_X10_number_4 bs n ((e0 d), 19, (e2 d), (e3 d), (e4 d), x1, (e6 d), (e7 d), (e8 d), (e9 d), (e10 d), (e11 d), (eJ d))).1), (e5 (F_X10_number_4 bs n ((e0 d), 19, (e2 d), (e3 d), (e4 d), x1, (e6 d), (e7 d), (e8 d), (e9 d), (e10 d), (e11 d), (eJ d))).1), (e6 (F_X10_number_4 bs n ((e0 d), 19, (e2 d), (e3 d), (e4 d), x1, (e6 d), (e7 d), (e8 d), (e9 d), (e10 d), (e11 d), (eJ d))).1), (e7 (F_X10_number_4 bs n ((e0 d), 19, (e2 d), (e3 d), (e4 d), x1, (e6 d), (e7 d), (e8 d), (e9 d), (e10 d), (e11 d), (eJ d))).1), (e8 (F_X10_number_4 bs n ((e0 d), 19, (e2 d), (e3 d), (e4 d), x1, (e6 d), (e7 d), (e8 d), (e9 d), (e10 d), (e11 d), (eJ d))).1), (e9 (F_X10_number_4 bs n ((e0 d), 19, (e2 d), (e3 d), (e4 d), x1, (e6 d), (e7 d), (e8 d), (e9 d), (e10 d), (e11 d), (eJ d))).1), (e10 (F_X10_number_4 bs n ((e0 d), 19, (e2 d), (e3 d), (e4 d), x1, (e6 d), (e7 d), (e8 d), (e9 d), (e10 d), (e11 d), (eJ d))).1), (e11 (F_X10_number_4 bs n ((e0 d), 19, (e2 d), (e3 d), (e4 d), x1, (e6 d), (e7 d), (e8 d), (e9 d), (e10 d), (e11 d), (eJ d))).1), ((F_X10_number_4 bs n ((e0 d), 19, (e2 d), (e3 d), (e4 d), x1, (e6 d), (e7 d), (e8 d), (e9 d), (e10 d), (e11 d), (eJ d))).2 + ((e0 (F_X10_number_4 bs n ((e0 d), 19, (e2 d), (e3 d), (e4 d), x1, (e6 d), (e7 d), (e8 d), (e9 d), (e10 d), (e11 d), (eJ d))).1) : Int32).toInt64)) := rfl
set_option maxHeartbeats 40000000 in
theorem ce_X10_readIf_4_p38 {xi : SX} {S : Hp} {E : List Nat} {kc nc : Nat} {P : Po} {o0 : Nat} {x1 : Int32} {bs : Nat → Int32} {n : Int32} (hG : GI S E) (h0 : Oa S E 10 0 o0) (hb : BR S E o0 bs n) (hP : ∀ r T x y, PV E [654, 655, 659, 662, 9998] S kc nc rV (fun v T => StR T o0 = F_X10_readIf_4_p38 bs n (StR S o0) x1) [] r T x y → P r T x y) : TT xi M_X10_readIf 38 [(0, .ref o0), (1, .int x1), (2, .int 4)] [] S kc nc P := by
  have hA : Af E [654, 655, 659, 662, 9998] S S := af_rf
  refine tt_aload_n (j := 0) dX10_readIf_38 rfl ?_
  refine tt_bipush (v := 19) dX10_readIf_39 rfl ?_
  refine gt_pI (id := 655) (x := 19) dX10_readIf_41 fl_10_107 rfl rfl h0 hA rfl rfl rfl (gp_I hG) (by decide) (fun h => absurd h (by decide)) (fun h => absurd h (by decide)) (fun S101 hG102 hA103 e104 f105 er106 => ?_)
  refine tt_aload_n (j := 0) dX10_readIf_44 rfl ?_
  refine tt_iload_n (j := 1) dX10_readIf_45 rfl ?_
  refine gt_pI (id := 659) (x := x1) dX10_readIf_46 fl_10_120 rfl rfl h0 hA103 rfl rfl rfl (gp_I hG102) (by decide) (fun h => absurd h (by decide)) (fun h => absurd h (by decide)) (fun S107 hG108 hA109 e110 f111 er112 => ?_)
  refine tt_aload_n (j := 0) dX10_readIf_49 rfl ?_
  refine tt_aload_n (j := 0) dX10_readIf_50 rfl ?_
  refine tt_iload_n (j := 2) dX10_readIf_51 rfl ?_
  refine gt_VJ (As := [.int 4]) dX10_readIf_52 ca_X10_103 ⟨by decide, by decide⟩ h0 hA109 rfl (Nat.le_of_ble_eq_true rfl) (Nat.le_of_ble_eq_true rfl) (by decide) (ce_X10_number_4 hG108 (oa_af h0 hA109) (br_af hb h0 hA109) (fun _ _ _ _ h => h)) rfl (fun _ h => nomatch h) (fun S113 y122 hx117 hG114 hB115 hA116 => ?_)
  obtain ⟨d118, hd119⟩ : ∃ q, F_X10_number_4 bs n ((e0 (StR S o0)), 19, (e2 (StR S o0)), (e3 (StR S o0)), (e4 (StR S o0)), x1, (e6 (StR S o0)), (e7 (StR S o0)), (e8 (StR S o0)), (e9 (StR S o0)), (e10 (StR S o0)), (e11 (StR S o0)), (eJ (StR S o0)))  = q := ⟨_, rfl⟩
  have hq120 := (congrArg (fun q => F_X10_number_4 bs n q ) (stR_mk ((congrFun (congrFun e110 654) o0).trans ((congrFun (up2_ne (k := 654)) o0).trans ((congrFun (congrFun e104 654) o0).trans ((congrFun (up2_ne (k := 654)) o0).trans (sR_654 (T := S) (o := o0) rfl))))) ((congrFun (congrFun e110 655) o0).trans ((congrFun (up2_ne (k := 655)) o0).trans (by rw [e104]; exact up2_self))) ((congrFun (congrFun e110 656) o0).trans ((congrFun (up2_ne (k := 656)) o0).trans ((congrFun (congrFun e104 656) o0).trans ((congrFun (up2_ne (k := 656)) o0).trans (sR_656 (T := S) (o := o0) rfl))))) ((congrFun (congrFun e110 657) o0).trans ((congrFun (up2_ne (k := 657)) o0).trans ((congrFun (congrFun e104 657) o0).trans ((congrFun (up2_ne (k := 657)) o0).trans (sR_657 (T := S) (o := o0) rfl))))) ((congrFun (congrFun e110 658) o0).trans ((congrFun (up2_ne (k := 658)) o0).trans ((congrFun (congrFun e104 658) o0).trans ((congrFun (up2_ne (k := 658)) o0).trans (sR_658 (T := S) (o := o0) rfl))))) (by rw [e110]; exact up2_self) ((congrFun (congrFun e110 661) o0).trans ((congrFun (up2_ne (k := 661)) o0).trans ((congrFun (congrFun e104 661) o0).trans ((congrFun (up2_ne (k := 661)) o0).trans (sR_661 (T := S) (o := o0) rfl))))) ((congrFun (congrFun e110 662) o0).trans ((congrFun (up2_ne (k := 662)) o0).trans ((congrFun (congrFun e104 662) o0).trans ((congrFun (up2_ne (k := 662)) o0).trans (sR_662 (T := S) (o := o0) rfl))))) ((congrFun (congrFun e110 672) o0).trans ((congrFun (up2_ne (k := 672)) o0).trans ((congrFun (congrFun e104 672) o0).trans ((congrFun (up2_ne (k := 672)) o0).trans (sR_672 (T := S) (o := o0) rfl))))) ((congrFun (congrFun e110 673) o0).trans ((congrFun (up2_ne (k := 673)) o0).trans ((congrFun (congrFun e104 673) o0).trans ((congrFun (up2_ne (k := 673)) o0).trans (sR_673 (T := S) (o := o0) rfl))))) ((congrFun (congrFun e110 674) o0).trans ((congrFun (up2_ne (k := 674)) o0).trans ((congrFun (congrFun e104 674) o0).trans ((congrFun (up2_ne (k := 674)) o0).trans (sR_674 (T := S) (o := o0) rfl))))) ((congrFun (congrFun e110 675) o0).trans ((congrFun (up2_ne (k := 675)) o0).trans ((congrFun (congrFun e104 675) o0).trans ((congrFun (up2_ne (k := 675)) o0).trans (sR_675 (T := S) (o := o0) rfl))))) ((congrFun (congrFun f111 660) o0).trans ((congrFun (congrFun f105 660) o0).trans (sR_660 (T := S) (o := o0) rfl))))).trans hd119
  have hs121 := hx117.2.trans (congrArg Prod.fst hq120)
  obtain rfl : y122 = d118.2 := (xjR_v hx117).trans (congrArg Prod.snd hq120)
  refine gt_pJ (id := 660) (x := d118.2) dX10_readIf_55 fl_10_116 rfl rfl h0 hA116 rfl rfl rfl hG114 (fun S123 hG124 hA125 e126 f127 er128 => ?_)
  refine tt_aload_n (j := 0) dX10_readIf_58 rfl ?_
  refine tt_aload_n (j := 0) dX10_readIf_59 rfl ?_
  refine gt_gJ (id := 660) (v := d118.2) dX10_readIf_60 fl_10_116 rfl rfl h0 hA125 (by rw [f127]; exact up2_self) ?_
  refine tt_aload_n (j := 0) dX10_readIf_63 rfl ?_
  refine gt_gI (id := 654) (v := (e0 d118.1)) dX10_readIf_64 fl_10_81 rfl rfl h0 hA125 ((congrFun (congrFun e126 654) o0).trans (sR_654 hs121)) ?_
  refine tt_i2l dX10_readIf_67 ?_
  refine tt_ladd dX10_readIf_68 ?_
  refine gt_pJ (id := 660) (x := (d118.2 + ((e0 d118.1) : Int32).toInt64)) dX10_readIf_69 fl_10_116 rfl rfl h0 hA125 rfl rfl rfl hG124 (fun S129 hG130 hA131 e132 f133 er134 => ?_)
  have hF : F_X10_readIf_4_p38 bs n (StR S o0) x1 = ((e0 d118.1), (e1 d118.1), (e2 d118.1), (e3 d118.1), (e4 d118.1), (e5 d118.1), (e6 d118.1), (e7 d118.1), (e8 d118.1), (e9 d118.1), (e10 d118.1), (e11 d118.1), (d118.2 + ((e0 d118.1) : Int32).toInt64)) := by
    subst hd119
    rfl
  exact tt_vreturn dX10_readIf_72 rfl (hP _ _ _ _ ⟨hG130, hA131, Or.inl ⟨_, rfl, rfl, Eq.trans (stR_mk ((congrFun (congrFun e132 654) o0).trans ((congrFun (congrFun e126 654) o0).trans (sR_654 hs121))) ((congrFun (congrFun e132 655) o0).trans ((congrFun (congrFun e126 655) o0).trans (sR_655 hs121))) ((congrFun (congrFun e132 656) o0).trans ((congrFun (congrFun e126 656) o0).trans (sR_656 hs121))) ((congrFun (congrFun e132 657) o0).trans ((congrFun (congrFun e126 657) o0).trans (sR_657 hs121))) ((congrFun (congrFun e132 658) o0).trans ((congrFun (congrFun e126 658) o0).trans (sR_658 hs121))) ((congrFun (congrFun e132 659) o0).trans ((congrFun (congrFun e126 659) o0).trans (sR_659 hs121))) ((congrFun (congrFun e132 661) o0).trans ((congrFun (congrFun e126 661) o0).trans (sR_661 hs121))) ((congrFun (congrFun e132 662) o0).trans ((congrFun (congrFun e126 662) o0).trans (sR_662 hs121))) ((congrFun (congrFun e132 672) o0).trans ((congrFun (congrFun e126 672) o0).trans (sR_672 hs121))) ((congrFun (congrFun e132 673) o0).trans ((congrFun (congrFun e126 673) o0).trans (sR_673 hs121))) ((congrFun (congrFun e132 674) o0).trans ((congrFun (congrFun e126 674) o0).trans (sR_674 hs121))) ((congrFun (congrFun e132 675) o0).trans ((congrFun (congrFun e126 675) o0).trans (sR_675 hs121))) (by rw [f133]; exact up2_self)) hF.symm, rfl, rfl⟩⟩)
def F_X10_readIf_4 (bs : Nat → Int32) (n : Int32) (d : DD) (x1 : Int32) : DD :=
  if (e7 d) = 0 then
    if x1 < 0 then
      F_X10_readIf_4_p38 bs n ((e0 d), (e1 d), (e2 d), (e3 d), (e4 d), (e5 d), (e6 d), 1, (e8 d), (e9 d), (e10 d), (e11 d), (eJ d)) (x1)
    else
      if 15 < x1 then
        F_X10_readIf_4_p38 bs n ((e0 d), (e1 d), (e2 d), (e3 d), (e4 d), (e5 d), (e6 d), 1, (e8 d), (e9 d), (e10 d), (e11 d), (eJ d)) (x1)
      else
        if x1 = 10 then
          F_X10_readIf_4_p38 bs n ((e0 d), (e1 d), (e2 d), (e3 d), (e4 d), (e5 d), (e6 d), 1, (e8 d), (e9 d), (e10 d), (e11 d), (eJ d)) (x1)
        else
          if x1 = 11 then
            F_X10_readIf_4_p38 bs n ((e0 d), (e1 d), (e2 d), (e3 d), (e4 d), (e5 d), (e6 d), 1, (e8 d), (e9 d), (e10 d), (e11 d), (eJ d)) (x1)
          else
            F_X10_readIf_4_p38 bs n ((e0 d), (e1 d), (e2 d), (e3 d), (e4 d), (e5 d), (e6 d), 0, (e8 d), (e9 d), (e10 d), (e11 d), (eJ d)) (x1)
  else
    F_X10_readIf_4_p38 bs n ((e0 d), (e1 d), (e2 d), (e3 d), (e4 d), (e5 d), (e6 d), 1, (e8 d), (e9 d), (e10 d), (e11 d), (eJ d)) (x1)
theorem q_X10_readIf_4_0 {bs : Nat → Int32} {n : Int32} {d : DD} {x1 : Int32} (h0 : (e7 d) = 0) (h1 : x1 < 0) : F_X10_readIf_4 bs n d x1 = F_X10_readIf_4_p38 bs n ((e0 d), (e1 d), (e2 d), (e3 d), (e4 d), (e5 d), (e6 d), 1, (e8 d), (e9 d), (e10 d), (e11 d), (eJ d)) (x1) := by unfold F_X10_readIf_4; exact Eq.trans (if_pos h0) (if_pos h1)
theorem q_X10_readIf_4_1 {bs : Nat → Int32} {n : Int32} {d : DD} {x1 : Int32} (h0 : (e7 d) = 0) (h1 : ¬ x1 < 0) (h2 : 15 < x1) : F_X10_readIf_4 bs n d x1 = F_X10_readIf_4_p38 bs n ((e0 d), (e1 d), (e2 d), (e3 d), (e4 d), (e5 d), (e6 d), 1, (e8 d), (e9 d), (e10 d), (e11 d), (eJ d)) (x1) := by unfold F_X10_readIf_4; exact Eq.trans (if_pos h0) (Eq.trans (if_neg h1) (if_pos h2))
theorem q_X10_readIf_4_2 {bs : Nat → Int32} {n : Int32} {d : DD} {x1 : Int32} (h0 : (e7 d) = 0) (h1 : ¬ x1 < 0) (h2 : ¬ 15 < x1) (h3 : x1 = 10) : F_X10_readIf_4 bs n d x1 = F_X10_readIf_4_p38 bs n ((e0 d), (e1 d), (e2 d), (e3 d), (e4 d), (e5 d), (e6 d), 1, (e8 d), (e9 d), (e10 d), (e11 d), (eJ d)) (x1) := by unfold F_X10_readIf_4; exact Eq.trans (if_pos h0) (Eq.trans (if_neg h1) (Eq.trans (if_neg h2) (if_pos h3)))
theorem q_X10_readIf_4_3 {bs : Nat → Int32} {n : Int32} {d : DD} {x1 : Int32} (h0 : (e7 d) = 0) (h1 : ¬ x1 < 0) (h2 : ¬ 15 < x1) (h3 : ¬ x1 = 10) (h4 : x1 = 11) : F_X10_readIf_4 bs n d x1 = F_X10_readIf_4_p38 bs n ((e0 d), (e1 d), (e2 d), (e3 d), (e4 d), (e5 d), (e6 d), 1, (e8 d), (e9 d), (e10 d), (e11 d), (eJ d)) (x1) := by unfold F_X10_readIf_4; exact Eq.trans (if_pos h0) (Eq.trans (if_neg h1) (Eq.trans (if_neg h2) (Eq.trans (if_neg h3) (if_pos h4))))
theorem q_X10_readIf_4_4 {bs : Nat → Int32} {n : Int32} {d : DD} {x1 : Int32} (h0 : (e7 d) = 0) (h1 : ¬ x1 < 0) (h2 : ¬ 15 < x1) (h3 : ¬ x1 = 10) (h4 : ¬ x1 = 11) : F_X10_readIf_4 bs n d x1 = F_X10_readIf_4_p38 bs n ((e0 d), (e1 d), (e2 d), (e3 d), (e4 d), (e5 d), (e6 d), 0, (e8 d), (e9 d), (e10 d), (e11 d), (eJ d)) (x1) := by unfold F_X10_readIf_4; exact Eq.trans (if_pos h0) (Eq.trans (if_neg h1) (Eq.trans (if_neg h2) (Eq.trans (if_neg h3) (if_neg h4))))
theorem q_X10_readIf_4_5 {bs : Nat → Int32} {n : Int32} {d : DD} {x1 : Int32} (h0 : ¬ (e7 d) = 0) : F_X10_readIf_4 bs n d x1 = F_X10_readIf_4_p38 bs n ((e0 d), (e1 d), (e2 d), (e3 d), (e4 d), (e5 d), (e6 d), 1, (e8 d), (e9 d), (e10 d), (e11 d), (eJ d)) (x1) := by unfold F_X10_readIf_4; exact if_neg h0
set_option maxHeartbeats 40000000 in
theorem ce_X10_readIf_4 {xi : SX} {S : Hp} {E : List Nat} {kc nc : Nat} {P : Po} {o0 : Nat} {x1 : Int32} {bs : Nat → Int32} {n : Int32} (hG : GI S E) (h0 : Oa S E 10 0 o0) (hb : BR S E o0 bs n) (hP : ∀ r T x y, PV E [654, 655, 659, 662, 9998] S kc nc rV (fun v T => StR T o0 = F_X10_readIf_4 bs n (StR S o0) x1) [] r T x y → P r T x y) : TT xi M_X10_readIf 0 [(0, .ref o0), (1, .int x1), (2, .int 4)] [] S kc nc P := by
  have hA : Af E [654, 655, 659, 662, 9998] S S := af_rf
  refine tt_aload_n (j := 0) dX10_readIf_0 rfl ?_
  refine tt_aload_n (j := 0) dX10_readIf_1 rfl ?_
  refine gt_gI (id := 662) (v := (e7 (StR S o0))) dX10_readIf_2 fl_10_84 rfl rfl h0 hA (sR_662 (T := S) (o := o0) rfl) ?_
  refine tt_if_ne (tgt := 30) dX10_readIf_5 rfl (fun q101 => ?_) (fun q101 => ?_)
  · skip
    have h102 : Rg 1 1 (e7 (StR S o0)) := rg_ne_lo (gi_I (k := 662) hG h0 0 1) (⟨by decide, by decide⟩ : Rg 0 0 0) q101
    refine tt_iconst (v := 1) dX10_readIf_30 rfl ?_
    refine tt_goto (tgt := 35) dX10_readIf_31 rfl ?_
    refine gt_pI (id := 662) (x := 1) dX10_readIf_35 fl_10_84 rfl rfl h0 hA rfl rfl rfl (gp_Ir hG (⟨by decide, by decide⟩ : Rg 1 1 1)) (by decide) (fun _ h => absurd (by decide) h) (fun h => absurd h (by decide)) (fun S103 hG104 hA105 e106 f107 er108 => ?_)
    have hF : F_X10_readIf_4 bs n (StR S o0) x1 = F_X10_readIf_4_p38 bs n ((e0 (StR S o0)), (e1 (StR S o0)), (e2 (StR S o0)), (e3 (StR S o0)), (e4 (StR S o0)), (e5 (StR S o0)), (e6 (StR S o0)), 1, (e8 (StR S o0)), (e9 (StR S o0)), (e10 (StR S o0)), (e11 (StR S o0)), (eJ (StR S o0))) (x1) := by
      exact q_X10_readIf_4_5 q101
    exact tt_loc (ks := [0, 1, 2]) rfl (ce_X10_readIf_4_p38 hG104 (oa_af h0 hA105) (br_af hb h0 hA105) (fun r T x y h => hP r T x y (pv_tr hA105 h (by decide) (fun v T e => e.trans ((congrArg (fun q => F_X10_readIf_4_p38 bs n q (x1)) (stR_mk ((congrFun (congrFun e106 654) o0).trans ((congrFun (up2_ne (k := 654)) o0).trans (sR_654 (T := S) (o := o0) rfl))) ((congrFun (congrFun e106 655) o0).trans ((congrFun (up2_ne (k := 655)) o0).trans (sR_655 (T := S) (o := o0) rfl))) ((congrFun (congrFun e106 656) o0).trans ((congrFun (up2_ne (k := 656)) o0).trans (sR_656 (T := S) (o := o0) rfl))) ((congrFun (congrFun e106 657) o0).trans ((congrFun (up2_ne (k := 657)) o0).trans (sR_657 (T := S) (o := o0) rfl))) ((congrFun (congrFun e106 658) o0).trans ((congrFun (up2_ne (k := 658)) o0).trans (sR_658 (T := S) (o := o0) rfl))) ((congrFun (congrFun e106 659) o0).trans ((congrFun (up2_ne (k := 659)) o0).trans (sR_659 (T := S) (o := o0) rfl))) ((congrFun (congrFun e106 661) o0).trans ((congrFun (up2_ne (k := 661)) o0).trans (sR_661 (T := S) (o := o0) rfl))) (by rw [e106]; exact up2_self) ((congrFun (congrFun e106 672) o0).trans ((congrFun (up2_ne (k := 672)) o0).trans (sR_672 (T := S) (o := o0) rfl))) ((congrFun (congrFun e106 673) o0).trans ((congrFun (up2_ne (k := 673)) o0).trans (sR_673 (T := S) (o := o0) rfl))) ((congrFun (congrFun e106 674) o0).trans ((congrFun (up2_ne (k := 674)) o0).trans (sR_674 (T := S) (o := o0) rfl))) ((congrFun (congrFun e106 675) o0).trans ((congrFun (up2_ne (k := 675)) o0).trans (sR_675 (T := S) (o := o0) rfl))) ((congrFun (congrFun f107 660) o0).trans (sR_660 (T := S) (o := o0) rfl)))).trans hF.symm)))))
  · skip
    have h109 : Rg 0 0 (e7 (StR S o0)) := rg_eq_l (gi_I (k := 662) hG h0 0 1) (⟨by decide, by decide⟩ : Rg 0 0 0) q101
    refine tt_iload_n (j := 1) dX10_readIf_8 rfl ?_
    refine tt_if_lt (tgt := 30) dX10_readIf_9 rfl (fun q110 => ?_) (fun q110 => ?_)
    · skip
      have h111 : Rg (-2147483648) (-1) x1 := rg_lt_l (rg_all x1) (⟨by decide, by decide⟩ : Rg 0 0 0) q110
      refine tt_iconst (v := 1) dX10_readIf_30 rfl ?_
      refine tt_goto (tgt := 35) dX10_readIf_31 rfl ?_
      refine gt_pI (id := 662) (x := 1) dX10_readIf_35 fl_10_84 rfl rfl h0 hA rfl rfl rfl (gp_Ir hG (⟨by decide, by decide⟩ : Rg 1 1 1)) (by decide) (fun _ h => absurd (by decide) h) (fun h => absurd h (by decide)) (fun S112 hG113 hA114 e115 f116 er117 => ?_)
      have hF : F_X10_readIf_4 bs n (StR S o0) x1 = F_X10_readIf_4_p38 bs n ((e0 (StR S o0)), (e1 (StR S o0)), (e2 (StR S o0)), (e3 (StR S o0)), (e4 (StR S o0)), (e5 (StR S o0)), (e6 (StR S o0)), 1, (e8 (StR S o0)), (e9 (StR S o0)), (e10 (StR S o0)), (e11 (StR S o0)), (eJ (StR S o0))) (x1) := by
        exact q_X10_readIf_4_0 q101 q110
      exact tt_loc (ks := [0, 1, 2]) rfl (ce_X10_readIf_4_p38 hG113 (oa_af h0 hA114) (br_af hb h0 hA114) (fun r T x y h => hP r T x y (pv_tr hA114 h (by decide) (fun v T e => e.trans ((congrArg (fun q => F_X10_readIf_4_p38 bs n q (x1)) (stR_mk ((congrFun (congrFun e115 654) o0).trans ((congrFun (up2_ne (k := 654)) o0).trans (sR_654 (T := S) (o := o0) rfl))) ((congrFun (congrFun e115 655) o0).trans ((congrFun (up2_ne (k := 655)) o0).trans (sR_655 (T := S) (o := o0) rfl))) ((congrFun (congrFun e115 656) o0).trans ((congrFun (up2_ne (k := 656)) o0).trans (sR_656 (T := S) (o := o0) rfl))) ((congrFun (congrFun e115 657) o0).trans ((congrFun (up2_ne (k := 657)) o0).trans (sR_657 (T := S) (o := o0) rfl))) ((congrFun (congrFun e115 658) o0).trans ((congrFun (up2_ne (k := 658)) o0).trans (sR_658 (T := S) (o := o0) rfl))) ((congrFun (congrFun e115 659) o0).trans ((congrFun (up2_ne (k := 659)) o0).trans (sR_659 (T := S) (o := o0) rfl))) ((congrFun (congrFun e115 661) o0).trans ((congrFun (up2_ne (k := 661)) o0).trans (sR_661 (T := S) (o := o0) rfl))) (by rw [e115]; exact up2_self) ((congrFun (congrFun e115 672) o0).trans ((congrFun (up2_ne (k := 672)) o0).trans (sR_672 (T := S) (o := o0) rfl))) ((congrFun (congrFun e115 673) o0).trans ((congrFun (up2_ne (k := 673)) o0).trans (sR_673 (T := S) (o := o0) rfl))) ((congrFun (congrFun e115 674) o0).trans ((congrFun (up2_ne (k := 674)) o0).trans (sR_674 (T := S) (o := o0) rfl))) ((congrFun (congrFun e115 675) o0).trans ((congrFun (up2_ne (k := 675)) o0).trans (sR_675 (T := S) (o := o0) rfl))) ((congrFun (congrFun f116 660) o0).trans (sR_660 (T := S) (o := o0) rfl)))).trans hF.symm)))))
    · skip
      have h118 : Rg 0 2147483647 x1 := rg_le_r (⟨by decide, by decide⟩ : Rg 0 0 0) (rg_all x1) (nlt_le q110)
      refine tt_iload_n (j := 1) dX10_readIf_12 rfl ?_
      refine tt_bipush (v := 15) dX10_readIf_13 rfl ?_
      refine tt_icmp_gt (tgt := 30) dX10_readIf_15 rfl (fun q119 => ?_) (fun q119 => ?_)
      · skip
        have h120 : Rg 16 2147483647 x1 := rg_lt_r (⟨by decide, by decide⟩ : Rg 15 15 15) h118 q119
        refine tt_iconst (v := 1) dX10_readIf_30 rfl ?_
        refine tt_goto (tgt := 35) dX10_readIf_31 rfl ?_
        refine gt_pI (id := 662) (x := 1) dX10_readIf_35 fl_10_84 rfl rfl h0 hA rfl rfl rfl (gp_Ir hG (⟨by decide, by decide⟩ : Rg 1 1 1)) (by decide) (fun _ h => absurd (by decide) h) (fun h => absurd h (by decide)) (fun S121 hG122 hA123 e124 f125 er126 => ?_)
        have hF : F_X10_readIf_4 bs n (StR S o0) x1 = F_X10_readIf_4_p38 bs n ((e0 (StR S o0)), (e1 (StR S o0)), (e2 (StR S o0)), (e3 (StR S o0)), (e4 (StR S o0)), (e5 (StR S o0)), (e6 (StR S o0)), 1, (e8 (StR S o0)), (e9 (StR S o0)), (e10 (StR S o0)), (e11 (StR S o0)), (eJ (StR S o0))) (x1) := by
          exact q_X10_readIf_4_1 q101 q110 q119
        exact tt_loc (ks := [0, 1, 2]) rfl (ce_X10_readIf_4_p38 hG122 (oa_af h0 hA123) (br_af hb h0 hA123) (fun r T x y h => hP r T x y (pv_tr hA123 h (by decide) (fun v T e => e.trans ((congrArg (fun q => F_X10_readIf_4_p38 bs n q (x1)) (stR_mk ((congrFun (congrFun e124 654) o0).trans ((congrFun (up2_ne (k := 654)) o0).trans (sR_654 (T := S) (o := o0) rfl))) ((congrFun (congrFun e124 655) o0).trans ((congrFun (up2_ne (k := 655)) o0).trans (sR_655 (T := S) (o := o0) rfl))) ((congrFun (congrFun e124 656) o0).trans ((congrFun (up2_ne (k := 656)) o0).trans (sR_656 (T := S) (o := o0) rfl))) ((congrFun (congrFun e124 657) o0).trans ((congrFun (up2_ne (k := 657)) o0).trans (sR_657 (T := S) (o := o0) rfl))) ((congrFun (congrFun e124 658) o0).trans ((congrFun (up2_ne (k := 658)) o0).trans (sR_658 (T := S) (o := o0) rfl))) ((congrFun (congrFun e124 659) o0).trans ((congrFun (up2_ne (k := 659)) o0).trans (sR_659 (T := S) (o := o0) rfl))) ((congrFun (congrFun e124 661) o0).trans ((congrFun (up2_ne (k := 661)) o0).trans (sR_661 (T := S) (o := o0) rfl))) (by rw [e124]; exact up2_self) ((congrFun (congrFun e124 672) o0).trans ((congrFun (up2_ne (k := 672)) o0).trans (sR_672 (T := S) (o := o0) rfl))) ((congrFun (congrFun e124 673) o0).trans ((congrFun (up2_ne (k := 673)) o0).trans (sR_673 (T := S) (o := o0) rfl))) ((congrFun (congrFun e124 674) o0).trans ((congrFun (up2_ne (k := 674)) o0).trans (sR_674 (T := S) (o := o0) rfl))) ((congrFun (congrFun e124 675) o0).trans ((congrFun (up2_ne (k := 675)) o0).trans (sR_675 (T := S) (o := o0) rfl))) ((congrFun (congrFun f125 660) o0).trans (sR_660 (T := S) (o := o0) rfl)))).trans hF.symm)))))
      · skip
        have h127 : Rg 0 15 x1 := rg_le_l h118 (⟨by decide, by decide⟩ : Rg 15 15 15) (nlt_le q119)
        refine tt_iload_n (j := 1) dX10_readIf_18 rfl ?_
        refine tt_bipush (v := 10) dX10_readIf_19 rfl ?_
        refine tt_icmp_eq (tgt := 30) dX10_readIf_21 rfl (fun q128 => ?_) (fun q128 => ?_)
        · skip
          have h129 : Rg 10 10 x1 := rg_eq_l h127 (⟨by decide, by decide⟩ : Rg 10 10 10) q128
          refine tt_iconst (v := 1) dX10_readIf_30 rfl ?_
          refine tt_goto (tgt := 35) dX10_readIf_31 rfl ?_
          refine gt_pI (id := 662) (x := 1) dX10_readIf_35 fl_10_84 rfl rfl h0 hA rfl rfl rfl (gp_Ir hG (⟨by decide, by decide⟩ : Rg 1 1 1)) (by decide) (fun _ h => absurd (by decide) h) (fun h => absurd h (by decide)) (fun S130 hG131 hA132 e133 f134 er135 => ?_)
          have hF : F_X10_readIf_4 bs n (StR S o0) x1 = F_X10_readIf_4_p38 bs n ((e0 (StR S o0)), (e1 (StR S o0)), (e2 (StR S o0)), (e3 (StR S o0)), (e4 (StR S o0)), (e5 (StR S o0)), (e6 (StR S o0)), 1, (e8 (StR S o0)), (e9 (StR S o0)), (e10 (StR S o0)), (e11 (StR S o0)), (eJ (StR S o0))) (x1) := by
            exact q_X10_readIf_4_2 q101 q110 q119 q128
          exact tt_loc (ks := [0, 1, 2]) rfl (ce_X10_readIf_4_p38 hG131 (oa_af h0 hA132) (br_af hb h0 hA132) (fun r T x y h => hP r T x y (pv_tr hA132 h (by decide) (fun v T e => e.trans ((congrArg (fun q => F_X10_readIf_4_p38 bs n q (x1)) (stR_mk ((congrFun (congrFun e133 654) o0).trans ((congrFun (up2_ne (k := 654)) o0).trans (sR_654 (T := S) (o := o0) rfl))) ((congrFun (congrFun e133 655) o0).trans ((congrFun (up2_ne (k := 655)) o0).trans (sR_655 (T := S) (o := o0) rfl))) ((congrFun (congrFun e133 656) o0).trans ((congrFun (up2_ne (k := 656)) o0).trans (sR_656 (T := S) (o := o0) rfl))) ((congrFun (congrFun e133 657) o0).trans ((congrFun (up2_ne (k := 657)) o0).trans (sR_657 (T := S) (o := o0) rfl))) ((congrFun (congrFun e133 658) o0).trans ((congrFun (up2_ne (k := 658)) o0).trans (sR_658 (T := S) (o := o0) rfl))) ((congrFun (congrFun e133 659) o0).trans ((congrFun (up2_ne (k := 659)) o0).trans (sR_659 (T := S) (o := o0) rfl))) ((congrFun (congrFun e133 661) o0).trans ((congrFun (up2_ne (k := 661)) o0).trans (sR_661 (T := S) (o := o0) rfl))) (by rw [e133]; exact up2_self) ((congrFun (congrFun e133 672) o0).trans ((congrFun (up2_ne (k := 672)) o0).trans (sR_672 (T := S) (o := o0) rfl))) ((congrFun (congrFun e133 673) o0).trans ((congrFun (up2_ne (k := 673)) o0).trans (sR_673 (T := S) (o := o0) rfl))) ((congrFun (congrFun e133 674) o0).trans ((congrFun (up2_ne (k := 674)) o0).trans (sR_674 (T := S) (o := o0) rfl))) ((congrFun (congrFun e133 675) o0).trans ((congrFun (up2_ne (k := 675)) o0).trans (sR_675 (T := S) (o := o0) rfl))) ((congrFun (congrFun f134 660) o0).trans (sR_660 (T := S) (o := o0) rfl)))).trans hF.symm)))))
        · skip
          refine tt_iload_n (j := 1) dX10_readIf_24 rfl ?_
          refine tt_bipush (v := 11) dX10_readIf_25 rfl ?_
          refine tt_icmp_ne (tgt := 34) dX10_readIf_27 rfl (fun q136 => ?_) (fun q136 => ?_)
          · skip
            refine tt_iconst (v := 0) dX10_readIf_34 rfl ?_
            refine gt_pI (id := 662) (x := 0) dX10_readIf_35 fl_10_84 rfl rfl h0 hA rfl rfl rfl (gp_Ir hG (⟨by decide, by decide⟩ : Rg 0 0 0)) (by decide) (fun _ h => absurd (by decide) h) (fun h => absurd h (by decide)) (fun S137 hG138 hA139 e140 f141 er142 => ?_)
            have hF : F_X10_readIf_4 bs n (StR S o0) x1 = F_X10_readIf_4_p38 bs n ((e0 (StR S o0)), (e1 (StR S o0)), (e2 (StR S o0)), (e3 (StR S o0)), (e4 (StR S o0)), (e5 (StR S o0)), (e6 (StR S o0)), 0, (e8 (StR S o0)), (e9 (StR S o0)), (e10 (StR S o0)), (e11 (StR S o0)), (eJ (StR S o0))) (x1) := by
              exact q_X10_readIf_4_4 q101 q110 q119 q128 q136
            exact tt_loc (ks := [0, 1, 2]) rfl (ce_X10_readIf_4_p38 hG138 (oa_af h0 hA139) (br_af hb h0 hA139) (fun r T x y h => hP r T x y (pv_tr hA139 h (by decide) (fun v T e => e.trans ((congrArg (fun q => F_X10_readIf_4_p38 bs n q (x1)) (stR_mk ((congrFun (congrFun e140 654) o0).trans ((congrFun (up2_ne (k := 654)) o0).trans (sR_654 (T := S) (o := o0) rfl))) ((congrFun (congrFun e140 655) o0).trans ((congrFun (up2_ne (k := 655)) o0).trans (sR_655 (T := S) (o := o0) rfl))) ((congrFun (congrFun e140 656) o0).trans ((congrFun (up2_ne (k := 656)) o0).trans (sR_656 (T := S) (o := o0) rfl))) ((congrFun (congrFun e140 657) o0).trans ((congrFun (up2_ne (k := 657)) o0).trans (sR_657 (T := S) (o := o0) rfl))) ((congrFun (congrFun e140 658) o0).trans ((congrFun (up2_ne (k := 658)) o0).trans (sR_658 (T := S) (o := o0) rfl))) ((congrFun (congrFun e140 659) o0).trans ((congrFun (up2_ne (k := 659)) o0).trans (sR_659 (T := S) (o := o0) rfl))) ((congrFun (congrFun e140 661) o0).trans ((congrFun (up2_ne (k := 661)) o0).trans (sR_661 (T := S) (o := o0) rfl))) (by rw [e140]; exact up2_self) ((congrFun (congrFun e140 672) o0).trans ((congrFun (up2_ne (k := 672)) o0).trans (sR_672 (T := S) (o := o0) rfl))) ((congrFun (congrFun e140 673) o0).trans ((congrFun (up2_ne (k := 673)) o0).trans (sR_673 (T := S) (o := o0) rfl))) ((congrFun (congrFun e140 674) o0).trans ((congrFun (up2_ne (k := 674)) o0).trans (sR_674 (T := S) (o := o0) rfl))) ((congrFun (congrFun e140 675) o0).trans ((congrFun (up2_ne (k := 675)) o0).trans (sR_675 (T := S) (o := o0) rfl))) ((congrFun (congrFun f141 660) o0).trans (sR_660 (T := S) (o := o0) rfl)))).trans hF.symm)))))
          · skip
            have h143 : Rg 11 11 x1 := rg_eq_l h127 (⟨by decide, by decide⟩ : Rg 11 11 11) q136
            refine tt_iconst (v := 1) dX10_readIf_30 rfl ?_
            refine tt_goto (tgt := 35) dX10_readIf_31 rfl ?_
            refine gt_pI (id := 662) (x := 1) dX10_readIf_35 fl_10_84 rfl rfl h0 hA rfl rfl rfl (gp_Ir hG (⟨by decide, by decide⟩ : Rg 1 1 1)) (by decide) (fun _ h => absurd (by decide) h) (fun h => absurd h (by decide)) (fun S144 hG145 hA146 e147 f148 er149 => ?_)
            have hF : F_X10_readIf_4 bs n (StR S o0) x1 = F_X10_readIf_4_p38 bs n ((e0 (StR S o0)), (e1 (StR S o0)), (e2 (StR S o0)), (e3 (StR S o0)), (e4 (StR S o0)), (e5 (StR S o0)), (e6 (StR S o0)), 1, (e8 (StR S o0)), (e9 (StR S o0)), (e10 (StR S o0)), (e11 (StR S o0)), (eJ (StR S o0))) (x1) := by
              exact q_X10_readIf_4_3 q101 q110 q119 q128 q136
            exact tt_loc (ks := [0, 1, 2]) rfl (ce_X10_readIf_4_p38 hG145 (oa_af h0 hA146) (br_af hb h0 hA146) (fun r T x y h => hP r T x y (pv_tr hA146 h (by decide) (fun v T e => e.trans ((congrArg (fun q => F_X10_readIf_4_p38 bs n q (x1)) (stR_mk ((congrFun (congrFun e147 654) o0).trans ((congrFun (up2_ne (k := 654)) o0).trans (sR_654 (T := S) (o := o0) rfl))) ((congrFun (congrFun e147 655) o0).trans ((congrFun (up2_ne (k := 655)) o0).trans (sR_655 (T := S) (o := o0) rfl))) ((congrFun (congrFun e147 656) o0).trans ((congrFun (up2_ne (k := 656)) o0).trans (sR_656 (T := S) (o := o0) rfl))) ((congrFun (congrFun e147 657) o0).trans ((congrFun (up2_ne (k := 657)) o0).trans (sR_657 (T := S) (o := o0) rfl))) ((congrFun (congrFun e147 658) o0).trans ((congrFun (up2_ne (k := 658)) o0).trans (sR_658 (T := S) (o := o0) rfl))) ((congrFun (congrFun e147 659) o0).trans ((congrFun (up2_ne (k := 659)) o0).trans (sR_659 (T := S) (o := o0) rfl))) ((congrFun (congrFun e147 661) o0).trans ((congrFun (up2_ne (k := 661)) o0).trans (sR_661 (T := S) (o := o0) rfl))) (by rw [e147]; exact up2_self) ((congrFun (congrFun e147 672) o0).trans ((congrFun (up2_ne (k := 672)) o0).trans (sR_672 (T := S) (o := o0) rfl))) ((congrFun (congrFun e147 673) o0).trans ((congrFun (up2_ne (k := 673)) o0).trans (sR_673 (T := S) (o := o0) rfl))) ((congrFun (congrFun e147 674) o0).trans ((congrFun (up2_ne (k := 674)) o0).trans (sR_674 (T := S) (o := o0) rfl))) ((congrFun (congrFun e147 675) o0).trans ((congrFun (up2_ne (k := 675)) o0).trans (sR_675 (T := S) (o := o0) rfl))) ((congrFun (congrFun f148 660) o0).trans (sR_660 (T := S) (o := o0) rfl)))).trans hF.symm)))))
def F_X10_readTwo (bs : Nat → Int32) (n : Int32) (d : DD) (x1 : Int32) (x2 : Int32) : DD :=
  if x1 = 175 then
    let d117 := F_X10_readPlaces bs n d (x2)
    let d126 := F_X10_take bs n d117 (17) ((e8 d117)) ((e9 d117))
    d126
  else
    let d107 := F_X10_readIf_4 bs n d ((x1 - 128))
    d107
theorem q_X10_readTwo_0 {bs : Nat → Int32} {n : Int32} {d : DD} {x1 : Int32} {x2 : Int32} (h0 : x1 = 175) : F_X10_readTwo bs n d x1 x2 = (F_X10_take bs n (F_X10_readPlaces bs n d (x2)) (17) ((e8 (F_X10_readPlaces bs n d (x2)))) ((e9 (F_X10_readPlaces bs n d (x2))))) := by unfold F_X10_readTwo; exact if_pos h0
theorem q_X10_readTwo_1 {bs : Nat → Int32} {n : Int32} {d : DD} {x1 : Int32} {x2 : Int32} (h0 : ¬ x1 = 175) : F_X10_readTwo bs n d x1 x2 = (F_X10_readIf_4 bs n d ((x1 - 128))) := by unfold F_X10_readTwo; exact if_neg h0
set_option maxHeartbeats 40000000 in
theorem ce_X10_readTwo {xi : SX} {S : Hp} {E : List Nat} {kc nc : Nat} {P : Po} {o0 : Nat} {x1 : Int32} {x2 : Int32} {bs : Nat → Int32} {n : Int32} (hG : GI S E) (h0 : Oa S E 10 0 o0) (hb : BR S E o0 bs n) (hP : ∀ r T x y, PV E [654, 655, 657, 658, 659, 662, 672, 673, 674, 675, 9998] S kc nc rV (fun v T => StR T o0 = F_X10_readTwo bs n (StR S o0) x1 x2) [] r T x y → P r T x y) : TT xi M_X10_readTwo 0 [(0, .ref o0), (1, .int x1), (2, .int x2)] [] S kc nc P := by
  have hA : Af E [654, 655, 657, 658, 659, 662, 672, 673, 674, 675, 9998] S S := af_rf
  refine tt_iload_n (j := 1) dX10_readTwo_0 rfl ?_
  refine tt_sipush (v := 175) dX10_readTwo_1 rfl ?_
  refine tt_icmp_ne (tgt := 29) dX10_readTwo_4 rfl (fun q101 => ?_) (fun q101 => ?_)
  · skip
    refine tt_aload_n (j := 0) dX10_readTwo_29 rfl ?_
    refine tt_iload_n (j := 1) dX10_readTwo_30 rfl ?_
    refine tt_sipush (v := 128) dX10_readTwo_31 rfl ?_
    refine tt_isub dX10_readTwo_34 ?_
    refine tt_iconst (v := 4) dX10_readTwo_35 rfl ?_
    refine gt_Vv (As := [.int (x1 - 128), .int 4]) dX10_readTwo_36 ca_X10_150 ⟨by decide, by decide⟩ h0 hA rfl (Nat.le_of_ble_eq_true rfl) (Nat.le_of_ble_eq_true rfl) (by decide) (ce_X10_readIf_4 hG (oa_af h0 hA) (br_af hb h0 hA) (fun _ _ _ _ h => h)) rfl (fun _ h => nomatch h) (fun S102 hx106 hG103 hB104 hA105 => ?_)
    obtain ⟨d107, hd108⟩ : ∃ q, F_X10_readIf_4 bs n (StR S o0) ((x1 - 128)) = q := ⟨_, rfl⟩
    have hq109 := (congrArg (fun q => F_X10_readIf_4 bs n q ((x1 - 128))) (stR_mk (sR_654 (T := S) (o := o0) rfl) (sR_655 (T := S) (o := o0) rfl) (sR_656 (T := S) (o := o0) rfl) (sR_657 (T := S) (o := o0) rfl) (sR_658 (T := S) (o := o0) rfl) (sR_659 (T := S) (o := o0) rfl) (sR_661 (T := S) (o := o0) rfl) (sR_662 (T := S) (o := o0) rfl) (sR_672 (T := S) (o := o0) rfl) (sR_673 (T := S) (o := o0) rfl) (sR_674 (T := S) (o := o0) rfl) (sR_675 (T := S) (o := o0) rfl) (sR_660 (T := S) (o := o0) rfl))).trans hd108
    have hs110 := hx106.trans hq109
    have hF : F_X10_readTwo bs n (StR S o0) x1 x2 = d107 := by
      subst hd108
      exact q_X10_readTwo_1 q101
    exact tt_vreturn dX10_readTwo_39 rfl (hP _ _ _ _ ⟨hG103, hA105, Or.inl ⟨_, rfl, rfl, Eq.trans (stR_mk (sR_654 hs110) (sR_655 hs110) (sR_656 hs110) (sR_657 hs110) (sR_658 hs110) (sR_659 hs110) (sR_661 hs110) (sR_662 hs110) (sR_672 hs110) (sR_673 hs110) (sR_674 hs110) (sR_675 hs110) (sR_660 hs110)) hF.symm, rfl, rfl⟩⟩)
  · skip
    have h111 : Rg 175 175 x1 := rg_eq_l (rg_all x1) (⟨by decide, by decide⟩ : Rg 175 175 175) q101
    refine tt_aload_n (j := 0) dX10_readTwo_7 rfl ?_
    refine tt_iload_n (j := 2) dX10_readTwo_8 rfl ?_
    refine gt_Vv (As := [.int x2]) dX10_readTwo_9 ca_X10_137 ⟨by decide, by decide⟩ h0 hA rfl (Nat.le_of_ble_eq_true rfl) (Nat.le_of_ble_eq_true rfl) (by decide) (ce_X10_readPlaces hG (oa_af h0 hA) (br_af hb h0 hA) (fun _ _ _ _ h => h)) rfl (fun _ h => nomatch h) (fun S112 hx116 hG113 hB114 hA115 => ?_)
    obtain ⟨d117, hd118⟩ : ∃ q, F_X10_readPlaces bs n (StR S o0) (x2) = q := ⟨_, rfl⟩
    have hq119 := (congrArg (fun q => F_X10_readPlaces bs n q (x2)) (stR_mk (sR_654 (T := S) (o := o0) rfl) (sR_655 (T := S) (o := o0) rfl) (sR_656 (T := S) (o := o0) rfl) (sR_657 (T := S) (o := o0) rfl) (sR_658 (T := S) (o := o0) rfl) (sR_659 (T := S) (o := o0) rfl) (sR_661 (T := S) (o := o0) rfl) (sR_662 (T := S) (o := o0) rfl) (sR_672 (T := S) (o := o0) rfl) (sR_673 (T := S) (o := o0) rfl) (sR_674 (T := S) (o := o0) rfl) (sR_675 (T := S) (o := o0) rfl) (sR_660 (T := S) (o := o0) rfl))).trans hd118
    have hs120 := hx116.trans hq119
    refine tt_aload_n (j := 0) dX10_readTwo_12 rfl ?_
    refine tt_bipush (v := 17) dX10_readTwo_13 rfl ?_
    refine tt_aload_n (j := 0) dX10_readTwo_15 rfl ?_
    refine gt_gI (id := 672) (v := (e8 d117)) dX10_readTwo_16 fl_10_97 rfl rfl h0 hA115 (sR_672 hs120) ?_
    refine tt_aload_n (j := 0) dX10_readTwo_19 rfl ?_
    refine gt_gI (id := 673) (v := (e9 d117)) dX10_readTwo_20 fl_10_100 rfl rfl h0 hA115 (sR_673 hs120) ?_
    refine gt_Vv (As := [.int 17, .int (e8 d117), .int (e9 d117)]) dX10_readTwo_23 ca_X10_123 ⟨by decide, by decide⟩ h0 hA115 rfl (Nat.le_of_ble_eq_true rfl) (Nat.le_of_ble_eq_true rfl) (by decide) (ce_X10_take hG113 (oa_af h0 hA115) (br_af hb h0 hA115) (fun _ _ _ _ h => h)) rfl (fun _ h => nomatch h) (fun S121 hx125 hG122 hB123 hA124 => ?_)
    obtain ⟨d126, hd127⟩ : ∃ q, F_X10_take bs n d117 (17) ((e8 d117)) ((e9 d117)) = q := ⟨_, rfl⟩
    have hq128 := (congrArg (fun q => F_X10_take bs n q (17) ((e8 d117)) ((e9 d117))) (stR_mk (sR_654 hs120) (sR_655 hs120) (sR_656 hs120) (sR_657 hs120) (sR_658 hs120) (sR_659 hs120) (sR_661 hs120) (sR_662 hs120) (sR_672 hs120) (sR_673 hs120) (sR_674 hs120) (sR_675 hs120) (sR_660 hs120))).trans hd127
    have hs129 := hx125.trans hq128
    refine tt_goto (tgt := 39) dX10_readTwo_26 rfl ?_
    have hF : F_X10_readTwo bs n (StR S o0) x1 x2 = d126 := by
      subst hd127
      subst hd118
      exact q_X10_readTwo_0 q101
    exact tt_vreturn dX10_readTwo_39 rfl (hP _ _ _ _ ⟨hG122, hA124, Or.inl ⟨_, rfl, rfl, Eq.trans (stR_mk (sR_654 hs129) (sR_655 hs129) (sR_656 hs129) (sR_657 hs129) (sR_658 hs129) (sR_659 hs129) (sR_661 hs129) (sR_662 hs129) (sR_672 hs129) (sR_673 hs129) (sR_674 hs129) (sR_675 hs129) (sR_660 hs129)) hF.symm, rfl, rfl⟩⟩)
def F_X10_readJumps (bs : Nat → Int32) (n : Int32) (d : DD) (x1 : Int32) : DD :=
  if x1 < 112 then
    if x1 = 235 then
      let d115 := F_X10_number_1 bs n ((e0 d), 20, (e2 d), (e3 d), (e4 d), (e5 d), (e6 d), (e7 d), (e8 d), (e9 d), (e10 d), (e11 d), (eJ d)) 
      ((e0 d115.1), (e1 d115.1), (e2 d115.1), (e3 d115.1), (e4 d115.1), (e5 d115.1), (e6 d115.1), (e7 d115.1), (e8 d115.1), (e9 d115.1), (e10 d115.1), (e11 d115.1), (d115.2 + ((e0 d115.1) : Int32).toInt64))
    else
      if x1 = 233 then
        let d165 := F_X10_number_4 bs n ((e0 d), 20, (e2 d), (e3 d), (e4 d), (e5 d), (e6 d), (e7 d), (e8 d), (e9 d), (e10 d), (e11 d), (eJ d)) 
        ((e0 d165.1), (e1 d165.1), (e2 d165.1), (e3 d165.1), (e4 d165.1), (e5 d165.1), (e6 d165.1), (e7 d165.1), (e8 d165.1), (e9 d165.1), (e10 d165.1), (e11 d165.1), (d165.2 + ((e0 d165.1) : Int32).toInt64))
      else
        if x1 = 195 then
          ((e0 d), 22, (e2 d), (e3 d), (e4 d), (e5 d), (e6 d), (e7 d), (e8 d), (e9 d), (e10 d), (e11 d), (eJ d))
        else
          if x1 = 244 then
            ((e0 d), 22, (e2 d), (e3 d), (e4 d), (e5 d), (e6 d), (e7 d), (e8 d), (e9 d), (e10 d), (e11 d), (eJ d))
          else
            if x1 = 144 then
              d
            else
              ((e0 d), (e1 d), (e2 d), (e3 d), (e4 d), (e5 d), (e6 d), 1, (e8 d), (e9 d), (e10 d), (e11 d), (eJ d))
  else
    if 128 ≤ x1 then
      if x1 = 235 then
        let d198 := F_X10_number_1 bs n ((e0 d), 20, (e2 d), (e3 d), (e4 d), (e5 d), (e6 d), (e7 d), (e8 d), (e9 d), (e10 d), (e11 d), (eJ d)) 
        ((e0 d198.1), (e1 d198.1), (e2 d198.1), (e3 d198.1), (e4 d198.1), (e5 d198.1), (e6 d198.1), (e7 d198.1), (e8 d198.1), (e9 d198.1), (e10 d198.1), (e11 d198.1), (d198.2 + ((e0 d198.1) : Int32).toInt64))
      else
        if x1 = 233 then
          let d252 := F_X10_number_4 bs n ((e0 d), 20, (e2 d), (e3 d), (e4 d), (e5 d), (e6 d), (e7 d), (e8 d), (e9 d), (e10 d), (e11 d), (eJ d)) 
          ((e0 d252.1), (e1 d252.1), (e2 d252.1), (e3 d252.1), (e4 d252.1), (e5 d252.1), (e6 d252.1), (e7 d252.1), (e8 d252.1), (e9 d252.1), (e10 d252.1), (e11 d252.1), (d252.2 + ((e0 d252.1) : Int32).toInt64))
        else
          if x1 = 195 then
            ((e0 d), 22, (e2 d), (e3 d), (e4 d), (e5 d), (e6 d), (e7 d), (e8 d), (e9 d), (e10 d), (e11 d), (eJ d))
          else
            if x1 = 244 then
              ((e0 d), 22, (e2 d), (e3 d), (e4 d), (e5 d), (e6 d), (e7 d), (e8 d), (e9 d), (e10 d), (e11 d), (eJ d))
            else
              if x1 = 144 then
                d
              else
                ((e0 d), (e1 d), (e2 d), (e3 d), (e4 d), (e5 d), (e6 d), 1, (e8 d), (e9 d), (e10 d), (e11 d), (eJ d))
    else
      let d275 := F_X10_readIf_1 bs n d ((x1 - 112))
      d275
theorem q_X10_readJumps_0 {bs : Nat → Int32} {n : Int32} {d : DD} {x1 : Int32} (h0 : x1 < 112) (h1 : x1 = 235) : F_X10_readJumps bs n d x1 = ((e0 (F_X10_number_1 bs n ((e0 d), 20, (e2 d), (e3 d), (e4 d), (e5 d), (e6 d), (e7 d), (e8 d), (e9 d), (e10 d), (e11 d), (eJ d))).1), (e1 (F_X10_number_1 bs n ((e0 d), 20, (e2 d), (e3 d), (e4 d), (e5 d), (e6 d), (e7 d), (e8 d), (e9 d), (e10 d), (e11 d), (eJ d))).1), (e2 (F_X10_number_1 bs n ((e0 d), 20, (e2 d), (e3 d), (e4 d), (e5 d), (e6 d), (e7 d), (e8 d), (e9 d), (e10 d), (e11 d), (eJ d))).1), (e3 (F_X10_number_1 bs n ((e0 d), 20, (e2 d), (e3 d), (e4 d), (e5 d), (e6 d), (e7 d), (e8 d), (e9 d), (e10 d), (e11 d), (eJ d))).1), (e4 (F_X10_number_1 bs n ((e0 d), 20, (e2 d), (e3 d), (e4 d), (e5 d), (e6 d), (e7 d), (e8 d), (e9 d), (e10 d), (e11 d), (eJ d))).1), (e5 (F_X10_number_1 bs n ((e0 d), 20, (e2 d), (e3 d), (e4 d), (e5 d), (e6 d), (e7 d), (e8 d), (e9 d), (e10 d), (e11 d), (eJ d))).1), (e6 (F_X10_number_1 bs n ((e0 d), 20, (e2 d), (e3 d), (e4 d), (e5 d), (e6 d), (e7 d), (e8 d), (e9 d), (e10 d), (e11 d), (eJ d))).1), (e7 (F_X10_number_1 bs n ((e0 d), 20, (e2 d), (e3 d), (e4 d), (e5 d), (e6 d), (e7 d), (e8 d), (e9 d), (e10 d), (e11 d), (eJ d))).1), (e8 (F_X10_number_1 bs n ((e0 d), 20, (e2 d), (e3 d), (e4 d), (e5 d), (e6 d), (e7 d), (e8 d), (e9 d), (e10 d), (e11 d), (eJ d))).1), (e9 (F_X10_number_1 bs n ((e0 d), 20, (e2 d), (e3 d), (e4 d), (e5 d), (e6 d), (e7 d), (e8 d), (e9 d), (e10 d), (e11 d), (eJ d))).1), (e10 (F_X10_number_1 bs n ((e0 d), 20, (e2 d), (e3 d), (e4 d), (e5 d), (e6 d), (e7 d), (e8 d), (e9 d), (e10 d), (e11 d), (eJ d))).1), (e11 (F_X10_number_1 bs n ((e0 d), 20, (e2 d), (e3 d), (e4 d), (e5 d), (e6 d), (e7 d), (e8 d), (e9 d), (e10 d), (e11 d), (eJ d))).1), ((F_X10_number_1 bs n ((e0 d), 20, (e2 d), (e3 d), (e4 d), (e5 d), (e6 d), (e7 d), (e8 d), (e9 d), (e10 d), (e11 d), (eJ d))).2 + ((e0 (F_X10_number_1 bs n ((e0 d), 20, (e2 d), (e3 d), (e4 d), (e5 d), (e6 d), (e7 d), (e8 d), (e9 d), (e10 d), (e11 d), (eJ d))).1) : Int32).toInt64)) := by unfold F_X10_readJumps; exact Eq.trans (if_pos h0) (if_pos h1)
theorem q_X10_readJumps_1 {bs : Nat → Int32} {n : Int32} {d : DD} {x1 : Int32} (h0 : x1 < 112) (h1 : ¬ x1 = 235) (h2 : x1 = 233) : F_X10_readJumps bs n d x1 = ((e0 (F_X10_number_4 bs n ((e0 d), 20, (e2 d), (e3 d), (e4 d), (e5 d), (e6 d), (e7 d), (e8 d), (e9 d), (e10 d), (e11 d), (eJ d))).1), (e1 (F_X10_number_4 bs n ((e0 d), 20, (e2 d), (e3 d), (e4 d), (e5 d), (e6 d), (e7 d), (e8 d), (e9 d), (e10 d), (e11 d), (eJ d))).1), (e2 (F_X10_number_4 bs n ((e0 d), 20, (e2 d), (e3 d), (e4 d), (e5 d), (e6 d), (e7 d), (e8 d), (e9 d), (e10 d), (e11 d), (eJ d))).1), (e3 (F_X10_number_4 bs n ((e0 d), 20, (e2 d), (e3 d), (e4 d), (e5 d), (e6 d), (e7 d), (e8 d), (e9 d), (e10 d), (e11 d), (eJ d))).1), (e4 (F_X10_number_4 bs n ((e0 d), 20, (e2 d), (e3 d), (e4 d), (e5 d), (e6 d), (e7 d), (e8 d), (e9 d), (e10 d), (e11 d), (eJ d))).1), (e5 (F_X10_number_4 bs n ((e0 d), 20, (e2 d), (e3 d), (e4 d), (e5 d), (e6 d), (e7 d), (e8 d), (e9 d), (e10 d), (e11 d), (eJ d))).1), (e6 (F_X10_number_4 bs n ((e0 d), 20, (e2 d), (e3 d), (e4 d), (e5 d), (e6 d), (e7 d), (e8 d), (e9 d), (e10 d), (e11 d), (eJ d))).1), (e7 (F_X10_number_4 bs n ((e0 d), 20, (e2 d), (e3 d), (e4 d), (e5 d), (e6 d), (e7 d), (e8 d), (e9 d), (e10 d), (e11 d), (eJ d))).1), (e8 (F_X10_number_4 bs n ((e0 d), 20, (e2 d), (e3 d), (e4 d), (e5 d), (e6 d), (e7 d), (e8 d), (e9 d), (e10 d), (e11 d), (eJ d))).1), (e9 (F_X10_number_4 bs n ((e0 d), 20, (e2 d), (e3 d), (e4 d), (e5 d), (e6 d), (e7 d), (e8 d), (e9 d), (e10 d), (e11 d), (eJ d))).1), (e10 (F_X10_number_4 bs n ((e0 d), 20, (e2 d), (e3 d), (e4 d), (e5 d), (e6 d), (e7 d), (e8 d), (e9 d), (e10 d), (e11 d), (eJ d))).1), (e11 (F_X10_number_4 bs n ((e0 d), 20, (e2 d), (e3 d), (e4 d), (e5 d), (e6 d), (e7 d), (e8 d), (e9 d), (e10 d), (e11 d), (eJ d))).1), ((F_X10_number_4 bs n ((e0 d), 20, (e2 d), (e3 d), (e4 d), (e5 d), (e6 d), (e7 d), (e8 d), (e9 d), (e10 d), (e11 d), (eJ d))).2 + ((e0 (F_X10_number_4 bs n ((e0 d), 20, (e2 d), (e3 d), (e4 d), (e5 d), (e6 d), (e7 d), (e8 d), (e9 d), (e10 d), (e11 d), (eJ d))).1) : Int32).toInt64)) := by unfold F_X10_readJumps; exact Eq.trans (if_pos h0) (Eq.trans (if_neg h1) (if_pos h2))
theorem q_X10_readJumps_2 {bs : Nat → Int32} {n : Int32} {d : DD} {x1 : Int32} (h0 : x1 < 112) (h1 : ¬ x1 = 235) (h2 : ¬ x1 = 233) (h3 : x1 = 195) : F_X10_readJumps bs n d x1 = ((e0 d), 22, (e2 d), (e3 d), (e4 d), (e5 d), (e6 d), (e7 d), (e8 d), (e9 d), (e10 d), (e11 d), (eJ d)) := by unfold F_X10_readJumps; exact Eq.trans (if_pos h0) (Eq.trans (if_neg h1) (Eq.trans (if_neg h2) (if_pos h3)))
theorem q_X10_readJumps_3 {bs : Nat → Int32} {n : Int32} {d : DD} {x1 : Int32} (h0 : x1 < 112) (h1 : ¬ x1 = 235) (h2 : ¬ x1 = 233) (h3 : ¬ x1 = 195) (h4 : x1 = 244) : F_X10_readJumps bs n d x1 = ((e0 d), 22, (e2 d), (e3 d), (e4 d), (e5 d), (e6 d), (e7 d), (e8 d), (e9 d), (e10 d), (e11 d), (eJ d)) := by unfold F_X10_readJumps; exact Eq.trans (if_pos h0) (Eq.trans (if_neg h1) (Eq.trans (if_neg h2) (Eq.trans (if_neg h3) (if_pos h4))))
theorem q_X10_readJumps_4 {bs : Nat → Int32} {n : Int32} {d : DD} {x1 : Int32} (h0 : x1 < 112) (h1 : ¬ x1 = 235) (h2 : ¬ x1 = 233) (h3 : ¬ x1 = 195) (h4 : ¬ x1 = 244) (h5 : x1 = 144) : F_X10_readJumps bs n d x1 = d := by unfold F_X10_readJumps; exact Eq.trans (if_pos h0) (Eq.trans (if_neg h1) (Eq.trans (if_neg h2) (Eq.trans (if_neg h3) (Eq.trans (if_neg h4) (if_pos h5)))))
theorem q_X10_readJumps_5 {bs : Nat → Int32} {n : Int32} {d : DD} {x1 : Int32} (h0 : x1 < 112) (h1 : ¬ x1 = 235) (h2 : ¬ x1 = 233) (h3 : ¬ x1 = 195) (h4 : ¬ x1 = 244) (h5 : ¬ x1 = 144) : F_X10_readJumps bs n d x1 = ((e0 d), (e1 d), (e2 d), (e3 d), (e4 d), (e5 d), (e6 d), 1, (e8 d), (e9 d), (e10 d), (e11 d), (eJ d)) := by unfold F_X10_readJumps; exact Eq.trans (if_pos h0) (Eq.trans (if_neg h1) (Eq.trans (if_neg h2) (Eq.trans (if_neg h3) (Eq.trans (if_neg h4) (if_neg h5)))))
theorem q_X10_readJumps_6 {bs : Nat → Int32} {n : Int32} {d : DD} {x1 : Int32} (h0 : ¬ x1 < 112) (h1 : 128 ≤ x1) (h2 : x1 = 235) : F_X10_readJumps bs n d x1 = ((e0 (F_X10_number_1 bs n ((e0 d), 20, (e2 d), (e3 d), (e4 d), (e5 d), (e6 d), (e7 d), (e8 d), (e9 d), (e10 d), (e11 d), (eJ d))).1), (e1 (F_X10_number_1 bs n ((e0 d), 20, (e2 d), (e3 d), (e4 d), (e5 d), (e6 d), (e7 d), (e8 d), (e9 d), (e10 d), (e11 d), (eJ d))).1), (e2 (F_X10_number_1 bs n ((e0 d), 20, (e2 d), (e3 d), (e4 d), (e5 d), (e6 d), (e7 d), (e8 d), (e9 d), (e10 d), (e11 d), (eJ d))).1), (e3 (F_X10_number_1 bs n ((e0 d), 20, (e2 d), (e3 d), (e4 d), (e5 d), (e6 d), (e7 d), (e8 d), (e9 d), (e10 d), (e11 d), (eJ d))).1), (e4 (F_X10_number_1 bs n ((e0 d), 20, (e2 d), (e3 d), (e4 d), (e5 d), (e6 d), (e7 d), (e8 d), (e9 d), (e10 d), (e11 d), (eJ d))).1), (e5 (F_X10_number_1 bs n ((e0 d), 20, (e2 d), (e3 d), (e4 d), (e5 d), (e6 d), (e7 d), (e8 d), (e9 d), (e10 d), (e11 d), (eJ d))).1), (e6 (F_X10_number_1 bs n ((e0 d), 20, (e2 d), (e3 d), (e4 d), (e5 d), (e6 d), (e7 d), (e8 d), (e9 d), (e10 d), (e11 d), (eJ d))).1), (e7 (F_X10_number_1 bs n ((e0 d), 20, (e2 d), (e3 d), (e4 d), (e5 d), (e6 d), (e7 d), (e8 d), (e9 d), (e10 d), (e11 d), (eJ d))).1), (e8 (F_X10_number_1 bs n ((e0 d), 20, (e2 d), (e3 d), (e4 d), (e5 d), (e6 d), (e7 d), (e8 d), (e9 d), (e10 d), (e11 d), (eJ d))).1), (e9 (F_X10_number_1 bs n ((e0 d), 20, (e2 d), (e3 d), (e4 d), (e5 d), (e6 d), (e7 d), (e8 d), (e9 d), (e10 d), (e11 d), (eJ d))).1), (e10 (F_X10_number_1 bs n ((e0 d), 20, (e2 d), (e3 d), (e4 d), (e5 d), (e6 d), (e7 d), (e8 d), (e9 d), (e10 d), (e11 d), (eJ d))).1), (e11 (F_X10_number_1 bs n ((e0 d), 20, (e2 d), (e3 d), (e4 d), (e5 d), (e6 d), (e7 d), (e8 d), (e9 d), (e10 d), (e11 d), (eJ d))).1), ((F_X10_number_1 bs n ((e0 d), 20, (e2 d), (e3 d), (e4 d), (e5 d), (e6 d), (e7 d), (e8 d), (e9 d), (e10 d), (e11 d), (eJ d))).2 + ((e0 (F_X10_number_1 bs n ((e0 d), 20, (e2 d), (e3 d), (e4 d), (e5 d), (e6 d), (e7 d), (e8 d), (e9 d), (e10 d), (e11 d), (eJ d))).1) : Int32).toInt64)) := by unfold F_X10_readJumps; exact Eq.trans (if_neg h0) (Eq.trans (if_pos h1) (if_pos h2))
theorem q_X10_readJumps_7 {bs : Nat → Int32} {n : Int32} {d : DD} {x1 : Int32} (h0 : ¬ x1 < 112) (h1 : 128 ≤ x1) (h2 : ¬ x1 = 235) (h3 : x1 = 233) : F_X10_readJumps bs n d x1 = ((e0 (F_X10_number_4 bs n ((e0 d), 20, (e2 d), (e3 d), (e4 d), (e5 d), (e6 d), (e7 d), (e8 d), (e9 d), (e10 d), (e11 d), (eJ d))).1), (e1 (F_X10_number_4 bs n ((e0 d), 20, (e2 d), (e3 d), (e4 d), (e5 d), (e6 d), (e7 d), (e8 d), (e9 d), (e10 d), (e11 d), (eJ d))).1), (e2 (F_X10_number_4 bs n ((e0 d), 20, (e2 d), (e3 d), (e4 d), (e5 d), (e6 d), (e7 d), (e8 d), (e9 d), (e10 d), (e11 d), (eJ d))).1), (e3 (F_X10_number_4 bs n ((e0 d), 20, (e2 d), (e3 d), (e4 d), (e5 d), (e6 d), (e7 d), (e8 d), (e9 d), (e10 d), (e11 d), (eJ d))).1), (e4 (F_X10_number_4 bs n ((e0 d), 20, (e2 d), (e3 d), (e4 d), (e5 d), (e6 d), (e7 d), (e8 d), (e9 d), (e10 d), (e11 d), (eJ d))).1), (e5 (F_X10_number_4 bs n ((e0 d), 20, (e2 d), (e3 d), (e4 d), (e5 d), (e6 d), (e7 d), (e8 d), (e9 d), (e10 d), (e11 d), (eJ d))).1), (e6 (F_X10_number_4 bs n ((e0 d), 20, (e2 d), (e3 d), (e4 d), (e5 d), (e6 d), (e7 d), (e8 d), (e9 d), (e10 d), (e11 d), (eJ d))).1), (e7 (F_X10_number_4 bs n ((e0 d), 20, (e2 d), (e3 d), (e4 d), (e5 d), (e6 d), (e7 d), (e8 d), (e9 d), (e10 d), (e11 d), (eJ d))).1), (e8 (F_X10_number_4 bs n ((e0 d), 20, (e2 d), (e3 d), (e4 d), (e5 d), (e6 d), (e7 d), (e8 d), (e9 d), (e10 d), (e11 d), (eJ d))).1), (e9 (F_X10_number_4 bs n ((e0 d), 20, (e2 d), (e3 d), (e4 d), (e5 d), (e6 d), (e7 d), (e8 d), (e9 d), (e10 d), (e11 d), (eJ d))).1), (e10 (F_X10_number_4 bs n ((e0 d), 20, (e2 d), (e3 d), (e4 d), (e5 d), (e6 d), (e7 d), (e8 d), (e9 d), (e10 d), (e11 d), (eJ d))).1), (e11 (F_X10_number_4 bs n ((e0 d), 20, (e2 d), (e3 d), (e4 d), (e5 d), (e6 d), (e7 d), (e8 d), (e9 d), (e10 d), (e11 d), (eJ d))).1), ((F_X10_number_4 bs n ((e0 d), 20, (e2 d), (e3 d), (e4 d), (e5 d), (e6 d), (e7 d), (e8 d), (e9 d), (e10 d), (e11 d), (eJ d))).2 + ((e0 (F_X10_number_4 bs n ((e0 d), 20, (e2 d), (e3 d), (e4 d), (e5 d), (e6 d), (e7 d), (e8 d), (e9 d), (e10 d), (e11 d), (eJ d))).1) : Int32).toInt64)) := by unfold F_X10_readJumps; exact Eq.trans (if_neg h0) (Eq.trans (if_pos h1) (Eq.trans (if_neg h2) (if_pos h3)))
theorem q_X10_readJumps_8 {bs : Nat → Int32} {n : Int32} {d : DD} {x1 : Int32} (h0 : ¬ x1 < 112) (h1 : 128 ≤ x1) (h2 : ¬ x1 = 235) (h3 : ¬ x1 = 233) (h4 : x1 = 195) : F_X10_readJumps bs n d x1 = ((e0 d), 22, (e2 d), (e3 d), (e4 d), (e5 d), (e6 d), (e7 d), (e8 d), (e9 d), (e10 d), (e11 d), (eJ d)) := by unfold F_X10_readJumps; exact Eq.trans (if_neg h0) (Eq.trans (if_pos h1) (Eq.trans (if_neg h2) (Eq.trans (if_neg h3) (if_pos h4))))
theorem q_X10_readJumps_9 {bs : Nat → Int32} {n : Int32} {d : DD} {x1 : Int32} (h0 : ¬ x1 < 112) (h1 : 128 ≤ x1) (h2 : ¬ x1 = 235) (h3 : ¬ x1 = 233) (h4 : ¬ x1 = 195) (h5 : x1 = 244) : F_X10_readJumps bs n d x1 = ((e0 d), 22, (e2 d), (e3 d), (e4 d), (e5 d), (e6 d), (e7 d), (e8 d), (e9 d), (e10 d), (e11 d), (eJ d)) := by unfold F_X10_readJumps; exact Eq.trans (if_neg h0) (Eq.trans (if_pos h1) (Eq.trans (if_neg h2) (Eq.trans (if_neg h3) (Eq.trans (if_neg h4) (if_pos h5)))))
theorem q_X10_readJumps_10 {bs : Nat → Int32} {n : Int32} {d : DD} {x1 : Int32} (h0 : ¬ x1 < 112) (h1 : 128 ≤ x1) (h2 : ¬ x1 = 235) (h3 : ¬ x1 = 233) (h4 : ¬ x1 = 195) (h5 : ¬ x1 = 244) (h6 : x1 = 144) : F_X10_readJumps bs n d x1 = d := by unfold F_X10_readJumps; exact Eq.trans (if_neg h0) (Eq.trans (if_pos h1) (Eq.trans (if_neg h2) (Eq.trans (if_neg h3) (Eq.trans (if_neg h4) (Eq.trans (if_neg h5) (if_pos h6))))))
theorem q_X10_readJumps_11 {bs : Nat → Int32} {n : Int32} {d : DD} {x1 : Int32} (h0 : ¬ x1 < 112) (h1 : 128 ≤ x1) (h2 : ¬ x1 = 235) (h3 : ¬ x1 = 233) (h4 : ¬ x1 = 195) (h5 : ¬ x1 = 244) (h6 : ¬ x1 = 144) : F_X10_readJumps bs n d x1 = ((e0 d), (e1 d), (e2 d), (e3 d), (e4 d), (e5 d), (e6 d), 1, (e8 d), (e9 d), (e10 d), (e11 d), (eJ d)) := by unfold F_X10_readJumps; exact Eq.trans (if_neg h0) (Eq.trans (if_pos h1) (Eq.trans (if_neg h2) (Eq.trans (if_neg h3) (Eq.trans (if_neg h4) (Eq.trans (if_neg h5) (if_neg h6))))))
theorem q_X10_readJumps_12 {bs : Nat → Int32} {n : Int32} {d : DD} {x1 : Int32} (h0 : ¬ x1 < 112) (h1 : ¬ 128 ≤ x1) : F_X10_readJumps bs n d x1 = (F_X10_readIf_1 bs n d ((x1 - 112))) := by unfold F_X10_readJumps; exact Eq.trans (if_neg h0) (if_neg h1)
set_option maxHeartbeats 40000000 in
theorem ce_X10_readJumps {xi : SX} {S : Hp} {E : List Nat} {kc nc : Nat} {P : Po} {o0 : Nat} {x1 : Int32} {bs : Nat → Int32} {n : Int32} (hG : GI S E) (h0 : Oa S E 10 0 o0) (hb : BR S E o0 bs n) (hP : ∀ r T x y, PV E [654, 655, 659, 662, 9998] S kc nc rV (fun v T => StR T o0 = F_X10_readJumps bs n (StR S o0) x1) [] r T x y → P r T x y) : TT xi M_X10_readJumps 0 [(0, .ref o0), (1, .int x1)] [] S kc nc P := by
  have hA : Af E [654, 655, 659, 662, 9998] S S := af_rf
  refine tt_iload_n (j := 1) dX10_readJumps_0 rfl ?_
  refine tt_bipush (v := 112) dX10_readJumps_1 rfl ?_
  refine tt_icmp_lt (tgt := 25) dX10_readJumps_3 rfl (fun q101 => ?_) (fun q101 => ?_)
  · skip
    have h102 : Rg (-2147483648) 111 x1 := rg_lt_l (rg_all x1) (⟨by decide, by decide⟩ : Rg 112 112 112) q101
    refine tt_iload_n (j := 1) dX10_readJumps_25 rfl ?_
    refine tt_sipush (v := 235) dX10_readJumps_26 rfl ?_
    refine tt_icmp_eq (tgt := 39) dX10_readJumps_29 rfl (fun q103 => ?_) (fun q103 => ?_)
    · skip
      refine tt_aload_n (j := 0) dX10_readJumps_39 rfl ?_
      refine tt_bipush (v := 20) dX10_readJumps_40 rfl ?_
      refine gt_pI (id := 655) (x := 20) dX10_readJumps_42 fl_10_107 rfl rfl h0 hA rfl rfl rfl (gp_I hG) (by decide) (fun h => absurd h (by decide)) (fun h => absurd h (by decide)) (fun S104 hG105 hA106 e107 f108 er109 => ?_)
      refine tt_aload_n (j := 0) dX10_readJumps_45 rfl ?_
      refine tt_aload_n (j := 0) dX10_readJumps_46 rfl ?_
      refine tt_iload_n (j := 1) dX10_readJumps_47 rfl ?_
      refine tt_sipush (v := 235) dX10_readJumps_48 rfl ?_
      refine tt_icmp_ne (tgt := 58) dX10_readJumps_51 rfl (fun q => absurd q103 q) (fun _ => ?_)
      refine tt_iconst (v := 1) dX10_readJumps_54 rfl ?_
      refine tt_goto (tgt := 59) dX10_readJumps_55 rfl ?_
      refine gt_VJ (As := [.int 1]) dX10_readJumps_59 ca_X10_103 ⟨by decide, by decide⟩ h0 hA106 rfl (Nat.le_of_ble_eq_true rfl) (Nat.le_of_ble_eq_true rfl) (by decide) (ce_X10_number_1 hG105 (oa_af h0 hA106) (br_af hb h0 hA106) (fun _ _ _ _ h => h)) rfl (fun _ h => nomatch h) (fun S110 y119 hx114 hG111 hB112 hA113 => ?_)
      obtain ⟨d115, hd116⟩ : ∃ q, F_X10_number_1 bs n ((e0 (StR S o0)), 20, (e2 (StR S o0)), (e3 (StR S o0)), (e4 (StR S o0)), (e5 (StR S o0)), (e6 (StR S o0)), (e7 (StR S o0)), (e8 (StR S o0)), (e9 (StR S o0)), (e10 (StR S o0)), (e11 (StR S o0)), (eJ (StR S o0)))  = q := ⟨_, rfl⟩
      have hq117 := (congrArg (fun q => F_X10_number_1 bs n q ) (stR_mk ((congrFun (congrFun e107 654) o0).trans ((congrFun (up2_ne (k := 654)) o0).trans (sR_654 (T := S) (o := o0) rfl))) (by rw [e107]; exact up2_self) ((congrFun (congrFun e107 656) o0).trans ((congrFun (up2_ne (k := 656)) o0).trans (sR_656 (T := S) (o := o0) rfl))) ((congrFun (congrFun e107 657) o0).trans ((congrFun (up2_ne (k := 657)) o0).trans (sR_657 (T := S) (o := o0) rfl))) ((congrFun (congrFun e107 658) o0).trans ((congrFun (up2_ne (k := 658)) o0).trans (sR_658 (T := S) (o := o0) rfl))) ((congrFun (congrFun e107 659) o0).trans ((congrFun (up2_ne (k := 659)) o0).trans (sR_659 (T := S) (o := o0) rfl))) ((congrFun (congrFun e107 661) o0).trans ((congrFun (up2_ne (k := 661)) o0).trans (sR_661 (T := S) (o := o0) rfl))) ((congrFun (congrFun e107 662) o0).trans ((congrFun (up2_ne (k := 662)) o0).trans (sR_662 (T := S) (o := o0) rfl))) ((congrFun (congrFun e107 672) o0).trans ((congrFun (up2_ne (k := 672)) o0).trans (sR_672 (T := S) (o := o0) rfl))) ((congrFun (congrFun e107 673) o0).trans ((congrFun (up2_ne (k := 673)) o0).trans (sR_673 (T := S) (o := o0) rfl))) ((congrFun (congrFun e107 674) o0).trans ((congrFun (up2_ne (k := 674)) o0).trans (sR_674 (T := S) (o := o0) rfl))) ((congrFun (congrFun e107 675) o0).trans ((congrFun (up2_ne (k := 675)) o0).trans (sR_675 (T := S) (o := o0) rfl))) ((congrFun (congrFun f108 660) o0).trans (sR_660 (T := S) (o := o0) rfl)))).trans hd116
      have hs118 := hx114.2.trans (congrArg Prod.fst hq117)
      obtain rfl : y119 = d115.2 := (xjR_v hx114).trans (congrArg Prod.snd hq117)
      refine gt_pJ (id := 660) (x := d115.2) dX10_readJumps_62 fl_10_116 rfl rfl h0 hA113 rfl rfl rfl hG111 (fun S120 hG121 hA122 e123 f124 er125 => ?_)
      refine tt_aload_n (j := 0) dX10_readJumps_65 rfl ?_
      refine tt_aload_n (j := 0) dX10_readJumps_66 rfl ?_
      refine gt_gJ (id := 660) (v := d115.2) dX10_readJumps_67 fl_10_116 rfl rfl h0 hA122 (by rw [f124]; exact up2_self) ?_
      refine tt_aload_n (j := 0) dX10_readJumps_70 rfl ?_
      refine gt_gI (id := 654) (v := (e0 d115.1)) dX10_readJumps_71 fl_10_81 rfl rfl h0 hA122 ((congrFun (congrFun e123 654) o0).trans (sR_654 hs118)) ?_
      refine tt_i2l dX10_readJumps_74 ?_
      refine tt_ladd dX10_readJumps_75 ?_
      refine gt_pJ (id := 660) (x := (d115.2 + ((e0 d115.1) : Int32).toInt64)) dX10_readJumps_76 fl_10_116 rfl rfl h0 hA122 rfl rfl rfl hG121 (fun S126 hG127 hA128 e129 f130 er131 => ?_)
      refine tt_goto (tgt := 117) dX10_readJumps_79 rfl ?_
      have hF : F_X10_readJumps bs n (StR S o0) x1 = ((e0 d115.1), (e1 d115.1), (e2 d115.1), (e3 d115.1), (e4 d115.1), (e5 d115.1), (e6 d115.1), (e7 d115.1), (e8 d115.1), (e9 d115.1), (e10 d115.1), (e11 d115.1), (d115.2 + ((e0 d115.1) : Int32).toInt64)) := by
        subst hd116
        exact q_X10_readJumps_0 q101 q103
      exact tt_vreturn dX10_readJumps_117 rfl (hP _ _ _ _ ⟨hG127, hA128, Or.inl ⟨_, rfl, rfl, Eq.trans (stR_mk ((congrFun (congrFun e129 654) o0).trans ((congrFun (congrFun e123 654) o0).trans (sR_654 hs118))) ((congrFun (congrFun e129 655) o0).trans ((congrFun (congrFun e123 655) o0).trans (sR_655 hs118))) ((congrFun (congrFun e129 656) o0).trans ((congrFun (congrFun e123 656) o0).trans (sR_656 hs118))) ((congrFun (congrFun e129 657) o0).trans ((congrFun (congrFun e123 657) o0).trans (sR_657 hs118))) ((congrFun (congrFun e129 658) o0).trans ((congrFun (congrFun e123 658) o0).trans (sR_658 hs118))) ((congrFun (congrFun e129 659) o0).trans ((congrFun (congrFun e123 659) o0).trans (sR_659 hs118))) ((congrFun (congrFun e129 661) o0).trans ((congrFun (congrFun e123 661) o0).trans (sR_661 hs118))) ((congrFun (congrFun e129 662) o0).trans ((congrFun (congrFun e123 662) o0).trans (sR_662 hs118))) ((congrFun (congrFun e129 672) o0).trans ((congrFun (congrFun e123 672) o0).trans (sR_672 hs118))) ((congrFun (congrFun e129 673) o0).trans ((congrFun (congrFun e123 673) o0).trans (sR_673 hs118))) ((congrFun (congrFun e129 674) o0).trans ((congrFun (congrFun e123 674) o0).trans (sR_674 hs118))) ((congrFun (congrFun e129 675) o0).trans ((congrFun (congrFun e123 675) o0).trans (sR_675 hs118))) (by rw [f130]; exact up2_self)) hF.symm, rfl, rfl⟩⟩)
    · skip
      refine tt_iload_n (j := 1) dX10_readJumps_32 rfl ?_
      refine tt_sipush (v := 233) dX10_readJumps_33 rfl ?_
      refine tt_icmp_ne (tgt := 82) dX10_readJumps_36 rfl (fun q132 => ?_) (fun q132 => ?_)
      · skip
        refine tt_iload_n (j := 1) dX10_readJumps_82 rfl ?_
        refine tt_sipush (v := 195) dX10_readJumps_83 rfl ?_
        refine tt_icmp_eq (tgt := 96) dX10_readJumps_86 rfl (fun q133 => ?_) (fun q133 => ?_)
        · skip
          refine tt_aload_n (j := 0) dX10_readJumps_96 rfl ?_
          refine tt_bipush (v := 22) dX10_readJumps_97 rfl ?_
          refine gt_pI (id := 655) (x := 22) dX10_readJumps_99 fl_10_107 rfl rfl h0 hA rfl rfl rfl (gp_I hG) (by decide) (fun h => absurd h (by decide)) (fun h => absurd h (by decide)) (fun S134 hG135 hA136 e137 f138 er139 => ?_)
          refine tt_goto (tgt := 117) dX10_readJumps_102 rfl ?_
          have hF : F_X10_readJumps bs n (StR S o0) x1 = ((e0 (StR S o0)), 22, (e2 (StR S o0)), (e3 (StR S o0)), (e4 (StR S o0)), (e5 (StR S o0)), (e6 (StR S o0)), (e7 (StR S o0)), (e8 (StR S o0)), (e9 (StR S o0)), (e10 (StR S o0)), (e11 (StR S o0)), (eJ (StR S o0))) := by
            exact q_X10_readJumps_2 q101 q103 q132 q133
          exact tt_vreturn dX10_readJumps_117 rfl (hP _ _ _ _ ⟨hG135, hA136, Or.inl ⟨_, rfl, rfl, Eq.trans (stR_mk ((congrFun (congrFun e137 654) o0).trans ((congrFun (up2_ne (k := 654)) o0).trans (sR_654 (T := S) (o := o0) rfl))) (by rw [e137]; exact up2_self) ((congrFun (congrFun e137 656) o0).trans ((congrFun (up2_ne (k := 656)) o0).trans (sR_656 (T := S) (o := o0) rfl))) ((congrFun (congrFun e137 657) o0).trans ((congrFun (up2_ne (k := 657)) o0).trans (sR_657 (T := S) (o := o0) rfl))) ((congrFun (congrFun e137 658) o0).trans ((congrFun (up2_ne (k := 658)) o0).trans (sR_658 (T := S) (o := o0) rfl))) ((congrFun (congrFun e137 659) o0).trans ((congrFun (up2_ne (k := 659)) o0).trans (sR_659 (T := S) (o := o0) rfl))) ((congrFun (congrFun e137 661) o0).trans ((congrFun (up2_ne (k := 661)) o0).trans (sR_661 (T := S) (o := o0) rfl))) ((congrFun (congrFun e137 662) o0).trans ((congrFun (up2_ne (k := 662)) o0).trans (sR_662 (T := S) (o := o0) rfl))) ((congrFun (congrFun e137 672) o0).trans ((congrFun (up2_ne (k := 672)) o0).trans (sR_672 (T := S) (o := o0) rfl))) ((congrFun (congrFun e137 673) o0).trans ((congrFun (up2_ne (k := 673)) o0).trans (sR_673 (T := S) (o := o0) rfl))) ((congrFun (congrFun e137 674) o0).trans ((congrFun (up2_ne (k := 674)) o0).trans (sR_674 (T := S) (o := o0) rfl))) ((congrFun (congrFun e137 675) o0).trans ((congrFun (up2_ne (k := 675)) o0).trans (sR_675 (T := S) (o := o0) rfl))) ((congrFun (congrFun f138 660) o0).trans (sR_660 (T := S) (o := o0) rfl))) hF.symm, rfl, rfl⟩⟩)
        · skip
          refine tt_iload_n (j := 1) dX10_readJumps_89 rfl ?_
          refine tt_sipush (v := 244) dX10_readJumps_90 rfl ?_
          refine tt_icmp_ne (tgt := 105) dX10_readJumps_93 rfl (fun q140 => ?_) (fun q140 => ?_)
          · skip
            refine tt_iload_n (j := 1) dX10_readJumps_105 rfl ?_
            refine tt_sipush (v := 144) dX10_readJumps_106 rfl ?_
            refine tt_icmp_eq (tgt := 117) dX10_readJumps_109 rfl (fun q141 => ?_) (fun q141 => ?_)
            · skip
              have hF : F_X10_readJumps bs n (StR S o0) x1 = (StR S o0) := by
                exact q_X10_readJumps_4 q101 q103 q132 q133 q140 q141
              exact tt_vreturn dX10_readJumps_117 rfl (hP _ _ _ _ ⟨hG, hA, Or.inl ⟨_, rfl, rfl, Eq.trans (stR_mk (sR_654 (T := S) (o := o0) rfl) (sR_655 (T := S) (o := o0) rfl) (sR_656 (T := S) (o := o0) rfl) (sR_657 (T := S) (o := o0) rfl) (sR_658 (T := S) (o := o0) rfl) (sR_659 (T := S) (o := o0) rfl) (sR_661 (T := S) (o := o0) rfl) (sR_662 (T := S) (o := o0) rfl) (sR_672 (T := S) (o := o0) rfl) (sR_673 (T := S) (o := o0) rfl) (sR_674 (T := S) (o := o0) rfl) (sR_675 (T := S) (o := o0) rfl) (sR_660 (T := S) (o := o0) rfl)) hF.symm, rfl, rfl⟩⟩)
            · skip
              refine tt_aload_n (j := 0) dX10_readJumps_112 rfl ?_
              refine tt_iconst (v := 1) dX10_readJumps_113 rfl ?_
              refine gt_pI (id := 662) (x := 1) dX10_readJumps_114 fl_10_84 rfl rfl h0 hA rfl rfl rfl (gp_Ir hG (⟨by decide, by decide⟩ : Rg 1 1 1)) (by decide) (fun _ h => absurd (by decide) h) (fun h => absurd h (by decide)) (fun S142 hG143 hA144 e145 f146 er147 => ?_)
              have hF : F_X10_readJumps bs n (StR S o0) x1 = ((e0 (StR S o0)), (e1 (StR S o0)), (e2 (StR S o0)), (e3 (StR S o0)), (e4 (StR S o0)), (e5 (StR S o0)), (e6 (StR S o0)), 1, (e8 (StR S o0)), (e9 (StR S o0)), (e10 (StR S o0)), (e11 (StR S o0)), (eJ (StR S o0))) := by
                exact q_X10_readJumps_5 q101 q103 q132 q133 q140 q141
              exact tt_vreturn dX10_readJumps_117 rfl (hP _ _ _ _ ⟨hG143, hA144, Or.inl ⟨_, rfl, rfl, Eq.trans (stR_mk ((congrFun (congrFun e145 654) o0).trans ((congrFun (up2_ne (k := 654)) o0).trans (sR_654 (T := S) (o := o0) rfl))) ((congrFun (congrFun e145 655) o0).trans ((congrFun (up2_ne (k := 655)) o0).trans (sR_655 (T := S) (o := o0) rfl))) ((congrFun (congrFun e145 656) o0).trans ((congrFun (up2_ne (k := 656)) o0).trans (sR_656 (T := S) (o := o0) rfl))) ((congrFun (congrFun e145 657) o0).trans ((congrFun (up2_ne (k := 657)) o0).trans (sR_657 (T := S) (o := o0) rfl))) ((congrFun (congrFun e145 658) o0).trans ((congrFun (up2_ne (k := 658)) o0).trans (sR_658 (T := S) (o := o0) rfl))) ((congrFun (congrFun e145 659) o0).trans ((congrFun (up2_ne (k := 659)) o0).trans (sR_659 (T := S) (o := o0) rfl))) ((congrFun (congrFun e145 661) o0).trans ((congrFun (up2_ne (k := 661)) o0).trans (sR_661 (T := S) (o := o0) rfl))) (by rw [e145]; exact up2_self) ((congrFun (congrFun e145 672) o0).trans ((congrFun (up2_ne (k := 672)) o0).trans (sR_672 (T := S) (o := o0) rfl))) ((congrFun (congrFun e145 673) o0).trans ((congrFun (up2_ne (k := 673)) o0).trans (sR_673 (T := S) (o := o0) rfl))) ((congrFun (congrFun e145 674) o0).trans ((congrFun (up2_ne (k := 674)) o0).trans (sR_674 (T := S) (o := o0) rfl))) ((congrFun (congrFun e145 675) o0).trans ((congrFun (up2_ne (k := 675)) o0).trans (sR_675 (T := S) (o := o0) rfl))) ((congrFun (congrFun f146 660) o0).trans (sR_660 (T := S) (o := o0) rfl))) hF.symm, rfl, rfl⟩⟩)
          · skip
            refine tt_aload_n (j := 0) dX10_readJumps_96 rfl ?_
            refine tt_bipush (v := 22) dX10_readJumps_97 rfl ?_
            refine gt_pI (id := 655) (x := 22) dX10_readJumps_99 fl_10_107 rfl rfl h0 hA rfl rfl rfl (gp_I hG) (by decide) (fun h => absurd h (by decide)) (fun h => absurd h (by decide)) (fun S148 hG149 hA150 e151 f152 er153 => ?_)
            refine tt_goto (tgt := 117) dX10_readJumps_102 rfl ?_
            have hF : F_X10_readJumps bs n (StR S o0) x1 = ((e0 (StR S o0)), 22, (e2 (StR S o0)), (e3 (StR S o0)), (e4 (StR S o0)), (e5 (StR S o0)), (e6 (StR S o0)), (e7 (StR S o0)), (e8 (StR S o0)), (e9 (StR S o0)), (e10 (StR S o0)), (e11 (StR S o0)), (eJ (StR S o0))) := by
              exact q_X10_readJumps_3 q101 q103 q132 q133 q140
            exact tt_vreturn dX10_readJumps_117 rfl (hP _ _ _ _ ⟨hG149, hA150, Or.inl ⟨_, rfl, rfl, Eq.trans (stR_mk ((congrFun (congrFun e151 654) o0).trans ((congrFun (up2_ne (k := 654)) o0).trans (sR_654 (T := S) (o := o0) rfl))) (by rw [e151]; exact up2_self) ((congrFun (congrFun e151 656) o0).trans ((congrFun (up2_ne (k := 656)) o0).trans (sR_656 (T := S) (o := o0) rfl))) ((congrFun (congrFun e151 657) o0).trans ((congrFun (up2_ne (k := 657)) o0).trans (sR_657 (T := S) (o := o0) rfl))) ((congrFun (congrFun e151 658) o0).trans ((congrFun (up2_ne (k := 658)) o0).trans (sR_658 (T := S) (o := o0) rfl))) ((congrFun (congrFun e151 659) o0).trans ((congrFun (up2_ne (k := 659)) o0).trans (sR_659 (T := S) (o := o0) rfl))) ((congrFun (congrFun e151 661) o0).trans ((congrFun (up2_ne (k := 661)) o0).trans (sR_661 (T := S) (o := o0) rfl))) ((congrFun (congrFun e151 662) o0).trans ((congrFun (up2_ne (k := 662)) o0).trans (sR_662 (T := S) (o := o0) rfl))) ((congrFun (congrFun e151 672) o0).trans ((congrFun (up2_ne (k := 672)) o0).trans (sR_672 (T := S) (o := o0) rfl))) ((congrFun (congrFun e151 673) o0).trans ((congrFun (up2_ne (k := 673)) o0).trans (sR_673 (T := S) (o := o0) rfl))) ((congrFun (congrFun e151 674) o0).trans ((congrFun (up2_ne (k := 674)) o0).trans (sR_674 (T := S) (o := o0) rfl))) ((congrFun (congrFun e151 675) o0).trans ((congrFun (up2_ne (k := 675)) o0).trans (sR_675 (T := S) (o := o0) rfl))) ((congrFun (congrFun f152 660) o0).trans (sR_660 (T := S) (o := o0) rfl))) hF.symm, rfl, rfl⟩⟩)
      · skip
        refine tt_aload_n (j := 0) dX10_readJumps_39 rfl ?_
        refine tt_bipush (v := 20) dX10_readJumps_40 rfl ?_
        refine gt_pI (id := 655) (x := 20) dX10_readJumps_42 fl_10_107 rfl rfl h0 hA rfl rfl rfl (gp_I hG) (by decide) (fun h => absurd h (by decide)) (fun h => absurd h (by decide)) (fun S154 hG155 hA156 e157 f158 er159 => ?_)
        refine tt_aload_n (j := 0) dX10_readJumps_45 rfl ?_
        refine tt_aload_n (j := 0) dX10_readJumps_46 rfl ?_
        refine tt_iload_n (j := 1) dX10_readJumps_47 rfl ?_
        refine tt_sipush (v := 235) dX10_readJumps_48 rfl ?_
        refine tt_icmp_ne (tgt := 58) dX10_readJumps_51 rfl (fun _ => ?_) (fun q => absurd q q103)
        refine tt_iconst (v := 4) dX10_readJumps_58 rfl ?_
        refine gt_VJ (As := [.int 4]) dX10_readJumps_59 ca_X10_103 ⟨by decide, by decide⟩ h0 hA156 rfl (Nat.le_of_ble_eq_true rfl) (Nat.le_of_ble_eq_true rfl) (by decide) (ce_X10_number_4 hG155 (oa_af h0 hA156) (br_af hb h0 hA156) (fun _ _ _ _ h => h)) rfl (fun _ h => nomatch h) (fun S160 y169 hx164 hG161 hB162 hA163 => ?_)
        obtain ⟨d165, hd166⟩ : ∃ q, F_X10_number_4 bs n ((e0 (StR S o0)), 20, (e2 (StR S o0)), (e3 (StR S o0)), (e4 (StR S o0)), (e5 (StR S o0)), (e6 (StR S o0)), (e7 (StR S o0)), (e8 (StR S o0)), (e9 (StR S o0)), (e10 (StR S o0)), (e11 (StR S o0)), (eJ (StR S o0)))  = q := ⟨_, rfl⟩
        have hq167 := (congrArg (fun q => F_X10_number_4 bs n q ) (stR_mk ((congrFun (congrFun e157 654) o0).trans ((congrFun (up2_ne (k := 654)) o0).trans (sR_654 (T := S) (o := o0) rfl))) (by rw [e157]; exact up2_self) ((congrFun (congrFun e157 656) o0).trans ((congrFun (up2_ne (k := 656)) o0).trans (sR_656 (T := S) (o := o0) rfl))) ((congrFun (congrFun e157 657) o0).trans ((congrFun (up2_ne (k := 657)) o0).trans (sR_657 (T := S) (o := o0) rfl))) ((congrFun (congrFun e157 658) o0).trans ((congrFun (up2_ne (k := 658)) o0).trans (sR_658 (T := S) (o := o0) rfl))) ((congrFun (congrFun e157 659) o0).trans ((congrFun (up2_ne (k := 659)) o0).trans (sR_659 (T := S) (o := o0) rfl))) ((congrFun (congrFun e157 661) o0).trans ((congrFun (up2_ne (k := 661)) o0).trans (sR_661 (T := S) (o := o0) rfl))) ((congrFun (congrFun e157 662) o0).trans ((congrFun (up2_ne (k := 662)) o0).trans (sR_662 (T := S) (o := o0) rfl))) ((congrFun (congrFun e157 672) o0).trans ((congrFun (up2_ne (k := 672)) o0).trans (sR_672 (T := S) (o := o0) rfl))) ((congrFun (congrFun e157 673) o0).trans ((congrFun (up2_ne (k := 673)) o0).trans (sR_673 (T := S) (o := o0) rfl))) ((congrFun (congrFun e157 674) o0).trans ((congrFun (up2_ne (k := 674)) o0).trans (sR_674 (T := S) (o := o0) rfl))) ((congrFun (congrFun e157 675) o0).trans ((congrFun (up2_ne (k := 675)) o0).trans (sR_675 (T := S) (o := o0) rfl))) ((congrFun (congrFun f158 660) o0).trans (sR_660 (T := S) (o := o0) rfl)))).trans hd166
        have hs168 := hx164.2.trans (congrArg Prod.fst hq167)
        obtain rfl : y169 = d165.2 := (xjR_v hx164).trans (congrArg Prod.snd hq167)
        refine gt_pJ (id := 660) (x := d165.2) dX10_readJumps_62 fl_10_116 rfl rfl h0 hA163 rfl rfl rfl hG161 (fun S170 hG171 hA172 e173 f174 er175 => ?_)
        refine tt_aload_n (j := 0) dX10_readJumps_65 rfl ?_
        refine tt_aload_n (j := 0) dX10_readJumps_66 rfl ?_
        refine gt_gJ (id := 660) (v := d165.2) dX10_readJumps_67 fl_10_116 rfl rfl h0 hA172 (by rw [f174]; exact up2_self) ?_
        refine tt_aload_n (j := 0) dX10_readJumps_70 rfl ?_
        refine gt_gI (id := 654) (v := (e0 d165.1)) dX10_readJumps_71 fl_10_81 rfl rfl h0 hA172 ((congrFun (congrFun e173 654) o0).trans (sR_654 hs168)) ?_
        refine tt_i2l dX10_readJumps_74 ?_
        refine tt_ladd dX10_readJumps_75 ?_
        refine gt_pJ (id := 660) (x := (d165.2 + ((e0 d165.1) : Int32).toInt64)) dX10_readJumps_76 fl_10_116 rfl rfl h0 hA172 rfl rfl rfl hG171 (fun S176 hG177 hA178 e179 f180 er181 => ?_)
        refine tt_goto (tgt := 117) dX10_readJumps_79 rfl ?_
        have hF : F_X10_readJumps bs n (StR S o0) x1 = ((e0 d165.1), (e1 d165.1), (e2 d165.1), (e3 d165.1), (e4 d165.1), (e5 d165.1), (e6 d165.1), (e7 d165.1), (e8 d165.1), (e9 d165.1), (e10 d165.1), (e11 d165.1), (d165.2 + ((e0 d165.1) : Int32).toInt64)) := by
          subst hd166
          exact q_X10_readJumps_1 q101 q103 q132
        exact tt_vreturn dX10_readJumps_117 rfl (hP _ _ _ _ ⟨hG177, hA178, Or.inl ⟨_, rfl, rfl, Eq.trans (stR_mk ((congrFun (congrFun e179 654) o0).trans ((congrFun (congrFun e173 654) o0).trans (sR_654 hs168))) ((congrFun (congrFun e179 655) o0).trans ((congrFun (congrFun e173 655) o0).trans (sR_655 hs168))) ((congrFun (congrFun e179 656) o0).trans ((congrFun (congrFun e173 656) o0).trans (sR_656 hs168))) ((congrFun (congrFun e179 657) o0).trans ((congrFun (congrFun e173 657) o0).trans (sR_657 hs168))) ((congrFun (congrFun e179 658) o0).trans ((congrFun (congrFun e173 658) o0).trans (sR_658 hs168))) ((congrFun (congrFun e179 659) o0).trans ((congrFun (congrFun e173 659) o0).trans (sR_659 hs168))) ((congrFun (congrFun e179 661) o0).trans ((congrFun (congrFun e173 661) o0).trans (sR_661 hs168))) ((congrFun (congrFun e179 662) o0).trans ((congrFun (congrFun e173 662) o0).trans (sR_662 hs168))) ((congrFun (congrFun e179 672) o0).trans ((congrFun (congrFun e173 672) o0).trans (sR_672 hs168))) ((congrFun (congrFun e179 673) o0).trans ((congrFun (congrFun e173 673) o0).trans (sR_673 hs168))) ((congrFun (congrFun e179 674) o0).trans ((congrFun (congrFun e173 674) o0).trans (sR_674 hs168))) ((congrFun (congrFun e179 675) o0).trans ((congrFun (congrFun e173 675) o0).trans (sR_675 hs168))) (by rw [f180]; exact up2_self)) hF.symm, rfl, rfl⟩⟩)
  · skip
    have h182 : Rg 112 2147483647 x1 := rg_le_r (⟨by decide, by decide⟩ : Rg 112 112 112) (rg_all x1) (nlt_le q101)
    refine tt_iload_n (j := 1) dX10_readJumps_6 rfl ?_
    refine tt_sipush (v := 128) dX10_readJumps_7 rfl ?_
    refine tt_icmp_ge (tgt := 25) dX10_readJumps_10 rfl (fun q183 => ?_) (fun q183 => ?_)
    · skip
      have h184 : Rg 128 2147483647 x1 := rg_le_r (⟨by decide, by decide⟩ : Rg 128 128 128) h182 q183
      refine tt_iload_n (j := 1) dX10_readJumps_25 rfl ?_
      refine tt_sipush (v := 235) dX10_readJumps_26 rfl ?_
      refine tt_icmp_eq (tgt := 39) dX10_readJumps_29 rfl (fun q185 => ?_) (fun q185 => ?_)
      · skip
        have h186 : Rg 235 235 x1 := rg_eq_l h184 (⟨by decide, by decide⟩ : Rg 235 235 235) q185
        refine tt_aload_n (j := 0) dX10_readJumps_39 rfl ?_
        refine tt_bipush (v := 20) dX10_readJumps_40 rfl ?_
        refine gt_pI (id := 655) (x := 20) dX10_readJumps_42 fl_10_107 rfl rfl h0 hA rfl rfl rfl (gp_I hG) (by decide) (fun h => absurd h (by decide)) (fun h => absurd h (by decide)) (fun S187 hG188 hA189 e190 f191 er192 => ?_)
        refine tt_aload_n (j := 0) dX10_readJumps_45 rfl ?_
        refine tt_aload_n (j := 0) dX10_readJumps_46 rfl ?_
        refine tt_iload_n (j := 1) dX10_readJumps_47 rfl ?_
        refine tt_sipush (v := 235) dX10_readJumps_48 rfl ?_
        refine tt_icmp_ne (tgt := 58) dX10_readJumps_51 rfl (fun q => absurd q185 q) (fun _ => ?_)
        refine tt_iconst (v := 1) dX10_readJumps_54 rfl ?_
        refine tt_goto (tgt := 59) dX10_readJumps_55 rfl ?_
        refine gt_VJ (As := [.int 1]) dX10_readJumps_59 ca_X10_103 ⟨by decide, by decide⟩ h0 hA189 rfl (Nat.le_of_ble_eq_true rfl) (Nat.le_of_ble_eq_true rfl) (by decide) (ce_X10_number_1 hG188 (oa_af h0 hA189) (br_af hb h0 hA189) (fun _ _ _ _ h => h)) rfl (fun _ h => nomatch h) (fun S193 y202 hx197 hG194 hB195 hA196 => ?_)
        obtain ⟨d198, hd199⟩ : ∃ q, F_X10_number_1 bs n ((e0 (StR S o0)), 20, (e2 (StR S o0)), (e3 (StR S o0)), (e4 (StR S o0)), (e5 (StR S o0)), (e6 (StR S o0)), (e7 (StR S o0)), (e8 (StR S o0)), (e9 (StR S o0)), (e10 (StR S o0)), (e11 (StR S o0)), (eJ (StR S o0)))  = q := ⟨_, rfl⟩
        have hq200 := (congrArg (fun q => F_X10_number_1 bs n q ) (stR_mk ((congrFun (congrFun e190 654) o0).trans ((congrFun (up2_ne (k := 654)) o0).trans (sR_654 (T := S) (o := o0) rfl))) (by rw [e190]; exact up2_self) ((congrFun (congrFun e190 656) o0).trans ((congrFun (up2_ne (k := 656)) o0).trans (sR_656 (T := S) (o := o0) rfl))) ((congrFun (congrFun e190 657) o0).trans ((congrFun (up2_ne (k := 657)) o0).trans (sR_657 (T := S) (o := o0) rfl))) ((congrFun (congrFun e190 658) o0).trans ((congrFun (up2_ne (k := 658)) o0).trans (sR_658 (T := S) (o := o0) rfl))) ((congrFun (congrFun e190 659) o0).trans ((congrFun (up2_ne (k := 659)) o0).trans (sR_659 (T := S) (o := o0) rfl))) ((congrFun (congrFun e190 661) o0).trans ((congrFun (up2_ne (k := 661)) o0).trans (sR_661 (T := S) (o := o0) rfl))) ((congrFun (congrFun e190 662) o0).trans ((congrFun (up2_ne (k := 662)) o0).trans (sR_662 (T := S) (o := o0) rfl))) ((congrFun (congrFun e190 672) o0).trans ((congrFun (up2_ne (k := 672)) o0).trans (sR_672 (T := S) (o := o0) rfl))) ((congrFun (congrFun e190 673) o0).trans ((congrFun (up2_ne (k := 673)) o0).trans (sR_673 (T := S) (o := o0) rfl))) ((congrFun (congrFun e190 674) o0).trans ((congrFun (up2_ne (k := 674)) o0).trans (sR_674 (T := S) (o := o0) rfl))) ((congrFun (congrFun e190 675) o0).trans ((congrFun (up2_ne (k := 675)) o0).trans (sR_675 (T := S) (o := o0) rfl))) ((congrFun (congrFun f191 660) o0).trans (sR_660 (T := S) (o := o0) rfl)))).trans hd199
        have hs201 := hx197.2.trans (congrArg Prod.fst hq200)
        obtain rfl : y202 = d198.2 := (xjR_v hx197).trans (congrArg Prod.snd hq200)
        refine gt_pJ (id := 660) (x := d198.2) dX10_readJumps_62 fl_10_116 rfl rfl h0 hA196 rfl rfl rfl hG194 (fun S203 hG204 hA205 e206 f207 er208 => ?_)
        refine tt_aload_n (j := 0) dX10_readJumps_65 rfl ?_
        refine tt_aload_n (j := 0) dX10_readJumps_66 rfl ?_
        refine gt_gJ (id := 660) (v := d198.2) dX10_readJumps_67 fl_10_116 rfl rfl h0 hA205 (by rw [f207]; exact up2_self) ?_
        refine tt_aload_n (j := 0) dX10_readJumps_70 rfl ?_
        refine gt_gI (id := 654) (v := (e0 d198.1)) dX10_readJumps_71 fl_10_81 rfl rfl h0 hA205 ((congrFun (congrFun e206 654) o0).trans (sR_654 hs201)) ?_
        refine tt_i2l dX10_readJumps_74 ?_
        refine tt_ladd dX10_readJumps_75 ?_
        refine gt_pJ (id := 660) (x := (d198.2 + ((e0 d198.1) : Int32).toInt64)) dX10_readJumps_76 fl_10_116 rfl rfl h0 hA205 rfl rfl rfl hG204 (fun S209 hG210 hA211 e212 f213 er214 => ?_)
        refine tt_goto (tgt := 117) dX10_readJumps_79 rfl ?_
        have hF : F_X10_readJumps bs n (StR S o0) x1 = ((e0 d198.1), (e1 d198.1), (e2 d198.1), (e3 d198.1), (e4 d198.1), (e5 d198.1), (e6 d198.1), (e7 d198.1), (e8 d198.1), (e9 d198.1), (e10 d198.1), (e11 d198.1), (d198.2 + ((e0 d198.1) : Int32).toInt64)) := by
          subst hd199
          exact q_X10_readJumps_6 q101 q183 q185
        exact tt_vreturn dX10_readJumps_117 rfl (hP _ _ _ _ ⟨hG210, hA211, Or.inl ⟨_, rfl, rfl, Eq.trans (stR_mk ((congrFun (congrFun e212 654) o0).trans ((congrFun (congrFun e206 654) o0).trans (sR_654 hs201))) ((congrFun (congrFun e212 655) o0).trans ((congrFun (congrFun e206 655) o0).trans (sR_655 hs201))) ((congrFun (congrFun e212 656) o0).trans ((congrFun (congrFun e206 656) o0).trans (sR_656 hs201))) ((congrFun (congrFun e212 657) o0).trans ((congrFun (congrFun e206 657) o0).trans (sR_657 hs201))) ((congrFun (congrFun e212 658) o0).trans ((congrFun (congrFun e206 658) o0).trans (sR_658 hs201))) ((congrFun (congrFun e212 659) o0).trans ((congrFun (congrFun e206 659) o0).trans (sR_659 hs201))) ((congrFun (congrFun e212 661) o0).trans ((congrFun (congrFun e206 661) o0).trans (sR_661 hs201))) ((congrFun (congrFun e212 662) o0).trans ((congrFun (congrFun e206 662) o0).trans (sR_662 hs201))) ((congrFun (congrFun e212 672) o0).trans ((congrFun (congrFun e206 672) o0).trans (sR_672 hs201))) ((congrFun (congrFun e212 673) o0).trans ((congrFun (congrFun e206 673) o0).trans (sR_673 hs201))) ((congrFun (congrFun e212 674) o0).trans ((congrFun (congrFun e206 674) o0).trans (sR_674 hs201))) ((congrFun (congrFun e212 675) o0).trans ((congrFun (congrFun e206 675) o0).trans (sR_675 hs201))) (by rw [f213]; exact up2_self)) hF.symm, rfl, rfl⟩⟩)
      · skip
        refine tt_iload_n (j := 1) dX10_readJumps_32 rfl ?_
        refine tt_sipush (v := 233) dX10_readJumps_33 rfl ?_
        refine tt_icmp_ne (tgt := 82) dX10_readJumps_36 rfl (fun q215 => ?_) (fun q215 => ?_)
        · skip
          refine tt_iload_n (j := 1) dX10_readJumps_82 rfl ?_
          refine tt_sipush (v := 195) dX10_readJumps_83 rfl ?_
          refine tt_icmp_eq (tgt := 96) dX10_readJumps_86 rfl (fun q216 => ?_) (fun q216 => ?_)
          · skip
            have h217 : Rg 195 195 x1 := rg_eq_l h184 (⟨by decide, by decide⟩ : Rg 195 195 195) q216
            refine tt_aload_n (j := 0) dX10_readJumps_96 rfl ?_
            refine tt_bipush (v := 22) dX10_readJumps_97 rfl ?_
            refine gt_pI (id := 655) (x := 22) dX10_readJumps_99 fl_10_107 rfl rfl h0 hA rfl rfl rfl (gp_I hG) (by decide) (fun h => absurd h (by decide)) (fun h => absurd h (by decide)) (fun S218 hG219 hA220 e221 f222 er223 => ?_)
            refine tt_goto (tgt := 117) dX10_readJumps_102 rfl ?_
            have hF : F_X10_readJumps bs n (StR S o0) x1 = ((e0 (StR S o0)), 22, (e2 (StR S o0)), (e3 (StR S o0)), (e4 (StR S o0)), (e5 (StR S o0)), (e6 (StR S o0)), (e7 (StR S o0)), (e8 (StR S o0)), (e9 (StR S o0)), (e10 (StR S o0)), (e11 (StR S o0)), (eJ (StR S o0))) := by
              exact q_X10_readJumps_8 q101 q183 q185 q215 q216
            exact tt_vreturn dX10_readJumps_117 rfl (hP _ _ _ _ ⟨hG219, hA220, Or.inl ⟨_, rfl, rfl, Eq.trans (stR_mk ((congrFun (congrFun e221 654) o0).trans ((congrFun (up2_ne (k := 654)) o0).trans (sR_654 (T := S) (o := o0) rfl))) (by rw [e221]; exact up2_self) ((congrFun (congrFun e221 656) o0).trans ((congrFun (up2_ne (k := 656)) o0).trans (sR_656 (T := S) (o := o0) rfl))) ((congrFun (congrFun e221 657) o0).trans ((congrFun (up2_ne (k := 657)) o0).trans (sR_657 (T := S) (o := o0) rfl))) ((congrFun (congrFun e221 658) o0).trans ((congrFun (up2_ne (k := 658)) o0).trans (sR_658 (T := S) (o := o0) rfl))) ((congrFun (congrFun e221 659) o0).trans ((congrFun (up2_ne (k := 659)) o0).trans (sR_659 (T := S) (o := o0) rfl))) ((congrFun (congrFun e221 661) o0).trans ((congrFun (up2_ne (k := 661)) o0).trans (sR_661 (T := S) (o := o0) rfl))) ((congrFun (congrFun e221 662) o0).trans ((congrFun (up2_ne (k := 662)) o0).trans (sR_662 (T := S) (o := o0) rfl))) ((congrFun (congrFun e221 672) o0).trans ((congrFun (up2_ne (k := 672)) o0).trans (sR_672 (T := S) (o := o0) rfl))) ((congrFun (congrFun e221 673) o0).trans ((congrFun (up2_ne (k := 673)) o0).trans (sR_673 (T := S) (o := o0) rfl))) ((congrFun (congrFun e221 674) o0).trans ((congrFun (up2_ne (k := 674)) o0).trans (sR_674 (T := S) (o := o0) rfl))) ((congrFun (congrFun e221 675) o0).trans ((congrFun (up2_ne (k := 675)) o0).trans (sR_675 (T := S) (o := o0) rfl))) ((congrFun (congrFun f222 660) o0).trans (sR_660 (T := S) (o := o0) rfl))) hF.symm, rfl, rfl⟩⟩)
          · skip
            refine tt_iload_n (j := 1) dX10_readJumps_89 rfl ?_
            refine tt_sipush (v := 244) dX10_readJumps_90 rfl ?_
            refine tt_icmp_ne (tgt := 105) dX10_readJumps_93 rfl (fun q224 => ?_) (fun q224 => ?_)
            · skip
              refine tt_iload_n (j := 1) dX10_readJumps_105 rfl ?_
              refine tt_sipush (v := 144) dX10_readJumps_106 rfl ?_
              refine tt_icmp_eq (tgt := 117) dX10_readJumps_109 rfl (fun q225 => ?_) (fun q225 => ?_)
              · skip
                have h226 : Rg 144 144 x1 := rg_eq_l h184 (⟨by decide, by decide⟩ : Rg 144 144 144) q225
                have hF : F_X10_readJumps bs n (StR S o0) x1 = (StR S o0) := by
                  exact q_X10_readJumps_10 q101 q183 q185 q215 q216 q224 q225
                exact tt_vreturn dX10_readJumps_117 rfl (hP _ _ _ _ ⟨hG, hA, Or.inl ⟨_, rfl, rfl, Eq.trans (stR_mk (sR_654 (T := S) (o := o0) rfl) (sR_655 (T := S) (o := o0) rfl) (sR_656 (T := S) (o := o0) rfl) (sR_657 (T := S) (o := o0) rfl) (sR_658 (T := S) (o := o0) rfl) (sR_659 (T := S) (o := o0) rfl) (sR_661 (T := S) (o := o0) rfl) (sR_662 (T := S) (o := o0) rfl) (sR_672 (T := S) (o := o0) rfl) (sR_673 (T := S) (o := o0) rfl) (sR_674 (T := S) (o := o0) rfl) (sR_675 (T := S) (o := o0) rfl) (sR_660 (T := S) (o := o0) rfl)) hF.symm, rfl, rfl⟩⟩)
              · skip
                refine tt_aload_n (j := 0) dX10_readJumps_112 rfl ?_
                refine tt_iconst (v := 1) dX10_readJumps_113 rfl ?_
                refine gt_pI (id := 662) (x := 1) dX10_readJumps_114 fl_10_84 rfl rfl h0 hA rfl rfl rfl (gp_Ir hG (⟨by decide, by decide⟩ : Rg 1 1 1)) (by decide) (fun _ h => absurd (by decide) h) (fun h => absurd h (by decide)) (fun S227 hG228 hA229 e230 f231 er232 => ?_)
                have hF : F_X10_readJumps bs n (StR S o0) x1 = ((e0 (StR S o0)), (e1 (StR S o0)), (e2 (StR S o0)), (e3 (StR S o0)), (e4 (StR S o0)), (e5 (StR S o0)), (e6 (StR S o0)), 1, (e8 (StR S o0)), (e9 (StR S o0)), (e10 (StR S o0)), (e11 (StR S o0)), (eJ (StR S o0))) := by
                  exact q_X10_readJumps_11 q101 q183 q185 q215 q216 q224 q225
                exact tt_vreturn dX10_readJumps_117 rfl (hP _ _ _ _ ⟨hG228, hA229, Or.inl ⟨_, rfl, rfl, Eq.trans (stR_mk ((congrFun (congrFun e230 654) o0).trans ((congrFun (up2_ne (k := 654)) o0).trans (sR_654 (T := S) (o := o0) rfl))) ((congrFun (congrFun e230 655) o0).trans ((congrFun (up2_ne (k := 655)) o0).trans (sR_655 (T := S) (o := o0) rfl))) ((congrFun (congrFun e230 656) o0).trans ((congrFun (up2_ne (k := 656)) o0).trans (sR_656 (T := S) (o := o0) rfl))) ((congrFun (congrFun e230 657) o0).trans ((congrFun (up2_ne (k := 657)) o0).trans (sR_657 (T := S) (o := o0) rfl))) ((congrFun (congrFun e230 658) o0).trans ((congrFun (up2_ne (k := 658)) o0).trans (sR_658 (T := S) (o := o0) rfl))) ((congrFun (congrFun e230 659) o0).trans ((congrFun (up2_ne (k := 659)) o0).trans (sR_659 (T := S) (o := o0) rfl))) ((congrFun (congrFun e230 661) o0).trans ((congrFun (up2_ne (k := 661)) o0).trans (sR_661 (T := S) (o := o0) rfl))) (by rw [e230]; exact up2_self) ((congrFun (congrFun e230 672) o0).trans ((congrFun (up2_ne (k := 672)) o0).trans (sR_672 (T := S) (o := o0) rfl))) ((congrFun (congrFun e230 673) o0).trans ((congrFun (up2_ne (k := 673)) o0).trans (sR_673 (T := S) (o := o0) rfl))) ((congrFun (congrFun e230 674) o0).trans ((congrFun (up2_ne (k := 674)) o0).trans (sR_674 (T := S) (o := o0) rfl))) ((congrFun (congrFun e230 675) o0).trans ((congrFun (up2_ne (k := 675)) o0).trans (sR_675 (T := S) (o := o0) rfl))) ((congrFun (congrFun f231 660) o0).trans (sR_660 (T := S) (o := o0) rfl))) hF.symm, rfl, rfl⟩⟩)
            · skip
              have h233 : Rg 244 244 x1 := rg_eq_l h184 (⟨by decide, by decide⟩ : Rg 244 244 244) q224
              refine tt_aload_n (j := 0) dX10_readJumps_96 rfl ?_
              refine tt_bipush (v := 22) dX10_readJumps_97 rfl ?_
              refine gt_pI (id := 655) (x := 22) dX10_readJumps_99 fl_10_107 rfl rfl h0 hA rfl rfl rfl (gp_I hG) (by decide) (fun h => absurd h (by decide)) (fun h => absurd h (by decide)) (fun S234 hG235 hA236 e237 f238 er239 => ?_)
              refine tt_goto (tgt := 117) dX10_readJumps_102 rfl ?_
              have hF : F_X10_readJumps bs n (StR S o0) x1 = ((e0 (StR S o0)), 22, (e2 (StR S o0)), (e3 (StR S o0)), (e4 (StR S o0)), (e5 (StR S o0)), (e6 (StR S o0)), (e7 (StR S o0)), (e8 (StR S o0)), (e9 (StR S o0)), (e10 (StR S o0)), (e11 (StR S o0)), (eJ (StR S o0))) := by
                exact q_X10_readJumps_9 q101 q183 q185 q215 q216 q224
              exact tt_vreturn dX10_readJumps_117 rfl (hP _ _ _ _ ⟨hG235, hA236, Or.inl ⟨_, rfl, rfl, Eq.trans (stR_mk ((congrFun (congrFun e237 654) o0).trans ((congrFun (up2_ne (k := 654)) o0).trans (sR_654 (T := S) (o := o0) rfl))) (by rw [e237]; exact up2_self) ((congrFun (congrFun e237 656) o0).trans ((congrFun (up2_ne (k := 656)) o0).trans (sR_656 (T := S) (o := o0) rfl))) ((congrFun (congrFun e237 657) o0).trans ((congrFun (up2_ne (k := 657)) o0).trans (sR_657 (T := S) (o := o0) rfl))) ((congrFun (congrFun e237 658) o0).trans ((congrFun (up2_ne (k := 658)) o0).trans (sR_658 (T := S) (o := o0) rfl))) ((congrFun (congrFun e237 659) o0).trans ((congrFun (up2_ne (k := 659)) o0).trans (sR_659 (T := S) (o := o0) rfl))) ((congrFun (congrFun e237 661) o0).trans ((congrFun (up2_ne (k := 661)) o0).trans (sR_661 (T := S) (o := o0) rfl))) ((congrFun (congrFun e237 662) o0).trans ((congrFun (up2_ne (k := 662)) o0).trans (sR_662 (T := S) (o := o0) rfl))) ((congrFun (congrFun e237 672) o0).trans ((congrFun (up2_ne (k := 672)) o0).trans (sR_672 (T := S) (o := o0) rfl))) ((congrFun (congrFun e237 673) o0).trans ((congrFun (up2_ne (k := 673)) o0).trans (sR_673 (T := S) (o := o0) rfl))) ((congrFun (congrFun e237 674) o0).trans ((congrFun (up2_ne (k := 674)) o0).trans (sR_674 (T := S) (o := o0) rfl))) ((congrFun (congrFun e237 675) o0).trans ((congrFun (up2_ne (k := 675)) o0).trans (sR_675 (T := S) (o := o0) rfl))) ((congrFun (congrFun f238 660) o0).trans (sR_660 (T := S) (o := o0) rfl))) hF.symm, rfl, rfl⟩⟩)
        · skip
          have h240 : Rg 233 233 x1 := rg_eq_l h184 (⟨by decide, by decide⟩ : Rg 233 233 233) q215
          refine tt_aload_n (j := 0) dX10_readJumps_39 rfl ?_
          refine tt_bipush (v := 20) dX10_readJumps_40 rfl ?_
          refine gt_pI (id := 655) (x := 20) dX10_readJumps_42 fl_10_107 rfl rfl h0 hA rfl rfl rfl (gp_I hG) (by decide) (fun h => absurd h (by decide)) (fun h => absurd h (by decide)) (fun S241 hG242 hA243 e244 f245 er246 => ?_)
          refine tt_aload_n (j := 0) dX10_readJumps_45 rfl ?_
          refine tt_aload_n (j := 0) dX10_readJumps_46 rfl ?_
          refine tt_iload_n (j := 1) dX10_readJumps_47 rfl ?_
          refine tt_sipush (v := 235) dX10_readJumps_48 rfl ?_
          refine tt_icmp_ne (tgt := 58) dX10_readJumps_51 rfl (fun _ => ?_) (fun q => absurd q q185)
          refine tt_iconst (v := 4) dX10_readJumps_58 rfl ?_
          refine gt_VJ (As := [.int 4]) dX10_readJumps_59 ca_X10_103 ⟨by decide, by decide⟩ h0 hA243 rfl (Nat.le_of_ble_eq_true rfl) (Nat.le_of_ble_eq_true rfl) (by decide) (ce_X10_number_4 hG242 (oa_af h0 hA243) (br_af hb h0 hA243) (fun _ _ _ _ h => h)) rfl (fun _ h => nomatch h) (fun S247 y256 hx251 hG248 hB249 hA250 => ?_)
          obtain ⟨d252, hd253⟩ : ∃ q, F_X10_number_4 bs n ((e0 (StR S o0)), 20, (e2 (StR S o0)), (e3 (StR S o0)), (e4 (StR S o0)), (e5 (StR S o0)), (e6 (StR S o0)), (e7 (StR S o0)), (e8 (StR S o0)), (e9 (StR S o0)), (e10 (StR S o0)), (e11 (StR S o0)), (eJ (StR S o0)))  = q := ⟨_, rfl⟩
          have hq254 := (congrArg (fun q => F_X10_number_4 bs n q ) (stR_mk ((congrFun (congrFun e244 654) o0).trans ((congrFun (up2_ne (k := 654)) o0).trans (sR_654 (T := S) (o := o0) rfl))) (by rw [e244]; exact up2_self) ((congrFun (congrFun e244 656) o0).trans ((congrFun (up2_ne (k := 656)) o0).trans (sR_656 (T := S) (o := o0) rfl))) ((congrFun (congrFun e244 657) o0).trans ((congrFun (up2_ne (k := 657)) o0).trans (sR_657 (T := S) (o := o0) rfl))) ((congrFun (congrFun e244 658) o0).trans ((congrFun (up2_ne (k := 658)) o0).trans (sR_658 (T := S) (o := o0) rfl))) ((congrFun (congrFun e244 659) o0).trans ((congrFun (up2_ne (k := 659)) o0).trans (sR_659 (T := S) (o := o0) rfl))) ((congrFun (congrFun e244 661) o0).trans ((congrFun (up2_ne (k := 661)) o0).trans (sR_661 (T := S) (o := o0) rfl))) ((congrFun (congrFun e244 662) o0).trans ((congrFun (up2_ne (k := 662)) o0).trans (sR_662 (T := S) (o := o0) rfl))) ((congrFun (congrFun e244 672) o0).trans ((congrFun (up2_ne (k := 672)) o0).trans (sR_672 (T := S) (o := o0) rfl))) ((congrFun (congrFun e244 673) o0).trans ((congrFun (up2_ne (k := 673)) o0).trans (sR_673 (T := S) (o := o0) rfl))) ((congrFun (congrFun e244 674) o0).trans ((congrFun (up2_ne (k := 674)) o0).trans (sR_674 (T := S) (o := o0) rfl))) ((congrFun (congrFun e244 675) o0).trans ((congrFun (up2_ne (k := 675)) o0).trans (sR_675 (T := S) (o := o0) rfl))) ((congrFun (congrFun f245 660) o0).trans (sR_660 (T := S) (o := o0) rfl)))).trans hd253
          have hs255 := hx251.2.trans (congrArg Prod.fst hq254)
          obtain rfl : y256 = d252.2 := (xjR_v hx251).trans (congrArg Prod.snd hq254)
          refine gt_pJ (id := 660) (x := d252.2) dX10_readJumps_62 fl_10_116 rfl rfl h0 hA250 rfl rfl rfl hG248 (fun S257 hG258 hA259 e260 f261 er262 => ?_)
          refine tt_aload_n (j := 0) dX10_readJumps_65 rfl ?_
          refine tt_aload_n (j := 0) dX10_readJumps_66 rfl ?_
          refine gt_gJ (id := 660) (v := d252.2) dX10_readJumps_67 fl_10_116 rfl rfl h0 hA259 (by rw [f261]; exact up2_self) ?_
          refine tt_aload_n (j := 0) dX10_readJumps_70 rfl ?_
          refine gt_gI (id := 654) (v := (e0 d252.1)) dX10_readJumps_71 fl_10_81 rfl rfl h0 hA259 ((congrFun (congrFun e260 654) o0).trans (sR_654 hs255)) ?_
          refine tt_i2l dX10_readJumps_74 ?_
          refine tt_ladd dX10_readJumps_75 ?_
          refine gt_pJ (id := 660) (x := (d252.2 + ((e0 d252.1) : Int32).toInt64)) dX10_readJumps_76 fl_10_116 rfl rfl h0 hA259 rfl rfl rfl hG258 (fun S263 hG264 hA265 e266 f267 er268 => ?_)
          refine tt_goto (tgt := 117) dX10_readJumps_79 rfl ?_
          have hF : F_X10_readJumps bs n (StR S o0) x1 = ((e0 d252.1), (e1 d252.1), (e2 d252.1), (e3 d252.1), (e4 d252.1), (e5 d252.1), (e6 d252.1), (e7 d252.1), (e8 d252.1), (e9 d252.1), (e10 d252.1), (e11 d252.1), (d252.2 + ((e0 d252.1) : Int32).toInt64)) := by
            subst hd253
            exact q_X10_readJumps_7 q101 q183 q185 q215
          exact tt_vreturn dX10_readJumps_117 rfl (hP _ _ _ _ ⟨hG264, hA265, Or.inl ⟨_, rfl, rfl, Eq.trans (stR_mk ((congrFun (congrFun e266 654) o0).trans ((congrFun (congrFun e260 654) o0).trans (sR_654 hs255))) ((congrFun (congrFun e266 655) o0).trans ((congrFun (congrFun e260 655) o0).trans (sR_655 hs255))) ((congrFun (congrFun e266 656) o0).trans ((congrFun (congrFun e260 656) o0).trans (sR_656 hs255))) ((congrFun (congrFun e266 657) o0).trans ((congrFun (congrFun e260 657) o0).trans (sR_657 hs255))) ((congrFun (congrFun e266 658) o0).trans ((congrFun (congrFun e260 658) o0).trans (sR_658 hs255))) ((congrFun (congrFun e266 659) o0).trans ((congrFun (congrFun e260 659) o0).trans (sR_659 hs255))) ((congrFun (congrFun e266 661) o0).trans ((congrFun (congrFun e260 661) o0).trans (sR_661 hs255))) ((congrFun (congrFun e266 662) o0).trans ((congrFun (congrFun e260 662) o0).trans (sR_662 hs255))) ((congrFun (congrFun e266 672) o0).trans ((congrFun (congrFun e260 672) o0).trans (sR_672 hs255))) ((congrFun (congrFun e266 673) o0).trans ((congrFun (congrFun e260 673) o0).trans (sR_673 hs255))) ((congrFun (congrFun e266 674) o0).trans ((congrFun (congrFun e260 674) o0).trans (sR_674 hs255))) ((congrFun (congrFun e266 675) o0).trans ((congrFun (congrFun e260 675) o0).trans (sR_675 hs255))) (by rw [f267]; exact up2_self)) hF.symm, rfl, rfl⟩⟩)
    · skip
      have h269 : Rg 112 127 x1 := rg_lt_l h182 (⟨by decide, by decide⟩ : Rg 128 128 128) (nle_lt q183)
      refine tt_aload_n (j := 0) dX10_readJumps_13 rfl ?_
      refine tt_iload_n (j := 1) dX10_readJumps_14 rfl ?_
      refine tt_bipush (v := 112) dX10_readJumps_15 rfl ?_
      refine tt_isub dX10_readJumps_17 ?_
      refine tt_iconst (v := 1) dX10_readJumps_18 rfl ?_
      refine gt_Vv (As := [.int (x1 - 112), .int 1]) dX10_readJumps_19 ca_X10_150 ⟨by decide, by decide⟩ h0 hA rfl (Nat.le_of_ble_eq_true rfl) (Nat.le_of_ble_eq_true rfl) (by decide) (ce_X10_readIf_1 hG (oa_af h0 hA) (br_af hb h0 hA) (fun _ _ _ _ h => h)) rfl (fun _ h => nomatch h) (fun S270 hx274 hG271 hB272 hA273 => ?_)
      obtain ⟨d275, hd276⟩ : ∃ q, F_X10_readIf_1 bs n (StR S o0) ((x1 - 112)) = q := ⟨_, rfl⟩
      have hq277 := (congrArg (fun q => F_X10_readIf_1 bs n q ((x1 - 112))) (stR_mk (sR_654 (T := S) (o := o0) rfl) (sR_655 (T := S) (o := o0) rfl) (sR_656 (T := S) (o := o0) rfl) (sR_657 (T := S) (o := o0) rfl) (sR_658 (T := S) (o := o0) rfl) (sR_659 (T := S) (o := o0) rfl) (sR_661 (T := S) (o := o0) rfl) (sR_662 (T := S) (o := o0) rfl) (sR_672 (T := S) (o := o0) rfl) (sR_673 (T := S) (o := o0) rfl) (sR_674 (T := S) (o := o0) rfl) (sR_675 (T := S) (o := o0) rfl) (sR_660 (T := S) (o := o0) rfl))).trans hd276
      have hs278 := hx274.trans hq277
      refine tt_goto (tgt := 117) dX10_readJumps_22 rfl ?_
      have hF : F_X10_readJumps bs n (StR S o0) x1 = d275 := by
        subst hd276
        exact q_X10_readJumps_12 q101 q183
      exact tt_vreturn dX10_readJumps_117 rfl (hP _ _ _ _ ⟨hG271, hA273, Or.inl ⟨_, rfl, rfl, Eq.trans (stR_mk (sR_654 hs278) (sR_655 hs278) (sR_656 hs278) (sR_657 hs278) (sR_658 hs278) (sR_659 hs278) (sR_661 hs278) (sR_662 hs278) (sR_672 hs278) (sR_673 hs278) (sR_674 hs278) (sR_675 hs278) (sR_660 hs278)) hF.symm, rfl, rfl⟩⟩)
def F_X10_readRest_p726 (bs : Nat → Int32) (n : Int32) (d : DD) (x1 : Int32) (x2 : Int32) : DD :=
  let d106 := F_X10_take bs n d (18) ((e8 d)) ((e9 d))
  d106
theorem q_X10_readRest_p726_0 {bs : Nat → Int32} {n : Int32} {d : DD} {x1 : Int32} {x2 : Int32}  : F_X10_readRest_p726 bs n d x1 x2 = (F_X10_take bs n d (18) ((e8 d)) ((e9 d))) := rfl
set_option maxHeartbeats 40000000 in
theorem ce_X10_readRest_p726 {xi : SX} {S : Hp} {E : List Nat} {kc nc : Nat} {P : Po} {o0 : Nat} {x1 : Int32} {x2 : Int32} {bs : Nat → Int32} {n : Int32} (hG : GI S E) (h0 : Oa S E 10 0 o0) (hb : BR S E o0 bs n) (hP : ∀ r T x y, PV E [655, 657, 658, 9998] S kc nc rV (fun v T => StR T o0 = F_X10_readRest_p726 bs n (StR S o0) x1 x2) [] r T x y → P r T x y) : TT xi M_X10_readRest 726 [(0, .ref o0), (1, .int x1), (2, .int x2)] [] S kc nc P := by
  have hA : Af E [655, 657, 658, 9998] S S := af_rf
  refine tt_aload_n (j := 0) dX10_readRest_726 rfl ?_
  refine tt_bipush (v := 18) dX10_readRest_727 rfl ?_
  refine tt_aload_n (j := 0) dX10_readRest_729 rfl ?_
  refine gt_gI (id := 672) (v := (e8 (StR S o0))) dX10_readRest_730 fl_10_97 rfl rfl h0 hA (sR_672 (T := S) (o := o0) rfl) ?_
  refine tt_aload_n (j := 0) dX10_readRest_733 rfl ?_
  refine gt_gI (id := 673) (v := (e9 (StR S o0))) dX10_readRest_734 fl_10_100 rfl rfl h0 hA (sR_673 (T := S) (o := o0) rfl) ?_
  refine gt_Vv (As := [.int 18, .int (e8 (StR S o0)), .int (e9 (StR S o0))]) dX10_readRest_737 ca_X10_123 ⟨by decide, by decide⟩ h0 hA rfl (Nat.le_of_ble_eq_true rfl) (Nat.le_of_ble_eq_true rfl) (by decide) (ce_X10_take hG (oa_af h0 hA) (br_af hb h0 hA) (fun _ _ _ _ h => h)) rfl (fun _ h => nomatch h) (fun S101 hx105 hG102 hB103 hA104 => ?_)
  obtain ⟨d106, hd107⟩ : ∃ q, F_X10_take bs n (StR S o0) (18) ((e8 (StR S o0))) ((e9 (StR S o0))) = q := ⟨_, rfl⟩
  have hq108 := (congrArg (fun q => F_X10_take bs n q (18) ((e8 (StR S o0))) ((e9 (StR S o0)))) (stR_mk (sR_654 (T := S) (o := o0) rfl) (sR_655 (T := S) (o := o0) rfl) (sR_656 (T := S) (o := o0) rfl) (sR_657 (T := S) (o := o0) rfl) (sR_658 (T := S) (o := o0) rfl) (sR_659 (T := S) (o := o0) rfl) (sR_661 (T := S) (o := o0) rfl) (sR_662 (T := S) (o := o0) rfl) (sR_672 (T := S) (o := o0) rfl) (sR_673 (T := S) (o := o0) rfl) (sR_674 (T := S) (o := o0) rfl) (sR_675 (T := S) (o := o0) rfl) (sR_660 (T := S) (o := o0) rfl))).trans hd107
  have hs109 := hx105.trans hq108
  refine tt_goto (tgt := 766) dX10_readRest_740 rfl ?_
  have hF : F_X10_readRest_p726 bs n (StR S o0) x1 x2 = d106 := by
    subst hd107
    rfl
  exact tt_vreturn dX10_readRest_766 rfl (hP _ _ _ _ ⟨hG102, hA104, Or.inl ⟨_, rfl, rfl, Eq.trans (stR_mk (sR_654 hs109) (sR_655 hs109) (sR_656 hs109) (sR_657 hs109) (sR_658 hs109) (sR_659 hs109) (sR_661 hs109) (sR_662 hs109) (sR_672 hs109) (sR_673 hs109) (sR_674 hs109) (sR_675 hs109) (sR_660 hs109)) hF.symm, rfl, rfl⟩⟩)
def F_X10_readRest_p688 (bs : Nat → Int32) (n : Int32) (d : DD) (x1 : Int32) (x2 : Int32) : DD :=
  let d106 := F_X10_readPlaces bs n d (x2)
  if (e7 d106) = 0 then
    if (e2 d106) = 32 then
      F_X10_readRest_p726 bs n ((e0 d106), (e1 d106), (e2 d106), (e3 d106), (e4 d106), (e5 d106), (e6 d106), 1, (e8 d106), (e9 d106), (e10 d106), (e11 d106), (eJ d106)) (x1) (x2)
    else
      if (e11 d106) = 3 then
        F_X10_readRest_p726 bs n ((e0 d106), (e1 d106), (e2 d106), (e3 d106), (e4 d106), (e5 d106), (e6 d106), 0, (e8 d106), (e9 d106), (e10 d106), (e11 d106), (eJ d106)) (x1) (x2)
      else
        F_X10_readRest_p726 bs n ((e0 d106), (e1 d106), (e2 d106), (e3 d106), (e4 d106), (e5 d106), (e6 d106), 1, (e8 d106), (e9 d106), (e10 d106), (e11 d106), (eJ d106)) (x1) (x2)
  else
    F_X10_readRest_p726 bs n ((e0 d106), (e1 d106), (e2 d106), (e3 d106), (e4 d106), (e5 d106), (e6 d106), 1, (e8 d106), (e9 d106), (e10 d106), (e11 d106), (eJ d106)) (x1) (x2)
theorem q_X10_readRest_p688_0 {bs : Nat → Int32} {n : Int32} {d : DD} {x1 : Int32} {x2 : Int32} (h0 : (e7 (F_X10_readPlaces bs n d (x2))) = 0) (h1 : (e2 (F_X10_readPlaces bs n d (x2))) = 32) : F_X10_readRest_p688 bs n d x1 x2 = F_X10_readRest_p726 bs n ((e0 (F_X10_readPlaces bs n d (x2))), (e1 (F_X10_readPlaces bs n d (x2))), (e2 (F_X10_readPlaces bs n d (x2))), (e3 (F_X10_readPlaces bs n d (x2))), (e4 (F_X10_readPlaces bs n d (x2))), (e5 (F_X10_readPlaces bs n d (x2))), (e6 (F_X10_readPlaces bs n d (x2))), 1, (e8 (F_X10_readPlaces bs n d (x2))), (e9 (F_X10_readPlaces bs n d (x2))), (e10 (F_X10_readPlaces bs n d (x2))), (e11 (F_X10_readPlaces bs n d (x2))), (eJ (F_X10_readPlaces bs n d (x2)))) (x1) (x2) := by unfold F_X10_readRest_p688; exact Eq.trans (if_pos h0) (if_pos h1)
theorem q_X10_readRest_p688_1 {bs : Nat → Int32} {n : Int32} {d : DD} {x1 : Int32} {x2 : Int32} (h0 : (e7 (F_X10_readPlaces bs n d (x2))) = 0) (h1 : ¬ (e2 (F_X10_readPlaces bs n d (x2))) = 32) (h2 : (e11 (F_X10_readPlaces bs n d (x2))) = 3) : F_X10_readRest_p688 bs n d x1 x2 = F_X10_readRest_p726 bs n ((e0 (F_X10_readPlaces bs n d (x2))), (e1 (F_X10_readPlaces bs n d (x2))), (e2 (F_X10_readPlaces bs n d (x2))), (e3 (F_X10_readPlaces bs n d (x2))), (e4 (F_X10_readPlaces bs n d (x2))), (e5 (F_X10_readPlaces bs n d (x2))), (e6 (F_X10_readPlaces bs n d (x2))), 0, (e8 (F_X10_readPlaces bs n d (x2))), (e9 (F_X10_readPlaces bs n d (x2))), (e10 (F_X10_readPlaces bs n d (x2))), (e11 (F_X10_readPlaces bs n d (x2))), (eJ (F_X10_readPlaces bs n d (x2)))) (x1) (x2) := by unfold F_X10_readRest_p688; exact Eq.trans (if_pos h0) (Eq.trans (if_neg h1) (if_pos h2))
theorem q_X10_readRest_p688_2 {bs : Nat → Int32} {n : Int32} {d : DD} {x1 : Int32} {x2 : Int32} (h0 : (e7 (F_X10_readPlaces bs n d (x2))) = 0) (h1 : ¬ (e2 (F_X10_readPlaces bs n d (x2))) = 32) (h2 : ¬ (e11 (F_X10_readPlaces bs n d (x2))) = 3) : F_X10_readRest_p688 bs n d x1 x2 = F_X10_readRest_p726 bs n ((e0 (F_X10_readPlaces bs n d (x2))), (e1 (F_X10_readPlaces bs n d (x2))), (e2 (F_X10_readPlaces bs n d (x2))), (e3 (F_X10_readPlaces bs n d (x2))), (e4 (F_X10_readPlaces bs n d (x2))), (e5 (F_X10_readPlaces bs n d (x2))), (e6 (F_X10_readPlaces bs n d (x2))), 1, (e8 (F_X10_readPlaces bs n d (x2))), (e9 (F_X10_readPlaces bs n d (x2))), (e10 (F_X10_readPlaces bs n d (x2))), (e11 (F_X10_readPlaces bs n d (x2))), (eJ (F_X10_readPlaces bs n d (x2)))) (x1) (x2) := by unfold F_X10_readRest_p688; exact Eq.trans (if_pos h0) (Eq.trans (if_neg h1) (if_neg h2))
theorem q_X10_readRest_p688_3 {bs : Nat → Int32} {n : Int32} {d : DD} {x1 : Int32} {x2 : Int32} (h0 : ¬ (e7 (F_X10_readPlaces bs n d (x2))) = 0) : F_X10_readRest_p688 bs n d x1 x2 = F_X10_readRest_p726 bs n ((e0 (F_X10_readPlaces bs n d (x2))), (e1 (F_X10_readPlaces bs n d (x2))), (e2 (F_X10_readPlaces bs n d (x2))), (e3 (F_X10_readPlaces bs n d (x2))), (e4 (F_X10_readPlaces bs n d (x2))), (e5 (F_X10_readPlaces bs n d (x2))), (e6 (F_X10_readPlaces bs n d (x2))), 1, (e8 (F_X10_readPlaces bs n d (x2))), (e9 (F_X10_readPlaces bs n d (x2))), (e10 (F_X10_readPlaces bs n d (x2))), (e11 (F_X10_readPlaces bs n d (x2))), (eJ (F_X10_readPlaces bs n d (x2)))) (x1) (x2) := by unfold F_X10_readRest_p688; exact if_neg h0
set_option maxHeartbeats 40000000 in
theorem ce_X10_readRest_p688 {xi : SX} {S : Hp} {E : List Nat} {kc nc : Nat} {P : Po} {o0 : Nat} {x1 : Int32} {x2 : Int32} {bs : Nat → Int32} {n : Int32} (hG : GI S E) (h0 : Oa S E 10 0 o0) (hb : BR S E o0 bs n) (hP : ∀ r T x y, PV E [654, 655, 657, 658, 662, 672, 673, 674, 675, 9998] S kc nc rV (fun v T => StR T o0 = F_X10_readRest_p688 bs n (StR S o0) x1 x2) [] r T x y → P r T x y) : TT xi M_X10_readRest 688 [(0, .ref o0), (1, .int x1), (2, .int x2)] [] S kc nc P := by
  have hA : Af E [654, 655, 657, 658, 662, 672, 673, 674, 675, 9998] S S := af_rf
  refine tt_aload_n (j := 0) dX10_readRest_688 rfl ?_
  refine tt_iload_n (j := 2) dX10_readRest_689 rfl ?_
  refine gt_Vv (As := [.int x2]) dX10_readRest_690 ca_X10_137 ⟨by decide, by decide⟩ h0 hA rfl (Nat.le_of_ble_eq_true rfl) (Nat.le_of_ble_eq_true rfl) (by decide) (ce_X10_readPlaces hG (oa_af h0 hA) (br_af hb h0 hA) (fun _ _ _ _ h => h)) rfl (fun _ h => nomatch h) (fun S101 hx105 hG102 hB103 hA104 => ?_)
  obtain ⟨d106, hd107⟩ : ∃ q, F_X10_readPlaces bs n (StR S o0) (x2) = q := ⟨_, rfl⟩
  have hq108 := (congrArg (fun q => F_X10_readPlaces bs n q (x2)) (stR_mk (sR_654 (T := S) (o := o0) rfl) (sR_655 (T := S) (o := o0) rfl) (sR_656 (T := S) (o := o0) rfl) (sR_657 (T := S) (o := o0) rfl) (sR_658 (T := S) (o := o0) rfl) (sR_659 (T := S) (o := o0) rfl) (sR_661 (T := S) (o := o0) rfl) (sR_662 (T := S) (o := o0) rfl) (sR_672 (T := S) (o := o0) rfl) (sR_673 (T := S) (o := o0) rfl) (sR_674 (T := S) (o := o0) rfl) (sR_675 (T := S) (o := o0) rfl) (sR_660 (T := S) (o := o0) rfl))).trans hd107
  have hs109 := hx105.trans hq108
  refine tt_aload_n (j := 0) dX10_readRest_693 rfl ?_
  refine tt_aload_n (j := 0) dX10_readRest_694 rfl ?_
  refine gt_gI (id := 662) (v := (e7 d106)) dX10_readRest_695 fl_10_84 rfl rfl h0 hA104 (sR_662 hs109) ?_
  refine tt_if_ne (tgt := 718) dX10_readRest_698 rfl (fun q110 => ?_) (fun q110 => ?_)
  · skip
    refine tt_iconst (v := 1) dX10_readRest_718 rfl ?_
    refine tt_goto (tgt := 723) dX10_readRest_719 rfl ?_
    refine gt_pI (id := 662) (x := 1) dX10_readRest_723 fl_10_84 rfl rfl h0 hA104 rfl rfl rfl (gp_Ir hG102 (⟨by decide, by decide⟩ : Rg 1 1 1)) (by decide) (fun _ h => absurd (by decide) h) (fun h => absurd h (by decide)) (fun S111 hG112 hA113 e114 f115 er116 => ?_)
    have hF : F_X10_readRest_p688 bs n (StR S o0) x1 x2 = F_X10_readRest_p726 bs n ((e0 d106), (e1 d106), (e2 d106), (e3 d106), (e4 d106), (e5 d106), (e6 d106), 1, (e8 d106), (e9 d106), (e10 d106), (e11 d106), (eJ d106)) (x1) (x2) := by
      subst hd107
      exact q_X10_readRest_p688_3 q110
    exact tt_loc (ks := [0, 1, 2]) rfl (ce_X10_readRest_p726 hG112 (oa_af h0 hA113) (br_af hb h0 hA113) (fun r T x y h => hP r T x y (pv_tr hA113 h (by decide) (fun v T e => e.trans ((congrArg (fun q => F_X10_readRest_p726 bs n q (x1) (x2)) (stR_mk ((congrFun (congrFun e114 654) o0).trans ((congrFun (up2_ne (k := 654)) o0).trans (sR_654 hs109))) ((congrFun (congrFun e114 655) o0).trans ((congrFun (up2_ne (k := 655)) o0).trans (sR_655 hs109))) ((congrFun (congrFun e114 656) o0).trans ((congrFun (up2_ne (k := 656)) o0).trans (sR_656 hs109))) ((congrFun (congrFun e114 657) o0).trans ((congrFun (up2_ne (k := 657)) o0).trans (sR_657 hs109))) ((congrFun (congrFun e114 658) o0).trans ((congrFun (up2_ne (k := 658)) o0).trans (sR_658 hs109))) ((congrFun (congrFun e114 659) o0).trans ((congrFun (up2_ne (k := 659)) o0).trans (sR_659 hs109))) ((congrFun (congrFun e114 661) o0).trans ((congrFun (up2_ne (k := 661)) o0).trans (sR_661 hs109))) (by rw [e114]; exact up2_self) ((congrFun (congrFun e114 672) o0).trans ((congrFun (up2_ne (k := 672)) o0).trans (sR_672 hs109))) ((congrFun (congrFun e114 673) o0).trans ((congrFun (up2_ne (k := 673)) o0).trans (sR_673 hs109))) ((congrFun (congrFun e114 674) o0).trans ((congrFun (up2_ne (k := 674)) o0).trans (sR_674 hs109))) ((congrFun (congrFun e114 675) o0).trans ((congrFun (up2_ne (k := 675)) o0).trans (sR_675 hs109))) ((congrFun (congrFun f115 660) o0).trans (sR_660 hs109)))).trans hF.symm)))))
  · skip
    have h117 : Rg 0 0 (e7 d106) := rg_eq_l (rg_all (e7 d106)) (⟨by decide, by decide⟩ : Rg 0 0 0) q110
    refine tt_aload_n (j := 0) dX10_readRest_701 rfl ?_
    refine gt_gI (id := 656) (v := (e2 d106)) dX10_readRest_702 fl_10_127 rfl rfl h0 hA104 (sR_656 hs109) ?_
    refine tt_bipush (v := 32) dX10_readRest_705 rfl ?_
    refine tt_icmp_eq (tgt := 718) dX10_readRest_707 rfl (fun q118 => ?_) (fun q118 => ?_)
    · skip
      have h119 : Rg 32 32 (e2 d106) := rg_eq_l (rg_all (e2 d106)) (⟨by decide, by decide⟩ : Rg 32 32 32) q118
      refine tt_iconst (v := 1) dX10_readRest_718 rfl ?_
      refine tt_goto (tgt := 723) dX10_readRest_719 rfl ?_
      refine gt_pI (id := 662) (x := 1) dX10_readRest_723 fl_10_84 rfl rfl h0 hA104 rfl rfl rfl (gp_Ir hG102 (⟨by decide, by decide⟩ : Rg 1 1 1)) (by decide) (fun _ h => absurd (by decide) h) (fun h => absurd h (by decide)) (fun S120 hG121 hA122 e123 f124 er125 => ?_)
      have hF : F_X10_readRest_p688 bs n (StR S o0) x1 x2 = F_X10_readRest_p726 bs n ((e0 d106), (e1 d106), (e2 d106), (e3 d106), (e4 d106), (e5 d106), (e6 d106), 1, (e8 d106), (e9 d106), (e10 d106), (e11 d106), (eJ d106)) (x1) (x2) := by
        subst hd107
        exact q_X10_readRest_p688_0 q110 q118
      exact tt_loc (ks := [0, 1, 2]) rfl (ce_X10_readRest_p726 hG121 (oa_af h0 hA122) (br_af hb h0 hA122) (fun r T x y h => hP r T x y (pv_tr hA122 h (by decide) (fun v T e => e.trans ((congrArg (fun q => F_X10_readRest_p726 bs n q (x1) (x2)) (stR_mk ((congrFun (congrFun e123 654) o0).trans ((congrFun (up2_ne (k := 654)) o0).trans (sR_654 hs109))) ((congrFun (congrFun e123 655) o0).trans ((congrFun (up2_ne (k := 655)) o0).trans (sR_655 hs109))) ((congrFun (congrFun e123 656) o0).trans ((congrFun (up2_ne (k := 656)) o0).trans (sR_656 hs109))) ((congrFun (congrFun e123 657) o0).trans ((congrFun (up2_ne (k := 657)) o0).trans (sR_657 hs109))) ((congrFun (congrFun e123 658) o0).trans ((congrFun (up2_ne (k := 658)) o0).trans (sR_658 hs109))) ((congrFun (congrFun e123 659) o0).trans ((congrFun (up2_ne (k := 659)) o0).trans (sR_659 hs109))) ((congrFun (congrFun e123 661) o0).trans ((congrFun (up2_ne (k := 661)) o0).trans (sR_661 hs109))) (by rw [e123]; exact up2_self) ((congrFun (congrFun e123 672) o0).trans ((congrFun (up2_ne (k := 672)) o0).trans (sR_672 hs109))) ((congrFun (congrFun e123 673) o0).trans ((congrFun (up2_ne (k := 673)) o0).trans (sR_673 hs109))) ((congrFun (congrFun e123 674) o0).trans ((congrFun (up2_ne (k := 674)) o0).trans (sR_674 hs109))) ((congrFun (congrFun e123 675) o0).trans ((congrFun (up2_ne (k := 675)) o0).trans (sR_675 hs109))) ((congrFun (congrFun f124 660) o0).trans (sR_660 hs109)))).trans hF.symm)))))
    · skip
      refine tt_aload_n (j := 0) dX10_readRest_710 rfl ?_
      refine gt_gI (id := 675) (v := (e11 d106)) dX10_readRest_711 fl_10_91 rfl rfl h0 hA104 (sR_675 hs109) ?_
      refine tt_iconst (v := 3) dX10_readRest_714 rfl ?_
      refine tt_icmp_eq (tgt := 722) dX10_readRest_715 rfl (fun q126 => ?_) (fun q126 => ?_)
      · skip
        have h127 : Rg 3 3 (e11 d106) := rg_eq_l (rg_all (e11 d106)) (⟨by decide, by decide⟩ : Rg 3 3 3) q126
        refine tt_iconst (v := 0) dX10_readRest_722 rfl ?_
        refine gt_pI (id := 662) (x := 0) dX10_readRest_723 fl_10_84 rfl rfl h0 hA104 rfl rfl rfl (gp_Ir hG102 (⟨by decide, by decide⟩ : Rg 0 0 0)) (by decide) (fun _ h => absurd (by decide) h) (fun h => absurd h (by decide)) (fun S128 hG129 hA130 e131 f132 er133 => ?_)
        have hF : F_X10_readRest_p688 bs n (StR S o0) x1 x2 = F_X10_readRest_p726 bs n ((e0 d106), (e1 d106), (e2 d106), (e3 d106), (e4 d106), (e5 d106), (e6 d106), 0, (e8 d106), (e9 d106), (e10 d106), (e11 d106), (eJ d106)) (x1) (x2) := by
          subst hd107
          exact q_X10_readRest_p688_1 q110 q118 q126
        exact tt_loc (ks := [0, 1, 2]) rfl (ce_X10_readRest_p726 hG129 (oa_af h0 hA130) (br_af hb h0 hA130) (fun r T x y h => hP r T x y (pv_tr hA130 h (by decide) (fun v T e => e.trans ((congrArg (fun q => F_X10_readRest_p726 bs n q (x1) (x2)) (stR_mk ((congrFun (congrFun e131 654) o0).trans ((congrFun (up2_ne (k := 654)) o0).trans (sR_654 hs109))) ((congrFun (congrFun e131 655) o0).trans ((congrFun (up2_ne (k := 655)) o0).trans (sR_655 hs109))) ((congrFun (congrFun e131 656) o0).trans ((congrFun (up2_ne (k := 656)) o0).trans (sR_656 hs109))) ((congrFun (congrFun e131 657) o0).trans ((congrFun (up2_ne (k := 657)) o0).trans (sR_657 hs109))) ((congrFun (congrFun e131 658) o0).trans ((congrFun (up2_ne (k := 658)) o0).trans (sR_658 hs109))) ((congrFun (congrFun e131 659) o0).trans ((congrFun (up2_ne (k := 659)) o0).trans (sR_659 hs109))) ((congrFun (congrFun e131 661) o0).trans ((congrFun (up2_ne (k := 661)) o0).trans (sR_661 hs109))) (by rw [e131]; exact up2_self) ((congrFun (congrFun e131 672) o0).trans ((congrFun (up2_ne (k := 672)) o0).trans (sR_672 hs109))) ((congrFun (congrFun e131 673) o0).trans ((congrFun (up2_ne (k := 673)) o0).trans (sR_673 hs109))) ((congrFun (congrFun e131 674) o0).trans ((congrFun (up2_ne (k := 674)) o0).trans (sR_674 hs109))) ((congrFun (congrFun e131 675) o0).trans ((congrFun (up2_ne (k := 675)) o0).trans (sR_675 hs109))) ((congrFun (congrFun f132 660) o0).trans (sR_660 hs109)))).trans hF.symm)))))
      · skip
        refine tt_iconst (v := 1) dX10_readRest_718 rfl ?_
        refine tt_goto (tgt := 723) dX10_readRest_719 rfl ?_
        refine gt_pI (id := 662) (x := 1) dX10_readRest_723 fl_10_84 rfl rfl h0 hA104 rfl rfl rfl (gp_Ir hG102 (⟨by decide, by decide⟩ : Rg 1 1 1)) (by decide) (fun _ h => absurd (by decide) h) (fun h => absurd h (by decide)) (fun S134 hG135 hA136 e137 f138 er139 => ?_)
        have hF : F_X10_readRest_p688 bs n (StR S o0) x1 x2 = F_X10_readRest_p726 bs n ((e0 d106), (e1 d106), (e2 d106), (e3 d106), (e4 d106), (e5 d106), (e6 d106), 1, (e8 d106), (e9 d106), (e10 d106), (e11 d106), (eJ d106)) (x1) (x2) := by
          subst hd107
          exact q_X10_readRest_p688_2 q110 q118 q126
        exact tt_loc (ks := [0, 1, 2]) rfl (ce_X10_readRest_p726 hG135 (oa_af h0 hA136) (br_af hb h0 hA136) (fun r T x y h => hP r T x y (pv_tr hA136 h (by decide) (fun v T e => e.trans ((congrArg (fun q => F_X10_readRest_p726 bs n q (x1) (x2)) (stR_mk ((congrFun (congrFun e137 654) o0).trans ((congrFun (up2_ne (k := 654)) o0).trans (sR_654 hs109))) ((congrFun (congrFun e137 655) o0).trans ((congrFun (up2_ne (k := 655)) o0).trans (sR_655 hs109))) ((congrFun (congrFun e137 656) o0).trans ((congrFun (up2_ne (k := 656)) o0).trans (sR_656 hs109))) ((congrFun (congrFun e137 657) o0).trans ((congrFun (up2_ne (k := 657)) o0).trans (sR_657 hs109))) ((congrFun (congrFun e137 658) o0).trans ((congrFun (up2_ne (k := 658)) o0).trans (sR_658 hs109))) ((congrFun (congrFun e137 659) o0).trans ((congrFun (up2_ne (k := 659)) o0).trans (sR_659 hs109))) ((congrFun (congrFun e137 661) o0).trans ((congrFun (up2_ne (k := 661)) o0).trans (sR_661 hs109))) (by rw [e137]; exact up2_self) ((congrFun (congrFun e137 672) o0).trans ((congrFun (up2_ne (k := 672)) o0).trans (sR_672 hs109))) ((congrFun (congrFun e137 673) o0).trans ((congrFun (up2_ne (k := 673)) o0).trans (sR_673 hs109))) ((congrFun (congrFun e137 674) o0).trans ((congrFun (up2_ne (k := 674)) o0).trans (sR_674 hs109))) ((congrFun (congrFun e137 675) o0).trans ((congrFun (up2_ne (k := 675)) o0).trans (sR_675 hs109))) ((congrFun (congrFun f138 660) o0).trans (sR_660 hs109)))).trans hF.symm)))))
def F_X10_readRest_p617 (bs : Nat → Int32) (n : Int32) (d : DD) (x1 : Int32) (x2 : Int32) : DD :=
  if (e10 d) = 4 then
    let d178 := F_X10_take bs n d (14) ((e9 d)) ((-1))
    let d187 := F_X10_next bs n d178 
    if (e2 d187.1) = 64 then
      ((e0 d187.1), (e1 d187.1), (e2 d187.1), (e3 d187.1), (e4 d187.1), (d187.2 &&& 63), (e6 d187.1), (e7 d187.1), (e8 d187.1), (e9 d187.1), (e10 d187.1), (e11 d187.1), (eJ d187.1))
    else
      ((e0 d187.1), (e1 d187.1), (e2 d187.1), (e3 d187.1), (e4 d187.1), (d187.2 &&& 31), (e6 d187.1), (e7 d187.1), (e8 d187.1), (e9 d187.1), (e10 d187.1), (e11 d187.1), (eJ d187.1))
  else
    if (e10 d) = 5 then
      let d143 := F_X10_take bs n d (15) ((e9 d)) ((-1))
      let d152 := F_X10_next bs n d143 
      if (e2 d152.1) = 64 then
        ((e0 d152.1), (e1 d152.1), (e2 d152.1), (e3 d152.1), (e4 d152.1), (d152.2 &&& 63), (e6 d152.1), (e7 d152.1), (e8 d152.1), (e9 d152.1), (e10 d152.1), (e11 d152.1), (eJ d152.1))
      else
        ((e0 d152.1), (e1 d152.1), (e2 d152.1), (e3 d152.1), (e4 d152.1), (d152.2 &&& 31), (e6 d152.1), (e7 d152.1), (e8 d152.1), (e9 d152.1), (e10 d152.1), (e11 d152.1), (eJ d152.1))
    else
      let d108 := F_X10_take bs n d (16) ((e9 d)) ((-1))
      let d117 := F_X10_next bs n d108 
      if (e2 d117.1) = 64 then
        ((e0 d117.1), (e1 d117.1), (e2 d117.1), (e3 d117.1), (e4 d117.1), (d117.2 &&& 63), (e6 d117.1), (e7 d117.1), (e8 d117.1), (e9 d117.1), (e10 d117.1), (e11 d117.1), (eJ d117.1))
      else
        ((e0 d117.1), (e1 d117.1), (e2 d117.1), (e3 d117.1), (e4 d117.1), (d117.2 &&& 31), (e6 d117.1), (e7 d117.1), (e8 d117.1), (e9 d117.1), (e10 d117.1), (e11 d117.1), (eJ d117.1))
theorem q_X10_readRest_p617_0 {bs : Nat → Int32} {n : Int32} {d : DD} {x1 : Int32} {x2 : Int32} (h0 : (e10 d) = 4) (h1 : (e2 (F_X10_next bs n (F_X10_take bs n d (14) ((e9 d)) ((-1)))).1) = 64) : F_X10_readRest_p617 bs n d x1 x2 = ((e0 (F_X10_next bs n (F_X10_take bs n d (14) ((e9 d)) ((-1)))).1), (e1 (F_X10_next bs n (F_X10_take bs n d (14) ((e9 d)) ((-1)))).1), (e2 (F_X10_next bs n (F_X10_take bs n d (14) ((e9 d)) ((-1)))).1), (e3 (F_X10_next bs n (F_X10_take bs n d (14) ((e9 d)) ((-1)))).1), (e4 (F_X10_next bs n (F_X10_take bs n d (14) ((e9 d)) ((-1)))).1), ((F_X10_next bs n (F_X10_take bs n d (14) ((e9 d)) ((-1)))).2 &&& 63), (e6 (F_X10_next bs n (F_X10_take bs n d (14) ((e9 d)) ((-1)))).1), (e7 (F_X10_next bs n (F_X10_take bs n d (14) ((e9 d)) ((-1)))).1), (e8 (F_X10_next bs n (F_X10_take bs n d (14) ((e9 d)) ((-1)))).1), (e9 (F_X10_next bs n (F_X10_take bs n d (14) ((e9 d)) ((-1)))).1), (e10 (F_X10_next bs n (F_X10_take bs n d (14) ((e9 d)) ((-1)))).1), (e11 (F_X10_next bs n (F_X10_take bs n d (14) ((e9 d)) ((-1)))).1), (eJ (F_X10_next bs n (F_X10_take bs n d (14) ((e9 d)) ((-1)))).1)) := by unfold F_X10_readRest_p617; exact Eq.trans (if_pos h0) (if_pos h1)
theorem q_X10_readRest_p617_1 {bs : Nat → Int32} {n : Int32} {d : DD} {x1 : Int32} {x2 : Int32} (h0 : (e10 d) = 4) (h1 : ¬ (e2 (F_X10_next bs n (F_X10_take bs n d (14) ((e9 d)) ((-1)))).1) = 64) : F_X10_readRest_p617 bs n d x1 x2 = ((e0 (F_X10_next bs n (F_X10_take bs n d (14) ((e9 d)) ((-1)))).1), (e1 (F_X10_next bs n (F_X10_take bs n d (14) ((e9 d)) ((-1)))).1), (e2 (F_X10_next bs n (F_X10_take bs n d (14) ((e9 d)) ((-1)))).1), (e3 (F_X10_next bs n (F_X10_take bs n d (14) ((e9 d)) ((-1)))).1), (e4 (F_X10_next bs n (F_X10_take bs n d (14) ((e9 d)) ((-1)))).1), ((F_X10_next bs n (F_X10_take bs n d (14) ((e9 d)) ((-1)))).2 &&& 31), (e6 (F_X10_next bs n (F_X10_take bs n d (14) ((e9 d)) ((-1)))).1), (e7 (F_X10_next bs n (F_X10_take bs n d (14) ((e9 d)) ((-1)))).1), (e8 (F_X10_next bs n (F_X10_take bs n d (14) ((e9 d)) ((-1)))).1), (e9 (F_X10_next bs n (F_X10_take bs n d (14) ((e9 d)) ((-1)))).1), (e10 (F_X10_next bs n (F_X10_take bs n d (14) ((e9 d)) ((-1)))).1), (e11 (F_X10_next bs n (F_X10_take bs n d (14) ((e9 d)) ((-1)))).1), (eJ (F_X10_next bs n (F_X10_take bs n d (14) ((e9 d)) ((-1)))).1)) := by unfold F_X10_readRest_p617; exact Eq.trans (if_pos h0) (if_neg h1)
theorem q_X10_readRest_p617_2 {bs : Nat → Int32} {n : Int32} {d : DD} {x1 : Int32} {x2 : Int32} (h0 : ¬ (e10 d) = 4) (h1 : (e10 d) = 5) (h2 : (e2 (F_X10_next bs n (F_X10_take bs n d (15) ((e9 d)) ((-1)))).1) = 64) : F_X10_readRest_p617 bs n d x1 x2 = ((e0 (F_X10_next bs n (F_X10_take bs n d (15) ((e9 d)) ((-1)))).1), (e1 (F_X10_next bs n (F_X10_take bs n d (15) ((e9 d)) ((-1)))).1), (e2 (F_X10_next bs n (F_X10_take bs n d (15) ((e9 d)) ((-1)))).1), (e3 (F_X10_next bs n (F_X10_take bs n d (15) ((e9 d)) ((-1)))).1), (e4 (F_X10_next bs n (F_X10_take bs n d (15) ((e9 d)) ((-1)))).1), ((F_X10_next bs n (F_X10_take bs n d (15) ((e9 d)) ((-1)))).2 &&& 63), (e6 (F_X10_next bs n (F_X10_take bs n d (15) ((e9 d)) ((-1)))).1), (e7 (F_X10_next bs n (F_X10_take bs n d (15) ((e9 d)) ((-1)))).1), (e8 (F_X10_next bs n (F_X10_take bs n d (15) ((e9 d)) ((-1)))).1), (e9 (F_X10_next bs n (F_X10_take bs n d (15) ((e9 d)) ((-1)))).1), (e10 (F_X10_next bs n (F_X10_take bs n d (15) ((e9 d)) ((-1)))).1), (e11 (F_X10_next bs n (F_X10_take bs n d (15) ((e9 d)) ((-1)))).1), (eJ (F_X10_next bs n (F_X10_take bs n d (15) ((e9 d)) ((-1)))).1)) := by unfold F_X10_readRest_p617; exact Eq.trans (if_neg h0) (Eq.trans (if_pos h1) (if_pos h2))
theorem q_X10_readRest_p617_3 {bs : Nat → Int32} {n : Int32} {d : DD} {x1 : Int32} {x2 : Int32} (h0 : ¬ (e10 d) = 4) (h1 : (e10 d) = 5) (h2 : ¬ (e2 (F_X10_next bs n (F_X10_take bs n d (15) ((e9 d)) ((-1)))).1) = 64) : F_X10_readRest_p617 bs n d x1 x2 = ((e0 (F_X10_next bs n (F_X10_take bs n d (15) ((e9 d)) ((-1)))).1), (e1 (F_X10_next bs n (F_X10_take bs n d (15) ((e9 d)) ((-1)))).1), (e2 (F_X10_next bs n (F_X10_take bs n d (15) ((e9 d)) ((-1)))).1), (e3 (F_X10_next bs n (F_X10_take bs n d (15) ((e9 d)) ((-1)))).1), (e4 (F_X10_next bs n (F_X10_take bs n d (15) ((e9 d)) ((-1)))).1), ((F_X10_next bs n (F_X10_take bs n d (15) ((e9 d)) ((-1)))).2 &&& 31), (e6 (F_X10_next bs n (F_X10_take bs n d (15) ((e9 d)) ((-1)))).1), (e7 (F_X10_next bs n (F_X10_take bs n d (15) ((e9 d)) ((-1)))).1), (e8 (F_X10_next bs n (F_X10_take bs n d (15) ((e9 d)) ((-1)))).1), (e9 (F_X10_next bs n (F_X10_take bs n d (15) ((e9 d)) ((-1)))).1), (e10 (F_X10_next bs n (F_X10_take bs n d (15) ((e9 d)) ((-1)))).1), (e11 (F_X10_next bs n (F_X10_take bs n d (15) ((e9 d)) ((-1)))).1), (eJ (F_X10_next bs n (F_X10_take bs n d (15) ((e9 d)) ((-1)))).1)) := by unfold F_X10_readRest_p617; exact Eq.trans (if_neg h0) (Eq.trans (if_pos h1) (if_neg h2))
theorem q_X10_readRest_p617_4 {bs : Nat → Int32} {n : Int32} {d : DD} {x1 : Int32} {x2 : Int32} (h0 : ¬ (e10 d) = 4) (h1 : ¬ (e10 d) = 5) (h2 : (e2 (F_X10_next bs n (F_X10_take bs n d (16) ((e9 d)) ((-1)))).1) = 64) : F_X10_readRest_p617 bs n d x1 x2 = ((e0 (F_X10_next bs n (F_X10_take bs n d (16) ((e9 d)) ((-1)))).1), (e1 (F_X10_next bs n (F_X10_take bs n d (16) ((e9 d)) ((-1)))).1), (e2 (F_X10_next bs n (F_X10_take bs n d (16) ((e9 d)) ((-1)))).1), (e3 (F_X10_next bs n (F_X10_take bs n d (16) ((e9 d)) ((-1)))).1), (e4 (F_X10_next bs n (F_X10_take bs n d (16) ((e9 d)) ((-1)))).1), ((F_X10_next bs n (F_X10_take bs n d (16) ((e9 d)) ((-1)))).2 &&& 63), (e6 (F_X10_next bs n (F_X10_take bs n d (16) ((e9 d)) ((-1)))).1), (e7 (F_X10_next bs n (F_X10_take bs n d (16) ((e9 d)) ((-1)))).1), (e8 (F_X10_next bs n (F_X10_take bs n d (16) ((e9 d)) ((-1)))).1), (e9 (F_X10_next bs n (F_X10_take bs n d (16) ((e9 d)) ((-1)))).1), (e10 (F_X10_next bs n (F_X10_take bs n d (16) ((e9 d)) ((-1)))).1), (e11 (F_X10_next bs n (F_X10_take bs n d (16) ((e9 d)) ((-1)))).1), (eJ (F_X10_next bs n (F_X10_take bs n d (16) ((e9 d)) ((-1)))).1)) := by unfold F_X10_readRest_p617; exact Eq.trans (if_neg h0) (Eq.trans (if_neg h1) (if_pos h2))
theorem q_X10_readRest_p617_5 {bs : Nat → Int32} {n : Int32} {d : DD} {x1 : Int32} {x2 : Int32} (h0 : ¬ (e10 d) = 4) (h1 : ¬ (e10 d) = 5) (h2 : ¬ (e2 (F_X10_next bs n (F_X10_take bs n d (16) ((e9 d)) ((-1)))).1) = 64) : F_X10_readRest_p617 bs n d x1 x2 = ((e0 (F_X10_next bs n (F_X10_take bs n d (16) ((e9 d)) ((-1)))).1), (e1 (F_X10_next bs n (F_X10_take bs n d (16) ((e9 d)) ((-1)))).1), (e2 (F_X10_next bs n (F_X10_take bs n d (16) ((e9 d)) ((-1)))).1), (e3 (F_X10_next bs n (F_X10_take bs n d (16) ((e9 d)) ((-1)))).1), (e4 (F_X10_next bs n (F_X10_take bs n d (16) ((e9 d)) ((-1)))).1), ((F_X10_next bs n (F_X10_take bs n d (16) ((e9 d)) ((-1)))).2 &&& 31), (e6 (F_X10_next bs n (F_X10_take bs n d (16) ((e9 d)) ((-1)))).1), (e7 (F_X10_next bs n (F_X10_take bs n d (16) ((e9 d)) ((-1)))).1), (e8 (F_X10_next bs n (F_X10_take bs n d (16) ((e9 d)) ((-1)))).1), (e9 (F_X10_next bs n (F_X10_take bs n d (16) ((e9 d)) ((-1)))).1), (e10 (F_X10_next bs n (F_X10_take bs n d (16) ((e9 d)) ((-1)))).1), (e11 (F_X10_next bs n (F_X10_take bs n d (16) ((e9 d)) ((-1)))).1), (eJ (F_X10_next bs n (F_X10_take bs n d (16) ((e9 d)) ((-1)))).1)) := by unfold F_X10_readRest_p617; exact Eq.trans (if_neg h0) (Eq.trans (if_neg h1) (if_neg h2))
set_option maxHeartbeats 40000000 in
theorem ce_X10_readRest_p617 {xi : SX} {S : Hp} {E : List Nat} {kc nc : Nat} {P : Po} {o0 : Nat} {x1 : Int32} {x2 : Int32} {bs : Nat → Int32} {n : Int32} (hG : GI S E) (h0 : Oa S E 10 0 o0) (hb : BR S E o0 bs n) (hP : ∀ r T x y, PV E [654, 655, 657, 658, 659, 662, 672, 673, 674, 675, 9998] S kc nc rV (fun v T => StR T o0 = F_X10_readRest_p617 bs n (StR S o0) x1 x2) [] r T x y → P r T x y) : TT xi M_X10_readRest 617 [(0, .ref o0), (1, .int x1), (2, .int x2)] [] S kc nc P := by
  have hA : Af E [654, 655, 657, 658, 659, 662, 672, 673, 674, 675, 9998] S S := af_rf
  refine tt_aload_n (j := 0) dX10_readRest_617 rfl ?_
  refine tt_aload_n (j := 0) dX10_readRest_618 rfl ?_
  refine gt_gI (id := 674) (v := (e10 (StR S o0))) dX10_readRest_619 fl_10_94 rfl rfl h0 hA (sR_674 (T := S) (o := o0) rfl) ?_
  refine tt_iconst (v := 4) dX10_readRest_622 rfl ?_
  refine tt_icmp_ne (tgt := 631) dX10_readRest_623 rfl (fun q101 => ?_) (fun q101 => ?_)
  · skip
    refine tt_aload_n (j := 0) dX10_readRest_631 rfl ?_
    refine gt_gI (id := 674) (v := (e10 (StR S o0))) dX10_readRest_632 fl_10_94 rfl rfl h0 hA (sR_674 (T := S) (o := o0) rfl) ?_
    refine tt_iconst (v := 5) dX10_readRest_635 rfl ?_
    refine tt_icmp_ne (tgt := 644) dX10_readRest_636 rfl (fun q102 => ?_) (fun q102 => ?_)
    · skip
      refine tt_bipush (v := 16) dX10_readRest_644 rfl ?_
      refine tt_aload_n (j := 0) dX10_readRest_646 rfl ?_
      refine gt_gI (id := 673) (v := (e9 (StR S o0))) dX10_readRest_647 fl_10_100 rfl rfl h0 hA (sR_673 (T := S) (o := o0) rfl) ?_
      refine tt_iconst (v := (-1)) dX10_readRest_650 rfl ?_
      refine gt_Vv (As := [.int 16, .int (e9 (StR S o0)), .int (-1)]) dX10_readRest_651 ca_X10_123 ⟨by decide, by decide⟩ h0 hA rfl (Nat.le_of_ble_eq_true rfl) (Nat.le_of_ble_eq_true rfl) (by decide) (ce_X10_take hG (oa_af h0 hA) (br_af hb h0 hA) (fun _ _ _ _ h => h)) rfl (fun _ h => nomatch h) (fun S103 hx107 hG104 hB105 hA106 => ?_)
      obtain ⟨d108, hd109⟩ : ∃ q, F_X10_take bs n (StR S o0) (16) ((e9 (StR S o0))) ((-1)) = q := ⟨_, rfl⟩
      have hq110 := (congrArg (fun q => F_X10_take bs n q (16) ((e9 (StR S o0))) ((-1))) (stR_mk (sR_654 (T := S) (o := o0) rfl) (sR_655 (T := S) (o := o0) rfl) (sR_656 (T := S) (o := o0) rfl) (sR_657 (T := S) (o := o0) rfl) (sR_658 (T := S) (o := o0) rfl) (sR_659 (T := S) (o := o0) rfl) (sR_661 (T := S) (o := o0) rfl) (sR_662 (T := S) (o := o0) rfl) (sR_672 (T := S) (o := o0) rfl) (sR_673 (T := S) (o := o0) rfl) (sR_674 (T := S) (o := o0) rfl) (sR_675 (T := S) (o := o0) rfl) (sR_660 (T := S) (o := o0) rfl))).trans hd109
      have hs111 := hx107.trans hq110
      refine tt_aload_n (j := 0) dX10_readRest_654 rfl ?_
      refine tt_aload_n (j := 0) dX10_readRest_655 rfl ?_
      refine gt_VI (As := []) dX10_readRest_656 ca_X10_87 ⟨by decide, by decide⟩ h0 hA106 rfl (Nat.le_of_ble_eq_true rfl) (Nat.le_of_ble_eq_true rfl) (by decide) (ce_X10_next hG104 (oa_af h0 hA106) (br_af hb h0 hA106) (fun _ _ _ _ h => h)) rfl (fun _ h => nomatch h) (fun S112 x121 h122 hx116 hG113 hB114 hA115 => ?_)
      obtain ⟨d117, hd118⟩ : ∃ q, F_X10_next bs n d108  = q := ⟨_, rfl⟩
      have hq119 := (congrArg (fun q => F_X10_next bs n q ) (stR_mk (sR_654 hs111) (sR_655 hs111) (sR_656 hs111) (sR_657 hs111) (sR_658 hs111) (sR_659 hs111) (sR_661 hs111) (sR_662 hs111) (sR_672 hs111) (sR_673 hs111) (sR_674 hs111) (sR_675 hs111) (sR_660 hs111))).trans hd118
      have hs120 := hx116.2.trans (congrArg Prod.fst hq119)
      obtain rfl : x121 = d117.2 := (xiR_v hx116).trans (congrArg Prod.snd hq119)
      refine tt_aload_n (j := 0) dX10_readRest_659 rfl ?_
      refine gt_gI (id := 656) (v := (e2 d117.1)) dX10_readRest_660 fl_10_127 rfl rfl h0 hA115 (sR_656 hs120) ?_
      refine tt_bipush (v := 64) dX10_readRest_663 rfl ?_
      refine tt_icmp_ne (tgt := 673) dX10_readRest_665 rfl (fun q123 => ?_) (fun q123 => ?_)
      · skip
        refine tt_bipush (v := 31) dX10_readRest_673 rfl ?_
        refine tt_iand dX10_readRest_675 ?_
        refine gt_pI (id := 659) (x := (d117.2 &&& 31)) dX10_readRest_676 fl_10_120 rfl rfl h0 hA115 rfl rfl rfl (gp_I hG113) (by decide) (fun h => absurd h (by decide)) (fun h => absurd h (by decide)) (fun S124 hG125 hA126 e127 f128 er129 => ?_)
        refine tt_goto (tgt := 766) dX10_readRest_679 rfl ?_
        have hF : F_X10_readRest_p617 bs n (StR S o0) x1 x2 = ((e0 d117.1), (e1 d117.1), (e2 d117.1), (e3 d117.1), (e4 d117.1), (d117.2 &&& 31), (e6 d117.1), (e7 d117.1), (e8 d117.1), (e9 d117.1), (e10 d117.1), (e11 d117.1), (eJ d117.1)) := by
          subst hd118
          subst hd109
          exact q_X10_readRest_p617_5 q101 q102 q123
        exact tt_vreturn dX10_readRest_766 rfl (hP _ _ _ _ ⟨hG125, hA126, Or.inl ⟨_, rfl, rfl, Eq.trans (stR_mk ((congrFun (congrFun e127 654) o0).trans ((congrFun (up2_ne (k := 654)) o0).trans (sR_654 hs120))) ((congrFun (congrFun e127 655) o0).trans ((congrFun (up2_ne (k := 655)) o0).trans (sR_655 hs120))) ((congrFun (congrFun e127 656) o0).trans ((congrFun (up2_ne (k := 656)) o0).trans (sR_656 hs120))) ((congrFun (congrFun e127 657) o0).trans ((congrFun (up2_ne (k := 657)) o0).trans (sR_657 hs120))) ((congrFun (congrFun e127 658) o0).trans ((congrFun (up2_ne (k := 658)) o0).trans (sR_658 hs120))) (by rw [e127]; exact up2_self) ((congrFun (congrFun e127 661) o0).trans ((congrFun (up2_ne (k := 661)) o0).trans (sR_661 hs120))) ((congrFun (congrFun e127 662) o0).trans ((congrFun (up2_ne (k := 662)) o0).trans (sR_662 hs120))) ((congrFun (congrFun e127 672) o0).trans ((congrFun (up2_ne (k := 672)) o0).trans (sR_672 hs120))) ((congrFun (congrFun e127 673) o0).trans ((congrFun (up2_ne (k := 673)) o0).trans (sR_673 hs120))) ((congrFun (congrFun e127 674) o0).trans ((congrFun (up2_ne (k := 674)) o0).trans (sR_674 hs120))) ((congrFun (congrFun e127 675) o0).trans ((congrFun (up2_ne (k := 675)) o0).trans (sR_675 hs120))) ((congrFun (congrFun f128 660) o0).trans (sR_660 hs120))) hF.symm, rfl, rfl⟩⟩)
      · skip
        have h130 : Rg 64 64 (e2 d117.1) := rg_eq_l (rg_all (e2 d117.1)) (⟨by decide, by decide⟩ : Rg 64 64 64) q123
        refine tt_bipush (v := 63) dX10_readRest_668 rfl ?_
        refine tt_goto (tgt := 675) dX10_readRest_670 rfl ?_
        refine tt_iand dX10_readRest_675 ?_
        refine gt_pI (id := 659) (x := (d117.2 &&& 63)) dX10_readRest_676 fl_10_120 rfl rfl h0 hA115 rfl rfl rfl (gp_I hG113) (by decide) (fun h => absurd h (by decide)) (fun h => absurd h (by decide)) (fun S131 hG132 hA133 e134 f135 er136 => ?_)
        refine tt_goto (tgt := 766) dX10_readRest_679 rfl ?_
        have hF : F_X10_readRest_p617 bs n (StR S o0) x1 x2 = ((e0 d117.1), (e1 d117.1), (e2 d117.1), (e3 d117.1), (e4 d117.1), (d117.2 &&& 63), (e6 d117.1), (e7 d117.1), (e8 d117.1), (e9 d117.1), (e10 d117.1), (e11 d117.1), (eJ d117.1)) := by
          subst hd118
          subst hd109
          exact q_X10_readRest_p617_4 q101 q102 q123
        exact tt_vreturn dX10_readRest_766 rfl (hP _ _ _ _ ⟨hG132, hA133, Or.inl ⟨_, rfl, rfl, Eq.trans (stR_mk ((congrFun (congrFun e134 654) o0).trans ((congrFun (up2_ne (k := 654)) o0).trans (sR_654 hs120))) ((congrFun (congrFun e134 655) o0).trans ((congrFun (up2_ne (k := 655)) o0).trans (sR_655 hs120))) ((congrFun (congrFun e134 656) o0).trans ((congrFun (up2_ne (k := 656)) o0).trans (sR_656 hs120))) ((congrFun (congrFun e134 657) o0).trans ((congrFun (up2_ne (k := 657)) o0).trans (sR_657 hs120))) ((congrFun (congrFun e134 658) o0).trans ((congrFun (up2_ne (k := 658)) o0).trans (sR_658 hs120))) (by rw [e134]; exact up2_self) ((congrFun (congrFun e134 661) o0).trans ((congrFun (up2_ne (k := 661)) o0).trans (sR_661 hs120))) ((congrFun (congrFun e134 662) o0).trans ((congrFun (up2_ne (k := 662)) o0).trans (sR_662 hs120))) ((congrFun (congrFun e134 672) o0).trans ((congrFun (up2_ne (k := 672)) o0).trans (sR_672 hs120))) ((congrFun (congrFun e134 673) o0).trans ((congrFun (up2_ne (k := 673)) o0).trans (sR_673 hs120))) ((congrFun (congrFun e134 674) o0).trans ((congrFun (up2_ne (k := 674)) o0).trans (sR_674 hs120))) ((congrFun (congrFun e134 675) o0).trans ((congrFun (up2_ne (k := 675)) o0).trans (sR_675 hs120))) ((congrFun (congrFun f135 660) o0).trans (sR_660 hs120))) hF.symm, rfl, rfl⟩⟩)
    · skip
      have h137 : Rg 5 5 (e10 (StR S o0)) := rg_eq_l (gi_I (k := 674) hG h0 0 7) (⟨by decide, by decide⟩ : Rg 5 5 5) q102
      refine tt_bipush (v := 15) dX10_readRest_639 rfl ?_
      refine tt_goto (tgt := 646) dX10_readRest_641 rfl ?_
      refine tt_aload_n (j := 0) dX10_readRest_646 rfl ?_
      refine gt_gI (id := 673) (v := (e9 (StR S o0))) dX10_readRest_647 fl_10_100 rfl rfl h0 hA (sR_673 (T := S) (o := o0) rfl) ?_
      refine tt_iconst (v := (-1)) dX10_readRest_650 rfl ?_
      refine gt_Vv (As := [.int 15, .int (e9 (StR S o0)), .int (-1)]) dX10_readRest_651 ca_X10_123 ⟨by decide, by decide⟩ h0 hA rfl (Nat.le_of_ble_eq_true rfl) (Nat.le_of_ble_eq_true rfl) (by decide) (ce_X10_take hG (oa_af h0 hA) (br_af hb h0 hA) (fun _ _ _ _ h => h)) rfl (fun _ h => nomatch h) (fun S138 hx142 hG139 hB140 hA141 => ?_)
      obtain ⟨d143, hd144⟩ : ∃ q, F_X10_take bs n (StR S o0) (15) ((e9 (StR S o0))) ((-1)) = q := ⟨_, rfl⟩
      have hq145 := (congrArg (fun q => F_X10_take bs n q (15) ((e9 (StR S o0))) ((-1))) (stR_mk (sR_654 (T := S) (o := o0) rfl) (sR_655 (T := S) (o := o0) rfl) (sR_656 (T := S) (o := o0) rfl) (sR_657 (T := S) (o := o0) rfl) (sR_658 (T := S) (o := o0) rfl) (sR_659 (T := S) (o := o0) rfl) (sR_661 (T := S) (o := o0) rfl) (sR_662 (T := S) (o := o0) rfl) (sR_672 (T := S) (o := o0) rfl) (sR_673 (T := S) (o := o0) rfl) (sR_674 (T := S) (o := o0) rfl) (sR_675 (T := S) (o := o0) rfl) (sR_660 (T := S) (o := o0) rfl))).trans hd144
      have hs146 := hx142.trans hq145
      refine tt_aload_n (j := 0) dX10_readRest_654 rfl ?_
      refine tt_aload_n (j := 0) dX10_readRest_655 rfl ?_
      refine gt_VI (As := []) dX10_readRest_656 ca_X10_87 ⟨by decide, by decide⟩ h0 hA141 rfl (Nat.le_of_ble_eq_true rfl) (Nat.le_of_ble_eq_true rfl) (by decide) (ce_X10_next hG139 (oa_af h0 hA141) (br_af hb h0 hA141) (fun _ _ _ _ h => h)) rfl (fun _ h => nomatch h) (fun S147 x156 h157 hx151 hG148 hB149 hA150 => ?_)
      obtain ⟨d152, hd153⟩ : ∃ q, F_X10_next bs n d143  = q := ⟨_, rfl⟩
      have hq154 := (congrArg (fun q => F_X10_next bs n q ) (stR_mk (sR_654 hs146) (sR_655 hs146) (sR_656 hs146) (sR_657 hs146) (sR_658 hs146) (sR_659 hs146) (sR_661 hs146) (sR_662 hs146) (sR_672 hs146) (sR_673 hs146) (sR_674 hs146) (sR_675 hs146) (sR_660 hs146))).trans hd153
      have hs155 := hx151.2.trans (congrArg Prod.fst hq154)
      obtain rfl : x156 = d152.2 := (xiR_v hx151).trans (congrArg Prod.snd hq154)
      refine tt_aload_n (j := 0) dX10_readRest_659 rfl ?_
      refine gt_gI (id := 656) (v := (e2 d152.1)) dX10_readRest_660 fl_10_127 rfl rfl h0 hA150 (sR_656 hs155) ?_
      refine tt_bipush (v := 64) dX10_readRest_663 rfl ?_
      refine tt_icmp_ne (tgt := 673) dX10_readRest_665 rfl (fun q158 => ?_) (fun q158 => ?_)
      · skip
        refine tt_bipush (v := 31) dX10_readRest_673 rfl ?_
        refine tt_iand dX10_readRest_675 ?_
        refine gt_pI (id := 659) (x := (d152.2 &&& 31)) dX10_readRest_676 fl_10_120 rfl rfl h0 hA150 rfl rfl rfl (gp_I hG148) (by decide) (fun h => absurd h (by decide)) (fun h => absurd h (by decide)) (fun S159 hG160 hA161 e162 f163 er164 => ?_)
        refine tt_goto (tgt := 766) dX10_readRest_679 rfl ?_
        have hF : F_X10_readRest_p617 bs n (StR S o0) x1 x2 = ((e0 d152.1), (e1 d152.1), (e2 d152.1), (e3 d152.1), (e4 d152.1), (d152.2 &&& 31), (e6 d152.1), (e7 d152.1), (e8 d152.1), (e9 d152.1), (e10 d152.1), (e11 d152.1), (eJ d152.1)) := by
          subst hd153
          subst hd144
          exact q_X10_readRest_p617_3 q101 q102 q158
        exact tt_vreturn dX10_readRest_766 rfl (hP _ _ _ _ ⟨hG160, hA161, Or.inl ⟨_, rfl, rfl, Eq.trans (stR_mk ((congrFun (congrFun e162 654) o0).trans ((congrFun (up2_ne (k := 654)) o0).trans (sR_654 hs155))) ((congrFun (congrFun e162 655) o0).trans ((congrFun (up2_ne (k := 655)) o0).trans (sR_655 hs155))) ((congrFun (congrFun e162 656) o0).trans ((congrFun (up2_ne (k := 656)) o0).trans (sR_656 hs155))) ((congrFun (congrFun e162 657) o0).trans ((congrFun (up2_ne (k := 657)) o0).trans (sR_657 hs155))) ((congrFun (congrFun e162 658) o0).trans ((congrFun (up2_ne (k := 658)) o0).trans (sR_658 hs155))) (by rw [e162]; exact up2_self) ((congrFun (congrFun e162 661) o0).trans ((congrFun (up2_ne (k := 661)) o0).trans (sR_661 hs155))) ((congrFun (congrFun e162 662) o0).trans ((congrFun (up2_ne (k := 662)) o0).trans (sR_662 hs155))) ((congrFun (congrFun e162 672) o0).trans ((congrFun (up2_ne (k := 672)) o0).trans (sR_672 hs155))) ((congrFun (congrFun e162 673) o0).trans ((congrFun (up2_ne (k := 673)) o0).trans (sR_673 hs155))) ((congrFun (congrFun e162 674) o0).trans ((congrFun (up2_ne (k := 674)) o0).trans (sR_674 hs155))) ((congrFun (congrFun e162 675) o0).trans ((congrFun (up2_ne (k := 675)) o0).trans (sR_675 hs155))) ((congrFun (congrFun f163 660) o0).trans (sR_660 hs155))) hF.symm, rfl, rfl⟩⟩)
      · skip
        have h165 : Rg 64 64 (e2 d152.1) := rg_eq_l (rg_all (e2 d152.1)) (⟨by decide, by decide⟩ : Rg 64 64 64) q158
        refine tt_bipush (v := 63) dX10_readRest_668 rfl ?_
        refine tt_goto (tgt := 675) dX10_readRest_670 rfl ?_
        refine tt_iand dX10_readRest_675 ?_
        refine gt_pI (id := 659) (x := (d152.2 &&& 63)) dX10_readRest_676 fl_10_120 rfl rfl h0 hA150 rfl rfl rfl (gp_I hG148) (by decide) (fun h => absurd h (by decide)) (fun h => absurd h (by decide)) (fun S166 hG167 hA168 e169 f170 er171 => ?_)
        refine tt_goto (tgt := 766) dX10_readRest_679 rfl ?_
        have hF : F_X10_readRest_p617 bs n (StR S o0) x1 x2 = ((e0 d152.1), (e1 d152.1), (e2 d152.1), (e3 d152.1), (e4 d152.1), (d152.2 &&& 63), (e6 d152.1), (e7 d152.1), (e8 d152.1), (e9 d152.1), (e10 d152.1), (e11 d152.1), (eJ d152.1)) := by
          subst hd153
          subst hd144
          exact q_X10_readRest_p617_2 q101 q102 q158
        exact tt_vreturn dX10_readRest_766 rfl (hP _ _ _ _ ⟨hG167, hA168, Or.inl ⟨_, rfl, rfl, Eq.trans (stR_mk ((congrFun (congrFun e169 654) o0).trans ((congrFun (up2_ne (k := 654)) o0).trans (sR_654 hs155))) ((congrFun (congrFun e169 655) o0).trans ((congrFun (up2_ne (k := 655)) o0).trans (sR_655 hs155))) ((congrFun (congrFun e169 656) o0).trans ((congrFun (up2_ne (k := 656)) o0).trans (sR_656 hs155))) ((congrFun (congrFun e169 657) o0).trans ((congrFun (up2_ne (k := 657)) o0).trans (sR_657 hs155))) ((congrFun (congrFun e169 658) o0).trans ((congrFun (up2_ne (k := 658)) o0).trans (sR_658 hs155))) (by rw [e169]; exact up2_self) ((congrFun (congrFun e169 661) o0).trans ((congrFun (up2_ne (k := 661)) o0).trans (sR_661 hs155))) ((congrFun (congrFun e169 662) o0).trans ((congrFun (up2_ne (k := 662)) o0).trans (sR_662 hs155))) ((congrFun (congrFun e169 672) o0).trans ((congrFun (up2_ne (k := 672)) o0).trans (sR_672 hs155))) ((congrFun (congrFun e169 673) o0).trans ((congrFun (up2_ne (k := 673)) o0).trans (sR_673 hs155))) ((congrFun (congrFun e169 674) o0).trans ((congrFun (up2_ne (k := 674)) o0).trans (sR_674 hs155))) ((congrFun (congrFun e169 675) o0).trans ((congrFun (up2_ne (k := 675)) o0).trans (sR_675 hs155))) ((congrFun (congrFun f170 660) o0).trans (sR_660 hs155))) hF.symm, rfl, rfl⟩⟩)
  · skip
    have h172 : Rg 4 4 (e10 (StR S o0)) := rg_eq_l (gi_I (k := 674) hG h0 0 7) (⟨by decide, by decide⟩ : Rg 4 4 4) q101
    refine tt_bipush (v := 14) dX10_readRest_626 rfl ?_
    refine tt_goto (tgt := 646) dX10_readRest_628 rfl ?_
    refine tt_aload_n (j := 0) dX10_readRest_646 rfl ?_
    refine gt_gI (id := 673) (v := (e9 (StR S o0))) dX10_readRest_647 fl_10_100 rfl rfl h0 hA (sR_673 (T := S) (o := o0) rfl) ?_
    refine tt_iconst (v := (-1)) dX10_readRest_650 rfl ?_
    refine gt_Vv (As := [.int 14, .int (e9 (StR S o0)), .int (-1)]) dX10_readRest_651 ca_X10_123 ⟨by decide, by decide⟩ h0 hA rfl (Nat.le_of_ble_eq_true rfl) (Nat.le_of_ble_eq_true rfl) (by decide) (ce_X10_take hG (oa_af h0 hA) (br_af hb h0 hA) (fun _ _ _ _ h => h)) rfl (fun _ h => nomatch h) (fun S173 hx177 hG174 hB175 hA176 => ?_)
    obtain ⟨d178, hd179⟩ : ∃ q, F_X10_take bs n (StR S o0) (14) ((e9 (StR S o0))) ((-1)) = q := ⟨_, rfl⟩
    have hq180 := (congrArg (fun q => F_X10_take bs n q (14) ((e9 (StR S o0))) ((-1))) (stR_mk (sR_654 (T := S) (o := o0) rfl) (sR_655 (T := S) (o := o0) rfl) (sR_656 (T := S) (o := o0) rfl) (sR_657 (T := S) (o := o0) rfl) (sR_658 (T := S) (o := o0) rfl) (sR_659 (T := S) (o := o0) rfl) (sR_661 (T := S) (o := o0) rfl) (sR_662 (T := S) (o := o0) rfl) (sR_672 (T := S) (o := o0) rfl) (sR_673 (T := S) (o := o0) rfl) (sR_674 (T := S) (o := o0) rfl) (sR_675 (T := S) (o := o0) rfl) (sR_660 (T := S) (o := o0) rfl))).trans hd179
    have hs181 := hx177.trans hq180
    refine tt_aload_n (j := 0) dX10_readRest_654 rfl ?_
    refine tt_aload_n (j := 0) dX10_readRest_655 rfl ?_
    refine gt_VI (As := []) dX10_readRest_656 ca_X10_87 ⟨by decide, by decide⟩ h0 hA176 rfl (Nat.le_of_ble_eq_true rfl) (Nat.le_of_ble_eq_true rfl) (by decide) (ce_X10_next hG174 (oa_af h0 hA176) (br_af hb h0 hA176) (fun _ _ _ _ h => h)) rfl (fun _ h => nomatch h) (fun S182 x191 h192 hx186 hG183 hB184 hA185 => ?_)
    obtain ⟨d187, hd188⟩ : ∃ q, F_X10_next bs n d178  = q := ⟨_, rfl⟩
    have hq189 := (congrArg (fun q => F_X10_next bs n q ) (stR_mk (sR_654 hs181) (sR_655 hs181) (sR_656 hs181) (sR_657 hs181) (sR_658 hs181) (sR_659 hs181) (sR_661 hs181) (sR_662 hs181) (sR_672 hs181) (sR_673 hs181) (sR_674 hs181) (sR_675 hs181) (sR_660 hs181))).trans hd188
    have hs190 := hx186.2.trans (congrArg Prod.fst hq189)
    obtain rfl : x191 = d187.2 := (xiR_v hx186).trans (congrArg Prod.snd hq189)
    refine tt_aload_n (j := 0) dX10_readRest_659 rfl ?_
    refine gt_gI (id := 656) (v := (e2 d187.1)) dX10_readRest_660 fl_10_127 rfl rfl h0 hA185 (sR_656 hs190) ?_
    refine tt_bipush (v := 64) dX10_readRest_663 rfl ?_
    refine tt_icmp_ne (tgt := 673) dX10_readRest_665 rfl (fun q193 => ?_) (fun q193 => ?_)
    · skip
      refine tt_bipush (v := 31) dX10_readRest_673 rfl ?_
      refine tt_iand dX10_readRest_675 ?_
      refine gt_pI (id := 659) (x := (d187.2 &&& 31)) dX10_readRest_676 fl_10_120 rfl rfl h0 hA185 rfl rfl rfl (gp_I hG183) (by decide) (fun h => absurd h (by decide)) (fun h => absurd h (by decide)) (fun S194 hG195 hA196 e197 f198 er199 => ?_)
      refine tt_goto (tgt := 766) dX10_readRest_679 rfl ?_
      have hF : F_X10_readRest_p617 bs n (StR S o0) x1 x2 = ((e0 d187.1), (e1 d187.1), (e2 d187.1), (e3 d187.1), (e4 d187.1), (d187.2 &&& 31), (e6 d187.1), (e7 d187.1), (e8 d187.1), (e9 d187.1), (e10 d187.1), (e11 d187.1), (eJ d187.1)) := by
        subst hd188
        subst hd179
        exact q_X10_readRest_p617_1 q101 q193
      exact tt_vreturn dX10_readRest_766 rfl (hP _ _ _ _ ⟨hG195, hA196, Or.inl ⟨_, rfl, rfl, Eq.trans (stR_mk ((congrFun (congrFun e197 654) o0).trans ((congrFun (up2_ne (k := 654)) o0).trans (sR_654 hs190))) ((congrFun (congrFun e197 655) o0).trans ((congrFun (up2_ne (k := 655)) o0).trans (sR_655 hs190))) ((congrFun (congrFun e197 656) o0).trans ((congrFun (up2_ne (k := 656)) o0).trans (sR_656 hs190))) ((congrFun (congrFun e197 657) o0).trans ((congrFun (up2_ne (k := 657)) o0).trans (sR_657 hs190))) ((congrFun (congrFun e197 658) o0).trans ((congrFun (up2_ne (k := 658)) o0).trans (sR_658 hs190))) (by rw [e197]; exact up2_self) ((congrFun (congrFun e197 661) o0).trans ((congrFun (up2_ne (k := 661)) o0).trans (sR_661 hs190))) ((congrFun (congrFun e197 662) o0).trans ((congrFun (up2_ne (k := 662)) o0).trans (sR_662 hs190))) ((congrFun (congrFun e197 672) o0).trans ((congrFun (up2_ne (k := 672)) o0).trans (sR_672 hs190))) ((congrFun (congrFun e197 673) o0).trans ((congrFun (up2_ne (k := 673)) o0).trans (sR_673 hs190))) ((congrFun (congrFun e197 674) o0).trans ((congrFun (up2_ne (k := 674)) o0).trans (sR_674 hs190))) ((congrFun (congrFun e197 675) o0).trans ((congrFun (up2_ne (k := 675)) o0).trans (sR_675 hs190))) ((congrFun (congrFun f198 660) o0).trans (sR_660 hs190))) hF.symm, rfl, rfl⟩⟩)
    · skip
      have h200 : Rg 64 64 (e2 d187.1) := rg_eq_l (rg_all (e2 d187.1)) (⟨by decide, by decide⟩ : Rg 64 64 64) q193
      refine tt_bipush (v := 63) dX10_readRest_668 rfl ?_
      refine tt_goto (tgt := 675) dX10_readRest_670 rfl ?_
      refine tt_iand dX10_readRest_675 ?_
      refine gt_pI (id := 659) (x := (d187.2 &&& 63)) dX10_readRest_676 fl_10_120 rfl rfl h0 hA185 rfl rfl rfl (gp_I hG183) (by decide) (fun h => absurd h (by decide)) (fun h => absurd h (by decide)) (fun S201 hG202 hA203 e204 f205 er206 => ?_)
      refine tt_goto (tgt := 766) dX10_readRest_679 rfl ?_
      have hF : F_X10_readRest_p617 bs n (StR S o0) x1 x2 = ((e0 d187.1), (e1 d187.1), (e2 d187.1), (e3 d187.1), (e4 d187.1), (d187.2 &&& 63), (e6 d187.1), (e7 d187.1), (e8 d187.1), (e9 d187.1), (e10 d187.1), (e11 d187.1), (eJ d187.1)) := by
        subst hd188
        subst hd179
        exact q_X10_readRest_p617_0 q101 q193
      exact tt_vreturn dX10_readRest_766 rfl (hP _ _ _ _ ⟨hG202, hA203, Or.inl ⟨_, rfl, rfl, Eq.trans (stR_mk ((congrFun (congrFun e204 654) o0).trans ((congrFun (up2_ne (k := 654)) o0).trans (sR_654 hs190))) ((congrFun (congrFun e204 655) o0).trans ((congrFun (up2_ne (k := 655)) o0).trans (sR_655 hs190))) ((congrFun (congrFun e204 656) o0).trans ((congrFun (up2_ne (k := 656)) o0).trans (sR_656 hs190))) ((congrFun (congrFun e204 657) o0).trans ((congrFun (up2_ne (k := 657)) o0).trans (sR_657 hs190))) ((congrFun (congrFun e204 658) o0).trans ((congrFun (up2_ne (k := 658)) o0).trans (sR_658 hs190))) (by rw [e204]; exact up2_self) ((congrFun (congrFun e204 661) o0).trans ((congrFun (up2_ne (k := 661)) o0).trans (sR_661 hs190))) ((congrFun (congrFun e204 662) o0).trans ((congrFun (up2_ne (k := 662)) o0).trans (sR_662 hs190))) ((congrFun (congrFun e204 672) o0).trans ((congrFun (up2_ne (k := 672)) o0).trans (sR_672 hs190))) ((congrFun (congrFun e204 673) o0).trans ((congrFun (up2_ne (k := 673)) o0).trans (sR_673 hs190))) ((congrFun (congrFun e204 674) o0).trans ((congrFun (up2_ne (k := 674)) o0).trans (sR_674 hs190))) ((congrFun (congrFun e204 675) o0).trans ((congrFun (up2_ne (k := 675)) o0).trans (sR_675 hs190))) ((congrFun (congrFun f205 660) o0).trans (sR_660 hs190))) hF.symm, rfl, rfl⟩⟩)
def F_X10_readRest_p571 (bs : Nat → Int32) (n : Int32) (d : DD) (x1 : Int32) (x2 : Int32) : DD :=
  let d106 := F_X10_readPlaces bs n d (x2)
  if (e7 d106) = 0 then
    if (e10 d106) = 4 then
      F_X10_readRest_p617 bs n ((e0 d106), (e1 d106), (e2 d106), (e3 d106), (e4 d106), (e5 d106), (e6 d106), 0, (e8 d106), (e9 d106), (e10 d106), (e11 d106), (eJ d106)) (x1) (x2)
    else
      if (e10 d106) = 5 then
        F_X10_readRest_p617 bs n ((e0 d106), (e1 d106), (e2 d106), (e3 d106), (e4 d106), (e5 d106), (e6 d106), 0, (e8 d106), (e9 d106), (e10 d106), (e11 d106), (eJ d106)) (x1) (x2)
      else
        if (e10 d106) = 7 then
          F_X10_readRest_p617 bs n ((e0 d106), (e1 d106), (e2 d106), (e3 d106), (e4 d106), (e5 d106), (e6 d106), 0, (e8 d106), (e9 d106), (e10 d106), (e11 d106), (eJ d106)) (x1) (x2)
        else
          F_X10_readRest_p617 bs n ((e0 d106), (e1 d106), (e2 d106), (e3 d106), (e4 d106), (e5 d106), (e6 d106), 1, (e8 d106), (e9 d106), (e10 d106), (e11 d106), (eJ d106)) (x1) (x2)
  else
    F_X10_readRest_p617 bs n ((e0 d106), (e1 d106), (e2 d106), (e3 d106), (e4 d106), (e5 d106), (e6 d106), 1, (e8 d106), (e9 d106), (e10 d106), (e11 d106), (eJ d106)) (x1) (x2)
theorem q_X10_readRest_p571_0 {bs : Nat → Int32} {n : Int32} {d : DD} {x1 : Int32} {x2 : Int32} (h0 : (e7 (F_X10_readPlaces bs n d (x2))) = 0) (h1 : (e10 (F_X10_readPlaces bs n d (x2))) = 4) : F_X10_readRest_p571 bs n d x1 x2 = F_X10_readRest_p617 bs n ((e0 (F_X10_readPlaces bs n d (x2))), (e1 (F_X10_readPlaces bs n d (x2))), (e2 (F_X10_readPlaces bs n d (x2))), (e3 (F_X10_readPlaces bs n d (x2))), (e4 (F_X10_readPlaces bs n d (x2))), (e5 (F_X10_readPlaces bs n d (x2))), (e6 (F_X10_readPlaces bs n d (x2))), 0, (e8 (F_X10_readPlaces bs n d (x2))), (e9 (F_X10_readPlaces bs n d (x2))), (e10 (F_X10_readPlaces bs n d (x2))), (e11 (F_X10_readPlaces bs n d (x2))), (eJ (F_X10_readPlaces bs n d (x2)))) (x1) (x2) := by unfold F_X10_readRest_p571; exact Eq.trans (if_pos h0) (if_pos h1)
theorem q_X10_readRest_p571_1 {bs : Nat → Int32} {n : Int32} {d : DD} {x1 : Int32} {x2 : Int32} (h0 : (e7 (F_X10_readPlaces bs n d (x2))) = 0) (h1 : ¬ (e10 (F_X10_readPlaces bs n d (x2))) = 4) (h2 : (e10 (F_X10_readPlaces bs n d (x2))) = 5) : F_X10_readRest_p571 bs n d x1 x2 = F_X10_readRest_p617 bs n ((e0 (F_X10_readPlaces bs n d (x2))), (e1 (F_X10_readPlaces bs n d (x2))), (e2 (F_X10_readPlaces bs n d (x2))), (e3 (F_X10_readPlaces bs n d (x2))), (e4 (F_X10_readPlaces bs n d (x2))), (e5 (F_X10_readPlaces bs n d (x2))), (e6 (F_X10_readPlaces bs n d (x2))), 0, (e8 (F_X10_readPlaces bs n d (x2))), (e9 (F_X10_readPlaces bs n d (x2))), (e10 (F_X10_readPlaces bs n d (x2))), (e11 (F_X10_readPlaces bs n d (x2))), (eJ (F_X10_readPlaces bs n d (x2)))) (x1) (x2) := by unfold F_X10_readRest_p571; exact Eq.trans (if_pos h0) (Eq.trans (if_neg h1) (if_pos h2))
theorem q_X10_readRest_p571_2 {bs : Nat → Int32} {n : Int32} {d : DD} {x1 : Int32} {x2 : Int32} (h0 : (e7 (F_X10_readPlaces bs n d (x2))) = 0) (h1 : ¬ (e10 (F_X10_readPlaces bs n d (x2))) = 4) (h2 : ¬ (e10 (F_X10_readPlaces bs n d (x2))) = 5) (h3 : (e10 (F_X10_readPlaces bs n d (x2))) = 7) : F_X10_readRest_p571 bs n d x1 x2 = F_X10_readRest_p617 bs n ((e0 (F_X10_readPlaces bs n d (x2))), (e1 (F_X10_readPlaces bs n d (x2))), (e2 (F_X10_readPlaces bs n d (x2))), (e3 (F_X10_readPlaces bs n d (x2))), (e4 (F_X10_readPlaces bs n d (x2))), (e5 (F_X10_readPlaces bs n d (x2))), (e6 (F_X10_readPlaces bs n d (x2))), 0, (e8 (F_X10_readPlaces bs n d (x2))), (e9 (F_X10_readPlaces bs n d (x2))), (e10 (F_X10_readPlaces bs n d (x2))), (e11 (F_X10_readPlaces bs n d (x2))), (eJ (F_X10_readPlaces bs n d (x2)))) (x1) (x2) := by unfold F_X10_readRest_p571; exact Eq.trans (if_pos h0) (Eq.trans (if_neg h1) (Eq.trans (if_neg h2) (if_pos h3)))
theorem q_X10_readRest_p571_3 {bs : Nat → Int32} {n : Int32} {d : DD} {x1 : Int32} {x2 : Int32} (h0 : (e7 (F_X10_readPlaces bs n d (x2))) = 0) (h1 : ¬ (e10 (F_X10_readPlaces bs n d (x2))) = 4) (h2 : ¬ (e10 (F_X10_readPlaces bs n d (x2))) = 5) (h3 : ¬ (e10 (F_X10_readPlaces bs n d (x2))) = 7) : F_X10_readRest_p571 bs n d x1 x2 = F_X10_readRest_p617 bs n ((e0 (F_X10_readPlaces bs n d (x2))), (e1 (F_X10_readPlaces bs n d (x2))), (e2 (F_X10_readPlaces bs n d (x2))), (e3 (F_X10_readPlaces bs n d (x2))), (e4 (F_X10_readPlaces bs n d (x2))), (e5 (F_X10_readPlaces bs n d (x2))), (e6 (F_X10_readPlaces bs n d (x2))), 1, (e8 (F_X10_readPlaces bs n d (x2))), (e9 (F_X10_readPlaces bs n d (x2))), (e10 (F_X10_readPlaces bs n d (x2))), (e11 (F_X10_readPlaces bs n d (x2))), (eJ (F_X10_readPlaces bs n d (x2)))) (x1) (x2) := by unfold F_X10_readRest_p571; exact Eq.trans (if_pos h0) (Eq.trans (if_neg h1) (Eq.trans (if_neg h2) (if_neg h3)))
theorem q_X10_readRest_p571_4 {bs : Nat → Int32} {n : Int32} {d : DD} {x1 : Int32} {x2 : Int32} (h0 : ¬ (e7 (F_X10_readPlaces bs n d (x2))) = 0) : F_X10_readRest_p571 bs n d x1 x2 = F_X10_readRest_p617 bs n ((e0 (F_X10_readPlaces bs n d (x2))), (e1 (F_X10_readPlaces bs n d (x2))), (e2 (F_X10_readPlaces bs n d (x2))), (e3 (F_X10_readPlaces bs n d (x2))), (e4 (F_X10_readPlaces bs n d (x2))), (e5 (F_X10_readPlaces bs n d (x2))), (e6 (F_X10_readPlaces bs n d (x2))), 1, (e8 (F_X10_readPlaces bs n d (x2))), (e9 (F_X10_readPlaces bs n d (x2))), (e10 (F_X10_readPlaces bs n d (x2))), (e11 (F_X10_readPlaces bs n d (x2))), (eJ (F_X10_readPlaces bs n d (x2)))) (x1) (x2) := by unfold F_X10_readRest_p571; exact if_neg h0
set_option maxHeartbeats 40000000 in
theorem ce_X10_readRest_p571 {xi : SX} {S : Hp} {E : List Nat} {kc nc : Nat} {P : Po} {o0 : Nat} {x1 : Int32} {x2 : Int32} {bs : Nat → Int32} {n : Int32} (hG : GI S E) (h0 : Oa S E 10 0 o0) (hb : BR S E o0 bs n) (hP : ∀ r T x y, PV E [654, 655, 657, 658, 659, 662, 672, 673, 674, 675, 9998] S kc nc rV (fun v T => StR T o0 = F_X10_readRest_p571 bs n (StR S o0) x1 x2) [] r T x y → P r T x y) : TT xi M_X10_readRest 571 [(0, .ref o0), (1, .int x1), (2, .int x2)] [] S kc nc P := by
  have hA : Af E [654, 655, 657, 658, 659, 662, 672, 673, 674, 675, 9998] S S := af_rf
  refine tt_aload_n (j := 0) dX10_readRest_571 rfl ?_
  refine tt_iload_n (j := 2) dX10_readRest_572 rfl ?_
  refine gt_Vv (As := [.int x2]) dX10_readRest_573 ca_X10_137 ⟨by decide, by decide⟩ h0 hA rfl (Nat.le_of_ble_eq_true rfl) (Nat.le_of_ble_eq_true rfl) (by decide) (ce_X10_readPlaces hG (oa_af h0 hA) (br_af hb h0 hA) (fun _ _ _ _ h => h)) rfl (fun _ h => nomatch h) (fun S101 hx105 hG102 hB103 hA104 => ?_)
  obtain ⟨d106, hd107⟩ : ∃ q, F_X10_readPlaces bs n (StR S o0) (x2) = q := ⟨_, rfl⟩
  have hq108 := (congrArg (fun q => F_X10_readPlaces bs n q (x2)) (stR_mk (sR_654 (T := S) (o := o0) rfl) (sR_655 (T := S) (o := o0) rfl) (sR_656 (T := S) (o := o0) rfl) (sR_657 (T := S) (o := o0) rfl) (sR_658 (T := S) (o := o0) rfl) (sR_659 (T := S) (o := o0) rfl) (sR_661 (T := S) (o := o0) rfl) (sR_662 (T := S) (o := o0) rfl) (sR_672 (T := S) (o := o0) rfl) (sR_673 (T := S) (o := o0) rfl) (sR_674 (T := S) (o := o0) rfl) (sR_675 (T := S) (o := o0) rfl) (sR_660 (T := S) (o := o0) rfl))).trans hd107
  have hs109 := hx105.trans hq108
  refine tt_aload_n (j := 0) dX10_readRest_576 rfl ?_
  refine tt_aload_n (j := 0) dX10_readRest_577 rfl ?_
  refine gt_gI (id := 662) (v := (e7 d106)) dX10_readRest_578 fl_10_84 rfl rfl h0 hA104 (sR_662 hs109) ?_
  refine tt_if_ne (tgt := 609) dX10_readRest_581 rfl (fun q110 => ?_) (fun q110 => ?_)
  · skip
    refine tt_iconst (v := 1) dX10_readRest_609 rfl ?_
    refine tt_goto (tgt := 614) dX10_readRest_610 rfl ?_
    refine gt_pI (id := 662) (x := 1) dX10_readRest_614 fl_10_84 rfl rfl h0 hA104 rfl rfl rfl (gp_Ir hG102 (⟨by decide, by decide⟩ : Rg 1 1 1)) (by decide) (fun _ h => absurd (by decide) h) (fun h => absurd h (by decide)) (fun S111 hG112 hA113 e114 f115 er116 => ?_)
    have hF : F_X10_readRest_p571 bs n (StR S o0) x1 x2 = F_X10_readRest_p617 bs n ((e0 d106), (e1 d106), (e2 d106), (e3 d106), (e4 d106), (e5 d106), (e6 d106), 1, (e8 d106), (e9 d106), (e10 d106), (e11 d106), (eJ d106)) (x1) (x2) := by
      subst hd107
      exact q_X10_readRest_p571_4 q110
    exact tt_loc (ks := [0, 1, 2]) rfl (ce_X10_readRest_p617 hG112 (oa_af h0 hA113) (br_af hb h0 hA113) (fun r T x y h => hP r T x y (pv_tr hA113 h (by decide) (fun v T e => e.trans ((congrArg (fun q => F_X10_readRest_p617 bs n q (x1) (x2)) (stR_mk ((congrFun (congrFun e114 654) o0).trans ((congrFun (up2_ne (k := 654)) o0).trans (sR_654 hs109))) ((congrFun (congrFun e114 655) o0).trans ((congrFun (up2_ne (k := 655)) o0).trans (sR_655 hs109))) ((congrFun (congrFun e114 656) o0).trans ((congrFun (up2_ne (k := 656)) o0).trans (sR_656 hs109))) ((congrFun (congrFun e114 657) o0).trans ((congrFun (up2_ne (k := 657)) o0).trans (sR_657 hs109))) ((congrFun (congrFun e114 658) o0).trans ((congrFun (up2_ne (k := 658)) o0).trans (sR_658 hs109))) ((congrFun (congrFun e114 659) o0).trans ((congrFun (up2_ne (k := 659)) o0).trans (sR_659 hs109))) ((congrFun (congrFun e114 661) o0).trans ((congrFun (up2_ne (k := 661)) o0).trans (sR_661 hs109))) (by rw [e114]; exact up2_self) ((congrFun (congrFun e114 672) o0).trans ((congrFun (up2_ne (k := 672)) o0).trans (sR_672 hs109))) ((congrFun (congrFun e114 673) o0).trans ((congrFun (up2_ne (k := 673)) o0).trans (sR_673 hs109))) ((congrFun (congrFun e114 674) o0).trans ((congrFun (up2_ne (k := 674)) o0).trans (sR_674 hs109))) ((congrFun (congrFun e114 675) o0).trans ((congrFun (up2_ne (k := 675)) o0).trans (sR_675 hs109))) ((congrFun (congrFun f115 660) o0).trans (sR_660 hs109)))).trans hF.symm)))))
  · skip
    have h117 : Rg 0 0 (e7 d106) := rg_eq_l (rg_all (e7 d106)) (⟨by decide, by decide⟩ : Rg 0 0 0) q110
    refine tt_aload_n (j := 0) dX10_readRest_584 rfl ?_
    refine gt_gI (id := 674) (v := (e10 d106)) dX10_readRest_585 fl_10_94 rfl rfl h0 hA104 (sR_674 hs109) ?_
    refine tt_iconst (v := 4) dX10_readRest_588 rfl ?_
    refine tt_icmp_eq (tgt := 613) dX10_readRest_589 rfl (fun q118 => ?_) (fun q118 => ?_)
    · skip
      have h119 : Rg 4 4 (e10 d106) := rg_eq_l (rg_all (e10 d106)) (⟨by decide, by decide⟩ : Rg 4 4 4) q118
      refine tt_iconst (v := 0) dX10_readRest_613 rfl ?_
      refine gt_pI (id := 662) (x := 0) dX10_readRest_614 fl_10_84 rfl rfl h0 hA104 rfl rfl rfl (gp_Ir hG102 (⟨by decide, by decide⟩ : Rg 0 0 0)) (by decide) (fun _ h => absurd (by decide) h) (fun h => absurd h (by decide)) (fun S120 hG121 hA122 e123 f124 er125 => ?_)
      have hF : F_X10_readRest_p571 bs n (StR S o0) x1 x2 = F_X10_readRest_p617 bs n ((e0 d106), (e1 d106), (e2 d106), (e3 d106), (e4 d106), (e5 d106), (e6 d106), 0, (e8 d106), (e9 d106), (e10 d106), (e11 d106), (eJ d106)) (x1) (x2) := by
        subst hd107
        exact q_X10_readRest_p571_0 q110 q118
      exact tt_loc (ks := [0, 1, 2]) rfl (ce_X10_readRest_p617 hG121 (oa_af h0 hA122) (br_af hb h0 hA122) (fun r T x y h => hP r T x y (pv_tr hA122 h (by decide) (fun v T e => e.trans ((congrArg (fun q => F_X10_readRest_p617 bs n q (x1) (x2)) (stR_mk ((congrFun (congrFun e123 654) o0).trans ((congrFun (up2_ne (k := 654)) o0).trans (sR_654 hs109))) ((congrFun (congrFun e123 655) o0).trans ((congrFun (up2_ne (k := 655)) o0).trans (sR_655 hs109))) ((congrFun (congrFun e123 656) o0).trans ((congrFun (up2_ne (k := 656)) o0).trans (sR_656 hs109))) ((congrFun (congrFun e123 657) o0).trans ((congrFun (up2_ne (k := 657)) o0).trans (sR_657 hs109))) ((congrFun (congrFun e123 658) o0).trans ((congrFun (up2_ne (k := 658)) o0).trans (sR_658 hs109))) ((congrFun (congrFun e123 659) o0).trans ((congrFun (up2_ne (k := 659)) o0).trans (sR_659 hs109))) ((congrFun (congrFun e123 661) o0).trans ((congrFun (up2_ne (k := 661)) o0).trans (sR_661 hs109))) (by rw [e123]; exact up2_self) ((congrFun (congrFun e123 672) o0).trans ((congrFun (up2_ne (k := 672)) o0).trans (sR_672 hs109))) ((congrFun (congrFun e123 673) o0).trans ((congrFun (up2_ne (k := 673)) o0).trans (sR_673 hs109))) ((congrFun (congrFun e123 674) o0).trans ((congrFun (up2_ne (k := 674)) o0).trans (sR_674 hs109))) ((congrFun (congrFun e123 675) o0).trans ((congrFun (up2_ne (k := 675)) o0).trans (sR_675 hs109))) ((congrFun (congrFun f124 660) o0).trans (sR_660 hs109)))).trans hF.symm)))))
    · skip
      refine tt_aload_n (j := 0) dX10_readRest_592 rfl ?_
      refine gt_gI (id := 674) (v := (e10 d106)) dX10_readRest_593 fl_10_94 rfl rfl h0 hA104 (sR_674 hs109) ?_
      refine tt_iconst (v := 5) dX10_readRest_596 rfl ?_
      refine tt_icmp_eq (tgt := 613) dX10_readRest_597 rfl (fun q126 => ?_) (fun q126 => ?_)
      · skip
        have h127 : Rg 5 5 (e10 d106) := rg_eq_l (rg_all (e10 d106)) (⟨by decide, by decide⟩ : Rg 5 5 5) q126
        refine tt_iconst (v := 0) dX10_readRest_613 rfl ?_
        refine gt_pI (id := 662) (x := 0) dX10_readRest_614 fl_10_84 rfl rfl h0 hA104 rfl rfl rfl (gp_Ir hG102 (⟨by decide, by decide⟩ : Rg 0 0 0)) (by decide) (fun _ h => absurd (by decide) h) (fun h => absurd h (by decide)) (fun S128 hG129 hA130 e131 f132 er133 => ?_)
        have hF : F_X10_readRest_p571 bs n (StR S o0) x1 x2 = F_X10_readRest_p617 bs n ((e0 d106), (e1 d106), (e2 d106), (e3 d106), (e4 d106), (e5 d106), (e6 d106), 0, (e8 d106), (e9 d106), (e10 d106), (e11 d106), (eJ d106)) (x1) (x2) := by
          subst hd107
          exact q_X10_readRest_p571_1 q110 q118 q126
        exact tt_loc (ks := [0, 1, 2]) rfl (ce_X10_readRest_p617 hG129 (oa_af h0 hA130) (br_af hb h0 hA130) (fun r T x y h => hP r T x y (pv_tr hA130 h (by decide) (fun v T e => e.trans ((congrArg (fun q => F_X10_readRest_p617 bs n q (x1) (x2)) (stR_mk ((congrFun (congrFun e131 654) o0).trans ((congrFun (up2_ne (k := 654)) o0).trans (sR_654 hs109))) ((congrFun (congrFun e131 655) o0).trans ((congrFun (up2_ne (k := 655)) o0).trans (sR_655 hs109))) ((congrFun (congrFun e131 656) o0).trans ((congrFun (up2_ne (k := 656)) o0).trans (sR_656 hs109))) ((congrFun (congrFun e131 657) o0).trans ((congrFun (up2_ne (k := 657)) o0).trans (sR_657 hs109))) ((congrFun (congrFun e131 658) o0).trans ((congrFun (up2_ne (k := 658)) o0).trans (sR_658 hs109))) ((congrFun (congrFun e131 659) o0).trans ((congrFun (up2_ne (k := 659)) o0).trans (sR_659 hs109))) ((congrFun (congrFun e131 661) o0).trans ((congrFun (up2_ne (k := 661)) o0).trans (sR_661 hs109))) (by rw [e131]; exact up2_self) ((congrFun (congrFun e131 672) o0).trans ((congrFun (up2_ne (k := 672)) o0).trans (sR_672 hs109))) ((congrFun (congrFun e131 673) o0).trans ((congrFun (up2_ne (k := 673)) o0).trans (sR_673 hs109))) ((congrFun (congrFun e131 674) o0).trans ((congrFun (up2_ne (k := 674)) o0).trans (sR_674 hs109))) ((congrFun (congrFun e131 675) o0).trans ((congrFun (up2_ne (k := 675)) o0).trans (sR_675 hs109))) ((congrFun (congrFun f132 660) o0).trans (sR_660 hs109)))).trans hF.symm)))))
      · skip
        refine tt_aload_n (j := 0) dX10_readRest_600 rfl ?_
        refine gt_gI (id := 674) (v := (e10 d106)) dX10_readRest_601 fl_10_94 rfl rfl h0 hA104 (sR_674 hs109) ?_
        refine tt_bipush (v := 7) dX10_readRest_604 rfl ?_
        refine tt_icmp_eq (tgt := 613) dX10_readRest_606 rfl (fun q134 => ?_) (fun q134 => ?_)
        · skip
          have h135 : Rg 7 7 (e10 d106) := rg_eq_l (rg_all (e10 d106)) (⟨by decide, by decide⟩ : Rg 7 7 7) q134
          refine tt_iconst (v := 0) dX10_readRest_613 rfl ?_
          refine gt_pI (id := 662) (x := 0) dX10_readRest_614 fl_10_84 rfl rfl h0 hA104 rfl rfl rfl (gp_Ir hG102 (⟨by decide, by decide⟩ : Rg 0 0 0)) (by decide) (fun _ h => absurd (by decide) h) (fun h => absurd h (by decide)) (fun S136 hG137 hA138 e139 f140 er141 => ?_)
          have hF : F_X10_readRest_p571 bs n (StR S o0) x1 x2 = F_X10_readRest_p617 bs n ((e0 d106), (e1 d106), (e2 d106), (e3 d106), (e4 d106), (e5 d106), (e6 d106), 0, (e8 d106), (e9 d106), (e10 d106), (e11 d106), (eJ d106)) (x1) (x2) := by
            subst hd107
            exact q_X10_readRest_p571_2 q110 q118 q126 q134
          exact tt_loc (ks := [0, 1, 2]) rfl (ce_X10_readRest_p617 hG137 (oa_af h0 hA138) (br_af hb h0 hA138) (fun r T x y h => hP r T x y (pv_tr hA138 h (by decide) (fun v T e => e.trans ((congrArg (fun q => F_X10_readRest_p617 bs n q (x1) (x2)) (stR_mk ((congrFun (congrFun e139 654) o0).trans ((congrFun (up2_ne (k := 654)) o0).trans (sR_654 hs109))) ((congrFun (congrFun e139 655) o0).trans ((congrFun (up2_ne (k := 655)) o0).trans (sR_655 hs109))) ((congrFun (congrFun e139 656) o0).trans ((congrFun (up2_ne (k := 656)) o0).trans (sR_656 hs109))) ((congrFun (congrFun e139 657) o0).trans ((congrFun (up2_ne (k := 657)) o0).trans (sR_657 hs109))) ((congrFun (congrFun e139 658) o0).trans ((congrFun (up2_ne (k := 658)) o0).trans (sR_658 hs109))) ((congrFun (congrFun e139 659) o0).trans ((congrFun (up2_ne (k := 659)) o0).trans (sR_659 hs109))) ((congrFun (congrFun e139 661) o0).trans ((congrFun (up2_ne (k := 661)) o0).trans (sR_661 hs109))) (by rw [e139]; exact up2_self) ((congrFun (congrFun e139 672) o0).trans ((congrFun (up2_ne (k := 672)) o0).trans (sR_672 hs109))) ((congrFun (congrFun e139 673) o0).trans ((congrFun (up2_ne (k := 673)) o0).trans (sR_673 hs109))) ((congrFun (congrFun e139 674) o0).trans ((congrFun (up2_ne (k := 674)) o0).trans (sR_674 hs109))) ((congrFun (congrFun e139 675) o0).trans ((congrFun (up2_ne (k := 675)) o0).trans (sR_675 hs109))) ((congrFun (congrFun f140 660) o0).trans (sR_660 hs109)))).trans hF.symm)))))
        · skip
          refine tt_iconst (v := 1) dX10_readRest_609 rfl ?_
          refine tt_goto (tgt := 614) dX10_readRest_610 rfl ?_
          refine gt_pI (id := 662) (x := 1) dX10_readRest_614 fl_10_84 rfl rfl h0 hA104 rfl rfl rfl (gp_Ir hG102 (⟨by decide, by decide⟩ : Rg 1 1 1)) (by decide) (fun _ h => absurd (by decide) h) (fun h => absurd h (by decide)) (fun S142 hG143 hA144 e145 f146 er147 => ?_)
          have hF : F_X10_readRest_p571 bs n (StR S o0) x1 x2 = F_X10_readRest_p617 bs n ((e0 d106), (e1 d106), (e2 d106), (e3 d106), (e4 d106), (e5 d106), (e6 d106), 1, (e8 d106), (e9 d106), (e10 d106), (e11 d106), (eJ d106)) (x1) (x2) := by
            subst hd107
            exact q_X10_readRest_p571_3 q110 q118 q126 q134
          exact tt_loc (ks := [0, 1, 2]) rfl (ce_X10_readRest_p617 hG143 (oa_af h0 hA144) (br_af hb h0 hA144) (fun r T x y h => hP r T x y (pv_tr hA144 h (by decide) (fun v T e => e.trans ((congrArg (fun q => F_X10_readRest_p617 bs n q (x1) (x2)) (stR_mk ((congrFun (congrFun e145 654) o0).trans ((congrFun (up2_ne (k := 654)) o0).trans (sR_654 hs109))) ((congrFun (congrFun e145 655) o0).trans ((congrFun (up2_ne (k := 655)) o0).trans (sR_655 hs109))) ((congrFun (congrFun e145 656) o0).trans ((congrFun (up2_ne (k := 656)) o0).trans (sR_656 hs109))) ((congrFun (congrFun e145 657) o0).trans ((congrFun (up2_ne (k := 657)) o0).trans (sR_657 hs109))) ((congrFun (congrFun e145 658) o0).trans ((congrFun (up2_ne (k := 658)) o0).trans (sR_658 hs109))) ((congrFun (congrFun e145 659) o0).trans ((congrFun (up2_ne (k := 659)) o0).trans (sR_659 hs109))) ((congrFun (congrFun e145 661) o0).trans ((congrFun (up2_ne (k := 661)) o0).trans (sR_661 hs109))) (by rw [e145]; exact up2_self) ((congrFun (congrFun e145 672) o0).trans ((congrFun (up2_ne (k := 672)) o0).trans (sR_672 hs109))) ((congrFun (congrFun e145 673) o0).trans ((congrFun (up2_ne (k := 673)) o0).trans (sR_673 hs109))) ((congrFun (congrFun e145 674) o0).trans ((congrFun (up2_ne (k := 674)) o0).trans (sR_674 hs109))) ((congrFun (congrFun e145 675) o0).trans ((congrFun (up2_ne (k := 675)) o0).trans (sR_675 hs109))) ((congrFun (congrFun f146 660) o0).trans (sR_660 hs109)))).trans hF.symm)))))
def F_X10_readRest_p564 (bs : Nat → Int32) (n : Int32) (d : DD) (x1 : Int32) (x2 : Int32) : DD :=
  if x1 = 193 then
    F_X10_readRest_p571 bs n d (x1) (x2)
  else
    if x1 = 99 then
      F_X10_readRest_p688 bs n d (x1) (x2)
    else
      if x1 = 15 then
        let d119 := F_X10_next bs n d 
        let d130 := F_X10_readTwo bs n d119.1 (d119.2) (x2)
        d130
      else
        let d109 := F_X10_readJumps bs n d (x1)
        d109
theorem q_X10_readRest_p564_0 {bs : Nat → Int32} {n : Int32} {d : DD} {x1 : Int32} {x2 : Int32} (h0 : x1 = 193) : F_X10_readRest_p564 bs n d x1 x2 = F_X10_readRest_p571 bs n d (x1) (x2) := by unfold F_X10_readRest_p564; exact if_pos h0
theorem q_X10_readRest_p564_1 {bs : Nat → Int32} {n : Int32} {d : DD} {x1 : Int32} {x2 : Int32} (h0 : ¬ x1 = 193) (h1 : x1 = 99) : F_X10_readRest_p564 bs n d x1 x2 = F_X10_readRest_p688 bs n d (x1) (x2) := by unfold F_X10_readRest_p564; exact Eq.trans (if_neg h0) (if_pos h1)
theorem q_X10_readRest_p564_2 {bs : Nat → Int32} {n : Int32} {d : DD} {x1 : Int32} {x2 : Int32} (h0 : ¬ x1 = 193) (h1 : ¬ x1 = 99) (h2 : x1 = 15) : F_X10_readRest_p564 bs n d x1 x2 = (F_X10_readTwo bs n (F_X10_next bs n d).1 ((F_X10_next bs n d).2) (x2)) := by unfold F_X10_readRest_p564; exact Eq.trans (if_neg h0) (Eq.trans (if_neg h1) (if_pos h2))
theorem q_X10_readRest_p564_3 {bs : Nat → Int32} {n : Int32} {d : DD} {x1 : Int32} {x2 : Int32} (h0 : ¬ x1 = 193) (h1 : ¬ x1 = 99) (h2 : ¬ x1 = 15) : F_X10_readRest_p564 bs n d x1 x2 = (F_X10_readJumps bs n d (x1)) := by unfold F_X10_readRest_p564; exact Eq.trans (if_neg h0) (Eq.trans (if_neg h1) (if_neg h2))
set_option maxHeartbeats 40000000 in
theorem ce_X10_readRest_p564 {xi : SX} {S : Hp} {E : List Nat} {kc nc : Nat} {P : Po} {o0 : Nat} {x1 : Int32} {x2 : Int32} {bs : Nat → Int32} {n : Int32} (hG : GI S E) (h0 : Oa S E 10 0 o0) (hb : BR S E o0 bs n) (hP : ∀ r T x y, PV E [654, 655, 657, 658, 659, 662, 672, 673, 674, 675, 9998] S kc nc rV (fun v T => StR T o0 = F_X10_readRest_p564 bs n (StR S o0) x1 x2) [] r T x y → P r T x y) : TT xi M_X10_readRest 564 [(0, .ref o0), (1, .int x1), (2, .int x2)] [] S kc nc P := by
  have hA : Af E [654, 655, 657, 658, 659, 662, 672, 673, 674, 675, 9998] S S := af_rf
  refine tt_iload_n (j := 1) dX10_readRest_564 rfl ?_
  refine tt_sipush (v := 193) dX10_readRest_565 rfl ?_
  refine tt_icmp_ne (tgt := 682) dX10_readRest_568 rfl (fun q101 => ?_) (fun q101 => ?_)
  · skip
    refine tt_iload_n (j := 1) dX10_readRest_682 rfl ?_
    refine tt_bipush (v := 99) dX10_readRest_683 rfl ?_
    refine tt_icmp_ne (tgt := 743) dX10_readRest_685 rfl (fun q102 => ?_) (fun q102 => ?_)
    · skip
      refine tt_iload_n (j := 1) dX10_readRest_743 rfl ?_
      refine tt_bipush (v := 15) dX10_readRest_744 rfl ?_
      refine tt_icmp_ne (tgt := 761) dX10_readRest_746 rfl (fun q103 => ?_) (fun q103 => ?_)
      · skip
        refine tt_aload_n (j := 0) dX10_readRest_761 rfl ?_
        refine tt_iload_n (j := 1) dX10_readRest_762 rfl ?_
        refine gt_Vv (As := [.int x1]) dX10_readRest_763 ca_X10_147 ⟨by decide, by decide⟩ h0 hA rfl (Nat.le_of_ble_eq_true rfl) (Nat.le_of_ble_eq_true rfl) (by decide) (ce_X10_readJumps hG (oa_af h0 hA) (br_af hb h0 hA) (fun _ _ _ _ h => h)) rfl (fun _ h => nomatch h) (fun S104 hx108 hG105 hB106 hA107 => ?_)
        obtain ⟨d109, hd110⟩ : ∃ q, F_X10_readJumps bs n (StR S o0) (x1) = q := ⟨_, rfl⟩
        have hq111 := (congrArg (fun q => F_X10_readJumps bs n q (x1)) (stR_mk (sR_654 (T := S) (o := o0) rfl) (sR_655 (T := S) (o := o0) rfl) (sR_656 (T := S) (o := o0) rfl) (sR_657 (T := S) (o := o0) rfl) (sR_658 (T := S) (o := o0) rfl) (sR_659 (T := S) (o := o0) rfl) (sR_661 (T := S) (o := o0) rfl) (sR_662 (T := S) (o := o0) rfl) (sR_672 (T := S) (o := o0) rfl) (sR_673 (T := S) (o := o0) rfl) (sR_674 (T := S) (o := o0) rfl) (sR_675 (T := S) (o := o0) rfl) (sR_660 (T := S) (o := o0) rfl))).trans hd110
        have hs112 := hx108.trans hq111
        have hF : F_X10_readRest_p564 bs n (StR S o0) x1 x2 = d109 := by
          subst hd110
          exact q_X10_readRest_p564_3 q101 q102 q103
        exact tt_vreturn dX10_readRest_766 rfl (hP _ _ _ _ ⟨hG105, hA107, Or.inl ⟨_, rfl, rfl, Eq.trans (stR_mk (sR_654 hs112) (sR_655 hs112) (sR_656 hs112) (sR_657 hs112) (sR_658 hs112) (sR_659 hs112) (sR_661 hs112) (sR_662 hs112) (sR_672 hs112) (sR_673 hs112) (sR_674 hs112) (sR_675 hs112) (sR_660 hs112)) hF.symm, rfl, rfl⟩⟩)
      · skip
        have h113 : Rg 15 15 x1 := rg_eq_l (rg_all x1) (⟨by decide, by decide⟩ : Rg 15 15 15) q103
        refine tt_aload_n (j := 0) dX10_readRest_749 rfl ?_
        refine tt_aload_n (j := 0) dX10_readRest_750 rfl ?_
        refine gt_VI (As := []) dX10_readRest_751 ca_X10_87 ⟨by decide, by decide⟩ h0 hA rfl (Nat.le_of_ble_eq_true rfl) (Nat.le_of_ble_eq_true rfl) (by decide) (ce_X10_next hG (oa_af h0 hA) (br_af hb h0 hA) (fun _ _ _ _ h => h)) rfl (fun _ h => nomatch h) (fun S114 x123 h124 hx118 hG115 hB116 hA117 => ?_)
        obtain ⟨d119, hd120⟩ : ∃ q, F_X10_next bs n (StR S o0)  = q := ⟨_, rfl⟩
        have hq121 := (congrArg (fun q => F_X10_next bs n q ) (stR_mk (sR_654 (T := S) (o := o0) rfl) (sR_655 (T := S) (o := o0) rfl) (sR_656 (T := S) (o := o0) rfl) (sR_657 (T := S) (o := o0) rfl) (sR_658 (T := S) (o := o0) rfl) (sR_659 (T := S) (o := o0) rfl) (sR_661 (T := S) (o := o0) rfl) (sR_662 (T := S) (o := o0) rfl) (sR_672 (T := S) (o := o0) rfl) (sR_673 (T := S) (o := o0) rfl) (sR_674 (T := S) (o := o0) rfl) (sR_675 (T := S) (o := o0) rfl) (sR_660 (T := S) (o := o0) rfl))).trans hd120
        have hs122 := hx118.2.trans (congrArg Prod.fst hq121)
        obtain rfl : x123 = d119.2 := (xiR_v hx118).trans (congrArg Prod.snd hq121)
        refine tt_iload_n (j := 2) dX10_readRest_754 rfl ?_
        refine gt_Vv (As := [.int d119.2, .int x2]) dX10_readRest_755 ca_X10_144 ⟨by decide, by decide⟩ h0 hA117 rfl (Nat.le_of_ble_eq_true rfl) (Nat.le_of_ble_eq_true rfl) (by decide) (ce_X10_readTwo hG115 (oa_af h0 hA117) (br_af hb h0 hA117) (fun _ _ _ _ h => h)) rfl (fun _ h => nomatch h) (fun S125 hx129 hG126 hB127 hA128 => ?_)
        obtain ⟨d130, hd131⟩ : ∃ q, F_X10_readTwo bs n d119.1 (d119.2) (x2) = q := ⟨_, rfl⟩
        have hq132 := (congrArg (fun q => F_X10_readTwo bs n q (d119.2) (x2)) (stR_mk (sR_654 hs122) (sR_655 hs122) (sR_656 hs122) (sR_657 hs122) (sR_658 hs122) (sR_659 hs122) (sR_661 hs122) (sR_662 hs122) (sR_672 hs122) (sR_673 hs122) (sR_674 hs122) (sR_675 hs122) (sR_660 hs122))).trans hd131
        have hs133 := hx129.trans hq132
        refine tt_goto (tgt := 766) dX10_readRest_758 rfl ?_
        have hF : F_X10_readRest_p564 bs n (StR S o0) x1 x2 = d130 := by
          subst hd131
          subst hd120
          exact q_X10_readRest_p564_2 q101 q102 q103
        exact tt_vreturn dX10_readRest_766 rfl (hP _ _ _ _ ⟨hG126, hA128, Or.inl ⟨_, rfl, rfl, Eq.trans (stR_mk (sR_654 hs133) (sR_655 hs133) (sR_656 hs133) (sR_657 hs133) (sR_658 hs133) (sR_659 hs133) (sR_661 hs133) (sR_662 hs133) (sR_672 hs133) (sR_673 hs133) (sR_674 hs133) (sR_675 hs133) (sR_660 hs133)) hF.symm, rfl, rfl⟩⟩)
    · skip
      have h134 : Rg 99 99 x1 := rg_eq_l (rg_all x1) (⟨by decide, by decide⟩ : Rg 99 99 99) q102
      have hF : F_X10_readRest_p564 bs n (StR S o0) x1 x2 = F_X10_readRest_p688 bs n (StR S o0) (x1) (x2) := by
        exact q_X10_readRest_p564_1 q101 q102
      exact tt_loc (ks := [0, 1, 2]) rfl (ce_X10_readRest_p688 hG (oa_af h0 hA) (br_af hb h0 hA) (fun r T x y h => hP r T x y (pv_tr hA h (by decide) (fun v T e => e.trans ((congrArg (fun q => F_X10_readRest_p688 bs n q (x1) (x2)) (stR_mk (sR_654 (T := S) (o := o0) rfl) (sR_655 (T := S) (o := o0) rfl) (sR_656 (T := S) (o := o0) rfl) (sR_657 (T := S) (o := o0) rfl) (sR_658 (T := S) (o := o0) rfl) (sR_659 (T := S) (o := o0) rfl) (sR_661 (T := S) (o := o0) rfl) (sR_662 (T := S) (o := o0) rfl) (sR_672 (T := S) (o := o0) rfl) (sR_673 (T := S) (o := o0) rfl) (sR_674 (T := S) (o := o0) rfl) (sR_675 (T := S) (o := o0) rfl) (sR_660 (T := S) (o := o0) rfl))).trans hF.symm)))))
  · skip
    have h135 : Rg 193 193 x1 := rg_eq_l (rg_all x1) (⟨by decide, by decide⟩ : Rg 193 193 193) q101
    have hF : F_X10_readRest_p564 bs n (StR S o0) x1 x2 = F_X10_readRest_p571 bs n (StR S o0) (x1) (x2) := by
      exact q_X10_readRest_p564_0 q101
    exact tt_loc (ks := [0, 1, 2]) rfl (ce_X10_readRest_p571 hG (oa_af h0 hA) (br_af hb h0 hA) (fun r T x y h => hP r T x y (pv_tr hA h (by decide) (fun v T e => e.trans ((congrArg (fun q => F_X10_readRest_p571 bs n q (x1) (x2)) (stR_mk (sR_654 (T := S) (o := o0) rfl) (sR_655 (T := S) (o := o0) rfl) (sR_656 (T := S) (o := o0) rfl) (sR_657 (T := S) (o := o0) rfl) (sR_658 (T := S) (o := o0) rfl) (sR_659 (T := S) (o := o0) rfl) (sR_661 (T := S) (o := o0) rfl) (sR_662 (T := S) (o := o0) rfl) (sR_672 (T := S) (o := o0) rfl) (sR_673 (T := S) (o := o0) rfl) (sR_674 (T := S) (o := o0) rfl) (sR_675 (T := S) (o := o0) rfl) (sR_660 (T := S) (o := o0) rfl))).trans hF.symm)))))
def F_X10_readRest_p513 (bs : Nat → Int32) (n : Int32) (d : DD) (x1 : Int32) (x2 : Int32) : DD :=
  if (x2 &&& 1) = 0 then
    let d108 := F_X10_take bs n d (13) (((x1 - 184) + 0)) ((-1))
    if (e2 d108) = 64 then
      let d135 := F_X10_number_8 bs n d108 
      ((e0 d135.1), (e1 d135.1), (e2 d135.1), (e3 d135.1), (e4 d135.1), (e5 d135.1), (e6 d135.1), (e7 d135.1), (e8 d135.1), (e9 d135.1), (e10 d135.1), (e11 d135.1), d135.2)
    else
      let d118 := F_X10_number_4 bs n d108 
      ((e0 d118.1), (e1 d118.1), (e2 d118.1), (e3 d118.1), (e4 d118.1), (e5 d118.1), (e6 d118.1), (e7 d118.1), (e8 d118.1), (e9 d118.1), (e10 d118.1), (e11 d118.1), d118.2)
  else
    let d152 := F_X10_take bs n d (13) (((x1 - 184) + 8)) ((-1))
    if (e2 d152) = 64 then
      let d179 := F_X10_number_8 bs n d152 
      ((e0 d179.1), (e1 d179.1), (e2 d179.1), (e3 d179.1), (e4 d179.1), (e5 d179.1), (e6 d179.1), (e7 d179.1), (e8 d179.1), (e9 d179.1), (e10 d179.1), (e11 d179.1), d179.2)
    else
      let d162 := F_X10_number_4 bs n d152 
      ((e0 d162.1), (e1 d162.1), (e2 d162.1), (e3 d162.1), (e4 d162.1), (e5 d162.1), (e6 d162.1), (e7 d162.1), (e8 d162.1), (e9 d162.1), (e10 d162.1), (e11 d162.1), d162.2)
theorem q_X10_readRest_p513_0 {bs : Nat → Int32} {n : Int32} {d : DD} {x1 : Int32} {x2 : Int32} (h0 : (x2 &&& 1) = 0) (h1 : (e2 (F_X10_take bs n d (13) (((x1 - 184) + 0)) ((-1)))) = 64) : F_X10_readRest_p513 bs n d x1 x2 = ((e0 (F_X10_number_8 bs n (F_X10_take bs n d (13) (((x1 - 184) + 0)) ((-1)))).1), (e1 (F_X10_number_8 bs n (F_X10_take bs n d (13) (((x1 - 184) + 0)) ((-1)))).1), (e2 (F_X10_number_8 bs n (F_X10_take bs n d (13) (((x1 - 184) + 0)) ((-1)))).1), (e3 (F_X10_number_8 bs n (F_X10_take bs n d (13) (((x1 - 184) + 0)) ((-1)))).1), (e4 (F_X10_number_8 bs n (F_X10_take bs n d (13) (((x1 - 184) + 0)) ((-1)))).1), (e5 (F_X10_number_8 bs n (F_X10_take bs n d (13) (((x1 - 184) + 0)) ((-1)))).1), (e6 (F_X10_number_8 bs n (F_X10_take bs n d (13) (((x1 - 184) + 0)) ((-1)))).1), (e7 (F_X10_number_8 bs n (F_X10_take bs n d (13) (((x1 - 184) + 0)) ((-1)))).1), (e8 (F_X10_number_8 bs n (F_X10_take bs n d (13) (((x1 - 184) + 0)) ((-1)))).1), (e9 (F_X10_number_8 bs n (F_X10_take bs n d (13) (((x1 - 184) + 0)) ((-1)))).1), (e10 (F_X10_number_8 bs n (F_X10_take bs n d (13) (((x1 - 184) + 0)) ((-1)))).1), (e11 (F_X10_number_8 bs n (F_X10_take bs n d (13) (((x1 - 184) + 0)) ((-1)))).1), (F_X10_number_8 bs n (F_X10_take bs n d (13) (((x1 - 184) + 0)) ((-1)))).2) := by unfold F_X10_readRest_p513; exact Eq.trans (if_pos h0) (if_pos h1)
theorem q_X10_readRest_p513_1 {bs : Nat → Int32} {n : Int32} {d : DD} {x1 : Int32} {x2 : Int32} (h0 : (x2 &&& 1) = 0) (h1 : ¬ (e2 (F_X10_take bs n d (13) (((x1 - 184) + 0)) ((-1)))) = 64) : F_X10_readRest_p513 bs n d x1 x2 = ((e0 (F_X10_number_4 bs n (F_X10_take bs n d (13) (((x1 - 184) + 0)) ((-1)))).1), (e1 (F_X10_number_4 bs n (F_X10_take bs n d (13) (((x1 - 184) + 0)) ((-1)))).1), (e2 (F_X10_number_4 bs n (F_X10_take bs n d (13) (((x1 - 184) + 0)) ((-1)))).1), (e3 (F_X10_number_4 bs n (F_X10_take bs n d (13) (((x1 - 184) + 0)) ((-1)))).1), (e4 (F_X10_number_4 bs n (F_X10_take bs n d (13) (((x1 - 184) + 0)) ((-1)))).1), (e5 (F_X10_number_4 bs n (F_X10_take bs n d (13) (((x1 - 184) + 0)) ((-1)))).1), (e6 (F_X10_number_4 bs n (F_X10_take bs n d (13) (((x1 - 184) + 0)) ((-1)))).1), (e7 (F_X10_number_4 bs n (F_X10_take bs n d (13) (((x1 - 184) + 0)) ((-1)))).1), (e8 (F_X10_number_4 bs n (F_X10_take bs n d (13) (((x1 - 184) + 0)) ((-1)))).1), (e9 (F_X10_number_4 bs n (F_X10_take bs n d (13) (((x1 - 184) + 0)) ((-1)))).1), (e10 (F_X10_number_4 bs n (F_X10_take bs n d (13) (((x1 - 184) + 0)) ((-1)))).1), (e11 (F_X10_number_4 bs n (F_X10_take bs n d (13) (((x1 - 184) + 0)) ((-1)))).1), (F_X10_number_4 bs n (F_X10_take bs n d (13) (((x1 - 184) + 0)) ((-1)))).2) := by unfold F_X10_readRest_p513; exact Eq.trans (if_pos h0) (if_neg h1)
theorem q_X10_readRest_p513_2 {bs : Nat → Int32} {n : Int32} {d : DD} {x1 : Int32} {x2 : Int32} (h0 : ¬ (x2 &&& 1) = 0) (h1 : (e2 (F_X10_take bs n d (13) (((x1 - 184) + 8)) ((-1)))) = 64) : F_X10_readRest_p513 bs n d x1 x2 = ((e0 (F_X10_number_8 bs n (F_X10_take bs n d (13) (((x1 - 184) + 8)) ((-1)))).1), (e1 (F_X10_number_8 bs n (F_X10_take bs n d (13) (((x1 - 184) + 8)) ((-1)))).1), (e2 (F_X10_number_8 bs n (F_X10_take bs n d (13) (((x1 - 184) + 8)) ((-1)))).1), (e3 (F_X10_number_8 bs n (F_X10_take bs n d (13) (((x1 - 184) + 8)) ((-1)))).1), (e4 (F_X10_number_8 bs n (F_X10_take bs n d (13) (((x1 - 184) + 8)) ((-1)))).1), (e5 (F_X10_number_8 bs n (F_X10_take bs n d (13) (((x1 - 184) + 8)) ((-1)))).1), (e6 (F_X10_number_8 bs n (F_X10_take bs n d (13) (((x1 - 184) + 8)) ((-1)))).1), (e7 (F_X10_number_8 bs n (F_X10_take bs n d (13) (((x1 - 184) + 8)) ((-1)))).1), (e8 (F_X10_number_8 bs n (F_X10_take bs n d (13) (((x1 - 184) + 8)) ((-1)))).1), (e9 (F_X10_number_8 bs n (F_X10_take bs n d (13) (((x1 - 184) + 8)) ((-1)))).1), (e10 (F_X10_number_8 bs n (F_X10_take bs n d (13) (((x1 - 184) + 8)) ((-1)))).1), (e11 (F_X10_number_8 bs n (F_X10_take bs n d (13) (((x1 - 184) + 8)) ((-1)))).1), (F_X10_number_8 bs n (F_X10_take bs n d (13) (((x1 - 184) + 8)) ((-1)))).2) := by unfold F_X10_readRest_p513; exact Eq.trans (if_neg h0) (if_pos h1)
theorem q_X10_readRest_p513_3 {bs : Nat → Int32} {n : Int32} {d : DD} {x1 : Int32} {x2 : Int32} (h0 : ¬ (x2 &&& 1) = 0) (h1 : ¬ (e2 (F_X10_take bs n d (13) (((x1 - 184) + 8)) ((-1)))) = 64) : F_X10_readRest_p513 bs n d x1 x2 = ((e0 (F_X10_number_4 bs n (F_X10_take bs n d (13) (((x1 - 184) + 8)) ((-1)))).1), (e1 (F_X10_number_4 bs n (F_X10_take bs n d (13) (((x1 - 184) + 8)) ((-1)))).1), (e2 (F_X10_number_4 bs n (F_X10_take bs n d (13) (((x1 - 184) + 8)) ((-1)))).1), (e3 (F_X10_number_4 bs n (F_X10_take bs n d (13) (((x1 - 184) + 8)) ((-1)))).1), (e4 (F_X10_number_4 bs n (F_X10_take bs n d (13) (((x1 - 184) + 8)) ((-1)))).1), (e5 (F_X10_number_4 bs n (F_X10_take bs n d (13) (((x1 - 184) + 8)) ((-1)))).1), (e6 (F_X10_number_4 bs n (F_X10_take bs n d (13) (((x1 - 184) + 8)) ((-1)))).1), (e7 (F_X10_number_4 bs n (F_X10_take bs n d (13) (((x1 - 184) + 8)) ((-1)))).1), (e8 (F_X10_number_4 bs n (F_X10_take bs n d (13) (((x1 - 184) + 8)) ((-1)))).1), (e9 (F_X10_number_4 bs n (F_X10_take bs n d (13) (((x1 - 184) + 8)) ((-1)))).1), (e10 (F_X10_number_4 bs n (F_X10_take bs n d (13) (((x1 - 184) + 8)) ((-1)))).1), (e11 (F_X10_number_4 bs n (F_X10_take bs n d (13) (((x1 - 184) + 8)) ((-1)))).1), (F_X10_number_4 bs n (F_X10_take bs n d (13) (((x1 - 184) + 8)) ((-1)))).2) := by unfold F_X10_readRest_p513; exact Eq.trans (if_neg h0) (if_neg h1)
set_option maxHeartbeats 40000000 in
theorem ce_X10_readRest_p513 {xi : SX} {S : Hp} {E : List Nat} {kc nc : Nat} {P : Po} {o0 : Nat} {x1 : Int32} {x2 : Int32} {bs : Nat → Int32} {n : Int32} (hG : GI S E) (h0 : Oa S E 10 0 o0) (hb : BR S E o0 bs n) (hP : ∀ r T x y, PV E [654, 655, 657, 658, 659, 662, 672, 673, 674, 675, 9998] S kc nc rV (fun v T => StR T o0 = F_X10_readRest_p513 bs n (StR S o0) x1 x2) [] r T x y → P r T x y) : TT xi M_X10_readRest 513 [(0, .ref o0), (1, .int x1), (2, .int x2)] [] S kc nc P := by
  have hA : Af E [654, 655, 657, 658, 659, 662, 672, 673, 674, 675, 9998] S S := af_rf
  refine tt_aload_n (j := 0) dX10_readRest_513 rfl ?_
  refine tt_bipush (v := 13) dX10_readRest_514 rfl ?_
  refine tt_iload_n (j := 1) dX10_readRest_516 rfl ?_
  refine tt_sipush (v := 184) dX10_readRest_517 rfl ?_
  refine tt_isub dX10_readRest_520 ?_
  refine tt_iload_n (j := 2) dX10_readRest_521 rfl ?_
  refine tt_iconst (v := 1) dX10_readRest_522 rfl ?_
  refine tt_iand dX10_readRest_523 ?_
  refine tt_if_eq (tgt := 532) dX10_readRest_524 rfl (fun q101 => ?_) (fun q101 => ?_)
  · skip
    have h102 : Rg 0 0 (x2 &&& 1) := rg_eq_l (rg_and (x := x2) (⟨by decide, by decide⟩ : Rg 1 1 1)) (⟨by decide, by decide⟩ : Rg 0 0 0) q101
    refine tt_iconst (v := 0) dX10_readRest_532 rfl ?_
    refine tt_iadd dX10_readRest_533 ?_
    refine tt_iconst (v := (-1)) dX10_readRest_534 rfl ?_
    refine gt_Vv (As := [.int 13, .int ((x1 - 184) + 0), .int (-1)]) dX10_readRest_535 ca_X10_123 ⟨by decide, by decide⟩ h0 hA rfl (Nat.le_of_ble_eq_true rfl) (Nat.le_of_ble_eq_true rfl) (by decide) (ce_X10_take hG (oa_af h0 hA) (br_af hb h0 hA) (fun _ _ _ _ h => h)) rfl (fun _ h => nomatch h) (fun S103 hx107 hG104 hB105 hA106 => ?_)
    obtain ⟨d108, hd109⟩ : ∃ q, F_X10_take bs n (StR S o0) (13) (((x1 - 184) + 0)) ((-1)) = q := ⟨_, rfl⟩
    have hq110 := (congrArg (fun q => F_X10_take bs n q (13) (((x1 - 184) + 0)) ((-1))) (stR_mk (sR_654 (T := S) (o := o0) rfl) (sR_655 (T := S) (o := o0) rfl) (sR_656 (T := S) (o := o0) rfl) (sR_657 (T := S) (o := o0) rfl) (sR_658 (T := S) (o := o0) rfl) (sR_659 (T := S) (o := o0) rfl) (sR_661 (T := S) (o := o0) rfl) (sR_662 (T := S) (o := o0) rfl) (sR_672 (T := S) (o := o0) rfl) (sR_673 (T := S) (o := o0) rfl) (sR_674 (T := S) (o := o0) rfl) (sR_675 (T := S) (o := o0) rfl) (sR_660 (T := S) (o := o0) rfl))).trans hd109
    have hs111 := hx107.trans hq110
    refine tt_aload_n (j := 0) dX10_readRest_538 rfl ?_
    refine tt_aload_n (j := 0) dX10_readRest_539 rfl ?_
    refine tt_aload_n (j := 0) dX10_readRest_540 rfl ?_
    refine gt_gI (id := 656) (v := (e2 d108)) dX10_readRest_541 fl_10_127 rfl rfl h0 hA106 (sR_656 hs111) ?_
    refine tt_bipush (v := 64) dX10_readRest_544 rfl ?_
    refine tt_icmp_ne (tgt := 554) dX10_readRest_546 rfl (fun q112 => ?_) (fun q112 => ?_)
    · skip
      refine tt_iconst (v := 4) dX10_readRest_554 rfl ?_
      refine gt_VJ (As := [.int 4]) dX10_readRest_555 ca_X10_103 ⟨by decide, by decide⟩ h0 hA106 rfl (Nat.le_of_ble_eq_true rfl) (Nat.le_of_ble_eq_true rfl) (by decide) (ce_X10_number_4 hG104 (oa_af h0 hA106) (br_af hb h0 hA106) (fun _ _ _ _ h => h)) rfl (fun _ h => nomatch h) (fun S113 y122 hx117 hG114 hB115 hA116 => ?_)
      obtain ⟨d118, hd119⟩ : ∃ q, F_X10_number_4 bs n d108  = q := ⟨_, rfl⟩
      have hq120 := (congrArg (fun q => F_X10_number_4 bs n q ) (stR_mk (sR_654 hs111) (sR_655 hs111) (sR_656 hs111) (sR_657 hs111) (sR_658 hs111) (sR_659 hs111) (sR_661 hs111) (sR_662 hs111) (sR_672 hs111) (sR_673 hs111) (sR_674 hs111) (sR_675 hs111) (sR_660 hs111))).trans hd119
      have hs121 := hx117.2.trans (congrArg Prod.fst hq120)
      obtain rfl : y122 = d118.2 := (xjR_v hx117).trans (congrArg Prod.snd hq120)
      refine gt_pJ (id := 660) (x := d118.2) dX10_readRest_558 fl_10_116 rfl rfl h0 hA116 rfl rfl rfl hG114 (fun S123 hG124 hA125 e126 f127 er128 => ?_)
      refine tt_goto (tgt := 766) dX10_readRest_561 rfl ?_
      have hF : F_X10_readRest_p513 bs n (StR S o0) x1 x2 = ((e0 d118.1), (e1 d118.1), (e2 d118.1), (e3 d118.1), (e4 d118.1), (e5 d118.1), (e6 d118.1), (e7 d118.1), (e8 d118.1), (e9 d118.1), (e10 d118.1), (e11 d118.1), d118.2) := by
        subst hd119
        subst hd109
        exact q_X10_readRest_p513_1 q101 q112
      exact tt_vreturn dX10_readRest_766 rfl (hP _ _ _ _ ⟨hG124, hA125, Or.inl ⟨_, rfl, rfl, Eq.trans (stR_mk ((congrFun (congrFun e126 654) o0).trans (sR_654 hs121)) ((congrFun (congrFun e126 655) o0).trans (sR_655 hs121)) ((congrFun (congrFun e126 656) o0).trans (sR_656 hs121)) ((congrFun (congrFun e126 657) o0).trans (sR_657 hs121)) ((congrFun (congrFun e126 658) o0).trans (sR_658 hs121)) ((congrFun (congrFun e126 659) o0).trans (sR_659 hs121)) ((congrFun (congrFun e126 661) o0).trans (sR_661 hs121)) ((congrFun (congrFun e126 662) o0).trans (sR_662 hs121)) ((congrFun (congrFun e126 672) o0).trans (sR_672 hs121)) ((congrFun (congrFun e126 673) o0).trans (sR_673 hs121)) ((congrFun (congrFun e126 674) o0).trans (sR_674 hs121)) ((congrFun (congrFun e126 675) o0).trans (sR_675 hs121)) (by rw [f127]; exact up2_self)) hF.symm, rfl, rfl⟩⟩)
    · skip
      have h129 : Rg 64 64 (e2 d108) := rg_eq_l (rg_all (e2 d108)) (⟨by decide, by decide⟩ : Rg 64 64 64) q112
      refine tt_bipush (v := 8) dX10_readRest_549 rfl ?_
      refine tt_goto (tgt := 555) dX10_readRest_551 rfl ?_
      refine gt_VJ (As := [.int 8]) dX10_readRest_555 ca_X10_103 ⟨by decide, by decide⟩ h0 hA106 rfl (Nat.le_of_ble_eq_true rfl) (Nat.le_of_ble_eq_true rfl) (by decide) (ce_X10_number_8 hG104 (oa_af h0 hA106) (br_af hb h0 hA106) (fun _ _ _ _ h => h)) rfl (fun _ h => nomatch h) (fun S130 y139 hx134 hG131 hB132 hA133 => ?_)
      obtain ⟨d135, hd136⟩ : ∃ q, F_X10_number_8 bs n d108  = q := ⟨_, rfl⟩
      have hq137 := (congrArg (fun q => F_X10_number_8 bs n q ) (stR_mk (sR_654 hs111) (sR_655 hs111) (sR_656 hs111) (sR_657 hs111) (sR_658 hs111) (sR_659 hs111) (sR_661 hs111) (sR_662 hs111) (sR_672 hs111) (sR_673 hs111) (sR_674 hs111) (sR_675 hs111) (sR_660 hs111))).trans hd136
      have hs138 := hx134.2.trans (congrArg Prod.fst hq137)
      obtain rfl : y139 = d135.2 := (xjR_v hx134).trans (congrArg Prod.snd hq137)
      refine gt_pJ (id := 660) (x := d135.2) dX10_readRest_558 fl_10_116 rfl rfl h0 hA133 rfl rfl rfl hG131 (fun S140 hG141 hA142 e143 f144 er145 => ?_)
      refine tt_goto (tgt := 766) dX10_readRest_561 rfl ?_
      have hF : F_X10_readRest_p513 bs n (StR S o0) x1 x2 = ((e0 d135.1), (e1 d135.1), (e2 d135.1), (e3 d135.1), (e4 d135.1), (e5 d135.1), (e6 d135.1), (e7 d135.1), (e8 d135.1), (e9 d135.1), (e10 d135.1), (e11 d135.1), d135.2) := by
        subst hd136
        subst hd109
        exact q_X10_readRest_p513_0 q101 q112
      exact tt_vreturn dX10_readRest_766 rfl (hP _ _ _ _ ⟨hG141, hA142, Or.inl ⟨_, rfl, rfl, Eq.trans (stR_mk ((congrFun (congrFun e143 654) o0).trans (sR_654 hs138)) ((congrFun (congrFun e143 655) o0).trans (sR_655 hs138)) ((congrFun (congrFun e143 656) o0).trans (sR_656 hs138)) ((congrFun (congrFun e143 657) o0).trans (sR_657 hs138)) ((congrFun (congrFun e143 658) o0).trans (sR_658 hs138)) ((congrFun (congrFun e143 659) o0).trans (sR_659 hs138)) ((congrFun (congrFun e143 661) o0).trans (sR_661 hs138)) ((congrFun (congrFun e143 662) o0).trans (sR_662 hs138)) ((congrFun (congrFun e143 672) o0).trans (sR_672 hs138)) ((congrFun (congrFun e143 673) o0).trans (sR_673 hs138)) ((congrFun (congrFun e143 674) o0).trans (sR_674 hs138)) ((congrFun (congrFun e143 675) o0).trans (sR_675 hs138)) (by rw [f144]; exact up2_self)) hF.symm, rfl, rfl⟩⟩)
  · skip
    have h146 : Rg 1 1 (x2 &&& 1) := rg_ne_lo (rg_and (x := x2) (⟨by decide, by decide⟩ : Rg 1 1 1)) (⟨by decide, by decide⟩ : Rg 0 0 0) q101
    refine tt_bipush (v := 8) dX10_readRest_527 rfl ?_
    refine tt_goto (tgt := 533) dX10_readRest_529 rfl ?_
    refine tt_iadd dX10_readRest_533 ?_
    refine tt_iconst (v := (-1)) dX10_readRest_534 rfl ?_
    refine gt_Vv (As := [.int 13, .int ((x1 - 184) + 8), .int (-1)]) dX10_readRest_535 ca_X10_123 ⟨by decide, by decide⟩ h0 hA rfl (Nat.le_of_ble_eq_true rfl) (Nat.le_of_ble_eq_true rfl) (by decide) (ce_X10_take hG (oa_af h0 hA) (br_af hb h0 hA) (fun _ _ _ _ h => h)) rfl (fun _ h => nomatch h) (fun S147 hx151 hG148 hB149 hA150 => ?_)
    obtain ⟨d152, hd153⟩ : ∃ q, F_X10_take bs n (StR S o0) (13) (((x1 - 184) + 8)) ((-1)) = q := ⟨_, rfl⟩
    have hq154 := (congrArg (fun q => F_X10_take bs n q (13) (((x1 - 184) + 8)) ((-1))) (stR_mk (sR_654 (T := S) (o := o0) rfl) (sR_655 (T := S) (o := o0) rfl) (sR_656 (T := S) (o := o0) rfl) (sR_657 (T := S) (o := o0) rfl) (sR_658 (T := S) (o := o0) rfl) (sR_659 (T := S) (o := o0) rfl) (sR_661 (T := S) (o := o0) rfl) (sR_662 (T := S) (o := o0) rfl) (sR_672 (T := S) (o := o0) rfl) (sR_673 (T := S) (o := o0) rfl) (sR_674 (T := S) (o := o0) rfl) (sR_675 (T := S) (o := o0) rfl) (sR_660 (T := S) (o := o0) rfl))).trans hd153
    have hs155 := hx151.trans hq154
    refine tt_aload_n (j := 0) dX10_readRest_538 rfl ?_
    refine tt_aload_n (j := 0) dX10_readRest_539 rfl ?_
    refine tt_aload_n (j := 0) dX10_readRest_540 rfl ?_
    refine gt_gI (id := 656) (v := (e2 d152)) dX10_readRest_541 fl_10_127 rfl rfl h0 hA150 (sR_656 hs155) ?_
    refine tt_bipush (v := 64) dX10_readRest_544 rfl ?_
    refine tt_icmp_ne (tgt := 554) dX10_readRest_546 rfl (fun q156 => ?_) (fun q156 => ?_)
    · skip
      refine tt_iconst (v := 4) dX10_readRest_554 rfl ?_
      refine gt_VJ (As := [.int 4]) dX10_readRest_555 ca_X10_103 ⟨by decide, by decide⟩ h0 hA150 rfl (Nat.le_of_ble_eq_true rfl) (Nat.le_of_ble_eq_true rfl) (by decide) (ce_X10_number_4 hG148 (oa_af h0 hA150) (br_af hb h0 hA150) (fun _ _ _ _ h => h)) rfl (fun _ h => nomatch h) (fun S157 y166 hx161 hG158 hB159 hA160 => ?_)
      obtain ⟨d162, hd163⟩ : ∃ q, F_X10_number_4 bs n d152  = q := ⟨_, rfl⟩
      have hq164 := (congrArg (fun q => F_X10_number_4 bs n q ) (stR_mk (sR_654 hs155) (sR_655 hs155) (sR_656 hs155) (sR_657 hs155) (sR_658 hs155) (sR_659 hs155) (sR_661 hs155) (sR_662 hs155) (sR_672 hs155) (sR_673 hs155) (sR_674 hs155) (sR_675 hs155) (sR_660 hs155))).trans hd163
      have hs165 := hx161.2.trans (congrArg Prod.fst hq164)
      obtain rfl : y166 = d162.2 := (xjR_v hx161).trans (congrArg Prod.snd hq164)
      refine gt_pJ (id := 660) (x := d162.2) dX10_readRest_558 fl_10_116 rfl rfl h0 hA160 rfl rfl rfl hG158 (fun S167 hG168 hA169 e170 f171 er172 => ?_)
      refine tt_goto (tgt := 766) dX10_readRest_561 rfl ?_
      have hF : F_X10_readRest_p513 bs n (StR S o0) x1 x2 = ((e0 d162.1), (e1 d162.1), (e2 d162.1), (e3 d162.1), (e4 d162.1), (e5 d162.1), (e6 d162.1), (e7 d162.1), (e8 d162.1), (e9 d162.1), (e10 d162.1), (e11 d162.1), d162.2) := by
        subst hd163
        subst hd153
        exact q_X10_readRest_p513_3 q101 q156
      exact tt_vreturn dX10_readRest_766 rfl (hP _ _ _ _ ⟨hG168, hA169, Or.inl ⟨_, rfl, rfl, Eq.trans (stR_mk ((congrFun (congrFun e170 654) o0).trans (sR_654 hs165)) ((congrFun (congrFun e170 655) o0).trans (sR_655 hs165)) ((congrFun (congrFun e170 656) o0).trans (sR_656 hs165)) ((congrFun (congrFun e170 657) o0).trans (sR_657 hs165)) ((congrFun (congrFun e170 658) o0).trans (sR_658 hs165)) ((congrFun (congrFun e170 659) o0).trans (sR_659 hs165)) ((congrFun (congrFun e170 661) o0).trans (sR_661 hs165)) ((congrFun (congrFun e170 662) o0).trans (sR_662 hs165)) ((congrFun (congrFun e170 672) o0).trans (sR_672 hs165)) ((congrFun (congrFun e170 673) o0).trans (sR_673 hs165)) ((congrFun (congrFun e170 674) o0).trans (sR_674 hs165)) ((congrFun (congrFun e170 675) o0).trans (sR_675 hs165)) (by rw [f171]; exact up2_self)) hF.symm, rfl, rfl⟩⟩)
    · skip
      have h173 : Rg 64 64 (e2 d152) := rg_eq_l (rg_all (e2 d152)) (⟨by decide, by decide⟩ : Rg 64 64 64) q156
      refine tt_bipush (v := 8) dX10_readRest_549 rfl ?_
      refine tt_goto (tgt := 555) dX10_readRest_551 rfl ?_
      refine gt_VJ (As := [.int 8]) dX10_readRest_555 ca_X10_103 ⟨by decide, by decide⟩ h0 hA150 rfl (Nat.le_of_ble_eq_true rfl) (Nat.le_of_ble_eq_true rfl) (by decide) (ce_X10_number_8 hG148 (oa_af h0 hA150) (br_af hb h0 hA150) (fun _ _ _ _ h => h)) rfl (fun _ h => nomatch h) (fun S174 y183 hx178 hG175 hB176 hA177 => ?_)
      obtain ⟨d179, hd180⟩ : ∃ q, F_X10_number_8 bs n d152  = q := ⟨_, rfl⟩
      have hq181 := (congrArg (fun q => F_X10_number_8 bs n q ) (stR_mk (sR_654 hs155) (sR_655 hs155) (sR_656 hs155) (sR_657 hs155) (sR_658 hs155) (sR_659 hs155) (sR_661 hs155) (sR_662 hs155) (sR_672 hs155) (sR_673 hs155) (sR_674 hs155) (sR_675 hs155) (sR_660 hs155))).trans hd180
      have hs182 := hx178.2.trans (congrArg Prod.fst hq181)
      obtain rfl : y183 = d179.2 := (xjR_v hx178).trans (congrArg Prod.snd hq181)
      refine gt_pJ (id := 660) (x := d179.2) dX10_readRest_558 fl_10_116 rfl rfl h0 hA177 rfl rfl rfl hG175 (fun S184 hG185 hA186 e187 f188 er189 => ?_)
      refine tt_goto (tgt := 766) dX10_readRest_561 rfl ?_
      have hF : F_X10_readRest_p513 bs n (StR S o0) x1 x2 = ((e0 d179.1), (e1 d179.1), (e2 d179.1), (e3 d179.1), (e4 d179.1), (e5 d179.1), (e6 d179.1), (e7 d179.1), (e8 d179.1), (e9 d179.1), (e10 d179.1), (e11 d179.1), d179.2) := by
        subst hd180
        subst hd153
        exact q_X10_readRest_p513_2 q101 q156
      exact tt_vreturn dX10_readRest_766 rfl (hP _ _ _ _ ⟨hG185, hA186, Or.inl ⟨_, rfl, rfl, Eq.trans (stR_mk ((congrFun (congrFun e187 654) o0).trans (sR_654 hs182)) ((congrFun (congrFun e187 655) o0).trans (sR_655 hs182)) ((congrFun (congrFun e187 656) o0).trans (sR_656 hs182)) ((congrFun (congrFun e187 657) o0).trans (sR_657 hs182)) ((congrFun (congrFun e187 658) o0).trans (sR_658 hs182)) ((congrFun (congrFun e187 659) o0).trans (sR_659 hs182)) ((congrFun (congrFun e187 661) o0).trans (sR_661 hs182)) ((congrFun (congrFun e187 662) o0).trans (sR_662 hs182)) ((congrFun (congrFun e187 672) o0).trans (sR_672 hs182)) ((congrFun (congrFun e187 673) o0).trans (sR_673 hs182)) ((congrFun (congrFun e187 674) o0).trans (sR_674 hs182)) ((congrFun (congrFun e187 675) o0).trans (sR_675 hs182)) (by rw [f188]; exact up2_self)) hF.symm, rfl, rfl⟩⟩)
def F_X10_readRest_p476 (bs : Nat → Int32) (n : Int32) (d : DD) (x1 : Int32) (x2 : Int32) : DD :=
  let d106 := F_X10_take bs n d (13) ((e9 d)) ((-1))
  let d115 := F_X10_number_4 bs n d106 
  ((e0 d115.1), (e1 d115.1), (e2 d115.1), (e3 d115.1), (e4 d115.1), (e5 d115.1), (e6 d115.1), (e7 d115.1), (e8 d115.1), (e9 d115.1), (e10 d115.1), (e11 d115.1), d115.2)
theorem q_X10_readRest_p476_0 {bs : Nat → Int32} {n : Int32} {d : DD} {x1 : Int32} {x2 : Int32}  : F_X10_readRest_p476 bs n d x1 x2 = ((e0 (F_X10_number_4 bs n (F_X10_take bs n d (13) ((e9 d)) ((-1)))).1), (e1 (F_X10_number_4 bs n (F_X10_take bs n d (13) ((e9 d)) ((-1)))).1), (e2 (F_X10_number_4 bs n (F_X10_take bs n d (13) ((e9 d)) ((-1)))).1), (e3 (F_X10_number_4 bs n (F_X10_take bs n d (13) ((e9 d)) ((-1)))).1), (e4 (F_X10_number_4 bs n (F_X10_take bs n d (13) ((e9 d)) ((-1)))).1), (e5 (F_X10_number_4 bs n (F_X10_take bs n d (13) ((e9 d)) ((-1)))).1), (e6 (F_X10_number_4 bs n (F_X10_take bs n d (13) ((e9 d)) ((-1)))).1), (e7 (F_X10_number_4 bs n (F_X10_take bs n d (13) ((e9 d)) ((-1)))).1), (e8 (F_X10_number_4 bs n (F_X10_take bs n d (13) ((e9 d)) ((-1)))).1), (e9 (F_X10_number_4 bs n (F_X10_take bs n d (13) ((e9 d)) ((-1)))).1), (e10 (F_X10_number_4 bs n (F_X10_take bs n d (13) ((e9 d)) ((-1)))).1), (e11 (F_X10_number_4 bs n (F_X10_take bs n d (13) ((e9 d)) ((-1)))).1), (F_X10_number_4 bs n (F_X10_take bs n d (13) ((e9 d)) ((-1)))).2) := rfl
set_option maxHeartbeats 40000000 in
theorem ce_X10_readRest_p476 {xi : SX} {S : Hp} {E : List Nat} {kc nc : Nat} {P : Po} {o0 : Nat} {x1 : Int32} {x2 : Int32} {bs : Nat → Int32} {n : Int32} (hG : GI S E) (h0 : Oa S E 10 0 o0) (hb : BR S E o0 bs n) (hP : ∀ r T x y, PV E [654, 655, 657, 658, 659, 662, 672, 673, 674, 675, 9998] S kc nc rV (fun v T => StR T o0 = F_X10_readRest_p476 bs n (StR S o0) x1 x2) [] r T x y → P r T x y) : TT xi M_X10_readRest 476 [(0, .ref o0), (1, .int x1), (2, .int x2)] [] S kc nc P := by
  have hA : Af E [654, 655, 657, 658, 659, 662, 672, 673, 674, 675, 9998] S S := af_rf
  refine tt_aload_n (j := 0) dX10_readRest_476 rfl ?_
  refine tt_bipush (v := 13) dX10_readRest_477 rfl ?_
  refine tt_aload_n (j := 0) dX10_readRest_479 rfl ?_
  refine gt_gI (id := 673) (v := (e9 (StR S o0))) dX10_readRest_480 fl_10_100 rfl rfl h0 hA (sR_673 (T := S) (o := o0) rfl) ?_
  refine tt_iconst (v := (-1)) dX10_readRest_483 rfl ?_
  refine gt_Vv (As := [.int 13, .int (e9 (StR S o0)), .int (-1)]) dX10_readRest_484 ca_X10_123 ⟨by decide, by decide⟩ h0 hA rfl (Nat.le_of_ble_eq_true rfl) (Nat.le_of_ble_eq_true rfl) (by decide) (ce_X10_take hG (oa_af h0 hA) (br_af hb h0 hA) (fun _ _ _ _ h => h)) rfl (fun _ h => nomatch h) (fun S101 hx105 hG102 hB103 hA104 => ?_)
  obtain ⟨d106, hd107⟩ : ∃ q, F_X10_take bs n (StR S o0) (13) ((e9 (StR S o0))) ((-1)) = q := ⟨_, rfl⟩
  have hq108 := (congrArg (fun q => F_X10_take bs n q (13) ((e9 (StR S o0))) ((-1))) (stR_mk (sR_654 (T := S) (o := o0) rfl) (sR_655 (T := S) (o := o0) rfl) (sR_656 (T := S) (o := o0) rfl) (sR_657 (T := S) (o := o0) rfl) (sR_658 (T := S) (o := o0) rfl) (sR_659 (T := S) (o := o0) rfl) (sR_661 (T := S) (o := o0) rfl) (sR_662 (T := S) (o := o0) rfl) (sR_672 (T := S) (o := o0) rfl) (sR_673 (T := S) (o := o0) rfl) (sR_674 (T := S) (o := o0) rfl) (sR_675 (T := S) (o := o0) rfl) (sR_660 (T := S) (o := o0) rfl))).trans hd107
  have hs109 := hx105.trans hq108
  refine tt_aload_n (j := 0) dX10_readRest_487 rfl ?_
  refine tt_aload_n (j := 0) dX10_readRest_488 rfl ?_
  refine tt_iconst (v := 4) dX10_readRest_489 rfl ?_
  refine gt_VJ (As := [.int 4]) dX10_readRest_490 ca_X10_103 ⟨by decide, by decide⟩ h0 hA104 rfl (Nat.le_of_ble_eq_true rfl) (Nat.le_of_ble_eq_true rfl) (by decide) (ce_X10_number_4 hG102 (oa_af h0 hA104) (br_af hb h0 hA104) (fun _ _ _ _ h => h)) rfl (fun _ h => nomatch h) (fun S110 y119 hx114 hG111 hB112 hA113 => ?_)
  obtain ⟨d115, hd116⟩ : ∃ q, F_X10_number_4 bs n d106  = q := ⟨_, rfl⟩
  have hq117 := (congrArg (fun q => F_X10_number_4 bs n q ) (stR_mk (sR_654 hs109) (sR_655 hs109) (sR_656 hs109) (sR_657 hs109) (sR_658 hs109) (sR_659 hs109) (sR_661 hs109) (sR_662 hs109) (sR_672 hs109) (sR_673 hs109) (sR_674 hs109) (sR_675 hs109) (sR_660 hs109))).trans hd116
  have hs118 := hx114.2.trans (congrArg Prod.fst hq117)
  obtain rfl : y119 = d115.2 := (xjR_v hx114).trans (congrArg Prod.snd hq117)
  refine gt_pJ (id := 660) (x := d115.2) dX10_readRest_493 fl_10_116 rfl rfl h0 hA113 rfl rfl rfl hG111 (fun S120 hG121 hA122 e123 f124 er125 => ?_)
  refine tt_goto (tgt := 766) dX10_readRest_496 rfl ?_
  have hF : F_X10_readRest_p476 bs n (StR S o0) x1 x2 = ((e0 d115.1), (e1 d115.1), (e2 d115.1), (e3 d115.1), (e4 d115.1), (e5 d115.1), (e6 d115.1), (e7 d115.1), (e8 d115.1), (e9 d115.1), (e10 d115.1), (e11 d115.1), d115.2) := by
    subst hd116
    subst hd107
    rfl
  exact tt_vreturn dX10_readRest_766 rfl (hP _ _ _ _ ⟨hG121, hA122, Or.inl ⟨_, rfl, rfl, Eq.trans (stR_mk ((congrFun (congrFun e123 654) o0).trans (sR_654 hs118)) ((congrFun (congrFun e123 655) o0).trans (sR_655 hs118)) ((congrFun (congrFun e123 656) o0).trans (sR_656 hs118)) ((congrFun (congrFun e123 657) o0).trans (sR_657 hs118)) ((congrFun (congrFun e123 658) o0).trans (sR_658 hs118)) ((congrFun (congrFun e123 659) o0).trans (sR_659 hs118)) ((congrFun (congrFun e123 661) o0).trans (sR_661 hs118)) ((congrFun (congrFun e123 662) o0).trans (sR_662 hs118)) ((congrFun (congrFun e123 672) o0).trans (sR_672 hs118)) ((congrFun (congrFun e123 673) o0).trans (sR_673 hs118)) ((congrFun (congrFun e123 674) o0).trans (sR_674 hs118)) ((congrFun (congrFun e123 675) o0).trans (sR_675 hs118)) (by rw [f124]; exact up2_self)) hF.symm, rfl, rfl⟩⟩)
def F_X10_readRest_p448 (bs : Nat → Int32) (n : Int32) (d : DD) (x1 : Int32) (x2 : Int32) : DD :=
  let d106 := F_X10_readPlaces bs n d (x2)
  if (e7 d106) = 0 then
    if (e10 d106) = 0 then
      F_X10_readRest_p476 bs n ((e0 d106), (e1 d106), (e2 d106), (e3 d106), (e4 d106), (e5 d106), (e6 d106), 0, (e8 d106), (e9 d106), (e10 d106), (e11 d106), (eJ d106)) (x1) (x2)
    else
      F_X10_readRest_p476 bs n ((e0 d106), (e1 d106), (e2 d106), (e3 d106), (e4 d106), (e5 d106), (e6 d106), 1, (e8 d106), (e9 d106), (e10 d106), (e11 d106), (eJ d106)) (x1) (x2)
  else
    F_X10_readRest_p476 bs n ((e0 d106), (e1 d106), (e2 d106), (e3 d106), (e4 d106), (e5 d106), (e6 d106), 1, (e8 d106), (e9 d106), (e10 d106), (e11 d106), (eJ d106)) (x1) (x2)
theorem q_X10_readRest_p448_0 {bs : Nat → Int32} {n : Int32} {d : DD} {x1 : Int32} {x2 : Int32} (h0 : (e7 (F_X10_readPlaces bs n d (x2))) = 0) (h1 : (e10 (F_X10_readPlaces bs n d (x2))) = 0) : F_X10_readRest_p448 bs n d x1 x2 = F_X10_readRest_p476 bs n ((e0 (F_X10_readPlaces bs n d (x2))), (e1 (F_X10_readPlaces bs n d (x2))), (e2 (F_X10_readPlaces bs n d (x2))), (e3 (F_X10_readPlaces bs n d (x2))), (e4 (F_X10_readPlaces bs n d (x2))), (e5 (F_X10_readPlaces bs n d (x2))), (e6 (F_X10_readPlaces bs n d (x2))), 0, (e8 (F_X10_readPlaces bs n d (x2))), (e9 (F_X10_readPlaces bs n d (x2))), (e10 (F_X10_readPlaces bs n d (x2))), (e11 (F_X10_readPlaces bs n d (x2))), (eJ (F_X10_readPlaces bs n d (x2)))) (x1) (x2) := by unfold F_X10_readRest_p448; exact Eq.trans (if_pos h0) (if_pos h1)
theorem q_X10_readRest_p448_1 {bs : Nat → Int32} {n : Int32} {d : DD} {x1 : Int32} {x2 : Int32} (h0 : (e7 (F_X10_readPlaces bs n d (x2))) = 0) (h1 : ¬ (e10 (F_X10_readPlaces bs n d (x2))) = 0) : F_X10_readRest_p448 bs n d x1 x2 = F_X10_readRest_p476 bs n ((e0 (F_X10_readPlaces bs n d (x2))), (e1 (F_X10_readPlaces bs n d (x2))), (e2 (F_X10_readPlaces bs n d (x2))), (e3 (F_X10_readPlaces bs n d (x2))), (e4 (F_X10_readPlaces bs n d (x2))), (e5 (F_X10_readPlaces bs n d (x2))), (e6 (F_X10_readPlaces bs n d (x2))), 1, (e8 (F_X10_readPlaces bs n d (x2))), (e9 (F_X10_readPlaces bs n d (x2))), (e10 (F_X10_readPlaces bs n d (x2))), (e11 (F_X10_readPlaces bs n d (x2))), (eJ (F_X10_readPlaces bs n d (x2)))) (x1) (x2) := by unfold F_X10_readRest_p448; exact Eq.trans (if_pos h0) (if_neg h1)
theorem q_X10_readRest_p448_2 {bs : Nat → Int32} {n : Int32} {d : DD} {x1 : Int32} {x2 : Int32} (h0 : ¬ (e7 (F_X10_readPlaces bs n d (x2))) = 0) : F_X10_readRest_p448 bs n d x1 x2 = F_X10_readRest_p476 bs n ((e0 (F_X10_readPlaces bs n d (x2))), (e1 (F_X10_readPlaces bs n d (x2))), (e2 (F_X10_readPlaces bs n d (x2))), (e3 (F_X10_readPlaces bs n d (x2))), (e4 (F_X10_readPlaces bs n d (x2))), (e5 (F_X10_readPlaces bs n d (x2))), (e6 (F_X10_readPlaces bs n d (x2))), 1, (e8 (F_X10_readPlaces bs n d (x2))), (e9 (F_X10_readPlaces bs n d (x2))), (e10 (F_X10_readPlaces bs n d (x2))), (e11 (F_X10_readPlaces bs n d (x2))), (eJ (F_X10_readPlaces bs n d (x2)))) (x1) (x2) := by unfold F_X10_readRest_p448; exact if_neg h0
set_option maxHeartbeats 40000000 in
theorem ce_X10_readRest_p448 {xi : SX} {S : Hp} {E : List Nat} {kc nc : Nat} {P : Po} {o0 : Nat} {x1 : Int32} {x2 : Int32} {bs : Nat → Int32} {n : Int32} (hG : GI S E) (h0 : Oa S E 10 0 o0) (hb : BR S E o0 bs n) (hP : ∀ r T x y, PV E [654, 655, 657, 658, 659, 662, 672, 673, 674, 675, 9998] S kc nc rV (fun v T => StR T o0 = F_X10_readRest_p448 bs n (StR S o0) x1 x2) [] r T x y → P r T x y) : TT xi M_X10_readRest 448 [(0, .ref o0), (1, .int x1), (2, .int x2)] [] S kc nc P := by
  have hA : Af E [654, 655, 657, 658, 659, 662, 672, 673, 674, 675, 9998] S S := af_rf
  refine tt_aload_n (j := 0) dX10_readRest_448 rfl ?_
  refine tt_iload_n (j := 2) dX10_readRest_449 rfl ?_
  refine gt_Vv (As := [.int x2]) dX10_readRest_450 ca_X10_137 ⟨by decide, by decide⟩ h0 hA rfl (Nat.le_of_ble_eq_true rfl) (Nat.le_of_ble_eq_true rfl) (by decide) (ce_X10_readPlaces hG (oa_af h0 hA) (br_af hb h0 hA) (fun _ _ _ _ h => h)) rfl (fun _ h => nomatch h) (fun S101 hx105 hG102 hB103 hA104 => ?_)
  obtain ⟨d106, hd107⟩ : ∃ q, F_X10_readPlaces bs n (StR S o0) (x2) = q := ⟨_, rfl⟩
  have hq108 := (congrArg (fun q => F_X10_readPlaces bs n q (x2)) (stR_mk (sR_654 (T := S) (o := o0) rfl) (sR_655 (T := S) (o := o0) rfl) (sR_656 (T := S) (o := o0) rfl) (sR_657 (T := S) (o := o0) rfl) (sR_658 (T := S) (o := o0) rfl) (sR_659 (T := S) (o := o0) rfl) (sR_661 (T := S) (o := o0) rfl) (sR_662 (T := S) (o := o0) rfl) (sR_672 (T := S) (o := o0) rfl) (sR_673 (T := S) (o := o0) rfl) (sR_674 (T := S) (o := o0) rfl) (sR_675 (T := S) (o := o0) rfl) (sR_660 (T := S) (o := o0) rfl))).trans hd107
  have hs109 := hx105.trans hq108
  refine tt_aload_n (j := 0) dX10_readRest_453 rfl ?_
  refine tt_aload_n (j := 0) dX10_readRest_454 rfl ?_
  refine gt_gI (id := 662) (v := (e7 d106)) dX10_readRest_455 fl_10_84 rfl rfl h0 hA104 (sR_662 hs109) ?_
  refine tt_if_ne (tgt := 468) dX10_readRest_458 rfl (fun q110 => ?_) (fun q110 => ?_)
  · skip
    refine tt_iconst (v := 1) dX10_readRest_468 rfl ?_
    refine tt_goto (tgt := 473) dX10_readRest_469 rfl ?_
    refine gt_pI (id := 662) (x := 1) dX10_readRest_473 fl_10_84 rfl rfl h0 hA104 rfl rfl rfl (gp_Ir hG102 (⟨by decide, by decide⟩ : Rg 1 1 1)) (by decide) (fun _ h => absurd (by decide) h) (fun h => absurd h (by decide)) (fun S111 hG112 hA113 e114 f115 er116 => ?_)
    have hF : F_X10_readRest_p448 bs n (StR S o0) x1 x2 = F_X10_readRest_p476 bs n ((e0 d106), (e1 d106), (e2 d106), (e3 d106), (e4 d106), (e5 d106), (e6 d106), 1, (e8 d106), (e9 d106), (e10 d106), (e11 d106), (eJ d106)) (x1) (x2) := by
      subst hd107
      exact q_X10_readRest_p448_2 q110
    exact tt_loc (ks := [0, 1, 2]) rfl (ce_X10_readRest_p476 hG112 (oa_af h0 hA113) (br_af hb h0 hA113) (fun r T x y h => hP r T x y (pv_tr hA113 h (by decide) (fun v T e => e.trans ((congrArg (fun q => F_X10_readRest_p476 bs n q (x1) (x2)) (stR_mk ((congrFun (congrFun e114 654) o0).trans ((congrFun (up2_ne (k := 654)) o0).trans (sR_654 hs109))) ((congrFun (congrFun e114 655) o0).trans ((congrFun (up2_ne (k := 655)) o0).trans (sR_655 hs109))) ((congrFun (congrFun e114 656) o0).trans ((congrFun (up2_ne (k := 656)) o0).trans (sR_656 hs109))) ((congrFun (congrFun e114 657) o0).trans ((congrFun (up2_ne (k := 657)) o0).trans (sR_657 hs109))) ((congrFun (congrFun e114 658) o0).trans ((congrFun (up2_ne (k := 658)) o0).trans (sR_658 hs109))) ((congrFun (congrFun e114 659) o0).trans ((congrFun (up2_ne (k := 659)) o0).trans (sR_659 hs109))) ((congrFun (congrFun e114 661) o0).trans ((congrFun (up2_ne (k := 661)) o0).trans (sR_661 hs109))) (by rw [e114]; exact up2_self) ((congrFun (congrFun e114 672) o0).trans ((congrFun (up2_ne (k := 672)) o0).trans (sR_672 hs109))) ((congrFun (congrFun e114 673) o0).trans ((congrFun (up2_ne (k := 673)) o0).trans (sR_673 hs109))) ((congrFun (congrFun e114 674) o0).trans ((congrFun (up2_ne (k := 674)) o0).trans (sR_674 hs109))) ((congrFun (congrFun e114 675) o0).trans ((congrFun (up2_ne (k := 675)) o0).trans (sR_675 hs109))) ((congrFun (congrFun f115 660) o0).trans (sR_660 hs109)))).trans hF.symm)))))
  · skip
    have h117 : Rg 0 0 (e7 d106) := rg_eq_l (rg_all (e7 d106)) (⟨by decide, by decide⟩ : Rg 0 0 0) q110
    refine tt_aload_n (j := 0) dX10_readRest_461 rfl ?_
    refine gt_gI (id := 674) (v := (e10 d106)) dX10_readRest_462 fl_10_94 rfl rfl h0 hA104 (sR_674 hs109) ?_
    refine tt_if_eq (tgt := 472) dX10_readRest_465 rfl (fun q118 => ?_) (fun q118 => ?_)
    · skip
      have h119 : Rg 0 0 (e10 d106) := rg_eq_l (rg_all (e10 d106)) (⟨by decide, by decide⟩ : Rg 0 0 0) q118
      refine tt_iconst (v := 0) dX10_readRest_472 rfl ?_
      refine gt_pI (id := 662) (x := 0) dX10_readRest_473 fl_10_84 rfl rfl h0 hA104 rfl rfl rfl (gp_Ir hG102 (⟨by decide, by decide⟩ : Rg 0 0 0)) (by decide) (fun _ h => absurd (by decide) h) (fun h => absurd h (by decide)) (fun S120 hG121 hA122 e123 f124 er125 => ?_)
      have hF : F_X10_readRest_p448 bs n (StR S o0) x1 x2 = F_X10_readRest_p476 bs n ((e0 d106), (e1 d106), (e2 d106), (e3 d106), (e4 d106), (e5 d106), (e6 d106), 0, (e8 d106), (e9 d106), (e10 d106), (e11 d106), (eJ d106)) (x1) (x2) := by
        subst hd107
        exact q_X10_readRest_p448_0 q110 q118
      exact tt_loc (ks := [0, 1, 2]) rfl (ce_X10_readRest_p476 hG121 (oa_af h0 hA122) (br_af hb h0 hA122) (fun r T x y h => hP r T x y (pv_tr hA122 h (by decide) (fun v T e => e.trans ((congrArg (fun q => F_X10_readRest_p476 bs n q (x1) (x2)) (stR_mk ((congrFun (congrFun e123 654) o0).trans ((congrFun (up2_ne (k := 654)) o0).trans (sR_654 hs109))) ((congrFun (congrFun e123 655) o0).trans ((congrFun (up2_ne (k := 655)) o0).trans (sR_655 hs109))) ((congrFun (congrFun e123 656) o0).trans ((congrFun (up2_ne (k := 656)) o0).trans (sR_656 hs109))) ((congrFun (congrFun e123 657) o0).trans ((congrFun (up2_ne (k := 657)) o0).trans (sR_657 hs109))) ((congrFun (congrFun e123 658) o0).trans ((congrFun (up2_ne (k := 658)) o0).trans (sR_658 hs109))) ((congrFun (congrFun e123 659) o0).trans ((congrFun (up2_ne (k := 659)) o0).trans (sR_659 hs109))) ((congrFun (congrFun e123 661) o0).trans ((congrFun (up2_ne (k := 661)) o0).trans (sR_661 hs109))) (by rw [e123]; exact up2_self) ((congrFun (congrFun e123 672) o0).trans ((congrFun (up2_ne (k := 672)) o0).trans (sR_672 hs109))) ((congrFun (congrFun e123 673) o0).trans ((congrFun (up2_ne (k := 673)) o0).trans (sR_673 hs109))) ((congrFun (congrFun e123 674) o0).trans ((congrFun (up2_ne (k := 674)) o0).trans (sR_674 hs109))) ((congrFun (congrFun e123 675) o0).trans ((congrFun (up2_ne (k := 675)) o0).trans (sR_675 hs109))) ((congrFun (congrFun f124 660) o0).trans (sR_660 hs109)))).trans hF.symm)))))
    · skip
      refine tt_iconst (v := 1) dX10_readRest_468 rfl ?_
      refine tt_goto (tgt := 473) dX10_readRest_469 rfl ?_
      refine gt_pI (id := 662) (x := 1) dX10_readRest_473 fl_10_84 rfl rfl h0 hA104 rfl rfl rfl (gp_Ir hG102 (⟨by decide, by decide⟩ : Rg 1 1 1)) (by decide) (fun _ h => absurd (by decide) h) (fun h => absurd h (by decide)) (fun S126 hG127 hA128 e129 f130 er131 => ?_)
      have hF : F_X10_readRest_p448 bs n (StR S o0) x1 x2 = F_X10_readRest_p476 bs n ((e0 d106), (e1 d106), (e2 d106), (e3 d106), (e4 d106), (e5 d106), (e6 d106), 1, (e8 d106), (e9 d106), (e10 d106), (e11 d106), (eJ d106)) (x1) (x2) := by
        subst hd107
        exact q_X10_readRest_p448_1 q110 q118
      exact tt_loc (ks := [0, 1, 2]) rfl (ce_X10_readRest_p476 hG127 (oa_af h0 hA128) (br_af hb h0 hA128) (fun r T x y h => hP r T x y (pv_tr hA128 h (by decide) (fun v T e => e.trans ((congrArg (fun q => F_X10_readRest_p476 bs n q (x1) (x2)) (stR_mk ((congrFun (congrFun e129 654) o0).trans ((congrFun (up2_ne (k := 654)) o0).trans (sR_654 hs109))) ((congrFun (congrFun e129 655) o0).trans ((congrFun (up2_ne (k := 655)) o0).trans (sR_655 hs109))) ((congrFun (congrFun e129 656) o0).trans ((congrFun (up2_ne (k := 656)) o0).trans (sR_656 hs109))) ((congrFun (congrFun e129 657) o0).trans ((congrFun (up2_ne (k := 657)) o0).trans (sR_657 hs109))) ((congrFun (congrFun e129 658) o0).trans ((congrFun (up2_ne (k := 658)) o0).trans (sR_658 hs109))) ((congrFun (congrFun e129 659) o0).trans ((congrFun (up2_ne (k := 659)) o0).trans (sR_659 hs109))) ((congrFun (congrFun e129 661) o0).trans ((congrFun (up2_ne (k := 661)) o0).trans (sR_661 hs109))) (by rw [e129]; exact up2_self) ((congrFun (congrFun e129 672) o0).trans ((congrFun (up2_ne (k := 672)) o0).trans (sR_672 hs109))) ((congrFun (congrFun e129 673) o0).trans ((congrFun (up2_ne (k := 673)) o0).trans (sR_673 hs109))) ((congrFun (congrFun e129 674) o0).trans ((congrFun (up2_ne (k := 674)) o0).trans (sR_674 hs109))) ((congrFun (congrFun e129 675) o0).trans ((congrFun (up2_ne (k := 675)) o0).trans (sR_675 hs109))) ((congrFun (congrFun f130 660) o0).trans (sR_660 hs109)))).trans hF.symm)))))
def F_X10_readRest_p391 (bs : Nat → Int32) (n : Int32) (d : DD) (x1 : Int32) (x2 : Int32) : DD :=
  let d106 := F_X10_readPlaces bs n d (x2)
  if x1 = 137 then
    let d126 := F_X10_take bs n d106 (13) ((e9 d106)) ((e8 d106))
    d126
  else
    let d116 := F_X10_take bs n d106 (13) ((e8 d106)) ((e9 d106))
    d116
theorem q_X10_readRest_p391_0 {bs : Nat → Int32} {n : Int32} {d : DD} {x1 : Int32} {x2 : Int32} (h0 : x1 = 137) : F_X10_readRest_p391 bs n d x1 x2 = (F_X10_take bs n (F_X10_readPlaces bs n d (x2)) (13) ((e9 (F_X10_readPlaces bs n d (x2)))) ((e8 (F_X10_readPlaces bs n d (x2))))) := by unfold F_X10_readRest_p391; exact if_pos h0
theorem q_X10_readRest_p391_1 {bs : Nat → Int32} {n : Int32} {d : DD} {x1 : Int32} {x2 : Int32} (h0 : ¬ x1 = 137) : F_X10_readRest_p391 bs n d x1 x2 = (F_X10_take bs n (F_X10_readPlaces bs n d (x2)) (13) ((e8 (F_X10_readPlaces bs n d (x2)))) ((e9 (F_X10_readPlaces bs n d (x2))))) := by unfold F_X10_readRest_p391; exact if_neg h0
set_option maxHeartbeats 40000000 in
theorem ce_X10_readRest_p391 {xi : SX} {S : Hp} {E : List Nat} {kc nc : Nat} {P : Po} {o0 : Nat} {x1 : Int32} {x2 : Int32} {bs : Nat → Int32} {n : Int32} (hG : GI S E) (h0 : Oa S E 10 0 o0) (hb : BR S E o0 bs n) (hP : ∀ r T x y, PV E [654, 655, 657, 658, 659, 662, 672, 673, 674, 675, 9998] S kc nc rV (fun v T => StR T o0 = F_X10_readRest_p391 bs n (StR S o0) x1 x2) [] r T x y → P r T x y) : TT xi M_X10_readRest 391 [(0, .ref o0), (1, .int x1), (2, .int x2)] [] S kc nc P := by
  have hA : Af E [654, 655, 657, 658, 659, 662, 672, 673, 674, 675, 9998] S S := af_rf
  refine tt_aload_n (j := 0) dX10_readRest_391 rfl ?_
  refine tt_iload_n (j := 2) dX10_readRest_392 rfl ?_
  refine gt_Vv (As := [.int x2]) dX10_readRest_393 ca_X10_137 ⟨by decide, by decide⟩ h0 hA rfl (Nat.le_of_ble_eq_true rfl) (Nat.le_of_ble_eq_true rfl) (by decide) (ce_X10_readPlaces hG (oa_af h0 hA) (br_af hb h0 hA) (fun _ _ _ _ h => h)) rfl (fun _ h => nomatch h) (fun S101 hx105 hG102 hB103 hA104 => ?_)
  obtain ⟨d106, hd107⟩ : ∃ q, F_X10_readPlaces bs n (StR S o0) (x2) = q := ⟨_, rfl⟩
  have hq108 := (congrArg (fun q => F_X10_readPlaces bs n q (x2)) (stR_mk (sR_654 (T := S) (o := o0) rfl) (sR_655 (T := S) (o := o0) rfl) (sR_656 (T := S) (o := o0) rfl) (sR_657 (T := S) (o := o0) rfl) (sR_658 (T := S) (o := o0) rfl) (sR_659 (T := S) (o := o0) rfl) (sR_661 (T := S) (o := o0) rfl) (sR_662 (T := S) (o := o0) rfl) (sR_672 (T := S) (o := o0) rfl) (sR_673 (T := S) (o := o0) rfl) (sR_674 (T := S) (o := o0) rfl) (sR_675 (T := S) (o := o0) rfl) (sR_660 (T := S) (o := o0) rfl))).trans hd107
  have hs109 := hx105.trans hq108
  refine tt_aload_n (j := 0) dX10_readRest_396 rfl ?_
  refine tt_bipush (v := 13) dX10_readRest_397 rfl ?_
  refine tt_iload_n (j := 1) dX10_readRest_399 rfl ?_
  refine tt_sipush (v := 137) dX10_readRest_400 rfl ?_
  refine tt_icmp_ne (tgt := 413) dX10_readRest_403 rfl (fun q110 => ?_) (fun q110 => ?_)
  · skip
    refine tt_aload_n (j := 0) dX10_readRest_413 rfl ?_
    refine gt_gI (id := 672) (v := (e8 d106)) dX10_readRest_414 fl_10_97 rfl rfl h0 hA104 (sR_672 hs109) ?_
    refine tt_iload_n (j := 1) dX10_readRest_417 rfl ?_
    refine tt_sipush (v := 137) dX10_readRest_418 rfl ?_
    refine tt_icmp_ne (tgt := 431) dX10_readRest_421 rfl (fun _ => ?_) (fun q => absurd q q110)
    refine tt_aload_n (j := 0) dX10_readRest_431 rfl ?_
    refine gt_gI (id := 673) (v := (e9 d106)) dX10_readRest_432 fl_10_100 rfl rfl h0 hA104 (sR_673 hs109) ?_
    refine gt_Vv (As := [.int 13, .int (e8 d106), .int (e9 d106)]) dX10_readRest_435 ca_X10_123 ⟨by decide, by decide⟩ h0 hA104 rfl (Nat.le_of_ble_eq_true rfl) (Nat.le_of_ble_eq_true rfl) (by decide) (ce_X10_take hG102 (oa_af h0 hA104) (br_af hb h0 hA104) (fun _ _ _ _ h => h)) rfl (fun _ h => nomatch h) (fun S111 hx115 hG112 hB113 hA114 => ?_)
    obtain ⟨d116, hd117⟩ : ∃ q, F_X10_take bs n d106 (13) ((e8 d106)) ((e9 d106)) = q := ⟨_, rfl⟩
    have hq118 := (congrArg (fun q => F_X10_take bs n q (13) ((e8 d106)) ((e9 d106))) (stR_mk (sR_654 hs109) (sR_655 hs109) (sR_656 hs109) (sR_657 hs109) (sR_658 hs109) (sR_659 hs109) (sR_661 hs109) (sR_662 hs109) (sR_672 hs109) (sR_673 hs109) (sR_674 hs109) (sR_675 hs109) (sR_660 hs109))).trans hd117
    have hs119 := hx115.trans hq118
    refine tt_goto (tgt := 766) dX10_readRest_438 rfl ?_
    have hF : F_X10_readRest_p391 bs n (StR S o0) x1 x2 = d116 := by
      subst hd117
      subst hd107
      exact q_X10_readRest_p391_1 q110
    exact tt_vreturn dX10_readRest_766 rfl (hP _ _ _ _ ⟨hG112, hA114, Or.inl ⟨_, rfl, rfl, Eq.trans (stR_mk (sR_654 hs119) (sR_655 hs119) (sR_656 hs119) (sR_657 hs119) (sR_658 hs119) (sR_659 hs119) (sR_661 hs119) (sR_662 hs119) (sR_672 hs119) (sR_673 hs119) (sR_674 hs119) (sR_675 hs119) (sR_660 hs119)) hF.symm, rfl, rfl⟩⟩)
  · skip
    have h120 : Rg 137 137 x1 := rg_eq_l (rg_all x1) (⟨by decide, by decide⟩ : Rg 137 137 137) q110
    refine tt_aload_n (j := 0) dX10_readRest_406 rfl ?_
    refine gt_gI (id := 673) (v := (e9 d106)) dX10_readRest_407 fl_10_100 rfl rfl h0 hA104 (sR_673 hs109) ?_
    refine tt_goto (tgt := 417) dX10_readRest_410 rfl ?_
    refine tt_iload_n (j := 1) dX10_readRest_417 rfl ?_
    refine tt_sipush (v := 137) dX10_readRest_418 rfl ?_
    refine tt_icmp_ne (tgt := 431) dX10_readRest_421 rfl (fun q => absurd q110 q) (fun _ => ?_)
    refine tt_aload_n (j := 0) dX10_readRest_424 rfl ?_
    refine gt_gI (id := 672) (v := (e8 d106)) dX10_readRest_425 fl_10_97 rfl rfl h0 hA104 (sR_672 hs109) ?_
    refine tt_goto (tgt := 435) dX10_readRest_428 rfl ?_
    refine gt_Vv (As := [.int 13, .int (e9 d106), .int (e8 d106)]) dX10_readRest_435 ca_X10_123 ⟨by decide, by decide⟩ h0 hA104 rfl (Nat.le_of_ble_eq_true rfl) (Nat.le_of_ble_eq_true rfl) (by decide) (ce_X10_take hG102 (oa_af h0 hA104) (br_af hb h0 hA104) (fun _ _ _ _ h => h)) rfl (fun _ h => nomatch h) (fun S121 hx125 hG122 hB123 hA124 => ?_)
    obtain ⟨d126, hd127⟩ : ∃ q, F_X10_take bs n d106 (13) ((e9 d106)) ((e8 d106)) = q := ⟨_, rfl⟩
    have hq128 := (congrArg (fun q => F_X10_take bs n q (13) ((e9 d106)) ((e8 d106))) (stR_mk (sR_654 hs109) (sR_655 hs109) (sR_656 hs109) (sR_657 hs109) (sR_658 hs109) (sR_659 hs109) (sR_661 hs109) (sR_662 hs109) (sR_672 hs109) (sR_673 hs109) (sR_674 hs109) (sR_675 hs109) (sR_660 hs109))).trans hd127
    have hs129 := hx125.trans hq128
    refine tt_goto (tgt := 766) dX10_readRest_438 rfl ?_
    have hF : F_X10_readRest_p391 bs n (StR S o0) x1 x2 = d126 := by
      subst hd127
      subst hd107
      exact q_X10_readRest_p391_0 q110
    exact tt_vreturn dX10_readRest_766 rfl (hP _ _ _ _ ⟨hG122, hA124, Or.inl ⟨_, rfl, rfl, Eq.trans (stR_mk (sR_654 hs129) (sR_655 hs129) (sR_656 hs129) (sR_657 hs129) (sR_658 hs129) (sR_659 hs129) (sR_661 hs129) (sR_662 hs129) (sR_672 hs129) (sR_673 hs129) (sR_674 hs129) (sR_675 hs129) (sR_660 hs129)) hF.symm, rfl, rfl⟩⟩)
def F_X10_readRest_p351 (bs : Nat → Int32) (n : Int32) (d : DD) (x1 : Int32) (x2 : Int32) : DD :=
  if (e10 d) = 0 then
    let d118 := F_X10_take bs n d (11) ((e9 d)) ((-1))
    d118
  else
    let d108 := F_X10_take bs n d (12) ((e9 d)) ((-1))
    d108
theorem q_X10_readRest_p351_0 {bs : Nat → Int32} {n : Int32} {d : DD} {x1 : Int32} {x2 : Int32} (h0 : (e10 d) = 0) : F_X10_readRest_p351 bs n d x1 x2 = (F_X10_take bs n d (11) ((e9 d)) ((-1))) := by unfold F_X10_readRest_p351; exact if_pos h0
theorem q_X10_readRest_p351_1 {bs : Nat → Int32} {n : Int32} {d : DD} {x1 : Int32} {x2 : Int32} (h0 : ¬ (e10 d) = 0) : F_X10_readRest_p351 bs n d x1 x2 = (F_X10_take bs n d (12) ((e9 d)) ((-1))) := by unfold F_X10_readRest_p351; exact if_neg h0
set_option maxHeartbeats 40000000 in
theorem ce_X10_readRest_p351 {xi : SX} {S : Hp} {E : List Nat} {kc nc : Nat} {P : Po} {o0 : Nat} {x1 : Int32} {x2 : Int32} {bs : Nat → Int32} {n : Int32} (hG : GI S E) (h0 : Oa S E 10 0 o0) (hb : BR S E o0 bs n) (hP : ∀ r T x y, PV E [654, 655, 657, 658, 659, 662, 672, 673, 674, 675, 9998] S kc nc rV (fun v T => StR T o0 = F_X10_readRest_p351 bs n (StR S o0) x1 x2) [] r T x y → P r T x y) : TT xi M_X10_readRest 351 [(0, .ref o0), (1, .int x1), (2, .int x2)] [] S kc nc P := by
  have hA : Af E [654, 655, 657, 658, 659, 662, 672, 673, 674, 675, 9998] S S := af_rf
  refine tt_aload_n (j := 0) dX10_readRest_351 rfl ?_
  refine tt_aload_n (j := 0) dX10_readRest_352 rfl ?_
  refine gt_gI (id := 674) (v := (e10 (StR S o0))) dX10_readRest_353 fl_10_94 rfl rfl h0 hA (sR_674 (T := S) (o := o0) rfl) ?_
  refine tt_if_ne (tgt := 364) dX10_readRest_356 rfl (fun q101 => ?_) (fun q101 => ?_)
  · skip
    have h102 : Rg 1 7 (e10 (StR S o0)) := rg_ne_lo (gi_I (k := 674) hG h0 0 7) (⟨by decide, by decide⟩ : Rg 0 0 0) q101
    refine tt_bipush (v := 12) dX10_readRest_364 rfl ?_
    refine tt_aload_n (j := 0) dX10_readRest_366 rfl ?_
    refine gt_gI (id := 673) (v := (e9 (StR S o0))) dX10_readRest_367 fl_10_100 rfl rfl h0 hA (sR_673 (T := S) (o := o0) rfl) ?_
    refine tt_iconst (v := (-1)) dX10_readRest_370 rfl ?_
    refine gt_Vv (As := [.int 12, .int (e9 (StR S o0)), .int (-1)]) dX10_readRest_371 ca_X10_123 ⟨by decide, by decide⟩ h0 hA rfl (Nat.le_of_ble_eq_true rfl) (Nat.le_of_ble_eq_true rfl) (by decide) (ce_X10_take hG (oa_af h0 hA) (br_af hb h0 hA) (fun _ _ _ _ h => h)) rfl (fun _ h => nomatch h) (fun S103 hx107 hG104 hB105 hA106 => ?_)
    obtain ⟨d108, hd109⟩ : ∃ q, F_X10_take bs n (StR S o0) (12) ((e9 (StR S o0))) ((-1)) = q := ⟨_, rfl⟩
    have hq110 := (congrArg (fun q => F_X10_take bs n q (12) ((e9 (StR S o0))) ((-1))) (stR_mk (sR_654 (T := S) (o := o0) rfl) (sR_655 (T := S) (o := o0) rfl) (sR_656 (T := S) (o := o0) rfl) (sR_657 (T := S) (o := o0) rfl) (sR_658 (T := S) (o := o0) rfl) (sR_659 (T := S) (o := o0) rfl) (sR_661 (T := S) (o := o0) rfl) (sR_662 (T := S) (o := o0) rfl) (sR_672 (T := S) (o := o0) rfl) (sR_673 (T := S) (o := o0) rfl) (sR_674 (T := S) (o := o0) rfl) (sR_675 (T := S) (o := o0) rfl) (sR_660 (T := S) (o := o0) rfl))).trans hd109
    have hs111 := hx107.trans hq110
    refine tt_goto (tgt := 766) dX10_readRest_374 rfl ?_
    have hF : F_X10_readRest_p351 bs n (StR S o0) x1 x2 = d108 := by
      subst hd109
      exact q_X10_readRest_p351_1 q101
    exact tt_vreturn dX10_readRest_766 rfl (hP _ _ _ _ ⟨hG104, hA106, Or.inl ⟨_, rfl, rfl, Eq.trans (stR_mk (sR_654 hs111) (sR_655 hs111) (sR_656 hs111) (sR_657 hs111) (sR_658 hs111) (sR_659 hs111) (sR_661 hs111) (sR_662 hs111) (sR_672 hs111) (sR_673 hs111) (sR_674 hs111) (sR_675 hs111) (sR_660 hs111)) hF.symm, rfl, rfl⟩⟩)
  · skip
    have h112 : Rg 0 0 (e10 (StR S o0)) := rg_eq_l (gi_I (k := 674) hG h0 0 7) (⟨by decide, by decide⟩ : Rg 0 0 0) q101
    refine tt_bipush (v := 11) dX10_readRest_359 rfl ?_
    refine tt_goto (tgt := 366) dX10_readRest_361 rfl ?_
    refine tt_aload_n (j := 0) dX10_readRest_366 rfl ?_
    refine gt_gI (id := 673) (v := (e9 (StR S o0))) dX10_readRest_367 fl_10_100 rfl rfl h0 hA (sR_673 (T := S) (o := o0) rfl) ?_
    refine tt_iconst (v := (-1)) dX10_readRest_370 rfl ?_
    refine gt_Vv (As := [.int 11, .int (e9 (StR S o0)), .int (-1)]) dX10_readRest_371 ca_X10_123 ⟨by decide, by decide⟩ h0 hA rfl (Nat.le_of_ble_eq_true rfl) (Nat.le_of_ble_eq_true rfl) (by decide) (ce_X10_take hG (oa_af h0 hA) (br_af hb h0 hA) (fun _ _ _ _ h => h)) rfl (fun _ h => nomatch h) (fun S113 hx117 hG114 hB115 hA116 => ?_)
    obtain ⟨d118, hd119⟩ : ∃ q, F_X10_take bs n (StR S o0) (11) ((e9 (StR S o0))) ((-1)) = q := ⟨_, rfl⟩
    have hq120 := (congrArg (fun q => F_X10_take bs n q (11) ((e9 (StR S o0))) ((-1))) (stR_mk (sR_654 (T := S) (o := o0) rfl) (sR_655 (T := S) (o := o0) rfl) (sR_656 (T := S) (o := o0) rfl) (sR_657 (T := S) (o := o0) rfl) (sR_658 (T := S) (o := o0) rfl) (sR_659 (T := S) (o := o0) rfl) (sR_661 (T := S) (o := o0) rfl) (sR_662 (T := S) (o := o0) rfl) (sR_672 (T := S) (o := o0) rfl) (sR_673 (T := S) (o := o0) rfl) (sR_674 (T := S) (o := o0) rfl) (sR_675 (T := S) (o := o0) rfl) (sR_660 (T := S) (o := o0) rfl))).trans hd119
    have hs121 := hx117.trans hq120
    refine tt_goto (tgt := 766) dX10_readRest_374 rfl ?_
    have hF : F_X10_readRest_p351 bs n (StR S o0) x1 x2 = d118 := by
      subst hd119
      exact q_X10_readRest_p351_0 q101
    exact tt_vreturn dX10_readRest_766 rfl (hP _ _ _ _ ⟨hG114, hA116, Or.inl ⟨_, rfl, rfl, Eq.trans (stR_mk (sR_654 hs121) (sR_655 hs121) (sR_656 hs121) (sR_657 hs121) (sR_658 hs121) (sR_659 hs121) (sR_661 hs121) (sR_662 hs121) (sR_672 hs121) (sR_673 hs121) (sR_674 hs121) (sR_675 hs121) (sR_660 hs121)) hF.symm, rfl, rfl⟩⟩)
def F_X10_readRest_p322 (bs : Nat → Int32) (n : Int32) (d : DD) (x1 : Int32) (x2 : Int32) : DD :=
  let d106 := F_X10_readPlaces bs n d (x2)
  if (e7 d106) = 0 then
    if (e10 d106) ≤ 1 then
      F_X10_readRest_p351 bs n ((e0 d106), (e1 d106), (e2 d106), (e3 d106), (e4 d106), (e5 d106), (e6 d106), 0, (e8 d106), (e9 d106), (e10 d106), (e11 d106), (eJ d106)) (x1) (x2)
    else
      F_X10_readRest_p351 bs n ((e0 d106), (e1 d106), (e2 d106), (e3 d106), (e4 d106), (e5 d106), (e6 d106), 1, (e8 d106), (e9 d106), (e10 d106), (e11 d106), (eJ d106)) (x1) (x2)
  else
    F_X10_readRest_p351 bs n ((e0 d106), (e1 d106), (e2 d106), (e3 d106), (e4 d106), (e5 d106), (e6 d106), 1, (e8 d106), (e9 d106), (e10 d106), (e11 d106), (eJ d106)) (x1) (x2)
theorem q_X10_readRest_p322_0 {bs : Nat → Int32} {n : Int32} {d : DD} {x1 : Int32} {x2 : Int32} (h0 : (e7 (F_X10_readPlaces bs n d (x2))) = 0) (h1 : (e10 (F_X10_readPlaces bs n d (x2))) ≤ 1) : F_X10_readRest_p322 bs n d x1 x2 = F_X10_readRest_p351 bs n ((e0 (F_X10_readPlaces bs n d (x2))), (e1 (F_X10_readPlaces bs n d (x2))), (e2 (F_X10_readPlaces bs n d (x2))), (e3 (F_X10_readPlaces bs n d (x2))), (e4 (F_X10_readPlaces bs n d (x2))), (e5 (F_X10_readPlaces bs n d (x2))), (e6 (F_X10_readPlaces bs n d (x2))), 0, (e8 (F_X10_readPlaces bs n d (x2))), (e9 (F_X10_readPlaces bs n d (x2))), (e10 (F_X10_readPlaces bs n d (x2))), (e11 (F_X10_readPlaces bs n d (x2))), (eJ (F_X10_readPlaces bs n d (x2)))) (x1) (x2) := by unfold F_X10_readRest_p322; exact Eq.trans (if_pos h0) (if_pos h1)
theorem q_X10_readRest_p322_1 {bs : Nat → Int32} {n : Int32} {d : DD} {x1 : Int32} {x2 : Int32} (h0 : (e7 (F_X10_readPlaces bs n d (x2))) = 0) (h1 : ¬ (e10 (F_X10_readPlaces bs n d (x2))) ≤ 1) : F_X10_readRest_p322 bs n d x1 x2 = F_X10_readRest_p351 bs n ((e0 (F_X10_readPlaces bs n d (x2))), (e1 (F_X10_readPlaces bs n d (x2))), (e2 (F_X10_readPlaces bs n d (x2))), (e3 (F_X10_readPlaces bs n d (x2))), (e4 (F_X10_readPlaces bs n d (x2))), (e5 (F_X10_readPlaces bs n d (x2))), (e6 (F_X10_readPlaces bs n d (x2))), 1, (e8 (F_X10_readPlaces bs n d (x2))), (e9 (F_X10_readPlaces bs n d (x2))), (e10 (F_X10_readPlaces bs n d (x2))), (e11 (F_X10_readPlaces bs n d (x2))), (eJ (F_X10_readPlaces bs n d (x2)))) (x1) (x2) := by unfold F_X10_readRest_p322; exact Eq.trans (if_pos h0) (if_neg h1)
theorem q_X10_readRest_p322_2 {bs : Nat → Int32} {n : Int32} {d : DD} {x1 : Int32} {x2 : Int32} (h0 : ¬ (e7 (F_X10_readPlaces bs n d (x2))) = 0) : F_X10_readRest_p322 bs n d x1 x2 = F_X10_readRest_p351 bs n ((e0 (F_X10_readPlaces bs n d (x2))), (e1 (F_X10_readPlaces bs n d (x2))), (e2 (F_X10_readPlaces bs n d (x2))), (e3 (F_X10_readPlaces bs n d (x2))), (e4 (F_X10_readPlaces bs n d (x2))), (e5 (F_X10_readPlaces bs n d (x2))), (e6 (F_X10_readPlaces bs n d (x2))), 1, (e8 (F_X10_readPlaces bs n d (x2))), (e9 (F_X10_readPlaces bs n d (x2))), (e10 (F_X10_readPlaces bs n d (x2))), (e11 (F_X10_readPlaces bs n d (x2))), (eJ (F_X10_readPlaces bs n d (x2)))) (x1) (x2) := by unfold F_X10_readRest_p322; exact if_neg h0
set_option maxHeartbeats 40000000 in
theorem ce_X10_readRest_p322 {xi : SX} {S : Hp} {E : List Nat} {kc nc : Nat} {P : Po} {o0 : Nat} {x1 : Int32} {x2 : Int32} {bs : Nat → Int32} {n : Int32} (hG : GI S E) (h0 : Oa S E 10 0 o0) (hb : BR S E o0 bs n) (hP : ∀ r T x y, PV E [654, 655, 657, 658, 659, 662, 672, 673, 674, 675, 9998] S kc nc rV (fun v T => StR T o0 = F_X10_readRest_p322 bs n (StR S o0) x1 x2) [] r T x y → P r T x y) : TT xi M_X10_readRest 322 [(0, .ref o0), (1, .int x1), (2, .int x2)] [] S kc nc P := by
  have hA : Af E [654, 655, 657, 658, 659, 662, 672, 673, 674, 675, 9998] S S := af_rf
  refine tt_aload_n (j := 0) dX10_readRest_322 rfl ?_
  refine tt_iload_n (j := 2) dX10_readRest_323 rfl ?_
  refine gt_Vv (As := [.int x2]) dX10_readRest_324 ca_X10_137 ⟨by decide, by decide⟩ h0 hA rfl (Nat.le_of_ble_eq_true rfl) (Nat.le_of_ble_eq_true rfl) (by decide) (ce_X10_readPlaces hG (oa_af h0 hA) (br_af hb h0 hA) (fun _ _ _ _ h => h)) rfl (fun _ h => nomatch h) (fun S101 hx105 hG102 hB103 hA104 => ?_)
  obtain ⟨d106, hd107⟩ : ∃ q, F_X10_readPlaces bs n (StR S o0) (x2) = q := ⟨_, rfl⟩
  have hq108 := (congrArg (fun q => F_X10_readPlaces bs n q (x2)) (stR_mk (sR_654 (T := S) (o := o0) rfl) (sR_655 (T := S) (o := o0) rfl) (sR_656 (T := S) (o := o0) rfl) (sR_657 (T := S) (o := o0) rfl) (sR_658 (T := S) (o := o0) rfl) (sR_659 (T := S) (o := o0) rfl) (sR_661 (T := S) (o := o0) rfl) (sR_662 (T := S) (o := o0) rfl) (sR_672 (T := S) (o := o0) rfl) (sR_673 (T := S) (o := o0) rfl) (sR_674 (T := S) (o := o0) rfl) (sR_675 (T := S) (o := o0) rfl) (sR_660 (T := S) (o := o0) rfl))).trans hd107
  have hs109 := hx105.trans hq108
  refine tt_aload_n (j := 0) dX10_readRest_327 rfl ?_
  refine tt_aload_n (j := 0) dX10_readRest_328 rfl ?_
  refine gt_gI (id := 662) (v := (e7 d106)) dX10_readRest_329 fl_10_84 rfl rfl h0 hA104 (sR_662 hs109) ?_
  refine tt_if_ne (tgt := 343) dX10_readRest_332 rfl (fun q110 => ?_) (fun q110 => ?_)
  · skip
    refine tt_iconst (v := 1) dX10_readRest_343 rfl ?_
    refine tt_goto (tgt := 348) dX10_readRest_344 rfl ?_
    refine gt_pI (id := 662) (x := 1) dX10_readRest_348 fl_10_84 rfl rfl h0 hA104 rfl rfl rfl (gp_Ir hG102 (⟨by decide, by decide⟩ : Rg 1 1 1)) (by decide) (fun _ h => absurd (by decide) h) (fun h => absurd h (by decide)) (fun S111 hG112 hA113 e114 f115 er116 => ?_)
    have hF : F_X10_readRest_p322 bs n (StR S o0) x1 x2 = F_X10_readRest_p351 bs n ((e0 d106), (e1 d106), (e2 d106), (e3 d106), (e4 d106), (e5 d106), (e6 d106), 1, (e8 d106), (e9 d106), (e10 d106), (e11 d106), (eJ d106)) (x1) (x2) := by
      subst hd107
      exact q_X10_readRest_p322_2 q110
    exact tt_loc (ks := [0, 1, 2]) rfl (ce_X10_readRest_p351 hG112 (oa_af h0 hA113) (br_af hb h0 hA113) (fun r T x y h => hP r T x y (pv_tr hA113 h (by decide) (fun v T e => e.trans ((congrArg (fun q => F_X10_readRest_p351 bs n q (x1) (x2)) (stR_mk ((congrFun (congrFun e114 654) o0).trans ((congrFun (up2_ne (k := 654)) o0).trans (sR_654 hs109))) ((congrFun (congrFun e114 655) o0).trans ((congrFun (up2_ne (k := 655)) o0).trans (sR_655 hs109))) ((congrFun (congrFun e114 656) o0).trans ((congrFun (up2_ne (k := 656)) o0).trans (sR_656 hs109))) ((congrFun (congrFun e114 657) o0).trans ((congrFun (up2_ne (k := 657)) o0).trans (sR_657 hs109))) ((congrFun (congrFun e114 658) o0).trans ((congrFun (up2_ne (k := 658)) o0).trans (sR_658 hs109))) ((congrFun (congrFun e114 659) o0).trans ((congrFun (up2_ne (k := 659)) o0).trans (sR_659 hs109))) ((congrFun (congrFun e114 661) o0).trans ((congrFun (up2_ne (k := 661)) o0).trans (sR_661 hs109))) (by rw [e114]; exact up2_self) ((congrFun (congrFun e114 672) o0).trans ((congrFun (up2_ne (k := 672)) o0).trans (sR_672 hs109))) ((congrFun (congrFun e114 673) o0).trans ((congrFun (up2_ne (k := 673)) o0).trans (sR_673 hs109))) ((congrFun (congrFun e114 674) o0).trans ((congrFun (up2_ne (k := 674)) o0).trans (sR_674 hs109))) ((congrFun (congrFun e114 675) o0).trans ((congrFun (up2_ne (k := 675)) o0).trans (sR_675 hs109))) ((congrFun (congrFun f115 660) o0).trans (sR_660 hs109)))).trans hF.symm)))))
  · skip
    have h117 : Rg 0 0 (e7 d106) := rg_eq_l (rg_all (e7 d106)) (⟨by decide, by decide⟩ : Rg 0 0 0) q110
    refine tt_aload_n (j := 0) dX10_readRest_335 rfl ?_
    refine gt_gI (id := 674) (v := (e10 d106)) dX10_readRest_336 fl_10_94 rfl rfl h0 hA104 (sR_674 hs109) ?_
    refine tt_iconst (v := 1) dX10_readRest_339 rfl ?_
    refine tt_icmp_le (tgt := 347) dX10_readRest_340 rfl (fun q118 => ?_) (fun q118 => ?_)
    · skip
      have h119 : Rg (-2147483648) 1 (e10 d106) := rg_le_l (rg_all (e10 d106)) (⟨by decide, by decide⟩ : Rg 1 1 1) q118
      refine tt_iconst (v := 0) dX10_readRest_347 rfl ?_
      refine gt_pI (id := 662) (x := 0) dX10_readRest_348 fl_10_84 rfl rfl h0 hA104 rfl rfl rfl (gp_Ir hG102 (⟨by decide, by decide⟩ : Rg 0 0 0)) (by decide) (fun _ h => absurd (by decide) h) (fun h => absurd h (by decide)) (fun S120 hG121 hA122 e123 f124 er125 => ?_)
      have hF : F_X10_readRest_p322 bs n (StR S o0) x1 x2 = F_X10_readRest_p351 bs n ((e0 d106), (e1 d106), (e2 d106), (e3 d106), (e4 d106), (e5 d106), (e6 d106), 0, (e8 d106), (e9 d106), (e10 d106), (e11 d106), (eJ d106)) (x1) (x2) := by
        subst hd107
        exact q_X10_readRest_p322_0 q110 q118
      exact tt_loc (ks := [0, 1, 2]) rfl (ce_X10_readRest_p351 hG121 (oa_af h0 hA122) (br_af hb h0 hA122) (fun r T x y h => hP r T x y (pv_tr hA122 h (by decide) (fun v T e => e.trans ((congrArg (fun q => F_X10_readRest_p351 bs n q (x1) (x2)) (stR_mk ((congrFun (congrFun e123 654) o0).trans ((congrFun (up2_ne (k := 654)) o0).trans (sR_654 hs109))) ((congrFun (congrFun e123 655) o0).trans ((congrFun (up2_ne (k := 655)) o0).trans (sR_655 hs109))) ((congrFun (congrFun e123 656) o0).trans ((congrFun (up2_ne (k := 656)) o0).trans (sR_656 hs109))) ((congrFun (congrFun e123 657) o0).trans ((congrFun (up2_ne (k := 657)) o0).trans (sR_657 hs109))) ((congrFun (congrFun e123 658) o0).trans ((congrFun (up2_ne (k := 658)) o0).trans (sR_658 hs109))) ((congrFun (congrFun e123 659) o0).trans ((congrFun (up2_ne (k := 659)) o0).trans (sR_659 hs109))) ((congrFun (congrFun e123 661) o0).trans ((congrFun (up2_ne (k := 661)) o0).trans (sR_661 hs109))) (by rw [e123]; exact up2_self) ((congrFun (congrFun e123 672) o0).trans ((congrFun (up2_ne (k := 672)) o0).trans (sR_672 hs109))) ((congrFun (congrFun e123 673) o0).trans ((congrFun (up2_ne (k := 673)) o0).trans (sR_673 hs109))) ((congrFun (congrFun e123 674) o0).trans ((congrFun (up2_ne (k := 674)) o0).trans (sR_674 hs109))) ((congrFun (congrFun e123 675) o0).trans ((congrFun (up2_ne (k := 675)) o0).trans (sR_675 hs109))) ((congrFun (congrFun f124 660) o0).trans (sR_660 hs109)))).trans hF.symm)))))
    · skip
      have h126 : Rg 2 2147483647 (e10 d106) := rg_lt_r (⟨by decide, by decide⟩ : Rg 1 1 1) (rg_all (e10 d106)) (nle_lt q118)
      refine tt_iconst (v := 1) dX10_readRest_343 rfl ?_
      refine tt_goto (tgt := 348) dX10_readRest_344 rfl ?_
      refine gt_pI (id := 662) (x := 1) dX10_readRest_348 fl_10_84 rfl rfl h0 hA104 rfl rfl rfl (gp_Ir hG102 (⟨by decide, by decide⟩ : Rg 1 1 1)) (by decide) (fun _ h => absurd (by decide) h) (fun h => absurd h (by decide)) (fun S127 hG128 hA129 e130 f131 er132 => ?_)
      have hF : F_X10_readRest_p322 bs n (StR S o0) x1 x2 = F_X10_readRest_p351 bs n ((e0 d106), (e1 d106), (e2 d106), (e3 d106), (e4 d106), (e5 d106), (e6 d106), 1, (e8 d106), (e9 d106), (e10 d106), (e11 d106), (eJ d106)) (x1) (x2) := by
        subst hd107
        exact q_X10_readRest_p322_1 q110 q118
      exact tt_loc (ks := [0, 1, 2]) rfl (ce_X10_readRest_p351 hG128 (oa_af h0 hA129) (br_af hb h0 hA129) (fun r T x y h => hP r T x y (pv_tr hA129 h (by decide) (fun v T e => e.trans ((congrArg (fun q => F_X10_readRest_p351 bs n q (x1) (x2)) (stR_mk ((congrFun (congrFun e130 654) o0).trans ((congrFun (up2_ne (k := 654)) o0).trans (sR_654 hs109))) ((congrFun (congrFun e130 655) o0).trans ((congrFun (up2_ne (k := 655)) o0).trans (sR_655 hs109))) ((congrFun (congrFun e130 656) o0).trans ((congrFun (up2_ne (k := 656)) o0).trans (sR_656 hs109))) ((congrFun (congrFun e130 657) o0).trans ((congrFun (up2_ne (k := 657)) o0).trans (sR_657 hs109))) ((congrFun (congrFun e130 658) o0).trans ((congrFun (up2_ne (k := 658)) o0).trans (sR_658 hs109))) ((congrFun (congrFun e130 659) o0).trans ((congrFun (up2_ne (k := 659)) o0).trans (sR_659 hs109))) ((congrFun (congrFun e130 661) o0).trans ((congrFun (up2_ne (k := 661)) o0).trans (sR_661 hs109))) (by rw [e130]; exact up2_self) ((congrFun (congrFun e130 672) o0).trans ((congrFun (up2_ne (k := 672)) o0).trans (sR_672 hs109))) ((congrFun (congrFun e130 673) o0).trans ((congrFun (up2_ne (k := 673)) o0).trans (sR_673 hs109))) ((congrFun (congrFun e130 674) o0).trans ((congrFun (up2_ne (k := 674)) o0).trans (sR_674 hs109))) ((congrFun (congrFun e130 675) o0).trans ((congrFun (up2_ne (k := 675)) o0).trans (sR_675 hs109))) ((congrFun (congrFun f131 660) o0).trans (sR_660 hs109)))).trans hF.symm)))))
def F_X10_readRest_p256 (bs : Nat → Int32) (n : Int32) (d : DD) (x1 : Int32) (x2 : Int32) : DD :=
  if (e10 d) = 0 then
    let d177 := F_X10_take bs n d (8) ((e9 d)) ((-1))
    if (e10 d177) = 0 then
      let d194 := F_X10_number_4 bs n d177 
      ((e0 d194.1), (e1 d194.1), (e2 d194.1), (e3 d194.1), (e4 d194.1), (e5 d194.1), (e6 d194.1), (e7 d194.1), (e8 d194.1), (e9 d194.1), (e10 d194.1), (e11 d194.1), d194.2)
    else
      ((e0 d177), (e1 d177), (e2 d177), (e3 d177), (e4 d177), (e5 d177), (e6 d177), (e7 d177), (e8 d177), (e9 d177), (e10 d177), (e11 d177), 0)
  else
    if (e10 d) = 2 then
      let d143 := F_X10_take bs n d (9) ((e9 d)) ((-1))
      if (e10 d143) = 0 then
        let d160 := F_X10_number_4 bs n d143 
        ((e0 d160.1), (e1 d160.1), (e2 d160.1), (e3 d160.1), (e4 d160.1), (e5 d160.1), (e6 d160.1), (e7 d160.1), (e8 d160.1), (e9 d160.1), (e10 d160.1), (e11 d160.1), d160.2)
      else
        ((e0 d143), (e1 d143), (e2 d143), (e3 d143), (e4 d143), (e5 d143), (e6 d143), (e7 d143), (e8 d143), (e9 d143), (e10 d143), (e11 d143), 0)
    else
      let d109 := F_X10_take bs n d (10) ((e9 d)) ((-1))
      if (e10 d109) = 0 then
        let d126 := F_X10_number_4 bs n d109 
        ((e0 d126.1), (e1 d126.1), (e2 d126.1), (e3 d126.1), (e4 d126.1), (e5 d126.1), (e6 d126.1), (e7 d126.1), (e8 d126.1), (e9 d126.1), (e10 d126.1), (e11 d126.1), d126.2)
      else
        ((e0 d109), (e1 d109), (e2 d109), (e3 d109), (e4 d109), (e5 d109), (e6 d109), (e7 d109), (e8 d109), (e9 d109), (e10 d109), (e11 d109), 0)
theorem q_X10_readRest_p256_0 {bs : Nat → Int32} {n : Int32} {d : DD} {x1 : Int32} {x2 : Int32} (h0 : (e10 d) = 0) (h1 : (e10 (F_X10_take bs n d (8) ((e9 d)) ((-1)))) = 0) : F_X10_readRest_p256 bs n d x1 x2 = ((e0 (F_X10_number_4 bs n (F_X10_take bs n d (8) ((e9 d)) ((-1)))).1), (e1 (F_X10_number_4 bs n (F_X10_take bs n d (8) ((e9 d)) ((-1)))).1), (e2 (F_X10_number_4 bs n (F_X10_take bs n d (8) ((e9 d)) ((-1)))).1), (e3 (F_X10_number_4 bs n (F_X10_take bs n d (8) ((e9 d)) ((-1)))).1), (e4 (F_X10_number_4 bs n (F_X10_take bs n d (8) ((e9 d)) ((-1)))).1), (e5 (F_X10_number_4 bs n (F_X10_take bs n d (8) ((e9 d)) ((-1)))).1), (e6 (F_X10_number_4 bs n (F_X10_take bs n d (8) ((e9 d)) ((-1)))).1), (e7 (F_X10_number_4 bs n (F_X10_take bs n d (8) ((e9 d)) ((-1)))).1), (e8 (F_X10_number_4 bs n (F_X10_take bs n d (8) ((e9 d)) ((-1)))).1), (e9 (F_X10_number_4 bs n (F_X10_take bs n d (8) ((e9 d)) ((-1)))).1), (e10 (F_X10_number_4 bs n (F_X10_take bs n d (8) ((e9 d)) ((-1)))).1), (e11 (F_X10_number_4 bs n (F_X10_take bs n d (8) ((e9 d)) ((-1)))).1), (F_X10_number_4 bs n (F_X10_take bs n d (8) ((e9 d)) ((-1)))).2) := by unfold F_X10_readRest_p256; exact Eq.trans (if_pos h0) (if_pos h1)
theorem q_X10_readRest_p256_1 {bs : Nat → Int32} {n : Int32} {d : DD} {x1 : Int32} {x2 : Int32} (h0 : (e10 d) = 0) (h1 : ¬ (e10 (F_X10_take bs n d (8) ((e9 d)) ((-1)))) = 0) : F_X10_readRest_p256 bs n d x1 x2 = ((e0 (F_X10_take bs n d (8) ((e9 d)) ((-1)))), (e1 (F_X10_take bs n d (8) ((e9 d)) ((-1)))), (e2 (F_X10_take bs n d (8) ((e9 d)) ((-1)))), (e3 (F_X10_take bs n d (8) ((e9 d)) ((-1)))), (e4 (F_X10_take bs n d (8) ((e9 d)) ((-1)))), (e5 (F_X10_take bs n d (8) ((e9 d)) ((-1)))), (e6 (F_X10_take bs n d (8) ((e9 d)) ((-1)))), (e7 (F_X10_take bs n d (8) ((e9 d)) ((-1)))), (e8 (F_X10_take bs n d (8) ((e9 d)) ((-1)))), (e9 (F_X10_take bs n d (8) ((e9 d)) ((-1)))), (e10 (F_X10_take bs n d (8) ((e9 d)) ((-1)))), (e11 (F_X10_take bs n d (8) ((e9 d)) ((-1)))), 0) := by unfold F_X10_readRest_p256; exact Eq.trans (if_pos h0) (if_neg h1)
theorem q_X10_readRest_p256_2 {bs : Nat → Int32} {n : Int32} {d : DD} {x1 : Int32} {x2 : Int32} (h0 : ¬ (e10 d) = 0) (h1 : (e10 d) = 2) (h2 : (e10 (F_X10_take bs n d (9) ((e9 d)) ((-1)))) = 0) : F_X10_readRest_p256 bs n d x1 x2 = ((e0 (F_X10_number_4 bs n (F_X10_take bs n d (9) ((e9 d)) ((-1)))).1), (e1 (F_X10_number_4 bs n (F_X10_take bs n d (9) ((e9 d)) ((-1)))).1), (e2 (F_X10_number_4 bs n (F_X10_take bs n d (9) ((e9 d)) ((-1)))).1), (e3 (F_X10_number_4 bs n (F_X10_take bs n d (9) ((e9 d)) ((-1)))).1), (e4 (F_X10_number_4 bs n (F_X10_take bs n d (9) ((e9 d)) ((-1)))).1), (e5 (F_X10_number_4 bs n (F_X10_take bs n d (9) ((e9 d)) ((-1)))).1), (e6 (F_X10_number_4 bs n (F_X10_take bs n d (9) ((e9 d)) ((-1)))).1), (e7 (F_X10_number_4 bs n (F_X10_take bs n d (9) ((e9 d)) ((-1)))).1), (e8 (F_X10_number_4 bs n (F_X10_take bs n d (9) ((e9 d)) ((-1)))).1), (e9 (F_X10_number_4 bs n (F_X10_take bs n d (9) ((e9 d)) ((-1)))).1), (e10 (F_X10_number_4 bs n (F_X10_take bs n d (9) ((e9 d)) ((-1)))).1), (e11 (F_X10_number_4 bs n (F_X10_take bs n d (9) ((e9 d)) ((-1)))).1), (F_X10_number_4 bs n (F_X10_take bs n d (9) ((e9 d)) ((-1)))).2) := by unfold F_X10_readRest_p256; exact Eq.trans (if_neg h0) (Eq.trans (if_pos h1) (if_pos h2))
theorem q_X10_readRest_p256_3 {bs : Nat → Int32} {n : Int32} {d : DD} {x1 : Int32} {x2 : Int32} (h0 : ¬ (e10 d) = 0) (h1 : (e10 d) = 2) (h2 : ¬ (e10 (F_X10_take bs n d (9) ((e9 d)) ((-1)))) = 0) : F_X10_readRest_p256 bs n d x1 x2 = ((e0 (F_X10_take bs n d (9) ((e9 d)) ((-1)))), (e1 (F_X10_take bs n d (9) ((e9 d)) ((-1)))), (e2 (F_X10_take bs n d (9) ((e9 d)) ((-1)))), (e3 (F_X10_take bs n d (9) ((e9 d)) ((-1)))), (e4 (F_X10_take bs n d (9) ((e9 d)) ((-1)))), (e5 (F_X10_take bs n d (9) ((e9 d)) ((-1)))), (e6 (F_X10_take bs n d (9) ((e9 d)) ((-1)))), (e7 (F_X10_take bs n d (9) ((e9 d)) ((-1)))), (e8 (F_X10_take bs n d (9) ((e9 d)) ((-1)))), (e9 (F_X10_take bs n d (9) ((e9 d)) ((-1)))), (e10 (F_X10_take bs n d (9) ((e9 d)) ((-1)))), (e11 (F_X10_take bs n d (9) ((e9 d)) ((-1)))), 0) := by unfold F_X10_readRest_p256; exact Eq.trans (if_neg h0) (Eq.trans (if_pos h1) (if_neg h2))
theorem q_X10_readRest_p256_4 {bs : Nat → Int32} {n : Int32} {d : DD} {x1 : Int32} {x2 : Int32} (h0 : ¬ (e10 d) = 0) (h1 : ¬ (e10 d) = 2) (h2 : (e10 (F_X10_take bs n d (10) ((e9 d)) ((-1)))) = 0) : F_X10_readRest_p256 bs n d x1 x2 = ((e0 (F_X10_number_4 bs n (F_X10_take bs n d (10) ((e9 d)) ((-1)))).1), (e1 (F_X10_number_4 bs n (F_X10_take bs n d (10) ((e9 d)) ((-1)))).1), (e2 (F_X10_number_4 bs n (F_X10_take bs n d (10) ((e9 d)) ((-1)))).1), (e3 (F_X10_number_4 bs n (F_X10_take bs n d (10) ((e9 d)) ((-1)))).1), (e4 (F_X10_number_4 bs n (F_X10_take bs n d (10) ((e9 d)) ((-1)))).1), (e5 (F_X10_number_4 bs n (F_X10_take bs n d (10) ((e9 d)) ((-1)))).1), (e6 (F_X10_number_4 bs n (F_X10_take bs n d (10) ((e9 d)) ((-1)))).1), (e7 (F_X10_number_4 bs n (F_X10_take bs n d (10) ((e9 d)) ((-1)))).1), (e8 (F_X10_number_4 bs n (F_X10_take bs n d (10) ((e9 d)) ((-1)))).1), (e9 (F_X10_number_4 bs n (F_X10_take bs n d (10) ((e9 d)) ((-1)))).1), (e10 (F_X10_number_4 bs n (F_X10_take bs n d (10) ((e9 d)) ((-1)))).1), (e11 (F_X10_number_4 bs n (F_X10_take bs n d (10) ((e9 d)) ((-1)))).1), (F_X10_number_4 bs n (F_X10_take bs n d (10) ((e9 d)) ((-1)))).2) := by unfold F_X10_readRest_p256; exact Eq.trans (if_neg h0) (Eq.trans (if_neg h1) (if_pos h2))
theorem q_X10_readRest_p256_5 {bs : Nat → Int32} {n : Int32} {d : DD} {x1 : Int32} {x2 : Int32} (h0 : ¬ (e10 d) = 0) (h1 : ¬ (e10 d) = 2) (h2 : ¬ (e10 (F_X10_take bs n d (10) ((e9 d)) ((-1)))) = 0) : F_X10_readRest_p256 bs n d x1 x2 = ((e0 (F_X10_take bs n d (10) ((e9 d)) ((-1)))), (e1 (F_X10_take bs n d (10) ((e9 d)) ((-1)))), (e2 (F_X10_take bs n d (10) ((e9 d)) ((-1)))), (e3 (F_X10_take bs n d (10) ((e9 d)) ((-1)))), (e4 (F_X10_take bs n d (10) ((e9 d)) ((-1)))), (e5 (F_X10_take bs n d (10) ((e9 d)) ((-1)))), (e6 (F_X10_take bs n d (10) ((e9 d)) ((-1)))), (e7 (F_X10_take bs n d (10) ((e9 d)) ((-1)))), (e8 (F_X10_take bs n d (10) ((e9 d)) ((-1)))), (e9 (F_X10_take bs n d (10) ((e9 d)) ((-1)))), (e10 (F_X10_take bs n d (10) ((e9 d)) ((-1)))), (e11 (F_X10_take bs n d (10) ((e9 d)) ((-1)))), 0) := by unfold F_X10_readRest_p256; exact Eq.trans (if_neg h0) (Eq.trans (if_neg h1) (if_neg h2))
set_option maxHeartbeats 40000000 in
theorem ce_X10_readRest_p256 {xi : SX} {S : Hp} {E : List Nat} {kc nc : Nat} {P : Po} {o0 : Nat} {x1 : Int32} {x2 : Int32} {bs : Nat → Int32} {n : Int32} (hG : GI S E) (h0 : Oa S E 10 0 o0) (hb : BR S E o0 bs n) (hP : ∀ r T x y, PV E [654, 655, 657, 658, 659, 662, 672, 673, 674, 675, 9998] S kc nc rV (fun v T => StR T o0 = F_X10_readRest_p256 bs n (StR S o0) x1 x2) [] r T x y → P r T x y) : TT xi M_X10_readRest 256 [(0, .ref o0), (1, .int x1), (2, .int x2)] [] S kc nc P := by
  have hA : Af E [654, 655, 657, 658, 659, 662, 672, 673, 674, 675, 9998] S S := af_rf
  refine tt_aload_n (j := 0) dX10_readRest_256 rfl ?_
  refine tt_aload_n (j := 0) dX10_readRest_257 rfl ?_
  refine gt_gI (id := 674) (v := (e10 (StR S o0))) dX10_readRest_258 fl_10_94 rfl rfl h0 hA (sR_674 (T := S) (o := o0) rfl) ?_
  refine tt_if_ne (tgt := 269) dX10_readRest_261 rfl (fun q101 => ?_) (fun q101 => ?_)
  · skip
    have h102 : Rg 1 7 (e10 (StR S o0)) := rg_ne_lo (gi_I (k := 674) hG h0 0 7) (⟨by decide, by decide⟩ : Rg 0 0 0) q101
    refine tt_aload_n (j := 0) dX10_readRest_269 rfl ?_
    refine gt_gI (id := 674) (v := (e10 (StR S o0))) dX10_readRest_270 fl_10_94 rfl rfl h0 hA (sR_674 (T := S) (o := o0) rfl) ?_
    refine tt_iconst (v := 2) dX10_readRest_273 rfl ?_
    refine tt_icmp_ne (tgt := 282) dX10_readRest_274 rfl (fun q103 => ?_) (fun q103 => ?_)
    · skip
      refine tt_bipush (v := 10) dX10_readRest_282 rfl ?_
      refine tt_aload_n (j := 0) dX10_readRest_284 rfl ?_
      refine gt_gI (id := 673) (v := (e9 (StR S o0))) dX10_readRest_285 fl_10_100 rfl rfl h0 hA (sR_673 (T := S) (o := o0) rfl) ?_
      refine tt_iconst (v := (-1)) dX10_readRest_288 rfl ?_
      refine gt_Vv (As := [.int 10, .int (e9 (StR S o0)), .int (-1)]) dX10_readRest_289 ca_X10_123 ⟨by decide, by decide⟩ h0 hA rfl (Nat.le_of_ble_eq_true rfl) (Nat.le_of_ble_eq_true rfl) (by decide) (ce_X10_take hG (oa_af h0 hA) (br_af hb h0 hA) (fun _ _ _ _ h => h)) rfl (fun _ h => nomatch h) (fun S104 hx108 hG105 hB106 hA107 => ?_)
      obtain ⟨d109, hd110⟩ : ∃ q, F_X10_take bs n (StR S o0) (10) ((e9 (StR S o0))) ((-1)) = q := ⟨_, rfl⟩
      have hq111 := (congrArg (fun q => F_X10_take bs n q (10) ((e9 (StR S o0))) ((-1))) (stR_mk (sR_654 (T := S) (o := o0) rfl) (sR_655 (T := S) (o := o0) rfl) (sR_656 (T := S) (o := o0) rfl) (sR_657 (T := S) (o := o0) rfl) (sR_658 (T := S) (o := o0) rfl) (sR_659 (T := S) (o := o0) rfl) (sR_661 (T := S) (o := o0) rfl) (sR_662 (T := S) (o := o0) rfl) (sR_672 (T := S) (o := o0) rfl) (sR_673 (T := S) (o := o0) rfl) (sR_674 (T := S) (o := o0) rfl) (sR_675 (T := S) (o := o0) rfl) (sR_660 (T := S) (o := o0) rfl))).trans hd110
      have hs112 := hx108.trans hq111
      refine tt_aload_n (j := 0) dX10_readRest_292 rfl ?_
      refine tt_aload_n (j := 0) dX10_readRest_293 rfl ?_
      refine gt_gI (id := 674) (v := (e10 d109)) dX10_readRest_294 fl_10_94 rfl rfl h0 hA107 (sR_674 hs112) ?_
      refine tt_if_ne (tgt := 308) dX10_readRest_297 rfl (fun q113 => ?_) (fun q113 => ?_)
      · skip
        refine tt_lconst (v := 0) dX10_readRest_308 rfl ?_
        refine gt_pJ (id := 660) (x := 0) dX10_readRest_309 fl_10_116 rfl rfl h0 hA107 rfl rfl rfl hG105 (fun S114 hG115 hA116 e117 f118 er119 => ?_)
        refine tt_goto (tgt := 766) dX10_readRest_312 rfl ?_
        have hF : F_X10_readRest_p256 bs n (StR S o0) x1 x2 = ((e0 d109), (e1 d109), (e2 d109), (e3 d109), (e4 d109), (e5 d109), (e6 d109), (e7 d109), (e8 d109), (e9 d109), (e10 d109), (e11 d109), 0) := by
          subst hd110
          exact q_X10_readRest_p256_5 q101 q103 q113
        exact tt_vreturn dX10_readRest_766 rfl (hP _ _ _ _ ⟨hG115, hA116, Or.inl ⟨_, rfl, rfl, Eq.trans (stR_mk ((congrFun (congrFun e117 654) o0).trans (sR_654 hs112)) ((congrFun (congrFun e117 655) o0).trans (sR_655 hs112)) ((congrFun (congrFun e117 656) o0).trans (sR_656 hs112)) ((congrFun (congrFun e117 657) o0).trans (sR_657 hs112)) ((congrFun (congrFun e117 658) o0).trans (sR_658 hs112)) ((congrFun (congrFun e117 659) o0).trans (sR_659 hs112)) ((congrFun (congrFun e117 661) o0).trans (sR_661 hs112)) ((congrFun (congrFun e117 662) o0).trans (sR_662 hs112)) ((congrFun (congrFun e117 672) o0).trans (sR_672 hs112)) ((congrFun (congrFun e117 673) o0).trans (sR_673 hs112)) ((congrFun (congrFun e117 674) o0).trans (sR_674 hs112)) ((congrFun (congrFun e117 675) o0).trans (sR_675 hs112)) (by rw [f118]; exact up2_self)) hF.symm, rfl, rfl⟩⟩)
      · skip
        have h120 : Rg 0 0 (e10 d109) := rg_eq_l (rg_all (e10 d109)) (⟨by decide, by decide⟩ : Rg 0 0 0) q113
        refine tt_aload_n (j := 0) dX10_readRest_300 rfl ?_
        refine tt_iconst (v := 4) dX10_readRest_301 rfl ?_
        refine gt_VJ (As := [.int 4]) dX10_readRest_302 ca_X10_103 ⟨by decide, by decide⟩ h0 hA107 rfl (Nat.le_of_ble_eq_true rfl) (Nat.le_of_ble_eq_true rfl) (by decide) (ce_X10_number_4 hG105 (oa_af h0 hA107) (br_af hb h0 hA107) (fun _ _ _ _ h => h)) rfl (fun _ h => nomatch h) (fun S121 y130 hx125 hG122 hB123 hA124 => ?_)
        obtain ⟨d126, hd127⟩ : ∃ q, F_X10_number_4 bs n d109  = q := ⟨_, rfl⟩
        have hq128 := (congrArg (fun q => F_X10_number_4 bs n q ) (stR_mk (sR_654 hs112) (sR_655 hs112) (sR_656 hs112) (sR_657 hs112) (sR_658 hs112) (sR_659 hs112) (sR_661 hs112) (sR_662 hs112) (sR_672 hs112) (sR_673 hs112) (sR_674 hs112) (sR_675 hs112) (sR_660 hs112))).trans hd127
        have hs129 := hx125.2.trans (congrArg Prod.fst hq128)
        obtain rfl : y130 = d126.2 := (xjR_v hx125).trans (congrArg Prod.snd hq128)
        refine tt_goto (tgt := 309) dX10_readRest_305 rfl ?_
        refine gt_pJ (id := 660) (x := d126.2) dX10_readRest_309 fl_10_116 rfl rfl h0 hA124 rfl rfl rfl hG122 (fun S131 hG132 hA133 e134 f135 er136 => ?_)
        refine tt_goto (tgt := 766) dX10_readRest_312 rfl ?_
        have hF : F_X10_readRest_p256 bs n (StR S o0) x1 x2 = ((e0 d126.1), (e1 d126.1), (e2 d126.1), (e3 d126.1), (e4 d126.1), (e5 d126.1), (e6 d126.1), (e7 d126.1), (e8 d126.1), (e9 d126.1), (e10 d126.1), (e11 d126.1), d126.2) := by
          subst hd127
          subst hd110
          exact q_X10_readRest_p256_4 q101 q103 q113
        exact tt_vreturn dX10_readRest_766 rfl (hP _ _ _ _ ⟨hG132, hA133, Or.inl ⟨_, rfl, rfl, Eq.trans (stR_mk ((congrFun (congrFun e134 654) o0).trans (sR_654 hs129)) ((congrFun (congrFun e134 655) o0).trans (sR_655 hs129)) ((congrFun (congrFun e134 656) o0).trans (sR_656 hs129)) ((congrFun (congrFun e134 657) o0).trans (sR_657 hs129)) ((congrFun (congrFun e134 658) o0).trans (sR_658 hs129)) ((congrFun (congrFun e134 659) o0).trans (sR_659 hs129)) ((congrFun (congrFun e134 661) o0).trans (sR_661 hs129)) ((congrFun (congrFun e134 662) o0).trans (sR_662 hs129)) ((congrFun (congrFun e134 672) o0).trans (sR_672 hs129)) ((congrFun (congrFun e134 673) o0).trans (sR_673 hs129)) ((congrFun (congrFun e134 674) o0).trans (sR_674 hs129)) ((congrFun (congrFun e134 675) o0).trans (sR_675 hs129)) (by rw [f135]; exact up2_self)) hF.symm, rfl, rfl⟩⟩)
    · skip
      have h137 : Rg 2 2 (e10 (StR S o0)) := rg_eq_l h102 (⟨by decide, by decide⟩ : Rg 2 2 2) q103
      refine tt_bipush (v := 9) dX10_readRest_277 rfl ?_
      refine tt_goto (tgt := 284) dX10_readRest_279 rfl ?_
      refine tt_aload_n (j := 0) dX10_readRest_284 rfl ?_
      refine gt_gI (id := 673) (v := (e9 (StR S o0))) dX10_readRest_285 fl_10_100 rfl rfl h0 hA (sR_673 (T := S) (o := o0) rfl) ?_
      refine tt_iconst (v := (-1)) dX10_readRest_288 rfl ?_
      refine gt_Vv (As := [.int 9, .int (e9 (StR S o0)), .int (-1)]) dX10_readRest_289 ca_X10_123 ⟨by decide, by decide⟩ h0 hA rfl (Nat.le_of_ble_eq_true rfl) (Nat.le_of_ble_eq_true rfl) (by decide) (ce_X10_take hG (oa_af h0 hA) (br_af hb h0 hA) (fun _ _ _ _ h => h)) rfl (fun _ h => nomatch h) (fun S138 hx142 hG139 hB140 hA141 => ?_)
      obtain ⟨d143, hd144⟩ : ∃ q, F_X10_take bs n (StR S o0) (9) ((e9 (StR S o0))) ((-1)) = q := ⟨_, rfl⟩
      have hq145 := (congrArg (fun q => F_X10_take bs n q (9) ((e9 (StR S o0))) ((-1))) (stR_mk (sR_654 (T := S) (o := o0) rfl) (sR_655 (T := S) (o := o0) rfl) (sR_656 (T := S) (o := o0) rfl) (sR_657 (T := S) (o := o0) rfl) (sR_658 (T := S) (o := o0) rfl) (sR_659 (T := S) (o := o0) rfl) (sR_661 (T := S) (o := o0) rfl) (sR_662 (T := S) (o := o0) rfl) (sR_672 (T := S) (o := o0) rfl) (sR_673 (T := S) (o := o0) rfl) (sR_674 (T := S) (o := o0) rfl) (sR_675 (T := S) (o := o0) rfl) (sR_660 (T := S) (o := o0) rfl))).trans hd144
      have hs146 := hx142.trans hq145
      refine tt_aload_n (j := 0) dX10_readRest_292 rfl ?_
      refine tt_aload_n (j := 0) dX10_readRest_293 rfl ?_
      refine gt_gI (id := 674) (v := (e10 d143)) dX10_readRest_294 fl_10_94 rfl rfl h0 hA141 (sR_674 hs146) ?_
      refine tt_if_ne (tgt := 308) dX10_readRest_297 rfl (fun q147 => ?_) (fun q147 => ?_)
      · skip
        refine tt_lconst (v := 0) dX10_readRest_308 rfl ?_
        refine gt_pJ (id := 660) (x := 0) dX10_readRest_309 fl_10_116 rfl rfl h0 hA141 rfl rfl rfl hG139 (fun S148 hG149 hA150 e151 f152 er153 => ?_)
        refine tt_goto (tgt := 766) dX10_readRest_312 rfl ?_
        have hF : F_X10_readRest_p256 bs n (StR S o0) x1 x2 = ((e0 d143), (e1 d143), (e2 d143), (e3 d143), (e4 d143), (e5 d143), (e6 d143), (e7 d143), (e8 d143), (e9 d143), (e10 d143), (e11 d143), 0) := by
          subst hd144
          exact q_X10_readRest_p256_3 q101 q103 q147
        exact tt_vreturn dX10_readRest_766 rfl (hP _ _ _ _ ⟨hG149, hA150, Or.inl ⟨_, rfl, rfl, Eq.trans (stR_mk ((congrFun (congrFun e151 654) o0).trans (sR_654 hs146)) ((congrFun (congrFun e151 655) o0).trans (sR_655 hs146)) ((congrFun (congrFun e151 656) o0).trans (sR_656 hs146)) ((congrFun (congrFun e151 657) o0).trans (sR_657 hs146)) ((congrFun (congrFun e151 658) o0).trans (sR_658 hs146)) ((congrFun (congrFun e151 659) o0).trans (sR_659 hs146)) ((congrFun (congrFun e151 661) o0).trans (sR_661 hs146)) ((congrFun (congrFun e151 662) o0).trans (sR_662 hs146)) ((congrFun (congrFun e151 672) o0).trans (sR_672 hs146)) ((congrFun (congrFun e151 673) o0).trans (sR_673 hs146)) ((congrFun (congrFun e151 674) o0).trans (sR_674 hs146)) ((congrFun (congrFun e151 675) o0).trans (sR_675 hs146)) (by rw [f152]; exact up2_self)) hF.symm, rfl, rfl⟩⟩)
      · skip
        have h154 : Rg 0 0 (e10 d143) := rg_eq_l (rg_all (e10 d143)) (⟨by decide, by decide⟩ : Rg 0 0 0) q147
        refine tt_aload_n (j := 0) dX10_readRest_300 rfl ?_
        refine tt_iconst (v := 4) dX10_readRest_301 rfl ?_
        refine gt_VJ (As := [.int 4]) dX10_readRest_302 ca_X10_103 ⟨by decide, by decide⟩ h0 hA141 rfl (Nat.le_of_ble_eq_true rfl) (Nat.le_of_ble_eq_true rfl) (by decide) (ce_X10_number_4 hG139 (oa_af h0 hA141) (br_af hb h0 hA141) (fun _ _ _ _ h => h)) rfl (fun _ h => nomatch h) (fun S155 y164 hx159 hG156 hB157 hA158 => ?_)
        obtain ⟨d160, hd161⟩ : ∃ q, F_X10_number_4 bs n d143  = q := ⟨_, rfl⟩
        have hq162 := (congrArg (fun q => F_X10_number_4 bs n q ) (stR_mk (sR_654 hs146) (sR_655 hs146) (sR_656 hs146) (sR_657 hs146) (sR_658 hs146) (sR_659 hs146) (sR_661 hs146) (sR_662 hs146) (sR_672 hs146) (sR_673 hs146) (sR_674 hs146) (sR_675 hs146) (sR_660 hs146))).trans hd161
        have hs163 := hx159.2.trans (congrArg Prod.fst hq162)
        obtain rfl : y164 = d160.2 := (xjR_v hx159).trans (congrArg Prod.snd hq162)
        refine tt_goto (tgt := 309) dX10_readRest_305 rfl ?_
        refine gt_pJ (id := 660) (x := d160.2) dX10_readRest_309 fl_10_116 rfl rfl h0 hA158 rfl rfl rfl hG156 (fun S165 hG166 hA167 e168 f169 er170 => ?_)
        refine tt_goto (tgt := 766) dX10_readRest_312 rfl ?_
        have hF : F_X10_readRest_p256 bs n (StR S o0) x1 x2 = ((e0 d160.1), (e1 d160.1), (e2 d160.1), (e3 d160.1), (e4 d160.1), (e5 d160.1), (e6 d160.1), (e7 d160.1), (e8 d160.1), (e9 d160.1), (e10 d160.1), (e11 d160.1), d160.2) := by
          subst hd161
          subst hd144
          exact q_X10_readRest_p256_2 q101 q103 q147
        exact tt_vreturn dX10_readRest_766 rfl (hP _ _ _ _ ⟨hG166, hA167, Or.inl ⟨_, rfl, rfl, Eq.trans (stR_mk ((congrFun (congrFun e168 654) o0).trans (sR_654 hs163)) ((congrFun (congrFun e168 655) o0).trans (sR_655 hs163)) ((congrFun (congrFun e168 656) o0).trans (sR_656 hs163)) ((congrFun (congrFun e168 657) o0).trans (sR_657 hs163)) ((congrFun (congrFun e168 658) o0).trans (sR_658 hs163)) ((congrFun (congrFun e168 659) o0).trans (sR_659 hs163)) ((congrFun (congrFun e168 661) o0).trans (sR_661 hs163)) ((congrFun (congrFun e168 662) o0).trans (sR_662 hs163)) ((congrFun (congrFun e168 672) o0).trans (sR_672 hs163)) ((congrFun (congrFun e168 673) o0).trans (sR_673 hs163)) ((congrFun (congrFun e168 674) o0).trans (sR_674 hs163)) ((congrFun (congrFun e168 675) o0).trans (sR_675 hs163)) (by rw [f169]; exact up2_self)) hF.symm, rfl, rfl⟩⟩)
  · skip
    have h171 : Rg 0 0 (e10 (StR S o0)) := rg_eq_l (gi_I (k := 674) hG h0 0 7) (⟨by decide, by decide⟩ : Rg 0 0 0) q101
    refine tt_bipush (v := 8) dX10_readRest_264 rfl ?_
    refine tt_goto (tgt := 284) dX10_readRest_266 rfl ?_
    refine tt_aload_n (j := 0) dX10_readRest_284 rfl ?_
    refine gt_gI (id := 673) (v := (e9 (StR S o0))) dX10_readRest_285 fl_10_100 rfl rfl h0 hA (sR_673 (T := S) (o := o0) rfl) ?_
    refine tt_iconst (v := (-1)) dX10_readRest_288 rfl ?_
    refine gt_Vv (As := [.int 8, .int (e9 (StR S o0)), .int (-1)]) dX10_readRest_289 ca_X10_123 ⟨by decide, by decide⟩ h0 hA rfl (Nat.le_of_ble_eq_true rfl) (Nat.le_of_ble_eq_true rfl) (by decide) (ce_X10_take hG (oa_af h0 hA) (br_af hb h0 hA) (fun _ _ _ _ h => h)) rfl (fun _ h => nomatch h) (fun S172 hx176 hG173 hB174 hA175 => ?_)
    obtain ⟨d177, hd178⟩ : ∃ q, F_X10_take bs n (StR S o0) (8) ((e9 (StR S o0))) ((-1)) = q := ⟨_, rfl⟩
    have hq179 := (congrArg (fun q => F_X10_take bs n q (8) ((e9 (StR S o0))) ((-1))) (stR_mk (sR_654 (T := S) (o := o0) rfl) (sR_655 (T := S) (o := o0) rfl) (sR_656 (T := S) (o := o0) rfl) (sR_657 (T := S) (o := o0) rfl) (sR_658 (T := S) (o := o0) rfl) (sR_659 (T := S) (o := o0) rfl) (sR_661 (T := S) (o := o0) rfl) (sR_662 (T := S) (o := o0) rfl) (sR_672 (T := S) (o := o0) rfl) (sR_673 (T := S) (o := o0) rfl) (sR_674 (T := S) (o := o0) rfl) (sR_675 (T := S) (o := o0) rfl) (sR_660 (T := S) (o := o0) rfl))).trans hd178
    have hs180 := hx176.trans hq179
    refine tt_aload_n (j := 0) dX10_readRest_292 rfl ?_
    refine tt_aload_n (j := 0) dX10_readRest_293 rfl ?_
    refine gt_gI (id := 674) (v := (e10 d177)) dX10_readRest_294 fl_10_94 rfl rfl h0 hA175 (sR_674 hs180) ?_
    refine tt_if_ne (tgt := 308) dX10_readRest_297 rfl (fun q181 => ?_) (fun q181 => ?_)
    · skip
      refine tt_lconst (v := 0) dX10_readRest_308 rfl ?_
      refine gt_pJ (id := 660) (x := 0) dX10_readRest_309 fl_10_116 rfl rfl h0 hA175 rfl rfl rfl hG173 (fun S182 hG183 hA184 e185 f186 er187 => ?_)
      refine tt_goto (tgt := 766) dX10_readRest_312 rfl ?_
      have hF : F_X10_readRest_p256 bs n (StR S o0) x1 x2 = ((e0 d177), (e1 d177), (e2 d177), (e3 d177), (e4 d177), (e5 d177), (e6 d177), (e7 d177), (e8 d177), (e9 d177), (e10 d177), (e11 d177), 0) := by
        subst hd178
        exact q_X10_readRest_p256_1 q101 q181
      exact tt_vreturn dX10_readRest_766 rfl (hP _ _ _ _ ⟨hG183, hA184, Or.inl ⟨_, rfl, rfl, Eq.trans (stR_mk ((congrFun (congrFun e185 654) o0).trans (sR_654 hs180)) ((congrFun (congrFun e185 655) o0).trans (sR_655 hs180)) ((congrFun (congrFun e185 656) o0).trans (sR_656 hs180)) ((congrFun (congrFun e185 657) o0).trans (sR_657 hs180)) ((congrFun (congrFun e185 658) o0).trans (sR_658 hs180)) ((congrFun (congrFun e185 659) o0).trans (sR_659 hs180)) ((congrFun (congrFun e185 661) o0).trans (sR_661 hs180)) ((congrFun (congrFun e185 662) o0).trans (sR_662 hs180)) ((congrFun (congrFun e185 672) o0).trans (sR_672 hs180)) ((congrFun (congrFun e185 673) o0).trans (sR_673 hs180)) ((congrFun (congrFun e185 674) o0).trans (sR_674 hs180)) ((congrFun (congrFun e185 675) o0).trans (sR_675 hs180)) (by rw [f186]; exact up2_self)) hF.symm, rfl, rfl⟩⟩)
    · skip
      have h188 : Rg 0 0 (e10 d177) := rg_eq_l (rg_all (e10 d177)) (⟨by decide, by decide⟩ : Rg 0 0 0) q181
      refine tt_aload_n (j := 0) dX10_readRest_300 rfl ?_
      refine tt_iconst (v := 4) dX10_readRest_301 rfl ?_
      refine gt_VJ (As := [.int 4]) dX10_readRest_302 ca_X10_103 ⟨by decide, by decide⟩ h0 hA175 rfl (Nat.le_of_ble_eq_true rfl) (Nat.le_of_ble_eq_true rfl) (by decide) (ce_X10_number_4 hG173 (oa_af h0 hA175) (br_af hb h0 hA175) (fun _ _ _ _ h => h)) rfl (fun _ h => nomatch h) (fun S189 y198 hx193 hG190 hB191 hA192 => ?_)
      obtain ⟨d194, hd195⟩ : ∃ q, F_X10_number_4 bs n d177  = q := ⟨_, rfl⟩
      have hq196 := (congrArg (fun q => F_X10_number_4 bs n q ) (stR_mk (sR_654 hs180) (sR_655 hs180) (sR_656 hs180) (sR_657 hs180) (sR_658 hs180) (sR_659 hs180) (sR_661 hs180) (sR_662 hs180) (sR_672 hs180) (sR_673 hs180) (sR_674 hs180) (sR_675 hs180) (sR_660 hs180))).trans hd195
      have hs197 := hx193.2.trans (congrArg Prod.fst hq196)
      obtain rfl : y198 = d194.2 := (xjR_v hx193).trans (congrArg Prod.snd hq196)
      refine tt_goto (tgt := 309) dX10_readRest_305 rfl ?_
      refine gt_pJ (id := 660) (x := d194.2) dX10_readRest_309 fl_10_116 rfl rfl h0 hA192 rfl rfl rfl hG190 (fun S199 hG200 hA201 e202 f203 er204 => ?_)
      refine tt_goto (tgt := 766) dX10_readRest_312 rfl ?_
      have hF : F_X10_readRest_p256 bs n (StR S o0) x1 x2 = ((e0 d194.1), (e1 d194.1), (e2 d194.1), (e3 d194.1), (e4 d194.1), (e5 d194.1), (e6 d194.1), (e7 d194.1), (e8 d194.1), (e9 d194.1), (e10 d194.1), (e11 d194.1), d194.2) := by
        subst hd195
        subst hd178
        exact q_X10_readRest_p256_0 q101 q181
      exact tt_vreturn dX10_readRest_766 rfl (hP _ _ _ _ ⟨hG200, hA201, Or.inl ⟨_, rfl, rfl, Eq.trans (stR_mk ((congrFun (congrFun e202 654) o0).trans (sR_654 hs197)) ((congrFun (congrFun e202 655) o0).trans (sR_655 hs197)) ((congrFun (congrFun e202 656) o0).trans (sR_656 hs197)) ((congrFun (congrFun e202 657) o0).trans (sR_657 hs197)) ((congrFun (congrFun e202 658) o0).trans (sR_658 hs197)) ((congrFun (congrFun e202 659) o0).trans (sR_659 hs197)) ((congrFun (congrFun e202 661) o0).trans (sR_661 hs197)) ((congrFun (congrFun e202 662) o0).trans (sR_662 hs197)) ((congrFun (congrFun e202 672) o0).trans (sR_672 hs197)) ((congrFun (congrFun e202 673) o0).trans (sR_673 hs197)) ((congrFun (congrFun e202 674) o0).trans (sR_674 hs197)) ((congrFun (congrFun e202 675) o0).trans (sR_675 hs197)) (by rw [f203]; exact up2_self)) hF.symm, rfl, rfl⟩⟩)
def F_X10_readRest_p219 (bs : Nat → Int32) (n : Int32) (d : DD) (x1 : Int32) (x2 : Int32) : DD :=
  let d106 := F_X10_readPlaces bs n d (x2)
  if (e7 d106) = 0 then
    if (e10 d106) = 1 then
      F_X10_readRest_p256 bs n ((e0 d106), (e1 d106), (e2 d106), (e3 d106), (e4 d106), (e5 d106), (e6 d106), 1, (e8 d106), (e9 d106), (e10 d106), (e11 d106), (eJ d106)) (x1) (x2)
    else
      if (e10 d106) ≤ 3 then
        F_X10_readRest_p256 bs n ((e0 d106), (e1 d106), (e2 d106), (e3 d106), (e4 d106), (e5 d106), (e6 d106), 0, (e8 d106), (e9 d106), (e10 d106), (e11 d106), (eJ d106)) (x1) (x2)
      else
        F_X10_readRest_p256 bs n ((e0 d106), (e1 d106), (e2 d106), (e3 d106), (e4 d106), (e5 d106), (e6 d106), 1, (e8 d106), (e9 d106), (e10 d106), (e11 d106), (eJ d106)) (x1) (x2)
  else
    F_X10_readRest_p256 bs n ((e0 d106), (e1 d106), (e2 d106), (e3 d106), (e4 d106), (e5 d106), (e6 d106), 1, (e8 d106), (e9 d106), (e10 d106), (e11 d106), (eJ d106)) (x1) (x2)
theorem q_X10_readRest_p219_0 {bs : Nat → Int32} {n : Int32} {d : DD} {x1 : Int32} {x2 : Int32} (h0 : (e7 (F_X10_readPlaces bs n d (x2))) = 0) (h1 : (e10 (F_X10_readPlaces bs n d (x2))) = 1) : F_X10_readRest_p219 bs n d x1 x2 = F_X10_readRest_p256 bs n ((e0 (F_X10_readPlaces bs n d (x2))), (e1 (F_X10_readPlaces bs n d (x2))), (e2 (F_X10_readPlaces bs n d (x2))), (e3 (F_X10_readPlaces bs n d (x2))), (e4 (F_X10_readPlaces bs n d (x2))), (e5 (F_X10_readPlaces bs n d (x2))), (e6 (F_X10_readPlaces bs n d (x2))), 1, (e8 (F_X10_readPlaces bs n d (x2))), (e9 (F_X10_readPlaces bs n d (x2))), (e10 (F_X10_readPlaces bs n d (x2))), (e11 (F_X10_readPlaces bs n d (x2))), (eJ (F_X10_readPlaces bs n d (x2)))) (x1) (x2) := by unfold F_X10_readRest_p219; exact Eq.trans (if_pos h0) (if_pos h1)
theorem q_X10_readRest_p219_1 {bs : Nat → Int32} {n : Int32} {d : DD} {x1 : Int32} {x2 : Int32} (h0 : (e7 (F_X10_readPlaces bs n d (x2))) = 0) (h1 : ¬ (e10 (F_X10_readPlaces bs n d (x2))) = 1) (h2 : (e10 (F_X10_readPlaces bs n d (x2))) ≤ 3) : F_X10_readRest_p219 bs n d x1 x2 = F_X10_readRest_p256 bs n ((e0 (F_X10_readPlaces bs n d (x2))), (e1 (F_X10_readPlaces bs n d (x2))), (e2 (F_X10_readPlaces bs n d (x2))), (e3 (F_X10_readPlaces bs n d (x2))), (e4 (F_X10_readPlaces bs n d (x2))), (e5 (F_X10_readPlaces bs n d (x2))), (e6 (F_X10_readPlaces bs n d (x2))), 0, (e8 (F_X10_readPlaces bs n d (x2))), (e9 (F_X10_readPlaces bs n d (x2))), (e10 (F_X10_readPlaces bs n d (x2))), (e11 (F_X10_readPlaces bs n d (x2))), (eJ (F_X10_readPlaces bs n d (x2)))) (x1) (x2) := by unfold F_X10_readRest_p219; exact Eq.trans (if_pos h0) (Eq.trans (if_neg h1) (if_pos h2))
theorem q_X10_readRest_p219_2 {bs : Nat → Int32} {n : Int32} {d : DD} {x1 : Int32} {x2 : Int32} (h0 : (e7 (F_X10_readPlaces bs n d (x2))) = 0) (h1 : ¬ (e10 (F_X10_readPlaces bs n d (x2))) = 1) (h2 : ¬ (e10 (F_X10_readPlaces bs n d (x2))) ≤ 3) : F_X10_readRest_p219 bs n d x1 x2 = F_X10_readRest_p256 bs n ((e0 (F_X10_readPlaces bs n d (x2))), (e1 (F_X10_readPlaces bs n d (x2))), (e2 (F_X10_readPlaces bs n d (x2))), (e3 (F_X10_readPlaces bs n d (x2))), (e4 (F_X10_readPlaces bs n d (x2))), (e5 (F_X10_readPlaces bs n d (x2))), (e6 (F_X10_readPlaces bs n d (x2))), 1, (e8 (F_X10_readPlaces bs n d (x2))), (e9 (F_X10_readPlaces bs n d (x2))), (e10 (F_X10_readPlaces bs n d (x2))), (e11 (F_X10_readPlaces bs n d (x2))), (eJ (F_X10_readPlaces bs n d (x2)))) (x1) (x2) := by unfold F_X10_readRest_p219; exact Eq.trans (if_pos h0) (Eq.trans (if_neg h1) (if_neg h2))
theorem q_X10_readRest_p219_3 {bs : Nat → Int32} {n : Int32} {d : DD} {x1 : Int32} {x2 : Int32} (h0 : ¬ (e7 (F_X10_readPlaces bs n d (x2))) = 0) : F_X10_readRest_p219 bs n d x1 x2 = F_X10_readRest_p256 bs n ((e0 (F_X10_readPlaces bs n d (x2))), (e1 (F_X10_readPlaces bs n d (x2))), (e2 (F_X10_readPlaces bs n d (x2))), (e3 (F_X10_readPlaces bs n d (x2))), (e4 (F_X10_readPlaces bs n d (x2))), (e5 (F_X10_readPlaces bs n d (x2))), (e6 (F_X10_readPlaces bs n d (x2))), 1, (e8 (F_X10_readPlaces bs n d (x2))), (e9 (F_X10_readPlaces bs n d (x2))), (e10 (F_X10_readPlaces bs n d (x2))), (e11 (F_X10_readPlaces bs n d (x2))), (eJ (F_X10_readPlaces bs n d (x2)))) (x1) (x2) := by unfold F_X10_readRest_p219; exact if_neg h0
set_option maxHeartbeats 40000000 in
theorem ce_X10_readRest_p219 {xi : SX} {S : Hp} {E : List Nat} {kc nc : Nat} {P : Po} {o0 : Nat} {x1 : Int32} {x2 : Int32} {bs : Nat → Int32} {n : Int32} (hG : GI S E) (h0 : Oa S E 10 0 o0) (hb : BR S E o0 bs n) (hP : ∀ r T x y, PV E [654, 655, 657, 658, 659, 662, 672, 673, 674, 675, 9998] S kc nc rV (fun v T => StR T o0 = F_X10_readRest_p219 bs n (StR S o0) x1 x2) [] r T x y → P r T x y) : TT xi M_X10_readRest 219 [(0, .ref o0), (1, .int x1), (2, .int x2)] [] S kc nc P := by
  have hA : Af E [654, 655, 657, 658, 659, 662, 672, 673, 674, 675, 9998] S S := af_rf
  refine tt_aload_n (j := 0) dX10_readRest_219 rfl ?_
  refine tt_iload_n (j := 2) dX10_readRest_220 rfl ?_
  refine gt_Vv (As := [.int x2]) dX10_readRest_221 ca_X10_137 ⟨by decide, by decide⟩ h0 hA rfl (Nat.le_of_ble_eq_true rfl) (Nat.le_of_ble_eq_true rfl) (by decide) (ce_X10_readPlaces hG (oa_af h0 hA) (br_af hb h0 hA) (fun _ _ _ _ h => h)) rfl (fun _ h => nomatch h) (fun S101 hx105 hG102 hB103 hA104 => ?_)
  obtain ⟨d106, hd107⟩ : ∃ q, F_X10_readPlaces bs n (StR S o0) (x2) = q := ⟨_, rfl⟩
  have hq108 := (congrArg (fun q => F_X10_readPlaces bs n q (x2)) (stR_mk (sR_654 (T := S) (o := o0) rfl) (sR_655 (T := S) (o := o0) rfl) (sR_656 (T := S) (o := o0) rfl) (sR_657 (T := S) (o := o0) rfl) (sR_658 (T := S) (o := o0) rfl) (sR_659 (T := S) (o := o0) rfl) (sR_661 (T := S) (o := o0) rfl) (sR_662 (T := S) (o := o0) rfl) (sR_672 (T := S) (o := o0) rfl) (sR_673 (T := S) (o := o0) rfl) (sR_674 (T := S) (o := o0) rfl) (sR_675 (T := S) (o := o0) rfl) (sR_660 (T := S) (o := o0) rfl))).trans hd107
  have hs109 := hx105.trans hq108
  refine tt_aload_n (j := 0) dX10_readRest_224 rfl ?_
  refine tt_aload_n (j := 0) dX10_readRest_225 rfl ?_
  refine gt_gI (id := 662) (v := (e7 d106)) dX10_readRest_226 fl_10_84 rfl rfl h0 hA104 (sR_662 hs109) ?_
  refine tt_if_ne (tgt := 248) dX10_readRest_229 rfl (fun q110 => ?_) (fun q110 => ?_)
  · skip
    refine tt_iconst (v := 1) dX10_readRest_248 rfl ?_
    refine tt_goto (tgt := 253) dX10_readRest_249 rfl ?_
    refine gt_pI (id := 662) (x := 1) dX10_readRest_253 fl_10_84 rfl rfl h0 hA104 rfl rfl rfl (gp_Ir hG102 (⟨by decide, by decide⟩ : Rg 1 1 1)) (by decide) (fun _ h => absurd (by decide) h) (fun h => absurd h (by decide)) (fun S111 hG112 hA113 e114 f115 er116 => ?_)
    have hF : F_X10_readRest_p219 bs n (StR S o0) x1 x2 = F_X10_readRest_p256 bs n ((e0 d106), (e1 d106), (e2 d106), (e3 d106), (e4 d106), (e5 d106), (e6 d106), 1, (e8 d106), (e9 d106), (e10 d106), (e11 d106), (eJ d106)) (x1) (x2) := by
      subst hd107
      exact q_X10_readRest_p219_3 q110
    exact tt_loc (ks := [0, 1, 2]) rfl (ce_X10_readRest_p256 hG112 (oa_af h0 hA113) (br_af hb h0 hA113) (fun r T x y h => hP r T x y (pv_tr hA113 h (by decide) (fun v T e => e.trans ((congrArg (fun q => F_X10_readRest_p256 bs n q (x1) (x2)) (stR_mk ((congrFun (congrFun e114 654) o0).trans ((congrFun (up2_ne (k := 654)) o0).trans (sR_654 hs109))) ((congrFun (congrFun e114 655) o0).trans ((congrFun (up2_ne (k := 655)) o0).trans (sR_655 hs109))) ((congrFun (congrFun e114 656) o0).trans ((congrFun (up2_ne (k := 656)) o0).trans (sR_656 hs109))) ((congrFun (congrFun e114 657) o0).trans ((congrFun (up2_ne (k := 657)) o0).trans (sR_657 hs109))) ((congrFun (congrFun e114 658) o0).trans ((congrFun (up2_ne (k := 658)) o0).trans (sR_658 hs109))) ((congrFun (congrFun e114 659) o0).trans ((congrFun (up2_ne (k := 659)) o0).trans (sR_659 hs109))) ((congrFun (congrFun e114 661) o0).trans ((congrFun (up2_ne (k := 661)) o0).trans (sR_661 hs109))) (by rw [e114]; exact up2_self) ((congrFun (congrFun e114 672) o0).trans ((congrFun (up2_ne (k := 672)) o0).trans (sR_672 hs109))) ((congrFun (congrFun e114 673) o0).trans ((congrFun (up2_ne (k := 673)) o0).trans (sR_673 hs109))) ((congrFun (congrFun e114 674) o0).trans ((congrFun (up2_ne (k := 674)) o0).trans (sR_674 hs109))) ((congrFun (congrFun e114 675) o0).trans ((congrFun (up2_ne (k := 675)) o0).trans (sR_675 hs109))) ((congrFun (congrFun f115 660) o0).trans (sR_660 hs109)))).trans hF.symm)))))
  · skip
    have h117 : Rg 0 0 (e7 d106) := rg_eq_l (rg_all (e7 d106)) (⟨by decide, by decide⟩ : Rg 0 0 0) q110
    refine tt_aload_n (j := 0) dX10_readRest_232 rfl ?_
    refine gt_gI (id := 674) (v := (e10 d106)) dX10_readRest_233 fl_10_94 rfl rfl h0 hA104 (sR_674 hs109) ?_
    refine tt_iconst (v := 1) dX10_readRest_236 rfl ?_
    refine tt_icmp_eq (tgt := 248) dX10_readRest_237 rfl (fun q118 => ?_) (fun q118 => ?_)
    · skip
      have h119 : Rg 1 1 (e10 d106) := rg_eq_l (rg_all (e10 d106)) (⟨by decide, by decide⟩ : Rg 1 1 1) q118
      refine tt_iconst (v := 1) dX10_readRest_248 rfl ?_
      refine tt_goto (tgt := 253) dX10_readRest_249 rfl ?_
      refine gt_pI (id := 662) (x := 1) dX10_readRest_253 fl_10_84 rfl rfl h0 hA104 rfl rfl rfl (gp_Ir hG102 (⟨by decide, by decide⟩ : Rg 1 1 1)) (by decide) (fun _ h => absurd (by decide) h) (fun h => absurd h (by decide)) (fun S120 hG121 hA122 e123 f124 er125 => ?_)
      have hF : F_X10_readRest_p219 bs n (StR S o0) x1 x2 = F_X10_readRest_p256 bs n ((e0 d106), (e1 d106), (e2 d106), (e3 d106), (e4 d106), (e5 d106), (e6 d106), 1, (e8 d106), (e9 d106), (e10 d106), (e11 d106), (eJ d106)) (x1) (x2) := by
        subst hd107
        exact q_X10_readRest_p219_0 q110 q118
      exact tt_loc (ks := [0, 1, 2]) rfl (ce_X10_readRest_p256 hG121 (oa_af h0 hA122) (br_af hb h0 hA122) (fun r T x y h => hP r T x y (pv_tr hA122 h (by decide) (fun v T e => e.trans ((congrArg (fun q => F_X10_readRest_p256 bs n q (x1) (x2)) (stR_mk ((congrFun (congrFun e123 654) o0).trans ((congrFun (up2_ne (k := 654)) o0).trans (sR_654 hs109))) ((congrFun (congrFun e123 655) o0).trans ((congrFun (up2_ne (k := 655)) o0).trans (sR_655 hs109))) ((congrFun (congrFun e123 656) o0).trans ((congrFun (up2_ne (k := 656)) o0).trans (sR_656 hs109))) ((congrFun (congrFun e123 657) o0).trans ((congrFun (up2_ne (k := 657)) o0).trans (sR_657 hs109))) ((congrFun (congrFun e123 658) o0).trans ((congrFun (up2_ne (k := 658)) o0).trans (sR_658 hs109))) ((congrFun (congrFun e123 659) o0).trans ((congrFun (up2_ne (k := 659)) o0).trans (sR_659 hs109))) ((congrFun (congrFun e123 661) o0).trans ((congrFun (up2_ne (k := 661)) o0).trans (sR_661 hs109))) (by rw [e123]; exact up2_self) ((congrFun (congrFun e123 672) o0).trans ((congrFun (up2_ne (k := 672)) o0).trans (sR_672 hs109))) ((congrFun (congrFun e123 673) o0).trans ((congrFun (up2_ne (k := 673)) o0).trans (sR_673 hs109))) ((congrFun (congrFun e123 674) o0).trans ((congrFun (up2_ne (k := 674)) o0).trans (sR_674 hs109))) ((congrFun (congrFun e123 675) o0).trans ((congrFun (up2_ne (k := 675)) o0).trans (sR_675 hs109))) ((congrFun (congrFun f124 660) o0).trans (sR_660 hs109)))).trans hF.symm)))))
    · skip
      refine tt_aload_n (j := 0) dX10_readRest_240 rfl ?_
      refine gt_gI (id := 674) (v := (e10 d106)) dX10_readRest_241 fl_10_94 rfl rfl h0 hA104 (sR_674 hs109) ?_
      refine tt_iconst (v := 3) dX10_readRest_244 rfl ?_
      refine tt_icmp_le (tgt := 252) dX10_readRest_245 rfl (fun q126 => ?_) (fun q126 => ?_)
      · skip
        have h127 : Rg (-2147483648) 3 (e10 d106) := rg_le_l (rg_all (e10 d106)) (⟨by decide, by decide⟩ : Rg 3 3 3) q126
        refine tt_iconst (v := 0) dX10_readRest_252 rfl ?_
        refine gt_pI (id := 662) (x := 0) dX10_readRest_253 fl_10_84 rfl rfl h0 hA104 rfl rfl rfl (gp_Ir hG102 (⟨by decide, by decide⟩ : Rg 0 0 0)) (by decide) (fun _ h => absurd (by decide) h) (fun h => absurd h (by decide)) (fun S128 hG129 hA130 e131 f132 er133 => ?_)
        have hF : F_X10_readRest_p219 bs n (StR S o0) x1 x2 = F_X10_readRest_p256 bs n ((e0 d106), (e1 d106), (e2 d106), (e3 d106), (e4 d106), (e5 d106), (e6 d106), 0, (e8 d106), (e9 d106), (e10 d106), (e11 d106), (eJ d106)) (x1) (x2) := by
          subst hd107
          exact q_X10_readRest_p219_1 q110 q118 q126
        exact tt_loc (ks := [0, 1, 2]) rfl (ce_X10_readRest_p256 hG129 (oa_af h0 hA130) (br_af hb h0 hA130) (fun r T x y h => hP r T x y (pv_tr hA130 h (by decide) (fun v T e => e.trans ((congrArg (fun q => F_X10_readRest_p256 bs n q (x1) (x2)) (stR_mk ((congrFun (congrFun e131 654) o0).trans ((congrFun (up2_ne (k := 654)) o0).trans (sR_654 hs109))) ((congrFun (congrFun e131 655) o0).trans ((congrFun (up2_ne (k := 655)) o0).trans (sR_655 hs109))) ((congrFun (congrFun e131 656) o0).trans ((congrFun (up2_ne (k := 656)) o0).trans (sR_656 hs109))) ((congrFun (congrFun e131 657) o0).trans ((congrFun (up2_ne (k := 657)) o0).trans (sR_657 hs109))) ((congrFun (congrFun e131 658) o0).trans ((congrFun (up2_ne (k := 658)) o0).trans (sR_658 hs109))) ((congrFun (congrFun e131 659) o0).trans ((congrFun (up2_ne (k := 659)) o0).trans (sR_659 hs109))) ((congrFun (congrFun e131 661) o0).trans ((congrFun (up2_ne (k := 661)) o0).trans (sR_661 hs109))) (by rw [e131]; exact up2_self) ((congrFun (congrFun e131 672) o0).trans ((congrFun (up2_ne (k := 672)) o0).trans (sR_672 hs109))) ((congrFun (congrFun e131 673) o0).trans ((congrFun (up2_ne (k := 673)) o0).trans (sR_673 hs109))) ((congrFun (congrFun e131 674) o0).trans ((congrFun (up2_ne (k := 674)) o0).trans (sR_674 hs109))) ((congrFun (congrFun e131 675) o0).trans ((congrFun (up2_ne (k := 675)) o0).trans (sR_675 hs109))) ((congrFun (congrFun f132 660) o0).trans (sR_660 hs109)))).trans hF.symm)))))
      · skip
        have h134 : Rg 4 2147483647 (e10 d106) := rg_lt_r (⟨by decide, by decide⟩ : Rg 3 3 3) (rg_all (e10 d106)) (nle_lt q126)
        refine tt_iconst (v := 1) dX10_readRest_248 rfl ?_
        refine tt_goto (tgt := 253) dX10_readRest_249 rfl ?_
        refine gt_pI (id := 662) (x := 1) dX10_readRest_253 fl_10_84 rfl rfl h0 hA104 rfl rfl rfl (gp_Ir hG102 (⟨by decide, by decide⟩ : Rg 1 1 1)) (by decide) (fun _ h => absurd (by decide) h) (fun h => absurd h (by decide)) (fun S135 hG136 hA137 e138 f139 er140 => ?_)
        have hF : F_X10_readRest_p219 bs n (StR S o0) x1 x2 = F_X10_readRest_p256 bs n ((e0 d106), (e1 d106), (e2 d106), (e3 d106), (e4 d106), (e5 d106), (e6 d106), 1, (e8 d106), (e9 d106), (e10 d106), (e11 d106), (eJ d106)) (x1) (x2) := by
          subst hd107
          exact q_X10_readRest_p219_2 q110 q118 q126
        exact tt_loc (ks := [0, 1, 2]) rfl (ce_X10_readRest_p256 hG136 (oa_af h0 hA137) (br_af hb h0 hA137) (fun r T x y h => hP r T x y (pv_tr hA137 h (by decide) (fun v T e => e.trans ((congrArg (fun q => F_X10_readRest_p256 bs n q (x1) (x2)) (stR_mk ((congrFun (congrFun e138 654) o0).trans ((congrFun (up2_ne (k := 654)) o0).trans (sR_654 hs109))) ((congrFun (congrFun e138 655) o0).trans ((congrFun (up2_ne (k := 655)) o0).trans (sR_655 hs109))) ((congrFun (congrFun e138 656) o0).trans ((congrFun (up2_ne (k := 656)) o0).trans (sR_656 hs109))) ((congrFun (congrFun e138 657) o0).trans ((congrFun (up2_ne (k := 657)) o0).trans (sR_657 hs109))) ((congrFun (congrFun e138 658) o0).trans ((congrFun (up2_ne (k := 658)) o0).trans (sR_658 hs109))) ((congrFun (congrFun e138 659) o0).trans ((congrFun (up2_ne (k := 659)) o0).trans (sR_659 hs109))) ((congrFun (congrFun e138 661) o0).trans ((congrFun (up2_ne (k := 661)) o0).trans (sR_661 hs109))) (by rw [e138]; exact up2_self) ((congrFun (congrFun e138 672) o0).trans ((congrFun (up2_ne (k := 672)) o0).trans (sR_672 hs109))) ((congrFun (congrFun e138 673) o0).trans ((congrFun (up2_ne (k := 673)) o0).trans (sR_673 hs109))) ((congrFun (congrFun e138 674) o0).trans ((congrFun (up2_ne (k := 674)) o0).trans (sR_674 hs109))) ((congrFun (congrFun e138 675) o0).trans ((congrFun (up2_ne (k := 675)) o0).trans (sR_675 hs109))) ((congrFun (congrFun f139 660) o0).trans (sR_660 hs109)))).trans hF.symm)))))
def F_X10_readRest_p190 (bs : Nat → Int32) (n : Int32) (d : DD) (x1 : Int32) (x2 : Int32) : DD :=
  let d106 := F_X10_readPlaces bs n d (x2)
  let d115 := F_X10_take bs n d106 (8) ((e9 d106)) ((e8 d106))
  d115
theorem q_X10_readRest_p190_0 {bs : Nat → Int32} {n : Int32} {d : DD} {x1 : Int32} {x2 : Int32}  : F_X10_readRest_p190 bs n d x1 x2 = (F_X10_take bs n (F_X10_readPlaces bs n d (x2)) (8) ((e9 (F_X10_readPlaces bs n d (x2)))) ((e8 (F_X10_readPlaces bs n d (x2))))) := rfl
set_option maxHeartbeats 40000000 in
theorem ce_X10_readRest_p190 {xi : SX} {S : Hp} {E : List Nat} {kc nc : Nat} {P : Po} {o0 : Nat} {x1 : Int32} {x2 : Int32} {bs : Nat → Int32} {n : Int32} (hG : GI S E) (h0 : Oa S E 10 0 o0) (hb : BR S E o0 bs n) (hP : ∀ r T x y, PV E [654, 655, 657, 658, 659, 662, 672, 673, 674, 675, 9998] S kc nc rV (fun v T => StR T o0 = F_X10_readRest_p190 bs n (StR S o0) x1 x2) [] r T x y → P r T x y) : TT xi M_X10_readRest 190 [(0, .ref o0), (1, .int x1), (2, .int x2)] [] S kc nc P := by
  have hA : Af E [654, 655, 657, 658, 659, 662, 672, 673, 674, 675, 9998] S S := af_rf
  refine tt_aload_n (j := 0) dX10_readRest_190 rfl ?_
  refine tt_iload_n (j := 2) dX10_readRest_191 rfl ?_
  refine gt_Vv (As := [.int x2]) dX10_readRest_192 ca_X10_137 ⟨by decide, by decide⟩ h0 hA rfl (Nat.le_of_ble_eq_true rfl) (Nat.le_of_ble_eq_true rfl) (by decide) (ce_X10_readPlaces hG (oa_af h0 hA) (br_af hb h0 hA) (fun _ _ _ _ h => h)) rfl (fun _ h => nomatch h) (fun S101 hx105 hG102 hB103 hA104 => ?_)
  obtain ⟨d106, hd107⟩ : ∃ q, F_X10_readPlaces bs n (StR S o0) (x2) = q := ⟨_, rfl⟩
  have hq108 := (congrArg (fun q => F_X10_readPlaces bs n q (x2)) (stR_mk (sR_654 (T := S) (o := o0) rfl) (sR_655 (T := S) (o := o0) rfl) (sR_656 (T := S) (o := o0) rfl) (sR_657 (T := S) (o := o0) rfl) (sR_658 (T := S) (o := o0) rfl) (sR_659 (T := S) (o := o0) rfl) (sR_661 (T := S) (o := o0) rfl) (sR_662 (T := S) (o := o0) rfl) (sR_672 (T := S) (o := o0) rfl) (sR_673 (T := S) (o := o0) rfl) (sR_674 (T := S) (o := o0) rfl) (sR_675 (T := S) (o := o0) rfl) (sR_660 (T := S) (o := o0) rfl))).trans hd107
  have hs109 := hx105.trans hq108
  refine tt_aload_n (j := 0) dX10_readRest_195 rfl ?_
  refine tt_bipush (v := 8) dX10_readRest_196 rfl ?_
  refine tt_aload_n (j := 0) dX10_readRest_198 rfl ?_
  refine gt_gI (id := 673) (v := (e9 d106)) dX10_readRest_199 fl_10_100 rfl rfl h0 hA104 (sR_673 hs109) ?_
  refine tt_aload_n (j := 0) dX10_readRest_202 rfl ?_
  refine gt_gI (id := 672) (v := (e8 d106)) dX10_readRest_203 fl_10_97 rfl rfl h0 hA104 (sR_672 hs109) ?_
  refine gt_Vv (As := [.int 8, .int (e9 d106), .int (e8 d106)]) dX10_readRest_206 ca_X10_123 ⟨by decide, by decide⟩ h0 hA104 rfl (Nat.le_of_ble_eq_true rfl) (Nat.le_of_ble_eq_true rfl) (by decide) (ce_X10_take hG102 (oa_af h0 hA104) (br_af hb h0 hA104) (fun _ _ _ _ h => h)) rfl (fun _ h => nomatch h) (fun S110 hx114 hG111 hB112 hA113 => ?_)
  obtain ⟨d115, hd116⟩ : ∃ q, F_X10_take bs n d106 (8) ((e9 d106)) ((e8 d106)) = q := ⟨_, rfl⟩
  have hq117 := (congrArg (fun q => F_X10_take bs n q (8) ((e9 d106)) ((e8 d106))) (stR_mk (sR_654 hs109) (sR_655 hs109) (sR_656 hs109) (sR_657 hs109) (sR_658 hs109) (sR_659 hs109) (sR_661 hs109) (sR_662 hs109) (sR_672 hs109) (sR_673 hs109) (sR_674 hs109) (sR_675 hs109) (sR_660 hs109))).trans hd116
  have hs118 := hx114.trans hq117
  refine tt_goto (tgt := 766) dX10_readRest_209 rfl ?_
  have hF : F_X10_readRest_p190 bs n (StR S o0) x1 x2 = d115 := by
    subst hd116
    subst hd107
    rfl
  exact tt_vreturn dX10_readRest_766 rfl (hP _ _ _ _ ⟨hG111, hA113, Or.inl ⟨_, rfl, rfl, Eq.trans (stR_mk (sR_654 hs118) (sR_655 hs118) (sR_656 hs118) (sR_657 hs118) (sR_658 hs118) (sR_659 hs118) (sR_661 hs118) (sR_662 hs118) (sR_672 hs118) (sR_673 hs118) (sR_674 hs118) (sR_675 hs118) (sR_660 hs118)) hF.symm, rfl, rfl⟩⟩)
def F_X10_readRest_p147 (bs : Nat → Int32) (n : Int32) (d : DD) (x1 : Int32) (x2 : Int32) : DD :=
  let d106 := F_X10_take bs n d ((e10 d)) ((e9 d)) ((-1))
  if x1 = 129 then
    let d133 := F_X10_number_4 bs n d106 
    ((e0 d133.1), (e1 d133.1), (e2 d133.1), (e3 d133.1), (e4 d133.1), (e5 d133.1), (e6 d133.1), (e7 d133.1), (e8 d133.1), (e9 d133.1), (e10 d133.1), (e11 d133.1), d133.2)
  else
    let d116 := F_X10_number_1 bs n d106 
    ((e0 d116.1), (e1 d116.1), (e2 d116.1), (e3 d116.1), (e4 d116.1), (e5 d116.1), (e6 d116.1), (e7 d116.1), (e8 d116.1), (e9 d116.1), (e10 d116.1), (e11 d116.1), d116.2)
theorem q_X10_readRest_p147_0 {bs : Nat → Int32} {n : Int32} {d : DD} {x1 : Int32} {x2 : Int32} (h0 : x1 = 129) : F_X10_readRest_p147 bs n d x1 x2 = ((e0 (F_X10_number_4 bs n (F_X10_take bs n d ((e10 d)) ((e9 d)) ((-1)))).1), (e1 (F_X10_number_4 bs n (F_X10_take bs n d ((e10 d)) ((e9 d)) ((-1)))).1), (e2 (F_X10_number_4 bs n (F_X10_take bs n d ((e10 d)) ((e9 d)) ((-1)))).1), (e3 (F_X10_number_4 bs n (F_X10_take bs n d ((e10 d)) ((e9 d)) ((-1)))).1), (e4 (F_X10_number_4 bs n (F_X10_take bs n d ((e10 d)) ((e9 d)) ((-1)))).1), (e5 (F_X10_number_4 bs n (F_X10_take bs n d ((e10 d)) ((e9 d)) ((-1)))).1), (e6 (F_X10_number_4 bs n (F_X10_take bs n d ((e10 d)) ((e9 d)) ((-1)))).1), (e7 (F_X10_number_4 bs n (F_X10_take bs n d ((e10 d)) ((e9 d)) ((-1)))).1), (e8 (F_X10_number_4 bs n (F_X10_take bs n d ((e10 d)) ((e9 d)) ((-1)))).1), (e9 (F_X10_number_4 bs n (F_X10_take bs n d ((e10 d)) ((e9 d)) ((-1)))).1), (e10 (F_X10_number_4 bs n (F_X10_take bs n d ((e10 d)) ((e9 d)) ((-1)))).1), (e11 (F_X10_number_4 bs n (F_X10_take bs n d ((e10 d)) ((e9 d)) ((-1)))).1), (F_X10_number_4 bs n (F_X10_take bs n d ((e10 d)) ((e9 d)) ((-1)))).2) := by unfold F_X10_readRest_p147; exact if_pos h0
theorem q_X10_readRest_p147_1 {bs : Nat → Int32} {n : Int32} {d : DD} {x1 : Int32} {x2 : Int32} (h0 : ¬ x1 = 129) : F_X10_readRest_p147 bs n d x1 x2 = ((e0 (F_X10_number_1 bs n (F_X10_take bs n d ((e10 d)) ((e9 d)) ((-1)))).1), (e1 (F_X10_number_1 bs n (F_X10_take bs n d ((e10 d)) ((e9 d)) ((-1)))).1), (e2 (F_X10_number_1 bs n (F_X10_take bs n d ((e10 d)) ((e9 d)) ((-1)))).1), (e3 (F_X10_number_1 bs n (F_X10_take bs n d ((e10 d)) ((e9 d)) ((-1)))).1), (e4 (F_X10_number_1 bs n (F_X10_take bs n d ((e10 d)) ((e9 d)) ((-1)))).1), (e5 (F_X10_number_1 bs n (F_X10_take bs n d ((e10 d)) ((e9 d)) ((-1)))).1), (e6 (F_X10_number_1 bs n (F_X10_take bs n d ((e10 d)) ((e9 d)) ((-1)))).1), (e7 (F_X10_number_1 bs n (F_X10_take bs n d ((e10 d)) ((e9 d)) ((-1)))).1), (e8 (F_X10_number_1 bs n (F_X10_take bs n d ((e10 d)) ((e9 d)) ((-1)))).1), (e9 (F_X10_number_1 bs n (F_X10_take bs n d ((e10 d)) ((e9 d)) ((-1)))).1), (e10 (F_X10_number_1 bs n (F_X10_take bs n d ((e10 d)) ((e9 d)) ((-1)))).1), (e11 (F_X10_number_1 bs n (F_X10_take bs n d ((e10 d)) ((e9 d)) ((-1)))).1), (F_X10_number_1 bs n (F_X10_take bs n d ((e10 d)) ((e9 d)) ((-1)))).2) := by unfold F_X10_readRest_p147; exact if_neg h0
set_option maxHeartbeats 40000000 in
theorem ce_X10_readRest_p147 {xi : SX} {S : Hp} {E : List Nat} {kc nc : Nat} {P : Po} {o0 : Nat} {x1 : Int32} {x2 : Int32} {bs : Nat → Int32} {n : Int32} (hG : GI S E) (h0 : Oa S E 10 0 o0) (hb : BR S E o0 bs n) (hP : ∀ r T x y, PV E [654, 655, 657, 658, 659, 662, 672, 673, 674, 675, 9998] S kc nc rV (fun v T => StR T o0 = F_X10_readRest_p147 bs n (StR S o0) x1 x2) [] r T x y → P r T x y) : TT xi M_X10_readRest 147 [(0, .ref o0), (1, .int x1), (2, .int x2)] [] S kc nc P := by
  have hA : Af E [654, 655, 657, 658, 659, 662, 672, 673, 674, 675, 9998] S S := af_rf
  refine tt_aload_n (j := 0) dX10_readRest_147 rfl ?_
  refine tt_aload_n (j := 0) dX10_readRest_148 rfl ?_
  refine gt_gI (id := 674) (v := (e10 (StR S o0))) dX10_readRest_149 fl_10_94 rfl rfl h0 hA (sR_674 (T := S) (o := o0) rfl) ?_
  refine tt_aload_n (j := 0) dX10_readRest_152 rfl ?_
  refine gt_gI (id := 673) (v := (e9 (StR S o0))) dX10_readRest_153 fl_10_100 rfl rfl h0 hA (sR_673 (T := S) (o := o0) rfl) ?_
  refine tt_iconst (v := (-1)) dX10_readRest_156 rfl ?_
  refine gt_Vv (As := [.int (e10 (StR S o0)), .int (e9 (StR S o0)), .int (-1)]) dX10_readRest_157 ca_X10_123 ⟨by decide, by decide⟩ h0 hA rfl (Nat.le_of_ble_eq_true rfl) (Nat.le_of_ble_eq_true rfl) (by decide) (ce_X10_take hG (oa_af h0 hA) (br_af hb h0 hA) (fun _ _ _ _ h => h)) rfl (fun _ h => nomatch h) (fun S101 hx105 hG102 hB103 hA104 => ?_)
  obtain ⟨d106, hd107⟩ : ∃ q, F_X10_take bs n (StR S o0) ((e10 (StR S o0))) ((e9 (StR S o0))) ((-1)) = q := ⟨_, rfl⟩
  have hq108 := (congrArg (fun q => F_X10_take bs n q ((e10 (StR S o0))) ((e9 (StR S o0))) ((-1))) (stR_mk (sR_654 (T := S) (o := o0) rfl) (sR_655 (T := S) (o := o0) rfl) (sR_656 (T := S) (o := o0) rfl) (sR_657 (T := S) (o := o0) rfl) (sR_658 (T := S) (o := o0) rfl) (sR_659 (T := S) (o := o0) rfl) (sR_661 (T := S) (o := o0) rfl) (sR_662 (T := S) (o := o0) rfl) (sR_672 (T := S) (o := o0) rfl) (sR_673 (T := S) (o := o0) rfl) (sR_674 (T := S) (o := o0) rfl) (sR_675 (T := S) (o := o0) rfl) (sR_660 (T := S) (o := o0) rfl))).trans hd107
  have hs109 := hx105.trans hq108
  refine tt_aload_n (j := 0) dX10_readRest_160 rfl ?_
  refine tt_aload_n (j := 0) dX10_readRest_161 rfl ?_
  refine tt_iload_n (j := 1) dX10_readRest_162 rfl ?_
  refine tt_sipush (v := 129) dX10_readRest_163 rfl ?_
  refine tt_icmp_ne (tgt := 173) dX10_readRest_166 rfl (fun q110 => ?_) (fun q110 => ?_)
  · skip
    refine tt_iconst (v := 1) dX10_readRest_173 rfl ?_
    refine gt_VJ (As := [.int 1]) dX10_readRest_174 ca_X10_103 ⟨by decide, by decide⟩ h0 hA104 rfl (Nat.le_of_ble_eq_true rfl) (Nat.le_of_ble_eq_true rfl) (by decide) (ce_X10_number_1 hG102 (oa_af h0 hA104) (br_af hb h0 hA104) (fun _ _ _ _ h => h)) rfl (fun _ h => nomatch h) (fun S111 y120 hx115 hG112 hB113 hA114 => ?_)
    obtain ⟨d116, hd117⟩ : ∃ q, F_X10_number_1 bs n d106  = q := ⟨_, rfl⟩
    have hq118 := (congrArg (fun q => F_X10_number_1 bs n q ) (stR_mk (sR_654 hs109) (sR_655 hs109) (sR_656 hs109) (sR_657 hs109) (sR_658 hs109) (sR_659 hs109) (sR_661 hs109) (sR_662 hs109) (sR_672 hs109) (sR_673 hs109) (sR_674 hs109) (sR_675 hs109) (sR_660 hs109))).trans hd117
    have hs119 := hx115.2.trans (congrArg Prod.fst hq118)
    obtain rfl : y120 = d116.2 := (xjR_v hx115).trans (congrArg Prod.snd hq118)
    refine gt_pJ (id := 660) (x := d116.2) dX10_readRest_177 fl_10_116 rfl rfl h0 hA114 rfl rfl rfl hG112 (fun S121 hG122 hA123 e124 f125 er126 => ?_)
    refine tt_goto (tgt := 766) dX10_readRest_180 rfl ?_
    have hF : F_X10_readRest_p147 bs n (StR S o0) x1 x2 = ((e0 d116.1), (e1 d116.1), (e2 d116.1), (e3 d116.1), (e4 d116.1), (e5 d116.1), (e6 d116.1), (e7 d116.1), (e8 d116.1), (e9 d116.1), (e10 d116.1), (e11 d116.1), d116.2) := by
      subst hd117
      subst hd107
      exact q_X10_readRest_p147_1 q110
    exact tt_vreturn dX10_readRest_766 rfl (hP _ _ _ _ ⟨hG122, hA123, Or.inl ⟨_, rfl, rfl, Eq.trans (stR_mk ((congrFun (congrFun e124 654) o0).trans (sR_654 hs119)) ((congrFun (congrFun e124 655) o0).trans (sR_655 hs119)) ((congrFun (congrFun e124 656) o0).trans (sR_656 hs119)) ((congrFun (congrFun e124 657) o0).trans (sR_657 hs119)) ((congrFun (congrFun e124 658) o0).trans (sR_658 hs119)) ((congrFun (congrFun e124 659) o0).trans (sR_659 hs119)) ((congrFun (congrFun e124 661) o0).trans (sR_661 hs119)) ((congrFun (congrFun e124 662) o0).trans (sR_662 hs119)) ((congrFun (congrFun e124 672) o0).trans (sR_672 hs119)) ((congrFun (congrFun e124 673) o0).trans (sR_673 hs119)) ((congrFun (congrFun e124 674) o0).trans (sR_674 hs119)) ((congrFun (congrFun e124 675) o0).trans (sR_675 hs119)) (by rw [f125]; exact up2_self)) hF.symm, rfl, rfl⟩⟩)
  · skip
    have h127 : Rg 129 129 x1 := rg_eq_l (rg_all x1) (⟨by decide, by decide⟩ : Rg 129 129 129) q110
    refine tt_iconst (v := 4) dX10_readRest_169 rfl ?_
    refine tt_goto (tgt := 174) dX10_readRest_170 rfl ?_
    refine gt_VJ (As := [.int 4]) dX10_readRest_174 ca_X10_103 ⟨by decide, by decide⟩ h0 hA104 rfl (Nat.le_of_ble_eq_true rfl) (Nat.le_of_ble_eq_true rfl) (by decide) (ce_X10_number_4 hG102 (oa_af h0 hA104) (br_af hb h0 hA104) (fun _ _ _ _ h => h)) rfl (fun _ h => nomatch h) (fun S128 y137 hx132 hG129 hB130 hA131 => ?_)
    obtain ⟨d133, hd134⟩ : ∃ q, F_X10_number_4 bs n d106  = q := ⟨_, rfl⟩
    have hq135 := (congrArg (fun q => F_X10_number_4 bs n q ) (stR_mk (sR_654 hs109) (sR_655 hs109) (sR_656 hs109) (sR_657 hs109) (sR_658 hs109) (sR_659 hs109) (sR_661 hs109) (sR_662 hs109) (sR_672 hs109) (sR_673 hs109) (sR_674 hs109) (sR_675 hs109) (sR_660 hs109))).trans hd134
    have hs136 := hx132.2.trans (congrArg Prod.fst hq135)
    obtain rfl : y137 = d133.2 := (xjR_v hx132).trans (congrArg Prod.snd hq135)
    refine gt_pJ (id := 660) (x := d133.2) dX10_readRest_177 fl_10_116 rfl rfl h0 hA131 rfl rfl rfl hG129 (fun S138 hG139 hA140 e141 f142 er143 => ?_)
    refine tt_goto (tgt := 766) dX10_readRest_180 rfl ?_
    have hF : F_X10_readRest_p147 bs n (StR S o0) x1 x2 = ((e0 d133.1), (e1 d133.1), (e2 d133.1), (e3 d133.1), (e4 d133.1), (e5 d133.1), (e6 d133.1), (e7 d133.1), (e8 d133.1), (e9 d133.1), (e10 d133.1), (e11 d133.1), d133.2) := by
      subst hd134
      subst hd107
      exact q_X10_readRest_p147_0 q110
    exact tt_vreturn dX10_readRest_766 rfl (hP _ _ _ _ ⟨hG139, hA140, Or.inl ⟨_, rfl, rfl, Eq.trans (stR_mk ((congrFun (congrFun e141 654) o0).trans (sR_654 hs136)) ((congrFun (congrFun e141 655) o0).trans (sR_655 hs136)) ((congrFun (congrFun e141 656) o0).trans (sR_656 hs136)) ((congrFun (congrFun e141 657) o0).trans (sR_657 hs136)) ((congrFun (congrFun e141 658) o0).trans (sR_658 hs136)) ((congrFun (congrFun e141 659) o0).trans (sR_659 hs136)) ((congrFun (congrFun e141 661) o0).trans (sR_661 hs136)) ((congrFun (congrFun e141 662) o0).trans (sR_662 hs136)) ((congrFun (congrFun e141 672) o0).trans (sR_672 hs136)) ((congrFun (congrFun e141 673) o0).trans (sR_673 hs136)) ((congrFun (congrFun e141 674) o0).trans (sR_674 hs136)) ((congrFun (congrFun e141 675) o0).trans (sR_675 hs136)) (by rw [f142]; exact up2_self)) hF.symm, rfl, rfl⟩⟩)
def F_X10_readRest_p116 (bs : Nat → Int32) (n : Int32) (d : DD) (x1 : Int32) (x2 : Int32) : DD :=
  let d106 := F_X10_readPlaces bs n d (x2)
  if (e7 d106) = 0 then
    if (F_X10_isSimple ((e10 d106))) = 0 then
      F_X10_readRest_p147 bs n ((e0 d106), (e1 d106), (e2 d106), (e3 d106), (e4 d106), (e5 d106), (e6 d106), 1, (e8 d106), (e9 d106), (e10 d106), (e11 d106), (eJ d106)) (x1) (x2)
    else
      F_X10_readRest_p147 bs n ((e0 d106), (e1 d106), (e2 d106), (e3 d106), (e4 d106), (e5 d106), (e6 d106), 0, (e8 d106), (e9 d106), (e10 d106), (e11 d106), (eJ d106)) (x1) (x2)
  else
    F_X10_readRest_p147 bs n ((e0 d106), (e1 d106), (e2 d106), (e3 d106), (e4 d106), (e5 d106), (e6 d106), 1, (e8 d106), (e9 d106), (e10 d106), (e11 d106), (eJ d106)) (x1) (x2)
theorem q_X10_readRest_p116_0 {bs : Nat → Int32} {n : Int32} {d : DD} {x1 : Int32} {x2 : Int32} (h0 : (e7 (F_X10_readPlaces bs n d (x2))) = 0) (h1 : (F_X10_isSimple ((e10 (F_X10_readPlaces bs n d (x2))))) = 0) : F_X10_readRest_p116 bs n d x1 x2 = F_X10_readRest_p147 bs n ((e0 (F_X10_readPlaces bs n d (x2))), (e1 (F_X10_readPlaces bs n d (x2))), (e2 (F_X10_readPlaces bs n d (x2))), (e3 (F_X10_readPlaces bs n d (x2))), (e4 (F_X10_readPlaces bs n d (x2))), (e5 (F_X10_readPlaces bs n d (x2))), (e6 (F_X10_readPlaces bs n d (x2))), 1, (e8 (F_X10_readPlaces bs n d (x2))), (e9 (F_X10_readPlaces bs n d (x2))), (e10 (F_X10_readPlaces bs n d (x2))), (e11 (F_X10_readPlaces bs n d (x2))), (eJ (F_X10_readPlaces bs n d (x2)))) (x1) (x2) := by unfold F_X10_readRest_p116; exact Eq.trans (if_pos h0) (if_pos h1)
theorem q_X10_readRest_p116_1 {bs : Nat → Int32} {n : Int32} {d : DD} {x1 : Int32} {x2 : Int32} (h0 : (e7 (F_X10_readPlaces bs n d (x2))) = 0) (h1 : ¬ (F_X10_isSimple ((e10 (F_X10_readPlaces bs n d (x2))))) = 0) : F_X10_readRest_p116 bs n d x1 x2 = F_X10_readRest_p147 bs n ((e0 (F_X10_readPlaces bs n d (x2))), (e1 (F_X10_readPlaces bs n d (x2))), (e2 (F_X10_readPlaces bs n d (x2))), (e3 (F_X10_readPlaces bs n d (x2))), (e4 (F_X10_readPlaces bs n d (x2))), (e5 (F_X10_readPlaces bs n d (x2))), (e6 (F_X10_readPlaces bs n d (x2))), 0, (e8 (F_X10_readPlaces bs n d (x2))), (e9 (F_X10_readPlaces bs n d (x2))), (e10 (F_X10_readPlaces bs n d (x2))), (e11 (F_X10_readPlaces bs n d (x2))), (eJ (F_X10_readPlaces bs n d (x2)))) (x1) (x2) := by unfold F_X10_readRest_p116; exact Eq.trans (if_pos h0) (if_neg h1)
theorem q_X10_readRest_p116_2 {bs : Nat → Int32} {n : Int32} {d : DD} {x1 : Int32} {x2 : Int32} (h0 : ¬ (e7 (F_X10_readPlaces bs n d (x2))) = 0) : F_X10_readRest_p116 bs n d x1 x2 = F_X10_readRest_p147 bs n ((e0 (F_X10_readPlaces bs n d (x2))), (e1 (F_X10_readPlaces bs n d (x2))), (e2 (F_X10_readPlaces bs n d (x2))), (e3 (F_X10_readPlaces bs n d (x2))), (e4 (F_X10_readPlaces bs n d (x2))), (e5 (F_X10_readPlaces bs n d (x2))), (e6 (F_X10_readPlaces bs n d (x2))), 1, (e8 (F_X10_readPlaces bs n d (x2))), (e9 (F_X10_readPlaces bs n d (x2))), (e10 (F_X10_readPlaces bs n d (x2))), (e11 (F_X10_readPlaces bs n d (x2))), (eJ (F_X10_readPlaces bs n d (x2)))) (x1) (x2) := by unfold F_X10_readRest_p116; exact if_neg h0
set_option maxHeartbeats 40000000 in
theorem ce_X10_readRest_p116 {xi : SX} {S : Hp} {E : List Nat} {kc nc : Nat} {P : Po} {o0 : Nat} {x1 : Int32} {x2 : Int32} {bs : Nat → Int32} {n : Int32} (hG : GI S E) (h0 : Oa S E 10 0 o0) (hb : BR S E o0 bs n) (hP : ∀ r T x y, PV E [654, 655, 657, 658, 659, 662, 672, 673, 674, 675, 9998] S kc nc rV (fun v T => StR T o0 = F_X10_readRest_p116 bs n (StR S o0) x1 x2) [] r T x y → P r T x y) : TT xi M_X10_readRest 116 [(0, .ref o0), (1, .int x1), (2, .int x2)] [] S kc nc P := by
  have hA : Af E [654, 655, 657, 658, 659, 662, 672, 673, 674, 675, 9998] S S := af_rf
  refine tt_aload_n (j := 0) dX10_readRest_116 rfl ?_
  refine tt_iload_n (j := 2) dX10_readRest_117 rfl ?_
  refine gt_Vv (As := [.int x2]) dX10_readRest_118 ca_X10_137 ⟨by decide, by decide⟩ h0 hA rfl (Nat.le_of_ble_eq_true rfl) (Nat.le_of_ble_eq_true rfl) (by decide) (ce_X10_readPlaces hG (oa_af h0 hA) (br_af hb h0 hA) (fun _ _ _ _ h => h)) rfl (fun _ h => nomatch h) (fun S101 hx105 hG102 hB103 hA104 => ?_)
  obtain ⟨d106, hd107⟩ : ∃ q, F_X10_readPlaces bs n (StR S o0) (x2) = q := ⟨_, rfl⟩
  have hq108 := (congrArg (fun q => F_X10_readPlaces bs n q (x2)) (stR_mk (sR_654 (T := S) (o := o0) rfl) (sR_655 (T := S) (o := o0) rfl) (sR_656 (T := S) (o := o0) rfl) (sR_657 (T := S) (o := o0) rfl) (sR_658 (T := S) (o := o0) rfl) (sR_659 (T := S) (o := o0) rfl) (sR_661 (T := S) (o := o0) rfl) (sR_662 (T := S) (o := o0) rfl) (sR_672 (T := S) (o := o0) rfl) (sR_673 (T := S) (o := o0) rfl) (sR_674 (T := S) (o := o0) rfl) (sR_675 (T := S) (o := o0) rfl) (sR_660 (T := S) (o := o0) rfl))).trans hd107
  have hs109 := hx105.trans hq108
  refine tt_aload_n (j := 0) dX10_readRest_121 rfl ?_
  refine tt_aload_n (j := 0) dX10_readRest_122 rfl ?_
  refine gt_gI (id := 662) (v := (e7 d106)) dX10_readRest_123 fl_10_84 rfl rfl h0 hA104 (sR_662 hs109) ?_
  refine tt_if_ne (tgt := 139) dX10_readRest_126 rfl (fun q110 => ?_) (fun q110 => ?_)
  · skip
    refine tt_iconst (v := 1) dX10_readRest_139 rfl ?_
    refine tt_goto (tgt := 144) dX10_readRest_140 rfl ?_
    refine gt_pI (id := 662) (x := 1) dX10_readRest_144 fl_10_84 rfl rfl h0 hA104 rfl rfl rfl (gp_Ir hG102 (⟨by decide, by decide⟩ : Rg 1 1 1)) (by decide) (fun _ h => absurd (by decide) h) (fun h => absurd h (by decide)) (fun S111 hG112 hA113 e114 f115 er116 => ?_)
    have hF : F_X10_readRest_p116 bs n (StR S o0) x1 x2 = F_X10_readRest_p147 bs n ((e0 d106), (e1 d106), (e2 d106), (e3 d106), (e4 d106), (e5 d106), (e6 d106), 1, (e8 d106), (e9 d106), (e10 d106), (e11 d106), (eJ d106)) (x1) (x2) := by
      subst hd107
      exact q_X10_readRest_p116_2 q110
    exact tt_loc (ks := [0, 1, 2]) rfl (ce_X10_readRest_p147 hG112 (oa_af h0 hA113) (br_af hb h0 hA113) (fun r T x y h => hP r T x y (pv_tr hA113 h (by decide) (fun v T e => e.trans ((congrArg (fun q => F_X10_readRest_p147 bs n q (x1) (x2)) (stR_mk ((congrFun (congrFun e114 654) o0).trans ((congrFun (up2_ne (k := 654)) o0).trans (sR_654 hs109))) ((congrFun (congrFun e114 655) o0).trans ((congrFun (up2_ne (k := 655)) o0).trans (sR_655 hs109))) ((congrFun (congrFun e114 656) o0).trans ((congrFun (up2_ne (k := 656)) o0).trans (sR_656 hs109))) ((congrFun (congrFun e114 657) o0).trans ((congrFun (up2_ne (k := 657)) o0).trans (sR_657 hs109))) ((congrFun (congrFun e114 658) o0).trans ((congrFun (up2_ne (k := 658)) o0).trans (sR_658 hs109))) ((congrFun (congrFun e114 659) o0).trans ((congrFun (up2_ne (k := 659)) o0).trans (sR_659 hs109))) ((congrFun (congrFun e114 661) o0).trans ((congrFun (up2_ne (k := 661)) o0).trans (sR_661 hs109))) (by rw [e114]; exact up2_self) ((congrFun (congrFun e114 672) o0).trans ((congrFun (up2_ne (k := 672)) o0).trans (sR_672 hs109))) ((congrFun (congrFun e114 673) o0).trans ((congrFun (up2_ne (k := 673)) o0).trans (sR_673 hs109))) ((congrFun (congrFun e114 674) o0).trans ((congrFun (up2_ne (k := 674)) o0).trans (sR_674 hs109))) ((congrFun (congrFun e114 675) o0).trans ((congrFun (up2_ne (k := 675)) o0).trans (sR_675 hs109))) ((congrFun (congrFun f115 660) o0).trans (sR_660 hs109)))).trans hF.symm)))))
  · skip
    have h117 : Rg 0 0 (e7 d106) := rg_eq_l (rg_all (e7 d106)) (⟨by decide, by decide⟩ : Rg 0 0 0) q110
    refine tt_aload_n (j := 0) dX10_readRest_129 rfl ?_
    refine gt_gI (id := 674) (v := (e10 d106)) dX10_readRest_130 fl_10_94 rfl rfl h0 hA104 (sR_674 hs109) ?_
    refine gt_SIp (As := [.int (e10 d106)]) dX10_readRest_133 ca_X10_141 ⟨by decide, by decide⟩ hA104 (Nat.le_of_ble_eq_true rfl) (Nat.le_of_ble_eq_true rfl) (by decide) (ce_X10_isSimple hG102  (fun _ _ _ _ h => h)) rfl (fun _ h => nomatch h) (fun _ _ q => q.1) (fun x118 h119 hx120 => ?_)
    obtain rfl : F_X10_isSimple ((e10 d106)) = x118 := (ei_w hx120.2).symm
    refine tt_if_ne (tgt := 143) dX10_readRest_136 rfl (fun q121 => ?_) (fun q121 => ?_)
    · skip
      have h122 : Rg 1 1 (F_X10_isSimple ((e10 d106))) := rg_ne_lo h119 (⟨by decide, by decide⟩ : Rg 0 0 0) q121
      refine tt_iconst (v := 0) dX10_readRest_143 rfl ?_
      refine gt_pI (id := 662) (x := 0) dX10_readRest_144 fl_10_84 rfl rfl h0 hA104 rfl rfl rfl (gp_Ir hG102 (⟨by decide, by decide⟩ : Rg 0 0 0)) (by decide) (fun _ h => absurd (by decide) h) (fun h => absurd h (by decide)) (fun S123 hG124 hA125 e126 f127 er128 => ?_)
      have hF : F_X10_readRest_p116 bs n (StR S o0) x1 x2 = F_X10_readRest_p147 bs n ((e0 d106), (e1 d106), (e2 d106), (e3 d106), (e4 d106), (e5 d106), (e6 d106), 0, (e8 d106), (e9 d106), (e10 d106), (e11 d106), (eJ d106)) (x1) (x2) := by
        subst hd107
        exact q_X10_readRest_p116_1 q110 q121
      exact tt_loc (ks := [0, 1, 2]) rfl (ce_X10_readRest_p147 hG124 (oa_af h0 hA125) (br_af hb h0 hA125) (fun r T x y h => hP r T x y (pv_tr hA125 h (by decide) (fun v T e => e.trans ((congrArg (fun q => F_X10_readRest_p147 bs n q (x1) (x2)) (stR_mk ((congrFun (congrFun e126 654) o0).trans ((congrFun (up2_ne (k := 654)) o0).trans (sR_654 hs109))) ((congrFun (congrFun e126 655) o0).trans ((congrFun (up2_ne (k := 655)) o0).trans (sR_655 hs109))) ((congrFun (congrFun e126 656) o0).trans ((congrFun (up2_ne (k := 656)) o0).trans (sR_656 hs109))) ((congrFun (congrFun e126 657) o0).trans ((congrFun (up2_ne (k := 657)) o0).trans (sR_657 hs109))) ((congrFun (congrFun e126 658) o0).trans ((congrFun (up2_ne (k := 658)) o0).trans (sR_658 hs109))) ((congrFun (congrFun e126 659) o0).trans ((congrFun (up2_ne (k := 659)) o0).trans (sR_659 hs109))) ((congrFun (congrFun e126 661) o0).trans ((congrFun (up2_ne (k := 661)) o0).trans (sR_661 hs109))) (by rw [e126]; exact up2_self) ((congrFun (congrFun e126 672) o0).trans ((congrFun (up2_ne (k := 672)) o0).trans (sR_672 hs109))) ((congrFun (congrFun e126 673) o0).trans ((congrFun (up2_ne (k := 673)) o0).trans (sR_673 hs109))) ((congrFun (congrFun e126 674) o0).trans ((congrFun (up2_ne (k := 674)) o0).trans (sR_674 hs109))) ((congrFun (congrFun e126 675) o0).trans ((congrFun (up2_ne (k := 675)) o0).trans (sR_675 hs109))) ((congrFun (congrFun f127 660) o0).trans (sR_660 hs109)))).trans hF.symm)))))
    · skip
      have h129 : Rg 0 0 (F_X10_isSimple ((e10 d106))) := rg_eq_l h119 (⟨by decide, by decide⟩ : Rg 0 0 0) q121
      refine tt_iconst (v := 1) dX10_readRest_139 rfl ?_
      refine tt_goto (tgt := 144) dX10_readRest_140 rfl ?_
      refine gt_pI (id := 662) (x := 1) dX10_readRest_144 fl_10_84 rfl rfl h0 hA104 rfl rfl rfl (gp_Ir hG102 (⟨by decide, by decide⟩ : Rg 1 1 1)) (by decide) (fun _ h => absurd (by decide) h) (fun h => absurd h (by decide)) (fun S130 hG131 hA132 e133 f134 er135 => ?_)
      have hF : F_X10_readRest_p116 bs n (StR S o0) x1 x2 = F_X10_readRest_p147 bs n ((e0 d106), (e1 d106), (e2 d106), (e3 d106), (e4 d106), (e5 d106), (e6 d106), 1, (e8 d106), (e9 d106), (e10 d106), (e11 d106), (eJ d106)) (x1) (x2) := by
        subst hd107
        exact q_X10_readRest_p116_0 q110 q121
      exact tt_loc (ks := [0, 1, 2]) rfl (ce_X10_readRest_p147 hG131 (oa_af h0 hA132) (br_af hb h0 hA132) (fun r T x y h => hP r T x y (pv_tr hA132 h (by decide) (fun v T e => e.trans ((congrArg (fun q => F_X10_readRest_p147 bs n q (x1) (x2)) (stR_mk ((congrFun (congrFun e133 654) o0).trans ((congrFun (up2_ne (k := 654)) o0).trans (sR_654 hs109))) ((congrFun (congrFun e133 655) o0).trans ((congrFun (up2_ne (k := 655)) o0).trans (sR_655 hs109))) ((congrFun (congrFun e133 656) o0).trans ((congrFun (up2_ne (k := 656)) o0).trans (sR_656 hs109))) ((congrFun (congrFun e133 657) o0).trans ((congrFun (up2_ne (k := 657)) o0).trans (sR_657 hs109))) ((congrFun (congrFun e133 658) o0).trans ((congrFun (up2_ne (k := 658)) o0).trans (sR_658 hs109))) ((congrFun (congrFun e133 659) o0).trans ((congrFun (up2_ne (k := 659)) o0).trans (sR_659 hs109))) ((congrFun (congrFun e133 661) o0).trans ((congrFun (up2_ne (k := 661)) o0).trans (sR_661 hs109))) (by rw [e133]; exact up2_self) ((congrFun (congrFun e133 672) o0).trans ((congrFun (up2_ne (k := 672)) o0).trans (sR_672 hs109))) ((congrFun (congrFun e133 673) o0).trans ((congrFun (up2_ne (k := 673)) o0).trans (sR_673 hs109))) ((congrFun (congrFun e133 674) o0).trans ((congrFun (up2_ne (k := 674)) o0).trans (sR_674 hs109))) ((congrFun (congrFun e133 675) o0).trans ((congrFun (up2_ne (k := 675)) o0).trans (sR_675 hs109))) ((congrFun (congrFun f134 660) o0).trans (sR_660 hs109)))).trans hF.symm)))))
def F_X10_readRest_p102 (bs : Nat → Int32) (n : Int32) (d : DD) (x1 : Int32) (x2 : Int32) : DD :=
  if x1 = 129 then
    F_X10_readRest_p116 bs n d (x1) (x2)
  else
    if x1 = 131 then
      F_X10_readRest_p116 bs n d (x1) (x2)
    else
      if x1 = 133 then
        F_X10_readRest_p190 bs n d (x1) (x2)
      else
        if x1 = 247 then
          F_X10_readRest_p219 bs n d (x1) (x2)
        else
          if x1 = 255 then
            F_X10_readRest_p322 bs n d (x1) (x2)
          else
            if x1 = 137 then
              F_X10_readRest_p391 bs n d (x1) (x2)
            else
              if x1 = 139 then
                F_X10_readRest_p391 bs n d (x1) (x2)
              else
                if x1 = 199 then
                  F_X10_readRest_p448 bs n d (x1) (x2)
                else
                  if x1 < 184 then
                    F_X10_readRest_p564 bs n d (x1) (x2)
                  else
                    if 192 ≤ x1 then
                      F_X10_readRest_p564 bs n d (x1) (x2)
                    else
                      F_X10_readRest_p513 bs n d (x1) (x2)
theorem q_X10_readRest_p102_0 {bs : Nat → Int32} {n : Int32} {d : DD} {x1 : Int32} {x2 : Int32} (h0 : x1 = 129) : F_X10_readRest_p102 bs n d x1 x2 = F_X10_readRest_p116 bs n d (x1) (x2) := by unfold F_X10_readRest_p102; exact if_pos h0
theorem q_X10_readRest_p102_1 {bs : Nat → Int32} {n : Int32} {d : DD} {x1 : Int32} {x2 : Int32} (h0 : ¬ x1 = 129) (h1 : x1 = 131) : F_X10_readRest_p102 bs n d x1 x2 = F_X10_readRest_p116 bs n d (x1) (x2) := by unfold F_X10_readRest_p102; exact Eq.trans (if_neg h0) (if_pos h1)
theorem q_X10_readRest_p102_2 {bs : Nat → Int32} {n : Int32} {d : DD} {x1 : Int32} {x2 : Int32} (h0 : ¬ x1 = 129) (h1 : ¬ x1 = 131) (h2 : x1 = 133) : F_X10_readRest_p102 bs n d x1 x2 = F_X10_readRest_p190 bs n d (x1) (x2) := by unfold F_X10_readRest_p102; exact Eq.trans (if_neg h0) (Eq.trans (if_neg h1) (if_pos h2))
theorem q_X10_readRest_p102_3 {bs : Nat → Int32} {n : Int32} {d : DD} {x1 : Int32} {x2 : Int32} (h0 : ¬ x1 = 129) (h1 : ¬ x1 = 131) (h2 : ¬ x1 = 133) (h3 : x1 = 247) : F_X10_readRest_p102 bs n d x1 x2 = F_X10_readRest_p219 bs n d (x1) (x2) := by unfold F_X10_readRest_p102; exact Eq.trans (if_neg h0) (Eq.trans (if_neg h1) (Eq.trans (if_neg h2) (if_pos h3)))
theorem q_X10_readRest_p102_4 {bs : Nat → Int32} {n : Int32} {d : DD} {x1 : Int32} {x2 : Int32} (h0 : ¬ x1 = 129) (h1 : ¬ x1 = 131) (h2 : ¬ x1 = 133) (h3 : ¬ x1 = 247) (h4 : x1 = 255) : F_X10_readRest_p102 bs n d x1 x2 = F_X10_readRest_p322 bs n d (x1) (x2) := by unfold F_X10_readRest_p102; exact Eq.trans (if_neg h0) (Eq.trans (if_neg h1) (Eq.trans (if_neg h2) (Eq.trans (if_neg h3) (if_pos h4))))
theorem q_X10_readRest_p102_5 {bs : Nat → Int32} {n : Int32} {d : DD} {x1 : Int32} {x2 : Int32} (h0 : ¬ x1 = 129) (h1 : ¬ x1 = 131) (h2 : ¬ x1 = 133) (h3 : ¬ x1 = 247) (h4 : ¬ x1 = 255) (h5 : x1 = 137) : F_X10_readRest_p102 bs n d x1 x2 = F_X10_readRest_p391 bs n d (x1) (x2) := by unfold F_X10_readRest_p102; exact Eq.trans (if_neg h0) (Eq.trans (if_neg h1) (Eq.trans (if_neg h2) (Eq.trans (if_neg h3) (Eq.trans (if_neg h4) (if_pos h5)))))
theorem q_X10_readRest_p102_6 {bs : Nat → Int32} {n : Int32} {d : DD} {x1 : Int32} {x2 : Int32} (h0 : ¬ x1 = 129) (h1 : ¬ x1 = 131) (h2 : ¬ x1 = 133) (h3 : ¬ x1 = 247) (h4 : ¬ x1 = 255) (h5 : ¬ x1 = 137) (h6 : x1 = 139) : F_X10_readRest_p102 bs n d x1 x2 = F_X10_readRest_p391 bs n d (x1) (x2) := by unfold F_X10_readRest_p102; exact Eq.trans (if_neg h0) (Eq.trans (if_neg h1) (Eq.trans (if_neg h2) (Eq.trans (if_neg h3) (Eq.trans (if_neg h4) (Eq.trans (if_neg h5) (if_pos h6))))))
theorem q_X10_readRest_p102_7 {bs : Nat → Int32} {n : Int32} {d : DD} {x1 : Int32} {x2 : Int32} (h0 : ¬ x1 = 129) (h1 : ¬ x1 = 131) (h2 : ¬ x1 = 133) (h3 : ¬ x1 = 247) (h4 : ¬ x1 = 255) (h5 : ¬ x1 = 137) (h6 : ¬ x1 = 139) (h7 : x1 = 199) : F_X10_readRest_p102 bs n d x1 x2 = F_X10_readRest_p448 bs n d (x1) (x2) := by unfold F_X10_readRest_p102; exact Eq.trans (if_neg h0) (Eq.trans (if_neg h1) (Eq.trans (if_neg h2) (Eq.trans (if_neg h3) (Eq.trans (if_neg h4) (Eq.trans (if_neg h5) (Eq.trans (if_neg h6) (if_pos h7)))))))
theorem q_X10_readRest_p102_8 {bs : Nat → Int32} {n : Int32} {d : DD} {x1 : Int32} {x2 : Int32} (h0 : ¬ x1 = 129) (h1 : ¬ x1 = 131) (h2 : ¬ x1 = 133) (h3 : ¬ x1 = 247) (h4 : ¬ x1 = 255) (h5 : ¬ x1 = 137) (h6 : ¬ x1 = 139) (h7 : ¬ x1 = 199) (h8 : x1 < 184) : F_X10_readRest_p102 bs n d x1 x2 = F_X10_readRest_p564 bs n d (x1) (x2) := by unfold F_X10_readRest_p102; exact Eq.trans (if_neg h0) (Eq.trans (if_neg h1) (Eq.trans (if_neg h2) (Eq.trans (if_neg h3) (Eq.trans (if_neg h4) (Eq.trans (if_neg h5) (Eq.trans (if_neg h6) (Eq.trans (if_neg h7) (if_pos h8))))))))
theorem q_X10_readRest_p102_9 {bs : Nat → Int32} {n : Int32} {d : DD} {x1 : Int32} {x2 : Int32} (h0 : ¬ x1 = 129) (h1 : ¬ x1 = 131) (h2 : ¬ x1 = 133) (h3 : ¬ x1 = 247) (h4 : ¬ x1 = 255) (h5 : ¬ x1 = 137) (h6 : ¬ x1 = 139) (h7 : ¬ x1 = 199) (h8 : ¬ x1 < 184) (h9 : 192 ≤ x1) : F_X10_readRest_p102 bs n d x1 x2 = F_X10_readRest_p564 bs n d (x1) (x2) := by unfold F_X10_readRest_p102; exact Eq.trans (if_neg h0) (Eq.trans (if_neg h1) (Eq.trans (if_neg h2) (Eq.trans (if_neg h3) (Eq.trans (if_neg h4) (Eq.trans (if_neg h5) (Eq.trans (if_neg h6) (Eq.trans (if_neg h7) (Eq.trans (if_neg h8) (if_pos h9)))))))))
theorem q_X10_readRest_p102_10 {bs : Nat → Int32} {n : Int32} {d : DD} {x1 : Int32} {x2 : Int32} (h0 : ¬ x1 = 129) (h1 : ¬ x1 = 131) (h2 : ¬ x1 = 133) (h3 : ¬ x1 = 247) (h4 : ¬ x1 = 255) (h5 : ¬ x1 = 137) (h6 : ¬ x1 = 139) (h7 : ¬ x1 = 199) (h8 : ¬ x1 < 184) (h9 : ¬ 192 ≤ x1) : F_X10_readRest_p102 bs n d x1 x2 = F_X10_readRest_p513 bs n d (x1) (x2) := by unfold F_X10_readRest_p102; exact Eq.trans (if_neg h0) (Eq.trans (if_neg h1) (Eq.trans (if_neg h2) (Eq.trans (if_neg h3) (Eq.trans (if_neg h4) (Eq.trans (if_neg h5) (Eq.trans (if_neg h6) (Eq.trans (if_neg h7) (Eq.trans (if_neg h8) (if_neg h9)))))))))
set_option maxHeartbeats 40000000 in
theorem ce_X10_readRest_p102 {xi : SX} {S : Hp} {E : List Nat} {kc nc : Nat} {P : Po} {o0 : Nat} {x1 : Int32} {x2 : Int32} {bs : Nat → Int32} {n : Int32} (hG : GI S E) (h0 : Oa S E 10 0 o0) (hb : BR S E o0 bs n) (hP : ∀ r T x y, PV E [654, 655, 657, 658, 659, 662, 672, 673, 674, 675, 9998] S kc nc rV (fun v T => StR T o0 = F_X10_readRest_p102 bs n (StR S o0) x1 x2) [] r T x y → P r T x y) : TT xi M_X10_readRest 102 [(0, .ref o0), (1, .int x1), (2, .int x2)] [] S kc nc P := by
  have hA : Af E [654, 655, 657, 658, 659, 662, 672, 673, 674, 675, 9998] S S := af_rf
  refine tt_iload_n (j := 1) dX10_readRest_102 rfl ?_
  refine tt_sipush (v := 129) dX10_readRest_103 rfl ?_
  refine tt_icmp_eq (tgt := 116) dX10_readRest_106 rfl (fun q101 => ?_) (fun q101 => ?_)
  · skip
    have h102 : Rg 129 129 x1 := rg_eq_l (rg_all x1) (⟨by decide, by decide⟩ : Rg 129 129 129) q101
    have hF : F_X10_readRest_p102 bs n (StR S o0) x1 x2 = F_X10_readRest_p116 bs n (StR S o0) (x1) (x2) := by
      exact q_X10_readRest_p102_0 q101
    exact tt_loc (ks := [0, 1, 2]) rfl (ce_X10_readRest_p116 hG (oa_af h0 hA) (br_af hb h0 hA) (fun r T x y h => hP r T x y (pv_tr hA h (by decide) (fun v T e => e.trans ((congrArg (fun q => F_X10_readRest_p116 bs n q (x1) (x2)) (stR_mk (sR_654 (T := S) (o := o0) rfl) (sR_655 (T := S) (o := o0) rfl) (sR_656 (T := S) (o := o0) rfl) (sR_657 (T := S) (o := o0) rfl) (sR_658 (T := S) (o := o0) rfl) (sR_659 (T := S) (o := o0) rfl) (sR_661 (T := S) (o := o0) rfl) (sR_662 (T := S) (o := o0) rfl) (sR_672 (T := S) (o := o0) rfl) (sR_673 (T := S) (o := o0) rfl) (sR_674 (T := S) (o := o0) rfl) (sR_675 (T := S) (o := o0) rfl) (sR_660 (T := S) (o := o0) rfl))).trans hF.symm)))))
  · skip
    refine tt_iload_n (j := 1) dX10_readRest_109 rfl ?_
    refine tt_sipush (v := 131) dX10_readRest_110 rfl ?_
    refine tt_icmp_ne (tgt := 183) dX10_readRest_113 rfl (fun q103 => ?_) (fun q103 => ?_)
    · skip
      refine tt_iload_n (j := 1) dX10_readRest_183 rfl ?_
      refine tt_sipush (v := 133) dX10_readRest_184 rfl ?_
      refine tt_icmp_ne (tgt := 212) dX10_readRest_187 rfl (fun q104 => ?_) (fun q104 => ?_)
      · skip
        refine tt_iload_n (j := 1) dX10_readRest_212 rfl ?_
        refine tt_sipush (v := 247) dX10_readRest_213 rfl ?_
        refine tt_icmp_ne (tgt := 315) dX10_readRest_216 rfl (fun q105 => ?_) (fun q105 => ?_)
        · skip
          refine tt_iload_n (j := 1) dX10_readRest_315 rfl ?_
          refine tt_sipush (v := 255) dX10_readRest_316 rfl ?_
          refine tt_icmp_ne (tgt := 377) dX10_readRest_319 rfl (fun q106 => ?_) (fun q106 => ?_)
          · skip
            refine tt_iload_n (j := 1) dX10_readRest_377 rfl ?_
            refine tt_sipush (v := 137) dX10_readRest_378 rfl ?_
            refine tt_icmp_eq (tgt := 391) dX10_readRest_381 rfl (fun q107 => ?_) (fun q107 => ?_)
            · skip
              have h108 : Rg 137 137 x1 := rg_eq_l (rg_all x1) (⟨by decide, by decide⟩ : Rg 137 137 137) q107
              have hF : F_X10_readRest_p102 bs n (StR S o0) x1 x2 = F_X10_readRest_p391 bs n (StR S o0) (x1) (x2) := by
                exact q_X10_readRest_p102_5 q101 q103 q104 q105 q106 q107
              exact tt_loc (ks := [0, 1, 2]) rfl (ce_X10_readRest_p391 hG (oa_af h0 hA) (br_af hb h0 hA) (fun r T x y h => hP r T x y (pv_tr hA h (by decide) (fun v T e => e.trans ((congrArg (fun q => F_X10_readRest_p391 bs n q (x1) (x2)) (stR_mk (sR_654 (T := S) (o := o0) rfl) (sR_655 (T := S) (o := o0) rfl) (sR_656 (T := S) (o := o0) rfl) (sR_657 (T := S) (o := o0) rfl) (sR_658 (T := S) (o := o0) rfl) (sR_659 (T := S) (o := o0) rfl) (sR_661 (T := S) (o := o0) rfl) (sR_662 (T := S) (o := o0) rfl) (sR_672 (T := S) (o := o0) rfl) (sR_673 (T := S) (o := o0) rfl) (sR_674 (T := S) (o := o0) rfl) (sR_675 (T := S) (o := o0) rfl) (sR_660 (T := S) (o := o0) rfl))).trans hF.symm)))))
            · skip
              refine tt_iload_n (j := 1) dX10_readRest_384 rfl ?_
              refine tt_sipush (v := 139) dX10_readRest_385 rfl ?_
              refine tt_icmp_ne (tgt := 441) dX10_readRest_388 rfl (fun q109 => ?_) (fun q109 => ?_)
              · skip
                refine tt_iload_n (j := 1) dX10_readRest_441 rfl ?_
                refine tt_sipush (v := 199) dX10_readRest_442 rfl ?_
                refine tt_icmp_ne (tgt := 499) dX10_readRest_445 rfl (fun q110 => ?_) (fun q110 => ?_)
                · skip
                  refine tt_iload_n (j := 1) dX10_readRest_499 rfl ?_
                  refine tt_sipush (v := 184) dX10_readRest_500 rfl ?_
                  refine tt_icmp_lt (tgt := 564) dX10_readRest_503 rfl (fun q111 => ?_) (fun q111 => ?_)
                  · skip
                    have h112 : Rg (-2147483648) 183 x1 := rg_lt_l (rg_all x1) (⟨by decide, by decide⟩ : Rg 184 184 184) q111
                    have hF : F_X10_readRest_p102 bs n (StR S o0) x1 x2 = F_X10_readRest_p564 bs n (StR S o0) (x1) (x2) := by
                      exact q_X10_readRest_p102_8 q101 q103 q104 q105 q106 q107 q109 q110 q111
                    exact tt_loc (ks := [0, 1, 2]) rfl (ce_X10_readRest_p564 hG (oa_af h0 hA) (br_af hb h0 hA) (fun r T x y h => hP r T x y (pv_tr hA h (by decide) (fun v T e => e.trans ((congrArg (fun q => F_X10_readRest_p564 bs n q (x1) (x2)) (stR_mk (sR_654 (T := S) (o := o0) rfl) (sR_655 (T := S) (o := o0) rfl) (sR_656 (T := S) (o := o0) rfl) (sR_657 (T := S) (o := o0) rfl) (sR_658 (T := S) (o := o0) rfl) (sR_659 (T := S) (o := o0) rfl) (sR_661 (T := S) (o := o0) rfl) (sR_662 (T := S) (o := o0) rfl) (sR_672 (T := S) (o := o0) rfl) (sR_673 (T := S) (o := o0) rfl) (sR_674 (T := S) (o := o0) rfl) (sR_675 (T := S) (o := o0) rfl) (sR_660 (T := S) (o := o0) rfl))).trans hF.symm)))))
                  · skip
                    have h113 : Rg 184 2147483647 x1 := rg_le_r (⟨by decide, by decide⟩ : Rg 184 184 184) (rg_all x1) (nlt_le q111)
                    refine tt_iload_n (j := 1) dX10_readRest_506 rfl ?_
                    refine tt_sipush (v := 192) dX10_readRest_507 rfl ?_
                    refine tt_icmp_ge (tgt := 564) dX10_readRest_510 rfl (fun q114 => ?_) (fun q114 => ?_)
                    · skip
                      have h115 : Rg 192 2147483647 x1 := rg_le_r (⟨by decide, by decide⟩ : Rg 192 192 192) h113 q114
                      have hF : F_X10_readRest_p102 bs n (StR S o0) x1 x2 = F_X10_readRest_p564 bs n (StR S o0) (x1) (x2) := by
                        exact q_X10_readRest_p102_9 q101 q103 q104 q105 q106 q107 q109 q110 q111 q114
                      exact tt_loc (ks := [0, 1, 2]) rfl (ce_X10_readRest_p564 hG (oa_af h0 hA) (br_af hb h0 hA) (fun r T x y h => hP r T x y (pv_tr hA h (by decide) (fun v T e => e.trans ((congrArg (fun q => F_X10_readRest_p564 bs n q (x1) (x2)) (stR_mk (sR_654 (T := S) (o := o0) rfl) (sR_655 (T := S) (o := o0) rfl) (sR_656 (T := S) (o := o0) rfl) (sR_657 (T := S) (o := o0) rfl) (sR_658 (T := S) (o := o0) rfl) (sR_659 (T := S) (o := o0) rfl) (sR_661 (T := S) (o := o0) rfl) (sR_662 (T := S) (o := o0) rfl) (sR_672 (T := S) (o := o0) rfl) (sR_673 (T := S) (o := o0) rfl) (sR_674 (T := S) (o := o0) rfl) (sR_675 (T := S) (o := o0) rfl) (sR_660 (T := S) (o := o0) rfl))).trans hF.symm)))))
                    · skip
                      have h116 : Rg 184 191 x1 := rg_lt_l h113 (⟨by decide, by decide⟩ : Rg 192 192 192) (nle_lt q114)
                      have hF : F_X10_readRest_p102 bs n (StR S o0) x1 x2 = F_X10_readRest_p513 bs n (StR S o0) (x1) (x2) := by
                        exact q_X10_readRest_p102_10 q101 q103 q104 q105 q106 q107 q109 q110 q111 q114
                      exact tt_loc (ks := [0, 1, 2]) rfl (ce_X10_readRest_p513 hG (oa_af h0 hA) (br_af hb h0 hA) (fun r T x y h => hP r T x y (pv_tr hA h (by decide) (fun v T e => e.trans ((congrArg (fun q => F_X10_readRest_p513 bs n q (x1) (x2)) (stR_mk (sR_654 (T := S) (o := o0) rfl) (sR_655 (T := S) (o := o0) rfl) (sR_656 (T := S) (o := o0) rfl) (sR_657 (T := S) (o := o0) rfl) (sR_658 (T := S) (o := o0) rfl) (sR_659 (T := S) (o := o0) rfl) (sR_661 (T := S) (o := o0) rfl) (sR_662 (T := S) (o := o0) rfl) (sR_672 (T := S) (o := o0) rfl) (sR_673 (T := S) (o := o0) rfl) (sR_674 (T := S) (o := o0) rfl) (sR_675 (T := S) (o := o0) rfl) (sR_660 (T := S) (o := o0) rfl))).trans hF.symm)))))
                · skip
                  have h117 : Rg 199 199 x1 := rg_eq_l (rg_all x1) (⟨by decide, by decide⟩ : Rg 199 199 199) q110
                  have hF : F_X10_readRest_p102 bs n (StR S o0) x1 x2 = F_X10_readRest_p448 bs n (StR S o0) (x1) (x2) := by
                    exact q_X10_readRest_p102_7 q101 q103 q104 q105 q106 q107 q109 q110
                  exact tt_loc (ks := [0, 1, 2]) rfl (ce_X10_readRest_p448 hG (oa_af h0 hA) (br_af hb h0 hA) (fun r T x y h => hP r T x y (pv_tr hA h (by decide) (fun v T e => e.trans ((congrArg (fun q => F_X10_readRest_p448 bs n q (x1) (x2)) (stR_mk (sR_654 (T := S) (o := o0) rfl) (sR_655 (T := S) (o := o0) rfl) (sR_656 (T := S) (o := o0) rfl) (sR_657 (T := S) (o := o0) rfl) (sR_658 (T := S) (o := o0) rfl) (sR_659 (T := S) (o := o0) rfl) (sR_661 (T := S) (o := o0) rfl) (sR_662 (T := S) (o := o0) rfl) (sR_672 (T := S) (o := o0) rfl) (sR_673 (T := S) (o := o0) rfl) (sR_674 (T := S) (o := o0) rfl) (sR_675 (T := S) (o := o0) rfl) (sR_660 (T := S) (o := o0) rfl))).trans hF.symm)))))
              · skip
                have h118 : Rg 139 139 x1 := rg_eq_l (rg_all x1) (⟨by decide, by decide⟩ : Rg 139 139 139) q109
                have hF : F_X10_readRest_p102 bs n (StR S o0) x1 x2 = F_X10_readRest_p391 bs n (StR S o0) (x1) (x2) := by
                  exact q_X10_readRest_p102_6 q101 q103 q104 q105 q106 q107 q109
                exact tt_loc (ks := [0, 1, 2]) rfl (ce_X10_readRest_p391 hG (oa_af h0 hA) (br_af hb h0 hA) (fun r T x y h => hP r T x y (pv_tr hA h (by decide) (fun v T e => e.trans ((congrArg (fun q => F_X10_readRest_p391 bs n q (x1) (x2)) (stR_mk (sR_654 (T := S) (o := o0) rfl) (sR_655 (T := S) (o := o0) rfl) (sR_656 (T := S) (o := o0) rfl) (sR_657 (T := S) (o := o0) rfl) (sR_658 (T := S) (o := o0) rfl) (sR_659 (T := S) (o := o0) rfl) (sR_661 (T := S) (o := o0) rfl) (sR_662 (T := S) (o := o0) rfl) (sR_672 (T := S) (o := o0) rfl) (sR_673 (T := S) (o := o0) rfl) (sR_674 (T := S) (o := o0) rfl) (sR_675 (T := S) (o := o0) rfl) (sR_660 (T := S) (o := o0) rfl))).trans hF.symm)))))
          · skip
            have h119 : Rg 255 255 x1 := rg_eq_l (rg_all x1) (⟨by decide, by decide⟩ : Rg 255 255 255) q106
            have hF : F_X10_readRest_p102 bs n (StR S o0) x1 x2 = F_X10_readRest_p322 bs n (StR S o0) (x1) (x2) := by
              exact q_X10_readRest_p102_4 q101 q103 q104 q105 q106
            exact tt_loc (ks := [0, 1, 2]) rfl (ce_X10_readRest_p322 hG (oa_af h0 hA) (br_af hb h0 hA) (fun r T x y h => hP r T x y (pv_tr hA h (by decide) (fun v T e => e.trans ((congrArg (fun q => F_X10_readRest_p322 bs n q (x1) (x2)) (stR_mk (sR_654 (T := S) (o := o0) rfl) (sR_655 (T := S) (o := o0) rfl) (sR_656 (T := S) (o := o0) rfl) (sR_657 (T := S) (o := o0) rfl) (sR_658 (T := S) (o := o0) rfl) (sR_659 (T := S) (o := o0) rfl) (sR_661 (T := S) (o := o0) rfl) (sR_662 (T := S) (o := o0) rfl) (sR_672 (T := S) (o := o0) rfl) (sR_673 (T := S) (o := o0) rfl) (sR_674 (T := S) (o := o0) rfl) (sR_675 (T := S) (o := o0) rfl) (sR_660 (T := S) (o := o0) rfl))).trans hF.symm)))))
        · skip
          have h120 : Rg 247 247 x1 := rg_eq_l (rg_all x1) (⟨by decide, by decide⟩ : Rg 247 247 247) q105
          have hF : F_X10_readRest_p102 bs n (StR S o0) x1 x2 = F_X10_readRest_p219 bs n (StR S o0) (x1) (x2) := by
            exact q_X10_readRest_p102_3 q101 q103 q104 q105
          exact tt_loc (ks := [0, 1, 2]) rfl (ce_X10_readRest_p219 hG (oa_af h0 hA) (br_af hb h0 hA) (fun r T x y h => hP r T x y (pv_tr hA h (by decide) (fun v T e => e.trans ((congrArg (fun q => F_X10_readRest_p219 bs n q (x1) (x2)) (stR_mk (sR_654 (T := S) (o := o0) rfl) (sR_655 (T := S) (o := o0) rfl) (sR_656 (T := S) (o := o0) rfl) (sR_657 (T := S) (o := o0) rfl) (sR_658 (T := S) (o := o0) rfl) (sR_659 (T := S) (o := o0) rfl) (sR_661 (T := S) (o := o0) rfl) (sR_662 (T := S) (o := o0) rfl) (sR_672 (T := S) (o := o0) rfl) (sR_673 (T := S) (o := o0) rfl) (sR_674 (T := S) (o := o0) rfl) (sR_675 (T := S) (o := o0) rfl) (sR_660 (T := S) (o := o0) rfl))).trans hF.symm)))))
      · skip
        have h121 : Rg 133 133 x1 := rg_eq_l (rg_all x1) (⟨by decide, by decide⟩ : Rg 133 133 133) q104
        have hF : F_X10_readRest_p102 bs n (StR S o0) x1 x2 = F_X10_readRest_p190 bs n (StR S o0) (x1) (x2) := by
          exact q_X10_readRest_p102_2 q101 q103 q104
        exact tt_loc (ks := [0, 1, 2]) rfl (ce_X10_readRest_p190 hG (oa_af h0 hA) (br_af hb h0 hA) (fun r T x y h => hP r T x y (pv_tr hA h (by decide) (fun v T e => e.trans ((congrArg (fun q => F_X10_readRest_p190 bs n q (x1) (x2)) (stR_mk (sR_654 (T := S) (o := o0) rfl) (sR_655 (T := S) (o := o0) rfl) (sR_656 (T := S) (o := o0) rfl) (sR_657 (T := S) (o := o0) rfl) (sR_658 (T := S) (o := o0) rfl) (sR_659 (T := S) (o := o0) rfl) (sR_661 (T := S) (o := o0) rfl) (sR_662 (T := S) (o := o0) rfl) (sR_672 (T := S) (o := o0) rfl) (sR_673 (T := S) (o := o0) rfl) (sR_674 (T := S) (o := o0) rfl) (sR_675 (T := S) (o := o0) rfl) (sR_660 (T := S) (o := o0) rfl))).trans hF.symm)))))
    · skip
      have h122 : Rg 131 131 x1 := rg_eq_l (rg_all x1) (⟨by decide, by decide⟩ : Rg 131 131 131) q103
      have hF : F_X10_readRest_p102 bs n (StR S o0) x1 x2 = F_X10_readRest_p116 bs n (StR S o0) (x1) (x2) := by
        exact q_X10_readRest_p102_1 q101 q103
      exact tt_loc (ks := [0, 1, 2]) rfl (ce_X10_readRest_p116 hG (oa_af h0 hA) (br_af hb h0 hA) (fun r T x y h => hP r T x y (pv_tr hA h (by decide) (fun v T e => e.trans ((congrArg (fun q => F_X10_readRest_p116 bs n q (x1) (x2)) (stR_mk (sR_654 (T := S) (o := o0) rfl) (sR_655 (T := S) (o := o0) rfl) (sR_656 (T := S) (o := o0) rfl) (sR_657 (T := S) (o := o0) rfl) (sR_658 (T := S) (o := o0) rfl) (sR_659 (T := S) (o := o0) rfl) (sR_661 (T := S) (o := o0) rfl) (sR_662 (T := S) (o := o0) rfl) (sR_672 (T := S) (o := o0) rfl) (sR_673 (T := S) (o := o0) rfl) (sR_674 (T := S) (o := o0) rfl) (sR_675 (T := S) (o := o0) rfl) (sR_660 (T := S) (o := o0) rfl))).trans hF.symm)))))
def F_X10_readRest_p53 (bs : Nat → Int32) (n : Int32) (d : DD) (x1 : Int32) (x2 : Int32) : DD :=
  if (x1 - x1 / 8 * 8) = 1 then
    let d117 := F_X10_take bs n d ((x1 / 8)) ((e9 d)) ((e8 d))
    d117
  else
    let d107 := F_X10_take bs n d ((x1 / 8)) ((e8 d)) ((e9 d))
    d107
theorem q_X10_readRest_p53_0 {bs : Nat → Int32} {n : Int32} {d : DD} {x1 : Int32} {x2 : Int32} (h0 : (x1 - x1 / 8 * 8) = 1) : F_X10_readRest_p53 bs n d x1 x2 = (F_X10_take bs n d ((x1 / 8)) ((e9 d)) ((e8 d))) := by unfold F_X10_readRest_p53; exact if_pos h0
theorem q_X10_readRest_p53_1 {bs : Nat → Int32} {n : Int32} {d : DD} {x1 : Int32} {x2 : Int32} (h0 : ¬ (x1 - x1 / 8 * 8) = 1) : F_X10_readRest_p53 bs n d x1 x2 = (F_X10_take bs n d ((x1 / 8)) ((e8 d)) ((e9 d))) := by unfold F_X10_readRest_p53; exact if_neg h0
set_option maxHeartbeats 40000000 in
theorem ce_X10_readRest_p53 {xi : SX} {S : Hp} {E : List Nat} {kc nc : Nat} {P : Po} {o0 : Nat} {x1 : Int32} {x2 : Int32} {bs : Nat → Int32} {n : Int32} (hG : GI S E) (h0 : Oa S E 10 0 o0) (hb : BR S E o0 bs n) (hP : ∀ r T x y, PV E [654, 655, 657, 658, 659, 662, 672, 673, 674, 675, 9998] S kc nc rV (fun v T => StR T o0 = F_X10_readRest_p53 bs n (StR S o0) x1 x2) [] r T x y → P r T x y) : TT xi M_X10_readRest 53 [(0, .ref o0), (1, .int x1), (2, .int x2)] [] S kc nc P := by
  have hA : Af E [654, 655, 657, 658, 659, 662, 672, 673, 674, 675, 9998] S S := af_rf
  refine tt_aload_n (j := 0) dX10_readRest_53 rfl ?_
  refine tt_iload_n (j := 1) dX10_readRest_54 rfl ?_
  refine tt_bipush (v := 8) dX10_readRest_55 rfl ?_
  refine tt_idiv dX10_readRest_57 (by decide) ?_
  refine tt_iload_n (j := 1) dX10_readRest_58 rfl ?_
  refine tt_bipush (v := 8) dX10_readRest_59 rfl ?_
  refine tt_irem dX10_readRest_61 (by decide) ?_
  refine tt_iconst (v := 1) dX10_readRest_62 rfl ?_
  refine tt_icmp_ne (tgt := 73) dX10_readRest_63 rfl (fun q101 => ?_) (fun q101 => ?_)
  · skip
    refine tt_aload_n (j := 0) dX10_readRest_73 rfl ?_
    refine gt_gI (id := 672) (v := (e8 (StR S o0))) dX10_readRest_74 fl_10_97 rfl rfl h0 hA (sR_672 (T := S) (o := o0) rfl) ?_
    refine tt_iload_n (j := 1) dX10_readRest_77 rfl ?_
    refine tt_bipush (v := 8) dX10_readRest_78 rfl ?_
    refine tt_irem dX10_readRest_80 (by decide) ?_
    refine tt_iconst (v := 1) dX10_readRest_81 rfl ?_
    refine tt_icmp_ne (tgt := 92) dX10_readRest_82 rfl (fun _ => ?_) (fun q => absurd q q101)
    refine tt_aload_n (j := 0) dX10_readRest_92 rfl ?_
    refine gt_gI (id := 673) (v := (e9 (StR S o0))) dX10_readRest_93 fl_10_100 rfl rfl h0 hA (sR_673 (T := S) (o := o0) rfl) ?_
    refine gt_Vv (As := [.int (x1 / 8), .int (e8 (StR S o0)), .int (e9 (StR S o0))]) dX10_readRest_96 ca_X10_123 ⟨by decide, by decide⟩ h0 hA rfl (Nat.le_of_ble_eq_true rfl) (Nat.le_of_ble_eq_true rfl) (by decide) (ce_X10_take hG (oa_af h0 hA) (br_af hb h0 hA) (fun _ _ _ _ h => h)) rfl (fun _ h => nomatch h) (fun S102 hx106 hG103 hB104 hA105 => ?_)
    obtain ⟨d107, hd108⟩ : ∃ q, F_X10_take bs n (StR S o0) ((x1 / 8)) ((e8 (StR S o0))) ((e9 (StR S o0))) = q := ⟨_, rfl⟩
    have hq109 := (congrArg (fun q => F_X10_take bs n q ((x1 / 8)) ((e8 (StR S o0))) ((e9 (StR S o0)))) (stR_mk (sR_654 (T := S) (o := o0) rfl) (sR_655 (T := S) (o := o0) rfl) (sR_656 (T := S) (o := o0) rfl) (sR_657 (T := S) (o := o0) rfl) (sR_658 (T := S) (o := o0) rfl) (sR_659 (T := S) (o := o0) rfl) (sR_661 (T := S) (o := o0) rfl) (sR_662 (T := S) (o := o0) rfl) (sR_672 (T := S) (o := o0) rfl) (sR_673 (T := S) (o := o0) rfl) (sR_674 (T := S) (o := o0) rfl) (sR_675 (T := S) (o := o0) rfl) (sR_660 (T := S) (o := o0) rfl))).trans hd108
    have hs110 := hx106.trans hq109
    refine tt_goto (tgt := 766) dX10_readRest_99 rfl ?_
    have hF : F_X10_readRest_p53 bs n (StR S o0) x1 x2 = d107 := by
      subst hd108
      exact q_X10_readRest_p53_1 q101
    exact tt_vreturn dX10_readRest_766 rfl (hP _ _ _ _ ⟨hG103, hA105, Or.inl ⟨_, rfl, rfl, Eq.trans (stR_mk (sR_654 hs110) (sR_655 hs110) (sR_656 hs110) (sR_657 hs110) (sR_658 hs110) (sR_659 hs110) (sR_661 hs110) (sR_662 hs110) (sR_672 hs110) (sR_673 hs110) (sR_674 hs110) (sR_675 hs110) (sR_660 hs110)) hF.symm, rfl, rfl⟩⟩)
  · skip
    have h111 : Rg 1 1 (x1 - x1 / 8 * 8) := rg_eq_l (rg_all (x1 - x1 / 8 * 8)) (⟨by decide, by decide⟩ : Rg 1 1 1) q101
    refine tt_aload_n (j := 0) dX10_readRest_66 rfl ?_
    refine gt_gI (id := 673) (v := (e9 (StR S o0))) dX10_readRest_67 fl_10_100 rfl rfl h0 hA (sR_673 (T := S) (o := o0) rfl) ?_
    refine tt_goto (tgt := 77) dX10_readRest_70 rfl ?_
    refine tt_iload_n (j := 1) dX10_readRest_77 rfl ?_
    refine tt_bipush (v := 8) dX10_readRest_78 rfl ?_
    refine tt_irem dX10_readRest_80 (by decide) ?_
    refine tt_iconst (v := 1) dX10_readRest_81 rfl ?_
    refine tt_icmp_ne (tgt := 92) dX10_readRest_82 rfl (fun q => absurd q101 q) (fun _ => ?_)
    refine tt_aload_n (j := 0) dX10_readRest_85 rfl ?_
    refine gt_gI (id := 672) (v := (e8 (StR S o0))) dX10_readRest_86 fl_10_97 rfl rfl h0 hA (sR_672 (T := S) (o := o0) rfl) ?_
    refine tt_goto (tgt := 96) dX10_readRest_89 rfl ?_
    refine gt_Vv (As := [.int (x1 / 8), .int (e9 (StR S o0)), .int (e8 (StR S o0))]) dX10_readRest_96 ca_X10_123 ⟨by decide, by decide⟩ h0 hA rfl (Nat.le_of_ble_eq_true rfl) (Nat.le_of_ble_eq_true rfl) (by decide) (ce_X10_take hG (oa_af h0 hA) (br_af hb h0 hA) (fun _ _ _ _ h => h)) rfl (fun _ h => nomatch h) (fun S112 hx116 hG113 hB114 hA115 => ?_)
    obtain ⟨d117, hd118⟩ : ∃ q, F_X10_take bs n (StR S o0) ((x1 / 8)) ((e9 (StR S o0))) ((e8 (StR S o0))) = q := ⟨_, rfl⟩
    have hq119 := (congrArg (fun q => F_X10_take bs n q ((x1 / 8)) ((e9 (StR S o0))) ((e8 (StR S o0)))) (stR_mk (sR_654 (T := S) (o := o0) rfl) (sR_655 (T := S) (o := o0) rfl) (sR_656 (T := S) (o := o0) rfl) (sR_657 (T := S) (o := o0) rfl) (sR_658 (T := S) (o := o0) rfl) (sR_659 (T := S) (o := o0) rfl) (sR_661 (T := S) (o := o0) rfl) (sR_662 (T := S) (o := o0) rfl) (sR_672 (T := S) (o := o0) rfl) (sR_673 (T := S) (o := o0) rfl) (sR_674 (T := S) (o := o0) rfl) (sR_675 (T := S) (o := o0) rfl) (sR_660 (T := S) (o := o0) rfl))).trans hd118
    have hs120 := hx116.trans hq119
    refine tt_goto (tgt := 766) dX10_readRest_99 rfl ?_
    have hF : F_X10_readRest_p53 bs n (StR S o0) x1 x2 = d117 := by
      subst hd118
      exact q_X10_readRest_p53_0 q101
    exact tt_vreturn dX10_readRest_766 rfl (hP _ _ _ _ ⟨hG113, hA115, Or.inl ⟨_, rfl, rfl, Eq.trans (stR_mk (sR_654 hs120) (sR_655 hs120) (sR_656 hs120) (sR_657 hs120) (sR_658 hs120) (sR_659 hs120) (sR_661 hs120) (sR_662 hs120) (sR_672 hs120) (sR_673 hs120) (sR_674 hs120) (sR_675 hs120) (sR_660 hs120)) hF.symm, rfl, rfl⟩⟩)
def F_X10_readRest_p22 (bs : Nat → Int32) (n : Int32) (d : DD) (x1 : Int32) (x2 : Int32) : DD :=
  let d106 := F_X10_readPlaces bs n d (x2)
  if (e7 d106) = 0 then
    if (F_X10_isSimple ((x1 / 8))) = 0 then
      F_X10_readRest_p53 bs n ((e0 d106), (e1 d106), (e2 d106), (e3 d106), (e4 d106), (e5 d106), (e6 d106), 1, (e8 d106), (e9 d106), (e10 d106), (e11 d106), (eJ d106)) (x1) (x2)
    else
      F_X10_readRest_p53 bs n ((e0 d106), (e1 d106), (e2 d106), (e3 d106), (e4 d106), (e5 d106), (e6 d106), 0, (e8 d106), (e9 d106), (e10 d106), (e11 d106), (eJ d106)) (x1) (x2)
  else
    F_X10_readRest_p53 bs n ((e0 d106), (e1 d106), (e2 d106), (e3 d106), (e4 d106), (e5 d106), (e6 d106), 1, (e8 d106), (e9 d106), (e10 d106), (e11 d106), (eJ d106)) (x1) (x2)
theorem q_X10_readRest_p22_0 {bs : Nat → Int32} {n : Int32} {d : DD} {x1 : Int32} {x2 : Int32} (h0 : (e7 (F_X10_readPlaces bs n d (x2))) = 0) (h1 : (F_X10_isSimple ((x1 / 8))) = 0) : F_X10_readRest_p22 bs n d x1 x2 = F_X10_readRest_p53 bs n ((e0 (F_X10_readPlaces bs n d (x2))), (e1 (F_X10_readPlaces bs n d (x2))), (e2 (F_X10_readPlaces bs n d (x2))), (e3 (F_X10_readPlaces bs n d (x2))), (e4 (F_X10_readPlaces bs n d (x2))), (e5 (F_X10_readPlaces bs n d (x2))), (e6 (F_X10_readPlaces bs n d (x2))), 1, (e8 (F_X10_readPlaces bs n d (x2))), (e9 (F_X10_readPlaces bs n d (x2))), (e10 (F_X10_readPlaces bs n d (x2))), (e11 (F_X10_readPlaces bs n d (x2))), (eJ (F_X10_readPlaces bs n d (x2)))) (x1) (x2) := by unfold F_X10_readRest_p22; exact Eq.trans (if_pos h0) (if_pos h1)
theorem q_X10_readRest_p22_1 {bs : Nat → Int32} {n : Int32} {d : DD} {x1 : Int32} {x2 : Int32} (h0 : (e7 (F_X10_readPlaces bs n d (x2))) = 0) (h1 : ¬ (F_X10_isSimple ((x1 / 8))) = 0) : F_X10_readRest_p22 bs n d x1 x2 = F_X10_readRest_p53 bs n ((e0 (F_X10_readPlaces bs n d (x2))), (e1 (F_X10_readPlaces bs n d (x2))), (e2 (F_X10_readPlaces bs n d (x2))), (e3 (F_X10_readPlaces bs n d (x2))), (e4 (F_X10_readPlaces bs n d (x2))), (e5 (F_X10_readPlaces bs n d (x2))), (e6 (F_X10_readPlaces bs n d (x2))), 0, (e8 (F_X10_readPlaces bs n d (x2))), (e9 (F_X10_readPlaces bs n d (x2))), (e10 (F_X10_readPlaces bs n d (x2))), (e11 (F_X10_readPlaces bs n d (x2))), (eJ (F_X10_readPlaces bs n d (x2)))) (x1) (x2) := by unfold F_X10_readRest_p22; exact Eq.trans (if_pos h0) (if_neg h1)
theorem q_X10_readRest_p22_2 {bs : Nat → Int32} {n : Int32} {d : DD} {x1 : Int32} {x2 : Int32} (h0 : ¬ (e7 (F_X10_readPlaces bs n d (x2))) = 0) : F_X10_readRest_p22 bs n d x1 x2 = F_X10_readRest_p53 bs n ((e0 (F_X10_readPlaces bs n d (x2))), (e1 (F_X10_readPlaces bs n d (x2))), (e2 (F_X10_readPlaces bs n d (x2))), (e3 (F_X10_readPlaces bs n d (x2))), (e4 (F_X10_readPlaces bs n d (x2))), (e5 (F_X10_readPlaces bs n d (x2))), (e6 (F_X10_readPlaces bs n d (x2))), 1, (e8 (F_X10_readPlaces bs n d (x2))), (e9 (F_X10_readPlaces bs n d (x2))), (e10 (F_X10_readPlaces bs n d (x2))), (e11 (F_X10_readPlaces bs n d (x2))), (eJ (F_X10_readPlaces bs n d (x2)))) (x1) (x2) := by unfold F_X10_readRest_p22; exact if_neg h0
set_option maxHeartbeats 40000000 in
theorem ce_X10_readRest_p22 {xi : SX} {S : Hp} {E : List Nat} {kc nc : Nat} {P : Po} {o0 : Nat} {x1 : Int32} {x2 : Int32} {bs : Nat → Int32} {n : Int32} (hG : GI S E) (h0 : Oa S E 10 0 o0) (hb : BR S E o0 bs n) (hP : ∀ r T x y, PV E [654, 655, 657, 658, 659, 662, 672, 673, 674, 675, 9998] S kc nc rV (fun v T => StR T o0 = F_X10_readRest_p22 bs n (StR S o0) x1 x2) [] r T x y → P r T x y) : TT xi M_X10_readRest 22 [(0, .ref o0), (1, .int x1), (2, .int x2)] [] S kc nc P := by
  have hA : Af E [654, 655, 657, 658, 659, 662, 672, 673, 674, 675, 9998] S S := af_rf
  refine tt_aload_n (j := 0) dX10_readRest_22 rfl ?_
  refine tt_iload_n (j := 2) dX10_readRest_23 rfl ?_
  refine gt_Vv (As := [.int x2]) dX10_readRest_24 ca_X10_137 ⟨by decide, by decide⟩ h0 hA rfl (Nat.le_of_ble_eq_true rfl) (Nat.le_of_ble_eq_true rfl) (by decide) (ce_X10_readPlaces hG (oa_af h0 hA) (br_af hb h0 hA) (fun _ _ _ _ h => h)) rfl (fun _ h => nomatch h) (fun S101 hx105 hG102 hB103 hA104 => ?_)
  obtain ⟨d106, hd107⟩ : ∃ q, F_X10_readPlaces bs n (StR S o0) (x2) = q := ⟨_, rfl⟩
  have hq108 := (congrArg (fun q => F_X10_readPlaces bs n q (x2)) (stR_mk (sR_654 (T := S) (o := o0) rfl) (sR_655 (T := S) (o := o0) rfl) (sR_656 (T := S) (o := o0) rfl) (sR_657 (T := S) (o := o0) rfl) (sR_658 (T := S) (o := o0) rfl) (sR_659 (T := S) (o := o0) rfl) (sR_661 (T := S) (o := o0) rfl) (sR_662 (T := S) (o := o0) rfl) (sR_672 (T := S) (o := o0) rfl) (sR_673 (T := S) (o := o0) rfl) (sR_674 (T := S) (o := o0) rfl) (sR_675 (T := S) (o := o0) rfl) (sR_660 (T := S) (o := o0) rfl))).trans hd107
  have hs109 := hx105.trans hq108
  refine tt_aload_n (j := 0) dX10_readRest_27 rfl ?_
  refine tt_aload_n (j := 0) dX10_readRest_28 rfl ?_
  refine gt_gI (id := 662) (v := (e7 d106)) dX10_readRest_29 fl_10_84 rfl rfl h0 hA104 (sR_662 hs109) ?_
  refine tt_if_ne (tgt := 45) dX10_readRest_32 rfl (fun q110 => ?_) (fun q110 => ?_)
  · skip
    refine tt_iconst (v := 1) dX10_readRest_45 rfl ?_
    refine tt_goto (tgt := 50) dX10_readRest_46 rfl ?_
    refine gt_pI (id := 662) (x := 1) dX10_readRest_50 fl_10_84 rfl rfl h0 hA104 rfl rfl rfl (gp_Ir hG102 (⟨by decide, by decide⟩ : Rg 1 1 1)) (by decide) (fun _ h => absurd (by decide) h) (fun h => absurd h (by decide)) (fun S111 hG112 hA113 e114 f115 er116 => ?_)
    have hF : F_X10_readRest_p22 bs n (StR S o0) x1 x2 = F_X10_readRest_p53 bs n ((e0 d106), (e1 d106), (e2 d106), (e3 d106), (e4 d106), (e5 d106), (e6 d106), 1, (e8 d106), (e9 d106), (e10 d106), (e11 d106), (eJ d106)) (x1) (x2) := by
      subst hd107
      exact q_X10_readRest_p22_2 q110
    exact tt_loc (ks := [0, 1, 2]) rfl (ce_X10_readRest_p53 hG112 (oa_af h0 hA113) (br_af hb h0 hA113) (fun r T x y h => hP r T x y (pv_tr hA113 h (by decide) (fun v T e => e.trans ((congrArg (fun q => F_X10_readRest_p53 bs n q (x1) (x2)) (stR_mk ((congrFun (congrFun e114 654) o0).trans ((congrFun (up2_ne (k := 654)) o0).trans (sR_654 hs109))) ((congrFun (congrFun e114 655) o0).trans ((congrFun (up2_ne (k := 655)) o0).trans (sR_655 hs109))) ((congrFun (congrFun e114 656) o0).trans ((congrFun (up2_ne (k := 656)) o0).trans (sR_656 hs109))) ((congrFun (congrFun e114 657) o0).trans ((congrFun (up2_ne (k := 657)) o0).trans (sR_657 hs109))) ((congrFun (congrFun e114 658) o0).trans ((congrFun (up2_ne (k := 658)) o0).trans (sR_658 hs109))) ((congrFun (congrFun e114 659) o0).trans ((congrFun (up2_ne (k := 659)) o0).trans (sR_659 hs109))) ((congrFun (congrFun e114 661) o0).trans ((congrFun (up2_ne (k := 661)) o0).trans (sR_661 hs109))) (by rw [e114]; exact up2_self) ((congrFun (congrFun e114 672) o0).trans ((congrFun (up2_ne (k := 672)) o0).trans (sR_672 hs109))) ((congrFun (congrFun e114 673) o0).trans ((congrFun (up2_ne (k := 673)) o0).trans (sR_673 hs109))) ((congrFun (congrFun e114 674) o0).trans ((congrFun (up2_ne (k := 674)) o0).trans (sR_674 hs109))) ((congrFun (congrFun e114 675) o0).trans ((congrFun (up2_ne (k := 675)) o0).trans (sR_675 hs109))) ((congrFun (congrFun f115 660) o0).trans (sR_660 hs109)))).trans hF.symm)))))
  · skip
    have h117 : Rg 0 0 (e7 d106) := rg_eq_l (rg_all (e7 d106)) (⟨by decide, by decide⟩ : Rg 0 0 0) q110
    refine tt_iload_n (j := 1) dX10_readRest_35 rfl ?_
    refine tt_bipush (v := 8) dX10_readRest_36 rfl ?_
    refine tt_idiv dX10_readRest_38 (by decide) ?_
    refine gt_SIp (As := [.int (x1 / 8)]) dX10_readRest_39 ca_X10_141 ⟨by decide, by decide⟩ hA104 (Nat.le_of_ble_eq_true rfl) (Nat.le_of_ble_eq_true rfl) (by decide) (ce_X10_isSimple hG102  (fun _ _ _ _ h => h)) rfl (fun _ h => nomatch h) (fun _ _ q => q.1) (fun x118 h119 hx120 => ?_)
    obtain rfl : F_X10_isSimple ((x1 / 8)) = x118 := (ei_w hx120.2).symm
    refine tt_if_ne (tgt := 49) dX10_readRest_42 rfl (fun q121 => ?_) (fun q121 => ?_)
    · skip
      have h122 : Rg 1 1 (F_X10_isSimple ((x1 / 8))) := rg_ne_lo h119 (⟨by decide, by decide⟩ : Rg 0 0 0) q121
      refine tt_iconst (v := 0) dX10_readRest_49 rfl ?_
      refine gt_pI (id := 662) (x := 0) dX10_readRest_50 fl_10_84 rfl rfl h0 hA104 rfl rfl rfl (gp_Ir hG102 (⟨by decide, by decide⟩ : Rg 0 0 0)) (by decide) (fun _ h => absurd (by decide) h) (fun h => absurd h (by decide)) (fun S123 hG124 hA125 e126 f127 er128 => ?_)
      have hF : F_X10_readRest_p22 bs n (StR S o0) x1 x2 = F_X10_readRest_p53 bs n ((e0 d106), (e1 d106), (e2 d106), (e3 d106), (e4 d106), (e5 d106), (e6 d106), 0, (e8 d106), (e9 d106), (e10 d106), (e11 d106), (eJ d106)) (x1) (x2) := by
        subst hd107
        exact q_X10_readRest_p22_1 q110 q121
      exact tt_loc (ks := [0, 1, 2]) rfl (ce_X10_readRest_p53 hG124 (oa_af h0 hA125) (br_af hb h0 hA125) (fun r T x y h => hP r T x y (pv_tr hA125 h (by decide) (fun v T e => e.trans ((congrArg (fun q => F_X10_readRest_p53 bs n q (x1) (x2)) (stR_mk ((congrFun (congrFun e126 654) o0).trans ((congrFun (up2_ne (k := 654)) o0).trans (sR_654 hs109))) ((congrFun (congrFun e126 655) o0).trans ((congrFun (up2_ne (k := 655)) o0).trans (sR_655 hs109))) ((congrFun (congrFun e126 656) o0).trans ((congrFun (up2_ne (k := 656)) o0).trans (sR_656 hs109))) ((congrFun (congrFun e126 657) o0).trans ((congrFun (up2_ne (k := 657)) o0).trans (sR_657 hs109))) ((congrFun (congrFun e126 658) o0).trans ((congrFun (up2_ne (k := 658)) o0).trans (sR_658 hs109))) ((congrFun (congrFun e126 659) o0).trans ((congrFun (up2_ne (k := 659)) o0).trans (sR_659 hs109))) ((congrFun (congrFun e126 661) o0).trans ((congrFun (up2_ne (k := 661)) o0).trans (sR_661 hs109))) (by rw [e126]; exact up2_self) ((congrFun (congrFun e126 672) o0).trans ((congrFun (up2_ne (k := 672)) o0).trans (sR_672 hs109))) ((congrFun (congrFun e126 673) o0).trans ((congrFun (up2_ne (k := 673)) o0).trans (sR_673 hs109))) ((congrFun (congrFun e126 674) o0).trans ((congrFun (up2_ne (k := 674)) o0).trans (sR_674 hs109))) ((congrFun (congrFun e126 675) o0).trans ((congrFun (up2_ne (k := 675)) o0).trans (sR_675 hs109))) ((congrFun (congrFun f127 660) o0).trans (sR_660 hs109)))).trans hF.symm)))))
    · skip
      have h129 : Rg 0 0 (F_X10_isSimple ((x1 / 8))) := rg_eq_l h119 (⟨by decide, by decide⟩ : Rg 0 0 0) q121
      refine tt_iconst (v := 1) dX10_readRest_45 rfl ?_
      refine tt_goto (tgt := 50) dX10_readRest_46 rfl ?_
      refine gt_pI (id := 662) (x := 1) dX10_readRest_50 fl_10_84 rfl rfl h0 hA104 rfl rfl rfl (gp_Ir hG102 (⟨by decide, by decide⟩ : Rg 1 1 1)) (by decide) (fun _ h => absurd (by decide) h) (fun h => absurd h (by decide)) (fun S130 hG131 hA132 e133 f134 er135 => ?_)
      have hF : F_X10_readRest_p22 bs n (StR S o0) x1 x2 = F_X10_readRest_p53 bs n ((e0 d106), (e1 d106), (e2 d106), (e3 d106), (e4 d106), (e5 d106), (e6 d106), 1, (e8 d106), (e9 d106), (e10 d106), (e11 d106), (eJ d106)) (x1) (x2) := by
        subst hd107
        exact q_X10_readRest_p22_0 q110 q121
      exact tt_loc (ks := [0, 1, 2]) rfl (ce_X10_readRest_p53 hG131 (oa_af h0 hA132) (br_af hb h0 hA132) (fun r T x y h => hP r T x y (pv_tr hA132 h (by decide) (fun v T e => e.trans ((congrArg (fun q => F_X10_readRest_p53 bs n q (x1) (x2)) (stR_mk ((congrFun (congrFun e133 654) o0).trans ((congrFun (up2_ne (k := 654)) o0).trans (sR_654 hs109))) ((congrFun (congrFun e133 655) o0).trans ((congrFun (up2_ne (k := 655)) o0).trans (sR_655 hs109))) ((congrFun (congrFun e133 656) o0).trans ((congrFun (up2_ne (k := 656)) o0).trans (sR_656 hs109))) ((congrFun (congrFun e133 657) o0).trans ((congrFun (up2_ne (k := 657)) o0).trans (sR_657 hs109))) ((congrFun (congrFun e133 658) o0).trans ((congrFun (up2_ne (k := 658)) o0).trans (sR_658 hs109))) ((congrFun (congrFun e133 659) o0).trans ((congrFun (up2_ne (k := 659)) o0).trans (sR_659 hs109))) ((congrFun (congrFun e133 661) o0).trans ((congrFun (up2_ne (k := 661)) o0).trans (sR_661 hs109))) (by rw [e133]; exact up2_self) ((congrFun (congrFun e133 672) o0).trans ((congrFun (up2_ne (k := 672)) o0).trans (sR_672 hs109))) ((congrFun (congrFun e133 673) o0).trans ((congrFun (up2_ne (k := 673)) o0).trans (sR_673 hs109))) ((congrFun (congrFun e133 674) o0).trans ((congrFun (up2_ne (k := 674)) o0).trans (sR_674 hs109))) ((congrFun (congrFun e133 675) o0).trans ((congrFun (up2_ne (k := 675)) o0).trans (sR_675 hs109))) ((congrFun (congrFun f134 660) o0).trans (sR_660 hs109)))).trans hF.symm)))))
def F_X10_readRest (bs : Nat → Int32) (n : Int32) (d : DD) (x1 : Int32) (x2 : Int32) : DD :=
  if 64 ≤ x1 then
    F_X10_readRest_p102 bs n d (x1) (x2)
  else
    if (x1 - x1 / 8 * 8) = 1 then
      F_X10_readRest_p22 bs n d (x1) (x2)
    else
      if (x1 - x1 / 8 * 8) = 3 then
        F_X10_readRest_p22 bs n d (x1) (x2)
      else
        F_X10_readRest_p102 bs n d (x1) (x2)
theorem q_X10_readRest_0 {bs : Nat → Int32} {n : Int32} {d : DD} {x1 : Int32} {x2 : Int32} (h0 : 64 ≤ x1) : F_X10_readRest bs n d x1 x2 = F_X10_readRest_p102 bs n d (x1) (x2) := by unfold F_X10_readRest; exact if_pos h0
theorem q_X10_readRest_1 {bs : Nat → Int32} {n : Int32} {d : DD} {x1 : Int32} {x2 : Int32} (h0 : ¬ 64 ≤ x1) (h1 : (x1 - x1 / 8 * 8) = 1) : F_X10_readRest bs n d x1 x2 = F_X10_readRest_p22 bs n d (x1) (x2) := by unfold F_X10_readRest; exact Eq.trans (if_neg h0) (if_pos h1)
theorem q_X10_readRest_2 {bs : Nat → Int32} {n : Int32} {d : DD} {x1 : Int32} {x2 : Int32} (h0 : ¬ 64 ≤ x1) (h1 : ¬ (x1 - x1 / 8 * 8) = 1) (h2 : (x1 - x1 / 8 * 8) = 3) : F_X10_readRest bs n d x1 x2 = F_X10_readRest_p22 bs n d (x1) (x2) := by unfold F_X10_readRest; exact Eq.trans (if_neg h0) (Eq.trans (if_neg h1) (if_pos h2))
theorem q_X10_readRest_3 {bs : Nat → Int32} {n : Int32} {d : DD} {x1 : Int32} {x2 : Int32} (h0 : ¬ 64 ≤ x1) (h1 : ¬ (x1 - x1 / 8 * 8) = 1) (h2 : ¬ (x1 - x1 / 8 * 8) = 3) : F_X10_readRest bs n d x1 x2 = F_X10_readRest_p102 bs n d (x1) (x2) := by unfold F_X10_readRest; exact Eq.trans (if_neg h0) (Eq.trans (if_neg h1) (if_neg h2))
set_option maxHeartbeats 40000000 in
theorem ce_X10_readRest {xi : SX} {S : Hp} {E : List Nat} {kc nc : Nat} {P : Po} {o0 : Nat} {x1 : Int32} {x2 : Int32} {bs : Nat → Int32} {n : Int32} (hG : GI S E) (h0 : Oa S E 10 0 o0) (hb : BR S E o0 bs n) (hP : ∀ r T x y, PV E [654, 655, 657, 658, 659, 662, 672, 673, 674, 675, 9998] S kc nc rV (fun v T => StR T o0 = F_X10_readRest bs n (StR S o0) x1 x2) [] r T x y → P r T x y) : TT xi M_X10_readRest 0 [(0, .ref o0), (1, .int x1), (2, .int x2)] [] S kc nc P := by
  have hA : Af E [654, 655, 657, 658, 659, 662, 672, 673, 674, 675, 9998] S S := af_rf
  refine tt_iload_n (j := 1) dX10_readRest_0 rfl ?_
  refine tt_bipush (v := 64) dX10_readRest_1 rfl ?_
  refine tt_icmp_ge (tgt := 102) dX10_readRest_3 rfl (fun q101 => ?_) (fun q101 => ?_)
  · skip
    have h102 : Rg 64 2147483647 x1 := rg_le_r (⟨by decide, by decide⟩ : Rg 64 64 64) (rg_all x1) q101
    have hF : F_X10_readRest bs n (StR S o0) x1 x2 = F_X10_readRest_p102 bs n (StR S o0) (x1) (x2) := by
      exact q_X10_readRest_0 q101
    exact tt_loc (ks := [0, 1, 2]) rfl (ce_X10_readRest_p102 hG (oa_af h0 hA) (br_af hb h0 hA) (fun r T x y h => hP r T x y (pv_tr hA h (by decide) (fun v T e => e.trans ((congrArg (fun q => F_X10_readRest_p102 bs n q (x1) (x2)) (stR_mk (sR_654 (T := S) (o := o0) rfl) (sR_655 (T := S) (o := o0) rfl) (sR_656 (T := S) (o := o0) rfl) (sR_657 (T := S) (o := o0) rfl) (sR_658 (T := S) (o := o0) rfl) (sR_659 (T := S) (o := o0) rfl) (sR_661 (T := S) (o := o0) rfl) (sR_662 (T := S) (o := o0) rfl) (sR_672 (T := S) (o := o0) rfl) (sR_673 (T := S) (o := o0) rfl) (sR_674 (T := S) (o := o0) rfl) (sR_675 (T := S) (o := o0) rfl) (sR_660 (T := S) (o := o0) rfl))).trans hF.symm)))))
  · skip
    have h103 : Rg (-2147483648) 63 x1 := rg_lt_l (rg_all x1) (⟨by decide, by decide⟩ : Rg 64 64 64) (nle_lt q101)
    refine tt_iload_n (j := 1) dX10_readRest_6 rfl ?_
    refine tt_bipush (v := 8) dX10_readRest_7 rfl ?_
    refine tt_irem dX10_readRest_9 (by decide) ?_
    refine tt_iconst (v := 1) dX10_readRest_10 rfl ?_
    refine tt_icmp_eq (tgt := 22) dX10_readRest_11 rfl (fun q104 => ?_) (fun q104 => ?_)
    · skip
      have h105 : Rg 1 1 (x1 - x1 / 8 * 8) := rg_eq_l (rg_all (x1 - x1 / 8 * 8)) (⟨by decide, by decide⟩ : Rg 1 1 1) q104
      have hF : F_X10_readRest bs n (StR S o0) x1 x2 = F_X10_readRest_p22 bs n (StR S o0) (x1) (x2) := by
        exact q_X10_readRest_1 q101 q104
      exact tt_loc (ks := [0, 1, 2]) rfl (ce_X10_readRest_p22 hG (oa_af h0 hA) (br_af hb h0 hA) (fun r T x y h => hP r T x y (pv_tr hA h (by decide) (fun v T e => e.trans ((congrArg (fun q => F_X10_readRest_p22 bs n q (x1) (x2)) (stR_mk (sR_654 (T := S) (o := o0) rfl) (sR_655 (T := S) (o := o0) rfl) (sR_656 (T := S) (o := o0) rfl) (sR_657 (T := S) (o := o0) rfl) (sR_658 (T := S) (o := o0) rfl) (sR_659 (T := S) (o := o0) rfl) (sR_661 (T := S) (o := o0) rfl) (sR_662 (T := S) (o := o0) rfl) (sR_672 (T := S) (o := o0) rfl) (sR_673 (T := S) (o := o0) rfl) (sR_674 (T := S) (o := o0) rfl) (sR_675 (T := S) (o := o0) rfl) (sR_660 (T := S) (o := o0) rfl))).trans hF.symm)))))
    · skip
      refine tt_iload_n (j := 1) dX10_readRest_14 rfl ?_
      refine tt_bipush (v := 8) dX10_readRest_15 rfl ?_
      refine tt_irem dX10_readRest_17 (by decide) ?_
      refine tt_iconst (v := 3) dX10_readRest_18 rfl ?_
      refine tt_icmp_ne (tgt := 102) dX10_readRest_19 rfl (fun q106 => ?_) (fun q106 => ?_)
      · skip
        have hF : F_X10_readRest bs n (StR S o0) x1 x2 = F_X10_readRest_p102 bs n (StR S o0) (x1) (x2) := by
          exact q_X10_readRest_3 q101 q104 q106
        exact tt_loc (ks := [0, 1, 2]) rfl (ce_X10_readRest_p102 hG (oa_af h0 hA) (br_af hb h0 hA) (fun r T x y h => hP r T x y (pv_tr hA h (by decide) (fun v T e => e.trans ((congrArg (fun q => F_X10_readRest_p102 bs n q (x1) (x2)) (stR_mk (sR_654 (T := S) (o := o0) rfl) (sR_655 (T := S) (o := o0) rfl) (sR_656 (T := S) (o := o0) rfl) (sR_657 (T := S) (o := o0) rfl) (sR_658 (T := S) (o := o0) rfl) (sR_659 (T := S) (o := o0) rfl) (sR_661 (T := S) (o := o0) rfl) (sR_662 (T := S) (o := o0) rfl) (sR_672 (T := S) (o := o0) rfl) (sR_673 (T := S) (o := o0) rfl) (sR_674 (T := S) (o := o0) rfl) (sR_675 (T := S) (o := o0) rfl) (sR_660 (T := S) (o := o0) rfl))).trans hF.symm)))))
      · skip
        have h107 : Rg 3 3 (x1 - x1 / 8 * 8) := rg_eq_l (rg_all (x1 - x1 / 8 * 8)) (⟨by decide, by decide⟩ : Rg 3 3 3) q106
        have hF : F_X10_readRest bs n (StR S o0) x1 x2 = F_X10_readRest_p22 bs n (StR S o0) (x1) (x2) := by
          exact q_X10_readRest_2 q101 q104 q106
        exact tt_loc (ks := [0, 1, 2]) rfl (ce_X10_readRest_p22 hG (oa_af h0 hA) (br_af hb h0 hA) (fun r T x y h => hP r T x y (pv_tr hA h (by decide) (fun v T e => e.trans ((congrArg (fun q => F_X10_readRest_p22 bs n q (x1) (x2)) (stR_mk (sR_654 (T := S) (o := o0) rfl) (sR_655 (T := S) (o := o0) rfl) (sR_656 (T := S) (o := o0) rfl) (sR_657 (T := S) (o := o0) rfl) (sR_658 (T := S) (o := o0) rfl) (sR_659 (T := S) (o := o0) rfl) (sR_661 (T := S) (o := o0) rfl) (sR_662 (T := S) (o := o0) rfl) (sR_672 (T := S) (o := o0) rfl) (sR_673 (T := S) (o := o0) rfl) (sR_674 (T := S) (o := o0) rfl) (sR_675 (T := S) (o := o0) rfl) (sR_660 (T := S) (o := o0) rfl))).trans hF.symm)))))
def F_X10_read_p178 (bs : Nat → Int32) (n : Int32) (d : DD) (x1 : Int32) : DD × Int32 :=
  if (e1 d) < 19 then
    if (e7 d) = 0 then
      (((e0 d), (e1 d), (e2 d), (e3 d), (e4 d), (e5 d), ((e0 d) - x1), (e7 d), (e8 d), (e9 d), (e10 d), (e11 d), (eJ d)), 1)
    else
      (((e0 d), (e1 d), (e2 d), (e3 d), (e4 d), (e5 d), ((e0 d) - x1), (e7 d), (e8 d), (e9 d), (e10 d), (e11 d), (eJ d)), 0)
  else
    if (e7 d) = 0 then
      (((e0 d), (e1 d), 0, (e3 d), (e4 d), (e5 d), ((e0 d) - x1), (e7 d), (e8 d), (e9 d), (e10 d), (e11 d), (eJ d)), 1)
    else
      (((e0 d), (e1 d), 0, (e3 d), (e4 d), (e5 d), ((e0 d) - x1), (e7 d), (e8 d), (e9 d), (e10 d), (e11 d), (eJ d)), 0)
theorem q_X10_read_p178_0 {bs : Nat → Int32} {n : Int32} {d : DD} {x1 : Int32} (h0 : (e1 d) < 19) (h1 : (e7 d) = 0) : F_X10_read_p178 bs n d x1 = (((e0 d), (e1 d), (e2 d), (e3 d), (e4 d), (e5 d), ((e0 d) - x1), (e7 d), (e8 d), (e9 d), (e10 d), (e11 d), (eJ d)), 1) := by unfold F_X10_read_p178; exact Eq.trans (if_pos h0) (if_pos h1)
theorem q_X10_read_p178_1 {bs : Nat → Int32} {n : Int32} {d : DD} {x1 : Int32} (h0 : (e1 d) < 19) (h1 : ¬ (e7 d) = 0) : F_X10_read_p178 bs n d x1 = (((e0 d), (e1 d), (e2 d), (e3 d), (e4 d), (e5 d), ((e0 d) - x1), (e7 d), (e8 d), (e9 d), (e10 d), (e11 d), (eJ d)), 0) := by unfold F_X10_read_p178; exact Eq.trans (if_pos h0) (if_neg h1)
theorem q_X10_read_p178_2 {bs : Nat → Int32} {n : Int32} {d : DD} {x1 : Int32} (h0 : ¬ (e1 d) < 19) (h1 : (e7 d) = 0) : F_X10_read_p178 bs n d x1 = (((e0 d), (e1 d), 0, (e3 d), (e4 d), (e5 d), ((e0 d) - x1), (e7 d), (e8 d), (e9 d), (e10 d), (e11 d), (eJ d)), 1) := by unfold F_X10_read_p178; exact Eq.trans (if_neg h0) (if_pos h1)
theorem q_X10_read_p178_3 {bs : Nat → Int32} {n : Int32} {d : DD} {x1 : Int32} (h0 : ¬ (e1 d) < 19) (h1 : ¬ (e7 d) = 0) : F_X10_read_p178 bs n d x1 = (((e0 d), (e1 d), 0, (e3 d), (e4 d), (e5 d), ((e0 d) - x1), (e7 d), (e8 d), (e9 d), (e10 d), (e11 d), (eJ d)), 0) := by unfold F_X10_read_p178; exact Eq.trans (if_neg h0) (if_neg h1)
set_option maxHeartbeats 40000000 in
theorem ce_X10_read_p178 {xi : SX} {S : Hp} {E : List Nat} {kc nc : Nat} {P : Po} {o0 : Nat} {x1 : Int32} {bs : Nat → Int32} {n : Int32} (hG : GI S E) (h0 : Oa S E 10 0 o0) (hb : BR S E o0 bs n) (hP : ∀ r T x y, PV E [656, 661, 9998] S kc nc (rI 0 1) (fun v T => XIR (F_X10_read_p178 bs n (StR S o0) x1) T o0 v) [] r T x y → P r T x y) : TT xi M_X10_read 178 [(0, .ref o0), (1, .int x1)] [] S kc nc P := by
  have hA : Af E [656, 661, 9998] S S := af_rf
  refine tt_aload_n (j := 0) dX10_read_178 rfl ?_
  refine tt_aload_n (j := 0) dX10_read_179 rfl ?_
  refine gt_gI (id := 654) (v := (e0 (StR S o0))) dX10_read_180 fl_10_81 rfl rfl h0 hA (sR_654 (T := S) (o := o0) rfl) ?_
  refine tt_iload_n (j := 1) dX10_read_183 rfl ?_
  refine tt_isub dX10_read_184 ?_
  refine gt_pI (id := 661) (x := ((e0 (StR S o0)) - x1)) dX10_read_185 fl_10_134 rfl rfl h0 hA rfl rfl rfl (gp_I hG) (by decide) (fun h => absurd h (by decide)) (fun h => absurd h (by decide)) (fun S101 hG102 hA103 e104 f105 er106 => ?_)
  refine tt_aload_n (j := 0) dX10_read_188 rfl ?_
  refine gt_gI (id := 655) (v := (e1 (StR S o0))) dX10_read_189 fl_10_107 rfl rfl h0 hA103 ((congrFun (congrFun e104 655) o0).trans ((congrFun (up2_ne (k := 655)) o0).trans (sR_655 (T := S) (o := o0) rfl))) ?_
  refine tt_bipush (v := 19) dX10_read_192 rfl ?_
  refine tt_icmp_lt (tgt := 202) dX10_read_194 rfl (fun q107 => ?_) (fun q107 => ?_)
  · skip
    have h108 : Rg (-2147483648) 18 (e1 (StR S o0)) := rg_lt_l (rg_all (e1 (StR S o0))) (⟨by decide, by decide⟩ : Rg 19 19 19) q107
    refine tt_aload_n (j := 0) dX10_read_202 rfl ?_
    refine gt_gI (id := 662) (v := (e7 (StR S o0))) dX10_read_203 fl_10_84 rfl rfl h0 hA103 ((congrFun (congrFun e104 662) o0).trans ((congrFun (up2_ne (k := 662)) o0).trans (sR_662 (T := S) (o := o0) rfl))) ?_
    refine tt_if_ne (tgt := 213) dX10_read_206 rfl (fun q109 => ?_) (fun q109 => ?_)
    · skip
      have h110 : Rg 1 1 (e7 (StR S o0)) := rg_ne_lo (gi_I (k := 662) hG h0 0 1) (⟨by decide, by decide⟩ : Rg 0 0 0) q109
      refine tt_iconst (v := 0) dX10_read_213 rfl ?_
      have hF : F_X10_read_p178 bs n (StR S o0) x1 = (((e0 (StR S o0)), (e1 (StR S o0)), (e2 (StR S o0)), (e3 (StR S o0)), (e4 (StR S o0)), (e5 (StR S o0)), ((e0 (StR S o0)) - x1), (e7 (StR S o0)), (e8 (StR S o0)), (e9 (StR S o0)), (e10 (StR S o0)), (e11 (StR S o0)), (eJ (StR S o0))), 0) := by
        exact q_X10_read_p178_1 q107 q109
      exact tt_ireturn dX10_read_214 .boolean rfl rfl (hP _ _ _ _ ⟨hG102, hA103, Or.inl ⟨_, rfl, ⟨_, rfl, rg_w (⟨by decide, by decide⟩ : Rg 0 0 0)⟩, xiR_mk hF (stR_mk ((congrFun (congrFun e104 654) o0).trans ((congrFun (up2_ne (k := 654)) o0).trans (sR_654 (T := S) (o := o0) rfl))) ((congrFun (congrFun e104 655) o0).trans ((congrFun (up2_ne (k := 655)) o0).trans (sR_655 (T := S) (o := o0) rfl))) ((congrFun (congrFun e104 656) o0).trans ((congrFun (up2_ne (k := 656)) o0).trans (sR_656 (T := S) (o := o0) rfl))) ((congrFun (congrFun e104 657) o0).trans ((congrFun (up2_ne (k := 657)) o0).trans (sR_657 (T := S) (o := o0) rfl))) ((congrFun (congrFun e104 658) o0).trans ((congrFun (up2_ne (k := 658)) o0).trans (sR_658 (T := S) (o := o0) rfl))) ((congrFun (congrFun e104 659) o0).trans ((congrFun (up2_ne (k := 659)) o0).trans (sR_659 (T := S) (o := o0) rfl))) (by rw [e104]; exact up2_self) ((congrFun (congrFun e104 662) o0).trans ((congrFun (up2_ne (k := 662)) o0).trans (sR_662 (T := S) (o := o0) rfl))) ((congrFun (congrFun e104 672) o0).trans ((congrFun (up2_ne (k := 672)) o0).trans (sR_672 (T := S) (o := o0) rfl))) ((congrFun (congrFun e104 673) o0).trans ((congrFun (up2_ne (k := 673)) o0).trans (sR_673 (T := S) (o := o0) rfl))) ((congrFun (congrFun e104 674) o0).trans ((congrFun (up2_ne (k := 674)) o0).trans (sR_674 (T := S) (o := o0) rfl))) ((congrFun (congrFun e104 675) o0).trans ((congrFun (up2_ne (k := 675)) o0).trans (sR_675 (T := S) (o := o0) rfl))) ((congrFun (congrFun f105 660) o0).trans (sR_660 (T := S) (o := o0) rfl))), rfl, rfl⟩⟩)
    · skip
      have h111 : Rg 0 0 (e7 (StR S o0)) := rg_eq_l (gi_I (k := 662) hG h0 0 1) (⟨by decide, by decide⟩ : Rg 0 0 0) q109
      refine tt_iconst (v := 1) dX10_read_209 rfl ?_
      refine tt_goto (tgt := 214) dX10_read_210 rfl ?_
      have hF : F_X10_read_p178 bs n (StR S o0) x1 = (((e0 (StR S o0)), (e1 (StR S o0)), (e2 (StR S o0)), (e3 (StR S o0)), (e4 (StR S o0)), (e5 (StR S o0)), ((e0 (StR S o0)) - x1), (e7 (StR S o0)), (e8 (StR S o0)), (e9 (StR S o0)), (e10 (StR S o0)), (e11 (StR S o0)), (eJ (StR S o0))), 1) := by
        exact q_X10_read_p178_0 q107 q109
      exact tt_ireturn dX10_read_214 .boolean rfl rfl (hP _ _ _ _ ⟨hG102, hA103, Or.inl ⟨_, rfl, ⟨_, rfl, rg_w (⟨by decide, by decide⟩ : Rg 1 1 1)⟩, xiR_mk hF (stR_mk ((congrFun (congrFun e104 654) o0).trans ((congrFun (up2_ne (k := 654)) o0).trans (sR_654 (T := S) (o := o0) rfl))) ((congrFun (congrFun e104 655) o0).trans ((congrFun (up2_ne (k := 655)) o0).trans (sR_655 (T := S) (o := o0) rfl))) ((congrFun (congrFun e104 656) o0).trans ((congrFun (up2_ne (k := 656)) o0).trans (sR_656 (T := S) (o := o0) rfl))) ((congrFun (congrFun e104 657) o0).trans ((congrFun (up2_ne (k := 657)) o0).trans (sR_657 (T := S) (o := o0) rfl))) ((congrFun (congrFun e104 658) o0).trans ((congrFun (up2_ne (k := 658)) o0).trans (sR_658 (T := S) (o := o0) rfl))) ((congrFun (congrFun e104 659) o0).trans ((congrFun (up2_ne (k := 659)) o0).trans (sR_659 (T := S) (o := o0) rfl))) (by rw [e104]; exact up2_self) ((congrFun (congrFun e104 662) o0).trans ((congrFun (up2_ne (k := 662)) o0).trans (sR_662 (T := S) (o := o0) rfl))) ((congrFun (congrFun e104 672) o0).trans ((congrFun (up2_ne (k := 672)) o0).trans (sR_672 (T := S) (o := o0) rfl))) ((congrFun (congrFun e104 673) o0).trans ((congrFun (up2_ne (k := 673)) o0).trans (sR_673 (T := S) (o := o0) rfl))) ((congrFun (congrFun e104 674) o0).trans ((congrFun (up2_ne (k := 674)) o0).trans (sR_674 (T := S) (o := o0) rfl))) ((congrFun (congrFun e104 675) o0).trans ((congrFun (up2_ne (k := 675)) o0).trans (sR_675 (T := S) (o := o0) rfl))) ((congrFun (congrFun f105 660) o0).trans (sR_660 (T := S) (o := o0) rfl))), rfl, rfl⟩⟩)
  · skip
    have h112 : Rg 19 2147483647 (e1 (StR S o0)) := rg_le_r (⟨by decide, by decide⟩ : Rg 19 19 19) (rg_all (e1 (StR S o0))) (nlt_le q107)
    refine tt_aload_n (j := 0) dX10_read_197 rfl ?_
    refine tt_iconst (v := 0) dX10_read_198 rfl ?_
    refine gt_pI (id := 656) (x := 0) dX10_read_199 fl_10_127 rfl rfl h0 hA103 rfl rfl rfl (gp_I hG102) (by decide) (fun h => absurd h (by decide)) (fun h => absurd h (by decide)) (fun S113 hG114 hA115 e116 f117 er118 => ?_)
    refine tt_aload_n (j := 0) dX10_read_202 rfl ?_
    refine gt_gI (id := 662) (v := (e7 (StR S o0))) dX10_read_203 fl_10_84 rfl rfl h0 hA115 ((congrFun (congrFun e116 662) o0).trans ((congrFun (up2_ne (k := 662)) o0).trans ((congrFun (congrFun e104 662) o0).trans ((congrFun (up2_ne (k := 662)) o0).trans (sR_662 (T := S) (o := o0) rfl))))) ?_
    refine tt_if_ne (tgt := 213) dX10_read_206 rfl (fun q119 => ?_) (fun q119 => ?_)
    · skip
      have h120 : Rg 1 1 (e7 (StR S o0)) := rg_ne_lo (gi_I (k := 662) hG h0 0 1) (⟨by decide, by decide⟩ : Rg 0 0 0) q119
      refine tt_iconst (v := 0) dX10_read_213 rfl ?_
      have hF : F_X10_read_p178 bs n (StR S o0) x1 = (((e0 (StR S o0)), (e1 (StR S o0)), 0, (e3 (StR S o0)), (e4 (StR S o0)), (e5 (StR S o0)), ((e0 (StR S o0)) - x1), (e7 (StR S o0)), (e8 (StR S o0)), (e9 (StR S o0)), (e10 (StR S o0)), (e11 (StR S o0)), (eJ (StR S o0))), 0) := by
        exact q_X10_read_p178_3 q107 q119
      exact tt_ireturn dX10_read_214 .boolean rfl rfl (hP _ _ _ _ ⟨hG114, hA115, Or.inl ⟨_, rfl, ⟨_, rfl, rg_w (⟨by decide, by decide⟩ : Rg 0 0 0)⟩, xiR_mk hF (stR_mk ((congrFun (congrFun e116 654) o0).trans ((congrFun (up2_ne (k := 654)) o0).trans ((congrFun (congrFun e104 654) o0).trans ((congrFun (up2_ne (k := 654)) o0).trans (sR_654 (T := S) (o := o0) rfl))))) ((congrFun (congrFun e116 655) o0).trans ((congrFun (up2_ne (k := 655)) o0).trans ((congrFun (congrFun e104 655) o0).trans ((congrFun (up2_ne (k := 655)) o0).trans (sR_655 (T := S) (o := o0) rfl))))) (by rw [e116]; exact up2_self) ((congrFun (congrFun e116 657) o0).trans ((congrFun (up2_ne (k := 657)) o0).trans ((congrFun (congrFun e104 657) o0).trans ((congrFun (up2_ne (k := 657)) o0).trans (sR_657 (T := S) (o := o0) rfl))))) ((congrFun (congrFun e116 658) o0).trans ((congrFun (up2_ne (k := 658)) o0).trans ((congrFun (congrFun e104 658) o0).trans ((congrFun (up2_ne (k := 658)) o0).trans (sR_658 (T := S) (o := o0) rfl))))) ((congrFun (congrFun e116 659) o0).trans ((congrFun (up2_ne (k := 659)) o0).trans ((congrFun (congrFun e104 659) o0).trans ((congrFun (up2_ne (k := 659)) o0).trans (sR_659 (T := S) (o := o0) rfl))))) ((congrFun (congrFun e116 661) o0).trans ((congrFun (up2_ne (k := 661)) o0).trans (by rw [e104]; exact up2_self))) ((congrFun (congrFun e116 662) o0).trans ((congrFun (up2_ne (k := 662)) o0).trans ((congrFun (congrFun e104 662) o0).trans ((congrFun (up2_ne (k := 662)) o0).trans (sR_662 (T := S) (o := o0) rfl))))) ((congrFun (congrFun e116 672) o0).trans ((congrFun (up2_ne (k := 672)) o0).trans ((congrFun (congrFun e104 672) o0).trans ((congrFun (up2_ne (k := 672)) o0).trans (sR_672 (T := S) (o := o0) rfl))))) ((congrFun (congrFun e116 673) o0).trans ((congrFun (up2_ne (k := 673)) o0).trans ((congrFun (congrFun e104 673) o0).trans ((congrFun (up2_ne (k := 673)) o0).trans (sR_673 (T := S) (o := o0) rfl))))) ((congrFun (congrFun e116 674) o0).trans ((congrFun (up2_ne (k := 674)) o0).trans ((congrFun (congrFun e104 674) o0).trans ((congrFun (up2_ne (k := 674)) o0).trans (sR_674 (T := S) (o := o0) rfl))))) ((congrFun (congrFun e116 675) o0).trans ((congrFun (up2_ne (k := 675)) o0).trans ((congrFun (congrFun e104 675) o0).trans ((congrFun (up2_ne (k := 675)) o0).trans (sR_675 (T := S) (o := o0) rfl))))) ((congrFun (congrFun f117 660) o0).trans ((congrFun (congrFun f105 660) o0).trans (sR_660 (T := S) (o := o0) rfl)))), rfl, rfl⟩⟩)
    · skip
      have h121 : Rg 0 0 (e7 (StR S o0)) := rg_eq_l (gi_I (k := 662) hG h0 0 1) (⟨by decide, by decide⟩ : Rg 0 0 0) q119
      refine tt_iconst (v := 1) dX10_read_209 rfl ?_
      refine tt_goto (tgt := 214) dX10_read_210 rfl ?_
      have hF : F_X10_read_p178 bs n (StR S o0) x1 = (((e0 (StR S o0)), (e1 (StR S o0)), 0, (e3 (StR S o0)), (e4 (StR S o0)), (e5 (StR S o0)), ((e0 (StR S o0)) - x1), (e7 (StR S o0)), (e8 (StR S o0)), (e9 (StR S o0)), (e10 (StR S o0)), (e11 (StR S o0)), (eJ (StR S o0))), 1) := by
        exact q_X10_read_p178_2 q107 q119
      exact tt_ireturn dX10_read_214 .boolean rfl rfl (hP _ _ _ _ ⟨hG114, hA115, Or.inl ⟨_, rfl, ⟨_, rfl, rg_w (⟨by decide, by decide⟩ : Rg 1 1 1)⟩, xiR_mk hF (stR_mk ((congrFun (congrFun e116 654) o0).trans ((congrFun (up2_ne (k := 654)) o0).trans ((congrFun (congrFun e104 654) o0).trans ((congrFun (up2_ne (k := 654)) o0).trans (sR_654 (T := S) (o := o0) rfl))))) ((congrFun (congrFun e116 655) o0).trans ((congrFun (up2_ne (k := 655)) o0).trans ((congrFun (congrFun e104 655) o0).trans ((congrFun (up2_ne (k := 655)) o0).trans (sR_655 (T := S) (o := o0) rfl))))) (by rw [e116]; exact up2_self) ((congrFun (congrFun e116 657) o0).trans ((congrFun (up2_ne (k := 657)) o0).trans ((congrFun (congrFun e104 657) o0).trans ((congrFun (up2_ne (k := 657)) o0).trans (sR_657 (T := S) (o := o0) rfl))))) ((congrFun (congrFun e116 658) o0).trans ((congrFun (up2_ne (k := 658)) o0).trans ((congrFun (congrFun e104 658) o0).trans ((congrFun (up2_ne (k := 658)) o0).trans (sR_658 (T := S) (o := o0) rfl))))) ((congrFun (congrFun e116 659) o0).trans ((congrFun (up2_ne (k := 659)) o0).trans ((congrFun (congrFun e104 659) o0).trans ((congrFun (up2_ne (k := 659)) o0).trans (sR_659 (T := S) (o := o0) rfl))))) ((congrFun (congrFun e116 661) o0).trans ((congrFun (up2_ne (k := 661)) o0).trans (by rw [e104]; exact up2_self))) ((congrFun (congrFun e116 662) o0).trans ((congrFun (up2_ne (k := 662)) o0).trans ((congrFun (congrFun e104 662) o0).trans ((congrFun (up2_ne (k := 662)) o0).trans (sR_662 (T := S) (o := o0) rfl))))) ((congrFun (congrFun e116 672) o0).trans ((congrFun (up2_ne (k := 672)) o0).trans ((congrFun (congrFun e104 672) o0).trans ((congrFun (up2_ne (k := 672)) o0).trans (sR_672 (T := S) (o := o0) rfl))))) ((congrFun (congrFun e116 673) o0).trans ((congrFun (up2_ne (k := 673)) o0).trans ((congrFun (congrFun e104 673) o0).trans ((congrFun (up2_ne (k := 673)) o0).trans (sR_673 (T := S) (o := o0) rfl))))) ((congrFun (congrFun e116 674) o0).trans ((congrFun (up2_ne (k := 674)) o0).trans ((congrFun (congrFun e104 674) o0).trans ((congrFun (up2_ne (k := 674)) o0).trans (sR_674 (T := S) (o := o0) rfl))))) ((congrFun (congrFun e116 675) o0).trans ((congrFun (up2_ne (k := 675)) o0).trans ((congrFun (congrFun e104 675) o0).trans ((congrFun (up2_ne (k := 675)) o0).trans (sR_675 (T := S) (o := o0) rfl))))) ((congrFun (congrFun f117 660) o0).trans ((congrFun (congrFun f105 660) o0).trans (sR_660 (T := S) (o := o0) rfl)))), rfl, rfl⟩⟩)
def F_X10_read_p141 (bs : Nat → Int32) (n : Int32) (d : DD) (x1 : Int32) (x4 : Int32) : DD × Int32 :=
  if (e7 d) = 0 then
    if x4 = 0 then
      F_X10_read_p178 bs n ((e0 d), (e1 d), (e2 d), (e3 d), (e4 d), (e5 d), (e6 d), 0, (e8 d), (e9 d), (e10 d), (e11 d), (eJ d)) (x1)
    else
      if (e3 d) = 4 then
        F_X10_read_p178 bs n ((e0 d), (e1 d), (e2 d), (e3 d), (e4 d), (e5 d), (e6 d), 1, (e8 d), (e9 d), (e10 d), (e11 d), (eJ d)) (x1)
      else
        if (e3 d) = 5 then
          F_X10_read_p178 bs n ((e0 d), (e1 d), (e2 d), (e3 d), (e4 d), (e5 d), (e6 d), 1, (e8 d), (e9 d), (e10 d), (e11 d), (eJ d)) (x1)
        else
          F_X10_read_p178 bs n ((e0 d), (e1 d), (e2 d), (e3 d), (e4 d), (e5 d), (e6 d), 0, (e8 d), (e9 d), (e10 d), (e11 d), (eJ d)) (x1)
  else
    F_X10_read_p178 bs n ((e0 d), (e1 d), (e2 d), (e3 d), (e4 d), (e5 d), (e6 d), 1, (e8 d), (e9 d), (e10 d), (e11 d), (eJ d)) (x1)
theorem q_X10_read_p141_0 {bs : Nat → Int32} {n : Int32} {d : DD} {x1 : Int32} {x4 : Int32} (h0 : (e7 d) = 0) (h1 : x4 = 0) : F_X10_read_p141 bs n d x1 x4 = F_X10_read_p178 bs n ((e0 d), (e1 d), (e2 d), (e3 d), (e4 d), (e5 d), (e6 d), 0, (e8 d), (e9 d), (e10 d), (e11 d), (eJ d)) (x1) := by unfold F_X10_read_p141; exact Eq.trans (if_pos h0) (if_pos h1)
theorem q_X10_read_p141_1 {bs : Nat → Int32} {n : Int32} {d : DD} {x1 : Int32} {x4 : Int32} (h0 : (e7 d) = 0) (h1 : ¬ x4 = 0) (h2 : (e3 d) = 4) : F_X10_read_p141 bs n d x1 x4 = F_X10_read_p178 bs n ((e0 d), (e1 d), (e2 d), (e3 d), (e4 d), (e5 d), (e6 d), 1, (e8 d), (e9 d), (e10 d), (e11 d), (eJ d)) (x1) := by unfold F_X10_read_p141; exact Eq.trans (if_pos h0) (Eq.trans (if_neg h1) (if_pos h2))
theorem q_X10_read_p141_2 {bs : Nat → Int32} {n : Int32} {d : DD} {x1 : Int32} {x4 : Int32} (h0 : (e7 d) = 0) (h1 : ¬ x4 = 0) (h2 : ¬ (e3 d) = 4) (h3 : (e3 d) = 5) : F_X10_read_p141 bs n d x1 x4 = F_X10_read_p178 bs n ((e0 d), (e1 d), (e2 d), (e3 d), (e4 d), (e5 d), (e6 d), 1, (e8 d), (e9 d), (e10 d), (e11 d), (eJ d)) (x1) := by unfold F_X10_read_p141; exact Eq.trans (if_pos h0) (Eq.trans (if_neg h1) (Eq.trans (if_neg h2) (if_pos h3)))
theorem q_X10_read_p141_3 {bs : Nat → Int32} {n : Int32} {d : DD} {x1 : Int32} {x4 : Int32} (h0 : (e7 d) = 0) (h1 : ¬ x4 = 0) (h2 : ¬ (e3 d) = 4) (h3 : ¬ (e3 d) = 5) : F_X10_read_p141 bs n d x1 x4 = F_X10_read_p178 bs n ((e0 d), (e1 d), (e2 d), (e3 d), (e4 d), (e5 d), (e6 d), 0, (e8 d), (e9 d), (e10 d), (e11 d), (eJ d)) (x1) := by unfold F_X10_read_p141; exact Eq.trans (if_pos h0) (Eq.trans (if_neg h1) (Eq.trans (if_neg h2) (if_neg h3)))
theorem q_X10_read_p141_4 {bs : Nat → Int32} {n : Int32} {d : DD} {x1 : Int32} {x4 : Int32} (h0 : ¬ (e7 d) = 0) : F_X10_read_p141 bs n d x1 x4 = F_X10_read_p178 bs n ((e0 d), (e1 d), (e2 d), (e3 d), (e4 d), (e5 d), (e6 d), 1, (e8 d), (e9 d), (e10 d), (e11 d), (eJ d)) (x1) := by unfold F_X10_read_p141; exact if_neg h0
set_option maxHeartbeats 40000000 in
theorem ce_X10_read_p141 {xi : SX} {S : Hp} {E : List Nat} {kc nc : Nat} {P : Po} {o0 : Nat} {x1 : Int32} {x4 : Int32} {bs : Nat → Int32} {n : Int32} (hG : GI S E) (h0 : Oa S E 10 0 o0) (hb : BR S E o0 bs n) (hP : ∀ r T x y, PV E [656, 661, 662, 9998] S kc nc (rI 0 1) (fun v T => XIR (F_X10_read_p141 bs n (StR S o0) x1 x4) T o0 v) [] r T x y → P r T x y) : TT xi M_X10_read 141 [(0, .ref o0), (1, .int x1), (4, .int x4)] [] S kc nc P := by
  have hA : Af E [656, 661, 662, 9998] S S := af_rf
  refine tt_aload_n (j := 0) dX10_read_141 rfl ?_
  refine tt_aload_n (j := 0) dX10_read_142 rfl ?_
  refine gt_gI (id := 662) (v := (e7 (StR S o0))) dX10_read_143 fl_10_84 rfl rfl h0 hA (sR_662 (T := S) (o := o0) rfl) ?_
  refine tt_if_ne (tgt := 170) dX10_read_146 rfl (fun q101 => ?_) (fun q101 => ?_)
  · skip
    have h102 : Rg 1 1 (e7 (StR S o0)) := rg_ne_lo (gi_I (k := 662) hG h0 0 1) (⟨by decide, by decide⟩ : Rg 0 0 0) q101
    refine tt_iconst (v := 1) dX10_read_170 rfl ?_
    refine tt_goto (tgt := 175) dX10_read_171 rfl ?_
    refine gt_pI (id := 662) (x := 1) dX10_read_175 fl_10_84 rfl rfl h0 hA rfl rfl rfl (gp_Ir hG (⟨by decide, by decide⟩ : Rg 1 1 1)) (by decide) (fun _ h => absurd (by decide) h) (fun h => absurd h (by decide)) (fun S103 hG104 hA105 e106 f107 er108 => ?_)
    have hF : F_X10_read_p141 bs n (StR S o0) x1 x4 = F_X10_read_p178 bs n ((e0 (StR S o0)), (e1 (StR S o0)), (e2 (StR S o0)), (e3 (StR S o0)), (e4 (StR S o0)), (e5 (StR S o0)), (e6 (StR S o0)), 1, (e8 (StR S o0)), (e9 (StR S o0)), (e10 (StR S o0)), (e11 (StR S o0)), (eJ (StR S o0))) (x1) := by
      exact q_X10_read_p141_4 q101
    exact tt_loc (ks := [0, 1]) rfl (ce_X10_read_p178 hG104 (oa_af h0 hA105) (br_af hb h0 hA105) (fun r T x y h => hP r T x y (pv_tr hA105 h (by decide) (fun v T e => (((congrArg (fun q => F_X10_read_p178 bs n q (x1)) (stR_mk ((congrFun (congrFun e106 654) o0).trans ((congrFun (up2_ne (k := 654)) o0).trans (sR_654 (T := S) (o := o0) rfl))) ((congrFun (congrFun e106 655) o0).trans ((congrFun (up2_ne (k := 655)) o0).trans (sR_655 (T := S) (o := o0) rfl))) ((congrFun (congrFun e106 656) o0).trans ((congrFun (up2_ne (k := 656)) o0).trans (sR_656 (T := S) (o := o0) rfl))) ((congrFun (congrFun e106 657) o0).trans ((congrFun (up2_ne (k := 657)) o0).trans (sR_657 (T := S) (o := o0) rfl))) ((congrFun (congrFun e106 658) o0).trans ((congrFun (up2_ne (k := 658)) o0).trans (sR_658 (T := S) (o := o0) rfl))) ((congrFun (congrFun e106 659) o0).trans ((congrFun (up2_ne (k := 659)) o0).trans (sR_659 (T := S) (o := o0) rfl))) ((congrFun (congrFun e106 661) o0).trans ((congrFun (up2_ne (k := 661)) o0).trans (sR_661 (T := S) (o := o0) rfl))) (by rw [e106]; exact up2_self) ((congrFun (congrFun e106 672) o0).trans ((congrFun (up2_ne (k := 672)) o0).trans (sR_672 (T := S) (o := o0) rfl))) ((congrFun (congrFun e106 673) o0).trans ((congrFun (up2_ne (k := 673)) o0).trans (sR_673 (T := S) (o := o0) rfl))) ((congrFun (congrFun e106 674) o0).trans ((congrFun (up2_ne (k := 674)) o0).trans (sR_674 (T := S) (o := o0) rfl))) ((congrFun (congrFun e106 675) o0).trans ((congrFun (up2_ne (k := 675)) o0).trans (sR_675 (T := S) (o := o0) rfl))) ((congrFun (congrFun f107 660) o0).trans (sR_660 (T := S) (o := o0) rfl)))).trans hF.symm) ▸ e)))))
  · skip
    have h109 : Rg 0 0 (e7 (StR S o0)) := rg_eq_l (gi_I (k := 662) hG h0 0 1) (⟨by decide, by decide⟩ : Rg 0 0 0) q101
    refine tt_iload (j := 2) dX10_read_149 rfl ?_
    refine tt_if_eq (tgt := 174) dX10_read_151 rfl (fun q110 => ?_) (fun q110 => ?_)
    · skip
      have h111 : Rg 0 0 x4 := rg_eq_l (rg_all x4) (⟨by decide, by decide⟩ : Rg 0 0 0) q110
      refine tt_iconst (v := 0) dX10_read_174 rfl ?_
      refine gt_pI (id := 662) (x := 0) dX10_read_175 fl_10_84 rfl rfl h0 hA rfl rfl rfl (gp_Ir hG (⟨by decide, by decide⟩ : Rg 0 0 0)) (by decide) (fun _ h => absurd (by decide) h) (fun h => absurd h (by decide)) (fun S112 hG113 hA114 e115 f116 er117 => ?_)
      have hF : F_X10_read_p141 bs n (StR S o0) x1 x4 = F_X10_read_p178 bs n ((e0 (StR S o0)), (e1 (StR S o0)), (e2 (StR S o0)), (e3 (StR S o0)), (e4 (StR S o0)), (e5 (StR S o0)), (e6 (StR S o0)), 0, (e8 (StR S o0)), (e9 (StR S o0)), (e10 (StR S o0)), (e11 (StR S o0)), (eJ (StR S o0))) (x1) := by
        exact q_X10_read_p141_0 q101 q110
      exact tt_loc (ks := [0, 1]) rfl (ce_X10_read_p178 hG113 (oa_af h0 hA114) (br_af hb h0 hA114) (fun r T x y h => hP r T x y (pv_tr hA114 h (by decide) (fun v T e => (((congrArg (fun q => F_X10_read_p178 bs n q (x1)) (stR_mk ((congrFun (congrFun e115 654) o0).trans ((congrFun (up2_ne (k := 654)) o0).trans (sR_654 (T := S) (o := o0) rfl))) ((congrFun (congrFun e115 655) o0).trans ((congrFun (up2_ne (k := 655)) o0).trans (sR_655 (T := S) (o := o0) rfl))) ((congrFun (congrFun e115 656) o0).trans ((congrFun (up2_ne (k := 656)) o0).trans (sR_656 (T := S) (o := o0) rfl))) ((congrFun (congrFun e115 657) o0).trans ((congrFun (up2_ne (k := 657)) o0).trans (sR_657 (T := S) (o := o0) rfl))) ((congrFun (congrFun e115 658) o0).trans ((congrFun (up2_ne (k := 658)) o0).trans (sR_658 (T := S) (o := o0) rfl))) ((congrFun (congrFun e115 659) o0).trans ((congrFun (up2_ne (k := 659)) o0).trans (sR_659 (T := S) (o := o0) rfl))) ((congrFun (congrFun e115 661) o0).trans ((congrFun (up2_ne (k := 661)) o0).trans (sR_661 (T := S) (o := o0) rfl))) (by rw [e115]; exact up2_self) ((congrFun (congrFun e115 672) o0).trans ((congrFun (up2_ne (k := 672)) o0).trans (sR_672 (T := S) (o := o0) rfl))) ((congrFun (congrFun e115 673) o0).trans ((congrFun (up2_ne (k := 673)) o0).trans (sR_673 (T := S) (o := o0) rfl))) ((congrFun (congrFun e115 674) o0).trans ((congrFun (up2_ne (k := 674)) o0).trans (sR_674 (T := S) (o := o0) rfl))) ((congrFun (congrFun e115 675) o0).trans ((congrFun (up2_ne (k := 675)) o0).trans (sR_675 (T := S) (o := o0) rfl))) ((congrFun (congrFun f116 660) o0).trans (sR_660 (T := S) (o := o0) rfl)))).trans hF.symm) ▸ e)))))
    · skip
      refine tt_aload_n (j := 0) dX10_read_154 rfl ?_
      refine gt_gI (id := 657) (v := (e3 (StR S o0))) dX10_read_155 fl_10_110 rfl rfl h0 hA (sR_657 (T := S) (o := o0) rfl) ?_
      refine tt_iconst (v := 4) dX10_read_158 rfl ?_
      refine tt_icmp_eq (tgt := 170) dX10_read_159 rfl (fun q118 => ?_) (fun q118 => ?_)
      · skip
        have h119 : Rg 4 4 (e3 (StR S o0)) := rg_eq_l (rg_all (e3 (StR S o0))) (⟨by decide, by decide⟩ : Rg 4 4 4) q118
        refine tt_iconst (v := 1) dX10_read_170 rfl ?_
        refine tt_goto (tgt := 175) dX10_read_171 rfl ?_
        refine gt_pI (id := 662) (x := 1) dX10_read_175 fl_10_84 rfl rfl h0 hA rfl rfl rfl (gp_Ir hG (⟨by decide, by decide⟩ : Rg 1 1 1)) (by decide) (fun _ h => absurd (by decide) h) (fun h => absurd h (by decide)) (fun S120 hG121 hA122 e123 f124 er125 => ?_)
        have hF : F_X10_read_p141 bs n (StR S o0) x1 x4 = F_X10_read_p178 bs n ((e0 (StR S o0)), (e1 (StR S o0)), (e2 (StR S o0)), (e3 (StR S o0)), (e4 (StR S o0)), (e5 (StR S o0)), (e6 (StR S o0)), 1, (e8 (StR S o0)), (e9 (StR S o0)), (e10 (StR S o0)), (e11 (StR S o0)), (eJ (StR S o0))) (x1) := by
          exact q_X10_read_p141_1 q101 q110 q118
        exact tt_loc (ks := [0, 1]) rfl (ce_X10_read_p178 hG121 (oa_af h0 hA122) (br_af hb h0 hA122) (fun r T x y h => hP r T x y (pv_tr hA122 h (by decide) (fun v T e => (((congrArg (fun q => F_X10_read_p178 bs n q (x1)) (stR_mk ((congrFun (congrFun e123 654) o0).trans ((congrFun (up2_ne (k := 654)) o0).trans (sR_654 (T := S) (o := o0) rfl))) ((congrFun (congrFun e123 655) o0).trans ((congrFun (up2_ne (k := 655)) o0).trans (sR_655 (T := S) (o := o0) rfl))) ((congrFun (congrFun e123 656) o0).trans ((congrFun (up2_ne (k := 656)) o0).trans (sR_656 (T := S) (o := o0) rfl))) ((congrFun (congrFun e123 657) o0).trans ((congrFun (up2_ne (k := 657)) o0).trans (sR_657 (T := S) (o := o0) rfl))) ((congrFun (congrFun e123 658) o0).trans ((congrFun (up2_ne (k := 658)) o0).trans (sR_658 (T := S) (o := o0) rfl))) ((congrFun (congrFun e123 659) o0).trans ((congrFun (up2_ne (k := 659)) o0).trans (sR_659 (T := S) (o := o0) rfl))) ((congrFun (congrFun e123 661) o0).trans ((congrFun (up2_ne (k := 661)) o0).trans (sR_661 (T := S) (o := o0) rfl))) (by rw [e123]; exact up2_self) ((congrFun (congrFun e123 672) o0).trans ((congrFun (up2_ne (k := 672)) o0).trans (sR_672 (T := S) (o := o0) rfl))) ((congrFun (congrFun e123 673) o0).trans ((congrFun (up2_ne (k := 673)) o0).trans (sR_673 (T := S) (o := o0) rfl))) ((congrFun (congrFun e123 674) o0).trans ((congrFun (up2_ne (k := 674)) o0).trans (sR_674 (T := S) (o := o0) rfl))) ((congrFun (congrFun e123 675) o0).trans ((congrFun (up2_ne (k := 675)) o0).trans (sR_675 (T := S) (o := o0) rfl))) ((congrFun (congrFun f124 660) o0).trans (sR_660 (T := S) (o := o0) rfl)))).trans hF.symm) ▸ e)))))
      · skip
        refine tt_aload_n (j := 0) dX10_read_162 rfl ?_
        refine gt_gI (id := 657) (v := (e3 (StR S o0))) dX10_read_163 fl_10_110 rfl rfl h0 hA (sR_657 (T := S) (o := o0) rfl) ?_
        refine tt_iconst (v := 5) dX10_read_166 rfl ?_
        refine tt_icmp_ne (tgt := 174) dX10_read_167 rfl (fun q126 => ?_) (fun q126 => ?_)
        · skip
          refine tt_iconst (v := 0) dX10_read_174 rfl ?_
          refine gt_pI (id := 662) (x := 0) dX10_read_175 fl_10_84 rfl rfl h0 hA rfl rfl rfl (gp_Ir hG (⟨by decide, by decide⟩ : Rg 0 0 0)) (by decide) (fun _ h => absurd (by decide) h) (fun h => absurd h (by decide)) (fun S127 hG128 hA129 e130 f131 er132 => ?_)
          have hF : F_X10_read_p141 bs n (StR S o0) x1 x4 = F_X10_read_p178 bs n ((e0 (StR S o0)), (e1 (StR S o0)), (e2 (StR S o0)), (e3 (StR S o0)), (e4 (StR S o0)), (e5 (StR S o0)), (e6 (StR S o0)), 0, (e8 (StR S o0)), (e9 (StR S o0)), (e10 (StR S o0)), (e11 (StR S o0)), (eJ (StR S o0))) (x1) := by
            exact q_X10_read_p141_3 q101 q110 q118 q126
          exact tt_loc (ks := [0, 1]) rfl (ce_X10_read_p178 hG128 (oa_af h0 hA129) (br_af hb h0 hA129) (fun r T x y h => hP r T x y (pv_tr hA129 h (by decide) (fun v T e => (((congrArg (fun q => F_X10_read_p178 bs n q (x1)) (stR_mk ((congrFun (congrFun e130 654) o0).trans ((congrFun (up2_ne (k := 654)) o0).trans (sR_654 (T := S) (o := o0) rfl))) ((congrFun (congrFun e130 655) o0).trans ((congrFun (up2_ne (k := 655)) o0).trans (sR_655 (T := S) (o := o0) rfl))) ((congrFun (congrFun e130 656) o0).trans ((congrFun (up2_ne (k := 656)) o0).trans (sR_656 (T := S) (o := o0) rfl))) ((congrFun (congrFun e130 657) o0).trans ((congrFun (up2_ne (k := 657)) o0).trans (sR_657 (T := S) (o := o0) rfl))) ((congrFun (congrFun e130 658) o0).trans ((congrFun (up2_ne (k := 658)) o0).trans (sR_658 (T := S) (o := o0) rfl))) ((congrFun (congrFun e130 659) o0).trans ((congrFun (up2_ne (k := 659)) o0).trans (sR_659 (T := S) (o := o0) rfl))) ((congrFun (congrFun e130 661) o0).trans ((congrFun (up2_ne (k := 661)) o0).trans (sR_661 (T := S) (o := o0) rfl))) (by rw [e130]; exact up2_self) ((congrFun (congrFun e130 672) o0).trans ((congrFun (up2_ne (k := 672)) o0).trans (sR_672 (T := S) (o := o0) rfl))) ((congrFun (congrFun e130 673) o0).trans ((congrFun (up2_ne (k := 673)) o0).trans (sR_673 (T := S) (o := o0) rfl))) ((congrFun (congrFun e130 674) o0).trans ((congrFun (up2_ne (k := 674)) o0).trans (sR_674 (T := S) (o := o0) rfl))) ((congrFun (congrFun e130 675) o0).trans ((congrFun (up2_ne (k := 675)) o0).trans (sR_675 (T := S) (o := o0) rfl))) ((congrFun (congrFun f131 660) o0).trans (sR_660 (T := S) (o := o0) rfl)))).trans hF.symm) ▸ e)))))
        · skip
          have h133 : Rg 5 5 (e3 (StR S o0)) := rg_eq_l (rg_all (e3 (StR S o0))) (⟨by decide, by decide⟩ : Rg 5 5 5) q126
          refine tt_iconst (v := 1) dX10_read_170 rfl ?_
          refine tt_goto (tgt := 175) dX10_read_171 rfl ?_
          refine gt_pI (id := 662) (x := 1) dX10_read_175 fl_10_84 rfl rfl h0 hA rfl rfl rfl (gp_Ir hG (⟨by decide, by decide⟩ : Rg 1 1 1)) (by decide) (fun _ h => absurd (by decide) h) (fun h => absurd h (by decide)) (fun S134 hG135 hA136 e137 f138 er139 => ?_)
          have hF : F_X10_read_p141 bs n (StR S o0) x1 x4 = F_X10_read_p178 bs n ((e0 (StR S o0)), (e1 (StR S o0)), (e2 (StR S o0)), (e3 (StR S o0)), (e4 (StR S o0)), (e5 (StR S o0)), (e6 (StR S o0)), 1, (e8 (StR S o0)), (e9 (StR S o0)), (e10 (StR S o0)), (e11 (StR S o0)), (eJ (StR S o0))) (x1) := by
            exact q_X10_read_p141_2 q101 q110 q118 q126
          exact tt_loc (ks := [0, 1]) rfl (ce_X10_read_p178 hG135 (oa_af h0 hA136) (br_af hb h0 hA136) (fun r T x y h => hP r T x y (pv_tr hA136 h (by decide) (fun v T e => (((congrArg (fun q => F_X10_read_p178 bs n q (x1)) (stR_mk ((congrFun (congrFun e137 654) o0).trans ((congrFun (up2_ne (k := 654)) o0).trans (sR_654 (T := S) (o := o0) rfl))) ((congrFun (congrFun e137 655) o0).trans ((congrFun (up2_ne (k := 655)) o0).trans (sR_655 (T := S) (o := o0) rfl))) ((congrFun (congrFun e137 656) o0).trans ((congrFun (up2_ne (k := 656)) o0).trans (sR_656 (T := S) (o := o0) rfl))) ((congrFun (congrFun e137 657) o0).trans ((congrFun (up2_ne (k := 657)) o0).trans (sR_657 (T := S) (o := o0) rfl))) ((congrFun (congrFun e137 658) o0).trans ((congrFun (up2_ne (k := 658)) o0).trans (sR_658 (T := S) (o := o0) rfl))) ((congrFun (congrFun e137 659) o0).trans ((congrFun (up2_ne (k := 659)) o0).trans (sR_659 (T := S) (o := o0) rfl))) ((congrFun (congrFun e137 661) o0).trans ((congrFun (up2_ne (k := 661)) o0).trans (sR_661 (T := S) (o := o0) rfl))) (by rw [e137]; exact up2_self) ((congrFun (congrFun e137 672) o0).trans ((congrFun (up2_ne (k := 672)) o0).trans (sR_672 (T := S) (o := o0) rfl))) ((congrFun (congrFun e137 673) o0).trans ((congrFun (up2_ne (k := 673)) o0).trans (sR_673 (T := S) (o := o0) rfl))) ((congrFun (congrFun e137 674) o0).trans ((congrFun (up2_ne (k := 674)) o0).trans (sR_674 (T := S) (o := o0) rfl))) ((congrFun (congrFun e137 675) o0).trans ((congrFun (up2_ne (k := 675)) o0).trans (sR_675 (T := S) (o := o0) rfl))) ((congrFun (congrFun f138 660) o0).trans (sR_660 (T := S) (o := o0) rfl)))).trans hF.symm) ▸ e)))))
def F_X10_read_p107 (bs : Nat → Int32) (n : Int32) (d : DD) (x1 : Int32) : DD × Int32 :=
  if (e1 d) = 7 then
    F_X10_read_p141 bs n d (x1) (0)
  else
    if (e1 d) = 8 then
      F_X10_read_p141 bs n d (x1) (0)
    else
      if 19 ≤ (e1 d) then
        F_X10_read_p141 bs n d (x1) (0)
      else
        F_X10_read_p141 bs n d (x1) (1)
theorem q_X10_read_p107_0 {bs : Nat → Int32} {n : Int32} {d : DD} {x1 : Int32} (h0 : (e1 d) = 7) : F_X10_read_p107 bs n d x1 = F_X10_read_p141 bs n d (x1) (0) := by unfold F_X10_read_p107; exact if_pos h0
theorem q_X10_read_p107_1 {bs : Nat → Int32} {n : Int32} {d : DD} {x1 : Int32} (h0 : ¬ (e1 d) = 7) (h1 : (e1 d) = 8) : F_X10_read_p107 bs n d x1 = F_X10_read_p141 bs n d (x1) (0) := by unfold F_X10_read_p107; exact Eq.trans (if_neg h0) (if_pos h1)
theorem q_X10_read_p107_2 {bs : Nat → Int32} {n : Int32} {d : DD} {x1 : Int32} (h0 : ¬ (e1 d) = 7) (h1 : ¬ (e1 d) = 8) (h2 : 19 ≤ (e1 d)) : F_X10_read_p107 bs n d x1 = F_X10_read_p141 bs n d (x1) (0) := by unfold F_X10_read_p107; exact Eq.trans (if_neg h0) (Eq.trans (if_neg h1) (if_pos h2))
theorem q_X10_read_p107_3 {bs : Nat → Int32} {n : Int32} {d : DD} {x1 : Int32} (h0 : ¬ (e1 d) = 7) (h1 : ¬ (e1 d) = 8) (h2 : ¬ 19 ≤ (e1 d)) : F_X10_read_p107 bs n d x1 = F_X10_read_p141 bs n d (x1) (1) := by unfold F_X10_read_p107; exact Eq.trans (if_neg h0) (Eq.trans (if_neg h1) (if_neg h2))
set_option maxHeartbeats 40000000 in
theorem ce_X10_read_p107 {xi : SX} {S : Hp} {E : List Nat} {kc nc : Nat} {P : Po} {o0 : Nat} {x1 : Int32} {bs : Nat → Int32} {n : Int32} (hG : GI S E) (h0 : Oa S E 10 0 o0) (hb : BR S E o0 bs n) (hP : ∀ r T x y, PV E [656, 661, 662, 9998] S kc nc (rI 0 1) (fun v T => XIR (F_X10_read_p107 bs n (StR S o0) x1) T o0 v) [] r T x y → P r T x y) : TT xi M_X10_read 107 [(0, .ref o0), (1, .int x1)] [] S kc nc P := by
  have hA : Af E [656, 661, 662, 9998] S S := af_rf
  refine tt_aload_n (j := 0) dX10_read_107 rfl ?_
  refine gt_gI (id := 655) (v := (e1 (StR S o0))) dX10_read_108 fl_10_107 rfl rfl h0 hA (sR_655 (T := S) (o := o0) rfl) ?_
  refine tt_bipush (v := 7) dX10_read_111 rfl ?_
  refine tt_icmp_eq (tgt := 138) dX10_read_113 rfl (fun q101 => ?_) (fun q101 => ?_)
  · skip
    have h102 : Rg 7 7 (e1 (StR S o0)) := rg_eq_l (rg_all (e1 (StR S o0))) (⟨by decide, by decide⟩ : Rg 7 7 7) q101
    refine tt_iconst (v := 0) dX10_read_138 rfl ?_
    refine tt_istore (ks := [0, 1, 2]) (L' := [(4, .int 0), (0, .ref o0), (1, .int x1)]) dX10_read_139 (by decide) rfl ?_
    have hF : F_X10_read_p107 bs n (StR S o0) x1 = F_X10_read_p141 bs n (StR S o0) (x1) (0) := by
      exact q_X10_read_p107_0 q101
    exact tt_loc (ks := [1, 2, 0]) rfl (ce_X10_read_p141 hG (oa_af h0 hA) (br_af hb h0 hA) (fun r T x y h => hP r T x y (pv_tr hA h (by decide) (fun v T e => (((congrArg (fun q => F_X10_read_p141 bs n q (x1) (0)) (stR_mk (sR_654 (T := S) (o := o0) rfl) (sR_655 (T := S) (o := o0) rfl) (sR_656 (T := S) (o := o0) rfl) (sR_657 (T := S) (o := o0) rfl) (sR_658 (T := S) (o := o0) rfl) (sR_659 (T := S) (o := o0) rfl) (sR_661 (T := S) (o := o0) rfl) (sR_662 (T := S) (o := o0) rfl) (sR_672 (T := S) (o := o0) rfl) (sR_673 (T := S) (o := o0) rfl) (sR_674 (T := S) (o := o0) rfl) (sR_675 (T := S) (o := o0) rfl) (sR_660 (T := S) (o := o0) rfl))).trans hF.symm) ▸ e)))))
  · skip
    refine tt_aload_n (j := 0) dX10_read_116 rfl ?_
    refine gt_gI (id := 655) (v := (e1 (StR S o0))) dX10_read_117 fl_10_107 rfl rfl h0 hA (sR_655 (T := S) (o := o0) rfl) ?_
    refine tt_bipush (v := 8) dX10_read_120 rfl ?_
    refine tt_icmp_eq (tgt := 138) dX10_read_122 rfl (fun q103 => ?_) (fun q103 => ?_)
    · skip
      have h104 : Rg 8 8 (e1 (StR S o0)) := rg_eq_l (rg_all (e1 (StR S o0))) (⟨by decide, by decide⟩ : Rg 8 8 8) q103
      refine tt_iconst (v := 0) dX10_read_138 rfl ?_
      refine tt_istore (ks := [0, 1, 2]) (L' := [(4, .int 0), (0, .ref o0), (1, .int x1)]) dX10_read_139 (by decide) rfl ?_
      have hF : F_X10_read_p107 bs n (StR S o0) x1 = F_X10_read_p141 bs n (StR S o0) (x1) (0) := by
        exact q_X10_read_p107_1 q101 q103
      exact tt_loc (ks := [1, 2, 0]) rfl (ce_X10_read_p141 hG (oa_af h0 hA) (br_af hb h0 hA) (fun r T x y h => hP r T x y (pv_tr hA h (by decide) (fun v T e => (((congrArg (fun q => F_X10_read_p141 bs n q (x1) (0)) (stR_mk (sR_654 (T := S) (o := o0) rfl) (sR_655 (T := S) (o := o0) rfl) (sR_656 (T := S) (o := o0) rfl) (sR_657 (T := S) (o := o0) rfl) (sR_658 (T := S) (o := o0) rfl) (sR_659 (T := S) (o := o0) rfl) (sR_661 (T := S) (o := o0) rfl) (sR_662 (T := S) (o := o0) rfl) (sR_672 (T := S) (o := o0) rfl) (sR_673 (T := S) (o := o0) rfl) (sR_674 (T := S) (o := o0) rfl) (sR_675 (T := S) (o := o0) rfl) (sR_660 (T := S) (o := o0) rfl))).trans hF.symm) ▸ e)))))
    · skip
      refine tt_aload_n (j := 0) dX10_read_125 rfl ?_
      refine gt_gI (id := 655) (v := (e1 (StR S o0))) dX10_read_126 fl_10_107 rfl rfl h0 hA (sR_655 (T := S) (o := o0) rfl) ?_
      refine tt_bipush (v := 19) dX10_read_129 rfl ?_
      refine tt_icmp_ge (tgt := 138) dX10_read_131 rfl (fun q105 => ?_) (fun q105 => ?_)
      · skip
        have h106 : Rg 19 2147483647 (e1 (StR S o0)) := rg_le_r (⟨by decide, by decide⟩ : Rg 19 19 19) (rg_all (e1 (StR S o0))) q105
        refine tt_iconst (v := 0) dX10_read_138 rfl ?_
        refine tt_istore (ks := [0, 1, 2]) (L' := [(4, .int 0), (0, .ref o0), (1, .int x1)]) dX10_read_139 (by decide) rfl ?_
        have hF : F_X10_read_p107 bs n (StR S o0) x1 = F_X10_read_p141 bs n (StR S o0) (x1) (0) := by
          exact q_X10_read_p107_2 q101 q103 q105
        exact tt_loc (ks := [1, 2, 0]) rfl (ce_X10_read_p141 hG (oa_af h0 hA) (br_af hb h0 hA) (fun r T x y h => hP r T x y (pv_tr hA h (by decide) (fun v T e => (((congrArg (fun q => F_X10_read_p141 bs n q (x1) (0)) (stR_mk (sR_654 (T := S) (o := o0) rfl) (sR_655 (T := S) (o := o0) rfl) (sR_656 (T := S) (o := o0) rfl) (sR_657 (T := S) (o := o0) rfl) (sR_658 (T := S) (o := o0) rfl) (sR_659 (T := S) (o := o0) rfl) (sR_661 (T := S) (o := o0) rfl) (sR_662 (T := S) (o := o0) rfl) (sR_672 (T := S) (o := o0) rfl) (sR_673 (T := S) (o := o0) rfl) (sR_674 (T := S) (o := o0) rfl) (sR_675 (T := S) (o := o0) rfl) (sR_660 (T := S) (o := o0) rfl))).trans hF.symm) ▸ e)))))
      · skip
        have h107 : Rg (-2147483648) 18 (e1 (StR S o0)) := rg_lt_l (rg_all (e1 (StR S o0))) (⟨by decide, by decide⟩ : Rg 19 19 19) (nle_lt q105)
        refine tt_iconst (v := 1) dX10_read_134 rfl ?_
        refine tt_goto (tgt := 139) dX10_read_135 rfl ?_
        refine tt_istore (ks := [0, 1, 2]) (L' := [(4, .int 1), (0, .ref o0), (1, .int x1)]) dX10_read_139 (by decide) rfl ?_
        have hF : F_X10_read_p107 bs n (StR S o0) x1 = F_X10_read_p141 bs n (StR S o0) (x1) (1) := by
          exact q_X10_read_p107_3 q101 q103 q105
        exact tt_loc (ks := [1, 2, 0]) rfl (ce_X10_read_p141 hG (oa_af h0 hA) (br_af hb h0 hA) (fun r T x y h => hP r T x y (pv_tr hA h (by decide) (fun v T e => (((congrArg (fun q => F_X10_read_p141 bs n q (x1) (1)) (stR_mk (sR_654 (T := S) (o := o0) rfl) (sR_655 (T := S) (o := o0) rfl) (sR_656 (T := S) (o := o0) rfl) (sR_657 (T := S) (o := o0) rfl) (sR_658 (T := S) (o := o0) rfl) (sR_659 (T := S) (o := o0) rfl) (sR_661 (T := S) (o := o0) rfl) (sR_662 (T := S) (o := o0) rfl) (sR_672 (T := S) (o := o0) rfl) (sR_673 (T := S) (o := o0) rfl) (sR_674 (T := S) (o := o0) rfl) (sR_675 (T := S) (o := o0) rfl) (sR_660 (T := S) (o := o0) rfl))).trans hF.symm) ▸ e)))))
def F_X10_read_p76 (bs : Nat → Int32) (n : Int32) (d : DD) (x1 : Int32) (x2 : Int32) (x3 : Int32) : DD × Int32 :=
  if (x3 &&& 8) = 0 then
    if (e7 d) = 0 then
      let d117 := F_X10_readRest bs n ((e0 d), (e1 d), 32, (e3 d), (e4 d), (e5 d), (e6 d), (e7 d), (e8 d), (e9 d), (e10 d), (e11 d), (eJ d)) (x2) (x3)
      F_X10_read_p107 bs n d117 (x1)
    else
      F_X10_read_p107 bs n ((e0 d), (e1 d), 32, (e3 d), (e4 d), (e5 d), (e6 d), (e7 d), (e8 d), (e9 d), (e10 d), (e11 d), (eJ d)) (x1)
  else
    if (e7 d) = 0 then
      let d136 := F_X10_readRest bs n ((e0 d), (e1 d), 64, (e3 d), (e4 d), (e5 d), (e6 d), (e7 d), (e8 d), (e9 d), (e10 d), (e11 d), (eJ d)) (x2) (x3)
      F_X10_read_p107 bs n d136 (x1)
    else
      F_X10_read_p107 bs n ((e0 d), (e1 d), 64, (e3 d), (e4 d), (e5 d), (e6 d), (e7 d), (e8 d), (e9 d), (e10 d), (e11 d), (eJ d)) (x1)
theorem q_X10_read_p76_0 {bs : Nat → Int32} {n : Int32} {d : DD} {x1 : Int32} {x2 : Int32} {x3 : Int32} (h0 : (x3 &&& 8) = 0) (h1 : (e7 d) = 0) : F_X10_read_p76 bs n d x1 x2 x3 = F_X10_read_p107 bs n (F_X10_readRest bs n ((e0 d), (e1 d), 32, (e3 d), (e4 d), (e5 d), (e6 d), (e7 d), (e8 d), (e9 d), (e10 d), (e11 d), (eJ d)) (x2) (x3)) (x1) := by unfold F_X10_read_p76; exact Eq.trans (if_pos h0) (if_pos h1)
theorem q_X10_read_p76_1 {bs : Nat → Int32} {n : Int32} {d : DD} {x1 : Int32} {x2 : Int32} {x3 : Int32} (h0 : (x3 &&& 8) = 0) (h1 : ¬ (e7 d) = 0) : F_X10_read_p76 bs n d x1 x2 x3 = F_X10_read_p107 bs n ((e0 d), (e1 d), 32, (e3 d), (e4 d), (e5 d), (e6 d), (e7 d), (e8 d), (e9 d), (e10 d), (e11 d), (eJ d)) (x1) := by unfold F_X10_read_p76; exact Eq.trans (if_pos h0) (if_neg h1)
theorem q_X10_read_p76_2 {bs : Nat → Int32} {n : Int32} {d : DD} {x1 : Int32} {x2 : Int32} {x3 : Int32} (h0 : ¬ (x3 &&& 8) = 0) (h1 : (e7 d) = 0) : F_X10_read_p76 bs n d x1 x2 x3 = F_X10_read_p107 bs n (F_X10_readRest bs n ((e0 d), (e1 d), 64, (e3 d), (e4 d), (e5 d), (e6 d), (e7 d), (e8 d), (e9 d), (e10 d), (e11 d), (eJ d)) (x2) (x3)) (x1) := by unfold F_X10_read_p76; exact Eq.trans (if_neg h0) (if_pos h1)
theorem q_X10_read_p76_3 {bs : Nat → Int32} {n : Int32} {d : DD} {x1 : Int32} {x2 : Int32} {x3 : Int32} (h0 : ¬ (x3 &&& 8) = 0) (h1 : ¬ (e7 d) = 0) : F_X10_read_p76 bs n d x1 x2 x3 = F_X10_read_p107 bs n ((e0 d), (e1 d), 64, (e3 d), (e4 d), (e5 d), (e6 d), (e7 d), (e8 d), (e9 d), (e10 d), (e11 d), (eJ d)) (x1) := by unfold F_X10_read_p76; exact Eq.trans (if_neg h0) (if_neg h1)
set_option maxHeartbeats 40000000 in
theorem ce_X10_read_p76 {xi : SX} {S : Hp} {E : List Nat} {kc nc : Nat} {P : Po} {o0 : Nat} {x1 : Int32} {x2 : Int32} {x3 : Int32} {bs : Nat → Int32} {n : Int32} (hG : GI S E) (h0 : Oa S E 10 0 o0) (hb : BR S E o0 bs n) (hP : ∀ r T x y, PV E [654, 655, 656, 657, 658, 659, 661, 662, 672, 673, 674, 675, 9998] S kc nc (rI 0 1) (fun v T => XIR (F_X10_read_p76 bs n (StR S o0) x1 x2 x3) T o0 v) [] r T x y → P r T x y) : TT xi M_X10_read 76 [(0, .ref o0), (1, .int x1), (2, .int x2), (3, .int x3)] [] S kc nc P := by
  have hA : Af E [654, 655, 656, 657, 658, 659, 661, 662, 672, 673, 674, 675, 9998] S S := af_rf
  refine tt_aload_n (j := 0) dX10_read_76 rfl ?_
  refine tt_iload_n (j := 3) dX10_read_77 rfl ?_
  refine tt_bipush (v := 8) dX10_read_78 rfl ?_
  refine tt_iand dX10_read_80 ?_
  refine tt_if_eq (tgt := 89) dX10_read_81 rfl (fun q101 => ?_) (fun q101 => ?_)
  · skip
    have h102 : Rg 0 0 (x3 &&& 8) := rg_eq_l (rg_and (x := x3) (⟨by decide, by decide⟩ : Rg 8 8 8)) (⟨by decide, by decide⟩ : Rg 0 0 0) q101
    refine tt_bipush (v := 32) dX10_read_89 rfl ?_
    refine gt_pI (id := 656) (x := 32) dX10_read_91 fl_10_127 rfl rfl h0 hA rfl rfl rfl (gp_I hG) (by decide) (fun h => absurd h (by decide)) (fun h => absurd h (by decide)) (fun S103 hG104 hA105 e106 f107 er108 => ?_)
    refine tt_aload_n (j := 0) dX10_read_94 rfl ?_
    refine gt_gI (id := 662) (v := (e7 (StR S o0))) dX10_read_95 fl_10_84 rfl rfl h0 hA105 ((congrFun (congrFun e106 662) o0).trans ((congrFun (up2_ne (k := 662)) o0).trans (sR_662 (T := S) (o := o0) rfl))) ?_
    refine tt_if_ne (tgt := 107) dX10_read_98 rfl (fun q109 => ?_) (fun q109 => ?_)
    · skip
      have h110 : Rg 1 1 (e7 (StR S o0)) := rg_ne_lo (gi_I (k := 662) hG h0 0 1) (⟨by decide, by decide⟩ : Rg 0 0 0) q109
      have hF : F_X10_read_p76 bs n (StR S o0) x1 x2 x3 = F_X10_read_p107 bs n ((e0 (StR S o0)), (e1 (StR S o0)), 32, (e3 (StR S o0)), (e4 (StR S o0)), (e5 (StR S o0)), (e6 (StR S o0)), (e7 (StR S o0)), (e8 (StR S o0)), (e9 (StR S o0)), (e10 (StR S o0)), (e11 (StR S o0)), (eJ (StR S o0))) (x1) := by
        exact q_X10_read_p76_1 q101 q109
      exact tt_loc (ks := [0, 1]) rfl (ce_X10_read_p107 hG104 (oa_af h0 hA105) (br_af hb h0 hA105) (fun r T x y h => hP r T x y (pv_tr hA105 h (by decide) (fun v T e => (((congrArg (fun q => F_X10_read_p107 bs n q (x1)) (stR_mk ((congrFun (congrFun e106 654) o0).trans ((congrFun (up2_ne (k := 654)) o0).trans (sR_654 (T := S) (o := o0) rfl))) ((congrFun (congrFun e106 655) o0).trans ((congrFun (up2_ne (k := 655)) o0).trans (sR_655 (T := S) (o := o0) rfl))) (by rw [e106]; exact up2_self) ((congrFun (congrFun e106 657) o0).trans ((congrFun (up2_ne (k := 657)) o0).trans (sR_657 (T := S) (o := o0) rfl))) ((congrFun (congrFun e106 658) o0).trans ((congrFun (up2_ne (k := 658)) o0).trans (sR_658 (T := S) (o := o0) rfl))) ((congrFun (congrFun e106 659) o0).trans ((congrFun (up2_ne (k := 659)) o0).trans (sR_659 (T := S) (o := o0) rfl))) ((congrFun (congrFun e106 661) o0).trans ((congrFun (up2_ne (k := 661)) o0).trans (sR_661 (T := S) (o := o0) rfl))) ((congrFun (congrFun e106 662) o0).trans ((congrFun (up2_ne (k := 662)) o0).trans (sR_662 (T := S) (o := o0) rfl))) ((congrFun (congrFun e106 672) o0).trans ((congrFun (up2_ne (k := 672)) o0).trans (sR_672 (T := S) (o := o0) rfl))) ((congrFun (congrFun e106 673) o0).trans ((congrFun (up2_ne (k := 673)) o0).trans (sR_673 (T := S) (o := o0) rfl))) ((congrFun (congrFun e106 674) o0).trans ((congrFun (up2_ne (k := 674)) o0).trans (sR_674 (T := S) (o := o0) rfl))) ((congrFun (congrFun e106 675) o0).trans ((congrFun (up2_ne (k := 675)) o0).trans (sR_675 (T := S) (o := o0) rfl))) ((congrFun (congrFun f107 660) o0).trans (sR_660 (T := S) (o := o0) rfl)))).trans hF.symm) ▸ e)))))
    · skip
      have h111 : Rg 0 0 (e7 (StR S o0)) := rg_eq_l (gi_I (k := 662) hG h0 0 1) (⟨by decide, by decide⟩ : Rg 0 0 0) q109
      refine tt_aload_n (j := 0) dX10_read_101 rfl ?_
      refine tt_iload_n (j := 2) dX10_read_102 rfl ?_
      refine tt_iload_n (j := 3) dX10_read_103 rfl ?_
      refine gt_Vv (As := [.int x2, .int x3]) dX10_read_104 ca_X10_130 ⟨by decide, by decide⟩ h0 hA105 rfl (Nat.le_of_ble_eq_true rfl) (Nat.le_of_ble_eq_true rfl) (by decide) (ce_X10_readRest hG104 (oa_af h0 hA105) (br_af hb h0 hA105) (fun _ _ _ _ h => h)) rfl (fun _ h => nomatch h) (fun S112 hx116 hG113 hB114 hA115 => ?_)
      obtain ⟨d117, hd118⟩ : ∃ q, F_X10_readRest bs n ((e0 (StR S o0)), (e1 (StR S o0)), 32, (e3 (StR S o0)), (e4 (StR S o0)), (e5 (StR S o0)), (e6 (StR S o0)), (e7 (StR S o0)), (e8 (StR S o0)), (e9 (StR S o0)), (e10 (StR S o0)), (e11 (StR S o0)), (eJ (StR S o0))) (x2) (x3) = q := ⟨_, rfl⟩
      have hq119 := (congrArg (fun q => F_X10_readRest bs n q (x2) (x3)) (stR_mk ((congrFun (congrFun e106 654) o0).trans ((congrFun (up2_ne (k := 654)) o0).trans (sR_654 (T := S) (o := o0) rfl))) ((congrFun (congrFun e106 655) o0).trans ((congrFun (up2_ne (k := 655)) o0).trans (sR_655 (T := S) (o := o0) rfl))) (by rw [e106]; exact up2_self) ((congrFun (congrFun e106 657) o0).trans ((congrFun (up2_ne (k := 657)) o0).trans (sR_657 (T := S) (o := o0) rfl))) ((congrFun (congrFun e106 658) o0).trans ((congrFun (up2_ne (k := 658)) o0).trans (sR_658 (T := S) (o := o0) rfl))) ((congrFun (congrFun e106 659) o0).trans ((congrFun (up2_ne (k := 659)) o0).trans (sR_659 (T := S) (o := o0) rfl))) ((congrFun (congrFun e106 661) o0).trans ((congrFun (up2_ne (k := 661)) o0).trans (sR_661 (T := S) (o := o0) rfl))) ((congrFun (congrFun e106 662) o0).trans ((congrFun (up2_ne (k := 662)) o0).trans (sR_662 (T := S) (o := o0) rfl))) ((congrFun (congrFun e106 672) o0).trans ((congrFun (up2_ne (k := 672)) o0).trans (sR_672 (T := S) (o := o0) rfl))) ((congrFun (congrFun e106 673) o0).trans ((congrFun (up2_ne (k := 673)) o0).trans (sR_673 (T := S) (o := o0) rfl))) ((congrFun (congrFun e106 674) o0).trans ((congrFun (up2_ne (k := 674)) o0).trans (sR_674 (T := S) (o := o0) rfl))) ((congrFun (congrFun e106 675) o0).trans ((congrFun (up2_ne (k := 675)) o0).trans (sR_675 (T := S) (o := o0) rfl))) ((congrFun (congrFun f107 660) o0).trans (sR_660 (T := S) (o := o0) rfl)))).trans hd118
      have hs120 := hx116.trans hq119
      have hF : F_X10_read_p76 bs n (StR S o0) x1 x2 x3 = F_X10_read_p107 bs n d117 (x1) := by
        subst hd118
        exact q_X10_read_p76_0 q101 q109
      exact tt_loc (ks := [0, 1]) rfl (ce_X10_read_p107 hG113 (oa_af h0 hA115) (br_af hb h0 hA115) (fun r T x y h => hP r T x y (pv_tr hA115 h (by decide) (fun v T e => (((congrArg (fun q => F_X10_read_p107 bs n q (x1)) (stR_mk (sR_654 hs120) (sR_655 hs120) (sR_656 hs120) (sR_657 hs120) (sR_658 hs120) (sR_659 hs120) (sR_661 hs120) (sR_662 hs120) (sR_672 hs120) (sR_673 hs120) (sR_674 hs120) (sR_675 hs120) (sR_660 hs120))).trans hF.symm) ▸ e)))))
  · skip
    have h121 : Rg 1 8 (x3 &&& 8) := rg_ne_lo (rg_and (x := x3) (⟨by decide, by decide⟩ : Rg 8 8 8)) (⟨by decide, by decide⟩ : Rg 0 0 0) q101
    refine tt_bipush (v := 64) dX10_read_84 rfl ?_
    refine tt_goto (tgt := 91) dX10_read_86 rfl ?_
    refine gt_pI (id := 656) (x := 64) dX10_read_91 fl_10_127 rfl rfl h0 hA rfl rfl rfl (gp_I hG) (by decide) (fun h => absurd h (by decide)) (fun h => absurd h (by decide)) (fun S122 hG123 hA124 e125 f126 er127 => ?_)
    refine tt_aload_n (j := 0) dX10_read_94 rfl ?_
    refine gt_gI (id := 662) (v := (e7 (StR S o0))) dX10_read_95 fl_10_84 rfl rfl h0 hA124 ((congrFun (congrFun e125 662) o0).trans ((congrFun (up2_ne (k := 662)) o0).trans (sR_662 (T := S) (o := o0) rfl))) ?_
    refine tt_if_ne (tgt := 107) dX10_read_98 rfl (fun q128 => ?_) (fun q128 => ?_)
    · skip
      have h129 : Rg 1 1 (e7 (StR S o0)) := rg_ne_lo (gi_I (k := 662) hG h0 0 1) (⟨by decide, by decide⟩ : Rg 0 0 0) q128
      have hF : F_X10_read_p76 bs n (StR S o0) x1 x2 x3 = F_X10_read_p107 bs n ((e0 (StR S o0)), (e1 (StR S o0)), 64, (e3 (StR S o0)), (e4 (StR S o0)), (e5 (StR S o0)), (e6 (StR S o0)), (e7 (StR S o0)), (e8 (StR S o0)), (e9 (StR S o0)), (e10 (StR S o0)), (e11 (StR S o0)), (eJ (StR S o0))) (x1) := by
        exact q_X10_read_p76_3 q101 q128
      exact tt_loc (ks := [0, 1]) rfl (ce_X10_read_p107 hG123 (oa_af h0 hA124) (br_af hb h0 hA124) (fun r T x y h => hP r T x y (pv_tr hA124 h (by decide) (fun v T e => (((congrArg (fun q => F_X10_read_p107 bs n q (x1)) (stR_mk ((congrFun (congrFun e125 654) o0).trans ((congrFun (up2_ne (k := 654)) o0).trans (sR_654 (T := S) (o := o0) rfl))) ((congrFun (congrFun e125 655) o0).trans ((congrFun (up2_ne (k := 655)) o0).trans (sR_655 (T := S) (o := o0) rfl))) (by rw [e125]; exact up2_self) ((congrFun (congrFun e125 657) o0).trans ((congrFun (up2_ne (k := 657)) o0).trans (sR_657 (T := S) (o := o0) rfl))) ((congrFun (congrFun e125 658) o0).trans ((congrFun (up2_ne (k := 658)) o0).trans (sR_658 (T := S) (o := o0) rfl))) ((congrFun (congrFun e125 659) o0).trans ((congrFun (up2_ne (k := 659)) o0).trans (sR_659 (T := S) (o := o0) rfl))) ((congrFun (congrFun e125 661) o0).trans ((congrFun (up2_ne (k := 661)) o0).trans (sR_661 (T := S) (o := o0) rfl))) ((congrFun (congrFun e125 662) o0).trans ((congrFun (up2_ne (k := 662)) o0).trans (sR_662 (T := S) (o := o0) rfl))) ((congrFun (congrFun e125 672) o0).trans ((congrFun (up2_ne (k := 672)) o0).trans (sR_672 (T := S) (o := o0) rfl))) ((congrFun (congrFun e125 673) o0).trans ((congrFun (up2_ne (k := 673)) o0).trans (sR_673 (T := S) (o := o0) rfl))) ((congrFun (congrFun e125 674) o0).trans ((congrFun (up2_ne (k := 674)) o0).trans (sR_674 (T := S) (o := o0) rfl))) ((congrFun (congrFun e125 675) o0).trans ((congrFun (up2_ne (k := 675)) o0).trans (sR_675 (T := S) (o := o0) rfl))) ((congrFun (congrFun f126 660) o0).trans (sR_660 (T := S) (o := o0) rfl)))).trans hF.symm) ▸ e)))))
    · skip
      have h130 : Rg 0 0 (e7 (StR S o0)) := rg_eq_l (gi_I (k := 662) hG h0 0 1) (⟨by decide, by decide⟩ : Rg 0 0 0) q128
      refine tt_aload_n (j := 0) dX10_read_101 rfl ?_
      refine tt_iload_n (j := 2) dX10_read_102 rfl ?_
      refine tt_iload_n (j := 3) dX10_read_103 rfl ?_
      refine gt_Vv (As := [.int x2, .int x3]) dX10_read_104 ca_X10_130 ⟨by decide, by decide⟩ h0 hA124 rfl (Nat.le_of_ble_eq_true rfl) (Nat.le_of_ble_eq_true rfl) (by decide) (ce_X10_readRest hG123 (oa_af h0 hA124) (br_af hb h0 hA124) (fun _ _ _ _ h => h)) rfl (fun _ h => nomatch h) (fun S131 hx135 hG132 hB133 hA134 => ?_)
      obtain ⟨d136, hd137⟩ : ∃ q, F_X10_readRest bs n ((e0 (StR S o0)), (e1 (StR S o0)), 64, (e3 (StR S o0)), (e4 (StR S o0)), (e5 (StR S o0)), (e6 (StR S o0)), (e7 (StR S o0)), (e8 (StR S o0)), (e9 (StR S o0)), (e10 (StR S o0)), (e11 (StR S o0)), (eJ (StR S o0))) (x2) (x3) = q := ⟨_, rfl⟩
      have hq138 := (congrArg (fun q => F_X10_readRest bs n q (x2) (x3)) (stR_mk ((congrFun (congrFun e125 654) o0).trans ((congrFun (up2_ne (k := 654)) o0).trans (sR_654 (T := S) (o := o0) rfl))) ((congrFun (congrFun e125 655) o0).trans ((congrFun (up2_ne (k := 655)) o0).trans (sR_655 (T := S) (o := o0) rfl))) (by rw [e125]; exact up2_self) ((congrFun (congrFun e125 657) o0).trans ((congrFun (up2_ne (k := 657)) o0).trans (sR_657 (T := S) (o := o0) rfl))) ((congrFun (congrFun e125 658) o0).trans ((congrFun (up2_ne (k := 658)) o0).trans (sR_658 (T := S) (o := o0) rfl))) ((congrFun (congrFun e125 659) o0).trans ((congrFun (up2_ne (k := 659)) o0).trans (sR_659 (T := S) (o := o0) rfl))) ((congrFun (congrFun e125 661) o0).trans ((congrFun (up2_ne (k := 661)) o0).trans (sR_661 (T := S) (o := o0) rfl))) ((congrFun (congrFun e125 662) o0).trans ((congrFun (up2_ne (k := 662)) o0).trans (sR_662 (T := S) (o := o0) rfl))) ((congrFun (congrFun e125 672) o0).trans ((congrFun (up2_ne (k := 672)) o0).trans (sR_672 (T := S) (o := o0) rfl))) ((congrFun (congrFun e125 673) o0).trans ((congrFun (up2_ne (k := 673)) o0).trans (sR_673 (T := S) (o := o0) rfl))) ((congrFun (congrFun e125 674) o0).trans ((congrFun (up2_ne (k := 674)) o0).trans (sR_674 (T := S) (o := o0) rfl))) ((congrFun (congrFun e125 675) o0).trans ((congrFun (up2_ne (k := 675)) o0).trans (sR_675 (T := S) (o := o0) rfl))) ((congrFun (congrFun f126 660) o0).trans (sR_660 (T := S) (o := o0) rfl)))).trans hd137
      have hs139 := hx135.trans hq138
      have hF : F_X10_read_p76 bs n (StR S o0) x1 x2 x3 = F_X10_read_p107 bs n d136 (x1) := by
        subst hd137
        exact q_X10_read_p76_2 q101 q128
      exact tt_loc (ks := [0, 1]) rfl (ce_X10_read_p107 hG132 (oa_af h0 hA134) (br_af hb h0 hA134) (fun r T x y h => hP r T x y (pv_tr hA134 h (by decide) (fun v T e => (((congrArg (fun q => F_X10_read_p107 bs n q (x1)) (stR_mk (sR_654 hs139) (sR_655 hs139) (sR_656 hs139) (sR_657 hs139) (sR_658 hs139) (sR_659 hs139) (sR_661 hs139) (sR_662 hs139) (sR_672 hs139) (sR_673 hs139) (sR_674 hs139) (sR_675 hs139) (sR_660 hs139))).trans hF.symm) ▸ e)))))
def F_X10_read_p71 (bs : Nat → Int32) (n : Int32) (d : DD) (x1 : Int32) (x2 : Int32) (x3 : Int32) : DD × Int32 :=
  let d106 := F_X10_next bs n d 
  F_X10_read_p76 bs n d106.1 (x1) (d106.2) (x3)
theorem q_X10_read_p71_0 {bs : Nat → Int32} {n : Int32} {d : DD} {x1 : Int32} {x2 : Int32} {x3 : Int32}  : F_X10_read_p71 bs n d x1 x2 x3 = F_X10_read_p76 bs n (F_X10_next bs n d).1 (x1) ((F_X10_next bs n d).2) (x3) := rfl
set_option maxHeartbeats 40000000 in
theorem ce_X10_read_p71 {xi : SX} {S : Hp} {E : List Nat} {kc nc : Nat} {P : Po} {o0 : Nat} {x1 : Int32} {x2 : Int32} {x3 : Int32} {bs : Nat → Int32} {n : Int32} (hG : GI S E) (h0 : Oa S E 10 0 o0) (hb : BR S E o0 bs n) (hP : ∀ r T x y, PV E [654, 655, 656, 657, 658, 659, 661, 662, 672, 673, 674, 675, 9998] S kc nc (rI 0 1) (fun v T => XIR (F_X10_read_p71 bs n (StR S o0) x1 x2 x3) T o0 v) [] r T x y → P r T x y) : TT xi M_X10_read 71 [(0, .ref o0), (1, .int x1), (2, .int x2), (3, .int x3)] [] S kc nc P := by
  have hA : Af E [654, 655, 656, 657, 658, 659, 661, 662, 672, 673, 674, 675, 9998] S S := af_rf
  refine tt_aload_n (j := 0) dX10_read_71 rfl ?_
  refine gt_VI (As := []) dX10_read_72 ca_X10_87 ⟨by decide, by decide⟩ h0 hA rfl (Nat.le_of_ble_eq_true rfl) (Nat.le_of_ble_eq_true rfl) (by decide) (ce_X10_next hG (oa_af h0 hA) (br_af hb h0 hA) (fun _ _ _ _ h => h)) rfl (fun _ h => nomatch h) (fun S101 x110 h111 hx105 hG102 hB103 hA104 => ?_)
  obtain ⟨d106, hd107⟩ : ∃ q, F_X10_next bs n (StR S o0)  = q := ⟨_, rfl⟩
  have hq108 := (congrArg (fun q => F_X10_next bs n q ) (stR_mk (sR_654 (T := S) (o := o0) rfl) (sR_655 (T := S) (o := o0) rfl) (sR_656 (T := S) (o := o0) rfl) (sR_657 (T := S) (o := o0) rfl) (sR_658 (T := S) (o := o0) rfl) (sR_659 (T := S) (o := o0) rfl) (sR_661 (T := S) (o := o0) rfl) (sR_662 (T := S) (o := o0) rfl) (sR_672 (T := S) (o := o0) rfl) (sR_673 (T := S) (o := o0) rfl) (sR_674 (T := S) (o := o0) rfl) (sR_675 (T := S) (o := o0) rfl) (sR_660 (T := S) (o := o0) rfl))).trans hd107
  have hs109 := hx105.2.trans (congrArg Prod.fst hq108)
  obtain rfl : x110 = d106.2 := (xiR_v hx105).trans (congrArg Prod.snd hq108)
  refine tt_istore_n (ks := [0, 1, 2, 3]) (L' := [(2, .int d106.2), (0, .ref o0), (1, .int x1), (3, .int x3)]) dX10_read_75 (by decide) rfl ?_
  have hF : F_X10_read_p71 bs n (StR S o0) x1 x2 x3 = F_X10_read_p76 bs n d106.1 (x1) (d106.2) (x3) := by
    subst hd107
    rfl
  exact tt_loc (ks := [1, 2, 0, 3]) rfl (ce_X10_read_p76 hG102 (oa_af h0 hA104) (br_af hb h0 hA104) (fun r T x y h => hP r T x y (pv_tr hA104 h (by decide) (fun v T e => (((congrArg (fun q => F_X10_read_p76 bs n q (x1) (d106.2) (x3)) (stR_mk (sR_654 hs109) (sR_655 hs109) (sR_656 hs109) (sR_657 hs109) (sR_658 hs109) (sR_659 hs109) (sR_661 hs109) (sR_662 hs109) (sR_672 hs109) (sR_673 hs109) (sR_674 hs109) (sR_675 hs109) (sR_660 hs109))).trans hF.symm) ▸ e)))))
def F_X10_read (bs : Nat → Int32) (n : Int32) (d : DD) (x1 : Int32) : DD × Int32 :=
  let d130 := F_X10_take bs n (x1, (e1 d), (e2 d), (e3 d), (e4 d), 0, (e6 d), 0, (e8 d), (e9 d), (e10 d), (e11 d), 0) (21) ((-1)) ((-1))
  let d139 := F_X10_next bs n d130 
  if d139.2 < 64 then
    F_X10_read_p76 bs n d139.1 (x1) (d139.2) (0)
  else
    if 80 ≤ d139.2 then
      F_X10_read_p76 bs n d139.1 (x1) (d139.2) (0)
    else
      if (e7 d139.1) = 0 then
        if (d139.2 &&& 2) = 0 then
          F_X10_read_p71 bs n ((e0 d139.1), (e1 d139.1), (e2 d139.1), (e3 d139.1), (e4 d139.1), (e5 d139.1), (e6 d139.1), 0, (e8 d139.1), (e9 d139.1), (e10 d139.1), (e11 d139.1), (eJ d139.1)) (x1) (d139.2) (d139.2)
        else
          F_X10_read_p71 bs n ((e0 d139.1), (e1 d139.1), (e2 d139.1), (e3 d139.1), (e4 d139.1), (e5 d139.1), (e6 d139.1), 1, (e8 d139.1), (e9 d139.1), (e10 d139.1), (e11 d139.1), (eJ d139.1)) (x1) (d139.2) (d139.2)
      else
        F_X10_read_p71 bs n ((e0 d139.1), (e1 d139.1), (e2 d139.1), (e3 d139.1), (e4 d139.1), (e5 d139.1), (e6 d139.1), 1, (e8 d139.1), (e9 d139.1), (e10 d139.1), (e11 d139.1), (eJ d139.1)) (x1) (d139.2) (d139.2)
theorem q_X10_read_0 {bs : Nat → Int32} {n : Int32} {d : DD} {x1 : Int32} (h0 : (F_X10_next bs n (F_X10_take bs n (x1, (e1 d), (e2 d), (e3 d), (e4 d), 0, (e6 d), 0, (e8 d), (e9 d), (e10 d), (e11 d), 0) (21) ((-1)) ((-1)))).2 < 64) : F_X10_read bs n d x1 = F_X10_read_p76 bs n (F_X10_next bs n (F_X10_take bs n (x1, (e1 d), (e2 d), (e3 d), (e4 d), 0, (e6 d), 0, (e8 d), (e9 d), (e10 d), (e11 d), 0) (21) ((-1)) ((-1)))).1 (x1) ((F_X10_next bs n (F_X10_take bs n (x1, (e1 d), (e2 d), (e3 d), (e4 d), 0, (e6 d), 0, (e8 d), (e9 d), (e10 d), (e11 d), 0) (21) ((-1)) ((-1)))).2) (0) := by unfold F_X10_read; exact if_pos h0
theorem q_X10_read_1 {bs : Nat → Int32} {n : Int32} {d : DD} {x1 : Int32} (h0 : ¬ (F_X10_next bs n (F_X10_take bs n (x1, (e1 d), (e2 d), (e3 d), (e4 d), 0, (e6 d), 0, (e8 d), (e9 d), (e10 d), (e11 d), 0) (21) ((-1)) ((-1)))).2 < 64) (h1 : 80 ≤ (F_X10_next bs n (F_X10_take bs n (x1, (e1 d), (e2 d), (e3 d), (e4 d), 0, (e6 d), 0, (e8 d), (e9 d), (e10 d), (e11 d), 0) (21) ((-1)) ((-1)))).2) : F_X10_read bs n d x1 = F_X10_read_p76 bs n (F_X10_next bs n (F_X10_take bs n (x1, (e1 d), (e2 d), (e3 d), (e4 d), 0, (e6 d), 0, (e8 d), (e9 d), (e10 d), (e11 d), 0) (21) ((-1)) ((-1)))).1 (x1) ((F_X10_next bs n (F_X10_take bs n (x1, (e1 d), (e2 d), (e3 d), (e4 d), 0, (e6 d), 0, (e8 d), (e9 d), (e10 d), (e11 d), 0) (21) ((-1)) ((-1)))).2) (0) := by unfold F_X10_read; exact Eq.trans (if_neg h0) (if_pos h1)
theorem q_X10_read_2 {bs : Nat → Int32} {n : Int32} {d : DD} {x1 : Int32} (h0 : ¬ (F_X10_next bs n (F_X10_take bs n (x1, (e1 d), (e2 d), (e3 d), (e4 d), 0, (e6 d), 0, (e8 d), (e9 d), (e10 d), (e11 d), 0) (21) ((-1)) ((-1)))).2 < 64) (h1 : ¬ 80 ≤ (F_X10_next bs n (F_X10_take bs n (x1, (e1 d), (e2 d), (e3 d), (e4 d), 0, (e6 d), 0, (e8 d), (e9 d), (e10 d), (e11 d), 0) (21) ((-1)) ((-1)))).2) (h2 : (e7 (F_X10_next bs n (F_X10_take bs n (x1, (e1 d), (e2 d), (e3 d), (e4 d), 0, (e6 d), 0, (e8 d), (e9 d), (e10 d), (e11 d), 0) (21) ((-1)) ((-1)))).1) = 0) (h3 : ((F_X10_next bs n (F_X10_take bs n (x1, (e1 d), (e2 d), (e3 d), (e4 d), 0, (e6 d), 0, (e8 d), (e9 d), (e10 d), (e11 d), 0) (21) ((-1)) ((-1)))).2 &&& 2) = 0) : F_X10_read bs n d x1 = F_X10_read_p71 bs n ((e0 (F_X10_next bs n (F_X10_take bs n (x1, (e1 d), (e2 d), (e3 d), (e4 d), 0, (e6 d), 0, (e8 d), (e9 d), (e10 d), (e11 d), 0) (21) ((-1)) ((-1)))).1), (e1 (F_X10_next bs n (F_X10_take bs n (x1, (e1 d), (e2 d), (e3 d), (e4 d), 0, (e6 d), 0, (e8 d), (e9 d), (e10 d), (e11 d), 0) (21) ((-1)) ((-1)))).1), (e2 (F_X10_next bs n (F_X10_take bs n (x1, (e1 d), (e2 d), (e3 d), (e4 d), 0, (e6 d), 0, (e8 d), (e9 d), (e10 d), (e11 d), 0) (21) ((-1)) ((-1)))).1), (e3 (F_X10_next bs n (F_X10_take bs n (x1, (e1 d), (e2 d), (e3 d), (e4 d), 0, (e6 d), 0, (e8 d), (e9 d), (e10 d), (e11 d), 0) (21) ((-1)) ((-1)))).1), (e4 (F_X10_next bs n (F_X10_take bs n (x1, (e1 d), (e2 d), (e3 d), (e4 d), 0, (e6 d), 0, (e8 d), (e9 d), (e10 d), (e11 d), 0) (21) ((-1)) ((-1)))).1), (e5 (F_X10_next bs n (F_X10_take bs n (x1, (e1 d), (e2 d), (e3 d), (e4 d), 0, (e6 d), 0, (e8 d), (e9 d), (e10 d), (e11 d), 0) (21) ((-1)) ((-1)))).1), (e6 (F_X10_next bs n (F_X10_take bs n (x1, (e1 d), (e2 d), (e3 d), (e4 d), 0, (e6 d), 0, (e8 d), (e9 d), (e10 d), (e11 d), 0) (21) ((-1)) ((-1)))).1), 0, (e8 (F_X10_next bs n (F_X10_take bs n (x1, (e1 d), (e2 d), (e3 d), (e4 d), 0, (e6 d), 0, (e8 d), (e9 d), (e10 d), (e11 d), 0) (21) ((-1)) ((-1)))).1), (e9 (F_X10_next bs n (F_X10_take bs n (x1, (e1 d), (e2 d), (e3 d), (e4 d), 0, (e6 d), 0, (e8 d), (e9 d), (e10 d), (e11 d), 0) (21) ((-1)) ((-1)))).1), (e10 (F_X10_next bs n (F_X10_take bs n (x1, (e1 d), (e2 d), (e3 d), (e4 d), 0, (e6 d), 0, (e8 d), (e9 d), (e10 d), (e11 d), 0) (21) ((-1)) ((-1)))).1), (e11 (F_X10_next bs n (F_X10_take bs n (x1, (e1 d), (e2 d), (e3 d), (e4 d), 0, (e6 d), 0, (e8 d), (e9 d), (e10 d), (e11 d), 0) (21) ((-1)) ((-1)))).1), (eJ (F_X10_next bs n (F_X10_take bs n (x1, (e1 d), (e2 d), (e3 d), (e4 d), 0, (e6 d), 0, (e8 d), (e9 d), (e10 d), (e11 d), 0) (21) ((-1)) ((-1)))).1)) (x1) ((F_X10_next bs n (F_X10_take bs n (x1, (e1 d), (e2 d), (e3 d), (e4 d), 0, (e6 d), 0, (e8 d), (e9 d), (e10 d), (e11 d), 0) (21) ((-1)) ((-1)))).2) ((F_X10_next bs n (F_X10_take bs n (x1, (e1 d), (e2 d), (e3 d), (e4 d), 0, (e6 d), 0, (e8 d), (e9 d), (e10 d), (e11 d), 0) (21) ((-1)) ((-1)))).2) := by unfold F_X10_read; exact Eq.trans (if_neg h0) (Eq.trans (if_neg h1) (Eq.trans (if_pos h2) (if_pos h3)))
theorem q_X10_read_3 {bs : Nat → Int32} {n : Int32} {d : DD} {x1 : Int32} (h0 : ¬ (F_X10_next bs n (F_X10_take bs n (x1, (e1 d), (e2 d), (e3 d), (e4 d), 0, (e6 d), 0, (e8 d), (e9 d), (e10 d), (e11 d), 0) (21) ((-1)) ((-1)))).2 < 64) (h1 : ¬ 80 ≤ (F_X10_next bs n (F_X10_take bs n (x1, (e1 d), (e2 d), (e3 d), (e4 d), 0, (e6 d), 0, (e8 d), (e9 d), (e10 d), (e11 d), 0) (21) ((-1)) ((-1)))).2) (h2 : (e7 (F_X10_next bs n (F_X10_take bs n (x1, (e1 d), (e2 d), (e3 d), (e4 d), 0, (e6 d), 0, (e8 d), (e9 d), (e10 d), (e11 d), 0) (21) ((-1)) ((-1)))).1) = 0) (h3 : ¬ ((F_X10_next bs n (F_X10_take bs n (x1, (e1 d), (e2 d), (e3 d), (e4 d), 0, (e6 d), 0, (e8 d), (e9 d), (e10 d), (e11 d), 0) (21) ((-1)) ((-1)))).2 &&& 2) = 0) : F_X10_read bs n d x1 = F_X10_read_p71 bs n ((e0 (F_X10_next bs n (F_X10_take bs n (x1, (e1 d), (e2 d), (e3 d), (e4 d), 0, (e6 d), 0, (e8 d), (e9 d), (e10 d), (e11 d), 0) (21) ((-1)) ((-1)))).1), (e1 (F_X10_next bs n (F_X10_take bs n (x1, (e1 d), (e2 d), (e3 d), (e4 d), 0, (e6 d), 0, (e8 d), (e9 d), (e10 d), (e11 d), 0) (21) ((-1)) ((-1)))).1), (e2 (F_X10_next bs n (F_X10_take bs n (x1, (e1 d), (e2 d), (e3 d), (e4 d), 0, (e6 d), 0, (e8 d), (e9 d), (e10 d), (e11 d), 0) (21) ((-1)) ((-1)))).1), (e3 (F_X10_next bs n (F_X10_take bs n (x1, (e1 d), (e2 d), (e3 d), (e4 d), 0, (e6 d), 0, (e8 d), (e9 d), (e10 d), (e11 d), 0) (21) ((-1)) ((-1)))).1), (e4 (F_X10_next bs n (F_X10_take bs n (x1, (e1 d), (e2 d), (e3 d), (e4 d), 0, (e6 d), 0, (e8 d), (e9 d), (e10 d), (e11 d), 0) (21) ((-1)) ((-1)))).1), (e5 (F_X10_next bs n (F_X10_take bs n (x1, (e1 d), (e2 d), (e3 d), (e4 d), 0, (e6 d), 0, (e8 d), (e9 d), (e10 d), (e11 d), 0) (21) ((-1)) ((-1)))).1), (e6 (F_X10_next bs n (F_X10_take bs n (x1, (e1 d), (e2 d), (e3 d), (e4 d), 0, (e6 d), 0, (e8 d), (e9 d), (e10 d), (e11 d), 0) (21) ((-1)) ((-1)))).1), 1, (e8 (F_X10_next bs n (F_X10_take bs n (x1, (e1 d), (e2 d), (e3 d), (e4 d), 0, (e6 d), 0, (e8 d), (e9 d), (e10 d), (e11 d), 0) (21) ((-1)) ((-1)))).1), (e9 (F_X10_next bs n (F_X10_take bs n (x1, (e1 d), (e2 d), (e3 d), (e4 d), 0, (e6 d), 0, (e8 d), (e9 d), (e10 d), (e11 d), 0) (21) ((-1)) ((-1)))).1), (e10 (F_X10_next bs n (F_X10_take bs n (x1, (e1 d), (e2 d), (e3 d), (e4 d), 0, (e6 d), 0, (e8 d), (e9 d), (e10 d), (e11 d), 0) (21) ((-1)) ((-1)))).1), (e11 (F_X10_next bs n (F_X10_take bs n (x1, (e1 d), (e2 d), (e3 d), (e4 d), 0, (e6 d), 0, (e8 d), (e9 d), (e10 d), (e11 d), 0) (21) ((-1)) ((-1)))).1), (eJ (F_X10_next bs n (F_X10_take bs n (x1, (e1 d), (e2 d), (e3 d), (e4 d), 0, (e6 d), 0, (e8 d), (e9 d), (e10 d), (e11 d), 0) (21) ((-1)) ((-1)))).1)) (x1) ((F_X10_next bs n (F_X10_take bs n (x1, (e1 d), (e2 d), (e3 d), (e4 d), 0, (e6 d), 0, (e8 d), (e9 d), (e10 d), (e11 d), 0) (21) ((-1)) ((-1)))).2) ((F_X10_next bs n (F_X10_take bs n (x1, (e1 d), (e2 d), (e3 d), (e4 d), 0, (e6 d), 0, (e8 d), (e9 d), (e10 d), (e11 d), 0) (21) ((-1)) ((-1)))).2) := by unfold F_X10_read; exact Eq.trans (if_neg h0) (Eq.trans (if_neg h1) (Eq.trans (if_pos h2) (if_neg h3)))
theorem q_X10_read_4 {bs : Nat → Int32} {n : Int32} {d : DD} {x1 : Int32} (h0 : ¬ (F_X10_next bs n (F_X10_take bs n (x1, (e1 d), (e2 d), (e3 d), (e4 d), 0, (e6 d), 0, (e8 d), (e9 d), (e10 d), (e11 d), 0) (21) ((-1)) ((-1)))).2 < 64) (h1 : ¬ 80 ≤ (F_X10_next bs n (F_X10_take bs n (x1, (e1 d), (e2 d), (e3 d), (e4 d), 0, (e6 d), 0, (e8 d), (e9 d), (e10 d), (e11 d), 0) (21) ((-1)) ((-1)))).2) (h2 : ¬ (e7 (F_X10_next bs n (F_X10_take bs n (x1, (e1 d), (e2 d), (e3 d), (e4 d), 0, (e6 d), 0, (e8 d), (e9 d), (e10 d), (e11 d), 0) (21) ((-1)) ((-1)))).1) = 0) : F_X10_read bs n d x1 = F_X10_read_p71 bs n ((e0 (F_X10_next bs n (F_X10_take bs n (x1, (e1 d), (e2 d), (e3 d), (e4 d), 0, (e6 d), 0, (e8 d), (e9 d), (e10 d), (e11 d), 0) (21) ((-1)) ((-1)))).1), (e1 (F_X10_next bs n (F_X10_take bs n (x1, (e1 d), (e2 d), (e3 d), (e4 d), 0, (e6 d), 0, (e8 d), (e9 d), (e10 d), (e11 d), 0) (21) ((-1)) ((-1)))).1), (e2 (F_X10_next bs n (F_X10_take bs n (x1, (e1 d), (e2 d), (e3 d), (e4 d), 0, (e6 d), 0, (e8 d), (e9 d), (e10 d), (e11 d), 0) (21) ((-1)) ((-1)))).1), (e3 (F_X10_next bs n (F_X10_take bs n (x1, (e1 d), (e2 d), (e3 d), (e4 d), 0, (e6 d), 0, (e8 d), (e9 d), (e10 d), (e11 d), 0) (21) ((-1)) ((-1)))).1), (e4 (F_X10_next bs n (F_X10_take bs n (x1, (e1 d), (e2 d), (e3 d), (e4 d), 0, (e6 d), 0, (e8 d), (e9 d), (e10 d), (e11 d), 0) (21) ((-1)) ((-1)))).1), (e5 (F_X10_next bs n (F_X10_take bs n (x1, (e1 d), (e2 d), (e3 d), (e4 d), 0, (e6 d), 0, (e8 d), (e9 d), (e10 d), (e11 d), 0) (21) ((-1)) ((-1)))).1), (e6 (F_X10_next bs n (F_X10_take bs n (x1, (e1 d), (e2 d), (e3 d), (e4 d), 0, (e6 d), 0, (e8 d), (e9 d), (e10 d), (e11 d), 0) (21) ((-1)) ((-1)))).1), 1, (e8 (F_X10_next bs n (F_X10_take bs n (x1, (e1 d), (e2 d), (e3 d), (e4 d), 0, (e6 d), 0, (e8 d), (e9 d), (e10 d), (e11 d), 0) (21) ((-1)) ((-1)))).1), (e9 (F_X10_next bs n (F_X10_take bs n (x1, (e1 d), (e2 d), (e3 d), (e4 d), 0, (e6 d), 0, (e8 d), (e9 d), (e10 d), (e11 d), 0) (21) ((-1)) ((-1)))).1), (e10 (F_X10_next bs n (F_X10_take bs n (x1, (e1 d), (e2 d), (e3 d), (e4 d), 0, (e6 d), 0, (e8 d), (e9 d), (e10 d), (e11 d), 0) (21) ((-1)) ((-1)))).1), (e11 (F_X10_next bs n (F_X10_take bs n (x1, (e1 d), (e2 d), (e3 d), (e4 d), 0, (e6 d), 0, (e8 d), (e9 d), (e10 d), (e11 d), 0) (21) ((-1)) ((-1)))).1), (eJ (F_X10_next bs n (F_X10_take bs n (x1, (e1 d), (e2 d), (e3 d), (e4 d), 0, (e6 d), 0, (e8 d), (e9 d), (e10 d), (e11 d), 0) (21) ((-1)) ((-1)))).1)) (x1) ((F_X10_next bs n (F_X10_take bs n (x1, (e1 d), (e2 d), (e3 d), (e4 d), 0, (e6 d), 0, (e8 d), (e9 d), (e10 d), (e11 d), 0) (21) ((-1)) ((-1)))).2) ((F_X10_next bs n (F_X10_take bs n (x1, (e1 d), (e2 d), (e3 d), (e4 d), 0, (e6 d), 0, (e8 d), (e9 d), (e10 d), (e11 d), 0) (21) ((-1)) ((-1)))).2) := by unfold F_X10_read; exact Eq.trans (if_neg h0) (Eq.trans (if_neg h1) (if_neg h2))
set_option maxHeartbeats 40000000 in
theorem ce_X10_read {xi : SX} {S : Hp} {E : List Nat} {kc nc : Nat} {P : Po} {o0 : Nat} {x1 : Int32} {bs : Nat → Int32} {n : Int32} (hG : GI S E) (h0 : Oa S E 10 0 o0) (h1 : Rg 0 199 x1) (hb : BR S E o0 bs n) (hP : ∀ r T x y, PV E [654, 655, 656, 657, 658, 659, 661, 662, 672, 673, 674, 675, 9998] S kc nc (rI 0 1) (fun v T => XIR (F_X10_read bs n (StR S o0) x1) T o0 v) [] r T x y → P r T x y) : TT xi M_X10_read 0 [(0, .ref o0), (1, .int x1)] [] S kc nc P := by
  have hA : Af E [654, 655, 656, 657, 658, 659, 661, 662, 672, 673, 674, 675, 9998] S S := af_rf
  refine tt_aload_n (j := 0) dX10_read_0 rfl ?_
  refine tt_iload_n (j := 1) dX10_read_1 rfl ?_
  refine gt_pI (id := 654) (x := x1) dX10_read_2 fl_10_81 rfl rfl h0 hA rfl rfl rfl (gp_Ir hG h1) (by decide) (fun h => absurd h (by decide)) (fun h => absurd h (by decide)) (fun S101 hG102 hA103 e104 f105 er106 => ?_)
  refine tt_aload_n (j := 0) dX10_read_5 rfl ?_
  refine tt_iconst (v := 0) dX10_read_6 rfl ?_
  refine gt_pI (id := 662) (x := 0) dX10_read_7 fl_10_84 rfl rfl h0 hA103 rfl rfl rfl (gp_Ir hG102 (⟨by decide, by decide⟩ : Rg 0 0 0)) (by decide) (fun _ h => absurd (by decide) h) (fun h => absurd h (by decide)) (fun S107 hG108 hA109 e110 f111 er112 => ?_)
  refine tt_aload_n (j := 0) dX10_read_10 rfl ?_
  refine tt_lconst (v := 0) dX10_read_11 rfl ?_
  refine gt_pJ (id := 660) (x := 0) dX10_read_12 fl_10_116 rfl rfl h0 hA109 rfl rfl rfl hG108 (fun S113 hG114 hA115 e116 f117 er118 => ?_)
  refine tt_aload_n (j := 0) dX10_read_15 rfl ?_
  refine tt_iconst (v := 0) dX10_read_16 rfl ?_
  refine gt_pI (id := 659) (x := 0) dX10_read_17 fl_10_120 rfl rfl h0 hA115 rfl rfl rfl (gp_I hG114) (by decide) (fun h => absurd h (by decide)) (fun h => absurd h (by decide)) (fun S119 hG120 hA121 e122 f123 er124 => ?_)
  refine tt_aload_n (j := 0) dX10_read_20 rfl ?_
  refine tt_bipush (v := 21) dX10_read_21 rfl ?_
  refine tt_iconst (v := (-1)) dX10_read_23 rfl ?_
  refine tt_iconst (v := (-1)) dX10_read_24 rfl ?_
  refine gt_Vv (As := [.int 21, .int (-1), .int (-1)]) dX10_read_25 ca_X10_123 ⟨by decide, by decide⟩ h0 hA121 rfl (Nat.le_of_ble_eq_true rfl) (Nat.le_of_ble_eq_true rfl) (by decide) (ce_X10_take hG120 (oa_af h0 hA121) (br_af hb h0 hA121) (fun _ _ _ _ h => h)) rfl (fun _ h => nomatch h) (fun S125 hx129 hG126 hB127 hA128 => ?_)
  obtain ⟨d130, hd131⟩ : ∃ q, F_X10_take bs n (x1, (e1 (StR S o0)), (e2 (StR S o0)), (e3 (StR S o0)), (e4 (StR S o0)), 0, (e6 (StR S o0)), 0, (e8 (StR S o0)), (e9 (StR S o0)), (e10 (StR S o0)), (e11 (StR S o0)), 0) (21) ((-1)) ((-1)) = q := ⟨_, rfl⟩
  have hq132 := (congrArg (fun q => F_X10_take bs n q (21) ((-1)) ((-1))) (stR_mk ((congrFun (congrFun e122 654) o0).trans ((congrFun (up2_ne (k := 654)) o0).trans ((congrFun (congrFun e116 654) o0).trans ((congrFun (congrFun e110 654) o0).trans ((congrFun (up2_ne (k := 654)) o0).trans (by rw [e104]; exact up2_self)))))) ((congrFun (congrFun e122 655) o0).trans ((congrFun (up2_ne (k := 655)) o0).trans ((congrFun (congrFun e116 655) o0).trans ((congrFun (congrFun e110 655) o0).trans ((congrFun (up2_ne (k := 655)) o0).trans ((congrFun (congrFun e104 655) o0).trans ((congrFun (up2_ne (k := 655)) o0).trans (sR_655 (T := S) (o := o0) rfl)))))))) ((congrFun (congrFun e122 656) o0).trans ((congrFun (up2_ne (k := 656)) o0).trans ((congrFun (congrFun e116 656) o0).trans ((congrFun (congrFun e110 656) o0).trans ((congrFun (up2_ne (k := 656)) o0).trans ((congrFun (congrFun e104 656) o0).trans ((congrFun (up2_ne (k := 656)) o0).trans (sR_656 (T := S) (o := o0) rfl)))))))) ((congrFun (congrFun e122 657) o0).trans ((congrFun (up2_ne (k := 657)) o0).trans ((congrFun (congrFun e116 657) o0).trans ((congrFun (congrFun e110 657) o0).trans ((congrFun (up2_ne (k := 657)) o0).trans ((congrFun (congrFun e104 657) o0).trans ((congrFun (up2_ne (k := 657)) o0).trans (sR_657 (T := S) (o := o0) rfl)))))))) ((congrFun (congrFun e122 658) o0).trans ((congrFun (up2_ne (k := 658)) o0).trans ((congrFun (congrFun e116 658) o0).trans ((congrFun (congrFun e110 658) o0).trans ((congrFun (up2_ne (k := 658)) o0).trans ((congrFun (congrFun e104 658) o0).trans ((congrFun (up2_ne (k := 658)) o0).trans (sR_658 (T := S) (o := o0) rfl)))))))) (by rw [e122]; exact up2_self) ((congrFun (congrFun e122 661) o0).trans ((congrFun (up2_ne (k := 661)) o0).trans ((congrFun (congrFun e116 661) o0).trans ((congrFun (congrFun e110 661) o0).trans ((congrFun (up2_ne (k := 661)) o0).trans ((congrFun (congrFun e104 661) o0).trans ((congrFun (up2_ne (k := 661)) o0).trans (sR_661 (T := S) (o := o0) rfl)))))))) ((congrFun (congrFun e122 662) o0).trans ((congrFun (up2_ne (k := 662)) o0).trans ((congrFun (congrFun e116 662) o0).trans (by rw [e110]; exact up2_self)))) ((congrFun (congrFun e122 672) o0).trans ((congrFun (up2_ne (k := 672)) o0).trans ((congrFun (congrFun e116 672) o0).trans ((congrFun (congrFun e110 672) o0).trans ((congrFun (up2_ne (k := 672)) o0).trans ((congrFun (congrFun e104 672) o0).trans ((congrFun (up2_ne (k := 672)) o0).trans (sR_672 (T := S) (o := o0) rfl)))))))) ((congrFun (congrFun e122 673) o0).trans ((congrFun (up2_ne (k := 673)) o0).trans ((congrFun (congrFun e116 673) o0).trans ((congrFun (congrFun e110 673) o0).trans ((congrFun (up2_ne (k := 673)) o0).trans ((congrFun (congrFun e104 673) o0).trans ((congrFun (up2_ne (k := 673)) o0).trans (sR_673 (T := S) (o := o0) rfl)))))))) ((congrFun (congrFun e122 674) o0).trans ((congrFun (up2_ne (k := 674)) o0).trans ((congrFun (congrFun e116 674) o0).trans ((congrFun (congrFun e110 674) o0).trans ((congrFun (up2_ne (k := 674)) o0).trans ((congrFun (congrFun e104 674) o0).trans ((congrFun (up2_ne (k := 674)) o0).trans (sR_674 (T := S) (o := o0) rfl)))))))) ((congrFun (congrFun e122 675) o0).trans ((congrFun (up2_ne (k := 675)) o0).trans ((congrFun (congrFun e116 675) o0).trans ((congrFun (congrFun e110 675) o0).trans ((congrFun (up2_ne (k := 675)) o0).trans ((congrFun (congrFun e104 675) o0).trans ((congrFun (up2_ne (k := 675)) o0).trans (sR_675 (T := S) (o := o0) rfl)))))))) ((congrFun (congrFun f123 660) o0).trans (by rw [f117]; exact up2_self)))).trans hd131
  have hs133 := hx129.trans hq132
  refine tt_aload_n (j := 0) dX10_read_28 rfl ?_
  refine gt_VI (As := []) dX10_read_29 ca_X10_87 ⟨by decide, by decide⟩ h0 hA128 rfl (Nat.le_of_ble_eq_true rfl) (Nat.le_of_ble_eq_true rfl) (by decide) (ce_X10_next hG126 (oa_af h0 hA128) (br_af hb h0 hA128) (fun _ _ _ _ h => h)) rfl (fun _ h => nomatch h) (fun S134 x143 h144 hx138 hG135 hB136 hA137 => ?_)
  obtain ⟨d139, hd140⟩ : ∃ q, F_X10_next bs n d130  = q := ⟨_, rfl⟩
  have hq141 := (congrArg (fun q => F_X10_next bs n q ) (stR_mk (sR_654 hs133) (sR_655 hs133) (sR_656 hs133) (sR_657 hs133) (sR_658 hs133) (sR_659 hs133) (sR_661 hs133) (sR_662 hs133) (sR_672 hs133) (sR_673 hs133) (sR_674 hs133) (sR_675 hs133) (sR_660 hs133))).trans hd140
  have hs142 := hx138.2.trans (congrArg Prod.fst hq141)
  obtain rfl : x143 = d139.2 := (xiR_v hx138).trans (congrArg Prod.snd hq141)
  refine tt_istore_n (ks := [0, 1, 2]) (L' := [(2, .int d139.2), (0, .ref o0), (1, .int x1)]) dX10_read_32 (by decide) rfl ?_
  refine tt_iconst (v := 0) dX10_read_33 rfl ?_
  refine tt_istore_n (ks := [0, 1, 2, 3]) (L' := [(3, .int 0), (2, .int d139.2), (0, .ref o0), (1, .int x1)]) dX10_read_34 (by decide) rfl ?_
  refine tt_iload_n (j := 1) dX10_read_35 rfl ?_
  refine tt_bipush (v := 64) dX10_read_36 rfl ?_
  refine tt_icmp_lt (tgt := 76) dX10_read_38 rfl (fun q145 => ?_) (fun q145 => ?_)
  · skip
    have h146 : Rg (-2147483648) 63 d139.2 := rg_lt_l h144 (⟨by decide, by decide⟩ : Rg 64 64 64) q145
    have hF : F_X10_read bs n (StR S o0) x1 = F_X10_read_p76 bs n d139.1 (x1) (d139.2) (0) := by
      subst hd140
      subst hd131
      exact q_X10_read_0 q145
    exact tt_loc (ks := [2, 3, 1, 0]) rfl (ce_X10_read_p76 hG135 (oa_af h0 hA137) (br_af hb h0 hA137) (fun r T x y h => hP r T x y (pv_tr hA137 h (by decide) (fun v T e => (((congrArg (fun q => F_X10_read_p76 bs n q (x1) (d139.2) (0)) (stR_mk (sR_654 hs142) (sR_655 hs142) (sR_656 hs142) (sR_657 hs142) (sR_658 hs142) (sR_659 hs142) (sR_661 hs142) (sR_662 hs142) (sR_672 hs142) (sR_673 hs142) (sR_674 hs142) (sR_675 hs142) (sR_660 hs142))).trans hF.symm) ▸ e)))))
  · skip
    have h147 : Rg 64 2147483647 d139.2 := rg_le_r (⟨by decide, by decide⟩ : Rg 64 64 64) h144 (nlt_le q145)
    refine tt_iload_n (j := 1) dX10_read_41 rfl ?_
    refine tt_bipush (v := 80) dX10_read_42 rfl ?_
    refine tt_icmp_ge (tgt := 76) dX10_read_44 rfl (fun q148 => ?_) (fun q148 => ?_)
    · skip
      have h149 : Rg 80 2147483647 d139.2 := rg_le_r (⟨by decide, by decide⟩ : Rg 80 80 80) h147 q148
      have hF : F_X10_read bs n (StR S o0) x1 = F_X10_read_p76 bs n d139.1 (x1) (d139.2) (0) := by
        subst hd140
        subst hd131
        exact q_X10_read_1 q145 q148
      exact tt_loc (ks := [2, 3, 1, 0]) rfl (ce_X10_read_p76 hG135 (oa_af h0 hA137) (br_af hb h0 hA137) (fun r T x y h => hP r T x y (pv_tr hA137 h (by decide) (fun v T e => (((congrArg (fun q => F_X10_read_p76 bs n q (x1) (d139.2) (0)) (stR_mk (sR_654 hs142) (sR_655 hs142) (sR_656 hs142) (sR_657 hs142) (sR_658 hs142) (sR_659 hs142) (sR_661 hs142) (sR_662 hs142) (sR_672 hs142) (sR_673 hs142) (sR_674 hs142) (sR_675 hs142) (sR_660 hs142))).trans hF.symm) ▸ e)))))
    · skip
      have h150 : Rg 64 79 d139.2 := rg_lt_l h147 (⟨by decide, by decide⟩ : Rg 80 80 80) (nle_lt q148)
      refine tt_iload_n (j := 1) dX10_read_47 rfl ?_
      refine tt_istore_n (ks := [0, 1, 2, 3]) (L' := [(3, .int d139.2), (2, .int d139.2), (0, .ref o0), (1, .int x1)]) dX10_read_48 (by decide) rfl ?_
      refine tt_aload_n (j := 2) dX10_read_49 rfl ?_
      refine tt_aload_n (j := 2) dX10_read_50 rfl ?_
      refine gt_gI (id := 662) (v := (e7 d139.1)) dX10_read_51 fl_10_84 rfl rfl h0 hA137 (sR_662 hs142) ?_
      refine tt_if_ne (tgt := 63) dX10_read_54 rfl (fun q151 => ?_) (fun q151 => ?_)
      · skip
        refine tt_iconst (v := 1) dX10_read_63 rfl ?_
        refine tt_goto (tgt := 68) dX10_read_64 rfl ?_
        refine gt_pI (id := 662) (x := 1) dX10_read_68 fl_10_84 rfl rfl h0 hA137 rfl rfl rfl (gp_Ir hG135 (⟨by decide, by decide⟩ : Rg 1 1 1)) (by decide) (fun _ h => absurd (by decide) h) (fun h => absurd h (by decide)) (fun S152 hG153 hA154 e155 f156 er157 => ?_)
        have hF : F_X10_read bs n (StR S o0) x1 = F_X10_read_p71 bs n ((e0 d139.1), (e1 d139.1), (e2 d139.1), (e3 d139.1), (e4 d139.1), (e5 d139.1), (e6 d139.1), 1, (e8 d139.1), (e9 d139.1), (e10 d139.1), (e11 d139.1), (eJ d139.1)) (x1) (d139.2) (d139.2) := by
          subst hd140
          subst hd131
          exact q_X10_read_4 q145 q148 q151
        exact tt_loc (ks := [2, 3, 1, 0]) rfl (ce_X10_read_p71 hG153 (oa_af h0 hA154) (br_af hb h0 hA154) (fun r T x y h => hP r T x y (pv_tr hA154 h (by decide) (fun v T e => (((congrArg (fun q => F_X10_read_p71 bs n q (x1) (d139.2) (d139.2)) (stR_mk ((congrFun (congrFun e155 654) o0).trans ((congrFun (up2_ne (k := 654)) o0).trans (sR_654 hs142))) ((congrFun (congrFun e155 655) o0).trans ((congrFun (up2_ne (k := 655)) o0).trans (sR_655 hs142))) ((congrFun (congrFun e155 656) o0).trans ((congrFun (up2_ne (k := 656)) o0).trans (sR_656 hs142))) ((congrFun (congrFun e155 657) o0).trans ((congrFun (up2_ne (k := 657)) o0).trans (sR_657 hs142))) ((congrFun (congrFun e155 658) o0).trans ((congrFun (up2_ne (k := 658)) o0).trans (sR_658 hs142))) ((congrFun (congrFun e155 659) o0).trans ((congrFun (up2_ne (k := 659)) o0).trans (sR_659 hs142))) ((congrFun (congrFun e155 661) o0).trans ((congrFun (up2_ne (k := 661)) o0).trans (sR_661 hs142))) (by rw [e155]; exact up2_self) ((congrFun (congrFun e155 672) o0).trans ((congrFun (up2_ne (k := 672)) o0).trans (sR_672 hs142))) ((congrFun (congrFun e155 673) o0).trans ((congrFun (up2_ne (k := 673)) o0).trans (sR_673 hs142))) ((congrFun (congrFun e155 674) o0).trans ((congrFun (up2_ne (k := 674)) o0).trans (sR_674 hs142))) ((congrFun (congrFun e155 675) o0).trans ((congrFun (up2_ne (k := 675)) o0).trans (sR_675 hs142))) ((congrFun (congrFun f156 660) o0).trans (sR_660 hs142)))).trans hF.symm) ▸ e)))))
      · skip
        have h158 : Rg 0 0 (e7 d139.1) := rg_eq_l (rg_all (e7 d139.1)) (⟨by decide, by decide⟩ : Rg 0 0 0) q151
        refine tt_iload_n (j := 1) dX10_read_57 rfl ?_
        refine tt_iconst (v := 2) dX10_read_58 rfl ?_
        refine tt_iand dX10_read_59 ?_
        refine tt_if_eq (tgt := 67) dX10_read_60 rfl (fun q159 => ?_) (fun q159 => ?_)
        · skip
          have h160 : Rg 0 0 (d139.2 &&& 2) := rg_eq_l (rg_and (x := d139.2) (⟨by decide, by decide⟩ : Rg 2 2 2)) (⟨by decide, by decide⟩ : Rg 0 0 0) q159
          refine tt_iconst (v := 0) dX10_read_67 rfl ?_
          refine gt_pI (id := 662) (x := 0) dX10_read_68 fl_10_84 rfl rfl h0 hA137 rfl rfl rfl (gp_Ir hG135 (⟨by decide, by decide⟩ : Rg 0 0 0)) (by decide) (fun _ h => absurd (by decide) h) (fun h => absurd h (by decide)) (fun S161 hG162 hA163 e164 f165 er166 => ?_)
          have hF : F_X10_read bs n (StR S o0) x1 = F_X10_read_p71 bs n ((e0 d139.1), (e1 d139.1), (e2 d139.1), (e3 d139.1), (e4 d139.1), (e5 d139.1), (e6 d139.1), 0, (e8 d139.1), (e9 d139.1), (e10 d139.1), (e11 d139.1), (eJ d139.1)) (x1) (d139.2) (d139.2) := by
            subst hd140
            subst hd131
            exact q_X10_read_2 q145 q148 q151 q159
          exact tt_loc (ks := [2, 3, 1, 0]) rfl (ce_X10_read_p71 hG162 (oa_af h0 hA163) (br_af hb h0 hA163) (fun r T x y h => hP r T x y (pv_tr hA163 h (by decide) (fun v T e => (((congrArg (fun q => F_X10_read_p71 bs n q (x1) (d139.2) (d139.2)) (stR_mk ((congrFun (congrFun e164 654) o0).trans ((congrFun (up2_ne (k := 654)) o0).trans (sR_654 hs142))) ((congrFun (congrFun e164 655) o0).trans ((congrFun (up2_ne (k := 655)) o0).trans (sR_655 hs142))) ((congrFun (congrFun e164 656) o0).trans ((congrFun (up2_ne (k := 656)) o0).trans (sR_656 hs142))) ((congrFun (congrFun e164 657) o0).trans ((congrFun (up2_ne (k := 657)) o0).trans (sR_657 hs142))) ((congrFun (congrFun e164 658) o0).trans ((congrFun (up2_ne (k := 658)) o0).trans (sR_658 hs142))) ((congrFun (congrFun e164 659) o0).trans ((congrFun (up2_ne (k := 659)) o0).trans (sR_659 hs142))) ((congrFun (congrFun e164 661) o0).trans ((congrFun (up2_ne (k := 661)) o0).trans (sR_661 hs142))) (by rw [e164]; exact up2_self) ((congrFun (congrFun e164 672) o0).trans ((congrFun (up2_ne (k := 672)) o0).trans (sR_672 hs142))) ((congrFun (congrFun e164 673) o0).trans ((congrFun (up2_ne (k := 673)) o0).trans (sR_673 hs142))) ((congrFun (congrFun e164 674) o0).trans ((congrFun (up2_ne (k := 674)) o0).trans (sR_674 hs142))) ((congrFun (congrFun e164 675) o0).trans ((congrFun (up2_ne (k := 675)) o0).trans (sR_675 hs142))) ((congrFun (congrFun f165 660) o0).trans (sR_660 hs142)))).trans hF.symm) ▸ e)))))
        · skip
          have h167 : Rg 1 2 (d139.2 &&& 2) := rg_ne_lo (rg_and (x := d139.2) (⟨by decide, by decide⟩ : Rg 2 2 2)) (⟨by decide, by decide⟩ : Rg 0 0 0) q159
          refine tt_iconst (v := 1) dX10_read_63 rfl ?_
          refine tt_goto (tgt := 68) dX10_read_64 rfl ?_
          refine gt_pI (id := 662) (x := 1) dX10_read_68 fl_10_84 rfl rfl h0 hA137 rfl rfl rfl (gp_Ir hG135 (⟨by decide, by decide⟩ : Rg 1 1 1)) (by decide) (fun _ h => absurd (by decide) h) (fun h => absurd h (by decide)) (fun S168 hG169 hA170 e171 f172 er173 => ?_)
          have hF : F_X10_read bs n (StR S o0) x1 = F_X10_read_p71 bs n ((e0 d139.1), (e1 d139.1), (e2 d139.1), (e3 d139.1), (e4 d139.1), (e5 d139.1), (e6 d139.1), 1, (e8 d139.1), (e9 d139.1), (e10 d139.1), (e11 d139.1), (eJ d139.1)) (x1) (d139.2) (d139.2) := by
            subst hd140
            subst hd131
            exact q_X10_read_3 q145 q148 q151 q159
          exact tt_loc (ks := [2, 3, 1, 0]) rfl (ce_X10_read_p71 hG169 (oa_af h0 hA170) (br_af hb h0 hA170) (fun r T x y h => hP r T x y (pv_tr hA170 h (by decide) (fun v T e => (((congrArg (fun q => F_X10_read_p71 bs n q (x1) (d139.2) (d139.2)) (stR_mk ((congrFun (congrFun e171 654) o0).trans ((congrFun (up2_ne (k := 654)) o0).trans (sR_654 hs142))) ((congrFun (congrFun e171 655) o0).trans ((congrFun (up2_ne (k := 655)) o0).trans (sR_655 hs142))) ((congrFun (congrFun e171 656) o0).trans ((congrFun (up2_ne (k := 656)) o0).trans (sR_656 hs142))) ((congrFun (congrFun e171 657) o0).trans ((congrFun (up2_ne (k := 657)) o0).trans (sR_657 hs142))) ((congrFun (congrFun e171 658) o0).trans ((congrFun (up2_ne (k := 658)) o0).trans (sR_658 hs142))) ((congrFun (congrFun e171 659) o0).trans ((congrFun (up2_ne (k := 659)) o0).trans (sR_659 hs142))) ((congrFun (congrFun e171 661) o0).trans ((congrFun (up2_ne (k := 661)) o0).trans (sR_661 hs142))) (by rw [e171]; exact up2_self) ((congrFun (congrFun e171 672) o0).trans ((congrFun (up2_ne (k := 672)) o0).trans (sR_672 hs142))) ((congrFun (congrFun e171 673) o0).trans ((congrFun (up2_ne (k := 673)) o0).trans (sR_673 hs142))) ((congrFun (congrFun e171 674) o0).trans ((congrFun (up2_ne (k := 674)) o0).trans (sR_674 hs142))) ((congrFun (congrFun e171 675) o0).trans ((congrFun (up2_ne (k := 675)) o0).trans (sR_675 hs142))) ((congrFun (congrFun f172 660) o0).trans (sR_660 hs142)))).trans hF.symm) ▸ e)))))
