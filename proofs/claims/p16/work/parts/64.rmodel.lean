def G_X10_isIn  (y0 : Int64) (y2 : Int64) (y4 : Int64) : Int32 :=
  if y0 < y2 then
    0
  else
    if y4 < y0 then
      0
    else
      1
theorem g_X10_isIn_0  {y0 : Int64} {y2 : Int64} {y4 : Int64} (h0 : y0 < y2) : G_X10_isIn  y0 y2 y4 = 0 := by unfold G_X10_isIn; exact if_pos h0
theorem g_X10_isIn_1  {y0 : Int64} {y2 : Int64} {y4 : Int64} (h0 : ¬ y0 < y2) (h1 : y4 < y0) : G_X10_isIn  y0 y2 y4 = 0 := by unfold G_X10_isIn; exact Eq.trans (if_neg h0) (if_pos h1)
theorem g_X10_isIn_2  {y0 : Int64} {y2 : Int64} {y4 : Int64} (h0 : ¬ y0 < y2) (h1 : ¬ y4 < y0) : G_X10_isIn  y0 y2 y4 = 1 := by unfold G_X10_isIn; exact Eq.trans (if_neg h0) (if_neg h1)
set_option maxHeartbeats 40000000 in
theorem cr_X10_isIn {xi : SX} {S : Hp} {E : List Nat} {kc nc : Nat} {P : Po} {y0 : Int64} {y2 : Int64} {y4 : Int64} (hG : GI S E)  (hP : ∀ r T x y, PV E [] S kc nc (rI 0 1) (fun v T => T = S ∧ v = some (.int (G_X10_isIn  y0 y2 y4))) [] r T x y → P r T x y) : TT xi M_X10_isIn 0 [(0, .long y0), (2, .long y2), (4, .long y4)] [] S kc nc P := by
  have hA : Af E [] S S := af_rf
  refine tt_lload_n (j := 0) dX10_isIn_0 rfl ?_
  refine tt_lload_n (j := 1) dX10_isIn_1 rfl ?_
  refine tt_lcmp dX10_isIn_2 ?_
  refine tt_if_lt (tgt := 17) dX10_isIn_3 rfl (fun q101 => ?_) (fun q101 => ?_)
  · skip
    refine tt_iconst (v := 0) dX10_isIn_17 rfl ?_
    have hF : G_X10_isIn  y0 y2 y4 = 0 := by
      exact g_X10_isIn_0 (lc_lt_t q101)
    exact tt_ireturn dX10_isIn_18 .boolean rfl rfl (hP _ _ _ _ ⟨hG, hA, Or.inl ⟨_, rfl, ⟨_, rfl, rg_w (⟨by decide, by decide⟩ : Rg 0 0 0)⟩, ⟨rfl, congrArg (fun q => some (Value.int q)) hF.symm⟩, rfl, rfl⟩⟩)
  · skip
    refine tt_lload_n (j := 0) dX10_isIn_6 rfl ?_
    refine tt_lload (j := 2) dX10_isIn_7 rfl ?_
    refine tt_lcmp dX10_isIn_9 ?_
    refine tt_if_gt (tgt := 17) dX10_isIn_10 rfl (fun q102 => ?_) (fun q102 => ?_)
    · skip
      refine tt_iconst (v := 0) dX10_isIn_17 rfl ?_
      have hF : G_X10_isIn  y0 y2 y4 = 0 := by
        exact g_X10_isIn_1 (Int64.not_lt.mpr (lc_lt_f q101)) (lc_gt_t q102)
      exact tt_ireturn dX10_isIn_18 .boolean rfl rfl (hP _ _ _ _ ⟨hG, hA, Or.inl ⟨_, rfl, ⟨_, rfl, rg_w (⟨by decide, by decide⟩ : Rg 0 0 0)⟩, ⟨rfl, congrArg (fun q => some (Value.int q)) hF.symm⟩, rfl, rfl⟩⟩)
    · skip
      refine tt_iconst (v := 1) dX10_isIn_13 rfl ?_
      refine tt_goto (tgt := 18) dX10_isIn_14 rfl ?_
      have hF : G_X10_isIn  y0 y2 y4 = 1 := by
        exact g_X10_isIn_2 (Int64.not_lt.mpr (lc_lt_f q101)) (Int64.not_lt.mpr (lc_gt_f q102))
      exact tt_ireturn dX10_isIn_18 .boolean rfl rfl (hP _ _ _ _ ⟨hG, hA, Or.inl ⟨_, rfl, ⟨_, rfl, rg_w (⟨by decide, by decide⟩ : Rg 1 1 1)⟩, ⟨rfl, congrArg (fun q => some (Value.int q)) hF.symm⟩, rfl, rfl⟩⟩)
theorem isn_rl {y : Int64} {n : Int32} (h : ¬ G_X10_isIn y 0 (n - 1 : Int32).toInt64 = 0) (hn : Rg 0 200 n) : Rl 0 199 y := by
  obtain ⟨n1, n2⟩ := hn
  have e : (n - 1 : Int32).toInt = n.toInt - 1 := by rw [Int32.toInt_sub, show (1 : Int32).toInt = 1 from rfl, bmod_in (by omega) (by omega)]
  unfold G_X10_isIn at h
  by_cases h1 : y < 0
  · exact absurd (if_pos h1) h
  · by_cases h2 : (n - 1 : Int32).toInt64 < y
    · exact absurd (Eq.trans (if_neg h1) (if_pos h2)) h
    · rw [Int64.lt_iff_toInt_lt, show (0 : Int64).toInt = 0 from rfl] at h1
      rw [Int64.lt_iff_toInt_lt, Int32.toInt_toInt64, e] at h2
      exact ⟨by omega, by omega⟩
def G_X10_cutDown (q : AU) (w : RS) (y1 : Int64) : Int64 :=
  if (u1 q) = 64 then
    y1
  else
    ((y1 : Int64).toInt32 : Int32).toInt64
theorem g_X10_cutDown_0 {q : AU} {w : RS} {y1 : Int64} (h0 : (u1 q) = 64) : G_X10_cutDown q w y1 = y1 := by unfold G_X10_cutDown; exact if_pos h0
theorem g_X10_cutDown_1 {q : AU} {w : RS} {y1 : Int64} (h0 : ¬ (u1 q) = 64) : G_X10_cutDown q w y1 = ((y1 : Int64).toInt32 : Int32).toInt64 := by unfold G_X10_cutDown; exact if_neg h0
set_option maxHeartbeats 40000000 in
theorem cr_X10_cutDown {xi : SX} {S : Hp} {E : List Nat} {kc nc : Nat} {P : Po} {o0 : Nat} {y1 : Int64} {vl : Nat} {bs : Nat → Int32} {n : Int32} (hG : GI S E) (hc : RRx S E o0 vl bs n) (hP : ∀ r T x y, PV E [] S kc nc rJ (fun v T => T = S ∧ v = some (.long (G_X10_cutDown (AR S o0) (QR S o0 vl) y1))) [] r T x y → P r T x y) : TT xi M_X10_cutDown 0 [(0, .ref o0), (1, .long y1)] [] S kc nc P := by
  obtain ⟨h0, hrv, hov, hb, rfl⟩ := id hc
  have hA : Af E [] S S := af_rf
  refine tt_aload_n (j := 0) dX10_cutDown_0 rfl ?_
  refine gt_gI (id := 656) (v := (u1 (AR S o0))) dX10_cutDown_1 fl_10_127 rfl rfl h0 hA (uR_656 (T := S) (o := o0) rfl) ?_
  refine tt_bipush (v := 64) dX10_cutDown_4 rfl ?_
  refine tt_icmp_ne (tgt := 13) dX10_cutDown_6 rfl (fun q101 => ?_) (fun q101 => ?_)
  · skip
    refine tt_lload_n (j := 1) dX10_cutDown_13 rfl ?_
    refine tt_l2i dX10_cutDown_14 ?_
    refine tt_i2l dX10_cutDown_15 ?_
    have hF : G_X10_cutDown (AR S o0) (QR S o0 vl) y1 = ((y1 : Int64).toInt32 : Int32).toInt64 := by
      exact g_X10_cutDown_1 q101
    exact tt_lreturn dX10_cutDown_16 rfl (hP _ _ _ _ ⟨hG, hA, Or.inl ⟨_, rfl, ⟨_, rfl⟩, ⟨rfl, congrArg (fun q => some (Value.long q)) hF.symm⟩, rfl, rfl⟩⟩)
  · skip
    have h102 : Rg 64 64 (u1 (AR S o0)) := rg_eq_l (rg_all (u1 (AR S o0))) (⟨by decide, by decide⟩ : Rg 64 64 64) q101
    refine tt_lload_n (j := 1) dX10_cutDown_9 rfl ?_
    refine tt_goto (tgt := 16) dX10_cutDown_10 rfl ?_
    have hF : G_X10_cutDown (AR S o0) (QR S o0 vl) y1 = y1 := by
      exact g_X10_cutDown_0 q101
    exact tt_lreturn dX10_cutDown_16 rfl (hP _ _ _ _ ⟨hG, hA, Or.inl ⟨_, rfl, ⟨_, rfl⟩, ⟨rfl, congrArg (fun q => some (Value.long q)) hF.symm⟩, rfl, rfl⟩⟩)
def G_X10_flags (q : AU) (w : RS) (y1 : Int64) (x3 : Int32) (x4 : Int32) : RS :=
  if y1 = 0 then
    if y1 < 0 then
      ((r0 w), 0, 1, 1, x3, x4, (rA w))
    else
      ((r0 w), 0, 1, 0, x3, x4, (rA w))
  else
    if y1 < 0 then
      ((r0 w), 0, 0, 1, x3, x4, (rA w))
    else
      ((r0 w), 0, 0, 0, x3, x4, (rA w))
theorem g_X10_flags_0 {q : AU} {w : RS} {y1 : Int64} {x3 : Int32} {x4 : Int32} (h0 : y1 = 0) (h1 : y1 < 0) : G_X10_flags q w y1 x3 x4 = ((r0 w), 0, 1, 1, x3, x4, (rA w)) := by unfold G_X10_flags; exact Eq.trans (if_pos h0) (if_pos h1)
theorem g_X10_flags_1 {q : AU} {w : RS} {y1 : Int64} {x3 : Int32} {x4 : Int32} (h0 : y1 = 0) (h1 : ¬ y1 < 0) : G_X10_flags q w y1 x3 x4 = ((r0 w), 0, 1, 0, x3, x4, (rA w)) := by unfold G_X10_flags; exact Eq.trans (if_pos h0) (if_neg h1)
theorem g_X10_flags_2 {q : AU} {w : RS} {y1 : Int64} {x3 : Int32} {x4 : Int32} (h0 : ¬ y1 = 0) (h1 : y1 < 0) : G_X10_flags q w y1 x3 x4 = ((r0 w), 0, 0, 1, x3, x4, (rA w)) := by unfold G_X10_flags; exact Eq.trans (if_neg h0) (if_pos h1)
theorem g_X10_flags_3 {q : AU} {w : RS} {y1 : Int64} {x3 : Int32} {x4 : Int32} (h0 : ¬ y1 = 0) (h1 : ¬ y1 < 0) : G_X10_flags q w y1 x3 x4 = ((r0 w), 0, 0, 0, x3, x4, (rA w)) := by unfold G_X10_flags; exact Eq.trans (if_neg h0) (if_neg h1)
set_option maxHeartbeats 40000000 in
theorem cr_X10_flags {xi : SX} {S : Hp} {E : List Nat} {kc nc : Nat} {P : Po} {o0 : Nat} {y1 : Int64} {x3 : Int32} {x4 : Int32} {vl : Nat} {bs : Nat → Int32} {n : Int32} (hG : GI S E) (h3 : Rg 0 1 x3) (h4 : Rg 0 1 x4) (hc : RRx S E o0 vl bs n) (hP : ∀ r T x y, PV E [667, 668, 669, 670, 671] S kc nc rV (fun v T => QR T o0 vl = G_X10_flags (AR S o0) (QR S o0 vl) y1 x3 x4) [] r T x y → P r T x y) : TT xi M_X10_flags 0 [(0, .ref o0), (1, .long y1), (3, .int x3), (4, .int x4)] [] S kc nc P := by
  obtain ⟨h0, hrv, hov, hb, rfl⟩ := id hc
  have hA : Af E [667, 668, 669, 670, 671] S S := af_rf
  refine tt_aload_n (j := 0) dX10_flags_0 rfl ?_
  refine tt_lload_n (j := 1) dX10_flags_1 rfl ?_
  refine tt_lconst (v := 0) dX10_flags_2 rfl ?_
  refine tt_lcmp dX10_flags_3 ?_
  refine tt_if_ne (tgt := 11) dX10_flags_4 rfl (fun q101 => ?_) (fun q101 => ?_)
  · skip
    refine tt_iconst (v := 0) dX10_flags_11 rfl ?_
    refine gt_pIj (id := 668) (x := 0) dX10_flags_12 fl_10_319 rfl rfl h0 hA rfl rfl rfl (gp_Ir hG (⟨by decide, by decide⟩ : Rg 0 0 0)) (by decide) (fun h => absurd h (by decide)) (fun h => absurd h (by decide)) (fun S102 hG103 hA104 e105 f106 er107 ej108 => ?_)
    refine tt_aload_n (j := 0) dX10_flags_15 rfl ?_
    refine tt_lload_n (j := 1) dX10_flags_16 rfl ?_
    refine tt_lconst (v := 0) dX10_flags_17 rfl ?_
    refine tt_lcmp dX10_flags_18 ?_
    refine tt_if_ge (tgt := 26) dX10_flags_19 rfl (fun q109 => ?_) (fun q109 => ?_)
    · skip
      refine tt_iconst (v := 0) dX10_flags_26 rfl ?_
      refine gt_pIj (id := 669) (x := 0) dX10_flags_27 fl_10_322 rfl rfl h0 hA104 rfl rfl rfl (gp_Ir hG103 (⟨by decide, by decide⟩ : Rg 0 0 0)) (by decide) (fun h => absurd h (by decide)) (fun h => absurd h (by decide)) (fun S110 hG111 hA112 e113 f114 er115 ej116 => ?_)
      refine tt_aload_n (j := 0) dX10_flags_30 rfl ?_
      refine tt_iload_n (j := 2) dX10_flags_31 rfl ?_
      refine gt_pIj (id := 670) (x := x3) dX10_flags_32 fl_10_325 rfl rfl h0 hA112 (rg_nar (rg_w h3)) (rg_fit (rg_w h3)) rfl (gp_Ir hG111 h3) (by decide) (fun h => absurd h (by decide)) (fun h => absurd h (by decide)) (fun S117 hG118 hA119 e120 f121 er122 ej123 => ?_)
      refine tt_aload_n (j := 0) dX10_flags_35 rfl ?_
      refine tt_iload (j := 3) dX10_flags_36 rfl ?_
      refine gt_pIj (id := 671) (x := x4) dX10_flags_38 fl_10_328 rfl rfl h0 hA119 (rg_nar (rg_w h4)) (rg_fit (rg_w h4)) rfl (gp_Ir hG118 h4) (by decide) (fun h => absurd h (by decide)) (fun h => absurd h (by decide)) (fun S124 hG125 hA126 e127 f128 er129 ej130 => ?_)
      refine tt_aload_n (j := 0) dX10_flags_41 rfl ?_
      refine tt_iconst (v := 0) dX10_flags_42 rfl ?_
      refine gt_pIj (id := 667) (x := 0) dX10_flags_43 fl_10_316 rfl rfl h0 hA126 rfl rfl rfl (gp_Ir hG125 (⟨by decide, by decide⟩ : Rg 0 0 0)) (by decide) (fun h => absurd h (by decide)) (fun h => absurd h (by decide)) (fun S131 hG132 hA133 e134 f135 er136 ej137 => ?_)
      have hF : G_X10_flags (AR S o0) (QR S o0 vl) y1 x3 x4 = ((r0 (QR S o0 vl)), 0, 0, 0, x3, x4, (rA (QR S o0 vl))) := by
        exact g_X10_flags_3 (lc_ne_t q101) (Int64.not_lt.mpr (lc_ge_t q109))
      exact tt_vreturn dX10_flags_46 rfl (hP _ _ _ _ ⟨hG132, hA133, Or.inl ⟨_, rfl, rfl, Eq.trans (qR_mk ((congrFun (congrFun e134 664) o0).trans ((congrFun (up2_ne (k := 664)) o0).trans ((congrFun (congrFun e127 664) o0).trans ((congrFun (up2_ne (k := 664)) o0).trans ((congrFun (congrFun e120 664) o0).trans ((congrFun (up2_ne (k := 664)) o0).trans ((congrFun (congrFun e113 664) o0).trans ((congrFun (up2_ne (k := 664)) o0).trans ((congrFun (congrFun e105 664) o0).trans ((congrFun (up2_ne (k := 664)) o0).trans (tR_664 (T := S) (o := o0) (a := vl) rfl))))))))))) (by rw [e134]; exact up2_self) ((congrFun (congrFun e134 668) o0).trans ((congrFun (up2_ne (k := 668)) o0).trans ((congrFun (congrFun e127 668) o0).trans ((congrFun (up2_ne (k := 668)) o0).trans ((congrFun (congrFun e120 668) o0).trans ((congrFun (up2_ne (k := 668)) o0).trans ((congrFun (congrFun e113 668) o0).trans ((congrFun (up2_ne (k := 668)) o0).trans (by rw [e105]; exact up2_self))))))))) ((congrFun (congrFun e134 669) o0).trans ((congrFun (up2_ne (k := 669)) o0).trans ((congrFun (congrFun e127 669) o0).trans ((congrFun (up2_ne (k := 669)) o0).trans ((congrFun (congrFun e120 669) o0).trans ((congrFun (up2_ne (k := 669)) o0).trans (by rw [e113]; exact up2_self))))))) ((congrFun (congrFun e134 670) o0).trans ((congrFun (up2_ne (k := 670)) o0).trans ((congrFun (congrFun e127 670) o0).trans ((congrFun (up2_ne (k := 670)) o0).trans (by rw [e120]; exact up2_self))))) ((congrFun (congrFun e134 671) o0).trans ((congrFun (up2_ne (k := 671)) o0).trans (by rw [e127]; exact up2_self))) ((congrFun ej137 vl).trans ((congrFun ej130 vl).trans ((congrFun ej123 vl).trans ((congrFun ej116 vl).trans ((congrFun ej108 vl).trans rfl)))))) hF.symm, rfl, rfl⟩⟩)
    · skip
      refine tt_iconst (v := 1) dX10_flags_22 rfl ?_
      refine tt_goto (tgt := 27) dX10_flags_23 rfl ?_
      refine gt_pIj (id := 669) (x := 1) dX10_flags_27 fl_10_322 rfl rfl h0 hA104 rfl rfl rfl (gp_Ir hG103 (⟨by decide, by decide⟩ : Rg 1 1 1)) (by decide) (fun h => absurd h (by decide)) (fun h => absurd h (by decide)) (fun S138 hG139 hA140 e141 f142 er143 ej144 => ?_)
      refine tt_aload_n (j := 0) dX10_flags_30 rfl ?_
      refine tt_iload_n (j := 2) dX10_flags_31 rfl ?_
      refine gt_pIj (id := 670) (x := x3) dX10_flags_32 fl_10_325 rfl rfl h0 hA140 (rg_nar (rg_w h3)) (rg_fit (rg_w h3)) rfl (gp_Ir hG139 h3) (by decide) (fun h => absurd h (by decide)) (fun h => absurd h (by decide)) (fun S145 hG146 hA147 e148 f149 er150 ej151 => ?_)
      refine tt_aload_n (j := 0) dX10_flags_35 rfl ?_
      refine tt_iload (j := 3) dX10_flags_36 rfl ?_
      refine gt_pIj (id := 671) (x := x4) dX10_flags_38 fl_10_328 rfl rfl h0 hA147 (rg_nar (rg_w h4)) (rg_fit (rg_w h4)) rfl (gp_Ir hG146 h4) (by decide) (fun h => absurd h (by decide)) (fun h => absurd h (by decide)) (fun S152 hG153 hA154 e155 f156 er157 ej158 => ?_)
      refine tt_aload_n (j := 0) dX10_flags_41 rfl ?_
      refine tt_iconst (v := 0) dX10_flags_42 rfl ?_
      refine gt_pIj (id := 667) (x := 0) dX10_flags_43 fl_10_316 rfl rfl h0 hA154 rfl rfl rfl (gp_Ir hG153 (⟨by decide, by decide⟩ : Rg 0 0 0)) (by decide) (fun h => absurd h (by decide)) (fun h => absurd h (by decide)) (fun S159 hG160 hA161 e162 f163 er164 ej165 => ?_)
      have hF : G_X10_flags (AR S o0) (QR S o0 vl) y1 x3 x4 = ((r0 (QR S o0 vl)), 0, 0, 1, x3, x4, (rA (QR S o0 vl))) := by
        exact g_X10_flags_2 (lc_ne_t q101) (lc_ge_f q109)
      exact tt_vreturn dX10_flags_46 rfl (hP _ _ _ _ ⟨hG160, hA161, Or.inl ⟨_, rfl, rfl, Eq.trans (qR_mk ((congrFun (congrFun e162 664) o0).trans ((congrFun (up2_ne (k := 664)) o0).trans ((congrFun (congrFun e155 664) o0).trans ((congrFun (up2_ne (k := 664)) o0).trans ((congrFun (congrFun e148 664) o0).trans ((congrFun (up2_ne (k := 664)) o0).trans ((congrFun (congrFun e141 664) o0).trans ((congrFun (up2_ne (k := 664)) o0).trans ((congrFun (congrFun e105 664) o0).trans ((congrFun (up2_ne (k := 664)) o0).trans (tR_664 (T := S) (o := o0) (a := vl) rfl))))))))))) (by rw [e162]; exact up2_self) ((congrFun (congrFun e162 668) o0).trans ((congrFun (up2_ne (k := 668)) o0).trans ((congrFun (congrFun e155 668) o0).trans ((congrFun (up2_ne (k := 668)) o0).trans ((congrFun (congrFun e148 668) o0).trans ((congrFun (up2_ne (k := 668)) o0).trans ((congrFun (congrFun e141 668) o0).trans ((congrFun (up2_ne (k := 668)) o0).trans (by rw [e105]; exact up2_self))))))))) ((congrFun (congrFun e162 669) o0).trans ((congrFun (up2_ne (k := 669)) o0).trans ((congrFun (congrFun e155 669) o0).trans ((congrFun (up2_ne (k := 669)) o0).trans ((congrFun (congrFun e148 669) o0).trans ((congrFun (up2_ne (k := 669)) o0).trans (by rw [e141]; exact up2_self))))))) ((congrFun (congrFun e162 670) o0).trans ((congrFun (up2_ne (k := 670)) o0).trans ((congrFun (congrFun e155 670) o0).trans ((congrFun (up2_ne (k := 670)) o0).trans (by rw [e148]; exact up2_self))))) ((congrFun (congrFun e162 671) o0).trans ((congrFun (up2_ne (k := 671)) o0).trans (by rw [e155]; exact up2_self))) ((congrFun ej165 vl).trans ((congrFun ej158 vl).trans ((congrFun ej151 vl).trans ((congrFun ej144 vl).trans ((congrFun ej108 vl).trans rfl)))))) hF.symm, rfl, rfl⟩⟩)
  · skip
    refine tt_iconst (v := 1) dX10_flags_7 rfl ?_
    refine tt_goto (tgt := 12) dX10_flags_8 rfl ?_
    refine gt_pIj (id := 668) (x := 1) dX10_flags_12 fl_10_319 rfl rfl h0 hA rfl rfl rfl (gp_Ir hG (⟨by decide, by decide⟩ : Rg 1 1 1)) (by decide) (fun h => absurd h (by decide)) (fun h => absurd h (by decide)) (fun S166 hG167 hA168 e169 f170 er171 ej172 => ?_)
    refine tt_aload_n (j := 0) dX10_flags_15 rfl ?_
    refine tt_lload_n (j := 1) dX10_flags_16 rfl ?_
    refine tt_lconst (v := 0) dX10_flags_17 rfl ?_
    refine tt_lcmp dX10_flags_18 ?_
    refine tt_if_ge (tgt := 26) dX10_flags_19 rfl (fun q173 => ?_) (fun q173 => ?_)
    · skip
      refine tt_iconst (v := 0) dX10_flags_26 rfl ?_
      refine gt_pIj (id := 669) (x := 0) dX10_flags_27 fl_10_322 rfl rfl h0 hA168 rfl rfl rfl (gp_Ir hG167 (⟨by decide, by decide⟩ : Rg 0 0 0)) (by decide) (fun h => absurd h (by decide)) (fun h => absurd h (by decide)) (fun S174 hG175 hA176 e177 f178 er179 ej180 => ?_)
      refine tt_aload_n (j := 0) dX10_flags_30 rfl ?_
      refine tt_iload_n (j := 2) dX10_flags_31 rfl ?_
      refine gt_pIj (id := 670) (x := x3) dX10_flags_32 fl_10_325 rfl rfl h0 hA176 (rg_nar (rg_w h3)) (rg_fit (rg_w h3)) rfl (gp_Ir hG175 h3) (by decide) (fun h => absurd h (by decide)) (fun h => absurd h (by decide)) (fun S181 hG182 hA183 e184 f185 er186 ej187 => ?_)
      refine tt_aload_n (j := 0) dX10_flags_35 rfl ?_
      refine tt_iload (j := 3) dX10_flags_36 rfl ?_
      refine gt_pIj (id := 671) (x := x4) dX10_flags_38 fl_10_328 rfl rfl h0 hA183 (rg_nar (rg_w h4)) (rg_fit (rg_w h4)) rfl (gp_Ir hG182 h4) (by decide) (fun h => absurd h (by decide)) (fun h => absurd h (by decide)) (fun S188 hG189 hA190 e191 f192 er193 ej194 => ?_)
      refine tt_aload_n (j := 0) dX10_flags_41 rfl ?_
      refine tt_iconst (v := 0) dX10_flags_42 rfl ?_
      refine gt_pIj (id := 667) (x := 0) dX10_flags_43 fl_10_316 rfl rfl h0 hA190 rfl rfl rfl (gp_Ir hG189 (⟨by decide, by decide⟩ : Rg 0 0 0)) (by decide) (fun h => absurd h (by decide)) (fun h => absurd h (by decide)) (fun S195 hG196 hA197 e198 f199 er200 ej201 => ?_)
      have hF : G_X10_flags (AR S o0) (QR S o0 vl) y1 x3 x4 = ((r0 (QR S o0 vl)), 0, 1, 0, x3, x4, (rA (QR S o0 vl))) := by
        exact g_X10_flags_1 (lc_ne_f q101) (Int64.not_lt.mpr (lc_ge_t q173))
      exact tt_vreturn dX10_flags_46 rfl (hP _ _ _ _ ⟨hG196, hA197, Or.inl ⟨_, rfl, rfl, Eq.trans (qR_mk ((congrFun (congrFun e198 664) o0).trans ((congrFun (up2_ne (k := 664)) o0).trans ((congrFun (congrFun e191 664) o0).trans ((congrFun (up2_ne (k := 664)) o0).trans ((congrFun (congrFun e184 664) o0).trans ((congrFun (up2_ne (k := 664)) o0).trans ((congrFun (congrFun e177 664) o0).trans ((congrFun (up2_ne (k := 664)) o0).trans ((congrFun (congrFun e169 664) o0).trans ((congrFun (up2_ne (k := 664)) o0).trans (tR_664 (T := S) (o := o0) (a := vl) rfl))))))))))) (by rw [e198]; exact up2_self) ((congrFun (congrFun e198 668) o0).trans ((congrFun (up2_ne (k := 668)) o0).trans ((congrFun (congrFun e191 668) o0).trans ((congrFun (up2_ne (k := 668)) o0).trans ((congrFun (congrFun e184 668) o0).trans ((congrFun (up2_ne (k := 668)) o0).trans ((congrFun (congrFun e177 668) o0).trans ((congrFun (up2_ne (k := 668)) o0).trans (by rw [e169]; exact up2_self))))))))) ((congrFun (congrFun e198 669) o0).trans ((congrFun (up2_ne (k := 669)) o0).trans ((congrFun (congrFun e191 669) o0).trans ((congrFun (up2_ne (k := 669)) o0).trans ((congrFun (congrFun e184 669) o0).trans ((congrFun (up2_ne (k := 669)) o0).trans (by rw [e177]; exact up2_self))))))) ((congrFun (congrFun e198 670) o0).trans ((congrFun (up2_ne (k := 670)) o0).trans ((congrFun (congrFun e191 670) o0).trans ((congrFun (up2_ne (k := 670)) o0).trans (by rw [e184]; exact up2_self))))) ((congrFun (congrFun e198 671) o0).trans ((congrFun (up2_ne (k := 671)) o0).trans (by rw [e191]; exact up2_self))) ((congrFun ej201 vl).trans ((congrFun ej194 vl).trans ((congrFun ej187 vl).trans ((congrFun ej180 vl).trans ((congrFun ej172 vl).trans rfl)))))) hF.symm, rfl, rfl⟩⟩)
    · skip
      refine tt_iconst (v := 1) dX10_flags_22 rfl ?_
      refine tt_goto (tgt := 27) dX10_flags_23 rfl ?_
      refine gt_pIj (id := 669) (x := 1) dX10_flags_27 fl_10_322 rfl rfl h0 hA168 rfl rfl rfl (gp_Ir hG167 (⟨by decide, by decide⟩ : Rg 1 1 1)) (by decide) (fun h => absurd h (by decide)) (fun h => absurd h (by decide)) (fun S202 hG203 hA204 e205 f206 er207 ej208 => ?_)
      refine tt_aload_n (j := 0) dX10_flags_30 rfl ?_
      refine tt_iload_n (j := 2) dX10_flags_31 rfl ?_
      refine gt_pIj (id := 670) (x := x3) dX10_flags_32 fl_10_325 rfl rfl h0 hA204 (rg_nar (rg_w h3)) (rg_fit (rg_w h3)) rfl (gp_Ir hG203 h3) (by decide) (fun h => absurd h (by decide)) (fun h => absurd h (by decide)) (fun S209 hG210 hA211 e212 f213 er214 ej215 => ?_)
      refine tt_aload_n (j := 0) dX10_flags_35 rfl ?_
      refine tt_iload (j := 3) dX10_flags_36 rfl ?_
      refine gt_pIj (id := 671) (x := x4) dX10_flags_38 fl_10_328 rfl rfl h0 hA211 (rg_nar (rg_w h4)) (rg_fit (rg_w h4)) rfl (gp_Ir hG210 h4) (by decide) (fun h => absurd h (by decide)) (fun h => absurd h (by decide)) (fun S216 hG217 hA218 e219 f220 er221 ej222 => ?_)
      refine tt_aload_n (j := 0) dX10_flags_41 rfl ?_
      refine tt_iconst (v := 0) dX10_flags_42 rfl ?_
      refine gt_pIj (id := 667) (x := 0) dX10_flags_43 fl_10_316 rfl rfl h0 hA218 rfl rfl rfl (gp_Ir hG217 (⟨by decide, by decide⟩ : Rg 0 0 0)) (by decide) (fun h => absurd h (by decide)) (fun h => absurd h (by decide)) (fun S223 hG224 hA225 e226 f227 er228 ej229 => ?_)
      have hF : G_X10_flags (AR S o0) (QR S o0 vl) y1 x3 x4 = ((r0 (QR S o0 vl)), 0, 1, 1, x3, x4, (rA (QR S o0 vl))) := by
        exact g_X10_flags_0 (lc_ne_f q101) (lc_ge_f q173)
      exact tt_vreturn dX10_flags_46 rfl (hP _ _ _ _ ⟨hG224, hA225, Or.inl ⟨_, rfl, rfl, Eq.trans (qR_mk ((congrFun (congrFun e226 664) o0).trans ((congrFun (up2_ne (k := 664)) o0).trans ((congrFun (congrFun e219 664) o0).trans ((congrFun (up2_ne (k := 664)) o0).trans ((congrFun (congrFun e212 664) o0).trans ((congrFun (up2_ne (k := 664)) o0).trans ((congrFun (congrFun e205 664) o0).trans ((congrFun (up2_ne (k := 664)) o0).trans ((congrFun (congrFun e169 664) o0).trans ((congrFun (up2_ne (k := 664)) o0).trans (tR_664 (T := S) (o := o0) (a := vl) rfl))))))))))) (by rw [e226]; exact up2_self) ((congrFun (congrFun e226 668) o0).trans ((congrFun (up2_ne (k := 668)) o0).trans ((congrFun (congrFun e219 668) o0).trans ((congrFun (up2_ne (k := 668)) o0).trans ((congrFun (congrFun e212 668) o0).trans ((congrFun (up2_ne (k := 668)) o0).trans ((congrFun (congrFun e205 668) o0).trans ((congrFun (up2_ne (k := 668)) o0).trans (by rw [e169]; exact up2_self))))))))) ((congrFun (congrFun e226 669) o0).trans ((congrFun (up2_ne (k := 669)) o0).trans ((congrFun (congrFun e219 669) o0).trans ((congrFun (up2_ne (k := 669)) o0).trans ((congrFun (congrFun e212 669) o0).trans ((congrFun (up2_ne (k := 669)) o0).trans (by rw [e205]; exact up2_self))))))) ((congrFun (congrFun e226 670) o0).trans ((congrFun (up2_ne (k := 670)) o0).trans ((congrFun (congrFun e219 670) o0).trans ((congrFun (up2_ne (k := 670)) o0).trans (by rw [e212]; exact up2_self))))) ((congrFun (congrFun e226 671) o0).trans ((congrFun (up2_ne (k := 671)) o0).trans (by rw [e219]; exact up2_self))) ((congrFun ej229 vl).trans ((congrFun ej222 vl).trans ((congrFun ej215 vl).trans ((congrFun ej208 vl).trans ((congrFun ej172 vl).trans rfl)))))) hF.symm, rfl, rfl⟩⟩)
def G_X10_isBelow  (y0 : Int64) (y2 : Int64) : Int32 :=
  if (y0 ^^^ (-9223372036854775808)) < (y2 ^^^ (-9223372036854775808)) then
    1
  else
    0
theorem g_X10_isBelow_0  {y0 : Int64} {y2 : Int64} (h0 : (y0 ^^^ (-9223372036854775808)) < (y2 ^^^ (-9223372036854775808))) : G_X10_isBelow  y0 y2 = 1 := by unfold G_X10_isBelow; exact if_pos h0
theorem g_X10_isBelow_1  {y0 : Int64} {y2 : Int64} (h0 : ¬ (y0 ^^^ (-9223372036854775808)) < (y2 ^^^ (-9223372036854775808))) : G_X10_isBelow  y0 y2 = 0 := by unfold G_X10_isBelow; exact if_neg h0
set_option maxHeartbeats 40000000 in
theorem cr_X10_isBelow {xi : SX} {S : Hp} {E : List Nat} {kc nc : Nat} {P : Po} {y0 : Int64} {y2 : Int64} (hG : GI S E)  (hP : ∀ r T x y, PV E [] S kc nc (rI 0 1) (fun v T => T = S ∧ v = some (.int (G_X10_isBelow  y0 y2))) [] r T x y → P r T x y) : TT xi M_X10_isBelow 0 [(0, .long y0), (2, .long y2)] [] S kc nc P := by
  have hA : Af E [] S S := af_rf
  refine tt_lload_n (j := 0) dX10_isBelow_0 rfl ?_
  refine tt_ldc2 (v := (-9223372036854775808)) dX10_isBelow_1 kl_10_331 ?_
  refine tt_lxor dX10_isBelow_4 ?_
  refine tt_lload_n (j := 1) dX10_isBelow_5 rfl ?_
  refine tt_ldc2 (v := (-9223372036854775808)) dX10_isBelow_6 kl_10_331 ?_
  refine tt_lxor dX10_isBelow_9 ?_
  refine tt_lcmp dX10_isBelow_10 ?_
  refine tt_if_ge (tgt := 18) dX10_isBelow_11 rfl (fun q101 => ?_) (fun q101 => ?_)
  · skip
    refine tt_iconst (v := 0) dX10_isBelow_18 rfl ?_
    have hF : G_X10_isBelow  y0 y2 = 0 := by
      exact g_X10_isBelow_1 (Int64.not_lt.mpr (lc_ge_t q101))
    exact tt_ireturn dX10_isBelow_19 .boolean rfl rfl (hP _ _ _ _ ⟨hG, hA, Or.inl ⟨_, rfl, ⟨_, rfl, rg_w (⟨by decide, by decide⟩ : Rg 0 0 0)⟩, ⟨rfl, congrArg (fun q => some (Value.int q)) hF.symm⟩, rfl, rfl⟩⟩)
  · skip
    refine tt_iconst (v := 1) dX10_isBelow_14 rfl ?_
    refine tt_goto (tgt := 19) dX10_isBelow_15 rfl ?_
    have hF : G_X10_isBelow  y0 y2 = 1 := by
      exact g_X10_isBelow_0 (lc_ge_f q101)
    exact tt_ireturn dX10_isBelow_19 .boolean rfl rfl (hP _ _ _ _ ⟨hG, hA, Or.inl ⟨_, rfl, ⟨_, rfl, rg_w (⟨by decide, by decide⟩ : Rg 1 1 1)⟩, ⟨rfl, congrArg (fun q => some (Value.int q)) hF.symm⟩, rfl, rfl⟩⟩)
def G_X10_sum (q : AU) (w : RS) (y1 : Int64) (y3 : Int64) : RS × Int64 :=
  if ((y1 ^^^ (G_X10_cutDown q w ((y1 + y3)))) &&& (y3 ^^^ (G_X10_cutDown q w ((y1 + y3))))) < 0 then
    let d122 := G_X10_flags q w ((G_X10_cutDown q w ((y1 + y3)))) ((G_X10_isBelow ((G_X10_cutDown q w ((y1 + y3)))) (y1))) (1)
    (d122, (G_X10_cutDown q w ((y1 + y3))))
  else
    let d113 := G_X10_flags q w ((G_X10_cutDown q w ((y1 + y3)))) ((G_X10_isBelow ((G_X10_cutDown q w ((y1 + y3)))) (y1))) (0)
    (d113, (G_X10_cutDown q w ((y1 + y3))))
theorem g_X10_sum_0 {q : AU} {w : RS} {y1 : Int64} {y3 : Int64} (h0 : ((y1 ^^^ (G_X10_cutDown q w ((y1 + y3)))) &&& (y3 ^^^ (G_X10_cutDown q w ((y1 + y3))))) < 0) : G_X10_sum q w y1 y3 = ((G_X10_flags q w ((G_X10_cutDown q w ((y1 + y3)))) ((G_X10_isBelow ((G_X10_cutDown q w ((y1 + y3)))) (y1))) (1)), (G_X10_cutDown q w ((y1 + y3)))) := by unfold G_X10_sum; exact if_pos h0
theorem g_X10_sum_1 {q : AU} {w : RS} {y1 : Int64} {y3 : Int64} (h0 : ¬ ((y1 ^^^ (G_X10_cutDown q w ((y1 + y3)))) &&& (y3 ^^^ (G_X10_cutDown q w ((y1 + y3))))) < 0) : G_X10_sum q w y1 y3 = ((G_X10_flags q w ((G_X10_cutDown q w ((y1 + y3)))) ((G_X10_isBelow ((G_X10_cutDown q w ((y1 + y3)))) (y1))) (0)), (G_X10_cutDown q w ((y1 + y3)))) := by unfold G_X10_sum; exact if_neg h0
set_option maxHeartbeats 40000000 in
theorem cr_X10_sum {xi : SX} {S : Hp} {E : List Nat} {kc nc : Nat} {P : Po} {o0 : Nat} {y1 : Int64} {y3 : Int64} {vl : Nat} {bs : Nat → Int32} {n : Int32} (hG : GI S E) (hc : RRx S E o0 vl bs n) (hP : ∀ r T x y, PV E [667, 668, 669, 670, 671] S kc nc rJ (fun v T => YJR (G_X10_sum (AR S o0) (QR S o0 vl) y1 y3) T o0 vl v) [] r T x y → P r T x y) : TT xi M_X10_sum 0 [(0, .ref o0), (1, .long y1), (3, .long y3)] [] S kc nc P := by
  obtain ⟨h0, hrv, hov, hb, rfl⟩ := id hc
  have hA : Af E [667, 668, 669, 670, 671] S S := af_rf
  refine tt_aload_n (j := 0) dX10_sum_0 rfl ?_
  refine tt_lload_n (j := 1) dX10_sum_1 rfl ?_
  refine tt_lload_n (j := 2) dX10_sum_2 rfl ?_
  refine tt_ladd dX10_sum_3 ?_
  refine gt_VJp (As := [.long (y1 + y3)]) dX10_sum_4 ca_X10_333 ⟨by decide, by decide⟩ h0 hA rfl (Nat.le_of_ble_eq_true rfl) (Nat.le_of_ble_eq_true rfl) (by decide) (cr_X10_cutDown hG (rr_af hc hA) (fun _ _ _ _ h => h)) rfl (fun _ h => nomatch h) (fun _ _ q => q.1) (fun y101 hx103 => ?_)
  obtain rfl : G_X10_cutDown (AR S o0) (QR S o0 vl) ((y1 + y3)) = y101 := ((el_w hx103.2).trans ((congrArg (fun q9 => G_X10_cutDown q9 (QR S o0 vl) ((y1 + y3))) (aR_mk (uR_655 (T := S) (o := o0) rfl) (uR_656 (T := S) (o := o0) rfl) (uR_657 (T := S) (o := o0) rfl) (uR_658 (T := S) (o := o0) rfl) (uR_659 (T := S) (o := o0) rfl) (uR_661 (T := S) (o := o0) rfl))).trans (congrArg (fun q9 => G_X10_cutDown (AR S o0) q9 ((y1 + y3))) (qR_mk (tR_664 (T := S) (o := o0) (a := vl) rfl) (tR_667 (T := S) (o := o0) (a := vl) rfl) (tR_668 (T := S) (o := o0) (a := vl) rfl) (tR_669 (T := S) (o := o0) (a := vl) rfl) (tR_670 (T := S) (o := o0) (a := vl) rfl) (tR_671 (T := S) (o := o0) (a := vl) rfl) rfl)))).symm
  refine tt_lstore (ks := [0, 1, 2, 3]) (L' := [(5, .long (G_X10_cutDown (AR S o0) (QR S o0 vl) ((y1 + y3)))), (0, .ref o0), (1, .long y1), (3, .long y3)]) dX10_sum_7 (by decide) rfl ?_
  refine tt_aload_n (j := 1) dX10_sum_9 rfl ?_
  refine tt_lload (j := 0) dX10_sum_10 rfl ?_
  refine tt_lload (j := 0) dX10_sum_12 rfl ?_
  refine tt_lload_n (j := 2) dX10_sum_14 rfl ?_
  refine gt_SIp (As := [.long (G_X10_cutDown (AR S o0) (QR S o0 vl) ((y1 + y3))), .long y1]) dX10_sum_15 ca_X10_337 ⟨by decide, by decide⟩ hA (Nat.le_of_ble_eq_true rfl) (Nat.le_of_ble_eq_true rfl) (by decide) (cr_X10_isBelow hG  (fun _ _ _ _ h => h)) rfl (fun _ h => nomatch h) (fun _ _ q => q.1) (fun x104 h105 hx106 => ?_)
  obtain rfl : G_X10_isBelow ((G_X10_cutDown (AR S o0) (QR S o0 vl) ((y1 + y3)))) (y1) = x104 := (ei_w hx106.2).symm
  refine tt_lload_n (j := 2) dX10_sum_18 rfl ?_
  refine tt_lload (j := 0) dX10_sum_19 rfl ?_
  refine tt_lxor dX10_sum_21 ?_
  refine tt_lload_n (j := 3) dX10_sum_22 rfl ?_
  refine tt_lload (j := 0) dX10_sum_23 rfl ?_
  refine tt_lxor dX10_sum_25 ?_
  refine tt_land dX10_sum_26 ?_
  refine tt_lconst (v := 0) dX10_sum_27 rfl ?_
  refine tt_lcmp dX10_sum_28 ?_
  refine tt_if_ge (tgt := 36) dX10_sum_29 rfl (fun q107 => ?_) (fun q107 => ?_)
  · skip
    refine tt_iconst (v := 0) dX10_sum_36 rfl ?_
    refine gt_Vv (As := [.long (G_X10_cutDown (AR S o0) (QR S o0 vl) ((y1 + y3))), .int (G_X10_isBelow ((G_X10_cutDown (AR S o0) (QR S o0 vl) ((y1 + y3)))) (y1)), .int 0]) dX10_sum_37 ca_X10_341 ⟨by decide, by decide⟩ h0 hA rfl (Nat.le_of_ble_eq_true rfl) (Nat.le_of_ble_eq_true rfl) (by decide) (cr_X10_flags hG (rg_w h105) (rg_w (⟨by decide, by decide⟩ : Rg 0 0 0)) (rr_af hc hA) (fun _ _ _ _ h => h)) rfl (fun _ h => nomatch h) (fun S108 hx112 hG109 hB110 hA111 => ?_)
    obtain ⟨d113, hd114⟩ : ∃ q, G_X10_flags (AR S o0) (QR S o0 vl) ((G_X10_cutDown (AR S o0) (QR S o0 vl) ((y1 + y3)))) ((G_X10_isBelow ((G_X10_cutDown (AR S o0) (QR S o0 vl) ((y1 + y3)))) (y1))) (0) = q := ⟨_, rfl⟩
    have hq115 := ((congrArg (fun q9 => G_X10_flags q9 (QR S o0 vl) ((G_X10_cutDown (AR S o0) (QR S o0 vl) ((y1 + y3)))) ((G_X10_isBelow ((G_X10_cutDown (AR S o0) (QR S o0 vl) ((y1 + y3)))) (y1))) (0)) (aR_mk (uR_655 (T := S) (o := o0) rfl) (uR_656 (T := S) (o := o0) rfl) (uR_657 (T := S) (o := o0) rfl) (uR_658 (T := S) (o := o0) rfl) (uR_659 (T := S) (o := o0) rfl) (uR_661 (T := S) (o := o0) rfl))).trans (congrArg (fun q9 => G_X10_flags (AR S o0) q9 ((G_X10_cutDown (AR S o0) (QR S o0 vl) ((y1 + y3)))) ((G_X10_isBelow ((G_X10_cutDown (AR S o0) (QR S o0 vl) ((y1 + y3)))) (y1))) (0)) (qR_mk (tR_664 (T := S) (o := o0) (a := vl) rfl) (tR_667 (T := S) (o := o0) (a := vl) rfl) (tR_668 (T := S) (o := o0) (a := vl) rfl) (tR_669 (T := S) (o := o0) (a := vl) rfl) (tR_670 (T := S) (o := o0) (a := vl) rfl) (tR_671 (T := S) (o := o0) (a := vl) rfl) rfl))).trans hd114
    have hs116 := hx112.trans hq115
    refine tt_lload (j := 0) dX10_sum_40 rfl ?_
    have hF : G_X10_sum (AR S o0) (QR S o0 vl) y1 y3 = (d113, (G_X10_cutDown (AR S o0) (QR S o0 vl) ((y1 + y3)))) := by
      subst hd114
      exact g_X10_sum_1 (Int64.not_lt.mpr (lc_ge_t q107))
    exact tt_lreturn dX10_sum_42 rfl (hP _ _ _ _ ⟨hG109, hA111, Or.inl ⟨_, rfl, ⟨_, rfl⟩, yjR_mk hF (qR_mk (tR_664 hs116) (tR_667 hs116) (tR_668 hs116) (tR_669 hs116) (tR_670 hs116) (tR_671 hs116) (tR_j hs116)), rfl, rfl⟩⟩)
  · skip
    refine tt_iconst (v := 1) dX10_sum_32 rfl ?_
    refine tt_goto (tgt := 37) dX10_sum_33 rfl ?_
    refine gt_Vv (As := [.long (G_X10_cutDown (AR S o0) (QR S o0 vl) ((y1 + y3))), .int (G_X10_isBelow ((G_X10_cutDown (AR S o0) (QR S o0 vl) ((y1 + y3)))) (y1)), .int 1]) dX10_sum_37 ca_X10_341 ⟨by decide, by decide⟩ h0 hA rfl (Nat.le_of_ble_eq_true rfl) (Nat.le_of_ble_eq_true rfl) (by decide) (cr_X10_flags hG (rg_w h105) (rg_w (⟨by decide, by decide⟩ : Rg 1 1 1)) (rr_af hc hA) (fun _ _ _ _ h => h)) rfl (fun _ h => nomatch h) (fun S117 hx121 hG118 hB119 hA120 => ?_)
    obtain ⟨d122, hd123⟩ : ∃ q, G_X10_flags (AR S o0) (QR S o0 vl) ((G_X10_cutDown (AR S o0) (QR S o0 vl) ((y1 + y3)))) ((G_X10_isBelow ((G_X10_cutDown (AR S o0) (QR S o0 vl) ((y1 + y3)))) (y1))) (1) = q := ⟨_, rfl⟩
    have hq124 := ((congrArg (fun q9 => G_X10_flags q9 (QR S o0 vl) ((G_X10_cutDown (AR S o0) (QR S o0 vl) ((y1 + y3)))) ((G_X10_isBelow ((G_X10_cutDown (AR S o0) (QR S o0 vl) ((y1 + y3)))) (y1))) (1)) (aR_mk (uR_655 (T := S) (o := o0) rfl) (uR_656 (T := S) (o := o0) rfl) (uR_657 (T := S) (o := o0) rfl) (uR_658 (T := S) (o := o0) rfl) (uR_659 (T := S) (o := o0) rfl) (uR_661 (T := S) (o := o0) rfl))).trans (congrArg (fun q9 => G_X10_flags (AR S o0) q9 ((G_X10_cutDown (AR S o0) (QR S o0 vl) ((y1 + y3)))) ((G_X10_isBelow ((G_X10_cutDown (AR S o0) (QR S o0 vl) ((y1 + y3)))) (y1))) (1)) (qR_mk (tR_664 (T := S) (o := o0) (a := vl) rfl) (tR_667 (T := S) (o := o0) (a := vl) rfl) (tR_668 (T := S) (o := o0) (a := vl) rfl) (tR_669 (T := S) (o := o0) (a := vl) rfl) (tR_670 (T := S) (o := o0) (a := vl) rfl) (tR_671 (T := S) (o := o0) (a := vl) rfl) rfl))).trans hd123
    have hs125 := hx121.trans hq124
    refine tt_lload (j := 0) dX10_sum_40 rfl ?_
    have hF : G_X10_sum (AR S o0) (QR S o0 vl) y1 y3 = (d122, (G_X10_cutDown (AR S o0) (QR S o0 vl) ((y1 + y3)))) := by
      subst hd123
      exact g_X10_sum_0 (lc_ge_f q107)
    exact tt_lreturn dX10_sum_42 rfl (hP _ _ _ _ ⟨hG118, hA120, Or.inl ⟨_, rfl, ⟨_, rfl⟩, yjR_mk hF (qR_mk (tR_664 hs125) (tR_667 hs125) (tR_668 hs125) (tR_669 hs125) (tR_670 hs125) (tR_671 hs125) (tR_j hs125)), rfl, rfl⟩⟩)
def G_X10_difference (q : AU) (w : RS) (y1 : Int64) (y3 : Int64) : RS × Int64 :=
  if ((y1 ^^^ y3) &&& (y1 ^^^ (G_X10_cutDown q w ((y1 - y3))))) < 0 then
    let d122 := G_X10_flags q w ((G_X10_cutDown q w ((y1 - y3)))) ((G_X10_isBelow (y1) (y3))) (1)
    (d122, (G_X10_cutDown q w ((y1 - y3))))
  else
    let d113 := G_X10_flags q w ((G_X10_cutDown q w ((y1 - y3)))) ((G_X10_isBelow (y1) (y3))) (0)
    (d113, (G_X10_cutDown q w ((y1 - y3))))
theorem g_X10_difference_0 {q : AU} {w : RS} {y1 : Int64} {y3 : Int64} (h0 : ((y1 ^^^ y3) &&& (y1 ^^^ (G_X10_cutDown q w ((y1 - y3))))) < 0) : G_X10_difference q w y1 y3 = ((G_X10_flags q w ((G_X10_cutDown q w ((y1 - y3)))) ((G_X10_isBelow (y1) (y3))) (1)), (G_X10_cutDown q w ((y1 - y3)))) := by unfold G_X10_difference; exact if_pos h0
theorem g_X10_difference_1 {q : AU} {w : RS} {y1 : Int64} {y3 : Int64} (h0 : ¬ ((y1 ^^^ y3) &&& (y1 ^^^ (G_X10_cutDown q w ((y1 - y3))))) < 0) : G_X10_difference q w y1 y3 = ((G_X10_flags q w ((G_X10_cutDown q w ((y1 - y3)))) ((G_X10_isBelow (y1) (y3))) (0)), (G_X10_cutDown q w ((y1 - y3)))) := by unfold G_X10_difference; exact if_neg h0
set_option maxHeartbeats 40000000 in
theorem cr_X10_difference {xi : SX} {S : Hp} {E : List Nat} {kc nc : Nat} {P : Po} {o0 : Nat} {y1 : Int64} {y3 : Int64} {vl : Nat} {bs : Nat → Int32} {n : Int32} (hG : GI S E) (hc : RRx S E o0 vl bs n) (hP : ∀ r T x y, PV E [667, 668, 669, 670, 671] S kc nc rJ (fun v T => YJR (G_X10_difference (AR S o0) (QR S o0 vl) y1 y3) T o0 vl v) [] r T x y → P r T x y) : TT xi M_X10_difference 0 [(0, .ref o0), (1, .long y1), (3, .long y3)] [] S kc nc P := by
  obtain ⟨h0, hrv, hov, hb, rfl⟩ := id hc
  have hA : Af E [667, 668, 669, 670, 671] S S := af_rf
  refine tt_aload_n (j := 0) dX10_difference_0 rfl ?_
  refine tt_lload_n (j := 1) dX10_difference_1 rfl ?_
  refine tt_lload_n (j := 2) dX10_difference_2 rfl ?_
  refine tt_lsub dX10_difference_3 ?_
  refine gt_VJp (As := [.long (y1 - y3)]) dX10_difference_4 ca_X10_333 ⟨by decide, by decide⟩ h0 hA rfl (Nat.le_of_ble_eq_true rfl) (Nat.le_of_ble_eq_true rfl) (by decide) (cr_X10_cutDown hG (rr_af hc hA) (fun _ _ _ _ h => h)) rfl (fun _ h => nomatch h) (fun _ _ q => q.1) (fun y101 hx103 => ?_)
  obtain rfl : G_X10_cutDown (AR S o0) (QR S o0 vl) ((y1 - y3)) = y101 := ((el_w hx103.2).trans ((congrArg (fun q9 => G_X10_cutDown q9 (QR S o0 vl) ((y1 - y3))) (aR_mk (uR_655 (T := S) (o := o0) rfl) (uR_656 (T := S) (o := o0) rfl) (uR_657 (T := S) (o := o0) rfl) (uR_658 (T := S) (o := o0) rfl) (uR_659 (T := S) (o := o0) rfl) (uR_661 (T := S) (o := o0) rfl))).trans (congrArg (fun q9 => G_X10_cutDown (AR S o0) q9 ((y1 - y3))) (qR_mk (tR_664 (T := S) (o := o0) (a := vl) rfl) (tR_667 (T := S) (o := o0) (a := vl) rfl) (tR_668 (T := S) (o := o0) (a := vl) rfl) (tR_669 (T := S) (o := o0) (a := vl) rfl) (tR_670 (T := S) (o := o0) (a := vl) rfl) (tR_671 (T := S) (o := o0) (a := vl) rfl) rfl)))).symm
  refine tt_lstore (ks := [0, 1, 2, 3]) (L' := [(5, .long (G_X10_cutDown (AR S o0) (QR S o0 vl) ((y1 - y3)))), (0, .ref o0), (1, .long y1), (3, .long y3)]) dX10_difference_7 (by decide) rfl ?_
  refine tt_aload_n (j := 1) dX10_difference_9 rfl ?_
  refine tt_lload (j := 0) dX10_difference_10 rfl ?_
  refine tt_lload_n (j := 2) dX10_difference_12 rfl ?_
  refine tt_lload_n (j := 3) dX10_difference_13 rfl ?_
  refine gt_SIp (As := [.long y1, .long y3]) dX10_difference_14 ca_X10_337 ⟨by decide, by decide⟩ hA (Nat.le_of_ble_eq_true rfl) (Nat.le_of_ble_eq_true rfl) (by decide) (cr_X10_isBelow hG  (fun _ _ _ _ h => h)) rfl (fun _ h => nomatch h) (fun _ _ q => q.1) (fun x104 h105 hx106 => ?_)
  obtain rfl : G_X10_isBelow (y1) (y3) = x104 := (ei_w hx106.2).symm
  refine tt_lload_n (j := 2) dX10_difference_17 rfl ?_
  refine tt_lload_n (j := 3) dX10_difference_18 rfl ?_
  refine tt_lxor dX10_difference_19 ?_
  refine tt_lload_n (j := 2) dX10_difference_20 rfl ?_
  refine tt_lload (j := 0) dX10_difference_21 rfl ?_
  refine tt_lxor dX10_difference_23 ?_
  refine tt_land dX10_difference_24 ?_
  refine tt_lconst (v := 0) dX10_difference_25 rfl ?_
  refine tt_lcmp dX10_difference_26 ?_
  refine tt_if_ge (tgt := 34) dX10_difference_27 rfl (fun q107 => ?_) (fun q107 => ?_)
  · skip
    refine tt_iconst (v := 0) dX10_difference_34 rfl ?_
    refine gt_Vv (As := [.long (G_X10_cutDown (AR S o0) (QR S o0 vl) ((y1 - y3))), .int (G_X10_isBelow (y1) (y3)), .int 0]) dX10_difference_35 ca_X10_341 ⟨by decide, by decide⟩ h0 hA rfl (Nat.le_of_ble_eq_true rfl) (Nat.le_of_ble_eq_true rfl) (by decide) (cr_X10_flags hG (rg_w h105) (rg_w (⟨by decide, by decide⟩ : Rg 0 0 0)) (rr_af hc hA) (fun _ _ _ _ h => h)) rfl (fun _ h => nomatch h) (fun S108 hx112 hG109 hB110 hA111 => ?_)
    obtain ⟨d113, hd114⟩ : ∃ q, G_X10_flags (AR S o0) (QR S o0 vl) ((G_X10_cutDown (AR S o0) (QR S o0 vl) ((y1 - y3)))) ((G_X10_isBelow (y1) (y3))) (0) = q := ⟨_, rfl⟩
    have hq115 := ((congrArg (fun q9 => G_X10_flags q9 (QR S o0 vl) ((G_X10_cutDown (AR S o0) (QR S o0 vl) ((y1 - y3)))) ((G_X10_isBelow (y1) (y3))) (0)) (aR_mk (uR_655 (T := S) (o := o0) rfl) (uR_656 (T := S) (o := o0) rfl) (uR_657 (T := S) (o := o0) rfl) (uR_658 (T := S) (o := o0) rfl) (uR_659 (T := S) (o := o0) rfl) (uR_661 (T := S) (o := o0) rfl))).trans (congrArg (fun q9 => G_X10_flags (AR S o0) q9 ((G_X10_cutDown (AR S o0) (QR S o0 vl) ((y1 - y3)))) ((G_X10_isBelow (y1) (y3))) (0)) (qR_mk (tR_664 (T := S) (o := o0) (a := vl) rfl) (tR_667 (T := S) (o := o0) (a := vl) rfl) (tR_668 (T := S) (o := o0) (a := vl) rfl) (tR_669 (T := S) (o := o0) (a := vl) rfl) (tR_670 (T := S) (o := o0) (a := vl) rfl) (tR_671 (T := S) (o := o0) (a := vl) rfl) rfl))).trans hd114
    have hs116 := hx112.trans hq115
    refine tt_lload (j := 0) dX10_difference_38 rfl ?_
    have hF : G_X10_difference (AR S o0) (QR S o0 vl) y1 y3 = (d113, (G_X10_cutDown (AR S o0) (QR S o0 vl) ((y1 - y3)))) := by
      subst hd114
      exact g_X10_difference_1 (Int64.not_lt.mpr (lc_ge_t q107))
    exact tt_lreturn dX10_difference_40 rfl (hP _ _ _ _ ⟨hG109, hA111, Or.inl ⟨_, rfl, ⟨_, rfl⟩, yjR_mk hF (qR_mk (tR_664 hs116) (tR_667 hs116) (tR_668 hs116) (tR_669 hs116) (tR_670 hs116) (tR_671 hs116) (tR_j hs116)), rfl, rfl⟩⟩)
  · skip
    refine tt_iconst (v := 1) dX10_difference_30 rfl ?_
    refine tt_goto (tgt := 35) dX10_difference_31 rfl ?_
    refine gt_Vv (As := [.long (G_X10_cutDown (AR S o0) (QR S o0 vl) ((y1 - y3))), .int (G_X10_isBelow (y1) (y3)), .int 1]) dX10_difference_35 ca_X10_341 ⟨by decide, by decide⟩ h0 hA rfl (Nat.le_of_ble_eq_true rfl) (Nat.le_of_ble_eq_true rfl) (by decide) (cr_X10_flags hG (rg_w h105) (rg_w (⟨by decide, by decide⟩ : Rg 1 1 1)) (rr_af hc hA) (fun _ _ _ _ h => h)) rfl (fun _ h => nomatch h) (fun S117 hx121 hG118 hB119 hA120 => ?_)
    obtain ⟨d122, hd123⟩ : ∃ q, G_X10_flags (AR S o0) (QR S o0 vl) ((G_X10_cutDown (AR S o0) (QR S o0 vl) ((y1 - y3)))) ((G_X10_isBelow (y1) (y3))) (1) = q := ⟨_, rfl⟩
    have hq124 := ((congrArg (fun q9 => G_X10_flags q9 (QR S o0 vl) ((G_X10_cutDown (AR S o0) (QR S o0 vl) ((y1 - y3)))) ((G_X10_isBelow (y1) (y3))) (1)) (aR_mk (uR_655 (T := S) (o := o0) rfl) (uR_656 (T := S) (o := o0) rfl) (uR_657 (T := S) (o := o0) rfl) (uR_658 (T := S) (o := o0) rfl) (uR_659 (T := S) (o := o0) rfl) (uR_661 (T := S) (o := o0) rfl))).trans (congrArg (fun q9 => G_X10_flags (AR S o0) q9 ((G_X10_cutDown (AR S o0) (QR S o0 vl) ((y1 - y3)))) ((G_X10_isBelow (y1) (y3))) (1)) (qR_mk (tR_664 (T := S) (o := o0) (a := vl) rfl) (tR_667 (T := S) (o := o0) (a := vl) rfl) (tR_668 (T := S) (o := o0) (a := vl) rfl) (tR_669 (T := S) (o := o0) (a := vl) rfl) (tR_670 (T := S) (o := o0) (a := vl) rfl) (tR_671 (T := S) (o := o0) (a := vl) rfl) rfl))).trans hd123
    have hs125 := hx121.trans hq124
    refine tt_lload (j := 0) dX10_difference_38 rfl ?_
    have hF : G_X10_difference (AR S o0) (QR S o0 vl) y1 y3 = (d122, (G_X10_cutDown (AR S o0) (QR S o0 vl) ((y1 - y3)))) := by
      subst hd123
      exact g_X10_difference_0 (lc_ge_f q107)
    exact tt_lreturn dX10_difference_40 rfl (hP _ _ _ _ ⟨hG118, hA120, Or.inl ⟨_, rfl, ⟨_, rfl⟩, yjR_mk hF (qR_mk (tR_664 hs125) (tR_667 hs125) (tR_668 hs125) (tR_669 hs125) (tR_670 hs125) (tR_671 hs125) (tR_j hs125)), rfl, rfl⟩⟩)
def G_X10_bits (q : AU) (w : RS) (y1 : Int64) : RS × Int64 :=
  let d106 := G_X10_flags q w (y1) (0) (0)
  (d106, y1)
theorem g_X10_bits_0 {q : AU} {w : RS} {y1 : Int64}  : G_X10_bits q w y1 = ((G_X10_flags q w (y1) (0) (0)), y1) := rfl
set_option maxHeartbeats 40000000 in
theorem cr_X10_bits {xi : SX} {S : Hp} {E : List Nat} {kc nc : Nat} {P : Po} {o0 : Nat} {y1 : Int64} {vl : Nat} {bs : Nat → Int32} {n : Int32} (hG : GI S E) (hc : RRx S E o0 vl bs n) (hP : ∀ r T x y, PV E [667, 668, 669, 670, 671] S kc nc rJ (fun v T => YJR (G_X10_bits (AR S o0) (QR S o0 vl) y1) T o0 vl v) [] r T x y → P r T x y) : TT xi M_X10_bits 0 [(0, .ref o0), (1, .long y1)] [] S kc nc P := by
  obtain ⟨h0, hrv, hov, hb, rfl⟩ := id hc
  have hA : Af E [667, 668, 669, 670, 671] S S := af_rf
  refine tt_aload_n (j := 0) dX10_bits_0 rfl ?_
  refine tt_lload_n (j := 1) dX10_bits_1 rfl ?_
  refine tt_iconst (v := 0) dX10_bits_2 rfl ?_
  refine tt_iconst (v := 0) dX10_bits_3 rfl ?_
  refine gt_Vv (As := [.long y1, .int 0, .int 0]) dX10_bits_4 ca_X10_341 ⟨by decide, by decide⟩ h0 hA rfl (Nat.le_of_ble_eq_true rfl) (Nat.le_of_ble_eq_true rfl) (by decide) (cr_X10_flags hG (rg_w (⟨by decide, by decide⟩ : Rg 0 0 0)) (rg_w (⟨by decide, by decide⟩ : Rg 0 0 0)) (rr_af hc hA) (fun _ _ _ _ h => h)) rfl (fun _ h => nomatch h) (fun S101 hx105 hG102 hB103 hA104 => ?_)
  obtain ⟨d106, hd107⟩ : ∃ q, G_X10_flags (AR S o0) (QR S o0 vl) (y1) (0) (0) = q := ⟨_, rfl⟩
  have hq108 := ((congrArg (fun q9 => G_X10_flags q9 (QR S o0 vl) (y1) (0) (0)) (aR_mk (uR_655 (T := S) (o := o0) rfl) (uR_656 (T := S) (o := o0) rfl) (uR_657 (T := S) (o := o0) rfl) (uR_658 (T := S) (o := o0) rfl) (uR_659 (T := S) (o := o0) rfl) (uR_661 (T := S) (o := o0) rfl))).trans (congrArg (fun q9 => G_X10_flags (AR S o0) q9 (y1) (0) (0)) (qR_mk (tR_664 (T := S) (o := o0) (a := vl) rfl) (tR_667 (T := S) (o := o0) (a := vl) rfl) (tR_668 (T := S) (o := o0) (a := vl) rfl) (tR_669 (T := S) (o := o0) (a := vl) rfl) (tR_670 (T := S) (o := o0) (a := vl) rfl) (tR_671 (T := S) (o := o0) (a := vl) rfl) rfl))).trans hd107
  have hs109 := hx105.trans hq108
  refine tt_lload_n (j := 1) dX10_bits_7 rfl ?_
  have hF : G_X10_bits (AR S o0) (QR S o0 vl) y1 = (d106, y1) := by
    subst hd107
    rfl
  exact tt_lreturn dX10_bits_8 rfl (hP _ _ _ _ ⟨hG102, hA104, Or.inl ⟨_, rfl, ⟨_, rfl⟩, yjR_mk hF (qR_mk (tR_664 hs109) (tR_667 hs109) (tR_668 hs109) (tR_669 hs109) (tR_670 hs109) (tR_671 hs109) (tR_j hs109)), rfl, rfl⟩⟩)
def G_X10_count (q : AU) (w : RS) (y1 : Int64) (y3 : Int64) : RS × Int64 :=
  if (0 : Int64) < y3 then
    if y1 < 0 then
      let d161 := G_X10_flags q w ((G_X10_cutDown q w ((y1 + y3)))) ((r4 w)) (0)
      (((r0 d161), (r1 w), (r2 d161), (r3 d161), (r4 d161), (r5 d161), (rA d161)), (G_X10_cutDown q w ((y1 + y3))))
    else
      if (G_X10_cutDown q w ((y1 + y3))) < 0 then
        let d194 := G_X10_flags q w ((G_X10_cutDown q w ((y1 + y3)))) ((r4 w)) (1)
        (((r0 d194), (r1 w), (r2 d194), (r3 d194), (r4 d194), (r5 d194), (rA d194)), (G_X10_cutDown q w ((y1 + y3))))
      else
        let d178 := G_X10_flags q w ((G_X10_cutDown q w ((y1 + y3)))) ((r4 w)) (0)
        (((r0 d178), (r1 w), (r2 d178), (r3 d178), (r4 d178), (r5 d178), (rA d178)), (G_X10_cutDown q w ((y1 + y3))))
  else
    if y1 < 0 then
      if (G_X10_cutDown q w ((y1 + y3))) < 0 then
        let d128 := G_X10_flags q w ((G_X10_cutDown q w ((y1 + y3)))) ((r4 w)) (0)
        (((r0 d128), (r1 w), (r2 d128), (r3 d128), (r4 d128), (r5 d128), (rA d128)), (G_X10_cutDown q w ((y1 + y3))))
      else
        let d144 := G_X10_flags q w ((G_X10_cutDown q w ((y1 + y3)))) ((r4 w)) (1)
        (((r0 d144), (r1 w), (r2 d144), (r3 d144), (r4 d144), (r5 d144), (rA d144)), (G_X10_cutDown q w ((y1 + y3))))
    else
      let d111 := G_X10_flags q w ((G_X10_cutDown q w ((y1 + y3)))) ((r4 w)) (0)
      (((r0 d111), (r1 w), (r2 d111), (r3 d111), (r4 d111), (r5 d111), (rA d111)), (G_X10_cutDown q w ((y1 + y3))))
theorem g_X10_count_0 {q : AU} {w : RS} {y1 : Int64} {y3 : Int64} (h0 : (0 : Int64) < y3) (h1 : y1 < 0) : G_X10_count q w y1 y3 = (((r0 (G_X10_flags q w ((G_X10_cutDown q w ((y1 + y3)))) ((r4 w)) (0))), (r1 w), (r2 (G_X10_flags q w ((G_X10_cutDown q w ((y1 + y3)))) ((r4 w)) (0))), (r3 (G_X10_flags q w ((G_X10_cutDown q w ((y1 + y3)))) ((r4 w)) (0))), (r4 (G_X10_flags q w ((G_X10_cutDown q w ((y1 + y3)))) ((r4 w)) (0))), (r5 (G_X10_flags q w ((G_X10_cutDown q w ((y1 + y3)))) ((r4 w)) (0))), (rA (G_X10_flags q w ((G_X10_cutDown q w ((y1 + y3)))) ((r4 w)) (0)))), (G_X10_cutDown q w ((y1 + y3)))) := by unfold G_X10_count; exact Eq.trans (if_pos h0) (if_pos h1)
theorem g_X10_count_1 {q : AU} {w : RS} {y1 : Int64} {y3 : Int64} (h0 : (0 : Int64) < y3) (h1 : ¬ y1 < 0) (h2 : (G_X10_cutDown q w ((y1 + y3))) < 0) : G_X10_count q w y1 y3 = (((r0 (G_X10_flags q w ((G_X10_cutDown q w ((y1 + y3)))) ((r4 w)) (1))), (r1 w), (r2 (G_X10_flags q w ((G_X10_cutDown q w ((y1 + y3)))) ((r4 w)) (1))), (r3 (G_X10_flags q w ((G_X10_cutDown q w ((y1 + y3)))) ((r4 w)) (1))), (r4 (G_X10_flags q w ((G_X10_cutDown q w ((y1 + y3)))) ((r4 w)) (1))), (r5 (G_X10_flags q w ((G_X10_cutDown q w ((y1 + y3)))) ((r4 w)) (1))), (rA (G_X10_flags q w ((G_X10_cutDown q w ((y1 + y3)))) ((r4 w)) (1)))), (G_X10_cutDown q w ((y1 + y3)))) := by unfold G_X10_count; exact Eq.trans (if_pos h0) (Eq.trans (if_neg h1) (if_pos h2))
theorem g_X10_count_2 {q : AU} {w : RS} {y1 : Int64} {y3 : Int64} (h0 : (0 : Int64) < y3) (h1 : ¬ y1 < 0) (h2 : ¬ (G_X10_cutDown q w ((y1 + y3))) < 0) : G_X10_count q w y1 y3 = (((r0 (G_X10_flags q w ((G_X10_cutDown q w ((y1 + y3)))) ((r4 w)) (0))), (r1 w), (r2 (G_X10_flags q w ((G_X10_cutDown q w ((y1 + y3)))) ((r4 w)) (0))), (r3 (G_X10_flags q w ((G_X10_cutDown q w ((y1 + y3)))) ((r4 w)) (0))), (r4 (G_X10_flags q w ((G_X10_cutDown q w ((y1 + y3)))) ((r4 w)) (0))), (r5 (G_X10_flags q w ((G_X10_cutDown q w ((y1 + y3)))) ((r4 w)) (0))), (rA (G_X10_flags q w ((G_X10_cutDown q w ((y1 + y3)))) ((r4 w)) (0)))), (G_X10_cutDown q w ((y1 + y3)))) := by unfold G_X10_count; exact Eq.trans (if_pos h0) (Eq.trans (if_neg h1) (if_neg h2))
theorem g_X10_count_3 {q : AU} {w : RS} {y1 : Int64} {y3 : Int64} (h0 : ¬ (0 : Int64) < y3) (h1 : y1 < 0) (h2 : (G_X10_cutDown q w ((y1 + y3))) < 0) : G_X10_count q w y1 y3 = (((r0 (G_X10_flags q w ((G_X10_cutDown q w ((y1 + y3)))) ((r4 w)) (0))), (r1 w), (r2 (G_X10_flags q w ((G_X10_cutDown q w ((y1 + y3)))) ((r4 w)) (0))), (r3 (G_X10_flags q w ((G_X10_cutDown q w ((y1 + y3)))) ((r4 w)) (0))), (r4 (G_X10_flags q w ((G_X10_cutDown q w ((y1 + y3)))) ((r4 w)) (0))), (r5 (G_X10_flags q w ((G_X10_cutDown q w ((y1 + y3)))) ((r4 w)) (0))), (rA (G_X10_flags q w ((G_X10_cutDown q w ((y1 + y3)))) ((r4 w)) (0)))), (G_X10_cutDown q w ((y1 + y3)))) := by unfold G_X10_count; exact Eq.trans (if_neg h0) (Eq.trans (if_pos h1) (if_pos h2))
theorem g_X10_count_4 {q : AU} {w : RS} {y1 : Int64} {y3 : Int64} (h0 : ¬ (0 : Int64) < y3) (h1 : y1 < 0) (h2 : ¬ (G_X10_cutDown q w ((y1 + y3))) < 0) : G_X10_count q w y1 y3 = (((r0 (G_X10_flags q w ((G_X10_cutDown q w ((y1 + y3)))) ((r4 w)) (1))), (r1 w), (r2 (G_X10_flags q w ((G_X10_cutDown q w ((y1 + y3)))) ((r4 w)) (1))), (r3 (G_X10_flags q w ((G_X10_cutDown q w ((y1 + y3)))) ((r4 w)) (1))), (r4 (G_X10_flags q w ((G_X10_cutDown q w ((y1 + y3)))) ((r4 w)) (1))), (r5 (G_X10_flags q w ((G_X10_cutDown q w ((y1 + y3)))) ((r4 w)) (1))), (rA (G_X10_flags q w ((G_X10_cutDown q w ((y1 + y3)))) ((r4 w)) (1)))), (G_X10_cutDown q w ((y1 + y3)))) := by unfold G_X10_count; exact Eq.trans (if_neg h0) (Eq.trans (if_pos h1) (if_neg h2))
theorem g_X10_count_5 {q : AU} {w : RS} {y1 : Int64} {y3 : Int64} (h0 : ¬ (0 : Int64) < y3) (h1 : ¬ y1 < 0) : G_X10_count q w y1 y3 = (((r0 (G_X10_flags q w ((G_X10_cutDown q w ((y1 + y3)))) ((r4 w)) (0))), (r1 w), (r2 (G_X10_flags q w ((G_X10_cutDown q w ((y1 + y3)))) ((r4 w)) (0))), (r3 (G_X10_flags q w ((G_X10_cutDown q w ((y1 + y3)))) ((r4 w)) (0))), (r4 (G_X10_flags q w ((G_X10_cutDown q w ((y1 + y3)))) ((r4 w)) (0))), (r5 (G_X10_flags q w ((G_X10_cutDown q w ((y1 + y3)))) ((r4 w)) (0))), (rA (G_X10_flags q w ((G_X10_cutDown q w ((y1 + y3)))) ((r4 w)) (0)))), (G_X10_cutDown q w ((y1 + y3)))) := by unfold G_X10_count; exact Eq.trans (if_neg h0) (if_neg h1)
set_option maxHeartbeats 40000000 in
theorem cr_X10_count {xi : SX} {S : Hp} {E : List Nat} {kc nc : Nat} {P : Po} {o0 : Nat} {y1 : Int64} {y3 : Int64} {vl : Nat} {bs : Nat → Int32} {n : Int32} (hG : GI S E) (hc : RRx S E o0 vl bs n) (hP : ∀ r T x y, PV E [667, 668, 669, 670, 671] S kc nc rJ (fun v T => YJR (G_X10_count (AR S o0) (QR S o0 vl) y1 y3) T o0 vl v) [] r T x y → P r T x y) : TT xi M_X10_count 0 [(0, .ref o0), (1, .long y1), (3, .long y3)] [] S kc nc P := by
  obtain ⟨h0, hrv, hov, hb, rfl⟩ := id hc
  have hA : Af E [667, 668, 669, 670, 671] S S := af_rf
  refine tt_aload_n (j := 0) dX10_count_0 rfl ?_
  refine gt_gI (id := 667) (v := (r1 (QR S o0 vl))) dX10_count_1 fl_10_316 rfl rfl h0 hA (tR_667 (T := S) (o := o0) (a := vl) rfl) ?_
  refine tt_istore (ks := [0, 1, 2, 3]) (L' := [(5, .int (r1 (QR S o0 vl))), (0, .ref o0), (1, .long y1), (3, .long y3)]) dX10_count_4 (by decide) rfl ?_
  refine tt_aload_n (j := 1) dX10_count_6 rfl ?_
  refine tt_lload_n (j := 2) dX10_count_7 rfl ?_
  refine tt_lload_n (j := 3) dX10_count_8 rfl ?_
  refine tt_ladd dX10_count_9 ?_
  refine gt_VJp (As := [.long (y1 + y3)]) dX10_count_10 ca_X10_333 ⟨by decide, by decide⟩ h0 hA rfl (Nat.le_of_ble_eq_true rfl) (Nat.le_of_ble_eq_true rfl) (by decide) (cr_X10_cutDown hG (rr_af hc hA) (fun _ _ _ _ h => h)) rfl (fun _ h => nomatch h) (fun _ _ q => q.1) (fun y101 hx103 => ?_)
  obtain rfl : G_X10_cutDown (AR S o0) (QR S o0 vl) ((y1 + y3)) = y101 := ((el_w hx103.2).trans ((congrArg (fun q9 => G_X10_cutDown q9 (QR S o0 vl) ((y1 + y3))) (aR_mk (uR_655 (T := S) (o := o0) rfl) (uR_656 (T := S) (o := o0) rfl) (uR_657 (T := S) (o := o0) rfl) (uR_658 (T := S) (o := o0) rfl) (uR_659 (T := S) (o := o0) rfl) (uR_661 (T := S) (o := o0) rfl))).trans (congrArg (fun q9 => G_X10_cutDown (AR S o0) q9 ((y1 + y3))) (qR_mk (tR_664 (T := S) (o := o0) (a := vl) rfl) (tR_667 (T := S) (o := o0) (a := vl) rfl) (tR_668 (T := S) (o := o0) (a := vl) rfl) (tR_669 (T := S) (o := o0) (a := vl) rfl) (tR_670 (T := S) (o := o0) (a := vl) rfl) (tR_671 (T := S) (o := o0) (a := vl) rfl) rfl)))).symm
  refine tt_lstore (ks := [0, 1, 2, 3, 4]) (L' := [(6, .long (G_X10_cutDown (AR S o0) (QR S o0 vl) ((y1 + y3)))), (5, .int (r1 (QR S o0 vl))), (0, .ref o0), (1, .long y1), (3, .long y3)]) dX10_count_13 (by decide) rfl ?_
  refine tt_aload_n (j := 2) dX10_count_15 rfl ?_
  refine tt_lload (j := 0) dX10_count_16 rfl ?_
  refine tt_aload_n (j := 2) dX10_count_18 rfl ?_
  refine gt_gI (id := 670) (v := (r4 (QR S o0 vl))) dX10_count_19 fl_10_325 rfl rfl h0 hA (tR_670 (T := S) (o := o0) (a := vl) rfl) ?_
  refine tt_lload_n (j := 4) dX10_count_22 rfl ?_
  refine tt_lconst (v := 0) dX10_count_23 rfl ?_
  refine tt_lcmp dX10_count_24 ?_
  refine tt_if_le (tgt := 49) dX10_count_25 rfl (fun q104 => ?_) (fun q104 => ?_)
  · skip
    refine tt_lload_n (j := 3) dX10_count_49 rfl ?_
    refine tt_lconst (v := 0) dX10_count_50 rfl ?_
    refine tt_lcmp dX10_count_51 ?_
    refine tt_if_ge (tgt := 66) dX10_count_52 rfl (fun q105 => ?_) (fun q105 => ?_)
    · skip
      refine tt_iconst (v := 0) dX10_count_66 rfl ?_
      refine gt_Vv (As := [.long (G_X10_cutDown (AR S o0) (QR S o0 vl) ((y1 + y3))), .int (r4 (QR S o0 vl)), .int 0]) dX10_count_67 ca_X10_341 ⟨by decide, by decide⟩ h0 hA rfl (Nat.le_of_ble_eq_true rfl) (Nat.le_of_ble_eq_true rfl) (by decide) (cr_X10_flags hG (rg_w (gi_I (k := 670) hG h0 0 1)) (rg_w (⟨by decide, by decide⟩ : Rg 0 0 0)) (rr_af hc hA) (fun _ _ _ _ h => h)) rfl (fun _ h => nomatch h) (fun S106 hx110 hG107 hB108 hA109 => ?_)
      obtain ⟨d111, hd112⟩ : ∃ q, G_X10_flags (AR S o0) (QR S o0 vl) ((G_X10_cutDown (AR S o0) (QR S o0 vl) ((y1 + y3)))) ((r4 (QR S o0 vl))) (0) = q := ⟨_, rfl⟩
      have hq113 := ((congrArg (fun q9 => G_X10_flags q9 (QR S o0 vl) ((G_X10_cutDown (AR S o0) (QR S o0 vl) ((y1 + y3)))) ((r4 (QR S o0 vl))) (0)) (aR_mk (uR_655 (T := S) (o := o0) rfl) (uR_656 (T := S) (o := o0) rfl) (uR_657 (T := S) (o := o0) rfl) (uR_658 (T := S) (o := o0) rfl) (uR_659 (T := S) (o := o0) rfl) (uR_661 (T := S) (o := o0) rfl))).trans (congrArg (fun q9 => G_X10_flags (AR S o0) q9 ((G_X10_cutDown (AR S o0) (QR S o0 vl) ((y1 + y3)))) ((r4 (QR S o0 vl))) (0)) (qR_mk (tR_664 (T := S) (o := o0) (a := vl) rfl) (tR_667 (T := S) (o := o0) (a := vl) rfl) (tR_668 (T := S) (o := o0) (a := vl) rfl) (tR_669 (T := S) (o := o0) (a := vl) rfl) (tR_670 (T := S) (o := o0) (a := vl) rfl) (tR_671 (T := S) (o := o0) (a := vl) rfl) rfl))).trans hd112
      have hs114 := hx110.trans hq113
      refine tt_aload_n (j := 2) dX10_count_70 rfl ?_
      refine tt_iload (j := 1) dX10_count_71 rfl ?_
      refine gt_pIj (id := 667) (x := (r1 (QR S o0 vl))) dX10_count_73 fl_10_316 rfl rfl h0 hA109 (rg_nar (rg_w (gi_I (k := 667) hG h0 0 1))) (rg_fit (rg_w (gi_I (k := 667) hG h0 0 1))) rfl (gp_Ir hG107 (gi_I (k := 667) hG h0 0 1)) (by decide) (fun h => absurd h (by decide)) (fun h => absurd h (by decide)) (fun S115 hG116 hA117 e118 f119 er120 ej121 => ?_)
      refine tt_lload (j := 0) dX10_count_76 rfl ?_
      have hF : G_X10_count (AR S o0) (QR S o0 vl) y1 y3 = (((r0 d111), (r1 (QR S o0 vl)), (r2 d111), (r3 d111), (r4 d111), (r5 d111), (rA d111)), (G_X10_cutDown (AR S o0) (QR S o0 vl) ((y1 + y3)))) := by
        subst hd112
        exact g_X10_count_5 (Int64.not_lt.mpr (lc_le_t q104)) (Int64.not_lt.mpr (lc_ge_t q105))
      exact tt_lreturn dX10_count_78 rfl (hP _ _ _ _ ⟨hG116, hA117, Or.inl ⟨_, rfl, ⟨_, rfl⟩, yjR_mk hF (qR_mk ((congrFun (congrFun e118 664) o0).trans ((congrFun (up2_ne (k := 664)) o0).trans (tR_664 hs114))) (by rw [e118]; exact up2_self) ((congrFun (congrFun e118 668) o0).trans ((congrFun (up2_ne (k := 668)) o0).trans (tR_668 hs114))) ((congrFun (congrFun e118 669) o0).trans ((congrFun (up2_ne (k := 669)) o0).trans (tR_669 hs114))) ((congrFun (congrFun e118 670) o0).trans ((congrFun (up2_ne (k := 670)) o0).trans (tR_670 hs114))) ((congrFun (congrFun e118 671) o0).trans ((congrFun (up2_ne (k := 671)) o0).trans (tR_671 hs114))) ((congrFun ej121 vl).trans (tR_j hs114))), rfl, rfl⟩⟩)
    · skip
      refine tt_lload (j := 0) dX10_count_55 rfl ?_
      refine tt_lconst (v := 0) dX10_count_57 rfl ?_
      refine tt_lcmp dX10_count_58 ?_
      refine tt_if_lt (tgt := 66) dX10_count_59 rfl (fun q122 => ?_) (fun q122 => ?_)
      · skip
        refine tt_iconst (v := 0) dX10_count_66 rfl ?_
        refine gt_Vv (As := [.long (G_X10_cutDown (AR S o0) (QR S o0 vl) ((y1 + y3))), .int (r4 (QR S o0 vl)), .int 0]) dX10_count_67 ca_X10_341 ⟨by decide, by decide⟩ h0 hA rfl (Nat.le_of_ble_eq_true rfl) (Nat.le_of_ble_eq_true rfl) (by decide) (cr_X10_flags hG (rg_w (gi_I (k := 670) hG h0 0 1)) (rg_w (⟨by decide, by decide⟩ : Rg 0 0 0)) (rr_af hc hA) (fun _ _ _ _ h => h)) rfl (fun _ h => nomatch h) (fun S123 hx127 hG124 hB125 hA126 => ?_)
        obtain ⟨d128, hd129⟩ : ∃ q, G_X10_flags (AR S o0) (QR S o0 vl) ((G_X10_cutDown (AR S o0) (QR S o0 vl) ((y1 + y3)))) ((r4 (QR S o0 vl))) (0) = q := ⟨_, rfl⟩
        have hq130 := ((congrArg (fun q9 => G_X10_flags q9 (QR S o0 vl) ((G_X10_cutDown (AR S o0) (QR S o0 vl) ((y1 + y3)))) ((r4 (QR S o0 vl))) (0)) (aR_mk (uR_655 (T := S) (o := o0) rfl) (uR_656 (T := S) (o := o0) rfl) (uR_657 (T := S) (o := o0) rfl) (uR_658 (T := S) (o := o0) rfl) (uR_659 (T := S) (o := o0) rfl) (uR_661 (T := S) (o := o0) rfl))).trans (congrArg (fun q9 => G_X10_flags (AR S o0) q9 ((G_X10_cutDown (AR S o0) (QR S o0 vl) ((y1 + y3)))) ((r4 (QR S o0 vl))) (0)) (qR_mk (tR_664 (T := S) (o := o0) (a := vl) rfl) (tR_667 (T := S) (o := o0) (a := vl) rfl) (tR_668 (T := S) (o := o0) (a := vl) rfl) (tR_669 (T := S) (o := o0) (a := vl) rfl) (tR_670 (T := S) (o := o0) (a := vl) rfl) (tR_671 (T := S) (o := o0) (a := vl) rfl) rfl))).trans hd129
        have hs131 := hx127.trans hq130
        refine tt_aload_n (j := 2) dX10_count_70 rfl ?_
        refine tt_iload (j := 1) dX10_count_71 rfl ?_
        refine gt_pIj (id := 667) (x := (r1 (QR S o0 vl))) dX10_count_73 fl_10_316 rfl rfl h0 hA126 (rg_nar (rg_w (gi_I (k := 667) hG h0 0 1))) (rg_fit (rg_w (gi_I (k := 667) hG h0 0 1))) rfl (gp_Ir hG124 (gi_I (k := 667) hG h0 0 1)) (by decide) (fun h => absurd h (by decide)) (fun h => absurd h (by decide)) (fun S132 hG133 hA134 e135 f136 er137 ej138 => ?_)
        refine tt_lload (j := 0) dX10_count_76 rfl ?_
        have hF : G_X10_count (AR S o0) (QR S o0 vl) y1 y3 = (((r0 d128), (r1 (QR S o0 vl)), (r2 d128), (r3 d128), (r4 d128), (r5 d128), (rA d128)), (G_X10_cutDown (AR S o0) (QR S o0 vl) ((y1 + y3)))) := by
          subst hd129
          exact g_X10_count_3 (Int64.not_lt.mpr (lc_le_t q104)) (lc_ge_f q105) (lc_lt_t q122)
        exact tt_lreturn dX10_count_78 rfl (hP _ _ _ _ ⟨hG133, hA134, Or.inl ⟨_, rfl, ⟨_, rfl⟩, yjR_mk hF (qR_mk ((congrFun (congrFun e135 664) o0).trans ((congrFun (up2_ne (k := 664)) o0).trans (tR_664 hs131))) (by rw [e135]; exact up2_self) ((congrFun (congrFun e135 668) o0).trans ((congrFun (up2_ne (k := 668)) o0).trans (tR_668 hs131))) ((congrFun (congrFun e135 669) o0).trans ((congrFun (up2_ne (k := 669)) o0).trans (tR_669 hs131))) ((congrFun (congrFun e135 670) o0).trans ((congrFun (up2_ne (k := 670)) o0).trans (tR_670 hs131))) ((congrFun (congrFun e135 671) o0).trans ((congrFun (up2_ne (k := 671)) o0).trans (tR_671 hs131))) ((congrFun ej138 vl).trans (tR_j hs131))), rfl, rfl⟩⟩)
      · skip
        refine tt_iconst (v := 1) dX10_count_62 rfl ?_
        refine tt_goto (tgt := 67) dX10_count_63 rfl ?_
        refine gt_Vv (As := [.long (G_X10_cutDown (AR S o0) (QR S o0 vl) ((y1 + y3))), .int (r4 (QR S o0 vl)), .int 1]) dX10_count_67 ca_X10_341 ⟨by decide, by decide⟩ h0 hA rfl (Nat.le_of_ble_eq_true rfl) (Nat.le_of_ble_eq_true rfl) (by decide) (cr_X10_flags hG (rg_w (gi_I (k := 670) hG h0 0 1)) (rg_w (⟨by decide, by decide⟩ : Rg 1 1 1)) (rr_af hc hA) (fun _ _ _ _ h => h)) rfl (fun _ h => nomatch h) (fun S139 hx143 hG140 hB141 hA142 => ?_)
        obtain ⟨d144, hd145⟩ : ∃ q, G_X10_flags (AR S o0) (QR S o0 vl) ((G_X10_cutDown (AR S o0) (QR S o0 vl) ((y1 + y3)))) ((r4 (QR S o0 vl))) (1) = q := ⟨_, rfl⟩
        have hq146 := ((congrArg (fun q9 => G_X10_flags q9 (QR S o0 vl) ((G_X10_cutDown (AR S o0) (QR S o0 vl) ((y1 + y3)))) ((r4 (QR S o0 vl))) (1)) (aR_mk (uR_655 (T := S) (o := o0) rfl) (uR_656 (T := S) (o := o0) rfl) (uR_657 (T := S) (o := o0) rfl) (uR_658 (T := S) (o := o0) rfl) (uR_659 (T := S) (o := o0) rfl) (uR_661 (T := S) (o := o0) rfl))).trans (congrArg (fun q9 => G_X10_flags (AR S o0) q9 ((G_X10_cutDown (AR S o0) (QR S o0 vl) ((y1 + y3)))) ((r4 (QR S o0 vl))) (1)) (qR_mk (tR_664 (T := S) (o := o0) (a := vl) rfl) (tR_667 (T := S) (o := o0) (a := vl) rfl) (tR_668 (T := S) (o := o0) (a := vl) rfl) (tR_669 (T := S) (o := o0) (a := vl) rfl) (tR_670 (T := S) (o := o0) (a := vl) rfl) (tR_671 (T := S) (o := o0) (a := vl) rfl) rfl))).trans hd145
        have hs147 := hx143.trans hq146
        refine tt_aload_n (j := 2) dX10_count_70 rfl ?_
        refine tt_iload (j := 1) dX10_count_71 rfl ?_
        refine gt_pIj (id := 667) (x := (r1 (QR S o0 vl))) dX10_count_73 fl_10_316 rfl rfl h0 hA142 (rg_nar (rg_w (gi_I (k := 667) hG h0 0 1))) (rg_fit (rg_w (gi_I (k := 667) hG h0 0 1))) rfl (gp_Ir hG140 (gi_I (k := 667) hG h0 0 1)) (by decide) (fun h => absurd h (by decide)) (fun h => absurd h (by decide)) (fun S148 hG149 hA150 e151 f152 er153 ej154 => ?_)
        refine tt_lload (j := 0) dX10_count_76 rfl ?_
        have hF : G_X10_count (AR S o0) (QR S o0 vl) y1 y3 = (((r0 d144), (r1 (QR S o0 vl)), (r2 d144), (r3 d144), (r4 d144), (r5 d144), (rA d144)), (G_X10_cutDown (AR S o0) (QR S o0 vl) ((y1 + y3)))) := by
          subst hd145
          exact g_X10_count_4 (Int64.not_lt.mpr (lc_le_t q104)) (lc_ge_f q105) (Int64.not_lt.mpr (lc_lt_f q122))
        exact tt_lreturn dX10_count_78 rfl (hP _ _ _ _ ⟨hG149, hA150, Or.inl ⟨_, rfl, ⟨_, rfl⟩, yjR_mk hF (qR_mk ((congrFun (congrFun e151 664) o0).trans ((congrFun (up2_ne (k := 664)) o0).trans (tR_664 hs147))) (by rw [e151]; exact up2_self) ((congrFun (congrFun e151 668) o0).trans ((congrFun (up2_ne (k := 668)) o0).trans (tR_668 hs147))) ((congrFun (congrFun e151 669) o0).trans ((congrFun (up2_ne (k := 669)) o0).trans (tR_669 hs147))) ((congrFun (congrFun e151 670) o0).trans ((congrFun (up2_ne (k := 670)) o0).trans (tR_670 hs147))) ((congrFun (congrFun e151 671) o0).trans ((congrFun (up2_ne (k := 671)) o0).trans (tR_671 hs147))) ((congrFun ej154 vl).trans (tR_j hs147))), rfl, rfl⟩⟩)
  · skip
    refine tt_lload_n (j := 3) dX10_count_28 rfl ?_
    refine tt_lconst (v := 0) dX10_count_29 rfl ?_
    refine tt_lcmp dX10_count_30 ?_
    refine tt_if_lt (tgt := 45) dX10_count_31 rfl (fun q155 => ?_) (fun q155 => ?_)
    · skip
      refine tt_iconst (v := 0) dX10_count_45 rfl ?_
      refine tt_goto (tgt := 67) dX10_count_46 rfl ?_
      refine gt_Vv (As := [.long (G_X10_cutDown (AR S o0) (QR S o0 vl) ((y1 + y3))), .int (r4 (QR S o0 vl)), .int 0]) dX10_count_67 ca_X10_341 ⟨by decide, by decide⟩ h0 hA rfl (Nat.le_of_ble_eq_true rfl) (Nat.le_of_ble_eq_true rfl) (by decide) (cr_X10_flags hG (rg_w (gi_I (k := 670) hG h0 0 1)) (rg_w (⟨by decide, by decide⟩ : Rg 0 0 0)) (rr_af hc hA) (fun _ _ _ _ h => h)) rfl (fun _ h => nomatch h) (fun S156 hx160 hG157 hB158 hA159 => ?_)
      obtain ⟨d161, hd162⟩ : ∃ q, G_X10_flags (AR S o0) (QR S o0 vl) ((G_X10_cutDown (AR S o0) (QR S o0 vl) ((y1 + y3)))) ((r4 (QR S o0 vl))) (0) = q := ⟨_, rfl⟩
      have hq163 := ((congrArg (fun q9 => G_X10_flags q9 (QR S o0 vl) ((G_X10_cutDown (AR S o0) (QR S o0 vl) ((y1 + y3)))) ((r4 (QR S o0 vl))) (0)) (aR_mk (uR_655 (T := S) (o := o0) rfl) (uR_656 (T := S) (o := o0) rfl) (uR_657 (T := S) (o := o0) rfl) (uR_658 (T := S) (o := o0) rfl) (uR_659 (T := S) (o := o0) rfl) (uR_661 (T := S) (o := o0) rfl))).trans (congrArg (fun q9 => G_X10_flags (AR S o0) q9 ((G_X10_cutDown (AR S o0) (QR S o0 vl) ((y1 + y3)))) ((r4 (QR S o0 vl))) (0)) (qR_mk (tR_664 (T := S) (o := o0) (a := vl) rfl) (tR_667 (T := S) (o := o0) (a := vl) rfl) (tR_668 (T := S) (o := o0) (a := vl) rfl) (tR_669 (T := S) (o := o0) (a := vl) rfl) (tR_670 (T := S) (o := o0) (a := vl) rfl) (tR_671 (T := S) (o := o0) (a := vl) rfl) rfl))).trans hd162
      have hs164 := hx160.trans hq163
      refine tt_aload_n (j := 2) dX10_count_70 rfl ?_
      refine tt_iload (j := 1) dX10_count_71 rfl ?_
      refine gt_pIj (id := 667) (x := (r1 (QR S o0 vl))) dX10_count_73 fl_10_316 rfl rfl h0 hA159 (rg_nar (rg_w (gi_I (k := 667) hG h0 0 1))) (rg_fit (rg_w (gi_I (k := 667) hG h0 0 1))) rfl (gp_Ir hG157 (gi_I (k := 667) hG h0 0 1)) (by decide) (fun h => absurd h (by decide)) (fun h => absurd h (by decide)) (fun S165 hG166 hA167 e168 f169 er170 ej171 => ?_)
      refine tt_lload (j := 0) dX10_count_76 rfl ?_
      have hF : G_X10_count (AR S o0) (QR S o0 vl) y1 y3 = (((r0 d161), (r1 (QR S o0 vl)), (r2 d161), (r3 d161), (r4 d161), (r5 d161), (rA d161)), (G_X10_cutDown (AR S o0) (QR S o0 vl) ((y1 + y3)))) := by
        subst hd162
        exact g_X10_count_0 (lc_le_f q104) (lc_lt_t q155)
      exact tt_lreturn dX10_count_78 rfl (hP _ _ _ _ ⟨hG166, hA167, Or.inl ⟨_, rfl, ⟨_, rfl⟩, yjR_mk hF (qR_mk ((congrFun (congrFun e168 664) o0).trans ((congrFun (up2_ne (k := 664)) o0).trans (tR_664 hs164))) (by rw [e168]; exact up2_self) ((congrFun (congrFun e168 668) o0).trans ((congrFun (up2_ne (k := 668)) o0).trans (tR_668 hs164))) ((congrFun (congrFun e168 669) o0).trans ((congrFun (up2_ne (k := 669)) o0).trans (tR_669 hs164))) ((congrFun (congrFun e168 670) o0).trans ((congrFun (up2_ne (k := 670)) o0).trans (tR_670 hs164))) ((congrFun (congrFun e168 671) o0).trans ((congrFun (up2_ne (k := 671)) o0).trans (tR_671 hs164))) ((congrFun ej171 vl).trans (tR_j hs164))), rfl, rfl⟩⟩)
    · skip
      refine tt_lload (j := 0) dX10_count_34 rfl ?_
      refine tt_lconst (v := 0) dX10_count_36 rfl ?_
      refine tt_lcmp dX10_count_37 ?_
      refine tt_if_ge (tgt := 45) dX10_count_38 rfl (fun q172 => ?_) (fun q172 => ?_)
      · skip
        refine tt_iconst (v := 0) dX10_count_45 rfl ?_
        refine tt_goto (tgt := 67) dX10_count_46 rfl ?_
        refine gt_Vv (As := [.long (G_X10_cutDown (AR S o0) (QR S o0 vl) ((y1 + y3))), .int (r4 (QR S o0 vl)), .int 0]) dX10_count_67 ca_X10_341 ⟨by decide, by decide⟩ h0 hA rfl (Nat.le_of_ble_eq_true rfl) (Nat.le_of_ble_eq_true rfl) (by decide) (cr_X10_flags hG (rg_w (gi_I (k := 670) hG h0 0 1)) (rg_w (⟨by decide, by decide⟩ : Rg 0 0 0)) (rr_af hc hA) (fun _ _ _ _ h => h)) rfl (fun _ h => nomatch h) (fun S173 hx177 hG174 hB175 hA176 => ?_)
        obtain ⟨d178, hd179⟩ : ∃ q, G_X10_flags (AR S o0) (QR S o0 vl) ((G_X10_cutDown (AR S o0) (QR S o0 vl) ((y1 + y3)))) ((r4 (QR S o0 vl))) (0) = q := ⟨_, rfl⟩
        have hq180 := ((congrArg (fun q9 => G_X10_flags q9 (QR S o0 vl) ((G_X10_cutDown (AR S o0) (QR S o0 vl) ((y1 + y3)))) ((r4 (QR S o0 vl))) (0)) (aR_mk (uR_655 (T := S) (o := o0) rfl) (uR_656 (T := S) (o := o0) rfl) (uR_657 (T := S) (o := o0) rfl) (uR_658 (T := S) (o := o0) rfl) (uR_659 (T := S) (o := o0) rfl) (uR_661 (T := S) (o := o0) rfl))).trans (congrArg (fun q9 => G_X10_flags (AR S o0) q9 ((G_X10_cutDown (AR S o0) (QR S o0 vl) ((y1 + y3)))) ((r4 (QR S o0 vl))) (0)) (qR_mk (tR_664 (T := S) (o := o0) (a := vl) rfl) (tR_667 (T := S) (o := o0) (a := vl) rfl) (tR_668 (T := S) (o := o0) (a := vl) rfl) (tR_669 (T := S) (o := o0) (a := vl) rfl) (tR_670 (T := S) (o := o0) (a := vl) rfl) (tR_671 (T := S) (o := o0) (a := vl) rfl) rfl))).trans hd179
        have hs181 := hx177.trans hq180
        refine tt_aload_n (j := 2) dX10_count_70 rfl ?_
        refine tt_iload (j := 1) dX10_count_71 rfl ?_
        refine gt_pIj (id := 667) (x := (r1 (QR S o0 vl))) dX10_count_73 fl_10_316 rfl rfl h0 hA176 (rg_nar (rg_w (gi_I (k := 667) hG h0 0 1))) (rg_fit (rg_w (gi_I (k := 667) hG h0 0 1))) rfl (gp_Ir hG174 (gi_I (k := 667) hG h0 0 1)) (by decide) (fun h => absurd h (by decide)) (fun h => absurd h (by decide)) (fun S182 hG183 hA184 e185 f186 er187 ej188 => ?_)
        refine tt_lload (j := 0) dX10_count_76 rfl ?_
        have hF : G_X10_count (AR S o0) (QR S o0 vl) y1 y3 = (((r0 d178), (r1 (QR S o0 vl)), (r2 d178), (r3 d178), (r4 d178), (r5 d178), (rA d178)), (G_X10_cutDown (AR S o0) (QR S o0 vl) ((y1 + y3)))) := by
          subst hd179
          exact g_X10_count_2 (lc_le_f q104) (Int64.not_lt.mpr (lc_lt_f q155)) (Int64.not_lt.mpr (lc_ge_t q172))
        exact tt_lreturn dX10_count_78 rfl (hP _ _ _ _ ⟨hG183, hA184, Or.inl ⟨_, rfl, ⟨_, rfl⟩, yjR_mk hF (qR_mk ((congrFun (congrFun e185 664) o0).trans ((congrFun (up2_ne (k := 664)) o0).trans (tR_664 hs181))) (by rw [e185]; exact up2_self) ((congrFun (congrFun e185 668) o0).trans ((congrFun (up2_ne (k := 668)) o0).trans (tR_668 hs181))) ((congrFun (congrFun e185 669) o0).trans ((congrFun (up2_ne (k := 669)) o0).trans (tR_669 hs181))) ((congrFun (congrFun e185 670) o0).trans ((congrFun (up2_ne (k := 670)) o0).trans (tR_670 hs181))) ((congrFun (congrFun e185 671) o0).trans ((congrFun (up2_ne (k := 671)) o0).trans (tR_671 hs181))) ((congrFun ej188 vl).trans (tR_j hs181))), rfl, rfl⟩⟩)
      · skip
        refine tt_iconst (v := 1) dX10_count_41 rfl ?_
        refine tt_goto (tgt := 67) dX10_count_42 rfl ?_
        refine gt_Vv (As := [.long (G_X10_cutDown (AR S o0) (QR S o0 vl) ((y1 + y3))), .int (r4 (QR S o0 vl)), .int 1]) dX10_count_67 ca_X10_341 ⟨by decide, by decide⟩ h0 hA rfl (Nat.le_of_ble_eq_true rfl) (Nat.le_of_ble_eq_true rfl) (by decide) (cr_X10_flags hG (rg_w (gi_I (k := 670) hG h0 0 1)) (rg_w (⟨by decide, by decide⟩ : Rg 1 1 1)) (rr_af hc hA) (fun _ _ _ _ h => h)) rfl (fun _ h => nomatch h) (fun S189 hx193 hG190 hB191 hA192 => ?_)
        obtain ⟨d194, hd195⟩ : ∃ q, G_X10_flags (AR S o0) (QR S o0 vl) ((G_X10_cutDown (AR S o0) (QR S o0 vl) ((y1 + y3)))) ((r4 (QR S o0 vl))) (1) = q := ⟨_, rfl⟩
        have hq196 := ((congrArg (fun q9 => G_X10_flags q9 (QR S o0 vl) ((G_X10_cutDown (AR S o0) (QR S o0 vl) ((y1 + y3)))) ((r4 (QR S o0 vl))) (1)) (aR_mk (uR_655 (T := S) (o := o0) rfl) (uR_656 (T := S) (o := o0) rfl) (uR_657 (T := S) (o := o0) rfl) (uR_658 (T := S) (o := o0) rfl) (uR_659 (T := S) (o := o0) rfl) (uR_661 (T := S) (o := o0) rfl))).trans (congrArg (fun q9 => G_X10_flags (AR S o0) q9 ((G_X10_cutDown (AR S o0) (QR S o0 vl) ((y1 + y3)))) ((r4 (QR S o0 vl))) (1)) (qR_mk (tR_664 (T := S) (o := o0) (a := vl) rfl) (tR_667 (T := S) (o := o0) (a := vl) rfl) (tR_668 (T := S) (o := o0) (a := vl) rfl) (tR_669 (T := S) (o := o0) (a := vl) rfl) (tR_670 (T := S) (o := o0) (a := vl) rfl) (tR_671 (T := S) (o := o0) (a := vl) rfl) rfl))).trans hd195
        have hs197 := hx193.trans hq196
        refine tt_aload_n (j := 2) dX10_count_70 rfl ?_
        refine tt_iload (j := 1) dX10_count_71 rfl ?_
        refine gt_pIj (id := 667) (x := (r1 (QR S o0 vl))) dX10_count_73 fl_10_316 rfl rfl h0 hA192 (rg_nar (rg_w (gi_I (k := 667) hG h0 0 1))) (rg_fit (rg_w (gi_I (k := 667) hG h0 0 1))) rfl (gp_Ir hG190 (gi_I (k := 667) hG h0 0 1)) (by decide) (fun h => absurd h (by decide)) (fun h => absurd h (by decide)) (fun S198 hG199 hA200 e201 f202 er203 ej204 => ?_)
        refine tt_lload (j := 0) dX10_count_76 rfl ?_
        have hF : G_X10_count (AR S o0) (QR S o0 vl) y1 y3 = (((r0 d194), (r1 (QR S o0 vl)), (r2 d194), (r3 d194), (r4 d194), (r5 d194), (rA d194)), (G_X10_cutDown (AR S o0) (QR S o0 vl) ((y1 + y3)))) := by
          subst hd195
          exact g_X10_count_1 (lc_le_f q104) (Int64.not_lt.mpr (lc_lt_f q155)) (lc_ge_f q172)
        exact tt_lreturn dX10_count_78 rfl (hP _ _ _ _ ⟨hG199, hA200, Or.inl ⟨_, rfl, ⟨_, rfl⟩, yjR_mk hF (qR_mk ((congrFun (congrFun e201 664) o0).trans ((congrFun (up2_ne (k := 664)) o0).trans (tR_664 hs197))) (by rw [e201]; exact up2_self) ((congrFun (congrFun e201 668) o0).trans ((congrFun (up2_ne (k := 668)) o0).trans (tR_668 hs197))) ((congrFun (congrFun e201 669) o0).trans ((congrFun (up2_ne (k := 669)) o0).trans (tR_669 hs197))) ((congrFun (congrFun e201 670) o0).trans ((congrFun (up2_ne (k := 670)) o0).trans (tR_670 hs197))) ((congrFun (congrFun e201 671) o0).trans ((congrFun (up2_ne (k := 671)) o0).trans (tR_671 hs197))) ((congrFun ej204 vl).trans (tR_j hs197))), rfl, rfl⟩⟩)
def G_X10_shifted (q : AU) (w : RS) (y1 : Int64) : RS × Int64 :=
  if (u1 q) = 64 then
    if (u0 q) = 14 then
      (((r0 w), 1, (r2 w), (r3 w), (r4 w), (r5 w), (rA w)), (y1 <<< (((u4 q) : Int32).toInt64 &&& 63)))
    else
      if (u0 q) = 15 then
        (((r0 w), 1, (r2 w), (r3 w), (r4 w), (r5 w), (rA w)), (((y1 : Int64).toUInt64 >>> (((u4 q) : Int32).toInt64.toUInt64 &&& Int64.toUInt64 63)).toInt64))
      else
        (((r0 w), 1, (r2 w), (r3 w), (r4 w), (r5 w), (rA w)), (y1 >>> (((u4 q) : Int32).toInt64 &&& 63)))
  else
    if (u0 q) = 14 then
      (((r0 w), 1, (r2 w), (r3 w), (r4 w), (r5 w), (rA w)), (y1 <<< (((u4 q) : Int32).toInt64 &&& 63)))
    else
      if (u0 q) = 15 then
        (((r0 w), 1, (r2 w), (r3 w), (r4 w), (r5 w), (rA w)), ((((y1 &&& 4294967295) : Int64).toUInt64 >>> (((u4 q) : Int32).toInt64.toUInt64 &&& Int64.toUInt64 63)).toInt64))
      else
        (((r0 w), 1, (r2 w), (r3 w), (r4 w), (r5 w), (rA w)), (y1 >>> (((u4 q) : Int32).toInt64 &&& 63)))
theorem g_X10_shifted_0 {q : AU} {w : RS} {y1 : Int64} (h0 : (u1 q) = 64) (h1 : (u0 q) = 14) : G_X10_shifted q w y1 = (((r0 w), 1, (r2 w), (r3 w), (r4 w), (r5 w), (rA w)), (y1 <<< (((u4 q) : Int32).toInt64 &&& 63))) := by unfold G_X10_shifted; exact Eq.trans (if_pos h0) (if_pos h1)
theorem g_X10_shifted_1 {q : AU} {w : RS} {y1 : Int64} (h0 : (u1 q) = 64) (h1 : ¬ (u0 q) = 14) (h2 : (u0 q) = 15) : G_X10_shifted q w y1 = (((r0 w), 1, (r2 w), (r3 w), (r4 w), (r5 w), (rA w)), (((y1 : Int64).toUInt64 >>> (((u4 q) : Int32).toInt64.toUInt64 &&& Int64.toUInt64 63)).toInt64)) := by unfold G_X10_shifted; exact Eq.trans (if_pos h0) (Eq.trans (if_neg h1) (if_pos h2))
theorem g_X10_shifted_2 {q : AU} {w : RS} {y1 : Int64} (h0 : (u1 q) = 64) (h1 : ¬ (u0 q) = 14) (h2 : ¬ (u0 q) = 15) : G_X10_shifted q w y1 = (((r0 w), 1, (r2 w), (r3 w), (r4 w), (r5 w), (rA w)), (y1 >>> (((u4 q) : Int32).toInt64 &&& 63))) := by unfold G_X10_shifted; exact Eq.trans (if_pos h0) (Eq.trans (if_neg h1) (if_neg h2))
theorem g_X10_shifted_3 {q : AU} {w : RS} {y1 : Int64} (h0 : ¬ (u1 q) = 64) (h1 : (u0 q) = 14) : G_X10_shifted q w y1 = (((r0 w), 1, (r2 w), (r3 w), (r4 w), (r5 w), (rA w)), (y1 <<< (((u4 q) : Int32).toInt64 &&& 63))) := by unfold G_X10_shifted; exact Eq.trans (if_neg h0) (if_pos h1)
theorem g_X10_shifted_4 {q : AU} {w : RS} {y1 : Int64} (h0 : ¬ (u1 q) = 64) (h1 : ¬ (u0 q) = 14) (h2 : (u0 q) = 15) : G_X10_shifted q w y1 = (((r0 w), 1, (r2 w), (r3 w), (r4 w), (r5 w), (rA w)), ((((y1 &&& 4294967295) : Int64).toUInt64 >>> (((u4 q) : Int32).toInt64.toUInt64 &&& Int64.toUInt64 63)).toInt64)) := by unfold G_X10_shifted; exact Eq.trans (if_neg h0) (Eq.trans (if_neg h1) (if_pos h2))
theorem g_X10_shifted_5 {q : AU} {w : RS} {y1 : Int64} (h0 : ¬ (u1 q) = 64) (h1 : ¬ (u0 q) = 14) (h2 : ¬ (u0 q) = 15) : G_X10_shifted q w y1 = (((r0 w), 1, (r2 w), (r3 w), (r4 w), (r5 w), (rA w)), (y1 >>> (((u4 q) : Int32).toInt64 &&& 63))) := by unfold G_X10_shifted; exact Eq.trans (if_neg h0) (Eq.trans (if_neg h1) (if_neg h2))
set_option maxHeartbeats 40000000 in
theorem cr_X10_shifted {xi : SX} {S : Hp} {E : List Nat} {kc nc : Nat} {P : Po} {o0 : Nat} {y1 : Int64} {vl : Nat} {bs : Nat → Int32} {n : Int32} (hG : GI S E) (hc : RRx S E o0 vl bs n) (hP : ∀ r T x y, PV E [667] S kc nc rJ (fun v T => YJR (G_X10_shifted (AR S o0) (QR S o0 vl) y1) T o0 vl v) [] r T x y → P r T x y) : TT xi M_X10_shifted 0 [(0, .ref o0), (1, .long y1)] [] S kc nc P := by
  obtain ⟨h0, hrv, hov, hb, rfl⟩ := id hc
  have hA : Af E [667] S S := af_rf
  refine tt_aload_n (j := 0) dX10_shifted_0 rfl ?_
  refine tt_iconst (v := 1) dX10_shifted_1 rfl ?_
  refine gt_pIj (id := 667) (x := 1) dX10_shifted_2 fl_10_316 rfl rfl h0 hA rfl rfl rfl (gp_Ir hG (⟨by decide, by decide⟩ : Rg 1 1 1)) (by decide) (fun h => absurd h (by decide)) (fun h => absurd h (by decide)) (fun S101 hG102 hA103 e104 f105 er106 ej107 => ?_)
  refine tt_aload_n (j := 0) dX10_shifted_5 rfl ?_
  refine gt_gI (id := 656) (v := (u1 (AR S o0))) dX10_shifted_6 fl_10_127 rfl rfl h0 hA103 ((congrFun (congrFun e104 656) o0).trans ((congrFun (up2_ne (k := 656)) o0).trans (uR_656 (T := S) (o := o0) rfl))) ?_
  refine tt_bipush (v := 64) dX10_shifted_9 rfl ?_
  refine tt_icmp_ne (tgt := 18) dX10_shifted_11 rfl (fun q108 => ?_) (fun q108 => ?_)
  · skip
    refine tt_lload_n (j := 1) dX10_shifted_18 rfl ?_
    refine tt_ldc2 (v := 4294967295) dX10_shifted_19 kl_10_206 ?_
    refine tt_land dX10_shifted_22 ?_
    refine tt_lstore_n (ks := [0, 1, 2]) (L' := [(3, .long (y1 &&& 4294967295)), (0, .ref o0), (1, .long y1)]) dX10_shifted_23 (by decide) rfl ?_
    refine tt_aload_n (j := 1) dX10_shifted_24 rfl ?_
    refine gt_gI (id := 655) (v := (u0 (AR S o0))) dX10_shifted_25 fl_10_107 rfl rfl h0 hA103 ((congrFun (congrFun e104 655) o0).trans ((congrFun (up2_ne (k := 655)) o0).trans (uR_655 (T := S) (o := o0) rfl))) ?_
    refine tt_bipush (v := 14) dX10_shifted_28 rfl ?_
    refine tt_icmp_ne (tgt := 42) dX10_shifted_30 rfl (fun q109 => ?_) (fun q109 => ?_)
    · skip
      refine tt_aload_n (j := 1) dX10_shifted_42 rfl ?_
      refine gt_gI (id := 655) (v := (u0 (AR S o0))) dX10_shifted_43 fl_10_107 rfl rfl h0 hA103 ((congrFun (congrFun e104 655) o0).trans ((congrFun (up2_ne (k := 655)) o0).trans (uR_655 (T := S) (o := o0) rfl))) ?_
      refine tt_bipush (v := 15) dX10_shifted_46 rfl ?_
      refine tt_icmp_ne (tgt := 60) dX10_shifted_48 rfl (fun q110 => ?_) (fun q110 => ?_)
      · skip
        refine tt_lload_n (j := 2) dX10_shifted_60 rfl ?_
        refine tt_aload_n (j := 1) dX10_shifted_61 rfl ?_
        refine gt_gI (id := 659) (v := (u4 (AR S o0))) dX10_shifted_62 fl_10_120 rfl rfl h0 hA103 ((congrFun (congrFun e104 659) o0).trans ((congrFun (up2_ne (k := 659)) o0).trans (uR_659 (T := S) (o := o0) rfl))) ?_
        refine tt_lshr dX10_shifted_65 ?_
        have hF : G_X10_shifted (AR S o0) (QR S o0 vl) y1 = (((r0 (QR S o0 vl)), 1, (r2 (QR S o0 vl)), (r3 (QR S o0 vl)), (r4 (QR S o0 vl)), (r5 (QR S o0 vl)), (rA (QR S o0 vl))), (y1 >>> (((u4 (AR S o0)) : Int32).toInt64 &&& 63))) := by
          exact g_X10_shifted_5 q108 q109 q110
        exact tt_lreturn dX10_shifted_66 rfl (hP _ _ _ _ ⟨hG102, hA103, Or.inl ⟨_, rfl, ⟨_, rfl⟩, yjR_mk hF (qR_mk ((congrFun (congrFun e104 664) o0).trans ((congrFun (up2_ne (k := 664)) o0).trans (tR_664 (T := S) (o := o0) (a := vl) rfl))) (by rw [e104]; exact up2_self) ((congrFun (congrFun e104 668) o0).trans ((congrFun (up2_ne (k := 668)) o0).trans (tR_668 (T := S) (o := o0) (a := vl) rfl))) ((congrFun (congrFun e104 669) o0).trans ((congrFun (up2_ne (k := 669)) o0).trans (tR_669 (T := S) (o := o0) (a := vl) rfl))) ((congrFun (congrFun e104 670) o0).trans ((congrFun (up2_ne (k := 670)) o0).trans (tR_670 (T := S) (o := o0) (a := vl) rfl))) ((congrFun (congrFun e104 671) o0).trans ((congrFun (up2_ne (k := 671)) o0).trans (tR_671 (T := S) (o := o0) (a := vl) rfl))) ((congrFun ej107 vl).trans rfl)), rfl, rfl⟩⟩)
      · skip
        have h111 : Rg 15 15 (u0 (AR S o0)) := rg_eq_l (rg_all (u0 (AR S o0))) (⟨by decide, by decide⟩ : Rg 15 15 15) q110
        refine tt_lload_n (j := 0) dX10_shifted_51 rfl ?_
        refine tt_aload_n (j := 1) dX10_shifted_52 rfl ?_
        refine gt_gI (id := 659) (v := (u4 (AR S o0))) dX10_shifted_53 fl_10_120 rfl rfl h0 hA103 ((congrFun (congrFun e104 659) o0).trans ((congrFun (up2_ne (k := 659)) o0).trans (uR_659 (T := S) (o := o0) rfl))) ?_
        refine tt_lushr dX10_shifted_56 ?_
        refine tt_goto (tgt := 66) dX10_shifted_57 rfl ?_
        have hF : G_X10_shifted (AR S o0) (QR S o0 vl) y1 = (((r0 (QR S o0 vl)), 1, (r2 (QR S o0 vl)), (r3 (QR S o0 vl)), (r4 (QR S o0 vl)), (r5 (QR S o0 vl)), (rA (QR S o0 vl))), ((((y1 &&& 4294967295) : Int64).toUInt64 >>> (((u4 (AR S o0)) : Int32).toInt64.toUInt64 &&& Int64.toUInt64 63)).toInt64)) := by
          exact g_X10_shifted_4 q108 q109 q110
        exact tt_lreturn dX10_shifted_66 rfl (hP _ _ _ _ ⟨hG102, hA103, Or.inl ⟨_, rfl, ⟨_, rfl⟩, yjR_mk hF (qR_mk ((congrFun (congrFun e104 664) o0).trans ((congrFun (up2_ne (k := 664)) o0).trans (tR_664 (T := S) (o := o0) (a := vl) rfl))) (by rw [e104]; exact up2_self) ((congrFun (congrFun e104 668) o0).trans ((congrFun (up2_ne (k := 668)) o0).trans (tR_668 (T := S) (o := o0) (a := vl) rfl))) ((congrFun (congrFun e104 669) o0).trans ((congrFun (up2_ne (k := 669)) o0).trans (tR_669 (T := S) (o := o0) (a := vl) rfl))) ((congrFun (congrFun e104 670) o0).trans ((congrFun (up2_ne (k := 670)) o0).trans (tR_670 (T := S) (o := o0) (a := vl) rfl))) ((congrFun (congrFun e104 671) o0).trans ((congrFun (up2_ne (k := 671)) o0).trans (tR_671 (T := S) (o := o0) (a := vl) rfl))) ((congrFun ej107 vl).trans rfl)), rfl, rfl⟩⟩)
    · skip
      have h112 : Rg 14 14 (u0 (AR S o0)) := rg_eq_l (rg_all (u0 (AR S o0))) (⟨by decide, by decide⟩ : Rg 14 14 14) q109
      refine tt_lload_n (j := 2) dX10_shifted_33 rfl ?_
      refine tt_aload_n (j := 1) dX10_shifted_34 rfl ?_
      refine gt_gI (id := 659) (v := (u4 (AR S o0))) dX10_shifted_35 fl_10_120 rfl rfl h0 hA103 ((congrFun (congrFun e104 659) o0).trans ((congrFun (up2_ne (k := 659)) o0).trans (uR_659 (T := S) (o := o0) rfl))) ?_
      refine tt_lshl dX10_shifted_38 ?_
      refine tt_goto (tgt := 66) dX10_shifted_39 rfl ?_
      have hF : G_X10_shifted (AR S o0) (QR S o0 vl) y1 = (((r0 (QR S o0 vl)), 1, (r2 (QR S o0 vl)), (r3 (QR S o0 vl)), (r4 (QR S o0 vl)), (r5 (QR S o0 vl)), (rA (QR S o0 vl))), (y1 <<< (((u4 (AR S o0)) : Int32).toInt64 &&& 63))) := by
        exact g_X10_shifted_3 q108 q109
      exact tt_lreturn dX10_shifted_66 rfl (hP _ _ _ _ ⟨hG102, hA103, Or.inl ⟨_, rfl, ⟨_, rfl⟩, yjR_mk hF (qR_mk ((congrFun (congrFun e104 664) o0).trans ((congrFun (up2_ne (k := 664)) o0).trans (tR_664 (T := S) (o := o0) (a := vl) rfl))) (by rw [e104]; exact up2_self) ((congrFun (congrFun e104 668) o0).trans ((congrFun (up2_ne (k := 668)) o0).trans (tR_668 (T := S) (o := o0) (a := vl) rfl))) ((congrFun (congrFun e104 669) o0).trans ((congrFun (up2_ne (k := 669)) o0).trans (tR_669 (T := S) (o := o0) (a := vl) rfl))) ((congrFun (congrFun e104 670) o0).trans ((congrFun (up2_ne (k := 670)) o0).trans (tR_670 (T := S) (o := o0) (a := vl) rfl))) ((congrFun (congrFun e104 671) o0).trans ((congrFun (up2_ne (k := 671)) o0).trans (tR_671 (T := S) (o := o0) (a := vl) rfl))) ((congrFun ej107 vl).trans rfl)), rfl, rfl⟩⟩)
  · skip
    have h113 : Rg 64 64 (u1 (AR S o0)) := rg_eq_l (rg_all (u1 (AR S o0))) (⟨by decide, by decide⟩ : Rg 64 64 64) q108
    refine tt_lload_n (j := 1) dX10_shifted_14 rfl ?_
    refine tt_goto (tgt := 23) dX10_shifted_15 rfl ?_
    refine tt_lstore_n (ks := [0, 1, 2]) (L' := [(3, .long y1), (0, .ref o0), (1, .long y1)]) dX10_shifted_23 (by decide) rfl ?_
    refine tt_aload_n (j := 1) dX10_shifted_24 rfl ?_
    refine gt_gI (id := 655) (v := (u0 (AR S o0))) dX10_shifted_25 fl_10_107 rfl rfl h0 hA103 ((congrFun (congrFun e104 655) o0).trans ((congrFun (up2_ne (k := 655)) o0).trans (uR_655 (T := S) (o := o0) rfl))) ?_
    refine tt_bipush (v := 14) dX10_shifted_28 rfl ?_
    refine tt_icmp_ne (tgt := 42) dX10_shifted_30 rfl (fun q114 => ?_) (fun q114 => ?_)
    · skip
      refine tt_aload_n (j := 1) dX10_shifted_42 rfl ?_
      refine gt_gI (id := 655) (v := (u0 (AR S o0))) dX10_shifted_43 fl_10_107 rfl rfl h0 hA103 ((congrFun (congrFun e104 655) o0).trans ((congrFun (up2_ne (k := 655)) o0).trans (uR_655 (T := S) (o := o0) rfl))) ?_
      refine tt_bipush (v := 15) dX10_shifted_46 rfl ?_
      refine tt_icmp_ne (tgt := 60) dX10_shifted_48 rfl (fun q115 => ?_) (fun q115 => ?_)
      · skip
        refine tt_lload_n (j := 2) dX10_shifted_60 rfl ?_
        refine tt_aload_n (j := 1) dX10_shifted_61 rfl ?_
        refine gt_gI (id := 659) (v := (u4 (AR S o0))) dX10_shifted_62 fl_10_120 rfl rfl h0 hA103 ((congrFun (congrFun e104 659) o0).trans ((congrFun (up2_ne (k := 659)) o0).trans (uR_659 (T := S) (o := o0) rfl))) ?_
        refine tt_lshr dX10_shifted_65 ?_
        have hF : G_X10_shifted (AR S o0) (QR S o0 vl) y1 = (((r0 (QR S o0 vl)), 1, (r2 (QR S o0 vl)), (r3 (QR S o0 vl)), (r4 (QR S o0 vl)), (r5 (QR S o0 vl)), (rA (QR S o0 vl))), (y1 >>> (((u4 (AR S o0)) : Int32).toInt64 &&& 63))) := by
          exact g_X10_shifted_2 q108 q114 q115
        exact tt_lreturn dX10_shifted_66 rfl (hP _ _ _ _ ⟨hG102, hA103, Or.inl ⟨_, rfl, ⟨_, rfl⟩, yjR_mk hF (qR_mk ((congrFun (congrFun e104 664) o0).trans ((congrFun (up2_ne (k := 664)) o0).trans (tR_664 (T := S) (o := o0) (a := vl) rfl))) (by rw [e104]; exact up2_self) ((congrFun (congrFun e104 668) o0).trans ((congrFun (up2_ne (k := 668)) o0).trans (tR_668 (T := S) (o := o0) (a := vl) rfl))) ((congrFun (congrFun e104 669) o0).trans ((congrFun (up2_ne (k := 669)) o0).trans (tR_669 (T := S) (o := o0) (a := vl) rfl))) ((congrFun (congrFun e104 670) o0).trans ((congrFun (up2_ne (k := 670)) o0).trans (tR_670 (T := S) (o := o0) (a := vl) rfl))) ((congrFun (congrFun e104 671) o0).trans ((congrFun (up2_ne (k := 671)) o0).trans (tR_671 (T := S) (o := o0) (a := vl) rfl))) ((congrFun ej107 vl).trans rfl)), rfl, rfl⟩⟩)
      · skip
        have h116 : Rg 15 15 (u0 (AR S o0)) := rg_eq_l (rg_all (u0 (AR S o0))) (⟨by decide, by decide⟩ : Rg 15 15 15) q115
        refine tt_lload_n (j := 0) dX10_shifted_51 rfl ?_
        refine tt_aload_n (j := 1) dX10_shifted_52 rfl ?_
        refine gt_gI (id := 659) (v := (u4 (AR S o0))) dX10_shifted_53 fl_10_120 rfl rfl h0 hA103 ((congrFun (congrFun e104 659) o0).trans ((congrFun (up2_ne (k := 659)) o0).trans (uR_659 (T := S) (o := o0) rfl))) ?_
        refine tt_lushr dX10_shifted_56 ?_
        refine tt_goto (tgt := 66) dX10_shifted_57 rfl ?_
        have hF : G_X10_shifted (AR S o0) (QR S o0 vl) y1 = (((r0 (QR S o0 vl)), 1, (r2 (QR S o0 vl)), (r3 (QR S o0 vl)), (r4 (QR S o0 vl)), (r5 (QR S o0 vl)), (rA (QR S o0 vl))), (((y1 : Int64).toUInt64 >>> (((u4 (AR S o0)) : Int32).toInt64.toUInt64 &&& Int64.toUInt64 63)).toInt64)) := by
          exact g_X10_shifted_1 q108 q114 q115
        exact tt_lreturn dX10_shifted_66 rfl (hP _ _ _ _ ⟨hG102, hA103, Or.inl ⟨_, rfl, ⟨_, rfl⟩, yjR_mk hF (qR_mk ((congrFun (congrFun e104 664) o0).trans ((congrFun (up2_ne (k := 664)) o0).trans (tR_664 (T := S) (o := o0) (a := vl) rfl))) (by rw [e104]; exact up2_self) ((congrFun (congrFun e104 668) o0).trans ((congrFun (up2_ne (k := 668)) o0).trans (tR_668 (T := S) (o := o0) (a := vl) rfl))) ((congrFun (congrFun e104 669) o0).trans ((congrFun (up2_ne (k := 669)) o0).trans (tR_669 (T := S) (o := o0) (a := vl) rfl))) ((congrFun (congrFun e104 670) o0).trans ((congrFun (up2_ne (k := 670)) o0).trans (tR_670 (T := S) (o := o0) (a := vl) rfl))) ((congrFun (congrFun e104 671) o0).trans ((congrFun (up2_ne (k := 671)) o0).trans (tR_671 (T := S) (o := o0) (a := vl) rfl))) ((congrFun ej107 vl).trans rfl)), rfl, rfl⟩⟩)
    · skip
      have h117 : Rg 14 14 (u0 (AR S o0)) := rg_eq_l (rg_all (u0 (AR S o0))) (⟨by decide, by decide⟩ : Rg 14 14 14) q114
      refine tt_lload_n (j := 2) dX10_shifted_33 rfl ?_
      refine tt_aload_n (j := 1) dX10_shifted_34 rfl ?_
      refine gt_gI (id := 659) (v := (u4 (AR S o0))) dX10_shifted_35 fl_10_120 rfl rfl h0 hA103 ((congrFun (congrFun e104 659) o0).trans ((congrFun (up2_ne (k := 659)) o0).trans (uR_659 (T := S) (o := o0) rfl))) ?_
      refine tt_lshl dX10_shifted_38 ?_
      refine tt_goto (tgt := 66) dX10_shifted_39 rfl ?_
      have hF : G_X10_shifted (AR S o0) (QR S o0 vl) y1 = (((r0 (QR S o0 vl)), 1, (r2 (QR S o0 vl)), (r3 (QR S o0 vl)), (r4 (QR S o0 vl)), (r5 (QR S o0 vl)), (rA (QR S o0 vl))), (y1 <<< (((u4 (AR S o0)) : Int32).toInt64 &&& 63))) := by
        exact g_X10_shifted_0 q108 q114
      exact tt_lreturn dX10_shifted_66 rfl (hP _ _ _ _ ⟨hG102, hA103, Or.inl ⟨_, rfl, ⟨_, rfl⟩, yjR_mk hF (qR_mk ((congrFun (congrFun e104 664) o0).trans ((congrFun (up2_ne (k := 664)) o0).trans (tR_664 (T := S) (o := o0) (a := vl) rfl))) (by rw [e104]; exact up2_self) ((congrFun (congrFun e104 668) o0).trans ((congrFun (up2_ne (k := 668)) o0).trans (tR_668 (T := S) (o := o0) (a := vl) rfl))) ((congrFun (congrFun e104 669) o0).trans ((congrFun (up2_ne (k := 669)) o0).trans (tR_669 (T := S) (o := o0) (a := vl) rfl))) ((congrFun (congrFun e104 670) o0).trans ((congrFun (up2_ne (k := 670)) o0).trans (tR_670 (T := S) (o := o0) (a := vl) rfl))) ((congrFun (congrFun e104 671) o0).trans ((congrFun (up2_ne (k := 671)) o0).trans (tR_671 (T := S) (o := o0) (a := vl) rfl))) ((congrFun ej107 vl).trans rfl)), rfl, rfl⟩⟩)
def G_X10_run_p277 (q : AU) (w : RS) (y5 : Int64) : RS :=
  if (u0 q) = 7 then
    w
  else
    if (u0 q) = 8 then
      w
    else
      if (u1 q) = 64 then
        ((r0 w), (r1 w), (r2 w), (r3 w), (r4 w), (r5 w), (vp_updL (rA w) ((u2 q) : Int32).toNatClampNeg y5))
      else
        ((r0 w), (r1 w), (r2 w), (r3 w), (r4 w), (r5 w), (vp_updL (rA w) ((u2 q) : Int32).toNatClampNeg (y5 &&& 4294967295)))
theorem g_X10_run_p277_0 {q : AU} {w : RS} {y5 : Int64} (h0 : (u0 q) = 7) : G_X10_run_p277 q w y5 = w := by unfold G_X10_run_p277; exact if_pos h0
theorem g_X10_run_p277_1 {q : AU} {w : RS} {y5 : Int64} (h0 : ¬ (u0 q) = 7) (h1 : (u0 q) = 8) : G_X10_run_p277 q w y5 = w := by unfold G_X10_run_p277; exact Eq.trans (if_neg h0) (if_pos h1)
theorem g_X10_run_p277_2 {q : AU} {w : RS} {y5 : Int64} (h0 : ¬ (u0 q) = 7) (h1 : ¬ (u0 q) = 8) (h2 : (u1 q) = 64) : G_X10_run_p277 q w y5 = ((r0 w), (r1 w), (r2 w), (r3 w), (r4 w), (r5 w), (vp_updL (rA w) ((u2 q) : Int32).toNatClampNeg y5)) := by unfold G_X10_run_p277; exact Eq.trans (if_neg h0) (Eq.trans (if_neg h1) (if_pos h2))
theorem g_X10_run_p277_3 {q : AU} {w : RS} {y5 : Int64} (h0 : ¬ (u0 q) = 7) (h1 : ¬ (u0 q) = 8) (h2 : ¬ (u1 q) = 64) : G_X10_run_p277 q w y5 = ((r0 w), (r1 w), (r2 w), (r3 w), (r4 w), (r5 w), (vp_updL (rA w) ((u2 q) : Int32).toNatClampNeg (y5 &&& 4294967295))) := by unfold G_X10_run_p277; exact Eq.trans (if_neg h0) (Eq.trans (if_neg h1) (if_neg h2))
set_option maxHeartbeats 40000000 in
theorem cr_X10_run_p277 {xi : SX} {S : Hp} {E : List Nat} {kc nc : Nat} {P : Po} {o0 : Nat} {y5 : Int64} {vl : Nat} {bs : Nat → Int32} {n : Int32} (hG : GI S E) (hc : RRx S E o0 vl bs n) (hg : Rg 0 23 (u2 (AR S o0))) (ho : Rg (-1) 23 (u3 (AR S o0))) (hP : ∀ r T x y, PV E [9990] S kc nc rV (fun v T => QR T o0 vl = G_X10_run_p277 (AR S o0) (QR S o0 vl) y5) [] r T x y → P r T x y) : TT xi M_X10_run 277 [(0, .ref o0), (5, .long y5)] [] S kc nc P := by
  obtain ⟨h0, hrv, hov, hb, rfl⟩ := id hc
  have hA : Af E [9990] S S := af_rf
  refine tt_aload_n (j := 0) dX10_run_277 rfl ?_
  refine gt_gI (id := 655) (v := (u0 (AR S o0))) dX10_run_278 fl_10_107 rfl rfl h0 hA (uR_655 (T := S) (o := o0) rfl) ?_
  refine tt_bipush (v := 7) dX10_run_281 rfl ?_
  refine tt_icmp_eq (tgt := 324) dX10_run_283 rfl (fun q101 => ?_) (fun q101 => ?_)
  · skip
    have h102 : Rg 7 7 (u0 (AR S o0)) := rg_eq_l (rg_all (u0 (AR S o0))) (⟨by decide, by decide⟩ : Rg 7 7 7) q101
    have hF : G_X10_run_p277 (AR S o0) (QR S o0 vl) y5 = (QR S o0 vl) := by
      exact g_X10_run_p277_0 q101
    exact tt_vreturn dX10_run_324 rfl (hP _ _ _ _ ⟨hG, hA, Or.inl ⟨_, rfl, rfl, Eq.trans (qR_mk (tR_664 (T := S) (o := o0) (a := vl) rfl) (tR_667 (T := S) (o := o0) (a := vl) rfl) (tR_668 (T := S) (o := o0) (a := vl) rfl) (tR_669 (T := S) (o := o0) (a := vl) rfl) (tR_670 (T := S) (o := o0) (a := vl) rfl) (tR_671 (T := S) (o := o0) (a := vl) rfl) rfl) hF.symm, rfl, rfl⟩⟩)
  · skip
    refine tt_aload_n (j := 0) dX10_run_286 rfl ?_
    refine gt_gI (id := 655) (v := (u0 (AR S o0))) dX10_run_287 fl_10_107 rfl rfl h0 hA (uR_655 (T := S) (o := o0) rfl) ?_
    refine tt_bipush (v := 8) dX10_run_290 rfl ?_
    refine tt_icmp_eq (tgt := 324) dX10_run_292 rfl (fun q103 => ?_) (fun q103 => ?_)
    · skip
      have h104 : Rg 8 8 (u0 (AR S o0)) := rg_eq_l (rg_all (u0 (AR S o0))) (⟨by decide, by decide⟩ : Rg 8 8 8) q103
      have hF : G_X10_run_p277 (AR S o0) (QR S o0 vl) y5 = (QR S o0 vl) := by
        exact g_X10_run_p277_1 q101 q103
      exact tt_vreturn dX10_run_324 rfl (hP _ _ _ _ ⟨hG, hA, Or.inl ⟨_, rfl, rfl, Eq.trans (qR_mk (tR_664 (T := S) (o := o0) (a := vl) rfl) (tR_667 (T := S) (o := o0) (a := vl) rfl) (tR_668 (T := S) (o := o0) (a := vl) rfl) (tR_669 (T := S) (o := o0) (a := vl) rfl) (tR_670 (T := S) (o := o0) (a := vl) rfl) (tR_671 (T := S) (o := o0) (a := vl) rfl) rfl) hF.symm, rfl, rfl⟩⟩)
    · skip
      refine tt_aload_n (j := 0) dX10_run_295 rfl ?_
      refine gt_gR (id := 666) dX10_run_296 fl_10_52 rfl rfl h0 hA hrv ?_
      refine tt_aload_n (j := 0) dX10_run_299 rfl ?_
      refine gt_gI (id := 657) (v := (u2 (AR S o0))) dX10_run_300 fl_10_110 rfl rfl h0 hA (uR_657 (T := S) (o := o0) rfl) ?_
      refine tt_aload_n (j := 0) dX10_run_303 rfl ?_
      refine gt_gI (id := 656) (v := (u1 (AR S o0))) dX10_run_304 fl_10_127 rfl rfl h0 hA (uR_656 (T := S) (o := o0) rfl) ?_
      refine tt_bipush (v := 64) dX10_run_307 rfl ?_
      refine tt_icmp_ne (tgt := 317) dX10_run_309 rfl (fun q105 => ?_) (fun q105 => ?_)
      · skip
        refine tt_lload (j := 1) dX10_run_317 rfl ?_
        refine tt_ldc2 (v := 4294967295) dX10_run_319 kl_10_206 ?_
        refine tt_land dX10_run_322 ?_
        refine gt_lSx dX10_run_323 hov hA (rg_in hg) hG (Or.inl (by decide)) (Or.inr (ow_mk 9990 (k := 666) h0 hrv)) (fun S106 hG107 hA108 e109 f110 er111 ej112 => ?_)
        have hF : G_X10_run_p277 (AR S o0) (QR S o0 vl) y5 = ((r0 (QR S o0 vl)), (r1 (QR S o0 vl)), (r2 (QR S o0 vl)), (r3 (QR S o0 vl)), (r4 (QR S o0 vl)), (r5 (QR S o0 vl)), (vp_updL (rA (QR S o0 vl)) ((u2 (AR S o0)) : Int32).toNatClampNeg (y5 &&& 4294967295))) := by
          exact g_X10_run_p277_3 q101 q103 q105
        exact tt_vreturn dX10_run_324 rfl (hP _ _ _ _ ⟨hG107, hA108, Or.inl ⟨_, rfl, rfl, Eq.trans (qR_mk ((congrFun (congrFun e109 664) o0).trans (tR_664 (T := S) (o := o0) (a := vl) rfl)) ((congrFun (congrFun e109 667) o0).trans (tR_667 (T := S) (o := o0) (a := vl) rfl)) ((congrFun (congrFun e109 668) o0).trans (tR_668 (T := S) (o := o0) (a := vl) rfl)) ((congrFun (congrFun e109 669) o0).trans (tR_669 (T := S) (o := o0) (a := vl) rfl)) ((congrFun (congrFun e109 670) o0).trans (tR_670 (T := S) (o := o0) (a := vl) rfl)) ((congrFun (congrFun e109 671) o0).trans (tR_671 (T := S) (o := o0) (a := vl) rfl)) (by rw [ej112, va_up_self, (show hp_j S vl = (rA (QR S o0 vl)) from rfl)])) hF.symm, rfl, rfl⟩⟩)
      · skip
        have h113 : Rg 64 64 (u1 (AR S o0)) := rg_eq_l (rg_all (u1 (AR S o0))) (⟨by decide, by decide⟩ : Rg 64 64 64) q105
        refine tt_lload (j := 1) dX10_run_312 rfl ?_
        refine tt_goto (tgt := 323) dX10_run_314 rfl ?_
        refine gt_lSx dX10_run_323 hov hA (rg_in hg) hG (Or.inl (by decide)) (Or.inr (ow_mk 9990 (k := 666) h0 hrv)) (fun S114 hG115 hA116 e117 f118 er119 ej120 => ?_)
        have hF : G_X10_run_p277 (AR S o0) (QR S o0 vl) y5 = ((r0 (QR S o0 vl)), (r1 (QR S o0 vl)), (r2 (QR S o0 vl)), (r3 (QR S o0 vl)), (r4 (QR S o0 vl)), (r5 (QR S o0 vl)), (vp_updL (rA (QR S o0 vl)) ((u2 (AR S o0)) : Int32).toNatClampNeg y5)) := by
          exact g_X10_run_p277_2 q101 q103 q105
        exact tt_vreturn dX10_run_324 rfl (hP _ _ _ _ ⟨hG115, hA116, Or.inl ⟨_, rfl, rfl, Eq.trans (qR_mk ((congrFun (congrFun e117 664) o0).trans (tR_664 (T := S) (o := o0) (a := vl) rfl)) ((congrFun (congrFun e117 667) o0).trans (tR_667 (T := S) (o := o0) (a := vl) rfl)) ((congrFun (congrFun e117 668) o0).trans (tR_668 (T := S) (o := o0) (a := vl) rfl)) ((congrFun (congrFun e117 669) o0).trans (tR_669 (T := S) (o := o0) (a := vl) rfl)) ((congrFun (congrFun e117 670) o0).trans (tR_670 (T := S) (o := o0) (a := vl) rfl)) ((congrFun (congrFun e117 671) o0).trans (tR_671 (T := S) (o := o0) (a := vl) rfl)) (by rw [ej120, va_up_self, (show hp_j S vl = (rA (QR S o0 vl)) from rfl)])) hF.symm, rfl, rfl⟩⟩)
theorem sl_X10_run_p45_49 : (#[91, 113, 221, 221, 125, 102, 137, 102, 125, 149, 159, 170, 181, 194, 221, 221, 221, 200, 213] : Array Int).toList = [91, 113, 221, 221, 125, 102, 137, 102, 125, 149, 159, 170, 181, 194, 221, 221, 221, 200, 213] := rfl
def G_X10_run_p45 (q : AU) (w : RS) (y1 : Int64) (y3 : Int64) : RS :=
  if (u0 q) = 0 then
    let d107 := G_X10_sum q w (y1) (y3)
    G_X10_run_p277 q d107.1 (d107.2)
  else
    if (u0 q) = 1 then
      let d118 := G_X10_bits q w ((y1 ||| y3))
      G_X10_run_p277 q d118.1 (d118.2)
    else
      if (u0 q) = 2 then
        let d129 := G_X10_shifted q w (y1)
        G_X10_run_p277 q d129.1 (d129.2)
      else
        if (u0 q) = 3 then
          let d140 := G_X10_shifted q w (y1)
          G_X10_run_p277 q d140.1 (d140.2)
        else
          if (u0 q) = 4 then
            let d151 := G_X10_bits q w ((y1 &&& y3))
            G_X10_run_p277 q d151.1 (d151.2)
          else
            if (u0 q) = 5 then
              let d162 := G_X10_difference q w (y1) (y3)
              G_X10_run_p277 q d162.1 (d162.2)
            else
              if (u0 q) = 6 then
                let d173 := G_X10_bits q w ((y1 ^^^ y3))
                G_X10_run_p277 q d173.1 (d173.2)
              else
                if (u0 q) = 7 then
                  let d184 := G_X10_difference q w (y1) (y3)
                  G_X10_run_p277 q d184.1 (d184.2)
                else
                  if (u0 q) = 8 then
                    let d195 := G_X10_bits q w ((y1 &&& y3))
                    G_X10_run_p277 q d195.1 (d195.2)
                  else
                    if (u0 q) = 9 then
                      G_X10_run_p277 q w ((y1 ^^^ (-1)))
                    else
                      if (u0 q) = 10 then
                        let d207 := G_X10_difference q w (0) (y1)
                        G_X10_run_p277 q d207.1 (d207.2)
                      else
                        if (u0 q) = 11 then
                          let d218 := G_X10_count q w (y1) (1)
                          G_X10_run_p277 q d218.1 (d218.2)
                        else
                          if (u0 q) = 12 then
                            let d229 := G_X10_count q w (y1) ((-1))
                            G_X10_run_p277 q d229.1 (d229.2)
                          else
                            if (u0 q) = 13 then
                              G_X10_run_p277 q w (y3)
                            else
                              if (u0 q) = 14 then
                                let d241 := G_X10_shifted q w (y1)
                                G_X10_run_p277 q d241.1 (d241.2)
                              else
                                if (u0 q) = 15 then
                                  let d252 := G_X10_shifted q w (y1)
                                  G_X10_run_p277 q d252.1 (d252.2)
                                else
                                  if (u0 q) = 16 then
                                    let d263 := G_X10_shifted q w (y1)
                                    G_X10_run_p277 q d263.1 (d263.2)
                                  else
                                    if (u0 q) = 17 then
                                      G_X10_run_p277 q ((r0 w), 1, (r2 w), (r3 w), (r4 w), (r5 w), (rA w)) ((y1 * y3))
                                    else
                                      if (u0 q) = 18 then
                                        G_X10_run_p277 q w (((y3 : Int64).toInt32 : Int32).toInt64)
                                      else
                                        let d301 := G_X10_shifted q w (y1)
                                        G_X10_run_p277 q d301.1 (d301.2)
theorem g_X10_run_p45_0 {q : AU} {w : RS} {y1 : Int64} {y3 : Int64} (h0 : (u0 q) = 0) : G_X10_run_p45 q w y1 y3 = G_X10_run_p277 q (G_X10_sum q w (y1) (y3)).1 ((G_X10_sum q w (y1) (y3)).2) := by unfold G_X10_run_p45; exact if_pos h0
theorem g_X10_run_p45_1 {q : AU} {w : RS} {y1 : Int64} {y3 : Int64} (h0 : ¬ (u0 q) = 0) (h1 : (u0 q) = 1) : G_X10_run_p45 q w y1 y3 = G_X10_run_p277 q (G_X10_bits q w ((y1 ||| y3))).1 ((G_X10_bits q w ((y1 ||| y3))).2) := by unfold G_X10_run_p45; exact Eq.trans (if_neg h0) (if_pos h1)
theorem g_X10_run_p45_2 {q : AU} {w : RS} {y1 : Int64} {y3 : Int64} (h0 : ¬ (u0 q) = 0) (h1 : ¬ (u0 q) = 1) (h2 : (u0 q) = 2) : G_X10_run_p45 q w y1 y3 = G_X10_run_p277 q (G_X10_shifted q w (y1)).1 ((G_X10_shifted q w (y1)).2) := by unfold G_X10_run_p45; exact Eq.trans (if_neg h0) (Eq.trans (if_neg h1) (if_pos h2))
theorem g_X10_run_p45_3 {q : AU} {w : RS} {y1 : Int64} {y3 : Int64} (h0 : ¬ (u0 q) = 0) (h1 : ¬ (u0 q) = 1) (h2 : ¬ (u0 q) = 2) (h3 : (u0 q) = 3) : G_X10_run_p45 q w y1 y3 = G_X10_run_p277 q (G_X10_shifted q w (y1)).1 ((G_X10_shifted q w (y1)).2) := by unfold G_X10_run_p45; exact Eq.trans (if_neg h0) (Eq.trans (if_neg h1) (Eq.trans (if_neg h2) (if_pos h3)))
theorem g_X10_run_p45_4 {q : AU} {w : RS} {y1 : Int64} {y3 : Int64} (h0 : ¬ (u0 q) = 0) (h1 : ¬ (u0 q) = 1) (h2 : ¬ (u0 q) = 2) (h3 : ¬ (u0 q) = 3) (h4 : (u0 q) = 4) : G_X10_run_p45 q w y1 y3 = G_X10_run_p277 q (G_X10_bits q w ((y1 &&& y3))).1 ((G_X10_bits q w ((y1 &&& y3))).2) := by unfold G_X10_run_p45; exact Eq.trans (if_neg h0) (Eq.trans (if_neg h1) (Eq.trans (if_neg h2) (Eq.trans (if_neg h3) (if_pos h4))))
theorem g_X10_run_p45_5 {q : AU} {w : RS} {y1 : Int64} {y3 : Int64} (h0 : ¬ (u0 q) = 0) (h1 : ¬ (u0 q) = 1) (h2 : ¬ (u0 q) = 2) (h3 : ¬ (u0 q) = 3) (h4 : ¬ (u0 q) = 4) (h5 : (u0 q) = 5) : G_X10_run_p45 q w y1 y3 = G_X10_run_p277 q (G_X10_difference q w (y1) (y3)).1 ((G_X10_difference q w (y1) (y3)).2) := by unfold G_X10_run_p45; exact Eq.trans (if_neg h0) (Eq.trans (if_neg h1) (Eq.trans (if_neg h2) (Eq.trans (if_neg h3) (Eq.trans (if_neg h4) (if_pos h5)))))
theorem g_X10_run_p45_6 {q : AU} {w : RS} {y1 : Int64} {y3 : Int64} (h0 : ¬ (u0 q) = 0) (h1 : ¬ (u0 q) = 1) (h2 : ¬ (u0 q) = 2) (h3 : ¬ (u0 q) = 3) (h4 : ¬ (u0 q) = 4) (h5 : ¬ (u0 q) = 5) (h6 : (u0 q) = 6) : G_X10_run_p45 q w y1 y3 = G_X10_run_p277 q (G_X10_bits q w ((y1 ^^^ y3))).1 ((G_X10_bits q w ((y1 ^^^ y3))).2) := by unfold G_X10_run_p45; exact Eq.trans (if_neg h0) (Eq.trans (if_neg h1) (Eq.trans (if_neg h2) (Eq.trans (if_neg h3) (Eq.trans (if_neg h4) (Eq.trans (if_neg h5) (if_pos h6))))))
theorem g_X10_run_p45_7 {q : AU} {w : RS} {y1 : Int64} {y3 : Int64} (h0 : ¬ (u0 q) = 0) (h1 : ¬ (u0 q) = 1) (h2 : ¬ (u0 q) = 2) (h3 : ¬ (u0 q) = 3) (h4 : ¬ (u0 q) = 4) (h5 : ¬ (u0 q) = 5) (h6 : ¬ (u0 q) = 6) (h7 : (u0 q) = 7) : G_X10_run_p45 q w y1 y3 = G_X10_run_p277 q (G_X10_difference q w (y1) (y3)).1 ((G_X10_difference q w (y1) (y3)).2) := by unfold G_X10_run_p45; exact Eq.trans (if_neg h0) (Eq.trans (if_neg h1) (Eq.trans (if_neg h2) (Eq.trans (if_neg h3) (Eq.trans (if_neg h4) (Eq.trans (if_neg h5) (Eq.trans (if_neg h6) (if_pos h7)))))))
theorem g_X10_run_p45_8 {q : AU} {w : RS} {y1 : Int64} {y3 : Int64} (h0 : ¬ (u0 q) = 0) (h1 : ¬ (u0 q) = 1) (h2 : ¬ (u0 q) = 2) (h3 : ¬ (u0 q) = 3) (h4 : ¬ (u0 q) = 4) (h5 : ¬ (u0 q) = 5) (h6 : ¬ (u0 q) = 6) (h7 : ¬ (u0 q) = 7) (h8 : (u0 q) = 8) : G_X10_run_p45 q w y1 y3 = G_X10_run_p277 q (G_X10_bits q w ((y1 &&& y3))).1 ((G_X10_bits q w ((y1 &&& y3))).2) := by unfold G_X10_run_p45; exact Eq.trans (if_neg h0) (Eq.trans (if_neg h1) (Eq.trans (if_neg h2) (Eq.trans (if_neg h3) (Eq.trans (if_neg h4) (Eq.trans (if_neg h5) (Eq.trans (if_neg h6) (Eq.trans (if_neg h7) (if_pos h8))))))))
theorem g_X10_run_p45_9 {q : AU} {w : RS} {y1 : Int64} {y3 : Int64} (h0 : ¬ (u0 q) = 0) (h1 : ¬ (u0 q) = 1) (h2 : ¬ (u0 q) = 2) (h3 : ¬ (u0 q) = 3) (h4 : ¬ (u0 q) = 4) (h5 : ¬ (u0 q) = 5) (h6 : ¬ (u0 q) = 6) (h7 : ¬ (u0 q) = 7) (h8 : ¬ (u0 q) = 8) (h9 : (u0 q) = 9) : G_X10_run_p45 q w y1 y3 = G_X10_run_p277 q w ((y1 ^^^ (-1))) := by unfold G_X10_run_p45; exact Eq.trans (if_neg h0) (Eq.trans (if_neg h1) (Eq.trans (if_neg h2) (Eq.trans (if_neg h3) (Eq.trans (if_neg h4) (Eq.trans (if_neg h5) (Eq.trans (if_neg h6) (Eq.trans (if_neg h7) (Eq.trans (if_neg h8) (if_pos h9)))))))))
theorem g_X10_run_p45_10 {q : AU} {w : RS} {y1 : Int64} {y3 : Int64} (h0 : ¬ (u0 q) = 0) (h1 : ¬ (u0 q) = 1) (h2 : ¬ (u0 q) = 2) (h3 : ¬ (u0 q) = 3) (h4 : ¬ (u0 q) = 4) (h5 : ¬ (u0 q) = 5) (h6 : ¬ (u0 q) = 6) (h7 : ¬ (u0 q) = 7) (h8 : ¬ (u0 q) = 8) (h9 : ¬ (u0 q) = 9) (h10 : (u0 q) = 10) : G_X10_run_p45 q w y1 y3 = G_X10_run_p277 q (G_X10_difference q w (0) (y1)).1 ((G_X10_difference q w (0) (y1)).2) := by unfold G_X10_run_p45; exact Eq.trans (if_neg h0) (Eq.trans (if_neg h1) (Eq.trans (if_neg h2) (Eq.trans (if_neg h3) (Eq.trans (if_neg h4) (Eq.trans (if_neg h5) (Eq.trans (if_neg h6) (Eq.trans (if_neg h7) (Eq.trans (if_neg h8) (Eq.trans (if_neg h9) (if_pos h10))))))))))
theorem g_X10_run_p45_11 {q : AU} {w : RS} {y1 : Int64} {y3 : Int64} (h0 : ¬ (u0 q) = 0) (h1 : ¬ (u0 q) = 1) (h2 : ¬ (u0 q) = 2) (h3 : ¬ (u0 q) = 3) (h4 : ¬ (u0 q) = 4) (h5 : ¬ (u0 q) = 5) (h6 : ¬ (u0 q) = 6) (h7 : ¬ (u0 q) = 7) (h8 : ¬ (u0 q) = 8) (h9 : ¬ (u0 q) = 9) (h10 : ¬ (u0 q) = 10) (h11 : (u0 q) = 11) : G_X10_run_p45 q w y1 y3 = G_X10_run_p277 q (G_X10_count q w (y1) (1)).1 ((G_X10_count q w (y1) (1)).2) := by unfold G_X10_run_p45; exact Eq.trans (if_neg h0) (Eq.trans (if_neg h1) (Eq.trans (if_neg h2) (Eq.trans (if_neg h3) (Eq.trans (if_neg h4) (Eq.trans (if_neg h5) (Eq.trans (if_neg h6) (Eq.trans (if_neg h7) (Eq.trans (if_neg h8) (Eq.trans (if_neg h9) (Eq.trans (if_neg h10) (if_pos h11)))))))))))
theorem g_X10_run_p45_12 {q : AU} {w : RS} {y1 : Int64} {y3 : Int64} (h0 : ¬ (u0 q) = 0) (h1 : ¬ (u0 q) = 1) (h2 : ¬ (u0 q) = 2) (h3 : ¬ (u0 q) = 3) (h4 : ¬ (u0 q) = 4) (h5 : ¬ (u0 q) = 5) (h6 : ¬ (u0 q) = 6) (h7 : ¬ (u0 q) = 7) (h8 : ¬ (u0 q) = 8) (h9 : ¬ (u0 q) = 9) (h10 : ¬ (u0 q) = 10) (h11 : ¬ (u0 q) = 11) (h12 : (u0 q) = 12) : G_X10_run_p45 q w y1 y3 = G_X10_run_p277 q (G_X10_count q w (y1) ((-1))).1 ((G_X10_count q w (y1) ((-1))).2) := by unfold G_X10_run_p45; exact Eq.trans (if_neg h0) (Eq.trans (if_neg h1) (Eq.trans (if_neg h2) (Eq.trans (if_neg h3) (Eq.trans (if_neg h4) (Eq.trans (if_neg h5) (Eq.trans (if_neg h6) (Eq.trans (if_neg h7) (Eq.trans (if_neg h8) (Eq.trans (if_neg h9) (Eq.trans (if_neg h10) (Eq.trans (if_neg h11) (if_pos h12))))))))))))
theorem g_X10_run_p45_13 {q : AU} {w : RS} {y1 : Int64} {y3 : Int64} (h0 : ¬ (u0 q) = 0) (h1 : ¬ (u0 q) = 1) (h2 : ¬ (u0 q) = 2) (h3 : ¬ (u0 q) = 3) (h4 : ¬ (u0 q) = 4) (h5 : ¬ (u0 q) = 5) (h6 : ¬ (u0 q) = 6) (h7 : ¬ (u0 q) = 7) (h8 : ¬ (u0 q) = 8) (h9 : ¬ (u0 q) = 9) (h10 : ¬ (u0 q) = 10) (h11 : ¬ (u0 q) = 11) (h12 : ¬ (u0 q) = 12) (h13 : (u0 q) = 13) : G_X10_run_p45 q w y1 y3 = G_X10_run_p277 q w (y3) := by unfold G_X10_run_p45; exact Eq.trans (if_neg h0) (Eq.trans (if_neg h1) (Eq.trans (if_neg h2) (Eq.trans (if_neg h3) (Eq.trans (if_neg h4) (Eq.trans (if_neg h5) (Eq.trans (if_neg h6) (Eq.trans (if_neg h7) (Eq.trans (if_neg h8) (Eq.trans (if_neg h9) (Eq.trans (if_neg h10) (Eq.trans (if_neg h11) (Eq.trans (if_neg h12) (if_pos h13)))))))))))))
theorem g_X10_run_p45_14 {q : AU} {w : RS} {y1 : Int64} {y3 : Int64} (h0 : ¬ (u0 q) = 0) (h1 : ¬ (u0 q) = 1) (h2 : ¬ (u0 q) = 2) (h3 : ¬ (u0 q) = 3) (h4 : ¬ (u0 q) = 4) (h5 : ¬ (u0 q) = 5) (h6 : ¬ (u0 q) = 6) (h7 : ¬ (u0 q) = 7) (h8 : ¬ (u0 q) = 8) (h9 : ¬ (u0 q) = 9) (h10 : ¬ (u0 q) = 10) (h11 : ¬ (u0 q) = 11) (h12 : ¬ (u0 q) = 12) (h13 : ¬ (u0 q) = 13) (h14 : (u0 q) = 14) : G_X10_run_p45 q w y1 y3 = G_X10_run_p277 q (G_X10_shifted q w (y1)).1 ((G_X10_shifted q w (y1)).2) := by unfold G_X10_run_p45; exact Eq.trans (if_neg h0) (Eq.trans (if_neg h1) (Eq.trans (if_neg h2) (Eq.trans (if_neg h3) (Eq.trans (if_neg h4) (Eq.trans (if_neg h5) (Eq.trans (if_neg h6) (Eq.trans (if_neg h7) (Eq.trans (if_neg h8) (Eq.trans (if_neg h9) (Eq.trans (if_neg h10) (Eq.trans (if_neg h11) (Eq.trans (if_neg h12) (Eq.trans (if_neg h13) (if_pos h14))))))))))))))
theorem g_X10_run_p45_15 {q : AU} {w : RS} {y1 : Int64} {y3 : Int64} (h0 : ¬ (u0 q) = 0) (h1 : ¬ (u0 q) = 1) (h2 : ¬ (u0 q) = 2) (h3 : ¬ (u0 q) = 3) (h4 : ¬ (u0 q) = 4) (h5 : ¬ (u0 q) = 5) (h6 : ¬ (u0 q) = 6) (h7 : ¬ (u0 q) = 7) (h8 : ¬ (u0 q) = 8) (h9 : ¬ (u0 q) = 9) (h10 : ¬ (u0 q) = 10) (h11 : ¬ (u0 q) = 11) (h12 : ¬ (u0 q) = 12) (h13 : ¬ (u0 q) = 13) (h14 : ¬ (u0 q) = 14) (h15 : (u0 q) = 15) : G_X10_run_p45 q w y1 y3 = G_X10_run_p277 q (G_X10_shifted q w (y1)).1 ((G_X10_shifted q w (y1)).2) := by unfold G_X10_run_p45; exact Eq.trans (if_neg h0) (Eq.trans (if_neg h1) (Eq.trans (if_neg h2) (Eq.trans (if_neg h3) (Eq.trans (if_neg h4) (Eq.trans (if_neg h5) (Eq.trans (if_neg h6) (Eq.trans (if_neg h7) (Eq.trans (if_neg h8) (Eq.trans (if_neg h9) (Eq.trans (if_neg h10) (Eq.trans (if_neg h11) (Eq.trans (if_neg h12) (Eq.trans (if_neg h13) (Eq.trans (if_neg h14) (if_pos h15)))))))))))))))
theorem g_X10_run_p45_16 {q : AU} {w : RS} {y1 : Int64} {y3 : Int64} (h0 : ¬ (u0 q) = 0) (h1 : ¬ (u0 q) = 1) (h2 : ¬ (u0 q) = 2) (h3 : ¬ (u0 q) = 3) (h4 : ¬ (u0 q) = 4) (h5 : ¬ (u0 q) = 5) (h6 : ¬ (u0 q) = 6) (h7 : ¬ (u0 q) = 7) (h8 : ¬ (u0 q) = 8) (h9 : ¬ (u0 q) = 9) (h10 : ¬ (u0 q) = 10) (h11 : ¬ (u0 q) = 11) (h12 : ¬ (u0 q) = 12) (h13 : ¬ (u0 q) = 13) (h14 : ¬ (u0 q) = 14) (h15 : ¬ (u0 q) = 15) (h16 : (u0 q) = 16) : G_X10_run_p45 q w y1 y3 = G_X10_run_p277 q (G_X10_shifted q w (y1)).1 ((G_X10_shifted q w (y1)).2) := by unfold G_X10_run_p45; exact Eq.trans (if_neg h0) (Eq.trans (if_neg h1) (Eq.trans (if_neg h2) (Eq.trans (if_neg h3) (Eq.trans (if_neg h4) (Eq.trans (if_neg h5) (Eq.trans (if_neg h6) (Eq.trans (if_neg h7) (Eq.trans (if_neg h8) (Eq.trans (if_neg h9) (Eq.trans (if_neg h10) (Eq.trans (if_neg h11) (Eq.trans (if_neg h12) (Eq.trans (if_neg h13) (Eq.trans (if_neg h14) (Eq.trans (if_neg h15) (if_pos h16))))))))))))))))
theorem g_X10_run_p45_17 {q : AU} {w : RS} {y1 : Int64} {y3 : Int64} (h0 : ¬ (u0 q) = 0) (h1 : ¬ (u0 q) = 1) (h2 : ¬ (u0 q) = 2) (h3 : ¬ (u0 q) = 3) (h4 : ¬ (u0 q) = 4) (h5 : ¬ (u0 q) = 5) (h6 : ¬ (u0 q) = 6) (h7 : ¬ (u0 q) = 7) (h8 : ¬ (u0 q) = 8) (h9 : ¬ (u0 q) = 9) (h10 : ¬ (u0 q) = 10) (h11 : ¬ (u0 q) = 11) (h12 : ¬ (u0 q) = 12) (h13 : ¬ (u0 q) = 13) (h14 : ¬ (u0 q) = 14) (h15 : ¬ (u0 q) = 15) (h16 : ¬ (u0 q) = 16) (h17 : (u0 q) = 17) : G_X10_run_p45 q w y1 y3 = G_X10_run_p277 q ((r0 w), 1, (r2 w), (r3 w), (r4 w), (r5 w), (rA w)) ((y1 * y3)) := by unfold G_X10_run_p45; exact Eq.trans (if_neg h0) (Eq.trans (if_neg h1) (Eq.trans (if_neg h2) (Eq.trans (if_neg h3) (Eq.trans (if_neg h4) (Eq.trans (if_neg h5) (Eq.trans (if_neg h6) (Eq.trans (if_neg h7) (Eq.trans (if_neg h8) (Eq.trans (if_neg h9) (Eq.trans (if_neg h10) (Eq.trans (if_neg h11) (Eq.trans (if_neg h12) (Eq.trans (if_neg h13) (Eq.trans (if_neg h14) (Eq.trans (if_neg h15) (Eq.trans (if_neg h16) (if_pos h17)))))))))))))))))
theorem g_X10_run_p45_18 {q : AU} {w : RS} {y1 : Int64} {y3 : Int64} (h0 : ¬ (u0 q) = 0) (h1 : ¬ (u0 q) = 1) (h2 : ¬ (u0 q) = 2) (h3 : ¬ (u0 q) = 3) (h4 : ¬ (u0 q) = 4) (h5 : ¬ (u0 q) = 5) (h6 : ¬ (u0 q) = 6) (h7 : ¬ (u0 q) = 7) (h8 : ¬ (u0 q) = 8) (h9 : ¬ (u0 q) = 9) (h10 : ¬ (u0 q) = 10) (h11 : ¬ (u0 q) = 11) (h12 : ¬ (u0 q) = 12) (h13 : ¬ (u0 q) = 13) (h14 : ¬ (u0 q) = 14) (h15 : ¬ (u0 q) = 15) (h16 : ¬ (u0 q) = 16) (h17 : ¬ (u0 q) = 17) (h18 : (u0 q) = 18) : G_X10_run_p45 q w y1 y3 = G_X10_run_p277 q w (((y3 : Int64).toInt32 : Int32).toInt64) := by unfold G_X10_run_p45; exact Eq.trans (if_neg h0) (Eq.trans (if_neg h1) (Eq.trans (if_neg h2) (Eq.trans (if_neg h3) (Eq.trans (if_neg h4) (Eq.trans (if_neg h5) (Eq.trans (if_neg h6) (Eq.trans (if_neg h7) (Eq.trans (if_neg h8) (Eq.trans (if_neg h9) (Eq.trans (if_neg h10) (Eq.trans (if_neg h11) (Eq.trans (if_neg h12) (Eq.trans (if_neg h13) (Eq.trans (if_neg h14) (Eq.trans (if_neg h15) (Eq.trans (if_neg h16) (Eq.trans (if_neg h17) (if_pos h18))))))))))))))))))
theorem g_X10_run_p45_19 {q : AU} {w : RS} {y1 : Int64} {y3 : Int64} (h0 : ¬ (u0 q) = 0) (h1 : ¬ (u0 q) = 1) (h2 : ¬ (u0 q) = 2) (h3 : ¬ (u0 q) = 3) (h4 : ¬ (u0 q) = 4) (h5 : ¬ (u0 q) = 5) (h6 : ¬ (u0 q) = 6) (h7 : ¬ (u0 q) = 7) (h8 : ¬ (u0 q) = 8) (h9 : ¬ (u0 q) = 9) (h10 : ¬ (u0 q) = 10) (h11 : ¬ (u0 q) = 11) (h12 : ¬ (u0 q) = 12) (h13 : ¬ (u0 q) = 13) (h14 : ¬ (u0 q) = 14) (h15 : ¬ (u0 q) = 15) (h16 : ¬ (u0 q) = 16) (h17 : ¬ (u0 q) = 17) (h18 : ¬ (u0 q) = 18) : G_X10_run_p45 q w y1 y3 = G_X10_run_p277 q (G_X10_shifted q w (y1)).1 ((G_X10_shifted q w (y1)).2) := by unfold G_X10_run_p45; exact Eq.trans (if_neg h0) (Eq.trans (if_neg h1) (Eq.trans (if_neg h2) (Eq.trans (if_neg h3) (Eq.trans (if_neg h4) (Eq.trans (if_neg h5) (Eq.trans (if_neg h6) (Eq.trans (if_neg h7) (Eq.trans (if_neg h8) (Eq.trans (if_neg h9) (Eq.trans (if_neg h10) (Eq.trans (if_neg h11) (Eq.trans (if_neg h12) (Eq.trans (if_neg h13) (Eq.trans (if_neg h14) (Eq.trans (if_neg h15) (Eq.trans (if_neg h16) (Eq.trans (if_neg h17) (if_neg h18))))))))))))))))))
set_option maxHeartbeats 40000000 in
theorem cr_X10_run_p45 {xi : SX} {S : Hp} {E : List Nat} {kc nc : Nat} {P : Po} {o0 : Nat} {y1 : Int64} {y3 : Int64} {vl : Nat} {bs : Nat → Int32} {n : Int32} (hG : GI S E) (hc : RRx S E o0 vl bs n) (hg : Rg 0 23 (u2 (AR S o0))) (ho : Rg (-1) 23 (u3 (AR S o0))) (hP : ∀ r T x y, PV E [667, 668, 669, 670, 671, 9990] S kc nc rV (fun v T => QR T o0 vl = G_X10_run_p45 (AR S o0) (QR S o0 vl) y1 y3) [] r T x y → P r T x y) : TT xi M_X10_run 45 [(0, .ref o0), (1, .long y1), (3, .long y3)] [] S kc nc P := by
  obtain ⟨h0, hrv, hov, hb, rfl⟩ := id hc
  have hA : Af E [667, 668, 669, 670, 671, 9990] S S := af_rf
  refine tt_aload_n (j := 0) dX10_run_45 rfl ?_
  refine gt_gI (id := 655) (v := (u0 (AR S o0))) dX10_run_46 fl_10_107 rfl rfl h0 hA (uR_655 (T := S) (o := o0) rfl) ?_
  refine gt_by (c := (u0 (AR S o0)) = 0) (fun q101 => ?_) (fun q101 => ?_)
  · skip
    refine gt_tseqL (off := 91) (tgt := 140) 0 0 dX10_run_49 sl_X10_run_p45_49 q101 rfl (by decide) (by decide) rfl rfl ?_
    refine tt_aload_n (j := 0) dX10_run_140 rfl ?_
    refine tt_lload_n (j := 1) dX10_run_141 rfl ?_
    refine tt_lload_n (j := 2) dX10_run_142 rfl ?_
    refine gt_VJ (As := [.long y1, .long y3]) dX10_run_143 ca_X10_345 ⟨by decide, by decide⟩ h0 hA rfl (Nat.le_of_ble_eq_true rfl) (Nat.le_of_ble_eq_true rfl) (by decide) (cr_X10_sum hG (rr_af hc hA) (fun _ _ _ _ h => h)) rfl (fun _ h => nomatch h) (fun S102 y111 hx106 hG103 hB104 hA105 => ?_)
    obtain ⟨d107, hd108⟩ : ∃ q, G_X10_sum (AR S o0) (QR S o0 vl) (y1) (y3) = q := ⟨_, rfl⟩
    have hq109 := ((congrArg (fun q9 => G_X10_sum q9 (QR S o0 vl) (y1) (y3)) (aR_mk (uR_655 (T := S) (o := o0) rfl) (uR_656 (T := S) (o := o0) rfl) (uR_657 (T := S) (o := o0) rfl) (uR_658 (T := S) (o := o0) rfl) (uR_659 (T := S) (o := o0) rfl) (uR_661 (T := S) (o := o0) rfl))).trans (congrArg (fun q9 => G_X10_sum (AR S o0) q9 (y1) (y3)) (qR_mk (tR_664 (T := S) (o := o0) (a := vl) rfl) (tR_667 (T := S) (o := o0) (a := vl) rfl) (tR_668 (T := S) (o := o0) (a := vl) rfl) (tR_669 (T := S) (o := o0) (a := vl) rfl) (tR_670 (T := S) (o := o0) (a := vl) rfl) (tR_671 (T := S) (o := o0) (a := vl) rfl) rfl))).trans hd108
    have hs110 := hx106.2.trans (congrArg Prod.fst hq109)
    obtain rfl : d107.2 = y111 := ((el_w hx106.1).trans (congrArg Prod.snd hq109)).symm
    refine tt_lstore (ks := [0, 1, 2, 3]) (L' := [(5, .long d107.2), (0, .ref o0), (1, .long y1), (3, .long y3)]) dX10_run_146 (by decide) rfl ?_
    refine tt_goto (tgt := 277) dX10_run_148 rfl ?_
    have hF : G_X10_run_p45 (AR S o0) (QR S o0 vl) y1 y3 = G_X10_run_p277 (AR S o0) d107.1 (d107.2) := by
      subst hd108
      exact g_X10_run_p45_0 q101
    exact tt_loc (ks := [1, 0]) rfl (cr_X10_run_p277 hG103 (rr_af hc hA105) (by rw [(aR_mk ((i_af (k := 655) (oa_af h0 hA) hB104).trans (uR_655 (T := S) (o := o0) rfl)) ((i_af (k := 656) (oa_af h0 hA) hB104).trans (uR_656 (T := S) (o := o0) rfl)) ((i_af (k := 657) (oa_af h0 hA) hB104).trans (uR_657 (T := S) (o := o0) rfl)) ((i_af (k := 658) (oa_af h0 hA) hB104).trans (uR_658 (T := S) (o := o0) rfl)) ((i_af (k := 659) (oa_af h0 hA) hB104).trans (uR_659 (T := S) (o := o0) rfl)) ((i_af (k := 661) (oa_af h0 hA) hB104).trans (uR_661 (T := S) (o := o0) rfl)))]; exact hg) (by rw [(aR_mk ((i_af (k := 655) (oa_af h0 hA) hB104).trans (uR_655 (T := S) (o := o0) rfl)) ((i_af (k := 656) (oa_af h0 hA) hB104).trans (uR_656 (T := S) (o := o0) rfl)) ((i_af (k := 657) (oa_af h0 hA) hB104).trans (uR_657 (T := S) (o := o0) rfl)) ((i_af (k := 658) (oa_af h0 hA) hB104).trans (uR_658 (T := S) (o := o0) rfl)) ((i_af (k := 659) (oa_af h0 hA) hB104).trans (uR_659 (T := S) (o := o0) rfl)) ((i_af (k := 661) (oa_af h0 hA) hB104).trans (uR_661 (T := S) (o := o0) rfl)))]; exact ho) (fun r T x y h => hP r T x y (pv_tr hA105 h (by decide) (fun v T e => e.trans (((congrArg (fun q9 => G_X10_run_p277 q9 (QR S102 o0 vl) (d107.2)) (aR_mk ((i_af (k := 655) (oa_af h0 hA) hB104).trans (uR_655 (T := S) (o := o0) rfl)) ((i_af (k := 656) (oa_af h0 hA) hB104).trans (uR_656 (T := S) (o := o0) rfl)) ((i_af (k := 657) (oa_af h0 hA) hB104).trans (uR_657 (T := S) (o := o0) rfl)) ((i_af (k := 658) (oa_af h0 hA) hB104).trans (uR_658 (T := S) (o := o0) rfl)) ((i_af (k := 659) (oa_af h0 hA) hB104).trans (uR_659 (T := S) (o := o0) rfl)) ((i_af (k := 661) (oa_af h0 hA) hB104).trans (uR_661 (T := S) (o := o0) rfl)))).trans (congrArg (fun q9 => G_X10_run_p277 (AR S o0) q9 (d107.2)) (qR_mk (tR_664 hs110) (tR_667 hs110) (tR_668 hs110) (tR_669 hs110) (tR_670 hs110) (tR_671 hs110) (tR_j hs110)))).trans hF.symm)))))
  refine gt_by (c := (u0 (AR S o0)) = 1) (fun q112 => ?_) (fun q112 => ?_)
  · skip
    refine gt_tseqL (off := 113) (tgt := 162) 1 1 dX10_run_49 sl_X10_run_p45_49 q112 rfl (by decide) (by decide) rfl rfl ?_
    refine tt_aload_n (j := 0) dX10_run_162 rfl ?_
    refine tt_lload_n (j := 1) dX10_run_163 rfl ?_
    refine tt_lload_n (j := 2) dX10_run_164 rfl ?_
    refine tt_lor dX10_run_165 ?_
    refine gt_VJ (As := [.long (y1 ||| y3)]) dX10_run_166 ca_X10_351 ⟨by decide, by decide⟩ h0 hA rfl (Nat.le_of_ble_eq_true rfl) (Nat.le_of_ble_eq_true rfl) (by decide) (cr_X10_bits hG (rr_af hc hA) (fun _ _ _ _ h => h)) rfl (fun _ h => nomatch h) (fun S113 y122 hx117 hG114 hB115 hA116 => ?_)
    obtain ⟨d118, hd119⟩ : ∃ q, G_X10_bits (AR S o0) (QR S o0 vl) ((y1 ||| y3)) = q := ⟨_, rfl⟩
    have hq120 := ((congrArg (fun q9 => G_X10_bits q9 (QR S o0 vl) ((y1 ||| y3))) (aR_mk (uR_655 (T := S) (o := o0) rfl) (uR_656 (T := S) (o := o0) rfl) (uR_657 (T := S) (o := o0) rfl) (uR_658 (T := S) (o := o0) rfl) (uR_659 (T := S) (o := o0) rfl) (uR_661 (T := S) (o := o0) rfl))).trans (congrArg (fun q9 => G_X10_bits (AR S o0) q9 ((y1 ||| y3))) (qR_mk (tR_664 (T := S) (o := o0) (a := vl) rfl) (tR_667 (T := S) (o := o0) (a := vl) rfl) (tR_668 (T := S) (o := o0) (a := vl) rfl) (tR_669 (T := S) (o := o0) (a := vl) rfl) (tR_670 (T := S) (o := o0) (a := vl) rfl) (tR_671 (T := S) (o := o0) (a := vl) rfl) rfl))).trans hd119
    have hs121 := hx117.2.trans (congrArg Prod.fst hq120)
    obtain rfl : d118.2 = y122 := ((el_w hx117.1).trans (congrArg Prod.snd hq120)).symm
    refine tt_lstore (ks := [0, 1, 2, 3]) (L' := [(5, .long d118.2), (0, .ref o0), (1, .long y1), (3, .long y3)]) dX10_run_169 (by decide) rfl ?_
    refine tt_goto (tgt := 277) dX10_run_171 rfl ?_
    have hF : G_X10_run_p45 (AR S o0) (QR S o0 vl) y1 y3 = G_X10_run_p277 (AR S o0) d118.1 (d118.2) := by
      subst hd119
      exact g_X10_run_p45_1 q101 q112
    exact tt_loc (ks := [1, 0]) rfl (cr_X10_run_p277 hG114 (rr_af hc hA116) (by rw [(aR_mk ((i_af (k := 655) (oa_af h0 hA) hB115).trans (uR_655 (T := S) (o := o0) rfl)) ((i_af (k := 656) (oa_af h0 hA) hB115).trans (uR_656 (T := S) (o := o0) rfl)) ((i_af (k := 657) (oa_af h0 hA) hB115).trans (uR_657 (T := S) (o := o0) rfl)) ((i_af (k := 658) (oa_af h0 hA) hB115).trans (uR_658 (T := S) (o := o0) rfl)) ((i_af (k := 659) (oa_af h0 hA) hB115).trans (uR_659 (T := S) (o := o0) rfl)) ((i_af (k := 661) (oa_af h0 hA) hB115).trans (uR_661 (T := S) (o := o0) rfl)))]; exact hg) (by rw [(aR_mk ((i_af (k := 655) (oa_af h0 hA) hB115).trans (uR_655 (T := S) (o := o0) rfl)) ((i_af (k := 656) (oa_af h0 hA) hB115).trans (uR_656 (T := S) (o := o0) rfl)) ((i_af (k := 657) (oa_af h0 hA) hB115).trans (uR_657 (T := S) (o := o0) rfl)) ((i_af (k := 658) (oa_af h0 hA) hB115).trans (uR_658 (T := S) (o := o0) rfl)) ((i_af (k := 659) (oa_af h0 hA) hB115).trans (uR_659 (T := S) (o := o0) rfl)) ((i_af (k := 661) (oa_af h0 hA) hB115).trans (uR_661 (T := S) (o := o0) rfl)))]; exact ho) (fun r T x y h => hP r T x y (pv_tr hA116 h (by decide) (fun v T e => e.trans (((congrArg (fun q9 => G_X10_run_p277 q9 (QR S113 o0 vl) (d118.2)) (aR_mk ((i_af (k := 655) (oa_af h0 hA) hB115).trans (uR_655 (T := S) (o := o0) rfl)) ((i_af (k := 656) (oa_af h0 hA) hB115).trans (uR_656 (T := S) (o := o0) rfl)) ((i_af (k := 657) (oa_af h0 hA) hB115).trans (uR_657 (T := S) (o := o0) rfl)) ((i_af (k := 658) (oa_af h0 hA) hB115).trans (uR_658 (T := S) (o := o0) rfl)) ((i_af (k := 659) (oa_af h0 hA) hB115).trans (uR_659 (T := S) (o := o0) rfl)) ((i_af (k := 661) (oa_af h0 hA) hB115).trans (uR_661 (T := S) (o := o0) rfl)))).trans (congrArg (fun q9 => G_X10_run_p277 (AR S o0) q9 (d118.2)) (qR_mk (tR_664 hs121) (tR_667 hs121) (tR_668 hs121) (tR_669 hs121) (tR_670 hs121) (tR_671 hs121) (tR_j hs121)))).trans hF.symm)))))
  refine gt_by (c := (u0 (AR S o0)) = 2) (fun q123 => ?_) (fun q123 => ?_)
  · skip
    refine gt_tseqL (off := 221) (tgt := 270) 2 2 dX10_run_49 sl_X10_run_p45_49 q123 rfl (by decide) (by decide) rfl rfl ?_
    refine tt_aload_n (j := 0) dX10_run_270 rfl ?_
    refine tt_lload_n (j := 1) dX10_run_271 rfl ?_
    refine gt_VJ (As := [.long y1]) dX10_run_272 ca_X10_357 ⟨by decide, by decide⟩ h0 hA rfl (Nat.le_of_ble_eq_true rfl) (Nat.le_of_ble_eq_true rfl) (by decide) (cr_X10_shifted hG (rr_af hc hA) (fun _ _ _ _ h => h)) rfl (fun _ h => nomatch h) (fun S124 y133 hx128 hG125 hB126 hA127 => ?_)
    obtain ⟨d129, hd130⟩ : ∃ q, G_X10_shifted (AR S o0) (QR S o0 vl) (y1) = q := ⟨_, rfl⟩
    have hq131 := ((congrArg (fun q9 => G_X10_shifted q9 (QR S o0 vl) (y1)) (aR_mk (uR_655 (T := S) (o := o0) rfl) (uR_656 (T := S) (o := o0) rfl) (uR_657 (T := S) (o := o0) rfl) (uR_658 (T := S) (o := o0) rfl) (uR_659 (T := S) (o := o0) rfl) (uR_661 (T := S) (o := o0) rfl))).trans (congrArg (fun q9 => G_X10_shifted (AR S o0) q9 (y1)) (qR_mk (tR_664 (T := S) (o := o0) (a := vl) rfl) (tR_667 (T := S) (o := o0) (a := vl) rfl) (tR_668 (T := S) (o := o0) (a := vl) rfl) (tR_669 (T := S) (o := o0) (a := vl) rfl) (tR_670 (T := S) (o := o0) (a := vl) rfl) (tR_671 (T := S) (o := o0) (a := vl) rfl) rfl))).trans hd130
    have hs132 := hx128.2.trans (congrArg Prod.fst hq131)
    obtain rfl : d129.2 = y133 := ((el_w hx128.1).trans (congrArg Prod.snd hq131)).symm
    refine tt_lstore (ks := [0, 1, 2, 3]) (L' := [(5, .long d129.2), (0, .ref o0), (1, .long y1), (3, .long y3)]) dX10_run_275 (by decide) rfl ?_
    have hF : G_X10_run_p45 (AR S o0) (QR S o0 vl) y1 y3 = G_X10_run_p277 (AR S o0) d129.1 (d129.2) := by
      subst hd130
      exact g_X10_run_p45_2 q101 q112 q123
    exact tt_loc (ks := [1, 0]) rfl (cr_X10_run_p277 hG125 (rr_af hc hA127) (by rw [(aR_mk ((i_af (k := 655) (oa_af h0 hA) hB126).trans (uR_655 (T := S) (o := o0) rfl)) ((i_af (k := 656) (oa_af h0 hA) hB126).trans (uR_656 (T := S) (o := o0) rfl)) ((i_af (k := 657) (oa_af h0 hA) hB126).trans (uR_657 (T := S) (o := o0) rfl)) ((i_af (k := 658) (oa_af h0 hA) hB126).trans (uR_658 (T := S) (o := o0) rfl)) ((i_af (k := 659) (oa_af h0 hA) hB126).trans (uR_659 (T := S) (o := o0) rfl)) ((i_af (k := 661) (oa_af h0 hA) hB126).trans (uR_661 (T := S) (o := o0) rfl)))]; exact hg) (by rw [(aR_mk ((i_af (k := 655) (oa_af h0 hA) hB126).trans (uR_655 (T := S) (o := o0) rfl)) ((i_af (k := 656) (oa_af h0 hA) hB126).trans (uR_656 (T := S) (o := o0) rfl)) ((i_af (k := 657) (oa_af h0 hA) hB126).trans (uR_657 (T := S) (o := o0) rfl)) ((i_af (k := 658) (oa_af h0 hA) hB126).trans (uR_658 (T := S) (o := o0) rfl)) ((i_af (k := 659) (oa_af h0 hA) hB126).trans (uR_659 (T := S) (o := o0) rfl)) ((i_af (k := 661) (oa_af h0 hA) hB126).trans (uR_661 (T := S) (o := o0) rfl)))]; exact ho) (fun r T x y h => hP r T x y (pv_tr hA127 h (by decide) (fun v T e => e.trans (((congrArg (fun q9 => G_X10_run_p277 q9 (QR S124 o0 vl) (d129.2)) (aR_mk ((i_af (k := 655) (oa_af h0 hA) hB126).trans (uR_655 (T := S) (o := o0) rfl)) ((i_af (k := 656) (oa_af h0 hA) hB126).trans (uR_656 (T := S) (o := o0) rfl)) ((i_af (k := 657) (oa_af h0 hA) hB126).trans (uR_657 (T := S) (o := o0) rfl)) ((i_af (k := 658) (oa_af h0 hA) hB126).trans (uR_658 (T := S) (o := o0) rfl)) ((i_af (k := 659) (oa_af h0 hA) hB126).trans (uR_659 (T := S) (o := o0) rfl)) ((i_af (k := 661) (oa_af h0 hA) hB126).trans (uR_661 (T := S) (o := o0) rfl)))).trans (congrArg (fun q9 => G_X10_run_p277 (AR S o0) q9 (d129.2)) (qR_mk (tR_664 hs132) (tR_667 hs132) (tR_668 hs132) (tR_669 hs132) (tR_670 hs132) (tR_671 hs132) (tR_j hs132)))).trans hF.symm)))))
  refine gt_by (c := (u0 (AR S o0)) = 3) (fun q134 => ?_) (fun q134 => ?_)
  · skip
    refine gt_tseqL (off := 221) (tgt := 270) 3 3 dX10_run_49 sl_X10_run_p45_49 q134 rfl (by decide) (by decide) rfl rfl ?_
    refine tt_aload_n (j := 0) dX10_run_270 rfl ?_
    refine tt_lload_n (j := 1) dX10_run_271 rfl ?_
    refine gt_VJ (As := [.long y1]) dX10_run_272 ca_X10_357 ⟨by decide, by decide⟩ h0 hA rfl (Nat.le_of_ble_eq_true rfl) (Nat.le_of_ble_eq_true rfl) (by decide) (cr_X10_shifted hG (rr_af hc hA) (fun _ _ _ _ h => h)) rfl (fun _ h => nomatch h) (fun S135 y144 hx139 hG136 hB137 hA138 => ?_)
    obtain ⟨d140, hd141⟩ : ∃ q, G_X10_shifted (AR S o0) (QR S o0 vl) (y1) = q := ⟨_, rfl⟩
    have hq142 := ((congrArg (fun q9 => G_X10_shifted q9 (QR S o0 vl) (y1)) (aR_mk (uR_655 (T := S) (o := o0) rfl) (uR_656 (T := S) (o := o0) rfl) (uR_657 (T := S) (o := o0) rfl) (uR_658 (T := S) (o := o0) rfl) (uR_659 (T := S) (o := o0) rfl) (uR_661 (T := S) (o := o0) rfl))).trans (congrArg (fun q9 => G_X10_shifted (AR S o0) q9 (y1)) (qR_mk (tR_664 (T := S) (o := o0) (a := vl) rfl) (tR_667 (T := S) (o := o0) (a := vl) rfl) (tR_668 (T := S) (o := o0) (a := vl) rfl) (tR_669 (T := S) (o := o0) (a := vl) rfl) (tR_670 (T := S) (o := o0) (a := vl) rfl) (tR_671 (T := S) (o := o0) (a := vl) rfl) rfl))).trans hd141
    have hs143 := hx139.2.trans (congrArg Prod.fst hq142)
    obtain rfl : d140.2 = y144 := ((el_w hx139.1).trans (congrArg Prod.snd hq142)).symm
    refine tt_lstore (ks := [0, 1, 2, 3]) (L' := [(5, .long d140.2), (0, .ref o0), (1, .long y1), (3, .long y3)]) dX10_run_275 (by decide) rfl ?_
    have hF : G_X10_run_p45 (AR S o0) (QR S o0 vl) y1 y3 = G_X10_run_p277 (AR S o0) d140.1 (d140.2) := by
      subst hd141
      exact g_X10_run_p45_3 q101 q112 q123 q134
    exact tt_loc (ks := [1, 0]) rfl (cr_X10_run_p277 hG136 (rr_af hc hA138) (by rw [(aR_mk ((i_af (k := 655) (oa_af h0 hA) hB137).trans (uR_655 (T := S) (o := o0) rfl)) ((i_af (k := 656) (oa_af h0 hA) hB137).trans (uR_656 (T := S) (o := o0) rfl)) ((i_af (k := 657) (oa_af h0 hA) hB137).trans (uR_657 (T := S) (o := o0) rfl)) ((i_af (k := 658) (oa_af h0 hA) hB137).trans (uR_658 (T := S) (o := o0) rfl)) ((i_af (k := 659) (oa_af h0 hA) hB137).trans (uR_659 (T := S) (o := o0) rfl)) ((i_af (k := 661) (oa_af h0 hA) hB137).trans (uR_661 (T := S) (o := o0) rfl)))]; exact hg) (by rw [(aR_mk ((i_af (k := 655) (oa_af h0 hA) hB137).trans (uR_655 (T := S) (o := o0) rfl)) ((i_af (k := 656) (oa_af h0 hA) hB137).trans (uR_656 (T := S) (o := o0) rfl)) ((i_af (k := 657) (oa_af h0 hA) hB137).trans (uR_657 (T := S) (o := o0) rfl)) ((i_af (k := 658) (oa_af h0 hA) hB137).trans (uR_658 (T := S) (o := o0) rfl)) ((i_af (k := 659) (oa_af h0 hA) hB137).trans (uR_659 (T := S) (o := o0) rfl)) ((i_af (k := 661) (oa_af h0 hA) hB137).trans (uR_661 (T := S) (o := o0) rfl)))]; exact ho) (fun r T x y h => hP r T x y (pv_tr hA138 h (by decide) (fun v T e => e.trans (((congrArg (fun q9 => G_X10_run_p277 q9 (QR S135 o0 vl) (d140.2)) (aR_mk ((i_af (k := 655) (oa_af h0 hA) hB137).trans (uR_655 (T := S) (o := o0) rfl)) ((i_af (k := 656) (oa_af h0 hA) hB137).trans (uR_656 (T := S) (o := o0) rfl)) ((i_af (k := 657) (oa_af h0 hA) hB137).trans (uR_657 (T := S) (o := o0) rfl)) ((i_af (k := 658) (oa_af h0 hA) hB137).trans (uR_658 (T := S) (o := o0) rfl)) ((i_af (k := 659) (oa_af h0 hA) hB137).trans (uR_659 (T := S) (o := o0) rfl)) ((i_af (k := 661) (oa_af h0 hA) hB137).trans (uR_661 (T := S) (o := o0) rfl)))).trans (congrArg (fun q9 => G_X10_run_p277 (AR S o0) q9 (d140.2)) (qR_mk (tR_664 hs143) (tR_667 hs143) (tR_668 hs143) (tR_669 hs143) (tR_670 hs143) (tR_671 hs143) (tR_j hs143)))).trans hF.symm)))))
  refine gt_by (c := (u0 (AR S o0)) = 4) (fun q145 => ?_) (fun q145 => ?_)
  · skip
    refine gt_tseqL (off := 125) (tgt := 174) 4 4 dX10_run_49 sl_X10_run_p45_49 q145 rfl (by decide) (by decide) rfl rfl ?_
    refine tt_aload_n (j := 0) dX10_run_174 rfl ?_
    refine tt_lload_n (j := 1) dX10_run_175 rfl ?_
    refine tt_lload_n (j := 2) dX10_run_176 rfl ?_
    refine tt_land dX10_run_177 ?_
    refine gt_VJ (As := [.long (y1 &&& y3)]) dX10_run_178 ca_X10_351 ⟨by decide, by decide⟩ h0 hA rfl (Nat.le_of_ble_eq_true rfl) (Nat.le_of_ble_eq_true rfl) (by decide) (cr_X10_bits hG (rr_af hc hA) (fun _ _ _ _ h => h)) rfl (fun _ h => nomatch h) (fun S146 y155 hx150 hG147 hB148 hA149 => ?_)
    obtain ⟨d151, hd152⟩ : ∃ q, G_X10_bits (AR S o0) (QR S o0 vl) ((y1 &&& y3)) = q := ⟨_, rfl⟩
    have hq153 := ((congrArg (fun q9 => G_X10_bits q9 (QR S o0 vl) ((y1 &&& y3))) (aR_mk (uR_655 (T := S) (o := o0) rfl) (uR_656 (T := S) (o := o0) rfl) (uR_657 (T := S) (o := o0) rfl) (uR_658 (T := S) (o := o0) rfl) (uR_659 (T := S) (o := o0) rfl) (uR_661 (T := S) (o := o0) rfl))).trans (congrArg (fun q9 => G_X10_bits (AR S o0) q9 ((y1 &&& y3))) (qR_mk (tR_664 (T := S) (o := o0) (a := vl) rfl) (tR_667 (T := S) (o := o0) (a := vl) rfl) (tR_668 (T := S) (o := o0) (a := vl) rfl) (tR_669 (T := S) (o := o0) (a := vl) rfl) (tR_670 (T := S) (o := o0) (a := vl) rfl) (tR_671 (T := S) (o := o0) (a := vl) rfl) rfl))).trans hd152
    have hs154 := hx150.2.trans (congrArg Prod.fst hq153)
    obtain rfl : d151.2 = y155 := ((el_w hx150.1).trans (congrArg Prod.snd hq153)).symm
    refine tt_lstore (ks := [0, 1, 2, 3]) (L' := [(5, .long d151.2), (0, .ref o0), (1, .long y1), (3, .long y3)]) dX10_run_181 (by decide) rfl ?_
    refine tt_goto (tgt := 277) dX10_run_183 rfl ?_
    have hF : G_X10_run_p45 (AR S o0) (QR S o0 vl) y1 y3 = G_X10_run_p277 (AR S o0) d151.1 (d151.2) := by
      subst hd152
      exact g_X10_run_p45_4 q101 q112 q123 q134 q145
    exact tt_loc (ks := [1, 0]) rfl (cr_X10_run_p277 hG147 (rr_af hc hA149) (by rw [(aR_mk ((i_af (k := 655) (oa_af h0 hA) hB148).trans (uR_655 (T := S) (o := o0) rfl)) ((i_af (k := 656) (oa_af h0 hA) hB148).trans (uR_656 (T := S) (o := o0) rfl)) ((i_af (k := 657) (oa_af h0 hA) hB148).trans (uR_657 (T := S) (o := o0) rfl)) ((i_af (k := 658) (oa_af h0 hA) hB148).trans (uR_658 (T := S) (o := o0) rfl)) ((i_af (k := 659) (oa_af h0 hA) hB148).trans (uR_659 (T := S) (o := o0) rfl)) ((i_af (k := 661) (oa_af h0 hA) hB148).trans (uR_661 (T := S) (o := o0) rfl)))]; exact hg) (by rw [(aR_mk ((i_af (k := 655) (oa_af h0 hA) hB148).trans (uR_655 (T := S) (o := o0) rfl)) ((i_af (k := 656) (oa_af h0 hA) hB148).trans (uR_656 (T := S) (o := o0) rfl)) ((i_af (k := 657) (oa_af h0 hA) hB148).trans (uR_657 (T := S) (o := o0) rfl)) ((i_af (k := 658) (oa_af h0 hA) hB148).trans (uR_658 (T := S) (o := o0) rfl)) ((i_af (k := 659) (oa_af h0 hA) hB148).trans (uR_659 (T := S) (o := o0) rfl)) ((i_af (k := 661) (oa_af h0 hA) hB148).trans (uR_661 (T := S) (o := o0) rfl)))]; exact ho) (fun r T x y h => hP r T x y (pv_tr hA149 h (by decide) (fun v T e => e.trans (((congrArg (fun q9 => G_X10_run_p277 q9 (QR S146 o0 vl) (d151.2)) (aR_mk ((i_af (k := 655) (oa_af h0 hA) hB148).trans (uR_655 (T := S) (o := o0) rfl)) ((i_af (k := 656) (oa_af h0 hA) hB148).trans (uR_656 (T := S) (o := o0) rfl)) ((i_af (k := 657) (oa_af h0 hA) hB148).trans (uR_657 (T := S) (o := o0) rfl)) ((i_af (k := 658) (oa_af h0 hA) hB148).trans (uR_658 (T := S) (o := o0) rfl)) ((i_af (k := 659) (oa_af h0 hA) hB148).trans (uR_659 (T := S) (o := o0) rfl)) ((i_af (k := 661) (oa_af h0 hA) hB148).trans (uR_661 (T := S) (o := o0) rfl)))).trans (congrArg (fun q9 => G_X10_run_p277 (AR S o0) q9 (d151.2)) (qR_mk (tR_664 hs154) (tR_667 hs154) (tR_668 hs154) (tR_669 hs154) (tR_670 hs154) (tR_671 hs154) (tR_j hs154)))).trans hF.symm)))))
  refine gt_by (c := (u0 (AR S o0)) = 5) (fun q156 => ?_) (fun q156 => ?_)
  · skip
    refine gt_tseqL (off := 102) (tgt := 151) 5 5 dX10_run_49 sl_X10_run_p45_49 q156 rfl (by decide) (by decide) rfl rfl ?_
    refine tt_aload_n (j := 0) dX10_run_151 rfl ?_
    refine tt_lload_n (j := 1) dX10_run_152 rfl ?_
    refine tt_lload_n (j := 2) dX10_run_153 rfl ?_
    refine gt_VJ (As := [.long y1, .long y3]) dX10_run_154 ca_X10_348 ⟨by decide, by decide⟩ h0 hA rfl (Nat.le_of_ble_eq_true rfl) (Nat.le_of_ble_eq_true rfl) (by decide) (cr_X10_difference hG (rr_af hc hA) (fun _ _ _ _ h => h)) rfl (fun _ h => nomatch h) (fun S157 y166 hx161 hG158 hB159 hA160 => ?_)
    obtain ⟨d162, hd163⟩ : ∃ q, G_X10_difference (AR S o0) (QR S o0 vl) (y1) (y3) = q := ⟨_, rfl⟩
    have hq164 := ((congrArg (fun q9 => G_X10_difference q9 (QR S o0 vl) (y1) (y3)) (aR_mk (uR_655 (T := S) (o := o0) rfl) (uR_656 (T := S) (o := o0) rfl) (uR_657 (T := S) (o := o0) rfl) (uR_658 (T := S) (o := o0) rfl) (uR_659 (T := S) (o := o0) rfl) (uR_661 (T := S) (o := o0) rfl))).trans (congrArg (fun q9 => G_X10_difference (AR S o0) q9 (y1) (y3)) (qR_mk (tR_664 (T := S) (o := o0) (a := vl) rfl) (tR_667 (T := S) (o := o0) (a := vl) rfl) (tR_668 (T := S) (o := o0) (a := vl) rfl) (tR_669 (T := S) (o := o0) (a := vl) rfl) (tR_670 (T := S) (o := o0) (a := vl) rfl) (tR_671 (T := S) (o := o0) (a := vl) rfl) rfl))).trans hd163
    have hs165 := hx161.2.trans (congrArg Prod.fst hq164)
    obtain rfl : d162.2 = y166 := ((el_w hx161.1).trans (congrArg Prod.snd hq164)).symm
    refine tt_lstore (ks := [0, 1, 2, 3]) (L' := [(5, .long d162.2), (0, .ref o0), (1, .long y1), (3, .long y3)]) dX10_run_157 (by decide) rfl ?_
    refine tt_goto (tgt := 277) dX10_run_159 rfl ?_
    have hF : G_X10_run_p45 (AR S o0) (QR S o0 vl) y1 y3 = G_X10_run_p277 (AR S o0) d162.1 (d162.2) := by
      subst hd163
      exact g_X10_run_p45_5 q101 q112 q123 q134 q145 q156
    exact tt_loc (ks := [1, 0]) rfl (cr_X10_run_p277 hG158 (rr_af hc hA160) (by rw [(aR_mk ((i_af (k := 655) (oa_af h0 hA) hB159).trans (uR_655 (T := S) (o := o0) rfl)) ((i_af (k := 656) (oa_af h0 hA) hB159).trans (uR_656 (T := S) (o := o0) rfl)) ((i_af (k := 657) (oa_af h0 hA) hB159).trans (uR_657 (T := S) (o := o0) rfl)) ((i_af (k := 658) (oa_af h0 hA) hB159).trans (uR_658 (T := S) (o := o0) rfl)) ((i_af (k := 659) (oa_af h0 hA) hB159).trans (uR_659 (T := S) (o := o0) rfl)) ((i_af (k := 661) (oa_af h0 hA) hB159).trans (uR_661 (T := S) (o := o0) rfl)))]; exact hg) (by rw [(aR_mk ((i_af (k := 655) (oa_af h0 hA) hB159).trans (uR_655 (T := S) (o := o0) rfl)) ((i_af (k := 656) (oa_af h0 hA) hB159).trans (uR_656 (T := S) (o := o0) rfl)) ((i_af (k := 657) (oa_af h0 hA) hB159).trans (uR_657 (T := S) (o := o0) rfl)) ((i_af (k := 658) (oa_af h0 hA) hB159).trans (uR_658 (T := S) (o := o0) rfl)) ((i_af (k := 659) (oa_af h0 hA) hB159).trans (uR_659 (T := S) (o := o0) rfl)) ((i_af (k := 661) (oa_af h0 hA) hB159).trans (uR_661 (T := S) (o := o0) rfl)))]; exact ho) (fun r T x y h => hP r T x y (pv_tr hA160 h (by decide) (fun v T e => e.trans (((congrArg (fun q9 => G_X10_run_p277 q9 (QR S157 o0 vl) (d162.2)) (aR_mk ((i_af (k := 655) (oa_af h0 hA) hB159).trans (uR_655 (T := S) (o := o0) rfl)) ((i_af (k := 656) (oa_af h0 hA) hB159).trans (uR_656 (T := S) (o := o0) rfl)) ((i_af (k := 657) (oa_af h0 hA) hB159).trans (uR_657 (T := S) (o := o0) rfl)) ((i_af (k := 658) (oa_af h0 hA) hB159).trans (uR_658 (T := S) (o := o0) rfl)) ((i_af (k := 659) (oa_af h0 hA) hB159).trans (uR_659 (T := S) (o := o0) rfl)) ((i_af (k := 661) (oa_af h0 hA) hB159).trans (uR_661 (T := S) (o := o0) rfl)))).trans (congrArg (fun q9 => G_X10_run_p277 (AR S o0) q9 (d162.2)) (qR_mk (tR_664 hs165) (tR_667 hs165) (tR_668 hs165) (tR_669 hs165) (tR_670 hs165) (tR_671 hs165) (tR_j hs165)))).trans hF.symm)))))
  refine gt_by (c := (u0 (AR S o0)) = 6) (fun q167 => ?_) (fun q167 => ?_)
  · skip
    refine gt_tseqL (off := 137) (tgt := 186) 6 6 dX10_run_49 sl_X10_run_p45_49 q167 rfl (by decide) (by decide) rfl rfl ?_
    refine tt_aload_n (j := 0) dX10_run_186 rfl ?_
    refine tt_lload_n (j := 1) dX10_run_187 rfl ?_
    refine tt_lload_n (j := 2) dX10_run_188 rfl ?_
    refine tt_lxor dX10_run_189 ?_
    refine gt_VJ (As := [.long (y1 ^^^ y3)]) dX10_run_190 ca_X10_351 ⟨by decide, by decide⟩ h0 hA rfl (Nat.le_of_ble_eq_true rfl) (Nat.le_of_ble_eq_true rfl) (by decide) (cr_X10_bits hG (rr_af hc hA) (fun _ _ _ _ h => h)) rfl (fun _ h => nomatch h) (fun S168 y177 hx172 hG169 hB170 hA171 => ?_)
    obtain ⟨d173, hd174⟩ : ∃ q, G_X10_bits (AR S o0) (QR S o0 vl) ((y1 ^^^ y3)) = q := ⟨_, rfl⟩
    have hq175 := ((congrArg (fun q9 => G_X10_bits q9 (QR S o0 vl) ((y1 ^^^ y3))) (aR_mk (uR_655 (T := S) (o := o0) rfl) (uR_656 (T := S) (o := o0) rfl) (uR_657 (T := S) (o := o0) rfl) (uR_658 (T := S) (o := o0) rfl) (uR_659 (T := S) (o := o0) rfl) (uR_661 (T := S) (o := o0) rfl))).trans (congrArg (fun q9 => G_X10_bits (AR S o0) q9 ((y1 ^^^ y3))) (qR_mk (tR_664 (T := S) (o := o0) (a := vl) rfl) (tR_667 (T := S) (o := o0) (a := vl) rfl) (tR_668 (T := S) (o := o0) (a := vl) rfl) (tR_669 (T := S) (o := o0) (a := vl) rfl) (tR_670 (T := S) (o := o0) (a := vl) rfl) (tR_671 (T := S) (o := o0) (a := vl) rfl) rfl))).trans hd174
    have hs176 := hx172.2.trans (congrArg Prod.fst hq175)
    obtain rfl : d173.2 = y177 := ((el_w hx172.1).trans (congrArg Prod.snd hq175)).symm
    refine tt_lstore (ks := [0, 1, 2, 3]) (L' := [(5, .long d173.2), (0, .ref o0), (1, .long y1), (3, .long y3)]) dX10_run_193 (by decide) rfl ?_
    refine tt_goto (tgt := 277) dX10_run_195 rfl ?_
    have hF : G_X10_run_p45 (AR S o0) (QR S o0 vl) y1 y3 = G_X10_run_p277 (AR S o0) d173.1 (d173.2) := by
      subst hd174
      exact g_X10_run_p45_6 q101 q112 q123 q134 q145 q156 q167
    exact tt_loc (ks := [1, 0]) rfl (cr_X10_run_p277 hG169 (rr_af hc hA171) (by rw [(aR_mk ((i_af (k := 655) (oa_af h0 hA) hB170).trans (uR_655 (T := S) (o := o0) rfl)) ((i_af (k := 656) (oa_af h0 hA) hB170).trans (uR_656 (T := S) (o := o0) rfl)) ((i_af (k := 657) (oa_af h0 hA) hB170).trans (uR_657 (T := S) (o := o0) rfl)) ((i_af (k := 658) (oa_af h0 hA) hB170).trans (uR_658 (T := S) (o := o0) rfl)) ((i_af (k := 659) (oa_af h0 hA) hB170).trans (uR_659 (T := S) (o := o0) rfl)) ((i_af (k := 661) (oa_af h0 hA) hB170).trans (uR_661 (T := S) (o := o0) rfl)))]; exact hg) (by rw [(aR_mk ((i_af (k := 655) (oa_af h0 hA) hB170).trans (uR_655 (T := S) (o := o0) rfl)) ((i_af (k := 656) (oa_af h0 hA) hB170).trans (uR_656 (T := S) (o := o0) rfl)) ((i_af (k := 657) (oa_af h0 hA) hB170).trans (uR_657 (T := S) (o := o0) rfl)) ((i_af (k := 658) (oa_af h0 hA) hB170).trans (uR_658 (T := S) (o := o0) rfl)) ((i_af (k := 659) (oa_af h0 hA) hB170).trans (uR_659 (T := S) (o := o0) rfl)) ((i_af (k := 661) (oa_af h0 hA) hB170).trans (uR_661 (T := S) (o := o0) rfl)))]; exact ho) (fun r T x y h => hP r T x y (pv_tr hA171 h (by decide) (fun v T e => e.trans (((congrArg (fun q9 => G_X10_run_p277 q9 (QR S168 o0 vl) (d173.2)) (aR_mk ((i_af (k := 655) (oa_af h0 hA) hB170).trans (uR_655 (T := S) (o := o0) rfl)) ((i_af (k := 656) (oa_af h0 hA) hB170).trans (uR_656 (T := S) (o := o0) rfl)) ((i_af (k := 657) (oa_af h0 hA) hB170).trans (uR_657 (T := S) (o := o0) rfl)) ((i_af (k := 658) (oa_af h0 hA) hB170).trans (uR_658 (T := S) (o := o0) rfl)) ((i_af (k := 659) (oa_af h0 hA) hB170).trans (uR_659 (T := S) (o := o0) rfl)) ((i_af (k := 661) (oa_af h0 hA) hB170).trans (uR_661 (T := S) (o := o0) rfl)))).trans (congrArg (fun q9 => G_X10_run_p277 (AR S o0) q9 (d173.2)) (qR_mk (tR_664 hs176) (tR_667 hs176) (tR_668 hs176) (tR_669 hs176) (tR_670 hs176) (tR_671 hs176) (tR_j hs176)))).trans hF.symm)))))
  refine gt_by (c := (u0 (AR S o0)) = 7) (fun q178 => ?_) (fun q178 => ?_)
  · skip
    refine gt_tseqL (off := 102) (tgt := 151) 7 7 dX10_run_49 sl_X10_run_p45_49 q178 rfl (by decide) (by decide) rfl rfl ?_
    refine tt_aload_n (j := 0) dX10_run_151 rfl ?_
    refine tt_lload_n (j := 1) dX10_run_152 rfl ?_
    refine tt_lload_n (j := 2) dX10_run_153 rfl ?_
    refine gt_VJ (As := [.long y1, .long y3]) dX10_run_154 ca_X10_348 ⟨by decide, by decide⟩ h0 hA rfl (Nat.le_of_ble_eq_true rfl) (Nat.le_of_ble_eq_true rfl) (by decide) (cr_X10_difference hG (rr_af hc hA) (fun _ _ _ _ h => h)) rfl (fun _ h => nomatch h) (fun S179 y188 hx183 hG180 hB181 hA182 => ?_)
    obtain ⟨d184, hd185⟩ : ∃ q, G_X10_difference (AR S o0) (QR S o0 vl) (y1) (y3) = q := ⟨_, rfl⟩
    have hq186 := ((congrArg (fun q9 => G_X10_difference q9 (QR S o0 vl) (y1) (y3)) (aR_mk (uR_655 (T := S) (o := o0) rfl) (uR_656 (T := S) (o := o0) rfl) (uR_657 (T := S) (o := o0) rfl) (uR_658 (T := S) (o := o0) rfl) (uR_659 (T := S) (o := o0) rfl) (uR_661 (T := S) (o := o0) rfl))).trans (congrArg (fun q9 => G_X10_difference (AR S o0) q9 (y1) (y3)) (qR_mk (tR_664 (T := S) (o := o0) (a := vl) rfl) (tR_667 (T := S) (o := o0) (a := vl) rfl) (tR_668 (T := S) (o := o0) (a := vl) rfl) (tR_669 (T := S) (o := o0) (a := vl) rfl) (tR_670 (T := S) (o := o0) (a := vl) rfl) (tR_671 (T := S) (o := o0) (a := vl) rfl) rfl))).trans hd185
    have hs187 := hx183.2.trans (congrArg Prod.fst hq186)
    obtain rfl : d184.2 = y188 := ((el_w hx183.1).trans (congrArg Prod.snd hq186)).symm
    refine tt_lstore (ks := [0, 1, 2, 3]) (L' := [(5, .long d184.2), (0, .ref o0), (1, .long y1), (3, .long y3)]) dX10_run_157 (by decide) rfl ?_
    refine tt_goto (tgt := 277) dX10_run_159 rfl ?_
    have hF : G_X10_run_p45 (AR S o0) (QR S o0 vl) y1 y3 = G_X10_run_p277 (AR S o0) d184.1 (d184.2) := by
      subst hd185
      exact g_X10_run_p45_7 q101 q112 q123 q134 q145 q156 q167 q178
    exact tt_loc (ks := [1, 0]) rfl (cr_X10_run_p277 hG180 (rr_af hc hA182) (by rw [(aR_mk ((i_af (k := 655) (oa_af h0 hA) hB181).trans (uR_655 (T := S) (o := o0) rfl)) ((i_af (k := 656) (oa_af h0 hA) hB181).trans (uR_656 (T := S) (o := o0) rfl)) ((i_af (k := 657) (oa_af h0 hA) hB181).trans (uR_657 (T := S) (o := o0) rfl)) ((i_af (k := 658) (oa_af h0 hA) hB181).trans (uR_658 (T := S) (o := o0) rfl)) ((i_af (k := 659) (oa_af h0 hA) hB181).trans (uR_659 (T := S) (o := o0) rfl)) ((i_af (k := 661) (oa_af h0 hA) hB181).trans (uR_661 (T := S) (o := o0) rfl)))]; exact hg) (by rw [(aR_mk ((i_af (k := 655) (oa_af h0 hA) hB181).trans (uR_655 (T := S) (o := o0) rfl)) ((i_af (k := 656) (oa_af h0 hA) hB181).trans (uR_656 (T := S) (o := o0) rfl)) ((i_af (k := 657) (oa_af h0 hA) hB181).trans (uR_657 (T := S) (o := o0) rfl)) ((i_af (k := 658) (oa_af h0 hA) hB181).trans (uR_658 (T := S) (o := o0) rfl)) ((i_af (k := 659) (oa_af h0 hA) hB181).trans (uR_659 (T := S) (o := o0) rfl)) ((i_af (k := 661) (oa_af h0 hA) hB181).trans (uR_661 (T := S) (o := o0) rfl)))]; exact ho) (fun r T x y h => hP r T x y (pv_tr hA182 h (by decide) (fun v T e => e.trans (((congrArg (fun q9 => G_X10_run_p277 q9 (QR S179 o0 vl) (d184.2)) (aR_mk ((i_af (k := 655) (oa_af h0 hA) hB181).trans (uR_655 (T := S) (o := o0) rfl)) ((i_af (k := 656) (oa_af h0 hA) hB181).trans (uR_656 (T := S) (o := o0) rfl)) ((i_af (k := 657) (oa_af h0 hA) hB181).trans (uR_657 (T := S) (o := o0) rfl)) ((i_af (k := 658) (oa_af h0 hA) hB181).trans (uR_658 (T := S) (o := o0) rfl)) ((i_af (k := 659) (oa_af h0 hA) hB181).trans (uR_659 (T := S) (o := o0) rfl)) ((i_af (k := 661) (oa_af h0 hA) hB181).trans (uR_661 (T := S) (o := o0) rfl)))).trans (congrArg (fun q9 => G_X10_run_p277 (AR S o0) q9 (d184.2)) (qR_mk (tR_664 hs187) (tR_667 hs187) (tR_668 hs187) (tR_669 hs187) (tR_670 hs187) (tR_671 hs187) (tR_j hs187)))).trans hF.symm)))))
  refine gt_by (c := (u0 (AR S o0)) = 8) (fun q189 => ?_) (fun q189 => ?_)
  · skip
    refine gt_tseqL (off := 125) (tgt := 174) 8 8 dX10_run_49 sl_X10_run_p45_49 q189 rfl (by decide) (by decide) rfl rfl ?_
    refine tt_aload_n (j := 0) dX10_run_174 rfl ?_
    refine tt_lload_n (j := 1) dX10_run_175 rfl ?_
    refine tt_lload_n (j := 2) dX10_run_176 rfl ?_
    refine tt_land dX10_run_177 ?_
    refine gt_VJ (As := [.long (y1 &&& y3)]) dX10_run_178 ca_X10_351 ⟨by decide, by decide⟩ h0 hA rfl (Nat.le_of_ble_eq_true rfl) (Nat.le_of_ble_eq_true rfl) (by decide) (cr_X10_bits hG (rr_af hc hA) (fun _ _ _ _ h => h)) rfl (fun _ h => nomatch h) (fun S190 y199 hx194 hG191 hB192 hA193 => ?_)
    obtain ⟨d195, hd196⟩ : ∃ q, G_X10_bits (AR S o0) (QR S o0 vl) ((y1 &&& y3)) = q := ⟨_, rfl⟩
    have hq197 := ((congrArg (fun q9 => G_X10_bits q9 (QR S o0 vl) ((y1 &&& y3))) (aR_mk (uR_655 (T := S) (o := o0) rfl) (uR_656 (T := S) (o := o0) rfl) (uR_657 (T := S) (o := o0) rfl) (uR_658 (T := S) (o := o0) rfl) (uR_659 (T := S) (o := o0) rfl) (uR_661 (T := S) (o := o0) rfl))).trans (congrArg (fun q9 => G_X10_bits (AR S o0) q9 ((y1 &&& y3))) (qR_mk (tR_664 (T := S) (o := o0) (a := vl) rfl) (tR_667 (T := S) (o := o0) (a := vl) rfl) (tR_668 (T := S) (o := o0) (a := vl) rfl) (tR_669 (T := S) (o := o0) (a := vl) rfl) (tR_670 (T := S) (o := o0) (a := vl) rfl) (tR_671 (T := S) (o := o0) (a := vl) rfl) rfl))).trans hd196
    have hs198 := hx194.2.trans (congrArg Prod.fst hq197)
    obtain rfl : d195.2 = y199 := ((el_w hx194.1).trans (congrArg Prod.snd hq197)).symm
    refine tt_lstore (ks := [0, 1, 2, 3]) (L' := [(5, .long d195.2), (0, .ref o0), (1, .long y1), (3, .long y3)]) dX10_run_181 (by decide) rfl ?_
    refine tt_goto (tgt := 277) dX10_run_183 rfl ?_
    have hF : G_X10_run_p45 (AR S o0) (QR S o0 vl) y1 y3 = G_X10_run_p277 (AR S o0) d195.1 (d195.2) := by
      subst hd196
      exact g_X10_run_p45_8 q101 q112 q123 q134 q145 q156 q167 q178 q189
    exact tt_loc (ks := [1, 0]) rfl (cr_X10_run_p277 hG191 (rr_af hc hA193) (by rw [(aR_mk ((i_af (k := 655) (oa_af h0 hA) hB192).trans (uR_655 (T := S) (o := o0) rfl)) ((i_af (k := 656) (oa_af h0 hA) hB192).trans (uR_656 (T := S) (o := o0) rfl)) ((i_af (k := 657) (oa_af h0 hA) hB192).trans (uR_657 (T := S) (o := o0) rfl)) ((i_af (k := 658) (oa_af h0 hA) hB192).trans (uR_658 (T := S) (o := o0) rfl)) ((i_af (k := 659) (oa_af h0 hA) hB192).trans (uR_659 (T := S) (o := o0) rfl)) ((i_af (k := 661) (oa_af h0 hA) hB192).trans (uR_661 (T := S) (o := o0) rfl)))]; exact hg) (by rw [(aR_mk ((i_af (k := 655) (oa_af h0 hA) hB192).trans (uR_655 (T := S) (o := o0) rfl)) ((i_af (k := 656) (oa_af h0 hA) hB192).trans (uR_656 (T := S) (o := o0) rfl)) ((i_af (k := 657) (oa_af h0 hA) hB192).trans (uR_657 (T := S) (o := o0) rfl)) ((i_af (k := 658) (oa_af h0 hA) hB192).trans (uR_658 (T := S) (o := o0) rfl)) ((i_af (k := 659) (oa_af h0 hA) hB192).trans (uR_659 (T := S) (o := o0) rfl)) ((i_af (k := 661) (oa_af h0 hA) hB192).trans (uR_661 (T := S) (o := o0) rfl)))]; exact ho) (fun r T x y h => hP r T x y (pv_tr hA193 h (by decide) (fun v T e => e.trans (((congrArg (fun q9 => G_X10_run_p277 q9 (QR S190 o0 vl) (d195.2)) (aR_mk ((i_af (k := 655) (oa_af h0 hA) hB192).trans (uR_655 (T := S) (o := o0) rfl)) ((i_af (k := 656) (oa_af h0 hA) hB192).trans (uR_656 (T := S) (o := o0) rfl)) ((i_af (k := 657) (oa_af h0 hA) hB192).trans (uR_657 (T := S) (o := o0) rfl)) ((i_af (k := 658) (oa_af h0 hA) hB192).trans (uR_658 (T := S) (o := o0) rfl)) ((i_af (k := 659) (oa_af h0 hA) hB192).trans (uR_659 (T := S) (o := o0) rfl)) ((i_af (k := 661) (oa_af h0 hA) hB192).trans (uR_661 (T := S) (o := o0) rfl)))).trans (congrArg (fun q9 => G_X10_run_p277 (AR S o0) q9 (d195.2)) (qR_mk (tR_664 hs198) (tR_667 hs198) (tR_668 hs198) (tR_669 hs198) (tR_670 hs198) (tR_671 hs198) (tR_j hs198)))).trans hF.symm)))))
  refine gt_by (c := (u0 (AR S o0)) = 9) (fun q200 => ?_) (fun q200 => ?_)
  · skip
    refine gt_tseqL (off := 149) (tgt := 198) 9 9 dX10_run_49 sl_X10_run_p45_49 q200 rfl (by decide) (by decide) rfl rfl ?_
    refine tt_lload_n (j := 1) dX10_run_198 rfl ?_
    refine tt_ldc2 (v := (-1)) dX10_run_199 kl_10_204 ?_
    refine tt_lxor dX10_run_202 ?_
    refine tt_lstore (ks := [0, 1, 2, 3]) (L' := [(5, .long (y1 ^^^ (-1))), (0, .ref o0), (1, .long y1), (3, .long y3)]) dX10_run_203 (by decide) rfl ?_
    refine tt_goto (tgt := 277) dX10_run_205 rfl ?_
    have hF : G_X10_run_p45 (AR S o0) (QR S o0 vl) y1 y3 = G_X10_run_p277 (AR S o0) (QR S o0 vl) ((y1 ^^^ (-1))) := by
      exact g_X10_run_p45_9 q101 q112 q123 q134 q145 q156 q167 q178 q189 q200
    exact tt_loc (ks := [1, 0]) rfl (cr_X10_run_p277 hG (rr_af hc hA) hg ho (fun r T x y h => hP r T x y (pv_tr hA h (by decide) (fun v T e => e.trans (((congrArg (fun q9 => G_X10_run_p277 q9 (QR S o0 vl) ((y1 ^^^ (-1)))) (aR_mk (uR_655 (T := S) (o := o0) rfl) (uR_656 (T := S) (o := o0) rfl) (uR_657 (T := S) (o := o0) rfl) (uR_658 (T := S) (o := o0) rfl) (uR_659 (T := S) (o := o0) rfl) (uR_661 (T := S) (o := o0) rfl))).trans (congrArg (fun q9 => G_X10_run_p277 (AR S o0) q9 ((y1 ^^^ (-1)))) (qR_mk (tR_664 (T := S) (o := o0) (a := vl) rfl) (tR_667 (T := S) (o := o0) (a := vl) rfl) (tR_668 (T := S) (o := o0) (a := vl) rfl) (tR_669 (T := S) (o := o0) (a := vl) rfl) (tR_670 (T := S) (o := o0) (a := vl) rfl) (tR_671 (T := S) (o := o0) (a := vl) rfl) rfl))).trans hF.symm)))))
  refine gt_by (c := (u0 (AR S o0)) = 10) (fun q201 => ?_) (fun q201 => ?_)
  · skip
    refine gt_tseqL (off := 159) (tgt := 208) 10 10 dX10_run_49 sl_X10_run_p45_49 q201 rfl (by decide) (by decide) rfl rfl ?_
    refine tt_aload_n (j := 0) dX10_run_208 rfl ?_
    refine tt_lconst (v := 0) dX10_run_209 rfl ?_
    refine tt_lload_n (j := 1) dX10_run_210 rfl ?_
    refine gt_VJ (As := [.long 0, .long y1]) dX10_run_211 ca_X10_348 ⟨by decide, by decide⟩ h0 hA rfl (Nat.le_of_ble_eq_true rfl) (Nat.le_of_ble_eq_true rfl) (by decide) (cr_X10_difference hG (rr_af hc hA) (fun _ _ _ _ h => h)) rfl (fun _ h => nomatch h) (fun S202 y211 hx206 hG203 hB204 hA205 => ?_)
    obtain ⟨d207, hd208⟩ : ∃ q, G_X10_difference (AR S o0) (QR S o0 vl) (0) (y1) = q := ⟨_, rfl⟩
    have hq209 := ((congrArg (fun q9 => G_X10_difference q9 (QR S o0 vl) (0) (y1)) (aR_mk (uR_655 (T := S) (o := o0) rfl) (uR_656 (T := S) (o := o0) rfl) (uR_657 (T := S) (o := o0) rfl) (uR_658 (T := S) (o := o0) rfl) (uR_659 (T := S) (o := o0) rfl) (uR_661 (T := S) (o := o0) rfl))).trans (congrArg (fun q9 => G_X10_difference (AR S o0) q9 (0) (y1)) (qR_mk (tR_664 (T := S) (o := o0) (a := vl) rfl) (tR_667 (T := S) (o := o0) (a := vl) rfl) (tR_668 (T := S) (o := o0) (a := vl) rfl) (tR_669 (T := S) (o := o0) (a := vl) rfl) (tR_670 (T := S) (o := o0) (a := vl) rfl) (tR_671 (T := S) (o := o0) (a := vl) rfl) rfl))).trans hd208
    have hs210 := hx206.2.trans (congrArg Prod.fst hq209)
    obtain rfl : d207.2 = y211 := ((el_w hx206.1).trans (congrArg Prod.snd hq209)).symm
    refine tt_lstore (ks := [0, 1, 2, 3]) (L' := [(5, .long d207.2), (0, .ref o0), (1, .long y1), (3, .long y3)]) dX10_run_214 (by decide) rfl ?_
    refine tt_goto (tgt := 277) dX10_run_216 rfl ?_
    have hF : G_X10_run_p45 (AR S o0) (QR S o0 vl) y1 y3 = G_X10_run_p277 (AR S o0) d207.1 (d207.2) := by
      subst hd208
      exact g_X10_run_p45_10 q101 q112 q123 q134 q145 q156 q167 q178 q189 q200 q201
    exact tt_loc (ks := [1, 0]) rfl (cr_X10_run_p277 hG203 (rr_af hc hA205) (by rw [(aR_mk ((i_af (k := 655) (oa_af h0 hA) hB204).trans (uR_655 (T := S) (o := o0) rfl)) ((i_af (k := 656) (oa_af h0 hA) hB204).trans (uR_656 (T := S) (o := o0) rfl)) ((i_af (k := 657) (oa_af h0 hA) hB204).trans (uR_657 (T := S) (o := o0) rfl)) ((i_af (k := 658) (oa_af h0 hA) hB204).trans (uR_658 (T := S) (o := o0) rfl)) ((i_af (k := 659) (oa_af h0 hA) hB204).trans (uR_659 (T := S) (o := o0) rfl)) ((i_af (k := 661) (oa_af h0 hA) hB204).trans (uR_661 (T := S) (o := o0) rfl)))]; exact hg) (by rw [(aR_mk ((i_af (k := 655) (oa_af h0 hA) hB204).trans (uR_655 (T := S) (o := o0) rfl)) ((i_af (k := 656) (oa_af h0 hA) hB204).trans (uR_656 (T := S) (o := o0) rfl)) ((i_af (k := 657) (oa_af h0 hA) hB204).trans (uR_657 (T := S) (o := o0) rfl)) ((i_af (k := 658) (oa_af h0 hA) hB204).trans (uR_658 (T := S) (o := o0) rfl)) ((i_af (k := 659) (oa_af h0 hA) hB204).trans (uR_659 (T := S) (o := o0) rfl)) ((i_af (k := 661) (oa_af h0 hA) hB204).trans (uR_661 (T := S) (o := o0) rfl)))]; exact ho) (fun r T x y h => hP r T x y (pv_tr hA205 h (by decide) (fun v T e => e.trans (((congrArg (fun q9 => G_X10_run_p277 q9 (QR S202 o0 vl) (d207.2)) (aR_mk ((i_af (k := 655) (oa_af h0 hA) hB204).trans (uR_655 (T := S) (o := o0) rfl)) ((i_af (k := 656) (oa_af h0 hA) hB204).trans (uR_656 (T := S) (o := o0) rfl)) ((i_af (k := 657) (oa_af h0 hA) hB204).trans (uR_657 (T := S) (o := o0) rfl)) ((i_af (k := 658) (oa_af h0 hA) hB204).trans (uR_658 (T := S) (o := o0) rfl)) ((i_af (k := 659) (oa_af h0 hA) hB204).trans (uR_659 (T := S) (o := o0) rfl)) ((i_af (k := 661) (oa_af h0 hA) hB204).trans (uR_661 (T := S) (o := o0) rfl)))).trans (congrArg (fun q9 => G_X10_run_p277 (AR S o0) q9 (d207.2)) (qR_mk (tR_664 hs210) (tR_667 hs210) (tR_668 hs210) (tR_669 hs210) (tR_670 hs210) (tR_671 hs210) (tR_j hs210)))).trans hF.symm)))))
  refine gt_by (c := (u0 (AR S o0)) = 11) (fun q212 => ?_) (fun q212 => ?_)
  · skip
    refine gt_tseqL (off := 170) (tgt := 219) 11 11 dX10_run_49 sl_X10_run_p45_49 q212 rfl (by decide) (by decide) rfl rfl ?_
    refine tt_aload_n (j := 0) dX10_run_219 rfl ?_
    refine tt_lload_n (j := 1) dX10_run_220 rfl ?_
    refine tt_lconst (v := 1) dX10_run_221 rfl ?_
    refine gt_VJ (As := [.long y1, .long 1]) dX10_run_222 ca_X10_354 ⟨by decide, by decide⟩ h0 hA rfl (Nat.le_of_ble_eq_true rfl) (Nat.le_of_ble_eq_true rfl) (by decide) (cr_X10_count hG (rr_af hc hA) (fun _ _ _ _ h => h)) rfl (fun _ h => nomatch h) (fun S213 y222 hx217 hG214 hB215 hA216 => ?_)
    obtain ⟨d218, hd219⟩ : ∃ q, G_X10_count (AR S o0) (QR S o0 vl) (y1) (1) = q := ⟨_, rfl⟩
    have hq220 := ((congrArg (fun q9 => G_X10_count q9 (QR S o0 vl) (y1) (1)) (aR_mk (uR_655 (T := S) (o := o0) rfl) (uR_656 (T := S) (o := o0) rfl) (uR_657 (T := S) (o := o0) rfl) (uR_658 (T := S) (o := o0) rfl) (uR_659 (T := S) (o := o0) rfl) (uR_661 (T := S) (o := o0) rfl))).trans (congrArg (fun q9 => G_X10_count (AR S o0) q9 (y1) (1)) (qR_mk (tR_664 (T := S) (o := o0) (a := vl) rfl) (tR_667 (T := S) (o := o0) (a := vl) rfl) (tR_668 (T := S) (o := o0) (a := vl) rfl) (tR_669 (T := S) (o := o0) (a := vl) rfl) (tR_670 (T := S) (o := o0) (a := vl) rfl) (tR_671 (T := S) (o := o0) (a := vl) rfl) rfl))).trans hd219
    have hs221 := hx217.2.trans (congrArg Prod.fst hq220)
    obtain rfl : d218.2 = y222 := ((el_w hx217.1).trans (congrArg Prod.snd hq220)).symm
    refine tt_lstore (ks := [0, 1, 2, 3]) (L' := [(5, .long d218.2), (0, .ref o0), (1, .long y1), (3, .long y3)]) dX10_run_225 (by decide) rfl ?_
    refine tt_goto (tgt := 277) dX10_run_227 rfl ?_
    have hF : G_X10_run_p45 (AR S o0) (QR S o0 vl) y1 y3 = G_X10_run_p277 (AR S o0) d218.1 (d218.2) := by
      subst hd219
      exact g_X10_run_p45_11 q101 q112 q123 q134 q145 q156 q167 q178 q189 q200 q201 q212
    exact tt_loc (ks := [1, 0]) rfl (cr_X10_run_p277 hG214 (rr_af hc hA216) (by rw [(aR_mk ((i_af (k := 655) (oa_af h0 hA) hB215).trans (uR_655 (T := S) (o := o0) rfl)) ((i_af (k := 656) (oa_af h0 hA) hB215).trans (uR_656 (T := S) (o := o0) rfl)) ((i_af (k := 657) (oa_af h0 hA) hB215).trans (uR_657 (T := S) (o := o0) rfl)) ((i_af (k := 658) (oa_af h0 hA) hB215).trans (uR_658 (T := S) (o := o0) rfl)) ((i_af (k := 659) (oa_af h0 hA) hB215).trans (uR_659 (T := S) (o := o0) rfl)) ((i_af (k := 661) (oa_af h0 hA) hB215).trans (uR_661 (T := S) (o := o0) rfl)))]; exact hg) (by rw [(aR_mk ((i_af (k := 655) (oa_af h0 hA) hB215).trans (uR_655 (T := S) (o := o0) rfl)) ((i_af (k := 656) (oa_af h0 hA) hB215).trans (uR_656 (T := S) (o := o0) rfl)) ((i_af (k := 657) (oa_af h0 hA) hB215).trans (uR_657 (T := S) (o := o0) rfl)) ((i_af (k := 658) (oa_af h0 hA) hB215).trans (uR_658 (T := S) (o := o0) rfl)) ((i_af (k := 659) (oa_af h0 hA) hB215).trans (uR_659 (T := S) (o := o0) rfl)) ((i_af (k := 661) (oa_af h0 hA) hB215).trans (uR_661 (T := S) (o := o0) rfl)))]; exact ho) (fun r T x y h => hP r T x y (pv_tr hA216 h (by decide) (fun v T e => e.trans (((congrArg (fun q9 => G_X10_run_p277 q9 (QR S213 o0 vl) (d218.2)) (aR_mk ((i_af (k := 655) (oa_af h0 hA) hB215).trans (uR_655 (T := S) (o := o0) rfl)) ((i_af (k := 656) (oa_af h0 hA) hB215).trans (uR_656 (T := S) (o := o0) rfl)) ((i_af (k := 657) (oa_af h0 hA) hB215).trans (uR_657 (T := S) (o := o0) rfl)) ((i_af (k := 658) (oa_af h0 hA) hB215).trans (uR_658 (T := S) (o := o0) rfl)) ((i_af (k := 659) (oa_af h0 hA) hB215).trans (uR_659 (T := S) (o := o0) rfl)) ((i_af (k := 661) (oa_af h0 hA) hB215).trans (uR_661 (T := S) (o := o0) rfl)))).trans (congrArg (fun q9 => G_X10_run_p277 (AR S o0) q9 (d218.2)) (qR_mk (tR_664 hs221) (tR_667 hs221) (tR_668 hs221) (tR_669 hs221) (tR_670 hs221) (tR_671 hs221) (tR_j hs221)))).trans hF.symm)))))
  refine gt_by (c := (u0 (AR S o0)) = 12) (fun q223 => ?_) (fun q223 => ?_)
  · skip
    refine gt_tseqL (off := 181) (tgt := 230) 12 12 dX10_run_49 sl_X10_run_p45_49 q223 rfl (by decide) (by decide) rfl rfl ?_
    refine tt_aload_n (j := 0) dX10_run_230 rfl ?_
    refine tt_lload_n (j := 1) dX10_run_231 rfl ?_
    refine tt_ldc2 (v := (-1)) dX10_run_232 kl_10_204 ?_
    refine gt_VJ (As := [.long y1, .long (-1)]) dX10_run_235 ca_X10_354 ⟨by decide, by decide⟩ h0 hA rfl (Nat.le_of_ble_eq_true rfl) (Nat.le_of_ble_eq_true rfl) (by decide) (cr_X10_count hG (rr_af hc hA) (fun _ _ _ _ h => h)) rfl (fun _ h => nomatch h) (fun S224 y233 hx228 hG225 hB226 hA227 => ?_)
    obtain ⟨d229, hd230⟩ : ∃ q, G_X10_count (AR S o0) (QR S o0 vl) (y1) ((-1)) = q := ⟨_, rfl⟩
    have hq231 := ((congrArg (fun q9 => G_X10_count q9 (QR S o0 vl) (y1) ((-1))) (aR_mk (uR_655 (T := S) (o := o0) rfl) (uR_656 (T := S) (o := o0) rfl) (uR_657 (T := S) (o := o0) rfl) (uR_658 (T := S) (o := o0) rfl) (uR_659 (T := S) (o := o0) rfl) (uR_661 (T := S) (o := o0) rfl))).trans (congrArg (fun q9 => G_X10_count (AR S o0) q9 (y1) ((-1))) (qR_mk (tR_664 (T := S) (o := o0) (a := vl) rfl) (tR_667 (T := S) (o := o0) (a := vl) rfl) (tR_668 (T := S) (o := o0) (a := vl) rfl) (tR_669 (T := S) (o := o0) (a := vl) rfl) (tR_670 (T := S) (o := o0) (a := vl) rfl) (tR_671 (T := S) (o := o0) (a := vl) rfl) rfl))).trans hd230
    have hs232 := hx228.2.trans (congrArg Prod.fst hq231)
    obtain rfl : d229.2 = y233 := ((el_w hx228.1).trans (congrArg Prod.snd hq231)).symm
    refine tt_lstore (ks := [0, 1, 2, 3]) (L' := [(5, .long d229.2), (0, .ref o0), (1, .long y1), (3, .long y3)]) dX10_run_238 (by decide) rfl ?_
    refine tt_goto (tgt := 277) dX10_run_240 rfl ?_
    have hF : G_X10_run_p45 (AR S o0) (QR S o0 vl) y1 y3 = G_X10_run_p277 (AR S o0) d229.1 (d229.2) := by
      subst hd230
      exact g_X10_run_p45_12 q101 q112 q123 q134 q145 q156 q167 q178 q189 q200 q201 q212 q223
    exact tt_loc (ks := [1, 0]) rfl (cr_X10_run_p277 hG225 (rr_af hc hA227) (by rw [(aR_mk ((i_af (k := 655) (oa_af h0 hA) hB226).trans (uR_655 (T := S) (o := o0) rfl)) ((i_af (k := 656) (oa_af h0 hA) hB226).trans (uR_656 (T := S) (o := o0) rfl)) ((i_af (k := 657) (oa_af h0 hA) hB226).trans (uR_657 (T := S) (o := o0) rfl)) ((i_af (k := 658) (oa_af h0 hA) hB226).trans (uR_658 (T := S) (o := o0) rfl)) ((i_af (k := 659) (oa_af h0 hA) hB226).trans (uR_659 (T := S) (o := o0) rfl)) ((i_af (k := 661) (oa_af h0 hA) hB226).trans (uR_661 (T := S) (o := o0) rfl)))]; exact hg) (by rw [(aR_mk ((i_af (k := 655) (oa_af h0 hA) hB226).trans (uR_655 (T := S) (o := o0) rfl)) ((i_af (k := 656) (oa_af h0 hA) hB226).trans (uR_656 (T := S) (o := o0) rfl)) ((i_af (k := 657) (oa_af h0 hA) hB226).trans (uR_657 (T := S) (o := o0) rfl)) ((i_af (k := 658) (oa_af h0 hA) hB226).trans (uR_658 (T := S) (o := o0) rfl)) ((i_af (k := 659) (oa_af h0 hA) hB226).trans (uR_659 (T := S) (o := o0) rfl)) ((i_af (k := 661) (oa_af h0 hA) hB226).trans (uR_661 (T := S) (o := o0) rfl)))]; exact ho) (fun r T x y h => hP r T x y (pv_tr hA227 h (by decide) (fun v T e => e.trans (((congrArg (fun q9 => G_X10_run_p277 q9 (QR S224 o0 vl) (d229.2)) (aR_mk ((i_af (k := 655) (oa_af h0 hA) hB226).trans (uR_655 (T := S) (o := o0) rfl)) ((i_af (k := 656) (oa_af h0 hA) hB226).trans (uR_656 (T := S) (o := o0) rfl)) ((i_af (k := 657) (oa_af h0 hA) hB226).trans (uR_657 (T := S) (o := o0) rfl)) ((i_af (k := 658) (oa_af h0 hA) hB226).trans (uR_658 (T := S) (o := o0) rfl)) ((i_af (k := 659) (oa_af h0 hA) hB226).trans (uR_659 (T := S) (o := o0) rfl)) ((i_af (k := 661) (oa_af h0 hA) hB226).trans (uR_661 (T := S) (o := o0) rfl)))).trans (congrArg (fun q9 => G_X10_run_p277 (AR S o0) q9 (d229.2)) (qR_mk (tR_664 hs232) (tR_667 hs232) (tR_668 hs232) (tR_669 hs232) (tR_670 hs232) (tR_671 hs232) (tR_j hs232)))).trans hF.symm)))))
  refine gt_by (c := (u0 (AR S o0)) = 13) (fun q234 => ?_) (fun q234 => ?_)
  · skip
    refine gt_tseqL (off := 194) (tgt := 243) 13 13 dX10_run_49 sl_X10_run_p45_49 q234 rfl (by decide) (by decide) rfl rfl ?_
    refine tt_lload_n (j := 2) dX10_run_243 rfl ?_
    refine tt_lstore (ks := [0, 1, 2, 3]) (L' := [(5, .long y3), (0, .ref o0), (1, .long y1), (3, .long y3)]) dX10_run_244 (by decide) rfl ?_
    refine tt_goto (tgt := 277) dX10_run_246 rfl ?_
    have hF : G_X10_run_p45 (AR S o0) (QR S o0 vl) y1 y3 = G_X10_run_p277 (AR S o0) (QR S o0 vl) (y3) := by
      exact g_X10_run_p45_13 q101 q112 q123 q134 q145 q156 q167 q178 q189 q200 q201 q212 q223 q234
    exact tt_loc (ks := [1, 0]) rfl (cr_X10_run_p277 hG (rr_af hc hA) hg ho (fun r T x y h => hP r T x y (pv_tr hA h (by decide) (fun v T e => e.trans (((congrArg (fun q9 => G_X10_run_p277 q9 (QR S o0 vl) (y3)) (aR_mk (uR_655 (T := S) (o := o0) rfl) (uR_656 (T := S) (o := o0) rfl) (uR_657 (T := S) (o := o0) rfl) (uR_658 (T := S) (o := o0) rfl) (uR_659 (T := S) (o := o0) rfl) (uR_661 (T := S) (o := o0) rfl))).trans (congrArg (fun q9 => G_X10_run_p277 (AR S o0) q9 (y3)) (qR_mk (tR_664 (T := S) (o := o0) (a := vl) rfl) (tR_667 (T := S) (o := o0) (a := vl) rfl) (tR_668 (T := S) (o := o0) (a := vl) rfl) (tR_669 (T := S) (o := o0) (a := vl) rfl) (tR_670 (T := S) (o := o0) (a := vl) rfl) (tR_671 (T := S) (o := o0) (a := vl) rfl) rfl))).trans hF.symm)))))
  refine gt_by (c := (u0 (AR S o0)) = 14) (fun q235 => ?_) (fun q235 => ?_)
  · skip
    refine gt_tseqL (off := 221) (tgt := 270) 14 14 dX10_run_49 sl_X10_run_p45_49 q235 rfl (by decide) (by decide) rfl rfl ?_
    refine tt_aload_n (j := 0) dX10_run_270 rfl ?_
    refine tt_lload_n (j := 1) dX10_run_271 rfl ?_
    refine gt_VJ (As := [.long y1]) dX10_run_272 ca_X10_357 ⟨by decide, by decide⟩ h0 hA rfl (Nat.le_of_ble_eq_true rfl) (Nat.le_of_ble_eq_true rfl) (by decide) (cr_X10_shifted hG (rr_af hc hA) (fun _ _ _ _ h => h)) rfl (fun _ h => nomatch h) (fun S236 y245 hx240 hG237 hB238 hA239 => ?_)
    obtain ⟨d241, hd242⟩ : ∃ q, G_X10_shifted (AR S o0) (QR S o0 vl) (y1) = q := ⟨_, rfl⟩
    have hq243 := ((congrArg (fun q9 => G_X10_shifted q9 (QR S o0 vl) (y1)) (aR_mk (uR_655 (T := S) (o := o0) rfl) (uR_656 (T := S) (o := o0) rfl) (uR_657 (T := S) (o := o0) rfl) (uR_658 (T := S) (o := o0) rfl) (uR_659 (T := S) (o := o0) rfl) (uR_661 (T := S) (o := o0) rfl))).trans (congrArg (fun q9 => G_X10_shifted (AR S o0) q9 (y1)) (qR_mk (tR_664 (T := S) (o := o0) (a := vl) rfl) (tR_667 (T := S) (o := o0) (a := vl) rfl) (tR_668 (T := S) (o := o0) (a := vl) rfl) (tR_669 (T := S) (o := o0) (a := vl) rfl) (tR_670 (T := S) (o := o0) (a := vl) rfl) (tR_671 (T := S) (o := o0) (a := vl) rfl) rfl))).trans hd242
    have hs244 := hx240.2.trans (congrArg Prod.fst hq243)
    obtain rfl : d241.2 = y245 := ((el_w hx240.1).trans (congrArg Prod.snd hq243)).symm
    refine tt_lstore (ks := [0, 1, 2, 3]) (L' := [(5, .long d241.2), (0, .ref o0), (1, .long y1), (3, .long y3)]) dX10_run_275 (by decide) rfl ?_
    have hF : G_X10_run_p45 (AR S o0) (QR S o0 vl) y1 y3 = G_X10_run_p277 (AR S o0) d241.1 (d241.2) := by
      subst hd242
      exact g_X10_run_p45_14 q101 q112 q123 q134 q145 q156 q167 q178 q189 q200 q201 q212 q223 q234 q235
    exact tt_loc (ks := [1, 0]) rfl (cr_X10_run_p277 hG237 (rr_af hc hA239) (by rw [(aR_mk ((i_af (k := 655) (oa_af h0 hA) hB238).trans (uR_655 (T := S) (o := o0) rfl)) ((i_af (k := 656) (oa_af h0 hA) hB238).trans (uR_656 (T := S) (o := o0) rfl)) ((i_af (k := 657) (oa_af h0 hA) hB238).trans (uR_657 (T := S) (o := o0) rfl)) ((i_af (k := 658) (oa_af h0 hA) hB238).trans (uR_658 (T := S) (o := o0) rfl)) ((i_af (k := 659) (oa_af h0 hA) hB238).trans (uR_659 (T := S) (o := o0) rfl)) ((i_af (k := 661) (oa_af h0 hA) hB238).trans (uR_661 (T := S) (o := o0) rfl)))]; exact hg) (by rw [(aR_mk ((i_af (k := 655) (oa_af h0 hA) hB238).trans (uR_655 (T := S) (o := o0) rfl)) ((i_af (k := 656) (oa_af h0 hA) hB238).trans (uR_656 (T := S) (o := o0) rfl)) ((i_af (k := 657) (oa_af h0 hA) hB238).trans (uR_657 (T := S) (o := o0) rfl)) ((i_af (k := 658) (oa_af h0 hA) hB238).trans (uR_658 (T := S) (o := o0) rfl)) ((i_af (k := 659) (oa_af h0 hA) hB238).trans (uR_659 (T := S) (o := o0) rfl)) ((i_af (k := 661) (oa_af h0 hA) hB238).trans (uR_661 (T := S) (o := o0) rfl)))]; exact ho) (fun r T x y h => hP r T x y (pv_tr hA239 h (by decide) (fun v T e => e.trans (((congrArg (fun q9 => G_X10_run_p277 q9 (QR S236 o0 vl) (d241.2)) (aR_mk ((i_af (k := 655) (oa_af h0 hA) hB238).trans (uR_655 (T := S) (o := o0) rfl)) ((i_af (k := 656) (oa_af h0 hA) hB238).trans (uR_656 (T := S) (o := o0) rfl)) ((i_af (k := 657) (oa_af h0 hA) hB238).trans (uR_657 (T := S) (o := o0) rfl)) ((i_af (k := 658) (oa_af h0 hA) hB238).trans (uR_658 (T := S) (o := o0) rfl)) ((i_af (k := 659) (oa_af h0 hA) hB238).trans (uR_659 (T := S) (o := o0) rfl)) ((i_af (k := 661) (oa_af h0 hA) hB238).trans (uR_661 (T := S) (o := o0) rfl)))).trans (congrArg (fun q9 => G_X10_run_p277 (AR S o0) q9 (d241.2)) (qR_mk (tR_664 hs244) (tR_667 hs244) (tR_668 hs244) (tR_669 hs244) (tR_670 hs244) (tR_671 hs244) (tR_j hs244)))).trans hF.symm)))))
  refine gt_by (c := (u0 (AR S o0)) = 15) (fun q246 => ?_) (fun q246 => ?_)
  · skip
    refine gt_tseqL (off := 221) (tgt := 270) 15 15 dX10_run_49 sl_X10_run_p45_49 q246 rfl (by decide) (by decide) rfl rfl ?_
    refine tt_aload_n (j := 0) dX10_run_270 rfl ?_
    refine tt_lload_n (j := 1) dX10_run_271 rfl ?_
    refine gt_VJ (As := [.long y1]) dX10_run_272 ca_X10_357 ⟨by decide, by decide⟩ h0 hA rfl (Nat.le_of_ble_eq_true rfl) (Nat.le_of_ble_eq_true rfl) (by decide) (cr_X10_shifted hG (rr_af hc hA) (fun _ _ _ _ h => h)) rfl (fun _ h => nomatch h) (fun S247 y256 hx251 hG248 hB249 hA250 => ?_)
    obtain ⟨d252, hd253⟩ : ∃ q, G_X10_shifted (AR S o0) (QR S o0 vl) (y1) = q := ⟨_, rfl⟩
    have hq254 := ((congrArg (fun q9 => G_X10_shifted q9 (QR S o0 vl) (y1)) (aR_mk (uR_655 (T := S) (o := o0) rfl) (uR_656 (T := S) (o := o0) rfl) (uR_657 (T := S) (o := o0) rfl) (uR_658 (T := S) (o := o0) rfl) (uR_659 (T := S) (o := o0) rfl) (uR_661 (T := S) (o := o0) rfl))).trans (congrArg (fun q9 => G_X10_shifted (AR S o0) q9 (y1)) (qR_mk (tR_664 (T := S) (o := o0) (a := vl) rfl) (tR_667 (T := S) (o := o0) (a := vl) rfl) (tR_668 (T := S) (o := o0) (a := vl) rfl) (tR_669 (T := S) (o := o0) (a := vl) rfl) (tR_670 (T := S) (o := o0) (a := vl) rfl) (tR_671 (T := S) (o := o0) (a := vl) rfl) rfl))).trans hd253
    have hs255 := hx251.2.trans (congrArg Prod.fst hq254)
    obtain rfl : d252.2 = y256 := ((el_w hx251.1).trans (congrArg Prod.snd hq254)).symm
    refine tt_lstore (ks := [0, 1, 2, 3]) (L' := [(5, .long d252.2), (0, .ref o0), (1, .long y1), (3, .long y3)]) dX10_run_275 (by decide) rfl ?_
    have hF : G_X10_run_p45 (AR S o0) (QR S o0 vl) y1 y3 = G_X10_run_p277 (AR S o0) d252.1 (d252.2) := by
      subst hd253
      exact g_X10_run_p45_15 q101 q112 q123 q134 q145 q156 q167 q178 q189 q200 q201 q212 q223 q234 q235 q246
    exact tt_loc (ks := [1, 0]) rfl (cr_X10_run_p277 hG248 (rr_af hc hA250) (by rw [(aR_mk ((i_af (k := 655) (oa_af h0 hA) hB249).trans (uR_655 (T := S) (o := o0) rfl)) ((i_af (k := 656) (oa_af h0 hA) hB249).trans (uR_656 (T := S) (o := o0) rfl)) ((i_af (k := 657) (oa_af h0 hA) hB249).trans (uR_657 (T := S) (o := o0) rfl)) ((i_af (k := 658) (oa_af h0 hA) hB249).trans (uR_658 (T := S) (o := o0) rfl)) ((i_af (k := 659) (oa_af h0 hA) hB249).trans (uR_659 (T := S) (o := o0) rfl)) ((i_af (k := 661) (oa_af h0 hA) hB249).trans (uR_661 (T := S) (o := o0) rfl)))]; exact hg) (by rw [(aR_mk ((i_af (k := 655) (oa_af h0 hA) hB249).trans (uR_655 (T := S) (o := o0) rfl)) ((i_af (k := 656) (oa_af h0 hA) hB249).trans (uR_656 (T := S) (o := o0) rfl)) ((i_af (k := 657) (oa_af h0 hA) hB249).trans (uR_657 (T := S) (o := o0) rfl)) ((i_af (k := 658) (oa_af h0 hA) hB249).trans (uR_658 (T := S) (o := o0) rfl)) ((i_af (k := 659) (oa_af h0 hA) hB249).trans (uR_659 (T := S) (o := o0) rfl)) ((i_af (k := 661) (oa_af h0 hA) hB249).trans (uR_661 (T := S) (o := o0) rfl)))]; exact ho) (fun r T x y h => hP r T x y (pv_tr hA250 h (by decide) (fun v T e => e.trans (((congrArg (fun q9 => G_X10_run_p277 q9 (QR S247 o0 vl) (d252.2)) (aR_mk ((i_af (k := 655) (oa_af h0 hA) hB249).trans (uR_655 (T := S) (o := o0) rfl)) ((i_af (k := 656) (oa_af h0 hA) hB249).trans (uR_656 (T := S) (o := o0) rfl)) ((i_af (k := 657) (oa_af h0 hA) hB249).trans (uR_657 (T := S) (o := o0) rfl)) ((i_af (k := 658) (oa_af h0 hA) hB249).trans (uR_658 (T := S) (o := o0) rfl)) ((i_af (k := 659) (oa_af h0 hA) hB249).trans (uR_659 (T := S) (o := o0) rfl)) ((i_af (k := 661) (oa_af h0 hA) hB249).trans (uR_661 (T := S) (o := o0) rfl)))).trans (congrArg (fun q9 => G_X10_run_p277 (AR S o0) q9 (d252.2)) (qR_mk (tR_664 hs255) (tR_667 hs255) (tR_668 hs255) (tR_669 hs255) (tR_670 hs255) (tR_671 hs255) (tR_j hs255)))).trans hF.symm)))))
  refine gt_by (c := (u0 (AR S o0)) = 16) (fun q257 => ?_) (fun q257 => ?_)
  · skip
    refine gt_tseqL (off := 221) (tgt := 270) 16 16 dX10_run_49 sl_X10_run_p45_49 q257 rfl (by decide) (by decide) rfl rfl ?_
    refine tt_aload_n (j := 0) dX10_run_270 rfl ?_
    refine tt_lload_n (j := 1) dX10_run_271 rfl ?_
    refine gt_VJ (As := [.long y1]) dX10_run_272 ca_X10_357 ⟨by decide, by decide⟩ h0 hA rfl (Nat.le_of_ble_eq_true rfl) (Nat.le_of_ble_eq_true rfl) (by decide) (cr_X10_shifted hG (rr_af hc hA) (fun _ _ _ _ h => h)) rfl (fun _ h => nomatch h) (fun S258 y267 hx262 hG259 hB260 hA261 => ?_)
    obtain ⟨d263, hd264⟩ : ∃ q, G_X10_shifted (AR S o0) (QR S o0 vl) (y1) = q := ⟨_, rfl⟩
    have hq265 := ((congrArg (fun q9 => G_X10_shifted q9 (QR S o0 vl) (y1)) (aR_mk (uR_655 (T := S) (o := o0) rfl) (uR_656 (T := S) (o := o0) rfl) (uR_657 (T := S) (o := o0) rfl) (uR_658 (T := S) (o := o0) rfl) (uR_659 (T := S) (o := o0) rfl) (uR_661 (T := S) (o := o0) rfl))).trans (congrArg (fun q9 => G_X10_shifted (AR S o0) q9 (y1)) (qR_mk (tR_664 (T := S) (o := o0) (a := vl) rfl) (tR_667 (T := S) (o := o0) (a := vl) rfl) (tR_668 (T := S) (o := o0) (a := vl) rfl) (tR_669 (T := S) (o := o0) (a := vl) rfl) (tR_670 (T := S) (o := o0) (a := vl) rfl) (tR_671 (T := S) (o := o0) (a := vl) rfl) rfl))).trans hd264
    have hs266 := hx262.2.trans (congrArg Prod.fst hq265)
    obtain rfl : d263.2 = y267 := ((el_w hx262.1).trans (congrArg Prod.snd hq265)).symm
    refine tt_lstore (ks := [0, 1, 2, 3]) (L' := [(5, .long d263.2), (0, .ref o0), (1, .long y1), (3, .long y3)]) dX10_run_275 (by decide) rfl ?_
    have hF : G_X10_run_p45 (AR S o0) (QR S o0 vl) y1 y3 = G_X10_run_p277 (AR S o0) d263.1 (d263.2) := by
      subst hd264
      exact g_X10_run_p45_16 q101 q112 q123 q134 q145 q156 q167 q178 q189 q200 q201 q212 q223 q234 q235 q246 q257
    exact tt_loc (ks := [1, 0]) rfl (cr_X10_run_p277 hG259 (rr_af hc hA261) (by rw [(aR_mk ((i_af (k := 655) (oa_af h0 hA) hB260).trans (uR_655 (T := S) (o := o0) rfl)) ((i_af (k := 656) (oa_af h0 hA) hB260).trans (uR_656 (T := S) (o := o0) rfl)) ((i_af (k := 657) (oa_af h0 hA) hB260).trans (uR_657 (T := S) (o := o0) rfl)) ((i_af (k := 658) (oa_af h0 hA) hB260).trans (uR_658 (T := S) (o := o0) rfl)) ((i_af (k := 659) (oa_af h0 hA) hB260).trans (uR_659 (T := S) (o := o0) rfl)) ((i_af (k := 661) (oa_af h0 hA) hB260).trans (uR_661 (T := S) (o := o0) rfl)))]; exact hg) (by rw [(aR_mk ((i_af (k := 655) (oa_af h0 hA) hB260).trans (uR_655 (T := S) (o := o0) rfl)) ((i_af (k := 656) (oa_af h0 hA) hB260).trans (uR_656 (T := S) (o := o0) rfl)) ((i_af (k := 657) (oa_af h0 hA) hB260).trans (uR_657 (T := S) (o := o0) rfl)) ((i_af (k := 658) (oa_af h0 hA) hB260).trans (uR_658 (T := S) (o := o0) rfl)) ((i_af (k := 659) (oa_af h0 hA) hB260).trans (uR_659 (T := S) (o := o0) rfl)) ((i_af (k := 661) (oa_af h0 hA) hB260).trans (uR_661 (T := S) (o := o0) rfl)))]; exact ho) (fun r T x y h => hP r T x y (pv_tr hA261 h (by decide) (fun v T e => e.trans (((congrArg (fun q9 => G_X10_run_p277 q9 (QR S258 o0 vl) (d263.2)) (aR_mk ((i_af (k := 655) (oa_af h0 hA) hB260).trans (uR_655 (T := S) (o := o0) rfl)) ((i_af (k := 656) (oa_af h0 hA) hB260).trans (uR_656 (T := S) (o := o0) rfl)) ((i_af (k := 657) (oa_af h0 hA) hB260).trans (uR_657 (T := S) (o := o0) rfl)) ((i_af (k := 658) (oa_af h0 hA) hB260).trans (uR_658 (T := S) (o := o0) rfl)) ((i_af (k := 659) (oa_af h0 hA) hB260).trans (uR_659 (T := S) (o := o0) rfl)) ((i_af (k := 661) (oa_af h0 hA) hB260).trans (uR_661 (T := S) (o := o0) rfl)))).trans (congrArg (fun q9 => G_X10_run_p277 (AR S o0) q9 (d263.2)) (qR_mk (tR_664 hs266) (tR_667 hs266) (tR_668 hs266) (tR_669 hs266) (tR_670 hs266) (tR_671 hs266) (tR_j hs266)))).trans hF.symm)))))
  refine gt_by (c := (u0 (AR S o0)) = 17) (fun q268 => ?_) (fun q268 => ?_)
  · skip
    refine gt_tseqL (off := 200) (tgt := 249) 17 17 dX10_run_49 sl_X10_run_p45_49 q268 rfl (by decide) (by decide) rfl rfl ?_
    refine tt_aload_n (j := 0) dX10_run_249 rfl ?_
    refine tt_iconst (v := 1) dX10_run_250 rfl ?_
    refine gt_pIj (id := 667) (x := 1) dX10_run_251 fl_10_316 rfl rfl h0 hA rfl rfl rfl (gp_Ir hG (⟨by decide, by decide⟩ : Rg 1 1 1)) (by decide) (fun h => absurd h (by decide)) (fun h => absurd h (by decide)) (fun S269 hG270 hA271 e272 f273 er274 ej275 => ?_)
    refine tt_lload_n (j := 1) dX10_run_254 rfl ?_
    refine tt_lload_n (j := 2) dX10_run_255 rfl ?_
    refine tt_lmul dX10_run_256 ?_
    refine tt_lstore (ks := [0, 1, 2, 3]) (L' := [(5, .long (y1 * y3)), (0, .ref o0), (1, .long y1), (3, .long y3)]) dX10_run_257 (by decide) rfl ?_
    refine tt_goto (tgt := 277) dX10_run_259 rfl ?_
    have hF : G_X10_run_p45 (AR S o0) (QR S o0 vl) y1 y3 = G_X10_run_p277 (AR S o0) ((r0 (QR S o0 vl)), 1, (r2 (QR S o0 vl)), (r3 (QR S o0 vl)), (r4 (QR S o0 vl)), (r5 (QR S o0 vl)), (rA (QR S o0 vl))) ((y1 * y3)) := by
      exact g_X10_run_p45_17 q101 q112 q123 q134 q145 q156 q167 q178 q189 q200 q201 q212 q223 q234 q235 q246 q257 q268
    exact tt_loc (ks := [1, 0]) rfl (cr_X10_run_p277 hG270 (rr_af hc hA271) (by rw [(aR_mk ((congrFun (congrFun e272 655) o0).trans ((congrFun (up2_ne (k := 655)) o0).trans (uR_655 (T := S) (o := o0) rfl))) ((congrFun (congrFun e272 656) o0).trans ((congrFun (up2_ne (k := 656)) o0).trans (uR_656 (T := S) (o := o0) rfl))) ((congrFun (congrFun e272 657) o0).trans ((congrFun (up2_ne (k := 657)) o0).trans (uR_657 (T := S) (o := o0) rfl))) ((congrFun (congrFun e272 658) o0).trans ((congrFun (up2_ne (k := 658)) o0).trans (uR_658 (T := S) (o := o0) rfl))) ((congrFun (congrFun e272 659) o0).trans ((congrFun (up2_ne (k := 659)) o0).trans (uR_659 (T := S) (o := o0) rfl))) ((congrFun (congrFun e272 661) o0).trans ((congrFun (up2_ne (k := 661)) o0).trans (uR_661 (T := S) (o := o0) rfl))))]; exact hg) (by rw [(aR_mk ((congrFun (congrFun e272 655) o0).trans ((congrFun (up2_ne (k := 655)) o0).trans (uR_655 (T := S) (o := o0) rfl))) ((congrFun (congrFun e272 656) o0).trans ((congrFun (up2_ne (k := 656)) o0).trans (uR_656 (T := S) (o := o0) rfl))) ((congrFun (congrFun e272 657) o0).trans ((congrFun (up2_ne (k := 657)) o0).trans (uR_657 (T := S) (o := o0) rfl))) ((congrFun (congrFun e272 658) o0).trans ((congrFun (up2_ne (k := 658)) o0).trans (uR_658 (T := S) (o := o0) rfl))) ((congrFun (congrFun e272 659) o0).trans ((congrFun (up2_ne (k := 659)) o0).trans (uR_659 (T := S) (o := o0) rfl))) ((congrFun (congrFun e272 661) o0).trans ((congrFun (up2_ne (k := 661)) o0).trans (uR_661 (T := S) (o := o0) rfl))))]; exact ho) (fun r T x y h => hP r T x y (pv_tr hA271 h (by decide) (fun v T e => e.trans (((congrArg (fun q9 => G_X10_run_p277 q9 (QR S269 o0 vl) ((y1 * y3))) (aR_mk ((congrFun (congrFun e272 655) o0).trans ((congrFun (up2_ne (k := 655)) o0).trans (uR_655 (T := S) (o := o0) rfl))) ((congrFun (congrFun e272 656) o0).trans ((congrFun (up2_ne (k := 656)) o0).trans (uR_656 (T := S) (o := o0) rfl))) ((congrFun (congrFun e272 657) o0).trans ((congrFun (up2_ne (k := 657)) o0).trans (uR_657 (T := S) (o := o0) rfl))) ((congrFun (congrFun e272 658) o0).trans ((congrFun (up2_ne (k := 658)) o0).trans (uR_658 (T := S) (o := o0) rfl))) ((congrFun (congrFun e272 659) o0).trans ((congrFun (up2_ne (k := 659)) o0).trans (uR_659 (T := S) (o := o0) rfl))) ((congrFun (congrFun e272 661) o0).trans ((congrFun (up2_ne (k := 661)) o0).trans (uR_661 (T := S) (o := o0) rfl))))).trans (congrArg (fun q9 => G_X10_run_p277 (AR S o0) q9 ((y1 * y3))) (qR_mk ((congrFun (congrFun e272 664) o0).trans ((congrFun (up2_ne (k := 664)) o0).trans (tR_664 (T := S) (o := o0) (a := vl) rfl))) (by rw [e272]; exact up2_self) ((congrFun (congrFun e272 668) o0).trans ((congrFun (up2_ne (k := 668)) o0).trans (tR_668 (T := S) (o := o0) (a := vl) rfl))) ((congrFun (congrFun e272 669) o0).trans ((congrFun (up2_ne (k := 669)) o0).trans (tR_669 (T := S) (o := o0) (a := vl) rfl))) ((congrFun (congrFun e272 670) o0).trans ((congrFun (up2_ne (k := 670)) o0).trans (tR_670 (T := S) (o := o0) (a := vl) rfl))) ((congrFun (congrFun e272 671) o0).trans ((congrFun (up2_ne (k := 671)) o0).trans (tR_671 (T := S) (o := o0) (a := vl) rfl))) ((congrFun ej275 vl).trans rfl)))).trans hF.symm)))))
  refine gt_by (c := (u0 (AR S o0)) = 18) (fun q276 => ?_) (fun q276 => ?_)
  · skip
    refine gt_tseqL (off := 213) (tgt := 262) 18 18 dX10_run_49 sl_X10_run_p45_49 q276 rfl (by decide) (by decide) rfl rfl ?_
    refine tt_lload_n (j := 2) dX10_run_262 rfl ?_
    refine tt_l2i dX10_run_263 ?_
    refine tt_i2l dX10_run_264 ?_
    refine tt_lstore (ks := [0, 1, 2, 3]) (L' := [(5, .long ((y3 : Int64).toInt32 : Int32).toInt64), (0, .ref o0), (1, .long y1), (3, .long y3)]) dX10_run_265 (by decide) rfl ?_
    refine tt_goto (tgt := 277) dX10_run_267 rfl ?_
    have hF : G_X10_run_p45 (AR S o0) (QR S o0 vl) y1 y3 = G_X10_run_p277 (AR S o0) (QR S o0 vl) (((y3 : Int64).toInt32 : Int32).toInt64) := by
      exact g_X10_run_p45_18 q101 q112 q123 q134 q145 q156 q167 q178 q189 q200 q201 q212 q223 q234 q235 q246 q257 q268 q276
    exact tt_loc (ks := [1, 0]) rfl (cr_X10_run_p277 hG (rr_af hc hA) hg ho (fun r T x y h => hP r T x y (pv_tr hA h (by decide) (fun v T e => e.trans (((congrArg (fun q9 => G_X10_run_p277 q9 (QR S o0 vl) (((y3 : Int64).toInt32 : Int32).toInt64)) (aR_mk (uR_655 (T := S) (o := o0) rfl) (uR_656 (T := S) (o := o0) rfl) (uR_657 (T := S) (o := o0) rfl) (uR_658 (T := S) (o := o0) rfl) (uR_659 (T := S) (o := o0) rfl) (uR_661 (T := S) (o := o0) rfl))).trans (congrArg (fun q9 => G_X10_run_p277 (AR S o0) q9 (((y3 : Int64).toInt32 : Int32).toInt64)) (qR_mk (tR_664 (T := S) (o := o0) (a := vl) rfl) (tR_667 (T := S) (o := o0) (a := vl) rfl) (tR_668 (T := S) (o := o0) (a := vl) rfl) (tR_669 (T := S) (o := o0) (a := vl) rfl) (tR_670 (T := S) (o := o0) (a := vl) rfl) (tR_671 (T := S) (o := o0) (a := vl) rfl) rfl))).trans hF.symm)))))
  have g277 := ne_i (k := 0) 0 q101 rfl
  have g278 := ne_i (k := 1) 1 q112 rfl
  have g279 := ne_i (k := 2) 2 q123 rfl
  have g280 := ne_i (k := 3) 3 q134 rfl
  have g281 := ne_i (k := 4) 4 q145 rfl
  have g282 := ne_i (k := 5) 5 q156 rfl
  have g283 := ne_i (k := 6) 6 q167 rfl
  have g284 := ne_i (k := 7) 7 q178 rfl
  have g285 := ne_i (k := 8) 8 q189 rfl
  have g286 := ne_i (k := 9) 9 q200 rfl
  have g287 := ne_i (k := 10) 10 q201 rfl
  have g288 := ne_i (k := 11) 11 q212 rfl
  have g289 := ne_i (k := 12) 12 q223 rfl
  have g290 := ne_i (k := 13) 13 q234 rfl
  have g291 := ne_i (k := 14) 14 q235 rfl
  have g292 := ne_i (k := 15) 15 q246 rfl
  have g293 := ne_i (k := 16) 16 q257 rfl
  have g294 := ne_i (k := 17) 17 q268 rfl
  have g295 := ne_i (k := 18) 18 q276 rfl
  refine tt_tableOut (tgt := 270) dX10_run_49 (by omega) rfl ?_
  refine tt_aload_n (j := 0) dX10_run_270 rfl ?_
  refine tt_lload_n (j := 1) dX10_run_271 rfl ?_
  refine gt_VJ (As := [.long y1]) dX10_run_272 ca_X10_357 ⟨by decide, by decide⟩ h0 hA rfl (Nat.le_of_ble_eq_true rfl) (Nat.le_of_ble_eq_true rfl) (by decide) (cr_X10_shifted hG (rr_af hc hA) (fun _ _ _ _ h => h)) rfl (fun _ h => nomatch h) (fun S296 y305 hx300 hG297 hB298 hA299 => ?_)
  obtain ⟨d301, hd302⟩ : ∃ q, G_X10_shifted (AR S o0) (QR S o0 vl) (y1) = q := ⟨_, rfl⟩
  have hq303 := ((congrArg (fun q9 => G_X10_shifted q9 (QR S o0 vl) (y1)) (aR_mk (uR_655 (T := S) (o := o0) rfl) (uR_656 (T := S) (o := o0) rfl) (uR_657 (T := S) (o := o0) rfl) (uR_658 (T := S) (o := o0) rfl) (uR_659 (T := S) (o := o0) rfl) (uR_661 (T := S) (o := o0) rfl))).trans (congrArg (fun q9 => G_X10_shifted (AR S o0) q9 (y1)) (qR_mk (tR_664 (T := S) (o := o0) (a := vl) rfl) (tR_667 (T := S) (o := o0) (a := vl) rfl) (tR_668 (T := S) (o := o0) (a := vl) rfl) (tR_669 (T := S) (o := o0) (a := vl) rfl) (tR_670 (T := S) (o := o0) (a := vl) rfl) (tR_671 (T := S) (o := o0) (a := vl) rfl) rfl))).trans hd302
  have hs304 := hx300.2.trans (congrArg Prod.fst hq303)
  obtain rfl : d301.2 = y305 := ((el_w hx300.1).trans (congrArg Prod.snd hq303)).symm
  refine tt_lstore (ks := [0, 1, 2, 3]) (L' := [(5, .long d301.2), (0, .ref o0), (1, .long y1), (3, .long y3)]) dX10_run_275 (by decide) rfl ?_
  have hF : G_X10_run_p45 (AR S o0) (QR S o0 vl) y1 y3 = G_X10_run_p277 (AR S o0) d301.1 (d301.2) := by
    subst hd302
    exact g_X10_run_p45_19 q101 q112 q123 q134 q145 q156 q167 q178 q189 q200 q201 q212 q223 q234 q235 q246 q257 q268 q276
  exact tt_loc (ks := [1, 0]) rfl (cr_X10_run_p277 hG297 (rr_af hc hA299) (by rw [(aR_mk ((i_af (k := 655) (oa_af h0 hA) hB298).trans (uR_655 (T := S) (o := o0) rfl)) ((i_af (k := 656) (oa_af h0 hA) hB298).trans (uR_656 (T := S) (o := o0) rfl)) ((i_af (k := 657) (oa_af h0 hA) hB298).trans (uR_657 (T := S) (o := o0) rfl)) ((i_af (k := 658) (oa_af h0 hA) hB298).trans (uR_658 (T := S) (o := o0) rfl)) ((i_af (k := 659) (oa_af h0 hA) hB298).trans (uR_659 (T := S) (o := o0) rfl)) ((i_af (k := 661) (oa_af h0 hA) hB298).trans (uR_661 (T := S) (o := o0) rfl)))]; exact hg) (by rw [(aR_mk ((i_af (k := 655) (oa_af h0 hA) hB298).trans (uR_655 (T := S) (o := o0) rfl)) ((i_af (k := 656) (oa_af h0 hA) hB298).trans (uR_656 (T := S) (o := o0) rfl)) ((i_af (k := 657) (oa_af h0 hA) hB298).trans (uR_657 (T := S) (o := o0) rfl)) ((i_af (k := 658) (oa_af h0 hA) hB298).trans (uR_658 (T := S) (o := o0) rfl)) ((i_af (k := 659) (oa_af h0 hA) hB298).trans (uR_659 (T := S) (o := o0) rfl)) ((i_af (k := 661) (oa_af h0 hA) hB298).trans (uR_661 (T := S) (o := o0) rfl)))]; exact ho) (fun r T x y h => hP r T x y (pv_tr hA299 h (by decide) (fun v T e => e.trans (((congrArg (fun q9 => G_X10_run_p277 q9 (QR S296 o0 vl) (d301.2)) (aR_mk ((i_af (k := 655) (oa_af h0 hA) hB298).trans (uR_655 (T := S) (o := o0) rfl)) ((i_af (k := 656) (oa_af h0 hA) hB298).trans (uR_656 (T := S) (o := o0) rfl)) ((i_af (k := 657) (oa_af h0 hA) hB298).trans (uR_657 (T := S) (o := o0) rfl)) ((i_af (k := 658) (oa_af h0 hA) hB298).trans (uR_658 (T := S) (o := o0) rfl)) ((i_af (k := 659) (oa_af h0 hA) hB298).trans (uR_659 (T := S) (o := o0) rfl)) ((i_af (k := 661) (oa_af h0 hA) hB298).trans (uR_661 (T := S) (o := o0) rfl)))).trans (congrArg (fun q9 => G_X10_run_p277 (AR S o0) q9 (d301.2)) (qR_mk (tR_664 hs304) (tR_667 hs304) (tR_668 hs304) (tR_669 hs304) (tR_670 hs304) (tR_671 hs304) (tR_j hs304)))).trans hF.symm)))))
def G_X10_run (q : AU) (j : Int64) (w : RS) : RS :=
  if (u3 q) < 0 then
    G_X10_run_p45 q w ((G_X10_cutDown q w (((rA w) ((u2 q) : Int32).toNatClampNeg)))) ((G_X10_cutDown q w (j)))
  else
    G_X10_run_p45 q w ((G_X10_cutDown q w (((rA w) ((u2 q) : Int32).toNatClampNeg)))) ((G_X10_cutDown q w (((rA w) ((u3 q) : Int32).toNatClampNeg))))
theorem g_X10_run_0 {q : AU} {j : Int64} {w : RS} (h0 : (u3 q) < 0) : G_X10_run q j w  = G_X10_run_p45 q w ((G_X10_cutDown q w (((rA w) ((u2 q) : Int32).toNatClampNeg)))) ((G_X10_cutDown q w (j))) := by unfold G_X10_run; exact if_pos h0
theorem g_X10_run_1 {q : AU} {j : Int64} {w : RS} (h0 : ¬ (u3 q) < 0) : G_X10_run q j w  = G_X10_run_p45 q w ((G_X10_cutDown q w (((rA w) ((u2 q) : Int32).toNatClampNeg)))) ((G_X10_cutDown q w (((rA w) ((u3 q) : Int32).toNatClampNeg)))) := by unfold G_X10_run; exact if_neg h0
set_option maxHeartbeats 40000000 in
theorem cr_X10_run {xi : SX} {S : Hp} {E : List Nat} {kc nc : Nat} {P : Po} {o0 : Nat} {vl : Nat} {bs : Nat → Int32} {n : Int32} (hG : GI S E) (hc : RRx S E o0 vl bs n) (hg : Rg 0 23 (u2 (AR S o0))) (ho : Rg (-1) 23 (u3 (AR S o0))) (hP : ∀ r T x y, PV E [667, 668, 669, 670, 671, 9990] S kc nc rV (fun v T => QR T o0 vl = G_X10_run (AR S o0) (hp_J S 660 o0) (QR S o0 vl) ) [] r T x y → P r T x y) : TT xi M_X10_run 0 [(0, .ref o0)] [] S kc nc P := by
  obtain ⟨h0, hrv, hov, hb, rfl⟩ := id hc
  have hA : Af E [667, 668, 669, 670, 671, 9990] S S := af_rf
  refine tt_aload_n (j := 0) dX10_run_0 rfl ?_
  refine tt_aload_n (j := 0) dX10_run_1 rfl ?_
  refine gt_gR (id := 666) dX10_run_2 fl_10_52 rfl rfl h0 hA hrv ?_
  refine tt_aload_n (j := 0) dX10_run_5 rfl ?_
  refine gt_gI (id := 657) (v := (u2 (AR S o0))) dX10_run_6 fl_10_110 rfl rfl h0 hA (uR_657 (T := S) (o := o0) rfl) ?_
  refine gt_lLv (v := ((rA (QR S o0 vl)) ((u2 (AR S o0)) : Int32).toNatClampNeg)) dX10_run_9 hov hA (rg_in hg) (congrFun (show hp_j S vl = (rA (QR S o0 vl)) from rfl) _) ?_
  refine gt_VJp (As := [.long ((rA (QR S o0 vl)) ((u2 (AR S o0)) : Int32).toNatClampNeg)]) dX10_run_10 ca_X10_333 ⟨by decide, by decide⟩ h0 hA rfl (Nat.le_of_ble_eq_true rfl) (Nat.le_of_ble_eq_true rfl) (by decide) (cr_X10_cutDown hG (rr_af hc hA) (fun _ _ _ _ h => h)) rfl (fun _ h => nomatch h) (fun _ _ q => q.1) (fun y101 hx103 => ?_)
  obtain rfl : G_X10_cutDown (AR S o0) (QR S o0 vl) (((rA (QR S o0 vl)) ((u2 (AR S o0)) : Int32).toNatClampNeg)) = y101 := ((el_w hx103.2).trans ((congrArg (fun q9 => G_X10_cutDown q9 (QR S o0 vl) (((rA (QR S o0 vl)) ((u2 (AR S o0)) : Int32).toNatClampNeg))) (aR_mk (uR_655 (T := S) (o := o0) rfl) (uR_656 (T := S) (o := o0) rfl) (uR_657 (T := S) (o := o0) rfl) (uR_658 (T := S) (o := o0) rfl) (uR_659 (T := S) (o := o0) rfl) (uR_661 (T := S) (o := o0) rfl))).trans (congrArg (fun q9 => G_X10_cutDown (AR S o0) q9 (((rA (QR S o0 vl)) ((u2 (AR S o0)) : Int32).toNatClampNeg))) (qR_mk (tR_664 (T := S) (o := o0) (a := vl) rfl) (tR_667 (T := S) (o := o0) (a := vl) rfl) (tR_668 (T := S) (o := o0) (a := vl) rfl) (tR_669 (T := S) (o := o0) (a := vl) rfl) (tR_670 (T := S) (o := o0) (a := vl) rfl) (tR_671 (T := S) (o := o0) (a := vl) rfl) rfl)))).symm
  refine tt_lstore_n (ks := [0, 1]) (L' := [(1, .long (G_X10_cutDown (AR S o0) (QR S o0 vl) (((rA (QR S o0 vl)) ((u2 (AR S o0)) : Int32).toNatClampNeg)))), (0, .ref o0)]) dX10_run_13 (by decide) rfl ?_
  refine tt_aload_n (j := 1) dX10_run_14 rfl ?_
  refine tt_aload_n (j := 1) dX10_run_15 rfl ?_
  refine gt_gI (id := 658) (v := (u3 (AR S o0))) dX10_run_16 fl_10_113 rfl rfl h0 hA (uR_658 (T := S) (o := o0) rfl) ?_
  refine tt_if_lt (tgt := 34) dX10_run_19 rfl (fun q104 => ?_) (fun q104 => ?_)
  · skip
    have h105 : Rg (-1) (-1) (u3 (AR S o0)) := rg_lt_l ho (⟨by decide, by decide⟩ : Rg 0 0 0) q104
    refine tt_aload_n (j := 1) dX10_run_34 rfl ?_
    refine gt_gJ (id := 660) (v := (hp_J S 660 o0)) dX10_run_35 fl_10_116 rfl rfl h0 hA rfl ?_
    refine gt_VJp (As := [.long (hp_J S 660 o0)]) dX10_run_38 ca_X10_333 ⟨by decide, by decide⟩ h0 hA rfl (Nat.le_of_ble_eq_true rfl) (Nat.le_of_ble_eq_true rfl) (by decide) (cr_X10_cutDown hG (rr_af hc hA) (fun _ _ _ _ h => h)) rfl (fun _ h => nomatch h) (fun _ _ q => q.1) (fun y106 hx108 => ?_)
    obtain rfl : G_X10_cutDown (AR S o0) (QR S o0 vl) ((hp_J S 660 o0)) = y106 := ((el_w hx108.2).trans ((congrArg (fun q9 => G_X10_cutDown q9 (QR S o0 vl) ((hp_J S 660 o0))) (aR_mk (uR_655 (T := S) (o := o0) rfl) (uR_656 (T := S) (o := o0) rfl) (uR_657 (T := S) (o := o0) rfl) (uR_658 (T := S) (o := o0) rfl) (uR_659 (T := S) (o := o0) rfl) (uR_661 (T := S) (o := o0) rfl))).trans (congrArg (fun q9 => G_X10_cutDown (AR S o0) q9 ((hp_J S 660 o0))) (qR_mk (tR_664 (T := S) (o := o0) (a := vl) rfl) (tR_667 (T := S) (o := o0) (a := vl) rfl) (tR_668 (T := S) (o := o0) (a := vl) rfl) (tR_669 (T := S) (o := o0) (a := vl) rfl) (tR_670 (T := S) (o := o0) (a := vl) rfl) (tR_671 (T := S) (o := o0) (a := vl) rfl) rfl)))).symm
    refine tt_lstore_n (ks := [0, 1, 2]) (L' := [(3, .long (G_X10_cutDown (AR S o0) (QR S o0 vl) ((hp_J S 660 o0)))), (1, .long (G_X10_cutDown (AR S o0) (QR S o0 vl) (((rA (QR S o0 vl)) ((u2 (AR S o0)) : Int32).toNatClampNeg)))), (0, .ref o0)]) dX10_run_41 (by decide) rfl ?_
    refine tt_lconst (v := 0) dX10_run_42 rfl ?_
    refine tt_lstore (ks := [0, 1, 2, 3]) (L' := [(5, .long 0), (3, .long (G_X10_cutDown (AR S o0) (QR S o0 vl) ((hp_J S 660 o0)))), (1, .long (G_X10_cutDown (AR S o0) (QR S o0 vl) (((rA (QR S o0 vl)) ((u2 (AR S o0)) : Int32).toNatClampNeg)))), (0, .ref o0)]) dX10_run_43 (by decide) rfl ?_
    have hF : G_X10_run (AR S o0) (hp_J S 660 o0) (QR S o0 vl)  = G_X10_run_p45 (AR S o0) (QR S o0 vl) ((G_X10_cutDown (AR S o0) (QR S o0 vl) (((rA (QR S o0 vl)) ((u2 (AR S o0)) : Int32).toNatClampNeg)))) ((G_X10_cutDown (AR S o0) (QR S o0 vl) ((hp_J S 660 o0)))) := by
      exact g_X10_run_0 q104
    exact tt_loc (ks := [3, 2, 1]) rfl (cr_X10_run_p45 hG (rr_af hc hA) hg ho (fun r T x y h => hP r T x y (pv_tr hA h (by decide) (fun v T e => e.trans (((congrArg (fun q9 => G_X10_run_p45 q9 (QR S o0 vl) ((G_X10_cutDown (AR S o0) (QR S o0 vl) (((rA (QR S o0 vl)) ((u2 (AR S o0)) : Int32).toNatClampNeg)))) ((G_X10_cutDown (AR S o0) (QR S o0 vl) ((hp_J S 660 o0))))) (aR_mk (uR_655 (T := S) (o := o0) rfl) (uR_656 (T := S) (o := o0) rfl) (uR_657 (T := S) (o := o0) rfl) (uR_658 (T := S) (o := o0) rfl) (uR_659 (T := S) (o := o0) rfl) (uR_661 (T := S) (o := o0) rfl))).trans (congrArg (fun q9 => G_X10_run_p45 (AR S o0) q9 ((G_X10_cutDown (AR S o0) (QR S o0 vl) (((rA (QR S o0 vl)) ((u2 (AR S o0)) : Int32).toNatClampNeg)))) ((G_X10_cutDown (AR S o0) (QR S o0 vl) ((hp_J S 660 o0))))) (qR_mk (tR_664 (T := S) (o := o0) (a := vl) rfl) (tR_667 (T := S) (o := o0) (a := vl) rfl) (tR_668 (T := S) (o := o0) (a := vl) rfl) (tR_669 (T := S) (o := o0) (a := vl) rfl) (tR_670 (T := S) (o := o0) (a := vl) rfl) (tR_671 (T := S) (o := o0) (a := vl) rfl) rfl))).trans hF.symm)))))
  · skip
    have h109 : Rg 0 23 (u3 (AR S o0)) := rg_le_r (⟨by decide, by decide⟩ : Rg 0 0 0) ho (nlt_le q104)
    refine tt_aload_n (j := 1) dX10_run_22 rfl ?_
    refine gt_gR (id := 666) dX10_run_23 fl_10_52 rfl rfl h0 hA hrv ?_
    refine tt_aload_n (j := 1) dX10_run_26 rfl ?_
    refine gt_gI (id := 658) (v := (u3 (AR S o0))) dX10_run_27 fl_10_113 rfl rfl h0 hA (uR_658 (T := S) (o := o0) rfl) ?_
    refine gt_lLv (v := ((rA (QR S o0 vl)) ((u3 (AR S o0)) : Int32).toNatClampNeg)) dX10_run_30 hov hA (rg_in h109) (congrFun (show hp_j S vl = (rA (QR S o0 vl)) from rfl) _) ?_
    refine tt_goto (tgt := 38) dX10_run_31 rfl ?_
    refine gt_VJp (As := [.long ((rA (QR S o0 vl)) ((u3 (AR S o0)) : Int32).toNatClampNeg)]) dX10_run_38 ca_X10_333 ⟨by decide, by decide⟩ h0 hA rfl (Nat.le_of_ble_eq_true rfl) (Nat.le_of_ble_eq_true rfl) (by decide) (cr_X10_cutDown hG (rr_af hc hA) (fun _ _ _ _ h => h)) rfl (fun _ h => nomatch h) (fun _ _ q => q.1) (fun y110 hx112 => ?_)
    obtain rfl : G_X10_cutDown (AR S o0) (QR S o0 vl) (((rA (QR S o0 vl)) ((u3 (AR S o0)) : Int32).toNatClampNeg)) = y110 := ((el_w hx112.2).trans ((congrArg (fun q9 => G_X10_cutDown q9 (QR S o0 vl) (((rA (QR S o0 vl)) ((u3 (AR S o0)) : Int32).toNatClampNeg))) (aR_mk (uR_655 (T := S) (o := o0) rfl) (uR_656 (T := S) (o := o0) rfl) (uR_657 (T := S) (o := o0) rfl) (uR_658 (T := S) (o := o0) rfl) (uR_659 (T := S) (o := o0) rfl) (uR_661 (T := S) (o := o0) rfl))).trans (congrArg (fun q9 => G_X10_cutDown (AR S o0) q9 (((rA (QR S o0 vl)) ((u3 (AR S o0)) : Int32).toNatClampNeg))) (qR_mk (tR_664 (T := S) (o := o0) (a := vl) rfl) (tR_667 (T := S) (o := o0) (a := vl) rfl) (tR_668 (T := S) (o := o0) (a := vl) rfl) (tR_669 (T := S) (o := o0) (a := vl) rfl) (tR_670 (T := S) (o := o0) (a := vl) rfl) (tR_671 (T := S) (o := o0) (a := vl) rfl) rfl)))).symm
    refine tt_lstore_n (ks := [0, 1, 2]) (L' := [(3, .long (G_X10_cutDown (AR S o0) (QR S o0 vl) (((rA (QR S o0 vl)) ((u3 (AR S o0)) : Int32).toNatClampNeg)))), (1, .long (G_X10_cutDown (AR S o0) (QR S o0 vl) (((rA (QR S o0 vl)) ((u2 (AR S o0)) : Int32).toNatClampNeg)))), (0, .ref o0)]) dX10_run_41 (by decide) rfl ?_
    refine tt_lconst (v := 0) dX10_run_42 rfl ?_
    refine tt_lstore (ks := [0, 1, 2, 3]) (L' := [(5, .long 0), (3, .long (G_X10_cutDown (AR S o0) (QR S o0 vl) (((rA (QR S o0 vl)) ((u3 (AR S o0)) : Int32).toNatClampNeg)))), (1, .long (G_X10_cutDown (AR S o0) (QR S o0 vl) (((rA (QR S o0 vl)) ((u2 (AR S o0)) : Int32).toNatClampNeg)))), (0, .ref o0)]) dX10_run_43 (by decide) rfl ?_
    have hF : G_X10_run (AR S o0) (hp_J S 660 o0) (QR S o0 vl)  = G_X10_run_p45 (AR S o0) (QR S o0 vl) ((G_X10_cutDown (AR S o0) (QR S o0 vl) (((rA (QR S o0 vl)) ((u2 (AR S o0)) : Int32).toNatClampNeg)))) ((G_X10_cutDown (AR S o0) (QR S o0 vl) (((rA (QR S o0 vl)) ((u3 (AR S o0)) : Int32).toNatClampNeg)))) := by
      exact g_X10_run_1 q104
    exact tt_loc (ks := [3, 2, 1]) rfl (cr_X10_run_p45 hG (rr_af hc hA) hg ho (fun r T x y h => hP r T x y (pv_tr hA h (by decide) (fun v T e => e.trans (((congrArg (fun q9 => G_X10_run_p45 q9 (QR S o0 vl) ((G_X10_cutDown (AR S o0) (QR S o0 vl) (((rA (QR S o0 vl)) ((u2 (AR S o0)) : Int32).toNatClampNeg)))) ((G_X10_cutDown (AR S o0) (QR S o0 vl) (((rA (QR S o0 vl)) ((u3 (AR S o0)) : Int32).toNatClampNeg))))) (aR_mk (uR_655 (T := S) (o := o0) rfl) (uR_656 (T := S) (o := o0) rfl) (uR_657 (T := S) (o := o0) rfl) (uR_658 (T := S) (o := o0) rfl) (uR_659 (T := S) (o := o0) rfl) (uR_661 (T := S) (o := o0) rfl))).trans (congrArg (fun q9 => G_X10_run_p45 (AR S o0) q9 ((G_X10_cutDown (AR S o0) (QR S o0 vl) (((rA (QR S o0 vl)) ((u2 (AR S o0)) : Int32).toNatClampNeg)))) ((G_X10_cutDown (AR S o0) (QR S o0 vl) (((rA (QR S o0 vl)) ((u3 (AR S o0)) : Int32).toNatClampNeg))))) (qR_mk (tR_664 (T := S) (o := o0) (a := vl) rfl) (tR_667 (T := S) (o := o0) (a := vl) rfl) (tR_668 (T := S) (o := o0) (a := vl) rfl) (tR_669 (T := S) (o := o0) (a := vl) rfl) (tR_670 (T := S) (o := o0) (a := vl) rfl) (tR_671 (T := S) (o := o0) (a := vl) rfl) rfl))).trans hF.symm)))))
theorem sl_X10_holds_3 : (#[41, 49, 57, 65, 88, 116, 96] : Array Int).toList = [41, 49, 57, 65, 88, 116, 96] := rfl
def G_X10_holds (q : AU) (w : RS) (x1 : Int32) : Int32 :=
  if (x1 / 2) = 0 then
    if (x1 - x1 / 2 * 2) = 0 then
      if (r5 w) = 1 then
        1
      else
        0
    else
      if (r5 w) = 0 then
        1
      else
        0
  else
    if (x1 / 2) = 1 then
      if (x1 - x1 / 2 * 2) = 0 then
        if (r4 w) = 1 then
          1
        else
          0
      else
        if (r4 w) = 0 then
          1
        else
          0
    else
      if (x1 / 2) = 2 then
        if (x1 - x1 / 2 * 2) = 0 then
          if (r2 w) = 1 then
            1
          else
            0
        else
          if (r2 w) = 0 then
            1
          else
            0
      else
        if (x1 / 2) = 3 then
          if (r4 w) = 0 then
            if (r2 w) = 0 then
              if (x1 - x1 / 2 * 2) = 0 then
                0
              else
                1
            else
              if (x1 - x1 / 2 * 2) = 0 then
                1
              else
                0
          else
            if (x1 - x1 / 2 * 2) = 0 then
              1
            else
              0
        else
          if (x1 / 2) = 4 then
            if (x1 - x1 / 2 * 2) = 0 then
              if (r3 w) = 1 then
                1
              else
                0
            else
              if (r3 w) = 0 then
                1
              else
                0
          else
            if (x1 / 2) = 5 then
              if (r2 w) = 0 then
                if (r3 w) = (r5 w) then
                  if (x1 - x1 / 2 * 2) = 0 then
                    0
                  else
                    1
                else
                  if (x1 - x1 / 2 * 2) = 0 then
                    1
                  else
                    0
              else
                if (x1 - x1 / 2 * 2) = 0 then
                  1
                else
                  0
            else
              if (x1 / 2) = 6 then
                if (r3 w) = (r5 w) then
                  if (x1 - x1 / 2 * 2) = 0 then
                    0
                  else
                    1
                else
                  if (x1 - x1 / 2 * 2) = 0 then
                    1
                  else
                    0
              else
                if (r2 w) = 0 then
                  if (r3 w) = (r5 w) then
                    if (x1 - x1 / 2 * 2) = 0 then
                      0
                    else
                      1
                  else
                    if (x1 - x1 / 2 * 2) = 0 then
                      1
                    else
                      0
                else
                  if (x1 - x1 / 2 * 2) = 0 then
                    1
                  else
                    0
theorem g_X10_holds_0 {q : AU} {w : RS} {x1 : Int32} (h0 : (x1 / 2) = 0) (h1 : (x1 - x1 / 2 * 2) = 0) (h2 : (r5 w) = 1) : G_X10_holds q w x1 = 1 := by unfold G_X10_holds; exact Eq.trans (if_pos h0) (Eq.trans (if_pos h1) (if_pos h2))
theorem g_X10_holds_1 {q : AU} {w : RS} {x1 : Int32} (h0 : (x1 / 2) = 0) (h1 : (x1 - x1 / 2 * 2) = 0) (h2 : ¬ (r5 w) = 1) : G_X10_holds q w x1 = 0 := by unfold G_X10_holds; exact Eq.trans (if_pos h0) (Eq.trans (if_pos h1) (if_neg h2))
theorem g_X10_holds_2 {q : AU} {w : RS} {x1 : Int32} (h0 : (x1 / 2) = 0) (h1 : ¬ (x1 - x1 / 2 * 2) = 0) (h2 : (r5 w) = 0) : G_X10_holds q w x1 = 1 := by unfold G_X10_holds; exact Eq.trans (if_pos h0) (Eq.trans (if_neg h1) (if_pos h2))
theorem g_X10_holds_3 {q : AU} {w : RS} {x1 : Int32} (h0 : (x1 / 2) = 0) (h1 : ¬ (x1 - x1 / 2 * 2) = 0) (h2 : ¬ (r5 w) = 0) : G_X10_holds q w x1 = 0 := by unfold G_X10_holds; exact Eq.trans (if_pos h0) (Eq.trans (if_neg h1) (if_neg h2))
theorem g_X10_holds_4 {q : AU} {w : RS} {x1 : Int32} (h0 : ¬ (x1 / 2) = 0) (h1 : (x1 / 2) = 1) (h2 : (x1 - x1 / 2 * 2) = 0) (h3 : (r4 w) = 1) : G_X10_holds q w x1 = 1 := by unfold G_X10_holds; exact Eq.trans (if_neg h0) (Eq.trans (if_pos h1) (Eq.trans (if_pos h2) (if_pos h3)))
theorem g_X10_holds_5 {q : AU} {w : RS} {x1 : Int32} (h0 : ¬ (x1 / 2) = 0) (h1 : (x1 / 2) = 1) (h2 : (x1 - x1 / 2 * 2) = 0) (h3 : ¬ (r4 w) = 1) : G_X10_holds q w x1 = 0 := by unfold G_X10_holds; exact Eq.trans (if_neg h0) (Eq.trans (if_pos h1) (Eq.trans (if_pos h2) (if_neg h3)))
theorem g_X10_holds_6 {q : AU} {w : RS} {x1 : Int32} (h0 : ¬ (x1 / 2) = 0) (h1 : (x1 / 2) = 1) (h2 : ¬ (x1 - x1 / 2 * 2) = 0) (h3 : (r4 w) = 0) : G_X10_holds q w x1 = 1 := by unfold G_X10_holds; exact Eq.trans (if_neg h0) (Eq.trans (if_pos h1) (Eq.trans (if_neg h2) (if_pos h3)))
theorem g_X10_holds_7 {q : AU} {w : RS} {x1 : Int32} (h0 : ¬ (x1 / 2) = 0) (h1 : (x1 / 2) = 1) (h2 : ¬ (x1 - x1 / 2 * 2) = 0) (h3 : ¬ (r4 w) = 0) : G_X10_holds q w x1 = 0 := by unfold G_X10_holds; exact Eq.trans (if_neg h0) (Eq.trans (if_pos h1) (Eq.trans (if_neg h2) (if_neg h3)))
theorem g_X10_holds_8 {q : AU} {w : RS} {x1 : Int32} (h0 : ¬ (x1 / 2) = 0) (h1 : ¬ (x1 / 2) = 1) (h2 : (x1 / 2) = 2) (h3 : (x1 - x1 / 2 * 2) = 0) (h4 : (r2 w) = 1) : G_X10_holds q w x1 = 1 := by unfold G_X10_holds; exact Eq.trans (if_neg h0) (Eq.trans (if_neg h1) (Eq.trans (if_pos h2) (Eq.trans (if_pos h3) (if_pos h4))))
theorem g_X10_holds_9 {q : AU} {w : RS} {x1 : Int32} (h0 : ¬ (x1 / 2) = 0) (h1 : ¬ (x1 / 2) = 1) (h2 : (x1 / 2) = 2) (h3 : (x1 - x1 / 2 * 2) = 0) (h4 : ¬ (r2 w) = 1) : G_X10_holds q w x1 = 0 := by unfold G_X10_holds; exact Eq.trans (if_neg h0) (Eq.trans (if_neg h1) (Eq.trans (if_pos h2) (Eq.trans (if_pos h3) (if_neg h4))))
theorem g_X10_holds_10 {q : AU} {w : RS} {x1 : Int32} (h0 : ¬ (x1 / 2) = 0) (h1 : ¬ (x1 / 2) = 1) (h2 : (x1 / 2) = 2) (h3 : ¬ (x1 - x1 / 2 * 2) = 0) (h4 : (r2 w) = 0) : G_X10_holds q w x1 = 1 := by unfold G_X10_holds; exact Eq.trans (if_neg h0) (Eq.trans (if_neg h1) (Eq.trans (if_pos h2) (Eq.trans (if_neg h3) (if_pos h4))))
theorem g_X10_holds_11 {q : AU} {w : RS} {x1 : Int32} (h0 : ¬ (x1 / 2) = 0) (h1 : ¬ (x1 / 2) = 1) (h2 : (x1 / 2) = 2) (h3 : ¬ (x1 - x1 / 2 * 2) = 0) (h4 : ¬ (r2 w) = 0) : G_X10_holds q w x1 = 0 := by unfold G_X10_holds; exact Eq.trans (if_neg h0) (Eq.trans (if_neg h1) (Eq.trans (if_pos h2) (Eq.trans (if_neg h3) (if_neg h4))))
theorem g_X10_holds_12 {q : AU} {w : RS} {x1 : Int32} (h0 : ¬ (x1 / 2) = 0) (h1 : ¬ (x1 / 2) = 1) (h2 : ¬ (x1 / 2) = 2) (h3 : (x1 / 2) = 3) (h4 : (r4 w) = 0) (h5 : (r2 w) = 0) (h6 : (x1 - x1 / 2 * 2) = 0) : G_X10_holds q w x1 = 0 := by unfold G_X10_holds; exact Eq.trans (if_neg h0) (Eq.trans (if_neg h1) (Eq.trans (if_neg h2) (Eq.trans (if_pos h3) (Eq.trans (if_pos h4) (Eq.trans (if_pos h5) (if_pos h6))))))
theorem g_X10_holds_13 {q : AU} {w : RS} {x1 : Int32} (h0 : ¬ (x1 / 2) = 0) (h1 : ¬ (x1 / 2) = 1) (h2 : ¬ (x1 / 2) = 2) (h3 : (x1 / 2) = 3) (h4 : (r4 w) = 0) (h5 : (r2 w) = 0) (h6 : ¬ (x1 - x1 / 2 * 2) = 0) : G_X10_holds q w x1 = 1 := by unfold G_X10_holds; exact Eq.trans (if_neg h0) (Eq.trans (if_neg h1) (Eq.trans (if_neg h2) (Eq.trans (if_pos h3) (Eq.trans (if_pos h4) (Eq.trans (if_pos h5) (if_neg h6))))))
theorem g_X10_holds_14 {q : AU} {w : RS} {x1 : Int32} (h0 : ¬ (x1 / 2) = 0) (h1 : ¬ (x1 / 2) = 1) (h2 : ¬ (x1 / 2) = 2) (h3 : (x1 / 2) = 3) (h4 : (r4 w) = 0) (h5 : ¬ (r2 w) = 0) (h6 : (x1 - x1 / 2 * 2) = 0) : G_X10_holds q w x1 = 1 := by unfold G_X10_holds; exact Eq.trans (if_neg h0) (Eq.trans (if_neg h1) (Eq.trans (if_neg h2) (Eq.trans (if_pos h3) (Eq.trans (if_pos h4) (Eq.trans (if_neg h5) (if_pos h6))))))
theorem g_X10_holds_15 {q : AU} {w : RS} {x1 : Int32} (h0 : ¬ (x1 / 2) = 0) (h1 : ¬ (x1 / 2) = 1) (h2 : ¬ (x1 / 2) = 2) (h3 : (x1 / 2) = 3) (h4 : (r4 w) = 0) (h5 : ¬ (r2 w) = 0) (h6 : ¬ (x1 - x1 / 2 * 2) = 0) : G_X10_holds q w x1 = 0 := by unfold G_X10_holds; exact Eq.trans (if_neg h0) (Eq.trans (if_neg h1) (Eq.trans (if_neg h2) (Eq.trans (if_pos h3) (Eq.trans (if_pos h4) (Eq.trans (if_neg h5) (if_neg h6))))))
theorem g_X10_holds_16 {q : AU} {w : RS} {x1 : Int32} (h0 : ¬ (x1 / 2) = 0) (h1 : ¬ (x1 / 2) = 1) (h2 : ¬ (x1 / 2) = 2) (h3 : (x1 / 2) = 3) (h4 : ¬ (r4 w) = 0) (h5 : (x1 - x1 / 2 * 2) = 0) : G_X10_holds q w x1 = 1 := by unfold G_X10_holds; exact Eq.trans (if_neg h0) (Eq.trans (if_neg h1) (Eq.trans (if_neg h2) (Eq.trans (if_pos h3) (Eq.trans (if_neg h4) (if_pos h5)))))
theorem g_X10_holds_17 {q : AU} {w : RS} {x1 : Int32} (h0 : ¬ (x1 / 2) = 0) (h1 : ¬ (x1 / 2) = 1) (h2 : ¬ (x1 / 2) = 2) (h3 : (x1 / 2) = 3) (h4 : ¬ (r4 w) = 0) (h5 : ¬ (x1 - x1 / 2 * 2) = 0) : G_X10_holds q w x1 = 0 := by unfold G_X10_holds; exact Eq.trans (if_neg h0) (Eq.trans (if_neg h1) (Eq.trans (if_neg h2) (Eq.trans (if_pos h3) (Eq.trans (if_neg h4) (if_neg h5)))))
theorem g_X10_holds_18 {q : AU} {w : RS} {x1 : Int32} (h0 : ¬ (x1 / 2) = 0) (h1 : ¬ (x1 / 2) = 1) (h2 : ¬ (x1 / 2) = 2) (h3 : ¬ (x1 / 2) = 3) (h4 : (x1 / 2) = 4) (h5 : (x1 - x1 / 2 * 2) = 0) (h6 : (r3 w) = 1) : G_X10_holds q w x1 = 1 := by unfold G_X10_holds; exact Eq.trans (if_neg h0) (Eq.trans (if_neg h1) (Eq.trans (if_neg h2) (Eq.trans (if_neg h3) (Eq.trans (if_pos h4) (Eq.trans (if_pos h5) (if_pos h6))))))
theorem g_X10_holds_19 {q : AU} {w : RS} {x1 : Int32} (h0 : ¬ (x1 / 2) = 0) (h1 : ¬ (x1 / 2) = 1) (h2 : ¬ (x1 / 2) = 2) (h3 : ¬ (x1 / 2) = 3) (h4 : (x1 / 2) = 4) (h5 : (x1 - x1 / 2 * 2) = 0) (h6 : ¬ (r3 w) = 1) : G_X10_holds q w x1 = 0 := by unfold G_X10_holds; exact Eq.trans (if_neg h0) (Eq.trans (if_neg h1) (Eq.trans (if_neg h2) (Eq.trans (if_neg h3) (Eq.trans (if_pos h4) (Eq.trans (if_pos h5) (if_neg h6))))))
theorem g_X10_holds_20 {q : AU} {w : RS} {x1 : Int32} (h0 : ¬ (x1 / 2) = 0) (h1 : ¬ (x1 / 2) = 1) (h2 : ¬ (x1 / 2) = 2) (h3 : ¬ (x1 / 2) = 3) (h4 : (x1 / 2) = 4) (h5 : ¬ (x1 - x1 / 2 * 2) = 0) (h6 : (r3 w) = 0) : G_X10_holds q w x1 = 1 := by unfold G_X10_holds; exact Eq.trans (if_neg h0) (Eq.trans (if_neg h1) (Eq.trans (if_neg h2) (Eq.trans (if_neg h3) (Eq.trans (if_pos h4) (Eq.trans (if_neg h5) (if_pos h6))))))
theorem g_X10_holds_21 {q : AU} {w : RS} {x1 : Int32} (h0 : ¬ (x1 / 2) = 0) (h1 : ¬ (x1 / 2) = 1) (h2 : ¬ (x1 / 2) = 2) (h3 : ¬ (x1 / 2) = 3) (h4 : (x1 / 2) = 4) (h5 : ¬ (x1 - x1 / 2 * 2) = 0) (h6 : ¬ (r3 w) = 0) : G_X10_holds q w x1 = 0 := by unfold G_X10_holds; exact Eq.trans (if_neg h0) (Eq.trans (if_neg h1) (Eq.trans (if_neg h2) (Eq.trans (if_neg h3) (Eq.trans (if_pos h4) (Eq.trans (if_neg h5) (if_neg h6))))))
theorem g_X10_holds_22 {q : AU} {w : RS} {x1 : Int32} (h0 : ¬ (x1 / 2) = 0) (h1 : ¬ (x1 / 2) = 1) (h2 : ¬ (x1 / 2) = 2) (h3 : ¬ (x1 / 2) = 3) (h4 : ¬ (x1 / 2) = 4) (h5 : (x1 / 2) = 5) (h6 : (r2 w) = 0) (h7 : (r3 w) = (r5 w)) (h8 : (x1 - x1 / 2 * 2) = 0) : G_X10_holds q w x1 = 0 := by unfold G_X10_holds; exact Eq.trans (if_neg h0) (Eq.trans (if_neg h1) (Eq.trans (if_neg h2) (Eq.trans (if_neg h3) (Eq.trans (if_neg h4) (Eq.trans (if_pos h5) (Eq.trans (if_pos h6) (Eq.trans (if_pos h7) (if_pos h8))))))))
theorem g_X10_holds_23 {q : AU} {w : RS} {x1 : Int32} (h0 : ¬ (x1 / 2) = 0) (h1 : ¬ (x1 / 2) = 1) (h2 : ¬ (x1 / 2) = 2) (h3 : ¬ (x1 / 2) = 3) (h4 : ¬ (x1 / 2) = 4) (h5 : (x1 / 2) = 5) (h6 : (r2 w) = 0) (h7 : (r3 w) = (r5 w)) (h8 : ¬ (x1 - x1 / 2 * 2) = 0) : G_X10_holds q w x1 = 1 := by unfold G_X10_holds; exact Eq.trans (if_neg h0) (Eq.trans (if_neg h1) (Eq.trans (if_neg h2) (Eq.trans (if_neg h3) (Eq.trans (if_neg h4) (Eq.trans (if_pos h5) (Eq.trans (if_pos h6) (Eq.trans (if_pos h7) (if_neg h8))))))))
theorem g_X10_holds_24 {q : AU} {w : RS} {x1 : Int32} (h0 : ¬ (x1 / 2) = 0) (h1 : ¬ (x1 / 2) = 1) (h2 : ¬ (x1 / 2) = 2) (h3 : ¬ (x1 / 2) = 3) (h4 : ¬ (x1 / 2) = 4) (h5 : (x1 / 2) = 5) (h6 : (r2 w) = 0) (h7 : ¬ (r3 w) = (r5 w)) (h8 : (x1 - x1 / 2 * 2) = 0) : G_X10_holds q w x1 = 1 := by unfold G_X10_holds; exact Eq.trans (if_neg h0) (Eq.trans (if_neg h1) (Eq.trans (if_neg h2) (Eq.trans (if_neg h3) (Eq.trans (if_neg h4) (Eq.trans (if_pos h5) (Eq.trans (if_pos h6) (Eq.trans (if_neg h7) (if_pos h8))))))))
theorem g_X10_holds_25 {q : AU} {w : RS} {x1 : Int32} (h0 : ¬ (x1 / 2) = 0) (h1 : ¬ (x1 / 2) = 1) (h2 : ¬ (x1 / 2) = 2) (h3 : ¬ (x1 / 2) = 3) (h4 : ¬ (x1 / 2) = 4) (h5 : (x1 / 2) = 5) (h6 : (r2 w) = 0) (h7 : ¬ (r3 w) = (r5 w)) (h8 : ¬ (x1 - x1 / 2 * 2) = 0) : G_X10_holds q w x1 = 0 := by unfold G_X10_holds; exact Eq.trans (if_neg h0) (Eq.trans (if_neg h1) (Eq.trans (if_neg h2) (Eq.trans (if_neg h3) (Eq.trans (if_neg h4) (Eq.trans (if_pos h5) (Eq.trans (if_pos h6) (Eq.trans (if_neg h7) (if_neg h8))))))))
theorem g_X10_holds_26 {q : AU} {w : RS} {x1 : Int32} (h0 : ¬ (x1 / 2) = 0) (h1 : ¬ (x1 / 2) = 1) (h2 : ¬ (x1 / 2) = 2) (h3 : ¬ (x1 / 2) = 3) (h4 : ¬ (x1 / 2) = 4) (h5 : (x1 / 2) = 5) (h6 : ¬ (r2 w) = 0) (h7 : (x1 - x1 / 2 * 2) = 0) : G_X10_holds q w x1 = 1 := by unfold G_X10_holds; exact Eq.trans (if_neg h0) (Eq.trans (if_neg h1) (Eq.trans (if_neg h2) (Eq.trans (if_neg h3) (Eq.trans (if_neg h4) (Eq.trans (if_pos h5) (Eq.trans (if_neg h6) (if_pos h7)))))))
theorem g_X10_holds_27 {q : AU} {w : RS} {x1 : Int32} (h0 : ¬ (x1 / 2) = 0) (h1 : ¬ (x1 / 2) = 1) (h2 : ¬ (x1 / 2) = 2) (h3 : ¬ (x1 / 2) = 3) (h4 : ¬ (x1 / 2) = 4) (h5 : (x1 / 2) = 5) (h6 : ¬ (r2 w) = 0) (h7 : ¬ (x1 - x1 / 2 * 2) = 0) : G_X10_holds q w x1 = 0 := by unfold G_X10_holds; exact Eq.trans (if_neg h0) (Eq.trans (if_neg h1) (Eq.trans (if_neg h2) (Eq.trans (if_neg h3) (Eq.trans (if_neg h4) (Eq.trans (if_pos h5) (Eq.trans (if_neg h6) (if_neg h7)))))))
theorem g_X10_holds_28 {q : AU} {w : RS} {x1 : Int32} (h0 : ¬ (x1 / 2) = 0) (h1 : ¬ (x1 / 2) = 1) (h2 : ¬ (x1 / 2) = 2) (h3 : ¬ (x1 / 2) = 3) (h4 : ¬ (x1 / 2) = 4) (h5 : ¬ (x1 / 2) = 5) (h6 : (x1 / 2) = 6) (h7 : (r3 w) = (r5 w)) (h8 : (x1 - x1 / 2 * 2) = 0) : G_X10_holds q w x1 = 0 := by unfold G_X10_holds; exact Eq.trans (if_neg h0) (Eq.trans (if_neg h1) (Eq.trans (if_neg h2) (Eq.trans (if_neg h3) (Eq.trans (if_neg h4) (Eq.trans (if_neg h5) (Eq.trans (if_pos h6) (Eq.trans (if_pos h7) (if_pos h8))))))))
theorem g_X10_holds_29 {q : AU} {w : RS} {x1 : Int32} (h0 : ¬ (x1 / 2) = 0) (h1 : ¬ (x1 / 2) = 1) (h2 : ¬ (x1 / 2) = 2) (h3 : ¬ (x1 / 2) = 3) (h4 : ¬ (x1 / 2) = 4) (h5 : ¬ (x1 / 2) = 5) (h6 : (x1 / 2) = 6) (h7 : (r3 w) = (r5 w)) (h8 : ¬ (x1 - x1 / 2 * 2) = 0) : G_X10_holds q w x1 = 1 := by unfold G_X10_holds; exact Eq.trans (if_neg h0) (Eq.trans (if_neg h1) (Eq.trans (if_neg h2) (Eq.trans (if_neg h3) (Eq.trans (if_neg h4) (Eq.trans (if_neg h5) (Eq.trans (if_pos h6) (Eq.trans (if_pos h7) (if_neg h8))))))))
theorem g_X10_holds_30 {q : AU} {w : RS} {x1 : Int32} (h0 : ¬ (x1 / 2) = 0) (h1 : ¬ (x1 / 2) = 1) (h2 : ¬ (x1 / 2) = 2) (h3 : ¬ (x1 / 2) = 3) (h4 : ¬ (x1 / 2) = 4) (h5 : ¬ (x1 / 2) = 5) (h6 : (x1 / 2) = 6) (h7 : ¬ (r3 w) = (r5 w)) (h8 : (x1 - x1 / 2 * 2) = 0) : G_X10_holds q w x1 = 1 := by unfold G_X10_holds; exact Eq.trans (if_neg h0) (Eq.trans (if_neg h1) (Eq.trans (if_neg h2) (Eq.trans (if_neg h3) (Eq.trans (if_neg h4) (Eq.trans (if_neg h5) (Eq.trans (if_pos h6) (Eq.trans (if_neg h7) (if_pos h8))))))))
theorem g_X10_holds_31 {q : AU} {w : RS} {x1 : Int32} (h0 : ¬ (x1 / 2) = 0) (h1 : ¬ (x1 / 2) = 1) (h2 : ¬ (x1 / 2) = 2) (h3 : ¬ (x1 / 2) = 3) (h4 : ¬ (x1 / 2) = 4) (h5 : ¬ (x1 / 2) = 5) (h6 : (x1 / 2) = 6) (h7 : ¬ (r3 w) = (r5 w)) (h8 : ¬ (x1 - x1 / 2 * 2) = 0) : G_X10_holds q w x1 = 0 := by unfold G_X10_holds; exact Eq.trans (if_neg h0) (Eq.trans (if_neg h1) (Eq.trans (if_neg h2) (Eq.trans (if_neg h3) (Eq.trans (if_neg h4) (Eq.trans (if_neg h5) (Eq.trans (if_pos h6) (Eq.trans (if_neg h7) (if_neg h8))))))))
theorem g_X10_holds_32 {q : AU} {w : RS} {x1 : Int32} (h0 : ¬ (x1 / 2) = 0) (h1 : ¬ (x1 / 2) = 1) (h2 : ¬ (x1 / 2) = 2) (h3 : ¬ (x1 / 2) = 3) (h4 : ¬ (x1 / 2) = 4) (h5 : ¬ (x1 / 2) = 5) (h6 : ¬ (x1 / 2) = 6) (h7 : (r2 w) = 0) (h8 : (r3 w) = (r5 w)) (h9 : (x1 - x1 / 2 * 2) = 0) : G_X10_holds q w x1 = 0 := by unfold G_X10_holds; exact Eq.trans (if_neg h0) (Eq.trans (if_neg h1) (Eq.trans (if_neg h2) (Eq.trans (if_neg h3) (Eq.trans (if_neg h4) (Eq.trans (if_neg h5) (Eq.trans (if_neg h6) (Eq.trans (if_pos h7) (Eq.trans (if_pos h8) (if_pos h9)))))))))
theorem g_X10_holds_33 {q : AU} {w : RS} {x1 : Int32} (h0 : ¬ (x1 / 2) = 0) (h1 : ¬ (x1 / 2) = 1) (h2 : ¬ (x1 / 2) = 2) (h3 : ¬ (x1 / 2) = 3) (h4 : ¬ (x1 / 2) = 4) (h5 : ¬ (x1 / 2) = 5) (h6 : ¬ (x1 / 2) = 6) (h7 : (r2 w) = 0) (h8 : (r3 w) = (r5 w)) (h9 : ¬ (x1 - x1 / 2 * 2) = 0) : G_X10_holds q w x1 = 1 := by unfold G_X10_holds; exact Eq.trans (if_neg h0) (Eq.trans (if_neg h1) (Eq.trans (if_neg h2) (Eq.trans (if_neg h3) (Eq.trans (if_neg h4) (Eq.trans (if_neg h5) (Eq.trans (if_neg h6) (Eq.trans (if_pos h7) (Eq.trans (if_pos h8) (if_neg h9)))))))))
theorem g_X10_holds_34 {q : AU} {w : RS} {x1 : Int32} (h0 : ¬ (x1 / 2) = 0) (h1 : ¬ (x1 / 2) = 1) (h2 : ¬ (x1 / 2) = 2) (h3 : ¬ (x1 / 2) = 3) (h4 : ¬ (x1 / 2) = 4) (h5 : ¬ (x1 / 2) = 5) (h6 : ¬ (x1 / 2) = 6) (h7 : (r2 w) = 0) (h8 : ¬ (r3 w) = (r5 w)) (h9 : (x1 - x1 / 2 * 2) = 0) : G_X10_holds q w x1 = 1 := by unfold G_X10_holds; exact Eq.trans (if_neg h0) (Eq.trans (if_neg h1) (Eq.trans (if_neg h2) (Eq.trans (if_neg h3) (Eq.trans (if_neg h4) (Eq.trans (if_neg h5) (Eq.trans (if_neg h6) (Eq.trans (if_pos h7) (Eq.trans (if_neg h8) (if_pos h9)))))))))
theorem g_X10_holds_35 {q : AU} {w : RS} {x1 : Int32} (h0 : ¬ (x1 / 2) = 0) (h1 : ¬ (x1 / 2) = 1) (h2 : ¬ (x1 / 2) = 2) (h3 : ¬ (x1 / 2) = 3) (h4 : ¬ (x1 / 2) = 4) (h5 : ¬ (x1 / 2) = 5) (h6 : ¬ (x1 / 2) = 6) (h7 : (r2 w) = 0) (h8 : ¬ (r3 w) = (r5 w)) (h9 : ¬ (x1 - x1 / 2 * 2) = 0) : G_X10_holds q w x1 = 0 := by unfold G_X10_holds; exact Eq.trans (if_neg h0) (Eq.trans (if_neg h1) (Eq.trans (if_neg h2) (Eq.trans (if_neg h3) (Eq.trans (if_neg h4) (Eq.trans (if_neg h5) (Eq.trans (if_neg h6) (Eq.trans (if_pos h7) (Eq.trans (if_neg h8) (if_neg h9)))))))))
theorem g_X10_holds_36 {q : AU} {w : RS} {x1 : Int32} (h0 : ¬ (x1 / 2) = 0) (h1 : ¬ (x1 / 2) = 1) (h2 : ¬ (x1 / 2) = 2) (h3 : ¬ (x1 / 2) = 3) (h4 : ¬ (x1 / 2) = 4) (h5 : ¬ (x1 / 2) = 5) (h6 : ¬ (x1 / 2) = 6) (h7 : ¬ (r2 w) = 0) (h8 : (x1 - x1 / 2 * 2) = 0) : G_X10_holds q w x1 = 1 := by unfold G_X10_holds; exact Eq.trans (if_neg h0) (Eq.trans (if_neg h1) (Eq.trans (if_neg h2) (Eq.trans (if_neg h3) (Eq.trans (if_neg h4) (Eq.trans (if_neg h5) (Eq.trans (if_neg h6) (Eq.trans (if_neg h7) (if_pos h8))))))))
theorem g_X10_holds_37 {q : AU} {w : RS} {x1 : Int32} (h0 : ¬ (x1 / 2) = 0) (h1 : ¬ (x1 / 2) = 1) (h2 : ¬ (x1 / 2) = 2) (h3 : ¬ (x1 / 2) = 3) (h4 : ¬ (x1 / 2) = 4) (h5 : ¬ (x1 / 2) = 5) (h6 : ¬ (x1 / 2) = 6) (h7 : ¬ (r2 w) = 0) (h8 : ¬ (x1 - x1 / 2 * 2) = 0) : G_X10_holds q w x1 = 0 := by unfold G_X10_holds; exact Eq.trans (if_neg h0) (Eq.trans (if_neg h1) (Eq.trans (if_neg h2) (Eq.trans (if_neg h3) (Eq.trans (if_neg h4) (Eq.trans (if_neg h5) (Eq.trans (if_neg h6) (Eq.trans (if_neg h7) (if_neg h8))))))))
set_option maxHeartbeats 40000000 in
theorem cr_X10_holds {xi : SX} {S : Hp} {E : List Nat} {kc nc : Nat} {P : Po} {o0 : Nat} {x1 : Int32} {vl : Nat} {bs : Nat → Int32} {n : Int32} (hG : GI S E) (hc : RRx S E o0 vl bs n) (hP : ∀ r T x y, PV E [] S kc nc (rI 0 1) (fun v T => T = S ∧ v = some (.int (G_X10_holds (AR S o0) (QR S o0 vl) x1))) [] r T x y → P r T x y) : TT xi M_X10_holds 0 [(0, .ref o0), (1, .int x1)] [] S kc nc P := by
  obtain ⟨h0, hrv, hov, hb, rfl⟩ := id hc
  have hA : Af E [] S S := af_rf
  refine tt_iload_n (j := 1) dX10_holds_0 rfl ?_
  refine tt_iconst (v := 2) dX10_holds_1 rfl ?_
  refine tt_idiv dX10_holds_2 (by decide) ?_
  refine gt_by (c := (x1 / 2) = 0) (fun q101 => ?_) (fun q101 => ?_)
  · skip
    refine gt_tseqL (off := 41) (tgt := 44) 0 0 dX10_holds_3 sl_X10_holds_3 q101 rfl (by decide) (by decide) rfl rfl ?_
    refine tt_aload_n (j := 0) dX10_holds_44 rfl ?_
    refine gt_gI (id := 671) (v := (r5 (QR S o0 vl))) dX10_holds_45 fl_10_328 rfl rfl h0 hA (tR_671 (T := S) (o := o0) (a := vl) rfl) ?_
    refine tt_istore_n (ks := [0, 1, 2]) (L' := [(2, .int (r5 (QR S o0 vl))), (0, .ref o0), (1, .int x1)]) dX10_holds_48 (by decide) rfl ?_
    refine tt_goto (tgt := 143) dX10_holds_49 rfl ?_
    refine tt_iload_n (j := 0) dX10_holds_143 rfl ?_
    refine tt_iload_n (j := 2) dX10_holds_144 rfl ?_
    refine tt_iconst (v := 2) dX10_holds_145 rfl ?_
    refine tt_irem dX10_holds_146 (by decide) ?_
    refine tt_if_ne (tgt := 154) dX10_holds_147 rfl (fun q102 => ?_) (fun q102 => ?_)
    · skip
      refine tt_iconst (v := 0) dX10_holds_154 rfl ?_
      refine tt_icmp_ne (tgt := 162) dX10_holds_155 rfl (fun q103 => ?_) (fun q103 => ?_)
      · skip
        have h104 : Rg 1 1 (r5 (QR S o0 vl)) := rg_ne_lo (gi_I (k := 671) hG h0 0 1) (⟨by decide, by decide⟩ : Rg 0 0 0) q103
        refine tt_iconst (v := 0) dX10_holds_162 rfl ?_
        have hF : G_X10_holds (AR S o0) (QR S o0 vl) x1 = 0 := by
          exact g_X10_holds_3 q101 q102 q103
        exact tt_ireturn dX10_holds_163 .boolean rfl rfl (hP _ _ _ _ ⟨hG, hA, Or.inl ⟨_, rfl, ⟨_, rfl, rg_w (⟨by decide, by decide⟩ : Rg 0 0 0)⟩, ⟨rfl, congrArg (fun q => some (Value.int q)) hF.symm⟩, rfl, rfl⟩⟩)
      · skip
        have h105 : Rg 0 0 (r5 (QR S o0 vl)) := rg_eq_l (gi_I (k := 671) hG h0 0 1) (⟨by decide, by decide⟩ : Rg 0 0 0) q103
        refine tt_iconst (v := 1) dX10_holds_158 rfl ?_
        refine tt_goto (tgt := 163) dX10_holds_159 rfl ?_
        have hF : G_X10_holds (AR S o0) (QR S o0 vl) x1 = 1 := by
          exact g_X10_holds_2 q101 q102 q103
        exact tt_ireturn dX10_holds_163 .boolean rfl rfl (hP _ _ _ _ ⟨hG, hA, Or.inl ⟨_, rfl, ⟨_, rfl, rg_w (⟨by decide, by decide⟩ : Rg 1 1 1)⟩, ⟨rfl, congrArg (fun q => some (Value.int q)) hF.symm⟩, rfl, rfl⟩⟩)
    · skip
      have h106 : Rg 0 0 (x1 - x1 / 2 * 2) := rg_eq_l (rg_all (x1 - x1 / 2 * 2)) (⟨by decide, by decide⟩ : Rg 0 0 0) q102
      refine tt_iconst (v := 1) dX10_holds_150 rfl ?_
      refine tt_goto (tgt := 155) dX10_holds_151 rfl ?_
      refine tt_icmp_ne (tgt := 162) dX10_holds_155 rfl (fun q107 => ?_) (fun q107 => ?_)
      · skip
        have h108 : Rg 0 0 (r5 (QR S o0 vl)) := rg_ne_hi (gi_I (k := 671) hG h0 0 1) (⟨by decide, by decide⟩ : Rg 1 1 1) q107
        refine tt_iconst (v := 0) dX10_holds_162 rfl ?_
        have hF : G_X10_holds (AR S o0) (QR S o0 vl) x1 = 0 := by
          exact g_X10_holds_1 q101 q102 q107
        exact tt_ireturn dX10_holds_163 .boolean rfl rfl (hP _ _ _ _ ⟨hG, hA, Or.inl ⟨_, rfl, ⟨_, rfl, rg_w (⟨by decide, by decide⟩ : Rg 0 0 0)⟩, ⟨rfl, congrArg (fun q => some (Value.int q)) hF.symm⟩, rfl, rfl⟩⟩)
      · skip
        have h109 : Rg 1 1 (r5 (QR S o0 vl)) := rg_eq_l (gi_I (k := 671) hG h0 0 1) (⟨by decide, by decide⟩ : Rg 1 1 1) q107
        refine tt_iconst (v := 1) dX10_holds_158 rfl ?_
        refine tt_goto (tgt := 163) dX10_holds_159 rfl ?_
        have hF : G_X10_holds (AR S o0) (QR S o0 vl) x1 = 1 := by
          exact g_X10_holds_0 q101 q102 q107
        exact tt_ireturn dX10_holds_163 .boolean rfl rfl (hP _ _ _ _ ⟨hG, hA, Or.inl ⟨_, rfl, ⟨_, rfl, rg_w (⟨by decide, by decide⟩ : Rg 1 1 1)⟩, ⟨rfl, congrArg (fun q => some (Value.int q)) hF.symm⟩, rfl, rfl⟩⟩)
  refine gt_by (c := (x1 / 2) = 1) (fun q110 => ?_) (fun q110 => ?_)
  · skip
    refine gt_tseqL (off := 49) (tgt := 52) 1 1 dX10_holds_3 sl_X10_holds_3 q110 rfl (by decide) (by decide) rfl rfl ?_
    refine tt_aload_n (j := 0) dX10_holds_52 rfl ?_
    refine gt_gI (id := 670) (v := (r4 (QR S o0 vl))) dX10_holds_53 fl_10_325 rfl rfl h0 hA (tR_670 (T := S) (o := o0) (a := vl) rfl) ?_
    refine tt_istore_n (ks := [0, 1, 2]) (L' := [(2, .int (r4 (QR S o0 vl))), (0, .ref o0), (1, .int x1)]) dX10_holds_56 (by decide) rfl ?_
    refine tt_goto (tgt := 143) dX10_holds_57 rfl ?_
    refine tt_iload_n (j := 0) dX10_holds_143 rfl ?_
    refine tt_iload_n (j := 2) dX10_holds_144 rfl ?_
    refine tt_iconst (v := 2) dX10_holds_145 rfl ?_
    refine tt_irem dX10_holds_146 (by decide) ?_
    refine tt_if_ne (tgt := 154) dX10_holds_147 rfl (fun q111 => ?_) (fun q111 => ?_)
    · skip
      refine tt_iconst (v := 0) dX10_holds_154 rfl ?_
      refine tt_icmp_ne (tgt := 162) dX10_holds_155 rfl (fun q112 => ?_) (fun q112 => ?_)
      · skip
        have h113 : Rg 1 1 (r4 (QR S o0 vl)) := rg_ne_lo (gi_I (k := 670) hG h0 0 1) (⟨by decide, by decide⟩ : Rg 0 0 0) q112
        refine tt_iconst (v := 0) dX10_holds_162 rfl ?_
        have hF : G_X10_holds (AR S o0) (QR S o0 vl) x1 = 0 := by
          exact g_X10_holds_7 q101 q110 q111 q112
        exact tt_ireturn dX10_holds_163 .boolean rfl rfl (hP _ _ _ _ ⟨hG, hA, Or.inl ⟨_, rfl, ⟨_, rfl, rg_w (⟨by decide, by decide⟩ : Rg 0 0 0)⟩, ⟨rfl, congrArg (fun q => some (Value.int q)) hF.symm⟩, rfl, rfl⟩⟩)
      · skip
        have h114 : Rg 0 0 (r4 (QR S o0 vl)) := rg_eq_l (gi_I (k := 670) hG h0 0 1) (⟨by decide, by decide⟩ : Rg 0 0 0) q112
        refine tt_iconst (v := 1) dX10_holds_158 rfl ?_
        refine tt_goto (tgt := 163) dX10_holds_159 rfl ?_
        have hF : G_X10_holds (AR S o0) (QR S o0 vl) x1 = 1 := by
          exact g_X10_holds_6 q101 q110 q111 q112
        exact tt_ireturn dX10_holds_163 .boolean rfl rfl (hP _ _ _ _ ⟨hG, hA, Or.inl ⟨_, rfl, ⟨_, rfl, rg_w (⟨by decide, by decide⟩ : Rg 1 1 1)⟩, ⟨rfl, congrArg (fun q => some (Value.int q)) hF.symm⟩, rfl, rfl⟩⟩)
    · skip
      have h115 : Rg 0 0 (x1 - x1 / 2 * 2) := rg_eq_l (rg_all (x1 - x1 / 2 * 2)) (⟨by decide, by decide⟩ : Rg 0 0 0) q111
      refine tt_iconst (v := 1) dX10_holds_150 rfl ?_
      refine tt_goto (tgt := 155) dX10_holds_151 rfl ?_
      refine tt_icmp_ne (tgt := 162) dX10_holds_155 rfl (fun q116 => ?_) (fun q116 => ?_)
      · skip
        have h117 : Rg 0 0 (r4 (QR S o0 vl)) := rg_ne_hi (gi_I (k := 670) hG h0 0 1) (⟨by decide, by decide⟩ : Rg 1 1 1) q116
        refine tt_iconst (v := 0) dX10_holds_162 rfl ?_
        have hF : G_X10_holds (AR S o0) (QR S o0 vl) x1 = 0 := by
          exact g_X10_holds_5 q101 q110 q111 q116
        exact tt_ireturn dX10_holds_163 .boolean rfl rfl (hP _ _ _ _ ⟨hG, hA, Or.inl ⟨_, rfl, ⟨_, rfl, rg_w (⟨by decide, by decide⟩ : Rg 0 0 0)⟩, ⟨rfl, congrArg (fun q => some (Value.int q)) hF.symm⟩, rfl, rfl⟩⟩)
      · skip
        have h118 : Rg 1 1 (r4 (QR S o0 vl)) := rg_eq_l (gi_I (k := 670) hG h0 0 1) (⟨by decide, by decide⟩ : Rg 1 1 1) q116
        refine tt_iconst (v := 1) dX10_holds_158 rfl ?_
        refine tt_goto (tgt := 163) dX10_holds_159 rfl ?_
        have hF : G_X10_holds (AR S o0) (QR S o0 vl) x1 = 1 := by
          exact g_X10_holds_4 q101 q110 q111 q116
        exact tt_ireturn dX10_holds_163 .boolean rfl rfl (hP _ _ _ _ ⟨hG, hA, Or.inl ⟨_, rfl, ⟨_, rfl, rg_w (⟨by decide, by decide⟩ : Rg 1 1 1)⟩, ⟨rfl, congrArg (fun q => some (Value.int q)) hF.symm⟩, rfl, rfl⟩⟩)
  refine gt_by (c := (x1 / 2) = 2) (fun q119 => ?_) (fun q119 => ?_)
  · skip
    refine gt_tseqL (off := 57) (tgt := 60) 2 2 dX10_holds_3 sl_X10_holds_3 q119 rfl (by decide) (by decide) rfl rfl ?_
    refine tt_aload_n (j := 0) dX10_holds_60 rfl ?_
    refine gt_gI (id := 668) (v := (r2 (QR S o0 vl))) dX10_holds_61 fl_10_319 rfl rfl h0 hA (tR_668 (T := S) (o := o0) (a := vl) rfl) ?_
    refine tt_istore_n (ks := [0, 1, 2]) (L' := [(2, .int (r2 (QR S o0 vl))), (0, .ref o0), (1, .int x1)]) dX10_holds_64 (by decide) rfl ?_
    refine tt_goto (tgt := 143) dX10_holds_65 rfl ?_
    refine tt_iload_n (j := 0) dX10_holds_143 rfl ?_
    refine tt_iload_n (j := 2) dX10_holds_144 rfl ?_
    refine tt_iconst (v := 2) dX10_holds_145 rfl ?_
    refine tt_irem dX10_holds_146 (by decide) ?_
    refine tt_if_ne (tgt := 154) dX10_holds_147 rfl (fun q120 => ?_) (fun q120 => ?_)
    · skip
      refine tt_iconst (v := 0) dX10_holds_154 rfl ?_
      refine tt_icmp_ne (tgt := 162) dX10_holds_155 rfl (fun q121 => ?_) (fun q121 => ?_)
      · skip
        have h122 : Rg 1 1 (r2 (QR S o0 vl)) := rg_ne_lo (gi_I (k := 668) hG h0 0 1) (⟨by decide, by decide⟩ : Rg 0 0 0) q121
        refine tt_iconst (v := 0) dX10_holds_162 rfl ?_
        have hF : G_X10_holds (AR S o0) (QR S o0 vl) x1 = 0 := by
          exact g_X10_holds_11 q101 q110 q119 q120 q121
        exact tt_ireturn dX10_holds_163 .boolean rfl rfl (hP _ _ _ _ ⟨hG, hA, Or.inl ⟨_, rfl, ⟨_, rfl, rg_w (⟨by decide, by decide⟩ : Rg 0 0 0)⟩, ⟨rfl, congrArg (fun q => some (Value.int q)) hF.symm⟩, rfl, rfl⟩⟩)
      · skip
        have h123 : Rg 0 0 (r2 (QR S o0 vl)) := rg_eq_l (gi_I (k := 668) hG h0 0 1) (⟨by decide, by decide⟩ : Rg 0 0 0) q121
        refine tt_iconst (v := 1) dX10_holds_158 rfl ?_
        refine tt_goto (tgt := 163) dX10_holds_159 rfl ?_
        have hF : G_X10_holds (AR S o0) (QR S o0 vl) x1 = 1 := by
          exact g_X10_holds_10 q101 q110 q119 q120 q121
        exact tt_ireturn dX10_holds_163 .boolean rfl rfl (hP _ _ _ _ ⟨hG, hA, Or.inl ⟨_, rfl, ⟨_, rfl, rg_w (⟨by decide, by decide⟩ : Rg 1 1 1)⟩, ⟨rfl, congrArg (fun q => some (Value.int q)) hF.symm⟩, rfl, rfl⟩⟩)
    · skip
      have h124 : Rg 0 0 (x1 - x1 / 2 * 2) := rg_eq_l (rg_all (x1 - x1 / 2 * 2)) (⟨by decide, by decide⟩ : Rg 0 0 0) q120
      refine tt_iconst (v := 1) dX10_holds_150 rfl ?_
      refine tt_goto (tgt := 155) dX10_holds_151 rfl ?_
      refine tt_icmp_ne (tgt := 162) dX10_holds_155 rfl (fun q125 => ?_) (fun q125 => ?_)
      · skip
        have h126 : Rg 0 0 (r2 (QR S o0 vl)) := rg_ne_hi (gi_I (k := 668) hG h0 0 1) (⟨by decide, by decide⟩ : Rg 1 1 1) q125
        refine tt_iconst (v := 0) dX10_holds_162 rfl ?_
        have hF : G_X10_holds (AR S o0) (QR S o0 vl) x1 = 0 := by
          exact g_X10_holds_9 q101 q110 q119 q120 q125
        exact tt_ireturn dX10_holds_163 .boolean rfl rfl (hP _ _ _ _ ⟨hG, hA, Or.inl ⟨_, rfl, ⟨_, rfl, rg_w (⟨by decide, by decide⟩ : Rg 0 0 0)⟩, ⟨rfl, congrArg (fun q => some (Value.int q)) hF.symm⟩, rfl, rfl⟩⟩)
      · skip
        have h127 : Rg 1 1 (r2 (QR S o0 vl)) := rg_eq_l (gi_I (k := 668) hG h0 0 1) (⟨by decide, by decide⟩ : Rg 1 1 1) q125
        refine tt_iconst (v := 1) dX10_holds_158 rfl ?_
        refine tt_goto (tgt := 163) dX10_holds_159 rfl ?_
        have hF : G_X10_holds (AR S o0) (QR S o0 vl) x1 = 1 := by
          exact g_X10_holds_8 q101 q110 q119 q120 q125
        exact tt_ireturn dX10_holds_163 .boolean rfl rfl (hP _ _ _ _ ⟨hG, hA, Or.inl ⟨_, rfl, ⟨_, rfl, rg_w (⟨by decide, by decide⟩ : Rg 1 1 1)⟩, ⟨rfl, congrArg (fun q => some (Value.int q)) hF.symm⟩, rfl, rfl⟩⟩)
  refine gt_by (c := (x1 / 2) = 3) (fun q128 => ?_) (fun q128 => ?_)
  · skip
    refine gt_tseqL (off := 65) (tgt := 68) 3 3 dX10_holds_3 sl_X10_holds_3 q128 rfl (by decide) (by decide) rfl rfl ?_
    refine tt_aload_n (j := 0) dX10_holds_68 rfl ?_
    refine gt_gI (id := 670) (v := (r4 (QR S o0 vl))) dX10_holds_69 fl_10_325 rfl rfl h0 hA (tR_670 (T := S) (o := o0) (a := vl) rfl) ?_
    refine tt_if_ne (tgt := 82) dX10_holds_72 rfl (fun q129 => ?_) (fun q129 => ?_)
    · skip
      have h130 : Rg 1 1 (r4 (QR S o0 vl)) := rg_ne_lo (gi_I (k := 670) hG h0 0 1) (⟨by decide, by decide⟩ : Rg 0 0 0) q129
      refine tt_iconst (v := 1) dX10_holds_82 rfl ?_
      refine tt_goto (tgt := 87) dX10_holds_83 rfl ?_
      refine tt_istore_n (ks := [0, 1, 2]) (L' := [(2, .int 1), (0, .ref o0), (1, .int x1)]) dX10_holds_87 (by decide) rfl ?_
      refine tt_goto (tgt := 143) dX10_holds_88 rfl ?_
      refine tt_iload_n (j := 0) dX10_holds_143 rfl ?_
      refine tt_iload_n (j := 2) dX10_holds_144 rfl ?_
      refine tt_iconst (v := 2) dX10_holds_145 rfl ?_
      refine tt_irem dX10_holds_146 (by decide) ?_
      refine tt_if_ne (tgt := 154) dX10_holds_147 rfl (fun q131 => ?_) (fun q131 => ?_)
      · skip
        refine tt_iconst (v := 0) dX10_holds_154 rfl ?_
        refine tt_icmp_ne (tgt := 162) dX10_holds_155 rfl (fun _ => ?_) (fun q => absurd q (by decide))
        refine tt_iconst (v := 0) dX10_holds_162 rfl ?_
        have hF : G_X10_holds (AR S o0) (QR S o0 vl) x1 = 0 := by
          exact g_X10_holds_17 q101 q110 q119 q128 q129 q131
        exact tt_ireturn dX10_holds_163 .boolean rfl rfl (hP _ _ _ _ ⟨hG, hA, Or.inl ⟨_, rfl, ⟨_, rfl, rg_w (⟨by decide, by decide⟩ : Rg 0 0 0)⟩, ⟨rfl, congrArg (fun q => some (Value.int q)) hF.symm⟩, rfl, rfl⟩⟩)
      · skip
        have h132 : Rg 0 0 (x1 - x1 / 2 * 2) := rg_eq_l (rg_all (x1 - x1 / 2 * 2)) (⟨by decide, by decide⟩ : Rg 0 0 0) q131
        refine tt_iconst (v := 1) dX10_holds_150 rfl ?_
        refine tt_goto (tgt := 155) dX10_holds_151 rfl ?_
        refine tt_icmp_ne (tgt := 162) dX10_holds_155 rfl (fun q => absurd q (by decide)) (fun _ => ?_)
        refine tt_iconst (v := 1) dX10_holds_158 rfl ?_
        refine tt_goto (tgt := 163) dX10_holds_159 rfl ?_
        have hF : G_X10_holds (AR S o0) (QR S o0 vl) x1 = 1 := by
          exact g_X10_holds_16 q101 q110 q119 q128 q129 q131
        exact tt_ireturn dX10_holds_163 .boolean rfl rfl (hP _ _ _ _ ⟨hG, hA, Or.inl ⟨_, rfl, ⟨_, rfl, rg_w (⟨by decide, by decide⟩ : Rg 1 1 1)⟩, ⟨rfl, congrArg (fun q => some (Value.int q)) hF.symm⟩, rfl, rfl⟩⟩)
    · skip
      have h133 : Rg 0 0 (r4 (QR S o0 vl)) := rg_eq_l (gi_I (k := 670) hG h0 0 1) (⟨by decide, by decide⟩ : Rg 0 0 0) q129
      refine tt_aload_n (j := 0) dX10_holds_75 rfl ?_
      refine gt_gI (id := 668) (v := (r2 (QR S o0 vl))) dX10_holds_76 fl_10_319 rfl rfl h0 hA (tR_668 (T := S) (o := o0) (a := vl) rfl) ?_
      refine tt_if_eq (tgt := 86) dX10_holds_79 rfl (fun q134 => ?_) (fun q134 => ?_)
      · skip
        have h135 : Rg 0 0 (r2 (QR S o0 vl)) := rg_eq_l (gi_I (k := 668) hG h0 0 1) (⟨by decide, by decide⟩ : Rg 0 0 0) q134
        refine tt_iconst (v := 0) dX10_holds_86 rfl ?_
        refine tt_istore_n (ks := [0, 1, 2]) (L' := [(2, .int 0), (0, .ref o0), (1, .int x1)]) dX10_holds_87 (by decide) rfl ?_
        refine tt_goto (tgt := 143) dX10_holds_88 rfl ?_
        refine tt_iload_n (j := 0) dX10_holds_143 rfl ?_
        refine tt_iload_n (j := 2) dX10_holds_144 rfl ?_
        refine tt_iconst (v := 2) dX10_holds_145 rfl ?_
        refine tt_irem dX10_holds_146 (by decide) ?_
        refine tt_if_ne (tgt := 154) dX10_holds_147 rfl (fun q136 => ?_) (fun q136 => ?_)
        · skip
          refine tt_iconst (v := 0) dX10_holds_154 rfl ?_
          refine tt_icmp_ne (tgt := 162) dX10_holds_155 rfl (fun q => absurd q (by decide)) (fun _ => ?_)
          refine tt_iconst (v := 1) dX10_holds_158 rfl ?_
          refine tt_goto (tgt := 163) dX10_holds_159 rfl ?_
          have hF : G_X10_holds (AR S o0) (QR S o0 vl) x1 = 1 := by
            exact g_X10_holds_13 q101 q110 q119 q128 q129 q134 q136
          exact tt_ireturn dX10_holds_163 .boolean rfl rfl (hP _ _ _ _ ⟨hG, hA, Or.inl ⟨_, rfl, ⟨_, rfl, rg_w (⟨by decide, by decide⟩ : Rg 1 1 1)⟩, ⟨rfl, congrArg (fun q => some (Value.int q)) hF.symm⟩, rfl, rfl⟩⟩)
        · skip
          have h137 : Rg 0 0 (x1 - x1 / 2 * 2) := rg_eq_l (rg_all (x1 - x1 / 2 * 2)) (⟨by decide, by decide⟩ : Rg 0 0 0) q136
          refine tt_iconst (v := 1) dX10_holds_150 rfl ?_
          refine tt_goto (tgt := 155) dX10_holds_151 rfl ?_
          refine tt_icmp_ne (tgt := 162) dX10_holds_155 rfl (fun _ => ?_) (fun q => absurd q (by decide))
          refine tt_iconst (v := 0) dX10_holds_162 rfl ?_
          have hF : G_X10_holds (AR S o0) (QR S o0 vl) x1 = 0 := by
            exact g_X10_holds_12 q101 q110 q119 q128 q129 q134 q136
          exact tt_ireturn dX10_holds_163 .boolean rfl rfl (hP _ _ _ _ ⟨hG, hA, Or.inl ⟨_, rfl, ⟨_, rfl, rg_w (⟨by decide, by decide⟩ : Rg 0 0 0)⟩, ⟨rfl, congrArg (fun q => some (Value.int q)) hF.symm⟩, rfl, rfl⟩⟩)
      · skip
        have h138 : Rg 1 1 (r2 (QR S o0 vl)) := rg_ne_lo (gi_I (k := 668) hG h0 0 1) (⟨by decide, by decide⟩ : Rg 0 0 0) q134
        refine tt_iconst (v := 1) dX10_holds_82 rfl ?_
        refine tt_goto (tgt := 87) dX10_holds_83 rfl ?_
        refine tt_istore_n (ks := [0, 1, 2]) (L' := [(2, .int 1), (0, .ref o0), (1, .int x1)]) dX10_holds_87 (by decide) rfl ?_
        refine tt_goto (tgt := 143) dX10_holds_88 rfl ?_
        refine tt_iload_n (j := 0) dX10_holds_143 rfl ?_
        refine tt_iload_n (j := 2) dX10_holds_144 rfl ?_
        refine tt_iconst (v := 2) dX10_holds_145 rfl ?_
        refine tt_irem dX10_holds_146 (by decide) ?_
        refine tt_if_ne (tgt := 154) dX10_holds_147 rfl (fun q139 => ?_) (fun q139 => ?_)
        · skip
          refine tt_iconst (v := 0) dX10_holds_154 rfl ?_
          refine tt_icmp_ne (tgt := 162) dX10_holds_155 rfl (fun _ => ?_) (fun q => absurd q (by decide))
          refine tt_iconst (v := 0) dX10_holds_162 rfl ?_
          have hF : G_X10_holds (AR S o0) (QR S o0 vl) x1 = 0 := by
            exact g_X10_holds_15 q101 q110 q119 q128 q129 q134 q139
          exact tt_ireturn dX10_holds_163 .boolean rfl rfl (hP _ _ _ _ ⟨hG, hA, Or.inl ⟨_, rfl, ⟨_, rfl, rg_w (⟨by decide, by decide⟩ : Rg 0 0 0)⟩, ⟨rfl, congrArg (fun q => some (Value.int q)) hF.symm⟩, rfl, rfl⟩⟩)
        · skip
          have h140 : Rg 0 0 (x1 - x1 / 2 * 2) := rg_eq_l (rg_all (x1 - x1 / 2 * 2)) (⟨by decide, by decide⟩ : Rg 0 0 0) q139
          refine tt_iconst (v := 1) dX10_holds_150 rfl ?_
          refine tt_goto (tgt := 155) dX10_holds_151 rfl ?_
          refine tt_icmp_ne (tgt := 162) dX10_holds_155 rfl (fun q => absurd q (by decide)) (fun _ => ?_)
          refine tt_iconst (v := 1) dX10_holds_158 rfl ?_
          refine tt_goto (tgt := 163) dX10_holds_159 rfl ?_
          have hF : G_X10_holds (AR S o0) (QR S o0 vl) x1 = 1 := by
            exact g_X10_holds_14 q101 q110 q119 q128 q129 q134 q139
          exact tt_ireturn dX10_holds_163 .boolean rfl rfl (hP _ _ _ _ ⟨hG, hA, Or.inl ⟨_, rfl, ⟨_, rfl, rg_w (⟨by decide, by decide⟩ : Rg 1 1 1)⟩, ⟨rfl, congrArg (fun q => some (Value.int q)) hF.symm⟩, rfl, rfl⟩⟩)
  refine gt_by (c := (x1 / 2) = 4) (fun q141 => ?_) (fun q141 => ?_)
  · skip
    refine gt_tseqL (off := 88) (tgt := 91) 4 4 dX10_holds_3 sl_X10_holds_3 q141 rfl (by decide) (by decide) rfl rfl ?_
    refine tt_aload_n (j := 0) dX10_holds_91 rfl ?_
    refine gt_gI (id := 669) (v := (r3 (QR S o0 vl))) dX10_holds_92 fl_10_322 rfl rfl h0 hA (tR_669 (T := S) (o := o0) (a := vl) rfl) ?_
    refine tt_istore_n (ks := [0, 1, 2]) (L' := [(2, .int (r3 (QR S o0 vl))), (0, .ref o0), (1, .int x1)]) dX10_holds_95 (by decide) rfl ?_
    refine tt_goto (tgt := 143) dX10_holds_96 rfl ?_
    refine tt_iload_n (j := 0) dX10_holds_143 rfl ?_
    refine tt_iload_n (j := 2) dX10_holds_144 rfl ?_
    refine tt_iconst (v := 2) dX10_holds_145 rfl ?_
    refine tt_irem dX10_holds_146 (by decide) ?_
    refine tt_if_ne (tgt := 154) dX10_holds_147 rfl (fun q142 => ?_) (fun q142 => ?_)
    · skip
      refine tt_iconst (v := 0) dX10_holds_154 rfl ?_
      refine tt_icmp_ne (tgt := 162) dX10_holds_155 rfl (fun q143 => ?_) (fun q143 => ?_)
      · skip
        have h144 : Rg 1 1 (r3 (QR S o0 vl)) := rg_ne_lo (gi_I (k := 669) hG h0 0 1) (⟨by decide, by decide⟩ : Rg 0 0 0) q143
        refine tt_iconst (v := 0) dX10_holds_162 rfl ?_
        have hF : G_X10_holds (AR S o0) (QR S o0 vl) x1 = 0 := by
          exact g_X10_holds_21 q101 q110 q119 q128 q141 q142 q143
        exact tt_ireturn dX10_holds_163 .boolean rfl rfl (hP _ _ _ _ ⟨hG, hA, Or.inl ⟨_, rfl, ⟨_, rfl, rg_w (⟨by decide, by decide⟩ : Rg 0 0 0)⟩, ⟨rfl, congrArg (fun q => some (Value.int q)) hF.symm⟩, rfl, rfl⟩⟩)
      · skip
        have h145 : Rg 0 0 (r3 (QR S o0 vl)) := rg_eq_l (gi_I (k := 669) hG h0 0 1) (⟨by decide, by decide⟩ : Rg 0 0 0) q143
        refine tt_iconst (v := 1) dX10_holds_158 rfl ?_
        refine tt_goto (tgt := 163) dX10_holds_159 rfl ?_
        have hF : G_X10_holds (AR S o0) (QR S o0 vl) x1 = 1 := by
          exact g_X10_holds_20 q101 q110 q119 q128 q141 q142 q143
        exact tt_ireturn dX10_holds_163 .boolean rfl rfl (hP _ _ _ _ ⟨hG, hA, Or.inl ⟨_, rfl, ⟨_, rfl, rg_w (⟨by decide, by decide⟩ : Rg 1 1 1)⟩, ⟨rfl, congrArg (fun q => some (Value.int q)) hF.symm⟩, rfl, rfl⟩⟩)
    · skip
      have h146 : Rg 0 0 (x1 - x1 / 2 * 2) := rg_eq_l (rg_all (x1 - x1 / 2 * 2)) (⟨by decide, by decide⟩ : Rg 0 0 0) q142
      refine tt_iconst (v := 1) dX10_holds_150 rfl ?_
      refine tt_goto (tgt := 155) dX10_holds_151 rfl ?_
      refine tt_icmp_ne (tgt := 162) dX10_holds_155 rfl (fun q147 => ?_) (fun q147 => ?_)
      · skip
        have h148 : Rg 0 0 (r3 (QR S o0 vl)) := rg_ne_hi (gi_I (k := 669) hG h0 0 1) (⟨by decide, by decide⟩ : Rg 1 1 1) q147
        refine tt_iconst (v := 0) dX10_holds_162 rfl ?_
        have hF : G_X10_holds (AR S o0) (QR S o0 vl) x1 = 0 := by
          exact g_X10_holds_19 q101 q110 q119 q128 q141 q142 q147
        exact tt_ireturn dX10_holds_163 .boolean rfl rfl (hP _ _ _ _ ⟨hG, hA, Or.inl ⟨_, rfl, ⟨_, rfl, rg_w (⟨by decide, by decide⟩ : Rg 0 0 0)⟩, ⟨rfl, congrArg (fun q => some (Value.int q)) hF.symm⟩, rfl, rfl⟩⟩)
      · skip
        have h149 : Rg 1 1 (r3 (QR S o0 vl)) := rg_eq_l (gi_I (k := 669) hG h0 0 1) (⟨by decide, by decide⟩ : Rg 1 1 1) q147
        refine tt_iconst (v := 1) dX10_holds_158 rfl ?_
        refine tt_goto (tgt := 163) dX10_holds_159 rfl ?_
        have hF : G_X10_holds (AR S o0) (QR S o0 vl) x1 = 1 := by
          exact g_X10_holds_18 q101 q110 q119 q128 q141 q142 q147
        exact tt_ireturn dX10_holds_163 .boolean rfl rfl (hP _ _ _ _ ⟨hG, hA, Or.inl ⟨_, rfl, ⟨_, rfl, rg_w (⟨by decide, by decide⟩ : Rg 1 1 1)⟩, ⟨rfl, congrArg (fun q => some (Value.int q)) hF.symm⟩, rfl, rfl⟩⟩)
  refine gt_by (c := (x1 / 2) = 5) (fun q150 => ?_) (fun q150 => ?_)
  · skip
    refine gt_tseqL (off := 116) (tgt := 119) 5 5 dX10_holds_3 sl_X10_holds_3 q150 rfl (by decide) (by decide) rfl rfl ?_
    refine tt_aload_n (j := 0) dX10_holds_119 rfl ?_
    refine gt_gI (id := 668) (v := (r2 (QR S o0 vl))) dX10_holds_120 fl_10_319 rfl rfl h0 hA (tR_668 (T := S) (o := o0) (a := vl) rfl) ?_
    refine tt_if_ne (tgt := 137) dX10_holds_123 rfl (fun q151 => ?_) (fun q151 => ?_)
    · skip
      have h152 : Rg 1 1 (r2 (QR S o0 vl)) := rg_ne_lo (gi_I (k := 668) hG h0 0 1) (⟨by decide, by decide⟩ : Rg 0 0 0) q151
      refine tt_iconst (v := 1) dX10_holds_137 rfl ?_
      refine tt_goto (tgt := 142) dX10_holds_138 rfl ?_
      refine tt_istore_n (ks := [0, 1, 2]) (L' := [(2, .int 1), (0, .ref o0), (1, .int x1)]) dX10_holds_142 (by decide) rfl ?_
      refine tt_iload_n (j := 0) dX10_holds_143 rfl ?_
      refine tt_iload_n (j := 2) dX10_holds_144 rfl ?_
      refine tt_iconst (v := 2) dX10_holds_145 rfl ?_
      refine tt_irem dX10_holds_146 (by decide) ?_
      refine tt_if_ne (tgt := 154) dX10_holds_147 rfl (fun q153 => ?_) (fun q153 => ?_)
      · skip
        refine tt_iconst (v := 0) dX10_holds_154 rfl ?_
        refine tt_icmp_ne (tgt := 162) dX10_holds_155 rfl (fun _ => ?_) (fun q => absurd q (by decide))
        refine tt_iconst (v := 0) dX10_holds_162 rfl ?_
        have hF : G_X10_holds (AR S o0) (QR S o0 vl) x1 = 0 := by
          exact g_X10_holds_27 q101 q110 q119 q128 q141 q150 q151 q153
        exact tt_ireturn dX10_holds_163 .boolean rfl rfl (hP _ _ _ _ ⟨hG, hA, Or.inl ⟨_, rfl, ⟨_, rfl, rg_w (⟨by decide, by decide⟩ : Rg 0 0 0)⟩, ⟨rfl, congrArg (fun q => some (Value.int q)) hF.symm⟩, rfl, rfl⟩⟩)
      · skip
        have h154 : Rg 0 0 (x1 - x1 / 2 * 2) := rg_eq_l (rg_all (x1 - x1 / 2 * 2)) (⟨by decide, by decide⟩ : Rg 0 0 0) q153
        refine tt_iconst (v := 1) dX10_holds_150 rfl ?_
        refine tt_goto (tgt := 155) dX10_holds_151 rfl ?_
        refine tt_icmp_ne (tgt := 162) dX10_holds_155 rfl (fun q => absurd q (by decide)) (fun _ => ?_)
        refine tt_iconst (v := 1) dX10_holds_158 rfl ?_
        refine tt_goto (tgt := 163) dX10_holds_159 rfl ?_
        have hF : G_X10_holds (AR S o0) (QR S o0 vl) x1 = 1 := by
          exact g_X10_holds_26 q101 q110 q119 q128 q141 q150 q151 q153
        exact tt_ireturn dX10_holds_163 .boolean rfl rfl (hP _ _ _ _ ⟨hG, hA, Or.inl ⟨_, rfl, ⟨_, rfl, rg_w (⟨by decide, by decide⟩ : Rg 1 1 1)⟩, ⟨rfl, congrArg (fun q => some (Value.int q)) hF.symm⟩, rfl, rfl⟩⟩)
    · skip
      have h155 : Rg 0 0 (r2 (QR S o0 vl)) := rg_eq_l (gi_I (k := 668) hG h0 0 1) (⟨by decide, by decide⟩ : Rg 0 0 0) q151
      refine tt_aload_n (j := 0) dX10_holds_126 rfl ?_
      refine gt_gI (id := 669) (v := (r3 (QR S o0 vl))) dX10_holds_127 fl_10_322 rfl rfl h0 hA (tR_669 (T := S) (o := o0) (a := vl) rfl) ?_
      refine tt_aload_n (j := 0) dX10_holds_130 rfl ?_
      refine gt_gI (id := 671) (v := (r5 (QR S o0 vl))) dX10_holds_131 fl_10_328 rfl rfl h0 hA (tR_671 (T := S) (o := o0) (a := vl) rfl) ?_
      refine tt_icmp_eq (tgt := 141) dX10_holds_134 rfl (fun q156 => ?_) (fun q156 => ?_)
      · skip
        refine tt_iconst (v := 0) dX10_holds_141 rfl ?_
        refine tt_istore_n (ks := [0, 1, 2]) (L' := [(2, .int 0), (0, .ref o0), (1, .int x1)]) dX10_holds_142 (by decide) rfl ?_
        refine tt_iload_n (j := 0) dX10_holds_143 rfl ?_
        refine tt_iload_n (j := 2) dX10_holds_144 rfl ?_
        refine tt_iconst (v := 2) dX10_holds_145 rfl ?_
        refine tt_irem dX10_holds_146 (by decide) ?_
        refine tt_if_ne (tgt := 154) dX10_holds_147 rfl (fun q157 => ?_) (fun q157 => ?_)
        · skip
          refine tt_iconst (v := 0) dX10_holds_154 rfl ?_
          refine tt_icmp_ne (tgt := 162) dX10_holds_155 rfl (fun q => absurd q (by decide)) (fun _ => ?_)
          refine tt_iconst (v := 1) dX10_holds_158 rfl ?_
          refine tt_goto (tgt := 163) dX10_holds_159 rfl ?_
          have hF : G_X10_holds (AR S o0) (QR S o0 vl) x1 = 1 := by
            exact g_X10_holds_23 q101 q110 q119 q128 q141 q150 q151 q156 q157
          exact tt_ireturn dX10_holds_163 .boolean rfl rfl (hP _ _ _ _ ⟨hG, hA, Or.inl ⟨_, rfl, ⟨_, rfl, rg_w (⟨by decide, by decide⟩ : Rg 1 1 1)⟩, ⟨rfl, congrArg (fun q => some (Value.int q)) hF.symm⟩, rfl, rfl⟩⟩)
        · skip
          have h158 : Rg 0 0 (x1 - x1 / 2 * 2) := rg_eq_l (rg_all (x1 - x1 / 2 * 2)) (⟨by decide, by decide⟩ : Rg 0 0 0) q157
          refine tt_iconst (v := 1) dX10_holds_150 rfl ?_
          refine tt_goto (tgt := 155) dX10_holds_151 rfl ?_
          refine tt_icmp_ne (tgt := 162) dX10_holds_155 rfl (fun _ => ?_) (fun q => absurd q (by decide))
          refine tt_iconst (v := 0) dX10_holds_162 rfl ?_
          have hF : G_X10_holds (AR S o0) (QR S o0 vl) x1 = 0 := by
            exact g_X10_holds_22 q101 q110 q119 q128 q141 q150 q151 q156 q157
          exact tt_ireturn dX10_holds_163 .boolean rfl rfl (hP _ _ _ _ ⟨hG, hA, Or.inl ⟨_, rfl, ⟨_, rfl, rg_w (⟨by decide, by decide⟩ : Rg 0 0 0)⟩, ⟨rfl, congrArg (fun q => some (Value.int q)) hF.symm⟩, rfl, rfl⟩⟩)
      · skip
        refine tt_iconst (v := 1) dX10_holds_137 rfl ?_
        refine tt_goto (tgt := 142) dX10_holds_138 rfl ?_
        refine tt_istore_n (ks := [0, 1, 2]) (L' := [(2, .int 1), (0, .ref o0), (1, .int x1)]) dX10_holds_142 (by decide) rfl ?_
        refine tt_iload_n (j := 0) dX10_holds_143 rfl ?_
        refine tt_iload_n (j := 2) dX10_holds_144 rfl ?_
        refine tt_iconst (v := 2) dX10_holds_145 rfl ?_
        refine tt_irem dX10_holds_146 (by decide) ?_
        refine tt_if_ne (tgt := 154) dX10_holds_147 rfl (fun q159 => ?_) (fun q159 => ?_)
        · skip
          refine tt_iconst (v := 0) dX10_holds_154 rfl ?_
          refine tt_icmp_ne (tgt := 162) dX10_holds_155 rfl (fun _ => ?_) (fun q => absurd q (by decide))
          refine tt_iconst (v := 0) dX10_holds_162 rfl ?_
          have hF : G_X10_holds (AR S o0) (QR S o0 vl) x1 = 0 := by
            exact g_X10_holds_25 q101 q110 q119 q128 q141 q150 q151 q156 q159
          exact tt_ireturn dX10_holds_163 .boolean rfl rfl (hP _ _ _ _ ⟨hG, hA, Or.inl ⟨_, rfl, ⟨_, rfl, rg_w (⟨by decide, by decide⟩ : Rg 0 0 0)⟩, ⟨rfl, congrArg (fun q => some (Value.int q)) hF.symm⟩, rfl, rfl⟩⟩)
        · skip
          have h160 : Rg 0 0 (x1 - x1 / 2 * 2) := rg_eq_l (rg_all (x1 - x1 / 2 * 2)) (⟨by decide, by decide⟩ : Rg 0 0 0) q159
          refine tt_iconst (v := 1) dX10_holds_150 rfl ?_
          refine tt_goto (tgt := 155) dX10_holds_151 rfl ?_
          refine tt_icmp_ne (tgt := 162) dX10_holds_155 rfl (fun q => absurd q (by decide)) (fun _ => ?_)
          refine tt_iconst (v := 1) dX10_holds_158 rfl ?_
          refine tt_goto (tgt := 163) dX10_holds_159 rfl ?_
          have hF : G_X10_holds (AR S o0) (QR S o0 vl) x1 = 1 := by
            exact g_X10_holds_24 q101 q110 q119 q128 q141 q150 q151 q156 q159
          exact tt_ireturn dX10_holds_163 .boolean rfl rfl (hP _ _ _ _ ⟨hG, hA, Or.inl ⟨_, rfl, ⟨_, rfl, rg_w (⟨by decide, by decide⟩ : Rg 1 1 1)⟩, ⟨rfl, congrArg (fun q => some (Value.int q)) hF.symm⟩, rfl, rfl⟩⟩)
  refine gt_by (c := (x1 / 2) = 6) (fun q161 => ?_) (fun q161 => ?_)
  · skip
    refine gt_tseqL (off := 96) (tgt := 99) 6 6 dX10_holds_3 sl_X10_holds_3 q161 rfl (by decide) (by decide) rfl rfl ?_
    refine tt_aload_n (j := 0) dX10_holds_99 rfl ?_
    refine gt_gI (id := 669) (v := (r3 (QR S o0 vl))) dX10_holds_100 fl_10_322 rfl rfl h0 hA (tR_669 (T := S) (o := o0) (a := vl) rfl) ?_
    refine tt_aload_n (j := 0) dX10_holds_103 rfl ?_
    refine gt_gI (id := 671) (v := (r5 (QR S o0 vl))) dX10_holds_104 fl_10_328 rfl rfl h0 hA (tR_671 (T := S) (o := o0) (a := vl) rfl) ?_
    refine tt_icmp_eq (tgt := 114) dX10_holds_107 rfl (fun q162 => ?_) (fun q162 => ?_)
    · skip
      refine tt_iconst (v := 0) dX10_holds_114 rfl ?_
      refine tt_istore_n (ks := [0, 1, 2]) (L' := [(2, .int 0), (0, .ref o0), (1, .int x1)]) dX10_holds_115 (by decide) rfl ?_
      refine tt_goto (tgt := 143) dX10_holds_116 rfl ?_
      refine tt_iload_n (j := 0) dX10_holds_143 rfl ?_
      refine tt_iload_n (j := 2) dX10_holds_144 rfl ?_
      refine tt_iconst (v := 2) dX10_holds_145 rfl ?_
      refine tt_irem dX10_holds_146 (by decide) ?_
      refine tt_if_ne (tgt := 154) dX10_holds_147 rfl (fun q163 => ?_) (fun q163 => ?_)
      · skip
        refine tt_iconst (v := 0) dX10_holds_154 rfl ?_
        refine tt_icmp_ne (tgt := 162) dX10_holds_155 rfl (fun q => absurd q (by decide)) (fun _ => ?_)
        refine tt_iconst (v := 1) dX10_holds_158 rfl ?_
        refine tt_goto (tgt := 163) dX10_holds_159 rfl ?_
        have hF : G_X10_holds (AR S o0) (QR S o0 vl) x1 = 1 := by
          exact g_X10_holds_29 q101 q110 q119 q128 q141 q150 q161 q162 q163
        exact tt_ireturn dX10_holds_163 .boolean rfl rfl (hP _ _ _ _ ⟨hG, hA, Or.inl ⟨_, rfl, ⟨_, rfl, rg_w (⟨by decide, by decide⟩ : Rg 1 1 1)⟩, ⟨rfl, congrArg (fun q => some (Value.int q)) hF.symm⟩, rfl, rfl⟩⟩)
      · skip
        have h164 : Rg 0 0 (x1 - x1 / 2 * 2) := rg_eq_l (rg_all (x1 - x1 / 2 * 2)) (⟨by decide, by decide⟩ : Rg 0 0 0) q163
        refine tt_iconst (v := 1) dX10_holds_150 rfl ?_
        refine tt_goto (tgt := 155) dX10_holds_151 rfl ?_
        refine tt_icmp_ne (tgt := 162) dX10_holds_155 rfl (fun _ => ?_) (fun q => absurd q (by decide))
        refine tt_iconst (v := 0) dX10_holds_162 rfl ?_
        have hF : G_X10_holds (AR S o0) (QR S o0 vl) x1 = 0 := by
          exact g_X10_holds_28 q101 q110 q119 q128 q141 q150 q161 q162 q163
        exact tt_ireturn dX10_holds_163 .boolean rfl rfl (hP _ _ _ _ ⟨hG, hA, Or.inl ⟨_, rfl, ⟨_, rfl, rg_w (⟨by decide, by decide⟩ : Rg 0 0 0)⟩, ⟨rfl, congrArg (fun q => some (Value.int q)) hF.symm⟩, rfl, rfl⟩⟩)
    · skip
      refine tt_iconst (v := 1) dX10_holds_110 rfl ?_
      refine tt_goto (tgt := 115) dX10_holds_111 rfl ?_
      refine tt_istore_n (ks := [0, 1, 2]) (L' := [(2, .int 1), (0, .ref o0), (1, .int x1)]) dX10_holds_115 (by decide) rfl ?_
      refine tt_goto (tgt := 143) dX10_holds_116 rfl ?_
      refine tt_iload_n (j := 0) dX10_holds_143 rfl ?_
      refine tt_iload_n (j := 2) dX10_holds_144 rfl ?_
      refine tt_iconst (v := 2) dX10_holds_145 rfl ?_
      refine tt_irem dX10_holds_146 (by decide) ?_
      refine tt_if_ne (tgt := 154) dX10_holds_147 rfl (fun q165 => ?_) (fun q165 => ?_)
      · skip
        refine tt_iconst (v := 0) dX10_holds_154 rfl ?_
        refine tt_icmp_ne (tgt := 162) dX10_holds_155 rfl (fun _ => ?_) (fun q => absurd q (by decide))
        refine tt_iconst (v := 0) dX10_holds_162 rfl ?_
        have hF : G_X10_holds (AR S o0) (QR S o0 vl) x1 = 0 := by
          exact g_X10_holds_31 q101 q110 q119 q128 q141 q150 q161 q162 q165
        exact tt_ireturn dX10_holds_163 .boolean rfl rfl (hP _ _ _ _ ⟨hG, hA, Or.inl ⟨_, rfl, ⟨_, rfl, rg_w (⟨by decide, by decide⟩ : Rg 0 0 0)⟩, ⟨rfl, congrArg (fun q => some (Value.int q)) hF.symm⟩, rfl, rfl⟩⟩)
      · skip
        have h166 : Rg 0 0 (x1 - x1 / 2 * 2) := rg_eq_l (rg_all (x1 - x1 / 2 * 2)) (⟨by decide, by decide⟩ : Rg 0 0 0) q165
        refine tt_iconst (v := 1) dX10_holds_150 rfl ?_
        refine tt_goto (tgt := 155) dX10_holds_151 rfl ?_
        refine tt_icmp_ne (tgt := 162) dX10_holds_155 rfl (fun q => absurd q (by decide)) (fun _ => ?_)
        refine tt_iconst (v := 1) dX10_holds_158 rfl ?_
        refine tt_goto (tgt := 163) dX10_holds_159 rfl ?_
        have hF : G_X10_holds (AR S o0) (QR S o0 vl) x1 = 1 := by
          exact g_X10_holds_30 q101 q110 q119 q128 q141 q150 q161 q162 q165
        exact tt_ireturn dX10_holds_163 .boolean rfl rfl (hP _ _ _ _ ⟨hG, hA, Or.inl ⟨_, rfl, ⟨_, rfl, rg_w (⟨by decide, by decide⟩ : Rg 1 1 1)⟩, ⟨rfl, congrArg (fun q => some (Value.int q)) hF.symm⟩, rfl, rfl⟩⟩)
  have g167 := ne_i (k := 0) 0 q101 rfl
  have g168 := ne_i (k := 1) 1 q110 rfl
  have g169 := ne_i (k := 2) 2 q119 rfl
  have g170 := ne_i (k := 3) 3 q128 rfl
  have g171 := ne_i (k := 4) 4 q141 rfl
  have g172 := ne_i (k := 5) 5 q150 rfl
  have g173 := ne_i (k := 6) 6 q161 rfl
  refine tt_tableOut (tgt := 119) dX10_holds_3 (by omega) rfl ?_
  refine tt_aload_n (j := 0) dX10_holds_119 rfl ?_
  refine gt_gI (id := 668) (v := (r2 (QR S o0 vl))) dX10_holds_120 fl_10_319 rfl rfl h0 hA (tR_668 (T := S) (o := o0) (a := vl) rfl) ?_
  refine tt_if_ne (tgt := 137) dX10_holds_123 rfl (fun q174 => ?_) (fun q174 => ?_)
  · skip
    have h175 : Rg 1 1 (r2 (QR S o0 vl)) := rg_ne_lo (gi_I (k := 668) hG h0 0 1) (⟨by decide, by decide⟩ : Rg 0 0 0) q174
    refine tt_iconst (v := 1) dX10_holds_137 rfl ?_
    refine tt_goto (tgt := 142) dX10_holds_138 rfl ?_
    refine tt_istore_n (ks := [0, 1, 2]) (L' := [(2, .int 1), (0, .ref o0), (1, .int x1)]) dX10_holds_142 (by decide) rfl ?_
    refine tt_iload_n (j := 0) dX10_holds_143 rfl ?_
    refine tt_iload_n (j := 2) dX10_holds_144 rfl ?_
    refine tt_iconst (v := 2) dX10_holds_145 rfl ?_
    refine tt_irem dX10_holds_146 (by decide) ?_
    refine tt_if_ne (tgt := 154) dX10_holds_147 rfl (fun q176 => ?_) (fun q176 => ?_)
    · skip
      refine tt_iconst (v := 0) dX10_holds_154 rfl ?_
      refine tt_icmp_ne (tgt := 162) dX10_holds_155 rfl (fun _ => ?_) (fun q => absurd q (by decide))
      refine tt_iconst (v := 0) dX10_holds_162 rfl ?_
      have hF : G_X10_holds (AR S o0) (QR S o0 vl) x1 = 0 := by
        exact g_X10_holds_37 q101 q110 q119 q128 q141 q150 q161 q174 q176
      exact tt_ireturn dX10_holds_163 .boolean rfl rfl (hP _ _ _ _ ⟨hG, hA, Or.inl ⟨_, rfl, ⟨_, rfl, rg_w (⟨by decide, by decide⟩ : Rg 0 0 0)⟩, ⟨rfl, congrArg (fun q => some (Value.int q)) hF.symm⟩, rfl, rfl⟩⟩)
    · skip
      have h177 : Rg 0 0 (x1 - x1 / 2 * 2) := rg_eq_l (rg_all (x1 - x1 / 2 * 2)) (⟨by decide, by decide⟩ : Rg 0 0 0) q176
      refine tt_iconst (v := 1) dX10_holds_150 rfl ?_
      refine tt_goto (tgt := 155) dX10_holds_151 rfl ?_
      refine tt_icmp_ne (tgt := 162) dX10_holds_155 rfl (fun q => absurd q (by decide)) (fun _ => ?_)
      refine tt_iconst (v := 1) dX10_holds_158 rfl ?_
      refine tt_goto (tgt := 163) dX10_holds_159 rfl ?_
      have hF : G_X10_holds (AR S o0) (QR S o0 vl) x1 = 1 := by
        exact g_X10_holds_36 q101 q110 q119 q128 q141 q150 q161 q174 q176
      exact tt_ireturn dX10_holds_163 .boolean rfl rfl (hP _ _ _ _ ⟨hG, hA, Or.inl ⟨_, rfl, ⟨_, rfl, rg_w (⟨by decide, by decide⟩ : Rg 1 1 1)⟩, ⟨rfl, congrArg (fun q => some (Value.int q)) hF.symm⟩, rfl, rfl⟩⟩)
  · skip
    have h178 : Rg 0 0 (r2 (QR S o0 vl)) := rg_eq_l (gi_I (k := 668) hG h0 0 1) (⟨by decide, by decide⟩ : Rg 0 0 0) q174
    refine tt_aload_n (j := 0) dX10_holds_126 rfl ?_
    refine gt_gI (id := 669) (v := (r3 (QR S o0 vl))) dX10_holds_127 fl_10_322 rfl rfl h0 hA (tR_669 (T := S) (o := o0) (a := vl) rfl) ?_
    refine tt_aload_n (j := 0) dX10_holds_130 rfl ?_
    refine gt_gI (id := 671) (v := (r5 (QR S o0 vl))) dX10_holds_131 fl_10_328 rfl rfl h0 hA (tR_671 (T := S) (o := o0) (a := vl) rfl) ?_
    refine tt_icmp_eq (tgt := 141) dX10_holds_134 rfl (fun q179 => ?_) (fun q179 => ?_)
    · skip
      refine tt_iconst (v := 0) dX10_holds_141 rfl ?_
      refine tt_istore_n (ks := [0, 1, 2]) (L' := [(2, .int 0), (0, .ref o0), (1, .int x1)]) dX10_holds_142 (by decide) rfl ?_
      refine tt_iload_n (j := 0) dX10_holds_143 rfl ?_
      refine tt_iload_n (j := 2) dX10_holds_144 rfl ?_
      refine tt_iconst (v := 2) dX10_holds_145 rfl ?_
      refine tt_irem dX10_holds_146 (by decide) ?_
      refine tt_if_ne (tgt := 154) dX10_holds_147 rfl (fun q180 => ?_) (fun q180 => ?_)
      · skip
        refine tt_iconst (v := 0) dX10_holds_154 rfl ?_
        refine tt_icmp_ne (tgt := 162) dX10_holds_155 rfl (fun q => absurd q (by decide)) (fun _ => ?_)
        refine tt_iconst (v := 1) dX10_holds_158 rfl ?_
        refine tt_goto (tgt := 163) dX10_holds_159 rfl ?_
        have hF : G_X10_holds (AR S o0) (QR S o0 vl) x1 = 1 := by
          exact g_X10_holds_33 q101 q110 q119 q128 q141 q150 q161 q174 q179 q180
        exact tt_ireturn dX10_holds_163 .boolean rfl rfl (hP _ _ _ _ ⟨hG, hA, Or.inl ⟨_, rfl, ⟨_, rfl, rg_w (⟨by decide, by decide⟩ : Rg 1 1 1)⟩, ⟨rfl, congrArg (fun q => some (Value.int q)) hF.symm⟩, rfl, rfl⟩⟩)
      · skip
        have h181 : Rg 0 0 (x1 - x1 / 2 * 2) := rg_eq_l (rg_all (x1 - x1 / 2 * 2)) (⟨by decide, by decide⟩ : Rg 0 0 0) q180
        refine tt_iconst (v := 1) dX10_holds_150 rfl ?_
        refine tt_goto (tgt := 155) dX10_holds_151 rfl ?_
        refine tt_icmp_ne (tgt := 162) dX10_holds_155 rfl (fun _ => ?_) (fun q => absurd q (by decide))
        refine tt_iconst (v := 0) dX10_holds_162 rfl ?_
        have hF : G_X10_holds (AR S o0) (QR S o0 vl) x1 = 0 := by
          exact g_X10_holds_32 q101 q110 q119 q128 q141 q150 q161 q174 q179 q180
        exact tt_ireturn dX10_holds_163 .boolean rfl rfl (hP _ _ _ _ ⟨hG, hA, Or.inl ⟨_, rfl, ⟨_, rfl, rg_w (⟨by decide, by decide⟩ : Rg 0 0 0)⟩, ⟨rfl, congrArg (fun q => some (Value.int q)) hF.symm⟩, rfl, rfl⟩⟩)
    · skip
      refine tt_iconst (v := 1) dX10_holds_137 rfl ?_
      refine tt_goto (tgt := 142) dX10_holds_138 rfl ?_
      refine tt_istore_n (ks := [0, 1, 2]) (L' := [(2, .int 1), (0, .ref o0), (1, .int x1)]) dX10_holds_142 (by decide) rfl ?_
      refine tt_iload_n (j := 0) dX10_holds_143 rfl ?_
      refine tt_iload_n (j := 2) dX10_holds_144 rfl ?_
      refine tt_iconst (v := 2) dX10_holds_145 rfl ?_
      refine tt_irem dX10_holds_146 (by decide) ?_
      refine tt_if_ne (tgt := 154) dX10_holds_147 rfl (fun q182 => ?_) (fun q182 => ?_)
      · skip
        refine tt_iconst (v := 0) dX10_holds_154 rfl ?_
        refine tt_icmp_ne (tgt := 162) dX10_holds_155 rfl (fun _ => ?_) (fun q => absurd q (by decide))
        refine tt_iconst (v := 0) dX10_holds_162 rfl ?_
        have hF : G_X10_holds (AR S o0) (QR S o0 vl) x1 = 0 := by
          exact g_X10_holds_35 q101 q110 q119 q128 q141 q150 q161 q174 q179 q182
        exact tt_ireturn dX10_holds_163 .boolean rfl rfl (hP _ _ _ _ ⟨hG, hA, Or.inl ⟨_, rfl, ⟨_, rfl, rg_w (⟨by decide, by decide⟩ : Rg 0 0 0)⟩, ⟨rfl, congrArg (fun q => some (Value.int q)) hF.symm⟩, rfl, rfl⟩⟩)
      · skip
        have h183 : Rg 0 0 (x1 - x1 / 2 * 2) := rg_eq_l (rg_all (x1 - x1 / 2 * 2)) (⟨by decide, by decide⟩ : Rg 0 0 0) q182
        refine tt_iconst (v := 1) dX10_holds_150 rfl ?_
        refine tt_goto (tgt := 155) dX10_holds_151 rfl ?_
        refine tt_icmp_ne (tgt := 162) dX10_holds_155 rfl (fun q => absurd q (by decide)) (fun _ => ?_)
        refine tt_iconst (v := 1) dX10_holds_158 rfl ?_
        refine tt_goto (tgt := 163) dX10_holds_159 rfl ?_
        have hF : G_X10_holds (AR S o0) (QR S o0 vl) x1 = 1 := by
          exact g_X10_holds_34 q101 q110 q119 q128 q141 q150 q161 q174 q179 q182
        exact tt_ireturn dX10_holds_163 .boolean rfl rfl (hP _ _ _ _ ⟨hG, hA, Or.inl ⟨_, rfl, ⟨_, rfl, rg_w (⟨by decide, by decide⟩ : Rg 1 1 1)⟩, ⟨rfl, congrArg (fun q => some (Value.int q)) hF.symm⟩, rfl, rfl⟩⟩)
def G_X10_oneMore_p24 (n : Int32) (q : AU) (j : Int64) (w : RS) : RS × Int32 :=
  if (u0 q) = 22 then
    (w, 1)
  else
    if (u0 q) = 19 then
      if (r1 w) = 0 then
        if 19 ≤ (u0 q) then
          if (u0 q) = 20 then
            if (G_X10_isIn (j) (0) (((n - 1) : Int32).toInt64)) = 0 then
              (((-2), (r1 w), (r2 w), (r3 w), (r4 w), (r5 w), (rA w)), 0)
            else
              (((j : Int64).toInt32, (r1 w), (r2 w), (r3 w), (r4 w), (r5 w), (rA w)), 0)
          else
            if (G_X10_holds q w ((u4 q))) = 0 then
              if (G_X10_isIn ((((r0 w) + (u5 q)) : Int32).toInt64) (0) (((n - 1) : Int32).toInt64)) = 0 then
                (((-2), (r1 w), (r2 w), (r3 w), (r4 w), (r5 w), (rA w)), 0)
              else
                ((((((r0 w) + (u5 q)) : Int32).toInt64 : Int64).toInt32, (r1 w), (r2 w), (r3 w), (r4 w), (r5 w), (rA w)), 0)
            else
              if (G_X10_isIn (j) (0) (((n - 1) : Int32).toInt64)) = 0 then
                (((-2), (r1 w), (r2 w), (r3 w), (r4 w), (r5 w), (rA w)), 0)
              else
                (((j : Int64).toInt32, (r1 w), (r2 w), (r3 w), (r4 w), (r5 w), (rA w)), 0)
        else
          (w, 0)
      else
        (w, 4)
    else
      if 19 ≤ (u0 q) then
        if (u0 q) = 20 then
          if (G_X10_isIn (j) (0) (((n - 1) : Int32).toInt64)) = 0 then
            (((-2), (r1 w), (r2 w), (r3 w), (r4 w), (r5 w), (rA w)), 0)
          else
            (((j : Int64).toInt32, (r1 w), (r2 w), (r3 w), (r4 w), (r5 w), (rA w)), 0)
        else
          if (G_X10_isIn ((((r0 w) + (u5 q)) : Int32).toInt64) (0) (((n - 1) : Int32).toInt64)) = 0 then
            (((-2), (r1 w), (r2 w), (r3 w), (r4 w), (r5 w), (rA w)), 0)
          else
            ((((((r0 w) + (u5 q)) : Int32).toInt64 : Int64).toInt32, (r1 w), (r2 w), (r3 w), (r4 w), (r5 w), (rA w)), 0)
      else
        let d153 := G_X10_run q j w 
        if (G_X10_isIn ((((r0 w) + (u5 q)) : Int32).toInt64) (0) (((n - 1) : Int32).toInt64)) = 0 then
          (((-2), (r1 d153), (r2 d153), (r3 d153), (r4 d153), (r5 d153), (rA d153)), 0)
        else
          ((((((r0 w) + (u5 q)) : Int32).toInt64 : Int64).toInt32, (r1 d153), (r2 d153), (r3 d153), (r4 d153), (r5 d153), (rA d153)), 0)
theorem g_X10_oneMore_p24_0 {n : Int32} {q : AU} {j : Int64} {w : RS} (h0 : (u0 q) = 22) : G_X10_oneMore_p24 n q j w  = (w, 1) := by unfold G_X10_oneMore_p24; exact if_pos h0
theorem g_X10_oneMore_p24_1 {n : Int32} {q : AU} {j : Int64} {w : RS} (h0 : ¬ (u0 q) = 22) (h1 : (u0 q) = 19) (h2 : (r1 w) = 0) (h3 : 19 ≤ (u0 q)) (h4 : (u0 q) = 20) (h5 : (G_X10_isIn (j) (0) (((n - 1) : Int32).toInt64)) = 0) : G_X10_oneMore_p24 n q j w  = (((-2), (r1 w), (r2 w), (r3 w), (r4 w), (r5 w), (rA w)), 0) := by unfold G_X10_oneMore_p24; exact Eq.trans (if_neg h0) (Eq.trans (if_pos h1) (Eq.trans (if_pos h2) (Eq.trans (if_pos h3) (Eq.trans (if_pos h4) (if_pos h5)))))
theorem g_X10_oneMore_p24_2 {n : Int32} {q : AU} {j : Int64} {w : RS} (h0 : ¬ (u0 q) = 22) (h1 : (u0 q) = 19) (h2 : (r1 w) = 0) (h3 : 19 ≤ (u0 q)) (h4 : (u0 q) = 20) (h5 : ¬ (G_X10_isIn (j) (0) (((n - 1) : Int32).toInt64)) = 0) : G_X10_oneMore_p24 n q j w  = (((j : Int64).toInt32, (r1 w), (r2 w), (r3 w), (r4 w), (r5 w), (rA w)), 0) := by unfold G_X10_oneMore_p24; exact Eq.trans (if_neg h0) (Eq.trans (if_pos h1) (Eq.trans (if_pos h2) (Eq.trans (if_pos h3) (Eq.trans (if_pos h4) (if_neg h5)))))
theorem g_X10_oneMore_p24_3 {n : Int32} {q : AU} {j : Int64} {w : RS} (h0 : ¬ (u0 q) = 22) (h1 : (u0 q) = 19) (h2 : (r1 w) = 0) (h3 : 19 ≤ (u0 q)) (h4 : ¬ (u0 q) = 20) (h5 : (G_X10_holds q w ((u4 q))) = 0) (h6 : (G_X10_isIn ((((r0 w) + (u5 q)) : Int32).toInt64) (0) (((n - 1) : Int32).toInt64)) = 0) : G_X10_oneMore_p24 n q j w  = (((-2), (r1 w), (r2 w), (r3 w), (r4 w), (r5 w), (rA w)), 0) := by unfold G_X10_oneMore_p24; exact Eq.trans (if_neg h0) (Eq.trans (if_pos h1) (Eq.trans (if_pos h2) (Eq.trans (if_pos h3) (Eq.trans (if_neg h4) (Eq.trans (if_pos h5) (if_pos h6))))))
theorem g_X10_oneMore_p24_4 {n : Int32} {q : AU} {j : Int64} {w : RS} (h0 : ¬ (u0 q) = 22) (h1 : (u0 q) = 19) (h2 : (r1 w) = 0) (h3 : 19 ≤ (u0 q)) (h4 : ¬ (u0 q) = 20) (h5 : (G_X10_holds q w ((u4 q))) = 0) (h6 : ¬ (G_X10_isIn ((((r0 w) + (u5 q)) : Int32).toInt64) (0) (((n - 1) : Int32).toInt64)) = 0) : G_X10_oneMore_p24 n q j w  = ((((((r0 w) + (u5 q)) : Int32).toInt64 : Int64).toInt32, (r1 w), (r2 w), (r3 w), (r4 w), (r5 w), (rA w)), 0) := by unfold G_X10_oneMore_p24; exact Eq.trans (if_neg h0) (Eq.trans (if_pos h1) (Eq.trans (if_pos h2) (Eq.trans (if_pos h3) (Eq.trans (if_neg h4) (Eq.trans (if_pos h5) (if_neg h6))))))
theorem g_X10_oneMore_p24_5 {n : Int32} {q : AU} {j : Int64} {w : RS} (h0 : ¬ (u0 q) = 22) (h1 : (u0 q) = 19) (h2 : (r1 w) = 0) (h3 : 19 ≤ (u0 q)) (h4 : ¬ (u0 q) = 20) (h5 : ¬ (G_X10_holds q w ((u4 q))) = 0) (h6 : (G_X10_isIn (j) (0) (((n - 1) : Int32).toInt64)) = 0) : G_X10_oneMore_p24 n q j w  = (((-2), (r1 w), (r2 w), (r3 w), (r4 w), (r5 w), (rA w)), 0) := by unfold G_X10_oneMore_p24; exact Eq.trans (if_neg h0) (Eq.trans (if_pos h1) (Eq.trans (if_pos h2) (Eq.trans (if_pos h3) (Eq.trans (if_neg h4) (Eq.trans (if_neg h5) (if_pos h6))))))
theorem g_X10_oneMore_p24_6 {n : Int32} {q : AU} {j : Int64} {w : RS} (h0 : ¬ (u0 q) = 22) (h1 : (u0 q) = 19) (h2 : (r1 w) = 0) (h3 : 19 ≤ (u0 q)) (h4 : ¬ (u0 q) = 20) (h5 : ¬ (G_X10_holds q w ((u4 q))) = 0) (h6 : ¬ (G_X10_isIn (j) (0) (((n - 1) : Int32).toInt64)) = 0) : G_X10_oneMore_p24 n q j w  = (((j : Int64).toInt32, (r1 w), (r2 w), (r3 w), (r4 w), (r5 w), (rA w)), 0) := by unfold G_X10_oneMore_p24; exact Eq.trans (if_neg h0) (Eq.trans (if_pos h1) (Eq.trans (if_pos h2) (Eq.trans (if_pos h3) (Eq.trans (if_neg h4) (Eq.trans (if_neg h5) (if_neg h6))))))
theorem g_X10_oneMore_p24_7 {n : Int32} {q : AU} {j : Int64} {w : RS} (h0 : ¬ (u0 q) = 22) (h1 : (u0 q) = 19) (h2 : (r1 w) = 0) (h3 : ¬ 19 ≤ (u0 q)) : G_X10_oneMore_p24 n q j w  = (w, 0) := by unfold G_X10_oneMore_p24; exact Eq.trans (if_neg h0) (Eq.trans (if_pos h1) (Eq.trans (if_pos h2) (if_neg h3)))
theorem g_X10_oneMore_p24_8 {n : Int32} {q : AU} {j : Int64} {w : RS} (h0 : ¬ (u0 q) = 22) (h1 : (u0 q) = 19) (h2 : ¬ (r1 w) = 0) : G_X10_oneMore_p24 n q j w  = (w, 4) := by unfold G_X10_oneMore_p24; exact Eq.trans (if_neg h0) (Eq.trans (if_pos h1) (if_neg h2))
theorem g_X10_oneMore_p24_9 {n : Int32} {q : AU} {j : Int64} {w : RS} (h0 : ¬ (u0 q) = 22) (h1 : ¬ (u0 q) = 19) (h2 : 19 ≤ (u0 q)) (h3 : (u0 q) = 20) (h4 : (G_X10_isIn (j) (0) (((n - 1) : Int32).toInt64)) = 0) : G_X10_oneMore_p24 n q j w  = (((-2), (r1 w), (r2 w), (r3 w), (r4 w), (r5 w), (rA w)), 0) := by unfold G_X10_oneMore_p24; exact Eq.trans (if_neg h0) (Eq.trans (if_neg h1) (Eq.trans (if_pos h2) (Eq.trans (if_pos h3) (if_pos h4))))
theorem g_X10_oneMore_p24_10 {n : Int32} {q : AU} {j : Int64} {w : RS} (h0 : ¬ (u0 q) = 22) (h1 : ¬ (u0 q) = 19) (h2 : 19 ≤ (u0 q)) (h3 : (u0 q) = 20) (h4 : ¬ (G_X10_isIn (j) (0) (((n - 1) : Int32).toInt64)) = 0) : G_X10_oneMore_p24 n q j w  = (((j : Int64).toInt32, (r1 w), (r2 w), (r3 w), (r4 w), (r5 w), (rA w)), 0) := by unfold G_X10_oneMore_p24; exact Eq.trans (if_neg h0) (Eq.trans (if_neg h1) (Eq.trans (if_pos h2) (Eq.trans (if_pos h3) (if_neg h4))))
theorem g_X10_oneMore_p24_11 {n : Int32} {q : AU} {j : Int64} {w : RS} (h0 : ¬ (u0 q) = 22) (h1 : ¬ (u0 q) = 19) (h2 : 19 ≤ (u0 q)) (h3 : ¬ (u0 q) = 20) (h4 : (G_X10_isIn ((((r0 w) + (u5 q)) : Int32).toInt64) (0) (((n - 1) : Int32).toInt64)) = 0) : G_X10_oneMore_p24 n q j w  = (((-2), (r1 w), (r2 w), (r3 w), (r4 w), (r5 w), (rA w)), 0) := by unfold G_X10_oneMore_p24; exact Eq.trans (if_neg h0) (Eq.trans (if_neg h1) (Eq.trans (if_pos h2) (Eq.trans (if_neg h3) (if_pos h4))))
theorem g_X10_oneMore_p24_12 {n : Int32} {q : AU} {j : Int64} {w : RS} (h0 : ¬ (u0 q) = 22) (h1 : ¬ (u0 q) = 19) (h2 : 19 ≤ (u0 q)) (h3 : ¬ (u0 q) = 20) (h4 : ¬ (G_X10_isIn ((((r0 w) + (u5 q)) : Int32).toInt64) (0) (((n - 1) : Int32).toInt64)) = 0) : G_X10_oneMore_p24 n q j w  = ((((((r0 w) + (u5 q)) : Int32).toInt64 : Int64).toInt32, (r1 w), (r2 w), (r3 w), (r4 w), (r5 w), (rA w)), 0) := by unfold G_X10_oneMore_p24; exact Eq.trans (if_neg h0) (Eq.trans (if_neg h1) (Eq.trans (if_pos h2) (Eq.trans (if_neg h3) (if_neg h4))))
theorem g_X10_oneMore_p24_13 {n : Int32} {q : AU} {j : Int64} {w : RS} (h0 : ¬ (u0 q) = 22) (h1 : ¬ (u0 q) = 19) (h2 : ¬ 19 ≤ (u0 q)) (h3 : (G_X10_isIn ((((r0 w) + (u5 q)) : Int32).toInt64) (0) (((n - 1) : Int32).toInt64)) = 0) : G_X10_oneMore_p24 n q j w  = (((-2), (r1 (G_X10_run q j w)), (r2 (G_X10_run q j w)), (r3 (G_X10_run q j w)), (r4 (G_X10_run q j w)), (r5 (G_X10_run q j w)), (rA (G_X10_run q j w))), 0) := by unfold G_X10_oneMore_p24; exact Eq.trans (if_neg h0) (Eq.trans (if_neg h1) (Eq.trans (if_neg h2) (if_pos h3)))
theorem g_X10_oneMore_p24_14 {n : Int32} {q : AU} {j : Int64} {w : RS} (h0 : ¬ (u0 q) = 22) (h1 : ¬ (u0 q) = 19) (h2 : ¬ 19 ≤ (u0 q)) (h3 : ¬ (G_X10_isIn ((((r0 w) + (u5 q)) : Int32).toInt64) (0) (((n - 1) : Int32).toInt64)) = 0) : G_X10_oneMore_p24 n q j w  = ((((((r0 w) + (u5 q)) : Int32).toInt64 : Int64).toInt32, (r1 (G_X10_run q j w)), (r2 (G_X10_run q j w)), (r3 (G_X10_run q j w)), (r4 (G_X10_run q j w)), (r5 (G_X10_run q j w)), (rA (G_X10_run q j w))), 0) := by unfold G_X10_oneMore_p24; exact Eq.trans (if_neg h0) (Eq.trans (if_neg h1) (Eq.trans (if_neg h2) (if_neg h3)))
set_option maxHeartbeats 40000000 in
theorem cr_X10_oneMore_p24 {xi : SX} {S : Hp} {E : List Nat} {kc nc : Nat} {P : Po} {o0 : Nat} {vl : Nat} {bs : Nat → Int32} {n : Int32} (hG : GI S E) (hc : RRx S E o0 vl bs n) (hg : ¬ 19 ≤ (u0 (AR S o0)) → Rg 0 23 (u2 (AR S o0)) ∧ Rg (-1) 23 (u3 (AR S o0))) (hP : ∀ r T x y, PV E [664, 667, 668, 669, 670, 671, 9990] S kc nc (rI 0 4) (fun v T => YIR (G_X10_oneMore_p24 n (AR S o0) (hp_J S 660 o0) (QR S o0 vl) ) T o0 vl v) [] r T x y → P r T x y) : TT xi M_X10_oneMore 24 [(0, .ref o0)] [] S kc nc P := by
  obtain ⟨h0, hrv, hov, hb, rfl⟩ := id hc
  have hA : Af E [664, 667, 668, 669, 670, 671, 9990] S S := af_rf
  refine tt_aload_n (j := 0) dX10_oneMore_24 rfl ?_
  refine gt_gI (id := 655) (v := (u0 (AR S o0))) dX10_oneMore_25 fl_10_107 rfl rfl h0 hA (uR_655 (T := S) (o := o0) rfl) ?_
  refine tt_bipush (v := 22) dX10_oneMore_28 rfl ?_
  refine tt_icmp_ne (tgt := 35) dX10_oneMore_30 rfl (fun q101 => ?_) (fun q101 => ?_)
  · skip
    refine tt_aload_n (j := 0) dX10_oneMore_35 rfl ?_
    refine gt_gI (id := 655) (v := (u0 (AR S o0))) dX10_oneMore_36 fl_10_107 rfl rfl h0 hA (uR_655 (T := S) (o := o0) rfl) ?_
    refine tt_bipush (v := 19) dX10_oneMore_39 rfl ?_
    refine tt_icmp_ne (tgt := 53) dX10_oneMore_41 rfl (fun q102 => ?_) (fun q102 => ?_)
    · skip
      refine tt_aload_n (j := 0) dX10_oneMore_53 rfl ?_
      refine gt_gI (id := 664) (v := (r0 (QR S o0 vl))) dX10_oneMore_54 fl_10_45 rfl rfl h0 hA (tR_664 (T := S) (o := o0) (a := vl) rfl) ?_
      refine tt_aload_n (j := 0) dX10_oneMore_57 rfl ?_
      refine gt_gI (id := 661) (v := (u5 (AR S o0))) dX10_oneMore_58 fl_10_134 rfl rfl h0 hA (uR_661 (T := S) (o := o0) rfl) ?_
      refine tt_iadd dX10_oneMore_61 ?_
      refine tt_i2l dX10_oneMore_62 ?_
      refine tt_lstore_n (ks := [0, 1]) (L' := [(1, .long (((r0 (QR S o0 vl)) + (u5 (AR S o0))) : Int32).toInt64), (0, .ref o0)]) dX10_oneMore_63 (by decide) rfl ?_
      refine tt_aload_n (j := 1) dX10_oneMore_64 rfl ?_
      refine gt_gI (id := 655) (v := (u0 (AR S o0))) dX10_oneMore_65 fl_10_107 rfl rfl h0 hA (uR_655 (T := S) (o := o0) rfl) ?_
      refine tt_bipush (v := 19) dX10_oneMore_68 rfl ?_
      refine tt_icmp_ge (tgt := 80) dX10_oneMore_70 rfl (fun q103 => ?_) (fun q103 => ?_)
      · skip
        have h104 : Rg 19 2147483647 (u0 (AR S o0)) := rg_le_r (⟨by decide, by decide⟩ : Rg 19 19 19) (rg_all (u0 (AR S o0))) q103
        refine tt_aload_n (j := 1) dX10_oneMore_80 rfl ?_
        refine gt_gI (id := 655) (v := (u0 (AR S o0))) dX10_oneMore_81 fl_10_107 rfl rfl h0 hA (uR_655 (T := S) (o := o0) rfl) ?_
        refine tt_bipush (v := 20) dX10_oneMore_84 rfl ?_
        refine tt_icmp_eq (tgt := 109) dX10_oneMore_86 rfl (fun q105 => ?_) (fun q105 => ?_)
        · skip
          have h106 : Rg 20 20 (u0 (AR S o0)) := rg_eq_l h104 (⟨by decide, by decide⟩ : Rg 20 20 20) q105
          refine tt_aload_n (j := 1) dX10_oneMore_109 rfl ?_
          refine gt_gJ (id := 660) (v := (hp_J S 660 o0)) dX10_oneMore_110 fl_10_116 rfl rfl h0 hA rfl ?_
          refine tt_lstore_n (ks := [0, 1]) (L' := [(1, .long (hp_J S 660 o0)), (0, .ref o0)]) dX10_oneMore_113 (by decide) rfl ?_
          refine tt_aload_n (j := 1) dX10_oneMore_114 rfl ?_
          refine tt_lload_n (j := 0) dX10_oneMore_115 rfl ?_
          refine tt_lconst (v := 0) dX10_oneMore_116 rfl ?_
          refine tt_aload_n (j := 1) dX10_oneMore_117 rfl ?_
          refine tt_getI (id := 642) dX10_oneMore_118 fl_10_71 rfl rfl (ob_af h0 hA) ?_
          refine tt_iconst (v := 1) dX10_oneMore_121 rfl ?_
          refine tt_isub dX10_oneMore_122 ?_
          refine tt_i2l dX10_oneMore_123 ?_
          refine gt_SIp (As := [.long (hp_J S 660 o0), .long 0, .long (((hp_I S 642 o0) - 1) : Int32).toInt64]) dX10_oneMore_124 ca_X10_67 ⟨by decide, by decide⟩ hA (Nat.le_of_ble_eq_true rfl) (Nat.le_of_ble_eq_true rfl) (by decide) (cr_X10_isIn hG  (fun _ _ _ _ h => h)) rfl (fun _ h => nomatch h) (fun _ _ q => q.1) (fun x107 h108 hx109 => ?_)
          obtain rfl : G_X10_isIn ((hp_J S 660 o0)) (0) ((((hp_I S 642 o0) - 1) : Int32).toInt64) = x107 := (ei_w hx109.2).symm
          refine tt_if_eq (tgt := 135) dX10_oneMore_127 rfl (fun q110 => ?_) (fun q110 => ?_)
          · skip
            have h111 : Rg 0 0 (G_X10_isIn ((hp_J S 660 o0)) (0) ((((hp_I S 642 o0) - 1) : Int32).toInt64)) := rg_eq_l h108 (⟨by decide, by decide⟩ : Rg 0 0 0) q110
            refine tt_bipush (v := (-2)) dX10_oneMore_135 rfl ?_
            refine gt_pIj (id := 664) (x := (-2)) dX10_oneMore_137 fl_10_45 rfl rfl h0 hA rfl rfl rfl (gp_Ir hG (⟨by decide, by decide⟩ : Rg (-2) (-2) (-2))) (by decide) (fun h => absurd h (by decide)) (fun _ _ _ => rg_nec (⟨by decide, by decide⟩ : Rg (-2) (-2) (-2))) (fun S112 hG113 hA114 e115 f116 er117 ej118 => ?_)
            refine tt_iconst (v := 0) dX10_oneMore_140 rfl ?_
            have hF : G_X10_oneMore_p24 (hp_I S 642 o0) (AR S o0) (hp_J S 660 o0) (QR S o0 vl)  = (((-2), (r1 (QR S o0 vl)), (r2 (QR S o0 vl)), (r3 (QR S o0 vl)), (r4 (QR S o0 vl)), (r5 (QR S o0 vl)), (rA (QR S o0 vl))), 0) := by
              exact g_X10_oneMore_p24_9 q101 q102 q103 q105 q110
            exact tt_ireturn dX10_oneMore_141 .int rfl rfl (hP _ _ _ _ ⟨hG113, hA114, Or.inl ⟨_, rfl, ⟨_, rfl, rg_w (⟨by decide, by decide⟩ : Rg 0 0 0)⟩, yiR_mk hF (qR_mk (by rw [e115]; exact up2_self) ((congrFun (congrFun e115 667) o0).trans ((congrFun (up2_ne (k := 667)) o0).trans (tR_667 (T := S) (o := o0) (a := vl) rfl))) ((congrFun (congrFun e115 668) o0).trans ((congrFun (up2_ne (k := 668)) o0).trans (tR_668 (T := S) (o := o0) (a := vl) rfl))) ((congrFun (congrFun e115 669) o0).trans ((congrFun (up2_ne (k := 669)) o0).trans (tR_669 (T := S) (o := o0) (a := vl) rfl))) ((congrFun (congrFun e115 670) o0).trans ((congrFun (up2_ne (k := 670)) o0).trans (tR_670 (T := S) (o := o0) (a := vl) rfl))) ((congrFun (congrFun e115 671) o0).trans ((congrFun (up2_ne (k := 671)) o0).trans (tR_671 (T := S) (o := o0) (a := vl) rfl))) ((congrFun ej118 vl).trans rfl)), rfl, rfl⟩⟩)
          · skip
            have h119 : Rl 0 199 (hp_J S 660 o0) := isn_rl q110 (gi_I (k := 642) hG h0 0 200)
            refine tt_lload_n (j := 0) dX10_oneMore_130 rfl ?_
            refine tt_l2i dX10_oneMore_131 ?_
            refine tt_goto (tgt := 137) dX10_oneMore_132 rfl ?_
            refine gt_pIj (id := 664) (x := ((hp_J S 660 o0) : Int64).toInt32) dX10_oneMore_137 fl_10_45 rfl rfl h0 hA rfl rfl rfl (gp_Ir hG (rl_l2i h119)) (by decide) (fun h => absurd h (by decide)) (fun _ _ _ => rg_nec (rl_l2i h119)) (fun S120 hG121 hA122 e123 f124 er125 ej126 => ?_)
            refine tt_iconst (v := 0) dX10_oneMore_140 rfl ?_
            have hF : G_X10_oneMore_p24 (hp_I S 642 o0) (AR S o0) (hp_J S 660 o0) (QR S o0 vl)  = ((((hp_J S 660 o0) : Int64).toInt32, (r1 (QR S o0 vl)), (r2 (QR S o0 vl)), (r3 (QR S o0 vl)), (r4 (QR S o0 vl)), (r5 (QR S o0 vl)), (rA (QR S o0 vl))), 0) := by
              exact g_X10_oneMore_p24_10 q101 q102 q103 q105 q110
            exact tt_ireturn dX10_oneMore_141 .int rfl rfl (hP _ _ _ _ ⟨hG121, hA122, Or.inl ⟨_, rfl, ⟨_, rfl, rg_w (⟨by decide, by decide⟩ : Rg 0 0 0)⟩, yiR_mk hF (qR_mk (by rw [e123]; exact up2_self) ((congrFun (congrFun e123 667) o0).trans ((congrFun (up2_ne (k := 667)) o0).trans (tR_667 (T := S) (o := o0) (a := vl) rfl))) ((congrFun (congrFun e123 668) o0).trans ((congrFun (up2_ne (k := 668)) o0).trans (tR_668 (T := S) (o := o0) (a := vl) rfl))) ((congrFun (congrFun e123 669) o0).trans ((congrFun (up2_ne (k := 669)) o0).trans (tR_669 (T := S) (o := o0) (a := vl) rfl))) ((congrFun (congrFun e123 670) o0).trans ((congrFun (up2_ne (k := 670)) o0).trans (tR_670 (T := S) (o := o0) (a := vl) rfl))) ((congrFun (congrFun e123 671) o0).trans ((congrFun (up2_ne (k := 671)) o0).trans (tR_671 (T := S) (o := o0) (a := vl) rfl))) ((congrFun ej126 vl).trans rfl)), rfl, rfl⟩⟩)
        · skip
          refine tt_aload_n (j := 1) dX10_oneMore_89 rfl ?_
          refine gt_gI (id := 655) (v := (u0 (AR S o0))) dX10_oneMore_90 fl_10_107 rfl rfl h0 hA (uR_655 (T := S) (o := o0) rfl) ?_
          refine tt_bipush (v := 19) dX10_oneMore_93 rfl ?_
          refine tt_icmp_ne (tgt := 114) dX10_oneMore_95 rfl (fun _ => ?_) (fun q => absurd q q102)
          refine tt_aload_n (j := 1) dX10_oneMore_114 rfl ?_
          refine tt_lload_n (j := 0) dX10_oneMore_115 rfl ?_
          refine tt_lconst (v := 0) dX10_oneMore_116 rfl ?_
          refine tt_aload_n (j := 1) dX10_oneMore_117 rfl ?_
          refine tt_getI (id := 642) dX10_oneMore_118 fl_10_71 rfl rfl (ob_af h0 hA) ?_
          refine tt_iconst (v := 1) dX10_oneMore_121 rfl ?_
          refine tt_isub dX10_oneMore_122 ?_
          refine tt_i2l dX10_oneMore_123 ?_
          refine gt_SIp (As := [.long (((r0 (QR S o0 vl)) + (u5 (AR S o0))) : Int32).toInt64, .long 0, .long (((hp_I S 642 o0) - 1) : Int32).toInt64]) dX10_oneMore_124 ca_X10_67 ⟨by decide, by decide⟩ hA (Nat.le_of_ble_eq_true rfl) (Nat.le_of_ble_eq_true rfl) (by decide) (cr_X10_isIn hG  (fun _ _ _ _ h => h)) rfl (fun _ h => nomatch h) (fun _ _ q => q.1) (fun x127 h128 hx129 => ?_)
          obtain rfl : G_X10_isIn ((((r0 (QR S o0 vl)) + (u5 (AR S o0))) : Int32).toInt64) (0) ((((hp_I S 642 o0) - 1) : Int32).toInt64) = x127 := (ei_w hx129.2).symm
          refine tt_if_eq (tgt := 135) dX10_oneMore_127 rfl (fun q130 => ?_) (fun q130 => ?_)
          · skip
            have h131 : Rg 0 0 (G_X10_isIn ((((r0 (QR S o0 vl)) + (u5 (AR S o0))) : Int32).toInt64) (0) ((((hp_I S 642 o0) - 1) : Int32).toInt64)) := rg_eq_l h128 (⟨by decide, by decide⟩ : Rg 0 0 0) q130
            refine tt_bipush (v := (-2)) dX10_oneMore_135 rfl ?_
            refine gt_pIj (id := 664) (x := (-2)) dX10_oneMore_137 fl_10_45 rfl rfl h0 hA rfl rfl rfl (gp_Ir hG (⟨by decide, by decide⟩ : Rg (-2) (-2) (-2))) (by decide) (fun h => absurd h (by decide)) (fun _ _ _ => rg_nec (⟨by decide, by decide⟩ : Rg (-2) (-2) (-2))) (fun S132 hG133 hA134 e135 f136 er137 ej138 => ?_)
            refine tt_iconst (v := 0) dX10_oneMore_140 rfl ?_
            have hF : G_X10_oneMore_p24 (hp_I S 642 o0) (AR S o0) (hp_J S 660 o0) (QR S o0 vl)  = (((-2), (r1 (QR S o0 vl)), (r2 (QR S o0 vl)), (r3 (QR S o0 vl)), (r4 (QR S o0 vl)), (r5 (QR S o0 vl)), (rA (QR S o0 vl))), 0) := by
              exact g_X10_oneMore_p24_11 q101 q102 q103 q105 q130
            exact tt_ireturn dX10_oneMore_141 .int rfl rfl (hP _ _ _ _ ⟨hG133, hA134, Or.inl ⟨_, rfl, ⟨_, rfl, rg_w (⟨by decide, by decide⟩ : Rg 0 0 0)⟩, yiR_mk hF (qR_mk (by rw [e135]; exact up2_self) ((congrFun (congrFun e135 667) o0).trans ((congrFun (up2_ne (k := 667)) o0).trans (tR_667 (T := S) (o := o0) (a := vl) rfl))) ((congrFun (congrFun e135 668) o0).trans ((congrFun (up2_ne (k := 668)) o0).trans (tR_668 (T := S) (o := o0) (a := vl) rfl))) ((congrFun (congrFun e135 669) o0).trans ((congrFun (up2_ne (k := 669)) o0).trans (tR_669 (T := S) (o := o0) (a := vl) rfl))) ((congrFun (congrFun e135 670) o0).trans ((congrFun (up2_ne (k := 670)) o0).trans (tR_670 (T := S) (o := o0) (a := vl) rfl))) ((congrFun (congrFun e135 671) o0).trans ((congrFun (up2_ne (k := 671)) o0).trans (tR_671 (T := S) (o := o0) (a := vl) rfl))) ((congrFun ej138 vl).trans rfl)), rfl, rfl⟩⟩)
          · skip
            have h139 : Rl 0 199 (((r0 (QR S o0 vl)) + (u5 (AR S o0))) : Int32).toInt64 := isn_rl q130 (gi_I (k := 642) hG h0 0 200)
            refine tt_lload_n (j := 0) dX10_oneMore_130 rfl ?_
            refine tt_l2i dX10_oneMore_131 ?_
            refine tt_goto (tgt := 137) dX10_oneMore_132 rfl ?_
            refine gt_pIj (id := 664) (x := ((((r0 (QR S o0 vl)) + (u5 (AR S o0))) : Int32).toInt64 : Int64).toInt32) dX10_oneMore_137 fl_10_45 rfl rfl h0 hA rfl rfl rfl (gp_Ir hG (rl_l2i h139)) (by decide) (fun h => absurd h (by decide)) (fun _ _ _ => rg_nec (rl_l2i h139)) (fun S140 hG141 hA142 e143 f144 er145 ej146 => ?_)
            refine tt_iconst (v := 0) dX10_oneMore_140 rfl ?_
            have hF : G_X10_oneMore_p24 (hp_I S 642 o0) (AR S o0) (hp_J S 660 o0) (QR S o0 vl)  = ((((((r0 (QR S o0 vl)) + (u5 (AR S o0))) : Int32).toInt64 : Int64).toInt32, (r1 (QR S o0 vl)), (r2 (QR S o0 vl)), (r3 (QR S o0 vl)), (r4 (QR S o0 vl)), (r5 (QR S o0 vl)), (rA (QR S o0 vl))), 0) := by
              exact g_X10_oneMore_p24_12 q101 q102 q103 q105 q130
            exact tt_ireturn dX10_oneMore_141 .int rfl rfl (hP _ _ _ _ ⟨hG141, hA142, Or.inl ⟨_, rfl, ⟨_, rfl, rg_w (⟨by decide, by decide⟩ : Rg 0 0 0)⟩, yiR_mk hF (qR_mk (by rw [e143]; exact up2_self) ((congrFun (congrFun e143 667) o0).trans ((congrFun (up2_ne (k := 667)) o0).trans (tR_667 (T := S) (o := o0) (a := vl) rfl))) ((congrFun (congrFun e143 668) o0).trans ((congrFun (up2_ne (k := 668)) o0).trans (tR_668 (T := S) (o := o0) (a := vl) rfl))) ((congrFun (congrFun e143 669) o0).trans ((congrFun (up2_ne (k := 669)) o0).trans (tR_669 (T := S) (o := o0) (a := vl) rfl))) ((congrFun (congrFun e143 670) o0).trans ((congrFun (up2_ne (k := 670)) o0).trans (tR_670 (T := S) (o := o0) (a := vl) rfl))) ((congrFun (congrFun e143 671) o0).trans ((congrFun (up2_ne (k := 671)) o0).trans (tR_671 (T := S) (o := o0) (a := vl) rfl))) ((congrFun ej146 vl).trans rfl)), rfl, rfl⟩⟩)
      · skip
        have h147 : Rg (-2147483648) 18 (u0 (AR S o0)) := rg_lt_l (rg_all (u0 (AR S o0))) (⟨by decide, by decide⟩ : Rg 19 19 19) (nle_lt q103)
        refine tt_aload_n (j := 1) dX10_oneMore_73 rfl ?_
        refine gt_Vv (As := []) dX10_oneMore_74 ca_X10_360 ⟨by decide, by decide⟩ h0 hA rfl (Nat.le_of_ble_eq_true rfl) (Nat.le_of_ble_eq_true rfl) (by decide) (cr_X10_run hG (rr_af hc hA) (hg q103).1 (hg q103).2 (fun _ _ _ _ h => h)) rfl (fun _ h => nomatch h) (fun S148 hx152 hG149 hB150 hA151 => ?_)
        obtain ⟨d153, hd154⟩ : ∃ q, G_X10_run (AR S o0) (hp_J S 660 o0) (QR S o0 vl)  = q := ⟨_, rfl⟩
        have hq155 := ((congrArg (fun q9 => G_X10_run q9 (hp_J S 660 o0) (QR S o0 vl) ) (aR_mk (uR_655 (T := S) (o := o0) rfl) (uR_656 (T := S) (o := o0) rfl) (uR_657 (T := S) (o := o0) rfl) (uR_658 (T := S) (o := o0) rfl) (uR_659 (T := S) (o := o0) rfl) (uR_661 (T := S) (o := o0) rfl))).trans (congrArg (fun q9 => G_X10_run (AR S o0) (hp_J S 660 o0) q9 ) (qR_mk (tR_664 (T := S) (o := o0) (a := vl) rfl) (tR_667 (T := S) (o := o0) (a := vl) rfl) (tR_668 (T := S) (o := o0) (a := vl) rfl) (tR_669 (T := S) (o := o0) (a := vl) rfl) (tR_670 (T := S) (o := o0) (a := vl) rfl) (tR_671 (T := S) (o := o0) (a := vl) rfl) rfl))).trans hd154
        have hs156 := hx152.trans hq155
        refine tt_goto (tgt := 114) dX10_oneMore_77 rfl ?_
        refine tt_aload_n (j := 1) dX10_oneMore_114 rfl ?_
        refine tt_lload_n (j := 0) dX10_oneMore_115 rfl ?_
        refine tt_lconst (v := 0) dX10_oneMore_116 rfl ?_
        refine tt_aload_n (j := 1) dX10_oneMore_117 rfl ?_
        refine gt_gI (id := 642) (v := (hp_I S 642 o0)) dX10_oneMore_118 fl_10_71 rfl rfl h0 hA151 (i_af (k := 642) h0 hA151) ?_
        refine tt_iconst (v := 1) dX10_oneMore_121 rfl ?_
        refine tt_isub dX10_oneMore_122 ?_
        refine tt_i2l dX10_oneMore_123 ?_
        refine gt_SIp (As := [.long (((r0 (QR S o0 vl)) + (u5 (AR S o0))) : Int32).toInt64, .long 0, .long (((hp_I S 642 o0) - 1) : Int32).toInt64]) dX10_oneMore_124 ca_X10_67 ⟨by decide, by decide⟩ hA151 (Nat.le_of_ble_eq_true rfl) (Nat.le_of_ble_eq_true rfl) (by decide) (cr_X10_isIn hG149  (fun _ _ _ _ h => h)) rfl (fun _ h => nomatch h) (fun _ _ q => q.1) (fun x157 h158 hx159 => ?_)
        obtain rfl : G_X10_isIn ((((r0 (QR S o0 vl)) + (u5 (AR S o0))) : Int32).toInt64) (0) ((((hp_I S 642 o0) - 1) : Int32).toInt64) = x157 := (ei_w hx159.2).symm
        refine tt_if_eq (tgt := 135) dX10_oneMore_127 rfl (fun q160 => ?_) (fun q160 => ?_)
        · skip
          have h161 : Rg 0 0 (G_X10_isIn ((((r0 (QR S o0 vl)) + (u5 (AR S o0))) : Int32).toInt64) (0) ((((hp_I S 642 o0) - 1) : Int32).toInt64)) := rg_eq_l h158 (⟨by decide, by decide⟩ : Rg 0 0 0) q160
          refine tt_bipush (v := (-2)) dX10_oneMore_135 rfl ?_
          refine gt_pIj (id := 664) (x := (-2)) dX10_oneMore_137 fl_10_45 rfl rfl h0 hA151 rfl rfl rfl (gp_Ir hG149 (⟨by decide, by decide⟩ : Rg (-2) (-2) (-2))) (by decide) (fun h => absurd h (by decide)) (fun _ _ _ => rg_nec (⟨by decide, by decide⟩ : Rg (-2) (-2) (-2))) (fun S162 hG163 hA164 e165 f166 er167 ej168 => ?_)
          refine tt_iconst (v := 0) dX10_oneMore_140 rfl ?_
          have hF : G_X10_oneMore_p24 (hp_I S 642 o0) (AR S o0) (hp_J S 660 o0) (QR S o0 vl)  = (((-2), (r1 d153), (r2 d153), (r3 d153), (r4 d153), (r5 d153), (rA d153)), 0) := by
            subst hd154
            exact g_X10_oneMore_p24_13 q101 q102 q103 q160
          exact tt_ireturn dX10_oneMore_141 .int rfl rfl (hP _ _ _ _ ⟨hG163, hA164, Or.inl ⟨_, rfl, ⟨_, rfl, rg_w (⟨by decide, by decide⟩ : Rg 0 0 0)⟩, yiR_mk hF (qR_mk (by rw [e165]; exact up2_self) ((congrFun (congrFun e165 667) o0).trans ((congrFun (up2_ne (k := 667)) o0).trans (tR_667 hs156))) ((congrFun (congrFun e165 668) o0).trans ((congrFun (up2_ne (k := 668)) o0).trans (tR_668 hs156))) ((congrFun (congrFun e165 669) o0).trans ((congrFun (up2_ne (k := 669)) o0).trans (tR_669 hs156))) ((congrFun (congrFun e165 670) o0).trans ((congrFun (up2_ne (k := 670)) o0).trans (tR_670 hs156))) ((congrFun (congrFun e165 671) o0).trans ((congrFun (up2_ne (k := 671)) o0).trans (tR_671 hs156))) ((congrFun ej168 vl).trans (tR_j hs156))), rfl, rfl⟩⟩)
        · skip
          have h169 : Rl 0 199 (((r0 (QR S o0 vl)) + (u5 (AR S o0))) : Int32).toInt64 := isn_rl q160 (gi_I (k := 642) hG h0 0 200)
          refine tt_lload_n (j := 0) dX10_oneMore_130 rfl ?_
          refine tt_l2i dX10_oneMore_131 ?_
          refine tt_goto (tgt := 137) dX10_oneMore_132 rfl ?_
          refine gt_pIj (id := 664) (x := ((((r0 (QR S o0 vl)) + (u5 (AR S o0))) : Int32).toInt64 : Int64).toInt32) dX10_oneMore_137 fl_10_45 rfl rfl h0 hA151 rfl rfl rfl (gp_Ir hG149 (rl_l2i h169)) (by decide) (fun h => absurd h (by decide)) (fun _ _ _ => rg_nec (rl_l2i h169)) (fun S170 hG171 hA172 e173 f174 er175 ej176 => ?_)
          refine tt_iconst (v := 0) dX10_oneMore_140 rfl ?_
          have hF : G_X10_oneMore_p24 (hp_I S 642 o0) (AR S o0) (hp_J S 660 o0) (QR S o0 vl)  = ((((((r0 (QR S o0 vl)) + (u5 (AR S o0))) : Int32).toInt64 : Int64).toInt32, (r1 d153), (r2 d153), (r3 d153), (r4 d153), (r5 d153), (rA d153)), 0) := by
            subst hd154
            exact g_X10_oneMore_p24_14 q101 q102 q103 q160
          exact tt_ireturn dX10_oneMore_141 .int rfl rfl (hP _ _ _ _ ⟨hG171, hA172, Or.inl ⟨_, rfl, ⟨_, rfl, rg_w (⟨by decide, by decide⟩ : Rg 0 0 0)⟩, yiR_mk hF (qR_mk (by rw [e173]; exact up2_self) ((congrFun (congrFun e173 667) o0).trans ((congrFun (up2_ne (k := 667)) o0).trans (tR_667 hs156))) ((congrFun (congrFun e173 668) o0).trans ((congrFun (up2_ne (k := 668)) o0).trans (tR_668 hs156))) ((congrFun (congrFun e173 669) o0).trans ((congrFun (up2_ne (k := 669)) o0).trans (tR_669 hs156))) ((congrFun (congrFun e173 670) o0).trans ((congrFun (up2_ne (k := 670)) o0).trans (tR_670 hs156))) ((congrFun (congrFun e173 671) o0).trans ((congrFun (up2_ne (k := 671)) o0).trans (tR_671 hs156))) ((congrFun ej176 vl).trans (tR_j hs156))), rfl, rfl⟩⟩)
    · skip
      have h177 : Rg 19 19 (u0 (AR S o0)) := rg_eq_l (rg_all (u0 (AR S o0))) (⟨by decide, by decide⟩ : Rg 19 19 19) q102
      refine tt_aload_n (j := 0) dX10_oneMore_44 rfl ?_
      refine gt_gI (id := 667) (v := (r1 (QR S o0 vl))) dX10_oneMore_45 fl_10_316 rfl rfl h0 hA (tR_667 (T := S) (o := o0) (a := vl) rfl) ?_
      refine tt_if_eq (tgt := 53) dX10_oneMore_48 rfl (fun q178 => ?_) (fun q178 => ?_)
      · skip
        have h179 : Rg 0 0 (r1 (QR S o0 vl)) := rg_eq_l (gi_I (k := 667) hG h0 0 1) (⟨by decide, by decide⟩ : Rg 0 0 0) q178
        refine tt_aload_n (j := 0) dX10_oneMore_53 rfl ?_
        refine gt_gI (id := 664) (v := (r0 (QR S o0 vl))) dX10_oneMore_54 fl_10_45 rfl rfl h0 hA (tR_664 (T := S) (o := o0) (a := vl) rfl) ?_
        refine tt_aload_n (j := 0) dX10_oneMore_57 rfl ?_
        refine gt_gI (id := 661) (v := (u5 (AR S o0))) dX10_oneMore_58 fl_10_134 rfl rfl h0 hA (uR_661 (T := S) (o := o0) rfl) ?_
        refine tt_iadd dX10_oneMore_61 ?_
        refine tt_i2l dX10_oneMore_62 ?_
        refine tt_lstore_n (ks := [0, 1]) (L' := [(1, .long (((r0 (QR S o0 vl)) + (u5 (AR S o0))) : Int32).toInt64), (0, .ref o0)]) dX10_oneMore_63 (by decide) rfl ?_
        refine tt_aload_n (j := 1) dX10_oneMore_64 rfl ?_
        refine gt_gI (id := 655) (v := (u0 (AR S o0))) dX10_oneMore_65 fl_10_107 rfl rfl h0 hA (uR_655 (T := S) (o := o0) rfl) ?_
        refine tt_bipush (v := 19) dX10_oneMore_68 rfl ?_
        refine tt_icmp_ge (tgt := 80) dX10_oneMore_70 rfl (fun q180 => ?_) (fun q180 => ?_)
        · skip
          refine tt_aload_n (j := 1) dX10_oneMore_80 rfl ?_
          refine gt_gI (id := 655) (v := (u0 (AR S o0))) dX10_oneMore_81 fl_10_107 rfl rfl h0 hA (uR_655 (T := S) (o := o0) rfl) ?_
          refine tt_bipush (v := 20) dX10_oneMore_84 rfl ?_
          refine tt_icmp_eq (tgt := 109) dX10_oneMore_86 rfl (fun q181 => ?_) (fun q181 => ?_)
          · skip
            refine tt_aload_n (j := 1) dX10_oneMore_109 rfl ?_
            refine gt_gJ (id := 660) (v := (hp_J S 660 o0)) dX10_oneMore_110 fl_10_116 rfl rfl h0 hA rfl ?_
            refine tt_lstore_n (ks := [0, 1]) (L' := [(1, .long (hp_J S 660 o0)), (0, .ref o0)]) dX10_oneMore_113 (by decide) rfl ?_
            refine tt_aload_n (j := 1) dX10_oneMore_114 rfl ?_
            refine tt_lload_n (j := 0) dX10_oneMore_115 rfl ?_
            refine tt_lconst (v := 0) dX10_oneMore_116 rfl ?_
            refine tt_aload_n (j := 1) dX10_oneMore_117 rfl ?_
            refine tt_getI (id := 642) dX10_oneMore_118 fl_10_71 rfl rfl (ob_af h0 hA) ?_
            refine tt_iconst (v := 1) dX10_oneMore_121 rfl ?_
            refine tt_isub dX10_oneMore_122 ?_
            refine tt_i2l dX10_oneMore_123 ?_
            refine gt_SIp (As := [.long (hp_J S 660 o0), .long 0, .long (((hp_I S 642 o0) - 1) : Int32).toInt64]) dX10_oneMore_124 ca_X10_67 ⟨by decide, by decide⟩ hA (Nat.le_of_ble_eq_true rfl) (Nat.le_of_ble_eq_true rfl) (by decide) (cr_X10_isIn hG  (fun _ _ _ _ h => h)) rfl (fun _ h => nomatch h) (fun _ _ q => q.1) (fun x182 h183 hx184 => ?_)
            obtain rfl : G_X10_isIn ((hp_J S 660 o0)) (0) ((((hp_I S 642 o0) - 1) : Int32).toInt64) = x182 := (ei_w hx184.2).symm
            refine tt_if_eq (tgt := 135) dX10_oneMore_127 rfl (fun q185 => ?_) (fun q185 => ?_)
            · skip
              have h186 : Rg 0 0 (G_X10_isIn ((hp_J S 660 o0)) (0) ((((hp_I S 642 o0) - 1) : Int32).toInt64)) := rg_eq_l h183 (⟨by decide, by decide⟩ : Rg 0 0 0) q185
              refine tt_bipush (v := (-2)) dX10_oneMore_135 rfl ?_
              refine gt_pIj (id := 664) (x := (-2)) dX10_oneMore_137 fl_10_45 rfl rfl h0 hA rfl rfl rfl (gp_Ir hG (⟨by decide, by decide⟩ : Rg (-2) (-2) (-2))) (by decide) (fun h => absurd h (by decide)) (fun _ _ _ => rg_nec (⟨by decide, by decide⟩ : Rg (-2) (-2) (-2))) (fun S187 hG188 hA189 e190 f191 er192 ej193 => ?_)
              refine tt_iconst (v := 0) dX10_oneMore_140 rfl ?_
              have hF : G_X10_oneMore_p24 (hp_I S 642 o0) (AR S o0) (hp_J S 660 o0) (QR S o0 vl)  = (((-2), (r1 (QR S o0 vl)), (r2 (QR S o0 vl)), (r3 (QR S o0 vl)), (r4 (QR S o0 vl)), (r5 (QR S o0 vl)), (rA (QR S o0 vl))), 0) := by
                exact g_X10_oneMore_p24_1 q101 q102 q178 q180 q181 q185
              exact tt_ireturn dX10_oneMore_141 .int rfl rfl (hP _ _ _ _ ⟨hG188, hA189, Or.inl ⟨_, rfl, ⟨_, rfl, rg_w (⟨by decide, by decide⟩ : Rg 0 0 0)⟩, yiR_mk hF (qR_mk (by rw [e190]; exact up2_self) ((congrFun (congrFun e190 667) o0).trans ((congrFun (up2_ne (k := 667)) o0).trans (tR_667 (T := S) (o := o0) (a := vl) rfl))) ((congrFun (congrFun e190 668) o0).trans ((congrFun (up2_ne (k := 668)) o0).trans (tR_668 (T := S) (o := o0) (a := vl) rfl))) ((congrFun (congrFun e190 669) o0).trans ((congrFun (up2_ne (k := 669)) o0).trans (tR_669 (T := S) (o := o0) (a := vl) rfl))) ((congrFun (congrFun e190 670) o0).trans ((congrFun (up2_ne (k := 670)) o0).trans (tR_670 (T := S) (o := o0) (a := vl) rfl))) ((congrFun (congrFun e190 671) o0).trans ((congrFun (up2_ne (k := 671)) o0).trans (tR_671 (T := S) (o := o0) (a := vl) rfl))) ((congrFun ej193 vl).trans rfl)), rfl, rfl⟩⟩)
            · skip
              have h194 : Rl 0 199 (hp_J S 660 o0) := isn_rl q185 (gi_I (k := 642) hG h0 0 200)
              refine tt_lload_n (j := 0) dX10_oneMore_130 rfl ?_
              refine tt_l2i dX10_oneMore_131 ?_
              refine tt_goto (tgt := 137) dX10_oneMore_132 rfl ?_
              refine gt_pIj (id := 664) (x := ((hp_J S 660 o0) : Int64).toInt32) dX10_oneMore_137 fl_10_45 rfl rfl h0 hA rfl rfl rfl (gp_Ir hG (rl_l2i h194)) (by decide) (fun h => absurd h (by decide)) (fun _ _ _ => rg_nec (rl_l2i h194)) (fun S195 hG196 hA197 e198 f199 er200 ej201 => ?_)
              refine tt_iconst (v := 0) dX10_oneMore_140 rfl ?_
              have hF : G_X10_oneMore_p24 (hp_I S 642 o0) (AR S o0) (hp_J S 660 o0) (QR S o0 vl)  = ((((hp_J S 660 o0) : Int64).toInt32, (r1 (QR S o0 vl)), (r2 (QR S o0 vl)), (r3 (QR S o0 vl)), (r4 (QR S o0 vl)), (r5 (QR S o0 vl)), (rA (QR S o0 vl))), 0) := by
                exact g_X10_oneMore_p24_2 q101 q102 q178 q180 q181 q185
              exact tt_ireturn dX10_oneMore_141 .int rfl rfl (hP _ _ _ _ ⟨hG196, hA197, Or.inl ⟨_, rfl, ⟨_, rfl, rg_w (⟨by decide, by decide⟩ : Rg 0 0 0)⟩, yiR_mk hF (qR_mk (by rw [e198]; exact up2_self) ((congrFun (congrFun e198 667) o0).trans ((congrFun (up2_ne (k := 667)) o0).trans (tR_667 (T := S) (o := o0) (a := vl) rfl))) ((congrFun (congrFun e198 668) o0).trans ((congrFun (up2_ne (k := 668)) o0).trans (tR_668 (T := S) (o := o0) (a := vl) rfl))) ((congrFun (congrFun e198 669) o0).trans ((congrFun (up2_ne (k := 669)) o0).trans (tR_669 (T := S) (o := o0) (a := vl) rfl))) ((congrFun (congrFun e198 670) o0).trans ((congrFun (up2_ne (k := 670)) o0).trans (tR_670 (T := S) (o := o0) (a := vl) rfl))) ((congrFun (congrFun e198 671) o0).trans ((congrFun (up2_ne (k := 671)) o0).trans (tR_671 (T := S) (o := o0) (a := vl) rfl))) ((congrFun ej201 vl).trans rfl)), rfl, rfl⟩⟩)
          · skip
            refine tt_aload_n (j := 1) dX10_oneMore_89 rfl ?_
            refine gt_gI (id := 655) (v := (u0 (AR S o0))) dX10_oneMore_90 fl_10_107 rfl rfl h0 hA (uR_655 (T := S) (o := o0) rfl) ?_
            refine tt_bipush (v := 19) dX10_oneMore_93 rfl ?_
            refine tt_icmp_ne (tgt := 114) dX10_oneMore_95 rfl (fun q => absurd q102 q) (fun _ => ?_)
            refine tt_aload_n (j := 1) dX10_oneMore_98 rfl ?_
            refine tt_aload_n (j := 1) dX10_oneMore_99 rfl ?_
            refine gt_gI (id := 659) (v := (u4 (AR S o0))) dX10_oneMore_100 fl_10_120 rfl rfl h0 hA (uR_659 (T := S) (o := o0) rfl) ?_
            refine gt_VIp (As := [.int (u4 (AR S o0))]) dX10_oneMore_103 ca_X10_363 ⟨by decide, by decide⟩ h0 hA rfl (Nat.le_of_ble_eq_true rfl) (Nat.le_of_ble_eq_true rfl) (by decide) (cr_X10_holds hG (rr_af hc hA) (fun _ _ _ _ h => h)) rfl (fun _ h => nomatch h) (fun _ _ q => q.1) (fun x202 h203 hx204 => ?_)
            obtain rfl : G_X10_holds (AR S o0) (QR S o0 vl) ((u4 (AR S o0))) = x202 := ((ei_w hx204.2).trans ((congrArg (fun q9 => G_X10_holds q9 (QR S o0 vl) ((u4 (AR S o0)))) (aR_mk (uR_655 (T := S) (o := o0) rfl) (uR_656 (T := S) (o := o0) rfl) (uR_657 (T := S) (o := o0) rfl) (uR_658 (T := S) (o := o0) rfl) (uR_659 (T := S) (o := o0) rfl) (uR_661 (T := S) (o := o0) rfl))).trans (congrArg (fun q9 => G_X10_holds (AR S o0) q9 ((u4 (AR S o0)))) (qR_mk (tR_664 (T := S) (o := o0) (a := vl) rfl) (tR_667 (T := S) (o := o0) (a := vl) rfl) (tR_668 (T := S) (o := o0) (a := vl) rfl) (tR_669 (T := S) (o := o0) (a := vl) rfl) (tR_670 (T := S) (o := o0) (a := vl) rfl) (tR_671 (T := S) (o := o0) (a := vl) rfl) rfl)))).symm
            refine tt_if_eq (tgt := 114) dX10_oneMore_106 rfl (fun q205 => ?_) (fun q205 => ?_)
            · skip
              have h206 : Rg 0 0 (G_X10_holds (AR S o0) (QR S o0 vl) ((u4 (AR S o0)))) := rg_eq_l h203 (⟨by decide, by decide⟩ : Rg 0 0 0) q205
              refine tt_aload_n (j := 1) dX10_oneMore_114 rfl ?_
              refine tt_lload_n (j := 0) dX10_oneMore_115 rfl ?_
              refine tt_lconst (v := 0) dX10_oneMore_116 rfl ?_
              refine tt_aload_n (j := 1) dX10_oneMore_117 rfl ?_
              refine tt_getI (id := 642) dX10_oneMore_118 fl_10_71 rfl rfl (ob_af h0 hA) ?_
              refine tt_iconst (v := 1) dX10_oneMore_121 rfl ?_
              refine tt_isub dX10_oneMore_122 ?_
              refine tt_i2l dX10_oneMore_123 ?_
              refine gt_SIp (As := [.long (((r0 (QR S o0 vl)) + (u5 (AR S o0))) : Int32).toInt64, .long 0, .long (((hp_I S 642 o0) - 1) : Int32).toInt64]) dX10_oneMore_124 ca_X10_67 ⟨by decide, by decide⟩ hA (Nat.le_of_ble_eq_true rfl) (Nat.le_of_ble_eq_true rfl) (by decide) (cr_X10_isIn hG  (fun _ _ _ _ h => h)) rfl (fun _ h => nomatch h) (fun _ _ q => q.1) (fun x207 h208 hx209 => ?_)
              obtain rfl : G_X10_isIn ((((r0 (QR S o0 vl)) + (u5 (AR S o0))) : Int32).toInt64) (0) ((((hp_I S 642 o0) - 1) : Int32).toInt64) = x207 := (ei_w hx209.2).symm
              refine tt_if_eq (tgt := 135) dX10_oneMore_127 rfl (fun q210 => ?_) (fun q210 => ?_)
              · skip
                have h211 : Rg 0 0 (G_X10_isIn ((((r0 (QR S o0 vl)) + (u5 (AR S o0))) : Int32).toInt64) (0) ((((hp_I S 642 o0) - 1) : Int32).toInt64)) := rg_eq_l h208 (⟨by decide, by decide⟩ : Rg 0 0 0) q210
                refine tt_bipush (v := (-2)) dX10_oneMore_135 rfl ?_
                refine gt_pIj (id := 664) (x := (-2)) dX10_oneMore_137 fl_10_45 rfl rfl h0 hA rfl rfl rfl (gp_Ir hG (⟨by decide, by decide⟩ : Rg (-2) (-2) (-2))) (by decide) (fun h => absurd h (by decide)) (fun _ _ _ => rg_nec (⟨by decide, by decide⟩ : Rg (-2) (-2) (-2))) (fun S212 hG213 hA214 e215 f216 er217 ej218 => ?_)
                refine tt_iconst (v := 0) dX10_oneMore_140 rfl ?_
                have hF : G_X10_oneMore_p24 (hp_I S 642 o0) (AR S o0) (hp_J S 660 o0) (QR S o0 vl)  = (((-2), (r1 (QR S o0 vl)), (r2 (QR S o0 vl)), (r3 (QR S o0 vl)), (r4 (QR S o0 vl)), (r5 (QR S o0 vl)), (rA (QR S o0 vl))), 0) := by
                  exact g_X10_oneMore_p24_3 q101 q102 q178 q180 q181 q205 q210
                exact tt_ireturn dX10_oneMore_141 .int rfl rfl (hP _ _ _ _ ⟨hG213, hA214, Or.inl ⟨_, rfl, ⟨_, rfl, rg_w (⟨by decide, by decide⟩ : Rg 0 0 0)⟩, yiR_mk hF (qR_mk (by rw [e215]; exact up2_self) ((congrFun (congrFun e215 667) o0).trans ((congrFun (up2_ne (k := 667)) o0).trans (tR_667 (T := S) (o := o0) (a := vl) rfl))) ((congrFun (congrFun e215 668) o0).trans ((congrFun (up2_ne (k := 668)) o0).trans (tR_668 (T := S) (o := o0) (a := vl) rfl))) ((congrFun (congrFun e215 669) o0).trans ((congrFun (up2_ne (k := 669)) o0).trans (tR_669 (T := S) (o := o0) (a := vl) rfl))) ((congrFun (congrFun e215 670) o0).trans ((congrFun (up2_ne (k := 670)) o0).trans (tR_670 (T := S) (o := o0) (a := vl) rfl))) ((congrFun (congrFun e215 671) o0).trans ((congrFun (up2_ne (k := 671)) o0).trans (tR_671 (T := S) (o := o0) (a := vl) rfl))) ((congrFun ej218 vl).trans rfl)), rfl, rfl⟩⟩)
              · skip
                have h219 : Rl 0 199 (((r0 (QR S o0 vl)) + (u5 (AR S o0))) : Int32).toInt64 := isn_rl q210 (gi_I (k := 642) hG h0 0 200)
                refine tt_lload_n (j := 0) dX10_oneMore_130 rfl ?_
                refine tt_l2i dX10_oneMore_131 ?_
                refine tt_goto (tgt := 137) dX10_oneMore_132 rfl ?_
                refine gt_pIj (id := 664) (x := ((((r0 (QR S o0 vl)) + (u5 (AR S o0))) : Int32).toInt64 : Int64).toInt32) dX10_oneMore_137 fl_10_45 rfl rfl h0 hA rfl rfl rfl (gp_Ir hG (rl_l2i h219)) (by decide) (fun h => absurd h (by decide)) (fun _ _ _ => rg_nec (rl_l2i h219)) (fun S220 hG221 hA222 e223 f224 er225 ej226 => ?_)
                refine tt_iconst (v := 0) dX10_oneMore_140 rfl ?_
                have hF : G_X10_oneMore_p24 (hp_I S 642 o0) (AR S o0) (hp_J S 660 o0) (QR S o0 vl)  = ((((((r0 (QR S o0 vl)) + (u5 (AR S o0))) : Int32).toInt64 : Int64).toInt32, (r1 (QR S o0 vl)), (r2 (QR S o0 vl)), (r3 (QR S o0 vl)), (r4 (QR S o0 vl)), (r5 (QR S o0 vl)), (rA (QR S o0 vl))), 0) := by
                  exact g_X10_oneMore_p24_4 q101 q102 q178 q180 q181 q205 q210
                exact tt_ireturn dX10_oneMore_141 .int rfl rfl (hP _ _ _ _ ⟨hG221, hA222, Or.inl ⟨_, rfl, ⟨_, rfl, rg_w (⟨by decide, by decide⟩ : Rg 0 0 0)⟩, yiR_mk hF (qR_mk (by rw [e223]; exact up2_self) ((congrFun (congrFun e223 667) o0).trans ((congrFun (up2_ne (k := 667)) o0).trans (tR_667 (T := S) (o := o0) (a := vl) rfl))) ((congrFun (congrFun e223 668) o0).trans ((congrFun (up2_ne (k := 668)) o0).trans (tR_668 (T := S) (o := o0) (a := vl) rfl))) ((congrFun (congrFun e223 669) o0).trans ((congrFun (up2_ne (k := 669)) o0).trans (tR_669 (T := S) (o := o0) (a := vl) rfl))) ((congrFun (congrFun e223 670) o0).trans ((congrFun (up2_ne (k := 670)) o0).trans (tR_670 (T := S) (o := o0) (a := vl) rfl))) ((congrFun (congrFun e223 671) o0).trans ((congrFun (up2_ne (k := 671)) o0).trans (tR_671 (T := S) (o := o0) (a := vl) rfl))) ((congrFun ej226 vl).trans rfl)), rfl, rfl⟩⟩)
            · skip
              have h227 : Rg 1 1 (G_X10_holds (AR S o0) (QR S o0 vl) ((u4 (AR S o0)))) := rg_ne_lo h203 (⟨by decide, by decide⟩ : Rg 0 0 0) q205
              refine tt_aload_n (j := 1) dX10_oneMore_109 rfl ?_
              refine gt_gJ (id := 660) (v := (hp_J S 660 o0)) dX10_oneMore_110 fl_10_116 rfl rfl h0 hA rfl ?_
              refine tt_lstore_n (ks := [0, 1]) (L' := [(1, .long (hp_J S 660 o0)), (0, .ref o0)]) dX10_oneMore_113 (by decide) rfl ?_
              refine tt_aload_n (j := 1) dX10_oneMore_114 rfl ?_
              refine tt_lload_n (j := 0) dX10_oneMore_115 rfl ?_
              refine tt_lconst (v := 0) dX10_oneMore_116 rfl ?_
              refine tt_aload_n (j := 1) dX10_oneMore_117 rfl ?_
              refine tt_getI (id := 642) dX10_oneMore_118 fl_10_71 rfl rfl (ob_af h0 hA) ?_
              refine tt_iconst (v := 1) dX10_oneMore_121 rfl ?_
              refine tt_isub dX10_oneMore_122 ?_
              refine tt_i2l dX10_oneMore_123 ?_
              refine gt_SIp (As := [.long (hp_J S 660 o0), .long 0, .long (((hp_I S 642 o0) - 1) : Int32).toInt64]) dX10_oneMore_124 ca_X10_67 ⟨by decide, by decide⟩ hA (Nat.le_of_ble_eq_true rfl) (Nat.le_of_ble_eq_true rfl) (by decide) (cr_X10_isIn hG  (fun _ _ _ _ h => h)) rfl (fun _ h => nomatch h) (fun _ _ q => q.1) (fun x228 h229 hx230 => ?_)
              obtain rfl : G_X10_isIn ((hp_J S 660 o0)) (0) ((((hp_I S 642 o0) - 1) : Int32).toInt64) = x228 := (ei_w hx230.2).symm
              refine tt_if_eq (tgt := 135) dX10_oneMore_127 rfl (fun q231 => ?_) (fun q231 => ?_)
              · skip
                have h232 : Rg 0 0 (G_X10_isIn ((hp_J S 660 o0)) (0) ((((hp_I S 642 o0) - 1) : Int32).toInt64)) := rg_eq_l h229 (⟨by decide, by decide⟩ : Rg 0 0 0) q231
                refine tt_bipush (v := (-2)) dX10_oneMore_135 rfl ?_
                refine gt_pIj (id := 664) (x := (-2)) dX10_oneMore_137 fl_10_45 rfl rfl h0 hA rfl rfl rfl (gp_Ir hG (⟨by decide, by decide⟩ : Rg (-2) (-2) (-2))) (by decide) (fun h => absurd h (by decide)) (fun _ _ _ => rg_nec (⟨by decide, by decide⟩ : Rg (-2) (-2) (-2))) (fun S233 hG234 hA235 e236 f237 er238 ej239 => ?_)
                refine tt_iconst (v := 0) dX10_oneMore_140 rfl ?_
                have hF : G_X10_oneMore_p24 (hp_I S 642 o0) (AR S o0) (hp_J S 660 o0) (QR S o0 vl)  = (((-2), (r1 (QR S o0 vl)), (r2 (QR S o0 vl)), (r3 (QR S o0 vl)), (r4 (QR S o0 vl)), (r5 (QR S o0 vl)), (rA (QR S o0 vl))), 0) := by
                  exact g_X10_oneMore_p24_5 q101 q102 q178 q180 q181 q205 q231
                exact tt_ireturn dX10_oneMore_141 .int rfl rfl (hP _ _ _ _ ⟨hG234, hA235, Or.inl ⟨_, rfl, ⟨_, rfl, rg_w (⟨by decide, by decide⟩ : Rg 0 0 0)⟩, yiR_mk hF (qR_mk (by rw [e236]; exact up2_self) ((congrFun (congrFun e236 667) o0).trans ((congrFun (up2_ne (k := 667)) o0).trans (tR_667 (T := S) (o := o0) (a := vl) rfl))) ((congrFun (congrFun e236 668) o0).trans ((congrFun (up2_ne (k := 668)) o0).trans (tR_668 (T := S) (o := o0) (a := vl) rfl))) ((congrFun (congrFun e236 669) o0).trans ((congrFun (up2_ne (k := 669)) o0).trans (tR_669 (T := S) (o := o0) (a := vl) rfl))) ((congrFun (congrFun e236 670) o0).trans ((congrFun (up2_ne (k := 670)) o0).trans (tR_670 (T := S) (o := o0) (a := vl) rfl))) ((congrFun (congrFun e236 671) o0).trans ((congrFun (up2_ne (k := 671)) o0).trans (tR_671 (T := S) (o := o0) (a := vl) rfl))) ((congrFun ej239 vl).trans rfl)), rfl, rfl⟩⟩)
              · skip
                have h240 : Rl 0 199 (hp_J S 660 o0) := isn_rl q231 (gi_I (k := 642) hG h0 0 200)
                refine tt_lload_n (j := 0) dX10_oneMore_130 rfl ?_
                refine tt_l2i dX10_oneMore_131 ?_
                refine tt_goto (tgt := 137) dX10_oneMore_132 rfl ?_
                refine gt_pIj (id := 664) (x := ((hp_J S 660 o0) : Int64).toInt32) dX10_oneMore_137 fl_10_45 rfl rfl h0 hA rfl rfl rfl (gp_Ir hG (rl_l2i h240)) (by decide) (fun h => absurd h (by decide)) (fun _ _ _ => rg_nec (rl_l2i h240)) (fun S241 hG242 hA243 e244 f245 er246 ej247 => ?_)
                refine tt_iconst (v := 0) dX10_oneMore_140 rfl ?_
                have hF : G_X10_oneMore_p24 (hp_I S 642 o0) (AR S o0) (hp_J S 660 o0) (QR S o0 vl)  = ((((hp_J S 660 o0) : Int64).toInt32, (r1 (QR S o0 vl)), (r2 (QR S o0 vl)), (r3 (QR S o0 vl)), (r4 (QR S o0 vl)), (r5 (QR S o0 vl)), (rA (QR S o0 vl))), 0) := by
                  exact g_X10_oneMore_p24_6 q101 q102 q178 q180 q181 q205 q231
                exact tt_ireturn dX10_oneMore_141 .int rfl rfl (hP _ _ _ _ ⟨hG242, hA243, Or.inl ⟨_, rfl, ⟨_, rfl, rg_w (⟨by decide, by decide⟩ : Rg 0 0 0)⟩, yiR_mk hF (qR_mk (by rw [e244]; exact up2_self) ((congrFun (congrFun e244 667) o0).trans ((congrFun (up2_ne (k := 667)) o0).trans (tR_667 (T := S) (o := o0) (a := vl) rfl))) ((congrFun (congrFun e244 668) o0).trans ((congrFun (up2_ne (k := 668)) o0).trans (tR_668 (T := S) (o := o0) (a := vl) rfl))) ((congrFun (congrFun e244 669) o0).trans ((congrFun (up2_ne (k := 669)) o0).trans (tR_669 (T := S) (o := o0) (a := vl) rfl))) ((congrFun (congrFun e244 670) o0).trans ((congrFun (up2_ne (k := 670)) o0).trans (tR_670 (T := S) (o := o0) (a := vl) rfl))) ((congrFun (congrFun e244 671) o0).trans ((congrFun (up2_ne (k := 671)) o0).trans (tR_671 (T := S) (o := o0) (a := vl) rfl))) ((congrFun ej247 vl).trans rfl)), rfl, rfl⟩⟩)
        · skip
          have h248 : Rg 19 18 (u0 (AR S o0)) := rg_lt_l h177 (⟨by decide, by decide⟩ : Rg 19 19 19) (nle_lt q180)
          have h249 : Rg 20 19 19 := rg_lt_r h177 (⟨by decide, by decide⟩ : Rg 19 19 19) (nle_lt q180)
          exact rg_no h248
      · skip
        have h250 : Rg 1 1 (r1 (QR S o0 vl)) := rg_ne_lo (gi_I (k := 667) hG h0 0 1) (⟨by decide, by decide⟩ : Rg 0 0 0) q178
        refine tt_iconst (v := 4) dX10_oneMore_51 rfl ?_
        have hF : G_X10_oneMore_p24 (hp_I S 642 o0) (AR S o0) (hp_J S 660 o0) (QR S o0 vl)  = ((QR S o0 vl), 4) := by
          exact g_X10_oneMore_p24_8 q101 q102 q178
        exact tt_ireturn dX10_oneMore_52 .int rfl rfl (hP _ _ _ _ ⟨hG, hA, Or.inl ⟨_, rfl, ⟨_, rfl, rg_w (⟨by decide, by decide⟩ : Rg 4 4 4)⟩, yiR_mk hF (qR_mk (tR_664 (T := S) (o := o0) (a := vl) rfl) (tR_667 (T := S) (o := o0) (a := vl) rfl) (tR_668 (T := S) (o := o0) (a := vl) rfl) (tR_669 (T := S) (o := o0) (a := vl) rfl) (tR_670 (T := S) (o := o0) (a := vl) rfl) (tR_671 (T := S) (o := o0) (a := vl) rfl) rfl), rfl, rfl⟩⟩)
  · skip
    have h251 : Rg 22 22 (u0 (AR S o0)) := rg_eq_l (rg_all (u0 (AR S o0))) (⟨by decide, by decide⟩ : Rg 22 22 22) q101
    refine tt_iconst (v := 1) dX10_oneMore_33 rfl ?_
    have hF : G_X10_oneMore_p24 (hp_I S 642 o0) (AR S o0) (hp_J S 660 o0) (QR S o0 vl)  = ((QR S o0 vl), 1) := by
      exact g_X10_oneMore_p24_0 q101
    exact tt_ireturn dX10_oneMore_34 .int rfl rfl (hP _ _ _ _ ⟨hG, hA, Or.inl ⟨_, rfl, ⟨_, rfl, rg_w (⟨by decide, by decide⟩ : Rg 1 1 1)⟩, yiR_mk hF (qR_mk (tR_664 (T := S) (o := o0) (a := vl) rfl) (tR_667 (T := S) (o := o0) (a := vl) rfl) (tR_668 (T := S) (o := o0) (a := vl) rfl) (tR_669 (T := S) (o := o0) (a := vl) rfl) (tR_670 (T := S) (o := o0) (a := vl) rfl) (tR_671 (T := S) (o := o0) (a := vl) rfl) rfl), rfl, rfl⟩⟩)
