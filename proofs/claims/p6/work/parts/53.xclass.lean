def F_X3_nextByte (bs : Nat → Int32) (n : Int32) (d : DD) : DD × Int32 :=
  if (e0 d) < 0 then
    (((e0 d), (e1 d), 0, (e3 d), (e4 d), (e5 d), (e6 d), (e7 d), (e8 d), (e9 d), (e10 d), (e11 d), (eJ d)), 0)
  else
    if (e0 d) < n then
      ((((e0 d) + 1), (e1 d), (e2 d), (e3 d), (e4 d), (e5 d), (e6 d), (e7 d), (e8 d), (e9 d), (e10 d), (e11 d), (eJ d)), (bs ((e0 d) : Int32).toNatClampNeg))
    else
      (((e0 d), (e1 d), 0, (e3 d), (e4 d), (e5 d), (e6 d), (e7 d), (e8 d), (e9 d), (e10 d), (e11 d), (eJ d)), 0)
set_option maxHeartbeats 2000000 in
theorem ce_X3_nextByte {xi : SX} {S : Hp} {E : List Nat} {kc nc : Nat} {P : Po} {o0 : Nat} {bs : Nat → Int32} {n : Int32} (hG : GI S E) (h0 : Oa S E 3 0 o0) (hb : BC S E o0 bs n) (hP : ∀ r T x y, PV E [193, 195] S kc nc (rI (-2147483648) 2147483647) (fun v T => XIC (F_X3_nextByte bs n (StC S o0) ) T o0 v) [] r T x y → P r T x y) : TT xi M_X3_nextByte 0 [(0, .ref o0)] [] S kc nc P := by
  have hA : Af E [193, 195] S S := af_rf
  obtain ⟨cb, ab, hcb, hoc, hab, hoa, rfl, rfl⟩ := hb
  refine tt_aload_n (j := 0) dX3_nextByte_0 rfl ?_
  refine gt_gI (id := 193) (v := (e0 (StC S o0))) dX3_nextByte_1 fl_3_15 rfl rfl h0 hA (sC_193 (T := S) (o := o0) rfl) ?_
  refine tt_if_lt (tgt := 21) dX3_nextByte_4 rfl (fun q101 => ?_) (fun q101 => ?_)
  · skip
    have h102 : Rg (-2147483648) (-1) (e0 (StC S o0)) := rg_lt_l (rg_all (e0 (StC S o0))) (⟨by decide, by decide⟩ : Rg 0 0 0) q101
    refine tt_aload_n (j := 0) dX3_nextByte_21 rfl ?_
    refine tt_iconst (v := 0) dX3_nextByte_22 rfl ?_
    refine gt_pI (id := 195) (x := 0) dX3_nextByte_23 fl_3_22 rfl rfl h0 hA rfl rfl rfl (gp_Ir hG (⟨by decide, by decide⟩ : Rg 0 0 0)) (by decide) (fun h => absurd h (by decide)) (fun h => absurd h (by decide)) (fun S103 hG104 hA105 e106 f107 er108 => ?_)
    refine tt_iconst (v := 0) dX3_nextByte_26 rfl ?_
    have hF : F_X3_nextByte (hp_i S ab) (hp_I S 65 cb) (StC S o0)  = (((e0 (StC S o0)), (e1 (StC S o0)), 0, (e3 (StC S o0)), (e4 (StC S o0)), (e5 (StC S o0)), (e6 (StC S o0)), (e7 (StC S o0)), (e8 (StC S o0)), (e9 (StC S o0)), (e10 (StC S o0)), (e11 (StC S o0)), (eJ (StC S o0))), 0) := by
      unfold F_X3_nextByte
      rw [if_pos q101]
    exact tt_ireturn dX3_nextByte_27 .int rfl rfl (hP _ _ _ _ ⟨hG104, hA105, Or.inl ⟨_, rfl, ⟨_, rfl, rg_w (⟨by decide, by decide⟩ : Rg 0 0 0)⟩, xiC_mk hF (stC_mk ((congrFun (congrFun e106 193) o0).trans ((congrFun (up2_ne (k := 193)) o0).trans (sC_193 (T := S) (o := o0) rfl))) ((congrFun (congrFun e106 194) o0).trans ((congrFun (up2_ne (k := 194)) o0).trans (sC_194 (T := S) (o := o0) rfl))) (by rw [e106]; exact up2_self) ((congrFun (congrFun e106 196) o0).trans ((congrFun (up2_ne (k := 196)) o0).trans (sC_196 (T := S) (o := o0) rfl))) ((congrFun (congrFun e106 197) o0).trans ((congrFun (up2_ne (k := 197)) o0).trans (sC_197 (T := S) (o := o0) rfl))) ((congrFun (congrFun e106 198) o0).trans ((congrFun (up2_ne (k := 198)) o0).trans (sC_198 (T := S) (o := o0) rfl))) ((congrFun (congrFun e106 199) o0).trans ((congrFun (up2_ne (k := 199)) o0).trans (sC_199 (T := S) (o := o0) rfl))) ((congrFun (congrFun e106 200) o0).trans ((congrFun (up2_ne (k := 200)) o0).trans (sC_200 (T := S) (o := o0) rfl))) ((congrFun (congrFun e106 201) o0).trans ((congrFun (up2_ne (k := 201)) o0).trans (sC_201 (T := S) (o := o0) rfl))) ((congrFun (congrFun e106 202) o0).trans ((congrFun (up2_ne (k := 202)) o0).trans (sC_202 (T := S) (o := o0) rfl))) ((congrFun (congrFun e106 203) o0).trans ((congrFun (up2_ne (k := 203)) o0).trans (sC_203 (T := S) (o := o0) rfl))) ((congrFun (congrFun e106 204) o0).trans ((congrFun (up2_ne (k := 204)) o0).trans (sC_204 (T := S) (o := o0) rfl))) ((congrFun (congrFun f107 205) o0).trans (sC_205 (T := S) (o := o0) rfl))), rfl, rfl⟩⟩)
  · skip
    have h109 : Rg 0 2147483647 (e0 (StC S o0)) := rg_le_r (⟨by decide, by decide⟩ : Rg 0 0 0) (rg_all (e0 (StC S o0))) (nlt_le q101)
    refine tt_aload_n (j := 0) dX3_nextByte_7 rfl ?_
    refine gt_gI (id := 193) (v := (e0 (StC S o0))) dX3_nextByte_8 fl_3_15 rfl rfl h0 hA (sC_193 (T := S) (o := o0) rfl) ?_
    refine tt_aload_n (j := 0) dX3_nextByte_11 rfl ?_
    refine gt_gR (id := 192) dX3_nextByte_12 fl_3_9 rfl rfl h0 hA hcb ?_
    refine tt_getI (id := 65) dX3_nextByte_15 fl_3_111 rfl rfl (ob_af hoc hA) ?_
    refine tt_icmp_lt (tgt := 28) dX3_nextByte_18 rfl (fun q110 => ?_) (fun q110 => ?_)
    · skip
      have h111 : Rg 0 199 (e0 (StC S o0)) := rg_lt_l h109 (gi_I (k := 65) hG (oa_af hoc hA) 0 200) q110
      have h112 : Rg 1 200 (hp_I S 65 cb) := rg_lt_r h109 (gi_I (k := 65) hG (oa_af hoc hA) 0 200) q110
      refine tt_aload_n (j := 0) dX3_nextByte_28 rfl ?_
      refine gt_gR (id := 192) dX3_nextByte_29 fl_3_9 rfl rfl h0 hA hcb ?_
      refine gt_gR (id := 64) dX3_nextByte_32 fl_3_116 rfl rfl hoc hA hab ?_
      refine tt_aload_n (j := 0) dX3_nextByte_35 rfl ?_
      refine gt_gI (id := 193) (v := (e0 (StC S o0))) dX3_nextByte_36 fl_3_15 rfl rfl h0 hA (sC_193 (T := S) (o := o0) rfl) ?_
      refine gt_iLx dX3_nextByte_39 hoa hA (rg_in h111) ?_
      refine tt_istore_n (ks := [0, 1]) (L' := [(1, .int (hp_i S ab ((e0 (StC S o0)) : Int32).toNatClampNeg)), (0, .ref o0)]) dX3_nextByte_40 (by decide) rfl ?_
      refine tt_aload_n (j := 1) dX3_nextByte_41 rfl ?_
      refine tt_dup dX3_nextByte_42 rfl ?_
      refine gt_gI (id := 193) (v := (e0 (StC S o0))) dX3_nextByte_43 fl_3_15 rfl rfl h0 hA (sC_193 (T := S) (o := o0) rfl) ?_
      refine tt_iconst (v := 1) dX3_nextByte_46 rfl ?_
      refine tt_iadd dX3_nextByte_47 ?_
      refine gt_pI (id := 193) (x := ((e0 (StC S o0)) + 1)) dX3_nextByte_48 fl_3_15 rfl rfl h0 hA rfl rfl rfl (gp_I hG) (by decide) (fun h => absurd h (by decide)) (fun h => absurd h (by decide)) (fun S113 hG114 hA115 e116 f117 er118 => ?_)
      refine tt_iload_n (j := 0) dX3_nextByte_51 rfl ?_
      have hF : F_X3_nextByte (hp_i S ab) (hp_I S 65 cb) (StC S o0)  = ((((e0 (StC S o0)) + 1), (e1 (StC S o0)), (e2 (StC S o0)), (e3 (StC S o0)), (e4 (StC S o0)), (e5 (StC S o0)), (e6 (StC S o0)), (e7 (StC S o0)), (e8 (StC S o0)), (e9 (StC S o0)), (e10 (StC S o0)), (e11 (StC S o0)), (eJ (StC S o0))), (hp_i S ab ((e0 (StC S o0)) : Int32).toNatClampNeg)) := by
        unfold F_X3_nextByte
        rw [if_neg q101, if_pos q110]
      exact tt_ireturn dX3_nextByte_52 .int rfl rfl (hP _ _ _ _ ⟨hG114, hA115, Or.inl ⟨_, rfl, ⟨_, rfl, rg_w (rg_all (hp_i S ab ((e0 (StC S o0)) : Int32).toNatClampNeg))⟩, xiC_mk hF (stC_mk (by rw [e116]; exact up2_self) ((congrFun (congrFun e116 194) o0).trans ((congrFun (up2_ne (k := 194)) o0).trans (sC_194 (T := S) (o := o0) rfl))) ((congrFun (congrFun e116 195) o0).trans ((congrFun (up2_ne (k := 195)) o0).trans (sC_195 (T := S) (o := o0) rfl))) ((congrFun (congrFun e116 196) o0).trans ((congrFun (up2_ne (k := 196)) o0).trans (sC_196 (T := S) (o := o0) rfl))) ((congrFun (congrFun e116 197) o0).trans ((congrFun (up2_ne (k := 197)) o0).trans (sC_197 (T := S) (o := o0) rfl))) ((congrFun (congrFun e116 198) o0).trans ((congrFun (up2_ne (k := 198)) o0).trans (sC_198 (T := S) (o := o0) rfl))) ((congrFun (congrFun e116 199) o0).trans ((congrFun (up2_ne (k := 199)) o0).trans (sC_199 (T := S) (o := o0) rfl))) ((congrFun (congrFun e116 200) o0).trans ((congrFun (up2_ne (k := 200)) o0).trans (sC_200 (T := S) (o := o0) rfl))) ((congrFun (congrFun e116 201) o0).trans ((congrFun (up2_ne (k := 201)) o0).trans (sC_201 (T := S) (o := o0) rfl))) ((congrFun (congrFun e116 202) o0).trans ((congrFun (up2_ne (k := 202)) o0).trans (sC_202 (T := S) (o := o0) rfl))) ((congrFun (congrFun e116 203) o0).trans ((congrFun (up2_ne (k := 203)) o0).trans (sC_203 (T := S) (o := o0) rfl))) ((congrFun (congrFun e116 204) o0).trans ((congrFun (up2_ne (k := 204)) o0).trans (sC_204 (T := S) (o := o0) rfl))) ((congrFun (congrFun f117 205) o0).trans (sC_205 (T := S) (o := o0) rfl))), rfl, rfl⟩⟩)
    · skip
      refine tt_aload_n (j := 0) dX3_nextByte_21 rfl ?_
      refine tt_iconst (v := 0) dX3_nextByte_22 rfl ?_
      refine gt_pI (id := 195) (x := 0) dX3_nextByte_23 fl_3_22 rfl rfl h0 hA rfl rfl rfl (gp_Ir hG (⟨by decide, by decide⟩ : Rg 0 0 0)) (by decide) (fun h => absurd h (by decide)) (fun h => absurd h (by decide)) (fun S119 hG120 hA121 e122 f123 er124 => ?_)
      refine tt_iconst (v := 0) dX3_nextByte_26 rfl ?_
      have hF : F_X3_nextByte (hp_i S ab) (hp_I S 65 cb) (StC S o0)  = (((e0 (StC S o0)), (e1 (StC S o0)), 0, (e3 (StC S o0)), (e4 (StC S o0)), (e5 (StC S o0)), (e6 (StC S o0)), (e7 (StC S o0)), (e8 (StC S o0)), (e9 (StC S o0)), (e10 (StC S o0)), (e11 (StC S o0)), (eJ (StC S o0))), 0) := by
        unfold F_X3_nextByte
        rw [if_neg q101, if_neg q110]
      exact tt_ireturn dX3_nextByte_27 .int rfl rfl (hP _ _ _ _ ⟨hG120, hA121, Or.inl ⟨_, rfl, ⟨_, rfl, rg_w (⟨by decide, by decide⟩ : Rg 0 0 0)⟩, xiC_mk hF (stC_mk ((congrFun (congrFun e122 193) o0).trans ((congrFun (up2_ne (k := 193)) o0).trans (sC_193 (T := S) (o := o0) rfl))) ((congrFun (congrFun e122 194) o0).trans ((congrFun (up2_ne (k := 194)) o0).trans (sC_194 (T := S) (o := o0) rfl))) (by rw [e122]; exact up2_self) ((congrFun (congrFun e122 196) o0).trans ((congrFun (up2_ne (k := 196)) o0).trans (sC_196 (T := S) (o := o0) rfl))) ((congrFun (congrFun e122 197) o0).trans ((congrFun (up2_ne (k := 197)) o0).trans (sC_197 (T := S) (o := o0) rfl))) ((congrFun (congrFun e122 198) o0).trans ((congrFun (up2_ne (k := 198)) o0).trans (sC_198 (T := S) (o := o0) rfl))) ((congrFun (congrFun e122 199) o0).trans ((congrFun (up2_ne (k := 199)) o0).trans (sC_199 (T := S) (o := o0) rfl))) ((congrFun (congrFun e122 200) o0).trans ((congrFun (up2_ne (k := 200)) o0).trans (sC_200 (T := S) (o := o0) rfl))) ((congrFun (congrFun e122 201) o0).trans ((congrFun (up2_ne (k := 201)) o0).trans (sC_201 (T := S) (o := o0) rfl))) ((congrFun (congrFun e122 202) o0).trans ((congrFun (up2_ne (k := 202)) o0).trans (sC_202 (T := S) (o := o0) rfl))) ((congrFun (congrFun e122 203) o0).trans ((congrFun (up2_ne (k := 203)) o0).trans (sC_203 (T := S) (o := o0) rfl))) ((congrFun (congrFun e122 204) o0).trans ((congrFun (up2_ne (k := 204)) o0).trans (sC_204 (T := S) (o := o0) rfl))) ((congrFun (congrFun f123 205) o0).trans (sC_205 (T := S) (o := o0) rfl))), rfl, rfl⟩⟩)
def F_X3_becomePlain (bs : Nat → Int32) (n : Int32) (d : DD) (x1 : Int32) : DD :=
  ((e0 d), (e1 d), (e2 d), (e3 d), (e4 d), (e5 d), (e6 d), x1, (e8 d), (-1), (-1), 0, 0)
set_option maxHeartbeats 2000000 in
theorem ce_X3_becomePlain {xi : SX} {S : Hp} {E : List Nat} {kc nc : Nat} {P : Po} {o0 : Nat} {x1 : Int32} {bs : Nat → Int32} {n : Int32} (hG : GI S E) (h0 : Oa S E 3 0 o0) (hb : BC S E o0 bs n) (hP : ∀ r T x y, PV E [200, 202, 203, 204] S kc nc rV (fun v T => StC T o0 = F_X3_becomePlain bs n (StC S o0) x1) [] r T x y → P r T x y) : TT xi M_X3_becomePlain 0 [(0, .ref o0), (1, .int x1)] [] S kc nc P := by
  have hA : Af E [200, 202, 203, 204] S S := af_rf
  refine tt_aload_n (j := 0) dX3_becomePlain_0 rfl ?_
  refine tt_iload_n (j := 1) dX3_becomePlain_1 rfl ?_
  refine gt_pI (id := 200) (x := x1) dX3_becomePlain_2 fl_3_54 rfl rfl h0 hA rfl rfl rfl (gp_I hG) (by decide) (fun h => absurd h (by decide)) (fun h => absurd h (by decide)) (fun S101 hG102 hA103 e104 f105 er106 => ?_)
  refine tt_aload_n (j := 0) dX3_becomePlain_5 rfl ?_
  refine tt_iconst (v := (-1)) dX3_becomePlain_6 rfl ?_
  refine gt_pI (id := 202) (x := (-1)) dX3_becomePlain_7 fl_3_64 rfl rfl h0 hA103 rfl rfl rfl (gp_I hG102) (by decide) (fun h => absurd h (by decide)) (fun h => absurd h (by decide)) (fun S107 hG108 hA109 e110 f111 er112 => ?_)
  refine tt_aload_n (j := 0) dX3_becomePlain_10 rfl ?_
  refine tt_iconst (v := (-1)) dX3_becomePlain_11 rfl ?_
  refine gt_pI (id := 203) (x := (-1)) dX3_becomePlain_12 fl_3_67 rfl rfl h0 hA109 rfl rfl rfl (gp_I hG108) (by decide) (fun h => absurd h (by decide)) (fun h => absurd h (by decide)) (fun S113 hG114 hA115 e116 f117 er118 => ?_)
  refine tt_aload_n (j := 0) dX3_becomePlain_15 rfl ?_
  refine tt_iconst (v := 0) dX3_becomePlain_16 rfl ?_
  refine gt_pI (id := 204) (x := 0) dX3_becomePlain_17 fl_3_70 rfl rfl h0 hA115 rfl rfl rfl (gp_I hG114) (by decide) (fun h => absurd h (by decide)) (fun h => absurd h (by decide)) (fun S119 hG120 hA121 e122 f123 er124 => ?_)
  refine tt_aload_n (j := 0) dX3_becomePlain_20 rfl ?_
  refine tt_lconst (v := 0) dX3_becomePlain_21 rfl ?_
  refine gt_pJ (id := 205) (x := 0) dX3_becomePlain_22 fl_3_73 rfl rfl h0 hA121 rfl rfl rfl hG120 (fun S125 hG126 hA127 e128 f129 er130 => ?_)
  have hF : F_X3_becomePlain bs n (StC S o0) x1 = ((e0 (StC S o0)), (e1 (StC S o0)), (e2 (StC S o0)), (e3 (StC S o0)), (e4 (StC S o0)), (e5 (StC S o0)), (e6 (StC S o0)), x1, (e8 (StC S o0)), (-1), (-1), 0, 0) := by
    rfl
  exact tt_vreturn dX3_becomePlain_25 rfl (hP _ _ _ _ ⟨hG126, hA127, Or.inl ⟨_, rfl, rfl, Eq.trans (stC_mk ((congrFun (congrFun e128 193) o0).trans ((congrFun (congrFun e122 193) o0).trans ((congrFun (up2_ne (k := 193)) o0).trans ((congrFun (congrFun e116 193) o0).trans ((congrFun (up2_ne (k := 193)) o0).trans ((congrFun (congrFun e110 193) o0).trans ((congrFun (up2_ne (k := 193)) o0).trans ((congrFun (congrFun e104 193) o0).trans ((congrFun (up2_ne (k := 193)) o0).trans (sC_193 (T := S) (o := o0) rfl)))))))))) ((congrFun (congrFun e128 194) o0).trans ((congrFun (congrFun e122 194) o0).trans ((congrFun (up2_ne (k := 194)) o0).trans ((congrFun (congrFun e116 194) o0).trans ((congrFun (up2_ne (k := 194)) o0).trans ((congrFun (congrFun e110 194) o0).trans ((congrFun (up2_ne (k := 194)) o0).trans ((congrFun (congrFun e104 194) o0).trans ((congrFun (up2_ne (k := 194)) o0).trans (sC_194 (T := S) (o := o0) rfl)))))))))) ((congrFun (congrFun e128 195) o0).trans ((congrFun (congrFun e122 195) o0).trans ((congrFun (up2_ne (k := 195)) o0).trans ((congrFun (congrFun e116 195) o0).trans ((congrFun (up2_ne (k := 195)) o0).trans ((congrFun (congrFun e110 195) o0).trans ((congrFun (up2_ne (k := 195)) o0).trans ((congrFun (congrFun e104 195) o0).trans ((congrFun (up2_ne (k := 195)) o0).trans (sC_195 (T := S) (o := o0) rfl)))))))))) ((congrFun (congrFun e128 196) o0).trans ((congrFun (congrFun e122 196) o0).trans ((congrFun (up2_ne (k := 196)) o0).trans ((congrFun (congrFun e116 196) o0).trans ((congrFun (up2_ne (k := 196)) o0).trans ((congrFun (congrFun e110 196) o0).trans ((congrFun (up2_ne (k := 196)) o0).trans ((congrFun (congrFun e104 196) o0).trans ((congrFun (up2_ne (k := 196)) o0).trans (sC_196 (T := S) (o := o0) rfl)))))))))) ((congrFun (congrFun e128 197) o0).trans ((congrFun (congrFun e122 197) o0).trans ((congrFun (up2_ne (k := 197)) o0).trans ((congrFun (congrFun e116 197) o0).trans ((congrFun (up2_ne (k := 197)) o0).trans ((congrFun (congrFun e110 197) o0).trans ((congrFun (up2_ne (k := 197)) o0).trans ((congrFun (congrFun e104 197) o0).trans ((congrFun (up2_ne (k := 197)) o0).trans (sC_197 (T := S) (o := o0) rfl)))))))))) ((congrFun (congrFun e128 198) o0).trans ((congrFun (congrFun e122 198) o0).trans ((congrFun (up2_ne (k := 198)) o0).trans ((congrFun (congrFun e116 198) o0).trans ((congrFun (up2_ne (k := 198)) o0).trans ((congrFun (congrFun e110 198) o0).trans ((congrFun (up2_ne (k := 198)) o0).trans ((congrFun (congrFun e104 198) o0).trans ((congrFun (up2_ne (k := 198)) o0).trans (sC_198 (T := S) (o := o0) rfl)))))))))) ((congrFun (congrFun e128 199) o0).trans ((congrFun (congrFun e122 199) o0).trans ((congrFun (up2_ne (k := 199)) o0).trans ((congrFun (congrFun e116 199) o0).trans ((congrFun (up2_ne (k := 199)) o0).trans ((congrFun (congrFun e110 199) o0).trans ((congrFun (up2_ne (k := 199)) o0).trans ((congrFun (congrFun e104 199) o0).trans ((congrFun (up2_ne (k := 199)) o0).trans (sC_199 (T := S) (o := o0) rfl)))))))))) ((congrFun (congrFun e128 200) o0).trans ((congrFun (congrFun e122 200) o0).trans ((congrFun (up2_ne (k := 200)) o0).trans ((congrFun (congrFun e116 200) o0).trans ((congrFun (up2_ne (k := 200)) o0).trans ((congrFun (congrFun e110 200) o0).trans ((congrFun (up2_ne (k := 200)) o0).trans (by rw [e104]; exact up2_self)))))))) ((congrFun (congrFun e128 201) o0).trans ((congrFun (congrFun e122 201) o0).trans ((congrFun (up2_ne (k := 201)) o0).trans ((congrFun (congrFun e116 201) o0).trans ((congrFun (up2_ne (k := 201)) o0).trans ((congrFun (congrFun e110 201) o0).trans ((congrFun (up2_ne (k := 201)) o0).trans ((congrFun (congrFun e104 201) o0).trans ((congrFun (up2_ne (k := 201)) o0).trans (sC_201 (T := S) (o := o0) rfl)))))))))) ((congrFun (congrFun e128 202) o0).trans ((congrFun (congrFun e122 202) o0).trans ((congrFun (up2_ne (k := 202)) o0).trans ((congrFun (congrFun e116 202) o0).trans ((congrFun (up2_ne (k := 202)) o0).trans (by rw [e110]; exact up2_self)))))) ((congrFun (congrFun e128 203) o0).trans ((congrFun (congrFun e122 203) o0).trans ((congrFun (up2_ne (k := 203)) o0).trans (by rw [e116]; exact up2_self)))) ((congrFun (congrFun e128 204) o0).trans (by rw [e122]; exact up2_self)) (by rw [f129]; exact up2_self)) hF.symm, rfl, rfl⟩⟩)
def F_X3_isFrameChanged (bs : Nat → Int32) (n : Int32) (d : DD) : DD × Int32 :=
  if (e9 d) = 4 then
    if (e7 d) = 7 then
      (d, 0)
    else
      if (e7 d) = 8 then
        (d, 0)
      else
        (d, 1)
  else
    if (e9 d) = 5 then
      if (e7 d) = 7 then
        (d, 0)
      else
        if (e7 d) = 8 then
          (d, 0)
        else
          (d, 1)
    else
      (d, 0)
set_option maxHeartbeats 2000000 in
theorem ce_X3_isFrameChanged {xi : SX} {S : Hp} {E : List Nat} {kc nc : Nat} {P : Po} {o0 : Nat} {bs : Nat → Int32} {n : Int32} (hG : GI S E) (h0 : Oa S E 3 0 o0) (hb : BC S E o0 bs n) (hP : ∀ r T x y, PV E [] S kc nc (rI 0 1) (fun v T => XIC (F_X3_isFrameChanged bs n (StC S o0) ) T o0 v) [] r T x y → P r T x y) : TT xi M_X3_isFrameChanged 0 [(0, .ref o0)] [] S kc nc P := by
  have hA : Af E [] S S := af_rf
  refine tt_aload_n (j := 0) dX3_isFrameChanged_0 rfl ?_
  refine gt_gI (id := 202) (v := (e9 (StC S o0))) dX3_isFrameChanged_1 fl_3_64 rfl rfl h0 hA (sC_202 (T := S) (o := o0) rfl) ?_
  refine tt_iconst (v := 4) dX3_isFrameChanged_4 rfl ?_
  refine tt_icmp_eq (tgt := 16) dX3_isFrameChanged_5 rfl (fun q101 => ?_) (fun q101 => ?_)
  · skip
    have h102 : Rg 4 4 (e9 (StC S o0)) := rg_eq_l (rg_all (e9 (StC S o0))) (⟨by decide, by decide⟩ : Rg 4 4 4) q101
    refine tt_aload_n (j := 0) dX3_isFrameChanged_16 rfl ?_
    refine gt_gI (id := 200) (v := (e7 (StC S o0))) dX3_isFrameChanged_17 fl_3_54 rfl rfl h0 hA (sC_200 (T := S) (o := o0) rfl) ?_
    refine tt_bipush (v := 7) dX3_isFrameChanged_20 rfl ?_
    refine tt_icmp_eq (tgt := 38) dX3_isFrameChanged_22 rfl (fun q103 => ?_) (fun q103 => ?_)
    · skip
      have h104 : Rg 7 7 (e7 (StC S o0)) := rg_eq_l (rg_all (e7 (StC S o0))) (⟨by decide, by decide⟩ : Rg 7 7 7) q103
      refine tt_iconst (v := 0) dX3_isFrameChanged_38 rfl ?_
      have hF : F_X3_isFrameChanged bs n (StC S o0)  = ((StC S o0), 0) := by
        unfold F_X3_isFrameChanged
        rw [if_pos q101, if_pos q103]
      exact tt_ireturn dX3_isFrameChanged_39 .boolean rfl rfl (hP _ _ _ _ ⟨hG, hA, Or.inl ⟨_, rfl, ⟨_, rfl, rg_w (⟨by decide, by decide⟩ : Rg 0 0 0)⟩, xiC_mk hF (stC_mk (sC_193 (T := S) (o := o0) rfl) (sC_194 (T := S) (o := o0) rfl) (sC_195 (T := S) (o := o0) rfl) (sC_196 (T := S) (o := o0) rfl) (sC_197 (T := S) (o := o0) rfl) (sC_198 (T := S) (o := o0) rfl) (sC_199 (T := S) (o := o0) rfl) (sC_200 (T := S) (o := o0) rfl) (sC_201 (T := S) (o := o0) rfl) (sC_202 (T := S) (o := o0) rfl) (sC_203 (T := S) (o := o0) rfl) (sC_204 (T := S) (o := o0) rfl) (sC_205 (T := S) (o := o0) rfl)), rfl, rfl⟩⟩)
    · skip
      refine tt_aload_n (j := 0) dX3_isFrameChanged_25 rfl ?_
      refine gt_gI (id := 200) (v := (e7 (StC S o0))) dX3_isFrameChanged_26 fl_3_54 rfl rfl h0 hA (sC_200 (T := S) (o := o0) rfl) ?_
      refine tt_bipush (v := 8) dX3_isFrameChanged_29 rfl ?_
      refine tt_icmp_eq (tgt := 38) dX3_isFrameChanged_31 rfl (fun q105 => ?_) (fun q105 => ?_)
      · skip
        have h106 : Rg 8 8 (e7 (StC S o0)) := rg_eq_l (rg_all (e7 (StC S o0))) (⟨by decide, by decide⟩ : Rg 8 8 8) q105
        refine tt_iconst (v := 0) dX3_isFrameChanged_38 rfl ?_
        have hF : F_X3_isFrameChanged bs n (StC S o0)  = ((StC S o0), 0) := by
          unfold F_X3_isFrameChanged
          rw [if_pos q101, if_neg q103, if_pos q105]
        exact tt_ireturn dX3_isFrameChanged_39 .boolean rfl rfl (hP _ _ _ _ ⟨hG, hA, Or.inl ⟨_, rfl, ⟨_, rfl, rg_w (⟨by decide, by decide⟩ : Rg 0 0 0)⟩, xiC_mk hF (stC_mk (sC_193 (T := S) (o := o0) rfl) (sC_194 (T := S) (o := o0) rfl) (sC_195 (T := S) (o := o0) rfl) (sC_196 (T := S) (o := o0) rfl) (sC_197 (T := S) (o := o0) rfl) (sC_198 (T := S) (o := o0) rfl) (sC_199 (T := S) (o := o0) rfl) (sC_200 (T := S) (o := o0) rfl) (sC_201 (T := S) (o := o0) rfl) (sC_202 (T := S) (o := o0) rfl) (sC_203 (T := S) (o := o0) rfl) (sC_204 (T := S) (o := o0) rfl) (sC_205 (T := S) (o := o0) rfl)), rfl, rfl⟩⟩)
      · skip
        refine tt_iconst (v := 1) dX3_isFrameChanged_34 rfl ?_
        refine tt_goto (tgt := 39) dX3_isFrameChanged_35 rfl ?_
        have hF : F_X3_isFrameChanged bs n (StC S o0)  = ((StC S o0), 1) := by
          unfold F_X3_isFrameChanged
          rw [if_pos q101, if_neg q103, if_neg q105]
        exact tt_ireturn dX3_isFrameChanged_39 .boolean rfl rfl (hP _ _ _ _ ⟨hG, hA, Or.inl ⟨_, rfl, ⟨_, rfl, rg_w (⟨by decide, by decide⟩ : Rg 1 1 1)⟩, xiC_mk hF (stC_mk (sC_193 (T := S) (o := o0) rfl) (sC_194 (T := S) (o := o0) rfl) (sC_195 (T := S) (o := o0) rfl) (sC_196 (T := S) (o := o0) rfl) (sC_197 (T := S) (o := o0) rfl) (sC_198 (T := S) (o := o0) rfl) (sC_199 (T := S) (o := o0) rfl) (sC_200 (T := S) (o := o0) rfl) (sC_201 (T := S) (o := o0) rfl) (sC_202 (T := S) (o := o0) rfl) (sC_203 (T := S) (o := o0) rfl) (sC_204 (T := S) (o := o0) rfl) (sC_205 (T := S) (o := o0) rfl)), rfl, rfl⟩⟩)
  · skip
    refine tt_aload_n (j := 0) dX3_isFrameChanged_8 rfl ?_
    refine gt_gI (id := 202) (v := (e9 (StC S o0))) dX3_isFrameChanged_9 fl_3_64 rfl rfl h0 hA (sC_202 (T := S) (o := o0) rfl) ?_
    refine tt_iconst (v := 5) dX3_isFrameChanged_12 rfl ?_
    refine tt_icmp_ne (tgt := 38) dX3_isFrameChanged_13 rfl (fun q107 => ?_) (fun q107 => ?_)
    · skip
      refine tt_iconst (v := 0) dX3_isFrameChanged_38 rfl ?_
      have hF : F_X3_isFrameChanged bs n (StC S o0)  = ((StC S o0), 0) := by
        unfold F_X3_isFrameChanged
        rw [if_neg q101, if_neg q107]
      exact tt_ireturn dX3_isFrameChanged_39 .boolean rfl rfl (hP _ _ _ _ ⟨hG, hA, Or.inl ⟨_, rfl, ⟨_, rfl, rg_w (⟨by decide, by decide⟩ : Rg 0 0 0)⟩, xiC_mk hF (stC_mk (sC_193 (T := S) (o := o0) rfl) (sC_194 (T := S) (o := o0) rfl) (sC_195 (T := S) (o := o0) rfl) (sC_196 (T := S) (o := o0) rfl) (sC_197 (T := S) (o := o0) rfl) (sC_198 (T := S) (o := o0) rfl) (sC_199 (T := S) (o := o0) rfl) (sC_200 (T := S) (o := o0) rfl) (sC_201 (T := S) (o := o0) rfl) (sC_202 (T := S) (o := o0) rfl) (sC_203 (T := S) (o := o0) rfl) (sC_204 (T := S) (o := o0) rfl) (sC_205 (T := S) (o := o0) rfl)), rfl, rfl⟩⟩)
    · skip
      have h108 : Rg 5 5 (e9 (StC S o0)) := rg_eq_l (rg_all (e9 (StC S o0))) (⟨by decide, by decide⟩ : Rg 5 5 5) q107
      refine tt_aload_n (j := 0) dX3_isFrameChanged_16 rfl ?_
      refine gt_gI (id := 200) (v := (e7 (StC S o0))) dX3_isFrameChanged_17 fl_3_54 rfl rfl h0 hA (sC_200 (T := S) (o := o0) rfl) ?_
      refine tt_bipush (v := 7) dX3_isFrameChanged_20 rfl ?_
      refine tt_icmp_eq (tgt := 38) dX3_isFrameChanged_22 rfl (fun q109 => ?_) (fun q109 => ?_)
      · skip
        have h110 : Rg 7 7 (e7 (StC S o0)) := rg_eq_l (rg_all (e7 (StC S o0))) (⟨by decide, by decide⟩ : Rg 7 7 7) q109
        refine tt_iconst (v := 0) dX3_isFrameChanged_38 rfl ?_
        have hF : F_X3_isFrameChanged bs n (StC S o0)  = ((StC S o0), 0) := by
          unfold F_X3_isFrameChanged
          rw [if_neg q101, if_pos q107, if_pos q109]
        exact tt_ireturn dX3_isFrameChanged_39 .boolean rfl rfl (hP _ _ _ _ ⟨hG, hA, Or.inl ⟨_, rfl, ⟨_, rfl, rg_w (⟨by decide, by decide⟩ : Rg 0 0 0)⟩, xiC_mk hF (stC_mk (sC_193 (T := S) (o := o0) rfl) (sC_194 (T := S) (o := o0) rfl) (sC_195 (T := S) (o := o0) rfl) (sC_196 (T := S) (o := o0) rfl) (sC_197 (T := S) (o := o0) rfl) (sC_198 (T := S) (o := o0) rfl) (sC_199 (T := S) (o := o0) rfl) (sC_200 (T := S) (o := o0) rfl) (sC_201 (T := S) (o := o0) rfl) (sC_202 (T := S) (o := o0) rfl) (sC_203 (T := S) (o := o0) rfl) (sC_204 (T := S) (o := o0) rfl) (sC_205 (T := S) (o := o0) rfl)), rfl, rfl⟩⟩)
      · skip
        refine tt_aload_n (j := 0) dX3_isFrameChanged_25 rfl ?_
        refine gt_gI (id := 200) (v := (e7 (StC S o0))) dX3_isFrameChanged_26 fl_3_54 rfl rfl h0 hA (sC_200 (T := S) (o := o0) rfl) ?_
        refine tt_bipush (v := 8) dX3_isFrameChanged_29 rfl ?_
        refine tt_icmp_eq (tgt := 38) dX3_isFrameChanged_31 rfl (fun q111 => ?_) (fun q111 => ?_)
        · skip
          have h112 : Rg 8 8 (e7 (StC S o0)) := rg_eq_l (rg_all (e7 (StC S o0))) (⟨by decide, by decide⟩ : Rg 8 8 8) q111
          refine tt_iconst (v := 0) dX3_isFrameChanged_38 rfl ?_
          have hF : F_X3_isFrameChanged bs n (StC S o0)  = ((StC S o0), 0) := by
            unfold F_X3_isFrameChanged
            rw [if_neg q101, if_pos q107, if_neg q109, if_pos q111]
          exact tt_ireturn dX3_isFrameChanged_39 .boolean rfl rfl (hP _ _ _ _ ⟨hG, hA, Or.inl ⟨_, rfl, ⟨_, rfl, rg_w (⟨by decide, by decide⟩ : Rg 0 0 0)⟩, xiC_mk hF (stC_mk (sC_193 (T := S) (o := o0) rfl) (sC_194 (T := S) (o := o0) rfl) (sC_195 (T := S) (o := o0) rfl) (sC_196 (T := S) (o := o0) rfl) (sC_197 (T := S) (o := o0) rfl) (sC_198 (T := S) (o := o0) rfl) (sC_199 (T := S) (o := o0) rfl) (sC_200 (T := S) (o := o0) rfl) (sC_201 (T := S) (o := o0) rfl) (sC_202 (T := S) (o := o0) rfl) (sC_203 (T := S) (o := o0) rfl) (sC_204 (T := S) (o := o0) rfl) (sC_205 (T := S) (o := o0) rfl)), rfl, rfl⟩⟩)
        · skip
          refine tt_iconst (v := 1) dX3_isFrameChanged_34 rfl ?_
          refine tt_goto (tgt := 39) dX3_isFrameChanged_35 rfl ?_
          have hF : F_X3_isFrameChanged bs n (StC S o0)  = ((StC S o0), 1) := by
            unfold F_X3_isFrameChanged
            rw [if_neg q101, if_pos q107, if_neg q109, if_neg q111]
          exact tt_ireturn dX3_isFrameChanged_39 .boolean rfl rfl (hP _ _ _ _ ⟨hG, hA, Or.inl ⟨_, rfl, ⟨_, rfl, rg_w (⟨by decide, by decide⟩ : Rg 1 1 1)⟩, xiC_mk hF (stC_mk (sC_193 (T := S) (o := o0) rfl) (sC_194 (T := S) (o := o0) rfl) (sC_195 (T := S) (o := o0) rfl) (sC_196 (T := S) (o := o0) rfl) (sC_197 (T := S) (o := o0) rfl) (sC_198 (T := S) (o := o0) rfl) (sC_199 (T := S) (o := o0) rfl) (sC_200 (T := S) (o := o0) rfl) (sC_201 (T := S) (o := o0) rfl) (sC_202 (T := S) (o := o0) rfl) (sC_203 (T := S) (o := o0) rfl) (sC_204 (T := S) (o := o0) rfl) (sC_205 (T := S) (o := o0) rfl)), rfl, rfl⟩⟩)
def F_X3_isCarryArithmetic (bs : Nat → Int32) (n : Int32) (d : DD) : DD × Int32 :=
  if (e7 d) = 2 then
    (d, 1)
  else
    if (e7 d) = 3 then
      (d, 1)
    else
      (d, 0)
set_option maxHeartbeats 2000000 in
theorem ce_X3_isCarryArithmetic {xi : SX} {S : Hp} {E : List Nat} {kc nc : Nat} {P : Po} {o0 : Nat} {bs : Nat → Int32} {n : Int32} (hG : GI S E) (h0 : Oa S E 3 0 o0) (hb : BC S E o0 bs n) (hP : ∀ r T x y, PV E [] S kc nc (rI 0 1) (fun v T => XIC (F_X3_isCarryArithmetic bs n (StC S o0) ) T o0 v) [] r T x y → P r T x y) : TT xi M_X3_isCarryArithmetic 0 [(0, .ref o0)] [] S kc nc P := by
  have hA : Af E [] S S := af_rf
  refine tt_aload_n (j := 0) dX3_isCarryArithmetic_0 rfl ?_
  refine gt_gI (id := 200) (v := (e7 (StC S o0))) dX3_isCarryArithmetic_1 fl_3_54 rfl rfl h0 hA (sC_200 (T := S) (o := o0) rfl) ?_
  refine tt_iconst (v := 2) dX3_isCarryArithmetic_4 rfl ?_
  refine tt_icmp_eq (tgt := 16) dX3_isCarryArithmetic_5 rfl (fun q101 => ?_) (fun q101 => ?_)
  · skip
    have h102 : Rg 2 2 (e7 (StC S o0)) := rg_eq_l (rg_all (e7 (StC S o0))) (⟨by decide, by decide⟩ : Rg 2 2 2) q101
    refine tt_iconst (v := 1) dX3_isCarryArithmetic_16 rfl ?_
    refine tt_goto (tgt := 21) dX3_isCarryArithmetic_17 rfl ?_
    have hF : F_X3_isCarryArithmetic bs n (StC S o0)  = ((StC S o0), 1) := by
      unfold F_X3_isCarryArithmetic
      rw [if_pos q101]
    exact tt_ireturn dX3_isCarryArithmetic_21 .boolean rfl rfl (hP _ _ _ _ ⟨hG, hA, Or.inl ⟨_, rfl, ⟨_, rfl, rg_w (⟨by decide, by decide⟩ : Rg 1 1 1)⟩, xiC_mk hF (stC_mk (sC_193 (T := S) (o := o0) rfl) (sC_194 (T := S) (o := o0) rfl) (sC_195 (T := S) (o := o0) rfl) (sC_196 (T := S) (o := o0) rfl) (sC_197 (T := S) (o := o0) rfl) (sC_198 (T := S) (o := o0) rfl) (sC_199 (T := S) (o := o0) rfl) (sC_200 (T := S) (o := o0) rfl) (sC_201 (T := S) (o := o0) rfl) (sC_202 (T := S) (o := o0) rfl) (sC_203 (T := S) (o := o0) rfl) (sC_204 (T := S) (o := o0) rfl) (sC_205 (T := S) (o := o0) rfl)), rfl, rfl⟩⟩)
  · skip
    refine tt_aload_n (j := 0) dX3_isCarryArithmetic_8 rfl ?_
    refine gt_gI (id := 200) (v := (e7 (StC S o0))) dX3_isCarryArithmetic_9 fl_3_54 rfl rfl h0 hA (sC_200 (T := S) (o := o0) rfl) ?_
    refine tt_iconst (v := 3) dX3_isCarryArithmetic_12 rfl ?_
    refine tt_icmp_ne (tgt := 20) dX3_isCarryArithmetic_13 rfl (fun q103 => ?_) (fun q103 => ?_)
    · skip
      refine tt_iconst (v := 0) dX3_isCarryArithmetic_20 rfl ?_
      have hF : F_X3_isCarryArithmetic bs n (StC S o0)  = ((StC S o0), 0) := by
        unfold F_X3_isCarryArithmetic
        rw [if_neg q101, if_neg q103]
      exact tt_ireturn dX3_isCarryArithmetic_21 .boolean rfl rfl (hP _ _ _ _ ⟨hG, hA, Or.inl ⟨_, rfl, ⟨_, rfl, rg_w (⟨by decide, by decide⟩ : Rg 0 0 0)⟩, xiC_mk hF (stC_mk (sC_193 (T := S) (o := o0) rfl) (sC_194 (T := S) (o := o0) rfl) (sC_195 (T := S) (o := o0) rfl) (sC_196 (T := S) (o := o0) rfl) (sC_197 (T := S) (o := o0) rfl) (sC_198 (T := S) (o := o0) rfl) (sC_199 (T := S) (o := o0) rfl) (sC_200 (T := S) (o := o0) rfl) (sC_201 (T := S) (o := o0) rfl) (sC_202 (T := S) (o := o0) rfl) (sC_203 (T := S) (o := o0) rfl) (sC_204 (T := S) (o := o0) rfl) (sC_205 (T := S) (o := o0) rfl)), rfl, rfl⟩⟩)
    · skip
      have h104 : Rg 3 3 (e7 (StC S o0)) := rg_eq_l (rg_all (e7 (StC S o0))) (⟨by decide, by decide⟩ : Rg 3 3 3) q103
      refine tt_iconst (v := 1) dX3_isCarryArithmetic_16 rfl ?_
      refine tt_goto (tgt := 21) dX3_isCarryArithmetic_17 rfl ?_
      have hF : F_X3_isCarryArithmetic bs n (StC S o0)  = ((StC S o0), 1) := by
        unfold F_X3_isCarryArithmetic
        rw [if_neg q101, if_pos q103]
      exact tt_ireturn dX3_isCarryArithmetic_21 .boolean rfl rfl (hP _ _ _ _ ⟨hG, hA, Or.inl ⟨_, rfl, ⟨_, rfl, rg_w (⟨by decide, by decide⟩ : Rg 1 1 1)⟩, xiC_mk hF (stC_mk (sC_193 (T := S) (o := o0) rfl) (sC_194 (T := S) (o := o0) rfl) (sC_195 (T := S) (o := o0) rfl) (sC_196 (T := S) (o := o0) rfl) (sC_197 (T := S) (o := o0) rfl) (sC_198 (T := S) (o := o0) rfl) (sC_199 (T := S) (o := o0) rfl) (sC_200 (T := S) (o := o0) rfl) (sC_201 (T := S) (o := o0) rfl) (sC_202 (T := S) (o := o0) rfl) (sC_203 (T := S) (o := o0) rfl) (sC_204 (T := S) (o := o0) rfl) (sC_205 (T := S) (o := o0) rfl)), rfl, rfl⟩⟩)
def F_X3_readNumber_1 (bs : Nat → Int32) (n : Int32) (d : DD) : DD × Int64 :=
  let d106 := F_X3_nextByte bs n d 
  (d106.1, (((0 ||| ((d106.2 : Int32).toInt64 <<< (((8 * 0) : Int32).toInt64 &&& 63))) <<< (((64 - (8 * 1)) : Int32).toInt64 &&& 63)) >>> (((64 - (8 * 1)) : Int32).toInt64 &&& 63)))
set_option maxHeartbeats 2000000 in
theorem ce_X3_readNumber_1 {xi : SX} {S : Hp} {E : List Nat} {kc nc : Nat} {P : Po} {o0 : Nat} {bs : Nat → Int32} {n : Int32} (hG : GI S E) (h0 : Oa S E 3 0 o0) (hb : BC S E o0 bs n) (hP : ∀ r T x y, PV E [193, 195] S kc nc rJ (fun v T => XJC (F_X3_readNumber_1 bs n (StC S o0) ) T o0 v) [] r T x y → P r T x y) : TT xi M_X3_readNumber 0 [(0, .ref o0), (1, .int 1)] [] S kc nc P := by
  have hA : Af E [193, 195] S S := af_rf
  refine tt_lconst (v := 0) dX3_readNumber_0 rfl ?_
  refine tt_lstore_n (ks := [0, 1, 2]) (L' := [(2, .long 0), (0, .ref o0), (1, .int 1)]) dX3_readNumber_1 (by decide) rfl ?_
  refine tt_iconst (v := 0) dX3_readNumber_2 rfl ?_
  refine tt_istore (ks := [0, 1, 2, 3]) (L' := [(4, .int 0), (2, .long 0), (0, .ref o0), (1, .int 1)]) dX3_readNumber_3 (by decide) rfl ?_
  refine tt_iload (j := 0) dX3_readNumber_5 rfl ?_
  refine tt_iload_n (j := 3) dX3_readNumber_7 rfl ?_
  refine tt_icmp_ge (tgt := 31) dX3_readNumber_8 rfl (fun q => absurd q (by decide)) (fun _ => ?_)
  refine tt_lload_n (j := 1) dX3_readNumber_11 rfl ?_
  refine tt_aload_n (j := 2) dX3_readNumber_12 rfl ?_
  refine gt_VI (As := []) dX3_readNumber_13 ca_X3_30 ⟨by decide, by decide⟩ h0 hA rfl (Nat.le_of_ble_eq_true rfl) (Nat.le_of_ble_eq_true rfl) (by decide) (ce_X3_nextByte hG (oa_af h0 hA) (bc_af hb h0 hA) (fun _ _ _ _ h => h)) rfl (fun _ h => nomatch h) (fun S101 x110 h111 hx105 hG102 hB103 hA104 => ?_)
  obtain ⟨d106, hd107⟩ : ∃ q, q = F_X3_nextByte bs n (StC S o0)  := ⟨_, rfl⟩
  have hq108 := (congrArg (fun q => F_X3_nextByte bs n q ) (stC_mk (sC_193 (T := S) (o := o0) rfl) (sC_194 (T := S) (o := o0) rfl) (sC_195 (T := S) (o := o0) rfl) (sC_196 (T := S) (o := o0) rfl) (sC_197 (T := S) (o := o0) rfl) (sC_198 (T := S) (o := o0) rfl) (sC_199 (T := S) (o := o0) rfl) (sC_200 (T := S) (o := o0) rfl) (sC_201 (T := S) (o := o0) rfl) (sC_202 (T := S) (o := o0) rfl) (sC_203 (T := S) (o := o0) rfl) (sC_204 (T := S) (o := o0) rfl) (sC_205 (T := S) (o := o0) rfl))).trans hd107.symm
  have hs109 := hx105.2.trans (congrArg Prod.fst hq108)
  obtain rfl : x110 = d106.2 := (xiC_v hx105).trans (congrArg Prod.snd hq108)
  refine tt_i2l dX3_readNumber_16 ?_
  refine tt_bipush (v := 8) dX3_readNumber_17 rfl ?_
  refine tt_iload (j := 0) dX3_readNumber_19 rfl ?_
  refine tt_imul dX3_readNumber_21 ?_
  refine tt_lshl dX3_readNumber_22 ?_
  refine tt_lor dX3_readNumber_23 ?_
  refine tt_lstore_n (ks := [0, 1, 2, 3]) (L' := [(2, .long (0 ||| ((d106.2 : Int32).toInt64 <<< (((8 * 0) : Int32).toInt64 &&& 63)))), (4, .int 0), (0, .ref o0), (1, .int 1)]) dX3_readNumber_24 (by decide) rfl ?_
  refine tt_iinc (j := 1) (v := 1) (ks := [0, 1, 2, 3]) (L' := [(4, .int 1), (2, .long (0 ||| ((d106.2 : Int32).toInt64 <<< (((8 * 0) : Int32).toInt64 &&& 63)))), (0, .ref o0), (1, .int 1)]) dX3_readNumber_25 rfl rfl (by decide) rfl ?_
  refine tt_goto (tgt := 5) dX3_readNumber_28 rfl ?_
  refine tt_iload (j := 0) dX3_readNumber_5 rfl ?_
  refine tt_iload_n (j := 3) dX3_readNumber_7 rfl ?_
  refine tt_icmp_ge (tgt := 31) dX3_readNumber_8 rfl (fun _ => ?_) (fun q => absurd q (by decide))
  refine tt_bipush (v := 64) dX3_readNumber_31 rfl ?_
  refine tt_bipush (v := 8) dX3_readNumber_33 rfl ?_
  refine tt_iload_n (j := 3) dX3_readNumber_35 rfl ?_
  refine tt_imul dX3_readNumber_36 ?_
  refine tt_isub dX3_readNumber_37 ?_
  refine tt_istore (ks := [0, 1, 2, 3]) (L' := [(4, .int (64 - (8 * 1))), (2, .long (0 ||| ((d106.2 : Int32).toInt64 <<< (((8 * 0) : Int32).toInt64 &&& 63)))), (0, .ref o0), (1, .int 1)]) dX3_readNumber_38 (by decide) rfl ?_
  refine tt_lload_n (j := 1) dX3_readNumber_40 rfl ?_
  refine tt_iload (j := 0) dX3_readNumber_41 rfl ?_
  refine tt_lshl dX3_readNumber_43 ?_
  refine tt_iload (j := 0) dX3_readNumber_44 rfl ?_
  refine tt_lshr dX3_readNumber_46 ?_
  have hF : F_X3_readNumber_1 bs n (StC S o0)  = (d106.1, (((0 ||| ((d106.2 : Int32).toInt64 <<< (((8 * 0) : Int32).toInt64 &&& 63))) <<< (((64 - (8 * 1)) : Int32).toInt64 &&& 63)) >>> (((64 - (8 * 1)) : Int32).toInt64 &&& 63))) := by
    subst hd107
    rfl
  exact tt_lreturn dX3_readNumber_47 rfl (hP _ _ _ _ ⟨hG102, hA104, Or.inl ⟨_, rfl, ⟨_, rfl⟩, xjC_mk hF (stC_mk (sC_193 hs109) (sC_194 hs109) (sC_195 hs109) (sC_196 hs109) (sC_197 hs109) (sC_198 hs109) (sC_199 hs109) (sC_200 hs109) (sC_201 hs109) (sC_202 hs109) (sC_203 hs109) (sC_204 hs109) (sC_205 hs109)), rfl, rfl⟩⟩)
def F_X3_readNumber_4 (bs : Nat → Int32) (n : Int32) (d : DD) : DD × Int64 :=
  let d106 := F_X3_nextByte bs n d 
  let d117 := F_X3_nextByte bs n d106.1 
  let d128 := F_X3_nextByte bs n d117.1 
  let d139 := F_X3_nextByte bs n d128.1 
  (d139.1, ((((((0 ||| ((d106.2 : Int32).toInt64 <<< (((8 * 0) : Int32).toInt64 &&& 63))) ||| ((d117.2 : Int32).toInt64 <<< (((8 * 1) : Int32).toInt64 &&& 63))) ||| ((d128.2 : Int32).toInt64 <<< (((8 * 2) : Int32).toInt64 &&& 63))) ||| ((d139.2 : Int32).toInt64 <<< (((8 * 3) : Int32).toInt64 &&& 63))) <<< (((64 - (8 * 4)) : Int32).toInt64 &&& 63)) >>> (((64 - (8 * 4)) : Int32).toInt64 &&& 63)))
set_option maxHeartbeats 2000000 in
theorem ce_X3_readNumber_4 {xi : SX} {S : Hp} {E : List Nat} {kc nc : Nat} {P : Po} {o0 : Nat} {bs : Nat → Int32} {n : Int32} (hG : GI S E) (h0 : Oa S E 3 0 o0) (hb : BC S E o0 bs n) (hP : ∀ r T x y, PV E [193, 195] S kc nc rJ (fun v T => XJC (F_X3_readNumber_4 bs n (StC S o0) ) T o0 v) [] r T x y → P r T x y) : TT xi M_X3_readNumber 0 [(0, .ref o0), (1, .int 4)] [] S kc nc P := by
  have hA : Af E [193, 195] S S := af_rf
  refine tt_lconst (v := 0) dX3_readNumber_0 rfl ?_
  refine tt_lstore_n (ks := [0, 1, 2]) (L' := [(2, .long 0), (0, .ref o0), (1, .int 4)]) dX3_readNumber_1 (by decide) rfl ?_
  refine tt_iconst (v := 0) dX3_readNumber_2 rfl ?_
  refine tt_istore (ks := [0, 1, 2, 3]) (L' := [(4, .int 0), (2, .long 0), (0, .ref o0), (1, .int 4)]) dX3_readNumber_3 (by decide) rfl ?_
  refine tt_iload (j := 0) dX3_readNumber_5 rfl ?_
  refine tt_iload_n (j := 3) dX3_readNumber_7 rfl ?_
  refine tt_icmp_ge (tgt := 31) dX3_readNumber_8 rfl (fun q => absurd q (by decide)) (fun _ => ?_)
  refine tt_lload_n (j := 1) dX3_readNumber_11 rfl ?_
  refine tt_aload_n (j := 2) dX3_readNumber_12 rfl ?_
  refine gt_VI (As := []) dX3_readNumber_13 ca_X3_30 ⟨by decide, by decide⟩ h0 hA rfl (Nat.le_of_ble_eq_true rfl) (Nat.le_of_ble_eq_true rfl) (by decide) (ce_X3_nextByte hG (oa_af h0 hA) (bc_af hb h0 hA) (fun _ _ _ _ h => h)) rfl (fun _ h => nomatch h) (fun S101 x110 h111 hx105 hG102 hB103 hA104 => ?_)
  obtain ⟨d106, hd107⟩ : ∃ q, q = F_X3_nextByte bs n (StC S o0)  := ⟨_, rfl⟩
  have hq108 := (congrArg (fun q => F_X3_nextByte bs n q ) (stC_mk (sC_193 (T := S) (o := o0) rfl) (sC_194 (T := S) (o := o0) rfl) (sC_195 (T := S) (o := o0) rfl) (sC_196 (T := S) (o := o0) rfl) (sC_197 (T := S) (o := o0) rfl) (sC_198 (T := S) (o := o0) rfl) (sC_199 (T := S) (o := o0) rfl) (sC_200 (T := S) (o := o0) rfl) (sC_201 (T := S) (o := o0) rfl) (sC_202 (T := S) (o := o0) rfl) (sC_203 (T := S) (o := o0) rfl) (sC_204 (T := S) (o := o0) rfl) (sC_205 (T := S) (o := o0) rfl))).trans hd107.symm
  have hs109 := hx105.2.trans (congrArg Prod.fst hq108)
  obtain rfl : x110 = d106.2 := (xiC_v hx105).trans (congrArg Prod.snd hq108)
  refine tt_i2l dX3_readNumber_16 ?_
  refine tt_bipush (v := 8) dX3_readNumber_17 rfl ?_
  refine tt_iload (j := 0) dX3_readNumber_19 rfl ?_
  refine tt_imul dX3_readNumber_21 ?_
  refine tt_lshl dX3_readNumber_22 ?_
  refine tt_lor dX3_readNumber_23 ?_
  refine tt_lstore_n (ks := [0, 1, 2, 3]) (L' := [(2, .long (0 ||| ((d106.2 : Int32).toInt64 <<< (((8 * 0) : Int32).toInt64 &&& 63)))), (4, .int 0), (0, .ref o0), (1, .int 4)]) dX3_readNumber_24 (by decide) rfl ?_
  refine tt_iinc (j := 1) (v := 1) (ks := [0, 1, 2, 3]) (L' := [(4, .int 1), (2, .long (0 ||| ((d106.2 : Int32).toInt64 <<< (((8 * 0) : Int32).toInt64 &&& 63)))), (0, .ref o0), (1, .int 4)]) dX3_readNumber_25 rfl rfl (by decide) rfl ?_
  refine tt_goto (tgt := 5) dX3_readNumber_28 rfl ?_
  refine tt_iload (j := 0) dX3_readNumber_5 rfl ?_
  refine tt_iload_n (j := 3) dX3_readNumber_7 rfl ?_
  refine tt_icmp_ge (tgt := 31) dX3_readNumber_8 rfl (fun q => absurd q (by decide)) (fun _ => ?_)
  refine tt_lload_n (j := 1) dX3_readNumber_11 rfl ?_
  refine tt_aload_n (j := 2) dX3_readNumber_12 rfl ?_
  refine gt_VI (As := []) dX3_readNumber_13 ca_X3_30 ⟨by decide, by decide⟩ h0 hA104 rfl (Nat.le_of_ble_eq_true rfl) (Nat.le_of_ble_eq_true rfl) (by decide) (ce_X3_nextByte hG102 (oa_af h0 hA104) (bc_af hb h0 hA104) (fun _ _ _ _ h => h)) rfl (fun _ h => nomatch h) (fun S112 x121 h122 hx116 hG113 hB114 hA115 => ?_)
  obtain ⟨d117, hd118⟩ : ∃ q, q = F_X3_nextByte bs n d106.1  := ⟨_, rfl⟩
  have hq119 := (congrArg (fun q => F_X3_nextByte bs n q ) (stC_mk (sC_193 hs109) (sC_194 hs109) (sC_195 hs109) (sC_196 hs109) (sC_197 hs109) (sC_198 hs109) (sC_199 hs109) (sC_200 hs109) (sC_201 hs109) (sC_202 hs109) (sC_203 hs109) (sC_204 hs109) (sC_205 hs109))).trans hd118.symm
  have hs120 := hx116.2.trans (congrArg Prod.fst hq119)
  obtain rfl : x121 = d117.2 := (xiC_v hx116).trans (congrArg Prod.snd hq119)
  refine tt_i2l dX3_readNumber_16 ?_
  refine tt_bipush (v := 8) dX3_readNumber_17 rfl ?_
  refine tt_iload (j := 0) dX3_readNumber_19 rfl ?_
  refine tt_imul dX3_readNumber_21 ?_
  refine tt_lshl dX3_readNumber_22 ?_
  refine tt_lor dX3_readNumber_23 ?_
  refine tt_lstore_n (ks := [0, 1, 2, 3]) (L' := [(2, .long ((0 ||| ((d106.2 : Int32).toInt64 <<< (((8 * 0) : Int32).toInt64 &&& 63))) ||| ((d117.2 : Int32).toInt64 <<< (((8 * 1) : Int32).toInt64 &&& 63)))), (4, .int 1), (0, .ref o0), (1, .int 4)]) dX3_readNumber_24 (by decide) rfl ?_
  refine tt_iinc (j := 1) (v := 2) (ks := [0, 1, 2, 3]) (L' := [(4, .int 2), (2, .long ((0 ||| ((d106.2 : Int32).toInt64 <<< (((8 * 0) : Int32).toInt64 &&& 63))) ||| ((d117.2 : Int32).toInt64 <<< (((8 * 1) : Int32).toInt64 &&& 63)))), (0, .ref o0), (1, .int 4)]) dX3_readNumber_25 rfl rfl (by decide) rfl ?_
  refine tt_goto (tgt := 5) dX3_readNumber_28 rfl ?_
  refine tt_iload (j := 0) dX3_readNumber_5 rfl ?_
  refine tt_iload_n (j := 3) dX3_readNumber_7 rfl ?_
  refine tt_icmp_ge (tgt := 31) dX3_readNumber_8 rfl (fun q => absurd q (by decide)) (fun _ => ?_)
  refine tt_lload_n (j := 1) dX3_readNumber_11 rfl ?_
  refine tt_aload_n (j := 2) dX3_readNumber_12 rfl ?_
  refine gt_VI (As := []) dX3_readNumber_13 ca_X3_30 ⟨by decide, by decide⟩ h0 hA115 rfl (Nat.le_of_ble_eq_true rfl) (Nat.le_of_ble_eq_true rfl) (by decide) (ce_X3_nextByte hG113 (oa_af h0 hA115) (bc_af hb h0 hA115) (fun _ _ _ _ h => h)) rfl (fun _ h => nomatch h) (fun S123 x132 h133 hx127 hG124 hB125 hA126 => ?_)
  obtain ⟨d128, hd129⟩ : ∃ q, q = F_X3_nextByte bs n d117.1  := ⟨_, rfl⟩
  have hq130 := (congrArg (fun q => F_X3_nextByte bs n q ) (stC_mk (sC_193 hs120) (sC_194 hs120) (sC_195 hs120) (sC_196 hs120) (sC_197 hs120) (sC_198 hs120) (sC_199 hs120) (sC_200 hs120) (sC_201 hs120) (sC_202 hs120) (sC_203 hs120) (sC_204 hs120) (sC_205 hs120))).trans hd129.symm
  have hs131 := hx127.2.trans (congrArg Prod.fst hq130)
  obtain rfl : x132 = d128.2 := (xiC_v hx127).trans (congrArg Prod.snd hq130)
  refine tt_i2l dX3_readNumber_16 ?_
  refine tt_bipush (v := 8) dX3_readNumber_17 rfl ?_
  refine tt_iload (j := 0) dX3_readNumber_19 rfl ?_
  refine tt_imul dX3_readNumber_21 ?_
  refine tt_lshl dX3_readNumber_22 ?_
  refine tt_lor dX3_readNumber_23 ?_
  refine tt_lstore_n (ks := [0, 1, 2, 3]) (L' := [(2, .long (((0 ||| ((d106.2 : Int32).toInt64 <<< (((8 * 0) : Int32).toInt64 &&& 63))) ||| ((d117.2 : Int32).toInt64 <<< (((8 * 1) : Int32).toInt64 &&& 63))) ||| ((d128.2 : Int32).toInt64 <<< (((8 * 2) : Int32).toInt64 &&& 63)))), (4, .int 2), (0, .ref o0), (1, .int 4)]) dX3_readNumber_24 (by decide) rfl ?_
  refine tt_iinc (j := 1) (v := 3) (ks := [0, 1, 2, 3]) (L' := [(4, .int 3), (2, .long (((0 ||| ((d106.2 : Int32).toInt64 <<< (((8 * 0) : Int32).toInt64 &&& 63))) ||| ((d117.2 : Int32).toInt64 <<< (((8 * 1) : Int32).toInt64 &&& 63))) ||| ((d128.2 : Int32).toInt64 <<< (((8 * 2) : Int32).toInt64 &&& 63)))), (0, .ref o0), (1, .int 4)]) dX3_readNumber_25 rfl rfl (by decide) rfl ?_
  refine tt_goto (tgt := 5) dX3_readNumber_28 rfl ?_
  refine tt_iload (j := 0) dX3_readNumber_5 rfl ?_
  refine tt_iload_n (j := 3) dX3_readNumber_7 rfl ?_
  refine tt_icmp_ge (tgt := 31) dX3_readNumber_8 rfl (fun q => absurd q (by decide)) (fun _ => ?_)
  refine tt_lload_n (j := 1) dX3_readNumber_11 rfl ?_
  refine tt_aload_n (j := 2) dX3_readNumber_12 rfl ?_
  refine gt_VI (As := []) dX3_readNumber_13 ca_X3_30 ⟨by decide, by decide⟩ h0 hA126 rfl (Nat.le_of_ble_eq_true rfl) (Nat.le_of_ble_eq_true rfl) (by decide) (ce_X3_nextByte hG124 (oa_af h0 hA126) (bc_af hb h0 hA126) (fun _ _ _ _ h => h)) rfl (fun _ h => nomatch h) (fun S134 x143 h144 hx138 hG135 hB136 hA137 => ?_)
  obtain ⟨d139, hd140⟩ : ∃ q, q = F_X3_nextByte bs n d128.1  := ⟨_, rfl⟩
  have hq141 := (congrArg (fun q => F_X3_nextByte bs n q ) (stC_mk (sC_193 hs131) (sC_194 hs131) (sC_195 hs131) (sC_196 hs131) (sC_197 hs131) (sC_198 hs131) (sC_199 hs131) (sC_200 hs131) (sC_201 hs131) (sC_202 hs131) (sC_203 hs131) (sC_204 hs131) (sC_205 hs131))).trans hd140.symm
  have hs142 := hx138.2.trans (congrArg Prod.fst hq141)
  obtain rfl : x143 = d139.2 := (xiC_v hx138).trans (congrArg Prod.snd hq141)
  refine tt_i2l dX3_readNumber_16 ?_
  refine tt_bipush (v := 8) dX3_readNumber_17 rfl ?_
  refine tt_iload (j := 0) dX3_readNumber_19 rfl ?_
  refine tt_imul dX3_readNumber_21 ?_
  refine tt_lshl dX3_readNumber_22 ?_
  refine tt_lor dX3_readNumber_23 ?_
  refine tt_lstore_n (ks := [0, 1, 2, 3]) (L' := [(2, .long ((((0 ||| ((d106.2 : Int32).toInt64 <<< (((8 * 0) : Int32).toInt64 &&& 63))) ||| ((d117.2 : Int32).toInt64 <<< (((8 * 1) : Int32).toInt64 &&& 63))) ||| ((d128.2 : Int32).toInt64 <<< (((8 * 2) : Int32).toInt64 &&& 63))) ||| ((d139.2 : Int32).toInt64 <<< (((8 * 3) : Int32).toInt64 &&& 63)))), (4, .int 3), (0, .ref o0), (1, .int 4)]) dX3_readNumber_24 (by decide) rfl ?_
  refine tt_iinc (j := 1) (v := 4) (ks := [0, 1, 2, 3]) (L' := [(4, .int 4), (2, .long ((((0 ||| ((d106.2 : Int32).toInt64 <<< (((8 * 0) : Int32).toInt64 &&& 63))) ||| ((d117.2 : Int32).toInt64 <<< (((8 * 1) : Int32).toInt64 &&& 63))) ||| ((d128.2 : Int32).toInt64 <<< (((8 * 2) : Int32).toInt64 &&& 63))) ||| ((d139.2 : Int32).toInt64 <<< (((8 * 3) : Int32).toInt64 &&& 63)))), (0, .ref o0), (1, .int 4)]) dX3_readNumber_25 rfl rfl (by decide) rfl ?_
  refine tt_goto (tgt := 5) dX3_readNumber_28 rfl ?_
  refine tt_iload (j := 0) dX3_readNumber_5 rfl ?_
  refine tt_iload_n (j := 3) dX3_readNumber_7 rfl ?_
  refine tt_icmp_ge (tgt := 31) dX3_readNumber_8 rfl (fun _ => ?_) (fun q => absurd q (by decide))
  refine tt_bipush (v := 64) dX3_readNumber_31 rfl ?_
  refine tt_bipush (v := 8) dX3_readNumber_33 rfl ?_
  refine tt_iload_n (j := 3) dX3_readNumber_35 rfl ?_
  refine tt_imul dX3_readNumber_36 ?_
  refine tt_isub dX3_readNumber_37 ?_
  refine tt_istore (ks := [0, 1, 2, 3]) (L' := [(4, .int (64 - (8 * 4))), (2, .long ((((0 ||| ((d106.2 : Int32).toInt64 <<< (((8 * 0) : Int32).toInt64 &&& 63))) ||| ((d117.2 : Int32).toInt64 <<< (((8 * 1) : Int32).toInt64 &&& 63))) ||| ((d128.2 : Int32).toInt64 <<< (((8 * 2) : Int32).toInt64 &&& 63))) ||| ((d139.2 : Int32).toInt64 <<< (((8 * 3) : Int32).toInt64 &&& 63)))), (0, .ref o0), (1, .int 4)]) dX3_readNumber_38 (by decide) rfl ?_
  refine tt_lload_n (j := 1) dX3_readNumber_40 rfl ?_
  refine tt_iload (j := 0) dX3_readNumber_41 rfl ?_
  refine tt_lshl dX3_readNumber_43 ?_
  refine tt_iload (j := 0) dX3_readNumber_44 rfl ?_
  refine tt_lshr dX3_readNumber_46 ?_
  have hF : F_X3_readNumber_4 bs n (StC S o0)  = (d139.1, ((((((0 ||| ((d106.2 : Int32).toInt64 <<< (((8 * 0) : Int32).toInt64 &&& 63))) ||| ((d117.2 : Int32).toInt64 <<< (((8 * 1) : Int32).toInt64 &&& 63))) ||| ((d128.2 : Int32).toInt64 <<< (((8 * 2) : Int32).toInt64 &&& 63))) ||| ((d139.2 : Int32).toInt64 <<< (((8 * 3) : Int32).toInt64 &&& 63))) <<< (((64 - (8 * 4)) : Int32).toInt64 &&& 63)) >>> (((64 - (8 * 4)) : Int32).toInt64 &&& 63))) := by
    subst hd140
    subst hd129
    subst hd118
    subst hd107
    rfl
  exact tt_lreturn dX3_readNumber_47 rfl (hP _ _ _ _ ⟨hG135, hA137, Or.inl ⟨_, rfl, ⟨_, rfl⟩, xjC_mk hF (stC_mk (sC_193 hs142) (sC_194 hs142) (sC_195 hs142) (sC_196 hs142) (sC_197 hs142) (sC_198 hs142) (sC_199 hs142) (sC_200 hs142) (sC_201 hs142) (sC_202 hs142) (sC_203 hs142) (sC_204 hs142) (sC_205 hs142)), rfl, rfl⟩⟩)
def F_X3_readNumber_8 (bs : Nat → Int32) (n : Int32) (d : DD) : DD × Int64 :=
  let d106 := F_X3_nextByte bs n d 
  let d117 := F_X3_nextByte bs n d106.1 
  let d128 := F_X3_nextByte bs n d117.1 
  let d139 := F_X3_nextByte bs n d128.1 
  let d150 := F_X3_nextByte bs n d139.1 
  let d161 := F_X3_nextByte bs n d150.1 
  let d172 := F_X3_nextByte bs n d161.1 
  let d183 := F_X3_nextByte bs n d172.1 
  (d183.1, ((((((((((0 ||| ((d106.2 : Int32).toInt64 <<< (((8 * 0) : Int32).toInt64 &&& 63))) ||| ((d117.2 : Int32).toInt64 <<< (((8 * 1) : Int32).toInt64 &&& 63))) ||| ((d128.2 : Int32).toInt64 <<< (((8 * 2) : Int32).toInt64 &&& 63))) ||| ((d139.2 : Int32).toInt64 <<< (((8 * 3) : Int32).toInt64 &&& 63))) ||| ((d150.2 : Int32).toInt64 <<< (((8 * 4) : Int32).toInt64 &&& 63))) ||| ((d161.2 : Int32).toInt64 <<< (((8 * 5) : Int32).toInt64 &&& 63))) ||| ((d172.2 : Int32).toInt64 <<< (((8 * 6) : Int32).toInt64 &&& 63))) ||| ((d183.2 : Int32).toInt64 <<< (((8 * 7) : Int32).toInt64 &&& 63))) <<< (((64 - (8 * 8)) : Int32).toInt64 &&& 63)) >>> (((64 - (8 * 8)) : Int32).toInt64 &&& 63)))
set_option maxHeartbeats 2000000 in
theorem ce_X3_readNumber_8 {xi : SX} {S : Hp} {E : List Nat} {kc nc : Nat} {P : Po} {o0 : Nat} {bs : Nat → Int32} {n : Int32} (hG : GI S E) (h0 : Oa S E 3 0 o0) (hb : BC S E o0 bs n) (hP : ∀ r T x y, PV E [193, 195] S kc nc rJ (fun v T => XJC (F_X3_readNumber_8 bs n (StC S o0) ) T o0 v) [] r T x y → P r T x y) : TT xi M_X3_readNumber 0 [(0, .ref o0), (1, .int 8)] [] S kc nc P := by
  have hA : Af E [193, 195] S S := af_rf
  refine tt_lconst (v := 0) dX3_readNumber_0 rfl ?_
  refine tt_lstore_n (ks := [0, 1, 2]) (L' := [(2, .long 0), (0, .ref o0), (1, .int 8)]) dX3_readNumber_1 (by decide) rfl ?_
  refine tt_iconst (v := 0) dX3_readNumber_2 rfl ?_
  refine tt_istore (ks := [0, 1, 2, 3]) (L' := [(4, .int 0), (2, .long 0), (0, .ref o0), (1, .int 8)]) dX3_readNumber_3 (by decide) rfl ?_
  refine tt_iload (j := 0) dX3_readNumber_5 rfl ?_
  refine tt_iload_n (j := 3) dX3_readNumber_7 rfl ?_
  refine tt_icmp_ge (tgt := 31) dX3_readNumber_8 rfl (fun q => absurd q (by decide)) (fun _ => ?_)
  refine tt_lload_n (j := 1) dX3_readNumber_11 rfl ?_
  refine tt_aload_n (j := 2) dX3_readNumber_12 rfl ?_
  refine gt_VI (As := []) dX3_readNumber_13 ca_X3_30 ⟨by decide, by decide⟩ h0 hA rfl (Nat.le_of_ble_eq_true rfl) (Nat.le_of_ble_eq_true rfl) (by decide) (ce_X3_nextByte hG (oa_af h0 hA) (bc_af hb h0 hA) (fun _ _ _ _ h => h)) rfl (fun _ h => nomatch h) (fun S101 x110 h111 hx105 hG102 hB103 hA104 => ?_)
  obtain ⟨d106, hd107⟩ : ∃ q, q = F_X3_nextByte bs n (StC S o0)  := ⟨_, rfl⟩
  have hq108 := (congrArg (fun q => F_X3_nextByte bs n q ) (stC_mk (sC_193 (T := S) (o := o0) rfl) (sC_194 (T := S) (o := o0) rfl) (sC_195 (T := S) (o := o0) rfl) (sC_196 (T := S) (o := o0) rfl) (sC_197 (T := S) (o := o0) rfl) (sC_198 (T := S) (o := o0) rfl) (sC_199 (T := S) (o := o0) rfl) (sC_200 (T := S) (o := o0) rfl) (sC_201 (T := S) (o := o0) rfl) (sC_202 (T := S) (o := o0) rfl) (sC_203 (T := S) (o := o0) rfl) (sC_204 (T := S) (o := o0) rfl) (sC_205 (T := S) (o := o0) rfl))).trans hd107.symm
  have hs109 := hx105.2.trans (congrArg Prod.fst hq108)
  obtain rfl : x110 = d106.2 := (xiC_v hx105).trans (congrArg Prod.snd hq108)
  refine tt_i2l dX3_readNumber_16 ?_
  refine tt_bipush (v := 8) dX3_readNumber_17 rfl ?_
  refine tt_iload (j := 0) dX3_readNumber_19 rfl ?_
  refine tt_imul dX3_readNumber_21 ?_
  refine tt_lshl dX3_readNumber_22 ?_
  refine tt_lor dX3_readNumber_23 ?_
  refine tt_lstore_n (ks := [0, 1, 2, 3]) (L' := [(2, .long (0 ||| ((d106.2 : Int32).toInt64 <<< (((8 * 0) : Int32).toInt64 &&& 63)))), (4, .int 0), (0, .ref o0), (1, .int 8)]) dX3_readNumber_24 (by decide) rfl ?_
  refine tt_iinc (j := 1) (v := 1) (ks := [0, 1, 2, 3]) (L' := [(4, .int 1), (2, .long (0 ||| ((d106.2 : Int32).toInt64 <<< (((8 * 0) : Int32).toInt64 &&& 63)))), (0, .ref o0), (1, .int 8)]) dX3_readNumber_25 rfl rfl (by decide) rfl ?_
  refine tt_goto (tgt := 5) dX3_readNumber_28 rfl ?_
  refine tt_iload (j := 0) dX3_readNumber_5 rfl ?_
  refine tt_iload_n (j := 3) dX3_readNumber_7 rfl ?_
  refine tt_icmp_ge (tgt := 31) dX3_readNumber_8 rfl (fun q => absurd q (by decide)) (fun _ => ?_)
  refine tt_lload_n (j := 1) dX3_readNumber_11 rfl ?_
  refine tt_aload_n (j := 2) dX3_readNumber_12 rfl ?_
  refine gt_VI (As := []) dX3_readNumber_13 ca_X3_30 ⟨by decide, by decide⟩ h0 hA104 rfl (Nat.le_of_ble_eq_true rfl) (Nat.le_of_ble_eq_true rfl) (by decide) (ce_X3_nextByte hG102 (oa_af h0 hA104) (bc_af hb h0 hA104) (fun _ _ _ _ h => h)) rfl (fun _ h => nomatch h) (fun S112 x121 h122 hx116 hG113 hB114 hA115 => ?_)
  obtain ⟨d117, hd118⟩ : ∃ q, q = F_X3_nextByte bs n d106.1  := ⟨_, rfl⟩
  have hq119 := (congrArg (fun q => F_X3_nextByte bs n q ) (stC_mk (sC_193 hs109) (sC_194 hs109) (sC_195 hs109) (sC_196 hs109) (sC_197 hs109) (sC_198 hs109) (sC_199 hs109) (sC_200 hs109) (sC_201 hs109) (sC_202 hs109) (sC_203 hs109) (sC_204 hs109) (sC_205 hs109))).trans hd118.symm
  have hs120 := hx116.2.trans (congrArg Prod.fst hq119)
  obtain rfl : x121 = d117.2 := (xiC_v hx116).trans (congrArg Prod.snd hq119)
  refine tt_i2l dX3_readNumber_16 ?_
  refine tt_bipush (v := 8) dX3_readNumber_17 rfl ?_
  refine tt_iload (j := 0) dX3_readNumber_19 rfl ?_
  refine tt_imul dX3_readNumber_21 ?_
  refine tt_lshl dX3_readNumber_22 ?_
  refine tt_lor dX3_readNumber_23 ?_
  refine tt_lstore_n (ks := [0, 1, 2, 3]) (L' := [(2, .long ((0 ||| ((d106.2 : Int32).toInt64 <<< (((8 * 0) : Int32).toInt64 &&& 63))) ||| ((d117.2 : Int32).toInt64 <<< (((8 * 1) : Int32).toInt64 &&& 63)))), (4, .int 1), (0, .ref o0), (1, .int 8)]) dX3_readNumber_24 (by decide) rfl ?_
  refine tt_iinc (j := 1) (v := 2) (ks := [0, 1, 2, 3]) (L' := [(4, .int 2), (2, .long ((0 ||| ((d106.2 : Int32).toInt64 <<< (((8 * 0) : Int32).toInt64 &&& 63))) ||| ((d117.2 : Int32).toInt64 <<< (((8 * 1) : Int32).toInt64 &&& 63)))), (0, .ref o0), (1, .int 8)]) dX3_readNumber_25 rfl rfl (by decide) rfl ?_
  refine tt_goto (tgt := 5) dX3_readNumber_28 rfl ?_
  refine tt_iload (j := 0) dX3_readNumber_5 rfl ?_
  refine tt_iload_n (j := 3) dX3_readNumber_7 rfl ?_
  refine tt_icmp_ge (tgt := 31) dX3_readNumber_8 rfl (fun q => absurd q (by decide)) (fun _ => ?_)
  refine tt_lload_n (j := 1) dX3_readNumber_11 rfl ?_
  refine tt_aload_n (j := 2) dX3_readNumber_12 rfl ?_
  refine gt_VI (As := []) dX3_readNumber_13 ca_X3_30 ⟨by decide, by decide⟩ h0 hA115 rfl (Nat.le_of_ble_eq_true rfl) (Nat.le_of_ble_eq_true rfl) (by decide) (ce_X3_nextByte hG113 (oa_af h0 hA115) (bc_af hb h0 hA115) (fun _ _ _ _ h => h)) rfl (fun _ h => nomatch h) (fun S123 x132 h133 hx127 hG124 hB125 hA126 => ?_)
  obtain ⟨d128, hd129⟩ : ∃ q, q = F_X3_nextByte bs n d117.1  := ⟨_, rfl⟩
  have hq130 := (congrArg (fun q => F_X3_nextByte bs n q ) (stC_mk (sC_193 hs120) (sC_194 hs120) (sC_195 hs120) (sC_196 hs120) (sC_197 hs120) (sC_198 hs120) (sC_199 hs120) (sC_200 hs120) (sC_201 hs120) (sC_202 hs120) (sC_203 hs120) (sC_204 hs120) (sC_205 hs120))).trans hd129.symm
  have hs131 := hx127.2.trans (congrArg Prod.fst hq130)
  obtain rfl : x132 = d128.2 := (xiC_v hx127).trans (congrArg Prod.snd hq130)
  refine tt_i2l dX3_readNumber_16 ?_
  refine tt_bipush (v := 8) dX3_readNumber_17 rfl ?_
  refine tt_iload (j := 0) dX3_readNumber_19 rfl ?_
  refine tt_imul dX3_readNumber_21 ?_
  refine tt_lshl dX3_readNumber_22 ?_
  refine tt_lor dX3_readNumber_23 ?_
  refine tt_lstore_n (ks := [0, 1, 2, 3]) (L' := [(2, .long (((0 ||| ((d106.2 : Int32).toInt64 <<< (((8 * 0) : Int32).toInt64 &&& 63))) ||| ((d117.2 : Int32).toInt64 <<< (((8 * 1) : Int32).toInt64 &&& 63))) ||| ((d128.2 : Int32).toInt64 <<< (((8 * 2) : Int32).toInt64 &&& 63)))), (4, .int 2), (0, .ref o0), (1, .int 8)]) dX3_readNumber_24 (by decide) rfl ?_
  refine tt_iinc (j := 1) (v := 3) (ks := [0, 1, 2, 3]) (L' := [(4, .int 3), (2, .long (((0 ||| ((d106.2 : Int32).toInt64 <<< (((8 * 0) : Int32).toInt64 &&& 63))) ||| ((d117.2 : Int32).toInt64 <<< (((8 * 1) : Int32).toInt64 &&& 63))) ||| ((d128.2 : Int32).toInt64 <<< (((8 * 2) : Int32).toInt64 &&& 63)))), (0, .ref o0), (1, .int 8)]) dX3_readNumber_25 rfl rfl (by decide) rfl ?_
  refine tt_goto (tgt := 5) dX3_readNumber_28 rfl ?_
  refine tt_iload (j := 0) dX3_readNumber_5 rfl ?_
  refine tt_iload_n (j := 3) dX3_readNumber_7 rfl ?_
  refine tt_icmp_ge (tgt := 31) dX3_readNumber_8 rfl (fun q => absurd q (by decide)) (fun _ => ?_)
  refine tt_lload_n (j := 1) dX3_readNumber_11 rfl ?_
  refine tt_aload_n (j := 2) dX3_readNumber_12 rfl ?_
  refine gt_VI (As := []) dX3_readNumber_13 ca_X3_30 ⟨by decide, by decide⟩ h0 hA126 rfl (Nat.le_of_ble_eq_true rfl) (Nat.le_of_ble_eq_true rfl) (by decide) (ce_X3_nextByte hG124 (oa_af h0 hA126) (bc_af hb h0 hA126) (fun _ _ _ _ h => h)) rfl (fun _ h => nomatch h) (fun S134 x143 h144 hx138 hG135 hB136 hA137 => ?_)
  obtain ⟨d139, hd140⟩ : ∃ q, q = F_X3_nextByte bs n d128.1  := ⟨_, rfl⟩
  have hq141 := (congrArg (fun q => F_X3_nextByte bs n q ) (stC_mk (sC_193 hs131) (sC_194 hs131) (sC_195 hs131) (sC_196 hs131) (sC_197 hs131) (sC_198 hs131) (sC_199 hs131) (sC_200 hs131) (sC_201 hs131) (sC_202 hs131) (sC_203 hs131) (sC_204 hs131) (sC_205 hs131))).trans hd140.symm
  have hs142 := hx138.2.trans (congrArg Prod.fst hq141)
  obtain rfl : x143 = d139.2 := (xiC_v hx138).trans (congrArg Prod.snd hq141)
  refine tt_i2l dX3_readNumber_16 ?_
  refine tt_bipush (v := 8) dX3_readNumber_17 rfl ?_
  refine tt_iload (j := 0) dX3_readNumber_19 rfl ?_
  refine tt_imul dX3_readNumber_21 ?_
  refine tt_lshl dX3_readNumber_22 ?_
  refine tt_lor dX3_readNumber_23 ?_
  refine tt_lstore_n (ks := [0, 1, 2, 3]) (L' := [(2, .long ((((0 ||| ((d106.2 : Int32).toInt64 <<< (((8 * 0) : Int32).toInt64 &&& 63))) ||| ((d117.2 : Int32).toInt64 <<< (((8 * 1) : Int32).toInt64 &&& 63))) ||| ((d128.2 : Int32).toInt64 <<< (((8 * 2) : Int32).toInt64 &&& 63))) ||| ((d139.2 : Int32).toInt64 <<< (((8 * 3) : Int32).toInt64 &&& 63)))), (4, .int 3), (0, .ref o0), (1, .int 8)]) dX3_readNumber_24 (by decide) rfl ?_
  refine tt_iinc (j := 1) (v := 4) (ks := [0, 1, 2, 3]) (L' := [(4, .int 4), (2, .long ((((0 ||| ((d106.2 : Int32).toInt64 <<< (((8 * 0) : Int32).toInt64 &&& 63))) ||| ((d117.2 : Int32).toInt64 <<< (((8 * 1) : Int32).toInt64 &&& 63))) ||| ((d128.2 : Int32).toInt64 <<< (((8 * 2) : Int32).toInt64 &&& 63))) ||| ((d139.2 : Int32).toInt64 <<< (((8 * 3) : Int32).toInt64 &&& 63)))), (0, .ref o0), (1, .int 8)]) dX3_readNumber_25 rfl rfl (by decide) rfl ?_
  refine tt_goto (tgt := 5) dX3_readNumber_28 rfl ?_
  refine tt_iload (j := 0) dX3_readNumber_5 rfl ?_
  refine tt_iload_n (j := 3) dX3_readNumber_7 rfl ?_
  refine tt_icmp_ge (tgt := 31) dX3_readNumber_8 rfl (fun q => absurd q (by decide)) (fun _ => ?_)
  refine tt_lload_n (j := 1) dX3_readNumber_11 rfl ?_
  refine tt_aload_n (j := 2) dX3_readNumber_12 rfl ?_
  refine gt_VI (As := []) dX3_readNumber_13 ca_X3_30 ⟨by decide, by decide⟩ h0 hA137 rfl (Nat.le_of_ble_eq_true rfl) (Nat.le_of_ble_eq_true rfl) (by decide) (ce_X3_nextByte hG135 (oa_af h0 hA137) (bc_af hb h0 hA137) (fun _ _ _ _ h => h)) rfl (fun _ h => nomatch h) (fun S145 x154 h155 hx149 hG146 hB147 hA148 => ?_)
  obtain ⟨d150, hd151⟩ : ∃ q, q = F_X3_nextByte bs n d139.1  := ⟨_, rfl⟩
  have hq152 := (congrArg (fun q => F_X3_nextByte bs n q ) (stC_mk (sC_193 hs142) (sC_194 hs142) (sC_195 hs142) (sC_196 hs142) (sC_197 hs142) (sC_198 hs142) (sC_199 hs142) (sC_200 hs142) (sC_201 hs142) (sC_202 hs142) (sC_203 hs142) (sC_204 hs142) (sC_205 hs142))).trans hd151.symm
  have hs153 := hx149.2.trans (congrArg Prod.fst hq152)
  obtain rfl : x154 = d150.2 := (xiC_v hx149).trans (congrArg Prod.snd hq152)
  refine tt_i2l dX3_readNumber_16 ?_
  refine tt_bipush (v := 8) dX3_readNumber_17 rfl ?_
  refine tt_iload (j := 0) dX3_readNumber_19 rfl ?_
  refine tt_imul dX3_readNumber_21 ?_
  refine tt_lshl dX3_readNumber_22 ?_
  refine tt_lor dX3_readNumber_23 ?_
  refine tt_lstore_n (ks := [0, 1, 2, 3]) (L' := [(2, .long (((((0 ||| ((d106.2 : Int32).toInt64 <<< (((8 * 0) : Int32).toInt64 &&& 63))) ||| ((d117.2 : Int32).toInt64 <<< (((8 * 1) : Int32).toInt64 &&& 63))) ||| ((d128.2 : Int32).toInt64 <<< (((8 * 2) : Int32).toInt64 &&& 63))) ||| ((d139.2 : Int32).toInt64 <<< (((8 * 3) : Int32).toInt64 &&& 63))) ||| ((d150.2 : Int32).toInt64 <<< (((8 * 4) : Int32).toInt64 &&& 63)))), (4, .int 4), (0, .ref o0), (1, .int 8)]) dX3_readNumber_24 (by decide) rfl ?_
  refine tt_iinc (j := 1) (v := 5) (ks := [0, 1, 2, 3]) (L' := [(4, .int 5), (2, .long (((((0 ||| ((d106.2 : Int32).toInt64 <<< (((8 * 0) : Int32).toInt64 &&& 63))) ||| ((d117.2 : Int32).toInt64 <<< (((8 * 1) : Int32).toInt64 &&& 63))) ||| ((d128.2 : Int32).toInt64 <<< (((8 * 2) : Int32).toInt64 &&& 63))) ||| ((d139.2 : Int32).toInt64 <<< (((8 * 3) : Int32).toInt64 &&& 63))) ||| ((d150.2 : Int32).toInt64 <<< (((8 * 4) : Int32).toInt64 &&& 63)))), (0, .ref o0), (1, .int 8)]) dX3_readNumber_25 rfl rfl (by decide) rfl ?_
  refine tt_goto (tgt := 5) dX3_readNumber_28 rfl ?_
  refine tt_iload (j := 0) dX3_readNumber_5 rfl ?_
  refine tt_iload_n (j := 3) dX3_readNumber_7 rfl ?_
  refine tt_icmp_ge (tgt := 31) dX3_readNumber_8 rfl (fun q => absurd q (by decide)) (fun _ => ?_)
  refine tt_lload_n (j := 1) dX3_readNumber_11 rfl ?_
  refine tt_aload_n (j := 2) dX3_readNumber_12 rfl ?_
  refine gt_VI (As := []) dX3_readNumber_13 ca_X3_30 ⟨by decide, by decide⟩ h0 hA148 rfl (Nat.le_of_ble_eq_true rfl) (Nat.le_of_ble_eq_true rfl) (by decide) (ce_X3_nextByte hG146 (oa_af h0 hA148) (bc_af hb h0 hA148) (fun _ _ _ _ h => h)) rfl (fun _ h => nomatch h) (fun S156 x165 h166 hx160 hG157 hB158 hA159 => ?_)
  obtain ⟨d161, hd162⟩ : ∃ q, q = F_X3_nextByte bs n d150.1  := ⟨_, rfl⟩
  have hq163 := (congrArg (fun q => F_X3_nextByte bs n q ) (stC_mk (sC_193 hs153) (sC_194 hs153) (sC_195 hs153) (sC_196 hs153) (sC_197 hs153) (sC_198 hs153) (sC_199 hs153) (sC_200 hs153) (sC_201 hs153) (sC_202 hs153) (sC_203 hs153) (sC_204 hs153) (sC_205 hs153))).trans hd162.symm
  have hs164 := hx160.2.trans (congrArg Prod.fst hq163)
  obtain rfl : x165 = d161.2 := (xiC_v hx160).trans (congrArg Prod.snd hq163)
  refine tt_i2l dX3_readNumber_16 ?_
  refine tt_bipush (v := 8) dX3_readNumber_17 rfl ?_
  refine tt_iload (j := 0) dX3_readNumber_19 rfl ?_
  refine tt_imul dX3_readNumber_21 ?_
  refine tt_lshl dX3_readNumber_22 ?_
  refine tt_lor dX3_readNumber_23 ?_
  refine tt_lstore_n (ks := [0, 1, 2, 3]) (L' := [(2, .long ((((((0 ||| ((d106.2 : Int32).toInt64 <<< (((8 * 0) : Int32).toInt64 &&& 63))) ||| ((d117.2 : Int32).toInt64 <<< (((8 * 1) : Int32).toInt64 &&& 63))) ||| ((d128.2 : Int32).toInt64 <<< (((8 * 2) : Int32).toInt64 &&& 63))) ||| ((d139.2 : Int32).toInt64 <<< (((8 * 3) : Int32).toInt64 &&& 63))) ||| ((d150.2 : Int32).toInt64 <<< (((8 * 4) : Int32).toInt64 &&& 63))) ||| ((d161.2 : Int32).toInt64 <<< (((8 * 5) : Int32).toInt64 &&& 63)))), (4, .int 5), (0, .ref o0), (1, .int 8)]) dX3_readNumber_24 (by decide) rfl ?_
  refine tt_iinc (j := 1) (v := 6) (ks := [0, 1, 2, 3]) (L' := [(4, .int 6), (2, .long ((((((0 ||| ((d106.2 : Int32).toInt64 <<< (((8 * 0) : Int32).toInt64 &&& 63))) ||| ((d117.2 : Int32).toInt64 <<< (((8 * 1) : Int32).toInt64 &&& 63))) ||| ((d128.2 : Int32).toInt64 <<< (((8 * 2) : Int32).toInt64 &&& 63))) ||| ((d139.2 : Int32).toInt64 <<< (((8 * 3) : Int32).toInt64 &&& 63))) ||| ((d150.2 : Int32).toInt64 <<< (((8 * 4) : Int32).toInt64 &&& 63))) ||| ((d161.2 : Int32).toInt64 <<< (((8 * 5) : Int32).toInt64 &&& 63)))), (0, .ref o0), (1, .int 8)]) dX3_readNumber_25 rfl rfl (by decide) rfl ?_
  refine tt_goto (tgt := 5) dX3_readNumber_28 rfl ?_
  refine tt_iload (j := 0) dX3_readNumber_5 rfl ?_
  refine tt_iload_n (j := 3) dX3_readNumber_7 rfl ?_
  refine tt_icmp_ge (tgt := 31) dX3_readNumber_8 rfl (fun q => absurd q (by decide)) (fun _ => ?_)
  refine tt_lload_n (j := 1) dX3_readNumber_11 rfl ?_
  refine tt_aload_n (j := 2) dX3_readNumber_12 rfl ?_
  refine gt_VI (As := []) dX3_readNumber_13 ca_X3_30 ⟨by decide, by decide⟩ h0 hA159 rfl (Nat.le_of_ble_eq_true rfl) (Nat.le_of_ble_eq_true rfl) (by decide) (ce_X3_nextByte hG157 (oa_af h0 hA159) (bc_af hb h0 hA159) (fun _ _ _ _ h => h)) rfl (fun _ h => nomatch h) (fun S167 x176 h177 hx171 hG168 hB169 hA170 => ?_)
  obtain ⟨d172, hd173⟩ : ∃ q, q = F_X3_nextByte bs n d161.1  := ⟨_, rfl⟩
  have hq174 := (congrArg (fun q => F_X3_nextByte bs n q ) (stC_mk (sC_193 hs164) (sC_194 hs164) (sC_195 hs164) (sC_196 hs164) (sC_197 hs164) (sC_198 hs164) (sC_199 hs164) (sC_200 hs164) (sC_201 hs164) (sC_202 hs164) (sC_203 hs164) (sC_204 hs164) (sC_205 hs164))).trans hd173.symm
  have hs175 := hx171.2.trans (congrArg Prod.fst hq174)
  obtain rfl : x176 = d172.2 := (xiC_v hx171).trans (congrArg Prod.snd hq174)
  refine tt_i2l dX3_readNumber_16 ?_
  refine tt_bipush (v := 8) dX3_readNumber_17 rfl ?_
  refine tt_iload (j := 0) dX3_readNumber_19 rfl ?_
  refine tt_imul dX3_readNumber_21 ?_
  refine tt_lshl dX3_readNumber_22 ?_
  refine tt_lor dX3_readNumber_23 ?_
  refine tt_lstore_n (ks := [0, 1, 2, 3]) (L' := [(2, .long (((((((0 ||| ((d106.2 : Int32).toInt64 <<< (((8 * 0) : Int32).toInt64 &&& 63))) ||| ((d117.2 : Int32).toInt64 <<< (((8 * 1) : Int32).toInt64 &&& 63))) ||| ((d128.2 : Int32).toInt64 <<< (((8 * 2) : Int32).toInt64 &&& 63))) ||| ((d139.2 : Int32).toInt64 <<< (((8 * 3) : Int32).toInt64 &&& 63))) ||| ((d150.2 : Int32).toInt64 <<< (((8 * 4) : Int32).toInt64 &&& 63))) ||| ((d161.2 : Int32).toInt64 <<< (((8 * 5) : Int32).toInt64 &&& 63))) ||| ((d172.2 : Int32).toInt64 <<< (((8 * 6) : Int32).toInt64 &&& 63)))), (4, .int 6), (0, .ref o0), (1, .int 8)]) dX3_readNumber_24 (by decide) rfl ?_
  refine tt_iinc (j := 1) (v := 7) (ks := [0, 1, 2, 3]) (L' := [(4, .int 7), (2, .long (((((((0 ||| ((d106.2 : Int32).toInt64 <<< (((8 * 0) : Int32).toInt64 &&& 63))) ||| ((d117.2 : Int32).toInt64 <<< (((8 * 1) : Int32).toInt64 &&& 63))) ||| ((d128.2 : Int32).toInt64 <<< (((8 * 2) : Int32).toInt64 &&& 63))) ||| ((d139.2 : Int32).toInt64 <<< (((8 * 3) : Int32).toInt64 &&& 63))) ||| ((d150.2 : Int32).toInt64 <<< (((8 * 4) : Int32).toInt64 &&& 63))) ||| ((d161.2 : Int32).toInt64 <<< (((8 * 5) : Int32).toInt64 &&& 63))) ||| ((d172.2 : Int32).toInt64 <<< (((8 * 6) : Int32).toInt64 &&& 63)))), (0, .ref o0), (1, .int 8)]) dX3_readNumber_25 rfl rfl (by decide) rfl ?_
  refine tt_goto (tgt := 5) dX3_readNumber_28 rfl ?_
  refine tt_iload (j := 0) dX3_readNumber_5 rfl ?_
  refine tt_iload_n (j := 3) dX3_readNumber_7 rfl ?_
  refine tt_icmp_ge (tgt := 31) dX3_readNumber_8 rfl (fun q => absurd q (by decide)) (fun _ => ?_)
  refine tt_lload_n (j := 1) dX3_readNumber_11 rfl ?_
  refine tt_aload_n (j := 2) dX3_readNumber_12 rfl ?_
  refine gt_VI (As := []) dX3_readNumber_13 ca_X3_30 ⟨by decide, by decide⟩ h0 hA170 rfl (Nat.le_of_ble_eq_true rfl) (Nat.le_of_ble_eq_true rfl) (by decide) (ce_X3_nextByte hG168 (oa_af h0 hA170) (bc_af hb h0 hA170) (fun _ _ _ _ h => h)) rfl (fun _ h => nomatch h) (fun S178 x187 h188 hx182 hG179 hB180 hA181 => ?_)
  obtain ⟨d183, hd184⟩ : ∃ q, q = F_X3_nextByte bs n d172.1  := ⟨_, rfl⟩
  have hq185 := (congrArg (fun q => F_X3_nextByte bs n q ) (stC_mk (sC_193 hs175) (sC_194 hs175) (sC_195 hs175) (sC_196 hs175) (sC_197 hs175) (sC_198 hs175) (sC_199 hs175) (sC_200 hs175) (sC_201 hs175) (sC_202 hs175) (sC_203 hs175) (sC_204 hs175) (sC_205 hs175))).trans hd184.symm
  have hs186 := hx182.2.trans (congrArg Prod.fst hq185)
  obtain rfl : x187 = d183.2 := (xiC_v hx182).trans (congrArg Prod.snd hq185)
  refine tt_i2l dX3_readNumber_16 ?_
  refine tt_bipush (v := 8) dX3_readNumber_17 rfl ?_
  refine tt_iload (j := 0) dX3_readNumber_19 rfl ?_
  refine tt_imul dX3_readNumber_21 ?_
  refine tt_lshl dX3_readNumber_22 ?_
  refine tt_lor dX3_readNumber_23 ?_
  refine tt_lstore_n (ks := [0, 1, 2, 3]) (L' := [(2, .long ((((((((0 ||| ((d106.2 : Int32).toInt64 <<< (((8 * 0) : Int32).toInt64 &&& 63))) ||| ((d117.2 : Int32).toInt64 <<< (((8 * 1) : Int32).toInt64 &&& 63))) ||| ((d128.2 : Int32).toInt64 <<< (((8 * 2) : Int32).toInt64 &&& 63))) ||| ((d139.2 : Int32).toInt64 <<< (((8 * 3) : Int32).toInt64 &&& 63))) ||| ((d150.2 : Int32).toInt64 <<< (((8 * 4) : Int32).toInt64 &&& 63))) ||| ((d161.2 : Int32).toInt64 <<< (((8 * 5) : Int32).toInt64 &&& 63))) ||| ((d172.2 : Int32).toInt64 <<< (((8 * 6) : Int32).toInt64 &&& 63))) ||| ((d183.2 : Int32).toInt64 <<< (((8 * 7) : Int32).toInt64 &&& 63)))), (4, .int 7), (0, .ref o0), (1, .int 8)]) dX3_readNumber_24 (by decide) rfl ?_
  refine tt_iinc (j := 1) (v := 8) (ks := [0, 1, 2, 3]) (L' := [(4, .int 8), (2, .long ((((((((0 ||| ((d106.2 : Int32).toInt64 <<< (((8 * 0) : Int32).toInt64 &&& 63))) ||| ((d117.2 : Int32).toInt64 <<< (((8 * 1) : Int32).toInt64 &&& 63))) ||| ((d128.2 : Int32).toInt64 <<< (((8 * 2) : Int32).toInt64 &&& 63))) ||| ((d139.2 : Int32).toInt64 <<< (((8 * 3) : Int32).toInt64 &&& 63))) ||| ((d150.2 : Int32).toInt64 <<< (((8 * 4) : Int32).toInt64 &&& 63))) ||| ((d161.2 : Int32).toInt64 <<< (((8 * 5) : Int32).toInt64 &&& 63))) ||| ((d172.2 : Int32).toInt64 <<< (((8 * 6) : Int32).toInt64 &&& 63))) ||| ((d183.2 : Int32).toInt64 <<< (((8 * 7) : Int32).toInt64 &&& 63)))), (0, .ref o0), (1, .int 8)]) dX3_readNumber_25 rfl rfl (by decide) rfl ?_
  refine tt_goto (tgt := 5) dX3_readNumber_28 rfl ?_
  refine tt_iload (j := 0) dX3_readNumber_5 rfl ?_
  refine tt_iload_n (j := 3) dX3_readNumber_7 rfl ?_
  refine tt_icmp_ge (tgt := 31) dX3_readNumber_8 rfl (fun _ => ?_) (fun q => absurd q (by decide))
  refine tt_bipush (v := 64) dX3_readNumber_31 rfl ?_
  refine tt_bipush (v := 8) dX3_readNumber_33 rfl ?_
  refine tt_iload_n (j := 3) dX3_readNumber_35 rfl ?_
  refine tt_imul dX3_readNumber_36 ?_
  refine tt_isub dX3_readNumber_37 ?_
  refine tt_istore (ks := [0, 1, 2, 3]) (L' := [(4, .int (64 - (8 * 8))), (2, .long ((((((((0 ||| ((d106.2 : Int32).toInt64 <<< (((8 * 0) : Int32).toInt64 &&& 63))) ||| ((d117.2 : Int32).toInt64 <<< (((8 * 1) : Int32).toInt64 &&& 63))) ||| ((d128.2 : Int32).toInt64 <<< (((8 * 2) : Int32).toInt64 &&& 63))) ||| ((d139.2 : Int32).toInt64 <<< (((8 * 3) : Int32).toInt64 &&& 63))) ||| ((d150.2 : Int32).toInt64 <<< (((8 * 4) : Int32).toInt64 &&& 63))) ||| ((d161.2 : Int32).toInt64 <<< (((8 * 5) : Int32).toInt64 &&& 63))) ||| ((d172.2 : Int32).toInt64 <<< (((8 * 6) : Int32).toInt64 &&& 63))) ||| ((d183.2 : Int32).toInt64 <<< (((8 * 7) : Int32).toInt64 &&& 63)))), (0, .ref o0), (1, .int 8)]) dX3_readNumber_38 (by decide) rfl ?_
  refine tt_lload_n (j := 1) dX3_readNumber_40 rfl ?_
  refine tt_iload (j := 0) dX3_readNumber_41 rfl ?_
  refine tt_lshl dX3_readNumber_43 ?_
  refine tt_iload (j := 0) dX3_readNumber_44 rfl ?_
  refine tt_lshr dX3_readNumber_46 ?_
  have hF : F_X3_readNumber_8 bs n (StC S o0)  = (d183.1, ((((((((((0 ||| ((d106.2 : Int32).toInt64 <<< (((8 * 0) : Int32).toInt64 &&& 63))) ||| ((d117.2 : Int32).toInt64 <<< (((8 * 1) : Int32).toInt64 &&& 63))) ||| ((d128.2 : Int32).toInt64 <<< (((8 * 2) : Int32).toInt64 &&& 63))) ||| ((d139.2 : Int32).toInt64 <<< (((8 * 3) : Int32).toInt64 &&& 63))) ||| ((d150.2 : Int32).toInt64 <<< (((8 * 4) : Int32).toInt64 &&& 63))) ||| ((d161.2 : Int32).toInt64 <<< (((8 * 5) : Int32).toInt64 &&& 63))) ||| ((d172.2 : Int32).toInt64 <<< (((8 * 6) : Int32).toInt64 &&& 63))) ||| ((d183.2 : Int32).toInt64 <<< (((8 * 7) : Int32).toInt64 &&& 63))) <<< (((64 - (8 * 8)) : Int32).toInt64 &&& 63)) >>> (((64 - (8 * 8)) : Int32).toInt64 &&& 63))) := by
    subst hd184
    subst hd173
    subst hd162
    subst hd151
    subst hd140
    subst hd129
    subst hd118
    subst hd107
    rfl
  exact tt_lreturn dX3_readNumber_47 rfl (hP _ _ _ _ ⟨hG179, hA181, Or.inl ⟨_, rfl, ⟨_, rfl⟩, xjC_mk hF (stC_mk (sC_193 hs186) (sC_194 hs186) (sC_195 hs186) (sC_196 hs186) (sC_197 hs186) (sC_198 hs186) (sC_199 hs186) (sC_200 hs186) (sC_201 hs186) (sC_202 hs186) (sC_203 hs186) (sC_204 hs186) (sC_205 hs186)), rfl, rfl⟩⟩)
def F_X3_readPlace_p78 (bs : Nat → Int32) (n : Int32) (d : DD) (x1 : Int32) (x2 : Int32) (x3 : Int32) : DD :=
  if (x1 >>> (6 &&& 31)) = 3 then
    d
  else
    if (x1 >>> (6 &&& 31)) = 1 then
      if x3 = 5 then
        if x2 = 0 then
          if (e8 d) = 64 then
            let d133 := F_X3_nextByte bs n d 
            if (d133.2 : Int32).toInt8.toInt32 < (-64) then
              ((e0 d133.1), (e1 d133.1), 0, (e3 d133.1), (e4 d133.1), (e5 d133.1), (e6 d133.1), (e7 d133.1), (e8 d133.1), (e9 d133.1), (e10 d133.1), (e11 d133.1), (eJ d133.1))
            else
              if (-8) < (d133.2 : Int32).toInt8.toInt32 then
                ((e0 d133.1), (e1 d133.1), 0, (e3 d133.1), (e4 d133.1), (e5 d133.1), (e6 d133.1), (e7 d133.1), (e8 d133.1), (e9 d133.1), (e10 d133.1), (e11 d133.1), (eJ d133.1))
              else
                if ((d133.2 : Int32).toInt8.toInt32 - (d133.2 : Int32).toInt8.toInt32 / 8 * 8) = 0 then
                  ((e0 d133.1), (e1 d133.1), (e2 d133.1), (e3 d133.1), (e4 d133.1), (15 - ((d133.2 : Int32).toInt8.toInt32 / 8)), (e6 d133.1), (e7 d133.1), (e8 d133.1), (e9 d133.1), (e10 d133.1), (e11 d133.1), (eJ d133.1))
                else
                  ((e0 d133.1), (e1 d133.1), 0, (e3 d133.1), (e4 d133.1), (e5 d133.1), (e6 d133.1), (e7 d133.1), (e8 d133.1), (e9 d133.1), (e10 d133.1), (e11 d133.1), (eJ d133.1))
          else
            ((e0 d), (e1 d), 0, (e3 d), (e4 d), (e5 d), (e6 d), (e7 d), (e8 d), (e9 d), (e10 d), (e11 d), (eJ d))
        else
          ((e0 d), (e1 d), 0, (e3 d), (e4 d), (e5 d), (e6 d), (e7 d), (e8 d), (e9 d), (e10 d), (e11 d), (eJ d))
      else
        ((e0 d), (e1 d), 0, (e3 d), (e4 d), (e5 d), (e6 d), (e7 d), (e8 d), (e9 d), (e10 d), (e11 d), (eJ d))
    else
      ((e0 d), (e1 d), 0, (e3 d), (e4 d), (e5 d), (e6 d), (e7 d), (e8 d), (e9 d), (e10 d), (e11 d), (eJ d))
set_option maxHeartbeats 2000000 in
theorem ce_X3_readPlace_p78 {xi : SX} {S : Hp} {E : List Nat} {kc nc : Nat} {P : Po} {o0 : Nat} {x1 : Int32} {x2 : Int32} {x3 : Int32} {bs : Nat → Int32} {n : Int32} (hG : GI S E) (h0 : Oa S E 3 0 o0) (hb : BC S E o0 bs n) (hP : ∀ r T x y, PV E [193, 195, 198] S kc nc rV (fun v T => StC T o0 = F_X3_readPlace_p78 bs n (StC S o0) x1 x2 x3) [] r T x y → P r T x y) : TT xi M_X3_readPlace 78 [(0, .ref o0), (1, .int x1), (2, .int x2), (3, .int x3)] [] S kc nc P := by
  have hA : Af E [193, 195, 198] S S := af_rf
  refine tt_iload_n (j := 1) dX3_readPlace_78 rfl ?_
  refine tt_bipush (v := 6) dX3_readPlace_79 rfl ?_
  refine tt_ishr dX3_readPlace_81 ?_
  refine tt_iconst (v := 3) dX3_readPlace_82 rfl ?_
  refine tt_icmp_ne (tgt := 87) dX3_readPlace_83 rfl (fun q101 => ?_) (fun q101 => ?_)
  · skip
    refine tt_iload_n (j := 1) dX3_readPlace_87 rfl ?_
    refine tt_bipush (v := 6) dX3_readPlace_88 rfl ?_
    refine tt_ishr dX3_readPlace_90 ?_
    refine tt_iconst (v := 1) dX3_readPlace_91 rfl ?_
    refine tt_icmp_ne (tgt := 113) dX3_readPlace_92 rfl (fun q102 => ?_) (fun q102 => ?_)
    · skip
      refine tt_aload_n (j := 0) dX3_readPlace_113 rfl ?_
      refine tt_iconst (v := 0) dX3_readPlace_114 rfl ?_
      refine gt_pI (id := 195) (x := 0) dX3_readPlace_115 fl_3_22 rfl rfl h0 hA rfl rfl rfl (gp_Ir hG (⟨by decide, by decide⟩ : Rg 0 0 0)) (by decide) (fun h => absurd h (by decide)) (fun h => absurd h (by decide)) (fun S103 hG104 hA105 e106 f107 er108 => ?_)
      have hF : F_X3_readPlace_p78 bs n (StC S o0) x1 x2 x3 = ((e0 (StC S o0)), (e1 (StC S o0)), 0, (e3 (StC S o0)), (e4 (StC S o0)), (e5 (StC S o0)), (e6 (StC S o0)), (e7 (StC S o0)), (e8 (StC S o0)), (e9 (StC S o0)), (e10 (StC S o0)), (e11 (StC S o0)), (eJ (StC S o0))) := by
        unfold F_X3_readPlace_p78
        rw [if_neg q101, if_neg q102]
      exact tt_vreturn dX3_readPlace_118 rfl (hP _ _ _ _ ⟨hG104, hA105, Or.inl ⟨_, rfl, rfl, Eq.trans (stC_mk ((congrFun (congrFun e106 193) o0).trans ((congrFun (up2_ne (k := 193)) o0).trans (sC_193 (T := S) (o := o0) rfl))) ((congrFun (congrFun e106 194) o0).trans ((congrFun (up2_ne (k := 194)) o0).trans (sC_194 (T := S) (o := o0) rfl))) (by rw [e106]; exact up2_self) ((congrFun (congrFun e106 196) o0).trans ((congrFun (up2_ne (k := 196)) o0).trans (sC_196 (T := S) (o := o0) rfl))) ((congrFun (congrFun e106 197) o0).trans ((congrFun (up2_ne (k := 197)) o0).trans (sC_197 (T := S) (o := o0) rfl))) ((congrFun (congrFun e106 198) o0).trans ((congrFun (up2_ne (k := 198)) o0).trans (sC_198 (T := S) (o := o0) rfl))) ((congrFun (congrFun e106 199) o0).trans ((congrFun (up2_ne (k := 199)) o0).trans (sC_199 (T := S) (o := o0) rfl))) ((congrFun (congrFun e106 200) o0).trans ((congrFun (up2_ne (k := 200)) o0).trans (sC_200 (T := S) (o := o0) rfl))) ((congrFun (congrFun e106 201) o0).trans ((congrFun (up2_ne (k := 201)) o0).trans (sC_201 (T := S) (o := o0) rfl))) ((congrFun (congrFun e106 202) o0).trans ((congrFun (up2_ne (k := 202)) o0).trans (sC_202 (T := S) (o := o0) rfl))) ((congrFun (congrFun e106 203) o0).trans ((congrFun (up2_ne (k := 203)) o0).trans (sC_203 (T := S) (o := o0) rfl))) ((congrFun (congrFun e106 204) o0).trans ((congrFun (up2_ne (k := 204)) o0).trans (sC_204 (T := S) (o := o0) rfl))) ((congrFun (congrFun f107 205) o0).trans (sC_205 (T := S) (o := o0) rfl))) hF.symm, rfl, rfl⟩⟩)
    · skip
      have h109 : Rg 1 1 (x1 >>> (6 &&& 31)) := rg_eq_l (rg_all (x1 >>> (6 &&& 31))) (⟨by decide, by decide⟩ : Rg 1 1 1) q102
      refine tt_iload_n (j := 3) dX3_readPlace_95 rfl ?_
      refine tt_iconst (v := 5) dX3_readPlace_96 rfl ?_
      refine tt_icmp_ne (tgt := 113) dX3_readPlace_97 rfl (fun q110 => ?_) (fun q110 => ?_)
      · skip
        refine tt_aload_n (j := 0) dX3_readPlace_113 rfl ?_
        refine tt_iconst (v := 0) dX3_readPlace_114 rfl ?_
        refine gt_pI (id := 195) (x := 0) dX3_readPlace_115 fl_3_22 rfl rfl h0 hA rfl rfl rfl (gp_Ir hG (⟨by decide, by decide⟩ : Rg 0 0 0)) (by decide) (fun h => absurd h (by decide)) (fun h => absurd h (by decide)) (fun S111 hG112 hA113 e114 f115 er116 => ?_)
        have hF : F_X3_readPlace_p78 bs n (StC S o0) x1 x2 x3 = ((e0 (StC S o0)), (e1 (StC S o0)), 0, (e3 (StC S o0)), (e4 (StC S o0)), (e5 (StC S o0)), (e6 (StC S o0)), (e7 (StC S o0)), (e8 (StC S o0)), (e9 (StC S o0)), (e10 (StC S o0)), (e11 (StC S o0)), (eJ (StC S o0))) := by
          unfold F_X3_readPlace_p78
          rw [if_neg q101, if_pos q102, if_neg q110]
        exact tt_vreturn dX3_readPlace_118 rfl (hP _ _ _ _ ⟨hG112, hA113, Or.inl ⟨_, rfl, rfl, Eq.trans (stC_mk ((congrFun (congrFun e114 193) o0).trans ((congrFun (up2_ne (k := 193)) o0).trans (sC_193 (T := S) (o := o0) rfl))) ((congrFun (congrFun e114 194) o0).trans ((congrFun (up2_ne (k := 194)) o0).trans (sC_194 (T := S) (o := o0) rfl))) (by rw [e114]; exact up2_self) ((congrFun (congrFun e114 196) o0).trans ((congrFun (up2_ne (k := 196)) o0).trans (sC_196 (T := S) (o := o0) rfl))) ((congrFun (congrFun e114 197) o0).trans ((congrFun (up2_ne (k := 197)) o0).trans (sC_197 (T := S) (o := o0) rfl))) ((congrFun (congrFun e114 198) o0).trans ((congrFun (up2_ne (k := 198)) o0).trans (sC_198 (T := S) (o := o0) rfl))) ((congrFun (congrFun e114 199) o0).trans ((congrFun (up2_ne (k := 199)) o0).trans (sC_199 (T := S) (o := o0) rfl))) ((congrFun (congrFun e114 200) o0).trans ((congrFun (up2_ne (k := 200)) o0).trans (sC_200 (T := S) (o := o0) rfl))) ((congrFun (congrFun e114 201) o0).trans ((congrFun (up2_ne (k := 201)) o0).trans (sC_201 (T := S) (o := o0) rfl))) ((congrFun (congrFun e114 202) o0).trans ((congrFun (up2_ne (k := 202)) o0).trans (sC_202 (T := S) (o := o0) rfl))) ((congrFun (congrFun e114 203) o0).trans ((congrFun (up2_ne (k := 203)) o0).trans (sC_203 (T := S) (o := o0) rfl))) ((congrFun (congrFun e114 204) o0).trans ((congrFun (up2_ne (k := 204)) o0).trans (sC_204 (T := S) (o := o0) rfl))) ((congrFun (congrFun f115 205) o0).trans (sC_205 (T := S) (o := o0) rfl))) hF.symm, rfl, rfl⟩⟩)
      · skip
        have h117 : Rg 5 5 x3 := rg_eq_l (rg_all x3) (⟨by decide, by decide⟩ : Rg 5 5 5) q110
        refine tt_iload_n (j := 2) dX3_readPlace_100 rfl ?_
        refine tt_if_ne (tgt := 113) dX3_readPlace_101 rfl (fun q118 => ?_) (fun q118 => ?_)
        · skip
          refine tt_aload_n (j := 0) dX3_readPlace_113 rfl ?_
          refine tt_iconst (v := 0) dX3_readPlace_114 rfl ?_
          refine gt_pI (id := 195) (x := 0) dX3_readPlace_115 fl_3_22 rfl rfl h0 hA rfl rfl rfl (gp_Ir hG (⟨by decide, by decide⟩ : Rg 0 0 0)) (by decide) (fun h => absurd h (by decide)) (fun h => absurd h (by decide)) (fun S119 hG120 hA121 e122 f123 er124 => ?_)
          have hF : F_X3_readPlace_p78 bs n (StC S o0) x1 x2 x3 = ((e0 (StC S o0)), (e1 (StC S o0)), 0, (e3 (StC S o0)), (e4 (StC S o0)), (e5 (StC S o0)), (e6 (StC S o0)), (e7 (StC S o0)), (e8 (StC S o0)), (e9 (StC S o0)), (e10 (StC S o0)), (e11 (StC S o0)), (eJ (StC S o0))) := by
            unfold F_X3_readPlace_p78
            rw [if_neg q101, if_pos q102, if_pos q110, if_neg q118]
          exact tt_vreturn dX3_readPlace_118 rfl (hP _ _ _ _ ⟨hG120, hA121, Or.inl ⟨_, rfl, rfl, Eq.trans (stC_mk ((congrFun (congrFun e122 193) o0).trans ((congrFun (up2_ne (k := 193)) o0).trans (sC_193 (T := S) (o := o0) rfl))) ((congrFun (congrFun e122 194) o0).trans ((congrFun (up2_ne (k := 194)) o0).trans (sC_194 (T := S) (o := o0) rfl))) (by rw [e122]; exact up2_self) ((congrFun (congrFun e122 196) o0).trans ((congrFun (up2_ne (k := 196)) o0).trans (sC_196 (T := S) (o := o0) rfl))) ((congrFun (congrFun e122 197) o0).trans ((congrFun (up2_ne (k := 197)) o0).trans (sC_197 (T := S) (o := o0) rfl))) ((congrFun (congrFun e122 198) o0).trans ((congrFun (up2_ne (k := 198)) o0).trans (sC_198 (T := S) (o := o0) rfl))) ((congrFun (congrFun e122 199) o0).trans ((congrFun (up2_ne (k := 199)) o0).trans (sC_199 (T := S) (o := o0) rfl))) ((congrFun (congrFun e122 200) o0).trans ((congrFun (up2_ne (k := 200)) o0).trans (sC_200 (T := S) (o := o0) rfl))) ((congrFun (congrFun e122 201) o0).trans ((congrFun (up2_ne (k := 201)) o0).trans (sC_201 (T := S) (o := o0) rfl))) ((congrFun (congrFun e122 202) o0).trans ((congrFun (up2_ne (k := 202)) o0).trans (sC_202 (T := S) (o := o0) rfl))) ((congrFun (congrFun e122 203) o0).trans ((congrFun (up2_ne (k := 203)) o0).trans (sC_203 (T := S) (o := o0) rfl))) ((congrFun (congrFun e122 204) o0).trans ((congrFun (up2_ne (k := 204)) o0).trans (sC_204 (T := S) (o := o0) rfl))) ((congrFun (congrFun f123 205) o0).trans (sC_205 (T := S) (o := o0) rfl))) hF.symm, rfl, rfl⟩⟩)
        · skip
          have h125 : Rg 0 0 x2 := rg_eq_l (rg_all x2) (⟨by decide, by decide⟩ : Rg 0 0 0) q118
          refine tt_aload_n (j := 0) dX3_readPlace_104 rfl ?_
          refine gt_gI (id := 201) (v := (e8 (StC S o0))) dX3_readPlace_105 fl_3_34 rfl rfl h0 hA (sC_201 (T := S) (o := o0) rfl) ?_
          refine tt_bipush (v := 64) dX3_readPlace_108 rfl ?_
          refine tt_icmp_eq (tgt := 119) dX3_readPlace_110 rfl (fun q126 => ?_) (fun q126 => ?_)
          · skip
            have h127 : Rg 64 64 (e8 (StC S o0)) := rg_eq_l (rg_all (e8 (StC S o0))) (⟨by decide, by decide⟩ : Rg 64 64 64) q126
            refine tt_aload_n (j := 0) dX3_readPlace_119 rfl ?_
            refine gt_VI (As := []) dX3_readPlace_120 ca_X3_30 ⟨by decide, by decide⟩ h0 hA rfl (Nat.le_of_ble_eq_true rfl) (Nat.le_of_ble_eq_true rfl) (by decide) (ce_X3_nextByte hG (oa_af h0 hA) (bc_af hb h0 hA) (fun _ _ _ _ h => h)) rfl (fun _ h => nomatch h) (fun S128 x137 h138 hx132 hG129 hB130 hA131 => ?_)
            obtain ⟨d133, hd134⟩ : ∃ q, q = F_X3_nextByte bs n (StC S o0)  := ⟨_, rfl⟩
            have hq135 := (congrArg (fun q => F_X3_nextByte bs n q ) (stC_mk (sC_193 (T := S) (o := o0) rfl) (sC_194 (T := S) (o := o0) rfl) (sC_195 (T := S) (o := o0) rfl) (sC_196 (T := S) (o := o0) rfl) (sC_197 (T := S) (o := o0) rfl) (sC_198 (T := S) (o := o0) rfl) (sC_199 (T := S) (o := o0) rfl) (sC_200 (T := S) (o := o0) rfl) (sC_201 (T := S) (o := o0) rfl) (sC_202 (T := S) (o := o0) rfl) (sC_203 (T := S) (o := o0) rfl) (sC_204 (T := S) (o := o0) rfl) (sC_205 (T := S) (o := o0) rfl))).trans hd134.symm
            have hs136 := hx132.2.trans (congrArg Prod.fst hq135)
            obtain rfl : x137 = d133.2 := (xiC_v hx132).trans (congrArg Prod.snd hq135)
            refine tt_i2b dX3_readPlace_123 ?_
            refine tt_istore (ks := [0, 1, 2, 3, 4]) (L' := [(4, .int (d133.2 : Int32).toInt8.toInt32), (0, .ref o0), (1, .int x1), (2, .int x2), (3, .int x3)]) dX3_readPlace_124 (by decide) rfl ?_
            refine tt_iload (j := 0) dX3_readPlace_126 rfl ?_
            refine tt_bipush (v := (-64)) dX3_readPlace_128 rfl ?_
            refine tt_icmp_lt (tgt := 148) dX3_readPlace_130 rfl (fun q139 => ?_) (fun q139 => ?_)
            · skip
              have h140 : Rg (-2147483648) (-65) (d133.2 : Int32).toInt8.toInt32 := rg_lt_l (rg_all (d133.2 : Int32).toInt8.toInt32) (⟨by decide, by decide⟩ : Rg (-64) (-64) (-64)) q139
              refine tt_aload_n (j := 1) dX3_readPlace_148 rfl ?_
              refine tt_iconst (v := 0) dX3_readPlace_149 rfl ?_
              refine gt_pI (id := 195) (x := 0) dX3_readPlace_150 fl_3_22 rfl rfl h0 hA131 rfl rfl rfl (gp_Ir hG129 (⟨by decide, by decide⟩ : Rg 0 0 0)) (by decide) (fun h => absurd h (by decide)) (fun h => absurd h (by decide)) (fun S141 hG142 hA143 e144 f145 er146 => ?_)
              have hF : F_X3_readPlace_p78 bs n (StC S o0) x1 x2 x3 = ((e0 d133.1), (e1 d133.1), 0, (e3 d133.1), (e4 d133.1), (e5 d133.1), (e6 d133.1), (e7 d133.1), (e8 d133.1), (e9 d133.1), (e10 d133.1), (e11 d133.1), (eJ d133.1)) := by
                subst hd134
                unfold F_X3_readPlace_p78
                dsimp only
                rw [if_neg q101, if_pos q102, if_pos q110, if_pos q118, if_pos q126, if_pos q139]
              exact tt_vreturn dX3_readPlace_153 rfl (hP _ _ _ _ ⟨hG142, hA143, Or.inl ⟨_, rfl, rfl, Eq.trans (stC_mk ((congrFun (congrFun e144 193) o0).trans ((congrFun (up2_ne (k := 193)) o0).trans (sC_193 hs136))) ((congrFun (congrFun e144 194) o0).trans ((congrFun (up2_ne (k := 194)) o0).trans (sC_194 hs136))) (by rw [e144]; exact up2_self) ((congrFun (congrFun e144 196) o0).trans ((congrFun (up2_ne (k := 196)) o0).trans (sC_196 hs136))) ((congrFun (congrFun e144 197) o0).trans ((congrFun (up2_ne (k := 197)) o0).trans (sC_197 hs136))) ((congrFun (congrFun e144 198) o0).trans ((congrFun (up2_ne (k := 198)) o0).trans (sC_198 hs136))) ((congrFun (congrFun e144 199) o0).trans ((congrFun (up2_ne (k := 199)) o0).trans (sC_199 hs136))) ((congrFun (congrFun e144 200) o0).trans ((congrFun (up2_ne (k := 200)) o0).trans (sC_200 hs136))) ((congrFun (congrFun e144 201) o0).trans ((congrFun (up2_ne (k := 201)) o0).trans (sC_201 hs136))) ((congrFun (congrFun e144 202) o0).trans ((congrFun (up2_ne (k := 202)) o0).trans (sC_202 hs136))) ((congrFun (congrFun e144 203) o0).trans ((congrFun (up2_ne (k := 203)) o0).trans (sC_203 hs136))) ((congrFun (congrFun e144 204) o0).trans ((congrFun (up2_ne (k := 204)) o0).trans (sC_204 hs136))) ((congrFun (congrFun f145 205) o0).trans (sC_205 hs136))) hF.symm, rfl, rfl⟩⟩)
            · skip
              have h147 : Rg (-64) 2147483647 (d133.2 : Int32).toInt8.toInt32 := rg_le_r (⟨by decide, by decide⟩ : Rg (-64) (-64) (-64)) (rg_all (d133.2 : Int32).toInt8.toInt32) (nlt_le q139)
              refine tt_iload (j := 0) dX3_readPlace_133 rfl ?_
              refine tt_bipush (v := (-8)) dX3_readPlace_135 rfl ?_
              refine tt_icmp_gt (tgt := 148) dX3_readPlace_137 rfl (fun q148 => ?_) (fun q148 => ?_)
              · skip
                have h149 : Rg (-7) 2147483647 (d133.2 : Int32).toInt8.toInt32 := rg_lt_r (⟨by decide, by decide⟩ : Rg (-8) (-8) (-8)) h147 q148
                refine tt_aload_n (j := 1) dX3_readPlace_148 rfl ?_
                refine tt_iconst (v := 0) dX3_readPlace_149 rfl ?_
                refine gt_pI (id := 195) (x := 0) dX3_readPlace_150 fl_3_22 rfl rfl h0 hA131 rfl rfl rfl (gp_Ir hG129 (⟨by decide, by decide⟩ : Rg 0 0 0)) (by decide) (fun h => absurd h (by decide)) (fun h => absurd h (by decide)) (fun S150 hG151 hA152 e153 f154 er155 => ?_)
                have hF : F_X3_readPlace_p78 bs n (StC S o0) x1 x2 x3 = ((e0 d133.1), (e1 d133.1), 0, (e3 d133.1), (e4 d133.1), (e5 d133.1), (e6 d133.1), (e7 d133.1), (e8 d133.1), (e9 d133.1), (e10 d133.1), (e11 d133.1), (eJ d133.1)) := by
                  subst hd134
                  unfold F_X3_readPlace_p78
                  dsimp only
                  rw [if_neg q101, if_pos q102, if_pos q110, if_pos q118, if_pos q126, if_neg q139, if_pos q148]
                exact tt_vreturn dX3_readPlace_153 rfl (hP _ _ _ _ ⟨hG151, hA152, Or.inl ⟨_, rfl, rfl, Eq.trans (stC_mk ((congrFun (congrFun e153 193) o0).trans ((congrFun (up2_ne (k := 193)) o0).trans (sC_193 hs136))) ((congrFun (congrFun e153 194) o0).trans ((congrFun (up2_ne (k := 194)) o0).trans (sC_194 hs136))) (by rw [e153]; exact up2_self) ((congrFun (congrFun e153 196) o0).trans ((congrFun (up2_ne (k := 196)) o0).trans (sC_196 hs136))) ((congrFun (congrFun e153 197) o0).trans ((congrFun (up2_ne (k := 197)) o0).trans (sC_197 hs136))) ((congrFun (congrFun e153 198) o0).trans ((congrFun (up2_ne (k := 198)) o0).trans (sC_198 hs136))) ((congrFun (congrFun e153 199) o0).trans ((congrFun (up2_ne (k := 199)) o0).trans (sC_199 hs136))) ((congrFun (congrFun e153 200) o0).trans ((congrFun (up2_ne (k := 200)) o0).trans (sC_200 hs136))) ((congrFun (congrFun e153 201) o0).trans ((congrFun (up2_ne (k := 201)) o0).trans (sC_201 hs136))) ((congrFun (congrFun e153 202) o0).trans ((congrFun (up2_ne (k := 202)) o0).trans (sC_202 hs136))) ((congrFun (congrFun e153 203) o0).trans ((congrFun (up2_ne (k := 203)) o0).trans (sC_203 hs136))) ((congrFun (congrFun e153 204) o0).trans ((congrFun (up2_ne (k := 204)) o0).trans (sC_204 hs136))) ((congrFun (congrFun f154 205) o0).trans (sC_205 hs136))) hF.symm, rfl, rfl⟩⟩)
              · skip
                have h156 : Rg (-64) (-8) (d133.2 : Int32).toInt8.toInt32 := rg_le_l h147 (⟨by decide, by decide⟩ : Rg (-8) (-8) (-8)) (nlt_le q148)
                refine tt_iload (j := 0) dX3_readPlace_140 rfl ?_
                refine tt_bipush (v := 8) dX3_readPlace_142 rfl ?_
                refine tt_irem dX3_readPlace_144 (by decide) ?_
                refine tt_if_eq (tgt := 154) dX3_readPlace_145 rfl (fun q157 => ?_) (fun q157 => ?_)
                · skip
                  have h158 : Rg 0 0 ((d133.2 : Int32).toInt8.toInt32 - (d133.2 : Int32).toInt8.toInt32 / 8 * 8) := rg_eq_l (rg_all ((d133.2 : Int32).toInt8.toInt32 - (d133.2 : Int32).toInt8.toInt32 / 8 * 8)) (⟨by decide, by decide⟩ : Rg 0 0 0) q157
                  refine tt_aload_n (j := 1) dX3_readPlace_154 rfl ?_
                  refine tt_bipush (v := 15) dX3_readPlace_155 rfl ?_
                  refine tt_iload (j := 0) dX3_readPlace_157 rfl ?_
                  refine tt_bipush (v := 8) dX3_readPlace_159 rfl ?_
                  refine tt_idiv dX3_readPlace_161 (by decide) ?_
                  refine tt_isub dX3_readPlace_162 ?_
                  refine gt_pI (id := 198) (x := (15 - ((d133.2 : Int32).toInt8.toInt32 / 8))) dX3_readPlace_163 fl_3_98 rfl rfl h0 hA131 rfl rfl rfl (gp_I hG129) (by decide) (fun h => absurd h (by decide)) (fun h => absurd h (by decide)) (fun S159 hG160 hA161 e162 f163 er164 => ?_)
                  have hF : F_X3_readPlace_p78 bs n (StC S o0) x1 x2 x3 = ((e0 d133.1), (e1 d133.1), (e2 d133.1), (e3 d133.1), (e4 d133.1), (15 - ((d133.2 : Int32).toInt8.toInt32 / 8)), (e6 d133.1), (e7 d133.1), (e8 d133.1), (e9 d133.1), (e10 d133.1), (e11 d133.1), (eJ d133.1)) := by
                    subst hd134
                    unfold F_X3_readPlace_p78
                    dsimp only
                    rw [if_neg q101, if_pos q102, if_pos q110, if_pos q118, if_pos q126, if_neg q139, if_neg q148, if_pos q157]
                  exact tt_vreturn dX3_readPlace_166 rfl (hP _ _ _ _ ⟨hG160, hA161, Or.inl ⟨_, rfl, rfl, Eq.trans (stC_mk ((congrFun (congrFun e162 193) o0).trans ((congrFun (up2_ne (k := 193)) o0).trans (sC_193 hs136))) ((congrFun (congrFun e162 194) o0).trans ((congrFun (up2_ne (k := 194)) o0).trans (sC_194 hs136))) ((congrFun (congrFun e162 195) o0).trans ((congrFun (up2_ne (k := 195)) o0).trans (sC_195 hs136))) ((congrFun (congrFun e162 196) o0).trans ((congrFun (up2_ne (k := 196)) o0).trans (sC_196 hs136))) ((congrFun (congrFun e162 197) o0).trans ((congrFun (up2_ne (k := 197)) o0).trans (sC_197 hs136))) (by rw [e162]; exact up2_self) ((congrFun (congrFun e162 199) o0).trans ((congrFun (up2_ne (k := 199)) o0).trans (sC_199 hs136))) ((congrFun (congrFun e162 200) o0).trans ((congrFun (up2_ne (k := 200)) o0).trans (sC_200 hs136))) ((congrFun (congrFun e162 201) o0).trans ((congrFun (up2_ne (k := 201)) o0).trans (sC_201 hs136))) ((congrFun (congrFun e162 202) o0).trans ((congrFun (up2_ne (k := 202)) o0).trans (sC_202 hs136))) ((congrFun (congrFun e162 203) o0).trans ((congrFun (up2_ne (k := 203)) o0).trans (sC_203 hs136))) ((congrFun (congrFun e162 204) o0).trans ((congrFun (up2_ne (k := 204)) o0).trans (sC_204 hs136))) ((congrFun (congrFun f163 205) o0).trans (sC_205 hs136))) hF.symm, rfl, rfl⟩⟩)
                · skip
                  refine tt_aload_n (j := 1) dX3_readPlace_148 rfl ?_
                  refine tt_iconst (v := 0) dX3_readPlace_149 rfl ?_
                  refine gt_pI (id := 195) (x := 0) dX3_readPlace_150 fl_3_22 rfl rfl h0 hA131 rfl rfl rfl (gp_Ir hG129 (⟨by decide, by decide⟩ : Rg 0 0 0)) (by decide) (fun h => absurd h (by decide)) (fun h => absurd h (by decide)) (fun S165 hG166 hA167 e168 f169 er170 => ?_)
                  have hF : F_X3_readPlace_p78 bs n (StC S o0) x1 x2 x3 = ((e0 d133.1), (e1 d133.1), 0, (e3 d133.1), (e4 d133.1), (e5 d133.1), (e6 d133.1), (e7 d133.1), (e8 d133.1), (e9 d133.1), (e10 d133.1), (e11 d133.1), (eJ d133.1)) := by
                    subst hd134
                    unfold F_X3_readPlace_p78
                    dsimp only
                    rw [if_neg q101, if_pos q102, if_pos q110, if_pos q118, if_pos q126, if_neg q139, if_neg q148, if_neg q157]
                  exact tt_vreturn dX3_readPlace_153 rfl (hP _ _ _ _ ⟨hG166, hA167, Or.inl ⟨_, rfl, rfl, Eq.trans (stC_mk ((congrFun (congrFun e168 193) o0).trans ((congrFun (up2_ne (k := 193)) o0).trans (sC_193 hs136))) ((congrFun (congrFun e168 194) o0).trans ((congrFun (up2_ne (k := 194)) o0).trans (sC_194 hs136))) (by rw [e168]; exact up2_self) ((congrFun (congrFun e168 196) o0).trans ((congrFun (up2_ne (k := 196)) o0).trans (sC_196 hs136))) ((congrFun (congrFun e168 197) o0).trans ((congrFun (up2_ne (k := 197)) o0).trans (sC_197 hs136))) ((congrFun (congrFun e168 198) o0).trans ((congrFun (up2_ne (k := 198)) o0).trans (sC_198 hs136))) ((congrFun (congrFun e168 199) o0).trans ((congrFun (up2_ne (k := 199)) o0).trans (sC_199 hs136))) ((congrFun (congrFun e168 200) o0).trans ((congrFun (up2_ne (k := 200)) o0).trans (sC_200 hs136))) ((congrFun (congrFun e168 201) o0).trans ((congrFun (up2_ne (k := 201)) o0).trans (sC_201 hs136))) ((congrFun (congrFun e168 202) o0).trans ((congrFun (up2_ne (k := 202)) o0).trans (sC_202 hs136))) ((congrFun (congrFun e168 203) o0).trans ((congrFun (up2_ne (k := 203)) o0).trans (sC_203 hs136))) ((congrFun (congrFun e168 204) o0).trans ((congrFun (up2_ne (k := 204)) o0).trans (sC_204 hs136))) ((congrFun (congrFun f169 205) o0).trans (sC_205 hs136))) hF.symm, rfl, rfl⟩⟩)
          · skip
            refine tt_aload_n (j := 0) dX3_readPlace_113 rfl ?_
            refine tt_iconst (v := 0) dX3_readPlace_114 rfl ?_
            refine gt_pI (id := 195) (x := 0) dX3_readPlace_115 fl_3_22 rfl rfl h0 hA rfl rfl rfl (gp_Ir hG (⟨by decide, by decide⟩ : Rg 0 0 0)) (by decide) (fun h => absurd h (by decide)) (fun h => absurd h (by decide)) (fun S171 hG172 hA173 e174 f175 er176 => ?_)
            have hF : F_X3_readPlace_p78 bs n (StC S o0) x1 x2 x3 = ((e0 (StC S o0)), (e1 (StC S o0)), 0, (e3 (StC S o0)), (e4 (StC S o0)), (e5 (StC S o0)), (e6 (StC S o0)), (e7 (StC S o0)), (e8 (StC S o0)), (e9 (StC S o0)), (e10 (StC S o0)), (e11 (StC S o0)), (eJ (StC S o0))) := by
              unfold F_X3_readPlace_p78
              rw [if_neg q101, if_pos q102, if_pos q110, if_pos q118, if_neg q126]
            exact tt_vreturn dX3_readPlace_118 rfl (hP _ _ _ _ ⟨hG172, hA173, Or.inl ⟨_, rfl, rfl, Eq.trans (stC_mk ((congrFun (congrFun e174 193) o0).trans ((congrFun (up2_ne (k := 193)) o0).trans (sC_193 (T := S) (o := o0) rfl))) ((congrFun (congrFun e174 194) o0).trans ((congrFun (up2_ne (k := 194)) o0).trans (sC_194 (T := S) (o := o0) rfl))) (by rw [e174]; exact up2_self) ((congrFun (congrFun e174 196) o0).trans ((congrFun (up2_ne (k := 196)) o0).trans (sC_196 (T := S) (o := o0) rfl))) ((congrFun (congrFun e174 197) o0).trans ((congrFun (up2_ne (k := 197)) o0).trans (sC_197 (T := S) (o := o0) rfl))) ((congrFun (congrFun e174 198) o0).trans ((congrFun (up2_ne (k := 198)) o0).trans (sC_198 (T := S) (o := o0) rfl))) ((congrFun (congrFun e174 199) o0).trans ((congrFun (up2_ne (k := 199)) o0).trans (sC_199 (T := S) (o := o0) rfl))) ((congrFun (congrFun e174 200) o0).trans ((congrFun (up2_ne (k := 200)) o0).trans (sC_200 (T := S) (o := o0) rfl))) ((congrFun (congrFun e174 201) o0).trans ((congrFun (up2_ne (k := 201)) o0).trans (sC_201 (T := S) (o := o0) rfl))) ((congrFun (congrFun e174 202) o0).trans ((congrFun (up2_ne (k := 202)) o0).trans (sC_202 (T := S) (o := o0) rfl))) ((congrFun (congrFun e174 203) o0).trans ((congrFun (up2_ne (k := 203)) o0).trans (sC_203 (T := S) (o := o0) rfl))) ((congrFun (congrFun e174 204) o0).trans ((congrFun (up2_ne (k := 204)) o0).trans (sC_204 (T := S) (o := o0) rfl))) ((congrFun (congrFun f175 205) o0).trans (sC_205 (T := S) (o := o0) rfl))) hF.symm, rfl, rfl⟩⟩)
  · skip
    have h177 : Rg 3 3 (x1 >>> (6 &&& 31)) := rg_eq_l (rg_all (x1 >>> (6 &&& 31))) (⟨by decide, by decide⟩ : Rg 3 3 3) q101
    have hF : F_X3_readPlace_p78 bs n (StC S o0) x1 x2 x3 = (StC S o0) := by
      unfold F_X3_readPlace_p78
      rw [if_pos q101]
    exact tt_vreturn dX3_readPlace_86 rfl (hP _ _ _ _ ⟨hG, hA, Or.inl ⟨_, rfl, rfl, Eq.trans (stC_mk (sC_193 (T := S) (o := o0) rfl) (sC_194 (T := S) (o := o0) rfl) (sC_195 (T := S) (o := o0) rfl) (sC_196 (T := S) (o := o0) rfl) (sC_197 (T := S) (o := o0) rfl) (sC_198 (T := S) (o := o0) rfl) (sC_199 (T := S) (o := o0) rfl) (sC_200 (T := S) (o := o0) rfl) (sC_201 (T := S) (o := o0) rfl) (sC_202 (T := S) (o := o0) rfl) (sC_203 (T := S) (o := o0) rfl) (sC_204 (T := S) (o := o0) rfl) (sC_205 (T := S) (o := o0) rfl)) hF.symm, rfl, rfl⟩⟩)
def F_X3_readPlace (bs : Nat → Int32) (n : Int32) (d : DD) : DD :=
  let d106 := F_X3_nextByte bs n d 
  if ((e1 d106.1) &&& 1) = 0 then
    if ((e1 d106.1) &&& 4) = 0 then
      F_X3_readPlace_p78 bs n ((e0 d106.1), (e1 d106.1), (e2 d106.1), ((d106.2 >>> (3 &&& 31)) &&& 7), ((d106.2 >>> (3 &&& 31)) &&& 7), (d106.2 &&& 7), (e6 d106.1), (e7 d106.1), (e8 d106.1), (e9 d106.1), (e10 d106.1), (e11 d106.1), (eJ d106.1)) (d106.2) (0) ((d106.2 &&& 7))
    else
      F_X3_readPlace_p78 bs n ((e0 d106.1), (e1 d106.1), (e2 d106.1), (((d106.2 >>> (3 &&& 31)) &&& 7) + 8), ((d106.2 >>> (3 &&& 31)) &&& 7), (d106.2 &&& 7), (e6 d106.1), (e7 d106.1), (e8 d106.1), (e9 d106.1), (e10 d106.1), (e11 d106.1), (eJ d106.1)) (d106.2) (0) ((d106.2 &&& 7))
  else
    if ((e1 d106.1) &&& 4) = 0 then
      F_X3_readPlace_p78 bs n ((e0 d106.1), (e1 d106.1), (e2 d106.1), ((d106.2 >>> (3 &&& 31)) &&& 7), ((d106.2 >>> (3 &&& 31)) &&& 7), ((d106.2 &&& 7) + 8), (e6 d106.1), (e7 d106.1), (e8 d106.1), (e9 d106.1), (e10 d106.1), (e11 d106.1), (eJ d106.1)) (d106.2) (1) ((d106.2 &&& 7))
    else
      F_X3_readPlace_p78 bs n ((e0 d106.1), (e1 d106.1), (e2 d106.1), (((d106.2 >>> (3 &&& 31)) &&& 7) + 8), ((d106.2 >>> (3 &&& 31)) &&& 7), ((d106.2 &&& 7) + 8), (e6 d106.1), (e7 d106.1), (e8 d106.1), (e9 d106.1), (e10 d106.1), (e11 d106.1), (eJ d106.1)) (d106.2) (1) ((d106.2 &&& 7))
set_option maxHeartbeats 2000000 in
theorem ce_X3_readPlace {xi : SX} {S : Hp} {E : List Nat} {kc nc : Nat} {P : Po} {o0 : Nat} {bs : Nat → Int32} {n : Int32} (hG : GI S E) (h0 : Oa S E 3 0 o0) (hb : BC S E o0 bs n) (hP : ∀ r T x y, PV E [193, 195, 196, 197, 198] S kc nc rV (fun v T => StC T o0 = F_X3_readPlace bs n (StC S o0) ) [] r T x y → P r T x y) : TT xi M_X3_readPlace 0 [(0, .ref o0)] [] S kc nc P := by
  have hA : Af E [193, 195, 196, 197, 198] S S := af_rf
  refine tt_aload_n (j := 0) dX3_readPlace_0 rfl ?_
  refine gt_VI (As := []) dX3_readPlace_1 ca_X3_30 ⟨by decide, by decide⟩ h0 hA rfl (Nat.le_of_ble_eq_true rfl) (Nat.le_of_ble_eq_true rfl) (by decide) (ce_X3_nextByte hG (oa_af h0 hA) (bc_af hb h0 hA) (fun _ _ _ _ h => h)) rfl (fun _ h => nomatch h) (fun S101 x110 h111 hx105 hG102 hB103 hA104 => ?_)
  obtain ⟨d106, hd107⟩ : ∃ q, q = F_X3_nextByte bs n (StC S o0)  := ⟨_, rfl⟩
  have hq108 := (congrArg (fun q => F_X3_nextByte bs n q ) (stC_mk (sC_193 (T := S) (o := o0) rfl) (sC_194 (T := S) (o := o0) rfl) (sC_195 (T := S) (o := o0) rfl) (sC_196 (T := S) (o := o0) rfl) (sC_197 (T := S) (o := o0) rfl) (sC_198 (T := S) (o := o0) rfl) (sC_199 (T := S) (o := o0) rfl) (sC_200 (T := S) (o := o0) rfl) (sC_201 (T := S) (o := o0) rfl) (sC_202 (T := S) (o := o0) rfl) (sC_203 (T := S) (o := o0) rfl) (sC_204 (T := S) (o := o0) rfl) (sC_205 (T := S) (o := o0) rfl))).trans hd107.symm
  have hs109 := hx105.2.trans (congrArg Prod.fst hq108)
  obtain rfl : x110 = d106.2 := (xiC_v hx105).trans (congrArg Prod.snd hq108)
  refine tt_istore_n (ks := [0, 1]) (L' := [(1, .int d106.2), (0, .ref o0)]) dX3_readPlace_4 (by decide) rfl ?_
  refine tt_aload_n (j := 1) dX3_readPlace_5 rfl ?_
  refine gt_gI (id := 194) (v := (e1 d106.1)) dX3_readPlace_6 fl_3_19 rfl rfl h0 hA104 (sC_194 hs109) ?_
  refine tt_iconst (v := 1) dX3_readPlace_9 rfl ?_
  refine tt_iand dX3_readPlace_10 ?_
  refine tt_if_eq (tgt := 18) dX3_readPlace_11 rfl (fun q112 => ?_) (fun q112 => ?_)
  · skip
    have h113 : Rg 0 0 ((e1 d106.1) &&& 1) := rg_eq_l (rg_and (x := (e1 d106.1)) (⟨by decide, by decide⟩ : Rg 1 1 1)) (⟨by decide, by decide⟩ : Rg 0 0 0) q112
    refine tt_iconst (v := 0) dX3_readPlace_18 rfl ?_
    refine tt_istore_n (ks := [0, 1, 2]) (L' := [(2, .int 0), (1, .int d106.2), (0, .ref o0)]) dX3_readPlace_19 (by decide) rfl ?_
    refine tt_iload_n (j := 1) dX3_readPlace_20 rfl ?_
    refine tt_bipush (v := 7) dX3_readPlace_21 rfl ?_
    refine tt_iand dX3_readPlace_23 ?_
    refine tt_istore_n (ks := [0, 1, 2, 3]) (L' := [(3, .int (d106.2 &&& 7)), (2, .int 0), (1, .int d106.2), (0, .ref o0)]) dX3_readPlace_24 (by decide) rfl ?_
    refine tt_aload_n (j := 3) dX3_readPlace_25 rfl ?_
    refine tt_iload_n (j := 2) dX3_readPlace_26 rfl ?_
    refine tt_iconst (v := 3) dX3_readPlace_27 rfl ?_
    refine tt_ishr dX3_readPlace_28 ?_
    refine tt_bipush (v := 7) dX3_readPlace_29 rfl ?_
    refine tt_iand dX3_readPlace_31 ?_
    refine gt_pI (id := 197) (x := ((d106.2 >>> (3 &&& 31)) &&& 7)) dX3_readPlace_32 fl_3_104 rfl rfl h0 hA104 rfl rfl rfl (gp_I hG102) (by decide) (fun h => absurd h (by decide)) (fun h => absurd h (by decide)) (fun S114 hG115 hA116 e117 f118 er119 => ?_)
    refine tt_aload_n (j := 3) dX3_readPlace_35 rfl ?_
    refine tt_aload_n (j := 3) dX3_readPlace_36 rfl ?_
    refine gt_gI (id := 194) (v := (e1 d106.1)) dX3_readPlace_37 fl_3_19 rfl rfl h0 hA116 ((congrFun (congrFun e117 194) o0).trans ((congrFun (up2_ne (k := 194)) o0).trans (sC_194 hs109))) ?_
    refine tt_iconst (v := 4) dX3_readPlace_40 rfl ?_
    refine tt_iand dX3_readPlace_41 ?_
    refine tt_if_eq (tgt := 55) dX3_readPlace_42 rfl (fun q120 => ?_) (fun q120 => ?_)
    · skip
      have h121 : Rg 0 0 ((e1 d106.1) &&& 4) := rg_eq_l (rg_and (x := (e1 d106.1)) (⟨by decide, by decide⟩ : Rg 4 4 4)) (⟨by decide, by decide⟩ : Rg 0 0 0) q120
      refine tt_aload_n (j := 3) dX3_readPlace_55 rfl ?_
      refine gt_gI (id := 197) (v := ((d106.2 >>> (3 &&& 31)) &&& 7)) dX3_readPlace_56 fl_3_104 rfl rfl h0 hA116 (by rw [e117]; exact up2_self) ?_
      refine gt_pI (id := 196) (x := ((d106.2 >>> (3 &&& 31)) &&& 7)) dX3_readPlace_59 fl_3_101 rfl rfl h0 hA116 rfl rfl rfl (gp_I hG115) (by decide) (fun h => absurd h (by decide)) (fun h => absurd h (by decide)) (fun S122 hG123 hA124 e125 f126 er127 => ?_)
      refine tt_aload_n (j := 3) dX3_readPlace_62 rfl ?_
      refine tt_iload_n (j := 1) dX3_readPlace_63 rfl ?_
      refine tt_if_eq (tgt := 74) dX3_readPlace_64 rfl (fun _ => ?_) (fun q => absurd q (by decide))
      refine tt_iload_n (j := 0) dX3_readPlace_74 rfl ?_
      refine gt_pI (id := 198) (x := (d106.2 &&& 7)) dX3_readPlace_75 fl_3_98 rfl rfl h0 hA124 rfl rfl rfl (gp_I hG123) (by decide) (fun h => absurd h (by decide)) (fun h => absurd h (by decide)) (fun S128 hG129 hA130 e131 f132 er133 => ?_)
      have hF : F_X3_readPlace bs n (StC S o0)  = F_X3_readPlace_p78 bs n ((e0 d106.1), (e1 d106.1), (e2 d106.1), ((d106.2 >>> (3 &&& 31)) &&& 7), ((d106.2 >>> (3 &&& 31)) &&& 7), (d106.2 &&& 7), (e6 d106.1), (e7 d106.1), (e8 d106.1), (e9 d106.1), (e10 d106.1), (e11 d106.1), (eJ d106.1)) (d106.2) (0) ((d106.2 &&& 7)) := by
        subst hd107
        unfold F_X3_readPlace
        dsimp only
        rw [if_pos q112, if_pos q120]
      exact tt_loc (ks := [3, 2, 1, 0]) rfl (ce_X3_readPlace_p78 hG129 (oa_af h0 hA130) (bc_af hb h0 hA130) (fun r T x y h => hP r T x y (pv_tr hA130 h (by decide) (fun v T e => e.trans ((congrArg (fun q => F_X3_readPlace_p78 bs n q (d106.2) (0) ((d106.2 &&& 7))) (stC_mk ((congrFun (congrFun e131 193) o0).trans ((congrFun (up2_ne (k := 193)) o0).trans ((congrFun (congrFun e125 193) o0).trans ((congrFun (up2_ne (k := 193)) o0).trans ((congrFun (congrFun e117 193) o0).trans ((congrFun (up2_ne (k := 193)) o0).trans (sC_193 hs109))))))) ((congrFun (congrFun e131 194) o0).trans ((congrFun (up2_ne (k := 194)) o0).trans ((congrFun (congrFun e125 194) o0).trans ((congrFun (up2_ne (k := 194)) o0).trans ((congrFun (congrFun e117 194) o0).trans ((congrFun (up2_ne (k := 194)) o0).trans (sC_194 hs109))))))) ((congrFun (congrFun e131 195) o0).trans ((congrFun (up2_ne (k := 195)) o0).trans ((congrFun (congrFun e125 195) o0).trans ((congrFun (up2_ne (k := 195)) o0).trans ((congrFun (congrFun e117 195) o0).trans ((congrFun (up2_ne (k := 195)) o0).trans (sC_195 hs109))))))) ((congrFun (congrFun e131 196) o0).trans ((congrFun (up2_ne (k := 196)) o0).trans (by rw [e125]; exact up2_self))) ((congrFun (congrFun e131 197) o0).trans ((congrFun (up2_ne (k := 197)) o0).trans ((congrFun (congrFun e125 197) o0).trans ((congrFun (up2_ne (k := 197)) o0).trans (by rw [e117]; exact up2_self))))) (by rw [e131]; exact up2_self) ((congrFun (congrFun e131 199) o0).trans ((congrFun (up2_ne (k := 199)) o0).trans ((congrFun (congrFun e125 199) o0).trans ((congrFun (up2_ne (k := 199)) o0).trans ((congrFun (congrFun e117 199) o0).trans ((congrFun (up2_ne (k := 199)) o0).trans (sC_199 hs109))))))) ((congrFun (congrFun e131 200) o0).trans ((congrFun (up2_ne (k := 200)) o0).trans ((congrFun (congrFun e125 200) o0).trans ((congrFun (up2_ne (k := 200)) o0).trans ((congrFun (congrFun e117 200) o0).trans ((congrFun (up2_ne (k := 200)) o0).trans (sC_200 hs109))))))) ((congrFun (congrFun e131 201) o0).trans ((congrFun (up2_ne (k := 201)) o0).trans ((congrFun (congrFun e125 201) o0).trans ((congrFun (up2_ne (k := 201)) o0).trans ((congrFun (congrFun e117 201) o0).trans ((congrFun (up2_ne (k := 201)) o0).trans (sC_201 hs109))))))) ((congrFun (congrFun e131 202) o0).trans ((congrFun (up2_ne (k := 202)) o0).trans ((congrFun (congrFun e125 202) o0).trans ((congrFun (up2_ne (k := 202)) o0).trans ((congrFun (congrFun e117 202) o0).trans ((congrFun (up2_ne (k := 202)) o0).trans (sC_202 hs109))))))) ((congrFun (congrFun e131 203) o0).trans ((congrFun (up2_ne (k := 203)) o0).trans ((congrFun (congrFun e125 203) o0).trans ((congrFun (up2_ne (k := 203)) o0).trans ((congrFun (congrFun e117 203) o0).trans ((congrFun (up2_ne (k := 203)) o0).trans (sC_203 hs109))))))) ((congrFun (congrFun e131 204) o0).trans ((congrFun (up2_ne (k := 204)) o0).trans ((congrFun (congrFun e125 204) o0).trans ((congrFun (up2_ne (k := 204)) o0).trans ((congrFun (congrFun e117 204) o0).trans ((congrFun (up2_ne (k := 204)) o0).trans (sC_204 hs109))))))) ((congrFun (congrFun f132 205) o0).trans ((congrFun (congrFun f126 205) o0).trans ((congrFun (congrFun f118 205) o0).trans (sC_205 hs109)))))).trans hF.symm)))))
    · skip
      have h134 : Rg 1 4 ((e1 d106.1) &&& 4) := rg_ne_lo (rg_and (x := (e1 d106.1)) (⟨by decide, by decide⟩ : Rg 4 4 4)) (⟨by decide, by decide⟩ : Rg 0 0 0) q120
      refine tt_aload_n (j := 3) dX3_readPlace_45 rfl ?_
      refine gt_gI (id := 197) (v := ((d106.2 >>> (3 &&& 31)) &&& 7)) dX3_readPlace_46 fl_3_104 rfl rfl h0 hA116 (by rw [e117]; exact up2_self) ?_
      refine tt_bipush (v := 8) dX3_readPlace_49 rfl ?_
      refine tt_iadd dX3_readPlace_51 ?_
      refine tt_goto (tgt := 59) dX3_readPlace_52 rfl ?_
      refine gt_pI (id := 196) (x := (((d106.2 >>> (3 &&& 31)) &&& 7) + 8)) dX3_readPlace_59 fl_3_101 rfl rfl h0 hA116 rfl rfl rfl (gp_I hG115) (by decide) (fun h => absurd h (by decide)) (fun h => absurd h (by decide)) (fun S135 hG136 hA137 e138 f139 er140 => ?_)
      refine tt_aload_n (j := 3) dX3_readPlace_62 rfl ?_
      refine tt_iload_n (j := 1) dX3_readPlace_63 rfl ?_
      refine tt_if_eq (tgt := 74) dX3_readPlace_64 rfl (fun _ => ?_) (fun q => absurd q (by decide))
      refine tt_iload_n (j := 0) dX3_readPlace_74 rfl ?_
      refine gt_pI (id := 198) (x := (d106.2 &&& 7)) dX3_readPlace_75 fl_3_98 rfl rfl h0 hA137 rfl rfl rfl (gp_I hG136) (by decide) (fun h => absurd h (by decide)) (fun h => absurd h (by decide)) (fun S141 hG142 hA143 e144 f145 er146 => ?_)
      have hF : F_X3_readPlace bs n (StC S o0)  = F_X3_readPlace_p78 bs n ((e0 d106.1), (e1 d106.1), (e2 d106.1), (((d106.2 >>> (3 &&& 31)) &&& 7) + 8), ((d106.2 >>> (3 &&& 31)) &&& 7), (d106.2 &&& 7), (e6 d106.1), (e7 d106.1), (e8 d106.1), (e9 d106.1), (e10 d106.1), (e11 d106.1), (eJ d106.1)) (d106.2) (0) ((d106.2 &&& 7)) := by
        subst hd107
        unfold F_X3_readPlace
        dsimp only
        rw [if_pos q112, if_neg q120]
      exact tt_loc (ks := [3, 2, 1, 0]) rfl (ce_X3_readPlace_p78 hG142 (oa_af h0 hA143) (bc_af hb h0 hA143) (fun r T x y h => hP r T x y (pv_tr hA143 h (by decide) (fun v T e => e.trans ((congrArg (fun q => F_X3_readPlace_p78 bs n q (d106.2) (0) ((d106.2 &&& 7))) (stC_mk ((congrFun (congrFun e144 193) o0).trans ((congrFun (up2_ne (k := 193)) o0).trans ((congrFun (congrFun e138 193) o0).trans ((congrFun (up2_ne (k := 193)) o0).trans ((congrFun (congrFun e117 193) o0).trans ((congrFun (up2_ne (k := 193)) o0).trans (sC_193 hs109))))))) ((congrFun (congrFun e144 194) o0).trans ((congrFun (up2_ne (k := 194)) o0).trans ((congrFun (congrFun e138 194) o0).trans ((congrFun (up2_ne (k := 194)) o0).trans ((congrFun (congrFun e117 194) o0).trans ((congrFun (up2_ne (k := 194)) o0).trans (sC_194 hs109))))))) ((congrFun (congrFun e144 195) o0).trans ((congrFun (up2_ne (k := 195)) o0).trans ((congrFun (congrFun e138 195) o0).trans ((congrFun (up2_ne (k := 195)) o0).trans ((congrFun (congrFun e117 195) o0).trans ((congrFun (up2_ne (k := 195)) o0).trans (sC_195 hs109))))))) ((congrFun (congrFun e144 196) o0).trans ((congrFun (up2_ne (k := 196)) o0).trans (by rw [e138]; exact up2_self))) ((congrFun (congrFun e144 197) o0).trans ((congrFun (up2_ne (k := 197)) o0).trans ((congrFun (congrFun e138 197) o0).trans ((congrFun (up2_ne (k := 197)) o0).trans (by rw [e117]; exact up2_self))))) (by rw [e144]; exact up2_self) ((congrFun (congrFun e144 199) o0).trans ((congrFun (up2_ne (k := 199)) o0).trans ((congrFun (congrFun e138 199) o0).trans ((congrFun (up2_ne (k := 199)) o0).trans ((congrFun (congrFun e117 199) o0).trans ((congrFun (up2_ne (k := 199)) o0).trans (sC_199 hs109))))))) ((congrFun (congrFun e144 200) o0).trans ((congrFun (up2_ne (k := 200)) o0).trans ((congrFun (congrFun e138 200) o0).trans ((congrFun (up2_ne (k := 200)) o0).trans ((congrFun (congrFun e117 200) o0).trans ((congrFun (up2_ne (k := 200)) o0).trans (sC_200 hs109))))))) ((congrFun (congrFun e144 201) o0).trans ((congrFun (up2_ne (k := 201)) o0).trans ((congrFun (congrFun e138 201) o0).trans ((congrFun (up2_ne (k := 201)) o0).trans ((congrFun (congrFun e117 201) o0).trans ((congrFun (up2_ne (k := 201)) o0).trans (sC_201 hs109))))))) ((congrFun (congrFun e144 202) o0).trans ((congrFun (up2_ne (k := 202)) o0).trans ((congrFun (congrFun e138 202) o0).trans ((congrFun (up2_ne (k := 202)) o0).trans ((congrFun (congrFun e117 202) o0).trans ((congrFun (up2_ne (k := 202)) o0).trans (sC_202 hs109))))))) ((congrFun (congrFun e144 203) o0).trans ((congrFun (up2_ne (k := 203)) o0).trans ((congrFun (congrFun e138 203) o0).trans ((congrFun (up2_ne (k := 203)) o0).trans ((congrFun (congrFun e117 203) o0).trans ((congrFun (up2_ne (k := 203)) o0).trans (sC_203 hs109))))))) ((congrFun (congrFun e144 204) o0).trans ((congrFun (up2_ne (k := 204)) o0).trans ((congrFun (congrFun e138 204) o0).trans ((congrFun (up2_ne (k := 204)) o0).trans ((congrFun (congrFun e117 204) o0).trans ((congrFun (up2_ne (k := 204)) o0).trans (sC_204 hs109))))))) ((congrFun (congrFun f145 205) o0).trans ((congrFun (congrFun f139 205) o0).trans ((congrFun (congrFun f118 205) o0).trans (sC_205 hs109)))))).trans hF.symm)))))
  · skip
    have h147 : Rg 1 1 ((e1 d106.1) &&& 1) := rg_ne_lo (rg_and (x := (e1 d106.1)) (⟨by decide, by decide⟩ : Rg 1 1 1)) (⟨by decide, by decide⟩ : Rg 0 0 0) q112
    refine tt_iconst (v := 1) dX3_readPlace_14 rfl ?_
    refine tt_goto (tgt := 19) dX3_readPlace_15 rfl ?_
    refine tt_istore_n (ks := [0, 1, 2]) (L' := [(2, .int 1), (1, .int d106.2), (0, .ref o0)]) dX3_readPlace_19 (by decide) rfl ?_
    refine tt_iload_n (j := 1) dX3_readPlace_20 rfl ?_
    refine tt_bipush (v := 7) dX3_readPlace_21 rfl ?_
    refine tt_iand dX3_readPlace_23 ?_
    refine tt_istore_n (ks := [0, 1, 2, 3]) (L' := [(3, .int (d106.2 &&& 7)), (2, .int 1), (1, .int d106.2), (0, .ref o0)]) dX3_readPlace_24 (by decide) rfl ?_
    refine tt_aload_n (j := 3) dX3_readPlace_25 rfl ?_
    refine tt_iload_n (j := 2) dX3_readPlace_26 rfl ?_
    refine tt_iconst (v := 3) dX3_readPlace_27 rfl ?_
    refine tt_ishr dX3_readPlace_28 ?_
    refine tt_bipush (v := 7) dX3_readPlace_29 rfl ?_
    refine tt_iand dX3_readPlace_31 ?_
    refine gt_pI (id := 197) (x := ((d106.2 >>> (3 &&& 31)) &&& 7)) dX3_readPlace_32 fl_3_104 rfl rfl h0 hA104 rfl rfl rfl (gp_I hG102) (by decide) (fun h => absurd h (by decide)) (fun h => absurd h (by decide)) (fun S148 hG149 hA150 e151 f152 er153 => ?_)
    refine tt_aload_n (j := 3) dX3_readPlace_35 rfl ?_
    refine tt_aload_n (j := 3) dX3_readPlace_36 rfl ?_
    refine gt_gI (id := 194) (v := (e1 d106.1)) dX3_readPlace_37 fl_3_19 rfl rfl h0 hA150 ((congrFun (congrFun e151 194) o0).trans ((congrFun (up2_ne (k := 194)) o0).trans (sC_194 hs109))) ?_
    refine tt_iconst (v := 4) dX3_readPlace_40 rfl ?_
    refine tt_iand dX3_readPlace_41 ?_
    refine tt_if_eq (tgt := 55) dX3_readPlace_42 rfl (fun q154 => ?_) (fun q154 => ?_)
    · skip
      have h155 : Rg 0 0 ((e1 d106.1) &&& 4) := rg_eq_l (rg_and (x := (e1 d106.1)) (⟨by decide, by decide⟩ : Rg 4 4 4)) (⟨by decide, by decide⟩ : Rg 0 0 0) q154
      refine tt_aload_n (j := 3) dX3_readPlace_55 rfl ?_
      refine gt_gI (id := 197) (v := ((d106.2 >>> (3 &&& 31)) &&& 7)) dX3_readPlace_56 fl_3_104 rfl rfl h0 hA150 (by rw [e151]; exact up2_self) ?_
      refine gt_pI (id := 196) (x := ((d106.2 >>> (3 &&& 31)) &&& 7)) dX3_readPlace_59 fl_3_101 rfl rfl h0 hA150 rfl rfl rfl (gp_I hG149) (by decide) (fun h => absurd h (by decide)) (fun h => absurd h (by decide)) (fun S156 hG157 hA158 e159 f160 er161 => ?_)
      refine tt_aload_n (j := 3) dX3_readPlace_62 rfl ?_
      refine tt_iload_n (j := 1) dX3_readPlace_63 rfl ?_
      refine tt_if_eq (tgt := 74) dX3_readPlace_64 rfl (fun q => absurd q (by decide)) (fun _ => ?_)
      refine tt_iload_n (j := 0) dX3_readPlace_67 rfl ?_
      refine tt_bipush (v := 8) dX3_readPlace_68 rfl ?_
      refine tt_iadd dX3_readPlace_70 ?_
      refine tt_goto (tgt := 75) dX3_readPlace_71 rfl ?_
      refine gt_pI (id := 198) (x := ((d106.2 &&& 7) + 8)) dX3_readPlace_75 fl_3_98 rfl rfl h0 hA158 rfl rfl rfl (gp_I hG157) (by decide) (fun h => absurd h (by decide)) (fun h => absurd h (by decide)) (fun S162 hG163 hA164 e165 f166 er167 => ?_)
      have hF : F_X3_readPlace bs n (StC S o0)  = F_X3_readPlace_p78 bs n ((e0 d106.1), (e1 d106.1), (e2 d106.1), ((d106.2 >>> (3 &&& 31)) &&& 7), ((d106.2 >>> (3 &&& 31)) &&& 7), ((d106.2 &&& 7) + 8), (e6 d106.1), (e7 d106.1), (e8 d106.1), (e9 d106.1), (e10 d106.1), (e11 d106.1), (eJ d106.1)) (d106.2) (1) ((d106.2 &&& 7)) := by
        subst hd107
        unfold F_X3_readPlace
        dsimp only
        rw [if_neg q112, if_pos q154]
      exact tt_loc (ks := [3, 2, 1, 0]) rfl (ce_X3_readPlace_p78 hG163 (oa_af h0 hA164) (bc_af hb h0 hA164) (fun r T x y h => hP r T x y (pv_tr hA164 h (by decide) (fun v T e => e.trans ((congrArg (fun q => F_X3_readPlace_p78 bs n q (d106.2) (1) ((d106.2 &&& 7))) (stC_mk ((congrFun (congrFun e165 193) o0).trans ((congrFun (up2_ne (k := 193)) o0).trans ((congrFun (congrFun e159 193) o0).trans ((congrFun (up2_ne (k := 193)) o0).trans ((congrFun (congrFun e151 193) o0).trans ((congrFun (up2_ne (k := 193)) o0).trans (sC_193 hs109))))))) ((congrFun (congrFun e165 194) o0).trans ((congrFun (up2_ne (k := 194)) o0).trans ((congrFun (congrFun e159 194) o0).trans ((congrFun (up2_ne (k := 194)) o0).trans ((congrFun (congrFun e151 194) o0).trans ((congrFun (up2_ne (k := 194)) o0).trans (sC_194 hs109))))))) ((congrFun (congrFun e165 195) o0).trans ((congrFun (up2_ne (k := 195)) o0).trans ((congrFun (congrFun e159 195) o0).trans ((congrFun (up2_ne (k := 195)) o0).trans ((congrFun (congrFun e151 195) o0).trans ((congrFun (up2_ne (k := 195)) o0).trans (sC_195 hs109))))))) ((congrFun (congrFun e165 196) o0).trans ((congrFun (up2_ne (k := 196)) o0).trans (by rw [e159]; exact up2_self))) ((congrFun (congrFun e165 197) o0).trans ((congrFun (up2_ne (k := 197)) o0).trans ((congrFun (congrFun e159 197) o0).trans ((congrFun (up2_ne (k := 197)) o0).trans (by rw [e151]; exact up2_self))))) (by rw [e165]; exact up2_self) ((congrFun (congrFun e165 199) o0).trans ((congrFun (up2_ne (k := 199)) o0).trans ((congrFun (congrFun e159 199) o0).trans ((congrFun (up2_ne (k := 199)) o0).trans ((congrFun (congrFun e151 199) o0).trans ((congrFun (up2_ne (k := 199)) o0).trans (sC_199 hs109))))))) ((congrFun (congrFun e165 200) o0).trans ((congrFun (up2_ne (k := 200)) o0).trans ((congrFun (congrFun e159 200) o0).trans ((congrFun (up2_ne (k := 200)) o0).trans ((congrFun (congrFun e151 200) o0).trans ((congrFun (up2_ne (k := 200)) o0).trans (sC_200 hs109))))))) ((congrFun (congrFun e165 201) o0).trans ((congrFun (up2_ne (k := 201)) o0).trans ((congrFun (congrFun e159 201) o0).trans ((congrFun (up2_ne (k := 201)) o0).trans ((congrFun (congrFun e151 201) o0).trans ((congrFun (up2_ne (k := 201)) o0).trans (sC_201 hs109))))))) ((congrFun (congrFun e165 202) o0).trans ((congrFun (up2_ne (k := 202)) o0).trans ((congrFun (congrFun e159 202) o0).trans ((congrFun (up2_ne (k := 202)) o0).trans ((congrFun (congrFun e151 202) o0).trans ((congrFun (up2_ne (k := 202)) o0).trans (sC_202 hs109))))))) ((congrFun (congrFun e165 203) o0).trans ((congrFun (up2_ne (k := 203)) o0).trans ((congrFun (congrFun e159 203) o0).trans ((congrFun (up2_ne (k := 203)) o0).trans ((congrFun (congrFun e151 203) o0).trans ((congrFun (up2_ne (k := 203)) o0).trans (sC_203 hs109))))))) ((congrFun (congrFun e165 204) o0).trans ((congrFun (up2_ne (k := 204)) o0).trans ((congrFun (congrFun e159 204) o0).trans ((congrFun (up2_ne (k := 204)) o0).trans ((congrFun (congrFun e151 204) o0).trans ((congrFun (up2_ne (k := 204)) o0).trans (sC_204 hs109))))))) ((congrFun (congrFun f166 205) o0).trans ((congrFun (congrFun f160 205) o0).trans ((congrFun (congrFun f152 205) o0).trans (sC_205 hs109)))))).trans hF.symm)))))
    · skip
      have h168 : Rg 1 4 ((e1 d106.1) &&& 4) := rg_ne_lo (rg_and (x := (e1 d106.1)) (⟨by decide, by decide⟩ : Rg 4 4 4)) (⟨by decide, by decide⟩ : Rg 0 0 0) q154
      refine tt_aload_n (j := 3) dX3_readPlace_45 rfl ?_
      refine gt_gI (id := 197) (v := ((d106.2 >>> (3 &&& 31)) &&& 7)) dX3_readPlace_46 fl_3_104 rfl rfl h0 hA150 (by rw [e151]; exact up2_self) ?_
      refine tt_bipush (v := 8) dX3_readPlace_49 rfl ?_
      refine tt_iadd dX3_readPlace_51 ?_
      refine tt_goto (tgt := 59) dX3_readPlace_52 rfl ?_
      refine gt_pI (id := 196) (x := (((d106.2 >>> (3 &&& 31)) &&& 7) + 8)) dX3_readPlace_59 fl_3_101 rfl rfl h0 hA150 rfl rfl rfl (gp_I hG149) (by decide) (fun h => absurd h (by decide)) (fun h => absurd h (by decide)) (fun S169 hG170 hA171 e172 f173 er174 => ?_)
      refine tt_aload_n (j := 3) dX3_readPlace_62 rfl ?_
      refine tt_iload_n (j := 1) dX3_readPlace_63 rfl ?_
      refine tt_if_eq (tgt := 74) dX3_readPlace_64 rfl (fun q => absurd q (by decide)) (fun _ => ?_)
      refine tt_iload_n (j := 0) dX3_readPlace_67 rfl ?_
      refine tt_bipush (v := 8) dX3_readPlace_68 rfl ?_
      refine tt_iadd dX3_readPlace_70 ?_
      refine tt_goto (tgt := 75) dX3_readPlace_71 rfl ?_
      refine gt_pI (id := 198) (x := ((d106.2 &&& 7) + 8)) dX3_readPlace_75 fl_3_98 rfl rfl h0 hA171 rfl rfl rfl (gp_I hG170) (by decide) (fun h => absurd h (by decide)) (fun h => absurd h (by decide)) (fun S175 hG176 hA177 e178 f179 er180 => ?_)
      have hF : F_X3_readPlace bs n (StC S o0)  = F_X3_readPlace_p78 bs n ((e0 d106.1), (e1 d106.1), (e2 d106.1), (((d106.2 >>> (3 &&& 31)) &&& 7) + 8), ((d106.2 >>> (3 &&& 31)) &&& 7), ((d106.2 &&& 7) + 8), (e6 d106.1), (e7 d106.1), (e8 d106.1), (e9 d106.1), (e10 d106.1), (e11 d106.1), (eJ d106.1)) (d106.2) (1) ((d106.2 &&& 7)) := by
        subst hd107
        unfold F_X3_readPlace
        dsimp only
        rw [if_neg q112, if_neg q154]
      exact tt_loc (ks := [3, 2, 1, 0]) rfl (ce_X3_readPlace_p78 hG176 (oa_af h0 hA177) (bc_af hb h0 hA177) (fun r T x y h => hP r T x y (pv_tr hA177 h (by decide) (fun v T e => e.trans ((congrArg (fun q => F_X3_readPlace_p78 bs n q (d106.2) (1) ((d106.2 &&& 7))) (stC_mk ((congrFun (congrFun e178 193) o0).trans ((congrFun (up2_ne (k := 193)) o0).trans ((congrFun (congrFun e172 193) o0).trans ((congrFun (up2_ne (k := 193)) o0).trans ((congrFun (congrFun e151 193) o0).trans ((congrFun (up2_ne (k := 193)) o0).trans (sC_193 hs109))))))) ((congrFun (congrFun e178 194) o0).trans ((congrFun (up2_ne (k := 194)) o0).trans ((congrFun (congrFun e172 194) o0).trans ((congrFun (up2_ne (k := 194)) o0).trans ((congrFun (congrFun e151 194) o0).trans ((congrFun (up2_ne (k := 194)) o0).trans (sC_194 hs109))))))) ((congrFun (congrFun e178 195) o0).trans ((congrFun (up2_ne (k := 195)) o0).trans ((congrFun (congrFun e172 195) o0).trans ((congrFun (up2_ne (k := 195)) o0).trans ((congrFun (congrFun e151 195) o0).trans ((congrFun (up2_ne (k := 195)) o0).trans (sC_195 hs109))))))) ((congrFun (congrFun e178 196) o0).trans ((congrFun (up2_ne (k := 196)) o0).trans (by rw [e172]; exact up2_self))) ((congrFun (congrFun e178 197) o0).trans ((congrFun (up2_ne (k := 197)) o0).trans ((congrFun (congrFun e172 197) o0).trans ((congrFun (up2_ne (k := 197)) o0).trans (by rw [e151]; exact up2_self))))) (by rw [e178]; exact up2_self) ((congrFun (congrFun e178 199) o0).trans ((congrFun (up2_ne (k := 199)) o0).trans ((congrFun (congrFun e172 199) o0).trans ((congrFun (up2_ne (k := 199)) o0).trans ((congrFun (congrFun e151 199) o0).trans ((congrFun (up2_ne (k := 199)) o0).trans (sC_199 hs109))))))) ((congrFun (congrFun e178 200) o0).trans ((congrFun (up2_ne (k := 200)) o0).trans ((congrFun (congrFun e172 200) o0).trans ((congrFun (up2_ne (k := 200)) o0).trans ((congrFun (congrFun e151 200) o0).trans ((congrFun (up2_ne (k := 200)) o0).trans (sC_200 hs109))))))) ((congrFun (congrFun e178 201) o0).trans ((congrFun (up2_ne (k := 201)) o0).trans ((congrFun (congrFun e172 201) o0).trans ((congrFun (up2_ne (k := 201)) o0).trans ((congrFun (congrFun e151 201) o0).trans ((congrFun (up2_ne (k := 201)) o0).trans (sC_201 hs109))))))) ((congrFun (congrFun e178 202) o0).trans ((congrFun (up2_ne (k := 202)) o0).trans ((congrFun (congrFun e172 202) o0).trans ((congrFun (up2_ne (k := 202)) o0).trans ((congrFun (congrFun e151 202) o0).trans ((congrFun (up2_ne (k := 202)) o0).trans (sC_202 hs109))))))) ((congrFun (congrFun e178 203) o0).trans ((congrFun (up2_ne (k := 203)) o0).trans ((congrFun (congrFun e172 203) o0).trans ((congrFun (up2_ne (k := 203)) o0).trans ((congrFun (congrFun e151 203) o0).trans ((congrFun (up2_ne (k := 203)) o0).trans (sC_203 hs109))))))) ((congrFun (congrFun e178 204) o0).trans ((congrFun (up2_ne (k := 204)) o0).trans ((congrFun (congrFun e172 204) o0).trans ((congrFun (up2_ne (k := 204)) o0).trans ((congrFun (congrFun e151 204) o0).trans ((congrFun (up2_ne (k := 204)) o0).trans (sC_204 hs109))))))) ((congrFun (congrFun f179 205) o0).trans ((congrFun (congrFun f173 205) o0).trans ((congrFun (congrFun f152 205) o0).trans (sC_205 hs109)))))).trans hF.symm)))))
def F_X3_readPair (bs : Nat → Int32) (n : Int32) (d : DD) (x1 : Int32) (x2 : Int32) : DD :=
  let d106 := F_X3_readPlace bs n d 
  if x2 = 0 then
    ((e0 d106), (e1 d106), (e2 d106), (e3 d106), (e4 d106), (e5 d106), (e6 d106), x1, (e8 d106), (e3 d106), (e5 d106), (e11 d106), (eJ d106))
  else
    ((e0 d106), (e1 d106), (e2 d106), (e3 d106), (e4 d106), (e5 d106), (e6 d106), x1, (e8 d106), (e5 d106), (e3 d106), (e11 d106), (eJ d106))
set_option maxHeartbeats 2000000 in
theorem ce_X3_readPair {xi : SX} {S : Hp} {E : List Nat} {kc nc : Nat} {P : Po} {o0 : Nat} {x1 : Int32} {x2 : Int32} {bs : Nat → Int32} {n : Int32} (hG : GI S E) (h0 : Oa S E 3 0 o0) (h2 : Rg 0 1 x2) (hb : BC S E o0 bs n) (hP : ∀ r T x y, PV E [193, 195, 196, 197, 198, 200, 202, 203] S kc nc rV (fun v T => StC T o0 = F_X3_readPair bs n (StC S o0) x1 x2) [] r T x y → P r T x y) : TT xi M_X3_readPair 0 [(0, .ref o0), (1, .int x1), (2, .int x2)] [] S kc nc P := by
  have hA : Af E [193, 195, 196, 197, 198, 200, 202, 203] S S := af_rf
  refine tt_aload_n (j := 0) dX3_readPair_0 rfl ?_
  refine gt_Vv (As := []) dX3_readPair_1 ca_X3_95 ⟨by decide, by decide⟩ h0 hA rfl (Nat.le_of_ble_eq_true rfl) (Nat.le_of_ble_eq_true rfl) (by decide) (ce_X3_readPlace hG (oa_af h0 hA) (bc_af hb h0 hA) (fun _ _ _ _ h => h)) rfl (fun _ h => nomatch h) (fun S101 hx105 hG102 hB103 hA104 => ?_)
  obtain ⟨d106, hd107⟩ : ∃ q, q = F_X3_readPlace bs n (StC S o0)  := ⟨_, rfl⟩
  have hq108 := (congrArg (fun q => F_X3_readPlace bs n q ) (stC_mk (sC_193 (T := S) (o := o0) rfl) (sC_194 (T := S) (o := o0) rfl) (sC_195 (T := S) (o := o0) rfl) (sC_196 (T := S) (o := o0) rfl) (sC_197 (T := S) (o := o0) rfl) (sC_198 (T := S) (o := o0) rfl) (sC_199 (T := S) (o := o0) rfl) (sC_200 (T := S) (o := o0) rfl) (sC_201 (T := S) (o := o0) rfl) (sC_202 (T := S) (o := o0) rfl) (sC_203 (T := S) (o := o0) rfl) (sC_204 (T := S) (o := o0) rfl) (sC_205 (T := S) (o := o0) rfl))).trans hd107.symm
  have hs109 := hx105.trans hq108
  refine tt_aload_n (j := 0) dX3_readPair_4 rfl ?_
  refine tt_iload_n (j := 1) dX3_readPair_5 rfl ?_
  refine gt_pI (id := 200) (x := x1) dX3_readPair_6 fl_3_54 rfl rfl h0 hA104 rfl rfl rfl (gp_I hG102) (by decide) (fun h => absurd h (by decide)) (fun h => absurd h (by decide)) (fun S110 hG111 hA112 e113 f114 er115 => ?_)
  refine tt_aload_n (j := 0) dX3_readPair_9 rfl ?_
  refine tt_iload_n (j := 2) dX3_readPair_10 rfl ?_
  refine tt_if_eq (tgt := 21) dX3_readPair_11 rfl (fun q116 => ?_) (fun q116 => ?_)
  · skip
    have h117 : Rg 0 0 x2 := rg_eq_l h2 (⟨by decide, by decide⟩ : Rg 0 0 0) q116
    refine tt_aload_n (j := 0) dX3_readPair_21 rfl ?_
    refine gt_gI (id := 196) (v := (e3 d106)) dX3_readPair_22 fl_3_101 rfl rfl h0 hA112 ((congrFun (congrFun e113 196) o0).trans ((congrFun (up2_ne (k := 196)) o0).trans (sC_196 hs109))) ?_
    refine gt_pI (id := 202) (x := (e3 d106)) dX3_readPair_25 fl_3_64 rfl rfl h0 hA112 rfl rfl rfl (gp_I hG111) (by decide) (fun h => absurd h (by decide)) (fun h => absurd h (by decide)) (fun S118 hG119 hA120 e121 f122 er123 => ?_)
    refine tt_aload_n (j := 0) dX3_readPair_28 rfl ?_
    refine tt_iload_n (j := 2) dX3_readPair_29 rfl ?_
    refine tt_if_eq (tgt := 40) dX3_readPair_30 rfl (fun _ => ?_) (fun q => absurd q116 q)
    refine tt_aload_n (j := 0) dX3_readPair_40 rfl ?_
    refine gt_gI (id := 198) (v := (e5 d106)) dX3_readPair_41 fl_3_98 rfl rfl h0 hA120 ((congrFun (congrFun e121 198) o0).trans ((congrFun (up2_ne (k := 198)) o0).trans ((congrFun (congrFun e113 198) o0).trans ((congrFun (up2_ne (k := 198)) o0).trans (sC_198 hs109))))) ?_
    refine gt_pI (id := 203) (x := (e5 d106)) dX3_readPair_44 fl_3_67 rfl rfl h0 hA120 rfl rfl rfl (gp_I hG119) (by decide) (fun h => absurd h (by decide)) (fun h => absurd h (by decide)) (fun S124 hG125 hA126 e127 f128 er129 => ?_)
    have hF : F_X3_readPair bs n (StC S o0) x1 x2 = ((e0 d106), (e1 d106), (e2 d106), (e3 d106), (e4 d106), (e5 d106), (e6 d106), x1, (e8 d106), (e3 d106), (e5 d106), (e11 d106), (eJ d106)) := by
      subst hd107
      unfold F_X3_readPair
      dsimp only
      rw [if_pos q116]
    exact tt_vreturn dX3_readPair_47 rfl (hP _ _ _ _ ⟨hG125, hA126, Or.inl ⟨_, rfl, rfl, Eq.trans (stC_mk ((congrFun (congrFun e127 193) o0).trans ((congrFun (up2_ne (k := 193)) o0).trans ((congrFun (congrFun e121 193) o0).trans ((congrFun (up2_ne (k := 193)) o0).trans ((congrFun (congrFun e113 193) o0).trans ((congrFun (up2_ne (k := 193)) o0).trans (sC_193 hs109))))))) ((congrFun (congrFun e127 194) o0).trans ((congrFun (up2_ne (k := 194)) o0).trans ((congrFun (congrFun e121 194) o0).trans ((congrFun (up2_ne (k := 194)) o0).trans ((congrFun (congrFun e113 194) o0).trans ((congrFun (up2_ne (k := 194)) o0).trans (sC_194 hs109))))))) ((congrFun (congrFun e127 195) o0).trans ((congrFun (up2_ne (k := 195)) o0).trans ((congrFun (congrFun e121 195) o0).trans ((congrFun (up2_ne (k := 195)) o0).trans ((congrFun (congrFun e113 195) o0).trans ((congrFun (up2_ne (k := 195)) o0).trans (sC_195 hs109))))))) ((congrFun (congrFun e127 196) o0).trans ((congrFun (up2_ne (k := 196)) o0).trans ((congrFun (congrFun e121 196) o0).trans ((congrFun (up2_ne (k := 196)) o0).trans ((congrFun (congrFun e113 196) o0).trans ((congrFun (up2_ne (k := 196)) o0).trans (sC_196 hs109))))))) ((congrFun (congrFun e127 197) o0).trans ((congrFun (up2_ne (k := 197)) o0).trans ((congrFun (congrFun e121 197) o0).trans ((congrFun (up2_ne (k := 197)) o0).trans ((congrFun (congrFun e113 197) o0).trans ((congrFun (up2_ne (k := 197)) o0).trans (sC_197 hs109))))))) ((congrFun (congrFun e127 198) o0).trans ((congrFun (up2_ne (k := 198)) o0).trans ((congrFun (congrFun e121 198) o0).trans ((congrFun (up2_ne (k := 198)) o0).trans ((congrFun (congrFun e113 198) o0).trans ((congrFun (up2_ne (k := 198)) o0).trans (sC_198 hs109))))))) ((congrFun (congrFun e127 199) o0).trans ((congrFun (up2_ne (k := 199)) o0).trans ((congrFun (congrFun e121 199) o0).trans ((congrFun (up2_ne (k := 199)) o0).trans ((congrFun (congrFun e113 199) o0).trans ((congrFun (up2_ne (k := 199)) o0).trans (sC_199 hs109))))))) ((congrFun (congrFun e127 200) o0).trans ((congrFun (up2_ne (k := 200)) o0).trans ((congrFun (congrFun e121 200) o0).trans ((congrFun (up2_ne (k := 200)) o0).trans (by rw [e113]; exact up2_self))))) ((congrFun (congrFun e127 201) o0).trans ((congrFun (up2_ne (k := 201)) o0).trans ((congrFun (congrFun e121 201) o0).trans ((congrFun (up2_ne (k := 201)) o0).trans ((congrFun (congrFun e113 201) o0).trans ((congrFun (up2_ne (k := 201)) o0).trans (sC_201 hs109))))))) ((congrFun (congrFun e127 202) o0).trans ((congrFun (up2_ne (k := 202)) o0).trans (by rw [e121]; exact up2_self))) (by rw [e127]; exact up2_self) ((congrFun (congrFun e127 204) o0).trans ((congrFun (up2_ne (k := 204)) o0).trans ((congrFun (congrFun e121 204) o0).trans ((congrFun (up2_ne (k := 204)) o0).trans ((congrFun (congrFun e113 204) o0).trans ((congrFun (up2_ne (k := 204)) o0).trans (sC_204 hs109))))))) ((congrFun (congrFun f128 205) o0).trans ((congrFun (congrFun f122 205) o0).trans ((congrFun (congrFun f114 205) o0).trans (sC_205 hs109))))) hF.symm, rfl, rfl⟩⟩)
  · skip
    have h130 : Rg 1 1 x2 := rg_ne_lo h2 (⟨by decide, by decide⟩ : Rg 0 0 0) q116
    refine tt_aload_n (j := 0) dX3_readPair_14 rfl ?_
    refine gt_gI (id := 198) (v := (e5 d106)) dX3_readPair_15 fl_3_98 rfl rfl h0 hA112 ((congrFun (congrFun e113 198) o0).trans ((congrFun (up2_ne (k := 198)) o0).trans (sC_198 hs109))) ?_
    refine tt_goto (tgt := 25) dX3_readPair_18 rfl ?_
    refine gt_pI (id := 202) (x := (e5 d106)) dX3_readPair_25 fl_3_64 rfl rfl h0 hA112 rfl rfl rfl (gp_I hG111) (by decide) (fun h => absurd h (by decide)) (fun h => absurd h (by decide)) (fun S131 hG132 hA133 e134 f135 er136 => ?_)
    refine tt_aload_n (j := 0) dX3_readPair_28 rfl ?_
    refine tt_iload_n (j := 2) dX3_readPair_29 rfl ?_
    refine tt_if_eq (tgt := 40) dX3_readPair_30 rfl (fun q => absurd q q116) (fun _ => ?_)
    refine tt_aload_n (j := 0) dX3_readPair_33 rfl ?_
    refine gt_gI (id := 196) (v := (e3 d106)) dX3_readPair_34 fl_3_101 rfl rfl h0 hA133 ((congrFun (congrFun e134 196) o0).trans ((congrFun (up2_ne (k := 196)) o0).trans ((congrFun (congrFun e113 196) o0).trans ((congrFun (up2_ne (k := 196)) o0).trans (sC_196 hs109))))) ?_
    refine tt_goto (tgt := 44) dX3_readPair_37 rfl ?_
    refine gt_pI (id := 203) (x := (e3 d106)) dX3_readPair_44 fl_3_67 rfl rfl h0 hA133 rfl rfl rfl (gp_I hG132) (by decide) (fun h => absurd h (by decide)) (fun h => absurd h (by decide)) (fun S137 hG138 hA139 e140 f141 er142 => ?_)
    have hF : F_X3_readPair bs n (StC S o0) x1 x2 = ((e0 d106), (e1 d106), (e2 d106), (e3 d106), (e4 d106), (e5 d106), (e6 d106), x1, (e8 d106), (e5 d106), (e3 d106), (e11 d106), (eJ d106)) := by
      subst hd107
      unfold F_X3_readPair
      dsimp only
      rw [if_neg q116]
    exact tt_vreturn dX3_readPair_47 rfl (hP _ _ _ _ ⟨hG138, hA139, Or.inl ⟨_, rfl, rfl, Eq.trans (stC_mk ((congrFun (congrFun e140 193) o0).trans ((congrFun (up2_ne (k := 193)) o0).trans ((congrFun (congrFun e134 193) o0).trans ((congrFun (up2_ne (k := 193)) o0).trans ((congrFun (congrFun e113 193) o0).trans ((congrFun (up2_ne (k := 193)) o0).trans (sC_193 hs109))))))) ((congrFun (congrFun e140 194) o0).trans ((congrFun (up2_ne (k := 194)) o0).trans ((congrFun (congrFun e134 194) o0).trans ((congrFun (up2_ne (k := 194)) o0).trans ((congrFun (congrFun e113 194) o0).trans ((congrFun (up2_ne (k := 194)) o0).trans (sC_194 hs109))))))) ((congrFun (congrFun e140 195) o0).trans ((congrFun (up2_ne (k := 195)) o0).trans ((congrFun (congrFun e134 195) o0).trans ((congrFun (up2_ne (k := 195)) o0).trans ((congrFun (congrFun e113 195) o0).trans ((congrFun (up2_ne (k := 195)) o0).trans (sC_195 hs109))))))) ((congrFun (congrFun e140 196) o0).trans ((congrFun (up2_ne (k := 196)) o0).trans ((congrFun (congrFun e134 196) o0).trans ((congrFun (up2_ne (k := 196)) o0).trans ((congrFun (congrFun e113 196) o0).trans ((congrFun (up2_ne (k := 196)) o0).trans (sC_196 hs109))))))) ((congrFun (congrFun e140 197) o0).trans ((congrFun (up2_ne (k := 197)) o0).trans ((congrFun (congrFun e134 197) o0).trans ((congrFun (up2_ne (k := 197)) o0).trans ((congrFun (congrFun e113 197) o0).trans ((congrFun (up2_ne (k := 197)) o0).trans (sC_197 hs109))))))) ((congrFun (congrFun e140 198) o0).trans ((congrFun (up2_ne (k := 198)) o0).trans ((congrFun (congrFun e134 198) o0).trans ((congrFun (up2_ne (k := 198)) o0).trans ((congrFun (congrFun e113 198) o0).trans ((congrFun (up2_ne (k := 198)) o0).trans (sC_198 hs109))))))) ((congrFun (congrFun e140 199) o0).trans ((congrFun (up2_ne (k := 199)) o0).trans ((congrFun (congrFun e134 199) o0).trans ((congrFun (up2_ne (k := 199)) o0).trans ((congrFun (congrFun e113 199) o0).trans ((congrFun (up2_ne (k := 199)) o0).trans (sC_199 hs109))))))) ((congrFun (congrFun e140 200) o0).trans ((congrFun (up2_ne (k := 200)) o0).trans ((congrFun (congrFun e134 200) o0).trans ((congrFun (up2_ne (k := 200)) o0).trans (by rw [e113]; exact up2_self))))) ((congrFun (congrFun e140 201) o0).trans ((congrFun (up2_ne (k := 201)) o0).trans ((congrFun (congrFun e134 201) o0).trans ((congrFun (up2_ne (k := 201)) o0).trans ((congrFun (congrFun e113 201) o0).trans ((congrFun (up2_ne (k := 201)) o0).trans (sC_201 hs109))))))) ((congrFun (congrFun e140 202) o0).trans ((congrFun (up2_ne (k := 202)) o0).trans (by rw [e134]; exact up2_self))) (by rw [e140]; exact up2_self) ((congrFun (congrFun e140 204) o0).trans ((congrFun (up2_ne (k := 204)) o0).trans ((congrFun (congrFun e134 204) o0).trans ((congrFun (up2_ne (k := 204)) o0).trans ((congrFun (congrFun e113 204) o0).trans ((congrFun (up2_ne (k := 204)) o0).trans (sC_204 hs109))))))) ((congrFun (congrFun f141 205) o0).trans ((congrFun (congrFun f135 205) o0).trans ((congrFun (congrFun f114 205) o0).trans (sC_205 hs109))))) hF.symm, rfl, rfl⟩⟩)
def F_X3_readSignExtension (bs : Nat → Int32) (n : Int32) (d : DD) : DD :=
  let d106 := F_X3_readPlace bs n d 
  if (e8 d106) = 64 then
    if (e5 d106) < 16 then
      ((e0 d106), (e1 d106), (e2 d106), (e3 d106), (e4 d106), (e5 d106), (e6 d106), 18, (e8 d106), (e3 d106), (e5 d106), (e11 d106), (eJ d106))
    else
      ((e0 d106), (e1 d106), 0, (e3 d106), (e4 d106), (e5 d106), (e6 d106), 18, (e8 d106), (e3 d106), (e5 d106), (e11 d106), (eJ d106))
  else
    ((e0 d106), (e1 d106), 0, (e3 d106), (e4 d106), (e5 d106), (e6 d106), 18, (e8 d106), (e3 d106), (e5 d106), (e11 d106), (eJ d106))
set_option maxHeartbeats 2000000 in
theorem ce_X3_readSignExtension {xi : SX} {S : Hp} {E : List Nat} {kc nc : Nat} {P : Po} {o0 : Nat} {bs : Nat → Int32} {n : Int32} (hG : GI S E) (h0 : Oa S E 3 0 o0) (hb : BC S E o0 bs n) (hP : ∀ r T x y, PV E [193, 195, 196, 197, 198, 200, 202, 203] S kc nc rV (fun v T => StC T o0 = F_X3_readSignExtension bs n (StC S o0) ) [] r T x y → P r T x y) : TT xi M_X3_readSignExtension 0 [(0, .ref o0)] [] S kc nc P := by
  have hA : Af E [193, 195, 196, 197, 198, 200, 202, 203] S S := af_rf
  refine tt_aload_n (j := 0) dX3_readSignExtension_0 rfl ?_
  refine gt_Vv (As := []) dX3_readSignExtension_1 ca_X3_95 ⟨by decide, by decide⟩ h0 hA rfl (Nat.le_of_ble_eq_true rfl) (Nat.le_of_ble_eq_true rfl) (by decide) (ce_X3_readPlace hG (oa_af h0 hA) (bc_af hb h0 hA) (fun _ _ _ _ h => h)) rfl (fun _ h => nomatch h) (fun S101 hx105 hG102 hB103 hA104 => ?_)
  obtain ⟨d106, hd107⟩ : ∃ q, q = F_X3_readPlace bs n (StC S o0)  := ⟨_, rfl⟩
  have hq108 := (congrArg (fun q => F_X3_readPlace bs n q ) (stC_mk (sC_193 (T := S) (o := o0) rfl) (sC_194 (T := S) (o := o0) rfl) (sC_195 (T := S) (o := o0) rfl) (sC_196 (T := S) (o := o0) rfl) (sC_197 (T := S) (o := o0) rfl) (sC_198 (T := S) (o := o0) rfl) (sC_199 (T := S) (o := o0) rfl) (sC_200 (T := S) (o := o0) rfl) (sC_201 (T := S) (o := o0) rfl) (sC_202 (T := S) (o := o0) rfl) (sC_203 (T := S) (o := o0) rfl) (sC_204 (T := S) (o := o0) rfl) (sC_205 (T := S) (o := o0) rfl))).trans hd107.symm
  have hs109 := hx105.trans hq108
  refine tt_aload_n (j := 0) dX3_readSignExtension_4 rfl ?_
  refine tt_bipush (v := 18) dX3_readSignExtension_5 rfl ?_
  refine gt_pI (id := 200) (x := 18) dX3_readSignExtension_7 fl_3_54 rfl rfl h0 hA104 rfl rfl rfl (gp_I hG102) (by decide) (fun h => absurd h (by decide)) (fun h => absurd h (by decide)) (fun S110 hG111 hA112 e113 f114 er115 => ?_)
  refine tt_aload_n (j := 0) dX3_readSignExtension_10 rfl ?_
  refine tt_aload_n (j := 0) dX3_readSignExtension_11 rfl ?_
  refine gt_gI (id := 196) (v := (e3 d106)) dX3_readSignExtension_12 fl_3_101 rfl rfl h0 hA112 ((congrFun (congrFun e113 196) o0).trans ((congrFun (up2_ne (k := 196)) o0).trans (sC_196 hs109))) ?_
  refine gt_pI (id := 202) (x := (e3 d106)) dX3_readSignExtension_15 fl_3_64 rfl rfl h0 hA112 rfl rfl rfl (gp_I hG111) (by decide) (fun h => absurd h (by decide)) (fun h => absurd h (by decide)) (fun S116 hG117 hA118 e119 f120 er121 => ?_)
  refine tt_aload_n (j := 0) dX3_readSignExtension_18 rfl ?_
  refine tt_aload_n (j := 0) dX3_readSignExtension_19 rfl ?_
  refine gt_gI (id := 198) (v := (e5 d106)) dX3_readSignExtension_20 fl_3_98 rfl rfl h0 hA118 ((congrFun (congrFun e119 198) o0).trans ((congrFun (up2_ne (k := 198)) o0).trans ((congrFun (congrFun e113 198) o0).trans ((congrFun (up2_ne (k := 198)) o0).trans (sC_198 hs109))))) ?_
  refine gt_pI (id := 203) (x := (e5 d106)) dX3_readSignExtension_23 fl_3_67 rfl rfl h0 hA118 rfl rfl rfl (gp_I hG117) (by decide) (fun h => absurd h (by decide)) (fun h => absurd h (by decide)) (fun S122 hG123 hA124 e125 f126 er127 => ?_)
  refine tt_aload_n (j := 0) dX3_readSignExtension_26 rfl ?_
  refine gt_gI (id := 201) (v := (e8 d106)) dX3_readSignExtension_27 fl_3_34 rfl rfl h0 hA124 ((congrFun (congrFun e125 201) o0).trans ((congrFun (up2_ne (k := 201)) o0).trans ((congrFun (congrFun e119 201) o0).trans ((congrFun (up2_ne (k := 201)) o0).trans ((congrFun (congrFun e113 201) o0).trans ((congrFun (up2_ne (k := 201)) o0).trans (sC_201 hs109))))))) ?_
  refine tt_bipush (v := 64) dX3_readSignExtension_30 rfl ?_
  refine tt_icmp_ne (tgt := 44) dX3_readSignExtension_32 rfl (fun q128 => ?_) (fun q128 => ?_)
  · skip
    refine tt_aload_n (j := 0) dX3_readSignExtension_44 rfl ?_
    refine tt_iconst (v := 0) dX3_readSignExtension_45 rfl ?_
    refine gt_pI (id := 195) (x := 0) dX3_readSignExtension_46 fl_3_22 rfl rfl h0 hA124 rfl rfl rfl (gp_Ir hG123 (⟨by decide, by decide⟩ : Rg 0 0 0)) (by decide) (fun h => absurd h (by decide)) (fun h => absurd h (by decide)) (fun S129 hG130 hA131 e132 f133 er134 => ?_)
    have hF : F_X3_readSignExtension bs n (StC S o0)  = ((e0 d106), (e1 d106), 0, (e3 d106), (e4 d106), (e5 d106), (e6 d106), 18, (e8 d106), (e3 d106), (e5 d106), (e11 d106), (eJ d106)) := by
      subst hd107
      unfold F_X3_readSignExtension
      dsimp only
      rw [if_neg q128]
    exact tt_vreturn dX3_readSignExtension_49 rfl (hP _ _ _ _ ⟨hG130, hA131, Or.inl ⟨_, rfl, rfl, Eq.trans (stC_mk ((congrFun (congrFun e132 193) o0).trans ((congrFun (up2_ne (k := 193)) o0).trans ((congrFun (congrFun e125 193) o0).trans ((congrFun (up2_ne (k := 193)) o0).trans ((congrFun (congrFun e119 193) o0).trans ((congrFun (up2_ne (k := 193)) o0).trans ((congrFun (congrFun e113 193) o0).trans ((congrFun (up2_ne (k := 193)) o0).trans (sC_193 hs109))))))))) ((congrFun (congrFun e132 194) o0).trans ((congrFun (up2_ne (k := 194)) o0).trans ((congrFun (congrFun e125 194) o0).trans ((congrFun (up2_ne (k := 194)) o0).trans ((congrFun (congrFun e119 194) o0).trans ((congrFun (up2_ne (k := 194)) o0).trans ((congrFun (congrFun e113 194) o0).trans ((congrFun (up2_ne (k := 194)) o0).trans (sC_194 hs109))))))))) (by rw [e132]; exact up2_self) ((congrFun (congrFun e132 196) o0).trans ((congrFun (up2_ne (k := 196)) o0).trans ((congrFun (congrFun e125 196) o0).trans ((congrFun (up2_ne (k := 196)) o0).trans ((congrFun (congrFun e119 196) o0).trans ((congrFun (up2_ne (k := 196)) o0).trans ((congrFun (congrFun e113 196) o0).trans ((congrFun (up2_ne (k := 196)) o0).trans (sC_196 hs109))))))))) ((congrFun (congrFun e132 197) o0).trans ((congrFun (up2_ne (k := 197)) o0).trans ((congrFun (congrFun e125 197) o0).trans ((congrFun (up2_ne (k := 197)) o0).trans ((congrFun (congrFun e119 197) o0).trans ((congrFun (up2_ne (k := 197)) o0).trans ((congrFun (congrFun e113 197) o0).trans ((congrFun (up2_ne (k := 197)) o0).trans (sC_197 hs109))))))))) ((congrFun (congrFun e132 198) o0).trans ((congrFun (up2_ne (k := 198)) o0).trans ((congrFun (congrFun e125 198) o0).trans ((congrFun (up2_ne (k := 198)) o0).trans ((congrFun (congrFun e119 198) o0).trans ((congrFun (up2_ne (k := 198)) o0).trans ((congrFun (congrFun e113 198) o0).trans ((congrFun (up2_ne (k := 198)) o0).trans (sC_198 hs109))))))))) ((congrFun (congrFun e132 199) o0).trans ((congrFun (up2_ne (k := 199)) o0).trans ((congrFun (congrFun e125 199) o0).trans ((congrFun (up2_ne (k := 199)) o0).trans ((congrFun (congrFun e119 199) o0).trans ((congrFun (up2_ne (k := 199)) o0).trans ((congrFun (congrFun e113 199) o0).trans ((congrFun (up2_ne (k := 199)) o0).trans (sC_199 hs109))))))))) ((congrFun (congrFun e132 200) o0).trans ((congrFun (up2_ne (k := 200)) o0).trans ((congrFun (congrFun e125 200) o0).trans ((congrFun (up2_ne (k := 200)) o0).trans ((congrFun (congrFun e119 200) o0).trans ((congrFun (up2_ne (k := 200)) o0).trans (by rw [e113]; exact up2_self))))))) ((congrFun (congrFun e132 201) o0).trans ((congrFun (up2_ne (k := 201)) o0).trans ((congrFun (congrFun e125 201) o0).trans ((congrFun (up2_ne (k := 201)) o0).trans ((congrFun (congrFun e119 201) o0).trans ((congrFun (up2_ne (k := 201)) o0).trans ((congrFun (congrFun e113 201) o0).trans ((congrFun (up2_ne (k := 201)) o0).trans (sC_201 hs109))))))))) ((congrFun (congrFun e132 202) o0).trans ((congrFun (up2_ne (k := 202)) o0).trans ((congrFun (congrFun e125 202) o0).trans ((congrFun (up2_ne (k := 202)) o0).trans (by rw [e119]; exact up2_self))))) ((congrFun (congrFun e132 203) o0).trans ((congrFun (up2_ne (k := 203)) o0).trans (by rw [e125]; exact up2_self))) ((congrFun (congrFun e132 204) o0).trans ((congrFun (up2_ne (k := 204)) o0).trans ((congrFun (congrFun e125 204) o0).trans ((congrFun (up2_ne (k := 204)) o0).trans ((congrFun (congrFun e119 204) o0).trans ((congrFun (up2_ne (k := 204)) o0).trans ((congrFun (congrFun e113 204) o0).trans ((congrFun (up2_ne (k := 204)) o0).trans (sC_204 hs109))))))))) ((congrFun (congrFun f133 205) o0).trans ((congrFun (congrFun f126 205) o0).trans ((congrFun (congrFun f120 205) o0).trans ((congrFun (congrFun f114 205) o0).trans (sC_205 hs109)))))) hF.symm, rfl, rfl⟩⟩)
  · skip
    have h135 : Rg 64 64 (e8 d106) := rg_eq_l (rg_all (e8 d106)) (⟨by decide, by decide⟩ : Rg 64 64 64) q128
    refine tt_aload_n (j := 0) dX3_readSignExtension_35 rfl ?_
    refine gt_gI (id := 198) (v := (e5 d106)) dX3_readSignExtension_36 fl_3_98 rfl rfl h0 hA124 ((congrFun (congrFun e125 198) o0).trans ((congrFun (up2_ne (k := 198)) o0).trans ((congrFun (congrFun e119 198) o0).trans ((congrFun (up2_ne (k := 198)) o0).trans ((congrFun (congrFun e113 198) o0).trans ((congrFun (up2_ne (k := 198)) o0).trans (sC_198 hs109))))))) ?_
    refine tt_bipush (v := 16) dX3_readSignExtension_39 rfl ?_
    refine tt_icmp_lt (tgt := 49) dX3_readSignExtension_41 rfl (fun q136 => ?_) (fun q136 => ?_)
    · skip
      have h137 : Rg (-2147483648) 15 (e5 d106) := rg_lt_l (rg_all (e5 d106)) (⟨by decide, by decide⟩ : Rg 16 16 16) q136
      have hF : F_X3_readSignExtension bs n (StC S o0)  = ((e0 d106), (e1 d106), (e2 d106), (e3 d106), (e4 d106), (e5 d106), (e6 d106), 18, (e8 d106), (e3 d106), (e5 d106), (e11 d106), (eJ d106)) := by
        subst hd107
        unfold F_X3_readSignExtension
        dsimp only
        rw [if_pos q128, if_pos q136]
      exact tt_vreturn dX3_readSignExtension_49 rfl (hP _ _ _ _ ⟨hG123, hA124, Or.inl ⟨_, rfl, rfl, Eq.trans (stC_mk ((congrFun (congrFun e125 193) o0).trans ((congrFun (up2_ne (k := 193)) o0).trans ((congrFun (congrFun e119 193) o0).trans ((congrFun (up2_ne (k := 193)) o0).trans ((congrFun (congrFun e113 193) o0).trans ((congrFun (up2_ne (k := 193)) o0).trans (sC_193 hs109))))))) ((congrFun (congrFun e125 194) o0).trans ((congrFun (up2_ne (k := 194)) o0).trans ((congrFun (congrFun e119 194) o0).trans ((congrFun (up2_ne (k := 194)) o0).trans ((congrFun (congrFun e113 194) o0).trans ((congrFun (up2_ne (k := 194)) o0).trans (sC_194 hs109))))))) ((congrFun (congrFun e125 195) o0).trans ((congrFun (up2_ne (k := 195)) o0).trans ((congrFun (congrFun e119 195) o0).trans ((congrFun (up2_ne (k := 195)) o0).trans ((congrFun (congrFun e113 195) o0).trans ((congrFun (up2_ne (k := 195)) o0).trans (sC_195 hs109))))))) ((congrFun (congrFun e125 196) o0).trans ((congrFun (up2_ne (k := 196)) o0).trans ((congrFun (congrFun e119 196) o0).trans ((congrFun (up2_ne (k := 196)) o0).trans ((congrFun (congrFun e113 196) o0).trans ((congrFun (up2_ne (k := 196)) o0).trans (sC_196 hs109))))))) ((congrFun (congrFun e125 197) o0).trans ((congrFun (up2_ne (k := 197)) o0).trans ((congrFun (congrFun e119 197) o0).trans ((congrFun (up2_ne (k := 197)) o0).trans ((congrFun (congrFun e113 197) o0).trans ((congrFun (up2_ne (k := 197)) o0).trans (sC_197 hs109))))))) ((congrFun (congrFun e125 198) o0).trans ((congrFun (up2_ne (k := 198)) o0).trans ((congrFun (congrFun e119 198) o0).trans ((congrFun (up2_ne (k := 198)) o0).trans ((congrFun (congrFun e113 198) o0).trans ((congrFun (up2_ne (k := 198)) o0).trans (sC_198 hs109))))))) ((congrFun (congrFun e125 199) o0).trans ((congrFun (up2_ne (k := 199)) o0).trans ((congrFun (congrFun e119 199) o0).trans ((congrFun (up2_ne (k := 199)) o0).trans ((congrFun (congrFun e113 199) o0).trans ((congrFun (up2_ne (k := 199)) o0).trans (sC_199 hs109))))))) ((congrFun (congrFun e125 200) o0).trans ((congrFun (up2_ne (k := 200)) o0).trans ((congrFun (congrFun e119 200) o0).trans ((congrFun (up2_ne (k := 200)) o0).trans (by rw [e113]; exact up2_self))))) ((congrFun (congrFun e125 201) o0).trans ((congrFun (up2_ne (k := 201)) o0).trans ((congrFun (congrFun e119 201) o0).trans ((congrFun (up2_ne (k := 201)) o0).trans ((congrFun (congrFun e113 201) o0).trans ((congrFun (up2_ne (k := 201)) o0).trans (sC_201 hs109))))))) ((congrFun (congrFun e125 202) o0).trans ((congrFun (up2_ne (k := 202)) o0).trans (by rw [e119]; exact up2_self))) (by rw [e125]; exact up2_self) ((congrFun (congrFun e125 204) o0).trans ((congrFun (up2_ne (k := 204)) o0).trans ((congrFun (congrFun e119 204) o0).trans ((congrFun (up2_ne (k := 204)) o0).trans ((congrFun (congrFun e113 204) o0).trans ((congrFun (up2_ne (k := 204)) o0).trans (sC_204 hs109))))))) ((congrFun (congrFun f126 205) o0).trans ((congrFun (congrFun f120 205) o0).trans ((congrFun (congrFun f114 205) o0).trans (sC_205 hs109))))) hF.symm, rfl, rfl⟩⟩)
    · skip
      have h138 : Rg 16 2147483647 (e5 d106) := rg_le_r (⟨by decide, by decide⟩ : Rg 16 16 16) (rg_all (e5 d106)) (nlt_le q136)
      refine tt_aload_n (j := 0) dX3_readSignExtension_44 rfl ?_
      refine tt_iconst (v := 0) dX3_readSignExtension_45 rfl ?_
      refine gt_pI (id := 195) (x := 0) dX3_readSignExtension_46 fl_3_22 rfl rfl h0 hA124 rfl rfl rfl (gp_Ir hG123 (⟨by decide, by decide⟩ : Rg 0 0 0)) (by decide) (fun h => absurd h (by decide)) (fun h => absurd h (by decide)) (fun S139 hG140 hA141 e142 f143 er144 => ?_)
      have hF : F_X3_readSignExtension bs n (StC S o0)  = ((e0 d106), (e1 d106), 0, (e3 d106), (e4 d106), (e5 d106), (e6 d106), 18, (e8 d106), (e3 d106), (e5 d106), (e11 d106), (eJ d106)) := by
        subst hd107
        unfold F_X3_readSignExtension
        dsimp only
        rw [if_pos q128, if_neg q136]
      exact tt_vreturn dX3_readSignExtension_49 rfl (hP _ _ _ _ ⟨hG140, hA141, Or.inl ⟨_, rfl, rfl, Eq.trans (stC_mk ((congrFun (congrFun e142 193) o0).trans ((congrFun (up2_ne (k := 193)) o0).trans ((congrFun (congrFun e125 193) o0).trans ((congrFun (up2_ne (k := 193)) o0).trans ((congrFun (congrFun e119 193) o0).trans ((congrFun (up2_ne (k := 193)) o0).trans ((congrFun (congrFun e113 193) o0).trans ((congrFun (up2_ne (k := 193)) o0).trans (sC_193 hs109))))))))) ((congrFun (congrFun e142 194) o0).trans ((congrFun (up2_ne (k := 194)) o0).trans ((congrFun (congrFun e125 194) o0).trans ((congrFun (up2_ne (k := 194)) o0).trans ((congrFun (congrFun e119 194) o0).trans ((congrFun (up2_ne (k := 194)) o0).trans ((congrFun (congrFun e113 194) o0).trans ((congrFun (up2_ne (k := 194)) o0).trans (sC_194 hs109))))))))) (by rw [e142]; exact up2_self) ((congrFun (congrFun e142 196) o0).trans ((congrFun (up2_ne (k := 196)) o0).trans ((congrFun (congrFun e125 196) o0).trans ((congrFun (up2_ne (k := 196)) o0).trans ((congrFun (congrFun e119 196) o0).trans ((congrFun (up2_ne (k := 196)) o0).trans ((congrFun (congrFun e113 196) o0).trans ((congrFun (up2_ne (k := 196)) o0).trans (sC_196 hs109))))))))) ((congrFun (congrFun e142 197) o0).trans ((congrFun (up2_ne (k := 197)) o0).trans ((congrFun (congrFun e125 197) o0).trans ((congrFun (up2_ne (k := 197)) o0).trans ((congrFun (congrFun e119 197) o0).trans ((congrFun (up2_ne (k := 197)) o0).trans ((congrFun (congrFun e113 197) o0).trans ((congrFun (up2_ne (k := 197)) o0).trans (sC_197 hs109))))))))) ((congrFun (congrFun e142 198) o0).trans ((congrFun (up2_ne (k := 198)) o0).trans ((congrFun (congrFun e125 198) o0).trans ((congrFun (up2_ne (k := 198)) o0).trans ((congrFun (congrFun e119 198) o0).trans ((congrFun (up2_ne (k := 198)) o0).trans ((congrFun (congrFun e113 198) o0).trans ((congrFun (up2_ne (k := 198)) o0).trans (sC_198 hs109))))))))) ((congrFun (congrFun e142 199) o0).trans ((congrFun (up2_ne (k := 199)) o0).trans ((congrFun (congrFun e125 199) o0).trans ((congrFun (up2_ne (k := 199)) o0).trans ((congrFun (congrFun e119 199) o0).trans ((congrFun (up2_ne (k := 199)) o0).trans ((congrFun (congrFun e113 199) o0).trans ((congrFun (up2_ne (k := 199)) o0).trans (sC_199 hs109))))))))) ((congrFun (congrFun e142 200) o0).trans ((congrFun (up2_ne (k := 200)) o0).trans ((congrFun (congrFun e125 200) o0).trans ((congrFun (up2_ne (k := 200)) o0).trans ((congrFun (congrFun e119 200) o0).trans ((congrFun (up2_ne (k := 200)) o0).trans (by rw [e113]; exact up2_self))))))) ((congrFun (congrFun e142 201) o0).trans ((congrFun (up2_ne (k := 201)) o0).trans ((congrFun (congrFun e125 201) o0).trans ((congrFun (up2_ne (k := 201)) o0).trans ((congrFun (congrFun e119 201) o0).trans ((congrFun (up2_ne (k := 201)) o0).trans ((congrFun (congrFun e113 201) o0).trans ((congrFun (up2_ne (k := 201)) o0).trans (sC_201 hs109))))))))) ((congrFun (congrFun e142 202) o0).trans ((congrFun (up2_ne (k := 202)) o0).trans ((congrFun (congrFun e125 202) o0).trans ((congrFun (up2_ne (k := 202)) o0).trans (by rw [e119]; exact up2_self))))) ((congrFun (congrFun e142 203) o0).trans ((congrFun (up2_ne (k := 203)) o0).trans (by rw [e125]; exact up2_self))) ((congrFun (congrFun e142 204) o0).trans ((congrFun (up2_ne (k := 204)) o0).trans ((congrFun (congrFun e125 204) o0).trans ((congrFun (up2_ne (k := 204)) o0).trans ((congrFun (congrFun e119 204) o0).trans ((congrFun (up2_ne (k := 204)) o0).trans ((congrFun (congrFun e113 204) o0).trans ((congrFun (up2_ne (k := 204)) o0).trans (sC_204 hs109))))))))) ((congrFun (congrFun f143 205) o0).trans ((congrFun (congrFun f126 205) o0).trans ((congrFun (congrFun f120 205) o0).trans ((congrFun (congrFun f114 205) o0).trans (sC_205 hs109)))))) hF.symm, rfl, rfl⟩⟩)
def F_X3_readArithmeticWithConstant_1 (bs : Nat → Int32) (n : Int32) (d : DD) : DD :=
  let d106 := F_X3_readPlace bs n d 
  let d127 := F_X3_readNumber_1 bs n ((e0 d106), (e1 d106), (e2 d106), (e3 d106), (e4 d106), (e5 d106), (e6 d106), (e4 d106), (e8 d106), (e5 d106), (e10 d106), (e11 d106), (eJ d106)) 
  ((e0 d127.1), (e1 d127.1), (e2 d127.1), (e3 d127.1), (e4 d127.1), (e5 d127.1), (e6 d127.1), (e7 d127.1), (e8 d127.1), (e9 d127.1), (e10 d127.1), (e11 d127.1), d127.2)
set_option maxHeartbeats 2000000 in
theorem ce_X3_readArithmeticWithConstant_1 {xi : SX} {S : Hp} {E : List Nat} {kc nc : Nat} {P : Po} {o0 : Nat} {bs : Nat → Int32} {n : Int32} (hG : GI S E) (h0 : Oa S E 3 0 o0) (hb : BC S E o0 bs n) (hP : ∀ r T x y, PV E [193, 195, 196, 197, 198, 200, 202] S kc nc rV (fun v T => StC T o0 = F_X3_readArithmeticWithConstant_1 bs n (StC S o0) ) [] r T x y → P r T x y) : TT xi M_X3_readArithmeticWithConstant 0 [(0, .ref o0), (1, .int 1)] [] S kc nc P := by
  have hA : Af E [193, 195, 196, 197, 198, 200, 202] S S := af_rf
  refine tt_aload_n (j := 0) dX3_readArithmeticWithConstant_0 rfl ?_
  refine gt_Vv (As := []) dX3_readArithmeticWithConstant_1 ca_X3_95 ⟨by decide, by decide⟩ h0 hA rfl (Nat.le_of_ble_eq_true rfl) (Nat.le_of_ble_eq_true rfl) (by decide) (ce_X3_readPlace hG (oa_af h0 hA) (bc_af hb h0 hA) (fun _ _ _ _ h => h)) rfl (fun _ h => nomatch h) (fun S101 hx105 hG102 hB103 hA104 => ?_)
  obtain ⟨d106, hd107⟩ : ∃ q, q = F_X3_readPlace bs n (StC S o0)  := ⟨_, rfl⟩
  have hq108 := (congrArg (fun q => F_X3_readPlace bs n q ) (stC_mk (sC_193 (T := S) (o := o0) rfl) (sC_194 (T := S) (o := o0) rfl) (sC_195 (T := S) (o := o0) rfl) (sC_196 (T := S) (o := o0) rfl) (sC_197 (T := S) (o := o0) rfl) (sC_198 (T := S) (o := o0) rfl) (sC_199 (T := S) (o := o0) rfl) (sC_200 (T := S) (o := o0) rfl) (sC_201 (T := S) (o := o0) rfl) (sC_202 (T := S) (o := o0) rfl) (sC_203 (T := S) (o := o0) rfl) (sC_204 (T := S) (o := o0) rfl) (sC_205 (T := S) (o := o0) rfl))).trans hd107.symm
  have hs109 := hx105.trans hq108
  refine tt_aload_n (j := 0) dX3_readArithmeticWithConstant_4 rfl ?_
  refine tt_aload_n (j := 0) dX3_readArithmeticWithConstant_5 rfl ?_
  refine gt_gI (id := 197) (v := (e4 d106)) dX3_readArithmeticWithConstant_6 fl_3_104 rfl rfl h0 hA104 (sC_197 hs109) ?_
  refine gt_pI (id := 200) (x := (e4 d106)) dX3_readArithmeticWithConstant_9 fl_3_54 rfl rfl h0 hA104 rfl rfl rfl (gp_I hG102) (by decide) (fun h => absurd h (by decide)) (fun h => absurd h (by decide)) (fun S110 hG111 hA112 e113 f114 er115 => ?_)
  refine tt_aload_n (j := 0) dX3_readArithmeticWithConstant_12 rfl ?_
  refine tt_aload_n (j := 0) dX3_readArithmeticWithConstant_13 rfl ?_
  refine gt_gI (id := 198) (v := (e5 d106)) dX3_readArithmeticWithConstant_14 fl_3_98 rfl rfl h0 hA112 ((congrFun (congrFun e113 198) o0).trans ((congrFun (up2_ne (k := 198)) o0).trans (sC_198 hs109))) ?_
  refine gt_pI (id := 202) (x := (e5 d106)) dX3_readArithmeticWithConstant_17 fl_3_64 rfl rfl h0 hA112 rfl rfl rfl (gp_I hG111) (by decide) (fun h => absurd h (by decide)) (fun h => absurd h (by decide)) (fun S116 hG117 hA118 e119 f120 er121 => ?_)
  refine tt_aload_n (j := 0) dX3_readArithmeticWithConstant_20 rfl ?_
  refine tt_aload_n (j := 0) dX3_readArithmeticWithConstant_21 rfl ?_
  refine tt_iload_n (j := 1) dX3_readArithmeticWithConstant_22 rfl ?_
  refine gt_VJ (As := [.int 1]) dX3_readArithmeticWithConstant_23 ca_X3_107 ⟨by decide, by decide⟩ h0 hA118 rfl (Nat.le_of_ble_eq_true rfl) (Nat.le_of_ble_eq_true rfl) (by decide) (ce_X3_readNumber_1 hG117 (oa_af h0 hA118) (bc_af hb h0 hA118) (fun _ _ _ _ h => h)) rfl (fun _ h => nomatch h) (fun S122 y131 hx126 hG123 hB124 hA125 => ?_)
  obtain ⟨d127, hd128⟩ : ∃ q, q = F_X3_readNumber_1 bs n ((e0 d106), (e1 d106), (e2 d106), (e3 d106), (e4 d106), (e5 d106), (e6 d106), (e4 d106), (e8 d106), (e5 d106), (e10 d106), (e11 d106), (eJ d106))  := ⟨_, rfl⟩
  have hq129 := (congrArg (fun q => F_X3_readNumber_1 bs n q ) (stC_mk ((congrFun (congrFun e119 193) o0).trans ((congrFun (up2_ne (k := 193)) o0).trans ((congrFun (congrFun e113 193) o0).trans ((congrFun (up2_ne (k := 193)) o0).trans (sC_193 hs109))))) ((congrFun (congrFun e119 194) o0).trans ((congrFun (up2_ne (k := 194)) o0).trans ((congrFun (congrFun e113 194) o0).trans ((congrFun (up2_ne (k := 194)) o0).trans (sC_194 hs109))))) ((congrFun (congrFun e119 195) o0).trans ((congrFun (up2_ne (k := 195)) o0).trans ((congrFun (congrFun e113 195) o0).trans ((congrFun (up2_ne (k := 195)) o0).trans (sC_195 hs109))))) ((congrFun (congrFun e119 196) o0).trans ((congrFun (up2_ne (k := 196)) o0).trans ((congrFun (congrFun e113 196) o0).trans ((congrFun (up2_ne (k := 196)) o0).trans (sC_196 hs109))))) ((congrFun (congrFun e119 197) o0).trans ((congrFun (up2_ne (k := 197)) o0).trans ((congrFun (congrFun e113 197) o0).trans ((congrFun (up2_ne (k := 197)) o0).trans (sC_197 hs109))))) ((congrFun (congrFun e119 198) o0).trans ((congrFun (up2_ne (k := 198)) o0).trans ((congrFun (congrFun e113 198) o0).trans ((congrFun (up2_ne (k := 198)) o0).trans (sC_198 hs109))))) ((congrFun (congrFun e119 199) o0).trans ((congrFun (up2_ne (k := 199)) o0).trans ((congrFun (congrFun e113 199) o0).trans ((congrFun (up2_ne (k := 199)) o0).trans (sC_199 hs109))))) ((congrFun (congrFun e119 200) o0).trans ((congrFun (up2_ne (k := 200)) o0).trans (by rw [e113]; exact up2_self))) ((congrFun (congrFun e119 201) o0).trans ((congrFun (up2_ne (k := 201)) o0).trans ((congrFun (congrFun e113 201) o0).trans ((congrFun (up2_ne (k := 201)) o0).trans (sC_201 hs109))))) (by rw [e119]; exact up2_self) ((congrFun (congrFun e119 203) o0).trans ((congrFun (up2_ne (k := 203)) o0).trans ((congrFun (congrFun e113 203) o0).trans ((congrFun (up2_ne (k := 203)) o0).trans (sC_203 hs109))))) ((congrFun (congrFun e119 204) o0).trans ((congrFun (up2_ne (k := 204)) o0).trans ((congrFun (congrFun e113 204) o0).trans ((congrFun (up2_ne (k := 204)) o0).trans (sC_204 hs109))))) ((congrFun (congrFun f120 205) o0).trans ((congrFun (congrFun f114 205) o0).trans (sC_205 hs109))))).trans hd128.symm
  have hs130 := hx126.2.trans (congrArg Prod.fst hq129)
  obtain rfl : y131 = d127.2 := (xjC_v hx126).trans (congrArg Prod.snd hq129)
  refine gt_pJ (id := 205) (x := d127.2) dX3_readArithmeticWithConstant_26 fl_3_73 rfl rfl h0 hA125 rfl rfl rfl hG123 (fun S132 hG133 hA134 e135 f136 er137 => ?_)
  have hF : F_X3_readArithmeticWithConstant_1 bs n (StC S o0)  = ((e0 d127.1), (e1 d127.1), (e2 d127.1), (e3 d127.1), (e4 d127.1), (e5 d127.1), (e6 d127.1), (e7 d127.1), (e8 d127.1), (e9 d127.1), (e10 d127.1), (e11 d127.1), d127.2) := by
    subst hd128
    subst hd107
    rfl
  exact tt_vreturn dX3_readArithmeticWithConstant_29 rfl (hP _ _ _ _ ⟨hG133, hA134, Or.inl ⟨_, rfl, rfl, Eq.trans (stC_mk ((congrFun (congrFun e135 193) o0).trans (sC_193 hs130)) ((congrFun (congrFun e135 194) o0).trans (sC_194 hs130)) ((congrFun (congrFun e135 195) o0).trans (sC_195 hs130)) ((congrFun (congrFun e135 196) o0).trans (sC_196 hs130)) ((congrFun (congrFun e135 197) o0).trans (sC_197 hs130)) ((congrFun (congrFun e135 198) o0).trans (sC_198 hs130)) ((congrFun (congrFun e135 199) o0).trans (sC_199 hs130)) ((congrFun (congrFun e135 200) o0).trans (sC_200 hs130)) ((congrFun (congrFun e135 201) o0).trans (sC_201 hs130)) ((congrFun (congrFun e135 202) o0).trans (sC_202 hs130)) ((congrFun (congrFun e135 203) o0).trans (sC_203 hs130)) ((congrFun (congrFun e135 204) o0).trans (sC_204 hs130)) (by rw [f136]; exact up2_self)) hF.symm, rfl, rfl⟩⟩)
def F_X3_readArithmeticWithConstant_4 (bs : Nat → Int32) (n : Int32) (d : DD) : DD :=
  let d106 := F_X3_readPlace bs n d 
  let d127 := F_X3_readNumber_4 bs n ((e0 d106), (e1 d106), (e2 d106), (e3 d106), (e4 d106), (e5 d106), (e6 d106), (e4 d106), (e8 d106), (e5 d106), (e10 d106), (e11 d106), (eJ d106)) 
  ((e0 d127.1), (e1 d127.1), (e2 d127.1), (e3 d127.1), (e4 d127.1), (e5 d127.1), (e6 d127.1), (e7 d127.1), (e8 d127.1), (e9 d127.1), (e10 d127.1), (e11 d127.1), d127.2)
set_option maxHeartbeats 2000000 in
theorem ce_X3_readArithmeticWithConstant_4 {xi : SX} {S : Hp} {E : List Nat} {kc nc : Nat} {P : Po} {o0 : Nat} {bs : Nat → Int32} {n : Int32} (hG : GI S E) (h0 : Oa S E 3 0 o0) (hb : BC S E o0 bs n) (hP : ∀ r T x y, PV E [193, 195, 196, 197, 198, 200, 202] S kc nc rV (fun v T => StC T o0 = F_X3_readArithmeticWithConstant_4 bs n (StC S o0) ) [] r T x y → P r T x y) : TT xi M_X3_readArithmeticWithConstant 0 [(0, .ref o0), (1, .int 4)] [] S kc nc P := by
  have hA : Af E [193, 195, 196, 197, 198, 200, 202] S S := af_rf
  refine tt_aload_n (j := 0) dX3_readArithmeticWithConstant_0 rfl ?_
  refine gt_Vv (As := []) dX3_readArithmeticWithConstant_1 ca_X3_95 ⟨by decide, by decide⟩ h0 hA rfl (Nat.le_of_ble_eq_true rfl) (Nat.le_of_ble_eq_true rfl) (by decide) (ce_X3_readPlace hG (oa_af h0 hA) (bc_af hb h0 hA) (fun _ _ _ _ h => h)) rfl (fun _ h => nomatch h) (fun S101 hx105 hG102 hB103 hA104 => ?_)
  obtain ⟨d106, hd107⟩ : ∃ q, q = F_X3_readPlace bs n (StC S o0)  := ⟨_, rfl⟩
  have hq108 := (congrArg (fun q => F_X3_readPlace bs n q ) (stC_mk (sC_193 (T := S) (o := o0) rfl) (sC_194 (T := S) (o := o0) rfl) (sC_195 (T := S) (o := o0) rfl) (sC_196 (T := S) (o := o0) rfl) (sC_197 (T := S) (o := o0) rfl) (sC_198 (T := S) (o := o0) rfl) (sC_199 (T := S) (o := o0) rfl) (sC_200 (T := S) (o := o0) rfl) (sC_201 (T := S) (o := o0) rfl) (sC_202 (T := S) (o := o0) rfl) (sC_203 (T := S) (o := o0) rfl) (sC_204 (T := S) (o := o0) rfl) (sC_205 (T := S) (o := o0) rfl))).trans hd107.symm
  have hs109 := hx105.trans hq108
  refine tt_aload_n (j := 0) dX3_readArithmeticWithConstant_4 rfl ?_
  refine tt_aload_n (j := 0) dX3_readArithmeticWithConstant_5 rfl ?_
  refine gt_gI (id := 197) (v := (e4 d106)) dX3_readArithmeticWithConstant_6 fl_3_104 rfl rfl h0 hA104 (sC_197 hs109) ?_
  refine gt_pI (id := 200) (x := (e4 d106)) dX3_readArithmeticWithConstant_9 fl_3_54 rfl rfl h0 hA104 rfl rfl rfl (gp_I hG102) (by decide) (fun h => absurd h (by decide)) (fun h => absurd h (by decide)) (fun S110 hG111 hA112 e113 f114 er115 => ?_)
  refine tt_aload_n (j := 0) dX3_readArithmeticWithConstant_12 rfl ?_
  refine tt_aload_n (j := 0) dX3_readArithmeticWithConstant_13 rfl ?_
  refine gt_gI (id := 198) (v := (e5 d106)) dX3_readArithmeticWithConstant_14 fl_3_98 rfl rfl h0 hA112 ((congrFun (congrFun e113 198) o0).trans ((congrFun (up2_ne (k := 198)) o0).trans (sC_198 hs109))) ?_
  refine gt_pI (id := 202) (x := (e5 d106)) dX3_readArithmeticWithConstant_17 fl_3_64 rfl rfl h0 hA112 rfl rfl rfl (gp_I hG111) (by decide) (fun h => absurd h (by decide)) (fun h => absurd h (by decide)) (fun S116 hG117 hA118 e119 f120 er121 => ?_)
  refine tt_aload_n (j := 0) dX3_readArithmeticWithConstant_20 rfl ?_
  refine tt_aload_n (j := 0) dX3_readArithmeticWithConstant_21 rfl ?_
  refine tt_iload_n (j := 1) dX3_readArithmeticWithConstant_22 rfl ?_
  refine gt_VJ (As := [.int 4]) dX3_readArithmeticWithConstant_23 ca_X3_107 ⟨by decide, by decide⟩ h0 hA118 rfl (Nat.le_of_ble_eq_true rfl) (Nat.le_of_ble_eq_true rfl) (by decide) (ce_X3_readNumber_4 hG117 (oa_af h0 hA118) (bc_af hb h0 hA118) (fun _ _ _ _ h => h)) rfl (fun _ h => nomatch h) (fun S122 y131 hx126 hG123 hB124 hA125 => ?_)
  obtain ⟨d127, hd128⟩ : ∃ q, q = F_X3_readNumber_4 bs n ((e0 d106), (e1 d106), (e2 d106), (e3 d106), (e4 d106), (e5 d106), (e6 d106), (e4 d106), (e8 d106), (e5 d106), (e10 d106), (e11 d106), (eJ d106))  := ⟨_, rfl⟩
  have hq129 := (congrArg (fun q => F_X3_readNumber_4 bs n q ) (stC_mk ((congrFun (congrFun e119 193) o0).trans ((congrFun (up2_ne (k := 193)) o0).trans ((congrFun (congrFun e113 193) o0).trans ((congrFun (up2_ne (k := 193)) o0).trans (sC_193 hs109))))) ((congrFun (congrFun e119 194) o0).trans ((congrFun (up2_ne (k := 194)) o0).trans ((congrFun (congrFun e113 194) o0).trans ((congrFun (up2_ne (k := 194)) o0).trans (sC_194 hs109))))) ((congrFun (congrFun e119 195) o0).trans ((congrFun (up2_ne (k := 195)) o0).trans ((congrFun (congrFun e113 195) o0).trans ((congrFun (up2_ne (k := 195)) o0).trans (sC_195 hs109))))) ((congrFun (congrFun e119 196) o0).trans ((congrFun (up2_ne (k := 196)) o0).trans ((congrFun (congrFun e113 196) o0).trans ((congrFun (up2_ne (k := 196)) o0).trans (sC_196 hs109))))) ((congrFun (congrFun e119 197) o0).trans ((congrFun (up2_ne (k := 197)) o0).trans ((congrFun (congrFun e113 197) o0).trans ((congrFun (up2_ne (k := 197)) o0).trans (sC_197 hs109))))) ((congrFun (congrFun e119 198) o0).trans ((congrFun (up2_ne (k := 198)) o0).trans ((congrFun (congrFun e113 198) o0).trans ((congrFun (up2_ne (k := 198)) o0).trans (sC_198 hs109))))) ((congrFun (congrFun e119 199) o0).trans ((congrFun (up2_ne (k := 199)) o0).trans ((congrFun (congrFun e113 199) o0).trans ((congrFun (up2_ne (k := 199)) o0).trans (sC_199 hs109))))) ((congrFun (congrFun e119 200) o0).trans ((congrFun (up2_ne (k := 200)) o0).trans (by rw [e113]; exact up2_self))) ((congrFun (congrFun e119 201) o0).trans ((congrFun (up2_ne (k := 201)) o0).trans ((congrFun (congrFun e113 201) o0).trans ((congrFun (up2_ne (k := 201)) o0).trans (sC_201 hs109))))) (by rw [e119]; exact up2_self) ((congrFun (congrFun e119 203) o0).trans ((congrFun (up2_ne (k := 203)) o0).trans ((congrFun (congrFun e113 203) o0).trans ((congrFun (up2_ne (k := 203)) o0).trans (sC_203 hs109))))) ((congrFun (congrFun e119 204) o0).trans ((congrFun (up2_ne (k := 204)) o0).trans ((congrFun (congrFun e113 204) o0).trans ((congrFun (up2_ne (k := 204)) o0).trans (sC_204 hs109))))) ((congrFun (congrFun f120 205) o0).trans ((congrFun (congrFun f114 205) o0).trans (sC_205 hs109))))).trans hd128.symm
  have hs130 := hx126.2.trans (congrArg Prod.fst hq129)
  obtain rfl : y131 = d127.2 := (xjC_v hx126).trans (congrArg Prod.snd hq129)
  refine gt_pJ (id := 205) (x := d127.2) dX3_readArithmeticWithConstant_26 fl_3_73 rfl rfl h0 hA125 rfl rfl rfl hG123 (fun S132 hG133 hA134 e135 f136 er137 => ?_)
  have hF : F_X3_readArithmeticWithConstant_4 bs n (StC S o0)  = ((e0 d127.1), (e1 d127.1), (e2 d127.1), (e3 d127.1), (e4 d127.1), (e5 d127.1), (e6 d127.1), (e7 d127.1), (e8 d127.1), (e9 d127.1), (e10 d127.1), (e11 d127.1), d127.2) := by
    subst hd128
    subst hd107
    rfl
  exact tt_vreturn dX3_readArithmeticWithConstant_29 rfl (hP _ _ _ _ ⟨hG133, hA134, Or.inl ⟨_, rfl, rfl, Eq.trans (stC_mk ((congrFun (congrFun e135 193) o0).trans (sC_193 hs130)) ((congrFun (congrFun e135 194) o0).trans (sC_194 hs130)) ((congrFun (congrFun e135 195) o0).trans (sC_195 hs130)) ((congrFun (congrFun e135 196) o0).trans (sC_196 hs130)) ((congrFun (congrFun e135 197) o0).trans (sC_197 hs130)) ((congrFun (congrFun e135 198) o0).trans (sC_198 hs130)) ((congrFun (congrFun e135 199) o0).trans (sC_199 hs130)) ((congrFun (congrFun e135 200) o0).trans (sC_200 hs130)) ((congrFun (congrFun e135 201) o0).trans (sC_201 hs130)) ((congrFun (congrFun e135 202) o0).trans (sC_202 hs130)) ((congrFun (congrFun e135 203) o0).trans (sC_203 hs130)) ((congrFun (congrFun e135 204) o0).trans (sC_204 hs130)) (by rw [f136]; exact up2_self)) hF.symm, rfl, rfl⟩⟩)
def F_X3_readShift (bs : Nat → Int32) (n : Int32) (d : DD) : DD :=
  let d106 := F_X3_readPlace bs n d 
  let d121 := F_X3_readNumber_1 bs n ((e0 d106), (e1 d106), (e2 d106), (e3 d106), (e4 d106), (e5 d106), (e6 d106), (e7 d106), (e8 d106), (e5 d106), (e10 d106), (e11 d106), (eJ d106)) 
  if (e4 d121.1) = 4 then
    ((e0 d121.1), (e1 d121.1), (e2 d121.1), (e3 d121.1), (e4 d121.1), (e5 d121.1), (e6 d121.1), 14, (e8 d121.1), (e9 d121.1), (e10 d121.1), ((d121.2 : Int64).toInt32 &&& ((e8 d121.1) - 1)), d121.2)
  else
    if (e4 d121.1) = 5 then
      ((e0 d121.1), (e1 d121.1), (e2 d121.1), (e3 d121.1), (e4 d121.1), (e5 d121.1), (e6 d121.1), 15, (e8 d121.1), (e9 d121.1), (e10 d121.1), ((d121.2 : Int64).toInt32 &&& ((e8 d121.1) - 1)), d121.2)
    else
      if (e4 d121.1) = 6 then
        ((e0 d121.1), (e1 d121.1), 0, (e3 d121.1), (e4 d121.1), (e5 d121.1), (e6 d121.1), (e7 d121.1), (e8 d121.1), (e9 d121.1), (e10 d121.1), ((d121.2 : Int64).toInt32 &&& ((e8 d121.1) - 1)), d121.2)
      else
        if (e4 d121.1) = 7 then
          ((e0 d121.1), (e1 d121.1), (e2 d121.1), (e3 d121.1), (e4 d121.1), (e5 d121.1), (e6 d121.1), 16, (e8 d121.1), (e9 d121.1), (e10 d121.1), ((d121.2 : Int64).toInt32 &&& ((e8 d121.1) - 1)), d121.2)
        else
          ((e0 d121.1), (e1 d121.1), 0, (e3 d121.1), (e4 d121.1), (e5 d121.1), (e6 d121.1), (e7 d121.1), (e8 d121.1), (e9 d121.1), (e10 d121.1), ((d121.2 : Int64).toInt32 &&& ((e8 d121.1) - 1)), d121.2)
set_option maxHeartbeats 2000000 in
theorem ce_X3_readShift {xi : SX} {S : Hp} {E : List Nat} {kc nc : Nat} {P : Po} {o0 : Nat} {bs : Nat → Int32} {n : Int32} (hG : GI S E) (h0 : Oa S E 3 0 o0) (hb : BC S E o0 bs n) (hP : ∀ r T x y, PV E [193, 195, 196, 197, 198, 200, 202, 204] S kc nc rV (fun v T => StC T o0 = F_X3_readShift bs n (StC S o0) ) [] r T x y → P r T x y) : TT xi M_X3_readShift 0 [(0, .ref o0)] [] S kc nc P := by
  have hA : Af E [193, 195, 196, 197, 198, 200, 202, 204] S S := af_rf
  refine tt_aload_n (j := 0) dX3_readShift_0 rfl ?_
  refine gt_Vv (As := []) dX3_readShift_1 ca_X3_95 ⟨by decide, by decide⟩ h0 hA rfl (Nat.le_of_ble_eq_true rfl) (Nat.le_of_ble_eq_true rfl) (by decide) (ce_X3_readPlace hG (oa_af h0 hA) (bc_af hb h0 hA) (fun _ _ _ _ h => h)) rfl (fun _ h => nomatch h) (fun S101 hx105 hG102 hB103 hA104 => ?_)
  obtain ⟨d106, hd107⟩ : ∃ q, q = F_X3_readPlace bs n (StC S o0)  := ⟨_, rfl⟩
  have hq108 := (congrArg (fun q => F_X3_readPlace bs n q ) (stC_mk (sC_193 (T := S) (o := o0) rfl) (sC_194 (T := S) (o := o0) rfl) (sC_195 (T := S) (o := o0) rfl) (sC_196 (T := S) (o := o0) rfl) (sC_197 (T := S) (o := o0) rfl) (sC_198 (T := S) (o := o0) rfl) (sC_199 (T := S) (o := o0) rfl) (sC_200 (T := S) (o := o0) rfl) (sC_201 (T := S) (o := o0) rfl) (sC_202 (T := S) (o := o0) rfl) (sC_203 (T := S) (o := o0) rfl) (sC_204 (T := S) (o := o0) rfl) (sC_205 (T := S) (o := o0) rfl))).trans hd107.symm
  have hs109 := hx105.trans hq108
  refine tt_aload_n (j := 0) dX3_readShift_4 rfl ?_
  refine tt_aload_n (j := 0) dX3_readShift_5 rfl ?_
  refine gt_gI (id := 198) (v := (e5 d106)) dX3_readShift_6 fl_3_98 rfl rfl h0 hA104 (sC_198 hs109) ?_
  refine gt_pI (id := 202) (x := (e5 d106)) dX3_readShift_9 fl_3_64 rfl rfl h0 hA104 rfl rfl rfl (gp_I hG102) (by decide) (fun h => absurd h (by decide)) (fun h => absurd h (by decide)) (fun S110 hG111 hA112 e113 f114 er115 => ?_)
  refine tt_aload_n (j := 0) dX3_readShift_12 rfl ?_
  refine tt_aload_n (j := 0) dX3_readShift_13 rfl ?_
  refine tt_iconst (v := 1) dX3_readShift_14 rfl ?_
  refine gt_VJ (As := [.int 1]) dX3_readShift_15 ca_X3_107 ⟨by decide, by decide⟩ h0 hA112 rfl (Nat.le_of_ble_eq_true rfl) (Nat.le_of_ble_eq_true rfl) (by decide) (ce_X3_readNumber_1 hG111 (oa_af h0 hA112) (bc_af hb h0 hA112) (fun _ _ _ _ h => h)) rfl (fun _ h => nomatch h) (fun S116 y125 hx120 hG117 hB118 hA119 => ?_)
  obtain ⟨d121, hd122⟩ : ∃ q, q = F_X3_readNumber_1 bs n ((e0 d106), (e1 d106), (e2 d106), (e3 d106), (e4 d106), (e5 d106), (e6 d106), (e7 d106), (e8 d106), (e5 d106), (e10 d106), (e11 d106), (eJ d106))  := ⟨_, rfl⟩
  have hq123 := (congrArg (fun q => F_X3_readNumber_1 bs n q ) (stC_mk ((congrFun (congrFun e113 193) o0).trans ((congrFun (up2_ne (k := 193)) o0).trans (sC_193 hs109))) ((congrFun (congrFun e113 194) o0).trans ((congrFun (up2_ne (k := 194)) o0).trans (sC_194 hs109))) ((congrFun (congrFun e113 195) o0).trans ((congrFun (up2_ne (k := 195)) o0).trans (sC_195 hs109))) ((congrFun (congrFun e113 196) o0).trans ((congrFun (up2_ne (k := 196)) o0).trans (sC_196 hs109))) ((congrFun (congrFun e113 197) o0).trans ((congrFun (up2_ne (k := 197)) o0).trans (sC_197 hs109))) ((congrFun (congrFun e113 198) o0).trans ((congrFun (up2_ne (k := 198)) o0).trans (sC_198 hs109))) ((congrFun (congrFun e113 199) o0).trans ((congrFun (up2_ne (k := 199)) o0).trans (sC_199 hs109))) ((congrFun (congrFun e113 200) o0).trans ((congrFun (up2_ne (k := 200)) o0).trans (sC_200 hs109))) ((congrFun (congrFun e113 201) o0).trans ((congrFun (up2_ne (k := 201)) o0).trans (sC_201 hs109))) (by rw [e113]; exact up2_self) ((congrFun (congrFun e113 203) o0).trans ((congrFun (up2_ne (k := 203)) o0).trans (sC_203 hs109))) ((congrFun (congrFun e113 204) o0).trans ((congrFun (up2_ne (k := 204)) o0).trans (sC_204 hs109))) ((congrFun (congrFun f114 205) o0).trans (sC_205 hs109)))).trans hd122.symm
  have hs124 := hx120.2.trans (congrArg Prod.fst hq123)
  obtain rfl : y125 = d121.2 := (xjC_v hx120).trans (congrArg Prod.snd hq123)
  refine gt_pJ (id := 205) (x := d121.2) dX3_readShift_18 fl_3_73 rfl rfl h0 hA119 rfl rfl rfl hG117 (fun S126 hG127 hA128 e129 f130 er131 => ?_)
  refine tt_aload_n (j := 0) dX3_readShift_21 rfl ?_
  refine tt_aload_n (j := 0) dX3_readShift_22 rfl ?_
  refine gt_gJ (id := 205) (v := d121.2) dX3_readShift_23 fl_3_73 rfl rfl h0 hA128 (by rw [f130]; exact up2_self) ?_
  refine tt_l2i dX3_readShift_26 ?_
  refine tt_aload_n (j := 0) dX3_readShift_27 rfl ?_
  refine gt_gI (id := 201) (v := (e8 d121.1)) dX3_readShift_28 fl_3_34 rfl rfl h0 hA128 ((congrFun (congrFun e129 201) o0).trans (sC_201 hs124)) ?_
  refine tt_iconst (v := 1) dX3_readShift_31 rfl ?_
  refine tt_isub dX3_readShift_32 ?_
  refine tt_iand dX3_readShift_33 ?_
  refine gt_pI (id := 204) (x := ((d121.2 : Int64).toInt32 &&& ((e8 d121.1) - 1))) dX3_readShift_34 fl_3_70 rfl rfl h0 hA128 rfl rfl rfl (gp_I hG127) (by decide) (fun h => absurd h (by decide)) (fun h => absurd h (by decide)) (fun S132 hG133 hA134 e135 f136 er137 => ?_)
  refine tt_aload_n (j := 0) dX3_readShift_37 rfl ?_
  refine gt_gI (id := 197) (v := (e4 d121.1)) dX3_readShift_38 fl_3_104 rfl rfl h0 hA134 ((congrFun (congrFun e135 197) o0).trans ((congrFun (up2_ne (k := 197)) o0).trans ((congrFun (congrFun e129 197) o0).trans (sC_197 hs124)))) ?_
  refine gt_by (c := (e4 d121.1) = 4) (fun q138 => ?_) (fun q138 => ?_)
  · skip
    refine gt_tseq (off := 31) (tgt := 72) 4 4 dX3_readShift_41 q138 rfl (by decide) (by decide) rfl rfl ?_
    refine tt_aload_n (j := 0) dX3_readShift_72 rfl ?_
    refine tt_bipush (v := 14) dX3_readShift_73 rfl ?_
    refine gt_pI (id := 200) (x := 14) dX3_readShift_75 fl_3_54 rfl rfl h0 hA134 rfl rfl rfl (gp_I hG133) (by decide) (fun h => absurd h (by decide)) (fun h => absurd h (by decide)) (fun S139 hG140 hA141 e142 f143 er144 => ?_)
    refine tt_goto (tgt := 104) dX3_readShift_78 rfl ?_
    have hF : F_X3_readShift bs n (StC S o0)  = ((e0 d121.1), (e1 d121.1), (e2 d121.1), (e3 d121.1), (e4 d121.1), (e5 d121.1), (e6 d121.1), 14, (e8 d121.1), (e9 d121.1), (e10 d121.1), ((d121.2 : Int64).toInt32 &&& ((e8 d121.1) - 1)), d121.2) := by
      subst hd122
      subst hd107
      unfold F_X3_readShift
      dsimp only
      rw [if_pos q138]
    exact tt_vreturn dX3_readShift_104 rfl (hP _ _ _ _ ⟨hG140, hA141, Or.inl ⟨_, rfl, rfl, Eq.trans (stC_mk ((congrFun (congrFun e142 193) o0).trans ((congrFun (up2_ne (k := 193)) o0).trans ((congrFun (congrFun e135 193) o0).trans ((congrFun (up2_ne (k := 193)) o0).trans ((congrFun (congrFun e129 193) o0).trans (sC_193 hs124)))))) ((congrFun (congrFun e142 194) o0).trans ((congrFun (up2_ne (k := 194)) o0).trans ((congrFun (congrFun e135 194) o0).trans ((congrFun (up2_ne (k := 194)) o0).trans ((congrFun (congrFun e129 194) o0).trans (sC_194 hs124)))))) ((congrFun (congrFun e142 195) o0).trans ((congrFun (up2_ne (k := 195)) o0).trans ((congrFun (congrFun e135 195) o0).trans ((congrFun (up2_ne (k := 195)) o0).trans ((congrFun (congrFun e129 195) o0).trans (sC_195 hs124)))))) ((congrFun (congrFun e142 196) o0).trans ((congrFun (up2_ne (k := 196)) o0).trans ((congrFun (congrFun e135 196) o0).trans ((congrFun (up2_ne (k := 196)) o0).trans ((congrFun (congrFun e129 196) o0).trans (sC_196 hs124)))))) ((congrFun (congrFun e142 197) o0).trans ((congrFun (up2_ne (k := 197)) o0).trans ((congrFun (congrFun e135 197) o0).trans ((congrFun (up2_ne (k := 197)) o0).trans ((congrFun (congrFun e129 197) o0).trans (sC_197 hs124)))))) ((congrFun (congrFun e142 198) o0).trans ((congrFun (up2_ne (k := 198)) o0).trans ((congrFun (congrFun e135 198) o0).trans ((congrFun (up2_ne (k := 198)) o0).trans ((congrFun (congrFun e129 198) o0).trans (sC_198 hs124)))))) ((congrFun (congrFun e142 199) o0).trans ((congrFun (up2_ne (k := 199)) o0).trans ((congrFun (congrFun e135 199) o0).trans ((congrFun (up2_ne (k := 199)) o0).trans ((congrFun (congrFun e129 199) o0).trans (sC_199 hs124)))))) (by rw [e142]; exact up2_self) ((congrFun (congrFun e142 201) o0).trans ((congrFun (up2_ne (k := 201)) o0).trans ((congrFun (congrFun e135 201) o0).trans ((congrFun (up2_ne (k := 201)) o0).trans ((congrFun (congrFun e129 201) o0).trans (sC_201 hs124)))))) ((congrFun (congrFun e142 202) o0).trans ((congrFun (up2_ne (k := 202)) o0).trans ((congrFun (congrFun e135 202) o0).trans ((congrFun (up2_ne (k := 202)) o0).trans ((congrFun (congrFun e129 202) o0).trans (sC_202 hs124)))))) ((congrFun (congrFun e142 203) o0).trans ((congrFun (up2_ne (k := 203)) o0).trans ((congrFun (congrFun e135 203) o0).trans ((congrFun (up2_ne (k := 203)) o0).trans ((congrFun (congrFun e129 203) o0).trans (sC_203 hs124)))))) ((congrFun (congrFun e142 204) o0).trans ((congrFun (up2_ne (k := 204)) o0).trans (by rw [e135]; exact up2_self))) ((congrFun (congrFun f143 205) o0).trans ((congrFun (congrFun f136 205) o0).trans (by rw [f130]; exact up2_self)))) hF.symm, rfl, rfl⟩⟩)
  refine gt_by (c := (e4 d121.1) = 5) (fun q145 => ?_) (fun q145 => ?_)
  · skip
    refine gt_tseq (off := 40) (tgt := 81) 5 5 dX3_readShift_41 q145 rfl (by decide) (by decide) rfl rfl ?_
    refine tt_aload_n (j := 0) dX3_readShift_81 rfl ?_
    refine tt_bipush (v := 15) dX3_readShift_82 rfl ?_
    refine gt_pI (id := 200) (x := 15) dX3_readShift_84 fl_3_54 rfl rfl h0 hA134 rfl rfl rfl (gp_I hG133) (by decide) (fun h => absurd h (by decide)) (fun h => absurd h (by decide)) (fun S146 hG147 hA148 e149 f150 er151 => ?_)
    refine tt_goto (tgt := 104) dX3_readShift_87 rfl ?_
    have hF : F_X3_readShift bs n (StC S o0)  = ((e0 d121.1), (e1 d121.1), (e2 d121.1), (e3 d121.1), (e4 d121.1), (e5 d121.1), (e6 d121.1), 15, (e8 d121.1), (e9 d121.1), (e10 d121.1), ((d121.2 : Int64).toInt32 &&& ((e8 d121.1) - 1)), d121.2) := by
      subst hd122
      subst hd107
      unfold F_X3_readShift
      dsimp only
      rw [if_neg q138, if_pos q145]
    exact tt_vreturn dX3_readShift_104 rfl (hP _ _ _ _ ⟨hG147, hA148, Or.inl ⟨_, rfl, rfl, Eq.trans (stC_mk ((congrFun (congrFun e149 193) o0).trans ((congrFun (up2_ne (k := 193)) o0).trans ((congrFun (congrFun e135 193) o0).trans ((congrFun (up2_ne (k := 193)) o0).trans ((congrFun (congrFun e129 193) o0).trans (sC_193 hs124)))))) ((congrFun (congrFun e149 194) o0).trans ((congrFun (up2_ne (k := 194)) o0).trans ((congrFun (congrFun e135 194) o0).trans ((congrFun (up2_ne (k := 194)) o0).trans ((congrFun (congrFun e129 194) o0).trans (sC_194 hs124)))))) ((congrFun (congrFun e149 195) o0).trans ((congrFun (up2_ne (k := 195)) o0).trans ((congrFun (congrFun e135 195) o0).trans ((congrFun (up2_ne (k := 195)) o0).trans ((congrFun (congrFun e129 195) o0).trans (sC_195 hs124)))))) ((congrFun (congrFun e149 196) o0).trans ((congrFun (up2_ne (k := 196)) o0).trans ((congrFun (congrFun e135 196) o0).trans ((congrFun (up2_ne (k := 196)) o0).trans ((congrFun (congrFun e129 196) o0).trans (sC_196 hs124)))))) ((congrFun (congrFun e149 197) o0).trans ((congrFun (up2_ne (k := 197)) o0).trans ((congrFun (congrFun e135 197) o0).trans ((congrFun (up2_ne (k := 197)) o0).trans ((congrFun (congrFun e129 197) o0).trans (sC_197 hs124)))))) ((congrFun (congrFun e149 198) o0).trans ((congrFun (up2_ne (k := 198)) o0).trans ((congrFun (congrFun e135 198) o0).trans ((congrFun (up2_ne (k := 198)) o0).trans ((congrFun (congrFun e129 198) o0).trans (sC_198 hs124)))))) ((congrFun (congrFun e149 199) o0).trans ((congrFun (up2_ne (k := 199)) o0).trans ((congrFun (congrFun e135 199) o0).trans ((congrFun (up2_ne (k := 199)) o0).trans ((congrFun (congrFun e129 199) o0).trans (sC_199 hs124)))))) (by rw [e149]; exact up2_self) ((congrFun (congrFun e149 201) o0).trans ((congrFun (up2_ne (k := 201)) o0).trans ((congrFun (congrFun e135 201) o0).trans ((congrFun (up2_ne (k := 201)) o0).trans ((congrFun (congrFun e129 201) o0).trans (sC_201 hs124)))))) ((congrFun (congrFun e149 202) o0).trans ((congrFun (up2_ne (k := 202)) o0).trans ((congrFun (congrFun e135 202) o0).trans ((congrFun (up2_ne (k := 202)) o0).trans ((congrFun (congrFun e129 202) o0).trans (sC_202 hs124)))))) ((congrFun (congrFun e149 203) o0).trans ((congrFun (up2_ne (k := 203)) o0).trans ((congrFun (congrFun e135 203) o0).trans ((congrFun (up2_ne (k := 203)) o0).trans ((congrFun (congrFun e129 203) o0).trans (sC_203 hs124)))))) ((congrFun (congrFun e149 204) o0).trans ((congrFun (up2_ne (k := 204)) o0).trans (by rw [e135]; exact up2_self))) ((congrFun (congrFun f150 205) o0).trans ((congrFun (congrFun f136 205) o0).trans (by rw [f130]; exact up2_self)))) hF.symm, rfl, rfl⟩⟩)
  refine gt_by (c := (e4 d121.1) = 6) (fun q152 => ?_) (fun q152 => ?_)
  · skip
    refine gt_tseq (off := 58) (tgt := 99) 6 6 dX3_readShift_41 q152 rfl (by decide) (by decide) rfl rfl ?_
    refine tt_aload_n (j := 0) dX3_readShift_99 rfl ?_
    refine tt_iconst (v := 0) dX3_readShift_100 rfl ?_
    refine gt_pI (id := 195) (x := 0) dX3_readShift_101 fl_3_22 rfl rfl h0 hA134 rfl rfl rfl (gp_Ir hG133 (⟨by decide, by decide⟩ : Rg 0 0 0)) (by decide) (fun h => absurd h (by decide)) (fun h => absurd h (by decide)) (fun S153 hG154 hA155 e156 f157 er158 => ?_)
    have hF : F_X3_readShift bs n (StC S o0)  = ((e0 d121.1), (e1 d121.1), 0, (e3 d121.1), (e4 d121.1), (e5 d121.1), (e6 d121.1), (e7 d121.1), (e8 d121.1), (e9 d121.1), (e10 d121.1), ((d121.2 : Int64).toInt32 &&& ((e8 d121.1) - 1)), d121.2) := by
      subst hd122
      subst hd107
      unfold F_X3_readShift
      dsimp only
      rw [if_neg q138, if_neg q145, if_pos q152]
    exact tt_vreturn dX3_readShift_104 rfl (hP _ _ _ _ ⟨hG154, hA155, Or.inl ⟨_, rfl, rfl, Eq.trans (stC_mk ((congrFun (congrFun e156 193) o0).trans ((congrFun (up2_ne (k := 193)) o0).trans ((congrFun (congrFun e135 193) o0).trans ((congrFun (up2_ne (k := 193)) o0).trans ((congrFun (congrFun e129 193) o0).trans (sC_193 hs124)))))) ((congrFun (congrFun e156 194) o0).trans ((congrFun (up2_ne (k := 194)) o0).trans ((congrFun (congrFun e135 194) o0).trans ((congrFun (up2_ne (k := 194)) o0).trans ((congrFun (congrFun e129 194) o0).trans (sC_194 hs124)))))) (by rw [e156]; exact up2_self) ((congrFun (congrFun e156 196) o0).trans ((congrFun (up2_ne (k := 196)) o0).trans ((congrFun (congrFun e135 196) o0).trans ((congrFun (up2_ne (k := 196)) o0).trans ((congrFun (congrFun e129 196) o0).trans (sC_196 hs124)))))) ((congrFun (congrFun e156 197) o0).trans ((congrFun (up2_ne (k := 197)) o0).trans ((congrFun (congrFun e135 197) o0).trans ((congrFun (up2_ne (k := 197)) o0).trans ((congrFun (congrFun e129 197) o0).trans (sC_197 hs124)))))) ((congrFun (congrFun e156 198) o0).trans ((congrFun (up2_ne (k := 198)) o0).trans ((congrFun (congrFun e135 198) o0).trans ((congrFun (up2_ne (k := 198)) o0).trans ((congrFun (congrFun e129 198) o0).trans (sC_198 hs124)))))) ((congrFun (congrFun e156 199) o0).trans ((congrFun (up2_ne (k := 199)) o0).trans ((congrFun (congrFun e135 199) o0).trans ((congrFun (up2_ne (k := 199)) o0).trans ((congrFun (congrFun e129 199) o0).trans (sC_199 hs124)))))) ((congrFun (congrFun e156 200) o0).trans ((congrFun (up2_ne (k := 200)) o0).trans ((congrFun (congrFun e135 200) o0).trans ((congrFun (up2_ne (k := 200)) o0).trans ((congrFun (congrFun e129 200) o0).trans (sC_200 hs124)))))) ((congrFun (congrFun e156 201) o0).trans ((congrFun (up2_ne (k := 201)) o0).trans ((congrFun (congrFun e135 201) o0).trans ((congrFun (up2_ne (k := 201)) o0).trans ((congrFun (congrFun e129 201) o0).trans (sC_201 hs124)))))) ((congrFun (congrFun e156 202) o0).trans ((congrFun (up2_ne (k := 202)) o0).trans ((congrFun (congrFun e135 202) o0).trans ((congrFun (up2_ne (k := 202)) o0).trans ((congrFun (congrFun e129 202) o0).trans (sC_202 hs124)))))) ((congrFun (congrFun e156 203) o0).trans ((congrFun (up2_ne (k := 203)) o0).trans ((congrFun (congrFun e135 203) o0).trans ((congrFun (up2_ne (k := 203)) o0).trans ((congrFun (congrFun e129 203) o0).trans (sC_203 hs124)))))) ((congrFun (congrFun e156 204) o0).trans ((congrFun (up2_ne (k := 204)) o0).trans (by rw [e135]; exact up2_self))) ((congrFun (congrFun f157 205) o0).trans ((congrFun (congrFun f136 205) o0).trans (by rw [f130]; exact up2_self)))) hF.symm, rfl, rfl⟩⟩)
  refine gt_by (c := (e4 d121.1) = 7) (fun q159 => ?_) (fun q159 => ?_)
  · skip
    refine gt_tseq (off := 49) (tgt := 90) 7 7 dX3_readShift_41 q159 rfl (by decide) (by decide) rfl rfl ?_
    refine tt_aload_n (j := 0) dX3_readShift_90 rfl ?_
    refine tt_bipush (v := 16) dX3_readShift_91 rfl ?_
    refine gt_pI (id := 200) (x := 16) dX3_readShift_93 fl_3_54 rfl rfl h0 hA134 rfl rfl rfl (gp_I hG133) (by decide) (fun h => absurd h (by decide)) (fun h => absurd h (by decide)) (fun S160 hG161 hA162 e163 f164 er165 => ?_)
    refine tt_goto (tgt := 104) dX3_readShift_96 rfl ?_
    have hF : F_X3_readShift bs n (StC S o0)  = ((e0 d121.1), (e1 d121.1), (e2 d121.1), (e3 d121.1), (e4 d121.1), (e5 d121.1), (e6 d121.1), 16, (e8 d121.1), (e9 d121.1), (e10 d121.1), ((d121.2 : Int64).toInt32 &&& ((e8 d121.1) - 1)), d121.2) := by
      subst hd122
      subst hd107
      unfold F_X3_readShift
      dsimp only
      rw [if_neg q138, if_neg q145, if_neg q152, if_pos q159]
    exact tt_vreturn dX3_readShift_104 rfl (hP _ _ _ _ ⟨hG161, hA162, Or.inl ⟨_, rfl, rfl, Eq.trans (stC_mk ((congrFun (congrFun e163 193) o0).trans ((congrFun (up2_ne (k := 193)) o0).trans ((congrFun (congrFun e135 193) o0).trans ((congrFun (up2_ne (k := 193)) o0).trans ((congrFun (congrFun e129 193) o0).trans (sC_193 hs124)))))) ((congrFun (congrFun e163 194) o0).trans ((congrFun (up2_ne (k := 194)) o0).trans ((congrFun (congrFun e135 194) o0).trans ((congrFun (up2_ne (k := 194)) o0).trans ((congrFun (congrFun e129 194) o0).trans (sC_194 hs124)))))) ((congrFun (congrFun e163 195) o0).trans ((congrFun (up2_ne (k := 195)) o0).trans ((congrFun (congrFun e135 195) o0).trans ((congrFun (up2_ne (k := 195)) o0).trans ((congrFun (congrFun e129 195) o0).trans (sC_195 hs124)))))) ((congrFun (congrFun e163 196) o0).trans ((congrFun (up2_ne (k := 196)) o0).trans ((congrFun (congrFun e135 196) o0).trans ((congrFun (up2_ne (k := 196)) o0).trans ((congrFun (congrFun e129 196) o0).trans (sC_196 hs124)))))) ((congrFun (congrFun e163 197) o0).trans ((congrFun (up2_ne (k := 197)) o0).trans ((congrFun (congrFun e135 197) o0).trans ((congrFun (up2_ne (k := 197)) o0).trans ((congrFun (congrFun e129 197) o0).trans (sC_197 hs124)))))) ((congrFun (congrFun e163 198) o0).trans ((congrFun (up2_ne (k := 198)) o0).trans ((congrFun (congrFun e135 198) o0).trans ((congrFun (up2_ne (k := 198)) o0).trans ((congrFun (congrFun e129 198) o0).trans (sC_198 hs124)))))) ((congrFun (congrFun e163 199) o0).trans ((congrFun (up2_ne (k := 199)) o0).trans ((congrFun (congrFun e135 199) o0).trans ((congrFun (up2_ne (k := 199)) o0).trans ((congrFun (congrFun e129 199) o0).trans (sC_199 hs124)))))) (by rw [e163]; exact up2_self) ((congrFun (congrFun e163 201) o0).trans ((congrFun (up2_ne (k := 201)) o0).trans ((congrFun (congrFun e135 201) o0).trans ((congrFun (up2_ne (k := 201)) o0).trans ((congrFun (congrFun e129 201) o0).trans (sC_201 hs124)))))) ((congrFun (congrFun e163 202) o0).trans ((congrFun (up2_ne (k := 202)) o0).trans ((congrFun (congrFun e135 202) o0).trans ((congrFun (up2_ne (k := 202)) o0).trans ((congrFun (congrFun e129 202) o0).trans (sC_202 hs124)))))) ((congrFun (congrFun e163 203) o0).trans ((congrFun (up2_ne (k := 203)) o0).trans ((congrFun (congrFun e135 203) o0).trans ((congrFun (up2_ne (k := 203)) o0).trans ((congrFun (congrFun e129 203) o0).trans (sC_203 hs124)))))) ((congrFun (congrFun e163 204) o0).trans ((congrFun (up2_ne (k := 204)) o0).trans (by rw [e135]; exact up2_self))) ((congrFun (congrFun f164 205) o0).trans ((congrFun (congrFun f136 205) o0).trans (by rw [f130]; exact up2_self)))) hF.symm, rfl, rfl⟩⟩)
  have g166 := ne_i (k := 4) 4 q138 rfl
  have g167 := ne_i (k := 5) 5 q145 rfl
  have g168 := ne_i (k := 6) 6 q152 rfl
  have g169 := ne_i (k := 7) 7 q159 rfl
  refine tt_tableOut (tgt := 99) dX3_readShift_41 (by omega) rfl ?_
  refine tt_aload_n (j := 0) dX3_readShift_99 rfl ?_
  refine tt_iconst (v := 0) dX3_readShift_100 rfl ?_
  refine gt_pI (id := 195) (x := 0) dX3_readShift_101 fl_3_22 rfl rfl h0 hA134 rfl rfl rfl (gp_Ir hG133 (⟨by decide, by decide⟩ : Rg 0 0 0)) (by decide) (fun h => absurd h (by decide)) (fun h => absurd h (by decide)) (fun S170 hG171 hA172 e173 f174 er175 => ?_)
  have hF : F_X3_readShift bs n (StC S o0)  = ((e0 d121.1), (e1 d121.1), 0, (e3 d121.1), (e4 d121.1), (e5 d121.1), (e6 d121.1), (e7 d121.1), (e8 d121.1), (e9 d121.1), (e10 d121.1), ((d121.2 : Int64).toInt32 &&& ((e8 d121.1) - 1)), d121.2) := by
    subst hd122
    subst hd107
    unfold F_X3_readShift
    dsimp only
    rw [if_neg q138, if_neg q145, if_neg q152, if_neg q159]
  exact tt_vreturn dX3_readShift_104 rfl (hP _ _ _ _ ⟨hG171, hA172, Or.inl ⟨_, rfl, rfl, Eq.trans (stC_mk ((congrFun (congrFun e173 193) o0).trans ((congrFun (up2_ne (k := 193)) o0).trans ((congrFun (congrFun e135 193) o0).trans ((congrFun (up2_ne (k := 193)) o0).trans ((congrFun (congrFun e129 193) o0).trans (sC_193 hs124)))))) ((congrFun (congrFun e173 194) o0).trans ((congrFun (up2_ne (k := 194)) o0).trans ((congrFun (congrFun e135 194) o0).trans ((congrFun (up2_ne (k := 194)) o0).trans ((congrFun (congrFun e129 194) o0).trans (sC_194 hs124)))))) (by rw [e173]; exact up2_self) ((congrFun (congrFun e173 196) o0).trans ((congrFun (up2_ne (k := 196)) o0).trans ((congrFun (congrFun e135 196) o0).trans ((congrFun (up2_ne (k := 196)) o0).trans ((congrFun (congrFun e129 196) o0).trans (sC_196 hs124)))))) ((congrFun (congrFun e173 197) o0).trans ((congrFun (up2_ne (k := 197)) o0).trans ((congrFun (congrFun e135 197) o0).trans ((congrFun (up2_ne (k := 197)) o0).trans ((congrFun (congrFun e129 197) o0).trans (sC_197 hs124)))))) ((congrFun (congrFun e173 198) o0).trans ((congrFun (up2_ne (k := 198)) o0).trans ((congrFun (congrFun e135 198) o0).trans ((congrFun (up2_ne (k := 198)) o0).trans ((congrFun (congrFun e129 198) o0).trans (sC_198 hs124)))))) ((congrFun (congrFun e173 199) o0).trans ((congrFun (up2_ne (k := 199)) o0).trans ((congrFun (congrFun e135 199) o0).trans ((congrFun (up2_ne (k := 199)) o0).trans ((congrFun (congrFun e129 199) o0).trans (sC_199 hs124)))))) ((congrFun (congrFun e173 200) o0).trans ((congrFun (up2_ne (k := 200)) o0).trans ((congrFun (congrFun e135 200) o0).trans ((congrFun (up2_ne (k := 200)) o0).trans ((congrFun (congrFun e129 200) o0).trans (sC_200 hs124)))))) ((congrFun (congrFun e173 201) o0).trans ((congrFun (up2_ne (k := 201)) o0).trans ((congrFun (congrFun e135 201) o0).trans ((congrFun (up2_ne (k := 201)) o0).trans ((congrFun (congrFun e129 201) o0).trans (sC_201 hs124)))))) ((congrFun (congrFun e173 202) o0).trans ((congrFun (up2_ne (k := 202)) o0).trans ((congrFun (congrFun e135 202) o0).trans ((congrFun (up2_ne (k := 202)) o0).trans ((congrFun (congrFun e129 202) o0).trans (sC_202 hs124)))))) ((congrFun (congrFun e173 203) o0).trans ((congrFun (up2_ne (k := 203)) o0).trans ((congrFun (congrFun e135 203) o0).trans ((congrFun (up2_ne (k := 203)) o0).trans ((congrFun (congrFun e129 203) o0).trans (sC_203 hs124)))))) ((congrFun (congrFun e173 204) o0).trans ((congrFun (up2_ne (k := 204)) o0).trans (by rw [e135]; exact up2_self))) ((congrFun (congrFun f174 205) o0).trans ((congrFun (congrFun f136 205) o0).trans (by rw [f130]; exact up2_self)))) hF.symm, rfl, rfl⟩⟩)
def F_X3_readMoveToPlace (bs : Nat → Int32) (n : Int32) (d : DD) : DD :=
  let d106 := F_X3_readPlace bs n d 
  let d127 := F_X3_readNumber_4 bs n ((e0 d106), (e1 d106), (e2 d106), (e3 d106), (e4 d106), (e5 d106), (e6 d106), 13, (e8 d106), (e5 d106), (e10 d106), (e11 d106), (eJ d106)) 
  if (e4 d127.1) = 0 then
    ((e0 d127.1), (e1 d127.1), (e2 d127.1), (e3 d127.1), (e4 d127.1), (e5 d127.1), (e6 d127.1), (e7 d127.1), (e8 d127.1), (e9 d127.1), (e10 d127.1), (e11 d127.1), d127.2)
  else
    ((e0 d127.1), (e1 d127.1), 0, (e3 d127.1), (e4 d127.1), (e5 d127.1), (e6 d127.1), (e7 d127.1), (e8 d127.1), (e9 d127.1), (e10 d127.1), (e11 d127.1), d127.2)
set_option maxHeartbeats 2000000 in
theorem ce_X3_readMoveToPlace {xi : SX} {S : Hp} {E : List Nat} {kc nc : Nat} {P : Po} {o0 : Nat} {bs : Nat → Int32} {n : Int32} (hG : GI S E) (h0 : Oa S E 3 0 o0) (hb : BC S E o0 bs n) (hP : ∀ r T x y, PV E [193, 195, 196, 197, 198, 200, 202] S kc nc rV (fun v T => StC T o0 = F_X3_readMoveToPlace bs n (StC S o0) ) [] r T x y → P r T x y) : TT xi M_X3_readMoveToPlace 0 [(0, .ref o0)] [] S kc nc P := by
  have hA : Af E [193, 195, 196, 197, 198, 200, 202] S S := af_rf
  refine tt_aload_n (j := 0) dX3_readMoveToPlace_0 rfl ?_
  refine gt_Vv (As := []) dX3_readMoveToPlace_1 ca_X3_95 ⟨by decide, by decide⟩ h0 hA rfl (Nat.le_of_ble_eq_true rfl) (Nat.le_of_ble_eq_true rfl) (by decide) (ce_X3_readPlace hG (oa_af h0 hA) (bc_af hb h0 hA) (fun _ _ _ _ h => h)) rfl (fun _ h => nomatch h) (fun S101 hx105 hG102 hB103 hA104 => ?_)
  obtain ⟨d106, hd107⟩ : ∃ q, q = F_X3_readPlace bs n (StC S o0)  := ⟨_, rfl⟩
  have hq108 := (congrArg (fun q => F_X3_readPlace bs n q ) (stC_mk (sC_193 (T := S) (o := o0) rfl) (sC_194 (T := S) (o := o0) rfl) (sC_195 (T := S) (o := o0) rfl) (sC_196 (T := S) (o := o0) rfl) (sC_197 (T := S) (o := o0) rfl) (sC_198 (T := S) (o := o0) rfl) (sC_199 (T := S) (o := o0) rfl) (sC_200 (T := S) (o := o0) rfl) (sC_201 (T := S) (o := o0) rfl) (sC_202 (T := S) (o := o0) rfl) (sC_203 (T := S) (o := o0) rfl) (sC_204 (T := S) (o := o0) rfl) (sC_205 (T := S) (o := o0) rfl))).trans hd107.symm
  have hs109 := hx105.trans hq108
  refine tt_aload_n (j := 0) dX3_readMoveToPlace_4 rfl ?_
  refine tt_bipush (v := 13) dX3_readMoveToPlace_5 rfl ?_
  refine gt_pI (id := 200) (x := 13) dX3_readMoveToPlace_7 fl_3_54 rfl rfl h0 hA104 rfl rfl rfl (gp_I hG102) (by decide) (fun h => absurd h (by decide)) (fun h => absurd h (by decide)) (fun S110 hG111 hA112 e113 f114 er115 => ?_)
  refine tt_aload_n (j := 0) dX3_readMoveToPlace_10 rfl ?_
  refine tt_aload_n (j := 0) dX3_readMoveToPlace_11 rfl ?_
  refine gt_gI (id := 198) (v := (e5 d106)) dX3_readMoveToPlace_12 fl_3_98 rfl rfl h0 hA112 ((congrFun (congrFun e113 198) o0).trans ((congrFun (up2_ne (k := 198)) o0).trans (sC_198 hs109))) ?_
  refine gt_pI (id := 202) (x := (e5 d106)) dX3_readMoveToPlace_15 fl_3_64 rfl rfl h0 hA112 rfl rfl rfl (gp_I hG111) (by decide) (fun h => absurd h (by decide)) (fun h => absurd h (by decide)) (fun S116 hG117 hA118 e119 f120 er121 => ?_)
  refine tt_aload_n (j := 0) dX3_readMoveToPlace_18 rfl ?_
  refine tt_aload_n (j := 0) dX3_readMoveToPlace_19 rfl ?_
  refine tt_iconst (v := 4) dX3_readMoveToPlace_20 rfl ?_
  refine gt_VJ (As := [.int 4]) dX3_readMoveToPlace_21 ca_X3_107 ⟨by decide, by decide⟩ h0 hA118 rfl (Nat.le_of_ble_eq_true rfl) (Nat.le_of_ble_eq_true rfl) (by decide) (ce_X3_readNumber_4 hG117 (oa_af h0 hA118) (bc_af hb h0 hA118) (fun _ _ _ _ h => h)) rfl (fun _ h => nomatch h) (fun S122 y131 hx126 hG123 hB124 hA125 => ?_)
  obtain ⟨d127, hd128⟩ : ∃ q, q = F_X3_readNumber_4 bs n ((e0 d106), (e1 d106), (e2 d106), (e3 d106), (e4 d106), (e5 d106), (e6 d106), 13, (e8 d106), (e5 d106), (e10 d106), (e11 d106), (eJ d106))  := ⟨_, rfl⟩
  have hq129 := (congrArg (fun q => F_X3_readNumber_4 bs n q ) (stC_mk ((congrFun (congrFun e119 193) o0).trans ((congrFun (up2_ne (k := 193)) o0).trans ((congrFun (congrFun e113 193) o0).trans ((congrFun (up2_ne (k := 193)) o0).trans (sC_193 hs109))))) ((congrFun (congrFun e119 194) o0).trans ((congrFun (up2_ne (k := 194)) o0).trans ((congrFun (congrFun e113 194) o0).trans ((congrFun (up2_ne (k := 194)) o0).trans (sC_194 hs109))))) ((congrFun (congrFun e119 195) o0).trans ((congrFun (up2_ne (k := 195)) o0).trans ((congrFun (congrFun e113 195) o0).trans ((congrFun (up2_ne (k := 195)) o0).trans (sC_195 hs109))))) ((congrFun (congrFun e119 196) o0).trans ((congrFun (up2_ne (k := 196)) o0).trans ((congrFun (congrFun e113 196) o0).trans ((congrFun (up2_ne (k := 196)) o0).trans (sC_196 hs109))))) ((congrFun (congrFun e119 197) o0).trans ((congrFun (up2_ne (k := 197)) o0).trans ((congrFun (congrFun e113 197) o0).trans ((congrFun (up2_ne (k := 197)) o0).trans (sC_197 hs109))))) ((congrFun (congrFun e119 198) o0).trans ((congrFun (up2_ne (k := 198)) o0).trans ((congrFun (congrFun e113 198) o0).trans ((congrFun (up2_ne (k := 198)) o0).trans (sC_198 hs109))))) ((congrFun (congrFun e119 199) o0).trans ((congrFun (up2_ne (k := 199)) o0).trans ((congrFun (congrFun e113 199) o0).trans ((congrFun (up2_ne (k := 199)) o0).trans (sC_199 hs109))))) ((congrFun (congrFun e119 200) o0).trans ((congrFun (up2_ne (k := 200)) o0).trans (by rw [e113]; exact up2_self))) ((congrFun (congrFun e119 201) o0).trans ((congrFun (up2_ne (k := 201)) o0).trans ((congrFun (congrFun e113 201) o0).trans ((congrFun (up2_ne (k := 201)) o0).trans (sC_201 hs109))))) (by rw [e119]; exact up2_self) ((congrFun (congrFun e119 203) o0).trans ((congrFun (up2_ne (k := 203)) o0).trans ((congrFun (congrFun e113 203) o0).trans ((congrFun (up2_ne (k := 203)) o0).trans (sC_203 hs109))))) ((congrFun (congrFun e119 204) o0).trans ((congrFun (up2_ne (k := 204)) o0).trans ((congrFun (congrFun e113 204) o0).trans ((congrFun (up2_ne (k := 204)) o0).trans (sC_204 hs109))))) ((congrFun (congrFun f120 205) o0).trans ((congrFun (congrFun f114 205) o0).trans (sC_205 hs109))))).trans hd128.symm
  have hs130 := hx126.2.trans (congrArg Prod.fst hq129)
  obtain rfl : y131 = d127.2 := (xjC_v hx126).trans (congrArg Prod.snd hq129)
  refine gt_pJ (id := 205) (x := d127.2) dX3_readMoveToPlace_24 fl_3_73 rfl rfl h0 hA125 rfl rfl rfl hG123 (fun S132 hG133 hA134 e135 f136 er137 => ?_)
  refine tt_aload_n (j := 0) dX3_readMoveToPlace_27 rfl ?_
  refine gt_gI (id := 197) (v := (e4 d127.1)) dX3_readMoveToPlace_28 fl_3_104 rfl rfl h0 hA134 ((congrFun (congrFun e135 197) o0).trans (sC_197 hs130)) ?_
  refine tt_if_eq (tgt := 39) dX3_readMoveToPlace_31 rfl (fun q138 => ?_) (fun q138 => ?_)
  · skip
    have h139 : Rg 0 0 (e4 d127.1) := rg_eq_l (rg_all (e4 d127.1)) (⟨by decide, by decide⟩ : Rg 0 0 0) q138
    have hF : F_X3_readMoveToPlace bs n (StC S o0)  = ((e0 d127.1), (e1 d127.1), (e2 d127.1), (e3 d127.1), (e4 d127.1), (e5 d127.1), (e6 d127.1), (e7 d127.1), (e8 d127.1), (e9 d127.1), (e10 d127.1), (e11 d127.1), d127.2) := by
      subst hd128
      subst hd107
      unfold F_X3_readMoveToPlace
      dsimp only
      rw [if_pos q138]
    exact tt_vreturn dX3_readMoveToPlace_39 rfl (hP _ _ _ _ ⟨hG133, hA134, Or.inl ⟨_, rfl, rfl, Eq.trans (stC_mk ((congrFun (congrFun e135 193) o0).trans (sC_193 hs130)) ((congrFun (congrFun e135 194) o0).trans (sC_194 hs130)) ((congrFun (congrFun e135 195) o0).trans (sC_195 hs130)) ((congrFun (congrFun e135 196) o0).trans (sC_196 hs130)) ((congrFun (congrFun e135 197) o0).trans (sC_197 hs130)) ((congrFun (congrFun e135 198) o0).trans (sC_198 hs130)) ((congrFun (congrFun e135 199) o0).trans (sC_199 hs130)) ((congrFun (congrFun e135 200) o0).trans (sC_200 hs130)) ((congrFun (congrFun e135 201) o0).trans (sC_201 hs130)) ((congrFun (congrFun e135 202) o0).trans (sC_202 hs130)) ((congrFun (congrFun e135 203) o0).trans (sC_203 hs130)) ((congrFun (congrFun e135 204) o0).trans (sC_204 hs130)) (by rw [f136]; exact up2_self)) hF.symm, rfl, rfl⟩⟩)
  · skip
    refine tt_aload_n (j := 0) dX3_readMoveToPlace_34 rfl ?_
    refine tt_iconst (v := 0) dX3_readMoveToPlace_35 rfl ?_
    refine gt_pI (id := 195) (x := 0) dX3_readMoveToPlace_36 fl_3_22 rfl rfl h0 hA134 rfl rfl rfl (gp_Ir hG133 (⟨by decide, by decide⟩ : Rg 0 0 0)) (by decide) (fun h => absurd h (by decide)) (fun h => absurd h (by decide)) (fun S140 hG141 hA142 e143 f144 er145 => ?_)
    have hF : F_X3_readMoveToPlace bs n (StC S o0)  = ((e0 d127.1), (e1 d127.1), 0, (e3 d127.1), (e4 d127.1), (e5 d127.1), (e6 d127.1), (e7 d127.1), (e8 d127.1), (e9 d127.1), (e10 d127.1), (e11 d127.1), d127.2) := by
      subst hd128
      subst hd107
      unfold F_X3_readMoveToPlace
      dsimp only
      rw [if_neg q138]
    exact tt_vreturn dX3_readMoveToPlace_39 rfl (hP _ _ _ _ ⟨hG141, hA142, Or.inl ⟨_, rfl, rfl, Eq.trans (stC_mk ((congrFun (congrFun e143 193) o0).trans ((congrFun (up2_ne (k := 193)) o0).trans ((congrFun (congrFun e135 193) o0).trans (sC_193 hs130)))) ((congrFun (congrFun e143 194) o0).trans ((congrFun (up2_ne (k := 194)) o0).trans ((congrFun (congrFun e135 194) o0).trans (sC_194 hs130)))) (by rw [e143]; exact up2_self) ((congrFun (congrFun e143 196) o0).trans ((congrFun (up2_ne (k := 196)) o0).trans ((congrFun (congrFun e135 196) o0).trans (sC_196 hs130)))) ((congrFun (congrFun e143 197) o0).trans ((congrFun (up2_ne (k := 197)) o0).trans ((congrFun (congrFun e135 197) o0).trans (sC_197 hs130)))) ((congrFun (congrFun e143 198) o0).trans ((congrFun (up2_ne (k := 198)) o0).trans ((congrFun (congrFun e135 198) o0).trans (sC_198 hs130)))) ((congrFun (congrFun e143 199) o0).trans ((congrFun (up2_ne (k := 199)) o0).trans ((congrFun (congrFun e135 199) o0).trans (sC_199 hs130)))) ((congrFun (congrFun e143 200) o0).trans ((congrFun (up2_ne (k := 200)) o0).trans ((congrFun (congrFun e135 200) o0).trans (sC_200 hs130)))) ((congrFun (congrFun e143 201) o0).trans ((congrFun (up2_ne (k := 201)) o0).trans ((congrFun (congrFun e135 201) o0).trans (sC_201 hs130)))) ((congrFun (congrFun e143 202) o0).trans ((congrFun (up2_ne (k := 202)) o0).trans ((congrFun (congrFun e135 202) o0).trans (sC_202 hs130)))) ((congrFun (congrFun e143 203) o0).trans ((congrFun (up2_ne (k := 203)) o0).trans ((congrFun (congrFun e135 203) o0).trans (sC_203 hs130)))) ((congrFun (congrFun e143 204) o0).trans ((congrFun (up2_ne (k := 204)) o0).trans ((congrFun (congrFun e135 204) o0).trans (sC_204 hs130)))) ((congrFun (congrFun f144 205) o0).trans (by rw [f136]; exact up2_self))) hF.symm, rfl, rfl⟩⟩)
def F_X3_readMoveToRegister (bs : Nat → Int32) (n : Int32) (d : DD) (x1 : Int32) : DD :=
  if ((e1 d) &&& 1) = 0 then
    if (e8 d) = 64 then
      let d138 := F_X3_readNumber_8 bs n ((e0 d), (e1 d), (e2 d), (e3 d), (e4 d), (e5 d), (e6 d), 13, (e8 d), x1, (e10 d), (e11 d), (eJ d)) 
      ((e0 d138.1), (e1 d138.1), (e2 d138.1), (e3 d138.1), (e4 d138.1), (e5 d138.1), (e6 d138.1), (e7 d138.1), (e8 d138.1), (e9 d138.1), (e10 d138.1), (e11 d138.1), d138.2)
    else
      let d121 := F_X3_readNumber_4 bs n ((e0 d), (e1 d), (e2 d), (e3 d), (e4 d), (e5 d), (e6 d), 13, (e8 d), x1, (e10 d), (e11 d), (eJ d)) 
      ((e0 d121.1), (e1 d121.1), (e2 d121.1), (e3 d121.1), (e4 d121.1), (e5 d121.1), (e6 d121.1), (e7 d121.1), (e8 d121.1), (e9 d121.1), (e10 d121.1), (e11 d121.1), d121.2)
  else
    if (e8 d) = 64 then
      let d179 := F_X3_readNumber_8 bs n ((e0 d), (e1 d), (e2 d), (e3 d), (e4 d), (e5 d), (e6 d), 13, (e8 d), (x1 + 8), (e10 d), (e11 d), (eJ d)) 
      ((e0 d179.1), (e1 d179.1), (e2 d179.1), (e3 d179.1), (e4 d179.1), (e5 d179.1), (e6 d179.1), (e7 d179.1), (e8 d179.1), (e9 d179.1), (e10 d179.1), (e11 d179.1), d179.2)
    else
      let d162 := F_X3_readNumber_4 bs n ((e0 d), (e1 d), (e2 d), (e3 d), (e4 d), (e5 d), (e6 d), 13, (e8 d), (x1 + 8), (e10 d), (e11 d), (eJ d)) 
      ((e0 d162.1), (e1 d162.1), (e2 d162.1), (e3 d162.1), (e4 d162.1), (e5 d162.1), (e6 d162.1), (e7 d162.1), (e8 d162.1), (e9 d162.1), (e10 d162.1), (e11 d162.1), d162.2)
set_option maxHeartbeats 2000000 in
theorem ce_X3_readMoveToRegister {xi : SX} {S : Hp} {E : List Nat} {kc nc : Nat} {P : Po} {o0 : Nat} {x1 : Int32} {bs : Nat → Int32} {n : Int32} (hG : GI S E) (h0 : Oa S E 3 0 o0) (hb : BC S E o0 bs n) (hP : ∀ r T x y, PV E [193, 195, 200, 202] S kc nc rV (fun v T => StC T o0 = F_X3_readMoveToRegister bs n (StC S o0) x1) [] r T x y → P r T x y) : TT xi M_X3_readMoveToRegister 0 [(0, .ref o0), (1, .int x1)] [] S kc nc P := by
  have hA : Af E [193, 195, 200, 202] S S := af_rf
  refine tt_aload_n (j := 0) dX3_readMoveToRegister_0 rfl ?_
  refine tt_bipush (v := 13) dX3_readMoveToRegister_1 rfl ?_
  refine gt_pI (id := 200) (x := 13) dX3_readMoveToRegister_3 fl_3_54 rfl rfl h0 hA rfl rfl rfl (gp_I hG) (by decide) (fun h => absurd h (by decide)) (fun h => absurd h (by decide)) (fun S101 hG102 hA103 e104 f105 er106 => ?_)
  refine tt_aload_n (j := 0) dX3_readMoveToRegister_6 rfl ?_
  refine tt_aload_n (j := 0) dX3_readMoveToRegister_7 rfl ?_
  refine gt_gI (id := 194) (v := (e1 (StC S o0))) dX3_readMoveToRegister_8 fl_3_19 rfl rfl h0 hA103 ((congrFun (congrFun e104 194) o0).trans ((congrFun (up2_ne (k := 194)) o0).trans (sC_194 (T := S) (o := o0) rfl))) ?_
  refine tt_iconst (v := 1) dX3_readMoveToRegister_11 rfl ?_
  refine tt_iand dX3_readMoveToRegister_12 ?_
  refine tt_if_eq (tgt := 23) dX3_readMoveToRegister_13 rfl (fun q107 => ?_) (fun q107 => ?_)
  · skip
    have h108 : Rg 0 0 ((e1 (StC S o0)) &&& 1) := rg_eq_l (rg_and (x := (e1 (StC S o0))) (⟨by decide, by decide⟩ : Rg 1 1 1)) (⟨by decide, by decide⟩ : Rg 0 0 0) q107
    refine tt_iload_n (j := 1) dX3_readMoveToRegister_23 rfl ?_
    refine gt_pI (id := 202) (x := x1) dX3_readMoveToRegister_24 fl_3_64 rfl rfl h0 hA103 rfl rfl rfl (gp_I hG102) (by decide) (fun h => absurd h (by decide)) (fun h => absurd h (by decide)) (fun S109 hG110 hA111 e112 f113 er114 => ?_)
    refine tt_aload_n (j := 0) dX3_readMoveToRegister_27 rfl ?_
    refine tt_aload_n (j := 0) dX3_readMoveToRegister_28 rfl ?_
    refine tt_aload_n (j := 0) dX3_readMoveToRegister_29 rfl ?_
    refine gt_gI (id := 201) (v := (e8 (StC S o0))) dX3_readMoveToRegister_30 fl_3_34 rfl rfl h0 hA111 ((congrFun (congrFun e112 201) o0).trans ((congrFun (up2_ne (k := 201)) o0).trans ((congrFun (congrFun e104 201) o0).trans ((congrFun (up2_ne (k := 201)) o0).trans (sC_201 (T := S) (o := o0) rfl))))) ?_
    refine tt_bipush (v := 64) dX3_readMoveToRegister_33 rfl ?_
    refine tt_icmp_ne (tgt := 43) dX3_readMoveToRegister_35 rfl (fun q115 => ?_) (fun q115 => ?_)
    · skip
      refine tt_iconst (v := 4) dX3_readMoveToRegister_43 rfl ?_
      refine gt_VJ (As := [.int 4]) dX3_readMoveToRegister_44 ca_X3_107 ⟨by decide, by decide⟩ h0 hA111 rfl (Nat.le_of_ble_eq_true rfl) (Nat.le_of_ble_eq_true rfl) (by decide) (ce_X3_readNumber_4 hG110 (oa_af h0 hA111) (bc_af hb h0 hA111) (fun _ _ _ _ h => h)) rfl (fun _ h => nomatch h) (fun S116 y125 hx120 hG117 hB118 hA119 => ?_)
      obtain ⟨d121, hd122⟩ : ∃ q, q = F_X3_readNumber_4 bs n ((e0 (StC S o0)), (e1 (StC S o0)), (e2 (StC S o0)), (e3 (StC S o0)), (e4 (StC S o0)), (e5 (StC S o0)), (e6 (StC S o0)), 13, (e8 (StC S o0)), x1, (e10 (StC S o0)), (e11 (StC S o0)), (eJ (StC S o0)))  := ⟨_, rfl⟩
      have hq123 := (congrArg (fun q => F_X3_readNumber_4 bs n q ) (stC_mk ((congrFun (congrFun e112 193) o0).trans ((congrFun (up2_ne (k := 193)) o0).trans ((congrFun (congrFun e104 193) o0).trans ((congrFun (up2_ne (k := 193)) o0).trans (sC_193 (T := S) (o := o0) rfl))))) ((congrFun (congrFun e112 194) o0).trans ((congrFun (up2_ne (k := 194)) o0).trans ((congrFun (congrFun e104 194) o0).trans ((congrFun (up2_ne (k := 194)) o0).trans (sC_194 (T := S) (o := o0) rfl))))) ((congrFun (congrFun e112 195) o0).trans ((congrFun (up2_ne (k := 195)) o0).trans ((congrFun (congrFun e104 195) o0).trans ((congrFun (up2_ne (k := 195)) o0).trans (sC_195 (T := S) (o := o0) rfl))))) ((congrFun (congrFun e112 196) o0).trans ((congrFun (up2_ne (k := 196)) o0).trans ((congrFun (congrFun e104 196) o0).trans ((congrFun (up2_ne (k := 196)) o0).trans (sC_196 (T := S) (o := o0) rfl))))) ((congrFun (congrFun e112 197) o0).trans ((congrFun (up2_ne (k := 197)) o0).trans ((congrFun (congrFun e104 197) o0).trans ((congrFun (up2_ne (k := 197)) o0).trans (sC_197 (T := S) (o := o0) rfl))))) ((congrFun (congrFun e112 198) o0).trans ((congrFun (up2_ne (k := 198)) o0).trans ((congrFun (congrFun e104 198) o0).trans ((congrFun (up2_ne (k := 198)) o0).trans (sC_198 (T := S) (o := o0) rfl))))) ((congrFun (congrFun e112 199) o0).trans ((congrFun (up2_ne (k := 199)) o0).trans ((congrFun (congrFun e104 199) o0).trans ((congrFun (up2_ne (k := 199)) o0).trans (sC_199 (T := S) (o := o0) rfl))))) ((congrFun (congrFun e112 200) o0).trans ((congrFun (up2_ne (k := 200)) o0).trans (by rw [e104]; exact up2_self))) ((congrFun (congrFun e112 201) o0).trans ((congrFun (up2_ne (k := 201)) o0).trans ((congrFun (congrFun e104 201) o0).trans ((congrFun (up2_ne (k := 201)) o0).trans (sC_201 (T := S) (o := o0) rfl))))) (by rw [e112]; exact up2_self) ((congrFun (congrFun e112 203) o0).trans ((congrFun (up2_ne (k := 203)) o0).trans ((congrFun (congrFun e104 203) o0).trans ((congrFun (up2_ne (k := 203)) o0).trans (sC_203 (T := S) (o := o0) rfl))))) ((congrFun (congrFun e112 204) o0).trans ((congrFun (up2_ne (k := 204)) o0).trans ((congrFun (congrFun e104 204) o0).trans ((congrFun (up2_ne (k := 204)) o0).trans (sC_204 (T := S) (o := o0) rfl))))) ((congrFun (congrFun f113 205) o0).trans ((congrFun (congrFun f105 205) o0).trans (sC_205 (T := S) (o := o0) rfl))))).trans hd122.symm
      have hs124 := hx120.2.trans (congrArg Prod.fst hq123)
      obtain rfl : y125 = d121.2 := (xjC_v hx120).trans (congrArg Prod.snd hq123)
      refine gt_pJ (id := 205) (x := d121.2) dX3_readMoveToRegister_47 fl_3_73 rfl rfl h0 hA119 rfl rfl rfl hG117 (fun S126 hG127 hA128 e129 f130 er131 => ?_)
      have hF : F_X3_readMoveToRegister bs n (StC S o0) x1 = ((e0 d121.1), (e1 d121.1), (e2 d121.1), (e3 d121.1), (e4 d121.1), (e5 d121.1), (e6 d121.1), (e7 d121.1), (e8 d121.1), (e9 d121.1), (e10 d121.1), (e11 d121.1), d121.2) := by
        subst hd122
        unfold F_X3_readMoveToRegister
        dsimp only
        rw [if_pos q107, if_neg q115]
      exact tt_vreturn dX3_readMoveToRegister_50 rfl (hP _ _ _ _ ⟨hG127, hA128, Or.inl ⟨_, rfl, rfl, Eq.trans (stC_mk ((congrFun (congrFun e129 193) o0).trans (sC_193 hs124)) ((congrFun (congrFun e129 194) o0).trans (sC_194 hs124)) ((congrFun (congrFun e129 195) o0).trans (sC_195 hs124)) ((congrFun (congrFun e129 196) o0).trans (sC_196 hs124)) ((congrFun (congrFun e129 197) o0).trans (sC_197 hs124)) ((congrFun (congrFun e129 198) o0).trans (sC_198 hs124)) ((congrFun (congrFun e129 199) o0).trans (sC_199 hs124)) ((congrFun (congrFun e129 200) o0).trans (sC_200 hs124)) ((congrFun (congrFun e129 201) o0).trans (sC_201 hs124)) ((congrFun (congrFun e129 202) o0).trans (sC_202 hs124)) ((congrFun (congrFun e129 203) o0).trans (sC_203 hs124)) ((congrFun (congrFun e129 204) o0).trans (sC_204 hs124)) (by rw [f130]; exact up2_self)) hF.symm, rfl, rfl⟩⟩)
    · skip
      have h132 : Rg 64 64 (e8 (StC S o0)) := rg_eq_l (rg_all (e8 (StC S o0))) (⟨by decide, by decide⟩ : Rg 64 64 64) q115
      refine tt_bipush (v := 8) dX3_readMoveToRegister_38 rfl ?_
      refine tt_goto (tgt := 44) dX3_readMoveToRegister_40 rfl ?_
      refine gt_VJ (As := [.int 8]) dX3_readMoveToRegister_44 ca_X3_107 ⟨by decide, by decide⟩ h0 hA111 rfl (Nat.le_of_ble_eq_true rfl) (Nat.le_of_ble_eq_true rfl) (by decide) (ce_X3_readNumber_8 hG110 (oa_af h0 hA111) (bc_af hb h0 hA111) (fun _ _ _ _ h => h)) rfl (fun _ h => nomatch h) (fun S133 y142 hx137 hG134 hB135 hA136 => ?_)
      obtain ⟨d138, hd139⟩ : ∃ q, q = F_X3_readNumber_8 bs n ((e0 (StC S o0)), (e1 (StC S o0)), (e2 (StC S o0)), (e3 (StC S o0)), (e4 (StC S o0)), (e5 (StC S o0)), (e6 (StC S o0)), 13, (e8 (StC S o0)), x1, (e10 (StC S o0)), (e11 (StC S o0)), (eJ (StC S o0)))  := ⟨_, rfl⟩
      have hq140 := (congrArg (fun q => F_X3_readNumber_8 bs n q ) (stC_mk ((congrFun (congrFun e112 193) o0).trans ((congrFun (up2_ne (k := 193)) o0).trans ((congrFun (congrFun e104 193) o0).trans ((congrFun (up2_ne (k := 193)) o0).trans (sC_193 (T := S) (o := o0) rfl))))) ((congrFun (congrFun e112 194) o0).trans ((congrFun (up2_ne (k := 194)) o0).trans ((congrFun (congrFun e104 194) o0).trans ((congrFun (up2_ne (k := 194)) o0).trans (sC_194 (T := S) (o := o0) rfl))))) ((congrFun (congrFun e112 195) o0).trans ((congrFun (up2_ne (k := 195)) o0).trans ((congrFun (congrFun e104 195) o0).trans ((congrFun (up2_ne (k := 195)) o0).trans (sC_195 (T := S) (o := o0) rfl))))) ((congrFun (congrFun e112 196) o0).trans ((congrFun (up2_ne (k := 196)) o0).trans ((congrFun (congrFun e104 196) o0).trans ((congrFun (up2_ne (k := 196)) o0).trans (sC_196 (T := S) (o := o0) rfl))))) ((congrFun (congrFun e112 197) o0).trans ((congrFun (up2_ne (k := 197)) o0).trans ((congrFun (congrFun e104 197) o0).trans ((congrFun (up2_ne (k := 197)) o0).trans (sC_197 (T := S) (o := o0) rfl))))) ((congrFun (congrFun e112 198) o0).trans ((congrFun (up2_ne (k := 198)) o0).trans ((congrFun (congrFun e104 198) o0).trans ((congrFun (up2_ne (k := 198)) o0).trans (sC_198 (T := S) (o := o0) rfl))))) ((congrFun (congrFun e112 199) o0).trans ((congrFun (up2_ne (k := 199)) o0).trans ((congrFun (congrFun e104 199) o0).trans ((congrFun (up2_ne (k := 199)) o0).trans (sC_199 (T := S) (o := o0) rfl))))) ((congrFun (congrFun e112 200) o0).trans ((congrFun (up2_ne (k := 200)) o0).trans (by rw [e104]; exact up2_self))) ((congrFun (congrFun e112 201) o0).trans ((congrFun (up2_ne (k := 201)) o0).trans ((congrFun (congrFun e104 201) o0).trans ((congrFun (up2_ne (k := 201)) o0).trans (sC_201 (T := S) (o := o0) rfl))))) (by rw [e112]; exact up2_self) ((congrFun (congrFun e112 203) o0).trans ((congrFun (up2_ne (k := 203)) o0).trans ((congrFun (congrFun e104 203) o0).trans ((congrFun (up2_ne (k := 203)) o0).trans (sC_203 (T := S) (o := o0) rfl))))) ((congrFun (congrFun e112 204) o0).trans ((congrFun (up2_ne (k := 204)) o0).trans ((congrFun (congrFun e104 204) o0).trans ((congrFun (up2_ne (k := 204)) o0).trans (sC_204 (T := S) (o := o0) rfl))))) ((congrFun (congrFun f113 205) o0).trans ((congrFun (congrFun f105 205) o0).trans (sC_205 (T := S) (o := o0) rfl))))).trans hd139.symm
      have hs141 := hx137.2.trans (congrArg Prod.fst hq140)
      obtain rfl : y142 = d138.2 := (xjC_v hx137).trans (congrArg Prod.snd hq140)
      refine gt_pJ (id := 205) (x := d138.2) dX3_readMoveToRegister_47 fl_3_73 rfl rfl h0 hA136 rfl rfl rfl hG134 (fun S143 hG144 hA145 e146 f147 er148 => ?_)
      have hF : F_X3_readMoveToRegister bs n (StC S o0) x1 = ((e0 d138.1), (e1 d138.1), (e2 d138.1), (e3 d138.1), (e4 d138.1), (e5 d138.1), (e6 d138.1), (e7 d138.1), (e8 d138.1), (e9 d138.1), (e10 d138.1), (e11 d138.1), d138.2) := by
        subst hd139
        unfold F_X3_readMoveToRegister
        dsimp only
        rw [if_pos q107, if_pos q115]
      exact tt_vreturn dX3_readMoveToRegister_50 rfl (hP _ _ _ _ ⟨hG144, hA145, Or.inl ⟨_, rfl, rfl, Eq.trans (stC_mk ((congrFun (congrFun e146 193) o0).trans (sC_193 hs141)) ((congrFun (congrFun e146 194) o0).trans (sC_194 hs141)) ((congrFun (congrFun e146 195) o0).trans (sC_195 hs141)) ((congrFun (congrFun e146 196) o0).trans (sC_196 hs141)) ((congrFun (congrFun e146 197) o0).trans (sC_197 hs141)) ((congrFun (congrFun e146 198) o0).trans (sC_198 hs141)) ((congrFun (congrFun e146 199) o0).trans (sC_199 hs141)) ((congrFun (congrFun e146 200) o0).trans (sC_200 hs141)) ((congrFun (congrFun e146 201) o0).trans (sC_201 hs141)) ((congrFun (congrFun e146 202) o0).trans (sC_202 hs141)) ((congrFun (congrFun e146 203) o0).trans (sC_203 hs141)) ((congrFun (congrFun e146 204) o0).trans (sC_204 hs141)) (by rw [f147]; exact up2_self)) hF.symm, rfl, rfl⟩⟩)
  · skip
    have h149 : Rg 1 1 ((e1 (StC S o0)) &&& 1) := rg_ne_lo (rg_and (x := (e1 (StC S o0))) (⟨by decide, by decide⟩ : Rg 1 1 1)) (⟨by decide, by decide⟩ : Rg 0 0 0) q107
    refine tt_iload_n (j := 1) dX3_readMoveToRegister_16 rfl ?_
    refine tt_bipush (v := 8) dX3_readMoveToRegister_17 rfl ?_
    refine tt_iadd dX3_readMoveToRegister_19 ?_
    refine tt_goto (tgt := 24) dX3_readMoveToRegister_20 rfl ?_
    refine gt_pI (id := 202) (x := (x1 + 8)) dX3_readMoveToRegister_24 fl_3_64 rfl rfl h0 hA103 rfl rfl rfl (gp_I hG102) (by decide) (fun h => absurd h (by decide)) (fun h => absurd h (by decide)) (fun S150 hG151 hA152 e153 f154 er155 => ?_)
    refine tt_aload_n (j := 0) dX3_readMoveToRegister_27 rfl ?_
    refine tt_aload_n (j := 0) dX3_readMoveToRegister_28 rfl ?_
    refine tt_aload_n (j := 0) dX3_readMoveToRegister_29 rfl ?_
    refine gt_gI (id := 201) (v := (e8 (StC S o0))) dX3_readMoveToRegister_30 fl_3_34 rfl rfl h0 hA152 ((congrFun (congrFun e153 201) o0).trans ((congrFun (up2_ne (k := 201)) o0).trans ((congrFun (congrFun e104 201) o0).trans ((congrFun (up2_ne (k := 201)) o0).trans (sC_201 (T := S) (o := o0) rfl))))) ?_
    refine tt_bipush (v := 64) dX3_readMoveToRegister_33 rfl ?_
    refine tt_icmp_ne (tgt := 43) dX3_readMoveToRegister_35 rfl (fun q156 => ?_) (fun q156 => ?_)
    · skip
      refine tt_iconst (v := 4) dX3_readMoveToRegister_43 rfl ?_
      refine gt_VJ (As := [.int 4]) dX3_readMoveToRegister_44 ca_X3_107 ⟨by decide, by decide⟩ h0 hA152 rfl (Nat.le_of_ble_eq_true rfl) (Nat.le_of_ble_eq_true rfl) (by decide) (ce_X3_readNumber_4 hG151 (oa_af h0 hA152) (bc_af hb h0 hA152) (fun _ _ _ _ h => h)) rfl (fun _ h => nomatch h) (fun S157 y166 hx161 hG158 hB159 hA160 => ?_)
      obtain ⟨d162, hd163⟩ : ∃ q, q = F_X3_readNumber_4 bs n ((e0 (StC S o0)), (e1 (StC S o0)), (e2 (StC S o0)), (e3 (StC S o0)), (e4 (StC S o0)), (e5 (StC S o0)), (e6 (StC S o0)), 13, (e8 (StC S o0)), (x1 + 8), (e10 (StC S o0)), (e11 (StC S o0)), (eJ (StC S o0)))  := ⟨_, rfl⟩
      have hq164 := (congrArg (fun q => F_X3_readNumber_4 bs n q ) (stC_mk ((congrFun (congrFun e153 193) o0).trans ((congrFun (up2_ne (k := 193)) o0).trans ((congrFun (congrFun e104 193) o0).trans ((congrFun (up2_ne (k := 193)) o0).trans (sC_193 (T := S) (o := o0) rfl))))) ((congrFun (congrFun e153 194) o0).trans ((congrFun (up2_ne (k := 194)) o0).trans ((congrFun (congrFun e104 194) o0).trans ((congrFun (up2_ne (k := 194)) o0).trans (sC_194 (T := S) (o := o0) rfl))))) ((congrFun (congrFun e153 195) o0).trans ((congrFun (up2_ne (k := 195)) o0).trans ((congrFun (congrFun e104 195) o0).trans ((congrFun (up2_ne (k := 195)) o0).trans (sC_195 (T := S) (o := o0) rfl))))) ((congrFun (congrFun e153 196) o0).trans ((congrFun (up2_ne (k := 196)) o0).trans ((congrFun (congrFun e104 196) o0).trans ((congrFun (up2_ne (k := 196)) o0).trans (sC_196 (T := S) (o := o0) rfl))))) ((congrFun (congrFun e153 197) o0).trans ((congrFun (up2_ne (k := 197)) o0).trans ((congrFun (congrFun e104 197) o0).trans ((congrFun (up2_ne (k := 197)) o0).trans (sC_197 (T := S) (o := o0) rfl))))) ((congrFun (congrFun e153 198) o0).trans ((congrFun (up2_ne (k := 198)) o0).trans ((congrFun (congrFun e104 198) o0).trans ((congrFun (up2_ne (k := 198)) o0).trans (sC_198 (T := S) (o := o0) rfl))))) ((congrFun (congrFun e153 199) o0).trans ((congrFun (up2_ne (k := 199)) o0).trans ((congrFun (congrFun e104 199) o0).trans ((congrFun (up2_ne (k := 199)) o0).trans (sC_199 (T := S) (o := o0) rfl))))) ((congrFun (congrFun e153 200) o0).trans ((congrFun (up2_ne (k := 200)) o0).trans (by rw [e104]; exact up2_self))) ((congrFun (congrFun e153 201) o0).trans ((congrFun (up2_ne (k := 201)) o0).trans ((congrFun (congrFun e104 201) o0).trans ((congrFun (up2_ne (k := 201)) o0).trans (sC_201 (T := S) (o := o0) rfl))))) (by rw [e153]; exact up2_self) ((congrFun (congrFun e153 203) o0).trans ((congrFun (up2_ne (k := 203)) o0).trans ((congrFun (congrFun e104 203) o0).trans ((congrFun (up2_ne (k := 203)) o0).trans (sC_203 (T := S) (o := o0) rfl))))) ((congrFun (congrFun e153 204) o0).trans ((congrFun (up2_ne (k := 204)) o0).trans ((congrFun (congrFun e104 204) o0).trans ((congrFun (up2_ne (k := 204)) o0).trans (sC_204 (T := S) (o := o0) rfl))))) ((congrFun (congrFun f154 205) o0).trans ((congrFun (congrFun f105 205) o0).trans (sC_205 (T := S) (o := o0) rfl))))).trans hd163.symm
      have hs165 := hx161.2.trans (congrArg Prod.fst hq164)
      obtain rfl : y166 = d162.2 := (xjC_v hx161).trans (congrArg Prod.snd hq164)
      refine gt_pJ (id := 205) (x := d162.2) dX3_readMoveToRegister_47 fl_3_73 rfl rfl h0 hA160 rfl rfl rfl hG158 (fun S167 hG168 hA169 e170 f171 er172 => ?_)
      have hF : F_X3_readMoveToRegister bs n (StC S o0) x1 = ((e0 d162.1), (e1 d162.1), (e2 d162.1), (e3 d162.1), (e4 d162.1), (e5 d162.1), (e6 d162.1), (e7 d162.1), (e8 d162.1), (e9 d162.1), (e10 d162.1), (e11 d162.1), d162.2) := by
        subst hd163
        unfold F_X3_readMoveToRegister
        dsimp only
        rw [if_neg q107, if_neg q156]
      exact tt_vreturn dX3_readMoveToRegister_50 rfl (hP _ _ _ _ ⟨hG168, hA169, Or.inl ⟨_, rfl, rfl, Eq.trans (stC_mk ((congrFun (congrFun e170 193) o0).trans (sC_193 hs165)) ((congrFun (congrFun e170 194) o0).trans (sC_194 hs165)) ((congrFun (congrFun e170 195) o0).trans (sC_195 hs165)) ((congrFun (congrFun e170 196) o0).trans (sC_196 hs165)) ((congrFun (congrFun e170 197) o0).trans (sC_197 hs165)) ((congrFun (congrFun e170 198) o0).trans (sC_198 hs165)) ((congrFun (congrFun e170 199) o0).trans (sC_199 hs165)) ((congrFun (congrFun e170 200) o0).trans (sC_200 hs165)) ((congrFun (congrFun e170 201) o0).trans (sC_201 hs165)) ((congrFun (congrFun e170 202) o0).trans (sC_202 hs165)) ((congrFun (congrFun e170 203) o0).trans (sC_203 hs165)) ((congrFun (congrFun e170 204) o0).trans (sC_204 hs165)) (by rw [f171]; exact up2_self)) hF.symm, rfl, rfl⟩⟩)
    · skip
      have h173 : Rg 64 64 (e8 (StC S o0)) := rg_eq_l (rg_all (e8 (StC S o0))) (⟨by decide, by decide⟩ : Rg 64 64 64) q156
      refine tt_bipush (v := 8) dX3_readMoveToRegister_38 rfl ?_
      refine tt_goto (tgt := 44) dX3_readMoveToRegister_40 rfl ?_
      refine gt_VJ (As := [.int 8]) dX3_readMoveToRegister_44 ca_X3_107 ⟨by decide, by decide⟩ h0 hA152 rfl (Nat.le_of_ble_eq_true rfl) (Nat.le_of_ble_eq_true rfl) (by decide) (ce_X3_readNumber_8 hG151 (oa_af h0 hA152) (bc_af hb h0 hA152) (fun _ _ _ _ h => h)) rfl (fun _ h => nomatch h) (fun S174 y183 hx178 hG175 hB176 hA177 => ?_)
      obtain ⟨d179, hd180⟩ : ∃ q, q = F_X3_readNumber_8 bs n ((e0 (StC S o0)), (e1 (StC S o0)), (e2 (StC S o0)), (e3 (StC S o0)), (e4 (StC S o0)), (e5 (StC S o0)), (e6 (StC S o0)), 13, (e8 (StC S o0)), (x1 + 8), (e10 (StC S o0)), (e11 (StC S o0)), (eJ (StC S o0)))  := ⟨_, rfl⟩
      have hq181 := (congrArg (fun q => F_X3_readNumber_8 bs n q ) (stC_mk ((congrFun (congrFun e153 193) o0).trans ((congrFun (up2_ne (k := 193)) o0).trans ((congrFun (congrFun e104 193) o0).trans ((congrFun (up2_ne (k := 193)) o0).trans (sC_193 (T := S) (o := o0) rfl))))) ((congrFun (congrFun e153 194) o0).trans ((congrFun (up2_ne (k := 194)) o0).trans ((congrFun (congrFun e104 194) o0).trans ((congrFun (up2_ne (k := 194)) o0).trans (sC_194 (T := S) (o := o0) rfl))))) ((congrFun (congrFun e153 195) o0).trans ((congrFun (up2_ne (k := 195)) o0).trans ((congrFun (congrFun e104 195) o0).trans ((congrFun (up2_ne (k := 195)) o0).trans (sC_195 (T := S) (o := o0) rfl))))) ((congrFun (congrFun e153 196) o0).trans ((congrFun (up2_ne (k := 196)) o0).trans ((congrFun (congrFun e104 196) o0).trans ((congrFun (up2_ne (k := 196)) o0).trans (sC_196 (T := S) (o := o0) rfl))))) ((congrFun (congrFun e153 197) o0).trans ((congrFun (up2_ne (k := 197)) o0).trans ((congrFun (congrFun e104 197) o0).trans ((congrFun (up2_ne (k := 197)) o0).trans (sC_197 (T := S) (o := o0) rfl))))) ((congrFun (congrFun e153 198) o0).trans ((congrFun (up2_ne (k := 198)) o0).trans ((congrFun (congrFun e104 198) o0).trans ((congrFun (up2_ne (k := 198)) o0).trans (sC_198 (T := S) (o := o0) rfl))))) ((congrFun (congrFun e153 199) o0).trans ((congrFun (up2_ne (k := 199)) o0).trans ((congrFun (congrFun e104 199) o0).trans ((congrFun (up2_ne (k := 199)) o0).trans (sC_199 (T := S) (o := o0) rfl))))) ((congrFun (congrFun e153 200) o0).trans ((congrFun (up2_ne (k := 200)) o0).trans (by rw [e104]; exact up2_self))) ((congrFun (congrFun e153 201) o0).trans ((congrFun (up2_ne (k := 201)) o0).trans ((congrFun (congrFun e104 201) o0).trans ((congrFun (up2_ne (k := 201)) o0).trans (sC_201 (T := S) (o := o0) rfl))))) (by rw [e153]; exact up2_self) ((congrFun (congrFun e153 203) o0).trans ((congrFun (up2_ne (k := 203)) o0).trans ((congrFun (congrFun e104 203) o0).trans ((congrFun (up2_ne (k := 203)) o0).trans (sC_203 (T := S) (o := o0) rfl))))) ((congrFun (congrFun e153 204) o0).trans ((congrFun (up2_ne (k := 204)) o0).trans ((congrFun (congrFun e104 204) o0).trans ((congrFun (up2_ne (k := 204)) o0).trans (sC_204 (T := S) (o := o0) rfl))))) ((congrFun (congrFun f154 205) o0).trans ((congrFun (congrFun f105 205) o0).trans (sC_205 (T := S) (o := o0) rfl))))).trans hd180.symm
      have hs182 := hx178.2.trans (congrArg Prod.fst hq181)
      obtain rfl : y183 = d179.2 := (xjC_v hx178).trans (congrArg Prod.snd hq181)
      refine gt_pJ (id := 205) (x := d179.2) dX3_readMoveToRegister_47 fl_3_73 rfl rfl h0 hA177 rfl rfl rfl hG175 (fun S184 hG185 hA186 e187 f188 er189 => ?_)
      have hF : F_X3_readMoveToRegister bs n (StC S o0) x1 = ((e0 d179.1), (e1 d179.1), (e2 d179.1), (e3 d179.1), (e4 d179.1), (e5 d179.1), (e6 d179.1), (e7 d179.1), (e8 d179.1), (e9 d179.1), (e10 d179.1), (e11 d179.1), d179.2) := by
        subst hd180
        unfold F_X3_readMoveToRegister
        dsimp only
        rw [if_neg q107, if_pos q156]
      exact tt_vreturn dX3_readMoveToRegister_50 rfl (hP _ _ _ _ ⟨hG185, hA186, Or.inl ⟨_, rfl, rfl, Eq.trans (stC_mk ((congrFun (congrFun e187 193) o0).trans (sC_193 hs182)) ((congrFun (congrFun e187 194) o0).trans (sC_194 hs182)) ((congrFun (congrFun e187 195) o0).trans (sC_195 hs182)) ((congrFun (congrFun e187 196) o0).trans (sC_196 hs182)) ((congrFun (congrFun e187 197) o0).trans (sC_197 hs182)) ((congrFun (congrFun e187 198) o0).trans (sC_198 hs182)) ((congrFun (congrFun e187 199) o0).trans (sC_199 hs182)) ((congrFun (congrFun e187 200) o0).trans (sC_200 hs182)) ((congrFun (congrFun e187 201) o0).trans (sC_201 hs182)) ((congrFun (congrFun e187 202) o0).trans (sC_202 hs182)) ((congrFun (congrFun e187 203) o0).trans (sC_203 hs182)) ((congrFun (congrFun e187 204) o0).trans (sC_204 hs182)) (by rw [f188]; exact up2_self)) hF.symm, rfl, rfl⟩⟩)
def F_X3_readTestNotNeg (bs : Nat → Int32) (n : Int32) (d : DD) : DD :=
  let d106 := F_X3_readPlace bs n d 
  if (e4 d106) = 0 then
    let d128 := F_X3_readNumber_4 bs n ((e0 d106), (e1 d106), (e2 d106), (e3 d106), (e4 d106), (e5 d106), (e6 d106), 8, (e8 d106), (e5 d106), (e10 d106), (e11 d106), (eJ d106)) 
    ((e0 d128.1), (e1 d128.1), (e2 d128.1), (e3 d128.1), (e4 d128.1), (e5 d128.1), (e6 d128.1), (e7 d128.1), (e8 d128.1), (e9 d128.1), (e10 d128.1), (e11 d128.1), d128.2)
  else
    if (e4 d106) = 1 then
      ((e0 d106), (e1 d106), 0, (e3 d106), (e4 d106), (e5 d106), (e6 d106), (e7 d106), (e8 d106), (e5 d106), (e10 d106), (e11 d106), (eJ d106))
    else
      if (e4 d106) = 2 then
        ((e0 d106), (e1 d106), (e2 d106), (e3 d106), (e4 d106), (e5 d106), (e6 d106), 9, (e8 d106), (e5 d106), (e10 d106), (e11 d106), (eJ d106))
      else
        if (e4 d106) = 3 then
          ((e0 d106), (e1 d106), (e2 d106), (e3 d106), (e4 d106), (e5 d106), (e6 d106), 10, (e8 d106), (e5 d106), (e10 d106), (e11 d106), (eJ d106))
        else
          ((e0 d106), (e1 d106), 0, (e3 d106), (e4 d106), (e5 d106), (e6 d106), (e7 d106), (e8 d106), (e5 d106), (e10 d106), (e11 d106), (eJ d106))
set_option maxHeartbeats 2000000 in
theorem ce_X3_readTestNotNeg {xi : SX} {S : Hp} {E : List Nat} {kc nc : Nat} {P : Po} {o0 : Nat} {bs : Nat → Int32} {n : Int32} (hG : GI S E) (h0 : Oa S E 3 0 o0) (hb : BC S E o0 bs n) (hP : ∀ r T x y, PV E [193, 195, 196, 197, 198, 200, 202] S kc nc rV (fun v T => StC T o0 = F_X3_readTestNotNeg bs n (StC S o0) ) [] r T x y → P r T x y) : TT xi M_X3_readTestNotNeg 0 [(0, .ref o0)] [] S kc nc P := by
  have hA : Af E [193, 195, 196, 197, 198, 200, 202] S S := af_rf
  refine tt_aload_n (j := 0) dX3_readTestNotNeg_0 rfl ?_
  refine gt_Vv (As := []) dX3_readTestNotNeg_1 ca_X3_95 ⟨by decide, by decide⟩ h0 hA rfl (Nat.le_of_ble_eq_true rfl) (Nat.le_of_ble_eq_true rfl) (by decide) (ce_X3_readPlace hG (oa_af h0 hA) (bc_af hb h0 hA) (fun _ _ _ _ h => h)) rfl (fun _ h => nomatch h) (fun S101 hx105 hG102 hB103 hA104 => ?_)
  obtain ⟨d106, hd107⟩ : ∃ q, q = F_X3_readPlace bs n (StC S o0)  := ⟨_, rfl⟩
  have hq108 := (congrArg (fun q => F_X3_readPlace bs n q ) (stC_mk (sC_193 (T := S) (o := o0) rfl) (sC_194 (T := S) (o := o0) rfl) (sC_195 (T := S) (o := o0) rfl) (sC_196 (T := S) (o := o0) rfl) (sC_197 (T := S) (o := o0) rfl) (sC_198 (T := S) (o := o0) rfl) (sC_199 (T := S) (o := o0) rfl) (sC_200 (T := S) (o := o0) rfl) (sC_201 (T := S) (o := o0) rfl) (sC_202 (T := S) (o := o0) rfl) (sC_203 (T := S) (o := o0) rfl) (sC_204 (T := S) (o := o0) rfl) (sC_205 (T := S) (o := o0) rfl))).trans hd107.symm
  have hs109 := hx105.trans hq108
  refine tt_aload_n (j := 0) dX3_readTestNotNeg_4 rfl ?_
  refine tt_aload_n (j := 0) dX3_readTestNotNeg_5 rfl ?_
  refine gt_gI (id := 198) (v := (e5 d106)) dX3_readTestNotNeg_6 fl_3_98 rfl rfl h0 hA104 (sC_198 hs109) ?_
  refine gt_pI (id := 202) (x := (e5 d106)) dX3_readTestNotNeg_9 fl_3_64 rfl rfl h0 hA104 rfl rfl rfl (gp_I hG102) (by decide) (fun h => absurd h (by decide)) (fun h => absurd h (by decide)) (fun S110 hG111 hA112 e113 f114 er115 => ?_)
  refine tt_aload_n (j := 0) dX3_readTestNotNeg_12 rfl ?_
  refine gt_gI (id := 197) (v := (e4 d106)) dX3_readTestNotNeg_13 fl_3_104 rfl rfl h0 hA112 ((congrFun (congrFun e113 197) o0).trans ((congrFun (up2_ne (k := 197)) o0).trans (sC_197 hs109))) ?_
  refine gt_by (c := (e4 d106) = 0) (fun q116 => ?_) (fun q116 => ?_)
  · skip
    refine gt_tseq (off := 32) (tgt := 48) 0 0 dX3_readTestNotNeg_16 q116 rfl (by decide) (by decide) rfl rfl ?_
    refine tt_aload_n (j := 0) dX3_readTestNotNeg_48 rfl ?_
    refine tt_bipush (v := 8) dX3_readTestNotNeg_49 rfl ?_
    refine gt_pI (id := 200) (x := 8) dX3_readTestNotNeg_51 fl_3_54 rfl rfl h0 hA112 rfl rfl rfl (gp_I hG111) (by decide) (fun h => absurd h (by decide)) (fun h => absurd h (by decide)) (fun S117 hG118 hA119 e120 f121 er122 => ?_)
    refine tt_aload_n (j := 0) dX3_readTestNotNeg_54 rfl ?_
    refine tt_aload_n (j := 0) dX3_readTestNotNeg_55 rfl ?_
    refine tt_iconst (v := 4) dX3_readTestNotNeg_56 rfl ?_
    refine gt_VJ (As := [.int 4]) dX3_readTestNotNeg_57 ca_X3_107 ⟨by decide, by decide⟩ h0 hA119 rfl (Nat.le_of_ble_eq_true rfl) (Nat.le_of_ble_eq_true rfl) (by decide) (ce_X3_readNumber_4 hG118 (oa_af h0 hA119) (bc_af hb h0 hA119) (fun _ _ _ _ h => h)) rfl (fun _ h => nomatch h) (fun S123 y132 hx127 hG124 hB125 hA126 => ?_)
    obtain ⟨d128, hd129⟩ : ∃ q, q = F_X3_readNumber_4 bs n ((e0 d106), (e1 d106), (e2 d106), (e3 d106), (e4 d106), (e5 d106), (e6 d106), 8, (e8 d106), (e5 d106), (e10 d106), (e11 d106), (eJ d106))  := ⟨_, rfl⟩
    have hq130 := (congrArg (fun q => F_X3_readNumber_4 bs n q ) (stC_mk ((congrFun (congrFun e120 193) o0).trans ((congrFun (up2_ne (k := 193)) o0).trans ((congrFun (congrFun e113 193) o0).trans ((congrFun (up2_ne (k := 193)) o0).trans (sC_193 hs109))))) ((congrFun (congrFun e120 194) o0).trans ((congrFun (up2_ne (k := 194)) o0).trans ((congrFun (congrFun e113 194) o0).trans ((congrFun (up2_ne (k := 194)) o0).trans (sC_194 hs109))))) ((congrFun (congrFun e120 195) o0).trans ((congrFun (up2_ne (k := 195)) o0).trans ((congrFun (congrFun e113 195) o0).trans ((congrFun (up2_ne (k := 195)) o0).trans (sC_195 hs109))))) ((congrFun (congrFun e120 196) o0).trans ((congrFun (up2_ne (k := 196)) o0).trans ((congrFun (congrFun e113 196) o0).trans ((congrFun (up2_ne (k := 196)) o0).trans (sC_196 hs109))))) ((congrFun (congrFun e120 197) o0).trans ((congrFun (up2_ne (k := 197)) o0).trans ((congrFun (congrFun e113 197) o0).trans ((congrFun (up2_ne (k := 197)) o0).trans (sC_197 hs109))))) ((congrFun (congrFun e120 198) o0).trans ((congrFun (up2_ne (k := 198)) o0).trans ((congrFun (congrFun e113 198) o0).trans ((congrFun (up2_ne (k := 198)) o0).trans (sC_198 hs109))))) ((congrFun (congrFun e120 199) o0).trans ((congrFun (up2_ne (k := 199)) o0).trans ((congrFun (congrFun e113 199) o0).trans ((congrFun (up2_ne (k := 199)) o0).trans (sC_199 hs109))))) (by rw [e120]; exact up2_self) ((congrFun (congrFun e120 201) o0).trans ((congrFun (up2_ne (k := 201)) o0).trans ((congrFun (congrFun e113 201) o0).trans ((congrFun (up2_ne (k := 201)) o0).trans (sC_201 hs109))))) ((congrFun (congrFun e120 202) o0).trans ((congrFun (up2_ne (k := 202)) o0).trans (by rw [e113]; exact up2_self))) ((congrFun (congrFun e120 203) o0).trans ((congrFun (up2_ne (k := 203)) o0).trans ((congrFun (congrFun e113 203) o0).trans ((congrFun (up2_ne (k := 203)) o0).trans (sC_203 hs109))))) ((congrFun (congrFun e120 204) o0).trans ((congrFun (up2_ne (k := 204)) o0).trans ((congrFun (congrFun e113 204) o0).trans ((congrFun (up2_ne (k := 204)) o0).trans (sC_204 hs109))))) ((congrFun (congrFun f121 205) o0).trans ((congrFun (congrFun f114 205) o0).trans (sC_205 hs109))))).trans hd129.symm
    have hs131 := hx127.2.trans (congrArg Prod.fst hq130)
    obtain rfl : y132 = d128.2 := (xjC_v hx127).trans (congrArg Prod.snd hq130)
    refine gt_pJ (id := 205) (x := d128.2) dX3_readTestNotNeg_60 fl_3_73 rfl rfl h0 hA126 rfl rfl rfl hG124 (fun S133 hG134 hA135 e136 f137 er138 => ?_)
    refine tt_goto (tgt := 89) dX3_readTestNotNeg_63 rfl ?_
    have hF : F_X3_readTestNotNeg bs n (StC S o0)  = ((e0 d128.1), (e1 d128.1), (e2 d128.1), (e3 d128.1), (e4 d128.1), (e5 d128.1), (e6 d128.1), (e7 d128.1), (e8 d128.1), (e9 d128.1), (e10 d128.1), (e11 d128.1), d128.2) := by
      subst hd129
      subst hd107
      unfold F_X3_readTestNotNeg
      dsimp only
      rw [if_pos q116]
    exact tt_vreturn dX3_readTestNotNeg_89 rfl (hP _ _ _ _ ⟨hG134, hA135, Or.inl ⟨_, rfl, rfl, Eq.trans (stC_mk ((congrFun (congrFun e136 193) o0).trans (sC_193 hs131)) ((congrFun (congrFun e136 194) o0).trans (sC_194 hs131)) ((congrFun (congrFun e136 195) o0).trans (sC_195 hs131)) ((congrFun (congrFun e136 196) o0).trans (sC_196 hs131)) ((congrFun (congrFun e136 197) o0).trans (sC_197 hs131)) ((congrFun (congrFun e136 198) o0).trans (sC_198 hs131)) ((congrFun (congrFun e136 199) o0).trans (sC_199 hs131)) ((congrFun (congrFun e136 200) o0).trans (sC_200 hs131)) ((congrFun (congrFun e136 201) o0).trans (sC_201 hs131)) ((congrFun (congrFun e136 202) o0).trans (sC_202 hs131)) ((congrFun (congrFun e136 203) o0).trans (sC_203 hs131)) ((congrFun (congrFun e136 204) o0).trans (sC_204 hs131)) (by rw [f137]; exact up2_self)) hF.symm, rfl, rfl⟩⟩)
  refine gt_by (c := (e4 d106) = 1) (fun q139 => ?_) (fun q139 => ?_)
  · skip
    refine gt_tseq (off := 68) (tgt := 84) 1 1 dX3_readTestNotNeg_16 q139 rfl (by decide) (by decide) rfl rfl ?_
    refine tt_aload_n (j := 0) dX3_readTestNotNeg_84 rfl ?_
    refine tt_iconst (v := 0) dX3_readTestNotNeg_85 rfl ?_
    refine gt_pI (id := 195) (x := 0) dX3_readTestNotNeg_86 fl_3_22 rfl rfl h0 hA112 rfl rfl rfl (gp_Ir hG111 (⟨by decide, by decide⟩ : Rg 0 0 0)) (by decide) (fun h => absurd h (by decide)) (fun h => absurd h (by decide)) (fun S140 hG141 hA142 e143 f144 er145 => ?_)
    have hF : F_X3_readTestNotNeg bs n (StC S o0)  = ((e0 d106), (e1 d106), 0, (e3 d106), (e4 d106), (e5 d106), (e6 d106), (e7 d106), (e8 d106), (e5 d106), (e10 d106), (e11 d106), (eJ d106)) := by
      subst hd107
      unfold F_X3_readTestNotNeg
      dsimp only
      rw [if_neg q116, if_pos q139]
    exact tt_vreturn dX3_readTestNotNeg_89 rfl (hP _ _ _ _ ⟨hG141, hA142, Or.inl ⟨_, rfl, rfl, Eq.trans (stC_mk ((congrFun (congrFun e143 193) o0).trans ((congrFun (up2_ne (k := 193)) o0).trans ((congrFun (congrFun e113 193) o0).trans ((congrFun (up2_ne (k := 193)) o0).trans (sC_193 hs109))))) ((congrFun (congrFun e143 194) o0).trans ((congrFun (up2_ne (k := 194)) o0).trans ((congrFun (congrFun e113 194) o0).trans ((congrFun (up2_ne (k := 194)) o0).trans (sC_194 hs109))))) (by rw [e143]; exact up2_self) ((congrFun (congrFun e143 196) o0).trans ((congrFun (up2_ne (k := 196)) o0).trans ((congrFun (congrFun e113 196) o0).trans ((congrFun (up2_ne (k := 196)) o0).trans (sC_196 hs109))))) ((congrFun (congrFun e143 197) o0).trans ((congrFun (up2_ne (k := 197)) o0).trans ((congrFun (congrFun e113 197) o0).trans ((congrFun (up2_ne (k := 197)) o0).trans (sC_197 hs109))))) ((congrFun (congrFun e143 198) o0).trans ((congrFun (up2_ne (k := 198)) o0).trans ((congrFun (congrFun e113 198) o0).trans ((congrFun (up2_ne (k := 198)) o0).trans (sC_198 hs109))))) ((congrFun (congrFun e143 199) o0).trans ((congrFun (up2_ne (k := 199)) o0).trans ((congrFun (congrFun e113 199) o0).trans ((congrFun (up2_ne (k := 199)) o0).trans (sC_199 hs109))))) ((congrFun (congrFun e143 200) o0).trans ((congrFun (up2_ne (k := 200)) o0).trans ((congrFun (congrFun e113 200) o0).trans ((congrFun (up2_ne (k := 200)) o0).trans (sC_200 hs109))))) ((congrFun (congrFun e143 201) o0).trans ((congrFun (up2_ne (k := 201)) o0).trans ((congrFun (congrFun e113 201) o0).trans ((congrFun (up2_ne (k := 201)) o0).trans (sC_201 hs109))))) ((congrFun (congrFun e143 202) o0).trans ((congrFun (up2_ne (k := 202)) o0).trans (by rw [e113]; exact up2_self))) ((congrFun (congrFun e143 203) o0).trans ((congrFun (up2_ne (k := 203)) o0).trans ((congrFun (congrFun e113 203) o0).trans ((congrFun (up2_ne (k := 203)) o0).trans (sC_203 hs109))))) ((congrFun (congrFun e143 204) o0).trans ((congrFun (up2_ne (k := 204)) o0).trans ((congrFun (congrFun e113 204) o0).trans ((congrFun (up2_ne (k := 204)) o0).trans (sC_204 hs109))))) ((congrFun (congrFun f144 205) o0).trans ((congrFun (congrFun f114 205) o0).trans (sC_205 hs109)))) hF.symm, rfl, rfl⟩⟩)
  refine gt_by (c := (e4 d106) = 2) (fun q146 => ?_) (fun q146 => ?_)
  · skip
    refine gt_tseq (off := 50) (tgt := 66) 2 2 dX3_readTestNotNeg_16 q146 rfl (by decide) (by decide) rfl rfl ?_
    refine tt_aload_n (j := 0) dX3_readTestNotNeg_66 rfl ?_
    refine tt_bipush (v := 9) dX3_readTestNotNeg_67 rfl ?_
    refine gt_pI (id := 200) (x := 9) dX3_readTestNotNeg_69 fl_3_54 rfl rfl h0 hA112 rfl rfl rfl (gp_I hG111) (by decide) (fun h => absurd h (by decide)) (fun h => absurd h (by decide)) (fun S147 hG148 hA149 e150 f151 er152 => ?_)
    refine tt_goto (tgt := 89) dX3_readTestNotNeg_72 rfl ?_
    have hF : F_X3_readTestNotNeg bs n (StC S o0)  = ((e0 d106), (e1 d106), (e2 d106), (e3 d106), (e4 d106), (e5 d106), (e6 d106), 9, (e8 d106), (e5 d106), (e10 d106), (e11 d106), (eJ d106)) := by
      subst hd107
      unfold F_X3_readTestNotNeg
      dsimp only
      rw [if_neg q116, if_neg q139, if_pos q146]
    exact tt_vreturn dX3_readTestNotNeg_89 rfl (hP _ _ _ _ ⟨hG148, hA149, Or.inl ⟨_, rfl, rfl, Eq.trans (stC_mk ((congrFun (congrFun e150 193) o0).trans ((congrFun (up2_ne (k := 193)) o0).trans ((congrFun (congrFun e113 193) o0).trans ((congrFun (up2_ne (k := 193)) o0).trans (sC_193 hs109))))) ((congrFun (congrFun e150 194) o0).trans ((congrFun (up2_ne (k := 194)) o0).trans ((congrFun (congrFun e113 194) o0).trans ((congrFun (up2_ne (k := 194)) o0).trans (sC_194 hs109))))) ((congrFun (congrFun e150 195) o0).trans ((congrFun (up2_ne (k := 195)) o0).trans ((congrFun (congrFun e113 195) o0).trans ((congrFun (up2_ne (k := 195)) o0).trans (sC_195 hs109))))) ((congrFun (congrFun e150 196) o0).trans ((congrFun (up2_ne (k := 196)) o0).trans ((congrFun (congrFun e113 196) o0).trans ((congrFun (up2_ne (k := 196)) o0).trans (sC_196 hs109))))) ((congrFun (congrFun e150 197) o0).trans ((congrFun (up2_ne (k := 197)) o0).trans ((congrFun (congrFun e113 197) o0).trans ((congrFun (up2_ne (k := 197)) o0).trans (sC_197 hs109))))) ((congrFun (congrFun e150 198) o0).trans ((congrFun (up2_ne (k := 198)) o0).trans ((congrFun (congrFun e113 198) o0).trans ((congrFun (up2_ne (k := 198)) o0).trans (sC_198 hs109))))) ((congrFun (congrFun e150 199) o0).trans ((congrFun (up2_ne (k := 199)) o0).trans ((congrFun (congrFun e113 199) o0).trans ((congrFun (up2_ne (k := 199)) o0).trans (sC_199 hs109))))) (by rw [e150]; exact up2_self) ((congrFun (congrFun e150 201) o0).trans ((congrFun (up2_ne (k := 201)) o0).trans ((congrFun (congrFun e113 201) o0).trans ((congrFun (up2_ne (k := 201)) o0).trans (sC_201 hs109))))) ((congrFun (congrFun e150 202) o0).trans ((congrFun (up2_ne (k := 202)) o0).trans (by rw [e113]; exact up2_self))) ((congrFun (congrFun e150 203) o0).trans ((congrFun (up2_ne (k := 203)) o0).trans ((congrFun (congrFun e113 203) o0).trans ((congrFun (up2_ne (k := 203)) o0).trans (sC_203 hs109))))) ((congrFun (congrFun e150 204) o0).trans ((congrFun (up2_ne (k := 204)) o0).trans ((congrFun (congrFun e113 204) o0).trans ((congrFun (up2_ne (k := 204)) o0).trans (sC_204 hs109))))) ((congrFun (congrFun f151 205) o0).trans ((congrFun (congrFun f114 205) o0).trans (sC_205 hs109)))) hF.symm, rfl, rfl⟩⟩)
  refine gt_by (c := (e4 d106) = 3) (fun q153 => ?_) (fun q153 => ?_)
  · skip
    refine gt_tseq (off := 59) (tgt := 75) 3 3 dX3_readTestNotNeg_16 q153 rfl (by decide) (by decide) rfl rfl ?_
    refine tt_aload_n (j := 0) dX3_readTestNotNeg_75 rfl ?_
    refine tt_bipush (v := 10) dX3_readTestNotNeg_76 rfl ?_
    refine gt_pI (id := 200) (x := 10) dX3_readTestNotNeg_78 fl_3_54 rfl rfl h0 hA112 rfl rfl rfl (gp_I hG111) (by decide) (fun h => absurd h (by decide)) (fun h => absurd h (by decide)) (fun S154 hG155 hA156 e157 f158 er159 => ?_)
    refine tt_goto (tgt := 89) dX3_readTestNotNeg_81 rfl ?_
    have hF : F_X3_readTestNotNeg bs n (StC S o0)  = ((e0 d106), (e1 d106), (e2 d106), (e3 d106), (e4 d106), (e5 d106), (e6 d106), 10, (e8 d106), (e5 d106), (e10 d106), (e11 d106), (eJ d106)) := by
      subst hd107
      unfold F_X3_readTestNotNeg
      dsimp only
      rw [if_neg q116, if_neg q139, if_neg q146, if_pos q153]
    exact tt_vreturn dX3_readTestNotNeg_89 rfl (hP _ _ _ _ ⟨hG155, hA156, Or.inl ⟨_, rfl, rfl, Eq.trans (stC_mk ((congrFun (congrFun e157 193) o0).trans ((congrFun (up2_ne (k := 193)) o0).trans ((congrFun (congrFun e113 193) o0).trans ((congrFun (up2_ne (k := 193)) o0).trans (sC_193 hs109))))) ((congrFun (congrFun e157 194) o0).trans ((congrFun (up2_ne (k := 194)) o0).trans ((congrFun (congrFun e113 194) o0).trans ((congrFun (up2_ne (k := 194)) o0).trans (sC_194 hs109))))) ((congrFun (congrFun e157 195) o0).trans ((congrFun (up2_ne (k := 195)) o0).trans ((congrFun (congrFun e113 195) o0).trans ((congrFun (up2_ne (k := 195)) o0).trans (sC_195 hs109))))) ((congrFun (congrFun e157 196) o0).trans ((congrFun (up2_ne (k := 196)) o0).trans ((congrFun (congrFun e113 196) o0).trans ((congrFun (up2_ne (k := 196)) o0).trans (sC_196 hs109))))) ((congrFun (congrFun e157 197) o0).trans ((congrFun (up2_ne (k := 197)) o0).trans ((congrFun (congrFun e113 197) o0).trans ((congrFun (up2_ne (k := 197)) o0).trans (sC_197 hs109))))) ((congrFun (congrFun e157 198) o0).trans ((congrFun (up2_ne (k := 198)) o0).trans ((congrFun (congrFun e113 198) o0).trans ((congrFun (up2_ne (k := 198)) o0).trans (sC_198 hs109))))) ((congrFun (congrFun e157 199) o0).trans ((congrFun (up2_ne (k := 199)) o0).trans ((congrFun (congrFun e113 199) o0).trans ((congrFun (up2_ne (k := 199)) o0).trans (sC_199 hs109))))) (by rw [e157]; exact up2_self) ((congrFun (congrFun e157 201) o0).trans ((congrFun (up2_ne (k := 201)) o0).trans ((congrFun (congrFun e113 201) o0).trans ((congrFun (up2_ne (k := 201)) o0).trans (sC_201 hs109))))) ((congrFun (congrFun e157 202) o0).trans ((congrFun (up2_ne (k := 202)) o0).trans (by rw [e113]; exact up2_self))) ((congrFun (congrFun e157 203) o0).trans ((congrFun (up2_ne (k := 203)) o0).trans ((congrFun (congrFun e113 203) o0).trans ((congrFun (up2_ne (k := 203)) o0).trans (sC_203 hs109))))) ((congrFun (congrFun e157 204) o0).trans ((congrFun (up2_ne (k := 204)) o0).trans ((congrFun (congrFun e113 204) o0).trans ((congrFun (up2_ne (k := 204)) o0).trans (sC_204 hs109))))) ((congrFun (congrFun f158 205) o0).trans ((congrFun (congrFun f114 205) o0).trans (sC_205 hs109)))) hF.symm, rfl, rfl⟩⟩)
  have g160 := ne_i (k := 0) 0 q116 rfl
  have g161 := ne_i (k := 1) 1 q139 rfl
  have g162 := ne_i (k := 2) 2 q146 rfl
  have g163 := ne_i (k := 3) 3 q153 rfl
  refine tt_tableOut (tgt := 84) dX3_readTestNotNeg_16 (by omega) rfl ?_
  refine tt_aload_n (j := 0) dX3_readTestNotNeg_84 rfl ?_
  refine tt_iconst (v := 0) dX3_readTestNotNeg_85 rfl ?_
  refine gt_pI (id := 195) (x := 0) dX3_readTestNotNeg_86 fl_3_22 rfl rfl h0 hA112 rfl rfl rfl (gp_Ir hG111 (⟨by decide, by decide⟩ : Rg 0 0 0)) (by decide) (fun h => absurd h (by decide)) (fun h => absurd h (by decide)) (fun S164 hG165 hA166 e167 f168 er169 => ?_)
  have hF : F_X3_readTestNotNeg bs n (StC S o0)  = ((e0 d106), (e1 d106), 0, (e3 d106), (e4 d106), (e5 d106), (e6 d106), (e7 d106), (e8 d106), (e5 d106), (e10 d106), (e11 d106), (eJ d106)) := by
    subst hd107
    unfold F_X3_readTestNotNeg
    dsimp only
    rw [if_neg q116, if_neg q139, if_neg q146, if_neg q153]
  exact tt_vreturn dX3_readTestNotNeg_89 rfl (hP _ _ _ _ ⟨hG165, hA166, Or.inl ⟨_, rfl, rfl, Eq.trans (stC_mk ((congrFun (congrFun e167 193) o0).trans ((congrFun (up2_ne (k := 193)) o0).trans ((congrFun (congrFun e113 193) o0).trans ((congrFun (up2_ne (k := 193)) o0).trans (sC_193 hs109))))) ((congrFun (congrFun e167 194) o0).trans ((congrFun (up2_ne (k := 194)) o0).trans ((congrFun (congrFun e113 194) o0).trans ((congrFun (up2_ne (k := 194)) o0).trans (sC_194 hs109))))) (by rw [e167]; exact up2_self) ((congrFun (congrFun e167 196) o0).trans ((congrFun (up2_ne (k := 196)) o0).trans ((congrFun (congrFun e113 196) o0).trans ((congrFun (up2_ne (k := 196)) o0).trans (sC_196 hs109))))) ((congrFun (congrFun e167 197) o0).trans ((congrFun (up2_ne (k := 197)) o0).trans ((congrFun (congrFun e113 197) o0).trans ((congrFun (up2_ne (k := 197)) o0).trans (sC_197 hs109))))) ((congrFun (congrFun e167 198) o0).trans ((congrFun (up2_ne (k := 198)) o0).trans ((congrFun (congrFun e113 198) o0).trans ((congrFun (up2_ne (k := 198)) o0).trans (sC_198 hs109))))) ((congrFun (congrFun e167 199) o0).trans ((congrFun (up2_ne (k := 199)) o0).trans ((congrFun (congrFun e113 199) o0).trans ((congrFun (up2_ne (k := 199)) o0).trans (sC_199 hs109))))) ((congrFun (congrFun e167 200) o0).trans ((congrFun (up2_ne (k := 200)) o0).trans ((congrFun (congrFun e113 200) o0).trans ((congrFun (up2_ne (k := 200)) o0).trans (sC_200 hs109))))) ((congrFun (congrFun e167 201) o0).trans ((congrFun (up2_ne (k := 201)) o0).trans ((congrFun (congrFun e113 201) o0).trans ((congrFun (up2_ne (k := 201)) o0).trans (sC_201 hs109))))) ((congrFun (congrFun e167 202) o0).trans ((congrFun (up2_ne (k := 202)) o0).trans (by rw [e113]; exact up2_self))) ((congrFun (congrFun e167 203) o0).trans ((congrFun (up2_ne (k := 203)) o0).trans ((congrFun (congrFun e113 203) o0).trans ((congrFun (up2_ne (k := 203)) o0).trans (sC_203 hs109))))) ((congrFun (congrFun e167 204) o0).trans ((congrFun (up2_ne (k := 204)) o0).trans ((congrFun (congrFun e113 204) o0).trans ((congrFun (up2_ne (k := 204)) o0).trans (sC_204 hs109))))) ((congrFun (congrFun f168 205) o0).trans ((congrFun (congrFun f114 205) o0).trans (sC_205 hs109)))) hF.symm, rfl, rfl⟩⟩)
def F_X3_readIncDec (bs : Nat → Int32) (n : Int32) (d : DD) : DD :=
  let d106 := F_X3_readPlace bs n d 
  if (e4 d106) = 0 then
    if (e4 d106) ≤ 1 then
      ((e0 d106), (e1 d106), (e2 d106), (e3 d106), (e4 d106), (e5 d106), (e6 d106), 11, (e8 d106), (e5 d106), (e10 d106), (e11 d106), (eJ d106))
    else
      d
  else
    if (e4 d106) ≤ 1 then
      ((e0 d106), (e1 d106), (e2 d106), (e3 d106), (e4 d106), (e5 d106), (e6 d106), 12, (e8 d106), (e5 d106), (e10 d106), (e11 d106), (eJ d106))
    else
      ((e0 d106), (e1 d106), 0, (e3 d106), (e4 d106), (e5 d106), (e6 d106), 12, (e8 d106), (e5 d106), (e10 d106), (e11 d106), (eJ d106))
set_option maxHeartbeats 2000000 in
theorem ce_X3_readIncDec {xi : SX} {S : Hp} {E : List Nat} {kc nc : Nat} {P : Po} {o0 : Nat} {bs : Nat → Int32} {n : Int32} (hG : GI S E) (h0 : Oa S E 3 0 o0) (hb : BC S E o0 bs n) (hP : ∀ r T x y, PV E [193, 195, 196, 197, 198, 200, 202] S kc nc rV (fun v T => StC T o0 = F_X3_readIncDec bs n (StC S o0) ) [] r T x y → P r T x y) : TT xi M_X3_readIncDec 0 [(0, .ref o0)] [] S kc nc P := by
  have hA : Af E [193, 195, 196, 197, 198, 200, 202] S S := af_rf
  refine tt_aload_n (j := 0) dX3_readIncDec_0 rfl ?_
  refine gt_Vv (As := []) dX3_readIncDec_1 ca_X3_95 ⟨by decide, by decide⟩ h0 hA rfl (Nat.le_of_ble_eq_true rfl) (Nat.le_of_ble_eq_true rfl) (by decide) (ce_X3_readPlace hG (oa_af h0 hA) (bc_af hb h0 hA) (fun _ _ _ _ h => h)) rfl (fun _ h => nomatch h) (fun S101 hx105 hG102 hB103 hA104 => ?_)
  obtain ⟨d106, hd107⟩ : ∃ q, q = F_X3_readPlace bs n (StC S o0)  := ⟨_, rfl⟩
  have hq108 := (congrArg (fun q => F_X3_readPlace bs n q ) (stC_mk (sC_193 (T := S) (o := o0) rfl) (sC_194 (T := S) (o := o0) rfl) (sC_195 (T := S) (o := o0) rfl) (sC_196 (T := S) (o := o0) rfl) (sC_197 (T := S) (o := o0) rfl) (sC_198 (T := S) (o := o0) rfl) (sC_199 (T := S) (o := o0) rfl) (sC_200 (T := S) (o := o0) rfl) (sC_201 (T := S) (o := o0) rfl) (sC_202 (T := S) (o := o0) rfl) (sC_203 (T := S) (o := o0) rfl) (sC_204 (T := S) (o := o0) rfl) (sC_205 (T := S) (o := o0) rfl))).trans hd107.symm
  have hs109 := hx105.trans hq108
  refine tt_aload_n (j := 0) dX3_readIncDec_4 rfl ?_
  refine tt_aload_n (j := 0) dX3_readIncDec_5 rfl ?_
  refine gt_gI (id := 198) (v := (e5 d106)) dX3_readIncDec_6 fl_3_98 rfl rfl h0 hA104 (sC_198 hs109) ?_
  refine gt_pI (id := 202) (x := (e5 d106)) dX3_readIncDec_9 fl_3_64 rfl rfl h0 hA104 rfl rfl rfl (gp_I hG102) (by decide) (fun h => absurd h (by decide)) (fun h => absurd h (by decide)) (fun S110 hG111 hA112 e113 f114 er115 => ?_)
  refine tt_aload_n (j := 0) dX3_readIncDec_12 rfl ?_
  refine tt_aload_n (j := 0) dX3_readIncDec_13 rfl ?_
  refine gt_gI (id := 197) (v := (e4 d106)) dX3_readIncDec_14 fl_3_104 rfl rfl h0 hA112 ((congrFun (congrFun e113 197) o0).trans ((congrFun (up2_ne (k := 197)) o0).trans (sC_197 hs109))) ?_
  refine tt_if_ne (tgt := 25) dX3_readIncDec_17 rfl (fun q116 => ?_) (fun q116 => ?_)
  · skip
    refine tt_bipush (v := 12) dX3_readIncDec_25 rfl ?_
    refine gt_pI (id := 200) (x := 12) dX3_readIncDec_27 fl_3_54 rfl rfl h0 hA112 rfl rfl rfl (gp_I hG111) (by decide) (fun h => absurd h (by decide)) (fun h => absurd h (by decide)) (fun S117 hG118 hA119 e120 f121 er122 => ?_)
    refine tt_aload_n (j := 0) dX3_readIncDec_30 rfl ?_
    refine gt_gI (id := 197) (v := (e4 d106)) dX3_readIncDec_31 fl_3_104 rfl rfl h0 hA119 ((congrFun (congrFun e120 197) o0).trans ((congrFun (up2_ne (k := 197)) o0).trans ((congrFun (congrFun e113 197) o0).trans ((congrFun (up2_ne (k := 197)) o0).trans (sC_197 hs109))))) ?_
    refine tt_iconst (v := 1) dX3_readIncDec_34 rfl ?_
    refine tt_icmp_le (tgt := 43) dX3_readIncDec_35 rfl (fun q123 => ?_) (fun q123 => ?_)
    · skip
      have h124 : Rg (-2147483648) 1 (e4 d106) := rg_le_l (rg_all (e4 d106)) (⟨by decide, by decide⟩ : Rg 1 1 1) q123
      have hF : F_X3_readIncDec bs n (StC S o0)  = ((e0 d106), (e1 d106), (e2 d106), (e3 d106), (e4 d106), (e5 d106), (e6 d106), 12, (e8 d106), (e5 d106), (e10 d106), (e11 d106), (eJ d106)) := by
        subst hd107
        unfold F_X3_readIncDec
        dsimp only
        rw [if_neg q116, if_pos q123]
      exact tt_vreturn dX3_readIncDec_43 rfl (hP _ _ _ _ ⟨hG118, hA119, Or.inl ⟨_, rfl, rfl, Eq.trans (stC_mk ((congrFun (congrFun e120 193) o0).trans ((congrFun (up2_ne (k := 193)) o0).trans ((congrFun (congrFun e113 193) o0).trans ((congrFun (up2_ne (k := 193)) o0).trans (sC_193 hs109))))) ((congrFun (congrFun e120 194) o0).trans ((congrFun (up2_ne (k := 194)) o0).trans ((congrFun (congrFun e113 194) o0).trans ((congrFun (up2_ne (k := 194)) o0).trans (sC_194 hs109))))) ((congrFun (congrFun e120 195) o0).trans ((congrFun (up2_ne (k := 195)) o0).trans ((congrFun (congrFun e113 195) o0).trans ((congrFun (up2_ne (k := 195)) o0).trans (sC_195 hs109))))) ((congrFun (congrFun e120 196) o0).trans ((congrFun (up2_ne (k := 196)) o0).trans ((congrFun (congrFun e113 196) o0).trans ((congrFun (up2_ne (k := 196)) o0).trans (sC_196 hs109))))) ((congrFun (congrFun e120 197) o0).trans ((congrFun (up2_ne (k := 197)) o0).trans ((congrFun (congrFun e113 197) o0).trans ((congrFun (up2_ne (k := 197)) o0).trans (sC_197 hs109))))) ((congrFun (congrFun e120 198) o0).trans ((congrFun (up2_ne (k := 198)) o0).trans ((congrFun (congrFun e113 198) o0).trans ((congrFun (up2_ne (k := 198)) o0).trans (sC_198 hs109))))) ((congrFun (congrFun e120 199) o0).trans ((congrFun (up2_ne (k := 199)) o0).trans ((congrFun (congrFun e113 199) o0).trans ((congrFun (up2_ne (k := 199)) o0).trans (sC_199 hs109))))) (by rw [e120]; exact up2_self) ((congrFun (congrFun e120 201) o0).trans ((congrFun (up2_ne (k := 201)) o0).trans ((congrFun (congrFun e113 201) o0).trans ((congrFun (up2_ne (k := 201)) o0).trans (sC_201 hs109))))) ((congrFun (congrFun e120 202) o0).trans ((congrFun (up2_ne (k := 202)) o0).trans (by rw [e113]; exact up2_self))) ((congrFun (congrFun e120 203) o0).trans ((congrFun (up2_ne (k := 203)) o0).trans ((congrFun (congrFun e113 203) o0).trans ((congrFun (up2_ne (k := 203)) o0).trans (sC_203 hs109))))) ((congrFun (congrFun e120 204) o0).trans ((congrFun (up2_ne (k := 204)) o0).trans ((congrFun (congrFun e113 204) o0).trans ((congrFun (up2_ne (k := 204)) o0).trans (sC_204 hs109))))) ((congrFun (congrFun f121 205) o0).trans ((congrFun (congrFun f114 205) o0).trans (sC_205 hs109)))) hF.symm, rfl, rfl⟩⟩)
    · skip
      have h125 : Rg 2 2147483647 (e4 d106) := rg_lt_r (⟨by decide, by decide⟩ : Rg 1 1 1) (rg_all (e4 d106)) (nle_lt q123)
      refine tt_aload_n (j := 0) dX3_readIncDec_38 rfl ?_
      refine tt_iconst (v := 0) dX3_readIncDec_39 rfl ?_
      refine gt_pI (id := 195) (x := 0) dX3_readIncDec_40 fl_3_22 rfl rfl h0 hA119 rfl rfl rfl (gp_Ir hG118 (⟨by decide, by decide⟩ : Rg 0 0 0)) (by decide) (fun h => absurd h (by decide)) (fun h => absurd h (by decide)) (fun S126 hG127 hA128 e129 f130 er131 => ?_)
      have hF : F_X3_readIncDec bs n (StC S o0)  = ((e0 d106), (e1 d106), 0, (e3 d106), (e4 d106), (e5 d106), (e6 d106), 12, (e8 d106), (e5 d106), (e10 d106), (e11 d106), (eJ d106)) := by
        subst hd107
        unfold F_X3_readIncDec
        dsimp only
        rw [if_neg q116, if_neg q123]
      exact tt_vreturn dX3_readIncDec_43 rfl (hP _ _ _ _ ⟨hG127, hA128, Or.inl ⟨_, rfl, rfl, Eq.trans (stC_mk ((congrFun (congrFun e129 193) o0).trans ((congrFun (up2_ne (k := 193)) o0).trans ((congrFun (congrFun e120 193) o0).trans ((congrFun (up2_ne (k := 193)) o0).trans ((congrFun (congrFun e113 193) o0).trans ((congrFun (up2_ne (k := 193)) o0).trans (sC_193 hs109))))))) ((congrFun (congrFun e129 194) o0).trans ((congrFun (up2_ne (k := 194)) o0).trans ((congrFun (congrFun e120 194) o0).trans ((congrFun (up2_ne (k := 194)) o0).trans ((congrFun (congrFun e113 194) o0).trans ((congrFun (up2_ne (k := 194)) o0).trans (sC_194 hs109))))))) (by rw [e129]; exact up2_self) ((congrFun (congrFun e129 196) o0).trans ((congrFun (up2_ne (k := 196)) o0).trans ((congrFun (congrFun e120 196) o0).trans ((congrFun (up2_ne (k := 196)) o0).trans ((congrFun (congrFun e113 196) o0).trans ((congrFun (up2_ne (k := 196)) o0).trans (sC_196 hs109))))))) ((congrFun (congrFun e129 197) o0).trans ((congrFun (up2_ne (k := 197)) o0).trans ((congrFun (congrFun e120 197) o0).trans ((congrFun (up2_ne (k := 197)) o0).trans ((congrFun (congrFun e113 197) o0).trans ((congrFun (up2_ne (k := 197)) o0).trans (sC_197 hs109))))))) ((congrFun (congrFun e129 198) o0).trans ((congrFun (up2_ne (k := 198)) o0).trans ((congrFun (congrFun e120 198) o0).trans ((congrFun (up2_ne (k := 198)) o0).trans ((congrFun (congrFun e113 198) o0).trans ((congrFun (up2_ne (k := 198)) o0).trans (sC_198 hs109))))))) ((congrFun (congrFun e129 199) o0).trans ((congrFun (up2_ne (k := 199)) o0).trans ((congrFun (congrFun e120 199) o0).trans ((congrFun (up2_ne (k := 199)) o0).trans ((congrFun (congrFun e113 199) o0).trans ((congrFun (up2_ne (k := 199)) o0).trans (sC_199 hs109))))))) ((congrFun (congrFun e129 200) o0).trans ((congrFun (up2_ne (k := 200)) o0).trans (by rw [e120]; exact up2_self))) ((congrFun (congrFun e129 201) o0).trans ((congrFun (up2_ne (k := 201)) o0).trans ((congrFun (congrFun e120 201) o0).trans ((congrFun (up2_ne (k := 201)) o0).trans ((congrFun (congrFun e113 201) o0).trans ((congrFun (up2_ne (k := 201)) o0).trans (sC_201 hs109))))))) ((congrFun (congrFun e129 202) o0).trans ((congrFun (up2_ne (k := 202)) o0).trans ((congrFun (congrFun e120 202) o0).trans ((congrFun (up2_ne (k := 202)) o0).trans (by rw [e113]; exact up2_self))))) ((congrFun (congrFun e129 203) o0).trans ((congrFun (up2_ne (k := 203)) o0).trans ((congrFun (congrFun e120 203) o0).trans ((congrFun (up2_ne (k := 203)) o0).trans ((congrFun (congrFun e113 203) o0).trans ((congrFun (up2_ne (k := 203)) o0).trans (sC_203 hs109))))))) ((congrFun (congrFun e129 204) o0).trans ((congrFun (up2_ne (k := 204)) o0).trans ((congrFun (congrFun e120 204) o0).trans ((congrFun (up2_ne (k := 204)) o0).trans ((congrFun (congrFun e113 204) o0).trans ((congrFun (up2_ne (k := 204)) o0).trans (sC_204 hs109))))))) ((congrFun (congrFun f130 205) o0).trans ((congrFun (congrFun f121 205) o0).trans ((congrFun (congrFun f114 205) o0).trans (sC_205 hs109))))) hF.symm, rfl, rfl⟩⟩)
  · skip
    have h132 : Rg 0 0 (e4 d106) := rg_eq_l (rg_all (e4 d106)) (⟨by decide, by decide⟩ : Rg 0 0 0) q116
    refine tt_bipush (v := 11) dX3_readIncDec_20 rfl ?_
    refine tt_goto (tgt := 27) dX3_readIncDec_22 rfl ?_
    refine gt_pI (id := 200) (x := 11) dX3_readIncDec_27 fl_3_54 rfl rfl h0 hA112 rfl rfl rfl (gp_I hG111) (by decide) (fun h => absurd h (by decide)) (fun h => absurd h (by decide)) (fun S133 hG134 hA135 e136 f137 er138 => ?_)
    refine tt_aload_n (j := 0) dX3_readIncDec_30 rfl ?_
    refine gt_gI (id := 197) (v := (e4 d106)) dX3_readIncDec_31 fl_3_104 rfl rfl h0 hA135 ((congrFun (congrFun e136 197) o0).trans ((congrFun (up2_ne (k := 197)) o0).trans ((congrFun (congrFun e113 197) o0).trans ((congrFun (up2_ne (k := 197)) o0).trans (sC_197 hs109))))) ?_
    refine tt_iconst (v := 1) dX3_readIncDec_34 rfl ?_
    refine tt_icmp_le (tgt := 43) dX3_readIncDec_35 rfl (fun q139 => ?_) (fun q139 => ?_)
    · skip
      have hF : F_X3_readIncDec bs n (StC S o0)  = ((e0 d106), (e1 d106), (e2 d106), (e3 d106), (e4 d106), (e5 d106), (e6 d106), 11, (e8 d106), (e5 d106), (e10 d106), (e11 d106), (eJ d106)) := by
        subst hd107
        unfold F_X3_readIncDec
        dsimp only
        rw [if_pos q116, if_pos q139]
      exact tt_vreturn dX3_readIncDec_43 rfl (hP _ _ _ _ ⟨hG134, hA135, Or.inl ⟨_, rfl, rfl, Eq.trans (stC_mk ((congrFun (congrFun e136 193) o0).trans ((congrFun (up2_ne (k := 193)) o0).trans ((congrFun (congrFun e113 193) o0).trans ((congrFun (up2_ne (k := 193)) o0).trans (sC_193 hs109))))) ((congrFun (congrFun e136 194) o0).trans ((congrFun (up2_ne (k := 194)) o0).trans ((congrFun (congrFun e113 194) o0).trans ((congrFun (up2_ne (k := 194)) o0).trans (sC_194 hs109))))) ((congrFun (congrFun e136 195) o0).trans ((congrFun (up2_ne (k := 195)) o0).trans ((congrFun (congrFun e113 195) o0).trans ((congrFun (up2_ne (k := 195)) o0).trans (sC_195 hs109))))) ((congrFun (congrFun e136 196) o0).trans ((congrFun (up2_ne (k := 196)) o0).trans ((congrFun (congrFun e113 196) o0).trans ((congrFun (up2_ne (k := 196)) o0).trans (sC_196 hs109))))) ((congrFun (congrFun e136 197) o0).trans ((congrFun (up2_ne (k := 197)) o0).trans ((congrFun (congrFun e113 197) o0).trans ((congrFun (up2_ne (k := 197)) o0).trans (sC_197 hs109))))) ((congrFun (congrFun e136 198) o0).trans ((congrFun (up2_ne (k := 198)) o0).trans ((congrFun (congrFun e113 198) o0).trans ((congrFun (up2_ne (k := 198)) o0).trans (sC_198 hs109))))) ((congrFun (congrFun e136 199) o0).trans ((congrFun (up2_ne (k := 199)) o0).trans ((congrFun (congrFun e113 199) o0).trans ((congrFun (up2_ne (k := 199)) o0).trans (sC_199 hs109))))) (by rw [e136]; exact up2_self) ((congrFun (congrFun e136 201) o0).trans ((congrFun (up2_ne (k := 201)) o0).trans ((congrFun (congrFun e113 201) o0).trans ((congrFun (up2_ne (k := 201)) o0).trans (sC_201 hs109))))) ((congrFun (congrFun e136 202) o0).trans ((congrFun (up2_ne (k := 202)) o0).trans (by rw [e113]; exact up2_self))) ((congrFun (congrFun e136 203) o0).trans ((congrFun (up2_ne (k := 203)) o0).trans ((congrFun (congrFun e113 203) o0).trans ((congrFun (up2_ne (k := 203)) o0).trans (sC_203 hs109))))) ((congrFun (congrFun e136 204) o0).trans ((congrFun (up2_ne (k := 204)) o0).trans ((congrFun (congrFun e113 204) o0).trans ((congrFun (up2_ne (k := 204)) o0).trans (sC_204 hs109))))) ((congrFun (congrFun f137 205) o0).trans ((congrFun (congrFun f114 205) o0).trans (sC_205 hs109)))) hF.symm, rfl, rfl⟩⟩)
    · skip
      have h140 : Rg 1 (-1) 1 := rg_lt_l (⟨by decide, by decide⟩ : Rg 1 1 1) h132 (nle_lt q139)
      have h141 : Rg 2 0 (e4 d106) := rg_lt_r (⟨by decide, by decide⟩ : Rg 1 1 1) h132 (nle_lt q139)
      exact rg_no h140
def F_X3_readJump_1 (bs : Nat → Int32) (n : Int32) (d : DD) (x1 : Int32) (x2 : Int32) : DD :=
  let d118 := F_X3_readNumber_1 bs n ((e0 d), (e1 d), (e2 d), (e3 d), (e4 d), (e5 d), (e6 d), x1, (e8 d), (e9 d), (e10 d), x2, (eJ d)) 
  if (x2 &&& 14) = 10 then
    ((e0 d118.1), (e1 d118.1), 0, (e3 d118.1), (e4 d118.1), (e5 d118.1), (e6 d118.1), (e7 d118.1), (e8 d118.1), (e9 d118.1), (e10 d118.1), (e11 d118.1), (((e0 d118.1) : Int32).toInt64 + d118.2))
  else
    ((e0 d118.1), (e1 d118.1), (e2 d118.1), (e3 d118.1), (e4 d118.1), (e5 d118.1), (e6 d118.1), (e7 d118.1), (e8 d118.1), (e9 d118.1), (e10 d118.1), (e11 d118.1), (((e0 d118.1) : Int32).toInt64 + d118.2))
set_option maxHeartbeats 2000000 in
theorem ce_X3_readJump_1 {xi : SX} {S : Hp} {E : List Nat} {kc nc : Nat} {P : Po} {o0 : Nat} {x1 : Int32} {x2 : Int32} {bs : Nat → Int32} {n : Int32} (hG : GI S E) (h0 : Oa S E 3 0 o0) (hb : BC S E o0 bs n) (hP : ∀ r T x y, PV E [193, 195, 200, 204] S kc nc rV (fun v T => StC T o0 = F_X3_readJump_1 bs n (StC S o0) x1 x2) [] r T x y → P r T x y) : TT xi M_X3_readJump 0 [(0, .ref o0), (1, .int x1), (2, .int x2), (3, .int 1)] [] S kc nc P := by
  have hA : Af E [193, 195, 200, 204] S S := af_rf
  refine tt_aload_n (j := 0) dX3_readJump_0 rfl ?_
  refine tt_iload_n (j := 1) dX3_readJump_1 rfl ?_
  refine gt_pI (id := 200) (x := x1) dX3_readJump_2 fl_3_54 rfl rfl h0 hA rfl rfl rfl (gp_I hG) (by decide) (fun h => absurd h (by decide)) (fun h => absurd h (by decide)) (fun S101 hG102 hA103 e104 f105 er106 => ?_)
  refine tt_aload_n (j := 0) dX3_readJump_5 rfl ?_
  refine tt_iload_n (j := 2) dX3_readJump_6 rfl ?_
  refine gt_pI (id := 204) (x := x2) dX3_readJump_7 fl_3_70 rfl rfl h0 hA103 rfl rfl rfl (gp_I hG102) (by decide) (fun h => absurd h (by decide)) (fun h => absurd h (by decide)) (fun S107 hG108 hA109 e110 f111 er112 => ?_)
  refine tt_aload_n (j := 0) dX3_readJump_10 rfl ?_
  refine tt_iload_n (j := 3) dX3_readJump_11 rfl ?_
  refine gt_VJ (As := [.int 1]) dX3_readJump_12 ca_X3_107 ⟨by decide, by decide⟩ h0 hA109 rfl (Nat.le_of_ble_eq_true rfl) (Nat.le_of_ble_eq_true rfl) (by decide) (ce_X3_readNumber_1 hG108 (oa_af h0 hA109) (bc_af hb h0 hA109) (fun _ _ _ _ h => h)) rfl (fun _ h => nomatch h) (fun S113 y122 hx117 hG114 hB115 hA116 => ?_)
  obtain ⟨d118, hd119⟩ : ∃ q, q = F_X3_readNumber_1 bs n ((e0 (StC S o0)), (e1 (StC S o0)), (e2 (StC S o0)), (e3 (StC S o0)), (e4 (StC S o0)), (e5 (StC S o0)), (e6 (StC S o0)), x1, (e8 (StC S o0)), (e9 (StC S o0)), (e10 (StC S o0)), x2, (eJ (StC S o0)))  := ⟨_, rfl⟩
  have hq120 := (congrArg (fun q => F_X3_readNumber_1 bs n q ) (stC_mk ((congrFun (congrFun e110 193) o0).trans ((congrFun (up2_ne (k := 193)) o0).trans ((congrFun (congrFun e104 193) o0).trans ((congrFun (up2_ne (k := 193)) o0).trans (sC_193 (T := S) (o := o0) rfl))))) ((congrFun (congrFun e110 194) o0).trans ((congrFun (up2_ne (k := 194)) o0).trans ((congrFun (congrFun e104 194) o0).trans ((congrFun (up2_ne (k := 194)) o0).trans (sC_194 (T := S) (o := o0) rfl))))) ((congrFun (congrFun e110 195) o0).trans ((congrFun (up2_ne (k := 195)) o0).trans ((congrFun (congrFun e104 195) o0).trans ((congrFun (up2_ne (k := 195)) o0).trans (sC_195 (T := S) (o := o0) rfl))))) ((congrFun (congrFun e110 196) o0).trans ((congrFun (up2_ne (k := 196)) o0).trans ((congrFun (congrFun e104 196) o0).trans ((congrFun (up2_ne (k := 196)) o0).trans (sC_196 (T := S) (o := o0) rfl))))) ((congrFun (congrFun e110 197) o0).trans ((congrFun (up2_ne (k := 197)) o0).trans ((congrFun (congrFun e104 197) o0).trans ((congrFun (up2_ne (k := 197)) o0).trans (sC_197 (T := S) (o := o0) rfl))))) ((congrFun (congrFun e110 198) o0).trans ((congrFun (up2_ne (k := 198)) o0).trans ((congrFun (congrFun e104 198) o0).trans ((congrFun (up2_ne (k := 198)) o0).trans (sC_198 (T := S) (o := o0) rfl))))) ((congrFun (congrFun e110 199) o0).trans ((congrFun (up2_ne (k := 199)) o0).trans ((congrFun (congrFun e104 199) o0).trans ((congrFun (up2_ne (k := 199)) o0).trans (sC_199 (T := S) (o := o0) rfl))))) ((congrFun (congrFun e110 200) o0).trans ((congrFun (up2_ne (k := 200)) o0).trans (by rw [e104]; exact up2_self))) ((congrFun (congrFun e110 201) o0).trans ((congrFun (up2_ne (k := 201)) o0).trans ((congrFun (congrFun e104 201) o0).trans ((congrFun (up2_ne (k := 201)) o0).trans (sC_201 (T := S) (o := o0) rfl))))) ((congrFun (congrFun e110 202) o0).trans ((congrFun (up2_ne (k := 202)) o0).trans ((congrFun (congrFun e104 202) o0).trans ((congrFun (up2_ne (k := 202)) o0).trans (sC_202 (T := S) (o := o0) rfl))))) ((congrFun (congrFun e110 203) o0).trans ((congrFun (up2_ne (k := 203)) o0).trans ((congrFun (congrFun e104 203) o0).trans ((congrFun (up2_ne (k := 203)) o0).trans (sC_203 (T := S) (o := o0) rfl))))) (by rw [e110]; exact up2_self) ((congrFun (congrFun f111 205) o0).trans ((congrFun (congrFun f105 205) o0).trans (sC_205 (T := S) (o := o0) rfl))))).trans hd119.symm
  have hs121 := hx117.2.trans (congrArg Prod.fst hq120)
  obtain rfl : y122 = d118.2 := (xjC_v hx117).trans (congrArg Prod.snd hq120)
  refine tt_lstore (ks := [0, 1, 2, 3, 4]) (L' := [(4, .long d118.2), (0, .ref o0), (1, .int x1), (2, .int x2), (3, .int 1)]) dX3_readJump_15 (by decide) rfl ?_
  refine tt_aload_n (j := 1) dX3_readJump_17 rfl ?_
  refine tt_aload_n (j := 1) dX3_readJump_18 rfl ?_
  refine gt_gI (id := 193) (v := (e0 d118.1)) dX3_readJump_19 fl_3_15 rfl rfl h0 hA116 (sC_193 hs121) ?_
  refine tt_i2l dX3_readJump_22 ?_
  refine tt_lload (j := 0) dX3_readJump_23 rfl ?_
  refine tt_ladd dX3_readJump_25 ?_
  refine gt_pJ (id := 205) (x := (((e0 d118.1) : Int32).toInt64 + d118.2)) dX3_readJump_26 fl_3_73 rfl rfl h0 hA116 rfl rfl rfl hG114 (fun S123 hG124 hA125 e126 f127 er128 => ?_)
  refine tt_iload_n (j := 3) dX3_readJump_29 rfl ?_
  refine tt_bipush (v := 14) dX3_readJump_30 rfl ?_
  refine tt_iand dX3_readJump_32 ?_
  refine tt_bipush (v := 10) dX3_readJump_33 rfl ?_
  refine tt_icmp_ne (tgt := 43) dX3_readJump_35 rfl (fun q129 => ?_) (fun q129 => ?_)
  · skip
    have hF : F_X3_readJump_1 bs n (StC S o0) x1 x2 = ((e0 d118.1), (e1 d118.1), (e2 d118.1), (e3 d118.1), (e4 d118.1), (e5 d118.1), (e6 d118.1), (e7 d118.1), (e8 d118.1), (e9 d118.1), (e10 d118.1), (e11 d118.1), (((e0 d118.1) : Int32).toInt64 + d118.2)) := by
      subst hd119
      unfold F_X3_readJump_1
      dsimp only
      rw [if_neg q129]
    exact tt_vreturn dX3_readJump_43 rfl (hP _ _ _ _ ⟨hG124, hA125, Or.inl ⟨_, rfl, rfl, Eq.trans (stC_mk ((congrFun (congrFun e126 193) o0).trans (sC_193 hs121)) ((congrFun (congrFun e126 194) o0).trans (sC_194 hs121)) ((congrFun (congrFun e126 195) o0).trans (sC_195 hs121)) ((congrFun (congrFun e126 196) o0).trans (sC_196 hs121)) ((congrFun (congrFun e126 197) o0).trans (sC_197 hs121)) ((congrFun (congrFun e126 198) o0).trans (sC_198 hs121)) ((congrFun (congrFun e126 199) o0).trans (sC_199 hs121)) ((congrFun (congrFun e126 200) o0).trans (sC_200 hs121)) ((congrFun (congrFun e126 201) o0).trans (sC_201 hs121)) ((congrFun (congrFun e126 202) o0).trans (sC_202 hs121)) ((congrFun (congrFun e126 203) o0).trans (sC_203 hs121)) ((congrFun (congrFun e126 204) o0).trans (sC_204 hs121)) (by rw [f127]; exact up2_self)) hF.symm, rfl, rfl⟩⟩)
  · skip
    have h130 : Rg 10 10 (x2 &&& 14) := rg_eq_l (rg_and (x := x2) (⟨by decide, by decide⟩ : Rg 14 14 14)) (⟨by decide, by decide⟩ : Rg 10 10 10) q129
    refine tt_aload_n (j := 1) dX3_readJump_38 rfl ?_
    refine tt_iconst (v := 0) dX3_readJump_39 rfl ?_
    refine gt_pI (id := 195) (x := 0) dX3_readJump_40 fl_3_22 rfl rfl h0 hA125 rfl rfl rfl (gp_Ir hG124 (⟨by decide, by decide⟩ : Rg 0 0 0)) (by decide) (fun h => absurd h (by decide)) (fun h => absurd h (by decide)) (fun S131 hG132 hA133 e134 f135 er136 => ?_)
    have hF : F_X3_readJump_1 bs n (StC S o0) x1 x2 = ((e0 d118.1), (e1 d118.1), 0, (e3 d118.1), (e4 d118.1), (e5 d118.1), (e6 d118.1), (e7 d118.1), (e8 d118.1), (e9 d118.1), (e10 d118.1), (e11 d118.1), (((e0 d118.1) : Int32).toInt64 + d118.2)) := by
      subst hd119
      unfold F_X3_readJump_1
      dsimp only
      rw [if_pos q129]
    exact tt_vreturn dX3_readJump_43 rfl (hP _ _ _ _ ⟨hG132, hA133, Or.inl ⟨_, rfl, rfl, Eq.trans (stC_mk ((congrFun (congrFun e134 193) o0).trans ((congrFun (up2_ne (k := 193)) o0).trans ((congrFun (congrFun e126 193) o0).trans (sC_193 hs121)))) ((congrFun (congrFun e134 194) o0).trans ((congrFun (up2_ne (k := 194)) o0).trans ((congrFun (congrFun e126 194) o0).trans (sC_194 hs121)))) (by rw [e134]; exact up2_self) ((congrFun (congrFun e134 196) o0).trans ((congrFun (up2_ne (k := 196)) o0).trans ((congrFun (congrFun e126 196) o0).trans (sC_196 hs121)))) ((congrFun (congrFun e134 197) o0).trans ((congrFun (up2_ne (k := 197)) o0).trans ((congrFun (congrFun e126 197) o0).trans (sC_197 hs121)))) ((congrFun (congrFun e134 198) o0).trans ((congrFun (up2_ne (k := 198)) o0).trans ((congrFun (congrFun e126 198) o0).trans (sC_198 hs121)))) ((congrFun (congrFun e134 199) o0).trans ((congrFun (up2_ne (k := 199)) o0).trans ((congrFun (congrFun e126 199) o0).trans (sC_199 hs121)))) ((congrFun (congrFun e134 200) o0).trans ((congrFun (up2_ne (k := 200)) o0).trans ((congrFun (congrFun e126 200) o0).trans (sC_200 hs121)))) ((congrFun (congrFun e134 201) o0).trans ((congrFun (up2_ne (k := 201)) o0).trans ((congrFun (congrFun e126 201) o0).trans (sC_201 hs121)))) ((congrFun (congrFun e134 202) o0).trans ((congrFun (up2_ne (k := 202)) o0).trans ((congrFun (congrFun e126 202) o0).trans (sC_202 hs121)))) ((congrFun (congrFun e134 203) o0).trans ((congrFun (up2_ne (k := 203)) o0).trans ((congrFun (congrFun e126 203) o0).trans (sC_203 hs121)))) ((congrFun (congrFun e134 204) o0).trans ((congrFun (up2_ne (k := 204)) o0).trans ((congrFun (congrFun e126 204) o0).trans (sC_204 hs121)))) ((congrFun (congrFun f135 205) o0).trans (by rw [f127]; exact up2_self))) hF.symm, rfl, rfl⟩⟩)
def F_X3_readJump_4 (bs : Nat → Int32) (n : Int32) (d : DD) (x1 : Int32) (x2 : Int32) : DD :=
  let d118 := F_X3_readNumber_4 bs n ((e0 d), (e1 d), (e2 d), (e3 d), (e4 d), (e5 d), (e6 d), x1, (e8 d), (e9 d), (e10 d), x2, (eJ d)) 
  if (x2 &&& 14) = 10 then
    ((e0 d118.1), (e1 d118.1), 0, (e3 d118.1), (e4 d118.1), (e5 d118.1), (e6 d118.1), (e7 d118.1), (e8 d118.1), (e9 d118.1), (e10 d118.1), (e11 d118.1), (((e0 d118.1) : Int32).toInt64 + d118.2))
  else
    ((e0 d118.1), (e1 d118.1), (e2 d118.1), (e3 d118.1), (e4 d118.1), (e5 d118.1), (e6 d118.1), (e7 d118.1), (e8 d118.1), (e9 d118.1), (e10 d118.1), (e11 d118.1), (((e0 d118.1) : Int32).toInt64 + d118.2))
set_option maxHeartbeats 2000000 in
theorem ce_X3_readJump_4 {xi : SX} {S : Hp} {E : List Nat} {kc nc : Nat} {P : Po} {o0 : Nat} {x1 : Int32} {x2 : Int32} {bs : Nat → Int32} {n : Int32} (hG : GI S E) (h0 : Oa S E 3 0 o0) (hb : BC S E o0 bs n) (hP : ∀ r T x y, PV E [193, 195, 200, 204] S kc nc rV (fun v T => StC T o0 = F_X3_readJump_4 bs n (StC S o0) x1 x2) [] r T x y → P r T x y) : TT xi M_X3_readJump 0 [(0, .ref o0), (1, .int x1), (2, .int x2), (3, .int 4)] [] S kc nc P := by
  have hA : Af E [193, 195, 200, 204] S S := af_rf
  refine tt_aload_n (j := 0) dX3_readJump_0 rfl ?_
  refine tt_iload_n (j := 1) dX3_readJump_1 rfl ?_
  refine gt_pI (id := 200) (x := x1) dX3_readJump_2 fl_3_54 rfl rfl h0 hA rfl rfl rfl (gp_I hG) (by decide) (fun h => absurd h (by decide)) (fun h => absurd h (by decide)) (fun S101 hG102 hA103 e104 f105 er106 => ?_)
  refine tt_aload_n (j := 0) dX3_readJump_5 rfl ?_
  refine tt_iload_n (j := 2) dX3_readJump_6 rfl ?_
  refine gt_pI (id := 204) (x := x2) dX3_readJump_7 fl_3_70 rfl rfl h0 hA103 rfl rfl rfl (gp_I hG102) (by decide) (fun h => absurd h (by decide)) (fun h => absurd h (by decide)) (fun S107 hG108 hA109 e110 f111 er112 => ?_)
  refine tt_aload_n (j := 0) dX3_readJump_10 rfl ?_
  refine tt_iload_n (j := 3) dX3_readJump_11 rfl ?_
  refine gt_VJ (As := [.int 4]) dX3_readJump_12 ca_X3_107 ⟨by decide, by decide⟩ h0 hA109 rfl (Nat.le_of_ble_eq_true rfl) (Nat.le_of_ble_eq_true rfl) (by decide) (ce_X3_readNumber_4 hG108 (oa_af h0 hA109) (bc_af hb h0 hA109) (fun _ _ _ _ h => h)) rfl (fun _ h => nomatch h) (fun S113 y122 hx117 hG114 hB115 hA116 => ?_)
  obtain ⟨d118, hd119⟩ : ∃ q, q = F_X3_readNumber_4 bs n ((e0 (StC S o0)), (e1 (StC S o0)), (e2 (StC S o0)), (e3 (StC S o0)), (e4 (StC S o0)), (e5 (StC S o0)), (e6 (StC S o0)), x1, (e8 (StC S o0)), (e9 (StC S o0)), (e10 (StC S o0)), x2, (eJ (StC S o0)))  := ⟨_, rfl⟩
  have hq120 := (congrArg (fun q => F_X3_readNumber_4 bs n q ) (stC_mk ((congrFun (congrFun e110 193) o0).trans ((congrFun (up2_ne (k := 193)) o0).trans ((congrFun (congrFun e104 193) o0).trans ((congrFun (up2_ne (k := 193)) o0).trans (sC_193 (T := S) (o := o0) rfl))))) ((congrFun (congrFun e110 194) o0).trans ((congrFun (up2_ne (k := 194)) o0).trans ((congrFun (congrFun e104 194) o0).trans ((congrFun (up2_ne (k := 194)) o0).trans (sC_194 (T := S) (o := o0) rfl))))) ((congrFun (congrFun e110 195) o0).trans ((congrFun (up2_ne (k := 195)) o0).trans ((congrFun (congrFun e104 195) o0).trans ((congrFun (up2_ne (k := 195)) o0).trans (sC_195 (T := S) (o := o0) rfl))))) ((congrFun (congrFun e110 196) o0).trans ((congrFun (up2_ne (k := 196)) o0).trans ((congrFun (congrFun e104 196) o0).trans ((congrFun (up2_ne (k := 196)) o0).trans (sC_196 (T := S) (o := o0) rfl))))) ((congrFun (congrFun e110 197) o0).trans ((congrFun (up2_ne (k := 197)) o0).trans ((congrFun (congrFun e104 197) o0).trans ((congrFun (up2_ne (k := 197)) o0).trans (sC_197 (T := S) (o := o0) rfl))))) ((congrFun (congrFun e110 198) o0).trans ((congrFun (up2_ne (k := 198)) o0).trans ((congrFun (congrFun e104 198) o0).trans ((congrFun (up2_ne (k := 198)) o0).trans (sC_198 (T := S) (o := o0) rfl))))) ((congrFun (congrFun e110 199) o0).trans ((congrFun (up2_ne (k := 199)) o0).trans ((congrFun (congrFun e104 199) o0).trans ((congrFun (up2_ne (k := 199)) o0).trans (sC_199 (T := S) (o := o0) rfl))))) ((congrFun (congrFun e110 200) o0).trans ((congrFun (up2_ne (k := 200)) o0).trans (by rw [e104]; exact up2_self))) ((congrFun (congrFun e110 201) o0).trans ((congrFun (up2_ne (k := 201)) o0).trans ((congrFun (congrFun e104 201) o0).trans ((congrFun (up2_ne (k := 201)) o0).trans (sC_201 (T := S) (o := o0) rfl))))) ((congrFun (congrFun e110 202) o0).trans ((congrFun (up2_ne (k := 202)) o0).trans ((congrFun (congrFun e104 202) o0).trans ((congrFun (up2_ne (k := 202)) o0).trans (sC_202 (T := S) (o := o0) rfl))))) ((congrFun (congrFun e110 203) o0).trans ((congrFun (up2_ne (k := 203)) o0).trans ((congrFun (congrFun e104 203) o0).trans ((congrFun (up2_ne (k := 203)) o0).trans (sC_203 (T := S) (o := o0) rfl))))) (by rw [e110]; exact up2_self) ((congrFun (congrFun f111 205) o0).trans ((congrFun (congrFun f105 205) o0).trans (sC_205 (T := S) (o := o0) rfl))))).trans hd119.symm
  have hs121 := hx117.2.trans (congrArg Prod.fst hq120)
  obtain rfl : y122 = d118.2 := (xjC_v hx117).trans (congrArg Prod.snd hq120)
  refine tt_lstore (ks := [0, 1, 2, 3, 4]) (L' := [(4, .long d118.2), (0, .ref o0), (1, .int x1), (2, .int x2), (3, .int 4)]) dX3_readJump_15 (by decide) rfl ?_
  refine tt_aload_n (j := 1) dX3_readJump_17 rfl ?_
  refine tt_aload_n (j := 1) dX3_readJump_18 rfl ?_
  refine gt_gI (id := 193) (v := (e0 d118.1)) dX3_readJump_19 fl_3_15 rfl rfl h0 hA116 (sC_193 hs121) ?_
  refine tt_i2l dX3_readJump_22 ?_
  refine tt_lload (j := 0) dX3_readJump_23 rfl ?_
  refine tt_ladd dX3_readJump_25 ?_
  refine gt_pJ (id := 205) (x := (((e0 d118.1) : Int32).toInt64 + d118.2)) dX3_readJump_26 fl_3_73 rfl rfl h0 hA116 rfl rfl rfl hG114 (fun S123 hG124 hA125 e126 f127 er128 => ?_)
  refine tt_iload_n (j := 3) dX3_readJump_29 rfl ?_
  refine tt_bipush (v := 14) dX3_readJump_30 rfl ?_
  refine tt_iand dX3_readJump_32 ?_
  refine tt_bipush (v := 10) dX3_readJump_33 rfl ?_
  refine tt_icmp_ne (tgt := 43) dX3_readJump_35 rfl (fun q129 => ?_) (fun q129 => ?_)
  · skip
    have hF : F_X3_readJump_4 bs n (StC S o0) x1 x2 = ((e0 d118.1), (e1 d118.1), (e2 d118.1), (e3 d118.1), (e4 d118.1), (e5 d118.1), (e6 d118.1), (e7 d118.1), (e8 d118.1), (e9 d118.1), (e10 d118.1), (e11 d118.1), (((e0 d118.1) : Int32).toInt64 + d118.2)) := by
      subst hd119
      unfold F_X3_readJump_4
      dsimp only
      rw [if_neg q129]
    exact tt_vreturn dX3_readJump_43 rfl (hP _ _ _ _ ⟨hG124, hA125, Or.inl ⟨_, rfl, rfl, Eq.trans (stC_mk ((congrFun (congrFun e126 193) o0).trans (sC_193 hs121)) ((congrFun (congrFun e126 194) o0).trans (sC_194 hs121)) ((congrFun (congrFun e126 195) o0).trans (sC_195 hs121)) ((congrFun (congrFun e126 196) o0).trans (sC_196 hs121)) ((congrFun (congrFun e126 197) o0).trans (sC_197 hs121)) ((congrFun (congrFun e126 198) o0).trans (sC_198 hs121)) ((congrFun (congrFun e126 199) o0).trans (sC_199 hs121)) ((congrFun (congrFun e126 200) o0).trans (sC_200 hs121)) ((congrFun (congrFun e126 201) o0).trans (sC_201 hs121)) ((congrFun (congrFun e126 202) o0).trans (sC_202 hs121)) ((congrFun (congrFun e126 203) o0).trans (sC_203 hs121)) ((congrFun (congrFun e126 204) o0).trans (sC_204 hs121)) (by rw [f127]; exact up2_self)) hF.symm, rfl, rfl⟩⟩)
  · skip
    have h130 : Rg 10 10 (x2 &&& 14) := rg_eq_l (rg_and (x := x2) (⟨by decide, by decide⟩ : Rg 14 14 14)) (⟨by decide, by decide⟩ : Rg 10 10 10) q129
    refine tt_aload_n (j := 1) dX3_readJump_38 rfl ?_
    refine tt_iconst (v := 0) dX3_readJump_39 rfl ?_
    refine gt_pI (id := 195) (x := 0) dX3_readJump_40 fl_3_22 rfl rfl h0 hA125 rfl rfl rfl (gp_Ir hG124 (⟨by decide, by decide⟩ : Rg 0 0 0)) (by decide) (fun h => absurd h (by decide)) (fun h => absurd h (by decide)) (fun S131 hG132 hA133 e134 f135 er136 => ?_)
    have hF : F_X3_readJump_4 bs n (StC S o0) x1 x2 = ((e0 d118.1), (e1 d118.1), 0, (e3 d118.1), (e4 d118.1), (e5 d118.1), (e6 d118.1), (e7 d118.1), (e8 d118.1), (e9 d118.1), (e10 d118.1), (e11 d118.1), (((e0 d118.1) : Int32).toInt64 + d118.2)) := by
      subst hd119
      unfold F_X3_readJump_4
      dsimp only
      rw [if_pos q129]
    exact tt_vreturn dX3_readJump_43 rfl (hP _ _ _ _ ⟨hG132, hA133, Or.inl ⟨_, rfl, rfl, Eq.trans (stC_mk ((congrFun (congrFun e134 193) o0).trans ((congrFun (up2_ne (k := 193)) o0).trans ((congrFun (congrFun e126 193) o0).trans (sC_193 hs121)))) ((congrFun (congrFun e134 194) o0).trans ((congrFun (up2_ne (k := 194)) o0).trans ((congrFun (congrFun e126 194) o0).trans (sC_194 hs121)))) (by rw [e134]; exact up2_self) ((congrFun (congrFun e134 196) o0).trans ((congrFun (up2_ne (k := 196)) o0).trans ((congrFun (congrFun e126 196) o0).trans (sC_196 hs121)))) ((congrFun (congrFun e134 197) o0).trans ((congrFun (up2_ne (k := 197)) o0).trans ((congrFun (congrFun e126 197) o0).trans (sC_197 hs121)))) ((congrFun (congrFun e134 198) o0).trans ((congrFun (up2_ne (k := 198)) o0).trans ((congrFun (congrFun e126 198) o0).trans (sC_198 hs121)))) ((congrFun (congrFun e134 199) o0).trans ((congrFun (up2_ne (k := 199)) o0).trans ((congrFun (congrFun e126 199) o0).trans (sC_199 hs121)))) ((congrFun (congrFun e134 200) o0).trans ((congrFun (up2_ne (k := 200)) o0).trans ((congrFun (congrFun e126 200) o0).trans (sC_200 hs121)))) ((congrFun (congrFun e134 201) o0).trans ((congrFun (up2_ne (k := 201)) o0).trans ((congrFun (congrFun e126 201) o0).trans (sC_201 hs121)))) ((congrFun (congrFun e134 202) o0).trans ((congrFun (up2_ne (k := 202)) o0).trans ((congrFun (congrFun e126 202) o0).trans (sC_202 hs121)))) ((congrFun (congrFun e134 203) o0).trans ((congrFun (up2_ne (k := 203)) o0).trans ((congrFun (congrFun e126 203) o0).trans (sC_203 hs121)))) ((congrFun (congrFun e134 204) o0).trans ((congrFun (up2_ne (k := 204)) o0).trans ((congrFun (congrFun e126 204) o0).trans (sC_204 hs121)))) ((congrFun (congrFun f135 205) o0).trans (by rw [f127]; exact up2_self))) hF.symm, rfl, rfl⟩⟩)
def F_X3_readOther (bs : Nat → Int32) (n : Int32) (d : DD) (x1 : Int32) : DD :=
  if x1 = 99 then
    let d107 := F_X3_readSignExtension bs n d 
    d107
  else
    if x1 = 129 then
      let d117 := F_X3_readArithmeticWithConstant_4 bs n d 
      d117
    else
      if x1 = 131 then
        let d127 := F_X3_readArithmeticWithConstant_1 bs n d 
        d127
      else
        if x1 = 133 then
          let d137 := F_X3_readPair bs n d (8) (1)
          d137
        else
          if x1 = 137 then
            let d147 := F_X3_readPair bs n d (13) (1)
            d147
          else
            if x1 = 139 then
              let d157 := F_X3_readPair bs n d (13) (0)
              d157
            else
              if x1 = 144 then
                ((e0 d), (e1 d), (e2 d), (e3 d), (e4 d), (e5 d), (e6 d), 21, (e8 d), (e9 d), (e10 d), (e11 d), (eJ d))
              else
                if x1 = 193 then
                  let d174 := F_X3_readShift bs n d 
                  d174
                else
                  if x1 = 195 then
                    ((e0 d), (e1 d), (e2 d), (e3 d), (e4 d), (e5 d), (e6 d), 22, (e8 d), (e9 d), (e10 d), (e11 d), (eJ d))
                  else
                    if x1 = 199 then
                      let d191 := F_X3_readMoveToPlace bs n d 
                      d191
                    else
                      if x1 = 233 then
                        let d201 := F_X3_readJump_4 bs n d (20) (0)
                        d201
                      else
                        if x1 = 235 then
                          let d211 := F_X3_readJump_1 bs n d (20) (0)
                          d211
                        else
                          if x1 = 244 then
                            ((e0 d), (e1 d), (e2 d), (e3 d), (e4 d), (e5 d), (e6 d), 22, (e8 d), (e9 d), (e10 d), (e11 d), (eJ d))
                          else
                            if x1 = 247 then
                              let d228 := F_X3_readTestNotNeg bs n d 
                              d228
                            else
                              if x1 = 255 then
                                let d238 := F_X3_readIncDec bs n d 
                                d238
                              else
                                if x1 = 431 then
                                  let d248 := F_X3_readPair bs n d (17) (0)
                                  d248
                                else
                                  ((e0 d), (e1 d), 0, (e3 d), (e4 d), (e5 d), (e6 d), (e7 d), (e8 d), (e9 d), (e10 d), (e11 d), (eJ d))
set_option maxHeartbeats 2000000 in
theorem ce_X3_readOther {xi : SX} {S : Hp} {E : List Nat} {kc nc : Nat} {P : Po} {o0 : Nat} {x1 : Int32} {bs : Nat → Int32} {n : Int32} (hG : GI S E) (h0 : Oa S E 3 0 o0) (hb : BC S E o0 bs n) (hP : ∀ r T x y, PV E [193, 195, 196, 197, 198, 200, 202, 203, 204] S kc nc rV (fun v T => StC T o0 = F_X3_readOther bs n (StC S o0) x1) [] r T x y → P r T x y) : TT xi M_X3_readOther 0 [(0, .ref o0), (1, .int x1)] [] S kc nc P := by
  have hA : Af E [193, 195, 196, 197, 198, 200, 202, 203, 204] S S := af_rf
  refine tt_iload_n (j := 1) dX3_readOther_0 rfl ?_
  refine gt_by (c := x1 = 99) (fun q101 => ?_) (fun q101 => ?_)
  · skip
    refine gt_lseq (off := 139) (tgt := 140) 99 99 dX3_readOther_1 (by decide) q101 rfl rfl rfl ?_
    refine tt_aload_n (j := 0) dX3_readOther_140 rfl ?_
    refine gt_Vv (As := []) dX3_readOther_141 ca_X3_77 ⟨by decide, by decide⟩ h0 hA rfl (Nat.le_of_ble_eq_true rfl) (Nat.le_of_ble_eq_true rfl) (by decide) (ce_X3_readSignExtension hG (oa_af h0 hA) (bc_af hb h0 hA) (fun _ _ _ _ h => h)) rfl (fun _ h => nomatch h) (fun S102 hx106 hG103 hB104 hA105 => ?_)
    obtain ⟨d107, hd108⟩ : ∃ q, q = F_X3_readSignExtension bs n (StC S o0)  := ⟨_, rfl⟩
    have hq109 := (congrArg (fun q => F_X3_readSignExtension bs n q ) (stC_mk (sC_193 (T := S) (o := o0) rfl) (sC_194 (T := S) (o := o0) rfl) (sC_195 (T := S) (o := o0) rfl) (sC_196 (T := S) (o := o0) rfl) (sC_197 (T := S) (o := o0) rfl) (sC_198 (T := S) (o := o0) rfl) (sC_199 (T := S) (o := o0) rfl) (sC_200 (T := S) (o := o0) rfl) (sC_201 (T := S) (o := o0) rfl) (sC_202 (T := S) (o := o0) rfl) (sC_203 (T := S) (o := o0) rfl) (sC_204 (T := S) (o := o0) rfl) (sC_205 (T := S) (o := o0) rfl))).trans hd108.symm
    have hs110 := hx106.trans hq109
    refine tt_goto (tgt := 285) dX3_readOther_144 rfl ?_
    have hF : F_X3_readOther bs n (StC S o0) x1 = d107 := by
      subst hd108
      unfold F_X3_readOther
      dsimp only
      rw [if_pos q101]
    exact tt_vreturn dX3_readOther_285 rfl (hP _ _ _ _ ⟨hG103, hA105, Or.inl ⟨_, rfl, rfl, Eq.trans (stC_mk (sC_193 hs110) (sC_194 hs110) (sC_195 hs110) (sC_196 hs110) (sC_197 hs110) (sC_198 hs110) (sC_199 hs110) (sC_200 hs110) (sC_201 hs110) (sC_202 hs110) (sC_203 hs110) (sC_204 hs110) (sC_205 hs110)) hF.symm, rfl, rfl⟩⟩)
  refine gt_by (c := x1 = 129) (fun q111 => ?_) (fun q111 => ?_)
  · skip
    refine gt_lseq (off := 146) (tgt := 147) 129 129 dX3_readOther_1 (by decide) q111 rfl rfl rfl ?_
    refine tt_aload_n (j := 0) dX3_readOther_147 rfl ?_
    refine tt_iconst (v := 4) dX3_readOther_148 rfl ?_
    refine gt_Vv (As := [.int 4]) dX3_readOther_149 ca_X3_80 ⟨by decide, by decide⟩ h0 hA rfl (Nat.le_of_ble_eq_true rfl) (Nat.le_of_ble_eq_true rfl) (by decide) (ce_X3_readArithmeticWithConstant_4 hG (oa_af h0 hA) (bc_af hb h0 hA) (fun _ _ _ _ h => h)) rfl (fun _ h => nomatch h) (fun S112 hx116 hG113 hB114 hA115 => ?_)
    obtain ⟨d117, hd118⟩ : ∃ q, q = F_X3_readArithmeticWithConstant_4 bs n (StC S o0)  := ⟨_, rfl⟩
    have hq119 := (congrArg (fun q => F_X3_readArithmeticWithConstant_4 bs n q ) (stC_mk (sC_193 (T := S) (o := o0) rfl) (sC_194 (T := S) (o := o0) rfl) (sC_195 (T := S) (o := o0) rfl) (sC_196 (T := S) (o := o0) rfl) (sC_197 (T := S) (o := o0) rfl) (sC_198 (T := S) (o := o0) rfl) (sC_199 (T := S) (o := o0) rfl) (sC_200 (T := S) (o := o0) rfl) (sC_201 (T := S) (o := o0) rfl) (sC_202 (T := S) (o := o0) rfl) (sC_203 (T := S) (o := o0) rfl) (sC_204 (T := S) (o := o0) rfl) (sC_205 (T := S) (o := o0) rfl))).trans hd118.symm
    have hs120 := hx116.trans hq119
    refine tt_goto (tgt := 285) dX3_readOther_152 rfl ?_
    have hF : F_X3_readOther bs n (StC S o0) x1 = d117 := by
      subst hd118
      unfold F_X3_readOther
      dsimp only
      rw [if_neg q101, if_pos q111]
    exact tt_vreturn dX3_readOther_285 rfl (hP _ _ _ _ ⟨hG113, hA115, Or.inl ⟨_, rfl, rfl, Eq.trans (stC_mk (sC_193 hs120) (sC_194 hs120) (sC_195 hs120) (sC_196 hs120) (sC_197 hs120) (sC_198 hs120) (sC_199 hs120) (sC_200 hs120) (sC_201 hs120) (sC_202 hs120) (sC_203 hs120) (sC_204 hs120) (sC_205 hs120)) hF.symm, rfl, rfl⟩⟩)
  refine gt_by (c := x1 = 131) (fun q121 => ?_) (fun q121 => ?_)
  · skip
    refine gt_lseq (off := 154) (tgt := 155) 131 131 dX3_readOther_1 (by decide) q121 rfl rfl rfl ?_
    refine tt_aload_n (j := 0) dX3_readOther_155 rfl ?_
    refine tt_iconst (v := 1) dX3_readOther_156 rfl ?_
    refine gt_Vv (As := [.int 1]) dX3_readOther_157 ca_X3_80 ⟨by decide, by decide⟩ h0 hA rfl (Nat.le_of_ble_eq_true rfl) (Nat.le_of_ble_eq_true rfl) (by decide) (ce_X3_readArithmeticWithConstant_1 hG (oa_af h0 hA) (bc_af hb h0 hA) (fun _ _ _ _ h => h)) rfl (fun _ h => nomatch h) (fun S122 hx126 hG123 hB124 hA125 => ?_)
    obtain ⟨d127, hd128⟩ : ∃ q, q = F_X3_readArithmeticWithConstant_1 bs n (StC S o0)  := ⟨_, rfl⟩
    have hq129 := (congrArg (fun q => F_X3_readArithmeticWithConstant_1 bs n q ) (stC_mk (sC_193 (T := S) (o := o0) rfl) (sC_194 (T := S) (o := o0) rfl) (sC_195 (T := S) (o := o0) rfl) (sC_196 (T := S) (o := o0) rfl) (sC_197 (T := S) (o := o0) rfl) (sC_198 (T := S) (o := o0) rfl) (sC_199 (T := S) (o := o0) rfl) (sC_200 (T := S) (o := o0) rfl) (sC_201 (T := S) (o := o0) rfl) (sC_202 (T := S) (o := o0) rfl) (sC_203 (T := S) (o := o0) rfl) (sC_204 (T := S) (o := o0) rfl) (sC_205 (T := S) (o := o0) rfl))).trans hd128.symm
    have hs130 := hx126.trans hq129
    refine tt_goto (tgt := 285) dX3_readOther_160 rfl ?_
    have hF : F_X3_readOther bs n (StC S o0) x1 = d127 := by
      subst hd128
      unfold F_X3_readOther
      dsimp only
      rw [if_neg q101, if_neg q111, if_pos q121]
    exact tt_vreturn dX3_readOther_285 rfl (hP _ _ _ _ ⟨hG123, hA125, Or.inl ⟨_, rfl, rfl, Eq.trans (stC_mk (sC_193 hs130) (sC_194 hs130) (sC_195 hs130) (sC_196 hs130) (sC_197 hs130) (sC_198 hs130) (sC_199 hs130) (sC_200 hs130) (sC_201 hs130) (sC_202 hs130) (sC_203 hs130) (sC_204 hs130) (sC_205 hs130)) hF.symm, rfl, rfl⟩⟩)
  refine gt_by (c := x1 = 133) (fun q131 => ?_) (fun q131 => ?_)
  · skip
    refine gt_lseq (off := 162) (tgt := 163) 133 133 dX3_readOther_1 (by decide) q131 rfl rfl rfl ?_
    refine tt_aload_n (j := 0) dX3_readOther_163 rfl ?_
    refine tt_bipush (v := 8) dX3_readOther_164 rfl ?_
    refine tt_iconst (v := 1) dX3_readOther_166 rfl ?_
    refine gt_Vv (As := [.int 8, .int 1]) dX3_readOther_167 ca_X3_37 ⟨by decide, by decide⟩ h0 hA rfl (Nat.le_of_ble_eq_true rfl) (Nat.le_of_ble_eq_true rfl) (by decide) (ce_X3_readPair hG (oa_af h0 hA) (rg_w (⟨by decide, by decide⟩ : Rg 1 1 1)) (bc_af hb h0 hA) (fun _ _ _ _ h => h)) rfl (fun _ h => nomatch h) (fun S132 hx136 hG133 hB134 hA135 => ?_)
    obtain ⟨d137, hd138⟩ : ∃ q, q = F_X3_readPair bs n (StC S o0) (8) (1) := ⟨_, rfl⟩
    have hq139 := (congrArg (fun q => F_X3_readPair bs n q (8) (1)) (stC_mk (sC_193 (T := S) (o := o0) rfl) (sC_194 (T := S) (o := o0) rfl) (sC_195 (T := S) (o := o0) rfl) (sC_196 (T := S) (o := o0) rfl) (sC_197 (T := S) (o := o0) rfl) (sC_198 (T := S) (o := o0) rfl) (sC_199 (T := S) (o := o0) rfl) (sC_200 (T := S) (o := o0) rfl) (sC_201 (T := S) (o := o0) rfl) (sC_202 (T := S) (o := o0) rfl) (sC_203 (T := S) (o := o0) rfl) (sC_204 (T := S) (o := o0) rfl) (sC_205 (T := S) (o := o0) rfl))).trans hd138.symm
    have hs140 := hx136.trans hq139
    refine tt_goto (tgt := 285) dX3_readOther_170 rfl ?_
    have hF : F_X3_readOther bs n (StC S o0) x1 = d137 := by
      subst hd138
      unfold F_X3_readOther
      dsimp only
      rw [if_neg q101, if_neg q111, if_neg q121, if_pos q131]
    exact tt_vreturn dX3_readOther_285 rfl (hP _ _ _ _ ⟨hG133, hA135, Or.inl ⟨_, rfl, rfl, Eq.trans (stC_mk (sC_193 hs140) (sC_194 hs140) (sC_195 hs140) (sC_196 hs140) (sC_197 hs140) (sC_198 hs140) (sC_199 hs140) (sC_200 hs140) (sC_201 hs140) (sC_202 hs140) (sC_203 hs140) (sC_204 hs140) (sC_205 hs140)) hF.symm, rfl, rfl⟩⟩)
  refine gt_by (c := x1 = 137) (fun q141 => ?_) (fun q141 => ?_)
  · skip
    refine gt_lseq (off := 172) (tgt := 173) 137 137 dX3_readOther_1 (by decide) q141 rfl rfl rfl ?_
    refine tt_aload_n (j := 0) dX3_readOther_173 rfl ?_
    refine tt_bipush (v := 13) dX3_readOther_174 rfl ?_
    refine tt_iconst (v := 1) dX3_readOther_176 rfl ?_
    refine gt_Vv (As := [.int 13, .int 1]) dX3_readOther_177 ca_X3_37 ⟨by decide, by decide⟩ h0 hA rfl (Nat.le_of_ble_eq_true rfl) (Nat.le_of_ble_eq_true rfl) (by decide) (ce_X3_readPair hG (oa_af h0 hA) (rg_w (⟨by decide, by decide⟩ : Rg 1 1 1)) (bc_af hb h0 hA) (fun _ _ _ _ h => h)) rfl (fun _ h => nomatch h) (fun S142 hx146 hG143 hB144 hA145 => ?_)
    obtain ⟨d147, hd148⟩ : ∃ q, q = F_X3_readPair bs n (StC S o0) (13) (1) := ⟨_, rfl⟩
    have hq149 := (congrArg (fun q => F_X3_readPair bs n q (13) (1)) (stC_mk (sC_193 (T := S) (o := o0) rfl) (sC_194 (T := S) (o := o0) rfl) (sC_195 (T := S) (o := o0) rfl) (sC_196 (T := S) (o := o0) rfl) (sC_197 (T := S) (o := o0) rfl) (sC_198 (T := S) (o := o0) rfl) (sC_199 (T := S) (o := o0) rfl) (sC_200 (T := S) (o := o0) rfl) (sC_201 (T := S) (o := o0) rfl) (sC_202 (T := S) (o := o0) rfl) (sC_203 (T := S) (o := o0) rfl) (sC_204 (T := S) (o := o0) rfl) (sC_205 (T := S) (o := o0) rfl))).trans hd148.symm
    have hs150 := hx146.trans hq149
    refine tt_goto (tgt := 285) dX3_readOther_180 rfl ?_
    have hF : F_X3_readOther bs n (StC S o0) x1 = d147 := by
      subst hd148
      unfold F_X3_readOther
      dsimp only
      rw [if_neg q101, if_neg q111, if_neg q121, if_neg q131, if_pos q141]
    exact tt_vreturn dX3_readOther_285 rfl (hP _ _ _ _ ⟨hG143, hA145, Or.inl ⟨_, rfl, rfl, Eq.trans (stC_mk (sC_193 hs150) (sC_194 hs150) (sC_195 hs150) (sC_196 hs150) (sC_197 hs150) (sC_198 hs150) (sC_199 hs150) (sC_200 hs150) (sC_201 hs150) (sC_202 hs150) (sC_203 hs150) (sC_204 hs150) (sC_205 hs150)) hF.symm, rfl, rfl⟩⟩)
  refine gt_by (c := x1 = 139) (fun q151 => ?_) (fun q151 => ?_)
  · skip
    refine gt_lseq (off := 182) (tgt := 183) 139 139 dX3_readOther_1 (by decide) q151 rfl rfl rfl ?_
    refine tt_aload_n (j := 0) dX3_readOther_183 rfl ?_
    refine tt_bipush (v := 13) dX3_readOther_184 rfl ?_
    refine tt_iconst (v := 0) dX3_readOther_186 rfl ?_
    refine gt_Vv (As := [.int 13, .int 0]) dX3_readOther_187 ca_X3_37 ⟨by decide, by decide⟩ h0 hA rfl (Nat.le_of_ble_eq_true rfl) (Nat.le_of_ble_eq_true rfl) (by decide) (ce_X3_readPair hG (oa_af h0 hA) (rg_w (⟨by decide, by decide⟩ : Rg 0 0 0)) (bc_af hb h0 hA) (fun _ _ _ _ h => h)) rfl (fun _ h => nomatch h) (fun S152 hx156 hG153 hB154 hA155 => ?_)
    obtain ⟨d157, hd158⟩ : ∃ q, q = F_X3_readPair bs n (StC S o0) (13) (0) := ⟨_, rfl⟩
    have hq159 := (congrArg (fun q => F_X3_readPair bs n q (13) (0)) (stC_mk (sC_193 (T := S) (o := o0) rfl) (sC_194 (T := S) (o := o0) rfl) (sC_195 (T := S) (o := o0) rfl) (sC_196 (T := S) (o := o0) rfl) (sC_197 (T := S) (o := o0) rfl) (sC_198 (T := S) (o := o0) rfl) (sC_199 (T := S) (o := o0) rfl) (sC_200 (T := S) (o := o0) rfl) (sC_201 (T := S) (o := o0) rfl) (sC_202 (T := S) (o := o0) rfl) (sC_203 (T := S) (o := o0) rfl) (sC_204 (T := S) (o := o0) rfl) (sC_205 (T := S) (o := o0) rfl))).trans hd158.symm
    have hs160 := hx156.trans hq159
    refine tt_goto (tgt := 285) dX3_readOther_190 rfl ?_
    have hF : F_X3_readOther bs n (StC S o0) x1 = d157 := by
      subst hd158
      unfold F_X3_readOther
      dsimp only
      rw [if_neg q101, if_neg q111, if_neg q121, if_neg q131, if_neg q141, if_pos q151]
    exact tt_vreturn dX3_readOther_285 rfl (hP _ _ _ _ ⟨hG153, hA155, Or.inl ⟨_, rfl, rfl, Eq.trans (stC_mk (sC_193 hs160) (sC_194 hs160) (sC_195 hs160) (sC_196 hs160) (sC_197 hs160) (sC_198 hs160) (sC_199 hs160) (sC_200 hs160) (sC_201 hs160) (sC_202 hs160) (sC_203 hs160) (sC_204 hs160) (sC_205 hs160)) hF.symm, rfl, rfl⟩⟩)
  refine gt_by (c := x1 = 144) (fun q161 => ?_) (fun q161 => ?_)
  · skip
    refine gt_lseq (off := 192) (tgt := 193) 144 144 dX3_readOther_1 (by decide) q161 rfl rfl rfl ?_
    refine tt_aload_n (j := 0) dX3_readOther_193 rfl ?_
    refine tt_bipush (v := 21) dX3_readOther_194 rfl ?_
    refine gt_pI (id := 200) (x := 21) dX3_readOther_196 fl_3_54 rfl rfl h0 hA rfl rfl rfl (gp_I hG) (by decide) (fun h => absurd h (by decide)) (fun h => absurd h (by decide)) (fun S162 hG163 hA164 e165 f166 er167 => ?_)
    refine tt_goto (tgt := 285) dX3_readOther_199 rfl ?_
    have hF : F_X3_readOther bs n (StC S o0) x1 = ((e0 (StC S o0)), (e1 (StC S o0)), (e2 (StC S o0)), (e3 (StC S o0)), (e4 (StC S o0)), (e5 (StC S o0)), (e6 (StC S o0)), 21, (e8 (StC S o0)), (e9 (StC S o0)), (e10 (StC S o0)), (e11 (StC S o0)), (eJ (StC S o0))) := by
      unfold F_X3_readOther
      rw [if_neg q101, if_neg q111, if_neg q121, if_neg q131, if_neg q141, if_neg q151, if_pos q161]
    exact tt_vreturn dX3_readOther_285 rfl (hP _ _ _ _ ⟨hG163, hA164, Or.inl ⟨_, rfl, rfl, Eq.trans (stC_mk ((congrFun (congrFun e165 193) o0).trans ((congrFun (up2_ne (k := 193)) o0).trans (sC_193 (T := S) (o := o0) rfl))) ((congrFun (congrFun e165 194) o0).trans ((congrFun (up2_ne (k := 194)) o0).trans (sC_194 (T := S) (o := o0) rfl))) ((congrFun (congrFun e165 195) o0).trans ((congrFun (up2_ne (k := 195)) o0).trans (sC_195 (T := S) (o := o0) rfl))) ((congrFun (congrFun e165 196) o0).trans ((congrFun (up2_ne (k := 196)) o0).trans (sC_196 (T := S) (o := o0) rfl))) ((congrFun (congrFun e165 197) o0).trans ((congrFun (up2_ne (k := 197)) o0).trans (sC_197 (T := S) (o := o0) rfl))) ((congrFun (congrFun e165 198) o0).trans ((congrFun (up2_ne (k := 198)) o0).trans (sC_198 (T := S) (o := o0) rfl))) ((congrFun (congrFun e165 199) o0).trans ((congrFun (up2_ne (k := 199)) o0).trans (sC_199 (T := S) (o := o0) rfl))) (by rw [e165]; exact up2_self) ((congrFun (congrFun e165 201) o0).trans ((congrFun (up2_ne (k := 201)) o0).trans (sC_201 (T := S) (o := o0) rfl))) ((congrFun (congrFun e165 202) o0).trans ((congrFun (up2_ne (k := 202)) o0).trans (sC_202 (T := S) (o := o0) rfl))) ((congrFun (congrFun e165 203) o0).trans ((congrFun (up2_ne (k := 203)) o0).trans (sC_203 (T := S) (o := o0) rfl))) ((congrFun (congrFun e165 204) o0).trans ((congrFun (up2_ne (k := 204)) o0).trans (sC_204 (T := S) (o := o0) rfl))) ((congrFun (congrFun f166 205) o0).trans (sC_205 (T := S) (o := o0) rfl))) hF.symm, rfl, rfl⟩⟩)
  refine gt_by (c := x1 = 193) (fun q168 => ?_) (fun q168 => ?_)
  · skip
    refine gt_lseq (off := 201) (tgt := 202) 193 193 dX3_readOther_1 (by decide) q168 rfl rfl rfl ?_
    refine tt_aload_n (j := 0) dX3_readOther_202 rfl ?_
    refine gt_Vv (As := []) dX3_readOther_203 ca_X3_83 ⟨by decide, by decide⟩ h0 hA rfl (Nat.le_of_ble_eq_true rfl) (Nat.le_of_ble_eq_true rfl) (by decide) (ce_X3_readShift hG (oa_af h0 hA) (bc_af hb h0 hA) (fun _ _ _ _ h => h)) rfl (fun _ h => nomatch h) (fun S169 hx173 hG170 hB171 hA172 => ?_)
    obtain ⟨d174, hd175⟩ : ∃ q, q = F_X3_readShift bs n (StC S o0)  := ⟨_, rfl⟩
    have hq176 := (congrArg (fun q => F_X3_readShift bs n q ) (stC_mk (sC_193 (T := S) (o := o0) rfl) (sC_194 (T := S) (o := o0) rfl) (sC_195 (T := S) (o := o0) rfl) (sC_196 (T := S) (o := o0) rfl) (sC_197 (T := S) (o := o0) rfl) (sC_198 (T := S) (o := o0) rfl) (sC_199 (T := S) (o := o0) rfl) (sC_200 (T := S) (o := o0) rfl) (sC_201 (T := S) (o := o0) rfl) (sC_202 (T := S) (o := o0) rfl) (sC_203 (T := S) (o := o0) rfl) (sC_204 (T := S) (o := o0) rfl) (sC_205 (T := S) (o := o0) rfl))).trans hd175.symm
    have hs177 := hx173.trans hq176
    refine tt_goto (tgt := 285) dX3_readOther_206 rfl ?_
    have hF : F_X3_readOther bs n (StC S o0) x1 = d174 := by
      subst hd175
      unfold F_X3_readOther
      dsimp only
      rw [if_neg q101, if_neg q111, if_neg q121, if_neg q131, if_neg q141, if_neg q151, if_neg q161, if_pos q168]
    exact tt_vreturn dX3_readOther_285 rfl (hP _ _ _ _ ⟨hG170, hA172, Or.inl ⟨_, rfl, rfl, Eq.trans (stC_mk (sC_193 hs177) (sC_194 hs177) (sC_195 hs177) (sC_196 hs177) (sC_197 hs177) (sC_198 hs177) (sC_199 hs177) (sC_200 hs177) (sC_201 hs177) (sC_202 hs177) (sC_203 hs177) (sC_204 hs177) (sC_205 hs177)) hF.symm, rfl, rfl⟩⟩)
  refine gt_by (c := x1 = 195) (fun q178 => ?_) (fun q178 => ?_)
  · skip
    refine gt_lseq (off := 208) (tgt := 209) 195 195 dX3_readOther_1 (by decide) q178 rfl rfl rfl ?_
    refine tt_aload_n (j := 0) dX3_readOther_209 rfl ?_
    refine tt_bipush (v := 22) dX3_readOther_210 rfl ?_
    refine gt_pI (id := 200) (x := 22) dX3_readOther_212 fl_3_54 rfl rfl h0 hA rfl rfl rfl (gp_I hG) (by decide) (fun h => absurd h (by decide)) (fun h => absurd h (by decide)) (fun S179 hG180 hA181 e182 f183 er184 => ?_)
    refine tt_goto (tgt := 285) dX3_readOther_215 rfl ?_
    have hF : F_X3_readOther bs n (StC S o0) x1 = ((e0 (StC S o0)), (e1 (StC S o0)), (e2 (StC S o0)), (e3 (StC S o0)), (e4 (StC S o0)), (e5 (StC S o0)), (e6 (StC S o0)), 22, (e8 (StC S o0)), (e9 (StC S o0)), (e10 (StC S o0)), (e11 (StC S o0)), (eJ (StC S o0))) := by
      unfold F_X3_readOther
      rw [if_neg q101, if_neg q111, if_neg q121, if_neg q131, if_neg q141, if_neg q151, if_neg q161, if_neg q168, if_pos q178]
    exact tt_vreturn dX3_readOther_285 rfl (hP _ _ _ _ ⟨hG180, hA181, Or.inl ⟨_, rfl, rfl, Eq.trans (stC_mk ((congrFun (congrFun e182 193) o0).trans ((congrFun (up2_ne (k := 193)) o0).trans (sC_193 (T := S) (o := o0) rfl))) ((congrFun (congrFun e182 194) o0).trans ((congrFun (up2_ne (k := 194)) o0).trans (sC_194 (T := S) (o := o0) rfl))) ((congrFun (congrFun e182 195) o0).trans ((congrFun (up2_ne (k := 195)) o0).trans (sC_195 (T := S) (o := o0) rfl))) ((congrFun (congrFun e182 196) o0).trans ((congrFun (up2_ne (k := 196)) o0).trans (sC_196 (T := S) (o := o0) rfl))) ((congrFun (congrFun e182 197) o0).trans ((congrFun (up2_ne (k := 197)) o0).trans (sC_197 (T := S) (o := o0) rfl))) ((congrFun (congrFun e182 198) o0).trans ((congrFun (up2_ne (k := 198)) o0).trans (sC_198 (T := S) (o := o0) rfl))) ((congrFun (congrFun e182 199) o0).trans ((congrFun (up2_ne (k := 199)) o0).trans (sC_199 (T := S) (o := o0) rfl))) (by rw [e182]; exact up2_self) ((congrFun (congrFun e182 201) o0).trans ((congrFun (up2_ne (k := 201)) o0).trans (sC_201 (T := S) (o := o0) rfl))) ((congrFun (congrFun e182 202) o0).trans ((congrFun (up2_ne (k := 202)) o0).trans (sC_202 (T := S) (o := o0) rfl))) ((congrFun (congrFun e182 203) o0).trans ((congrFun (up2_ne (k := 203)) o0).trans (sC_203 (T := S) (o := o0) rfl))) ((congrFun (congrFun e182 204) o0).trans ((congrFun (up2_ne (k := 204)) o0).trans (sC_204 (T := S) (o := o0) rfl))) ((congrFun (congrFun f183 205) o0).trans (sC_205 (T := S) (o := o0) rfl))) hF.symm, rfl, rfl⟩⟩)
  refine gt_by (c := x1 = 199) (fun q185 => ?_) (fun q185 => ?_)
  · skip
    refine gt_lseq (off := 217) (tgt := 218) 199 199 dX3_readOther_1 (by decide) q185 rfl rfl rfl ?_
    refine tt_aload_n (j := 0) dX3_readOther_218 rfl ?_
    refine gt_Vv (As := []) dX3_readOther_219 ca_X3_86 ⟨by decide, by decide⟩ h0 hA rfl (Nat.le_of_ble_eq_true rfl) (Nat.le_of_ble_eq_true rfl) (by decide) (ce_X3_readMoveToPlace hG (oa_af h0 hA) (bc_af hb h0 hA) (fun _ _ _ _ h => h)) rfl (fun _ h => nomatch h) (fun S186 hx190 hG187 hB188 hA189 => ?_)
    obtain ⟨d191, hd192⟩ : ∃ q, q = F_X3_readMoveToPlace bs n (StC S o0)  := ⟨_, rfl⟩
    have hq193 := (congrArg (fun q => F_X3_readMoveToPlace bs n q ) (stC_mk (sC_193 (T := S) (o := o0) rfl) (sC_194 (T := S) (o := o0) rfl) (sC_195 (T := S) (o := o0) rfl) (sC_196 (T := S) (o := o0) rfl) (sC_197 (T := S) (o := o0) rfl) (sC_198 (T := S) (o := o0) rfl) (sC_199 (T := S) (o := o0) rfl) (sC_200 (T := S) (o := o0) rfl) (sC_201 (T := S) (o := o0) rfl) (sC_202 (T := S) (o := o0) rfl) (sC_203 (T := S) (o := o0) rfl) (sC_204 (T := S) (o := o0) rfl) (sC_205 (T := S) (o := o0) rfl))).trans hd192.symm
    have hs194 := hx190.trans hq193
    refine tt_goto (tgt := 285) dX3_readOther_222 rfl ?_
    have hF : F_X3_readOther bs n (StC S o0) x1 = d191 := by
      subst hd192
      unfold F_X3_readOther
      dsimp only
      rw [if_neg q101, if_neg q111, if_neg q121, if_neg q131, if_neg q141, if_neg q151, if_neg q161, if_neg q168, if_neg q178, if_pos q185]
    exact tt_vreturn dX3_readOther_285 rfl (hP _ _ _ _ ⟨hG187, hA189, Or.inl ⟨_, rfl, rfl, Eq.trans (stC_mk (sC_193 hs194) (sC_194 hs194) (sC_195 hs194) (sC_196 hs194) (sC_197 hs194) (sC_198 hs194) (sC_199 hs194) (sC_200 hs194) (sC_201 hs194) (sC_202 hs194) (sC_203 hs194) (sC_204 hs194) (sC_205 hs194)) hF.symm, rfl, rfl⟩⟩)
  refine gt_by (c := x1 = 233) (fun q195 => ?_) (fun q195 => ?_)
  · skip
    refine gt_lseq (off := 224) (tgt := 225) 233 233 dX3_readOther_1 (by decide) q195 rfl rfl rfl ?_
    refine tt_aload_n (j := 0) dX3_readOther_225 rfl ?_
    refine tt_bipush (v := 20) dX3_readOther_226 rfl ?_
    refine tt_iconst (v := 0) dX3_readOther_228 rfl ?_
    refine tt_iconst (v := 4) dX3_readOther_229 rfl ?_
    refine gt_Vv (As := [.int 20, .int 0, .int 4]) dX3_readOther_230 ca_X3_41 ⟨by decide, by decide⟩ h0 hA rfl (Nat.le_of_ble_eq_true rfl) (Nat.le_of_ble_eq_true rfl) (by decide) (ce_X3_readJump_4 hG (oa_af h0 hA) (bc_af hb h0 hA) (fun _ _ _ _ h => h)) rfl (fun _ h => nomatch h) (fun S196 hx200 hG197 hB198 hA199 => ?_)
    obtain ⟨d201, hd202⟩ : ∃ q, q = F_X3_readJump_4 bs n (StC S o0) (20) (0) := ⟨_, rfl⟩
    have hq203 := (congrArg (fun q => F_X3_readJump_4 bs n q (20) (0)) (stC_mk (sC_193 (T := S) (o := o0) rfl) (sC_194 (T := S) (o := o0) rfl) (sC_195 (T := S) (o := o0) rfl) (sC_196 (T := S) (o := o0) rfl) (sC_197 (T := S) (o := o0) rfl) (sC_198 (T := S) (o := o0) rfl) (sC_199 (T := S) (o := o0) rfl) (sC_200 (T := S) (o := o0) rfl) (sC_201 (T := S) (o := o0) rfl) (sC_202 (T := S) (o := o0) rfl) (sC_203 (T := S) (o := o0) rfl) (sC_204 (T := S) (o := o0) rfl) (sC_205 (T := S) (o := o0) rfl))).trans hd202.symm
    have hs204 := hx200.trans hq203
    refine tt_goto (tgt := 285) dX3_readOther_233 rfl ?_
    have hF : F_X3_readOther bs n (StC S o0) x1 = d201 := by
      subst hd202
      unfold F_X3_readOther
      dsimp only
      rw [if_neg q101, if_neg q111, if_neg q121, if_neg q131, if_neg q141, if_neg q151, if_neg q161, if_neg q168, if_neg q178, if_neg q185, if_pos q195]
    exact tt_vreturn dX3_readOther_285 rfl (hP _ _ _ _ ⟨hG197, hA199, Or.inl ⟨_, rfl, rfl, Eq.trans (stC_mk (sC_193 hs204) (sC_194 hs204) (sC_195 hs204) (sC_196 hs204) (sC_197 hs204) (sC_198 hs204) (sC_199 hs204) (sC_200 hs204) (sC_201 hs204) (sC_202 hs204) (sC_203 hs204) (sC_204 hs204) (sC_205 hs204)) hF.symm, rfl, rfl⟩⟩)
  refine gt_by (c := x1 = 235) (fun q205 => ?_) (fun q205 => ?_)
  · skip
    refine gt_lseq (off := 235) (tgt := 236) 235 235 dX3_readOther_1 (by decide) q205 rfl rfl rfl ?_
    refine tt_aload_n (j := 0) dX3_readOther_236 rfl ?_
    refine tt_bipush (v := 20) dX3_readOther_237 rfl ?_
    refine tt_iconst (v := 0) dX3_readOther_239 rfl ?_
    refine tt_iconst (v := 1) dX3_readOther_240 rfl ?_
    refine gt_Vv (As := [.int 20, .int 0, .int 1]) dX3_readOther_241 ca_X3_41 ⟨by decide, by decide⟩ h0 hA rfl (Nat.le_of_ble_eq_true rfl) (Nat.le_of_ble_eq_true rfl) (by decide) (ce_X3_readJump_1 hG (oa_af h0 hA) (bc_af hb h0 hA) (fun _ _ _ _ h => h)) rfl (fun _ h => nomatch h) (fun S206 hx210 hG207 hB208 hA209 => ?_)
    obtain ⟨d211, hd212⟩ : ∃ q, q = F_X3_readJump_1 bs n (StC S o0) (20) (0) := ⟨_, rfl⟩
    have hq213 := (congrArg (fun q => F_X3_readJump_1 bs n q (20) (0)) (stC_mk (sC_193 (T := S) (o := o0) rfl) (sC_194 (T := S) (o := o0) rfl) (sC_195 (T := S) (o := o0) rfl) (sC_196 (T := S) (o := o0) rfl) (sC_197 (T := S) (o := o0) rfl) (sC_198 (T := S) (o := o0) rfl) (sC_199 (T := S) (o := o0) rfl) (sC_200 (T := S) (o := o0) rfl) (sC_201 (T := S) (o := o0) rfl) (sC_202 (T := S) (o := o0) rfl) (sC_203 (T := S) (o := o0) rfl) (sC_204 (T := S) (o := o0) rfl) (sC_205 (T := S) (o := o0) rfl))).trans hd212.symm
    have hs214 := hx210.trans hq213
    refine tt_goto (tgt := 285) dX3_readOther_244 rfl ?_
    have hF : F_X3_readOther bs n (StC S o0) x1 = d211 := by
      subst hd212
      unfold F_X3_readOther
      dsimp only
      rw [if_neg q101, if_neg q111, if_neg q121, if_neg q131, if_neg q141, if_neg q151, if_neg q161, if_neg q168, if_neg q178, if_neg q185, if_neg q195, if_pos q205]
    exact tt_vreturn dX3_readOther_285 rfl (hP _ _ _ _ ⟨hG207, hA209, Or.inl ⟨_, rfl, rfl, Eq.trans (stC_mk (sC_193 hs214) (sC_194 hs214) (sC_195 hs214) (sC_196 hs214) (sC_197 hs214) (sC_198 hs214) (sC_199 hs214) (sC_200 hs214) (sC_201 hs214) (sC_202 hs214) (sC_203 hs214) (sC_204 hs214) (sC_205 hs214)) hF.symm, rfl, rfl⟩⟩)
  refine gt_by (c := x1 = 244) (fun q215 => ?_) (fun q215 => ?_)
  · skip
    refine gt_lseq (off := 246) (tgt := 247) 244 244 dX3_readOther_1 (by decide) q215 rfl rfl rfl ?_
    refine tt_aload_n (j := 0) dX3_readOther_247 rfl ?_
    refine tt_bipush (v := 22) dX3_readOther_248 rfl ?_
    refine gt_pI (id := 200) (x := 22) dX3_readOther_250 fl_3_54 rfl rfl h0 hA rfl rfl rfl (gp_I hG) (by decide) (fun h => absurd h (by decide)) (fun h => absurd h (by decide)) (fun S216 hG217 hA218 e219 f220 er221 => ?_)
    refine tt_goto (tgt := 285) dX3_readOther_253 rfl ?_
    have hF : F_X3_readOther bs n (StC S o0) x1 = ((e0 (StC S o0)), (e1 (StC S o0)), (e2 (StC S o0)), (e3 (StC S o0)), (e4 (StC S o0)), (e5 (StC S o0)), (e6 (StC S o0)), 22, (e8 (StC S o0)), (e9 (StC S o0)), (e10 (StC S o0)), (e11 (StC S o0)), (eJ (StC S o0))) := by
      unfold F_X3_readOther
      rw [if_neg q101, if_neg q111, if_neg q121, if_neg q131, if_neg q141, if_neg q151, if_neg q161, if_neg q168, if_neg q178, if_neg q185, if_neg q195, if_neg q205, if_pos q215]
    exact tt_vreturn dX3_readOther_285 rfl (hP _ _ _ _ ⟨hG217, hA218, Or.inl ⟨_, rfl, rfl, Eq.trans (stC_mk ((congrFun (congrFun e219 193) o0).trans ((congrFun (up2_ne (k := 193)) o0).trans (sC_193 (T := S) (o := o0) rfl))) ((congrFun (congrFun e219 194) o0).trans ((congrFun (up2_ne (k := 194)) o0).trans (sC_194 (T := S) (o := o0) rfl))) ((congrFun (congrFun e219 195) o0).trans ((congrFun (up2_ne (k := 195)) o0).trans (sC_195 (T := S) (o := o0) rfl))) ((congrFun (congrFun e219 196) o0).trans ((congrFun (up2_ne (k := 196)) o0).trans (sC_196 (T := S) (o := o0) rfl))) ((congrFun (congrFun e219 197) o0).trans ((congrFun (up2_ne (k := 197)) o0).trans (sC_197 (T := S) (o := o0) rfl))) ((congrFun (congrFun e219 198) o0).trans ((congrFun (up2_ne (k := 198)) o0).trans (sC_198 (T := S) (o := o0) rfl))) ((congrFun (congrFun e219 199) o0).trans ((congrFun (up2_ne (k := 199)) o0).trans (sC_199 (T := S) (o := o0) rfl))) (by rw [e219]; exact up2_self) ((congrFun (congrFun e219 201) o0).trans ((congrFun (up2_ne (k := 201)) o0).trans (sC_201 (T := S) (o := o0) rfl))) ((congrFun (congrFun e219 202) o0).trans ((congrFun (up2_ne (k := 202)) o0).trans (sC_202 (T := S) (o := o0) rfl))) ((congrFun (congrFun e219 203) o0).trans ((congrFun (up2_ne (k := 203)) o0).trans (sC_203 (T := S) (o := o0) rfl))) ((congrFun (congrFun e219 204) o0).trans ((congrFun (up2_ne (k := 204)) o0).trans (sC_204 (T := S) (o := o0) rfl))) ((congrFun (congrFun f220 205) o0).trans (sC_205 (T := S) (o := o0) rfl))) hF.symm, rfl, rfl⟩⟩)
  refine gt_by (c := x1 = 247) (fun q222 => ?_) (fun q222 => ?_)
  · skip
    refine gt_lseq (off := 255) (tgt := 256) 247 247 dX3_readOther_1 (by decide) q222 rfl rfl rfl ?_
    refine tt_aload_n (j := 0) dX3_readOther_256 rfl ?_
    refine gt_Vv (As := []) dX3_readOther_257 ca_X3_89 ⟨by decide, by decide⟩ h0 hA rfl (Nat.le_of_ble_eq_true rfl) (Nat.le_of_ble_eq_true rfl) (by decide) (ce_X3_readTestNotNeg hG (oa_af h0 hA) (bc_af hb h0 hA) (fun _ _ _ _ h => h)) rfl (fun _ h => nomatch h) (fun S223 hx227 hG224 hB225 hA226 => ?_)
    obtain ⟨d228, hd229⟩ : ∃ q, q = F_X3_readTestNotNeg bs n (StC S o0)  := ⟨_, rfl⟩
    have hq230 := (congrArg (fun q => F_X3_readTestNotNeg bs n q ) (stC_mk (sC_193 (T := S) (o := o0) rfl) (sC_194 (T := S) (o := o0) rfl) (sC_195 (T := S) (o := o0) rfl) (sC_196 (T := S) (o := o0) rfl) (sC_197 (T := S) (o := o0) rfl) (sC_198 (T := S) (o := o0) rfl) (sC_199 (T := S) (o := o0) rfl) (sC_200 (T := S) (o := o0) rfl) (sC_201 (T := S) (o := o0) rfl) (sC_202 (T := S) (o := o0) rfl) (sC_203 (T := S) (o := o0) rfl) (sC_204 (T := S) (o := o0) rfl) (sC_205 (T := S) (o := o0) rfl))).trans hd229.symm
    have hs231 := hx227.trans hq230
    refine tt_goto (tgt := 285) dX3_readOther_260 rfl ?_
    have hF : F_X3_readOther bs n (StC S o0) x1 = d228 := by
      subst hd229
      unfold F_X3_readOther
      dsimp only
      rw [if_neg q101, if_neg q111, if_neg q121, if_neg q131, if_neg q141, if_neg q151, if_neg q161, if_neg q168, if_neg q178, if_neg q185, if_neg q195, if_neg q205, if_neg q215, if_pos q222]
    exact tt_vreturn dX3_readOther_285 rfl (hP _ _ _ _ ⟨hG224, hA226, Or.inl ⟨_, rfl, rfl, Eq.trans (stC_mk (sC_193 hs231) (sC_194 hs231) (sC_195 hs231) (sC_196 hs231) (sC_197 hs231) (sC_198 hs231) (sC_199 hs231) (sC_200 hs231) (sC_201 hs231) (sC_202 hs231) (sC_203 hs231) (sC_204 hs231) (sC_205 hs231)) hF.symm, rfl, rfl⟩⟩)
  refine gt_by (c := x1 = 255) (fun q232 => ?_) (fun q232 => ?_)
  · skip
    refine gt_lseq (off := 262) (tgt := 263) 255 255 dX3_readOther_1 (by decide) q232 rfl rfl rfl ?_
    refine tt_aload_n (j := 0) dX3_readOther_263 rfl ?_
    refine gt_Vv (As := []) dX3_readOther_264 ca_X3_92 ⟨by decide, by decide⟩ h0 hA rfl (Nat.le_of_ble_eq_true rfl) (Nat.le_of_ble_eq_true rfl) (by decide) (ce_X3_readIncDec hG (oa_af h0 hA) (bc_af hb h0 hA) (fun _ _ _ _ h => h)) rfl (fun _ h => nomatch h) (fun S233 hx237 hG234 hB235 hA236 => ?_)
    obtain ⟨d238, hd239⟩ : ∃ q, q = F_X3_readIncDec bs n (StC S o0)  := ⟨_, rfl⟩
    have hq240 := (congrArg (fun q => F_X3_readIncDec bs n q ) (stC_mk (sC_193 (T := S) (o := o0) rfl) (sC_194 (T := S) (o := o0) rfl) (sC_195 (T := S) (o := o0) rfl) (sC_196 (T := S) (o := o0) rfl) (sC_197 (T := S) (o := o0) rfl) (sC_198 (T := S) (o := o0) rfl) (sC_199 (T := S) (o := o0) rfl) (sC_200 (T := S) (o := o0) rfl) (sC_201 (T := S) (o := o0) rfl) (sC_202 (T := S) (o := o0) rfl) (sC_203 (T := S) (o := o0) rfl) (sC_204 (T := S) (o := o0) rfl) (sC_205 (T := S) (o := o0) rfl))).trans hd239.symm
    have hs241 := hx237.trans hq240
    refine tt_goto (tgt := 285) dX3_readOther_267 rfl ?_
    have hF : F_X3_readOther bs n (StC S o0) x1 = d238 := by
      subst hd239
      unfold F_X3_readOther
      dsimp only
      rw [if_neg q101, if_neg q111, if_neg q121, if_neg q131, if_neg q141, if_neg q151, if_neg q161, if_neg q168, if_neg q178, if_neg q185, if_neg q195, if_neg q205, if_neg q215, if_neg q222, if_pos q232]
    exact tt_vreturn dX3_readOther_285 rfl (hP _ _ _ _ ⟨hG234, hA236, Or.inl ⟨_, rfl, rfl, Eq.trans (stC_mk (sC_193 hs241) (sC_194 hs241) (sC_195 hs241) (sC_196 hs241) (sC_197 hs241) (sC_198 hs241) (sC_199 hs241) (sC_200 hs241) (sC_201 hs241) (sC_202 hs241) (sC_203 hs241) (sC_204 hs241) (sC_205 hs241)) hF.symm, rfl, rfl⟩⟩)
  refine gt_by (c := x1 = 431) (fun q242 => ?_) (fun q242 => ?_)
  · skip
    refine gt_lseq (off := 269) (tgt := 270) 431 431 dX3_readOther_1 (by decide) q242 rfl rfl rfl ?_
    refine tt_aload_n (j := 0) dX3_readOther_270 rfl ?_
    refine tt_bipush (v := 17) dX3_readOther_271 rfl ?_
    refine tt_iconst (v := 0) dX3_readOther_273 rfl ?_
    refine gt_Vv (As := [.int 17, .int 0]) dX3_readOther_274 ca_X3_37 ⟨by decide, by decide⟩ h0 hA rfl (Nat.le_of_ble_eq_true rfl) (Nat.le_of_ble_eq_true rfl) (by decide) (ce_X3_readPair hG (oa_af h0 hA) (rg_w (⟨by decide, by decide⟩ : Rg 0 0 0)) (bc_af hb h0 hA) (fun _ _ _ _ h => h)) rfl (fun _ h => nomatch h) (fun S243 hx247 hG244 hB245 hA246 => ?_)
    obtain ⟨d248, hd249⟩ : ∃ q, q = F_X3_readPair bs n (StC S o0) (17) (0) := ⟨_, rfl⟩
    have hq250 := (congrArg (fun q => F_X3_readPair bs n q (17) (0)) (stC_mk (sC_193 (T := S) (o := o0) rfl) (sC_194 (T := S) (o := o0) rfl) (sC_195 (T := S) (o := o0) rfl) (sC_196 (T := S) (o := o0) rfl) (sC_197 (T := S) (o := o0) rfl) (sC_198 (T := S) (o := o0) rfl) (sC_199 (T := S) (o := o0) rfl) (sC_200 (T := S) (o := o0) rfl) (sC_201 (T := S) (o := o0) rfl) (sC_202 (T := S) (o := o0) rfl) (sC_203 (T := S) (o := o0) rfl) (sC_204 (T := S) (o := o0) rfl) (sC_205 (T := S) (o := o0) rfl))).trans hd249.symm
    have hs251 := hx247.trans hq250
    refine tt_goto (tgt := 285) dX3_readOther_277 rfl ?_
    have hF : F_X3_readOther bs n (StC S o0) x1 = d248 := by
      subst hd249
      unfold F_X3_readOther
      dsimp only
      rw [if_neg q101, if_neg q111, if_neg q121, if_neg q131, if_neg q141, if_neg q151, if_neg q161, if_neg q168, if_neg q178, if_neg q185, if_neg q195, if_neg q205, if_neg q215, if_neg q222, if_neg q232, if_pos q242]
    exact tt_vreturn dX3_readOther_285 rfl (hP _ _ _ _ ⟨hG244, hA246, Or.inl ⟨_, rfl, rfl, Eq.trans (stC_mk (sC_193 hs251) (sC_194 hs251) (sC_195 hs251) (sC_196 hs251) (sC_197 hs251) (sC_198 hs251) (sC_199 hs251) (sC_200 hs251) (sC_201 hs251) (sC_202 hs251) (sC_203 hs251) (sC_204 hs251) (sC_205 hs251)) hF.symm, rfl, rfl⟩⟩)
  refine tt_lookup (off := 279) (tgt := 280) dX3_readOther_1 (by decide) (of_ne (ne_i 99 q101 rfl) (of_ne (ne_i 129 q111 rfl) (of_ne (ne_i 131 q121 rfl) (of_ne (ne_i 133 q131 rfl) (of_ne (ne_i 137 q141 rfl) (of_ne (ne_i 139 q151 rfl) (of_ne (ne_i 144 q161 rfl) (of_ne (ne_i 193 q168 rfl) (of_ne (ne_i 195 q178 rfl) (of_ne (ne_i 199 q185 rfl) (of_ne (ne_i 233 q195 rfl) (of_ne (ne_i 235 q205 rfl) (of_ne (ne_i 244 q215 rfl) (of_ne (ne_i 247 q222 rfl) (of_ne (ne_i 255 q232 rfl) (of_ne (ne_i 431 q242 rfl) rfl)))))))))))))))) rfl ?_
  refine tt_aload_n (j := 0) dX3_readOther_280 rfl ?_
  refine tt_iconst (v := 0) dX3_readOther_281 rfl ?_
  refine gt_pI (id := 195) (x := 0) dX3_readOther_282 fl_3_22 rfl rfl h0 hA rfl rfl rfl (gp_Ir hG (⟨by decide, by decide⟩ : Rg 0 0 0)) (by decide) (fun h => absurd h (by decide)) (fun h => absurd h (by decide)) (fun S252 hG253 hA254 e255 f256 er257 => ?_)
  have hF : F_X3_readOther bs n (StC S o0) x1 = ((e0 (StC S o0)), (e1 (StC S o0)), 0, (e3 (StC S o0)), (e4 (StC S o0)), (e5 (StC S o0)), (e6 (StC S o0)), (e7 (StC S o0)), (e8 (StC S o0)), (e9 (StC S o0)), (e10 (StC S o0)), (e11 (StC S o0)), (eJ (StC S o0))) := by
    unfold F_X3_readOther
    rw [if_neg q101, if_neg q111, if_neg q121, if_neg q131, if_neg q141, if_neg q151, if_neg q161, if_neg q168, if_neg q178, if_neg q185, if_neg q195, if_neg q205, if_neg q215, if_neg q222, if_neg q232, if_neg q242]
  exact tt_vreturn dX3_readOther_285 rfl (hP _ _ _ _ ⟨hG253, hA254, Or.inl ⟨_, rfl, rfl, Eq.trans (stC_mk ((congrFun (congrFun e255 193) o0).trans ((congrFun (up2_ne (k := 193)) o0).trans (sC_193 (T := S) (o := o0) rfl))) ((congrFun (congrFun e255 194) o0).trans ((congrFun (up2_ne (k := 194)) o0).trans (sC_194 (T := S) (o := o0) rfl))) (by rw [e255]; exact up2_self) ((congrFun (congrFun e255 196) o0).trans ((congrFun (up2_ne (k := 196)) o0).trans (sC_196 (T := S) (o := o0) rfl))) ((congrFun (congrFun e255 197) o0).trans ((congrFun (up2_ne (k := 197)) o0).trans (sC_197 (T := S) (o := o0) rfl))) ((congrFun (congrFun e255 198) o0).trans ((congrFun (up2_ne (k := 198)) o0).trans (sC_198 (T := S) (o := o0) rfl))) ((congrFun (congrFun e255 199) o0).trans ((congrFun (up2_ne (k := 199)) o0).trans (sC_199 (T := S) (o := o0) rfl))) ((congrFun (congrFun e255 200) o0).trans ((congrFun (up2_ne (k := 200)) o0).trans (sC_200 (T := S) (o := o0) rfl))) ((congrFun (congrFun e255 201) o0).trans ((congrFun (up2_ne (k := 201)) o0).trans (sC_201 (T := S) (o := o0) rfl))) ((congrFun (congrFun e255 202) o0).trans ((congrFun (up2_ne (k := 202)) o0).trans (sC_202 (T := S) (o := o0) rfl))) ((congrFun (congrFun e255 203) o0).trans ((congrFun (up2_ne (k := 203)) o0).trans (sC_203 (T := S) (o := o0) rfl))) ((congrFun (congrFun e255 204) o0).trans ((congrFun (up2_ne (k := 204)) o0).trans (sC_204 (T := S) (o := o0) rfl))) ((congrFun (congrFun f256 205) o0).trans (sC_205 (T := S) (o := o0) rfl))) hF.symm, rfl, rfl⟩⟩)
def F_X3_readFrom_p217 (bs : Nat → Int32) (n : Int32) (d : DD) : DD :=
  if (e2 d) = 0 then
    let d108 := F_X3_becomePlain bs n d ((-1))
    d108
  else
    let d118 := F_X3_isFrameChanged bs n d 
    if d118.2 = 0 then
      let d141 := F_X3_isCarryArithmetic bs n d118.1 
      if d141.2 = 0 then
        d141.1
      else
        let d155 := F_X3_becomePlain bs n d141.1 ((-1))
        d155
    else
      let d131 := F_X3_becomePlain bs n d118.1 ((-1))
      d131
set_option maxHeartbeats 2000000 in
theorem ce_X3_readFrom_p217 {xi : SX} {S : Hp} {E : List Nat} {kc nc : Nat} {P : Po} {o0 : Nat} {bs : Nat → Int32} {n : Int32} (hG : GI S E) (h0 : Oa S E 3 0 o0) (hb : BC S E o0 bs n) (hP : ∀ r T x y, PV E [200, 202, 203, 204] S kc nc rV (fun v T => StC T o0 = F_X3_readFrom_p217 bs n (StC S o0) ) [] r T x y → P r T x y) : TT xi M_X3_readFrom 217 [(0, .ref o0)] [] S kc nc P := by
  have hA : Af E [200, 202, 203, 204] S S := af_rf
  refine tt_aload_n (j := 0) dX3_readFrom_217 rfl ?_
  refine gt_gI (id := 195) (v := (e2 (StC S o0))) dX3_readFrom_218 fl_3_22 rfl rfl h0 hA (sC_195 (T := S) (o := o0) rfl) ?_
  refine tt_if_eq (tgt := 238) dX3_readFrom_221 rfl (fun q101 => ?_) (fun q101 => ?_)
  · skip
    have h102 : Rg 0 0 (e2 (StC S o0)) := rg_eq_l (gi_I (k := 195) hG h0 0 1) (⟨by decide, by decide⟩ : Rg 0 0 0) q101
    refine tt_aload_n (j := 0) dX3_readFrom_238 rfl ?_
    refine tt_iconst (v := (-1)) dX3_readFrom_239 rfl ?_
    refine gt_Vv (As := [.int (-1)]) dX3_readFrom_240 ca_X3_26 ⟨by decide, by decide⟩ h0 hA rfl (Nat.le_of_ble_eq_true rfl) (Nat.le_of_ble_eq_true rfl) (by decide) (ce_X3_becomePlain hG (oa_af h0 hA) (bc_af hb h0 hA) (fun _ _ _ _ h => h)) rfl (fun _ h => nomatch h) (fun S103 hx107 hG104 hB105 hA106 => ?_)
    obtain ⟨d108, hd109⟩ : ∃ q, q = F_X3_becomePlain bs n (StC S o0) ((-1)) := ⟨_, rfl⟩
    have hq110 := (congrArg (fun q => F_X3_becomePlain bs n q ((-1))) (stC_mk (sC_193 (T := S) (o := o0) rfl) (sC_194 (T := S) (o := o0) rfl) (sC_195 (T := S) (o := o0) rfl) (sC_196 (T := S) (o := o0) rfl) (sC_197 (T := S) (o := o0) rfl) (sC_198 (T := S) (o := o0) rfl) (sC_199 (T := S) (o := o0) rfl) (sC_200 (T := S) (o := o0) rfl) (sC_201 (T := S) (o := o0) rfl) (sC_202 (T := S) (o := o0) rfl) (sC_203 (T := S) (o := o0) rfl) (sC_204 (T := S) (o := o0) rfl) (sC_205 (T := S) (o := o0) rfl))).trans hd109.symm
    have hs111 := hx107.trans hq110
    have hF : F_X3_readFrom_p217 bs n (StC S o0)  = d108 := by
      subst hd109
      unfold F_X3_readFrom_p217
      dsimp only
      rw [if_pos q101]
    exact tt_vreturn dX3_readFrom_243 rfl (hP _ _ _ _ ⟨hG104, hA106, Or.inl ⟨_, rfl, rfl, Eq.trans (stC_mk (sC_193 hs111) (sC_194 hs111) (sC_195 hs111) (sC_196 hs111) (sC_197 hs111) (sC_198 hs111) (sC_199 hs111) (sC_200 hs111) (sC_201 hs111) (sC_202 hs111) (sC_203 hs111) (sC_204 hs111) (sC_205 hs111)) hF.symm, rfl, rfl⟩⟩)
  · skip
    have h112 : Rg 1 1 (e2 (StC S o0)) := rg_ne_lo (gi_I (k := 195) hG h0 0 1) (⟨by decide, by decide⟩ : Rg 0 0 0) q101
    refine tt_aload_n (j := 0) dX3_readFrom_224 rfl ?_
    refine gt_VI (As := []) dX3_readFrom_225 ca_X3_57 ⟨by decide, by decide⟩ h0 hA rfl (Nat.le_of_ble_eq_true rfl) (Nat.le_of_ble_eq_true rfl) (by decide) (ce_X3_isFrameChanged hG (oa_af h0 hA) (bc_af hb h0 hA) (fun _ _ _ _ h => h)) rfl (fun _ h => nomatch h) (fun S113 x122 h123 hx117 hG114 hB115 hA116 => ?_)
    obtain ⟨d118, hd119⟩ : ∃ q, q = F_X3_isFrameChanged bs n (StC S o0)  := ⟨_, rfl⟩
    have hq120 := (congrArg (fun q => F_X3_isFrameChanged bs n q ) (stC_mk (sC_193 (T := S) (o := o0) rfl) (sC_194 (T := S) (o := o0) rfl) (sC_195 (T := S) (o := o0) rfl) (sC_196 (T := S) (o := o0) rfl) (sC_197 (T := S) (o := o0) rfl) (sC_198 (T := S) (o := o0) rfl) (sC_199 (T := S) (o := o0) rfl) (sC_200 (T := S) (o := o0) rfl) (sC_201 (T := S) (o := o0) rfl) (sC_202 (T := S) (o := o0) rfl) (sC_203 (T := S) (o := o0) rfl) (sC_204 (T := S) (o := o0) rfl) (sC_205 (T := S) (o := o0) rfl))).trans hd119.symm
    have hs121 := hx117.2.trans (congrArg Prod.fst hq120)
    obtain rfl : x122 = d118.2 := (xiC_v hx117).trans (congrArg Prod.snd hq120)
    refine tt_if_ne (tgt := 238) dX3_readFrom_228 rfl (fun q124 => ?_) (fun q124 => ?_)
    · skip
      have h125 : Rg 1 1 d118.2 := rg_ne_lo h123 (⟨by decide, by decide⟩ : Rg 0 0 0) q124
      refine tt_aload_n (j := 0) dX3_readFrom_238 rfl ?_
      refine tt_iconst (v := (-1)) dX3_readFrom_239 rfl ?_
      refine gt_Vv (As := [.int (-1)]) dX3_readFrom_240 ca_X3_26 ⟨by decide, by decide⟩ h0 hA116 rfl (Nat.le_of_ble_eq_true rfl) (Nat.le_of_ble_eq_true rfl) (by decide) (ce_X3_becomePlain hG114 (oa_af h0 hA116) (bc_af hb h0 hA116) (fun _ _ _ _ h => h)) rfl (fun _ h => nomatch h) (fun S126 hx130 hG127 hB128 hA129 => ?_)
      obtain ⟨d131, hd132⟩ : ∃ q, q = F_X3_becomePlain bs n d118.1 ((-1)) := ⟨_, rfl⟩
      have hq133 := (congrArg (fun q => F_X3_becomePlain bs n q ((-1))) (stC_mk (sC_193 hs121) (sC_194 hs121) (sC_195 hs121) (sC_196 hs121) (sC_197 hs121) (sC_198 hs121) (sC_199 hs121) (sC_200 hs121) (sC_201 hs121) (sC_202 hs121) (sC_203 hs121) (sC_204 hs121) (sC_205 hs121))).trans hd132.symm
      have hs134 := hx130.trans hq133
      have hF : F_X3_readFrom_p217 bs n (StC S o0)  = d131 := by
        subst hd132
        subst hd119
        unfold F_X3_readFrom_p217
        dsimp only
        rw [if_neg q101, if_neg q124]
      exact tt_vreturn dX3_readFrom_243 rfl (hP _ _ _ _ ⟨hG127, hA129, Or.inl ⟨_, rfl, rfl, Eq.trans (stC_mk (sC_193 hs134) (sC_194 hs134) (sC_195 hs134) (sC_196 hs134) (sC_197 hs134) (sC_198 hs134) (sC_199 hs134) (sC_200 hs134) (sC_201 hs134) (sC_202 hs134) (sC_203 hs134) (sC_204 hs134) (sC_205 hs134)) hF.symm, rfl, rfl⟩⟩)
    · skip
      have h135 : Rg 0 0 d118.2 := rg_eq_l h123 (⟨by decide, by decide⟩ : Rg 0 0 0) q124
      refine tt_aload_n (j := 0) dX3_readFrom_231 rfl ?_
      refine gt_VI (As := []) dX3_readFrom_232 ca_X3_61 ⟨by decide, by decide⟩ h0 hA116 rfl (Nat.le_of_ble_eq_true rfl) (Nat.le_of_ble_eq_true rfl) (by decide) (ce_X3_isCarryArithmetic hG114 (oa_af h0 hA116) (bc_af hb h0 hA116) (fun _ _ _ _ h => h)) rfl (fun _ h => nomatch h) (fun S136 x145 h146 hx140 hG137 hB138 hA139 => ?_)
      obtain ⟨d141, hd142⟩ : ∃ q, q = F_X3_isCarryArithmetic bs n d118.1  := ⟨_, rfl⟩
      have hq143 := (congrArg (fun q => F_X3_isCarryArithmetic bs n q ) (stC_mk (sC_193 hs121) (sC_194 hs121) (sC_195 hs121) (sC_196 hs121) (sC_197 hs121) (sC_198 hs121) (sC_199 hs121) (sC_200 hs121) (sC_201 hs121) (sC_202 hs121) (sC_203 hs121) (sC_204 hs121) (sC_205 hs121))).trans hd142.symm
      have hs144 := hx140.2.trans (congrArg Prod.fst hq143)
      obtain rfl : x145 = d141.2 := (xiC_v hx140).trans (congrArg Prod.snd hq143)
      refine tt_if_eq (tgt := 243) dX3_readFrom_235 rfl (fun q147 => ?_) (fun q147 => ?_)
      · skip
        have h148 : Rg 0 0 d141.2 := rg_eq_l h146 (⟨by decide, by decide⟩ : Rg 0 0 0) q147
        have hF : F_X3_readFrom_p217 bs n (StC S o0)  = d141.1 := by
          subst hd142
          subst hd119
          unfold F_X3_readFrom_p217
          dsimp only
          rw [if_neg q101, if_pos q124, if_pos q147]
        exact tt_vreturn dX3_readFrom_243 rfl (hP _ _ _ _ ⟨hG137, hA139, Or.inl ⟨_, rfl, rfl, Eq.trans (stC_mk (sC_193 hs144) (sC_194 hs144) (sC_195 hs144) (sC_196 hs144) (sC_197 hs144) (sC_198 hs144) (sC_199 hs144) (sC_200 hs144) (sC_201 hs144) (sC_202 hs144) (sC_203 hs144) (sC_204 hs144) (sC_205 hs144)) hF.symm, rfl, rfl⟩⟩)
      · skip
        have h149 : Rg 1 1 d141.2 := rg_ne_lo h146 (⟨by decide, by decide⟩ : Rg 0 0 0) q147
        refine tt_aload_n (j := 0) dX3_readFrom_238 rfl ?_
        refine tt_iconst (v := (-1)) dX3_readFrom_239 rfl ?_
        refine gt_Vv (As := [.int (-1)]) dX3_readFrom_240 ca_X3_26 ⟨by decide, by decide⟩ h0 hA139 rfl (Nat.le_of_ble_eq_true rfl) (Nat.le_of_ble_eq_true rfl) (by decide) (ce_X3_becomePlain hG137 (oa_af h0 hA139) (bc_af hb h0 hA139) (fun _ _ _ _ h => h)) rfl (fun _ h => nomatch h) (fun S150 hx154 hG151 hB152 hA153 => ?_)
        obtain ⟨d155, hd156⟩ : ∃ q, q = F_X3_becomePlain bs n d141.1 ((-1)) := ⟨_, rfl⟩
        have hq157 := (congrArg (fun q => F_X3_becomePlain bs n q ((-1))) (stC_mk (sC_193 hs144) (sC_194 hs144) (sC_195 hs144) (sC_196 hs144) (sC_197 hs144) (sC_198 hs144) (sC_199 hs144) (sC_200 hs144) (sC_201 hs144) (sC_202 hs144) (sC_203 hs144) (sC_204 hs144) (sC_205 hs144))).trans hd156.symm
        have hs158 := hx154.trans hq157
        have hF : F_X3_readFrom_p217 bs n (StC S o0)  = d155 := by
          subst hd156
          subst hd142
          subst hd119
          unfold F_X3_readFrom_p217
          dsimp only
          rw [if_neg q101, if_pos q124, if_neg q147]
        exact tt_vreturn dX3_readFrom_243 rfl (hP _ _ _ _ ⟨hG151, hA153, Or.inl ⟨_, rfl, rfl, Eq.trans (stC_mk (sC_193 hs158) (sC_194 hs158) (sC_195 hs158) (sC_196 hs158) (sC_197 hs158) (sC_198 hs158) (sC_199 hs158) (sC_200 hs158) (sC_201 hs158) (sC_202 hs158) (sC_203 hs158) (sC_204 hs158) (sC_205 hs158)) hF.symm, rfl, rfl⟩⟩)
def F_X3_readFrom_p193 (bs : Nat → Int32) (n : Int32) (d : DD) (x1 : Int32) : DD :=
  if (e7 d) < 19 then
    F_X3_readFrom_p217 bs n ((e0 d), (e1 d), (e2 d), (e3 d), (e4 d), (e5 d), ((e0 d) - x1), (e7 d), (e8 d), (e9 d), (e10 d), (e11 d), (eJ d)) 
  else
    F_X3_readFrom_p217 bs n ((e0 d), (e1 d), (e2 d), (e3 d), (e4 d), (e5 d), ((e0 d) - x1), (e7 d), 0, (e9 d), (e10 d), (e11 d), (eJ d)) 
set_option maxHeartbeats 2000000 in
theorem ce_X3_readFrom_p193 {xi : SX} {S : Hp} {E : List Nat} {kc nc : Nat} {P : Po} {o0 : Nat} {x1 : Int32} {bs : Nat → Int32} {n : Int32} (hG : GI S E) (h0 : Oa S E 3 0 o0) (hb : BC S E o0 bs n) (hP : ∀ r T x y, PV E [199, 200, 201, 202, 203, 204] S kc nc rV (fun v T => StC T o0 = F_X3_readFrom_p193 bs n (StC S o0) x1) [] r T x y → P r T x y) : TT xi M_X3_readFrom 193 [(0, .ref o0), (1, .int x1)] [] S kc nc P := by
  have hA : Af E [199, 200, 201, 202, 203, 204] S S := af_rf
  refine tt_aload_n (j := 0) dX3_readFrom_193 rfl ?_
  refine tt_aload_n (j := 0) dX3_readFrom_194 rfl ?_
  refine gt_gI (id := 193) (v := (e0 (StC S o0))) dX3_readFrom_195 fl_3_15 rfl rfl h0 hA (sC_193 (T := S) (o := o0) rfl) ?_
  refine tt_iload_n (j := 1) dX3_readFrom_198 rfl ?_
  refine tt_isub dX3_readFrom_199 ?_
  refine gt_pI (id := 199) (x := ((e0 (StC S o0)) - x1)) dX3_readFrom_200 fl_3_51 rfl rfl h0 hA rfl rfl rfl (gp_I hG) (by decide) (fun h => absurd h (by decide)) (fun h => absurd h (by decide)) (fun S101 hG102 hA103 e104 f105 er106 => ?_)
  refine tt_aload_n (j := 0) dX3_readFrom_203 rfl ?_
  refine gt_gI (id := 200) (v := (e7 (StC S o0))) dX3_readFrom_204 fl_3_54 rfl rfl h0 hA103 ((congrFun (congrFun e104 200) o0).trans ((congrFun (up2_ne (k := 200)) o0).trans (sC_200 (T := S) (o := o0) rfl))) ?_
  refine tt_bipush (v := 19) dX3_readFrom_207 rfl ?_
  refine tt_icmp_lt (tgt := 217) dX3_readFrom_209 rfl (fun q107 => ?_) (fun q107 => ?_)
  · skip
    have h108 : Rg (-2147483648) 18 (e7 (StC S o0)) := rg_lt_l (rg_all (e7 (StC S o0))) (⟨by decide, by decide⟩ : Rg 19 19 19) q107
    have hF : F_X3_readFrom_p193 bs n (StC S o0) x1 = F_X3_readFrom_p217 bs n ((e0 (StC S o0)), (e1 (StC S o0)), (e2 (StC S o0)), (e3 (StC S o0)), (e4 (StC S o0)), (e5 (StC S o0)), ((e0 (StC S o0)) - x1), (e7 (StC S o0)), (e8 (StC S o0)), (e9 (StC S o0)), (e10 (StC S o0)), (e11 (StC S o0)), (eJ (StC S o0)))  := by
      unfold F_X3_readFrom_p193
      rw [if_pos q107]
    exact tt_loc (ks := [0]) rfl (ce_X3_readFrom_p217 hG102 (oa_af h0 hA103) (bc_af hb h0 hA103) (fun r T x y h => hP r T x y (pv_tr hA103 h (by decide) (fun v T e => e.trans ((congrArg (fun q => F_X3_readFrom_p217 bs n q ) (stC_mk ((congrFun (congrFun e104 193) o0).trans ((congrFun (up2_ne (k := 193)) o0).trans (sC_193 (T := S) (o := o0) rfl))) ((congrFun (congrFun e104 194) o0).trans ((congrFun (up2_ne (k := 194)) o0).trans (sC_194 (T := S) (o := o0) rfl))) ((congrFun (congrFun e104 195) o0).trans ((congrFun (up2_ne (k := 195)) o0).trans (sC_195 (T := S) (o := o0) rfl))) ((congrFun (congrFun e104 196) o0).trans ((congrFun (up2_ne (k := 196)) o0).trans (sC_196 (T := S) (o := o0) rfl))) ((congrFun (congrFun e104 197) o0).trans ((congrFun (up2_ne (k := 197)) o0).trans (sC_197 (T := S) (o := o0) rfl))) ((congrFun (congrFun e104 198) o0).trans ((congrFun (up2_ne (k := 198)) o0).trans (sC_198 (T := S) (o := o0) rfl))) (by rw [e104]; exact up2_self) ((congrFun (congrFun e104 200) o0).trans ((congrFun (up2_ne (k := 200)) o0).trans (sC_200 (T := S) (o := o0) rfl))) ((congrFun (congrFun e104 201) o0).trans ((congrFun (up2_ne (k := 201)) o0).trans (sC_201 (T := S) (o := o0) rfl))) ((congrFun (congrFun e104 202) o0).trans ((congrFun (up2_ne (k := 202)) o0).trans (sC_202 (T := S) (o := o0) rfl))) ((congrFun (congrFun e104 203) o0).trans ((congrFun (up2_ne (k := 203)) o0).trans (sC_203 (T := S) (o := o0) rfl))) ((congrFun (congrFun e104 204) o0).trans ((congrFun (up2_ne (k := 204)) o0).trans (sC_204 (T := S) (o := o0) rfl))) ((congrFun (congrFun f105 205) o0).trans (sC_205 (T := S) (o := o0) rfl)))).trans hF.symm)))))
  · skip
    have h109 : Rg 19 2147483647 (e7 (StC S o0)) := rg_le_r (⟨by decide, by decide⟩ : Rg 19 19 19) (rg_all (e7 (StC S o0))) (nlt_le q107)
    refine tt_aload_n (j := 0) dX3_readFrom_212 rfl ?_
    refine tt_iconst (v := 0) dX3_readFrom_213 rfl ?_
    refine gt_pI (id := 201) (x := 0) dX3_readFrom_214 fl_3_34 rfl rfl h0 hA103 rfl rfl rfl (gp_I hG102) (by decide) (fun h => absurd h (by decide)) (fun h => absurd h (by decide)) (fun S110 hG111 hA112 e113 f114 er115 => ?_)
    have hF : F_X3_readFrom_p193 bs n (StC S o0) x1 = F_X3_readFrom_p217 bs n ((e0 (StC S o0)), (e1 (StC S o0)), (e2 (StC S o0)), (e3 (StC S o0)), (e4 (StC S o0)), (e5 (StC S o0)), ((e0 (StC S o0)) - x1), (e7 (StC S o0)), 0, (e9 (StC S o0)), (e10 (StC S o0)), (e11 (StC S o0)), (eJ (StC S o0)))  := by
      unfold F_X3_readFrom_p193
      rw [if_neg q107]
    exact tt_loc (ks := [0]) rfl (ce_X3_readFrom_p217 hG111 (oa_af h0 hA112) (bc_af hb h0 hA112) (fun r T x y h => hP r T x y (pv_tr hA112 h (by decide) (fun v T e => e.trans ((congrArg (fun q => F_X3_readFrom_p217 bs n q ) (stC_mk ((congrFun (congrFun e113 193) o0).trans ((congrFun (up2_ne (k := 193)) o0).trans ((congrFun (congrFun e104 193) o0).trans ((congrFun (up2_ne (k := 193)) o0).trans (sC_193 (T := S) (o := o0) rfl))))) ((congrFun (congrFun e113 194) o0).trans ((congrFun (up2_ne (k := 194)) o0).trans ((congrFun (congrFun e104 194) o0).trans ((congrFun (up2_ne (k := 194)) o0).trans (sC_194 (T := S) (o := o0) rfl))))) ((congrFun (congrFun e113 195) o0).trans ((congrFun (up2_ne (k := 195)) o0).trans ((congrFun (congrFun e104 195) o0).trans ((congrFun (up2_ne (k := 195)) o0).trans (sC_195 (T := S) (o := o0) rfl))))) ((congrFun (congrFun e113 196) o0).trans ((congrFun (up2_ne (k := 196)) o0).trans ((congrFun (congrFun e104 196) o0).trans ((congrFun (up2_ne (k := 196)) o0).trans (sC_196 (T := S) (o := o0) rfl))))) ((congrFun (congrFun e113 197) o0).trans ((congrFun (up2_ne (k := 197)) o0).trans ((congrFun (congrFun e104 197) o0).trans ((congrFun (up2_ne (k := 197)) o0).trans (sC_197 (T := S) (o := o0) rfl))))) ((congrFun (congrFun e113 198) o0).trans ((congrFun (up2_ne (k := 198)) o0).trans ((congrFun (congrFun e104 198) o0).trans ((congrFun (up2_ne (k := 198)) o0).trans (sC_198 (T := S) (o := o0) rfl))))) ((congrFun (congrFun e113 199) o0).trans ((congrFun (up2_ne (k := 199)) o0).trans (by rw [e104]; exact up2_self))) ((congrFun (congrFun e113 200) o0).trans ((congrFun (up2_ne (k := 200)) o0).trans ((congrFun (congrFun e104 200) o0).trans ((congrFun (up2_ne (k := 200)) o0).trans (sC_200 (T := S) (o := o0) rfl))))) (by rw [e113]; exact up2_self) ((congrFun (congrFun e113 202) o0).trans ((congrFun (up2_ne (k := 202)) o0).trans ((congrFun (congrFun e104 202) o0).trans ((congrFun (up2_ne (k := 202)) o0).trans (sC_202 (T := S) (o := o0) rfl))))) ((congrFun (congrFun e113 203) o0).trans ((congrFun (up2_ne (k := 203)) o0).trans ((congrFun (congrFun e104 203) o0).trans ((congrFun (up2_ne (k := 203)) o0).trans (sC_203 (T := S) (o := o0) rfl))))) ((congrFun (congrFun e113 204) o0).trans ((congrFun (up2_ne (k := 204)) o0).trans ((congrFun (congrFun e104 204) o0).trans ((congrFun (up2_ne (k := 204)) o0).trans (sC_204 (T := S) (o := o0) rfl))))) ((congrFun (congrFun f114 205) o0).trans ((congrFun (congrFun f105 205) o0).trans (sC_205 (T := S) (o := o0) rfl))))).trans hF.symm)))))
def F_X3_readFrom_p82 (bs : Nat → Int32) (n : Int32) (d : DD) (x1 : Int32) (x2 : Int32) : DD :=
  if 64 ≤ x2 then
    if (x2 &&& (-16)) = 112 then
      let d141 := F_X3_readJump_1 bs n d (19) ((x2 &&& 15))
      F_X3_readFrom_p193 bs n d141 (x1)
    else
      if (x2 &&& (-16)) = 384 then
        let d131 := F_X3_readJump_4 bs n d (19) ((x2 &&& 15))
        F_X3_readFrom_p193 bs n d131 (x1)
      else
        if (x2 &&& (-8)) = 184 then
          let d121 := F_X3_readMoveToRegister bs n d ((x2 &&& 7))
          F_X3_readFrom_p193 bs n d121 (x1)
        else
          let d111 := F_X3_readOther bs n d (x2)
          F_X3_readFrom_p193 bs n d111 (x1)
  else
    if (x2 &&& 7) = 1 then
      let d153 := F_X3_readPair bs n d ((x2 >>> (3 &&& 31))) (1)
      F_X3_readFrom_p193 bs n d153 (x1)
    else
      if (x2 &&& 7) = 3 then
        let d206 := F_X3_readPair bs n d ((x2 >>> (3 &&& 31))) (0)
        F_X3_readFrom_p193 bs n d206 (x1)
      else
        if (x2 &&& (-16)) = 112 then
          let d196 := F_X3_readJump_1 bs n d (19) ((x2 &&& 15))
          F_X3_readFrom_p193 bs n d196 (x1)
        else
          if (x2 &&& (-16)) = 384 then
            let d186 := F_X3_readJump_4 bs n d (19) ((x2 &&& 15))
            F_X3_readFrom_p193 bs n d186 (x1)
          else
            if (x2 &&& (-8)) = 184 then
              let d176 := F_X3_readMoveToRegister bs n d ((x2 &&& 7))
              F_X3_readFrom_p193 bs n d176 (x1)
            else
              let d166 := F_X3_readOther bs n d (x2)
              F_X3_readFrom_p193 bs n d166 (x1)
set_option maxHeartbeats 2000000 in
theorem ce_X3_readFrom_p82 {xi : SX} {S : Hp} {E : List Nat} {kc nc : Nat} {P : Po} {o0 : Nat} {x1 : Int32} {x2 : Int32} {bs : Nat → Int32} {n : Int32} (hG : GI S E) (h0 : Oa S E 3 0 o0) (hb : BC S E o0 bs n) (hP : ∀ r T x y, PV E [193, 195, 196, 197, 198, 199, 200, 201, 202, 203, 204] S kc nc rV (fun v T => StC T o0 = F_X3_readFrom_p82 bs n (StC S o0) x1 x2) [] r T x y → P r T x y) : TT xi M_X3_readFrom 82 [(0, .ref o0), (1, .int x1), (2, .int x2)] [] S kc nc P := by
  have hA : Af E [193, 195, 196, 197, 198, 199, 200, 201, 202, 203, 204] S S := af_rf
  refine tt_iload_n (j := 2) dX3_readFrom_82 rfl ?_
  refine tt_bipush (v := 7) dX3_readFrom_83 rfl ?_
  refine tt_iand dX3_readFrom_85 ?_
  refine tt_istore_n (ks := [0, 1, 2, 3]) (L' := [(3, .int (x2 &&& 7)), (0, .ref o0), (1, .int x1), (2, .int x2)]) dX3_readFrom_86 (by decide) rfl ?_
  refine tt_iload_n (j := 3) dX3_readFrom_87 rfl ?_
  refine tt_bipush (v := 64) dX3_readFrom_88 rfl ?_
  refine tt_icmp_ge (tgt := 123) dX3_readFrom_90 rfl (fun q101 => ?_) (fun q101 => ?_)
  · skip
    have h102 : Rg 64 2147483647 x2 := rg_le_r (⟨by decide, by decide⟩ : Rg 64 64 64) (rg_all x2) q101
    refine tt_iload_n (j := 3) dX3_readFrom_123 rfl ?_
    refine tt_bipush (v := (-16)) dX3_readFrom_124 rfl ?_
    refine tt_iand dX3_readFrom_126 ?_
    refine tt_bipush (v := 112) dX3_readFrom_127 rfl ?_
    refine tt_icmp_ne (tgt := 146) dX3_readFrom_129 rfl (fun q103 => ?_) (fun q103 => ?_)
    · skip
      refine tt_iload_n (j := 3) dX3_readFrom_146 rfl ?_
      refine tt_bipush (v := (-16)) dX3_readFrom_147 rfl ?_
      refine tt_iand dX3_readFrom_149 ?_
      refine tt_sipush (v := 384) dX3_readFrom_150 rfl ?_
      refine tt_icmp_ne (tgt := 170) dX3_readFrom_153 rfl (fun q104 => ?_) (fun q104 => ?_)
      · skip
        refine tt_iload_n (j := 3) dX3_readFrom_170 rfl ?_
        refine tt_bipush (v := (-8)) dX3_readFrom_171 rfl ?_
        refine tt_iand dX3_readFrom_173 ?_
        refine tt_sipush (v := 184) dX3_readFrom_174 rfl ?_
        refine tt_icmp_ne (tgt := 188) dX3_readFrom_177 rfl (fun q105 => ?_) (fun q105 => ?_)
        · skip
          refine tt_aload_n (j := 1) dX3_readFrom_188 rfl ?_
          refine tt_iload_n (j := 3) dX3_readFrom_189 rfl ?_
          refine gt_Vv (As := [.int x2]) dX3_readFrom_190 ca_X3_48 ⟨by decide, by decide⟩ h0 hA rfl (Nat.le_of_ble_eq_true rfl) (Nat.le_of_ble_eq_true rfl) (by decide) (ce_X3_readOther hG (oa_af h0 hA) (bc_af hb h0 hA) (fun _ _ _ _ h => h)) rfl (fun _ h => nomatch h) (fun S106 hx110 hG107 hB108 hA109 => ?_)
          obtain ⟨d111, hd112⟩ : ∃ q, q = F_X3_readOther bs n (StC S o0) (x2) := ⟨_, rfl⟩
          have hq113 := (congrArg (fun q => F_X3_readOther bs n q (x2)) (stC_mk (sC_193 (T := S) (o := o0) rfl) (sC_194 (T := S) (o := o0) rfl) (sC_195 (T := S) (o := o0) rfl) (sC_196 (T := S) (o := o0) rfl) (sC_197 (T := S) (o := o0) rfl) (sC_198 (T := S) (o := o0) rfl) (sC_199 (T := S) (o := o0) rfl) (sC_200 (T := S) (o := o0) rfl) (sC_201 (T := S) (o := o0) rfl) (sC_202 (T := S) (o := o0) rfl) (sC_203 (T := S) (o := o0) rfl) (sC_204 (T := S) (o := o0) rfl) (sC_205 (T := S) (o := o0) rfl))).trans hd112.symm
          have hs114 := hx110.trans hq113
          have hF : F_X3_readFrom_p82 bs n (StC S o0) x1 x2 = F_X3_readFrom_p193 bs n d111 (x1) := by
            subst hd112
            unfold F_X3_readFrom_p82
            dsimp only
            rw [if_pos q101, if_neg q103, if_neg q104, if_neg q105]
          exact tt_loc (ks := [1, 2]) rfl (ce_X3_readFrom_p193 hG107 (oa_af h0 hA109) (bc_af hb h0 hA109) (fun r T x y h => hP r T x y (pv_tr hA109 h (by decide) (fun v T e => e.trans ((congrArg (fun q => F_X3_readFrom_p193 bs n q (x1)) (stC_mk (sC_193 hs114) (sC_194 hs114) (sC_195 hs114) (sC_196 hs114) (sC_197 hs114) (sC_198 hs114) (sC_199 hs114) (sC_200 hs114) (sC_201 hs114) (sC_202 hs114) (sC_203 hs114) (sC_204 hs114) (sC_205 hs114))).trans hF.symm)))))
        · skip
          have h115 : Rg 184 184 (x2 &&& (-8)) := rg_eq_l (rg_all (x2 &&& (-8))) (⟨by decide, by decide⟩ : Rg 184 184 184) q105
          refine tt_aload_n (j := 1) dX3_readFrom_180 rfl ?_
          refine tt_iload_n (j := 0) dX3_readFrom_181 rfl ?_
          refine gt_Vv (As := [.int (x2 &&& 7)]) dX3_readFrom_182 ca_X3_45 ⟨by decide, by decide⟩ h0 hA rfl (Nat.le_of_ble_eq_true rfl) (Nat.le_of_ble_eq_true rfl) (by decide) (ce_X3_readMoveToRegister hG (oa_af h0 hA) (bc_af hb h0 hA) (fun _ _ _ _ h => h)) rfl (fun _ h => nomatch h) (fun S116 hx120 hG117 hB118 hA119 => ?_)
          obtain ⟨d121, hd122⟩ : ∃ q, q = F_X3_readMoveToRegister bs n (StC S o0) ((x2 &&& 7)) := ⟨_, rfl⟩
          have hq123 := (congrArg (fun q => F_X3_readMoveToRegister bs n q ((x2 &&& 7))) (stC_mk (sC_193 (T := S) (o := o0) rfl) (sC_194 (T := S) (o := o0) rfl) (sC_195 (T := S) (o := o0) rfl) (sC_196 (T := S) (o := o0) rfl) (sC_197 (T := S) (o := o0) rfl) (sC_198 (T := S) (o := o0) rfl) (sC_199 (T := S) (o := o0) rfl) (sC_200 (T := S) (o := o0) rfl) (sC_201 (T := S) (o := o0) rfl) (sC_202 (T := S) (o := o0) rfl) (sC_203 (T := S) (o := o0) rfl) (sC_204 (T := S) (o := o0) rfl) (sC_205 (T := S) (o := o0) rfl))).trans hd122.symm
          have hs124 := hx120.trans hq123
          refine tt_goto (tgt := 193) dX3_readFrom_185 rfl ?_
          have hF : F_X3_readFrom_p82 bs n (StC S o0) x1 x2 = F_X3_readFrom_p193 bs n d121 (x1) := by
            subst hd122
            unfold F_X3_readFrom_p82
            dsimp only
            rw [if_pos q101, if_neg q103, if_neg q104, if_pos q105]
          exact tt_loc (ks := [1, 2]) rfl (ce_X3_readFrom_p193 hG117 (oa_af h0 hA119) (bc_af hb h0 hA119) (fun r T x y h => hP r T x y (pv_tr hA119 h (by decide) (fun v T e => e.trans ((congrArg (fun q => F_X3_readFrom_p193 bs n q (x1)) (stC_mk (sC_193 hs124) (sC_194 hs124) (sC_195 hs124) (sC_196 hs124) (sC_197 hs124) (sC_198 hs124) (sC_199 hs124) (sC_200 hs124) (sC_201 hs124) (sC_202 hs124) (sC_203 hs124) (sC_204 hs124) (sC_205 hs124))).trans hF.symm)))))
      · skip
        have h125 : Rg 384 384 (x2 &&& (-16)) := rg_eq_l (rg_all (x2 &&& (-16))) (⟨by decide, by decide⟩ : Rg 384 384 384) q104
        refine tt_aload_n (j := 1) dX3_readFrom_156 rfl ?_
        refine tt_bipush (v := 19) dX3_readFrom_157 rfl ?_
        refine tt_iload_n (j := 3) dX3_readFrom_159 rfl ?_
        refine tt_bipush (v := 15) dX3_readFrom_160 rfl ?_
        refine tt_iand dX3_readFrom_162 ?_
        refine tt_iconst (v := 4) dX3_readFrom_163 rfl ?_
        refine gt_Vv (As := [.int 19, .int (x2 &&& 15), .int 4]) dX3_readFrom_164 ca_X3_41 ⟨by decide, by decide⟩ h0 hA rfl (Nat.le_of_ble_eq_true rfl) (Nat.le_of_ble_eq_true rfl) (by decide) (ce_X3_readJump_4 hG (oa_af h0 hA) (bc_af hb h0 hA) (fun _ _ _ _ h => h)) rfl (fun _ h => nomatch h) (fun S126 hx130 hG127 hB128 hA129 => ?_)
        obtain ⟨d131, hd132⟩ : ∃ q, q = F_X3_readJump_4 bs n (StC S o0) (19) ((x2 &&& 15)) := ⟨_, rfl⟩
        have hq133 := (congrArg (fun q => F_X3_readJump_4 bs n q (19) ((x2 &&& 15))) (stC_mk (sC_193 (T := S) (o := o0) rfl) (sC_194 (T := S) (o := o0) rfl) (sC_195 (T := S) (o := o0) rfl) (sC_196 (T := S) (o := o0) rfl) (sC_197 (T := S) (o := o0) rfl) (sC_198 (T := S) (o := o0) rfl) (sC_199 (T := S) (o := o0) rfl) (sC_200 (T := S) (o := o0) rfl) (sC_201 (T := S) (o := o0) rfl) (sC_202 (T := S) (o := o0) rfl) (sC_203 (T := S) (o := o0) rfl) (sC_204 (T := S) (o := o0) rfl) (sC_205 (T := S) (o := o0) rfl))).trans hd132.symm
        have hs134 := hx130.trans hq133
        refine tt_goto (tgt := 193) dX3_readFrom_167 rfl ?_
        have hF : F_X3_readFrom_p82 bs n (StC S o0) x1 x2 = F_X3_readFrom_p193 bs n d131 (x1) := by
          subst hd132
          unfold F_X3_readFrom_p82
          dsimp only
          rw [if_pos q101, if_neg q103, if_pos q104]
        exact tt_loc (ks := [1, 2]) rfl (ce_X3_readFrom_p193 hG127 (oa_af h0 hA129) (bc_af hb h0 hA129) (fun r T x y h => hP r T x y (pv_tr hA129 h (by decide) (fun v T e => e.trans ((congrArg (fun q => F_X3_readFrom_p193 bs n q (x1)) (stC_mk (sC_193 hs134) (sC_194 hs134) (sC_195 hs134) (sC_196 hs134) (sC_197 hs134) (sC_198 hs134) (sC_199 hs134) (sC_200 hs134) (sC_201 hs134) (sC_202 hs134) (sC_203 hs134) (sC_204 hs134) (sC_205 hs134))).trans hF.symm)))))
    · skip
      have h135 : Rg 112 112 (x2 &&& (-16)) := rg_eq_l (rg_all (x2 &&& (-16))) (⟨by decide, by decide⟩ : Rg 112 112 112) q103
      refine tt_aload_n (j := 1) dX3_readFrom_132 rfl ?_
      refine tt_bipush (v := 19) dX3_readFrom_133 rfl ?_
      refine tt_iload_n (j := 3) dX3_readFrom_135 rfl ?_
      refine tt_bipush (v := 15) dX3_readFrom_136 rfl ?_
      refine tt_iand dX3_readFrom_138 ?_
      refine tt_iconst (v := 1) dX3_readFrom_139 rfl ?_
      refine gt_Vv (As := [.int 19, .int (x2 &&& 15), .int 1]) dX3_readFrom_140 ca_X3_41 ⟨by decide, by decide⟩ h0 hA rfl (Nat.le_of_ble_eq_true rfl) (Nat.le_of_ble_eq_true rfl) (by decide) (ce_X3_readJump_1 hG (oa_af h0 hA) (bc_af hb h0 hA) (fun _ _ _ _ h => h)) rfl (fun _ h => nomatch h) (fun S136 hx140 hG137 hB138 hA139 => ?_)
      obtain ⟨d141, hd142⟩ : ∃ q, q = F_X3_readJump_1 bs n (StC S o0) (19) ((x2 &&& 15)) := ⟨_, rfl⟩
      have hq143 := (congrArg (fun q => F_X3_readJump_1 bs n q (19) ((x2 &&& 15))) (stC_mk (sC_193 (T := S) (o := o0) rfl) (sC_194 (T := S) (o := o0) rfl) (sC_195 (T := S) (o := o0) rfl) (sC_196 (T := S) (o := o0) rfl) (sC_197 (T := S) (o := o0) rfl) (sC_198 (T := S) (o := o0) rfl) (sC_199 (T := S) (o := o0) rfl) (sC_200 (T := S) (o := o0) rfl) (sC_201 (T := S) (o := o0) rfl) (sC_202 (T := S) (o := o0) rfl) (sC_203 (T := S) (o := o0) rfl) (sC_204 (T := S) (o := o0) rfl) (sC_205 (T := S) (o := o0) rfl))).trans hd142.symm
      have hs144 := hx140.trans hq143
      refine tt_goto (tgt := 193) dX3_readFrom_143 rfl ?_
      have hF : F_X3_readFrom_p82 bs n (StC S o0) x1 x2 = F_X3_readFrom_p193 bs n d141 (x1) := by
        subst hd142
        unfold F_X3_readFrom_p82
        dsimp only
        rw [if_pos q101, if_pos q103]
      exact tt_loc (ks := [1, 2]) rfl (ce_X3_readFrom_p193 hG137 (oa_af h0 hA139) (bc_af hb h0 hA139) (fun r T x y h => hP r T x y (pv_tr hA139 h (by decide) (fun v T e => e.trans ((congrArg (fun q => F_X3_readFrom_p193 bs n q (x1)) (stC_mk (sC_193 hs144) (sC_194 hs144) (sC_195 hs144) (sC_196 hs144) (sC_197 hs144) (sC_198 hs144) (sC_199 hs144) (sC_200 hs144) (sC_201 hs144) (sC_202 hs144) (sC_203 hs144) (sC_204 hs144) (sC_205 hs144))).trans hF.symm)))))
  · skip
    have h145 : Rg (-2147483648) 63 x2 := rg_lt_l (rg_all x2) (⟨by decide, by decide⟩ : Rg 64 64 64) (nle_lt q101)
    refine tt_iload_n (j := 0) dX3_readFrom_93 rfl ?_
    refine tt_iconst (v := 1) dX3_readFrom_94 rfl ?_
    refine tt_icmp_eq (tgt := 103) dX3_readFrom_95 rfl (fun q146 => ?_) (fun q146 => ?_)
    · skip
      have h147 : Rg 1 1 (x2 &&& 7) := rg_eq_l (rg_and (x := x2) (⟨by decide, by decide⟩ : Rg 7 7 7)) (⟨by decide, by decide⟩ : Rg 1 1 1) q146
      refine tt_aload_n (j := 1) dX3_readFrom_103 rfl ?_
      refine tt_iload_n (j := 3) dX3_readFrom_104 rfl ?_
      refine tt_iconst (v := 3) dX3_readFrom_105 rfl ?_
      refine tt_ishr dX3_readFrom_106 ?_
      refine tt_iload_n (j := 0) dX3_readFrom_107 rfl ?_
      refine tt_iconst (v := 1) dX3_readFrom_108 rfl ?_
      refine tt_icmp_ne (tgt := 116) dX3_readFrom_109 rfl (fun q => absurd q146 q) (fun _ => ?_)
      refine tt_iconst (v := 1) dX3_readFrom_112 rfl ?_
      refine tt_goto (tgt := 117) dX3_readFrom_113 rfl ?_
      refine gt_Vv (As := [.int (x2 >>> (3 &&& 31)), .int 1]) dX3_readFrom_117 ca_X3_37 ⟨by decide, by decide⟩ h0 hA rfl (Nat.le_of_ble_eq_true rfl) (Nat.le_of_ble_eq_true rfl) (by decide) (ce_X3_readPair hG (oa_af h0 hA) (rg_w (⟨by decide, by decide⟩ : Rg 1 1 1)) (bc_af hb h0 hA) (fun _ _ _ _ h => h)) rfl (fun _ h => nomatch h) (fun S148 hx152 hG149 hB150 hA151 => ?_)
      obtain ⟨d153, hd154⟩ : ∃ q, q = F_X3_readPair bs n (StC S o0) ((x2 >>> (3 &&& 31))) (1) := ⟨_, rfl⟩
      have hq155 := (congrArg (fun q => F_X3_readPair bs n q ((x2 >>> (3 &&& 31))) (1)) (stC_mk (sC_193 (T := S) (o := o0) rfl) (sC_194 (T := S) (o := o0) rfl) (sC_195 (T := S) (o := o0) rfl) (sC_196 (T := S) (o := o0) rfl) (sC_197 (T := S) (o := o0) rfl) (sC_198 (T := S) (o := o0) rfl) (sC_199 (T := S) (o := o0) rfl) (sC_200 (T := S) (o := o0) rfl) (sC_201 (T := S) (o := o0) rfl) (sC_202 (T := S) (o := o0) rfl) (sC_203 (T := S) (o := o0) rfl) (sC_204 (T := S) (o := o0) rfl) (sC_205 (T := S) (o := o0) rfl))).trans hd154.symm
      have hs156 := hx152.trans hq155
      refine tt_goto (tgt := 193) dX3_readFrom_120 rfl ?_
      have hF : F_X3_readFrom_p82 bs n (StC S o0) x1 x2 = F_X3_readFrom_p193 bs n d153 (x1) := by
        subst hd154
        unfold F_X3_readFrom_p82
        dsimp only
        rw [if_neg q101, if_pos q146]
      exact tt_loc (ks := [1, 2]) rfl (ce_X3_readFrom_p193 hG149 (oa_af h0 hA151) (bc_af hb h0 hA151) (fun r T x y h => hP r T x y (pv_tr hA151 h (by decide) (fun v T e => e.trans ((congrArg (fun q => F_X3_readFrom_p193 bs n q (x1)) (stC_mk (sC_193 hs156) (sC_194 hs156) (sC_195 hs156) (sC_196 hs156) (sC_197 hs156) (sC_198 hs156) (sC_199 hs156) (sC_200 hs156) (sC_201 hs156) (sC_202 hs156) (sC_203 hs156) (sC_204 hs156) (sC_205 hs156))).trans hF.symm)))))
    · skip
      refine tt_iload_n (j := 0) dX3_readFrom_98 rfl ?_
      refine tt_iconst (v := 3) dX3_readFrom_99 rfl ?_
      refine tt_icmp_ne (tgt := 123) dX3_readFrom_100 rfl (fun q157 => ?_) (fun q157 => ?_)
      · skip
        refine tt_iload_n (j := 3) dX3_readFrom_123 rfl ?_
        refine tt_bipush (v := (-16)) dX3_readFrom_124 rfl ?_
        refine tt_iand dX3_readFrom_126 ?_
        refine tt_bipush (v := 112) dX3_readFrom_127 rfl ?_
        refine tt_icmp_ne (tgt := 146) dX3_readFrom_129 rfl (fun q158 => ?_) (fun q158 => ?_)
        · skip
          refine tt_iload_n (j := 3) dX3_readFrom_146 rfl ?_
          refine tt_bipush (v := (-16)) dX3_readFrom_147 rfl ?_
          refine tt_iand dX3_readFrom_149 ?_
          refine tt_sipush (v := 384) dX3_readFrom_150 rfl ?_
          refine tt_icmp_ne (tgt := 170) dX3_readFrom_153 rfl (fun q159 => ?_) (fun q159 => ?_)
          · skip
            refine tt_iload_n (j := 3) dX3_readFrom_170 rfl ?_
            refine tt_bipush (v := (-8)) dX3_readFrom_171 rfl ?_
            refine tt_iand dX3_readFrom_173 ?_
            refine tt_sipush (v := 184) dX3_readFrom_174 rfl ?_
            refine tt_icmp_ne (tgt := 188) dX3_readFrom_177 rfl (fun q160 => ?_) (fun q160 => ?_)
            · skip
              refine tt_aload_n (j := 1) dX3_readFrom_188 rfl ?_
              refine tt_iload_n (j := 3) dX3_readFrom_189 rfl ?_
              refine gt_Vv (As := [.int x2]) dX3_readFrom_190 ca_X3_48 ⟨by decide, by decide⟩ h0 hA rfl (Nat.le_of_ble_eq_true rfl) (Nat.le_of_ble_eq_true rfl) (by decide) (ce_X3_readOther hG (oa_af h0 hA) (bc_af hb h0 hA) (fun _ _ _ _ h => h)) rfl (fun _ h => nomatch h) (fun S161 hx165 hG162 hB163 hA164 => ?_)
              obtain ⟨d166, hd167⟩ : ∃ q, q = F_X3_readOther bs n (StC S o0) (x2) := ⟨_, rfl⟩
              have hq168 := (congrArg (fun q => F_X3_readOther bs n q (x2)) (stC_mk (sC_193 (T := S) (o := o0) rfl) (sC_194 (T := S) (o := o0) rfl) (sC_195 (T := S) (o := o0) rfl) (sC_196 (T := S) (o := o0) rfl) (sC_197 (T := S) (o := o0) rfl) (sC_198 (T := S) (o := o0) rfl) (sC_199 (T := S) (o := o0) rfl) (sC_200 (T := S) (o := o0) rfl) (sC_201 (T := S) (o := o0) rfl) (sC_202 (T := S) (o := o0) rfl) (sC_203 (T := S) (o := o0) rfl) (sC_204 (T := S) (o := o0) rfl) (sC_205 (T := S) (o := o0) rfl))).trans hd167.symm
              have hs169 := hx165.trans hq168
              have hF : F_X3_readFrom_p82 bs n (StC S o0) x1 x2 = F_X3_readFrom_p193 bs n d166 (x1) := by
                subst hd167
                unfold F_X3_readFrom_p82
                dsimp only
                rw [if_neg q101, if_neg q146, if_neg q157, if_neg q158, if_neg q159, if_neg q160]
              exact tt_loc (ks := [1, 2]) rfl (ce_X3_readFrom_p193 hG162 (oa_af h0 hA164) (bc_af hb h0 hA164) (fun r T x y h => hP r T x y (pv_tr hA164 h (by decide) (fun v T e => e.trans ((congrArg (fun q => F_X3_readFrom_p193 bs n q (x1)) (stC_mk (sC_193 hs169) (sC_194 hs169) (sC_195 hs169) (sC_196 hs169) (sC_197 hs169) (sC_198 hs169) (sC_199 hs169) (sC_200 hs169) (sC_201 hs169) (sC_202 hs169) (sC_203 hs169) (sC_204 hs169) (sC_205 hs169))).trans hF.symm)))))
            · skip
              have h170 : Rg 184 184 (x2 &&& (-8)) := rg_eq_l (rg_all (x2 &&& (-8))) (⟨by decide, by decide⟩ : Rg 184 184 184) q160
              refine tt_aload_n (j := 1) dX3_readFrom_180 rfl ?_
              refine tt_iload_n (j := 0) dX3_readFrom_181 rfl ?_
              refine gt_Vv (As := [.int (x2 &&& 7)]) dX3_readFrom_182 ca_X3_45 ⟨by decide, by decide⟩ h0 hA rfl (Nat.le_of_ble_eq_true rfl) (Nat.le_of_ble_eq_true rfl) (by decide) (ce_X3_readMoveToRegister hG (oa_af h0 hA) (bc_af hb h0 hA) (fun _ _ _ _ h => h)) rfl (fun _ h => nomatch h) (fun S171 hx175 hG172 hB173 hA174 => ?_)
              obtain ⟨d176, hd177⟩ : ∃ q, q = F_X3_readMoveToRegister bs n (StC S o0) ((x2 &&& 7)) := ⟨_, rfl⟩
              have hq178 := (congrArg (fun q => F_X3_readMoveToRegister bs n q ((x2 &&& 7))) (stC_mk (sC_193 (T := S) (o := o0) rfl) (sC_194 (T := S) (o := o0) rfl) (sC_195 (T := S) (o := o0) rfl) (sC_196 (T := S) (o := o0) rfl) (sC_197 (T := S) (o := o0) rfl) (sC_198 (T := S) (o := o0) rfl) (sC_199 (T := S) (o := o0) rfl) (sC_200 (T := S) (o := o0) rfl) (sC_201 (T := S) (o := o0) rfl) (sC_202 (T := S) (o := o0) rfl) (sC_203 (T := S) (o := o0) rfl) (sC_204 (T := S) (o := o0) rfl) (sC_205 (T := S) (o := o0) rfl))).trans hd177.symm
              have hs179 := hx175.trans hq178
              refine tt_goto (tgt := 193) dX3_readFrom_185 rfl ?_
              have hF : F_X3_readFrom_p82 bs n (StC S o0) x1 x2 = F_X3_readFrom_p193 bs n d176 (x1) := by
                subst hd177
                unfold F_X3_readFrom_p82
                dsimp only
                rw [if_neg q101, if_neg q146, if_neg q157, if_neg q158, if_neg q159, if_pos q160]
              exact tt_loc (ks := [1, 2]) rfl (ce_X3_readFrom_p193 hG172 (oa_af h0 hA174) (bc_af hb h0 hA174) (fun r T x y h => hP r T x y (pv_tr hA174 h (by decide) (fun v T e => e.trans ((congrArg (fun q => F_X3_readFrom_p193 bs n q (x1)) (stC_mk (sC_193 hs179) (sC_194 hs179) (sC_195 hs179) (sC_196 hs179) (sC_197 hs179) (sC_198 hs179) (sC_199 hs179) (sC_200 hs179) (sC_201 hs179) (sC_202 hs179) (sC_203 hs179) (sC_204 hs179) (sC_205 hs179))).trans hF.symm)))))
          · skip
            have h180 : Rg 384 384 (x2 &&& (-16)) := rg_eq_l (rg_all (x2 &&& (-16))) (⟨by decide, by decide⟩ : Rg 384 384 384) q159
            refine tt_aload_n (j := 1) dX3_readFrom_156 rfl ?_
            refine tt_bipush (v := 19) dX3_readFrom_157 rfl ?_
            refine tt_iload_n (j := 3) dX3_readFrom_159 rfl ?_
            refine tt_bipush (v := 15) dX3_readFrom_160 rfl ?_
            refine tt_iand dX3_readFrom_162 ?_
            refine tt_iconst (v := 4) dX3_readFrom_163 rfl ?_
            refine gt_Vv (As := [.int 19, .int (x2 &&& 15), .int 4]) dX3_readFrom_164 ca_X3_41 ⟨by decide, by decide⟩ h0 hA rfl (Nat.le_of_ble_eq_true rfl) (Nat.le_of_ble_eq_true rfl) (by decide) (ce_X3_readJump_4 hG (oa_af h0 hA) (bc_af hb h0 hA) (fun _ _ _ _ h => h)) rfl (fun _ h => nomatch h) (fun S181 hx185 hG182 hB183 hA184 => ?_)
            obtain ⟨d186, hd187⟩ : ∃ q, q = F_X3_readJump_4 bs n (StC S o0) (19) ((x2 &&& 15)) := ⟨_, rfl⟩
            have hq188 := (congrArg (fun q => F_X3_readJump_4 bs n q (19) ((x2 &&& 15))) (stC_mk (sC_193 (T := S) (o := o0) rfl) (sC_194 (T := S) (o := o0) rfl) (sC_195 (T := S) (o := o0) rfl) (sC_196 (T := S) (o := o0) rfl) (sC_197 (T := S) (o := o0) rfl) (sC_198 (T := S) (o := o0) rfl) (sC_199 (T := S) (o := o0) rfl) (sC_200 (T := S) (o := o0) rfl) (sC_201 (T := S) (o := o0) rfl) (sC_202 (T := S) (o := o0) rfl) (sC_203 (T := S) (o := o0) rfl) (sC_204 (T := S) (o := o0) rfl) (sC_205 (T := S) (o := o0) rfl))).trans hd187.symm
            have hs189 := hx185.trans hq188
            refine tt_goto (tgt := 193) dX3_readFrom_167 rfl ?_
            have hF : F_X3_readFrom_p82 bs n (StC S o0) x1 x2 = F_X3_readFrom_p193 bs n d186 (x1) := by
              subst hd187
              unfold F_X3_readFrom_p82
              dsimp only
              rw [if_neg q101, if_neg q146, if_neg q157, if_neg q158, if_pos q159]
            exact tt_loc (ks := [1, 2]) rfl (ce_X3_readFrom_p193 hG182 (oa_af h0 hA184) (bc_af hb h0 hA184) (fun r T x y h => hP r T x y (pv_tr hA184 h (by decide) (fun v T e => e.trans ((congrArg (fun q => F_X3_readFrom_p193 bs n q (x1)) (stC_mk (sC_193 hs189) (sC_194 hs189) (sC_195 hs189) (sC_196 hs189) (sC_197 hs189) (sC_198 hs189) (sC_199 hs189) (sC_200 hs189) (sC_201 hs189) (sC_202 hs189) (sC_203 hs189) (sC_204 hs189) (sC_205 hs189))).trans hF.symm)))))
        · skip
          have h190 : Rg 112 112 (x2 &&& (-16)) := rg_eq_l (rg_all (x2 &&& (-16))) (⟨by decide, by decide⟩ : Rg 112 112 112) q158
          refine tt_aload_n (j := 1) dX3_readFrom_132 rfl ?_
          refine tt_bipush (v := 19) dX3_readFrom_133 rfl ?_
          refine tt_iload_n (j := 3) dX3_readFrom_135 rfl ?_
          refine tt_bipush (v := 15) dX3_readFrom_136 rfl ?_
          refine tt_iand dX3_readFrom_138 ?_
          refine tt_iconst (v := 1) dX3_readFrom_139 rfl ?_
          refine gt_Vv (As := [.int 19, .int (x2 &&& 15), .int 1]) dX3_readFrom_140 ca_X3_41 ⟨by decide, by decide⟩ h0 hA rfl (Nat.le_of_ble_eq_true rfl) (Nat.le_of_ble_eq_true rfl) (by decide) (ce_X3_readJump_1 hG (oa_af h0 hA) (bc_af hb h0 hA) (fun _ _ _ _ h => h)) rfl (fun _ h => nomatch h) (fun S191 hx195 hG192 hB193 hA194 => ?_)
          obtain ⟨d196, hd197⟩ : ∃ q, q = F_X3_readJump_1 bs n (StC S o0) (19) ((x2 &&& 15)) := ⟨_, rfl⟩
          have hq198 := (congrArg (fun q => F_X3_readJump_1 bs n q (19) ((x2 &&& 15))) (stC_mk (sC_193 (T := S) (o := o0) rfl) (sC_194 (T := S) (o := o0) rfl) (sC_195 (T := S) (o := o0) rfl) (sC_196 (T := S) (o := o0) rfl) (sC_197 (T := S) (o := o0) rfl) (sC_198 (T := S) (o := o0) rfl) (sC_199 (T := S) (o := o0) rfl) (sC_200 (T := S) (o := o0) rfl) (sC_201 (T := S) (o := o0) rfl) (sC_202 (T := S) (o := o0) rfl) (sC_203 (T := S) (o := o0) rfl) (sC_204 (T := S) (o := o0) rfl) (sC_205 (T := S) (o := o0) rfl))).trans hd197.symm
          have hs199 := hx195.trans hq198
          refine tt_goto (tgt := 193) dX3_readFrom_143 rfl ?_
          have hF : F_X3_readFrom_p82 bs n (StC S o0) x1 x2 = F_X3_readFrom_p193 bs n d196 (x1) := by
            subst hd197
            unfold F_X3_readFrom_p82
            dsimp only
            rw [if_neg q101, if_neg q146, if_neg q157, if_pos q158]
          exact tt_loc (ks := [1, 2]) rfl (ce_X3_readFrom_p193 hG192 (oa_af h0 hA194) (bc_af hb h0 hA194) (fun r T x y h => hP r T x y (pv_tr hA194 h (by decide) (fun v T e => e.trans ((congrArg (fun q => F_X3_readFrom_p193 bs n q (x1)) (stC_mk (sC_193 hs199) (sC_194 hs199) (sC_195 hs199) (sC_196 hs199) (sC_197 hs199) (sC_198 hs199) (sC_199 hs199) (sC_200 hs199) (sC_201 hs199) (sC_202 hs199) (sC_203 hs199) (sC_204 hs199) (sC_205 hs199))).trans hF.symm)))))
      · skip
        have h200 : Rg 3 3 (x2 &&& 7) := rg_eq_l (rg_and (x := x2) (⟨by decide, by decide⟩ : Rg 7 7 7)) (⟨by decide, by decide⟩ : Rg 3 3 3) q157
        refine tt_aload_n (j := 1) dX3_readFrom_103 rfl ?_
        refine tt_iload_n (j := 3) dX3_readFrom_104 rfl ?_
        refine tt_iconst (v := 3) dX3_readFrom_105 rfl ?_
        refine tt_ishr dX3_readFrom_106 ?_
        refine tt_iload_n (j := 0) dX3_readFrom_107 rfl ?_
        refine tt_iconst (v := 1) dX3_readFrom_108 rfl ?_
        refine tt_icmp_ne (tgt := 116) dX3_readFrom_109 rfl (fun _ => ?_) (fun q => absurd q q146)
        refine tt_iconst (v := 0) dX3_readFrom_116 rfl ?_
        refine gt_Vv (As := [.int (x2 >>> (3 &&& 31)), .int 0]) dX3_readFrom_117 ca_X3_37 ⟨by decide, by decide⟩ h0 hA rfl (Nat.le_of_ble_eq_true rfl) (Nat.le_of_ble_eq_true rfl) (by decide) (ce_X3_readPair hG (oa_af h0 hA) (rg_w (⟨by decide, by decide⟩ : Rg 0 0 0)) (bc_af hb h0 hA) (fun _ _ _ _ h => h)) rfl (fun _ h => nomatch h) (fun S201 hx205 hG202 hB203 hA204 => ?_)
        obtain ⟨d206, hd207⟩ : ∃ q, q = F_X3_readPair bs n (StC S o0) ((x2 >>> (3 &&& 31))) (0) := ⟨_, rfl⟩
        have hq208 := (congrArg (fun q => F_X3_readPair bs n q ((x2 >>> (3 &&& 31))) (0)) (stC_mk (sC_193 (T := S) (o := o0) rfl) (sC_194 (T := S) (o := o0) rfl) (sC_195 (T := S) (o := o0) rfl) (sC_196 (T := S) (o := o0) rfl) (sC_197 (T := S) (o := o0) rfl) (sC_198 (T := S) (o := o0) rfl) (sC_199 (T := S) (o := o0) rfl) (sC_200 (T := S) (o := o0) rfl) (sC_201 (T := S) (o := o0) rfl) (sC_202 (T := S) (o := o0) rfl) (sC_203 (T := S) (o := o0) rfl) (sC_204 (T := S) (o := o0) rfl) (sC_205 (T := S) (o := o0) rfl))).trans hd207.symm
        have hs209 := hx205.trans hq208
        refine tt_goto (tgt := 193) dX3_readFrom_120 rfl ?_
        have hF : F_X3_readFrom_p82 bs n (StC S o0) x1 x2 = F_X3_readFrom_p193 bs n d206 (x1) := by
          subst hd207
          unfold F_X3_readFrom_p82
          dsimp only
          rw [if_neg q101, if_neg q146, if_pos q157]
        exact tt_loc (ks := [1, 2]) rfl (ce_X3_readFrom_p193 hG202 (oa_af h0 hA204) (bc_af hb h0 hA204) (fun r T x y h => hP r T x y (pv_tr hA204 h (by decide) (fun v T e => e.trans ((congrArg (fun q => F_X3_readFrom_p193 bs n q (x1)) (stC_mk (sC_193 hs209) (sC_194 hs209) (sC_195 hs209) (sC_196 hs209) (sC_197 hs209) (sC_198 hs209) (sC_199 hs209) (sC_200 hs209) (sC_201 hs209) (sC_202 hs209) (sC_203 hs209) (sC_204 hs209) (sC_205 hs209))).trans hF.symm)))))
def F_X3_readFrom_p61 (bs : Nat → Int32) (n : Int32) (d : DD) (x1 : Int32) (x2 : Int32) : DD :=
  if ((e1 d) &&& 8) = 0 then
    F_X3_readFrom_p82 bs n ((e0 d), (e1 d), (e2 d), (e3 d), (e4 d), (e5 d), (e6 d), (e7 d), 32, (e9 d), (e10 d), (e11 d), (eJ d)) (x1) (x2)
  else
    F_X3_readFrom_p82 bs n ((e0 d), (e1 d), (e2 d), (e3 d), (e4 d), (e5 d), (e6 d), (e7 d), 64, (e9 d), (e10 d), (e11 d), (eJ d)) (x1) (x2)
set_option maxHeartbeats 2000000 in
theorem ce_X3_readFrom_p61 {xi : SX} {S : Hp} {E : List Nat} {kc nc : Nat} {P : Po} {o0 : Nat} {x1 : Int32} {x2 : Int32} {bs : Nat → Int32} {n : Int32} (hG : GI S E) (h0 : Oa S E 3 0 o0) (hb : BC S E o0 bs n) (hP : ∀ r T x y, PV E [193, 195, 196, 197, 198, 199, 200, 201, 202, 203, 204] S kc nc rV (fun v T => StC T o0 = F_X3_readFrom_p61 bs n (StC S o0) x1 x2) [] r T x y → P r T x y) : TT xi M_X3_readFrom 61 [(0, .ref o0), (1, .int x1), (2, .int x2)] [] S kc nc P := by
  have hA : Af E [193, 195, 196, 197, 198, 199, 200, 201, 202, 203, 204] S S := af_rf
  refine tt_aload_n (j := 0) dX3_readFrom_61 rfl ?_
  refine tt_aload_n (j := 0) dX3_readFrom_62 rfl ?_
  refine gt_gI (id := 194) (v := (e1 (StC S o0))) dX3_readFrom_63 fl_3_19 rfl rfl h0 hA (sC_194 (T := S) (o := o0) rfl) ?_
  refine tt_bipush (v := 8) dX3_readFrom_66 rfl ?_
  refine tt_iand dX3_readFrom_68 ?_
  refine tt_if_eq (tgt := 77) dX3_readFrom_69 rfl (fun q101 => ?_) (fun q101 => ?_)
  · skip
    have h102 : Rg 0 0 ((e1 (StC S o0)) &&& 8) := rg_eq_l (rg_and (x := (e1 (StC S o0))) (⟨by decide, by decide⟩ : Rg 8 8 8)) (⟨by decide, by decide⟩ : Rg 0 0 0) q101
    refine tt_bipush (v := 32) dX3_readFrom_77 rfl ?_
    refine gt_pI (id := 201) (x := 32) dX3_readFrom_79 fl_3_34 rfl rfl h0 hA rfl rfl rfl (gp_I hG) (by decide) (fun h => absurd h (by decide)) (fun h => absurd h (by decide)) (fun S103 hG104 hA105 e106 f107 er108 => ?_)
    have hF : F_X3_readFrom_p61 bs n (StC S o0) x1 x2 = F_X3_readFrom_p82 bs n ((e0 (StC S o0)), (e1 (StC S o0)), (e2 (StC S o0)), (e3 (StC S o0)), (e4 (StC S o0)), (e5 (StC S o0)), (e6 (StC S o0)), (e7 (StC S o0)), 32, (e9 (StC S o0)), (e10 (StC S o0)), (e11 (StC S o0)), (eJ (StC S o0))) (x1) (x2) := by
      unfold F_X3_readFrom_p61
      rw [if_pos q101]
    exact tt_loc (ks := [0, 1, 2]) rfl (ce_X3_readFrom_p82 hG104 (oa_af h0 hA105) (bc_af hb h0 hA105) (fun r T x y h => hP r T x y (pv_tr hA105 h (by decide) (fun v T e => e.trans ((congrArg (fun q => F_X3_readFrom_p82 bs n q (x1) (x2)) (stC_mk ((congrFun (congrFun e106 193) o0).trans ((congrFun (up2_ne (k := 193)) o0).trans (sC_193 (T := S) (o := o0) rfl))) ((congrFun (congrFun e106 194) o0).trans ((congrFun (up2_ne (k := 194)) o0).trans (sC_194 (T := S) (o := o0) rfl))) ((congrFun (congrFun e106 195) o0).trans ((congrFun (up2_ne (k := 195)) o0).trans (sC_195 (T := S) (o := o0) rfl))) ((congrFun (congrFun e106 196) o0).trans ((congrFun (up2_ne (k := 196)) o0).trans (sC_196 (T := S) (o := o0) rfl))) ((congrFun (congrFun e106 197) o0).trans ((congrFun (up2_ne (k := 197)) o0).trans (sC_197 (T := S) (o := o0) rfl))) ((congrFun (congrFun e106 198) o0).trans ((congrFun (up2_ne (k := 198)) o0).trans (sC_198 (T := S) (o := o0) rfl))) ((congrFun (congrFun e106 199) o0).trans ((congrFun (up2_ne (k := 199)) o0).trans (sC_199 (T := S) (o := o0) rfl))) ((congrFun (congrFun e106 200) o0).trans ((congrFun (up2_ne (k := 200)) o0).trans (sC_200 (T := S) (o := o0) rfl))) (by rw [e106]; exact up2_self) ((congrFun (congrFun e106 202) o0).trans ((congrFun (up2_ne (k := 202)) o0).trans (sC_202 (T := S) (o := o0) rfl))) ((congrFun (congrFun e106 203) o0).trans ((congrFun (up2_ne (k := 203)) o0).trans (sC_203 (T := S) (o := o0) rfl))) ((congrFun (congrFun e106 204) o0).trans ((congrFun (up2_ne (k := 204)) o0).trans (sC_204 (T := S) (o := o0) rfl))) ((congrFun (congrFun f107 205) o0).trans (sC_205 (T := S) (o := o0) rfl)))).trans hF.symm)))))
  · skip
    have h109 : Rg 1 8 ((e1 (StC S o0)) &&& 8) := rg_ne_lo (rg_and (x := (e1 (StC S o0))) (⟨by decide, by decide⟩ : Rg 8 8 8)) (⟨by decide, by decide⟩ : Rg 0 0 0) q101
    refine tt_bipush (v := 64) dX3_readFrom_72 rfl ?_
    refine tt_goto (tgt := 79) dX3_readFrom_74 rfl ?_
    refine gt_pI (id := 201) (x := 64) dX3_readFrom_79 fl_3_34 rfl rfl h0 hA rfl rfl rfl (gp_I hG) (by decide) (fun h => absurd h (by decide)) (fun h => absurd h (by decide)) (fun S110 hG111 hA112 e113 f114 er115 => ?_)
    have hF : F_X3_readFrom_p61 bs n (StC S o0) x1 x2 = F_X3_readFrom_p82 bs n ((e0 (StC S o0)), (e1 (StC S o0)), (e2 (StC S o0)), (e3 (StC S o0)), (e4 (StC S o0)), (e5 (StC S o0)), (e6 (StC S o0)), (e7 (StC S o0)), 64, (e9 (StC S o0)), (e10 (StC S o0)), (e11 (StC S o0)), (eJ (StC S o0))) (x1) (x2) := by
      unfold F_X3_readFrom_p61
      rw [if_neg q101]
    exact tt_loc (ks := [0, 1, 2]) rfl (ce_X3_readFrom_p82 hG111 (oa_af h0 hA112) (bc_af hb h0 hA112) (fun r T x y h => hP r T x y (pv_tr hA112 h (by decide) (fun v T e => e.trans ((congrArg (fun q => F_X3_readFrom_p82 bs n q (x1) (x2)) (stC_mk ((congrFun (congrFun e113 193) o0).trans ((congrFun (up2_ne (k := 193)) o0).trans (sC_193 (T := S) (o := o0) rfl))) ((congrFun (congrFun e113 194) o0).trans ((congrFun (up2_ne (k := 194)) o0).trans (sC_194 (T := S) (o := o0) rfl))) ((congrFun (congrFun e113 195) o0).trans ((congrFun (up2_ne (k := 195)) o0).trans (sC_195 (T := S) (o := o0) rfl))) ((congrFun (congrFun e113 196) o0).trans ((congrFun (up2_ne (k := 196)) o0).trans (sC_196 (T := S) (o := o0) rfl))) ((congrFun (congrFun e113 197) o0).trans ((congrFun (up2_ne (k := 197)) o0).trans (sC_197 (T := S) (o := o0) rfl))) ((congrFun (congrFun e113 198) o0).trans ((congrFun (up2_ne (k := 198)) o0).trans (sC_198 (T := S) (o := o0) rfl))) ((congrFun (congrFun e113 199) o0).trans ((congrFun (up2_ne (k := 199)) o0).trans (sC_199 (T := S) (o := o0) rfl))) ((congrFun (congrFun e113 200) o0).trans ((congrFun (up2_ne (k := 200)) o0).trans (sC_200 (T := S) (o := o0) rfl))) (by rw [e113]; exact up2_self) ((congrFun (congrFun e113 202) o0).trans ((congrFun (up2_ne (k := 202)) o0).trans (sC_202 (T := S) (o := o0) rfl))) ((congrFun (congrFun e113 203) o0).trans ((congrFun (up2_ne (k := 203)) o0).trans (sC_203 (T := S) (o := o0) rfl))) ((congrFun (congrFun e113 204) o0).trans ((congrFun (up2_ne (k := 204)) o0).trans (sC_204 (T := S) (o := o0) rfl))) ((congrFun (congrFun f114 205) o0).trans (sC_205 (T := S) (o := o0) rfl)))).trans hF.symm)))))
def F_X3_readFrom_p46 (bs : Nat → Int32) (n : Int32) (d : DD) (x1 : Int32) (x2 : Int32) : DD :=
  if x2 = 15 then
    let d108 := F_X3_nextByte bs n d 
    F_X3_readFrom_p61 bs n d108.1 (x1) ((256 + d108.2))
  else
    F_X3_readFrom_p61 bs n d (x1) (x2)
set_option maxHeartbeats 2000000 in
theorem ce_X3_readFrom_p46 {xi : SX} {S : Hp} {E : List Nat} {kc nc : Nat} {P : Po} {o0 : Nat} {x1 : Int32} {x2 : Int32} {bs : Nat → Int32} {n : Int32} (hG : GI S E) (h0 : Oa S E 3 0 o0) (hb : BC S E o0 bs n) (hP : ∀ r T x y, PV E [193, 195, 196, 197, 198, 199, 200, 201, 202, 203, 204] S kc nc rV (fun v T => StC T o0 = F_X3_readFrom_p46 bs n (StC S o0) x1 x2) [] r T x y → P r T x y) : TT xi M_X3_readFrom 46 [(0, .ref o0), (1, .int x1), (2, .int x2)] [] S kc nc P := by
  have hA : Af E [193, 195, 196, 197, 198, 199, 200, 201, 202, 203, 204] S S := af_rf
  refine tt_iload_n (j := 2) dX3_readFrom_46 rfl ?_
  refine tt_bipush (v := 15) dX3_readFrom_47 rfl ?_
  refine tt_icmp_ne (tgt := 61) dX3_readFrom_49 rfl (fun q101 => ?_) (fun q101 => ?_)
  · skip
    have hF : F_X3_readFrom_p46 bs n (StC S o0) x1 x2 = F_X3_readFrom_p61 bs n (StC S o0) (x1) (x2) := by
      unfold F_X3_readFrom_p46
      rw [if_neg q101]
    exact tt_loc (ks := [0, 1, 2]) rfl (ce_X3_readFrom_p61 hG (oa_af h0 hA) (bc_af hb h0 hA) (fun r T x y h => hP r T x y (pv_tr hA h (by decide) (fun v T e => e.trans ((congrArg (fun q => F_X3_readFrom_p61 bs n q (x1) (x2)) (stC_mk (sC_193 (T := S) (o := o0) rfl) (sC_194 (T := S) (o := o0) rfl) (sC_195 (T := S) (o := o0) rfl) (sC_196 (T := S) (o := o0) rfl) (sC_197 (T := S) (o := o0) rfl) (sC_198 (T := S) (o := o0) rfl) (sC_199 (T := S) (o := o0) rfl) (sC_200 (T := S) (o := o0) rfl) (sC_201 (T := S) (o := o0) rfl) (sC_202 (T := S) (o := o0) rfl) (sC_203 (T := S) (o := o0) rfl) (sC_204 (T := S) (o := o0) rfl) (sC_205 (T := S) (o := o0) rfl))).trans hF.symm)))))
  · skip
    have h102 : Rg 15 15 x2 := rg_eq_l (rg_all x2) (⟨by decide, by decide⟩ : Rg 15 15 15) q101
    refine tt_sipush (v := 256) dX3_readFrom_52 rfl ?_
    refine tt_aload_n (j := 0) dX3_readFrom_55 rfl ?_
    refine gt_VI (As := []) dX3_readFrom_56 ca_X3_30 ⟨by decide, by decide⟩ h0 hA rfl (Nat.le_of_ble_eq_true rfl) (Nat.le_of_ble_eq_true rfl) (by decide) (ce_X3_nextByte hG (oa_af h0 hA) (bc_af hb h0 hA) (fun _ _ _ _ h => h)) rfl (fun _ h => nomatch h) (fun S103 x112 h113 hx107 hG104 hB105 hA106 => ?_)
    obtain ⟨d108, hd109⟩ : ∃ q, q = F_X3_nextByte bs n (StC S o0)  := ⟨_, rfl⟩
    have hq110 := (congrArg (fun q => F_X3_nextByte bs n q ) (stC_mk (sC_193 (T := S) (o := o0) rfl) (sC_194 (T := S) (o := o0) rfl) (sC_195 (T := S) (o := o0) rfl) (sC_196 (T := S) (o := o0) rfl) (sC_197 (T := S) (o := o0) rfl) (sC_198 (T := S) (o := o0) rfl) (sC_199 (T := S) (o := o0) rfl) (sC_200 (T := S) (o := o0) rfl) (sC_201 (T := S) (o := o0) rfl) (sC_202 (T := S) (o := o0) rfl) (sC_203 (T := S) (o := o0) rfl) (sC_204 (T := S) (o := o0) rfl) (sC_205 (T := S) (o := o0) rfl))).trans hd109.symm
    have hs111 := hx107.2.trans (congrArg Prod.fst hq110)
    obtain rfl : x112 = d108.2 := (xiC_v hx107).trans (congrArg Prod.snd hq110)
    refine tt_iadd dX3_readFrom_59 ?_
    refine tt_istore_n (ks := [0, 1, 2]) (L' := [(2, .int (256 + d108.2)), (0, .ref o0), (1, .int x1)]) dX3_readFrom_60 (by decide) rfl ?_
    have hF : F_X3_readFrom_p46 bs n (StC S o0) x1 x2 = F_X3_readFrom_p61 bs n d108.1 (x1) ((256 + d108.2)) := by
      subst hd109
      unfold F_X3_readFrom_p46
      dsimp only
      rw [if_pos q101]
    exact tt_loc (ks := [1, 2, 0]) rfl (ce_X3_readFrom_p61 hG104 (oa_af h0 hA106) (bc_af hb h0 hA106) (fun r T x y h => hP r T x y (pv_tr hA106 h (by decide) (fun v T e => e.trans ((congrArg (fun q => F_X3_readFrom_p61 bs n q (x1) ((256 + d108.2))) (stC_mk (sC_193 hs111) (sC_194 hs111) (sC_195 hs111) (sC_196 hs111) (sC_197 hs111) (sC_198 hs111) (sC_199 hs111) (sC_200 hs111) (sC_201 hs111) (sC_202 hs111) (sC_203 hs111) (sC_204 hs111) (sC_205 hs111))).trans hF.symm)))))
def F_X3_readFrom (bs : Nat → Int32) (n : Int32) (d : DD) (x1 : Int32) : DD :=
  let d124 := F_X3_becomePlain bs n (x1, 0, 1, (e3 d), (e4 d), (e5 d), (e6 d), (e7 d), (e8 d), (e9 d), (e10 d), (e11 d), (eJ d)) (21)
  let d133 := F_X3_nextByte bs n d124 
  if (d133.2 &&& 242) = 64 then
    let d152 := F_X3_nextByte bs n ((e0 d133.1), d133.2, (e2 d133.1), (e3 d133.1), (e4 d133.1), (e5 d133.1), (e6 d133.1), (e7 d133.1), (e8 d133.1), (e9 d133.1), (e10 d133.1), (e11 d133.1), (eJ d133.1)) 
    F_X3_readFrom_p46 bs n d152.1 (x1) (d152.2)
  else
    F_X3_readFrom_p46 bs n d133.1 (x1) (d133.2)
set_option maxHeartbeats 2000000 in
theorem ce_X3_readFrom {xi : SX} {S : Hp} {E : List Nat} {kc nc : Nat} {P : Po} {o0 : Nat} {x1 : Int32} {bs : Nat → Int32} {n : Int32} (hG : GI S E) (h0 : Oa S E 3 0 o0) (hb : BC S E o0 bs n) (hP : ∀ r T x y, PV E [193, 194, 195, 196, 197, 198, 199, 200, 201, 202, 203, 204] S kc nc rV (fun v T => StC T o0 = F_X3_readFrom bs n (StC S o0) x1) [] r T x y → P r T x y) : TT xi M_X3_readFrom 0 [(0, .ref o0), (1, .int x1)] [] S kc nc P := by
  have hA : Af E [193, 194, 195, 196, 197, 198, 199, 200, 201, 202, 203, 204] S S := af_rf
  refine tt_aload_n (j := 0) dX3_readFrom_0 rfl ?_
  refine tt_iload_n (j := 1) dX3_readFrom_1 rfl ?_
  refine gt_pI (id := 193) (x := x1) dX3_readFrom_2 fl_3_15 rfl rfl h0 hA rfl rfl rfl (gp_I hG) (by decide) (fun h => absurd h (by decide)) (fun h => absurd h (by decide)) (fun S101 hG102 hA103 e104 f105 er106 => ?_)
  refine tt_aload_n (j := 0) dX3_readFrom_5 rfl ?_
  refine tt_iconst (v := 0) dX3_readFrom_6 rfl ?_
  refine gt_pI (id := 194) (x := 0) dX3_readFrom_7 fl_3_19 rfl rfl h0 hA103 rfl rfl rfl (gp_I hG102) (by decide) (fun h => absurd h (by decide)) (fun h => absurd h (by decide)) (fun S107 hG108 hA109 e110 f111 er112 => ?_)
  refine tt_aload_n (j := 0) dX3_readFrom_10 rfl ?_
  refine tt_iconst (v := 1) dX3_readFrom_11 rfl ?_
  refine gt_pI (id := 195) (x := 1) dX3_readFrom_12 fl_3_22 rfl rfl h0 hA109 rfl rfl rfl (gp_Ir hG108 (⟨by decide, by decide⟩ : Rg 1 1 1)) (by decide) (fun h => absurd h (by decide)) (fun h => absurd h (by decide)) (fun S113 hG114 hA115 e116 f117 er118 => ?_)
  refine tt_aload_n (j := 0) dX3_readFrom_15 rfl ?_
  refine tt_bipush (v := 21) dX3_readFrom_16 rfl ?_
  refine gt_Vv (As := [.int 21]) dX3_readFrom_18 ca_X3_26 ⟨by decide, by decide⟩ h0 hA115 rfl (Nat.le_of_ble_eq_true rfl) (Nat.le_of_ble_eq_true rfl) (by decide) (ce_X3_becomePlain hG114 (oa_af h0 hA115) (bc_af hb h0 hA115) (fun _ _ _ _ h => h)) rfl (fun _ h => nomatch h) (fun S119 hx123 hG120 hB121 hA122 => ?_)
  obtain ⟨d124, hd125⟩ : ∃ q, q = F_X3_becomePlain bs n (x1, 0, 1, (e3 (StC S o0)), (e4 (StC S o0)), (e5 (StC S o0)), (e6 (StC S o0)), (e7 (StC S o0)), (e8 (StC S o0)), (e9 (StC S o0)), (e10 (StC S o0)), (e11 (StC S o0)), (eJ (StC S o0))) (21) := ⟨_, rfl⟩
  have hq126 := (congrArg (fun q => F_X3_becomePlain bs n q (21)) (stC_mk ((congrFun (congrFun e116 193) o0).trans ((congrFun (up2_ne (k := 193)) o0).trans ((congrFun (congrFun e110 193) o0).trans ((congrFun (up2_ne (k := 193)) o0).trans (by rw [e104]; exact up2_self))))) ((congrFun (congrFun e116 194) o0).trans ((congrFun (up2_ne (k := 194)) o0).trans (by rw [e110]; exact up2_self))) (by rw [e116]; exact up2_self) ((congrFun (congrFun e116 196) o0).trans ((congrFun (up2_ne (k := 196)) o0).trans ((congrFun (congrFun e110 196) o0).trans ((congrFun (up2_ne (k := 196)) o0).trans ((congrFun (congrFun e104 196) o0).trans ((congrFun (up2_ne (k := 196)) o0).trans (sC_196 (T := S) (o := o0) rfl))))))) ((congrFun (congrFun e116 197) o0).trans ((congrFun (up2_ne (k := 197)) o0).trans ((congrFun (congrFun e110 197) o0).trans ((congrFun (up2_ne (k := 197)) o0).trans ((congrFun (congrFun e104 197) o0).trans ((congrFun (up2_ne (k := 197)) o0).trans (sC_197 (T := S) (o := o0) rfl))))))) ((congrFun (congrFun e116 198) o0).trans ((congrFun (up2_ne (k := 198)) o0).trans ((congrFun (congrFun e110 198) o0).trans ((congrFun (up2_ne (k := 198)) o0).trans ((congrFun (congrFun e104 198) o0).trans ((congrFun (up2_ne (k := 198)) o0).trans (sC_198 (T := S) (o := o0) rfl))))))) ((congrFun (congrFun e116 199) o0).trans ((congrFun (up2_ne (k := 199)) o0).trans ((congrFun (congrFun e110 199) o0).trans ((congrFun (up2_ne (k := 199)) o0).trans ((congrFun (congrFun e104 199) o0).trans ((congrFun (up2_ne (k := 199)) o0).trans (sC_199 (T := S) (o := o0) rfl))))))) ((congrFun (congrFun e116 200) o0).trans ((congrFun (up2_ne (k := 200)) o0).trans ((congrFun (congrFun e110 200) o0).trans ((congrFun (up2_ne (k := 200)) o0).trans ((congrFun (congrFun e104 200) o0).trans ((congrFun (up2_ne (k := 200)) o0).trans (sC_200 (T := S) (o := o0) rfl))))))) ((congrFun (congrFun e116 201) o0).trans ((congrFun (up2_ne (k := 201)) o0).trans ((congrFun (congrFun e110 201) o0).trans ((congrFun (up2_ne (k := 201)) o0).trans ((congrFun (congrFun e104 201) o0).trans ((congrFun (up2_ne (k := 201)) o0).trans (sC_201 (T := S) (o := o0) rfl))))))) ((congrFun (congrFun e116 202) o0).trans ((congrFun (up2_ne (k := 202)) o0).trans ((congrFun (congrFun e110 202) o0).trans ((congrFun (up2_ne (k := 202)) o0).trans ((congrFun (congrFun e104 202) o0).trans ((congrFun (up2_ne (k := 202)) o0).trans (sC_202 (T := S) (o := o0) rfl))))))) ((congrFun (congrFun e116 203) o0).trans ((congrFun (up2_ne (k := 203)) o0).trans ((congrFun (congrFun e110 203) o0).trans ((congrFun (up2_ne (k := 203)) o0).trans ((congrFun (congrFun e104 203) o0).trans ((congrFun (up2_ne (k := 203)) o0).trans (sC_203 (T := S) (o := o0) rfl))))))) ((congrFun (congrFun e116 204) o0).trans ((congrFun (up2_ne (k := 204)) o0).trans ((congrFun (congrFun e110 204) o0).trans ((congrFun (up2_ne (k := 204)) o0).trans ((congrFun (congrFun e104 204) o0).trans ((congrFun (up2_ne (k := 204)) o0).trans (sC_204 (T := S) (o := o0) rfl))))))) ((congrFun (congrFun f117 205) o0).trans ((congrFun (congrFun f111 205) o0).trans ((congrFun (congrFun f105 205) o0).trans (sC_205 (T := S) (o := o0) rfl)))))).trans hd125.symm
  have hs127 := hx123.trans hq126
  refine tt_aload_n (j := 0) dX3_readFrom_21 rfl ?_
  refine gt_VI (As := []) dX3_readFrom_22 ca_X3_30 ⟨by decide, by decide⟩ h0 hA122 rfl (Nat.le_of_ble_eq_true rfl) (Nat.le_of_ble_eq_true rfl) (by decide) (ce_X3_nextByte hG120 (oa_af h0 hA122) (bc_af hb h0 hA122) (fun _ _ _ _ h => h)) rfl (fun _ h => nomatch h) (fun S128 x137 h138 hx132 hG129 hB130 hA131 => ?_)
  obtain ⟨d133, hd134⟩ : ∃ q, q = F_X3_nextByte bs n d124  := ⟨_, rfl⟩
  have hq135 := (congrArg (fun q => F_X3_nextByte bs n q ) (stC_mk (sC_193 hs127) (sC_194 hs127) (sC_195 hs127) (sC_196 hs127) (sC_197 hs127) (sC_198 hs127) (sC_199 hs127) (sC_200 hs127) (sC_201 hs127) (sC_202 hs127) (sC_203 hs127) (sC_204 hs127) (sC_205 hs127))).trans hd134.symm
  have hs136 := hx132.2.trans (congrArg Prod.fst hq135)
  obtain rfl : x137 = d133.2 := (xiC_v hx132).trans (congrArg Prod.snd hq135)
  refine tt_istore_n (ks := [0, 1, 2]) (L' := [(2, .int d133.2), (0, .ref o0), (1, .int x1)]) dX3_readFrom_25 (by decide) rfl ?_
  refine tt_iload_n (j := 0) dX3_readFrom_26 rfl ?_
  refine tt_sipush (v := 242) dX3_readFrom_27 rfl ?_
  refine tt_iand dX3_readFrom_30 ?_
  refine tt_bipush (v := 64) dX3_readFrom_31 rfl ?_
  refine tt_icmp_ne (tgt := 46) dX3_readFrom_33 rfl (fun q139 => ?_) (fun q139 => ?_)
  · skip
    have hF : F_X3_readFrom bs n (StC S o0) x1 = F_X3_readFrom_p46 bs n d133.1 (x1) (d133.2) := by
      subst hd134
      subst hd125
      unfold F_X3_readFrom
      dsimp only
      rw [if_neg q139]
    exact tt_loc (ks := [1, 2, 0]) rfl (ce_X3_readFrom_p46 hG129 (oa_af h0 hA131) (bc_af hb h0 hA131) (fun r T x y h => hP r T x y (pv_tr hA131 h (by decide) (fun v T e => e.trans ((congrArg (fun q => F_X3_readFrom_p46 bs n q (x1) (d133.2)) (stC_mk (sC_193 hs136) (sC_194 hs136) (sC_195 hs136) (sC_196 hs136) (sC_197 hs136) (sC_198 hs136) (sC_199 hs136) (sC_200 hs136) (sC_201 hs136) (sC_202 hs136) (sC_203 hs136) (sC_204 hs136) (sC_205 hs136))).trans hF.symm)))))
  · skip
    have h140 : Rg 64 64 (d133.2 &&& 242) := rg_eq_l (rg_and (x := d133.2) (⟨by decide, by decide⟩ : Rg 242 242 242)) (⟨by decide, by decide⟩ : Rg 64 64 64) q139
    refine tt_aload_n (j := 1) dX3_readFrom_36 rfl ?_
    refine tt_iload_n (j := 0) dX3_readFrom_37 rfl ?_
    refine gt_pI (id := 194) (x := d133.2) dX3_readFrom_38 fl_3_19 rfl rfl h0 hA131 rfl rfl rfl (gp_I hG129) (by decide) (fun h => absurd h (by decide)) (fun h => absurd h (by decide)) (fun S141 hG142 hA143 e144 f145 er146 => ?_)
    refine tt_aload_n (j := 1) dX3_readFrom_41 rfl ?_
    refine gt_VI (As := []) dX3_readFrom_42 ca_X3_30 ⟨by decide, by decide⟩ h0 hA143 rfl (Nat.le_of_ble_eq_true rfl) (Nat.le_of_ble_eq_true rfl) (by decide) (ce_X3_nextByte hG142 (oa_af h0 hA143) (bc_af hb h0 hA143) (fun _ _ _ _ h => h)) rfl (fun _ h => nomatch h) (fun S147 x156 h157 hx151 hG148 hB149 hA150 => ?_)
    obtain ⟨d152, hd153⟩ : ∃ q, q = F_X3_nextByte bs n ((e0 d133.1), d133.2, (e2 d133.1), (e3 d133.1), (e4 d133.1), (e5 d133.1), (e6 d133.1), (e7 d133.1), (e8 d133.1), (e9 d133.1), (e10 d133.1), (e11 d133.1), (eJ d133.1))  := ⟨_, rfl⟩
    have hq154 := (congrArg (fun q => F_X3_nextByte bs n q ) (stC_mk ((congrFun (congrFun e144 193) o0).trans ((congrFun (up2_ne (k := 193)) o0).trans (sC_193 hs136))) (by rw [e144]; exact up2_self) ((congrFun (congrFun e144 195) o0).trans ((congrFun (up2_ne (k := 195)) o0).trans (sC_195 hs136))) ((congrFun (congrFun e144 196) o0).trans ((congrFun (up2_ne (k := 196)) o0).trans (sC_196 hs136))) ((congrFun (congrFun e144 197) o0).trans ((congrFun (up2_ne (k := 197)) o0).trans (sC_197 hs136))) ((congrFun (congrFun e144 198) o0).trans ((congrFun (up2_ne (k := 198)) o0).trans (sC_198 hs136))) ((congrFun (congrFun e144 199) o0).trans ((congrFun (up2_ne (k := 199)) o0).trans (sC_199 hs136))) ((congrFun (congrFun e144 200) o0).trans ((congrFun (up2_ne (k := 200)) o0).trans (sC_200 hs136))) ((congrFun (congrFun e144 201) o0).trans ((congrFun (up2_ne (k := 201)) o0).trans (sC_201 hs136))) ((congrFun (congrFun e144 202) o0).trans ((congrFun (up2_ne (k := 202)) o0).trans (sC_202 hs136))) ((congrFun (congrFun e144 203) o0).trans ((congrFun (up2_ne (k := 203)) o0).trans (sC_203 hs136))) ((congrFun (congrFun e144 204) o0).trans ((congrFun (up2_ne (k := 204)) o0).trans (sC_204 hs136))) ((congrFun (congrFun f145 205) o0).trans (sC_205 hs136)))).trans hd153.symm
    have hs155 := hx151.2.trans (congrArg Prod.fst hq154)
    obtain rfl : x156 = d152.2 := (xiC_v hx151).trans (congrArg Prod.snd hq154)
    refine tt_istore_n (ks := [0, 1, 2]) (L' := [(2, .int d152.2), (0, .ref o0), (1, .int x1)]) dX3_readFrom_45 (by decide) rfl ?_
    have hF : F_X3_readFrom bs n (StC S o0) x1 = F_X3_readFrom_p46 bs n d152.1 (x1) (d152.2) := by
      subst hd153
      subst hd134
      subst hd125
      unfold F_X3_readFrom
      dsimp only
      rw [if_pos q139]
    exact tt_loc (ks := [1, 2, 0]) rfl (ce_X3_readFrom_p46 hG148 (oa_af h0 hA150) (bc_af hb h0 hA150) (fun r T x y h => hP r T x y (pv_tr hA150 h (by decide) (fun v T e => e.trans ((congrArg (fun q => F_X3_readFrom_p46 bs n q (x1) (d152.2)) (stC_mk (sC_193 hs155) (sC_194 hs155) (sC_195 hs155) (sC_196 hs155) (sC_197 hs155) (sC_198 hs155) (sC_199 hs155) (sC_200 hs155) (sC_201 hs155) (sC_202 hs155) (sC_203 hs155) (sC_204 hs155) (sC_205 hs155))).trans hF.symm)))))
def F_X3_tell (bs : Nat → Int32) (n : Int32) (d : DD) (x1 : Int32) : DD × Int32 :=
  if (e7 d) = (-1) then
    (d, (-1))
  else
    if x1 = 0 then
      (d, (e6 d))
    else
      if x1 = 1 then
        (d, (e7 d))
      else
        if x1 = 2 then
          (d, (e8 d))
        else
          if x1 = 3 then
            (d, (e9 d))
          else
            if x1 = 4 then
              (d, (e10 d))
            else
              (d, (e11 d))
set_option maxHeartbeats 2000000 in
theorem ce_X3_tell {xi : SX} {S : Hp} {E : List Nat} {kc nc : Nat} {P : Po} {o0 : Nat} {x1 : Int32} {bs : Nat → Int32} {n : Int32} (hG : GI S E) (h0 : Oa S E 3 0 o0) (hb : BC S E o0 bs n) (hP : ∀ r T x y, PV E [] S kc nc (rI (-2147483648) 2147483647) (fun v T => XIC (F_X3_tell bs n (StC S o0) x1) T o0 v) [] r T x y → P r T x y) : TT xi M_X3_tell 0 [(0, .ref o0), (1, .int x1)] [] S kc nc P := by
  have hA : Af E [] S S := af_rf
  refine tt_aload_n (j := 0) dX3_tell_0 rfl ?_
  refine gt_gI (id := 200) (v := (e7 (StC S o0))) dX3_tell_1 fl_3_54 rfl rfl h0 hA (sC_200 (T := S) (o := o0) rfl) ?_
  refine tt_iconst (v := (-1)) dX3_tell_4 rfl ?_
  refine tt_icmp_ne (tgt := 10) dX3_tell_5 rfl (fun q101 => ?_) (fun q101 => ?_)
  · skip
    refine tt_iload_n (j := 1) dX3_tell_10 rfl ?_
    refine gt_by (c := x1 = 0) (fun q102 => ?_) (fun q102 => ?_)
    · skip
      refine gt_tseq (off := 33) (tgt := 44) 0 0 dX3_tell_11 q102 rfl (by decide) (by decide) rfl rfl ?_
      refine tt_aload_n (j := 0) dX3_tell_44 rfl ?_
      refine gt_gI (id := 199) (v := (e6 (StC S o0))) dX3_tell_45 fl_3_51 rfl rfl h0 hA (sC_199 (T := S) (o := o0) rfl) ?_
      have hF : F_X3_tell bs n (StC S o0) x1 = ((StC S o0), (e6 (StC S o0))) := by
        unfold F_X3_tell
        rw [if_neg q101, if_pos q102]
      exact tt_ireturn dX3_tell_48 .int rfl rfl (hP _ _ _ _ ⟨hG, hA, Or.inl ⟨_, rfl, ⟨_, rfl, rg_w (rg_all (e6 (StC S o0)))⟩, xiC_mk hF (stC_mk (sC_193 (T := S) (o := o0) rfl) (sC_194 (T := S) (o := o0) rfl) (sC_195 (T := S) (o := o0) rfl) (sC_196 (T := S) (o := o0) rfl) (sC_197 (T := S) (o := o0) rfl) (sC_198 (T := S) (o := o0) rfl) (sC_199 (T := S) (o := o0) rfl) (sC_200 (T := S) (o := o0) rfl) (sC_201 (T := S) (o := o0) rfl) (sC_202 (T := S) (o := o0) rfl) (sC_203 (T := S) (o := o0) rfl) (sC_204 (T := S) (o := o0) rfl) (sC_205 (T := S) (o := o0) rfl)), rfl, rfl⟩⟩)
    refine gt_by (c := x1 = 1) (fun q103 => ?_) (fun q103 => ?_)
    · skip
      refine gt_tseq (off := 38) (tgt := 49) 1 1 dX3_tell_11 q103 rfl (by decide) (by decide) rfl rfl ?_
      refine tt_aload_n (j := 0) dX3_tell_49 rfl ?_
      refine gt_gI (id := 200) (v := (e7 (StC S o0))) dX3_tell_50 fl_3_54 rfl rfl h0 hA (sC_200 (T := S) (o := o0) rfl) ?_
      have hF : F_X3_tell bs n (StC S o0) x1 = ((StC S o0), (e7 (StC S o0))) := by
        unfold F_X3_tell
        rw [if_neg q101, if_neg q102, if_pos q103]
      exact tt_ireturn dX3_tell_53 .int rfl rfl (hP _ _ _ _ ⟨hG, hA, Or.inl ⟨_, rfl, ⟨_, rfl, rg_w (rg_all (e7 (StC S o0)))⟩, xiC_mk hF (stC_mk (sC_193 (T := S) (o := o0) rfl) (sC_194 (T := S) (o := o0) rfl) (sC_195 (T := S) (o := o0) rfl) (sC_196 (T := S) (o := o0) rfl) (sC_197 (T := S) (o := o0) rfl) (sC_198 (T := S) (o := o0) rfl) (sC_199 (T := S) (o := o0) rfl) (sC_200 (T := S) (o := o0) rfl) (sC_201 (T := S) (o := o0) rfl) (sC_202 (T := S) (o := o0) rfl) (sC_203 (T := S) (o := o0) rfl) (sC_204 (T := S) (o := o0) rfl) (sC_205 (T := S) (o := o0) rfl)), rfl, rfl⟩⟩)
    refine gt_by (c := x1 = 2) (fun q104 => ?_) (fun q104 => ?_)
    · skip
      refine gt_tseq (off := 43) (tgt := 54) 2 2 dX3_tell_11 q104 rfl (by decide) (by decide) rfl rfl ?_
      refine tt_aload_n (j := 0) dX3_tell_54 rfl ?_
      refine gt_gI (id := 201) (v := (e8 (StC S o0))) dX3_tell_55 fl_3_34 rfl rfl h0 hA (sC_201 (T := S) (o := o0) rfl) ?_
      have hF : F_X3_tell bs n (StC S o0) x1 = ((StC S o0), (e8 (StC S o0))) := by
        unfold F_X3_tell
        rw [if_neg q101, if_neg q102, if_neg q103, if_pos q104]
      exact tt_ireturn dX3_tell_58 .int rfl rfl (hP _ _ _ _ ⟨hG, hA, Or.inl ⟨_, rfl, ⟨_, rfl, rg_w (rg_all (e8 (StC S o0)))⟩, xiC_mk hF (stC_mk (sC_193 (T := S) (o := o0) rfl) (sC_194 (T := S) (o := o0) rfl) (sC_195 (T := S) (o := o0) rfl) (sC_196 (T := S) (o := o0) rfl) (sC_197 (T := S) (o := o0) rfl) (sC_198 (T := S) (o := o0) rfl) (sC_199 (T := S) (o := o0) rfl) (sC_200 (T := S) (o := o0) rfl) (sC_201 (T := S) (o := o0) rfl) (sC_202 (T := S) (o := o0) rfl) (sC_203 (T := S) (o := o0) rfl) (sC_204 (T := S) (o := o0) rfl) (sC_205 (T := S) (o := o0) rfl)), rfl, rfl⟩⟩)
    refine gt_by (c := x1 = 3) (fun q105 => ?_) (fun q105 => ?_)
    · skip
      refine gt_tseq (off := 48) (tgt := 59) 3 3 dX3_tell_11 q105 rfl (by decide) (by decide) rfl rfl ?_
      refine tt_aload_n (j := 0) dX3_tell_59 rfl ?_
      refine gt_gI (id := 202) (v := (e9 (StC S o0))) dX3_tell_60 fl_3_64 rfl rfl h0 hA (sC_202 (T := S) (o := o0) rfl) ?_
      have hF : F_X3_tell bs n (StC S o0) x1 = ((StC S o0), (e9 (StC S o0))) := by
        unfold F_X3_tell
        rw [if_neg q101, if_neg q102, if_neg q103, if_neg q104, if_pos q105]
      exact tt_ireturn dX3_tell_63 .int rfl rfl (hP _ _ _ _ ⟨hG, hA, Or.inl ⟨_, rfl, ⟨_, rfl, rg_w (rg_all (e9 (StC S o0)))⟩, xiC_mk hF (stC_mk (sC_193 (T := S) (o := o0) rfl) (sC_194 (T := S) (o := o0) rfl) (sC_195 (T := S) (o := o0) rfl) (sC_196 (T := S) (o := o0) rfl) (sC_197 (T := S) (o := o0) rfl) (sC_198 (T := S) (o := o0) rfl) (sC_199 (T := S) (o := o0) rfl) (sC_200 (T := S) (o := o0) rfl) (sC_201 (T := S) (o := o0) rfl) (sC_202 (T := S) (o := o0) rfl) (sC_203 (T := S) (o := o0) rfl) (sC_204 (T := S) (o := o0) rfl) (sC_205 (T := S) (o := o0) rfl)), rfl, rfl⟩⟩)
    refine gt_by (c := x1 = 4) (fun q106 => ?_) (fun q106 => ?_)
    · skip
      refine gt_tseq (off := 53) (tgt := 64) 4 4 dX3_tell_11 q106 rfl (by decide) (by decide) rfl rfl ?_
      refine tt_aload_n (j := 0) dX3_tell_64 rfl ?_
      refine gt_gI (id := 203) (v := (e10 (StC S o0))) dX3_tell_65 fl_3_67 rfl rfl h0 hA (sC_203 (T := S) (o := o0) rfl) ?_
      have hF : F_X3_tell bs n (StC S o0) x1 = ((StC S o0), (e10 (StC S o0))) := by
        unfold F_X3_tell
        rw [if_neg q101, if_neg q102, if_neg q103, if_neg q104, if_neg q105, if_pos q106]
      exact tt_ireturn dX3_tell_68 .int rfl rfl (hP _ _ _ _ ⟨hG, hA, Or.inl ⟨_, rfl, ⟨_, rfl, rg_w (rg_all (e10 (StC S o0)))⟩, xiC_mk hF (stC_mk (sC_193 (T := S) (o := o0) rfl) (sC_194 (T := S) (o := o0) rfl) (sC_195 (T := S) (o := o0) rfl) (sC_196 (T := S) (o := o0) rfl) (sC_197 (T := S) (o := o0) rfl) (sC_198 (T := S) (o := o0) rfl) (sC_199 (T := S) (o := o0) rfl) (sC_200 (T := S) (o := o0) rfl) (sC_201 (T := S) (o := o0) rfl) (sC_202 (T := S) (o := o0) rfl) (sC_203 (T := S) (o := o0) rfl) (sC_204 (T := S) (o := o0) rfl) (sC_205 (T := S) (o := o0) rfl)), rfl, rfl⟩⟩)
    have g107 := ne_i (k := 0) 0 q102 rfl
    have g108 := ne_i (k := 1) 1 q103 rfl
    have g109 := ne_i (k := 2) 2 q104 rfl
    have g110 := ne_i (k := 3) 3 q105 rfl
    have g111 := ne_i (k := 4) 4 q106 rfl
    refine tt_tableOut (tgt := 69) dX3_tell_11 (by omega) rfl ?_
    refine tt_aload_n (j := 0) dX3_tell_69 rfl ?_
    refine gt_gI (id := 204) (v := (e11 (StC S o0))) dX3_tell_70 fl_3_70 rfl rfl h0 hA (sC_204 (T := S) (o := o0) rfl) ?_
    have hF : F_X3_tell bs n (StC S o0) x1 = ((StC S o0), (e11 (StC S o0))) := by
      unfold F_X3_tell
      rw [if_neg q101, if_neg q102, if_neg q103, if_neg q104, if_neg q105, if_neg q106]
    exact tt_ireturn dX3_tell_73 .int rfl rfl (hP _ _ _ _ ⟨hG, hA, Or.inl ⟨_, rfl, ⟨_, rfl, rg_w (rg_all (e11 (StC S o0)))⟩, xiC_mk hF (stC_mk (sC_193 (T := S) (o := o0) rfl) (sC_194 (T := S) (o := o0) rfl) (sC_195 (T := S) (o := o0) rfl) (sC_196 (T := S) (o := o0) rfl) (sC_197 (T := S) (o := o0) rfl) (sC_198 (T := S) (o := o0) rfl) (sC_199 (T := S) (o := o0) rfl) (sC_200 (T := S) (o := o0) rfl) (sC_201 (T := S) (o := o0) rfl) (sC_202 (T := S) (o := o0) rfl) (sC_203 (T := S) (o := o0) rfl) (sC_204 (T := S) (o := o0) rfl) (sC_205 (T := S) (o := o0) rfl)), rfl, rfl⟩⟩)
  · skip
    have h112 : Rg (-1) (-1) (e7 (StC S o0)) := rg_eq_l (rg_all (e7 (StC S o0))) (⟨by decide, by decide⟩ : Rg (-1) (-1) (-1)) q101
    refine tt_iconst (v := (-1)) dX3_tell_8 rfl ?_
    have hF : F_X3_tell bs n (StC S o0) x1 = ((StC S o0), (-1)) := by
      unfold F_X3_tell
      rw [if_pos q101]
    exact tt_ireturn dX3_tell_9 .int rfl rfl (hP _ _ _ _ ⟨hG, hA, Or.inl ⟨_, rfl, ⟨_, rfl, rg_w (⟨by decide, by decide⟩ : Rg (-1) (-1) (-1))⟩, xiC_mk hF (stC_mk (sC_193 (T := S) (o := o0) rfl) (sC_194 (T := S) (o := o0) rfl) (sC_195 (T := S) (o := o0) rfl) (sC_196 (T := S) (o := o0) rfl) (sC_197 (T := S) (o := o0) rfl) (sC_198 (T := S) (o := o0) rfl) (sC_199 (T := S) (o := o0) rfl) (sC_200 (T := S) (o := o0) rfl) (sC_201 (T := S) (o := o0) rfl) (sC_202 (T := S) (o := o0) rfl) (sC_203 (T := S) (o := o0) rfl) (sC_204 (T := S) (o := o0) rfl) (sC_205 (T := S) (o := o0) rfl)), rfl, rfl⟩⟩)
