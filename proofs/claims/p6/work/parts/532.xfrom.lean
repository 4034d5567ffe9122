def F_X3_readFrom_p217 (bs : Nat → Int32) (n : Int32) (d : DD) : DD :=
  if (e2 d) = 0 then
    let d108 := F_X3_becomePlain bs n d ((-1))
    d108
  else
    let d118 := F_X3_isFrameChanged bs n d 
    if d118.2 = 0 then
      let d141 := F_X3_isCarryArithmetic bs n d118.1 
      if d141.2 = 0 then
        d141.1
      else
        let d155 := F_X3_becomePlain bs n d141.1 ((-1))
        d155
    else
      let d131 := F_X3_becomePlain bs n d118.1 ((-1))
      d131
theorem q_X3_readFrom_p217_0 {bs : Nat → Int32} {n : Int32} {d : DD} (h0 : (e2 d) = 0) : F_X3_readFrom_p217 bs n d  = (F_X3_becomePlain bs n d ((-1))) := by unfold F_X3_readFrom_p217; exact if_pos h0
theorem q_X3_readFrom_p217_1 {bs : Nat → Int32} {n : Int32} {d : DD} (h0 : ¬ (e2 d) = 0) (h1 : (F_X3_isFrameChanged bs n d).2 = 0) (h2 : (F_X3_isCarryArithmetic bs n (F_X3_isFrameChanged bs n d).1).2 = 0) : F_X3_readFrom_p217 bs n d  = (F_X3_isCarryArithmetic bs n (F_X3_isFrameChanged bs n d).1).1 := by unfold F_X3_readFrom_p217; exact Eq.trans (if_neg h0) (Eq.trans (if_pos h1) (if_pos h2))
theorem q_X3_readFrom_p217_2 {bs : Nat → Int32} {n : Int32} {d : DD} (h0 : ¬ (e2 d) = 0) (h1 : (F_X3_isFrameChanged bs n d).2 = 0) (h2 : ¬ (F_X3_isCarryArithmetic bs n (F_X3_isFrameChanged bs n d).1).2 = 0) : F_X3_readFrom_p217 bs n d  = (F_X3_becomePlain bs n (F_X3_isCarryArithmetic bs n (F_X3_isFrameChanged bs n d).1).1 ((-1))) := by unfold F_X3_readFrom_p217; exact Eq.trans (if_neg h0) (Eq.trans (if_pos h1) (if_neg h2))
theorem q_X3_readFrom_p217_3 {bs : Nat → Int32} {n : Int32} {d : DD} (h0 : ¬ (e2 d) = 0) (h1 : ¬ (F_X3_isFrameChanged bs n d).2 = 0) : F_X3_readFrom_p217 bs n d  = (F_X3_becomePlain bs n (F_X3_isFrameChanged bs n d).1 ((-1))) := by unfold F_X3_readFrom_p217; exact Eq.trans (if_neg h0) (if_neg h1)
set_option maxHeartbeats 40000000 in
theorem ce_X3_readFrom_p217 {xi : SX} {S : Hp} {E : List Nat} {kc nc : Nat} {P : Po} {o0 : Nat} {bs : Nat → Int32} {n : Int32} (hG : GI S E) (h0 : Oa S E 3 0 o0) (hb : BC S E o0 bs n) (hP : ∀ r T x y, PV E [200, 202, 203, 204] S kc nc rV (fun v T => StC T o0 = F_X3_readFrom_p217 bs n (StC S o0) ) [] r T x y → P r T x y) : TT xi M_X3_readFrom 217 [(0, .ref o0)] [] S kc nc P := by
  have hA : Af E [200, 202, 203, 204] S S := af_rf
  refine tt_aload_n (j := 0) dX3_readFrom_217 rfl ?_
  refine gt_gI (id := 195) (v := (e2 (StC S o0))) dX3_readFrom_218 fl_3_22 rfl rfl h0 hA (sC_195 (T := S) (o := o0) rfl) ?_
  refine tt_if_eq (tgt := 238) dX3_readFrom_221 rfl (fun q101 => ?_) (fun q101 => ?_)
  · skip
    have h102 : Rg 0 0 (e2 (StC S o0)) := rg_eq_l (gi_I (k := 195) hG h0 0 1) (⟨by decide, by decide⟩ : Rg 0 0 0) q101
    refine tt_aload_n (j := 0) dX3_readFrom_238 rfl ?_
    refine tt_iconst (v := (-1)) dX3_readFrom_239 rfl ?_
    refine gt_Vv (As := [.int (-1)]) dX3_readFrom_240 ca_X3_26 ⟨by decide, by decide⟩ h0 hA rfl (Nat.le_of_ble_eq_true rfl) (Nat.le_of_ble_eq_true rfl) (by decide) (ce_X3_becomePlain hG (oa_af h0 hA) (bc_af hb h0 hA) (fun _ _ _ _ h => h)) rfl (fun _ h => nomatch h) (fun S103 hx107 hG104 hB105 hA106 => ?_)
    obtain ⟨d108, hd109⟩ : ∃ q, q = F_X3_becomePlain bs n (StC S o0) ((-1)) := ⟨_, rfl⟩
    have hq110 := (congrArg (fun q => F_X3_becomePlain bs n q ((-1))) (stC_mk (sC_193 (T := S) (o := o0) rfl) (sC_194 (T := S) (o := o0) rfl) (sC_195 (T := S) (o := o0) rfl) (sC_196 (T := S) (o := o0) rfl) (sC_197 (T := S) (o := o0) rfl) (sC_198 (T := S) (o := o0) rfl) (sC_199 (T := S) (o := o0) rfl) (sC_200 (T := S) (o := o0) rfl) (sC_201 (T := S) (o := o0) rfl) (sC_202 (T := S) (o := o0) rfl) (sC_203 (T := S) (o := o0) rfl) (sC_204 (T := S) (o := o0) rfl) (sC_205 (T := S) (o := o0) rfl))).trans hd109.symm
    have hs111 := hx107.trans hq110
    have hF : F_X3_readFrom_p217 bs n (StC S o0)  = d108 := by
      subst hd109
      exact q_X3_readFrom_p217_0 q101
    exact tt_vreturn dX3_readFrom_243 rfl (hP _ _ _ _ ⟨hG104, hA106, Or.inl ⟨_, rfl, rfl, Eq.trans (stC_mk (sC_193 hs111) (sC_194 hs111) (sC_195 hs111) (sC_196 hs111) (sC_197 hs111) (sC_198 hs111) (sC_199 hs111) (sC_200 hs111) (sC_201 hs111) (sC_202 hs111) (sC_203 hs111) (sC_204 hs111) (sC_205 hs111)) hF.symm, rfl, rfl⟩⟩)
  · skip
    have h112 : Rg 1 1 (e2 (StC S o0)) := rg_ne_lo (gi_I (k := 195) hG h0 0 1) (⟨by decide, by decide⟩ : Rg 0 0 0) q101
    refine tt_aload_n (j := 0) dX3_readFrom_224 rfl ?_
    refine gt_VI (As := []) dX3_readFrom_225 ca_X3_57 ⟨by decide, by decide⟩ h0 hA rfl (Nat.le_of_ble_eq_true rfl) (Nat.le_of_ble_eq_true rfl) (by decide) (ce_X3_isFrameChanged hG (oa_af h0 hA) (bc_af hb h0 hA) (fun _ _ _ _ h => h)) rfl (fun _ h => nomatch h) (fun S113 x122 h123 hx117 hG114 hB115 hA116 => ?_)
    obtain ⟨d118, hd119⟩ : ∃ q, q = F_X3_isFrameChanged bs n (StC S o0)  := ⟨_, rfl⟩
    have hq120 := (congrArg (fun q => F_X3_isFrameChanged bs n q ) (stC_mk (sC_193 (T := S) (o := o0) rfl) (sC_194 (T := S) (o := o0) rfl) (sC_195 (T := S) (o := o0) rfl) (sC_196 (T := S) (o := o0) rfl) (sC_197 (T := S) (o := o0) rfl) (sC_198 (T := S) (o := o0) rfl) (sC_199 (T := S) (o := o0) rfl) (sC_200 (T := S) (o := o0) rfl) (sC_201 (T := S) (o := o0) rfl) (sC_202 (T := S) (o := o0) rfl) (sC_203 (T := S) (o := o0) rfl) (sC_204 (T := S) (o := o0) rfl) (sC_205 (T := S) (o := o0) rfl))).trans hd119.symm
    have hs121 := hx117.2.trans (congrArg Prod.fst hq120)
    obtain rfl : x122 = d118.2 := (xiC_v hx117).trans (congrArg Prod.snd hq120)
    refine tt_if_ne (tgt := 238) dX3_readFrom_228 rfl (fun q124 => ?_) (fun q124 => ?_)
    · skip
      have h125 : Rg 1 1 d118.2 := rg_ne_lo h123 (⟨by decide, by decide⟩ : Rg 0 0 0) q124
      refine tt_aload_n (j := 0) dX3_readFrom_238 rfl ?_
      refine tt_iconst (v := (-1)) dX3_readFrom_239 rfl ?_
      refine gt_Vv (As := [.int (-1)]) dX3_readFrom_240 ca_X3_26 ⟨by decide, by decide⟩ h0 hA116 rfl (Nat.le_of_ble_eq_true rfl) (Nat.le_of_ble_eq_true rfl) (by decide) (ce_X3_becomePlain hG114 (oa_af h0 hA116) (bc_af hb h0 hA116) (fun _ _ _ _ h => h)) rfl (fun _ h => nomatch h) (fun S126 hx130 hG127 hB128 hA129 => ?_)
      obtain ⟨d131, hd132⟩ : ∃ q, q = F_X3_becomePlain bs n d118.1 ((-1)) := ⟨_, rfl⟩
      have hq133 := (congrArg (fun q => F_X3_becomePlain bs n q ((-1))) (stC_mk (sC_193 hs121) (sC_194 hs121) (sC_195 hs121) (sC_196 hs121) (sC_197 hs121) (sC_198 hs121) (sC_199 hs121) (sC_200 hs121) (sC_201 hs121) (sC_202 hs121) (sC_203 hs121) (sC_204 hs121) (sC_205 hs121))).trans hd132.symm
      have hs134 := hx130.trans hq133
      have hF : F_X3_readFrom_p217 bs n (StC S o0)  = d131 := by
        subst hd132
        subst hd119
        exact q_X3_readFrom_p217_3 q101 q124
      exact tt_vreturn dX3_readFrom_243 rfl (hP _ _ _ _ ⟨hG127, hA129, Or.inl ⟨_, rfl, rfl, Eq.trans (stC_mk (sC_193 hs134) (sC_194 hs134) (sC_195 hs134) (sC_196 hs134) (sC_197 hs134) (sC_198 hs134) (sC_199 hs134) (sC_200 hs134) (sC_201 hs134) (sC_202 hs134) (sC_203 hs134) (sC_204 hs134) (sC_205 hs134)) hF.symm, rfl, rfl⟩⟩)
    · skip
      have h135 : Rg 0 0 d118.2 := rg_eq_l h123 (⟨by decide, by decide⟩ : Rg 0 0 0) q124
      refine tt_aload_n (j := 0) dX3_readFrom_231 rfl ?_
      refine gt_VI (As := []) dX3_readFrom_232 ca_X3_61 ⟨by decide, by decide⟩ h0 hA116 rfl (Nat.le_of_ble_eq_true rfl) (Nat.le_of_ble_eq_true rfl) (by decide) (ce_X3_isCarryArithmetic hG114 (oa_af h0 hA116) (bc_af hb h0 hA116) (fun _ _ _ _ h => h)) rfl (fun _ h => nomatch h) (fun S136 x145 h146 hx140 hG137 hB138 hA139 => ?_)
      obtain ⟨d141, hd142⟩ : ∃ q, q = F_X3_isCarryArithmetic bs n d118.1  := ⟨_, rfl⟩
      have hq143 := (congrArg (fun q => F_X3_isCarryArithmetic bs n q ) (stC_mk (sC_193 hs121) (sC_194 hs121) (sC_195 hs121) (sC_196 hs121) (sC_197 hs121) (sC_198 hs121) (sC_199 hs121) (sC_200 hs121) (sC_201 hs121) (sC_202 hs121) (sC_203 hs121) (sC_204 hs121) (sC_205 hs121))).trans hd142.symm
      have hs144 := hx140.2.trans (congrArg Prod.fst hq143)
      obtain rfl : x145 = d141.2 := (xiC_v hx140).trans (congrArg Prod.snd hq143)
      refine tt_if_eq (tgt := 243) dX3_readFrom_235 rfl (fun q147 => ?_) (fun q147 => ?_)
      · skip
        have h148 : Rg 0 0 d141.2 := rg_eq_l h146 (⟨by decide, by decide⟩ : Rg 0 0 0) q147
        have hF : F_X3_readFrom_p217 bs n (StC S o0)  = d141.1 := by
          subst hd142
          subst hd119
          exact q_X3_readFrom_p217_1 q101 q124 q147
        exact tt_vreturn dX3_readFrom_243 rfl (hP _ _ _ _ ⟨hG137, hA139, Or.inl ⟨_, rfl, rfl, Eq.trans (stC_mk (sC_193 hs144) (sC_194 hs144) (sC_195 hs144) (sC_196 hs144) (sC_197 hs144) (sC_198 hs144) (sC_199 hs144) (sC_200 hs144) (sC_201 hs144) (sC_202 hs144) (sC_203 hs144) (sC_204 hs144) (sC_205 hs144)) hF.symm, rfl, rfl⟩⟩)
      · skip
        have h149 : Rg 1 1 d141.2 := rg_ne_lo h146 (⟨by decide, by decide⟩ : Rg 0 0 0) q147
        refine tt_aload_n (j := 0) dX3_readFrom_238 rfl ?_
        refine tt_iconst (v := (-1)) dX3_readFrom_239 rfl ?_
        refine gt_Vv (As := [.int (-1)]) dX3_readFrom_240 ca_X3_26 ⟨by decide, by decide⟩ h0 hA139 rfl (Nat.le_of_ble_eq_true rfl) (Nat.le_of_ble_eq_true rfl) (by decide) (ce_X3_becomePlain hG137 (oa_af h0 hA139) (bc_af hb h0 hA139) (fun _ _ _ _ h => h)) rfl (fun _ h => nomatch h) (fun S150 hx154 hG151 hB152 hA153 => ?_)
        obtain ⟨d155, hd156⟩ : ∃ q, q = F_X3_becomePlain bs n d141.1 ((-1)) := ⟨_, rfl⟩
        have hq157 := (congrArg (fun q => F_X3_becomePlain bs n q ((-1))) (stC_mk (sC_193 hs144) (sC_194 hs144) (sC_195 hs144) (sC_196 hs144) (sC_197 hs144) (sC_198 hs144) (sC_199 hs144) (sC_200 hs144) (sC_201 hs144) (sC_202 hs144) (sC_203 hs144) (sC_204 hs144) (sC_205 hs144))).trans hd156.symm
        have hs158 := hx154.trans hq157
        have hF : F_X3_readFrom_p217 bs n (StC S o0)  = d155 := by
          subst hd156
          subst hd142
          subst hd119
          exact q_X3_readFrom_p217_2 q101 q124 q147
        exact tt_vreturn dX3_readFrom_243 rfl (hP _ _ _ _ ⟨hG151, hA153, Or.inl ⟨_, rfl, rfl, Eq.trans (stC_mk (sC_193 hs158) (sC_194 hs158) (sC_195 hs158) (sC_196 hs158) (sC_197 hs158) (sC_198 hs158) (sC_199 hs158) (sC_200 hs158) (sC_201 hs158) (sC_202 hs158) (sC_203 hs158) (sC_204 hs158) (sC_205 hs158)) hF.symm, rfl, rfl⟩⟩)
def F_X3_readFrom_p193 (bs : Nat → Int32) (n : Int32) (d : DD) (x1 : Int32) : DD :=
  if (e7 d) < 19 then
    F_X3_readFrom_p217 bs n ((e0 d), (e1 d), (e2 d), (e3 d), (e4 d), (e5 d), ((e0 d) - x1), (e7 d), (e8 d), (e9 d), (e10 d), (e11 d), (eJ d)) 
  else
    F_X3_readFrom_p217 bs n ((e0 d), (e1 d), (e2 d), (e3 d), (e4 d), (e5 d), ((e0 d) - x1), (e7 d), 0, (e9 d), (e10 d), (e11 d), (eJ d)) 
theorem q_X3_readFrom_p193_0 {bs : Nat → Int32} {n : Int32} {d : DD} {x1 : Int32} (h0 : (e7 d) < 19) : F_X3_readFrom_p193 bs n d x1 = F_X3_readFrom_p217 bs n ((e0 d), (e1 d), (e2 d), (e3 d), (e4 d), (e5 d), ((e0 d) - x1), (e7 d), (e8 d), (e9 d), (e10 d), (e11 d), (eJ d))  := by unfold F_X3_readFrom_p193; exact if_pos h0
theorem q_X3_readFrom_p193_1 {bs : Nat → Int32} {n : Int32} {d : DD} {x1 : Int32} (h0 : ¬ (e7 d) < 19) : F_X3_readFrom_p193 bs n d x1 = F_X3_readFrom_p217 bs n ((e0 d), (e1 d), (e2 d), (e3 d), (e4 d), (e5 d), ((e0 d) - x1), (e7 d), 0, (e9 d), (e10 d), (e11 d), (eJ d))  := by unfold F_X3_readFrom_p193; exact if_neg h0
set_option maxHeartbeats 40000000 in
theorem ce_X3_readFrom_p193 {xi : SX} {S : Hp} {E : List Nat} {kc nc : Nat} {P : Po} {o0 : Nat} {x1 : Int32} {bs : Nat → Int32} {n : Int32} (hG : GI S E) (h0 : Oa S E 3 0 o0) (hb : BC S E o0 bs n) (hP : ∀ r T x y, PV E [199, 200, 201, 202, 203, 204] S kc nc rV (fun v T => StC T o0 = F_X3_readFrom_p193 bs n (StC S o0) x1) [] r T x y → P r T x y) : TT xi M_X3_readFrom 193 [(0, .ref o0), (1, .int x1)] [] S kc nc P := by
  have hA : Af E [199, 200, 201, 202, 203, 204] S S := af_rf
  refine tt_aload_n (j := 0) dX3_readFrom_193 rfl ?_
  refine tt_aload_n (j := 0) dX3_readFrom_194 rfl ?_
  refine gt_gI (id := 193) (v := (e0 (StC S o0))) dX3_readFrom_195 fl_3_15 rfl rfl h0 hA (sC_193 (T := S) (o := o0) rfl) ?_
  refine tt_iload_n (j := 1) dX3_readFrom_198 rfl ?_
  refine tt_isub dX3_readFrom_199 ?_
  refine gt_pI (id := 199) (x := ((e0 (StC S o0)) - x1)) dX3_readFrom_200 fl_3_51 rfl rfl h0 hA rfl rfl rfl (gp_I hG) (by decide) (fun h => absurd h (by decide)) (fun h => absurd h (by decide)) (fun S101 hG102 hA103 e104 f105 er106 => ?_)
  refine tt_aload_n (j := 0) dX3_readFrom_203 rfl ?_
  refine gt_gI (id := 200) (v := (e7 (StC S o0))) dX3_readFrom_204 fl_3_54 rfl rfl h0 hA103 ((congrFun (congrFun e104 200) o0).trans ((congrFun (up2_ne (k := 200)) o0).trans (sC_200 (T := S) (o := o0) rfl))) ?_
  refine tt_bipush (v := 19) dX3_readFrom_207 rfl ?_
  refine tt_icmp_lt (tgt := 217) dX3_readFrom_209 rfl (fun q107 => ?_) (fun q107 => ?_)
  · skip
    have h108 : Rg (-2147483648) 18 (e7 (StC S o0)) := rg_lt_l (rg_all (e7 (StC S o0))) (⟨by decide, by decide⟩ : Rg 19 19 19) q107
    have hF : F_X3_readFrom_p193 bs n (StC S o0) x1 = F_X3_readFrom_p217 bs n ((e0 (StC S o0)), (e1 (StC S o0)), (e2 (StC S o0)), (e3 (StC S o0)), (e4 (StC S o0)), (e5 (StC S o0)), ((e0 (StC S o0)) - x1), (e7 (StC S o0)), (e8 (StC S o0)), (e9 (StC S o0)), (e10 (StC S o0)), (e11 (StC S o0)), (eJ (StC S o0)))  := by
      exact q_X3_readFrom_p193_0 q107
    exact tt_loc (ks := [0]) rfl (ce_X3_readFrom_p217 hG102 (oa_af h0 hA103) (bc_af hb h0 hA103) (fun r T x y h => hP r T x y (pv_tr hA103 h (by decide) (fun v T e => e.trans ((congrArg (fun q => F_X3_readFrom_p217 bs n q ) (stC_mk ((congrFun (congrFun e104 193) o0).trans ((congrFun (up2_ne (k := 193)) o0).trans (sC_193 (T := S) (o := o0) rfl))) ((congrFun (congrFun e104 194) o0).trans ((congrFun (up2_ne (k := 194)) o0).trans (sC_194 (T := S) (o := o0) rfl))) ((congrFun (congrFun e104 195) o0).trans ((congrFun (up2_ne (k := 195)) o0).trans (sC_195 (T := S) (o := o0) rfl))) ((congrFun (congrFun e104 196) o0).trans ((congrFun (up2_ne (k := 196)) o0).trans (sC_196 (T := S) (o := o0) rfl))) ((congrFun (congrFun e104 197) o0).trans ((congrFun (up2_ne (k := 197)) o0).trans (sC_197 (T := S) (o := o0) rfl))) ((congrFun (congrFun e104 198) o0).trans ((congrFun (up2_ne (k := 198)) o0).trans (sC_198 (T := S) (o := o0) rfl))) (by rw [e104]; exact up2_self) ((congrFun (congrFun e104 200) o0).trans ((congrFun (up2_ne (k := 200)) o0).trans (sC_200 (T := S) (o := o0) rfl))) ((congrFun (congrFun e104 201) o0).trans ((congrFun (up2_ne (k := 201)) o0).trans (sC_201 (T := S) (o := o0) rfl))) ((congrFun (congrFun e104 202) o0).trans ((congrFun (up2_ne (k := 202)) o0).trans (sC_202 (T := S) (o := o0) rfl))) ((congrFun (congrFun e104 203) o0).trans ((congrFun (up2_ne (k := 203)) o0).trans (sC_203 (T := S) (o := o0) rfl))) ((congrFun (congrFun e104 204) o0).trans ((congrFun (up2_ne (k := 204)) o0).trans (sC_204 (T := S) (o := o0) rfl))) ((congrFun (congrFun f105 205) o0).trans (sC_205 (T := S) (o := o0) rfl)))).trans hF.symm)))))
  · skip
    have h109 : Rg 19 2147483647 (e7 (StC S o0)) := rg_le_r (⟨by decide, by decide⟩ : Rg 19 19 19) (rg_all (e7 (StC S o0))) (nlt_le q107)
    refine tt_aload_n (j := 0) dX3_readFrom_212 rfl ?_
    refine tt_iconst (v := 0) dX3_readFrom_213 rfl ?_
    refine gt_pI (id := 201) (x := 0) dX3_readFrom_214 fl_3_34 rfl rfl h0 hA103 rfl rfl rfl (gp_I hG102) (by decide) (fun h => absurd h (by decide)) (fun h => absurd h (by decide)) (fun S110 hG111 hA112 e113 f114 er115 => ?_)
    have hF : F_X3_readFrom_p193 bs n (StC S o0) x1 = F_X3_readFrom_p217 bs n ((e0 (StC S o0)), (e1 (StC S o0)), (e2 (StC S o0)), (e3 (StC S o0)), (e4 (StC S o0)), (e5 (StC S o0)), ((e0 (StC S o0)) - x1), (e7 (StC S o0)), 0, (e9 (StC S o0)), (e10 (StC S o0)), (e11 (StC S o0)), (eJ (StC S o0)))  := by
      exact q_X3_readFrom_p193_1 q107
    exact tt_loc (ks := [0]) rfl (ce_X3_readFrom_p217 hG111 (oa_af h0 hA112) (bc_af hb h0 hA112) (fun r T x y h => hP r T x y (pv_tr hA112 h (by decide) (fun v T e => e.trans ((congrArg (fun q => F_X3_readFrom_p217 bs n q ) (stC_mk ((congrFun (congrFun e113 193) o0).trans ((congrFun (up2_ne (k := 193)) o0).trans ((congrFun (congrFun e104 193) o0).trans ((congrFun (up2_ne (k := 193)) o0).trans (sC_193 (T := S) (o := o0) rfl))))) ((congrFun (congrFun e113 194) o0).trans ((congrFun (up2_ne (k := 194)) o0).trans ((congrFun (congrFun e104 194) o0).trans ((congrFun (up2_ne (k := 194)) o0).trans (sC_194 (T := S) (o := o0) rfl))))) ((congrFun (congrFun e113 195) o0).trans ((congrFun (up2_ne (k := 195)) o0).trans ((congrFun (congrFun e104 195) o0).trans ((congrFun (up2_ne (k := 195)) o0).trans (sC_195 (T := S) (o := o0) rfl))))) ((congrFun (congrFun e113 196) o0).trans ((congrFun (up2_ne (k := 196)) o0).trans ((congrFun (congrFun e104 196) o0).trans ((congrFun (up2_ne (k := 196)) o0).trans (sC_196 (T := S) (o := o0) rfl))))) ((congrFun (congrFun e113 197) o0).trans ((congrFun (up2_ne (k := 197)) o0).trans ((congrFun (congrFun e104 197) o0).trans ((congrFun (up2_ne (k := 197)) o0).trans (sC_197 (T := S) (o := o0) rfl))))) ((congrFun (congrFun e113 198) o0).trans ((congrFun (up2_ne (k := 198)) o0).trans ((congrFun (congrFun e104 198) o0).trans ((congrFun (up2_ne (k := 198)) o0).trans (sC_198 (T := S) (o := o0) rfl))))) ((congrFun (congrFun e113 199) o0).trans ((congrFun (up2_ne (k := 199)) o0).trans (by rw [e104]; exact up2_self))) ((congrFun (congrFun e113 200) o0).trans ((congrFun (up2_ne (k := 200)) o0).trans ((congrFun (congrFun e104 200) o0).trans ((congrFun (up2_ne (k := 200)) o0).trans (sC_200 (T := S) (o := o0) rfl))))) (by rw [e113]; exact up2_self) ((congrFun (congrFun e113 202) o0).trans ((congrFun (up2_ne (k := 202)) o0).trans ((congrFun (congrFun e104 202) o0).trans ((congrFun (up2_ne (k := 202)) o0).trans (sC_202 (T := S) (o := o0) rfl))))) ((congrFun (congrFun e113 203) o0).trans ((congrFun (up2_ne (k := 203)) o0).trans ((congrFun (congrFun e104 203) o0).trans ((congrFun (up2_ne (k := 203)) o0).trans (sC_203 (T := S) (o := o0) rfl))))) ((congrFun (congrFun e113 204) o0).trans ((congrFun (up2_ne (k := 204)) o0).trans ((congrFun (congrFun e104 204) o0).trans ((congrFun (up2_ne (k := 204)) o0).trans (sC_204 (T := S) (o := o0) rfl))))) ((congrFun (congrFun f114 205) o0).trans ((congrFun (congrFun f105 205) o0).trans (sC_205 (T := S) (o := o0) rfl))))).trans hF.symm)))))
def F_X3_readFrom_p82 (bs : Nat → Int32) (n : Int32) (d : DD) (x1 : Int32) (x2 : Int32) : DD :=
  if 64 ≤ x2 then
    if (x2 &&& (-16)) = 112 then
      let d141 := F_X3_readJump_1 bs n d (19) ((x2 &&& 15))
      F_X3_readFrom_p193 bs n d141 (x1)
    else
      if (x2 &&& (-16)) = 384 then
        let d131 := F_X3_readJump_4 bs n d (19) ((x2 &&& 15))
        F_X3_readFrom_p193 bs n d131 (x1)
      else
        if (x2 &&& (-8)) = 184 then
          let d121 := F_X3_readMoveToRegister bs n d ((x2 &&& 7))
          F_X3_readFrom_p193 bs n d121 (x1)
        else
          let d111 := F_X3_readOther bs n d (x2)
          F_X3_readFrom_p193 bs n d111 (x1)
  else
    if (x2 &&& 7) = 1 then
      let d153 := F_X3_readPair bs n d ((x2 >>> (3 &&& 31))) (1)
      F_X3_readFrom_p193 bs n d153 (x1)
    else
      if (x2 &&& 7) = 3 then
        let d206 := F_X3_readPair bs n d ((x2 >>> (3 &&& 31))) (0)
        F_X3_readFrom_p193 bs n d206 (x1)
      else
        if (x2 &&& (-16)) = 112 then
          let d196 := F_X3_readJump_1 bs n d (19) ((x2 &&& 15))
          F_X3_readFrom_p193 bs n d196 (x1)
        else
          if (x2 &&& (-16)) = 384 then
            let d186 := F_X3_readJump_4 bs n d (19) ((x2 &&& 15))
            F_X3_readFrom_p193 bs n d186 (x1)
          else
            if (x2 &&& (-8)) = 184 then
              let d176 := F_X3_readMoveToRegister bs n d ((x2 &&& 7))
              F_X3_readFrom_p193 bs n d176 (x1)
            else
              let d166 := F_X3_readOther bs n d (x2)
              F_X3_readFrom_p193 bs n d166 (x1)
theorem q_X3_readFrom_p82_0 {bs : Nat → Int32} {n : Int32} {d : DD} {x1 : Int32} {x2 : Int32} (h0 : 64 ≤ x2) (h1 : (x2 &&& (-16)) = 112) : F_X3_readFrom_p82 bs n d x1 x2 = F_X3_readFrom_p193 bs n (F_X3_readJump_1 bs n d (19) ((x2 &&& 15))) (x1) := by unfold F_X3_readFrom_p82; exact Eq.trans (if_pos h0) (if_pos h1)
theorem q_X3_readFrom_p82_1 {bs : Nat → Int32} {n : Int32} {d : DD} {x1 : Int32} {x2 : Int32} (h0 : 64 ≤ x2) (h1 : ¬ (x2 &&& (-16)) = 112) (h2 : (x2 &&& (-16)) = 384) : F_X3_readFrom_p82 bs n d x1 x2 = F_X3_readFrom_p193 bs n (F_X3_readJump_4 bs n d (19) ((x2 &&& 15))) (x1) := by unfold F_X3_readFrom_p82; exact Eq.trans (if_pos h0) (Eq.trans (if_neg h1) (if_pos h2))
theorem q_X3_readFrom_p82_2 {bs : Nat → Int32} {n : Int32} {d : DD} {x1 : Int32} {x2 : Int32} (h0 : 64 ≤ x2) (h1 : ¬ (x2 &&& (-16)) = 112) (h2 : ¬ (x2 &&& (-16)) = 384) (h3 : (x2 &&& (-8)) = 184) : F_X3_readFrom_p82 bs n d x1 x2 = F_X3_readFrom_p193 bs n (F_X3_readMoveToRegister bs n d ((x2 &&& 7))) (x1) := by unfold F_X3_readFrom_p82; exact Eq.trans (if_pos h0) (Eq.trans (if_neg h1) (Eq.trans (if_neg h2) (if_pos h3)))
theorem q_X3_readFrom_p82_3 {bs : Nat → Int32} {n : Int32} {d : DD} {x1 : Int32} {x2 : Int32} (h0 : 64 ≤ x2) (h1 : ¬ (x2 &&& (-16)) = 112) (h2 : ¬ (x2 &&& (-16)) = 384) (h3 : ¬ (x2 &&& (-8)) = 184) : F_X3_readFrom_p82 bs n d x1 x2 = F_X3_readFrom_p193 bs n (F_X3_readOther bs n d (x2)) (x1) := by unfold F_X3_readFrom_p82; exact Eq.trans (if_pos h0) (Eq.trans (if_neg h1) (Eq.trans (if_neg h2) (if_neg h3)))
theorem q_X3_readFrom_p82_4 {bs : Nat → Int32} {n : Int32} {d : DD} {x1 : Int32} {x2 : Int32} (h0 : ¬ 64 ≤ x2) (h1 : (x2 &&& 7) = 1) : F_X3_readFrom_p82 bs n d x1 x2 = F_X3_readFrom_p193 bs n (F_X3_readPair bs n d ((x2 >>> (3 &&& 31))) (1)) (x1) := by unfold F_X3_readFrom_p82; exact Eq.trans (if_neg h0) (if_pos h1)
theorem q_X3_readFrom_p82_5 {bs : Nat → Int32} {n : Int32} {d : DD} {x1 : Int32} {x2 : Int32} (h0 : ¬ 64 ≤ x2) (h1 : ¬ (x2 &&& 7) = 1) (h2 : (x2 &&& 7) = 3) : F_X3_readFrom_p82 bs n d x1 x2 = F_X3_readFrom_p193 bs n (F_X3_readPair bs n d ((x2 >>> (3 &&& 31))) (0)) (x1) := by unfold F_X3_readFrom_p82; exact Eq.trans (if_neg h0) (Eq.trans (if_neg h1) (if_pos h2))
theorem q_X3_readFrom_p82_6 {bs : Nat → Int32} {n : Int32} {d : DD} {x1 : Int32} {x2 : Int32} (h0 : ¬ 64 ≤ x2) (h1 : ¬ (x2 &&& 7) = 1) (h2 : ¬ (x2 &&& 7) = 3) (h3 : (x2 &&& (-16)) = 112) : F_X3_readFrom_p82 bs n d x1 x2 = F_X3_readFrom_p193 bs n (F_X3_readJump_1 bs n d (19) ((x2 &&& 15))) (x1) := by unfold F_X3_readFrom_p82; exact Eq.trans (if_neg h0) (Eq.trans (if_neg h1) (Eq.trans (if_neg h2) (if_pos h3)))
theorem q_X3_readFrom_p82_7 {bs : Nat → Int32} {n : Int32} {d : DD} {x1 : Int32} {x2 : Int32} (h0 : ¬ 64 ≤ x2) (h1 : ¬ (x2 &&& 7) = 1) (h2 : ¬ (x2 &&& 7) = 3) (h3 : ¬ (x2 &&& (-16)) = 112) (h4 : (x2 &&& (-16)) = 384) : F_X3_readFrom_p82 bs n d x1 x2 = F_X3_readFrom_p193 bs n (F_X3_readJump_4 bs n d (19) ((x2 &&& 15))) (x1) := by unfold F_X3_readFrom_p82; exact Eq.trans (if_neg h0) (Eq.trans (if_neg h1) (Eq.trans (if_neg h2) (Eq.trans (if_neg h3) (if_pos h4))))
theorem q_X3_readFrom_p82_8 {bs : Nat → Int32} {n : Int32} {d : DD} {x1 : Int32} {x2 : Int32} (h0 : ¬ 64 ≤ x2) (h1 : ¬ (x2 &&& 7) = 1) (h2 : ¬ (x2 &&& 7) = 3) (h3 : ¬ (x2 &&& (-16)) = 112) (h4 : ¬ (x2 &&& (-16)) = 384) (h5 : (x2 &&& (-8)) = 184) : F_X3_readFrom_p82 bs n d x1 x2 = F_X3_readFrom_p193 bs n (F_X3_readMoveToRegister bs n d ((x2 &&& 7))) (x1) := by unfold F_X3_readFrom_p82; exact Eq.trans (if_neg h0) (Eq.trans (if_neg h1) (Eq.trans (if_neg h2) (Eq.trans (if_neg h3) (Eq.trans (if_neg h4) (if_pos h5)))))
theorem q_X3_readFrom_p82_9 {bs : Nat → Int32} {n : Int32} {d : DD} {x1 : Int32} {x2 : Int32} (h0 : ¬ 64 ≤ x2) (h1 : ¬ (x2 &&& 7) = 1) (h2 : ¬ (x2 &&& 7) = 3) (h3 : ¬ (x2 &&& (-16)) = 112) (h4 : ¬ (x2 &&& (-16)) = 384) (h5 : ¬ (x2 &&& (-8)) = 184) : F_X3_readFrom_p82 bs n d x1 x2 = F_X3_readFrom_p193 bs n (F_X3_readOther bs n d (x2)) (x1) := by unfold F_X3_readFrom_p82; exact Eq.trans (if_neg h0) (Eq.trans (if_neg h1) (Eq.trans (if_neg h2) (Eq.trans (if_neg h3) (Eq.trans (if_neg h4) (if_neg h5)))))
set_option maxHeartbeats 40000000 in
theorem ce_X3_readFrom_p82 {xi : SX} {S : Hp} {E : List Nat} {kc nc : Nat} {P : Po} {o0 : Nat} {x1 : Int32} {x2 : Int32} {bs : Nat → Int32} {n : Int32} (hG : GI S E) (h0 : Oa S E 3 0 o0) (hb : BC S E o0 bs n) (hP : ∀ r T x y, PV E [193, 195, 196, 197, 198, 199, 200, 201, 202, 203, 204] S kc nc rV (fun v T => StC T o0 = F_X3_readFrom_p82 bs n (StC S o0) x1 x2) [] r T x y → P r T x y) : TT xi M_X3_readFrom 82 [(0, .ref o0), (1, .int x1), (2, .int x2)] [] S kc nc P := by
  have hA : Af E [193, 195, 196, 197, 198, 199, 200, 201, 202, 203, 204] S S := af_rf
  refine tt_iload_n (j := 2) dX3_readFrom_82 rfl ?_
  refine tt_bipush (v := 7) dX3_readFrom_83 rfl ?_
  refine tt_iand dX3_readFrom_85 ?_
  refine tt_istore_n (ks := [0, 1, 2, 3]) (L' := [(3, .int (x2 &&& 7)), (0, .ref o0), (1, .int x1), (2, .int x2)]) dX3_readFrom_86 (by decide) rfl ?_
  refine tt_iload_n (j := 3) dX3_readFrom_87 rfl ?_
  refine tt_bipush (v := 64) dX3_readFrom_88 rfl ?_
  refine tt_icmp_ge (tgt := 123) dX3_readFrom_90 rfl (fun q101 => ?_) (fun q101 => ?_)
  · skip
    have h102 : Rg 64 2147483647 x2 := rg_le_r (⟨by decide, by decide⟩ : Rg 64 64 64) (rg_all x2) q101
    refine tt_iload_n (j := 3) dX3_readFrom_123 rfl ?_
    refine tt_bipush (v := (-16)) dX3_readFrom_124 rfl ?_
    refine tt_iand dX3_readFrom_126 ?_
    refine tt_bipush (v := 112) dX3_readFrom_127 rfl ?_
    refine tt_icmp_ne (tgt := 146) dX3_readFrom_129 rfl (fun q103 => ?_) (fun q103 => ?_)
    · skip
      refine tt_iload_n (j := 3) dX3_readFrom_146 rfl ?_
      refine tt_bipush (v := (-16)) dX3_readFrom_147 rfl ?_
      refine tt_iand dX3_readFrom_149 ?_
      refine tt_sipush (v := 384) dX3_readFrom_150 rfl ?_
      refine tt_icmp_ne (tgt := 170) dX3_readFrom_153 rfl (fun q104 => ?_) (fun q104 => ?_)
      · skip
        refine tt_iload_n (j := 3) dX3_readFrom_170 rfl ?_
        refine tt_bipush (v := (-8)) dX3_readFrom_171 rfl ?_
        refine tt_iand dX3_readFrom_173 ?_
        refine tt_sipush (v := 184) dX3_readFrom_174 rfl ?_
        refine tt_icmp_ne (tgt := 188) dX3_readFrom_177 rfl (fun q105 => ?_) (fun q105 => ?_)
        · skip
          refine tt_aload_n (j := 1) dX3_readFrom_188 rfl ?_
          refine tt_iload_n (j := 3) dX3_readFrom_189 rfl ?_
          refine gt_Vv (As := [.int x2]) dX3_readFrom_190 ca_X3_48 ⟨by decide, by decide⟩ h0 hA rfl (Nat.le_of_ble_eq_true rfl) (Nat.le_of_ble_eq_true rfl) (by decide) (ce_X3_readOther hG (oa_af h0 hA) (bc_af hb h0 hA) (fun _ _ _ _ h => h)) rfl (fun _ h => nomatch h) (fun S106 hx110 hG107 hB108 hA109 => ?_)
          obtain ⟨d111, hd112⟩ : ∃ q, q = F_X3_readOther bs n (StC S o0) (x2) := ⟨_, rfl⟩
          have hq113 := (congrArg (fun q => F_X3_readOther bs n q (x2)) (stC_mk (sC_193 (T := S) (o := o0) rfl) (sC_194 (T := S) (o := o0) rfl) (sC_195 (T := S) (o := o0) rfl) (sC_196 (T := S) (o := o0) rfl) (sC_197 (T := S) (o := o0) rfl) (sC_198 (T := S) (o := o0) rfl) (sC_199 (T := S) (o := o0) rfl) (sC_200 (T := S) (o := o0) rfl) (sC_201 (T := S) (o := o0) rfl) (sC_202 (T := S) (o := o0) rfl) (sC_203 (T := S) (o := o0) rfl) (sC_204 (T := S) (o := o0) rfl) (sC_205 (T := S) (o := o0) rfl))).trans hd112.symm
          have hs114 := hx110.trans hq113
          have hF : F_X3_readFrom_p82 bs n (StC S o0) x1 x2 = F_X3_readFrom_p193 bs n d111 (x1) := by
            subst hd112
            exact q_X3_readFrom_p82_3 q101 q103 q104 q105
          exact tt_loc (ks := [1, 2]) rfl (ce_X3_readFrom_p193 hG107 (oa_af h0 hA109) (bc_af hb h0 hA109) (fun r T x y h => hP r T x y (pv_tr hA109 h (by decide) (fun v T e => e.trans ((congrArg (fun q => F_X3_readFrom_p193 bs n q (x1)) (stC_mk (sC_193 hs114) (sC_194 hs114) (sC_195 hs114) (sC_196 hs114) (sC_197 hs114) (sC_198 hs114) (sC_199 hs114) (sC_200 hs114) (sC_201 hs114) (sC_202 hs114) (sC_203 hs114) (sC_204 hs114) (sC_205 hs114))).trans hF.symm)))))
        · skip
          have h115 : Rg 184 184 (x2 &&& (-8)) := rg_eq_l (rg_all (x2 &&& (-8))) (⟨by decide, by decide⟩ : Rg 184 184 184) q105
          refine tt_aload_n (j := 1) dX3_readFrom_180 rfl ?_
          refine tt_iload_n (j := 0) dX3_readFrom_181 rfl ?_
          refine gt_Vv (As := [.int (x2 &&& 7)]) dX3_readFrom_182 ca_X3_45 ⟨by decide, by decide⟩ h0 hA rfl (Nat.le_of_ble_eq_true rfl) (Nat.le_of_ble_eq_true rfl) (by decide) (ce_X3_readMoveToRegister hG (oa_af h0 hA) (bc_af hb h0 hA) (fun _ _ _ _ h => h)) rfl (fun _ h => nomatch h) (fun S116 hx120 hG117 hB118 hA119 => ?_)
          obtain ⟨d121, hd122⟩ : ∃ q, q = F_X3_readMoveToRegister bs n (StC S o0) ((x2 &&& 7)) := ⟨_, rfl⟩
          have hq123 := (congrArg (fun q => F_X3_readMoveToRegister bs n q ((x2 &&& 7))) (stC_mk (sC_193 (T := S) (o := o0) rfl) (sC_194 (T := S) (o := o0) rfl) (sC_195 (T := S) (o := o0) rfl) (sC_196 (T := S) (o := o0) rfl) (sC_197 (T := S) (o := o0) rfl) (sC_198 (T := S) (o := o0) rfl) (sC_199 (T := S) (o := o0) rfl) (sC_200 (T := S) (o := o0) rfl) (sC_201 (T := S) (o := o0) rfl) (sC_202 (T := S) (o := o0) rfl) (sC_203 (T := S) (o := o0) rfl) (sC_204 (T := S) (o := o0) rfl) (sC_205 (T := S) (o := o0) rfl))).trans hd122.symm
          have hs124 := hx120.trans hq123
          refine tt_goto (tgt := 193) dX3_readFrom_185 rfl ?_
          have hF : F_X3_readFrom_p82 bs n (StC S o0) x1 x2 = F_X3_readFrom_p193 bs n d121 (x1) := by
            subst hd122
            exact q_X3_readFrom_p82_2 q101 q103 q104 q105
          exact tt_loc (ks := [1, 2]) rfl (ce_X3_readFrom_p193 hG117 (oa_af h0 hA119) (bc_af hb h0 hA119) (fun r T x y h => hP r T x y (pv_tr hA119 h (by decide) (fun v T e => e.trans ((congrArg (fun q => F_X3_readFrom_p193 bs n q (x1)) (stC_mk (sC_193 hs124) (sC_194 hs124) (sC_195 hs124) (sC_196 hs124) (sC_197 hs124) (sC_198 hs124) (sC_199 hs124) (sC_200 hs124) (sC_201 hs124) (sC_202 hs124) (sC_203 hs124) (sC_204 hs124) (sC_205 hs124))).trans hF.symm)))))
      · skip
        have h125 : Rg 384 384 (x2 &&& (-16)) := rg_eq_l (rg_all (x2 &&& (-16))) (⟨by decide, by decide⟩ : Rg 384 384 384) q104
        refine tt_aload_n (j := 1) dX3_readFrom_156 rfl ?_
        refine tt_bipush (v := 19) dX3_readFrom_157 rfl ?_
        refine tt_iload_n (j := 3) dX3_readFrom_159 rfl ?_
        refine tt_bipush (v := 15) dX3_readFrom_160 rfl ?_
        refine tt_iand dX3_readFrom_162 ?_
        refine tt_iconst (v := 4) dX3_readFrom_163 rfl ?_
        refine gt_Vv (As := [.int 19, .int (x2 &&& 15), .int 4]) dX3_readFrom_164 ca_X3_41 ⟨by decide, by decide⟩ h0 hA rfl (Nat.le_of_ble_eq_true rfl) (Nat.le_of_ble_eq_true rfl) (by decide) (ce_X3_readJump_4 hG (oa_af h0 hA) (bc_af hb h0 hA) (fun _ _ _ _ h => h)) rfl (fun _ h => nomatch h) (fun S126 hx130 hG127 hB128 hA129 => ?_)
        obtain ⟨d131, hd132⟩ : ∃ q, q = F_X3_readJump_4 bs n (StC S o0) (19) ((x2 &&& 15)) := ⟨_, rfl⟩
        have hq133 := (congrArg (fun q => F_X3_readJump_4 bs n q (19) ((x2 &&& 15))) (stC_mk (sC_193 (T := S) (o := o0) rfl) (sC_194 (T := S) (o := o0) rfl) (sC_195 (T := S) (o := o0) rfl) (sC_196 (T := S) (o := o0) rfl) (sC_197 (T := S) (o := o0) rfl) (sC_198 (T := S) (o := o0) rfl) (sC_199 (T := S) (o := o0) rfl) (sC_200 (T := S) (o := o0) rfl) (sC_201 (T := S) (o := o0) rfl) (sC_202 (T := S) (o := o0) rfl) (sC_203 (T := S) (o := o0) rfl) (sC_204 (T := S) (o := o0) rfl) (sC_205 (T := S) (o := o0) rfl))).trans hd132.symm
        have hs134 := hx130.trans hq133
        refine tt_goto (tgt := 193) dX3_readFrom_167 rfl ?_
        have hF : F_X3_readFrom_p82 bs n (StC S o0) x1 x2 = F_X3_readFrom_p193 bs n d131 (x1) := by
          subst hd132
          exact q_X3_readFrom_p82_1 q101 q103 q104
        exact tt_loc (ks := [1, 2]) rfl (ce_X3_readFrom_p193 hG127 (oa_af h0 hA129) (bc_af hb h0 hA129) (fun r T x y h => hP r T x y (pv_tr hA129 h (by decide) (fun v T e => e.trans ((congrArg (fun q => F_X3_readFrom_p193 bs n q (x1)) (stC_mk (sC_193 hs134) (sC_194 hs134) (sC_195 hs134) (sC_196 hs134) (sC_197 hs134) (sC_198 hs134) (sC_199 hs134) (sC_200 hs134) (sC_201 hs134) (sC_202 hs134) (sC_203 hs134) (sC_204 hs134) (sC_205 hs134))).trans hF.symm)))))
    · skip
      have h135 : Rg 112 112 (x2 &&& (-16)) := rg_eq_l (rg_all (x2 &&& (-16))) (⟨by decide, by decide⟩ : Rg 112 112 112) q103
      refine tt_aload_n (j := 1) dX3_readFrom_132 rfl ?_
      refine tt_bipush (v := 19) dX3_readFrom_133 rfl ?_
      refine tt_iload_n (j := 3) dX3_readFrom_135 rfl ?_
      refine tt_bipush (v := 15) dX3_readFrom_136 rfl ?_
      refine tt_iand dX3_readFrom_138 ?_
      refine tt_iconst (v := 1) dX3_readFrom_139 rfl ?_
      refine gt_Vv (As := [.int 19, .int (x2 &&& 15), .int 1]) dX3_readFrom_140 ca_X3_41 ⟨by decide, by decide⟩ h0 hA rfl (Nat.le_of_ble_eq_true rfl) (Nat.le_of_ble_eq_true rfl) (by decide) (ce_X3_readJump_1 hG (oa_af h0 hA) (bc_af hb h0 hA) (fun _ _ _ _ h => h)) rfl (fun _ h => nomatch h) (fun S136 hx140 hG137 hB138 hA139 => ?_)
      obtain ⟨d141, hd142⟩ : ∃ q, q = F_X3_readJump_1 bs n (StC S o0) (19) ((x2 &&& 15)) := ⟨_, rfl⟩
      have hq143 := (congrArg (fun q => F_X3_readJump_1 bs n q (19) ((x2 &&& 15))) (stC_mk (sC_193 (T := S) (o := o0) rfl) (sC_194 (T := S) (o := o0) rfl) (sC_195 (T := S) (o := o0) rfl) (sC_196 (T := S) (o := o0) rfl) (sC_197 (T := S) (o := o0) rfl) (sC_198 (T := S) (o := o0) rfl) (sC_199 (T := S) (o := o0) rfl) (sC_200 (T := S) (o := o0) rfl) (sC_201 (T := S) (o := o0) rfl) (sC_202 (T := S) (o := o0) rfl) (sC_203 (T := S) (o := o0) rfl) (sC_204 (T := S) (o := o0) rfl) (sC_205 (T := S) (o := o0) rfl))).trans hd142.symm
      have hs144 := hx140.trans hq143
      refine tt_goto (tgt := 193) dX3_readFrom_143 rfl ?_
      have hF : F_X3_readFrom_p82 bs n (StC S o0) x1 x2 = F_X3_readFrom_p193 bs n d141 (x1) := by
        subst hd142
        exact q_X3_readFrom_p82_0 q101 q103
      exact tt_loc (ks := [1, 2]) rfl (ce_X3_readFrom_p193 hG137 (oa_af h0 hA139) (bc_af hb h0 hA139) (fun r T x y h => hP r T x y (pv_tr hA139 h (by decide) (fun v T e => e.trans ((congrArg (fun q => F_X3_readFrom_p193 bs n q (x1)) (stC_mk (sC_193 hs144) (sC_194 hs144) (sC_195 hs144) (sC_196 hs144) (sC_197 hs144) (sC_198 hs144) (sC_199 hs144) (sC_200 hs144) (sC_201 hs144) (sC_202 hs144) (sC_203 hs144) (sC_204 hs144) (sC_205 hs144))).trans hF.symm)))))
  · skip
    have h145 : Rg (-2147483648) 63 x2 := rg_lt_l (rg_all x2) (⟨by decide, by decide⟩ : Rg 64 64 64) (nle_lt q101)
    refine tt_iload_n (j := 0) dX3_readFrom_93 rfl ?_
    refine tt_iconst (v := 1) dX3_readFrom_94 rfl ?_
    refine tt_icmp_eq (tgt := 103) dX3_readFrom_95 rfl (fun q146 => ?_) (fun q146 => ?_)
    · skip
      have h147 : Rg 1 1 (x2 &&& 7) := rg_eq_l (rg_and (x := x2) (⟨by decide, by decide⟩ : Rg 7 7 7)) (⟨by decide, by decide⟩ : Rg 1 1 1) q146
      refine tt_aload_n (j := 1) dX3_readFrom_103 rfl ?_
      refine tt_iload_n (j := 3) dX3_readFrom_104 rfl ?_
      refine tt_iconst (v := 3) dX3_readFrom_105 rfl ?_
      refine tt_ishr dX3_readFrom_106 ?_
      refine tt_iload_n (j := 0) dX3_readFrom_107 rfl ?_
      refine tt_iconst (v := 1) dX3_readFrom_108 rfl ?_
      refine tt_icmp_ne (tgt := 116) dX3_readFrom_109 rfl (fun q => absurd q146 q) (fun _ => ?_)
      refine tt_iconst (v := 1) dX3_readFrom_112 rfl ?_
      refine tt_goto (tgt := 117) dX3_readFrom_113 rfl ?_
      refine gt_Vv (As := [.int (x2 >>> (3 &&& 31)), .int 1]) dX3_readFrom_117 ca_X3_37 ⟨by decide, by decide⟩ h0 hA rfl (Nat.le_of_ble_eq_true rfl) (Nat.le_of_ble_eq_true rfl) (by decide) (ce_X3_readPair hG (oa_af h0 hA) (rg_w (⟨by decide, by decide⟩ : Rg 1 1 1)) (bc_af hb h0 hA) (fun _ _ _ _ h => h)) rfl (fun _ h => nomatch h) (fun S148 hx152 hG149 hB150 hA151 => ?_)
      obtain ⟨d153, hd154⟩ : ∃ q, q = F_X3_readPair bs n (StC S o0) ((x2 >>> (3 &&& 31))) (1) := ⟨_, rfl⟩
      have hq155 := (congrArg (fun q => F_X3_readPair bs n q ((x2 >>> (3 &&& 31))) (1)) (stC_mk (sC_193 (T := S) (o := o0) rfl) (sC_194 (T := S) (o := o0) rfl) (sC_195 (T := S) (o := o0) rfl) (sC_196 (T := S) (o := o0) rfl) (sC_197 (T := S) (o := o0) rfl) (sC_198 (T := S) (o := o0) rfl) (sC_199 (T := S) (o := o0) rfl) (sC_200 (T := S) (o := o0) rfl) (sC_201 (T := S) (o := o0) rfl) (sC_202 (T := S) (o := o0) rfl) (sC_203 (T := S) (o := o0) rfl) (sC_204 (T := S) (o := o0) rfl) (sC_205 (T := S) (o := o0) rfl))).trans hd154.symm
      have hs156 := hx152.trans hq155
      refine tt_goto (tgt := 193) dX3_readFrom_120 rfl ?_
      have hF : F_X3_readFrom_p82 bs n (StC S o0) x1 x2 = F_X3_readFrom_p193 bs n d153 (x1) := by
        subst hd154
        exact q_X3_readFrom_p82_4 q101 q146
      exact tt_loc (ks := [1, 2]) rfl (ce_X3_readFrom_p193 hG149 (oa_af h0 hA151) (bc_af hb h0 hA151) (fun r T x y h => hP r T x y (pv_tr hA151 h (by decide) (fun v T e => e.trans ((congrArg (fun q => F_X3_readFrom_p193 bs n q (x1)) (stC_mk (sC_193 hs156) (sC_194 hs156) (sC_195 hs156) (sC_196 hs156) (sC_197 hs156) (sC_198 hs156) (sC_199 hs156) (sC_200 hs156) (sC_201 hs156) (sC_202 hs156) (sC_203 hs156) (sC_204 hs156) (sC_205 hs156))).trans hF.symm)))))
    · skip
      refine tt_iload_n (j := 0) dX3_readFrom_98 rfl ?_
      refine tt_iconst (v := 3) dX3_readFrom_99 rfl ?_
      refine tt_icmp_ne (tgt := 123) dX3_readFrom_100 rfl (fun q157 => ?_) (fun q157 => ?_)
      · skip
        refine tt_iload_n (j := 3) dX3_readFrom_123 rfl ?_
        refine tt_bipush (v := (-16)) dX3_readFrom_124 rfl ?_
        refine tt_iand dX3_readFrom_126 ?_
        refine tt_bipush (v := 112) dX3_readFrom_127 rfl ?_
        refine tt_icmp_ne (tgt := 146) dX3_readFrom_129 rfl (fun q158 => ?_) (fun q158 => ?_)
        · skip
          refine tt_iload_n (j := 3) dX3_readFrom_146 rfl ?_
          refine tt_bipush (v := (-16)) dX3_readFrom_147 rfl ?_
          refine tt_iand dX3_readFrom_149 ?_
          refine tt_sipush (v := 384) dX3_readFrom_150 rfl ?_
          refine tt_icmp_ne (tgt := 170) dX3_readFrom_153 rfl (fun q159 => ?_) (fun q159 => ?_)
          · skip
            refine tt_iload_n (j := 3) dX3_readFrom_170 rfl ?_
            refine tt_bipush (v := (-8)) dX3_readFrom_171 rfl ?_
            refine tt_iand dX3_readFrom_173 ?_
            refine tt_sipush (v := 184) dX3_readFrom_174 rfl ?_
            refine tt_icmp_ne (tgt := 188) dX3_readFrom_177 rfl (fun q160 => ?_) (fun q160 => ?_)
            · skip
              refine tt_aload_n (j := 1) dX3_readFrom_188 rfl ?_
              refine tt_iload_n (j := 3) dX3_readFrom_189 rfl ?_
              refine gt_Vv (As := [.int x2]) dX3_readFrom_190 ca_X3_48 ⟨by decide, by decide⟩ h0 hA rfl (Nat.le_of_ble_eq_true rfl) (Nat.le_of_ble_eq_true rfl) (by decide) (ce_X3_readOther hG (oa_af h0 hA) (bc_af hb h0 hA) (fun _ _ _ _ h => h)) rfl (fun _ h => nomatch h) (fun S161 hx165 hG162 hB163 hA164 => ?_)
              obtain ⟨d166, hd167⟩ : ∃ q, q = F_X3_readOther bs n (StC S o0) (x2) := ⟨_, rfl⟩
              have hq168 := (congrArg (fun q => F_X3_readOther bs n q (x2)) (stC_mk (sC_193 (T := S) (o := o0) rfl) (sC_194 (T := S) (o := o0) rfl) (sC_195 (T := S) (o := o0) rfl) (sC_196 (T := S) (o := o0) rfl) (sC_197 (T := S) (o := o0) rfl) (sC_198 (T := S) (o := o0) rfl) (sC_199 (T := S) (o := o0) rfl) (sC_200 (T := S) (o := o0) rfl) (sC_201 (T := S) (o := o0) rfl) (sC_202 (T := S) (o := o0) rfl) (sC_203 (T := S) (o := o0) rfl) (sC_204 (T := S) (o := o0) rfl) (sC_205 (T := S) (o := o0) rfl))).trans hd167.symm
              have hs169 := hx165.trans hq168
              have hF : F_X3_readFrom_p82 bs n (StC S o0) x1 x2 = F_X3_readFrom_p193 bs n d166 (x1) := by
                subst hd167
                exact q_X3_readFrom_p82_9 q101 q146 q157 q158 q159 q160
              exact tt_loc (ks := [1, 2]) rfl (ce_X3_readFrom_p193 hG162 (oa_af h0 hA164) (bc_af hb h0 hA164) (fun r T x y h => hP r T x y (pv_tr hA164 h (by decide) (fun v T e => e.trans ((congrArg (fun q => F_X3_readFrom_p193 bs n q (x1)) (stC_mk (sC_193 hs169) (sC_194 hs169) (sC_195 hs169) (sC_196 hs169) (sC_197 hs169) (sC_198 hs169) (sC_199 hs169) (sC_200 hs169) (sC_201 hs169) (sC_202 hs169) (sC_203 hs169) (sC_204 hs169) (sC_205 hs169))).trans hF.symm)))))
            · skip
              have h170 : Rg 184 184 (x2 &&& (-8)) := rg_eq_l (rg_all (x2 &&& (-8))) (⟨by decide, by decide⟩ : Rg 184 184 184) q160
              refine tt_aload_n (j := 1) dX3_readFrom_180 rfl ?_
              refine tt_iload_n (j := 0) dX3_readFrom_181 rfl ?_
              refine gt_Vv (As := [.int (x2 &&& 7)]) dX3_readFrom_182 ca_X3_45 ⟨by decide, by decide⟩ h0 hA rfl (Nat.le_of_ble_eq_true rfl) (Nat.le_of_ble_eq_true rfl) (by decide) (ce_X3_readMoveToRegister hG (oa_af h0 hA) (bc_af hb h0 hA) (fun _ _ _ _ h => h)) rfl (fun _ h => nomatch h) (fun S171 hx175 hG172 hB173 hA174 => ?_)
              obtain ⟨d176, hd177⟩ : ∃ q, q = F_X3_readMoveToRegister bs n (StC S o0) ((x2 &&& 7)) := ⟨_, rfl⟩
              have hq178 := (congrArg (fun q => F_X3_readMoveToRegister bs n q ((x2 &&& 7))) (stC_mk (sC_193 (T := S) (o := o0) rfl) (sC_194 (T := S) (o := o0) rfl) (sC_195 (T := S) (o := o0) rfl) (sC_196 (T := S) (o := o0) rfl) (sC_197 (T := S) (o := o0) rfl) (sC_198 (T := S) (o := o0) rfl) (sC_199 (T := S) (o := o0) rfl) (sC_200 (T := S) (o := o0) rfl) (sC_201 (T := S) (o := o0) rfl) (sC_202 (T := S) (o := o0) rfl) (sC_203 (T := S) (o := o0) rfl) (sC_204 (T := S) (o := o0) rfl) (sC_205 (T := S) (o := o0) rfl))).trans hd177.symm
              have hs179 := hx175.trans hq178
              refine tt_goto (tgt := 193) dX3_readFrom_185 rfl ?_
              have hF : F_X3_readFrom_p82 bs n (StC S o0) x1 x2 = F_X3_readFrom_p193 bs n d176 (x1) := by
                subst hd177
                exact q_X3_readFrom_p82_8 q101 q146 q157 q158 q159 q160
              exact tt_loc (ks := [1, 2]) rfl (ce_X3_readFrom_p193 hG172 (oa_af h0 hA174) (bc_af hb h0 hA174) (fun r T x y h => hP r T x y (pv_tr hA174 h (by decide) (fun v T e => e.trans ((congrArg (fun q => F_X3_readFrom_p193 bs n q (x1)) (stC_mk (sC_193 hs179) (sC_194 hs179) (sC_195 hs179) (sC_196 hs179) (sC_197 hs179) (sC_198 hs179) (sC_199 hs179) (sC_200 hs179) (sC_201 hs179) (sC_202 hs179) (sC_203 hs179) (sC_204 hs179) (sC_205 hs179))).trans hF.symm)))))
          · skip
            have h180 : Rg 384 384 (x2 &&& (-16)) := rg_eq_l (rg_all (x2 &&& (-16))) (⟨by decide, by decide⟩ : Rg 384 384 384) q159
            refine tt_aload_n (j := 1) dX3_readFrom_156 rfl ?_
            refine tt_bipush (v := 19) dX3_readFrom_157 rfl ?_
            refine tt_iload_n (j := 3) dX3_readFrom_159 rfl ?_
            refine tt_bipush (v := 15) dX3_readFrom_160 rfl ?_
            refine tt_iand dX3_readFrom_162 ?_
            refine tt_iconst (v := 4) dX3_readFrom_163 rfl ?_
            refine gt_Vv (As := [.int 19, .int (x2 &&& 15), .int 4]) dX3_readFrom_164 ca_X3_41 ⟨by decide, by decide⟩ h0 hA rfl (Nat.le_of_ble_eq_true rfl) (Nat.le_of_ble_eq_true rfl) (by decide) (ce_X3_readJump_4 hG (oa_af h0 hA) (bc_af hb h0 hA) (fun _ _ _ _ h => h)) rfl (fun _ h => nomatch h) (fun S181 hx185 hG182 hB183 hA184 => ?_)
            obtain ⟨d186, hd187⟩ : ∃ q, q = F_X3_readJump_4 bs n (StC S o0) (19) ((x2 &&& 15)) := ⟨_, rfl⟩
            have hq188 := (congrArg (fun q => F_X3_readJump_4 bs n q (19) ((x2 &&& 15))) (stC_mk (sC_193 (T := S) (o := o0) rfl) (sC_194 (T := S) (o := o0) rfl) (sC_195 (T := S) (o := o0) rfl) (sC_196 (T := S) (o := o0) rfl) (sC_197 (T := S) (o := o0) rfl) (sC_198 (T := S) (o := o0) rfl) (sC_199 (T := S) (o := o0) rfl) (sC_200 (T := S) (o := o0) rfl) (sC_201 (T := S) (o := o0) rfl) (sC_202 (T := S) (o := o0) rfl) (sC_203 (T := S) (o := o0) rfl) (sC_204 (T := S) (o := o0) rfl) (sC_205 (T := S) (o := o0) rfl))).trans hd187.symm
            have hs189 := hx185.trans hq188
            refine tt_goto (tgt := 193) dX3_readFrom_167 rfl ?_
            have hF : F_X3_readFrom_p82 bs n (StC S o0) x1 x2 = F_X3_readFrom_p193 bs n d186 (x1) := by
              subst hd187
              exact q_X3_readFrom_p82_7 q101 q146 q157 q158 q159
            exact tt_loc (ks := [1, 2]) rfl (ce_X3_readFrom_p193 hG182 (oa_af h0 hA184) (bc_af hb h0 hA184) (fun r T x y h => hP r T x y (pv_tr hA184 h (by decide) (fun v T e => e.trans ((congrArg (fun q => F_X3_readFrom_p193 bs n q (x1)) (stC_mk (sC_193 hs189) (sC_194 hs189) (sC_195 hs189) (sC_196 hs189) (sC_197 hs189) (sC_198 hs189) (sC_199 hs189) (sC_200 hs189) (sC_201 hs189) (sC_202 hs189) (sC_203 hs189) (sC_204 hs189) (sC_205 hs189))).trans hF.symm)))))
        · skip
          have h190 : Rg 112 112 (x2 &&& (-16)) := rg_eq_l (rg_all (x2 &&& (-16))) (⟨by decide, by decide⟩ : Rg 112 112 112) q158
          refine tt_aload_n (j := 1) dX3_readFrom_132 rfl ?_
          refine tt_bipush (v := 19) dX3_readFrom_133 rfl ?_
          refine tt_iload_n (j := 3) dX3_readFrom_135 rfl ?_
          refine tt_bipush (v := 15) dX3_readFrom_136 rfl ?_
          refine tt_iand dX3_readFrom_138 ?_
          refine tt_iconst (v := 1) dX3_readFrom_139 rfl ?_
          refine gt_Vv (As := [.int 19, .int (x2 &&& 15), .int 1]) dX3_readFrom_140 ca_X3_41 ⟨by decide, by decide⟩ h0 hA rfl (Nat.le_of_ble_eq_true rfl) (Nat.le_of_ble_eq_true rfl) (by decide) (ce_X3_readJump_1 hG (oa_af h0 hA) (bc_af hb h0 hA) (fun _ _ _ _ h => h)) rfl (fun _ h => nomatch h) (fun S191 hx195 hG192 hB193 hA194 => ?_)
          obtain ⟨d196, hd197⟩ : ∃ q, q = F_X3_readJump_1 bs n (StC S o0) (19) ((x2 &&& 15)) := ⟨_, rfl⟩
          have hq198 := (congrArg (fun q => F_X3_readJump_1 bs n q (19) ((x2 &&& 15))) (stC_mk (sC_193 (T := S) (o := o0) rfl) (sC_194 (T := S) (o := o0) rfl) (sC_195 (T := S) (o := o0) rfl) (sC_196 (T := S) (o := o0) rfl) (sC_197 (T := S) (o := o0) rfl) (sC_198 (T := S) (o := o0) rfl) (sC_199 (T := S) (o := o0) rfl) (sC_200 (T := S) (o := o0) rfl) (sC_201 (T := S) (o := o0) rfl) (sC_202 (T := S) (o := o0) rfl) (sC_203 (T := S) (o := o0) rfl) (sC_204 (T := S) (o := o0) rfl) (sC_205 (T := S) (o := o0) rfl))).trans hd197.symm
          have hs199 := hx195.trans hq198
          refine tt_goto (tgt := 193) dX3_readFrom_143 rfl ?_
          have hF : F_X3_readFrom_p82 bs n (StC S o0) x1 x2 = F_X3_readFrom_p193 bs n d196 (x1) := by
            subst hd197
            exact q_X3_readFrom_p82_6 q101 q146 q157 q158
          exact tt_loc (ks := [1, 2]) rfl (ce_X3_readFrom_p193 hG192 (oa_af h0 hA194) (bc_af hb h0 hA194) (fun r T x y h => hP r T x y (pv_tr hA194 h (by decide) (fun v T e => e.trans ((congrArg (fun q => F_X3_readFrom_p193 bs n q (x1)) (stC_mk (sC_193 hs199) (sC_194 hs199) (sC_195 hs199) (sC_196 hs199) (sC_197 hs199) (sC_198 hs199) (sC_199 hs199) (sC_200 hs199) (sC_201 hs199) (sC_202 hs199) (sC_203 hs199) (sC_204 hs199) (sC_205 hs199))).trans hF.symm)))))
      · skip
        have h200 : Rg 3 3 (x2 &&& 7) := rg_eq_l (rg_and (x := x2) (⟨by decide, by decide⟩ : Rg 7 7 7)) (⟨by decide, by decide⟩ : Rg 3 3 3) q157
        refine tt_aload_n (j := 1) dX3_readFrom_103 rfl ?_
        refine tt_iload_n (j := 3) dX3_readFrom_104 rfl ?_
        refine tt_iconst (v := 3) dX3_readFrom_105 rfl ?_
        refine tt_ishr dX3_readFrom_106 ?_
        refine tt_iload_n (j := 0) dX3_readFrom_107 rfl ?_
        refine tt_iconst (v := 1) dX3_readFrom_108 rfl ?_
        refine tt_icmp_ne (tgt := 116) dX3_readFrom_109 rfl (fun _ => ?_) (fun q => absurd q q146)
        refine tt_iconst (v := 0) dX3_readFrom_116 rfl ?_
        refine gt_Vv (As := [.int (x2 >>> (3 &&& 31)), .int 0]) dX3_readFrom_117 ca_X3_37 ⟨by decide, by decide⟩ h0 hA rfl (Nat.le_of_ble_eq_true rfl) (Nat.le_of_ble_eq_true rfl) (by decide) (ce_X3_readPair hG (oa_af h0 hA) (rg_w (⟨by decide, by decide⟩ : Rg 0 0 0)) (bc_af hb h0 hA) (fun _ _ _ _ h => h)) rfl (fun _ h => nomatch h) (fun S201 hx205 hG202 hB203 hA204 => ?_)
        obtain ⟨d206, hd207⟩ : ∃ q, q = F_X3_readPair bs n (StC S o0) ((x2 >>> (3 &&& 31))) (0) := ⟨_, rfl⟩
        have hq208 := (congrArg (fun q => F_X3_readPair bs n q ((x2 >>> (3 &&& 31))) (0)) (stC_mk (sC_193 (T := S) (o := o0) rfl) (sC_194 (T := S) (o := o0) rfl) (sC_195 (T := S) (o := o0) rfl) (sC_196 (T := S) (o := o0) rfl) (sC_197 (T := S) (o := o0) rfl) (sC_198 (T := S) (o := o0) rfl) (sC_199 (T := S) (o := o0) rfl) (sC_200 (T := S) (o := o0) rfl) (sC_201 (T := S) (o := o0) rfl) (sC_202 (T := S) (o := o0) rfl) (sC_203 (T := S) (o := o0) rfl) (sC_204 (T := S) (o := o0) rfl) (sC_205 (T := S) (o := o0) rfl))).trans hd207.symm
        have hs209 := hx205.trans hq208
        refine tt_goto (tgt := 193) dX3_readFrom_120 rfl ?_
        have hF : F_X3_readFrom_p82 bs n (StC S o0) x1 x2 = F_X3_readFrom_p193 bs n d206 (x1) := by
          subst hd207
          exact q_X3_readFrom_p82_5 q101 q146 q157
        exact tt_loc (ks := [1, 2]) rfl (ce_X3_readFrom_p193 hG202 (oa_af h0 hA204) (bc_af hb h0 hA204) (fun r T x y h => hP r T x y (pv_tr hA204 h (by decide) (fun v T e => e.trans ((congrArg (fun q => F_X3_readFrom_p193 bs n q (x1)) (stC_mk (sC_193 hs209) (sC_194 hs209) (sC_195 hs209) (sC_196 hs209) (sC_197 hs209) (sC_198 hs209) (sC_199 hs209) (sC_200 hs209) (sC_201 hs209) (sC_202 hs209) (sC_203 hs209) (sC_204 hs209) (sC_205 hs209))).trans hF.symm)))))
def F_X3_readFrom_p61 (bs : Nat → Int32) (n : Int32) (d : DD) (x1 : Int32) (x2 : Int32) : DD :=
  if ((e1 d) &&& 8) = 0 then
    F_X3_readFrom_p82 bs n ((e0 d), (e1 d), (e2 d), (e3 d), (e4 d), (e5 d), (e6 d), (e7 d), 32, (e9 d), (e10 d), (e11 d), (eJ d)) (x1) (x2)
  else
    F_X3_readFrom_p82 bs n ((e0 d), (e1 d), (e2 d), (e3 d), (e4 d), (e5 d), (e6 d), (e7 d), 64, (e9 d), (e10 d), (e11 d), (eJ d)) (x1) (x2)
theorem q_X3_readFrom_p61_0 {bs : Nat → Int32} {n : Int32} {d : DD} {x1 : Int32} {x2 : Int32} (h0 : ((e1 d) &&& 8) = 0) : F_X3_readFrom_p61 bs n d x1 x2 = F_X3_readFrom_p82 bs n ((e0 d), (e1 d), (e2 d), (e3 d), (e4 d), (e5 d), (e6 d), (e7 d), 32, (e9 d), (e10 d), (e11 d), (eJ d)) (x1) (x2) := by unfold F_X3_readFrom_p61; exact if_pos h0
theorem q_X3_readFrom_p61_1 {bs : Nat → Int32} {n : Int32} {d : DD} {x1 : Int32} {x2 : Int32} (h0 : ¬ ((e1 d) &&& 8) = 0) : F_X3_readFrom_p61 bs n d x1 x2 = F_X3_readFrom_p82 bs n ((e0 d), (e1 d), (e2 d), (e3 d), (e4 d), (e5 d), (e6 d), (e7 d), 64, (e9 d), (e10 d), (e11 d), (eJ d)) (x1) (x2) := by unfold F_X3_readFrom_p61; exact if_neg h0
set_option maxHeartbeats 40000000 in
theorem ce_X3_readFrom_p61 {xi : SX} {S : Hp} {E : List Nat} {kc nc : Nat} {P : Po} {o0 : Nat} {x1 : Int32} {x2 : Int32} {bs : Nat → Int32} {n : Int32} (hG : GI S E) (h0 : Oa S E 3 0 o0) (hb : BC S E o0 bs n) (hP : ∀ r T x y, PV E [193, 195, 196, 197, 198, 199, 200, 201, 202, 203, 204] S kc nc rV (fun v T => StC T o0 = F_X3_readFrom_p61 bs n (StC S o0) x1 x2) [] r T x y → P r T x y) : TT xi M_X3_readFrom 61 [(0, .ref o0), (1, .int x1), (2, .int x2)] [] S kc nc P := by
  have hA : Af E [193, 195, 196, 197, 198, 199, 200, 201, 202, 203, 204] S S := af_rf
  refine tt_aload_n (j := 0) dX3_readFrom_61 rfl ?_
  refine tt_aload_n (j := 0) dX3_readFrom_62 rfl ?_
  refine gt_gI (id := 194) (v := (e1 (StC S o0))) dX3_readFrom_63 fl_3_19 rfl rfl h0 hA (sC_194 (T := S) (o := o0) rfl) ?_
  refine tt_bipush (v := 8) dX3_readFrom_66 rfl ?_
  refine tt_iand dX3_readFrom_68 ?_
  refine tt_if_eq (tgt := 77) dX3_readFrom_69 rfl (fun q101 => ?_) (fun q101 => ?_)
  · skip
    have h102 : Rg 0 0 ((e1 (StC S o0)) &&& 8) := rg_eq_l (rg_and (x := (e1 (StC S o0))) (⟨by decide, by decide⟩ : Rg 8 8 8)) (⟨by decide, by decide⟩ : Rg 0 0 0) q101
    refine tt_bipush (v := 32) dX3_readFrom_77 rfl ?_
    refine gt_pI (id := 201) (x := 32) dX3_readFrom_79 fl_3_34 rfl rfl h0 hA rfl rfl rfl (gp_I hG) (by decide) (fun h => absurd h (by decide)) (fun h => absurd h (by decide)) (fun S103 hG104 hA105 e106 f107 er108 => ?_)
    have hF : F_X3_readFrom_p61 bs n (StC S o0) x1 x2 = F_X3_readFrom_p82 bs n ((e0 (StC S o0)), (e1 (StC S o0)), (e2 (StC S o0)), (e3 (StC S o0)), (e4 (StC S o0)), (e5 (StC S o0)), (e6 (StC S o0)), (e7 (StC S o0)), 32, (e9 (StC S o0)), (e10 (StC S o0)), (e11 (StC S o0)), (eJ (StC S o0))) (x1) (x2) := by
      exact q_X3_readFrom_p61_0 q101
    exact tt_loc (ks := [0, 1, 2]) rfl (ce_X3_readFrom_p82 hG104 (oa_af h0 hA105) (bc_af hb h0 hA105) (fun r T x y h => hP r T x y (pv_tr hA105 h (by decide) (fun v T e => e.trans ((congrArg (fun q => F_X3_readFrom_p82 bs n q (x1) (x2)) (stC_mk ((congrFun (congrFun e106 193) o0).trans ((congrFun (up2_ne (k := 193)) o0).trans (sC_193 (T := S) (o := o0) rfl))) ((congrFun (congrFun e106 194) o0).trans ((congrFun (up2_ne (k := 194)) o0).trans (sC_194 (T := S) (o := o0) rfl))) ((congrFun (congrFun e106 195) o0).trans ((congrFun (up2_ne (k := 195)) o0).trans (sC_195 (T := S) (o := o0) rfl))) ((congrFun (congrFun e106 196) o0).trans ((congrFun (up2_ne (k := 196)) o0).trans (sC_196 (T := S) (o := o0) rfl))) ((congrFun (congrFun e106 197) o0).trans ((congrFun (up2_ne (k := 197)) o0).trans (sC_197 (T := S) (o := o0) rfl))) ((congrFun (congrFun e106 198) o0).trans ((congrFun (up2_ne (k := 198)) o0).trans (sC_198 (T := S) (o := o0) rfl))) ((congrFun (congrFun e106 199) o0).trans ((congrFun (up2_ne (k := 199)) o0).trans (sC_199 (T := S) (o := o0) rfl))) ((congrFun (congrFun e106 200) o0).trans ((congrFun (up2_ne (k := 200)) o0).trans (sC_200 (T := S) (o := o0) rfl))) (by rw [e106]; exact up2_self) ((congrFun (congrFun e106 202) o0).trans ((congrFun (up2_ne (k := 202)) o0).trans (sC_202 (T := S) (o := o0) rfl))) ((congrFun (congrFun e106 203) o0).trans ((congrFun (up2_ne (k := 203)) o0).trans (sC_203 (T := S) (o := o0) rfl))) ((congrFun (congrFun e106 204) o0).trans ((congrFun (up2_ne (k := 204)) o0).trans (sC_204 (T := S) (o := o0) rfl))) ((congrFun (congrFun f107 205) o0).trans (sC_205 (T := S) (o := o0) rfl)))).trans hF.symm)))))
  · skip
    have h109 : Rg 1 8 ((e1 (StC S o0)) &&& 8) := rg_ne_lo (rg_and (x := (e1 (StC S o0))) (⟨by decide, by decide⟩ : Rg 8 8 8)) (⟨by decide, by decide⟩ : Rg 0 0 0) q101
    refine tt_bipush (v := 64) dX3_readFrom_72 rfl ?_
    refine tt_goto (tgt := 79) dX3_readFrom_74 rfl ?_
    refine gt_pI (id := 201) (x := 64) dX3_readFrom_79 fl_3_34 rfl rfl h0 hA rfl rfl rfl (gp_I hG) (by decide) (fun h => absurd h (by decide)) (fun h => absurd h (by decide)) (fun S110 hG111 hA112 e113 f114 er115 => ?_)
    have hF : F_X3_readFrom_p61 bs n (StC S o0) x1 x2 = F_X3_readFrom_p82 bs n ((e0 (StC S o0)), (e1 (StC S o0)), (e2 (StC S o0)), (e3 (StC S o0)), (e4 (StC S o0)), (e5 (StC S o0)), (e6 (StC S o0)), (e7 (StC S o0)), 64, (e9 (StC S o0)), (e10 (StC S o0)), (e11 (StC S o0)), (eJ (StC S o0))) (x1) (x2) := by
      exact q_X3_readFrom_p61_1 q101
    exact tt_loc (ks := [0, 1, 2]) rfl (ce_X3_readFrom_p82 hG111 (oa_af h0 hA112) (bc_af hb h0 hA112) (fun r T x y h => hP r T x y (pv_tr hA112 h (by decide) (fun v T e => e.trans ((congrArg (fun q => F_X3_readFrom_p82 bs n q (x1) (x2)) (stC_mk ((congrFun (congrFun e113 193) o0).trans ((congrFun (up2_ne (k := 193)) o0).trans (sC_193 (T := S) (o := o0) rfl))) ((congrFun (congrFun e113 194) o0).trans ((congrFun (up2_ne (k := 194)) o0).trans (sC_194 (T := S) (o := o0) rfl))) ((congrFun (congrFun e113 195) o0).trans ((congrFun (up2_ne (k := 195)) o0).trans (sC_195 (T := S) (o := o0) rfl))) ((congrFun (congrFun e113 196) o0).trans ((congrFun (up2_ne (k := 196)) o0).trans (sC_196 (T := S) (o := o0) rfl))) ((congrFun (congrFun e113 197) o0).trans ((congrFun (up2_ne (k := 197)) o0).trans (sC_197 (T := S) (o := o0) rfl))) ((congrFun (congrFun e113 198) o0).trans ((congrFun (up2_ne (k := 198)) o0).trans (sC_198 (T := S) (o := o0) rfl))) ((congrFun (congrFun e113 199) o0).trans ((congrFun (up2_ne (k := 199)) o0).trans (sC_199 (T := S) (o := o0) rfl))) ((congrFun (congrFun e113 200) o0).trans ((congrFun (up2_ne (k := 200)) o0).trans (sC_200 (T := S) (o := o0) rfl))) (by rw [e113]; exact up2_self) ((congrFun (congrFun e113 202) o0).trans ((congrFun (up2_ne (k := 202)) o0).trans (sC_202 (T := S) (o := o0) rfl))) ((congrFun (congrFun e113 203) o0).trans ((congrFun (up2_ne (k := 203)) o0).trans (sC_203 (T := S) (o := o0) rfl))) ((congrFun (congrFun e113 204) o0).trans ((congrFun (up2_ne (k := 204)) o0).trans (sC_204 (T := S) (o := o0) rfl))) ((congrFun (congrFun f114 205) o0).trans (sC_205 (T := S) (o := o0) rfl)))).trans hF.symm)))))
def F_X3_readFrom_p46 (bs : Nat → Int32) (n : Int32) (d : DD) (x1 : Int32) (x2 : Int32) : DD :=
  if x2 = 15 then
    let d108 := F_X3_nextByte bs n d 
    F_X3_readFrom_p61 bs n d108.1 (x1) ((256 + d108.2))
  else
    F_X3_readFrom_p61 bs n d (x1) (x2)
theorem q_X3_readFrom_p46_0 {bs : Nat → Int32} {n : Int32} {d : DD} {x1 : Int32} {x2 : Int32} (h0 : x2 = 15) : F_X3_readFrom_p46 bs n d x1 x2 = F_X3_readFrom_p61 bs n (F_X3_nextByte bs n d).1 (x1) ((256 + (F_X3_nextByte bs n d).2)) := by unfold F_X3_readFrom_p46; exact if_pos h0
theorem q_X3_readFrom_p46_1 {bs : Nat → Int32} {n : Int32} {d : DD} {x1 : Int32} {x2 : Int32} (h0 : ¬ x2 = 15) : F_X3_readFrom_p46 bs n d x1 x2 = F_X3_readFrom_p61 bs n d (x1) (x2) := by unfold F_X3_readFrom_p46; exact if_neg h0
set_option maxHeartbeats 40000000 in
theorem ce_X3_readFrom_p46 {xi : SX} {S : Hp} {E : List Nat} {kc nc : Nat} {P : Po} {o0 : Nat} {x1 : Int32} {x2 : Int32} {bs : Nat → Int32} {n : Int32} (hG : GI S E) (h0 : Oa S E 3 0 o0) (hb : BC S E o0 bs n) (hP : ∀ r T x y, PV E [193, 195, 196, 197, 198, 199, 200, 201, 202, 203, 204] S kc nc rV (fun v T => StC T o0 = F_X3_readFrom_p46 bs n (StC S o0) x1 x2) [] r T x y → P r T x y) : TT xi M_X3_readFrom 46 [(0, .ref o0), (1, .int x1), (2, .int x2)] [] S kc nc P := by
  have hA : Af E [193, 195, 196, 197, 198, 199, 200, 201, 202, 203, 204] S S := af_rf
  refine tt_iload_n (j := 2) dX3_readFrom_46 rfl ?_
  refine tt_bipush (v := 15) dX3_readFrom_47 rfl ?_
  refine tt_icmp_ne (tgt := 61) dX3_readFrom_49 rfl (fun q101 => ?_) (fun q101 => ?_)
  · skip
    have hF : F_X3_readFrom_p46 bs n (StC S o0) x1 x2 = F_X3_readFrom_p61 bs n (StC S o0) (x1) (x2) := by
      exact q_X3_readFrom_p46_1 q101
    exact tt_loc (ks := [0, 1, 2]) rfl (ce_X3_readFrom_p61 hG (oa_af h0 hA) (bc_af hb h0 hA) (fun r T x y h => hP r T x y (pv_tr hA h (by decide) (fun v T e => e.trans ((congrArg (fun q => F_X3_readFrom_p61 bs n q (x1) (x2)) (stC_mk (sC_193 (T := S) (o := o0) rfl) (sC_194 (T := S) (o := o0) rfl) (sC_195 (T := S) (o := o0) rfl) (sC_196 (T := S) (o := o0) rfl) (sC_197 (T := S) (o := o0) rfl) (sC_198 (T := S) (o := o0) rfl) (sC_199 (T := S) (o := o0) rfl) (sC_200 (T := S) (o := o0) rfl) (sC_201 (T := S) (o := o0) rfl) (sC_202 (T := S) (o := o0) rfl) (sC_203 (T := S) (o := o0) rfl) (sC_204 (T := S) (o := o0) rfl) (sC_205 (T := S) (o := o0) rfl))).trans hF.symm)))))
  · skip
    have h102 : Rg 15 15 x2 := rg_eq_l (rg_all x2) (⟨by decide, by decide⟩ : Rg 15 15 15) q101
    refine tt_sipush (v := 256) dX3_readFrom_52 rfl ?_
    refine tt_aload_n (j := 0) dX3_readFrom_55 rfl ?_
    refine gt_VI (As := []) dX3_readFrom_56 ca_X3_30 ⟨by decide, by decide⟩ h0 hA rfl (Nat.le_of_ble_eq_true rfl) (Nat.le_of_ble_eq_true rfl) (by decide) (ce_X3_nextByte hG (oa_af h0 hA) (bc_af hb h0 hA) (fun _ _ _ _ h => h)) rfl (fun _ h => nomatch h) (fun S103 x112 h113 hx107 hG104 hB105 hA106 => ?_)
    obtain ⟨d108, hd109⟩ : ∃ q, q = F_X3_nextByte bs n (StC S o0)  := ⟨_, rfl⟩
    have hq110 := (congrArg (fun q => F_X3_nextByte bs n q ) (stC_mk (sC_193 (T := S) (o := o0) rfl) (sC_194 (T := S) (o := o0) rfl) (sC_195 (T := S) (o := o0) rfl) (sC_196 (T := S) (o := o0) rfl) (sC_197 (T := S) (o := o0) rfl) (sC_198 (T := S) (o := o0) rfl) (sC_199 (T := S) (o := o0) rfl) (sC_200 (T := S) (o := o0) rfl) (sC_201 (T := S) (o := o0) rfl) (sC_202 (T := S) (o := o0) rfl) (sC_203 (T := S) (o := o0) rfl) (sC_204 (T := S) (o := o0) rfl) (sC_205 (T := S) (o := o0) rfl))).trans hd109.symm
    have hs111 := hx107.2.trans (congrArg Prod.fst hq110)
    obtain rfl : x112 = d108.2 := (xiC_v hx107).trans (congrArg Prod.snd hq110)
    refine tt_iadd dX3_readFrom_59 ?_
    refine tt_istore_n (ks := [0, 1, 2]) (L' := [(2, .int (256 + d108.2)), (0, .ref o0), (1, .int x1)]) dX3_readFrom_60 (by decide) rfl ?_
    have hF : F_X3_readFrom_p46 bs n (StC S o0) x1 x2 = F_X3_readFrom_p61 bs n d108.1 (x1) ((256 + d108.2)) := by
      subst hd109
      exact q_X3_readFrom_p46_0 q101
    exact tt_loc (ks := [1, 2, 0]) rfl (ce_X3_readFrom_p61 hG104 (oa_af h0 hA106) (bc_af hb h0 hA106) (fun r T x y h => hP r T x y (pv_tr hA106 h (by decide) (fun v T e => e.trans ((congrArg (fun q => F_X3_readFrom_p61 bs n q (x1) ((256 + d108.2))) (stC_mk (sC_193 hs111) (sC_194 hs111) (sC_195 hs111) (sC_196 hs111) (sC_197 hs111) (sC_198 hs111) (sC_199 hs111) (sC_200 hs111) (sC_201 hs111) (sC_202 hs111) (sC_203 hs111) (sC_204 hs111) (sC_205 hs111))).trans hF.symm)))))
def F_X3_readFrom (bs : Nat → Int32) (n : Int32) (d : DD) (x1 : Int32) : DD :=
  let d124 := F_X3_becomePlain bs n (x1, 0, 1, (e3 d), (e4 d), (e5 d), (e6 d), (e7 d), (e8 d), (e9 d), (e10 d), (e11 d), (eJ d)) (21)
  let d133 := F_X3_nextByte bs n d124 
  if (d133.2 &&& 242) = 64 then
    let d152 := F_X3_nextByte bs n ((e0 d133.1), d133.2, (e2 d133.1), (e3 d133.1), (e4 d133.1), (e5 d133.1), (e6 d133.1), (e7 d133.1), (e8 d133.1), (e9 d133.1), (e10 d133.1), (e11 d133.1), (eJ d133.1)) 
    F_X3_readFrom_p46 bs n d152.1 (x1) (d152.2)
  else
    F_X3_readFrom_p46 bs n d133.1 (x1) (d133.2)
theorem q_X3_readFrom_0 {bs : Nat → Int32} {n : Int32} {d : DD} {x1 : Int32} (h0 : ((F_X3_nextByte bs n (F_X3_becomePlain bs n (x1, 0, 1, (e3 d), (e4 d), (e5 d), (e6 d), (e7 d), (e8 d), (e9 d), (e10 d), (e11 d), (eJ d)) (21))).2 &&& 242) = 64) : F_X3_readFrom bs n d x1 = F_X3_readFrom_p46 bs n (F_X3_nextByte bs n ((e0 (F_X3_nextByte bs n (F_X3_becomePlain bs n (x1, 0, 1, (e3 d), (e4 d), (e5 d), (e6 d), (e7 d), (e8 d), (e9 d), (e10 d), (e11 d), (eJ d)) (21))).1), (F_X3_nextByte bs n (F_X3_becomePlain bs n (x1, 0, 1, (e3 d), (e4 d), (e5 d), (e6 d), (e7 d), (e8 d), (e9 d), (e10 d), (e11 d), (eJ d)) (21))).2, (e2 (F_X3_nextByte bs n (F_X3_becomePlain bs n (x1, 0, 1, (e3 d), (e4 d), (e5 d), (e6 d), (e7 d), (e8 d), (e9 d), (e10 d), (e11 d), (eJ d)) (21))).1), (e3 (F_X3_nextByte bs n (F_X3_becomePlain bs n (x1, 0, 1, (e3 d), (e4 d), (e5 d), (e6 d), (e7 d), (e8 d), (e9 d), (e10 d), (e11 d), (eJ d)) (21))).1), (e4 (F_X3_nextByte bs n (F_X3_becomePlain bs n (x1, 0, 1, (e3 d), (e4 d), (e5 d), (e6 d), (e7 d), (e8 d), (e9 d), (e10 d), (e11 d), (eJ d)) (21))).1), (e5 (F_X3_nextByte bs n (F_X3_becomePlain bs n (x1, 0, 1, (e3 d), (e4 d), (e5 d), (e6 d), (e7 d), (e8 d), (e9 d), (e10 d), (e11 d), (eJ d)) (21))).1), (e6 (F_X3_nextByte bs n (F_X3_becomePlain bs n (x1, 0, 1, (e3 d), (e4 d), (e5 d), (e6 d), (e7 d), (e8 d), (e9 d), (e10 d), (e11 d), (eJ d)) (21))).1), (e7 (F_X3_nextByte bs n (F_X3_becomePlain bs n (x1, 0, 1, (e3 d), (e4 d), (e5 d), (e6 d), (e7 d), (e8 d), (e9 d), (e10 d), (e11 d), (eJ d)) (21))).1), (e8 (F_X3_nextByte bs n (F_X3_becomePlain bs n (x1, 0, 1, (e3 d), (e4 d), (e5 d), (e6 d), (e7 d), (e8 d), (e9 d), (e10 d), (e11 d), (eJ d)) (21))).1), (e9 (F_X3_nextByte bs n (F_X3_becomePlain bs n (x1, 0, 1, (e3 d), (e4 d), (e5 d), (e6 d), (e7 d), (e8 d), (e9 d), (e10 d), (e11 d), (eJ d)) (21))).1), (e10 (F_X3_nextByte bs n (F_X3_becomePlain bs n (x1, 0, 1, (e3 d), (e4 d), (e5 d), (e6 d), (e7 d), (e8 d), (e9 d), (e10 d), (e11 d), (eJ d)) (21))).1), (e11 (F_X3_nextByte bs n (F_X3_becomePlain bs n (x1, 0, 1, (e3 d), (e4 d), (e5 d), (e6 d), (e7 d), (e8 d), (e9 d), (e10 d), (e11 d), (eJ d)) (21))).1), (eJ (F_X3_nextByte bs n (F_X3_becomePlain bs n (x1, 0, 1, (e3 d), (e4 d), (e5 d), (e6 d), (e7 d), (e8 d), (e9 d), (e10 d), (e11 d), (eJ d)) (21))).1))).1 (x1) ((F_X3_nextByte bs n ((e0 (F_X3_nextByte bs n (F_X3_becomePlain bs n (x1, 0, 1, (e3 d), (e4 d), (e5 d), (e6 d), (e7 d), (e8 d), (e9 d), (e10 d), (e11 d), (eJ d)) (21))).1), (F_X3_nextByte bs n (F_X3_becomePlain bs n (x1, 0, 1, (e3 d), (e4 d), (e5 d), (e6 d), (e7 d), (e8 d), (e9 d), (e10 d), (e11 d), (eJ d)) (21))).2, (e2 (F_X3_nextByte bs n (F_X3_becomePlain bs n (x1, 0, 1, (e3 d), (e4 d), (e5 d), (e6 d), (e7 d), (e8 d), (e9 d), (e10 d), (e11 d), (eJ d)) (21))).1), (e3 (F_X3_nextByte bs n (F_X3_becomePlain bs n (x1, 0, 1, (e3 d), (e4 d), (e5 d), (e6 d), (e7 d), (e8 d), (e9 d), (e10 d), (e11 d), (eJ d)) (21))).1), (e4 (F_X3_nextByte bs n (F_X3_becomePlain bs n (x1, 0, 1, (e3 d), (e4 d), (e5 d), (e6 d), (e7 d), (e8 d), (e9 d), (e10 d), (e11 d), (eJ d)) (21))).1), (e5 (F_X3_nextByte bs n (F_X3_becomePlain bs n (x1, 0, 1, (e3 d), (e4 d), (e5 d), (e6 d), (e7 d), (e8 d), (e9 d), (e10 d), (e11 d), (eJ d)) (21))).1), (e6 (F_X3_nextByte bs n (F_X3_becomePlain bs n (x1, 0, 1, (e3 d), (e4 d), (e5 d), (e6 d), (e7 d), (e8 d), (e9 d), (e10 d), (e11 d), (eJ d)) (21))).1), (e7 (F_X3_nextByte bs n (F_X3_becomePlain bs n (x1, 0, 1, (e3 d), (e4 d), (e5 d), (e6 d), (e7 d), (e8 d), (e9 d), (e10 d), (e11 d), (eJ d)) (21))).1), (e8 (F_X3_nextByte bs n (F_X3_becomePlain bs n (x1, 0, 1, (e3 d), (e4 d), (e5 d), (e6 d), (e7 d), (e8 d), (e9 d), (e10 d), (e11 d), (eJ d)) (21))).1), (e9 (F_X3_nextByte bs n (F_X3_becomePlain bs n (x1, 0, 1, (e3 d), (e4 d), (e5 d), (e6 d), (e7 d), (e8 d), (e9 d), (e10 d), (e11 d), (eJ d)) (21))).1), (e10 (F_X3_nextByte bs n (F_X3_becomePlain bs n (x1, 0, 1, (e3 d), (e4 d), (e5 d), (e6 d), (e7 d), (e8 d), (e9 d), (e10 d), (e11 d), (eJ d)) (21))).1), (e11 (F_X3_nextByte bs n (F_X3_becomePlain bs n (x1, 0, 1, (e3 d), (e4 d), (e5 d), (e6 d), (e7 d), (e8 d), (e9 d), (e10 d), (e11 d), (eJ d)) (21))).1), (eJ (F_X3_nextByte bs n (F_X3_becomePlain bs n (x1, 0, 1, (e3 d), (e4 d), (e5 d), (e6 d), (e7 d), (e8 d), (e9 d), (e10 d), (e11 d), (eJ d)) (21))).1))).2) := by unfold F_X3_readFrom; exact if_pos h0
theorem q_X3_readFrom_1 {bs : Nat → Int32} {n : Int32} {d : DD} {x1 : Int32} (h0 : ¬ ((F_X3_nextByte bs n (F_X3_becomePlain bs n (x1, 0, 1, (e3 d), (e4 d), (e5 d), (e6 d), (e7 d), (e8 d), (e9 d), (e10 d), (e11 d), (eJ d)) (21))).2 &&& 242) = 64) : F_X3_readFrom bs n d x1 = F_X3_readFrom_p46 bs n (F_X3_nextByte bs n (F_X3_becomePlain bs n (x1, 0, 1, (e3 d), (e4 d), (e5 d), (e6 d), (e7 d), (e8 d), (e9 d), (e10 d), (e11 d), (eJ d)) (21))).1 (x1) ((F_X3_nextByte bs n (F_X3_becomePlain bs n (x1, 0, 1, (e3 d), (e4 d), (e5 d), (e6 d), (e7 d), (e8 d), (e9 d), (e10 d), (e11 d), (eJ d)) (21))).2) := by unfold F_X3_readFrom; exact if_neg h0
set_option maxHeartbeats 40000000 in
theorem ce_X3_readFrom {xi : SX} {S : Hp} {E : List Nat} {kc nc : Nat} {P : Po} {o0 : Nat} {x1 : Int32} {bs : Nat → Int32} {n : Int32} (hG : GI S E) (h0 : Oa S E 3 0 o0) (hb : BC S E o0 bs n) (hP : ∀ r T x y, PV E [193, 194, 195, 196, 197, 198, 199, 200, 201, 202, 203, 204] S kc nc rV (fun v T => StC T o0 = F_X3_readFrom bs n (StC S o0) x1) [] r T x y → P r T x y) : TT xi M_X3_readFrom 0 [(0, .ref o0), (1, .int x1)] [] S kc nc P := by
  have hA : Af E [193, 194, 195, 196, 197, 198, 199, 200, 201, 202, 203, 204] S S := af_rf
  refine tt_aload_n (j := 0) dX3_readFrom_0 rfl ?_
  refine tt_iload_n (j := 1) dX3_readFrom_1 rfl ?_
  refine gt_pI (id := 193) (x := x1) dX3_readFrom_2 fl_3_15 rfl rfl h0 hA rfl rfl rfl (gp_I hG) (by decide) (fun h => absurd h (by decide)) (fun h => absurd h (by decide)) (fun S101 hG102 hA103 e104 f105 er106 => ?_)
  refine tt_aload_n (j := 0) dX3_readFrom_5 rfl ?_
  refine tt_iconst (v := 0) dX3_readFrom_6 rfl ?_
  refine gt_pI (id := 194) (x := 0) dX3_readFrom_7 fl_3_19 rfl rfl h0 hA103 rfl rfl rfl (gp_I hG102) (by decide) (fun h => absurd h (by decide)) (fun h => absurd h (by decide)) (fun S107 hG108 hA109 e110 f111 er112 => ?_)
  refine tt_aload_n (j := 0) dX3_readFrom_10 rfl ?_
  refine tt_iconst (v := 1) dX3_readFrom_11 rfl ?_
  refine gt_pI (id := 195) (x := 1) dX3_readFrom_12 fl_3_22 rfl rfl h0 hA109 rfl rfl rfl (gp_Ir hG108 (⟨by decide, by decide⟩ : Rg 1 1 1)) (by decide) (fun h => absurd h (by decide)) (fun h => absurd h (by decide)) (fun S113 hG114 hA115 e116 f117 er118 => ?_)
  refine tt_aload_n (j := 0) dX3_readFrom_15 rfl ?_
  refine tt_bipush (v := 21) dX3_readFrom_16 rfl ?_
  refine gt_Vv (As := [.int 21]) dX3_readFrom_18 ca_X3_26 ⟨by decide, by decide⟩ h0 hA115 rfl (Nat.le_of_ble_eq_true rfl) (Nat.le_of_ble_eq_true rfl) (by decide) (ce_X3_becomePlain hG114 (oa_af h0 hA115) (bc_af hb h0 hA115) (fun _ _ _ _ h => h)) rfl (fun _ h => nomatch h) (fun S119 hx123 hG120 hB121 hA122 => ?_)
  obtain ⟨d124, hd125⟩ : ∃ q, q = F_X3_becomePlain bs n (x1, 0, 1, (e3 (StC S o0)), (e4 (StC S o0)), (e5 (StC S o0)), (e6 (StC S o0)), (e7 (StC S o0)), (e8 (StC S o0)), (e9 (StC S o0)), (e10 (StC S o0)), (e11 (StC S o0)), (eJ (StC S o0))) (21) := ⟨_, rfl⟩
  have hq126 := (congrArg (fun q => F_X3_becomePlain bs n q (21)) (stC_mk ((congrFun (congrFun e116 193) o0).trans ((congrFun (up2_ne (k := 193)) o0).trans ((congrFun (congrFun e110 193) o0).trans ((congrFun (up2_ne (k := 193)) o0).trans (by rw [e104]; exact up2_self))))) ((congrFun (congrFun e116 194) o0).trans ((congrFun (up2_ne (k := 194)) o0).trans (by rw [e110]; exact up2_self))) (by rw [e116]; exact up2_self) ((congrFun (congrFun e116 196) o0).trans ((congrFun (up2_ne (k := 196)) o0).trans ((congrFun (congrFun e110 196) o0).trans ((congrFun (up2_ne (k := 196)) o0).trans ((congrFun (congrFun e104 196) o0).trans ((congrFun (up2_ne (k := 196)) o0).trans (sC_196 (T := S) (o := o0) rfl))))))) ((congrFun (congrFun e116 197) o0).trans ((congrFun (up2_ne (k := 197)) o0).trans ((congrFun (congrFun e110 197) o0).trans ((congrFun (up2_ne (k := 197)) o0).trans ((congrFun (congrFun e104 197) o0).trans ((congrFun (up2_ne (k := 197)) o0).trans (sC_197 (T := S) (o := o0) rfl))))))) ((congrFun (congrFun e116 198) o0).trans ((congrFun (up2_ne (k := 198)) o0).trans ((congrFun (congrFun e110 198) o0).trans ((congrFun (up2_ne (k := 198)) o0).trans ((congrFun (congrFun e104 198) o0).trans ((congrFun (up2_ne (k := 198)) o0).trans (sC_198 (T := S) (o := o0) rfl))))))) ((congrFun (congrFun e116 199) o0).trans ((congrFun (up2_ne (k := 199)) o0).trans ((congrFun (congrFun e110 199) o0).trans ((congrFun (up2_ne (k := 199)) o0).trans ((congrFun (congrFun e104 199) o0).trans ((congrFun (up2_ne (k := 199)) o0).trans (sC_199 (T := S) (o := o0) rfl))))))) ((congrFun (congrFun e116 200) o0).trans ((congrFun (up2_ne (k := 200)) o0).trans ((congrFun (congrFun e110 200) o0).trans ((congrFun (up2_ne (k := 200)) o0).trans ((congrFun (congrFun e104 200) o0).trans ((congrFun (up2_ne (k := 200)) o0).trans (sC_200 (T := S) (o := o0) rfl))))))) ((congrFun (congrFun e116 201) o0).trans ((congrFun (up2_ne (k := 201)) o0).trans ((congrFun (congrFun e110 201) o0).trans ((congrFun (up2_ne (k := 201)) o0).trans ((congrFun (congrFun e104 201) o0).trans ((congrFun (up2_ne (k := 201)) o0).trans (sC_201 (T := S) (o := o0) rfl))))))) ((congrFun (congrFun e116 202) o0).trans ((congrFun (up2_ne (k := 202)) o0).trans ((congrFun (congrFun e110 202) o0).trans ((congrFun (up2_ne (k := 202)) o0).trans ((congrFun (congrFun e104 202) o0).trans ((congrFun (up2_ne (k := 202)) o0).trans (sC_202 (T := S) (o := o0) rfl))))))) ((congrFun (congrFun e116 203) o0).trans ((congrFun (up2_ne (k := 203)) o0).trans ((congrFun (congrFun e110 203) o0).trans ((congrFun (up2_ne (k := 203)) o0).trans ((congrFun (congrFun e104 203) o0).trans ((congrFun (up2_ne (k := 203)) o0).trans (sC_203 (T := S) (o := o0) rfl))))))) ((congrFun (congrFun e116 204) o0).trans ((congrFun (up2_ne (k := 204)) o0).trans ((congrFun (congrFun e110 204) o0).trans ((congrFun (up2_ne (k := 204)) o0).trans ((congrFun (congrFun e104 204) o0).trans ((congrFun (up2_ne (k := 204)) o0).trans (sC_204 (T := S) (o := o0) rfl))))))) ((congrFun (congrFun f117 205) o0).trans ((congrFun (congrFun f111 205) o0).trans ((congrFun (congrFun f105 205) o0).trans (sC_205 (T := S) (o := o0) rfl)))))).trans hd125.symm
  have hs127 := hx123.trans hq126
  refine tt_aload_n (j := 0) dX3_readFrom_21 rfl ?_
  refine gt_VI (As := []) dX3_readFrom_22 ca_X3_30 ⟨by decide, by decide⟩ h0 hA122 rfl (Nat.le_of_ble_eq_true rfl) (Nat.le_of_ble_eq_true rfl) (by decide) (ce_X3_nextByte hG120 (oa_af h0 hA122) (bc_af hb h0 hA122) (fun _ _ _ _ h => h)) rfl (fun _ h => nomatch h) (fun S128 x137 h138 hx132 hG129 hB130 hA131 => ?_)
  obtain ⟨d133, hd134⟩ : ∃ q, q = F_X3_nextByte bs n d124  := ⟨_, rfl⟩
  have hq135 := (congrArg (fun q => F_X3_nextByte bs n q ) (stC_mk (sC_193 hs127) (sC_194 hs127) (sC_195 hs127) (sC_196 hs127) (sC_197 hs127) (sC_198 hs127) (sC_199 hs127) (sC_200 hs127) (sC_201 hs127) (sC_202 hs127) (sC_203 hs127) (sC_204 hs127) (sC_205 hs127))).trans hd134.symm
  have hs136 := hx132.2.trans (congrArg Prod.fst hq135)
  obtain rfl : x137 = d133.2 := (xiC_v hx132).trans (congrArg Prod.snd hq135)
  refine tt_istore_n (ks := [0, 1, 2]) (L' := [(2, .int d133.2), (0, .ref o0), (1, .int x1)]) dX3_readFrom_25 (by decide) rfl ?_
  refine tt_iload_n (j := 0) dX3_readFrom_26 rfl ?_
  refine tt_sipush (v := 242) dX3_readFrom_27 rfl ?_
  refine tt_iand dX3_readFrom_30 ?_
  refine tt_bipush (v := 64) dX3_readFrom_31 rfl ?_
  refine tt_icmp_ne (tgt := 46) dX3_readFrom_33 rfl (fun q139 => ?_) (fun q139 => ?_)
  · skip
    have hF : F_X3_readFrom bs n (StC S o0) x1 = F_X3_readFrom_p46 bs n d133.1 (x1) (d133.2) := by
      subst hd134
      subst hd125
      exact q_X3_readFrom_1 q139
    exact tt_loc (ks := [1, 2, 0]) rfl (ce_X3_readFrom_p46 hG129 (oa_af h0 hA131) (bc_af hb h0 hA131) (fun r T x y h => hP r T x y (pv_tr hA131 h (by decide) (fun v T e => e.trans ((congrArg (fun q => F_X3_readFrom_p46 bs n q (x1) (d133.2)) (stC_mk (sC_193 hs136) (sC_194 hs136) (sC_195 hs136) (sC_196 hs136) (sC_197 hs136) (sC_198 hs136) (sC_199 hs136) (sC_200 hs136) (sC_201 hs136) (sC_202 hs136) (sC_203 hs136) (sC_204 hs136) (sC_205 hs136))).trans hF.symm)))))
  · skip
    have h140 : Rg 64 64 (d133.2 &&& 242) := rg_eq_l (rg_and (x := d133.2) (⟨by decide, by decide⟩ : Rg 242 242 242)) (⟨by decide, by decide⟩ : Rg 64 64 64) q139
    refine tt_aload_n (j := 1) dX3_readFrom_36 rfl ?_
    refine tt_iload_n (j := 0) dX3_readFrom_37 rfl ?_
    refine gt_pI (id := 194) (x := d133.2) dX3_readFrom_38 fl_3_19 rfl rfl h0 hA131 rfl rfl rfl (gp_I hG129) (by decide) (fun h => absurd h (by decide)) (fun h => absurd h (by decide)) (fun S141 hG142 hA143 e144 f145 er146 => ?_)
    refine tt_aload_n (j := 1) dX3_readFrom_41 rfl ?_
    refine gt_VI (As := []) dX3_readFrom_42 ca_X3_30 ⟨by decide, by decide⟩ h0 hA143 rfl (Nat.le_of_ble_eq_true rfl) (Nat.le_of_ble_eq_true rfl) (by decide) (ce_X3_nextByte hG142 (oa_af h0 hA143) (bc_af hb h0 hA143) (fun _ _ _ _ h => h)) rfl (fun _ h => nomatch h) (fun S147 x156 h157 hx151 hG148 hB149 hA150 => ?_)
    obtain ⟨d152, hd153⟩ : ∃ q, q = F_X3_nextByte bs n ((e0 d133.1), d133.2, (e2 d133.1), (e3 d133.1), (e4 d133.1), (e5 d133.1), (e6 d133.1), (e7 d133.1), (e8 d133.1), (e9 d133.1), (e10 d133.1), (e11 d133.1), (eJ d133.1))  := ⟨_, rfl⟩
    have hq154 := (congrArg (fun q => F_X3_nextByte bs n q ) (stC_mk ((congrFun (congrFun e144 193) o0).trans ((congrFun (up2_ne (k := 193)) o0).trans (sC_193 hs136))) (by rw [e144]; exact up2_self) ((congrFun (congrFun e144 195) o0).trans ((congrFun (up2_ne (k := 195)) o0).trans (sC_195 hs136))) ((congrFun (congrFun e144 196) o0).trans ((congrFun (up2_ne (k := 196)) o0).trans (sC_196 hs136))) ((congrFun (congrFun e144 197) o0).trans ((congrFun (up2_ne (k := 197)) o0).trans (sC_197 hs136))) ((congrFun (congrFun e144 198) o0).trans ((congrFun (up2_ne (k := 198)) o0).trans (sC_198 hs136))) ((congrFun (congrFun e144 199) o0).trans ((congrFun (up2_ne (k := 199)) o0).trans (sC_199 hs136))) ((congrFun (congrFun e144 200) o0).trans ((congrFun (up2_ne (k := 200)) o0).trans (sC_200 hs136))) ((congrFun (congrFun e144 201) o0).trans ((congrFun (up2_ne (k := 201)) o0).trans (sC_201 hs136))) ((congrFun (congrFun e144 202) o0).trans ((congrFun (up2_ne (k := 202)) o0).trans (sC_202 hs136))) ((congrFun (congrFun e144 203) o0).trans ((congrFun (up2_ne (k := 203)) o0).trans (sC_203 hs136))) ((congrFun (congrFun e144 204) o0).trans ((congrFun (up2_ne (k := 204)) o0).trans (sC_204 hs136))) ((congrFun (congrFun f145 205) o0).trans (sC_205 hs136)))).trans hd153.symm
    have hs155 := hx151.2.trans (congrArg Prod.fst hq154)
    obtain rfl : x156 = d152.2 := (xiC_v hx151).trans (congrArg Prod.snd hq154)
    refine tt_istore_n (ks := [0, 1, 2]) (L' := [(2, .int d152.2), (0, .ref o0), (1, .int x1)]) dX3_readFrom_45 (by decide) rfl ?_
    have hF : F_X3_readFrom bs n (StC S o0) x1 = F_X3_readFrom_p46 bs n d152.1 (x1) (d152.2) := by
      subst hd153
      subst hd134
      subst hd125
      exact q_X3_readFrom_0 q139
    exact tt_loc (ks := [1, 2, 0]) rfl (ce_X3_readFrom_p46 hG148 (oa_af h0 hA150) (bc_af hb h0 hA150) (fun r T x y h => hP r T x y (pv_tr hA150 h (by decide) (fun v T e => e.trans ((congrArg (fun q => F_X3_readFrom_p46 bs n q (x1) (d152.2)) (stC_mk (sC_193 hs155) (sC_194 hs155) (sC_195 hs155) (sC_196 hs155) (sC_197 hs155) (sC_198 hs155) (sC_199 hs155) (sC_200 hs155) (sC_201 hs155) (sC_202 hs155) (sC_203 hs155) (sC_204 hs155) (sC_205 hs155))).trans hF.symm)))))
def F_X3_tell (bs : Nat → Int32) (n : Int32) (d : DD) (x1 : Int32) : DD × Int32 :=
  if (e7 d) = (-1) then
    (d, (-1))
  else
    if x1 = 0 then
      (d, (e6 d))
    else
      if x1 = 1 then
        (d, (e7 d))
      else
        if x1 = 2 then
          (d, (e8 d))
        else
          if x1 = 3 then
            (d, (e9 d))
          else
            if x1 = 4 then
              (d, (e10 d))
            else
              (d, (e11 d))
theorem q_X3_tell_0 {bs : Nat → Int32} {n : Int32} {d : DD} {x1 : Int32} (h0 : (e7 d) = (-1)) : F_X3_tell bs n d x1 = (d, (-1)) := by unfold F_X3_tell; exact if_pos h0
theorem q_X3_tell_1 {bs : Nat → Int32} {n : Int32} {d : DD} {x1 : Int32} (h0 : ¬ (e7 d) = (-1)) (h1 : x1 = 0) : F_X3_tell bs n d x1 = (d, (e6 d)) := by unfold F_X3_tell; exact Eq.trans (if_neg h0) (if_pos h1)
theorem q_X3_tell_2 {bs : Nat → Int32} {n : Int32} {d : DD} {x1 : Int32} (h0 : ¬ (e7 d) = (-1)) (h1 : ¬ x1 = 0) (h2 : x1 = 1) : F_X3_tell bs n d x1 = (d, (e7 d)) := by unfold F_X3_tell; exact Eq.trans (if_neg h0) (Eq.trans (if_neg h1) (if_pos h2))
theorem q_X3_tell_3 {bs : Nat → Int32} {n : Int32} {d : DD} {x1 : Int32} (h0 : ¬ (e7 d) = (-1)) (h1 : ¬ x1 = 0) (h2 : ¬ x1 = 1) (h3 : x1 = 2) : F_X3_tell bs n d x1 = (d, (e8 d)) := by unfold F_X3_tell; exact Eq.trans (if_neg h0) (Eq.trans (if_neg h1) (Eq.trans (if_neg h2) (if_pos h3)))
theorem q_X3_tell_4 {bs : Nat → Int32} {n : Int32} {d : DD} {x1 : Int32} (h0 : ¬ (e7 d) = (-1)) (h1 : ¬ x1 = 0) (h2 : ¬ x1 = 1) (h3 : ¬ x1 = 2) (h4 : x1 = 3) : F_X3_tell bs n d x1 = (d, (e9 d)) := by unfold F_X3_tell; exact Eq.trans (if_neg h0) (Eq.trans (if_neg h1) (Eq.trans (if_neg h2) (Eq.trans (if_neg h3) (if_pos h4))))
theorem q_X3_tell_5 {bs : Nat → Int32} {n : Int32} {d : DD} {x1 : Int32} (h0 : ¬ (e7 d) = (-1)) (h1 : ¬ x1 = 0) (h2 : ¬ x1 = 1) (h3 : ¬ x1 = 2) (h4 : ¬ x1 = 3) (h5 : x1 = 4) : F_X3_tell bs n d x1 = (d, (e10 d)) := by unfold F_X3_tell; exact Eq.trans (if_neg h0) (Eq.trans (if_neg h1) (Eq.trans (if_neg h2) (Eq.trans (if_neg h3) (Eq.trans (if_neg h4) (if_pos h5)))))
theorem q_X3_tell_6 {bs : Nat → Int32} {n : Int32} {d : DD} {x1 : Int32} (h0 : ¬ (e7 d) = (-1)) (h1 : ¬ x1 = 0) (h2 : ¬ x1 = 1) (h3 : ¬ x1 = 2) (h4 : ¬ x1 = 3) (h5 : ¬ x1 = 4) : F_X3_tell bs n d x1 = (d, (e11 d)) := by unfold F_X3_tell; exact Eq.trans (if_neg h0) (Eq.trans (if_neg h1) (Eq.trans (if_neg h2) (Eq.trans (if_neg h3) (Eq.trans (if_neg h4) (if_neg h5)))))
set_option maxHeartbeats 40000000 in
theorem ce_X3_tell {xi : SX} {S : Hp} {E : List Nat} {kc nc : Nat} {P : Po} {o0 : Nat} {x1 : Int32} {bs : Nat → Int32} {n : Int32} (hG : GI S E) (h0 : Oa S E 3 0 o0) (hb : BC S E o0 bs n) (hP : ∀ r T x y, PV E [] S kc nc (rI (-2147483648) 2147483647) (fun v T => XIC (F_X3_tell bs n (StC S o0) x1) T o0 v) [] r T x y → P r T x y) : TT xi M_X3_tell 0 [(0, .ref o0), (1, .int x1)] [] S kc nc P := by
  have hA : Af E [] S S := af_rf
  refine tt_aload_n (j := 0) dX3_tell_0 rfl ?_
  refine gt_gI (id := 200) (v := (e7 (StC S o0))) dX3_tell_1 fl_3_54 rfl rfl h0 hA (sC_200 (T := S) (o := o0) rfl) ?_
  refine tt_iconst (v := (-1)) dX3_tell_4 rfl ?_
  refine tt_icmp_ne (tgt := 10) dX3_tell_5 rfl (fun q101 => ?_) (fun q101 => ?_)
  · skip
    refine tt_iload_n (j := 1) dX3_tell_10 rfl ?_
    refine gt_by (c := x1 = 0) (fun q102 => ?_) (fun q102 => ?_)
    · skip
      refine gt_tseq (off := 33) (tgt := 44) 0 0 dX3_tell_11 q102 rfl (by decide) (by decide) rfl rfl ?_
      refine tt_aload_n (j := 0) dX3_tell_44 rfl ?_
      refine gt_gI (id := 199) (v := (e6 (StC S o0))) dX3_tell_45 fl_3_51 rfl rfl h0 hA (sC_199 (T := S) (o := o0) rfl) ?_
      have hF : F_X3_tell bs n (StC S o0) x1 = ((StC S o0), (e6 (StC S o0))) := by
        exact q_X3_tell_1 q101 q102
      exact tt_ireturn dX3_tell_48 .int rfl rfl (hP _ _ _ _ ⟨hG, hA, Or.inl ⟨_, rfl, ⟨_, rfl, rg_w (rg_all (e6 (StC S o0)))⟩, xiC_mk hF (stC_mk (sC_193 (T := S) (o := o0) rfl) (sC_194 (T := S) (o := o0) rfl) (sC_195 (T := S) (o := o0) rfl) (sC_196 (T := S) (o := o0) rfl) (sC_197 (T := S) (o := o0) rfl) (sC_198 (T := S) (o := o0) rfl) (sC_199 (T := S) (o := o0) rfl) (sC_200 (T := S) (o := o0) rfl) (sC_201 (T := S) (o := o0) rfl) (sC_202 (T := S) (o := o0) rfl) (sC_203 (T := S) (o := o0) rfl) (sC_204 (T := S) (o := o0) rfl) (sC_205 (T := S) (o := o0) rfl)), rfl, rfl⟩⟩)
    refine gt_by (c := x1 = 1) (fun q103 => ?_) (fun q103 => ?_)
    · skip
      refine gt_tseq (off := 38) (tgt := 49) 1 1 dX3_tell_11 q103 rfl (by decide) (by decide) rfl rfl ?_
      refine tt_aload_n (j := 0) dX3_tell_49 rfl ?_
      refine gt_gI (id := 200) (v := (e7 (StC S o0))) dX3_tell_50 fl_3_54 rfl rfl h0 hA (sC_200 (T := S) (o := o0) rfl) ?_
      have hF : F_X3_tell bs n (StC S o0) x1 = ((StC S o0), (e7 (StC S o0))) := by
        exact q_X3_tell_2 q101 q102 q103
      exact tt_ireturn dX3_tell_53 .int rfl rfl (hP _ _ _ _ ⟨hG, hA, Or.inl ⟨_, rfl, ⟨_, rfl, rg_w (rg_all (e7 (StC S o0)))⟩, xiC_mk hF (stC_mk (sC_193 (T := S) (o := o0) rfl) (sC_194 (T := S) (o := o0) rfl) (sC_195 (T := S) (o := o0) rfl) (sC_196 (T := S) (o := o0) rfl) (sC_197 (T := S) (o := o0) rfl) (sC_198 (T := S) (o := o0) rfl) (sC_199 (T := S) (o := o0) rfl) (sC_200 (T := S) (o := o0) rfl) (sC_201 (T := S) (o := o0) rfl) (sC_202 (T := S) (o := o0) rfl) (sC_203 (T := S) (o := o0) rfl) (sC_204 (T := S) (o := o0) rfl) (sC_205 (T := S) (o := o0) rfl)), rfl, rfl⟩⟩)
    refine gt_by (c := x1 = 2) (fun q104 => ?_) (fun q104 => ?_)
    · skip
      refine gt_tseq (off := 43) (tgt := 54) 2 2 dX3_tell_11 q104 rfl (by decide) (by decide) rfl rfl ?_
      refine tt_aload_n (j := 0) dX3_tell_54 rfl ?_
      refine gt_gI (id := 201) (v := (e8 (StC S o0))) dX3_tell_55 fl_3_34 rfl rfl h0 hA (sC_201 (T := S) (o := o0) rfl) ?_
      have hF : F_X3_tell bs n (StC S o0) x1 = ((StC S o0), (e8 (StC S o0))) := by
        exact q_X3_tell_3 q101 q102 q103 q104
      exact tt_ireturn dX3_tell_58 .int rfl rfl (hP _ _ _ _ ⟨hG, hA, Or.inl ⟨_, rfl, ⟨_, rfl, rg_w (rg_all (e8 (StC S o0)))⟩, xiC_mk hF (stC_mk (sC_193 (T := S) (o := o0) rfl) (sC_194 (T := S) (o := o0) rfl) (sC_195 (T := S) (o := o0) rfl) (sC_196 (T := S) (o := o0) rfl) (sC_197 (T := S) (o := o0) rfl) (sC_198 (T := S) (o := o0) rfl) (sC_199 (T := S) (o := o0) rfl) (sC_200 (T := S) (o := o0) rfl) (sC_201 (T := S) (o := o0) rfl) (sC_202 (T := S) (o := o0) rfl) (sC_203 (T := S) (o := o0) rfl) (sC_204 (T := S) (o := o0) rfl) (sC_205 (T := S) (o := o0) rfl)), rfl, rfl⟩⟩)
    refine gt_by (c := x1 = 3) (fun q105 => ?_) (fun q105 => ?_)
    · skip
      refine gt_tseq (off := 48) (tgt := 59) 3 3 dX3_tell_11 q105 rfl (by decide) (by decide) rfl rfl ?_
      refine tt_aload_n (j := 0) dX3_tell_59 rfl ?_
      refine gt_gI (id := 202) (v := (e9 (StC S o0))) dX3_tell_60 fl_3_64 rfl rfl h0 hA (sC_202 (T := S) (o := o0) rfl) ?_
      have hF : F_X3_tell bs n (StC S o0) x1 = ((StC S o0), (e9 (StC S o0))) := by
        exact q_X3_tell_4 q101 q102 q103 q104 q105
      exact tt_ireturn dX3_tell_63 .int rfl rfl (hP _ _ _ _ ⟨hG, hA, Or.inl ⟨_, rfl, ⟨_, rfl, rg_w (rg_all (e9 (StC S o0)))⟩, xiC_mk hF (stC_mk (sC_193 (T := S) (o := o0) rfl) (sC_194 (T := S) (o := o0) rfl) (sC_195 (T := S) (o := o0) rfl) (sC_196 (T := S) (o := o0) rfl) (sC_197 (T := S) (o := o0) rfl) (sC_198 (T := S) (o := o0) rfl) (sC_199 (T := S) (o := o0) rfl) (sC_200 (T := S) (o := o0) rfl) (sC_201 (T := S) (o := o0) rfl) (sC_202 (T := S) (o := o0) rfl) (sC_203 (T := S) (o := o0) rfl) (sC_204 (T := S) (o := o0) rfl) (sC_205 (T := S) (o := o0) rfl)), rfl, rfl⟩⟩)
    refine gt_by (c := x1 = 4) (fun q106 => ?_) (fun q106 => ?_)
    · skip
      refine gt_tseq (off := 53) (tgt := 64) 4 4 dX3_tell_11 q106 rfl (by decide) (by decide) rfl rfl ?_
      refine tt_aload_n (j := 0) dX3_tell_64 rfl ?_
      refine gt_gI (id := 203) (v := (e10 (StC S o0))) dX3_tell_65 fl_3_67 rfl rfl h0 hA (sC_203 (T := S) (o := o0) rfl) ?_
      have hF : F_X3_tell bs n (StC S o0) x1 = ((StC S o0), (e10 (StC S o0))) := by
        exact q_X3_tell_5 q101 q102 q103 q104 q105 q106
      exact tt_ireturn dX3_tell_68 .int rfl rfl (hP _ _ _ _ ⟨hG, hA, Or.inl ⟨_, rfl, ⟨_, rfl, rg_w (rg_all (e10 (StC S o0)))⟩, xiC_mk hF (stC_mk (sC_193 (T := S) (o := o0) rfl) (sC_194 (T := S) (o := o0) rfl) (sC_195 (T := S) (o := o0) rfl) (sC_196 (T := S) (o := o0) rfl) (sC_197 (T := S) (o := o0) rfl) (sC_198 (T := S) (o := o0) rfl) (sC_199 (T := S) (o := o0) rfl) (sC_200 (T := S) (o := o0) rfl) (sC_201 (T := S) (o := o0) rfl) (sC_202 (T := S) (o := o0) rfl) (sC_203 (T := S) (o := o0) rfl) (sC_204 (T := S) (o := o0) rfl) (sC_205 (T := S) (o := o0) rfl)), rfl, rfl⟩⟩)
    have g107 := ne_i (k := 0) 0 q102 rfl
    have g108 := ne_i (k := 1) 1 q103 rfl
    have g109 := ne_i (k := 2) 2 q104 rfl
    have g110 := ne_i (k := 3) 3 q105 rfl
    have g111 := ne_i (k := 4) 4 q106 rfl
    refine tt_tableOut (tgt := 69) dX3_tell_11 (by omega) rfl ?_
    refine tt_aload_n (j := 0) dX3_tell_69 rfl ?_
    refine gt_gI (id := 204) (v := (e11 (StC S o0))) dX3_tell_70 fl_3_70 rfl rfl h0 hA (sC_204 (T := S) (o := o0) rfl) ?_
    have hF : F_X3_tell bs n (StC S o0) x1 = ((StC S o0), (e11 (StC S o0))) := by
      exact q_X3_tell_6 q101 q102 q103 q104 q105 q106
    exact tt_ireturn dX3_tell_73 .int rfl rfl (hP _ _ _ _ ⟨hG, hA, Or.inl ⟨_, rfl, ⟨_, rfl, rg_w (rg_all (e11 (StC S o0)))⟩, xiC_mk hF (stC_mk (sC_193 (T := S) (o := o0) rfl) (sC_194 (T := S) (o := o0) rfl) (sC_195 (T := S) (o := o0) rfl) (sC_196 (T := S) (o := o0) rfl) (sC_197 (T := S) (o := o0) rfl) (sC_198 (T := S) (o := o0) rfl) (sC_199 (T := S) (o := o0) rfl) (sC_200 (T := S) (o := o0) rfl) (sC_201 (T := S) (o := o0) rfl) (sC_202 (T := S) (o := o0) rfl) (sC_203 (T := S) (o := o0) rfl) (sC_204 (T := S) (o := o0) rfl) (sC_205 (T := S) (o := o0) rfl)), rfl, rfl⟩⟩)
  · skip
    have h112 : Rg (-1) (-1) (e7 (StC S o0)) := rg_eq_l (rg_all (e7 (StC S o0))) (⟨by decide, by decide⟩ : Rg (-1) (-1) (-1)) q101
    refine tt_iconst (v := (-1)) dX3_tell_8 rfl ?_
    have hF : F_X3_tell bs n (StC S o0) x1 = ((StC S o0), (-1)) := by
      exact q_X3_tell_0 q101
    exact tt_ireturn dX3_tell_9 .int rfl rfl (hP _ _ _ _ ⟨hG, hA, Or.inl ⟨_, rfl, ⟨_, rfl, rg_w (⟨by decide, by decide⟩ : Rg (-1) (-1) (-1))⟩, xiC_mk hF (stC_mk (sC_193 (T := S) (o := o0) rfl) (sC_194 (T := S) (o := o0) rfl) (sC_195 (T := S) (o := o0) rfl) (sC_196 (T := S) (o := o0) rfl) (sC_197 (T := S) (o := o0) rfl) (sC_198 (T := S) (o := o0) rfl) (sC_199 (T := S) (o := o0) rfl) (sC_200 (T := S) (o := o0) rfl) (sC_201 (T := S) (o := o0) rfl) (sC_202 (T := S) (o := o0) rfl) (sC_203 (T := S) (o := o0) rfl) (sC_204 (T := S) (o := o0) rfl) (sC_205 (T := S) (o := o0) rfl)), rfl, rfl⟩⟩)
