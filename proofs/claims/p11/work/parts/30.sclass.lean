set_option maxHeartbeats 4000000 in
theorem cs_X1_append {xi : SX} {S : Hp} {E : List Nat} {kc nc : Nat} {P : Po} {o0 : Nat} {x1 : Int32} {x2 : Int32} (hG : GI S E) (h0 : Oa S E 1 0 o0) (hP : ∀ r T x y, PV E [65, 9995] S kc nc rV ex0 [] r T x y → P r T x y) : TT xi M_X1_append 0 [(0, .ref o0), (1, .int x1), (2, .int x2)] [] S kc nc P := by
  have hA : Af E [65, 9995] S S := af_rf
  refine tt_iconst (v := 0) dX1_append_0 rfl ?_
  refine tt_istore_n (ks := [0, 1, 2, 3]) (L' := [(3, .int 0), (0, .ref o0), (1, .int x1), (2, .int x2)]) dX1_append_1 (by decide) rfl ?_
  have B101 : ∀ (nn : Nat) (S102 : Hp) (x105 : Int32), (2147483648 - x105.toInt).toNat = nn → GI S102 E → Af E [65, 9995] S S102 → Rg 0 2147483647 x105 → TT xi M_X1_append 2 [(0, .ref o0), (1, .int x1), (2, .int x2), (3, .int x105)] [] S102 kc nc P := by
    intro nn
    induction nn using Nat.strongRecOn with
    | ind nn ihB101 =>
      intro S102 x105 hmB101 hG103 hA104 h106
      subst hmB101
      refine tt_iload_n (j := 3) dX1_append_2 rfl ?_
      refine tt_iload_n (j := 1) dX1_append_3 rfl ?_
      have B107 : TT xi M_X1_append 55 [(0, .ref o0), (1, .int x1), (2, .int x2), (3, .int x105)] [] S102 kc nc P := by
        exact tt_vreturn dX1_append_55 rfl (hP _ _ _ _ ⟨hG103, hA104, Or.inl ⟨_, rfl, rfl, trivial, rfl, rfl⟩⟩)
      refine tt_icmp_ge (tgt := 55) dX1_append_4 rfl (fun q108 => ?_) (fun q108 => ?_)
      · skip
        exact B107 
      · skip
        have h109 : Rg 0 2147483646 x105 := rg_lt_l h106 (rg_all x1) (nle_lt q108)
        have h110 : Rg 1 2147483647 x1 := rg_lt_r h106 (rg_all x1) (nle_lt q108)
        refine tt_aload_n (j := 0) dX1_append_7 rfl ?_
        refine tt_getI (id := 65) dX1_append_8 fl_1_15 rfl rfl (ob_af h0 hA104) ?_
        refine tt_sipush (v := 200) dX1_append_11 rfl ?_
        refine tt_icmp_ge (tgt := 55) dX1_append_14 rfl (fun q111 => ?_) (fun q111 => ?_)
        · skip
          have h112 : Rg 200 200 (hp_I S102 65 o0) := rg_le_r (⟨by decide, by decide⟩ : Rg 200 200 200) (gi_I (k := 65) hG103 (oa_af h0 hA104) 0 200) q111
          exact B107 
        · skip
          have h113 : Rg 0 199 (hp_I S102 65 o0) := rg_lt_l (gi_I (k := 65) hG103 (oa_af h0 hA104) 0 200) (⟨by decide, by decide⟩ : Rg 200 200 200) (nle_lt q111)
          refine tt_aload_n (j := 0) dX1_append_17 rfl ?_
          obtain ⟨b114, hr115, ho116⟩ := gi_R (k := 64) hG h0 32 200
          refine gt_gR (id := 64) dX1_append_18 fl_1_9 rfl rfl h0 hA104 hr115 ?_
          refine tt_aload_n (j := 0) dX1_append_21 rfl ?_
          refine tt_getI (id := 65) dX1_append_22 fl_1_15 rfl rfl (ob_af h0 hA104) ?_
          refine tt_iload_n (j := 2) dX1_append_25 rfl ?_
          refine tt_bipush (v := 24) dX1_append_26 rfl ?_
          refine tt_bipush (v := 8) dX1_append_28 rfl ?_
          refine tt_iload_n (j := 3) dX1_append_30 rfl ?_
          refine tt_imul dX1_append_31 ?_
          refine tt_isub dX1_append_32 ?_
          refine tt_iushr dX1_append_33 (gt_ti (fun x117 => ?_))
          refine tt_sipush (v := 255) dX1_append_34 rfl ?_
          refine tt_iand dX1_append_37 ?_
          refine gt_iS dX1_append_38 ho116 hA104 (Or.inr (by decide)) (rg_in h113) hG103 (by decide) (fun S118 hG119 hA120 e121 f122 er123 => ?_)
          refine tt_aload_n (j := 0) dX1_append_39 rfl ?_
          refine tt_dup dX1_append_40 rfl ?_
          refine gt_gI (id := 65) (v := (hp_I S102 65 o0)) dX1_append_41 fl_1_15 rfl rfl h0 hA120 ((congrFun (congrFun e121 65) o0).trans rfl) ?_
          refine tt_iconst (v := 1) dX1_append_44 rfl ?_
          refine tt_iadd dX1_append_45 ?_
          refine gt_pI (id := 65) (x := ((hp_I S102 65 o0) + 1)) dX1_append_46 fl_1_15 rfl rfl h0 hA120 rfl rfl rfl (gp_Ir hG119 (rg_add (lo := 1) (hi := 200) h113 (⟨by decide, by decide⟩ : Rg 1 1 1))) (by decide) (fun h => absurd h (by decide)) (fun h => absurd h (by decide)) (fun S124 hG125 hA126 e127 f128 er129 => ?_)
          refine tt_iinc (j := 3) (v := (x105 + 1)) (ks := [0, 1, 2, 3]) (L' := [(3, .int (x105 + 1)), (0, .ref o0), (1, .int x1), (2, .int x2)]) dX1_append_49 rfl rfl (by decide) rfl ?_
          refine tt_goto (tgt := 2) dX1_append_52 rfl ?_
          exact tt_loc (ks := [1, 2, 3, 0]) rfl (ihB101 _ (rg_up h109) S124 (x105 + 1) rfl hG125 hA126 (rg_w (rg_add (lo := 1) (hi := 2147483647) h109 (⟨by decide, by decide⟩ : Rg 1 1 1))))
  exact tt_loc (ks := [1, 2, 3, 0]) rfl (B101 _ S 0 rfl hG hA (rg_w (⟨by decide, by decide⟩ : Rg 0 0 0)))
set_option maxHeartbeats 4000000 in
theorem cs_X1_holds {xi : SX} {S : Hp} {E : List Nat} {kc nc : Nat} {P : Po} {o0 : Nat} {y1 : Int64} (hG : GI S E) (h0 : Oa S E 1 0 o0) (hP : ∀ r T x y, PV E [] S kc nc (rI 0 1) (fun v T => T = S ∧ ∀ z, v = some (.int z) → ¬ z = 0 → Rl 0 199 y1) [] r T x y → P r T x y) : TT xi M_X1_holds 0 [(0, .ref o0), (1, .long y1)] [] S kc nc P := by
  have hA : Af E [] S S := af_rf
  refine tt_lload_n (j := 1) dX1_holds_0 rfl ?_
  refine tt_lconst (v := 0) dX1_holds_1 rfl ?_
  refine tt_lcmp dX1_holds_2 ?_
  refine tt_if_lt (tgt := 20) dX1_holds_3 rfl (fun q101 => ?_) (fun q101 => ?_)
  · skip
    have h102 : Rl (-9223372036854775808) (-1) y1 := rl_lt_l (rl_all y1) (⟨by decide, by decide⟩ : Rl 0 0 0) (lc_lt_t q101)
    refine tt_iconst (v := 0) dX1_holds_20 rfl ?_
    exact tt_ireturn dX1_holds_21 .boolean rfl rfl (hP _ _ _ _ ⟨hG, hA, Or.inl ⟨_, rfl, ⟨_, rfl, rg_w (⟨by decide, by decide⟩ : Rg 0 0 0)⟩, ⟨rfl, ei_0⟩, rfl, rfl⟩⟩)
  · skip
    have h103 : Rl 0 9223372036854775807 y1 := rl_le_r (⟨by decide, by decide⟩ : Rl 0 0 0) (rl_all y1) (lc_lt_f q101)
    refine tt_lload_n (j := 1) dX1_holds_6 rfl ?_
    refine tt_aload_n (j := 0) dX1_holds_7 rfl ?_
    refine tt_getI (id := 65) dX1_holds_8 fl_1_15 rfl rfl (ob_af h0 hA) ?_
    refine tt_i2l dX1_holds_11 ?_
    refine tt_lcmp dX1_holds_12 ?_
    refine tt_if_ge (tgt := 20) dX1_holds_13 rfl (fun q104 => ?_) (fun q104 => ?_)
    · skip
      refine tt_iconst (v := 0) dX1_holds_20 rfl ?_
      exact tt_ireturn dX1_holds_21 .boolean rfl rfl (hP _ _ _ _ ⟨hG, hA, Or.inl ⟨_, rfl, ⟨_, rfl, rg_w (⟨by decide, by decide⟩ : Rg 0 0 0)⟩, ⟨rfl, ei_0⟩, rfl, rfl⟩⟩)
    · skip
      have h105 : Rl 0 199 y1 := rl_lt_l h103 (rg_i2l (gi_I (k := 65) hG (oa_af h0 hA) 0 200)) (lc_ge_f q104)
      have h106 : Rl 1 200 ((hp_I S 65 o0) : Int32).toInt64 := rl_lt_r h103 (rg_i2l (gi_I (k := 65) hG (oa_af h0 hA) 0 200)) (lc_ge_f q104)
      refine tt_iconst (v := 1) dX1_holds_16 rfl ?_
      refine tt_goto (tgt := 21) dX1_holds_17 rfl ?_
      exact tt_ireturn dX1_holds_21 .boolean rfl rfl (hP _ _ _ _ ⟨hG, hA, Or.inl ⟨_, rfl, ⟨_, rfl, rg_w (⟨by decide, by decide⟩ : Rg 1 1 1)⟩, ⟨rfl, (fun _ _ _ => rl_w h105)⟩, rfl, rfl⟩⟩)
set_option maxHeartbeats 4000000 in
theorem cs_X3_tell {xi : SX} {S : Hp} {E : List Nat} {kc nc : Nat} {P : Po} {o0 : Nat} {x1 : Int32} (hG : GI S E) (h0 : Oa S E 3 0 o0) (hP : ∀ r T x y, PV E [] S kc nc (rI (-2147483648) 2147483647) (fun _ T => T = S) [] r T x y → P r T x y) : TT xi M_X3_tell 0 [(0, .ref o0), (1, .int x1)] [] S kc nc P := by
  have hA : Af E [] S S := af_rf
  refine tt_aload_n (j := 0) dX3_tell_0 rfl ?_
  refine tt_getI (id := 200) dX3_tell_1 fl_3_54 rfl rfl (ob_af h0 hA) ?_
  refine tt_iconst (v := (-1)) dX3_tell_4 rfl ?_
  refine tt_icmp_ne (tgt := 10) dX3_tell_5 rfl (fun q101 => ?_) (fun q101 => ?_)
  · skip
    refine tt_iload_n (j := 1) dX3_tell_10 rfl ?_
    refine gt_ts [44, 49, 54, 59, 64, 69] dX3_tell_11 (by decide) (by decide) (fa_cons ?_ (fa_cons ?_ (fa_cons ?_ (fa_cons ?_ (fa_cons ?_ (fa_cons ?_ fa_nil))))))
    · skip
      refine tt_aload_n (j := 0) dX3_tell_44 rfl ?_
      refine tt_getI (id := 199) dX3_tell_45 fl_3_51 rfl rfl (ob_af h0 hA) ?_
      exact tt_ireturn dX3_tell_48 .int rfl rfl (hP _ _ _ _ ⟨hG, hA, Or.inl ⟨_, rfl, ⟨_, rfl, rg_w (rg_all (hp_I S 199 o0))⟩, rfl, rfl, rfl⟩⟩)
    · skip
      refine tt_aload_n (j := 0) dX3_tell_49 rfl ?_
      refine tt_getI (id := 200) dX3_tell_50 fl_3_54 rfl rfl (ob_af h0 hA) ?_
      exact tt_ireturn dX3_tell_53 .int rfl rfl (hP _ _ _ _ ⟨hG, hA, Or.inl ⟨_, rfl, ⟨_, rfl, rg_w (rg_all (hp_I S 200 o0))⟩, rfl, rfl, rfl⟩⟩)
    · skip
      refine tt_aload_n (j := 0) dX3_tell_54 rfl ?_
      refine tt_getI (id := 201) dX3_tell_55 fl_3_34 rfl rfl (ob_af h0 hA) ?_
      exact tt_ireturn dX3_tell_58 .int rfl rfl (hP _ _ _ _ ⟨hG, hA, Or.inl ⟨_, rfl, ⟨_, rfl, rg_w (rg_all (hp_I S 201 o0))⟩, rfl, rfl, rfl⟩⟩)
    · skip
      refine tt_aload_n (j := 0) dX3_tell_59 rfl ?_
      refine tt_getI (id := 202) dX3_tell_60 fl_3_64 rfl rfl (ob_af h0 hA) ?_
      exact tt_ireturn dX3_tell_63 .int rfl rfl (hP _ _ _ _ ⟨hG, hA, Or.inl ⟨_, rfl, ⟨_, rfl, rg_w (rg_all (hp_I S 202 o0))⟩, rfl, rfl, rfl⟩⟩)
    · skip
      refine tt_aload_n (j := 0) dX3_tell_64 rfl ?_
      refine tt_getI (id := 203) dX3_tell_65 fl_3_67 rfl rfl (ob_af h0 hA) ?_
      exact tt_ireturn dX3_tell_68 .int rfl rfl (hP _ _ _ _ ⟨hG, hA, Or.inl ⟨_, rfl, ⟨_, rfl, rg_w (rg_all (hp_I S 203 o0))⟩, rfl, rfl, rfl⟩⟩)
    · skip
      refine tt_aload_n (j := 0) dX3_tell_69 rfl ?_
      refine tt_getI (id := 204) dX3_tell_70 fl_3_70 rfl rfl (ob_af h0 hA) ?_
      exact tt_ireturn dX3_tell_73 .int rfl rfl (hP _ _ _ _ ⟨hG, hA, Or.inl ⟨_, rfl, ⟨_, rfl, rg_w (rg_all (hp_I S 204 o0))⟩, rfl, rfl, rfl⟩⟩)
  · skip
    have h102 : Rg (-1) (-1) (hp_I S 200 o0) := rg_eq_l (rg_all (hp_I S 200 o0)) (⟨by decide, by decide⟩ : Rg (-1) (-1) (-1)) q101
    refine tt_iconst (v := (-1)) dX3_tell_8 rfl ?_
    exact tt_ireturn dX3_tell_9 .int rfl rfl (hP _ _ _ _ ⟨hG, hA, Or.inl ⟨_, rfl, ⟨_, rfl, rg_w (⟨by decide, by decide⟩ : Rg (-1) (-1) (-1))⟩, rfl, rfl, rfl⟩⟩)
set_option maxHeartbeats 4000000 in
theorem cs_X3_becomePlain {xi : SX} {S : Hp} {E : List Nat} {kc nc : Nat} {P : Po} {o0 : Nat} {x1 : Int32} (hG : GI S E) (h0 : Oa S E 3 0 o0) (hP : ∀ r T x y, PV E [200, 202, 203, 204] S kc nc rV ex0 [] r T x y → P r T x y) : TT xi M_X3_becomePlain 0 [(0, .ref o0), (1, .int x1)] [] S kc nc P := by
  have hA : Af E [200, 202, 203, 204] S S := af_rf
  refine tt_aload_n (j := 0) dX3_becomePlain_0 rfl ?_
  refine tt_iload_n (j := 1) dX3_becomePlain_1 rfl ?_
  refine gt_pI (id := 200) (x := x1) dX3_becomePlain_2 fl_3_54 rfl rfl h0 hA rfl rfl rfl (gp_I hG) (by decide) (fun h => absurd h (by decide)) (fun h => absurd h (by decide)) (fun S101 hG102 hA103 e104 f105 er106 => ?_)
  refine tt_aload_n (j := 0) dX3_becomePlain_5 rfl ?_
  refine tt_iconst (v := (-1)) dX3_becomePlain_6 rfl ?_
  refine gt_pI (id := 202) (x := (-1)) dX3_becomePlain_7 fl_3_64 rfl rfl h0 hA103 rfl rfl rfl (gp_I hG102) (by decide) (fun h => absurd h (by decide)) (fun h => absurd h (by decide)) (fun S107 hG108 hA109 e110 f111 er112 => ?_)
  refine tt_aload_n (j := 0) dX3_becomePlain_10 rfl ?_
  refine tt_iconst (v := (-1)) dX3_becomePlain_11 rfl ?_
  refine gt_pI (id := 203) (x := (-1)) dX3_becomePlain_12 fl_3_67 rfl rfl h0 hA109 rfl rfl rfl (gp_I hG108) (by decide) (fun h => absurd h (by decide)) (fun h => absurd h (by decide)) (fun S113 hG114 hA115 e116 f117 er118 => ?_)
  refine tt_aload_n (j := 0) dX3_becomePlain_15 rfl ?_
  refine tt_iconst (v := 0) dX3_becomePlain_16 rfl ?_
  refine gt_pI (id := 204) (x := 0) dX3_becomePlain_17 fl_3_70 rfl rfl h0 hA115 rfl rfl rfl (gp_I hG114) (by decide) (fun h => absurd h (by decide)) (fun h => absurd h (by decide)) (fun S119 hG120 hA121 e122 f123 er124 => ?_)
  refine tt_aload_n (j := 0) dX3_becomePlain_20 rfl ?_
  refine tt_lconst (v := 0) dX3_becomePlain_21 rfl ?_
  refine gt_pJ (id := 205) (x := 0) dX3_becomePlain_22 fl_3_73 rfl rfl h0 hA121 rfl rfl rfl hG120 (fun S125 hG126 hA127 e128 f129 er130 => ?_)
  exact tt_vreturn dX3_becomePlain_25 rfl (hP _ _ _ _ ⟨hG126, hA127, Or.inl ⟨_, rfl, rfl, trivial, rfl, rfl⟩⟩)
set_option maxHeartbeats 4000000 in
theorem cs_X3_isFrameChanged {xi : SX} {S : Hp} {E : List Nat} {kc nc : Nat} {P : Po} {o0 : Nat} (hG : GI S E) (h0 : Oa S E 3 0 o0) (hP : ∀ r T x y, PV E [] S kc nc (rI 0 1) (fun _ T => T = S) [] r T x y → P r T x y) : TT xi M_X3_isFrameChanged 0 [(0, .ref o0)] [] S kc nc P := by
  have hA : Af E [] S S := af_rf
  refine tt_aload_n (j := 0) dX3_isFrameChanged_0 rfl ?_
  refine tt_getI (id := 202) dX3_isFrameChanged_1 fl_3_64 rfl rfl (ob_af h0 hA) ?_
  refine tt_iconst (v := 4) dX3_isFrameChanged_4 rfl ?_
  have B101 : ∀ (x102 : Int32), Rg 0 1 x102 → TT xi M_X3_isFrameChanged 39 [(0, .ref o0)] [.int x102] S kc nc P := by
    intro x102 h103
    exact tt_ireturn dX3_isFrameChanged_39 .boolean rfl (rg_nar (rg_w h103)) (hP _ _ _ _ ⟨hG, hA, Or.inl ⟨_, rfl, ⟨_, rfl, rg_w h103⟩, rfl, rfl, rfl⟩⟩)
  have B104 : TT xi M_X3_isFrameChanged 38 [(0, .ref o0)] [] S kc nc P := by
    refine tt_iconst (v := 0) dX3_isFrameChanged_38 rfl ?_
    exact B101 0 (rg_w (⟨by decide, by decide⟩ : Rg 0 0 0))
  have B105 : TT xi M_X3_isFrameChanged 16 [(0, .ref o0)] [] S kc nc P := by
    refine tt_aload_n (j := 0) dX3_isFrameChanged_16 rfl ?_
    refine tt_getI (id := 200) dX3_isFrameChanged_17 fl_3_54 rfl rfl (ob_af h0 hA) ?_
    refine tt_bipush (v := 7) dX3_isFrameChanged_20 rfl ?_
    refine tt_icmp_eq (tgt := 38) dX3_isFrameChanged_22 rfl (fun q106 => ?_) (fun q106 => ?_)
    · skip
      have h107 : Rg 7 7 (hp_I S 200 o0) := rg_eq_l (rg_all (hp_I S 200 o0)) (⟨by decide, by decide⟩ : Rg 7 7 7) q106
      exact B104 
    · skip
      refine tt_aload_n (j := 0) dX3_isFrameChanged_25 rfl ?_
      refine tt_getI (id := 200) dX3_isFrameChanged_26 fl_3_54 rfl rfl (ob_af h0 hA) ?_
      refine tt_bipush (v := 8) dX3_isFrameChanged_29 rfl ?_
      refine tt_icmp_eq (tgt := 38) dX3_isFrameChanged_31 rfl (fun q108 => ?_) (fun q108 => ?_)
      · skip
        have h109 : Rg 8 8 (hp_I S 200 o0) := rg_eq_l (rg_all (hp_I S 200 o0)) (⟨by decide, by decide⟩ : Rg 8 8 8) q108
        exact B104 
      · skip
        refine tt_iconst (v := 1) dX3_isFrameChanged_34 rfl ?_
        refine tt_goto (tgt := 39) dX3_isFrameChanged_35 rfl ?_
        exact B101 1 (rg_w (⟨by decide, by decide⟩ : Rg 1 1 1))
  refine tt_icmp_eq (tgt := 16) dX3_isFrameChanged_5 rfl (fun q110 => ?_) (fun q110 => ?_)
  · skip
    have h111 : Rg 4 4 (hp_I S 202 o0) := rg_eq_l (rg_all (hp_I S 202 o0)) (⟨by decide, by decide⟩ : Rg 4 4 4) q110
    exact B105 
  · skip
    refine tt_aload_n (j := 0) dX3_isFrameChanged_8 rfl ?_
    refine tt_getI (id := 202) dX3_isFrameChanged_9 fl_3_64 rfl rfl (ob_af h0 hA) ?_
    refine tt_iconst (v := 5) dX3_isFrameChanged_12 rfl ?_
    refine tt_icmp_ne (tgt := 38) dX3_isFrameChanged_13 rfl (fun q112 => ?_) (fun q112 => ?_)
    · skip
      exact B104 
    · skip
      have h113 : Rg 5 5 (hp_I S 202 o0) := rg_eq_l (rg_all (hp_I S 202 o0)) (⟨by decide, by decide⟩ : Rg 5 5 5) q112
      exact B105 
set_option maxHeartbeats 4000000 in
theorem cs_X3_isCarryArithmetic {xi : SX} {S : Hp} {E : List Nat} {kc nc : Nat} {P : Po} {o0 : Nat} (hG : GI S E) (h0 : Oa S E 3 0 o0) (hP : ∀ r T x y, PV E [] S kc nc (rI 0 1) (fun _ T => T = S) [] r T x y → P r T x y) : TT xi M_X3_isCarryArithmetic 0 [(0, .ref o0)] [] S kc nc P := by
  have hA : Af E [] S S := af_rf
  refine tt_aload_n (j := 0) dX3_isCarryArithmetic_0 rfl ?_
  refine tt_getI (id := 200) dX3_isCarryArithmetic_1 fl_3_54 rfl rfl (ob_af h0 hA) ?_
  refine tt_iconst (v := 2) dX3_isCarryArithmetic_4 rfl ?_
  have B101 : ∀ (x102 : Int32), Rg 0 1 x102 → TT xi M_X3_isCarryArithmetic 21 [(0, .ref o0)] [.int x102] S kc nc P := by
    intro x102 h103
    exact tt_ireturn dX3_isCarryArithmetic_21 .boolean rfl (rg_nar (rg_w h103)) (hP _ _ _ _ ⟨hG, hA, Or.inl ⟨_, rfl, ⟨_, rfl, rg_w h103⟩, rfl, rfl, rfl⟩⟩)
  have B104 : TT xi M_X3_isCarryArithmetic 16 [(0, .ref o0)] [] S kc nc P := by
    refine tt_iconst (v := 1) dX3_isCarryArithmetic_16 rfl ?_
    refine tt_goto (tgt := 21) dX3_isCarryArithmetic_17 rfl ?_
    exact B101 1 (rg_w (⟨by decide, by decide⟩ : Rg 1 1 1))
  refine tt_icmp_eq (tgt := 16) dX3_isCarryArithmetic_5 rfl (fun q105 => ?_) (fun q105 => ?_)
  · skip
    have h106 : Rg 2 2 (hp_I S 200 o0) := rg_eq_l (rg_all (hp_I S 200 o0)) (⟨by decide, by decide⟩ : Rg 2 2 2) q105
    exact B104 
  · skip
    refine tt_aload_n (j := 0) dX3_isCarryArithmetic_8 rfl ?_
    refine tt_getI (id := 200) dX3_isCarryArithmetic_9 fl_3_54 rfl rfl (ob_af h0 hA) ?_
    refine tt_iconst (v := 3) dX3_isCarryArithmetic_12 rfl ?_
    refine tt_icmp_ne (tgt := 20) dX3_isCarryArithmetic_13 rfl (fun q107 => ?_) (fun q107 => ?_)
    · skip
      refine tt_iconst (v := 0) dX3_isCarryArithmetic_20 rfl ?_
      exact B101 0 (rg_w (⟨by decide, by decide⟩ : Rg 0 0 0))
    · skip
      have h108 : Rg 3 3 (hp_I S 200 o0) := rg_eq_l (rg_all (hp_I S 200 o0)) (⟨by decide, by decide⟩ : Rg 3 3 3) q107
      exact B104 
set_option maxHeartbeats 4000000 in
theorem cs_X3_nextByte {xi : SX} {S : Hp} {E : List Nat} {kc nc : Nat} {P : Po} {o0 : Nat} (hG : GI S E) (h0 : Oa S E 3 0 o0) (hP : ∀ r T x y, PV E [193, 195] S kc nc (rI (-2147483648) 2147483647) ex0 [] r T x y → P r T x y) : TT xi M_X3_nextByte 0 [(0, .ref o0)] [] S kc nc P := by
  have hA : Af E [193, 195] S S := af_rf
  refine tt_aload_n (j := 0) dX3_nextByte_0 rfl ?_
  refine tt_getI (id := 193) dX3_nextByte_1 fl_3_15 rfl rfl (ob_af h0 hA) ?_
  have B101 : TT xi M_X3_nextByte 21 [(0, .ref o0)] [] S kc nc P := by
    refine tt_aload_n (j := 0) dX3_nextByte_21 rfl ?_
    refine tt_iconst (v := 0) dX3_nextByte_22 rfl ?_
    refine gt_pI (id := 195) (x := 0) dX3_nextByte_23 fl_3_22 rfl rfl h0 hA rfl rfl rfl (gp_Ir hG (⟨by decide, by decide⟩ : Rg 0 0 0)) (by decide) (fun h => absurd h (by decide)) (fun h => absurd h (by decide)) (fun S102 hG103 hA104 e105 f106 er107 => ?_)
    refine tt_iconst (v := 0) dX3_nextByte_26 rfl ?_
    exact tt_ireturn dX3_nextByte_27 .int rfl rfl (hP _ _ _ _ ⟨hG103, hA104, Or.inl ⟨_, rfl, ⟨_, rfl, rg_w (⟨by decide, by decide⟩ : Rg 0 0 0)⟩, trivial, rfl, rfl⟩⟩)
  refine tt_if_lt (tgt := 21) dX3_nextByte_4 rfl (fun q108 => ?_) (fun q108 => ?_)
  · skip
    have h109 : Rg (-2147483648) (-1) (hp_I S 193 o0) := rg_lt_l (rg_all (hp_I S 193 o0)) (⟨by decide, by decide⟩ : Rg 0 0 0) q108
    exact B101 
  · skip
    have h110 : Rg 0 2147483647 (hp_I S 193 o0) := rg_le_r (⟨by decide, by decide⟩ : Rg 0 0 0) (rg_all (hp_I S 193 o0)) (nlt_le q108)
    refine tt_aload_n (j := 0) dX3_nextByte_7 rfl ?_
    refine tt_getI (id := 193) dX3_nextByte_8 fl_3_15 rfl rfl (ob_af h0 hA) ?_
    refine tt_aload_n (j := 0) dX3_nextByte_11 rfl ?_
    obtain ⟨b111, hr112, ho113⟩ := gi_R (k := 192) hG h0 1 0
    refine gt_gR (id := 192) dX3_nextByte_12 fl_3_9 rfl rfl h0 hA hr112 ?_
    refine tt_getI (id := 65) dX3_nextByte_15 fl_3_111 rfl rfl (ob_af ho113 hA) ?_
    refine tt_icmp_lt (tgt := 28) dX3_nextByte_18 rfl (fun q114 => ?_) (fun q114 => ?_)
    · skip
      have h115 : Rg 0 199 (hp_I S 193 o0) := rg_lt_l h110 (gi_I (k := 65) hG (oa_af ho113 hA) 0 200) q114
      have h116 : Rg 1 200 (hp_I S 65 b111) := rg_lt_r h110 (gi_I (k := 65) hG (oa_af ho113 hA) 0 200) q114
      refine tt_aload_n (j := 0) dX3_nextByte_28 rfl ?_
      refine gt_gR (id := 192) dX3_nextByte_29 fl_3_9 rfl rfl h0 hA hr112 ?_
      obtain ⟨b117, hr118, ho119⟩ := gi_R (k := 64) hG ho113 32 200
      refine gt_gR (id := 64) dX3_nextByte_32 fl_3_116 rfl rfl ho113 hA hr118 ?_
      refine tt_aload_n (j := 0) dX3_nextByte_35 rfl ?_
      refine tt_getI (id := 193) dX3_nextByte_36 fl_3_15 rfl rfl (ob_af h0 hA) ?_
      refine gt_iL dX3_nextByte_39 ho119 hA (rg_in h115) (fun x120 => ?_)
      refine tt_istore_n (ks := [0, 1]) (L' := [(1, .int x120), (0, .ref o0)]) dX3_nextByte_40 (by decide) rfl ?_
      refine tt_aload_n (j := 1) dX3_nextByte_41 rfl ?_
      refine tt_dup dX3_nextByte_42 rfl ?_
      refine tt_getI (id := 193) dX3_nextByte_43 fl_3_15 rfl rfl (ob_af h0 hA) ?_
      refine tt_iconst (v := 1) dX3_nextByte_46 rfl ?_
      refine tt_iadd dX3_nextByte_47 ?_
      refine gt_pI (id := 193) (x := ((hp_I S 193 o0) + 1)) dX3_nextByte_48 fl_3_15 rfl rfl h0 hA rfl rfl rfl (gp_I hG) (by decide) (fun h => absurd h (by decide)) (fun h => absurd h (by decide)) (fun S121 hG122 hA123 e124 f125 er126 => ?_)
      refine tt_iload_n (j := 0) dX3_nextByte_51 rfl ?_
      exact tt_ireturn dX3_nextByte_52 .int rfl rfl (hP _ _ _ _ ⟨hG122, hA123, Or.inl ⟨_, rfl, ⟨_, rfl, rg_w (rg_all x120)⟩, trivial, rfl, rfl⟩⟩)
    · skip
      exact B101 
set_option maxHeartbeats 4000000 in
theorem cs_X4_forget {xi : SX} {S : Hp} {E : List Nat} {kc nc : Nat} {P : Po} {o0 : Nat} (hG : GI S E) (h0 : Oa S E 4 0 o0) (hP : ∀ r T x y, PV E [321, 322] S kc nc rV ex0 [] r T x y → P r T x y) : TT xi M_X4_forget 0 [(0, .ref o0)] [] S kc nc P := by
  have hA : Af E [321, 322] S S := af_rf
  refine tt_iconst (v := 0) dX4_forget_0 rfl ?_
  refine tt_istore_n (ks := [0, 1]) (L' := [(1, .int 0), (0, .ref o0)]) dX4_forget_1 (by decide) rfl ?_
  have B101 : ∀ (nn : Nat) (S102 : Hp) (x105 : Int32), (2147483648 - x105.toInt).toNat = nn → GI S102 E → Af E [321, 322] S S102 → Rg 0 200 x105 → TT xi M_X4_forget 2 [(0, .ref o0), (1, .int x105)] [] S102 kc nc P := by
    intro nn
    induction nn using Nat.strongRecOn with
    | ind nn ihB101 =>
      intro S102 x105 hmB101 hG103 hA104 h106
      subst hmB101
      refine tt_iload_n (j := 1) dX4_forget_2 rfl ?_
      refine tt_sipush (v := 200) dX4_forget_3 rfl ?_
      refine tt_icmp_ge (tgt := 36) dX4_forget_6 rfl (fun q107 => ?_) (fun q107 => ?_)
      · skip
        have h108 : Rg 200 200 x105 := rg_le_r (⟨by decide, by decide⟩ : Rg 200 200 200) h106 q107
        exact tt_vreturn dX4_forget_36 rfl (hP _ _ _ _ ⟨hG103, hA104, Or.inl ⟨_, rfl, rfl, trivial, rfl, rfl⟩⟩)
      · skip
        have h109 : Rg 0 199 x105 := rg_lt_l h106 (⟨by decide, by decide⟩ : Rg 200 200 200) (nle_lt q107)
        refine tt_aload_n (j := 0) dX4_forget_9 rfl ?_
        obtain ⟨b110, hr111, ho112⟩ := gi_R (k := 258) hG h0 35 200
        refine gt_gR (id := 258) dX4_forget_10 fl_4_11 rfl rfl h0 hA104 hr111 ?_
        refine tt_iload_n (j := 1) dX4_forget_13 rfl ?_
        refine gt_aL dX4_forget_14 ho112 hA104 (rg_in h109) hG (by decide) ?_ (fun b113 h114 => ?_)
        · skip
          refine tt_astore_nN (ks := [0, 1, 2]) (L' := [(2, .null), (0, .ref o0), (1, .int x105)]) dX4_forget_15 (by decide) rfl ?_
          refine tt_aload_nN (j := 0) dX4_forget_16 rfl ?_
          have B115 : ∀ (S116 : Hp), GI S116 E → Af E [321, 322] S S116 → TT xi M_X4_forget 30 [(0, .ref o0), (1, .int x105)] [] S116 kc nc P := by
            intro S116 hG117 hA118
            refine tt_iinc (j := 1) (v := (x105 + 1)) (ks := [0, 1]) (L' := [(1, .int (x105 + 1)), (0, .ref o0)]) dX4_forget_30 rfl rfl (by decide) rfl ?_
            refine tt_goto (tgt := 2) dX4_forget_33 rfl ?_
            exact tt_loc (ks := [1, 0]) rfl (ihB101 _ (rg_up h109) S116 (x105 + 1) rfl hG117 hA118 (rg_w (rg_add (lo := 1) (hi := 200) h109 (⟨by decide, by decide⟩ : Rg 1 1 1))))
          refine tt_ifnullN (tgt := 30) dX4_forget_17 rfl ?_
          exact tt_loc (ks := [1, 2]) rfl (B115 S102 hG103 hA104)
        · skip
          refine tt_astore_n (ks := [0, 1, 2]) (L' := [(2, .ref b113), (0, .ref o0), (1, .int x105)]) dX4_forget_15 (by decide) rfl ?_
          refine tt_aload_n (j := 0) dX4_forget_16 rfl ?_
          have B119 : ∀ (S120 : Hp), GI S120 E → Af E [321, 322] S S120 → TT xi M_X4_forget 30 [(0, .ref o0), (1, .int x105)] [] S120 kc nc P := by
            intro S120 hG121 hA122
            refine tt_iinc (j := 1) (v := (x105 + 1)) (ks := [0, 1]) (L' := [(1, .int (x105 + 1)), (0, .ref o0)]) dX4_forget_30 rfl rfl (by decide) rfl ?_
            refine tt_goto (tgt := 2) dX4_forget_33 rfl ?_
            exact tt_loc (ks := [1, 0]) rfl (ihB101 _ (rg_up h109) S120 (x105 + 1) rfl hG121 hA122 (rg_w (rg_add (lo := 1) (hi := 200) h109 (⟨by decide, by decide⟩ : Rg 1 1 1))))
          refine tt_ifnull dX4_forget_17 ?_
          refine tt_aload_n (j := 0) dX4_forget_20 rfl ?_
          refine tt_iconst (v := 0) dX4_forget_21 rfl ?_
          refine gt_pI (id := 321) (x := 0) dX4_forget_22 fl_4_59 rfl rfl h114 hA104 rfl rfl rfl (gp_I hG103) (by decide) (fun h => absurd h (by decide)) (fun h => absurd h (by decide)) (fun S123 hG124 hA125 e126 f127 er128 => ?_)
          refine tt_aload_n (j := 0) dX4_forget_25 rfl ?_
          refine tt_iconst (v := 0) dX4_forget_26 rfl ?_
          refine gt_pI (id := 322) (x := 0) dX4_forget_27 fl_4_63 rfl rfl h114 hA125 rfl rfl rfl (gp_Ir hG124 (⟨by decide, by decide⟩ : Rg 0 0 0)) (by decide) (fun h => absurd h (by decide)) (fun h => absurd h (by decide)) (fun S129 hG130 hA131 e132 f133 er134 => ?_)
          exact tt_loc (ks := [1, 2]) rfl (B119 S129 hG130 hA131)
  exact tt_loc (ks := [1, 0]) rfl (B101 _ S 0 rfl hG hA (rg_w (⟨by decide, by decide⟩ : Rg 0 0 0)))
set_option maxHeartbeats 4000000 in
theorem cs_X4_pointIfMade {xi : SX} {S : Hp} {E : List Nat} {kc nc : Nat} {P : Po} {o0 : Nat} {x1 : Int32} (hG : GI S E) (h0 : Oa S E 4 0 o0) (hP : ∀ r T x y, PV E [] S kc nc (rP S E) (fun _ T => T = S) [] r T x y → P r T x y) : TT xi M_X4_pointIfMade 0 [(0, .ref o0), (1, .int x1)] [] S kc nc P := by
  have hA : Af E [] S S := af_rf
  refine tt_iload_n (j := 1) dX4_pointIfMade_0 rfl ?_
  refine tt_if_lt (tgt := 20) dX4_pointIfMade_1 rfl (fun q101 => ?_) (fun q101 => ?_)
  · skip
    have h102 : Rg (-2147483648) (-1) x1 := rg_lt_l (rg_all x1) (⟨by decide, by decide⟩ : Rg 0 0 0) q101
    refine tt_null dX4_pointIfMade_20 ?_
    exact tt_areturnN dX4_pointIfMade_21 rfl (hP _ _ _ _ ⟨hG, hA, Or.inl ⟨_, rfl, Or.inl rfl, rfl, rfl, rfl⟩⟩)
  · skip
    have h103 : Rg 0 2147483647 x1 := rg_le_r (⟨by decide, by decide⟩ : Rg 0 0 0) (rg_all x1) (nlt_le q101)
    refine tt_iload_n (j := 1) dX4_pointIfMade_4 rfl ?_
    refine tt_sipush (v := 200) dX4_pointIfMade_5 rfl ?_
    refine tt_icmp_ge (tgt := 20) dX4_pointIfMade_8 rfl (fun q104 => ?_) (fun q104 => ?_)
    · skip
      have h105 : Rg 200 2147483647 x1 := rg_le_r (⟨by decide, by decide⟩ : Rg 200 200 200) h103 q104
      refine tt_null dX4_pointIfMade_20 ?_
      exact tt_areturnN dX4_pointIfMade_21 rfl (hP _ _ _ _ ⟨hG, hA, Or.inl ⟨_, rfl, Or.inl rfl, rfl, rfl, rfl⟩⟩)
    · skip
      have h106 : Rg 0 199 x1 := rg_lt_l h103 (⟨by decide, by decide⟩ : Rg 200 200 200) (nle_lt q104)
      refine tt_aload_n (j := 0) dX4_pointIfMade_11 rfl ?_
      obtain ⟨b107, hr108, ho109⟩ := gi_R (k := 258) hG h0 35 200
      refine gt_gR (id := 258) dX4_pointIfMade_12 fl_4_11 rfl rfl h0 hA hr108 ?_
      refine tt_iload_n (j := 1) dX4_pointIfMade_15 rfl ?_
      refine gt_aL dX4_pointIfMade_16 ho109 hA (rg_in h106) hG (by decide) ?_ (fun b110 h111 => ?_)
      · skip
        refine tt_goto (tgt := 21) dX4_pointIfMade_17 rfl ?_
        exact tt_areturnN dX4_pointIfMade_21 rfl (hP _ _ _ _ ⟨hG, hA, Or.inl ⟨_, rfl, Or.inl rfl, rfl, rfl, rfl⟩⟩)
      · skip
        refine tt_goto (tgt := 21) dX4_pointIfMade_17 rfl ?_
        exact tt_areturn dX4_pointIfMade_21 rfl (hP _ _ _ _ ⟨hG, hA, Or.inl ⟨_, rfl, Or.inr ⟨_, rfl, h111⟩, rfl, rfl, rfl⟩⟩)
set_option maxHeartbeats 4000000 in
theorem cs_X4_isWaiting {xi : SX} {S : Hp} {E : List Nat} {kc nc : Nat} {P : Po} {o0 : Nat} {x1 : Int32} (hG : GI S E) (h0 : Oa S E 4 0 o0) (hP : ∀ r T x y, PV E [] S kc nc (rI 0 1) (fun _ T => T = S) [] r T x y → P r T x y) : TT xi M_X4_isWaiting 0 [(0, .ref o0), (1, .int x1)] [] S kc nc P := by
  have hA : Af E [] S S := af_rf
  refine tt_aload_n (j := 0) dX4_isWaiting_0 rfl ?_
  refine tt_iload_n (j := 1) dX4_isWaiting_1 rfl ?_
  refine gt_VPp (As := [.int x1]) dX4_isWaiting_2 ca_X4_67 ⟨by decide, by decide⟩ h0 hA rfl (Nat.le_of_ble_eq_true rfl) (Nat.le_of_ble_eq_true rfl) (by decide) (cs_X4_pointIfMade hG (oa_af h0 hA) (fun _ _ _ _ h => h)) rfl (fun _ h => nomatch h) (fun _ _ q => q) (fun hx105 => ?_) (fun b106 h107 hx105 => ?_)
  · skip
    refine tt_astore_nN (ks := [0, 1, 2]) (L' := [(2, .null), (0, .ref o0), (1, .int x1)]) dX4_isWaiting_5 (by decide) rfl ?_
    refine tt_aload_nN (j := 0) dX4_isWaiting_6 rfl ?_
    have B108 : ∀ (x109 : Int32), Rg 0 1 x109 → TT xi M_X4_isWaiting 22 [(0, .ref o0), (1, .int x1)] [.int x109] S kc nc P := by
      intro x109 h110
      exact tt_ireturn dX4_isWaiting_22 .boolean rfl (rg_nar (rg_w h110)) (hP _ _ _ _ ⟨hG, hA, Or.inl ⟨_, rfl, ⟨_, rfl, rg_w h110⟩, rfl, rfl, rfl⟩⟩)
    have B111 : TT xi M_X4_isWaiting 21 [(0, .ref o0), (1, .int x1)] [] S kc nc P := by
      refine tt_iconst (v := 0) dX4_isWaiting_21 rfl ?_
      exact B108 0 (rg_w (⟨by decide, by decide⟩ : Rg 0 0 0))
    refine tt_ifnullN (tgt := 21) dX4_isWaiting_7 rfl ?_
    exact tt_loc (ks := [1, 2]) rfl (B111 )
  · skip
    refine tt_astore_n (ks := [0, 1, 2]) (L' := [(2, .ref b106), (0, .ref o0), (1, .int x1)]) dX4_isWaiting_5 (by decide) rfl ?_
    refine tt_aload_n (j := 0) dX4_isWaiting_6 rfl ?_
    have B112 : ∀ (x113 : Int32), Rg 0 1 x113 → TT xi M_X4_isWaiting 22 [(0, .ref o0), (1, .int x1)] [.int x113] S kc nc P := by
      intro x113 h114
      exact tt_ireturn dX4_isWaiting_22 .boolean rfl (rg_nar (rg_w h114)) (hP _ _ _ _ ⟨hG, hA, Or.inl ⟨_, rfl, ⟨_, rfl, rg_w h114⟩, rfl, rfl, rfl⟩⟩)
    have B115 : TT xi M_X4_isWaiting 21 [(0, .ref o0), (1, .int x1)] [] S kc nc P := by
      refine tt_iconst (v := 0) dX4_isWaiting_21 rfl ?_
      exact B112 0 (rg_w (⟨by decide, by decide⟩ : Rg 0 0 0))
    refine tt_ifnull dX4_isWaiting_7 ?_
    refine tt_aload_n (j := 0) dX4_isWaiting_10 rfl ?_
    refine tt_getI (id := 322) dX4_isWaiting_11 fl_4_63 rfl rfl (ob_af h107 hA) ?_
    refine tt_if_eq (tgt := 21) dX4_isWaiting_14 rfl (fun q116 => ?_) (fun q116 => ?_)
    · skip
      have h117 : Rg 0 0 (hp_I S 322 b106) := rg_eq_l (gi_I (k := 322) hG (oa_af h107 hA) 0 1) (⟨by decide, by decide⟩ : Rg 0 0 0) q116
      exact tt_loc (ks := [1, 2]) rfl (B115 )
    · skip
      have h118 : Rg 1 1 (hp_I S 322 b106) := rg_ne_lo (gi_I (k := 322) hG (oa_af h107 hA) 0 1) (⟨by decide, by decide⟩ : Rg 0 0 0) q116
      refine tt_iconst (v := 1) dX4_isWaiting_17 rfl ?_
      refine tt_goto (tgt := 22) dX4_isWaiting_18 rfl ?_
      exact tt_loc (ks := [1, 2]) rfl (B112 1 (rg_w (⟨by decide, by decide⟩ : Rg 1 1 1)))
set_option maxHeartbeats 4000000 in
theorem cs_X6_moveTo {xi : SX} {S : Hp} {E : List Nat} {kc nc : Nat} {P : Po} {o0 : Nat} {y1 : Int64} (hG : GI S E) (h0 : Oa S E 6 0 o0) (hP : ∀ r T x y, PV E [388] S kc nc rV ex0 [] r T x y → P r T x y) : TT xi M_X6_moveTo 0 [(0, .ref o0), (1, .long y1)] [] S kc nc P := by
  have hA : Af E [388] S S := af_rf
  refine tt_aload_n (j := 0) dX6_moveTo_0 rfl ?_
  refine tt_aload_n (j := 0) dX6_moveTo_1 rfl ?_
  obtain ⟨b101, hr102, ho103⟩ := gi_R (k := 384) hG h0 1 0
  refine gt_gR (id := 384) dX6_moveTo_2 fl_6_22 rfl rfl h0 hA hr102 ?_
  refine tt_lload_n (j := 1) dX6_moveTo_5 rfl ?_
  refine gt_VIp (As := [.long y1]) dX6_moveTo_6 ca_X6_73 ⟨by decide, by decide⟩ ho103 hA rfl (Nat.le_of_ble_eq_true rfl) (Nat.le_of_ble_eq_true rfl) (by decide) (cs_X1_holds hG (oa_af ho103 hA) (fun _ _ _ _ h => h)) rfl (fun _ h => nomatch h) (fun _ _ q => q.1) (fun x109 h110 hx108 => ?_)
  have B111 : ∀ (x112 : Int32), Rg (-2) 199 x112 → TT xi M_X6_moveTo 19 [(0, .ref o0), (1, .long y1)] [.int x112, .ref o0] S kc nc P := by
    intro x112 h113
    refine gt_pI (id := 388) (x := x112) dX6_moveTo_19 fl_6_18 rfl rfl h0 hA rfl rfl rfl (gp_I hG) (by decide) (fun h => absurd h (by decide)) (fun h => absurd h (by decide)) (fun S114 hG115 hA116 e117 f118 er119 => ?_)
    exact tt_vreturn dX6_moveTo_22 rfl (hP _ _ _ _ ⟨hG115, hA116, Or.inl ⟨_, rfl, rfl, trivial, rfl, rfl⟩⟩)
  refine tt_if_eq (tgt := 17) dX6_moveTo_9 rfl (fun q120 => ?_) (fun q120 => ?_)
  · skip
    have h121 : Rg 0 0 x109 := rg_eq_l h110 (⟨by decide, by decide⟩ : Rg 0 0 0) q120
    refine tt_bipush (v := (-2)) dX6_moveTo_17 rfl ?_
    exact B111 (-2) (rg_w (⟨by decide, by decide⟩ : Rg (-2) (-2) (-2)))
  · skip
    have h122 : Rg 1 1 x109 := rg_ne_lo h110 (⟨by decide, by decide⟩ : Rg 0 0 0) q120
    have h123 : Rl 0 199 y1 := ((hx108.2) _ rfl q120)
    refine tt_lload_n (j := 1) dX6_moveTo_12 rfl ?_
    refine tt_l2i dX6_moveTo_13 ?_
    refine tt_goto (tgt := 19) dX6_moveTo_14 rfl ?_
    exact B111 (y1 : Int64).toInt32 (rg_w (rl_l2i h123))
set_option maxHeartbeats 4000000 in
theorem cs_X6_isSo {xi : SX} {S : Hp} {E : List Nat} {kc nc : Nat} {P : Po} {o0 : Nat} {x1 : Int32} (hG : GI S E) (h0 : Oa S E 6 0 o0) (hP : ∀ r T x y, PV E [] S kc nc (rI 0 1) (fun _ T => T = S) [] r T x y → P r T x y) : TT xi M_X6_isSo 0 [(0, .ref o0), (1, .int x1)] [] S kc nc P := by
  have hA : Af E [] S S := af_rf
  refine tt_iload_n (j := 1) dX6_isSo_0 rfl ?_
  refine tt_bipush (v := 14) dX6_isSo_1 rfl ?_
  refine tt_iand dX6_isSo_3 ?_
  have B101 : ∀ (x102 : Int32), Rg 0 1 x102 → TT xi M_X6_isSo 171 [(0, .ref o0), (1, .int x1), (2, .int x102)] [] S kc nc P := by
    intro x102 h103
    refine tt_iload_n (j := 2) dX6_isSo_171 rfl ?_
    refine tt_iload_n (j := 1) dX6_isSo_172 rfl ?_
    refine tt_iconst (v := 1) dX6_isSo_173 rfl ?_
    refine tt_iand dX6_isSo_174 ?_
    have B104 : ∀ (x105 : Int32), Rg 0 1 x105 → TT xi M_X6_isSo 183 [(0, .ref o0), (1, .int x1), (2, .int x102)] [.int x105, .int x102] S kc nc P := by
      intro x105 h106
      have B107 : ∀ (x108 : Int32), Rg 0 1 x108 → TT xi M_X6_isSo 191 [(0, .ref o0), (1, .int x1), (2, .int x102)] [.int x108] S kc nc P := by
        intro x108 h109
        exact tt_ireturn dX6_isSo_191 .boolean rfl (rg_nar (rg_w h109)) (hP _ _ _ _ ⟨hG, hA, Or.inl ⟨_, rfl, ⟨_, rfl, rg_w h109⟩, rfl, rfl, rfl⟩⟩)
      refine tt_icmp_ne (tgt := 190) dX6_isSo_183 rfl (fun q110 => ?_) (fun q110 => ?_)
      · skip
        refine tt_iconst (v := 0) dX6_isSo_190 rfl ?_
        exact B107 0 (rg_w (⟨by decide, by decide⟩ : Rg 0 0 0))
      · skip
        refine tt_iconst (v := 1) dX6_isSo_186 rfl ?_
        refine tt_goto (tgt := 191) dX6_isSo_187 rfl ?_
        exact B107 1 (rg_w (⟨by decide, by decide⟩ : Rg 1 1 1))
    refine tt_if_ne (tgt := 182) dX6_isSo_175 rfl (fun q111 => ?_) (fun q111 => ?_)
    · skip
      have h112 : Rg 1 1 (x1 &&& 1) := rg_ne_lo (rg_and (x := x1) (⟨by decide, by decide⟩ : Rg 1 1 1)) (⟨by decide, by decide⟩ : Rg 0 0 0) q111
      refine tt_iconst (v := 0) dX6_isSo_182 rfl ?_
      exact B104 0 (rg_w (⟨by decide, by decide⟩ : Rg 0 0 0))
    · skip
      have h113 : Rg 0 0 (x1 &&& 1) := rg_eq_l (rg_and (x := x1) (⟨by decide, by decide⟩ : Rg 1 1 1)) (⟨by decide, by decide⟩ : Rg 0 0 0) q111
      refine tt_iconst (v := 1) dX6_isSo_178 rfl ?_
      refine tt_goto (tgt := 183) dX6_isSo_179 rfl ?_
      exact B104 1 (rg_w (⟨by decide, by decide⟩ : Rg 1 1 1))
  refine gt_ts [72, 80, 88, 96, 119, 127, 147] dX6_isSo_4 (by decide) (by decide) (fa_cons ?_ (fa_cons ?_ (fa_cons ?_ (fa_cons ?_ (fa_cons ?_ (fa_cons ?_ (fa_cons ?_ fa_nil)))))))
  · skip
    refine tt_aload_n (j := 0) dX6_isSo_72 rfl ?_
    refine tt_getI (id := 393) dX6_isSo_73 fl_6_79 rfl rfl (ob_af h0 hA) ?_
    refine tt_istore_n (ks := [0, 1, 2]) (L' := [(2, .int (hp_I S 393 o0)), (0, .ref o0), (1, .int x1)]) dX6_isSo_76 (by decide) rfl ?_
    refine tt_goto (tgt := 171) dX6_isSo_77 rfl ?_
    exact tt_loc (ks := [1, 2, 0]) rfl (B101 (hp_I S 393 o0) (gi_I (k := 393) hG (oa_af h0 hA) 0 1))
  · skip
    refine tt_aload_n (j := 0) dX6_isSo_80 rfl ?_
    refine tt_getI (id := 392) dX6_isSo_81 fl_6_82 rfl rfl (ob_af h0 hA) ?_
    refine tt_istore_n (ks := [0, 1, 2]) (L' := [(2, .int (hp_I S 392 o0)), (0, .ref o0), (1, .int x1)]) dX6_isSo_84 (by decide) rfl ?_
    refine tt_goto (tgt := 171) dX6_isSo_85 rfl ?_
    exact tt_loc (ks := [1, 2, 0]) rfl (B101 (hp_I S 392 o0) (gi_I (k := 392) hG (oa_af h0 hA) 0 1))
  · skip
    refine tt_aload_n (j := 0) dX6_isSo_88 rfl ?_
    refine tt_getI (id := 390) dX6_isSo_89 fl_6_85 rfl rfl (ob_af h0 hA) ?_
    refine tt_istore_n (ks := [0, 1, 2]) (L' := [(2, .int (hp_I S 390 o0)), (0, .ref o0), (1, .int x1)]) dX6_isSo_92 (by decide) rfl ?_
    refine tt_goto (tgt := 171) dX6_isSo_93 rfl ?_
    exact tt_loc (ks := [1, 2, 0]) rfl (B101 (hp_I S 390 o0) (gi_I (k := 390) hG (oa_af h0 hA) 0 1))
  · skip
    refine tt_aload_n (j := 0) dX6_isSo_96 rfl ?_
    refine tt_getI (id := 392) dX6_isSo_97 fl_6_82 rfl rfl (ob_af h0 hA) ?_
    have B114 : ∀ (x115 : Int32), Rg 0 1 x115 → TT xi M_X6_isSo 115 [(0, .ref o0), (1, .int x1)] [.int x115] S kc nc P := by
      intro x115 h116
      refine tt_istore_n (ks := [0, 1, 2]) (L' := [(2, .int x115), (0, .ref o0), (1, .int x1)]) dX6_isSo_115 (by decide) rfl ?_
      refine tt_goto (tgt := 171) dX6_isSo_116 rfl ?_
      exact tt_loc (ks := [1, 2, 0]) rfl (B101 x115 h116)
    have B117 : TT xi M_X6_isSo 110 [(0, .ref o0), (1, .int x1)] [] S kc nc P := by
      refine tt_iconst (v := 1) dX6_isSo_110 rfl ?_
      refine tt_goto (tgt := 115) dX6_isSo_111 rfl ?_
      exact B114 1 (rg_w (⟨by decide, by decide⟩ : Rg 1 1 1))
    refine tt_if_ne (tgt := 110) dX6_isSo_100 rfl (fun q118 => ?_) (fun q118 => ?_)
    · skip
      have h119 : Rg 1 1 (hp_I S 392 o0) := rg_ne_lo (gi_I (k := 392) hG (oa_af h0 hA) 0 1) (⟨by decide, by decide⟩ : Rg 0 0 0) q118
      exact B117 
    · skip
      have h120 : Rg 0 0 (hp_I S 392 o0) := rg_eq_l (gi_I (k := 392) hG (oa_af h0 hA) 0 1) (⟨by decide, by decide⟩ : Rg 0 0 0) q118
      refine tt_aload_n (j := 0) dX6_isSo_103 rfl ?_
      refine tt_getI (id := 390) dX6_isSo_104 fl_6_85 rfl rfl (ob_af h0 hA) ?_
      refine tt_if_eq (tgt := 114) dX6_isSo_107 rfl (fun q121 => ?_) (fun q121 => ?_)
      · skip
        have h122 : Rg 0 0 (hp_I S 390 o0) := rg_eq_l (gi_I (k := 390) hG (oa_af h0 hA) 0 1) (⟨by decide, by decide⟩ : Rg 0 0 0) q121
        refine tt_iconst (v := 0) dX6_isSo_114 rfl ?_
        exact B114 0 (rg_w (⟨by decide, by decide⟩ : Rg 0 0 0))
      · skip
        have h123 : Rg 1 1 (hp_I S 390 o0) := rg_ne_lo (gi_I (k := 390) hG (oa_af h0 hA) 0 1) (⟨by decide, by decide⟩ : Rg 0 0 0) q121
        exact B117 
  · skip
    refine tt_aload_n (j := 0) dX6_isSo_119 rfl ?_
    refine tt_getI (id := 391) dX6_isSo_120 fl_6_88 rfl rfl (ob_af h0 hA) ?_
    refine tt_istore_n (ks := [0, 1, 2]) (L' := [(2, .int (hp_I S 391 o0)), (0, .ref o0), (1, .int x1)]) dX6_isSo_123 (by decide) rfl ?_
    refine tt_goto (tgt := 171) dX6_isSo_124 rfl ?_
    exact tt_loc (ks := [1, 2, 0]) rfl (B101 (hp_I S 391 o0) (gi_I (k := 391) hG (oa_af h0 hA) 0 1))
  · skip
    refine tt_aload_n (j := 0) dX6_isSo_127 rfl ?_
    refine tt_getI (id := 391) dX6_isSo_128 fl_6_88 rfl rfl (ob_af h0 hA) ?_
    refine tt_aload_n (j := 0) dX6_isSo_131 rfl ?_
    refine tt_getI (id := 393) dX6_isSo_132 fl_6_79 rfl rfl (ob_af h0 hA) ?_
    have B124 : ∀ (x125 : Int32), Rg 0 1 x125 → TT xi M_X6_isSo 143 [(0, .ref o0), (1, .int x1)] [.int x125] S kc nc P := by
      intro x125 h126
      refine tt_istore_n (ks := [0, 1, 2]) (L' := [(2, .int x125), (0, .ref o0), (1, .int x1)]) dX6_isSo_143 (by decide) rfl ?_
      refine tt_goto (tgt := 171) dX6_isSo_144 rfl ?_
      exact tt_loc (ks := [1, 2, 0]) rfl (B101 x125 h126)
    refine tt_icmp_eq (tgt := 142) dX6_isSo_135 rfl (fun q127 => ?_) (fun q127 => ?_)
    · skip
      refine tt_iconst (v := 0) dX6_isSo_142 rfl ?_
      exact B124 0 (rg_w (⟨by decide, by decide⟩ : Rg 0 0 0))
    · skip
      refine tt_iconst (v := 1) dX6_isSo_138 rfl ?_
      refine tt_goto (tgt := 143) dX6_isSo_139 rfl ?_
      exact B124 1 (rg_w (⟨by decide, by decide⟩ : Rg 1 1 1))
  · skip
    refine tt_aload_n (j := 0) dX6_isSo_147 rfl ?_
    refine tt_getI (id := 390) dX6_isSo_148 fl_6_85 rfl rfl (ob_af h0 hA) ?_
    have B128 : ∀ (x129 : Int32), Rg 0 1 x129 → TT xi M_X6_isSo 170 [(0, .ref o0), (1, .int x1)] [.int x129] S kc nc P := by
      intro x129 h130
      refine tt_istore_n (ks := [0, 1, 2]) (L' := [(2, .int x129), (0, .ref o0), (1, .int x1)]) dX6_isSo_170 (by decide) rfl ?_
      exact tt_loc (ks := [1, 2, 0]) rfl (B101 x129 h130)
    have B131 : TT xi M_X6_isSo 165 [(0, .ref o0), (1, .int x1)] [] S kc nc P := by
      refine tt_iconst (v := 1) dX6_isSo_165 rfl ?_
      refine tt_goto (tgt := 170) dX6_isSo_166 rfl ?_
      exact B128 1 (rg_w (⟨by decide, by decide⟩ : Rg 1 1 1))
    refine tt_if_ne (tgt := 165) dX6_isSo_151 rfl (fun q132 => ?_) (fun q132 => ?_)
    · skip
      have h133 : Rg 1 1 (hp_I S 390 o0) := rg_ne_lo (gi_I (k := 390) hG (oa_af h0 hA) 0 1) (⟨by decide, by decide⟩ : Rg 0 0 0) q132
      exact B131 
    · skip
      have h134 : Rg 0 0 (hp_I S 390 o0) := rg_eq_l (gi_I (k := 390) hG (oa_af h0 hA) 0 1) (⟨by decide, by decide⟩ : Rg 0 0 0) q132
      refine tt_aload_n (j := 0) dX6_isSo_154 rfl ?_
      refine tt_getI (id := 391) dX6_isSo_155 fl_6_88 rfl rfl (ob_af h0 hA) ?_
      refine tt_aload_n (j := 0) dX6_isSo_158 rfl ?_
      refine tt_getI (id := 393) dX6_isSo_159 fl_6_79 rfl rfl (ob_af h0 hA) ?_
      refine tt_icmp_eq (tgt := 169) dX6_isSo_162 rfl (fun q135 => ?_) (fun q135 => ?_)
      · skip
        refine tt_iconst (v := 0) dX6_isSo_169 rfl ?_
        exact B128 0 (rg_w (⟨by decide, by decide⟩ : Rg 0 0 0))
      · skip
        exact B131 
set_option maxHeartbeats 4000000 in
theorem cs_X6_atWidth {xi : SX} {S : Hp} {E : List Nat} {kc nc : Nat} {P : Po} {o0 : Nat} {y1 : Int64} (hG : GI S E) (h0 : Oa S E 6 0 o0) (hP : ∀ r T x y, PV E [] S kc nc rJ (fun _ T => T = S) [] r T x y → P r T x y) : TT xi M_X6_atWidth 0 [(0, .ref o0), (1, .long y1)] [] S kc nc P := by
  have hA : Af E [] S S := af_rf
  refine tt_aload_n (j := 0) dX6_atWidth_0 rfl ?_
  obtain ⟨b101, hr102, ho103⟩ := gi_R (k := 385) hG h0 3 0
  refine gt_gR (id := 385) dX6_atWidth_1 fl_6_26 rfl rfl h0 hA hr102 ?_
  refine tt_getI (id := 201) dX6_atWidth_4 fl_6_127 rfl rfl (ob_af ho103 hA) ?_
  refine tt_bipush (v := 64) dX6_atWidth_7 rfl ?_
  have B104 : ∀ (y105 : Int64), TT xi M_X6_atWidth 19 [(0, .ref o0), (1, .long y1)] [.long y105] S kc nc P := by
    intro y105 
    exact tt_lreturn dX6_atWidth_19 rfl (hP _ _ _ _ ⟨hG, hA, Or.inl ⟨_, rfl, ⟨_, rfl⟩, rfl, rfl, rfl⟩⟩)
  refine tt_icmp_ne (tgt := 16) dX6_atWidth_9 rfl (fun q106 => ?_) (fun q106 => ?_)
  · skip
    refine tt_lload_n (j := 1) dX6_atWidth_16 rfl ?_
    refine tt_l2i dX6_atWidth_17 (gt_ti (fun x107 => ?_))
    refine tt_i2l dX6_atWidth_18 ?_
    exact B104 (x107 : Int32).toInt64
  · skip
    have h108 : Rg 64 64 (hp_I S 201 b101) := rg_eq_l (rg_all (hp_I S 201 b101)) (⟨by decide, by decide⟩ : Rg 64 64 64) q106
    refine tt_lload_n (j := 1) dX6_atWidth_12 rfl ?_
    refine tt_goto (tgt := 19) dX6_atWidth_13 rfl ?_
    exact B104 y1
set_option maxHeartbeats 4000000 in
theorem cs_X6_noteBits {xi : SX} {S : Hp} {E : List Nat} {kc nc : Nat} {P : Po} {o0 : Nat} {y1 : Int64} (hG : GI S E) (h0 : Oa S E 6 0 o0) (hP : ∀ r T x y, PV E [389, 390, 391, 392, 393] S kc nc rJ ex0 [] r T x y → P r T x y) : TT xi M_X6_noteBits 0 [(0, .ref o0), (1, .long y1)] [] S kc nc P := by
  have hA : Af E [389, 390, 391, 392, 393] S S := af_rf
  refine tt_aload_n (j := 0) dX6_noteBits_0 rfl ?_
  refine tt_lload_n (j := 1) dX6_noteBits_1 rfl ?_
  refine gt_VJp (As := [.long y1]) dX6_noteBits_2 ca_X6_98 ⟨by decide, by decide⟩ h0 hA rfl (Nat.le_of_ble_eq_true rfl) (Nat.le_of_ble_eq_true rfl) (by decide) (cs_X6_atWidth hG (oa_af h0 hA) (fun _ _ _ _ h => h)) rfl (fun _ h => nomatch h) (fun _ _ q => q) (fun y106 hx105 => ?_)
  refine tt_lstore_n (ks := [0, 1, 2]) (L' := [(3, .long y106), (0, .ref o0), (1, .long y1)]) dX6_noteBits_5 (by decide) rfl ?_
  refine tt_aload_n (j := 1) dX6_noteBits_6 rfl ?_
  refine tt_iconst (v := 1) dX6_noteBits_7 rfl ?_
  refine gt_pI (id := 389) (x := 1) dX6_noteBits_8 fl_6_40 rfl rfl h0 hA rfl rfl rfl (gp_Ir hG (⟨by decide, by decide⟩ : Rg 1 1 1)) (by decide) (fun h => absurd h (by decide)) (fun h => absurd h (by decide)) (fun S108 hG109 hA110 e111 f112 er113 => ?_)
  refine tt_aload_n (j := 1) dX6_noteBits_11 rfl ?_
  refine tt_lload_n (j := 0) dX6_noteBits_12 rfl ?_
  refine tt_lconst (v := 0) dX6_noteBits_13 rfl ?_
  refine tt_lcmp dX6_noteBits_14 ?_
  have B114 : ∀ (x115 : Int32), Rg 0 1 x115 → TT xi M_X6_noteBits 23 [(0, .ref o0), (1, .long y1), (3, .long y106)] [.int x115, .ref o0] S108 kc nc P := by
    intro x115 h116
    refine gt_pI (id := 390) (x := x115) dX6_noteBits_23 fl_6_85 rfl rfl h0 hA110 (rg_nar (rg_w h116)) (rg_fit (rg_w h116)) rfl (gp_Ir hG109 h116) (by decide) (fun h => absurd h (by decide)) (fun h => absurd h (by decide)) (fun S117 hG118 hA119 e120 f121 er122 => ?_)
    refine tt_aload_n (j := 0) dX6_noteBits_26 rfl ?_
    refine tt_lload_n (j := 2) dX6_noteBits_27 rfl ?_
    refine tt_lconst (v := 0) dX6_noteBits_28 rfl ?_
    refine tt_lcmp dX6_noteBits_29 ?_
    have B123 : ∀ (x124 : Int32), Rg 0 1 x124 → TT xi M_X6_noteBits 38 [(0, .ref o0), (1, .long y1), (3, .long y106)] [.int x124, .ref o0] S117 kc nc P := by
      intro x124 h125
      refine gt_pI (id := 391) (x := x124) dX6_noteBits_38 fl_6_88 rfl rfl h0 hA119 (rg_nar (rg_w h125)) (rg_fit (rg_w h125)) rfl (gp_Ir hG118 h125) (by decide) (fun h => absurd h (by decide)) (fun h => absurd h (by decide)) (fun S126 hG127 hA128 e129 f130 er131 => ?_)
      refine tt_aload_n (j := 0) dX6_noteBits_41 rfl ?_
      refine tt_iconst (v := 0) dX6_noteBits_42 rfl ?_
      refine gt_pI (id := 392) (x := 0) dX6_noteBits_43 fl_6_82 rfl rfl h0 hA128 rfl rfl rfl (gp_Ir hG127 (⟨by decide, by decide⟩ : Rg 0 0 0)) (by decide) (fun h => absurd h (by decide)) (fun h => absurd h (by decide)) (fun S132 hG133 hA134 e135 f136 er137 => ?_)
      refine tt_aload_n (j := 0) dX6_noteBits_46 rfl ?_
      refine tt_iconst (v := 0) dX6_noteBits_47 rfl ?_
      refine gt_pI (id := 393) (x := 0) dX6_noteBits_48 fl_6_79 rfl rfl h0 hA134 rfl rfl rfl (gp_Ir hG133 (⟨by decide, by decide⟩ : Rg 0 0 0)) (by decide) (fun h => absurd h (by decide)) (fun h => absurd h (by decide)) (fun S138 hG139 hA140 e141 f142 er143 => ?_)
      refine tt_lload_n (j := 2) dX6_noteBits_51 rfl ?_
      exact tt_lreturn dX6_noteBits_52 rfl (hP _ _ _ _ ⟨hG139, hA140, Or.inl ⟨_, rfl, ⟨_, rfl⟩, trivial, rfl, rfl⟩⟩)
    refine tt_if_ge (tgt := 37) dX6_noteBits_30 rfl (fun q144 => ?_) (fun q144 => ?_)
    · skip
      have h145 : Rl 0 9223372036854775807 y106 := rl_le_r (⟨by decide, by decide⟩ : Rl 0 0 0) (rl_all y106) (lc_ge_t q144)
      refine tt_iconst (v := 0) dX6_noteBits_37 rfl ?_
      exact B123 0 (rg_w (⟨by decide, by decide⟩ : Rg 0 0 0))
    · skip
      have h146 : Rl (-9223372036854775808) (-1) y106 := rl_lt_l (rl_all y106) (⟨by decide, by decide⟩ : Rl 0 0 0) (lc_ge_f q144)
      refine tt_iconst (v := 1) dX6_noteBits_33 rfl ?_
      refine tt_goto (tgt := 38) dX6_noteBits_34 rfl ?_
      exact B123 1 (rg_w (⟨by decide, by decide⟩ : Rg 1 1 1))
  refine tt_if_ne (tgt := 22) dX6_noteBits_15 rfl (fun q147 => ?_) (fun q147 => ?_)
  · skip
    refine tt_iconst (v := 0) dX6_noteBits_22 rfl ?_
    exact tt_loc (ks := [1, 2, 0]) rfl (B114 0 (rg_w (⟨by decide, by decide⟩ : Rg 0 0 0)))
  · skip
    have h148 : Rl 0 0 y106 := rl_eq_l (rl_all y106) (⟨by decide, by decide⟩ : Rl 0 0 0) (lc_ne_f q147)
    refine tt_iconst (v := 1) dX6_noteBits_18 rfl ?_
    refine tt_goto (tgt := 23) dX6_noteBits_19 rfl ?_
    exact tt_loc (ks := [1, 2, 0]) rfl (B114 1 (rg_w (⟨by decide, by decide⟩ : Rg 1 1 1)))
set_option maxHeartbeats 4000000 in
theorem cs_X6_shifted {xi : SX} {S : Hp} {E : List Nat} {kc nc : Nat} {P : Po} {o0 : Nat} {y1 : Int64} (hG : GI S E) (h0 : Oa S E 6 0 o0) (hP : ∀ r T x y, PV E [] S kc nc rJ (fun _ T => T = S) [] r T x y → P r T x y) : TT xi M_X6_shifted 0 [(0, .ref o0), (1, .long y1)] [] S kc nc P := by
  have hA : Af E [] S S := af_rf
  refine tt_aload_n (j := 0) dX6_shifted_0 rfl ?_
  obtain ⟨b101, hr102, ho103⟩ := gi_R (k := 385) hG h0 3 0
  refine gt_gR (id := 385) dX6_shifted_1 fl_6_26 rfl rfl h0 hA hr102 ?_
  refine tt_getI (id := 204) dX6_shifted_4 fl_6_64 rfl rfl (ob_af ho103 hA) ?_
  refine tt_istore_n (ks := [0, 1, 2]) (L' := [(3, .int (hp_I S 204 b101)), (0, .ref o0), (1, .long y1)]) dX6_shifted_7 (by decide) rfl ?_
  refine tt_aload_n (j := 1) dX6_shifted_8 rfl ?_
  refine gt_gR (id := 385) dX6_shifted_9 fl_6_26 rfl rfl h0 hA hr102 ?_
  refine tt_getI (id := 200) dX6_shifted_12 fl_6_57 rfl rfl (ob_af ho103 hA) ?_
  refine gt_ls [40, 44, 68] dX6_shifted_15 (by decide) (by decide) (fa_cons ?_ (fa_cons ?_ (fa_cons ?_ fa_nil)))
  · skip
    refine tt_lload_n (j := 2) dX6_shifted_40 rfl ?_
    refine tt_iload_n (j := 0) dX6_shifted_41 rfl ?_
    refine tt_lshl dX6_shifted_42 (gt_tl (fun y104 => ?_))
    exact tt_lreturn dX6_shifted_43 rfl (hP _ _ _ _ ⟨hG, hA, Or.inl ⟨_, rfl, ⟨_, rfl⟩, rfl, rfl, rfl⟩⟩)
  · skip
    refine tt_aload_n (j := 1) dX6_shifted_44 rfl ?_
    refine gt_gR (id := 385) dX6_shifted_45 fl_6_26 rfl rfl h0 hA hr102 ?_
    refine tt_getI (id := 201) dX6_shifted_48 fl_6_127 rfl rfl (ob_af ho103 hA) ?_
    refine tt_bipush (v := 64) dX6_shifted_51 rfl ?_
    have B105 : ∀ (y106 : Int64), TT xi M_X6_shifted 65 [(0, .ref o0), (1, .long y1), (3, .int (hp_I S 204 b101))] [.long y106] S kc nc P := by
      intro y106 
      refine tt_iload_n (j := 2) dX6_shifted_65 rfl ?_
      refine tt_lushr dX6_shifted_66 (gt_tl (fun y107 => ?_))
      exact tt_lreturn dX6_shifted_67 rfl (hP _ _ _ _ ⟨hG, hA, Or.inl ⟨_, rfl, ⟨_, rfl⟩, rfl, rfl, rfl⟩⟩)
    refine tt_icmp_ne (tgt := 60) dX6_shifted_53 rfl (fun q108 => ?_) (fun q108 => ?_)
    · skip
      refine tt_lload_n (j := 2) dX6_shifted_60 rfl ?_
      refine tt_ldc2 (v := 4294967295) dX6_shifted_61 kl_6_130 ?_
      refine tt_land dX6_shifted_64 (gt_tl (fun y109 => ?_))
      exact tt_loc (ks := [1, 2, 0]) rfl (B105 y109)
    · skip
      have h110 : Rg 64 64 (hp_I S 201 b101) := rg_eq_l (rg_all (hp_I S 201 b101)) (⟨by decide, by decide⟩ : Rg 64 64 64) q108
      refine tt_lload_n (j := 2) dX6_shifted_56 rfl ?_
      refine tt_goto (tgt := 65) dX6_shifted_57 rfl ?_
      exact tt_loc (ks := [1, 2, 0]) rfl (B105 y1)
  · skip
    refine tt_lload_n (j := 2) dX6_shifted_68 rfl ?_
    refine tt_iload_n (j := 0) dX6_shifted_69 rfl ?_
    refine tt_lshr dX6_shifted_70 (gt_tl (fun y111 => ?_))
    exact tt_lreturn dX6_shifted_71 rfl (hP _ _ _ _ ⟨hG, hA, Or.inl ⟨_, rfl, ⟨_, rfl⟩, rfl, rfl, rfl⟩⟩)
set_option maxHeartbeats 4000000 in
theorem cs_X7_isTriple {xi : SX} {S : Hp} {E : List Nat} {kc nc : Nat} {P : Po} {y0 : Int64} {y2 : Int64} {y4 : Int64} (hG : GI S E)  (hP : ∀ r T x y, PV E [] S kc nc (rI 0 1) (fun _ T => T = S) [] r T x y → P r T x y) : TT xi M_X7_isTriple 0 [(0, .long y0), (2, .long y2), (4, .long y4)] [] S kc nc P := by
  have hA : Af E [] S S := af_rf
  refine tt_lload_n (j := 0) dX7_isTriple_0 rfl ?_
  refine tt_lload_n (j := 1) dX7_isTriple_1 rfl ?_
  refine tt_lcmp dX7_isTriple_2 ?_
  have B101 : TT xi M_X7_isTriple 22 [(0, .long y0), (2, .long y2), (4, .long y4)] [] S kc nc P := by
    refine tt_iconst (v := 0) dX7_isTriple_22 rfl ?_
    exact tt_ireturn dX7_isTriple_23 .boolean rfl rfl (hP _ _ _ _ ⟨hG, hA, Or.inl ⟨_, rfl, ⟨_, rfl, rg_w (⟨by decide, by decide⟩ : Rg 0 0 0)⟩, rfl, rfl, rfl⟩⟩)
  refine tt_if_gt (tgt := 22) dX7_isTriple_3 rfl (fun q102 => ?_) (fun q102 => ?_)
  · skip
    have h103 : Rl (-9223372036854775808) 9223372036854775806 y2 := rl_lt_l (rl_all y2) (rl_all y0) (lc_gt_t q102)
    have h104 : Rl (-9223372036854775807) 9223372036854775807 y0 := rl_lt_r (rl_all y2) (rl_all y0) (lc_gt_t q102)
    exact B101 
  · skip
    refine tt_lload_n (j := 0) dX7_isTriple_6 rfl ?_
    refine tt_ldc2 (v := (-2305843009213693952)) dX7_isTriple_7 kl_7_11 ?_
    refine tt_lcmp dX7_isTriple_10 ?_
    refine tt_if_lt (tgt := 22) dX7_isTriple_11 rfl (fun q105 => ?_) (fun q105 => ?_)
    · skip
      have h106 : Rl (-9223372036854775808) (-2305843009213693953) y0 := rl_lt_l (rl_all y0) (⟨by decide, by decide⟩ : Rl (-2305843009213693952) (-2305843009213693952) (-2305843009213693952)) (lc_lt_t q105)
      exact B101 
    · skip
      have h107 : Rl (-2305843009213693952) 9223372036854775807 y0 := rl_le_r (⟨by decide, by decide⟩ : Rl (-2305843009213693952) (-2305843009213693952) (-2305843009213693952)) (rl_all y0) (lc_lt_f q105)
      refine tt_lload_n (j := 1) dX7_isTriple_14 rfl ?_
      refine tt_ldc2 (v := 2305843009213693952) dX7_isTriple_15 kl_7_13 ?_
      refine tt_lcmp dX7_isTriple_18 ?_
      refine tt_if_le (tgt := 24) dX7_isTriple_19 rfl (fun q108 => ?_) (fun q108 => ?_)
      · skip
        have h109 : Rl (-9223372036854775808) 2305843009213693952 y2 := rl_le_l (rl_all y2) (⟨by decide, by decide⟩ : Rl 2305843009213693952 2305843009213693952 2305843009213693952) (lc_le_t q108)
        refine tt_lload_n (j := 0) dX7_isTriple_24 rfl ?_
        refine tt_lload_n (j := 1) dX7_isTriple_25 rfl ?_
        refine tt_lcmp dX7_isTriple_26 ?_
        refine tt_if_ne (tgt := 43) dX7_isTriple_27 rfl (fun q110 => ?_) (fun q110 => ?_)
        · skip
          refine tt_lload (j := 2) dX7_isTriple_43 rfl ?_
          refine tt_lconst (v := 0) dX7_isTriple_45 rfl ?_
          refine tt_lcmp dX7_isTriple_46 ?_
          have B111 : ∀ (x112 : Int32), Rg 0 1 x112 → TT xi M_X7_isTriple 66 [(0, .long y0), (2, .long y2), (4, .long y4)] [.int x112] S kc nc P := by
            intro x112 h113
            exact tt_ireturn dX7_isTriple_66 .boolean rfl (rg_nar (rg_w h113)) (hP _ _ _ _ ⟨hG, hA, Or.inl ⟨_, rfl, ⟨_, rfl, rg_w h113⟩, rfl, rfl, rfl⟩⟩)
          have B114 : TT xi M_X7_isTriple 65 [(0, .long y0), (2, .long y2), (4, .long y4)] [] S kc nc P := by
            refine tt_iconst (v := 0) dX7_isTriple_65 rfl ?_
            exact B111 0 (rg_w (⟨by decide, by decide⟩ : Rg 0 0 0))
          refine tt_if_le (tgt := 65) dX7_isTriple_47 rfl (fun q115 => ?_) (fun q115 => ?_)
          · skip
            have h116 : Rl (-9223372036854775808) 0 y4 := rl_le_l (rl_all y4) (⟨by decide, by decide⟩ : Rl 0 0 0) (lc_le_t q115)
            exact B114 
          · skip
            have h117 : Rl 1 9223372036854775807 y4 := rl_lt_r (⟨by decide, by decide⟩ : Rl 0 0 0) (rl_all y4) (lc_le_f q115)
            refine tt_lload_n (j := 1) dX7_isTriple_50 rfl ?_
            refine tt_lload_n (j := 0) dX7_isTriple_51 rfl ?_
            refine tt_lsub dX7_isTriple_52 (gt_tl (fun y118 => ?_))
            refine tt_lload (j := 2) dX7_isTriple_53 rfl ?_
            refine tt_lrem dX7_isTriple_55 (nz_pos (lc_le_f q115)) (gt_tl (fun y119 => ?_))
            refine tt_lconst (v := 0) dX7_isTriple_56 rfl ?_
            refine tt_lcmp dX7_isTriple_57 ?_
            refine tt_if_ne (tgt := 65) dX7_isTriple_58 rfl (fun q120 => ?_) (fun q120 => ?_)
            · skip
              exact B114 
            · skip
              have h121 : Rl 0 0 y119 := rl_eq_l (rl_all y119) (⟨by decide, by decide⟩ : Rl 0 0 0) (lc_ne_f q120)
              refine tt_iconst (v := 1) dX7_isTriple_61 rfl ?_
              refine tt_goto (tgt := 66) dX7_isTriple_62 rfl ?_
              exact B111 1 (rg_w (⟨by decide, by decide⟩ : Rg 1 1 1))
        · skip
          refine tt_lload (j := 2) dX7_isTriple_30 rfl ?_
          refine tt_lconst (v := 0) dX7_isTriple_32 rfl ?_
          refine tt_lcmp dX7_isTriple_33 ?_
          have B122 : ∀ (x123 : Int32), Rg 0 1 x123 → TT xi M_X7_isTriple 42 [(0, .long y0), (2, .long y2), (4, .long y4)] [.int x123] S kc nc P := by
            intro x123 h124
            exact tt_ireturn dX7_isTriple_42 .boolean rfl (rg_nar (rg_w h124)) (hP _ _ _ _ ⟨hG, hA, Or.inl ⟨_, rfl, ⟨_, rfl, rg_w h124⟩, rfl, rfl, rfl⟩⟩)
          refine tt_if_ne (tgt := 41) dX7_isTriple_34 rfl (fun q125 => ?_) (fun q125 => ?_)
          · skip
            refine tt_iconst (v := 0) dX7_isTriple_41 rfl ?_
            exact B122 0 (rg_w (⟨by decide, by decide⟩ : Rg 0 0 0))
          · skip
            have h126 : Rl 0 0 y4 := rl_eq_l (rl_all y4) (⟨by decide, by decide⟩ : Rl 0 0 0) (lc_ne_f q125)
            refine tt_iconst (v := 1) dX7_isTriple_37 rfl ?_
            refine tt_goto (tgt := 42) dX7_isTriple_38 rfl ?_
            exact B122 1 (rg_w (⟨by decide, by decide⟩ : Rg 1 1 1))
      · skip
        have h127 : Rl 2305843009213693953 9223372036854775807 y2 := rl_lt_r (⟨by decide, by decide⟩ : Rl 2305843009213693952 2305843009213693952 2305843009213693952) (rl_all y2) (lc_le_f q108)
        exact B101 
set_option maxHeartbeats 4000000 in
theorem cs_X7_isAny {xi : SX} {S : Hp} {E : List Nat} {kc nc : Nat} {P : Po} {o0 : Nat} (hG : GI S E) (h0 : Oa S E 7 0 o0) (hP : ∀ r T x y, PV E [] S kc nc (rI 0 1) (fun _ T => T = S) [] r T x y → P r T x y) : TT xi M_X7_isAny 0 [(0, .ref o0)] [] S kc nc P := by
  have hA : Af E [] S S := af_rf
  refine tt_aload_n (j := 0) dX7_isAny_0 rfl ?_
  refine gt_gJ (id := 450) (v := (hp_J S 450 o0)) dX7_isAny_1 fl_7_15 rfl rfl h0 hA rfl ?_
  refine tt_ldc2 (v := (-1)) dX7_isAny_4 kl_7_19 ?_
  refine tt_lcmp dX7_isAny_7 ?_
  have B101 : ∀ (x102 : Int32), Rg 0 1 x102 → TT xi M_X7_isAny 16 [(0, .ref o0)] [.int x102] S kc nc P := by
    intro x102 h103
    exact tt_ireturn dX7_isAny_16 .boolean rfl (rg_nar (rg_w h103)) (hP _ _ _ _ ⟨hG, hA, Or.inl ⟨_, rfl, ⟨_, rfl, rg_w h103⟩, rfl, rfl, rfl⟩⟩)
  refine tt_if_ne (tgt := 15) dX7_isAny_8 rfl (fun q104 => ?_) (fun q104 => ?_)
  · skip
    refine tt_iconst (v := 0) dX7_isAny_15 rfl ?_
    exact B101 0 (rg_w (⟨by decide, by decide⟩ : Rg 0 0 0))
  · skip
    have h105 : Rl (-1) (-1) (hp_J S 450 o0) := rl_eq_l (rl_all (hp_J S 450 o0)) (⟨by decide, by decide⟩ : Rl (-1) (-1) (-1)) (lc_ne_f q104)
    refine tt_iconst (v := 1) dX7_isAny_11 rfl ?_
    refine tt_goto (tgt := 16) dX7_isAny_12 rfl ?_
    exact B101 1 (rg_w (⟨by decide, by decide⟩ : Rg 1 1 1))
set_option maxHeartbeats 4000000 in
theorem cs_X7_isNone {xi : SX} {S : Hp} {E : List Nat} {kc nc : Nat} {P : Po} {o0 : Nat} (hG : GI S E) (h0 : Oa S E 7 0 o0) (hP : ∀ r T x y, PV E [] S kc nc (rI 0 1) (fun _ T => T = S) [] r T x y → P r T x y) : TT xi M_X7_isNone 0 [(0, .ref o0)] [] S kc nc P := by
  have hA : Af E [] S S := af_rf
  refine tt_aload_n (j := 0) dX7_isNone_0 rfl ?_
  refine gt_gJ (id := 450) (v := (hp_J S 450 o0)) dX7_isNone_1 fl_7_15 rfl rfl h0 hA rfl ?_
  refine tt_ldc2 (v := (-2)) dX7_isNone_4 kl_7_21 ?_
  refine tt_lcmp dX7_isNone_7 ?_
  have B101 : ∀ (x102 : Int32), Rg 0 1 x102 → TT xi M_X7_isNone 16 [(0, .ref o0)] [.int x102] S kc nc P := by
    intro x102 h103
    exact tt_ireturn dX7_isNone_16 .boolean rfl (rg_nar (rg_w h103)) (hP _ _ _ _ ⟨hG, hA, Or.inl ⟨_, rfl, ⟨_, rfl, rg_w h103⟩, rfl, rfl, rfl⟩⟩)
  refine tt_if_ne (tgt := 15) dX7_isNone_8 rfl (fun q104 => ?_) (fun q104 => ?_)
  · skip
    refine tt_iconst (v := 0) dX7_isNone_15 rfl ?_
    exact B101 0 (rg_w (⟨by decide, by decide⟩ : Rg 0 0 0))
  · skip
    have h105 : Rl (-2) (-2) (hp_J S 450 o0) := rl_eq_l (rl_all (hp_J S 450 o0)) (⟨by decide, by decide⟩ : Rl (-2) (-2) (-2)) (lc_ne_f q104)
    refine tt_iconst (v := 1) dX7_isNone_11 rfl ?_
    refine tt_goto (tgt := 16) dX7_isNone_12 rfl ?_
    exact B101 1 (rg_w (⟨by decide, by decide⟩ : Rg 1 1 1))
set_option maxHeartbeats 4000000 in
theorem cs_X7_isSingle {xi : SX} {S : Hp} {E : List Nat} {kc nc : Nat} {P : Po} {o0 : Nat} (hG : GI S E) (h0 : Oa S E 7 0 o0) (hP : ∀ r T x y, PV E [] S kc nc (rI 0 1) (fun _ T => T = S) [] r T x y → P r T x y) : TT xi M_X7_isSingle 0 [(0, .ref o0)] [] S kc nc P := by
  have hA : Af E [] S S := af_rf
  refine tt_aload_n (j := 0) dX7_isSingle_0 rfl ?_
  refine gt_gJ (id := 450) (v := (hp_J S 450 o0)) dX7_isSingle_1 fl_7_15 rfl rfl h0 hA rfl ?_
  refine tt_lconst (v := 0) dX7_isSingle_4 rfl ?_
  refine tt_lcmp dX7_isSingle_5 ?_
  have B101 : ∀ (x102 : Int32), Rg 0 1 x102 → TT xi M_X7_isSingle 14 [(0, .ref o0)] [.int x102] S kc nc P := by
    intro x102 h103
    exact tt_ireturn dX7_isSingle_14 .boolean rfl (rg_nar (rg_w h103)) (hP _ _ _ _ ⟨hG, hA, Or.inl ⟨_, rfl, ⟨_, rfl, rg_w h103⟩, rfl, rfl, rfl⟩⟩)
  refine tt_if_ne (tgt := 13) dX7_isSingle_6 rfl (fun q104 => ?_) (fun q104 => ?_)
  · skip
    refine tt_iconst (v := 0) dX7_isSingle_13 rfl ?_
    exact B101 0 (rg_w (⟨by decide, by decide⟩ : Rg 0 0 0))
  · skip
    have h105 : Rl 0 0 (hp_J S 450 o0) := rl_eq_l (rl_all (hp_J S 450 o0)) (⟨by decide, by decide⟩ : Rl 0 0 0) (lc_ne_f q104)
    refine tt_iconst (v := 1) dX7_isSingle_9 rfl ?_
    refine tt_goto (tgt := 14) dX7_isSingle_10 rfl ?_
    exact B101 1 (rg_w (⟨by decide, by decide⟩ : Rg 1 1 1))
set_option maxHeartbeats 4000000 in
theorem cs_X7_isNatural {xi : SX} {S : Hp} {E : List Nat} {kc nc : Nat} {P : Po} {o0 : Nat} (hG : GI S E) (h0 : Oa S E 7 0 o0) (hP : ∀ r T x y, PV E [] S kc nc (rI 0 1) (fun _ T => T = S) [] r T x y → P r T x y) : TT xi M_X7_isNatural 0 [(0, .ref o0)] [] S kc nc P := by
  have hA : Af E [] S S := af_rf
  refine tt_aload_n (j := 0) dX7_isNatural_0 rfl ?_
  refine gt_gJ (id := 450) (v := (hp_J S 450 o0)) dX7_isNatural_1 fl_7_15 rfl rfl h0 hA rfl ?_
  refine tt_lconst (v := 0) dX7_isNatural_4 rfl ?_
  refine tt_lcmp dX7_isNatural_5 ?_
  have B101 : ∀ (x102 : Int32), Rg 0 1 x102 → TT xi M_X7_isNatural 23 [(0, .ref o0)] [.int x102] S kc nc P := by
    intro x102 h103
    exact tt_ireturn dX7_isNatural_23 .boolean rfl (rg_nar (rg_w h103)) (hP _ _ _ _ ⟨hG, hA, Or.inl ⟨_, rfl, ⟨_, rfl, rg_w h103⟩, rfl, rfl, rfl⟩⟩)
  have B104 : TT xi M_X7_isNatural 22 [(0, .ref o0)] [] S kc nc P := by
    refine tt_iconst (v := 0) dX7_isNatural_22 rfl ?_
    exact B101 0 (rg_w (⟨by decide, by decide⟩ : Rg 0 0 0))
  refine tt_if_lt (tgt := 22) dX7_isNatural_6 rfl (fun q105 => ?_) (fun q105 => ?_)
  · skip
    have h106 : Rl (-9223372036854775808) (-1) (hp_J S 450 o0) := rl_lt_l (rl_all (hp_J S 450 o0)) (⟨by decide, by decide⟩ : Rl 0 0 0) (lc_lt_t q105)
    exact B104 
  · skip
    have h107 : Rl 0 9223372036854775807 (hp_J S 450 o0) := rl_le_r (⟨by decide, by decide⟩ : Rl 0 0 0) (rl_all (hp_J S 450 o0)) (lc_lt_f q105)
    refine tt_aload_n (j := 0) dX7_isNatural_9 rfl ?_
    refine gt_gJ (id := 448) (v := (hp_J S 448 o0)) dX7_isNatural_10 fl_7_23 rfl rfl h0 hA rfl ?_
    refine tt_lconst (v := 0) dX7_isNatural_13 rfl ?_
    refine tt_lcmp dX7_isNatural_14 ?_
    refine tt_if_lt (tgt := 22) dX7_isNatural_15 rfl (fun q108 => ?_) (fun q108 => ?_)
    · skip
      have h109 : Rl (-9223372036854775808) (-1) (hp_J S 448 o0) := rl_lt_l (rl_all (hp_J S 448 o0)) (⟨by decide, by decide⟩ : Rl 0 0 0) (lc_lt_t q108)
      exact B104 
    · skip
      have h110 : Rl 0 9223372036854775807 (hp_J S 448 o0) := rl_le_r (⟨by decide, by decide⟩ : Rl 0 0 0) (rl_all (hp_J S 448 o0)) (lc_lt_f q108)
      refine tt_iconst (v := 1) dX7_isNatural_18 rfl ?_
      refine tt_goto (tgt := 23) dX7_isNatural_19 rfl ?_
      exact B101 1 (rg_w (⟨by decide, by decide⟩ : Rg 1 1 1))
set_option maxHeartbeats 4000000 in
theorem cs_X7_holds {xi : SX} {S : Hp} {E : List Nat} {kc nc : Nat} {P : Po} {o0 : Nat} {y1 : Int64} (hG : GI S E) (h0 : Oa S E 7 0 o0) (hP : ∀ r T x y, PV E [] S kc nc (rI 0 1) (fun _ T => T = S) [] r T x y → P r T x y) : TT xi M_X7_holds 0 [(0, .ref o0), (1, .long y1)] [] S kc nc P := by
  have hA : Af E [] S S := af_rf
  refine tt_aload_n (j := 0) dX7_holds_0 rfl ?_
  refine gt_gJ (id := 450) (v := (hp_J S 450 o0)) dX7_holds_1 fl_7_15 rfl rfl h0 hA rfl ?_
  refine tt_ldc2 (v := (-1)) dX7_holds_4 kl_7_19 ?_
  refine tt_lcmp dX7_holds_7 ?_
  refine tt_if_ne (tgt := 13) dX7_holds_8 rfl (fun q101 => ?_) (fun q101 => ?_)
  · skip
    refine tt_aload_n (j := 0) dX7_holds_13 rfl ?_
    refine gt_gJ (id := 450) (v := (hp_J S 450 o0)) dX7_holds_14 fl_7_15 rfl rfl h0 hA rfl ?_
    refine tt_lconst (v := 0) dX7_holds_17 rfl ?_
    refine tt_lcmp dX7_holds_18 ?_
    have B102 : TT xi M_X7_holds 40 [(0, .ref o0), (1, .long y1)] [] S kc nc P := by
      refine tt_iconst (v := 0) dX7_holds_40 rfl ?_
      exact tt_ireturn dX7_holds_41 .boolean rfl rfl (hP _ _ _ _ ⟨hG, hA, Or.inl ⟨_, rfl, ⟨_, rfl, rg_w (⟨by decide, by decide⟩ : Rg 0 0 0)⟩, rfl, rfl, rfl⟩⟩)
    refine tt_if_lt (tgt := 40) dX7_holds_19 rfl (fun q103 => ?_) (fun q103 => ?_)
    · skip
      have h104 : Rl (-9223372036854775808) (-1) (hp_J S 450 o0) := rl_lt_l (rl_all (hp_J S 450 o0)) (⟨by decide, by decide⟩ : Rl 0 0 0) (lc_lt_t q103)
      exact B102 
    · skip
      have h105 : Rl 0 9223372036854775807 (hp_J S 450 o0) := rl_le_r (⟨by decide, by decide⟩ : Rl 0 0 0) (rl_all (hp_J S 450 o0)) (lc_lt_f q103)
      refine tt_lload_n (j := 1) dX7_holds_22 rfl ?_
      refine tt_aload_n (j := 0) dX7_holds_23 rfl ?_
      refine gt_gJ (id := 448) (v := (hp_J S 448 o0)) dX7_holds_24 fl_7_23 rfl rfl h0 hA rfl ?_
      refine tt_lcmp dX7_holds_27 ?_
      refine tt_if_lt (tgt := 40) dX7_holds_28 rfl (fun q106 => ?_) (fun q106 => ?_)
      · skip
        have h107 : Rl (-9223372036854775808) 9223372036854775806 y1 := rl_lt_l (rl_all y1) (rl_all (hp_J S 448 o0)) (lc_lt_t q106)
        have h108 : Rl (-9223372036854775807) 9223372036854775807 (hp_J S 448 o0) := rl_lt_r (rl_all y1) (rl_all (hp_J S 448 o0)) (lc_lt_t q106)
        exact B102 
      · skip
        refine tt_lload_n (j := 1) dX7_holds_31 rfl ?_
        refine tt_aload_n (j := 0) dX7_holds_32 rfl ?_
        refine gt_gJ (id := 449) (v := (hp_J S 449 o0)) dX7_holds_33 fl_7_26 rfl rfl h0 hA rfl ?_
        refine tt_lcmp dX7_holds_36 ?_
        refine tt_if_le (tgt := 42) dX7_holds_37 rfl (fun q109 => ?_) (fun q109 => ?_)
        · skip
          refine tt_aload_n (j := 0) dX7_holds_42 rfl ?_
          refine gt_gJ (id := 450) (v := (hp_J S 450 o0)) dX7_holds_43 fl_7_15 rfl rfl h0 hA rfl ?_
          refine tt_lconst (v := 0) dX7_holds_46 rfl ?_
          refine tt_lcmp dX7_holds_47 ?_
          have B110 : ∀ (x111 : Int32), Rg 0 1 x111 → TT xi M_X7_holds 72 [(0, .ref o0), (1, .long y1)] [.int x111] S kc nc P := by
            intro x111 h112
            exact tt_ireturn dX7_holds_72 .boolean rfl (rg_nar (rg_w h112)) (hP _ _ _ _ ⟨hG, hA, Or.inl ⟨_, rfl, ⟨_, rfl, rg_w h112⟩, rfl, rfl, rfl⟩⟩)
          have B113 : TT xi M_X7_holds 67 [(0, .ref o0), (1, .long y1)] [] S kc nc P := by
            refine tt_iconst (v := 1) dX7_holds_67 rfl ?_
            refine tt_goto (tgt := 72) dX7_holds_68 rfl ?_
            exact B110 1 (rg_w (⟨by decide, by decide⟩ : Rg 1 1 1))
          refine tt_if_eq (tgt := 67) dX7_holds_48 rfl (fun q114 => ?_) (fun q114 => ?_)
          · skip
            have h115 : Rl 0 0 (hp_J S 450 o0) := rl_eq_l h105 (⟨by decide, by decide⟩ : Rl 0 0 0) (lc_eq_t q114)
            exact B113 
          · skip
            refine tt_lload_n (j := 1) dX7_holds_51 rfl ?_
            refine tt_aload_n (j := 0) dX7_holds_52 rfl ?_
            refine gt_gJ (id := 448) (v := (hp_J S 448 o0)) dX7_holds_53 fl_7_23 rfl rfl h0 hA rfl ?_
            refine tt_lsub dX7_holds_56 (gt_tl (fun y116 => ?_))
            refine tt_aload_n (j := 0) dX7_holds_57 rfl ?_
            refine gt_gJ (id := 450) (v := (hp_J S 450 o0)) dX7_holds_58 fl_7_15 rfl rfl h0 hA rfl ?_
            refine tt_lrem dX7_holds_61 (lc_eq_f q114) (gt_tl (fun y117 => ?_))
            refine tt_lconst (v := 0) dX7_holds_62 rfl ?_
            refine tt_lcmp dX7_holds_63 ?_
            refine tt_if_ne (tgt := 71) dX7_holds_64 rfl (fun q118 => ?_) (fun q118 => ?_)
            · skip
              refine tt_iconst (v := 0) dX7_holds_71 rfl ?_
              exact B110 0 (rg_w (⟨by decide, by decide⟩ : Rg 0 0 0))
            · skip
              have h119 : Rl 0 0 y117 := rl_eq_l (rl_all y117) (⟨by decide, by decide⟩ : Rl 0 0 0) (lc_ne_f q118)
              exact B113 
        · skip
          have h120 : Rl (-9223372036854775808) 9223372036854775806 (hp_J S 449 o0) := rl_lt_l (rl_all (hp_J S 449 o0)) (rl_all y1) (lc_le_f q109)
          have h121 : Rl (-9223372036854775807) 9223372036854775807 y1 := rl_lt_r (rl_all (hp_J S 449 o0)) (rl_all y1) (lc_le_f q109)
          exact B102 
  · skip
    have h122 : Rl (-1) (-1) (hp_J S 450 o0) := rl_eq_l (rl_all (hp_J S 450 o0)) (⟨by decide, by decide⟩ : Rl (-1) (-1) (-1)) (lc_ne_f q101)
    refine tt_iconst (v := 1) dX7_holds_11 rfl ?_
    exact tt_ireturn dX7_holds_12 .boolean rfl rfl (hP _ _ _ _ ⟨hG, hA, Or.inl ⟨_, rfl, ⟨_, rfl, rg_w (⟨by decide, by decide⟩ : Rg 1 1 1)⟩, rfl, rfl, rfl⟩⟩)
set_option maxHeartbeats 4000000 in
theorem cs_X7_become {xi : SX} {S : Hp} {E : List Nat} {kc nc : Nat} {P : Po} {o0 : Nat} {y1 : Int64} {y3 : Int64} {y5 : Int64} (hG : GI S E) (h0 : Oa S E 7 0 o0) (hP : ∀ r T x y, PV E [9987] S kc nc rV ex0 [] r T x y → P r T x y) : TT xi M_X7_become 0 [(0, .ref o0), (1, .long y1), (3, .long y3), (5, .long y5)] [] S kc nc P := by
  have hA : Af E [9987] S S := af_rf
  refine tt_lload_n (j := 1) dX7_become_0 rfl ?_
  refine tt_ldc2 (v := (-2305843009213693952)) dX7_become_1 kl_7_11 ?_
  refine tt_lcmp dX7_become_4 ?_
  have B101 : ∀ (x102 : Int32), Rg 0 1 x102 → TT xi M_X7_become 21 [(0, .ref o0), (1, .long y1), (3, .long y3), (5, .long y5)] [.int x102] S kc nc P := by
    intro x102 h103
    refine tt_istore (ks := [0, 1, 2, 3, 4]) (L' := [(7, .int x102), (0, .ref o0), (1, .long y1), (3, .long y3), (5, .long y5)]) dX7_become_21 (by decide) rfl ?_
    refine tt_aload_n (j := 1) dX7_become_23 rfl ?_
    refine tt_iload (j := 0) dX7_become_24 rfl ?_
    have B104 : ∀ (y105 : Int64), TT xi M_X7_become 34 [(0, .ref o0), (1, .long y1), (3, .long y3), (5, .long y5), (7, .int x102)] [.long y105, .ref o0] S kc nc P := by
      intro y105 
      refine gt_pJ (id := 448) (x := y105) dX7_become_34 fl_7_23 rfl rfl h0 hA rfl rfl rfl hG (fun S106 hG107 hA108 e109 f110 er111 => ?_)
      refine tt_aload_n (j := 0) dX7_become_37 rfl ?_
      refine tt_iload (j := 4) dX7_become_38 rfl ?_
      have B112 : ∀ (y113 : Int64), TT xi M_X7_become 48 [(0, .ref o0), (1, .long y1), (3, .long y3), (5, .long y5), (7, .int x102)] [.long y113, .ref o0] S106 kc nc P := by
        intro y113 
        refine gt_pJ (id := 449) (x := y113) dX7_become_48 fl_7_26 rfl rfl h0 hA108 rfl rfl rfl hG107 (fun S114 hG115 hA116 e117 f118 er119 => ?_)
        refine tt_aload_n (j := 0) dX7_become_51 rfl ?_
        refine tt_iload (j := 4) dX7_become_52 rfl ?_
        have B120 : ∀ (y121 : Int64), TT xi M_X7_become 75 [(0, .ref o0), (1, .long y1), (3, .long y3), (5, .long y5), (7, .int x102)] [.long y121, .ref o0] S114 kc nc P := by
          intro y121 
          refine gt_pJ (id := 450) (x := y121) dX7_become_75 fl_7_15 rfl rfl h0 hA116 rfl rfl rfl hG115 (fun S122 hG123 hA124 e125 f126 er127 => ?_)
          exact tt_vreturn dX7_become_78 rfl (hP _ _ _ _ ⟨hG123, hA124, Or.inl ⟨_, rfl, rfl, trivial, rfl, rfl⟩⟩)
        refine tt_if_eq (tgt := 63) dX7_become_54 rfl (fun q128 => ?_) (fun q128 => ?_)
        · skip
          have h129 : Rg 0 0 x102 := rg_eq_l h103 (⟨by decide, by decide⟩ : Rg 0 0 0) q128
          refine tt_lload_n (j := 1) dX7_become_63 rfl ?_
          refine tt_lload_n (j := 2) dX7_become_64 rfl ?_
          refine tt_lcmp dX7_become_65 ?_
          refine tt_if_ne (tgt := 73) dX7_become_66 rfl (fun q130 => ?_) (fun q130 => ?_)
          · skip
            refine tt_lload (j := 3) dX7_become_73 rfl ?_
            exact B120 y5
          · skip
            refine tt_lconst (v := 0) dX7_become_69 rfl ?_
            refine tt_goto (tgt := 75) dX7_become_70 rfl ?_
            exact B120 0
        · skip
          have h131 : Rg 1 1 x102 := rg_ne_lo h103 (⟨by decide, by decide⟩ : Rg 0 0 0) q128
          refine tt_ldc2 (v := (-1)) dX7_become_57 kl_7_19 ?_
          refine tt_goto (tgt := 75) dX7_become_60 rfl ?_
          exact B120 (-1)
      refine tt_if_eq (tgt := 47) dX7_become_40 rfl (fun q132 => ?_) (fun q132 => ?_)
      · skip
        have h133 : Rg 0 0 x102 := rg_eq_l h103 (⟨by decide, by decide⟩ : Rg 0 0 0) q132
        refine tt_lload_n (j := 2) dX7_become_47 rfl ?_
        exact B112 y3
      · skip
        have h134 : Rg 1 1 x102 := rg_ne_lo h103 (⟨by decide, by decide⟩ : Rg 0 0 0) q132
        refine tt_lconst (v := 0) dX7_become_43 rfl ?_
        refine tt_goto (tgt := 48) dX7_become_44 rfl ?_
        exact B112 0
    refine tt_if_eq (tgt := 33) dX7_become_26 rfl (fun q135 => ?_) (fun q135 => ?_)
    · skip
      have h136 : Rg 0 0 x102 := rg_eq_l h103 (⟨by decide, by decide⟩ : Rg 0 0 0) q135
      refine tt_lload_n (j := 2) dX7_become_33 rfl ?_
      exact tt_loc (ks := [1, 2, 3, 4, 0]) rfl (B104 y1)
    · skip
      have h137 : Rg 1 1 x102 := rg_ne_lo h103 (⟨by decide, by decide⟩ : Rg 0 0 0) q135
      refine tt_lconst (v := 0) dX7_become_29 rfl ?_
      refine tt_goto (tgt := 34) dX7_become_30 rfl ?_
      exact tt_loc (ks := [1, 2, 3, 4, 0]) rfl (B104 0)
  have B138 : TT xi M_X7_become 16 [(0, .ref o0), (1, .long y1), (3, .long y3), (5, .long y5)] [] S kc nc P := by
    refine tt_iconst (v := 1) dX7_become_16 rfl ?_
    refine tt_goto (tgt := 21) dX7_become_17 rfl ?_
    exact B101 1 (rg_w (⟨by decide, by decide⟩ : Rg 1 1 1))
  refine tt_if_lt (tgt := 16) dX7_become_5 rfl (fun q139 => ?_) (fun q139 => ?_)
  · skip
    have h140 : Rl (-9223372036854775808) (-2305843009213693953) y1 := rl_lt_l (rl_all y1) (⟨by decide, by decide⟩ : Rl (-2305843009213693952) (-2305843009213693952) (-2305843009213693952)) (lc_lt_t q139)
    exact B138 
  · skip
    have h141 : Rl (-2305843009213693952) 9223372036854775807 y1 := rl_le_r (⟨by decide, by decide⟩ : Rl (-2305843009213693952) (-2305843009213693952) (-2305843009213693952)) (rl_all y1) (lc_lt_f q139)
    refine tt_lload_n (j := 2) dX7_become_8 rfl ?_
    refine tt_ldc2 (v := 2305843009213693952) dX7_become_9 kl_7_13 ?_
    refine tt_lcmp dX7_become_12 ?_
    refine tt_if_le (tgt := 20) dX7_become_13 rfl (fun q142 => ?_) (fun q142 => ?_)
    · skip
      have h143 : Rl (-9223372036854775808) 2305843009213693952 y3 := rl_le_l (rl_all y3) (⟨by decide, by decide⟩ : Rl 2305843009213693952 2305843009213693952 2305843009213693952) (lc_le_t q142)
      refine tt_iconst (v := 0) dX7_become_20 rfl ?_
      exact B101 0 (rg_w (⟨by decide, by decide⟩ : Rg 0 0 0))
    · skip
      have h144 : Rl 2305843009213693953 9223372036854775807 y3 := rl_lt_r (⟨by decide, by decide⟩ : Rl 2305843009213693952 2305843009213693952 2305843009213693952) (rl_all y3) (lc_le_f q142)
      exact B138 
