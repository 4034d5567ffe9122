/-! given and any, exactly -/
abbrev Trip (l h s : Int64) : Prop := ¬ h < l ∧ ¬ l < -2305843009213693952 ∧ ¬ 2305843009213693952 < h ∧ (if l = h then s = 0 else 0 < s ∧ ((h - l) - (h - l) / s * s) = 0)
theorem trip_lo {l h s : Int64} (t : Trip l h s) : ¬ l < -2305843009213693952 ∧ ¬ 2305843009213693952 < l := by
  refine ⟨t.2.1, fun q => t.2.2.1 ?_⟩
  have h1 := t.1
  rw [Int64.lt_iff_toInt_lt] at q h1 ⊢
  omega
theorem trip_hi {l h s : Int64} (t : Trip l h s) : ¬ h < -2305843009213693952 ∧ ¬ 2305843009213693952 < h := by
  refine ⟨fun q => t.2.1 ?_, t.2.2.1⟩
  have h1 := t.1
  rw [Int64.lt_iff_toInt_lt] at q h1 ⊢
  omega
set_option maxHeartbeats 4000000 in
theorem cq_isTriple {xi : SX} {S : Hp} {E : List Nat} {kc nc : Nat} {P : Po} {y0 : Int64} {y2 : Int64} {y4 : Int64} (hG : GI S E)  (hP : ∀ r T x y, PV E [] S kc nc (rI 0 1) (fun v T => T = S ∧ (∀ z, v = some (.int z) → z = bI (Trip y0 y2 y4))) [] r T x y → P r T x y) : TT xi M_X7_isTriple 0 [(0, .long y0), (2, .long y2), (4, .long y4)] [] S kc nc P := by
  have hA : Af E [] S S := af_rf
  refine tt_lload_n (j := 0) dX7_isTriple_0 rfl ?_
  refine tt_lload_n (j := 1) dX7_isTriple_1 rfl ?_
  refine tt_lcmp dX7_isTriple_2 ?_
  refine tt_if_gt (tgt := 22) dX7_isTriple_3 rfl (fun q101 => ?_) (fun q101 => ?_)
  · skip
    have h102 : Rl (-9223372036854775808) 9223372036854775806 y2 := rl_lt_l (rl_all y2) (rl_all y0) (lc_gt_t q101)
    have h103 : Rl (-9223372036854775807) 9223372036854775807 y0 := rl_lt_r (rl_all y2) (rl_all y0) (lc_gt_t q101)
    refine tt_iconst (v := 0) dX7_isTriple_22 rfl ?_
    exact tt_ireturn dX7_isTriple_23 .boolean rfl rfl (hP _ _ _ _ ⟨hG, hA, Or.inl ⟨_, rfl, ⟨_, rfl, rg_w (⟨by decide, by decide⟩ : Rg 0 0 0)⟩, ⟨rfl, (fun z e => (ei_v z e).trans (bI_f (show ¬ Trip y0 y2 y4 from (fun t => t.1 (lc_gt_t q101)))).symm)⟩, rfl, rfl⟩⟩)
  · skip
    refine tt_lload_n (j := 0) dX7_isTriple_6 rfl ?_
    refine tt_ldc2 (v := (-2305843009213693952)) dX7_isTriple_7 kl_7_11 ?_
    refine tt_lcmp dX7_isTriple_10 ?_
    refine tt_if_lt (tgt := 22) dX7_isTriple_11 rfl (fun q104 => ?_) (fun q104 => ?_)
    · skip
      have h105 : Rl (-9223372036854775808) (-2305843009213693953) y0 := rl_lt_l (rl_all y0) (⟨by decide, by decide⟩ : Rl (-2305843009213693952) (-2305843009213693952) (-2305843009213693952)) (lc_lt_t q104)
      refine tt_iconst (v := 0) dX7_isTriple_22 rfl ?_
      exact tt_ireturn dX7_isTriple_23 .boolean rfl rfl (hP _ _ _ _ ⟨hG, hA, Or.inl ⟨_, rfl, ⟨_, rfl, rg_w (⟨by decide, by decide⟩ : Rg 0 0 0)⟩, ⟨rfl, (fun z e => (ei_v z e).trans (bI_f (show ¬ Trip y0 y2 y4 from (fun t => t.2.1 (lc_lt_t q104)))).symm)⟩, rfl, rfl⟩⟩)
    · skip
      have h106 : Rl (-2305843009213693952) 9223372036854775807 y0 := rl_le_r (⟨by decide, by decide⟩ : Rl (-2305843009213693952) (-2305843009213693952) (-2305843009213693952)) (rl_all y0) (lc_lt_f q104)
      refine tt_lload_n (j := 1) dX7_isTriple_14 rfl ?_
      refine tt_ldc2 (v := 2305843009213693952) dX7_isTriple_15 kl_7_13 ?_
      refine tt_lcmp dX7_isTriple_18 ?_
      refine tt_if_le (tgt := 24) dX7_isTriple_19 rfl (fun q107 => ?_) (fun q107 => ?_)
      · skip
        have h108 : Rl (-9223372036854775808) 2305843009213693952 y2 := rl_le_l (rl_all y2) (⟨by decide, by decide⟩ : Rl 2305843009213693952 2305843009213693952 2305843009213693952) (lc_le_t q107)
        refine tt_lload_n (j := 0) dX7_isTriple_24 rfl ?_
        refine tt_lload_n (j := 1) dX7_isTriple_25 rfl ?_
        refine tt_lcmp dX7_isTriple_26 ?_
        refine tt_if_ne (tgt := 43) dX7_isTriple_27 rfl (fun q109 => ?_) (fun q109 => ?_)
        · skip
          refine tt_lload (j := 2) dX7_isTriple_43 rfl ?_
          refine tt_lconst (v := 0) dX7_isTriple_45 rfl ?_
          refine tt_lcmp dX7_isTriple_46 ?_
          refine tt_if_le (tgt := 65) dX7_isTriple_47 rfl (fun q110 => ?_) (fun q110 => ?_)
          · skip
            have h111 : Rl (-9223372036854775808) 0 y4 := rl_le_l (rl_all y4) (⟨by decide, by decide⟩ : Rl 0 0 0) (lc_le_t q110)
            refine tt_iconst (v := 0) dX7_isTriple_65 rfl ?_
            exact tt_ireturn dX7_isTriple_66 .boolean rfl rfl (hP _ _ _ _ ⟨hG, hA, Or.inl ⟨_, rfl, ⟨_, rfl, rg_w (⟨by decide, by decide⟩ : Rg 0 0 0)⟩, ⟨rfl, (fun z e => (ei_v z e).trans (bI_f (show ¬ Trip y0 y2 y4 from (fun t => by have u := t.2.2.2; rw [if_neg (lc_ne_t q109)] at u; exact absurd u.1 (Int64.not_lt.mpr (lc_le_t q110))))).symm)⟩, rfl, rfl⟩⟩)
          · skip
            have h112 : Rl 1 9223372036854775807 y4 := rl_lt_r (⟨by decide, by decide⟩ : Rl 0 0 0) (rl_all y4) (lc_le_f q110)
            refine tt_lload_n (j := 1) dX7_isTriple_50 rfl ?_
            refine tt_lload_n (j := 0) dX7_isTriple_51 rfl ?_
            refine tt_lsub dX7_isTriple_52 ?_
            refine tt_lload (j := 2) dX7_isTriple_53 rfl ?_
            refine tt_lrem dX7_isTriple_55 (nz_pos (lc_le_f q110)) ?_
            refine tt_lconst (v := 0) dX7_isTriple_56 rfl ?_
            refine tt_lcmp dX7_isTriple_57 ?_
            refine tt_if_ne (tgt := 65) dX7_isTriple_58 rfl (fun q113 => ?_) (fun q113 => ?_)
            · skip
              refine tt_iconst (v := 0) dX7_isTriple_65 rfl ?_
              exact tt_ireturn dX7_isTriple_66 .boolean rfl rfl (hP _ _ _ _ ⟨hG, hA, Or.inl ⟨_, rfl, ⟨_, rfl, rg_w (⟨by decide, by decide⟩ : Rg 0 0 0)⟩, ⟨rfl, (fun z e => (ei_v z e).trans (bI_f (show ¬ Trip y0 y2 y4 from (fun t => by have u := t.2.2.2; rw [if_neg (lc_ne_t q109)] at u; exact (lc_ne_t q113) u.2))).symm)⟩, rfl, rfl⟩⟩)
            · skip
              have h114 : Rl 0 0 ((y2 - y0) - (y2 - y0) / y4 * y4) := rl_eq_l (rl_all ((y2 - y0) - (y2 - y0) / y4 * y4)) (⟨by decide, by decide⟩ : Rl 0 0 0) (lc_ne_f q113)
              refine tt_iconst (v := 1) dX7_isTriple_61 rfl ?_
              refine tt_goto (tgt := 66) dX7_isTriple_62 rfl ?_
              exact tt_ireturn dX7_isTriple_66 .boolean rfl rfl (hP _ _ _ _ ⟨hG, hA, Or.inl ⟨_, rfl, ⟨_, rfl, rg_w (⟨by decide, by decide⟩ : Rg 1 1 1)⟩, ⟨rfl, (fun z e => (ei_v z e).trans (bI_t (show Trip y0 y2 y4 from ⟨(Int64.not_lt.mpr (lc_gt_f q101)), (Int64.not_lt.mpr (lc_lt_f q104)), (Int64.not_lt.mpr (lc_le_t q107)), (by rw [if_neg (lc_ne_t q109)]; exact ⟨(lc_le_f q110), (lc_ne_f q113)⟩)⟩)).symm)⟩, rfl, rfl⟩⟩)
        · skip
          refine tt_lload (j := 2) dX7_isTriple_30 rfl ?_
          refine tt_lconst (v := 0) dX7_isTriple_32 rfl ?_
          refine tt_lcmp dX7_isTriple_33 ?_
          refine tt_if_ne (tgt := 41) dX7_isTriple_34 rfl (fun q115 => ?_) (fun q115 => ?_)
          · skip
            refine tt_iconst (v := 0) dX7_isTriple_41 rfl ?_
            exact tt_ireturn dX7_isTriple_42 .boolean rfl rfl (hP _ _ _ _ ⟨hG, hA, Or.inl ⟨_, rfl, ⟨_, rfl, rg_w (⟨by decide, by decide⟩ : Rg 0 0 0)⟩, ⟨rfl, (fun z e => (ei_v z e).trans (bI_f (show ¬ Trip y0 y2 y4 from (fun t => by have u := t.2.2.2; rw [if_pos (lc_ne_f q109)] at u; exact (lc_ne_t q115) u))).symm)⟩, rfl, rfl⟩⟩)
          · skip
            have h116 : Rl 0 0 y4 := rl_eq_l (rl_all y4) (⟨by decide, by decide⟩ : Rl 0 0 0) (lc_ne_f q115)
            refine tt_iconst (v := 1) dX7_isTriple_37 rfl ?_
            refine tt_goto (tgt := 42) dX7_isTriple_38 rfl ?_
            exact tt_ireturn dX7_isTriple_42 .boolean rfl rfl (hP _ _ _ _ ⟨hG, hA, Or.inl ⟨_, rfl, ⟨_, rfl, rg_w (⟨by decide, by decide⟩ : Rg 1 1 1)⟩, ⟨rfl, (fun z e => (ei_v z e).trans (bI_t (show Trip y0 y2 y4 from ⟨(Int64.not_lt.mpr (lc_gt_f q101)), (Int64.not_lt.mpr (lc_lt_f q104)), (Int64.not_lt.mpr (lc_le_t q107)), (by rw [if_pos (lc_ne_f q109)]; exact (lc_ne_f q115))⟩)).symm)⟩, rfl, rfl⟩⟩)
      · skip
        have h117 : Rl 2305843009213693953 9223372036854775807 y2 := rl_lt_r (⟨by decide, by decide⟩ : Rl 2305843009213693952 2305843009213693952 2305843009213693952) (rl_all y2) (lc_le_f q107)
        refine tt_iconst (v := 0) dX7_isTriple_22 rfl ?_
        exact tt_ireturn dX7_isTriple_23 .boolean rfl rfl (hP _ _ _ _ ⟨hG, hA, Or.inl ⟨_, rfl, ⟨_, rfl, rg_w (⟨by decide, by decide⟩ : Rg 0 0 0)⟩, ⟨rfl, (fun z e => (ei_v z e).trans (bI_f (show ¬ Trip y0 y2 y4 from (fun t => t.2.2.1 (lc_le_f q107)))).symm)⟩, rfl, rfl⟩⟩)
set_option maxHeartbeats 4000000 in
theorem cy_X10_given {xi : SX} {S : Hp} {E : List Nat} {kc nc : Nat} {P : Po} {o0 : Nat} {x1 : Int32} {y2 : Int64} {y4 : Int64} {y6 : Int64} {R : Nat → Nat → Nat} (hR : RK S R) (hG : GI S E) (h0 : Oa S E 10 0 o0) (hP : ∀ r T x y, PV E [640, 9989] S kc nc rV (fun v T => ((hp_I T 640 o0 = 0 ∧ Rg 0 23 x1 ∧ Trip y2 y4 y6 ∧ ∃ S1, Af E [640] S S1 ∧ sg T = Z_X10_make R (sg S1) o0 (4880 + x1) 1 y2 y4 y6) ∨ (hp_I T 640 o0 = 1 ∧ ¬ (Rg 0 23 x1 ∧ Trip y2 y4 y6) ∧ Af E [640] S T))) [] r T x y → P r T x y) : TT xi M_X10_given 0 [(0, .ref o0), (1, .int x1), (2, .long y2), (4, .long y4), (6, .long y6)] [] S kc nc P := by
  have hA : Af E [640, 9989] S S := af_rf
  refine tt_iload_n (j := 1) dX10_given_0 rfl ?_
  refine gt_SIp (As := [.int x1]) dX10_given_1 ca_X10_310 ⟨by decide, by decide⟩ hA (Nat.le_of_ble_eq_true rfl) (Nat.le_of_ble_eq_true rfl) (by decide) (cs_X10_isPlace hG  (fun _ _ _ _ h => h)) rfl (fun _ h => nomatch h) (fun _ _ q => q.1) (fun x106 h107 hx105 => ?_)
  refine tt_if_eq (tgt := 81) dX10_given_4 rfl (fun q108 => ?_) (fun q108 => ?_)
  · skip
    have h109 : Rg 0 0 x106 := rg_eq_l h107 (⟨by decide, by decide⟩ : Rg 0 0 0) q108
    refine tt_iconst (v := 0) dX10_given_81 rfl ?_
    refine tt_istore (ks := [0, 1, 2, 3, 4, 5]) (L' := [(8, .int 0), (0, .ref o0), (1, .int x1), (2, .long y2), (4, .long y4), (6, .long y6)]) dX10_given_82 (by decide) rfl ?_
    refine tt_aload_n (j := 1) dX10_given_84 rfl ?_
    refine tt_iload (j := 0) dX10_given_85 rfl ?_
    refine tt_if_eq (tgt := 94) dX10_given_87 rfl (fun _ => ?_) (fun q => absurd q (by decide))
    refine tt_iconst (v := 1) dX10_given_94 rfl ?_
    refine gt_VI (As := [.int 1]) dX10_given_95 ca_X10_74 ⟨by decide, by decide⟩ h0 hA rfl (Nat.le_of_ble_eq_true rfl) (Nat.le_of_ble_eq_true rfl) (by decide) (cs_X10_refused hG (oa_af h0 hA) (fun _ _ _ _ h => h)) rfl (fun _ h => nomatch h) (fun S110 x115 h116 hx114 hG111 hB112 hA113 => ?_)
    obtain rfl := (hx114.1 _ rfl).trans (show bI (0 < (1 : Int32)) = 1 by decide)
    refine tt_if_eq (tgt := 102) dX10_given_98 rfl (fun q => absurd q (by decide)) (fun _ => ?_)
    exact tt_vreturn dX10_given_101 rfl (hP _ _ _ _ ⟨hG111, hA113, Or.inl ⟨_, rfl, rfl, (Or.inr ⟨hx114.2, fun q => (((hx105.2) _ rfl).2 q108) q.1, hB112⟩), rfl, rfl⟩⟩)
  · skip
    have h117 : Rg 1 1 x106 := rg_ne_lo h107 (⟨by decide, by decide⟩ : Rg 0 0 0) q108
    have h118 : Rg 0 23 x1 := (((hx105.2) _ rfl).1 q108)
    refine tt_lload_n (j := 2) dX10_given_7 rfl ?_
    refine tt_lload (j := 3) dX10_given_8 rfl ?_
    refine tt_lcmp dX10_given_10 ?_
    refine tt_if_gt (tgt := 81) dX10_given_11 rfl (fun q119 => ?_) (fun q119 => ?_)
    · skip
      have h120 : Rl (-9223372036854775808) 9223372036854775806 y4 := rl_lt_l (rl_all y4) (rl_all y2) (lc_gt_t q119)
      have h121 : Rl (-9223372036854775807) 9223372036854775807 y2 := rl_lt_r (rl_all y4) (rl_all y2) (lc_gt_t q119)
      refine tt_iconst (v := 0) dX10_given_81 rfl ?_
      refine tt_istore (ks := [0, 1, 2, 3, 4, 5]) (L' := [(8, .int 0), (0, .ref o0), (1, .int x1), (2, .long y2), (4, .long y4), (6, .long y6)]) dX10_given_82 (by decide) rfl ?_
      refine tt_aload_n (j := 1) dX10_given_84 rfl ?_
      refine tt_iload (j := 0) dX10_given_85 rfl ?_
      refine tt_if_eq (tgt := 94) dX10_given_87 rfl (fun _ => ?_) (fun q => absurd q (by decide))
      refine tt_iconst (v := 1) dX10_given_94 rfl ?_
      refine gt_VI (As := [.int 1]) dX10_given_95 ca_X10_74 ⟨by decide, by decide⟩ h0 hA rfl (Nat.le_of_ble_eq_true rfl) (Nat.le_of_ble_eq_true rfl) (by decide) (cs_X10_refused hG (oa_af h0 hA) (fun _ _ _ _ h => h)) rfl (fun _ h => nomatch h) (fun S122 x127 h128 hx126 hG123 hB124 hA125 => ?_)
      obtain rfl := (hx126.1 _ rfl).trans (show bI (0 < (1 : Int32)) = 1 by decide)
      refine tt_if_eq (tgt := 102) dX10_given_98 rfl (fun q => absurd q (by decide)) (fun _ => ?_)
      exact tt_vreturn dX10_given_101 rfl (hP _ _ _ _ ⟨hG123, hA125, Or.inl ⟨_, rfl, rfl, (Or.inr ⟨hx126.2, fun q => (fun t => t.1 (lc_gt_t q119)) q.2, hB124⟩), rfl, rfl⟩⟩)
    · skip
      refine tt_lload_n (j := 2) dX10_given_14 rfl ?_
      refine tt_ldc2 (v := (-2305843009213693952)) dX10_given_15 kl_10_158 ?_
      refine tt_ldc2 (v := 2305843009213693952) dX10_given_18 kl_10_160 ?_
      refine gt_SIp (As := [.long y2, .long (-2305843009213693952), .long 2305843009213693952]) dX10_given_21 ca_X10_67 ⟨by decide, by decide⟩ hA (Nat.le_of_ble_eq_true rfl) (Nat.le_of_ble_eq_true rfl) (by decide) (cs_X10_isIn hG  (fun _ _ _ _ h => h)) rfl (fun _ h => nomatch h) (fun _ _ q => q.1) (fun x134 h135 hx133 => ?_)
      refine tt_if_eq (tgt := 81) dX10_given_24 rfl (fun q136 => ?_) (fun q136 => ?_)
      · skip
        have h137 : Rg 0 0 x134 := rg_eq_l h135 (⟨by decide, by decide⟩ : Rg 0 0 0) q136
        refine tt_iconst (v := 0) dX10_given_81 rfl ?_
        refine tt_istore (ks := [0, 1, 2, 3, 4, 5]) (L' := [(8, .int 0), (0, .ref o0), (1, .int x1), (2, .long y2), (4, .long y4), (6, .long y6)]) dX10_given_82 (by decide) rfl ?_
        refine tt_aload_n (j := 1) dX10_given_84 rfl ?_
        refine tt_iload (j := 0) dX10_given_85 rfl ?_
        refine tt_if_eq (tgt := 94) dX10_given_87 rfl (fun _ => ?_) (fun q => absurd q (by decide))
        refine tt_iconst (v := 1) dX10_given_94 rfl ?_
        refine gt_VI (As := [.int 1]) dX10_given_95 ca_X10_74 ⟨by decide, by decide⟩ h0 hA rfl (Nat.le_of_ble_eq_true rfl) (Nat.le_of_ble_eq_true rfl) (by decide) (cs_X10_refused hG (oa_af h0 hA) (fun _ _ _ _ h => h)) rfl (fun _ h => nomatch h) (fun S138 x143 h144 hx142 hG139 hB140 hA141 => ?_)
        obtain rfl := (hx142.1 _ rfl).trans (show bI (0 < (1 : Int32)) = 1 by decide)
        refine tt_if_eq (tgt := 102) dX10_given_98 rfl (fun q => absurd q (by decide)) (fun _ => ?_)
        exact tt_vreturn dX10_given_101 rfl (hP _ _ _ _ ⟨hG139, hA141, Or.inl ⟨_, rfl, rfl, (Or.inr ⟨hx142.2, fun q => (fun t => ((hx133.2 _ rfl).2 q136) (trip_lo t)) q.2, hB140⟩), rfl, rfl⟩⟩)
      · skip
        have h145 : Rg 1 1 x134 := rg_ne_lo h135 (⟨by decide, by decide⟩ : Rg 0 0 0) q136
        have h146 : Rl (-2305843009213693952) 2305843009213693952 y2 := in_rl ((fun z e => (hx133.2 z e).1) _ rfl q136) (⟨by decide, by decide⟩ : Rl (-2305843009213693952) (-2305843009213693952) (-2305843009213693952)) (⟨by decide, by decide⟩ : Rl 2305843009213693952 2305843009213693952 2305843009213693952)
        refine tt_lload (j := 3) dX10_given_27 rfl ?_
        refine tt_ldc2 (v := (-2305843009213693952)) dX10_given_29 kl_10_158 ?_
        refine tt_ldc2 (v := 2305843009213693952) dX10_given_32 kl_10_160 ?_
        refine gt_SIp (As := [.long y4, .long (-2305843009213693952), .long 2305843009213693952]) dX10_given_35 ca_X10_67 ⟨by decide, by decide⟩ hA (Nat.le_of_ble_eq_true rfl) (Nat.le_of_ble_eq_true rfl) (by decide) (cs_X10_isIn hG  (fun _ _ _ _ h => h)) rfl (fun _ h => nomatch h) (fun _ _ q => q.1) (fun x152 h153 hx151 => ?_)
        refine tt_if_eq (tgt := 81) dX10_given_38 rfl (fun q154 => ?_) (fun q154 => ?_)
        · skip
          have h155 : Rg 0 0 x152 := rg_eq_l h153 (⟨by decide, by decide⟩ : Rg 0 0 0) q154
          refine tt_iconst (v := 0) dX10_given_81 rfl ?_
          refine tt_istore (ks := [0, 1, 2, 3, 4, 5]) (L' := [(8, .int 0), (0, .ref o0), (1, .int x1), (2, .long y2), (4, .long y4), (6, .long y6)]) dX10_given_82 (by decide) rfl ?_
          refine tt_aload_n (j := 1) dX10_given_84 rfl ?_
          refine tt_iload (j := 0) dX10_given_85 rfl ?_
          refine tt_if_eq (tgt := 94) dX10_given_87 rfl (fun _ => ?_) (fun q => absurd q (by decide))
          refine tt_iconst (v := 1) dX10_given_94 rfl ?_
          refine gt_VI (As := [.int 1]) dX10_given_95 ca_X10_74 ⟨by decide, by decide⟩ h0 hA rfl (Nat.le_of_ble_eq_true rfl) (Nat.le_of_ble_eq_true rfl) (by decide) (cs_X10_refused hG (oa_af h0 hA) (fun _ _ _ _ h => h)) rfl (fun _ h => nomatch h) (fun S156 x161 h162 hx160 hG157 hB158 hA159 => ?_)
          obtain rfl := (hx160.1 _ rfl).trans (show bI (0 < (1 : Int32)) = 1 by decide)
          refine tt_if_eq (tgt := 102) dX10_given_98 rfl (fun q => absurd q (by decide)) (fun _ => ?_)
          exact tt_vreturn dX10_given_101 rfl (hP _ _ _ _ ⟨hG157, hA159, Or.inl ⟨_, rfl, rfl, (Or.inr ⟨hx160.2, fun q => (fun t => ((hx151.2 _ rfl).2 q154) (trip_hi t)) q.2, hB158⟩), rfl, rfl⟩⟩)
        · skip
          have h163 : Rg 1 1 x152 := rg_ne_lo h153 (⟨by decide, by decide⟩ : Rg 0 0 0) q154
          have h164 : Rl (-2305843009213693952) 2305843009213693952 y4 := in_rl ((fun z e => (hx151.2 z e).1) _ rfl q154) (⟨by decide, by decide⟩ : Rl (-2305843009213693952) (-2305843009213693952) (-2305843009213693952)) (⟨by decide, by decide⟩ : Rl 2305843009213693952 2305843009213693952 2305843009213693952)
          refine tt_lload_n (j := 2) dX10_given_41 rfl ?_
          refine tt_lload (j := 3) dX10_given_42 rfl ?_
          refine tt_lcmp dX10_given_44 ?_
          refine tt_if_ne (tgt := 58) dX10_given_45 rfl (fun q165 => ?_) (fun q165 => ?_)
          · skip
            refine tt_lload (j := 4) dX10_given_58 rfl ?_
            refine tt_lconst (v := 0) dX10_given_60 rfl ?_
            refine tt_lcmp dX10_given_61 ?_
            refine tt_if_le (tgt := 81) dX10_given_62 rfl (fun q166 => ?_) (fun q166 => ?_)
            · skip
              have h167 : Rl (-9223372036854775808) 0 y6 := rl_le_l (rl_all y6) (⟨by decide, by decide⟩ : Rl 0 0 0) (lc_le_t q166)
              refine tt_iconst (v := 0) dX10_given_81 rfl ?_
              refine tt_istore (ks := [0, 1, 2, 3, 4, 5]) (L' := [(8, .int 0), (0, .ref o0), (1, .int x1), (2, .long y2), (4, .long y4), (6, .long y6)]) dX10_given_82 (by decide) rfl ?_
              refine tt_aload_n (j := 1) dX10_given_84 rfl ?_
              refine tt_iload (j := 0) dX10_given_85 rfl ?_
              refine tt_if_eq (tgt := 94) dX10_given_87 rfl (fun _ => ?_) (fun q => absurd q (by decide))
              refine tt_iconst (v := 1) dX10_given_94 rfl ?_
              refine gt_VI (As := [.int 1]) dX10_given_95 ca_X10_74 ⟨by decide, by decide⟩ h0 hA rfl (Nat.le_of_ble_eq_true rfl) (Nat.le_of_ble_eq_true rfl) (by decide) (cs_X10_refused hG (oa_af h0 hA) (fun _ _ _ _ h => h)) rfl (fun _ h => nomatch h) (fun S168 x173 h174 hx172 hG169 hB170 hA171 => ?_)
              obtain rfl := (hx172.1 _ rfl).trans (show bI (0 < (1 : Int32)) = 1 by decide)
              refine tt_if_eq (tgt := 102) dX10_given_98 rfl (fun q => absurd q (by decide)) (fun _ => ?_)
              exact tt_vreturn dX10_given_101 rfl (hP _ _ _ _ ⟨hG169, hA171, Or.inl ⟨_, rfl, rfl, (Or.inr ⟨hx172.2, fun q => (fun t => by have u := t.2.2.2; rw [if_neg (lc_ne_t q165)] at u; exact absurd u.1 (Int64.not_lt.mpr (lc_le_t q166))) q.2, hB170⟩), rfl, rfl⟩⟩)
            · skip
              have h175 : Rl 1 9223372036854775807 y6 := rl_lt_r (⟨by decide, by decide⟩ : Rl 0 0 0) (rl_all y6) (lc_le_f q166)
              refine tt_lload (j := 3) dX10_given_65 rfl ?_
              refine tt_lload_n (j := 2) dX10_given_67 rfl ?_
              refine tt_lsub dX10_given_68 ?_
              refine tt_lload (j := 4) dX10_given_69 rfl ?_
              refine tt_lrem dX10_given_71 (nz_pos (lc_le_f q166)) ?_
              refine tt_lconst (v := 0) dX10_given_72 rfl ?_
              refine tt_lcmp dX10_given_73 ?_
              refine tt_if_ne (tgt := 81) dX10_given_74 rfl (fun q176 => ?_) (fun q176 => ?_)
              · skip
                refine tt_iconst (v := 0) dX10_given_81 rfl ?_
                refine tt_istore (ks := [0, 1, 2, 3, 4, 5]) (L' := [(8, .int 0), (0, .ref o0), (1, .int x1), (2, .long y2), (4, .long y4), (6, .long y6)]) dX10_given_82 (by decide) rfl ?_
                refine tt_aload_n (j := 1) dX10_given_84 rfl ?_
                refine tt_iload (j := 0) dX10_given_85 rfl ?_
                refine tt_if_eq (tgt := 94) dX10_given_87 rfl (fun _ => ?_) (fun q => absurd q (by decide))
                refine tt_iconst (v := 1) dX10_given_94 rfl ?_
                refine gt_VI (As := [.int 1]) dX10_given_95 ca_X10_74 ⟨by decide, by decide⟩ h0 hA rfl (Nat.le_of_ble_eq_true rfl) (Nat.le_of_ble_eq_true rfl) (by decide) (cs_X10_refused hG (oa_af h0 hA) (fun _ _ _ _ h => h)) rfl (fun _ h => nomatch h) (fun S177 x182 h183 hx181 hG178 hB179 hA180 => ?_)
                obtain rfl := (hx181.1 _ rfl).trans (show bI (0 < (1 : Int32)) = 1 by decide)
                refine tt_if_eq (tgt := 102) dX10_given_98 rfl (fun q => absurd q (by decide)) (fun _ => ?_)
                exact tt_vreturn dX10_given_101 rfl (hP _ _ _ _ ⟨hG178, hA180, Or.inl ⟨_, rfl, rfl, (Or.inr ⟨hx181.2, fun q => (fun t => by have u := t.2.2.2; rw [if_neg (lc_ne_t q165)] at u; exact (lc_ne_t q176) u.2) q.2, hB179⟩), rfl, rfl⟩⟩)
              · skip
                have h184 : Rl 0 0 ((y4 - y2) - (y4 - y2) / y6 * y6) := rl_eq_l (rl_all ((y4 - y2) - (y4 - y2) / y6 * y6)) (⟨by decide, by decide⟩ : Rl 0 0 0) (lc_ne_f q176)
                refine tt_iconst (v := 1) dX10_given_77 rfl ?_
                refine tt_goto (tgt := 82) dX10_given_78 rfl ?_
                refine tt_istore (ks := [0, 1, 2, 3, 4, 5]) (L' := [(8, .int 1), (0, .ref o0), (1, .int x1), (2, .long y2), (4, .long y4), (6, .long y6)]) dX10_given_82 (by decide) rfl ?_
                refine tt_aload_n (j := 1) dX10_given_84 rfl ?_
                refine tt_iload (j := 0) dX10_given_85 rfl ?_
                refine tt_if_eq (tgt := 94) dX10_given_87 rfl (fun q => absurd q (by decide)) (fun _ => ?_)
                refine tt_iconst (v := 0) dX10_given_90 rfl ?_
                refine tt_goto (tgt := 95) dX10_given_91 rfl ?_
                refine gt_VI (As := [.int 0]) dX10_given_95 ca_X10_74 ⟨by decide, by decide⟩ h0 hA rfl (Nat.le_of_ble_eq_true rfl) (Nat.le_of_ble_eq_true rfl) (by decide) (cs_X10_refused hG (oa_af h0 hA) (fun _ _ _ _ h => h)) rfl (fun _ h => nomatch h) (fun S185 x190 h191 hx189 hG186 hB187 hA188 => ?_)
                obtain rfl := (hx189.1 _ rfl).trans (show bI (0 < (0 : Int32)) = 0 by decide)
                refine tt_if_eq (tgt := 102) dX10_given_98 rfl (fun _ => ?_) (fun q => absurd q (by decide))
                refine tt_aload_n (j := 1) dX10_given_102 rfl ?_
                refine tt_sipush (v := 4880) dX10_given_103 rfl ?_
                refine tt_iload_n (j := 2) dX10_given_106 rfl ?_
                refine tt_iadd dX10_given_107 ?_
                refine tt_iconst (v := 1) dX10_given_108 rfl ?_
                refine tt_lload_n (j := 3) dX10_given_109 rfl ?_
                refine tt_lload (j := 4) dX10_given_110 rfl ?_
                refine tt_lload (j := 5) dX10_given_112 rfl ?_
                refine gt_Vv (As := [.int (4880 + x1), .int 1, .long y2, .long y4, .long y6]) dX10_given_114 ca_X10_165 ⟨by decide, by decide⟩ h0 hA188 rfl (Nat.le_of_ble_eq_true rfl) (Nat.le_of_ble_eq_true rfl) (by decide) (cz_X10_make hG186 (oa_af h0 hA188) (rg_w (rg_add (lo := 4880) (hi := 4903) (⟨by decide, by decide⟩ : Rg 4880 4880 4880) h118)) (rk_af hR hA188) (fun _ _ _ _ h => h)) rfl (fun _ h => nomatch h) (fun S192 hx196 hG193 hB194 hA195 => ?_)
                exact tt_vreturn dX10_given_117 rfl (hP _ _ _ _ ⟨hG193, hA195, Or.inl ⟨_, rfl, rfl, (Or.inl ⟨((i_af (k := 640) (oa_af h0 hA188) hB194).trans hx189.2), rg_w h118, ⟨(Int64.not_lt.mpr (lc_gt_f q119)), ((fun z e => (hx133.2 z e).1) _ rfl q136).1, ((fun z e => (hx151.2 z e).1) _ rfl q154).2, (by rw [if_neg (lc_ne_t q165)]; exact ⟨(lc_le_f q166), (lc_ne_f q176)⟩)⟩, _, hB187, hx196⟩), rfl, rfl⟩⟩)
          · skip
            refine tt_lload (j := 4) dX10_given_48 rfl ?_
            refine tt_lconst (v := 0) dX10_given_50 rfl ?_
            refine tt_lcmp dX10_given_51 ?_
            refine tt_if_ne (tgt := 81) dX10_given_52 rfl (fun q197 => ?_) (fun q197 => ?_)
            · skip
              refine tt_iconst (v := 0) dX10_given_81 rfl ?_
              refine tt_istore (ks := [0, 1, 2, 3, 4, 5]) (L' := [(8, .int 0), (0, .ref o0), (1, .int x1), (2, .long y2), (4, .long y4), (6, .long y6)]) dX10_given_82 (by decide) rfl ?_
              refine tt_aload_n (j := 1) dX10_given_84 rfl ?_
              refine tt_iload (j := 0) dX10_given_85 rfl ?_
              refine tt_if_eq (tgt := 94) dX10_given_87 rfl (fun _ => ?_) (fun q => absurd q (by decide))
              refine tt_iconst (v := 1) dX10_given_94 rfl ?_
              refine gt_VI (As := [.int 1]) dX10_given_95 ca_X10_74 ⟨by decide, by decide⟩ h0 hA rfl (Nat.le_of_ble_eq_true rfl) (Nat.le_of_ble_eq_true rfl) (by decide) (cs_X10_refused hG (oa_af h0 hA) (fun _ _ _ _ h => h)) rfl (fun _ h => nomatch h) (fun S198 x203 h204 hx202 hG199 hB200 hA201 => ?_)
              obtain rfl := (hx202.1 _ rfl).trans (show bI (0 < (1 : Int32)) = 1 by decide)
              refine tt_if_eq (tgt := 102) dX10_given_98 rfl (fun q => absurd q (by decide)) (fun _ => ?_)
              exact tt_vreturn dX10_given_101 rfl (hP _ _ _ _ ⟨hG199, hA201, Or.inl ⟨_, rfl, rfl, (Or.inr ⟨hx202.2, fun q => (fun t => by have u := t.2.2.2; rw [if_pos (lc_ne_f q165)] at u; exact (lc_ne_t q197) u) q.2, hB200⟩), rfl, rfl⟩⟩)
            · skip
              have h205 : Rl 0 0 y6 := rl_eq_l (rl_all y6) (⟨by decide, by decide⟩ : Rl 0 0 0) (lc_ne_f q197)
              refine tt_goto (tgt := 77) dX10_given_55 rfl ?_
              refine tt_iconst (v := 1) dX10_given_77 rfl ?_
              refine tt_goto (tgt := 82) dX10_given_78 rfl ?_
              refine tt_istore (ks := [0, 1, 2, 3, 4, 5]) (L' := [(8, .int 1), (0, .ref o0), (1, .int x1), (2, .long y2), (4, .long y4), (6, .long y6)]) dX10_given_82 (by decide) rfl ?_
              refine tt_aload_n (j := 1) dX10_given_84 rfl ?_
              refine tt_iload (j := 0) dX10_given_85 rfl ?_
              refine tt_if_eq (tgt := 94) dX10_given_87 rfl (fun q => absurd q (by decide)) (fun _ => ?_)
              refine tt_iconst (v := 0) dX10_given_90 rfl ?_
              refine tt_goto (tgt := 95) dX10_given_91 rfl ?_
              refine gt_VI (As := [.int 0]) dX10_given_95 ca_X10_74 ⟨by decide, by decide⟩ h0 hA rfl (Nat.le_of_ble_eq_true rfl) (Nat.le_of_ble_eq_true rfl) (by decide) (cs_X10_refused hG (oa_af h0 hA) (fun _ _ _ _ h => h)) rfl (fun _ h => nomatch h) (fun S206 x211 h212 hx210 hG207 hB208 hA209 => ?_)
              obtain rfl := (hx210.1 _ rfl).trans (show bI (0 < (0 : Int32)) = 0 by decide)
              refine tt_if_eq (tgt := 102) dX10_given_98 rfl (fun _ => ?_) (fun q => absurd q (by decide))
              refine tt_aload_n (j := 1) dX10_given_102 rfl ?_
              refine tt_sipush (v := 4880) dX10_given_103 rfl ?_
              refine tt_iload_n (j := 2) dX10_given_106 rfl ?_
              refine tt_iadd dX10_given_107 ?_
              refine tt_iconst (v := 1) dX10_given_108 rfl ?_
              refine tt_lload_n (j := 3) dX10_given_109 rfl ?_
              refine tt_lload (j := 4) dX10_given_110 rfl ?_
              refine tt_lload (j := 5) dX10_given_112 rfl ?_
              refine gt_Vv (As := [.int (4880 + x1), .int 1, .long y2, .long y4, .long y6]) dX10_given_114 ca_X10_165 ⟨by decide, by decide⟩ h0 hA209 rfl (Nat.le_of_ble_eq_true rfl) (Nat.le_of_ble_eq_true rfl) (by decide) (cz_X10_make hG207 (oa_af h0 hA209) (rg_w (rg_add (lo := 4880) (hi := 4903) (⟨by decide, by decide⟩ : Rg 4880 4880 4880) h118)) (rk_af hR hA209) (fun _ _ _ _ h => h)) rfl (fun _ h => nomatch h) (fun S213 hx217 hG214 hB215 hA216 => ?_)
              exact tt_vreturn dX10_given_117 rfl (hP _ _ _ _ ⟨hG214, hA216, Or.inl ⟨_, rfl, rfl, (Or.inl ⟨((i_af (k := 640) (oa_af h0 hA209) hB215).trans hx210.2), rg_w h118, ⟨(Int64.not_lt.mpr (lc_gt_f q119)), ((fun z e => (hx133.2 z e).1) _ rfl q136).1, ((fun z e => (hx151.2 z e).1) _ rfl q154).2, (by rw [if_pos (lc_ne_f q165)]; exact (lc_ne_f q197))⟩, _, hB208, hx217⟩), rfl, rfl⟩⟩)
set_option maxHeartbeats 4000000 in
theorem cyo_X9_given {xi : SX} {S : Hp} {E : List Nat} {kc nc : Nat} {P : Po} {o0 : Nat} {x1 : Int32} {y2 : Int64} {y4 : Int64} {y6 : Int64} {R : Nat → Nat → Nat} (hR : RK S R) (hG : GI S E) (h0 : Oa S E 9 0 o0) (h1 : Rg 0 23 x1) (ht : Trip y2 y4 y6) (hP : ∀ r T x y, PV E [9994] S kc nc rV (fun _ T => sg T = Z_X8_keep R (sg S) (R 578 o0) x1 y2 y4 y6) [] r T x y → P r T x y) : TT xi M_X9_given 0 [(0, .ref o0), (1, .int x1), (2, .long y2), (4, .long y4), (6, .long y6)] [] S kc nc P := by
  have hA : Af E [9994] S S := af_rf
  refine tt_iload_n (j := 1) dX9_given_0 rfl ?_
  refine gt_Svp (As := [.int x1]) dX9_given_1 ca_X9_77 ⟨by decide, by decide⟩ hA (Nat.le_of_ble_eq_true rfl) (Nat.le_of_ble_eq_true rfl) (by decide) (co_X9_requireLocation_any hG (rg_w h1) (fun _ _ _ _ h => h)) rfl (fun _ h => nomatch h) (fun _ _ q => q) (fun hx105 => ?_)
  refine tt_lload_n (j := 2) dX9_given_4 rfl ?_
  refine tt_lload (j := 3) dX9_given_5 rfl ?_
  refine tt_lload (j := 4) dX9_given_7 rfl ?_
  refine gt_SIp (As := [.long y2, .long y4, .long y6]) dX9_given_9 ca_X9_81 ⟨by decide, by decide⟩ hA (Nat.le_of_ble_eq_true rfl) (Nat.le_of_ble_eq_true rfl) (by decide) (cq_isTriple hG  (fun _ _ _ _ h => h)) rfl (fun _ h => nomatch h) (fun _ _ q => q.1) (fun x111 h112 hx110 => ?_)
  obtain rfl := (hx110.2 _ rfl).trans (bI_t ht)
  refine tt_if_ne (tgt := 25) dX9_given_12 rfl (fun _ => ?_) (fun q => absurd q (by decide))
  refine tt_aload_n (j := 0) dX9_given_25 rfl ?_
  have hr114 := rk_R (k := 578) hR h0 8 0
  have ho115 := rk_O (k := 578) hG hR h0 8 0
  refine gt_gR (id := 578) dX9_given_26 fl_9_28 rfl rfl h0 hA hr114 ?_
  refine tt_iload_n (j := 1) dX9_given_29 rfl ?_
  refine tt_lload_n (j := 2) dX9_given_30 rfl ?_
  refine tt_lload (j := 3) dX9_given_31 rfl ?_
  refine tt_lload (j := 4) dX9_given_33 rfl ?_
  refine gt_Vv (As := [.int x1, .long y2, .long y4, .long y6]) dX9_given_35 ca_X9_89 ⟨by decide, by decide⟩ ho115 hA rfl (Nat.le_of_ble_eq_true rfl) (Nat.le_of_ble_eq_true rfl) (by decide) (cz_X8_keep hG (oa_af ho115 hA) hR (fun _ _ _ _ h => h)) rfl (fun _ h => nomatch h) (fun S116 hx120 hG117 hB118 hA119 => ?_)
  exact tt_vreturn dX9_given_38 rfl (hP _ _ _ _ ⟨hG117, hA119, Or.inl ⟨_, rfl, rfl, hx120, rfl, rfl⟩⟩)
set_option maxHeartbeats 4000000 in
theorem cywo_L_given {xi : SX} {S : Hp} {E : List Nat} {P : Po} {o0 : Nat} {x1 : Int32} {y2 : Int64} {y4 : Int64} {y6 : Int64} {R : Nat → Nat → Nat} (hR : RK S R) (hG : GI S E) (h0 : Oa S E 9 0 o0) (h1 : Rg 0 23 x1) (ht : Trip y2 y4 y6) (hP : ∀ r T x y, PX E [9994] S (fun z T => z = 0 ∧ sg T = Z_X8_keep R (sg S) (R 578 o0) x1 y2 y4 y6) r T x y → P r T x y) : TT xi M_L_given 0 [(0, .ref o0), (1, .int x1), (2, .long y2), (4, .long y4), (6, .long y6)] [] S 1 6 P := by
  have hA : Af E [9994] S S := af_rf
  refine tt_aload_n (j := 0) dL_given_0 rfl ?_
  refine tt_iload_n (j := 1) dL_given_1 rfl ?_
  refine tt_lload_n (j := 2) dL_given_2 rfl ?_
  refine tt_lload (j := 3) dL_given_3 rfl ?_
  refine tt_lload (j := 4) dL_given_5 rfl ?_
  refine gt_VC0 (As := [.int x1, .long y2, .long y4, .long y6]) dL_given_7 ca_L_17 ⟨by decide, by decide⟩ h0 hA rfl (Nat.le_of_ble_eq_true rfl) (Nat.le_of_ble_eq_true rfl) (by decide) (cyo_X9_given hR hG (oa_af h0 hA) (rg_w h1) ht (fun _ _ _ _ h => h)) (fun S101 v106 hv107 hx105 hG102 hB103 hA104 => ?_)
  obtain rfl : v106 = none := hv107
  show TT xi M_L_given 10 [(0, .ref o0), (1, .int x1), (2, .long y2), (4, .long y4), (6, .long y6)] [] S101 1 6 P
  refine tt_goto (tgt := 17) dL_given_10 rfl ?_
  refine tt_iconst (v := 0) dL_given_17 rfl ?_
  exact tt_ireturn dL_given_18 .int rfl rfl (hP _ _ _ _ ⟨hG102, hA104, _, rfl, rfl, hx105⟩)
set_option maxHeartbeats 4000000 in
theorem cyk_X9_given {xi : SX} {S : Hp} {E : List Nat} {kc nc : Nat} {P : Po} {o0 : Nat} {x1 : Int32} {y2 : Int64} {y4 : Int64} {y6 : Int64} (hG : GI S E) (h0 : Oa S E 9 0 o0) (h1 : Rg 0 23 x1) (ht : ¬ Trip y2 y4 y6) (hkc : 1 ≤ kc) (hnc : 6 ≤ nc) (hP : ∀ r T x y, PV E [] S kc nc (fun _ => False) ex0 ["java/lang/IllegalArgumentException"] r T x y → P r T x y) : TT xi M_X9_given 0 [(0, .ref o0), (1, .int x1), (2, .long y2), (4, .long y4), (6, .long y6)] [] S kc nc P := by
  have hA : Af E [] S S := af_rf
  refine tt_iload_n (j := 1) dX9_given_0 rfl ?_
  refine gt_Svp (As := [.int x1]) dX9_given_1 ca_X9_77 ⟨by decide, by decide⟩ hA (Nat.le_of_ble_eq_true rfl) (Nat.le_of_ble_eq_true rfl) (by decide) (co_X9_requireLocation_any hG (rg_w h1) (fun _ _ _ _ h => h)) rfl (fun _ h => nomatch h) (fun _ _ q => q) (fun hx105 => ?_)
  refine tt_lload_n (j := 2) dX9_given_4 rfl ?_
  refine tt_lload (j := 3) dX9_given_5 rfl ?_
  refine tt_lload (j := 4) dX9_given_7 rfl ?_
  refine gt_SIp (As := [.long y2, .long y4, .long y6]) dX9_given_9 ca_X9_81 ⟨by decide, by decide⟩ hA (Nat.le_of_ble_eq_true rfl) (Nat.le_of_ble_eq_true rfl) (by decide) (cq_isTriple hG  (fun _ _ _ _ h => h)) rfl (fun _ h => nomatch h) (fun _ _ q => q.1) (fun x111 h112 hx110 => ?_)
  obtain rfl := (hx110.2 _ rfl).trans (bI_f ht)
  refine tt_if_ne (tgt := 25) dX9_given_12 rfl (fun q => absurd q (by decide)) (fun _ => ?_)
  exact tt_throw th_X9_given_15 (hP _ _ _ _ ⟨hG, hA, Or.inr ⟨_, List.mem_cons_self, rfl⟩⟩) hkc hnc (by decide)
set_option maxHeartbeats 4000000 in
theorem cywk_L_given {xi : SX} {S : Hp} {E : List Nat} {P : Po} {o0 : Nat} {x1 : Int32} {y2 : Int64} {y4 : Int64} {y6 : Int64} (hG : GI S E) (h0 : Oa S E 9 0 o0) (h1 : Rg 0 23 x1) (ht : ¬ Trip y2 y4 y6) (hP : ∀ r T x y, PW E [] S (fun z => z = 1) r T x y → P r T x y) : TT xi M_L_given 0 [(0, .ref o0), (1, .int x1), (2, .long y2), (4, .long y4), (6, .long y6)] [] S 1 6 P := by
  have hA : Af E [] S S := af_rf
  refine tt_aload_n (j := 0) dL_given_0 rfl ?_
  refine tt_iload_n (j := 1) dL_given_1 rfl ?_
  refine tt_lload_n (j := 2) dL_given_2 rfl ?_
  refine tt_lload (j := 3) dL_given_3 rfl ?_
  refine tt_lload (j := 4) dL_given_5 rfl ?_
  refine gt_VC1 (As := [.int x1, .long y2, .long y4, .long y6]) dL_given_7 ca_L_17 ⟨by decide, by decide⟩ h0 hA rfl (Nat.le_of_ble_eq_true rfl) (Nat.le_of_ble_eq_true rfl) (by decide) ch_L_given_0 (cyk_X9_given hG (oa_af h0 hA) (rg_w h1) ht (by decide) (by decide) (fun _ _ _ _ h => h)) (fun S108 q109 hG110 hB111 hA112 => ?_) (fun _ _ h => h.elim)
  · skip
    refine tt_astore (ks := [0, 1, 2, 3, 4, 5]) (L' := [(8, .ref q109), (0, .ref o0), (1, .int x1), (2, .long y2), (4, .long y4), (6, .long y6)]) dL_given_13 (by decide) rfl ?_
    refine tt_iconst (v := 1) dL_given_15 rfl ?_
    exact tt_ireturn dL_given_16 .int rfl rfl (hP _ _ _ _ ⟨hG110, hA112, _, rfl, rfl⟩)
set_option maxHeartbeats 4000000 in
theorem cyn_X9_given {xi : SX} {S : Hp} {E : List Nat} {kc nc : Nat} {P : Po} {o0 : Nat} {x1 : Int32} {y2 : Int64} {y4 : Int64} {y6 : Int64} (hG : GI S E) (h0 : Oa S E 9 0 o0) (hq : ¬ Rg 0 23 x1) (hkc : 1 ≤ kc) (hnc : 6 ≤ nc) (hP : ∀ r T x y, PV E [] S kc nc (fun _ => False) ex0 ["java/lang/IllegalArgumentException"] r T x y → P r T x y) : TT xi M_X9_given 0 [(0, .ref o0), (1, .int x1), (2, .long y2), (4, .long y4), (6, .long y6)] [] S kc nc P := by
  have hA : Af E [] S S := af_rf
  refine tt_iload_n (j := 1) dX9_given_0 rfl ?_
  exact gt_S (As := [.int x1]) dX9_given_1 ca_X9_77 ⟨by decide, by decide⟩ hA (Nat.le_of_ble_eq_true rfl) (Nat.le_of_ble_eq_true rfl) (by decide) (cn_X9_requireLocation_any hG hq hkc hnc (fun _ _ _ _ h => h)) rfl (fun X hX T g1 g2 => hP _ _ _ _ ⟨g1, g2, Or.inr ⟨X, hX, rfl⟩⟩) (fun _ _ h => h.elim)
set_option maxHeartbeats 4000000 in
theorem cywn_L_given {xi : SX} {S : Hp} {E : List Nat} {P : Po} {o0 : Nat} {x1 : Int32} {y2 : Int64} {y4 : Int64} {y6 : Int64} (hG : GI S E) (h0 : Oa S E 9 0 o0) (hq : ¬ Rg 0 23 x1) (hP : ∀ r T x y, PW E [] S (fun z => z = 1) r T x y → P r T x y) : TT xi M_L_given 0 [(0, .ref o0), (1, .int x1), (2, .long y2), (4, .long y4), (6, .long y6)] [] S 1 6 P := by
  have hA : Af E [] S S := af_rf
  refine tt_aload_n (j := 0) dL_given_0 rfl ?_
  refine tt_iload_n (j := 1) dL_given_1 rfl ?_
  refine tt_lload_n (j := 2) dL_given_2 rfl ?_
  refine tt_lload (j := 3) dL_given_3 rfl ?_
  refine tt_lload (j := 4) dL_given_5 rfl ?_
  refine gt_VC1 (As := [.int x1, .long y2, .long y4, .long y6]) dL_given_7 ca_L_17 ⟨by decide, by decide⟩ h0 hA rfl (Nat.le_of_ble_eq_true rfl) (Nat.le_of_ble_eq_true rfl) (by decide) ch_L_given_0 (cyn_X9_given hG (oa_af h0 hA) hq (by decide) (by decide) (fun _ _ _ _ h => h)) (fun S108 q109 hG110 hB111 hA112 => ?_) (fun _ _ h => h.elim)
  · skip
    refine tt_astore (ks := [0, 1, 2, 3, 4, 5]) (L' := [(8, .ref q109), (0, .ref o0), (1, .int x1), (2, .long y2), (4, .long y4), (6, .long y6)]) dL_given_13 (by decide) rfl ?_
    refine tt_iconst (v := 1) dL_given_15 rfl ?_
    exact tt_ireturn dL_given_16 .int rfl rfl (hP _ _ _ _ ⟨hG110, hA112, _, rfl, rfl⟩)
set_option maxHeartbeats 4000000 in
theorem cyo_X9_any {xi : SX} {S : Hp} {E : List Nat} {kc nc : Nat} {P : Po} {o0 : Nat} {x1 : Int32} {R : Nat → Nat → Nat} (hR : RK S R) (hG : GI S E) (h0 : Oa S E 9 0 o0) (h1 : Rg 0 23 x1) (hP : ∀ r T x y, PV E [9994] S kc nc rV (fun _ T => sg T = Z_X8_keep R (sg S) (R 578 o0) x1 0 0 (-1)) [] r T x y → P r T x y) : TT xi M_X9_any 0 [(0, .ref o0), (1, .int x1)] [] S kc nc P := by
  have hA : Af E [9994] S S := af_rf
  refine tt_iload_n (j := 1) dX9_any_0 rfl ?_
  refine gt_Svp (As := [.int x1]) dX9_any_1 ca_X9_77 ⟨by decide, by decide⟩ hA (Nat.le_of_ble_eq_true rfl) (Nat.le_of_ble_eq_true rfl) (by decide) (co_X9_requireLocation_any hG (rg_w h1) (fun _ _ _ _ h => h)) rfl (fun _ h => nomatch h) (fun _ _ q => q) (fun hx105 => ?_)
  refine tt_aload_n (j := 0) dX9_any_4 rfl ?_
  have hr107 := rk_R (k := 578) hR h0 8 0
  have ho108 := rk_O (k := 578) hG hR h0 8 0
  refine gt_gR (id := 578) dX9_any_5 fl_9_28 rfl rfl h0 hA hr107 ?_
  refine tt_iload_n (j := 1) dX9_any_8 rfl ?_
  refine tt_lconst (v := 0) dX9_any_9 rfl ?_
  refine tt_lconst (v := 0) dX9_any_10 rfl ?_
  refine tt_ldc2 (v := (-1)) dX9_any_11 kl_9_93 ?_
  refine gt_Vv (As := [.int x1, .long 0, .long 0, .long (-1)]) dX9_any_14 ca_X9_89 ⟨by decide, by decide⟩ ho108 hA rfl (Nat.le_of_ble_eq_true rfl) (Nat.le_of_ble_eq_true rfl) (by decide) (cz_X8_keep hG (oa_af ho108 hA) hR (fun _ _ _ _ h => h)) rfl (fun _ h => nomatch h) (fun S109 hx113 hG110 hB111 hA112 => ?_)
  exact tt_vreturn dX9_any_17 rfl (hP _ _ _ _ ⟨hG110, hA112, Or.inl ⟨_, rfl, rfl, hx113, rfl, rfl⟩⟩)
set_option maxHeartbeats 4000000 in
theorem cywo_L_any {xi : SX} {S : Hp} {E : List Nat} {P : Po} {o0 : Nat} {x1 : Int32} {R : Nat → Nat → Nat} (hR : RK S R) (hG : GI S E) (h0 : Oa S E 9 0 o0) (h1 : Rg 0 23 x1) (hP : ∀ r T x y, PX E [9994] S (fun z T => z = 0 ∧ sg T = Z_X8_keep R (sg S) (R 578 o0) x1 0 0 (-1)) r T x y → P r T x y) : TT xi M_L_any 0 [(0, .ref o0), (1, .int x1)] [] S 1 6 P := by
  have hA : Af E [9994] S S := af_rf
  refine tt_aload_n (j := 0) dL_any_0 rfl ?_
  refine tt_iload_n (j := 1) dL_any_1 rfl ?_
  refine gt_VC0 (As := [.int x1]) dL_any_2 ca_L_21 ⟨by decide, by decide⟩ h0 hA rfl (Nat.le_of_ble_eq_true rfl) (Nat.le_of_ble_eq_true rfl) (by decide) (cyo_X9_any hR hG (oa_af h0 hA) (rg_w h1) (fun _ _ _ _ h => h)) (fun S101 v106 hv107 hx105 hG102 hB103 hA104 => ?_)
  obtain rfl : v106 = none := hv107
  show TT xi M_L_any 5 [(0, .ref o0), (1, .int x1)] [] S101 1 6 P
  refine tt_goto (tgt := 11) dL_any_5 rfl ?_
  refine tt_iconst (v := 0) dL_any_11 rfl ?_
  exact tt_ireturn dL_any_12 .int rfl rfl (hP _ _ _ _ ⟨hG102, hA104, _, rfl, rfl, hx105⟩)
set_option maxHeartbeats 4000000 in
theorem cyn_X9_any {xi : SX} {S : Hp} {E : List Nat} {kc nc : Nat} {P : Po} {o0 : Nat} {x1 : Int32} (hG : GI S E) (h0 : Oa S E 9 0 o0) (hq : ¬ Rg 0 23 x1) (hkc : 1 ≤ kc) (hnc : 6 ≤ nc) (hP : ∀ r T x y, PV E [] S kc nc (fun _ => False) ex0 ["java/lang/IllegalArgumentException"] r T x y → P r T x y) : TT xi M_X9_any 0 [(0, .ref o0), (1, .int x1)] [] S kc nc P := by
  have hA : Af E [] S S := af_rf
  refine tt_iload_n (j := 1) dX9_any_0 rfl ?_
  exact gt_S (As := [.int x1]) dX9_any_1 ca_X9_77 ⟨by decide, by decide⟩ hA (Nat.le_of_ble_eq_true rfl) (Nat.le_of_ble_eq_true rfl) (by decide) (cn_X9_requireLocation_any hG hq hkc hnc (fun _ _ _ _ h => h)) rfl (fun X hX T g1 g2 => hP _ _ _ _ ⟨g1, g2, Or.inr ⟨X, hX, rfl⟩⟩) (fun _ _ h => h.elim)
set_option maxHeartbeats 4000000 in
theorem cywn_L_any {xi : SX} {S : Hp} {E : List Nat} {P : Po} {o0 : Nat} {x1 : Int32} (hG : GI S E) (h0 : Oa S E 9 0 o0) (hq : ¬ Rg 0 23 x1) (hP : ∀ r T x y, PW E [] S (fun z => z = 1) r T x y → P r T x y) : TT xi M_L_any 0 [(0, .ref o0), (1, .int x1)] [] S 1 6 P := by
  have hA : Af E [] S S := af_rf
  refine tt_aload_n (j := 0) dL_any_0 rfl ?_
  refine tt_iload_n (j := 1) dL_any_1 rfl ?_
  refine gt_VC1 (As := [.int x1]) dL_any_2 ca_L_21 ⟨by decide, by decide⟩ h0 hA rfl (Nat.le_of_ble_eq_true rfl) (Nat.le_of_ble_eq_true rfl) (by decide) ch_L_any_0 (cyn_X9_any hG (oa_af h0 hA) hq (by decide) (by decide) (fun _ _ _ _ h => h)) (fun S108 q109 hG110 hB111 hA112 => ?_) (fun _ _ h => h.elim)
  · skip
    refine tt_astore_n (ks := [0, 1, 2]) (L' := [(2, .ref q109), (0, .ref o0), (1, .int x1)]) dL_any_8 (by decide) rfl ?_
    refine tt_iconst (v := 1) dL_any_9 rfl ?_
    exact tt_ireturn dL_any_10 .int rfl rfl (hP _ _ _ _ ⟨hG110, hA112, _, rfl, rfl⟩)
set_option maxHeartbeats 4000000 in
theorem cyo_X10_any {xi : SX} {S : Hp} {E : List Nat} {kc nc : Nat} {P : Po} {o0 : Nat} {x1 : Int32} {R : Nat → Nat → Nat} (hR : RK S R) (hG : GI S E) (h0 : Oa S E 10 0 o0) (h1 : Rg 0 23 x1) (hP : ∀ r T x y, PV E [640, 9989] S kc nc rV (fun v T => (hp_I T 640 o0 = 0 ∧ ∃ S1, Af E [640] S S1 ∧ sg T = ui (sg S1) (R 643 o0) (4880 + x1).toNatClampNeg 2)) [] r T x y → P r T x y) : TT xi M_X10_any 0 [(0, .ref o0), (1, .int x1)] [] S kc nc P := by
  have hA : Af E [640, 9989] S S := af_rf
  refine tt_aload_n (j := 0) dX10_any_0 rfl ?_
  refine tt_iload_n (j := 1) dX10_any_1 rfl ?_
  refine gt_SIp (As := [.int x1]) dX10_any_2 ca_X10_310 ⟨by decide, by decide⟩ hA (Nat.le_of_ble_eq_true rfl) (Nat.le_of_ble_eq_true rfl) (by decide) (cs_X10_isPlace hG  (fun _ _ _ _ h => h)) rfl (fun _ h => nomatch h) (fun _ _ q => q.1) (fun x106 h107 hx105 => ?_)
  refine tt_if_eq (tgt := 12) dX10_any_5 rfl (fun q108 => ?_) (fun q108 => ?_)
  · skip
    have h109 : Rg 0 0 x106 := rg_eq_l h107 (⟨by decide, by decide⟩ : Rg 0 0 0) q108
    exact absurd (rg_w h1) (((hx105.2) _ rfl).2 q108)
  · skip
    have h110 : Rg 1 1 x106 := rg_ne_lo h107 (⟨by decide, by decide⟩ : Rg 0 0 0) q108
    have h111 : Rg 0 23 x1 := (((hx105.2) _ rfl).1 q108)
    refine tt_iconst (v := 0) dX10_any_8 rfl ?_
    refine tt_goto (tgt := 13) dX10_any_9 rfl ?_
    refine gt_VI (As := [.int 0]) dX10_any_13 ca_X10_74 ⟨by decide, by decide⟩ h0 hA rfl (Nat.le_of_ble_eq_true rfl) (Nat.le_of_ble_eq_true rfl) (by decide) (cs_X10_refused hG (oa_af h0 hA) (fun _ _ _ _ h => h)) rfl (fun _ h => nomatch h) (fun S112 x117 h118 hx116 hG113 hB114 hA115 => ?_)
    obtain rfl := (hx116.1 _ rfl).trans (show bI (0 < (0 : Int32)) = 0 by decide)
    refine tt_if_eq (tgt := 20) dX10_any_16 rfl (fun _ => ?_) (fun q => absurd q (by decide))
    refine tt_aload_n (j := 0) dX10_any_20 rfl ?_
    have hr120 := rk_R (k := 643) hR h0 32 4940
    have ho121 := rk_O (k := 643) hG hR h0 32 4940
    refine gt_gR (id := 643) dX10_any_21 fl_10_13 rfl rfl h0 hA115 hr120 ?_
    refine tt_sipush (v := 4880) dX10_any_24 rfl ?_
    refine tt_iload_n (j := 1) dX10_any_27 rfl ?_
    refine tt_iadd dX10_any_28 ?_
    refine tt_iconst (v := 2) dX10_any_29 rfl ?_
    refine gx_iS dX10_any_30 ho121 hA115 (Or.inl (by decide)) (rg_in (rg_add (lo := 4880) (hi := 4903) (⟨by decide, by decide⟩ : Rg 4880 4880 4880) h111)) hG113 (by decide) rfl (fun S122 hG123 hA124 e125 => ?_)
    exact tt_vreturn dX10_any_31 rfl (hP _ _ _ _ ⟨hG123, hA124, Or.inl ⟨_, rfl, rfl, ⟨(sg_I e125).trans hx116.2, _, hB114, e125⟩, rfl, rfl⟩⟩)
set_option maxHeartbeats 4000000 in
theorem cyn_X10_any {xi : SX} {S : Hp} {E : List Nat} {kc nc : Nat} {P : Po} {o0 : Nat} {x1 : Int32} (hG : GI S E) (h0 : Oa S E 10 0 o0) (hq : ¬ Rg 0 23 x1) (hP : ∀ r T x y, PV E [640] S kc nc rV (fun v T => (hp_I T 640 o0 = 1)) [] r T x y → P r T x y) : TT xi M_X10_any 0 [(0, .ref o0), (1, .int x1)] [] S kc nc P := by
  have hA : Af E [640] S S := af_rf
  refine tt_aload_n (j := 0) dX10_any_0 rfl ?_
  refine tt_iload_n (j := 1) dX10_any_1 rfl ?_
  refine gt_SIp (As := [.int x1]) dX10_any_2 ca_X10_310 ⟨by decide, by decide⟩ hA (Nat.le_of_ble_eq_true rfl) (Nat.le_of_ble_eq_true rfl) (by decide) (cs_X10_isPlace hG  (fun _ _ _ _ h => h)) rfl (fun _ h => nomatch h) (fun _ _ q => q.1) (fun x106 h107 hx105 => ?_)
  refine tt_if_eq (tgt := 12) dX10_any_5 rfl (fun q108 => ?_) (fun q108 => ?_)
  · skip
    have h109 : Rg 0 0 x106 := rg_eq_l h107 (⟨by decide, by decide⟩ : Rg 0 0 0) q108
    refine tt_iconst (v := 1) dX10_any_12 rfl ?_
    refine gt_VI (As := [.int 1]) dX10_any_13 ca_X10_74 ⟨by decide, by decide⟩ h0 hA rfl (Nat.le_of_ble_eq_true rfl) (Nat.le_of_ble_eq_true rfl) (by decide) (cs_X10_refused hG (oa_af h0 hA) (fun _ _ _ _ h => h)) rfl (fun _ h => nomatch h) (fun S110 x115 h116 hx114 hG111 hB112 hA113 => ?_)
    obtain rfl := (hx114.1 _ rfl).trans (show bI (0 < (1 : Int32)) = 1 by decide)
    refine tt_if_eq (tgt := 20) dX10_any_16 rfl (fun q => absurd q (by decide)) (fun _ => ?_)
    exact tt_vreturn dX10_any_19 rfl (hP _ _ _ _ ⟨hG111, hA113, Or.inl ⟨_, rfl, rfl, hx114.2, rfl, rfl⟩⟩)
  · skip
    have h117 : Rg 1 1 x106 := rg_ne_lo h107 (⟨by decide, by decide⟩ : Rg 0 0 0) q108
    have h118 : Rg 0 23 x1 := (((hx105.2) _ rfl).1 q108)
    exact absurd h118 hq
