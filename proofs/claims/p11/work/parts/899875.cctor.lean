/-! constructors that tell more -/
/-- a State as it is made -/
def St8 (T : Hp) (o : Nat) : Prop := ∃ a b c, (hp_R T 512 o = some a ∧ hp_R T 513 o = some b ∧ hp_R T 514 o = some c) ∧ (a ∈ hp_L T ∧ b ∈ hp_L T ∧ c ∈ hp_L T) ∧ (hp_N T a = 24 ∧ hp_N T b = 24 ∧ hp_N T c = 24) ∧ ((∀ i, i < 24 → hp_j T a i = 0) ∧ (∀ i, i < 24 → hp_j T b i = 0) ∧ ∀ i, i < 24 → hp_j T c i = -1) ∧ hp_I T 515 o = 0 ∧ hp_I T 516 o = -1 ∧ hp_I T 517 o = -1
def HJ (S T : Hp) : Prop := ∀ k q, q ∈ hp_L S → hp_J T k q = hp_J S k q
set_option maxHeartbeats 4000000 in
theorem ce_X8 {xi : SX} {S : Hp} {E : List Nat} {kc nc : Nat} {P : Po} {o0 : Nat} (hG : GI S E) (h0 : Oa S E 8 0 o0) (hP : ∀ r T x y, PV E [9994] S kc nc rV (fun v T => hp_I T = hp_I S ∧ hp_J T = hp_J S ∧ ∀ b, hp_R S 514 o0 = some b → (∀ a, a ≠ b → hp_j T a = hp_j S a) ∧ ∀ i, i < 24 → hp_j T b i = -1) [] r T x y → P r T x y) : TT xi M_X8_init 43 [(0, .ref o0)] [] S kc nc P := by
  have hA : Af E [9994] S S := af_rf
  refine tt_iconst (v := 0) dX8_init_43 rfl ?_
  refine tt_istore_n (ks := [0, 1]) (L' := [(1, .int 0), (0, .ref o0)]) dX8_init_44 (by decide) rfl ?_
  have B101 : ∀ (nn : Nat) (S102 : Hp) (x105 : Int32), (2147483648 - x105.toInt).toNat = nn → GI S102 E → Af E [9994] S S102 → Rg 0 24 x105 → (hp_I S102 = hp_I S ∧ hp_J S102 = hp_J S ∧ ∀ b, hp_R S 514 o0 = some b → (∀ a, a ≠ b → hp_j S102 a = hp_j S a) ∧ ∀ i, i < x105.toNatClampNeg → hp_j S102 b i = -1) → TT xi M_X8_init 45 [(0, .ref o0), (1, .int x105)] [] S102 kc nc P := by
    intro nn
    induction nn using Nat.strongRecOn with
    | ind nn ihB101 =>
      intro S102 x105 hmB101 hG103 hA104 h106 hxj
      subst hmB101
      refine tt_iload_n (j := 1) dX8_init_45 rfl ?_
      refine tt_bipush (v := 24) dX8_init_46 rfl ?_
      refine tt_icmp_ge (tgt := 66) dX8_init_48 rfl (fun q107 => ?_) (fun q107 => ?_)
      · skip
        have h108 : Rg 24 24 x105 := rg_le_r (⟨by decide, by decide⟩ : Rg 24 24 24) h106 q107
        obtain rfl : x105 = 24 := rg_eqc h108
        exact tt_vreturn dX8_init_66 rfl (hP _ _ _ _ ⟨hG103, hA104, Or.inl ⟨_, rfl, rfl, hxj, rfl, rfl⟩⟩)
      · skip
        have h109 : Rg 0 23 x105 := rg_lt_l h106 (⟨by decide, by decide⟩ : Rg 24 24 24) (nle_lt q107)
        refine tt_aload_n (j := 0) dX8_init_51 rfl ?_
        obtain ⟨b110, hr111, ho112⟩ := gi_R (k := 514) hG h0 33 24
        refine gt_gR (id := 514) dX8_init_52 fl_8_18 rfl rfl h0 hA104 hr111 ?_
        refine tt_iload_n (j := 1) dX8_init_55 rfl ?_
        refine tt_ldc2 (v := (-1)) dX8_init_56 kl_8_33 ?_
        refine gt_lSx dX8_init_59 ho112 hA104 (rg_in h109) hG103 (Or.inl (by decide)) (Or.inr (ow_mk 9994 (k := 514) h0 hr111)) (fun S113 hG114 hA115 e116 f117 er118 ej9 => ?_)
        refine tt_iinc (j := 1) (v := (x105 + 1)) (ks := [0, 1]) (L' := [(1, .int (x105 + 1)), (0, .ref o0)]) dX8_init_60 rfl rfl (by decide) rfl ?_
        refine tt_goto (tgt := 45) dX8_init_63 rfl ?_
        exact tt_loc (ks := [1, 0]) rfl (ihB101 _ (rg_up h109) S113 (x105 + 1) rfl hG114 hA115 (rg_w (rg_add (lo := 1) (hi := 24) h109 (⟨by decide, by decide⟩ : Rg 1 1 1))) ⟨e116.trans hxj.1, f117.trans hxj.2.1, fun b hb => by
          obtain rfl : b110 = b := Option.some.inj (hr111.symm.trans hb)
          obtain ⟨y1, y2⟩ := hxj.2.2 _ hr111
          refine ⟨fun a hn => by rw [ej9, va_up_ne _ _ hn]; exact y1 a hn, fun i hi => ?_⟩
          rw [(cl_up h109).1] at hi
          rw [ej9, va_up_self]
          unfold vp_updL
          by_cases ei : i = x105.toNatClampNeg
          · rw [if_pos ei]
          · rw [if_neg ei]; exact y2 i (by omega)⟩)
  exact tt_loc (ks := [1, 0]) rfl (B101 _ S 0 rfl hG hA (rg_w (⟨by decide, by decide⟩ : Rg 0 0 0)) ⟨rfl, rfl, fun _ _ => ⟨fun _ _ => rfl, fun i hi => absurd hi (Nat.not_lt_zero _)⟩⟩)
set_option maxHeartbeats 4000000 in
theorem cd_8 {xi : SX} {S : Hp} {E : List Nat} {kc nc : Nat} {P : Po} {o0 : Nat}  (hG : GI S (o0 :: E)) (hL : o0 ∈ hp_L S) (hEL : ∀ q ∈ E, q ∈ hp_L S) (hE : o0 ∉ E) (hK : hp_K S o0 = 8) (hZ : Zf S o0 [])  (hkc : 3 ≤ kc) (hnc : 72 ≤ nc) (hP : ∀ T, GI T E → Oa T E 8 0 o0 → Cf o0 S T → hp_J T = hp_J S → St8 T o0 → P (.inl none) T (kc - 3) (nc - 72)) : TT xi M_X8_init 0 [(0, .ref o0)] [] S kc nc P := by
  have hC : Cf o0 S S := cf_rf
  refine tt_aload_n (j := 0) dX8_init_0 rfl ?_
  refine tt_objInit dX8_init_1 ca_X8_3 ⟨by decide, by decide⟩ ?_
  refine tt_aload_n (j := 0) dX8_init_4 rfl ?_
  refine tt_bipush (v := 24) dX8_init_5 rfl ?_
  refine gn_J (k1 := kc - 1) (n1 := nc - 24) dX8_init_7 ka_long (by decide) (len := 24) rfl (by decide) (by omega) (by omega) hG (e_cons hL hEL) (fun a1 T2 hG3 cn4 oa5 ni6 et7 => ?_)
  have nb8 : a1 ∉ hp_L S := fun q => ni6 (hC.1 a1 q).1
  have hK10 := k_cn hL cn4 hK
  have hZ11 := zf_cn hZ hL cn4
  have hC12 := cf_cn hC cn4 hL
  have hE13 := e_cn hEL cn4
  have hL9 := l_cn hL cn4
  refine tt_putR (id := 512) (x := some a1) dX8_init_9 fl_8_9 rfl rfl ⟨hL9, hK10⟩ rfl rfl (by decide) ?_
  have f14 := fk_mk (k := 512) (o := o0) oa5
  have hG15 := gp_oR (k := 512) (x := some a1) hG3
  have hL16 : o0 ∈ hp_L (sp_R T2 512 o0 (some a1)) := by rw [hq_L_R]; exact hL9
  have hK17 : hp_K (sp_R T2 512 o0 (some a1)) o0 = 8 := by rw [hq_K_R]; exact hK10
  have hZ18 := zf_R (j := 512) (a := o0) (x := some a1) hZ11
  have hC19 := cf_R (k := 512) (x := some a1) hC12 hL (fun _ _ _ b e => by cases e; exact nb8) (fun b e => by cases e; exact oa5.1) (fun h => by cases h) (fun _ _ e => by cases e; exact ⟨nb8, fun hU => by rw [et7]; exact nh_a (hC.2.2.2.2.2.2.2.1 hU) ni6 (by decide)⟩)
  have hE20 : ∀ q ∈ E, q ∈ hp_L (sp_R T2 512 o0 (some a1)) := by rw [hq_L_R]; exact hE13
  refine tt_aload_n (j := 0) dX8_init_12 rfl ?_
  refine tt_bipush (v := 24) dX8_init_13 rfl ?_
  refine gn_J (k1 := kc - 2) (n1 := nc - 48) dX8_init_15 ka_long (by decide) (len := 24) rfl (by decide) (by omega) (by omega) hG15 (e_cons hL16 hE20) (fun a21 T22 hG23 cn24 oa25 ni26 et27 => ?_)
  have nb28 : a21 ∉ hp_L S := fun q => ni26 (hC19.1 a21 q).1
  have hK30 := k_cn hL16 cn24 hK17
  have hZ31 := zf_cn hZ18 hL16 cn24
  have hC32 := cf_cn hC19 cn24 hL
  have hE33 := e_cn hE20 cn24
  have f34 := fk_cn f14 hL16 cn24
  have hL29 := l_cn hL16 cn24
  refine tt_putR (id := 513) (x := some a21) dX8_init_17 fl_8_15 rfl rfl ⟨hL29, hK30⟩ rfl rfl (by decide) ?_
  have f35 := fk_R (j := 513) (x := some a21) f34
  have f36 := fk_mk (k := 513) (o := o0) oa25
  have hG37 := gp_oR (k := 513) (x := some a21) hG23
  have hL38 : o0 ∈ hp_L (sp_R T22 513 o0 (some a21)) := by rw [hq_L_R]; exact hL29
  have hK39 : hp_K (sp_R T22 513 o0 (some a21)) o0 = 8 := by rw [hq_K_R]; exact hK30
  have hZ40 := zf_R (j := 513) (a := o0) (x := some a21) hZ31
  have hC41 := cf_R (k := 513) (x := some a21) hC32 hL (fun _ _ _ b e => by cases e; exact nb28) (fun b e => by cases e; exact oa25.1) (fun h => by cases h) (fun _ _ e => by cases e; exact ⟨nb28, fun hU => by rw [et27]; exact nh_a (hC19.2.2.2.2.2.2.2.1 hU) ni26 (by decide)⟩)
  have hE42 : ∀ q ∈ E, q ∈ hp_L (sp_R T22 513 o0 (some a21)) := by rw [hq_L_R]; exact hE33
  refine tt_aload_n (j := 0) dX8_init_20 rfl ?_
  refine tt_bipush (v := 24) dX8_init_21 rfl ?_
  refine gn_J (k1 := kc - 3) (n1 := nc - 72) dX8_init_23 ka_long (by decide) (len := 24) rfl (by decide) (by omega) (by omega) hG37 (e_cons hL38 hE42) (fun a43 T44 hG45 cn46 oa47 ni48 et49 => ?_)
  have nb50 : a43 ∉ hp_L S := fun q => ni48 (hC41.1 a43 q).1
  have hK52 := k_cn hL38 cn46 hK39
  have hZ53 := zf_cn hZ40 hL38 cn46
  have hC54 := cf_cn hC41 cn46 hL
  have hE55 := e_cn hE42 cn46
  have f56 := fk_cn f35 hL38 cn46
  have f57 := fk_cn f36 hL38 cn46
  have hL51 := l_cn hL38 cn46
  refine tt_putR (id := 514) (x := some a43) dX8_init_25 fl_8_18 rfl rfl ⟨hL51, hK52⟩ rfl rfl (by decide) ?_
  have f58 := fk_R (j := 514) (x := some a43) f56
  have f59 := fk_R (j := 514) (x := some a43) f57
  have f60 := fk_mk (k := 514) (o := o0) oa47
  have hG61 := gp_oR (k := 514) (x := some a43) hG45
  have hL62 : o0 ∈ hp_L (sp_R T44 514 o0 (some a43)) := by rw [hq_L_R]; exact hL51
  have hK63 : hp_K (sp_R T44 514 o0 (some a43)) o0 = 8 := by rw [hq_K_R]; exact hK52
  have hZ64 := zf_R (j := 514) (a := o0) (x := some a43) hZ53
  have hC65 := cf_R (k := 514) (x := some a43) hC54 hL (fun _ _ _ b e => by cases e; exact nb50) (fun b e => by cases e; exact oa47.1) (fun h => by cases h) (fun _ _ e => by cases e; exact ⟨nb50, fun hU => by rw [et49]; exact nh_a (hC41.2.2.2.2.2.2.2.1 hU) ni48 (by decide)⟩)
  have hE66 : ∀ q ∈ E, q ∈ hp_L (sp_R T44 514 o0 (some a43)) := by rw [hq_L_R]; exact hE55
  refine tt_aload_n (j := 0) dX8_init_28 rfl ?_
  refine tt_iconst (v := 0) dX8_init_29 rfl ?_
  refine tt_putI (id := 515) (x := 0) dX8_init_30 fl_8_21 rfl rfl ⟨hL62, hK63⟩ rfl rfl (by decide) ?_
  have f67 := fk_I (j := 515) (v := 0) f58
  have f68 := fk_I (j := 515) (v := 0) f59
  have f69 := fk_I (j := 515) (v := 0) f60
  have i70 : hp_I (sp_I (sp_R T44 514 o0 (some a43)) 515 o0 0) 515 o0 = 0 := by rw [hq_I_I, up2_self]
  have hG71 := gp_oI (k := 515) (v := 0) hG61
  have hL72 : o0 ∈ hp_L (sp_I (sp_R T44 514 o0 (some a43)) 515 o0 0) := by rw [hq_L_I]; exact hL62
  have hK73 : hp_K (sp_I (sp_R T44 514 o0 (some a43)) 515 o0 0) o0 = 8 := by rw [hq_K_I]; exact hK63
  have hZ74 := zf_I (j := 515) (v := 0) hZ64
  have hC75 := cf_I (k := 515) (v := 0) hC65
  have hE76 : ∀ q ∈ E, q ∈ hp_L (sp_I (sp_R T44 514 o0 (some a43)) 515 o0 0) := by rw [hq_L_I]; exact hE66
  refine tt_aload_n (j := 0) dX8_init_33 rfl ?_
  refine tt_iconst (v := (-1)) dX8_init_34 rfl ?_
  refine tt_putI (id := 516) (x := (-1)) dX8_init_35 fl_8_25 rfl rfl ⟨hL72, hK73⟩ rfl rfl (by decide) ?_
  have f77 := fk_I (j := 516) (v := (-1)) f67
  have f78 := fk_I (j := 516) (v := (-1)) f68
  have f79 := fk_I (j := 516) (v := (-1)) f69
  have i80 : hp_I (sp_I (sp_I (sp_R T44 514 o0 (some a43)) 515 o0 0) 516 o0 (-1)) 516 o0 = (-1) := by rw [hq_I_I, up2_self]
  have hG81 := gp_oI (k := 516) (v := (-1)) hG71
  have hL82 : o0 ∈ hp_L (sp_I (sp_I (sp_R T44 514 o0 (some a43)) 515 o0 0) 516 o0 (-1)) := by rw [hq_L_I]; exact hL72
  have hK83 : hp_K (sp_I (sp_I (sp_R T44 514 o0 (some a43)) 515 o0 0) 516 o0 (-1)) o0 = 8 := by rw [hq_K_I]; exact hK73
  have hZ84 := zf_I (j := 516) (v := (-1)) hZ74
  have hC85 := cf_I (k := 516) (v := (-1)) hC75
  have hE86 : ∀ q ∈ E, q ∈ hp_L (sp_I (sp_I (sp_R T44 514 o0 (some a43)) 515 o0 0) 516 o0 (-1)) := by rw [hq_L_I]; exact hE76
  refine tt_aload_n (j := 0) dX8_init_38 rfl ?_
  refine tt_iconst (v := (-1)) dX8_init_39 rfl ?_
  refine tt_putI (id := 517) (x := (-1)) dX8_init_40 fl_8_28 rfl rfl ⟨hL82, hK83⟩ rfl rfl (by decide) ?_
  have f87 := fk_I (j := 517) (v := (-1)) f77
  have f88 := fk_I (j := 517) (v := (-1)) f78
  have f89 := fk_I (j := 517) (v := (-1)) f79
  have i90 : hp_I (sp_I (sp_I (sp_I (sp_R T44 514 o0 (some a43)) 515 o0 0) 516 o0 (-1)) 517 o0 (-1)) 517 o0 = (-1) := by rw [hq_I_I, up2_self]
  have hG91 := gp_oI (k := 517) (v := (-1)) hG81
  have hL92 : o0 ∈ hp_L (sp_I (sp_I (sp_I (sp_R T44 514 o0 (some a43)) 515 o0 0) 516 o0 (-1)) 517 o0 (-1)) := by rw [hq_L_I]; exact hL82
  have hK93 : hp_K (sp_I (sp_I (sp_I (sp_R T44 514 o0 (some a43)) 515 o0 0) 516 o0 (-1)) 517 o0 (-1)) o0 = 8 := by rw [hq_K_I]; exact hK83
  have hZ94 := zf_I (j := 517) (v := (-1)) hZ84
  have hC95 := cf_I (k := 517) (v := (-1)) hC85
  have hE96 : ∀ q ∈ E, q ∈ hp_L (sp_I (sp_I (sp_I (sp_R T44 514 o0 (some a43)) 515 o0 0) 516 o0 (-1)) 517 o0 (-1)) := by rw [hq_L_I]; exact hE86
  obtain ⟨gD, oD⟩ := gi_done hG91 hL92 hE hK93 (by decide) [] (by decide) fa_nil [(512, 33, 24), (513, 33, 24), (514, 33, 24)] (by decide) (fa_cons ⟨_, f87⟩ (fa_cons ⟨_, f88⟩ (fa_cons ⟨_, f89⟩ fa_nil)))
  have hJ : hp_J (sp_I (sp_I (sp_I (sp_R T44 514 o0 (some a43)) 515 o0 0) 516 o0 (-1)) 517 o0 (-1)) = hp_J S := by
    rw [hq_J_I, hq_J_I, hq_J_I, hq_J_R, et49, hq_J_a, hq_J_R, et27, hq_J_a, hq_J_R, et7, hq_J_a]
  have hj : hp_j (sp_I (sp_I (sp_I (sp_R T44 514 o0 (some a43)) 515 o0 0) 516 o0 (-1)) 517 o0 (-1)) = va_up (va_up (va_up (hp_j S) a1 (fun _ => 0)) a21 (fun _ => 0)) a43 (fun _ => 0) := by
    rw [hq_j_I, hq_j_I, hq_j_I, hq_j_R, et49, hq_j_a, hq_j_R, et27, hq_j_a, hq_j_R, et7, hq_j_a]
  have n12 : a1 ≠ a21 := fun e => ni26 (by rw [← e, hq_L_R]; exact oa5.1)
  have n13 : a1 ≠ a43 := fun e => ni48 (by rw [← e, hq_L_R]; exact (cn24.1 a1 (by rw [hq_L_R]; exact oa5.1)).1)
  have n23 : a21 ≠ a43 := fun e => ni48 (by rw [← e, hq_L_R]; exact oa25.1)
  have i5 : hp_I (sp_I (sp_I (sp_I (sp_R T44 514 o0 (some a43)) 515 o0 0) 516 o0 (-1)) 517 o0 (-1)) 515 o0 = 0 := by rw [hq_I_I, up2_ne (by decide), hq_I_I, up2_ne (by decide), hq_I_I, up2_self]
  have i6 : hp_I (sp_I (sp_I (sp_I (sp_R T44 514 o0 (some a43)) 515 o0 0) 516 o0 (-1)) 517 o0 (-1)) 516 o0 = -1 := by rw [hq_I_I, up2_ne (by decide), hq_I_I, up2_self]
  have h512 := f87.1
  have h513 := f88.1
  have h514 := f89.1
  refine ce_X8 gD oD (fun r T x y h => ?_)
  obtain ⟨g1, g2, ⟨v, rfl, hv, he9, hx9, hy9⟩ | ⟨X, hX, -⟩⟩ := h
  · obtain rfl : v = none := hv
    obtain ⟨w1, w2, w3⟩ := he9
    obtain ⟨w4, w5⟩ := w3 _ h514
    have l1 : a1 ∈ hp_L T := (g2.1 a1 f87.2.1).1
    have l2 : a21 ∈ hp_L T := (g2.1 a21 f88.2.1).1
    have l3 : a43 ∈ hp_L T := (g2.1 a43 f89.2.1).1
    rw [hx9, hy9]; refine hP T g1 (oa_af oD g2) (cf_x8 hC95 g2 hL w1 w4 nb50) (w2.trans hJ) ⟨a1, a21, a43, ⟨(g2.2.1 o0 oD.1 512).trans h512, (g2.2.1 o0 oD.1 513).trans h513, (g2.2.1 o0 oD.1 514).trans h514⟩, ⟨l1, l2, l3⟩, ⟨(g2.1 a1 f87.2.1).2.2.trans (f87.2.2.2.2 (by decide)), (g2.1 a21 f88.2.1).2.2.trans (f88.2.2.2.2 (by decide)), (g2.1 a43 f89.2.1).2.2.trans (f89.2.2.2.2 (by decide))⟩, ⟨?_, ?_, w5⟩, ?_, ?_, ?_⟩
    · intro i hi
      rw [w4 _ n13, hj, va_up_ne _ _ n13, va_up_ne _ _ n12, va_up_self]
    · intro i hi
      rw [w4 _ n23, hj, va_up_ne _ _ n23, va_up_self]
    · rw [w1]; exact i5
    · rw [w1]; exact i6
    · rw [w1]; exact i90
  · cases hX
set_option maxHeartbeats 4000000 in
theorem cd_5 {xi : SX} {S : Hp} {E : List Nat} {kc nc : Nat} {P : Po} {o0 : Nat}  (hG : GI S (o0 :: E)) (hL : o0 ∈ hp_L S) (hEL : ∀ q ∈ E, q ∈ hp_L S) (hE : o0 ∉ E) (hK : hp_K S o0 = 5) (hZ : Zf S o0 [])  (hkc : 4 ≤ kc) (hnc : 79 ≤ nc) (hP : ∀ T, GI T E → Oa T E 5 0 o0 → Cf o0 S T → Zf T o0 [] → HJ S T → P (.inl none) T (kc - 4) (nc - 79)) : TT xi M_X5_init 0 [(0, .ref o0)] [] S kc nc P := by
  have hC : Cf o0 S S := cf_rf
  refine tt_aload_n (j := 0) dX5_init_0 rfl ?_
  refine tt_objInit dX5_init_1 ca_X5_1 ⟨by decide, by decide⟩ ?_
  refine tt_aload_n (j := 0) dX5_init_4 rfl ?_
  refine tt_newo (k1 := kc - 1) (n1 := nc - 7) dX5_init_5 nl_5_7 (by omega) (by show nc - 7 + 7 ≤ nc - 0; omega) (fun a1 ha2 => ?_)
  refine tt_dup dX5_init_8 rfl ?_
  refine tt_callI (As := []) (Mid := fun r T _ _ => r = .inl none ∧ GI T (o0 :: E) ∧ Oa T (o0 :: E) 8 0 a1 ∧ Cf a1 (nw_o S 8 a1) T ∧ hp_J T = hp_J (nw_o S 8 a1)) (k1 := 3) (n1 := 72) (k2 := kc - 4) (n2 := nc - 79) dX5_init_9 ca_X5_9 ⟨by decide, by decide⟩ (Nat.le_of_ble_eq_true rfl) (Nat.le_of_ble_eq_true rfl) (by omega) (by omega) (cd_8 (gi_o hG ha2) in_o (e_cn (e_cons hL hEL) (cn_o ha2)) (fun q => ha2 (e_cons hL hEL _ q)) k_o zf_o  (kc := 3) (nc := 72) (by decide) (by decide) (fun T u1 u2 u3 u4 _ => ⟨rfl, u1, u2, u3, u4⟩)) (fun v T3 x y hw => ?_) (fun X T hw => by obtain ⟨e, -⟩ := hw; cases e)
  obtain ⟨e, hG4, oa5, cf6, ej⟩ := hw
  cases e
  have cn7 := cn_new ha2 cf6
  show TT xi M_X5_init 12 [(0, .ref o0)] [.ref a1, .ref o0] T3 (kc - 4) (nc - 79) P
  have hK16 := k_cn hL cn7 hK
  have hZ17 := zf_cn hZ hL cn7
  have hC18 := cf_cn hC cn7 hL
  have hE19 := e_cn hEL cn7
  have hL15 := l_cn hL cn7
  refine tt_putR (id := 320) (x := some a1) dX5_init_12 fl_5_10 rfl rfl ⟨hL15, hK16⟩ rfl rfl (by decide) ?_
  have f20 := fk_mk (k := 320) (o := o0) oa5
  have hG21 := gp_oR (k := 320) (x := some a1) hG4
  have hL22 : o0 ∈ hp_L (sp_R T3 320 o0 (some a1)) := by rw [hq_L_R]; exact hL15
  have hK23 : hp_K (sp_R T3 320 o0 (some a1)) o0 = 5 := by rw [hq_K_R]; exact hK16
  have hZ24 := zf_R (j := 320) (a := o0) (x := some a1) hZ17
  have hC25 := cf_R (k := 320) (x := some a1) hC18 hL (ow_no (by decide)) (fun b e => by cases e; exact oa5.1) (fun h => by cases h) (fun _ _ e => by cases e; exact ⟨fun q => ha2 (hC.1 a1 q).1, fun hU => nh_new (hC.2.2.2.2.2.2.2.1 hU) ha2 cf6⟩)
  have hE26 : ∀ q ∈ E, q ∈ hp_L (sp_R T3 320 o0 (some a1)) := by rw [hq_L_R]; exact hE19
  obtain ⟨gD, oD⟩ := gi_done hG21 hL22 hE hK23 (by decide) [(322, 0, 1)] (by decide) (fa_cons (zf_rg hZ24) fa_nil) [(320, 8, 0)] (by decide) (fa_cons ⟨_, f20⟩ fa_nil)
  exact tt_vreturn dX5_init_15 rfl (hP _ gD oD hC25 hZ24 (fun k q hq => by rw [hq_J_R, ej, hq_J_o, cr_2, if_neg (fun (z : q = a1) => ha2 (z ▸ hq))]))
