section CTW
variable {xi : SX} {M : MD} {pc : Nat} {L : List (Nat × Value)} {rest : List Value} {S : Hp} {k0 n0 k1 n1 : Nat} {P : Po} {E : List Nat} {x : Int32} {len : Nat}
theorem gn_I (h : decode (md_c M) pc = .ok (.newarray .int, 2)) (hw : Cond.arrayClass .int ∈ wT) (hx : ¬ x < 0) (hlen : x.toNatClampNeg = len) (hb : len ≤ 1000000) (hk : k1 + 1 ≤ k0) (hn : n1 + len ≤ n0) (hG : GI S E) (hE : ∀ q ∈ E, q ∈ hp_L S) (kk : ∀ (a : Nat) (T : Hp), GI T E → Cn S T → Oa T E 32 len a → TT xi M (pc + 2) L (.ref a :: rest) T k1 n1 P) : TT xi M pc L (.int x :: rest) S k0 n0 P :=
  tt_newI h hw hx hlen hb hk hn (fun a ha => kk a _ (gi_a hG ha (by decide)) (cn_a ha) (oa_na ha hE))
theorem gn_J (h : decode (md_c M) pc = .ok (.newarray .long, 2)) (hw : Cond.arrayClass .long ∈ wT) (hx : ¬ x < 0) (hlen : x.toNatClampNeg = len) (hb : len ≤ 1000000) (hk : k1 + 1 ≤ k0) (hn : n1 + len ≤ n0) (hG : GI S E) (hE : ∀ q ∈ E, q ∈ hp_L S) (kk : ∀ (a : Nat) (T : Hp), GI T E → Cn S T → Oa T E 33 len a → TT xi M (pc + 2) L (.ref a :: rest) T k1 n1 P) : TT xi M pc L (.int x :: rest) S k0 n0 P :=
  tt_newJ h hw hx hlen hb hk hn (fun a ha => kk a _ (gi_a hG ha (by decide)) (cn_a ha) (oa_na ha hE))
theorem gn_Z (h : decode (md_c M) pc = .ok (.newarray .boolean, 2)) (hw : Cond.arrayClass .boolean ∈ wT) (hx : ¬ x < 0) (hlen : x.toNatClampNeg = len) (hb : len ≤ 1000000) (hk : k1 + 1 ≤ k0) (hn : n1 + len ≤ n0) (hG : GI S E) (hE : ∀ q ∈ E, q ∈ hp_L S) (kk : ∀ (a : Nat) (T : Hp), GI T E → Cn S T → Oa T E 34 len a → TT xi M (pc + 2) L (.ref a :: rest) T k1 n1 P) : TT xi M pc L (.int x :: rest) S k0 n0 P :=
  tt_newZ h hw hx hlen hb hk hn (fun a ha => kk a _ (gi_a hG ha (by decide)) (cn_a ha) (oa_na ha hE))
theorem gn_P {i : Nat} (h : decode (md_c M) pc = .ok (.anewarray i, 3)) (hw : Cond.classLink (md_y M).cls i RX5 ∈ wT) (hx : ¬ x < 0) (hlen : x.toNatClampNeg = len) (hb : len ≤ 1000000) (hk : k1 + 1 ≤ k0) (hn : n1 + len ≤ n0) (hG : GI S E) (hE : ∀ q ∈ E, q ∈ hp_L S) (kk : ∀ (a : Nat) (T : Hp), GI T E → Cn S T → Oa T E 35 len a → TT xi M (pc + 3) L (.ref a :: rest) T k1 n1 P) : TT xi M pc L (.int x :: rest) S k0 n0 P :=
  tt_newP h hw hx hlen hb hk hn (fun a ha => kk a _ (gi_a hG ha (by decide)) (cn_a ha) (oa_na ha hE))
theorem oa_new {c a kd n p : Nat} (h : Oa S E kd n p) (ha : a ∉ hp_L S) : Oa (nw_o S c a) (a :: E) kd n p := by
  obtain ⟨h1, h2, h3, h4⟩ := oa_cn h (cn_o (c := c) ha)
  exact ⟨h1, fun q => by
    rcases List.mem_cons.mp q with q | q
    · exact ha (q ▸ h.1)
    · exact h2 q, h3, h4⟩
theorem e_cons {o : Nat} (hL : o ∈ hp_L S) (hE : ∀ q ∈ E, q ∈ hp_L S) : ∀ q ∈ o :: E, q ∈ hp_L S := fun q hq => by
  rcases List.mem_cons.mp hq with rfl | hq
  · exact hL
  · exact hE q hq
end CTW
set_option maxHeartbeats 4000000 in
theorem ct_X8 {xi : SX} {S : Hp} {E : List Nat} {kc nc : Nat} {P : Po} {o0 : Nat} (hG : GI S E) (h0 : Oa S E 8 0 o0) (hP : ∀ r T x y, PV E [] S kc nc rV ex0 [] r T x y → P r T x y) : TT xi M_X8_init 43 [(0, .ref o0)] [] S kc nc P := by
  have hA : Af E [] S S := af_rf
  refine tt_iconst (v := 0) dX8_init_43 rfl ?_
  refine tt_istore_n (ks := [0, 1]) (L' := [(1, .int 0), (0, .ref o0)]) dX8_init_44 (by decide) rfl ?_
  have B101 : ∀ (nn : Nat) (S102 : Hp) (x105 : Int32), (2147483648 - x105.toInt).toNat = nn → GI S102 E → Af E [] S S102 → Rg 0 24 x105 → TT xi M_X8_init 45 [(0, .ref o0), (1, .int x105)] [] S102 kc nc P := by
    intro nn
    induction nn using Nat.strongRecOn with
    | ind nn ihB101 =>
      intro S102 x105 hmB101 hG103 hA104 h106
      subst hmB101
      refine tt_iload_n (j := 1) dX8_init_45 rfl ?_
      refine tt_bipush (v := 24) dX8_init_46 rfl ?_
      refine tt_icmp_ge (tgt := 66) dX8_init_48 rfl (fun q107 => ?_) (fun q107 => ?_)
      · skip
        have h108 : Rg 24 24 x105 := rg_le_r (⟨by decide, by decide⟩ : Rg 24 24 24) h106 q107
        exact tt_vreturn dX8_init_66 rfl (hP _ _ _ _ ⟨hG103, hA104, Or.inl ⟨_, rfl, rfl, trivial, rfl, rfl⟩⟩)
      · skip
        have h109 : Rg 0 23 x105 := rg_lt_l h106 (⟨by decide, by decide⟩ : Rg 24 24 24) (nle_lt q107)
        refine tt_aload_n (j := 0) dX8_init_51 rfl ?_
        obtain ⟨b110, hr111, ho112⟩ := gi_R (k := 514) hG h0 33 24
        refine gt_gR (id := 514) dX8_init_52 fl_8_18 rfl rfl h0 hA104 hr111 ?_
        refine tt_iload_n (j := 1) dX8_init_55 rfl ?_
        refine tt_ldc2 (v := (-1)) dX8_init_56 kl_8_33 ?_
        refine gt_lS dX8_init_59 ho112 hA104 (rg_in h109) hG103 (Or.inl (by decide)) (fun S113 hG114 hA115 e116 f117 er118 => ?_)
        refine tt_iinc (j := 1) (v := (x105 + 1)) (ks := [0, 1]) (L' := [(1, .int (x105 + 1)), (0, .ref o0)]) dX8_init_60 rfl rfl (by decide) rfl ?_
        refine tt_goto (tgt := 45) dX8_init_63 rfl ?_
        exact tt_loc (ks := [1, 0]) rfl (ihB101 _ (rg_up h109) S113 (x105 + 1) rfl hG114 hA115 (rg_w (rg_add (lo := 1) (hi := 24) h109 (⟨by decide, by decide⟩ : Rg 1 1 1))))
  exact tt_loc (ks := [1, 0]) rfl (B101 _ S 0 rfl hG hA (rg_w (⟨by decide, by decide⟩ : Rg 0 0 0)))
set_option maxHeartbeats 4000000 in
theorem ct_X10 {xi : SX} {S : Hp} {E : List Nat} {kc nc : Nat} {P : Po} {o0 : Nat} (hG : GI S E) (h0 : Oa S E 10 0 o0) (hP : ∀ r T x y, PV E [] S kc nc rV ex0 [] r T x y → P r T x y) : TT xi M_X10_init 124 [(0, .ref o0)] [] S kc nc P := by
  have hA : Af E [] S S := af_rf
  refine tt_iconst (v := 0) dX10_init_124 rfl ?_
  refine tt_istore_n (ks := [0, 1]) (L' := [(1, .int 0), (0, .ref o0)]) dX10_init_125 (by decide) rfl ?_
  have B101 : ∀ (nn : Nat) (S102 : Hp) (x105 : Int32), (2147483648 - x105.toInt).toNat = nn → GI S102 E → Af E [] S S102 → Rg 0 24 x105 → TT xi M_X10_init 126 [(0, .ref o0), (1, .int x105)] [] S102 kc nc P := by
    intro nn
    induction nn using Nat.strongRecOn with
    | ind nn ihB101 =>
      intro S102 x105 hmB101 hG103 hA104 h106
      subst hmB101
      refine tt_iload_n (j := 1) dX10_init_126 rfl ?_
      refine tt_bipush (v := 24) dX10_init_127 rfl ?_
      refine tt_icmp_ge (tgt := 149) dX10_init_129 rfl (fun q107 => ?_) (fun q107 => ?_)
      · skip
        have h108 : Rg 24 24 x105 := rg_le_r (⟨by decide, by decide⟩ : Rg 24 24 24) h106 q107
        exact tt_vreturn dX10_init_149 rfl (hP _ _ _ _ ⟨hG103, hA104, Or.inl ⟨_, rfl, rfl, trivial, rfl, rfl⟩⟩)
      · skip
        have h109 : Rg 0 23 x105 := rg_lt_l h106 (⟨by decide, by decide⟩ : Rg 24 24 24) (nle_lt q107)
        refine tt_aload_n (j := 0) dX10_init_132 rfl ?_
        obtain ⟨b110, hr111, ho112⟩ := gi_R (k := 643) hG h0 32 4940
        refine gt_gR (id := 643) dX10_init_133 fl_10_13 rfl rfl h0 hA104 hr111 ?_
        refine tt_sipush (v := 4880) dX10_init_136 rfl ?_
        refine tt_iload_n (j := 1) dX10_init_139 rfl ?_
        refine tt_iadd dX10_init_140 ?_
        refine tt_iconst (v := 2) dX10_init_141 rfl ?_
        refine gt_iS dX10_init_142 ho112 hA104 (Or.inl (by decide)) (rg_in (rg_add (lo := 4880) (hi := 4903) (⟨by decide, by decide⟩ : Rg 4880 4880 4880) h109)) hG103 (by decide) (fun S113 hG114 hA115 e116 f117 er118 => ?_)
        refine tt_iinc (j := 1) (v := (x105 + 1)) (ks := [0, 1]) (L' := [(1, .int (x105 + 1)), (0, .ref o0)]) dX10_init_143 rfl rfl (by decide) rfl ?_
        refine tt_goto (tgt := 126) dX10_init_146 rfl ?_
        exact tt_loc (ks := [1, 0]) rfl (ihB101 _ (rg_up h109) S113 (x105 + 1) rfl hG114 hA115 (rg_w (rg_add (lo := 1) (hi := 24) h109 (⟨by decide, by decide⟩ : Rg 1 1 1))))
  exact tt_loc (ks := [1, 0]) rfl (B101 _ S 0 rfl hG hA (rg_w (⟨by decide, by decide⟩ : Rg 0 0 0)))
set_option maxHeartbeats 4000000 in
theorem cc_7 {xi : SX} {S : Hp} {E : List Nat} {kc nc : Nat} {P : Po} {o0 : Nat}  (hG : GI S (o0 :: E)) (hL : o0 ∈ hp_L S) (hEL : ∀ q ∈ E, q ∈ hp_L S) (hE : o0 ∉ E) (hK : hp_K S o0 = 7) (hZ : Zf S o0 [])  (hkc : 0 ≤ kc) (hnc : 0 ≤ nc) (hP : ∀ T, GI T E → Oa T E 7 0 o0 → Cf o0 S T → P (.inl none) T (kc - 0) (nc - 0)) : TT xi M_X7_init 0 [(0, .ref o0)] [] S kc nc P := by
  have hC : Cf o0 S S := cf_rf
  refine tt_aload_n (j := 0) dX7_init_0 rfl ?_
  refine tt_objInit dX7_init_1 ca_X7_3 ⟨by decide, by decide⟩ ?_
  obtain ⟨gD, oD⟩ := gi_done hG hL hE hK (by decide) [] (by decide) fa_nil [] (by decide) fa_nil
  exact tt_vreturn dX7_init_4 rfl (hP _ gD oD hC )
set_option maxHeartbeats 4000000 in
theorem cc_1 {xi : SX} {S : Hp} {E : List Nat} {kc nc : Nat} {P : Po} {o0 : Nat}  (hG : GI S (o0 :: E)) (hL : o0 ∈ hp_L S) (hEL : ∀ q ∈ E, q ∈ hp_L S) (hE : o0 ∉ E) (hK : hp_K S o0 = 1) (hZ : Zf S o0 [])  (hkc : 1 ≤ kc) (hnc : 200 ≤ nc) (hP : ∀ T, GI T E → Oa T E 1 0 o0 → Cf o0 S T → hp_I T 65 o0 = 0 → P (.inl none) T (kc - 1) (nc - 200)) : TT xi M_X1_init 0 [(0, .ref o0)] [] S kc nc P := by
  have hC : Cf o0 S S := cf_rf
  refine tt_aload_n (j := 0) dX1_init_0 rfl ?_
  refine tt_objInit dX1_init_1 ca_X1_3 ⟨by decide, by decide⟩ ?_
  refine tt_aload_n (j := 0) dX1_init_4 rfl ?_
  refine tt_sipush (v := 200) dX1_init_5 rfl ?_
  refine gn_I (k1 := kc - 1) (n1 := nc - 200) dX1_init_8 ka_int (by decide) (len := 200) rfl (by decide) (by omega) (by omega) hG (e_cons hL hEL) (fun a1 T2 hG3 cn4 oa5 => ?_)
  have hK7 := k_cn hL cn4 hK
  have hZ8 := zf_cn hZ hL cn4
  have hC9 := cf_cn hC cn4
  have hE10 := e_cn hEL cn4
  have hL6 := l_cn hL cn4
  refine tt_putR (id := 64) (x := some a1) dX1_init_10 fl_1_9 rfl rfl ⟨hL6, hK7⟩ rfl rfl (by decide) ?_
  have f11 := fk_mk (k := 64) (o := o0) oa5
  have hG12 := gp_oR (k := 64) (x := some a1) hG3
  have hL13 : o0 ∈ hp_L (sp_R T2 64 o0 (some a1)) := by rw [hq_L_R]; exact hL6
  have hK14 : hp_K (sp_R T2 64 o0 (some a1)) o0 = 1 := by rw [hq_K_R]; exact hK7
  have hZ15 := zf_R (j := 64) (a := o0) (x := some a1) hZ8
  have hC16 := cf_R (k := 64) (x := some a1) hC9
  have hE17 : ∀ q ∈ E, q ∈ hp_L (sp_R T2 64 o0 (some a1)) := by rw [hq_L_R]; exact hE10
  obtain ⟨gD, oD⟩ := gi_done hG12 hL13 hE hK14 (by decide) [(65, 0, 200)] (by decide) (fa_cons (zf_rg hZ15) fa_nil) [(64, 32, 200)] (by decide) (fa_cons ⟨_, f11⟩ fa_nil)
  exact tt_vreturn dX1_init_13 rfl (hP _ gD oD hC16 (hZ15 65 (by decide)))
set_option maxHeartbeats 4000000 in
theorem cc_3 {xi : SX} {S : Hp} {E : List Nat} {kc nc : Nat} {P : Po} {o0 : Nat} {p1 : Nat} (hG : GI S (o0 :: E)) (hL : o0 ∈ hp_L S) (hEL : ∀ q ∈ E, q ∈ hp_L S) (hE : o0 ∉ E) (hK : hp_K S o0 = 3) (hZ : Zf S o0 []) (g1 : Oa S (o0 :: E) 1 0 p1) (hkc : 0 ≤ kc) (hnc : 0 ≤ nc) (hP : ∀ T, GI T E → Oa T E 3 0 o0 → Cf o0 S T → P (.inl none) T (kc - 0) (nc - 0)) : TT xi M_X3_init 0 [(0, .ref o0), (1, .ref p1)] [] S kc nc P := by
  have hC : Cf o0 S S := cf_rf
  refine tt_aload_n (j := 0) dX3_init_0 rfl ?_
  refine tt_objInit dX3_init_1 ca_X3_3 ⟨by decide, by decide⟩ ?_
  refine tt_aload_n (j := 0) dX3_init_4 rfl ?_
  refine tt_aload_n (j := 1) dX3_init_5 rfl ?_
  refine tt_putR (id := 192) (x := some p1) dX3_init_6 fl_3_9 rfl rfl ⟨hL, hK⟩ rfl rfl (by decide) ?_
  have f1 := fk_mk (k := 192) (o := o0) g1
  have g2 := oa_R (k := 192) (o := o0) (x := some p1) g1
  have hG3 := gp_oR (k := 192) (x := some p1) hG
  have hL4 : o0 ∈ hp_L (sp_R S 192 o0 (some p1)) := by rw [hq_L_R]; exact hL
  have hK5 : hp_K (sp_R S 192 o0 (some p1)) o0 = 3 := by rw [hq_K_R]; exact hK
  have hZ6 := zf_R (j := 192) (a := o0) (x := some p1) hZ
  have hC7 := cf_R (k := 192) (x := some p1) hC
  have hE8 : ∀ q ∈ E, q ∈ hp_L (sp_R S 192 o0 (some p1)) := by rw [hq_L_R]; exact hEL
  obtain ⟨gD, oD⟩ := gi_done hG3 hL4 hE hK5 (by decide) [(195, 0, 1)] (by decide) (fa_cons (zf_rg hZ6) fa_nil) [(192, 1, 0)] (by decide) (fa_cons ⟨_, f1⟩ fa_nil)
  exact tt_vreturn dX3_init_9 rfl (hP _ gD oD hC7 )
set_option maxHeartbeats 4000000 in
theorem cc_8 {xi : SX} {S : Hp} {E : List Nat} {kc nc : Nat} {P : Po} {o0 : Nat}  (hG : GI S (o0 :: E)) (hL : o0 ∈ hp_L S) (hEL : ∀ q ∈ E, q ∈ hp_L S) (hE : o0 ∉ E) (hK : hp_K S o0 = 8) (hZ : Zf S o0 [])  (hkc : 3 ≤ kc) (hnc : 72 ≤ nc) (hP : ∀ T, GI T E → Oa T E 8 0 o0 → Cf o0 S T → P (.inl none) T (kc - 3) (nc - 72)) : TT xi M_X8_init 0 [(0, .ref o0)] [] S kc nc P := by
  have hC : Cf o0 S S := cf_rf
  refine tt_aload_n (j := 0) dX8_init_0 rfl ?_
  refine tt_objInit dX8_init_1 ca_X8_3 ⟨by decide, by decide⟩ ?_
  refine tt_aload_n (j := 0) dX8_init_4 rfl ?_
  refine tt_bipush (v := 24) dX8_init_5 rfl ?_
  refine gn_J (k1 := kc - 1) (n1 := nc - 24) dX8_init_7 ka_long (by decide) (len := 24) rfl (by decide) (by omega) (by omega) hG (e_cons hL hEL) (fun a1 T2 hG3 cn4 oa5 => ?_)
  have hK7 := k_cn hL cn4 hK
  have hZ8 := zf_cn hZ hL cn4
  have hC9 := cf_cn hC cn4
  have hE10 := e_cn hEL cn4
  have hL6 := l_cn hL cn4
  refine tt_putR (id := 512) (x := some a1) dX8_init_9 fl_8_9 rfl rfl ⟨hL6, hK7⟩ rfl rfl (by decide) ?_
  have f11 := fk_mk (k := 512) (o := o0) oa5
  have hG12 := gp_oR (k := 512) (x := some a1) hG3
  have hL13 : o0 ∈ hp_L (sp_R T2 512 o0 (some a1)) := by rw [hq_L_R]; exact hL6
  have hK14 : hp_K (sp_R T2 512 o0 (some a1)) o0 = 8 := by rw [hq_K_R]; exact hK7
  have hZ15 := zf_R (j := 512) (a := o0) (x := some a1) hZ8
  have hC16 := cf_R (k := 512) (x := some a1) hC9
  have hE17 : ∀ q ∈ E, q ∈ hp_L (sp_R T2 512 o0 (some a1)) := by rw [hq_L_R]; exact hE10
  refine tt_aload_n (j := 0) dX8_init_12 rfl ?_
  refine tt_bipush (v := 24) dX8_init_13 rfl ?_
  refine gn_J (k1 := kc - 2) (n1 := nc - 48) dX8_init_15 ka_long (by decide) (len := 24) rfl (by decide) (by omega) (by omega) hG12 (e_cons hL13 hE17) (fun a18 T19 hG20 cn21 oa22 => ?_)
  have hK24 := k_cn hL13 cn21 hK14
  have hZ25 := zf_cn hZ15 hL13 cn21
  have hC26 := cf_cn hC16 cn21
  have hE27 := e_cn hE17 cn21
  have f28 := fk_cn f11 hL13 cn21
  have hL23 := l_cn hL13 cn21
  refine tt_putR (id := 513) (x := some a18) dX8_init_17 fl_8_15 rfl rfl ⟨hL23, hK24⟩ rfl rfl (by decide) ?_
  have f29 := fk_R (j := 513) (x := some a18) f28
  have f30 := fk_mk (k := 513) (o := o0) oa22
  have hG31 := gp_oR (k := 513) (x := some a18) hG20
  have hL32 : o0 ∈ hp_L (sp_R T19 513 o0 (some a18)) := by rw [hq_L_R]; exact hL23
  have hK33 : hp_K (sp_R T19 513 o0 (some a18)) o0 = 8 := by rw [hq_K_R]; exact hK24
  have hZ34 := zf_R (j := 513) (a := o0) (x := some a18) hZ25
  have hC35 := cf_R (k := 513) (x := some a18) hC26
  have hE36 : ∀ q ∈ E, q ∈ hp_L (sp_R T19 513 o0 (some a18)) := by rw [hq_L_R]; exact hE27
  refine tt_aload_n (j := 0) dX8_init_20 rfl ?_
  refine tt_bipush (v := 24) dX8_init_21 rfl ?_
  refine gn_J (k1 := kc - 3) (n1 := nc - 72) dX8_init_23 ka_long (by decide) (len := 24) rfl (by decide) (by omega) (by omega) hG31 (e_cons hL32 hE36) (fun a37 T38 hG39 cn40 oa41 => ?_)
  have hK43 := k_cn hL32 cn40 hK33
  have hZ44 := zf_cn hZ34 hL32 cn40
  have hC45 := cf_cn hC35 cn40
  have hE46 := e_cn hE36 cn40
  have f47 := fk_cn f29 hL32 cn40
  have f48 := fk_cn f30 hL32 cn40
  have hL42 := l_cn hL32 cn40
  refine tt_putR (id := 514) (x := some a37) dX8_init_25 fl_8_18 rfl rfl ⟨hL42, hK43⟩ rfl rfl (by decide) ?_
  have f49 := fk_R (j := 514) (x := some a37) f47
  have f50 := fk_R (j := 514) (x := some a37) f48
  have f51 := fk_mk (k := 514) (o := o0) oa41
  have hG52 := gp_oR (k := 514) (x := some a37) hG39
  have hL53 : o0 ∈ hp_L (sp_R T38 514 o0 (some a37)) := by rw [hq_L_R]; exact hL42
  have hK54 : hp_K (sp_R T38 514 o0 (some a37)) o0 = 8 := by rw [hq_K_R]; exact hK43
  have hZ55 := zf_R (j := 514) (a := o0) (x := some a37) hZ44
  have hC56 := cf_R (k := 514) (x := some a37) hC45
  have hE57 : ∀ q ∈ E, q ∈ hp_L (sp_R T38 514 o0 (some a37)) := by rw [hq_L_R]; exact hE46
  refine tt_aload_n (j := 0) dX8_init_28 rfl ?_
  refine tt_iconst (v := 0) dX8_init_29 rfl ?_
  refine tt_putI (id := 515) (x := 0) dX8_init_30 fl_8_21 rfl rfl ⟨hL53, hK54⟩ rfl rfl (by decide) ?_
  have f58 := fk_I (j := 515) (v := 0) f49
  have f59 := fk_I (j := 515) (v := 0) f50
  have f60 := fk_I (j := 515) (v := 0) f51
  have i61 : hp_I (sp_I (sp_R T38 514 o0 (some a37)) 515 o0 0) 515 o0 = 0 := by rw [hq_I_I, up2_self]
  have hG62 := gp_oI (k := 515) (v := 0) hG52
  have hL63 : o0 ∈ hp_L (sp_I (sp_R T38 514 o0 (some a37)) 515 o0 0) := by rw [hq_L_I]; exact hL53
  have hK64 : hp_K (sp_I (sp_R T38 514 o0 (some a37)) 515 o0 0) o0 = 8 := by rw [hq_K_I]; exact hK54
  have hZ65 := zf_I (j := 515) (v := 0) hZ55
  have hC66 := cf_I (k := 515) (v := 0) hC56
  have hE67 : ∀ q ∈ E, q ∈ hp_L (sp_I (sp_R T38 514 o0 (some a37)) 515 o0 0) := by rw [hq_L_I]; exact hE57
  refine tt_aload_n (j := 0) dX8_init_33 rfl ?_
  refine tt_iconst (v := (-1)) dX8_init_34 rfl ?_
  refine tt_putI (id := 516) (x := (-1)) dX8_init_35 fl_8_25 rfl rfl ⟨hL63, hK64⟩ rfl rfl (by decide) ?_
  have f68 := fk_I (j := 516) (v := (-1)) f58
  have f69 := fk_I (j := 516) (v := (-1)) f59
  have f70 := fk_I (j := 516) (v := (-1)) f60
  have i71 : hp_I (sp_I (sp_I (sp_R T38 514 o0 (some a37)) 515 o0 0) 516 o0 (-1)) 516 o0 = (-1) := by rw [hq_I_I, up2_self]
  have hG72 := gp_oI (k := 516) (v := (-1)) hG62
  have hL73 : o0 ∈ hp_L (sp_I (sp_I (sp_R T38 514 o0 (some a37)) 515 o0 0) 516 o0 (-1)) := by rw [hq_L_I]; exact hL63
  have hK74 : hp_K (sp_I (sp_I (sp_R T38 514 o0 (some a37)) 515 o0 0) 516 o0 (-1)) o0 = 8 := by rw [hq_K_I]; exact hK64
  have hZ75 := zf_I (j := 516) (v := (-1)) hZ65
  have hC76 := cf_I (k := 516) (v := (-1)) hC66
  have hE77 : ∀ q ∈ E, q ∈ hp_L (sp_I (sp_I (sp_R T38 514 o0 (some a37)) 515 o0 0) 516 o0 (-1)) := by rw [hq_L_I]; exact hE67
  refine tt_aload_n (j := 0) dX8_init_38 rfl ?_
  refine tt_iconst (v := (-1)) dX8_init_39 rfl ?_
  refine tt_putI (id := 517) (x := (-1)) dX8_init_40 fl_8_28 rfl rfl ⟨hL73, hK74⟩ rfl rfl (by decide) ?_
  have f78 := fk_I (j := 517) (v := (-1)) f68
  have f79 := fk_I (j := 517) (v := (-1)) f69
  have f80 := fk_I (j := 517) (v := (-1)) f70
  have i81 : hp_I (sp_I (sp_I (sp_I (sp_R T38 514 o0 (some a37)) 515 o0 0) 516 o0 (-1)) 517 o0 (-1)) 517 o0 = (-1) := by rw [hq_I_I, up2_self]
  have hG82 := gp_oI (k := 517) (v := (-1)) hG72
  have hL83 : o0 ∈ hp_L (sp_I (sp_I (sp_I (sp_R T38 514 o0 (some a37)) 515 o0 0) 516 o0 (-1)) 517 o0 (-1)) := by rw [hq_L_I]; exact hL73
  have hK84 : hp_K (sp_I (sp_I (sp_I (sp_R T38 514 o0 (some a37)) 515 o0 0) 516 o0 (-1)) 517 o0 (-1)) o0 = 8 := by rw [hq_K_I]; exact hK74
  have hZ85 := zf_I (j := 517) (v := (-1)) hZ75
  have hC86 := cf_I (k := 517) (v := (-1)) hC76
  have hE87 : ∀ q ∈ E, q ∈ hp_L (sp_I (sp_I (sp_I (sp_R T38 514 o0 (some a37)) 515 o0 0) 516 o0 (-1)) 517 o0 (-1)) := by rw [hq_L_I]; exact hE77
  obtain ⟨gD, oD⟩ := gi_done hG82 hL83 hE hK84 (by decide) [] (by decide) fa_nil [(512, 33, 24), (513, 33, 24), (514, 33, 24)] (by decide) (fa_cons ⟨_, f78⟩ (fa_cons ⟨_, f79⟩ (fa_cons ⟨_, f80⟩ fa_nil)))
  refine ct_X8 gD oD (fun r T x y h => ?_)
  obtain ⟨g1, g2, ⟨v, rfl, hv, -, hx9, hy9⟩ | ⟨X, hX, -⟩⟩ := h
  · obtain rfl : v = none := hv
    rw [hx9, hy9]; exact hP T g1 (oa_af oD g2) (cf_af hC86 g2)
  · cases hX
set_option maxHeartbeats 4000000 in
theorem cc_5 {xi : SX} {S : Hp} {E : List Nat} {kc nc : Nat} {P : Po} {o0 : Nat}  (hG : GI S (o0 :: E)) (hL : o0 ∈ hp_L S) (hEL : ∀ q ∈ E, q ∈ hp_L S) (hE : o0 ∉ E) (hK : hp_K S o0 = 5) (hZ : Zf S o0 [])  (hkc : 4 ≤ kc) (hnc : 79 ≤ nc) (hP : ∀ T, GI T E → Oa T E 5 0 o0 → Cf o0 S T → P (.inl none) T (kc - 4) (nc - 79)) : TT xi M_X5_init 0 [(0, .ref o0)] [] S kc nc P := by
  have hC : Cf o0 S S := cf_rf
  refine tt_aload_n (j := 0) dX5_init_0 rfl ?_
  refine tt_objInit dX5_init_1 ca_X5_1 ⟨by decide, by decide⟩ ?_
  refine tt_aload_n (j := 0) dX5_init_4 rfl ?_
  refine tt_newo (k1 := kc - 1) (n1 := nc - 7) dX5_init_5 nl_5_7 (by omega) (by show nc - 7 + 7 ≤ nc - 0; omega) (fun a1 ha2 => ?_)
  refine tt_dup dX5_init_8 rfl ?_
  refine tt_callI (As := []) (Mid := fun r T _ _ => r = .inl none ∧ GI T (o0 :: E) ∧ Oa T (o0 :: E) 8 0 a1 ∧ Cf a1 (nw_o S 8 a1) T ) (k1 := 3) (n1 := 72) (k2 := kc - 4) (n2 := nc - 79) dX5_init_9 ca_X5_9 ⟨by decide, by decide⟩ (Nat.le_of_ble_eq_true rfl) (Nat.le_of_ble_eq_true rfl) (by omega) (by omega) (cc_8 (gi_o hG ha2) in_o (e_cn (e_cons hL hEL) (cn_o ha2)) (fun q => ha2 (e_cons hL hEL _ q)) k_o zf_o  (kc := 3) (nc := 72) (by decide) (by decide) (fun T u1 u2 u3 => ⟨rfl, u1, u2, u3⟩)) (fun v T3 x y hw => ?_) (fun X T hw => by obtain ⟨e, -⟩ := hw; cases e)
  obtain ⟨e, hG4, oa5, cf6⟩ := hw
  cases e
  have cn7 := cn_new ha2 cf6
  show TT xi M_X5_init 12 [(0, .ref o0)] [.ref a1, .ref o0] T3 (kc - 4) (nc - 79) P
  have hK10 := k_cn hL cn7 hK
  have hZ11 := zf_cn hZ hL cn7
  have hC12 := cf_cn hC cn7
  have hE13 := e_cn hEL cn7
  have hL9 := l_cn hL cn7
  refine tt_putR (id := 320) (x := some a1) dX5_init_12 fl_5_10 rfl rfl ⟨hL9, hK10⟩ rfl rfl (by decide) ?_
  have f14 := fk_mk (k := 320) (o := o0) oa5
  have hG15 := gp_oR (k := 320) (x := some a1) hG4
  have hL16 : o0 ∈ hp_L (sp_R T3 320 o0 (some a1)) := by rw [hq_L_R]; exact hL9
  have hK17 : hp_K (sp_R T3 320 o0 (some a1)) o0 = 5 := by rw [hq_K_R]; exact hK10
  have hZ18 := zf_R (j := 320) (a := o0) (x := some a1) hZ11
  have hC19 := cf_R (k := 320) (x := some a1) hC12
  have hE20 : ∀ q ∈ E, q ∈ hp_L (sp_R T3 320 o0 (some a1)) := by rw [hq_L_R]; exact hE13
  obtain ⟨gD, oD⟩ := gi_done hG15 hL16 hE hK17 (by decide) [(322, 0, 1)] (by decide) (fa_cons (zf_rg hZ18) fa_nil) [(320, 8, 0)] (by decide) (fa_cons ⟨_, f14⟩ fa_nil)
  exact tt_vreturn dX5_init_15 rfl (hP _ gD oD hC19 )
set_option maxHeartbeats 4000000 in
theorem cc_0 {xi : SX} {S : Hp} {E : List Nat} {kc nc : Nat} {P : Po} {o0 : Nat}  (hG : GI S (o0 :: E)) (hL : o0 ∈ hp_L S) (hEL : ∀ q ∈ E, q ∈ hp_L S) (hE : o0 ∉ E) (hK : hp_K S o0 = 0) (hZ : Zf S o0 [])  (hkc : 2 ≤ kc) (hnc : 6 ≤ nc) (hP : ∀ T, GI T E → Oa T E 0 0 o0 → Cf o0 S T → P (.inl none) T (kc - 2) (nc - 6)) : TT xi M_X0_init 0 [(0, .ref o0)] [] S kc nc P := by
  have hC : Cf o0 S S := cf_rf
  refine tt_aload_n (j := 0) dX0_init_0 rfl ?_
  refine tt_objInit dX0_init_1 ca_X0_5 ⟨by decide, by decide⟩ ?_
  refine tt_aload_n (j := 0) dX0_init_4 rfl ?_
  refine tt_newo (k1 := kc - 1) (n1 := nc - 3) dX0_init_5 nl_0_11 (by omega) (by show nc - 3 + 3 ≤ nc - 0; omega) (fun a1 ha2 => ?_)
  refine tt_dup dX0_init_8 rfl ?_
  refine tt_callIN (As := []) (Mid := fun r T _ _ => r = .inl none ∧ GI T (o0 :: E) ∧ Oa T (o0 :: E) 7 0 a1 ∧ Cf a1 (nw_o S 7 a1) T ) (k1 := 0) (n1 := 0) (k2 := kc - 1) (n2 := nc - 3) dX0_init_9 ca_X0_13 ⟨by decide, by decide⟩ (Nat.le_of_ble_eq_true rfl) (Nat.le_of_ble_eq_true rfl) (by omega) (by omega) (cc_7 (gi_o hG ha2) in_o (e_cn (e_cons hL hEL) (cn_o ha2)) (fun q => ha2 (e_cons hL hEL _ q)) k_o zf_o  (kc := 0) (nc := 0) (by decide) (by decide) (fun T u1 u2 u3 => ⟨rfl, u1, u2, u3⟩)) (fun v T3 x y hw => ?_) (fun X T hw => by obtain ⟨e, -⟩ := hw; cases e)
  obtain ⟨e, hG4, oa5, cf6⟩ := hw
  cases e
  have cn7 := cn_new ha2 cf6
  show TT xi M_X0_init 12 [(0, .ref o0)] [.ref a1, .ref o0] T3 (kc - 1) (nc - 3) P
  have hK10 := k_cn hL cn7 hK
  have hZ11 := zf_cn hZ hL cn7
  have hC12 := cf_cn hC cn7
  have hE13 := e_cn hEL cn7
  have hL9 := l_cn hL cn7
  refine tt_putR (id := 0) (x := some a1) dX0_init_12 fl_0_14 rfl rfl ⟨hL9, hK10⟩ rfl rfl (by decide) ?_
  have f14 := fk_mk (k := 0) (o := o0) oa5
  have hG15 := gp_oR (k := 0) (x := some a1) hG4
  have hL16 : o0 ∈ hp_L (sp_R T3 0 o0 (some a1)) := by rw [hq_L_R]; exact hL9
  have hK17 : hp_K (sp_R T3 0 o0 (some a1)) o0 = 0 := by rw [hq_K_R]; exact hK10
  have hZ18 := zf_R (j := 0) (a := o0) (x := some a1) hZ11
  have hC19 := cf_R (k := 0) (x := some a1) hC12
  have hE20 : ∀ q ∈ E, q ∈ hp_L (sp_R T3 0 o0 (some a1)) := by rw [hq_L_R]; exact hE13
  refine tt_aload_n (j := 0) dX0_init_15 rfl ?_
  refine tt_newo (k1 := kc - 2) (n1 := nc - 6) dX0_init_16 nl_0_11 (by omega) (by show nc - 6 + 3 ≤ nc - 3; omega) (fun a21 ha22 => ?_)
  refine tt_dup dX0_init_19 rfl ?_
  refine tt_callIN (As := []) (Mid := fun r T _ _ => r = .inl none ∧ GI T (o0 :: E) ∧ Oa T (o0 :: E) 7 0 a21 ∧ Cf a21 (nw_o (sp_R T3 0 o0 (some a1)) 7 a21) T ) (k1 := 0) (n1 := 0) (k2 := kc - 2) (n2 := nc - 6) dX0_init_20 ca_X0_13 ⟨by decide, by decide⟩ (Nat.le_of_ble_eq_true rfl) (Nat.le_of_ble_eq_true rfl) (by omega) (by omega) (cc_7 (gi_o hG15 ha22) in_o (e_cn (e_cons hL16 hE20) (cn_o ha22)) (fun q => ha22 (e_cons hL16 hE20 _ q)) k_o zf_o  (kc := 0) (nc := 0) (by decide) (by decide) (fun T u1 u2 u3 => ⟨rfl, u1, u2, u3⟩)) (fun v T23 x y hw => ?_) (fun X T hw => by obtain ⟨e, -⟩ := hw; cases e)
  obtain ⟨e, hG24, oa25, cf26⟩ := hw
  cases e
  have cn27 := cn_new ha22 cf26
  show TT xi M_X0_init 23 [(0, .ref o0)] [.ref a21, .ref o0] T23 (kc - 2) (nc - 6) P
  have hK30 := k_cn hL16 cn27 hK17
  have hZ31 := zf_cn hZ18 hL16 cn27
  have hC32 := cf_cn hC19 cn27
  have hE33 := e_cn hE20 cn27
  have f34 := fk_cn f14 hL16 cn27
  have hL29 := l_cn hL16 cn27
  refine tt_putR (id := 1) (x := some a21) dX0_init_23 fl_0_18 rfl rfl ⟨hL29, hK30⟩ rfl rfl (by decide) ?_
  have f35 := fk_R (j := 1) (x := some a21) f34
  have f36 := fk_mk (k := 1) (o := o0) oa25
  have hG37 := gp_oR (k := 1) (x := some a21) hG24
  have hL38 : o0 ∈ hp_L (sp_R T23 1 o0 (some a21)) := by rw [hq_L_R]; exact hL29
  have hK39 : hp_K (sp_R T23 1 o0 (some a21)) o0 = 0 := by rw [hq_K_R]; exact hK30
  have hZ40 := zf_R (j := 1) (a := o0) (x := some a21) hZ31
  have hC41 := cf_R (k := 1) (x := some a21) hC32
  have hE42 : ∀ q ∈ E, q ∈ hp_L (sp_R T23 1 o0 (some a21)) := by rw [hq_L_R]; exact hE33
  obtain ⟨gD, oD⟩ := gi_done hG37 hL38 hE hK39 (by decide) [] (by decide) fa_nil [(0, 7, 0), (1, 7, 0)] (by decide) (fa_cons ⟨_, f35⟩ (fa_cons ⟨_, f36⟩ fa_nil))
  exact tt_vreturn dX0_init_26 rfl (hP _ gD oD hC41 )
set_option maxHeartbeats 4000000 in
theorem cc_2 {xi : SX} {S : Hp} {E : List Nat} {kc nc : Nat} {P : Po} {o0 : Nat}  (hG : GI S (o0 :: E)) (hL : o0 ∈ hp_L S) (hEL : ∀ q ∈ E, q ∈ hp_L S) (hE : o0 ∉ E) (hK : hp_K S o0 = 2) (hZ : Zf S o0 [])  (hkc : 3 ≤ kc) (hnc : 9 ≤ nc) (hP : ∀ T, GI T E → Oa T E 2 0 o0 → Cf o0 S T → P (.inl none) T (kc - 3) (nc - 9)) : TT xi M_X2_init 0 [(0, .ref o0)] [] S kc nc P := by
  have hC : Cf o0 S S := cf_rf
  refine tt_aload_n (j := 0) dX2_init_0 rfl ?_
  refine tt_objInit dX2_init_1 ca_X2_3 ⟨by decide, by decide⟩ ?_
  refine tt_aload_n (j := 0) dX2_init_4 rfl ?_
  refine tt_newo (k1 := kc - 1) (n1 := nc - 3) dX2_init_5 nl_2_9 (by omega) (by show nc - 3 + 3 ≤ nc - 0; omega) (fun a1 ha2 => ?_)
  refine tt_dup dX2_init_8 rfl ?_
  refine tt_callIN (As := []) (Mid := fun r T _ _ => r = .inl none ∧ GI T (o0 :: E) ∧ Oa T (o0 :: E) 7 0 a1 ∧ Cf a1 (nw_o S 7 a1) T ) (k1 := 0) (n1 := 0) (k2 := kc - 1) (n2 := nc - 3) dX2_init_9 ca_X2_11 ⟨by decide, by decide⟩ (Nat.le_of_ble_eq_true rfl) (Nat.le_of_ble_eq_true rfl) (by omega) (by omega) (cc_7 (gi_o hG ha2) in_o (e_cn (e_cons hL hEL) (cn_o ha2)) (fun q => ha2 (e_cons hL hEL _ q)) k_o zf_o  (kc := 0) (nc := 0) (by decide) (by decide) (fun T u1 u2 u3 => ⟨rfl, u1, u2, u3⟩)) (fun v T3 x y hw => ?_) (fun X T hw => by obtain ⟨e, -⟩ := hw; cases e)
  obtain ⟨e, hG4, oa5, cf6⟩ := hw
  cases e
  have cn7 := cn_new ha2 cf6
  show TT xi M_X2_init 12 [(0, .ref o0)] [.ref a1, .ref o0] T3 (kc - 1) (nc - 3) P
  have hK10 := k_cn hL cn7 hK
  have hZ11 := zf_cn hZ hL cn7
  have hC12 := cf_cn hC cn7
  have hE13 := e_cn hEL cn7
  have hL9 := l_cn hL cn7
  refine tt_putR (id := 128) (x := some a1) dX2_init_12 fl_2_12 rfl rfl ⟨hL9, hK10⟩ rfl rfl (by decide) ?_
  have f14 := fk_mk (k := 128) (o := o0) oa5
  have hG15 := gp_oR (k := 128) (x := some a1) hG4
  have hL16 : o0 ∈ hp_L (sp_R T3 128 o0 (some a1)) := by rw [hq_L_R]; exact hL9
  have hK17 : hp_K (sp_R T3 128 o0 (some a1)) o0 = 2 := by rw [hq_K_R]; exact hK10
  have hZ18 := zf_R (j := 128) (a := o0) (x := some a1) hZ11
  have hC19 := cf_R (k := 128) (x := some a1) hC12
  have hE20 : ∀ q ∈ E, q ∈ hp_L (sp_R T3 128 o0 (some a1)) := by rw [hq_L_R]; exact hE13
  refine tt_aload_n (j := 0) dX2_init_15 rfl ?_
  refine tt_newo (k1 := kc - 2) (n1 := nc - 6) dX2_init_16 nl_2_9 (by omega) (by show nc - 6 + 3 ≤ nc - 3; omega) (fun a21 ha22 => ?_)
  refine tt_dup dX2_init_19 rfl ?_
  refine tt_callIN (As := []) (Mid := fun r T _ _ => r = .inl none ∧ GI T (o0 :: E) ∧ Oa T (o0 :: E) 7 0 a21 ∧ Cf a21 (nw_o (sp_R T3 128 o0 (some a1)) 7 a21) T ) (k1 := 0) (n1 := 0) (k2 := kc - 2) (n2 := nc - 6) dX2_init_20 ca_X2_11 ⟨by decide, by decide⟩ (Nat.le_of_ble_eq_true rfl) (Nat.le_of_ble_eq_true rfl) (by omega) (by omega) (cc_7 (gi_o hG15 ha22) in_o (e_cn (e_cons hL16 hE20) (cn_o ha22)) (fun q => ha22 (e_cons hL16 hE20 _ q)) k_o zf_o  (kc := 0) (nc := 0) (by decide) (by decide) (fun T u1 u2 u3 => ⟨rfl, u1, u2, u3⟩)) (fun v T23 x y hw => ?_) (fun X T hw => by obtain ⟨e, -⟩ := hw; cases e)
  obtain ⟨e, hG24, oa25, cf26⟩ := hw
  cases e
  have cn27 := cn_new ha22 cf26
  show TT xi M_X2_init 23 [(0, .ref o0)] [.ref a21, .ref o0] T23 (kc - 2) (nc - 6) P
  have hK30 := k_cn hL16 cn27 hK17
  have hZ31 := zf_cn hZ18 hL16 cn27
  have hC32 := cf_cn hC19 cn27
  have hE33 := e_cn hE20 cn27
  have f34 := fk_cn f14 hL16 cn27
  have hL29 := l_cn hL16 cn27
  refine tt_putR (id := 129) (x := some a21) dX2_init_23 fl_2_18 rfl rfl ⟨hL29, hK30⟩ rfl rfl (by decide) ?_
  have f35 := fk_R (j := 129) (x := some a21) f34
  have f36 := fk_mk (k := 129) (o := o0) oa25
  have hG37 := gp_oR (k := 129) (x := some a21) hG24
  have hL38 : o0 ∈ hp_L (sp_R T23 129 o0 (some a21)) := by rw [hq_L_R]; exact hL29
  have hK39 : hp_K (sp_R T23 129 o0 (some a21)) o0 = 2 := by rw [hq_K_R]; exact hK30
  have hZ40 := zf_R (j := 129) (a := o0) (x := some a21) hZ31
  have hC41 := cf_R (k := 129) (x := some a21) hC32
  have hE42 : ∀ q ∈ E, q ∈ hp_L (sp_R T23 129 o0 (some a21)) := by rw [hq_L_R]; exact hE33
  refine tt_aload_n (j := 0) dX2_init_26 rfl ?_
  refine tt_newo (k1 := kc - 3) (n1 := nc - 9) dX2_init_27 nl_2_9 (by omega) (by show nc - 9 + 3 ≤ nc - 6; omega) (fun a43 ha44 => ?_)
  refine tt_dup dX2_init_30 rfl ?_
  refine tt_callIN (As := []) (Mid := fun r T _ _ => r = .inl none ∧ GI T (o0 :: E) ∧ Oa T (o0 :: E) 7 0 a43 ∧ Cf a43 (nw_o (sp_R T23 129 o0 (some a21)) 7 a43) T ) (k1 := 0) (n1 := 0) (k2 := kc - 3) (n2 := nc - 9) dX2_init_31 ca_X2_11 ⟨by decide, by decide⟩ (Nat.le_of_ble_eq_true rfl) (Nat.le_of_ble_eq_true rfl) (by omega) (by omega) (cc_7 (gi_o hG37 ha44) in_o (e_cn (e_cons hL38 hE42) (cn_o ha44)) (fun q => ha44 (e_cons hL38 hE42 _ q)) k_o zf_o  (kc := 0) (nc := 0) (by decide) (by decide) (fun T u1 u2 u3 => ⟨rfl, u1, u2, u3⟩)) (fun v T45 x y hw => ?_) (fun X T hw => by obtain ⟨e, -⟩ := hw; cases e)
  obtain ⟨e, hG46, oa47, cf48⟩ := hw
  cases e
  have cn49 := cn_new ha44 cf48
  show TT xi M_X2_init 34 [(0, .ref o0)] [.ref a43, .ref o0] T45 (kc - 3) (nc - 9) P
  have hK52 := k_cn hL38 cn49 hK39
  have hZ53 := zf_cn hZ40 hL38 cn49
  have hC54 := cf_cn hC41 cn49
  have hE55 := e_cn hE42 cn49
  have f56 := fk_cn f35 hL38 cn49
  have f57 := fk_cn f36 hL38 cn49
  have hL51 := l_cn hL38 cn49
  refine tt_putR (id := 130) (x := some a43) dX2_init_34 fl_2_21 rfl rfl ⟨hL51, hK52⟩ rfl rfl (by decide) ?_
  have f58 := fk_R (j := 130) (x := some a43) f56
  have f59 := fk_R (j := 130) (x := some a43) f57
  have f60 := fk_mk (k := 130) (o := o0) oa47
  have hG61 := gp_oR (k := 130) (x := some a43) hG46
  have hL62 : o0 ∈ hp_L (sp_R T45 130 o0 (some a43)) := by rw [hq_L_R]; exact hL51
  have hK63 : hp_K (sp_R T45 130 o0 (some a43)) o0 = 2 := by rw [hq_K_R]; exact hK52
  have hZ64 := zf_R (j := 130) (a := o0) (x := some a43) hZ53
  have hC65 := cf_R (k := 130) (x := some a43) hC54
  have hE66 : ∀ q ∈ E, q ∈ hp_L (sp_R T45 130 o0 (some a43)) := by rw [hq_L_R]; exact hE55
  obtain ⟨gD, oD⟩ := gi_done hG61 hL62 hE hK63 (by decide) [] (by decide) fa_nil [(128, 7, 0), (129, 7, 0), (130, 7, 0)] (by decide) (fa_cons ⟨_, f58⟩ (fa_cons ⟨_, f59⟩ (fa_cons ⟨_, f60⟩ fa_nil)))
  exact tt_vreturn dX2_init_37 rfl (hP _ gD oD hC65 )
set_option maxHeartbeats 4000000 in
theorem cc_4 {xi : SX} {S : Hp} {E : List Nat} {kc nc : Nat} {P : Po} {o0 : Nat} {p1 : Nat} {p2 : Nat} (hG : GI S (o0 :: E)) (hL : o0 ∈ hp_L S) (hEL : ∀ q ∈ E, q ∈ hp_L S) (hE : o0 ∉ E) (hK : hp_K S o0 = 4) (hZ : Zf S o0 []) (g1 : Oa S (o0 :: E) 1 0 p1) (g2 : Oa S (o0 :: E) 3 0 p2) (hkc : 15 ≤ kc) (hnc : 308 ≤ nc) (hP : ∀ T, GI T E → Oa T E 4 0 o0 → Cf o0 S T → P (.inl none) T (kc - 15) (nc - 308)) : TT xi M_X4_init 0 [(0, .ref o0), (1, .ref p1), (2, .ref p2)] [] S kc nc P := by
  have hC : Cf o0 S S := cf_rf
  refine tt_aload_n (j := 0) dX4_init_0 rfl ?_
  refine tt_objInit dX4_init_1 ca_X4_3 ⟨by decide, by decide⟩ ?_
  refine tt_aload_n (j := 0) dX4_init_4 rfl ?_
  refine tt_sipush (v := 200) dX4_init_5 rfl ?_
  refine gn_P (k1 := kc - 1) (n1 := nc - 200) dX4_init_8 wd_157 (by decide) (len := 200) rfl (by decide) (by omega) (by omega) hG (e_cons hL hEL) (fun a1 T2 hG3 cn4 oa5 => ?_)
  have hK7 := k_cn hL cn4 hK
  have hZ8 := zf_cn hZ hL cn4
  have hC9 := cf_cn hC cn4
  have hE10 := e_cn hEL cn4
  have g11 := oa_cn g1 cn4
  have g12 := oa_cn g2 cn4
  have hL6 := l_cn hL cn4
  refine tt_putR (id := 258) (x := some a1) dX4_init_11 fl_4_11 rfl rfl ⟨hL6, hK7⟩ rfl rfl (by decide) ?_
  have f13 := fk_mk (k := 258) (o := o0) oa5
  have g14 := oa_R (k := 258) (o := o0) (x := some a1) g11
  have g15 := oa_R (k := 258) (o := o0) (x := some a1) g12
  have hG16 := gp_oR (k := 258) (x := some a1) hG3
  have hL17 : o0 ∈ hp_L (sp_R T2 258 o0 (some a1)) := by rw [hq_L_R]; exact hL6
  have hK18 : hp_K (sp_R T2 258 o0 (some a1)) o0 = 4 := by rw [hq_K_R]; exact hK7
  have hZ19 := zf_R (j := 258) (a := o0) (x := some a1) hZ8
  have hC20 := cf_R (k := 258) (x := some a1) hC9
  have hE21 : ∀ q ∈ E, q ∈ hp_L (sp_R T2 258 o0 (some a1)) := by rw [hq_L_R]; exact hE10
  refine tt_aload_n (j := 0) dX4_init_14 rfl ?_
  refine tt_newo (k1 := kc - 2) (n1 := nc - 207) dX4_init_15 nl_4_17 (by omega) (by show nc - 207 + 7 ≤ nc - 200; omega) (fun a22 ha23 => ?_)
  refine tt_dup dX4_init_18 rfl ?_
  refine tt_callI (As := []) (Mid := fun r T _ _ => r = .inl none ∧ GI T (o0 :: E) ∧ Oa T (o0 :: E) 8 0 a22 ∧ Cf a22 (nw_o (sp_R T2 258 o0 (some a1)) 8 a22) T ) (k1 := 3) (n1 := 72) (k2 := kc - 5) (n2 := nc - 279) dX4_init_19 ca_X4_19 ⟨by decide, by decide⟩ (Nat.le_of_ble_eq_true rfl) (Nat.le_of_ble_eq_true rfl) (by omega) (by omega) (cc_8 (gi_o hG16 ha23) in_o (e_cn (e_cons hL17 hE21) (cn_o ha23)) (fun q => ha23 (e_cons hL17 hE21 _ q)) k_o zf_o  (kc := 3) (nc := 72) (by decide) (by decide) (fun T u1 u2 u3 => ⟨rfl, u1, u2, u3⟩)) (fun v T24 x y hw => ?_) (fun X T hw => by obtain ⟨e, -⟩ := hw; cases e)
  obtain ⟨e, hG25, oa26, cf27⟩ := hw
  cases e
  have cn28 := cn_new ha23 cf27
  show TT xi M_X4_init 22 [(0, .ref o0), (1, .ref p1), (2, .ref p2)] [.ref a22, .ref o0] T24 (kc - 5) (nc - 279) P
  have hK31 := k_cn hL17 cn28 hK18
  have hZ32 := zf_cn hZ19 hL17 cn28
  have hC33 := cf_cn hC20 cn28
  have hE34 := e_cn hE21 cn28
  have f35 := fk_cn f13 hL17 cn28
  have g36 := oa_cn g14 cn28
  have g37 := oa_cn g15 cn28
  have hL30 := l_cn hL17 cn28
  refine tt_putR (id := 259) (x := some a22) dX4_init_22 fl_4_20 rfl rfl ⟨hL30, hK31⟩ rfl rfl (by decide) ?_
  have f38 := fk_R (j := 259) (x := some a22) f35
  have f39 := fk_mk (k := 259) (o := o0) oa26
  have g40 := oa_R (k := 259) (o := o0) (x := some a22) g36
  have g41 := oa_R (k := 259) (o := o0) (x := some a22) g37
  have hG42 := gp_oR (k := 259) (x := some a22) hG25
  have hL43 : o0 ∈ hp_L (sp_R T24 259 o0 (some a22)) := by rw [hq_L_R]; exact hL30
  have hK44 : hp_K (sp_R T24 259 o0 (some a22)) o0 = 4 := by rw [hq_K_R]; exact hK31
  have hZ45 := zf_R (j := 259) (a := o0) (x := some a22) hZ32
  have hC46 := cf_R (k := 259) (x := some a22) hC33
  have hE47 : ∀ q ∈ E, q ∈ hp_L (sp_R T24 259 o0 (some a22)) := by rw [hq_L_R]; exact hE34
  refine tt_aload_n (j := 0) dX4_init_25 rfl ?_
  refine tt_newo (k1 := kc - 6) (n1 := nc - 282) dX4_init_26 nl_4_24 (by omega) (by show nc - 282 + 3 ≤ nc - 279; omega) (fun a48 ha49 => ?_)
  refine tt_dup dX4_init_29 rfl ?_
  refine tt_callIN (As := []) (Mid := fun r T _ _ => r = .inl none ∧ GI T (o0 :: E) ∧ Oa T (o0 :: E) 2 0 a48 ∧ Cf a48 (nw_o (sp_R T24 259 o0 (some a22)) 2 a48) T ) (k1 := 3) (n1 := 9) (k2 := kc - 9) (n2 := nc - 291) dX4_init_30 ca_X4_26 ⟨by decide, by decide⟩ (Nat.le_of_ble_eq_true rfl) (Nat.le_of_ble_eq_true rfl) (by omega) (by omega) (cc_2 (gi_o hG42 ha49) in_o (e_cn (e_cons hL43 hE47) (cn_o ha49)) (fun q => ha49 (e_cons hL43 hE47 _ q)) k_o zf_o  (kc := 3) (nc := 9) (by decide) (by decide) (fun T u1 u2 u3 => ⟨rfl, u1, u2, u3⟩)) (fun v T50 x y hw => ?_) (fun X T hw => by obtain ⟨e, -⟩ := hw; cases e)
  obtain ⟨e, hG51, oa52, cf53⟩ := hw
  cases e
  have cn54 := cn_new ha49 cf53
  show TT xi M_X4_init 33 [(0, .ref o0), (1, .ref p1), (2, .ref p2)] [.ref a48, .ref o0] T50 (kc - 9) (nc - 291) P
  have hK57 := k_cn hL43 cn54 hK44
  have hZ58 := zf_cn hZ45 hL43 cn54
  have hC59 := cf_cn hC46 cn54
  have hE60 := e_cn hE47 cn54
  have f61 := fk_cn f38 hL43 cn54
  have f62 := fk_cn f39 hL43 cn54
  have g63 := oa_cn g40 cn54
  have g64 := oa_cn g41 cn54
  have hL56 := l_cn hL43 cn54
  refine tt_putR (id := 260) (x := some a48) dX4_init_33 fl_4_27 rfl rfl ⟨hL56, hK57⟩ rfl rfl (by decide) ?_
  have f65 := fk_R (j := 260) (x := some a48) f61
  have f66 := fk_R (j := 260) (x := some a48) f62
  have f67 := fk_mk (k := 260) (o := o0) oa52
  have g68 := oa_R (k := 260) (o := o0) (x := some a48) g63
  have g69 := oa_R (k := 260) (o := o0) (x := some a48) g64
  have hG70 := gp_oR (k := 260) (x := some a48) hG51
  have hL71 : o0 ∈ hp_L (sp_R T50 260 o0 (some a48)) := by rw [hq_L_R]; exact hL56
  have hK72 : hp_K (sp_R T50 260 o0 (some a48)) o0 = 4 := by rw [hq_K_R]; exact hK57
  have hZ73 := zf_R (j := 260) (a := o0) (x := some a48) hZ58
  have hC74 := cf_R (k := 260) (x := some a48) hC59
  have hE75 : ∀ q ∈ E, q ∈ hp_L (sp_R T50 260 o0 (some a48)) := by rw [hq_L_R]; exact hE60
  refine tt_aload_n (j := 0) dX4_init_36 rfl ?_
  refine tt_newo (k1 := kc - 10) (n1 := nc - 293) dX4_init_37 nl_4_31 (by omega) (by show nc - 293 + 2 ≤ nc - 291; omega) (fun a76 ha77 => ?_)
  refine tt_dup dX4_init_40 rfl ?_
  refine tt_callIN (As := []) (Mid := fun r T _ _ => r = .inl none ∧ GI T (o0 :: E) ∧ Oa T (o0 :: E) 0 0 a76 ∧ Cf a76 (nw_o (sp_R T50 260 o0 (some a48)) 0 a76) T ) (k1 := 2) (n1 := 6) (k2 := kc - 12) (n2 := nc - 299) dX4_init_41 ca_X4_33 ⟨by decide, by decide⟩ (Nat.le_of_ble_eq_true rfl) (Nat.le_of_ble_eq_true rfl) (by omega) (by omega) (cc_0 (gi_o hG70 ha77) in_o (e_cn (e_cons hL71 hE75) (cn_o ha77)) (fun q => ha77 (e_cons hL71 hE75 _ q)) k_o zf_o  (kc := 2) (nc := 6) (by decide) (by decide) (fun T u1 u2 u3 => ⟨rfl, u1, u2, u3⟩)) (fun v T78 x y hw => ?_) (fun X T hw => by obtain ⟨e, -⟩ := hw; cases e)
  obtain ⟨e, hG79, oa80, cf81⟩ := hw
  cases e
  have cn82 := cn_new ha77 cf81
  show TT xi M_X4_init 44 [(0, .ref o0), (1, .ref p1), (2, .ref p2)] [.ref a76, .ref o0] T78 (kc - 12) (nc - 299) P
  have hK85 := k_cn hL71 cn82 hK72
  have hZ86 := zf_cn hZ73 hL71 cn82
  have hC87 := cf_cn hC74 cn82
  have hE88 := e_cn hE75 cn82
  have f89 := fk_cn f65 hL71 cn82
  have f90 := fk_cn f66 hL71 cn82
  have f91 := fk_cn f67 hL71 cn82
  have g92 := oa_cn g68 cn82
  have g93 := oa_cn g69 cn82
  have hL84 := l_cn hL71 cn82
  refine tt_putR (id := 261) (x := some a76) dX4_init_44 fl_4_34 rfl rfl ⟨hL84, hK85⟩ rfl rfl (by decide) ?_
  have f94 := fk_R (j := 261) (x := some a76) f89
  have f95 := fk_R (j := 261) (x := some a76) f90
  have f96 := fk_R (j := 261) (x := some a76) f91
  have f97 := fk_mk (k := 261) (o := o0) oa80
  have g98 := oa_R (k := 261) (o := o0) (x := some a76) g92
  have g99 := oa_R (k := 261) (o := o0) (x := some a76) g93
  have hG100 := gp_oR (k := 261) (x := some a76) hG79
  have hL101 : o0 ∈ hp_L (sp_R T78 261 o0 (some a76)) := by rw [hq_L_R]; exact hL84
  have hK102 : hp_K (sp_R T78 261 o0 (some a76)) o0 = 4 := by rw [hq_K_R]; exact hK85
  have hZ103 := zf_R (j := 261) (a := o0) (x := some a76) hZ86
  have hC104 := cf_R (k := 261) (x := some a76) hC87
  have hE105 : ∀ q ∈ E, q ∈ hp_L (sp_R T78 261 o0 (some a76)) := by rw [hq_L_R]; exact hE88
  refine tt_aload_n (j := 0) dX4_init_47 rfl ?_
  refine tt_newo (k1 := kc - 13) (n1 := nc - 302) dX4_init_48 nl_4_38 (by omega) (by show nc - 302 + 3 ≤ nc - 299; omega) (fun a106 ha107 => ?_)
  refine tt_dup dX4_init_51 rfl ?_
  refine tt_callIN (As := []) (Mid := fun r T _ _ => r = .inl none ∧ GI T (o0 :: E) ∧ Oa T (o0 :: E) 7 0 a106 ∧ Cf a106 (nw_o (sp_R T78 261 o0 (some a76)) 7 a106) T ) (k1 := 0) (n1 := 0) (k2 := kc - 13) (n2 := nc - 302) dX4_init_52 ca_X4_40 ⟨by decide, by decide⟩ (Nat.le_of_ble_eq_true rfl) (Nat.le_of_ble_eq_true rfl) (by omega) (by omega) (cc_7 (gi_o hG100 ha107) in_o (e_cn (e_cons hL101 hE105) (cn_o ha107)) (fun q => ha107 (e_cons hL101 hE105 _ q)) k_o zf_o  (kc := 0) (nc := 0) (by decide) (by decide) (fun T u1 u2 u3 => ⟨rfl, u1, u2, u3⟩)) (fun v T108 x y hw => ?_) (fun X T hw => by obtain ⟨e, -⟩ := hw; cases e)
  obtain ⟨e, hG109, oa110, cf111⟩ := hw
  cases e
  have cn112 := cn_new ha107 cf111
  show TT xi M_X4_init 55 [(0, .ref o0), (1, .ref p1), (2, .ref p2)] [.ref a106, .ref o0] T108 (kc - 13) (nc - 302) P
  have hK115 := k_cn hL101 cn112 hK102
  have hZ116 := zf_cn hZ103 hL101 cn112
  have hC117 := cf_cn hC104 cn112
  have hE118 := e_cn hE105 cn112
  have f119 := fk_cn f94 hL101 cn112
  have f120 := fk_cn f95 hL101 cn112
  have f121 := fk_cn f96 hL101 cn112
  have f122 := fk_cn f97 hL101 cn112
  have g123 := oa_cn g98 cn112
  have g124 := oa_cn g99 cn112
  have hL114 := l_cn hL101 cn112
  refine tt_putR (id := 262) (x := some a106) dX4_init_55 fl_4_41 rfl rfl ⟨hL114, hK115⟩ rfl rfl (by decide) ?_
  have f125 := fk_R (j := 262) (x := some a106) f119
  have f126 := fk_R (j := 262) (x := some a106) f120
  have f127 := fk_R (j := 262) (x := some a106) f121
  have f128 := fk_R (j := 262) (x := some a106) f122
  have f129 := fk_mk (k := 262) (o := o0) oa110
  have g130 := oa_R (k := 262) (o := o0) (x := some a106) g123
  have g131 := oa_R (k := 262) (o := o0) (x := some a106) g124
  have hG132 := gp_oR (k := 262) (x := some a106) hG109
  have hL133 : o0 ∈ hp_L (sp_R T108 262 o0 (some a106)) := by rw [hq_L_R]; exact hL114
  have hK134 : hp_K (sp_R T108 262 o0 (some a106)) o0 = 4 := by rw [hq_K_R]; exact hK115
  have hZ135 := zf_R (j := 262) (a := o0) (x := some a106) hZ116
  have hC136 := cf_R (k := 262) (x := some a106) hC117
  have hE137 : ∀ q ∈ E, q ∈ hp_L (sp_R T108 262 o0 (some a106)) := by rw [hq_L_R]; exact hE118
  refine tt_aload_n (j := 0) dX4_init_58 rfl ?_
  refine tt_newo (k1 := kc - 14) (n1 := nc - 305) dX4_init_59 nl_4_38 (by omega) (by show nc - 305 + 3 ≤ nc - 302; omega) (fun a138 ha139 => ?_)
  refine tt_dup dX4_init_62 rfl ?_
  refine tt_callIN (As := []) (Mid := fun r T _ _ => r = .inl none ∧ GI T (o0 :: E) ∧ Oa T (o0 :: E) 7 0 a138 ∧ Cf a138 (nw_o (sp_R T108 262 o0 (some a106)) 7 a138) T ) (k1 := 0) (n1 := 0) (k2 := kc - 14) (n2 := nc - 305) dX4_init_63 ca_X4_40 ⟨by decide, by decide⟩ (Nat.le_of_ble_eq_true rfl) (Nat.le_of_ble_eq_true rfl) (by omega) (by omega) (cc_7 (gi_o hG132 ha139) in_o (e_cn (e_cons hL133 hE137) (cn_o ha139)) (fun q => ha139 (e_cons hL133 hE137 _ q)) k_o zf_o  (kc := 0) (nc := 0) (by decide) (by decide) (fun T u1 u2 u3 => ⟨rfl, u1, u2, u3⟩)) (fun v T140 x y hw => ?_) (fun X T hw => by obtain ⟨e, -⟩ := hw; cases e)
  obtain ⟨e, hG141, oa142, cf143⟩ := hw
  cases e
  have cn144 := cn_new ha139 cf143
  show TT xi M_X4_init 66 [(0, .ref o0), (1, .ref p1), (2, .ref p2)] [.ref a138, .ref o0] T140 (kc - 14) (nc - 305) P
  have hK147 := k_cn hL133 cn144 hK134
  have hZ148 := zf_cn hZ135 hL133 cn144
  have hC149 := cf_cn hC136 cn144
  have hE150 := e_cn hE137 cn144
  have f151 := fk_cn f125 hL133 cn144
  have f152 := fk_cn f126 hL133 cn144
  have f153 := fk_cn f127 hL133 cn144
  have f154 := fk_cn f128 hL133 cn144
  have f155 := fk_cn f129 hL133 cn144
  have g156 := oa_cn g130 cn144
  have g157 := oa_cn g131 cn144
  have hL146 := l_cn hL133 cn144
  refine tt_putR (id := 263) (x := some a138) dX4_init_66 fl_4_45 rfl rfl ⟨hL146, hK147⟩ rfl rfl (by decide) ?_
  have f158 := fk_R (j := 263) (x := some a138) f151
  have f159 := fk_R (j := 263) (x := some a138) f152
  have f160 := fk_R (j := 263) (x := some a138) f153
  have f161 := fk_R (j := 263) (x := some a138) f154
  have f162 := fk_R (j := 263) (x := some a138) f155
  have f163 := fk_mk (k := 263) (o := o0) oa142
  have g164 := oa_R (k := 263) (o := o0) (x := some a138) g156
  have g165 := oa_R (k := 263) (o := o0) (x := some a138) g157
  have hG166 := gp_oR (k := 263) (x := some a138) hG141
  have hL167 : o0 ∈ hp_L (sp_R T140 263 o0 (some a138)) := by rw [hq_L_R]; exact hL146
  have hK168 : hp_K (sp_R T140 263 o0 (some a138)) o0 = 4 := by rw [hq_K_R]; exact hK147
  have hZ169 := zf_R (j := 263) (a := o0) (x := some a138) hZ148
  have hC170 := cf_R (k := 263) (x := some a138) hC149
  have hE171 : ∀ q ∈ E, q ∈ hp_L (sp_R T140 263 o0 (some a138)) := by rw [hq_L_R]; exact hE150
  refine tt_aload_n (j := 0) dX4_init_69 rfl ?_
  refine tt_newo (k1 := kc - 15) (n1 := nc - 308) dX4_init_70 nl_4_38 (by omega) (by show nc - 308 + 3 ≤ nc - 305; omega) (fun a172 ha173 => ?_)
  refine tt_dup dX4_init_73 rfl ?_
  refine tt_callIN (As := []) (Mid := fun r T _ _ => r = .inl none ∧ GI T (o0 :: E) ∧ Oa T (o0 :: E) 7 0 a172 ∧ Cf a172 (nw_o (sp_R T140 263 o0 (some a138)) 7 a172) T ) (k1 := 0) (n1 := 0) (k2 := kc - 15) (n2 := nc - 308) dX4_init_74 ca_X4_40 ⟨by decide, by decide⟩ (Nat.le_of_ble_eq_true rfl) (Nat.le_of_ble_eq_true rfl) (by omega) (by omega) (cc_7 (gi_o hG166 ha173) in_o (e_cn (e_cons hL167 hE171) (cn_o ha173)) (fun q => ha173 (e_cons hL167 hE171 _ q)) k_o zf_o  (kc := 0) (nc := 0) (by decide) (by decide) (fun T u1 u2 u3 => ⟨rfl, u1, u2, u3⟩)) (fun v T174 x y hw => ?_) (fun X T hw => by obtain ⟨e, -⟩ := hw; cases e)
  obtain ⟨e, hG175, oa176, cf177⟩ := hw
  cases e
  have cn178 := cn_new ha173 cf177
  show TT xi M_X4_init 77 [(0, .ref o0), (1, .ref p1), (2, .ref p2)] [.ref a172, .ref o0] T174 (kc - 15) (nc - 308) P
  have hK181 := k_cn hL167 cn178 hK168
  have hZ182 := zf_cn hZ169 hL167 cn178
  have hC183 := cf_cn hC170 cn178
  have hE184 := e_cn hE171 cn178
  have f185 := fk_cn f158 hL167 cn178
  have f186 := fk_cn f159 hL167 cn178
  have f187 := fk_cn f160 hL167 cn178
  have f188 := fk_cn f161 hL167 cn178
  have f189 := fk_cn f162 hL167 cn178
  have f190 := fk_cn f163 hL167 cn178
  have g191 := oa_cn g164 cn178
  have g192 := oa_cn g165 cn178
  have hL180 := l_cn hL167 cn178
  refine tt_putR (id := 264) (x := some a172) dX4_init_77 fl_4_48 rfl rfl ⟨hL180, hK181⟩ rfl rfl (by decide) ?_
  have f193 := fk_R (j := 264) (x := some a172) f185
  have f194 := fk_R (j := 264) (x := some a172) f186
  have f195 := fk_R (j := 264) (x := some a172) f187
  have f196 := fk_R (j := 264) (x := some a172) f188
  have f197 := fk_R (j := 264) (x := some a172) f189
  have f198 := fk_R (j := 264) (x := some a172) f190
  have f199 := fk_mk (k := 264) (o := o0) oa176
  have g200 := oa_R (k := 264) (o := o0) (x := some a172) g191
  have g201 := oa_R (k := 264) (o := o0) (x := some a172) g192
  have hG202 := gp_oR (k := 264) (x := some a172) hG175
  have hL203 : o0 ∈ hp_L (sp_R T174 264 o0 (some a172)) := by rw [hq_L_R]; exact hL180
  have hK204 : hp_K (sp_R T174 264 o0 (some a172)) o0 = 4 := by rw [hq_K_R]; exact hK181
  have hZ205 := zf_R (j := 264) (a := o0) (x := some a172) hZ182
  have hC206 := cf_R (k := 264) (x := some a172) hC183
  have hE207 : ∀ q ∈ E, q ∈ hp_L (sp_R T174 264 o0 (some a172)) := by rw [hq_L_R]; exact hE184
  refine tt_aload_n (j := 0) dX4_init_80 rfl ?_
  refine tt_aload_n (j := 1) dX4_init_81 rfl ?_
  refine tt_putR (id := 256) (x := some p1) dX4_init_82 fl_4_51 rfl rfl ⟨hL203, hK204⟩ rfl rfl (by decide) ?_
  have f208 := fk_R (j := 256) (x := some p1) f193
  have f209 := fk_R (j := 256) (x := some p1) f194
  have f210 := fk_R (j := 256) (x := some p1) f195
  have f211 := fk_R (j := 256) (x := some p1) f196
  have f212 := fk_R (j := 256) (x := some p1) f197
  have f213 := fk_R (j := 256) (x := some p1) f198
  have f214 := fk_R (j := 256) (x := some p1) f199
  have f215 := fk_mk (k := 256) (o := o0) g200
  have g216 := oa_R (k := 256) (o := o0) (x := some p1) g200
  have g217 := oa_R (k := 256) (o := o0) (x := some p1) g201
  have hG218 := gp_oR (k := 256) (x := some p1) hG202
  have hL219 : o0 ∈ hp_L (sp_R (sp_R T174 264 o0 (some a172)) 256 o0 (some p1)) := by rw [hq_L_R]; exact hL203
  have hK220 : hp_K (sp_R (sp_R T174 264 o0 (some a172)) 256 o0 (some p1)) o0 = 4 := by rw [hq_K_R]; exact hK204
  have hZ221 := zf_R (j := 256) (a := o0) (x := some p1) hZ205
  have hC222 := cf_R (k := 256) (x := some p1) hC206
  have hE223 : ∀ q ∈ E, q ∈ hp_L (sp_R (sp_R T174 264 o0 (some a172)) 256 o0 (some p1)) := by rw [hq_L_R]; exact hE207
  refine tt_aload_n (j := 0) dX4_init_85 rfl ?_
  refine tt_aload_n (j := 2) dX4_init_86 rfl ?_
  refine tt_putR (id := 257) (x := some p2) dX4_init_87 fl_4_55 rfl rfl ⟨hL219, hK220⟩ rfl rfl (by decide) ?_
  have f224 := fk_R (j := 257) (x := some p2) f208
  have f225 := fk_R (j := 257) (x := some p2) f209
  have f226 := fk_R (j := 257) (x := some p2) f210
  have f227 := fk_R (j := 257) (x := some p2) f211
  have f228 := fk_R (j := 257) (x := some p2) f212
  have f229 := fk_R (j := 257) (x := some p2) f213
  have f230 := fk_R (j := 257) (x := some p2) f214
  have f231 := fk_R (j := 257) (x := some p2) f215
  have f232 := fk_mk (k := 257) (o := o0) g217
  have g233 := oa_R (k := 257) (o := o0) (x := some p2) g216
  have g234 := oa_R (k := 257) (o := o0) (x := some p2) g217
  have hG235 := gp_oR (k := 257) (x := some p2) hG218
  have hL236 : o0 ∈ hp_L (sp_R (sp_R (sp_R T174 264 o0 (some a172)) 256 o0 (some p1)) 257 o0 (some p2)) := by rw [hq_L_R]; exact hL219
  have hK237 : hp_K (sp_R (sp_R (sp_R T174 264 o0 (some a172)) 256 o0 (some p1)) 257 o0 (some p2)) o0 = 4 := by rw [hq_K_R]; exact hK220
  have hZ238 := zf_R (j := 257) (a := o0) (x := some p2) hZ221
  have hC239 := cf_R (k := 257) (x := some p2) hC222
  have hE240 : ∀ q ∈ E, q ∈ hp_L (sp_R (sp_R (sp_R T174 264 o0 (some a172)) 256 o0 (some p1)) 257 o0 (some p2)) := by rw [hq_L_R]; exact hE223
  obtain ⟨gD, oD⟩ := gi_done hG235 hL236 hE hK237 (by decide) [] (by decide) fa_nil [(256, 1, 0), (257, 3, 0), (258, 35, 200), (259, 8, 0), (260, 2, 0), (261, 0, 0), (262, 7, 0), (263, 7, 0), (264, 7, 0)] (by decide) (fa_cons ⟨_, f231⟩ (fa_cons ⟨_, f232⟩ (fa_cons ⟨_, f224⟩ (fa_cons ⟨_, f225⟩ (fa_cons ⟨_, f226⟩ (fa_cons ⟨_, f227⟩ (fa_cons ⟨_, f228⟩ (fa_cons ⟨_, f229⟩ (fa_cons ⟨_, f230⟩ fa_nil)))))))))
  exact tt_vreturn dX4_init_90 rfl (hP _ gD oD hC239 )
set_option maxHeartbeats 4000000 in
theorem cc_6 {xi : SX} {S : Hp} {E : List Nat} {kc nc : Nat} {P : Po} {o0 : Nat} {p1 : Nat} {p2 : Nat} (hG : GI S (o0 :: E)) (hL : o0 ∈ hp_L S) (hEL : ∀ q ∈ E, q ∈ hp_L S) (hE : o0 ∉ E) (hK : hp_K S o0 = 6) (hZ : Zf S o0 []) (g1 : Oa S (o0 :: E) 1 0 p1) (g2 : Oa S (o0 :: E) 3 0 p2) (hkc : 2 ≤ kc) (hnc : 48 ≤ nc) (hP : ∀ T, GI T E → Oa T E 6 0 o0 → Cf o0 S T → P (.inl none) T (kc - 2) (nc - 48)) : TT xi M_X6_init 0 [(0, .ref o0), (1, .ref p1), (2, .ref p2)] [] S kc nc P := by
  have hC : Cf o0 S S := cf_rf
  refine tt_aload_n (j := 0) dX6_init_0 rfl ?_
  refine tt_objInit dX6_init_1 ca_X6_3 ⟨by decide, by decide⟩ ?_
  refine tt_aload_n (j := 0) dX6_init_4 rfl ?_
  refine tt_bipush (v := 24) dX6_init_5 rfl ?_
  refine gn_J (k1 := kc - 1) (n1 := nc - 24) dX6_init_7 ka_long (by decide) (len := 24) rfl (by decide) (by omega) (by omega) hG (e_cons hL hEL) (fun a1 T2 hG3 cn4 oa5 => ?_)
  have hK7 := k_cn hL cn4 hK
  have hZ8 := zf_cn hZ hL cn4
  have hC9 := cf_cn hC cn4
  have hE10 := e_cn hEL cn4
  have g11 := oa_cn g1 cn4
  have g12 := oa_cn g2 cn4
  have hL6 := l_cn hL cn4
  refine tt_putR (id := 386) (x := some a1) dX6_init_9 fl_6_9 rfl rfl ⟨hL6, hK7⟩ rfl rfl (by decide) ?_
  have f13 := fk_mk (k := 386) (o := o0) oa5
  have g14 := oa_R (k := 386) (o := o0) (x := some a1) g11
  have g15 := oa_R (k := 386) (o := o0) (x := some a1) g12
  have hG16 := gp_oR (k := 386) (x := some a1) hG3
  have hL17 : o0 ∈ hp_L (sp_R T2 386 o0 (some a1)) := by rw [hq_L_R]; exact hL6
  have hK18 : hp_K (sp_R T2 386 o0 (some a1)) o0 = 6 := by rw [hq_K_R]; exact hK7
  have hZ19 := zf_R (j := 386) (a := o0) (x := some a1) hZ8
  have hC20 := cf_R (k := 386) (x := some a1) hC9
  have hE21 : ∀ q ∈ E, q ∈ hp_L (sp_R T2 386 o0 (some a1)) := by rw [hq_L_R]; exact hE10
  refine tt_aload_n (j := 0) dX6_init_12 rfl ?_
  refine tt_bipush (v := 24) dX6_init_13 rfl ?_
  refine gn_J (k1 := kc - 2) (n1 := nc - 48) dX6_init_15 ka_long (by decide) (len := 24) rfl (by decide) (by omega) (by omega) hG16 (e_cons hL17 hE21) (fun a22 T23 hG24 cn25 oa26 => ?_)
  have hK28 := k_cn hL17 cn25 hK18
  have hZ29 := zf_cn hZ19 hL17 cn25
  have hC30 := cf_cn hC20 cn25
  have hE31 := e_cn hE21 cn25
  have f32 := fk_cn f13 hL17 cn25
  have g33 := oa_cn g14 cn25
  have g34 := oa_cn g15 cn25
  have hL27 := l_cn hL17 cn25
  refine tt_putR (id := 387) (x := some a22) dX6_init_17 fl_6_15 rfl rfl ⟨hL27, hK28⟩ rfl rfl (by decide) ?_
  have f35 := fk_R (j := 387) (x := some a22) f32
  have f36 := fk_mk (k := 387) (o := o0) oa26
  have g37 := oa_R (k := 387) (o := o0) (x := some a22) g33
  have g38 := oa_R (k := 387) (o := o0) (x := some a22) g34
  have hG39 := gp_oR (k := 387) (x := some a22) hG24
  have hL40 : o0 ∈ hp_L (sp_R T23 387 o0 (some a22)) := by rw [hq_L_R]; exact hL27
  have hK41 : hp_K (sp_R T23 387 o0 (some a22)) o0 = 6 := by rw [hq_K_R]; exact hK28
  have hZ42 := zf_R (j := 387) (a := o0) (x := some a22) hZ29
  have hC43 := cf_R (k := 387) (x := some a22) hC30
  have hE44 : ∀ q ∈ E, q ∈ hp_L (sp_R T23 387 o0 (some a22)) := by rw [hq_L_R]; exact hE31
  refine tt_aload_n (j := 0) dX6_init_20 rfl ?_
  refine tt_iconst (v := (-1)) dX6_init_21 rfl ?_
  refine tt_putI (id := 388) (x := (-1)) dX6_init_22 fl_6_18 rfl rfl ⟨hL40, hK41⟩ rfl rfl (by decide) ?_
  have f45 := fk_I (j := 388) (v := (-1)) f35
  have f46 := fk_I (j := 388) (v := (-1)) f36
  have g47 := oa_I (k := 388) (o := o0) (v := (-1)) g37
  have g48 := oa_I (k := 388) (o := o0) (v := (-1)) g38
  have i49 : hp_I (sp_I (sp_R T23 387 o0 (some a22)) 388 o0 (-1)) 388 o0 = (-1) := by rw [hq_I_I, up2_self]
  have hG50 := gp_oI (k := 388) (v := (-1)) hG39
  have hL51 : o0 ∈ hp_L (sp_I (sp_R T23 387 o0 (some a22)) 388 o0 (-1)) := by rw [hq_L_I]; exact hL40
  have hK52 : hp_K (sp_I (sp_R T23 387 o0 (some a22)) 388 o0 (-1)) o0 = 6 := by rw [hq_K_I]; exact hK41
  have hZ53 := zf_I (j := 388) (v := (-1)) hZ42
  have hC54 := cf_I (k := 388) (v := (-1)) hC43
  have hE55 : ∀ q ∈ E, q ∈ hp_L (sp_I (sp_R T23 387 o0 (some a22)) 388 o0 (-1)) := by rw [hq_L_I]; exact hE44
  refine tt_aload_n (j := 0) dX6_init_25 rfl ?_
  refine tt_aload_n (j := 1) dX6_init_26 rfl ?_
  refine tt_putR (id := 384) (x := some p1) dX6_init_27 fl_6_22 rfl rfl ⟨hL51, hK52⟩ rfl rfl (by decide) ?_
  have f56 := fk_R (j := 384) (x := some p1) f45
  have f57 := fk_R (j := 384) (x := some p1) f46
  have f58 := fk_mk (k := 384) (o := o0) g47
  have g59 := oa_R (k := 384) (o := o0) (x := some p1) g47
  have g60 := oa_R (k := 384) (o := o0) (x := some p1) g48
  have i61 : hp_I (sp_R (sp_I (sp_R T23 387 o0 (some a22)) 388 o0 (-1)) 384 o0 (some p1)) 388 o0 = (-1) := by rw [hq_I_R]; exact i49
  have hG62 := gp_oR (k := 384) (x := some p1) hG50
  have hL63 : o0 ∈ hp_L (sp_R (sp_I (sp_R T23 387 o0 (some a22)) 388 o0 (-1)) 384 o0 (some p1)) := by rw [hq_L_R]; exact hL51
  have hK64 : hp_K (sp_R (sp_I (sp_R T23 387 o0 (some a22)) 388 o0 (-1)) 384 o0 (some p1)) o0 = 6 := by rw [hq_K_R]; exact hK52
  have hZ65 := zf_R (j := 384) (a := o0) (x := some p1) hZ53
  have hC66 := cf_R (k := 384) (x := some p1) hC54
  have hE67 : ∀ q ∈ E, q ∈ hp_L (sp_R (sp_I (sp_R T23 387 o0 (some a22)) 388 o0 (-1)) 384 o0 (some p1)) := by rw [hq_L_R]; exact hE55
  refine tt_aload_n (j := 0) dX6_init_30 rfl ?_
  refine tt_aload_n (j := 2) dX6_init_31 rfl ?_
  refine tt_putR (id := 385) (x := some p2) dX6_init_32 fl_6_26 rfl rfl ⟨hL63, hK64⟩ rfl rfl (by decide) ?_
  have f68 := fk_R (j := 385) (x := some p2) f56
  have f69 := fk_R (j := 385) (x := some p2) f57
  have f70 := fk_R (j := 385) (x := some p2) f58
  have f71 := fk_mk (k := 385) (o := o0) g60
  have g72 := oa_R (k := 385) (o := o0) (x := some p2) g59
  have g73 := oa_R (k := 385) (o := o0) (x := some p2) g60
  have i74 : hp_I (sp_R (sp_R (sp_I (sp_R T23 387 o0 (some a22)) 388 o0 (-1)) 384 o0 (some p1)) 385 o0 (some p2)) 388 o0 = (-1) := by rw [hq_I_R]; exact i61
  have hG75 := gp_oR (k := 385) (x := some p2) hG62
  have hL76 : o0 ∈ hp_L (sp_R (sp_R (sp_I (sp_R T23 387 o0 (some a22)) 388 o0 (-1)) 384 o0 (some p1)) 385 o0 (some p2)) := by rw [hq_L_R]; exact hL63
  have hK77 : hp_K (sp_R (sp_R (sp_I (sp_R T23 387 o0 (some a22)) 388 o0 (-1)) 384 o0 (some p1)) 385 o0 (some p2)) o0 = 6 := by rw [hq_K_R]; exact hK64
  have hZ78 := zf_R (j := 385) (a := o0) (x := some p2) hZ65
  have hC79 := cf_R (k := 385) (x := some p2) hC66
  have hE80 : ∀ q ∈ E, q ∈ hp_L (sp_R (sp_R (sp_I (sp_R T23 387 o0 (some a22)) 388 o0 (-1)) 384 o0 (some p1)) 385 o0 (some p2)) := by rw [hq_L_R]; exact hE67
  obtain ⟨gD, oD⟩ := gi_done hG75 hL76 hE hK77 (by decide) [(389, 0, 1), (390, 0, 1), (391, 0, 1), (392, 0, 1), (393, 0, 1)] (by decide) (fa_cons (zf_rg hZ78) (fa_cons (zf_rg hZ78) (fa_cons (zf_rg hZ78) (fa_cons (zf_rg hZ78) (fa_cons (zf_rg hZ78) fa_nil))))) [(384, 1, 0), (385, 3, 0), (386, 33, 24), (387, 33, 24)] (by decide) (fa_cons ⟨_, f70⟩ (fa_cons ⟨_, f71⟩ (fa_cons ⟨_, f68⟩ (fa_cons ⟨_, f69⟩ fa_nil))))
  exact tt_vreturn dX6_init_35 rfl (hP _ gD oD hC79 )
set_option maxHeartbeats 4000000 in
theorem cc_9 {xi : SX} {S : Hp} {E : List Nat} {kc nc : Nat} {P : Po} {o0 : Nat}  (hG : GI S (o0 :: E)) (hL : o0 ∈ hp_L S) (hEL : ∀ q ∈ E, q ∈ hp_L S) (hE : o0 ∉ E) (hK : hp_K S o0 = 9) (hZ : Zf S o0 [])  (hkc : 26 ≤ kc) (hnc : 670 ≤ nc) (hP : ∀ T, GI T E → Oa T E 9 0 o0 → Cf o0 S T → (∃ b, hp_R T 576 o0 = some b ∧ Oa T E 1 0 b ∧ hp_I T 65 b = 0) → P (.inl none) T (kc - 26) (nc - 670)) : TT xi M_X9_init 0 [(0, .ref o0)] [] S kc nc P := by
  have hC : Cf o0 S S := cf_rf
  refine tt_aload_n (j := 0) dX9_init_0 rfl ?_
  refine tt_objInit dX9_init_1 ca_X9_1 ⟨by decide, by decide⟩ ?_
  refine tt_aload_n (j := 0) dX9_init_4 rfl ?_
  refine tt_newo (k1 := kc - 1) (n1 := nc - 2) dX9_init_5 nl_9_7 (by omega) (by show nc - 2 + 2 ≤ nc - 0; omega) (fun a1 ha2 => ?_)
  refine tt_dup dX9_init_8 rfl ?_
  refine tt_callIN (As := []) (Mid := fun r T _ _ => r = .inl none ∧ GI T (o0 :: E) ∧ Oa T (o0 :: E) 1 0 a1 ∧ Cf a1 (nw_o S 1 a1) T ∧ hp_I T 65 a1 = 0) (k1 := 1) (n1 := 200) (k2 := kc - 2) (n2 := nc - 202) dX9_init_9 ca_X9_9 ⟨by decide, by decide⟩ (Nat.le_of_ble_eq_true rfl) (Nat.le_of_ble_eq_true rfl) (by omega) (by omega) (cc_1 (gi_o hG ha2) in_o (e_cn (e_cons hL hEL) (cn_o ha2)) (fun q => ha2 (e_cons hL hEL _ q)) k_o zf_o  (kc := 1) (nc := 200) (by decide) (by decide) (fun T u1 u2 u3 u4 => ⟨rfl, u1, u2, u3, u4⟩)) (fun v T3 x y hw => ?_) (fun X T hw => by obtain ⟨e, -⟩ := hw; cases e)
  obtain ⟨e, hG4, oa5, cf6, i8⟩ := hw
  cases e
  have cn7 := cn_new ha2 cf6
  show TT xi M_X9_init 12 [(0, .ref o0)] [.ref a1, .ref o0] T3 (kc - 2) (nc - 202) P
  have hK10 := k_cn hL cn7 hK
  have hZ11 := zf_cn hZ hL cn7
  have hC12 := cf_cn hC cn7
  have hE13 := e_cn hEL cn7
  have hL9 := l_cn hL cn7
  have l14 := oa5.1
  refine tt_putR (id := 576) (x := some a1) dX9_init_12 fl_9_10 rfl rfl ⟨hL9, hK10⟩ rfl rfl (by decide) ?_
  have f15 := fk_mk (k := 576) (o := o0) oa5
  have i16 : hp_I (sp_R T3 576 o0 (some a1)) 65 a1 = 0 := by rw [hq_I_R]; exact i8
  have l17 : a1 ∈ hp_L (sp_R T3 576 o0 (some a1)) := by rw [hq_L_R]; exact l14
  have hG18 := gp_oR (k := 576) (x := some a1) hG4
  have hL19 : o0 ∈ hp_L (sp_R T3 576 o0 (some a1)) := by rw [hq_L_R]; exact hL9
  have hK20 : hp_K (sp_R T3 576 o0 (some a1)) o0 = 9 := by rw [hq_K_R]; exact hK10
  have hZ21 := zf_R (j := 576) (a := o0) (x := some a1) hZ11
  have hC22 := cf_R (k := 576) (x := some a1) hC12
  have hE23 : ∀ q ∈ E, q ∈ hp_L (sp_R T3 576 o0 (some a1)) := by rw [hq_L_R]; exact hE13
  refine tt_aload_n (j := 0) dX9_init_15 rfl ?_
  refine tt_newo (k1 := kc - 3) (n1 := nc - 216) dX9_init_16 nl_9_16 (by omega) (by show nc - 216 + 14 ≤ nc - 202; omega) (fun a24 ha25 => ?_)
  refine tt_dup dX9_init_19 rfl ?_
  refine tt_aload_n (j := 0) dX9_init_20 rfl ?_
  refine tt_getA (id := 576) dX9_init_21 fl_9_10 rfl rfl ⟨l_cn hL19 (cn_o ha25), k_cn hL19 (cn_o ha25) hK20⟩ (fk_cn f15 hL19 (cn_o ha25)).1 ?_
  refine tt_callI (As := [.ref a1]) (Mid := fun r T _ _ => r = .inl none ∧ GI T (o0 :: E) ∧ Oa T (o0 :: E) 3 0 a24 ∧ Cf a24 (nw_o (sp_R T3 576 o0 (some a1)) 3 a24) T ) (k1 := 0) (n1 := 0) (k2 := kc - 3) (n2 := nc - 216) dX9_init_24 ca_X9_18 ⟨by decide, by decide⟩ (Nat.le_of_ble_eq_true rfl) (Nat.le_of_ble_eq_true rfl) (by omega) (by omega) (cc_3 (gi_o hG18 ha25) in_o (e_cn (e_cons hL19 hE23) (cn_o ha25)) (fun q => ha25 (e_cons hL19 hE23 _ q)) k_o zf_o (oa_new f15.2 ha25) (kc := 0) (nc := 0) (by decide) (by decide) (fun T u1 u2 u3 => ⟨rfl, u1, u2, u3⟩)) (fun v T26 x y hw => ?_) (fun X T hw => by obtain ⟨e, -⟩ := hw; cases e)
  obtain ⟨e, hG27, oa28, cf29⟩ := hw
  cases e
  have cn30 := cn_new ha25 cf29
  show TT xi M_X9_init 27 [(0, .ref o0)] [.ref a24, .ref o0] T26 (kc - 3) (nc - 216) P
  have hK33 := k_cn hL19 cn30 hK20
  have hZ34 := zf_cn hZ21 hL19 cn30
  have hC35 := cf_cn hC22 cn30
  have hE36 := e_cn hE23 cn30
  have f37 := fk_cn f15 hL19 cn30
  have i38 := ((cn30.2.1 a1 l17).2 65).trans i16
  have l39 := l_cn l17 cn30
  have hL32 := l_cn hL19 cn30
  refine tt_putR (id := 577) (x := some a24) dX9_init_27 fl_9_21 rfl rfl ⟨hL32, hK33⟩ rfl rfl (by decide) ?_
  have f40 := fk_R (j := 577) (x := some a24) f37
  have f41 := fk_mk (k := 577) (o := o0) oa28
  have i42 : hp_I (sp_R T26 577 o0 (some a24)) 65 a1 = 0 := by rw [hq_I_R]; exact i38
  have l43 : a1 ∈ hp_L (sp_R T26 577 o0 (some a24)) := by rw [hq_L_R]; exact l39
  have hG44 := gp_oR (k := 577) (x := some a24) hG27
  have hL45 : o0 ∈ hp_L (sp_R T26 577 o0 (some a24)) := by rw [hq_L_R]; exact hL32
  have hK46 : hp_K (sp_R T26 577 o0 (some a24)) o0 = 9 := by rw [hq_K_R]; exact hK33
  have hZ47 := zf_R (j := 577) (a := o0) (x := some a24) hZ34
  have hC48 := cf_R (k := 577) (x := some a24) hC35
  have hE49 : ∀ q ∈ E, q ∈ hp_L (sp_R T26 577 o0 (some a24)) := by rw [hq_L_R]; exact hE36
  refine tt_aload_n (j := 0) dX9_init_30 rfl ?_
  refine tt_newo (k1 := kc - 4) (n1 := nc - 223) dX9_init_31 nl_9_25 (by omega) (by show nc - 223 + 7 ≤ nc - 216; omega) (fun a50 ha51 => ?_)
  refine tt_dup dX9_init_34 rfl ?_
  refine tt_callI (As := []) (Mid := fun r T _ _ => r = .inl none ∧ GI T (o0 :: E) ∧ Oa T (o0 :: E) 8 0 a50 ∧ Cf a50 (nw_o (sp_R T26 577 o0 (some a24)) 8 a50) T ) (k1 := 3) (n1 := 72) (k2 := kc - 7) (n2 := nc - 295) dX9_init_35 ca_X9_27 ⟨by decide, by decide⟩ (Nat.le_of_ble_eq_true rfl) (Nat.le_of_ble_eq_true rfl) (by omega) (by omega) (cc_8 (gi_o hG44 ha51) in_o (e_cn (e_cons hL45 hE49) (cn_o ha51)) (fun q => ha51 (e_cons hL45 hE49 _ q)) k_o zf_o  (kc := 3) (nc := 72) (by decide) (by decide) (fun T u1 u2 u3 => ⟨rfl, u1, u2, u3⟩)) (fun v T52 x y hw => ?_) (fun X T hw => by obtain ⟨e, -⟩ := hw; cases e)
  obtain ⟨e, hG53, oa54, cf55⟩ := hw
  cases e
  have cn56 := cn_new ha51 cf55
  show TT xi M_X9_init 38 [(0, .ref o0)] [.ref a50, .ref o0] T52 (kc - 7) (nc - 295) P
  have hK59 := k_cn hL45 cn56 hK46
  have hZ60 := zf_cn hZ47 hL45 cn56
  have hC61 := cf_cn hC48 cn56
  have hE62 := e_cn hE49 cn56
  have f63 := fk_cn f40 hL45 cn56
  have f64 := fk_cn f41 hL45 cn56
  have i65 := ((cn56.2.1 a1 l43).2 65).trans i42
  have l66 := l_cn l43 cn56
  have hL58 := l_cn hL45 cn56
  refine tt_putR (id := 578) (x := some a50) dX9_init_38 fl_9_28 rfl rfl ⟨hL58, hK59⟩ rfl rfl (by decide) ?_
  have f67 := fk_R (j := 578) (x := some a50) f63
  have f68 := fk_R (j := 578) (x := some a50) f64
  have f69 := fk_mk (k := 578) (o := o0) oa54
  have i70 : hp_I (sp_R T52 578 o0 (some a50)) 65 a1 = 0 := by rw [hq_I_R]; exact i65
  have l71 : a1 ∈ hp_L (sp_R T52 578 o0 (some a50)) := by rw [hq_L_R]; exact l66
  have hG72 := gp_oR (k := 578) (x := some a50) hG53
  have hL73 : o0 ∈ hp_L (sp_R T52 578 o0 (some a50)) := by rw [hq_L_R]; exact hL58
  have hK74 : hp_K (sp_R T52 578 o0 (some a50)) o0 = 9 := by rw [hq_K_R]; exact hK59
  have hZ75 := zf_R (j := 578) (a := o0) (x := some a50) hZ60
  have hC76 := cf_R (k := 578) (x := some a50) hC61
  have hE77 : ∀ q ∈ E, q ∈ hp_L (sp_R T52 578 o0 (some a50)) := by rw [hq_L_R]; exact hE62
  refine tt_aload_n (j := 0) dX9_init_41 rfl ?_
  refine tt_newo (k1 := kc - 8) (n1 := nc - 304) dX9_init_42 nl_9_32 (by omega) (by show nc - 304 + 9 ≤ nc - 295; omega) (fun a78 ha79 => ?_)
  refine tt_dup dX9_init_45 rfl ?_
  refine tt_aload_n (j := 0) dX9_init_46 rfl ?_
  refine tt_getA (id := 576) dX9_init_47 fl_9_10 rfl rfl ⟨l_cn hL73 (cn_o ha79), k_cn hL73 (cn_o ha79) hK74⟩ (fk_cn f67 hL73 (cn_o ha79)).1 ?_
  refine tt_aload_n (j := 0) dX9_init_50 rfl ?_
  refine tt_getA (id := 577) dX9_init_51 fl_9_21 rfl rfl ⟨l_cn hL73 (cn_o ha79), k_cn hL73 (cn_o ha79) hK74⟩ (fk_cn f68 hL73 (cn_o ha79)).1 ?_
  refine tt_callI (As := [.ref a1, .ref a24]) (Mid := fun r T _ _ => r = .inl none ∧ GI T (o0 :: E) ∧ Oa T (o0 :: E) 4 0 a78 ∧ Cf a78 (nw_o (sp_R T52 578 o0 (some a50)) 4 a78) T ) (k1 := 15) (n1 := 308) (k2 := kc - 23) (n2 := nc - 612) dX9_init_54 ca_X9_34 ⟨by decide, by decide⟩ (Nat.le_of_ble_eq_true rfl) (Nat.le_of_ble_eq_true rfl) (by omega) (by omega) (cc_4 (gi_o hG72 ha79) in_o (e_cn (e_cons hL73 hE77) (cn_o ha79)) (fun q => ha79 (e_cons hL73 hE77 _ q)) k_o zf_o (oa_new f67.2 ha79) (oa_new f68.2 ha79) (kc := 15) (nc := 308) (by decide) (by decide) (fun T u1 u2 u3 => ⟨rfl, u1, u2, u3⟩)) (fun v T80 x y hw => ?_) (fun X T hw => by obtain ⟨e, -⟩ := hw; cases e)
  obtain ⟨e, hG81, oa82, cf83⟩ := hw
  cases e
  have cn84 := cn_new ha79 cf83
  show TT xi M_X9_init 57 [(0, .ref o0)] [.ref a78, .ref o0] T80 (kc - 23) (nc - 612) P
  have hK87 := k_cn hL73 cn84 hK74
  have hZ88 := zf_cn hZ75 hL73 cn84
  have hC89 := cf_cn hC76 cn84
  have hE90 := e_cn hE77 cn84
  have f91 := fk_cn f67 hL73 cn84
  have f92 := fk_cn f68 hL73 cn84
  have f93 := fk_cn f69 hL73 cn84
  have i94 := ((cn84.2.1 a1 l71).2 65).trans i70
  have l95 := l_cn l71 cn84
  have hL86 := l_cn hL73 cn84
  refine tt_putR (id := 579) (x := some a78) dX9_init_57 fl_9_37 rfl rfl ⟨hL86, hK87⟩ rfl rfl (by decide) ?_
  have f96 := fk_R (j := 579) (x := some a78) f91
  have f97 := fk_R (j := 579) (x := some a78) f92
  have f98 := fk_R (j := 579) (x := some a78) f93
  have f99 := fk_mk (k := 579) (o := o0) oa82
  have i100 : hp_I (sp_R T80 579 o0 (some a78)) 65 a1 = 0 := by rw [hq_I_R]; exact i94
  have l101 : a1 ∈ hp_L (sp_R T80 579 o0 (some a78)) := by rw [hq_L_R]; exact l95
  have hG102 := gp_oR (k := 579) (x := some a78) hG81
  have hL103 : o0 ∈ hp_L (sp_R T80 579 o0 (some a78)) := by rw [hq_L_R]; exact hL86
  have hK104 : hp_K (sp_R T80 579 o0 (some a78)) o0 = 9 := by rw [hq_K_R]; exact hK87
  have hZ105 := zf_R (j := 579) (a := o0) (x := some a78) hZ88
  have hC106 := cf_R (k := 579) (x := some a78) hC89
  have hE107 : ∀ q ∈ E, q ∈ hp_L (sp_R T80 579 o0 (some a78)) := by rw [hq_L_R]; exact hE90
  refine tt_aload_n (j := 0) dX9_init_60 rfl ?_
  refine tt_newo (k1 := kc - 24) (n1 := nc - 622) dX9_init_61 nl_9_41 (by omega) (by show nc - 622 + 10 ≤ nc - 612; omega) (fun a108 ha109 => ?_)
  refine tt_dup dX9_init_64 rfl ?_
  refine tt_aload_n (j := 0) dX9_init_65 rfl ?_
  refine tt_getA (id := 576) dX9_init_66 fl_9_10 rfl rfl ⟨l_cn hL103 (cn_o ha109), k_cn hL103 (cn_o ha109) hK104⟩ (fk_cn f96 hL103 (cn_o ha109)).1 ?_
  refine tt_aload_n (j := 0) dX9_init_69 rfl ?_
  refine tt_getA (id := 577) dX9_init_70 fl_9_21 rfl rfl ⟨l_cn hL103 (cn_o ha109), k_cn hL103 (cn_o ha109) hK104⟩ (fk_cn f97 hL103 (cn_o ha109)).1 ?_
  refine tt_callI (As := [.ref a1, .ref a24]) (Mid := fun r T _ _ => r = .inl none ∧ GI T (o0 :: E) ∧ Oa T (o0 :: E) 6 0 a108 ∧ Cf a108 (nw_o (sp_R T80 579 o0 (some a78)) 6 a108) T ) (k1 := 2) (n1 := 48) (k2 := kc - 26) (n2 := nc - 670) dX9_init_73 ca_X9_43 ⟨by decide, by decide⟩ (Nat.le_of_ble_eq_true rfl) (Nat.le_of_ble_eq_true rfl) (by omega) (by omega) (cc_6 (gi_o hG102 ha109) in_o (e_cn (e_cons hL103 hE107) (cn_o ha109)) (fun q => ha109 (e_cons hL103 hE107 _ q)) k_o zf_o (oa_new f96.2 ha109) (oa_new f97.2 ha109) (kc := 2) (nc := 48) (by decide) (by decide) (fun T u1 u2 u3 => ⟨rfl, u1, u2, u3⟩)) (fun v T110 x y hw => ?_) (fun X T hw => by obtain ⟨e, -⟩ := hw; cases e)
  obtain ⟨e, hG111, oa112, cf113⟩ := hw
  cases e
  have cn114 := cn_new ha109 cf113
  show TT xi M_X9_init 76 [(0, .ref o0)] [.ref a108, .ref o0] T110 (kc - 26) (nc - 670) P
  have hK117 := k_cn hL103 cn114 hK104
  have hZ118 := zf_cn hZ105 hL103 cn114
  have hC119 := cf_cn hC106 cn114
  have hE120 := e_cn hE107 cn114
  have f121 := fk_cn f96 hL103 cn114
  have f122 := fk_cn f97 hL103 cn114
  have f123 := fk_cn f98 hL103 cn114
  have f124 := fk_cn f99 hL103 cn114
  have i125 := ((cn114.2.1 a1 l101).2 65).trans i100
  have l126 := l_cn l101 cn114
  have hL116 := l_cn hL103 cn114
  refine tt_putR (id := 580) (x := some a108) dX9_init_76 fl_9_44 rfl rfl ⟨hL116, hK117⟩ rfl rfl (by decide) ?_
  have f127 := fk_R (j := 580) (x := some a108) f121
  have f128 := fk_R (j := 580) (x := some a108) f122
  have f129 := fk_R (j := 580) (x := some a108) f123
  have f130 := fk_R (j := 580) (x := some a108) f124
  have f131 := fk_mk (k := 580) (o := o0) oa112
  have i132 : hp_I (sp_R T110 580 o0 (some a108)) 65 a1 = 0 := by rw [hq_I_R]; exact i125
  have l133 : a1 ∈ hp_L (sp_R T110 580 o0 (some a108)) := by rw [hq_L_R]; exact l126
  have hG134 := gp_oR (k := 580) (x := some a108) hG111
  have hL135 : o0 ∈ hp_L (sp_R T110 580 o0 (some a108)) := by rw [hq_L_R]; exact hL116
  have hK136 : hp_K (sp_R T110 580 o0 (some a108)) o0 = 9 := by rw [hq_K_R]; exact hK117
  have hZ137 := zf_R (j := 580) (a := o0) (x := some a108) hZ118
  have hC138 := cf_R (k := 580) (x := some a108) hC119
  have hE139 : ∀ q ∈ E, q ∈ hp_L (sp_R T110 580 o0 (some a108)) := by rw [hq_L_R]; exact hE120
  obtain ⟨gD, oD⟩ := gi_done hG134 hL135 hE hK136 (by decide) [] (by decide) fa_nil [(576, 1, 0), (577, 3, 0), (578, 8, 0), (579, 4, 0), (580, 6, 0)] (by decide) (fa_cons ⟨_, f127⟩ (fa_cons ⟨_, f128⟩ (fa_cons ⟨_, f129⟩ (fa_cons ⟨_, f130⟩ (fa_cons ⟨_, f131⟩ fa_nil)))))
  exact tt_vreturn dX9_init_79 rfl (hP _ gD oD hC138 ⟨a1, f127.1, ⟨f127.2.1, fun z => f127.2.2.1 (List.mem_cons_of_mem _ z), f127.2.2.2⟩, i132⟩)
set_option maxHeartbeats 4000000 in
theorem cc_10 {xi : SX} {S : Hp} {E : List Nat} {kc nc : Nat} {P : Po} {o0 : Nat}  (hG : GI S (o0 :: E)) (hL : o0 ∈ hp_L S) (hEL : ∀ q ∈ E, q ∈ hp_L S) (hE : o0 ∉ E) (hK : hp_K S o0 = 10) (hZ : Zf S o0 [])  (hkc : 13 ≤ kc) (hnc : 21218 ≤ nc) (hP : ∀ T, GI T E → Oa T E 10 0 o0 → Cf o0 S T → hp_I T 642 o0 = 0 → hp_I T 663 o0 = 0 → P (.inl none) T (kc - 13) (nc - 21218)) : TT xi M_X10_init 0 [(0, .ref o0)] [] S kc nc P := by
  have hC : Cf o0 S S := cf_rf
  refine tt_aload_n (j := 0) dX10_init_0 rfl ?_
  refine tt_objInit dX10_init_1 ca_X10_1 ⟨by decide, by decide⟩ ?_
  refine tt_aload_n (j := 0) dX10_init_4 rfl ?_
  refine tt_sipush (v := 200) dX10_init_5 rfl ?_
  refine gn_I (k1 := kc - 1) (n1 := nc - 200) dX10_init_8 ka_int (by decide) (len := 200) rfl (by decide) (by omega) (by omega) hG (e_cons hL hEL) (fun a1 T2 hG3 cn4 oa5 => ?_)
  have hK7 := k_cn hL cn4 hK
  have hZ8 := zf_cn hZ hL cn4
  have hC9 := cf_cn hC cn4
  have hE10 := e_cn hEL cn4
  have hL6 := l_cn hL cn4
  refine tt_putR (id := 641) (x := some a1) dX10_init_10 fl_10_7 rfl rfl ⟨hL6, hK7⟩ rfl rfl (by decide) ?_
  have f11 := fk_mk (k := 641) (o := o0) oa5
  have hG12 := gp_oR (k := 641) (x := some a1) hG3
  have hL13 : o0 ∈ hp_L (sp_R T2 641 o0 (some a1)) := by rw [hq_L_R]; exact hL6
  have hK14 : hp_K (sp_R T2 641 o0 (some a1)) o0 = 10 := by rw [hq_K_R]; exact hK7
  have hZ15 := zf_R (j := 641) (a := o0) (x := some a1) hZ8
  have hC16 := cf_R (k := 641) (x := some a1) hC9
  have hE17 : ∀ q ∈ E, q ∈ hp_L (sp_R T2 641 o0 (some a1)) := by rw [hq_L_R]; exact hE10
  refine tt_aload_n (j := 0) dX10_init_13 rfl ?_
  refine tt_sipush (v := 4940) dX10_init_14 rfl ?_
  refine gn_I (k1 := kc - 2) (n1 := nc - 5140) dX10_init_17 ka_int (by decide) (len := 4940) rfl (by decide) (by omega) (by omega) hG12 (e_cons hL13 hE17) (fun a18 T19 hG20 cn21 oa22 => ?_)
  have hK24 := k_cn hL13 cn21 hK14
  have hZ25 := zf_cn hZ15 hL13 cn21
  have hC26 := cf_cn hC16 cn21
  have hE27 := e_cn hE17 cn21
  have f28 := fk_cn f11 hL13 cn21
  have hL23 := l_cn hL13 cn21
  refine tt_putR (id := 643) (x := some a18) dX10_init_19 fl_10_13 rfl rfl ⟨hL23, hK24⟩ rfl rfl (by decide) ?_
  have f29 := fk_R (j := 643) (x := some a18) f28
  have f30 := fk_mk (k := 643) (o := o0) oa22
  have hG31 := gp_oR (k := 643) (x := some a18) hG20
  have hL32 : o0 ∈ hp_L (sp_R T19 643 o0 (some a18)) := by rw [hq_L_R]; exact hL23
  have hK33 : hp_K (sp_R T19 643 o0 (some a18)) o0 = 10 := by rw [hq_K_R]; exact hK24
  have hZ34 := zf_R (j := 643) (a := o0) (x := some a18) hZ25
  have hC35 := cf_R (k := 643) (x := some a18) hC26
  have hE36 : ∀ q ∈ E, q ∈ hp_L (sp_R T19 643 o0 (some a18)) := by rw [hq_L_R]; exact hE27
  refine tt_aload_n (j := 0) dX10_init_22 rfl ?_
  refine tt_sipush (v := 4940) dX10_init_23 rfl ?_
  refine gn_J (k1 := kc - 3) (n1 := nc - 10080) dX10_init_26 ka_long (by decide) (len := 4940) rfl (by decide) (by omega) (by omega) hG31 (e_cons hL32 hE36) (fun a37 T38 hG39 cn40 oa41 => ?_)
  have hK43 := k_cn hL32 cn40 hK33
  have hZ44 := zf_cn hZ34 hL32 cn40
  have hC45 := cf_cn hC35 cn40
  have hE46 := e_cn hE36 cn40
  have f47 := fk_cn f29 hL32 cn40
  have f48 := fk_cn f30 hL32 cn40
  have hL42 := l_cn hL32 cn40
  refine tt_putR (id := 644) (x := some a37) dX10_init_28 fl_10_16 rfl rfl ⟨hL42, hK43⟩ rfl rfl (by decide) ?_
  have f49 := fk_R (j := 644) (x := some a37) f47
  have f50 := fk_R (j := 644) (x := some a37) f48
  have f51 := fk_mk (k := 644) (o := o0) oa41
  have hG52 := gp_oR (k := 644) (x := some a37) hG39
  have hL53 : o0 ∈ hp_L (sp_R T38 644 o0 (some a37)) := by rw [hq_L_R]; exact hL42
  have hK54 : hp_K (sp_R T38 644 o0 (some a37)) o0 = 10 := by rw [hq_K_R]; exact hK43
  have hZ55 := zf_R (j := 644) (a := o0) (x := some a37) hZ44
  have hC56 := cf_R (k := 644) (x := some a37) hC45
  have hE57 : ∀ q ∈ E, q ∈ hp_L (sp_R T38 644 o0 (some a37)) := by rw [hq_L_R]; exact hE46
  refine tt_aload_n (j := 0) dX10_init_31 rfl ?_
  refine tt_sipush (v := 4940) dX10_init_32 rfl ?_
  refine gn_J (k1 := kc - 4) (n1 := nc - 15020) dX10_init_35 ka_long (by decide) (len := 4940) rfl (by decide) (by omega) (by omega) hG52 (e_cons hL53 hE57) (fun a58 T59 hG60 cn61 oa62 => ?_)
  have hK64 := k_cn hL53 cn61 hK54
  have hZ65 := zf_cn hZ55 hL53 cn61
  have hC66 := cf_cn hC56 cn61
  have hE67 := e_cn hE57 cn61
  have f68 := fk_cn f49 hL53 cn61
  have f69 := fk_cn f50 hL53 cn61
  have f70 := fk_cn f51 hL53 cn61
  have hL63 := l_cn hL53 cn61
  refine tt_putR (id := 645) (x := some a58) dX10_init_37 fl_10_20 rfl rfl ⟨hL63, hK64⟩ rfl rfl (by decide) ?_
  have f71 := fk_R (j := 645) (x := some a58) f68
  have f72 := fk_R (j := 645) (x := some a58) f69
  have f73 := fk_R (j := 645) (x := some a58) f70
  have f74 := fk_mk (k := 645) (o := o0) oa62
  have hG75 := gp_oR (k := 645) (x := some a58) hG60
  have hL76 : o0 ∈ hp_L (sp_R T59 645 o0 (some a58)) := by rw [hq_L_R]; exact hL63
  have hK77 : hp_K (sp_R T59 645 o0 (some a58)) o0 = 10 := by rw [hq_K_R]; exact hK64
  have hZ78 := zf_R (j := 645) (a := o0) (x := some a58) hZ65
  have hC79 := cf_R (k := 645) (x := some a58) hC66
  have hE80 : ∀ q ∈ E, q ∈ hp_L (sp_R T59 645 o0 (some a58)) := by rw [hq_L_R]; exact hE67
  refine tt_aload_n (j := 0) dX10_init_40 rfl ?_
  refine tt_sipush (v := 4940) dX10_init_41 rfl ?_
  refine gn_J (k1 := kc - 5) (n1 := nc - 19960) dX10_init_44 ka_long (by decide) (len := 4940) rfl (by decide) (by omega) (by omega) hG75 (e_cons hL76 hE80) (fun a81 T82 hG83 cn84 oa85 => ?_)
  have hK87 := k_cn hL76 cn84 hK77
  have hZ88 := zf_cn hZ78 hL76 cn84
  have hC89 := cf_cn hC79 cn84
  have hE90 := e_cn hE80 cn84
  have f91 := fk_cn f71 hL76 cn84
  have f92 := fk_cn f72 hL76 cn84
  have f93 := fk_cn f73 hL76 cn84
  have f94 := fk_cn f74 hL76 cn84
  have hL86 := l_cn hL76 cn84
  refine tt_putR (id := 646) (x := some a81) dX10_init_46 fl_10_23 rfl rfl ⟨hL86, hK87⟩ rfl rfl (by decide) ?_
  have f95 := fk_R (j := 646) (x := some a81) f91
  have f96 := fk_R (j := 646) (x := some a81) f92
  have f97 := fk_R (j := 646) (x := some a81) f93
  have f98 := fk_R (j := 646) (x := some a81) f94
  have f99 := fk_mk (k := 646) (o := o0) oa85
  have hG100 := gp_oR (k := 646) (x := some a81) hG83
  have hL101 : o0 ∈ hp_L (sp_R T82 646 o0 (some a81)) := by rw [hq_L_R]; exact hL86
  have hK102 : hp_K (sp_R T82 646 o0 (some a81)) o0 = 10 := by rw [hq_K_R]; exact hK87
  have hZ103 := zf_R (j := 646) (a := o0) (x := some a81) hZ88
  have hC104 := cf_R (k := 646) (x := some a81) hC89
  have hE105 : ∀ q ∈ E, q ∈ hp_L (sp_R T82 646 o0 (some a81)) := by rw [hq_L_R]; exact hE90
  refine tt_aload_n (j := 0) dX10_init_49 rfl ?_
  refine tt_sipush (v := 201) dX10_init_50 rfl ?_
  refine gn_I (k1 := kc - 6) (n1 := nc - 20161) dX10_init_53 ka_int (by decide) (len := 201) rfl (by decide) (by omega) (by omega) hG100 (e_cons hL101 hE105) (fun a106 T107 hG108 cn109 oa110 => ?_)
  have hK112 := k_cn hL101 cn109 hK102
  have hZ113 := zf_cn hZ103 hL101 cn109
  have hC114 := cf_cn hC104 cn109
  have hE115 := e_cn hE105 cn109
  have f116 := fk_cn f95 hL101 cn109
  have f117 := fk_cn f96 hL101 cn109
  have f118 := fk_cn f97 hL101 cn109
  have f119 := fk_cn f98 hL101 cn109
  have f120 := fk_cn f99 hL101 cn109
  have hL111 := l_cn hL101 cn109
  refine tt_putR (id := 647) (x := some a106) dX10_init_55 fl_10_26 rfl rfl ⟨hL111, hK112⟩ rfl rfl (by decide) ?_
  have f121 := fk_R (j := 647) (x := some a106) f116
  have f122 := fk_R (j := 647) (x := some a106) f117
  have f123 := fk_R (j := 647) (x := some a106) f118
  have f124 := fk_R (j := 647) (x := some a106) f119
  have f125 := fk_R (j := 647) (x := some a106) f120
  have f126 := fk_mk (k := 647) (o := o0) oa110
  have hG127 := gp_oR (k := 647) (x := some a106) hG108
  have hL128 : o0 ∈ hp_L (sp_R T107 647 o0 (some a106)) := by rw [hq_L_R]; exact hL111
  have hK129 : hp_K (sp_R T107 647 o0 (some a106)) o0 = 10 := by rw [hq_K_R]; exact hK112
  have hZ130 := zf_R (j := 647) (a := o0) (x := some a106) hZ113
  have hC131 := cf_R (k := 647) (x := some a106) hC114
  have hE132 : ∀ q ∈ E, q ∈ hp_L (sp_R T107 647 o0 (some a106)) := by rw [hq_L_R]; exact hE115
  refine tt_aload_n (j := 0) dX10_init_58 rfl ?_
  refine tt_sipush (v := 201) dX10_init_59 rfl ?_
  refine gn_Z (k1 := kc - 7) (n1 := nc - 20362) dX10_init_62 ka_boolean (by decide) (len := 201) rfl (by decide) (by omega) (by omega) hG127 (e_cons hL128 hE132) (fun a133 T134 hG135 cn136 oa137 => ?_)
  have hK139 := k_cn hL128 cn136 hK129
  have hZ140 := zf_cn hZ130 hL128 cn136
  have hC141 := cf_cn hC131 cn136
  have hE142 := e_cn hE132 cn136
  have f143 := fk_cn f121 hL128 cn136
  have f144 := fk_cn f122 hL128 cn136
  have f145 := fk_cn f123 hL128 cn136
  have f146 := fk_cn f124 hL128 cn136
  have f147 := fk_cn f125 hL128 cn136
  have f148 := fk_cn f126 hL128 cn136
  have hL138 := l_cn hL128 cn136
  refine tt_putR (id := 648) (x := some a133) dX10_init_64 fl_10_29 rfl rfl ⟨hL138, hK139⟩ rfl rfl (by decide) ?_
  have f149 := fk_R (j := 648) (x := some a133) f143
  have f150 := fk_R (j := 648) (x := some a133) f144
  have f151 := fk_R (j := 648) (x := some a133) f145
  have f152 := fk_R (j := 648) (x := some a133) f146
  have f153 := fk_R (j := 648) (x := some a133) f147
  have f154 := fk_R (j := 648) (x := some a133) f148
  have f155 := fk_mk (k := 648) (o := o0) oa137
  have hG156 := gp_oR (k := 648) (x := some a133) hG135
  have hL157 : o0 ∈ hp_L (sp_R T134 648 o0 (some a133)) := by rw [hq_L_R]; exact hL138
  have hK158 : hp_K (sp_R T134 648 o0 (some a133)) o0 = 10 := by rw [hq_K_R]; exact hK139
  have hZ159 := zf_R (j := 648) (a := o0) (x := some a133) hZ140
  have hC160 := cf_R (k := 648) (x := some a133) hC141
  have hE161 : ∀ q ∈ E, q ∈ hp_L (sp_R T134 648 o0 (some a133)) := by rw [hq_L_R]; exact hE142
  refine tt_aload_n (j := 0) dX10_init_67 rfl ?_
  refine tt_sipush (v := 202) dX10_init_68 rfl ?_
  refine gn_I (k1 := kc - 8) (n1 := nc - 20564) dX10_init_71 ka_int (by decide) (len := 202) rfl (by decide) (by omega) (by omega) hG156 (e_cons hL157 hE161) (fun a162 T163 hG164 cn165 oa166 => ?_)
  have hK168 := k_cn hL157 cn165 hK158
  have hZ169 := zf_cn hZ159 hL157 cn165
  have hC170 := cf_cn hC160 cn165
  have hE171 := e_cn hE161 cn165
  have f172 := fk_cn f149 hL157 cn165
  have f173 := fk_cn f150 hL157 cn165
  have f174 := fk_cn f151 hL157 cn165
  have f175 := fk_cn f152 hL157 cn165
  have f176 := fk_cn f153 hL157 cn165
  have f177 := fk_cn f154 hL157 cn165
  have f178 := fk_cn f155 hL157 cn165
  have hL167 := l_cn hL157 cn165
  refine tt_putR (id := 649) (x := some a162) dX10_init_73 fl_10_33 rfl rfl ⟨hL167, hK168⟩ rfl rfl (by decide) ?_
  have f179 := fk_R (j := 649) (x := some a162) f172
  have f180 := fk_R (j := 649) (x := some a162) f173
  have f181 := fk_R (j := 649) (x := some a162) f174
  have f182 := fk_R (j := 649) (x := some a162) f175
  have f183 := fk_R (j := 649) (x := some a162) f176
  have f184 := fk_R (j := 649) (x := some a162) f177
  have f185 := fk_R (j := 649) (x := some a162) f178
  have f186 := fk_mk (k := 649) (o := o0) oa166
  have hG187 := gp_oR (k := 649) (x := some a162) hG164
  have hL188 : o0 ∈ hp_L (sp_R T163 649 o0 (some a162)) := by rw [hq_L_R]; exact hL167
  have hK189 : hp_K (sp_R T163 649 o0 (some a162)) o0 = 10 := by rw [hq_K_R]; exact hK168
  have hZ190 := zf_R (j := 649) (a := o0) (x := some a162) hZ169
  have hC191 := cf_R (k := 649) (x := some a162) hC170
  have hE192 : ∀ q ∈ E, q ∈ hp_L (sp_R T163 649 o0 (some a162)) := by rw [hq_L_R]; exact hE171
  refine tt_aload_n (j := 0) dX10_init_76 rfl ?_
  refine tt_sipush (v := 202) dX10_init_77 rfl ?_
  refine gn_I (k1 := kc - 9) (n1 := nc - 20766) dX10_init_80 ka_int (by decide) (len := 202) rfl (by decide) (by omega) (by omega) hG187 (e_cons hL188 hE192) (fun a193 T194 hG195 cn196 oa197 => ?_)
  have hK199 := k_cn hL188 cn196 hK189
  have hZ200 := zf_cn hZ190 hL188 cn196
  have hC201 := cf_cn hC191 cn196
  have hE202 := e_cn hE192 cn196
  have f203 := fk_cn f179 hL188 cn196
  have f204 := fk_cn f180 hL188 cn196
  have f205 := fk_cn f181 hL188 cn196
  have f206 := fk_cn f182 hL188 cn196
  have f207 := fk_cn f183 hL188 cn196
  have f208 := fk_cn f184 hL188 cn196
  have f209 := fk_cn f185 hL188 cn196
  have f210 := fk_cn f186 hL188 cn196
  have hL198 := l_cn hL188 cn196
  refine tt_putR (id := 650) (x := some a193) dX10_init_82 fl_10_36 rfl rfl ⟨hL198, hK199⟩ rfl rfl (by decide) ?_
  have f211 := fk_R (j := 650) (x := some a193) f203
  have f212 := fk_R (j := 650) (x := some a193) f204
  have f213 := fk_R (j := 650) (x := some a193) f205
  have f214 := fk_R (j := 650) (x := some a193) f206
  have f215 := fk_R (j := 650) (x := some a193) f207
  have f216 := fk_R (j := 650) (x := some a193) f208
  have f217 := fk_R (j := 650) (x := some a193) f209
  have f218 := fk_R (j := 650) (x := some a193) f210
  have f219 := fk_mk (k := 650) (o := o0) oa197
  have hG220 := gp_oR (k := 650) (x := some a193) hG195
  have hL221 : o0 ∈ hp_L (sp_R T194 650 o0 (some a193)) := by rw [hq_L_R]; exact hL198
  have hK222 : hp_K (sp_R T194 650 o0 (some a193)) o0 = 10 := by rw [hq_K_R]; exact hK199
  have hZ223 := zf_R (j := 650) (a := o0) (x := some a193) hZ200
  have hC224 := cf_R (k := 650) (x := some a193) hC201
  have hE225 : ∀ q ∈ E, q ∈ hp_L (sp_R T194 650 o0 (some a193)) := by rw [hq_L_R]; exact hE202
  refine tt_aload_n (j := 0) dX10_init_85 rfl ?_
  refine tt_sipush (v := 202) dX10_init_86 rfl ?_
  refine gn_I (k1 := kc - 10) (n1 := nc - 20968) dX10_init_89 ka_int (by decide) (len := 202) rfl (by decide) (by omega) (by omega) hG220 (e_cons hL221 hE225) (fun a226 T227 hG228 cn229 oa230 => ?_)
  have hK232 := k_cn hL221 cn229 hK222
  have hZ233 := zf_cn hZ223 hL221 cn229
  have hC234 := cf_cn hC224 cn229
  have hE235 := e_cn hE225 cn229
  have f236 := fk_cn f211 hL221 cn229
  have f237 := fk_cn f212 hL221 cn229
  have f238 := fk_cn f213 hL221 cn229
  have f239 := fk_cn f214 hL221 cn229
  have f240 := fk_cn f215 hL221 cn229
  have f241 := fk_cn f216 hL221 cn229
  have f242 := fk_cn f217 hL221 cn229
  have f243 := fk_cn f218 hL221 cn229
  have f244 := fk_cn f219 hL221 cn229
  have hL231 := l_cn hL221 cn229
  refine tt_putR (id := 651) (x := some a226) dX10_init_91 fl_10_39 rfl rfl ⟨hL231, hK232⟩ rfl rfl (by decide) ?_
  have f245 := fk_R (j := 651) (x := some a226) f236
  have f246 := fk_R (j := 651) (x := some a226) f237
  have f247 := fk_R (j := 651) (x := some a226) f238
  have f248 := fk_R (j := 651) (x := some a226) f239
  have f249 := fk_R (j := 651) (x := some a226) f240
  have f250 := fk_R (j := 651) (x := some a226) f241
  have f251 := fk_R (j := 651) (x := some a226) f242
  have f252 := fk_R (j := 651) (x := some a226) f243
  have f253 := fk_R (j := 651) (x := some a226) f244
  have f254 := fk_mk (k := 651) (o := o0) oa230
  have hG255 := gp_oR (k := 651) (x := some a226) hG228
  have hL256 : o0 ∈ hp_L (sp_R T227 651 o0 (some a226)) := by rw [hq_L_R]; exact hL231
  have hK257 : hp_K (sp_R T227 651 o0 (some a226)) o0 = 10 := by rw [hq_K_R]; exact hK232
  have hZ258 := zf_R (j := 651) (a := o0) (x := some a226) hZ233
  have hC259 := cf_R (k := 651) (x := some a226) hC234
  have hE260 : ∀ q ∈ E, q ∈ hp_L (sp_R T227 651 o0 (some a226)) := by rw [hq_L_R]; exact hE235
  refine tt_aload_n (j := 0) dX10_init_94 rfl ?_
  refine tt_sipush (v := 202) dX10_init_95 rfl ?_
  refine gn_J (k1 := kc - 11) (n1 := nc - 21170) dX10_init_98 ka_long (by decide) (len := 202) rfl (by decide) (by omega) (by omega) hG255 (e_cons hL256 hE260) (fun a261 T262 hG263 cn264 oa265 => ?_)
  have hK267 := k_cn hL256 cn264 hK257
  have hZ268 := zf_cn hZ258 hL256 cn264
  have hC269 := cf_cn hC259 cn264
  have hE270 := e_cn hE260 cn264
  have f271 := fk_cn f245 hL256 cn264
  have f272 := fk_cn f246 hL256 cn264
  have f273 := fk_cn f247 hL256 cn264
  have f274 := fk_cn f248 hL256 cn264
  have f275 := fk_cn f249 hL256 cn264
  have f276 := fk_cn f250 hL256 cn264
  have f277 := fk_cn f251 hL256 cn264
  have f278 := fk_cn f252 hL256 cn264
  have f279 := fk_cn f253 hL256 cn264
  have f280 := fk_cn f254 hL256 cn264
  have hL266 := l_cn hL256 cn264
  refine tt_putR (id := 652) (x := some a261) dX10_init_100 fl_10_42 rfl rfl ⟨hL266, hK267⟩ rfl rfl (by decide) ?_
  have f281 := fk_R (j := 652) (x := some a261) f271
  have f282 := fk_R (j := 652) (x := some a261) f272
  have f283 := fk_R (j := 652) (x := some a261) f273
  have f284 := fk_R (j := 652) (x := some a261) f274
  have f285 := fk_R (j := 652) (x := some a261) f275
  have f286 := fk_R (j := 652) (x := some a261) f276
  have f287 := fk_R (j := 652) (x := some a261) f277
  have f288 := fk_R (j := 652) (x := some a261) f278
  have f289 := fk_R (j := 652) (x := some a261) f279
  have f290 := fk_R (j := 652) (x := some a261) f280
  have f291 := fk_mk (k := 652) (o := o0) oa265
  have hG292 := gp_oR (k := 652) (x := some a261) hG263
  have hL293 : o0 ∈ hp_L (sp_R T262 652 o0 (some a261)) := by rw [hq_L_R]; exact hL266
  have hK294 : hp_K (sp_R T262 652 o0 (some a261)) o0 = 10 := by rw [hq_K_R]; exact hK267
  have hZ295 := zf_R (j := 652) (a := o0) (x := some a261) hZ268
  have hC296 := cf_R (k := 652) (x := some a261) hC269
  have hE297 : ∀ q ∈ E, q ∈ hp_L (sp_R T262 652 o0 (some a261)) := by rw [hq_L_R]; exact hE270
  refine tt_aload_n (j := 0) dX10_init_103 rfl ?_
  refine tt_iconst (v := (-1)) dX10_init_104 rfl ?_
  refine tt_putI (id := 664) (x := (-1)) dX10_init_105 fl_10_45 rfl rfl ⟨hL293, hK294⟩ rfl rfl (by decide) ?_
  have f298 := fk_I (j := 664) (v := (-1)) f281
  have f299 := fk_I (j := 664) (v := (-1)) f282
  have f300 := fk_I (j := 664) (v := (-1)) f283
  have f301 := fk_I (j := 664) (v := (-1)) f284
  have f302 := fk_I (j := 664) (v := (-1)) f285
  have f303 := fk_I (j := 664) (v := (-1)) f286
  have f304 := fk_I (j := 664) (v := (-1)) f287
  have f305 := fk_I (j := 664) (v := (-1)) f288
  have f306 := fk_I (j := 664) (v := (-1)) f289
  have f307 := fk_I (j := 664) (v := (-1)) f290
  have f308 := fk_I (j := 664) (v := (-1)) f291
  have i309 : hp_I (sp_I (sp_R T262 652 o0 (some a261)) 664 o0 (-1)) 664 o0 = (-1) := by rw [hq_I_I, up2_self]
  have hG310 := gp_oI (k := 664) (v := (-1)) hG292
  have hL311 : o0 ∈ hp_L (sp_I (sp_R T262 652 o0 (some a261)) 664 o0 (-1)) := by rw [hq_L_I]; exact hL293
  have hK312 : hp_K (sp_I (sp_R T262 652 o0 (some a261)) 664 o0 (-1)) o0 = 10 := by rw [hq_K_I]; exact hK294
  have hZ313 := zf_I (j := 664) (v := (-1)) hZ295
  have hC314 := cf_I (k := 664) (v := (-1)) hC296
  have hE315 : ∀ q ∈ E, q ∈ hp_L (sp_I (sp_R T262 652 o0 (some a261)) 664 o0 (-1)) := by rw [hq_L_I]; exact hE297
  refine tt_aload_n (j := 0) dX10_init_108 rfl ?_
  refine tt_bipush (v := 24) dX10_init_109 rfl ?_
  refine gn_J (k1 := kc - 12) (n1 := nc - 21194) dX10_init_111 ka_long (by decide) (len := 24) rfl (by decide) (by omega) (by omega) hG310 (e_cons hL311 hE315) (fun a316 T317 hG318 cn319 oa320 => ?_)
  have hK322 := k_cn hL311 cn319 hK312
  have hZ323 := zf_cn hZ313 hL311 cn319
  have hC324 := cf_cn hC314 cn319
  have hE325 := e_cn hE315 cn319
  have f326 := fk_cn f298 hL311 cn319
  have f327 := fk_cn f299 hL311 cn319
  have f328 := fk_cn f300 hL311 cn319
  have f329 := fk_cn f301 hL311 cn319
  have f330 := fk_cn f302 hL311 cn319
  have f331 := fk_cn f303 hL311 cn319
  have f332 := fk_cn f304 hL311 cn319
  have f333 := fk_cn f305 hL311 cn319
  have f334 := fk_cn f306 hL311 cn319
  have f335 := fk_cn f307 hL311 cn319
  have f336 := fk_cn f308 hL311 cn319
  have i337 := ((cn319.2.1 o0 hL311).2 664).trans i309
  have hL321 := l_cn hL311 cn319
  refine tt_putR (id := 665) (x := some a316) dX10_init_113 fl_10_49 rfl rfl ⟨hL321, hK322⟩ rfl rfl (by decide) ?_
  have f338 := fk_R (j := 665) (x := some a316) f326
  have f339 := fk_R (j := 665) (x := some a316) f327
  have f340 := fk_R (j := 665) (x := some a316) f328
  have f341 := fk_R (j := 665) (x := some a316) f329
  have f342 := fk_R (j := 665) (x := some a316) f330
  have f343 := fk_R (j := 665) (x := some a316) f331
  have f344 := fk_R (j := 665) (x := some a316) f332
  have f345 := fk_R (j := 665) (x := some a316) f333
  have f346 := fk_R (j := 665) (x := some a316) f334
  have f347 := fk_R (j := 665) (x := some a316) f335
  have f348 := fk_R (j := 665) (x := some a316) f336
  have f349 := fk_mk (k := 665) (o := o0) oa320
  have i350 : hp_I (sp_R T317 665 o0 (some a316)) 664 o0 = (-1) := by rw [hq_I_R]; exact i337
  have hG351 := gp_oR (k := 665) (x := some a316) hG318
  have hL352 : o0 ∈ hp_L (sp_R T317 665 o0 (some a316)) := by rw [hq_L_R]; exact hL321
  have hK353 : hp_K (sp_R T317 665 o0 (some a316)) o0 = 10 := by rw [hq_K_R]; exact hK322
  have hZ354 := zf_R (j := 665) (a := o0) (x := some a316) hZ323
  have hC355 := cf_R (k := 665) (x := some a316) hC324
  have hE356 : ∀ q ∈ E, q ∈ hp_L (sp_R T317 665 o0 (some a316)) := by rw [hq_L_R]; exact hE325
  refine tt_aload_n (j := 0) dX10_init_116 rfl ?_
  refine tt_bipush (v := 24) dX10_init_117 rfl ?_
  refine gn_J (k1 := kc - 13) (n1 := nc - 21218) dX10_init_119 ka_long (by decide) (len := 24) rfl (by decide) (by omega) (by omega) hG351 (e_cons hL352 hE356) (fun a357 T358 hG359 cn360 oa361 => ?_)
  have hK363 := k_cn hL352 cn360 hK353
  have hZ364 := zf_cn hZ354 hL352 cn360
  have hC365 := cf_cn hC355 cn360
  have hE366 := e_cn hE356 cn360
  have f367 := fk_cn f338 hL352 cn360
  have f368 := fk_cn f339 hL352 cn360
  have f369 := fk_cn f340 hL352 cn360
  have f370 := fk_cn f341 hL352 cn360
  have f371 := fk_cn f342 hL352 cn360
  have f372 := fk_cn f343 hL352 cn360
  have f373 := fk_cn f344 hL352 cn360
  have f374 := fk_cn f345 hL352 cn360
  have f375 := fk_cn f346 hL352 cn360
  have f376 := fk_cn f347 hL352 cn360
  have f377 := fk_cn f348 hL352 cn360
  have f378 := fk_cn f349 hL352 cn360
  have i379 := ((cn360.2.1 o0 hL352).2 664).trans i350
  have hL362 := l_cn hL352 cn360
  refine tt_putR (id := 666) (x := some a357) dX10_init_121 fl_10_52 rfl rfl ⟨hL362, hK363⟩ rfl rfl (by decide) ?_
  have f380 := fk_R (j := 666) (x := some a357) f367
  have f381 := fk_R (j := 666) (x := some a357) f368
  have f382 := fk_R (j := 666) (x := some a357) f369
  have f383 := fk_R (j := 666) (x := some a357) f370
  have f384 := fk_R (j := 666) (x := some a357) f371
  have f385 := fk_R (j := 666) (x := some a357) f372
  have f386 := fk_R (j := 666) (x := some a357) f373
  have f387 := fk_R (j := 666) (x := some a357) f374
  have f388 := fk_R (j := 666) (x := some a357) f375
  have f389 := fk_R (j := 666) (x := some a357) f376
  have f390 := fk_R (j := 666) (x := some a357) f377
  have f391 := fk_R (j := 666) (x := some a357) f378
  have f392 := fk_mk (k := 666) (o := o0) oa361
  have i393 : hp_I (sp_R T358 666 o0 (some a357)) 664 o0 = (-1) := by rw [hq_I_R]; exact i379
  have hG394 := gp_oR (k := 666) (x := some a357) hG359
  have hL395 : o0 ∈ hp_L (sp_R T358 666 o0 (some a357)) := by rw [hq_L_R]; exact hL362
  have hK396 : hp_K (sp_R T358 666 o0 (some a357)) o0 = 10 := by rw [hq_K_R]; exact hK363
  have hZ397 := zf_R (j := 666) (a := o0) (x := some a357) hZ364
  have hC398 := cf_R (k := 666) (x := some a357) hC365
  have hE399 : ∀ q ∈ E, q ∈ hp_L (sp_R T358 666 o0 (some a357)) := by rw [hq_L_R]; exact hE366
  obtain ⟨gD, oD⟩ := gi_done hG394 hL395 hE hK396 (by decide) [(642, 0, 200), (653, 0, 1), (654, 0, 200), (662, 0, 1), (663, 0, 1), (664, -2, 199), (667, 0, 1), (668, 0, 1), (669, 0, 1), (670, 0, 1), (671, 0, 1), (672, 0, 15), (674, 0, 7), (676, 0, 1)] (by decide) (fa_cons (zf_rg hZ397) (fa_cons (zf_rg hZ397) (fa_cons (zf_rg hZ397) (fa_cons (zf_rg hZ397) (fa_cons (zf_rg hZ397) (fa_cons (by show Rg (-2) 199 (hp_I (sp_R T358 666 o0 (some a357)) 664 o0); rw [i393]; exact ⟨by decide, by decide⟩) (fa_cons (zf_rg hZ397) (fa_cons (zf_rg hZ397) (fa_cons (zf_rg hZ397) (fa_cons (zf_rg hZ397) (fa_cons (zf_rg hZ397) (fa_cons (zf_rg hZ397) (fa_cons (zf_rg hZ397) (fa_cons (zf_rg hZ397) fa_nil)))))))))))))) [(641, 32, 200), (643, 32, 4940), (644, 33, 4940), (645, 33, 4940), (646, 33, 4940), (647, 32, 201), (648, 34, 201), (649, 32, 202), (650, 32, 202), (651, 32, 202), (652, 33, 202), (665, 33, 24), (666, 33, 24)] (by decide) (fa_cons ⟨_, f380⟩ (fa_cons ⟨_, f381⟩ (fa_cons ⟨_, f382⟩ (fa_cons ⟨_, f383⟩ (fa_cons ⟨_, f384⟩ (fa_cons ⟨_, f385⟩ (fa_cons ⟨_, f386⟩ (fa_cons ⟨_, f387⟩ (fa_cons ⟨_, f388⟩ (fa_cons ⟨_, f389⟩ (fa_cons ⟨_, f390⟩ (fa_cons ⟨_, f391⟩ (fa_cons ⟨_, f392⟩ fa_nil)))))))))))))
  refine ct_X10 gD oD (fun r T x y h => ?_)
  obtain ⟨g1, g2, ⟨v, rfl, hv, -, hx9, hy9⟩ | ⟨X, hX, -⟩⟩ := h
  · obtain rfl : v = none := hv
    rw [hx9, hy9]; exact hP T g1 (oa_af oD g2) (cf_af hC398 g2) ((g2.2.2.1 642 (by decide) o0 oD.1).trans (hZ397 642 (by decide))) ((g2.2.2.1 663 (by decide) o0 oD.1).trans (hZ397 663 (by decide)))
  · cases hX
