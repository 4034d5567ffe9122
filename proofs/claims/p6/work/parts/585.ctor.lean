/-- an array of bytes behind the field k of o, all 0, that isn't in B -/
def Ar (B : List Nat) (T : Hp) (k o : Nat) : Prop := ∃ b, hp_R T k o = some b ∧ b ∉ B ∧ b ∈ hp_L T ∧ hp_N T b = 200 ∧ hp_i T b = fun _ => 0
section CTX
variable {xi : SX} {M : MD} {pc : Nat} {L : List (Nat × Value)} {rest : List Value} {S T : Hp} {k0 n0 k1 n1 : Nat} {P : Po} {E B ws : List Nat} {x : Int32} {len k j o a n : Nat} {v : Int32} {y : Option Nat}
theorem gn_Ix (h : decode (md_c M) pc = .ok (.newarray .int, 2)) (hw : Cond.arrayClass .int ∈ wT) (hx : ¬ x < 0) (hlen : x.toNatClampNeg = len) (hb : len ≤ 1000000) (hk : k1 + 1 ≤ k0) (hn : n1 + len ≤ n0) (hG : GI S E) (hE : ∀ q ∈ E, q ∈ hp_L S) (kk : ∀ (a : Nat) (T : Hp), GI T E → Cn S T → Oa T E 32 len a → a ∉ hp_L S → hp_i T a = (fun _ => 0) → TT xi M (pc + 2) L (.ref a :: rest) T k1 n1 P) : TT xi M pc L (.int x :: rest) S k0 n0 P :=
  tt_newI h hw hx hlen hb hk hn (fun a ha => kk a _ (gi_a hG ha (by decide)) (cn_a ha) (oa_na ha hE) ha (by rw [hq_i_a, va_up_self]))
theorem ar_cn (h : Ar B S k o) (ho : o ∈ hp_L S) (h2 : Cn S T) : Ar B T k o := by
  obtain ⟨b, h1, h3, h4, h5, h6⟩ := h
  exact ⟨b, ((h2.2.1 o ho).1 k).trans h1, h3, l_cn h4 h2, (h2.1 b h4).2.2.trans h5, (h2.2.2.2 b h4 h5).trans h6⟩
theorem ar_R (h : Ar B S k o) (hk : k ≠ j := by decide) : Ar B (sp_R S j a y) k o := by
  obtain ⟨b, h1, h3, h4, h5, h6⟩ := h
  exact ⟨b, by rw [hq_R_R, up2_ne hk]; exact h1, h3, by rw [hq_L_R]; exact h4, by rw [hq_N_R]; exact h5, by rw [hq_i_R]; exact h6⟩
theorem ar_I (h : Ar B S k o) : Ar B (sp_I S j a v) k o := by
  obtain ⟨b, h1, h3, h4, h5, h6⟩ := h
  exact ⟨b, by rw [hq_R_I]; exact h1, h3, by rw [hq_L_I]; exact h4, by rw [hq_N_I]; exact h5, by rw [hq_i_I]; exact h6⟩
theorem ar_mk (h : Oa S E 32 200 a) (hB : a ∉ B) (hi : hp_i S a = fun _ => 0) : Ar B (sp_R S k o (some a)) k o := ⟨a, by rw [hq_R_R, up2_self], hB, by rw [hq_L_R]; exact h.1, by rw [hq_N_R]; exact h.2.2.2 (by decide), by rw [hq_i_R]; exact hi⟩
theorem ar_af (h : Ar B S k o) (ho : o ∈ hp_L S) (h2 : Af E ws S T) (h9 : 9995 ∉ ws := by decide) : Ar B T k o := by
  obtain ⟨b, h1, h3, h4, h5, h6⟩ := h
  exact ⟨b, (h2.2.1 o ho k).trans h1, h3, (h2.1 b h4).1, (h2.1 b h4).2.2.trans h5, (h2.2.2.2.2.2.2.2 h9 b h4 h5).trans h6⟩
theorem ar_w (h : Ar B S k o) : Ar [] S k o := by
  obtain ⟨b, h1, h3, h4⟩ := h
  exact ⟨b, h1, (fun q => nomatch q), h4⟩
theorem rl_cn {z : Option Nat} (h : hp_R S k o = z) (ho : o ∈ hp_L S) (h2 : Cn S T) : hp_R T k o = z := ((h2.2.1 o ho).1 k).trans h
theorem rl_R {z : Option Nat} (h : hp_R S k o = z) (hk : k ≠ j := by decide) : hp_R (sp_R S j a y) k o = z := by rw [hq_R_R, up2_ne hk]; exact h
theorem rl_I {z : Option Nat} (h : hp_R S k o = z) : hp_R (sp_I S j a v) k o = z := by rw [hq_R_I]; exact h
theorem li_R {q : Nat} (h : q ∈ hp_L S) : q ∈ hp_L (sp_R S j a y) := by rw [hq_L_R]; exact h
theorem li_I {q : Nat} (h : q ∈ hp_L S) : q ∈ hp_L (sp_I S j a v) := by rw [hq_L_I]; exact h
end CTX
set_option maxHeartbeats 4000000 in
theorem cd_7 {xi : SX} {S : Hp} {E : List Nat} {kc nc : Nat} {P : Po} {o0 : Nat}  (hG : GI S (o0 :: E)) (hL : o0 ∈ hp_L S) (hEL : ∀ q ∈ E, q ∈ hp_L S) (hE : o0 ∉ E) (hK : hp_K S o0 = 7) (hZ : Zf S o0 [])  (hkc : 0 ≤ kc) (hnc : 0 ≤ nc) (hP : ∀ T, GI T E → Oa T E 7 0 o0 → Cf o0 S T → P (.inl none) T (kc - 0) (nc - 0)) : TT xi M_X7_init 0 [(0, .ref o0)] [] S kc nc P := by
  have hC : Cf o0 S S := cf_rf
  refine tt_aload_n (j := 0) dX7_init_0 rfl ?_
  refine tt_objInit dX7_init_1 ca_X7_3 ⟨by decide, by decide⟩ ?_
  obtain ⟨gD, oD⟩ := gi_done hG hL hE hK (by decide) [] (by decide) fa_nil [] (by decide) fa_nil
  exact tt_vreturn dX7_init_4 rfl (hP _ gD oD hC )
set_option maxHeartbeats 4000000 in
theorem cd_1 {xi : SX} {S : Hp} {E : List Nat} {kc nc : Nat} {P : Po} {o0 : Nat}  (hG : GI S (o0 :: E)) (hL : o0 ∈ hp_L S) (hEL : ∀ q ∈ E, q ∈ hp_L S) (hE : o0 ∉ E) (hK : hp_K S o0 = 1) (hZ : Zf S o0 [])  (hkc : 1 ≤ kc) (hnc : 200 ≤ nc) (hP : ∀ T, GI T E → Oa T E 1 0 o0 → Cf o0 S T → hp_I T 65 o0 = 0 → Ar (hp_L S) T 64 o0 → P (.inl none) T (kc - 1) (nc - 200)) : TT xi M_X1_init 0 [(0, .ref o0)] [] S kc nc P := by
  have hC : Cf o0 S S := cf_rf
  refine tt_aload_n (j := 0) dX1_init_0 rfl ?_
  refine tt_objInit dX1_init_1 ca_X1_3 ⟨by decide, by decide⟩ ?_
  refine tt_aload_n (j := 0) dX1_init_4 rfl ?_
  refine tt_sipush (v := 200) dX1_init_5 rfl ?_
  refine gn_Ix (k1 := kc - 1) (n1 := nc - 200) dX1_init_8 ka_int (by decide) (len := 200) rfl (by decide) (by omega) (by omega) hG (e_cons hL hEL) (fun a1 T2 hG3 cn4 oa5 ni6 zi7 => ?_)
  have nb8 : a1 ∉ hp_L S := fun q => ni6 (hC.1 a1 q).1
  have hK10 := k_cn hL cn4 hK
  have hZ11 := zf_cn hZ hL cn4
  have hC12 := cf_cn hC cn4
  have hE13 := e_cn hEL cn4
  have hL9 := l_cn hL cn4
  refine tt_putR (id := 64) (x := some a1) dX1_init_10 fl_1_9 rfl rfl ⟨hL9, hK10⟩ rfl rfl (by decide) ?_
  have f14 := fk_mk (k := 64) (o := o0) oa5
  have xa15 := ar_mk (k := 64) (o := o0) oa5 nb8 zi7
  have hG16 := gp_oR (k := 64) (x := some a1) hG3
  have hL17 : o0 ∈ hp_L (sp_R T2 64 o0 (some a1)) := by rw [hq_L_R]; exact hL9
  have hK18 : hp_K (sp_R T2 64 o0 (some a1)) o0 = 1 := by rw [hq_K_R]; exact hK10
  have hZ19 := zf_R (j := 64) (a := o0) (x := some a1) hZ11
  have hC20 := cf_R (k := 64) (x := some a1) hC12
  have hE21 : ∀ q ∈ E, q ∈ hp_L (sp_R T2 64 o0 (some a1)) := by rw [hq_L_R]; exact hE13
  obtain ⟨gD, oD⟩ := gi_done hG16 hL17 hE hK18 (by decide) [(65, 0, 200)] (by decide) (fa_cons (zf_rg hZ19) fa_nil) [(64, 32, 200)] (by decide) (fa_cons ⟨_, f14⟩ fa_nil)
  exact tt_vreturn dX1_init_13 rfl (hP _ gD oD hC20 (hZ19 65 (by decide)) xa15)
set_option maxHeartbeats 4000000 in
theorem cd_3 {xi : SX} {S : Hp} {E : List Nat} {kc nc : Nat} {P : Po} {o0 : Nat} {p1 : Nat} (hG : GI S (o0 :: E)) (hL : o0 ∈ hp_L S) (hEL : ∀ q ∈ E, q ∈ hp_L S) (hE : o0 ∉ E) (hK : hp_K S o0 = 3) (hZ : Zf S o0 []) (g1 : Oa S (o0 :: E) 1 0 p1) (hkc : 0 ≤ kc) (hnc : 0 ≤ nc) (hP : ∀ T, GI T E → Oa T E 3 0 o0 → Cf o0 S T → hp_R T 192 o0 = some p1 → P (.inl none) T (kc - 0) (nc - 0)) : TT xi M_X3_init 0 [(0, .ref o0), (1, .ref p1)] [] S kc nc P := by
  have hC : Cf o0 S S := cf_rf
  refine tt_aload_n (j := 0) dX3_init_0 rfl ?_
  refine tt_objInit dX3_init_1 ca_X3_3 ⟨by decide, by decide⟩ ?_
  refine tt_aload_n (j := 0) dX3_init_4 rfl ?_
  refine tt_aload_n (j := 1) dX3_init_5 rfl ?_
  refine tt_putR (id := 192) (x := some p1) dX3_init_6 fl_3_9 rfl rfl ⟨hL, hK⟩ rfl rfl (by decide) ?_
  have f1 := fk_mk (k := 192) (o := o0) g1
  have g2 := oa_R (k := 192) (o := o0) (x := some p1) g1
  have hG3 := gp_oR (k := 192) (x := some p1) hG
  have hL4 : o0 ∈ hp_L (sp_R S 192 o0 (some p1)) := by rw [hq_L_R]; exact hL
  have hK5 : hp_K (sp_R S 192 o0 (some p1)) o0 = 3 := by rw [hq_K_R]; exact hK
  have hZ6 := zf_R (j := 192) (a := o0) (x := some p1) hZ
  have hC7 := cf_R (k := 192) (x := some p1) hC
  have hE8 : ∀ q ∈ E, q ∈ hp_L (sp_R S 192 o0 (some p1)) := by rw [hq_L_R]; exact hEL
  obtain ⟨gD, oD⟩ := gi_done hG3 hL4 hE hK5 (by decide) [(195, 0, 1)] (by decide) (fa_cons (zf_rg hZ6) fa_nil) [(192, 1, 0)] (by decide) (fa_cons ⟨_, f1⟩ fa_nil)
  exact tt_vreturn dX3_init_9 rfl (hP _ gD oD hC7 f1.1)
set_option maxHeartbeats 4000000 in
theorem cd_8 {xi : SX} {S : Hp} {E : List Nat} {kc nc : Nat} {P : Po} {o0 : Nat}  (hG : GI S (o0 :: E)) (hL : o0 ∈ hp_L S) (hEL : ∀ q ∈ E, q ∈ hp_L S) (hE : o0 ∉ E) (hK : hp_K S o0 = 8) (hZ : Zf S o0 [])  (hkc : 3 ≤ kc) (hnc : 72 ≤ nc) (hP : ∀ T, GI T E → Oa T E 8 0 o0 → Cf o0 S T → P (.inl none) T (kc - 3) (nc - 72)) : TT xi M_X8_init 0 [(0, .ref o0)] [] S kc nc P := by
  have hC : Cf o0 S S := cf_rf
  refine tt_aload_n (j := 0) dX8_init_0 rfl ?_
  refine tt_objInit dX8_init_1 ca_X8_3 ⟨by decide, by decide⟩ ?_
  refine tt_aload_n (j := 0) dX8_init_4 rfl ?_
  refine tt_bipush (v := 24) dX8_init_5 rfl ?_
  refine gn_J (k1 := kc - 1) (n1 := nc - 24) dX8_init_7 ka_long (by decide) (len := 24) rfl (by decide) (by omega) (by omega) hG (e_cons hL hEL) (fun a1 T2 hG3 cn4 oa5 => ?_)
  have hK9 := k_cn hL cn4 hK
  have hZ10 := zf_cn hZ hL cn4
  have hC11 := cf_cn hC cn4
  have hE12 := e_cn hEL cn4
  have hL8 := l_cn hL cn4
  refine tt_putR (id := 512) (x := some a1) dX8_init_9 fl_8_9 rfl rfl ⟨hL8, hK9⟩ rfl rfl (by decide) ?_
  have f13 := fk_mk (k := 512) (o := o0) oa5
  have hG14 := gp_oR (k := 512) (x := some a1) hG3
  have hL15 : o0 ∈ hp_L (sp_R T2 512 o0 (some a1)) := by rw [hq_L_R]; exact hL8
  have hK16 : hp_K (sp_R T2 512 o0 (some a1)) o0 = 8 := by rw [hq_K_R]; exact hK9
  have hZ17 := zf_R (j := 512) (a := o0) (x := some a1) hZ10
  have hC18 := cf_R (k := 512) (x := some a1) hC11
  have hE19 : ∀ q ∈ E, q ∈ hp_L (sp_R T2 512 o0 (some a1)) := by rw [hq_L_R]; exact hE12
  refine tt_aload_n (j := 0) dX8_init_12 rfl ?_
  refine tt_bipush (v := 24) dX8_init_13 rfl ?_
  refine gn_J (k1 := kc - 2) (n1 := nc - 48) dX8_init_15 ka_long (by decide) (len := 24) rfl (by decide) (by omega) (by omega) hG14 (e_cons hL15 hE19) (fun a20 T21 hG22 cn23 oa24 => ?_)
  have hK28 := k_cn hL15 cn23 hK16
  have hZ29 := zf_cn hZ17 hL15 cn23
  have hC30 := cf_cn hC18 cn23
  have hE31 := e_cn hE19 cn23
  have f32 := fk_cn f13 hL15 cn23
  have hL27 := l_cn hL15 cn23
  refine tt_putR (id := 513) (x := some a20) dX8_init_17 fl_8_15 rfl rfl ⟨hL27, hK28⟩ rfl rfl (by decide) ?_
  have f33 := fk_R (j := 513) (x := some a20) f32
  have f34 := fk_mk (k := 513) (o := o0) oa24
  have hG35 := gp_oR (k := 513) (x := some a20) hG22
  have hL36 : o0 ∈ hp_L (sp_R T21 513 o0 (some a20)) := by rw [hq_L_R]; exact hL27
  have hK37 : hp_K (sp_R T21 513 o0 (some a20)) o0 = 8 := by rw [hq_K_R]; exact hK28
  have hZ38 := zf_R (j := 513) (a := o0) (x := some a20) hZ29
  have hC39 := cf_R (k := 513) (x := some a20) hC30
  have hE40 : ∀ q ∈ E, q ∈ hp_L (sp_R T21 513 o0 (some a20)) := by rw [hq_L_R]; exact hE31
  refine tt_aload_n (j := 0) dX8_init_20 rfl ?_
  refine tt_bipush (v := 24) dX8_init_21 rfl ?_
  refine gn_J (k1 := kc - 3) (n1 := nc - 72) dX8_init_23 ka_long (by decide) (len := 24) rfl (by decide) (by omega) (by omega) hG35 (e_cons hL36 hE40) (fun a41 T42 hG43 cn44 oa45 => ?_)
  have hK49 := k_cn hL36 cn44 hK37
  have hZ50 := zf_cn hZ38 hL36 cn44
  have hC51 := cf_cn hC39 cn44
  have hE52 := e_cn hE40 cn44
  have f53 := fk_cn f33 hL36 cn44
  have f54 := fk_cn f34 hL36 cn44
  have hL48 := l_cn hL36 cn44
  refine tt_putR (id := 514) (x := some a41) dX8_init_25 fl_8_18 rfl rfl ⟨hL48, hK49⟩ rfl rfl (by decide) ?_
  have f55 := fk_R (j := 514) (x := some a41) f53
  have f56 := fk_R (j := 514) (x := some a41) f54
  have f57 := fk_mk (k := 514) (o := o0) oa45
  have hG58 := gp_oR (k := 514) (x := some a41) hG43
  have hL59 : o0 ∈ hp_L (sp_R T42 514 o0 (some a41)) := by rw [hq_L_R]; exact hL48
  have hK60 : hp_K (sp_R T42 514 o0 (some a41)) o0 = 8 := by rw [hq_K_R]; exact hK49
  have hZ61 := zf_R (j := 514) (a := o0) (x := some a41) hZ50
  have hC62 := cf_R (k := 514) (x := some a41) hC51
  have hE63 : ∀ q ∈ E, q ∈ hp_L (sp_R T42 514 o0 (some a41)) := by rw [hq_L_R]; exact hE52
  refine tt_aload_n (j := 0) dX8_init_28 rfl ?_
  refine tt_iconst (v := 0) dX8_init_29 rfl ?_
  refine tt_putI (id := 515) (x := 0) dX8_init_30 fl_8_21 rfl rfl ⟨hL59, hK60⟩ rfl rfl (by decide) ?_
  have f64 := fk_I (j := 515) (v := 0) f55
  have f65 := fk_I (j := 515) (v := 0) f56
  have f66 := fk_I (j := 515) (v := 0) f57
  have i67 : hp_I (sp_I (sp_R T42 514 o0 (some a41)) 515 o0 0) 515 o0 = 0 := by rw [hq_I_I, up2_self]
  have hG68 := gp_oI (k := 515) (v := 0) hG58
  have hL69 : o0 ∈ hp_L (sp_I (sp_R T42 514 o0 (some a41)) 515 o0 0) := by rw [hq_L_I]; exact hL59
  have hK70 : hp_K (sp_I (sp_R T42 514 o0 (some a41)) 515 o0 0) o0 = 8 := by rw [hq_K_I]; exact hK60
  have hZ71 := zf_I (j := 515) (v := 0) hZ61
  have hC72 := cf_I (k := 515) (v := 0) hC62
  have hE73 : ∀ q ∈ E, q ∈ hp_L (sp_I (sp_R T42 514 o0 (some a41)) 515 o0 0) := by rw [hq_L_I]; exact hE63
  refine tt_aload_n (j := 0) dX8_init_33 rfl ?_
  refine tt_iconst (v := (-1)) dX8_init_34 rfl ?_
  refine tt_putI (id := 516) (x := (-1)) dX8_init_35 fl_8_25 rfl rfl ⟨hL69, hK70⟩ rfl rfl (by decide) ?_
  have f74 := fk_I (j := 516) (v := (-1)) f64
  have f75 := fk_I (j := 516) (v := (-1)) f65
  have f76 := fk_I (j := 516) (v := (-1)) f66
  have i77 : hp_I (sp_I (sp_I (sp_R T42 514 o0 (some a41)) 515 o0 0) 516 o0 (-1)) 516 o0 = (-1) := by rw [hq_I_I, up2_self]
  have hG78 := gp_oI (k := 516) (v := (-1)) hG68
  have hL79 : o0 ∈ hp_L (sp_I (sp_I (sp_R T42 514 o0 (some a41)) 515 o0 0) 516 o0 (-1)) := by rw [hq_L_I]; exact hL69
  have hK80 : hp_K (sp_I (sp_I (sp_R T42 514 o0 (some a41)) 515 o0 0) 516 o0 (-1)) o0 = 8 := by rw [hq_K_I]; exact hK70
  have hZ81 := zf_I (j := 516) (v := (-1)) hZ71
  have hC82 := cf_I (k := 516) (v := (-1)) hC72
  have hE83 : ∀ q ∈ E, q ∈ hp_L (sp_I (sp_I (sp_R T42 514 o0 (some a41)) 515 o0 0) 516 o0 (-1)) := by rw [hq_L_I]; exact hE73
  refine tt_aload_n (j := 0) dX8_init_38 rfl ?_
  refine tt_iconst (v := (-1)) dX8_init_39 rfl ?_
  refine tt_putI (id := 517) (x := (-1)) dX8_init_40 fl_8_28 rfl rfl ⟨hL79, hK80⟩ rfl rfl (by decide) ?_
  have f84 := fk_I (j := 517) (v := (-1)) f74
  have f85 := fk_I (j := 517) (v := (-1)) f75
  have f86 := fk_I (j := 517) (v := (-1)) f76
  have i87 : hp_I (sp_I (sp_I (sp_I (sp_R T42 514 o0 (some a41)) 515 o0 0) 516 o0 (-1)) 517 o0 (-1)) 517 o0 = (-1) := by rw [hq_I_I, up2_self]
  have hG88 := gp_oI (k := 517) (v := (-1)) hG78
  have hL89 : o0 ∈ hp_L (sp_I (sp_I (sp_I (sp_R T42 514 o0 (some a41)) 515 o0 0) 516 o0 (-1)) 517 o0 (-1)) := by rw [hq_L_I]; exact hL79
  have hK90 : hp_K (sp_I (sp_I (sp_I (sp_R T42 514 o0 (some a41)) 515 o0 0) 516 o0 (-1)) 517 o0 (-1)) o0 = 8 := by rw [hq_K_I]; exact hK80
  have hZ91 := zf_I (j := 517) (v := (-1)) hZ81
  have hC92 := cf_I (k := 517) (v := (-1)) hC82
  have hE93 : ∀ q ∈ E, q ∈ hp_L (sp_I (sp_I (sp_I (sp_R T42 514 o0 (some a41)) 515 o0 0) 516 o0 (-1)) 517 o0 (-1)) := by rw [hq_L_I]; exact hE83
  obtain ⟨gD, oD⟩ := gi_done hG88 hL89 hE hK90 (by decide) [] (by decide) fa_nil [(512, 33, 24), (513, 33, 24), (514, 33, 24)] (by decide) (fa_cons ⟨_, f84⟩ (fa_cons ⟨_, f85⟩ (fa_cons ⟨_, f86⟩ fa_nil)))
  refine ct_X8 gD oD (fun r T x y h => ?_)
  obtain ⟨g1, g2, ⟨v, rfl, hv, -, hx9, hy9⟩ | ⟨X, hX, -⟩⟩ := h
  · obtain rfl : v = none := hv
    rw [hx9, hy9]; exact hP T g1 (oa_af oD g2) (cf_af hC92 g2)
  · cases hX
set_option maxHeartbeats 4000000 in
theorem cd_5 {xi : SX} {S : Hp} {E : List Nat} {kc nc : Nat} {P : Po} {o0 : Nat}  (hG : GI S (o0 :: E)) (hL : o0 ∈ hp_L S) (hEL : ∀ q ∈ E, q ∈ hp_L S) (hE : o0 ∉ E) (hK : hp_K S o0 = 5) (hZ : Zf S o0 [])  (hkc : 4 ≤ kc) (hnc : 79 ≤ nc) (hP : ∀ T, GI T E → Oa T E 5 0 o0 → Cf o0 S T → P (.inl none) T (kc - 4) (nc - 79)) : TT xi M_X5_init 0 [(0, .ref o0)] [] S kc nc P := by
  have hC : Cf o0 S S := cf_rf
  refine tt_aload_n (j := 0) dX5_init_0 rfl ?_
  refine tt_objInit dX5_init_1 ca_X5_1 ⟨by decide, by decide⟩ ?_
  refine tt_aload_n (j := 0) dX5_init_4 rfl ?_
  refine tt_newo (k1 := kc - 1) (n1 := nc - 7) dX5_init_5 nl_5_7 (by omega) (by show nc - 7 + 7 ≤ nc - 0; omega) (fun a1 ha2 => ?_)
  refine tt_dup dX5_init_8 rfl ?_
  refine tt_callI (As := []) (Mid := fun r T _ _ => r = .inl none ∧ GI T (o0 :: E) ∧ Oa T (o0 :: E) 8 0 a1 ∧ Cf a1 (nw_o S 8 a1) T ) (k1 := 3) (n1 := 72) (k2 := kc - 4) (n2 := nc - 79) dX5_init_9 ca_X5_9 ⟨by decide, by decide⟩ (Nat.le_of_ble_eq_true rfl) (Nat.le_of_ble_eq_true rfl) (by omega) (by omega) (cd_8 (gi_o hG ha2) in_o (e_cn (e_cons hL hEL) (cn_o ha2)) (fun q => ha2 (e_cons hL hEL _ q)) k_o zf_o  (kc := 3) (nc := 72) (by decide) (by decide) (fun T u1 u2 u3 => ⟨rfl, u1, u2, u3⟩)) (fun v T3 x y hw => ?_) (fun X T hw => by obtain ⟨e, -⟩ := hw; cases e)
  obtain ⟨e, hG4, oa5, cf6⟩ := hw
  cases e
  have cn7 := cn_new ha2 cf6
  show TT xi M_X5_init 12 [(0, .ref o0)] [.ref a1, .ref o0] T3 (kc - 4) (nc - 79) P
  have hK11 := k_cn hL cn7 hK
  have hZ12 := zf_cn hZ hL cn7
  have hC13 := cf_cn hC cn7
  have hE14 := e_cn hEL cn7
  have hL10 := l_cn hL cn7
  refine tt_putR (id := 320) (x := some a1) dX5_init_12 fl_5_10 rfl rfl ⟨hL10, hK11⟩ rfl rfl (by decide) ?_
  have f15 := fk_mk (k := 320) (o := o0) oa5
  have hG16 := gp_oR (k := 320) (x := some a1) hG4
  have hL17 : o0 ∈ hp_L (sp_R T3 320 o0 (some a1)) := by rw [hq_L_R]; exact hL10
  have hK18 : hp_K (sp_R T3 320 o0 (some a1)) o0 = 5 := by rw [hq_K_R]; exact hK11
  have hZ19 := zf_R (j := 320) (a := o0) (x := some a1) hZ12
  have hC20 := cf_R (k := 320) (x := some a1) hC13
  have hE21 : ∀ q ∈ E, q ∈ hp_L (sp_R T3 320 o0 (some a1)) := by rw [hq_L_R]; exact hE14
  obtain ⟨gD, oD⟩ := gi_done hG16 hL17 hE hK18 (by decide) [(322, 0, 1)] (by decide) (fa_cons (zf_rg hZ19) fa_nil) [(320, 8, 0)] (by decide) (fa_cons ⟨_, f15⟩ fa_nil)
  exact tt_vreturn dX5_init_15 rfl (hP _ gD oD hC20 )
set_option maxHeartbeats 4000000 in
theorem cd_0 {xi : SX} {S : Hp} {E : List Nat} {kc nc : Nat} {P : Po} {o0 : Nat}  (hG : GI S (o0 :: E)) (hL : o0 ∈ hp_L S) (hEL : ∀ q ∈ E, q ∈ hp_L S) (hE : o0 ∉ E) (hK : hp_K S o0 = 0) (hZ : Zf S o0 [])  (hkc : 2 ≤ kc) (hnc : 6 ≤ nc) (hP : ∀ T, GI T E → Oa T E 0 0 o0 → Cf o0 S T → P (.inl none) T (kc - 2) (nc - 6)) : TT xi M_X0_init 0 [(0, .ref o0)] [] S kc nc P := by
  have hC : Cf o0 S S := cf_rf
  refine tt_aload_n (j := 0) dX0_init_0 rfl ?_
  refine tt_objInit dX0_init_1 ca_X0_5 ⟨by decide, by decide⟩ ?_
  refine tt_aload_n (j := 0) dX0_init_4 rfl ?_
  refine tt_newo (k1 := kc - 1) (n1 := nc - 3) dX0_init_5 nl_0_11 (by omega) (by show nc - 3 + 3 ≤ nc - 0; omega) (fun a1 ha2 => ?_)
  refine tt_dup dX0_init_8 rfl ?_
  refine tt_callIN (As := []) (Mid := fun r T _ _ => r = .inl none ∧ GI T (o0 :: E) ∧ Oa T (o0 :: E) 7 0 a1 ∧ Cf a1 (nw_o S 7 a1) T ) (k1 := 0) (n1 := 0) (k2 := kc - 1) (n2 := nc - 3) dX0_init_9 ca_X0_13 ⟨by decide, by decide⟩ (Nat.le_of_ble_eq_true rfl) (Nat.le_of_ble_eq_true rfl) (by omega) (by omega) (cd_7 (gi_o hG ha2) in_o (e_cn (e_cons hL hEL) (cn_o ha2)) (fun q => ha2 (e_cons hL hEL _ q)) k_o zf_o  (kc := 0) (nc := 0) (by decide) (by decide) (fun T u1 u2 u3 => ⟨rfl, u1, u2, u3⟩)) (fun v T3 x y hw => ?_) (fun X T hw => by obtain ⟨e, -⟩ := hw; cases e)
  obtain ⟨e, hG4, oa5, cf6⟩ := hw
  cases e
  have cn7 := cn_new ha2 cf6
  show TT xi M_X0_init 12 [(0, .ref o0)] [.ref a1, .ref o0] T3 (kc - 1) (nc - 3) P
  have hK11 := k_cn hL cn7 hK
  have hZ12 := zf_cn hZ hL cn7
  have hC13 := cf_cn hC cn7
  have hE14 := e_cn hEL cn7
  have hL10 := l_cn hL cn7
  refine tt_putR (id := 0) (x := some a1) dX0_init_12 fl_0_14 rfl rfl ⟨hL10, hK11⟩ rfl rfl (by decide) ?_
  have f15 := fk_mk (k := 0) (o := o0) oa5
  have hG16 := gp_oR (k := 0) (x := some a1) hG4
  have hL17 : o0 ∈ hp_L (sp_R T3 0 o0 (some a1)) := by rw [hq_L_R]; exact hL10
  have hK18 : hp_K (sp_R T3 0 o0 (some a1)) o0 = 0 := by rw [hq_K_R]; exact hK11
  have hZ19 := zf_R (j := 0) (a := o0) (x := some a1) hZ12
  have hC20 := cf_R (k := 0) (x := some a1) hC13
  have hE21 : ∀ q ∈ E, q ∈ hp_L (sp_R T3 0 o0 (some a1)) := by rw [hq_L_R]; exact hE14
  refine tt_aload_n (j := 0) dX0_init_15 rfl ?_
  refine tt_newo (k1 := kc - 2) (n1 := nc - 6) dX0_init_16 nl_0_11 (by omega) (by show nc - 6 + 3 ≤ nc - 3; omega) (fun a22 ha23 => ?_)
  refine tt_dup dX0_init_19 rfl ?_
  refine tt_callIN (As := []) (Mid := fun r T _ _ => r = .inl none ∧ GI T (o0 :: E) ∧ Oa T (o0 :: E) 7 0 a22 ∧ Cf a22 (nw_o (sp_R T3 0 o0 (some a1)) 7 a22) T ) (k1 := 0) (n1 := 0) (k2 := kc - 2) (n2 := nc - 6) dX0_init_20 ca_X0_13 ⟨by decide, by decide⟩ (Nat.le_of_ble_eq_true rfl) (Nat.le_of_ble_eq_true rfl) (by omega) (by omega) (cd_7 (gi_o hG16 ha23) in_o (e_cn (e_cons hL17 hE21) (cn_o ha23)) (fun q => ha23 (e_cons hL17 hE21 _ q)) k_o zf_o  (kc := 0) (nc := 0) (by decide) (by decide) (fun T u1 u2 u3 => ⟨rfl, u1, u2, u3⟩)) (fun v T24 x y hw => ?_) (fun X T hw => by obtain ⟨e, -⟩ := hw; cases e)
  obtain ⟨e, hG25, oa26, cf27⟩ := hw
  cases e
  have cn28 := cn_new ha23 cf27
  show TT xi M_X0_init 23 [(0, .ref o0)] [.ref a22, .ref o0] T24 (kc - 2) (nc - 6) P
  have hK32 := k_cn hL17 cn28 hK18
  have hZ33 := zf_cn hZ19 hL17 cn28
  have hC34 := cf_cn hC20 cn28
  have hE35 := e_cn hE21 cn28
  have f36 := fk_cn f15 hL17 cn28
  have hL31 := l_cn hL17 cn28
  refine tt_putR (id := 1) (x := some a22) dX0_init_23 fl_0_18 rfl rfl ⟨hL31, hK32⟩ rfl rfl (by decide) ?_
  have f37 := fk_R (j := 1) (x := some a22) f36
  have f38 := fk_mk (k := 1) (o := o0) oa26
  have hG39 := gp_oR (k := 1) (x := some a22) hG25
  have hL40 : o0 ∈ hp_L (sp_R T24 1 o0 (some a22)) := by rw [hq_L_R]; exact hL31
  have hK41 : hp_K (sp_R T24 1 o0 (some a22)) o0 = 0 := by rw [hq_K_R]; exact hK32
  have hZ42 := zf_R (j := 1) (a := o0) (x := some a22) hZ33
  have hC43 := cf_R (k := 1) (x := some a22) hC34
  have hE44 : ∀ q ∈ E, q ∈ hp_L (sp_R T24 1 o0 (some a22)) := by rw [hq_L_R]; exact hE35
  obtain ⟨gD, oD⟩ := gi_done hG39 hL40 hE hK41 (by decide) [] (by decide) fa_nil [(0, 7, 0), (1, 7, 0)] (by decide) (fa_cons ⟨_, f37⟩ (fa_cons ⟨_, f38⟩ fa_nil))
  exact tt_vreturn dX0_init_26 rfl (hP _ gD oD hC43 )
set_option maxHeartbeats 4000000 in
theorem cd_2 {xi : SX} {S : Hp} {E : List Nat} {kc nc : Nat} {P : Po} {o0 : Nat}  (hG : GI S (o0 :: E)) (hL : o0 ∈ hp_L S) (hEL : ∀ q ∈ E, q ∈ hp_L S) (hE : o0 ∉ E) (hK : hp_K S o0 = 2) (hZ : Zf S o0 [])  (hkc : 3 ≤ kc) (hnc : 9 ≤ nc) (hP : ∀ T, GI T E → Oa T E 2 0 o0 → Cf o0 S T → P (.inl none) T (kc - 3) (nc - 9)) : TT xi M_X2_init 0 [(0, .ref o0)] [] S kc nc P := by
  have hC : Cf o0 S S := cf_rf
  refine tt_aload_n (j := 0) dX2_init_0 rfl ?_
  refine tt_objInit dX2_init_1 ca_X2_3 ⟨by decide, by decide⟩ ?_
  refine tt_aload_n (j := 0) dX2_init_4 rfl ?_
  refine tt_newo (k1 := kc - 1) (n1 := nc - 3) dX2_init_5 nl_2_9 (by omega) (by show nc - 3 + 3 ≤ nc - 0; omega) (fun a1 ha2 => ?_)
  refine tt_dup dX2_init_8 rfl ?_
  refine tt_callIN (As := []) (Mid := fun r T _ _ => r = .inl none ∧ GI T (o0 :: E) ∧ Oa T (o0 :: E) 7 0 a1 ∧ Cf a1 (nw_o S 7 a1) T ) (k1 := 0) (n1 := 0) (k2 := kc - 1) (n2 := nc - 3) dX2_init_9 ca_X2_11 ⟨by decide, by decide⟩ (Nat.le_of_ble_eq_true rfl) (Nat.le_of_ble_eq_true rfl) (by omega) (by omega) (cd_7 (gi_o hG ha2) in_o (e_cn (e_cons hL hEL) (cn_o ha2)) (fun q => ha2 (e_cons hL hEL _ q)) k_o zf_o  (kc := 0) (nc := 0) (by decide) (by decide) (fun T u1 u2 u3 => ⟨rfl, u1, u2, u3⟩)) (fun v T3 x y hw => ?_) (fun X T hw => by obtain ⟨e, -⟩ := hw; cases e)
  obtain ⟨e, hG4, oa5, cf6⟩ := hw
  cases e
  have cn7 := cn_new ha2 cf6
  show TT xi M_X2_init 12 [(0, .ref o0)] [.ref a1, .ref o0] T3 (kc - 1) (nc - 3) P
  have hK11 := k_cn hL cn7 hK
  have hZ12 := zf_cn hZ hL cn7
  have hC13 := cf_cn hC cn7
  have hE14 := e_cn hEL cn7
  have hL10 := l_cn hL cn7
  refine tt_putR (id := 128) (x := some a1) dX2_init_12 fl_2_12 rfl rfl ⟨hL10, hK11⟩ rfl rfl (by decide) ?_
  have f15 := fk_mk (k := 128) (o := o0) oa5
  have hG16 := gp_oR (k := 128) (x := some a1) hG4
  have hL17 : o0 ∈ hp_L (sp_R T3 128 o0 (some a1)) := by rw [hq_L_R]; exact hL10
  have hK18 : hp_K (sp_R T3 128 o0 (some a1)) o0 = 2 := by rw [hq_K_R]; exact hK11
  have hZ19 := zf_R (j := 128) (a := o0) (x := some a1) hZ12
  have hC20 := cf_R (k := 128) (x := some a1) hC13
  have hE21 : ∀ q ∈ E, q ∈ hp_L (sp_R T3 128 o0 (some a1)) := by rw [hq_L_R]; exact hE14
  refine tt_aload_n (j := 0) dX2_init_15 rfl ?_
  refine tt_newo (k1 := kc - 2) (n1 := nc - 6) dX2_init_16 nl_2_9 (by omega) (by show nc - 6 + 3 ≤ nc - 3; omega) (fun a22 ha23 => ?_)
  refine tt_dup dX2_init_19 rfl ?_
  refine tt_callIN (As := []) (Mid := fun r T _ _ => r = .inl none ∧ GI T (o0 :: E) ∧ Oa T (o0 :: E) 7 0 a22 ∧ Cf a22 (nw_o (sp_R T3 128 o0 (some a1)) 7 a22) T ) (k1 := 0) (n1 := 0) (k2 := kc - 2) (n2 := nc - 6) dX2_init_20 ca_X2_11 ⟨by decide, by decide⟩ (Nat.le_of_ble_eq_true rfl) (Nat.le_of_ble_eq_true rfl) (by omega) (by omega) (cd_7 (gi_o hG16 ha23) in_o (e_cn (e_cons hL17 hE21) (cn_o ha23)) (fun q => ha23 (e_cons hL17 hE21 _ q)) k_o zf_o  (kc := 0) (nc := 0) (by decide) (by decide) (fun T u1 u2 u3 => ⟨rfl, u1, u2, u3⟩)) (fun v T24 x y hw => ?_) (fun X T hw => by obtain ⟨e, -⟩ := hw; cases e)
  obtain ⟨e, hG25, oa26, cf27⟩ := hw
  cases e
  have cn28 := cn_new ha23 cf27
  show TT xi M_X2_init 23 [(0, .ref o0)] [.ref a22, .ref o0] T24 (kc - 2) (nc - 6) P
  have hK32 := k_cn hL17 cn28 hK18
  have hZ33 := zf_cn hZ19 hL17 cn28
  have hC34 := cf_cn hC20 cn28
  have hE35 := e_cn hE21 cn28
  have f36 := fk_cn f15 hL17 cn28
  have hL31 := l_cn hL17 cn28
  refine tt_putR (id := 129) (x := some a22) dX2_init_23 fl_2_18 rfl rfl ⟨hL31, hK32⟩ rfl rfl (by decide) ?_
  have f37 := fk_R (j := 129) (x := some a22) f36
  have f38 := fk_mk (k := 129) (o := o0) oa26
  have hG39 := gp_oR (k := 129) (x := some a22) hG25
  have hL40 : o0 ∈ hp_L (sp_R T24 129 o0 (some a22)) := by rw [hq_L_R]; exact hL31
  have hK41 : hp_K (sp_R T24 129 o0 (some a22)) o0 = 2 := by rw [hq_K_R]; exact hK32
  have hZ42 := zf_R (j := 129) (a := o0) (x := some a22) hZ33
  have hC43 := cf_R (k := 129) (x := some a22) hC34
  have hE44 : ∀ q ∈ E, q ∈ hp_L (sp_R T24 129 o0 (some a22)) := by rw [hq_L_R]; exact hE35
  refine tt_aload_n (j := 0) dX2_init_26 rfl ?_
  refine tt_newo (k1 := kc - 3) (n1 := nc - 9) dX2_init_27 nl_2_9 (by omega) (by show nc - 9 + 3 ≤ nc - 6; omega) (fun a45 ha46 => ?_)
  refine tt_dup dX2_init_30 rfl ?_
  refine tt_callIN (As := []) (Mid := fun r T _ _ => r = .inl none ∧ GI T (o0 :: E) ∧ Oa T (o0 :: E) 7 0 a45 ∧ Cf a45 (nw_o (sp_R T24 129 o0 (some a22)) 7 a45) T ) (k1 := 0) (n1 := 0) (k2 := kc - 3) (n2 := nc - 9) dX2_init_31 ca_X2_11 ⟨by decide, by decide⟩ (Nat.le_of_ble_eq_true rfl) (Nat.le_of_ble_eq_true rfl) (by omega) (by omega) (cd_7 (gi_o hG39 ha46) in_o (e_cn (e_cons hL40 hE44) (cn_o ha46)) (fun q => ha46 (e_cons hL40 hE44 _ q)) k_o zf_o  (kc := 0) (nc := 0) (by decide) (by decide) (fun T u1 u2 u3 => ⟨rfl, u1, u2, u3⟩)) (fun v T47 x y hw => ?_) (fun X T hw => by obtain ⟨e, -⟩ := hw; cases e)
  obtain ⟨e, hG48, oa49, cf50⟩ := hw
  cases e
  have cn51 := cn_new ha46 cf50
  show TT xi M_X2_init 34 [(0, .ref o0)] [.ref a45, .ref o0] T47 (kc - 3) (nc - 9) P
  have hK55 := k_cn hL40 cn51 hK41
  have hZ56 := zf_cn hZ42 hL40 cn51
  have hC57 := cf_cn hC43 cn51
  have hE58 := e_cn hE44 cn51
  have f59 := fk_cn f37 hL40 cn51
  have f60 := fk_cn f38 hL40 cn51
  have hL54 := l_cn hL40 cn51
  refine tt_putR (id := 130) (x := some a45) dX2_init_34 fl_2_21 rfl rfl ⟨hL54, hK55⟩ rfl rfl (by decide) ?_
  have f61 := fk_R (j := 130) (x := some a45) f59
  have f62 := fk_R (j := 130) (x := some a45) f60
  have f63 := fk_mk (k := 130) (o := o0) oa49
  have hG64 := gp_oR (k := 130) (x := some a45) hG48
  have hL65 : o0 ∈ hp_L (sp_R T47 130 o0 (some a45)) := by rw [hq_L_R]; exact hL54
  have hK66 : hp_K (sp_R T47 130 o0 (some a45)) o0 = 2 := by rw [hq_K_R]; exact hK55
  have hZ67 := zf_R (j := 130) (a := o0) (x := some a45) hZ56
  have hC68 := cf_R (k := 130) (x := some a45) hC57
  have hE69 : ∀ q ∈ E, q ∈ hp_L (sp_R T47 130 o0 (some a45)) := by rw [hq_L_R]; exact hE58
  obtain ⟨gD, oD⟩ := gi_done hG64 hL65 hE hK66 (by decide) [] (by decide) fa_nil [(128, 7, 0), (129, 7, 0), (130, 7, 0)] (by decide) (fa_cons ⟨_, f61⟩ (fa_cons ⟨_, f62⟩ (fa_cons ⟨_, f63⟩ fa_nil)))
  exact tt_vreturn dX2_init_37 rfl (hP _ gD oD hC68 )
set_option maxHeartbeats 4000000 in
theorem cd_4 {xi : SX} {S : Hp} {E : List Nat} {kc nc : Nat} {P : Po} {o0 : Nat} {p1 : Nat} {p2 : Nat} (hG : GI S (o0 :: E)) (hL : o0 ∈ hp_L S) (hEL : ∀ q ∈ E, q ∈ hp_L S) (hE : o0 ∉ E) (hK : hp_K S o0 = 4) (hZ : Zf S o0 []) (g1 : Oa S (o0 :: E) 1 0 p1) (g2 : Oa S (o0 :: E) 3 0 p2) (hkc : 15 ≤ kc) (hnc : 308 ≤ nc) (hP : ∀ T, GI T E → Oa T E 4 0 o0 → Cf o0 S T → P (.inl none) T (kc - 15) (nc - 308)) : TT xi M_X4_init 0 [(0, .ref o0), (1, .ref p1), (2, .ref p2)] [] S kc nc P := by
  have hC : Cf o0 S S := cf_rf
  refine tt_aload_n (j := 0) dX4_init_0 rfl ?_
  refine tt_objInit dX4_init_1 ca_X4_3 ⟨by decide, by decide⟩ ?_
  refine tt_aload_n (j := 0) dX4_init_4 rfl ?_
  refine tt_sipush (v := 200) dX4_init_5 rfl ?_
  refine gn_P (k1 := kc - 1) (n1 := nc - 200) dX4_init_8 wd_157 (by decide) (len := 200) rfl (by decide) (by omega) (by omega) hG (e_cons hL hEL) (fun a1 T2 hG3 cn4 oa5 => ?_)
  have hK9 := k_cn hL cn4 hK
  have hZ10 := zf_cn hZ hL cn4
  have hC11 := cf_cn hC cn4
  have hE12 := e_cn hEL cn4
  have g13 := oa_cn g1 cn4
  have g14 := oa_cn g2 cn4
  have hL8 := l_cn hL cn4
  refine tt_putR (id := 258) (x := some a1) dX4_init_11 fl_4_11 rfl rfl ⟨hL8, hK9⟩ rfl rfl (by decide) ?_
  have f15 := fk_mk (k := 258) (o := o0) oa5
  have g16 := oa_R (k := 258) (o := o0) (x := some a1) g13
  have g17 := oa_R (k := 258) (o := o0) (x := some a1) g14
  have hG18 := gp_oR (k := 258) (x := some a1) hG3
  have hL19 : o0 ∈ hp_L (sp_R T2 258 o0 (some a1)) := by rw [hq_L_R]; exact hL8
  have hK20 : hp_K (sp_R T2 258 o0 (some a1)) o0 = 4 := by rw [hq_K_R]; exact hK9
  have hZ21 := zf_R (j := 258) (a := o0) (x := some a1) hZ10
  have hC22 := cf_R (k := 258) (x := some a1) hC11
  have hE23 : ∀ q ∈ E, q ∈ hp_L (sp_R T2 258 o0 (some a1)) := by rw [hq_L_R]; exact hE12
  refine tt_aload_n (j := 0) dX4_init_14 rfl ?_
  refine tt_newo (k1 := kc - 2) (n1 := nc - 207) dX4_init_15 nl_4_17 (by omega) (by show nc - 207 + 7 ≤ nc - 200; omega) (fun a24 ha25 => ?_)
  refine tt_dup dX4_init_18 rfl ?_
  refine tt_callI (As := []) (Mid := fun r T _ _ => r = .inl none ∧ GI T (o0 :: E) ∧ Oa T (o0 :: E) 8 0 a24 ∧ Cf a24 (nw_o (sp_R T2 258 o0 (some a1)) 8 a24) T ) (k1 := 3) (n1 := 72) (k2 := kc - 5) (n2 := nc - 279) dX4_init_19 ca_X4_19 ⟨by decide, by decide⟩ (Nat.le_of_ble_eq_true rfl) (Nat.le_of_ble_eq_true rfl) (by omega) (by omega) (cd_8 (gi_o hG18 ha25) in_o (e_cn (e_cons hL19 hE23) (cn_o ha25)) (fun q => ha25 (e_cons hL19 hE23 _ q)) k_o zf_o  (kc := 3) (nc := 72) (by decide) (by decide) (fun T u1 u2 u3 => ⟨rfl, u1, u2, u3⟩)) (fun v T26 x y hw => ?_) (fun X T hw => by obtain ⟨e, -⟩ := hw; cases e)
  obtain ⟨e, hG27, oa28, cf29⟩ := hw
  cases e
  have cn30 := cn_new ha25 cf29
  show TT xi M_X4_init 22 [(0, .ref o0), (1, .ref p1), (2, .ref p2)] [.ref a24, .ref o0] T26 (kc - 5) (nc - 279) P
  have hK34 := k_cn hL19 cn30 hK20
  have hZ35 := zf_cn hZ21 hL19 cn30
  have hC36 := cf_cn hC22 cn30
  have hE37 := e_cn hE23 cn30
  have f38 := fk_cn f15 hL19 cn30
  have g39 := oa_cn g16 cn30
  have g40 := oa_cn g17 cn30
  have hL33 := l_cn hL19 cn30
  refine tt_putR (id := 259) (x := some a24) dX4_init_22 fl_4_20 rfl rfl ⟨hL33, hK34⟩ rfl rfl (by decide) ?_
  have f41 := fk_R (j := 259) (x := some a24) f38
  have f42 := fk_mk (k := 259) (o := o0) oa28
  have g43 := oa_R (k := 259) (o := o0) (x := some a24) g39
  have g44 := oa_R (k := 259) (o := o0) (x := some a24) g40
  have hG45 := gp_oR (k := 259) (x := some a24) hG27
  have hL46 : o0 ∈ hp_L (sp_R T26 259 o0 (some a24)) := by rw [hq_L_R]; exact hL33
  have hK47 : hp_K (sp_R T26 259 o0 (some a24)) o0 = 4 := by rw [hq_K_R]; exact hK34
  have hZ48 := zf_R (j := 259) (a := o0) (x := some a24) hZ35
  have hC49 := cf_R (k := 259) (x := some a24) hC36
  have hE50 : ∀ q ∈ E, q ∈ hp_L (sp_R T26 259 o0 (some a24)) := by rw [hq_L_R]; exact hE37
  refine tt_aload_n (j := 0) dX4_init_25 rfl ?_
  refine tt_newo (k1 := kc - 6) (n1 := nc - 282) dX4_init_26 nl_4_24 (by omega) (by show nc - 282 + 3 ≤ nc - 279; omega) (fun a51 ha52 => ?_)
  refine tt_dup dX4_init_29 rfl ?_
  refine tt_callIN (As := []) (Mid := fun r T _ _ => r = .inl none ∧ GI T (o0 :: E) ∧ Oa T (o0 :: E) 2 0 a51 ∧ Cf a51 (nw_o (sp_R T26 259 o0 (some a24)) 2 a51) T ) (k1 := 3) (n1 := 9) (k2 := kc - 9) (n2 := nc - 291) dX4_init_30 ca_X4_26 ⟨by decide, by decide⟩ (Nat.le_of_ble_eq_true rfl) (Nat.le_of_ble_eq_true rfl) (by omega) (by omega) (cd_2 (gi_o hG45 ha52) in_o (e_cn (e_cons hL46 hE50) (cn_o ha52)) (fun q => ha52 (e_cons hL46 hE50 _ q)) k_o zf_o  (kc := 3) (nc := 9) (by decide) (by decide) (fun T u1 u2 u3 => ⟨rfl, u1, u2, u3⟩)) (fun v T53 x y hw => ?_) (fun X T hw => by obtain ⟨e, -⟩ := hw; cases e)
  obtain ⟨e, hG54, oa55, cf56⟩ := hw
  cases e
  have cn57 := cn_new ha52 cf56
  show TT xi M_X4_init 33 [(0, .ref o0), (1, .ref p1), (2, .ref p2)] [.ref a51, .ref o0] T53 (kc - 9) (nc - 291) P
  have hK61 := k_cn hL46 cn57 hK47
  have hZ62 := zf_cn hZ48 hL46 cn57
  have hC63 := cf_cn hC49 cn57
  have hE64 := e_cn hE50 cn57
  have f65 := fk_cn f41 hL46 cn57
  have f66 := fk_cn f42 hL46 cn57
  have g67 := oa_cn g43 cn57
  have g68 := oa_cn g44 cn57
  have hL60 := l_cn hL46 cn57
  refine tt_putR (id := 260) (x := some a51) dX4_init_33 fl_4_27 rfl rfl ⟨hL60, hK61⟩ rfl rfl (by decide) ?_
  have f69 := fk_R (j := 260) (x := some a51) f65
  have f70 := fk_R (j := 260) (x := some a51) f66
  have f71 := fk_mk (k := 260) (o := o0) oa55
  have g72 := oa_R (k := 260) (o := o0) (x := some a51) g67
  have g73 := oa_R (k := 260) (o := o0) (x := some a51) g68
  have hG74 := gp_oR (k := 260) (x := some a51) hG54
  have hL75 : o0 ∈ hp_L (sp_R T53 260 o0 (some a51)) := by rw [hq_L_R]; exact hL60
  have hK76 : hp_K (sp_R T53 260 o0 (some a51)) o0 = 4 := by rw [hq_K_R]; exact hK61
  have hZ77 := zf_R (j := 260) (a := o0) (x := some a51) hZ62
  have hC78 := cf_R (k := 260) (x := some a51) hC63
  have hE79 : ∀ q ∈ E, q ∈ hp_L (sp_R T53 260 o0 (some a51)) := by rw [hq_L_R]; exact hE64
  refine tt_aload_n (j := 0) dX4_init_36 rfl ?_
  refine tt_newo (k1 := kc - 10) (n1 := nc - 293) dX4_init_37 nl_4_31 (by omega) (by show nc - 293 + 2 ≤ nc - 291; omega) (fun a80 ha81 => ?_)
  refine tt_dup dX4_init_40 rfl ?_
  refine tt_callIN (As := []) (Mid := fun r T _ _ => r = .inl none ∧ GI T (o0 :: E) ∧ Oa T (o0 :: E) 0 0 a80 ∧ Cf a80 (nw_o (sp_R T53 260 o0 (some a51)) 0 a80) T ) (k1 := 2) (n1 := 6) (k2 := kc - 12) (n2 := nc - 299) dX4_init_41 ca_X4_33 ⟨by decide, by decide⟩ (Nat.le_of_ble_eq_true rfl) (Nat.le_of_ble_eq_true rfl) (by omega) (by omega) (cd_0 (gi_o hG74 ha81) in_o (e_cn (e_cons hL75 hE79) (cn_o ha81)) (fun q => ha81 (e_cons hL75 hE79 _ q)) k_o zf_o  (kc := 2) (nc := 6) (by decide) (by decide) (fun T u1 u2 u3 => ⟨rfl, u1, u2, u3⟩)) (fun v T82 x y hw => ?_) (fun X T hw => by obtain ⟨e, -⟩ := hw; cases e)
  obtain ⟨e, hG83, oa84, cf85⟩ := hw
  cases e
  have cn86 := cn_new ha81 cf85
  show TT xi M_X4_init 44 [(0, .ref o0), (1, .ref p1), (2, .ref p2)] [.ref a80, .ref o0] T82 (kc - 12) (nc - 299) P
  have hK90 := k_cn hL75 cn86 hK76
  have hZ91 := zf_cn hZ77 hL75 cn86
  have hC92 := cf_cn hC78 cn86
  have hE93 := e_cn hE79 cn86
  have f94 := fk_cn f69 hL75 cn86
  have f95 := fk_cn f70 hL75 cn86
  have f96 := fk_cn f71 hL75 cn86
  have g97 := oa_cn g72 cn86
  have g98 := oa_cn g73 cn86
  have hL89 := l_cn hL75 cn86
  refine tt_putR (id := 261) (x := some a80) dX4_init_44 fl_4_34 rfl rfl ⟨hL89, hK90⟩ rfl rfl (by decide) ?_
  have f99 := fk_R (j := 261) (x := some a80) f94
  have f100 := fk_R (j := 261) (x := some a80) f95
  have f101 := fk_R (j := 261) (x := some a80) f96
  have f102 := fk_mk (k := 261) (o := o0) oa84
  have g103 := oa_R (k := 261) (o := o0) (x := some a80) g97
  have g104 := oa_R (k := 261) (o := o0) (x := some a80) g98
  have hG105 := gp_oR (k := 261) (x := some a80) hG83
  have hL106 : o0 ∈ hp_L (sp_R T82 261 o0 (some a80)) := by rw [hq_L_R]; exact hL89
  have hK107 : hp_K (sp_R T82 261 o0 (some a80)) o0 = 4 := by rw [hq_K_R]; exact hK90
  have hZ108 := zf_R (j := 261) (a := o0) (x := some a80) hZ91
  have hC109 := cf_R (k := 261) (x := some a80) hC92
  have hE110 : ∀ q ∈ E, q ∈ hp_L (sp_R T82 261 o0 (some a80)) := by rw [hq_L_R]; exact hE93
  refine tt_aload_n (j := 0) dX4_init_47 rfl ?_
  refine tt_newo (k1 := kc - 13) (n1 := nc - 302) dX4_init_48 nl_4_38 (by omega) (by show nc - 302 + 3 ≤ nc - 299; omega) (fun a111 ha112 => ?_)
  refine tt_dup dX4_init_51 rfl ?_
  refine tt_callIN (As := []) (Mid := fun r T _ _ => r = .inl none ∧ GI T (o0 :: E) ∧ Oa T (o0 :: E) 7 0 a111 ∧ Cf a111 (nw_o (sp_R T82 261 o0 (some a80)) 7 a111) T ) (k1 := 0) (n1 := 0) (k2 := kc - 13) (n2 := nc - 302) dX4_init_52 ca_X4_40 ⟨by decide, by decide⟩ (Nat.le_of_ble_eq_true rfl) (Nat.le_of_ble_eq_true rfl) (by omega) (by omega) (cd_7 (gi_o hG105 ha112) in_o (e_cn (e_cons hL106 hE110) (cn_o ha112)) (fun q => ha112 (e_cons hL106 hE110 _ q)) k_o zf_o  (kc := 0) (nc := 0) (by decide) (by decide) (fun T u1 u2 u3 => ⟨rfl, u1, u2, u3⟩)) (fun v T113 x y hw => ?_) (fun X T hw => by obtain ⟨e, -⟩ := hw; cases e)
  obtain ⟨e, hG114, oa115, cf116⟩ := hw
  cases e
  have cn117 := cn_new ha112 cf116
  show TT xi M_X4_init 55 [(0, .ref o0), (1, .ref p1), (2, .ref p2)] [.ref a111, .ref o0] T113 (kc - 13) (nc - 302) P
  have hK121 := k_cn hL106 cn117 hK107
  have hZ122 := zf_cn hZ108 hL106 cn117
  have hC123 := cf_cn hC109 cn117
  have hE124 := e_cn hE110 cn117
  have f125 := fk_cn f99 hL106 cn117
  have f126 := fk_cn f100 hL106 cn117
  have f127 := fk_cn f101 hL106 cn117
  have f128 := fk_cn f102 hL106 cn117
  have g129 := oa_cn g103 cn117
  have g130 := oa_cn g104 cn117
  have hL120 := l_cn hL106 cn117
  refine tt_putR (id := 262) (x := some a111) dX4_init_55 fl_4_41 rfl rfl ⟨hL120, hK121⟩ rfl rfl (by decide) ?_
  have f131 := fk_R (j := 262) (x := some a111) f125
  have f132 := fk_R (j := 262) (x := some a111) f126
  have f133 := fk_R (j := 262) (x := some a111) f127
  have f134 := fk_R (j := 262) (x := some a111) f128
  have f135 := fk_mk (k := 262) (o := o0) oa115
  have g136 := oa_R (k := 262) (o := o0) (x := some a111) g129
  have g137 := oa_R (k := 262) (o := o0) (x := some a111) g130
  have hG138 := gp_oR (k := 262) (x := some a111) hG114
  have hL139 : o0 ∈ hp_L (sp_R T113 262 o0 (some a111)) := by rw [hq_L_R]; exact hL120
  have hK140 : hp_K (sp_R T113 262 o0 (some a111)) o0 = 4 := by rw [hq_K_R]; exact hK121
  have hZ141 := zf_R (j := 262) (a := o0) (x := some a111) hZ122
  have hC142 := cf_R (k := 262) (x := some a111) hC123
  have hE143 : ∀ q ∈ E, q ∈ hp_L (sp_R T113 262 o0 (some a111)) := by rw [hq_L_R]; exact hE124
  refine tt_aload_n (j := 0) dX4_init_58 rfl ?_
  refine tt_newo (k1 := kc - 14) (n1 := nc - 305) dX4_init_59 nl_4_38 (by omega) (by show nc - 305 + 3 ≤ nc - 302; omega) (fun a144 ha145 => ?_)
  refine tt_dup dX4_init_62 rfl ?_
  refine tt_callIN (As := []) (Mid := fun r T _ _ => r = .inl none ∧ GI T (o0 :: E) ∧ Oa T (o0 :: E) 7 0 a144 ∧ Cf a144 (nw_o (sp_R T113 262 o0 (some a111)) 7 a144) T ) (k1 := 0) (n1 := 0) (k2 := kc - 14) (n2 := nc - 305) dX4_init_63 ca_X4_40 ⟨by decide, by decide⟩ (Nat.le_of_ble_eq_true rfl) (Nat.le_of_ble_eq_true rfl) (by omega) (by omega) (cd_7 (gi_o hG138 ha145) in_o (e_cn (e_cons hL139 hE143) (cn_o ha145)) (fun q => ha145 (e_cons hL139 hE143 _ q)) k_o zf_o  (kc := 0) (nc := 0) (by decide) (by decide) (fun T u1 u2 u3 => ⟨rfl, u1, u2, u3⟩)) (fun v T146 x y hw => ?_) (fun X T hw => by obtain ⟨e, -⟩ := hw; cases e)
  obtain ⟨e, hG147, oa148, cf149⟩ := hw
  cases e
  have cn150 := cn_new ha145 cf149
  show TT xi M_X4_init 66 [(0, .ref o0), (1, .ref p1), (2, .ref p2)] [.ref a144, .ref o0] T146 (kc - 14) (nc - 305) P
  have hK154 := k_cn hL139 cn150 hK140
  have hZ155 := zf_cn hZ141 hL139 cn150
  have hC156 := cf_cn hC142 cn150
  have hE157 := e_cn hE143 cn150
  have f158 := fk_cn f131 hL139 cn150
  have f159 := fk_cn f132 hL139 cn150
  have f160 := fk_cn f133 hL139 cn150
  have f161 := fk_cn f134 hL139 cn150
  have f162 := fk_cn f135 hL139 cn150
  have g163 := oa_cn g136 cn150
  have g164 := oa_cn g137 cn150
  have hL153 := l_cn hL139 cn150
  refine tt_putR (id := 263) (x := some a144) dX4_init_66 fl_4_45 rfl rfl ⟨hL153, hK154⟩ rfl rfl (by decide) ?_
  have f165 := fk_R (j := 263) (x := some a144) f158
  have f166 := fk_R (j := 263) (x := some a144) f159
  have f167 := fk_R (j := 263) (x := some a144) f160
  have f168 := fk_R (j := 263) (x := some a144) f161
  have f169 := fk_R (j := 263) (x := some a144) f162
  have f170 := fk_mk (k := 263) (o := o0) oa148
  have g171 := oa_R (k := 263) (o := o0) (x := some a144) g163
  have g172 := oa_R (k := 263) (o := o0) (x := some a144) g164
  have hG173 := gp_oR (k := 263) (x := some a144) hG147
  have hL174 : o0 ∈ hp_L (sp_R T146 263 o0 (some a144)) := by rw [hq_L_R]; exact hL153
  have hK175 : hp_K (sp_R T146 263 o0 (some a144)) o0 = 4 := by rw [hq_K_R]; exact hK154
  have hZ176 := zf_R (j := 263) (a := o0) (x := some a144) hZ155
  have hC177 := cf_R (k := 263) (x := some a144) hC156
  have hE178 : ∀ q ∈ E, q ∈ hp_L (sp_R T146 263 o0 (some a144)) := by rw [hq_L_R]; exact hE157
  refine tt_aload_n (j := 0) dX4_init_69 rfl ?_
  refine tt_newo (k1 := kc - 15) (n1 := nc - 308) dX4_init_70 nl_4_38 (by omega) (by show nc - 308 + 3 ≤ nc - 305; omega) (fun a179 ha180 => ?_)
  refine tt_dup dX4_init_73 rfl ?_
  refine tt_callIN (As := []) (Mid := fun r T _ _ => r = .inl none ∧ GI T (o0 :: E) ∧ Oa T (o0 :: E) 7 0 a179 ∧ Cf a179 (nw_o (sp_R T146 263 o0 (some a144)) 7 a179) T ) (k1 := 0) (n1 := 0) (k2 := kc - 15) (n2 := nc - 308) dX4_init_74 ca_X4_40 ⟨by decide, by decide⟩ (Nat.le_of_ble_eq_true rfl) (Nat.le_of_ble_eq_true rfl) (by omega) (by omega) (cd_7 (gi_o hG173 ha180) in_o (e_cn (e_cons hL174 hE178) (cn_o ha180)) (fun q => ha180 (e_cons hL174 hE178 _ q)) k_o zf_o  (kc := 0) (nc := 0) (by decide) (by decide) (fun T u1 u2 u3 => ⟨rfl, u1, u2, u3⟩)) (fun v T181 x y hw => ?_) (fun X T hw => by obtain ⟨e, -⟩ := hw; cases e)
  obtain ⟨e, hG182, oa183, cf184⟩ := hw
  cases e
  have cn185 := cn_new ha180 cf184
  show TT xi M_X4_init 77 [(0, .ref o0), (1, .ref p1), (2, .ref p2)] [.ref a179, .ref o0] T181 (kc - 15) (nc - 308) P
  have hK189 := k_cn hL174 cn185 hK175
  have hZ190 := zf_cn hZ176 hL174 cn185
  have hC191 := cf_cn hC177 cn185
  have hE192 := e_cn hE178 cn185
  have f193 := fk_cn f165 hL174 cn185
  have f194 := fk_cn f166 hL174 cn185
  have f195 := fk_cn f167 hL174 cn185
  have f196 := fk_cn f168 hL174 cn185
  have f197 := fk_cn f169 hL174 cn185
  have f198 := fk_cn f170 hL174 cn185
  have g199 := oa_cn g171 cn185
  have g200 := oa_cn g172 cn185
  have hL188 := l_cn hL174 cn185
  refine tt_putR (id := 264) (x := some a179) dX4_init_77 fl_4_48 rfl rfl ⟨hL188, hK189⟩ rfl rfl (by decide) ?_
  have f201 := fk_R (j := 264) (x := some a179) f193
  have f202 := fk_R (j := 264) (x := some a179) f194
  have f203 := fk_R (j := 264) (x := some a179) f195
  have f204 := fk_R (j := 264) (x := some a179) f196
  have f205 := fk_R (j := 264) (x := some a179) f197
  have f206 := fk_R (j := 264) (x := some a179) f198
  have f207 := fk_mk (k := 264) (o := o0) oa183
  have g208 := oa_R (k := 264) (o := o0) (x := some a179) g199
  have g209 := oa_R (k := 264) (o := o0) (x := some a179) g200
  have hG210 := gp_oR (k := 264) (x := some a179) hG182
  have hL211 : o0 ∈ hp_L (sp_R T181 264 o0 (some a179)) := by rw [hq_L_R]; exact hL188
  have hK212 : hp_K (sp_R T181 264 o0 (some a179)) o0 = 4 := by rw [hq_K_R]; exact hK189
  have hZ213 := zf_R (j := 264) (a := o0) (x := some a179) hZ190
  have hC214 := cf_R (k := 264) (x := some a179) hC191
  have hE215 : ∀ q ∈ E, q ∈ hp_L (sp_R T181 264 o0 (some a179)) := by rw [hq_L_R]; exact hE192
  refine tt_aload_n (j := 0) dX4_init_80 rfl ?_
  refine tt_aload_n (j := 1) dX4_init_81 rfl ?_
  refine tt_putR (id := 256) (x := some p1) dX4_init_82 fl_4_51 rfl rfl ⟨hL211, hK212⟩ rfl rfl (by decide) ?_
  have f216 := fk_R (j := 256) (x := some p1) f201
  have f217 := fk_R (j := 256) (x := some p1) f202
  have f218 := fk_R (j := 256) (x := some p1) f203
  have f219 := fk_R (j := 256) (x := some p1) f204
  have f220 := fk_R (j := 256) (x := some p1) f205
  have f221 := fk_R (j := 256) (x := some p1) f206
  have f222 := fk_R (j := 256) (x := some p1) f207
  have f223 := fk_mk (k := 256) (o := o0) g208
  have g224 := oa_R (k := 256) (o := o0) (x := some p1) g208
  have g225 := oa_R (k := 256) (o := o0) (x := some p1) g209
  have hG226 := gp_oR (k := 256) (x := some p1) hG210
  have hL227 : o0 ∈ hp_L (sp_R (sp_R T181 264 o0 (some a179)) 256 o0 (some p1)) := by rw [hq_L_R]; exact hL211
  have hK228 : hp_K (sp_R (sp_R T181 264 o0 (some a179)) 256 o0 (some p1)) o0 = 4 := by rw [hq_K_R]; exact hK212
  have hZ229 := zf_R (j := 256) (a := o0) (x := some p1) hZ213
  have hC230 := cf_R (k := 256) (x := some p1) hC214
  have hE231 : ∀ q ∈ E, q ∈ hp_L (sp_R (sp_R T181 264 o0 (some a179)) 256 o0 (some p1)) := by rw [hq_L_R]; exact hE215
  refine tt_aload_n (j := 0) dX4_init_85 rfl ?_
  refine tt_aload_n (j := 2) dX4_init_86 rfl ?_
  refine tt_putR (id := 257) (x := some p2) dX4_init_87 fl_4_55 rfl rfl ⟨hL227, hK228⟩ rfl rfl (by decide) ?_
  have f232 := fk_R (j := 257) (x := some p2) f216
  have f233 := fk_R (j := 257) (x := some p2) f217
  have f234 := fk_R (j := 257) (x := some p2) f218
  have f235 := fk_R (j := 257) (x := some p2) f219
  have f236 := fk_R (j := 257) (x := some p2) f220
  have f237 := fk_R (j := 257) (x := some p2) f221
  have f238 := fk_R (j := 257) (x := some p2) f222
  have f239 := fk_R (j := 257) (x := some p2) f223
  have f240 := fk_mk (k := 257) (o := o0) g225
  have g241 := oa_R (k := 257) (o := o0) (x := some p2) g224
  have g242 := oa_R (k := 257) (o := o0) (x := some p2) g225
  have hG243 := gp_oR (k := 257) (x := some p2) hG226
  have hL244 : o0 ∈ hp_L (sp_R (sp_R (sp_R T181 264 o0 (some a179)) 256 o0 (some p1)) 257 o0 (some p2)) := by rw [hq_L_R]; exact hL227
  have hK245 : hp_K (sp_R (sp_R (sp_R T181 264 o0 (some a179)) 256 o0 (some p1)) 257 o0 (some p2)) o0 = 4 := by rw [hq_K_R]; exact hK228
  have hZ246 := zf_R (j := 257) (a := o0) (x := some p2) hZ229
  have hC247 := cf_R (k := 257) (x := some p2) hC230
  have hE248 : ∀ q ∈ E, q ∈ hp_L (sp_R (sp_R (sp_R T181 264 o0 (some a179)) 256 o0 (some p1)) 257 o0 (some p2)) := by rw [hq_L_R]; exact hE231
  obtain ⟨gD, oD⟩ := gi_done hG243 hL244 hE hK245 (by decide) [] (by decide) fa_nil [(256, 1, 0), (257, 3, 0), (258, 35, 200), (259, 8, 0), (260, 2, 0), (261, 0, 0), (262, 7, 0), (263, 7, 0), (264, 7, 0)] (by decide) (fa_cons ⟨_, f239⟩ (fa_cons ⟨_, f240⟩ (fa_cons ⟨_, f232⟩ (fa_cons ⟨_, f233⟩ (fa_cons ⟨_, f234⟩ (fa_cons ⟨_, f235⟩ (fa_cons ⟨_, f236⟩ (fa_cons ⟨_, f237⟩ (fa_cons ⟨_, f238⟩ fa_nil)))))))))
  exact tt_vreturn dX4_init_90 rfl (hP _ gD oD hC247 )
set_option maxHeartbeats 4000000 in
theorem cd_6 {xi : SX} {S : Hp} {E : List Nat} {kc nc : Nat} {P : Po} {o0 : Nat} {p1 : Nat} {p2 : Nat} (hG : GI S (o0 :: E)) (hL : o0 ∈ hp_L S) (hEL : ∀ q ∈ E, q ∈ hp_L S) (hE : o0 ∉ E) (hK : hp_K S o0 = 6) (hZ : Zf S o0 []) (g1 : Oa S (o0 :: E) 1 0 p1) (g2 : Oa S (o0 :: E) 3 0 p2) (hkc : 2 ≤ kc) (hnc : 48 ≤ nc) (hP : ∀ T, GI T E → Oa T E 6 0 o0 → Cf o0 S T → P (.inl none) T (kc - 2) (nc - 48)) : TT xi M_X6_init 0 [(0, .ref o0), (1, .ref p1), (2, .ref p2)] [] S kc nc P := by
  have hC : Cf o0 S S := cf_rf
  refine tt_aload_n (j := 0) dX6_init_0 rfl ?_
  refine tt_objInit dX6_init_1 ca_X6_3 ⟨by decide, by decide⟩ ?_
  refine tt_aload_n (j := 0) dX6_init_4 rfl ?_
  refine tt_bipush (v := 24) dX6_init_5 rfl ?_
  refine gn_J (k1 := kc - 1) (n1 := nc - 24) dX6_init_7 ka_long (by decide) (len := 24) rfl (by decide) (by omega) (by omega) hG (e_cons hL hEL) (fun a1 T2 hG3 cn4 oa5 => ?_)
  have hK9 := k_cn hL cn4 hK
  have hZ10 := zf_cn hZ hL cn4
  have hC11 := cf_cn hC cn4
  have hE12 := e_cn hEL cn4
  have g13 := oa_cn g1 cn4
  have g14 := oa_cn g2 cn4
  have hL8 := l_cn hL cn4
  refine tt_putR (id := 386) (x := some a1) dX6_init_9 fl_6_9 rfl rfl ⟨hL8, hK9⟩ rfl rfl (by decide) ?_
  have f15 := fk_mk (k := 386) (o := o0) oa5
  have g16 := oa_R (k := 386) (o := o0) (x := some a1) g13
  have g17 := oa_R (k := 386) (o := o0) (x := some a1) g14
  have hG18 := gp_oR (k := 386) (x := some a1) hG3
  have hL19 : o0 ∈ hp_L (sp_R T2 386 o0 (some a1)) := by rw [hq_L_R]; exact hL8
  have hK20 : hp_K (sp_R T2 386 o0 (some a1)) o0 = 6 := by rw [hq_K_R]; exact hK9
  have hZ21 := zf_R (j := 386) (a := o0) (x := some a1) hZ10
  have hC22 := cf_R (k := 386) (x := some a1) hC11
  have hE23 : ∀ q ∈ E, q ∈ hp_L (sp_R T2 386 o0 (some a1)) := by rw [hq_L_R]; exact hE12
  refine tt_aload_n (j := 0) dX6_init_12 rfl ?_
  refine tt_bipush (v := 24) dX6_init_13 rfl ?_
  refine gn_J (k1 := kc - 2) (n1 := nc - 48) dX6_init_15 ka_long (by decide) (len := 24) rfl (by decide) (by omega) (by omega) hG18 (e_cons hL19 hE23) (fun a24 T25 hG26 cn27 oa28 => ?_)
  have hK32 := k_cn hL19 cn27 hK20
  have hZ33 := zf_cn hZ21 hL19 cn27
  have hC34 := cf_cn hC22 cn27
  have hE35 := e_cn hE23 cn27
  have f36 := fk_cn f15 hL19 cn27
  have g37 := oa_cn g16 cn27
  have g38 := oa_cn g17 cn27
  have hL31 := l_cn hL19 cn27
  refine tt_putR (id := 387) (x := some a24) dX6_init_17 fl_6_15 rfl rfl ⟨hL31, hK32⟩ rfl rfl (by decide) ?_
  have f39 := fk_R (j := 387) (x := some a24) f36
  have f40 := fk_mk (k := 387) (o := o0) oa28
  have g41 := oa_R (k := 387) (o := o0) (x := some a24) g37
  have g42 := oa_R (k := 387) (o := o0) (x := some a24) g38
  have hG43 := gp_oR (k := 387) (x := some a24) hG26
  have hL44 : o0 ∈ hp_L (sp_R T25 387 o0 (some a24)) := by rw [hq_L_R]; exact hL31
  have hK45 : hp_K (sp_R T25 387 o0 (some a24)) o0 = 6 := by rw [hq_K_R]; exact hK32
  have hZ46 := zf_R (j := 387) (a := o0) (x := some a24) hZ33
  have hC47 := cf_R (k := 387) (x := some a24) hC34
  have hE48 : ∀ q ∈ E, q ∈ hp_L (sp_R T25 387 o0 (some a24)) := by rw [hq_L_R]; exact hE35
  refine tt_aload_n (j := 0) dX6_init_20 rfl ?_
  refine tt_iconst (v := (-1)) dX6_init_21 rfl ?_
  refine tt_putI (id := 388) (x := (-1)) dX6_init_22 fl_6_18 rfl rfl ⟨hL44, hK45⟩ rfl rfl (by decide) ?_
  have f49 := fk_I (j := 388) (v := (-1)) f39
  have f50 := fk_I (j := 388) (v := (-1)) f40
  have g51 := oa_I (k := 388) (o := o0) (v := (-1)) g41
  have g52 := oa_I (k := 388) (o := o0) (v := (-1)) g42
  have i53 : hp_I (sp_I (sp_R T25 387 o0 (some a24)) 388 o0 (-1)) 388 o0 = (-1) := by rw [hq_I_I, up2_self]
  have hG54 := gp_oI (k := 388) (v := (-1)) hG43
  have hL55 : o0 ∈ hp_L (sp_I (sp_R T25 387 o0 (some a24)) 388 o0 (-1)) := by rw [hq_L_I]; exact hL44
  have hK56 : hp_K (sp_I (sp_R T25 387 o0 (some a24)) 388 o0 (-1)) o0 = 6 := by rw [hq_K_I]; exact hK45
  have hZ57 := zf_I (j := 388) (v := (-1)) hZ46
  have hC58 := cf_I (k := 388) (v := (-1)) hC47
  have hE59 : ∀ q ∈ E, q ∈ hp_L (sp_I (sp_R T25 387 o0 (some a24)) 388 o0 (-1)) := by rw [hq_L_I]; exact hE48
  refine tt_aload_n (j := 0) dX6_init_25 rfl ?_
  refine tt_aload_n (j := 1) dX6_init_26 rfl ?_
  refine tt_putR (id := 384) (x := some p1) dX6_init_27 fl_6_22 rfl rfl ⟨hL55, hK56⟩ rfl rfl (by decide) ?_
  have f60 := fk_R (j := 384) (x := some p1) f49
  have f61 := fk_R (j := 384) (x := some p1) f50
  have f62 := fk_mk (k := 384) (o := o0) g51
  have g63 := oa_R (k := 384) (o := o0) (x := some p1) g51
  have g64 := oa_R (k := 384) (o := o0) (x := some p1) g52
  have i65 : hp_I (sp_R (sp_I (sp_R T25 387 o0 (some a24)) 388 o0 (-1)) 384 o0 (some p1)) 388 o0 = (-1) := by rw [hq_I_R]; exact i53
  have hG66 := gp_oR (k := 384) (x := some p1) hG54
  have hL67 : o0 ∈ hp_L (sp_R (sp_I (sp_R T25 387 o0 (some a24)) 388 o0 (-1)) 384 o0 (some p1)) := by rw [hq_L_R]; exact hL55
  have hK68 : hp_K (sp_R (sp_I (sp_R T25 387 o0 (some a24)) 388 o0 (-1)) 384 o0 (some p1)) o0 = 6 := by rw [hq_K_R]; exact hK56
  have hZ69 := zf_R (j := 384) (a := o0) (x := some p1) hZ57
  have hC70 := cf_R (k := 384) (x := some p1) hC58
  have hE71 : ∀ q ∈ E, q ∈ hp_L (sp_R (sp_I (sp_R T25 387 o0 (some a24)) 388 o0 (-1)) 384 o0 (some p1)) := by rw [hq_L_R]; exact hE59
  refine tt_aload_n (j := 0) dX6_init_30 rfl ?_
  refine tt_aload_n (j := 2) dX6_init_31 rfl ?_
  refine tt_putR (id := 385) (x := some p2) dX6_init_32 fl_6_26 rfl rfl ⟨hL67, hK68⟩ rfl rfl (by decide) ?_
  have f72 := fk_R (j := 385) (x := some p2) f60
  have f73 := fk_R (j := 385) (x := some p2) f61
  have f74 := fk_R (j := 385) (x := some p2) f62
  have f75 := fk_mk (k := 385) (o := o0) g64
  have g76 := oa_R (k := 385) (o := o0) (x := some p2) g63
  have g77 := oa_R (k := 385) (o := o0) (x := some p2) g64
  have i78 : hp_I (sp_R (sp_R (sp_I (sp_R T25 387 o0 (some a24)) 388 o0 (-1)) 384 o0 (some p1)) 385 o0 (some p2)) 388 o0 = (-1) := by rw [hq_I_R]; exact i65
  have hG79 := gp_oR (k := 385) (x := some p2) hG66
  have hL80 : o0 ∈ hp_L (sp_R (sp_R (sp_I (sp_R T25 387 o0 (some a24)) 388 o0 (-1)) 384 o0 (some p1)) 385 o0 (some p2)) := by rw [hq_L_R]; exact hL67
  have hK81 : hp_K (sp_R (sp_R (sp_I (sp_R T25 387 o0 (some a24)) 388 o0 (-1)) 384 o0 (some p1)) 385 o0 (some p2)) o0 = 6 := by rw [hq_K_R]; exact hK68
  have hZ82 := zf_R (j := 385) (a := o0) (x := some p2) hZ69
  have hC83 := cf_R (k := 385) (x := some p2) hC70
  have hE84 : ∀ q ∈ E, q ∈ hp_L (sp_R (sp_R (sp_I (sp_R T25 387 o0 (some a24)) 388 o0 (-1)) 384 o0 (some p1)) 385 o0 (some p2)) := by rw [hq_L_R]; exact hE71
  obtain ⟨gD, oD⟩ := gi_done hG79 hL80 hE hK81 (by decide) [(389, 0, 1), (390, 0, 1), (391, 0, 1), (392, 0, 1), (393, 0, 1)] (by decide) (fa_cons (zf_rg hZ82) (fa_cons (zf_rg hZ82) (fa_cons (zf_rg hZ82) (fa_cons (zf_rg hZ82) (fa_cons (zf_rg hZ82) fa_nil))))) [(384, 1, 0), (385, 3, 0), (386, 33, 24), (387, 33, 24)] (by decide) (fa_cons ⟨_, f74⟩ (fa_cons ⟨_, f75⟩ (fa_cons ⟨_, f72⟩ (fa_cons ⟨_, f73⟩ fa_nil))))
  exact tt_vreturn dX6_init_35 rfl (hP _ gD oD hC83 )
set_option maxHeartbeats 4000000 in
theorem cd_9 {xi : SX} {S : Hp} {E : List Nat} {kc nc : Nat} {P : Po} {o0 : Nat}  (hG : GI S (o0 :: E)) (hL : o0 ∈ hp_L S) (hEL : ∀ q ∈ E, q ∈ hp_L S) (hE : o0 ∉ E) (hK : hp_K S o0 = 9) (hZ : Zf S o0 [])  (hkc : 26 ≤ kc) (hnc : 670 ≤ nc) (hP : ∀ T, GI T E → Oa T E 9 0 o0 → Cf o0 S T → (∃ b i, hp_R T 576 o0 = some b ∧ Oa T E 1 0 b ∧ hp_I T 65 b = 0 ∧ hp_R T 577 o0 = some i ∧ Oa T E 3 0 i ∧ hp_R T 192 i = some b ∧ Ar [] T 64 b) → P (.inl none) T (kc - 26) (nc - 670)) : TT xi M_X9_init 0 [(0, .ref o0)] [] S kc nc P := by
  have hC : Cf o0 S S := cf_rf
  refine tt_aload_n (j := 0) dX9_init_0 rfl ?_
  refine tt_objInit dX9_init_1 ca_X9_1 ⟨by decide, by decide⟩ ?_
  refine tt_aload_n (j := 0) dX9_init_4 rfl ?_
  refine tt_newo (k1 := kc - 1) (n1 := nc - 2) dX9_init_5 nl_9_7 (by omega) (by show nc - 2 + 2 ≤ nc - 0; omega) (fun a1 ha2 => ?_)
  refine tt_dup dX9_init_8 rfl ?_
  refine tt_callIN (As := []) (Mid := fun r T _ _ => r = .inl none ∧ GI T (o0 :: E) ∧ Oa T (o0 :: E) 1 0 a1 ∧ Cf a1 (nw_o S 1 a1) T ∧ hp_I T 65 a1 = 0 ∧ Ar (hp_L (nw_o S 1 a1)) T 64 a1) (k1 := 1) (n1 := 200) (k2 := kc - 2) (n2 := nc - 202) dX9_init_9 ca_X9_9 ⟨by decide, by decide⟩ (Nat.le_of_ble_eq_true rfl) (Nat.le_of_ble_eq_true rfl) (by omega) (by omega) (cd_1 (gi_o hG ha2) in_o (e_cn (e_cons hL hEL) (cn_o ha2)) (fun q => ha2 (e_cons hL hEL _ q)) k_o zf_o  (kc := 1) (nc := 200) (by decide) (by decide) (fun T u1 u2 u3 u4 u5 => ⟨rfl, u1, u2, u3, u4, u5⟩)) (fun v T3 x y hw => ?_) (fun X T hw => by obtain ⟨e, -⟩ := hw; cases e)
  obtain ⟨e, hG4, oa5, cf6, i8, x9⟩ := hw
  cases e
  have cn7 := cn_new ha2 cf6
  show TT xi M_X9_init 12 [(0, .ref o0)] [.ref a1, .ref o0] T3 (kc - 2) (nc - 202) P
  have hK11 := k_cn hL cn7 hK
  have hZ12 := zf_cn hZ hL cn7
  have hC13 := cf_cn hC cn7
  have hE14 := e_cn hEL cn7
  have hL10 := l_cn hL cn7
  have l15 := oa5.1
  refine tt_putR (id := 576) (x := some a1) dX9_init_12 fl_9_10 rfl rfl ⟨hL10, hK11⟩ rfl rfl (by decide) ?_
  have f16 := fk_mk (k := 576) (o := o0) oa5
  have xa17 := ar_R (j := 576) (a := o0) (y := some a1) x9
  have l18 := li_R (j := 576) (a := o0) (y := some a1) l15
  have i19 : hp_I (sp_R T3 576 o0 (some a1)) 65 a1 = 0 := by rw [hq_I_R]; exact i8
  have l20 : a1 ∈ hp_L (sp_R T3 576 o0 (some a1)) := by rw [hq_L_R]; exact l15
  have hG21 := gp_oR (k := 576) (x := some a1) hG4
  have hL22 : o0 ∈ hp_L (sp_R T3 576 o0 (some a1)) := by rw [hq_L_R]; exact hL10
  have hK23 : hp_K (sp_R T3 576 o0 (some a1)) o0 = 9 := by rw [hq_K_R]; exact hK11
  have hZ24 := zf_R (j := 576) (a := o0) (x := some a1) hZ12
  have hC25 := cf_R (k := 576) (x := some a1) hC13
  have hE26 : ∀ q ∈ E, q ∈ hp_L (sp_R T3 576 o0 (some a1)) := by rw [hq_L_R]; exact hE14
  refine tt_aload_n (j := 0) dX9_init_15 rfl ?_
  refine tt_newo (k1 := kc - 3) (n1 := nc - 216) dX9_init_16 nl_9_16 (by omega) (by show nc - 216 + 14 ≤ nc - 202; omega) (fun a27 ha28 => ?_)
  refine tt_dup dX9_init_19 rfl ?_
  refine tt_aload_n (j := 0) dX9_init_20 rfl ?_
  refine tt_getA (id := 576) dX9_init_21 fl_9_10 rfl rfl ⟨l_cn hL22 (cn_o ha28), k_cn hL22 (cn_o ha28) hK23⟩ (fk_cn f16 hL22 (cn_o ha28)).1 ?_
  refine tt_callI (As := [.ref a1]) (Mid := fun r T _ _ => r = .inl none ∧ GI T (o0 :: E) ∧ Oa T (o0 :: E) 3 0 a27 ∧ Cf a27 (nw_o (sp_R T3 576 o0 (some a1)) 3 a27) T ∧ hp_R T 192 a27 = some a1) (k1 := 0) (n1 := 0) (k2 := kc - 3) (n2 := nc - 216) dX9_init_24 ca_X9_18 ⟨by decide, by decide⟩ (Nat.le_of_ble_eq_true rfl) (Nat.le_of_ble_eq_true rfl) (by omega) (by omega) (cd_3 (gi_o hG21 ha28) in_o (e_cn (e_cons hL22 hE26) (cn_o ha28)) (fun q => ha28 (e_cons hL22 hE26 _ q)) k_o zf_o (oa_new f16.2 ha28) (kc := 0) (nc := 0) (by decide) (by decide) (fun T u1 u2 u3 u4 => ⟨rfl, u1, u2, u3, u4⟩)) (fun v T29 x y hw => ?_) (fun X T hw => by obtain ⟨e, -⟩ := hw; cases e)
  obtain ⟨e, hG30, oa31, cf32, x35⟩ := hw
  cases e
  have cn33 := cn_new ha28 cf32
  show TT xi M_X9_init 27 [(0, .ref o0)] [.ref a27, .ref o0] T29 (kc - 3) (nc - 216) P
  have hK37 := k_cn hL22 cn33 hK23
  have hZ38 := zf_cn hZ24 hL22 cn33
  have hC39 := cf_cn hC25 cn33
  have hE40 := e_cn hE26 cn33
  have f41 := fk_cn f16 hL22 cn33
  have i42 := ((cn33.2.1 a1 l20).2 65).trans i19
  have l43 := l_cn l20 cn33
  have xa44 := ar_cn xa17 l18 cn33
  have l45 := l_cn l18 cn33
  have hL36 := l_cn hL22 cn33
  have l46 := oa31.1
  refine tt_putR (id := 577) (x := some a27) dX9_init_27 fl_9_21 rfl rfl ⟨hL36, hK37⟩ rfl rfl (by decide) ?_
  have f47 := fk_R (j := 577) (x := some a27) f41
  have f48 := fk_mk (k := 577) (o := o0) oa31
  have xr49 := rl_R (j := 577) (a := o0) (y := some a27) x35
  have l50 := li_R (j := 577) (a := o0) (y := some a27) l46
  have xa51 := ar_R (j := 577) (a := o0) (y := some a27) xa44
  have l52 := li_R (j := 577) (a := o0) (y := some a27) l45
  have i53 : hp_I (sp_R T29 577 o0 (some a27)) 65 a1 = 0 := by rw [hq_I_R]; exact i42
  have l54 : a1 ∈ hp_L (sp_R T29 577 o0 (some a27)) := by rw [hq_L_R]; exact l43
  have hG55 := gp_oR (k := 577) (x := some a27) hG30
  have hL56 : o0 ∈ hp_L (sp_R T29 577 o0 (some a27)) := by rw [hq_L_R]; exact hL36
  have hK57 : hp_K (sp_R T29 577 o0 (some a27)) o0 = 9 := by rw [hq_K_R]; exact hK37
  have hZ58 := zf_R (j := 577) (a := o0) (x := some a27) hZ38
  have hC59 := cf_R (k := 577) (x := some a27) hC39
  have hE60 : ∀ q ∈ E, q ∈ hp_L (sp_R T29 577 o0 (some a27)) := by rw [hq_L_R]; exact hE40
  refine tt_aload_n (j := 0) dX9_init_30 rfl ?_
  refine tt_newo (k1 := kc - 4) (n1 := nc - 223) dX9_init_31 nl_9_25 (by omega) (by show nc - 223 + 7 ≤ nc - 216; omega) (fun a61 ha62 => ?_)
  refine tt_dup dX9_init_34 rfl ?_
  refine tt_callI (As := []) (Mid := fun r T _ _ => r = .inl none ∧ GI T (o0 :: E) ∧ Oa T (o0 :: E) 8 0 a61 ∧ Cf a61 (nw_o (sp_R T29 577 o0 (some a27)) 8 a61) T ) (k1 := 3) (n1 := 72) (k2 := kc - 7) (n2 := nc - 295) dX9_init_35 ca_X9_27 ⟨by decide, by decide⟩ (Nat.le_of_ble_eq_true rfl) (Nat.le_of_ble_eq_true rfl) (by omega) (by omega) (cd_8 (gi_o hG55 ha62) in_o (e_cn (e_cons hL56 hE60) (cn_o ha62)) (fun q => ha62 (e_cons hL56 hE60 _ q)) k_o zf_o  (kc := 3) (nc := 72) (by decide) (by decide) (fun T u1 u2 u3 => ⟨rfl, u1, u2, u3⟩)) (fun v T63 x y hw => ?_) (fun X T hw => by obtain ⟨e, -⟩ := hw; cases e)
  obtain ⟨e, hG64, oa65, cf66⟩ := hw
  cases e
  have cn67 := cn_new ha62 cf66
  show TT xi M_X9_init 38 [(0, .ref o0)] [.ref a61, .ref o0] T63 (kc - 7) (nc - 295) P
  have hK71 := k_cn hL56 cn67 hK57
  have hZ72 := zf_cn hZ58 hL56 cn67
  have hC73 := cf_cn hC59 cn67
  have hE74 := e_cn hE60 cn67
  have f75 := fk_cn f47 hL56 cn67
  have f76 := fk_cn f48 hL56 cn67
  have i77 := ((cn67.2.1 a1 l54).2 65).trans i53
  have l78 := l_cn l54 cn67
  have xr79 := rl_cn xr49 l50 cn67
  have l80 := l_cn l50 cn67
  have xa81 := ar_cn xa51 l52 cn67
  have l82 := l_cn l52 cn67
  have hL70 := l_cn hL56 cn67
  refine tt_putR (id := 578) (x := some a61) dX9_init_38 fl_9_28 rfl rfl ⟨hL70, hK71⟩ rfl rfl (by decide) ?_
  have f83 := fk_R (j := 578) (x := some a61) f75
  have f84 := fk_R (j := 578) (x := some a61) f76
  have f85 := fk_mk (k := 578) (o := o0) oa65
  have xr86 := rl_R (j := 578) (a := o0) (y := some a61) xr79
  have l87 := li_R (j := 578) (a := o0) (y := some a61) l80
  have xa88 := ar_R (j := 578) (a := o0) (y := some a61) xa81
  have l89 := li_R (j := 578) (a := o0) (y := some a61) l82
  have i90 : hp_I (sp_R T63 578 o0 (some a61)) 65 a1 = 0 := by rw [hq_I_R]; exact i77
  have l91 : a1 ∈ hp_L (sp_R T63 578 o0 (some a61)) := by rw [hq_L_R]; exact l78
  have hG92 := gp_oR (k := 578) (x := some a61) hG64
  have hL93 : o0 ∈ hp_L (sp_R T63 578 o0 (some a61)) := by rw [hq_L_R]; exact hL70
  have hK94 : hp_K (sp_R T63 578 o0 (some a61)) o0 = 9 := by rw [hq_K_R]; exact hK71
  have hZ95 := zf_R (j := 578) (a := o0) (x := some a61) hZ72
  have hC96 := cf_R (k := 578) (x := some a61) hC73
  have hE97 : ∀ q ∈ E, q ∈ hp_L (sp_R T63 578 o0 (some a61)) := by rw [hq_L_R]; exact hE74
  refine tt_aload_n (j := 0) dX9_init_41 rfl ?_
  refine tt_newo (k1 := kc - 8) (n1 := nc - 304) dX9_init_42 nl_9_32 (by omega) (by show nc - 304 + 9 ≤ nc - 295; omega) (fun a98 ha99 => ?_)
  refine tt_dup dX9_init_45 rfl ?_
  refine tt_aload_n (j := 0) dX9_init_46 rfl ?_
  refine tt_getA (id := 576) dX9_init_47 fl_9_10 rfl rfl ⟨l_cn hL93 (cn_o ha99), k_cn hL93 (cn_o ha99) hK94⟩ (fk_cn f83 hL93 (cn_o ha99)).1 ?_
  refine tt_aload_n (j := 0) dX9_init_50 rfl ?_
  refine tt_getA (id := 577) dX9_init_51 fl_9_21 rfl rfl ⟨l_cn hL93 (cn_o ha99), k_cn hL93 (cn_o ha99) hK94⟩ (fk_cn f84 hL93 (cn_o ha99)).1 ?_
  refine tt_callI (As := [.ref a1, .ref a27]) (Mid := fun r T _ _ => r = .inl none ∧ GI T (o0 :: E) ∧ Oa T (o0 :: E) 4 0 a98 ∧ Cf a98 (nw_o (sp_R T63 578 o0 (some a61)) 4 a98) T ) (k1 := 15) (n1 := 308) (k2 := kc - 23) (n2 := nc - 612) dX9_init_54 ca_X9_34 ⟨by decide, by decide⟩ (Nat.le_of_ble_eq_true rfl) (Nat.le_of_ble_eq_true rfl) (by omega) (by omega) (cd_4 (gi_o hG92 ha99) in_o (e_cn (e_cons hL93 hE97) (cn_o ha99)) (fun q => ha99 (e_cons hL93 hE97 _ q)) k_o zf_o (oa_new f83.2 ha99) (oa_new f84.2 ha99) (kc := 15) (nc := 308) (by decide) (by decide) (fun T u1 u2 u3 => ⟨rfl, u1, u2, u3⟩)) (fun v T100 x y hw => ?_) (fun X T hw => by obtain ⟨e, -⟩ := hw; cases e)
  obtain ⟨e, hG101, oa102, cf103⟩ := hw
  cases e
  have cn104 := cn_new ha99 cf103
  show TT xi M_X9_init 57 [(0, .ref o0)] [.ref a98, .ref o0] T100 (kc - 23) (nc - 612) P
  have hK108 := k_cn hL93 cn104 hK94
  have hZ109 := zf_cn hZ95 hL93 cn104
  have hC110 := cf_cn hC96 cn104
  have hE111 := e_cn hE97 cn104
  have f112 := fk_cn f83 hL93 cn104
  have f113 := fk_cn f84 hL93 cn104
  have f114 := fk_cn f85 hL93 cn104
  have i115 := ((cn104.2.1 a1 l91).2 65).trans i90
  have l116 := l_cn l91 cn104
  have xr117 := rl_cn xr86 l87 cn104
  have l118 := l_cn l87 cn104
  have xa119 := ar_cn xa88 l89 cn104
  have l120 := l_cn l89 cn104
  have hL107 := l_cn hL93 cn104
  refine tt_putR (id := 579) (x := some a98) dX9_init_57 fl_9_37 rfl rfl ⟨hL107, hK108⟩ rfl rfl (by decide) ?_
  have f121 := fk_R (j := 579) (x := some a98) f112
  have f122 := fk_R (j := 579) (x := some a98) f113
  have f123 := fk_R (j := 579) (x := some a98) f114
  have f124 := fk_mk (k := 579) (o := o0) oa102
  have xr125 := rl_R (j := 579) (a := o0) (y := some a98) xr117
  have l126 := li_R (j := 579) (a := o0) (y := some a98) l118
  have xa127 := ar_R (j := 579) (a := o0) (y := some a98) xa119
  have l128 := li_R (j := 579) (a := o0) (y := some a98) l120
  have i129 : hp_I (sp_R T100 579 o0 (some a98)) 65 a1 = 0 := by rw [hq_I_R]; exact i115
  have l130 : a1 ∈ hp_L (sp_R T100 579 o0 (some a98)) := by rw [hq_L_R]; exact l116
  have hG131 := gp_oR (k := 579) (x := some a98) hG101
  have hL132 : o0 ∈ hp_L (sp_R T100 579 o0 (some a98)) := by rw [hq_L_R]; exact hL107
  have hK133 : hp_K (sp_R T100 579 o0 (some a98)) o0 = 9 := by rw [hq_K_R]; exact hK108
  have hZ134 := zf_R (j := 579) (a := o0) (x := some a98) hZ109
  have hC135 := cf_R (k := 579) (x := some a98) hC110
  have hE136 : ∀ q ∈ E, q ∈ hp_L (sp_R T100 579 o0 (some a98)) := by rw [hq_L_R]; exact hE111
  refine tt_aload_n (j := 0) dX9_init_60 rfl ?_
  refine tt_newo (k1 := kc - 24) (n1 := nc - 622) dX9_init_61 nl_9_41 (by omega) (by show nc - 622 + 10 ≤ nc - 612; omega) (fun a137 ha138 => ?_)
  refine tt_dup dX9_init_64 rfl ?_
  refine tt_aload_n (j := 0) dX9_init_65 rfl ?_
  refine tt_getA (id := 576) dX9_init_66 fl_9_10 rfl rfl ⟨l_cn hL132 (cn_o ha138), k_cn hL132 (cn_o ha138) hK133⟩ (fk_cn f121 hL132 (cn_o ha138)).1 ?_
  refine tt_aload_n (j := 0) dX9_init_69 rfl ?_
  refine tt_getA (id := 577) dX9_init_70 fl_9_21 rfl rfl ⟨l_cn hL132 (cn_o ha138), k_cn hL132 (cn_o ha138) hK133⟩ (fk_cn f122 hL132 (cn_o ha138)).1 ?_
  refine tt_callI (As := [.ref a1, .ref a27]) (Mid := fun r T _ _ => r = .inl none ∧ GI T (o0 :: E) ∧ Oa T (o0 :: E) 6 0 a137 ∧ Cf a137 (nw_o (sp_R T100 579 o0 (some a98)) 6 a137) T ) (k1 := 2) (n1 := 48) (k2 := kc - 26) (n2 := nc - 670) dX9_init_73 ca_X9_43 ⟨by decide, by decide⟩ (Nat.le_of_ble_eq_true rfl) (Nat.le_of_ble_eq_true rfl) (by omega) (by omega) (cd_6 (gi_o hG131 ha138) in_o (e_cn (e_cons hL132 hE136) (cn_o ha138)) (fun q => ha138 (e_cons hL132 hE136 _ q)) k_o zf_o (oa_new f121.2 ha138) (oa_new f122.2 ha138) (kc := 2) (nc := 48) (by decide) (by decide) (fun T u1 u2 u3 => ⟨rfl, u1, u2, u3⟩)) (fun v T139 x y hw => ?_) (fun X T hw => by obtain ⟨e, -⟩ := hw; cases e)
  obtain ⟨e, hG140, oa141, cf142⟩ := hw
  cases e
  have cn143 := cn_new ha138 cf142
  show TT xi M_X9_init 76 [(0, .ref o0)] [.ref a137, .ref o0] T139 (kc - 26) (nc - 670) P
  have hK147 := k_cn hL132 cn143 hK133
  have hZ148 := zf_cn hZ134 hL132 cn143
  have hC149 := cf_cn hC135 cn143
  have hE150 := e_cn hE136 cn143
  have f151 := fk_cn f121 hL132 cn143
  have f152 := fk_cn f122 hL132 cn143
  have f153 := fk_cn f123 hL132 cn143
  have f154 := fk_cn f124 hL132 cn143
  have i155 := ((cn143.2.1 a1 l130).2 65).trans i129
  have l156 := l_cn l130 cn143
  have xr157 := rl_cn xr125 l126 cn143
  have l158 := l_cn l126 cn143
  have xa159 := ar_cn xa127 l128 cn143
  have l160 := l_cn l128 cn143
  have hL146 := l_cn hL132 cn143
  refine tt_putR (id := 580) (x := some a137) dX9_init_76 fl_9_44 rfl rfl ⟨hL146, hK147⟩ rfl rfl (by decide) ?_
  have f161 := fk_R (j := 580) (x := some a137) f151
  have f162 := fk_R (j := 580) (x := some a137) f152
  have f163 := fk_R (j := 580) (x := some a137) f153
  have f164 := fk_R (j := 580) (x := some a137) f154
  have f165 := fk_mk (k := 580) (o := o0) oa141
  have xr166 := rl_R (j := 580) (a := o0) (y := some a137) xr157
  have l167 := li_R (j := 580) (a := o0) (y := some a137) l158
  have xa168 := ar_R (j := 580) (a := o0) (y := some a137) xa159
  have l169 := li_R (j := 580) (a := o0) (y := some a137) l160
  have i170 : hp_I (sp_R T139 580 o0 (some a137)) 65 a1 = 0 := by rw [hq_I_R]; exact i155
  have l171 : a1 ∈ hp_L (sp_R T139 580 o0 (some a137)) := by rw [hq_L_R]; exact l156
  have hG172 := gp_oR (k := 580) (x := some a137) hG140
  have hL173 : o0 ∈ hp_L (sp_R T139 580 o0 (some a137)) := by rw [hq_L_R]; exact hL146
  have hK174 : hp_K (sp_R T139 580 o0 (some a137)) o0 = 9 := by rw [hq_K_R]; exact hK147
  have hZ175 := zf_R (j := 580) (a := o0) (x := some a137) hZ148
  have hC176 := cf_R (k := 580) (x := some a137) hC149
  have hE177 : ∀ q ∈ E, q ∈ hp_L (sp_R T139 580 o0 (some a137)) := by rw [hq_L_R]; exact hE150
  obtain ⟨gD, oD⟩ := gi_done hG172 hL173 hE hK174 (by decide) [] (by decide) fa_nil [(576, 1, 0), (577, 3, 0), (578, 8, 0), (579, 4, 0), (580, 6, 0)] (by decide) (fa_cons ⟨_, f161⟩ (fa_cons ⟨_, f162⟩ (fa_cons ⟨_, f163⟩ (fa_cons ⟨_, f164⟩ (fa_cons ⟨_, f165⟩ fa_nil)))))
  exact tt_vreturn dX9_init_79 rfl (hP _ gD oD hC176 ⟨a1, a27, f161.1, ⟨f161.2.1, fun z => f161.2.2.1 (List.mem_cons_of_mem _ z), f161.2.2.2⟩, i170, f162.1, ⟨f162.2.1, fun z => f162.2.2.1 (List.mem_cons_of_mem _ z), f162.2.2.2⟩, xr166, ar_w xa168⟩)
set_option maxHeartbeats 4000000 in
theorem cd_10 {xi : SX} {S : Hp} {E : List Nat} {kc nc : Nat} {P : Po} {o0 : Nat}  (hG : GI S (o0 :: E)) (hL : o0 ∈ hp_L S) (hEL : ∀ q ∈ E, q ∈ hp_L S) (hE : o0 ∉ E) (hK : hp_K S o0 = 10) (hZ : Zf S o0 [])  (hkc : 13 ≤ kc) (hnc : 21218 ≤ nc) (hP : ∀ T, GI T E → Oa T E 10 0 o0 → Cf o0 S T → hp_I T 642 o0 = 0 → hp_I T 663 o0 = 0 → Ar (hp_L S) T 641 o0 → P (.inl none) T (kc - 13) (nc - 21218)) : TT xi M_X10_init 0 [(0, .ref o0)] [] S kc nc P := by
  have hC : Cf o0 S S := cf_rf
  refine tt_aload_n (j := 0) dX10_init_0 rfl ?_
  refine tt_objInit dX10_init_1 ca_X10_1 ⟨by decide, by decide⟩ ?_
  refine tt_aload_n (j := 0) dX10_init_4 rfl ?_
  refine tt_sipush (v := 200) dX10_init_5 rfl ?_
  refine gn_Ix (k1 := kc - 1) (n1 := nc - 200) dX10_init_8 ka_int (by decide) (len := 200) rfl (by decide) (by omega) (by omega) hG (e_cons hL hEL) (fun a1 T2 hG3 cn4 oa5 ni6 zi7 => ?_)
  have nb8 : a1 ∉ hp_L S := fun q => ni6 (hC.1 a1 q).1
  have hK10 := k_cn hL cn4 hK
  have hZ11 := zf_cn hZ hL cn4
  have hC12 := cf_cn hC cn4
  have hE13 := e_cn hEL cn4
  have hL9 := l_cn hL cn4
  refine tt_putR (id := 641) (x := some a1) dX10_init_10 fl_10_7 rfl rfl ⟨hL9, hK10⟩ rfl rfl (by decide) ?_
  have f14 := fk_mk (k := 641) (o := o0) oa5
  have xa15 := ar_mk (k := 641) (o := o0) oa5 nb8 zi7
  have hG16 := gp_oR (k := 641) (x := some a1) hG3
  have hL17 : o0 ∈ hp_L (sp_R T2 641 o0 (some a1)) := by rw [hq_L_R]; exact hL9
  have hK18 : hp_K (sp_R T2 641 o0 (some a1)) o0 = 10 := by rw [hq_K_R]; exact hK10
  have hZ19 := zf_R (j := 641) (a := o0) (x := some a1) hZ11
  have hC20 := cf_R (k := 641) (x := some a1) hC12
  have hE21 : ∀ q ∈ E, q ∈ hp_L (sp_R T2 641 o0 (some a1)) := by rw [hq_L_R]; exact hE13
  refine tt_aload_n (j := 0) dX10_init_13 rfl ?_
  refine tt_sipush (v := 4940) dX10_init_14 rfl ?_
  refine gn_I (k1 := kc - 2) (n1 := nc - 5140) dX10_init_17 ka_int (by decide) (len := 4940) rfl (by decide) (by omega) (by omega) hG16 (e_cons hL17 hE21) (fun a22 T23 hG24 cn25 oa26 => ?_)
  have hK30 := k_cn hL17 cn25 hK18
  have hZ31 := zf_cn hZ19 hL17 cn25
  have hC32 := cf_cn hC20 cn25
  have hE33 := e_cn hE21 cn25
  have f34 := fk_cn f14 hL17 cn25
  have xa35 := ar_cn xa15 hL17 cn25
  have hL29 := l_cn hL17 cn25
  refine tt_putR (id := 643) (x := some a22) dX10_init_19 fl_10_13 rfl rfl ⟨hL29, hK30⟩ rfl rfl (by decide) ?_
  have f36 := fk_R (j := 643) (x := some a22) f34
  have f37 := fk_mk (k := 643) (o := o0) oa26
  have xa38 := ar_R (j := 643) (a := o0) (y := some a22) xa35
  have hG39 := gp_oR (k := 643) (x := some a22) hG24
  have hL40 : o0 ∈ hp_L (sp_R T23 643 o0 (some a22)) := by rw [hq_L_R]; exact hL29
  have hK41 : hp_K (sp_R T23 643 o0 (some a22)) o0 = 10 := by rw [hq_K_R]; exact hK30
  have hZ42 := zf_R (j := 643) (a := o0) (x := some a22) hZ31
  have hC43 := cf_R (k := 643) (x := some a22) hC32
  have hE44 : ∀ q ∈ E, q ∈ hp_L (sp_R T23 643 o0 (some a22)) := by rw [hq_L_R]; exact hE33
  refine tt_aload_n (j := 0) dX10_init_22 rfl ?_
  refine tt_sipush (v := 4940) dX10_init_23 rfl ?_
  refine gn_J (k1 := kc - 3) (n1 := nc - 10080) dX10_init_26 ka_long (by decide) (len := 4940) rfl (by decide) (by omega) (by omega) hG39 (e_cons hL40 hE44) (fun a45 T46 hG47 cn48 oa49 => ?_)
  have hK53 := k_cn hL40 cn48 hK41
  have hZ54 := zf_cn hZ42 hL40 cn48
  have hC55 := cf_cn hC43 cn48
  have hE56 := e_cn hE44 cn48
  have f57 := fk_cn f36 hL40 cn48
  have f58 := fk_cn f37 hL40 cn48
  have xa59 := ar_cn xa38 hL40 cn48
  have hL52 := l_cn hL40 cn48
  refine tt_putR (id := 644) (x := some a45) dX10_init_28 fl_10_16 rfl rfl ⟨hL52, hK53⟩ rfl rfl (by decide) ?_
  have f60 := fk_R (j := 644) (x := some a45) f57
  have f61 := fk_R (j := 644) (x := some a45) f58
  have f62 := fk_mk (k := 644) (o := o0) oa49
  have xa63 := ar_R (j := 644) (a := o0) (y := some a45) xa59
  have hG64 := gp_oR (k := 644) (x := some a45) hG47
  have hL65 : o0 ∈ hp_L (sp_R T46 644 o0 (some a45)) := by rw [hq_L_R]; exact hL52
  have hK66 : hp_K (sp_R T46 644 o0 (some a45)) o0 = 10 := by rw [hq_K_R]; exact hK53
  have hZ67 := zf_R (j := 644) (a := o0) (x := some a45) hZ54
  have hC68 := cf_R (k := 644) (x := some a45) hC55
  have hE69 : ∀ q ∈ E, q ∈ hp_L (sp_R T46 644 o0 (some a45)) := by rw [hq_L_R]; exact hE56
  refine tt_aload_n (j := 0) dX10_init_31 rfl ?_
  refine tt_sipush (v := 4940) dX10_init_32 rfl ?_
  refine gn_J (k1 := kc - 4) (n1 := nc - 15020) dX10_init_35 ka_long (by decide) (len := 4940) rfl (by decide) (by omega) (by omega) hG64 (e_cons hL65 hE69) (fun a70 T71 hG72 cn73 oa74 => ?_)
  have hK78 := k_cn hL65 cn73 hK66
  have hZ79 := zf_cn hZ67 hL65 cn73
  have hC80 := cf_cn hC68 cn73
  have hE81 := e_cn hE69 cn73
  have f82 := fk_cn f60 hL65 cn73
  have f83 := fk_cn f61 hL65 cn73
  have f84 := fk_cn f62 hL65 cn73
  have xa85 := ar_cn xa63 hL65 cn73
  have hL77 := l_cn hL65 cn73
  refine tt_putR (id := 645) (x := some a70) dX10_init_37 fl_10_20 rfl rfl ⟨hL77, hK78⟩ rfl rfl (by decide) ?_
  have f86 := fk_R (j := 645) (x := some a70) f82
  have f87 := fk_R (j := 645) (x := some a70) f83
  have f88 := fk_R (j := 645) (x := some a70) f84
  have f89 := fk_mk (k := 645) (o := o0) oa74
  have xa90 := ar_R (j := 645) (a := o0) (y := some a70) xa85
  have hG91 := gp_oR (k := 645) (x := some a70) hG72
  have hL92 : o0 ∈ hp_L (sp_R T71 645 o0 (some a70)) := by rw [hq_L_R]; exact hL77
  have hK93 : hp_K (sp_R T71 645 o0 (some a70)) o0 = 10 := by rw [hq_K_R]; exact hK78
  have hZ94 := zf_R (j := 645) (a := o0) (x := some a70) hZ79
  have hC95 := cf_R (k := 645) (x := some a70) hC80
  have hE96 : ∀ q ∈ E, q ∈ hp_L (sp_R T71 645 o0 (some a70)) := by rw [hq_L_R]; exact hE81
  refine tt_aload_n (j := 0) dX10_init_40 rfl ?_
  refine tt_sipush (v := 4940) dX10_init_41 rfl ?_
  refine gn_J (k1 := kc - 5) (n1 := nc - 19960) dX10_init_44 ka_long (by decide) (len := 4940) rfl (by decide) (by omega) (by omega) hG91 (e_cons hL92 hE96) (fun a97 T98 hG99 cn100 oa101 => ?_)
  have hK105 := k_cn hL92 cn100 hK93
  have hZ106 := zf_cn hZ94 hL92 cn100
  have hC107 := cf_cn hC95 cn100
  have hE108 := e_cn hE96 cn100
  have f109 := fk_cn f86 hL92 cn100
  have f110 := fk_cn f87 hL92 cn100
  have f111 := fk_cn f88 hL92 cn100
  have f112 := fk_cn f89 hL92 cn100
  have xa113 := ar_cn xa90 hL92 cn100
  have hL104 := l_cn hL92 cn100
  refine tt_putR (id := 646) (x := some a97) dX10_init_46 fl_10_23 rfl rfl ⟨hL104, hK105⟩ rfl rfl (by decide) ?_
  have f114 := fk_R (j := 646) (x := some a97) f109
  have f115 := fk_R (j := 646) (x := some a97) f110
  have f116 := fk_R (j := 646) (x := some a97) f111
  have f117 := fk_R (j := 646) (x := some a97) f112
  have f118 := fk_mk (k := 646) (o := o0) oa101
  have xa119 := ar_R (j := 646) (a := o0) (y := some a97) xa113
  have hG120 := gp_oR (k := 646) (x := some a97) hG99
  have hL121 : o0 ∈ hp_L (sp_R T98 646 o0 (some a97)) := by rw [hq_L_R]; exact hL104
  have hK122 : hp_K (sp_R T98 646 o0 (some a97)) o0 = 10 := by rw [hq_K_R]; exact hK105
  have hZ123 := zf_R (j := 646) (a := o0) (x := some a97) hZ106
  have hC124 := cf_R (k := 646) (x := some a97) hC107
  have hE125 : ∀ q ∈ E, q ∈ hp_L (sp_R T98 646 o0 (some a97)) := by rw [hq_L_R]; exact hE108
  refine tt_aload_n (j := 0) dX10_init_49 rfl ?_
  refine tt_sipush (v := 201) dX10_init_50 rfl ?_
  refine gn_I (k1 := kc - 6) (n1 := nc - 20161) dX10_init_53 ka_int (by decide) (len := 201) rfl (by decide) (by omega) (by omega) hG120 (e_cons hL121 hE125) (fun a126 T127 hG128 cn129 oa130 => ?_)
  have hK134 := k_cn hL121 cn129 hK122
  have hZ135 := zf_cn hZ123 hL121 cn129
  have hC136 := cf_cn hC124 cn129
  have hE137 := e_cn hE125 cn129
  have f138 := fk_cn f114 hL121 cn129
  have f139 := fk_cn f115 hL121 cn129
  have f140 := fk_cn f116 hL121 cn129
  have f141 := fk_cn f117 hL121 cn129
  have f142 := fk_cn f118 hL121 cn129
  have xa143 := ar_cn xa119 hL121 cn129
  have hL133 := l_cn hL121 cn129
  refine tt_putR (id := 647) (x := some a126) dX10_init_55 fl_10_26 rfl rfl ⟨hL133, hK134⟩ rfl rfl (by decide) ?_
  have f144 := fk_R (j := 647) (x := some a126) f138
  have f145 := fk_R (j := 647) (x := some a126) f139
  have f146 := fk_R (j := 647) (x := some a126) f140
  have f147 := fk_R (j := 647) (x := some a126) f141
  have f148 := fk_R (j := 647) (x := some a126) f142
  have f149 := fk_mk (k := 647) (o := o0) oa130
  have xa150 := ar_R (j := 647) (a := o0) (y := some a126) xa143
  have hG151 := gp_oR (k := 647) (x := some a126) hG128
  have hL152 : o0 ∈ hp_L (sp_R T127 647 o0 (some a126)) := by rw [hq_L_R]; exact hL133
  have hK153 : hp_K (sp_R T127 647 o0 (some a126)) o0 = 10 := by rw [hq_K_R]; exact hK134
  have hZ154 := zf_R (j := 647) (a := o0) (x := some a126) hZ135
  have hC155 := cf_R (k := 647) (x := some a126) hC136
  have hE156 : ∀ q ∈ E, q ∈ hp_L (sp_R T127 647 o0 (some a126)) := by rw [hq_L_R]; exact hE137
  refine tt_aload_n (j := 0) dX10_init_58 rfl ?_
  refine tt_sipush (v := 201) dX10_init_59 rfl ?_
  refine gn_Z (k1 := kc - 7) (n1 := nc - 20362) dX10_init_62 ka_boolean (by decide) (len := 201) rfl (by decide) (by omega) (by omega) hG151 (e_cons hL152 hE156) (fun a157 T158 hG159 cn160 oa161 => ?_)
  have hK165 := k_cn hL152 cn160 hK153
  have hZ166 := zf_cn hZ154 hL152 cn160
  have hC167 := cf_cn hC155 cn160
  have hE168 := e_cn hE156 cn160
  have f169 := fk_cn f144 hL152 cn160
  have f170 := fk_cn f145 hL152 cn160
  have f171 := fk_cn f146 hL152 cn160
  have f172 := fk_cn f147 hL152 cn160
  have f173 := fk_cn f148 hL152 cn160
  have f174 := fk_cn f149 hL152 cn160
  have xa175 := ar_cn xa150 hL152 cn160
  have hL164 := l_cn hL152 cn160
  refine tt_putR (id := 648) (x := some a157) dX10_init_64 fl_10_29 rfl rfl ⟨hL164, hK165⟩ rfl rfl (by decide) ?_
  have f176 := fk_R (j := 648) (x := some a157) f169
  have f177 := fk_R (j := 648) (x := some a157) f170
  have f178 := fk_R (j := 648) (x := some a157) f171
  have f179 := fk_R (j := 648) (x := some a157) f172
  have f180 := fk_R (j := 648) (x := some a157) f173
  have f181 := fk_R (j := 648) (x := some a157) f174
  have f182 := fk_mk (k := 648) (o := o0) oa161
  have xa183 := ar_R (j := 648) (a := o0) (y := some a157) xa175
  have hG184 := gp_oR (k := 648) (x := some a157) hG159
  have hL185 : o0 ∈ hp_L (sp_R T158 648 o0 (some a157)) := by rw [hq_L_R]; exact hL164
  have hK186 : hp_K (sp_R T158 648 o0 (some a157)) o0 = 10 := by rw [hq_K_R]; exact hK165
  have hZ187 := zf_R (j := 648) (a := o0) (x := some a157) hZ166
  have hC188 := cf_R (k := 648) (x := some a157) hC167
  have hE189 : ∀ q ∈ E, q ∈ hp_L (sp_R T158 648 o0 (some a157)) := by rw [hq_L_R]; exact hE168
  refine tt_aload_n (j := 0) dX10_init_67 rfl ?_
  refine tt_sipush (v := 202) dX10_init_68 rfl ?_
  refine gn_I (k1 := kc - 8) (n1 := nc - 20564) dX10_init_71 ka_int (by decide) (len := 202) rfl (by decide) (by omega) (by omega) hG184 (e_cons hL185 hE189) (fun a190 T191 hG192 cn193 oa194 => ?_)
  have hK198 := k_cn hL185 cn193 hK186
  have hZ199 := zf_cn hZ187 hL185 cn193
  have hC200 := cf_cn hC188 cn193
  have hE201 := e_cn hE189 cn193
  have f202 := fk_cn f176 hL185 cn193
  have f203 := fk_cn f177 hL185 cn193
  have f204 := fk_cn f178 hL185 cn193
  have f205 := fk_cn f179 hL185 cn193
  have f206 := fk_cn f180 hL185 cn193
  have f207 := fk_cn f181 hL185 cn193
  have f208 := fk_cn f182 hL185 cn193
  have xa209 := ar_cn xa183 hL185 cn193
  have hL197 := l_cn hL185 cn193
  refine tt_putR (id := 649) (x := some a190) dX10_init_73 fl_10_33 rfl rfl ⟨hL197, hK198⟩ rfl rfl (by decide) ?_
  have f210 := fk_R (j := 649) (x := some a190) f202
  have f211 := fk_R (j := 649) (x := some a190) f203
  have f212 := fk_R (j := 649) (x := some a190) f204
  have f213 := fk_R (j := 649) (x := some a190) f205
  have f214 := fk_R (j := 649) (x := some a190) f206
  have f215 := fk_R (j := 649) (x := some a190) f207
  have f216 := fk_R (j := 649) (x := some a190) f208
  have f217 := fk_mk (k := 649) (o := o0) oa194
  have xa218 := ar_R (j := 649) (a := o0) (y := some a190) xa209
  have hG219 := gp_oR (k := 649) (x := some a190) hG192
  have hL220 : o0 ∈ hp_L (sp_R T191 649 o0 (some a190)) := by rw [hq_L_R]; exact hL197
  have hK221 : hp_K (sp_R T191 649 o0 (some a190)) o0 = 10 := by rw [hq_K_R]; exact hK198
  have hZ222 := zf_R (j := 649) (a := o0) (x := some a190) hZ199
  have hC223 := cf_R (k := 649) (x := some a190) hC200
  have hE224 : ∀ q ∈ E, q ∈ hp_L (sp_R T191 649 o0 (some a190)) := by rw [hq_L_R]; exact hE201
  refine tt_aload_n (j := 0) dX10_init_76 rfl ?_
  refine tt_sipush (v := 202) dX10_init_77 rfl ?_
  refine gn_I (k1 := kc - 9) (n1 := nc - 20766) dX10_init_80 ka_int (by decide) (len := 202) rfl (by decide) (by omega) (by omega) hG219 (e_cons hL220 hE224) (fun a225 T226 hG227 cn228 oa229 => ?_)
  have hK233 := k_cn hL220 cn228 hK221
  have hZ234 := zf_cn hZ222 hL220 cn228
  have hC235 := cf_cn hC223 cn228
  have hE236 := e_cn hE224 cn228
  have f237 := fk_cn f210 hL220 cn228
  have f238 := fk_cn f211 hL220 cn228
  have f239 := fk_cn f212 hL220 cn228
  have f240 := fk_cn f213 hL220 cn228
  have f241 := fk_cn f214 hL220 cn228
  have f242 := fk_cn f215 hL220 cn228
  have f243 := fk_cn f216 hL220 cn228
  have f244 := fk_cn f217 hL220 cn228
  have xa245 := ar_cn xa218 hL220 cn228
  have hL232 := l_cn hL220 cn228
  refine tt_putR (id := 650) (x := some a225) dX10_init_82 fl_10_36 rfl rfl ⟨hL232, hK233⟩ rfl rfl (by decide) ?_
  have f246 := fk_R (j := 650) (x := some a225) f237
  have f247 := fk_R (j := 650) (x := some a225) f238
  have f248 := fk_R (j := 650) (x := some a225) f239
  have f249 := fk_R (j := 650) (x := some a225) f240
  have f250 := fk_R (j := 650) (x := some a225) f241
  have f251 := fk_R (j := 650) (x := some a225) f242
  have f252 := fk_R (j := 650) (x := some a225) f243
  have f253 := fk_R (j := 650) (x := some a225) f244
  have f254 := fk_mk (k := 650) (o := o0) oa229
  have xa255 := ar_R (j := 650) (a := o0) (y := some a225) xa245
  have hG256 := gp_oR (k := 650) (x := some a225) hG227
  have hL257 : o0 ∈ hp_L (sp_R T226 650 o0 (some a225)) := by rw [hq_L_R]; exact hL232
  have hK258 : hp_K (sp_R T226 650 o0 (some a225)) o0 = 10 := by rw [hq_K_R]; exact hK233
  have hZ259 := zf_R (j := 650) (a := o0) (x := some a225) hZ234
  have hC260 := cf_R (k := 650) (x := some a225) hC235
  have hE261 : ∀ q ∈ E, q ∈ hp_L (sp_R T226 650 o0 (some a225)) := by rw [hq_L_R]; exact hE236
  refine tt_aload_n (j := 0) dX10_init_85 rfl ?_
  refine tt_sipush (v := 202) dX10_init_86 rfl ?_
  refine gn_I (k1 := kc - 10) (n1 := nc - 20968) dX10_init_89 ka_int (by decide) (len := 202) rfl (by decide) (by omega) (by omega) hG256 (e_cons hL257 hE261) (fun a262 T263 hG264 cn265 oa266 => ?_)
  have hK270 := k_cn hL257 cn265 hK258
  have hZ271 := zf_cn hZ259 hL257 cn265
  have hC272 := cf_cn hC260 cn265
  have hE273 := e_cn hE261 cn265
  have f274 := fk_cn f246 hL257 cn265
  have f275 := fk_cn f247 hL257 cn265
  have f276 := fk_cn f248 hL257 cn265
  have f277 := fk_cn f249 hL257 cn265
  have f278 := fk_cn f250 hL257 cn265
  have f279 := fk_cn f251 hL257 cn265
  have f280 := fk_cn f252 hL257 cn265
  have f281 := fk_cn f253 hL257 cn265
  have f282 := fk_cn f254 hL257 cn265
  have xa283 := ar_cn xa255 hL257 cn265
  have hL269 := l_cn hL257 cn265
  refine tt_putR (id := 651) (x := some a262) dX10_init_91 fl_10_39 rfl rfl ⟨hL269, hK270⟩ rfl rfl (by decide) ?_
  have f284 := fk_R (j := 651) (x := some a262) f274
  have f285 := fk_R (j := 651) (x := some a262) f275
  have f286 := fk_R (j := 651) (x := some a262) f276
  have f287 := fk_R (j := 651) (x := some a262) f277
  have f288 := fk_R (j := 651) (x := some a262) f278
  have f289 := fk_R (j := 651) (x := some a262) f279
  have f290 := fk_R (j := 651) (x := some a262) f280
  have f291 := fk_R (j := 651) (x := some a262) f281
  have f292 := fk_R (j := 651) (x := some a262) f282
  have f293 := fk_mk (k := 651) (o := o0) oa266
  have xa294 := ar_R (j := 651) (a := o0) (y := some a262) xa283
  have hG295 := gp_oR (k := 651) (x := some a262) hG264
  have hL296 : o0 ∈ hp_L (sp_R T263 651 o0 (some a262)) := by rw [hq_L_R]; exact hL269
  have hK297 : hp_K (sp_R T263 651 o0 (some a262)) o0 = 10 := by rw [hq_K_R]; exact hK270
  have hZ298 := zf_R (j := 651) (a := o0) (x := some a262) hZ271
  have hC299 := cf_R (k := 651) (x := some a262) hC272
  have hE300 : ∀ q ∈ E, q ∈ hp_L (sp_R T263 651 o0 (some a262)) := by rw [hq_L_R]; exact hE273
  refine tt_aload_n (j := 0) dX10_init_94 rfl ?_
  refine tt_sipush (v := 202) dX10_init_95 rfl ?_
  refine gn_J (k1 := kc - 11) (n1 := nc - 21170) dX10_init_98 ka_long (by decide) (len := 202) rfl (by decide) (by omega) (by omega) hG295 (e_cons hL296 hE300) (fun a301 T302 hG303 cn304 oa305 => ?_)
  have hK309 := k_cn hL296 cn304 hK297
  have hZ310 := zf_cn hZ298 hL296 cn304
  have hC311 := cf_cn hC299 cn304
  have hE312 := e_cn hE300 cn304
  have f313 := fk_cn f284 hL296 cn304
  have f314 := fk_cn f285 hL296 cn304
  have f315 := fk_cn f286 hL296 cn304
  have f316 := fk_cn f287 hL296 cn304
  have f317 := fk_cn f288 hL296 cn304
  have f318 := fk_cn f289 hL296 cn304
  have f319 := fk_cn f290 hL296 cn304
  have f320 := fk_cn f291 hL296 cn304
  have f321 := fk_cn f292 hL296 cn304
  have f322 := fk_cn f293 hL296 cn304
  have xa323 := ar_cn xa294 hL296 cn304
  have hL308 := l_cn hL296 cn304
  refine tt_putR (id := 652) (x := some a301) dX10_init_100 fl_10_42 rfl rfl ⟨hL308, hK309⟩ rfl rfl (by decide) ?_
  have f324 := fk_R (j := 652) (x := some a301) f313
  have f325 := fk_R (j := 652) (x := some a301) f314
  have f326 := fk_R (j := 652) (x := some a301) f315
  have f327 := fk_R (j := 652) (x := some a301) f316
  have f328 := fk_R (j := 652) (x := some a301) f317
  have f329 := fk_R (j := 652) (x := some a301) f318
  have f330 := fk_R (j := 652) (x := some a301) f319
  have f331 := fk_R (j := 652) (x := some a301) f320
  have f332 := fk_R (j := 652) (x := some a301) f321
  have f333 := fk_R (j := 652) (x := some a301) f322
  have f334 := fk_mk (k := 652) (o := o0) oa305
  have xa335 := ar_R (j := 652) (a := o0) (y := some a301) xa323
  have hG336 := gp_oR (k := 652) (x := some a301) hG303
  have hL337 : o0 ∈ hp_L (sp_R T302 652 o0 (some a301)) := by rw [hq_L_R]; exact hL308
  have hK338 : hp_K (sp_R T302 652 o0 (some a301)) o0 = 10 := by rw [hq_K_R]; exact hK309
  have hZ339 := zf_R (j := 652) (a := o0) (x := some a301) hZ310
  have hC340 := cf_R (k := 652) (x := some a301) hC311
  have hE341 : ∀ q ∈ E, q ∈ hp_L (sp_R T302 652 o0 (some a301)) := by rw [hq_L_R]; exact hE312
  refine tt_aload_n (j := 0) dX10_init_103 rfl ?_
  refine tt_iconst (v := (-1)) dX10_init_104 rfl ?_
  refine tt_putI (id := 664) (x := (-1)) dX10_init_105 fl_10_45 rfl rfl ⟨hL337, hK338⟩ rfl rfl (by decide) ?_
  have f342 := fk_I (j := 664) (v := (-1)) f324
  have f343 := fk_I (j := 664) (v := (-1)) f325
  have f344 := fk_I (j := 664) (v := (-1)) f326
  have f345 := fk_I (j := 664) (v := (-1)) f327
  have f346 := fk_I (j := 664) (v := (-1)) f328
  have f347 := fk_I (j := 664) (v := (-1)) f329
  have f348 := fk_I (j := 664) (v := (-1)) f330
  have f349 := fk_I (j := 664) (v := (-1)) f331
  have f350 := fk_I (j := 664) (v := (-1)) f332
  have f351 := fk_I (j := 664) (v := (-1)) f333
  have f352 := fk_I (j := 664) (v := (-1)) f334
  have i353 : hp_I (sp_I (sp_R T302 652 o0 (some a301)) 664 o0 (-1)) 664 o0 = (-1) := by rw [hq_I_I, up2_self]
  have hG354 := gp_oI (k := 664) (v := (-1)) hG336
  have hL355 : o0 ∈ hp_L (sp_I (sp_R T302 652 o0 (some a301)) 664 o0 (-1)) := by rw [hq_L_I]; exact hL337
  have hK356 : hp_K (sp_I (sp_R T302 652 o0 (some a301)) 664 o0 (-1)) o0 = 10 := by rw [hq_K_I]; exact hK338
  have hZ357 := zf_I (j := 664) (v := (-1)) hZ339
  have hC358 := cf_I (k := 664) (v := (-1)) hC340
  have hE359 : ∀ q ∈ E, q ∈ hp_L (sp_I (sp_R T302 652 o0 (some a301)) 664 o0 (-1)) := by rw [hq_L_I]; exact hE341
  have xa360 := ar_I (j := 664) (a := o0) (v := (-1)) xa335
  refine tt_aload_n (j := 0) dX10_init_108 rfl ?_
  refine tt_bipush (v := 24) dX10_init_109 rfl ?_
  refine gn_J (k1 := kc - 12) (n1 := nc - 21194) dX10_init_111 ka_long (by decide) (len := 24) rfl (by decide) (by omega) (by omega) hG354 (e_cons hL355 hE359) (fun a361 T362 hG363 cn364 oa365 => ?_)
  have hK369 := k_cn hL355 cn364 hK356
  have hZ370 := zf_cn hZ357 hL355 cn364
  have hC371 := cf_cn hC358 cn364
  have hE372 := e_cn hE359 cn364
  have f373 := fk_cn f342 hL355 cn364
  have f374 := fk_cn f343 hL355 cn364
  have f375 := fk_cn f344 hL355 cn364
  have f376 := fk_cn f345 hL355 cn364
  have f377 := fk_cn f346 hL355 cn364
  have f378 := fk_cn f347 hL355 cn364
  have f379 := fk_cn f348 hL355 cn364
  have f380 := fk_cn f349 hL355 cn364
  have f381 := fk_cn f350 hL355 cn364
  have f382 := fk_cn f351 hL355 cn364
  have f383 := fk_cn f352 hL355 cn364
  have i384 := ((cn364.2.1 o0 hL355).2 664).trans i353
  have xa385 := ar_cn xa360 hL355 cn364
  have hL368 := l_cn hL355 cn364
  refine tt_putR (id := 665) (x := some a361) dX10_init_113 fl_10_49 rfl rfl ⟨hL368, hK369⟩ rfl rfl (by decide) ?_
  have f386 := fk_R (j := 665) (x := some a361) f373
  have f387 := fk_R (j := 665) (x := some a361) f374
  have f388 := fk_R (j := 665) (x := some a361) f375
  have f389 := fk_R (j := 665) (x := some a361) f376
  have f390 := fk_R (j := 665) (x := some a361) f377
  have f391 := fk_R (j := 665) (x := some a361) f378
  have f392 := fk_R (j := 665) (x := some a361) f379
  have f393 := fk_R (j := 665) (x := some a361) f380
  have f394 := fk_R (j := 665) (x := some a361) f381
  have f395 := fk_R (j := 665) (x := some a361) f382
  have f396 := fk_R (j := 665) (x := some a361) f383
  have f397 := fk_mk (k := 665) (o := o0) oa365
  have xa398 := ar_R (j := 665) (a := o0) (y := some a361) xa385
  have i399 : hp_I (sp_R T362 665 o0 (some a361)) 664 o0 = (-1) := by rw [hq_I_R]; exact i384
  have hG400 := gp_oR (k := 665) (x := some a361) hG363
  have hL401 : o0 ∈ hp_L (sp_R T362 665 o0 (some a361)) := by rw [hq_L_R]; exact hL368
  have hK402 : hp_K (sp_R T362 665 o0 (some a361)) o0 = 10 := by rw [hq_K_R]; exact hK369
  have hZ403 := zf_R (j := 665) (a := o0) (x := some a361) hZ370
  have hC404 := cf_R (k := 665) (x := some a361) hC371
  have hE405 : ∀ q ∈ E, q ∈ hp_L (sp_R T362 665 o0 (some a361)) := by rw [hq_L_R]; exact hE372
  refine tt_aload_n (j := 0) dX10_init_116 rfl ?_
  refine tt_bipush (v := 24) dX10_init_117 rfl ?_
  refine gn_J (k1 := kc - 13) (n1 := nc - 21218) dX10_init_119 ka_long (by decide) (len := 24) rfl (by decide) (by omega) (by omega) hG400 (e_cons hL401 hE405) (fun a406 T407 hG408 cn409 oa410 => ?_)
  have hK414 := k_cn hL401 cn409 hK402
  have hZ415 := zf_cn hZ403 hL401 cn409
  have hC416 := cf_cn hC404 cn409
  have hE417 := e_cn hE405 cn409
  have f418 := fk_cn f386 hL401 cn409
  have f419 := fk_cn f387 hL401 cn409
  have f420 := fk_cn f388 hL401 cn409
  have f421 := fk_cn f389 hL401 cn409
  have f422 := fk_cn f390 hL401 cn409
  have f423 := fk_cn f391 hL401 cn409
  have f424 := fk_cn f392 hL401 cn409
  have f425 := fk_cn f393 hL401 cn409
  have f426 := fk_cn f394 hL401 cn409
  have f427 := fk_cn f395 hL401 cn409
  have f428 := fk_cn f396 hL401 cn409
  have f429 := fk_cn f397 hL401 cn409
  have i430 := ((cn409.2.1 o0 hL401).2 664).trans i399
  have xa431 := ar_cn xa398 hL401 cn409
  have hL413 := l_cn hL401 cn409
  refine tt_putR (id := 666) (x := some a406) dX10_init_121 fl_10_52 rfl rfl ⟨hL413, hK414⟩ rfl rfl (by decide) ?_
  have f432 := fk_R (j := 666) (x := some a406) f418
  have f433 := fk_R (j := 666) (x := some a406) f419
  have f434 := fk_R (j := 666) (x := some a406) f420
  have f435 := fk_R (j := 666) (x := some a406) f421
  have f436 := fk_R (j := 666) (x := some a406) f422
  have f437 := fk_R (j := 666) (x := some a406) f423
  have f438 := fk_R (j := 666) (x := some a406) f424
  have f439 := fk_R (j := 666) (x := some a406) f425
  have f440 := fk_R (j := 666) (x := some a406) f426
  have f441 := fk_R (j := 666) (x := some a406) f427
  have f442 := fk_R (j := 666) (x := some a406) f428
  have f443 := fk_R (j := 666) (x := some a406) f429
  have f444 := fk_mk (k := 666) (o := o0) oa410
  have xa445 := ar_R (j := 666) (a := o0) (y := some a406) xa431
  have i446 : hp_I (sp_R T407 666 o0 (some a406)) 664 o0 = (-1) := by rw [hq_I_R]; exact i430
  have hG447 := gp_oR (k := 666) (x := some a406) hG408
  have hL448 : o0 ∈ hp_L (sp_R T407 666 o0 (some a406)) := by rw [hq_L_R]; exact hL413
  have hK449 : hp_K (sp_R T407 666 o0 (some a406)) o0 = 10 := by rw [hq_K_R]; exact hK414
  have hZ450 := zf_R (j := 666) (a := o0) (x := some a406) hZ415
  have hC451 := cf_R (k := 666) (x := some a406) hC416
  have hE452 : ∀ q ∈ E, q ∈ hp_L (sp_R T407 666 o0 (some a406)) := by rw [hq_L_R]; exact hE417
  obtain ⟨gD, oD⟩ := gi_done hG447 hL448 hE hK449 (by decide) [(642, 0, 200), (653, 0, 1), (654, 0, 200), (662, 0, 1), (663, 0, 1), (664, -2, 199), (667, 0, 1), (668, 0, 1), (669, 0, 1), (670, 0, 1), (671, 0, 1), (672, 0, 15), (674, 0, 7), (676, 0, 1)] (by decide) (fa_cons (zf_rg hZ450) (fa_cons (zf_rg hZ450) (fa_cons (zf_rg hZ450) (fa_cons (zf_rg hZ450) (fa_cons (zf_rg hZ450) (fa_cons (by show Rg (-2) 199 (hp_I (sp_R T407 666 o0 (some a406)) 664 o0); rw [i446]; exact ⟨by decide, by decide⟩) (fa_cons (zf_rg hZ450) (fa_cons (zf_rg hZ450) (fa_cons (zf_rg hZ450) (fa_cons (zf_rg hZ450) (fa_cons (zf_rg hZ450) (fa_cons (zf_rg hZ450) (fa_cons (zf_rg hZ450) (fa_cons (zf_rg hZ450) fa_nil)))))))))))))) [(641, 32, 200), (643, 32, 4940), (644, 33, 4940), (645, 33, 4940), (646, 33, 4940), (647, 32, 201), (648, 34, 201), (649, 32, 202), (650, 32, 202), (651, 32, 202), (652, 33, 202), (665, 33, 24), (666, 33, 24)] (by decide) (fa_cons ⟨_, f432⟩ (fa_cons ⟨_, f433⟩ (fa_cons ⟨_, f434⟩ (fa_cons ⟨_, f435⟩ (fa_cons ⟨_, f436⟩ (fa_cons ⟨_, f437⟩ (fa_cons ⟨_, f438⟩ (fa_cons ⟨_, f439⟩ (fa_cons ⟨_, f440⟩ (fa_cons ⟨_, f441⟩ (fa_cons ⟨_, f442⟩ (fa_cons ⟨_, f443⟩ (fa_cons ⟨_, f444⟩ fa_nil)))))))))))))
  refine ct_X10 gD oD (fun r T x y h => ?_)
  obtain ⟨g1, g2, ⟨v, rfl, hv, -, hx9, hy9⟩ | ⟨X, hX, -⟩⟩ := h
  · obtain rfl : v = none := hv
    rw [hx9, hy9]; exact hP T g1 (oa_af oD g2) (cf_af hC451 g2) ((g2.2.2.1 642 (by decide) o0 oD.1).trans (hZ450 642 (by decide))) ((g2.2.2.1 663 (by decide) o0 oD.1).trans (hZ450 663 (by decide))) (ar_af xa445 oD.1 g2)
  · cases hX
