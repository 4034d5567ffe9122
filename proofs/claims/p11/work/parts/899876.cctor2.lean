/-! constructors of Looking, StrideWatch and the reference that tell more -/
/-- an array of points, none made -/
def Pn (T : Hp) (a : Nat) : Prop := a ∈ hp_L T ∧ hp_r T a = fun _ => none
/-- an array of 201 ints, all 0 -/
def Az (T : Hp) (a : Nat) : Prop := a ∈ hp_L T ∧ hp_N T a = 201 ∧ hp_i T a = fun _ => 0
def S8 (T : Hp) (o : Nat) : Prop := o ∈ hp_L T ∧ St8 T o
def LkF (T : Hp) (lk b i : Nat) : Prop := lk ∈ hp_L T ∧ hp_R T 256 lk = some b ∧ hp_R T 257 lk = some i ∧ ∃ q, hp_R T 258 lk = some q ∧ Pn T q
section CDH
variable {S T : Hp} {E : List Nat} {a o lk b i j : Nat} {y : Option Nat} {v : Int32}
theorem pn_cn (h : Pn S b) (c : Cn S T) : Pn T b := ⟨l_cn h.1 c, (c.2.2.1 b h.1).trans h.2⟩
theorem pn_R (h : Pn S b) : Pn (sp_R S j a y) b := ⟨by rw [hq_L_R]; exact h.1, by rw [hq_r_R]; exact h.2⟩
theorem pn_I (h : Pn S b) : Pn (sp_I S j a v) b := ⟨by rw [hq_L_I]; exact h.1, by rw [hq_r_I]; exact h.2⟩
theorem az_cn (h : Az S b) (c : Cn S T) : Az T b := ⟨l_cn h.1 c, (c.1 b h.1).2.2.trans h.2.1, (c.2.2.2.2.2.1.2.2 (fun z => nomatch z) b h.1 (Or.inl h.2.1)).1.trans h.2.2⟩
theorem az_R (h : Az S b) : Az (sp_R S j a y) b := ⟨by rw [hq_L_R]; exact h.1, by rw [hq_N_R]; exact h.2.1, by rw [hq_i_R]; exact h.2.2⟩
theorem az_I (h : Az S b) : Az (sp_I S j a v) b := ⟨by rw [hq_L_I]; exact h.1, by rw [hq_N_I]; exact h.2.1, by rw [hq_i_I]; exact h.2.2⟩
theorem s8_cn (h : S8 S o) (c : Cn S T) : S8 T o := by
  obtain ⟨h0, p, q, r, ⟨r1, r2, r3⟩, ⟨l1, l2, l3⟩, ⟨n1, n2, n3⟩, ⟨j1, j2, j3⟩, i1, i2, i3⟩ := h
  refine ⟨l_cn h0 c, p, q, r, ⟨rl_cn r1 h0 c, rl_cn r2 h0 c, rl_cn r3 h0 c⟩, ⟨l_cn l1 c, l_cn l2 c, l_cn l3 c⟩, ⟨(c.1 p l1).2.2.trans n1, (c.1 q l2).2.2.trans n2, (c.1 r l3).2.2.trans n3⟩, ⟨fun k hk => ?_, fun k hk => ?_, fun k hk => ?_⟩, ((c.2.1 o h0).2 515).trans i1, ((c.2.1 o h0).2 516).trans i2, ((c.2.1 o h0).2 517).trans i3⟩
  · rw [c.2.2.2.2.1.1 p l1 n1]; exact j1 k hk
  · rw [c.2.2.2.2.1.1 q l2 n2]; exact j2 k hk
  · rw [c.2.2.2.2.1.1 r l3 n3]; exact j3 k hk
theorem s8_R (h : S8 S o) (hj : j ≠ 512 ∧ j ≠ 513 ∧ j ≠ 514 := by decide) : S8 (sp_R S j a y) o := by
  obtain ⟨h0, p, q, r, ⟨r1, r2, r3⟩, h2, h3, h4, h5⟩ := h
  refine ⟨by rw [hq_L_R]; exact h0, p, q, r, ⟨by rw [hq_R_R, up2_ne hj.1.symm]; exact r1, by rw [hq_R_R, up2_ne hj.2.1.symm]; exact r2, by rw [hq_R_R, up2_ne hj.2.2.symm]; exact r3⟩, by rw [hq_L_R]; exact h2, by rw [hq_N_R]; exact h3, by rw [hq_j_R]; exact h4, by rw [hq_I_R]; exact h5⟩
theorem lf_cn (h : LkF S lk b i) (c : Cn S T) : LkF T lk b i := by
  obtain ⟨h0, h1, h2, q, h3, h4⟩ := h
  exact ⟨l_cn h0 c, rl_cn h1 h0 c, rl_cn h2 h0 c, q, rl_cn h3 h0 c, pn_cn h4 c⟩
theorem lf_R (h : LkF S lk b i) (hj : j ≠ 256 ∧ j ≠ 257 ∧ j ≠ 258 := by decide) : LkF (sp_R S j a y) lk b i := by
  obtain ⟨h0, h1, h2, q, h3, h4⟩ := h
  exact ⟨by rw [hq_L_R]; exact h0, by rw [hq_R_R, up2_ne hj.1.symm]; exact h1, by rw [hq_R_R, up2_ne hj.2.1.symm]; exact h2, q, by rw [hq_R_R, up2_ne hj.2.2.symm]; exact h3, pn_R h4⟩
theorem az_af (h : Az S b) (c : Af E [9989] S T) (h1 : hp_i T b = hp_i S b) : Az T b := ⟨(c.1 b h.1).1, (c.1 b h.1).2.2.trans h.2.1, h1.trans h.2.2⟩
theorem oa_n1 {kd n : Nat} (h : Oa S E kd n b) (hk : 32 ≤ kd := by decide) : hp_N S b = n := h.2.2.2 hk
end CDH
set_option maxHeartbeats 4000000 in
theorem cd_4 {xi : SX} {S : Hp} {E : List Nat} {kc nc : Nat} {P : Po} {o0 : Nat} {p1 : Nat} {p2 : Nat} (hG : GI S (o0 :: E)) (hL : o0 ∈ hp_L S) (hEL : ∀ q ∈ E, q ∈ hp_L S) (hE : o0 ∉ E) (hK : hp_K S o0 = 4) (hZ : Zf S o0 []) (g1 : Oa S (o0 :: E) 1 0 p1) (g2 : Oa S (o0 :: E) 3 0 p2) (hkc : 15 ≤ kc) (hnc : 308 ≤ nc) (hP : ∀ T, GI T E → Oa T E 4 0 o0 → Cf o0 S T → LkF T o0 p1 p2 → P (.inl none) T (kc - 15) (nc - 308)) : TT xi M_X4_init 0 [(0, .ref o0), (1, .ref p1), (2, .ref p2)] [] S kc nc P := by
  have hC : Cf o0 S S := cf_rf
  refine tt_aload_n (j := 0) dX4_init_0 rfl ?_
  refine tt_objInit dX4_init_1 ca_X4_3 ⟨by decide, by decide⟩ ?_
  refine tt_aload_n (j := 0) dX4_init_4 rfl ?_
  refine tt_sipush (v := 200) dX4_init_5 rfl ?_
  refine gn_P (k1 := kc - 1) (n1 := nc - 200) dX4_init_8 wd_157 (by decide) (len := 200) rfl (by decide) (by omega) (by omega) hG (e_cons hL hEL) (fun a1 T2 hG3 cn4 oa5 ni6 et7 => ?_)
  have pn0 : Pn T2 a1 := ⟨oa5.1, by rw [et7, hq_r_a, va_up_self]⟩
  have nb8 : a1 ∉ hp_L S := fun q => ni6 (hC.1 a1 q).1
  have hK10 := k_cn hL cn4 hK
  have hZ11 := zf_cn hZ hL cn4
  have hC12 := cf_cn hC cn4 hL
  have hE13 := e_cn hEL cn4
  have g14 := oa_cn g1 cn4
  have g15 := oa_cn g2 cn4
  have hL9 := l_cn hL cn4
  refine tt_putR (id := 258) (x := some a1) dX4_init_11 fl_4_11 rfl rfl ⟨hL9, hK10⟩ rfl rfl (by decide) ?_
  have tr1 := pn_R (j := 258) (a := o0) (y := some a1) pn0
  have f16 := fk_mk (k := 258) (o := o0) oa5
  have g17 := oa_R (k := 258) (o := o0) (x := some a1) g14
  have g18 := oa_R (k := 258) (o := o0) (x := some a1) g15
  have hG19 := gp_oR (k := 258) (x := some a1) hG3
  have hL20 : o0 ∈ hp_L (sp_R T2 258 o0 (some a1)) := by rw [hq_L_R]; exact hL9
  have hK21 : hp_K (sp_R T2 258 o0 (some a1)) o0 = 4 := by rw [hq_K_R]; exact hK10
  have hZ22 := zf_R (j := 258) (a := o0) (x := some a1) hZ11
  have hC23 := cf_R (k := 258) (x := some a1) hC12 hL (ow_no (by decide)) (fun b e => by cases e; exact oa5.1) (fun h => by cases h) (fun _ _ e => by cases e; exact ⟨nb8, fun hU => by rw [et7]; exact nh_a (hC.2.2.2.2.2.2.2.1 hU) ni6 (by decide)⟩)
  have hE24 : ∀ q ∈ E, q ∈ hp_L (sp_R T2 258 o0 (some a1)) := by rw [hq_L_R]; exact hE13
  refine tt_aload_n (j := 0) dX4_init_14 rfl ?_
  refine tt_newo (k1 := kc - 2) (n1 := nc - 207) dX4_init_15 nl_4_17 (by omega) (by show nc - 207 + 7 ≤ nc - 200; omega) (fun a25 ha26 => ?_)
  refine tt_dup dX4_init_18 rfl ?_
  refine tt_callI (As := []) (Mid := fun r T _ _ => r = .inl none ∧ GI T (o0 :: E) ∧ Oa T (o0 :: E) 8 0 a25 ∧ Cf a25 (nw_o (sp_R T2 258 o0 (some a1)) 8 a25) T ) (k1 := 3) (n1 := 72) (k2 := kc - 5) (n2 := nc - 279) dX4_init_19 ca_X4_19 ⟨by decide, by decide⟩ (Nat.le_of_ble_eq_true rfl) (Nat.le_of_ble_eq_true rfl) (by omega) (by omega) (cc_8 (gi_o hG19 ha26) in_o (e_cn (e_cons hL20 hE24) (cn_o ha26)) (fun q => ha26 (e_cons hL20 hE24 _ q)) k_o zf_o  (kc := 3) (nc := 72) (by decide) (by decide) (fun T u1 u2 u3 => ⟨rfl, u1, u2, u3⟩)) (fun v T27 x y hw => ?_) (fun X T hw => by obtain ⟨e, -⟩ := hw; cases e)
  obtain ⟨e, hG28, oa29, cf30⟩ := hw
  cases e
  have cn31 := cn_new ha26 cf30
  have tr2 := pn_cn tr1 cn31
  show TT xi M_X4_init 22 [(0, .ref o0), (1, .ref p1), (2, .ref p2)] [.ref a25, .ref o0] T27 (kc - 5) (nc - 279) P
  have hK40 := k_cn hL20 cn31 hK21
  have hZ41 := zf_cn hZ22 hL20 cn31
  have hC42 := cf_cn hC23 cn31 hL
  have hE43 := e_cn hE24 cn31
  have f44 := fk_cn f16 hL20 cn31
  have g45 := oa_cn g17 cn31
  have g46 := oa_cn g18 cn31
  have hL39 := l_cn hL20 cn31
  refine tt_putR (id := 259) (x := some a25) dX4_init_22 fl_4_20 rfl rfl ⟨hL39, hK40⟩ rfl rfl (by decide) ?_
  have tr3 := pn_R (j := 259) (a := o0) (y := some a25) tr2
  have f47 := fk_R (j := 259) (x := some a25) f44
  have f48 := fk_mk (k := 259) (o := o0) oa29
  have g49 := oa_R (k := 259) (o := o0) (x := some a25) g45
  have g50 := oa_R (k := 259) (o := o0) (x := some a25) g46
  have hG51 := gp_oR (k := 259) (x := some a25) hG28
  have hL52 : o0 ∈ hp_L (sp_R T27 259 o0 (some a25)) := by rw [hq_L_R]; exact hL39
  have hK53 : hp_K (sp_R T27 259 o0 (some a25)) o0 = 4 := by rw [hq_K_R]; exact hK40
  have hZ54 := zf_R (j := 259) (a := o0) (x := some a25) hZ41
  have hC55 := cf_R (k := 259) (x := some a25) hC42 hL (ow_no (by decide)) (fun b e => by cases e; exact oa29.1) (fun h => by cases h) (fun _ _ e => by cases e; exact ⟨fun q => ha26 (hC23.1 a25 q).1, fun hU => nh_new (hC23.2.2.2.2.2.2.2.1 hU) ha26 cf30⟩)
  have hE56 : ∀ q ∈ E, q ∈ hp_L (sp_R T27 259 o0 (some a25)) := by rw [hq_L_R]; exact hE43
  refine tt_aload_n (j := 0) dX4_init_25 rfl ?_
  refine tt_newo (k1 := kc - 6) (n1 := nc - 282) dX4_init_26 nl_4_24 (by omega) (by show nc - 282 + 3 ≤ nc - 279; omega) (fun a57 ha58 => ?_)
  refine tt_dup dX4_init_29 rfl ?_
  refine tt_callIN (As := []) (Mid := fun r T _ _ => r = .inl none ∧ GI T (o0 :: E) ∧ Oa T (o0 :: E) 2 0 a57 ∧ Cf a57 (nw_o (sp_R T27 259 o0 (some a25)) 2 a57) T ) (k1 := 3) (n1 := 9) (k2 := kc - 9) (n2 := nc - 291) dX4_init_30 ca_X4_26 ⟨by decide, by decide⟩ (Nat.le_of_ble_eq_true rfl) (Nat.le_of_ble_eq_true rfl) (by omega) (by omega) (cc_2 (gi_o hG51 ha58) in_o (e_cn (e_cons hL52 hE56) (cn_o ha58)) (fun q => ha58 (e_cons hL52 hE56 _ q)) k_o zf_o  (kc := 3) (nc := 9) (by decide) (by decide) (fun T u1 u2 u3 => ⟨rfl, u1, u2, u3⟩)) (fun v T59 x y hw => ?_) (fun X T hw => by obtain ⟨e, -⟩ := hw; cases e)
  obtain ⟨e, hG60, oa61, cf62⟩ := hw
  cases e
  have cn63 := cn_new ha58 cf62
  have tr4 := pn_cn tr3 cn63
  show TT xi M_X4_init 33 [(0, .ref o0), (1, .ref p1), (2, .ref p2)] [.ref a57, .ref o0] T59 (kc - 9) (nc - 291) P
  have hK72 := k_cn hL52 cn63 hK53
  have hZ73 := zf_cn hZ54 hL52 cn63
  have hC74 := cf_cn hC55 cn63 hL
  have hE75 := e_cn hE56 cn63
  have f76 := fk_cn f47 hL52 cn63
  have f77 := fk_cn f48 hL52 cn63
  have g78 := oa_cn g49 cn63
  have g79 := oa_cn g50 cn63
  have hL71 := l_cn hL52 cn63
  refine tt_putR (id := 260) (x := some a57) dX4_init_33 fl_4_27 rfl rfl ⟨hL71, hK72⟩ rfl rfl (by decide) ?_
  have tr5 := pn_R (j := 260) (a := o0) (y := some a57) tr4
  have f80 := fk_R (j := 260) (x := some a57) f76
  have f81 := fk_R (j := 260) (x := some a57) f77
  have f82 := fk_mk (k := 260) (o := o0) oa61
  have g83 := oa_R (k := 260) (o := o0) (x := some a57) g78
  have g84 := oa_R (k := 260) (o := o0) (x := some a57) g79
  have hG85 := gp_oR (k := 260) (x := some a57) hG60
  have hL86 : o0 ∈ hp_L (sp_R T59 260 o0 (some a57)) := by rw [hq_L_R]; exact hL71
  have hK87 : hp_K (sp_R T59 260 o0 (some a57)) o0 = 4 := by rw [hq_K_R]; exact hK72
  have hZ88 := zf_R (j := 260) (a := o0) (x := some a57) hZ73
  have hC89 := cf_R (k := 260) (x := some a57) hC74 hL (ow_no (by decide)) (fun b e => by cases e; exact oa61.1) (fun h => by cases h) (fun _ _ e => by cases e; exact ⟨fun q => ha58 (hC55.1 a57 q).1, fun hU => nh_new (hC55.2.2.2.2.2.2.2.1 hU) ha58 cf62⟩)
  have hE90 : ∀ q ∈ E, q ∈ hp_L (sp_R T59 260 o0 (some a57)) := by rw [hq_L_R]; exact hE75
  refine tt_aload_n (j := 0) dX4_init_36 rfl ?_
  refine tt_newo (k1 := kc - 10) (n1 := nc - 293) dX4_init_37 nl_4_31 (by omega) (by show nc - 293 + 2 ≤ nc - 291; omega) (fun a91 ha92 => ?_)
  refine tt_dup dX4_init_40 rfl ?_
  refine tt_callIN (As := []) (Mid := fun r T _ _ => r = .inl none ∧ GI T (o0 :: E) ∧ Oa T (o0 :: E) 0 0 a91 ∧ Cf a91 (nw_o (sp_R T59 260 o0 (some a57)) 0 a91) T ) (k1 := 2) (n1 := 6) (k2 := kc - 12) (n2 := nc - 299) dX4_init_41 ca_X4_33 ⟨by decide, by decide⟩ (Nat.le_of_ble_eq_true rfl) (Nat.le_of_ble_eq_true rfl) (by omega) (by omega) (cc_0 (gi_o hG85 ha92) in_o (e_cn (e_cons hL86 hE90) (cn_o ha92)) (fun q => ha92 (e_cons hL86 hE90 _ q)) k_o zf_o  (kc := 2) (nc := 6) (by decide) (by decide) (fun T u1 u2 u3 => ⟨rfl, u1, u2, u3⟩)) (fun v T93 x y hw => ?_) (fun X T hw => by obtain ⟨e, -⟩ := hw; cases e)
  obtain ⟨e, hG94, oa95, cf96⟩ := hw
  cases e
  have cn97 := cn_new ha92 cf96
  have tr6 := pn_cn tr5 cn97
  show TT xi M_X4_init 44 [(0, .ref o0), (1, .ref p1), (2, .ref p2)] [.ref a91, .ref o0] T93 (kc - 12) (nc - 299) P
  have hK106 := k_cn hL86 cn97 hK87
  have hZ107 := zf_cn hZ88 hL86 cn97
  have hC108 := cf_cn hC89 cn97 hL
  have hE109 := e_cn hE90 cn97
  have f110 := fk_cn f80 hL86 cn97
  have f111 := fk_cn f81 hL86 cn97
  have f112 := fk_cn f82 hL86 cn97
  have g113 := oa_cn g83 cn97
  have g114 := oa_cn g84 cn97
  have hL105 := l_cn hL86 cn97
  refine tt_putR (id := 261) (x := some a91) dX4_init_44 fl_4_34 rfl rfl ⟨hL105, hK106⟩ rfl rfl (by decide) ?_
  have tr7 := pn_R (j := 261) (a := o0) (y := some a91) tr6
  have f115 := fk_R (j := 261) (x := some a91) f110
  have f116 := fk_R (j := 261) (x := some a91) f111
  have f117 := fk_R (j := 261) (x := some a91) f112
  have f118 := fk_mk (k := 261) (o := o0) oa95
  have g119 := oa_R (k := 261) (o := o0) (x := some a91) g113
  have g120 := oa_R (k := 261) (o := o0) (x := some a91) g114
  have hG121 := gp_oR (k := 261) (x := some a91) hG94
  have hL122 : o0 ∈ hp_L (sp_R T93 261 o0 (some a91)) := by rw [hq_L_R]; exact hL105
  have hK123 : hp_K (sp_R T93 261 o0 (some a91)) o0 = 4 := by rw [hq_K_R]; exact hK106
  have hZ124 := zf_R (j := 261) (a := o0) (x := some a91) hZ107
  have hC125 := cf_R (k := 261) (x := some a91) hC108 hL (ow_no (by decide)) (fun b e => by cases e; exact oa95.1) (fun h => by cases h) (fun _ _ e => by cases e; exact ⟨fun q => ha92 (hC89.1 a91 q).1, fun hU => nh_new (hC89.2.2.2.2.2.2.2.1 hU) ha92 cf96⟩)
  have hE126 : ∀ q ∈ E, q ∈ hp_L (sp_R T93 261 o0 (some a91)) := by rw [hq_L_R]; exact hE109
  refine tt_aload_n (j := 0) dX4_init_47 rfl ?_
  refine tt_newo (k1 := kc - 13) (n1 := nc - 302) dX4_init_48 nl_4_38 (by omega) (by show nc - 302 + 3 ≤ nc - 299; omega) (fun a127 ha128 => ?_)
  refine tt_dup dX4_init_51 rfl ?_
  refine tt_callIN (As := []) (Mid := fun r T _ _ => r = .inl none ∧ GI T (o0 :: E) ∧ Oa T (o0 :: E) 7 0 a127 ∧ Cf a127 (nw_o (sp_R T93 261 o0 (some a91)) 7 a127) T ) (k1 := 0) (n1 := 0) (k2 := kc - 13) (n2 := nc - 302) dX4_init_52 ca_X4_40 ⟨by decide, by decide⟩ (Nat.le_of_ble_eq_true rfl) (Nat.le_of_ble_eq_true rfl) (by omega) (by omega) (cc_7 (gi_o hG121 ha128) in_o (e_cn (e_cons hL122 hE126) (cn_o ha128)) (fun q => ha128 (e_cons hL122 hE126 _ q)) k_o zf_o  (kc := 0) (nc := 0) (by decide) (by decide) (fun T u1 u2 u3 => ⟨rfl, u1, u2, u3⟩)) (fun v T129 x y hw => ?_) (fun X T hw => by obtain ⟨e, -⟩ := hw; cases e)
  obtain ⟨e, hG130, oa131, cf132⟩ := hw
  cases e
  have cn133 := cn_new ha128 cf132
  have tr8 := pn_cn tr7 cn133
  show TT xi M_X4_init 55 [(0, .ref o0), (1, .ref p1), (2, .ref p2)] [.ref a127, .ref o0] T129 (kc - 13) (nc - 302) P
  have hK142 := k_cn hL122 cn133 hK123
  have hZ143 := zf_cn hZ124 hL122 cn133
  have hC144 := cf_cn hC125 cn133 hL
  have hE145 := e_cn hE126 cn133
  have f146 := fk_cn f115 hL122 cn133
  have f147 := fk_cn f116 hL122 cn133
  have f148 := fk_cn f117 hL122 cn133
  have f149 := fk_cn f118 hL122 cn133
  have g150 := oa_cn g119 cn133
  have g151 := oa_cn g120 cn133
  have hL141 := l_cn hL122 cn133
  refine tt_putR (id := 262) (x := some a127) dX4_init_55 fl_4_41 rfl rfl ⟨hL141, hK142⟩ rfl rfl (by decide) ?_
  have tr9 := pn_R (j := 262) (a := o0) (y := some a127) tr8
  have f152 := fk_R (j := 262) (x := some a127) f146
  have f153 := fk_R (j := 262) (x := some a127) f147
  have f154 := fk_R (j := 262) (x := some a127) f148
  have f155 := fk_R (j := 262) (x := some a127) f149
  have f156 := fk_mk (k := 262) (o := o0) oa131
  have g157 := oa_R (k := 262) (o := o0) (x := some a127) g150
  have g158 := oa_R (k := 262) (o := o0) (x := some a127) g151
  have hG159 := gp_oR (k := 262) (x := some a127) hG130
  have hL160 : o0 ∈ hp_L (sp_R T129 262 o0 (some a127)) := by rw [hq_L_R]; exact hL141
  have hK161 : hp_K (sp_R T129 262 o0 (some a127)) o0 = 4 := by rw [hq_K_R]; exact hK142
  have hZ162 := zf_R (j := 262) (a := o0) (x := some a127) hZ143
  have hC163 := cf_R (k := 262) (x := some a127) hC144 hL (ow_no (by decide)) (fun b e => by cases e; exact oa131.1) (fun h => by cases h) (fun _ _ e => by cases e; exact ⟨fun q => ha128 (hC125.1 a127 q).1, fun hU => nh_new (hC125.2.2.2.2.2.2.2.1 hU) ha128 cf132⟩)
  have hE164 : ∀ q ∈ E, q ∈ hp_L (sp_R T129 262 o0 (some a127)) := by rw [hq_L_R]; exact hE145
  refine tt_aload_n (j := 0) dX4_init_58 rfl ?_
  refine tt_newo (k1 := kc - 14) (n1 := nc - 305) dX4_init_59 nl_4_38 (by omega) (by show nc - 305 + 3 ≤ nc - 302; omega) (fun a165 ha166 => ?_)
  refine tt_dup dX4_init_62 rfl ?_
  refine tt_callIN (As := []) (Mid := fun r T _ _ => r = .inl none ∧ GI T (o0 :: E) ∧ Oa T (o0 :: E) 7 0 a165 ∧ Cf a165 (nw_o (sp_R T129 262 o0 (some a127)) 7 a165) T ) (k1 := 0) (n1 := 0) (k2 := kc - 14) (n2 := nc - 305) dX4_init_63 ca_X4_40 ⟨by decide, by decide⟩ (Nat.le_of_ble_eq_true rfl) (Nat.le_of_ble_eq_true rfl) (by omega) (by omega) (cc_7 (gi_o hG159 ha166) in_o (e_cn (e_cons hL160 hE164) (cn_o ha166)) (fun q => ha166 (e_cons hL160 hE164 _ q)) k_o zf_o  (kc := 0) (nc := 0) (by decide) (by decide) (fun T u1 u2 u3 => ⟨rfl, u1, u2, u3⟩)) (fun v T167 x y hw => ?_) (fun X T hw => by obtain ⟨e, -⟩ := hw; cases e)
  obtain ⟨e, hG168, oa169, cf170⟩ := hw
  cases e
  have cn171 := cn_new ha166 cf170
  have tr10 := pn_cn tr9 cn171
  show TT xi M_X4_init 66 [(0, .ref o0), (1, .ref p1), (2, .ref p2)] [.ref a165, .ref o0] T167 (kc - 14) (nc - 305) P
  have hK180 := k_cn hL160 cn171 hK161
  have hZ181 := zf_cn hZ162 hL160 cn171
  have hC182 := cf_cn hC163 cn171 hL
  have hE183 := e_cn hE164 cn171
  have f184 := fk_cn f152 hL160 cn171
  have f185 := fk_cn f153 hL160 cn171
  have f186 := fk_cn f154 hL160 cn171
  have f187 := fk_cn f155 hL160 cn171
  have f188 := fk_cn f156 hL160 cn171
  have g189 := oa_cn g157 cn171
  have g190 := oa_cn g158 cn171
  have hL179 := l_cn hL160 cn171
  refine tt_putR (id := 263) (x := some a165) dX4_init_66 fl_4_45 rfl rfl ⟨hL179, hK180⟩ rfl rfl (by decide) ?_
  have tr11 := pn_R (j := 263) (a := o0) (y := some a165) tr10
  have f191 := fk_R (j := 263) (x := some a165) f184
  have f192 := fk_R (j := 263) (x := some a165) f185
  have f193 := fk_R (j := 263) (x := some a165) f186
  have f194 := fk_R (j := 263) (x := some a165) f187
  have f195 := fk_R (j := 263) (x := some a165) f188
  have f196 := fk_mk (k := 263) (o := o0) oa169
  have g197 := oa_R (k := 263) (o := o0) (x := some a165) g189
  have g198 := oa_R (k := 263) (o := o0) (x := some a165) g190
  have hG199 := gp_oR (k := 263) (x := some a165) hG168
  have hL200 : o0 ∈ hp_L (sp_R T167 263 o0 (some a165)) := by rw [hq_L_R]; exact hL179
  have hK201 : hp_K (sp_R T167 263 o0 (some a165)) o0 = 4 := by rw [hq_K_R]; exact hK180
  have hZ202 := zf_R (j := 263) (a := o0) (x := some a165) hZ181
  have hC203 := cf_R (k := 263) (x := some a165) hC182 hL (ow_no (by decide)) (fun b e => by cases e; exact oa169.1) (fun h => by cases h) (fun _ _ e => by cases e; exact ⟨fun q => ha166 (hC163.1 a165 q).1, fun hU => nh_new (hC163.2.2.2.2.2.2.2.1 hU) ha166 cf170⟩)
  have hE204 : ∀ q ∈ E, q ∈ hp_L (sp_R T167 263 o0 (some a165)) := by rw [hq_L_R]; exact hE183
  refine tt_aload_n (j := 0) dX4_init_69 rfl ?_
  refine tt_newo (k1 := kc - 15) (n1 := nc - 308) dX4_init_70 nl_4_38 (by omega) (by show nc - 308 + 3 ≤ nc - 305; omega) (fun a205 ha206 => ?_)
  refine tt_dup dX4_init_73 rfl ?_
  refine tt_callIN (As := []) (Mid := fun r T _ _ => r = .inl none ∧ GI T (o0 :: E) ∧ Oa T (o0 :: E) 7 0 a205 ∧ Cf a205 (nw_o (sp_R T167 263 o0 (some a165)) 7 a205) T ) (k1 := 0) (n1 := 0) (k2 := kc - 15) (n2 := nc - 308) dX4_init_74 ca_X4_40 ⟨by decide, by decide⟩ (Nat.le_of_ble_eq_true rfl) (Nat.le_of_ble_eq_true rfl) (by omega) (by omega) (cc_7 (gi_o hG199 ha206) in_o (e_cn (e_cons hL200 hE204) (cn_o ha206)) (fun q => ha206 (e_cons hL200 hE204 _ q)) k_o zf_o  (kc := 0) (nc := 0) (by decide) (by decide) (fun T u1 u2 u3 => ⟨rfl, u1, u2, u3⟩)) (fun v T207 x y hw => ?_) (fun X T hw => by obtain ⟨e, -⟩ := hw; cases e)
  obtain ⟨e, hG208, oa209, cf210⟩ := hw
  cases e
  have cn211 := cn_new ha206 cf210
  have tr12 := pn_cn tr11 cn211
  show TT xi M_X4_init 77 [(0, .ref o0), (1, .ref p1), (2, .ref p2)] [.ref a205, .ref o0] T207 (kc - 15) (nc - 308) P
  have hK220 := k_cn hL200 cn211 hK201
  have hZ221 := zf_cn hZ202 hL200 cn211
  have hC222 := cf_cn hC203 cn211 hL
  have hE223 := e_cn hE204 cn211
  have f224 := fk_cn f191 hL200 cn211
  have f225 := fk_cn f192 hL200 cn211
  have f226 := fk_cn f193 hL200 cn211
  have f227 := fk_cn f194 hL200 cn211
  have f228 := fk_cn f195 hL200 cn211
  have f229 := fk_cn f196 hL200 cn211
  have g230 := oa_cn g197 cn211
  have g231 := oa_cn g198 cn211
  have hL219 := l_cn hL200 cn211
  refine tt_putR (id := 264) (x := some a205) dX4_init_77 fl_4_48 rfl rfl ⟨hL219, hK220⟩ rfl rfl (by decide) ?_
  have tr13 := pn_R (j := 264) (a := o0) (y := some a205) tr12
  have f232 := fk_R (j := 264) (x := some a205) f224
  have f233 := fk_R (j := 264) (x := some a205) f225
  have f234 := fk_R (j := 264) (x := some a205) f226
  have f235 := fk_R (j := 264) (x := some a205) f227
  have f236 := fk_R (j := 264) (x := some a205) f228
  have f237 := fk_R (j := 264) (x := some a205) f229
  have f238 := fk_mk (k := 264) (o := o0) oa209
  have g239 := oa_R (k := 264) (o := o0) (x := some a205) g230
  have g240 := oa_R (k := 264) (o := o0) (x := some a205) g231
  have hG241 := gp_oR (k := 264) (x := some a205) hG208
  have hL242 : o0 ∈ hp_L (sp_R T207 264 o0 (some a205)) := by rw [hq_L_R]; exact hL219
  have hK243 : hp_K (sp_R T207 264 o0 (some a205)) o0 = 4 := by rw [hq_K_R]; exact hK220
  have hZ244 := zf_R (j := 264) (a := o0) (x := some a205) hZ221
  have hC245 := cf_R (k := 264) (x := some a205) hC222 hL (ow_no (by decide)) (fun b e => by cases e; exact oa209.1) (fun h => by cases h) (fun _ _ e => by cases e; exact ⟨fun q => ha206 (hC203.1 a205 q).1, fun hU => nh_new (hC203.2.2.2.2.2.2.2.1 hU) ha206 cf210⟩)
  have hE246 : ∀ q ∈ E, q ∈ hp_L (sp_R T207 264 o0 (some a205)) := by rw [hq_L_R]; exact hE223
  refine tt_aload_n (j := 0) dX4_init_80 rfl ?_
  refine tt_aload_n (j := 1) dX4_init_81 rfl ?_
  refine tt_putR (id := 256) (x := some p1) dX4_init_82 fl_4_51 rfl rfl ⟨hL242, hK243⟩ rfl rfl (by decide) ?_
  have tr14 := pn_R (j := 256) (a := o0) (y := some p1) tr13
  have f247 := fk_R (j := 256) (x := some p1) f232
  have f248 := fk_R (j := 256) (x := some p1) f233
  have f249 := fk_R (j := 256) (x := some p1) f234
  have f250 := fk_R (j := 256) (x := some p1) f235
  have f251 := fk_R (j := 256) (x := some p1) f236
  have f252 := fk_R (j := 256) (x := some p1) f237
  have f253 := fk_R (j := 256) (x := some p1) f238
  have f254 := fk_mk (k := 256) (o := o0) g239
  have g255 := oa_R (k := 256) (o := o0) (x := some p1) g239
  have g256 := oa_R (k := 256) (o := o0) (x := some p1) g240
  have hG257 := gp_oR (k := 256) (x := some p1) hG241
  have hL258 : o0 ∈ hp_L (sp_R (sp_R T207 264 o0 (some a205)) 256 o0 (some p1)) := by rw [hq_L_R]; exact hL242
  have hK259 : hp_K (sp_R (sp_R T207 264 o0 (some a205)) 256 o0 (some p1)) o0 = 4 := by rw [hq_K_R]; exact hK243
  have hZ260 := zf_R (j := 256) (a := o0) (x := some p1) hZ244
  have hC261 := cf_R (k := 256) (x := some p1) hC245 hL (ow_no (by decide)) (fun b e => by cases e; exact g239.1) (fun h => by cases h) (uq_no (by decide))
  have hE262 : ∀ q ∈ E, q ∈ hp_L (sp_R (sp_R T207 264 o0 (some a205)) 256 o0 (some p1)) := by rw [hq_L_R]; exact hE246
  refine tt_aload_n (j := 0) dX4_init_85 rfl ?_
  refine tt_aload_n (j := 2) dX4_init_86 rfl ?_
  refine tt_putR (id := 257) (x := some p2) dX4_init_87 fl_4_55 rfl rfl ⟨hL258, hK259⟩ rfl rfl (by decide) ?_
  have tr15 := pn_R (j := 257) (a := o0) (y := some p2) tr14
  have f263 := fk_R (j := 257) (x := some p2) f247
  have f264 := fk_R (j := 257) (x := some p2) f248
  have f265 := fk_R (j := 257) (x := some p2) f249
  have f266 := fk_R (j := 257) (x := some p2) f250
  have f267 := fk_R (j := 257) (x := some p2) f251
  have f268 := fk_R (j := 257) (x := some p2) f252
  have f269 := fk_R (j := 257) (x := some p2) f253
  have f270 := fk_R (j := 257) (x := some p2) f254
  have f271 := fk_mk (k := 257) (o := o0) g256
  have g272 := oa_R (k := 257) (o := o0) (x := some p2) g255
  have g273 := oa_R (k := 257) (o := o0) (x := some p2) g256
  have hG274 := gp_oR (k := 257) (x := some p2) hG257
  have hL275 : o0 ∈ hp_L (sp_R (sp_R (sp_R T207 264 o0 (some a205)) 256 o0 (some p1)) 257 o0 (some p2)) := by rw [hq_L_R]; exact hL258
  have hK276 : hp_K (sp_R (sp_R (sp_R T207 264 o0 (some a205)) 256 o0 (some p1)) 257 o0 (some p2)) o0 = 4 := by rw [hq_K_R]; exact hK259
  have hZ277 := zf_R (j := 257) (a := o0) (x := some p2) hZ260
  have hC278 := cf_R (k := 257) (x := some p2) hC261 hL (ow_no (by decide)) (fun b e => by cases e; exact g256.1) (fun h => by cases h) (uq_no (by decide))
  have hE279 : ∀ q ∈ E, q ∈ hp_L (sp_R (sp_R (sp_R T207 264 o0 (some a205)) 256 o0 (some p1)) 257 o0 (some p2)) := by rw [hq_L_R]; exact hE262
  obtain ⟨gD, oD⟩ := gi_done hG274 hL275 hE hK276 (by decide) [] (by decide) fa_nil [(256, 1, 0), (257, 3, 0), (258, 35, 200), (259, 8, 0), (260, 2, 0), (261, 0, 0), (262, 7, 0), (263, 7, 0), (264, 7, 0)] (by decide) (fa_cons ⟨_, f270⟩ (fa_cons ⟨_, f271⟩ (fa_cons ⟨_, f263⟩ (fa_cons ⟨_, f264⟩ (fa_cons ⟨_, f265⟩ (fa_cons ⟨_, f266⟩ (fa_cons ⟨_, f267⟩ (fa_cons ⟨_, f268⟩ (fa_cons ⟨_, f269⟩ fa_nil)))))))))
  exact tt_vreturn dX4_init_90 rfl (hP _ gD oD hC278 ⟨oD.1, f270.1, f271.1, _, f263.1, tr15⟩)
set_option maxHeartbeats 4000000 in
theorem cd_9 {xi : SX} {S : Hp} {E : List Nat} {kc nc : Nat} {P : Po} {o0 : Nat}  (hG : GI S (o0 :: E)) (hL : o0 ∈ hp_L S) (hEL : ∀ q ∈ E, q ∈ hp_L S) (hE : o0 ∉ E) (hK : hp_K S o0 = 9) (hZ : Zf S o0 [])  (hE0 : E = []) (hkc : 26 ≤ kc) (hnc : 670 ≤ nc) (hP : ∀ T, GI T E → Oa T E 9 0 o0 → Cf o0 S T → (∃ b i r, hp_R T 576 o0 = some b ∧ Oa T E 1 0 b ∧ hp_I T 65 b = 0 ∧ hp_R T 577 o0 = some i ∧ Oa T E 3 0 i ∧ hp_R T 192 i = some b ∧ Ar [] T 64 b ∧ hp_R T 580 o0 = some r ∧ Oa T E 6 0 r ∧ hp_R T 384 r = some b ∧ hp_R T 385 r = some i ∧ hp_I T 388 r = -1 ∧ (∃ a, Ja T 386 r a) ∧ (∃ a, Ja T 387 r a)) → (∃ en lk b i, hp_R T 578 o0 = some en ∧ S8 T en ∧ hp_R T 579 o0 = some lk ∧ LkF T lk b i ∧ hp_R T 576 o0 = some b ∧ hp_R T 577 o0 = some i) → P (.inl none) T (kc - 26) (nc - 670)) : TT xi M_X9_init 0 [(0, .ref o0)] [] S kc nc P := by
  have hC : Cf o0 S S := cf_rf
  refine tt_aload_n (j := 0) dX9_init_0 rfl ?_
  refine tt_objInit dX9_init_1 ca_X9_1 ⟨by decide, by decide⟩ ?_
  refine tt_aload_n (j := 0) dX9_init_4 rfl ?_
  refine tt_newo (k1 := kc - 1) (n1 := nc - 2) dX9_init_5 nl_9_7 (by omega) (by show nc - 2 + 2 ≤ nc - 0; omega) (fun a1 ha2 => ?_)
  refine tt_dup dX9_init_8 rfl ?_
  refine tt_callIN (As := []) (Mid := fun r T _ _ => r = .inl none ∧ GI T (o0 :: E) ∧ Oa T (o0 :: E) 1 0 a1 ∧ Cf a1 (nw_o S 1 a1) T ∧ hp_I T 65 a1 = 0 ∧ Ar (hp_L (nw_o S 1 a1)) T 64 a1) (k1 := 1) (n1 := 200) (k2 := kc - 2) (n2 := nc - 202) dX9_init_9 ca_X9_9 ⟨by decide, by decide⟩ (Nat.le_of_ble_eq_true rfl) (Nat.le_of_ble_eq_true rfl) (by omega) (by omega) (cc_1 (gi_o hG ha2) in_o (e_cn (e_cons hL hEL) (cn_o ha2)) (fun q => ha2 (e_cons hL hEL _ q)) k_o zf_o  (kc := 1) (nc := 200) (by decide) (by decide) (fun T u1 u2 u3 u4 u5 => ⟨rfl, u1, u2, u3, u4, u5⟩)) (fun v T3 x y hw => ?_) (fun X T hw => by obtain ⟨e, -⟩ := hw; cases e)
  obtain ⟨e, hG4, oa5, cf6, i8, x9⟩ := hw
  cases e
  have cn7 := cn_new ha2 cf6
  show TT xi M_X9_init 12 [(0, .ref o0)] [.ref a1, .ref o0] T3 (kc - 2) (nc - 202) P
  have hK16 := k_cn hL cn7 hK
  have hZ17 := zf_cn hZ hL cn7
  have hC18 := cf_cn hC cn7 hL
  have hE19 := e_cn hEL cn7
  have hL15 := l_cn hL cn7
  have l20 := oa5.1
  refine tt_putR (id := 576) (x := some a1) dX9_init_12 fl_9_10 rfl rfl ⟨hL15, hK16⟩ rfl rfl (by decide) ?_
  have f21 := fk_mk (k := 576) (o := o0) oa5
  have xa22 := ar_R (j := 576) (a := o0) (y := some a1) x9
  have l23 := li_R (j := 576) (a := o0) (y := some a1) l20
  have i24 : hp_I (sp_R T3 576 o0 (some a1)) 65 a1 = 0 := by rw [hq_I_R]; exact i8
  have l25 : a1 ∈ hp_L (sp_R T3 576 o0 (some a1)) := by rw [hq_L_R]; exact l20
  have hG26 := gp_oR (k := 576) (x := some a1) hG4
  have hL27 : o0 ∈ hp_L (sp_R T3 576 o0 (some a1)) := by rw [hq_L_R]; exact hL15
  have hK28 : hp_K (sp_R T3 576 o0 (some a1)) o0 = 9 := by rw [hq_K_R]; exact hK16
  have hZ29 := zf_R (j := 576) (a := o0) (x := some a1) hZ17
  have hC30 := cf_R (k := 576) (x := some a1) hC18 hL (ow_no (by decide)) (fun b e => by cases e; exact oa5.1) (fun h => by cases h) (uq_no (by decide))
  have hE31 : ∀ q ∈ E, q ∈ hp_L (sp_R T3 576 o0 (some a1)) := by rw [hq_L_R]; exact hE19
  refine tt_aload_n (j := 0) dX9_init_15 rfl ?_
  refine tt_newo (k1 := kc - 3) (n1 := nc - 216) dX9_init_16 nl_9_16 (by omega) (by show nc - 216 + 14 ≤ nc - 202; omega) (fun a32 ha33 => ?_)
  refine tt_dup dX9_init_19 rfl ?_
  refine tt_aload_n (j := 0) dX9_init_20 rfl ?_
  refine tt_getA (id := 576) dX9_init_21 fl_9_10 rfl rfl ⟨l_cn hL27 (cn_o ha33), k_cn hL27 (cn_o ha33) hK28⟩ (fk_cn f21 hL27 (cn_o ha33)).1 ?_
  refine tt_callI (As := [.ref a1]) (Mid := fun r T _ _ => r = .inl none ∧ GI T (o0 :: E) ∧ Oa T (o0 :: E) 3 0 a32 ∧ Cf a32 (nw_o (sp_R T3 576 o0 (some a1)) 3 a32) T ∧ hp_R T 192 a32 = some a1) (k1 := 0) (n1 := 0) (k2 := kc - 3) (n2 := nc - 216) dX9_init_24 ca_X9_18 ⟨by decide, by decide⟩ (Nat.le_of_ble_eq_true rfl) (Nat.le_of_ble_eq_true rfl) (by omega) (by omega) (cc_3 (gi_o hG26 ha33) in_o (e_cn (e_cons hL27 hE31) (cn_o ha33)) (fun q => ha33 (e_cons hL27 hE31 _ q)) k_o zf_o (oa_new f21.2 ha33) (kc := 0) (nc := 0) (by decide) (by decide) (fun T u1 u2 u3 u4 => ⟨rfl, u1, u2, u3, u4⟩)) (fun v T34 x y hw => ?_) (fun X T hw => by obtain ⟨e, -⟩ := hw; cases e)
  obtain ⟨e, hG35, oa36, cf37, x40⟩ := hw
  cases e
  have cn38 := cn_new ha33 cf37
  show TT xi M_X9_init 27 [(0, .ref o0)] [.ref a32, .ref o0] T34 (kc - 3) (nc - 216) P
  have hK47 := k_cn hL27 cn38 hK28
  have hZ48 := zf_cn hZ29 hL27 cn38
  have hC49 := cf_cn hC30 cn38 hL
  have hE50 := e_cn hE31 cn38
  have f51 := fk_cn f21 hL27 cn38
  have i52 := ((cn38.2.1 a1 l25).2 65).trans i24
  have l53 := l_cn l25 cn38
  have xa54 := ar_cn xa22 l23 cn38
  have l55 := l_cn l23 cn38
  have hL46 := l_cn hL27 cn38
  have l56 := oa36.1
  refine tt_putR (id := 577) (x := some a32) dX9_init_27 fl_9_21 rfl rfl ⟨hL46, hK47⟩ rfl rfl (by decide) ?_
  have f57 := fk_R (j := 577) (x := some a32) f51
  have f58 := fk_mk (k := 577) (o := o0) oa36
  have xr59 := rl_R (j := 577) (a := o0) (y := some a32) x40
  have l60 := li_R (j := 577) (a := o0) (y := some a32) l56
  have xa61 := ar_R (j := 577) (a := o0) (y := some a32) xa54
  have l62 := li_R (j := 577) (a := o0) (y := some a32) l55
  have i63 : hp_I (sp_R T34 577 o0 (some a32)) 65 a1 = 0 := by rw [hq_I_R]; exact i52
  have l64 : a1 ∈ hp_L (sp_R T34 577 o0 (some a32)) := by rw [hq_L_R]; exact l53
  have hG65 := gp_oR (k := 577) (x := some a32) hG35
  have hL66 : o0 ∈ hp_L (sp_R T34 577 o0 (some a32)) := by rw [hq_L_R]; exact hL46
  have hK67 : hp_K (sp_R T34 577 o0 (some a32)) o0 = 9 := by rw [hq_K_R]; exact hK47
  have hZ68 := zf_R (j := 577) (a := o0) (x := some a32) hZ48
  have hC69 := cf_R (k := 577) (x := some a32) hC49 hL (ow_no (by decide)) (fun b e => by cases e; exact oa36.1) (fun h => by cases h) (uq_no (by decide))
  have hE70 : ∀ q ∈ E, q ∈ hp_L (sp_R T34 577 o0 (some a32)) := by rw [hq_L_R]; exact hE50
  refine tt_aload_n (j := 0) dX9_init_30 rfl ?_
  refine tt_newo (k1 := kc - 4) (n1 := nc - 223) dX9_init_31 nl_9_25 (by omega) (by show nc - 223 + 7 ≤ nc - 216; omega) (fun a71 ha72 => ?_)
  refine tt_dup dX9_init_34 rfl ?_
  refine tt_callI (As := []) (Mid := fun r T _ _ => r = .inl none ∧ GI T (o0 :: E) ∧ Oa T (o0 :: E) 8 0 a71 ∧ Cf a71 (nw_o (sp_R T34 577 o0 (some a32)) 8 a71) T ∧ St8 T a71) (k1 := 3) (n1 := 72) (k2 := kc - 7) (n2 := nc - 295) dX9_init_35 ca_X9_27 ⟨by decide, by decide⟩ (Nat.le_of_ble_eq_true rfl) (Nat.le_of_ble_eq_true rfl) (by omega) (by omega) (cd_8 (gi_o hG65 ha72) in_o (e_cn (e_cons hL66 hE70) (cn_o ha72)) (fun q => ha72 (e_cons hL66 hE70 _ q)) k_o zf_o  (kc := 3) (nc := 72) (by decide) (by decide) (fun T u1 u2 u3 _ u5 => ⟨rfl, u1, u2, u3, u5⟩)) (fun v T73 x y hw => ?_) (fun X T hw => by obtain ⟨e, -⟩ := hw; cases e)
  obtain ⟨e, hG74, oa75, cf76, st8⟩ := hw
  cases e
  have cn77 := cn_new ha72 cf76
  have s80 : S8 _ a71 := ⟨oa75.1, st8⟩
  show TT xi M_X9_init 38 [(0, .ref o0)] [.ref a71, .ref o0] T73 (kc - 7) (nc - 295) P
  have hK86 := k_cn hL66 cn77 hK67
  have hZ87 := zf_cn hZ68 hL66 cn77
  have hC88 := cf_cn hC69 cn77 hL
  have hE89 := e_cn hE70 cn77
  have f90 := fk_cn f57 hL66 cn77
  have f91 := fk_cn f58 hL66 cn77
  have i92 := ((cn77.2.1 a1 l64).2 65).trans i63
  have l93 := l_cn l64 cn77
  have xr94 := rl_cn xr59 l60 cn77
  have l95 := l_cn l60 cn77
  have xa96 := ar_cn xa61 l62 cn77
  have l97 := l_cn l62 cn77
  have hL85 := l_cn hL66 cn77
  refine tt_putR (id := 578) (x := some a71) dX9_init_38 fl_9_28 rfl rfl ⟨hL85, hK86⟩ rfl rfl (by decide) ?_
  have tr1 := s8_R (j := 578) (a := o0) (y := some a71) s80
  have f98 := fk_R (j := 578) (x := some a71) f90
  have f99 := fk_R (j := 578) (x := some a71) f91
  have f100 := fk_mk (k := 578) (o := o0) oa75
  have xr101 := rl_R (j := 578) (a := o0) (y := some a71) xr94
  have l102 := li_R (j := 578) (a := o0) (y := some a71) l95
  have xa103 := ar_R (j := 578) (a := o0) (y := some a71) xa96
  have l104 := li_R (j := 578) (a := o0) (y := some a71) l97
  have i105 : hp_I (sp_R T73 578 o0 (some a71)) 65 a1 = 0 := by rw [hq_I_R]; exact i92
  have l106 : a1 ∈ hp_L (sp_R T73 578 o0 (some a71)) := by rw [hq_L_R]; exact l93
  have hG107 := gp_oR (k := 578) (x := some a71) hG74
  have hL108 : o0 ∈ hp_L (sp_R T73 578 o0 (some a71)) := by rw [hq_L_R]; exact hL85
  have hK109 : hp_K (sp_R T73 578 o0 (some a71)) o0 = 9 := by rw [hq_K_R]; exact hK86
  have hZ110 := zf_R (j := 578) (a := o0) (x := some a71) hZ87
  have hC111 := cf_R (k := 578) (x := some a71) hC88 hL (ow_no (by decide)) (fun b e => by cases e; exact oa75.1) (fun h => by cases h) (fun _ _ e => by cases e; exact ⟨fun q => ha72 (hC69.1 a71 q).1, fun hU => nh_new (hC69.2.2.2.2.2.2.2.1 hU) ha72 cf76⟩)
  have hE112 : ∀ q ∈ E, q ∈ hp_L (sp_R T73 578 o0 (some a71)) := by rw [hq_L_R]; exact hE89
  refine tt_aload_n (j := 0) dX9_init_41 rfl ?_
  refine tt_newo (k1 := kc - 8) (n1 := nc - 304) dX9_init_42 nl_9_32 (by omega) (by show nc - 304 + 9 ≤ nc - 295; omega) (fun a113 ha114 => ?_)
  refine tt_dup dX9_init_45 rfl ?_
  refine tt_aload_n (j := 0) dX9_init_46 rfl ?_
  refine tt_getA (id := 576) dX9_init_47 fl_9_10 rfl rfl ⟨l_cn hL108 (cn_o ha114), k_cn hL108 (cn_o ha114) hK109⟩ (fk_cn f98 hL108 (cn_o ha114)).1 ?_
  refine tt_aload_n (j := 0) dX9_init_50 rfl ?_
  refine tt_getA (id := 577) dX9_init_51 fl_9_21 rfl rfl ⟨l_cn hL108 (cn_o ha114), k_cn hL108 (cn_o ha114) hK109⟩ (fk_cn f99 hL108 (cn_o ha114)).1 ?_
  refine tt_callI (As := [.ref a1, .ref a32]) (Mid := fun r T _ _ => r = .inl none ∧ GI T (o0 :: E) ∧ Oa T (o0 :: E) 4 0 a113 ∧ Cf a113 (nw_o (sp_R T73 578 o0 (some a71)) 4 a113) T ∧ LkF T a113 a1 a32) (k1 := 15) (n1 := 308) (k2 := kc - 23) (n2 := nc - 612) dX9_init_54 ca_X9_34 ⟨by decide, by decide⟩ (Nat.le_of_ble_eq_true rfl) (Nat.le_of_ble_eq_true rfl) (by omega) (by omega) (cd_4 (gi_o hG107 ha114) in_o (e_cn (e_cons hL108 hE112) (cn_o ha114)) (fun q => ha114 (e_cons hL108 hE112 _ q)) k_o zf_o (oa_new f98.2 ha114) (oa_new f99.2 ha114) (kc := 15) (nc := 308) (by decide) (by decide) (fun T u1 u2 u3 u5 => ⟨rfl, u1, u2, u3, u5⟩)) (fun v T115 x y hw => ?_) (fun X T hw => by obtain ⟨e, -⟩ := hw; cases e)
  obtain ⟨e, hG116, oa117, cf118, lf0⟩ := hw
  cases e
  have cn119 := cn_new ha114 cf118
  have tr2 := s8_cn tr1 cn119
  skip
  show TT xi M_X9_init 57 [(0, .ref o0)] [.ref a113, .ref o0] T115 (kc - 23) (nc - 612) P
  have hK128 := k_cn hL108 cn119 hK109
  have hZ129 := zf_cn hZ110 hL108 cn119
  have hC130 := cf_cn hC111 cn119 hL
  have hE131 := e_cn hE112 cn119
  have f132 := fk_cn f98 hL108 cn119
  have f133 := fk_cn f99 hL108 cn119
  have f134 := fk_cn f100 hL108 cn119
  have i135 := ((cn119.2.1 a1 l106).2 65).trans i105
  have l136 := l_cn l106 cn119
  have xr137 := rl_cn xr101 l102 cn119
  have l138 := l_cn l102 cn119
  have xa139 := ar_cn xa103 l104 cn119
  have l140 := l_cn l104 cn119
  have hL127 := l_cn hL108 cn119
  refine tt_putR (id := 579) (x := some a113) dX9_init_57 fl_9_37 rfl rfl ⟨hL127, hK128⟩ rfl rfl (by decide) ?_
  have tr3 := s8_R (j := 579) (a := o0) (y := some a113) tr2
  have tr4 := lf_R (j := 579) (a := o0) (y := some a113) lf0
  have f141 := fk_R (j := 579) (x := some a113) f132
  have f142 := fk_R (j := 579) (x := some a113) f133
  have f143 := fk_R (j := 579) (x := some a113) f134
  have f144 := fk_mk (k := 579) (o := o0) oa117
  have xr145 := rl_R (j := 579) (a := o0) (y := some a113) xr137
  have l146 := li_R (j := 579) (a := o0) (y := some a113) l138
  have xa147 := ar_R (j := 579) (a := o0) (y := some a113) xa139
  have l148 := li_R (j := 579) (a := o0) (y := some a113) l140
  have i149 : hp_I (sp_R T115 579 o0 (some a113)) 65 a1 = 0 := by rw [hq_I_R]; exact i135
  have l150 : a1 ∈ hp_L (sp_R T115 579 o0 (some a113)) := by rw [hq_L_R]; exact l136
  have hG151 := gp_oR (k := 579) (x := some a113) hG116
  have hL152 : o0 ∈ hp_L (sp_R T115 579 o0 (some a113)) := by rw [hq_L_R]; exact hL127
  have hK153 : hp_K (sp_R T115 579 o0 (some a113)) o0 = 9 := by rw [hq_K_R]; exact hK128
  have hZ154 := zf_R (j := 579) (a := o0) (x := some a113) hZ129
  have hC155 := cf_R (k := 579) (x := some a113) hC130 hL (ow_no (by decide)) (fun b e => by cases e; exact oa117.1) (fun h => by cases h) (fun _ _ e => by cases e; exact ⟨fun q => ha114 (hC111.1 a113 q).1, fun hU => nh_new (hC111.2.2.2.2.2.2.2.1 hU) ha114 cf118⟩)
  have hE156 : ∀ q ∈ E, q ∈ hp_L (sp_R T115 579 o0 (some a113)) := by rw [hq_L_R]; exact hE131
  refine tt_aload_n (j := 0) dX9_init_60 rfl ?_
  refine tt_newo (k1 := kc - 24) (n1 := nc - 622) dX9_init_61 nl_9_41 (by omega) (by show nc - 622 + 10 ≤ nc - 612; omega) (fun a157 ha158 => ?_)
  refine tt_dup dX9_init_64 rfl ?_
  refine tt_aload_n (j := 0) dX9_init_65 rfl ?_
  refine tt_getA (id := 576) dX9_init_66 fl_9_10 rfl rfl ⟨l_cn hL152 (cn_o ha158), k_cn hL152 (cn_o ha158) hK153⟩ (fk_cn f141 hL152 (cn_o ha158)).1 ?_
  refine tt_aload_n (j := 0) dX9_init_69 rfl ?_
  refine tt_getA (id := 577) dX9_init_70 fl_9_21 rfl rfl ⟨l_cn hL152 (cn_o ha158), k_cn hL152 (cn_o ha158) hK153⟩ (fk_cn f142 hL152 (cn_o ha158)).1 ?_
  refine tt_callI (As := [.ref a1, .ref a32]) (Mid := fun r T _ _ => r = .inl none ∧ GI T (o0 :: E) ∧ Oa T (o0 :: E) 6 0 a157 ∧ Cf a157 (nw_o (sp_R T115 579 o0 (some a113)) 6 a157) T ∧ hp_R T 384 a157 = some a1 ∧ hp_R T 385 a157 = some a32 ∧ hp_I T 388 a157 = -1 ∧ (∃ a, Ja T 386 a157 a) ∧ (∃ a, Ja T 387 a157 a)) (k1 := 2) (n1 := 48) (k2 := kc - 26) (n2 := nc - 670) dX9_init_73 ca_X9_43 ⟨by decide, by decide⟩ (Nat.le_of_ble_eq_true rfl) (Nat.le_of_ble_eq_true rfl) (by omega) (by omega) (cc_6 (gi_o hG151 ha158) in_o (e_cn (e_cons hL152 hE156) (cn_o ha158)) (fun q => ha158 (e_cons hL152 hE156 _ q)) k_o zf_o (oa_new f141.2 ha158) (oa_new f142.2 ha158) (rl_o (rl_gi1 hG151 hE0 hK153) ha158) (kc := 2) (nc := 48) (by decide) (by decide) (fun T u1 u2 u3 u4 u5 u6 u7 u8 => ⟨rfl, u1, u2, u3, u4, u5, u6, u7, u8⟩)) (fun v T159 x y hw => ?_) (fun X T hw => by obtain ⟨e, -⟩ := hw; cases e)
  obtain ⟨e, hG160, oa161, cf162, i164, x165, i166, ⟨a169, j167⟩, ⟨a170, j168⟩⟩ := hw
  cases e
  have cn163 := cn_new ha158 cf162
  have tr5 := s8_cn tr3 cn163
  have tr6 := lf_cn tr4 cn163
  show TT xi M_X9_init 76 [(0, .ref o0)] [.ref a157, .ref o0] T159 (kc - 26) (nc - 670) P
  have hK172 := k_cn hL152 cn163 hK153
  have hZ173 := zf_cn hZ154 hL152 cn163
  have hC174 := cf_cn hC155 cn163 hL
  have hE175 := e_cn hE156 cn163
  have f176 := fk_cn f141 hL152 cn163
  have f177 := fk_cn f142 hL152 cn163
  have f178 := fk_cn f143 hL152 cn163
  have f179 := fk_cn f144 hL152 cn163
  have i180 := ((cn163.2.1 a1 l150).2 65).trans i149
  have l181 := l_cn l150 cn163
  have xr182 := rl_cn xr145 l146 cn163
  have l183 := l_cn l146 cn163
  have xa184 := ar_cn xa147 l148 cn163
  have l185 := l_cn l148 cn163
  have hL171 := l_cn hL152 cn163
  have l186 := oa161.1
  refine tt_putR (id := 580) (x := some a157) dX9_init_76 fl_9_44 rfl rfl ⟨hL171, hK172⟩ rfl rfl (by decide) ?_
  have tr7 := s8_R (j := 580) (a := o0) (y := some a157) tr5
  have tr8 := lf_R (j := 580) (a := o0) (y := some a157) tr6
  have f187 := fk_R (j := 580) (x := some a157) f176
  have f188 := fk_R (j := 580) (x := some a157) f177
  have f189 := fk_R (j := 580) (x := some a157) f178
  have f190 := fk_R (j := 580) (x := some a157) f179
  have f191 := fk_mk (k := 580) (o := o0) oa161
  have xr192 := rl_R (j := 580) (a := o0) (y := some a157) xr182
  have l193 := li_R (j := 580) (a := o0) (y := some a157) l183
  have xr194 := rl_R (j := 580) (a := o0) (y := some a157) i164
  have l195 := li_R (j := 580) (a := o0) (y := some a157) l186
  have xr196 := rl_R (j := 580) (a := o0) (y := some a157) x165
  have l197 := li_R (j := 580) (a := o0) (y := some a157) l186
  have xa198 := ar_R (j := 580) (a := o0) (y := some a157) xa184
  have l199 := li_R (j := 580) (a := o0) (y := some a157) l185
  have ja200 := ja_R (j := 580) (p := o0) (b := a157) j167 (Or.inl (by decide))
  have l201 := li_R (j := 580) (a := o0) (y := some a157) l186
  have ja202 := ja_R (j := 580) (p := o0) (b := a157) j168 (Or.inl (by decide))
  have l203 := li_R (j := 580) (a := o0) (y := some a157) l186
  have i204 : hp_I (sp_R T159 580 o0 (some a157)) 65 a1 = 0 := by rw [hq_I_R]; exact i180
  have l205 : a1 ∈ hp_L (sp_R T159 580 o0 (some a157)) := by rw [hq_L_R]; exact l181
  have i206 : hp_I (sp_R T159 580 o0 (some a157)) 388 a157 = (-1) := by rw [hq_I_R]; exact i166
  have l207 : a157 ∈ hp_L (sp_R T159 580 o0 (some a157)) := by rw [hq_L_R]; exact l186
  have hG208 := gp_oR (k := 580) (x := some a157) hG160
  have hL209 : o0 ∈ hp_L (sp_R T159 580 o0 (some a157)) := by rw [hq_L_R]; exact hL171
  have hK210 : hp_K (sp_R T159 580 o0 (some a157)) o0 = 9 := by rw [hq_K_R]; exact hK172
  have hZ211 := zf_R (j := 580) (a := o0) (x := some a157) hZ173
  have hC212 := cf_R (k := 580) (x := some a157) hC174 hL (ow_no (by decide)) (fun b e => by cases e; exact oa161.1) (fun h => by cases h) (uq_no (by decide))
  have hE213 : ∀ q ∈ E, q ∈ hp_L (sp_R T159 580 o0 (some a157)) := by rw [hq_L_R]; exact hE175
  obtain ⟨gD, oD⟩ := gi_done hG208 hL209 hE hK210 (by decide) [] (by decide) fa_nil [(576, 1, 0), (577, 3, 0), (578, 8, 0), (579, 4, 0), (580, 6, 0)] (by decide) (fa_cons ⟨_, f187⟩ (fa_cons ⟨_, f188⟩ (fa_cons ⟨_, f189⟩ (fa_cons ⟨_, f190⟩ (fa_cons ⟨_, f191⟩ fa_nil)))))
  exact tt_vreturn dX9_init_79 rfl (hP _ gD oD hC212 ⟨a1, a32, a157, f187.1, ⟨f187.2.1, fun z => f187.2.2.1 (List.mem_cons_of_mem _ z), f187.2.2.2⟩, i204, f188.1, ⟨f188.2.1, fun z => f188.2.2.1 (List.mem_cons_of_mem _ z), f188.2.2.2⟩, xr192, ar_w xa198, f191.1, ⟨f191.2.1, fun z => f191.2.2.1 (List.mem_cons_of_mem _ z), f191.2.2.2⟩, xr194, xr196, i206, ⟨_, ja200⟩, ⟨_, ja202⟩⟩ ⟨_, _, _, _, f189.1, tr7, f190.1, tr8, f187.1, f188.1⟩)
set_option maxHeartbeats 4000000 in
theorem ce_X10i {xi : SX} {S : Hp} {E : List Nat} {kc nc : Nat} {P : Po} {o0 : Nat} (hG : GI S E) (h0 : Oa S E 10 0 o0) (hP : ∀ r T x y, PV E [9989] S kc nc rV (fun v T => hp_I T = hp_I S ∧ hp_j T = hp_j S ∧ ∀ b, hp_R S 643 o0 = some b → (∀ a, a ≠ b → hp_i T a = hp_i S a) ∧ ∀ i, i < 24 → hp_i T b (4880 + i) = 2) [] r T x y → P r T x y) : TT xi M_X10_init 124 [(0, .ref o0)] [] S kc nc P := by
  have hA : Af E [9989] S S := af_rf
  refine tt_iconst (v := 0) dX10_init_124 rfl ?_
  refine tt_istore_n (ks := [0, 1]) (L' := [(1, .int 0), (0, .ref o0)]) dX10_init_125 (by decide) rfl ?_
  have B101 : ∀ (nn : Nat) (S102 : Hp) (x105 : Int32), (2147483648 - x105.toInt).toNat = nn → GI S102 E → Af E [9989] S S102 → Rg 0 24 x105 → (hp_I S102 = hp_I S ∧ hp_j S102 = hp_j S ∧ ∀ b, hp_R S 643 o0 = some b → (∀ a, a ≠ b → hp_i S102 a = hp_i S a) ∧ ∀ i, i < x105.toNatClampNeg → hp_i S102 b (4880 + i) = 2) → TT xi M_X10_init 126 [(0, .ref o0), (1, .int x105)] [] S102 kc nc P := by
    intro nn
    induction nn using Nat.strongRecOn with
    | ind nn ihB101 =>
      intro S102 x105 hmB101 hG103 hA104 h106 hxj
      subst hmB101
      refine tt_iload_n (j := 1) dX10_init_126 rfl ?_
      refine tt_bipush (v := 24) dX10_init_127 rfl ?_
      refine tt_icmp_ge (tgt := 149) dX10_init_129 rfl (fun q107 => ?_) (fun q107 => ?_)
      · skip
        have h108 : Rg 24 24 x105 := rg_le_r (⟨by decide, by decide⟩ : Rg 24 24 24) h106 q107
        obtain rfl : x105 = 24 := rg_eqc h108
        exact tt_vreturn dX10_init_149 rfl (hP _ _ _ _ ⟨hG103, hA104, Or.inl ⟨_, rfl, rfl, hxj, rfl, rfl⟩⟩)
      · skip
        have h109 : Rg 0 23 x105 := rg_lt_l h106 (⟨by decide, by decide⟩ : Rg 24 24 24) (nle_lt q107)
        refine tt_aload_n (j := 0) dX10_init_132 rfl ?_
        obtain ⟨b110, hr111, ho112⟩ := gi_R (k := 643) hG h0 32 4940
        refine gt_gR (id := 643) dX10_init_133 fl_10_13 rfl rfl h0 hA104 hr111 ?_
        refine tt_sipush (v := 4880) dX10_init_136 rfl ?_
        refine tt_iload_n (j := 1) dX10_init_139 rfl ?_
        refine tt_iadd dX10_init_140 ?_
        refine tt_iconst (v := 2) dX10_init_141 rfl ?_
        refine gt_iSx dX10_init_142 ho112 hA104 (Or.inl (by decide)) (rg_in (rg_add (lo := 4880) (hi := 4903) (⟨by decide, by decide⟩ : Rg 4880 4880 4880) h109)) hG103 (by decide) (fun S113 hG114 hA115 e116 f117 er118 ej8 ej9 => ?_)
        refine tt_iinc (j := 1) (v := (x105 + 1)) (ks := [0, 1]) (L' := [(1, .int (x105 + 1)), (0, .ref o0)]) dX10_init_143 rfl rfl (by decide) rfl ?_
        refine tt_goto (tgt := 126) dX10_init_146 rfl ?_
        exact tt_loc (ks := [1, 0]) rfl (ihB101 _ (rg_up h109) S113 (x105 + 1) rfl hG114 hA115 (rg_w (rg_add (lo := 1) (hi := 24) h109 (⟨by decide, by decide⟩ : Rg 1 1 1))) ⟨e116.trans hxj.1, ej8.trans hxj.2.1, fun b hb => by
          obtain rfl : b110 = b := Option.some.inj (hr111.symm.trans hb)
          obtain ⟨y1, y2⟩ := hxj.2.2 _ hr111
          refine ⟨fun a hn => by rw [ej9, va_up_ne _ _ hn]; exact y1 a hn, fun i hi => ?_⟩
          rw [(cl_up h109).1] at hi
          rw [ej9, va_up_self, ix_add (b := 4880) (B := 4880) rfl h109]
          unfold upd
          by_cases ei : i = x105.toNatClampNeg
          · rw [if_pos (by rw [ei])]
          · rw [if_neg (by omega)]; exact y2 i (by omega)⟩)
  exact tt_loc (ks := [1, 0]) rfl (B101 _ S 0 rfl hG hA (rg_w (⟨by decide, by decide⟩ : Rg 0 0 0)) ⟨rfl, rfl, fun _ _ => ⟨fun _ _ => rfl, fun i hi => absurd hi (Nat.not_lt_zero _)⟩⟩)
set_option maxHeartbeats 4000000 in
theorem cd_10 {xi : SX} {S : Hp} {E : List Nat} {kc nc : Nat} {P : Po} {o0 : Nat}  (hG : GI S (o0 :: E)) (hL : o0 ∈ hp_L S) (hEL : ∀ q ∈ E, q ∈ hp_L S) (hE : o0 ∉ E) (hK : hp_K S o0 = 10) (hZ : Zf S o0 [])  (hRL : RLx S) (hkc : 13 ≤ kc) (hnc : 21218 ≤ nc) (hP : ∀ T, GI T E → Oa T E 10 0 o0 → Cf o0 S T → hp_I T 642 o0 = 0 → hp_I T 663 o0 = 0 → Ar (hp_L S) T 641 o0 → hp_I T 664 o0 = -1 → (∃ a, Ja T 665 o0 a) → (∃ a, Ja T 666 o0 a) → (∃ a b, hp_R T 643 o0 = some a ∧ (∀ i, i < 24 → hp_i T a (4880 + i) = 2) ∧ hp_R T 647 o0 = some b ∧ Az T b) → P (.inl none) T (kc - 13) (nc - 21218)) : TT xi M_X10_init 0 [(0, .ref o0)] [] S kc nc P := by
  have hC : Cf o0 S S := cf_rf
  refine tt_aload_n (j := 0) dX10_init_0 rfl ?_
  refine tt_objInit dX10_init_1 ca_X10_1 ⟨by decide, by decide⟩ ?_
  refine tt_aload_n (j := 0) dX10_init_4 rfl ?_
  refine tt_sipush (v := 200) dX10_init_5 rfl ?_
  refine gn_I (k1 := kc - 1) (n1 := nc - 200) dX10_init_8 ka_int (by decide) (len := 200) rfl (by decide) (by omega) (by omega) hG (e_cons hL hEL) (fun a1 T2 hG3 cn4 oa5 ni6 et7 => ?_)
  have nb8 : a1 ∉ hp_L S := fun q => ni6 (hC.1 a1 q).1
  have no9 := nb_a hRL ni6 et7
  have hRL10 := rl_a hRL ni6 et7
  have hK12 := k_cn hL cn4 hK
  have hZ13 := zf_cn hZ hL cn4
  have hC14 := cf_cn hC cn4 hL
  have hE15 := e_cn hEL cn4
  have hL11 := l_cn hL cn4
  refine tt_putR (id := 641) (x := some a1) dX10_init_10 fl_10_7 rfl rfl ⟨hL11, hK12⟩ rfl rfl (by decide) ?_
  have f16 := fk_mk (k := 641) (o := o0) oa5
  have xa17 := ar_mk (k := 641) (o := o0) oa5 nb8 (zi_a et7)
  have hRL18 := rl_pR (j := 641) (o := o0) hRL10 oa5.1
  have hG19 := gp_oR (k := 641) (x := some a1) hG3
  have hL20 : o0 ∈ hp_L (sp_R T2 641 o0 (some a1)) := by rw [hq_L_R]; exact hL11
  have hK21 : hp_K (sp_R T2 641 o0 (some a1)) o0 = 10 := by rw [hq_K_R]; exact hK12
  have hZ22 := zf_R (j := 641) (a := o0) (x := some a1) hZ13
  have hC23 := cf_R (k := 641) (x := some a1) hC14 hL (ow_no (by decide)) (fun b e => by cases e; exact oa5.1) (fun h => by cases h) (fun _ _ e => by cases e; exact ⟨nb8, fun hU => by rw [et7]; exact nh_a (hC.2.2.2.2.2.2.2.1 hU) ni6 (by decide)⟩)
  have hE24 : ∀ q ∈ E, q ∈ hp_L (sp_R T2 641 o0 (some a1)) := by rw [hq_L_R]; exact hE15
  refine tt_aload_n (j := 0) dX10_init_13 rfl ?_
  refine tt_sipush (v := 4940) dX10_init_14 rfl ?_
  refine gn_I (k1 := kc - 2) (n1 := nc - 5140) dX10_init_17 ka_int (by decide) (len := 4940) rfl (by decide) (by omega) (by omega) hG19 (e_cons hL20 hE24) (fun a25 T26 hG27 cn28 oa29 ni30 et31 => ?_)
  have nb32 : a25 ∉ hp_L S := fun q => ni30 (hC23.1 a25 q).1
  have no33 := nb_a hRL18 ni30 et31
  have hRL34 := rl_a hRL18 ni30 et31
  have hK36 := k_cn hL20 cn28 hK21
  have hZ37 := zf_cn hZ22 hL20 cn28
  have hC38 := cf_cn hC23 cn28 hL
  have hE39 := e_cn hE24 cn28
  have f40 := fk_cn f16 hL20 cn28
  have xa41 := ar_cn xa17 hL20 cn28
  have hL35 := l_cn hL20 cn28
  refine tt_putR (id := 643) (x := some a25) dX10_init_19 fl_10_13 rfl rfl ⟨hL35, hK36⟩ rfl rfl (by decide) ?_
  have f42 := fk_R (j := 643) (x := some a25) f40
  have f43 := fk_mk (k := 643) (o := o0) oa29
  have xa44 := ar_R (j := 643) (a := o0) (y := some a25) xa41
  have hRL45 := rl_pR (j := 643) (o := o0) hRL34 oa29.1
  have hG46 := gp_oR (k := 643) (x := some a25) hG27
  have hL47 : o0 ∈ hp_L (sp_R T26 643 o0 (some a25)) := by rw [hq_L_R]; exact hL35
  have hK48 : hp_K (sp_R T26 643 o0 (some a25)) o0 = 10 := by rw [hq_K_R]; exact hK36
  have hZ49 := zf_R (j := 643) (a := o0) (x := some a25) hZ37
  have hC50 := cf_R (k := 643) (x := some a25) hC38 hL (ow_no (by decide)) (fun b e => by cases e; exact oa29.1) (fun h => by cases h) (fun _ _ e => by cases e; exact ⟨nb32, fun hU => by rw [et31]; exact nh_a (hC23.2.2.2.2.2.2.2.1 hU) ni30 (by decide)⟩)
  have hE51 : ∀ q ∈ E, q ∈ hp_L (sp_R T26 643 o0 (some a25)) := by rw [hq_L_R]; exact hE39
  refine tt_aload_n (j := 0) dX10_init_22 rfl ?_
  refine tt_sipush (v := 4940) dX10_init_23 rfl ?_
  refine gn_J (k1 := kc - 3) (n1 := nc - 10080) dX10_init_26 ka_long (by decide) (len := 4940) rfl (by decide) (by omega) (by omega) hG46 (e_cons hL47 hE51) (fun a52 T53 hG54 cn55 oa56 ni57 et58 => ?_)
  have nb59 : a52 ∉ hp_L S := fun q => ni57 (hC50.1 a52 q).1
  have no60 := nb_a hRL45 ni57 et58
  have hRL61 := rl_a hRL45 ni57 et58
  have hK63 := k_cn hL47 cn55 hK48
  have hZ64 := zf_cn hZ49 hL47 cn55
  have hC65 := cf_cn hC50 cn55 hL
  have hE66 := e_cn hE51 cn55
  have f67 := fk_cn f42 hL47 cn55
  have f68 := fk_cn f43 hL47 cn55
  have xa69 := ar_cn xa44 hL47 cn55
  have hL62 := l_cn hL47 cn55
  refine tt_putR (id := 644) (x := some a52) dX10_init_28 fl_10_16 rfl rfl ⟨hL62, hK63⟩ rfl rfl (by decide) ?_
  have f70 := fk_R (j := 644) (x := some a52) f67
  have f71 := fk_R (j := 644) (x := some a52) f68
  have f72 := fk_mk (k := 644) (o := o0) oa56
  have xa73 := ar_R (j := 644) (a := o0) (y := some a52) xa69
  have hRL74 := rl_pR (j := 644) (o := o0) hRL61 oa56.1
  have hG75 := gp_oR (k := 644) (x := some a52) hG54
  have hL76 : o0 ∈ hp_L (sp_R T53 644 o0 (some a52)) := by rw [hq_L_R]; exact hL62
  have hK77 : hp_K (sp_R T53 644 o0 (some a52)) o0 = 10 := by rw [hq_K_R]; exact hK63
  have hZ78 := zf_R (j := 644) (a := o0) (x := some a52) hZ64
  have hC79 := cf_R (k := 644) (x := some a52) hC65 hL (ow_no (by decide)) (fun b e => by cases e; exact oa56.1) (fun h => by cases h) (fun _ _ e => by cases e; exact ⟨nb59, fun hU => by rw [et58]; exact nh_a (hC50.2.2.2.2.2.2.2.1 hU) ni57 (by decide)⟩)
  have hE80 : ∀ q ∈ E, q ∈ hp_L (sp_R T53 644 o0 (some a52)) := by rw [hq_L_R]; exact hE66
  refine tt_aload_n (j := 0) dX10_init_31 rfl ?_
  refine tt_sipush (v := 4940) dX10_init_32 rfl ?_
  refine gn_J (k1 := kc - 4) (n1 := nc - 15020) dX10_init_35 ka_long (by decide) (len := 4940) rfl (by decide) (by omega) (by omega) hG75 (e_cons hL76 hE80) (fun a81 T82 hG83 cn84 oa85 ni86 et87 => ?_)
  have nb88 : a81 ∉ hp_L S := fun q => ni86 (hC79.1 a81 q).1
  have no89 := nb_a hRL74 ni86 et87
  have hRL90 := rl_a hRL74 ni86 et87
  have hK92 := k_cn hL76 cn84 hK77
  have hZ93 := zf_cn hZ78 hL76 cn84
  have hC94 := cf_cn hC79 cn84 hL
  have hE95 := e_cn hE80 cn84
  have f96 := fk_cn f70 hL76 cn84
  have f97 := fk_cn f71 hL76 cn84
  have f98 := fk_cn f72 hL76 cn84
  have xa99 := ar_cn xa73 hL76 cn84
  have hL91 := l_cn hL76 cn84
  refine tt_putR (id := 645) (x := some a81) dX10_init_37 fl_10_20 rfl rfl ⟨hL91, hK92⟩ rfl rfl (by decide) ?_
  have f100 := fk_R (j := 645) (x := some a81) f96
  have f101 := fk_R (j := 645) (x := some a81) f97
  have f102 := fk_R (j := 645) (x := some a81) f98
  have f103 := fk_mk (k := 645) (o := o0) oa85
  have xa104 := ar_R (j := 645) (a := o0) (y := some a81) xa99
  have hRL105 := rl_pR (j := 645) (o := o0) hRL90 oa85.1
  have hG106 := gp_oR (k := 645) (x := some a81) hG83
  have hL107 : o0 ∈ hp_L (sp_R T82 645 o0 (some a81)) := by rw [hq_L_R]; exact hL91
  have hK108 : hp_K (sp_R T82 645 o0 (some a81)) o0 = 10 := by rw [hq_K_R]; exact hK92
  have hZ109 := zf_R (j := 645) (a := o0) (x := some a81) hZ93
  have hC110 := cf_R (k := 645) (x := some a81) hC94 hL (ow_no (by decide)) (fun b e => by cases e; exact oa85.1) (fun h => by cases h) (fun _ _ e => by cases e; exact ⟨nb88, fun hU => by rw [et87]; exact nh_a (hC79.2.2.2.2.2.2.2.1 hU) ni86 (by decide)⟩)
  have hE111 : ∀ q ∈ E, q ∈ hp_L (sp_R T82 645 o0 (some a81)) := by rw [hq_L_R]; exact hE95
  refine tt_aload_n (j := 0) dX10_init_40 rfl ?_
  refine tt_sipush (v := 4940) dX10_init_41 rfl ?_
  refine gn_J (k1 := kc - 5) (n1 := nc - 19960) dX10_init_44 ka_long (by decide) (len := 4940) rfl (by decide) (by omega) (by omega) hG106 (e_cons hL107 hE111) (fun a112 T113 hG114 cn115 oa116 ni117 et118 => ?_)
  have nb119 : a112 ∉ hp_L S := fun q => ni117 (hC110.1 a112 q).1
  have no120 := nb_a hRL105 ni117 et118
  have hRL121 := rl_a hRL105 ni117 et118
  have hK123 := k_cn hL107 cn115 hK108
  have hZ124 := zf_cn hZ109 hL107 cn115
  have hC125 := cf_cn hC110 cn115 hL
  have hE126 := e_cn hE111 cn115
  have f127 := fk_cn f100 hL107 cn115
  have f128 := fk_cn f101 hL107 cn115
  have f129 := fk_cn f102 hL107 cn115
  have f130 := fk_cn f103 hL107 cn115
  have xa131 := ar_cn xa104 hL107 cn115
  have hL122 := l_cn hL107 cn115
  refine tt_putR (id := 646) (x := some a112) dX10_init_46 fl_10_23 rfl rfl ⟨hL122, hK123⟩ rfl rfl (by decide) ?_
  have f132 := fk_R (j := 646) (x := some a112) f127
  have f133 := fk_R (j := 646) (x := some a112) f128
  have f134 := fk_R (j := 646) (x := some a112) f129
  have f135 := fk_R (j := 646) (x := some a112) f130
  have f136 := fk_mk (k := 646) (o := o0) oa116
  have xa137 := ar_R (j := 646) (a := o0) (y := some a112) xa131
  have hRL138 := rl_pR (j := 646) (o := o0) hRL121 oa116.1
  have hG139 := gp_oR (k := 646) (x := some a112) hG114
  have hL140 : o0 ∈ hp_L (sp_R T113 646 o0 (some a112)) := by rw [hq_L_R]; exact hL122
  have hK141 : hp_K (sp_R T113 646 o0 (some a112)) o0 = 10 := by rw [hq_K_R]; exact hK123
  have hZ142 := zf_R (j := 646) (a := o0) (x := some a112) hZ124
  have hC143 := cf_R (k := 646) (x := some a112) hC125 hL (ow_no (by decide)) (fun b e => by cases e; exact oa116.1) (fun h => by cases h) (fun _ _ e => by cases e; exact ⟨nb119, fun hU => by rw [et118]; exact nh_a (hC110.2.2.2.2.2.2.2.1 hU) ni117 (by decide)⟩)
  have hE144 : ∀ q ∈ E, q ∈ hp_L (sp_R T113 646 o0 (some a112)) := by rw [hq_L_R]; exact hE126
  refine tt_aload_n (j := 0) dX10_init_49 rfl ?_
  refine tt_sipush (v := 201) dX10_init_50 rfl ?_
  refine gn_I (k1 := kc - 6) (n1 := nc - 20161) dX10_init_53 ka_int (by decide) (len := 201) rfl (by decide) (by omega) (by omega) hG139 (e_cons hL140 hE144) (fun a145 T146 hG147 cn148 oa149 ni150 et151 => ?_)
  have az0 : Az T146 a145 := ⟨oa149.1, oa149.2.2.2 (by decide), zi_a et151⟩
  have nb152 : a145 ∉ hp_L S := fun q => ni150 (hC143.1 a145 q).1
  have no153 := nb_a hRL138 ni150 et151
  have hRL154 := rl_a hRL138 ni150 et151
  have hK156 := k_cn hL140 cn148 hK141
  have hZ157 := zf_cn hZ142 hL140 cn148
  have hC158 := cf_cn hC143 cn148 hL
  have hE159 := e_cn hE144 cn148
  have f160 := fk_cn f132 hL140 cn148
  have f161 := fk_cn f133 hL140 cn148
  have f162 := fk_cn f134 hL140 cn148
  have f163 := fk_cn f135 hL140 cn148
  have f164 := fk_cn f136 hL140 cn148
  have xa165 := ar_cn xa137 hL140 cn148
  have hL155 := l_cn hL140 cn148
  refine tt_putR (id := 647) (x := some a145) dX10_init_55 fl_10_26 rfl rfl ⟨hL155, hK156⟩ rfl rfl (by decide) ?_
  have tr1 := az_R (j := 647) (a := o0) (y := some a145) az0
  have f166 := fk_R (j := 647) (x := some a145) f160
  have f167 := fk_R (j := 647) (x := some a145) f161
  have f168 := fk_R (j := 647) (x := some a145) f162
  have f169 := fk_R (j := 647) (x := some a145) f163
  have f170 := fk_R (j := 647) (x := some a145) f164
  have f171 := fk_mk (k := 647) (o := o0) oa149
  have xa172 := ar_R (j := 647) (a := o0) (y := some a145) xa165
  have hRL173 := rl_pR (j := 647) (o := o0) hRL154 oa149.1
  have hG174 := gp_oR (k := 647) (x := some a145) hG147
  have hL175 : o0 ∈ hp_L (sp_R T146 647 o0 (some a145)) := by rw [hq_L_R]; exact hL155
  have hK176 : hp_K (sp_R T146 647 o0 (some a145)) o0 = 10 := by rw [hq_K_R]; exact hK156
  have hZ177 := zf_R (j := 647) (a := o0) (x := some a145) hZ157
  have hC178 := cf_R (k := 647) (x := some a145) hC158 hL (ow_no (by decide)) (fun b e => by cases e; exact oa149.1) (fun h => by cases h) (fun _ _ e => by cases e; exact ⟨nb152, fun hU => by rw [et151]; exact nh_a (hC143.2.2.2.2.2.2.2.1 hU) ni150 (by decide)⟩)
  have hE179 : ∀ q ∈ E, q ∈ hp_L (sp_R T146 647 o0 (some a145)) := by rw [hq_L_R]; exact hE159
  refine tt_aload_n (j := 0) dX10_init_58 rfl ?_
  refine tt_sipush (v := 201) dX10_init_59 rfl ?_
  refine gn_Z (k1 := kc - 7) (n1 := nc - 20362) dX10_init_62 ka_boolean (by decide) (len := 201) rfl (by decide) (by omega) (by omega) hG174 (e_cons hL175 hE179) (fun a180 T181 hG182 cn183 oa184 ni185 et186 => ?_)
  have tr2 := az_cn tr1 cn183
  have nb187 : a180 ∉ hp_L S := fun q => ni185 (hC178.1 a180 q).1
  have no188 := nb_a hRL173 ni185 et186
  have hRL189 := rl_a hRL173 ni185 et186
  have hK191 := k_cn hL175 cn183 hK176
  have hZ192 := zf_cn hZ177 hL175 cn183
  have hC193 := cf_cn hC178 cn183 hL
  have hE194 := e_cn hE179 cn183
  have f195 := fk_cn f166 hL175 cn183
  have f196 := fk_cn f167 hL175 cn183
  have f197 := fk_cn f168 hL175 cn183
  have f198 := fk_cn f169 hL175 cn183
  have f199 := fk_cn f170 hL175 cn183
  have f200 := fk_cn f171 hL175 cn183
  have xa201 := ar_cn xa172 hL175 cn183
  have hL190 := l_cn hL175 cn183
  refine tt_putR (id := 648) (x := some a180) dX10_init_64 fl_10_29 rfl rfl ⟨hL190, hK191⟩ rfl rfl (by decide) ?_
  have tr3 := az_R (j := 648) (a := o0) (y := some a180) tr2
  have f202 := fk_R (j := 648) (x := some a180) f195
  have f203 := fk_R (j := 648) (x := some a180) f196
  have f204 := fk_R (j := 648) (x := some a180) f197
  have f205 := fk_R (j := 648) (x := some a180) f198
  have f206 := fk_R (j := 648) (x := some a180) f199
  have f207 := fk_R (j := 648) (x := some a180) f200
  have f208 := fk_mk (k := 648) (o := o0) oa184
  have xa209 := ar_R (j := 648) (a := o0) (y := some a180) xa201
  have hRL210 := rl_pR (j := 648) (o := o0) hRL189 oa184.1
  have hG211 := gp_oR (k := 648) (x := some a180) hG182
  have hL212 : o0 ∈ hp_L (sp_R T181 648 o0 (some a180)) := by rw [hq_L_R]; exact hL190
  have hK213 : hp_K (sp_R T181 648 o0 (some a180)) o0 = 10 := by rw [hq_K_R]; exact hK191
  have hZ214 := zf_R (j := 648) (a := o0) (x := some a180) hZ192
  have hC215 := cf_R (k := 648) (x := some a180) hC193 hL (ow_no (by decide)) (fun b e => by cases e; exact oa184.1) (fun h => by cases h) (fun _ _ e => by cases e; exact ⟨nb187, fun hU => by rw [et186]; exact nh_a (hC178.2.2.2.2.2.2.2.1 hU) ni185 (by decide)⟩)
  have hE216 : ∀ q ∈ E, q ∈ hp_L (sp_R T181 648 o0 (some a180)) := by rw [hq_L_R]; exact hE194
  refine tt_aload_n (j := 0) dX10_init_67 rfl ?_
  refine tt_sipush (v := 202) dX10_init_68 rfl ?_
  refine gn_I (k1 := kc - 8) (n1 := nc - 20564) dX10_init_71 ka_int (by decide) (len := 202) rfl (by decide) (by omega) (by omega) hG211 (e_cons hL212 hE216) (fun a217 T218 hG219 cn220 oa221 ni222 et223 => ?_)
  have tr4 := az_cn tr3 cn220
  have nb224 : a217 ∉ hp_L S := fun q => ni222 (hC215.1 a217 q).1
  have no225 := nb_a hRL210 ni222 et223
  have hRL226 := rl_a hRL210 ni222 et223
  have hK228 := k_cn hL212 cn220 hK213
  have hZ229 := zf_cn hZ214 hL212 cn220
  have hC230 := cf_cn hC215 cn220 hL
  have hE231 := e_cn hE216 cn220
  have f232 := fk_cn f202 hL212 cn220
  have f233 := fk_cn f203 hL212 cn220
  have f234 := fk_cn f204 hL212 cn220
  have f235 := fk_cn f205 hL212 cn220
  have f236 := fk_cn f206 hL212 cn220
  have f237 := fk_cn f207 hL212 cn220
  have f238 := fk_cn f208 hL212 cn220
  have xa239 := ar_cn xa209 hL212 cn220
  have hL227 := l_cn hL212 cn220
  refine tt_putR (id := 649) (x := some a217) dX10_init_73 fl_10_33 rfl rfl ⟨hL227, hK228⟩ rfl rfl (by decide) ?_
  have tr5 := az_R (j := 649) (a := o0) (y := some a217) tr4
  have f240 := fk_R (j := 649) (x := some a217) f232
  have f241 := fk_R (j := 649) (x := some a217) f233
  have f242 := fk_R (j := 649) (x := some a217) f234
  have f243 := fk_R (j := 649) (x := some a217) f235
  have f244 := fk_R (j := 649) (x := some a217) f236
  have f245 := fk_R (j := 649) (x := some a217) f237
  have f246 := fk_R (j := 649) (x := some a217) f238
  have f247 := fk_mk (k := 649) (o := o0) oa221
  have xa248 := ar_R (j := 649) (a := o0) (y := some a217) xa239
  have hRL249 := rl_pR (j := 649) (o := o0) hRL226 oa221.1
  have hG250 := gp_oR (k := 649) (x := some a217) hG219
  have hL251 : o0 ∈ hp_L (sp_R T218 649 o0 (some a217)) := by rw [hq_L_R]; exact hL227
  have hK252 : hp_K (sp_R T218 649 o0 (some a217)) o0 = 10 := by rw [hq_K_R]; exact hK228
  have hZ253 := zf_R (j := 649) (a := o0) (x := some a217) hZ229
  have hC254 := cf_R (k := 649) (x := some a217) hC230 hL (ow_no (by decide)) (fun b e => by cases e; exact oa221.1) (fun h => by cases h) (fun _ _ e => by cases e; exact ⟨nb224, fun hU => by rw [et223]; exact nh_a (hC215.2.2.2.2.2.2.2.1 hU) ni222 (by decide)⟩)
  have hE255 : ∀ q ∈ E, q ∈ hp_L (sp_R T218 649 o0 (some a217)) := by rw [hq_L_R]; exact hE231
  refine tt_aload_n (j := 0) dX10_init_76 rfl ?_
  refine tt_sipush (v := 202) dX10_init_77 rfl ?_
  refine gn_I (k1 := kc - 9) (n1 := nc - 20766) dX10_init_80 ka_int (by decide) (len := 202) rfl (by decide) (by omega) (by omega) hG250 (e_cons hL251 hE255) (fun a256 T257 hG258 cn259 oa260 ni261 et262 => ?_)
  have tr6 := az_cn tr5 cn259
  have nb263 : a256 ∉ hp_L S := fun q => ni261 (hC254.1 a256 q).1
  have no264 := nb_a hRL249 ni261 et262
  have hRL265 := rl_a hRL249 ni261 et262
  have hK267 := k_cn hL251 cn259 hK252
  have hZ268 := zf_cn hZ253 hL251 cn259
  have hC269 := cf_cn hC254 cn259 hL
  have hE270 := e_cn hE255 cn259
  have f271 := fk_cn f240 hL251 cn259
  have f272 := fk_cn f241 hL251 cn259
  have f273 := fk_cn f242 hL251 cn259
  have f274 := fk_cn f243 hL251 cn259
  have f275 := fk_cn f244 hL251 cn259
  have f276 := fk_cn f245 hL251 cn259
  have f277 := fk_cn f246 hL251 cn259
  have f278 := fk_cn f247 hL251 cn259
  have xa279 := ar_cn xa248 hL251 cn259
  have hL266 := l_cn hL251 cn259
  refine tt_putR (id := 650) (x := some a256) dX10_init_82 fl_10_36 rfl rfl ⟨hL266, hK267⟩ rfl rfl (by decide) ?_
  have tr7 := az_R (j := 650) (a := o0) (y := some a256) tr6
  have f280 := fk_R (j := 650) (x := some a256) f271
  have f281 := fk_R (j := 650) (x := some a256) f272
  have f282 := fk_R (j := 650) (x := some a256) f273
  have f283 := fk_R (j := 650) (x := some a256) f274
  have f284 := fk_R (j := 650) (x := some a256) f275
  have f285 := fk_R (j := 650) (x := some a256) f276
  have f286 := fk_R (j := 650) (x := some a256) f277
  have f287 := fk_R (j := 650) (x := some a256) f278
  have f288 := fk_mk (k := 650) (o := o0) oa260
  have xa289 := ar_R (j := 650) (a := o0) (y := some a256) xa279
  have hRL290 := rl_pR (j := 650) (o := o0) hRL265 oa260.1
  have hG291 := gp_oR (k := 650) (x := some a256) hG258
  have hL292 : o0 ∈ hp_L (sp_R T257 650 o0 (some a256)) := by rw [hq_L_R]; exact hL266
  have hK293 : hp_K (sp_R T257 650 o0 (some a256)) o0 = 10 := by rw [hq_K_R]; exact hK267
  have hZ294 := zf_R (j := 650) (a := o0) (x := some a256) hZ268
  have hC295 := cf_R (k := 650) (x := some a256) hC269 hL (ow_no (by decide)) (fun b e => by cases e; exact oa260.1) (fun h => by cases h) (fun _ _ e => by cases e; exact ⟨nb263, fun hU => by rw [et262]; exact nh_a (hC254.2.2.2.2.2.2.2.1 hU) ni261 (by decide)⟩)
  have hE296 : ∀ q ∈ E, q ∈ hp_L (sp_R T257 650 o0 (some a256)) := by rw [hq_L_R]; exact hE270
  refine tt_aload_n (j := 0) dX10_init_85 rfl ?_
  refine tt_sipush (v := 202) dX10_init_86 rfl ?_
  refine gn_I (k1 := kc - 10) (n1 := nc - 20968) dX10_init_89 ka_int (by decide) (len := 202) rfl (by decide) (by omega) (by omega) hG291 (e_cons hL292 hE296) (fun a297 T298 hG299 cn300 oa301 ni302 et303 => ?_)
  have tr8 := az_cn tr7 cn300
  have nb304 : a297 ∉ hp_L S := fun q => ni302 (hC295.1 a297 q).1
  have no305 := nb_a hRL290 ni302 et303
  have hRL306 := rl_a hRL290 ni302 et303
  have hK308 := k_cn hL292 cn300 hK293
  have hZ309 := zf_cn hZ294 hL292 cn300
  have hC310 := cf_cn hC295 cn300 hL
  have hE311 := e_cn hE296 cn300
  have f312 := fk_cn f280 hL292 cn300
  have f313 := fk_cn f281 hL292 cn300
  have f314 := fk_cn f282 hL292 cn300
  have f315 := fk_cn f283 hL292 cn300
  have f316 := fk_cn f284 hL292 cn300
  have f317 := fk_cn f285 hL292 cn300
  have f318 := fk_cn f286 hL292 cn300
  have f319 := fk_cn f287 hL292 cn300
  have f320 := fk_cn f288 hL292 cn300
  have xa321 := ar_cn xa289 hL292 cn300
  have hL307 := l_cn hL292 cn300
  refine tt_putR (id := 651) (x := some a297) dX10_init_91 fl_10_39 rfl rfl ⟨hL307, hK308⟩ rfl rfl (by decide) ?_
  have tr9 := az_R (j := 651) (a := o0) (y := some a297) tr8
  have f322 := fk_R (j := 651) (x := some a297) f312
  have f323 := fk_R (j := 651) (x := some a297) f313
  have f324 := fk_R (j := 651) (x := some a297) f314
  have f325 := fk_R (j := 651) (x := some a297) f315
  have f326 := fk_R (j := 651) (x := some a297) f316
  have f327 := fk_R (j := 651) (x := some a297) f317
  have f328 := fk_R (j := 651) (x := some a297) f318
  have f329 := fk_R (j := 651) (x := some a297) f319
  have f330 := fk_R (j := 651) (x := some a297) f320
  have f331 := fk_mk (k := 651) (o := o0) oa301
  have xa332 := ar_R (j := 651) (a := o0) (y := some a297) xa321
  have hRL333 := rl_pR (j := 651) (o := o0) hRL306 oa301.1
  have hG334 := gp_oR (k := 651) (x := some a297) hG299
  have hL335 : o0 ∈ hp_L (sp_R T298 651 o0 (some a297)) := by rw [hq_L_R]; exact hL307
  have hK336 : hp_K (sp_R T298 651 o0 (some a297)) o0 = 10 := by rw [hq_K_R]; exact hK308
  have hZ337 := zf_R (j := 651) (a := o0) (x := some a297) hZ309
  have hC338 := cf_R (k := 651) (x := some a297) hC310 hL (ow_no (by decide)) (fun b e => by cases e; exact oa301.1) (fun h => by cases h) (fun _ _ e => by cases e; exact ⟨nb304, fun hU => by rw [et303]; exact nh_a (hC295.2.2.2.2.2.2.2.1 hU) ni302 (by decide)⟩)
  have hE339 : ∀ q ∈ E, q ∈ hp_L (sp_R T298 651 o0 (some a297)) := by rw [hq_L_R]; exact hE311
  refine tt_aload_n (j := 0) dX10_init_94 rfl ?_
  refine tt_sipush (v := 202) dX10_init_95 rfl ?_
  refine gn_J (k1 := kc - 11) (n1 := nc - 21170) dX10_init_98 ka_long (by decide) (len := 202) rfl (by decide) (by omega) (by omega) hG334 (e_cons hL335 hE339) (fun a340 T341 hG342 cn343 oa344 ni345 et346 => ?_)
  have tr10 := az_cn tr9 cn343
  have nb347 : a340 ∉ hp_L S := fun q => ni345 (hC338.1 a340 q).1
  have no348 := nb_a hRL333 ni345 et346
  have hRL349 := rl_a hRL333 ni345 et346
  have hK351 := k_cn hL335 cn343 hK336
  have hZ352 := zf_cn hZ337 hL335 cn343
  have hC353 := cf_cn hC338 cn343 hL
  have hE354 := e_cn hE339 cn343
  have f355 := fk_cn f322 hL335 cn343
  have f356 := fk_cn f323 hL335 cn343
  have f357 := fk_cn f324 hL335 cn343
  have f358 := fk_cn f325 hL335 cn343
  have f359 := fk_cn f326 hL335 cn343
  have f360 := fk_cn f327 hL335 cn343
  have f361 := fk_cn f328 hL335 cn343
  have f362 := fk_cn f329 hL335 cn343
  have f363 := fk_cn f330 hL335 cn343
  have f364 := fk_cn f331 hL335 cn343
  have xa365 := ar_cn xa332 hL335 cn343
  have hL350 := l_cn hL335 cn343
  refine tt_putR (id := 652) (x := some a340) dX10_init_100 fl_10_42 rfl rfl ⟨hL350, hK351⟩ rfl rfl (by decide) ?_
  have tr11 := az_R (j := 652) (a := o0) (y := some a340) tr10
  have f366 := fk_R (j := 652) (x := some a340) f355
  have f367 := fk_R (j := 652) (x := some a340) f356
  have f368 := fk_R (j := 652) (x := some a340) f357
  have f369 := fk_R (j := 652) (x := some a340) f358
  have f370 := fk_R (j := 652) (x := some a340) f359
  have f371 := fk_R (j := 652) (x := some a340) f360
  have f372 := fk_R (j := 652) (x := some a340) f361
  have f373 := fk_R (j := 652) (x := some a340) f362
  have f374 := fk_R (j := 652) (x := some a340) f363
  have f375 := fk_R (j := 652) (x := some a340) f364
  have f376 := fk_mk (k := 652) (o := o0) oa344
  have xa377 := ar_R (j := 652) (a := o0) (y := some a340) xa365
  have hRL378 := rl_pR (j := 652) (o := o0) hRL349 oa344.1
  have hG379 := gp_oR (k := 652) (x := some a340) hG342
  have hL380 : o0 ∈ hp_L (sp_R T341 652 o0 (some a340)) := by rw [hq_L_R]; exact hL350
  have hK381 : hp_K (sp_R T341 652 o0 (some a340)) o0 = 10 := by rw [hq_K_R]; exact hK351
  have hZ382 := zf_R (j := 652) (a := o0) (x := some a340) hZ352
  have hC383 := cf_R (k := 652) (x := some a340) hC353 hL (ow_no (by decide)) (fun b e => by cases e; exact oa344.1) (fun h => by cases h) (fun _ _ e => by cases e; exact ⟨nb347, fun hU => by rw [et346]; exact nh_a (hC338.2.2.2.2.2.2.2.1 hU) ni345 (by decide)⟩)
  have hE384 : ∀ q ∈ E, q ∈ hp_L (sp_R T341 652 o0 (some a340)) := by rw [hq_L_R]; exact hE354
  refine tt_aload_n (j := 0) dX10_init_103 rfl ?_
  refine tt_iconst (v := (-1)) dX10_init_104 rfl ?_
  refine tt_putI (id := 664) (x := (-1)) dX10_init_105 fl_10_45 rfl rfl ⟨hL380, hK381⟩ rfl rfl (by decide) ?_
  have tr12 := az_I (j := 664) (a := o0) (v := (-1)) tr11
  have f385 := fk_I (j := 664) (v := (-1)) f366
  have f386 := fk_I (j := 664) (v := (-1)) f367
  have f387 := fk_I (j := 664) (v := (-1)) f368
  have f388 := fk_I (j := 664) (v := (-1)) f369
  have f389 := fk_I (j := 664) (v := (-1)) f370
  have f390 := fk_I (j := 664) (v := (-1)) f371
  have f391 := fk_I (j := 664) (v := (-1)) f372
  have f392 := fk_I (j := 664) (v := (-1)) f373
  have f393 := fk_I (j := 664) (v := (-1)) f374
  have f394 := fk_I (j := 664) (v := (-1)) f375
  have f395 := fk_I (j := 664) (v := (-1)) f376
  have i396 : hp_I (sp_I (sp_R T341 652 o0 (some a340)) 664 o0 (-1)) 664 o0 = (-1) := by rw [hq_I_I, up2_self]
  have hG397 := gp_oI (k := 664) (v := (-1)) hG379
  have hL398 : o0 ∈ hp_L (sp_I (sp_R T341 652 o0 (some a340)) 664 o0 (-1)) := by rw [hq_L_I]; exact hL380
  have hK399 : hp_K (sp_I (sp_R T341 652 o0 (some a340)) 664 o0 (-1)) o0 = 10 := by rw [hq_K_I]; exact hK381
  have hZ400 := zf_I (j := 664) (v := (-1)) hZ382
  have hC401 := cf_I (k := 664) (v := (-1)) hC383
  have hE402 : ∀ q ∈ E, q ∈ hp_L (sp_I (sp_R T341 652 o0 (some a340)) 664 o0 (-1)) := by rw [hq_L_I]; exact hE384
  have hRL403 := rl_pI (j := 664) (o := o0) (v := (-1)) hRL378
  have xa404 := ar_I (j := 664) (a := o0) (v := (-1)) xa377
  refine tt_aload_n (j := 0) dX10_init_108 rfl ?_
  refine tt_bipush (v := 24) dX10_init_109 rfl ?_
  refine gn_J (k1 := kc - 12) (n1 := nc - 21194) dX10_init_111 ka_long (by decide) (len := 24) rfl (by decide) (by omega) (by omega) hG397 (e_cons hL398 hE402) (fun a405 T406 hG407 cn408 oa409 ni410 et411 => ?_)
  have tr13 := az_cn tr12 cn408
  have nb412 : a405 ∉ hp_L S := fun q => ni410 (hC401.1 a405 q).1
  have no413 := nb_a hRL403 ni410 et411
  have hRL414 := rl_a hRL403 ni410 et411
  have hK416 := k_cn hL398 cn408 hK399
  have hZ417 := zf_cn hZ400 hL398 cn408
  have hC418 := cf_cn hC401 cn408 hL
  have hE419 := e_cn hE402 cn408
  have f420 := fk_cn f385 hL398 cn408
  have f421 := fk_cn f386 hL398 cn408
  have f422 := fk_cn f387 hL398 cn408
  have f423 := fk_cn f388 hL398 cn408
  have f424 := fk_cn f389 hL398 cn408
  have f425 := fk_cn f390 hL398 cn408
  have f426 := fk_cn f391 hL398 cn408
  have f427 := fk_cn f392 hL398 cn408
  have f428 := fk_cn f393 hL398 cn408
  have f429 := fk_cn f394 hL398 cn408
  have f430 := fk_cn f395 hL398 cn408
  have i431 := ((cn408.2.1 o0 hL398).2 664).trans i396
  have xa432 := ar_cn xa404 hL398 cn408
  have hL415 := l_cn hL398 cn408
  refine tt_putR (id := 665) (x := some a405) dX10_init_113 fl_10_49 rfl rfl ⟨hL415, hK416⟩ rfl rfl (by decide) ?_
  have tr14 := az_R (j := 665) (a := o0) (y := some a405) tr13
  have f433 := fk_R (j := 665) (x := some a405) f420
  have f434 := fk_R (j := 665) (x := some a405) f421
  have f435 := fk_R (j := 665) (x := some a405) f422
  have f436 := fk_R (j := 665) (x := some a405) f423
  have f437 := fk_R (j := 665) (x := some a405) f424
  have f438 := fk_R (j := 665) (x := some a405) f425
  have f439 := fk_R (j := 665) (x := some a405) f426
  have f440 := fk_R (j := 665) (x := some a405) f427
  have f441 := fk_R (j := 665) (x := some a405) f428
  have f442 := fk_R (j := 665) (x := some a405) f429
  have f443 := fk_R (j := 665) (x := some a405) f430
  have f444 := fk_mk (k := 665) (o := o0) oa409
  have xa445 := ar_R (j := 665) (a := o0) (y := some a405) xa432
  have ja446 := ja_mk (k := 665) (o := o0) oa409 no413 (zj_a et411)
  have hRL447 := rl_pR (j := 665) (o := o0) hRL414 oa409.1
  have i448 : hp_I (sp_R T406 665 o0 (some a405)) 664 o0 = (-1) := by rw [hq_I_R]; exact i431
  have hG449 := gp_oR (k := 665) (x := some a405) hG407
  have hL450 : o0 ∈ hp_L (sp_R T406 665 o0 (some a405)) := by rw [hq_L_R]; exact hL415
  have hK451 : hp_K (sp_R T406 665 o0 (some a405)) o0 = 10 := by rw [hq_K_R]; exact hK416
  have hZ452 := zf_R (j := 665) (a := o0) (x := some a405) hZ417
  have hC453 := cf_R (k := 665) (x := some a405) hC418 hL (fun _ _ _ b e => by cases e; exact nb412) (fun b e => by cases e; exact oa409.1) (fun h => by cases h) (fun _ _ e => by cases e; exact ⟨nb412, fun hU => by rw [et411]; exact nh_a (hC401.2.2.2.2.2.2.2.1 hU) ni410 (by decide)⟩)
  have hE454 : ∀ q ∈ E, q ∈ hp_L (sp_R T406 665 o0 (some a405)) := by rw [hq_L_R]; exact hE419
  refine tt_aload_n (j := 0) dX10_init_116 rfl ?_
  refine tt_bipush (v := 24) dX10_init_117 rfl ?_
  refine gn_J (k1 := kc - 13) (n1 := nc - 21218) dX10_init_119 ka_long (by decide) (len := 24) rfl (by decide) (by omega) (by omega) hG449 (e_cons hL450 hE454) (fun a455 T456 hG457 cn458 oa459 ni460 et461 => ?_)
  have tr15 := az_cn tr14 cn458
  have nb462 : a455 ∉ hp_L S := fun q => ni460 (hC453.1 a455 q).1
  have no463 := nb_a hRL447 ni460 et461
  have hRL464 := rl_a hRL447 ni460 et461
  have hK466 := k_cn hL450 cn458 hK451
  have hZ467 := zf_cn hZ452 hL450 cn458
  have hC468 := cf_cn hC453 cn458 hL
  have hE469 := e_cn hE454 cn458
  have f470 := fk_cn f433 hL450 cn458
  have f471 := fk_cn f434 hL450 cn458
  have f472 := fk_cn f435 hL450 cn458
  have f473 := fk_cn f436 hL450 cn458
  have f474 := fk_cn f437 hL450 cn458
  have f475 := fk_cn f438 hL450 cn458
  have f476 := fk_cn f439 hL450 cn458
  have f477 := fk_cn f440 hL450 cn458
  have f478 := fk_cn f441 hL450 cn458
  have f479 := fk_cn f442 hL450 cn458
  have f480 := fk_cn f443 hL450 cn458
  have f481 := fk_cn f444 hL450 cn458
  have i482 := ((cn458.2.1 o0 hL450).2 664).trans i448
  have xa483 := ar_cn xa445 hL450 cn458
  have ja484 := ja_cn ja446 hL450 cn458
  have hL465 := l_cn hL450 cn458
  refine tt_putR (id := 666) (x := some a455) dX10_init_121 fl_10_52 rfl rfl ⟨hL465, hK466⟩ rfl rfl (by decide) ?_
  have tr16 := az_R (j := 666) (a := o0) (y := some a455) tr15
  have f485 := fk_R (j := 666) (x := some a455) f470
  have f486 := fk_R (j := 666) (x := some a455) f471
  have f487 := fk_R (j := 666) (x := some a455) f472
  have f488 := fk_R (j := 666) (x := some a455) f473
  have f489 := fk_R (j := 666) (x := some a455) f474
  have f490 := fk_R (j := 666) (x := some a455) f475
  have f491 := fk_R (j := 666) (x := some a455) f476
  have f492 := fk_R (j := 666) (x := some a455) f477
  have f493 := fk_R (j := 666) (x := some a455) f478
  have f494 := fk_R (j := 666) (x := some a455) f479
  have f495 := fk_R (j := 666) (x := some a455) f480
  have f496 := fk_R (j := 666) (x := some a455) f481
  have f497 := fk_mk (k := 666) (o := o0) oa459
  have xa498 := ar_R (j := 666) (a := o0) (y := some a455) xa483
  have ja499 := ja_R (j := 666) (p := o0) (b := a455) ja484 (Or.inr (fun e => ni460 (e ▸ ja446.2.1)))
  have ja500 := ja_mk (k := 666) (o := o0) oa459 no463 (zj_a et461)
  have hRL501 := rl_pR (j := 666) (o := o0) hRL464 oa459.1
  have i502 : hp_I (sp_R T456 666 o0 (some a455)) 664 o0 = (-1) := by rw [hq_I_R]; exact i482
  have hG503 := gp_oR (k := 666) (x := some a455) hG457
  have hL504 : o0 ∈ hp_L (sp_R T456 666 o0 (some a455)) := by rw [hq_L_R]; exact hL465
  have hK505 : hp_K (sp_R T456 666 o0 (some a455)) o0 = 10 := by rw [hq_K_R]; exact hK466
  have hZ506 := zf_R (j := 666) (a := o0) (x := some a455) hZ467
  have hC507 := cf_R (k := 666) (x := some a455) hC468 hL (fun _ _ _ b e => by cases e; exact nb462) (fun b e => by cases e; exact oa459.1) (fun h => by cases h) (fun _ _ e => by cases e; exact ⟨nb462, fun hU => by rw [et461]; exact nh_a (hC453.2.2.2.2.2.2.2.1 hU) ni460 (by decide)⟩)
  have hE508 : ∀ q ∈ E, q ∈ hp_L (sp_R T456 666 o0 (some a455)) := by rw [hq_L_R]; exact hE469
  obtain ⟨gD, oD⟩ := gi_done hG503 hL504 hE hK505 (by decide) [(642, 0, 200), (653, 0, 1), (654, 0, 200), (662, 0, 1), (663, 0, 1), (664, -2, 199), (667, 0, 1), (668, 0, 1), (669, 0, 1), (670, 0, 1), (671, 0, 1), (672, 0, 15), (674, 0, 7), (676, 0, 1)] (by decide) (fa_cons (zf_rg hZ506) (fa_cons (zf_rg hZ506) (fa_cons (zf_rg hZ506) (fa_cons (zf_rg hZ506) (fa_cons (zf_rg hZ506) (fa_cons (by show Rg (-2) 199 (hp_I (sp_R T456 666 o0 (some a455)) 664 o0); rw [i502]; exact ⟨by decide, by decide⟩) (fa_cons (zf_rg hZ506) (fa_cons (zf_rg hZ506) (fa_cons (zf_rg hZ506) (fa_cons (zf_rg hZ506) (fa_cons (zf_rg hZ506) (fa_cons (zf_rg hZ506) (fa_cons (zf_rg hZ506) (fa_cons (zf_rg hZ506) fa_nil)))))))))))))) [(641, 32, 200), (643, 32, 4940), (644, 33, 4940), (645, 33, 4940), (646, 33, 4940), (647, 32, 201), (648, 34, 201), (649, 32, 202), (650, 32, 202), (651, 32, 202), (652, 33, 202), (665, 33, 24), (666, 33, 24)] (by decide) (fa_cons ⟨_, f485⟩ (fa_cons ⟨_, f486⟩ (fa_cons ⟨_, f487⟩ (fa_cons ⟨_, f488⟩ (fa_cons ⟨_, f489⟩ (fa_cons ⟨_, f490⟩ (fa_cons ⟨_, f491⟩ (fa_cons ⟨_, f492⟩ (fa_cons ⟨_, f493⟩ (fa_cons ⟨_, f494⟩ (fa_cons ⟨_, f495⟩ (fa_cons ⟨_, f496⟩ (fa_cons ⟨_, f497⟩ fa_nil)))))))))))))
  refine ce_X10i gD oD (fun r T x y h => ?_)
  obtain ⟨g1, g2, ⟨v, rfl, hv, he9, hx9, hy9⟩ | ⟨X, hX, -⟩⟩ := h
  · obtain rfl : v = none := hv
    rw [hx9, hy9]; exact hP T g1 (oa_af oD g2) (cf_x10 hC507 g2 hL he9.2.1 (he9.2.2 _ f486.1).1 he9.1 nb32) ((g2.2.2.1 642 (by decide) o0 oD.1).trans (hZ506 642 (by decide))) ((g2.2.2.1 663 (by decide) o0 oD.1).trans (hZ506 663 (by decide))) (ar_af xa498 oD.1 g2) ((g2.2.2.1 664 (by decide) o0 oD.1).trans i502) ⟨_, ja_x10 ja499 oD.1 g2⟩ ⟨_, ja_x10 ja500 oD.1 g2⟩ ⟨_, _, (g2.2.1 o0 oD.1 643).trans f486.1, (he9.2.2 _ f486.1).2, (g2.2.1 o0 oD.1 647).trans f490.1, az_af tr16 g2 ((he9.2.2 _ f486.1).1 _ (fun e => absurd ((oa_n1 f486.2).symm.trans ((congrArg (hp_N _) e.symm).trans tr16.2.1)) (by decide)))⟩
  · cases hX
