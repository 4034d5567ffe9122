section LS1
variable {xi : SX} {M : MD} {pc : Nat} {L : List (Nat × Value)} {rest : List Value} {S S0 : Hp} {k0 n0 n a : Nat} {P : Po} {E ws : List Nat}
theorem gt_lS1 {i : Int32} {x : Int64} (h : decode (md_c M) pc = .ok (.lastore, 1)) (ho : Oa S0 E 33 n a) (hA : Af E ws S0 S) (hx : vp_in i n) (hG : GI S E) (h9 : ¬ n = 1 ∨ 9996 ∈ ws) (h24 : ¬ n = 24) (kk : ∀ S' : Hp, GI S' E → Af E ws S0 S' → hp_I S' = hp_I S → hp_J S' = hp_J S → hp_r S' = hp_r S → hp_j S' a i.toNatClampNeg = x → TT xi M (pc + 1) L rest S' k0 n0 P) (hah : AH ws n := by decide) : TT xi M pc L (.long x :: .int i :: .ref a :: rest) S k0 n0 P :=
  tt_lastore h (ob_af ho hA) (by rw [n_af ho hA]; exact hx) (kk _ (gp_j hG) (af_tr hA (af_j (h9.imp (fun h q => h ((n_af ho hA).symm.trans q)) id) (Or.inl (fun q => h24 ((n_af ho hA).symm.trans q))) (by rw [n_af ho hA]; exact hah)) (fun _ h => h)) (hq_I_j ..) (hq_J_j ..) (hq_r_j ..) (by rw [hq_j_j, va_up_self]; simp [vp_updL]))
end LS1
def PX (E ws : List Nat) (S : Hp) (cz : Int32 → Hp → Prop) : Po := fun r T _ _ => GI T E ∧ Af E ws S T ∧ ∃ z, r = .inl (some (.int z)) ∧ cz z T
def PW (E ws : List Nat) (S : Hp) (cz : Int32 → Prop) : Po := fun r T _ _ => GI T E ∧ Af E ws S T ∧ ∃ z, r = .inl (some (.int z)) ∧ cz z
section GVC
variable {xi : SX} {M N : MD} {pc : Nat} {L : List (Nat × Value)} {rest As : List Value} {S S0 : Hp} {b i cn n h1 h2 : Nat} {P : Po} {E ws vs : List Nat} {rok : Option Value → Prop} {ex : Option Value → Hp → Prop} {xs : List String}
theorem gt_VC {hp : String → Nat} (h : decode (md_c M) pc = .ok (.invokevirtual i, 3)) (hcv : CV (md_y M).cls i N As.length) (hrm : RM M N) (ho : Oa S0 E cn n b) (hA : Af E ws S0 S) (hcn : (vwCl[cn]?).map (fun r => r.1) = some (md_y N).cls) (hlen : (lg_sl (.ref b :: As)).length ≤ md_L N) (hr8 : (rest.map fun v => v.category).sum ≤ 8) (hs : ∀ k ∈ vs, k ∈ ws) (hch : ∀ X ∈ xs, CH M pc X (hp X))
    (kx : TT xi N 0 (lv_args 0 (.ref b :: As)) [] S 1 6 (PV E vs S 1 6 rok ex xs)) (kt : ∀ X ∈ xs, ∀ (T : Hp) (q : Nat), GI T E → Af E vs S T → Af E ws S0 T → TT xi M (hp X) L [.ref q] T 0 0 P) (kk : ∀ (T : Hp) (v : Option Value), rok v → ex v T → GI T E → Af E vs S T → Af E ws S0 T → TT xi M (pc + 3) L (v.toList ++ rest) T 1 6 P) : TT xi M pc L (As.reverse ++ .ref b :: rest) S 1 6 P := by
  refine tt_callVC (hp := hp) (k1 := 1) (n1 := 6) (k2 := 0) (n2 := 0) h hcv hrm (ob_af ho hA) hcn hlen hr8 (by omega) (by omega) (fun X T hw => ?_) kx (fun v T x y hw => ?_) (fun X T q hw => ?_)
  · obtain ⟨g1, g2, ⟨w, e, -⟩ | ⟨Y, hY, e⟩⟩ := hw
    · cases e
    · cases e; exact hch _ hY
  · obtain ⟨g1, g2, ⟨w, e, r1, r2, rfl, rfl⟩ | ⟨X, -, e⟩⟩ := hw
    · cases e
      rw [Nat.zero_add, Nat.zero_add]
      exact kk T v r1 r2 g1 g2 (af_tr hA g2 hs)
    · cases e
  · obtain ⟨g1, g2, ⟨w, e, -⟩ | ⟨Y, hY, e⟩⟩ := hw
    · cases e
    · cases e; exact kt _ hY T q g1 g2 (af_tr hA g2 hs)
theorem gt_VC0 (h : decode (md_c M) pc = .ok (.invokevirtual i, 3)) (hcv : CV (md_y M).cls i N As.length) (hrm : RM M N) (ho : Oa S0 E cn n b) (hA : Af E ws S0 S) (hcn : (vwCl[cn]?).map (fun r => r.1) = some (md_y N).cls) (hlen : (lg_sl (.ref b :: As)).length ≤ md_L N) (hr8 : (rest.map fun v => v.category).sum ≤ 8) (hs : ∀ k ∈ vs, k ∈ ws)
    (kx : TT xi N 0 (lv_args 0 (.ref b :: As)) [] S 1 6 (PV E vs S 1 6 rok ex [])) (kk : ∀ (T : Hp) (v : Option Value), rok v → ex v T → GI T E → Af E vs S T → Af E ws S0 T → TT xi M (pc + 3) L (v.toList ++ rest) T 1 6 P) : TT xi M pc L (As.reverse ++ .ref b :: rest) S 1 6 P :=
  gt_VC (hp := fun _ => 0) h hcv hrm ho hA hcn hlen hr8 hs (fun _ h => absurd h List.not_mem_nil) kx (fun _ h => absurd h List.not_mem_nil) kk
theorem gt_VC1 {X1 : String} (h : decode (md_c M) pc = .ok (.invokevirtual i, 3)) (hcv : CV (md_y M).cls i N As.length) (hrm : RM M N) (ho : Oa S0 E cn n b) (hA : Af E ws S0 S) (hcn : (vwCl[cn]?).map (fun r => r.1) = some (md_y N).cls) (hlen : (lg_sl (.ref b :: As)).length ≤ md_L N) (hr8 : (rest.map fun v => v.category).sum ≤ 8) (hs : ∀ k ∈ vs, k ∈ ws) (c1 : CH M pc X1 h1)
    (kx : TT xi N 0 (lv_args 0 (.ref b :: As)) [] S 1 6 (PV E vs S 1 6 rok ex [X1])) (k1 : ∀ (T : Hp) (q : Nat), GI T E → Af E vs S T → Af E ws S0 T → TT xi M h1 L [.ref q] T 0 0 P) (kk : ∀ (T : Hp) (v : Option Value), rok v → ex v T → GI T E → Af E vs S T → Af E ws S0 T → TT xi M (pc + 3) L (v.toList ++ rest) T 1 6 P) : TT xi M pc L (As.reverse ++ .ref b :: rest) S 1 6 P :=
  gt_VC (hp := fun _ => h1) h hcv hrm ho hA hcn hlen hr8 hs (fun X hX => by rw [List.mem_singleton.mp hX]; exact c1) kx (fun _ _ => k1) kk
theorem gt_VC2 {X1 X2 : String} (h : decode (md_c M) pc = .ok (.invokevirtual i, 3)) (hcv : CV (md_y M).cls i N As.length) (hrm : RM M N) (ho : Oa S0 E cn n b) (hA : Af E ws S0 S) (hcn : (vwCl[cn]?).map (fun r => r.1) = some (md_y N).cls) (hlen : (lg_sl (.ref b :: As)).length ≤ md_L N) (hr8 : (rest.map fun v => v.category).sum ≤ 8) (hs : ∀ k ∈ vs, k ∈ ws) (c1 : CH M pc X1 h1) (c2 : CH M pc X2 h2)
    (kx : TT xi N 0 (lv_args 0 (.ref b :: As)) [] S 1 6 (PV E vs S 1 6 rok ex [X1, X2])) (k1 : ∀ (T : Hp) (q : Nat), GI T E → Af E vs S T → Af E ws S0 T → TT xi M h1 L [.ref q] T 0 0 P) (k2 : ∀ (T : Hp) (q : Nat), GI T E → Af E vs S T → Af E ws S0 T → TT xi M h2 L [.ref q] T 0 0 P) (kk : ∀ (T : Hp) (v : Option Value), rok v → ex v T → GI T E → Af E vs S T → Af E ws S0 T → TT xi M (pc + 3) L (v.toList ++ rest) T 1 6 P) : TT xi M pc L (As.reverse ++ .ref b :: rest) S 1 6 P := by
  refine gt_VC (hp := fun X => if X = X1 then h1 else h2) h hcv hrm ho hA hcn hlen hr8 hs (fun X hX => ?_) kx (fun X hX T q g1 g2 g3 => ?_) kk
  · rcases List.mem_cons.mp hX with rfl | hX
    · simp only [if_pos rfl]; exact c1
    · rw [List.mem_singleton.mp hX]
      by_cases e : X2 = X1
      · simp only [if_pos e]; rw [e]; exact c1
      · simp only [if_neg e]; exact c2
  · by_cases e : X = X1
    · simp only [if_pos e]; exact k1 T q g1 g2 g3
    · simp only [if_neg e]; exact k2 T q g1 g2 g3
end GVC
theorem ch_L_feed_0 : CH M_L_feed 11 "java/lang/IllegalArgumentException" 19 := ⟨[], (0, 16, 19, 13), [(0, 16, 23, 15)], rfl, (fun _ h => nomatch h), ⟨by decide, by decide⟩, by decide, rfl, "java/lang/IllegalArgumentException", wd_691, tk_3 (List.mem_of_getElem? (i := 219) rfl)⟩
theorem ch_L_feed_1 : CH M_L_feed 11 "java/lang/IllegalStateException" 23 := ⟨[(0, 16, 19, 13)], (0, 16, 23, 15), [], rfl, (fun z hz => by rw [List.mem_singleton.mp hz]; exact ⟨by decide, wd_691, rfl⟩), ⟨by decide, by decide⟩, by decide, rfl, "java/lang/IllegalStateException", wd_692, tk_4 (List.mem_of_getElem? (i := 46) rfl)⟩
theorem ch_L_given_0 : CH M_L_given 7 "java/lang/IllegalArgumentException" 13 := ⟨[], (0, 10, 13, 13), [], rfl, (fun _ h => nomatch h), ⟨by decide, by decide⟩, by decide, rfl, "java/lang/IllegalArgumentException", wd_691, tk_3 (List.mem_of_getElem? (i := 219) rfl)⟩
theorem ch_L_any_0 : CH M_L_any 2 "java/lang/IllegalArgumentException" 8 := ⟨[], (0, 5, 8, 13), [], rfl, (fun _ h => nomatch h), ⟨by decide, by decide⟩, by decide, rfl, "java/lang/IllegalArgumentException", wd_691, tk_3 (List.mem_of_getElem? (i := 219) rfl)⟩
theorem ch_L_decode_0 : CH M_L_decode 5 "java/lang/IllegalArgumentException" 13 := ⟨[], (0, 10, 13, 13), [], rfl, (fun _ h => nomatch h), ⟨by decide, by decide⟩, by decide, rfl, "java/lang/IllegalArgumentException", wd_691, tk_3 (List.mem_of_getElem? (i := 219) rfl)⟩
theorem ch_L_constant_0 : CH M_L_constant 4 "java/lang/IllegalArgumentException" 11 := ⟨[], (0, 8, 11, 13), [], rfl, (fun _ h => nomatch h), ⟨by decide, by decide⟩, by decide, rfl, "java/lang/IllegalArgumentException", wd_691, tk_3 (List.mem_of_getElem? (i := 219) rfl)⟩
theorem ch_L_set_0 : CH M_L_set 7 "java/lang/IllegalArgumentException" 14 := ⟨[], (0, 11, 14, 13), [(0, 11, 18, 15)], rfl, (fun _ h => nomatch h), ⟨by decide, by decide⟩, by decide, rfl, "java/lang/IllegalArgumentException", wd_691, tk_3 (List.mem_of_getElem? (i := 219) rfl)⟩
theorem ch_L_set_1 : CH M_L_set 7 "java/lang/IllegalStateException" 18 := ⟨[(0, 11, 14, 13)], (0, 11, 18, 15), [], rfl, (fun z hz => by rw [List.mem_singleton.mp hz]; exact ⟨by decide, wd_691, rfl⟩), ⟨by decide, by decide⟩, by decide, rfl, "java/lang/IllegalStateException", wd_692, tk_4 (List.mem_of_getElem? (i := 46) rfl)⟩
theorem ch_L_has_0 : CH M_L_has 7 "java/lang/IllegalArgumentException" 22 := ⟨[], (0, 19, 22, 13), [], rfl, (fun _ h => nomatch h), ⟨by decide, by decide⟩, by decide, rfl, "java/lang/IllegalArgumentException", wd_691, tk_3 (List.mem_of_getElem? (i := 219) rfl)⟩
theorem ch_L_put_0 : CH M_L_put 3 "java/lang/IllegalArgumentException" 9 := ⟨[], (0, 6, 9, 13), [], rfl, (fun _ h => nomatch h), ⟨by decide, by decide⟩, by decide, rfl, "java/lang/IllegalArgumentException", wd_691, tk_3 (List.mem_of_getElem? (i := 219) rfl)⟩
theorem ch_L_go_0 : CH M_L_go 4 "java/lang/IllegalArgumentException" 12 := ⟨[], (0, 9, 12, 13), [(0, 9, 15, 15)], rfl, (fun _ h => nomatch h), ⟨by decide, by decide⟩, by decide, rfl, "java/lang/IllegalArgumentException", wd_691, tk_3 (List.mem_of_getElem? (i := 219) rfl)⟩
theorem ch_L_go_1 : CH M_L_go 4 "java/lang/IllegalStateException" 15 := ⟨[(0, 9, 12, 13)], (0, 9, 15, 15), [], rfl, (fun z hz => by rw [List.mem_singleton.mp hz]; exact ⟨by decide, wd_691, rfl⟩), ⟨by decide, by decide⟩, by decide, rfl, "java/lang/IllegalStateException", wd_692, tk_4 (List.mem_of_getElem? (i := 46) rfl)⟩
theorem ch_L_value_0 : CH M_L_value 4 "java/lang/IllegalArgumentException" 11 := ⟨[], (0, 8, 11, 13), [], rfl, (fun _ h => nomatch h), ⟨by decide, by decide⟩, by decide, rfl, "java/lang/IllegalArgumentException", wd_691, tk_3 (List.mem_of_getElem? (i := 219) rfl)⟩
set_option maxHeartbeats 4000000 in
theorem cw_L_feed {xi : SX} {S : Hp} {E : List Nat} {P : Po} {o0 : Nat} {x1 : Int32} {x2 : Int32} {x3 : Int32} {x4 : Int32} {x5 : Int32} {o6 : Nat} (hG : GI S E) (h0 : Oa S E 9 0 o0) (h6 : Oa S E 33 1 o6) (hP : ∀ r T x y, PW E [65, 321, 322, 388, 9995, 9996] S (Rg 0 2) r T x y → P r T x y) : TT xi M_L_feed 0 [(0, .ref o0), (1, .int x1), (2, .int x2), (3, .int x3), (4, .int x4), (5, .int x5), (6, .ref o6)] [] S 1 6 P := by
  have hA : Af E [65, 321, 322, 388, 9995, 9996] S S := af_rf
  refine tt_aload (j := 6) dL_feed_0 rfl ?_
  refine tt_iconst (v := 0) dL_feed_2 rfl ?_
  refine tt_aload_n (j := 0) dL_feed_3 rfl ?_
  refine tt_iload_n (j := 1) dL_feed_4 rfl ?_
  refine tt_iload_n (j := 2) dL_feed_5 rfl ?_
  refine tt_iload_n (j := 3) dL_feed_6 rfl ?_
  refine tt_iload (j := 4) dL_feed_7 rfl ?_
  refine tt_iload (j := 5) dL_feed_9 rfl ?_
  refine gt_VC2 (As := [.int x1, .int x2, .int x3, .int x4, .int x5]) dL_feed_11 ca_L_7 ⟨by decide, by decide⟩ h0 hA rfl (Nat.le_of_ble_eq_true rfl) (Nat.le_of_ble_eq_true rfl) (by decide) ch_L_feed_0 ch_L_feed_1 (cs_X9_feed hG (oa_af h0 hA) (by decide) (by decide) (fun _ _ _ _ h => h)) (fun S108 q109 hG110 hB111 hA112 => ?_) (fun S108 q109 hG110 hB111 hA112 => ?_) (fun S101 v106 hv107 hx105 hG102 hB103 hA104 => ?_)
  · skip
    refine tt_astore (ks := [0, 1, 2, 3, 4, 5, 6, 7]) (L' := [(7, .ref q109), (0, .ref o0), (1, .int x1), (2, .int x2), (3, .int x3), (4, .int x4), (5, .int x5), (6, .ref o6)]) dL_feed_19 (by decide) rfl ?_
    refine tt_iconst (v := 1) dL_feed_21 rfl ?_
    exact tt_ireturn dL_feed_22 .int rfl rfl (hP _ _ _ _ ⟨hG110, hA112, _, rfl, rg_w (⟨by decide, by decide⟩ : Rg 1 1 1)⟩)
  · skip
    refine tt_astore (ks := [0, 1, 2, 3, 4, 5, 6, 7]) (L' := [(7, .ref q109), (0, .ref o0), (1, .int x1), (2, .int x2), (3, .int x3), (4, .int x4), (5, .int x5), (6, .ref o6)]) dL_feed_23 (by decide) rfl ?_
    refine tt_iconst (v := 2) dL_feed_25 rfl ?_
    exact tt_ireturn dL_feed_26 .int rfl rfl (hP _ _ _ _ ⟨hG110, hA112, _, rfl, rg_w (⟨by decide, by decide⟩ : Rg 2 2 2)⟩)
  obtain ⟨x113, rfl, h114⟩ := hv107
  show TT xi M_L_feed 14 [(0, .ref o0), (1, .int x1), (2, .int x2), (3, .int x3), (4, .int x4), (5, .int x5), (6, .ref o6)] [.int x113, .int 0, .ref o6] S101 1 6 P
  refine tt_i2l dL_feed_14 ?_
  refine gt_lS1 dL_feed_15 h6 hA104 (rg_in (⟨by decide, by decide⟩ : Rg 0 0 0)) hG102 (Or.inr (by decide)) (by decide) (fun S115 hG116 hA117 e118 f119 er120 ej121 => ?_)
  refine tt_goto (tgt := 27) dL_feed_16 rfl ?_
  refine tt_iconst (v := 0) dL_feed_27 rfl ?_
  exact tt_ireturn dL_feed_28 .int rfl rfl (hP _ _ _ _ ⟨hG116, hA117, _, rfl, rg_w (⟨by decide, by decide⟩ : Rg 0 0 0)⟩)
set_option maxHeartbeats 4000000 in
theorem cw_L_given {xi : SX} {S : Hp} {E : List Nat} {P : Po} {o0 : Nat} {x1 : Int32} {y2 : Int64} {y4 : Int64} {y6 : Int64} (hG : GI S E) (h0 : Oa S E 9 0 o0) (hP : ∀ r T x y, PW E [9994] S (Rg 0 2) r T x y → P r T x y) : TT xi M_L_given 0 [(0, .ref o0), (1, .int x1), (2, .long y2), (4, .long y4), (6, .long y6)] [] S 1 6 P := by
  have hA : Af E [9994] S S := af_rf
  refine tt_aload_n (j := 0) dL_given_0 rfl ?_
  refine tt_iload_n (j := 1) dL_given_1 rfl ?_
  refine tt_lload_n (j := 2) dL_given_2 rfl ?_
  refine tt_lload (j := 3) dL_given_3 rfl ?_
  refine tt_lload (j := 4) dL_given_5 rfl ?_
  refine gt_VC1 (As := [.int x1, .long y2, .long y4, .long y6]) dL_given_7 ca_L_17 ⟨by decide, by decide⟩ h0 hA rfl (Nat.le_of_ble_eq_true rfl) (Nat.le_of_ble_eq_true rfl) (by decide) ch_L_given_0 (cs_X9_given hG (oa_af h0 hA) (by decide) (by decide) (fun _ _ _ _ h => h)) (fun S108 q109 hG110 hB111 hA112 => ?_) (fun S101 v106 hv107 hx105 hG102 hB103 hA104 => ?_)
  · skip
    refine tt_astore (ks := [0, 1, 2, 3, 4, 5]) (L' := [(8, .ref q109), (0, .ref o0), (1, .int x1), (2, .long y2), (4, .long y4), (6, .long y6)]) dL_given_13 (by decide) rfl ?_
    refine tt_iconst (v := 1) dL_given_15 rfl ?_
    exact tt_ireturn dL_given_16 .int rfl rfl (hP _ _ _ _ ⟨hG110, hA112, _, rfl, rg_w (⟨by decide, by decide⟩ : Rg 1 1 1)⟩)
  obtain rfl : v106 = none := hv107
  show TT xi M_L_given 10 [(0, .ref o0), (1, .int x1), (2, .long y2), (4, .long y4), (6, .long y6)] [] S101 1 6 P
  refine tt_goto (tgt := 17) dL_given_10 rfl ?_
  refine tt_iconst (v := 0) dL_given_17 rfl ?_
  exact tt_ireturn dL_given_18 .int rfl rfl (hP _ _ _ _ ⟨hG102, hA104, _, rfl, rg_w (⟨by decide, by decide⟩ : Rg 0 0 0)⟩)
set_option maxHeartbeats 4000000 in
theorem cw_L_any {xi : SX} {S : Hp} {E : List Nat} {P : Po} {o0 : Nat} {x1 : Int32} (hG : GI S E) (h0 : Oa S E 9 0 o0) (hP : ∀ r T x y, PW E [9994] S (Rg 0 2) r T x y → P r T x y) : TT xi M_L_any 0 [(0, .ref o0), (1, .int x1)] [] S 1 6 P := by
  have hA : Af E [9994] S S := af_rf
  refine tt_aload_n (j := 0) dL_any_0 rfl ?_
  refine tt_iload_n (j := 1) dL_any_1 rfl ?_
  refine gt_VC1 (As := [.int x1]) dL_any_2 ca_L_21 ⟨by decide, by decide⟩ h0 hA rfl (Nat.le_of_ble_eq_true rfl) (Nat.le_of_ble_eq_true rfl) (by decide) ch_L_any_0 (cs_X9_any hG (oa_af h0 hA) (by decide) (by decide) (fun _ _ _ _ h => h)) (fun S108 q109 hG110 hB111 hA112 => ?_) (fun S101 v106 hv107 hx105 hG102 hB103 hA104 => ?_)
  · skip
    refine tt_astore_n (ks := [0, 1, 2]) (L' := [(2, .ref q109), (0, .ref o0), (1, .int x1)]) dL_any_8 (by decide) rfl ?_
    refine tt_iconst (v := 1) dL_any_9 rfl ?_
    exact tt_ireturn dL_any_10 .int rfl rfl (hP _ _ _ _ ⟨hG110, hA112, _, rfl, rg_w (⟨by decide, by decide⟩ : Rg 1 1 1)⟩)
  obtain rfl : v106 = none := hv107
  show TT xi M_L_any 5 [(0, .ref o0), (1, .int x1)] [] S101 1 6 P
  refine tt_goto (tgt := 11) dL_any_5 rfl ?_
  refine tt_iconst (v := 0) dL_any_11 rfl ?_
  exact tt_ireturn dL_any_12 .int rfl rfl (hP _ _ _ _ ⟨hG102, hA104, _, rfl, rg_w (⟨by decide, by decide⟩ : Rg 0 0 0)⟩)
set_option maxHeartbeats 4000000 in
theorem cw_L_decode {xi : SX} {S : Hp} {E : List Nat} {P : Po} {o0 : Nat} {x1 : Int32} {x2 : Int32} {o3 : Nat} (hG : GI S E) (h0 : Oa S E 9 0 o0) (h3 : Oa S E 33 1 o3) (hP : ∀ r T x y, PW E [193, 194, 195, 196, 197, 198, 199, 200, 201, 202, 203, 204, 9996] S (Rg 0 2) r T x y → P r T x y) : TT xi M_L_decode 0 [(0, .ref o0), (1, .int x1), (2, .int x2), (3, .ref o3)] [] S 1 6 P := by
  have hA : Af E [193, 194, 195, 196, 197, 198, 199, 200, 201, 202, 203, 204, 9996] S S := af_rf
  refine tt_aload_n (j := 3) dL_decode_0 rfl ?_
  refine tt_iconst (v := 0) dL_decode_1 rfl ?_
  refine tt_aload_n (j := 0) dL_decode_2 rfl ?_
  refine tt_iload_n (j := 1) dL_decode_3 rfl ?_
  refine tt_iload_n (j := 2) dL_decode_4 rfl ?_
  refine gt_VC1 (As := [.int x1, .int x2]) dL_decode_5 ca_L_25 ⟨by decide, by decide⟩ h0 hA rfl (Nat.le_of_ble_eq_true rfl) (Nat.le_of_ble_eq_true rfl) (by decide) ch_L_decode_0 (cs_X9_decode hG (oa_af h0 hA) (by decide) (by decide) (fun _ _ _ _ h => h)) (fun S108 q109 hG110 hB111 hA112 => ?_) (fun S101 v106 hv107 hx105 hG102 hB103 hA104 => ?_)
  · skip
    refine tt_astore (ks := [0, 1, 2, 3, 4]) (L' := [(4, .ref q109), (0, .ref o0), (1, .int x1), (2, .int x2), (3, .ref o3)]) dL_decode_13 (by decide) rfl ?_
    refine tt_iconst (v := 1) dL_decode_15 rfl ?_
    exact tt_ireturn dL_decode_16 .int rfl rfl (hP _ _ _ _ ⟨hG110, hA112, _, rfl, rg_w (⟨by decide, by decide⟩ : Rg 1 1 1)⟩)
  obtain ⟨x113, rfl, h114⟩ := hv107
  show TT xi M_L_decode 8 [(0, .ref o0), (1, .int x1), (2, .int x2), (3, .ref o3)] [.int x113, .int 0, .ref o3] S101 1 6 P
  refine tt_i2l dL_decode_8 ?_
  refine gt_lS1 dL_decode_9 h3 hA104 (rg_in (⟨by decide, by decide⟩ : Rg 0 0 0)) hG102 (Or.inr (by decide)) (by decide) (fun S115 hG116 hA117 e118 f119 er120 ej121 => ?_)
  refine tt_goto (tgt := 17) dL_decode_10 rfl ?_
  refine tt_iconst (v := 0) dL_decode_17 rfl ?_
  exact tt_ireturn dL_decode_18 .int rfl rfl (hP _ _ _ _ ⟨hG116, hA117, _, rfl, rg_w (⟨by decide, by decide⟩ : Rg 0 0 0)⟩)
set_option maxHeartbeats 4000000 in
theorem cw_L_constant {xi : SX} {S : Hp} {E : List Nat} {P : Po} {o0 : Nat} {x1 : Int32} {o2 : Nat} (hG : GI S E) (h0 : Oa S E 9 0 o0) (h2 : Oa S E 33 1 o2) (hP : ∀ r T x y, PW E [193, 194, 195, 196, 197, 198, 199, 200, 201, 202, 203, 204, 9996] S (Rg 0 2) r T x y → P r T x y) : TT xi M_L_constant 0 [(0, .ref o0), (1, .int x1), (2, .ref o2)] [] S 1 6 P := by
  have hA : Af E [193, 194, 195, 196, 197, 198, 199, 200, 201, 202, 203, 204, 9996] S S := af_rf
  refine tt_aload_n (j := 2) dL_constant_0 rfl ?_
  refine tt_iconst (v := 0) dL_constant_1 rfl ?_
  refine tt_aload_n (j := 0) dL_constant_2 rfl ?_
  refine tt_iload_n (j := 1) dL_constant_3 rfl ?_
  refine gt_VC1 (As := [.int x1]) dL_constant_4 ca_L_29 ⟨by decide, by decide⟩ h0 hA rfl (Nat.le_of_ble_eq_true rfl) (Nat.le_of_ble_eq_true rfl) (by decide) ch_L_constant_0 (cs_X9_constant hG (oa_af h0 hA) (by decide) (by decide) (fun _ _ _ _ h => h)) (fun S108 q109 hG110 hB111 hA112 => ?_) (fun S101 v106 hv107 hx105 hG102 hB103 hA104 => ?_)
  · skip
    refine tt_astore_n (ks := [0, 1, 2, 3]) (L' := [(3, .ref q109), (0, .ref o0), (1, .int x1), (2, .ref o2)]) dL_constant_11 (by decide) rfl ?_
    refine tt_iconst (v := 1) dL_constant_12 rfl ?_
    exact tt_ireturn dL_constant_13 .int rfl rfl (hP _ _ _ _ ⟨hG110, hA112, _, rfl, rg_w (⟨by decide, by decide⟩ : Rg 1 1 1)⟩)
  obtain ⟨y113, rfl⟩ := hv107
  show TT xi M_L_constant 7 [(0, .ref o0), (1, .int x1), (2, .ref o2)] [.long y113, .int 0, .ref o2] S101 1 6 P
  refine gt_lS1 dL_constant_7 h2 hA104 (rg_in (⟨by decide, by decide⟩ : Rg 0 0 0)) hG102 (Or.inr (by decide)) (by decide) (fun S114 hG115 hA116 e117 f118 er119 ej120 => ?_)
  refine tt_goto (tgt := 14) dL_constant_8 rfl ?_
  refine tt_iconst (v := 0) dL_constant_14 rfl ?_
  exact tt_ireturn dL_constant_15 .int rfl rfl (hP _ _ _ _ ⟨hG115, hA116, _, rfl, rg_w (⟨by decide, by decide⟩ : Rg 0 0 0)⟩)
set_option maxHeartbeats 4000000 in
theorem cw_L_set {xi : SX} {S : Hp} {E : List Nat} {P : Po} {o0 : Nat} {x1 : Int32} {x2 : Int32} {x3 : Int32} {o4 : Nat} (hG : GI S E) (h0 : Oa S E 9 0 o0) (h4 : Oa S E 33 1 o4) (hP : ∀ r T x y, PW E [9987, 9996] S (Rg 0 2) r T x y → P r T x y) : TT xi M_L_set 0 [(0, .ref o0), (1, .int x1), (2, .int x2), (3, .int x3), (4, .ref o4)] [] S 1 6 P := by
  have hA : Af E [9987, 9996] S S := af_rf
  refine tt_aload (j := 4) dL_set_0 rfl ?_
  refine tt_iconst (v := 0) dL_set_2 rfl ?_
  refine tt_aload_n (j := 0) dL_set_3 rfl ?_
  refine tt_iload_n (j := 1) dL_set_4 rfl ?_
  refine tt_iload_n (j := 2) dL_set_5 rfl ?_
  refine tt_iload_n (j := 3) dL_set_6 rfl ?_
  refine gt_VC2 (As := [.int x1, .int x2, .int x3]) dL_set_7 ca_L_33 ⟨by decide, by decide⟩ h0 hA rfl (Nat.le_of_ble_eq_true rfl) (Nat.le_of_ble_eq_true rfl) (by decide) ch_L_set_0 ch_L_set_1 (cs_X9_set hG (oa_af h0 hA) (by decide) (by decide) (fun _ _ _ _ h => h)) (fun S108 q109 hG110 hB111 hA112 => ?_) (fun S108 q109 hG110 hB111 hA112 => ?_) (fun S101 v106 hv107 hx105 hG102 hB103 hA104 => ?_)
  · skip
    refine tt_astore (ks := [0, 1, 2, 3, 4, 5]) (L' := [(5, .ref q109), (0, .ref o0), (1, .int x1), (2, .int x2), (3, .int x3), (4, .ref o4)]) dL_set_14 (by decide) rfl ?_
    refine tt_iconst (v := 1) dL_set_16 rfl ?_
    exact tt_ireturn dL_set_17 .int rfl rfl (hP _ _ _ _ ⟨hG110, hA112, _, rfl, rg_w (⟨by decide, by decide⟩ : Rg 1 1 1)⟩)
  · skip
    refine tt_astore (ks := [0, 1, 2, 3, 4, 5]) (L' := [(5, .ref q109), (0, .ref o0), (1, .int x1), (2, .int x2), (3, .int x3), (4, .ref o4)]) dL_set_18 (by decide) rfl ?_
    refine tt_iconst (v := 2) dL_set_20 rfl ?_
    exact tt_ireturn dL_set_21 .int rfl rfl (hP _ _ _ _ ⟨hG110, hA112, _, rfl, rg_w (⟨by decide, by decide⟩ : Rg 2 2 2)⟩)
  obtain ⟨y113, rfl⟩ := hv107
  show TT xi M_L_set 10 [(0, .ref o0), (1, .int x1), (2, .int x2), (3, .int x3), (4, .ref o4)] [.long y113, .int 0, .ref o4] S101 1 6 P
  refine gt_lS1 dL_set_10 h4 hA104 (rg_in (⟨by decide, by decide⟩ : Rg 0 0 0)) hG102 (Or.inr (by decide)) (by decide) (fun S114 hG115 hA116 e117 f118 er119 ej120 => ?_)
  refine tt_goto (tgt := 22) dL_set_11 rfl ?_
  refine tt_iconst (v := 0) dL_set_22 rfl ?_
  exact tt_ireturn dL_set_23 .int rfl rfl (hP _ _ _ _ ⟨hG115, hA116, _, rfl, rg_w (⟨by decide, by decide⟩ : Rg 0 0 0)⟩)
set_option maxHeartbeats 4000000 in
theorem cw_L_has {xi : SX} {S : Hp} {E : List Nat} {P : Po} {o0 : Nat} {x1 : Int32} {x2 : Int32} {y3 : Int64} {o5 : Nat} (hG : GI S E) (h0 : Oa S E 9 0 o0) (h5 : Oa S E 33 1 o5) (hP : ∀ r T x y, PW E [9987, 9996] S (Rg 0 2) r T x y → P r T x y) : TT xi M_L_has 0 [(0, .ref o0), (1, .int x1), (2, .int x2), (3, .long y3), (5, .ref o5)] [] S 1 6 P := by
  have hA : Af E [9987, 9996] S S := af_rf
  refine tt_aload (j := 4) dL_has_0 rfl ?_
  refine tt_iconst (v := 0) dL_has_2 rfl ?_
  refine tt_aload_n (j := 0) dL_has_3 rfl ?_
  refine tt_iload_n (j := 1) dL_has_4 rfl ?_
  refine tt_iload_n (j := 2) dL_has_5 rfl ?_
  refine tt_lload_n (j := 3) dL_has_6 rfl ?_
  refine gt_VC1 (As := [.int x1, .int x2, .long y3]) dL_has_7 ca_L_37 ⟨by decide, by decide⟩ h0 hA rfl (Nat.le_of_ble_eq_true rfl) (Nat.le_of_ble_eq_true rfl) (by decide) ch_L_has_0 (cs_X9_has hG (oa_af h0 hA) (by decide) (by decide) (fun _ _ _ _ h => h)) (fun S108 q109 hG110 hB111 hA112 => ?_) (fun S101 v106 hv107 hx105 hG102 hB103 hA104 => ?_)
  · skip
    refine tt_astore (ks := [0, 1, 2, 3, 4, 5]) (L' := [(6, .ref q109), (0, .ref o0), (1, .int x1), (2, .int x2), (3, .long y3), (5, .ref o5)]) dL_has_22 (by decide) rfl ?_
    refine tt_iconst (v := 1) dL_has_24 rfl ?_
    exact tt_ireturn dL_has_25 .int rfl rfl (hP _ _ _ _ ⟨hG110, hA112, _, rfl, rg_w (⟨by decide, by decide⟩ : Rg 1 1 1)⟩)
  obtain ⟨x113, rfl, h114⟩ := hv107
  show TT xi M_L_has 10 [(0, .ref o0), (1, .int x1), (2, .int x2), (3, .long y3), (5, .ref o5)] [.int x113, .int 0, .ref o5] S101 1 6 P
  have B115 : ∀ (y116 : Int64), Rl 0 1 y116 → TT xi M_L_has 18 [(0, .ref o0), (1, .int x1), (2, .int x2), (3, .long y3), (5, .ref o5)] [.long y116, .int 0, .ref o5] S101 1 6 P := by
    intro y116 h117
    refine gt_lS1 dL_has_18 h5 hA104 (rg_in (⟨by decide, by decide⟩ : Rg 0 0 0)) hG102 (Or.inr (by decide)) (by decide) (fun S118 hG119 hA120 e121 f122 er123 ej124 => ?_)
    refine tt_goto (tgt := 26) dL_has_19 rfl ?_
    refine tt_iconst (v := 0) dL_has_26 rfl ?_
    exact tt_ireturn dL_has_27 .int rfl rfl (hP _ _ _ _ ⟨hG119, hA120, _, rfl, rg_w (⟨by decide, by decide⟩ : Rg 0 0 0)⟩)
  refine tt_if_eq (tgt := 17) dL_has_10 rfl (fun q125 => ?_) (fun q125 => ?_)
  · skip
    have h126 : Rg 0 0 x113 := rg_eq_l h114 (⟨by decide, by decide⟩ : Rg 0 0 0) q125
    refine tt_lconst (v := 0) dL_has_17 rfl ?_
    exact B115 0 (rl_w (⟨by decide, by decide⟩ : Rl 0 0 0))
  · skip
    have h127 : Rg 1 1 x113 := rg_ne_lo h114 (⟨by decide, by decide⟩ : Rg 0 0 0) q125
    refine tt_lconst (v := 1) dL_has_13 rfl ?_
    refine tt_goto (tgt := 18) dL_has_14 rfl ?_
    exact B115 1 (rl_w (⟨by decide, by decide⟩ : Rl 1 1 1))
set_option maxHeartbeats 4000000 in
theorem cw_L_put {xi : SX} {S : Hp} {E : List Nat} {P : Po} {o0 : Nat} {x1 : Int32} {y2 : Int64} (hG : GI S E) (h0 : Oa S E 9 0 o0) (hP : ∀ r T x y, PW E [9992] S (Rg 0 2) r T x y → P r T x y) : TT xi M_L_put 0 [(0, .ref o0), (1, .int x1), (2, .long y2)] [] S 1 6 P := by
  have hA : Af E [9992] S S := af_rf
  refine tt_aload_n (j := 0) dL_put_0 rfl ?_
  refine tt_iload_n (j := 1) dL_put_1 rfl ?_
  refine tt_lload_n (j := 2) dL_put_2 rfl ?_
  refine gt_VC1 (As := [.int x1, .long y2]) dL_put_3 ca_L_41 ⟨by decide, by decide⟩ h0 hA rfl (Nat.le_of_ble_eq_true rfl) (Nat.le_of_ble_eq_true rfl) (by decide) ch_L_put_0 (cs_X9_put hG (oa_af h0 hA) (by decide) (by decide) (fun _ _ _ _ h => h)) (fun S108 q109 hG110 hB111 hA112 => ?_) (fun S101 v106 hv107 hx105 hG102 hB103 hA104 => ?_)
  · skip
    refine tt_astore (ks := [0, 1, 2, 3]) (L' := [(4, .ref q109), (0, .ref o0), (1, .int x1), (2, .long y2)]) dL_put_9 (by decide) rfl ?_
    refine tt_iconst (v := 1) dL_put_11 rfl ?_
    exact tt_ireturn dL_put_12 .int rfl rfl (hP _ _ _ _ ⟨hG110, hA112, _, rfl, rg_w (⟨by decide, by decide⟩ : Rg 1 1 1)⟩)
  obtain rfl : v106 = none := hv107
  show TT xi M_L_put 6 [(0, .ref o0), (1, .int x1), (2, .long y2)] [] S101 1 6 P
  refine tt_goto (tgt := 13) dL_put_6 rfl ?_
  refine tt_iconst (v := 0) dL_put_13 rfl ?_
  exact tt_ireturn dL_put_14 .int rfl rfl (hP _ _ _ _ ⟨hG102, hA104, _, rfl, rg_w (⟨by decide, by decide⟩ : Rg 0 0 0)⟩)
set_option maxHeartbeats 4000000 in
theorem cw_L_go {xi : SX} {S : Hp} {E : List Nat} {P : Po} {o0 : Nat} {x1 : Int32} {o2 : Nat} (hG : GI S E) (h0 : Oa S E 9 0 o0) (h2 : Oa S E 33 1 o2) (hP : ∀ r T x y, PW E [193, 194, 195, 196, 197, 198, 199, 200, 201, 202, 203, 204, 388, 389, 390, 391, 392, 393, 9993, 9996] S (Rg 0 2) r T x y → P r T x y) : TT xi M_L_go 0 [(0, .ref o0), (1, .int x1), (2, .ref o2)] [] S 1 6 P := by
  have hA : Af E [193, 194, 195, 196, 197, 198, 199, 200, 201, 202, 203, 204, 388, 389, 390, 391, 392, 393, 9993, 9996] S S := af_rf
  refine tt_aload_n (j := 2) dL_go_0 rfl ?_
  refine tt_iconst (v := 0) dL_go_1 rfl ?_
  refine tt_aload_n (j := 0) dL_go_2 rfl ?_
  refine tt_iload_n (j := 1) dL_go_3 rfl ?_
  refine gt_VC2 (As := [.int x1]) dL_go_4 ca_L_45 ⟨by decide, by decide⟩ h0 hA rfl (Nat.le_of_ble_eq_true rfl) (Nat.le_of_ble_eq_true rfl) (by decide) ch_L_go_0 ch_L_go_1 (cs_X9_go hG (oa_af h0 hA) (by decide) (by decide) (fun _ _ _ _ h => h)) (fun S108 q109 hG110 hB111 hA112 => ?_) (fun S108 q109 hG110 hB111 hA112 => ?_) (fun S101 v106 hv107 hx105 hG102 hB103 hA104 => ?_)
  · skip
    refine tt_astore_n (ks := [0, 1, 2, 3]) (L' := [(3, .ref q109), (0, .ref o0), (1, .int x1), (2, .ref o2)]) dL_go_12 (by decide) rfl ?_
    refine tt_iconst (v := 1) dL_go_13 rfl ?_
    exact tt_ireturn dL_go_14 .int rfl rfl (hP _ _ _ _ ⟨hG110, hA112, _, rfl, rg_w (⟨by decide, by decide⟩ : Rg 1 1 1)⟩)
  · skip
    refine tt_astore_n (ks := [0, 1, 2, 3]) (L' := [(3, .ref q109), (0, .ref o0), (1, .int x1), (2, .ref o2)]) dL_go_15 (by decide) rfl ?_
    refine tt_iconst (v := 2) dL_go_16 rfl ?_
    exact tt_ireturn dL_go_17 .int rfl rfl (hP _ _ _ _ ⟨hG110, hA112, _, rfl, rg_w (⟨by decide, by decide⟩ : Rg 2 2 2)⟩)
  obtain ⟨x113, rfl, h114⟩ := hv107
  show TT xi M_L_go 7 [(0, .ref o0), (1, .int x1), (2, .ref o2)] [.int x113, .int 0, .ref o2] S101 1 6 P
  refine tt_i2l dL_go_7 ?_
  refine gt_lS1 dL_go_8 h2 hA104 (rg_in (⟨by decide, by decide⟩ : Rg 0 0 0)) hG102 (Or.inr (by decide)) (by decide) (fun S115 hG116 hA117 e118 f119 er120 ej121 => ?_)
  refine tt_goto (tgt := 18) dL_go_9 rfl ?_
  refine tt_iconst (v := 0) dL_go_18 rfl ?_
  exact tt_ireturn dL_go_19 .int rfl rfl (hP _ _ _ _ ⟨hG116, hA117, _, rfl, rg_w (⟨by decide, by decide⟩ : Rg 0 0 0)⟩)
set_option maxHeartbeats 4000000 in
theorem cw_L_value {xi : SX} {S : Hp} {E : List Nat} {P : Po} {o0 : Nat} {x1 : Int32} {o2 : Nat} (hG : GI S E) (h0 : Oa S E 9 0 o0) (h2 : Oa S E 33 1 o2) (hP : ∀ r T x y, PW E [9996] S (Rg 0 2) r T x y → P r T x y) : TT xi M_L_value 0 [(0, .ref o0), (1, .int x1), (2, .ref o2)] [] S 1 6 P := by
  have hA : Af E [9996] S S := af_rf
  refine tt_aload_n (j := 2) dL_value_0 rfl ?_
  refine tt_iconst (v := 0) dL_value_1 rfl ?_
  refine tt_aload_n (j := 0) dL_value_2 rfl ?_
  refine tt_iload_n (j := 1) dL_value_3 rfl ?_
  refine gt_VC1 (As := [.int x1]) dL_value_4 ca_L_49 ⟨by decide, by decide⟩ h0 hA rfl (Nat.le_of_ble_eq_true rfl) (Nat.le_of_ble_eq_true rfl) (by decide) ch_L_value_0 (cs_X9_value hG (oa_af h0 hA) (by decide) (by decide) (fun _ _ _ _ h => h)) (fun S108 q109 hG110 hB111 hA112 => ?_) (fun S101 v106 hv107 hx105 hG102 hB103 hA104 => ?_)
  · skip
    refine tt_astore_n (ks := [0, 1, 2, 3]) (L' := [(3, .ref q109), (0, .ref o0), (1, .int x1), (2, .ref o2)]) dL_value_11 (by decide) rfl ?_
    refine tt_iconst (v := 1) dL_value_12 rfl ?_
    exact tt_ireturn dL_value_13 .int rfl rfl (hP _ _ _ _ ⟨hG110, hA112, _, rfl, rg_w (⟨by decide, by decide⟩ : Rg 1 1 1)⟩)
  obtain ⟨y113, rfl⟩ := hv107
  show TT xi M_L_value 7 [(0, .ref o0), (1, .int x1), (2, .ref o2)] [.long y113, .int 0, .ref o2] S101 1 6 P
  refine gt_lS1 dL_value_7 h2 hA104 (rg_in (⟨by decide, by decide⟩ : Rg 0 0 0)) hG102 (Or.inr (by decide)) (by decide) (fun S114 hG115 hA116 e117 f118 er119 ej120 => ?_)
  refine tt_goto (tgt := 14) dL_value_8 rfl ?_
  refine tt_iconst (v := 0) dL_value_14 rfl ?_
  exact tt_ireturn dL_value_15 .int rfl rfl (hP _ _ _ _ ⟨hG115, hA116, _, rfl, rg_w (⟨by decide, by decide⟩ : Rg 0 0 0)⟩)
set_option maxHeartbeats 4000000 in
theorem co_X9_requireLocation_any {xi : SX} {S : Hp} {E : List Nat} {kc nc : Nat} {P : Po} {x0 : Int32} (hG : GI S E) (h0 : Rg 0 23 x0) (hP : ∀ r T x y, PV E [] S kc nc rV (fun _ T => T = S) [] r T x y → P r T x y) : TT xi M_X9_requireLocation 0 [(0, .int x0)] [] S kc nc P := by
  have hA : Af E [] S S := af_rf
  refine tt_iload_n (j := 0) dX9_requireLocation_0 rfl ?_
  refine gt_SIp (As := [.int x0]) dX9_requireLocation_1 ca_X9_167 ⟨by decide, by decide⟩ hA (Nat.le_of_ble_eq_true rfl) (Nat.le_of_ble_eq_true rfl) (by decide) (cs_X9_isLocation hG  (fun _ _ _ _ h => h)) rfl (fun _ h => nomatch h) (fun _ _ q => q.1) (fun x106 h107 hx105 => ?_)
  refine tt_if_ne (tgt := 17) dX9_requireLocation_4 rfl (fun q108 => ?_) (fun q108 => ?_)
  · skip
    have h109 : Rg 1 1 x106 := rg_ne_lo h107 (⟨by decide, by decide⟩ : Rg 0 0 0) q108
    have h110 : Rg 0 23 x0 := (((hx105.2) _ rfl).1 q108)
    exact tt_vreturn dX9_requireLocation_17 rfl (hP _ _ _ _ ⟨hG, hA, Or.inl ⟨_, rfl, rfl, rfl, rfl, rfl⟩⟩)
  · skip
    have h111 : Rg 0 0 x106 := rg_eq_l h107 (⟨by decide, by decide⟩ : Rg 0 0 0) q108
    exact absurd (rg_w h0) (((hx105.2) _ rfl).2 q108)
set_option maxHeartbeats 4000000 in
theorem co_X9_any {xi : SX} {S : Hp} {E : List Nat} {kc nc : Nat} {P : Po} {o0 : Nat} {x1 : Int32} (hG : GI S E) (h0 : Oa S E 9 0 o0) (h1 : Rg 0 23 x1) (hP : ∀ r T x y, PV E [9994] S kc nc rV ex0 [] r T x y → P r T x y) : TT xi M_X9_any 0 [(0, .ref o0), (1, .int x1)] [] S kc nc P := by
  have hA : Af E [9994] S S := af_rf
  refine tt_iload_n (j := 1) dX9_any_0 rfl ?_
  refine gt_Svp (As := [.int x1]) dX9_any_1 ca_X9_77 ⟨by decide, by decide⟩ hA (Nat.le_of_ble_eq_true rfl) (Nat.le_of_ble_eq_true rfl) (by decide) (co_X9_requireLocation_any hG (rg_w h1) (fun _ _ _ _ h => h)) rfl (fun _ h => nomatch h) (fun _ _ q => q) (fun hx105 => ?_)
  refine tt_aload_n (j := 0) dX9_any_4 rfl ?_
  obtain ⟨b106, hr107, ho108⟩ := gi_R (k := 578) hG h0 8 0
  refine gt_gR (id := 578) dX9_any_5 fl_9_28 rfl rfl h0 hA hr107 ?_
  refine tt_iload_n (j := 1) dX9_any_8 rfl ?_
  refine tt_lconst (v := 0) dX9_any_9 rfl ?_
  refine tt_lconst (v := 0) dX9_any_10 rfl ?_
  refine tt_ldc2 (v := (-1)) dX9_any_11 kl_9_93 ?_
  refine gt_Vv (As := [.int x1, .long 0, .long 0, .long (-1)]) dX9_any_14 ca_X9_89 ⟨by decide, by decide⟩ ho108 hA rfl (Nat.le_of_ble_eq_true rfl) (Nat.le_of_ble_eq_true rfl) (by decide) (cs_X8_keep hG (oa_af ho108 hA) (fun _ _ _ _ h => h)) rfl (fun _ h => nomatch h) (fun S109 hx113 hG110 hB111 hA112 => ?_)
  exact tt_vreturn dX9_any_17 rfl (hP _ _ _ _ ⟨hG110, hA112, Or.inl ⟨_, rfl, rfl, trivial, rfl, rfl⟩⟩)
set_option maxHeartbeats 4000000 in
theorem cwo_L_any {xi : SX} {S : Hp} {E : List Nat} {P : Po} {o0 : Nat} {x1 : Int32} (hG : GI S E) (h0 : Oa S E 9 0 o0) (h1 : Rg 0 23 x1) (hP : ∀ r T x y, PW E [9994] S (fun z => z = 0) r T x y → P r T x y) : TT xi M_L_any 0 [(0, .ref o0), (1, .int x1)] [] S 1 6 P := by
  have hA : Af E [9994] S S := af_rf
  refine tt_aload_n (j := 0) dL_any_0 rfl ?_
  refine tt_iload_n (j := 1) dL_any_1 rfl ?_
  refine gt_VC0 (As := [.int x1]) dL_any_2 ca_L_21 ⟨by decide, by decide⟩ h0 hA rfl (Nat.le_of_ble_eq_true rfl) (Nat.le_of_ble_eq_true rfl) (by decide) (co_X9_any hG (oa_af h0 hA) (rg_w h1) (fun _ _ _ _ h => h)) (fun S101 v106 hv107 hx105 hG102 hB103 hA104 => ?_)
  obtain rfl : v106 = none := hv107
  show TT xi M_L_any 5 [(0, .ref o0), (1, .int x1)] [] S101 1 6 P
  refine tt_goto (tgt := 11) dL_any_5 rfl ?_
  refine tt_iconst (v := 0) dL_any_11 rfl ?_
  exact tt_ireturn dL_any_12 .int rfl rfl (hP _ _ _ _ ⟨hG102, hA104, _, rfl, rfl⟩)
set_option maxHeartbeats 4000000 in
theorem co_X10_any {xi : SX} {S : Hp} {E : List Nat} {kc nc : Nat} {P : Po} {o0 : Nat} {x1 : Int32} (hG : GI S E) (h0 : Oa S E 10 0 o0) (h1 : Rg 0 23 x1) (hP : ∀ r T x y, PV E [640, 9989] S kc nc rV (fun v T => (hp_I T 640 o0 = 0)) [] r T x y → P r T x y) : TT xi M_X10_any 0 [(0, .ref o0), (1, .int x1)] [] S kc nc P := by
  have hA : Af E [640, 9989] S S := af_rf
  refine tt_aload_n (j := 0) dX10_any_0 rfl ?_
  refine tt_iload_n (j := 1) dX10_any_1 rfl ?_
  refine gt_SIp (As := [.int x1]) dX10_any_2 ca_X10_310 ⟨by decide, by decide⟩ hA (Nat.le_of_ble_eq_true rfl) (Nat.le_of_ble_eq_true rfl) (by decide) (cs_X10_isPlace hG  (fun _ _ _ _ h => h)) rfl (fun _ h => nomatch h) (fun _ _ q => q.1) (fun x106 h107 hx105 => ?_)
  refine tt_if_eq (tgt := 12) dX10_any_5 rfl (fun q108 => ?_) (fun q108 => ?_)
  · skip
    have h109 : Rg 0 0 x106 := rg_eq_l h107 (⟨by decide, by decide⟩ : Rg 0 0 0) q108
    exact absurd (rg_w h1) (((hx105.2) _ rfl).2 q108)
  · skip
    have h110 : Rg 1 1 x106 := rg_ne_lo h107 (⟨by decide, by decide⟩ : Rg 0 0 0) q108
    have h111 : Rg 0 23 x1 := (((hx105.2) _ rfl).1 q108)
    refine tt_iconst (v := 0) dX10_any_8 rfl ?_
    refine tt_goto (tgt := 13) dX10_any_9 rfl ?_
    refine gt_VI (As := [.int 0]) dX10_any_13 ca_X10_74 ⟨by decide, by decide⟩ h0 hA rfl (Nat.le_of_ble_eq_true rfl) (Nat.le_of_ble_eq_true rfl) (by decide) (cs_X10_refused hG (oa_af h0 hA) (fun _ _ _ _ h => h)) rfl (fun _ h => nomatch h) (fun S112 x117 h118 hx116 hG113 hB114 hA115 => ?_)
    obtain rfl := (hx116.1 _ rfl).trans (show bI (0 < (0 : Int32)) = 0 by decide)
    refine tt_if_eq (tgt := 20) dX10_any_16 rfl (fun _ => ?_) (fun q => absurd q (by decide))
    refine tt_aload_n (j := 0) dX10_any_20 rfl ?_
    obtain ⟨b119, hr120, ho121⟩ := gi_R (k := 643) hG h0 32 4940
    refine gt_gR (id := 643) dX10_any_21 fl_10_13 rfl rfl h0 hA115 hr120 ?_
    refine tt_sipush (v := 4880) dX10_any_24 rfl ?_
    refine tt_iload_n (j := 1) dX10_any_27 rfl ?_
    refine tt_iadd dX10_any_28 ?_
    refine tt_iconst (v := 2) dX10_any_29 rfl ?_
    refine gt_iS dX10_any_30 ho121 hA115 (Or.inl (by decide)) (rg_in (rg_add (lo := 4880) (hi := 4903) (⟨by decide, by decide⟩ : Rg 4880 4880 4880) h111)) hG113 (by decide) (fun S122 hG123 hA124 e125 f126 er127 => ?_)
    exact tt_vreturn dX10_any_31 rfl (hP _ _ _ _ ⟨hG123, hA124, Or.inl ⟨_, rfl, rfl, ((congrFun (congrFun e125 640) o0).trans hx116.2), rfl, rfl⟩⟩)
set_option maxHeartbeats 4000000 in
theorem cn_X9_requireLocation_any {xi : SX} {S : Hp} {E : List Nat} {kc nc : Nat} {P : Po} {x0 : Int32} (hG : GI S E) (hq : ¬ Rg 0 23 x0) (hkc : 1 ≤ kc) (hnc : 6 ≤ nc) (hP : ∀ r T x y, PV E [] S kc nc (fun _ => False) (fun _ T => T = S) ["java/lang/IllegalArgumentException"] r T x y → P r T x y) : TT xi M_X9_requireLocation 0 [(0, .int x0)] [] S kc nc P := by
  have hA : Af E [] S S := af_rf
  refine tt_iload_n (j := 0) dX9_requireLocation_0 rfl ?_
  refine gt_SIp (As := [.int x0]) dX9_requireLocation_1 ca_X9_167 ⟨by decide, by decide⟩ hA (Nat.le_of_ble_eq_true rfl) (Nat.le_of_ble_eq_true rfl) (by decide) (cs_X9_isLocation hG  (fun _ _ _ _ h => h)) rfl (fun _ h => nomatch h) (fun _ _ q => q.1) (fun x106 h107 hx105 => ?_)
  refine tt_if_ne (tgt := 17) dX9_requireLocation_4 rfl (fun q108 => ?_) (fun q108 => ?_)
  · skip
    have h109 : Rg 1 1 x106 := rg_ne_lo h107 (⟨by decide, by decide⟩ : Rg 0 0 0) q108
    have h110 : Rg 0 23 x0 := (((hx105.2) _ rfl).1 q108)
    exact absurd h110 hq
  · skip
    have h111 : Rg 0 0 x106 := rg_eq_l h107 (⟨by decide, by decide⟩ : Rg 0 0 0) q108
    exact tt_throw th_X9_requireLocation_7 (hP _ _ _ _ ⟨hG, hA, Or.inr ⟨_, List.mem_cons_self, rfl⟩⟩) hkc hnc (by decide)
set_option maxHeartbeats 4000000 in
theorem cn_X9_any {xi : SX} {S : Hp} {E : List Nat} {kc nc : Nat} {P : Po} {o0 : Nat} {x1 : Int32} (hG : GI S E) (h0 : Oa S E 9 0 o0) (hq : ¬ Rg 0 23 x1) (hkc : 1 ≤ kc) (hnc : 6 ≤ nc) (hP : ∀ r T x y, PV E [9994] S kc nc (fun _ => False) ex0 ["java/lang/IllegalArgumentException"] r T x y → P r T x y) : TT xi M_X9_any 0 [(0, .ref o0), (1, .int x1)] [] S kc nc P := by
  have hA : Af E [9994] S S := af_rf
  refine tt_iload_n (j := 1) dX9_any_0 rfl ?_
  exact gt_S (As := [.int x1]) dX9_any_1 ca_X9_77 ⟨by decide, by decide⟩ hA (Nat.le_of_ble_eq_true rfl) (Nat.le_of_ble_eq_true rfl) (by decide) (cn_X9_requireLocation_any hG hq hkc hnc (fun _ _ _ _ h => h)) rfl (fun X hX T g1 g2 => hP _ _ _ _ ⟨g1, g2, Or.inr ⟨X, hX, rfl⟩⟩) (fun _ _ h => h.elim)
set_option maxHeartbeats 4000000 in
theorem cwn_L_any {xi : SX} {S : Hp} {E : List Nat} {P : Po} {o0 : Nat} {x1 : Int32} (hG : GI S E) (h0 : Oa S E 9 0 o0) (hq : ¬ Rg 0 23 x1) (hP : ∀ r T x y, PW E [9994] S (fun z => z = 1) r T x y → P r T x y) : TT xi M_L_any 0 [(0, .ref o0), (1, .int x1)] [] S 1 6 P := by
  have hA : Af E [9994] S S := af_rf
  refine tt_aload_n (j := 0) dL_any_0 rfl ?_
  refine tt_iload_n (j := 1) dL_any_1 rfl ?_
  refine gt_VC1 (As := [.int x1]) dL_any_2 ca_L_21 ⟨by decide, by decide⟩ h0 hA rfl (Nat.le_of_ble_eq_true rfl) (Nat.le_of_ble_eq_true rfl) (by decide) ch_L_any_0 (cn_X9_any hG (oa_af h0 hA) hq (by decide) (by decide) (fun _ _ _ _ h => h)) (fun S108 q109 hG110 hB111 hA112 => ?_) (fun _ _ h => h.elim)
  · skip
    refine tt_astore_n (ks := [0, 1, 2]) (L' := [(2, .ref q109), (0, .ref o0), (1, .int x1)]) dL_any_8 (by decide) rfl ?_
    refine tt_iconst (v := 1) dL_any_9 rfl ?_
    exact tt_ireturn dL_any_10 .int rfl rfl (hP _ _ _ _ ⟨hG110, hA112, _, rfl, rfl⟩)
set_option maxHeartbeats 4000000 in
theorem cn_X10_any {xi : SX} {S : Hp} {E : List Nat} {kc nc : Nat} {P : Po} {o0 : Nat} {x1 : Int32} (hG : GI S E) (h0 : Oa S E 10 0 o0) (hq : ¬ Rg 0 23 x1) (hP : ∀ r T x y, PV E [640, 9989] S kc nc rV (fun v T => (hp_I T 640 o0 = 1)) [] r T x y → P r T x y) : TT xi M_X10_any 0 [(0, .ref o0), (1, .int x1)] [] S kc nc P := by
  have hA : Af E [640, 9989] S S := af_rf
  refine tt_aload_n (j := 0) dX10_any_0 rfl ?_
  refine tt_iload_n (j := 1) dX10_any_1 rfl ?_
  refine gt_SIp (As := [.int x1]) dX10_any_2 ca_X10_310 ⟨by decide, by decide⟩ hA (Nat.le_of_ble_eq_true rfl) (Nat.le_of_ble_eq_true rfl) (by decide) (cs_X10_isPlace hG  (fun _ _ _ _ h => h)) rfl (fun _ h => nomatch h) (fun _ _ q => q.1) (fun x106 h107 hx105 => ?_)
  refine tt_if_eq (tgt := 12) dX10_any_5 rfl (fun q108 => ?_) (fun q108 => ?_)
  · skip
    have h109 : Rg 0 0 x106 := rg_eq_l h107 (⟨by decide, by decide⟩ : Rg 0 0 0) q108
    refine tt_iconst (v := 1) dX10_any_12 rfl ?_
    refine gt_VI (As := [.int 1]) dX10_any_13 ca_X10_74 ⟨by decide, by decide⟩ h0 hA rfl (Nat.le_of_ble_eq_true rfl) (Nat.le_of_ble_eq_true rfl) (by decide) (cs_X10_refused hG (oa_af h0 hA) (fun _ _ _ _ h => h)) rfl (fun _ h => nomatch h) (fun S110 x115 h116 hx114 hG111 hB112 hA113 => ?_)
    obtain rfl := (hx114.1 _ rfl).trans (show bI (0 < (1 : Int32)) = 1 by decide)
    refine tt_if_eq (tgt := 20) dX10_any_16 rfl (fun q => absurd q (by decide)) (fun _ => ?_)
    exact tt_vreturn dX10_any_19 rfl (hP _ _ _ _ ⟨hG111, hA113, Or.inl ⟨_, rfl, rfl, hx114.2, rfl, rfl⟩⟩)
  · skip
    have h117 : Rg 1 1 x106 := rg_ne_lo h107 (⟨by decide, by decide⟩ : Rg 0 0 0) q108
    have h118 : Rg 0 23 x1 := (((hx105.2) _ rfl).1 q108)
    exact absurd h118 hq
set_option maxHeartbeats 4000000 in
theorem co_X9_requireLocation_put {xi : SX} {S : Hp} {E : List Nat} {kc nc : Nat} {P : Po} {x0 : Int32} (hG : GI S E) (h0 : Rg 0 23 x0) (hP : ∀ r T x y, PV E [] S kc nc rV (fun _ T => T = S) [] r T x y → P r T x y) : TT xi M_X9_requireLocation 0 [(0, .int x0)] [] S kc nc P := by
  have hA : Af E [] S S := af_rf
  refine tt_iload_n (j := 0) dX9_requireLocation_0 rfl ?_
  refine gt_SIp (As := [.int x0]) dX9_requireLocation_1 ca_X9_167 ⟨by decide, by decide⟩ hA (Nat.le_of_ble_eq_true rfl) (Nat.le_of_ble_eq_true rfl) (by decide) (cs_X9_isLocation hG  (fun _ _ _ _ h => h)) rfl (fun _ h => nomatch h) (fun _ _ q => q.1) (fun x106 h107 hx105 => ?_)
  refine tt_if_ne (tgt := 17) dX9_requireLocation_4 rfl (fun q108 => ?_) (fun q108 => ?_)
  · skip
    have h109 : Rg 1 1 x106 := rg_ne_lo h107 (⟨by decide, by decide⟩ : Rg 0 0 0) q108
    have h110 : Rg 0 23 x0 := (((hx105.2) _ rfl).1 q108)
    exact tt_vreturn dX9_requireLocation_17 rfl (hP _ _ _ _ ⟨hG, hA, Or.inl ⟨_, rfl, rfl, rfl, rfl, rfl⟩⟩)
  · skip
    have h111 : Rg 0 0 x106 := rg_eq_l h107 (⟨by decide, by decide⟩ : Rg 0 0 0) q108
    exact absurd (rg_w h0) (((hx105.2) _ rfl).2 q108)
set_option maxHeartbeats 4000000 in
theorem co_X9_put {xi : SX} {S : Hp} {E : List Nat} {kc nc : Nat} {P : Po} {o0 : Nat} {x1 : Int32} {y2 : Int64} (hG : GI S E) (h0 : Oa S E 9 0 o0) (h1 : Rg 0 23 x1) (hP : ∀ r T x y, PV E [9992] S kc nc rV ex0 [] r T x y → P r T x y) : TT xi M_X9_put 0 [(0, .ref o0), (1, .int x1), (2, .long y2)] [] S kc nc P := by
  have hA : Af E [9992] S S := af_rf
  refine tt_iload_n (j := 1) dX9_put_0 rfl ?_
  refine gt_Svp (As := [.int x1]) dX9_put_1 ca_X9_77 ⟨by decide, by decide⟩ hA (Nat.le_of_ble_eq_true rfl) (Nat.le_of_ble_eq_true rfl) (by decide) (co_X9_requireLocation_put hG (rg_w h1) (fun _ _ _ _ h => h)) rfl (fun _ h => nomatch h) (fun _ _ q => q) (fun hx105 => ?_)
  refine tt_aload_n (j := 0) dX9_put_4 rfl ?_
  obtain ⟨b106, hr107, ho108⟩ := gi_R (k := 580) hG h0 6 0
  refine gt_gR (id := 580) dX9_put_5 fl_9_44 rfl rfl h0 hA hr107 ?_
  refine tt_iload_n (j := 1) dX9_put_8 rfl ?_
  refine tt_lload_n (j := 2) dX9_put_9 rfl ?_
  refine gt_Vv (As := [.int x1, .long y2]) dX9_put_10 ca_X9_142 ⟨by decide, by decide⟩ ho108 hA rfl (Nat.le_of_ble_eq_true rfl) (Nat.le_of_ble_eq_true rfl) (by decide) (cs_X6_prepare hG (oa_af ho108 hA) (fun _ _ _ _ h => h)) rfl (fun _ h => nomatch h) (fun S109 hx113 hG110 hB111 hA112 => ?_)
  exact tt_vreturn dX9_put_13 rfl (hP _ _ _ _ ⟨hG110, hA112, Or.inl ⟨_, rfl, rfl, trivial, rfl, rfl⟩⟩)
set_option maxHeartbeats 4000000 in
theorem cwo_L_put {xi : SX} {S : Hp} {E : List Nat} {P : Po} {o0 : Nat} {x1 : Int32} {y2 : Int64} (hG : GI S E) (h0 : Oa S E 9 0 o0) (h1 : Rg 0 23 x1) (hP : ∀ r T x y, PW E [9992] S (fun z => z = 0) r T x y → P r T x y) : TT xi M_L_put 0 [(0, .ref o0), (1, .int x1), (2, .long y2)] [] S 1 6 P := by
  have hA : Af E [9992] S S := af_rf
  refine tt_aload_n (j := 0) dL_put_0 rfl ?_
  refine tt_iload_n (j := 1) dL_put_1 rfl ?_
  refine tt_lload_n (j := 2) dL_put_2 rfl ?_
  refine gt_VC0 (As := [.int x1, .long y2]) dL_put_3 ca_L_41 ⟨by decide, by decide⟩ h0 hA rfl (Nat.le_of_ble_eq_true rfl) (Nat.le_of_ble_eq_true rfl) (by decide) (co_X9_put hG (oa_af h0 hA) (rg_w h1) (fun _ _ _ _ h => h)) (fun S101 v106 hv107 hx105 hG102 hB103 hA104 => ?_)
  obtain rfl : v106 = none := hv107
  show TT xi M_L_put 6 [(0, .ref o0), (1, .int x1), (2, .long y2)] [] S101 1 6 P
  refine tt_goto (tgt := 13) dL_put_6 rfl ?_
  refine tt_iconst (v := 0) dL_put_13 rfl ?_
  exact tt_ireturn dL_put_14 .int rfl rfl (hP _ _ _ _ ⟨hG102, hA104, _, rfl, rfl⟩)
set_option maxHeartbeats 4000000 in
theorem co_X10_put {xi : SX} {S : Hp} {E : List Nat} {kc nc : Nat} {P : Po} {o0 : Nat} {x1 : Int32} {y2 : Int64} (hG : GI S E) (h0 : Oa S E 10 0 o0) (h1 : Rg 0 23 x1) (hP : ∀ r T x y, PV E [640, 9991] S kc nc rV (fun v T => (hp_I T 640 o0 = 0)) [] r T x y → P r T x y) : TT xi M_X10_put 0 [(0, .ref o0), (1, .int x1), (2, .long y2)] [] S kc nc P := by
  have hA : Af E [640, 9991] S S := af_rf
  refine tt_aload_n (j := 0) dX10_put_0 rfl ?_
  refine tt_iload_n (j := 1) dX10_put_1 rfl ?_
  refine gt_SIp (As := [.int x1]) dX10_put_2 ca_X10_310 ⟨by decide, by decide⟩ hA (Nat.le_of_ble_eq_true rfl) (Nat.le_of_ble_eq_true rfl) (by decide) (cs_X10_isPlace hG  (fun _ _ _ _ h => h)) rfl (fun _ h => nomatch h) (fun _ _ q => q.1) (fun x106 h107 hx105 => ?_)
  refine tt_if_eq (tgt := 12) dX10_put_5 rfl (fun q108 => ?_) (fun q108 => ?_)
  · skip
    have h109 : Rg 0 0 x106 := rg_eq_l h107 (⟨by decide, by decide⟩ : Rg 0 0 0) q108
    exact absurd (rg_w h1) (((hx105.2) _ rfl).2 q108)
  · skip
    have h110 : Rg 1 1 x106 := rg_ne_lo h107 (⟨by decide, by decide⟩ : Rg 0 0 0) q108
    have h111 : Rg 0 23 x1 := (((hx105.2) _ rfl).1 q108)
    refine tt_iconst (v := 0) dX10_put_8 rfl ?_
    refine tt_goto (tgt := 13) dX10_put_9 rfl ?_
    refine gt_VI (As := [.int 0]) dX10_put_13 ca_X10_74 ⟨by decide, by decide⟩ h0 hA rfl (Nat.le_of_ble_eq_true rfl) (Nat.le_of_ble_eq_true rfl) (by decide) (cs_X10_refused hG (oa_af h0 hA) (fun _ _ _ _ h => h)) rfl (fun _ h => nomatch h) (fun S112 x117 h118 hx116 hG113 hB114 hA115 => ?_)
    obtain rfl := (hx116.1 _ rfl).trans (show bI (0 < (0 : Int32)) = 0 by decide)
    refine tt_if_eq (tgt := 20) dX10_put_16 rfl (fun _ => ?_) (fun q => absurd q (by decide))
    refine tt_aload_n (j := 0) dX10_put_20 rfl ?_
    obtain ⟨b119, hr120, ho121⟩ := gi_R (k := 665) hG h0 33 24
    refine gt_gR (id := 665) dX10_put_21 fl_10_49 rfl rfl h0 hA115 hr120 ?_
    refine tt_iload_n (j := 1) dX10_put_24 rfl ?_
    refine tt_lload_n (j := 2) dX10_put_25 rfl ?_
    refine gt_lS dX10_put_26 ho121 hA115 (rg_in h111) hG113 (Or.inl (by decide)) (Or.inr (ow_mk 9991 (k := 665) h0 hr120)) (fun S122 hG123 hA124 e125 f126 er127 => ?_)
    exact tt_vreturn dX10_put_27 rfl (hP _ _ _ _ ⟨hG123, hA124, Or.inl ⟨_, rfl, rfl, ((congrFun (congrFun e125 640) o0).trans hx116.2), rfl, rfl⟩⟩)
set_option maxHeartbeats 4000000 in
theorem cn_X9_requireLocation_put {xi : SX} {S : Hp} {E : List Nat} {kc nc : Nat} {P : Po} {x0 : Int32} (hG : GI S E) (hq : ¬ Rg 0 23 x0) (hkc : 1 ≤ kc) (hnc : 6 ≤ nc) (hP : ∀ r T x y, PV E [] S kc nc (fun _ => False) (fun _ T => T = S) ["java/lang/IllegalArgumentException"] r T x y → P r T x y) : TT xi M_X9_requireLocation 0 [(0, .int x0)] [] S kc nc P := by
  have hA : Af E [] S S := af_rf
  refine tt_iload_n (j := 0) dX9_requireLocation_0 rfl ?_
  refine gt_SIp (As := [.int x0]) dX9_requireLocation_1 ca_X9_167 ⟨by decide, by decide⟩ hA (Nat.le_of_ble_eq_true rfl) (Nat.le_of_ble_eq_true rfl) (by decide) (cs_X9_isLocation hG  (fun _ _ _ _ h => h)) rfl (fun _ h => nomatch h) (fun _ _ q => q.1) (fun x106 h107 hx105 => ?_)
  refine tt_if_ne (tgt := 17) dX9_requireLocation_4 rfl (fun q108 => ?_) (fun q108 => ?_)
  · skip
    have h109 : Rg 1 1 x106 := rg_ne_lo h107 (⟨by decide, by decide⟩ : Rg 0 0 0) q108
    have h110 : Rg 0 23 x0 := (((hx105.2) _ rfl).1 q108)
    exact absurd h110 hq
  · skip
    have h111 : Rg 0 0 x106 := rg_eq_l h107 (⟨by decide, by decide⟩ : Rg 0 0 0) q108
    exact tt_throw th_X9_requireLocation_7 (hP _ _ _ _ ⟨hG, hA, Or.inr ⟨_, List.mem_cons_self, rfl⟩⟩) hkc hnc (by decide)
set_option maxHeartbeats 4000000 in
theorem cn_X9_put {xi : SX} {S : Hp} {E : List Nat} {kc nc : Nat} {P : Po} {o0 : Nat} {x1 : Int32} {y2 : Int64} (hG : GI S E) (h0 : Oa S E 9 0 o0) (hq : ¬ Rg 0 23 x1) (hkc : 1 ≤ kc) (hnc : 6 ≤ nc) (hP : ∀ r T x y, PV E [9992] S kc nc (fun _ => False) ex0 ["java/lang/IllegalArgumentException"] r T x y → P r T x y) : TT xi M_X9_put 0 [(0, .ref o0), (1, .int x1), (2, .long y2)] [] S kc nc P := by
  have hA : Af E [9992] S S := af_rf
  refine tt_iload_n (j := 1) dX9_put_0 rfl ?_
  exact gt_S (As := [.int x1]) dX9_put_1 ca_X9_77 ⟨by decide, by decide⟩ hA (Nat.le_of_ble_eq_true rfl) (Nat.le_of_ble_eq_true rfl) (by decide) (cn_X9_requireLocation_put hG hq hkc hnc (fun _ _ _ _ h => h)) rfl (fun X hX T g1 g2 => hP _ _ _ _ ⟨g1, g2, Or.inr ⟨X, hX, rfl⟩⟩) (fun _ _ h => h.elim)
set_option maxHeartbeats 4000000 in
theorem cwn_L_put {xi : SX} {S : Hp} {E : List Nat} {P : Po} {o0 : Nat} {x1 : Int32} {y2 : Int64} (hG : GI S E) (h0 : Oa S E 9 0 o0) (hq : ¬ Rg 0 23 x1) (hP : ∀ r T x y, PW E [9992] S (fun z => z = 1) r T x y → P r T x y) : TT xi M_L_put 0 [(0, .ref o0), (1, .int x1), (2, .long y2)] [] S 1 6 P := by
  have hA : Af E [9992] S S := af_rf
  refine tt_aload_n (j := 0) dL_put_0 rfl ?_
  refine tt_iload_n (j := 1) dL_put_1 rfl ?_
  refine tt_lload_n (j := 2) dL_put_2 rfl ?_
  refine gt_VC1 (As := [.int x1, .long y2]) dL_put_3 ca_L_41 ⟨by decide, by decide⟩ h0 hA rfl (Nat.le_of_ble_eq_true rfl) (Nat.le_of_ble_eq_true rfl) (by decide) ch_L_put_0 (cn_X9_put hG (oa_af h0 hA) hq (by decide) (by decide) (fun _ _ _ _ h => h)) (fun S108 q109 hG110 hB111 hA112 => ?_) (fun _ _ h => h.elim)
  · skip
    refine tt_astore (ks := [0, 1, 2, 3]) (L' := [(4, .ref q109), (0, .ref o0), (1, .int x1), (2, .long y2)]) dL_put_9 (by decide) rfl ?_
    refine tt_iconst (v := 1) dL_put_11 rfl ?_
    exact tt_ireturn dL_put_12 .int rfl rfl (hP _ _ _ _ ⟨hG110, hA112, _, rfl, rfl⟩)
set_option maxHeartbeats 4000000 in
theorem cn_X10_put {xi : SX} {S : Hp} {E : List Nat} {kc nc : Nat} {P : Po} {o0 : Nat} {x1 : Int32} {y2 : Int64} (hG : GI S E) (h0 : Oa S E 10 0 o0) (hq : ¬ Rg 0 23 x1) (hP : ∀ r T x y, PV E [640, 9991] S kc nc rV (fun v T => (hp_I T 640 o0 = 1)) [] r T x y → P r T x y) : TT xi M_X10_put 0 [(0, .ref o0), (1, .int x1), (2, .long y2)] [] S kc nc P := by
  have hA : Af E [640, 9991] S S := af_rf
  refine tt_aload_n (j := 0) dX10_put_0 rfl ?_
  refine tt_iload_n (j := 1) dX10_put_1 rfl ?_
  refine gt_SIp (As := [.int x1]) dX10_put_2 ca_X10_310 ⟨by decide, by decide⟩ hA (Nat.le_of_ble_eq_true rfl) (Nat.le_of_ble_eq_true rfl) (by decide) (cs_X10_isPlace hG  (fun _ _ _ _ h => h)) rfl (fun _ h => nomatch h) (fun _ _ q => q.1) (fun x106 h107 hx105 => ?_)
  refine tt_if_eq (tgt := 12) dX10_put_5 rfl (fun q108 => ?_) (fun q108 => ?_)
  · skip
    have h109 : Rg 0 0 x106 := rg_eq_l h107 (⟨by decide, by decide⟩ : Rg 0 0 0) q108
    refine tt_iconst (v := 1) dX10_put_12 rfl ?_
    refine gt_VI (As := [.int 1]) dX10_put_13 ca_X10_74 ⟨by decide, by decide⟩ h0 hA rfl (Nat.le_of_ble_eq_true rfl) (Nat.le_of_ble_eq_true rfl) (by decide) (cs_X10_refused hG (oa_af h0 hA) (fun _ _ _ _ h => h)) rfl (fun _ h => nomatch h) (fun S110 x115 h116 hx114 hG111 hB112 hA113 => ?_)
    obtain rfl := (hx114.1 _ rfl).trans (show bI (0 < (1 : Int32)) = 1 by decide)
    refine tt_if_eq (tgt := 20) dX10_put_16 rfl (fun q => absurd q (by decide)) (fun _ => ?_)
    exact tt_vreturn dX10_put_19 rfl (hP _ _ _ _ ⟨hG111, hA113, Or.inl ⟨_, rfl, rfl, hx114.2, rfl, rfl⟩⟩)
  · skip
    have h117 : Rg 1 1 x106 := rg_ne_lo h107 (⟨by decide, by decide⟩ : Rg 0 0 0) q108
    have h118 : Rg 0 23 x1 := (((hx105.2) _ rfl).1 q108)
    exact absurd h118 hq
