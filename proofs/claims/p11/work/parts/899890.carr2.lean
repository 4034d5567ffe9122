/-! arriving, in the class: all of it -/
/-- what arriving leaves: long fields of other things, the states of the other points -/
def ARo (S T : Hp) (pa x : Nat) : Prop := (∀ k q, k ∉ jkT → q ∈ hp_L S → hp_J T k q = hp_J S k q) ∧ ∀ j p, j < 200 → j ≠ x → hp_r S pa j = some p → sT T (RR S 320 p) = sT S (RR S 320 p) ∧ sC T (RR S 320 p) = sC S (RR S 320 p)
section CAS
variable {xi : SX} {S S1 T U : Hp} {E ws : List Nat} {kc nc lk pa o0 b st s a i : Nat} {P : Po} {x1 x4 n fr w : Int32} {y1 : Int64} {t : Tb} {f g : Nat → Tr} {r : Rc} {p q : Pt}
/-- one point has got what came -/
theorem ci_pt (hE0 : E = []) (hG : GI S E) (h0 : Oa S E 4 0 lk) (hpa : Oa S E 35 200 pa) (hi : i < 200) (hb : hp_r S pa i = some b) (hC : CTb S pa t) (hf : A24 (sT S (RR S 259 lk)) f) (hr : sC S (RR S 259 lk) = r) (hA : Af E [321, 322, 515, 516, 517, 9987, 9994] S T) (hT : APo E S T b (RR S 320 b) (A_pt (wdn x4 x1 (hp_I S 321 b)) (hp_I S 321 b, hp_I S 322 b, sT S (RR S 320 b), sC S (RR S 320 b)) (sT S (RR S 259 lk)) (sC S (RR S 259 lk)))) : CTb T pa (upP t i (A_pt (wdn x4 x1 (t i).1) (t i) f r)) ∧ NE S T ∧ ARo S T pa i := by
  obtain ⟨a0, a1, a2, a3, a4, a5, a6⟩ := hT
  have hR := rk_gi hE0 hG
  have h5 := pt_O hG hpa hb
  have er : hp_r T = hp_r S := (hA.2.2.2.1 (by decide)).2
  obtain ⟨g1, g2, g3⟩ := (hC.2.2 i hi).2 b hb
  rw [g1, hr] at a1 a2 a3 a4
  obtain ⟨e1, e2, e3, e4⟩ := pt_eq (w := wdn x4 x1 (t i).1) (r := r) (p := ((t i).1, hp_I S 322 b, sT S (RR S 320 b), sC S (RR S 320 b))) (q := t i) rfl g2 g3 hf
  have oth : ∀ j p, j < 200 → j ≠ i → hp_r S pa j = some p → p ≠ b ∧ sT T (RR S 320 p) = sT S (RR S 320 p) ∧ sC T (RR S 320 p) = sC S (RR S 320 p) := fun j p hj ej hp => by
    have hpb : p ≠ b := fun z => ej (hC.2.1 j i b hj hi (z ▸ hp) hb)
    have h5p := pt_O hG hpa hp
    exact ⟨hpb, a6 (RR S 320 p) (rk_O (k := 320) hG hR h5p 8 0) (uq_ne (k := 320) (l := 320) hC.1 hR h5p h5 (Or.inl hpb) 8 8 (c := 0) (d := 0))⟩
  refine ⟨⟨uq_af hC.1 hA, fun j k p hj hk => by rw [er]; exact hC.2.1 j k p hj hk, fun j hj => ?_⟩, fun x hx hk => ?_, fun k q hk _ => a0 k q hk, fun j p hj ej hp => (oth j p hj ej hp).2⟩
  · rw [er]
    unfold upP
    by_cases ej : j = i
    · rw [if_pos ej, ej]
      refine ⟨fun z => (by rw [hb] at z; cases z), fun p hp => ?_⟩
      have ep : p = b := Option.some.inj (hp.symm.trans hb)
      rw [ep, rr_af hA h5.1]
      refine ⟨a1.trans e1, a2.trans e2, fun _ => ⟨fun k hk => (a3 k hk).trans (e3 k hk), a4.trans e4⟩⟩
    · rw [if_neg ej]
      refine ⟨(hC.2.2 j hj).1, fun p hp => ?_⟩
      have h5p := pt_O hG hpa hp
      obtain ⟨hpb, y1, y2⟩ := oth j p hj ej hp
      obtain ⟨z1, z2⟩ := a5 p hpb
      rw [z1, z2, rr_af hA h5p.1, y1, y2]
      exact (hC.2.2 j hj).2 p hp
  · have h9 := en_O hE0 hG hx hk
    exact a6 _ (rk_O (k := 578) hG hR h9 8 0) (uq_ne (k := 578) (l := 320) hC.1 hR h9 h5 (Or.inr (by decide)) 8 8 (c := 0) (d := 0))
theorem rr_cn (h : Cn S T) (hx : s ∈ hp_L S) {k : Nat} : RR T k s = RR S k s := by unfold RR; rw [(h.2.1 s hx).1 k]
theorem st_cn (hE0 : E = []) (hG : GI S E) (h : Cn S T) (h2 : Oa S E 8 0 s) : sT T s = sT S s ∧ sC T s = sC S s := by
  have hR := rk_gi hE0 hG
  have o1 := rk_O (k := 512) hG hR h2 33 24
  have o2 := rk_O (k := 513) hG hR h2 33 24
  have o3 := rk_O (k := 514) hG hR h2 33 24
  have e1 : hp_j T (RR S 512 s) = hp_j S (RR S 512 s) := h.2.2.2.2.1.1 _ o1.1 (o1.2.2.2 (by decide))
  have e2 : hp_j T (RR S 513 s) = hp_j S (RR S 513 s) := h.2.2.2.2.1.1 _ o2.1 (o2.2.2.2 (by decide))
  have e3 : hp_j T (RR S 514 s) = hp_j S (RR S 514 s) := h.2.2.2.2.1.1 _ o3.1 (o3.2.2.2 (by decide))
  refine ⟨?_, ?_⟩
  · unfold sT tS
    rw [rr_cn h h2.1, rr_cn h h2.1, rr_cn h h2.1]
    funext i
    show (hp_j T (RR S 512 s) i, hp_j T (RR S 513 s) i, hp_j T (RR S 514 s) i) = (hp_j S (RR S 512 s) i, hp_j S (RR S 513 s) i, hp_j S (RR S 514 s) i)
    rw [e1, e2, e3]
  · show (hp_I T 515 s, hp_I T 516 s, hp_I T 517 s, hp_J T 518 s) = (hp_I S 515 s, hp_I S 516 s, hp_I S 517 s, hp_J S 518 s)
    rw [(h.2.1 s h2.1).2, (h.2.1 s h2.1).2, (h.2.1 s h2.1).2, h.2.2.2.2.2.1.1 (fun z => nomatch z) 518 (by decide) s h2.1]
/-- a point has come -/
theorem ci_new (hE0 : E = []) (hG : GI S E) (hpa : Oa S E 35 200 pa) (hi : i < 200) (hb : hp_r S pa i = none) (hC : CTb S pa t) (ha : a ∉ hp_L S) (h : Cn S T) (hZ : Zf T a []) (hJ : HJ S T) : CTb (sp_r T pa (va_up (hp_r T pa) i (some a))) pa t ∧ NE S (sp_r T pa (va_up (hp_r T pa) i (some a))) ∧ ARo S (sp_r T pa (va_up (hp_r T pa) i (some a))) pa i := by
  have hR := rk_gi hE0 hG
  have eR : RR (sp_r T pa (va_up (hp_r T pa) i (some a))) = RR T := by unfold RR; rw [hq_R_r]
  have eg : sg (sp_r T pa (va_up (hp_r T pa) i (some a))) = sg T := by unfold sg; rw [hq_J_r, hq_j_r, hq_I_r, hq_i_r]
  have eT : ∀ s, sT (sp_r T pa (va_up (hp_r T pa) i (some a))) s = sT T s := fun s => by unfold sT; rw [eR, eg]
  have eC : ∀ s, sC (sp_r T pa (va_up (hp_r T pa) i (some a))) s = sC T s := fun s => by unfold sC; rw [eg]
  have hpr : ∀ j, hp_r (sp_r T pa (va_up (hp_r T pa) i (some a))) pa j = if j = i then some a else hp_r S pa j := fun j => by
    rw [hq_r_r, va_up_self, h.2.2.1 pa hpa.1]
    by_cases e : j = i
    · rw [if_pos e, e, va_up_self]
    · rw [if_neg e, va_up_ne _ _ e]
  have old : ∀ j p, hp_r S pa j = some p → p ≠ a := fun j p hp e => ha (e ▸ (pt_O hG hpa hp).1)
  refine ⟨⟨uq_eq (h.2.2.2.2.2.2.1 hC.1) (hq_L_r ..) (fun _ _ => by rw [hq_K_r]) (fun _ _ _ => by rw [hq_R_r]), fun j k p hj hk e1 e2 => ?_, fun j hj => ?_⟩, fun x hx hk => ?_, fun k q _ hq => by rw [hq_J_r]; exact hJ k q hq, fun j p _ _ hp => by rw [eT, eC]; exact st_cn hE0 hG h (rk_O (k := 320) hG hR (pt_O hG hpa hp) 8 0)⟩
  · rw [hpr] at e1 e2
    by_cases z1 : j = i
    · by_cases z2 : k = i
      · rw [z1, z2]
      · rw [if_pos z1] at e1
        rw [if_neg z2] at e2
        exact absurd (Option.some.inj e1).symm (old k p e2)
    · by_cases z2 : k = i
      · rw [if_neg z1] at e1
        rw [if_pos z2] at e2
        exact absurd (Option.some.inj e2).symm (old j p e1)
      · rw [if_neg z1] at e1
        rw [if_neg z2] at e2
        exact hC.2.1 j k p hj hk e1 e2
  · rw [hpr]
    by_cases z : j = i
    · rw [if_pos z, z]
      obtain ⟨g1, g2⟩ := (hC.2.2 i hi).1 hb
      refine ⟨(fun y => nomatch y), fun p hp => ?_⟩
      have ep : p = a := (Option.some.inj hp).symm
      rw [ep, hq_I_r, hZ 321 (fun q => nomatch q), hZ 322 (fun q => nomatch q), g1, g2]
      exact ⟨rfl, rfl, fun y => by rcases y with y | y <;> exact absurd rfl y⟩
    · rw [if_neg z]
      refine ⟨(hC.2.2 j hj).1, fun p hp => ?_⟩
      have h5p := pt_O hG hpa hp
      obtain ⟨y1, y2⟩ := st_cn hE0 hG h (rk_O (k := 320) hG hR h5p 8 0)
      rw [eR, eT, eC, hq_I_r, (h.2.1 p h5p.1).2, (h.2.1 p h5p.1).2, rr_cn h h5p.1, y1, y2]
      exact (hC.2.2 j hj).2 p hp
  · rw [eT, eC]
    exact st_cn hE0 hG h (rk_O (k := 578) hG hR (en_O hE0 hG hx hk) 8 0)
set_option maxHeartbeats 4000000 in
theorem ck_arrive (hE0 : E = []) (hG : GI S E) (h0 : Oa S E 4 0 lk) (hpa : hp_R S 258 lk = some pa) (hkc : 5 * nl (hp_r S pa) ≤ kc) (hnc : 82 * nl (hp_r S pa) ≤ nc) (hC : CTb S pa t) (hn : hp_I S 65 (RR S 256 lk) = n) (hf : A24 (sT S (RR S 259 lk)) f) (hr : sC S (RR S 259 lk) = r) (hP : ∀ r1 T x y, PB E [321, 322, 515, 516, 517, 9987, 9994, 9999] S pa kc nc rV (fun _ T => CTb T pa (A_arr n t x1 y1 f r) ∧ NE S T ∧ ∀ z, (InC n y1 → z = y1.toInt32.toNatClampNeg) → ARo S T pa z) r1 T x y → P r1 T x y) : TT xi M_X4_arrive 0 [(0, .ref lk), (1, .int x1), (2, .long y1)] [] S kc nc P := by
  have hA : Af E [321, 322, 515, 516, 517, 9987, 9994, 9999] S S := af_rf
  have hR := rk_gi hE0 hG
  have ho1 := rk_O (k := 256) hG hR h0 1 0
  have hr1 := rk_R (k := 256) hR h0 1 0
  obtain ⟨b2, hr2, ho2⟩ := gi_R (k := 258) hG h0 35 200
  obtain rfl : b2 = pa := Option.some.inj (hr2.symm.trans hpa)
  have no : ¬ InC n y1 → P (.inl none) S kc nc := fun h => hP _ _ _ _ ⟨hG, hA, bd_rf, _, rfl, rfl, by
    unfold A_arr
    rw [if_neg h]
    exact ⟨hC, ne_rf, fun _ _ => ⟨fun _ _ _ _ => rfl, fun _ _ _ _ _ => ⟨rfl, rfl⟩⟩⟩⟩
  refine tt_aload_n (j := 0) dX4_arrive_0 rfl ?_
  refine gt_gR (id := 256) dX4_arrive_1 fl_4_51 rfl rfl h0 hA hr1 ?_
  refine tt_lload_n (j := 2) dX4_arrive_4 rfl ?_
  refine gt_VIp (As := [.long y1]) dX4_arrive_5 ca_X4_131 ⟨by decide, by decide⟩ ho1 hA rfl (Nat.le_of_ble_eq_true rfl) (Nat.le_of_ble_eq_true rfl) (by decide) (ck_holds hG (oa_af ho1 hA) (fun _ _ _ _ h => h)) rfl (fun _ h => nomatch h) (fun _ _ q => q.1) (fun z hz hx => ?_)
  have hin := hx.2 z rfl
  rw [hn] at hin
  refine tt_if_eq (tgt := 19) dX4_arrive_8 rfl (fun q => ?_) (fun q => ?_)
  · exact tt_vreturn dX4_arrive_19 rfl (no (fun h => hin.mpr h q))
  have hc : InC n y1 := hin.mp q
  have hn2 : Rg 0 200 n := by rw [← hn]; exact gi_I (k := 65) hG ho1 0 200
  have hy : Rl 0 199 y1 := by
    have l1 := mt Int64.lt_iff_toInt_lt.mpr hc.1
    have l2 := Int64.lt_iff_toInt_lt.mp hc.2
    rw [Int32.toInt_toInt64] at l2
    rw [show (0 : Int64).toInt = 0 from rfl] at l1
    have := hn2.2
    exact ⟨by omega, by omega⟩
  refine tt_lload_n (j := 2) dX4_arrive_11 rfl ?_
  refine tt_ldc2 (v := 200) dX4_arrive_12 kl_4_135 ?_
  refine tt_lcmp dX4_arrive_15 ?_
  refine tt_if_lt (tgt := 20) dX4_arrive_16 rfl (fun q2 => ?_) (fun q2 => ?_)
  rotate_left
  · have l2 := Int64.le_iff_toInt_le.mp (lc_lt_f q2)
    rw [show (200 : Int64).toInt = 200 from rfl] at l2
    have := hy.2
    omega
  refine tt_lload_n (j := 2) dX4_arrive_20 rfl ?_
  refine tt_l2i dX4_arrive_21 ?_
  have hi : Rg 0 199 (y1 : Int64).toInt32 := rl_l2i hy
  have hAr : A_arr n t x1 y1 f r = upP t y1.toInt32.toNatClampNeg (A_pt (wdn y1.toInt32 x1 (t y1.toInt32.toNatClampNeg).1) (t y1.toInt32.toNatClampNeg) f r) := by
    unfold A_arr
    rw [if_pos hc]
  rw [hAr] at hP
  generalize (y1 : Int64).toInt32 = x4 at hi hP ⊢
  have l4 : x4.toNatClampNeg < 200 := rg_cl hi
  refine tt_istore (ks := [0, 1, 2, 3]) (L' := [(4, .int x4), (0, .ref lk), (1, .int x1), (2, .long y1)]) dX4_arrive_22 (by decide) rfl ?_
  refine tt_aload_n (j := 1) dX4_arrive_24 rfl ?_
  refine gt_gR (id := 258) dX4_arrive_25 fl_4_11 rfl rfl h0 hA hr2 ?_
  refine tt_iload (j := 0) dX4_arrive_28 rfl ?_
  refine tt_aaload dX4_arrive_30 (ob_af ho2 hA) (by rw [n_af ho2 hA]; exact rg_in hi) ?_
  have fin : ∀ (S1 : Hp) (b : Nat) (k n : Nat), GI S1 E → Af E [321, 322, 515, 516, 517, 9987, 9994, 9999] S S1 → Bd S b2 kc nc S1 k n → hp_r S1 b2 x4.toNatClampNeg = some b → CTb S1 b2 t → NE S S1 → ARo S S1 b2 x4.toNatClampNeg → (∀ j, j ≠ x4.toNatClampNeg → hp_r S1 b2 j = hp_r S b2 j) → A24 (sT S1 (RR S1 259 lk)) f → sC S1 (RR S1 259 lk) = r → TT xi M_X4_arrive 56 [(0, .ref lk), (1, .int x1), (4, .int x4), (5, .ref b)] [] S1 k n P := by
    intro S1 b k n g1 g2 g3 g4 g5 g6 g9 g10 g7 g8
    refine ck_ar56 hE0 g1 (oa_af h0 g2) (pt_O g1 (oa_af ho2 g2) g4) g5.1 (fun r0 T x y h => ?_)
    obtain ⟨u1, u2, ⟨v, rfl, hv, hw, rfl, rfl⟩ | ⟨X, hX, -⟩⟩ := h
    · obtain rfl : v = none := hv
      obtain ⟨z1, z2, z3, z4⟩ := ci_pt hE0 g1 (oa_af h0 g2) (oa_af ho2 g2) l4 g4 g5 g7 g8 u2 hw
      exact hP _ _ _ _ ⟨u1, af_tr g2 u2, bd_eq g3 (u2.2.2.2.1 (by decide)).2, _, rfl, rfl, z1, ne_tr g6 g2 z2, fun z hz => ⟨fun k q hk hq => (z3 k q hk (g2.1 q hq).1).trans (g9.1 k q hk hq), fun j p hj ej hp => by
        rw [hz hc] at ej
        obtain ⟨y1, y2⟩ := g9.2 j p hj ej hp
        obtain ⟨y3, y4⟩ := z4 j p hj ej (by rw [g10 j ej]; exact hp)
        rw [rr_af g2 (pt_O hG ho2 hp).1] at y3 y4
        exact ⟨y3.trans y1, y4.trans y2⟩⟩⟩
    · cases hX
  cases e : hp_r S b2 x4.toNatClampNeg with
  | some b =>
    refine tt_astore (ks := [0, 1, 2, 3, 4]) (L' := [(5, .ref b), (4, .int x4), (0, .ref lk), (1, .int x1), (2, .long y1)]) dX4_arrive_31 (by decide) rfl ?_
    refine tt_aload (j := 0) dX4_arrive_33 rfl ?_
    refine tt_ifnonnull (tgt := 56) dX4_arrive_35 rfl ?_
    exact tt_loc (ks := [2, 3, 1, 0]) rfl (fin S b kc nc hG hA bd_rf e hC ne_rf ⟨fun _ _ _ _ => rfl, fun _ _ _ _ _ => ⟨rfl, rfl⟩⟩ (fun _ _ => rfl) hf hr)
  | none =>
    refine tt_astoreN (ks := [0, 1, 2, 3, 4]) (L' := [(5, .null), (4, .int x4), (0, .ref lk), (1, .int x1), (2, .long y1)]) dX4_arrive_31 (by decide) rfl ?_
    refine tt_aloadN (j := 0) dX4_arrive_33 rfl ?_
    refine tt_ifnonnullN dX4_arrive_35 ?_
    have hnl := nl_up (b := 0) (rg_cl (n := 200) hi) e
    refine tt_newo (k1 := kc - 1) (n1 := nc - 3) dX4_arrive_38 nl_4_9 (by omega) (by show nc - 3 + 3 ≤ nc; omega) (fun a ha => ?_)
    refine tt_dup dX4_arrive_41 rfl ?_
    refine tt_callIN (As := []) (Mid := fun r T _ _ => r = .inl none ∧ GI T E ∧ Oa T E 5 0 a ∧ Cf a (nw_o S 5 a) T ∧ Zf T a [] ∧ HJ (nw_o S 5 a) T) (k1 := 4) (n1 := 79) (k2 := kc - 5) (n2 := nc - 82) dX4_arrive_42 ca_X4_137 ⟨by decide, by decide⟩ (Nat.le_of_ble_eq_true rfl) (Nat.le_of_ble_eq_true rfl) (by omega) (by omega) (cd_5 (gi_o hG ha) in_o (by rw [hE0]; intro q hq; cases hq) (by rw [hE0]; intro q; cases q) k_o zf_o (kc := 4) (nc := 79) (by decide) (by decide) (fun T u1 u2 u3 u4 u5 => ⟨rfl, u1, u2, u3, u4, u5⟩)) (fun v T x y hw => ?_) (fun X T hw => by obtain ⟨e, -⟩ := hw; cases e)
    obtain ⟨e9, g1, g2, g3, g4, g11⟩ := hw
    cases e9
    have cn := cn_new ha g3
    show TT xi M_X4_arrive 45 [(5, .null), (4, .int x4), (0, .ref lk), (1, .int x1), (2, .long y1)] [.ref a] T (kc - 5) (nc - 82) P
    have hA1 : Af E [321, 322, 515, 516, 517, 9987, 9994, 9999] S T := af_cn cn
    refine tt_astore (ks := [0, 1, 2, 3, 4]) (L' := [(5, .ref a), (4, .int x4), (0, .ref lk), (1, .int x1), (2, .long y1)]) dX4_arrive_45 (by decide) rfl ?_
    refine tt_aload_n (j := 2) dX4_arrive_47 rfl ?_
    refine gt_gR (id := 258) dX4_arrive_48 fl_4_11 rfl rfl h0 hA1 hr2 ?_
    refine tt_iload (j := 1) dX4_arrive_51 rfl ?_
    refine tt_aload (j := 0) dX4_arrive_53 rfl ?_
    refine tt_aastore dX4_arrive_55 (ob_af ho2 hA1) ⟨g2.1, g2.2.2.1⟩ (by rw [n_af ho2 hA1]; exact rg_in hi) ?_
    have er : hp_r T b2 = hp_r S b2 := cn.2.2.1 b2 ho2.1
    have hd := nl_up (b := a) (rg_cl (n := 200) hi) e
    have hJ5 : HJ S T := fun k q hq => by rw [g11 k q (by rw [hq_L_o]; exact List.mem_append_left _ hq), hq_J_o, cr_2, if_neg (fun (z : q = a) => ha (z ▸ hq))]
    obtain ⟨z1, z2, z3⟩ := ci_new hE0 hG ho2 l4 e hC ha cn g4 hJ5
    have hwk := rk_O (k := 259) hG hR h0 8 0
    obtain ⟨w1, w2⟩ := st_cn hE0 hG cn hwk
    have eR : RR (sp_r T b2 (va_up (hp_r T b2) x4.toNatClampNeg (some a))) = RR T := by unfold RR; rw [hq_R_r]
    have eg : sg (sp_r T b2 (va_up (hp_r T b2) x4.toNatClampNeg (some a))) = sg T := by unfold sg; rw [hq_J_r, hq_j_r, hq_I_r, hq_i_r]
    have eT : ∀ s, sT (sp_r T b2 (va_up (hp_r T b2) x4.toNatClampNeg (some a))) s = sT T s := fun s => by unfold sT; rw [eR, eg]
    have eC : ∀ s, sC (sp_r T b2 (va_up (hp_r T b2) x4.toNatClampNeg (some a))) s = sC T s := fun s => by unfold sC; rw [eg]
    refine tt_loc (ks := [2, 3, 1, 0]) rfl (fin _ a (kc - 5) (nc - 82) (gp_r g1 (oa_af ho2 hA1) g2) (af_tr hA1 af_r (fun _ h => h)) ⟨?_, ?_⟩ ?_ z1 z2 z3 (fun j ej => by rw [hq_r_r, va_up_self, va_up_ne _ _ ej, er]) ?_ ?_)
    · rw [hq_r_r, va_up_self, er]
      omega
    · rw [hq_r_r, va_up_self, er]
      omega
    · rw [hq_r_r, va_up_self, va_up_self]
    · rw [eT, eR, rr_cn cn h0.1, w1]; exact hf
    · rw [eC, eR, rr_cn cn h0.1, w2]; exact hr
end CAS
