/-! what is carried from turn to turn: the entry is the same on both sides -/
def EQn (S : Hp) (x m : Nat) : Prop := (∀ k, k < 24 → Gc (cC (RR S) m (sg S) (4880 + k)) ∧ ab (cC (RR S) m (sg S) (4880 + k)) = sT S (RR S 578 x) k) ∧ hp_I S 515 (RR S 578 x) = 0
def LI (S : Hp) (x m pa : Nat) : Prop := UQ S ∧ Ij S pa ∧ EQn S x m
section LIS
variable {xi : SX} {S T T1 T2 : Hp} {ws vs : List Nat} {x m pa lk s : Nat} {l h d : Int64} {loc n : Int32} {bs : Nat → Int32}
theorem trip_ok {c : Ce} (t : Trip l h d) : Gc (J_make c 1 l h d) ∧ ab (J_make c 1 l h d) = (l, h, d) := by
  obtain ⟨t1, t2, t3, t4⟩ := t
  have l1 := mt i_lt.mpr t1
  have l2 := mt i_lt.mpr t2
  have l3 := mt i_lt.mpr t3
  rw [izmB] at l2
  rw [izB] at l3
  have hK : K_become tANY l h d = (l, h, d) := by
    unfold K_become
    rw [if_neg t2, if_neg t3]
    by_cases e : l = h
    · rw [if_pos e] at t4 ⊢
      rw [t4]
    · rw [if_neg e]
  rw [← hK]
  by_cases e : l = h
  · rw [if_pos e] at t4
    subst e t4
    exact mk_ok (Int.le_refl _) (by decide) (by rw [Int.sub_self]; exact Int.dvd_zero _) (fun _ => rfl)
  · rw [if_neg e] at t4
    obtain ⟨p1, p2⟩ := t4
    have q1 := i_lt.mp p1
    rw [show (0 : Int64).toInt = 0 from rfl] at q1
    refine mk_ok (by omega) (by omega) ?_ (fun z => by omega)
    have e1 := (rem_e (x := h - l) q1).2.1
    rw [p2, show (0 : Int64).toInt = 0 from rfl] at e1
    have e2 := e1 (by omega)
    rw [i_sub (by omega) (by omega)] at e2
    exact Int.dvd_of_emod_eq_zero e2
theorem d4_uq (hU : UQ S) (hR : RK S (RR S)) (h : Oa S [] 10 0 m) : D4 (RR S) m :=
  ⟨uq_ne (k := 644) (l := 645) hU hR h h (Or.inr (by decide)) 33 33 (c := 4940) (d := 4940), uq_ne (k := 644) (l := 646) hU hR h h (Or.inr (by decide)) 33 33 (c := 4940) (d := 4940), uq_ne (k := 645) (l := 646) hU hR h h (Or.inr (by decide)) 33 33 (c := 4940) (d := 4940)⟩
theorem d9_uq (hU : UQ S) (hR : RK S (RR S)) (h : Oa S [] 10 0 m) : D9 (RR S) m :=
  ⟨⟨uq_ne (k := 649) (l := 650) hU hR h h (Or.inr (by decide)) 32 32 (c := 202) (d := 202), uq_ne (k := 649) (l := 651) hU hR h h (Or.inr (by decide)) 32 32 (c := 202) (d := 202), uq_ne (k := 650) (l := 651) hU hR h h (Or.inr (by decide)) 32 32 (c := 202) (d := 202)⟩, ⟨uq_ne (k := 643) (l := 649) hU hR h h (Or.inr (by decide)) 32 32 (c := 4940) (d := 202), uq_ne (k := 643) (l := 650) hU hR h h (Or.inr (by decide)) 32 32 (c := 4940) (d := 202), uq_ne (k := 643) (l := 651) hU hR h h (Or.inr (by decide)) 32 32 (c := 4940) (d := 202)⟩, uq_ne (k := 652) (l := 644) hU hR h h (Or.inr (by decide)) 33 33 (c := 202) (d := 4940), uq_ne (k := 652) (l := 645) hU hR h h (Or.inr (by decide)) 33 33 (c := 202) (d := 4940), uq_ne (k := 652) (l := 646) hU hR h h (Or.inr (by decide)) 33 33 (c := 202) (d := 4940)⟩
theorem d8_uq (hU : UQ S) (hR : RK S (RR S)) (h : Oa S [] 10 0 m) : D8 (RR S) m :=
  ⟨uq_ne (k := 647) (l := 648) hU hR h h (Or.inr (by decide)) 32 34 (c := 201) (d := 201), ⟨uq_ne (k := 647) (l := 643) hU hR h h (Or.inr (by decide)) 32 32 (c := 201) (d := 4940), uq_ne (k := 647) (l := 649) hU hR h h (Or.inr (by decide)) 32 32 (c := 201) (d := 202), uq_ne (k := 647) (l := 650) hU hR h h (Or.inr (by decide)) 32 32 (c := 201) (d := 202), uq_ne (k := 647) (l := 651) hU hR h h (Or.inr (by decide)) 32 32 (c := 201) (d := 202)⟩, uq_ne (k := 648) (l := 643) hU hR h h (Or.inr (by decide)) 34 32 (c := 201) (d := 4940), uq_ne (k := 648) (l := 649) hU hR h h (Or.inr (by decide)) 34 32 (c := 201) (d := 202), uq_ne (k := 648) (l := 650) hU hR h h (Or.inr (by decide)) 34 32 (c := 201) (d := 202), uq_ne (k := 648) (l := 651) hU hR h h (Or.inr (by decide)) 34 32 (c := 201) (d := 202)⟩
theorem cC_RR (hA : Af [] ws S T) (hm : m ∈ hp_L S) {τ : SG} {j : Nat} : cC (RR T) m τ j = cC (RR S) m τ j := by
  unfold cC
  rw [rr_af hA hm, rr_af hA hm, rr_af hA hm, rr_af hA hm]
theorem cc_fr (hG : GI S []) (h2 : Oa S [] 10 0 m) (hA : Af [] ws S T) {j : Nat} (hw : 9989 ∉ ws := by decide) : cC (RR T) m (sg T) j = cC (RR S) m (sg S) j := by
  rw [cC_RR hA h2.1]
  exact af_cC hG h2 (rk_gi rfl hG) hA hw
theorem st_af1 (hG : GI S []) (hU : UQ S) (hA : Af [] ws S T) (h2 : Oa S [] 8 0 s) (h94 : 9994 ∉ ws := by decide) : sT T s = sT S s := by
  have hR := rk_gi rfl hG
  have w512 : ∀ r ∈ owT, r.1 = 512 → r.2 ∉ ws := fun r hr e => by rw [(show ∀ r ∈ owT, r.1 = 512 → r.2 = 9994 by decide) r hr e]; exact h94
  have w513 : ∀ r ∈ owT, r.1 = 513 → r.2 ∉ ws := fun r hr e => by rw [(show ∀ r ∈ owT, r.1 = 513 → r.2 = 9994 by decide) r hr e]; exact h94
  have w514 : ∀ r ∈ owT, r.1 = 514 → r.2 ∉ ws := fun r hr e => by rw [(show ∀ r ∈ owT, r.1 = 514 → r.2 = 9994 by decide) r hr e]; exact h94
  have e1 : hp_j T (RR S 512 s) = hp_j S (RR S 512 s) := j24_af (na_uq (k := 512) hU hR h2) (rk_O (k := 512) hG hR h2 33 24) hA w512
  have e2 : hp_j T (RR S 513 s) = hp_j S (RR S 513 s) := j24_af (na_uq (k := 513) hU hR h2) (rk_O (k := 513) hG hR h2 33 24) hA w513
  have e3 : hp_j T (RR S 514 s) = hp_j S (RR S 514 s) := j24_af (na_uq (k := 514) hU hR h2) (rk_O (k := 514) hG hR h2 33 24) hA w514
  unfold sT tS
  rw [rr_af hA h2.1, rr_af hA h2.1, rr_af hA h2.1]
  funext i
  show (hp_j T (RR S 512 s) i, hp_j T (RR S 513 s) i, hp_j T (RR S 514 s) i) = (hp_j S (RR S 512 s) i, hp_j S (RR S 513 s) i, hp_j S (RR S 514 s) i)
  rw [e1, e2, e3]
theorem ij_af (h : Ij S pa) (hA : Af [] ws S T) (hw : 9999 ∉ ws := by decide) : Ij T pa := fun i j p hi hj => by rw [(hA.2.2.2.1 hw).2]; exact h i j p hi hj
theorem li_af (hL : LI S x m pa) (hG : GI S []) (h1 : Oa S [] 9 0 x) (h2 : Oa S [] 10 0 m) (hA : Af [] ws S T) (hw : 9999 ∉ ws := by decide) (h94 : 9994 ∉ ws := by decide) (h15 : 515 ∉ ws := by decide) (h89 : 9989 ∉ ws := by decide) : LI T x m pa := by
  obtain ⟨hU, hI, hE, h5⟩ := hL
  have hen := rk_O (k := 578) hG (rk_gi rfl hG) h1 8 0
  refine ⟨uq_af hU hA hw, ij_af hI hA hw, fun k hk => ?_, ?_⟩
  · rw [cc_fr hG h2 hA h89, rr_af hA h1.1, st_af1 hG hU hA hen h94]
    exact hE k hk
  · rw [rr_af hA h1.1, i_af hen hA h15]
    exact h5
/-- a set of the entry is written on both sides -/
theorem li_gv (hL : LI S x m pa) (hG : GI S []) (h1 : Oa S [] 9 0 x) (h2 : Oa S [] 10 0 m) (hr : Rg 0 23 loc) (hA1 : Af [] [9994] S T1) (e1 : sg T1 = Z_X8_keep (RR S) (sg S) (RR S 578 x) loc l h d) (hG1 : GI T1 []) (hA2 : Af [] ws T1 T2) {c : Ce} (hc : ∀ k, k < 24 → cC (RR T1) m (sg T2) (4880 + k) = if k = loc.toNatClampNeg then c else cC (RR T1) m (sg T1) (4880 + k)) (hgc : Gc c) (hab : ab c = (l, h, d)) (hw : 9999 ∉ ws := by decide) (h94 : 9994 ∉ ws := by decide) (h15 : 515 ∉ ws := by decide) : LI T2 x m pa := by
  obtain ⟨hU, hI, hE, h5⟩ := hL
  have hR := rk_gi rfl hG
  have hen := rk_O (k := 578) hG hR h1 8 0
  have hU1 := uq_af hU hA1
  have e2 : sg T1 = wS (RR S) (sg S) (RR S 578 x) loc.toNatClampNeg (l, h, d) := by
    rw [e1]
    unfold Z_X8_keep
    rw [if_neg (isl_1 hr)]
    rfl
  have s1 : sT T1 (RR S 578 x) = upT (sT S (RR S 578 x)) loc.toNatClampNeg (l, h, d) := by
    rw [← sT_R hA1 hen.1, e2, tS_wS (d3_uq hU hR hen)]
    rfl
  refine ⟨uq_af hU1 hA2 hw, ij_af (ij_af hI hA1) hA2 hw, fun k hk => ?_, ?_⟩
  · rw [cC_RR hA2 (hA1.1 m h2.1).1, hc k hk, rr_af hA2 (hA1.1 x h1.1).1, rr_af hA1 h1.1, st_af1 hG1 hU1 hA2 (oa_af hen hA1) h94, s1]
    unfold upT
    by_cases e : k = loc.toNatClampNeg
    · rw [if_pos e, if_pos e]
      exact ⟨hgc, hab⟩
    · rw [if_neg e, if_neg e, cc_fr hG h2 hA1]
      exact hE k hk
  · rw [rr_af hA2 (hA1.1 x h1.1).1, rr_af hA1 h1.1, i_af (oa_af hen hA1) hA2 h15, i_af hen hA1]
    exact h5
theorem li_given (hL : LI S x m pa) (hG : GI S []) (h1 : Oa S [] 9 0 x) (h2 : Oa S [] 10 0 m) (hr : Rg 0 23 loc) (ht : Trip l h d) (hA1 : Af [] [9994] S T1) (e1 : sg T1 = Z_X8_keep (RR S) (sg S) (RR S 578 x) loc l h d) (hG1 : GI T1 []) (hA2 : Af [] [640, 9989] T1 T2) {S1 : Hp} (hA3 : Af [] [640] T1 S1) (e2 : sg T2 = Z_X10_make (RR T1) (sg S1) m (4880 + loc) 1 l h d) : LI T2 x m pa := by
  have h21 := oa_af h2 hA1
  have hR1 := rk_gi rfl hG1
  have hD := d4_uq (uq_af hL.1 hA1) hR1 h21
  have iN : (4880 + loc).toNatClampNeg = 4880 + loc.toNatClampNeg := ix_add (b := 4880) (B := 4880) rfl hr
  obtain ⟨g1, g2⟩ := trip_ok (c := cC (RR T1) m (sg S1) (4880 + loc).toNatClampNeg) ht
  refine li_gv hL hG h1 h2 hr hA1 e1 hG1 hA2 (fun k hk => ?_) g1 g2
  rw [e2, zj_make hD, iN]
  by_cases e : k = loc.toNatClampNeg
  · rw [if_pos e, e, cC_wC hD]
  · rw [if_neg e, cC_wCn (by omega)]
    exact af_cC hG1 h21 hR1 hA3
theorem li_any (hL : LI S x m pa) (hG : GI S []) (h1 : Oa S [] 9 0 x) (h2 : Oa S [] 10 0 m) (hr : Rg 0 23 loc) (hA1 : Af [] [9994] S T1) (e1 : sg T1 = Z_X8_keep (RR S) (sg S) (RR S 578 x) loc 0 0 (-1)) (hG1 : GI T1 []) (hA2 : Af [] [640, 9989] T1 T2) {S1 : Hp} (hA3 : Af [] [640] T1 S1) (e2 : sg T2 = ui (sg S1) (RR T1 643 m) (4880 + loc).toNatClampNeg 2) : LI T2 x m pa := by
  have h21 := oa_af h2 hA1
  have hR1 := rk_gi rfl hG1
  have hD := d4_uq (uq_af hL.1 hA1) hR1 h21
  have iN : (4880 + loc).toNatClampNeg = 4880 + loc.toNatClampNeg := ix_add (b := 4880) (B := 4880) rfl hr
  refine li_gv (c := (2, (cC (RR T1) m (sg S1) (4880 + loc.toNatClampNeg)).2)) hL hG h1 h2 hr hA1 e1 hG1 hA2 (fun k hk => ?_) (Or.inl rfl) (ab_2 rfl)
  rw [e2, wC_s, iN]
  by_cases e : k = loc.toNatClampNeg
  · rw [if_pos e, e, cC_wC hD]
  · rw [if_neg e, cC_wCn (by omega)]
    exact af_cC hG1 h21 hR1 hA3
theorem ctb_any (hU : UQ S) (hI : Ij S pa) : ∃ t, CTb S pa t := by
  refine ⟨fun i => (hp_r S pa i).elim (0, 0, (fun _ => (0, 0, 0)), (0, 0, 0, 0)) (fun p => (hp_I S 321 p, hp_I S 322 p, sT S (RR S 320 p), sC S (RR S 320 p))), hU, hI, fun i hi => ⟨fun e => ?_, fun p e => ?_⟩⟩
  · dsimp only; rw [e]; exact ⟨rfl, rfl⟩
  · dsimp only; rw [e]; exact ⟨rfl, rfl, fun _ => ⟨fun _ _ => rfl, rfl⟩⟩
/-- both have looked -/
theorem li_look (hL : LI S x m pa) (hG : GI S []) (h1 : Oa S [] 9 0 x) (h2 : Oa S [] 10 0 m) (hA1 : Af [] [193, 194, 195, 196, 197, 198, 199, 200, 201, 202, 203, 204, 321, 322, 515, 516, 517, 9987, 9994, 9999] S T1) {v1 v2 : Int32} (c1 : CSp n bs (TE n (sT S (RR S 578 x)) (sC S (RR S 578 x))) S pa (some (.int v1)) T1) (hG1 : GI T1 []) (hA2 : Af [] [640, 653, 654, 655, 656, 657, 658, 659, 661, 662, 672, 673, 674, 675, 676, 9988, 9989, 9998] T1 T2) (c2 : LKp (RR T1) m n bs (TE n (sT S (RR S 578 x)) (sC S (RR S 578 x))) (sg T1) (some (.int v2)) T2) : v1 = v2 ∧ LI T2 x m pa := by
  obtain ⟨w1, u1, e1, r1, t1, n1⟩ := c1
  obtain ⟨w2, u2, e2, r2, t2, n2⟩ := c2
  have ew1 : v1 = w1 := by injection e1 with z; injection z
  have ew2 : v2 = w2 := by injection e2 with z; injection z
  obtain ⟨hU, hI, hE, h5⟩ := hL
  have hR := rk_gi rfl hG
  have hen := rk_O (k := 578) hG hR h1 8 0
  obtain ⟨q1, q2⟩ := n1 x h1.1 h1.2.2.1
  refine ⟨by rw [ew1, ew2]; exact (res_fn r1 r2).1, uq_af t1.1 hA2, ij_af t1.2.1 hA2, fun k hk => ?_, ?_⟩
  · rw [cC_RR hA2 (hA1.1 m h2.1).1, n2 _ (by omega) (by omega), cc_fr hG h2 hA1, rr_af hA2 (hA1.1 x h1.1).1, rr_af hA1 h1.1, st_af1 hG1 t1.1 hA2 (oa_af hen hA1), q1]
    exact hE k hk
  · rw [rr_af hA2 (hA1.1 x h1.1).1, rr_af hA1 h1.1, i_af (oa_af hen hA1) hA2]
    exact (congrArg (fun z => z.1) q2).trans h5
/-- what the reference wants -/
theorem li_en (hL : LI S x m pa) (hG : GI S []) (h1 : Oa S [] 9 0 x) (h2 : Oa S [] 10 0 m) (hA1 : Af [] [193, 194, 195, 196, 197, 198, 199, 200, 201, 202, 203, 204, 321, 322, 515, 516, 517, 9987, 9994, 9999] S T1) : (∀ k, k < 24 → Gc (cC (RR T1) m (sg T1) (4880 + k)) ∧ ab (cC (RR T1) m (sg T1) (4880 + k)) = sT S (RR S 578 x) k) ∧ (sC S (RR S 578 x)).1 = 0 := by
  obtain ⟨hU, hI, hE, h5⟩ := hL
  refine ⟨fun k hk => ?_, h5⟩
  rw [cc_fr hG h2 hA1]
  exact hE k hk
end LIS
