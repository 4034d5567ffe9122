/-! arriving, in the class -/
section CAR
variable {xi : SX} {S S1 T U : Hp} {E ws : List Nat} {kc nc lk pa o0 b st s a i : Nat} {P : Po} {x1 x4 n fr w : Int32} {y1 : Int64} {t : Tb} {f g : Nat → Tr} {r : Rc} {p q : Pt}
theorem pt_eq (h1 : p.1 = q.1) (h2 : p.2.1 = q.2.1) (hs : (¬ q.1 = 0 ∨ ¬ q.2.1 = 0) → A24 p.2.2.1 q.2.2.1 ∧ p.2.2.2 = q.2.2.2) (hf : A24 f g) : (A_pt w p f r).1 = (A_pt w q g r).1 ∧ (A_pt w p f r).2.1 = (A_pt w q g r).2.1 ∧ A24 (A_pt w p f r).2.2.1 (A_pt w q g r).2.2.1 ∧ (A_pt w p f r).2.2.2 = (A_pt w q g r).2.2.2 := by
  unfold A_pt
  by_cases c : q.1 = 0
  · rw [if_pos c, if_pos (h1.trans c)]
    exact ⟨rfl, rfl, hf, rfl⟩
  · obtain ⟨s1, s2⟩ := hs (Or.inl c)
    rw [if_neg c, if_neg (fun z => c (h1.symm.trans z))]
    have e : ∀ j, j < 24 → K_ab1 w (p.2.2.1 j) (f j) = K_ab1 w (q.2.2.1 j) (g j) := fun j hj => by rw [s1 j hj, hf j hj]
    have eS : Stay w p f r ↔ Stay w q g r := by
      constructor
      · rintro ⟨z1, z2⟩
        refine ⟨fun j hj => ?_, by rw [← s2]; exact z2⟩
        rw [← e j hj, z1 j hj, s1 j hj]
      · rintro ⟨z1, z2⟩
        refine ⟨fun j hj => ?_, by rw [s2]; exact z2⟩
        rw [e j hj, z1 j hj, s1 j hj]
    by_cases d : Stay w q g r
    · rw [if_pos d, if_pos (eS.mpr d), s2]
      exact ⟨h1, h2, e, rfl⟩
    · rw [if_neg d, if_neg (fun z => d (eS.mp z)), s2, h1]
      exact ⟨rfl, rfl, e, rfl⟩
theorem st_uI (hA : Af E ws S T) (hx : s ∈ hp_L S) (hj : mj (sg T) = mj (sg S)) (h5 : mI (sg T) 515 s = mI (sg S) 515 s) (h6 : mI (sg T) 516 s = mI (sg S) 516 s) (h7 : mI (sg T) 517 s = mI (sg S) 517 s) (hJ : mJ (sg T) 518 s = mJ (sg S) 518 s) : sT T s = sT S s ∧ sC T s = sC S s := by
  refine ⟨?_, ?_⟩
  · unfold sT tS
    rw [rr_af hA hx, rr_af hA hx, rr_af hA hx, hj]
  · unfold sC rC
    rw [h5, h6, h7, hJ]
def APo (E : List Nat) (S T : Hp) (b st : Nat) (q : Pt) : Prop := (∀ k o, k ∉ jkT → hp_J T k o = hp_J S k o) ∧ hp_I T 321 b = q.1 ∧ hp_I T 322 b = q.2.1 ∧ A24 (sT T st) q.2.2.1 ∧ sC T st = q.2.2.2 ∧ (∀ p, p ≠ b → hp_I T 321 p = hp_I S 321 p ∧ hp_I T 322 p = hp_I S 322 p) ∧ ∀ s, Oa S E 8 0 s → s ≠ st → sT T s = sT S s ∧ sC T s = sC S s
set_option maxHeartbeats 4000000 in
theorem ck_ar56 (hE0 : E = []) (hG : GI S E) (h0 : Oa S E 4 0 lk) (h5 : Oa S E 5 0 b) (hU : UQ S) (hP : ∀ r T x y, PV E [321, 322, 515, 516, 517, 9987, 9994] S kc nc rV (fun _ T => APo E S T b (RR S 320 b) (A_pt (wdn x4 x1 (hp_I S 321 b)) (hp_I S 321 b, hp_I S 322 b, sT S (RR S 320 b), sC S (RR S 320 b)) (sT S (RR S 259 lk)) (sC S (RR S 259 lk)))) [] r T x y → P r T x y) : TT xi M_X4_arrive 56 [(0, .ref lk), (1, .int x1), (4, .int x4), (5, .ref b)] [] S kc nc P := by
  have hA : Af E [321, 322, 515, 516, 517, 9987, 9994] S S := af_rf
  have hR := rk_gi hE0 hG
  have hst := rk_O (k := 320) hG hR h5 8 0
  have hwk := rk_O (k := 259) hG hR h0 8 0
  have hne : RR S 259 lk ≠ RR S 320 b := uq_ne (k := 259) (l := 320) hU hR h0 h5 (Or.inr (by decide)) 8 8 (c := 0) (d := 0)
  have hD3 := d3_uq hU hR hst
  have hD6 := d6_uq hU hR hst hwk hne
  refine tt_iconst (v := 1) dX4_arrive_56 rfl ?_
  refine tt_istore (ks := [0, 1, 2, 3, 4]) (L' := [(6, .int 1), (0, .ref lk), (1, .int x1), (4, .int x4), (5, .ref b)]) dX4_arrive_57 (by decide) rfl ?_
  refine tt_aload (j := 4) dX4_arrive_59 rfl ?_
  refine tt_getI (id := 321) dX4_arrive_61 fl_4_59 rfl rfl (ob_af h5 hA) ?_
  generalize hq : A_pt (wdn x4 x1 (hp_I S 321 b)) (hp_I S 321 b, hp_I S 322 b, sT S (RR S 320 b), sC S (RR S 320 b)) (sT S (RR S 259 lk)) (sC S (RR S 259 lk)) = q at hP
  have J : ∀ (S1 : Hp) (x : Int32) (g : Nat → Tr) (r : Rc), GI S1 E → Af E [321, 322, 515, 516, 517, 9987, 9994] S S1 → Rg 0 1 x → Fc (RR S) (RR S 320 b) (sg S) (sg S1) → A24 (sT S1 (RR S 320 b)) g → sC S1 (RR S 320 b) = r → (x = 0 → q = (hp_I S 321 b, hp_I S 322 b, g, r)) → (¬ x = 0 → q = (hp_I S 321 b + 1, 1, g, r)) → TT xi M_X4_arrive 113 [(0, .ref lk), (1, .int x1), (4, .int x4), (5, .ref b), (6, .int x)] [] S1 kc nc P := by
    intro S1 x g r hG1 hA1 hx hF hg hr q0 q1
    have hfr : ∀ s, Oa S E 8 0 s → s ≠ RR S 320 b → sT S1 s = sT S s ∧ sC S1 s = sC S s := fun s hs hn => st_fc hE0 hG hU hA1 hst hs hn hF
    have i1 : ∀ p, hp_I S1 321 p = hp_I S 321 p := fun p => hF.2.1 321 p (Or.inl (by decide))
    have i2 : ∀ p, hp_I S1 322 p = hp_I S 322 p := fun p => hF.2.1 322 p (Or.inl (by decide))
    have hJ : ∀ k o, k ∉ jkT → hp_J S1 k o = hp_J S k o := fun k o hk => by
      refine hF.2.2.2 k o ⟨fun e => hk ?_, fun e => hk ?_, fun e => hk ?_⟩ (Or.inl (fun e => hk ?_))
      · subst e; decide
      · subst e; decide
      · subst e; decide
      · subst e; decide
    refine tt_iload (j := 4) dX4_arrive_113 rfl ?_
    refine tt_if_eq (tgt := 135) dX4_arrive_115 rfl (fun z => ?_) (fun z => ?_)
    · refine tt_vreturn dX4_arrive_135 rfl (hP _ _ _ _ ⟨hG1, hA1, Or.inl ⟨_, rfl, rfl, ?_, rfl, rfl⟩⟩)
      rw [q0 z]
      exact ⟨hJ, i1 b, i2 b, hg, hr, fun p _ => ⟨i1 p, i2 p⟩, hfr⟩
    · refine tt_aload (j := 3) dX4_arrive_118 rfl ?_
      refine tt_dup dX4_arrive_120 rfl ?_
      refine tt_getI (id := 321) dX4_arrive_121 fl_4_59 rfl rfl (ob_af h5 hA1) ?_
      refine tt_iconst (v := 1) dX4_arrive_124 rfl ?_
      refine tt_iadd dX4_arrive_125 ?_
      refine gx_pI (id := 321) (x := ((hp_I S1 321 b) + 1)) dX4_arrive_126 fl_4_59 rfl rfl h5 hA1 rfl rfl rfl (gp_I hG1) (by decide) (fun h => absurd h (by decide)) (fun h => absurd h (by decide)) rfl (fun S2 hG2 hA2 e2 => ?_)
      refine tt_aload (j := 3) dX4_arrive_129 rfl ?_
      refine tt_iconst (v := 1) dX4_arrive_131 rfl ?_
      refine gx_pI (id := 322) (x := 1) dX4_arrive_132 fl_4_63 rfl rfl h5 hA2 rfl rfl rfl (gp_Ir hG2 (⟨by decide, by decide⟩ : Rg 1 1 1)) (by decide) (fun h => absurd h (by decide)) (fun h => absurd h (by decide)) e2 (fun S3 hG3 hA3 e3 => ?_)
      have fI : ∀ k p, mI (sg S3) k p = if k = 322 ∧ p = b then 1 else if k = 321 ∧ p = b then hp_I S1 321 b + 1 else mI (sg S1) k p := fun k p => by rw [e3, mI_uI, mI_uI]
      have fS : ∀ s, s ∈ hp_L S → sT S3 s = sT S1 s ∧ sC S3 s = sC S1 s := fun s hs => by
        have g5 : mI (sg S3) 515 s = mI (sg S1) 515 s := by rw [fI, if_neg (fun z => absurd z.1 (by decide)), if_neg (fun z => absurd z.1 (by decide))]
        have g6 : mI (sg S3) 516 s = mI (sg S1) 516 s := by rw [fI, if_neg (fun z => absurd z.1 (by decide)), if_neg (fun z => absurd z.1 (by decide))]
        have g7 : mI (sg S3) 517 s = mI (sg S1) 517 s := by rw [fI, if_neg (fun z => absurd z.1 (by decide)), if_neg (fun z => absurd z.1 (by decide))]
        refine ⟨?_, ?_⟩
        · unfold sT tS
          rw [rr_af hA3 hs, rr_af hA3 hs, rr_af hA3 hs, rr_af hA1 hs, rr_af hA1 hs, rr_af hA1 hs, e3]
          rfl
        · unfold sC rC
          rw [g5, g6, g7, e3]
          rfl
      refine tt_vreturn dX4_arrive_135 rfl (hP _ _ _ _ ⟨hG3, hA3, Or.inl ⟨_, rfl, rfl, ?_, rfl, rfl⟩⟩)
      rw [q1 z]
      refine ⟨fun k o hk => ?_, ?_, ?_, ?_, ?_, fun p hp => ⟨?_, ?_⟩, fun s hs hn => ?_⟩
      · show mJ (sg S3) k o = _
        rw [e3]
        exact hJ k o hk
      · show mI (sg S3) 321 b = _
        rw [fI, if_neg (fun z => absurd z.1 (by decide)), if_pos ⟨rfl, rfl⟩, i1]
      · show mI (sg S3) 322 b = _
        rw [fI, if_pos ⟨rfl, rfl⟩]
      · rw [(fS _ hst.1).1]; exact hg
      · rw [(fS _ hst.1).2]; exact hr
      · show mI (sg S3) 321 p = _
        rw [fI, if_neg (fun z => hp z.2), if_neg (fun z => hp z.2)]
        exact i1 p
      · show mI (sg S3) 322 p = _
        rw [fI, if_neg (fun z => hp z.2), if_neg (fun z => hp z.2)]
        exact i2 p
      · rw [(fS s hs.1).1, (fS s hs.1).2]
        exact hfr s hs hn
  refine tt_if_ne (tgt := 82) dX4_arrive_64 rfl (fun z => ?_) (fun z => ?_)
  · refine tt_aload_n (j := 1) dX4_arrive_82 rfl ?_
    refine tt_aload (j := 4) dX4_arrive_83 rfl ?_
    refine gt_gR (id := 320) dX4_arrive_85 fl_4_74 rfl rfl h5 hA (rk_R (k := 320) hR h5 8 0) ?_
    refine tt_iload (j := 3) dX4_arrive_88 rfl ?_
    refine tt_iload_n (j := 2) dX4_arrive_90 rfl ?_
    have B : ∀ x, Rg 0 1 x → wdn x4 x1 (hp_I S 321 b) = x → TT xi M_X4_arrive 108 [(0, .ref lk), (1, .int x1), (4, .int x4), (5, .ref b), (6, .int 1)] [.int x, .ref (RR S 320 b), .ref lk] S kc nc P := by
      intro x hx hw
      refine gt_VI (As := [.ref (RR S 320 b), .int x]) dX4_arrive_108 ca_X4_138 ⟨by decide, by decide⟩ h0 hA rfl (Nat.le_of_ble_eq_true rfl) (Nat.le_of_ble_eq_true rfl) (by decide) (cz_X4_absorb hG (oa_af h0 hA) (oa_af hst hA) (rg_w hx) hR (fun _ _ _ _ h => h)) rfl (fun _ h => nomatch h) (fun S1 y hy hx1 hG1 hB1 hA1 => ?_)
      refine tt_istore (ks := [0, 1, 2, 3, 4]) (L' := [(6, .int y), (0, .ref lk), (1, .int x1), (4, .int x4), (5, .ref b)]) dX4_arrive_111 (by decide) rfl ?_
      obtain ⟨k1, k2, k3, k4, k5⟩ := zk_absorb (σ := sg S) (w := x) hD3 (l3_uq hU hR h0) hD6 hne
      obtain ⟨ey, es⟩ := hx1
      have ey2 : y = (Z_X4_absorb (RR S) (sg S) lk (RR S 320 b) x).2 := by injection ey with z; injection z
      rw [← es] at k1 k2 k3
      rw [← ey2] at k4 k5
      have hCh : Chg (RR S) (sg S) (RR S 320 b) (RR S 259 lk) x 0 ↔ ¬ Stay x (hp_I S 321 b, hp_I S 322 b, sT S (RR S 320 b), sC S (RR S 320 b)) (sT S (RR S 259 lk)) (sC S (RR S 259 lk)) := by
        unfold Chg Stay
        constructor
        · rintro (⟨j, -, j2, j3⟩ | h) ⟨s1, s2⟩
          · exact j3 (s1 j j2)
          · exact h s2
        · intro h
          refine Classical.byContradiction (fun h2 => h ⟨fun j hj => ?_, ?_⟩)
          · exact Classical.byContradiction (fun h3 => h2 (Or.inl ⟨j, Nat.zero_le _, hj, h3⟩))
          · exact Classical.byContradiction (fun h3 => h2 (Or.inr h3))
      have e1 : sT S1 (RR S 320 b) = tS (RR S) (sg S1) (RR S 320 b) := by
        unfold sT tS
        rw [rr_af hB1 hst.1, rr_af hB1 hst.1, rr_af hB1 hst.1]
      refine tt_loc (ks := [1, 2, 3, 4, 0]) rfl (J S1 y (fun j => K_ab1 x (sT S (RR S 320 b) j) (sT S (RR S 259 lk) j)) (K_abR (sC S (RR S 320 b)) (sC S (RR S 259 lk))) hG1 hA1 hy k3 (fun j hj => ?_) k2 (fun z0 => ?_) (fun z0 => ?_))
      · rw [e1, k1]
        exact if_pos hj
      · have hS : Stay x (hp_I S 321 b, hp_I S 322 b, sT S (RR S 320 b), sC S (RR S 320 b)) (sT S (RR S 259 lk)) (sC S (RR S 259 lk)) := Classical.byContradiction (fun h => by
          have := k4 (hCh.mpr h)
          rw [z0] at this
          exact absurd this (by decide))
        rw [← hq, hw]
        unfold A_pt
        rw [if_neg z, if_pos hS]
      · have hS : ¬ Stay x (hp_I S 321 b, hp_I S 322 b, sT S (RR S 320 b), sC S (RR S 320 b)) (sT S (RR S 259 lk)) (sC S (RR S 259 lk)) := fun h => z0 (k5 (fun h2 => hCh.mp h2 h))
        rw [← hq, hw]
        unfold A_pt
        rw [if_neg z, if_neg hS]
    refine tt_icmp_gt (tgt := 107) dX4_arrive_91 rfl (fun z1 => ?_) (fun z1 => ?_)
    · refine tt_iconst (v := 0) dX4_arrive_107 rfl ?_
      refine tt_loc (ks := [1, 2, 3, 4, 0]) rfl (B 0 ⟨by decide, by decide⟩ ?_)
      unfold wdn
      rw [if_neg (Int32.not_le.mpr z1)]
    · refine tt_aload (j := 4) dX4_arrive_94 rfl ?_
      refine tt_getI (id := 321) dX4_arrive_96 fl_4_59 rfl rfl (ob_af h5 hA) ?_
      refine tt_iconst (v := 3) dX4_arrive_99 rfl ?_
      refine tt_icmp_lt (tgt := 107) dX4_arrive_100 rfl (fun z2 => ?_) (fun z2 => ?_)
      · refine tt_iconst (v := 0) dX4_arrive_107 rfl ?_
        refine tt_loc (ks := [1, 2, 3, 4, 0]) rfl (B 0 ⟨by decide, by decide⟩ ?_)
        unfold wdn
        rw [if_pos (nlt_le z1), if_pos z2]
      · refine tt_iconst (v := 1) dX4_arrive_103 rfl ?_
        refine tt_goto (tgt := 108) dX4_arrive_104 rfl ?_
        refine tt_loc (ks := [1, 2, 3, 4, 0]) rfl (B 1 ⟨by decide, by decide⟩ ?_)
        unfold wdn
        rw [if_pos (nlt_le z1), if_neg z2]
  · refine tt_aload (j := 4) dX4_arrive_67 rfl ?_
    refine gt_gR (id := 320) dX4_arrive_69 fl_4_74 rfl rfl h5 hA (rk_R (k := 320) hR h5 8 0) ?_
    refine tt_aload_n (j := 1) dX4_arrive_72 rfl ?_
    refine gt_gR (id := 259) dX4_arrive_73 fl_4_20 rfl rfl h0 hA (rk_R (k := 259) hR h0 8 0) ?_
    refine gt_Vv (As := [.ref (RR S 259 lk)]) dX4_arrive_76 ca_X4_84 ⟨by decide, by decide⟩ hst hA rfl (Nat.le_of_ble_eq_true rfl) (Nat.le_of_ble_eq_true rfl) (by decide) (cz_X8_copyFrom hG (oa_af hst hA) (oa_af hwk hA) hR (fun _ _ _ _ h => h)) rfl (fun _ h => nomatch h) (fun S1 hx1 hG1 hB1 hA1 => ?_)
    refine tt_goto (tgt := 113) dX4_arrive_79 rfl ?_
    obtain ⟨k1, k2, k3⟩ := copy8_ok (σ := sg S) hD3 hD6
    have es : sg S1 = Z_X8_copyFrom (RR S) (sg S) (RR S 320 b) (RR S 259 lk) := hx1
    rw [← es] at k1 k2 k3
    have e1 : sT S1 (RR S 320 b) = tS (RR S) (sg S1) (RR S 320 b) := by
      unfold sT tS
      rw [rr_af hB1 hst.1, rr_af hB1 hst.1, rr_af hB1 hst.1]
    have z2 : hp_I S 321 b = 0 := z
    refine tt_loc (ks := [1, 2, 3, 4, 0]) rfl (J S1 1 (sT S (RR S 259 lk)) (sC S (RR S 259 lk)) hG1 hA1 ⟨by decide, by decide⟩ k3 (by rw [e1]; exact k1) k2 (fun h => absurd h (by decide)) (fun _ => ?_))
    rw [← hq]
    unfold A_pt
    rw [if_pos z2, z2]
    rfl
end CAR
