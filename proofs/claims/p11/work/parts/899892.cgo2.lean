/-! going through, in the class -/
section CGT
variable {xi : SX} {S : Hp} {E : List Nat} {kc nc lk pa : Nat} {P : Po} {x1 n : Int32} {t : Tb} {bs : Nat → Int32}
theorem add_ne {a l : Int32} (hl : ¬ l = 0) : ¬ a + l = a := fun h => by
  have e : a + l - a = a - a := by rw [h]
  rw [Int32.sub_self] at e
  exact hl (by rw [← e, Int32.add_comm, Int32.add_sub_cancel])
theorem to_ne {a l n : Int32} (ha : Rg 0 199 a) (hl : ¬ l = 0) (hc : InC n (a + l).toInt64) (hn : Rg 0 200 n) : a.toNatClampNeg ≠ (a + l).toInt64.toInt32.toNatClampNeg := fun h => by
  have l1 := mt Int64.lt_iff_toInt_lt.mpr hc.1
  have l2 := Int64.lt_iff_toInt_lt.mp hc.2
  rw [Int32.toInt_toInt64, Int32.toInt_toInt64] at l2
  rw [Int32.toInt_toInt64, show (0 : Int64).toInt = 0 from rfl] at l1
  rw [Int32.toInt32_toInt64] at h
  have e1 : a.toNatClampNeg = a.toInt.toNat := rfl
  have e2 : (a + l).toNatClampNeg = (a + l).toInt.toNat := rfl
  have := ha.1
  exact add_ne (a := a) (l := l) hl (Int32.toInt_inj.mp (by omega))
set_option maxHeartbeats 8000000 in
theorem ck_goThrough (hE0 : E = []) (hG : GI S E) (h0 : Oa S E 4 0 lk) (hpa : hp_R S 258 lk = some pa) (hkc : 5 * nl (hp_r S pa) ≤ kc) (hnc : 82 * nl (hp_r S pa) ≤ nc) (h1 : Rg 0 199 x1) (hC : CTb S pa t) (hn : hp_I S 65 (RR S 256 lk) = n) (hbc : BC S E (RR S 257 lk) bs n) (hB : ∀ i, Rg 0 255 (bs i)) (hlt : x1 < n) (hw : ¬ (t x1.toNatClampNeg).2.1 = 0) (hP : ∀ r1 T x y, PB E [193, 194, 195, 196, 197, 198, 199, 200, 201, 202, 203, 204, 321, 322, 515, 516, 517, 9987, 9994, 9999] S pa kc nc rV (fun _ T => CTb T pa (A_go n t x1 (IA bs n x1)) ∧ NE S T) r1 T x y → P r1 T x y) : TT xi M_X4_goThrough 0 [(0, .ref lk), (1, .int x1)] [] S kc nc P := by
  have hA : Af E [193, 194, 195, 196, 197, 198, 199, 200, 201, 202, 203, 204, 321, 322, 515, 516, 517, 9987, 9994, 9999] S S := af_rf
  have hR := rk_gi hE0 hG
  have bd0 : Bd S pa kc nc S kc nc := bd_rf
  have l1 : x1.toNatClampNeg < 200 := rg_cl h1
  obtain ⟨pa2, hr2, ho2⟩ := gi_R (k := 258) hG h0 35 200
  obtain rfl : pa2 = pa := Option.some.inj (hr2.symm.trans hpa)
  have hwk := rk_O (k := 259) hG hR h0 8 0
  have hins := rk_O (k := 257) hG hR h0 3 0
  have hcb := rk_O (k := 256) hG hR h0 1 0
  have hn2 : Rg 0 200 n := by rw [← hn]; exact gi_I (k := 65) hG hcb 0 200
  refine tt_aload_n (j := 0) dX4_goThrough_0 rfl ?_
  refine tt_iload_n (j := 1) dX4_goThrough_1 rfl ?_
  refine gt_VPp (As := [.int x1]) dX4_goThrough_2 ca_X4_67 ⟨by decide, by decide⟩ h0 hA rfl (Nat.le_of_ble_eq_true rfl) (Nat.le_of_ble_eq_true rfl) (by decide) (ck_pointIfMade hG (oa_af h0 hA) hpa (fun _ _ _ _ h => h)) rfl (fun _ h => nomatch h) (fun _ _ q => q.1) (fun hx => ?_) (fun b h5 hx => ?_)
  · exact absurd ((hC.2.2 _ l1).1 (vr_n (hx.2.1 h1))).2 hw
  have hb := vr_s (hx.2.1 h1)
  have hst := rk_O (k := 320) hG hR h5 8 0
  have hne : RR S 320 b ≠ RR S 259 lk := uq_ne (k := 320) (l := 259) hC.1 hR h5 h0 (Or.inr (by decide)) 8 8 (c := 0) (d := 0)
  obtain ⟨pg1, pg2, pg3⟩ := (hC.2.2 _ l1).2 b hb
  obtain ⟨ps1, ps2⟩ := pg3 (Or.inr hw)
  refine tt_astore_n (ks := [0, 1, 2]) (L' := [(2, .ref b), (0, .ref lk), (1, .int x1)]) dX4_goThrough_5 (by decide) rfl ?_
  refine tt_aload_n (j := 0) dX4_goThrough_6 rfl ?_
  refine tt_ifnonnull (tgt := 11) dX4_goThrough_7 rfl ?_
  refine tt_aload_n (j := 0) dX4_goThrough_11 rfl ?_
  refine tt_iconst (v := 0) dX4_goThrough_12 rfl ?_
  refine gx_pI (ws := [322]) (id := 322) (x := 0) dX4_goThrough_13 fl_4_63 rfl rfl h5 af_rf rfl rfl rfl (gp_Ir hG (⟨by decide, by decide⟩ : Rg 0 0 0)) (by decide) (fun h => absurd h (by decide)) (fun h => absurd h (by decide)) rfl (fun S1 hG1 hB1 e1 => ?_)
  have hA1 : Af E [193, 194, 195, 196, 197, 198, 199, 200, 201, 202, 203, 204, 321, 322, 515, 516, 517, 9987, 9994, 9999] S S1 := af_tr hA hB1
  have bd1 := bd_eq bd0 (hB1.2.2.2.1 (by decide)).2
  obtain ⟨hC1, hN1⟩ := ci_cl hE0 hG ho2 l1 hb hB1 e1 hC
  obtain ⟨q1, q2⟩ := st_af hE0 hG hC.1 hB1 hst
  refine tt_aload_n (j := 1) dX4_goThrough_16 rfl ?_
  refine gt_gR (id := 257) dX4_goThrough_17 fl_4_55 rfl rfl h0 hA1 (rk_R (k := 257) hR h0 3 0) ?_
  refine tt_iload_n (j := 2) dX4_goThrough_20 rfl ?_
  refine gt_Vv (As := [.int x1]) dX4_goThrough_21 ca_X4_105 ⟨by decide, by decide⟩ hins hA1 rfl (Nat.le_of_ble_eq_true rfl) (Nat.le_of_ble_eq_true rfl) (by decide) (ce_X3_readFrom hG1 (oa_af hins hA1) (bc_af hbc hins hA1) (fun _ _ _ _ h => h)) rfl (fun _ h => nomatch h) (fun S2 hx2 hG2 hB2 hA2 => ?_)
  have bd2 := bd_eq bd1 (hB2.2.2.2.1 (by decide)).2
  obtain ⟨hC2, hN12⟩ := ci_af hE0 hG1 (oa_af ho2 hA1) hB2 hC1
  have hN2 := ne_tr hN1 hB1 hN12
  obtain ⟨q3, q4⟩ := st_af hE0 hG1 hC1.1 hB2 (oa_af hst hA1)
  have hS2 : A24 (sT S2 (RR S 320 b)) (t x1.toNatClampNeg).2.2.1 ∧ sC S2 (RR S 320 b) = (t x1.toNatClampNeg).2.2.2 := by
    rw [q3, q1, q4, q2]
    exact ⟨ps1, ps2⟩
  -- the instruction
  have hSt : StC S2 (RR S 257 lk) = F_X3_readFrom bs n (StC S1 (RR S 257 lk)) x1 := hx2
  have hSI : SI (F_X3_readFrom bs n (StC S1 (RR S 257 lk)) x1) (IA bs n x1) := si_rf hn2 hB h1 hlt
  have hZ : ¬ e7 (F_X3_readFrom bs n (StC S1 (RR S 257 lk)) x1) = -1 → ¬ e6 (F_X3_readFrom bs n (StC S1 (RR S 257 lk)) x1) = 0 := fun z => (rf_facts hn2.2 hB h1.1 z).1
  have hF19 : ¬ e7 (F_X3_readFrom bs n (StC S1 (RR S 257 lk)) x1) = -1 → e7 (F_X3_readFrom bs n (StC S1 (RR S 257 lk)) x1) = 19 → Rg 0 15 (e11 (F_X3_readFrom bs n (StC S1 (RR S 257 lk)) x1)) := fun z => by
    have f1 : FIN (F_X3_readFrom bs n (StC S1 (RR S 257 lk)) x1) (F_X10_read bs n DZ x1).1 (F_X10_read bs n DZ x1).2 := dec hn2 hB h1 hlt
    rcases f1 with ⟨y1, -⟩ | ⟨-, -, -, -, -, -, -, -, -, -, y2, -⟩
    · exact absurd y1 z
    · exact y2.2.2
  rw [← go_si hSI] at hP
  generalize F_X3_readFrom bs n (StC S1 (RR S 257 lk)) x1 = c at hSt hSI hZ hF19 hP
  have hI2 := ih_mk hSt
  generalize hp : t x1.toNatClampNeg = p at hS2
  -- the end
  have hGo : ∀ t', A_2 n (A_1 n (A_cl t x1.toNatClampNeg) x1 c p) x1 c p = t' → ¬ e7 c = -1 → ¬ e7 c = 22 → A_go n t x1 c = t' := fun t' h z1 z2 => by
    unfold A_go
    rw [if_neg z1, if_neg z2, hp]
    exact h
  have B182 : ∀ (S' : Hp) (k m : Nat), GI S' E → Af E [193, 194, 195, 196, 197, 198, 199, 200, 201, 202, 203, 204, 321, 322, 515, 516, 517, 9987, 9994, 9999] S S' → Bd S pa2 kc nc S' k m → CTb S' pa2 (A_go n t x1 c) → NE S S' → P (.inl none) S' k m := fun S' k m g1 g2 g3 g4 g5 => hP _ _ _ _ ⟨g1, g2, g3, _, rfl, rfl, g4, g5⟩
  refine tt_aload_n (j := 1) dX4_goThrough_24 rfl ?_
  refine gt_gR (id := 257) dX4_goThrough_25 fl_4_55 rfl rfl h0 hA2 (rk_R (k := 257) hR h0 3 0) ?_
  refine tt_getI (id := 200) dX4_goThrough_28 fl_4_110 rfl rfl (ob_af hins hA2) ?_
  rw [show hp_I S2 200 (RR S 257 lk) = e7 c from hI2.2.1]
  refine tt_istore_n (ks := [0, 1, 2, 3]) (L' := [(3, .int (e7 c)), (2, .ref b), (0, .ref lk), (1, .int x1)]) dX4_goThrough_31 (by decide) rfl ?_
  refine tt_iload_n (j := 0) dX4_goThrough_32 rfl ?_
  refine tt_iconst (v := (-1)) dX4_goThrough_33 rfl ?_
  refine tt_icmp_eq (tgt := 43) dX4_goThrough_34 rfl (fun z1 => ?_) (fun z1 => ?_)
  · refine tt_vreturn dX4_goThrough_43 rfl (B182 S2 kc nc hG2 hA2 bd2 ?_ hN2)
    unfold A_go
    rw [if_pos z1]
    exact hC2
  have z1 : ¬ e7 c = -1 := z1
  refine tt_iload_n (j := 0) dX4_goThrough_37 rfl ?_
  refine tt_bipush (v := 22) dX4_goThrough_38 rfl ?_
  refine tt_icmp_ne (tgt := 44) dX4_goThrough_40 rfl (fun z2 => ?_) (fun z2 => ?_)
  rotate_left
  · refine tt_vreturn dX4_goThrough_43 rfl (B182 S2 kc nc hG2 hA2 bd2 ?_ hN2)
    unfold A_go
    rw [if_neg z1, if_pos z2]
    exact hC2
  have z2 : ¬ e7 c = 22 := z2
  -- from 119 on
  have B119 : ∀ (S' : Hp) (k m : Nat), GI S' E → Af E [193, 194, 195, 196, 197, 198, 199, 200, 201, 202, 203, 204, 321, 322, 515, 516, 517, 9987, 9994, 9999] S S' → Bd S pa2 kc nc S' k m → IH S' (RR S 257 lk) c → A24 (sT S' (RR S 320 b)) p.2.2.1 → sC S' (RR S 320 b) = p.2.2.2 → CTb S' pa2 (A_1 n (A_cl t x1.toNatClampNeg) x1 c p) → NE S S' → TT xi M_X4_goThrough 119 [(0, .ref lk), (1, .int x1), (2, .ref b), (3, .int (e7 c))] [] S' k m P := by
    intro S' k m g1 g2 g3 g4 g5 g6 g7 g8
    have eW : RR S' 259 lk = RR S 259 lk := rr_af g2 h0.1
    have eB : RR S' 320 b = RR S 320 b := rr_af g2 h5.1
    have eN : RR S' 261 lk = RR S 261 lk := rr_af g2 h0.1
    have B131 : (e7 c = 20 ∨ (¬ e7 c = 20 ∧ e7 c = 19)) → TT xi M_X4_goThrough 131 [(0, .ref lk), (1, .int x1), (2, .ref b), (3, .int (e7 c))] [] S' k m P := by
      intro hop
      refine tt_aload_n (j := 0) dX4_goThrough_131 rfl ?_
      refine gt_gR (id := 259) dX4_goThrough_132 fl_4_20 rfl rfl h0 g2 (rk_R (k := 259) hR h0 8 0) ?_
      refine tt_aload_n (j := 2) dX4_goThrough_135 rfl ?_
      refine gt_gR (id := 320) dX4_goThrough_136 fl_4_74 rfl rfl h5 g2 (rk_R (k := 320) hR h5 8 0) ?_
      refine gt_Vv (As := [.ref (RR S 320 b)]) dX4_goThrough_139 ca_X4_84 ⟨by decide, by decide⟩ hwk g2 rfl (Nat.le_of_ble_eq_true rfl) (Nat.le_of_ble_eq_true rfl) (by decide) (cz_X8_copyFrom g1 (oa_af hwk g2) (oa_af hst g2) (rk_gi hE0 g1) (fun _ _ _ _ h => h)) rfl (fun _ h => nomatch h) (fun S3 hx3 hG3 hB3 hA3 => ?_)
      have bd3 := bd_eq g3 (hB3.2.2.2.1 (by decide)).2
      obtain ⟨w1, w2, w3⟩ := wk_cp hE0 g1 g7.1 hB3 (oa_af hwk g2) (oa_af hst g2) hne hx3
      rw [← eW] at w3
      obtain ⟨v1, v2, v3, v4⟩ := gs_wk hE0 g1 (oa_af h0 g2) (oa_af ho2 g2) (oa_af h5 g2) hB3 w3 g7
      have hN3 := ne_tr g8 g2 v2
      have hI3 := ih_af g4 (oa_af hins g2) hB3 (v4 _)
      have hf3 : A24 (sT S3 (RR S 259 lk)) p.2.2.1 := fun j hj => (w1 j hj).trans (g5 j hj)
      have hr3 : sC S3 (RR S 259 lk) = p.2.2.2 := w2.trans g6
      -- the second edge
      have B170 : ∀ (S4 : Hp) (f : Nat → Tr), GI S4 E → Af E [193, 194, 195, 196, 197, 198, 199, 200, 201, 202, 203, 204, 321, 322, 515, 516, 517, 9987, 9994, 9999] S S4 → Bd S pa2 kc nc S4 k m → IH S4 (RR S 257 lk) c → CTb S4 pa2 (A_1 n (A_cl t x1.toNatClampNeg) x1 c p) → NE S S4 → A24 (sT S4 (RR S 259 lk)) f → sC S4 (RR S 259 lk) = p.2.2.2 → A_2 n (A_1 n (A_cl t x1.toNatClampNeg) x1 c p) x1 c p = A_arr n (A_1 n (A_cl t x1.toNatClampNeg) x1 c p) x1 (eJ c) f p.2.2.2 → TT xi M_X4_goThrough 170 [(0, .ref lk), (1, .int x1), (2, .ref b), (3, .int (e7 c))] [] S4 k m P := by
        intro S4 f i1 i2 i3 i4 i5 i6 i7 i8 i9
        have e4W : RR S4 259 lk = RR S 259 lk := rr_af i2 h0.1
        have e4C : RR S4 256 lk = RR S 256 lk := rr_af i2 h0.1
        refine tt_aload_n (j := 0) dX4_goThrough_170 rfl ?_
        refine tt_iload_n (j := 1) dX4_goThrough_171 rfl ?_
        refine tt_aload_n (j := 0) dX4_goThrough_172 rfl ?_
        refine gt_gR (id := 257) dX4_goThrough_173 fl_4_55 rfl rfl h0 i2 (rk_R (k := 257) hR h0 3 0) ?_
        refine gt_gJ (id := 205) (v := eJ c) dX4_goThrough_176 fl_4_127 rfl rfl hins i2 i4.2.2.2.2.2.2 ?_
        refine gt_Bv (As := [.int x1, .long (eJ c)]) dX4_goThrough_179 ca_X4_88 ⟨by decide, by decide⟩ h0 i2 rfl (Nat.le_of_ble_eq_true rfl) (Nat.le_of_ble_eq_true rfl) (by decide) (ck_arrive (n := n) (f := f) (r := p.2.2.2) hE0 i1 (oa_af h0 i2) (r_af h0 i2 hpa) (bd_k i3 hkc) (bd_n i3 hnc) i5 (by rw [e4C]; exact (i_af (k := 65) hcb i2).trans hn) (by rw [e4W]; exact i7) (by rw [e4W]; exact i8) (fun _ _ _ _ h => h)) rfl (fun S5 k5 n5 hx5 hG5 hB5 hA5 bd5 => ?_)
        refine tt_vreturn dX4_goThrough_182 rfl (B182 S5 k5 n5 hG5 hA5 (bd_tr i3 bd5) ?_ (ne_tr i6 i2 hx5.2.1))
        rw [hGo _ i9 z1 z2]
        exact hx5.1
      refine tt_iload_n (j := 3) dX4_goThrough_142 rfl ?_
      refine tt_bipush (v := 20) dX4_goThrough_143 rfl ?_
      refine tt_icmp_eq (tgt := 170) dX4_goThrough_145 rfl (fun z3 => ?_) (fun z3 => ?_)
      · refine B170 S3 p.2.2.1 hG3 hA3 bd3 hI3 v1 hN3 hf3 hr3 ?_
        unfold A_2
        rw [if_pos z3]
      · have z19 : e7 c = 19 := by
          rcases hop with z | z
          · exact absurd z z3
          · exact z.2
        have hc15 := hF19 z1 z19
        refine tt_aload_n (j := 0) dX4_goThrough_148 rfl ?_
        refine gt_gR (id := 261) dX4_goThrough_149 fl_4_34 rfl rfl h0 hA3 (rk_R (k := 261) hR h0 0 0) ?_
        refine tt_aload_n (j := 0) dX4_goThrough_152 rfl ?_
        refine gt_gR (id := 259) dX4_goThrough_153 fl_4_20 rfl rfl h0 hA3 (rk_R (k := 259) hR h0 8 0) ?_
        refine tt_aload_n (j := 0) dX4_goThrough_156 rfl ?_
        refine gt_gR (id := 257) dX4_goThrough_157 fl_4_55 rfl rfl h0 hA3 (rk_R (k := 257) hR h0 3 0) ?_
        refine tt_getI (id := 204) dX4_goThrough_160 fl_4_117 rfl rfl (ob_af hins hA3) ?_
        rw [show hp_I S3 204 (RR S 257 lk) = e11 c from hI3.2.2.2.2.2.1]
        refine tt_iconst (v := 1) dX4_goThrough_163 rfl ?_
        refine gt_VI (As := [.ref (RR S 259 lk), .int (e11 c), .int 1]) dX4_goThrough_164 ca_X4_120 ⟨by decide, by decide⟩ (rk_O (k := 261) hG hR h0 0 0) hA3 rfl (Nat.le_of_ble_eq_true rfl) (Nat.le_of_ble_eq_true rfl) (by decide) (cz_X0_narrow hG3 (oa_af (rk_O (k := 261) hG hR h0 0 0) hA3) (oa_af hwk hA3) (rg_w (⟨by decide, by decide⟩ : Rg 1 1 1)) (rk_gi hE0 hG3) (fun _ _ _ _ h => h)) rfl (fun _ h => nomatch h) (fun S4 z4 hz4 hx4 hG4 hB4 hA4 => ?_)
        have bd4 := bd_eq bd3 (hB4.2.2.2.1 (by decide)).2
        have e3W : RR S3 259 lk = RR S 259 lk := rr_af hA3 h0.1
        have e3N : RR S3 261 lk = RR S 261 lk := rr_af hA3 h0.1
        obtain ⟨ey, es⟩ := hx4
        have ey2 : z4 = (Z_X0_narrow (RR S3) (sg S3) (RR S3 261 lk) (RR S 259 lk) (e11 c) 1).2 := by rw [e3N]; injection ey with y; injection y
        have es2 : sg S4 = (Z_X0_narrow (RR S3) (sg S3) (RR S3 261 lk) (RR S 259 lk) (e11 c) 1).1 := by rw [e3N]; exact es
        obtain ⟨n1, n2, n3⟩ := wk_na hE0 hG3 v1.1 (oa_af h0 hA3) hB4 (oa_af hwk hA3) hf3 hr3 hc15 (Or.inr rfl) ey2 es2
        rw [← e3W] at n1
        obtain ⟨m1, m2, m3, m4⟩ := gs_wk hE0 hG3 (oa_af h0 hA3) (oa_af ho2 hA3) (oa_af h5 hA3) hB4 n1 v1
        have hN4 := ne_tr hN3 hA3 m2
        have hI4 := ih_af hI3 (oa_af hins hA3) hB4 (m4 _)
        rw [if_pos rfl] at n3
        refine tt_if_eq (tgt := 182) dX4_goThrough_167 rfl (fun z5 => ?_) (fun z5 => ?_)
        · rcases n3 with ⟨-, n4⟩ | ⟨n4, -⟩
          · refine tt_vreturn dX4_goThrough_182 rfl (B182 S4 k m hG4 hA4 bd4 ?_ hN4)
            rw [hGo (A_1 n (A_cl t x1.toNatClampNeg) x1 c p) ?_ z1 z2]
            · exact m1
            · unfold A_2
              rw [if_neg z3, if_pos z19, n4]
              rfl
          · exact absurd z5 n4
        · rcases n3 with ⟨n4, -⟩ | ⟨-, g, n4, n5⟩
          · exact absurd n4 z5
          · refine B170 S4 g hG4 hA4 bd4 hI4 m1 hN4 n5 n2 ?_
            have z3' : ¬ e7 c = 20 := z3
            generalize A_1 n (A_cl t x1.toNatClampNeg) x1 c p = t'
            unfold A_2
            rw [if_neg z3', if_pos z19, n4]
            rfl
    refine tt_iload_n (j := 3) dX4_goThrough_119 rfl ?_
    refine tt_bipush (v := 20) dX4_goThrough_120 rfl ?_
    refine tt_icmp_eq (tgt := 131) dX4_goThrough_122 rfl (fun z3 => ?_) (fun z3 => ?_)
    · exact B131 (Or.inl z3)
    · refine tt_iload_n (j := 3) dX4_goThrough_125 rfl ?_
      refine tt_bipush (v := 19) dX4_goThrough_126 rfl ?_
      refine tt_icmp_ne (tgt := 182) dX4_goThrough_128 rfl (fun z4 => ?_) (fun z4 => ?_)
      · refine tt_vreturn dX4_goThrough_182 rfl (B182 S' k m g1 g2 g3 ?_ g8)
        have z3' : ¬ e7 c = 20 := z3
        have z4' : ¬ e7 c = 19 := z4
        rw [hGo (A_1 n (A_cl t x1.toNatClampNeg) x1 c p) ?_ z1 z2]
        · exact g7
        · generalize A_1 n (A_cl t x1.toNatClampNeg) x1 c p = t'
          unfold A_2
          rw [if_neg z3', if_neg z4']
      · exact B131 (Or.inr ⟨z3, z4⟩)
  refine tt_iload_n (j := 0) dX4_goThrough_44 rfl ?_
  refine tt_bipush (v := 20) dX4_goThrough_45 rfl ?_
  refine tt_icmp_eq (tgt := 119) dX4_goThrough_47 rfl (fun z3 => ?_) (fun z3 => ?_)
  · refine tt_loc (ks := [2, 3, 1, 0]) rfl (B119 S2 kc nc hG2 hA2 bd2 hI2 hS2.1 hS2.2 ?_ hN2)
    unfold A_1
    rw [if_pos z3]
    exact hC2
  have z3 : ¬ e7 c = 20 := z3
  refine tt_aload_n (j := 2) dX4_goThrough_50 rfl ?_
  refine gt_gR (id := 259) dX4_goThrough_51 fl_4_20 rfl rfl h0 hA2 (rk_R (k := 259) hR h0 8 0) ?_
  refine tt_aload_n (j := 1) dX4_goThrough_54 rfl ?_
  refine gt_gR (id := 320) dX4_goThrough_55 fl_4_74 rfl rfl h5 hA2 (rk_R (k := 320) hR h5 8 0) ?_
  refine gt_Vv (As := [.ref (RR S 320 b)]) dX4_goThrough_58 ca_X4_84 ⟨by decide, by decide⟩ hwk hA2 rfl (Nat.le_of_ble_eq_true rfl) (Nat.le_of_ble_eq_true rfl) (by decide) (cz_X8_copyFrom hG2 (oa_af hwk hA2) (oa_af hst hA2) (rk_gi hE0 hG2) (fun _ _ _ _ h => h)) rfl (fun _ h => nomatch h) (fun S3 hx3 hG3 hB3 hA3 => ?_)
  have bd3 := bd_eq bd2 (hB3.2.2.2.1 (by decide)).2
  have e2W : RR S2 259 lk = RR S 259 lk := rr_af hA2 h0.1
  have e2B : RR S2 320 b = RR S 320 b := rr_af hA2 h5.1
  obtain ⟨w1, w2, w3⟩ := wk_cp hE0 hG2 hC2.1 hB3 (oa_af hwk hA2) (oa_af hst hA2) hne hx3
  rw [← e2W] at w3
  obtain ⟨v1, v2, v3, v4⟩ := gs_wk hE0 hG2 (oa_af h0 hA2) (oa_af ho2 hA2) (oa_af h5 hA2) hB3 w3 hC2
  rw [e2B] at v3
  have hN3 := ne_tr hN2 hA2 v2
  have hI3 := ih_af hI2 (oa_af hins hA2) hB3 (v4 _)
  have hf3 : A24 (sT S3 (RR S 259 lk)) p.2.2.1 := fun j hj => (w1 j hj).trans (hS2.1 j hj)
  have hr3 : sC S3 (RR S 259 lk) = p.2.2.2 := w2.trans hS2.2
  refine tt_aload_n (j := 2) dX4_goThrough_61 rfl ?_
  refine gt_gR (id := 260) dX4_goThrough_62 fl_4_27 rfl rfl h0 hA3 (rk_R (k := 260) hR h0 2 0) ?_
  refine tt_aload_n (j := 2) dX4_goThrough_65 rfl ?_
  refine gt_gR (id := 257) dX4_goThrough_66 fl_4_55 rfl rfl h0 hA3 (rk_R (k := 257) hR h0 3 0) ?_
  refine tt_aload_n (j := 2) dX4_goThrough_69 rfl ?_
  refine gt_gR (id := 259) dX4_goThrough_70 fl_4_20 rfl rfl h0 hA3 (rk_R (k := 259) hR h0 8 0) ?_
  refine gt_Vv (As := [.ref (RR S 257 lk), .ref (RR S 259 lk)]) dX4_goThrough_73 ca_X4_113 ⟨by decide, by decide⟩ (rk_O (k := 260) hG hR h0 2 0) hA3 rfl (Nat.le_of_ble_eq_true rfl) (Nat.le_of_ble_eq_true rfl) (by decide) (cz_X2_apply hG3 (oa_af (rk_O (k := 260) hG hR h0 2 0) hA3) (oa_af hins hA3) (oa_af hwk hA3) (rk_gi hE0 hG3) (fun _ _ _ _ h => h)) rfl (fun _ h => nomatch h) (fun S4 hx4 hG4 hB4 hA4 => ?_)
  have bd4 := bd_eq bd3 (hB4.2.2.2.1 (by decide)).2
  have e3W : RR S3 259 lk = RR S 259 lk := rr_af hA3 h0.1
  have e3E : RR S3 260 lk = RR S 260 lk := rr_af hA3 h0.1
  have e3B : RR S3 320 b = RR S 320 b := rr_af hA3 h5.1
  have hx4' : sg S4 = Z_X2_apply (RR S3) (sg S3) (RR S3 260 lk) (RR S 257 lk) (RR S 259 lk) := by rw [e3E]; exact hx4
  obtain ⟨a1, a2, a3⟩ := wk_ap hE0 hG3 v1.1 (oa_af h0 hA3) hB4 (oa_af hwk hA3) hI3 hx4'
  rw [← e3W] at a3
  obtain ⟨m1, m2, m3, m4⟩ := gs_wk hE0 hG3 (oa_af h0 hA3) (oa_af ho2 hA3) (oa_af h5 hA3) hB4 a3 v1
  rw [e3B] at m3
  have hN4 := ne_tr hN3 hA3 m2
  have hI4 := ih_af hI3 (oa_af hins hA3) hB4 (m4 _)
  have hS4 : A24 (sT S4 (RR S 320 b)) p.2.2.1 ∧ sC S4 (RR S 320 b) = p.2.2.2 := by
    rw [m3.1, m3.2, v3.1, v3.2]
    exact hS2
  have hf4 : A24 (sT S4 (RR S 259 lk)) (A_f c p) := by
    rw [a1]
    unfold A_f
    by_cases l : e7 c < 19
    · rw [if_pos l, if_pos l]; exact a24_eff hf3
    · rw [if_neg l, if_neg l]; exact hf3
  have hr4 : sC S4 (RR S 259 lk) = A_r c p := by
    rw [a2, hr3]
    rfl
  -- the first edge
  have B104 : ∀ (S5 : Hp) (f : Nat → Tr) (r : Rc), GI S5 E → Af E [193, 194, 195, 196, 197, 198, 199, 200, 201, 202, 203, 204, 321, 322, 515, 516, 517, 9987, 9994, 9999] S S5 → Bd S pa2 kc nc S5 kc nc → IH S5 (RR S 257 lk) c → CTb S5 pa2 (A_cl t x1.toNatClampNeg) → NE S S5 → A24 (sT S5 (RR S 259 lk)) f → sC S5 (RR S 259 lk) = r → A24 (sT S5 (RR S 320 b)) p.2.2.1 → sC S5 (RR S 320 b) = p.2.2.2 → hp_r S5 = hp_r S → A_1 n (A_cl t x1.toNatClampNeg) x1 c p = A_arr n (A_cl t x1.toNatClampNeg) x1 (x1 + e6 c).toInt64 f r → TT xi M_X4_goThrough 104 [(0, .ref lk), (1, .int x1), (2, .ref b), (3, .int (e7 c))] [] S5 kc nc P := by
    intro S5 f r i1 i2 i3 i4 i5 i6 i7 i8 j1 j2 j3 i9
    have e5W : RR S5 259 lk = RR S 259 lk := rr_af i2 h0.1
    have e5C : RR S5 256 lk = RR S 256 lk := rr_af i2 h0.1
    have e5B : RR S5 320 b = RR S 320 b := rr_af i2 h5.1
    refine tt_aload_n (j := 0) dX4_goThrough_104 rfl ?_
    refine tt_iload_n (j := 1) dX4_goThrough_105 rfl ?_
    refine tt_iload_n (j := 1) dX4_goThrough_106 rfl ?_
    refine tt_aload_n (j := 0) dX4_goThrough_107 rfl ?_
    refine gt_gR (id := 257) dX4_goThrough_108 fl_4_55 rfl rfl h0 i2 (rk_R (k := 257) hR h0 3 0) ?_
    refine tt_getI (id := 199) dX4_goThrough_111 fl_4_124 rfl rfl (ob_af hins i2) ?_
    rw [show hp_I S5 199 (RR S 257 lk) = e6 c from i4.1]
    refine tt_iadd dX4_goThrough_114 ?_
    refine tt_i2l dX4_goThrough_115 ?_
    refine gt_Bv (As := [.int x1, .long ((x1 + e6 c) : Int32).toInt64]) dX4_goThrough_116 ca_X4_88 ⟨by decide, by decide⟩ h0 i2 rfl (Nat.le_of_ble_eq_true rfl) (Nat.le_of_ble_eq_true rfl) (by decide) (ck_arrive (n := n) (f := f) (r := r) hE0 i1 (oa_af h0 i2) (r_af h0 i2 hpa) (bd_k i3 hkc) (bd_n i3 hnc) i5 (by rw [e5C]; exact (i_af (k := 65) hcb i2).trans hn) (by rw [e5W]; exact i7) (by rw [e5W]; exact i8) (fun _ _ _ _ h => h)) rfl (fun S6 k6 n6 hx6 hG6 hB6 hA6 bd6 => ?_)
    obtain ⟨y1, y2, y34⟩ := hx6
    have y3 := (y34 (x1 + e6 c).toInt64.toInt32.toNatClampNeg (fun _ => rfl)).1
    have hI6 := ih_af i4 (oa_af hins i2) hB6 (y3 205 _ (by decide) (oa_af hins i2).1)
    have hS6 : sT S6 (RR S 320 b) = sT S5 (RR S 320 b) ∧ sC S6 (RR S 320 b) = sC S5 (RR S 320 b) := by
      by_cases hc : InC n (x1 + e6 c).toInt64
      · have hz := (y34 _ (fun _ => rfl)).2 x1.toNatClampNeg b l1 (to_ne h1 (hZ z1) hc hn2) (by rw [j3]; exact hb)
        rw [e5B] at hz
        exact hz
      · have hz := (y34 200 (fun q => absurd q hc)).2 x1.toNatClampNeg b l1 (by omega) (by rw [j3]; exact hb)
        rw [e5B] at hz
        exact hz
    refine B119 S6 k6 n6 hG6 hA6 (bd_tr i3 bd6) hI6 (by rw [hS6.1]; exact j1) (by rw [hS6.2]; exact j2) ?_ (ne_tr i6 i2 y2)
    rw [i9]
    exact y1
  refine tt_iload_n (j := 0) dX4_goThrough_76 rfl ?_
  refine tt_bipush (v := 19) dX4_goThrough_77 rfl ?_
  have er4 : hp_r S4 = hp_r S := by rw [(hB4.2.2.2.1 (by decide)).2, (hB3.2.2.2.1 (by decide)).2, (hB2.2.2.2.1 (by decide)).2, (hB1.2.2.2.1 (by decide)).2]
  refine tt_icmp_ne (tgt := 104) dX4_goThrough_79 rfl (fun z4 => ?_) (fun z4 => ?_)
  · refine tt_loc (ks := [2, 3, 1, 0]) rfl (B104 S4 (A_f c p) (A_r c p) hG4 hA4 bd4 hI4 m1 hN4 hf4 hr4 hS4.1 hS4.2 er4 ?_)
    have z4' : ¬ e7 c = 19 := z4
    unfold A_1
    rw [if_neg z3, if_neg z4']
  · have z19 : e7 c = 19 := z4
    have hc15 := hF19 z1 z19
    have l19 : ¬ e7 c < 19 := by rw [z19]; decide
    have hf5 : A24 (sT S4 (RR S 259 lk)) p.2.2.1 := by
      unfold A_f at hf4
      rw [if_neg l19] at hf4
      exact hf4
    have hr5 : sC S4 (RR S 259 lk) = p.2.2.2 := by
      unfold A_r at hr4
      rw [if_neg l19] at hr4
      exact hr4
    refine tt_aload_n (j := 2) dX4_goThrough_82 rfl ?_
    refine gt_gR (id := 261) dX4_goThrough_83 fl_4_34 rfl rfl h0 hA4 (rk_R (k := 261) hR h0 0 0) ?_
    refine tt_aload_n (j := 2) dX4_goThrough_86 rfl ?_
    refine gt_gR (id := 259) dX4_goThrough_87 fl_4_20 rfl rfl h0 hA4 (rk_R (k := 259) hR h0 8 0) ?_
    refine tt_aload_n (j := 2) dX4_goThrough_90 rfl ?_
    refine gt_gR (id := 257) dX4_goThrough_91 fl_4_55 rfl rfl h0 hA4 (rk_R (k := 257) hR h0 3 0) ?_
    refine tt_getI (id := 204) dX4_goThrough_94 fl_4_117 rfl rfl (ob_af hins hA4) ?_
    rw [show hp_I S4 204 (RR S 257 lk) = e11 c from hI4.2.2.2.2.2.1]
    refine tt_iconst (v := 0) dX4_goThrough_97 rfl ?_
    refine gt_VI (As := [.ref (RR S 259 lk), .int (e11 c), .int 0]) dX4_goThrough_98 ca_X4_120 ⟨by decide, by decide⟩ (rk_O (k := 261) hG hR h0 0 0) hA4 rfl (Nat.le_of_ble_eq_true rfl) (Nat.le_of_ble_eq_true rfl) (by decide) (cz_X0_narrow hG4 (oa_af (rk_O (k := 261) hG hR h0 0 0) hA4) (oa_af hwk hA4) (rg_w (⟨by decide, by decide⟩ : Rg 0 0 0)) (rk_gi hE0 hG4) (fun _ _ _ _ h => h)) rfl (fun _ h => nomatch h) (fun S5 z5 hz5 hx5 hG5 hB5 hA5 => ?_)
    have bd5 := bd_eq bd4 (hB5.2.2.2.1 (by decide)).2
    have e4W : RR S4 259 lk = RR S 259 lk := rr_af hA4 h0.1
    have e4N : RR S4 261 lk = RR S 261 lk := rr_af hA4 h0.1
    have e4B : RR S4 320 b = RR S 320 b := rr_af hA4 h5.1
    obtain ⟨ey, es⟩ := hx5
    have ey2 : z5 = (Z_X0_narrow (RR S4) (sg S4) (RR S4 261 lk) (RR S 259 lk) (e11 c) 0).2 := by rw [e4N]; injection ey with y; injection y
    have es2 : sg S5 = (Z_X0_narrow (RR S4) (sg S4) (RR S4 261 lk) (RR S 259 lk) (e11 c) 0).1 := by rw [e4N]; exact es
    obtain ⟨n1, n2, n3⟩ := wk_na hE0 hG4 m1.1 (oa_af h0 hA4) hB5 (oa_af hwk hA4) hf5 hr5 hc15 (Or.inl rfl) ey2 es2
    rw [← e4W] at n1
    obtain ⟨o1, o2, o3, o4⟩ := gs_wk hE0 hG4 (oa_af h0 hA4) (oa_af ho2 hA4) (oa_af h5 hA4) hB5 n1 m1
    rw [e4B] at o3
    have hN5 := ne_tr hN4 hA4 o2
    have hI5 := ih_af hI4 (oa_af hins hA4) hB5 (o4 _)
    rw [if_neg (show ¬ (0 : Int32) = 1 by decide)] at n3
    have er5 : hp_r S5 = hp_r S := by rw [(hB5.2.2.2.1 (by decide)).2, er4]
    have hS5 : A24 (sT S5 (RR S 320 b)) p.2.2.1 ∧ sC S5 (RR S 320 b) = p.2.2.2 := by
      rw [o3.1, o3.2]
      exact hS4
    refine tt_if_eq (tgt := 119) dX4_goThrough_101 rfl (fun z6 => ?_) (fun z6 => ?_)
    · rcases n3 with ⟨-, n4⟩ | ⟨n4, -⟩
      · refine tt_loc (ks := [2, 3, 1, 0]) rfl (B119 S5 kc nc hG5 hA5 bd5 hI5 hS5.1 hS5.2 ?_ hN5)
        unfold A_1
        rw [if_neg z3, if_pos z19, n4]
        exact o1
      · exact absurd z6 n4
    · rcases n3 with ⟨n4, -⟩ | ⟨-, g, n4, n5⟩
      · exact absurd n4 z6
      · refine tt_loc (ks := [2, 3, 1, 0]) rfl (B104 S5 g p.2.2.2 hG5 hA5 bd5 hI5 o1 hN5 n5 n2 hS5.1 hS5.2 er5 ?_)
        unfold A_1
        rw [if_neg z3, if_pos z19, n4]
        rfl
end CGT
