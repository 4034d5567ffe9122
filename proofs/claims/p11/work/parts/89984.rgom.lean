/-! going through, in the reference: the machine -/
def RGl (A : Nat) : List Nat := (List.range 24).map (fun k => A + k)
theorem mem_rgl {A j : Nat} : j ∈ RGl A ↔ A ≤ j ∧ j < A + 24 := by
  unfold RGl
  rw [List.mem_map]
  constructor
  · rintro ⟨k, hk, rfl⟩
    have := List.mem_range.mp hk
    omega
  · intro h
    exact ⟨j - A, List.mem_range.mpr (by omega), by omega⟩
/-- cells A .. are copied from B .., from the k0-th on -/
def CPl (R : Nat → Nat → Nat) (m A B : Nat) (σ ρ : SG) (k0 : Nat) : Prop := Fx R m (RGl A) σ ρ ∧ mI ρ = mI σ ∧ ∀ k, k < 24 → cC R m ρ (A + k) = if k0 ≤ k then cC R m σ (B + k) else cC R m σ (A + k)
def DZ : DD := (0, 0, 0, 0, 0, 0, 0, 0, 0, 0, 0, 0, 0)
/-- the instruction at the address a -/
def IA (bs : Nat → Int32) (n a : Int32) : DD := F_X3_readFrom bs n DZ a
section CPS
variable {R : Nat → Nat → Nat} {σ ρ : SG} {m A B k : Nat}
theorem cp_base : CPl R m A B σ σ 24 := ⟨fx_rf, rfl, fun k hk => by rw [if_neg (by omega)]⟩
theorem cp_step (hD : D4 R m) (hAB : A + 24 ≤ B ∨ B + 24 ≤ A) (hk : k < 24) (h : CPl R m A B (wC R m σ (A + k) (cC R m σ (B + k))) ρ (k + 1)) : CPl R m A B σ ρ k := by
  obtain ⟨h1, h2, h3⟩ := h
  refine ⟨fx_tr (fx_wC (mem_rgl.mpr ⟨by omega, by omega⟩)) h1, h2, fun j hj => ?_⟩
  rw [h3 j hj, cC_wCn (j := B + j) (by omega)]
  by_cases e : j = k
  · subst e
    rw [if_neg (by omega), if_pos (Nat.le_refl _), cC_wC hD]
  · rw [cC_wCn (by omega)]
    by_cases c : k ≤ j
    · rw [if_pos (by omega), if_pos c]
    · rw [if_neg (by omega), if_neg c]
end CPS
section RGM
variable {xi : SX} {S S0 T : Hp} {E ws : List Nat} {kc nc m : Nat} {P : Po} {a n : Int32} {R : Nat → Nat → Nat} {t : Tb} {bs : Nat → Int32} {c r : DD} {k : Int32}
theorem af_cC (hG : GI S E) (h0 : Oa S E 10 0 m) (hR : RK S R) (hA : Af E ws S T) {j : Nat} (hw : 9989 ∉ ws := by decide) : cC R m (sg T) j = cC R m (sg S) j := by
  have e1 : hp_i T (R 643 m) = hp_i S (R 643 m) := (a49_af (rk_O (k := 643) hG hR h0 32 4940) hA (by decide) hw).1
  have e2 : hp_j T (R 644 m) = hp_j S (R 644 m) := (a49_af (rk_O (k := 644) hG hR h0 33 4940) hA (by decide) hw).2
  have e3 : hp_j T (R 645 m) = hp_j S (R 645 m) := (a49_af (rk_O (k := 645) hG hR h0 33 4940) hA (by decide) hw).2
  have e4 : hp_j T (R 646 m) = hp_j S (R 646 m) := (a49_af (rk_O (k := 646) hG hR h0 33 4940) hA (by decide) hw).2
  show (hp_i T (R 643 m) j, hp_j T (R 644 m) j, hp_j T (R 645 m) j, hp_j T (R 646 m) j) = (hp_i S (R 643 m) j, hp_j S (R 644 m) j, hp_j S (R 645 m) j, hp_j S (R 646 m) j)
  rw [e1, e2, e3, e4]
theorem af_rR (hG : GI S E) (h0 : Oa S E 10 0 m) (hR : RK S R) (hA : Af E ws S T) {j : Nat} (hw : 9988 ∉ ws := by decide) : rR R m (sg T) j = rR R m (sg S) j := by
  have e1 : hp_i T (R 649 m) = hp_i S (R 649 m) := (a20_af (rk_O (k := 649) hG hR h0 32 202) hA (by decide) (by decide) hw).1
  have e2 : hp_i T (R 650 m) = hp_i S (R 650 m) := (a20_af (rk_O (k := 650) hG hR h0 32 202) hA (by decide) (by decide) hw).1
  have e3 : hp_i T (R 651 m) = hp_i S (R 651 m) := (a20_af (rk_O (k := 651) hG hR h0 32 202) hA (by decide) (by decide) hw).1
  have e4 : hp_j T (R 652 m) = hp_j S (R 652 m) := (a20_af (rk_O (k := 652) hG hR h0 33 202) hA (by decide) (by decide) hw).2
  show (hp_i T (R 649 m) j, hp_i T (R 650 m) j, hp_i T (R 651 m) j, hp_j T (R 652 m) j) = (hp_i S (R 649 m) j, hp_i S (R 650 m) j, hp_i S (R 651 m) j, hp_j S (R 652 m) j)
  rw [e1, e2, e3, e4]
theorem af_47 (hG : GI S E) (h0 : Oa S E 10 0 m) (hR : RK S R) (hA : Af E ws S T) (hw : 9988 ∉ ws := by decide) : mi (sg T) (R 647 m) = mi (sg S) (R 647 m) := (a20_af (rk_O (k := 647) hG hR h0 32 201) hA (by decide) (by decide) hw).1
theorem af_48 (hG : GI S E) (h0 : Oa S E 10 0 m) (hR : RK S R) (hA : Af E ws S T) (hw : 9988 ∉ ws := by decide) : mi (sg T) (R 648 m) = mi (sg S) (R 648 m) := (a20_af (rk_O (k := 648) hG hR h0 34 201) hA (by decide) (by decide) hw).1
theorem af_rtb (hG : GI S E) (h0 : Oa S E 10 0 m) (hR : RK S R) (hA : Af E ws S T) (h : RTb R m (sg S) t) (hw : 9989 ∉ ws := by decide) (hw2 : 9988 ∉ ws := by decide) : RTb R m (sg T) t := rtb_eq (fun _ _ => af_cC hG h0 hR hA hw) (af_47 hG h0 hR hA hw2) (af_48 hG h0 hR hA hw2) (fun _ _ => af_rR hG h0 hR hA hw2) h
theorem ri_mk (hn : Rg 0 200 n) (hB : ∀ i, Rg 0 255 (bs i)) (ha : Rg 0 199 a) (hF : FIN (IA bs n a) r k) (hk : ¬ k = 0) (hs : StR T m = r) : ¬ e7 (IA bs n a) = -1 ∧ RI m (sg T) (IA bs n a) := by
  rcases hF with ⟨-, z⟩ | ⟨f7, -, h6, h7, h8, h9, h10, h11, hJ, hr, h19, n2, n3⟩
  · exact absurd z hk
  · refine ⟨f7, ?_⟩
    obtain ⟨g1, g2, g3, g4, g5⟩ := rf_facts (bs := bs) (n := n) (a := a) (d := DZ) hn.2 hB ha.1 f7
    refine ⟨(sR_661 hs).trans h6.symm, (sR_655 hs).trans h7.symm, (sR_656 hs).trans h8.symm, (sR_657 hs).trans h9.symm, (sR_658 hs).trans h10.symm, (sR_659 hs).trans h11.symm, ?_, fun q => ?_, h19.2.2⟩
    · rcases hJ with hJ | hJ
      · exact Or.inl (hJ.trans (sR_660 hs).symm)
      · exact Or.inr hJ
    · have l := Int32.lt_iff_toInt_lt.mp q
      rw [show (19 : Int32).toInt = 19 from rfl] at l
      have n19 : ¬ 19 ≤ e7 (IA bs n a) := fun z => (lt19.mp z) q
      obtain ⟨z1, z2⟩ := h19.2.1 n19
      exact ⟨⟨hr.1, by omega⟩, n2, n3, (g2 q).1, (g2 q).2, z1, z2, g4, g3, g5⟩
theorem lp_g9 (h0 : Oa S E 10 0 m) (h1 : Rg 0 199 a) (hR : RK S R) (hD : D4 R m) : ∀ (fu : Nat) (S1 : Hp) (x2 : Int32), (24 - x2.toInt).toNat < fu → GI S1 E → Af E [654, 655, 656, 657, 658, 659, 661, 662, 672, 673, 674, 675, 676, 9988, 9989, 9998] S S1 → Rg 0 24 x2 → (∀ T, GI T E → Af E [654, 655, 656, 657, 658, 659, 661, 662, 672, 673, 674, 675, 676, 9988, 9989, 9998] S T → CPl R m 4856 (24 * a.toNatClampNeg) (sg S1) (sg T) x2.toNatClampNeg → TT xi M_X10_goThrough 36 [(0, .ref m), (1, .int a), (2, .int 24)] [] T kc nc P) → TT xi M_X10_goThrough 9 [(0, .ref m), (1, .int a), (2, .int x2)] [] S1 kc nc P := by
  intro fu
  induction fu with
  | zero => intro S1 x2 h; exact absurd h (Nat.not_lt_zero _)
  | succ fu ih =>
    intro S1 x2 hf hG1 hA1 hx K
    have l1 : a.toNatClampNeg < 200 := rg_cl h1
    refine tt_iload_n (j := 2) dX10_goThrough_9 rfl ?_
    refine tt_bipush (v := 24) dX10_goThrough_10 rfl ?_
    refine tt_icmp_ge (tgt := 36) dX10_goThrough_12 rfl (fun q => ?_) (fun q => ?_)
    · have h24 : Rg 24 24 x2 := rg_le_r (⟨by decide, by decide⟩ : Rg 24 24 24) hx q
      obtain rfl : x2 = 24 := rg_eqc h24
      exact K S1 hG1 hA1 cp_base
    · have hx2 : Rg 0 23 x2 := rg_lt_l hx (⟨by decide, by decide⟩ : Rg 24 24 24) (nle_lt q)
      refine tt_aload_n (j := 0) dX10_goThrough_15 rfl ?_
      refine tt_sipush (v := 4856) dX10_goThrough_16 rfl ?_
      refine tt_iload_n (j := 2) dX10_goThrough_19 rfl ?_
      refine tt_iadd dX10_goThrough_20 ?_
      refine tt_bipush (v := 24) dX10_goThrough_21 rfl ?_
      refine tt_iload_n (j := 1) dX10_goThrough_23 rfl ?_
      refine tt_imul dX10_goThrough_24 ?_
      refine tt_iload_n (j := 2) dX10_goThrough_25 rfl ?_
      refine tt_iadd dX10_goThrough_26 ?_
      refine gt_Vv (As := [.int (4856 + x2), .int ((24 * a) + x2)]) dX10_goThrough_27 ca_X10_169 ⟨by decide, by decide⟩ h0 hA1 rfl (Nat.le_of_ble_eq_true rfl) (Nat.le_of_ble_eq_true rfl) (by decide) (cz_X10_copy hG1 (oa_af h0 hA1) (rg_w (rg_add (lo := 4856) (hi := 4879) (⟨by decide, by decide⟩ : Rg 4856 4856 4856) hx2)) (rg_w (rg_add (lo := 0) (hi := 4799) (rg_mul (lo := 0) (hi := 4776) (⟨by decide, by decide⟩ : Rg 24 24 24) h1) hx2)) (rk_af hR hA1) (fun _ _ _ _ h => h)) rfl (fun _ h => nomatch h) (fun S2 hx9 hG2 hB2 hA2 => ?_)
      refine tt_iinc (j := 2) (v := (x2 + 1)) (ks := [0, 1, 2]) (L' := [(2, .int (x2 + 1)), (0, .ref m), (1, .int a)]) dX10_goThrough_30 rfl rfl (by decide) rfl ?_
      refine tt_goto (tgt := 9) dX10_goThrough_33 rfl ?_
      obtain ⟨u1, u2⟩ := cl_up hx2
      refine tt_loc (ks := [1, 2, 0]) rfl (ih S2 (x2 + 1) (lp_fu hf hx2) hG2 hA2 u2 (fun T g1 g2 g3 => K T g1 g2 ?_))
      have iN : (4856 + x2).toNatClampNeg = 4856 + x2.toNatClampNeg := ix_add (b := 4856) (B := 4856) rfl hx2
      have e : sg S2 = wC R m (sg S1) (4856 + x2.toNatClampNeg) (cC R m (sg S1) (24 * a.toNatClampNeg + x2.toNatClampNeg)) := by
        have e2 : sg S2 = Z_X10_copy R (sg S1) m (4856 + x2) (24 * a + x2) := hx9
        rw [e2, zj_copy hD, iN, ix_24 h1 hx2]
      rw [e, u1] at g3
      exact cp_step hD (Or.inr (by omega)) (cl_23 hx2) g3
theorem cg_goThrough (hG : GI S E) (h0 : Oa S E 10 0 m) (h1 : Rg 0 199 a) (hR : RK S R) (hD : D4 R m) (hD9 : D9 R m) (hD8 : D8 R m) (hb : BR S E m bs n) (hB : ∀ i, Rg 0 255 (bs i)) (hlt : a < n) (hT : RTb R m (sg S) t) (hw : ¬ (t a.toNatClampNeg).2.1 = 0) (hP : ∀ r T x y, PV E [654, 655, 656, 657, 658, 659, 661, 662, 672, 673, 674, 675, 676, 9988, 9989, 9998] S kc nc rV (fun _ T => RTb R m (sg T) (A_go n t a (IA bs n a)) ∧ ∀ j, 4880 ≤ j → j < 4904 → cC R m (sg T) j = cC R m (sg S) j) [] r T x y → P r T x y) : TT xi M_X10_goThrough 0 [(0, .ref m), (1, .int a)] [] S kc nc P := by
  have hA : Af E [654, 655, 656, 657, 658, 659, 661, 662, 672, 673, 674, 675, 676, 9988, 9989, 9998] S S := af_rf
  have l1 : a.toNatClampNeg < 200 := rg_cl h1
  have hb2 := hb
  obtain ⟨-, -, -, -, hn0⟩ := hb2
  have hn : Rg 0 200 n := by rw [← hn0]; exact gi_I (k := 642) hG h0 0 200
  refine tt_aload_n (j := 0) dX10_goThrough_0 rfl ?_
  have hr1 := rk_R (k := 648) hR h0 34 201
  have ho1 := rk_O (k := 648) hG hR h0 34 201
  refine gt_gR (id := 648) dX10_goThrough_1 fl_10_29 rfl rfl h0 hA hr1 ?_
  refine tt_iload_n (j := 1) dX10_goThrough_4 rfl ?_
  refine tt_iconst (v := 0) dX10_goThrough_5 rfl ?_
  refine gx_zS dX10_goThrough_6 ho1 hA (Or.inl (by decide)) (rg_in h1) hG (rg_w (⟨by decide, by decide⟩ : Rg 0 0 0)) rfl (fun S1 hG1 hA1 e1 => ?_)
  refine tt_iconst (v := 0) dX10_goThrough_7 rfl ?_
  refine tt_istore_n (ks := [0, 1, 2]) (L' := [(2, .int 0), (0, .ref m), (1, .int a)]) dX10_goThrough_8 (by decide) rfl ?_
  refine tt_loc (ks := [1, 2, 0]) rfl (lp_g9 h0 h1 hR hD 25 S1 0 (by decide) hG1 hA1 ⟨by decide, by decide⟩ (fun S2 hG2 hA2 hC => ?_))
  obtain ⟨c1, c2, c3⟩ := hC
  refine tt_aload_n (j := 0) dX10_goThrough_36 rfl ?_
  refine tt_sipush (v := 201) dX10_goThrough_37 rfl ?_
  refine tt_iload_n (j := 1) dX10_goThrough_40 rfl ?_
  refine gt_Vv (As := [.int 201, .int a]) dX10_goThrough_41 ca_X10_284 ⟨by decide, by decide⟩ h0 hA2 rfl (Nat.le_of_ble_eq_true rfl) (Nat.le_of_ble_eq_true rfl) (by decide) (cz_X10_copyRecord hG2 (oa_af h0 hA2) (rg_w (⟨by decide, by decide⟩ : Rg 201 201 201)) (rg_w h1) (rk_af hR hA2) (fun _ _ _ _ h => h)) rfl (fun _ h => nomatch h) (fun S3 hx3 hG3 hB3 hA3 => ?_)
  have e3 : sg S3 = wQ R m (sg S2) 201 (rR R m (sg S2) a.toNatClampNeg) := by
    have e : sg S3 = Z_X10_copyRecord R (sg S2) m 201 a := hx3
    rw [e, copyRecord_z hD9]
    rfl
  refine tt_aload_n (j := 0) dX10_goThrough_44 rfl ?_
  refine tt_iload_n (j := 1) dX10_goThrough_45 rfl ?_
  refine gt_VI (As := [.int a]) dX10_goThrough_46 ca_X10_155 ⟨by decide, by decide⟩ h0 hA3 rfl (Nat.le_of_ble_eq_true rfl) (Nat.le_of_ble_eq_true rfl) (by decide) (ce_X10_read hG3 (oa_af h0 hA3) (rg_w h1) (br_af hb h0 hA3) (fun _ _ _ _ h => h)) rfl (fun _ h => nomatch h) (fun S4 x4 h4 hx4 hG4 hB4 hA4 => ?_)
  -- what is there now
  have i648 : ∀ j, mi (sg S1) (R 648 m) j = if j = a.toNatClampNeg then 0 else mi (sg S) (R 648 m) j := fun j => by
    rw [e1, mi_ui]
    by_cases e : j = a.toNatClampNeg
    · rw [if_pos ⟨rfl, e⟩, if_pos e]
    · rw [if_neg (fun z => e z.2), if_neg e]
  have o1 : ∀ b, b ≠ R 648 m → mi (sg S1) b = mi (sg S) b := fun b hb => by
    funext j
    rw [e1, mi_ui, if_neg (fun z => hb z.1)]
  have C1 : ∀ j, cC R m (sg S1) j = cC R m (sg S) j := fun j => by
    unfold cC
    rw [o1 _ hD8.2.2.1.symm, e1]
    rfl
  have R1 : ∀ j, rR R m (sg S1) j = rR R m (sg S) j := fun j => by
    unfold rR
    rw [o1 _ hD8.2.2.2.1.symm, o1 _ hD8.2.2.2.2.1.symm, o1 _ hD8.2.2.2.2.2.symm, e1]
    rfl
  have R2 : ∀ j, rR R m (sg S2) j = rR R m (sg S) j := fun j => (rR_fx hD9 c1).trans (R1 j)
  have hR3 := rk_af hR hA3
  have h03 := oa_af h0 hA3
  have C4 : ∀ j, cC R m (sg S4) j = cC R m (sg S2) j := fun j => by rw [af_cC hG3 h03 hR3 hB4, e3, cC_wQ hD9]
  have R4 : ∀ j, j ≠ 201 → rR R m (sg S4) j = rR R m (sg S) j := fun j hj => by rw [af_rR hG3 h03 hR3 hB4, e3, rR_wQn hj, R2]
  have R4' : rR R m (sg S4) 201 = rR R m (sg S) a.toNatClampNeg := by rw [af_rR hG3 h03 hR3 hB4, e3, rR_wQ hD9, R2]
  have M7 : mi (sg S4) (R 647 m) = mi (sg S) (R 647 m) := by rw [af_47 hG3 h03 hR3 hB4, e3, mi_wQo hD8.2.1.2.1 hD8.2.1.2.2.1 hD8.2.1.2.2.2, c1.2.2.2.1 _ hD8.2.1.1, o1 _ hD8.1]
  have M8 : mi (sg S4) (R 648 m) = mi (sg S1) (R 648 m) := by rw [af_48 hG3 h03 hR3 hB4, e3, mi_wQo hD8.2.2.2.1 hD8.2.2.2.2.1 hD8.2.2.2.2.2, c1.2.2.2.1 _ hD8.2.2.1]
  have Clow : ∀ j, j < 4856 ∨ 4880 ≤ j → cC R m (sg S4) j = cC R m (sg S) j := fun j hj => by rw [C4, c1.2.2.1 j (fun z => by have := mem_rgl.mp z; omega), C1]
  have hT4 : RTb R m (sg S4) (A_cl t a.toNatClampNeg) := by
    intro i hi
    obtain ⟨g1, g2, g3⟩ := hT i hi
    have conv : ∀ p : Pt, p.1 = (t i).1 → p.2.1 = (if i = a.toNatClampNeg then 0 else (t i).2.1) → p.2.2 = (t i).2.2 → mi (sg S4) (R 647 m) i = p.1 ∧ mi (sg S4) (R 648 m) i = p.2.1 ∧ ((¬ p.1 = 0 ∨ ¬ p.2.1 = 0) → (∀ k, k < 24 → Gc (cC R m (sg S4) (24 * i + k)) ∧ ab (cC R m (sg S4) (24 * i + k)) = p.2.2.1 k) ∧ RRel p.2.2.2 (rR R m (sg S4) i)) := by
      intro p p1 p2 p3
      refine ⟨by rw [M7, p1]; exact g1, ?_, fun hg => ?_⟩
      · rw [M8, i648, p2, g2]
      · rw [p3]
        have hgo : ¬ (t i).1 = 0 ∨ ¬ (t i).2.1 = 0 := by
          rcases hg with hg | hg
          · exact Or.inl (by rw [← p1]; exact hg)
          · refine Or.inr (fun z => hg ?_)
            rw [p2, z, ite_self]
        obtain ⟨g4, g5⟩ := g3 hgo
        refine ⟨fun k hk => ?_, by rw [R4 i (by omega)]; exact g5⟩
        rw [Clow _ (by omega)]
        exact g4 k hk
    unfold A_cl upP
    by_cases e : i = a.toNatClampNeg
    · rw [if_pos e]
      exact conv _ (by rw [e]) (by rw [if_pos e]) (by rw [e])
    · rw [if_neg e]
      exact conv _ rfl (by rw [if_neg e]) rfl
  obtain ⟨g1, g2, g3⟩ := hT _ l1
  obtain ⟨g4, g5⟩ := g3 (Or.inr hw)
  have hN4 : ∀ k, k < 24 → Gc (cC R m (sg S4) (4856 + k)) ∧ ab (cC R m (sg S4) (4856 + k)) = (t a.toNatClampNeg).2.2.1 k := fun k hk => by
    rw [C4, c3 k hk, if_pos (show (0 : Int32).toNatClampNeg ≤ k from Nat.zero_le _), C1]
    exact g4 k hk
  have hr4 : RRel (t a.toNatClampNeg).2.2.2 (rR R m (sg S4) 201) := by rw [R4']; exact g5
  have hE4 : ∀ j, 4880 ≤ j → j < 4904 → cC R m (sg S4) j = cC R m (sg S) j := fun j h _ => Clow j (Or.inr h)
  have hx5 : XIR (F_X10_read bs n (StR S3 m) a) S4 m (some (.int x4)) := hx4
  have hF : FIN (IA bs n a) (F_X10_read bs n (StR S3 m) a).1 (F_X10_read bs n (StR S3 m) a).2 := dec hn hB h1 hlt
  rw [← xiR_v hx5, ← hx5.2] at hF
  have stop : (e7 (IA bs n a) = -1 ∨ e7 (IA bs n a) = 22) → TT xi M_X10_goThrough 61 [(0, .ref m), (1, .int a), (2, .int 24)] [] S4 kc nc P := fun z => by
    refine tt_vreturn dX10_goThrough_61 rfl (hP _ _ _ _ ⟨hG4, hA4, Or.inl ⟨_, rfl, rfl, ⟨?_, hE4⟩, rfl, rfl⟩⟩)
    unfold A_go
    rcases z with z | z
    · rw [if_pos z]; exact hT4
    · by_cases z1 : e7 (IA bs n a) = -1
      · rw [if_pos z1]; exact hT4
      · rw [if_neg z1, if_pos z]; exact hT4
  refine tt_if_eq (tgt := 61) dX10_goThrough_49 rfl (fun q => ?_) (fun q => ?_)
  · refine stop (Or.inl ?_)
    rcases hF with ⟨z, -⟩ | ⟨-, z, -⟩
    · exact z
    · exact absurd (z.symm.trans q) n10
  · obtain ⟨f7, hI⟩ := ri_mk hn hB h1 hF q rfl
    refine tt_aload_n (j := 0) dX10_goThrough_52 rfl ?_
    refine tt_getI (id := 655) dX10_goThrough_53 fl_10_107 rfl rfl (ob_af h0 hA4) ?_
    refine tt_bipush (v := 22) dX10_goThrough_56 rfl ?_
    have i7 : hp_I S4 655 m = e7 (IA bs n a) := hI.2.1
    refine tt_icmp_ne (tgt := 62) dX10_goThrough_58 rfl (fun q2 => ?_) (fun q2 => ?_)
    · rw [i7] at q2
      have f22 : ¬ e7 (IA bs n a) = 22 := q2
      refine tt_loc (ks := [0, 1]) rfl (cz_X10_goThrough_p62 hG4 (oa_af h0 hA4) h1 (rk_af hR hA4) (fun z => ?_) (fun r T x y h => ?_))
      · have z2 : e7 (IA bs n a) < 19 := by
          rw [show mI (sg S4) 655 m = e7 (IA bs n a) from i7] at z
          exact nle_lt z
        have hd := hI.2.2.2.2.2.2.2.1 z2
        refine ⟨?_, ?_⟩
        · rw [hI.2.2.2.1]; exact hd.2.2.2.2.2.1
        · rw [hI.2.2.2.2.1]; exact hd.2.2.2.2.2.2.1
      · obtain ⟨u1, u2, ⟨v, rfl, hv, hs, rfl, rfl⟩ | ⟨X, hX, -⟩⟩ := h
        · obtain ⟨p1, p2⟩ := p62_ok (σ := sg S4) (a := a) (n := n) (p := t a.toNatClampNeg) hD hD9 hD8 ((i_af (k := 642) h0 hA4).trans hn0) hn hT4 hN4 hr4 hI
          have hs2 : sg T = Z_X10_goThrough_p62 R (sg S4) m a := hs
          refine hP _ _ _ _ ⟨u1, af_tr hA4 u2, Or.inl ⟨_, rfl, hv, ⟨?_, fun j h1 h2 => ?_⟩, rfl, rfl⟩⟩
          · rw [hs2]
            unfold A_go
            rw [if_neg f7, if_neg f22]
            exact p1
          · rw [hs2, p2.2.2 j h1 h2]; exact hE4 j h1 h2
        · cases hX
    · rw [i7] at q2
      exact stop (Or.inr q2)
end RGM
