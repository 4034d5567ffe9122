/-! looking, in the reference -/
def T0 : Tb := fun _ => (0, 0, (fun _ => (0, 0, 0)), (0, 0, 0, 0))
/-- the entry's table -/
def TE (n : Int32) (f : Nat → Tr) (r : Rc) : Tb := A_arr n T0 0 0 f r
def IAn (bs : Nat → Int32) (n : Int32) : Nat → DD := fun k => IA bs n (Int32.ofNat k)
/-- what was found: how often, and the sets -/
def RTg (R : Nat → Nat → Nat) (m : Nat) (σ : SG) (t : Tb) : Prop := ∀ i, i < 200 → mi σ (R 647 m) i = (t i).1 ∧ (¬ (t i).1 = 0 → ∀ k, k < 24 → Gc (cC R m σ (24 * i + k)) ∧ ab (cC R m σ (24 * i + k)) = (t i).2.2.1 k)
def CLs (R : Nat → Nat → Nat) (m : Nat) (σ ρ : SG) (x : Nat) : Prop := (∀ j, cC R m ρ j = cC R m σ j) ∧ ∀ j, j < x → mi ρ (R 647 m) j = 0 ∧ mi ρ (R 648 m) j = 0
/-- the entry's cells -/
def Ge (R : Nat → Nat → Nat) (m : Nat) (σ ρ : SG) : Prop := ∀ j, 4880 ≤ j → j < 4904 → cC R m ρ j = cC R m σ j
theorem cl_upg {x : Int32} {hi : Int} (h : Rg 0 hi x) (h1 : hi ≤ 1000 := by decide) : (x + 1).toNatClampNeg = x.toNatClampNeg + 1 ∧ Rg 0 (hi + 1) (x + 1) ∧ (x + 1).toInt = x.toInt + 1 := by
  have e : (x + 1).toInt = x.toInt + 1 := by have := h.1; have := h.2; rw [Int32.toInt_add, show (1 : Int32).toInt = 1 from rfl, bmod_in (by omega) (by omega)]
  have e1 : x.toNatClampNeg = x.toInt.toNat := rfl
  have e2 : (x + 1).toNatClampNeg = (x + 1).toInt.toNat := rfl
  have := h.1
  have := h.2
  refine ⟨by omega, ⟨by omega, by omega⟩, e⟩
theorem of_cl {x : Int32} {hi : Int} (h : Rg 0 hi x) : Int32.ofNat x.toNatClampNeg = x := of_tn h.1
theorem te_0 {n : Int32} {f : Nat → Tr} {r : Rc} (h : n = 0) : TE n f r = T0 := by
  subst h
  unfold TE A_arr
  exact if_neg (fun z => absurd z.2 (by decide))
theorem te_p {n : Int32} {f : Nat → Tr} {r : Rc} (h : Rg 1 200 n) : TE n f r = upP T0 0 (1, 1, f, r) := by
  unfold TE A_arr
  have hl : (0 : Int64) < n.toInt64 := by
    rw [Int64.lt_iff_toInt_lt, Int32.toInt_toInt64, show (0 : Int64).toInt = 0 from rfl]
    have := h.1
    omega
  rw [if_pos ⟨by decide, hl⟩]
  have e : A_pt (wdn (0 : Int64).toInt32 0 (T0 (0 : Int64).toInt32.toNatClampNeg).1) (T0 (0 : Int64).toInt32.toNatClampNeg) f r = (1, 1, f, r) := by
    unfold A_pt
    exact if_pos rfl
  rw [e]
  rfl
section RLK
variable {xi : SX} {S S0 T : Hp} {E ws : List Nat} {kc nc m : Nat} {P : Po} {x1 x2 n : Int32} {R : Nat → Nat → Nat} {t u : Tb} {bs : Nat → Int32} {σ0 : SG} {f : Nat → Tr} {r : Rc}
theorem lk_7 (h0 : Oa S E 10 0 m) (hGS : GI S E) (hR : RK S R) (hD8 : D8 R m) : ∀ (fu : Nat) (S1 : Hp) (x1 : Int32), (201 - x1.toInt).toNat < fu → GI S1 E → Af E [640, 653, 654, 655, 656, 657, 658, 659, 661, 662, 672, 673, 674, 675, 676, 9988, 9989, 9998] S S1 → Rg 0 201 x1 → CLs R m σ0 (sg S1) x1.toNatClampNeg → (∀ T, GI T E → Af E [640, 653, 654, 655, 656, 657, 658, 659, 661, 662, 672, 673, 674, 675, 676, 9988, 9989, 9998] S T → CLs R m σ0 (sg T) 201 → TT xi M_X10_look 34 [(0, .ref m), (1, .int 201)] [] T kc nc P) → TT xi M_X10_look 7 [(0, .ref m), (1, .int x1)] [] S1 kc nc P := by
  intro fu
  induction fu with
  | zero => intro S1 x1 h; exact absurd h (Nat.not_lt_zero _)
  | succ fu ih =>
    intro S1 x1 hf hG1 hA1 hx hC K
    refine tt_iload_n (j := 1) dX10_look_7 rfl ?_
    refine tt_sipush (v := 200) dX10_look_8 rfl ?_
    refine tt_icmp_gt (tgt := 34) dX10_look_11 rfl (fun q => ?_) (fun q => ?_)
    · have h2 : Rg 201 201 x1 := rg_lt_r (⟨by decide, by decide⟩ : Rg 200 200 200) hx q
      obtain rfl : x1 = 201 := rg_eqc h2
      exact K S1 hG1 hA1 hC
    · have h2 : Rg 0 200 x1 := rg_le_l hx (⟨by decide, by decide⟩ : Rg 200 200 200) (nlt_le q)
      refine tt_aload_n (j := 0) dX10_look_14 rfl ?_
      refine gt_gR (id := 647) dX10_look_15 fl_10_26 rfl rfl h0 hA1 (rk_R (k := 647) hR h0 32 201) ?_
      refine tt_iload_n (j := 1) dX10_look_18 rfl ?_
      refine tt_iconst (v := 0) dX10_look_19 rfl ?_
      refine gx_iS dX10_look_20 (rk_O (k := 647) hGS hR h0 32 201) hA1 (Or.inl (by decide)) (rg_in h2) hG1 (by decide) rfl (fun S2 hG2 hA2 e2 => ?_)
      refine tt_aload_n (j := 0) dX10_look_21 rfl ?_
      refine gt_gR (id := 648) dX10_look_22 fl_10_29 rfl rfl h0 hA2 (rk_R (k := 648) hR h0 34 201) ?_
      refine tt_iload_n (j := 1) dX10_look_25 rfl ?_
      refine tt_iconst (v := 0) dX10_look_26 rfl ?_
      refine gx_zS dX10_look_27 (rk_O (k := 648) hGS hR h0 34 201) hA2 (Or.inl (by decide)) (rg_in h2) hG2 (rg_w (⟨by decide, by decide⟩ : Rg 0 0 0)) e2 (fun S3 hG3 hA3 e3 => ?_)
      refine tt_iinc (j := 1) (v := (x1 + 1)) (ks := [0, 1]) (L' := [(1, .int (x1 + 1)), (0, .ref m)]) dX10_look_28 rfl rfl (by decide) rfl ?_
      refine tt_goto (tgt := 7) dX10_look_31 rfl ?_
      obtain ⟨u1, u2, -⟩ := cl_upg h2
      have e4 : sg S3 = wG R m (sg S1) x1.toNatClampNeg 0 0 := e3
      refine tt_loc (ks := [1, 0]) rfl (ih S3 (x1 + 1) (lp_fu hf h2) hG3 hA3 u2 ⟨fun j => ?_, fun j hj => ?_⟩ K)
      · rw [e4, wG_cC hD8]; exact hC.1 j
      · rw [e4, wG_g hD8, wG_c hD8]
        rw [u1] at hj
        by_cases e : j = x1.toNatClampNeg
        · rw [if_pos e, if_pos e]; exact ⟨rfl, rfl⟩
        · rw [if_neg e, if_neg e]; exact hC.2 j (by omega)
theorem lk_71 (h0 : Oa S E 10 0 m) (hR : RK S R) (hD : D4 R m) : ∀ (fu : Nat) (S1 : Hp) (x2 : Int32), (24 - x2.toInt).toNat < fu → GI S1 E → Af E [640, 653, 654, 655, 656, 657, 658, 659, 661, 662, 672, 673, 674, 675, 676, 9988, 9989, 9998] S S1 → Rg 0 24 x2 → (∀ T, GI T E → Af E [640, 653, 654, 655, 656, 657, 658, 659, 661, 662, 672, 673, 674, 675, 676, 9988, 9989, 9998] S T → CPl R m 0 4880 (sg S1) (sg T) x2.toNatClampNeg → TT xi M_X10_look 93 [(0, .ref m), (1, .int 24)] [] T kc nc P) → TT xi M_X10_look 71 [(0, .ref m), (1, .int x2)] [] S1 kc nc P := by
  intro fu
  induction fu with
  | zero => intro S1 x2 h; exact absurd h (Nat.not_lt_zero _)
  | succ fu ih =>
    intro S1 x2 hf hG1 hA1 hx K
    refine tt_iload_n (j := 1) dX10_look_71 rfl ?_
    refine tt_bipush (v := 24) dX10_look_72 rfl ?_
    refine tt_icmp_ge (tgt := 93) dX10_look_74 rfl (fun q => ?_) (fun q => ?_)
    · have h24 : Rg 24 24 x2 := rg_le_r (⟨by decide, by decide⟩ : Rg 24 24 24) hx q
      obtain rfl : x2 = 24 := rg_eqc h24
      exact K S1 hG1 hA1 cp_base
    · have hx2 : Rg 0 23 x2 := rg_lt_l hx (⟨by decide, by decide⟩ : Rg 24 24 24) (nle_lt q)
      refine tt_aload_n (j := 0) dX10_look_77 rfl ?_
      refine tt_iload_n (j := 1) dX10_look_78 rfl ?_
      refine tt_sipush (v := 4880) dX10_look_79 rfl ?_
      refine tt_iload_n (j := 1) dX10_look_82 rfl ?_
      refine tt_iadd dX10_look_83 ?_
      refine gt_Vv (As := [.int x2, .int (4880 + x2)]) dX10_look_84 ca_X10_169 ⟨by decide, by decide⟩ h0 hA1 rfl (Nat.le_of_ble_eq_true rfl) (Nat.le_of_ble_eq_true rfl) (by decide) (cz_X10_copy hG1 (oa_af h0 hA1) (rg_w hx2) (rg_w (rg_add (lo := 4880) (hi := 4903) (⟨by decide, by decide⟩ : Rg 4880 4880 4880) hx2)) (rk_af hR hA1) (fun _ _ _ _ h => h)) rfl (fun _ h => nomatch h) (fun S2 hx9 hG2 hB2 hA2 => ?_)
      refine tt_iinc (j := 1) (v := (x2 + 1)) (ks := [0, 1]) (L' := [(1, .int (x2 + 1)), (0, .ref m)]) dX10_look_87 rfl rfl (by decide) rfl ?_
      refine tt_goto (tgt := 71) dX10_look_90 rfl ?_
      obtain ⟨u1, u2⟩ := cl_up hx2
      refine tt_loc (ks := [1, 0]) rfl (ih S2 (x2 + 1) (lp_fu hf hx2) hG2 hA2 u2 (fun T g1 g2 g3 => K T g1 g2 ?_))
      have iN : (4880 + x2).toNatClampNeg = 4880 + x2.toNatClampNeg := ix_add (b := 4880) (B := 4880) rfl hx2
      have e : sg S2 = wC R m (sg S1) (0 + x2.toNatClampNeg) (cC R m (sg S1) (4880 + x2.toNatClampNeg)) := by
        have e2 : sg S2 = Z_X10_copy R (sg S1) m x2 (4880 + x2) := hx9
        rw [e2, zj_copy hD, iN, Nat.zero_add]
      rw [e, u1] at g3
      exact cp_step hD (Or.inl (by omega)) (cl_23 hx2) g3
/-- one ROUND -/
theorem lk_112 (h0 : Oa S E 10 0 m) (hGS : GI S E) (hR : RK S R) (hD : D4 R m) (hD9 : D9 R m) (hD8 : D8 R m) (hb : BR S E m bs n) (hB : ∀ i, Rg 0 255 (bs i)) (hn : Rg 1 200 n) : ∀ (fu : Nat) (S1 : Hp) (x3 : Int32), (200 - x3.toInt).toNat < fu → GI S1 E → Af E [640, 653, 654, 655, 656, 657, 658, 659, 661, 662, 672, 673, 674, 675, 676, 9988, 9989, 9998] S S1 → Rg 0 200 x3 → x3.toInt ≤ n.toInt → RTb R m (sg S1) (A_rd n (IAn bs n) x3.toNatClampNeg u) → Ge R m σ0 (sg S1) → (∀ T, GI T E → Af E [640, 653, 654, 655, 656, 657, 658, 659, 661, 662, 672, 673, 674, 675, 676, 9988, 9989, 9998] S T → RTb R m (sg T) (A_rd n (IAn bs n) n.toNatClampNeg u) → Ge R m σ0 (sg T) → TT xi M_X10_look 140 [(0, .ref m), (1, .int x1), (2, .int x2), (3, .int n)] [] T kc nc P) → TT xi M_X10_look 112 [(0, .ref m), (1, .int x1), (2, .int x2), (3, .int x3)] [] S1 kc nc P := by
  intro fu
  induction fu with
  | zero => intro S1 x3 h; exact absurd h (Nat.not_lt_zero _)
  | succ fu ih =>
    intro S1 x3 hf hG1 hA1 hx hle hT hE K
    obtain ⟨-, -, -, -, hn0⟩ := id hb
    refine tt_iload_n (j := 3) dX10_look_112 rfl ?_
    refine tt_aload_n (j := 0) dX10_look_113 rfl ?_
    refine gt_gI (id := 642) (v := n) dX10_look_114 fl_10_71 rfl rfl h0 hA1 ((i_af (k := 642) h0 hA1).trans hn0) ?_
    refine tt_icmp_ge (tgt := 140) dX10_look_117 rfl (fun q => ?_) (fun q => ?_)
    · have l := Int32.le_iff_toInt_le.mp q
      obtain rfl : x3 = n := Int32.toInt_inj.mp (by omega)
      exact K S1 hG1 hA1 hT hE
    · have l := Int32.lt_iff_toInt_lt.mp (nle_lt q)
      have h3 : Rg 0 199 x3 := ⟨hx.1, by have := hn.2; omega⟩
      obtain ⟨u1, u2, u3⟩ := cl_upg h3
      refine tt_aload_n (j := 0) dX10_look_120 rfl ?_
      refine gt_gR (id := 648) dX10_look_121 fl_10_29 rfl rfl h0 hA1 (rk_R (k := 648) hR h0 34 201) ?_
      refine tt_iload_n (j := 3) dX10_look_124 rfl ?_
      refine gx_zL dX10_look_125 (rk_O (k := 648) hGS hR h0 34 201) hA1 (rg_in h3) rfl ?_
      have c8 : hp_i S1 (R 648 m) x3.toNatClampNeg = (A_rd n (IAn bs n) x3.toNatClampNeg u x3.toNatClampNeg).2.1 := (hT _ (rg_cl h3)).2.1
      have J : ∀ S2, GI S2 E → Af E [640, 653, 654, 655, 656, 657, 658, 659, 661, 662, 672, 673, 674, 675, 676, 9988, 9989, 9998] S S2 → RTb R m (sg S2) (A_rd n (IAn bs n) (x3.toNatClampNeg + 1) u) → Ge R m σ0 (sg S2) → TT xi M_X10_look 134 [(0, .ref m), (1, .int x1), (2, .int x2), (3, .int x3)] [] S2 kc nc P := by
        intro S2 hG2 hA2 hT2 hE2
        refine tt_iinc (j := 3) (v := (x3 + 1)) (ks := [0, 1, 2, 3]) (L' := [(3, .int (x3 + 1)), (0, .ref m), (1, .int x1), (2, .int x2)]) dX10_look_134 rfl rfl (by decide) rfl ?_
        refine tt_goto (tgt := 112) dX10_look_137 rfl ?_
        exact tt_loc (ks := [1, 2, 3, 0]) rfl (ih S2 (x3 + 1) (lp_fu hf h3) hG2 hA2 u2 (by omega) (by rw [u1]; exact hT2) hE2 K)
      refine tt_if_eq (tgt := 134) dX10_look_126 rfl (fun q2 => ?_) (fun q2 => ?_)
      · rw [c8] at q2
        refine J S1 hG1 hA1 ?_ hE
        unfold A_rd
        rw [if_pos q2]
        exact hT
      · rw [c8] at q2
        refine tt_aload_n (j := 0) dX10_look_129 rfl ?_
        refine tt_iload_n (j := 3) dX10_look_130 rfl ?_
        refine gt_Vv (As := [.int x3]) dX10_look_131 ca_X10_307 ⟨by decide, by decide⟩ h0 hA1 rfl (Nat.le_of_ble_eq_true rfl) (Nat.le_of_ble_eq_true rfl) (by decide) (cg_goThrough hG1 (oa_af h0 hA1) h3 (rk_af hR hA1) hD hD9 hD8 (br_af hb h0 hA1) hB (nle_lt q) hT q2 (fun _ _ _ _ h => h)) rfl (fun _ h => nomatch h) (fun S2 hx2 hG2 hB2 hA2 => ?_)
        refine J S2 hG2 hA2 ?_ (fun j a b => (hx2.2 j a b).trans (hE j a b))
        unfold A_rd
        rw [if_neg q2, of_cl h3]
        have e : IAn bs n x3.toNatClampNeg = IA bs n x3 := by unfold IAn; rw [of_cl h3]
        rw [e]
        exact hx2.1
/-- is there more to do -/
theorem lk_144 (h0 : Oa S E 10 0 m) (hGS : GI S E) (hR : RK S R) (hb : BR S E m bs n) (hn : Rg 1 200 n) {S1 : Hp} (hA1 : Af E [640, 653, 654, 655, 656, 657, 658, 659, 661, 662, 672, 673, 674, 675, 676, 9988, 9989, 9998] S S1) (hT : RTb R m (sg S1) u) (K : ∀ x2, Rg 0 1 x2 → (x2 = 0 ↔ Idle n u) → TT xi M_X10_look 97 [(0, .ref m), (1, .int x1), (2, .int x2)] [] S1 kc nc P) : ∀ (fu : Nat) (x2 x3 : Int32), (200 - x3.toInt).toNat < fu → Rg 0 1 x2 → Rg 0 200 x3 → x3.toInt ≤ n.toInt → (x2 = 0 ↔ ∀ i, i < x3.toNatClampNeg → (u i).2.1 = 0) → TT xi M_X10_look 144 [(0, .ref m), (1, .int x1), (2, .int x2), (3, .int x3)] [] S1 kc nc P := by
  intro fu
  induction fu with
  | zero => intro x2 x3 h; exact absurd h (Nat.not_lt_zero _)
  | succ fu ih =>
    intro x2 x3 hf h2 hx hle hi
    obtain ⟨-, -, -, -, hn0⟩ := id hb
    refine tt_iload_n (j := 3) dX10_look_144 rfl ?_
    refine tt_aload_n (j := 0) dX10_look_145 rfl ?_
    refine gt_gI (id := 642) (v := n) dX10_look_146 fl_10_71 rfl rfl h0 hA1 ((i_af (k := 642) h0 hA1).trans hn0) ?_
    refine tt_icmp_ge (tgt := 177) dX10_look_149 rfl (fun q => ?_) (fun q => ?_)
    · have l := Int32.le_iff_toInt_le.mp q
      obtain rfl : x3 = n := Int32.toInt_inj.mp (by omega)
      refine tt_goto (tgt := 97) dX10_look_177 rfl ?_
      exact tt_loc (ks := [0, 1, 2]) rfl (K x2 h2 hi)
    · have l := Int32.lt_iff_toInt_lt.mp (nle_lt q)
      have h3 : Rg 0 199 x3 := ⟨hx.1, by have := hn.2; omega⟩
      obtain ⟨u1, u2, u3⟩ := cl_upg h3
      refine tt_iload_n (j := 2) dX10_look_152 rfl ?_
      have J : ∀ x, Rg 0 1 x → (x = 0 ↔ ∀ i, i < x3.toNatClampNeg + 1 → (u i).2.1 = 0) → TT xi M_X10_look 170 [(0, .ref m), (1, .int x1), (2, .int x2), (3, .int x3)] [.int x] S1 kc nc P := by
        intro x hx1 hx2
        refine tt_istore_n (ks := [0, 1, 2, 3]) (L' := [(2, .int x), (0, .ref m), (1, .int x1), (3, .int x3)]) dX10_look_170 (by decide) rfl ?_
        refine tt_iinc (j := 3) (v := (x3 + 1)) (ks := [0, 1, 2, 3]) (L' := [(3, .int (x3 + 1)), (2, .int x), (0, .ref m), (1, .int x1)]) dX10_look_171 rfl rfl (by decide) rfl ?_
        refine tt_goto (tgt := 144) dX10_look_174 rfl ?_
        exact tt_loc (ks := [2, 3, 1, 0]) rfl (ih x (x3 + 1) (lp_fu hf h3) hx1 u2 (by omega) (by rw [u1]; exact hx2))
      have J1 : (¬ ∀ i, i < x3.toNatClampNeg + 1 → (u i).2.1 = 0) → TT xi M_X10_look 165 [(0, .ref m), (1, .int x1), (2, .int x2), (3, .int x3)] [] S1 kc nc P := by
        intro z
        refine tt_iconst (v := 1) dX10_look_165 rfl ?_
        refine tt_goto (tgt := 170) dX10_look_166 rfl ?_
        exact J 1 ⟨by decide, by decide⟩ ⟨fun h => absurd h (by decide), fun h => absurd h z⟩
      refine tt_if_ne (tgt := 165) dX10_look_153 rfl (fun q2 => ?_) (fun q2 => ?_)
      · exact J1 (fun z => q2 (hi.mpr (fun i h => z i (by omega))))
      · refine tt_aload_n (j := 0) dX10_look_156 rfl ?_
        refine gt_gR (id := 648) dX10_look_157 fl_10_29 rfl rfl h0 hA1 (rk_R (k := 648) hR h0 34 201) ?_
        refine tt_iload_n (j := 3) dX10_look_160 rfl ?_
        refine gx_zL dX10_look_161 (rk_O (k := 648) hGS hR h0 34 201) hA1 (rg_in h3) rfl ?_
        have c8 : hp_i S1 (R 648 m) x3.toNatClampNeg = (u x3.toNatClampNeg).2.1 := (hT _ (rg_cl h3)).2.1
        refine tt_if_eq (tgt := 169) dX10_look_162 rfl (fun q3 => ?_) (fun q3 => ?_)
        · rw [c8] at q3
          refine tt_iconst (v := 0) dX10_look_169 rfl ?_
          refine J 0 ⟨by decide, by decide⟩ ⟨fun _ i h => ?_, fun _ => rfl⟩
          by_cases e : i = x3.toNatClampNeg
          · rw [e]; exact q3
          · exact hi.mp q2 i (by omega)
        · rw [c8] at q3
          exact J1 (fun z => q3 (z _ (by omega)))
/-- TIRED -/
theorem lk_191 (h0 : Oa S E 10 0 m) (hGS : GI S E) (hR : RK S R) (hD8 : D8 R m) : ∀ (fu : Nat) (S1 : Hp) (x3 : Int32), (201 - x3.toInt).toNat < fu → GI S1 E → Af E [640, 653, 654, 655, 656, 657, 658, 659, 661, 662, 672, 673, 674, 675, 676, 9988, 9989, 9998] S S1 → Rg 0 201 x3 → (∀ j, cC R m (sg S1) j = cC R m σ0 j) → (∀ j, j < x3.toNatClampNeg → mi (sg S1) (R 647 m) j = 0) → (∀ T, GI T E → Af E [640, 653, 654, 655, 656, 657, 658, 659, 661, 662, 672, 673, 674, 675, 676, 9988, 9989, 9998] S T → (∀ j, cC R m (sg T) j = cC R m σ0 j) → (∀ j, j < 201 → mi (sg T) (R 647 m) j = 0) → TT xi M_X10_look 211 [(0, .ref m), (1, .int x1), (2, .int x2), (3, .int 201)] [] T kc nc P) → TT xi M_X10_look 191 [(0, .ref m), (1, .int x1), (2, .int x2), (3, .int x3)] [] S1 kc nc P := by
  intro fu
  induction fu with
  | zero => intro S1 x3 h; exact absurd h (Nat.not_lt_zero _)
  | succ fu ih =>
    intro S1 x3 hf hG1 hA1 hx hC h7 K
    refine tt_iload_n (j := 3) dX10_look_191 rfl ?_
    refine tt_sipush (v := 200) dX10_look_192 rfl ?_
    refine tt_icmp_gt (tgt := 211) dX10_look_195 rfl (fun q => ?_) (fun q => ?_)
    · have h2 : Rg 201 201 x3 := rg_lt_r (⟨by decide, by decide⟩ : Rg 200 200 200) hx q
      obtain rfl : x3 = 201 := rg_eqc h2
      exact K S1 hG1 hA1 hC h7
    · have h2 : Rg 0 200 x3 := rg_le_l hx (⟨by decide, by decide⟩ : Rg 200 200 200) (nlt_le q)
      refine tt_aload_n (j := 0) dX10_look_198 rfl ?_
      refine gt_gR (id := 647) dX10_look_199 fl_10_26 rfl rfl h0 hA1 (rk_R (k := 647) hR h0 32 201) ?_
      refine tt_iload_n (j := 3) dX10_look_202 rfl ?_
      refine tt_iconst (v := 0) dX10_look_203 rfl ?_
      refine gx_iS dX10_look_204 (rk_O (k := 647) hGS hR h0 32 201) hA1 (Or.inl (by decide)) (rg_in h2) hG1 (by decide) rfl (fun S2 hG2 hA2 e2 => ?_)
      refine tt_iinc (j := 3) (v := (x3 + 1)) (ks := [0, 1, 2, 3]) (L' := [(3, .int (x3 + 1)), (0, .ref m), (1, .int x1), (2, .int x2)]) dX10_look_205 rfl rfl (by decide) rfl ?_
      refine tt_goto (tgt := 191) dX10_look_208 rfl ?_
      obtain ⟨u1, u2, -⟩ := cl_upg h2
      refine tt_loc (ks := [1, 2, 3, 0]) rfl (ih S2 (x3 + 1) (lp_fu hf h2) hG2 hA2 u2 (fun j => ?_) (fun j hj => ?_) K)
      · rw [← hC j]
        unfold cC
        rw [e2, mi_ui, if_neg (fun z => hD8.2.1.1 z.1.symm)]
        rfl
      · rw [e2, mi_ui]
        rw [u1] at hj
        by_cases e : j = x3.toNatClampNeg
        · rw [if_pos ⟨rfl, e⟩]
        · rw [if_neg (fun z => e z.2)]; exact h7 j (by omega)
end RLK
