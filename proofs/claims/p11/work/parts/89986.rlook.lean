/-! looking, in the reference: the whole -/
section RLM
variable {xi : SX} {S S0 T : Hp} {E ws : List Nat} {kc nc m : Nat} {P : Po} {n : Int32} {R : Nat → Nat → Nat} {t u : Tb} {bs : Nat → Int32} {σ σ0 : SG} {f : Nat → Tr} {r : Rc}
theorem rtg_b (h : RTb R m σ t) : RTg R m σ t := fun i hi => ⟨(h i hi).1, fun hg => ((h i hi).2.2 (Or.inl hg)).1⟩
theorem rtg_0 (h : ∀ j, j < 200 → mi σ (R 647 m) j = 0) : RTg R m σ T0 := fun i hi => ⟨h i hi, fun hg => absurd rfl hg⟩
abbrev LKp (R : Nat → Nat → Nat) (m : Nat) (n : Int32) (bs : Nat → Int32) (t : Tb) (σ0 : SG) : Option Value → Hp → Prop := fun v T => ∃ x u, v = some (.int x) ∧ Res n (IAn bs n) t x u ∧ RTg R m (sg T) (if x = -1 then T0 else u) ∧ Ge R m σ0 (sg T)
theorem lk_97 (h0 : Oa S E 10 0 m) (hGS : GI S E) (hR : RK S R) (hD : D4 R m) (hD9 : D9 R m) (hD8 : D8 R m) (hb : BR S E m bs n) (hB : ∀ i, Rg 0 255 (bs i)) (hn : Rg 1 200 n) (hP : ∀ r T x y, PV E [640, 653, 654, 655, 656, 657, 658, 659, 661, 662, 672, 673, 674, 675, 676, 9988, 9989, 9998] S kc nc (rI (-2147483648) 2147483647) (LKp R m n bs t (sg S)) [] r T x y → P r T x y) : ∀ (fu : Nat) (S1 : Hp) (x1 x2 : Int32), (60 - x1.toInt).toNat < fu → GI S1 E → Af E [640, 653, 654, 655, 656, 657, 658, 659, 661, 662, 672, 673, 674, 675, 676, 9988, 9989, 9998] S S1 → Rg 0 60 x1 → Rg 0 1 x2 → RTb R m (sg S1) (A_it n (IAn bs n) x1.toNatClampNeg t) → Ge R m (sg S) (sg S1) → (x2 = 0 ↔ Idle n (A_it n (IAn bs n) x1.toNatClampNeg t)) → (∀ j, j < x1.toNatClampNeg → ¬ Idle n (A_it n (IAn bs n) j t)) → TT xi M_X10_look 97 [(0, .ref m), (1, .int x1), (2, .int x2)] [] S1 kc nc P := by
  intro fu
  induction fu with
  | zero => intro S1 x1 x2 h; exact absurd h (Nat.not_lt_zero _)
  | succ fu ih =>
    intro S1 x1 x2 hf hG1 hA1 hx1 hx2 hT hE hi hj
    refine tt_iload_n (j := 2) dX10_look_97 rfl ?_
    have J : (¬ x2 = 0 → x1.toNatClampNeg = 60) → TT xi M_X10_look 180 [(0, .ref m), (1, .int x1), (2, .int x2)] [] S1 kc nc P := by
      intro h60
      refine tt_iload_n (j := 2) dX10_look_180 rfl ?_
      refine tt_if_eq (tgt := 213) dX10_look_181 rfl (fun q => ?_) (fun q => ?_)
      · refine tt_iload_n (j := 1) dX10_look_213 rfl ?_
        have ne : ¬ x1 = -1 := rg_nec (v := -1) hx1
        refine tt_ireturn dX10_look_214 .int rfl rfl (hP _ _ _ _ ⟨hG1, hA1, Or.inl ⟨_, rfl, ⟨_, rfl, rg_w hx1⟩, ⟨x1, A_it n (IAn bs n) x1.toNatClampNeg t, rfl, Or.inl ⟨x1.toNatClampNeg, Nat.lt_succ_iff.mp (rg_cl hx1), hi.mp q, hj, (of_cl hx1).symm, rfl⟩, ?_, hE⟩, rfl, rfl⟩⟩)
        rw [if_neg ne]
        exact rtg_b hT
      · have e60 := h60 q
        refine tt_aload_n (j := 0) dX10_look_184 rfl ?_
        refine tt_iconst (v := 0) dX10_look_185 rfl ?_
        refine gx_pI (id := 653) (x := 0) dX10_look_186 fl_10_58 rfl rfl h0 hA1 rfl rfl rfl (gp_Ir hG1 (⟨by decide, by decide⟩ : Rg 0 0 0)) (by decide) (fun h => absurd h (by decide)) (fun h => absurd h (by decide)) rfl (fun S2 hG2 hA2 e2 => ?_)
        refine tt_iconst (v := 0) dX10_look_189 rfl ?_
        refine tt_istore_n (ks := [0, 1, 2, 3]) (L' := [(3, .int 0), (0, .ref m), (1, .int x1), (2, .int x2)]) dX10_look_190 (by decide) rfl ?_
        refine tt_loc (ks := [1, 2, 3, 0]) rfl (lk_191 (σ0 := sg S2) h0 hGS hR hD8 202 S2 0 (by decide) hG2 hA2 ⟨by decide, by decide⟩ (fun _ => rfl) (fun j hj => absurd hj (Nat.not_lt_zero _)) (fun S3 hG3 hA3 hC3 h73 => ?_))
        refine tt_iconst (v := (-1)) dX10_look_211 rfl ?_
        refine tt_ireturn dX10_look_212 .int rfl rfl (hP _ _ _ _ ⟨hG3, hA3, Or.inl ⟨_, rfl, ⟨_, rfl, rg_w (⟨by decide, by decide⟩ : Rg (-1) (-1) (-1))⟩, ⟨-1, T0, rfl, Or.inr ⟨fun j hj2 => ?_, rfl⟩, ?_, fun j a b => ?_⟩, rfl, rfl⟩⟩)
        · by_cases e : j < x1.toNatClampNeg
          · exact hj j e
          · have e2 : j = x1.toNatClampNeg := by omega
            rw [e2]
            exact fun z => q (hi.mpr z)
        · rw [if_pos rfl]
          exact rtg_0 (fun j hj => h73 j (by omega))
        · rw [hC3, e2]
          exact hE j a b
    refine tt_if_eq (tgt := 180) dX10_look_98 rfl (fun q => ?_) (fun q => ?_)
    · exact J (fun z => absurd q z)
    · refine tt_iload_n (j := 1) dX10_look_101 rfl ?_
      refine tt_bipush (v := 60) dX10_look_102 rfl ?_
      refine tt_icmp_ge (tgt := 180) dX10_look_104 rfl (fun q2 => ?_) (fun q2 => ?_)
      · have h60 : Rg 60 60 x1 := rg_le_r (⟨by decide, by decide⟩ : Rg 60 60 60) hx1 q2
        obtain rfl : x1 = 60 := rg_eqc h60
        exact J (fun _ => rfl)
      · have h59 : Rg 0 59 x1 := rg_lt_l hx1 (⟨by decide, by decide⟩ : Rg 60 60 60) (nle_lt q2)
        obtain ⟨u1, u2, u3⟩ := cl_upg h59
        refine tt_iinc (j := 1) (v := (x1 + 1)) (ks := [0, 1, 2]) (L' := [(1, .int (x1 + 1)), (0, .ref m), (2, .int x2)]) dX10_look_107 rfl rfl (by decide) rfl ?_
        refine tt_iconst (v := 0) dX10_look_110 rfl ?_
        refine tt_istore_n (ks := [0, 1, 2, 3]) (L' := [(3, .int 0), (1, .int (x1 + 1)), (0, .ref m), (2, .int x2)]) dX10_look_111 (by decide) rfl ?_
        refine tt_loc (ks := [2, 1, 3, 0]) rfl (tt_loc (ks := [0, 1, 2, 3]) rfl (lk_112 (u := A_it n (IAn bs n) x1.toNatClampNeg t) (σ0 := sg S) h0 hGS hR hD hD9 hD8 hb hB hn 201 S1 0 (by decide) hG1 hA1 ⟨by decide, by decide⟩ (by have := hn.1; rw [show (0 : Int32).toInt = 0 from rfl]; omega) hT hE (fun S2 hG2 hA2 hT2 hE2 => ?_)))
        refine tt_iconst (v := 0) dX10_look_140 rfl ?_
        refine tt_istore_n (ks := [0, 1, 2, 3]) (L' := [(2, .int 0), (0, .ref m), (1, .int (x1 + 1)), (3, .int n)]) dX10_look_141 (by decide) rfl ?_
        refine tt_iconst (v := 0) dX10_look_142 rfl ?_
        refine tt_istore_n (ks := [0, 1, 2, 3]) (L' := [(3, .int 0), (2, .int 0), (0, .ref m), (1, .int (x1 + 1))]) dX10_look_143 (by decide) rfl ?_
        refine tt_loc (ks := [2, 3, 1, 0]) rfl (tt_loc (ks := [0, 1, 2, 3]) rfl (lk_144 (u := A_rd n (IAn bs n) n.toNatClampNeg (A_it n (IAn bs n) x1.toNatClampNeg t)) h0 hGS hR hb hn hA2 hT2 (fun y hy hyi => ?_) 201 0 0 (by decide) ⟨by decide, by decide⟩ ⟨by decide, by decide⟩ (by have := hn.1; rw [show (0 : Int32).toInt = 0 from rfl]; omega) ⟨fun _ i h => absurd h (Nat.not_lt_zero _), fun _ => rfl⟩))
        refine ih S2 (x1 + 1) y (lp_fu hf h59) hG2 hA2 u2 hy ?_ hE2 ?_ (fun j hj2 => ?_)
        · rw [u1]; exact hT2
        · rw [u1]; exact hyi
        · rw [u1] at hj2
          by_cases e : j = x1.toNatClampNeg
          · rw [e]; exact fun z => q (hi.mpr z)
          · exact hj j (by omega)
theorem cg_look (hG : GI S E) (h0 : Oa S E 10 0 m) (hR : RK S R) (hD : D4 R m) (hD9 : D9 R m) (hD8 : D8 R m) (hb : BR S E m bs n) (hB : ∀ i, Rg 0 255 (bs i)) (hE : ∀ k, k < 24 → Gc (cC R m (sg S) (4880 + k)) ∧ ab (cC R m (sg S) (4880 + k)) = f k) (hr : r.1 = 0) (hP : ∀ r1 T x y, PV E [640, 653, 654, 655, 656, 657, 658, 659, 661, 662, 672, 673, 674, 675, 676, 9988, 9989, 9998] S kc nc (rI (-2147483648) 2147483647) (LKp R m n bs (TE n f r) (sg S)) [] r1 T x y → P r1 T x y) : TT xi M_X10_look 0 [(0, .ref m)] [] S kc nc P := by
  have hA : Af E [640, 653, 654, 655, 656, 657, 658, 659, 661, 662, 672, 673, 674, 675, 676, 9988, 9989, 9998] S S := af_rf
  obtain ⟨-, -, -, -, hn0⟩ := id hb
  have hn : Rg 0 200 n := by rw [← hn0]; exact gi_I (k := 642) hG h0 0 200
  refine tt_aload_n (j := 0) dX10_look_0 rfl ?_
  refine tt_iconst (v := 0) dX10_look_1 rfl ?_
  refine gx_pI (id := 640) (x := 0) dX10_look_2 fl_10_55 rfl rfl h0 hA rfl rfl rfl (gp_I hG) (by decide) (fun h => absurd h (by decide)) (fun h => absurd h (by decide)) rfl (fun S1 hG1 hA1 e1 => ?_)
  refine tt_iconst (v := 0) dX10_look_5 rfl ?_
  refine tt_istore_n (ks := [0, 1]) (L' := [(1, .int 0), (0, .ref m)]) dX10_look_6 (by decide) rfl ?_
  refine tt_loc (ks := [1, 0]) rfl (tt_loc (ks := [0, 1]) rfl (lk_7 (σ0 := sg S) h0 hG hR hD8 202 S1 0 (by decide) hG1 hA1 ⟨by decide, by decide⟩ ⟨fun j => by rw [e1]; rfl, fun j hj => absurd hj (Nat.not_lt_zero _)⟩ (fun S2 hG2 hA2 hC2 => ?_)))
  refine tt_aload_n (j := 0) dX10_look_34 rfl ?_
  refine tt_iconst (v := 1) dX10_look_35 rfl ?_
  refine gx_pI (id := 653) (x := 1) dX10_look_36 fl_10_58 rfl rfl h0 hA2 rfl rfl rfl (gp_Ir hG2 (⟨by decide, by decide⟩ : Rg 1 1 1)) (by decide) (fun h => absurd h (by decide)) (fun h => absurd h (by decide)) rfl (fun S3 hG3 hA3 e3 => ?_)
  have C3 : ∀ j, cC R m (sg S3) j = cC R m (sg S) j := fun j => by rw [e3]; exact hC2.1 j
  have Z3 : ∀ j, j < 201 → mi (sg S3) (R 647 m) j = 0 ∧ mi (sg S3) (R 648 m) j = 0 := fun j hj => by rw [e3]; exact hC2.2 j hj
  refine tt_aload_n (j := 0) dX10_look_39 rfl ?_
  refine gt_gI (id := 642) (v := n) dX10_look_40 fl_10_71 rfl rfl h0 hA3 ((i_af (k := 642) h0 hA3).trans hn0) ?_
  refine tt_if_ne (tgt := 48) dX10_look_43 rfl (fun q => ?_) (fun q => ?_)
  · have hn1 : Rg 1 200 n := rg_ne_lo hn (⟨by decide, by decide⟩ : Rg 0 0 0) q
    refine tt_aload_n (j := 0) dX10_look_48 rfl ?_
    refine gt_gR (id := 647) dX10_look_49 fl_10_26 rfl rfl h0 hA3 (rk_R (k := 647) hR h0 32 201) ?_
    refine tt_iconst (v := 0) dX10_look_52 rfl ?_
    refine tt_iconst (v := 1) dX10_look_53 rfl ?_
    refine gx_iS dX10_look_54 (rk_O (k := 647) hG hR h0 32 201) hA3 (Or.inl (by decide)) (rg_in (⟨by decide, by decide⟩ : Rg 0 0 0)) hG3 (by decide) rfl (fun S4 hG4 hA4 e4 => ?_)
    refine tt_aload_n (j := 0) dX10_look_55 rfl ?_
    refine gt_gR (id := 648) dX10_look_56 fl_10_29 rfl rfl h0 hA4 (rk_R (k := 648) hR h0 34 201) ?_
    refine tt_iconst (v := 0) dX10_look_59 rfl ?_
    refine tt_iconst (v := 1) dX10_look_60 rfl ?_
    refine gx_zS dX10_look_61 (rk_O (k := 648) hG hR h0 34 201) hA4 (Or.inl (by decide)) (rg_in (⟨by decide, by decide⟩ : Rg 0 0 0)) hG4 (rg_w (⟨by decide, by decide⟩ : Rg 1 1 1)) e4 (fun S5 hG5 hA5 e5 => ?_)
    refine tt_aload_n (j := 0) dX10_look_62 rfl ?_
    refine gt_gR (id := 649) dX10_look_63 fl_10_33 rfl rfl h0 hA5 (rk_R (k := 649) hR h0 32 202) ?_
    refine tt_iconst (v := 0) dX10_look_66 rfl ?_
    refine tt_iconst (v := 0) dX10_look_67 rfl ?_
    refine gx_iSR dX10_look_68 (rk_O (k := 649) hG hR h0 32 202) hA5 (rg_in (⟨by decide, by decide⟩ : Rg 0 0 0)) hG5 (rg_w (⟨by decide, by decide⟩ : Rg 0 0 0)) e5 (fun S6 hG6 hA6 e6 => ?_)
    have e6 : sg S6 = w0 R m (wG R m (sg S3) 0 1 1) 0 := e6
    refine tt_iconst (v := 0) dX10_look_69 rfl ?_
    refine tt_istore_n (ks := [0, 1]) (L' := [(1, .int 0), (0, .ref m)]) dX10_look_70 (by decide) rfl ?_
    refine tt_loc (ks := [1, 0]) rfl (tt_loc (ks := [0, 1]) rfl (lk_71 h0 hR hD 25 S6 0 (by decide) hG6 hA6 ⟨by decide, by decide⟩ (fun S7 hG7 hA7 hC7 => ?_)))
    obtain ⟨c1, c2, c3⟩ := hC7
    have C6 : ∀ j, cC R m (sg S6) j = cC R m (sg S) j := fun j => by rw [e6, cC_w0 hD9, wG_cC hD8, C3]
    have G7 : mi (sg S7) (R 647 m) = mi (sg S6) (R 647 m) := c1.2.2.2.1 _ hD8.2.1.1
    have G8 : mi (sg S7) (R 648 m) = mi (sg S6) (R 648 m) := c1.2.2.2.1 _ hD8.2.2.1
    have G9 : mi (sg S7) (R 649 m) = mi (sg S6) (R 649 m) := c1.2.2.2.1 _ hD9.2.1.1.symm
    have hT7 : RTb R m (sg S7) (TE n f r) := by
      rw [te_p hn1]
      intro i hi
      have g7 : mi (sg S7) (R 647 m) i = if i = 0 then 1 else 0 := by
        rw [G7, e6, mi_w0o hD8.2.1.2.1, wG_g hD8, (Z3 i (by omega)).1]
      have g8 : mi (sg S7) (R 648 m) i = if i = 0 then 1 else 0 := by
        rw [G8, e6, mi_w0o hD8.2.2.2.1, wG_c hD8, (Z3 i (by omega)).2]
      unfold upP
      by_cases e : i = 0
      · rw [if_pos e] at g7 g8 ⊢
        refine ⟨g7, g8, fun _ => ⟨fun k hk => ?_, Or.inl ⟨hr, ?_⟩⟩⟩
        · have e2 : 24 * i + k = 0 + k := by omega
          rw [e2, c3 k hk, if_pos (show (0 : Int32).toNatClampNeg ≤ k from Nat.zero_le _), C6]
          exact hE k hk
        · show mi (sg S7) (R 649 m) i = 0
          rw [G9, e6, e]
          unfold w0
          rw [mi_ui, if_pos ⟨rfl, rfl⟩]
      · rw [if_neg e] at g7 g8 ⊢
        exact ⟨g7, g8, fun z => by rcases z with z | z <;> exact absurd rfl z⟩
    refine tt_iconst (v := 0) dX10_look_93 rfl ?_
    refine tt_istore_n (ks := [0, 1]) (L' := [(1, .int 0), (0, .ref m)]) dX10_look_94 (by decide) rfl ?_
    refine tt_iconst (v := 1) dX10_look_95 rfl ?_
    refine tt_istore_n (ks := [0, 1, 2]) (L' := [(2, .int 1), (1, .int 0), (0, .ref m)]) dX10_look_96 (by decide) rfl ?_
    refine tt_loc (ks := [2, 1, 0]) rfl (tt_loc (ks := [0, 1, 2]) rfl (lk_97 (t := TE n f r) h0 hG hR hD hD9 hD8 hb hB hn1 hP 61 S7 0 1 (by decide) hG7 hA7 ⟨by decide, by decide⟩ ⟨by decide, by decide⟩ hT7 (fun j a b => ?_) ⟨fun h => absurd h (by decide), fun h => ?_⟩ (fun j h => absurd h (Nat.not_lt_zero _))))
    · rw [c1.2.2.1 j (fun z => by have := mem_rgl.mp z; omega), C6]
    · have hl : 0 < n.toNatClampNeg := by
        have e : n.toNatClampNeg = n.toInt.toNat := rfl
        have := hn1.1
        omega
      have h2 := h 0 hl
      have e : (A_it n (IAn bs n) (0 : Int32).toNatClampNeg (TE n f r) 0).2.1 = 1 := by
        show (TE n f r 0).2.1 = 1
        rw [te_p hn1]
        rfl
      rw [e] at h2
      exact absurd h2 (by decide)
  · have hn00 : n = 0 := q
    refine tt_iconst (v := 0) dX10_look_46 rfl ?_
    refine tt_ireturn dX10_look_47 .int rfl rfl (hP _ _ _ _ ⟨hG3, hA3, Or.inl ⟨_, rfl, ⟨_, rfl, rg_w (⟨by decide, by decide⟩ : Rg 0 0 0)⟩, ⟨0, TE n f r, rfl, Or.inl ⟨0, by decide, fun i hi => ?_, fun j h => absurd h (Nat.not_lt_zero _), rfl, rfl⟩, ?_, fun j _ _ => C3 j⟩, rfl, rfl⟩⟩)
    · rw [hn00] at hi
      exact absurd hi (Nat.not_lt_zero _)
    · rw [if_neg (by decide), te_0 hn00]
      exact rtg_0 (fun j hj => (Z3 j (by omega)).1)
end RLM
