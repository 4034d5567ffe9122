/-! going through, in the class: the steps -/
section CGS
variable {xi : SX} {S S1 T U : Hp} {E ws : List Nat} {kc nc lk pa o0 b st s a i wk ins : Nat} {P : Po} {x1 x2 x3 x4 n fr w k : Int32} {y1 : Int64} {t : Tb} {f g : Nat → Tr} {r : Rc} {p q : Pt} {c c0 d : DD} {bs : Nat → Int32}
theorem si_fin {q : DD} (h3 : Rg 14 16 (e7 c) → e10 c = -1) (h30 : Rg 14 16 (e7 c0) → e10 c0 = -1) (h1 : FIN c q k) (h2 : FIN c0 q k) : SI c c0 := by
  rcases h1 with ⟨a1, a2⟩ | ⟨a1, a2, a6, a7, a8, a9, a10, a11, aJ, -⟩
  · rcases h2 with ⟨b1, b2⟩ | ⟨b1, b2, -⟩
    · exact Or.inl ⟨a1, b1⟩
    · exact absurd (b2.symm.trans a2) n10
  · rcases h2 with ⟨b1, b2⟩ | ⟨b1, b2, b6, b7, b8, b9, b10, b11, bJ, -⟩
    · exact absurd (a2.symm.trans b2) n10
    · refine Or.inr ⟨a6.trans b6.symm, a7.trans b7.symm, a8.trans b8.symm, a9.trans b9.symm, a10.trans b10.symm, a11.trans b11.symm, ?_⟩
      rcases aJ with aJ | aJ
      · rcases bJ with bJ | bJ
        · exact Or.inl (aJ.trans bJ.symm)
        · have z : Rg 14 16 (e7 c) := by rw [a7, ← b7]; exact bJ
          exact Or.inr ⟨z, h3 z⟩
      · exact Or.inr ⟨aJ, h3 aJ⟩
theorem si_rf (hn : Rg 0 200 n) (hB : ∀ i, Rg 0 255 (bs i)) (ha : Rg 0 199 x1) (hlt : x1 < n) : SI (F_X3_readFrom bs n d x1) (IA bs n x1) := by
  have f1 : FIN (F_X3_readFrom bs n d x1) (F_X10_read bs n DZ x1).1 (F_X10_read bs n DZ x1).2 := dec hn hB ha hlt
  have f2 : FIN (IA bs n x1) (F_X10_read bs n DZ x1).1 (F_X10_read bs n DZ x1).2 := dec hn hB ha hlt
  by_cases z : e7 (F_X3_readFrom bs n d x1) = -1
  · rcases f1 with ⟨a1, a2⟩ | ⟨a1, -⟩
    · rcases f2 with ⟨b1, b2⟩ | ⟨b1, b2, -⟩
      · exact Or.inl ⟨a1, b1⟩
      · exact absurd (b2.symm.trans a2) n10
    · exact absurd z a1
  · have z2 : ¬ e7 (IA bs n x1) = -1 := by
      rcases f2 with ⟨b1, b2⟩ | ⟨b1, -⟩
      · rcases f1 with ⟨a1, a2⟩ | ⟨a1, a2, -⟩
        · exact absurd a1 z
        · exact absurd (a2.symm.trans b2) n10
      · exact b1
    exact si_fin (rf_facts hn.2 hB ha.1 z).2.2.1 (rf_facts hn.2 hB ha.1 z2).2.2.1 f1 f2
theorem sT_R (hA : Af E ws S T) (hx : s ∈ hp_L S) : tS (RR S) (sg T) s = sT T s := by
  unfold sT tS
  rw [rr_af hA hx, rr_af hA hx, rr_af hA hx]
theorem wk_cp (hE0 : E = []) (hG : GI S E) (hU : UQ S) (hA : Af E ws S T) (hw : Oa S E 8 0 wk) (hs : Oa S E 8 0 st) (hn : st ≠ wk) (h : sg T = Z_X8_copyFrom (RR S) (sg S) wk st) : A24 (sT T wk) (sT S st) ∧ sC T wk = sC S st ∧ Fc (RR S) wk (sg S) (sg T) := by
  have hR := rk_gi hE0 hG
  obtain ⟨k1, k2, k3⟩ := copy8_ok (σ := sg S) (d3_uq hU hR hw) (d6_uq hU hR hw hs hn)
  rw [← h] at k1 k2 k3
  rw [sT_R hA hw.1] at k1
  exact ⟨k1, k2, k3⟩
/-- the instruction in hand -/
def IH (S : Hp) (o : Nat) (c : DD) : Prop := hp_I S 199 o = e6 c ∧ hp_I S 200 o = e7 c ∧ hp_I S 201 o = e8 c ∧ hp_I S 202 o = e9 c ∧ hp_I S 203 o = e10 c ∧ hp_I S 204 o = e11 c ∧ hp_J S 205 o = eJ c
theorem ih_mk (h : StC S ins = c) : IH S ins c := ⟨sC_199 h, sC_200 h, sC_201 h, sC_202 h, sC_203 h, sC_204 h, sC_205 h⟩
theorem ih_af (h : IH S ins c) (ho : Oa S E 3 0 ins) (hA : Af E ws S T) (hJ : hp_J T 205 ins = hp_J S 205 ins) (hw : ∀ k ∈ [199, 200, 201, 202, 203, 204], k ∉ ws := by decide) : IH T ins c := by
  obtain ⟨h1, h2, h3, h4, h5, h6, h7⟩ := h
  exact ⟨(i_af ho hA (hw 199 (by decide))).trans h1, (i_af ho hA (hw 200 (by decide))).trans h2, (i_af ho hA (hw 201 (by decide))).trans h3, (i_af ho hA (hw 202 (by decide))).trans h4, (i_af ho hA (hw 203 (by decide))).trans h5, (i_af ho hA (hw 204 (by decide))).trans h6, hJ.trans h7⟩
theorem wk_ap (hE0 : E = []) (hG : GI S E) (hU : UQ S) (h0 : Oa S E 4 0 lk) (hA : Af E ws S T) (hw : Oa S E 8 0 wk) (hI : IH S ins c) (h : sg T = Z_X2_apply (RR S) (sg S) (RR S 260 lk) ins wk) : sT T wk = (if e7 c < 19 then K_eff (e7 c) (e8 c) (e9 c) (e10 c) (e11 c) (eJ c) (sT S wk) else sT S wk) ∧ sC T wk = (if e7 c < 19 then K_note (e7 c) (e8 c) (e9 c) (e10 c) (eJ c) (sC S wk) else sC S wk) ∧ Fc (RR S) wk (sg S) (sg T) := by
  have hR := rk_gi hE0 hG
  have h2 := rk_O (k := 260) hG hR h0 2 0
  obtain ⟨i1, i2, i3, i4, i5, i6, i7⟩ := hI
  by_cases l : e7 c < 19
  · have l2 : mI (sg S) 200 ins < 19 := by rw [show mI (sg S) 200 ins = e7 c from i2]; exact l
    obtain ⟨k1, k2, k3⟩ := zk_apply (σ := sg S) (i := ins) (d3_uq hU hR hw) (uq_ne (k := 128) (l := 129) hU hR h2 h2 (Or.inr (by decide)) 7 7 (c := 0) (d := 0)) (uq_ne (k := 128) (l := 130) hU hR h2 h2 (Or.inr (by decide)) 7 7 (c := 0) (d := 0)) (uq_ne (k := 129) (l := 130) hU hR h2 h2 (Or.inr (by decide)) 7 7 (c := 0) (d := 0)) l2
    rw [← h] at k1 k2 k3
    rw [sT_R hA hw.1] at k1
    rw [if_pos l, if_pos l, ← i2, ← i3, ← i4, ← i5, ← i6, ← i7]
    exact ⟨k1, k2, k3⟩
  · have e : sg T = sg S := by
      rw [h]
      unfold Z_X2_apply
      rw [if_neg (by rw [show mI (sg S) 200 ins = e7 c from i2]; exact l)]
    rw [if_neg l, if_neg l]
    refine ⟨?_, ?_, ?_⟩
    · rw [← sT_R hA hw.1, e]; rfl
    · show rC (sg T) wk = _
      rw [e]; rfl
    · rw [e]; exact fc_rf
theorem wk_na (hE0 : E = []) (hG : GI S E) (hU : UQ S) (h0 : Oa S E 4 0 lk) (hA : Af E ws S T) (hw : Oa S E 8 0 wk) (hf : A24 (sT S wk) f) (hr : sC S wk = r) (hc : Rg 0 15 x2) (hx : x3 = 0 ∨ x3 = 1) {z : Int32} (hz : z = (Z_X0_narrow (RR S) (sg S) (RR S 261 lk) wk x2 x3).2) (h : sg T = (Z_X0_narrow (RR S) (sg S) (RR S 261 lk) wk x2 x3).1) : Fc (RR S) wk (sg S) (sg T) ∧ sC T wk = r ∧ ((z = 0 ∧ K_naC f r (if x3 = 1 then x2 else x2 ^^^ 1) = none) ∨ (¬ z = 0 ∧ ∃ g, K_naC f r (if x3 = 1 then x2 else x2 ^^^ 1) = some g ∧ A24 (sT T wk) g)) := by
  have hR := rk_gi hE0 hG
  have h2 := rk_O (k := 261) hG hR h0 0 0
  obtain ⟨k1, k2, k3, k4⟩ := zk_narrow (σ := sg S) (x2 := x2) (x3 := x3) (d3_uq hU hR hw) (uq_ne (k := 0) (l := 1) hU hR h2 h2 (Or.inr (by decide)) 7 7 (c := 0) (d := 0))
  rw [← hz] at k1
  rw [← h] at k2 k3 k4
  have e1 : tS (RR S) (sg S) wk = sT S wk := rfl
  have e2 : rC (sg S) wk = r := hr
  rw [e1, e2, nac_eq hc hx] at k1 k2
  refine ⟨k4, k3.trans hr, ?_⟩
  rcases a24_na (r := r) (c := if x3 = 1 then x2 else x2 ^^^ 1) hf with ⟨o1, o2⟩ | ⟨u, v, o1, o2, o3⟩
  · rw [o1] at k1
    exact Or.inl ⟨k1, o2⟩
  · rw [o1] at k1
    have k9 : z = 1 := k1
    refine Or.inr ⟨fun q => absurd (k9.symm.trans q) n10, v, o2, ?_⟩
    rw [← sT_R hA hw.1, k2 u o1]
    exact o3
/-- the work state is written: what a point has stays -/
theorem gs_wk (hE0 : E = []) (hG : GI S E) (h0 : Oa S E 4 0 lk) (hpa : Oa S E 35 200 pa) (h5 : Oa S E 5 0 b) (hA : Af E ws S T) (hF : Fc (RR S) (RR S 259 lk) (sg S) (sg T)) (hC : CTb S pa t) (hw : 9999 ∉ ws := by decide) : CTb T pa t ∧ NE S T ∧ (sT T (RR S 320 b) = sT S (RR S 320 b) ∧ sC T (RR S 320 b) = sC S (RR S 320 b)) ∧ ∀ o, hp_J T 205 o = hp_J S 205 o := by
  have hR := rk_gi hE0 hG
  obtain ⟨z1, z2⟩ := ci_wk hE0 hG h0 hpa hA hF hC hw
  exact ⟨z1, z2, st_fc hE0 hG hC.1 hA (rk_O (k := 259) hG hR h0 8 0) (rk_O (k := 320) hG hR h5 8 0) (uq_ne (k := 320) (l := 259) hC.1 hR h5 h0 (Or.inr (by decide)) 8 8 (c := 0) (d := 0)) hF, fun o => hF.2.2.2 205 o (by decide) (Or.inl (by decide))⟩
/-- a point no longer waits -/
theorem ci_cl (hE0 : E = []) (hG : GI S E) (hpa : Oa S E 35 200 pa) (hi : i < 200) (hb : hp_r S pa i = some b) (hA : Af E [322] S T) (e : sg T = uI (sg S) 322 b 0) (hC : CTb S pa t) : CTb T pa (A_cl t i) ∧ NE S T := by
  have hR := rk_gi hE0 hG
  have er : hp_r T = hp_r S := (hA.2.2.2.1 (by decide)).2
  have h5 := pt_O hG hpa hb
  have f1 : ∀ p, hp_I T 321 p = hp_I S 321 p := fun p => by rw [sg_I e, mI_uI, if_neg (fun y => absurd y.1 (by decide))]; rfl
  have f2 : ∀ p, hp_I T 322 p = if p = b then 0 else hp_I S 322 p := fun p => by
    rw [sg_I e, mI_uI]
    by_cases z : p = b
    · rw [if_pos ⟨rfl, z⟩, if_pos z]
    · rw [if_neg (fun y => z y.2), if_neg z]; rfl
  refine ⟨⟨uq_af hC.1 hA, fun j k p hj hk => by rw [er]; exact hC.2.1 j k p hj hk, fun j hj => ?_⟩, fun x hx hk => ?_⟩
  · rw [er]
    unfold A_cl upP
    by_cases ej : j = i
    · rw [if_pos ej, ej]
      refine ⟨fun z => (by rw [hb] at z; cases z), fun p hp => ?_⟩
      have ep : p = b := Option.some.inj (hp.symm.trans hb)
      obtain ⟨g1, g2, g3⟩ := (hC.2.2 i hi).2 b hb
      obtain ⟨y1, y2⟩ := st_af hE0 hG hC.1 hA (rk_O (k := 320) hG hR h5 8 0)
      rw [ep, f1, f2, if_pos rfl, rr_af hA h5.1, y1, y2]
      refine ⟨g1, rfl, fun z => ?_⟩
      rcases z with z | z
      · exact g3 (Or.inl z)
      · exact absurd rfl z
    · rw [if_neg ej]
      refine ⟨(hC.2.2 j hj).1, fun p hp => ?_⟩
      have hpb : p ≠ b := fun z => ej (hC.2.1 j i b hj hi (z ▸ hp) hb)
      have h5p := pt_O hG hpa hp
      obtain ⟨y1, y2⟩ := st_af hE0 hG hC.1 hA (rk_O (k := 320) hG hR h5p 8 0)
      rw [f1, f2, if_neg hpb, rr_af hA h5p.1, y1, y2]
      exact (hC.2.2 j hj).2 p hp
  · exact st_af hE0 hG hC.1 hA (rk_O (k := 578) hG hR (en_O hE0 hG hx hk) 8 0)
end CGS
