/-! the class's table of points -/
def RR (S : Hp) : Nat → Nat → Nat := fun k o => (hp_R S k o).getD 0
def sT (S : Hp) (st : Nat) : Nat → Tr := tS (RR S) (sg S) st
def sC (S : Hp) (st : Nat) : Rc := rC (sg S) st
def CRt (S : Hp) (pa : Nat) (t : Tb) : Prop := ∀ i, i < 200 → (hp_r S pa i = none → (t i).1 = 0 ∧ (t i).2.1 = 0) ∧ ∀ p, hp_r S pa i = some p → hp_I S 321 p = (t i).1 ∧ hp_I S 322 p = (t i).2.1 ∧ ((¬ (t i).1 = 0 ∨ ¬ (t i).2.1 = 0) → A24 (sT S (RR S 320 p)) (t i).2.2.1 ∧ sC S (RR S 320 p) = (t i).2.2.2)
def Ij (S : Hp) (pa : Nat) : Prop := ∀ i j p, i < 200 → j < 200 → hp_r S pa i = some p → hp_r S pa j = some p → i = j
def CTb (S : Hp) (pa : Nat) (t : Tb) : Prop := UQ S ∧ Ij S pa ∧ CRt S pa t
/-- the entry's state stays -/
def NE (S T : Hp) : Prop := ∀ x ∈ hp_L S, hp_K S x = 9 → sT T (RR S 578 x) = sT S (RR S 578 x) ∧ sC T (RR S 578 x) = sC S (RR S 578 x)
def PB (E ws : List Nat) (S : Hp) (pa k n : Nat) (rok : Option Value → Prop) (Q : Option Value → Hp → Prop) : Po := fun r T x y => GI T E ∧ Af E ws S T ∧ Bd S pa k n T x y ∧ ∃ v, r = .inl v ∧ rok v ∧ Q v T
section CRL
variable {xi : SX} {M N : MD} {pc : Nat} {L : List (Nat × Value)} {rest As : List Value} {S S0 T U : Hp} {k0 n0 b i cn n pa st s2 lk x p q k l c d : Nat} {P : Po} {E ws vs : List Nat} {lo hi : Int} {t : Tb} {Q : Option Value → Hp → Prop}
theorem gt_Bv (h : decode (md_c M) pc = .ok (.invokevirtual i, 3)) (hcv : CV (md_y M).cls i N As.length) (hrm : RM M N) (ho : Oa S0 E cn n b) (hA : Af E ws S0 S) (hcn : (vwCl[cn]?).map (fun r => r.1) = some (md_y N).cls) (hlen : (lg_sl (.ref b :: As)).length ≤ md_L N) (hr8 : (rest.map fun v => v.category).sum ≤ 8) (hs : ∀ k ∈ vs, k ∈ ws)
    (kx : TT xi N 0 (lv_args 0 (.ref b :: As)) [] S k0 n0 (PB E vs S pa k0 n0 rV Q)) (hh : md_h M = []) (kk : ∀ (S' : Hp) (x y : Nat), Q none S' → GI S' E → Af E vs S S' → Af E ws S0 S' → Bd S pa k0 n0 S' x y → TT xi M (pc + 3) L rest S' x y P) : TT xi M pc L (As.reverse ++ .ref b :: rest) S k0 n0 P := by
  refine tt_callV (k1 := k0) (n1 := n0) (k2 := 0) (n2 := 0) h hcv hrm (ob_af ho hA) hcn hlen hr8 (by omega) (by omega) kx (fun v S' x y hw => ?_) (fun X S' hw => ?_)
  · obtain ⟨g1, g2, g3, w, e, r1, r2⟩ := hw
    cases e
    obtain rfl : v = none := r1
    rw [Nat.zero_add, Nat.zero_add]
    exact kk S' x y r2 g1 g2 (af_tr hA g2 hs) g3
  · obtain ⟨g1, g2, g3, w, e, -⟩ := hw
    cases e
theorem gt_BI (h : decode (md_c M) pc = .ok (.invokevirtual i, 3)) (hcv : CV (md_y M).cls i N As.length) (hrm : RM M N) (ho : Oa S0 E cn n b) (hA : Af E ws S0 S) (hcn : (vwCl[cn]?).map (fun r => r.1) = some (md_y N).cls) (hlen : (lg_sl (.ref b :: As)).length ≤ md_L N) (hr8 : (rest.map fun v => v.category).sum ≤ 8) (hs : ∀ k ∈ vs, k ∈ ws)
    (kx : TT xi N 0 (lv_args 0 (.ref b :: As)) [] S k0 n0 (PB E vs S pa k0 n0 (rI lo hi) Q)) (hh : md_h M = []) (kk : ∀ (S' : Hp) (z : Int32) (x y : Nat), Rg lo hi z → Q (some (.int z)) S' → GI S' E → Af E vs S S' → Af E ws S0 S' → Bd S pa k0 n0 S' x y → TT xi M (pc + 3) L (.int z :: rest) S' x y P) : TT xi M pc L (As.reverse ++ .ref b :: rest) S k0 n0 P := by
  refine tt_callV (k1 := k0) (n1 := n0) (k2 := 0) (n2 := 0) h hcv hrm (ob_af ho hA) hcn hlen hr8 (by omega) (by omega) kx (fun v S' x y hw => ?_) (fun X S' hw => ?_)
  · obtain ⟨g1, g2, g3, w, e, ⟨z, r1, r2⟩, r3⟩ := hw
    cases e
    subst r1
    rw [Nat.zero_add, Nat.zero_add]
    exact kk S' z x y r2 r3 g1 g2 (af_tr hA g2 hs) g3
  · obtain ⟨g1, g2, g3, w, e, -⟩ := hw
    cases e
theorem rr_R (h : hp_R S k x = some b) : RR S k x = b := by unfold RR; rw [h]; rfl
theorem rr_af (hA : Af E ws S T) (hx : x ∈ hp_L S) : RR T k x = RR S k x := by unfold RR; rw [hA.2.1 x hx k]
theorem rk_gi (hE0 : E = []) (hG : GI S E) : RK S (RR S) := fun r hr o ho hk => by
  subst hE0
  obtain ⟨b, b1, -⟩ := (hG o ho (fun q => nomatch q)).2.1 r hr hk.symm
  rw [rr_R b1]
  exact b1
/-- what is held twice is the same -/
theorem uq_ne (hU : UQ S) (hR : RK S (RR S)) (h1 : Oa S E (k / 64) n q) (h2 : Oa S E (l / 64) i p) (hn : q ≠ p ∨ k ≠ l) (kd kl : Nat) (hk : (k, kd, c) ∈ rfT := by decide) (hl : (l, kl, d) ∈ rfT := by decide) (uk : k ∈ uqT := by decide) (ul : l ∈ uqT := by decide) : RR S k q ≠ RR S l p := fun e => by
  have e1 := rk_R hR h1 kd c hk
  have e2 := rk_R hR h2 kl d hl
  rw [← e] at e2
  obtain ⟨z1, z2⟩ := hU.2 q h1.1 k uk h1.2.2.1 p h2.1 l ul h2.2.2.1 _ e1 e2
  rcases hn with hn | hn
  · exact hn z1
  · exact hn z2
theorem d3_uq (hU : UQ S) (hR : RK S (RR S)) (h : Oa S E 8 0 st) : D3 (RR S) st :=
  ⟨uq_ne (k := 512) (l := 513) hU hR h h (Or.inr (by decide)) 33 33 (c := 24) (d := 24), uq_ne (k := 512) (l := 514) hU hR h h (Or.inr (by decide)) 33 33 (c := 24) (d := 24), uq_ne (k := 513) (l := 514) hU hR h h (Or.inr (by decide)) 33 33 (c := 24) (d := 24)⟩
theorem d6_uq (hU : UQ S) (hR : RK S (RR S)) (h : Oa S E 8 0 st) (h2 : Oa S E 8 0 s2) (hn : s2 ≠ st) : D6 (RR S) st s2 :=
  ⟨⟨uq_ne (k := 512) (l := 512) hU hR h2 h (Or.inl hn) 33 33 (c := 24) (d := 24), uq_ne (k := 512) (l := 513) hU hR h2 h (Or.inl hn) 33 33 (c := 24) (d := 24), uq_ne (k := 512) (l := 514) hU hR h2 h (Or.inl hn) 33 33 (c := 24) (d := 24)⟩, ⟨uq_ne (k := 513) (l := 512) hU hR h2 h (Or.inl hn) 33 33 (c := 24) (d := 24), uq_ne (k := 513) (l := 513) hU hR h2 h (Or.inl hn) 33 33 (c := 24) (d := 24), uq_ne (k := 513) (l := 514) hU hR h2 h (Or.inl hn) 33 33 (c := 24) (d := 24)⟩, uq_ne (k := 514) (l := 512) hU hR h2 h (Or.inl hn) 33 33 (c := 24) (d := 24), uq_ne (k := 514) (l := 513) hU hR h2 h (Or.inl hn) 33 33 (c := 24) (d := 24), uq_ne (k := 514) (l := 514) hU hR h2 h (Or.inl hn) 33 33 (c := 24) (d := 24)⟩
theorem l3_uq (hU : UQ S) (hR : RK S (RR S)) (h : Oa S E 4 0 lk) : L3 (RR S) lk :=
  ⟨uq_ne (k := 262) (l := 263) hU hR h h (Or.inr (by decide)) 7 7 (c := 0) (d := 0), uq_ne (k := 262) (l := 264) hU hR h h (Or.inr (by decide)) 7 7 (c := 0) (d := 0), uq_ne (k := 263) (l := 264) hU hR h h (Or.inr (by decide)) 7 7 (c := 0) (d := 0)⟩
theorem na_uq (hU : UQ S) (hR : RK S (RR S)) (h : Oa S E (k / 64) n q) (hk : (k, 33, 24) ∈ rfT := by decide) (uk : k ∈ uqT := by decide) : NA S (RR S k q) k := fun z hz r hr e1 e2 =>
  ((hU.2 z hz r.1 ((show ∀ r ∈ owT, r.1 ∈ uqT by decide) r hr) e1 q h.1 k uk h.2.2.1 _ e2 (rk_R hR h 33 24 hk)).2)
/-- a state that isn't written stays -/
theorem st_fc (hE0 : E = []) (hG : GI S E) (hU : UQ S) (hA : Af E ws S T) (hs : Oa S E 8 0 st) (h2 : Oa S E 8 0 s2) (hn : s2 ≠ st) (hF : Fc (RR S) st (sg S) (sg T)) : sT T s2 = sT S s2 ∧ sC T s2 = sC S s2 := by
  have hR := rk_gi hE0 hG
  refine ⟨?_, rC_fc hF hn⟩
  have e := tS_fc hF (d6_uq hU hR hs h2 hn)
  rw [show sT S s2 = tS (RR S) (sg S) s2 from rfl, ← e]
  unfold sT tS
  rw [rr_af hA h2.1, rr_af hA h2.1, rr_af hA h2.1]
theorem st_af (hE0 : E = []) (hG : GI S E) (hU : UQ S) (hA : Af E ws S T) (h2 : Oa S E 8 0 s2) (h94 : 9994 ∉ ws := by decide) (h87 : 9987 ∉ ws := by decide) (h5 : 515 ∉ ws ∧ 516 ∉ ws ∧ 517 ∉ ws := by decide) : sT T s2 = sT S s2 ∧ sC T s2 = sC S s2 := by
  have hR := rk_gi hE0 hG
  have w512 : ∀ r ∈ owT, r.1 = 512 → r.2 ∉ ws := fun r hr e => by rw [(show ∀ r ∈ owT, r.1 = 512 → r.2 = 9994 by decide) r hr e]; exact h94
  have w513 : ∀ r ∈ owT, r.1 = 513 → r.2 ∉ ws := fun r hr e => by rw [(show ∀ r ∈ owT, r.1 = 513 → r.2 = 9994 by decide) r hr e]; exact h94
  have w514 : ∀ r ∈ owT, r.1 = 514 → r.2 ∉ ws := fun r hr e => by rw [(show ∀ r ∈ owT, r.1 = 514 → r.2 = 9994 by decide) r hr e]; exact h94
  have e1 : hp_j T (RR S 512 s2) = hp_j S (RR S 512 s2) := j24_af (na_uq (k := 512) hU hR h2) (rk_O (k := 512) hG hR h2 33 24) hA w512
  have e2 : hp_j T (RR S 513 s2) = hp_j S (RR S 513 s2) := j24_af (na_uq (k := 513) hU hR h2) (rk_O (k := 513) hG hR h2 33 24) hA w513
  have e3 : hp_j T (RR S 514 s2) = hp_j S (RR S 514 s2) := j24_af (na_uq (k := 514) hU hR h2) (rk_O (k := 514) hG hR h2 33 24) hA w514
  refine ⟨?_, ?_⟩
  · unfold sT tS
    rw [rr_af hA h2.1, rr_af hA h2.1, rr_af hA h2.1]
    funext i
    show (hp_j T (RR S 512 s2) i, hp_j T (RR S 513 s2) i, hp_j T (RR S 514 s2) i) = (hp_j S (RR S 512 s2) i, hp_j S (RR S 513 s2) i, hp_j S (RR S 514 s2) i)
    rw [e1, e2, e3]
  · show (hp_I T 515 s2, hp_I T 516 s2, hp_I T 517 s2, hp_J T 518 s2) = (hp_I S 515 s2, hp_I S 516 s2, hp_I S 517 s2, hp_J S 518 s2)
    rw [i_af h2 hA h5.1, i_af h2 hA h5.2.1, i_af h2 hA h5.2.2, jk_af h2 hA (by decide) h87]
theorem pt_O (hG : GI S E) (hpa : Oa S E 35 200 pa) (h : hp_r S pa i = some p) : Oa S E 5 0 p := gi_r hG hpa h
/-- the table stays -/
theorem ci_fr (hU : UQ T) (hr : hp_r T pa = hp_r S pa) (h : ∀ i p, i < 200 → hp_r S pa i = some p → hp_I T 321 p = hp_I S 321 p ∧ hp_I T 322 p = hp_I S 322 p ∧ RR T 320 p = RR S 320 p ∧ sT T (RR S 320 p) = sT S (RR S 320 p) ∧ sC T (RR S 320 p) = sC S (RR S 320 p)) (hC : CTb S pa t) : CTb T pa t := by
  refine ⟨hU, fun i j p hi hj => by rw [hr]; exact hC.2.1 i j p hi hj, fun i hi => ?_⟩
  rw [hr]
  refine ⟨(hC.2.2 i hi).1, fun p hp => ?_⟩
  obtain ⟨h1, h2, h3, h4, h5⟩ := h i p hi hp
  obtain ⟨g1, g2, g3⟩ := (hC.2.2 i hi).2 p hp
  rw [h1, h2, h3, h4, h5]
  exact ⟨g1, g2, g3⟩
theorem ne_rf : NE S S := fun _ _ _ => ⟨rfl, rfl⟩
theorem ne_tr (h : NE S T) (hA : Af E ws S T) (h2 : NE T U) : NE S U := fun x hx hk => by
  obtain ⟨a1, a2⟩ := h x hx hk
  obtain ⟨b1, b2⟩ := h2 x (hA.1 x hx).1 ((hA.1 x hx).2.1.trans hk)
  rw [rr_af hA hx] at b1 b2
  exact ⟨b1.trans a1, b2.trans a2⟩
theorem en_O (hE0 : E = []) (hG : GI S E) (hx : x ∈ hp_L S) (hk : hp_K S x = 9) : Oa S E 9 0 x := by
  subst hE0
  exact ⟨hx, (fun q => nomatch q), hk, fun q => absurd q (by decide)⟩
/-- the work state is written -/
theorem ci_wk (hE0 : E = []) (hG : GI S E) (h0 : Oa S E 4 0 lk) (hpa : Oa S E 35 200 pa) (hA : Af E ws S T) (hF : Fc (RR S) (RR S 259 lk) (sg S) (sg T)) (hC : CTb S pa t) (hw : 9999 ∉ ws := by decide) : CTb T pa t ∧ NE S T := by
  have hR := rk_gi hE0 hG
  have hs := rk_O (k := 259) hG hR h0 8 0
  refine ⟨ci_fr (uq_af hC.1 hA hw) (by rw [(hA.2.2.2.1 hw).2]) (fun i p hi hp => ?_) hC, fun x hx hk => ?_⟩
  · have h5 := pt_O hG hpa hp
    have h8 := rk_O (k := 320) hG hR h5 8 0
    obtain ⟨z1, z2⟩ := st_fc hE0 hG hC.1 hA hs h8 (uq_ne (k := 320) (l := 259) hC.1 hR h5 h0 (Or.inr (by decide)) 8 8 (c := 0) (d := 0)) hF
    exact ⟨hF.2.1 321 p (Or.inl (by decide)), hF.2.1 322 p (Or.inl (by decide)), rr_af hA h5.1, z1, z2⟩
  · have h9 := en_O hE0 hG hx hk
    exact st_fc hE0 hG hC.1 hA hs (rk_O (k := 578) hG hR h9 8 0) (uq_ne (k := 578) (l := 259) hC.1 hR h9 h0 (Or.inr (by decide)) 8 8 (c := 0) (d := 0)) hF
/-- neither a state nor a point is written -/
theorem ci_af (hE0 : E = []) (hG : GI S E) (hpa : Oa S E 35 200 pa) (hA : Af E ws S T) (hC : CTb S pa t) (hw : 9999 ∉ ws := by decide) (h94 : 9994 ∉ ws := by decide) (h87 : 9987 ∉ ws := by decide) (h5 : 515 ∉ ws ∧ 516 ∉ ws ∧ 517 ∉ ws := by decide) (h3 : 321 ∉ ws ∧ 322 ∉ ws := by decide) : CTb T pa t ∧ NE S T := by
  have hR := rk_gi hE0 hG
  refine ⟨ci_fr (uq_af hC.1 hA hw) (by rw [(hA.2.2.2.1 hw).2]) (fun i p hi hp => ?_) hC, fun x hx hk => ?_⟩
  · have h5p := pt_O hG hpa hp
    obtain ⟨z1, z2⟩ := st_af hE0 hG hC.1 hA (rk_O (k := 320) hG hR h5p 8 0) h94 h87 h5
    exact ⟨i_af h5p hA h3.1, i_af h5p hA h3.2, rr_af hA h5p.1, z1, z2⟩
  · exact st_af hE0 hG hC.1 hA (rk_O (k := 578) hG hR (en_O hE0 hG hx hk) 8 0) h94 h87 h5
end CRL
/-- a copy of a state -/
theorem copy8_ok {R : Nat → Nat → Nat} {σ : SG} {o0 o1 : Nat} (hD : D3 R o0) (hd : D6 R o0 o1) : A24 (tS R (Z_X8_copyFrom R σ o0 o1) o0) (tS R σ o1) ∧ rC (Z_X8_copyFrom R σ o0 o1) o0 = rC σ o1 ∧ Fc R o0 σ (Z_X8_copyFrom R σ o0 o1) := by
  obtain ⟨⟨a1, a2, a3⟩, ⟨b1, b2, b3⟩, c1, c2, c3⟩ := hd
  obtain ⟨d1, d2, d3⟩ := hD
  have mu : ∀ (τ : SG) (a b c i : Nat), mj (uc τ a b) c i = if c = b then (if i < 24 then mj τ a i else mj τ b i) else mj τ c i := by
    intro τ a b c i
    show va_up (mj τ) b (va_cpy (mj τ a) (mj τ b) 0 0 24) c i = _
    unfold va_up va_cpy
    by_cases e : c = b
    · simp [e]
    · simp [e]
  have e0 : Z_X8_copyFrom R σ o0 o1 = wR (uc (uc (uc σ (R 512 o1) (R 512 o0)) (R 513 o1) (R 513 o0)) (R 514 o1) (R 514 o0)) o0 (rC σ o1) := rfl
  rw [e0]
  refine ⟨fun k hk => ?_, rC_wR, fc_tr ?_ fc_wR⟩
  · rw [tS_wR]
    unfold tS
    simp [mu, hk, d1, d2, d3, b1, c1, c2]
  · refine ⟨fun a p q s => ?_, fun _ _ _ => rfl, rfl, fun _ _ _ _ => rfl⟩
    funext i
    rw [mu, if_neg s, mu, if_neg q, mu, if_neg p]
