/-! points that come: how many are still to come, and the room for them -/
def nl (f : Nat → Option Nat) : Nat := ((List.range 200).filter (fun i => (f i).isNone)).length
theorem nl_le (f : Nat → Option Nat) : nl f ≤ 200 := Nat.le_trans (List.length_filter_le _ _) (by rw [List.length_range]; exact Nat.le_refl _)
theorem nl_go {f : Nat → Option Nat} {i b : Nat} (hf : f i = none) : ∀ l : List Nat, l.Nodup → i ∈ l → (l.filter (fun j => (va_up f i (some b) j).isNone)).length + 1 = (l.filter (fun j => (f j).isNone)).length := by
  intro l
  induction l with
  | nil => intro _ h; cases h
  | cons a l ih =>
    intro hn hi
    obtain ⟨h1, h2⟩ := List.nodup_cons.mp hn
    by_cases e : a = i
    · subst e
      have hl : l.filter (fun j => (va_up f a (some b) j).isNone) = l.filter (fun j => (f j).isNone) := List.filter_congr (fun j hj => by rw [va_up_ne _ _ (fun (e : j = a) => h1 (by rw [← e]; exact hj))])
      rw [List.filter_cons, List.filter_cons, va_up_self, hf, hl]
      simp
    · have hi2 : i ∈ l := by
        rcases List.mem_cons.mp hi with q | q
        · exact absurd q.symm e
        · exact q
      have := ih h2 hi2
      rw [List.filter_cons, List.filter_cons, va_up_ne _ _ e]
      split
      · rw [List.length_cons, List.length_cons]
        omega
      · exact this
theorem nl_up {f : Nat → Option Nat} {i b : Nat} (hi : i < 200) (hf : f i = none) : nl (va_up f i (some b)) + 1 = nl f := nl_go hf _ List.nodup_range (List.mem_range.mpr hi)
def Bd (S : Hp) (pa kc nc : Nat) (T : Hp) (k n : Nat) : Prop := k + 5 * nl (hp_r S pa) = kc + 5 * nl (hp_r T pa) ∧ n + 82 * nl (hp_r S pa) = nc + 82 * nl (hp_r T pa)
section BDS
variable {S T U : Hp} {pa kc nc k n k2 n2 : Nat}
theorem bd_rf : Bd S pa k n S k n := ⟨rfl, rfl⟩
theorem bd_eq (h : Bd S pa kc nc T k n) (e : hp_r U = hp_r T) : Bd S pa kc nc U k n := by unfold Bd at h ⊢; rw [e]; exact h
theorem bd_tr (h : Bd S pa kc nc T k n) (h2 : Bd T pa k n U k2 n2) : Bd S pa kc nc U k2 n2 := by
  obtain ⟨a, b⟩ := h
  obtain ⟨c, d⟩ := h2
  exact ⟨by omega, by omega⟩
theorem bd_k (h : Bd S pa kc nc T k n) (hk : 5 * nl (hp_r S pa) ≤ kc) : 5 * nl (hp_r T pa) ≤ k := by
  have := h.1
  omega
theorem bd_n (h : Bd S pa kc nc T k n) (hk : 82 * nl (hp_r S pa) ≤ nc) : 82 * nl (hp_r T pa) ≤ n := by
  have := h.2
  omega
end BDS
def PA (E ws : List Nat) (S : Hp) (pa k n : Nat) (rok : Option Value → Prop) : Po := fun r T x y => GI T E ∧ Af E ws S T ∧ Bd S pa k n T x y ∧ ∃ v, r = .inl v ∧ rok v
section GA
variable {xi : SX} {M N : MD} {pc : Nat} {L : List (Nat × Value)} {rest As : List Value} {S S0 : Hp} {k0 n0 b i cn n pa : Nat} {P : Po} {E ws vs : List Nat} {lo hi : Int}
theorem gt_Av (h : decode (md_c M) pc = .ok (.invokevirtual i, 3)) (hcv : CV (md_y M).cls i N As.length) (hrm : RM M N) (ho : Oa S0 E cn n b) (hA : Af E ws S0 S) (hcn : (vwCl[cn]?).map (fun r => r.1) = some (md_y N).cls) (hlen : (lg_sl (.ref b :: As)).length ≤ md_L N) (hr8 : (rest.map fun v => v.category).sum ≤ 8) (hs : ∀ k ∈ vs, k ∈ ws)
    (kx : TT xi N 0 (lv_args 0 (.ref b :: As)) [] S k0 n0 (PA E vs S pa k0 n0 rV)) (hh : md_h M = []) (kk : ∀ (S' : Hp) (x y : Nat), GI S' E → Af E vs S S' → Af E ws S0 S' → Bd S pa k0 n0 S' x y → TT xi M (pc + 3) L rest S' x y P) : TT xi M pc L (As.reverse ++ .ref b :: rest) S k0 n0 P := by
  refine tt_callV (k1 := k0) (n1 := n0) (k2 := 0) (n2 := 0) h hcv hrm (ob_af ho hA) hcn hlen hr8 (by omega) (by omega) kx (fun v S' x y hw => ?_) (fun X S' hw => ?_)
  · obtain ⟨g1, g2, g3, w, e, r1⟩ := hw
    cases e
    obtain rfl : v = none := r1
    rw [Nat.zero_add, Nat.zero_add]
    exact kk S' x y g1 g2 (af_tr hA g2 hs) g3
  · obtain ⟨g1, g2, g3, w, e, -⟩ := hw
    cases e
theorem gt_AI (h : decode (md_c M) pc = .ok (.invokevirtual i, 3)) (hcv : CV (md_y M).cls i N As.length) (hrm : RM M N) (ho : Oa S0 E cn n b) (hA : Af E ws S0 S) (hcn : (vwCl[cn]?).map (fun r => r.1) = some (md_y N).cls) (hlen : (lg_sl (.ref b :: As)).length ≤ md_L N) (hr8 : (rest.map fun v => v.category).sum ≤ 8) (hs : ∀ k ∈ vs, k ∈ ws)
    (kx : TT xi N 0 (lv_args 0 (.ref b :: As)) [] S k0 n0 (PA E vs S pa k0 n0 (rI lo hi))) (hh : md_h M = []) (kk : ∀ (S' : Hp) (z : Int32) (x y : Nat), Rg lo hi z → GI S' E → Af E vs S S' → Af E ws S0 S' → Bd S pa k0 n0 S' x y → TT xi M (pc + 3) L (.int z :: rest) S' x y P) : TT xi M pc L (As.reverse ++ .ref b :: rest) S k0 n0 P := by
  refine tt_callV (k1 := k0) (n1 := n0) (k2 := 0) (n2 := 0) h hcv hrm (ob_af ho hA) hcn hlen hr8 (by omega) (by omega) kx (fun v S' x y hw => ?_) (fun X S' hw => ?_)
  · obtain ⟨g1, g2, g3, w, e, z, r1, r2⟩ := hw
    cases e
    subst r1
    rw [Nat.zero_add, Nat.zero_add]
    exact kk S' z x y r2 g1 g2 (af_tr hA g2 hs) g3
  · obtain ⟨g1, g2, g3, w, e, -⟩ := hw
    cases e
end GA
section GR
variable {S T : Hp} {E ws : List Nat} {a b i n : Nat}
theorem af_cn (h : Cn S T) (hw : 9999 ∈ ws := by decide) : Af E ws S T := ⟨h.1, fun a ha k => (h.2.1 a ha).1 k, fun k _ a ha => (h.2.1 a ha).2 k, fun q => absurd hw q, fun _ a ha q => by rw [(h.2.1 a ha).2] at q; exact q, fun _ a ha q => by rw [(h.2.1 a ha).2]; exact q, fun q => absurd hw q, fun _ a ha q => h.2.2.2.1 a ha q, ⟨fun a ha q => Or.inl (h.2.2.2.2.1.1 a ha q), h.2.2.2.2.1.2⟩, fun _ => h.2.2.2.2.2.1.1 (by decide), fun _ => h.2.2.2.2.2.1.2.1 (by decide), fun _ => h.2.2.2.2.2.1.2.2 (by decide)⟩
theorem af_r {f : Nat → Option Nat} (hw : 9999 ∈ ws := by decide) : Af E ws S (sp_r S a f) := ⟨fun b hb => by rw [hq_L_r, hq_K_r, hq_N_r]; exact ⟨hb, rfl, rfl⟩, fun _ _ _ => by rw [hq_R_r], fun _ _ _ _ => by rw [hq_I_r], fun q => absurd hw q, fun _ _ _ q => by rw [hq_I_r] at q; exact q, fun _ _ _ q => by rw [hq_I_r]; exact q, fun q => absurd hw q, fun _ _ _ _ => by rw [hq_i_r], aj_L (hq_L_r ..) (hq_j_r ..), ak_L (hq_J_r ..) (hq_i_r ..) (hq_j_r ..)⟩
theorem gp_r (h : GI S E) (ho : Oa S E 35 n a) (hb : Oa S E 5 0 b) : GI (sp_r S a (va_up (hp_r S a) i (some b))) E := by
  have hO : ∀ kd n c, Oa S E kd n c → Oa (sp_r S a (va_up (hp_r S a) i (some b))) E kd n c := fun kd n c q => by
    unfold Oa at q ⊢
    rw [hq_L_r, hq_K_r, hq_N_r]
    exact q
  intro c hc hE
  rw [hq_L_r] at hc
  obtain ⟨g1, g2, g3, g4, g5⟩ := h c hc hE
  refine ⟨fun r hr e => ?_, fun r hr e => ?_, fun e1 e2 j => ?_, fun e1 j => ?_, fun e1 j d e2 => ?_⟩
  · rw [hq_K_r] at e; rw [hq_I_r]; exact g1 r hr e
  · rw [hq_K_r] at e
    obtain ⟨d, d1, d2⟩ := g2 r hr e
    exact ⟨d, by rw [hq_R_r]; exact d1, hO _ _ _ d2⟩
  · rw [hq_K_r] at e1; rw [hq_N_r] at e2; rw [hq_i_r]; exact g3 e1 e2 j
  · rw [hq_K_r] at e1; rw [hq_i_r]; exact g4 e1 j
  · rw [hq_K_r] at e1
    rw [hq_r_r] at e2
    by_cases q : c = a
    · subst q
      rw [va_up_self] at e2
      by_cases q2 : j = i
      · subst q2
        rw [va_up_self] at e2
        cases e2
        exact hO _ _ _ hb
      · rw [va_up_ne _ _ q2] at e2
        exact hO _ _ _ (g5 e1 j d e2)
    · rw [va_up_ne _ _ q] at e2
      exact hO _ _ _ (g5 e1 j d e2)
end GR
