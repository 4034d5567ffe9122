section KAP
variable {R : Nat → Nat → Nat} {σ τ υ : SG} {st st2 o i e x y br lk : Nat} {t u a b c : Tr} {r : Rc}
theorem nr_note : tS R (Z_X2_noteRecord R σ e i st) st2 = tS R σ st2 ∧ rC (Z_X2_noteRecord R σ e i st) st = K_note (mI σ 200 i) (mI σ 201 i) (mI σ 202 i) (mI σ 203 i) (mJ σ 205 i) (rC σ st) ∧ Fc R st σ (Z_X2_noteRecord R σ e i st) := by
  obtain ⟨q, e1, e2⟩ := zk_noteRecord (R := R) (σ := σ) (e := e) (i := i) (st := st)
  rw [e1]
  rcases e2 with e2 | ⟨e2, e3⟩
  · rw [e2]; exact ⟨rfl, rC_wR, fc_wR⟩
  · rw [e2]; exact ⟨rfl, e3.symm, fc_rf⟩
theorem zk_apply (hD : D3 R st) (h12 : R 128 e ≠ R 129 e) (h13 : R 128 e ≠ R 130 e) (h23 : R 129 e ≠ R 130 e) (hop : mI σ 200 i < 19) : tS R (Z_X2_apply R σ e i st) st = K_eff (mI σ 200 i) (mI σ 201 i) (mI σ 202 i) (mI σ 203 i) (mI σ 204 i) (mJ σ 205 i) (tS R σ st) ∧ rC (Z_X2_apply R σ e i st) st = K_note (mI σ 200 i) (mI σ 201 i) (mI σ 202 i) (mI σ 203 i) (mJ σ 205 i) (rC σ st) ∧ Fc R st σ (Z_X2_apply R σ e i st) := by
  unfold Z_X2_apply K_eff
  rw [if_pos hop]
  by_cases c7 : mI σ 200 i = 7
  · rw [if_pos c7, if_pos c7]; exact nr_note
  · rw [if_neg c7, if_neg c7]
    by_cases c8 : mI σ 200 i = 8
    · rw [if_pos c8, if_pos c8]; exact nr_note
    · rw [if_neg c8, if_neg c8]
      have eL : Z_X2_loadOperands R σ e i st = wE σ (R 128 e) (R 129 e) (R 130 e) (ldT (tS R σ st) (mI σ 202 i)) (K_second (mI σ 200 i) (mI σ 203 i) (mI σ 204 i) (mJ σ 205 i) (tS R σ st)) (rS σ (R 130 e)) := by
        rw [zk_loadOperands]
        unfold wE
        have e3 : rS (w3 (w3 σ (R 128 e) (ldT (tS R σ st) (mI σ 202 i))) (R 129 e) (K_second (mI σ 200 i) (mI σ 203 i) (mI σ 204 i) (mJ σ 205 i) (tS R σ st))) (R 130 e) = rS σ (R 130 e) := by rw [rS_w3n h23.symm, rS_w3n h13.symm]
        rw [← e3, w3_self]
      simp only [eL, zk_fitOperands h12 h13 h23, zk_computeResult h12 h13 h23, zk_store, rS_wE3]
      generalize hτ : wE σ (R 128 e) (R 129 e) (R 130 e) (K_fit1 (mI σ 200 i) (mI σ 201 i) (ldT (tS R σ st) (mI σ 202 i))) (K_fit2 (mI σ 200 i) (mI σ 201 i) (K_second (mI σ 200 i) (mI σ 203 i) (mI σ 204 i) (mJ σ 205 i) (tS R σ st))) (K_comp (mI σ 200 i) (mI σ 201 i) (mI σ 202 i) (mI σ 203 i) (mI σ 204 i) (K_fit1 (mI σ 200 i) (mI σ 201 i) (ldT (tS R σ st) (mI σ 202 i))) (K_fit2 (mI σ 200 i) (mI σ 201 i) (K_second (mI σ 200 i) (mI σ 203 i) (mI σ 204 i) (mJ σ 205 i) (tS R σ st)))) = τ
      have q1 : tS R τ st = tS R σ st := by rw [← hτ]; rfl
      have q2 : mI τ = mI σ := by rw [← hτ]; rfl
      have q3 : mJ τ 205 i = mJ σ 205 i := by rw [← hτ]; unfold wE; rw [mJ_w3n, mJ_w3n, mJ_w3n]
      have q4 : rC τ st = rC σ st := by rw [← hτ]; unfold wE; rw [rC_w3, rC_w3, rC_w3]
      have q5 : Fc R st σ τ := by rw [← hτ]; exact fc_wE
      obtain ⟨n1, n2, n3⟩ := nr_note (R := R) (σ := wK R τ st (mI σ 202 i) (K_comp (mI σ 200 i) (mI σ 201 i) (mI σ 202 i) (mI σ 203 i) (mI σ 204 i) (K_fit1 (mI σ 200 i) (mI σ 201 i) (ldT (tS R σ st) (mI σ 202 i))) (K_fit2 (mI σ 200 i) (mI σ 201 i) (K_second (mI σ 200 i) (mI σ 203 i) (mI σ 204 i) (mJ σ 205 i) (tS R σ st))))) (e := e) (i := i) (st := st) (st2 := st)
      rw [mI_wK, q2, mJ_wK, q3, rC_wK, q4] at n2
      rw [tS_wK hD, q1] at n1
      exact ⟨n1, n2, fc_tr q5 (fc_tr fc_wK n3)⟩
/-! along an edge -/
def K_eqP (a b : Tr) : Tr × Tr := if K_isAny a = 0 then (if K_isAny b = 0 then (K_cut a b.1 b.2.1, K_cut b a.1 a.2.1) else (a, a)) else (b, b)
def K_unP (a b : Tr) : Tr × Tr := if K_isSingle b = 0 then (if K_isSingle a = 0 then (a, b) else (a, K_drop b a.1)) else if K_isSingle a = 0 then (K_drop a b.1, b) else (K_drop a b.1, K_drop b a.1)
def K_ord (lo hi : Tr) (g : Int32) : Tr × Tr :=
  (if K_isAny hi = 0 then K_cut lo (-9223372036854775808) (hi.2.1 - g.toInt64) else K_cut lo (-9223372036854775808) 9223372036854775807, if K_isAny lo = 0 then K_cut hi (lo.1 + g.toInt64) 9223372036854775807 else K_cut hi (-9223372036854775808) 9223372036854775807)
def K_oru (lo hi : Tr) (g : Int32) : Tr × Tr :=
  if K_isNatural hi = 0 then (lo, hi) else
  (if K_isAny lo = 0 then K_cut lo 0 (hi.2.1 - g.toInt64) else if hi.2.1 - g.toInt64 < 0 then (0, 0, -2) else K_become tANY 0 (hi.2.1 - g.toInt64) 1, if K_isNatural lo = 0 then K_cut hi (-9223372036854775808) 9223372036854775807 else K_cut hi (lo.1 + g.toInt64) 9223372036854775807)
def swp (p : Tr × Tr) : Tr × Tr := (p.2, p.1)
def K_cmp (pl so : Int32) (a b : Tr) : Tr × Tr :=
  if so = 0 then
    if pl = 12 then swp (K_ord b a 0) else if pl = 2 then swp (K_oru b a 0) else if pl = 14 then swp (K_ord b a 1) else if pl = 6 then swp (K_oru b a 1) else (a, b)
  else if pl = 12 then K_ord a b 1 else if pl = 2 then K_oru a b 1 else if pl = 14 then K_ord a b 0 else if pl = 6 then K_oru a b 0 else (a, b)
def K_n82 (pl so rc : Int32) (a b : Tr) : Tr × Tr :=
  if pl = 4 then (if so = 0 then K_unP a b else K_eqP a b) else if rc = 1 then K_cmp pl so a b
  else if pl = 8 then (if so = 0 then (K_cut a 0 9223372036854775807, b) else (K_cut a (-9223372036854775808) (-1), b)) else (a, b)
def K_so (c h : Int32) : Int32 := if c &&& 1 = 0 then (if h = 1 then 1 else 0) else if h = 0 then 1 else 0
def K_prs (f : Nat → Tr) (r : Rc) : Tr × Tr := (ldT f r.2.1, if r.2.2.1 = -1 then K_become tANY r.2.2.2 r.2.2.2 0 else ldT f r.2.2.1)
def K_pr2 (f : Nat → Tr) (r : Rc) (c h : Int32) : Tr × Tr := K_n82 (c &&& 14) (K_so c h) r.1 (K_prs f r).1 (K_prs f r).2
def K_nar (f : Nat → Tr) (r : Rc) (c h : Int32) : Option (Nat → Tr) :=
  if r.1 = 0 then some f
  else if K_isNone (K_pr2 f r c h).1 = 0 then (if K_isNone (K_pr2 f r c h).2 = 0 then some (stT (stT f r.2.1 (K_pr2 f r c h).1) r.2.2.1 (K_pr2 f r c h).2) else none) else none
def wB (σ : SG) (x y : Nat) (p : Tr × Tr) : SG := w3 (w3 σ x p.1) y p.2
theorem rS_wBx {p : Tr × Tr} (h : x ≠ y) : rS (wB σ x y p) x = p.1 := by unfold wB; rw [rS_w3n h, rS_w3]
theorem rS_wBy {p : Tr × Tr} : rS (wB σ x y p) y = p.2 := by unfold wB; rw [rS_w3]
theorem wB_x {p : Tr × Tr} (h : x ≠ y) : w3 (wB σ x y p) x u = wB σ x y (u, p.2) := by unfold wB; rw [w3_comm h.symm, w3_w3]
theorem wB_y {p : Tr × Tr} : w3 (wB σ x y p) y u = wB σ x y (p.1, u) := by unfold wB; rw [w3_w3]
theorem wB_sw {p : Tr × Tr} (h : x ≠ y) : wB σ y x p = wB σ x y (swp p) := by unfold wB swp; rw [w3_comm h.symm]
theorem mJ_wBx {p : Tr × Tr} (h : x ≠ y) : mJ (wB σ x y p) 448 x = p.1.1 ∧ mJ (wB σ x y p) 449 x = p.1.2.1 ∧ mJ (wB σ x y p) 450 x = p.1.2.2 := by
  have e := rS_wBx (σ := σ) (p := p) h
  exact ⟨congrArg (fun q => q.1) e, congrArg (fun q => q.2.1) e, congrArg (fun q => q.2.2) e⟩
theorem mJ_wBy {p : Tr × Tr} : mJ (wB σ x y p) 448 y = p.2.1 ∧ mJ (wB σ x y p) 449 y = p.2.2.1 ∧ mJ (wB σ x y p) 450 y = p.2.2.2 := by
  have e := rS_wBy (σ := σ) (x := x) (y := y) (p := p)
  exact ⟨congrArg (fun q => q.1) e, congrArg (fun q => q.2.1) e, congrArg (fun q => q.2.2) e⟩
theorem mI_wB {p : Tr × Tr} : mI (wB σ x y p) = mI σ := rfl
theorem zk_equal {p : Tr × Tr} (h : R 0 br ≠ R 1 br) : Z_X0_becomeEqual R (wB σ (R 0 br) (R 1 br) p) br = wB σ (R 0 br) (R 1 br) (K_eqP p.1 p.2) := by
  unfold Z_X0_becomeEqual K_eqP
  simp only [zk_isAny, zk_cut, zk_copyFrom, rS_wBx h, rS_wBy, wB_x h, wB_y, (mJ_wBx h).1, (mJ_wBx h).2.1, mJ_wBy.1, mJ_wBy.2.1]
  by_cases c1 : K_isAny p.1 = 0
  · by_cases c2 : K_isAny p.2 = 0
    · simp only [c1, c2, ↓reduceIte]
    · simp only [c1, c2, ↓reduceIte]; rfl
  · simp only [c1, ↓reduceIte]; rfl
theorem zk_unequal {p : Tr × Tr} (h : R 0 br ≠ R 1 br) : Z_X0_becomeUnequal R (wB σ (R 0 br) (R 1 br) p) br = wB σ (R 0 br) (R 1 br) (K_unP p.1 p.2) := by
  unfold Z_X0_becomeUnequal K_unP
  simp only [zk_isSingle, zk_drop, rS_wBx h, rS_wBy, wB_x h, wB_y, (mJ_wBx h).1, mJ_wBy.1]
  by_cases c1 : K_isSingle p.2 = 0
  · by_cases c2 : K_isSingle p.1 = 0
    · simp only [c1, c2, ↓reduceIte]
    · simp only [c1, c2, ↓reduceIte]
  · by_cases c2 : K_isSingle p.1 = 0
    · simp only [c1, c2, ↓reduceIte]
    · simp only [c1, c2, ↓reduceIte]
theorem zk_order {p : Tr × Tr} {g : Int32} (h : x ≠ y) : Z_X0_order R (wB σ x y p) x y g = wB σ x y (K_ord p.1 p.2 g) := by
  unfold Z_X0_order K_ord
  simp only [zk_isAny, zk_cut, rS_wBx h, rS_wBy, wB_x h, wB_y, (mJ_wBx h).1, (mJ_wBy).2.1]
  by_cases c1 : K_isAny p.1 = 0
  · by_cases c2 : K_isAny p.2 = 0
    · simp only [c1, c2, ↓reduceIte]
    · simp only [c1, c2, ↓reduceIte]
  · by_cases c2 : K_isAny p.2 = 0
    · simp only [c1, c2, ↓reduceIte]
    · simp only [c1, c2, ↓reduceIte]
theorem zk_orderUnsigned {p : Tr × Tr} {g : Int32} (h : x ≠ y) : Z_X0_orderUnsigned R (wB σ x y p) x y g = wB σ x y (K_oru p.1 p.2 g) := by
  unfold Z_X0_orderUnsigned K_oru
  simp only [zk_isAny, zk_isNatural, zk_cut, zk_become, zk_becomeNone, rS_wBx h, rS_wBy, wB_x h, wB_y, (mJ_wBx h).1, (mJ_wBy).2.1]
  by_cases c0 : K_isNatural p.2 = 0
  · simp only [c0, ↓reduceIte]
  · by_cases c1 : K_isAny p.1 = 0
    · by_cases c2 : K_isNatural p.1 = 0
      · simp only [c0, c1, c2, ↓reduceIte]
      · simp only [c0, c1, c2, ↓reduceIte]
    · by_cases c3 : p.2.2.1 - g.toInt64 < 0
      · by_cases c2 : K_isNatural p.1 = 0
        · simp only [c0, c1, c2, c3, ↓reduceIte]; rfl
        · simp only [c0, c1, c2, c3, ↓reduceIte]; rfl
      · by_cases c2 : K_isNatural p.1 = 0
        · simp only [c0, c1, c2, c3, ↓reduceIte]; rfl
        · simp only [c0, c1, c2, c3, ↓reduceIte]; rfl
theorem zk_narrowCompared {p : Tr × Tr} {pl so : Int32} (h : R 0 br ≠ R 1 br) (hs : so = 0 ∨ so = 1) : Z_X0_narrowCompared R (wB σ (R 0 br) (R 1 br) p) br pl so = wB σ (R 0 br) (R 1 br) (K_cmp pl so p.1 p.2) := by
  have e1 : ∀ g, Z_X0_order R (wB σ (R 0 br) (R 1 br) p) (R 1 br) (R 0 br) g = wB σ (R 0 br) (R 1 br) (swp (K_ord p.2 p.1 g)) := fun g => by
    rw [wB_sw (p := p) h.symm, zk_order h.symm, wB_sw h]; rfl
  have e2 : ∀ g, Z_X0_orderUnsigned R (wB σ (R 0 br) (R 1 br) p) (R 1 br) (R 0 br) g = wB σ (R 0 br) (R 1 br) (swp (K_oru p.2 p.1 g)) := fun g => by
    rw [wB_sw (p := p) h.symm, zk_orderUnsigned h.symm, wB_sw h]; rfl
  unfold Z_X0_narrowCompared K_cmp
  simp only [e1, e2, zk_order h, zk_orderUnsigned h]
  rcases hs with rfl | rfl
  · by_cases c1 : pl = 12
    · subst c1; simp
    · by_cases c2 : pl = 2
      · subst c2; simp
      · by_cases c3 : pl = 14
        · subst c3; simp
        · by_cases c4 : pl = 6
          · subst c4; simp
          · simp [c1, c2, c3, c4]
  · by_cases c1 : pl = 12
    · subst c1; simp
    · by_cases c2 : pl = 2
      · subst c2; simp
      · by_cases c3 : pl = 14
        · subst c3; simp
        · by_cases c4 : pl = 6
          · subst c4; simp
          · simp [c1, c2, c3, c4]
/-- narrow's end -/
theorem zk_n172 {p : Tr × Tr} (hD : D3 R st) (h : R 0 br ≠ R 1 br) : (Z_X0_narrow_p172 R (wB σ (R 0 br) (R 1 br) p) br st).2 = (if K_isNone p.1 = 0 then (if K_isNone p.2 = 0 then 1 else 0) else 0) ∧ (K_isNone p.1 = 0 → K_isNone p.2 = 0 → tS R (Z_X0_narrow_p172 R (wB σ (R 0 br) (R 1 br) p) br st).1 st = stT (stT (tS R σ st) (mI σ 516 st) p.1) (mI σ 517 st) p.2) ∧ rC (Z_X0_narrow_p172 R (wB σ (R 0 br) (R 1 br) p) br st).1 st = rC σ st ∧ Fc R st σ (Z_X0_narrow_p172 R (wB σ (R 0 br) (R 1 br) p) br st).1 := by
  have q4 : rC (wB σ (R 0 br) (R 1 br) p) st = rC σ st := by unfold wB; rw [rC_w3, rC_w3]
  have q5 : Fc R st σ (wB σ (R 0 br) (R 1 br) p) := fc_tr fc_w3 fc_w3
  unfold Z_X0_narrow_p172
  simp only [zk_isNone, zk_store, rS_wBx h, rS_wBy, rS_wK, mI_wB]
  by_cases c1 : K_isNone p.1 = 0
  · by_cases c2 : K_isNone p.2 = 0
    · simp only [c1, c2, ↓reduceIte]
      refine ⟨trivial, fun _ _ => ?_, ?_, ?_⟩
      · rw [tS_wK hD, tS_wK hD]; rfl
      · rw [rC_wK, rC_wK, q4]
      · exact fc_tr q5 (fc_tr fc_wK fc_wK)
    · simp only [c1, c2, ↓reduceIte]
      exact ⟨trivial, fun _ q => absurd q (by simp), q4, q5⟩
  · simp only [c1, ↓reduceIte]
    exact ⟨trivial, fun q => absurd q (by simp), q4, q5⟩
theorem zk_n82 {p : Tr × Tr} {x2 x4 : Int32} (h : R 0 br ≠ R 1 br) (hs : x4 = 0 ∨ x4 = 1) : Z_X0_narrow_p82 R (wB σ (R 0 br) (R 1 br) p) br st x2 x4 = Z_X0_narrow_p172 R (wB σ (R 0 br) (R 1 br) (K_n82 (x2 &&& 14) x4 (mI σ 515 st) p.1 p.2)) br st := by
  unfold Z_X0_narrow_p82 K_n82
  simp only [zk_unequal h, zk_equal h, zk_narrowCompared h hs, zk_cut, rS_wBx h, wB_x h, mI_wB]
  by_cases c1 : x2 &&& 14 = 4
  · by_cases c2 : x4 = 0
    · simp only [c1, c2, ↓reduceIte]
    · simp only [c1, c2, ↓reduceIte]
  · by_cases c2 : mI σ 515 st = 1
    · simp only [c1, c2, ↓reduceIte]
    · by_cases c3 : x2 &&& 14 = 8
      · by_cases c4 : x4 = 0
        · simp [c2, c3, c4]
        · simp [c2, c3, c4]
      · simp only [c1, c2, c3, ↓reduceIte]
theorem zk_n60 {p : Tr × Tr} {x2 x3 : Int32} (h : R 0 br ≠ R 1 br) : Z_X0_narrow_p60 R (wB σ (R 0 br) (R 1 br) p) br st x2 x3 = Z_X0_narrow_p172 R (wB σ (R 0 br) (R 1 br) (K_n82 (x2 &&& 14) (K_so x2 x3) (mI σ 515 st) p.1 p.2)) br st := by
  unfold Z_X0_narrow_p60 K_so
  by_cases c1 : x2 &&& 1 = 0
  · by_cases c2 : x3 = 1
    · simp only [c1, c2, ↓reduceIte]; exact zk_n82 h (Or.inr rfl)
    · simp only [c1, c2, ↓reduceIte]; exact zk_n82 h (Or.inl rfl)
  · by_cases c2 : x3 = 0
    · simp only [c1, c2, ↓reduceIte]; exact zk_n82 h (Or.inr rfl)
    · simp only [c1, c2, ↓reduceIte]; exact zk_n82 h (Or.inl rfl)
theorem zk_narrow {x2 x3 : Int32} (hD : D3 R st) (h : R 0 br ≠ R 1 br) : (Z_X0_narrow R σ br st x2 x3).2 = (if (K_nar (tS R σ st) (rC σ st) x2 x3).isSome then 1 else 0) ∧ (∀ f, K_nar (tS R σ st) (rC σ st) x2 x3 = some f → tS R (Z_X0_narrow R σ br st x2 x3).1 st = f) ∧ rC (Z_X0_narrow R σ br st x2 x3).1 st = rC σ st ∧ Fc R st σ (Z_X0_narrow R σ br st x2 x3).1 := by
  unfold Z_X0_narrow K_nar
  have e0 : (rC σ st).1 = mI σ 515 st := rfl
  rw [e0]
  by_cases c0 : mI σ 515 st = 0
  · simp only [c0, ↓reduceIte]
    exact ⟨rfl, fun f e => Option.some.inj e, trivial, fc_rf⟩
  · simp only [c0, ↓reduceIte]
    have key : (if mI σ 517 st = -1 then Z_X0_narrow_p60 R (Z_X7_become R (Z_X8_load R σ st (mI σ 516 st) (R 0 br)) (R 1 br) (mJ (Z_X8_load R σ st (mI σ 516 st) (R 0 br)) 518 st) (mJ (Z_X8_load R σ st (mI σ 516 st) (R 0 br)) 518 st) 0) br st x2 x3 else Z_X0_narrow_p60 R (Z_X8_load R (Z_X8_load R σ st (mI σ 516 st) (R 0 br)) st (mI σ 517 st) (R 1 br)) br st x2 x3) = Z_X0_narrow_p172 R (wB σ (R 0 br) (R 1 br) (K_pr2 (tS R σ st) (rC σ st) x2 x3)) br st := by
      rw [zk_load, zk_load, zk_become, tS_w3, mJ_w3n]
      have ek : K_pr2 (tS R σ st) (rC σ st) x2 x3 = K_n82 (x2 &&& 14) (K_so x2 x3) (mI σ 515 st) (ldT (tS R σ st) (mI σ 516 st)) (if mI σ 517 st = -1 then K_become tANY (mJ σ 518 st) (mJ σ 518 st) 0 else ldT (tS R σ st) (mI σ 517 st)) := rfl
      rw [ek]
      by_cases c1 : mI σ 517 st = -1
      · simp only [c1, ↓reduceIte]
        exact zk_n60 (p := (_, _)) h
      · simp only [c1, ↓reduceIte]
        exact zk_n60 (p := (_, _)) h
    have key2 := zk_n172 (R := R) (σ := σ) (br := br) (st := st) (p := K_pr2 (tS R σ st) (rC σ st) x2 x3) hD h
    rw [← key] at key2
    obtain ⟨k1, k2, k3, k4⟩ := key2
    refine ⟨k1.trans ?_, fun f hf => ?_, k3, k4⟩
    · by_cases c1 : K_isNone (K_pr2 (tS R σ st) (rC σ st) x2 x3).1 = 0
      · by_cases c2 : K_isNone (K_pr2 (tS R σ st) (rC σ st) x2 x3).2 = 0
        · simp only [c1, c2, ↓reduceIte]; rfl
        · simp only [c1, c2, ↓reduceIte]; rfl
      · simp only [c1, ↓reduceIte]; rfl
    · by_cases c1 : K_isNone (K_pr2 (tS R σ st) (rC σ st) x2 x3).1 = 0
      · by_cases c2 : K_isNone (K_pr2 (tS R σ st) (rC σ st) x2 x3).2 = 0
        · simp only [c1, c2, ↓reduceIte] at hf
          rw [← Option.some.inj hf]
          exact k2 c1 c2
        · simp only [c1, c2, ↓reduceIte] at hf; cases hf
      · simp only [c1, ↓reduceIte] at hf; cases hf
end KAP
