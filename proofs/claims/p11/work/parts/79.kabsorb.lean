/-! absorb -/
def K_ab1 (w : Int32) (t u : Tr) : Tr := if t = u then t else if w = 0 then K_join tANY t u else K_stretchFrom (K_join tANY t u) t
/-- two states share nothing -/
def D6 (R : Nat → Nat → Nat) (s1 s2 : Nat) : Prop := (R 512 s2 ≠ R 512 s1 ∧ R 512 s2 ≠ R 513 s1 ∧ R 512 s2 ≠ R 514 s1) ∧ (R 513 s2 ≠ R 512 s1 ∧ R 513 s2 ≠ R 513 s1 ∧ R 513 s2 ≠ R 514 s1) ∧ R 514 s2 ≠ R 512 s1 ∧ R 514 s2 ≠ R 513 s1 ∧ R 514 s2 ≠ R 514 s1
section KAB
variable {R : Nat → Nat → Nat} {σ τ υ : SG} {st st2 o i e x y br lk : Nat} {t u a b c : Tr} {r : Rc}
theorem tS_fc (h : Fc R st σ τ) (hd : D6 R st st2) : tS R τ st2 = tS R σ st2 := by
  obtain ⟨⟨a1, a2, a3⟩, ⟨b1, b2, b3⟩, c1, c2, c3⟩ := hd
  unfold tS
  rw [h.1 _ a1 a2 a3, h.1 _ b1 b2 b3, h.1 _ c1 c2 c3]
theorem rC_fc (h : Fc R st σ τ) (hn : st2 ≠ st) : rC τ st2 = rC σ st2 := by
  unfold rC
  rw [h.2.1 515 st2 (Or.inr hn), h.2.1 516 st2 (Or.inr hn), h.2.1 517 st2 (Or.inr hn), h.2.2.2 518 st2 (by decide) (Or.inr hn)]
theorem zk_same {w : Nat} {x : Int32} : (Z_X8_isSameSpan R σ st w x = 0) ↔ ¬ tS R σ st x.toNatClampNeg = tS R σ w x.toNatClampNeg := by
  unfold Z_X8_isSameSpan tS
  simp only [Prod.mk.injEq]
  by_cases c1 : mj σ (R 512 st) x.toNatClampNeg = mj σ (R 512 w) x.toNatClampNeg
  · by_cases c2 : mj σ (R 513 st) x.toNatClampNeg = mj σ (R 513 w) x.toNatClampNeg
    · by_cases c3 : mj σ (R 514 st) x.toNatClampNeg = mj σ (R 514 w) x.toNatClampNeg
      · simp [c1, c2, c3]
      · simp [c1, c2, c3]
    · simp [c1, c2]
  · simp [c1]
theorem zk_sameRec {w : Nat} : (Z_X8_isSameRecord R σ st w = 0) ↔ ¬ rC σ st = rC σ w := by
  unfold Z_X8_isSameRecord rC
  simp only [Prod.mk.injEq]
  by_cases c1 : mI σ 515 st = mI σ 515 w
  · by_cases c2 : mI σ 516 st = mI σ 516 w
    · by_cases c3 : mI σ 517 st = mI σ 517 w
      · by_cases c4 : mJ σ 518 st = mJ σ 518 w
        · simp [c1, c2, c3, c4]
        · simp [c1, c2, c3, c4]
      · simp [c1, c2, c3]
    · simp [c1, c2]
  · simp [c1]
def K_abR (r w : Rc) : Rc := if r.1 = 0 then r else if r = w then r else (0, -1, -1, 0)
theorem zk_ab153 {x3 : Int32} : tS R (Z_X4_absorb_p153 R σ lk st x3).1 st = tS R σ st ∧ rC (Z_X4_absorb_p153 R σ lk st x3).1 st = K_abR (rC σ st) (rC σ (R 259 lk)) ∧ Fc R st σ (Z_X4_absorb_p153 R σ lk st x3).1 ∧ (Z_X4_absorb_p153 R σ lk st x3).2 = (if (rC σ st).1 = 0 then x3 else if rC σ st = rC σ (R 259 lk) then x3 else 1) := by
  unfold Z_X4_absorb_p153 K_abR
  have e0 : (rC σ st).1 = mI σ 515 st := rfl
  rw [e0]
  by_cases c1 : mI σ 515 st = 0
  · simp only [c1, ↓reduceIte]; exact ⟨trivial, trivial, fc_rf, trivial⟩
  · by_cases c2 : rC σ st = rC σ (R 259 lk)
    · have c3 : ¬ Z_X8_isSameRecord R σ st (R 259 lk) = 0 := fun h => zk_sameRec.mp h c2
      simp only [c1, c3, c2, ↓reduceIte]; exact ⟨trivial, trivial, fc_rf, trivial⟩
    · have c3 : Z_X8_isSameRecord R σ st (R 259 lk) = 0 := zk_sameRec.mpr c2
      simp only [c1, c3, c2, ↓reduceIte, zk_dropRecord]; exact ⟨rfl, rC_wR, fc_wR, trivial⟩
/-- the spans of a Looking -/
def L3 (R : Nat → Nat → Nat) (lk : Nat) : Prop := R 262 lk ≠ R 263 lk ∧ R 262 lk ≠ R 264 lk ∧ R 263 lk ≠ R 264 lk
theorem isl_1 {x : Int32} (h : Rg 0 23 x) : ¬ Z_X9_isLocation x = 0 := by
  have h1 : ¬ x < 0 := by rw [Int32.lt_iff_toInt_lt, show (0 : Int32).toInt = 0 from rfl]; have := h.1; omega
  have h2 : ¬ 24 ≤ x := by rw [Int32.le_iff_toInt_le, show (24 : Int32).toInt = 24 from rfl]; have := h.2; omega
  unfold Z_X9_isLocation
  rw [if_neg h1, if_neg h2]
  decide
theorem ldT_in {f : Nat → Tr} {x : Int32} (h : Rg 0 23 x) : ldT f x = f x.toNatClampNeg := by unfold ldT; rw [if_neg (isl_1 h)]
theorem stT_in {f : Nat → Tr} {x : Int32} (h : Rg 0 23 x) : stT f x t = upT f x.toNatClampNeg t := by unfold stT; rw [if_neg (isl_1 h)]
/-- one location of absorb: what f gets -/
theorem ab_step {f : (Nat → Nat → Nat) → SG → Nat → Nat → Int32 → Int32 → Int32 → SG × Int32} {w x3 x4 : Int32} (hx : Rg 0 23 x4) (hD : D3 R st) (hL : L3 R lk) (hd : D6 R st (R 259 lk)) (hn : R 259 lk ≠ st) : ∃ τ, Z_X4_absorb_p5_b f R σ lk st w x3 x4 = f R τ lk st w (if K_ab1 w (tS R σ st x4.toNatClampNeg) (tS R σ (R 259 lk) x4.toNatClampNeg) = tS R σ st x4.toNatClampNeg then x3 else 1) (x4 + 1) ∧ tS R τ st = upT (tS R σ st) x4.toNatClampNeg (K_ab1 w (tS R σ st x4.toNatClampNeg) (tS R σ (R 259 lk) x4.toNatClampNeg)) ∧ rC τ st = rC σ st ∧ Fc R st σ τ := by
  obtain ⟨l1, l2, l3⟩ := hL
  have h24 : ¬ 24 ≤ x4 := by rw [Int32.le_iff_toInt_le, show (24 : Int32).toInt = 24 from rfl]; have := hx.2; omega
  unfold Z_X4_absorb_p5_b K_ab1
  rw [if_neg h24]
  by_cases cs : tS R σ st x4.toNatClampNeg = tS R σ (R 259 lk) x4.toNatClampNeg
  · have c1 : ¬ Z_X8_isSameSpan R σ st (R 259 lk) x4 = 0 := fun h => zk_same.mp h cs
    refine ⟨σ, ?_, ?_, rfl, fc_rf⟩
    · simp only [c1, cs, ↓reduceIte]
    · rw [if_pos cs]
      funext j
      unfold upT
      split
      · rename_i h; rw [h]
      · rfl
  · have c1 : Z_X8_isSameSpan R σ st (R 259 lk) x4 = 0 := zk_same.mpr cs
    rw [if_pos c1, if_neg cs]
    simp only [zk_load, zk_join, zk_stretchFrom, zk_store, tS_w3, rS_w3, rS_w3n l1, rS_w3n l1.symm, rS_w3n l2, rS_w3n l2.symm, rS_w3n l3, rS_w3n l3.symm, ldT_in hx, w3_w3, mJ_wK]
    have ej : ∀ q, K_join q (tS R σ st x4.toNatClampNeg) (tS R σ (R 259 lk) x4.toNatClampNeg) = K_join tANY (tS R σ st x4.toNatClampNeg) (tS R σ (R 259 lk) x4.toNatClampNeg) := fun _ => rfl
    simp only [ej]
    have hh : ∀ v : Tr, ∃ τ, (if mJ (w3 (w3 (w3 σ (R 262 lk) (tS R σ st x4.toNatClampNeg)) (R 263 lk) (tS R σ (R 259 lk) x4.toNatClampNeg)) (R 264 lk) v) 448 (R 264 lk) = mJ (w3 (w3 (w3 σ (R 262 lk) (tS R σ st x4.toNatClampNeg)) (R 263 lk) (tS R σ (R 259 lk) x4.toNatClampNeg)) (R 264 lk) v) 448 (R 262 lk) then
        if mJ (w3 (w3 (w3 σ (R 262 lk) (tS R σ st x4.toNatClampNeg)) (R 263 lk) (tS R σ (R 259 lk) x4.toNatClampNeg)) (R 264 lk) v) 449 (R 264 lk) = mJ (w3 (w3 (w3 σ (R 262 lk) (tS R σ st x4.toNatClampNeg)) (R 263 lk) (tS R σ (R 259 lk) x4.toNatClampNeg)) (R 264 lk) v) 449 (R 262 lk) then
        if mJ (w3 (w3 (w3 σ (R 262 lk) (tS R σ st x4.toNatClampNeg)) (R 263 lk) (tS R σ (R 259 lk) x4.toNatClampNeg)) (R 264 lk) v) 450 (R 264 lk) = mJ (w3 (w3 (w3 σ (R 262 lk) (tS R σ st x4.toNatClampNeg)) (R 263 lk) (tS R σ (R 259 lk) x4.toNatClampNeg)) (R 264 lk) v) 450 (R 262 lk) then
        f R (wK R (w3 (w3 (w3 σ (R 262 lk) (tS R σ st x4.toNatClampNeg)) (R 263 lk) (tS R σ (R 259 lk) x4.toNatClampNeg)) (R 264 lk) v) st x4 v) lk st w x3 (x4 + 1)
        else f R (wK R (w3 (w3 (w3 σ (R 262 lk) (tS R σ st x4.toNatClampNeg)) (R 263 lk) (tS R σ (R 259 lk) x4.toNatClampNeg)) (R 264 lk) v) st x4 v) lk st w 1 (x4 + 1)
        else f R (wK R (w3 (w3 (w3 σ (R 262 lk) (tS R σ st x4.toNatClampNeg)) (R 263 lk) (tS R σ (R 259 lk) x4.toNatClampNeg)) (R 264 lk) v) st x4 v) lk st w 1 (x4 + 1)
        else f R (wK R (w3 (w3 (w3 σ (R 262 lk) (tS R σ st x4.toNatClampNeg)) (R 263 lk) (tS R σ (R 259 lk) x4.toNatClampNeg)) (R 264 lk) v) st x4 v) lk st w 1 (x4 + 1)) = f R τ lk st w (if v = tS R σ st x4.toNatClampNeg then x3 else 1) (x4 + 1) ∧ tS R τ st = upT (tS R σ st) x4.toNatClampNeg v ∧ rC τ st = rC σ st ∧ Fc R st σ τ := by
      intro v
      have eA : rS (w3 (w3 (w3 σ (R 262 lk) (tS R σ st x4.toNatClampNeg)) (R 263 lk) (tS R σ (R 259 lk) x4.toNatClampNeg)) (R 264 lk) v) (R 264 lk) = v := rS_w3
      have eB : rS (w3 (w3 (w3 σ (R 262 lk) (tS R σ st x4.toNatClampNeg)) (R 263 lk) (tS R σ (R 259 lk) x4.toNatClampNeg)) (R 264 lk) v) (R 262 lk) = tS R σ st x4.toNatClampNeg := by rw [rS_w3n l2, rS_w3n l1, rS_w3]
      generalize hτ : w3 (w3 (w3 σ (R 262 lk) (tS R σ st x4.toNatClampNeg)) (R 263 lk) (tS R σ (R 259 lk) x4.toNatClampNeg)) (R 264 lk) v = τ at eA eB ⊢
      refine ⟨wK R τ st x4 v, ?_, ?_, ?_, ?_⟩
      · have a1 : mJ τ 448 (R 264 lk) = v.1 := congrArg (fun q => q.1) eA
        have a2 : mJ τ 449 (R 264 lk) = v.2.1 := congrArg (fun q => q.2.1) eA
        have a3 : mJ τ 450 (R 264 lk) = v.2.2 := congrArg (fun q => q.2.2) eA
        have b1 : mJ τ 448 (R 262 lk) = (tS R σ st x4.toNatClampNeg).1 := congrArg (fun q => q.1) eB
        have b2 : mJ τ 449 (R 262 lk) = (tS R σ st x4.toNatClampNeg).2.1 := congrArg (fun q => q.2.1) eB
        have b3 : mJ τ 450 (R 262 lk) = (tS R σ st x4.toNatClampNeg).2.2 := congrArg (fun q => q.2.2) eB
        rw [a1, a2, a3, b1, b2, b3]
        generalize tS R σ st x4.toNatClampNeg = s
        obtain ⟨v1, v2, v3⟩ := v
        obtain ⟨s1, s2, s3⟩ := s
        simp only [Prod.mk.injEq]
        by_cases p1 : v1 = s1
        · by_cases p2 : v2 = s2
          · by_cases p3 : v3 = s3
            · simp [p1, p2, p3]
            · simp [p1, p2, p3]
          · simp [p1, p2]
        · simp [p1]
      · rw [tS_wK hD, stT_in hx, ← hτ]; rfl
      · rw [rC_wK, ← hτ, rC_w3, rC_w3, rC_w3]
      · refine fc_tr ?_ fc_wK
        rw [← hτ]
        exact fc_tr (fc_tr fc_w3 fc_w3) fc_w3
    by_cases cw : w = 0
    · simp only [cw, ↓reduceIte]
      have := hh (K_join tANY (tS R σ st x4.toNatClampNeg) (tS R σ (R 259 lk) x4.toNatClampNeg))
      simp only [cw] at this
      exact this
    · simp only [cw, ↓reduceIte]
      exact hh (K_stretchFrom (K_join tANY (tS R σ st x4.toNatClampNeg) (tS R σ (R 259 lk) x4.toNatClampNeg)) (tS R σ st x4.toNatClampNeg))
theorem cl_in {x : Int32} {lo hi : Int} (h : Rg lo hi x) (h0 : 0 ≤ lo := by decide) : (x.toNatClampNeg : Int) = x.toInt := by
  have e : x.toNatClampNeg = x.toInt.toNat := rfl
  have := h.1
  omega
theorem cl_up {x : Int32} (h : Rg 0 23 x) : (x + 1).toNatClampNeg = x.toNatClampNeg + 1 ∧ Rg 0 24 (x + 1) := by
  have h2 : Rg 0 24 (x + 1) := rg_w (rg_add (lo := 1) (hi := 24) h (⟨by decide, by decide⟩ : Rg 1 1 1))
  have e : (x + 1).toInt = x.toInt + 1 := by have := h.1; have := h.2; rw [Int32.toInt_add, show (1 : Int32).toInt = 1 from rfl, bmod_in (by omega) (by omega)]
  have e1 := cl_in h
  have e2 := cl_in h2
  refine ⟨?_, h2⟩
  omega
def Chg (R : Nat → Nat → Nat) (σ : SG) (st wk : Nat) (w : Int32) (n : Nat) : Prop := (∃ j, n ≤ j ∧ j < 24 ∧ K_ab1 w (tS R σ st j) (tS R σ wk j) ≠ tS R σ st j) ∨ ¬ ((rC σ st).1 = 0 ∨ rC σ st = rC σ wk)
theorem zk_ab5 {w : Int32} (hD : D3 R st) (hL : L3 R lk) (hd : D6 R st (R 259 lk)) (hn : R 259 lk ≠ st) : ∀ (fu : Nat) (σ : SG) (x3 x4 : Int32), Rg 0 24 x4 → (24 - x4.toInt).toNat < fu →
    tS R (Z_X4_absorb_p5 fu R σ lk st w x3 x4).1 st = (fun j => if x4.toNatClampNeg ≤ j ∧ j < 24 then K_ab1 w (tS R σ st j) (tS R σ (R 259 lk) j) else tS R σ st j) ∧ rC (Z_X4_absorb_p5 fu R σ lk st w x3 x4).1 st = K_abR (rC σ st) (rC σ (R 259 lk)) ∧ Fc R st σ (Z_X4_absorb_p5 fu R σ lk st w x3 x4).1 ∧ (Chg R σ st (R 259 lk) w x4.toNatClampNeg → (Z_X4_absorb_p5 fu R σ lk st w x3 x4).2 = 1) ∧ (¬ Chg R σ st (R 259 lk) w x4.toNatClampNeg → (Z_X4_absorb_p5 fu R σ lk st w x3 x4).2 = x3) := by
  intro fu
  induction fu with
  | zero => intro σ x3 x4 _ h; exact absurd h (Nat.not_lt_zero _)
  | succ fu ih =>
    intro σ x3 x4 hx hf
    have e0 : Z_X4_absorb_p5 (fu + 1) R σ lk st w x3 x4 = Z_X4_absorb_p5_b (Z_X4_absorb_p5 fu) R σ lk st w x3 x4 := rfl
    rw [e0]
    by_cases h24 : 24 ≤ x4
    · rw [zl_X4_absorb_p5_0 h24]
      have hle := Int32.le_iff_toInt_le.mp h24
      rw [show (24 : Int32).toInt = 24 from rfl] at hle
      have ec : x4.toNatClampNeg = 24 := by have := cl_in hx; have := hx.2; omega
      obtain ⟨k1, k2, k3, k4⟩ := zk_ab153 (R := R) (σ := σ) (lk := lk) (st := st) (x3 := x3)
      refine ⟨k1.trans ?_, k2, k3, fun h => ?_, fun h => ?_⟩
      · funext j
        rw [ec, if_neg (by omega)]
      · rw [k4]
        rcases h with ⟨j, j1, j2, -⟩ | h
        · omega
        · by_cases c1 : (rC σ st).1 = 0
          · exact absurd (Or.inl c1) h
          · by_cases c2 : rC σ st = rC σ (R 259 lk)
            · exact absurd (Or.inr c2) h
            · rw [if_neg c1, if_neg c2]
      · rw [k4]
        by_cases c1 : (rC σ st).1 = 0
        · rw [if_pos c1]
        · by_cases c2 : rC σ st = rC σ (R 259 lk)
          · rw [if_neg c1, if_pos c2]
          · exact absurd (Or.inr (fun q => q.elim c1 c2)) h
    · have hx2 : Rg 0 23 x4 := by
        have := Int32.not_le.mp h24
        exact rg_lt_l hx (⟨by decide, by decide⟩ : Rg 24 24 24) this
      obtain ⟨τ, e, t1, t2, t3⟩ := ab_step (σ := σ) (f := Z_X4_absorb_p5 fu) (w := w) (x3 := x3) hx2 hD hL hd hn
      rw [e]
      obtain ⟨u1, u2⟩ := cl_up hx2
      obtain ⟨k1, k2, k3, k4, k5⟩ := ih τ (if K_ab1 w (tS R σ st x4.toNatClampNeg) (tS R σ (R 259 lk) x4.toNatClampNeg) = tS R σ st x4.toNatClampNeg then x3 else 1) (x4 + 1) u2 (lp_fu hf hx2)
      have g1 : tS R τ (R 259 lk) = tS R σ (R 259 lk) := tS_fc t3 hd
      have g2 : rC τ (R 259 lk) = rC σ (R 259 lk) := rC_fc t3 hn
      rw [u1, g1, t1] at k1
      rw [t2, g2] at k2
      have lt : x4.toNatClampNeg < 24 := rg_cl hx2
      have hC : Chg R σ st (R 259 lk) w x4.toNatClampNeg ↔ (K_ab1 w (tS R σ st x4.toNatClampNeg) (tS R σ (R 259 lk) x4.toNatClampNeg) ≠ tS R σ st x4.toNatClampNeg ∨ Chg R τ st (R 259 lk) w (x4 + 1).toNatClampNeg) := by
        unfold Chg
        rw [u1, g1, g2, t2, t1]
        constructor
        · rintro (⟨j, j1, j2, j3⟩ | h)
          · by_cases ej : j = x4.toNatClampNeg
            · subst ej; exact Or.inl j3
            · exact Or.inr (Or.inl ⟨j, by omega, j2, by unfold upT; rw [if_neg ej]; exact j3⟩)
          · exact Or.inr (Or.inr h)
        · rintro (h | ⟨j, j1, j2, j3⟩ | h)
          · exact Or.inl ⟨_, Nat.le_refl _, lt, h⟩
          · unfold upT at j3
            rw [if_neg (by omega)] at j3
            exact Or.inl ⟨j, by omega, j2, j3⟩
          · exact Or.inr h
      refine ⟨k1.trans ?_, k2, fc_tr t3 k3, fun h => ?_, fun h => ?_⟩
      · funext j
        unfold upT
        by_cases ej : j = x4.toNatClampNeg
        · subst ej
          rw [if_neg (by omega), if_pos rfl, if_pos ⟨Nat.le_refl _, lt⟩]
        · simp only [if_neg ej]
          by_cases c : x4.toNatClampNeg ≤ j ∧ j < 24
          · rw [if_pos c, if_pos ⟨by omega, c.2⟩]
          · rw [if_neg c, if_neg (by omega)]
      · rcases hC.mp h with h1 | h1
        · by_cases h2 : Chg R τ st (R 259 lk) w (x4 + 1).toNatClampNeg
          · exact k4 h2
          · rw [k5 h2, if_neg h1]
        · exact k4 h1
      · have h1 : ¬ Chg R τ st (R 259 lk) w (x4 + 1).toNatClampNeg := fun q => h (hC.mpr (Or.inr q))
        have h2 : K_ab1 w (tS R σ st x4.toNatClampNeg) (tS R σ (R 259 lk) x4.toNatClampNeg) = tS R σ st x4.toNatClampNeg := Classical.byContradiction fun q => h (hC.mpr (Or.inl q))
        rw [k5 h1, if_pos h2]
theorem zk_absorb {w : Int32} (hD : D3 R st) (hL : L3 R lk) (hd : D6 R st (R 259 lk)) (hn : R 259 lk ≠ st) :
    tS R (Z_X4_absorb R σ lk st w).1 st = (fun j => if j < 24 then K_ab1 w (tS R σ st j) (tS R σ (R 259 lk) j) else tS R σ st j) ∧ rC (Z_X4_absorb R σ lk st w).1 st = K_abR (rC σ st) (rC σ (R 259 lk)) ∧ Fc R st σ (Z_X4_absorb R σ lk st w).1 ∧ (Chg R σ st (R 259 lk) w 0 → (Z_X4_absorb R σ lk st w).2 = 1) ∧ (¬ Chg R σ st (R 259 lk) w 0 → (Z_X4_absorb R σ lk st w).2 = 0) := by
  have e0 : Z_X4_absorb R σ lk st w = Z_X4_absorb_p5 25 R σ lk st w 0 0 := rfl
  rw [e0]
  obtain ⟨k1, k2, k3, k4, k5⟩ := zk_ab5 (w := w) hD hL hd hn 25 σ 0 0 ⟨by decide, by decide⟩ (by decide)
  refine ⟨k1.trans ?_, k2, k3, k4, k5⟩
  funext j
  have e1 : (0 : Int32).toNatClampNeg = 0 := rfl
  rw [e1]
  simp only [Nat.zero_le, true_and]
end KAB
