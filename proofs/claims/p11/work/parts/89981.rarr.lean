/-! arriving, in the reference: the table -/
def sRF (p q : Rc) : Int32 := if p.1 = q.1 then (if p.1 = 0 then 1 else if p.2.1 = q.2.1 then (if p.1 = 1 then (if p.2.2.1 = q.2.2.1 then (if p.1 = 2 then (if p.2.2.2 = q.2.2.2 then 1 else 0) else 1) else 0) else if p.1 = 2 then (if p.2.2.2 = q.2.2.2 then 1 else 0) else 1) else 0) else 0
theorem ng1 {x : Int32} (h : Rg 0 23 x) : ¬ x = -1 := rg_nec (v := -1) h
theorem sr_ok {r1 r2 q1 q2 : Rc} (h1 : RRel r1 q1) (h2 : RRel r2 q2) (hz : ¬ r1.1 = 0) : sRF q1 q2 = 0 ↔ ¬ r1 = r2 := by
  obtain ⟨a1, b1, c1, d1⟩ := r1
  obtain ⟨a2, b2, c2, d2⟩ := r2
  obtain ⟨s1, u1, v1, w1⟩ := q1
  obtain ⟨s2, u2, v2, w2⟩ := q2
  simp only [RRel] at h1 h2 hz
  rcases h1 with ⟨z, -⟩ | ⟨e1, hx1, f1, (⟨hy1, g1, i1, j1⟩ | ⟨hy1, i1, j1⟩)⟩ | ⟨e1, hx1, f1, g1, i1, j1⟩
  · exact absurd z hz
  · have := ng1 hy1
    rcases h2 with ⟨z, y⟩ | ⟨e2, hx2, f2, (⟨hy2, g2, i2, j2⟩ | ⟨hy2, i2, j2⟩)⟩ | ⟨e2, hx2, f2, g2, i2, j2⟩
    · subst e1 f1 g1 i1 j1 z y; simp [sRF]
    · subst e1 f1 g1 i1 j1 e2 f2 g2 i2 j2
      by_cases p : u1 = u2 <;> by_cases q : v1 = v2 <;> simp [sRF, p, q]
    · subst e1 f1 g1 i1 j1 e2 f2 hy2 i2 j2; simp [sRF, this]
    · subst e1 f1 g1 i1 j1 e2 f2 g2 i2 j2; simp [sRF]
  · rcases h2 with ⟨z, y⟩ | ⟨e2, hx2, f2, (⟨hy2, g2, i2, j2⟩ | ⟨hy2, i2, j2⟩)⟩ | ⟨e2, hx2, f2, g2, i2, j2⟩
    · subst e1 f1 hy1 i1 j1 z y; simp [sRF]
    · have := ng1 hy2
      subst e1 f1 hy1 i1 j1 e2 f2 g2 i2 j2; simp [sRF, Ne.symm this]
    · subst e1 f1 hy1 i1 j1 e2 f2 hy2 i2 j2
      by_cases p : u1 = u2 <;> by_cases q : w1 = w2 <;> simp [sRF, p, q]
    · subst e1 f1 hy1 i1 j1 e2 f2 g2 i2 j2; simp [sRF]
  · rcases h2 with ⟨z, y⟩ | ⟨e2, hx2, f2, (⟨hy2, g2, i2, j2⟩ | ⟨hy2, i2, j2⟩)⟩ | ⟨e2, hx2, f2, g2, i2, j2⟩
    · subst e1 f1 g1 i1 j1 z y; simp [sRF]
    · subst e1 f1 g1 i1 j1 e2 f2 g2 i2 j2; simp [sRF]
    · subst e1 f1 g1 i1 j1 e2 f2 hy2 i2 j2; simp [sRF]
    · subst e1 f1 g1 i1 j1 e2 f2 g2 i2 j2
      by_cases p : u1 = u2 <;> simp [sRF, p]
/-- the reference's table -/
def RTb (R : Nat → Nat → Nat) (m : Nat) (σ : SG) (t : Tb) : Prop := ∀ i, i < 200 → mi σ (R 647 m) i = (t i).1 ∧ mi σ (R 648 m) i = (t i).2.1 ∧ ((¬ (t i).1 = 0 ∨ ¬ (t i).2.1 = 0) → (∀ k, k < 24 → Gc (cC R m σ (24 * i + k)) ∧ ab (cC R m σ (24 * i + k)) = (t i).2.2.1 k) ∧ RRel (t i).2.2.2 (rR R m σ i))
/-- what is left by all that goes on while one instruction is gone through -/
def FLr (R : Nat → Nat → Nat) (m : Nat) (σ τ : SG) : Prop := mJ τ = mJ σ ∧ (∀ k q, k ≠ 676 → mI τ k q = mI σ k q) ∧ (∀ j, 4856 ≤ j → j < 4904 → cC R m τ j = cC R m σ j) ∧ rR R m τ 201 = rR R m σ 201
section RAT
variable {R : Nat → Nat → Nat} {σ τ ρ υ : SG} {m : Nat} {fr x4 x5 x6 n : Int32} {t : Tb} {f : Nat → Tr} {r : Rc} {y : Int64}
theorem fl_rf : FLr R m σ σ := ⟨rfl, fun _ _ _ => rfl, fun _ _ _ => rfl, rfl⟩
theorem fl_tr (h : FLr R m σ τ) (h2 : FLr R m τ υ) : FLr R m σ υ := ⟨h2.1.trans h.1, fun k q s => (h2.2.1 k q s).trans (h.2.1 k q s), fun j a b => (h2.2.2.1 j a b).trans (h.2.2.1 j a b), h2.2.2.2.trans h.2.2.2⟩
theorem loop96 (hD : D4 R m) (hD8 : D8 R m) (h4 : Rg 0 199 x4) {w : Int32} : ∀ (fu : Nat) (σ : SG) (x5 x6 : Int32), Rg 0 24 x6 → (24 - x6.toInt).toNat < fu → (x5 = 0 ∨ x5 = 1) → wdn x4 fr (mi σ (R 647 m) x4.toNatClampNeg) = w → (∀ k, k < 24 → Gc (cC R m σ (24 * x4.toNatClampNeg + k)) ∧ Gc (cC R m σ (4904 + k))) → ∃ ρ y, Z_X10_arrive_p96 fu R σ m fr x4 x5 x6 = Z_X10_arrive_p226 R ρ m x4 y ∧ (y = 0 ∨ y = 1) ∧ Fx R m (PXl x4.toNatClampNeg) σ ρ ∧ mI ρ = mI σ ∧ (∀ k, k < 24 → Gc (cC R m ρ (24 * x4.toNatClampNeg + k)) ∧ ab (cC R m ρ (24 * x4.toNatClampNeg + k)) = if x6.toNatClampNeg ≤ k then K_ab1 w (ab (cC R m σ (24 * x4.toNatClampNeg + k))) (ab (cC R m σ (4904 + k))) else ab (cC R m σ (24 * x4.toNatClampNeg + k))) ∧ (y = 0 ↔ x5 = 0 ∧ ∀ k, x6.toNatClampNeg ≤ k → k < 24 → K_ab1 w (ab (cC R m σ (24 * x4.toNatClampNeg + k))) (ab (cC R m σ (4904 + k))) = ab (cC R m σ (24 * x4.toNatClampNeg + k))) := by
  intro fu
  induction fu with
  | zero => intro σ x5 x6 _ h; exact absurd h (Nat.not_lt_zero _)
  | succ fu ih =>
    intro σ x5 x6 hx hf h5 hw hg
    have e0 : Z_X10_arrive_p96 (fu + 1) R σ m fr x4 x5 x6 = Z_X10_arrive_p96_b (Z_X10_arrive_p96 fu) R σ m fr x4 x5 x6 := rfl
    rw [e0]
    have l4 : x4.toNatClampNeg < 200 := rg_cl h4
    by_cases h24 : 24 ≤ x6
    · have ec := (loc_24 hx).1 h24
      refine ⟨σ, x5, zl_X10_arrive_p96_0 h24, h5, fx_rf, rfl, fun k hk => ?_, ?_⟩
      · rw [ec, if_neg (by omega)]; exact ⟨(hg k hk).1, rfl⟩
      · rw [ec]; exact ⟨fun h => ⟨h, fun k a b => by omega⟩, fun h => h.1⟩
    · have hx2 := (loc_24 hx).2 h24
      obtain ⟨u1, u2⟩ := cl_up hx2
      have lt := cl_23 hx2
      obtain ⟨τ, z, s1, s2, s3, s4, s5, s6, s7⟩ := step96 (f := Z_X10_arrive_p96 fu) (fr := fr) hD hD8 h4 hx2 (hg _ lt).1 (hg _ lt).2 h5
      rw [s1]
      rw [hw] at s6 s7
      have oth : ∀ k, k < 24 → k ≠ x6.toNatClampNeg → cC R m τ (24 * x4.toNatClampNeg + k) = cC R m σ (24 * x4.toNatClampNeg + k) := fun k hk hn => s3.2.2.1 _ (by simp only [List.mem_cons, List.not_mem_nil, or_false]; omega)
      have edg : ∀ k, k < 24 → cC R m τ (4904 + k) = cC R m σ (4904 + k) := fun k hk => s3.2.2.1 _ (by simp only [List.mem_cons, List.not_mem_nil, or_false]; omega)
      have g647 : mi τ (R 647 m) = mi σ (R 647 m) := s3.2.2.2.1 _ hD8.2.1.1
      obtain ⟨ρ, y, r1, r2, r3, r4, r5, r6⟩ := ih τ z (x6 + 1) u2 (lp_fu hf hx2) s2 (by rw [g647]; exact hw) (fun k hk => by
        rw [edg k hk]
        refine ⟨?_, (hg k hk).2⟩
        by_cases ek : k = x6.toNatClampNeg
        · rw [ek]; exact s5
        · rw [oth k hk ek]; exact (hg k hk).1)
      refine ⟨ρ, y, r1, r2, fx_tr (fx_w s3 (fun j hj => ?_)) r3, r4.trans s4, fun k hk => ?_, ?_⟩
      · simp only [List.mem_cons, List.not_mem_nil, or_false] at hj
        refine mem_px.mpr ?_
        omega
      · obtain ⟨q1, q2⟩ := r5 k hk
        refine ⟨q1, ?_⟩
        rw [q2, u1, edg k hk]
        by_cases ek : k = x6.toNatClampNeg
        · subst ek
          rw [if_neg (by omega), if_pos (Nat.le_refl _), s6]
        · rw [oth k hk ek]
          by_cases c1 : x6.toNatClampNeg ≤ k
          · rw [if_pos (by omega), if_pos c1]
          · rw [if_neg (by omega), if_neg c1]
      · rw [r6, s7, u1]
        constructor
        · rintro ⟨⟨q1, q2⟩, q3⟩
          refine ⟨q1, fun k a b => ?_⟩
          by_cases ek : k = x6.toNatClampNeg
          · subst ek; exact q2
          · have := q3 k (by omega) b
            rw [oth k b ek, edg k b] at this
            exact this
        · rintro ⟨q1, q2⟩
          refine ⟨⟨q1, q2 _ (Nat.le_refl _) lt⟩, fun k a b => ?_⟩
          rw [oth k b (by omega), edg k b]
          exact q2 k (by omega) b
theorem loop33 (hD : D4 R m) (h4 : Rg 0 199 x4) : ∀ (fu : Nat) (σ : SG) (x5 : Int32), Rg 0 24 x5 → (24 - x5.toInt).toNat < fu → ∃ ρ, Z_X10_arrive_p33 fu R σ m x4 x5 = Z_X10_arrive_p64 R ρ m x4 ∧ Fx R m (PXl x4.toNatClampNeg) σ ρ ∧ mI ρ = mI σ ∧ ∀ k, k < 24 → cC R m ρ (24 * x4.toNatClampNeg + k) = if x5.toNatClampNeg ≤ k then cC R m σ (4904 + k) else cC R m σ (24 * x4.toNatClampNeg + k) := by
  intro fu
  induction fu with
  | zero => intro σ x5 _ h; exact absurd h (Nat.not_lt_zero _)
  | succ fu ih =>
    intro σ x5 hx hf
    have e0 : Z_X10_arrive_p33 (fu + 1) R σ m x4 x5 = Z_X10_arrive_p33_b (Z_X10_arrive_p33 fu) R σ m x4 x5 := rfl
    rw [e0]
    unfold Z_X10_arrive_p33_b
    have l4 : x4.toNatClampNeg < 200 := rg_cl h4
    by_cases h24 : 24 ≤ x5
    · have ec := (loc_24 hx).1 h24
      rw [if_pos h24]
      exact ⟨σ, rfl, fx_rf, rfl, fun k hk => by rw [ec, if_neg (by omega)]⟩
    · have hx2 := (loc_24 hx).2 h24
      obtain ⟨u1, u2⟩ := cl_up hx2
      have lt := cl_23 hx2
      rw [if_neg h24]
      have iE : (4904 + x5).toNatClampNeg = 4904 + x5.toNatClampNeg := ix_add (b := 4904) (B := 4904) rfl hx2
      have e1 : Z_X10_copy R σ m (24 * x4 + x5) (4904 + x5) = wC R m σ (24 * x4.toNatClampNeg + x5.toNatClampNeg) (cC R m σ (4904 + x5.toNatClampNeg)) := by rw [zj_copy hD, ix_24 h4 hx2, iE]
      dsimp only
      rw [e1]
      obtain ⟨ρ, r1, r2, r3, r4⟩ := ih (wC R m σ (24 * x4.toNatClampNeg + x5.toNatClampNeg) (cC R m σ (4904 + x5.toNatClampNeg))) (x5 + 1) u2 (lp_fu hf hx2)
      refine ⟨ρ, r1, fx_tr (fx_wC (mem_px.mpr (by omega))) r2, r3, fun k hk => ?_⟩
      rw [r4 k hk, u1, cC_wCn (j := 4904 + k) (by omega)]
      by_cases ek : k = x5.toNatClampNeg
      · subst ek
        rw [if_neg (by omega), if_pos (Nat.le_refl _), cC_wC hD]
      · rw [cC_wCn (by omega)]
        by_cases c1 : x5.toNatClampNeg ≤ k
        · rw [if_pos (by omega), if_pos c1]
        · rw [if_neg (by omega), if_neg c1]
/-- got and changed are written -/
def wG (R : Nat → Nat → Nat) (m : Nat) (σ : SG) (i : Nat) (g c : Int32) : SG := ui (ui σ (R 647 m) i g) (R 648 m) i c
theorem wG_cC {j i : Nat} {g c : Int32} (hD8 : D8 R m) : cC R m (wG R m σ i g c) j = cC R m σ j := by
  have e : mi (wG R m σ i g c) (R 643 m) j = mi σ (R 643 m) j := by
    unfold wG
    rw [mi_ui, if_neg (fun z => hD8.2.2.1 z.1.symm), mi_ui, if_neg (fun z => hD8.2.1.1 z.1.symm)]
  unfold cC
  rw [e]
  rfl
theorem wG_rR {j i : Nat} {g c : Int32} (hD8 : D8 R m) : rR R m (wG R m σ i g c) j = rR R m σ j := by
  have e : ∀ a, R 647 m ≠ a → R 648 m ≠ a → mi (wG R m σ i g c) a j = mi σ a j := fun a h1 h2 => by
    unfold wG
    rw [mi_ui, if_neg (fun z => h2 z.1.symm), mi_ui, if_neg (fun z => h1 z.1.symm)]
  unfold rR
  rw [e _ hD8.2.1.2.1 hD8.2.2.2.1, e _ hD8.2.1.2.2.1 hD8.2.2.2.2.1, e _ hD8.2.1.2.2.2 hD8.2.2.2.2.2]
  rfl
theorem wG_g {j i : Nat} {g c : Int32} (hD8 : D8 R m) : mi (wG R m σ i g c) (R 647 m) j = if j = i then g else mi σ (R 647 m) j := by
  unfold wG
  rw [mi_ui, if_neg (fun z => hD8.1 z.1), mi_ui]
  by_cases e : j = i
  · rw [if_pos ⟨rfl, e⟩, if_pos e]
  · rw [if_neg (fun z => e z.2), if_neg e]
theorem wG_c {j i : Nat} {g c : Int32} (hD8 : D8 R m) : mi (wG R m σ i g c) (R 648 m) j = if j = i then c else mi σ (R 648 m) j := by
  unfold wG
  rw [mi_ui]
  by_cases e : j = i
  · rw [if_pos ⟨rfl, e⟩, if_pos e]
  · rw [if_neg (fun z => e z.2), if_neg e, mi_ui, if_neg (fun z => hD8.1 z.1.symm)]
/-- a record is written -/
def wQ (R : Nat → Nat → Nat) (m : Nat) (σ : SG) (p : Nat) (q : Rc) : SG := uj (ui (ui (ui σ (R 649 m) p q.1) (R 650 m) p q.2.1) (R 651 m) p q.2.2.1) (R 652 m) p q.2.2.2
theorem mi_wQ {q : Rc} {p a i : Nat} : mi (wQ R m σ p q) a i = if a = R 651 m ∧ i = p then q.2.2.1 else if a = R 650 m ∧ i = p then q.2.1 else if a = R 649 m ∧ i = p then q.1 else mi σ a i := by
  show mi (ui (ui (ui σ (R 649 m) p q.1) (R 650 m) p q.2.1) (R 651 m) p q.2.2.1) a i = _
  rw [mi_ui, mi_ui, mi_ui]
theorem mj_wQ {q : Rc} {p a i : Nat} : mj (wQ R m σ p q) a i = if a = R 652 m ∧ i = p then q.2.2.2 else mj σ a i := by
  unfold wQ
  rw [mj_uj]
  rfl
theorem rR_wQ {q : Rc} {p : Nat} (hD : D9 R m) : rR R m (wQ R m σ p q) p = q := by
  obtain ⟨⟨h1, h2, h3⟩, -⟩ := hD
  unfold rR
  rw [mi_wQ, mi_wQ, mi_wQ, mj_wQ, if_neg (fun z => h2 z.1), if_neg (fun z => h1 z.1), if_pos ⟨rfl, rfl⟩, if_neg (fun z => h3 z.1), if_pos ⟨rfl, rfl⟩, if_pos ⟨rfl, rfl⟩, if_pos ⟨rfl, rfl⟩]
theorem rR_wQn {q : Rc} {p j : Nat} (h : j ≠ p) : rR R m (wQ R m σ p q) j = rR R m σ j := by
  unfold rR
  rw [mi_wQ, mi_wQ, mi_wQ, mj_wQ]
  simp only [h, and_false, ↓reduceIte]
theorem cC_wQ {q : Rc} {p j : Nat} (hD : D9 R m) : cC R m (wQ R m σ p q) j = cC R m σ j := by
  obtain ⟨-, ⟨a1, a2, a3⟩, b1, b2, b3⟩ := hD
  unfold cC
  rw [mi_wQ, mj_wQ, mj_wQ, mj_wQ, if_neg (fun z => a3 z.1), if_neg (fun z => a2 z.1), if_neg (fun z => a1 z.1), if_neg (fun z => b1 z.1.symm), if_neg (fun z => b2 z.1.symm), if_neg (fun z => b3 z.1.symm)]
theorem copyRecord_z {x1 x2 : Int32} (hD : D9 R m) : Z_X10_copyRecord R σ m x1 x2 = wQ R m σ x1.toNatClampNeg (rR R m σ x2.toNatClampNeg) := by
  obtain ⟨⟨h1, h2, h3⟩, -⟩ := hD
  unfold Z_X10_copyRecord wQ rR
  have e1 : mi (ui σ (R 649 m) x1.toNatClampNeg (mi σ (R 649 m) x2.toNatClampNeg)) (R 650 m) x2.toNatClampNeg = mi σ (R 650 m) x2.toNatClampNeg := by rw [mi_ui, if_neg (fun z => h1 z.1.symm)]
  rw [e1]
  have e2 : mi (ui (ui σ (R 649 m) x1.toNatClampNeg (mi σ (R 649 m) x2.toNatClampNeg)) (R 650 m) x1.toNatClampNeg (mi σ (R 650 m) x2.toNatClampNeg)) (R 651 m) x2.toNatClampNeg = mi σ (R 651 m) x2.toNatClampNeg := by rw [mi_ui, if_neg (fun z => h3 z.1.symm), mi_ui, if_neg (fun z => h2 z.1.symm)]
  rw [e2]
  rfl
theorem mi_wQo {q : Rc} {p a : Nat} (h1 : a ≠ R 649 m) (h2 : a ≠ R 650 m) (h3 : a ≠ R 651 m) : mi (wQ R m σ p q) a = mi σ a := by
  funext i
  rw [mi_wQ, if_neg (fun z => h3 z.1), if_neg (fun z => h2 z.1), if_neg (fun z => h1 z.1)]
end RAT
