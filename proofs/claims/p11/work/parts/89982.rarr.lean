/-! arriving, in the reference: all of it -/
section RAU
variable {R : Nat → Nat → Nat} {σ τ ρ υ : SG} {m : Nat} {fr x4 x5 x6 n : Int32} {t : Tb} {f : Nat → Tr} {r r1 : Rc} {y : Int64}
theorem isSR_z {x1 x2 : Int32} : Z_X10_isSameRecord R σ m x1 x2 = sRF (rR R m σ x1.toNatClampNeg) (rR R m σ x2.toNatClampNeg) := rfl
/-- the sort of a record becomes 0 -/
def w0 (R : Nat → Nat → Nat) (m : Nat) (σ : SG) (p : Nat) : SG := ui σ (R 649 m) p 0
theorem mi_w0o {p a : Nat} (h1 : a ≠ R 649 m) : mi (w0 R m σ p) a = mi σ a := by
  funext i
  unfold w0
  rw [mi_ui, if_neg (fun z => h1 z.1)]
theorem cC_w0 {p j : Nat} (hD : D9 R m) : cC R m (w0 R m σ p) j = cC R m σ j := by
  unfold cC
  rw [mi_w0o hD.2.1.1]
  rfl
theorem rR_w0n {p j : Nat} (h : j ≠ p) : rR R m (w0 R m σ p) j = rR R m σ j := by
  have e : ∀ a, mi (w0 R m σ p) a j = mi σ a j := fun a => by
    unfold w0
    rw [mi_ui, if_neg (fun z => h z.2)]
  unfold rR
  rw [e, e, e]
  rfl
theorem rR_w0 {p : Nat} : (rR R m (w0 R m σ p) p).1 = 0 := by
  show mi (w0 R m σ p) (R 649 m) p = 0
  unfold w0
  rw [mi_ui, if_pos ⟨rfl, rfl⟩]
theorem p226 (h5 : x5 = 0 ∨ x5 = 1) (h1 : RRel r1 (rR R m σ x4.toNatClampNeg)) (h2 : RRel r (rR R m σ 201)) : ∃ ρ y, Z_X10_arrive_p226 R σ m x4 x5 = Z_X10_arrive_p268 R ρ m x4 y ∧ (y = 0 ∨ y = 1) ∧ (y = 0 ↔ x5 = 0 ∧ (r1.1 = 0 ∨ r1 = r)) ∧ RRel (K_abR r1 r) (rR R m ρ x4.toNatClampNeg) ∧ (ρ = σ ∨ ρ = w0 R m σ x4.toNatClampNeg) := by
  unfold Z_X10_arrive_p226
  have e201 : (201 : Int32).toNatClampNeg = 201 := rfl
  rw [isSR_z, e201]
  have e9 : mi σ (R 649 m) x4.toNatClampNeg = (rR R m σ x4.toNatClampNeg).1 := rfl
  rw [e9]
  have ew : ui σ (R 649 m) x4.toNatClampNeg 0 = w0 R m σ x4.toNatClampNeg := rfl
  rw [ew]
  by_cases z : r1.1 = 0
  · have q0 : (rR R m σ x4.toNatClampNeg).1 = 0 := by
      rcases h1 with h | h | h
      · exact h.2
      · exact absurd (h.1.symm.trans z) n10
      · exact absurd (h.1.symm.trans z) n20
    have ka : K_abR r1 r = r1 := by unfold K_abR; rw [if_pos z]
    have fin : ∀ q : Int32, (q = 0 ∨ q = 1) → (q = 0 ↔ q = 0 ∧ (r1.1 = 0 ∨ r1 = r)) := fun q _ => ⟨fun h => ⟨h, Or.inl z⟩, fun h => h.1⟩
    rw [ka]
    by_cases s : sRF (rR R m σ x4.toNatClampNeg) (rR R m σ 201) = 0
    · rw [if_pos s]
      have rr : RRel r1 (rR R m (w0 R m σ x4.toNatClampNeg) x4.toNatClampNeg) := Or.inl ⟨z, rR_w0⟩
      rcases h5 with rfl | rfl
      · rw [if_pos rfl, if_pos q0]
        exact ⟨_, 0, rfl, Or.inl rfl, fin 0 (Or.inl rfl), rr, Or.inr rfl⟩
      · rw [if_neg n10]
        exact ⟨_, 1, rfl, Or.inr rfl, fin 1 (Or.inr rfl), rr, Or.inr rfl⟩
    · rw [if_neg s]
      exact ⟨_, x5, rfl, h5, fin x5 h5, h1, Or.inl rfl⟩
  · have s := sr_ok h1 h2 z
    have q0 : ¬ (rR R m σ x4.toNatClampNeg).1 = 0 := by
      rcases h1 with h | ⟨-, -, -, h | h⟩ | h
      · exact absurd h.1 z
      · rw [h.2.2.1]; decide
      · rw [h.2.1]; decide
      · rw [h.2.2.2.2.2]; decide
    by_cases e : r1 = r
    · have sn : ¬ sRF (rR R m σ x4.toNatClampNeg) (rR R m σ 201) = 0 := fun h => s.mp h e
      rw [if_neg sn]
      have ka : K_abR r1 r = r1 := by unfold K_abR; rw [if_neg z, if_pos e]
      rw [ka]
      exact ⟨_, x5, rfl, h5, ⟨fun h => ⟨h, Or.inr e⟩, fun h => h.1⟩, h1, Or.inl rfl⟩
    · rw [if_pos (s.mpr e)]
      have ka : K_abR r1 r = (0, -1, -1, 0) := by unfold K_abR; rw [if_neg z, if_neg e]
      rw [ka]
      have rr : RRel (0, -1, -1, 0) (rR R m (w0 R m σ x4.toNatClampNeg) x4.toNatClampNeg) := Or.inl ⟨rfl, rR_w0⟩
      have ff : (1 : Int32) = 0 ↔ x5 = 0 ∧ (r1.1 = 0 ∨ r1 = r) := ⟨fun h => absurd h n10, fun h => absurd h.2 (fun q => q.elim z e)⟩
      rcases h5 with rfl | rfl
      · rw [if_pos rfl, if_neg q0]
        exact ⟨_, 1, rfl, Or.inr rfl, ff, rr, Or.inr rfl⟩
      · rw [if_neg n10]
        exact ⟨_, 1, rfl, Or.inr rfl, ff, rr, Or.inr rfl⟩
theorem n_sub1 (hn : Rg 0 200 n) : (n - 1).toInt64.toInt = n.toInt - 1 := by
  rw [Int32.toInt_toInt64, Int32.toInt_sub, show (1 : Int32).toInt = 1 from rfl, bmod_in (by have := hn.1; omega) (by have := hn.2; omega)]
theorem isIn_c (hn : Rg 0 200 n) : (InC n y → ¬ Z_X10_isIn y 0 (n - 1).toInt64 = 0) ∧ (¬ InC n y → Z_X10_isIn y 0 (n - 1).toInt64 = 0) := by
  unfold Z_X10_isIn InC
  have e := n_sub1 hn
  have e2 : n.toInt64.toInt = n.toInt := Int32.toInt_toInt64 n
  by_cases c1 : y < 0
  · exact ⟨fun h => absurd c1 h.1, fun _ => by rw [if_pos c1]⟩
  · by_cases c2 : (n - 1).toInt64 < y
    · refine ⟨fun h => ?_, fun _ => by rw [if_neg c1, if_pos c2]⟩
      have a := Int64.lt_iff_toInt_lt.mp c2
      have b := Int64.lt_iff_toInt_lt.mp h.2
      omega
    · refine ⟨fun _ => by rw [if_neg c1, if_neg c2]; exact n10, fun h => absurd ⟨c1, ?_⟩ h⟩
      have a := mt Int64.lt_iff_toInt_lt.mpr c2
      rw [Int64.lt_iff_toInt_lt]
      omega
theorem inc_rg (hn : Rg 0 200 n) (h : InC n y) : Rg 0 199 y.toInt32 := by
  obtain ⟨h1, h2⟩ := h
  have a := mt Int64.lt_iff_toInt_lt.mpr h1
  have b := Int64.lt_iff_toInt_lt.mp h2
  rw [show (0 : Int64).toInt = 0 from rfl] at a
  rw [Int32.toInt_toInt64] at b
  have := hn.2
  exact rl_l2i ⟨by omega, by omega⟩
theorem arrive_ok (hD : D4 R m) (hD9 : D9 R m) (hD8 : D8 R m) (hm : mI σ 642 m = n) (hn : Rg 0 200 n) (hT : RTb R m σ t) (hE : ∀ k, k < 24 → Gc (cC R m σ (4904 + k)) ∧ ab (cC R m σ (4904 + k)) = f k) (hr : RRel r (rR R m σ 201)) : RTb R m (Z_X10_arrive R σ m y fr) (A_arr n t fr y f r) ∧ FLr R m σ (Z_X10_arrive R σ m y fr) := by
  obtain ⟨i1, i2⟩ := isIn_c (y := y) hn
  unfold Z_X10_arrive A_arr
  rw [hm]
  by_cases hi : InC n y
  · rw [if_neg (i1 hi), if_pos hi]
    have h4 := inc_rg hn hi
    generalize y.toInt32 = x4 at *
    have l4 : x4.toNatClampNeg < 200 := rg_cl h4
    obtain ⟨g1, g2, g3⟩ := hT _ l4
    -- the others stay
    have others : ∀ (τ : SG) (p : Pt), (∀ j, j < 4800 → ¬ (24 * x4.toNatClampNeg ≤ j ∧ j < 24 * x4.toNatClampNeg + 24) → cC R m τ j = cC R m σ j) → (∀ j, j ≠ x4.toNatClampNeg → mi τ (R 647 m) j = mi σ (R 647 m) j ∧ mi τ (R 648 m) j = mi σ (R 648 m) j ∧ rR R m τ j = rR R m σ j) → (mi τ (R 647 m) x4.toNatClampNeg = p.1 ∧ mi τ (R 648 m) x4.toNatClampNeg = p.2.1 ∧ (∀ k, k < 24 → Gc (cC R m τ (24 * x4.toNatClampNeg + k)) ∧ ab (cC R m τ (24 * x4.toNatClampNeg + k)) = p.2.2.1 k) ∧ RRel p.2.2.2 (rR R m τ x4.toNatClampNeg)) → RTb R m τ (upP t x4.toNatClampNeg p) := by
      intro τ p q1 q2 q3 i hi
      unfold upP
      by_cases e : i = x4.toNatClampNeg
      · rw [if_pos e, e]
        exact ⟨q3.1, q3.2.1, fun _ => ⟨q3.2.2.1, q3.2.2.2⟩⟩
      · rw [if_neg e]
        obtain ⟨o1, o2, o3⟩ := hT i hi
        obtain ⟨s1, s2, s3⟩ := q2 i e
        refine ⟨s1.trans o1, s2.trans o2, fun hg => ?_⟩
        obtain ⟨o4, o5⟩ := o3 hg
        refine ⟨fun k hk => ?_, by rw [s3]; exact o5⟩
        rw [q1 (24 * i + k) (by omega) (by omega)]
        exact o4 k hk
    by_cases hg : mi σ (R 647 m) x4.toNatClampNeg = 0
    · rw [if_pos hg]
      obtain ⟨ρ, e1, f1, f2, f3⟩ := loop33 hD h4 25 σ 0 ⟨by decide, by decide⟩ (by decide)
      rw [e1]
      have ez : Z_X10_arrive_p64 R ρ m x4 = wG R m (wQ R m ρ x4.toNatClampNeg (rR R m σ 201)) x4.toNatClampNeg 1 1 := by
        unfold Z_X10_arrive_p64
        dsimp only
        rw [copyRecord_z hD9]
        have : rR R m ρ (201 : Int32).toNatClampNeg = rR R m σ 201 := rR_fx hD9 f1
        rw [this]
        rfl
      rw [ez]
      have cc : ∀ j, cC R m (wG R m (wQ R m ρ x4.toNatClampNeg (rR R m σ 201)) x4.toNatClampNeg 1 1) j = cC R m ρ j := fun j => by rw [wG_cC hD8, cC_wQ hD9]
      have ap : A_pt (wdn x4 fr (t x4.toNatClampNeg).1) (t x4.toNatClampNeg) f r = (1, 1, f, r) := by unfold A_pt; rw [if_pos (g1.symm.trans hg)]
      rw [ap]
      have m47 : mi ρ (R 647 m) = mi σ (R 647 m) := f1.2.2.2.1 _ hD8.2.1.1
      have m48 : mi ρ (R 648 m) = mi σ (R 648 m) := f1.2.2.2.1 _ hD8.2.2.1
      refine ⟨others _ _ (fun j hj hn => ?_) (fun j hj => ⟨?_, ?_, ?_⟩) ⟨?_, ?_, fun k hk => ?_, ?_⟩, ?_⟩
      · rw [cc, f1.2.2.1 j (fun z => by have := mem_px.mp z; omega)]
      · rw [wG_g hD8, if_neg hj, mi_wQo hD8.2.1.2.1 hD8.2.1.2.2.1 hD8.2.1.2.2.2, m47]
      · rw [wG_c hD8, if_neg hj, mi_wQo hD8.2.2.2.1 hD8.2.2.2.2.1 hD8.2.2.2.2.2, m48]
      · rw [wG_rR hD8, rR_wQn hj, rR_fx hD9 f1]
      · rw [wG_g hD8, if_pos rfl]
      · rw [wG_c hD8, if_pos rfl]
      · rw [cc, f3 k hk, if_pos (show (0 : Int32).toNatClampNeg ≤ k from Nat.zero_le _)]
        exact hE k hk
      · rw [wG_rR hD8, rR_wQ hD9]; exact hr
      · refine ⟨f1.1, fun k q _ => ?_, fun j a b => ?_, ?_⟩
        · show mI ρ k q = mI σ k q
          rw [f2]
        · rw [cc, f1.2.2.1 j (fun z => by have := mem_px.mp z; omega)]
        · rw [wG_rR hD8, rR_wQn (by omega), rR_fx hD9 f1]
    · rw [if_neg hg]
      have hg' : ¬ (t x4.toNatClampNeg).1 = 0 := fun z => hg (g1.trans z)
      obtain ⟨g4, g5⟩ := g3 (Or.inl hg')
      obtain ⟨ρ, z, e1, e2, f1, f2, f3, f4⟩ := loop96 (fr := fr) (w := wdn x4 fr (t x4.toNatClampNeg).1) hD hD8 h4 25 σ 0 0 ⟨by decide, by decide⟩ (by decide) (Or.inl rfl) (by rw [g1]) (fun k hk => ⟨(g4 k hk).1, (hE k hk).1⟩)
      rw [e1]
      obtain ⟨υ, z2, s1, s2, s3, s4, s5⟩ := p226 (σ := ρ) (r1 := (t x4.toNatClampNeg).2.2.2) (r := r) e2 (by rw [rR_fx hD9 f1]; exact g5) (by rw [rR_fx hD9 f1]; exact hr)
      rw [s1]
      have m47 : mi ρ (R 647 m) = mi σ (R 647 m) := f1.2.2.2.1 _ hD8.2.1.1
      have m48 : mi ρ (R 648 m) = mi σ (R 648 m) := f1.2.2.2.1 _ hD8.2.2.1
      have uC : ∀ j, cC R m υ j = cC R m ρ j := fun j => by
        rcases s5 with rfl | rfl
        · rfl
        · exact cC_w0 hD9
      have u47 : mi υ (R 647 m) = mi σ (R 647 m) := by
        rcases s5 with rfl | rfl
        · exact m47
        · rw [mi_w0o hD8.2.1.2.1, m47]
      have u48 : mi υ (R 648 m) = mi σ (R 648 m) := by
        rcases s5 with rfl | rfl
        · exact m48
        · rw [mi_w0o hD8.2.2.2.1, m48]
      have uR : ∀ j, j ≠ x4.toNatClampNeg → rR R m υ j = rR R m σ j := fun j hj => by
        rcases s5 with rfl | rfl
        · exact rR_fx hD9 f1
        · rw [rR_w0n hj, rR_fx hD9 f1]
      have uI : ∀ k q, mI υ k q = mI σ k q := fun k q => by
        rcases s5 with rfl | rfl
        · rw [f2]
        · show mI ρ k q = _
          rw [f2]
      have uJ : mJ υ = mJ σ := by
        rcases s5 with rfl | rfl
        · exact f1.1
        · exact f1.1
      have cells : ∀ k, k < 24 → Gc (cC R m υ (24 * x4.toNatClampNeg + k)) ∧ ab (cC R m υ (24 * x4.toNatClampNeg + k)) = K_ab1 (wdn x4 fr (t x4.toNatClampNeg).1) ((t x4.toNatClampNeg).2.2.1 k) (f k) := fun k hk => by
        obtain ⟨q1, q2⟩ := f3 k hk
        rw [uC]
        refine ⟨q1, ?_⟩
        rw [q2, if_pos (show (0 : Int32).toNatClampNeg ≤ k from Nat.zero_le _), (g4 k hk).2, (hE k hk).2]
      have stay : z2 = 0 ↔ Stay (wdn x4 fr (t x4.toNatClampNeg).1) (t x4.toNatClampNeg) f r := by
        rw [s3, f4]
        constructor
        · rintro ⟨⟨-, q1⟩, q2⟩
          refine ⟨fun k hk => ?_, q2⟩
          have := q1 k (Nat.zero_le _) hk
          rw [(g4 k hk).2, (hE k hk).2] at this
          exact this
        · rintro ⟨q1, q2⟩
          refine ⟨⟨rfl, fun k _ hk => ?_⟩, q2⟩
          rw [(g4 k hk).2, (hE k hk).2]
          exact q1 k hk
      unfold Z_X10_arrive_p268
      by_cases cz : z2 = 0
      · rw [if_pos cz]
        have ap : A_pt (wdn x4 fr (t x4.toNatClampNeg).1) (t x4.toNatClampNeg) f r = ((t x4.toNatClampNeg).1, (t x4.toNatClampNeg).2.1, (fun j => K_ab1 (wdn x4 fr (t x4.toNatClampNeg).1) ((t x4.toNatClampNeg).2.2.1 j) (f j)), K_abR (t x4.toNatClampNeg).2.2.2 r) := by unfold A_pt; rw [if_neg hg', if_pos (stay.mp cz)]
        rw [ap]
        refine ⟨others _ _ (fun j hj hn => ?_) (fun j hj => ⟨by rw [u47], by rw [u48], uR j hj⟩) ⟨by rw [u47]; exact g1, by rw [u48]; exact g2, cells, s4⟩, uJ, fun k q _ => uI k q, fun j a b => ?_, uR 201 (by omega)⟩
        · rw [uC, f1.2.2.1 j (fun z => by have := mem_px.mp z; omega)]
        · rw [uC, f1.2.2.1 j (fun z => by have := mem_px.mp z; omega)]
      · rw [if_neg cz]
        have ap : A_pt (wdn x4 fr (t x4.toNatClampNeg).1) (t x4.toNatClampNeg) f r = ((t x4.toNatClampNeg).1 + 1, 1, (fun j => K_ab1 (wdn x4 fr (t x4.toNatClampNeg).1) ((t x4.toNatClampNeg).2.2.1 j) (f j)), K_abR (t x4.toNatClampNeg).2.2.2 r) := by unfold A_pt; rw [if_neg hg', if_neg (fun q => cz (stay.mpr q))]
        rw [ap]
        have ew : ui (ui υ (R 647 m) x4.toNatClampNeg (mi υ (R 647 m) x4.toNatClampNeg + 1)) (R 648 m) x4.toNatClampNeg 1 = wG R m υ x4.toNatClampNeg ((t x4.toNatClampNeg).1 + 1) 1 := by rw [u47, g1]; rfl
        rw [ew]
        refine ⟨others _ _ (fun j hj hn => ?_) (fun j hj => ⟨by rw [wG_g hD8, if_neg hj, u47], by rw [wG_c hD8, if_neg hj, u48], by rw [wG_rR hD8]; exact uR j hj⟩) ⟨by rw [wG_g hD8, if_pos rfl], by rw [wG_c hD8, if_pos rfl], fun k hk => by rw [wG_cC hD8]; exact cells k hk, by rw [wG_rR hD8]; exact s4⟩, uJ, fun k q _ => uI k q, fun j a b => ?_, by rw [wG_rR hD8]; exact uR 201 (by omega)⟩
        · rw [wG_cC hD8, uC, f1.2.2.1 j (fun z => by have := mem_px.mp z; omega)]
        · rw [wG_cC hD8, uC, f1.2.2.1 j (fun z => by have := mem_px.mp z; omega)]
  · rw [if_pos (i2 hi), if_neg hi]
    exact ⟨hT, fl_rf⟩
end RAU
