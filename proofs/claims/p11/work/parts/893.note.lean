/-! records -/
def rR (R : Nat → Nat → Nat) (m : Nat) (σ : SG) (p : Nat) : Rc := (mi σ (R 649 m) p, mi σ (R 650 m) p, mi σ (R 651 m) p, mj σ (R 652 m) p)
/-- the class's record r, the reference's q -/
def RRel (r q : Rc) : Prop := (r.1 = 0 ∧ q.1 = 0) ∨ (r.1 = 1 ∧ Rg 0 23 r.2.1 ∧ q.2.1 = r.2.1 ∧ ((Rg 0 23 r.2.2.1 ∧ r.2.2.2 = 0 ∧ q.1 = 1 ∧ q.2.2.1 = r.2.2.1) ∨ (r.2.2.1 = -1 ∧ q.1 = 2 ∧ q.2.2.2 = r.2.2.2))) ∨ (r.1 = 2 ∧ Rg 0 23 r.2.1 ∧ q.2.1 = r.2.1 ∧ r.2.2.1 = -1 ∧ r.2.2.2 = 0 ∧ q.1 = 3)
/-- the arrays of the reference -/
def D9 (R : Nat → Nat → Nat) (m : Nat) : Prop := (R 649 m ≠ R 650 m ∧ R 649 m ≠ R 651 m ∧ R 650 m ≠ R 651 m) ∧ (R 643 m ≠ R 649 m ∧ R 643 m ≠ R 650 m ∧ R 643 m ≠ R 651 m) ∧ (R 652 m ≠ R 644 m ∧ R 652 m ≠ R 645 m ∧ R 652 m ≠ R 646 m)
/-- what is left while the record in hand is written -/
def Fn (R : Nat → Nat → Nat) (m : Nat) (σ τ : SG) : Prop := mJ τ = mJ σ ∧ mI τ = mI σ ∧ (∀ a, a ≠ R 649 m → a ≠ R 650 m → a ≠ R 651 m → mi τ a = mi σ a) ∧ (∀ a, a ≠ R 652 m → mj τ a = mj σ a) ∧ (∀ p, p ≠ 201 → rR R m τ p = rR R m σ p)
section NOT
variable {R : Nat → Nat → Nat} {σ τ : SG} {m : Nat} {r : Rc} {num : Int64}
def wN (R : Nat → Nat → Nat) (m : Nat) (σ : SG) (q : Rc) : SG := uj (ui (ui (ui σ (R 649 m) 201 q.1) (R 650 m) 201 q.2.1) (R 651 m) 201 q.2.2.1) (R 652 m) 201 q.2.2.2
theorem mi_wN {q : Rc} {a i : Nat} : mi (wN R m σ q) a i = if a = R 651 m ∧ i = 201 then q.2.2.1 else if a = R 650 m ∧ i = 201 then q.2.1 else if a = R 649 m ∧ i = 201 then q.1 else mi σ a i := by
  show mi (ui (ui (ui σ (R 649 m) 201 q.1) (R 650 m) 201 q.2.1) (R 651 m) 201 q.2.2.1) a i = _
  rw [mi_ui, mi_ui, mi_ui]
theorem mj_wN {q : Rc} {a i : Nat} : mj (wN R m σ q) a i = if a = R 652 m ∧ i = 201 then q.2.2.2 else mj σ a i := by
  unfold wN
  rw [mj_uj]
  rfl
theorem rR_wN {q : Rc} (hD : D9 R m) : rR R m (wN R m σ q) 201 = q := by
  obtain ⟨⟨h1, h2, h3⟩, -, -⟩ := hD
  unfold rR
  rw [mi_wN, mi_wN, mi_wN, mj_wN]
  simp [h1, h2, h3]
theorem fn_wN {q : Rc} : Fn R m σ (wN R m σ q) := by
  refine ⟨rfl, rfl, fun a h1 h2 h3 => ?_, fun a h1 => ?_, fun p hp => ?_⟩
  · funext i; rw [mi_wN]; simp [h1, h2, h3]
  · funext i; rw [mj_wN]; simp [h1]
  · unfold rR; rw [mi_wN, mi_wN, mi_wN, mj_wN]; simp [hp]
theorem ui_N {v : Int32} (hD : D9 R m) : ui σ (R 649 m) 201 v = wN R m σ (v, (rR R m σ 201).2) := by
  obtain ⟨⟨h1, h2, h3⟩, -, -⟩ := hD
  refine sg_ext2 rfl (fun a i => ?_) rfl (fun a i => ?_)
  · rw [mj_wN]; unfold rR
    split
    · rename_i h; rw [h.1, h.2]; rfl
    · rfl
  · rw [mi_wN, mi_ui]; unfold rR
    by_cases e : a = R 649 m
    · subst e; simp [h1, h2]
    · simp only [e, false_and, ↓reduceIte]
      split
      · rename_i h; rw [h.1, h.2]
      · split
        · rename_i h; rw [h.1, h.2]
        · rfl
theorem wN_wN {p q : Rc} : wN R m (wN R m σ p) q = wN R m σ q := by
  refine sg_ext2 rfl (fun a i => ?_) rfl (fun a i => ?_)
  · rw [mj_wN, mj_wN, mj_wN]
    repeat' split
    all_goals rfl
  · rw [mi_wN, mi_wN, mi_wN]
    repeat' split
    all_goals rfl
theorem op_ne {x : Int32} {k j : Int32} (h : x = k) (hn : k ≠ j := by decide) : ¬ x = j := fun e => hn (h.symm.trans e)
theorem note27 (hD : D9 R m) (hr : RRel r (rR R m σ 201)) (htg : Rg 0 23 (mI σ 657 m)) : ∃ q, Z_X10_note_p27 R σ m = wN R m σ q ∧ RRel (K_drop2 (mI σ 657 m) r) q := by
  have hne : ¬ (-1 : Int32) = mI σ 657 m := fun e => by have := htg.1; rw [← e] at this; exact absurd this (by decide)
  have e201 : (201 : Int32).toNatClampNeg = 201 := rfl
  have self : ui σ (R 649 m) 201 (mi σ (R 649 m) 201) = wN R m σ (rR R m σ 201) := ui_N hD
  have zero : ui σ (R 649 m) 201 0 = wN R m σ (0, (rR R m σ 201).2) := ui_N hD
  unfold Z_X10_note_p27 Z_X10_note_p86 K_drop2
  simp only [e201, self, zero, n10, ↓reduceIte]
  have d1 : mi σ (R 649 m) 201 = (rR R m σ 201).1 := rfl
  have d2 : mi σ (R 650 m) 201 = (rR R m σ 201).2.1 := rfl
  have d3 : mi σ (R 651 m) 201 = (rR R m σ 201).2.2.1 := rfl
  rw [d1, d2, d3]
  have hr0 := hr
  generalize rR R m σ 201 = q at hr hr0 ⊢
  rcases hr with ⟨h1, h2⟩ | ⟨h1, h2, h3, h4⟩ | ⟨h1, h2, h3, h4, h5, h6⟩
  · have c : q.1 ≤ 0 := by rw [h2]; decide
    refine ⟨q, by rw [if_pos c], ?_⟩
    split
    · exact Or.inl ⟨rfl, h2⟩
    · split
      · exact Or.inl ⟨rfl, h2⟩
      · exact hr0
  · rw [h3]
    rcases h4 with ⟨k1, k0, k2, k3⟩ | ⟨k1, k2, k3⟩
    · have c : ¬ q.1 ≤ 0 := by rw [k2]; decide
      by_cases e1 : r.2.1 = mI σ 657 m
      · exact ⟨(0, q.2), by rw [if_neg c, if_pos e1], by rw [if_pos e1]; exact Or.inl ⟨rfl, rfl⟩⟩
      · by_cases e2 : r.2.2.1 = mI σ 657 m
        · exact ⟨(0, q.2), by rw [if_neg c, if_neg e1, if_pos k2, k3, if_pos e2], by rw [if_neg e1, if_pos e2]; exact Or.inl ⟨rfl, rfl⟩⟩
        · exact ⟨q, by rw [if_neg c, if_neg e1, if_pos k2, k3, if_neg e2], by rw [if_neg e1, if_neg e2]; exact hr0⟩
    · have c : ¬ q.1 ≤ 0 := by rw [k2]; decide
      have c2 : ¬ q.1 = 1 := by rw [k2]; decide
      have e2 : ¬ r.2.2.1 = mI σ 657 m := by rw [k1]; exact hne
      by_cases e1 : r.2.1 = mI σ 657 m
      · exact ⟨(0, q.2), by rw [if_neg c, if_pos e1], by rw [if_pos e1]; exact Or.inl ⟨rfl, rfl⟩⟩
      · exact ⟨q, by rw [if_neg c, if_neg e1, if_neg c2], by rw [if_neg e1, if_neg e2]; exact hr0⟩
  · rw [h3]
    have c : ¬ q.1 ≤ 0 := by rw [h6]; decide
    have c2 : ¬ q.1 = 1 := by rw [h6]; decide
    have e2 : ¬ r.2.2.1 = mI σ 657 m := by rw [h4]; exact hne
    by_cases e1 : r.2.1 = mI σ 657 m
    · exact ⟨(0, q.2), by rw [if_neg c, if_pos e1], by rw [if_pos e1]; exact Or.inl ⟨rfl, rfl⟩⟩
    · exact ⟨q, by rw [if_neg c, if_neg e1, if_neg c2], by rw [if_neg e1, if_neg e2]; exact hr0⟩
theorem note111 (hD : D9 R m) (htg : Rg 0 23 (mI σ 657 m)) (hsr : Rg (-1) 23 (mI σ 658 m)) (hop : Rg 0 18 (mI σ 655 m)) (hn : ¬ mI σ 655 m = 2 ∧ ¬ mI σ 655 m = 3 ∧ ¬ mI σ 655 m = 9 ∧ ¬ mI σ 655 m = 13 ∧ ¬ mI σ 655 m = 18) (hnum : num = mJ σ 660 m ∨ Rg 14 16 (mI σ 655 m)) (hz : ¬ mI σ 658 m = -1 → num = 0) : ∃ q, Z_X10_note_p111 R σ m = wN R m σ q ∧ RRel (K_note (mI σ 655 m) (mI σ 656 m) (mI σ 657 m) (mI σ 658 m) num r) q := by
  obtain ⟨m2, m3, m9, m13, m18⟩ := hn
  have e201 : (201 : Int32).toNatClampNeg = 201 := rfl
  have base : uj (ui (ui (ui σ (R 649 m) 201 0) (R 650 m) 201 (mI σ 657 m)) (R 651 m) 201 (mI σ 658 m)) (R 652 m) 201 (mJ σ 660 m) = wN R m σ (0, mI σ 657 m, mI σ 658 m, mJ σ 660 m) := rfl
  have p258 : ∀ x1, Z_X10_note_p258 R (wN R m σ (0, mI σ 657 m, mI σ 658 m, mJ σ 660 m)) m x1 = wN R m σ ((if mI σ 655 m = 7 then (if mI σ 658 m = mI σ 657 m then 0 else if mI σ 658 m < 0 then 2 else 1) else if x1 = 0 then 0 else 3), mI σ 657 m, mI σ 658 m, mJ σ 660 m) := by
    intro x1
    unfold Z_X10_note_p258
    have eI : ∀ k q, mI (wN R m σ (0, mI σ 657 m, mI σ 658 m, mJ σ 660 m)) k q = mI σ k q := fun _ _ => rfl
    simp only [e201, eI, ui_N hD, rR_wN hD, wN_wN]
    repeat' split
    all_goals rfl
  have nine : ¬ (mI σ 655 m = 9 ∨ mI σ 655 m = 13 ∨ mI σ 655 m = 18) := fun h => by rcases h with h | h | h; exact m9 h; exact m13 h; exact m18 h
  unfold Z_X10_note_p111 K_note
  simp only [e201, base, p258]
  rw [if_neg nine]
  by_cases w : mI σ 656 m = 64
  · rw [if_pos w]
    have RES : RRel (2, mI σ 657 m, -1, 0) (3, mI σ 657 m, mI σ 658 m, mJ σ 660 m) := Or.inr (Or.inr ⟨rfl, htg, rfl, rfl, rfl, rfl⟩)
    have ZER : ∀ a b c, RRel (0, -1, -1, 0) (0, a, b, c) := fun _ _ _ => Or.inl ⟨rfl, rfl⟩
    by_cases h7 : mI σ 655 m = 7
    · simp only [op_ne (j := 0) h7, op_ne (j := 5) h7, op_ne (j := 4) h7, op_ne (j := 1) h7, op_ne (j := 6) h7, op_ne (j := 11) h7, op_ne (j := 12) h7, op_ne (j := 10) h7, op_ne (j := 8) h7, ↓reduceIte]
      rw [if_pos h7, if_pos h7]
      by_cases e : mI σ 658 m = mI σ 657 m
      · refine ⟨_, rfl, ?_⟩
        rw [if_pos e, if_neg (fun z => z.2 e.symm)]
        exact ZER _ _ _
      · refine ⟨_, rfl, ?_⟩
        rw [if_neg e, if_pos ⟨w, fun z => e z.symm⟩]
        by_cases s : mI σ 658 m < 0
        · rw [if_pos s]
          have s1 : mI σ 658 m = -1 := by
            rw [Int32.lt_iff_toInt_lt, show (0 : Int32).toInt = 0 from rfl] at s
            exact Int32.toInt_inj.mp (by have := hsr.1; show _ = (-1 : Int); omega)
          have hc : num = mJ σ 660 m := by
            rcases hnum with h | h
            · exact h
            · have := h.1; rw [h7] at this; exact absurd this (by decide)
          exact Or.inr (Or.inl ⟨rfl, htg, rfl, Or.inr ⟨s1, rfl, hc.symm⟩⟩)
        · rw [if_neg s]
          rw [Int32.lt_iff_toInt_lt, show (0 : Int32).toInt = 0 from rfl] at s
          have s1 : ¬ mI σ 658 m = -1 := fun z => by rw [z] at s; exact s (by decide)
          exact Or.inr (Or.inl ⟨rfl, htg, rfl, Or.inl ⟨⟨by show 0 ≤ (mI σ 658 m).toInt; omega, hsr.2⟩, hz s1, rfl, rfl⟩⟩)
    · simp only [h7, ↓reduceIte]
      by_cases h8 : mI σ 655 m = 8
      · simp only [op_ne (j := 0) h8, op_ne (j := 5) h8, op_ne (j := 4) h8, op_ne (j := 1) h8, op_ne (j := 6) h8, op_ne (j := 11) h8, op_ne (j := 12) h8, op_ne (j := 10) h8, ↓reduceIte]
        rw [if_pos h8, if_pos h8]
        by_cases e : mI σ 658 m = mI σ 657 m
        · refine ⟨_, by rw [if_pos e], ?_⟩
          rw [if_pos ⟨w, e.symm⟩]
          exact RES
        · refine ⟨_, by rw [if_neg e], ?_⟩
          rw [if_neg (fun z => e z.2.symm)]
          exact ZER _ _ _
      · simp only [h8, ↓reduceIte]
        by_cases hs : mI σ 655 m = 14 ∨ mI σ 655 m = 15 ∨ mI σ 655 m = 16 ∨ mI σ 655 m = 17
        · rw [if_pos hs]
          have nn : ∀ j : Int32, j ≠ 14 → j ≠ 15 → j ≠ 16 → j ≠ 17 → ¬ mI σ 655 m = j := by
            intro j a b c d e
            rcases hs with h | h | h | h
            · exact a (e.symm.trans h)
            · exact b (e.symm.trans h)
            · exact c (e.symm.trans h)
            · exact d (e.symm.trans h)
          simp only [nn 0 (by decide) (by decide) (by decide) (by decide), nn 5 (by decide) (by decide) (by decide) (by decide), nn 4 (by decide) (by decide) (by decide) (by decide), nn 1 (by decide) (by decide) (by decide) (by decide), nn 6 (by decide) (by decide) (by decide) (by decide), nn 11 (by decide) (by decide) (by decide) (by decide), nn 12 (by decide) (by decide) (by decide) (by decide), nn 10 (by decide) (by decide) (by decide) (by decide), ↓reduceIte]
          exact ⟨_, rfl, ZER _ _ _⟩
        · rw [if_neg hs, if_pos w]
          have hin : mI σ 655 m = 0 ∨ mI σ 655 m = 5 ∨ mI σ 655 m = 4 ∨ mI σ 655 m = 1 ∨ mI σ 655 m = 6 ∨ mI σ 655 m = 11 ∨ mI σ 655 m = 12 ∨ mI σ 655 m = 10 := by
            have q : ∀ k : Int32, mI σ 655 m = k ↔ (mI σ 655 m).toInt = k.toInt := fun k => Int32.toInt_inj.symm
            rw [q, show (14 : Int32).toInt = 14 from rfl, q, show (15 : Int32).toInt = 15 from rfl, q, show (16 : Int32).toInt = 16 from rfl, q, show (17 : Int32).toInt = 17 from rfl] at hs
            rw [q, show (2 : Int32).toInt = 2 from rfl] at m2
            rw [q, show (3 : Int32).toInt = 3 from rfl] at m3
            rw [q, show (9 : Int32).toInt = 9 from rfl] at m9
            rw [q, show (13 : Int32).toInt = 13 from rfl] at m13
            rw [q, show (18 : Int32).toInt = 18 from rfl] at m18
            rw [q, show (7 : Int32).toInt = 7 from rfl] at h7
            rw [q, show (8 : Int32).toInt = 8 from rfl] at h8
            rw [q, show (0 : Int32).toInt = 0 from rfl, q, show (5 : Int32).toInt = 5 from rfl, q, show (4 : Int32).toInt = 4 from rfl, q, show (1 : Int32).toInt = 1 from rfl, q, show (6 : Int32).toInt = 6 from rfl, q, show (11 : Int32).toInt = 11 from rfl, q, show (12 : Int32).toInt = 12 from rfl, q, show (10 : Int32).toInt = 10 from rfl]
            obtain ⟨r1, r2⟩ := hop
            omega
          refine ⟨(3, mI σ 657 m, mI σ 658 m, mJ σ 660 m), ?_, RES⟩
          rcases hin with h | h | h | h | h | h | h | h <;> simp [h]
  · rw [if_neg w]
    refine ⟨_, rfl, ?_⟩
    by_cases h7 : mI σ 655 m = 7
    · rw [if_pos h7, if_neg (fun z => w z.1)]; exact Or.inl ⟨rfl, rfl⟩
    · rw [if_neg h7]
      by_cases h8 : mI σ 655 m = 8
      · rw [if_pos h8, if_neg (fun z => w z.1)]; exact Or.inl ⟨rfl, rfl⟩
      · rw [if_neg h8]
        split
        · exact Or.inl ⟨rfl, rfl⟩
        · exact Or.inl ⟨rfl, rfl⟩
theorem note_ok (hD : D9 R m) (hr : RRel r (rR R m σ 201)) (htg : Rg 0 23 (mI σ 657 m)) (hsr : Rg (-1) 23 (mI σ 658 m)) (hop : Rg 0 18 (mI σ 655 m)) (hn : ¬ mI σ 655 m = 2 ∧ ¬ mI σ 655 m = 3) (hnum : num = mJ σ 660 m ∨ Rg 14 16 (mI σ 655 m)) (hz : ¬ mI σ 658 m = -1 → num = 0) : RRel (K_note (mI σ 655 m) (mI σ 656 m) (mI σ 657 m) (mI σ 658 m) num r) (rR R m (Z_X10_note R σ m) 201) ∧ Fn R m σ (Z_X10_note R σ m) := by
  unfold Z_X10_note
  have kd : (mI σ 655 m = 9 ∨ mI σ 655 m = 13 ∨ mI σ 655 m = 18) → RRel (K_note (mI σ 655 m) (mI σ 656 m) (mI σ 657 m) (mI σ 658 m) num r) (rR R m (Z_X10_note_p27 R σ m) 201) ∧ Fn R m σ (Z_X10_note_p27 R σ m) := by
    intro h
    obtain ⟨q, e, hq⟩ := note27 hD hr htg
    rw [e, rR_wN hD]
    unfold K_note
    rw [if_pos h]
    exact ⟨hq, fn_wN⟩
  by_cases h13 : mI σ 655 m = 13
  · rw [if_pos h13]; exact kd (Or.inr (Or.inl h13))
  · rw [if_neg h13]
    by_cases h18 : mI σ 655 m = 18
    · rw [if_pos h18]; exact kd (Or.inr (Or.inr h18))
    · rw [if_neg h18]
      by_cases h9 : mI σ 655 m = 9
      · rw [if_pos h9]; exact kd (Or.inl h9)
      · rw [if_neg h9]
        obtain ⟨q, e, hq⟩ := note111 (r := r) (num := num) hD htg hsr hop ⟨hn.1, hn.2, h9, h13, h18⟩ hnum hz
        rw [e, rR_wN hD]
        exact ⟨hq, fn_wN⟩
end NOT
