/-! going through, in the reference: from the decoded instruction on -/
def FE (R : Nat → Nat → Nat) (m : Nat) (σ τ : SG) : Prop := mJ τ = mJ σ ∧ (∀ k q, k ≠ 676 → mI τ k q = mI σ k q) ∧ ∀ j, 4880 ≤ j → j < 4904 → cC R m τ j = cC R m σ j
theorem scr_ge : ∀ j ∈ SCR, 4800 ≤ j ∧ (j < 4856 ∨ 4904 ≤ j) := by decide
theorem se_ge {j : Nat} (h : j ∈ SE) : 4800 ≤ j ∧ (j < 4856 ∨ 4904 ≤ j) := by
  rcases List.mem_append.mp h with h | h
  · exact scr_ge j h
  · have := mem_edg.mp h
    exact ⟨by omega, Or.inr (by omega)⟩
section RGO
variable {R : Nat → Nat → Nat} {σ τ ρ υ : SG} {m : Nat} {a x2 n c' : Int32} {t : Tb} {f : Nat → Tr} {r : Rc} {y : Int64} {p : Pt} {c : DD}
theorem fe_tr (h : FE R m σ τ) (h2 : FE R m τ υ) : FE R m σ υ := ⟨h2.1.trans h.1, fun k q s => (h2.2.1 k q s).trans (h.2.1 k q s), fun j a b => (h2.2.2 j a b).trans (h.2.2 j a b)⟩
theorem fe_fl (h : FLr R m σ τ) : FE R m σ τ := ⟨h.1, h.2.1, fun j a b => h.2.2.1 j (by omega) b⟩
theorem rtb_eq (hc : ∀ j, j < 4800 → cC R m τ j = cC R m σ j) (h7 : mi τ (R 647 m) = mi σ (R 647 m)) (h8 : mi τ (R 648 m) = mi σ (R 648 m)) (hR : ∀ j, j < 200 → rR R m τ j = rR R m σ j) (h : RTb R m σ t) : RTb R m τ t := by
  intro i hi
  obtain ⟨o1, o2, o3⟩ := h i hi
  refine ⟨by rw [h7]; exact o1, by rw [h8]; exact o2, fun hg => ?_⟩
  obtain ⟨o4, o5⟩ := o3 hg
  refine ⟨fun k hk => ?_, by rw [hR i hi]; exact o5⟩
  rw [hc (24 * i + k) (by omega)]
  exact o4 k hk
theorem rtb_fx (hD9 : D9 R m) (hD8 : D8 R m) (hf : Fx R m SE σ τ) (h : RTb R m σ t) : RTb R m τ t := rtb_eq (fun j hj => hf.2.2.1 j (fun z => by have := (se_ge z).1; omega)) (hf.2.2.2.1 _ hD8.2.1.1) (hf.2.2.2.1 _ hD8.2.2.1) (fun _ _ => rR_fx hD9 hf) h
theorem fl_fx (hD9 : D9 R m) (hf : Fx R m SE σ τ) : FLr R m σ τ := ⟨hf.1, hf.2.1, fun j a b => hf.2.2.1 j (fun z => by have := (se_ge z).2; omega), rR_fx hD9 hf⟩
/-- along an edge -/
theorem edge_ok (hD : D4 R m) (hD9 : D9 R m) (hD8 : D8 R m) (hT : RTb R m σ t) (hN : ∀ k, k < 24 → Gc (cC R m σ (4856 + k)) ∧ ab (cC R m σ (4856 + k)) = f k) (hr : RRel r (rR R m σ 201)) (hc : c' = -1 ∨ Rg 0 15 c') : (((Z_X10_goAlong R σ m c').2 = 0 ∧ ¬ c' = -1 ∧ K_naC f r c' = none) ∨ ((Z_X10_goAlong R σ m c').2 = 1 ∧ ∃ g, (if c' = -1 then some f else K_naC f r c') = some g ∧ ∀ k, k < 24 → Gc (cC R m (Z_X10_goAlong R σ m c').1 (4904 + k)) ∧ ab (cC R m (Z_X10_goAlong R σ m c').1 (4904 + k)) = g k)) ∧ RTb R m (Z_X10_goAlong R σ m c').1 t ∧ FLr R m σ (Z_X10_goAlong R σ m c').1 := by
  obtain ⟨o, fx⟩ := goAlong_ok (c := c') hD hD9 (fun k hk => (hN k hk).1) hr hc
  refine ⟨?_, rtb_fx hD9 hD8 fx hT, fl_fx hD9 fx⟩
  have h24 : A24 (fun k => ab (cC R m σ (4856 + k))) f := fun k hk => (hN k hk).2
  by_cases e : c' = -1
  · rw [if_pos e] at o
    rw [if_pos e]
    rcases o with ⟨o1, g, o2, o3⟩ | ⟨-, o2⟩
    · refine Or.inr ⟨o1, f, rfl, fun k hk => ?_⟩
      cases o2
      obtain ⟨q1, q2⟩ := o3 k hk
      exact ⟨q1, q2.trans (hN k hk).2⟩
    · cases o2
  · rw [if_neg e] at o
    rw [if_neg e]
    rcases o with ⟨o1, g, o2, o3⟩ | ⟨o1, o2⟩
    · rcases a24_na (r := r) (c := c') h24 with ⟨z1, -⟩ | ⟨u, v, z1, z2, z3⟩
      · rw [o2] at z1; cases z1
      · rw [o2] at z1
        cases z1
        exact Or.inr ⟨o1, v, z2, fun k hk => ⟨(o3 k hk).1, (o3 k hk).2.trans (z3 k hk)⟩⟩
    · rcases a24_na (r := r) (c := c') h24 with ⟨-, z2⟩ | ⟨u, v, z1, z2, z3⟩
      · exact Or.inl ⟨o1, e, z2⟩
      · rw [o2] at z1; cases z1
/-- an edge is gone along, and something arrives -/
theorem p83_ok (hD : D4 R m) (hD9 : D9 R m) (hD8 : D8 R m) (hm : mI σ 642 m = n) (hn : Rg 0 200 n) (hT : RTb R m σ t) (hN : ∀ k, k < 24 → Gc (cC R m σ (4856 + k)) ∧ ab (cC R m σ (4856 + k)) = f k) (hr : RRel r (rR R m σ 201)) (h19 : mI σ 655 m = 19 → Rg 0 15 (mI σ 659 m)) : RTb R m (Z_X10_goThrough_p83 R σ m a x2) (if mI σ 655 m = 20 then A_arr n t a (mJ σ 660 m) f r else if mI σ 655 m = 19 then A_nx n (A_nx n t a x2.toInt64 (K_naC f r (mI σ 659 m ^^^ 1)) r) a (mJ σ 660 m) (K_naC f r (mI σ 659 m)) r else A_arr n t a x2.toInt64 f r) ∧ FE R m σ (Z_X10_goThrough_p83 R σ m a x2) := by
  unfold Z_X10_goThrough_p83
  have n642 : (642 : Nat) ≠ 676 := by decide
  by_cases c20 : mI σ 655 m = 20
  · rw [if_pos c20, if_pos c20]
    dsimp only
    obtain ⟨o, t1, f1⟩ := edge_ok (c' := -1) hD hD9 hD8 hT hN hr (Or.inl rfl)
    rcases o with ⟨-, z, -⟩ | ⟨-, g, e1, e2⟩
    · exact absurd rfl z
    · rw [if_pos rfl] at e1
      cases e1
      obtain ⟨q1, q2⟩ := arrive_ok (fr := a) (y := mJ σ 660 m) hD hD9 hD8 ((f1.2.1 642 m n642).trans hm) hn t1 e2 (by rw [f1.2.2.2]; exact hr)
      exact ⟨q1, fe_fl (fl_tr f1 q2)⟩
  · rw [if_neg c20, if_neg c20]
    by_cases c19 : mI σ 655 m = 19
    · rw [if_pos c19, if_pos c19]
      have hd := h19 c19
      have hx : Rg 0 15 (mI σ 659 m ^^^ 1) := by
        have : ∀ k : Int32, Rg 0 15 k → Rg 0 15 (k ^^^ 1) := fun k hk => by
          have := by256 (p := fun k => 15 < k.toInt ∨ (0 ≤ (k ^^^ 1).toInt ∧ (k ^^^ 1).toInt ≤ 15)) (by decide +kernel) (rg_w hk)
          exact this.resolve_left (by have := hk.2; omega)
        exact this _ hd
      obtain ⟨o, t1, f1⟩ := edge_ok (c' := mI σ 659 m ^^^ 1) hD hD9 hD8 hT hN hr (Or.inr hx)
      dsimp only
      -- the second edge
      have second : ∀ (τ : SG) (t2 : Tb), RTb R m τ t2 → FLr R m σ τ → RTb R m (if (Z_X10_goAlong R τ m (mI σ 659 m)).2 = 0 then (Z_X10_goAlong R τ m (mI σ 659 m)).1 else Z_X10_arrive R (Z_X10_goAlong R τ m (mI σ 659 m)).1 m (mJ σ 660 m) a) (A_nx n t2 a (mJ σ 660 m) (K_naC f r (mI σ 659 m)) r) ∧ FE R m σ (if (Z_X10_goAlong R τ m (mI σ 659 m)).2 = 0 then (Z_X10_goAlong R τ m (mI σ 659 m)).1 else Z_X10_arrive R (Z_X10_goAlong R τ m (mI σ 659 m)).1 m (mJ σ 660 m) a) := by
        intro τ t2 ht hf
        obtain ⟨o, t1, f1⟩ := edge_ok (σ := τ) (t := t2) (c' := mI σ 659 m) (f := f) (r := r) hD hD9 hD8 ht (fun k hk => by rw [hf.2.2.1 (4856 + k) (by omega) (by omega)]; exact hN k hk) (by rw [hf.2.2.2]; exact hr) (Or.inr hd)
        have nm : ¬ mI σ 659 m = -1 := fun z => by have := hd.1; rw [z] at this; exact absurd this (by decide)
        rcases o with ⟨o1, -, o2⟩ | ⟨o1, g, e1, e2⟩
        · rw [if_pos o1, o2]
          exact ⟨t1, fe_fl (fl_tr hf f1)⟩
        · rw [if_neg nm] at e1
          rw [if_neg (by rw [o1]; exact n10), e1]
          obtain ⟨q1, q2⟩ := arrive_ok (fr := a) (y := mJ σ 660 m) hD hD9 hD8 ((f1.2.1 642 m n642).trans ((hf.2.1 642 m n642).trans hm)) hn t1 e2 (by rw [f1.2.2.2, hf.2.2.2]; exact hr)
          exact ⟨q1, fe_fl (fl_tr hf (fl_tr f1 q2))⟩
      have nm : ¬ mI σ 659 m ^^^ 1 = -1 := fun z => by have := hx.1; rw [z] at this; exact absurd this (by decide)
      rcases o with ⟨o1, -, o2⟩ | ⟨o1, g, e1, e2⟩
      · rw [if_pos o1, o2]
        exact second _ _ t1 f1
      · rw [if_neg nm] at e1
        rw [if_neg (by rw [o1]; exact n10), e1]
        obtain ⟨q1, q2⟩ := arrive_ok (fr := a) (y := x2.toInt64) hD hD9 hD8 ((f1.2.1 642 m n642).trans hm) hn t1 e2 (by rw [f1.2.2.2]; exact hr)
        exact second _ _ q1 (fl_tr f1 q2)
    · rw [if_neg c19, if_neg c19]
      dsimp only
      obtain ⟨o, t1, f1⟩ := edge_ok (c' := -1) hD hD9 hD8 hT hN hr (Or.inl rfl)
      rcases o with ⟨-, z, -⟩ | ⟨o1, g, e1, e2⟩
      · exact absurd rfl z
      · rw [if_pos rfl] at e1
        cases e1
        rw [if_neg (by rw [o1]; exact n10)]
        obtain ⟨q1, q2⟩ := arrive_ok (fr := a) (y := x2.toInt64) hD hD9 hD8 ((f1.2.1 642 m n642).trans hm) hn t1 e2 (by rw [f1.2.2.2]; exact hr)
        exact ⟨q1, fe_fl (fl_tr f1 q2)⟩
/-- the instruction that the reference has read is c -/
def RI (m : Nat) (σ : SG) (c : DD) : Prop := mI σ 661 m = e6 c ∧ mI σ 655 m = e7 c ∧ mI σ 656 m = e8 c ∧ mI σ 657 m = e9 c ∧ mI σ 658 m = e10 c ∧ mI σ 659 m = e11 c ∧ (eJ c = mJ σ 660 m ∨ Rg 14 16 (e7 c)) ∧ (e7 c < 19 → DF (e7 c) (e8 c) (e9 c) (e10 c) (e11 c) (eJ c)) ∧ (e7 c = 19 → Rg 0 15 (e11 c))
theorem lt19 {x : Int32} : (19 ≤ x ↔ ¬ x < 19) := by rw [Int32.not_lt]
theorem p62_ok (hD : D4 R m) (hD9 : D9 R m) (hD8 : D8 R m) (hm : mI σ 642 m = n) (hn : Rg 0 200 n) (hT : RTb R m σ t) (hN : ∀ k, k < 24 → Gc (cC R m σ (4856 + k)) ∧ ab (cC R m σ (4856 + k)) = p.2.2.1 k) (hr : RRel p.2.2.2 (rR R m σ 201)) (hI : RI m σ c) : RTb R m (Z_X10_goThrough_p62 R σ m a) (A_2 n (A_1 n t a c p) a c p) ∧ FE R m σ (Z_X10_goThrough_p62 R σ m a) := by
  obtain ⟨i6, i7, i8, i9, i10, i11, iJ, iD, i19⟩ := hI
  unfold Z_X10_goThrough_p62
  by_cases c1 : e7 c < 19
  · have c1' : ¬ 19 ≤ mI σ 655 m := by rw [i7]; exact fun z => (lt19.mp z) c1
    rw [if_neg c1']
    dsimp only
    have hF := iD c1
    have hF2 : DF (mI σ 655 m) (mI σ 656 m) (mI σ 657 m) (mI σ 658 m) (mI σ 659 m) (eJ c) := by rw [i7, i8, i9, i10, i11]; exact hF
    obtain ⟨s1, s2, s3, s4, s5, s6, s7, s8⟩ := act_ok (x := a) (r := p.2.2.2) hD hD9 hF2 (by rw [i7]; exact iJ) (fun k hk => (hN k hk).1) hr
    have l23 := cl_23 hF2.htg
    have h24 : A24 (fun k => ab (cC R m σ (4856 + k))) p.2.2.1 := fun k hk => (hN k hk).2
    have eA : A_f c p = K_eff (e7 c) (e8 c) (e9 c) (e10 c) (e11 c) (eJ c) p.2.2.1 := by unfold A_f; rw [if_pos c1]
    have eR : A_r c p = K_note (e7 c) (e8 c) (e9 c) (e10 c) (eJ c) p.2.2.2 := by unfold A_r; rw [if_pos c1]
    have k655 : mI (Z_X10_act R σ m a) 655 m = e7 c := (s4 655 m (by decide)).trans i7
    have q := p83_ok (σ := Z_X10_act R σ m a) (a := a) (x2 := a + mI σ 661 m) (n := n) (t := t) (f := A_f c p) (r := A_r c p) hD hD9 hD8 ((s4 642 m (by decide)).trans hm) hn (rtb_eq (fun j hj => s5 j (fun z => by have := (scr_ge j z).1; omega) (by omega)) (s6 _ hD8.2.1.1 hD8.2.1.2.1 hD8.2.1.2.2.1 hD8.2.1.2.2.2) (s6 _ hD8.2.2.1 hD8.2.2.2.1 hD8.2.2.2.2.1 hD8.2.2.2.2.2) (fun j hj => s8 j (by omega)) hT) (fun k hk => by
      obtain ⟨z1, z2⟩ := s1 k hk
      refine ⟨z1, ?_⟩
      rw [z2, eA, i7, i8, i9, i10, i11]
      exact a24_eff h24 k hk) (by rw [eR, ← i7, ← i8, ← i9, ← i10]; exact s2) (fun z => by rw [k655] at z; rw [z] at c1; exact absurd c1 (by decide))
    have n20 : ¬ e7 c = 20 := fun z => by rw [z] at c1; exact absurd c1 (by decide)
    have n19 : ¬ e7 c = 19 := fun z => by rw [z] at c1; exact absurd c1 (by decide)
    rw [k655, if_neg n20, if_neg n19] at q
    have e2 : A_2 n (A_1 n t a c p) a c p = A_arr n t a (a + mI σ 661 m).toInt64 (A_f c p) (A_r c p) := by
      unfold A_2 A_1
      rw [if_neg n20, if_neg n19, if_neg n20, if_neg n19, i6]
    rw [e2]
    refine ⟨q.1, fe_tr ⟨s3, s4, fun j h1 h2 => s5 j (fun z => by have := (scr_ge j z).2; omega) (by omega)⟩ q.2⟩
  · have c1' : 19 ≤ mI σ 655 m := by rw [i7]; exact lt19.mpr c1
    rw [if_pos c1']
    have q := p83_ok (σ := σ) (a := a) (x2 := a + mI σ 661 m) (n := n) (t := t) (f := p.2.2.1) (r := p.2.2.2) hD hD9 hD8 hm hn hT hN hr (fun z => by rw [i7] at z; rw [i11]; exact i19 z)
    have nsh : ¬ Rg 14 16 (e7 c) := fun z => c1 (by rw [Int32.lt_iff_toInt_lt, show (19 : Int32).toInt = 19 from rfl]; have := z.2; omega)
    have eJ0 : eJ c = mJ σ 660 m := iJ.resolve_right nsh
    rw [i7] at q
    have e2 : A_2 n (A_1 n t a c p) a c p = (if e7 c = 20 then A_arr n t a (mJ σ 660 m) p.2.2.1 p.2.2.2 else if e7 c = 19 then A_nx n (A_nx n t a (a + mI σ 661 m).toInt64 (K_naC p.2.2.1 p.2.2.2 (mI σ 659 m ^^^ 1)) p.2.2.2) a (mJ σ 660 m) (K_naC p.2.2.1 p.2.2.2 (mI σ 659 m)) p.2.2.2 else A_arr n t a (a + mI σ 661 m).toInt64 p.2.2.1 p.2.2.2) := by
      have eA : A_f c p = p.2.2.1 := by unfold A_f; rw [if_neg c1]
      have eR : A_r c p = p.2.2.2 := by unfold A_r; rw [if_neg c1]
      unfold A_2 A_1
      rw [eA, eR, i6, i11, eJ0]
      by_cases k20 : e7 c = 20
      · simp only [if_pos k20]
      · by_cases k19 : e7 c = 19
        · simp only [if_neg k20, if_pos k19]
        · simp only [if_neg k20, if_neg k19]
    rw [e2]
    exact q
end RGO
