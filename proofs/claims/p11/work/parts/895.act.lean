section ACU
variable {R : Nat → Nat → Nat} {σ τ ρ : SG} {m : Nat} {r : Rc} {num : Int64} {x x2 x3 : Int32}
theorem cl_23 {x : Int32} (h : Rg 0 23 x) : x.toNatClampNeg < 24 := rg_cl h
theorem neg1 {x : Int32} (h : Rg (-1) 23 x) : (x < 0 ↔ x = -1) ∧ (¬ x = -1 → Rg 0 23 x) := by
  have q : x = -1 ↔ x.toInt = -1 := Int32.toInt_inj.symm
  constructor
  · rw [Int32.lt_iff_toInt_lt, show (0 : Int32).toInt = 0 from rfl, q]
    have := h.1
    omega
  · intro n
    rw [q] at n
    have := h.1
    exact ⟨by omega, h.2⟩
theorem nr16 {op j : Int32} (h : op = j) (hj : j.toInt < 14 ∨ 16 < j.toInt := by decide) : ¬ Rg 14 16 op := by
  rintro ⟨a, b⟩
  rw [h] at a b
  omega
theorem stA (hD : D4 R m) (hF : DF (mI σ 655 m) (mI σ 656 m) (mI σ 657 m) (mI σ 658 m) (mI σ 659 m) num) (hnum : num = mJ σ 660 m ∨ Rg 14 16 (mI σ 655 m)) (hN : ∀ k, k < 24 → Gc (cC R m σ (4856 + k))) : ∃ ρ, Z_X10_act R σ m x = Z_X10_act_p61 R ρ m (if mI σ 656 m = 32 then 1 else 0) (if mI σ 655 m = 17 then 1 else if mI σ 655 m = 16 then 1 else 0) ∧ cC R m ρ 4848 = cC R m σ (4856 + (mI σ 657 m).toNatClampNeg) ∧ Gc (cC R m ρ 4849) ∧ (¬ Rg 14 16 (mI σ 655 m) → ab (cC R m ρ 4849) = K_second (mI σ 655 m) (mI σ 658 m) (mI σ 659 m) num (fun k => ab (cC R m σ (4856 + k)))) ∧ Fx R m SCR σ ρ := by
  have a1 : (4848 : Int32).toNatClampNeg = 4848 := rfl
  have a2 : (4849 : Int32).toNatClampNeg = 4849 := rfl
  have iT : (4856 + mI σ 657 m).toNatClampNeg = 4856 + (mI σ 657 m).toNatClampNeg := ix_add (b := 4856) (B := 4856) rfl hF.htg
  have lT := cl_23 hF.htg
  obtain ⟨s1, s2⟩ := neg1 hF.hsr
  -- the operand
  have key : ∃ X : Ce, Z_X10_operand R (wC R m σ 4848 (cC R m σ (4856 + (mI σ 657 m).toNatClampNeg))) m 4849 = wC R m (wC R m σ 4848 (cC R m σ (4856 + (mI σ 657 m).toNatClampNeg))) 4849 X ∧ Gc X ∧ (¬ Rg 14 16 (mI σ 655 m) → ab X = K_second (mI σ 655 m) (mI σ 658 m) (mI σ 659 m) num (fun k => ab (cC R m σ (4856 + k)))) := by
    unfold Z_X10_operand K_second
    have eI : ∀ k q, mI (wC R m σ 4848 (cC R m σ (4856 + (mI σ 657 m).toNatClampNeg))) k q = mI σ k q := fun _ _ => rfl
    have eJ' : ∀ k q, mJ (wC R m σ 4848 (cC R m σ (4856 + (mI σ 657 m).toNatClampNeg))) k q = mJ σ k q := fun _ _ => rfl
    simp only [eI, eJ', zj_one hD, zj_copy hD, a2]
    by_cases c : mI σ 658 m = -1
    · have cl : mI σ 658 m < 0 := s1.mpr c
      rw [if_pos cl]
      by_cases c11 : mI σ 655 m = 11
      · rw [if_pos c11]
        obtain ⟨o1, o2⟩ := one_ok (c := cC R m (wC R m σ 4848 (cC R m σ (4856 + (mI σ 657 m).toNatClampNeg))) 4849) (t0 := tANY) (v := 1)
        exact ⟨_, rfl, o1, fun _ => by rw [o2, if_pos c, if_pos c11]⟩
      · rw [if_neg c11]
        by_cases c12 : mI σ 655 m = 12
        · rw [if_pos c12]
          obtain ⟨o1, o2⟩ := one_ok (c := cC R m (wC R m σ 4848 (cC R m σ (4856 + (mI σ 657 m).toNatClampNeg))) 4849) (t0 := tANY) (v := 1)
          exact ⟨_, rfl, o1, fun _ => by rw [o2, if_pos c, if_neg c11, if_pos c12]⟩
        · rw [if_neg c12]
          obtain ⟨o1, o2⟩ := one_ok (c := cC R m (wC R m σ 4848 (cC R m σ (4856 + (mI σ 657 m).toNatClampNeg))) 4849) (t0 := tANY) (v := mJ σ 660 m)
          refine ⟨_, rfl, o1, fun hr => ?_⟩
          have c14 : ¬ mI σ 655 m = 14 := fun z => hr (by rw [z]; exact ⟨by decide, by decide⟩)
          rw [o2, if_pos c, if_neg c11, if_neg c12, if_neg c14, hnum.resolve_right hr]
    · have cl : ¬ mI σ 658 m < 0 := fun z => c (s1.mp z)
      have hs := s2 c
      rw [if_neg cl]
      have iS : (4856 + mI σ 658 m).toNatClampNeg = 4856 + (mI σ 658 m).toNatClampNeg := ix_add (b := 4856) (B := 4856) rfl hs
      have lS := cl_23 hs
      refine ⟨_, rfl, ?_, fun _ => ?_⟩
      · rw [iS, cC_wCn (by omega)]; exact hN _ lS
      · rw [if_neg c, ldT_in hs, iS, cC_wCn (by omega)]
  obtain ⟨X, x1, xG, xa⟩ := key
  refine ⟨wC R m (wC R m σ 4848 (cC R m σ (4856 + (mI σ 657 m).toNatClampNeg))) 4849 X, ?_, ?_, ?_, ?_, fx_tr (fx_wC (by decide)) (fx_wC (by decide))⟩
  · unfold Z_X10_act Z_X10_act_p15
    simp only [zj_copy hD, a1, iT, x1]
    by_cases c : mI σ 656 m = 32
    · simp only [c, ↓reduceIte]
      by_cases c17 : mI σ 655 m = 17
      · simp only [c17, ↓reduceIte]
      · by_cases c16 : mI σ 655 m = 16
        · simp only [c17, c16, ↓reduceIte]; simp
        · simp only [c17, c16, ↓reduceIte]
    · simp only [c, ↓reduceIte]
      by_cases c17 : mI σ 655 m = 17
      · simp only [c17, ↓reduceIte]
      · by_cases c16 : mI σ 655 m = 16
        · simp only [c17, c16, ↓reduceIte]; simp
        · simp only [c17, c16, ↓reduceIte]
  · rw [cC_wCn (by decide), cC_wC hD]
  · rw [cC_wC hD]; exact xG
  · rw [cC_wC hD]; exact xa
theorem stB {op w : Int32} {a b : Tr} (hD : D4 R m) (hw : w = 32 ∨ w = 64) (h1 : Gc (cC R m ρ 4848)) (h2 : Gc (cC R m ρ 4849)) (e1 : ab (cC R m ρ 4848) = a) (e2 : ab (cC R m ρ 4849) = b) : ∃ υ, Z_X10_act_p61 R ρ m (if w = 32 then 1 else 0) (if op = 17 then 1 else if op = 16 then 1 else 0) = Z_X10_act_p81 R υ m (if w = 32 then 1 else 0) ∧ Gc (cC R m υ 4848) ∧ ab (cC R m υ 4848) = K_fit1 op w a ∧ Gc (cC R m υ 4849) ∧ ab (cC R m υ 4849) = (if w = 64 then b else K_fitH op b) ∧ Fx R m SCR ρ υ := by
  unfold Z_X10_act_p61 K_fit1
  rcases hw with rfl | rfl
  · have n64 : ¬ (32 : Int32) = 64 := by decide
    simp only [↓reduceIte, n10, n64]
    obtain ⟨p1, p2, p3⟩ := narrowed_ok (x2 := if op = 17 then 1 else if op = 16 then 1 else 0) (k := 4848) (kN := 4848) hD rfl (by decide) (by decide) h1
    have h2' : cC R m (Z_X10_narrowed R ρ m 4848 (if op = 17 then 1 else if op = 16 then 1 else 0)) 4849 = cC R m ρ 4849 := p3.2.2.1 4849 (by decide)
    obtain ⟨q1, q2, q3⟩ := narrowed_ok (σ := Z_X10_narrowed R ρ m 4848 (if op = 17 then 1 else if op = 16 then 1 else 0)) (x2 := if op = 17 then 1 else if op = 16 then 1 else 0) (k := 4849) (kN := 4849) hD rfl (by decide) (by decide) (by rw [h2']; exact h2)
    have hf : ∀ t : Tr, (if (if op = 17 then (1 : Int32) else if op = 16 then 1 else 0) = 0 then K_takeLowHalf t else K_takeSignedHalf t) = K_fitH op t := by
      intro t
      unfold K_fitH
      by_cases c17 : op = 17
      · simp [c17]
      · by_cases c16 : op = 16
        · simp [c16]
        · simp [c17, c16]
    refine ⟨_, rfl, ?_, ?_, q1, ?_, fx_tr (fx_w p3 (by decide)) (fx_w q3 (by decide))⟩
    · rw [q3.2.2.1 4848 (by decide)]; exact p1
    · rw [q3.2.2.1 4848 (by decide), p2, hf, e1]
    · rw [q2, hf, h2', e2]
  · have n32 : ¬ (64 : Int32) = 32 := by decide
    simp only [↓reduceIte, n32]
    exact ⟨ρ, rfl, h1, e1, h2, e2, fx_rf⟩
theorem stC {a b b2 : Tr} (hD : D4 R m) (hF : DF (mI ρ 655 m) (mI ρ 656 m) (mI ρ 657 m) (mI ρ 658 m) (mI ρ 659 m) num) (h1 : Gc (cC R m ρ 4848)) (h2 : Gc (cC R m ρ 4849)) (e1 : ab (cC R m ρ 4848) = a) (e2 : ab (cC R m ρ 4849) = b2) (hb : ¬ Rg 14 16 (mI ρ 655 m) → b2 = (if mI ρ 656 m = 64 then b else K_fitH (mI ρ 655 m) b)) (hs : mI ρ 655 m = 14 → b = K_become tANY (1 <<< ((mI ρ 659 m).toInt64 &&& 63)) (1 <<< ((mI ρ 659 m).toInt64 &&& 63)) 0) : ∃ υ, Z_X10_act_p81 R ρ m x2 = Z_X10_act_p136 R υ m x2 ∧ (¬ mI ρ 655 m = 7 → ¬ mI ρ 655 m = 8 → Gc (cC R m υ 4850) ∧ ab (cC R m υ 4850) = K_comp0 (mI ρ 655 m) (mI ρ 657 m) (mI ρ 658 m) (mI ρ 659 m) a (K_fit2 (mI ρ 655 m) (mI ρ 656 m) b)) ∧ Fx R m SCR ρ υ := by
  have a3 : (4850 : Int32).toNatClampNeg = 4850 := rfl
  have wk : ¬ (mI ρ 657 m = mI ρ 658 m ∧ (mI ρ 655 m = 6 ∨ mI ρ 655 m = 5)) → (¬ mI ρ 655 m = 7 → ¬ mI ρ 655 m = 8 → Gc (cC R m (Z_X10_work R ρ m) 4850) ∧ ab (cC R m (Z_X10_work R ρ m) 4850) = K_comp0 (mI ρ 655 m) (mI ρ 657 m) (mI ρ 658 m) (mI ρ 659 m) a (K_fit2 (mI ρ 655 m) (mI ρ 656 m) b)) ∧ Fx R m SCR ρ (Z_X10_work R ρ m) := by
    intro ho
    by_cases c78 : mI ρ 655 m = 7 ∨ mI ρ 655 m = 8
    · have e : Z_X10_work R ρ m = ρ := by
        unfold Z_X10_work Z_X10_workMore
        rcases c78 with h | h <;> simp [h]
      refine ⟨fun q7 q8 => ?_, by rw [e]; exact fx_rf⟩
      rcases c78 with h | h
      · exact absurd h q7
      · exact absurd h q8
    · have q7 : ¬ mI ρ 655 m = 7 := fun z => c78 (Or.inl z)
      have q8 : ¬ mI ρ 655 m = 8 := fun z => c78 (Or.inr z)
      obtain ⟨t1, t2, t3⟩ := work_ok hD h1 h2 hF.hdt hF.hop ⟨hF.h2, hF.h3, q7, q8⟩
      refine ⟨fun _ _ => ⟨t1, ?_⟩, t3⟩
      rw [t2, e1, e2]
      exact kres_eq hF ho q7 q8 hb (fun z => by rw [hb (nr16 z), if_pos (hF.h18 z)]) hs
  have own : (mI ρ 657 m = mI ρ 658 m ∧ (mI ρ 655 m = 6 ∨ mI ρ 655 m = 5)) → Gc (cC R m (Z_X10_one R ρ m 4850 0) 4850) ∧ ab (cC R m (Z_X10_one R ρ m 4850 0) 4850) = K_comp0 (mI ρ 655 m) (mI ρ 657 m) (mI ρ 658 m) (mI ρ 659 m) a (K_fit2 (mI ρ 655 m) (mI ρ 656 m) b) ∧ Fx R m SCR ρ (Z_X10_one R ρ m 4850 0) := by
    intro ho
    rw [zj_one hD, a3, cC_wC hD]
    obtain ⟨o1, o2⟩ := one_ok (c := cC R m ρ 4850) (t0 := tANY) (v := 0)
    refine ⟨o1, o2.trans ?_, fx_wC (by decide)⟩
    unfold K_comp0
    rw [if_pos ho]
  unfold Z_X10_act_p81
  by_cases c6 : mI ρ 655 m = 6
  · by_cases cs : mI ρ 658 m = mI ρ 657 m
    · obtain ⟨t1, t2, t3⟩ := own ⟨cs.symm, Or.inl c6⟩
      exact ⟨_, by rw [if_pos c6, if_pos cs], fun _ _ => ⟨t1, t2⟩, t3⟩
    · obtain ⟨t1, t3⟩ := wk (fun z => cs z.1.symm)
      exact ⟨_, by rw [if_pos c6, if_neg cs], t1, t3⟩
  · by_cases c5 : mI ρ 655 m = 5
    · by_cases cs : mI ρ 658 m = mI ρ 657 m
      · obtain ⟨t1, t2, t3⟩ := own ⟨cs.symm, Or.inr c5⟩
        exact ⟨_, by rw [if_neg c6, if_pos c5, if_pos cs], fun _ _ => ⟨t1, t2⟩, t3⟩
      · obtain ⟨t1, t3⟩ := wk (fun z => cs z.1.symm)
        exact ⟨_, by rw [if_neg c6, if_pos c5, if_neg cs], t1, t3⟩
    · obtain ⟨t1, t3⟩ := wk (fun z => z.2.elim c6 c5)
      exact ⟨_, by rw [if_neg c6, if_neg c5], t1, t3⟩
theorem stD {w : Int32} {t : Tr} {p : Prop} (hD : D4 R m) (hw : w = 32 ∨ w = 64) (h : p → Gc (cC R m ρ 4850) ∧ ab (cC R m ρ 4850) = t) : ∃ υ, Z_X10_act_p136 R ρ m (if w = 32 then 1 else 0) = Z_X10_act_p160 R υ m ∧ (p → Gc (cC R m υ 4850) ∧ ab (cC R m υ 4850) = (if w = 32 then K_takeLowHalf t else t)) ∧ Fx R m SCR ρ υ := by
  have a3 : (4850 : Int32).toNatClampNeg = 4850 := rfl
  have a5 : (4851 : Int32).toNatClampNeg = 4851 := rfl
  unfold Z_X10_act_p136
  rcases hw with rfl | rfl
  · simp only [↓reduceIte, n10, zj_copy hD, zj_lowPart hD, a3, a5]
    refine ⟨_, rfl, fun hp => ?_, fx_tr (fx_wC (by decide)) (fx_wC (by decide))⟩
    obtain ⟨h1, h2⟩ := h hp
    rw [cC_wC hD, cC_wC hD]
    obtain ⟨l1, l2, -⟩ := low_ok (c := cC R m (wC R m ρ 4851 (cC R m ρ 4850)) 4850) h1
    exact ⟨l1, l2.trans (by rw [h2])⟩
  · have n32 : ¬ (64 : Int32) = 32 := by decide
    simp only [↓reduceIte, n32]
    exact ⟨ρ, rfl, h, fx_rf⟩
end ACU
