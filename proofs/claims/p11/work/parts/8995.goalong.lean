section GOB
variable {R : Nat → Nat → Nat} {σ τ ρ : SG} {m : Nat} {x y c : Int32} {P Q : Ce} {r : Rc} {p : Tr × Tr} {f : Nat → Tr}
theorem non_0 {c : Ce} (h : Gc c) : K_isNone (ab c) = 0 := by
  unfold K_isNone
  rw [if_neg]
  intro e
  rcases h with h | ⟨h, v⟩
  · rw [ab_2 h] at e; exact absurd e (by decide)
  · rw [ab_1 h] at e
    have := v.2.2.2.1
    rw [e, izm2] at this
    omega
theorem non_1 : ¬ K_isNone tNO = 0 := by decide
theorem stT_n {t : Tr} : stT f (-1) t = f := by unfold stT; rw [if_pos (show Z_X9_isLocation (-1) = 0 from rfl)]
/-- the places x and y get p -/
def put2 (f : Nat → Tr) (x y : Int32) (p : Tr × Tr) : Nat → Tr := stT (stT f x p.1) y p.2
theorem fin_ok {cN : Nat → Ce} (hN : ∀ k, k < 24 → Gc (cN k) ∧ ab (cN k) = f k) (hx : Rg 0 23 x) (hy : Rg (-1) 23 y) (hE : EQ2 P Q p) (hc : ∀ k, k < 24 → cC R m ρ (4904 + k) = if ¬ y = -1 ∧ k = y.toNatClampNeg then Q else if ¬ x = -1 ∧ k = x.toNatClampNeg then P else cN k) (hA : Gc P → Gc Q → mI ρ 676 m = 0) (hB : (P.1 = 0 ∨ Q.1 = 0) → ¬ (mI ρ 676 m = 0 ∧ AllE R m ρ 0)) : ((Z_X10_goAlong_p228 R ρ m).2 = 1 ∧ (K_isNone p.1 = 0 ∧ K_isNone p.2 = 0) ∧ ∀ k, k < 24 → Gc (cC R m ρ (4904 + k)) ∧ ab (cC R m ρ (4904 + k)) = put2 f x y p k) ∨ ((Z_X10_goAlong_p228 R ρ m).2 = 0 ∧ ¬ (K_isNone p.1 = 0 ∧ K_isNone p.2 = 0)) := by
  obtain ⟨-, g1, g2⟩ := p228_ok (R := R) (m := m) (σ := ρ)
  have nx : ¬ x = -1 := fun e => by have := hx.1; rw [e] at this; exact absurd this (by decide)
  rcases hE with ⟨d1, d2⟩ | ⟨a1, a2, a3, a4⟩
  · right
    refine ⟨g2 (hB d1), fun z => ?_⟩
    rcases d2 with e | e
    · rw [e] at z; exact non_1 z.1
    · rw [e] at z; exact non_1 z.2
  · left
    have cells : ∀ k, k < 24 → Gc (cC R m ρ (4904 + k)) ∧ ab (cC R m ρ (4904 + k)) = put2 f x y p k := by
      intro k hk
      rw [hc k hk]
      unfold put2
      by_cases cy : ¬ y = -1 ∧ k = y.toNatClampNeg
      · rw [if_pos cy, stT_in ((neg1 hy).2 cy.1)]
        refine ⟨a2, ?_⟩
        unfold upT
        rw [if_pos cy.2]; exact a4
      · rw [if_neg cy]
        have e1 : stT (stT f x p.1) y p.2 k = stT f x p.1 k := by
          by_cases ym : y = -1
          · rw [ym, stT_n]
          · rw [stT_in ((neg1 hy).2 ym)]
            unfold upT
            rw [if_neg (fun z => cy ⟨ym, z⟩)]
        rw [e1, stT_in hx]
        unfold upT
        by_cases cx : k = x.toNatClampNeg
        · rw [if_pos ⟨nx, cx⟩, if_pos cx]; exact ⟨a1, a3⟩
        · rw [if_neg (fun z => cx z.2), if_neg cx]; exact hN k hk
    refine ⟨g1 (hA a1 a2) (fun k _ hk => gc_n0 (cells k hk).1), ⟨by rw [← a3]; exact non_0 a1, by rw [← a4]; exact non_0 a2⟩, cells⟩
def K_pC (f : Nat → Tr) (r : Rc) (c : Int32) : Tr × Tr := KRn c r.1 (K_prs f r).1 (K_prs f r).2
def K_naC (f : Nat → Tr) (r : Rc) (c : Int32) : Option (Nat → Tr) :=
  if r.1 = 0 then some f
  else if K_isNone (K_pC f r c).1 = 0 then (if K_isNone (K_pC f r c).2 = 0 then some (put2 f r.2.1 r.2.2.1 (K_pC f r c)) else none) else none
theorem nac_eq {h : Int32} (hc : Rg 0 15 c) (hh : h = 0 ∨ h = 1) : K_nar f r c h = K_naC f r (if h = 1 then c else c ^^^ 1) := by
  have e := kr_ok hc hh
  unfold K_nar K_naC K_pC K_pr2 put2
  rw [e]
/-- the outcome of an edge -/
def Out (R : Nat → Nat → Nat) (m : Nat) (kn : Option (Nat → Tr)) (res : SG × Int32) : Prop := (res.2 = 1 ∧ ∃ g, kn = some g ∧ ∀ k, k < 24 → Gc (cC R m res.1 (4904 + k)) ∧ ab (cC R m res.1 (4904 + k)) = g k) ∨ (res.2 = 0 ∧ kn = none)
theorem out_p {kn : Option (Nat → Tr)} (hr : ¬ r.1 = 0) (h : ((Z_X10_goAlong_p228 R ρ m).2 = 1 ∧ (K_isNone (K_pC f r c).1 = 0 ∧ K_isNone (K_pC f r c).2 = 0) ∧ ∀ k, k < 24 → Gc (cC R m ρ (4904 + k)) ∧ ab (cC R m ρ (4904 + k)) = put2 f r.2.1 r.2.2.1 (K_pC f r c) k) ∨ ((Z_X10_goAlong_p228 R ρ m).2 = 0 ∧ ¬ (K_isNone (K_pC f r c).1 = 0 ∧ K_isNone (K_pC f r c).2 = 0))) (hk : kn = K_naC f r c) : Out R m kn (Z_X10_goAlong_p228 R ρ m) := by
  have e := (p228_ok (R := R) (m := m) (σ := ρ)).1
  subst hk
  unfold K_naC
  rw [if_neg hr]
  rcases h with ⟨h1, h2, h3⟩ | ⟨h1, h2⟩
  · left
    refine ⟨h1, _, by rw [if_pos h2.1, if_pos h2.2], ?_⟩
    rw [e]; exact h3
  · right
    refine ⟨h1, ?_⟩
    by_cases z1 : K_isNone (K_pC f r c).1 = 0
    · rw [if_pos z1, if_neg (fun z => h2 ⟨z1, z⟩)]
    · rw [if_neg z1]
theorem goAlong_ok (hD : D4 R m) (hD9 : D9 R m) (hN : ∀ k, k < 24 → Gc (cC R m σ (4856 + k))) (hr : RRel r (rR R m σ 201)) (hc : c = -1 ∨ Rg 0 15 c) : Out R m (if c = -1 then some (fun k => ab (cC R m σ (4856 + k))) else K_naC (fun k => ab (cC R m σ (4856 + k))) r c) (Z_X10_goAlong R σ m c) ∧ Fx R m SE σ (Z_X10_goAlong R σ m c).1 := by
  obtain ⟨ρ, e1, e2, f1, c1⟩ := cp_loop (c := c) hD 25 (uI σ 676 m 0) 0 ⟨by decide, by decide⟩ (by decide)
  have eG : Z_X10_goAlong R σ m c = Z_X10_goAlong_p33 R ρ m c := e1
  rw [eG]
  have fS : Fx R m SE σ ρ := fx_tr fx_uI (fx_w f1 (fun _ h => se_e h))
  have h0 : mI ρ 676 m = 0 := by rw [e2, mI_uI]; simp
  have cE : ∀ k, k < 24 → cC R m ρ (4904 + k) = cC R m σ (4856 + k) := fun k hk => by rw [c1 k hk, if_pos (show (0 : Int32).toNatClampNeg ≤ k from Nat.zero_le _)]; rfl
  have cN : ∀ k, k < 24 → cC R m ρ (4856 + k) = cC R m σ (4856 + k) := fun k hk => (f1.2.2.1 _ (fun z => by have := mem_edg.mp z; omega)).trans rfl
  have hr2 : RRel r (rR R m ρ 201) := by rw [rR_fx hD9 fS]; exact hr
  have hNf : ∀ k, k < 24 → Gc (cC R m σ (4856 + k)) ∧ ab (cC R m σ (4856 + k)) = (fun k => ab (cC R m σ (4856 + k))) k := fun k hk => ⟨hN k hk, rfl⟩
  -- nothing is narrowed
  have plain : Out R m (some (fun k => ab (cC R m σ (4856 + k)))) (Z_X10_goAlong_p228 R ρ m) := by
    obtain ⟨g0, g1, -⟩ := p228_ok (R := R) (m := m) (σ := ρ)
    left
    refine ⟨g1 h0 (fun k _ hk => by rw [cE k hk]; exact gc_n0 (hN k hk)), _, rfl, ?_⟩
    rw [g0]
    intro k hk
    rw [cE k hk]
    exact ⟨hN k hk, rfl⟩
  have p1 := (p228_ok (R := R) (m := m) (σ := ρ)).1
  unfold Z_X10_goAlong_p33
  have e201 : (201 : Int32).toNatClampNeg = 201 := rfl
  rw [e201]
  rcases hc with hc | hc
  · have cl : c < 0 := by rw [hc]; decide
    rw [if_pos cl, if_pos hc]
    exact ⟨plain, by rw [p1]; exact fS⟩
  · have cn : ¬ c = -1 := fun z => by have := hc.1; rw [z] at this; exact absurd this (by decide)
    have cl : ¬ c < 0 := by rw [Int32.lt_iff_toInt_lt, show (0 : Int32).toInt = 0 from rfl]; have := hc.1; omega
    rw [if_neg cl, if_neg cn]
    have d1 : mi ρ (R 649 m) 201 = (rR R m ρ 201).1 := rfl
    have d2 : mi ρ (R 650 m) 201 = (rR R m ρ 201).2.1 := rfl
    rw [d1, d2]
    rcases hr2 with ⟨k1, k2⟩ | ⟨k1, kx, k3, k4⟩ | ⟨k1, kx, k3, k4, k5, k6⟩
    · rw [if_pos (by rw [k2]; decide)]
      have : K_naC (fun k => ab (cC R m σ (4856 + k))) r c = some (fun k => ab (cC R m σ (4856 + k))) := by unfold K_naC; rw [if_pos k1]
      rw [this]
      exact ⟨plain, by rw [p1]; exact fS⟩
    · -- compared
      have lx := cl_23 kx
      have nq : ¬ (rR R m ρ 201).1 ≤ 0 := by
        rcases k4 with ⟨-, -, z, -⟩ | ⟨-, z, -⟩
        · rw [z]; decide
        · rw [z]; decide
      have hr1 : ¬ r.1 = 0 := by rw [k1]; decide
      have iX : (4856 + r.2.1).toNatClampNeg = 4856 + r.2.1.toNatClampNeg := ix_add (b := 4856) (B := 4856) rfl kx
      rw [if_neg nq, k3]
      obtain ⟨X, hX⟩ : ∃ q, cC R m σ (4856 + r.2.1.toNatClampNeg) = q := ⟨_, rfl⟩
      have eX : Z_X10_copy R ρ m 4928 (4856 + r.2.1) = wC R m ρ 4928 X := by rw [zj_copy hD, c28, iX, cN _ lx, hX]
      simp only [eX]
      have gX : Gc X := by rw [← hX]; exact hN _ lx
      have m651 : mi (wC R m ρ 4928 X) (R 651 m) 201 = (rR R m ρ 201).2.2.1 := by rw [mi_wC, if_neg (fun z => hD9.2.1.2.2 z.1.symm)]; rfl
      have m652 : mj (wC R m ρ 4928 X) (R 652 m) 201 = (rR R m ρ 201).2.2.2 := by
        rw [mj_wC, if_neg (fun z => hD9.2.2.2.2 z.1), if_neg (fun z => hD9.2.2.2.1 z.1), if_neg (fun z => hD9.2.2.1 z.1)]; rfl
      have krn : ∀ a b, KRn c 1 a b = KCn c a b := by
        intro a b
        unfold KRn KCn
        by_cases h4 : c = 4
        · simp only [if_pos h4]
        · by_cases h5 : c = 5
          · simp only [if_neg h4, if_pos h5]
          · simp only [if_neg h4, if_neg h5, ↓reduceIte]
      -- both ways alike
      have go : ∀ (Y : Ce) (y : Int32), y = r.2.2.1 → Rg (-1) 23 y → Gc Y → (¬ y = -1 → cC R m σ (4856 + y.toNatClampNeg) = Y) → ab Y = (K_prs (fun k => ab (cC R m σ (4856 + k))) r).2 → Out R m (K_naC (fun k => ab (cC R m σ (4856 + k))) r c) (Z_X10_goAlong_p228 R (Z_X10_compared R (wC R m (wC R m ρ 4928 X) 4929 Y) m r.2.1 y c) m) ∧ Fx R m SE σ (Z_X10_goAlong_p228 R (Z_X10_compared R (wC R m (wC R m ρ 4928 X) 4929 Y) m r.2.1 y c) m).1 := by
        intro Y y ey hy gY eY aY
        have s28 : cC R m (wC R m (wC R m ρ 4928 X) 4929 Y) 4928 = X := by rw [cC_wCn (by decide), cC_wC hD]
        have s29 : cC R m (wC R m (wC R m ρ 4928 X) 4929 Y) 4929 = Y := by rw [cC_wC hD]
        have sE : ∀ k, k < 24 → cC R m (wC R m (wC R m ρ 4928 X) 4929 Y) (4904 + k) = cC R m σ (4856 + k) := fun k hk => by rw [cC_wCn (by omega), cC_wCn (by omega), cE k hk]
        have fs : Fx R m SE ρ (wC R m (wC R m ρ 4928 X) 4929 Y) := fx_tr (fx_wC (se_s (by decide))) (fx_wC (se_s (by decide)))
        obtain ⟨P, Q, q1, q2⟩ := compared_z (σ := wC R m (wC R m ρ 4928 X) 4929 Y) (x := r.2.1) (y := y) (c := c) hD (by rw [s28]; exact gX) (by rw [s29]; exact gY) (rg_w kx) hy h0 (by rw [s28, sE _ lx, hX]) (fun z => by rw [s29, sE _ (cl_23 ((neg1 hy).2 z)), eY z]) hc
        rw [s28, s29] at q1
        obtain ⟨l1, l2, l3⟩ := q2
        have pp : K_pC (fun k => ab (cC R m σ (4856 + k))) r c = KCn c (ab X) (ab Y) := by
          unfold K_pC
          rw [k1, krn, ← aY]
          have : (K_prs (fun k => ab (cC R m σ (4856 + k))) r).1 = ab X := by unfold K_prs; rw [ldT_in kx, hX]
          rw [this]
        rw [← pp] at q1
        have fo := fin_ok (ρ := Z_X10_compared R (wC R m (wC R m ρ 4928 X) 4929 Y) m r.2.1 y c) (cN := fun k => cC R m σ (4856 + k)) hNf kx hy q1 (fun k hk => by rw [l2 k hk, sE k hk]) (fun a b => l1.mpr ⟨gc_n0 a, gc_n0 b⟩) (fun z w => by
          obtain ⟨w1, w2⟩ := l1.mp w.1
          exact z.elim w1 w2)
        rw [ey] at fo ⊢
        refine ⟨out_p hr1 fo rfl, ?_⟩
        rw [p228_ok.1, ← ey]
        exact fx_tr (fx_tr fS fs) l3
      rcases k4 with ⟨ky, kz, k5, k6⟩ | ⟨ky, k5, k6⟩
      · have ly := cl_23 ky
        have iY : (4856 + r.2.2.1).toNatClampNeg = 4856 + r.2.2.1.toNatClampNeg := ix_add (b := 4856) (B := 4856) rfl ky
        have ny : ¬ r.2.2.1 = -1 := fun z => by have := ky.1; rw [z] at this; exact absurd this (by decide)
        rw [if_pos k5]
        have eY : Z_X10_copy R (wC R m ρ 4928 X) m 4929 (4856 + r.2.2.1) = wC R m (wC R m ρ 4928 X) 4929 (cC R m σ (4856 + r.2.2.1.toNatClampNeg)) := by rw [zj_copy hD, c29, iY, cC_wCn (by omega), cN _ ly]
        have m651' : mi (wC R m (wC R m ρ 4928 X) 4929 (cC R m σ (4856 + r.2.2.1.toNatClampNeg))) (R 651 m) 201 = r.2.2.1 := by rw [mi_wC, if_neg (fun z => hD9.2.1.2.2 z.1.symm), m651, k6]
        simp only [m651, k6, eY, m651']
        exact go _ _ rfl (rg_w ky) (hN _ ly) (fun _ => rfl) (by unfold K_prs; rw [if_neg ny, ldT_in ky])
      · have n1 : ¬ (rR R m ρ 201).1 = 1 := by rw [k5]; decide
        rw [if_neg n1, if_pos k5]
        obtain ⟨o1, o2⟩ := one_ok (c := cC R m (wC R m ρ 4928 X) 4929) (t0 := tANY) (v := r.2.2.2)
        have eY : Z_X10_one R (wC R m ρ 4928 X) m 4929 r.2.2.2 = wC R m (wC R m ρ 4928 X) 4929 (J_one (cC R m (wC R m ρ 4928 X) 4929) r.2.2.2) := by rw [zj_one hD, c29]
        simp only [m652, k6, eY]
        exact go _ _ ky.symm ⟨by decide, by decide⟩ o1 (fun z => absurd rfl z) (by rw [o2]; unfold K_prs; rw [if_pos ky])
    · -- the result of a computation
      have lx := cl_23 kx
      have nq : ¬ (rR R m ρ 201).1 ≤ 0 := by rw [k6]; decide
      have n1 : ¬ (rR R m ρ 201).1 = 1 := by rw [k6]; decide
      have n2 : ¬ (rR R m ρ 201).1 = 2 := by rw [k6]; decide
      have hr1 : ¬ r.1 = 0 := by rw [k1]; decide
      have iX : (4856 + r.2.1).toNatClampNeg = 4856 + r.2.1.toNatClampNeg := ix_add (b := 4856) (B := 4856) rfl kx
      have iE : (4904 + r.2.1).toNatClampNeg = 4904 + r.2.1.toNatClampNeg := ix_add (b := 4904) (B := 4904) rfl kx
      rw [if_neg nq, k3, if_neg n1, if_neg n2]
      obtain ⟨X, hX⟩ : ∃ q, cC R m σ (4856 + r.2.1.toNatClampNeg) = q := ⟨_, rfl⟩
      have eX : Z_X10_copy R ρ m 4928 (4856 + r.2.1) = wC R m ρ 4928 X := by rw [zj_copy hD, c28, iX, cN _ lx, hX]
      simp only [eX]
      have gX : Gc X := by rw [← hX]; exact hN _ lx
      obtain ⟨d, hd⟩ : ∃ q, cC R m (wC R m ρ 4928 X) 4929 = q := ⟨_, rfl⟩
      obtain ⟨o1, o2⟩ := one_ok (c := d) (t0 := tANY) (v := 0)
      have eY : Z_X10_one R (wC R m ρ 4928 X) m 4929 0 = wC R m (wC R m ρ 4928 X) 4929 (J_one d 0) := by rw [zj_one hD, c29, hd]
      have s1E : ∀ k, k < 24 → cC R m (wC R m ρ 4928 X) (4904 + k) = cC R m σ (4856 + k) := fun k hk => by rw [cC_wCn (by omega), cE k hk]
      have f28 : Fx R m SE σ (wC R m ρ 4928 X) := fx_tr fS (fx_wC (se_s (by decide)))
      have pr1 : (K_prs (fun k => ab (cC R m σ (4856 + k))) r).1 = ab X := by unfold K_prs; rw [ldT_in kx, hX]
      have pr2 : (K_prs (fun k => ab (cC R m σ (4856 + k))) r).2 = ab (J_one d 0) := by rw [o2]; unfold K_prs; rw [if_pos k4, k5]
      have pC : K_pC (fun k => ab (cC R m σ (4856 + k))) r c = KRn c 2 (ab X) (ab (J_one d 0)) := by unfold K_pC; rw [k1, pr1, pr2]
      have n21 : ¬ (2 : Int32) = 1 := by decide
      have go : ∀ (P Q : Ce) (τ : SG), EQ2 P Q (K_pC (fun k => ab (cC R m σ (4856 + k))) r c) → (∀ k, k < 24 → cC R m τ (4904 + k) = if ¬ (-1 : Int32) = -1 ∧ k = (-1 : Int32).toNatClampNeg then Q else if ¬ r.2.1 = -1 ∧ k = r.2.1.toNatClampNeg then P else cC R m σ (4856 + k)) → (Gc P → Gc Q → mI τ 676 m = 0) → ((P.1 = 0 ∨ Q.1 = 0) → ¬ (mI τ 676 m = 0 ∧ AllE R m τ 0)) → Fx R m SE σ τ → Out R m (K_naC (fun k => ab (cC R m σ (4856 + k))) r c) (Z_X10_goAlong_p228 R τ m) ∧ Fx R m SE σ (Z_X10_goAlong_p228 R τ m).1 := by
        intro P Q τ q1 q2 q3 q4 q5
        have fo := fin_ok (ρ := τ) (cN := fun k => cC R m σ (4856 + k)) hNf kx (⟨by decide, by decide⟩ : Rg (-1) 23 (-1)) q1 q2 q3 q4
        exact ⟨out_p hr1 (by rw [k4]; exact fo) rfl, by rw [p228_ok.1]; exact q5⟩
      have nx : ¬ r.2.1 = -1 := fun e => by have := kx.1; rw [e] at this; exact absurd this (by decide)
      have go1 : ∀ (P : Ce), Gn P → K_pC (fun k => ab (cC R m σ (4856 + k))) r c = (ab P, ab (J_one d 0)) → Out R m (K_naC (fun k => ab (cC R m σ (4856 + k))) r c) (Z_X10_goAlong_p228 R (wC R m (wC R m ρ 4928 X) (4904 + r.2.1.toNatClampNeg) P) m) ∧ Fx R m SE σ (Z_X10_goAlong_p228 R (wC R m (wC R m ρ 4928 X) (4904 + r.2.1.toNatClampNeg) P) m).1 := by
        intro P gP eP
        refine go P (J_one d 0) _ (by rw [eP]; exact eq2_gn gP (gn_of o1) rfl rfl) (fun k hk => ?_) (fun _ _ => h0) (fun z w => ?_) (fx_tr f28 (fx_wC (se_e (mem_edg.mpr ⟨by omega, by omega⟩))))
        · rw [if_neg (fun z => z.1 rfl)]
          by_cases ek : k = r.2.1.toNatClampNeg
          · rw [if_pos ⟨nx, ek⟩, ek, cC_wC hD]
          · rw [if_neg (fun z => ek z.2), cC_wCn (by omega), s1E k hk]
        · rcases z with z | z
          · refine w.2 r.2.1.toNatClampNeg (Nat.zero_le _) lx ?_
            rw [cC_wC hD]; exact z
          · exact gc_n0 o1 z
      unfold Z_X10_goAlong_p142
      by_cases c4 : c = 4
      · rw [if_pos c4]
        simp only [eY]
        have s28 : cC R m (wC R m (wC R m ρ 4928 X) 4929 (J_one d 0)) 4928 = X := by rw [cC_wCn (by decide), cC_wC hD]
        have s29 : cC R m (wC R m (wC R m ρ 4928 X) 4929 (J_one d 0)) 4929 = J_one d 0 := by rw [cC_wC hD]
        obtain ⟨P, Q, q1, l1, l2, l3⟩ := equal_z (x3 := 1) (x := r.2.1) (y := -1) (σ := wC R m (wC R m ρ 4928 X) 4929 (J_one d 0)) hD (by rw [s28]; exact gX) (by rw [s29]; exact o1) (rg_w kx) ⟨by decide, by decide⟩ h0
        rw [if_neg n10, s28, s29] at q1
        refine go P Q _ (by rw [pC]; unfold KRn; rw [if_pos c4]; exact q1) (fun k hk => by rw [l2 k hk, cC_wCn (by omega), s1E k hk]) (fun a b => l1.mpr ⟨gc_n0 a, gc_n0 b⟩) (fun z w => ?_) (fx_tr f28 (fx_tr (fx_wC (se_s (by decide))) l3))
        obtain ⟨w1, w2⟩ := l1.mp w.1
        exact z.elim w1 w2
      · rw [if_neg c4]
        by_cases c5 : c = 5
        · rw [if_pos c5]
          simp only [eY]
          have s28 : cC R m (wC R m (wC R m ρ 4928 X) 4929 (J_one d 0)) 4928 = X := by rw [cC_wCn (by decide), cC_wC hD]
          have s29 : cC R m (wC R m (wC R m ρ 4928 X) 4929 (J_one d 0)) 4929 = J_one d 0 := by rw [cC_wC hD]
          obtain ⟨P, Q, q1, l1, l2, l3⟩ := equal_z (x3 := 0) (x := r.2.1) (y := -1) (σ := wC R m (wC R m ρ 4928 X) 4929 (J_one d 0)) hD (by rw [s28]; exact gX) (by rw [s29]; exact o1) (rg_w kx) ⟨by decide, by decide⟩ h0
          rw [if_pos rfl, s28, s29] at q1
          refine go P Q _ (by rw [pC]; unfold KRn; rw [if_neg c4, if_pos c5]; exact q1) (fun k hk => by rw [l2 k hk, cC_wCn (by omega), s1E k hk]) (fun a b => l1.mpr ⟨gc_n0 a, gc_n0 b⟩) (fun z w => ?_) (fx_tr f28 (fx_tr (fx_wC (se_s (by decide))) l3))
          obtain ⟨w1, w2⟩ := l1.mp w.1
          exact z.elim w1 w2
        · rw [if_neg c5]
          have s28 : cC R m (wC R m ρ 4928 X) 4928 = X := cC_wC hD
          by_cases c8 : c = 8
          · rw [if_pos c8]
            simp only [zj_cut hD, iE, c28, s28]
            obtain ⟨t1, t2⟩ := cut_ok (c := cC R m (wC R m ρ 4928 X) (4904 + r.2.1.toNatClampNeg)) (x3 := 0) (x6 := 1) (y4 := 0) (y7 := -1) gX (Or.inl ⟨rfl, rfl⟩) (Or.inr ⟨rfl, rfl⟩)
            exact go1 _ t1 (by rw [pC, t2]; unfold KRn; rw [if_neg c4, if_neg c5, if_neg n21, if_pos c8])
          · rw [if_neg c8]
            by_cases c9 : c = 9
            · rw [if_pos c9]
              simp only [zj_cut hD, iE, c28, s28]
              obtain ⟨t1, t2⟩ := cut_ok (c := cC R m (wC R m ρ 4928 X) (4904 + r.2.1.toNatClampNeg)) (x3 := 1) (x6 := 0) (y4 := 0) (y7 := 0) gX (Or.inr ⟨rfl, rfl⟩) (Or.inl ⟨rfl, rfl⟩)
              exact go1 _ t1 (by rw [pC, t2]; unfold KRn; rw [if_neg c4, if_neg c5, if_neg n21, if_neg c8, if_pos c9])
            · rw [if_neg c9]
              refine go X (J_one d 0) _ (by rw [pC]; unfold KRn; rw [if_neg c4, if_neg c5, if_neg n21, if_neg c8, if_neg c9]; exact eq2_gn (gn_of gX) (gn_of o1) rfl rfl) (fun k hk => ?_) (fun _ _ => h0) (fun z => ?_) f28
              · rw [if_neg (fun z => z.1 rfl), s1E k hk]
                by_cases ek : k = r.2.1.toNatClampNeg
                · rw [if_pos ⟨nx, ek⟩, ek, hX]
                · rw [if_neg (fun z => ek z.2)]
              · exact absurd z (fun z => z.elim (gc_n0 gX) (gc_n0 o1))
end GOB
