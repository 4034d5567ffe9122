/-! the table of points -/
abbrev Pt : Type := Int32 × Int32 × (Nat → Tr) × Rc
abbrev Tb : Type := Nat → Pt
def upP (t : Tb) (i : Nat) (p : Pt) : Tb := fun j => if j = i then p else t j
def A24 (f g : Nat → Tr) : Prop := ∀ k, k < 24 → f k = g k
def wdn (to fr g : Int32) : Int32 := if to ≤ fr then (if g < 3 then 0 else 1) else 0
abbrev Stay (w : Int32) (p : Pt) (f : Nat → Tr) (r : Rc) : Prop := (∀ j, j < 24 → K_ab1 w (p.2.2.1 j) (f j) = p.2.2.1 j) ∧ (p.2.2.2.1 = 0 ∨ p.2.2.2 = r)
def A_pt (w : Int32) (p : Pt) (f : Nat → Tr) (r : Rc) : Pt := if p.1 = 0 then (1, 1, f, r) else if Stay w p f r then (p.1, p.2.1, (fun j => K_ab1 w (p.2.2.1 j) (f j)), K_abR p.2.2.2 r) else (p.1 + 1, 1, (fun j => K_ab1 w (p.2.2.1 j) (f j)), K_abR p.2.2.2 r)
abbrev InC (n : Int32) (to : Int64) : Prop := ¬ to < 0 ∧ to < n.toInt64
def A_arr (n : Int32) (t : Tb) (fr : Int32) (to : Int64) (f : Nat → Tr) (r : Rc) : Tb := if InC n to then upP t to.toInt32.toNatClampNeg (A_pt (wdn to.toInt32 fr (t to.toInt32.toNatClampNeg).1) (t to.toInt32.toNatClampNeg) f r) else t
def A_f (c : DD) (p : Pt) : Nat → Tr := if e7 c < 19 then K_eff (e7 c) (e8 c) (e9 c) (e10 c) (e11 c) (eJ c) p.2.2.1 else p.2.2.1
def A_r (c : DD) (p : Pt) : Rc := if e7 c < 19 then K_note (e7 c) (e8 c) (e9 c) (e10 c) (eJ c) p.2.2.2 else p.2.2.2
def A_nx (n : Int32) (t : Tb) (a : Int32) (to : Int64) (g : Option (Nat → Tr)) (r : Rc) : Tb := g.elim t (fun f => A_arr n t a to f r)
def A_1 (n : Int32) (t : Tb) (a : Int32) (c : DD) (p : Pt) : Tb := if e7 c = 20 then t else if e7 c = 19 then A_nx n t a (a + e6 c).toInt64 (K_naC p.2.2.1 p.2.2.2 (e11 c ^^^ 1)) p.2.2.2 else A_arr n t a (a + e6 c).toInt64 (A_f c p) (A_r c p)
def A_2 (n : Int32) (t : Tb) (a : Int32) (c : DD) (p : Pt) : Tb := if e7 c = 20 then A_arr n t a (eJ c) p.2.2.1 p.2.2.2 else if e7 c = 19 then A_nx n t a (eJ c) (K_naC p.2.2.1 p.2.2.2 (e11 c)) p.2.2.2 else t
def A_cl (t : Tb) (i : Nat) : Tb := upP t i ((t i).1, 0, (t i).2.2)
def A_go (n : Int32) (t : Tb) (a : Int32) (c : DD) : Tb := if e7 c = -1 then A_cl t a.toNatClampNeg else if e7 c = 22 then A_cl t a.toNatClampNeg else A_2 n (A_1 n (A_cl t a.toNatClampNeg) a c (t a.toNatClampNeg)) a c (t a.toNatClampNeg)
/-- the same instruction, but for a shift's number -/
def SI (c c0 : DD) : Prop := (e7 c = -1 ∧ e7 c0 = -1) ∨ (e6 c = e6 c0 ∧ e7 c = e7 c0 ∧ e8 c = e8 c0 ∧ e9 c = e9 c0 ∧ e10 c = e10 c0 ∧ e11 c = e11 c0 ∧ (eJ c = eJ c0 ∨ (Rg 14 16 (e7 c) ∧ e10 c = -1)))
section ABS
variable {n a x : Int32} {t : Tb} {c c0 d : DD} {p : Pt} {f g : Nat → Tr} {r : Rc}
theorem r146 {x : Int32} (h : Rg 14 16 x) : x = 14 ∨ x = 15 ∨ x = 16 := by
  obtain ⟨a, b⟩ := h
  have : x.toInt = 14 ∨ x.toInt = 15 ∨ x.toInt = 16 := by omega
  rcases this with e | e | e
  · exact Or.inl (Int32.toInt_inj.mp e)
  · exact Or.inr (Or.inl (Int32.toInt_inj.mp e))
  · exact Or.inr (Or.inr (Int32.toInt_inj.mp e))
theorem note_sh {op w tg sr : Int32} {u v : Int64} (h : Rg 14 16 op) : K_note op w tg sr u r = K_note op w tg sr v r := by
  rcases r146 h with rfl | rfl | rfl <;> rfl
theorem oper_15 {t0 a b b2 : Tr} {dt : Int32} : K_operate t0 15 a b dt = K_operate t0 15 a b2 dt := by
  unfold K_operate
  simp
theorem oper_16 {t0 a b b2 : Tr} {dt : Int32} : K_operate t0 16 a b dt = K_operate t0 16 a b2 dt := by
  unfold K_operate
  simp
theorem c0_15 {tg sr dt : Int32} {a b b2 : Tr} : K_comp0 15 tg sr dt a b = K_comp0 15 tg sr dt a b2 := by
  unfold K_comp0
  rw [if_neg (fun h => by rcases h.2 with z | z <;> exact absurd z (by decide)), if_neg (fun h => absurd h.1 (by decide)), if_neg (fun h => by rcases h.2 with z | z <;> exact absurd z (by decide)), if_neg (fun h => absurd h.1 (by decide)), oper_15]
theorem c0_16 {tg sr dt : Int32} {a b b2 : Tr} : K_comp0 16 tg sr dt a b = K_comp0 16 tg sr dt a b2 := by
  unfold K_comp0
  rw [if_neg (fun h => by rcases h.2 with z | z <;> exact absurd z (by decide)), if_neg (fun h => absurd h.1 (by decide)), if_neg (fun h => by rcases h.2 with z | z <;> exact absurd z (by decide)), if_neg (fun h => absurd h.1 (by decide)), oper_16]
theorem res_sh {op w tg sr dt : Int32} {u v : Int64} (h : Rg 14 16 op) (hs : sr = -1) : K_res op w tg sr dt u f = K_res op w tg sr dt v f := by
  subst hs
  unfold K_res
  rcases r146 h with rfl | rfl | rfl
  · have e : K_second 14 (-1) dt u f = K_second 14 (-1) dt v f := by
      unfold K_second
      simp
    rw [e]
  · unfold K_comp; rw [c0_15]
  · unfold K_comp; rw [c0_16]
theorem eff_sh {op w tg sr dt : Int32} {u v : Int64} (h : Rg 14 16 op) (hs : sr = -1) : K_eff op w tg sr dt u f = K_eff op w tg sr dt v f := by unfold K_eff; rw [res_sh h hs]
theorem si_bad (h : SI c c0) : e7 c = e7 c0 := by
  rcases h with ⟨h1, h2⟩ | h
  · exact h1.trans h2.symm
  · exact h.2.1
theorem go_si (h : SI c c0) : A_go n t a c = A_go n t a c0 := by
  have e7e := si_bad h
  unfold A_go
  rw [e7e]
  by_cases b1 : e7 c0 = -1
  · rw [if_pos b1, if_pos b1]
  · rw [if_neg b1, if_neg b1]
    by_cases b2 : e7 c0 = 22
    · rw [if_pos b2, if_pos b2]
    · rw [if_neg b2, if_neg b2]
      rcases h with ⟨h1, h2⟩ | ⟨h6, h7, h8, h9, h10, h11, hJ⟩
      · exact absurd h2 b1
      · have hf : A_f c (t a.toNatClampNeg) = A_f c0 (t a.toNatClampNeg) := by
          unfold A_f
          rw [h7, h8, h9, h10, h11]
          rcases hJ with hJ | ⟨j1, j2⟩
          · rw [hJ]
          · rw [eff_sh (v := eJ c0) (h7 ▸ j1) (h10 ▸ j2)]
        have hr : A_r c (t a.toNatClampNeg) = A_r c0 (t a.toNatClampNeg) := by
          unfold A_r
          rw [h7, h8, h9, h10]
          rcases hJ with hJ | ⟨j1, j2⟩
          · rw [hJ]
          · rw [note_sh (v := eJ c0) (h7 ▸ j1)]
        have e1 : ∀ t', A_1 n t' a c (t a.toNatClampNeg) = A_1 n t' a c0 (t a.toNatClampNeg) := fun t' => by
          unfold A_1
          rw [hf, hr, h6, h7, h11]
        have e2 : ∀ t', A_2 n t' a c (t a.toNatClampNeg) = A_2 n t' a c0 (t a.toNatClampNeg) := fun t' => by
          unfold A_2
          rw [h7, h11]
          rcases hJ with hJ | ⟨j1, j2⟩
          · rw [hJ]
          · rw [h7] at j1
            rw [if_neg (fun z => by rw [z] at j1; exact absurd j1.2 (by decide)), if_neg (fun z => by rw [z] at j1; exact absurd j1.2 (by decide)), if_neg (fun z => by rw [z] at j1; exact absurd j1.2 (by decide)), if_neg (fun z => by rw [z] at j1; exact absurd j1.2 (by decide))]
        rw [e1, e2]
/-- below 24 -/
theorem a24_ld (h : A24 f g) : ldT f x = ldT g x := by
  unfold ldT
  by_cases c : Z_X9_isLocation x = 0
  · rw [if_pos c, if_pos c]
  · rw [if_neg c, if_neg c]
    refine h _ ?_
    unfold Z_X9_isLocation at c
    by_cases h1 : x < 0
    · exact absurd (if_pos h1) c
    · rw [if_neg h1] at c
      by_cases h2 : 24 ≤ x
      · exact absurd (if_pos h2) c
      · have l0 := mt Int32.lt_iff_toInt_lt.mpr h1
        have l1 := mt Int32.le_iff_toInt_le.mpr h2
        rw [show (0 : Int32).toInt = 0 from rfl] at l0
        rw [show (24 : Int32).toInt = 24 from rfl] at l1
        have e : x.toNatClampNeg = x.toInt.toNat := rfl
        omega
theorem a24_st {u : Tr} (h : A24 f g) : A24 (stT f x u) (stT g x u) := by
  intro k hk
  unfold stT
  by_cases c : Z_X9_isLocation x = 0
  · rw [if_pos c, if_pos c]; exact h k hk
  · rw [if_neg c, if_neg c]
    unfold upT
    split
    · rfl
    · exact h k hk
theorem a24_eff {op w tg sr dt : Int32} {num : Int64} (h : A24 f g) : A24 (K_eff op w tg sr dt num f) (K_eff op w tg sr dt num g) := by
  have e1 : K_second op sr dt num f = K_second op sr dt num g := by unfold K_second; rw [a24_ld h]
  have e2 : K_res op w tg sr dt num f = K_res op w tg sr dt num g := by unfold K_res; rw [e1, a24_ld h]
  unfold K_eff
  rw [e2]
  by_cases c7 : op = 7
  · rw [if_pos c7, if_pos c7]; exact h
  · rw [if_neg c7, if_neg c7]
    by_cases c8 : op = 8
    · rw [if_pos c8, if_pos c8]; exact h
    · rw [if_neg c8, if_neg c8]; exact a24_st h
/-- the narrowed sets agree, too -/
def O24 (f g : Option (Nat → Tr)) : Prop := (f = none ∧ g = none) ∨ ∃ u v, f = some u ∧ g = some v ∧ A24 u v
theorem a24_na {c : Int32} (h : A24 f g) : O24 (K_naC f r c) (K_naC g r c) := by
  have e1 : K_prs f r = K_prs g r := by unfold K_prs; rw [a24_ld h, a24_ld h]
  have e2 : K_pC f r c = K_pC g r c := by unfold K_pC; rw [e1]
  unfold K_naC
  rw [e2]
  by_cases c1 : r.1 = 0
  · rw [if_pos c1, if_pos c1]; exact Or.inr ⟨f, g, rfl, rfl, h⟩
  · rw [if_neg c1, if_neg c1]
    by_cases c2 : K_isNone (K_pC g r c).1 = 0
    · rw [if_pos c2, if_pos c2]
      by_cases c3 : K_isNone (K_pC g r c).2 = 0
      · rw [if_pos c3, if_pos c3]
        refine Or.inr ⟨_, _, rfl, rfl, ?_⟩
        unfold put2
        exact a24_st (a24_st h)
      · rw [if_neg c3, if_neg c3]; exact Or.inl ⟨rfl, rfl⟩
    · rw [if_neg c2, if_neg c2]; exact Or.inl ⟨rfl, rfl⟩
theorem a24_sy (h : A24 f g) : A24 g f := fun k hk => (h k hk).symm
end ABS
/-- one ROUND, up to the address k; the rounds -/
def A_rd (n : Int32) (I : Nat → DD) : Nat → Tb → Tb
  | 0, t => t
  | k + 1, t => if (A_rd n I k t k).2.1 = 0 then A_rd n I k t else A_go n (A_rd n I k t) (Int32.ofNat k) (I k)
def A_it (n : Int32) (I : Nat → DD) : Nat → Tb → Tb
  | 0, t => t
  | k + 1, t => A_rd n I n.toNatClampNeg (A_it n I k t)
def Idle (n : Int32) (t : Tb) : Prop := ∀ i, i < n.toNatClampNeg → (t i).2.1 = 0
/-- what looking answers -/
def Res (n : Int32) (I : Nat → DD) (t : Tb) (v : Int32) (u : Tb) : Prop := (∃ k, k ≤ 60 ∧ Idle n (A_it n I k t) ∧ (∀ j, j < k → ¬ Idle n (A_it n I j t)) ∧ v = Int32.ofNat k ∧ u = A_it n I k t) ∨ ((∀ j, j ≤ 60 → ¬ Idle n (A_it n I j t)) ∧ v = -1)
theorem res_fn {n : Int32} {I : Nat → DD} {t u1 u2 : Tb} {v1 v2 : Int32} (h1 : Res n I t v1 u1) (h2 : Res n I t v2 u2) : v1 = v2 ∧ (¬ v1 = -1 → u1 = u2) := by
  rcases h1 with ⟨k, a1, a2, a3, a4, a5⟩ | ⟨a1, a2⟩
  · rcases h2 with ⟨l, b1, b2, b3, b4, b5⟩ | ⟨b1, b2⟩
    · have : k = l := by
        rcases Nat.lt_trichotomy k l with z | z | z
        · exact absurd a2 (b3 k z)
        · exact z
        · exact absurd b2 (a3 l z)
      subst this
      exact ⟨a4.trans b4.symm, fun _ => a5.trans b5.symm⟩
    · exact absurd a2 (b1 k a1)
  · rcases h2 with ⟨l, b1, b2, b3, b4, b5⟩ | ⟨b1, b2⟩
    · exact absurd b2 (a1 l b1)
    · exact ⟨a2.trans b2.symm, fun z => absurd a2 z⟩
