section RET
variable {xi : SX} {M : MD} {pc : Nat} {L : List (Nat × Value)} {S : Hp} {k0 n0 : Nat} {P : Po}
theorem tt_ireturn {x : Int32} (h : decode (md_c M) pc = .ok (.ireturn, 1)) (ty : FieldType) (hr : md_r M = some ty) (hn : narrow ty (.int x) = .int x) (hP : P (.inl (some (.int x))) S k0 n0) : TT xi M pc L [.int x] S k0 n0 P := tt_ret (v := some (.int x)) (rest := []) ⟨h, ty, hr, hn⟩ hP
theorem tt_lreturn {x : Int64} (h : decode (md_c M) pc = .ok (.lreturn, 1)) (hr : md_r M = some .long) (hP : P (.inl (some (.long x))) S k0 n0) : TT xi M pc L [.long x] S k0 n0 P := tt_ret (v := some (.long x)) (rest := []) ⟨h, hr⟩ hP
theorem tt_vreturn (h : decode (md_c M) pc = .ok (.return_, 1)) (hr : md_r M = none) (hP : P (.inl none) S k0 n0) : TT xi M pc L [] S k0 n0 P := tt_ret (v := none) (rest := []) ⟨h, hr⟩ hP
/-- a value on top gets a name -/
theorem tt_topi {rest : List Value} {x : Int32} (k : ∀ y : Int32, y = x → TT xi M pc L (.int y :: rest) S k0 n0 P) : TT xi M pc L (.int x :: rest) S k0 n0 P := k x rfl
theorem tt_topl {rest : List Value} {x : Int64} (k : ∀ y : Int64, y = x → TT xi M pc L (.long y :: rest) S k0 n0 P) : TT xi M pc L (.long x :: rest) S k0 n0 P := k x rfl
theorem tt_heap (k : ∀ S' : Hp, S' = S → TT xi M pc L [] S' k0 n0 P) : TT xi M pc L [] S k0 n0 P := k S rfl
end RET
/-! the reference's objects: the model m, its arrays A j (j the field's number) -/
def mT : List (Nat × Nat × Nat) := [(1, 32, 200), (3, 32, 4940), (4, 33, 4940), (5, 33, 4940), (6, 33, 4940), (7, 32, 201), (8, 34, 201), (9, 32, 202), (10, 32, 202), (11, 32, 202), (12, 33, 202), (25, 33, 24), (26, 33, 24)]
def MW (S : Hp) (m : Nat) (A : Nat → Nat) : Prop := ob S 10 m ∧ (∀ q ∈ mT, hp_R S (640 + q.1) m = some (A q.1) ∧ ob S q.2.1 (A q.1) ∧ hp_N S (A q.1) = q.2.2) ∧ ∀ p ∈ mT, ∀ q ∈ mT, A p.1 = A q.1 → p.1 = q.1
section MWS
variable {S S' : Hp} {m : Nat} {A : Nat → Nat}
theorem mw_eq (h : MW S m A) (hL : hp_L S' = hp_L S) (hK : hp_K S' = hp_K S) (hR : hp_R S' = hp_R S) (hN : hp_N S' = hp_N S) : MW S' m A := by
  obtain ⟨h1, h2, h3⟩ := h
  refine ⟨by unfold ob at h1 ⊢; rw [hL, hK]; exact h1, fun q hq => ?_, h3⟩
  obtain ⟨a, b, c⟩ := h2 q hq
  exact ⟨by rw [hR]; exact a, by unfold ob at b ⊢; rw [hL, hK]; exact b, by rw [hN]; exact c⟩
theorem mw_I (h : MW S m A) {i a : Nat} {v : Int32} : MW (sp_I S i a v) m A := mw_eq h (hq_L_I ..) (hq_K_I ..) (hq_R_I ..) (hq_N_I ..)
theorem mw_J (h : MW S m A) {i a : Nat} {v : Int64} : MW (sp_J S i a v) m A := mw_eq h (hq_L_J ..) (hq_K_J ..) (hq_R_J ..) (hq_N_J ..)
theorem mw_i (h : MW S m A) {a : Nat} {f : Nat → Int32} : MW (sp_i S a f) m A := mw_eq h (hq_L_i ..) (hq_K_i ..) (hq_R_i ..) (hq_N_i ..)
theorem mw_j (h : MW S m A) {a : Nat} {f : Nat → Int64} : MW (sp_j S a f) m A := mw_eq h (hq_L_j ..) (hq_K_j ..) (hq_R_j ..) (hq_N_j ..)
theorem mw_at (h : MW S m A) (j : Nat) {kd n : Nat} (hj : (j, kd, n) ∈ mT := by decide) : hp_R S (640 + j) m = some (A j) ∧ ob S kd (A j) ∧ hp_N S (A j) = n := h.2.1 (j, kd, n) hj
theorem mr_1 (h : MW S m A) : hp_R S 641 m = some (A 1) := (h.2.1 (1, 32, 200) (by decide)).1
theorem mo_1 (h : MW S m A) : ob S 32 (A 1) := (h.2.1 (1, 32, 200) (by decide)).2.1
theorem mn_1 (h : MW S m A) : hp_N S (A 1) = 200 := (h.2.1 (1, 32, 200) (by decide)).2.2
theorem mr_3 (h : MW S m A) : hp_R S 643 m = some (A 3) := (h.2.1 (3, 32, 4940) (by decide)).1
theorem mo_3 (h : MW S m A) : ob S 32 (A 3) := (h.2.1 (3, 32, 4940) (by decide)).2.1
theorem mn_3 (h : MW S m A) : hp_N S (A 3) = 4940 := (h.2.1 (3, 32, 4940) (by decide)).2.2
theorem mr_4 (h : MW S m A) : hp_R S 644 m = some (A 4) := (h.2.1 (4, 33, 4940) (by decide)).1
theorem mo_4 (h : MW S m A) : ob S 33 (A 4) := (h.2.1 (4, 33, 4940) (by decide)).2.1
theorem mn_4 (h : MW S m A) : hp_N S (A 4) = 4940 := (h.2.1 (4, 33, 4940) (by decide)).2.2
theorem mr_5 (h : MW S m A) : hp_R S 645 m = some (A 5) := (h.2.1 (5, 33, 4940) (by decide)).1
theorem mo_5 (h : MW S m A) : ob S 33 (A 5) := (h.2.1 (5, 33, 4940) (by decide)).2.1
theorem mn_5 (h : MW S m A) : hp_N S (A 5) = 4940 := (h.2.1 (5, 33, 4940) (by decide)).2.2
theorem mr_6 (h : MW S m A) : hp_R S 646 m = some (A 6) := (h.2.1 (6, 33, 4940) (by decide)).1
theorem mo_6 (h : MW S m A) : ob S 33 (A 6) := (h.2.1 (6, 33, 4940) (by decide)).2.1
theorem mn_6 (h : MW S m A) : hp_N S (A 6) = 4940 := (h.2.1 (6, 33, 4940) (by decide)).2.2
theorem mr_7 (h : MW S m A) : hp_R S 647 m = some (A 7) := (h.2.1 (7, 32, 201) (by decide)).1
theorem mo_7 (h : MW S m A) : ob S 32 (A 7) := (h.2.1 (7, 32, 201) (by decide)).2.1
theorem mn_7 (h : MW S m A) : hp_N S (A 7) = 201 := (h.2.1 (7, 32, 201) (by decide)).2.2
theorem mr_8 (h : MW S m A) : hp_R S 648 m = some (A 8) := (h.2.1 (8, 34, 201) (by decide)).1
theorem mo_8 (h : MW S m A) : ob S 34 (A 8) := (h.2.1 (8, 34, 201) (by decide)).2.1
theorem mn_8 (h : MW S m A) : hp_N S (A 8) = 201 := (h.2.1 (8, 34, 201) (by decide)).2.2
theorem mr_9 (h : MW S m A) : hp_R S 649 m = some (A 9) := (h.2.1 (9, 32, 202) (by decide)).1
theorem mo_9 (h : MW S m A) : ob S 32 (A 9) := (h.2.1 (9, 32, 202) (by decide)).2.1
theorem mn_9 (h : MW S m A) : hp_N S (A 9) = 202 := (h.2.1 (9, 32, 202) (by decide)).2.2
theorem mr_10 (h : MW S m A) : hp_R S 650 m = some (A 10) := (h.2.1 (10, 32, 202) (by decide)).1
theorem mo_10 (h : MW S m A) : ob S 32 (A 10) := (h.2.1 (10, 32, 202) (by decide)).2.1
theorem mn_10 (h : MW S m A) : hp_N S (A 10) = 202 := (h.2.1 (10, 32, 202) (by decide)).2.2
theorem mr_11 (h : MW S m A) : hp_R S 651 m = some (A 11) := (h.2.1 (11, 32, 202) (by decide)).1
theorem mo_11 (h : MW S m A) : ob S 32 (A 11) := (h.2.1 (11, 32, 202) (by decide)).2.1
theorem mn_11 (h : MW S m A) : hp_N S (A 11) = 202 := (h.2.1 (11, 32, 202) (by decide)).2.2
theorem mr_12 (h : MW S m A) : hp_R S 652 m = some (A 12) := (h.2.1 (12, 33, 202) (by decide)).1
theorem mo_12 (h : MW S m A) : ob S 33 (A 12) := (h.2.1 (12, 33, 202) (by decide)).2.1
theorem mn_12 (h : MW S m A) : hp_N S (A 12) = 202 := (h.2.1 (12, 33, 202) (by decide)).2.2
theorem mr_25 (h : MW S m A) : hp_R S 665 m = some (A 25) := (h.2.1 (25, 33, 24) (by decide)).1
theorem mo_25 (h : MW S m A) : ob S 33 (A 25) := (h.2.1 (25, 33, 24) (by decide)).2.1
theorem mn_25 (h : MW S m A) : hp_N S (A 25) = 24 := (h.2.1 (25, 33, 24) (by decide)).2.2
theorem mr_26 (h : MW S m A) : hp_R S 666 m = some (A 26) := (h.2.1 (26, 33, 24) (by decide)).1
theorem mo_26 (h : MW S m A) : ob S 33 (A 26) := (h.2.1 (26, 33, 24) (by decide)).2.1
theorem mn_26 (h : MW S m A) : hp_N S (A 26) = 24 := (h.2.1 (26, 33, 24) (by decide)).2.2
theorem mw_ne (h : MW S m A) {i j : Nat} {a b c d : Nat} (hne : i ≠ j) (hi : (i, a, b) ∈ mT := by decide) (hj : (j, c, d) ∈ mT := by decide) : A i ≠ A j := fun q => hne (h.2.2 (i, a, b) hi (j, c, d) hj q)
end MWS
/-- a place of an array is another one -/
def st_i (S : Hp) (a k : Nat) (x : Int32) : Hp := sp_i S a (upd (hp_i S a) k x)
def st_j (S : Hp) (a k : Nat) (x : Int64) : Hp := sp_j S a (vp_updL (hp_j S a) k x)
section ARR
variable {xi : SX} {M : MD} {pc : Nat} {L : List (Nat × Value)} {rest : List Value} {S : Hp} {k0 n0 a k N : Nat} {P : Po}
theorem tt_iaL (h : decode (md_c M) pc = .ok (.iaload, 1)) (ho : ob S 32 a) (hN : hp_N S a = N) (hk : k < N) (hb : N < 2 ^ 31) (kk : TT xi M (pc + 1) L (.int (hp_i S a k) :: rest) S k0 n0 P) : TT xi M pc L (.int (nI k) :: .ref a :: rest) S k0 n0 P :=
  tt_iaload h ho (by rw [hN]; exact vp_in_nI hk hb) (by rw [nI_clamp (Nat.lt_trans hk hb)]; exact kk)
theorem tt_zaL (h : decode (md_c M) pc = .ok (.baload, 1)) (ho : ob S 34 a) (hN : hp_N S a = N) (hk : k < N) (hb : N < 2 ^ 31) (kk : TT xi M (pc + 1) L (.int (hp_i S a k) :: rest) S k0 n0 P) : TT xi M pc L (.int (nI k) :: .ref a :: rest) S k0 n0 P :=
  tt_zaload h ho (by rw [hN]; exact vp_in_nI hk hb) (by rw [nI_clamp (Nat.lt_trans hk hb)]; exact kk)
theorem tt_laL (h : decode (md_c M) pc = .ok (.laload, 1)) (ho : ob S 33 a) (hN : hp_N S a = N) (hk : k < N) (hb : N < 2 ^ 31) (kk : TT xi M (pc + 1) L (.long (hp_j S a k) :: rest) S k0 n0 P) : TT xi M pc L (.int (nI k) :: .ref a :: rest) S k0 n0 P :=
  tt_laload h ho (by rw [hN]; exact vp_in_nI hk hb) (by rw [nI_clamp (Nat.lt_trans hk hb)]; exact kk)
theorem tt_iaS {x : Int32} (h : decode (md_c M) pc = .ok (.iastore, 1)) (ho : ob S 32 a) (hN : hp_N S a = N) (hk : k < N) (hb : N < 2 ^ 31) (kk : TT xi M (pc + 1) L rest (st_i S a k x) k0 n0 P) : TT xi M pc L (.int x :: .int (nI k) :: .ref a :: rest) S k0 n0 P :=
  tt_iastore h ho (by rw [hN]; exact vp_in_nI hk hb) (by rw [nI_clamp (Nat.lt_trans hk hb)]; exact kk)
theorem tt_zaS {x : Int32} (h : decode (md_c M) pc = .ok (.bastore, 1)) (ho : ob S 34 a) (hN : hp_N S a = N) (hk : k < N) (hb : N < 2 ^ 31) (hx : vp_nar .boolean x = x) (kk : TT xi M (pc + 1) L rest (st_i S a k x) k0 n0 P) : TT xi M pc L (.int x :: .int (nI k) :: .ref a :: rest) S k0 n0 P :=
  tt_zastore h ho (by rw [hN]; exact vp_in_nI hk hb) (by rw [nI_clamp (Nat.lt_trans hk hb), hx]; exact kk)
theorem tt_laS {x : Int64} (h : decode (md_c M) pc = .ok (.lastore, 1)) (ho : ob S 33 a) (hN : hp_N S a = N) (hk : k < N) (hb : N < 2 ^ 31) (kk : TT xi M (pc + 1) L rest (st_j S a k x) k0 n0 P) : TT xi M pc L (.long x :: .int (nI k) :: .ref a :: rest) S k0 n0 P :=
  tt_lastore h ho (by rw [hN]; exact vp_in_nI hk hb) (by rw [nI_clamp (Nat.lt_trans hk hb)]; exact kk)
theorem tt_getA {i cn j id b : Nat} {ty : FieldType} {fin ns : Bool} (h : decode (md_c M) pc = .ok (.getfield i, 3)) (hf : FL (md_y M).cls i cn j ty fin ns) (hk : fk cn j = 2) (hid : cn * 64 + j = id) (ho : ob S cn a) (hR : hp_R S id a = some b) (kk : TT xi M (pc + 3) L (.ref b :: rest) S k0 n0 P) : TT xi M pc L (.ref a :: rest) S k0 n0 P :=
  tt_getR h hf hk hid ho (by rw [hR]; exact kk)
end ARR
section ACC
variable {S : Hp} {m a b k j : Nat} {A : Nat → Nat} {x : Int32} {y : Int64}
theorem mw_si (h : MW S m A) : MW (st_i S a k x) m A := mw_i h
theorem mw_sj (h : MW S m A) : MW (st_j S a k y) m A := mw_j h
theorem hi_si : hp_i (st_i S a k x) b j = if b = a ∧ j = k then x else hp_i S b j := by
  unfold st_i
  rw [hq_i_i]
  by_cases hb : b = a
  · subst hb
    simp [va_up, upd]
  · simp [va_up, hb]
theorem hi_sj : hp_i (st_j S a k y) = hp_i S := by unfold st_j; exact hq_i_j ..
theorem hj_si : hp_j (st_i S a k x) = hp_j S := by unfold st_i; exact hq_j_i ..
theorem hj_sj : hp_j (st_j S a k y) b j = if b = a ∧ j = k then y else hp_j S b j := by
  unfold st_j
  rw [hq_j_j]
  by_cases hb : b = a
  · subst hb
    simp [va_up, vp_updL]
  · simp [va_up, hb]
theorem hI_si : hp_I (st_i S a k x) = hp_I S := by unfold st_i; exact hq_I_i ..
theorem hI_sj : hp_I (st_j S a k y) = hp_I S := by unfold st_j; exact hq_I_j ..
theorem hJ_si : hp_J (st_i S a k x) = hp_J S := by unfold st_i; exact hq_J_i ..
theorem hJ_sj : hp_J (st_j S a k y) = hp_J S := by unfold st_j; exact hq_J_j ..
end ACC
/-- a boolean as an int -/
def bI (p : Prop) [Decidable p] : Int32 := if p then 1 else 0
section BI
theorem bI_t {p : Prop} [Decidable p] (h : p) : bI p = 1 := if_pos h
theorem bI_f {p : Prop} [Decidable p] (h : ¬ p) : bI p = 0 := if_neg h
theorem bI_eq0 {p : Prop} [Decidable p] : (bI p = 0) = ¬ p := by
  by_cases h : p
  · simp [bI, h]
  · simp [bI, h]
theorem bI_T {p : Prop} [Decidable p] (h : ¬ bI p = 0) : p = True := eq_true (by rw [bI_eq0] at h; exact Classical.not_not.mp h)
theorem bI_F {p : Prop} [Decidable p] (h : bI p = 0) : p = False := eq_false (by rw [bI_eq0] at h; exact h)
theorem bI_nar {p : Prop} [Decidable p] : narrow .boolean (.int (bI p)) = .int (bI p) := by
  by_cases h : p
  · rw [bI_t h]; rfl
  · rw [bI_f h]; rfl
theorem bI_fit {p : Prop} [Decidable p] : fits .boolean (.int (bI p)) = true := by
  by_cases h : p
  · rw [bI_t h]; rfl
  · rw [bI_f h]; rfl
end BI
section CALLS
variable {xi : SX} {M N : MD} {pc i b cn k1 n1 k2 n2 k0 n0 : Nat} {L : List (Nat × Value)} {rest As : List Value} {S S1 : Hp} {P : Po} {v : Option Value}
/-- calls of methods whose end is known -/
theorem tt_cV (h : decode (md_c M) pc = .ok (.invokevirtual i, 3)) (hcv : CV (md_y M).cls i N As.length) (hrm : RM M N) (ho : ob S cn b) (hcn : (vwCl[cn]?).map (fun r => r.1) = some (md_y N).cls) (hlen : (lg_sl (.ref b :: As)).length ≤ md_L N) (hr8 : (rest.map fun v => v.category).sum ≤ 8) (hk : k1 + k2 ≤ k0) (hn : n1 + n2 ≤ n0)
    (kx : ∀ Q : Po, Q (.inl v) S1 k1 n1 → TT xi N 0 (lv_args 0 (.ref b :: As)) [] S k1 n1 Q) (kk : TT xi M (pc + 3) L (v.toList ++ rest) S1 (k2 + k1) (n2 + n1) P) : TT xi M pc L (As.reverse ++ .ref b :: rest) S k0 n0 P :=
  tt_callV (Mid := fun r T x y => r = .inl v ∧ T = S1 ∧ x = k1 ∧ y = n1) h hcv hrm ho hcn hlen hr8 hk hn (kx _ ⟨rfl, rfl, rfl, rfl⟩) (fun w T x y hw => by obtain ⟨h1, h2, h3, h4⟩ := hw; cases h1; subst h2; subst h3; subst h4; exact kk) (fun E T hw => by obtain ⟨h1, -⟩ := hw; cases h1)
theorem tt_cS (h : decode (md_c M) pc = .ok (.invokestatic i, 3)) (hcv : CT (md_y M).cls i N As.length) (hrm : RM M N) (hlen : (lg_sl As).length ≤ md_L N) (hr8 : (rest.map fun v => v.category).sum ≤ 8) (hk : k1 + k2 ≤ k0) (hn : n1 + n2 ≤ n0)
    (kx : ∀ Q : Po, Q (.inl v) S1 k1 n1 → TT xi N 0 (lv_args 0 As) [] S k1 n1 Q) (kk : TT xi M (pc + 3) L (v.toList ++ rest) S1 (k2 + k1) (n2 + n1) P) : TT xi M pc L (As.reverse ++ rest) S k0 n0 P :=
  tt_callS (Mid := fun r T x y => r = .inl v ∧ T = S1 ∧ x = k1 ∧ y = n1) h hcv hrm hlen hr8 hk hn (kx _ ⟨rfl, rfl, rfl, rfl⟩) (fun w T x y hw => by obtain ⟨h1, h2, h3, h4⟩ := hw; cases h1; subst h2; subst h3; subst h4; exact kk) (fun E T hw => by obtain ⟨h1, -⟩ := hw; cases h1)
end CALLS
theorem pos_ne {y : Int64} (h : 0 < y) : ¬ y = 0 := fun e => by subst e; exact absurd h (by decide)
