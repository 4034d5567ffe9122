/-! making objects: what a constructor leaves as it was -/
/-- all that was there is as it was -/
def Cj (S T : Hp) : Prop := (∀ a ∈ hp_L S, hp_N S a = 24 → hp_j T a = hp_j S a) ∧ NF S T
/-- long fields and the reference's arrays of what was there stay; what is held once stays so -/
def Nu (S T : Hp) : Prop := ∀ q ∈ hp_L T, ∀ k ∈ uqT, hp_K T q = k / 64 → ∀ b ∈ hp_L S, hp_R T k q = some b → q ∈ hp_L S ∧ hp_R S k q = some b
def Ck (S T : Hp) : Prop := Ak [] S T ∧ (UQ S → UQ T) ∧ Nu S T
theorem nu_eq {S T U : Hp} (h : Nu S T) (hL : hp_L U = hp_L T) (hK : ∀ a ∈ hp_L T, hp_K U a = hp_K T a) (hR : ∀ a ∈ hp_L T, ∀ k, hp_R U k a = hp_R T k a) : Nu S U := fun q hq k hk e b hb eb => by
  rw [hL] at hq
  exact h q hq k hk ((hK q hq).symm.trans e) b hb ((hR q hq k).symm.trans eb)
theorem nu_rf {S : Hp} : Nu S S := fun _ hq _ _ _ _ _ eb => ⟨hq, eb⟩
theorem nu_af {S T : Hp} {E ws : List Nat} (h2 : Af E ws S T) (hw : 9999 ∉ ws := by decide) : Nu S T := nu_eq nu_rf (h2.2.2.2.1 hw).1 (fun a ha => (h2.1 a ha).2.1) h2.2.1
theorem nu_tr {S T U : Hp} (h1 : ∀ a ∈ hp_L S, a ∈ hp_L T ∧ hp_K T a = hp_K S a ∧ hp_N T a = hp_N S a) (k1 : ∀ a ∈ hp_L T, a ∈ hp_L U ∧ hp_K U a = hp_K T a ∧ hp_N U a = hp_N T a) (hA : Nu S T) (hB : Nu T U) : Nu S U := fun q hq k hk e b hb eb => by
  obtain ⟨z1, z2⟩ := hB q hq k hk e b (h1 b hb).1 eb
  exact hA q z1 k hk ((k1 q z1).2.1.symm.trans e) b hb z2
theorem ck_rf {S : Hp} : Ck S S := ⟨ak_L rfl rfl rfl, id, nu_rf⟩
theorem ck_tr {S T U : Hp} (h1 : ∀ a ∈ hp_L S, a ∈ hp_L T ∧ hp_K T a = hp_K S a ∧ hp_N T a = hp_N S a) (k1 : ∀ a ∈ hp_L T, a ∈ hp_L U ∧ hp_K U a = hp_K T a ∧ hp_N U a = hp_N T a) (hA : Ck S T) (hB : Ck T U) : Ck S U := ⟨ak_tr h1 hA.1 hB.1 (fun _ h => h), fun h => hB.2.1 (hA.2.1 h), nu_tr h1 k1 hA.2.2 hB.2.2⟩
def NO (o : Nat) (S T : Hp) : Prop := ∀ r ∈ owT, ∀ b, hp_R T r.1 o = some b → b ∉ hp_L S ∨ hp_R S r.1 o = some b
def Cn (S T : Hp) : Prop := (∀ a ∈ hp_L S, a ∈ hp_L T ∧ hp_K T a = hp_K S a ∧ hp_N T a = hp_N S a) ∧ (∀ a ∈ hp_L S, (∀ k, hp_R T k a = hp_R S k a) ∧ ∀ k, hp_I T k a = hp_I S k a) ∧ (∀ a ∈ hp_L S, hp_r T a = hp_r S a) ∧ (∀ a ∈ hp_L S, hp_N S a = 200 → hp_i T a = hp_i S a) ∧ Cj S T ∧ Ck S T
/-- the same but for the object o -/
def Cf (o : Nat) (S T : Hp) : Prop := (∀ a ∈ hp_L S, a ∈ hp_L T ∧ hp_K T a = hp_K S a ∧ hp_N T a = hp_N S a) ∧ (∀ a ∈ hp_L S, a ≠ o → (∀ k, hp_R T k a = hp_R S k a) ∧ ∀ k, hp_I T k a = hp_I S k a) ∧ (∀ a ∈ hp_L S, hp_r T a = hp_r S a) ∧ (∀ a ∈ hp_L S, hp_N S a = 200 → hp_i T a = hp_i S a) ∧ Cj S T ∧ NO o S T ∧ Ck S T
def Fk (S : Hp) (E : List Nat) (o k kd n b : Nat) : Prop := hp_R S k o = some b ∧ Oa S E kd n b
def Zf (S : Hp) (o : Nat) (ws : List Nat) : Prop := ∀ k, k ∉ ws → hp_I S k o = 0
section CFS
variable {S T U : Hp} {E ws : List Nat} {o a b k kd n j c : Nat} {v : Int32} {x : Option Nat}
theorem cj_tr (h1 : ∀ a ∈ hp_L S, a ∈ hp_L T ∧ hp_K T a = hp_K S a ∧ hp_N T a = hp_N S a) (k1 : ∀ a ∈ hp_L T, a ∈ hp_L U ∧ hp_K U a = hp_K T a ∧ hp_N U a = hp_N T a) (k2 : ∀ a ∈ hp_L T, ∀ k, hp_R U k a = hp_R T k a) (hA : Cj S T) (hB : Cj T U) : Cj S U := by
  refine ⟨fun a ha hn => (hB.1 a (h1 a ha).1 ((h1 a ha).2.2.trans hn)).trans (hA.1 a ha hn), fun q hq hqn r hr hk a e ha => ?_⟩
  by_cases hT : q ∈ hp_L T
  · exact hA.2 q hT hqn r hr ((k1 q hT).2.1.symm.trans hk) a ((k2 q hT r.1).symm.trans e) ha
  · exact hB.2 q hq hT r hr hk a e (h1 a ha).1
theorem uq_no (h : k ∉ uqT) : k ∈ uqT → ∀ b, x = some b → b ∉ hp_L S ∧ (UQ S → NH T b) := fun q => absurd q h
theorem ow_no (h : ∀ r ∈ owT, ¬ r.1 = k) {l : List Nat} : ∀ r ∈ owT, r.1 = k → ∀ b, x = some b → b ∉ l := fun r hr e => absurd e (h r hr)
theorem cf_rf : Cf o S S := ⟨fun _ h => ⟨h, rfl, rfl⟩, fun _ _ _ => ⟨fun _ => rfl, fun _ => rfl⟩, fun _ _ => rfl, fun _ _ _ => rfl, ⟨fun _ _ _ => rfl, nf_L rfl⟩, fun _ _ _ e => Or.inr e, ck_rf⟩
theorem cf_cn (h : Cf o S T) (h2 : Cn T U) (ho : o ∈ hp_L S) : Cf o S U := by
  refine ⟨fun a ha => ?_, fun a ha hn => ⟨fun k => ?_, fun k => ?_⟩, fun a ha => ?_, fun a ha q => ?_, cj_tr h.1 h2.1 (fun a ha => (h2.2.1 a ha).1) h.2.2.2.2.1 h2.2.2.2.2.1, fun r hr b e => h.2.2.2.2.2.1 r hr b (((h2.2.1 o (h.1 o ho).1).1 r.1).symm.trans e), ck_tr h.1 h2.1 h.2.2.2.2.2.2 h2.2.2.2.2.2⟩
  · obtain ⟨b1, b2, b3⟩ := h.1 a ha
    obtain ⟨c1, c2, c3⟩ := h2.1 a b1
    exact ⟨c1, c2.trans b2, c3.trans b3⟩
  · exact ((h2.2.1 a (h.1 a ha).1).1 k).trans ((h.2.1 a ha hn).1 k)
  · exact ((h2.2.1 a (h.1 a ha).1).2 k).trans ((h.2.1 a ha hn).2 k)
  · exact (h2.2.2.1 a (h.1 a ha).1).trans (h.2.2.1 a ha)
  · exact (h2.2.2.2.1 a (h.1 a ha).1 ((h.1 a ha).2.2.trans q)).trans (h.2.2.2.1 a ha q)
theorem cf_R (h : Cf o S T) (ho : o ∈ hp_L S) (hx : ∀ r ∈ owT, r.1 = k → ∀ b, x = some b → b ∉ hp_L S) (hxl : ∀ b, x = some b → b ∈ hp_L T) (hxn : x ≠ none) (hxu : k ∈ uqT → ∀ b, x = some b → b ∉ hp_L S ∧ (UQ S → NH T b)) : Cf o S (sp_R T k o x) := by
  refine ⟨fun a ha => by rw [hq_L_R, hq_K_R, hq_N_R]; exact h.1 a ha, fun a ha hn => ⟨fun i => ?_, fun i => by rw [hq_I_R]; exact (h.2.1 a ha hn).2 i⟩, fun a ha => by rw [hq_r_R]; exact h.2.2.1 a ha, fun a ha q => by rw [hq_i_R]; exact h.2.2.2.1 a ha q, ⟨fun a ha q => by rw [hq_j_R]; exact h.2.2.2.2.1.1 a ha q, fun q hq hn r hr hk b e => ?_⟩, fun r hr b e => ?_, ak_tr h.1 h.2.2.2.2.2.2.1 (ak_L (hq_J_R ..) (hq_i_R ..) (hq_j_R ..)) (fun _ h => h), fun hU => ?_, fun q hq j hj e b hb eb => ?_⟩
  · rw [hq_R_R, up_2]
    split
    · rw [va_up_ne _ _ hn]; exact (h.2.1 a ha hn).1 i
    · exact (h.2.1 a ha hn).1 i
  · rw [hq_L_R] at hq
    rw [hq_K_R] at hk
    have hqo : q ≠ o := fun e => hn (e ▸ ho)
    have e2 : hp_R T r.1 q = some b := by
      rw [hq_R_R, up_2] at e
      split at e
      · rw [va_up_ne _ _ hqo] at e; exact e
      · exact e
    exact h.2.2.2.2.1.2 q hq hn r hr hk b e2
  · rw [hq_R_R, up_2] at e
    split at e
    next ek => rw [va_up_self] at e; exact Or.inl (hx r hr ek b e)
    next => exact h.2.2.2.2.2.1 r hr b e
  · cases hx9 : x with
    | none => exact absurd hx9 hxn
    | some b => exact uq_R (h.2.2.2.2.2.2.2.1 hU) (hxl b hx9) (fun hk => (hxu hk b hx9).2 hU)
  · rw [hq_L_R] at hq
    rw [hq_K_R] at e
    rw [hq_R_R, up_2] at eb
    split at eb
    next ej =>
      unfold va_up at eb
      split at eb
      next => exact absurd hb (hxu (ej ▸ hj) b eb).1
      next => exact h.2.2.2.2.2.2.2.2 q hq j hj e b hb eb
    next => exact h.2.2.2.2.2.2.2.2 q hq j hj e b hb eb
theorem cf_I (h : Cf o S T) : Cf o S (sp_I T k o v) := by
  refine ⟨fun a ha => by rw [hq_L_I, hq_K_I, hq_N_I]; exact h.1 a ha, fun a ha hn => ⟨fun i => by rw [hq_R_I]; exact (h.2.1 a ha hn).1 i, fun i => ?_⟩, fun a ha => by rw [hq_r_I]; exact h.2.2.1 a ha, fun a ha q => by rw [hq_i_I]; exact h.2.2.2.1 a ha q, ⟨fun a ha q => by rw [hq_j_I]; exact h.2.2.2.2.1.1 a ha q, fun q hq hn r hr hk b e => ?_⟩, fun r hr b e => ?_, ak_tr h.1 h.2.2.2.2.2.2.1 (ak_L (hq_J_I ..) (hq_i_I ..) (hq_j_I ..)) (fun _ h => h), fun hU => uq_eq (h.2.2.2.2.2.2.2.1 hU) (hq_L_I ..) (fun _ _ => by rw [hq_K_I]) (fun _ _ _ => by rw [hq_R_I]), nu_eq h.2.2.2.2.2.2.2.2 (hq_L_I ..) (fun _ _ => by rw [hq_K_I]) (fun _ _ _ => by rw [hq_R_I])⟩
  · rw [hq_I_I, up_2]
    split
    · rw [va_up_ne _ _ hn]; exact (h.2.1 a ha hn).2 i
    · exact (h.2.1 a ha hn).2 i
  · rw [hq_L_I] at hq; rw [hq_K_I] at hk; rw [hq_R_I] at e
    exact h.2.2.2.2.1.2 q hq hn r hr hk b e
  · rw [hq_R_I] at e; exact h.2.2.2.2.2.1 r hr b e
theorem cnq_af (h2 : Af E [] S T) : Cn S T := ⟨fun a ha => h2.1 a ha, fun a ha => ⟨fun k => h2.2.1 a ha k, fun k => h2.2.2.1 k (by simp) a ha⟩, fun a ha => by rw [(h2.2.2.2.1 (by simp)).2], fun a ha q => h2.2.2.2.2.2.2.2.1 (by simp) a ha q, ⟨fun a ha q => ((aj_af h2).1 a ha q).elim id (fun z => by obtain ⟨r, -, hw, -⟩ := z; cases hw), (aj_af h2).2⟩, ak_af h2, fun hU => uq_af hU h2 (by simp), nu_af h2 (by simp)⟩
theorem cf_af (h : Cf o S T) (h2 : Af E [] T U) (ho : o ∈ hp_L S) : Cf o S U := cf_cn h (cnq_af h2) ho
theorem ak_w (h : Ak [9994] S T) : Ak [] S T := ⟨fun _ => h.1 (by decide), fun _ => h.2.1 (by decide), fun _ => h.2.2 (by decide)⟩
/-- the reference fills the array b, which is new -/
theorem cf_x10 (h : Cf o S T) (h2 : Af E [9989] T U) (ho : o ∈ hp_L S) (hj : hp_j U = hp_j T) (hi : ∀ a, a ≠ b → hp_i U a = hp_i T a) (hI9 : hp_I U = hp_I T) (hb : b ∉ hp_L S) : Cf o S U := by
  refine ⟨fun a ha => ?_, fun a ha hn => ⟨fun k => (h2.2.1 a (h.1 a ha).1 k).trans ((h.2.1 a ha hn).1 k), fun k => ?_⟩, fun a ha => ?_, fun a ha q => ?_, ⟨fun a ha q => ?_, fun q hq hn r hr hk c e => ?_⟩, fun r hr c e => h.2.2.2.2.2.1 r hr c ((h2.2.1 o (h.1 o ho).1 r.1).symm.trans e), ⟨⟨fun _ k hk a ha => ?_, fun _ a ha q => ?_, fun _ a ha q => ?_⟩, fun hU => uq_af (h.2.2.2.2.2.2.2.1 hU) h2 (by simp), nu_tr h.1 h2.1 h.2.2.2.2.2.2.2.2 (nu_af h2 (by simp))⟩⟩
  · obtain ⟨b1, b2, b3⟩ := h.1 a ha
    obtain ⟨c1, c2, c3⟩ := h2.1 a b1
    exact ⟨c1, c2.trans b2, c3.trans b3⟩
  · rw [hI9]; exact (h.2.1 a ha hn).2 k
  · rw [(h2.2.2.2.1 (by simp)).2]; exact h.2.2.1 a ha
  · exact (h2.2.2.2.2.2.2.2.1 (by simp) a (h.1 a ha).1 ((h.1 a ha).2.2.trans q)).trans (h.2.2.2.1 a ha q)
  · rw [hj]; exact h.2.2.2.2.1.1 a ha q
  · rw [(h2.2.2.2.1 (by simp)).1] at hq
    exact h.2.2.2.2.1.2 q hq hn r hr ((h2.1 q hq).2.1.symm.trans hk) c ((h2.2.1 q hq r.1).symm.trans e)
  · exact ((ak_af h2).1 (by decide) k hk a (h.1 a ha).1).trans (h.2.2.2.2.2.2.1.1 (by decide) k hk a ha)
  · obtain ⟨z1, z2⟩ := h.2.2.2.2.2.2.1.2.1 (by decide) a ha q
    exact ⟨(hi a (fun e => hb (e ▸ ha))).trans z1, by rw [hj]; exact z2⟩
  · obtain ⟨z1, z2⟩ := h.2.2.2.2.2.2.1.2.2 (by decide) a ha q
    exact ⟨(hi a (fun e => hb (e ▸ ha))).trans z1, by rw [hj]; exact z2⟩
/-- a State fills the array b, which is new -/
theorem cf_x8 (h : Cf o S T) (h2 : Af E [9994] T U) (ho : o ∈ hp_L S) (hI : hp_I U = hp_I T) (hj : ∀ a, a ≠ b → hp_j U a = hp_j T a) (hb : b ∉ hp_L S) : Cf o S U := by
  refine ⟨fun a ha => ?_, fun a ha hn => ⟨fun k => (h2.2.1 a (h.1 a ha).1 k).trans ((h.2.1 a ha hn).1 k), fun k => ?_⟩, fun a ha => ?_, fun a ha q => ?_, ⟨fun a ha q => ?_, fun q hq hn r hr hk c e => ?_⟩, fun r hr c e => h.2.2.2.2.2.1 r hr c ((h2.2.1 o (h.1 o ho).1 r.1).symm.trans e), ⟨ak_tr h.1 h.2.2.2.2.2.2.1 (ak_w (ak_af h2)) (fun _ h => h), fun hU => uq_af (h.2.2.2.2.2.2.2.1 hU) h2 (by simp), nu_tr h.1 h2.1 h.2.2.2.2.2.2.2.2 (nu_af h2 (by simp))⟩⟩
  · obtain ⟨b1, b2, b3⟩ := h.1 a ha
    obtain ⟨c1, c2, c3⟩ := h2.1 a b1
    exact ⟨c1, c2.trans b2, c3.trans b3⟩
  · rw [hI]; exact (h.2.1 a ha hn).2 k
  · rw [(h2.2.2.2.1 (by simp)).2]; exact h.2.2.1 a ha
  · exact (h2.2.2.2.2.2.2.2.1 (by simp) a (h.1 a ha).1 ((h.1 a ha).2.2.trans q)).trans (h.2.2.2.1 a ha q)
  · exact (hj a (fun e => hb (e ▸ ha))).trans (h.2.2.2.2.1.1 a ha q)
  · rw [(h2.2.2.2.1 (by simp)).1] at hq
    exact h.2.2.2.2.1.2 q hq hn r hr ((h2.1 q hq).2.1.symm.trans hk) c ((h2.2.1 q hq r.1).symm.trans e)
theorem cn_a (ha : a ∉ hp_L S) (hkd : 32 ≤ kd := by decide) : Cn S (nw_a S kd a n) := by
  have hn : ∀ b ∈ hp_L S, b ≠ a := fun b hb e => ha (e ▸ hb)
  refine ⟨fun b hb => ⟨?_, ?_, ?_⟩, fun b hb => ⟨fun k => by rw [hq_R_a], fun k => by rw [hq_I_a]⟩, fun b hb => ?_, fun b hb _ => by rw [hq_i_a, va_up_ne _ _ (hn b hb)], ⟨fun b hb _ => by rw [hq_j_a, va_up_ne _ _ (hn b hb)], fun q hq hqn r hr hk b e => ?_⟩, ⟨fun _ _ _ _ _ => by rw [hq_J_a], fun _ b hb _ => ⟨by rw [hq_i_a, va_up_ne _ _ (hn b hb)], by rw [hq_j_a, va_up_ne _ _ (hn b hb)]⟩, fun _ b hb _ => ⟨by rw [hq_i_a, va_up_ne _ _ (hn b hb)], by rw [hq_j_a, va_up_ne _ _ (hn b hb)]⟩⟩, fun hU => uq_a hU ha hkd, fun q hq k hk e b hb eb => by
    rw [hq_L_a] at hq
    rw [hq_R_a] at eb
    rcases List.mem_append.mp hq with z | z
    · exact ⟨z, eb⟩
    · rw [List.mem_singleton.mp z, hq_K_a, va_up_self] at e
      exact absurd ((show ∀ k ∈ uqT, k / 64 < 32 by decide) k hk) (by omega)⟩
  · rw [hq_L_a]; exact List.mem_append_left _ hb
  · rw [hq_K_a, va_up_ne _ _ (hn b hb)]
  · rw [hq_N_a, va_up_ne _ _ (hn b hb)]
  · rw [hq_r_a, va_up_ne _ _ (hn b hb)]
  · rw [hq_L_a] at hq
    rcases List.mem_append.mp hq with z | z
    · exact absurd z hqn
    · have e2 := List.mem_singleton.mp z
      subst e2
      rw [hq_K_a, va_up_self] at hk
      exact absurd ((show ∀ r ∈ owT, r.1 / 64 < 32 by decide) r hr) (by omega)
theorem cn_o (ha : a ∉ hp_L S) : Cn S (nw_o S c a) := by
  have hn : ∀ b ∈ hp_L S, b ≠ a := fun b hb e => ha (e ▸ hb)
  refine ⟨fun b hb => ⟨?_, ?_, ?_⟩, fun b hb => ⟨fun k => ?_, fun k => ?_⟩, fun b hb => by rw [hq_r_o], fun b hb _ => by rw [hq_i_o], ⟨fun b hb _ => by rw [hq_j_o], fun q hq hqn r hr hk b e => ?_⟩, ⟨fun _ k _ b hb => by rw [hq_J_o, cr_2, if_neg (hn b hb)], fun _ b hb _ => ⟨by rw [hq_i_o], by rw [hq_j_o]⟩, fun _ b hb _ => ⟨by rw [hq_i_o], by rw [hq_j_o]⟩⟩, fun hU => uq_o hU ha, fun q hq k hk e b hb eb => by
    rw [hq_R_o, cr_2] at eb
    by_cases z : q = a
    · rw [if_pos z] at eb; cases eb
    · rw [if_neg z] at eb
      rw [hq_L_o] at hq
      rcases List.mem_append.mp hq with y | y
      · exact ⟨y, eb⟩
      · exact absurd (List.mem_singleton.mp y) z⟩
  · rw [hq_L_o]; exact List.mem_append_left _ hb
  · rw [hq_K_o, va_up_ne _ _ (hn b hb)]
  · rw [hq_N_o]
  · rw [hq_R_o, cr_2, if_neg (hn b hb)]
  · rw [hq_I_o, cr_2, if_neg (hn b hb)]
  · rw [hq_L_o] at hq
    rcases List.mem_append.mp hq with z | z
    · exact absurd z hqn
    · have e2 := List.mem_singleton.mp z
      subst e2
      rw [hq_R_o, cr_2, if_pos rfl] at e
      cases e
theorem cn_new (ha : a ∉ hp_L S) (h : Cf a (nw_o S c a) T) : Cn S T := by
  have h0 := cn_o (c := c) ha
  have hn : ∀ b ∈ hp_L S, b ≠ a := fun b hb e => ha (e ▸ hb)
  refine ⟨fun b hb => ?_, fun b hb => ?_, fun b hb => ?_, fun b hb q => ?_, ⟨fun b hb q => ?_, fun q hq hqn r hr hk b e hb => ?_⟩, ck_tr h0.1 h.1 h0.2.2.2.2.2 h.2.2.2.2.2.2⟩
  · obtain ⟨b1, b2, b3⟩ := h0.1 b hb
    obtain ⟨c1, c2, c3⟩ := h.1 b b1
    exact ⟨c1, c2.trans b2, c3.trans b3⟩
  · obtain ⟨q1, q2⟩ := h.2.1 b (h0.1 b hb).1 (hn b hb)
    obtain ⟨r1, r2⟩ := h0.2.1 b hb
    exact ⟨fun k => (q1 k).trans (r1 k), fun k => (q2 k).trans (r2 k)⟩
  · exact (h.2.2.1 b (h0.1 b hb).1).trans (h0.2.2.1 b hb)
  · exact (h.2.2.2.1 b (h0.1 b hb).1 ((h0.1 b hb).2.2.trans q)).trans (h0.2.2.2.1 b hb q)
  · exact (h.2.2.2.2.1.1 b (h0.1 b hb).1 ((h0.1 b hb).2.2.trans q)).trans (h0.2.2.2.2.1.1 b hb q)
  · by_cases ea : q = a
    · subst ea
      rcases h.2.2.2.2.2.1 r hr b e with z | z
      · exact z (h0.1 b hb).1
      · rw [hq_R_o, cr_2, if_pos rfl] at z
        cases z
    · exact h.2.2.2.2.1.2 q hq (fun z => by
        rw [hq_L_o] at z
        rcases List.mem_append.mp z with z | z
        · exact hqn z
        · exact ea (List.mem_singleton.mp z)) r hr hk b e (h0.1 b hb).1
theorem nh_new (hU : UQ S) (ha : a ∉ hp_L S) (h : Cf a (nw_o S c a) T) : NH T a := fun q hq k hk e eb => by
  have z := h.2.2.2.2.2.2.2.2 q hq k hk e a (by rw [hq_L_o]; exact List.mem_append_right _ (List.mem_singleton.mpr rfl)) eb
  exact nh_o (c := c) hU ha q z.1 k hk ((h.1 q z.1).2.1.symm.trans e) z.2
theorem oa_cn (h : Oa S E kd n b) (h2 : Cn S T) : Oa T E kd n b := by
  obtain ⟨h1, h3, h4, h5⟩ := h
  obtain ⟨a1, a2, a3⟩ := h2.1 b h1
  exact ⟨a1, h3, a2.trans h4, fun q => a3.trans (h5 q)⟩
theorem oa_R (h : Oa S E kd n b) : Oa (sp_R S k o x) E kd n b := by unfold Oa at h ⊢; rw [hq_L_R, hq_K_R, hq_N_R]; exact h
theorem oa_I (h : Oa S E kd n b) : Oa (sp_I S k o v) E kd n b := by unfold Oa at h ⊢; rw [hq_L_I, hq_K_I, hq_N_I]; exact h
theorem fk_cn (h : Fk S E o k kd n b) (ho : o ∈ hp_L S) (h2 : Cn S T) : Fk T E o k kd n b := ⟨((h2.2.1 o ho).1 k).trans h.1, oa_cn h.2 h2⟩
theorem fk_R (h : Fk S E o k kd n b) (hj : k ≠ j := by decide) : Fk (sp_R S j o x) E o k kd n b := ⟨by rw [hq_R_R, up2_ne hj]; exact h.1, oa_R h.2⟩
theorem fk_I (h : Fk S E o k kd n b) : Fk (sp_I S j o v) E o k kd n b := ⟨by rw [hq_R_I]; exact h.1, oa_I h.2⟩
theorem fk_mk (h : Oa S E kd n b) : Fk (sp_R S k o (some b)) E o k kd n b := ⟨by rw [hq_R_R, up2_self], oa_R h⟩
theorem zf_cn (h : Zf S o ws) (ho : o ∈ hp_L S) (h2 : Cn S T) : Zf T o ws := fun k hk => ((h2.2.1 o ho).2 k).trans (h k hk)
theorem zf_R (h : Zf S o ws) : Zf (sp_R S j a x) o ws := fun k hk => by rw [hq_I_R]; exact h k hk
theorem zf_I (h : Zf S o ws) : Zf (sp_I S j o v) o (j :: ws) := fun k hk => by
  rw [hq_I_I, up2_ne (fun e => hk (by rw [e]; exact List.mem_cons_self))]
  exact h k (fun q => hk (List.mem_cons_of_mem _ q))
theorem l_cn (ho : o ∈ hp_L S) (h2 : Cn S T) : o ∈ hp_L T := (h2.1 o ho).1
theorem k_cn (ho : o ∈ hp_L S) (h2 : Cn S T) (hK : hp_K S o = c) : hp_K T o = c := (h2.1 o ho).2.1.trans hK
/-- the shape of what is there, with one thing more -/
theorem gi_cn (h : GI S E) (h2 : Cn S T) (hi : ∀ a ∈ hp_L S, hp_i T a = hp_i S a) (hL : ∀ a ∈ hp_L T, a ∉ hp_L S → a ∉ E → OKc T E a) : GI T E := by
  intro a ha hE
  by_cases hs : a ∈ hp_L S
  · obtain ⟨g1, g2, g3, g4, g5⟩ := h a hs hE
    obtain ⟨-, q2, q3⟩ := h2.1 a hs
    refine ⟨fun r hr e => ?_, fun r hr e => ?_, fun e1 e2 i => ?_, fun e1 i => ?_, fun e1 i b e2 => ?_⟩
    · rw [(h2.2.1 a hs).2]; rw [q2] at e; exact g1 r hr e
    · rw [q2] at e
      obtain ⟨b, b1, b2⟩ := g2 r hr e
      exact ⟨b, by rw [(h2.2.1 a hs).1]; exact b1, oa_cn b2 h2⟩
    · rw [q2] at e1; rw [q3] at e2; rw [hi a hs]; exact g3 e1 e2 i
    · rw [q2] at e1; rw [hi a hs]; exact g4 e1 i
    · rw [q2] at e1; rw [h2.2.2.1 a hs] at e2; exact oa_cn (g5 e1 i b e2) h2
  · exact hL a ha hs hE
theorem gi_a (h : GI S E) (ha : a ∉ hp_L S) (hkd : 32 ≤ kd) : GI (nw_a S kd a n) E := by
  refine gi_cn h (cn_a ha hkd) (fun b hb => by rw [hq_i_a, va_up_ne _ _ (fun (e : b = a) => ha (by rw [← e]; exact hb))]) (fun b hb hb2 _ => ?_)
  rw [hq_L_a] at hb
  have e : b = a := by
    rcases List.mem_append.mp hb with q | q
    · exact absurd q hb2
    · exact List.mem_singleton.mp q
  subst e
  have hK : hp_K (nw_a S kd b n) b = kd := by rw [hq_K_a, va_up_self]
  have e0 : (0 : Int32).toInt = 0 := rfl
  refine ⟨fun r hr e => ?_, fun r hr e => ?_, fun _ _ i => ?_, fun _ i => ?_, fun _ i c q => ?_⟩
  · rw [hK] at e
    exact absurd ((show ∀ r ∈ rgT, r.1 / 64 < 32 by decide) r hr) (by omega)
  · rw [hK] at e
    exact absurd ((show ∀ r ∈ rfT, r.1 / 64 < 32 by decide) r hr) (by omega)
  · rw [hq_i_a, va_up_self]; exact ⟨by decide, by decide⟩
  · rw [hq_i_a, va_up_self]; exact ⟨by decide, by decide⟩
  · rw [hq_r_a, va_up_self] at q; cases q
theorem oa_na (ha : a ∉ hp_L S) (hE : ∀ q ∈ E, q ∈ hp_L S) : Oa (nw_a S kd a n) E kd n a := ⟨by rw [hq_L_a]; exact List.mem_append_right _ (List.mem_singleton.mpr rfl), fun q => ha (hE a q), by rw [hq_K_a, va_up_self], fun _ => by rw [hq_N_a, va_up_self]⟩
theorem gi_o (h : GI S E) (ha : a ∉ hp_L S) : GI (nw_o S c a) (a :: E) := by
  have h0 := cn_o (c := c) ha
  have hn : ∀ b ∈ hp_L S, b ≠ a := fun b hb e => ha (e ▸ hb)
  have h1 : GI S (a :: E) := by
    intro b hb hE
    obtain ⟨g1, g2, g3, g4, g5⟩ := h b hb (fun q => hE (List.mem_cons_of_mem _ q))
    have ho : ∀ kd n b, Oa S E kd n b → Oa S (a :: E) kd n b := fun kd n b q => ⟨q.1, fun z => by
      rcases List.mem_cons.mp z with z | z
      · exact hn b q.1 z
      · exact q.2.1 z, q.2.2⟩
    exact ⟨g1, fun r hr e => by obtain ⟨b, b1, b2⟩ := g2 r hr e; exact ⟨b, b1, ho _ _ _ b2⟩, g3, g4, fun e i b q => ho _ _ _ (g5 e i b q)⟩
  refine gi_cn h1 h0 (fun b hb => by rw [hq_i_o]) (fun b hb hb2 hE => ?_)
  rw [hq_L_o] at hb
  rcases List.mem_append.mp hb with q | q
  · exact absurd q hb2
  · exact absurd (List.mem_cons.mpr (Or.inl (List.mem_singleton.mp q))) hE
theorem gp_oR (h : GI S (o :: E)) : GI (sp_R S k o x) (o :: E) := by
  intro a ha hE
  rw [hq_L_R] at ha
  obtain ⟨g1, g2, g3, g4, g5⟩ := h a ha hE
  have hn : a ≠ o := fun e => hE (by rw [e]; exact List.mem_cons_self)
  refine ⟨fun r hr e => ?_, fun r hr e => ?_, fun e1 e2 i => ?_, fun e1 i => ?_, fun e1 i b e2 => ?_⟩
  · rw [hq_K_R] at e; rw [hq_I_R]; exact g1 r hr e
  · rw [hq_K_R] at e
    obtain ⟨b, b1, b2⟩ := g2 r hr e
    refine ⟨b, ?_, oa_R b2⟩
    rw [hq_R_R, up_2]
    split
    · rw [va_up_ne _ _ hn]; exact b1
    · exact b1
  · rw [hq_K_R] at e1; rw [hq_N_R] at e2; rw [hq_i_R]; exact g3 e1 e2 i
  · rw [hq_K_R] at e1; rw [hq_i_R]; exact g4 e1 i
  · rw [hq_K_R] at e1; rw [hq_r_R] at e2; exact oa_R (g5 e1 i b e2)
theorem gp_oI (h : GI S (o :: E)) : GI (sp_I S k o v) (o :: E) := by
  refine gi_mk h (hq_L_I ..) (hq_K_I ..) (hq_N_I ..) (hq_R_I ..) (hq_r_I ..) (fun a ha hE r hr e => ?_) (by rw [hq_i_I]; exact (gi_old h).2)
  have hn : a ≠ o := fun e => hE (by rw [e]; exact List.mem_cons_self)
  rw [hq_I_I, up_2]
  split
  · rw [va_up_ne _ _ hn]; exact (gi_old h).1 a ha hE r hr e
  · exact (gi_old h).1 a ha hE r hr e
/-- an object is made: it is one of the others -/
theorem gi_done (h : GI S (o :: E)) (hL : o ∈ hp_L S) (hE : o ∉ E) (hK : hp_K S o = c) (hc : c < 32) (l1 : List (Nat × Int × Int)) (e1 : rgT.filter (fun r => r.1 / 64 == c) = l1) (h1 : ∀ r ∈ l1, Rg r.2.1 r.2.2 (hp_I S r.1 o)) (l2 : List (Nat × Nat × Nat)) (e2 : rfT.filter (fun r => r.1 / 64 == c) = l2) (h2 : ∀ r ∈ l2, ∃ b, Fk S (o :: E) o r.1 r.2.1 r.2.2 b) : GI S E ∧ Oa S E c 0 o := by
  have hw : ∀ kd n b, Oa S (o :: E) kd n b → Oa S E kd n b := fun kd n b q => ⟨q.1, fun z => q.2.1 (List.mem_cons_of_mem _ z), q.2.2⟩
  refine ⟨fun a ha haE => ?_, hL, hE, hK, fun q => by omega⟩
  by_cases e : a = o
  · subst e
    refine ⟨fun r hr q => ?_, fun r hr q => ?_, fun q => by omega, fun q => by omega, fun q => by omega⟩
    · exact h1 r (by rw [← e1]; exact List.mem_filter.mpr ⟨hr, by rw [q, hK]; simp⟩)
    · obtain ⟨b, b1, b2⟩ := h2 r (by rw [← e2]; exact List.mem_filter.mpr ⟨hr, by rw [q, hK]; simp⟩)
      exact ⟨b, b1, hw _ _ _ b2⟩
  · obtain ⟨g1, g2, g3, g4, g5⟩ := h a ha (fun q => by
      rcases List.mem_cons.mp q with q | q
      · exact e q
      · exact haE q)
    exact ⟨g1, fun r hr q => by obtain ⟨b, b1, b2⟩ := g2 r hr q; exact ⟨b, b1, hw _ _ _ b2⟩, g3, g4, fun q i b z => hw _ _ _ (g5 q i b z)⟩
theorem zf_rg {k : Nat} {lo hi : Int} (h : Zf S o ws) (hk : k ∉ ws := by decide) (h1 : lo ≤ 0 := by decide) (h2 : 0 ≤ hi := by decide) : Rg lo hi (hp_I S k o) := by
  rw [h k hk]
  exact ⟨h1, h2⟩
theorem zf_o : Zf (nw_o S c a) a [] := fun k _ => by rw [hq_I_o, cr_2, if_pos rfl]
theorem in_o : a ∈ hp_L (nw_o S c a) := by rw [hq_L_o]; exact List.mem_append_right _ (List.mem_singleton.mpr rfl)
theorem k_o : hp_K (nw_o S c a) a = c := by rw [hq_K_o, va_up_self]
theorem e_cn (hE : ∀ q ∈ E, q ∈ hp_L S) (h : Cn S T) : ∀ q ∈ E, q ∈ hp_L T := fun q hq => (h.1 q (hE q hq)).1
end CFS
