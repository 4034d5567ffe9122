abbrev SG : Type := (Nat → Nat → Int64) × (Nat → Nat → Int64) × (Nat → Nat → Int32) × (Nat → Nat → Int32)
def sg (S : Hp) : SG := (hp_J S, hp_j S, hp_I S, hp_i S)
def mJ (σ : SG) : Nat → Nat → Int64 := σ.1
def mj (σ : SG) : Nat → Nat → Int64 := σ.2.1
def mI (σ : SG) : Nat → Nat → Int32 := σ.2.2.1
def mi (σ : SG) : Nat → Nat → Int32 := σ.2.2.2
def uJ (σ : SG) (k a : Nat) (v : Int64) : SG := (up_2 (mJ σ) k a v, mj σ, mI σ, mi σ)
def uj (σ : SG) (a i : Nat) (v : Int64) : SG := (mJ σ, va_up (mj σ) a (vp_updL (mj σ a) i v), mI σ, mi σ)
def uI (σ : SG) (k a : Nat) (v : Int32) : SG := (mJ σ, mj σ, up_2 (mI σ) k a v, mi σ)
def ui (σ : SG) (a i : Nat) (v : Int32) : SG := (mJ σ, mj σ, mI σ, va_up (mi σ) a (upd (mi σ a) i v))
def uc (σ : SG) (a b : Nat) : SG := (mJ σ, va_up (mj σ) b (va_cpy (mj σ a) (mj σ b) 0 0 24), mI σ, mi σ)
/-- what lies behind references -/
def RK (S : Hp) (R : Nat → Nat → Nat) : Prop := ∀ r ∈ rfT, ∀ o ∈ hp_L S, hp_K S o = r.1 / 64 → hp_R S r.1 o = some (R r.1 o)
section SGH
variable {xi : SX} {M : MD} {pc : Nat} {L : List (Nat × Value)} {rest : List Value} {S S0 T : Hp} {k0 n0 a b k kd m o : Nat} {P : Po} {E ws : List Nat} {n : Nat} {R : Nat → Nat → Nat} {σ : SG}
theorem el_w {a b : Int64} (h : some (Value.long a) = some (.long b)) : a = b := by injection h with e; injection e
theorem gt_lLv {i : Int32} {v : Int64} (h : decode (md_c M) pc = .ok (.laload, 1)) (ho : Oa S0 E 33 n a) (hA : Af E ws S0 S) (hx : vp_in i n) (hv : hp_j S a i.toNatClampNeg = v) (kk : TT xi M (pc + 1) L (.long v :: rest) S k0 n0 P) : TT xi M pc L (.int i :: .ref a :: rest) S k0 n0 P :=
  tt_laload h (ob_af ho hA) (by rw [n_af ho hA]; exact hx) (by rw [hv]; exact kk)
theorem rk_af (h : RK S R) (hA : Af E ws S T) (hw : 9999 ∉ ws := by decide) : RK T R := fun r hr o ho hk => by
  rw [(hA.2.2.2.1 hw).1] at ho
  exact (hA.2.1 o ho r.1).trans (h r hr o ho ((hA.1 o ho).2.1.symm.trans hk))
theorem rk_R (h : RK S R) (ho : Oa S E (k / 64) n o) (kd m : Nat) (hm : (k, kd, m) ∈ rfT := by decide) : hp_R S k o = some (R k o) := h (k, kd, m) hm o ho.1 ho.2.2.1
theorem rk_O (hG : GI S E) (h : RK S R) (ho : Oa S E (k / 64) n o) (kd m : Nat) (hm : (k, kd, m) ∈ rfT := by decide) : Oa S E kd m (R k o) := by
  obtain ⟨b, h1, h2⟩ := gi_R hG ho kd m hm
  rw [rk_R h ho kd m hm] at h1
  exact Option.some.inj h1 ▸ h2
theorem mJ_ne {k2 a2 : Nat} {v : Int64} (h : k ≠ k2 := by decide) : mJ (uJ σ k2 a2 v) k o = mJ σ k o := congrFun (up2_ne h) o
theorem mJ_se {v : Int64} : mJ (uJ σ k o v) k o = v := up2_self
theorem mI_ne {k2 a2 : Nat} {v : Int32} (h : k ≠ k2 := by decide) : mI (uI σ k2 a2 v) k o = mI σ k o := congrFun (up2_ne h) o
theorem mI_se {v : Int32} : mI (uI σ k o v) k o = v := up2_self
theorem lp_fu {fu : Nat} {B : Int} {x : Int32} {lo hi : Int} (hfu : (B - x.toInt).toNat < fu + 1) (h : Rg lo hi x) (h1 : hi + 1 ≤ B := by decide) (h2 : hi < 2147483647 := by decide) (h3 : -2147483648 ≤ lo := by decide) : (B - (x + 1).toInt).toNat < fu := by
  obtain ⟨a1, a2⟩ := h
  have e : (x + 1).toInt = x.toInt + 1 := by rw [Int32.toInt_add, show (1 : Int32).toInt = 1 from rfl, bmod_in (by omega) (by omega)]
  rw [e]
  omega
theorem nz_ps9 {x : Int64} (h : (0 : Int64) < x) : ¬ x = 0 := fun e => by rw [e] at h; exact absurd h (by decide)
theorem sg_J (h : sg S = σ) : hp_J S k o = mJ σ k o := congrArg (fun q => mJ q k o) h
theorem sg_I (h : sg S = σ) : hp_I S k o = mI σ k o := congrArg (fun q => mI q k o) h
theorem sg_j (h : sg S = σ) {i : Nat} : hp_j S a i = mj σ a i := congrArg (fun q => mj q a i) h
theorem sg_i (h : sg S = σ) {i : Nat} : hp_i S a i = mi σ a i := congrArg (fun q => mi q a i) h
theorem gx_pI {i cn j id : Nat} {ty : FieldType} {fin ns : Bool} {x : Int32} (h : decode (md_c M) pc = .ok (.putfield i, 3)) (hf : FL (md_y M).cls i cn j ty fin ns) (hk : fk cn j = 0) (hid : cn * 64 + j = id) (ho : Oa S0 E cn n a) (hA : Af E ws S0 S) (hn : narrow ty (.int x) = .int x) (hfit : fits ty (.int x) = true) (hi : fin = false) (hG : GI (sp_I S id a x) E) (hw : id ∈ ws) (h1 : id = 662 → 9998 ∉ ws → x = 0 → hp_I S 662 a = 0) (h2 : id = 664 → 9997 ∉ ws → ¬ hp_I S 664 a = -1 → ¬ x = -1) (hs : sg S = σ)
    (kk : ∀ S' : Hp, GI S' E → Af E ws S0 S' → sg S' = uI σ id a x → TT xi M (pc + 3) L rest S' k0 n0 P) : TT xi M pc L (.int x :: .ref a :: rest) S k0 n0 P :=
  tt_putI h hf hk hid (ob_af ho hA) hn hfit (Or.inl hi) (kk _ hG (af_tr hA (af_I hw h1 h2) (fun _ h => h)) (by subst hs; unfold sg uI mJ mj mI mi; rw [hq_J_I, hq_j_I, hq_I_I, hq_i_I]))
theorem gx_pJ {i cn j id : Nat} {ty : FieldType} {fin ns : Bool} {x : Int64} (h : decode (md_c M) pc = .ok (.putfield i, 3)) (hf : FL (md_y M).cls i cn j ty fin ns) (hk : fk cn j = 1) (hid : cn * 64 + j = id) (ho : Oa S0 E cn n a) (hA : Af E ws S0 S) (hn : narrow ty (.long x) = .long x) (hfit : fits ty (.long x) = true) (hi : fin = false) (hG : GI S E) (hs : sg S = σ)
    (kk : ∀ S' : Hp, GI S' E → Af E ws S0 S' → sg S' = uJ σ id a x → TT xi M (pc + 3) L rest S' k0 n0 P) (hjk : id ∉ jkT ∨ 9987 ∈ ws := by decide) : TT xi M pc L (.long x :: .ref a :: rest) S k0 n0 P :=
  tt_putJ h hf hk hid (ob_af ho hA) hn hfit (Or.inl hi) (kk _ (gp_J hG) (af_tr hA (af_J hjk) (fun _ h => h)) (by subst hs; unfold sg uJ mJ mj mI mi; rw [hq_J_J, hq_j_J, hq_I_J, hq_i_J]))
theorem gx_iL {i v : Int32} (h : decode (md_c M) pc = .ok (.iaload, 1)) (ho : Oa S0 E 32 n a) (hA : Af E ws S0 S) (hx : vp_in i n) (hv : hp_i S a i.toNatClampNeg = v) (kk : TT xi M (pc + 1) L (.int v :: rest) S k0 n0 P) : TT xi M pc L (.int i :: .ref a :: rest) S k0 n0 P :=
  tt_iaload h (ob_af ho hA) (by rw [n_af ho hA]; exact hx) (by rw [hv]; exact kk)
theorem gx_zL {i v : Int32} (h : decode (md_c M) pc = .ok (.baload, 1)) (ho : Oa S0 E 34 n a) (hA : Af E ws S0 S) (hx : vp_in i n) (hv : hp_i S a i.toNatClampNeg = v) (kk : TT xi M (pc + 1) L (.int v :: rest) S k0 n0 P) : TT xi M pc L (.int i :: .ref a :: rest) S k0 n0 P :=
  tt_zaload h (ob_af ho hA) (by rw [n_af ho hA]; exact hx) (by rw [hv]; exact kk)
theorem gx_lS {i : Int32} {x : Int64} (h : decode (md_c M) pc = .ok (.lastore, 1)) (ho : Oa S0 E 33 n a) (hA : Af E ws S0 S) (hx : vp_in i n) (hG : GI S E) (h9 : ¬ n = 1 ∨ 9996 ∈ ws) (h24 : ¬ n = 24 ∨ Ow ws S0 a) (hs : sg S = σ) (kk : ∀ S' : Hp, GI S' E → Af E ws S0 S' → sg S' = uj σ a i.toNatClampNeg x → TT xi M (pc + 1) L rest S' k0 n0 P) (hah : AH ws n := by decide) : TT xi M pc L (.long x :: .int i :: .ref a :: rest) S k0 n0 P :=
  tt_lastore h (ob_af ho hA) (by rw [n_af ho hA]; exact hx) (kk _ (gp_j hG) (af_tr hA (af_j (h9.imp (fun h q => h ((n_af ho hA).symm.trans q)) id) (h24.imp (fun h q => h ((n_af ho hA).symm.trans q)) (fun h => ow_af h hA)) (by rw [n_af ho hA]; exact hah)) (fun _ h => h)) (by subst hs; unfold sg uj mJ mj mI mi; rw [hq_J_j, hq_j_j, hq_I_j, hq_i_j]))
theorem gx_iS {i x : Int32} (h : decode (md_c M) pc = .ok (.iastore, 1)) (ho : Oa S0 E 32 n a) (hA : Af E ws S0 S) (h9 : ¬ n = 200 ∨ 9995 ∈ ws) (hx : vp_in i n) (hG : GI S E) (hn : n ≠ 202) (hs : sg S = σ) (kk : ∀ S' : Hp, GI S' E → Af E ws S0 S' → sg S' = ui σ a i.toNatClampNeg x → TT xi M (pc + 1) L rest S' k0 n0 P) (hah : AH ws n := by decide) : TT xi M pc L (.int x :: .int i :: .ref a :: rest) S k0 n0 P :=
  tt_iastore h (ob_af ho hA) (by rw [n_af ho hA]; exact hx) (kk _ (gp_i hG (oa_af ho hA) hn) (af_tr hA (af_i (h9.imp (fun h q => h ((n_af ho hA).symm.trans q)) id) (by rw [n_af ho hA]; exact hah)) (fun _ h => h)) (by subst hs; unfold sg ui mJ mj mI mi; rw [hq_J_i, hq_j_i, hq_I_i, hq_i_i]))
theorem gx_iSR {i x : Int32} (h : decode (md_c M) pc = .ok (.iastore, 1)) (ho : Oa S0 E 32 202 a) (hA : Af E ws S0 S) (hx : vp_in i 202) (hG : GI S E) (hv : Rg (-1) 31 x) (hs : sg S = σ) (kk : ∀ S' : Hp, GI S' E → Af E ws S0 S' → sg S' = ui σ a i.toNatClampNeg x → TT xi M (pc + 1) L rest S' k0 n0 P) (hah : AH ws 202 := by decide) : TT xi M pc L (.int x :: .int i :: .ref a :: rest) S k0 n0 P :=
  tt_iastore h (ob_af ho hA) (by rw [n_af ho hA]; exact hx) (kk _ (gp_iR hG (oa_af ho hA) hv) (af_tr hA (af_i (Or.inl (by rw [n_af ho hA]; decide)) (by rw [n_af ho hA]; exact hah)) (fun _ h => h)) (by subst hs; unfold sg ui mJ mj mI mi; rw [hq_J_i, hq_j_i, hq_I_i, hq_i_i]))
theorem gx_zS {i x : Int32} (h : decode (md_c M) pc = .ok (.bastore, 1)) (ho : Oa S0 E 34 n a) (hA : Af E ws S0 S) (h9 : ¬ n = 200 ∨ 9995 ∈ ws) (hx : vp_in i n) (hG : GI S E) (hv : Rg 0 1 x) (hs : sg S = σ) (kk : ∀ S' : Hp, GI S' E → Af E ws S0 S' → sg S' = ui σ a i.toNatClampNeg x → TT xi M (pc + 1) L rest S' k0 n0 P) (hah : AH ws n := by decide) : TT xi M pc L (.int x :: .int i :: .ref a :: rest) S k0 n0 P :=
  tt_zastore h (ob_af ho hA) (by rw [n_af ho hA]; exact hx) (by rw [rg_nar2 hv]; exact kk _ (gp_z hG (oa_af ho hA) hv) (af_tr hA (af_i (h9.imp (fun h q => h ((n_af ho hA).symm.trans q)) id) (by rw [n_af ho hA]; exact hah)) (fun _ h => h)) (by subst hs; unfold sg ui mJ mj mI mi; rw [hq_J_i, hq_j_i, hq_I_i, hq_i_i]))
theorem gx_cp {i b : Nat} (h : decode (md_c M) pc = .ok (.invokestatic i, 3)) (hw : Cond.methodLink (md_y M).cls i arraycopyName ∈ wT ∧ Cond.native arraycopyName ∈ wT ∧ Cond.static arraycopyName ∈ wT ∧ Cond.initialized "java/lang/System" ∈ wT) (ha : Oa S0 E 33 24 a) (hb : Oa S0 E 33 24 b) (hA : Af E ws S0 S) (h24 : Ow ws S0 b) (hr : 1 ≤ md_f M ∧ (rest.map fun v => v.category).sum + (nativeFrameWords "java/lang/System" "arraycopy" 5 + 11) ≤ md_l M) (hG : GI S E) (hs : sg S = σ) (kk : ∀ S' : Hp, GI S' E → Af E ws S0 S' → sg S' = uc σ a b → TT xi M (pc + 3) L rest S' k0 n0 P) : TT xi M pc L (.int 24 :: .int 0 :: .ref b :: .int 0 :: .ref a :: rest) S k0 n0 P :=
  tt_copyl h hw (ob_af ha hA) (ob_af hb hA) (by decide) (by decide) (by decide) (by rw [n_af ha hA]; decide) (by rw [n_af hb hA]; decide) hr (kk _ (gp_j hG) (af_tr hA (af_j (Or.inl (by rw [n_af hb hA]; decide)) (Or.inr (ow_af h24 hA)) (by rw [n_af hb hA]; exact ⟨Or.inl (by decide), Or.inl ⟨by decide, by decide⟩⟩)) (fun _ h => h)) (by subst hs; unfold sg uc mJ mj mI mi; rw [hq_J_j, hq_j_j, hq_I_j, hq_i_j]; rfl))
end SGH
