theorem up2_ne {α : Type} {f : Nat → Nat → α} {i k a : Nat} {v : α} (h : k ≠ i := by decide) : up_2 f i a v k = f k := by rw [up_2, if_neg h]
theorem up2_self {α : Type} {f : Nat → Nat → α} {i a : Nat} {v : α} : up_2 f i a v i a = v := by rw [up_2, if_pos rfl, va_up_self]
/-! steps over a heap that is told by GI and Af alone -/
section GT
variable {xi : SX} {M : MD} {pc : Nat} {L : List (Nat × Value)} {rest : List Value} {S S0 : Hp} {k0 n0 a : Nat} {P : Po} {E ws : List Nat} {n : Nat} {lo hi : Int}
theorem gt_gI {i cn j id : Nat} {ty : FieldType} {fin ns : Bool} {v : Int32} (h : decode (md_c M) pc = .ok (.getfield i, 3)) (hf : FL (md_y M).cls i cn j ty fin ns) (hk : fk cn j = 0) (hid : cn * 64 + j = id) (ho : Oa S0 E cn n a) (hA : Af E ws S0 S) (hv : hp_I S id a = v) (kk : TT xi M (pc + 3) L (.int v :: rest) S k0 n0 P) : TT xi M pc L (.ref a :: rest) S k0 n0 P :=
  tt_getI h hf hk hid (ob_af ho hA) (by rw [hv]; exact kk)
theorem gt_gJ {i cn j id : Nat} {ty : FieldType} {fin ns : Bool} {v : Int64} (h : decode (md_c M) pc = .ok (.getfield i, 3)) (hf : FL (md_y M).cls i cn j ty fin ns) (hk : fk cn j = 1) (hid : cn * 64 + j = id) (ho : Oa S0 E cn n a) (hA : Af E ws S0 S) (hv : hp_J S id a = v) (kk : TT xi M (pc + 3) L (.long v :: rest) S k0 n0 P) : TT xi M pc L (.ref a :: rest) S k0 n0 P :=
  tt_getJ h hf hk hid (ob_af ho hA) (by rw [hv]; exact kk)
theorem gt_gR {i cn j id b : Nat} {ty : FieldType} {fin ns : Bool} (h : decode (md_c M) pc = .ok (.getfield i, 3)) (hf : FL (md_y M).cls i cn j ty fin ns) (hk : fk cn j = 2) (hid : cn * 64 + j = id) (ho : Oa S0 E cn n a) (hA : Af E ws S0 S) (hr : hp_R S0 id a = some b) (kk : TT xi M (pc + 3) L (.ref b :: rest) S k0 n0 P) : TT xi M pc L (.ref a :: rest) S k0 n0 P :=
  tt_getR h hf hk hid (ob_af ho hA) (by rw [r_af ho hA hr]; exact kk)
theorem gt_pI {i cn j id : Nat} {ty : FieldType} {fin ns : Bool} {x : Int32} (h : decode (md_c M) pc = .ok (.putfield i, 3)) (hf : FL (md_y M).cls i cn j ty fin ns) (hk : fk cn j = 0) (hid : cn * 64 + j = id) (ho : Oa S0 E cn n a) (hA : Af E ws S0 S) (hn : narrow ty (.int x) = .int x) (hfit : fits ty (.int x) = true) (hi : fin = false) (hG : GI (sp_I S id a x) E) (hw : id ∈ ws) (h1 : id = 662 → 9998 ∉ ws → x = 0 → hp_I S 662 a = 0) (h2 : id = 664 → 9997 ∉ ws → ¬ hp_I S 664 a = -1 → ¬ x = -1)
    (kk : ∀ S' : Hp, GI S' E → Af E ws S0 S' → hp_I S' = up_2 (hp_I S) id a x → hp_J S' = hp_J S → hp_r S' = hp_r S → TT xi M (pc + 3) L rest S' k0 n0 P) : TT xi M pc L (.int x :: .ref a :: rest) S k0 n0 P :=
  tt_putI h hf hk hid (ob_af ho hA) hn hfit (Or.inl hi) (kk _ hG (af_tr hA (af_I hw h1 h2) (fun _ h => h)) (hq_I_I ..) (hq_J_I ..) (hq_r_I ..))
theorem gt_pJ {i cn j id : Nat} {ty : FieldType} {fin ns : Bool} {x : Int64} (h : decode (md_c M) pc = .ok (.putfield i, 3)) (hf : FL (md_y M).cls i cn j ty fin ns) (hk : fk cn j = 1) (hid : cn * 64 + j = id) (ho : Oa S0 E cn n a) (hA : Af E ws S0 S) (hn : narrow ty (.long x) = .long x) (hfit : fits ty (.long x) = true) (hi : fin = false) (hG : GI S E)
    (kk : ∀ S' : Hp, GI S' E → Af E ws S0 S' → hp_I S' = hp_I S → hp_J S' = up_2 (hp_J S) id a x → hp_r S' = hp_r S → TT xi M (pc + 3) L rest S' k0 n0 P) (hjk : id ∉ jkT ∨ 9987 ∈ ws := by decide) : TT xi M pc L (.long x :: .ref a :: rest) S k0 n0 P :=
  tt_putJ h hf hk hid (ob_af ho hA) hn hfit (Or.inl hi) (kk _ (gp_J hG) (af_tr hA (af_J hjk) (fun _ h => h)) (hq_I_J ..) (hq_J_J ..) (hq_r_J ..))
theorem gt_iL {i : Int32} (h : decode (md_c M) pc = .ok (.iaload, 1)) (ho : Oa S0 E 32 n a) (hA : Af E ws S0 S) (hx : vp_in i n) (kk : ∀ v : Int32, TT xi M (pc + 1) L (.int v :: rest) S k0 n0 P) : TT xi M pc L (.int i :: .ref a :: rest) S k0 n0 P :=
  tt_iaload h (ob_af ho hA) (by rw [n_af ho hA]; exact hx) (kk _)
theorem gt_iLR {i : Int32} (h : decode (md_c M) pc = .ok (.iaload, 1)) (ho : Oa S0 E 32 202 a) (hA : Af E ws S0 S) (hx : vp_in i 202) (hG : GI S E) (kk : ∀ v : Int32, Rg (-1) 31 v → TT xi M (pc + 1) L (.int v :: rest) S k0 n0 P) : TT xi M pc L (.int i :: .ref a :: rest) S k0 n0 P :=
  tt_iaload h (ob_af ho hA) (by rw [n_af ho hA]; exact hx) (kk _ (gi_i hG (oa_af ho hA)))
theorem gt_lL {i : Int32} (h : decode (md_c M) pc = .ok (.laload, 1)) (ho : Oa S0 E 33 n a) (hA : Af E ws S0 S) (hx : vp_in i n) (kk : ∀ v : Int64, TT xi M (pc + 1) L (.long v :: rest) S k0 n0 P) : TT xi M pc L (.int i :: .ref a :: rest) S k0 n0 P :=
  tt_laload h (ob_af ho hA) (by rw [n_af ho hA]; exact hx) (kk _)
theorem gt_lLt {i : Int32} (h : decode (md_c M) pc = .ok (.laload, 1)) (ho : Oa S0 E 33 n a) (hA : Af E ws S0 S) (hx : vp_in i n) (kk : TT xi M (pc + 1) L (.long (hp_j S a i.toNatClampNeg) :: rest) S k0 n0 P) : TT xi M pc L (.int i :: .ref a :: rest) S k0 n0 P :=
  tt_laload h (ob_af ho hA) (by rw [n_af ho hA]; exact hx) kk
theorem gt_zL {i : Int32} (h : decode (md_c M) pc = .ok (.baload, 1)) (ho : Oa S0 E 34 n a) (hA : Af E ws S0 S) (hx : vp_in i n) (hG : GI S E) (kk : ∀ v : Int32, Rg 0 1 v → TT xi M (pc + 1) L (.int v :: rest) S k0 n0 P) : TT xi M pc L (.int i :: .ref a :: rest) S k0 n0 P :=
  tt_zaload h (ob_af ho hA) (by rw [n_af ho hA]; exact hx) (kk _ (gi_z hG (oa_af ho hA)))
theorem gt_aL {i : Int32} (h : decode (md_c M) pc = .ok (.aaload, 1)) (ho : Oa S0 E 35 n a) (hA : Af E ws S0 S) (hx : vp_in i n) (hG : GI S0 E) (hw : 9999 ∉ ws) (k1 : TT xi M (pc + 1) L (.null :: rest) S k0 n0 P) (k2 : ∀ b : Nat, Oa S0 E 5 0 b → TT xi M (pc + 1) L (.ref b :: rest) S k0 n0 P) : TT xi M pc L (.int i :: .ref a :: rest) S k0 n0 P := by
  refine tt_aaload h (ob_af ho hA) (by rw [n_af ho hA]; exact hx) ?_
  rw [(hA.2.2.2.1 hw).2]
  cases e : hp_r S0 a i.toNatClampNeg with
  | none => exact k1
  | some b => exact k2 b (gi_r hG ho e)
theorem gt_iS {i x : Int32} (h : decode (md_c M) pc = .ok (.iastore, 1)) (ho : Oa S0 E 32 n a) (hA : Af E ws S0 S) (h9 : ¬ n = 200 ∨ 9995 ∈ ws) (hx : vp_in i n) (hG : GI S E) (hn : n ≠ 202) (kk : ∀ S' : Hp, GI S' E → Af E ws S0 S' → hp_I S' = hp_I S → hp_J S' = hp_J S → hp_r S' = hp_r S → TT xi M (pc + 1) L rest S' k0 n0 P) (hah : AH ws n := by decide) : TT xi M pc L (.int x :: .int i :: .ref a :: rest) S k0 n0 P :=
  tt_iastore h (ob_af ho hA) (by rw [n_af ho hA]; exact hx) (kk _ (gp_i hG (oa_af ho hA) hn) (af_tr hA (af_i (h9.imp (fun h q => h ((n_af ho hA).symm.trans q)) id) (by rw [n_af ho hA]; exact hah)) (fun _ h => h)) (hq_I_i ..) (hq_J_i ..) (hq_r_i ..))
theorem gt_iSR {i x : Int32} (h : decode (md_c M) pc = .ok (.iastore, 1)) (ho : Oa S0 E 32 202 a) (hA : Af E ws S0 S) (hx : vp_in i 202) (hG : GI S E) (hv : Rg (-1) 31 x) (kk : ∀ S' : Hp, GI S' E → Af E ws S0 S' → hp_I S' = hp_I S → hp_J S' = hp_J S → hp_r S' = hp_r S → TT xi M (pc + 1) L rest S' k0 n0 P) (hah : AH ws 202 := by decide) : TT xi M pc L (.int x :: .int i :: .ref a :: rest) S k0 n0 P :=
  tt_iastore h (ob_af ho hA) (by rw [n_af ho hA]; exact hx) (kk _ (gp_iR hG (oa_af ho hA) hv) (af_tr hA (af_i (Or.inl (by rw [n_af ho hA]; decide)) (by rw [n_af ho hA]; exact hah)) (fun _ h => h)) (hq_I_i ..) (hq_J_i ..) (hq_r_i ..))
theorem gt_zS {i x : Int32} (h : decode (md_c M) pc = .ok (.bastore, 1)) (ho : Oa S0 E 34 n a) (hA : Af E ws S0 S) (h9 : ¬ n = 200 ∨ 9995 ∈ ws) (hx : vp_in i n) (hG : GI S E) (hv : Rg 0 1 x) (kk : ∀ S' : Hp, GI S' E → Af E ws S0 S' → hp_I S' = hp_I S → hp_J S' = hp_J S → hp_r S' = hp_r S → TT xi M (pc + 1) L rest S' k0 n0 P) (hah : AH ws n := by decide) : TT xi M pc L (.int x :: .int i :: .ref a :: rest) S k0 n0 P :=
  tt_zastore h (ob_af ho hA) (by rw [n_af ho hA]; exact hx) (by rw [rg_nar2 hv]; exact kk _ (gp_z hG (oa_af ho hA) hv) (af_tr hA (af_i (h9.imp (fun h q => h ((n_af ho hA).symm.trans q)) id) (by rw [n_af ho hA]; exact hah)) (fun _ h => h)) (hq_I_i ..) (hq_J_i ..) (hq_r_i ..))
theorem gt_lS {i : Int32} {x : Int64} (h : decode (md_c M) pc = .ok (.lastore, 1)) (ho : Oa S0 E 33 n a) (hA : Af E ws S0 S) (hx : vp_in i n) (hG : GI S E) (h9 : ¬ n = 1 ∨ 9996 ∈ ws) (h24 : ¬ n = 24 ∨ Ow ws S0 a) (kk : ∀ S' : Hp, GI S' E → Af E ws S0 S' → hp_I S' = hp_I S → hp_J S' = hp_J S → hp_r S' = hp_r S → TT xi M (pc + 1) L rest S' k0 n0 P) (hah : AH ws n := by decide) : TT xi M pc L (.long x :: .int i :: .ref a :: rest) S k0 n0 P :=
  tt_lastore h (ob_af ho hA) (by rw [n_af ho hA]; exact hx) (kk _ (gp_j hG) (af_tr hA (af_j (h9.imp (fun h q => h ((n_af ho hA).symm.trans q)) id) (h24.imp (fun h q => h ((n_af ho hA).symm.trans q)) (fun h => ow_af h hA)) (by rw [n_af ho hA]; exact hah)) (fun _ h => h)) (hq_I_j ..) (hq_J_j ..) (hq_r_j ..))
theorem gt_cp {i b : Nat} (h : decode (md_c M) pc = .ok (.invokestatic i, 3)) (hw : Cond.methodLink (md_y M).cls i arraycopyName ∈ wT ∧ Cond.native arraycopyName ∈ wT ∧ Cond.static arraycopyName ∈ wT ∧ Cond.initialized "java/lang/System" ∈ wT) (ha : Oa S0 E 33 24 a) (hb : Oa S0 E 33 24 b) (hA : Af E ws S0 S) (h24 : Ow ws S0 b) (hr : 1 ≤ md_f M ∧ (rest.map fun v => v.category).sum + (nativeFrameWords "java/lang/System" "arraycopy" 5 + 11) ≤ md_l M) (hG : GI S E) (kk : ∀ S' : Hp, GI S' E → Af E ws S0 S' → hp_I S' = hp_I S → hp_J S' = hp_J S → hp_r S' = hp_r S → TT xi M (pc + 3) L rest S' k0 n0 P) : TT xi M pc L (.int 24 :: .int 0 :: .ref b :: .int 0 :: .ref a :: rest) S k0 n0 P :=
  tt_copyl h hw (ob_af ha hA) (ob_af hb hA) (by decide) (by decide) (by decide) (by rw [n_af ha hA]; decide) (by rw [n_af hb hA]; decide) hr (kk _ (gp_j hG) (af_tr hA (af_j (Or.inl (by rw [n_af hb hA]; decide)) (Or.inr (ow_af h24 hA)) (by rw [n_af hb hA]; exact ⟨Or.inl (by decide), Or.inl ⟨by decide, by decide⟩⟩)) (fun _ h => h)) (hq_I_j ..) (hq_J_j ..) (hq_r_j ..))
theorem gt_ti {x : Int32} (k : ∀ y : Int32, TT xi M pc L (.int y :: rest) S k0 n0 P) : TT xi M pc L (.int x :: rest) S k0 n0 P := k x
theorem gt_tiR {x : Int32} (h : Rg lo hi x) (k : ∀ y : Int32, Rg lo hi y → TT xi M pc L (.int y :: rest) S k0 n0 P) : TT xi M pc L (.int x :: rest) S k0 n0 P := k x h
theorem gt_tl {x : Int64} (k : ∀ y : Int64, TT xi M pc L (.long y :: rest) S k0 n0 P) : TT xi M pc L (.long x :: rest) S k0 n0 P := k x
end GT
/-! answers -/
def rV : Option Value → Prop := fun v => v = none
def rI (lo hi : Int) : Option Value → Prop := fun v => ∃ z, v = some (.int z) ∧ Rg lo hi z
def rJ : Option Value → Prop := fun v => ∃ z, v = some (.long z)
def rO (S : Hp) (E : List Nat) (kd n : Nat) : Option Value → Prop := fun v => ∃ b, v = some (.ref b) ∧ Oa S E kd n b
def rP (S : Hp) (E : List Nat) : Option Value → Prop := fun v => v = some .null ∨ ∃ b, v = some (.ref b) ∧ Oa S E 5 0 b
/-- how a method ends that makes nothing: answering as rok says, with ex besides, or throwing one of xs -/
def PV (E ws : List Nat) (S : Hp) (k n : Nat) (rok : Option Value → Prop) (ex : Option Value → Hp → Prop) (xs : List String) : Po := fun r S' x y =>
  GI S' E ∧ Af E ws S S' ∧ ((∃ v, r = .inl v ∧ rok v ∧ ex v S' ∧ x = k ∧ y = n) ∨ ∃ X ∈ xs, r = .inr X)
theorem pv_tr {E ws vs : List Nat} {S S1 : Hp} {k n : Nat} {rok : Option Value → Prop} {ex ex1 : Option Value → Hp → Prop} {xs : List String} {r : Option Value ⊕ String} {T : Hp} {x y : Nat} (hA : Af E ws S S1) (h : PV E vs S1 k n rok ex1 xs r T x y) (hs : ∀ k ∈ vs, k ∈ ws) (he : ∀ v T, ex1 v T → ex v T) : PV E ws S k n rok ex xs r T x y := by
  obtain ⟨g1, g2, h⟩ := h
  refine ⟨g1, af_tr hA g2 hs, ?_⟩
  rcases h with ⟨v, a1, a2, a3, a4, a5⟩ | h
  · exact Or.inl ⟨v, a1, a2, he _ _ a3, a4, a5⟩
  · exact Or.inr h
abbrev ex0 : Option Value → Hp → Prop := fun _ _ => True
section GC
variable {xi : SX} {M N : MD} {pc : Nat} {L : List (Nat × Value)} {rest As : List Value} {S S0 : Hp} {k0 n0 b i cn n : Nat} {P : Po} {E ws vs : List Nat} {lo hi : Int} {rok : Option Value → Prop} {ex : Option Value → Hp → Prop} {xs : List String}
theorem gt_V (h : decode (md_c M) pc = .ok (.invokevirtual i, 3)) (hcv : CV (md_y M).cls i N As.length) (hrm : RM M N) (ho : Oa S0 E cn n b) (hA : Af E ws S0 S) (hcn : (vwCl[cn]?).map (fun r => r.1) = some (md_y N).cls) (hlen : (lg_sl (.ref b :: As)).length ≤ md_L N) (hr8 : (rest.map fun v => v.category).sum ≤ 8) (hs : ∀ k ∈ vs, k ∈ ws)
    (kx : TT xi N 0 (lv_args 0 (.ref b :: As)) [] S k0 n0 (PV E vs S k0 n0 rok ex xs)) (hh : md_h M = []) (kt : ∀ X ∈ xs, ∀ S', GI S' E → Af E ws S0 S' → P (.inr X) S' 0 0) (kk : ∀ (S' : Hp) (v : Option Value), rok v → ex v S' → GI S' E → Af E vs S S' → Af E ws S0 S' → TT xi M (pc + 3) L (v.toList ++ rest) S' k0 n0 P) : TT xi M pc L (As.reverse ++ .ref b :: rest) S k0 n0 P := by
  refine tt_callV (k1 := k0) (n1 := n0) (k2 := 0) (n2 := 0) h hcv hrm (ob_af ho hA) hcn hlen hr8 (by omega) (by omega) kx (fun v S' x y hw => ?_) (fun X S' hw => ?_)
  · obtain ⟨g1, g2, ⟨w, e, r1, r2, rfl, rfl⟩ | ⟨X, -, e⟩⟩ := hw
    · cases e
      rw [Nat.zero_add, Nat.zero_add]
      exact kk S' v r1 r2 g1 g2 (af_tr hA g2 hs)
    · cases e
  · obtain ⟨g1, g2, ⟨w, e, -⟩ | ⟨Y, hY, e⟩⟩ := hw
    · cases e
    · cases e
      exact ⟨hh, kt X hY S' g1 (af_tr hA g2 hs)⟩
theorem gt_S (h : decode (md_c M) pc = .ok (.invokestatic i, 3)) (hcv : CT (md_y M).cls i N As.length) (hrm : RM M N) (hA : Af E ws S0 S) (hlen : (lg_sl As).length ≤ md_L N) (hr8 : (rest.map fun v => v.category).sum ≤ 8) (hs : ∀ k ∈ vs, k ∈ ws)
    (kx : TT xi N 0 (lv_args 0 As) [] S k0 n0 (PV E vs S k0 n0 rok ex xs)) (hh : md_h M = []) (kt : ∀ X ∈ xs, ∀ S', GI S' E → Af E ws S0 S' → P (.inr X) S' 0 0) (kk : ∀ (S' : Hp) (v : Option Value), rok v → ex v S' → GI S' E → Af E vs S S' → Af E ws S0 S' → TT xi M (pc + 3) L (v.toList ++ rest) S' k0 n0 P) : TT xi M pc L (As.reverse ++ rest) S k0 n0 P := by
  refine tt_callS (k1 := k0) (n1 := n0) (k2 := 0) (n2 := 0) h hcv hrm hlen hr8 (by omega) (by omega) kx (fun v S' x y hw => ?_) (fun X S' hw => ?_)
  · obtain ⟨g1, g2, ⟨w, e, r1, r2, rfl, rfl⟩ | ⟨X, -, e⟩⟩ := hw
    · cases e
      rw [Nat.zero_add, Nat.zero_add]
      exact kk S' v r1 r2 g1 g2 (af_tr hA g2 hs)
    · cases e
  · obtain ⟨g1, g2, ⟨w, e, -⟩ | ⟨Y, hY, e⟩⟩ := hw
    · cases e
    · cases e
      exact ⟨hh, kt X hY S' g1 (af_tr hA g2 hs)⟩
theorem gt_SN (h : decode (md_c M) pc = .ok (.invokestatic i, 3)) (hcv : CTN (md_y M).cls i N As.length) (hrm : RM M N) (hA : Af E ws S0 S) (hlen : (lg_sl As).length ≤ md_L N) (hr8 : (rest.map fun v => v.category).sum ≤ 8) (hs : ∀ k ∈ vs, k ∈ ws)
    (kx : TT xi N 0 (lv_args 0 As) [] S 0 0 (PV E vs S 0 0 rok ex [])) (kk : ∀ (S' : Hp) (v : Option Value), rok v → ex v S' → GI S' E → Af E vs S S' → Af E ws S0 S' → TT xi M (pc + 3) L (v.toList ++ rest) S' k0 n0 P) : TT xi M pc L (As.reverse ++ rest) S k0 n0 P := by
  refine tt_callSN (k1 := 0) (n1 := 0) (k2 := k0) (n2 := n0) h hcv hrm hlen hr8 (by omega) (by omega) kx (fun v S' x y hw => ?_) (fun X S' hw => ?_)
  · obtain ⟨g1, g2, ⟨w, e, r1, r2, -, -⟩ | ⟨X, -, e⟩⟩ := hw
    · cases e
      exact kk S' v r1 r2 g1 g2 (af_tr hA g2 hs)
    · cases e
  · obtain ⟨g1, g2, ⟨w, e, -⟩ | ⟨Y, hY, e⟩⟩ := hw
    · cases e
    · cases hY
end GC
