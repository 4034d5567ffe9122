abbrev DD : Type := Int32 × Int32 × Int32 × Int32 × Int32 × Int32 × Int32 × Int32 × Int32 × Int32 × Int32 × Int32 × Int64
abbrev e0 (d : DD) : Int32 := d.1
abbrev e1 (d : DD) : Int32 := d.2.1
abbrev e2 (d : DD) : Int32 := d.2.2.1
abbrev e3 (d : DD) : Int32 := d.2.2.2.1
abbrev e4 (d : DD) : Int32 := d.2.2.2.2.1
abbrev e5 (d : DD) : Int32 := d.2.2.2.2.2.1
abbrev e6 (d : DD) : Int32 := d.2.2.2.2.2.2.1
abbrev e7 (d : DD) : Int32 := d.2.2.2.2.2.2.2.1
abbrev e8 (d : DD) : Int32 := d.2.2.2.2.2.2.2.2.1
abbrev e9 (d : DD) : Int32 := d.2.2.2.2.2.2.2.2.2.1
abbrev e10 (d : DD) : Int32 := d.2.2.2.2.2.2.2.2.2.2.1
abbrev e11 (d : DD) : Int32 := d.2.2.2.2.2.2.2.2.2.2.2.1
abbrev eJ (d : DD) : Int64 := d.2.2.2.2.2.2.2.2.2.2.2.2
def StC (T : Hp) (o : Nat) : DD := (hp_I T 193 o, hp_I T 194 o, hp_I T 195 o, hp_I T 196 o, hp_I T 197 o, hp_I T 198 o, hp_I T 199 o, hp_I T 200 o, hp_I T 201 o, hp_I T 202 o, hp_I T 203 o, hp_I T 204 o, hp_J T 205 o)
theorem stC_mk {S : Hp} {o : Nat} {t0 t1 t2 t3 t4 t5 t6 t7 t8 t9 t10 t11 : Int32} {tj : Int64} (h0 : hp_I S 193 o = t0) (h1 : hp_I S 194 o = t1) (h2 : hp_I S 195 o = t2) (h3 : hp_I S 196 o = t3) (h4 : hp_I S 197 o = t4) (h5 : hp_I S 198 o = t5) (h6 : hp_I S 199 o = t6) (h7 : hp_I S 200 o = t7) (h8 : hp_I S 201 o = t8) (h9 : hp_I S 202 o = t9) (h10 : hp_I S 203 o = t10) (h11 : hp_I S 204 o = t11) (hj : hp_J S 205 o = tj) : StC S o = (t0, t1, t2, t3, t4, t5, t6, t7, t8, t9, t10, t11, tj) := by
  subst h0 h1 h2 h3 h4 h5 h6 h7 h8 h9 h10 h11 hj; rfl
theorem sC_193 {T : Hp} {o : Nat} {d : DD} (h : StC T o = d) : hp_I T 193 o = e0 d := congrArg (fun q => e0 q) h
theorem sC_194 {T : Hp} {o : Nat} {d : DD} (h : StC T o = d) : hp_I T 194 o = e1 d := congrArg (fun q => e1 q) h
theorem sC_195 {T : Hp} {o : Nat} {d : DD} (h : StC T o = d) : hp_I T 195 o = e2 d := congrArg (fun q => e2 q) h
theorem sC_196 {T : Hp} {o : Nat} {d : DD} (h : StC T o = d) : hp_I T 196 o = e3 d := congrArg (fun q => e3 q) h
theorem sC_197 {T : Hp} {o : Nat} {d : DD} (h : StC T o = d) : hp_I T 197 o = e4 d := congrArg (fun q => e4 q) h
theorem sC_198 {T : Hp} {o : Nat} {d : DD} (h : StC T o = d) : hp_I T 198 o = e5 d := congrArg (fun q => e5 q) h
theorem sC_199 {T : Hp} {o : Nat} {d : DD} (h : StC T o = d) : hp_I T 199 o = e6 d := congrArg (fun q => e6 q) h
theorem sC_200 {T : Hp} {o : Nat} {d : DD} (h : StC T o = d) : hp_I T 200 o = e7 d := congrArg (fun q => e7 q) h
theorem sC_201 {T : Hp} {o : Nat} {d : DD} (h : StC T o = d) : hp_I T 201 o = e8 d := congrArg (fun q => e8 q) h
theorem sC_202 {T : Hp} {o : Nat} {d : DD} (h : StC T o = d) : hp_I T 202 o = e9 d := congrArg (fun q => e9 q) h
theorem sC_203 {T : Hp} {o : Nat} {d : DD} (h : StC T o = d) : hp_I T 203 o = e10 d := congrArg (fun q => e10 q) h
theorem sC_204 {T : Hp} {o : Nat} {d : DD} (h : StC T o = d) : hp_I T 204 o = e11 d := congrArg (fun q => e11 q) h
theorem sC_205 {T : Hp} {o : Nat} {d : DD} (h : StC T o = d) : hp_J T 205 o = eJ d := congrArg (fun q => eJ q) h
abbrev XIC (F : DD × Int32) (T : Hp) (o : Nat) (v : Option Value) : Prop := v = some (.int F.2) ∧ StC T o = F.1
abbrev XJC (F : DD × Int64) (T : Hp) (o : Nat) (v : Option Value) : Prop := v = some (.long F.2) ∧ StC T o = F.1
theorem xiC_mk {F : DD × Int32} {T : Hp} {o : Nat} {d : DD} {x : Int32} (hF : F = (d, x)) (hs : StC T o = d) : XIC F T o (some (.int x)) := by subst hF; exact ⟨rfl, hs⟩
theorem xjC_mk {F : DD × Int64} {T : Hp} {o : Nat} {d : DD} {x : Int64} (hF : F = (d, x)) (hs : StC T o = d) : XJC F T o (some (.long x)) := by subst hF; exact ⟨rfl, hs⟩
theorem xiC_v {F : DD × Int32} {T : Hp} {o : Nat} {z : Int32} (h : XIC F T o (some (.int z))) : z = F.2 := by have := h.1; injection this with e; injection e
theorem xjC_v {F : DD × Int64} {T : Hp} {o : Nat} {z : Int64} (h : XJC F T o (some (.long z))) : z = F.2 := by have := h.1; injection this with e; injection e
def StR (T : Hp) (o : Nat) : DD := (hp_I T 654 o, hp_I T 655 o, hp_I T 656 o, hp_I T 657 o, hp_I T 658 o, hp_I T 659 o, hp_I T 661 o, hp_I T 662 o, hp_I T 672 o, hp_I T 673 o, hp_I T 674 o, hp_I T 675 o, hp_J T 660 o)
theorem stR_mk {S : Hp} {o : Nat} {t0 t1 t2 t3 t4 t5 t6 t7 t8 t9 t10 t11 : Int32} {tj : Int64} (h0 : hp_I S 654 o = t0) (h1 : hp_I S 655 o = t1) (h2 : hp_I S 656 o = t2) (h3 : hp_I S 657 o = t3) (h4 : hp_I S 658 o = t4) (h5 : hp_I S 659 o = t5) (h6 : hp_I S 661 o = t6) (h7 : hp_I S 662 o = t7) (h8 : hp_I S 672 o = t8) (h9 : hp_I S 673 o = t9) (h10 : hp_I S 674 o = t10) (h11 : hp_I S 675 o = t11) (hj : hp_J S 660 o = tj) : StR S o = (t0, t1, t2, t3, t4, t5, t6, t7, t8, t9, t10, t11, tj) := by
  subst h0 h1 h2 h3 h4 h5 h6 h7 h8 h9 h10 h11 hj; rfl
theorem sR_654 {T : Hp} {o : Nat} {d : DD} (h : StR T o = d) : hp_I T 654 o = e0 d := congrArg (fun q => e0 q) h
theorem sR_655 {T : Hp} {o : Nat} {d : DD} (h : StR T o = d) : hp_I T 655 o = e1 d := congrArg (fun q => e1 q) h
theorem sR_656 {T : Hp} {o : Nat} {d : DD} (h : StR T o = d) : hp_I T 656 o = e2 d := congrArg (fun q => e2 q) h
theorem sR_657 {T : Hp} {o : Nat} {d : DD} (h : StR T o = d) : hp_I T 657 o = e3 d := congrArg (fun q => e3 q) h
theorem sR_658 {T : Hp} {o : Nat} {d : DD} (h : StR T o = d) : hp_I T 658 o = e4 d := congrArg (fun q => e4 q) h
theorem sR_659 {T : Hp} {o : Nat} {d : DD} (h : StR T o = d) : hp_I T 659 o = e5 d := congrArg (fun q => e5 q) h
theorem sR_661 {T : Hp} {o : Nat} {d : DD} (h : StR T o = d) : hp_I T 661 o = e6 d := congrArg (fun q => e6 q) h
theorem sR_662 {T : Hp} {o : Nat} {d : DD} (h : StR T o = d) : hp_I T 662 o = e7 d := congrArg (fun q => e7 q) h
theorem sR_672 {T : Hp} {o : Nat} {d : DD} (h : StR T o = d) : hp_I T 672 o = e8 d := congrArg (fun q => e8 q) h
theorem sR_673 {T : Hp} {o : Nat} {d : DD} (h : StR T o = d) : hp_I T 673 o = e9 d := congrArg (fun q => e9 q) h
theorem sR_674 {T : Hp} {o : Nat} {d : DD} (h : StR T o = d) : hp_I T 674 o = e10 d := congrArg (fun q => e10 q) h
theorem sR_675 {T : Hp} {o : Nat} {d : DD} (h : StR T o = d) : hp_I T 675 o = e11 d := congrArg (fun q => e11 q) h
theorem sR_660 {T : Hp} {o : Nat} {d : DD} (h : StR T o = d) : hp_J T 660 o = eJ d := congrArg (fun q => eJ q) h
abbrev XIR (F : DD × Int32) (T : Hp) (o : Nat) (v : Option Value) : Prop := v = some (.int F.2) ∧ StR T o = F.1
abbrev XJR (F : DD × Int64) (T : Hp) (o : Nat) (v : Option Value) : Prop := v = some (.long F.2) ∧ StR T o = F.1
theorem xiR_mk {F : DD × Int32} {T : Hp} {o : Nat} {d : DD} {x : Int32} (hF : F = (d, x)) (hs : StR T o = d) : XIR F T o (some (.int x)) := by subst hF; exact ⟨rfl, hs⟩
theorem xjR_mk {F : DD × Int64} {T : Hp} {o : Nat} {d : DD} {x : Int64} (hF : F = (d, x)) (hs : StR T o = d) : XJR F T o (some (.long x)) := by subst hF; exact ⟨rfl, hs⟩
theorem xiR_v {F : DD × Int32} {T : Hp} {o : Nat} {z : Int32} (h : XIR F T o (some (.int z))) : z = F.2 := by have := h.1; injection this with e; injection e
theorem xjR_v {F : DD × Int64} {T : Hp} {o : Nat} {z : Int64} (h : XJR F T o (some (.long z))) : z = F.2 := by have := h.1; injection this with e; injection e
/-- the bytes and their count, as the class's instruction sees them -/
def BC (S : Hp) (E : List Nat) (o : Nat) (bs : Nat → Int32) (n : Int32) : Prop := ∃ cb ab, hp_R S 192 o = some cb ∧ Oa S E 1 0 cb ∧ hp_R S 64 cb = some ab ∧ Oa S E 32 200 ab ∧ hp_i S ab = bs ∧ hp_I S 65 cb = n
def BR (S : Hp) (E : List Nat) (o : Nat) (bs : Nat → Int32) (n : Int32) : Prop := ∃ ab, hp_R S 641 o = some ab ∧ Oa S E 32 200 ab ∧ hp_i S ab = bs ∧ hp_I S 642 o = n
theorem bc_af {S T : Hp} {E ws : List Nat} {o kd m : Nat} {bs : Nat → Int32} {n : Int32} (h : BC S E o bs n) (ho : Oa S E kd m o) (hA : Af E ws S T) (h1 : 9995 ∉ ws := by decide) (h2 : 65 ∉ ws := by decide) : BC T E o bs n := by
  obtain ⟨cb, ab, a1, a2, a3, a4, a5, a6⟩ := h
  exact ⟨cb, ab, r_af ho hA a1, oa_af a2 hA, r_af a2 hA a3, oa_af a4 hA, (b_af a4 hA h1).trans a5, (i_af a2 hA h2).trans a6⟩
theorem br_af {S T : Hp} {E ws : List Nat} {o kd m : Nat} {bs : Nat → Int32} {n : Int32} (h : BR S E o bs n) (ho : Oa S E kd m o) (hA : Af E ws S T) (h1 : 9995 ∉ ws := by decide) (h2 : 642 ∉ ws := by decide) : BR T E o bs n := by
  obtain ⟨ab, a3, a4, a5, a6⟩ := h
  exact ⟨ab, r_af ho hA a3, oa_af a4 hA, (b_af a4 hA h1).trans a5, (i_af ho hA h2).trans a6⟩
theorem ei_w {a b : Int32} (h : some (Value.int a) = some (.int b)) : a = b := by injection h with e; injection e
section XT
variable {xi : SX} {M : MD} {pc : Nat} {L : List (Nat × Value)} {rest : List Value} {S S0 : Hp} {k0 n0 n a : Nat} {P : Po} {E ws : List Nat}
theorem gt_iLx {i : Int32} (h : decode (md_c M) pc = .ok (.iaload, 1)) (ho : Oa S0 E 32 n a) (hA : Af E ws S0 S) (hx : vp_in i n) (kk : TT xi M (pc + 1) L (.int (hp_i S a i.toNatClampNeg) :: rest) S k0 n0 P) : TT xi M pc L (.int i :: .ref a :: rest) S k0 n0 P :=
  tt_iaload h (ob_af ho hA) (by rw [n_af ho hA]; exact hx) kk
theorem gt_by {c : Prop} (h1 : c → TT xi M pc L rest S k0 n0 P) (h2 : ¬ c → TT xi M pc L rest S k0 n0 P) : TT xi M pc L rest S k0 n0 P := (Classical.em c).elim h1 h2
theorem ne_i {x : Int32} {k : Int} (v : Int32) (h : ¬ x = v) (e : v.toInt = k) : ¬ k = x.toInt := fun q => h (Int32.toInt_inj.mp (q.symm.trans e.symm))
theorem eq_i {x : Int32} {k : Int} (v : Int32) (h : x = v) (e : v.toInt = k) : x.toInt = k := h ▸ e
theorem gt_lseq {x : Int32} (v : Int32) (k : Int) {d off : Int} {ps : Array (Int × Int)} {len tgt : Nat} (h : decode (md_c M) pc = .ok (.lookupswitch d ps, len)) (hp : (ps.toList.zip (ps.toList.drop 1)).all (fun (a, next) => a.1 < next.1) = true) (q : x = v) (e : v.toInt = k) (ho : Op.lookupswitch.offset ps.toList d k = off) (ht : (pc : Int) + off = (tgt : Int)) (kk : TT xi M tgt L rest S k0 n0 P) : TT xi M pc L (.int x :: rest) S k0 n0 P := tt_lookup h hp (by rw [eq_i v q e]; exact ho) ht kk
theorem gt_tseq {x : Int32} (v : Int32) (k : Int) {d lo hi off : Int} {offs : Array Int} {len tgt : Nat} (h : decode (md_c M) pc = .ok (.tableswitch d lo hi offs, len)) (q : x = v) (e : v.toInt = k) (h1 : ¬ k < lo) (h2 : ¬ hi < k) (ho : offs[(k - lo).toNat]? = some off) (ht : (pc : Int) + off = (tgt : Int)) (kk : TT xi M tgt L rest S k0 n0 P) : TT xi M pc L (.int x :: rest) S k0 n0 P := tt_tableIn h (by rw [eq_i v q e]; exact h1) (by rw [eq_i v q e]; exact h2) (by rw [eq_i v q e]; exact ho) ht kk
theorem gt_lseqL {x : Int32} (v : Int32) (k : Int) {d off : Int} {ps : Array (Int × Int)} {l : List (Int × Int)} {len tgt : Nat} (h : decode (md_c M) pc = .ok (.lookupswitch d ps, len)) (hl : ps.toList = l) (hp : (l.zip (l.drop 1)).all (fun (a, next) => a.1 < next.1) = true) (q : x = v) (e : v.toInt = k) (ho : Op.lookupswitch.offset l d k = off) (ht : (pc : Int) + off = (tgt : Int)) (kk : TT xi M tgt L rest S k0 n0 P) : TT xi M pc L (.int x :: rest) S k0 n0 P := tt_lookup h (by rw [hl]; exact hp) (by rw [hl, eq_i v q e]; exact ho) ht kk
theorem gt_lsdf {x : Int32} {d off : Int} {ps : Array (Int × Int)} {l : List (Int × Int)} {len tgt : Nat} (h : decode (md_c M) pc = .ok (.lookupswitch d ps, len)) (hl : ps.toList = l) (hp : (l.zip (l.drop 1)).all (fun (a, next) => a.1 < next.1) = true) (ho : Op.lookupswitch.offset l d x.toInt = off) (ht : (pc : Int) + off = (tgt : Int)) (kk : TT xi M tgt L rest S k0 n0 P) : TT xi M pc L (.int x :: rest) S k0 n0 P := tt_lookup h (by rw [hl]; exact hp) (by rw [hl]; exact ho) ht kk
theorem gt_tseqL {x : Int32} (v : Int32) (k : Int) {d lo hi off : Int} {offs : Array Int} {l : List Int} {len tgt : Nat} (h : decode (md_c M) pc = .ok (.tableswitch d lo hi offs, len)) (hl : offs.toList = l) (q : x = v) (e : v.toInt = k) (h1 : ¬ k < lo) (h2 : ¬ hi < k) (ho : l[(k - lo).toNat]? = some off) (ht : (pc : Int) + off = (tgt : Int)) (kk : TT xi M tgt L rest S k0 n0 P) : TT xi M pc L (.int x :: rest) S k0 n0 P := tt_tableIn h (by rw [eq_i v q e]; exact h1) (by rw [eq_i v q e]; exact h2) (by rw [eq_i v q e, ← Array.getElem?_toList, hl]; exact ho) ht kk
theorem of_ne {a o d k r : Int} {l : List (Int × Int)} (h : ¬ a = k) (hr : Op.lookupswitch.offset l d k = r) : Op.lookupswitch.offset ((a, o) :: l) d k = r := (if_neg h).trans hr
end XT
