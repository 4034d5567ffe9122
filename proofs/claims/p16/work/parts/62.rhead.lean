abbrev RS : Type := Int32 × Int32 × Int32 × Int32 × Int32 × Int32 × (Nat → Int64)
abbrev AU : Type := Int32 × Int32 × Int32 × Int32 × Int32 × Int32
abbrev r0 (w : RS) : Int32 := w.1
abbrev r1 (w : RS) : Int32 := w.2.1
abbrev r2 (w : RS) : Int32 := w.2.2.1
abbrev r3 (w : RS) : Int32 := w.2.2.2.1
abbrev r4 (w : RS) : Int32 := w.2.2.2.2.1
abbrev r5 (w : RS) : Int32 := w.2.2.2.2.2.1
abbrev rA (w : RS) : Nat → Int64 := w.2.2.2.2.2.2
abbrev u0 (q : AU) : Int32 := q.1
abbrev u1 (q : AU) : Int32 := q.2.1
abbrev u2 (q : AU) : Int32 := q.2.2.1
abbrev u3 (q : AU) : Int32 := q.2.2.2.1
abbrev u4 (q : AU) : Int32 := q.2.2.2.2.1
abbrev u5 (q : AU) : Int32 := q.2.2.2.2.2
def QC (T : Hp) (o a : Nat) : RS := (hp_I T 388 o, hp_I T 389 o, hp_I T 390 o, hp_I T 391 o, hp_I T 392 o, hp_I T 393 o, hp_j T a)
def AC (T : Hp) (o : Nat) : AU := (hp_I T 200 o, hp_I T 201 o, hp_I T 202 o, hp_I T 203 o, hp_I T 204 o, hp_I T 199 o)
theorem qC_mk {S : Hp} {o a : Nat} {t0 t1 t2 t3 t4 t5 : Int32} {f : Nat → Int64} (h0 : hp_I S 388 o = t0) (h1 : hp_I S 389 o = t1) (h2 : hp_I S 390 o = t2) (h3 : hp_I S 391 o = t3) (h4 : hp_I S 392 o = t4) (h5 : hp_I S 393 o = t5) (hj : hp_j S a = f) : QC S o a = (t0, t1, t2, t3, t4, t5, f) := by
  subst h0 h1 h2 h3 h4 h5 hj; rfl
theorem aC_mk {S : Hp} {o : Nat} {t0 t1 t2 t3 t4 t5 : Int32} (h0 : hp_I S 200 o = t0) (h1 : hp_I S 201 o = t1) (h2 : hp_I S 202 o = t2) (h3 : hp_I S 203 o = t3) (h4 : hp_I S 204 o = t4) (h5 : hp_I S 199 o = t5) : AC S o = (t0, t1, t2, t3, t4, t5) := by
  subst h0 h1 h2 h3 h4 h5; rfl
theorem tC_388 {T : Hp} {o a : Nat} {w : RS} (h : QC T o a = w) : hp_I T 388 o = r0 w := congrArg (fun q => r0 q) h
theorem tC_389 {T : Hp} {o a : Nat} {w : RS} (h : QC T o a = w) : hp_I T 389 o = r1 w := congrArg (fun q => r1 q) h
theorem tC_390 {T : Hp} {o a : Nat} {w : RS} (h : QC T o a = w) : hp_I T 390 o = r2 w := congrArg (fun q => r2 q) h
theorem tC_391 {T : Hp} {o a : Nat} {w : RS} (h : QC T o a = w) : hp_I T 391 o = r3 w := congrArg (fun q => r3 q) h
theorem tC_392 {T : Hp} {o a : Nat} {w : RS} (h : QC T o a = w) : hp_I T 392 o = r4 w := congrArg (fun q => r4 q) h
theorem tC_393 {T : Hp} {o a : Nat} {w : RS} (h : QC T o a = w) : hp_I T 393 o = r5 w := congrArg (fun q => r5 q) h
theorem tC_j {T : Hp} {o a : Nat} {w : RS} (h : QC T o a = w) : hp_j T a = rA w := congrArg (fun q => rA q) h
theorem uC_200 {T : Hp} {o : Nat} {q : AU} (h : AC T o = q) : hp_I T 200 o = u0 q := congrArg (fun q => u0 q) h
theorem uC_201 {T : Hp} {o : Nat} {q : AU} (h : AC T o = q) : hp_I T 201 o = u1 q := congrArg (fun q => u1 q) h
theorem uC_202 {T : Hp} {o : Nat} {q : AU} (h : AC T o = q) : hp_I T 202 o = u2 q := congrArg (fun q => u2 q) h
theorem uC_203 {T : Hp} {o : Nat} {q : AU} (h : AC T o = q) : hp_I T 203 o = u3 q := congrArg (fun q => u3 q) h
theorem uC_204 {T : Hp} {o : Nat} {q : AU} (h : AC T o = q) : hp_I T 204 o = u4 q := congrArg (fun q => u4 q) h
theorem uC_199 {T : Hp} {o : Nat} {q : AU} (h : AC T o = q) : hp_I T 199 o = u5 q := congrArg (fun q => u5 q) h
abbrev YIC (F : RS × Int32) (T : Hp) (o a : Nat) (v : Option Value) : Prop := v = some (.int F.2) ∧ QC T o a = F.1
abbrev YJC (F : RS × Int64) (T : Hp) (o a : Nat) (v : Option Value) : Prop := v = some (.long F.2) ∧ QC T o a = F.1
theorem yiC_mk {F : RS × Int32} {T : Hp} {o a : Nat} {w : RS} {x : Int32} (hF : F = (w, x)) (hs : QC T o a = w) : YIC F T o a (some (.int x)) := by subst hF; exact ⟨rfl, hs⟩
theorem yjC_mk {F : RS × Int64} {T : Hp} {o a : Nat} {w : RS} {x : Int64} (hF : F = (w, x)) (hs : QC T o a = w) : YJC F T o a (some (.long x)) := by subst hF; exact ⟨rfl, hs⟩
def QR (T : Hp) (o a : Nat) : RS := (hp_I T 664 o, hp_I T 667 o, hp_I T 668 o, hp_I T 669 o, hp_I T 670 o, hp_I T 671 o, hp_j T a)
def AR (T : Hp) (o : Nat) : AU := (hp_I T 655 o, hp_I T 656 o, hp_I T 657 o, hp_I T 658 o, hp_I T 659 o, hp_I T 661 o)
theorem qR_mk {S : Hp} {o a : Nat} {t0 t1 t2 t3 t4 t5 : Int32} {f : Nat → Int64} (h0 : hp_I S 664 o = t0) (h1 : hp_I S 667 o = t1) (h2 : hp_I S 668 o = t2) (h3 : hp_I S 669 o = t3) (h4 : hp_I S 670 o = t4) (h5 : hp_I S 671 o = t5) (hj : hp_j S a = f) : QR S o a = (t0, t1, t2, t3, t4, t5, f) := by
  subst h0 h1 h2 h3 h4 h5 hj; rfl
theorem aR_mk {S : Hp} {o : Nat} {t0 t1 t2 t3 t4 t5 : Int32} (h0 : hp_I S 655 o = t0) (h1 : hp_I S 656 o = t1) (h2 : hp_I S 657 o = t2) (h3 : hp_I S 658 o = t3) (h4 : hp_I S 659 o = t4) (h5 : hp_I S 661 o = t5) : AR S o = (t0, t1, t2, t3, t4, t5) := by
  subst h0 h1 h2 h3 h4 h5; rfl
theorem tR_664 {T : Hp} {o a : Nat} {w : RS} (h : QR T o a = w) : hp_I T 664 o = r0 w := congrArg (fun q => r0 q) h
theorem tR_667 {T : Hp} {o a : Nat} {w : RS} (h : QR T o a = w) : hp_I T 667 o = r1 w := congrArg (fun q => r1 q) h
theorem tR_668 {T : Hp} {o a : Nat} {w : RS} (h : QR T o a = w) : hp_I T 668 o = r2 w := congrArg (fun q => r2 q) h
theorem tR_669 {T : Hp} {o a : Nat} {w : RS} (h : QR T o a = w) : hp_I T 669 o = r3 w := congrArg (fun q => r3 q) h
theorem tR_670 {T : Hp} {o a : Nat} {w : RS} (h : QR T o a = w) : hp_I T 670 o = r4 w := congrArg (fun q => r4 q) h
theorem tR_671 {T : Hp} {o a : Nat} {w : RS} (h : QR T o a = w) : hp_I T 671 o = r5 w := congrArg (fun q => r5 q) h
theorem tR_j {T : Hp} {o a : Nat} {w : RS} (h : QR T o a = w) : hp_j T a = rA w := congrArg (fun q => rA q) h
theorem uR_655 {T : Hp} {o : Nat} {q : AU} (h : AR T o = q) : hp_I T 655 o = u0 q := congrArg (fun q => u0 q) h
theorem uR_656 {T : Hp} {o : Nat} {q : AU} (h : AR T o = q) : hp_I T 656 o = u1 q := congrArg (fun q => u1 q) h
theorem uR_657 {T : Hp} {o : Nat} {q : AU} (h : AR T o = q) : hp_I T 657 o = u2 q := congrArg (fun q => u2 q) h
theorem uR_658 {T : Hp} {o : Nat} {q : AU} (h : AR T o = q) : hp_I T 658 o = u3 q := congrArg (fun q => u3 q) h
theorem uR_659 {T : Hp} {o : Nat} {q : AU} (h : AR T o = q) : hp_I T 659 o = u4 q := congrArg (fun q => u4 q) h
theorem uR_661 {T : Hp} {o : Nat} {q : AU} (h : AR T o = q) : hp_I T 661 o = u5 q := congrArg (fun q => u5 q) h
abbrev YIR (F : RS × Int32) (T : Hp) (o a : Nat) (v : Option Value) : Prop := v = some (.int F.2) ∧ QR T o a = F.1
abbrev YJR (F : RS × Int64) (T : Hp) (o a : Nat) (v : Option Value) : Prop := v = some (.long F.2) ∧ QR T o a = F.1
theorem yiR_mk {F : RS × Int32} {T : Hp} {o a : Nat} {w : RS} {x : Int32} (hF : F = (w, x)) (hs : QR T o a = w) : YIR F T o a (some (.int x)) := by subst hF; exact ⟨rfl, hs⟩
theorem yjR_mk {F : RS × Int64} {T : Hp} {o a : Nat} {w : RS} {x : Int64} (hF : F = (w, x)) (hs : QR T o a = w) : YJR F T o a (some (.long x)) := by subst hF; exact ⟨rfl, hs⟩
theorem el_w {a b : Int64} (h : some (Value.long a) = some (.long b)) : a = b := by injection h with e; injection e
/-- a RUN of the class: its instruction i, its numbers a, the code that both see -/
def RC (S : Hp) (E : List Nat) (o i a : Nat) (bs : Nat → Int32) (n : Int32) : Prop := Oa S E 6 0 o ∧ hp_R S 385 o = some i ∧ Oa S E 3 0 i ∧ hp_R S 387 o = some a ∧ Oa S E 33 24 a ∧ BC S E i bs n ∧ ∃ cb, hp_R S 384 o = some cb ∧ Oa S E 1 0 cb ∧ hp_I S 65 cb = n
def RRx (S : Hp) (E : List Nat) (o a : Nat) (bs : Nat → Int32) (n : Int32) : Prop := Oa S E 10 0 o ∧ hp_R S 666 o = some a ∧ Oa S E 33 24 a ∧ BR S E o bs n ∧ hp_I S 642 o = n
theorem rc_af {S T : Hp} {E ws : List Nat} {o i a : Nat} {bs : Nat → Int32} {n : Int32} (h : RC S E o i a bs n) (hA : Af E ws S T) (h1 : 9995 ∉ ws := by decide) (h2 : 65 ∉ ws := by decide) : RC T E o i a bs n := by
  obtain ⟨a1, a2, a3, a4, a5, a6, cb, a7, a8, a9⟩ := h
  exact ⟨oa_af a1 hA, r_af a1 hA a2, oa_af a3 hA, r_af a1 hA a4, oa_af a5 hA, bc_af a6 a3 hA h1 h2, cb, r_af a1 hA a7, oa_af a8 hA, (i_af a8 hA h2).trans a9⟩
theorem rr_af {S T : Hp} {E ws : List Nat} {o a : Nat} {bs : Nat → Int32} {n : Int32} (h : RRx S E o a bs n) (hA : Af E ws S T) (h1 : 9995 ∉ ws := by decide) (h2 : 642 ∉ ws := by decide) : RRx T E o a bs n := by
  obtain ⟨a1, a2, a3, a4, a5⟩ := h
  exact ⟨oa_af a1 hA, r_af a1 hA a2, oa_af a3 hA, br_af a4 a1 hA h1 h2, (i_af a1 hA h2).trans a5⟩
theorem aj_no {S T : Hp} {E ws : List Nat} {a : Nat} (ha : Oa S E 33 24 a) (hA : Af E ws S T) (hw : ∀ r ∈ owT, r.2 ∉ ws := by decide) : hp_j T a = hp_j S a := by
  rcases (aj_af hA).1 a ha.1 (ha.2.2.2 (by decide)) with e | ⟨r, hr, hw2, -⟩
  · exact e
  · exact absurd hw2 (hw r hr)
section RX
variable {xi : SX} {M : MD} {pc : Nat} {L : List (Nat × Value)} {rest : List Value} {S S0 : Hp} {k0 n0 n a : Nat} {P : Po} {E ws : List Nat}
theorem gt_lLv {i : Int32} {v : Int64} (h : decode (md_c M) pc = .ok (.laload, 1)) (ho : Oa S0 E 33 n a) (hA : Af E ws S0 S) (hx : vp_in i n) (hv : hp_j S a i.toNatClampNeg = v) (kk : TT xi M (pc + 1) L (.long v :: rest) S k0 n0 P) : TT xi M pc L (.int i :: .ref a :: rest) S k0 n0 P :=
  tt_laload h (ob_af ho hA) (by rw [n_af ho hA]; exact hx) (by rw [hv]; exact kk)
theorem gt_pIj {i cn j id : Nat} {ty : FieldType} {fin ns : Bool} {x : Int32} (h : decode (md_c M) pc = .ok (.putfield i, 3)) (hf : FL (md_y M).cls i cn j ty fin ns) (hk : fk cn j = 0) (hid : cn * 64 + j = id) (ho : Oa S0 E cn n a) (hA : Af E ws S0 S) (hn : narrow ty (.int x) = .int x) (hfit : fits ty (.int x) = true) (hi : fin = false) (hG : GI (sp_I S id a x) E) (hw : id ∈ ws) (h1 : id = 662 → 9998 ∉ ws → x = 0 → hp_I S 662 a = 0) (h2 : id = 664 → 9997 ∉ ws → ¬ hp_I S 664 a = -1 → ¬ x = -1)
    (kk : ∀ S' : Hp, GI S' E → Af E ws S0 S' → hp_I S' = up_2 (hp_I S) id a x → hp_J S' = hp_J S → hp_r S' = hp_r S → hp_j S' = hp_j S → TT xi M (pc + 3) L rest S' k0 n0 P) : TT xi M pc L (.int x :: .ref a :: rest) S k0 n0 P :=
  tt_putI h hf hk hid (ob_af ho hA) hn hfit (Or.inl hi) (kk _ hG (af_tr hA (af_I hw h1 h2) (fun _ h => h)) (hq_I_I ..) (hq_J_I ..) (hq_r_I ..) (hq_j_I ..))
end RX
