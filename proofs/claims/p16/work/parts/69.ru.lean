def J4 (S : Hp) (k o a : Nat) : Prop := hp_R S k o = some a ∧ Oa S [] 33 24 a ∧ NA S a k
/-- the objects of both RUNs -/
def RO (S : Hp) (o1 r1 i1 c1 hd pr o2 vl sv : Nat) : Prop := hp_R S 580 o1 = some r1 ∧ Oa S [] 6 0 r1 ∧ hp_R S 384 r1 = some c1 ∧ hp_R S 385 r1 = some i1 ∧ J4 S 386 r1 pr ∧ J4 S 387 r1 hd ∧ J4 S 665 o2 sv ∧ J4 S 666 o2 vl
def Un (S : Hp) (r1 hd o2 vl : Nat) : Prop := (hp_I S 388 r1 = -1 ∧ hp_I S 663 o2 = 0 ∧ hp_I S 664 o2 = -1) ∨ (¬ hp_I S 663 o2 = 0 ∧ ¬ hp_I S 664 o2 = -1 ∧ Rw (QC S r1 hd) (QR S o2 vl) ∧ Rv (hp_I S 642 o2) (QR S o2 vl))
def Pj (S : Hp) (pr sv : Nat) : Prop := ∀ i, i < 24 → hp_j S pr i = hp_j S sv i
def RU (S : Hp) (r1 hd pr o2 vl sv : Nat) : Prop := Pj S pr sv ∧ Un S r1 hd o2 vl
section RUS
variable {S T U : Hp} {ws vs : List Nat} {o1 r1 i1 c1 hd pr o2 vl sv k o a c n : Nat} {bs : Nat → Int32}
theorem j4_af (h : J4 S k o a) (ho : Oa S [] c n o) (hA : Af [] ws S T) : J4 T k o a := ⟨r_af ho hA h.1, oa_af h.2.1 hA, na_af h.2.2 h.2.1.1 hA⟩
theorem j4_j (h : J4 S k o a) (hA : Af [] ws S T) (hw : ∀ r ∈ owT, r.1 = k → r.2 ∉ ws := by decide) : hp_j T a = hp_j S a := j24_af h.2.2 h.2.1 hA hw
theorem ro_pr (h : RO S o1 r1 i1 c1 hd pr o2 vl sv) : J4 S 386 r1 pr := h.2.2.2.2.1
theorem ro_hd (h : RO S o1 r1 i1 c1 hd pr o2 vl sv) : J4 S 387 r1 hd := h.2.2.2.2.2.1
theorem ro_sv (h : RO S o1 r1 i1 c1 hd pr o2 vl sv) : J4 S 665 o2 sv := h.2.2.2.2.2.2.1
theorem ro_vl (h : RO S o1 r1 i1 c1 hd pr o2 vl sv) : J4 S 666 o2 vl := h.2.2.2.2.2.2.2
theorem ro_af (h : RO S o1 r1 i1 c1 hd pr o2 vl sv) (h1 : Oa S [] 9 0 o1) (h2 : Oa S [] 10 0 o2) (hA : Af [] ws S T) : RO T o1 r1 i1 c1 hd pr o2 vl sv := ⟨r_af h1 hA h.1, oa_af h.2.1 hA, r_af h.2.1 hA h.2.2.1, r_af h.2.1 hA h.2.2.2.1, j4_af (ro_pr h) h.2.1 hA, j4_af (ro_hd h) h.2.1 hA, j4_af (ro_sv h) h2 hA, j4_af (ro_vl h) h2 hA⟩
theorem ro_ne (h : RO S o1 r1 i1 c1 hd pr o2 vl sv) (h2 : Oa S [] 10 0 o2) : sv ≠ vl := fun e => absurd ((ro_vl h).2.2 o2 h2.1 (665, 9991) (by decide) h2.2.2.1 (by rw [← e]; exact (ro_sv h).1)) (by decide)
theorem qc_na (h : J4 S 387 r1 hd) (ho : Oa S [] 6 0 r1) (hA : Af [] ws S T) (hk : ∀ k ∈ [388, 389, 390, 391, 392, 393], k ∉ ws := by decide) (hw : ∀ r ∈ owT, r.1 = 387 → r.2 ∉ ws := by decide) : QC T r1 hd = QC S r1 hd := qC_mk (i_af ho hA (hk _ (by decide))) (i_af ho hA (hk _ (by decide))) (i_af ho hA (hk _ (by decide))) (i_af ho hA (hk _ (by decide))) (i_af ho hA (hk _ (by decide))) (i_af ho hA (hk _ (by decide))) (j4_j h hA hw)
theorem qr_na (h : J4 S 666 o2 vl) (ho : Oa S [] 10 0 o2) (hA : Af [] ws S T) (hk : ∀ k ∈ [664, 667, 668, 669, 670, 671], k ∉ ws := by decide) (hw : ∀ r ∈ owT, r.1 = 666 → r.2 ∉ ws := by decide) : QR T o2 vl = QR S o2 vl := qR_mk (i_af ho hA (hk _ (by decide))) (i_af ho hA (hk _ (by decide))) (i_af ho hA (hk _ (by decide))) (i_af ho hA (hk _ (by decide))) (i_af ho hA (hk _ (by decide))) (i_af ho hA (hk _ (by decide))) (j4_j h hA hw)
theorem un_af (h : Un S r1 hd o2 vl) (hr : RO S o1 r1 i1 c1 hd pr o2 vl sv) (h2 : Oa S [] 10 0 o2) (hA : Af [] ws S T) (hk : ∀ k ∈ [388, 389, 390, 391, 392, 393, 642, 663, 664, 667, 668, 669, 670, 671], k ∉ ws := by decide) (hw : ∀ r ∈ owT, r.1 = 387 ∨ r.1 = 666 → r.2 ∉ ws := by decide) : Un T r1 hd o2 vl := by
  unfold Un
  rw [qc_na (ro_hd hr) hr.2.1 hA (fun k q => hk k ((show ∀ k ∈ [388, 389, 390, 391, 392, 393], k ∈ [388, 389, 390, 391, 392, 393, 642, 663, 664, 667, 668, 669, 670, 671] by decide) k q)) (fun r q e => hw r q (Or.inl e)), qr_na (ro_vl hr) h2 hA (fun k q => hk k ((show ∀ k ∈ [664, 667, 668, 669, 670, 671], k ∈ [388, 389, 390, 391, 392, 393, 642, 663, 664, 667, 668, 669, 670, 671] by decide) k q)) (fun r q e => hw r q (Or.inr e)), i_af (k := 388) hr.2.1 hA (hk _ (by decide)), i_af (k := 663) h2 hA (hk _ (by decide)), i_af (k := 664) h2 hA (hk _ (by decide)), i_af (k := 642) h2 hA (hk _ (by decide))]
  exact h
theorem pj_af (h : Pj S pr sv) (hr : RO S o1 r1 i1 c1 hd pr o2 vl sv) (hA : Af [] ws S T) (hw : ∀ r ∈ owT, r.1 = 386 ∨ r.1 = 665 → r.2 ∉ ws := by decide) : Pj T pr sv := fun i hi => by
  rw [j4_j (ro_pr hr) hA (fun r q e => hw r q (Or.inl e)), j4_j (ro_sv hr) hA (fun r q e => hw r q (Or.inr e))]
  exact h i hi
theorem ru_af (h : RU S r1 hd pr o2 vl sv) (hr : RO S o1 r1 i1 c1 hd pr o2 vl sv) (h2 : Oa S [] 10 0 o2) (hA : Af [] ws S T) (hk : ∀ k ∈ [388, 389, 390, 391, 392, 393, 642, 663, 664, 667, 668, 669, 670, 671], k ∉ ws := by decide) (hw : ∀ r ∈ owT, r.1 = 387 ∨ r.1 = 666 → r.2 ∉ ws := by decide) (hv : ∀ r ∈ owT, r.1 = 386 ∨ r.1 = 665 → r.2 ∉ ws := by decide) : RU T r1 hd pr o2 vl sv := ⟨pj_af h.1 hr hA hv, un_af h.2 hr h2 hA hk hw⟩
theorem ru_off (h : Un S r1 hd o2 vl) (hs : hp_I S 388 r1 = -1) : hp_I S 663 o2 = 0 := by
  rcases h with ⟨-, h, -⟩ | ⟨-, h, hw, -⟩
  · exact h
  · exact absurd (show hp_I S 664 o2 = -1 from Eq.trans (Eq.symm hw.1) hs) h
theorem ru_on (h : Un S r1 hd o2 vl) (hs : ¬ hp_I S 388 r1 = -1) : ¬ hp_I S 663 o2 = 0 ∧ ¬ hp_I S 664 o2 = -1 ∧ Rw (QC S r1 hd) (QR S o2 vl) ∧ Rv (hp_I S 642 o2) (QR S o2 vl) := h.elim (fun q => absurd q.1 hs) id
theorem un_rel (h : Un S r1 hd o2 vl) : ¬ hp_I S 663 o2 = 0 → ¬ hp_I S 664 o2 = -1 := fun q => h.elim (fun z => absurd z.2.1 q) (fun z => z.2.1)
theorem rv_ne {n : Int32} {p : RS} (h : Rv n p) : ¬ r0 p = -1 := by
  rcases h with e | ⟨a, -⟩
  · rw [e]; decide
  · intro e
    have b := a.1
    rw [e] at b
    exact absurd b (by decide)
theorem ru_go {N : Nat} {o x : Int32} (hr : RO S o1 r1 i1 c1 hd pr o2 vl sv) (h2 : Oa S [] 10 0 o2) (h : RU S r1 hd pr o2 vl sv) (hs : ¬ hp_I S 388 r1 = -1) (hcn : hp_I S 65 c1 = hp_I S 642 o2) (hn : Rg 0 200 (hp_I S 65 c1)) (hB : ∀ i, Rg 0 255 (bs i)) (h1 : Oa S [] 9 0 o1) (hA : Af [] [193, 194, 195, 196, 197, 198, 199, 200, 201, 202, 203, 204, 388, 389, 390, 391, 392, 393, 9993, 9996] S T) (i1' : It (DNc bs (hp_I S 65 c1)) N (QC S r1 hd) (QC T r1 hd) o) (hA2 : Af [] [640, 654, 655, 656, 657, 658, 659, 661, 662, 664, 667, 668, 669, 670, 671, 672, 673, 674, 675, 9990, 9998] T U) (i2 : It (DNr bs (hp_I S 65 c1)) N (QR T o2 vl) (QR U o2 vl) x) : o = x ∧ RU U r1 hd pr o2 vl sv := by
  obtain ⟨a1, a2, a3, a4⟩ := ru_on h.2 hs
  have hT := ro_af hr h1 h2 hA
  have h2T := oa_af h2 hA
  have q1 : QR T o2 vl = QR S o2 vl := qr_na (ro_vl hr) h2 hA
  have q2 : QC U r1 hd = QC T r1 hd := qc_na (ro_hd hT) hT.2.1 hA2
  rw [q1] at i2
  rw [← hcn] at a4
  obtain ⟨e, b1, b2⟩ := sim_it hn hB N a3 a4 i1' i2
  have m : hp_I U 642 o2 = hp_I S 65 c1 := ((i_af (k := 642) h2T hA2).trans (i_af (k := 642) h2 hA)).trans hcn.symm
  refine ⟨e, pj_af (pj_af h.1 hr hA) hT hA2, Or.inr ⟨?_, rv_ne b2, ?_, ?_⟩⟩
  · rw [i_af (k := 663) h2T hA2, i_af (k := 663) h2 hA]; exact a1
  · rw [q2]; exact b1
  · rw [m]; exact b2
theorem w0_ne {n : Int32} : ¬ w0 n = -1 := by unfold w0; split <;> decide
theorem ru_start (hr : RO S o1 r1 i1 c1 hd pr o2 vl sv) (h1 : Oa S [] 9 0 o1) (h2 : Oa S [] 10 0 o2) (h : Pj S pr sv) (hcn : hp_I S 65 c1 = hp_I S 642 o2) (hn : Rg 0 200 (hp_I S 65 c1)) (hA : Af [] [388, 389, 9993] S T) (hb : Rb (hp_I S 65 c1) (hp_j S pr) (QC T r1 hd)) (hA2 : Af [] [640, 663, 664, 667, 9990] T U) (hx : hp_I U 664 o2 = w0 (hp_I T 642 o2) ∧ hp_I U 667 o2 = 1 ∧ hp_I U 663 o2 = 1 ∧ ∀ i, i < 24 → hp_j U vl i = hp_j T sv i) : RU U r1 hd pr o2 vl sv := by
  obtain ⟨e1, e2, e3, e4⟩ := hx
  have hT := ro_af hr h1 h2 hA
  have h2T := oa_af h2 hA
  have q2 : QC U r1 hd = QC T r1 hd := qc_na (ro_hd hT) hT.2.1 hA2
  have m : hp_I T 642 o2 = hp_I S 642 o2 := i_af (k := 642) h2 hA
  have mU : hp_I U 642 o2 = hp_I S 642 o2 := (i_af (k := 642) h2T hA2).trans m
  rw [m] at e1
  refine ⟨pj_af (pj_af h hr hA) hT hA2, Or.inr ⟨by rw [e3]; decide, by rw [e1]; exact w0_ne, ?_, ?_⟩⟩
  · rw [q2]
    refine ⟨hb.1.trans ?_, Or.inl ⟨hb.2.1, e2⟩, fun i hi => ?_⟩
    · rw [hcn]; exact e1.symm
    · exact (hb.2.2 i hi).trans ((h i hi).trans ((congrFun (j4_j (ro_sv hr) hA) i).symm.trans (e4 i hi).symm))
  · rw [mU]
    rw [hcn] at hn
    by_cases h0 : hp_I S 642 o2 = 0
    · exact Or.inl (show hp_I U 664 o2 = -2 from e1.trans (if_pos h0))
    · have e0 : hp_I U 664 o2 = 0 := e1.trans (if_neg h0)
      refine Or.inr (show Rg 0 199 (hp_I U 664 o2) ∧ hp_I U 664 o2 < hp_I S 642 o2 from ?_)
      rw [e0]
      refine ⟨⟨by decide, by decide⟩, ?_⟩
      rw [Int32.lt_iff_toInt_lt, show (0 : Int32).toInt = 0 from rfl]
      have z : (hp_I S 642 o2).toInt ≠ 0 := fun e => h0 (Int32.toInt_inj.mp e)
      have := hn.1
      omega
theorem ru_put {x : Nat} {y : Int64} (hr : RO S o1 r1 i1 c1 hd pr o2 vl sv) (h1 : Oa S [] 9 0 o1) (h2 : Oa S [] 10 0 o2) (h : RU S r1 hd pr o2 vl sv) (hA : Af [] [9992] S T) (e1 : hp_j T pr = vp_updL (hp_j S pr) x y) (hA2 : Af [] [640, 9991] T U) (e2 : hp_j U sv = vp_updL (hp_j T sv) x y) : RU U r1 hd pr o2 vl sv := by
  have hT := ro_af hr h1 h2 hA
  refine ⟨fun i hi => ?_, un_af (un_af h.2 hr h2 hA) hT (oa_af h2 hA) hA2⟩
  rw [j4_j (ro_pr hT) hA2, e1, e2, j4_j (ro_sv hr) hA]
  unfold vp_updL
  split
  · rfl
  · exact h.1 i hi
theorem ru_end (hr : RO S o1 r1 i1 c1 hd pr o2 vl sv) (h1 : Oa S [] 9 0 o1) (h2 : Oa S [] 10 0 o2) (h : Pj S pr sv) (hA : Af [] ws S T) (e1 : hp_I T 388 r1 = -1) (hA2 : Af [] vs T U) (e2 : hp_I U 663 o2 = 0 ∧ hp_I U 664 o2 = -1) (hk : 388 ∉ vs := by decide) (hw : ∀ r ∈ owT, r.1 = 386 ∨ r.1 = 665 → r.2 ∉ ws := by decide) (hv : ∀ r ∈ owT, r.1 = 386 ∨ r.1 = 665 → r.2 ∉ vs := by decide) : RU U r1 hd pr o2 vl sv := by
  have hT := ro_af hr h1 h2 hA
  exact ⟨pj_af (pj_af h hr hA hw) hT hA2 hv, Or.inl ⟨(i_af (k := 388) hT.2.1 hA2 hk).trans e1, e2.1, e2.2⟩⟩
theorem ru_fn (hr : RO S o1 r1 i1 c1 hd pr o2 vl sv) (h2 : Oa S [] 10 0 o2) (h : RU S r1 hd pr o2 vl sv) (hA : Af [] ws S T) (e : hp_I T 663 o2 = hp_I S 663 o2 ∧ hp_I T 664 o2 = hp_I S 664 o2) (e3 : hp_I T 642 o2 = hp_I S 642 o2) (hk : ∀ k ∈ [388, 389, 390, 391, 392, 393, 667, 668, 669, 670, 671], k ∉ ws := by decide) (hw : ∀ r ∈ owT, r.1 = 387 ∨ r.1 = 666 → r.2 ∉ ws := by decide) (hv : ∀ r ∈ owT, r.1 = 386 ∨ r.1 = 665 → r.2 ∉ ws := by decide) : RU T r1 hd pr o2 vl sv := by
  refine ⟨pj_af h.1 hr hA hv, ?_⟩
  have q : QR T o2 vl = QR S o2 vl := qR_mk e.2 (i_af h2 hA (hk _ (by decide))) (i_af h2 hA (hk _ (by decide))) (i_af h2 hA (hk _ (by decide))) (i_af h2 hA (hk _ (by decide))) (i_af h2 hA (hk _ (by decide))) (j4_j (ro_vl hr) hA (fun r q e => hw r q (Or.inr e)))
  unfold Un
  rw [qc_na (ro_hd hr) hr.2.1 hA (fun k q => hk k ((show ∀ k ∈ [388, 389, 390, 391, 392, 393], k ∈ [388, 389, 390, 391, 392, 393, 667, 668, 669, 670, 671] by decide) k q)) (fun r q e => hw r q (Or.inl e)), q, i_af (k := 388) hr.2.1 hA (hk _ (by decide)), e.1, e.2, e3]
  exact h.2
theorem j4_ja (h : Ja S k o a) (hG : GI S []) (ho : Oa S [] (k / 64) n o) (hm : (k, 33, 24) ∈ rfT := by decide) : J4 S k o a := by
  obtain ⟨b, e1, e2⟩ := gi_R (k := k) hG ho 33 24 hm
  obtain rfl : a = b := Option.some.inj (h.1.symm.trans e1)
  exact ⟨h.1, e2, h.2.2.2.2⟩
end RUS
