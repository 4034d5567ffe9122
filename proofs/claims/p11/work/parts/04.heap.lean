def fv (S : Hp) (c j a : Nat) : Value := match fk c j with
  | 0 => .int (hp_I S (c * 64 + j) a)
  | 1 => .long (hp_J S (c * 64 + j) a)
  | _ => va_rf (hp_R S (c * 64 + j) a)
def ce (cy : Nat → ClassId) (S : Hp) (a : Nat) : va_E :=
  if hp_K S a < 32 then .inr (hp_K S a, (List.range (nf (hp_K S a))).map (fun j => fv S (hp_K S a) j a))
  else if hp_K S a = 32 then .inl (cy 0, hp_N S a, .inl (hp_i S a))
  else if hp_K S a = 33 then .inl (cy 1, hp_N S a, .inr (.inl (hp_j S a)))
  else if hp_K S a = 34 then .inl (cy 2, hp_N S a, .inl (hp_i S a))
  else .inl (cy 3, hp_N S a, .inr (.inr (.inr (.inr (hp_r S a)))))
def wl (cy : Nat → ClassId) (S : Hp) : va_W := [] ++ va_pl (hp_L S) (ce cy S)
def wH (D : va_G) (cy : Nat → ClassId) (A : Nat → Prop) (S : Hp) (H : Heap) : Prop := va_P D vwCl (wl cy S) H ∧ va_D A (wl cy S)
abbrev tyL (cy : Nat → ClassId) : List (ClassId × FieldType) := [(cy 0, .int), (cy 1, .long), (cy 2, .boolean), (cy 3, .object RX5)]
def isN : Cond → Bool
  | .fieldLinkNest _ _ _ _ _ _ => true
  | .methodLinkNest _ _ _ _ => true
  | _ => false
/-- what a method may take of the state that it begins in -/
def CS (l : Launch) (D : va_G) (cy : Nat → ClassId) (A : Nat → Prop) (xi : Nat × Nat × (Nat → Int32)) (s : State) (H : Heap) : Prop :=
  va_K D vwCl (tyL cy) s ∧ (∀ w ∈ lw_tbl, isN w = true → va_Nw w s) ∧ vx_Zq Bundle.tN "UNASSIGNED_STACK" Bundle.steD A s H ∧ vx_Zq Bundle.tN "SUPPRESSED_SENTINEL" Bundle.listD A s H ∧ l.stackTraces = false ∧
  (∀ own k tx, Cond.stringRef own k tx ∈ lw_tbl → ∃ a, vk_R own k tx a s) ∧ (∀ w ∈ lw_tbl, isC w = true → va_Nw w s) ∧ va_Nc "java/lang/IllegalStateException" "java/lang/IllegalArgumentException" s ∧
  (va_X xi.1 xi.2.1 xi.2.2 s H ∧ xi.1 < H.size ∧ ¬ A xi.1) ∧ va_AO RX5 s
def CX (l : Launch) (D : va_G) (cy : Nat → ClassId) (A : Nat → Prop) (xi : Nat × Nat × (Nat → Int32)) (M : MD) (p : Program) (R : Room) (s : State) (mm : MethodId) (args : Array Value) (meth : Method) (c : Code) : Prop :=
  p.tables.exec = Jvm.exec ∧ c.code = md_c M ∧ meth.sig.returnType = md_r M ∧ c.maxLocals = md_L M ∧ s.vm.findClass (md_y M).cls = some mm.cls ∧ (∀ w ∈ wT, w.before args s = true) ∧ meth.locks = false ∧ (md_f M ≤ R.frames ∧ md_l M ≤ R.locals) ∧
  c.exceptionTable.toList = tableOf (md_h M) ∧ ((md_y M).name = "<init>" → meth.name = "<init>") ∧ CS l D cy A xi s s.heap ∧ ∀ q, s.heap.size ≤ q → A q
section CXP
variable {l : Launch} {D : va_G} {cy : Nat → ClassId} {A : Nat → Prop} {xi : Nat × Nat × (Nat → Int32)} {M : MD} {p : Program} {R : Room} {s : State} {mm : MethodId} {args : Array Value} {meth : Method} {c : Code}
theorem cx_own (C : CX l D cy A xi M p R s mm args meth c) : s.vm.findClass (md_y M).cls = some mm.cls := C.2.2.2.2.1
theorem cx_ts (C : CX l D cy A xi M p R s mm args meth c) : ∀ w ∈ wT, w.before args s = true := C.2.2.2.2.2.1
theorem cx_lk (C : CX l D cy A xi M p R s mm args meth c) : meth.locks = false := C.2.2.2.2.2.2.1
theorem cx_rm (C : CX l D cy A xi M p R s mm args meth c) : md_f M ≤ R.frames ∧ md_l M ≤ R.locals := C.2.2.2.2.2.2.2.1
theorem cx_tb (C : CX l D cy A xi M p R s mm args meth c) : c.exceptionTable.toList = tableOf (md_h M) := C.2.2.2.2.2.2.2.2.1
theorem cx_in (C : CX l D cy A xi M p R s mm args meth c) : (md_y M).name = "<init>" → meth.name = "<init>" := C.2.2.2.2.2.2.2.2.2.1
theorem cx_S (C : CX l D cy A xi M p R s mm args meth c) : CS l D cy A xi s s.heap := C.2.2.2.2.2.2.2.2.2.2.1
theorem cx_A (C : CX l D cy A xi M p R s mm args meth c) : ∀ q, s.heap.size ≤ q → A q := C.2.2.2.2.2.2.2.2.2.2.2
theorem cx_K (C : CX l D cy A xi M p R s mm args meth c) : va_K D vwCl (tyL cy) s := (cx_S C).1
theorem cx_N (C : CX l D cy A xi M p R s mm args meth c) {w : Cond} (h : w ∈ lw_tbl) (hn : isN w = true) (ho : w.onTables = true) : w.before args s = true := va_Nw.use ho ((cx_S C).2.1 w h hn)
end CXP
/-- how the method may end: answering, by a callee's exception, by its own -/
def FN (l : Launch) (D : va_G) (cy : Nat → ClassId) (A : Nat → Prop) (xi : Nat × Nat × (Nat → Int32)) (M : MD) (p : Program) (e : Env) (R : Room) (s : State) (mm : MethodId) (args : Array Value) (below : List Frame) (meth : Method) (c : Code) (mc ms : Nat) (P : Po) (Q : State → Prop) : Prop :=
  (∀ (v : Option Value) (S' : Hp) (H' : Heap) (locs' : List Loc) (pc : Nat) (ls' : Array Slot) (c9 s9 kl nl : Nat), P (.inl v) S' kl nl → c9 + kl = mc → s9 + nl = ms → wH D cy A S' H' → va_S A s.heap H' locs' → RT M pc v → W p l e R s mm args below meth c H' locs' c9 s9 Q (F0 mm pc ls' v.toList)) ∧
  (∀ (E : String) (S' : Hp) (H' : Heap) (locs' : List Loc) (q : Addr) (cx : Cell) (pc : Nat) (ls' : Array Slot) (rest' : List Value), P (.inr E) S' 0 0 → wH D cy A S' H' → va_S A s.heap H' locs' → H'[q]? = some cx → cx.vm = .none → s.vm.findClass E = some cx.cls → md_h M = [] → vx_W p l e R s mm args below meth c H' locs' mc ms Q (F0 mm pc ls' rest') q) ∧
  (∀ (E : String) (S' : Hp) (H' : Heap) (locs' : List Loc) (cells' slots' : Nat) (pc : Nat) (ls' : Array Slot) (rest' : List Value), P (.inr E) S' 0 0 → wH D cy A S' H' → va_S A s.heap H' locs' → TH M pc E → ls'.size = md_L M → (rest'.map fun v => v.category).sum ≤ 8 → cells' + 1 ≤ mc → slots' + 6 ≤ ms → mc ≤ R.cells → ms ≤ R.slots → W p l e R s mm args below meth c H' locs' cells' slots' Q (F0 mm pc ls' rest'))
/-- what TT's relation says of the machine -/
def XM (l : Launch) (D : va_G) (cy : Nat → ClassId) (A : Nat → Prop) (xi : Nat × Nat × (Nat → Int32)) : XT := fun M pc L st S k n P =>
  ∀ (p : Program) (e : Env) (R : Room) (s : State) (mm : MethodId) (args : Array Value) (below : List Frame) (meth : Method) (c : Code) (ls : Array Slot) (H : Heap) (locs : List Loc) (cells slots : Nat) (Q : State → Prop),
    CX l D cy A xi M p R s mm args meth c → wH D cy A S H → va_S A s.heap H locs → lv_has ls (md_L M) L → cells + k ≤ R.cells → slots + n ≤ R.slots →
    FN l D cy A xi M p e R s mm args below meth c (cells + k) (slots + n) P Q → W p l e R s mm args below meth c H locs cells slots Q (F0 mm pc ls st)
theorem vw_lt {c : Nat} {r : vw_C} (h : vwCl[c]? = some r) : c < 32 := by
  have := (List.getElem?_eq_some_iff.mp h).1
  exact Nat.lt_of_lt_of_le this (by decide)
theorem hs_fv0 {S : Hp} {c j a : Nat} (h : fk c j = 0) : fv S c j a = .int (hp_I S (c * 64 + j) a) := by simp only [fv, h]
theorem hs_fv1 {S : Hp} {c j a : Nat} (h : fk c j = 1) : fv S c j a = .long (hp_J S (c * 64 + j) a) := by simp only [fv, h]
theorem hs_fv2 {S : Hp} {c j a : Nat} (h : fk c j = 2) : fv S c j a = va_rf (hp_R S (c * 64 + j) a) := by simp only [fv, h]
section HS
variable {cy : Nat → ClassId} {S S' : Hp} {a c : Nat}
theorem hs_at (h : a ∈ hp_L S) : ∃ k : Nat, (wl cy S)[k]? = some (a, ce cy S a) := va_pl_get (X := []) h
theorem hs_ceo (h : hp_K S a = c) (hc : c < 32) : ce cy S a = .inr (c, (List.range (nf c)).map (fun j => fv S c j a)) := by
  subst h
  simp only [ce, hc, if_true]
theorem hs_ce32 (h : hp_K S a = 32) : ce cy S a = .inl (cy 0, hp_N S a, .inl (hp_i S a)) := by simp [ce, h]
theorem hs_ce33 (h : hp_K S a = 33) : ce cy S a = .inl (cy 1, hp_N S a, .inr (.inl (hp_j S a))) := by simp [ce, h]
theorem hs_ce34 (h : hp_K S a = 34) : ce cy S a = .inl (cy 2, hp_N S a, .inl (hp_i S a)) := by simp [ce, h]
theorem hs_ce35 (h : hp_K S a = 35) : ce cy S a = .inl (cy 3, hp_N S a, .inr (.inr (.inr (.inr (hp_r S a))))) := by simp [ce, h]
/-- a cell is another one: the world behind it -/
theorem hs_set {D : va_G} {A : Nat → Prop} {H H' : Heap} {q : Nat} {e : va_E} (hH : wH D cy A S H) (ha : a ∈ hp_L S) (hq : (wl cy S)[q]? = some (a, ce cy S a)) (he : ∀ b, ce cy S' b = va_up (ce cy S) a e b) (hL : hp_L S' = hp_L S) (hP : va_P D vwCl ((wl cy S).set q (a, e)) H') (hD : va_D A ((wl cy S).set q (a, e))) : wH D cy A S' H' := by
  have h1 : (wl cy S).set q (a, e) = wl cy S' := by
    unfold wl
    rw [va_pl_set hH.2 ha hq, hL]
    exact congrArg (fun l => [] ++ l) (va_pl_congr (fun b => (he b).symm))
  rw [h1] at hP hD
  exact ⟨hP, hD⟩
theorem hs_sp_i (h : hp_K S a = 32) (f : Nat → Int32) (b : Nat) : ce cy (sp_i S a f) b = va_up (ce cy S) a (.inl (cy 0, hp_N S a, .inl f)) b := by
  by_cases hb : b = a
  · subst hb
    rw [va_up_self, hs_ce32 (S := sp_i S b f) h]
    simp [sp_i, hp_i, hp_N, va_up]
  · rw [va_up_ne _ _ hb]
    simp [ce, sp_i, hp_i, hp_N, hp_K, hp_j, hp_r, va_up, hb]
    rfl
theorem hs_sp_z (h : hp_K S a = 34) (f : Nat → Int32) (b : Nat) : ce cy (sp_i S a f) b = va_up (ce cy S) a (.inl (cy 2, hp_N S a, .inl f)) b := by
  by_cases hb : b = a
  · subst hb
    rw [va_up_self, hs_ce34 (S := sp_i S b f) h]
    simp [sp_i, hp_i, hp_N, va_up]
  · rw [va_up_ne _ _ hb]
    simp [ce, sp_i, hp_i, hp_N, hp_K, hp_j, hp_r, va_up, hb]
    rfl
theorem hs_sp_j (h : hp_K S a = 33) (f : Nat → Int64) (b : Nat) : ce cy (sp_j S a f) b = va_up (ce cy S) a (.inl (cy 1, hp_N S a, .inr (.inl f))) b := by
  by_cases hb : b = a
  · subst hb
    rw [va_up_self, hs_ce33 (S := sp_j S b f) h]
    simp [sp_j, hp_j, hp_N, va_up]
  · rw [va_up_ne _ _ hb]
    simp [ce, sp_j, hp_i, hp_N, hp_K, hp_j, hp_r, va_up, hb]
    rfl
theorem hs_sp_r (h : hp_K S a = 35) (f : Nat → Option Nat) (b : Nat) : ce cy (sp_r S a f) b = va_up (ce cy S) a (.inl (cy 3, hp_N S a, .inr (.inr (.inr (.inr f))))) b := by
  by_cases hb : b = a
  · subst hb
    rw [va_up_self, hs_ce35 (S := sp_r S b f) h]
    simp [sp_r, hp_r, hp_N, va_up]
  · rw [va_up_ne _ _ hb]
    simp [ce, sp_r, hp_i, hp_N, hp_K, hp_j, hp_r, va_up, hb]
    rfl
/-- a field is another one, by its kind -/
def hs_F (cy : Nat → ClassId) (S S' : Hp) (c j a : Nat) (v : Value) : Prop := ∀ b, ce cy S' b = va_up (ce cy S) a (.inr (c, ((List.range (nf c)).map (fun j => fv S c j a)).set j v)) b
theorem hs_F_of {j : Nat} {v : Value} (hc : c < 32) (hKa : hp_K S a = c) (hK : hp_K S' = hp_K S) (hN : hp_N S' = hp_N S) (hi : hp_i S' = hp_i S) (hj : hp_j S' = hp_j S) (hr : hp_r S' = hp_r S) (h1 : fv S' c j a = v) (h2 : ∀ d i b, (d, i, b) ≠ (c, j, a) → i < nf d → fv S' d i b = fv S d i b) : hs_F cy S S' c j a v := by
  intro b
  by_cases hb : b = a
  · subst hb
    rw [va_up_self, hs_ceo (S := S') (by rw [hK]; exact hKa) hc]
    congr 2
    apply List.ext_getElem?
    intro i
    rw [List.getElem?_map]
    by_cases hi9 : i < nf c
    · rw [List.getElem?_range hi9]
      by_cases hij : i = j
      · subst hij
        rw [List.getElem?_set_self (by simpa using hi9)]
        simp [h1]
      · rw [List.getElem?_set_ne (Ne.symm hij), List.getElem?_map, List.getElem?_range hi9]
        simp only [Option.map_some]
        rw [h2 c i b (by simp [hij]) hi9]
    · have e1 : (List.range (nf c))[i]? = none := by simpa using hi9
      have e2 : ((List.map (fun j => fv S c j b) (List.range (nf c))).set j v)[i]? = none := by simpa using hi9
      rw [e1, e2]
      rfl
  · rw [va_up_ne _ _ hb]
    simp only [ce, hK, hN, hi, hj, hr]
    split
    · congr 2
      apply List.map_congr_left
      intro i hi9
      exact h2 _ i b (by simp [hb]) (List.mem_range.mp hi9)
    · rfl
theorem nf_lt (d : Nat) : nf d < 64 := by
  have h : ∀ l ∈ fkT, l.length < 64 := by decide
  unfold nf
  rw [List.getD_eq_getElem?_getD]
  cases hq : fkT[d]? with
  | none => simp
  | some l => exact h l (List.mem_of_getElem? hq)
theorem hs_id {d i c j : Nat} (hi : i < 64) (hj : j < 64) (h : d * 64 + i = c * 64 + j) : d = c ∧ i = j := by omega
theorem hs_vsp_I {j : Nat} {x : Int32} (hk : fk c j = 0) : fv (sp_I S (c * 64 + j) a x) c j a = .int x := by
  rw [hs_fv0 hk]
  simp [sp_I, hp_I, up_2, va_up]
theorem hs_vsp_J {j : Nat} {x : Int64} (hk : fk c j = 1) : fv (sp_J S (c * 64 + j) a x) c j a = .long x := by
  rw [hs_fv1 hk]
  simp [sp_J, hp_J, up_2, va_up]
theorem hs_vsp_R {j : Nat} {x : Option Nat} (hk : fk c j = 2) : fv (sp_R S (c * 64 + j) a x) c j a = va_rf x := by
  rw [hs_fv2 hk]
  simp [sp_R, hp_R, up_2, va_up]
theorem hs_osp_I {j : Nat} {x : Int32} (_ : fk c j = 0) : j < nf c → ∀ d i b, (d, i, b) ≠ (c, j, a) → i < nf d → fv (sp_I S (c * 64 + j) a x) d i b = fv S d i b := by
  intro hj d i b hne hi
  have h2 : hp_I (sp_I S (c * 64 + j) a x) (d * 64 + i) b = hp_I S (d * 64 + i) b := by
    simp only [sp_I, hp_I, up_2]
    split
    next e =>
      obtain ⟨e1, e2⟩ := hs_id (Nat.lt_trans hi (nf_lt d)) (Nat.lt_trans hj (nf_lt c)) e
      subst e1; subst e2
      exact va_up_ne _ _ (fun q => hne (by rw [q]))
    next => rfl
  simp only [fv, h2]
  rfl
theorem hs_osp_J {j : Nat} {x : Int64} (_ : fk c j = 1) : j < nf c → ∀ d i b, (d, i, b) ≠ (c, j, a) → i < nf d → fv (sp_J S (c * 64 + j) a x) d i b = fv S d i b := by
  intro hj d i b hne hi
  have h2 : hp_J (sp_J S (c * 64 + j) a x) (d * 64 + i) b = hp_J S (d * 64 + i) b := by
    simp only [sp_J, hp_J, up_2]
    split
    next e =>
      obtain ⟨e1, e2⟩ := hs_id (Nat.lt_trans hi (nf_lt d)) (Nat.lt_trans hj (nf_lt c)) e
      subst e1; subst e2
      exact va_up_ne _ _ (fun q => hne (by rw [q]))
    next => rfl
  simp only [fv, h2]
  rfl
theorem hs_osp_R {j : Nat} {x : Option Nat} (_ : fk c j = 2) : j < nf c → ∀ d i b, (d, i, b) ≠ (c, j, a) → i < nf d → fv (sp_R S (c * 64 + j) a x) d i b = fv S d i b := by
  intro hj d i b hne hi
  have h2 : hp_R (sp_R S (c * 64 + j) a x) (d * 64 + i) b = hp_R S (d * 64 + i) b := by
    simp only [sp_R, hp_R, up_2]
    split
    next e =>
      obtain ⟨e1, e2⟩ := hs_id (Nat.lt_trans hi (nf_lt d)) (Nat.lt_trans hj (nf_lt c)) e
      subst e1; subst e2
      exact va_up_ne _ _ (fun q => hne (by rw [q]))
    next => rfl
  simp only [fv, h2]
  rfl
end HS
section HW
variable {l : Launch} {D : va_G} {cy : Nat → ClassId} {A : Nat → Prop} {xi : Nat × Nat × (Nat → Int32)} {M : MD} {p : Program} {e : Env} {R : Room} {s : State} {mm : MethodId} {args : Array Value} {below : List Frame} {meth : Method} {c : Code} {ls : Array Slot} {H : Heap} {locs : List Loc} {cells slots : Nat} {Q : State → Prop} {S S' : Hp} {pc i cc j a : Nat} {ty : FieldType} {fin ns : Bool} {v : Value} {rest : List Value}
theorem hs_get (C : CX l D cy A xi M p R s mm args meth c) (hH : wH D cy A S H) (hf : FL (md_y M).cls i cc j ty fin ns) (ho : ob S cc a) (h : decode (md_c M) pc = .ok (.getfield i, 3))
    (kk : W p l e R s mm args below meth c H locs cells slots Q (F0 mm (pc + 3) ls (fv S cc j a :: rest))) : W p l e R s mm args below meth c H locs cells slots Q (F0 mm pc ls (.ref a :: rest)) := by
  obtain ⟨C0, T, N, ty0, hc, hj, hd, hn, hws, hty, hnm, hp, hfin, hlf, hln⟩ := hf
  obtain ⟨q, hq⟩ := hs_at (cy := cy) ho.1
  rw [hs_ceo ho.2 (vw_lt hc)] at hq
  have hv : ((List.range (nf cc)).map (fun j => fv S cc j a))[j]? = some (fv S cc j a) := by
    rw [List.getElem?_map, List.getElem?_range (by rw [hn]; exact hj)]
    rfl
  cases ns with
  | false =>
    obtain ⟨-, hl⟩ := hlf rfl
    exact va_get (D := D) (T := T) C.1 C.2.1 (cx_ts C) hws (cx_own C) (cx_K C) hH.1 q hq hc j hj (cx_ts C _ hl) (fun x hx => by rw [hd] at hx; exact hx) hv h kk
  | true =>
    obtain ⟨host, hl⟩ := hln rfl
    exact va_getN (D := D) (T := T) (host := host) C.1 C.2.1 (cx_ts C) hws (cx_own C) (cx_K C) hH.1 q hq hc j hj (cx_N C hl rfl rfl) (fun x hx => by rw [hd] at hx; exact hx) hv h kk
theorem hs_put (C : CX l D cy A xi M p R s mm args meth c) (hH : wH D cy A S H) (hS : va_S A s.heap H locs) (hf : FL (md_y M).cls i cc j ty fin ns) (ho : ob S cc a) (hnar : narrow ty v = v) (hfit : fits ty v = true) (hi : fin = false ∨ ns = false ∧ (md_y M).name = "<init>")
    (h : decode (md_c M) pc = .ok (.putfield i, 3)) (h1 : fv S' cc j a = v) (h2 : j < nf cc → ∀ d i b, (d, i, b) ≠ (cc, j, a) → i < nf d → fv S' d i b = fv S d i b)
    (hL : hp_L S' = hp_L S) (hK : hp_K S' = hp_K S) (hN : hp_N S' = hp_N S) (hii : hp_i S' = hp_i S) (hjj : hp_j S' = hp_j S) (hrr : hp_r S' = hp_r S)
    (kk : ∀ (H' : Heap) (locs' : List Loc), wH D cy A S' H' → va_S A s.heap H' locs' → W p l e R s mm args below meth c H' locs' cells slots Q (F0 mm (pc + 3) ls rest)) : W p l e R s mm args below meth c H locs cells slots Q (F0 mm pc ls (v :: .ref a :: rest)) := by
  obtain ⟨C0, T, N, ty0, hc, hj, hd, hn, hws, hty, hnm, hp, hfin, hlf, hln⟩ := hf
  obtain ⟨q, hq⟩ := hs_at (cy := cy) ho.1
  have hq0 := hq
  rw [hs_ceo ho.2 (vw_lt hc)] at hq
  have hjn : j < nf cc := by rw [hn]; exact hj
  have hlen : j < ((List.range (nf cc)).map (fun j => fv S cc j a)).length := by simpa using hjn
  have hFF : hs_F cy S S' cc j a v := hs_F_of (vw_lt hc) ho.2 hK hN hii hjj hrr h1 (h2 hjn)
  have hk2 : ∀ (H1 : Heap) (locs1 : List Loc), va_P D vwCl ((wl cy S).set q (a, .inr (cc, ((List.range (nf cc)).map (fun j => fv S cc j a)).set j v))) H1 → va_D A ((wl cy S).set q (a, .inr (cc, ((List.range (nf cc)).map (fun j => fv S cc j a)).set j v))) → va_S A s.heap H1 locs1 → W p l e R s mm args below meth c H1 locs1 cells slots Q (F0 mm (pc + 3) ls rest) :=
    fun H1 locs1 hP hD hS1 => kk H1 locs1 (hs_set hH ho.1 hq0 hFF hL hP hD) hS1
  cases ns with
  | false =>
    obtain ⟨hco, hl⟩ := hlf rfl
    cases fin with
    | false => exact va_put (D := D) (T := T) C.1 C.2.1 (cx_ts C) hws ty0 hty hnm (cx_own C) (cx_K C) hH.1 hH.2 hS q hq hc j hj (cx_ts C _ hl) (fun x hx => by rw [hd] at hx; exact hx) hfin hp hnar hfit hlen h hk2
    | true =>
      have hin : (md_y M).name = "<init>" := by
        rcases hi with hi | hi
        · cases hi
        · exact hi.2
      exact va_putF (D := D) (T := T) C.1 C.2.1 (cx_ts C) hws ty0 hty hnm (cx_own C) (cx_K C) hH.1 hH.2 hS q hq hc j hj (cx_ts C _ hl) (fun x hx => by rw [hd] at hx; exact hx) hfin (cx_in C hin) (hd.trans hco) hp hnar hfit hlen h hk2
  | true =>
    obtain ⟨host, hl⟩ := hln rfl
    have hf0 : fin = false := by
      rcases hi with hi | hi
      · exact hi
      · cases hi.1
    subst hf0
    exact va_putN (D := D) (T := T) (host := host) C.1 C.2.1 (cx_ts C) hws ty0 hty hnm (cx_own C) (cx_K C) hH.1 hH.2 hS q hq hc j hj (cx_N C hl rfl rfl) (fun x hx => by rw [hd] at hx; exact hx) hfin hp hnar hfit hlen h hk2
theorem hs_fresh {e0 : va_E} (hD : va_D A (wl cy S ++ [(a, e0)])) : a ∉ hp_L S := by
  intro ha
  obtain ⟨k, hk⟩ := hs_at (cy := cy) ha
  have hl := (List.getElem?_eq_some_iff.mp hk).1
  have := hD.1 k (wl cy S).length (a, ce cy S a) (a, e0) (by rw [List.getElem?_append_left hl]; exact hk) (by simp) rfl
  omega
theorem hs_push {e0 : va_E} (ha : a ∉ hp_L S) (hL : hp_L S' = hp_L S ++ [a]) (he : ∀ b, ce cy S' b = va_up (ce cy S) a e0 b) : wl cy S ++ [(a, e0)] = wl cy S' := by
  unfold wl
  rw [List.append_assoc, va_pl_push ha, hL]
  exact congrArg (fun l => [] ++ l) (va_pl_congr (fun b => (he b).symm))
theorem hs_nwo (hc : cc < 32) (b : Nat) : ce cy (nw_o S cc a) b = va_up (ce cy S) a (.inr (cc, (List.range (nf cc)).map (fun j => dv cc j))) b := by
  by_cases hb : b = a
  · subst hb
    rw [va_up_self, hs_ceo (S := nw_o S cc b) (by simp [nw_o, hp_K, va_up]) hc]
    congr 2
    apply List.map_congr_left
    intro j _
    unfold fv dv
    generalize fk cc j = z
    match z with
    | 0 => simp [hq_I_o, cr_2]
    | 1 => simp [hq_J_o, cr_2]
    | z + 2 => simp [hq_R_o, cr_2, va_rf]
  · rw [va_up_ne _ _ hb]
    have e1 : hp_K (nw_o S cc a) b = hp_K S b := by simp [nw_o, hp_K, va_up, hb]
    have e2 : ∀ d j, fv (nw_o S cc a) d j b = fv S d j b := by
      intro d j
      unfold fv
      generalize fk d j = z
      match z with
      | 0 => simp [hq_I_o, cr_2, hb]
      | 1 => simp [hq_J_o, cr_2, hb]
      | z + 2 => simp [hq_R_o, cr_2, hb]
    simp only [ce, e1, e2]
    rfl
theorem hs_new (C : CX l D cy A xi M p R s mm args meth c) (hH : wH D cy A S H) (hS : va_S A s.heap H locs) (hN : NL (md_y M).cls i cc) (h : decode (md_c M) pc = .ok (.new i, 3)) (hce : cells + 1 ≤ R.cells) (hsl : slots + nf cc ≤ R.slots)
    (kk : ∀ (a : Nat) (H' : Heap), a ∉ hp_L S → wH D cy A (nw_o S cc a) H' → va_S A s.heap H' locs → W p l e R s mm args below meth c H' locs (cells + 1) (slots + nf cc) Q (F0 mm (pc + 3) ls (.ref a :: rest))) : W p l e R s mm args below meth c H locs cells slots Q (F0 mm pc ls rest) := by
  obtain ⟨C0, T, N, ty0, hc, hn, hws, hty, hdv, h1, h2, h3⟩ := hN
  refine va_new (D := D) (T := T) (ci := cc) (fs := (List.range (nf cc)).map (fun j => dv cc j)) C.1 C.2.1 (cx_ts C) hws ty0 hty (cx_own C) (cx_ts C _ h1) (cx_ts C _ h2) (cx_ts C _ h3) (cx_K C) hH.1 hH.2 hS (cx_A C) hc (fun j hj => ?_) hce (by rw [← hn]; exact hsl) h (fun q H1 hP hD hS1 => ?_)
  · rw [hdv j hj, vp_V, List.getD_eq_getElem?_getD, List.getElem?_map, List.getElem?_range (by rw [hn]; exact hj)]
    rfl
  · have hq := hs_fresh hD
    rw [hs_push (S' := nw_o S cc q) hq rfl (hs_nwo (vw_lt hc))] at hP hD
    have := kk q H1 hq ⟨hP, hD⟩ hS1
    rw [hn] at this
    exact this
theorem hs_nwa {e0 : va_E} {kd n : Nat} (he : ce cy (nw_a S kd a n) a = e0) (b : Nat) : ce cy (nw_a S kd a n) b = va_up (ce cy S) a e0 b := by
  by_cases hb : b = a
  · subst hb
    rw [va_up_self, he]
  · rw [va_up_ne _ _ hb]
    have e1 : hp_K (nw_a S kd a n) b = hp_K S b := by simp [hq_K_a, va_up, hb]
    have e2 : ∀ d j, fv (nw_a S kd a n) d j b = fv S d j b := fun d j => by simp only [fv, hq_I_a, hq_J_a, hq_R_a]
    have e3 : hp_N (nw_a S kd a n) b = hp_N S b := by simp [hq_N_a, va_up, hb]
    have e4 : hp_i (nw_a S kd a n) b = hp_i S b := by simp [hq_i_a, va_up, hb]
    have e5 : hp_j (nw_a S kd a n) b = hp_j S b := by simp [hq_j_a, va_up, hb]
    have e6 : hp_r (nw_a S kd a n) b = hp_r S b := by simp [hq_r_a, va_up, hb]
    simp only [ce, e1, e2, e3, e4, e5, e6]
theorem hs_cA (C : CX l D cy A xi M p R s mm args meth c) {cA : ClassId} {t : Nat} {tt : FieldType} (ht : (tyL cy)[t]? = some (cy t, tt)) (hK : va_K D vwCl (tyL cy ++ [(cA, tt)]) s) (hr : ∀ x y : ClassId, va_RA s x tt → va_RA s y tt → x = y) : cA = cy t :=
  hr _ _ (hK.2 (tyL cy).length (cA, tt) (by simp)).2 ((cx_K C).2 t _ ht).2
theorem hs_newI {x : Int32} {len : Nat} (C : CX l D cy A xi M p R s mm args meth c) (hH : wH D cy A S H) (hS : va_S A s.heap H locs) (hw : Cond.arrayClass .int ∈ wT) (hx : ¬ x < 0) (hlen : x.toNatClampNeg = len) (hb : len ≤ 1000000) (h : decode (md_c M) pc = .ok (.newarray .int, 2)) (hce : cells + 1 ≤ R.cells) (hsl : slots + len ≤ R.slots)
    (kk : ∀ (a : Nat) (H' : Heap), a ∉ hp_L S → wH D cy A (nw_a S 32 a len) H' → va_S A s.heap H' locs → W p l e R s mm args below meth c H' locs (cells + 1) (slots + len) Q (F0 mm (pc + 2) ls (.ref a :: rest))) : W p l e R s mm args below meth c H locs cells slots Q (F0 mm pc ls (.int x :: rest)) := by
  refine va_newa (atype := .int) (ty := .int) (a0 := (len, .inl (fun _ => 0))) C.1 C.2.1 (cx_ts C _ hw) rfl (cx_K C) hH.1 hH.2 hS (cx_A C) (fun cA => by rw [vp_cell_i]; rfl) hx hlen (by show len * 4 ≤ 536870912; omega) hce hsl h (fun q cA H1 hK hP hD hS1 => ?_)
  have e0 : cA = cy 0 := hs_cA C (t := 0) (tt := .int) rfl hK (fun x y h1 h2 => Option.some.inj (h1.symm.trans h2))
  subst e0
  have hq := hs_fresh hD
  rw [hs_push (S' := nw_a S 32 q len) hq (hq_L_a ..) (hs_nwa (by rw [hs_ce32 (by simp [hq_K_a, va_up])]; simp [hq_N_a, hq_i_a, va_up]))] at hP hD
  exact kk q H1 hq ⟨hP, hD⟩ hS1
theorem hs_newJ {x : Int32} {len : Nat} (C : CX l D cy A xi M p R s mm args meth c) (hH : wH D cy A S H) (hS : va_S A s.heap H locs) (hw : Cond.arrayClass .long ∈ wT) (hx : ¬ x < 0) (hlen : x.toNatClampNeg = len) (hb : len ≤ 1000000) (h : decode (md_c M) pc = .ok (.newarray .long, 2)) (hce : cells + 1 ≤ R.cells) (hsl : slots + len ≤ R.slots)
    (kk : ∀ (a : Nat) (H' : Heap), a ∉ hp_L S → wH D cy A (nw_a S 33 a len) H' → va_S A s.heap H' locs → W p l e R s mm args below meth c H' locs (cells + 1) (slots + len) Q (F0 mm (pc + 2) ls (.ref a :: rest))) : W p l e R s mm args below meth c H locs cells slots Q (F0 mm pc ls (.int x :: rest)) := by
  refine va_newa (atype := .long) (ty := .long) (a0 := (len, .inr (.inl (fun _ => 0)))) C.1 C.2.1 (cx_ts C _ hw) rfl (cx_K C) hH.1 hH.2 hS (cx_A C) (fun cA => by rw [vp_cell_l]; rfl) hx hlen (by show len * 8 ≤ 536870912; omega) hce hsl h (fun q cA H1 hK hP hD hS1 => ?_)
  have e0 : cA = cy 1 := hs_cA C (t := 1) (tt := .long) rfl hK (fun x y h1 h2 => Option.some.inj (h1.symm.trans h2))
  subst e0
  have hq := hs_fresh hD
  rw [hs_push (S' := nw_a S 33 q len) hq (hq_L_a ..) (hs_nwa (by rw [hs_ce33 (by simp [hq_K_a, va_up])]; simp [hq_N_a, hq_j_a, va_up]))] at hP hD
  exact kk q H1 hq ⟨hP, hD⟩ hS1
theorem hs_newZ {x : Int32} {len : Nat} (C : CX l D cy A xi M p R s mm args meth c) (hH : wH D cy A S H) (hS : va_S A s.heap H locs) (hw : Cond.arrayClass .boolean ∈ wT) (hx : ¬ x < 0) (hlen : x.toNatClampNeg = len) (hb : len ≤ 1000000) (h : decode (md_c M) pc = .ok (.newarray .boolean, 2)) (hce : cells + 1 ≤ R.cells) (hsl : slots + len ≤ R.slots)
    (kk : ∀ (a : Nat) (H' : Heap), a ∉ hp_L S → wH D cy A (nw_a S 34 a len) H' → va_S A s.heap H' locs → W p l e R s mm args below meth c H' locs (cells + 1) (slots + len) Q (F0 mm (pc + 2) ls (.ref a :: rest))) : W p l e R s mm args below meth c H locs cells slots Q (F0 mm pc ls (.int x :: rest)) := by
  refine va_newa (atype := .boolean) (ty := .boolean) (a0 := (len, .inl (fun _ => 0))) C.1 C.2.1 (cx_ts C _ hw) rfl (cx_K C) hH.1 hH.2 hS (cx_A C) (fun cA => by rw [vp_cell_i]; rfl) hx hlen (by show len * 1 ≤ 536870912; omega) hce hsl h (fun q cA H1 hK hP hD hS1 => ?_)
  have e0 : cA = cy 2 := hs_cA C (t := 2) (tt := .boolean) rfl hK (fun x y h1 h2 => Option.some.inj (h1.symm.trans h2))
  subst e0
  have hq := hs_fresh hD
  rw [hs_push (S' := nw_a S 34 q len) hq (hq_L_a ..) (hs_nwa (by rw [hs_ce34 (by simp [hq_K_a, va_up])]; simp [hq_N_a, hq_i_a, va_up]))] at hP hD
  exact kk q H1 hq ⟨hP, hD⟩ hS1
theorem hs_newP {x : Int32} {len : Nat} (C : CX l D cy A xi M p R s mm args meth c) (hH : wH D cy A S H) (hS : va_S A s.heap H locs) (hw : Cond.classLink (md_y M).cls i RX5 ∈ wT) (hx : ¬ x < 0) (hlen : x.toNatClampNeg = len) (hb : len ≤ 1000000) (h : decode (md_c M) pc = .ok (.anewarray i, 3)) (hce : cells + 1 ≤ R.cells) (hsl : slots + len ≤ R.slots)
    (kk : ∀ (a : Nat) (H' : Heap), a ∉ hp_L S → wH D cy A (nw_a S 35 a len) H' → va_S A s.heap H' locs → W p l e R s mm args below meth c H' locs (cells + 1) (slots + len) Q (F0 mm (pc + 3) ls (.ref a :: rest))) : W p l e R s mm args below meth c H locs cells slots Q (F0 mm pc ls (.int x :: rest)) := by
  refine va_newq C.1 C.2.1 (cx_own C) (cx_ts C _ hw) (cx_S C).2.2.2.2.2.2.2.2.2 (cx_K C) hH.1 hH.2 hS (cx_A C) hx hlen (by omega) hce hsl h (fun q cA H1 hK hP hD hS1 => ?_)
  have e0 : cA = cy 3 := hs_cA C (t := 3) (tt := .object RX5) rfl hK (fun x y h1 h2 => by
    obtain ⟨_, _, _, _, _, h1⟩ := h1
    obtain ⟨_, _, _, _, _, h2⟩ := h2
    exact Option.some.inj (h1.symm.trans h2))
  subst e0
  have hq := hs_fresh hD
  rw [hs_push (S' := nw_a S 35 q len) hq (hq_L_a ..) (hs_nwa (by rw [hs_ce35 (by simp [hq_K_a, va_up])]; simp [hq_N_a, hq_r_a, va_up]))] at hP hD
  exact kk q H1 hq ⟨hP, hD⟩ hS1
end HW
/-! a method's contract out of XM at its entry -/
theorem cs_move {l : Launch} {D : va_G} {cy : Nat → ClassId} {A : Nat → Prop} {xi : Nat × Nat × (Nat → Int32)} {s U : State} {H0 H : Heap} (h : CS l D cy A xi s H0) (hW : s.WarmedH U.vm) (hz : H0.size ≤ H.size) (hk : ∀ q : Nat, q < H0.size → ¬ A q → H[q]? = H0[q]?) : CS l D cy A xi U H := by
  obtain ⟨h1, h2, h3, h4, h5, h6, h7, h8, ⟨h9, h10, h11⟩, h12⟩ := h
  refine ⟨va_K.moved hW.alike h1, fun w hw hn => ?_, (vx_Zq.moved hW.alike h3).kept hk, (vx_Zq.moved hW.alike h4).kept hk, h5, fun own k tx hw => ?_, fun w hw hn => ?_, va_Nc.moved hW.alike h8, ⟨(va_X.moved hW.alike h9).kept (hk _ h10 h11), Nat.lt_of_lt_of_le h10 hz, h11⟩, va_AO.moved hW.alike h12⟩
  · have h9 := h2 w hw hn
    cases w with
    | fieldLinkNest a i b n d host => exact va_Nw.warmF hW h9
    | methodLinkNest a i y host => exact va_Nw.warmM hW h9
    | _ => simp [isN] at hn
  · obtain ⟨a, ha⟩ := h6 own k tx hw
    exact ⟨a, vk_R.warm hW ha⟩
  · have h9 := h7 w hw hn
    cases w with
    | castable a b => exact va_Nw.warmC hW h9
    | declares x => exact va_Nw.warmD hW h9
    | _ => simp [isC] at hn
abbrev ws_M (M : MD) : List Cond := Cond.code (md_y M) (md_c M) (md_L M) (md_r M) :: wT
abbrev rm_M (M : MD) (k n : Nat) : Room := { frames := md_f M, cells := k, slots := n, locals := md_l M }
def pc_M (l : Launch) (D : va_G) (cy : Nat → ClassId) (A : Nat → Prop) (xi : Nat × Nat × (Nat → Int32)) (As : List Value) (S : Hp) : Array Value → State → Prop := va_Pc As (fun U => CS l D cy A xi U U.heap ∧ wH D cy A S U.heap ∧ ∀ q, U.heap.size ≤ q → A q)
def qc_M (D : va_G) (cy : Nat → ClassId) (A : Nat → Prop) (P : Po) : Array Value → State → Outcome → State → Prop := fun _ st o t => ∃ (v : Option Value) (S' : Hp) (kl nl : Nat), o = .returned v ∧ P (.inl v) S' kl nl ∧ wH D cy A S' t.heap ∧ va_F A st t
/-- what is left of the room k, n, too -/
def qy_M (D : va_G) (cy : Nat → ClassId) (A : Nat → Prop) (k n : Nat) (P : Po) : Nat → Nat → Array Value → State → Outcome → State → Prop := fun c9 s9 a st o t => ∃ (kl nl : Nat), c9 + kl = k ∧ s9 + nl = n ∧ qc_M D cy A (fun r S' x y => P r S' x y ∧ x = kl ∧ y = nl) a st o t
def xc_M (D : va_G) (cy : Nat → ClassId) (A : Nat → Prop) (P : Po) : String → State → State → Prop := fun E st t => ∃ S' : Hp, P (.inr E) S' 0 0 ∧ wH D cy A S' t.heap ∧ va_F A st t
section FNS
variable {l : Launch} {D : va_G} {cy : Nat → ClassId} {A : Nat → Prop} {xi : Nat × Nat × (Nat → Int32)} {M : MD} {p : Program} {e : Env} {R : Room} {s : State} {mm : MethodId} {args : Array Value} {below : List Frame} {meth : Method} {c : Code} {P : Po} {S : Hp} {H H' : Heap} {locs : List Loc}
theorem wH_kept (h : wH D cy A S H) (hk : ∀ q : Nat, q < H.size → H'[q]? = H[q]?) : wH D cy A S H' := ⟨h.1.kept (fun k q hq => hk _ (h.1 k q hq).lt), h.2⟩
/-- an answer, as Met has it -/
theorem fn_ret (C : CX l D cy A xi M p R s mm args meth c) {mc ms : Nat} (v : Option Value) (S' : Hp) (H' : Heap) (locs' : List Loc) (pc : Nat) (ls' : Array Slot) {kl nl : Nat} (hP : P (.inl v) S' kl nl) (hH : wH D cy A S' H') (hS : va_S A s.heap H' locs') (hr : RT M pc v) :
    W p l e R s mm args below meth c H' locs' mc ms (MQ below (qc_M D cy A P) args s mc ms A) (F0 mm pc ls' v.toList) := by
  have hx := C.1
  have hb := C.2.1
  have hret := C.2.2.1
  have hlk := cx_lk C
  have hq : ∀ t : State, t.heap = H' → s.WarmedH t.vm → qc_M D cy A P args s (.returned v) t := fun t ht _ => ⟨v, S', kl, nl, rfl, hP, by rw [ht]; exact hH, hS.F ht⟩
  match v, hr with
  | none, hr => exact W.vret hx hb (hret.trans hr.2) hq hS.2.2 hr.1 hlk
  | some (.int x), hr =>
    obtain ⟨h1, ty, h2, h3⟩ := hr
    exact W.zret hx hb (hret.trans h2) h3 hq hS.2.2 h1 hlk
  | some (.long x), hr => exact W.lret hx hb (hret.trans hr.2) hq hS.2.2 hr.1 hlk
  | some (.ref x), hr =>
    obtain ⟨h1, rt, h2, h3⟩ := hr
    exact W.aret hx hb (hret.trans h2) h3 (Or.inr ⟨x, rfl⟩) hq hS.2.2 h1 hlk
  | some .null, hr =>
    obtain ⟨h1, rt, h2, h3⟩ := hr
    exact W.aret hx hb (hret.trans h2) h3 (Or.inl rfl) hq hS.2.2 h1 hlk
theorem W_mq {g : JFrame} {cells slots mc ms : Nat} {Qa Qb : Array Value → State → Outcome → State → Prop} {free : Addr → Prop} (hq : ∀ t o, Qa args s o t → Qb args s o t) (k : W p l e R s mm args below meth c H locs cells slots (MQ below Qa args s mc ms free) g) : W p l e R s mm args below meth c H locs cells slots (MQ below Qb args s mc ms free) g := by
  intro T hT X
  obtain ⟨t, a1, o, b1, b2, b3, b4⟩ := k T hT X
  exact ⟨t, a1, o, b1, b2, hq t o b3, b4⟩
theorem fn_vx (C : CX l D cy A xi M p R s mm args meth c) {mc ms : Nat} : FN l D cy A xi M p e R s mm args below meth c mc ms P (vy_MQ below (qy_M D cy A mc ms P) (xc_M D cy A P) args s mc ms A) := by
  refine ⟨fun v S' H' locs' pc ls' c9 s9 kl nl hP hk hn hH hS hr => vy_ret (c9 := c9) (s9 := s9) (by omega) (by omega) (W_mq (fun t o h => ⟨kl, nl, hk, hn, h⟩) (fn_ret (P := fun r S' x y => P r S' x y ∧ x = kl ∧ y = nl) C v S' H' locs' pc ls' ⟨hP, rfl, rfl⟩ hH hS hr)), fun E S' H' locs' q cx pc ls' rest' hP hH hS hq hv hcl ht => ?_, fun E S' H' locs' cells' slots' pc ls' rest' hP hH hS ht hl hr h1 h2 h3 h4 => ?_⟩
  · refine vy_X (vx_out (fun x hx => ?_) (cx_lk C) hq hv hcl (fun t ht _ => ⟨S', hP, by rw [ht]; exact hH, hS.F ht⟩) hS.2.2 (Nat.le_refl _) (Nat.le_refl _))
    rw [cx_tb C, ht] at hx
    cases hx
  · obtain ⟨ik, is, ic, text, d0, d3, d4, d6, d9, hfit, hk, hini, hstr, hat, hgood, htab, hf, hlo⟩ := ht
    obtain ⟨-, -, hU, hN, hst, hsr, hca, -⟩ := cx_S C
    obtain ⟨sa, hsa⟩ := hsr _ _ _ hstr
    refine vy_W (vx_throwS (names := ["java/lang/RuntimeException", "java/lang/Exception"]) (A := A) C.1 C.2.1 hst (cx_own C) hfit (by decide) (cx_ts C _ hk) (cx_ts C _ hini) hsa (fun w hw => ?_) hgood hU hN hS (by rw [C.2.2.2.1]; exact hl) d0 d3 d4 d6 d9 (fun x hx => ?_) ?_ ?_ (Nat.le_trans h1 h3) (Nat.le_trans h2 h4) (cx_lk C) (fun t hvm hz hk9 => ⟨S', hP, wH_kept hH hk9, ?_⟩) hS.2.2 h1 h2)
    · rcases hat w hw with h | ⟨h, h'⟩
      · exact cx_ts C _ h
      · cases w with
        | castable a b => exact va_Nw.use rfl (hca _ h' h)
        | declares x => exact va_Nw.use rfl (hca _ h' h)
        | _ => simp [isC] at h
    · rw [cx_tb C, htab] at hx
      cases hx
    · have := (cx_rm C).1
      show 2 + 3 < R.frames
      omega
    · have := (cx_rm C).2
      show (rest'.map fun v => v.category).sum + (13 * (2 + 1) + 43) ≤ R.locals
      omega
    · exact ⟨Nat.le_trans hS.1 hz, fun q h1 h2 => by rw [hk9 q (Nat.lt_of_lt_of_le h1 hS.1)]; exact hS.2.1 q h1 h2⟩
theorem fn_met (C : CX l D cy A xi M p R s mm args meth c) {mc ms : Nat} (hP : ∀ E S', ¬ P (.inr E) S' 0 0) : FN l D cy A xi M p e R s mm args below meth c mc ms P (MQ below (qc_M D cy A P) args s mc ms A) :=
  ⟨fun v S' H' locs' pc ls' c9 s9 kl nl hP hk hn hH hS hr => W.widen (k := mc) (n := ms) (by omega) (by omega) (fn_ret C v S' H' locs' pc ls' hP hH hS hr), fun E S' _ _ _ _ _ _ _ h => absurd h (hP E S'), fun E S' _ _ _ _ _ _ _ h => absurd h (hP E S')⟩
theorem pc_blind {As : List Value} : FrameBlind (pc_M l D cy A xi As S) := by
  intro a U g mk h
  obtain ⟨h0, h1, h2, h3⟩ := h
  exact ⟨h0, cs_move h1 (State.WarmedH.refl U) (Nat.le_refl _) (fun _ _ _ => rfl), h2, h3⟩
end FNS
theorem cx_of {l : Launch} {D : va_G} {cy : Nat → ClassId} {A : Nat → Prop} {xi : Nat × Nat × (Nat → Int32)} {M : MD} {k n : Nat} {p : Program} {e : Env} {s s₁ : State} {m : MethodId} {args : Array Value} {below : List Frame} {meth : Method} {c : Code} (hh : md_h M = [])
    (B : BodyLoose p l (md_y M) (headSpec (ws_M M) (rm_M M k n)) (md_c M) (md_L M) (md_r M) e s m args below meth c s₁) (hml : c.maxLocals = md_L M) (ht : ∀ x ∈ c.exceptionTable.toList, False) (h1 : CS l D cy A xi s s.heap) (h2 : ∀ q, s.heap.size ≤ q → A q) : CX l D cy A xi M p (rm_M M k n) s m args meth c := by
  have hts := atoms_spec (ws := ws_M M) B.pre
  refine ⟨B.exec, B.bytes, B.returns, hml, findClass_of_methodNamed B.named, fun w hw => hts w (List.mem_cons_of_mem _ hw), B.notSynchronized, ⟨Nat.le_refl _, Nat.le_refl _⟩, ?_, fun hn => ?_, h1, h2⟩
  · rw [hh]
    exact List.eq_nil_iff_forall_not_mem.mpr (fun x hx => ht x hx)
  · rw [(name_of_methodNamed B.named B.method).1]
    exact hn
theorem met_vx {l : Launch} {D : va_G} {cy : Nat → ClassId} {A : Nat → Prop} {xi : Nat × Nat × (Nat → Int32)} {M : MD} {a k n : Nat} {As : List Value} {S : Hp} {P : Po} (hM : MK M a) (hlen : (lg_sl As).length ≤ md_L M) (h : XM l D cy A xi M 0 (lv_args 0 As) [] S k n P) :
    vy_Met l (md_y M) (ws_M M) (rm_M M k n) (pc_M l D cy A xi As S) (qy_M D cy A k n P) (xc_M D cy A P) k n A := by
  refine vy_ofW (cc := md_c M) (maxL := md_L M) (ret := md_r M) hM.2.2.2.2.1 rfl ?_
  intro p e s m args below meth c s₁ B hml ht hv
  obtain ⟨rfl, h1, h2, h3⟩ := hv
  have C := cx_of hM.2.2.2.2.2 B hml ht h1 h3
  rw [lg_entry_eq]
  have h9 := h p e (rm_M M k n) s m As.toArray below meth c _ s.heap [] 0 0 _ C h2 va_S.rf (lv_entry As hlen) (by show 0 + k ≤ k; omega) (by show 0 + n ≤ n; omega) (fn_vx (e := e) (below := below) C (mc := 0 + k) (ms := 0 + n))
  rw [Nat.zero_add, Nat.zero_add] at h9
  exact h9
theorem met_mt {l : Launch} {D : va_G} {cy : Nat → ClassId} {A : Nat → Prop} {xi : Nat × Nat × (Nat → Int32)} {M : MD} {a k n : Nat} {As : List Value} {S : Hp} {P : Po} (hM : MK M a) (hy : plainName (md_y M).cls = true) (hlen : (lg_sl As).length ≤ md_L M) (hP : ∀ E S', ¬ P (.inr E) S' 0 0) (h : XM l D cy A xi M 0 (lv_args 0 As) [] S k n P) :
    Met l (md_y M) (ws_M M) (rm_M M k n) (pc_M l D cy A xi As S) (qc_M D cy A P) k n A := by
  refine Met.ofW (cc := md_c M) (maxL := md_L M) (ret := md_r M) hy rfl ?_
  intro p e s m args below meth c s₁ B hml hv
  obtain ⟨rfl, h1, h2, h3⟩ := hv
  have ht : ∀ x ∈ c.exceptionTable.toList, False := by
    obtain ⟨meth9, c9, h1, h2, -, -, -, -, h7, -⟩ := Cond.code_spec B.named (atoms_spec (ws := ws_M M) B.pre _ List.mem_cons_self)
    cases Option.some.inj (h1.symm.trans B.method)
    cases Option.some.inj (h2.symm.trans (Stand.of_body B).code)
    intro x hx
    rw [Array.isEmpty_iff.mp h7] at hx
    cases hx
  have C := cx_of hM.2.2.2.2.2 B hml ht h1 h3
  rw [lg_entry_eq]
  have h9 := h p e (rm_M M k n) s m As.toArray below meth c _ s.heap [] 0 0 _ C h2 va_S.rf (lv_entry As hlen) (by show 0 + k ≤ k; omega) (by show 0 + n ≤ n; omega) (fn_met (e := e) (below := below) C (mc := 0 + k) (ms := 0 + n) hP)
  rw [Nat.zero_add, Nat.zero_add] at h9
  exact h9
abbrev wsW_M (M : MD) : List Cond := Cond.codeWith (md_y M) (md_c M) (md_L M) (md_r M) (md_h M) :: wT
theorem cx_ofW {l : Launch} {D : va_G} {cy : Nat → ClassId} {A : Nat → Prop} {xi : Nat × Nat × (Nat → Int32)} {M : MD} {k n : Nat} {p : Program} {e : Env} {s s₁ : State} {m : MethodId} {args : Array Value} {below : List Frame} {meth : Method} {c : Code}
    (B : BodyLoose p l (md_y M) (headSpec (wsW_M M) (rm_M M k n)) (md_c M) (md_L M) (md_r M) e s m args below meth c s₁) (hml : c.maxLocals = md_L M) (h1 : CS l D cy A xi s s.heap) (h2 : ∀ q, s.heap.size ≤ q → A q) : CX l D cy A xi M p (rm_M M k n) s m args meth c := by
  have hts := atoms_spec (ws := wsW_M M) B.pre
  refine ⟨B.exec, B.bytes, B.returns, hml, findClass_of_methodNamed B.named, fun w hw => hts w (List.mem_cons_of_mem _ hw), B.notSynchronized, ⟨Nat.le_refl _, Nat.le_refl _⟩, ?_, fun hn => ?_, h1, h2⟩
  · exact vx_table (x := md_y M) B (hts _ List.mem_cons_self)
  · rw [(name_of_methodNamed B.named B.method).1]
    exact hn
theorem fn_vc {l : Launch} {D : va_G} {cy : Nat → ClassId} {A : Nat → Prop} {xi : Nat × Nat × (Nat → Int32)} {M : MD} {p : Program} {e : Env} {R : Room} {s : State} {mm : MethodId} {args : Array Value} {below : List Frame} {meth : Method} {c : Code} {P : Po} (C : CX l D cy A xi M p R s mm args meth c) (hne : md_h M ≠ []) {mc ms : Nat} : FN l D cy A xi M p e R s mm args below meth c mc ms P (vx_MQ below (qc_M D cy A P) (xc_M D cy A P) args s mc ms A) :=
  ⟨fun v S' H' locs' pc ls' c9 s9 kl nl hP hk hn hH hS hr => W.widen (k := mc) (n := ms) (by omega) (by omega) (vx_ret (fn_ret C v S' H' locs' pc ls' hP hH hS hr)), fun E S' _ _ _ _ _ _ _ _ _ _ _ _ _ h => absurd h hne, fun E S' _ _ _ _ _ _ _ _ _ _ ht => by obtain ⟨_, _, _, _, _, _, _, _, _, _, _, _, _, _, _, h, _⟩ := ht; exact absurd h hne⟩
theorem met_vw {l : Launch} {D : va_G} {cy : Nat → ClassId} {A : Nat → Prop} {xi : Nat × Nat × (Nat → Int32)} {M : MD} {a k n : Nat} {As : List Value} {S : Hp} {P : Po} (hM : MKW M a) (hlen : (lg_sl As).length ≤ md_L M) (h : XM l D cy A xi M 0 (lv_args 0 As) [] S k n P) :
    vx_Met l (md_y M) (wsW_M M) (rm_M M k n) (pc_M l D cy A xi As S) (qc_M D cy A P) (xc_M D cy A P) k n A := by
  refine vx_ofWH (cc := md_c M) (maxL := md_L M) (ret := md_r M) (hh := md_h M) hM.2.2.2.2.1 rfl ?_
  intro p e s m args below meth c s₁ B hml hv
  obtain ⟨rfl, h1, h2, h3⟩ := hv
  have C := cx_ofW B hml h1 h3
  rw [lg_entry_eq]
  have h9 := h p e (rm_M M k n) s m As.toArray below meth c _ s.heap [] 0 0 _ C h2 va_S.rf (lv_entry As hlen) (by show 0 + k ≤ k; omega) (by show 0 + n ≤ n; omega) (fn_vc (e := e) (below := below) C hM.2.2.2.2.2 (mc := 0 + k) (ms := 0 + n))
  rw [Nat.zero_add, Nat.zero_add] at h9
  exact h9
theorem wsW_good {M : MD} {a : Nat} (hM : MKW M a) : GoodIn wT (wsW_M M) := by
  intro w hw
  rcases List.mem_cons.mp hw with rfl | hw
  · exact ⟨hM.1, good_of_word (List.mem_filter.mp hM.1).2⟩
  · exact ⟨hw, good_of_word (List.mem_filter.mp hw).2⟩
theorem ws_good {M : MD} {a : Nat} (hM : MK M a) : GoodIn wT (ws_M M) := by
  intro w hw
  rcases List.mem_cons.mp hw with rfl | hw
  · exact ⟨hM.1, good_of_word (List.mem_filter.mp hM.1).2⟩
  · exact ⟨hw, good_of_word (List.mem_filter.mp hw).2⟩
section RUNS
variable {l : Launch} {D : va_G} {cy : Nat → ClassId} {A : Nat → Prop} {xi : Nat × Nat × (Nat → Int32)} {M N : MD} {p : Program} {e : Env} {R : Room} {s : State} {mm : MethodId} {args a : Array Value} {below : List Frame} {meth : Method} {c : Code} {Mid : Po} {S : Hp} {H : Heap} {locs : List Loc} {cells slots k1 n1 pc i b cn : Nat} {ls : Array Slot} {st0 rest As : List Value} {Q : State → Prop} {L : List (Nat × Value)}
theorem run_vx (hr : vy_Run p l e R s mm args below meth c H locs cells slots k1 n1 (F0 mm pc ls st0) rest (fun c9 s9 => qy_M D cy A k1 n1 Mid c9 s9 a) (xc_M D cy A Mid) A) (hS : va_S A s.heap H locs)
    (kk : ∀ (v : Option Value) (S' : Hp) (H' : Heap) (locs' : List Loc) (c9 s9 kl nl : Nat), c9 + kl = k1 → s9 + nl = n1 → Mid (.inl v) S' kl nl → wH D cy A S' H' → va_S A s.heap H' locs' → W p l e R s mm args below meth c H' locs' (cells + c9) (slots + s9) Q (F0 mm (pc + 3) ls (v.toList ++ rest)))
    (kx : ∀ (E : String) (S' : Hp) (H' : Heap) (locs' : List Loc) (q : Addr) (cx : Cell), Mid (.inr E) S' 0 0 → wH D cy A S' H' → va_S A s.heap H' locs' → H'[q]? = some cx → cx.vm = .none → s.vm.findClass E = some cx.cls → vx_W p l e R s mm args below meth c H' locs' (cells + k1) (slots + n1) Q (F0 mm pc ls rest) q) :
    W p l e R s mm args below meth c H locs cells slots Q (F0 mm pc ls st0) := by
  intro T hT X
  rcases hr T hT X with ⟨v, c9, s9, hc9, hs9, st₀, t, T', L, h0, X', hL, e1, e2, ⟨kl, nl, hkl, hnl, v', S', x9, y9, hv, ⟨hp, hx9, hy9⟩, hb, hF⟩, st⟩ | ⟨q, st₀, t, T', L, E, ce, h0, X', hL, e1, e2, ⟨S', hp, hb, hF⟩, hce, hcv, hcl, st⟩
  · cases hv
    subst hx9; subst hy9
    obtain ⟨k1, k2, k3⟩ := vx_keep h0 e1 hS (fun _ _ h => h) (fun _ h => h) hL hF
    obtain ⟨t2, a1, b1⟩ := kk v S' T'.heap (locs ++ L) c9 s9 x9 y9 hkl hnl hp (by rw [e1]; exact hb) k3 T' rfl X'
    exact ⟨t2, st t2 a1, b1⟩
  · obtain ⟨k1, k2, k3⟩ := vx_keep h0 e1 hS (fun _ _ h => h) (fun _ h => h) hL hF
    obtain ⟨t2, a1, b1⟩ := kx E S' T'.heap (locs ++ L) q ce hp (by rw [e1]; exact hb) k3 (by rw [e1]; exact hce) hcv hcl T' rfl X'
    exact ⟨t2, st.trans a1, b1⟩
theorem run_mt (hr : va_Run p l e R s mm args below meth c H locs cells slots k1 n1 (F0 mm pc ls st0) rest (qc_M D cy A Mid a) A) (hS : va_S A s.heap H locs)
    (kk : ∀ (v : Option Value) (S' : Hp) (H' : Heap) (locs' : List Loc) (kl nl : Nat), Mid (.inl v) S' kl nl → wH D cy A S' H' → va_S A s.heap H' locs' → W p l e R s mm args below meth c H' locs' (cells + k1) (slots + n1) Q (F0 mm (pc + 3) ls (v.toList ++ rest))) :
    W p l e R s mm args below meth c H locs cells slots Q (F0 mm pc ls st0) := by
  intro T hT X
  obtain ⟨v, st₀, t, T', L, h0, X', hL, e1, e2, ⟨v', S', kl, nl, hv, hp, hb, hF⟩, st⟩ := hr T hT X
  cases hv
  obtain ⟨k1, k2, k3⟩ := vx_keep h0 e1 hS (fun _ _ h => h) (fun _ h => h) hL hF
  obtain ⟨t2, a1, b1⟩ := kk v S' T'.heap (locs ++ L) kl nl hp (by rw [e1]; exact hb) k3 T' rfl X'
  exact ⟨t2, st t2 a1, b1⟩
theorem ob_cell (C : CX l D cy A xi M p R s mm args meth c) (hH : wH D cy A S H) (ho : ob S cn b) {C0 : String} (hcn : (vwCl[cn]?).map (fun r => r.1) = some C0) : ∃ cellB : Cell, H[b]? = some cellB ∧ cellB.vm.isStatics = false ∧ s.vm.findClass C0 = some cellB.cls := by
  cases hr : vwCl[cn]? with
  | none => rw [hr] at hcn; cases hcn
  | some r =>
    rw [hr] at hcn
    cases hcn
    obtain ⟨q, hq⟩ := hs_at (cy := cy) ho.1
    rw [hs_ceo ho.2 (vw_lt hr)] at hq
    obtain ⟨r2, h1, cell, h2, h3, h4, -⟩ := hH.1 q _ hq
    obtain ⟨-, hfc, -⟩ := (cx_K C).1 cn r hr
    exact ⟨cell, h2, by rw [h4]; rfl, by rw [h3]; exact hfc⟩
theorem pre_S (C : CX l D cy A xi M p R s mm args meth c) (hH : wH D cy A S H) (hS : va_S A s.heap H locs) : PreS s H (pc_M l D cy A xi As S) As :=
  ⟨pc_blind, fun U hU hW => ⟨rfl, cs_move (cx_S C) hW (by rw [hU]; exact hS.1) (by rw [hU]; exact hS.2.1), by rw [hU]; exact hH, fun q hq => cx_A C q (Nat.le_trans hS.1 (by rw [hU] at hq; exact hq))⟩⟩
theorem cb_of (C : CX l D cy A xi M p R s mm args meth c) {n : Nat} (hM : MK N n) (hl : Cond.methodLink (md_y M).cls i (md_y N) ∈ wT) (hrm : RM M N) : CallB R s args (md_y M).cls i (md_y N) (md_c N) (md_L N) (md_r N) (ws_M N) (rm_M N k1 n1) k1 n1 n :=
  callB_of n (cx_ts C) (ws_good hM) rfl rfl rfl (cx_ts C _ hM.2.1) (cx_ts C _ hl) ⟨hM.2.2.1.1, hM.2.2.1.2, hM.2.2.2.1⟩ ⟨Nat.le_trans hrm.1 (cx_rm C).1, Nat.le_trans hrm.2 (cx_rm C).2⟩
theorem hs_runV (C : CX l D cy A xi M p R s mm args meth c) (hH : wH D cy A S H) (hS : va_S A s.heap H locs) (hcv : CV (md_y M).cls i N As.length) (hrm : RM M N) (ho : ob S cn b) (hcn : (vwCl[cn]?).map (fun r => r.1) = some (md_y N).cls) (hlen : (lg_sl (.ref b :: As)).length ≤ md_L N) (hr8 : (rest.map fun v => v.category).sum ≤ 8)
    (_ : F0 mm pc ls (As.reverse ++ .ref b :: rest) = F0 mm pc ls (As.reverse ++ .ref b :: rest)) (h : decode (md_c M) pc = .ok (.invokevirtual i, 3)) (hl : lv_has ls (md_L M) L) (hc : cells + k1 ≤ R.cells) (hs : slots + n1 ≤ R.slots) (kx : XM l D cy A xi N 0 (lv_args 0 (.ref b :: As)) [] S k1 n1 Mid) :
    vy_Run p l e R s mm args below meth c H locs cells slots k1 n1 (F0 mm pc ls (As.reverse ++ .ref b :: rest)) rest (fun c9 s9 => qy_M D cy A k1 n1 Mid c9 s9 (Value.ref b :: As).toArray) (xc_M D cy A Mid) A :=
  vy_runV (C := (md_y N).cls) (b := b) ⟨C.1, C.2.1, C.2.2.2.1, cx_own C, cx_ts C⟩ (met_vx hcv.1 hlen kx) ⟨cb_of C hcv.1 hcv.2.1 hrm, cx_ts C _ hcv.2.2.1, cx_ts C _ hcv.2.2.2⟩ ⟨pc_blind, ob_cell C hH ho hcn, (pre_S (As := .ref b :: As) C hH hS).2⟩ rfl rfl hl.1 rfl (lv_room hr8) h ⟨hc, hs⟩
theorem hs_runS (C : CX l D cy A xi M p R s mm args meth c) (hH : wH D cy A S H) (hS : va_S A s.heap H locs) (hcv : CT (md_y M).cls i N As.length) (hrm : RM M N) (hlen : (lg_sl As).length ≤ md_L N) (hr8 : (rest.map fun v => v.category).sum ≤ 8)
    (h : decode (md_c M) pc = .ok (.invokestatic i, 3)) (hl : lv_has ls (md_L M) L) (hc : cells + k1 ≤ R.cells) (hs : slots + n1 ≤ R.slots) (kx : XM l D cy A xi N 0 (lv_args 0 As) [] S k1 n1 Mid) :
    vy_Run p l e R s mm args below meth c H locs cells slots k1 n1 (F0 mm pc ls (As.reverse ++ rest)) rest (fun c9 s9 => qy_M D cy A k1 n1 Mid c9 s9 As.toArray) (xc_M D cy A Mid) A :=
  vy_runS ⟨C.1, C.2.1, C.2.2.2.1, cx_own C, cx_ts C⟩ (met_vx hcv.1 hlen kx) ⟨cb_of C hcv.1 hcv.2.1 hrm, cx_ts C _ hcv.2.2⟩ (pre_S C hH hS) rfl rfl hl.1 rfl (lv_room hr8) h ⟨hc, hs⟩
theorem hs_runI (C : CX l D cy A xi M p R s mm args meth c) (hH : wH D cy A S H) (hS : va_S A s.heap H locs) (hcv : CI (md_y M).cls i N As.length) (hrm : RM M N) (hlen : (lg_sl (.ref b :: As)).length ≤ md_L N) (hr8 : (rest.map fun v => v.category).sum ≤ 8)
    (h : decode (md_c M) pc = .ok (.invokespecial i, 3)) (hl : lv_has ls (md_L M) L) (hc : cells + k1 ≤ R.cells) (hs : slots + n1 ≤ R.slots) (hP : ∀ E S', ¬ Mid (.inr E) S' 0 0) (kx : XM l D cy A xi N 0 (lv_args 0 (.ref b :: As)) [] S k1 n1 Mid) :
    va_Run p l e R s mm args below meth c H locs cells slots k1 n1 (F0 mm pc ls (As.reverse ++ .ref b :: rest)) rest (qc_M D cy A Mid (Value.ref b :: As).toArray) A := by
  have hb := cb_of (k1 := k1) (n1 := n1) C hcv.1 hcv.2.1 hrm
  rw [hcv.2.2.2.2.1] at hb
  exact va_runI (b := b) ⟨C.1, C.2.1, C.2.2.2.1, cx_own C, cx_ts C⟩ (met_mt hcv.1 hcv.2.2.2.2.2 hlen hP kx) ⟨hb, hcv.2.2.2.1, cx_ts C _ hcv.2.2.1⟩ (pre_S (As := .ref b :: As) C hH hS) rfl rfl hl.1 rfl (lv_room hr8) h ⟨hc, hs⟩
theorem cn_of (C : CX l D cy A xi M p R s mm args meth c) {n : Nat} {host : String} (hM : MK N n) (hl : Cond.methodLinkNest (md_y M).cls i (md_y N) host ∈ lw_tbl) (hrm : RM M N) : va_CN R s args (md_y M).cls i (md_y N) host (md_c N) (md_L N) (md_r N) (ws_M N) (rm_M N k1 n1) k1 n1 n :=
  va_cnB n (cx_ts C) (ws_good hM) rfl rfl rfl ((cx_S C).2.1 _ hl rfl) (cx_ts C _ hM.2.1) ⟨hM.2.2.1.1, hM.2.2.1.2, hM.2.2.2.1⟩ ⟨Nat.le_trans hrm.1 (cx_rm C).1, Nat.le_trans hrm.2 (cx_rm C).2⟩
theorem hs_runSN (C : CX l D cy A xi M p R s mm args meth c) (hH : wH D cy A S H) (hS : va_S A s.heap H locs) (hcv : CTN (md_y M).cls i N As.length) (hrm : RM M N) (hlen : (lg_sl As).length ≤ md_L N) (hr8 : (rest.map fun v => v.category).sum ≤ 8)
    (h : decode (md_c M) pc = .ok (.invokestatic i, 3)) (hl : lv_has ls (md_L M) L) (hc : cells + k1 ≤ R.cells) (hs : slots + n1 ≤ R.slots) (hP : ∀ E S', ¬ Mid (.inr E) S' 0 0) (kx : XM l D cy A xi N 0 (lv_args 0 As) [] S k1 n1 Mid) :
    va_Run p l e R s mm args below meth c H locs cells slots k1 n1 (F0 mm pc ls (As.reverse ++ rest)) rest (qc_M D cy A Mid As.toArray) A := by
  obtain ⟨hM, ⟨host, hl9⟩, hst, hpl⟩ := hcv
  exact va_runSN ⟨C.1, C.2.1, C.2.2.2.1, cx_own C, cx_ts C⟩ (met_mt hM hpl hlen hP kx) ⟨cn_of C hM hl9 hrm, cx_ts C _ hst, trivial⟩ (pre_S C hH hS) rfl rfl hl.1 rfl (lv_room hr8) h ⟨hc, hs⟩
theorem hs_runIN (C : CX l D cy A xi M p R s mm args meth c) (hH : wH D cy A S H) (hS : va_S A s.heap H locs) (hcv : CIN (md_y M).cls i N As.length) (hrm : RM M N) (hlen : (lg_sl (.ref b :: As)).length ≤ md_L N) (hr8 : (rest.map fun v => v.category).sum ≤ 8)
    (h : decode (md_c M) pc = .ok (.invokespecial i, 3)) (hl : lv_has ls (md_L M) L) (hc : cells + k1 ≤ R.cells) (hs : slots + n1 ≤ R.slots) (hP : ∀ E S', ¬ Mid (.inr E) S' 0 0) (kx : XM l D cy A xi N 0 (lv_args 0 (.ref b :: As)) [] S k1 n1 Mid) :
    va_Run p l e R s mm args below meth c H locs cells slots k1 n1 (F0 mm pc ls (As.reverse ++ .ref b :: rest)) rest (qc_M D cy A Mid (Value.ref b :: As).toArray) A := by
  obtain ⟨hM, ⟨host, hl9⟩, hst, hnm, hr, hpl⟩ := hcv
  have hb := cn_of (k1 := k1) (n1 := n1) C hM hl9 hrm
  rw [hr] at hb
  exact va_runIN (b := b) ⟨C.1, C.2.1, C.2.2.2.1, cx_own C, cx_ts C⟩ (met_mt hM hpl hlen hP kx) ⟨hb, hnm, cx_ts C _ hst⟩ (pre_S (As := .ref b :: As) C hH hS) rfl rfl hl.1 rfl (lv_room hr8) h ⟨hc, hs⟩
abbrev ent (q : Nat × Nat × Nat × Nat) : ExceptionTableEntry := ⟨q.1, q.2.1, q.2.2.1, q.2.2.2⟩
theorem hs_catch {E : String} {hpc : Nat} {q : Addr} {cx : Cell} (C : CX l D cy A xi M p R s mm args meth c) (hch : CH M pc E hpc) (hcell : H[q]? = some cx) (hv : cx.vm = .none) (hcl : s.vm.findClass E = some cx.cls) (kk : W p l e R s mm args below meth c H locs cells slots Q (F0 mm hpc ls [.ref q])) : vx_W p l e R s mm args below meth c H locs cells slots Q (F0 mm pc ls rest) q := by
  obtain ⟨pre, x, suf, hs, hpass, hx, h0, rfl, name, hl, hc⟩ := hch
  refine vx_catch (own := (md_y M).cls) (name := name) (E := E) (cx_own C) (pre.map ent) (ent x) (suf.map ent) ?_ ?_ ?_ h0 (cx_ts C _ hl) (va_Nw.use rfl ((cx_S C).2.2.2.2.2.2.1 _ hc rfl)) hcell hv hcl kk
  · rw [cx_tb C, hs]
    simp [tableOf, ent]
  · intro z hz
    obtain ⟨y, hy, rfl⟩ := List.mem_map.mp hz
    obtain ⟨h1, h2, h3⟩ := hpass y hy
    exact Or.inr ⟨h1, _, cx_ts C _ h2, h3 ▸ (cx_S C).2.2.2.2.2.2.2.1⟩
  · simp only [covers, ent, Bool.and_eq_true, decide_eq_true_eq]
    exact hx
theorem run_vo (hr : vx_Run p l e R s mm args below meth c H locs cells slots k1 n1 (F0 mm pc ls st0) rest (qc_M D cy A Mid a) (xc_M D cy A Mid) A) (hS : va_S A s.heap H locs) (hP : ∀ E S', ¬ Mid (.inr E) S' 0 0)
    (kk : ∀ (v : Option Value) (S' : Hp) (H' : Heap) (locs' : List Loc) (kl nl : Nat), Mid (.inl v) S' kl nl → wH D cy A S' H' → va_S A s.heap H' locs' → W p l e R s mm args below meth c H' locs' (cells + k1) (slots + n1) Q (F0 mm (pc + 3) ls (v.toList ++ rest))) :
    W p l e R s mm args below meth c H locs cells slots Q (F0 mm pc ls st0) := by
  intro T hT X
  rcases hr T hT X with ⟨v, st₀, t, T', L, h0, X', hL, e1, e2, ⟨v', S', kl, nl, hv, hp, hb, hF⟩, st⟩ | ⟨q, st₀, t, T', L, E, ce, h0, X', hL, e1, e2, ⟨S', hp, hb, hF⟩, hce, hcv, hcl, st⟩
  · cases hv
    obtain ⟨k1, k2, k3⟩ := vx_keep h0 e1 hS (fun _ _ h => h) (fun _ h => h) hL hF
    obtain ⟨t2, a1, b1⟩ := kk v S' T'.heap (locs ++ L) kl nl hp (by rw [e1]; exact hb) k3 T' rfl X'
    exact ⟨t2, st t2 a1, b1⟩
  · exact absurd hp (hP E S')
theorem hs_runSW (C : CX l D cy A xi M p R s mm args meth c) (hH : wH D cy A S H) (hS : va_S A s.heap H locs) (hcv : CTW (md_y M).cls i N As.length) (hrm : RM M N) (hlen : (lg_sl As).length ≤ md_L N) (hr8 : (rest.map fun v => v.category).sum ≤ 8)
    (h : decode (md_c M) pc = .ok (.invokestatic i, 3)) (hl : lv_has ls (md_L M) L) (hc : cells + k1 ≤ R.cells) (hs : slots + n1 ≤ R.slots) (kx : XM l D cy A xi N 0 (lv_args 0 As) [] S k1 n1 Mid) :
    vx_Run p l e R s mm args below meth c H locs cells slots k1 n1 (F0 mm pc ls (As.reverse ++ rest)) rest (qc_M D cy A Mid As.toArray) (xc_M D cy A Mid) A := by
  have hg : GoodIn wT (va_wsS (md_y M).cls i (md_y N) (wsW_M N)) := by
    intro w hw
    unfold va_wsS at hw
    rcases List.mem_append.mp hw with hw | hw
    · have hw2 : w ∈ wT := by
        simp only [List.mem_cons, List.not_mem_nil, or_false] at hw
        rcases hw with rfl | rfl | rfl
        · exact hcv.2.1
        · exact hcv.2.2
        · exact hcv.1.2.1
      exact ⟨hw2, good_of_word (List.mem_filter.mp hw2).2⟩
    · exact wsW_good hcv.1 w hw
  exact vx_runSX (hh := md_h N) (bytes := md_c N) (maxL := md_L N) (ret := md_r N) ⟨C.1, C.2.1, C.2.2.2.1, cx_own C, cx_ts C⟩ (met_vw hcv.1 hlen kx) (vx_cwSW (rm := rm_M N k1 n1) As.length (cx_ts C) hg rfl rfl rfl ⟨hcv.1.2.2.1.1, hcv.1.2.2.1.2, hcv.1.2.2.2.1⟩ ⟨Nat.le_trans hrm.1 (cx_rm C).1, Nat.le_trans hrm.2 (cx_rm C).2⟩) (pre_S C hH hS) rfl rfl hl.1 rfl (lv_room hr8) h ⟨hc, hs⟩
end RUNS

