/-! states -/
abbrev Rc : Type := Int32 × Int32 × Int32 × Int64
abbrev tANY : Tr := (0, 0, -1)
def tS (R : Nat → Nat → Nat) (σ : SG) (st : Nat) : Nat → Tr := fun i => (mj σ (R 512 st) i, mj σ (R 513 st) i, mj σ (R 514 st) i)
def rC (σ : SG) (st : Nat) : Rc := (mI σ 515 st, mI σ 516 st, mI σ 517 st, mJ σ 518 st)
def D3 (R : Nat → Nat → Nat) (st : Nat) : Prop := R 512 st ≠ R 513 st ∧ R 512 st ≠ R 514 st ∧ R 513 st ≠ R 514 st
def wS (R : Nat → Nat → Nat) (σ : SG) (st i : Nat) (t : Tr) : SG := uj (uj (uj σ (R 512 st) i t.1) (R 513 st) i t.2.1) (R 514 st) i t.2.2
def wR (σ : SG) (st : Nat) (r : Rc) : SG := uJ (uI (uI (uI σ 515 st r.1) 516 st r.2.1) 517 st r.2.2.1) 518 st r.2.2.2
def upT (f : Nat → Tr) (i : Nat) (t : Tr) : Nat → Tr := fun j => if j = i then t else f j
theorem mj_uj {σ : SG} {a i b j : Nat} {v : Int64} : mj (uj σ a i v) b j = if b = a ∧ j = i then v else mj σ b j := by
  show va_up (mj σ) a (vp_updL (mj σ a) i v) b j = _
  unfold va_up
  by_cases h1 : b = a
  · subst h1
    simp only [↓reduceIte, true_and, vp_updL]
  · simp [h1]
theorem mj_ujn {σ : SG} {a i b : Nat} {v : Int64} (h : b ≠ a) : mj (uj σ a i v) b = mj σ b := by
  funext j; rw [mj_uj]; simp [h]
section KST
variable {R : Nat → Nat → Nat} {σ τ υ : SG} {st st2 o i e f1 f2 f3 : Nat} {t u a b c : Tr} {r : Rc} {x : Int32}
theorem tS_wS (hD : D3 R st) : tS R (wS R σ st i t) st = upT (tS R σ st) i t := by
  obtain ⟨h1, h2, h3⟩ := hD
  funext j
  unfold tS wS upT
  simp only [mj_uj, h1, h2, h3, h1.symm, h2.symm, h3.symm, false_and, true_and, ↓reduceIte]
  by_cases h : j = i
  · simp [h]
  · simp [h]
theorem tS_w3 : tS R (w3 σ o t) st = tS R σ st := rfl
theorem tS_wR {st3 : Nat} : tS R (wR σ st3 r) st = tS R σ st := rfl
theorem rC_wS : rC (wS R σ st2 i t) st = rC σ st := rfl
theorem rC_w3 : rC (w3 σ o t) st = rC σ st := by unfold rC; rw [mJ_w3n]; rfl
theorem rC_wR : rC (wR σ st r) st = r := by
  unfold rC wR
  simp only [mJ_uJ, and_self, ↓reduceIte]
  show (mI (uI (uI (uI σ 515 st r.1) 516 st r.2.1) 517 st r.2.2.1) 515 st, mI (uI (uI (uI σ 515 st r.1) 516 st r.2.1) 517 st r.2.2.1) 516 st, mI (uI (uI (uI σ 515 st r.1) 516 st r.2.1) 517 st r.2.2.1) 517 st, r.2.2.2) = r
  simp [mI_uI]
/-- what is left as it was while the state st is worked on -/
def Fc (R : Nat → Nat → Nat) (st : Nat) (σ τ : SG) : Prop := (∀ a, a ≠ R 512 st → a ≠ R 513 st → a ≠ R 514 st → mj τ a = mj σ a) ∧ (∀ k q, (k ≠ 515 ∧ k ≠ 516 ∧ k ≠ 517) ∨ q ≠ st → mI τ k q = mI σ k q) ∧ mi τ = mi σ ∧ (∀ k q, (k ≠ 448 ∧ k ≠ 449 ∧ k ≠ 450) → k ≠ 518 ∨ q ≠ st → mJ τ k q = mJ σ k q)
theorem fc_rf : Fc R st σ σ := ⟨fun _ _ _ _ => rfl, fun _ _ _ => rfl, rfl, fun _ _ _ _ => rfl⟩
theorem fc_tr (h : Fc R st σ τ) (h2 : Fc R st τ υ) : Fc R st σ υ := ⟨fun a p q s => (h2.1 a p q s).trans (h.1 a p q s), fun k q s => (h2.2.1 k q s).trans (h.2.1 k q s), h2.2.2.1.trans h.2.2.1, fun k q s p => (h2.2.2.2 k q s p).trans (h.2.2.2 k q s p)⟩
theorem fc_w3 : Fc R st σ (w3 σ o t) := ⟨fun _ _ _ _ => rfl, fun _ _ _ => rfl, rfl, fun k q h _ => mJ_w3n h⟩
theorem fc_wS : Fc R st σ (wS R σ st i t) := ⟨fun a p q s => by unfold wS; rw [mj_ujn s, mj_ujn q, mj_ujn p], fun _ _ _ => rfl, rfl, fun _ _ _ _ => rfl⟩
theorem fc_wR : Fc R st σ (wR σ st r) := by
  refine ⟨fun _ _ _ _ => rfl, fun k q h => ?_, rfl, fun k q h1 h2 => ?_⟩
  · show mI (uI (uI (uI σ 515 st r.1) 516 st r.2.1) 517 st r.2.2.1) k q = _
    rw [mI_uI, mI_uI, mI_uI]
    rcases h with h | h
    · simp [h.1, h.2.1, h.2.2]
    · simp [h]
  · show mJ (uJ (uI (uI (uI σ 515 st r.1) 516 st r.2.1) 517 st r.2.2.1) 518 st r.2.2.2) k q = _
    rw [mJ_uJ]
    rcases h2 with h | h
    · simp only [h, false_and, ↓reduceIte]; rfl
    · simp only [h, and_false, ↓reduceIte]; rfl
theorem w3_comm (h : o ≠ e) : w3 (w3 σ o t) e u = w3 (w3 σ e u) o t := by
  refine sg_ext (fun k q => ?_) rfl rfl rfl
  rw [mJ_w3, mJ_w3, mJ_w3, mJ_w3]
  by_cases h1 : q = o
  · subst h1; simp [h]
  · simp [h1]
def wE (σ : SG) (f1 f2 f3 : Nat) (a b c : Tr) : SG := w3 (w3 (w3 σ f1 a) f2 b) f3 c
theorem wE_1 (h12 : f1 ≠ f2) (h13 : f1 ≠ f3) : w3 (wE σ f1 f2 f3 a b c) f1 u = wE σ f1 f2 f3 u b c := by
  unfold wE; rw [w3_comm (Ne.symm h13), w3_comm (Ne.symm h12), w3_w3]
theorem wE_2 (h23 : f2 ≠ f3) : w3 (wE σ f1 f2 f3 a b c) f2 u = wE σ f1 f2 f3 a u c := by
  unfold wE; rw [w3_comm (Ne.symm h23), w3_w3]
theorem wE_3 : w3 (wE σ f1 f2 f3 a b c) f3 u = wE σ f1 f2 f3 a b u := by unfold wE; rw [w3_w3]
theorem rS_wE1 (h12 : f1 ≠ f2) (h13 : f1 ≠ f3) : rS (wE σ f1 f2 f3 a b c) f1 = a := by unfold wE; rw [rS_w3n h13, rS_w3n h12, rS_w3]
theorem rS_wE2 (h23 : f2 ≠ f3) : rS (wE σ f1 f2 f3 a b c) f2 = b := by unfold wE; rw [rS_w3n h23, rS_w3]
theorem rS_wE3 : rS (wE σ f1 f2 f3 a b c) f3 = c := by unfold wE; rw [rS_w3]
theorem wE_id (h12 : f1 ≠ f2) (h13 : f1 ≠ f3) (h23 : f2 ≠ f3) : wE σ f1 f2 f3 (rS σ f1) (rS σ f2) (rS σ f3) = σ := by
  unfold wE; rw [w3_self, w3_self, w3_self]
theorem mI_wE : mI (wE σ f1 f2 f3 a b c) = mI σ := rfl
theorem tS_wE : tS R (wE σ f1 f2 f3 a b c) st = tS R σ st := rfl
theorem fc_wE : Fc R st σ (wE σ f1 f2 f3 a b c) := fc_tr (fc_tr fc_w3 fc_w3) fc_w3
/-! load, store, record -/
def ldT (f : Nat → Tr) (x : Int32) : Tr := if Z_X9_isLocation x = 0 then tANY else f x.toNatClampNeg
def stT (f : Nat → Tr) (x : Int32) (t : Tr) : Nat → Tr := if Z_X9_isLocation x = 0 then f else upT f x.toNatClampNeg t
theorem zk_load : Z_X8_load R σ st x o = w3 σ o (ldT (tS R σ st) x) := by
  unfold Z_X8_load ldT
  exact ite_w (fun _ => zk_becomeAny) (fun _ => rfl)
def wK (R : Nat → Nat → Nat) (σ : SG) (st : Nat) (x : Int32) (t : Tr) : SG := if Z_X9_isLocation x = 0 then σ else wS R σ st x.toNatClampNeg t
theorem zk_store : Z_X8_store R σ st x o = wK R σ st x (rS σ o) := rfl
theorem tS_wK (hD : D3 R st) : tS R (wK R σ st x t) st = stT (tS R σ st) x t := by
  unfold wK stT
  split
  · rfl
  · exact tS_wS hD
theorem fc_wK : Fc R st σ (wK R σ st x t) := by
  unfold wK
  split
  · exact fc_rf
  · exact fc_wS
theorem rC_wK {st3 : Nat} : rC (wK R σ st x t) st3 = rC σ st3 := by
  unfold wK
  split
  · rfl
  · rfl
theorem rS_wK : rS (wK R σ st x t) o = rS σ o := by
  unfold wK
  split
  · rfl
  · rfl
theorem mI_wK : mI (wK R σ st x t) = mI σ := by
  unfold wK
  split
  · rfl
  · rfl
theorem mJ_wK : mJ (wK R σ st x t) = mJ σ := by
  unfold wK
  split
  · rfl
  · rfl
theorem zk_setRecord {x1 x2 x3 : Int32} {y : Int64} : Z_X8_setRecord R σ st x1 x2 x3 y = wR σ st (x1, x2, x3, y) := rfl
theorem zk_dropRecord : Z_X8_dropRecord R σ st = wR σ st (0, -1, -1, 0) := rfl
end KST
/-! an instruction's effect -/
def K_second (op sr dt : Int32) (num : Int64) (f : Nat → Tr) : Tr :=
  if sr = -1 then
    if op = 11 then K_become tANY 1 1 0 else if op = 12 then K_become tANY 1 1 0
    else if op = 14 then K_become tANY (1 <<< (dt.toInt64 &&& 63)) (1 <<< (dt.toInt64 &&& 63)) 0
    else K_become tANY num num 0
  else ldT f sr
def K_fitH (op : Int32) (a : Tr) : Tr := if op = 17 then K_takeSignedHalf a else if op = 16 then K_takeSignedHalf a else K_takeLowHalf a
def K_fit1 (op w : Int32) (a : Tr) : Tr := if w = 64 then a else K_fitH op a
def K_fit2 (op w : Int32) (b : Tr) : Tr := if op = 18 then (if w = 64 then K_takeSignedHalf b else K_fitH op (K_takeSignedHalf b)) else if w = 64 then b else K_fitH op b
def K_comp0 (op tg sr dt : Int32) (a b : Tr) : Tr :=
  if tg = sr ∧ (op = 6 ∨ op = 5) then K_become tANY 0 0 0
  else if op = 14 ∧ ¬ dt ≤ 30 then tANY
  else K_operate tANY op a b dt
def K_comp (op w tg sr dt : Int32) (a b : Tr) : Tr := if w = 32 then K_takeLowHalf (K_comp0 op tg sr dt a b) else K_comp0 op tg sr dt a b
def K_drop2 (tg : Int32) (r : Rc) : Rc := if r.2.1 = tg then (0, -1, -1, 0) else if r.2.2.1 = tg then (0, -1, -1, 0) else r
def K_note (op w tg sr : Int32) (num : Int64) (r : Rc) : Rc :=
  if op = 9 ∨ op = 13 ∨ op = 18 then K_drop2 tg r
  else if op = 7 then (if w = 64 ∧ ¬ tg = sr then (1, tg, sr, num) else (0, -1, -1, 0))
  else if op = 8 then (if w = 64 ∧ tg = sr then (2, tg, -1, 0) else (0, -1, -1, 0))
  else if op = 14 ∨ op = 15 ∨ op = 16 ∨ op = 17 then (0, -1, -1, 0)
  else if w = 64 then (2, tg, -1, 0) else (0, -1, -1, 0)
def K_res (op w tg sr dt : Int32) (num : Int64) (f : Nat → Tr) : Tr := K_comp op w tg sr dt (K_fit1 op w (ldT f tg)) (K_fit2 op w (K_second op sr dt num f))
def K_eff (op w tg sr dt : Int32) (num : Int64) (f : Nat → Tr) : Nat → Tr := if op = 7 then f else if op = 8 then f else stT f tg (K_res op w tg sr dt num f)
section KEF
variable {R : Nat → Nat → Nat} {σ τ υ : SG} {st st2 o i e f1 f2 f3 : Nat} {t u a b c : Tr} {r : Rc} {x : Int32}
theorem zk_loadOperands : Z_X2_loadOperands R σ e i st = w3 (w3 σ (R 128 e) (ldT (tS R σ st) (mI σ 202 i))) (R 129 e) (K_second (mI σ 200 i) (mI σ 203 i) (mI σ 204 i) (mJ σ 205 i) (tS R σ st)) := by
  unfold Z_X2_loadOperands K_second
  rw [zk_load]
  have e5 : mJ (w3 σ (R 128 e) (ldT (tS R σ st) (mI σ 202 i))) 205 i = mJ σ 205 i := mJ_w3n
  rw [← e5]
  exact ite_w (fun _ => ite_w (fun _ => zk_become) (fun _ => ite_w (fun _ => zk_become) (fun _ => ite_w (fun _ => zk_become) (fun _ => zk_become)))) (fun _ => zk_load)
theorem zk_fitOperands (h12 : R 128 e ≠ R 129 e) (h13 : R 128 e ≠ R 130 e) (h23 : R 129 e ≠ R 130 e) : Z_X2_fitOperands R (wE σ (R 128 e) (R 129 e) (R 130 e) a b c) e i = wE σ (R 128 e) (R 129 e) (R 130 e) (K_fit1 (mI σ 200 i) (mI σ 201 i) a) (K_fit2 (mI σ 200 i) (mI σ 201 i) b) c := by
  unfold Z_X2_fitOperands K_fit1 K_fit2 K_fitH
  simp only [zk_takeSignedHalf, zk_takeLowHalf, rS_wE1 h12 h13, rS_wE2 h23, wE_1 h12 h13, wE_2 h23, mI_wE]
  by_cases c1 : mI σ 200 i = 18
  · have n1 : ¬ mI σ 200 i = 17 := by rw [c1]; decide
    have n2 : ¬ mI σ 200 i = 16 := by rw [c1]; decide
    by_cases c2 : mI σ 201 i = 64
    · simp [c1, c2]
    · simp [c1, c2]
  · by_cases c2 : mI σ 201 i = 64
    · simp [c1, c2]
    · by_cases c3 : mI σ 200 i = 17
      · simp [c2, c3]
      · by_cases c4 : mI σ 200 i = 16
        · simp [c2, c4]
        · simp [c1, c2, c3, c4]
theorem zk_cr95 (h12 : R 128 e ≠ R 129 e) (h13 : R 128 e ≠ R 130 e) (h23 : R 129 e ≠ R 130 e) : Z_X2_computeResult_p95 R (wE σ (R 128 e) (R 129 e) (R 130 e) a b c) e i = wE σ (R 128 e) (R 129 e) (R 130 e) a b (if mI σ 201 i = 32 then K_takeLowHalf c else c) := by
  unfold Z_X2_computeResult_p95
  simp only [zk_takeLowHalf, rS_wE3, wE_3, mI_wE]
  split
  · rfl
  · rfl
theorem zk_computeResult (h12 : R 128 e ≠ R 129 e) (h13 : R 128 e ≠ R 130 e) (h23 : R 129 e ≠ R 130 e) : Z_X2_computeResult R (wE σ (R 128 e) (R 129 e) (R 130 e) a b c) e i = wE σ (R 128 e) (R 129 e) (R 130 e) a b (K_comp (mI σ 200 i) (mI σ 201 i) (mI σ 202 i) (mI σ 203 i) (mI σ 204 i) a b) := by
  unfold Z_X2_computeResult K_comp K_comp0
  simp only [zk_become, zk_becomeAny, zk_operate, rS_wE1 h12 h13, rS_wE2 h23, rS_wE3, wE_3, mI_wE, zk_cr95 h12 h13 h23]
  by_cases c1 : mI σ 202 i = mI σ 203 i
  · by_cases c2 : mI σ 200 i = 6
    · simp [c1, c2]; rfl
    · by_cases c3 : mI σ 200 i = 5
      · simp [c1, c3]; rfl
      · by_cases c4 : mI σ 200 i = 14
        · by_cases c5 : mI σ 204 i ≤ 30
          · simp [c1, c4, c5]; rfl
          · simp [c1, c4, c5]; rfl
        · simp [c1, c2, c3, c4]; rfl
  · by_cases c4 : mI σ 200 i = 14
    · by_cases c5 : mI σ 204 i ≤ 30
      · simp [c1, c4, c5]; rfl
      · simp [c1, c4, c5]; rfl
    · simp [c1, c4]; rfl
theorem zk_noteRecord : ∃ q, Z_X2_noteRecord R σ e i st = q ∧ (q = wR σ st (K_note (mI σ 200 i) (mI σ 201 i) (mI σ 202 i) (mI σ 203 i) (mJ σ 205 i) (rC σ st)) ∨ (q = σ ∧ K_note (mI σ 200 i) (mI σ 201 i) (mI σ 202 i) (mI σ 203 i) (mJ σ 205 i) (rC σ st) = rC σ st)) := by
  refine ⟨_, rfl, ?_⟩
  unfold Z_X2_noteRecord Z_X2_noteRecord_p36 K_note K_drop2
  simp only [zk_setRecord, zk_dropRecord]
  generalize mI σ 200 i = op
  generalize mI σ 201 i = w
  generalize mI σ 202 i = tg
  generalize mI σ 203 i = sr
  generalize mJ σ 205 i = num
  have e1 : (rC σ st).2.1 = mI σ 516 st := rfl
  have e2 : (rC σ st).2.2.1 = mI σ 517 st := rfl
  rw [e1, e2]
  by_cases h7 : op = 7
  · subst h7
    left; by_cases c1 : w = 64 <;> by_cases c2 : tg = sr <;> simp [c1, c2]
  by_cases h8 : op = 8
  · subst h8
    left; by_cases c1 : w = 64 <;> by_cases c2 : tg = sr <;> simp [c1, c2]
  by_cases h9 : op = 9
  · subst h9
    by_cases c3 : mI σ 516 st = tg
    · by_cases c1 : w = 64 <;> by_cases c2 : tg = sr <;> simp [c1, c2, c3]
    · by_cases c4 : mI σ 517 st = tg
      · by_cases c1 : w = 64 <;> by_cases c2 : tg = sr <;> simp [c1, c2, c3, c4]
      · right
        by_cases c2 : tg = sr
        · subst c2; by_cases c1 : w = 64 <;> simp [c1, c3, c4]
        · by_cases c1 : w = 64 <;> simp [c1, c2, c3, c4]
  by_cases h10 : op = 10
  · subst h10
    left; by_cases c1 : w = 64 <;> by_cases c2 : tg = sr <;> simp [c1, c2]
  by_cases h11 : op = 11
  · subst h11
    left; by_cases c1 : w = 64 <;> by_cases c2 : tg = sr <;> simp [c1, c2]
  by_cases h12 : op = 12
  · subst h12
    left; by_cases c1 : w = 64 <;> by_cases c2 : tg = sr <;> simp [c1, c2]
  by_cases h13 : op = 13
  · subst h13
    by_cases c3 : mI σ 516 st = tg
    · by_cases c1 : w = 64 <;> by_cases c2 : tg = sr <;> simp [c1, c2, c3]
    · by_cases c4 : mI σ 517 st = tg
      · by_cases c1 : w = 64 <;> by_cases c2 : tg = sr <;> simp [c1, c2, c3, c4]
      · right
        by_cases c2 : tg = sr
        · subst c2; by_cases c1 : w = 64 <;> simp [c1, c3, c4]
        · by_cases c1 : w = 64 <;> simp [c1, c2, c3, c4]
  by_cases h14 : op = 14
  · subst h14
    left; by_cases c1 : w = 64 <;> by_cases c2 : tg = sr <;> simp [c1, c2]
  by_cases h15 : op = 15
  · subst h15
    left; by_cases c1 : w = 64 <;> by_cases c2 : tg = sr <;> simp [c1, c2]
  by_cases h16 : op = 16
  · subst h16
    left; by_cases c1 : w = 64 <;> by_cases c2 : tg = sr <;> simp [c1, c2]
  by_cases h17 : op = 17
  · subst h17
    left; by_cases c1 : w = 64 <;> by_cases c2 : tg = sr <;> simp [c1, c2]
  by_cases h18 : op = 18
  · subst h18
    by_cases c3 : mI σ 516 st = tg
    · by_cases c1 : w = 64 <;> by_cases c2 : tg = sr <;> simp [c1, c2, c3]
    · by_cases c4 : mI σ 517 st = tg
      · by_cases c1 : w = 64 <;> by_cases c2 : tg = sr <;> simp [c1, c2, c3, c4]
      · right
        by_cases c2 : tg = sr
        · subst c2; by_cases c1 : w = 64 <;> simp [c1, c3, c4]
        · by_cases c1 : w = 64 <;> simp [c1, c2, c3, c4]
  left; by_cases c1 : w = 64 <;> by_cases c2 : tg = sr <;> simp [c1, c2, h7, h8, h9, h10, h11, h12, h13, h14, h15, h16, h17, h18]
end KEF
