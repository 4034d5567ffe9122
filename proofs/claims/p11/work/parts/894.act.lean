/-! what an instruction does, in the reference -/
theorem ix_add {b x : Int32} {B : Nat} {hi : Int} (hb : b.toInt = (B : Int)) (hx : Rg 0 hi x) (hB : B ≤ 5000 := by decide) (hh : hi ≤ 5000 := by decide) : (b + x).toNatClampNeg = B + x.toNatClampNeg := by
  have e : (b + x).toInt = b.toInt + x.toInt := by have := hx.1; have := hx.2; rw [Int32.toInt_add, bmod_in (by omega) (by omega)]
  have e1 : (b + x).toNatClampNeg = (b + x).toInt.toNat := rfl
  have e2 : x.toNatClampNeg = x.toInt.toNat := rfl
  have := hx.1
  omega
/-- facts of a decoded instruction below JUMP IF -/
def DF (op w tg sr dt : Int32) (num : Int64) : Prop := Rg 0 18 op ∧ ¬ op = 2 ∧ ¬ op = 3 ∧ (w = 32 ∨ w = 64) ∧ (op = 18 → w = 64) ∧ Rg 0 23 tg ∧ Rg (-1) 23 sr ∧ Rg 0 63 dt ∧ (Rg 14 16 op → sr = -1) ∧ (¬ sr = -1 → num = 0)
theorem DF.hop {op w tg sr dt : Int32} {num : Int64} (h : DF op w tg sr dt num) : Rg 0 18 op := h.1
theorem DF.h2 {op w tg sr dt : Int32} {num : Int64} (h : DF op w tg sr dt num) : ¬ op = 2 := h.2.1
theorem DF.h3 {op w tg sr dt : Int32} {num : Int64} (h : DF op w tg sr dt num) : ¬ op = 3 := h.2.2.1
theorem DF.hw {op w tg sr dt : Int32} {num : Int64} (h : DF op w tg sr dt num) : (w = 32 ∨ w = 64) := h.2.2.2.1
theorem DF.h18 {op w tg sr dt : Int32} {num : Int64} (h : DF op w tg sr dt num) : (op = 18 → w = 64) := h.2.2.2.2.1
theorem DF.htg {op w tg sr dt : Int32} {num : Int64} (h : DF op w tg sr dt num) : Rg 0 23 tg := h.2.2.2.2.2.1
theorem DF.hsr {op w tg sr dt : Int32} {num : Int64} (h : DF op w tg sr dt num) : Rg (-1) 23 sr := h.2.2.2.2.2.2.1
theorem DF.hdt {op w tg sr dt : Int32} {num : Int64} (h : DF op w tg sr dt num) : Rg 0 63 dt := h.2.2.2.2.2.2.2.1
theorem DF.hsh {op w tg sr dt : Int32} {num : Int64} (h : DF op w tg sr dt num) : (Rg 14 16 op → sr = -1) := h.2.2.2.2.2.2.2.2.1
theorem DF.hz {op w tg sr dt : Int32} {num : Int64} (h : DF op w tg sr dt num) : (¬ sr = -1 → num = 0) := h.2.2.2.2.2.2.2.2.2
/-- left as it was by act: all but scratch, the set of tg, the record in hand -/
def Fa (R : Nat → Nat → Nat) (m : Nat) (tg : Nat) (σ τ : SG) : Prop := mJ τ = mJ σ ∧ (∀ k q, k ≠ 676 → mI τ k q = mI σ k q) ∧ (∀ j, j ∉ SCR → j ≠ 4856 + tg → cC R m τ j = cC R m σ j) ∧ (∀ a, a ≠ R 643 m → a ≠ R 649 m → a ≠ R 650 m → a ≠ R 651 m → mi τ a = mi σ a) ∧ (∀ a, a ≠ R 644 m → a ≠ R 645 m → a ≠ R 646 m → a ≠ R 652 m → mj τ a = mj σ a) ∧ (∀ p, p ≠ 201 → rR R m τ p = rR R m σ p)
def sh9 (k : Int32) : Prop := K_takeLowHalf (K_become tANY (1 <<< (k.toInt64 &&& 63)) (1 <<< (k.toInt64 &&& 63)) 0) = K_become tANY (1 <<< (k.toInt64 &&& 63)) (1 <<< (k.toInt64 &&& 63)) 0
theorem sh9_ok {k : Int32} (h : Rg 0 30 k) : sh9 k := by256 (p := fun k => 30 < k.toInt ∨ sh9 k) (by unfold sh9; decide +kernel) (rg_w h) |>.resolve_left (by have := h.2; omega)
section ACT
variable {R : Nat → Nat → Nat} {σ τ : SG} {m : Nat} {r : Rc} {num : Int64} {op w tg sr dt : Int32}
theorem narrowed_ok {x2 : Int32} {k : Int32} {kN : Nat} (hD : D4 R m) (hk : k.toNatClampNeg = kN) (h51 : kN ≠ 4851) (hks : kN ∈ SCR) (h : Gc (cC R m σ kN)) : Gc (cC R m (Z_X10_narrowed R σ m k x2) kN) ∧ ab (cC R m (Z_X10_narrowed R σ m k x2) kN) = (if x2 = 0 then K_takeLowHalf (ab (cC R m σ kN)) else K_takeSignedHalf (ab (cC R m σ kN))) ∧ Fx R m [4851, kN] σ (Z_X10_narrowed R σ m k x2) := by
  have a5 : (4851 : Int32).toNatClampNeg = 4851 := rfl
  unfold Z_X10_narrowed
  simp only [zj_copy hD, zj_lowPart hD, zj_signed hD, a5, hk, cC_wC hD, cC_wCn h51]
  by_cases c : x2 = 0
  · simp only [c, ↓reduceIte, cC_wC hD]
    obtain ⟨a, b, -⟩ := low_ok (c := cC R m σ kN) h
    exact ⟨a, b, fx_tr (fx_wC (by simp)) (fx_wC (by simp))⟩
  · simp only [c, ↓reduceIte, cC_wC hD]
    obtain ⟨a, b⟩ := signed_ok (c := cC R m σ kN) h
    exact ⟨a, b, fx_tr (fx_wC (by simp)) (fx_wC (by simp))⟩
theorem kres_eq {a b b2 : Tr} (hF : DF op w tg sr dt num) (ho : ¬ (tg = sr ∧ (op = 6 ∨ op = 5))) (h7 : ¬ op = 7) (h8 : ¬ op = 8) (hb : ¬ Rg 14 16 op → b2 = (if w = 64 then b else K_fitH op b)) (hw64 : op = 18 → b2 = b) (hs : op = 14 → b = K_become tANY (1 <<< (dt.toInt64 &&& 63)) (1 <<< (dt.toInt64 &&& 63)) 0) : K_wk op dt a b2 = K_comp0 op tg sr dt a (K_fit2 op w b) := by
  unfold K_wk K_comp0 K_fit2
  rw [if_neg ho]
  by_cases c18 : op = 18
  · have n14 : ¬ (op = 14 ∧ ¬ dt ≤ 30) := fun z => absurd (c18.symm.trans z.1) (by decide)
    rw [if_pos c18, if_neg n14, if_pos c18, if_pos (hF.h18 c18), hw64 c18, c18]
    unfold K_operate
    simp [cp_t]
  · rw [if_neg c18, if_neg c18]
    by_cases c14 : op = 14
    · rw [if_pos c14]
      by_cases cd : dt ≤ 30
      · have n14 : ¬ (op = 14 ∧ ¬ dt ≤ 30) := fun z => z.2 cd
        rw [if_pos cd, if_neg n14, hs c14]
        have hd : Rg 0 30 dt := ⟨hF.hdt.1, by have := Int32.le_iff_toInt_le.mp cd; rwa [show (30 : Int32).toInt = 30 from rfl] at this⟩
        have e := sh9_ok hd
        unfold sh9 at e
        have e2 : (if w = 64 then K_become tANY (1 <<< (dt.toInt64 &&& 63)) (1 <<< (dt.toInt64 &&& 63)) 0 else K_fitH op (K_become tANY (1 <<< (dt.toInt64 &&& 63)) (1 <<< (dt.toInt64 &&& 63)) 0)) = K_become tANY (1 <<< (dt.toInt64 &&& 63)) (1 <<< (dt.toInt64 &&& 63)) 0 := by
          unfold K_fitH
          rw [c14]
          simp only [show ¬ (14 : Int32) = 17 by decide, show ¬ (14 : Int32) = 16 by decide, ↓reduceIte, e, ite_self]
        rw [e2, c14]
        unfold K_operate
        simp
      · rw [if_neg cd, if_pos ⟨c14, cd⟩]
    · have n14 : ¬ (op = 14 ∧ ¬ dt ≤ 30) := fun z => c14 z.1
      rw [if_neg c14, if_neg n14]
      by_cases c15 : op = 15
      · rw [c15]; unfold K_operate; simp
      · by_cases c16 : op = 16
        · rw [c16]; unfold K_operate; simp
        · have nr : ¬ Rg 14 16 op := by
            rintro ⟨z1, z2⟩
            have q : ∀ k : Int32, op = k ↔ op.toInt = k.toInt := fun k => Int32.toInt_inj.symm
            rw [q, show (14 : Int32).toInt = 14 from rfl] at c14
            rw [q, show (15 : Int32).toInt = 15 from rfl] at c15
            rw [q, show (16 : Int32).toInt = 16 from rfl] at c16
            omega
          rw [hb nr]
end ACT
