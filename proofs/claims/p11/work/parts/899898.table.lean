/-! the table, carried from turn to turn -/
def Bn (B : Int) (t : Tb) : Prop := ∀ i, 0 ≤ (t i).1.toInt ∧ (t i).1.toInt ≤ B
def Zn (n : Int32) (t : Tb) : Prop := ∀ i, n.toNatClampNeg ≤ i → (t i).1 = 0
section BNS
variable {B : Int} {t : Tb} {n w fr : Int32} {p : Pt} {f : Nat → Tr} {r : Rc} {to : Int64} {c : DD} {a : Int32} {i k : Nat} {I : Nat → DD}
theorem up_in (h0 : 0 ≤ w.toInt) (h : w.toInt ≤ B) (hB : B < 2147483647) : (w + 1).toInt = w.toInt + 1 := by
  rw [Int32.toInt_add, show (1 : Int32).toInt = 1 from rfl, bmod_in (by omega) (by omega)]
theorem bn_pt (h : 0 ≤ p.1.toInt ∧ p.1.toInt ≤ B) (h0 : 0 ≤ B) (hB : B < 2147483647) : 0 ≤ (A_pt w p f r).1.toInt ∧ (A_pt w p f r).1.toInt ≤ B + 1 := by
  unfold A_pt
  by_cases e : p.1 = 0
  · rw [if_pos e]
    have : (1 : Int32).toInt = 1 := rfl
    exact ⟨by show 0 ≤ (1 : Int32).toInt; omega, by show (1 : Int32).toInt ≤ _; omega⟩
  · rw [if_neg e]
    by_cases s : Stay w p f r
    · rw [if_pos s]; exact ⟨h.1, by have := h.2; show p.1.toInt ≤ _; omega⟩
    · rw [if_neg s]
      have e1 := up_in h.1 h.2 hB
      have := h.1
      have := h.2
      exact ⟨by show 0 ≤ (p.1 + 1).toInt; omega, by show (p.1 + 1).toInt ≤ _; omega⟩
theorem bn_w {B2 : Int} (h : Bn B t) (hb : B ≤ B2) : Bn B2 t := fun i => ⟨(h i).1, Int.le_trans (h i).2 hb⟩
theorem bn_arr (h : Bn B t) (h0 : 0 ≤ B) (hB : B < 2147483647) : Bn (B + 1) (A_arr n t fr to f r) := by
  unfold A_arr
  by_cases c : InC n to
  · rw [if_pos c]
    intro i
    unfold upP
    by_cases e : i = to.toInt32.toNatClampNeg
    · rw [if_pos e]; exact bn_pt (h _) h0 hB
    · rw [if_neg e]; exact bn_w h (by omega) i
  · rw [if_neg c]; exact bn_w h (by omega)
theorem zn_arr (h : Zn n t) (hn : Rg 0 200 n) : Zn n (A_arr n t fr to f r) := by
  unfold A_arr
  by_cases c : InC n to
  · rw [if_pos c]
    intro i hi
    unfold upP
    have l1 := mt Int64.lt_iff_toInt_lt.mpr c.1
    have l2 := Int64.lt_iff_toInt_lt.mp c.2
    rw [Int32.toInt_toInt64] at l2
    rw [show (0 : Int64).toInt = 0 from rfl] at l1
    have e : to.toInt32.toInt = to.toInt := by
      have := hn.2
      rw [Int64.toInt_toInt32, bmod_in (by omega) (by omega)]
    have e1 : to.toInt32.toNatClampNeg = to.toInt32.toInt.toNat := rfl
    have e2 : n.toNatClampNeg = n.toInt.toNat := rfl
    rw [if_neg (by omega)]
    exact h i hi
  · rw [if_neg c]; exact h
theorem bn_cl (h : Bn B t) : Bn B (A_cl t k) := fun i => by
  unfold A_cl upP
  by_cases e : i = k
  · rw [if_pos e]; exact h k
  · rw [if_neg e]; exact h i
theorem zn_cl (h : Zn n t) : Zn n (A_cl t k) := fun i hi => by
  unfold A_cl upP
  by_cases e : i = k
  · rw [if_pos e, ← e]; exact h i hi
  · rw [if_neg e]; exact h i hi
theorem bn_nx {g : Option (Nat → Tr)} (h : Bn B t) (h0 : 0 ≤ B) (hB : B < 2147483647) : Bn (B + 1) (A_nx n t a to g r) := by
  cases g with
  | none => exact bn_w h (by omega)
  | some f => exact bn_arr h h0 hB
theorem zn_nx {g : Option (Nat → Tr)} (h : Zn n t) (hn : Rg 0 200 n) : Zn n (A_nx n t a to g r) := by
  cases g with
  | none => exact h
  | some f => exact zn_arr h hn
theorem bn_1 (h : Bn B t) (h0 : 0 ≤ B) (hB : B < 2147483647) : Bn (B + 1) (A_1 n t a c p) := by
  unfold A_1
  by_cases e : e7 c = 20
  · rw [if_pos e]; exact bn_w h (by omega)
  · rw [if_neg e]
    by_cases e2 : e7 c = 19
    · rw [if_pos e2]; exact bn_nx h h0 hB
    · rw [if_neg e2]; exact bn_arr h h0 hB
theorem zn_1 (h : Zn n t) (hn : Rg 0 200 n) : Zn n (A_1 n t a c p) := by
  unfold A_1
  by_cases e : e7 c = 20
  · rw [if_pos e]; exact h
  · rw [if_neg e]
    by_cases e2 : e7 c = 19
    · rw [if_pos e2]; exact zn_nx h hn
    · rw [if_neg e2]; exact zn_arr h hn
theorem bn_2 (h : Bn B t) (h0 : 0 ≤ B) (hB : B < 2147483647) : Bn (B + 1) (A_2 n t a c p) := by
  unfold A_2
  by_cases e : e7 c = 20
  · rw [if_pos e]; exact bn_arr h h0 hB
  · rw [if_neg e]
    by_cases e2 : e7 c = 19
    · rw [if_pos e2]; exact bn_nx h h0 hB
    · rw [if_neg e2]; exact bn_w h (by omega)
theorem zn_2 (h : Zn n t) (hn : Rg 0 200 n) : Zn n (A_2 n t a c p) := by
  unfold A_2
  by_cases e : e7 c = 20
  · rw [if_pos e]; exact zn_arr h hn
  · rw [if_neg e]
    by_cases e2 : e7 c = 19
    · rw [if_pos e2]; exact zn_nx h hn
    · rw [if_neg e2]; exact h
theorem bn_go (h : Bn B t) (h0 : 0 ≤ B) (hB : B < 2147483646) : Bn (B + 2) (A_go n t a c) := by
  unfold A_go
  by_cases e : e7 c = -1
  · rw [if_pos e]; exact bn_w (bn_cl h) (by omega)
  · rw [if_neg e]
    by_cases e2 : e7 c = 22
    · rw [if_pos e2]; exact bn_w (bn_cl h) (by omega)
    · rw [if_neg e2]
      have h1 : Bn (B + 1) (A_1 n (A_cl t a.toNatClampNeg) a c (t a.toNatClampNeg)) := bn_1 (bn_cl h) h0 (by omega)
      exact bn_w (bn_2 h1 (by omega) (by omega)) (by omega)
theorem zn_go (h : Zn n t) (hn : Rg 0 200 n) : Zn n (A_go n t a c) := by
  unfold A_go
  by_cases e : e7 c = -1
  · rw [if_pos e]; exact zn_cl h
  · rw [if_neg e]
    by_cases e2 : e7 c = 22
    · rw [if_pos e2]; exact zn_cl h
    · rw [if_neg e2]
      exact zn_2 (zn_1 (zn_cl h) hn) hn
theorem bn_rd (h : Bn B t) (h0 : 0 ≤ B) (hB : B < 2147483000) : ∀ k : Nat, k ≤ 200 → Bn (B + 2 * (k : Int)) (A_rd n I k t) := by
  intro k
  induction k with
  | zero => intro _; exact bn_w h (by omega)
  | succ k ih =>
    intro hk
    have h1 := ih (by omega)
    have e : A_rd n I (k + 1) t = if (A_rd n I k t k).2.1 = 0 then A_rd n I k t else A_go n (A_rd n I k t) (Int32.ofNat k) (I k) := rfl
    rw [e]
    by_cases z : (A_rd n I k t k).2.1 = 0
    · rw [if_pos z]; exact bn_w h1 (by omega)
    · rw [if_neg z]; exact bn_w (bn_go h1 (by omega) (by omega)) (by omega)
theorem zn_rd (h : Zn n t) (hn : Rg 0 200 n) : ∀ k, Zn n (A_rd n I k t) := by
  intro k
  induction k with
  | zero => exact h
  | succ k ih =>
    have e : A_rd n I (k + 1) t = if (A_rd n I k t k).2.1 = 0 then A_rd n I k t else A_go n (A_rd n I k t) (Int32.ofNat k) (I k) := rfl
    rw [e]
    by_cases z : (A_rd n I k t k).2.1 = 0
    · rw [if_pos z]; exact ih
    · rw [if_neg z]; exact zn_go ih hn
theorem bn_it (h : Bn 1 t) (hn : Rg 0 200 n) : ∀ k : Nat, k ≤ 60 → Bn (1 + 400 * (k : Int)) (A_it n I k t) := by
  have l : n.toNatClampNeg ≤ 200 := by
    have e : n.toNatClampNeg = n.toInt.toNat := rfl
    have := hn.2
    omega
  intro k
  induction k with
  | zero => intro _; exact h
  | succ k ih =>
    intro hk
    exact bn_w (bn_rd (ih (by omega)) (by omega) (by omega) _ l) (by omega)
theorem zn_it (h : Zn n t) (hn : Rg 0 200 n) : ∀ k, Zn n (A_it n I k t) := by
  intro k
  induction k with
  | zero => exact h
  | succ k ih => exact zn_rd ih hn _
theorem t0_bn : Bn 0 T0 := fun i => by
  have e : (T0 i).1.toInt = 0 := rfl
  omega
theorem t0_zn : Zn n T0 := fun i _ => rfl
theorem res_bz {v : Int32} {u : Tb} (hn : Rg 0 200 n) (h : Res n I (TE n f r) v u) : (∀ i, 0 ≤ ((if v = -1 then T0 else u) i).1.toInt) ∧ Zn n (if v = -1 then T0 else u) := by
  by_cases e : v = -1
  · rw [if_pos e]; exact ⟨fun i => (t0_bn i).1, t0_zn⟩
  · rw [if_neg e]
    rcases h with ⟨k, k1, -, -, -, eu⟩ | ⟨-, z⟩
    · rw [eu]
      have b1 : Bn 1 (TE n f r) := bn_arr t0_bn (by decide) (by decide)
      exact ⟨fun i => (bn_it b1 hn k k1 i).1, zn_it (zn_arr t0_zn hn) hn k⟩
    · exact absurd z e
end BNS
/-- what the class found -/
def CRg (S : Hp) (pa : Nat) (t : Tb) : Prop := ∀ i, i < 200 → (hp_r S pa i = none → (t i).1 = 0) ∧ ∀ p, hp_r S pa i = some p → hp_I S 321 p = (t i).1 ∧ (¬ (t i).1 = 0 → A24 (sT S (RR S 320 p)) (t i).2.2.1)
def TB (S : Hp) (m pa : Nat) : Prop := ∃ t, CRg S pa t ∧ RTg (RR S) m (sg S) t ∧ (∀ i, 0 ≤ (t i).1.toInt) ∧ Zn (hp_I S 642 m) t
def LJ (S : Hp) (x m pa : Nat) : Prop := LI S x m pa ∧ TB S m pa
section TBS
variable {xi : SX} {S T T1 T2 : Hp} {ws vs : List Nat} {x m pa lk s : Nat} {l h d : Int64} {loc n : Int32} {bs : Nat → Int32}
theorem tb_mk (hT : TB S m pa) (hr : hp_r T pa = hp_r S pa) (hp : ∀ i p, i < 200 → hp_r S pa i = some p → hp_I T 321 p = hp_I S 321 p ∧ sT T (RR T 320 p) = sT S (RR S 320 p)) (h7 : ∀ i, i < 200 → mi (sg T) (RR T 647 m) i = mi (sg S) (RR S 647 m) i) (hc : ∀ j, j < 4800 → cC (RR T) m (sg T) j = cC (RR S) m (sg S) j) (hn : hp_I T 642 m = hp_I S 642 m) : TB T m pa := by
  obtain ⟨t, t1, t2, t3, t4⟩ := hT
  refine ⟨t, fun i hi => ?_, fun i hi => ?_, t3, by rw [hn]; exact t4⟩
  · rw [hr]
    refine ⟨(t1 i hi).1, fun p e => ?_⟩
    obtain ⟨z1, z2⟩ := hp i p hi e
    rw [z1, z2]
    exact (t1 i hi).2 p e
  · rw [h7 i hi]
    refine ⟨(t2 i hi).1, fun g k hk => ?_⟩
    rw [hc _ (by omega)]
    exact (t2 i hi).2 g k hk
theorem g7_fr (hG : GI S []) (h2 : Oa S [] 10 0 m) (hA : Af [] ws S T) (hw : 9988 ∉ ws := by decide) : mi (sg T) (RR T 647 m) = mi (sg S) (RR S 647 m) := by
  rw [rr_af hA h2.1]
  exact af_47 hG h2 (rk_gi rfl hG) hA hw
theorem tb_af (hT : TB S m pa) (hU : UQ S) (hG : GI S []) (h2 : Oa S [] 10 0 m) (ho : Oa S [] 35 200 pa) (hA : Af [] ws S T) (hw : 9999 ∉ ws := by decide) (h94 : 9994 ∉ ws := by decide) (h89 : 9989 ∉ ws := by decide) (h88 : 9988 ∉ ws := by decide) (h21 : 321 ∉ ws := by decide) (h42 : 642 ∉ ws := by decide) : TB T m pa := by
  have hR := rk_gi rfl hG
  refine tb_mk hT (by rw [(hA.2.2.2.1 hw).2]) (fun i p hi e => ?_) (fun i _ => by rw [g7_fr hG h2 hA h88]) (fun j _ => cc_fr hG h2 hA h89) (i_af h2 hA h42)
  have h5 := pt_O hG ho e
  rw [rr_af hA h5.1]
  exact ⟨i_af h5 hA h21, st_af1 hG hU hA (rk_O (k := 320) hG hR h5 8 0) h94⟩
theorem lj_af (hL : LJ S x m pa) (hG : GI S []) (h1 : Oa S [] 9 0 x) (h2 : Oa S [] 10 0 m) (ho : Oa S [] 35 200 pa) (hA : Af [] ws S T) (hw : 9999 ∉ ws := by decide) (h94 : 9994 ∉ ws := by decide) (h15 : 515 ∉ ws := by decide) (h89 : 9989 ∉ ws := by decide) (h88 : 9988 ∉ ws := by decide) (h21 : 321 ∉ ws := by decide) (h42 : 642 ∉ ws := by decide) : LJ T x m pa := ⟨li_af hL.1 hG h1 h2 hA hw h94 h15 h89, tb_af hL.2 hL.1.1 hG h2 ho hA hw h94 h89 h88 h21 h42⟩
/-- the entry is written on both sides: the table stays -/
theorem tb_gv (hL : LJ S x m pa) (hG : GI S []) (h1 : Oa S [] 9 0 x) (h2 : Oa S [] 10 0 m) (ho : Oa S [] 35 200 pa) (hA1 : Af [] [9994] S T1) (e1 : sg T1 = Z_X8_keep (RR S) (sg S) (RR S 578 x) loc l h d) (hG1 : GI T1 []) (hA2 : Af [] [640, 9989] T1 T2) (hc : ∀ j, j < 4800 → cC (RR T1) m (sg T2) j = cC (RR T1) m (sg T1) j) : TB T2 m pa := by
  have hR := rk_gi rfl hG
  have hU := hL.1.1
  have hen := rk_O (k := 578) hG hR h1 8 0
  have hF : Fc (RR S) (RR S 578 x) (sg S) (sg T1) := by
    rw [e1]
    unfold Z_X8_keep
    by_cases z : Z_X9_isLocation loc = 0
    · rw [if_pos z]; exact fc_rf
    · rw [if_neg z]; exact fc_wS (t := (l, h, d))
  have er : hp_r T2 = hp_r S := by rw [(hA2.2.2.2.1 (by decide)).2, (hA1.2.2.2.1 (by decide)).2]
  refine tb_mk hL.2 (by rw [er]) (fun i p hi e => ?_) (fun i _ => ?_) (fun j hj => ?_) ((i_af (oa_af h2 hA1) hA2).trans (i_af h2 hA1))
  · have h5 := pt_O hG ho e
    have h8 := rk_O (k := 320) hG hR h5 8 0
    refine ⟨(i_af (oa_af h5 hA1) hA2).trans (i_af h5 hA1), ?_⟩
    rw [rr_af hA2 (oa_af h5 hA1).1, rr_af hA1 h5.1, st_af1 hG1 (uq_af hU hA1) hA2 (oa_af h8 hA1)]
    exact (st_fc rfl hG hU hA1 hen h8 (uq_ne (k := 320) (l := 578) hU hR h5 h1 (Or.inr (by decide)) 8 8 (c := 0) (d := 0)) hF).1
  · rw [g7_fr hG1 (oa_af h2 hA1) hA2, g7_fr hG h2 hA1]
  · rw [cC_RR hA2 (oa_af h2 hA1).1, hc j hj, cc_fr hG h2 hA1]
theorem lj_given (hL : LJ S x m pa) (hG : GI S []) (h1 : Oa S [] 9 0 x) (h2 : Oa S [] 10 0 m) (ho : Oa S [] 35 200 pa) (hr : Rg 0 23 loc) (ht : Trip l h d) (hA1 : Af [] [9994] S T1) (e1 : sg T1 = Z_X8_keep (RR S) (sg S) (RR S 578 x) loc l h d) (hG1 : GI T1 []) (hA2 : Af [] [640, 9989] T1 T2) {S1 : Hp} (hA3 : Af [] [640] T1 S1) (e2 : sg T2 = Z_X10_make (RR T1) (sg S1) m (4880 + loc) 1 l h d) : LJ T2 x m pa := by
  refine ⟨li_given hL.1 hG h1 h2 hr ht hA1 e1 hG1 hA2 hA3 e2, tb_gv hL hG h1 h2 ho hA1 e1 hG1 hA2 (fun j hj => ?_)⟩
  have h21 := oa_af h2 hA1
  have hR1 := rk_gi rfl hG1
  have iN : (4880 + loc).toNatClampNeg = 4880 + loc.toNatClampNeg := ix_add (b := 4880) (B := 4880) rfl hr
  rw [e2, zj_make (d4_uq (uq_af hL.1.1 hA1) hR1 h21), iN, cC_wCn (by omega)]
  exact af_cC hG1 h21 hR1 hA3
theorem lj_any (hL : LJ S x m pa) (hG : GI S []) (h1 : Oa S [] 9 0 x) (h2 : Oa S [] 10 0 m) (ho : Oa S [] 35 200 pa) (hr : Rg 0 23 loc) (hA1 : Af [] [9994] S T1) (e1 : sg T1 = Z_X8_keep (RR S) (sg S) (RR S 578 x) loc 0 0 (-1)) (hG1 : GI T1 []) (hA2 : Af [] [640, 9989] T1 T2) {S1 : Hp} (hA3 : Af [] [640] T1 S1) (e2 : sg T2 = ui (sg S1) (RR T1 643 m) (4880 + loc).toNatClampNeg 2) : LJ T2 x m pa := by
  refine ⟨li_any hL.1 hG h1 h2 hr hA1 e1 hG1 hA2 hA3 e2, tb_gv hL hG h1 h2 ho hA1 e1 hG1 hA2 (fun j hj => ?_)⟩
  have h21 := oa_af h2 hA1
  have hR1 := rk_gi rfl hG1
  have iN : (4880 + loc).toNatClampNeg = 4880 + loc.toNatClampNeg := ix_add (b := 4880) (B := 4880) rfl hr
  rw [e2, wC_s, iN, cC_wCn (by omega)]
  exact af_cC hG1 h21 hR1 hA3
/-- both have looked -/
theorem lj_look (hL : LJ S x m pa) (hG : GI S []) (h1 : Oa S [] 9 0 x) (h2 : Oa S [] 10 0 m) (ho : Oa S [] 35 200 pa) (hn : hp_I S 642 m = n) (hA1 : Af [] [193, 194, 195, 196, 197, 198, 199, 200, 201, 202, 203, 204, 321, 322, 515, 516, 517, 9987, 9994, 9999] S T1) {v1 v2 : Int32} (c1 : CSp n bs (TE n (sT S (RR S 578 x)) (sC S (RR S 578 x))) S pa (some (.int v1)) T1) (hG1 : GI T1 []) (hA2 : Af [] [640, 653, 654, 655, 656, 657, 658, 659, 661, 662, 672, 673, 674, 675, 676, 9988, 9989, 9998] T1 T2) (c2 : LKp (RR T1) m n bs (TE n (sT S (RR S 578 x)) (sC S (RR S 578 x))) (sg T1) (some (.int v2)) T2) : v1 = v2 ∧ LJ T2 x m pa := by
  obtain ⟨ev, hl⟩ := li_look hL.1 hG h1 h2 hA1 c1 hG1 hA2 c2
  refine ⟨ev, hl, ?_⟩
  obtain ⟨w1, u1, e1, r1, t1, n1⟩ := c1
  obtain ⟨w2, u2, e2, r2, t2, n2⟩ := c2
  have hn2 : Rg 0 200 n := by rw [← hn]; exact gi_I (k := 642) hG h2 0 200
  obtain ⟨q1, q2⟩ := res_fn r1 r2
  have eu : (if w2 = -1 then T0 else u2) = (if w1 = -1 then T0 else u1) := by
    rw [← q1]
    by_cases z : w1 = -1
    · rw [if_pos z, if_pos z]
    · rw [if_neg z, if_neg z, q2 z]
  obtain ⟨b1, b2⟩ := res_bz hn2 r1
  rw [eu] at t2
  generalize (if w1 = -1 then T0 else u1) = t at t1 t2 b1 b2
  have hR1 := rk_gi rfl hG1
  have ho1 := oa_af ho hA1
  have er : hp_r T2 = hp_r T1 := (hA2.2.2.2.1 (by decide)).2
  refine ⟨t, fun i hi => ?_, ?_, b1, ?_⟩
  · rw [er]
    refine ⟨fun e => ((t1.2.2 i hi).1 e).1, fun p e => ?_⟩
    obtain ⟨g1, g2, g3⟩ := (t1.2.2 i hi).2 p e
    have h5 := pt_O hG1 ho1 e
    rw [i_af h5 hA2, rr_af hA2 h5.1, st_af1 hG1 t1.1 hA2 (rk_O (k := 320) hG1 hR1 h5 8 0)]
    exact ⟨g1, fun z => (g3 (Or.inl z)).1⟩
  · intro i hi
    obtain ⟨g1, g2⟩ := t2 i hi
    rw [rr_af hA2 (oa_af h2 hA1).1]
    refine ⟨g1, fun z k hk => ?_⟩
    rw [cC_RR hA2 (oa_af h2 hA1).1]
    exact g2 z k hk
  · rw [i_af (oa_af h2 hA1) hA2, i_af h2 hA1, hn]
    exact b2
/-- all is forgotten -/
theorem tb_0 (hp : ∀ i, i < 200 → ∀ p, hp_r T pa i = some p → hp_I T 321 p = 0) (hz : ∀ j, j < 200 → mi (sg T) (RR T 647 m) j = 0) : TB T m pa := ⟨T0, fun i hi => ⟨fun _ => rfl, fun p e => ⟨hp i hi p e, fun z => absurd rfl z⟩⟩, rtg_0 hz, fun i => (t0_bn i).1, t0_zn⟩
theorem lj_fg (hL : LJ S x m pa) (hG : GI S []) (h1 : Oa S [] 9 0 x) (h2 : Oa S [] 10 0 m) (ho : Oa S [] 35 200 pa) (hA1 : Af [] ws S T1) (f1 : Fgt S T1 pa 200) (hG1 : GI T1 []) (hA2 : Af [] vs T1 T2) (z2 : ∀ j, j < 201 → hp_i T2 (RR T1 647 m) j = 0) (hw : 9999 ∉ ws := by decide) (h94 : 9994 ∉ ws := by decide) (h15 : 515 ∉ ws := by decide) (h89 : 9989 ∉ ws := by decide) (iw : 9999 ∉ vs := by decide) (i94 : 9994 ∉ vs := by decide) (i15 : 515 ∉ vs := by decide) (i89 : 9989 ∉ vs := by decide) (i21 : 321 ∉ vs := by decide) : LJ T2 x m pa := by
  refine ⟨li_af (li_af hL.1 hG h1 h2 hA1 hw h94 h15 h89) hG1 (oa_af h1 hA1) (oa_af h2 hA1) hA2 iw i94 i15 i89, tb_0 (fun i hi p e => ?_) (fun j hj => ?_)⟩
  · rw [(hA2.2.2.2.1 iw).2, (hA1.2.2.2.1 hw).2] at e
    have h5 := pt_O hG ho e
    rw [i_af (oa_af h5 hA1) hA2 i21]
    exact (f1 i hi p e).1
  · rw [rr_af hA2 (oa_af h2 hA1).1]
    exact z2 j (by omega)
theorem lj_start (hL : LI T x m pa) (hn : hp_r T pa = fun _ => none) {b : Nat} (hb : hp_R T 647 m = some b) (hz : hp_i T b = fun _ => 0) : LJ T x m pa := ⟨hL, tb_0 (fun i _ p e => by rw [hn] at e; cases e) (fun j _ => by
  show hp_i T (RR T 647 m) j = 0
  rw [rr_R hb, hz])⟩
end TBS
