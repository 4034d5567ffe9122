section ACV
variable {R : Nat → Nat → Nat} {σ τ ρ : SG} {m : Nat} {r : Rc} {num : Int64} {x x2 x3 : Int32}
/-- cells, other than a record's write -/
theorem cC_fn (hD : D9 R m) (h : Fn R m σ τ) {j : Nat} : cC R m τ j = cC R m σ j := by
  obtain ⟨-, ⟨b1, b2, b3⟩, c1, c2, c3⟩ := hD
  unfold cC
  rw [h.2.2.1 _ b1 b2 b3, h.2.2.2.1 _ c1.symm, h.2.2.2.1 _ c2.symm, h.2.2.2.1 _ c3.symm]
theorem rR_fx {ks : List Nat} (hD : D9 R m) (h : Fx R m ks σ τ) {p : Nat} : rR R m τ p = rR R m σ p := by
  obtain ⟨-, ⟨b1, b2, b3⟩, c1, c2, c3⟩ := hD
  unfold rR
  rw [h.2.2.2.1 _ b1.symm, h.2.2.2.1 _ b2.symm, h.2.2.2.1 _ b3.symm, h.2.2.2.2 _ c1 c2 c3]
theorem act_ok (hD : D4 R m) (hD9 : D9 R m) (hF : DF (mI σ 655 m) (mI σ 656 m) (mI σ 657 m) (mI σ 658 m) (mI σ 659 m) num) (hnum : num = mJ σ 660 m ∨ Rg 14 16 (mI σ 655 m)) (hN : ∀ k, k < 24 → Gc (cC R m σ (4856 + k))) (hr : RRel r (rR R m σ 201)) :
    (∀ k, k < 24 → Gc (cC R m (Z_X10_act R σ m x) (4856 + k)) ∧ ab (cC R m (Z_X10_act R σ m x) (4856 + k)) = K_eff (mI σ 655 m) (mI σ 656 m) (mI σ 657 m) (mI σ 658 m) (mI σ 659 m) num (fun k => ab (cC R m σ (4856 + k))) k) ∧ RRel (K_note (mI σ 655 m) (mI σ 656 m) (mI σ 657 m) (mI σ 658 m) num r) (rR R m (Z_X10_act R σ m x) 201) ∧ Fa R m (mI σ 657 m).toNatClampNeg σ (Z_X10_act R σ m x) := by
  have lT := cl_23 hF.htg
  have iT : (4856 + mI σ 657 m).toNatClampNeg = 4856 + (mI σ 657 m).toNatClampNeg := ix_add (b := 4856) (B := 4856) rfl hF.htg
  have a3 : (4850 : Int32).toNatClampNeg = 4850 := rfl
  obtain ⟨ρ1, e1, l1, r1, s1, f1⟩ := stA (x := x) hD hF hnum hN
  obtain ⟨ρ2, e2, g1, a1, g2, a2, f2⟩ := stB (op := mI σ 655 m) (w := mI σ 656 m) hD hF.hw (by rw [l1]; exact hN _ lT) r1 rfl rfl
  have f12 := fx_tr f1 f2
  have q2 : ∀ k, k ≠ 676 → mI ρ2 k m = mI σ k m := fun k hk => f12.2.1 k m hk
  have hF2 : DF (mI ρ2 655 m) (mI ρ2 656 m) (mI ρ2 657 m) (mI ρ2 658 m) (mI ρ2 659 m) num := by rw [q2 655 (by decide), q2 656 (by decide), q2 657 (by decide), q2 658 (by decide), q2 659 (by decide)]; exact hF
  obtain ⟨ρ3, e3, a4, f3⟩ := stC (x2 := if mI σ 656 m = 32 then 1 else 0) (b := K_second (mI σ 655 m) (mI σ 658 m) (mI σ 659 m) num (fun k => ab (cC R m σ (4856 + k)))) hD hF2 g1 g2 a1 a2 (by
    rw [q2 655 (by decide), q2 656 (by decide)]
    intro nr
    rw [s1 nr]) (by
    rw [q2 655 (by decide), q2 659 (by decide)]
    intro z
    have hs := hF.hsh (by rw [z]; exact ⟨by decide, by decide⟩)
    unfold K_second
    rw [if_pos hs, z]
    simp)
  rw [q2 655 (by decide), q2 656 (by decide), q2 657 (by decide), q2 658 (by decide), q2 659 (by decide)] at a4
  obtain ⟨ρ4, e4, a5, f4⟩ := stD (w := mI σ 656 m) (p := ¬ mI σ 655 m = 7 ∧ ¬ mI σ 655 m = 8) hD hF.hw (fun hp => a4 hp.1 hp.2)
  have f14 := fx_tr (fx_tr f12 f3) f4
  have q4 : ∀ k, k ≠ 676 → mI ρ4 k m = mI σ k m := fun k hk => f14.2.1 k m hk
  have eA : Z_X10_act R σ m x = Z_X10_act_p160 R ρ4 m := by rw [e1, e2, e3, e4]
  rw [eA]
  have hsc : ∀ k, k < 24 → 4856 + k ∉ SCR := by
    intro k hk z
    simp only [List.mem_cons, List.not_mem_nil, or_false] at z
    omega
  have hN4 : ∀ k, k < 24 → cC R m ρ4 (4856 + k) = cC R m σ (4856 + k) := fun k hk => f14.2.2.1 _ (hsc k hk)
  -- the end, for a heap π before note
  have fin : ∀ π : SG, mJ π = mJ σ → (∀ k q, k ≠ 676 → mI π k q = mI σ k q) → (∀ j, j ∉ SCR → j ≠ 4856 + (mI σ 657 m).toNatClampNeg → cC R m π j = cC R m σ j) → (∀ a, a ≠ R 643 m → mi π a = mi σ a) → (∀ a, a ≠ R 644 m → a ≠ R 645 m → a ≠ R 646 m → mj π a = mj σ a) → RRel (K_note (mI σ 655 m) (mI σ 656 m) (mI σ 657 m) (mI σ 658 m) num r) (rR R m (Z_X10_note R π m) 201) ∧ Fa R m (mI σ 657 m).toNatClampNeg σ (Z_X10_note R π m) ∧ ∀ j, cC R m (Z_X10_note R π m) j = cC R m π j := by
    intro π p1 p2 p3 p4 p5
    have fx : Fx R m ((4856 + (mI σ 657 m).toNatClampNeg) :: SCR) σ π := ⟨p1, p2, fun j hj => p3 j (fun z => hj (List.mem_cons_of_mem _ z)) (fun z => hj (by rw [z]; exact List.mem_cons_self)), p4, p5⟩
    have k := fun k hk => p2 k m hk
    have hr2 : RRel r (rR R m π 201) := by rw [rR_fx hD9 fx]; exact hr
    obtain ⟨n1, n2⟩ := note_ok (σ := π) (num := num) hD9 hr2 (by rw [k 657 (by decide)]; exact hF.htg) (by rw [k 658 (by decide)]; exact hF.hsr) (by rw [k 655 (by decide)]; exact hF.hop) (by rw [k 655 (by decide)]; exact ⟨hF.h2, hF.h3⟩) (by rw [p1, k 655 (by decide)]; exact hnum) (by rw [k 658 (by decide)]; exact hF.hz)
    rw [k 655 (by decide), k 656 (by decide), k 657 (by decide), k 658 (by decide)] at n1
    refine ⟨n1, ⟨n2.1.trans p1, fun k q hk => (congrFun (congrFun n2.2.1 k) q).trans (p2 k q hk), fun j h1 h2 => (cC_fn hD9 n2).trans (p3 j h1 h2), fun a h1 h2 h3 h4 => (n2.2.2.1 a h2 h3 h4).trans (p4 a h1), fun a h1 h2 h3 h4 => (n2.2.2.2.1 a h4).trans (p5 a h1 h2 h3), fun p hp => (n2.2.2.2.2 p hp).trans (rR_fx hD9 fx)⟩, fun j => cC_fn hD9 n2⟩
  unfold Z_X10_act_p160 K_eff
  rw [q4 655 (by decide), q4 657 (by decide)]
  by_cases c7 : mI σ 655 m = 7
  · rw [if_pos c7, if_pos c7]
    obtain ⟨z1, z2, z3⟩ := fin ρ4 f14.1 f14.2.1 (fun j h1 _ => f14.2.2.1 j h1) f14.2.2.2.1 f14.2.2.2.2
    exact ⟨fun k hk => by rw [z3, hN4 k hk]; exact ⟨hN k hk, rfl⟩, z1, z2⟩
  · rw [if_neg c7, if_neg c7]
    by_cases c8 : mI σ 655 m = 8
    · rw [if_pos c8, if_pos c8]
      obtain ⟨z1, z2, z3⟩ := fin ρ4 f14.1 f14.2.1 (fun j h1 _ => f14.2.2.1 j h1) f14.2.2.2.1 f14.2.2.2.2
      exact ⟨fun k hk => by rw [z3, hN4 k hk]; exact ⟨hN k hk, rfl⟩, z1, z2⟩
    · rw [if_neg c8, if_neg c8]
      simp only [zj_copy hD, a3, iT]
      obtain ⟨m1, m2⟩ := a5 ⟨c7, c8⟩
      have fw : Fx R m [4856 + (mI σ 657 m).toNatClampNeg] ρ4 (wC R m ρ4 (4856 + (mI σ 657 m).toNatClampNeg) (cC R m ρ4 4850)) := fx_wC (by simp)
      obtain ⟨z1, z2, z3⟩ := fin (wC R m ρ4 (4856 + (mI σ 657 m).toNatClampNeg) (cC R m ρ4 4850)) (fw.1.trans f14.1) (fun k q hk => (fw.2.1 k q hk).trans (f14.2.1 k q hk)) (fun j h1 h2 => (fw.2.2.1 j (by simpa using h2)).trans (f14.2.2.1 j h1)) (fun a h => (fw.2.2.2.1 a h).trans (f14.2.2.2.1 a h)) (fun a h1 h2 h3 => (fw.2.2.2.2 a h1 h2 h3).trans (f14.2.2.2.2 a h1 h2 h3))
      refine ⟨fun k hk => ?_, z1, z2⟩
      rw [z3, stT_in hF.htg]
      unfold upT
      by_cases e : k = (mI σ 657 m).toNatClampNeg
      · subst e
        rw [cC_wC hD, if_pos rfl]
        refine ⟨m1, m2.trans ?_⟩
        unfold K_res K_comp
        rw [ldT_in hF.htg, l1]
      · rw [cC_wCn (by omega), if_neg e, hN4 k hk]
        exact ⟨hN k hk, rfl⟩
end ACV
