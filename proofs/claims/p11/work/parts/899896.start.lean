/-! the start -/
section LST
variable {S T T1 T2 : Hp} {x m pa en a : Nat} {n : Int32} {bs : Nat → Int32} {t : Tb} {v : Option Value}
theorem csp_uq (h : CSp n bs t S pa v T) : UQ T := by
  obtain ⟨_, _, _, _, c, _⟩ := h
  exact c.1
theorem li_start (hU : UQ T) (hx : hp_R T 578 x = some en) (h8 : S8 T en) (hn : hp_r T pa = fun _ => none) (hm : hp_R T 643 m = some a) (hc : ∀ i, i < 24 → hp_i T a (4880 + i) = 2) : LI T x m pa := by
  obtain ⟨-, p, q, r, ⟨r1, r2, r3⟩, -, -, ⟨j1, j2, j3⟩, i1, i2, i3⟩ := h8
  refine ⟨hU, fun i j z _ _ e => ?_, fun k hk => ?_, ?_⟩
  · rw [hn] at e; cases e
  · have e1 : (cC (RR T) m (sg T) (4880 + k)).1 = 2 := by
      show hp_i T (RR T 643 m) (4880 + k) = 2
      rw [rr_R hm]
      exact hc k hk
    refine ⟨Or.inl e1, ?_⟩
    rw [ab_2 e1, rr_R hx]
    show tANY = (hp_j T (RR T 512 en) k, hp_j T (RR T 513 en) k, hp_j T (RR T 514 en) k)
    rw [rr_R r1, rr_R r2, rr_R r3, j1 k hk, j2 k hk, j3 k hk]
  · rw [rr_R hx]; exact i1
theorem uq_0 : UQ S_0 := ⟨fun _ hq => (nomatch hq), fun _ hq => (nomatch hq)⟩
end LST
