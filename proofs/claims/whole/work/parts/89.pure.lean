theorem pure_law (L : Nat) (xs : Nat → Int32) (z : Nat) (hL : L ≤ 2560) : ∃ M', f_law L xs (z, fun _ => none) = some (1, M') := by
  have hl := law_loop (L := L) (xs := xs) (X := (E0 z).1 0 0) (Y := (E0 z).1 30 0) hL 513 FU 0 (E0 z) s0 rfl (by unfold FU; omega) (ok0 z) rfl rfl (inv0 z)
  unfold f_law
  rw [show nI (5 * 0) = 0 from nI_0] at hl
  generalize f_law_b18 L xs FU = K at hl ⊢
  obtain ⟨M', h⟩ := hl
  exact ⟨M', (law_init (fun a b M => K a b 0 M) z).trans h⟩
