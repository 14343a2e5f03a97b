theorem mu_ext {E : ev} {s : st} {M : mm} (hE : okE E) (h1 : M.1 = E.2.2.1) (h2 : ∀ k i, i < lc E k → M.2 (E.1 k i) = some (ctr E (s k i) k i)) (h3 : ∀ a, (¬ ∃ q : Nat × Nat, q.2 < lc E q.1 ∧ E.1 q.1 q.2 = a) → M.2 a = E.2.2.2 a) : M = mu E s := by
  refine Prod.ext h1 (funext fun a => ?_)
  by_cases hl : ∃ q : Nat × Nat, q.2 < lc E q.1 ∧ E.1 q.1 q.2 = a
  · obtain ⟨⟨k, i⟩, hk, rfl⟩ := hl
    rw [h2 k i hk]
    exact (mu_at hE hk).symm
  · rw [h3 a hl]
    exact (mu_ne hl).symm
theorem pF_hit {ci k a : Nat} {v : Value} {M : mm} {fs : List Value} (h : M.2 a = some (.inr (ci, fs))) (hk : k < fs.length) : pF ci k v M a = some (mm_up M a (.inr (ci, fs.set k v))) := by
  unfold pF
  rw [h]
  show (if _ then _ else _) = _
  rw [if_pos ⟨rfl, hk⟩]
theorem up_at {M : mm} {a : Nat} {e : va_E} : (mm_up M a e).2 a = some e := by simp [mm_up, va_up]
theorem up_ne {M : mm} {a b : Nat} {e : va_E} (h : b ≠ a) : (mm_up M a e).2 b = M.2 b := by simp [mm_up, va_up, h]
theorem ad_at {M : mm} {e : va_E} : (mm_ad M e).2 M.1 = some e := by simp [mm_ad, va_up]
theorem ad_ne {M : mm} {b : Nat} {e : va_E} (h : b ≠ M.1) : (mm_ad M e).2 b = M.2 b := by simp [mm_ad, va_up, h]
/-- a new line at the memory's end -/
theorem lineInit (M : mm) : f_Line_init M.1 (mm_ad M (.inr (2, [.null, .int 0]))) = some ((), (M.1 + 2, fun a => if a = M.1 then some (.inr (2, [.ref (M.1 + 1), .int 0])) else if a = M.1 + 1 then some (.inl (0, 100, .inl (fun _ => 0))) else M.2 a)) := by
  unfold f_Line_init
  simp only [nA, Option.bind_some]
  rw [pF_hit (fs := [.null, .int 0]) (by rw [ad_ne (by show M.1 ≠ M.1 + 1; omega), ad_at]) (by decide), Option.bind_some]
  rw [pF_hit (fs := [.ref (M.1 + 1), .int 0]) (by rw [up_at]; rfl) (Nat.le_of_ble_eq_true rfl), Option.bind_some]
  refine congrArg some (Prod.ext rfl (Prod.ext rfl (funext fun a => ?_)))
  show va_up (va_up (va_up (va_up M.2 M.1 _) (M.1 + 1) _) M.1 _) M.1 _ a = _
  unfold va_up
  by_cases h1 : a = M.1
  · simp only [if_pos h1]; rfl
  · simp only [if_neg h1]
/-- a new pack at the memory's end -/
theorem packInit (M : mm) (nm kp : Int32) (hk : kp = 0 ∨ kp = 1) : f_Pack_init M.1 nm kp (mm_ad M (.inr (4, [.int 0, .int 0, .null, .null, .int 0, .int 0]))) = some ((), (M.1 + 5, fun a => if a = M.1 then some (.inr (4, [.int nm, .int kp, .ref (M.1 + 1), .ref (M.1 + 3), .int 100, .int (-1)])) else if a = M.1 + 1 then some (.inr (2, [.ref (M.1 + 2), .int 0])) else if a = M.1 + 2 then some (.inl (0, 100, .inl (fun _ => 0))) else if a = M.1 + 3 then some (.inr (2, [.ref (M.1 + 4), .int 0])) else if a = M.1 + 4 then some (.inl (0, 100, .inl (fun _ => 0))) else M.2 a)) := by
  have hkb : kB kp = some () := by rcases hk with rfl | rfl <;> rfl
  unfold f_Pack_init
  simp only [nO, Option.bind_some, hkb]
  rw [show f_Line_init (mm_ad M (.inr (4, [.int 0, .int 0, .null, .null, .int 0, .int 0]))).1 (mm_ad (mm_ad M (.inr (4, [.int 0, .int 0, .null, .null, .int 0, .int 0]))) (.inr (2, [.null, .int 0]))) = _ from lineInit _]
  simp only [Option.bind_some]
  have step : ∀ (Z : mm) (fs : List Value) (k : Nat) (v : Value), Z.2 M.1 = some (.inr (4, fs)) → k < fs.length → pF 4 k v Z M.1 = some (mm_up Z M.1 (.inr (4, fs.set k v))) := fun Z fs k v h h' => pF_hit h h'
  rw [step _ [.int 0, .int 0, .null, .null, .int 0, .int 0] _ _ (by
    show (if M.1 = M.1 + 1 then _ else if M.1 = M.1 + 1 + 1 then _ else _) = _
    rw [if_neg (by omega), if_neg (by omega), ad_at]) (by decide)]
  simp only [Option.bind_some]
  generalize hZ : mm_up _ M.1 _ = Z
  have hz1 : Z.1 = M.1 + 3 := by rw [← hZ]; rfl
  have hz2 : Z.2 = fun a => if a = M.1 then some (.inr (4, [.int 0, .int 0, .ref (M.1 + 1), .null, .int 0, .int 0])) else if a = M.1 + 1 then some (.inr (2, [.ref (M.1 + 2), .int 0])) else if a = M.1 + 2 then some (.inl (0, 100, .inl (fun _ => 0))) else M.2 a := by
    rw [← hZ]
    funext a
    show va_up (fun a => if a = M.1 + 1 then _ else if a = M.1 + 1 + 1 then _ else va_up M.2 M.1 _ a) M.1 _ a = _
    unfold va_up
    by_cases h1 : a = M.1
    · simp only [if_pos h1]; rfl
    · simp only [if_neg h1]; rfl
  rw [show f_Line_init Z.1 (mm_ad Z (.inr (2, [.null, .int 0]))) = _ from lineInit _]
  simp only [Option.bind_some]
  rw [step _ [.int 0, .int 0, .ref (M.1 + 1), .null, .int 0, .int 0] _ _ (by
    show (if M.1 = Z.1 then _ else if M.1 = Z.1 + 1 then _ else Z.2 M.1) = _
    rw [if_neg (by omega), if_neg (by omega), hz2]
    show (if M.1 = M.1 then _ else _) = _
    rw [if_pos rfl]) (Nat.le_of_ble_eq_true rfl)]
  simp only [Option.bind_some]
  rw [step _ [.int 0, .int 0, .ref (M.1 + 1), .ref Z.1, .int 0, .int 0] _ _ (by rw [up_at]; rfl) (Nat.le_of_ble_eq_true rfl), Option.bind_some,
    step _ [.int 0, .int 0, .ref (M.1 + 1), .ref Z.1, .int 100, .int 0] _ _ (by rw [up_at]; rfl) (Nat.le_of_ble_eq_true rfl), Option.bind_some,
    step _ [.int 0, .int 0, .ref (M.1 + 1), .ref Z.1, .int 100, .int (-1)] _ _ (by rw [up_at]; rfl) (Nat.le_of_ble_eq_true rfl), Option.bind_some,
    step _ [.int nm, .int 0, .ref (M.1 + 1), .ref Z.1, .int 100, .int (-1)] _ _ (by rw [up_at]; rfl) (Nat.le_of_ble_eq_true rfl), Option.bind_some]
  refine congrArg some (Prod.ext rfl (Prod.ext ?_ (funext fun a => ?_)))
  · show Z.1 + 2 = M.1 + 5
    omega
  · show va_up (va_up (va_up (va_up (va_up (fun a => if a = Z.1 then _ else if a = Z.1 + 1 then _ else Z.2 a) M.1 _) M.1 _) M.1 _) M.1 _) M.1 _ a = _
    unfold va_up
    rw [hz1, hz2]
    by_cases h1 : a = M.1
    · simp only [if_pos h1]; rfl
    · simp only [if_neg h1]
      by_cases h2 : a = M.1 + 3
      · rw [if_pos h2, if_neg (by omega), if_neg (by omega), if_pos h2]
      · rw [if_neg h2]
        by_cases h3 : a = M.1 + 3 + 1
        · rw [if_pos h3, if_neg (by omega), if_neg (by omega), if_neg h2, if_pos h3]
        · rw [if_neg h3]
          by_cases h4 : a = M.1 + 1
          · rw [if_pos h4, if_pos h4]
          · rw [if_neg h4, if_neg h4]
            by_cases h5 : a = M.1 + 2
            · rw [if_pos h5, if_pos h5]
            · rw [if_neg h5, if_neg h5, if_neg h2, if_neg h3]
