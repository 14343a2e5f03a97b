/-- cells whose children lie where they lay are the same cells -/
theorem ctr_same {E E' : ev} (ha : ∀ k i, i < lc E k → E'.1 k i = E.1 k i) {row : Nat → Int32} : ∀ (k i : Nat), i < lc E k → k ≠ 1 → k ≠ 2 → k ≠ 3 → (k = 17 → (row 0).toNatClampNeg < E.2.1.1) → ctr E' row k i = ctr E row k i
  | 0, i, hk, _, _, _, h17 => by
    show (Sum.inr (0, [.ref (E'.1 1 i), .int (row 1), .ref (E'.1 2 i), .int (row 3), .ref (E'.1 3 i), .int (row 5), .ref (E'.1 4 i), .ref (E'.1 5 i), .ref (E'.1 9 i), .int (row 9)]) : va_E) = Sum.inr (0, [.ref (E.1 1 i), .int (row 1), .ref (E.1 2 i), .int (row 3), .ref (E.1 3 i), .int (row 5), .ref (E.1 4 i), .ref (E.1 5 i), .ref (E.1 9 i), .int (row 9)])
    rw [ha 1 i hk, ha 2 i hk, ha 3 i hk, ha 4 i hk, ha 5 i hk, ha 9 i hk]
  | 1, i, hk, h1, h2, h3, _ => absurd rfl h1
  | 2, i, hk, h1, h2, h3, _ => absurd rfl h2
  | 3, i, hk, h1, h2, h3, _ => absurd rfl h3
  | 4, i, hk, _, _, _, _ => rfl
  | 5, i, hk, _, _, _, h17 => by
    show (Sum.inr (7, [.ref (E'.1 6 i), .ref (E'.1 7 i), .ref (E'.1 8 i), .int (row 3)]) : va_E) = Sum.inr (7, [.ref (E.1 6 i), .ref (E.1 7 i), .ref (E.1 8 i), .int (row 3)])
    rw [ha 6 i hk, ha 7 i hk, ha 8 i hk]
  | 6, i, hk, _, _, _, _ => rfl
  | 7, i, hk, _, _, _, _ => rfl
  | 8, i, hk, _, _, _, _ => rfl
  | 9, i, hk, _, _, _, h17 => by
    show (Sum.inr (3, [.ref (E'.1 10 i), .ref (E'.1 11 i), .int (row 2)]) : va_E) = Sum.inr (3, [.ref (E.1 10 i), .ref (E.1 11 i), .int (row 2)])
    rw [ha 10 i hk, ha 11 i hk]
  | 10, i, hk, _, _, _, _ => rfl
  | 11, i, hk, _, _, _, _ => rfl
  | 12, i, hk, _, _, _, h17 => by
    show (Sum.inr (4, [.int (row 0), .int (row 1), .ref (E'.1 13 i), .ref (E'.1 14 i), .int (row 4), .int (row 5)]) : va_E) = Sum.inr (4, [.int (row 0), .int (row 1), .ref (E.1 13 i), .ref (E.1 14 i), .int (row 4), .int (row 5)])
    rw [ha 13 i hk, ha 14 i hk]
  | 13, i, hk, _, _, _, h17 => by
    show (Sum.inr (2, [.ref (E'.1 15 i), .int (row 1)]) : va_E) = Sum.inr (2, [.ref (E.1 15 i), .int (row 1)])
    rw [ha 15 i hk]
  | 14, i, hk, _, _, _, h17 => by
    show (Sum.inr (2, [.ref (E'.1 16 i), .int (row 1)]) : va_E) = Sum.inr (2, [.ref (E.1 16 i), .int (row 1)])
    rw [ha 16 i hk]
  | 15, i, hk, _, _, _, _ => rfl
  | 16, i, hk, _, _, _, _ => rfl
  | 17, i, hk, _, _, _, h17 => by
    show (Sum.inr (6, [.ref (E'.1 12 (row 0).toNatClampNeg), .int (row 1), .int (row 2), .int (row 3), .ref (E'.1 18 i), .ref (E'.1 19 i), .int (row 6)]) : va_E) = Sum.inr (6, [.ref (E.1 12 (row 0).toNatClampNeg), .int (row 1), .int (row 2), .int (row 3), .ref (E.1 18 i), .ref (E.1 19 i), .int (row 6)])
    rw [ha 12 _ (h17 rfl), ha 18 i hk, ha 19 i hk]
  | 18, i, hk, _, _, _, _ => rfl
  | 19, i, hk, _, _, _, _ => rfl
  | 20, i, hk, _, _, _, _ => rfl
  | 21, i, hk, _, _, _, _ => absurd hk (Nat.not_lt_zero i)
  | 22, i, hk, _, _, _, _ => absurd hk (Nat.not_lt_zero i)
  | 23, i, hk, _, _, _, _ => absurd hk (Nat.not_lt_zero i)
  | 24, i, hk, _, _, _, _ => absurd hk (Nat.not_lt_zero i)
  | 25, i, hk, _, _, _, _ => absurd hk (Nat.not_lt_zero i)
  | 26, i, hk, _, _, _, _ => absurd hk (Nat.not_lt_zero i)
  | 27, i, hk, _, _, _, _ => absurd hk (Nat.not_lt_zero i)
  | 28, i, hk, _, _, _, _ => absurd hk (Nat.not_lt_zero i)
  | 29, i, hk, _, _, _, _ => absurd hk (Nat.not_lt_zero i)
  | 30, i, hk, _, _, _, h17 => by
    show (Sum.inr (1, [.int (row 0), .int (row 1), .ref (E'.1 32 i), .ref (E'.1 33 i), .ref (E'.1 34 i), .ref (E'.1 35 i), .ref (E'.1 36 i), .ref (E'.1 37 i), .ref (E'.1 38 i), .int (row 9), .ref (E'.1 40 i), .ref (E'.1 41 i), .ref (E'.1 42 i), .ref (E'.1 43 i), .ref (E'.1 44 i), .ref (E'.1 45 i), .ref (E'.1 46 i), .int (row 17), .ref (E'.1 48 i), .ref (E'.1 49 i), .ref (E'.1 50 i), .ref (E'.1 51 i), .ref (E'.1 52 i), .int (row 23), .ref (E'.1 54 i), .int (row 25), .ref (E'.1 56 i), .ref (E'.1 57 i), .ref (E'.1 58 i), .int (row 29), .ref (E'.1 60 i), .ref (E'.1 61 i)]) : va_E) = Sum.inr (1, [.int (row 0), .int (row 1), .ref (E.1 32 i), .ref (E.1 33 i), .ref (E.1 34 i), .ref (E.1 35 i), .ref (E.1 36 i), .ref (E.1 37 i), .ref (E.1 38 i), .int (row 9), .ref (E.1 40 i), .ref (E.1 41 i), .ref (E.1 42 i), .ref (E.1 43 i), .ref (E.1 44 i), .ref (E.1 45 i), .ref (E.1 46 i), .int (row 17), .ref (E.1 48 i), .ref (E.1 49 i), .ref (E.1 50 i), .ref (E.1 51 i), .ref (E.1 52 i), .int (row 23), .ref (E.1 54 i), .int (row 25), .ref (E.1 56 i), .ref (E.1 57 i), .ref (E.1 58 i), .int (row 29), .ref (E.1 60 i), .ref (E.1 61 i)])
    rw [ha 32 i hk, ha 33 i hk, ha 34 i hk, ha 35 i hk, ha 36 i hk, ha 37 i hk, ha 38 i hk, ha 40 i hk, ha 41 i hk, ha 42 i hk, ha 43 i hk, ha 44 i hk, ha 45 i hk, ha 46 i hk, ha 48 i hk, ha 49 i hk, ha 50 i hk, ha 51 i hk, ha 52 i hk, ha 54 i hk, ha 56 i hk, ha 57 i hk, ha 58 i hk, ha 60 i hk, ha 61 i hk]
  | 31, i, hk, _, _, _, _ => absurd hk (Nat.not_lt_zero i)
  | 32, i, hk, _, _, _, _ => rfl
  | 33, i, hk, _, _, _, _ => rfl
  | 34, i, hk, _, _, _, _ => rfl
  | 35, i, hk, _, _, _, _ => rfl
  | 36, i, hk, _, _, _, _ => rfl
  | 37, i, hk, _, _, _, _ => rfl
  | 38, i, hk, _, _, _, _ => rfl
  | 39, i, hk, _, _, _, _ => absurd hk (Nat.not_lt_zero i)
  | 40, i, hk, _, _, _, _ => rfl
  | 41, i, hk, _, _, _, _ => rfl
  | 42, i, hk, _, _, _, _ => rfl
  | 43, i, hk, _, _, _, _ => rfl
  | 44, i, hk, _, _, _, _ => rfl
  | 45, i, hk, _, _, _, _ => rfl
  | 46, i, hk, _, _, _, _ => rfl
  | 47, i, hk, _, _, _, _ => absurd hk (Nat.not_lt_zero i)
  | 48, i, hk, _, _, _, _ => rfl
  | 49, i, hk, _, _, _, _ => rfl
  | 50, i, hk, _, _, _, _ => rfl
  | 51, i, hk, _, _, _, _ => rfl
  | 52, i, hk, _, _, _, _ => rfl
  | 53, i, hk, _, _, _, _ => absurd hk (Nat.not_lt_zero i)
  | 54, i, hk, _, _, _, _ => rfl
  | 55, i, hk, _, _, _, _ => absurd hk (Nat.not_lt_zero i)
  | 56, i, hk, _, _, _, _ => rfl
  | 57, i, hk, _, _, _, _ => rfl
  | 58, i, hk, _, _, _, _ => rfl
  | 59, i, hk, _, _, _, _ => absurd hk (Nat.not_lt_zero i)
  | 60, i, hk, _, _, _, _ => rfl
  | 61, i, hk, _, _, _, _ => rfl
  | m + 62, i, hk, _, _, _, _ => absurd hk (Nat.not_lt_zero i)
theorem lc_p {E E' : ev} (he : E'.2.1 = (E.2.1.1 + 1, E.2.1.2.1, E.2.1.2.2)) : ∀ (k i : Nat), i < lc E' k ↔ (i < lc E k ∨ (i = E.2.1.1 ∧ 12 ≤ k ∧ k ≤ 16))
  | 0, i => ⟨fun h => Or.inl h, fun h => h.elim id (fun h => by omega)⟩
  | 1, i => ⟨fun h => Or.inl h, fun h => h.elim id (fun h => by omega)⟩
  | 2, i => ⟨fun h => Or.inl h, fun h => h.elim id (fun h => by omega)⟩
  | 3, i => ⟨fun h => Or.inl h, fun h => h.elim id (fun h => by omega)⟩
  | 4, i => ⟨fun h => Or.inl h, fun h => h.elim id (fun h => by omega)⟩
  | 5, i => ⟨fun h => Or.inl h, fun h => h.elim id (fun h => by omega)⟩
  | 6, i => ⟨fun h => Or.inl h, fun h => h.elim id (fun h => by omega)⟩
  | 7, i => ⟨fun h => Or.inl h, fun h => h.elim id (fun h => by omega)⟩
  | 8, i => ⟨fun h => Or.inl h, fun h => h.elim id (fun h => by omega)⟩
  | 9, i => ⟨fun h => Or.inl h, fun h => h.elim id (fun h => by omega)⟩
  | 10, i => ⟨fun h => Or.inl h, fun h => h.elim id (fun h => by omega)⟩
  | 11, i => ⟨fun h => Or.inl h, fun h => h.elim id (fun h => by omega)⟩
  | 12, i => by
    show i < E'.2.1.1 ↔ (i < E.2.1.1 ∨ _)
    rw [he]
    show i < E.2.1.1 + 1 ↔ _
    omega
  | 13, i => by
    show i < E'.2.1.1 ↔ (i < E.2.1.1 ∨ _)
    rw [he]
    show i < E.2.1.1 + 1 ↔ _
    omega
  | 14, i => by
    show i < E'.2.1.1 ↔ (i < E.2.1.1 ∨ _)
    rw [he]
    show i < E.2.1.1 + 1 ↔ _
    omega
  | 15, i => by
    show i < E'.2.1.1 ↔ (i < E.2.1.1 ∨ _)
    rw [he]
    show i < E.2.1.1 + 1 ↔ _
    omega
  | 16, i => by
    show i < E'.2.1.1 ↔ (i < E.2.1.1 ∨ _)
    rw [he]
    show i < E.2.1.1 + 1 ↔ _
    omega
  | 17, i => by
    show i < E'.2.1.2.1 ↔ (i < E.2.1.2.1 ∨ _)
    rw [he]
    show i < E.2.1.2.1 ↔ _
    omega
  | 18, i => by
    show i < E'.2.1.2.1 ↔ (i < E.2.1.2.1 ∨ _)
    rw [he]
    show i < E.2.1.2.1 ↔ _
    omega
  | 19, i => by
    show i < E'.2.1.2.1 ↔ (i < E.2.1.2.1 ∨ _)
    rw [he]
    show i < E.2.1.2.1 ↔ _
    omega
  | 20, i => by
    show i < E'.2.1.2.2 ↔ (i < E.2.1.2.2 ∨ _)
    rw [he]
    show i < E.2.1.2.2 ↔ _
    omega
  | 21, i => ⟨fun h => absurd h (Nat.not_lt_zero i), fun h => h.elim (fun h => absurd h (Nat.not_lt_zero i)) (fun h => by omega)⟩
  | 22, i => ⟨fun h => absurd h (Nat.not_lt_zero i), fun h => h.elim (fun h => absurd h (Nat.not_lt_zero i)) (fun h => by omega)⟩
  | 23, i => ⟨fun h => absurd h (Nat.not_lt_zero i), fun h => h.elim (fun h => absurd h (Nat.not_lt_zero i)) (fun h => by omega)⟩
  | 24, i => ⟨fun h => absurd h (Nat.not_lt_zero i), fun h => h.elim (fun h => absurd h (Nat.not_lt_zero i)) (fun h => by omega)⟩
  | 25, i => ⟨fun h => absurd h (Nat.not_lt_zero i), fun h => h.elim (fun h => absurd h (Nat.not_lt_zero i)) (fun h => by omega)⟩
  | 26, i => ⟨fun h => absurd h (Nat.not_lt_zero i), fun h => h.elim (fun h => absurd h (Nat.not_lt_zero i)) (fun h => by omega)⟩
  | 27, i => ⟨fun h => absurd h (Nat.not_lt_zero i), fun h => h.elim (fun h => absurd h (Nat.not_lt_zero i)) (fun h => by omega)⟩
  | 28, i => ⟨fun h => absurd h (Nat.not_lt_zero i), fun h => h.elim (fun h => absurd h (Nat.not_lt_zero i)) (fun h => by omega)⟩
  | 29, i => ⟨fun h => absurd h (Nat.not_lt_zero i), fun h => h.elim (fun h => absurd h (Nat.not_lt_zero i)) (fun h => by omega)⟩
  | 30, i => ⟨fun h => Or.inl h, fun h => h.elim id (fun h => by omega)⟩
  | 31, i => ⟨fun h => absurd h (Nat.not_lt_zero i), fun h => h.elim (fun h => absurd h (Nat.not_lt_zero i)) (fun h => by omega)⟩
  | 32, i => ⟨fun h => Or.inl h, fun h => h.elim id (fun h => by omega)⟩
  | 33, i => ⟨fun h => Or.inl h, fun h => h.elim id (fun h => by omega)⟩
  | 34, i => ⟨fun h => Or.inl h, fun h => h.elim id (fun h => by omega)⟩
  | 35, i => ⟨fun h => Or.inl h, fun h => h.elim id (fun h => by omega)⟩
  | 36, i => ⟨fun h => Or.inl h, fun h => h.elim id (fun h => by omega)⟩
  | 37, i => ⟨fun h => Or.inl h, fun h => h.elim id (fun h => by omega)⟩
  | 38, i => ⟨fun h => Or.inl h, fun h => h.elim id (fun h => by omega)⟩
  | 39, i => ⟨fun h => absurd h (Nat.not_lt_zero i), fun h => h.elim (fun h => absurd h (Nat.not_lt_zero i)) (fun h => by omega)⟩
  | 40, i => ⟨fun h => Or.inl h, fun h => h.elim id (fun h => by omega)⟩
  | 41, i => ⟨fun h => Or.inl h, fun h => h.elim id (fun h => by omega)⟩
  | 42, i => ⟨fun h => Or.inl h, fun h => h.elim id (fun h => by omega)⟩
  | 43, i => ⟨fun h => Or.inl h, fun h => h.elim id (fun h => by omega)⟩
  | 44, i => ⟨fun h => Or.inl h, fun h => h.elim id (fun h => by omega)⟩
  | 45, i => ⟨fun h => Or.inl h, fun h => h.elim id (fun h => by omega)⟩
  | 46, i => ⟨fun h => Or.inl h, fun h => h.elim id (fun h => by omega)⟩
  | 47, i => ⟨fun h => absurd h (Nat.not_lt_zero i), fun h => h.elim (fun h => absurd h (Nat.not_lt_zero i)) (fun h => by omega)⟩
  | 48, i => ⟨fun h => Or.inl h, fun h => h.elim id (fun h => by omega)⟩
  | 49, i => ⟨fun h => Or.inl h, fun h => h.elim id (fun h => by omega)⟩
  | 50, i => ⟨fun h => Or.inl h, fun h => h.elim id (fun h => by omega)⟩
  | 51, i => ⟨fun h => Or.inl h, fun h => h.elim id (fun h => by omega)⟩
  | 52, i => ⟨fun h => Or.inl h, fun h => h.elim id (fun h => by omega)⟩
  | 53, i => ⟨fun h => absurd h (Nat.not_lt_zero i), fun h => h.elim (fun h => absurd h (Nat.not_lt_zero i)) (fun h => by omega)⟩
  | 54, i => ⟨fun h => Or.inl h, fun h => h.elim id (fun h => by omega)⟩
  | 55, i => ⟨fun h => absurd h (Nat.not_lt_zero i), fun h => h.elim (fun h => absurd h (Nat.not_lt_zero i)) (fun h => by omega)⟩
  | 56, i => ⟨fun h => Or.inl h, fun h => h.elim id (fun h => by omega)⟩
  | 57, i => ⟨fun h => Or.inl h, fun h => h.elim id (fun h => by omega)⟩
  | 58, i => ⟨fun h => Or.inl h, fun h => h.elim id (fun h => by omega)⟩
  | 59, i => ⟨fun h => absurd h (Nat.not_lt_zero i), fun h => h.elim (fun h => absurd h (Nat.not_lt_zero i)) (fun h => by omega)⟩
  | 60, i => ⟨fun h => Or.inl h, fun h => h.elim id (fun h => by omega)⟩
  | 61, i => ⟨fun h => Or.inl h, fun h => h.elim id (fun h => by omega)⟩
  | m + 62, i => ⟨fun h => absurd h (Nat.not_lt_zero i), fun h => h.elim (fun h => absurd h (Nat.not_lt_zero i)) (fun h => by omega)⟩
theorem lc_t {E E' : ev} (he : E'.2.1 = (E.2.1.1, E.2.1.2.1 + 1, E.2.1.2.2)) : ∀ (k i : Nat), i < lc E' k ↔ (i < lc E k ∨ (i = E.2.1.2.1 ∧ 17 ≤ k ∧ k ≤ 19))
  | 0, i => ⟨fun h => Or.inl h, fun h => h.elim id (fun h => by omega)⟩
  | 1, i => ⟨fun h => Or.inl h, fun h => h.elim id (fun h => by omega)⟩
  | 2, i => ⟨fun h => Or.inl h, fun h => h.elim id (fun h => by omega)⟩
  | 3, i => ⟨fun h => Or.inl h, fun h => h.elim id (fun h => by omega)⟩
  | 4, i => ⟨fun h => Or.inl h, fun h => h.elim id (fun h => by omega)⟩
  | 5, i => ⟨fun h => Or.inl h, fun h => h.elim id (fun h => by omega)⟩
  | 6, i => ⟨fun h => Or.inl h, fun h => h.elim id (fun h => by omega)⟩
  | 7, i => ⟨fun h => Or.inl h, fun h => h.elim id (fun h => by omega)⟩
  | 8, i => ⟨fun h => Or.inl h, fun h => h.elim id (fun h => by omega)⟩
  | 9, i => ⟨fun h => Or.inl h, fun h => h.elim id (fun h => by omega)⟩
  | 10, i => ⟨fun h => Or.inl h, fun h => h.elim id (fun h => by omega)⟩
  | 11, i => ⟨fun h => Or.inl h, fun h => h.elim id (fun h => by omega)⟩
  | 12, i => by
    show i < E'.2.1.1 ↔ (i < E.2.1.1 ∨ _)
    rw [he]
    show i < E.2.1.1 ↔ _
    omega
  | 13, i => by
    show i < E'.2.1.1 ↔ (i < E.2.1.1 ∨ _)
    rw [he]
    show i < E.2.1.1 ↔ _
    omega
  | 14, i => by
    show i < E'.2.1.1 ↔ (i < E.2.1.1 ∨ _)
    rw [he]
    show i < E.2.1.1 ↔ _
    omega
  | 15, i => by
    show i < E'.2.1.1 ↔ (i < E.2.1.1 ∨ _)
    rw [he]
    show i < E.2.1.1 ↔ _
    omega
  | 16, i => by
    show i < E'.2.1.1 ↔ (i < E.2.1.1 ∨ _)
    rw [he]
    show i < E.2.1.1 ↔ _
    omega
  | 17, i => by
    show i < E'.2.1.2.1 ↔ (i < E.2.1.2.1 ∨ _)
    rw [he]
    show i < E.2.1.2.1 + 1 ↔ _
    omega
  | 18, i => by
    show i < E'.2.1.2.1 ↔ (i < E.2.1.2.1 ∨ _)
    rw [he]
    show i < E.2.1.2.1 + 1 ↔ _
    omega
  | 19, i => by
    show i < E'.2.1.2.1 ↔ (i < E.2.1.2.1 ∨ _)
    rw [he]
    show i < E.2.1.2.1 + 1 ↔ _
    omega
  | 20, i => by
    show i < E'.2.1.2.2 ↔ (i < E.2.1.2.2 ∨ _)
    rw [he]
    show i < E.2.1.2.2 ↔ _
    omega
  | 21, i => ⟨fun h => absurd h (Nat.not_lt_zero i), fun h => h.elim (fun h => absurd h (Nat.not_lt_zero i)) (fun h => by omega)⟩
  | 22, i => ⟨fun h => absurd h (Nat.not_lt_zero i), fun h => h.elim (fun h => absurd h (Nat.not_lt_zero i)) (fun h => by omega)⟩
  | 23, i => ⟨fun h => absurd h (Nat.not_lt_zero i), fun h => h.elim (fun h => absurd h (Nat.not_lt_zero i)) (fun h => by omega)⟩
  | 24, i => ⟨fun h => absurd h (Nat.not_lt_zero i), fun h => h.elim (fun h => absurd h (Nat.not_lt_zero i)) (fun h => by omega)⟩
  | 25, i => ⟨fun h => absurd h (Nat.not_lt_zero i), fun h => h.elim (fun h => absurd h (Nat.not_lt_zero i)) (fun h => by omega)⟩
  | 26, i => ⟨fun h => absurd h (Nat.not_lt_zero i), fun h => h.elim (fun h => absurd h (Nat.not_lt_zero i)) (fun h => by omega)⟩
  | 27, i => ⟨fun h => absurd h (Nat.not_lt_zero i), fun h => h.elim (fun h => absurd h (Nat.not_lt_zero i)) (fun h => by omega)⟩
  | 28, i => ⟨fun h => absurd h (Nat.not_lt_zero i), fun h => h.elim (fun h => absurd h (Nat.not_lt_zero i)) (fun h => by omega)⟩
  | 29, i => ⟨fun h => absurd h (Nat.not_lt_zero i), fun h => h.elim (fun h => absurd h (Nat.not_lt_zero i)) (fun h => by omega)⟩
  | 30, i => ⟨fun h => Or.inl h, fun h => h.elim id (fun h => by omega)⟩
  | 31, i => ⟨fun h => absurd h (Nat.not_lt_zero i), fun h => h.elim (fun h => absurd h (Nat.not_lt_zero i)) (fun h => by omega)⟩
  | 32, i => ⟨fun h => Or.inl h, fun h => h.elim id (fun h => by omega)⟩
  | 33, i => ⟨fun h => Or.inl h, fun h => h.elim id (fun h => by omega)⟩
  | 34, i => ⟨fun h => Or.inl h, fun h => h.elim id (fun h => by omega)⟩
  | 35, i => ⟨fun h => Or.inl h, fun h => h.elim id (fun h => by omega)⟩
  | 36, i => ⟨fun h => Or.inl h, fun h => h.elim id (fun h => by omega)⟩
  | 37, i => ⟨fun h => Or.inl h, fun h => h.elim id (fun h => by omega)⟩
  | 38, i => ⟨fun h => Or.inl h, fun h => h.elim id (fun h => by omega)⟩
  | 39, i => ⟨fun h => absurd h (Nat.not_lt_zero i), fun h => h.elim (fun h => absurd h (Nat.not_lt_zero i)) (fun h => by omega)⟩
  | 40, i => ⟨fun h => Or.inl h, fun h => h.elim id (fun h => by omega)⟩
  | 41, i => ⟨fun h => Or.inl h, fun h => h.elim id (fun h => by omega)⟩
  | 42, i => ⟨fun h => Or.inl h, fun h => h.elim id (fun h => by omega)⟩
  | 43, i => ⟨fun h => Or.inl h, fun h => h.elim id (fun h => by omega)⟩
  | 44, i => ⟨fun h => Or.inl h, fun h => h.elim id (fun h => by omega)⟩
  | 45, i => ⟨fun h => Or.inl h, fun h => h.elim id (fun h => by omega)⟩
  | 46, i => ⟨fun h => Or.inl h, fun h => h.elim id (fun h => by omega)⟩
  | 47, i => ⟨fun h => absurd h (Nat.not_lt_zero i), fun h => h.elim (fun h => absurd h (Nat.not_lt_zero i)) (fun h => by omega)⟩
  | 48, i => ⟨fun h => Or.inl h, fun h => h.elim id (fun h => by omega)⟩
  | 49, i => ⟨fun h => Or.inl h, fun h => h.elim id (fun h => by omega)⟩
  | 50, i => ⟨fun h => Or.inl h, fun h => h.elim id (fun h => by omega)⟩
  | 51, i => ⟨fun h => Or.inl h, fun h => h.elim id (fun h => by omega)⟩
  | 52, i => ⟨fun h => Or.inl h, fun h => h.elim id (fun h => by omega)⟩
  | 53, i => ⟨fun h => absurd h (Nat.not_lt_zero i), fun h => h.elim (fun h => absurd h (Nat.not_lt_zero i)) (fun h => by omega)⟩
  | 54, i => ⟨fun h => Or.inl h, fun h => h.elim id (fun h => by omega)⟩
  | 55, i => ⟨fun h => absurd h (Nat.not_lt_zero i), fun h => h.elim (fun h => absurd h (Nat.not_lt_zero i)) (fun h => by omega)⟩
  | 56, i => ⟨fun h => Or.inl h, fun h => h.elim id (fun h => by omega)⟩
  | 57, i => ⟨fun h => Or.inl h, fun h => h.elim id (fun h => by omega)⟩
  | 58, i => ⟨fun h => Or.inl h, fun h => h.elim id (fun h => by omega)⟩
  | 59, i => ⟨fun h => absurd h (Nat.not_lt_zero i), fun h => h.elim (fun h => absurd h (Nat.not_lt_zero i)) (fun h => by omega)⟩
  | 60, i => ⟨fun h => Or.inl h, fun h => h.elim id (fun h => by omega)⟩
  | 61, i => ⟨fun h => Or.inl h, fun h => h.elim id (fun h => by omega)⟩
  | m + 62, i => ⟨fun h => absurd h (Nat.not_lt_zero i), fun h => h.elim (fun h => absurd h (Nat.not_lt_zero i)) (fun h => by omega)⟩
theorem lc_r {E E' : ev} (he : E'.2.1 = (E.2.1.1, E.2.1.2.1, E.2.1.2.2 + 1)) : ∀ (k i : Nat), i < lc E' k ↔ (i < lc E k ∨ (i = E.2.1.2.2 ∧ 20 ≤ k ∧ k ≤ 20))
  | 0, i => ⟨fun h => Or.inl h, fun h => h.elim id (fun h => by omega)⟩
  | 1, i => ⟨fun h => Or.inl h, fun h => h.elim id (fun h => by omega)⟩
  | 2, i => ⟨fun h => Or.inl h, fun h => h.elim id (fun h => by omega)⟩
  | 3, i => ⟨fun h => Or.inl h, fun h => h.elim id (fun h => by omega)⟩
  | 4, i => ⟨fun h => Or.inl h, fun h => h.elim id (fun h => by omega)⟩
  | 5, i => ⟨fun h => Or.inl h, fun h => h.elim id (fun h => by omega)⟩
  | 6, i => ⟨fun h => Or.inl h, fun h => h.elim id (fun h => by omega)⟩
  | 7, i => ⟨fun h => Or.inl h, fun h => h.elim id (fun h => by omega)⟩
  | 8, i => ⟨fun h => Or.inl h, fun h => h.elim id (fun h => by omega)⟩
  | 9, i => ⟨fun h => Or.inl h, fun h => h.elim id (fun h => by omega)⟩
  | 10, i => ⟨fun h => Or.inl h, fun h => h.elim id (fun h => by omega)⟩
  | 11, i => ⟨fun h => Or.inl h, fun h => h.elim id (fun h => by omega)⟩
  | 12, i => by
    show i < E'.2.1.1 ↔ (i < E.2.1.1 ∨ _)
    rw [he]
    show i < E.2.1.1 ↔ _
    omega
  | 13, i => by
    show i < E'.2.1.1 ↔ (i < E.2.1.1 ∨ _)
    rw [he]
    show i < E.2.1.1 ↔ _
    omega
  | 14, i => by
    show i < E'.2.1.1 ↔ (i < E.2.1.1 ∨ _)
    rw [he]
    show i < E.2.1.1 ↔ _
    omega
  | 15, i => by
    show i < E'.2.1.1 ↔ (i < E.2.1.1 ∨ _)
    rw [he]
    show i < E.2.1.1 ↔ _
    omega
  | 16, i => by
    show i < E'.2.1.1 ↔ (i < E.2.1.1 ∨ _)
    rw [he]
    show i < E.2.1.1 ↔ _
    omega
  | 17, i => by
    show i < E'.2.1.2.1 ↔ (i < E.2.1.2.1 ∨ _)
    rw [he]
    show i < E.2.1.2.1 ↔ _
    omega
  | 18, i => by
    show i < E'.2.1.2.1 ↔ (i < E.2.1.2.1 ∨ _)
    rw [he]
    show i < E.2.1.2.1 ↔ _
    omega
  | 19, i => by
    show i < E'.2.1.2.1 ↔ (i < E.2.1.2.1 ∨ _)
    rw [he]
    show i < E.2.1.2.1 ↔ _
    omega
  | 20, i => by
    show i < E'.2.1.2.2 ↔ (i < E.2.1.2.2 ∨ _)
    rw [he]
    show i < E.2.1.2.2 + 1 ↔ _
    omega
  | 21, i => ⟨fun h => absurd h (Nat.not_lt_zero i), fun h => h.elim (fun h => absurd h (Nat.not_lt_zero i)) (fun h => by omega)⟩
  | 22, i => ⟨fun h => absurd h (Nat.not_lt_zero i), fun h => h.elim (fun h => absurd h (Nat.not_lt_zero i)) (fun h => by omega)⟩
  | 23, i => ⟨fun h => absurd h (Nat.not_lt_zero i), fun h => h.elim (fun h => absurd h (Nat.not_lt_zero i)) (fun h => by omega)⟩
  | 24, i => ⟨fun h => absurd h (Nat.not_lt_zero i), fun h => h.elim (fun h => absurd h (Nat.not_lt_zero i)) (fun h => by omega)⟩
  | 25, i => ⟨fun h => absurd h (Nat.not_lt_zero i), fun h => h.elim (fun h => absurd h (Nat.not_lt_zero i)) (fun h => by omega)⟩
  | 26, i => ⟨fun h => absurd h (Nat.not_lt_zero i), fun h => h.elim (fun h => absurd h (Nat.not_lt_zero i)) (fun h => by omega)⟩
  | 27, i => ⟨fun h => absurd h (Nat.not_lt_zero i), fun h => h.elim (fun h => absurd h (Nat.not_lt_zero i)) (fun h => by omega)⟩
  | 28, i => ⟨fun h => absurd h (Nat.not_lt_zero i), fun h => h.elim (fun h => absurd h (Nat.not_lt_zero i)) (fun h => by omega)⟩
  | 29, i => ⟨fun h => absurd h (Nat.not_lt_zero i), fun h => h.elim (fun h => absurd h (Nat.not_lt_zero i)) (fun h => by omega)⟩
  | 30, i => ⟨fun h => Or.inl h, fun h => h.elim id (fun h => by omega)⟩
  | 31, i => ⟨fun h => absurd h (Nat.not_lt_zero i), fun h => h.elim (fun h => absurd h (Nat.not_lt_zero i)) (fun h => by omega)⟩
  | 32, i => ⟨fun h => Or.inl h, fun h => h.elim id (fun h => by omega)⟩
  | 33, i => ⟨fun h => Or.inl h, fun h => h.elim id (fun h => by omega)⟩
  | 34, i => ⟨fun h => Or.inl h, fun h => h.elim id (fun h => by omega)⟩
  | 35, i => ⟨fun h => Or.inl h, fun h => h.elim id (fun h => by omega)⟩
  | 36, i => ⟨fun h => Or.inl h, fun h => h.elim id (fun h => by omega)⟩
  | 37, i => ⟨fun h => Or.inl h, fun h => h.elim id (fun h => by omega)⟩
  | 38, i => ⟨fun h => Or.inl h, fun h => h.elim id (fun h => by omega)⟩
  | 39, i => ⟨fun h => absurd h (Nat.not_lt_zero i), fun h => h.elim (fun h => absurd h (Nat.not_lt_zero i)) (fun h => by omega)⟩
  | 40, i => ⟨fun h => Or.inl h, fun h => h.elim id (fun h => by omega)⟩
  | 41, i => ⟨fun h => Or.inl h, fun h => h.elim id (fun h => by omega)⟩
  | 42, i => ⟨fun h => Or.inl h, fun h => h.elim id (fun h => by omega)⟩
  | 43, i => ⟨fun h => Or.inl h, fun h => h.elim id (fun h => by omega)⟩
  | 44, i => ⟨fun h => Or.inl h, fun h => h.elim id (fun h => by omega)⟩
  | 45, i => ⟨fun h => Or.inl h, fun h => h.elim id (fun h => by omega)⟩
  | 46, i => ⟨fun h => Or.inl h, fun h => h.elim id (fun h => by omega)⟩
  | 47, i => ⟨fun h => absurd h (Nat.not_lt_zero i), fun h => h.elim (fun h => absurd h (Nat.not_lt_zero i)) (fun h => by omega)⟩
  | 48, i => ⟨fun h => Or.inl h, fun h => h.elim id (fun h => by omega)⟩
  | 49, i => ⟨fun h => Or.inl h, fun h => h.elim id (fun h => by omega)⟩
  | 50, i => ⟨fun h => Or.inl h, fun h => h.elim id (fun h => by omega)⟩
  | 51, i => ⟨fun h => Or.inl h, fun h => h.elim id (fun h => by omega)⟩
  | 52, i => ⟨fun h => Or.inl h, fun h => h.elim id (fun h => by omega)⟩
  | 53, i => ⟨fun h => absurd h (Nat.not_lt_zero i), fun h => h.elim (fun h => absurd h (Nat.not_lt_zero i)) (fun h => by omega)⟩
  | 54, i => ⟨fun h => Or.inl h, fun h => h.elim id (fun h => by omega)⟩
  | 55, i => ⟨fun h => absurd h (Nat.not_lt_zero i), fun h => h.elim (fun h => absurd h (Nat.not_lt_zero i)) (fun h => by omega)⟩
  | 56, i => ⟨fun h => Or.inl h, fun h => h.elim id (fun h => by omega)⟩
  | 57, i => ⟨fun h => Or.inl h, fun h => h.elim id (fun h => by omega)⟩
  | 58, i => ⟨fun h => Or.inl h, fun h => h.elim id (fun h => by omega)⟩
  | 59, i => ⟨fun h => absurd h (Nat.not_lt_zero i), fun h => h.elim (fun h => absurd h (Nat.not_lt_zero i)) (fun h => by omega)⟩
  | 60, i => ⟨fun h => Or.inl h, fun h => h.elim id (fun h => by omega)⟩
  | 61, i => ⟨fun h => Or.inl h, fun h => h.elim id (fun h => by omega)⟩
  | m + 62, i => ⟨fun h => absurd h (Nat.not_lt_zero i), fun h => h.elim (fun h => absurd h (Nat.not_lt_zero i)) (fun h => by omega)⟩
