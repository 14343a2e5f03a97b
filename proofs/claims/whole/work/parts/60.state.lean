/-! THE STATE: s kind index place, and where it lies: E = (addresses by kind and index, (packs, titles, rules), what else is in memory) -/
abbrev st : Type := Nat → Nat → Nat → Int32
abbrev ev : Type := (Nat → Nat → Nat) × (Nat × Nat × Nat) × mm
def s3 (s : st) (k i j : Nat) (v : Int32) : st := fun a b c => if a = k ∧ b = i ∧ c = j then v else s a b c
def lc (E : ev) (k : Nat) : Nat := match k with
  | 0 => 1
  | 1 => 1
  | 2 => 1
  | 3 => 1
  | 4 => 1
  | 5 => 1
  | 6 => 1
  | 7 => 1
  | 8 => 1
  | 9 => 1
  | 10 => 1
  | 11 => 1
  | 12 => E.2.1.1
  | 13 => E.2.1.1
  | 14 => E.2.1.1
  | 15 => E.2.1.1
  | 16 => E.2.1.1
  | 17 => E.2.1.2.1
  | 18 => E.2.1.2.1
  | 19 => E.2.1.2.1
  | 20 => E.2.1.2.2
  | 30 => 1
  | 32 => 1
  | 33 => 1
  | 34 => 1
  | 35 => 1
  | 36 => 1
  | 37 => 1
  | 38 => 1
  | 40 => 1
  | 41 => 1
  | 42 => 1
  | 43 => 1
  | 44 => 1
  | 45 => 1
  | 46 => 1
  | 48 => 1
  | 49 => 1
  | 50 => 1
  | 51 => 1
  | 52 => 1
  | 54 => 1
  | 56 => 1
  | 57 => 1
  | 58 => 1
  | 60 => 1
  | 61 => 1
  | _ => 0
def ctr (E : ev) (row : Nat → Int32) (k i : Nat) : va_E := match k with
  | 0 => .inr (0, [.ref (E.1 1 i), .int (row 1), .ref (E.1 2 i), .int (row 3), .ref (E.1 3 i), .int (row 5), .ref (E.1 4 i), .ref (E.1 5 i), .ref (E.1 9 i), .int (row 9)])
  | 1 => .inl (2, 20, .inr (.inr (.inr (.inr (fun j => if j < E.2.1.1 then some (E.1 12 j) else none)))))
  | 2 => .inl (3, 200, .inr (.inr (.inr (.inr (fun j => if j < E.2.1.2.1 then some (E.1 17 j) else none)))))
  | 3 => .inl (4, 100, .inr (.inr (.inr (.inr (fun j => if j < E.2.1.2.2 then some (E.1 20 j) else none)))))
  | 4 => .inl (0, 100, .inl row)
  | 5 => .inr (7, [.ref (E.1 6 i), .ref (E.1 7 i), .ref (E.1 8 i), .int (row 3)])
  | 6 => .inl (0, 512, .inl row)
  | 7 => .inl (0, 512, .inl row)
  | 8 => .inl (0, 512, .inl row)
  | 9 => .inr (3, [.ref (E.1 10 i), .ref (E.1 11 i), .int (row 2)])
  | 10 => .inl (0, 100, .inl row)
  | 11 => .inl (0, 100, .inl row)
  | 12 => .inr (4, [.int (row 0), .int (row 1), .ref (E.1 13 i), .ref (E.1 14 i), .int (row 4), .int (row 5)])
  | 13 => .inr (2, [.ref (E.1 15 i), .int (row 1)])
  | 14 => .inr (2, [.ref (E.1 16 i), .int (row 1)])
  | 15 => .inl (0, 100, .inl row)
  | 16 => .inl (0, 100, .inl row)
  | 17 => .inr (6, [.ref (E.1 12 (row 0).toNatClampNeg), .int (row 1), .int (row 2), .int (row 3), .ref (E.1 18 i), .ref (E.1 19 i), .int (row 6)])
  | 18 => .inl (0, 10, .inl row)
  | 19 => .inl (0, 10, .inl row)
  | 20 => .inr (5, [.int (row 0), .int (row 1), .int (row 2), .int (row 3), .int (row 4)])
  | 30 => .inr (1, [.int (row 0), .int (row 1), .ref (E.1 32 i), .ref (E.1 33 i), .ref (E.1 34 i), .ref (E.1 35 i), .ref (E.1 36 i), .ref (E.1 37 i), .ref (E.1 38 i), .int (row 9), .ref (E.1 40 i), .ref (E.1 41 i), .ref (E.1 42 i), .ref (E.1 43 i), .ref (E.1 44 i), .ref (E.1 45 i), .ref (E.1 46 i), .int (row 17), .ref (E.1 48 i), .ref (E.1 49 i), .ref (E.1 50 i), .ref (E.1 51 i), .ref (E.1 52 i), .int (row 23), .ref (E.1 54 i), .int (row 25), .ref (E.1 56 i), .ref (E.1 57 i), .ref (E.1 58 i), .int (row 29), .ref (E.1 60 i), .ref (E.1 61 i)])
  | 32 => .inl (1, 20, .inl row)
  | 33 => .inl (0, 20, .inl row)
  | 34 => .inl (0, 20, .inl row)
  | 35 => .inl (0, 20, .inl row)
  | 36 => .inl (0, 2000, .inl row)
  | 37 => .inl (0, 20, .inl row)
  | 38 => .inl (0, 2000, .inl row)
  | 40 => .inl (0, 200, .inl row)
  | 41 => .inl (0, 200, .inl row)
  | 42 => .inl (1, 200, .inl row)
  | 43 => .inl (0, 200, .inl row)
  | 44 => .inl (0, 200, .inl row)
  | 45 => .inl (0, 2000, .inl row)
  | 46 => .inl (0, 2000, .inl row)
  | 48 => .inl (0, 100, .inl row)
  | 49 => .inl (0, 100, .inl row)
  | 50 => .inl (0, 100, .inl row)
  | 51 => .inl (0, 100, .inl row)
  | 52 => .inl (1, 100, .inl row)
  | 54 => .inl (0, 100, .inl row)
  | 56 => .inl (0, 4096, .inl row)
  | 57 => .inl (0, 4096, .inl row)
  | 58 => .inl (0, 4096, .inl row)
  | 60 => .inl (0, 100, .inl row)
  | 61 => .inl (0, 100, .inl row)
  | _ => .inr (99, [])
def okE (E : ev) : Prop := (∀ k i k' i', i < lc E k → i' < lc E k' → E.1 k i = E.1 k' i' → k = k' ∧ i = i') ∧ ∀ k i, i < lc E k → E.1 k i < E.2.2.1
noncomputable def mu (E : ev) (s : st) : mm := (E.2.2.1, fun a => @dite (Option va_E) (∃ q : Nat × Nat, q.2 < lc E q.1 ∧ E.1 q.1 q.2 = a) (Classical.propDecidable _) (fun h => some (ctr E (s (Classical.choose h).1 (Classical.choose h).2) (Classical.choose h).1 (Classical.choose h).2)) (fun _ => E.2.2.2 a))
theorem mu_at {E : ev} {s : st} {k i : Nat} (hE : okE E) (hi : i < lc E k) : (mu E s).2 (E.1 k i) = some (ctr E (s k i) k i) := by
  have h : ∃ q : Nat × Nat, q.2 < lc E q.1 ∧ E.1 q.1 q.2 = E.1 k i := ⟨(k, i), hi, rfl⟩
  unfold mu
  dsimp only
  rw [dif_pos h]
  have hs := Classical.choose_spec h
  obtain ⟨h1, h2⟩ := hE.1 _ _ _ _ hs.1 hi hs.2
  rw [h1, h2]
theorem mu_ne {E : ev} {s : st} {a : Nat} (h : ¬ ∃ q : Nat × Nat, q.2 < lc E q.1 ∧ E.1 q.1 q.2 = a) : (mu E s).2 a = E.2.2.2 a := by
  unfold mu
  dsimp only
  rw [dif_neg h]
theorem mu_up {E : ev} {s s' : st} {k i : Nat} {e : va_E} (hE : okE E) (hi : i < lc E k) (hs : ∀ k' i', ¬ (k' = k ∧ i' = i) → s' k' i' = s k' i') (he : ctr E (s' k i) k i = e) : mm_up (mu E s) (E.1 k i) e = mu E s' := by
  refine Prod.ext rfl (funext fun a => ?_)
  show va_up (mu E s).2 (E.1 k i) (some e) a = (mu E s').2 a
  unfold va_up
  by_cases ha : a = E.1 k i
  · subst ha
    rw [if_pos rfl, mu_at hE hi, he]
  · rw [if_neg ha]
    by_cases hl : ∃ q : Nat × Nat, q.2 < lc E q.1 ∧ E.1 q.1 q.2 = a
    · obtain ⟨⟨k', i'⟩, h1, rfl⟩ := hl
      rw [mu_at hE h1, mu_at hE h1, hs k' i' (fun h => ha (by rw [h.1, h.2]))]
    · rw [mu_ne hl, mu_ne hl]
theorem s3_ne {s : st} {k i j : Nat} {v : Int32} {a b : Nat} (h : ¬ (a = k ∧ b = i)) : s3 s k i j v a b = s a b := by
  funext c
  unfold s3
  rw [if_neg (fun q => h ⟨q.1, q.2.1⟩)]
theorem s3_at {s : st} {k i j : Nat} {v : Int32} : s3 s k i j v k i = upd (s k i) j v := by
  funext c
  simp [s3, upd]
theorem s3_r {s : st} {k i j : Nat} {v : Int32} {a b c : Nat} : s3 s k i j v a b c = if a = k ∧ b = i ∧ c = j then v else s a b c := rfl
theorem mu_s3 {E : ev} {s : st} {k i j : Nat} {v : Int32} {e : va_E} (hE : okE E) (hi : i < lc E k) (he : ctr E (upd (s k i) j v) k i = e) : mm_up (mu E s) (E.1 k i) e = mu E (s3 s k i j v) := mu_up hE hi (fun _ _ h => s3_ne h) (by rw [s3_at]; exact he)
theorem ix_nI {j n : Nat} (h : j < n) (hn : n < 2 ^ 31) : (0 : Int32) ≤ nI j ∧ (nI j).toNatClampNeg < n := ⟨nI_pos' (by omega), by rw [nI_clamp (by omega)]; exact h⟩
theorem rO_0 {E : ev} {s : st} {i : Nat} (hE : okE E) (hi : i < lc E 0) : kO 0 (mu E s) (E.1 0 i) = some () := by unfold kO; rw [mu_at hE hi]; rfl
theorem rR_0_0 {E : ev} {s : st} {i : Nat} (hE : okE E) (hi : i < lc E 0) : gR 0 0 (mu E s) (E.1 0 i) = some (E.1 1 i) := by unfold gR; rw [mu_at hE hi]; rfl
theorem rI_0_1 {E : ev} {s : st} {i : Nat} (hE : okE E) (hi : i < lc E 0) : gI 0 1 (mu E s) (E.1 0 i) = some (s 0 i 1) := by unfold gI; rw [mu_at hE hi]; rfl
theorem rP_0_1 {E : ev} {s : st} {i : Nat} (hE : okE E) (hi : i < lc E 0) (v : Int32) : pF 0 1 (.int v) (mu E s) (E.1 0 i) = some (mu E (s3 s 0 i 1 v)) := by unfold pF; rw [mu_at hE hi]; exact congrArg some (mu_s3 hE hi rfl)
theorem rR_0_2 {E : ev} {s : st} {i : Nat} (hE : okE E) (hi : i < lc E 0) : gR 0 2 (mu E s) (E.1 0 i) = some (E.1 2 i) := by unfold gR; rw [mu_at hE hi]; rfl
theorem rI_0_3 {E : ev} {s : st} {i : Nat} (hE : okE E) (hi : i < lc E 0) : gI 0 3 (mu E s) (E.1 0 i) = some (s 0 i 3) := by unfold gI; rw [mu_at hE hi]; rfl
theorem rP_0_3 {E : ev} {s : st} {i : Nat} (hE : okE E) (hi : i < lc E 0) (v : Int32) : pF 0 3 (.int v) (mu E s) (E.1 0 i) = some (mu E (s3 s 0 i 3 v)) := by unfold pF; rw [mu_at hE hi]; exact congrArg some (mu_s3 hE hi rfl)
theorem rR_0_4 {E : ev} {s : st} {i : Nat} (hE : okE E) (hi : i < lc E 0) : gR 0 4 (mu E s) (E.1 0 i) = some (E.1 3 i) := by unfold gR; rw [mu_at hE hi]; rfl
theorem rI_0_5 {E : ev} {s : st} {i : Nat} (hE : okE E) (hi : i < lc E 0) : gI 0 5 (mu E s) (E.1 0 i) = some (s 0 i 5) := by unfold gI; rw [mu_at hE hi]; rfl
theorem rP_0_5 {E : ev} {s : st} {i : Nat} (hE : okE E) (hi : i < lc E 0) (v : Int32) : pF 0 5 (.int v) (mu E s) (E.1 0 i) = some (mu E (s3 s 0 i 5 v)) := by unfold pF; rw [mu_at hE hi]; exact congrArg some (mu_s3 hE hi rfl)
theorem rR_0_6 {E : ev} {s : st} {i : Nat} (hE : okE E) (hi : i < lc E 0) : gR 0 6 (mu E s) (E.1 0 i) = some (E.1 4 i) := by unfold gR; rw [mu_at hE hi]; rfl
theorem rR_0_7 {E : ev} {s : st} {i : Nat} (hE : okE E) (hi : i < lc E 0) : gR 0 7 (mu E s) (E.1 0 i) = some (E.1 5 i) := by unfold gR; rw [mu_at hE hi]; rfl
theorem rR_0_8 {E : ev} {s : st} {i : Nat} (hE : okE E) (hi : i < lc E 0) : gR 0 8 (mu E s) (E.1 0 i) = some (E.1 9 i) := by unfold gR; rw [mu_at hE hi]; rfl
theorem rI_0_9 {E : ev} {s : st} {i : Nat} (hE : okE E) (hi : i < lc E 0) : gI 0 9 (mu E s) (E.1 0 i) = some (s 0 i 9) := by unfold gI; rw [mu_at hE hi]; rfl
theorem rP_0_9 {E : ev} {s : st} {i : Nat} (hE : okE E) (hi : i < lc E 0) (v : Int32) : pF 0 9 (.int v) (mu E s) (E.1 0 i) = some (mu E (s3 s 0 i 9 v)) := by unfold pF; rw [mu_at hE hi]; exact congrArg some (mu_s3 hE hi rfl)
theorem rQ_1 {E : ev} {s : st} {i : Nat} (hE : okE E) (hi : i < lc E 1) {j : Nat} (hj : j < E.2.1.1) (hn : j < 20) : aR 2 (mu E s) (E.1 1 i) (nI j) = some (E.1 12 j) := by unfold aR; rw [mu_at hE hi]; show (if _ then _ else _) = _; rw [if_pos ⟨rfl, ix_nI hn (by decide)⟩, nI_clamp (by omega)]; exact if_pos hj
theorem rQ_2 {E : ev} {s : st} {i : Nat} (hE : okE E) (hi : i < lc E 2) {j : Nat} (hj : j < E.2.1.2.1) (hn : j < 200) : aR 3 (mu E s) (E.1 2 i) (nI j) = some (E.1 17 j) := by unfold aR; rw [mu_at hE hi]; show (if _ then _ else _) = _; rw [if_pos ⟨rfl, ix_nI hn (by decide)⟩, nI_clamp (by omega)]; exact if_pos hj
theorem rQ_3 {E : ev} {s : st} {i : Nat} (hE : okE E) (hi : i < lc E 3) {j : Nat} (hj : j < E.2.1.2.2) (hn : j < 100) : aR 4 (mu E s) (E.1 3 i) (nI j) = some (E.1 20 j) := by unfold aR; rw [mu_at hE hi]; show (if _ then _ else _) = _; rw [if_pos ⟨rfl, ix_nI hn (by decide)⟩, nI_clamp (by omega)]; exact if_pos hj
theorem rA_4 {E : ev} {s : st} {i : Nat} (hE : okE E) (hi : i < lc E 4) {j : Nat} (hj : j < 100) : aI (mu E s) (E.1 4 i) (nI j) = some (s 4 i j) := by unfold aI; rw [mu_at hE hi]; show (if _ then _ else _) = _; rw [if_pos ⟨rfl, ix_nI hj (by decide)⟩, nI_clamp (by omega)]
theorem rS_4 {E : ev} {s : st} {i : Nat} (hE : okE E) (hi : i < lc E 4) {j : Nat} (hj : j < 100) (v : Int32) : sI v (mu E s) (E.1 4 i) (nI j) = some (mu E (s3 s 4 i j v)) := by unfold sI; rw [mu_at hE hi]; show (if _ then _ else _) = _; rw [if_pos ⟨rfl, ix_nI hj (by decide)⟩, nI_clamp (by omega)]; exact congrArg some (mu_s3 hE hi rfl)
theorem rO_5 {E : ev} {s : st} {i : Nat} (hE : okE E) (hi : i < lc E 5) : kO 7 (mu E s) (E.1 5 i) = some () := by unfold kO; rw [mu_at hE hi]; rfl
theorem rR_5_0 {E : ev} {s : st} {i : Nat} (hE : okE E) (hi : i < lc E 5) : gR 7 0 (mu E s) (E.1 5 i) = some (E.1 6 i) := by unfold gR; rw [mu_at hE hi]; rfl
theorem rR_5_1 {E : ev} {s : st} {i : Nat} (hE : okE E) (hi : i < lc E 5) : gR 7 1 (mu E s) (E.1 5 i) = some (E.1 7 i) := by unfold gR; rw [mu_at hE hi]; rfl
theorem rR_5_2 {E : ev} {s : st} {i : Nat} (hE : okE E) (hi : i < lc E 5) : gR 7 2 (mu E s) (E.1 5 i) = some (E.1 8 i) := by unfold gR; rw [mu_at hE hi]; rfl
theorem rI_5_3 {E : ev} {s : st} {i : Nat} (hE : okE E) (hi : i < lc E 5) : gI 7 3 (mu E s) (E.1 5 i) = some (s 5 i 3) := by unfold gI; rw [mu_at hE hi]; rfl
theorem rP_5_3 {E : ev} {s : st} {i : Nat} (hE : okE E) (hi : i < lc E 5) (v : Int32) : pF 7 3 (.int v) (mu E s) (E.1 5 i) = some (mu E (s3 s 5 i 3 v)) := by unfold pF; rw [mu_at hE hi]; exact congrArg some (mu_s3 hE hi rfl)
theorem rA_6 {E : ev} {s : st} {i : Nat} (hE : okE E) (hi : i < lc E 6) {j : Nat} (hj : j < 512) : aI (mu E s) (E.1 6 i) (nI j) = some (s 6 i j) := by unfold aI; rw [mu_at hE hi]; show (if _ then _ else _) = _; rw [if_pos ⟨rfl, ix_nI hj (by decide)⟩, nI_clamp (by omega)]
theorem rS_6 {E : ev} {s : st} {i : Nat} (hE : okE E) (hi : i < lc E 6) {j : Nat} (hj : j < 512) (v : Int32) : sI v (mu E s) (E.1 6 i) (nI j) = some (mu E (s3 s 6 i j v)) := by unfold sI; rw [mu_at hE hi]; show (if _ then _ else _) = _; rw [if_pos ⟨rfl, ix_nI hj (by decide)⟩, nI_clamp (by omega)]; exact congrArg some (mu_s3 hE hi rfl)
theorem rA_7 {E : ev} {s : st} {i : Nat} (hE : okE E) (hi : i < lc E 7) {j : Nat} (hj : j < 512) : aI (mu E s) (E.1 7 i) (nI j) = some (s 7 i j) := by unfold aI; rw [mu_at hE hi]; show (if _ then _ else _) = _; rw [if_pos ⟨rfl, ix_nI hj (by decide)⟩, nI_clamp (by omega)]
theorem rS_7 {E : ev} {s : st} {i : Nat} (hE : okE E) (hi : i < lc E 7) {j : Nat} (hj : j < 512) (v : Int32) : sI v (mu E s) (E.1 7 i) (nI j) = some (mu E (s3 s 7 i j v)) := by unfold sI; rw [mu_at hE hi]; show (if _ then _ else _) = _; rw [if_pos ⟨rfl, ix_nI hj (by decide)⟩, nI_clamp (by omega)]; exact congrArg some (mu_s3 hE hi rfl)
theorem rA_8 {E : ev} {s : st} {i : Nat} (hE : okE E) (hi : i < lc E 8) {j : Nat} (hj : j < 512) : aI (mu E s) (E.1 8 i) (nI j) = some (s 8 i j) := by unfold aI; rw [mu_at hE hi]; show (if _ then _ else _) = _; rw [if_pos ⟨rfl, ix_nI hj (by decide)⟩, nI_clamp (by omega)]
theorem rS_8 {E : ev} {s : st} {i : Nat} (hE : okE E) (hi : i < lc E 8) {j : Nat} (hj : j < 512) (v : Int32) : sI v (mu E s) (E.1 8 i) (nI j) = some (mu E (s3 s 8 i j v)) := by unfold sI; rw [mu_at hE hi]; show (if _ then _ else _) = _; rw [if_pos ⟨rfl, ix_nI hj (by decide)⟩, nI_clamp (by omega)]; exact congrArg some (mu_s3 hE hi rfl)
theorem rO_9 {E : ev} {s : st} {i : Nat} (hE : okE E) (hi : i < lc E 9) : kO 3 (mu E s) (E.1 9 i) = some () := by unfold kO; rw [mu_at hE hi]; rfl
theorem rR_9_0 {E : ev} {s : st} {i : Nat} (hE : okE E) (hi : i < lc E 9) : gR 3 0 (mu E s) (E.1 9 i) = some (E.1 10 i) := by unfold gR; rw [mu_at hE hi]; rfl
theorem rR_9_1 {E : ev} {s : st} {i : Nat} (hE : okE E) (hi : i < lc E 9) : gR 3 1 (mu E s) (E.1 9 i) = some (E.1 11 i) := by unfold gR; rw [mu_at hE hi]; rfl
theorem rI_9_2 {E : ev} {s : st} {i : Nat} (hE : okE E) (hi : i < lc E 9) : gI 3 2 (mu E s) (E.1 9 i) = some (s 9 i 2) := by unfold gI; rw [mu_at hE hi]; rfl
theorem rP_9_2 {E : ev} {s : st} {i : Nat} (hE : okE E) (hi : i < lc E 9) (v : Int32) : pF 3 2 (.int v) (mu E s) (E.1 9 i) = some (mu E (s3 s 9 i 2 v)) := by unfold pF; rw [mu_at hE hi]; exact congrArg some (mu_s3 hE hi rfl)
theorem rA_10 {E : ev} {s : st} {i : Nat} (hE : okE E) (hi : i < lc E 10) {j : Nat} (hj : j < 100) : aI (mu E s) (E.1 10 i) (nI j) = some (s 10 i j) := by unfold aI; rw [mu_at hE hi]; show (if _ then _ else _) = _; rw [if_pos ⟨rfl, ix_nI hj (by decide)⟩, nI_clamp (by omega)]
theorem rS_10 {E : ev} {s : st} {i : Nat} (hE : okE E) (hi : i < lc E 10) {j : Nat} (hj : j < 100) (v : Int32) : sI v (mu E s) (E.1 10 i) (nI j) = some (mu E (s3 s 10 i j v)) := by unfold sI; rw [mu_at hE hi]; show (if _ then _ else _) = _; rw [if_pos ⟨rfl, ix_nI hj (by decide)⟩, nI_clamp (by omega)]; exact congrArg some (mu_s3 hE hi rfl)
theorem rA_11 {E : ev} {s : st} {i : Nat} (hE : okE E) (hi : i < lc E 11) {j : Nat} (hj : j < 100) : aI (mu E s) (E.1 11 i) (nI j) = some (s 11 i j) := by unfold aI; rw [mu_at hE hi]; show (if _ then _ else _) = _; rw [if_pos ⟨rfl, ix_nI hj (by decide)⟩, nI_clamp (by omega)]
theorem rS_11 {E : ev} {s : st} {i : Nat} (hE : okE E) (hi : i < lc E 11) {j : Nat} (hj : j < 100) (v : Int32) : sI v (mu E s) (E.1 11 i) (nI j) = some (mu E (s3 s 11 i j v)) := by unfold sI; rw [mu_at hE hi]; show (if _ then _ else _) = _; rw [if_pos ⟨rfl, ix_nI hj (by decide)⟩, nI_clamp (by omega)]; exact congrArg some (mu_s3 hE hi rfl)
theorem rO_12 {E : ev} {s : st} {i : Nat} (hE : okE E) (hi : i < lc E 12) : kO 4 (mu E s) (E.1 12 i) = some () := by unfold kO; rw [mu_at hE hi]; rfl
theorem rI_12_0 {E : ev} {s : st} {i : Nat} (hE : okE E) (hi : i < lc E 12) : gI 4 0 (mu E s) (E.1 12 i) = some (s 12 i 0) := by unfold gI; rw [mu_at hE hi]; rfl
theorem rP_12_0 {E : ev} {s : st} {i : Nat} (hE : okE E) (hi : i < lc E 12) (v : Int32) : pF 4 0 (.int v) (mu E s) (E.1 12 i) = some (mu E (s3 s 12 i 0 v)) := by unfold pF; rw [mu_at hE hi]; exact congrArg some (mu_s3 hE hi rfl)
theorem rI_12_1 {E : ev} {s : st} {i : Nat} (hE : okE E) (hi : i < lc E 12) : gI 4 1 (mu E s) (E.1 12 i) = some (s 12 i 1) := by unfold gI; rw [mu_at hE hi]; rfl
theorem rP_12_1 {E : ev} {s : st} {i : Nat} (hE : okE E) (hi : i < lc E 12) (v : Int32) : pF 4 1 (.int v) (mu E s) (E.1 12 i) = some (mu E (s3 s 12 i 1 v)) := by unfold pF; rw [mu_at hE hi]; exact congrArg some (mu_s3 hE hi rfl)
theorem rR_12_2 {E : ev} {s : st} {i : Nat} (hE : okE E) (hi : i < lc E 12) : gR 4 2 (mu E s) (E.1 12 i) = some (E.1 13 i) := by unfold gR; rw [mu_at hE hi]; rfl
theorem rR_12_3 {E : ev} {s : st} {i : Nat} (hE : okE E) (hi : i < lc E 12) : gR 4 3 (mu E s) (E.1 12 i) = some (E.1 14 i) := by unfold gR; rw [mu_at hE hi]; rfl
theorem rI_12_4 {E : ev} {s : st} {i : Nat} (hE : okE E) (hi : i < lc E 12) : gI 4 4 (mu E s) (E.1 12 i) = some (s 12 i 4) := by unfold gI; rw [mu_at hE hi]; rfl
theorem rP_12_4 {E : ev} {s : st} {i : Nat} (hE : okE E) (hi : i < lc E 12) (v : Int32) : pF 4 4 (.int v) (mu E s) (E.1 12 i) = some (mu E (s3 s 12 i 4 v)) := by unfold pF; rw [mu_at hE hi]; exact congrArg some (mu_s3 hE hi rfl)
theorem rI_12_5 {E : ev} {s : st} {i : Nat} (hE : okE E) (hi : i < lc E 12) : gI 4 5 (mu E s) (E.1 12 i) = some (s 12 i 5) := by unfold gI; rw [mu_at hE hi]; rfl
theorem rP_12_5 {E : ev} {s : st} {i : Nat} (hE : okE E) (hi : i < lc E 12) (v : Int32) : pF 4 5 (.int v) (mu E s) (E.1 12 i) = some (mu E (s3 s 12 i 5 v)) := by unfold pF; rw [mu_at hE hi]; exact congrArg some (mu_s3 hE hi rfl)
theorem rO_13 {E : ev} {s : st} {i : Nat} (hE : okE E) (hi : i < lc E 13) : kO 2 (mu E s) (E.1 13 i) = some () := by unfold kO; rw [mu_at hE hi]; rfl
theorem rR_13_0 {E : ev} {s : st} {i : Nat} (hE : okE E) (hi : i < lc E 13) : gR 2 0 (mu E s) (E.1 13 i) = some (E.1 15 i) := by unfold gR; rw [mu_at hE hi]; rfl
theorem rI_13_1 {E : ev} {s : st} {i : Nat} (hE : okE E) (hi : i < lc E 13) : gI 2 1 (mu E s) (E.1 13 i) = some (s 13 i 1) := by unfold gI; rw [mu_at hE hi]; rfl
theorem rP_13_1 {E : ev} {s : st} {i : Nat} (hE : okE E) (hi : i < lc E 13) (v : Int32) : pF 2 1 (.int v) (mu E s) (E.1 13 i) = some (mu E (s3 s 13 i 1 v)) := by unfold pF; rw [mu_at hE hi]; exact congrArg some (mu_s3 hE hi rfl)
theorem rO_14 {E : ev} {s : st} {i : Nat} (hE : okE E) (hi : i < lc E 14) : kO 2 (mu E s) (E.1 14 i) = some () := by unfold kO; rw [mu_at hE hi]; rfl
theorem rR_14_0 {E : ev} {s : st} {i : Nat} (hE : okE E) (hi : i < lc E 14) : gR 2 0 (mu E s) (E.1 14 i) = some (E.1 16 i) := by unfold gR; rw [mu_at hE hi]; rfl
theorem rI_14_1 {E : ev} {s : st} {i : Nat} (hE : okE E) (hi : i < lc E 14) : gI 2 1 (mu E s) (E.1 14 i) = some (s 14 i 1) := by unfold gI; rw [mu_at hE hi]; rfl
theorem rP_14_1 {E : ev} {s : st} {i : Nat} (hE : okE E) (hi : i < lc E 14) (v : Int32) : pF 2 1 (.int v) (mu E s) (E.1 14 i) = some (mu E (s3 s 14 i 1 v)) := by unfold pF; rw [mu_at hE hi]; exact congrArg some (mu_s3 hE hi rfl)
theorem rA_15 {E : ev} {s : st} {i : Nat} (hE : okE E) (hi : i < lc E 15) {j : Nat} (hj : j < 100) : aI (mu E s) (E.1 15 i) (nI j) = some (s 15 i j) := by unfold aI; rw [mu_at hE hi]; show (if _ then _ else _) = _; rw [if_pos ⟨rfl, ix_nI hj (by decide)⟩, nI_clamp (by omega)]
theorem rS_15 {E : ev} {s : st} {i : Nat} (hE : okE E) (hi : i < lc E 15) {j : Nat} (hj : j < 100) (v : Int32) : sI v (mu E s) (E.1 15 i) (nI j) = some (mu E (s3 s 15 i j v)) := by unfold sI; rw [mu_at hE hi]; show (if _ then _ else _) = _; rw [if_pos ⟨rfl, ix_nI hj (by decide)⟩, nI_clamp (by omega)]; exact congrArg some (mu_s3 hE hi rfl)
theorem rA_16 {E : ev} {s : st} {i : Nat} (hE : okE E) (hi : i < lc E 16) {j : Nat} (hj : j < 100) : aI (mu E s) (E.1 16 i) (nI j) = some (s 16 i j) := by unfold aI; rw [mu_at hE hi]; show (if _ then _ else _) = _; rw [if_pos ⟨rfl, ix_nI hj (by decide)⟩, nI_clamp (by omega)]
theorem rS_16 {E : ev} {s : st} {i : Nat} (hE : okE E) (hi : i < lc E 16) {j : Nat} (hj : j < 100) (v : Int32) : sI v (mu E s) (E.1 16 i) (nI j) = some (mu E (s3 s 16 i j v)) := by unfold sI; rw [mu_at hE hi]; show (if _ then _ else _) = _; rw [if_pos ⟨rfl, ix_nI hj (by decide)⟩, nI_clamp (by omega)]; exact congrArg some (mu_s3 hE hi rfl)
theorem rO_17 {E : ev} {s : st} {i : Nat} (hE : okE E) (hi : i < lc E 17) : kO 6 (mu E s) (E.1 17 i) = some () := by unfold kO; rw [mu_at hE hi]; rfl
theorem rR_17_0 {E : ev} {s : st} {i : Nat} (hE : okE E) (hi : i < lc E 17) : gR 6 0 (mu E s) (E.1 17 i) = some (E.1 12 (s 17 i 0).toNatClampNeg) := by unfold gR; rw [mu_at hE hi]; rfl
theorem rI_17_1 {E : ev} {s : st} {i : Nat} (hE : okE E) (hi : i < lc E 17) : gI 6 1 (mu E s) (E.1 17 i) = some (s 17 i 1) := by unfold gI; rw [mu_at hE hi]; rfl
theorem rP_17_1 {E : ev} {s : st} {i : Nat} (hE : okE E) (hi : i < lc E 17) (v : Int32) : pF 6 1 (.int v) (mu E s) (E.1 17 i) = some (mu E (s3 s 17 i 1 v)) := by unfold pF; rw [mu_at hE hi]; exact congrArg some (mu_s3 hE hi rfl)
theorem rI_17_2 {E : ev} {s : st} {i : Nat} (hE : okE E) (hi : i < lc E 17) : gI 6 2 (mu E s) (E.1 17 i) = some (s 17 i 2) := by unfold gI; rw [mu_at hE hi]; rfl
theorem rP_17_2 {E : ev} {s : st} {i : Nat} (hE : okE E) (hi : i < lc E 17) (v : Int32) : pF 6 2 (.int v) (mu E s) (E.1 17 i) = some (mu E (s3 s 17 i 2 v)) := by unfold pF; rw [mu_at hE hi]; exact congrArg some (mu_s3 hE hi rfl)
theorem rI_17_3 {E : ev} {s : st} {i : Nat} (hE : okE E) (hi : i < lc E 17) : gI 6 3 (mu E s) (E.1 17 i) = some (s 17 i 3) := by unfold gI; rw [mu_at hE hi]; rfl
theorem rP_17_3 {E : ev} {s : st} {i : Nat} (hE : okE E) (hi : i < lc E 17) (v : Int32) : pF 6 3 (.int v) (mu E s) (E.1 17 i) = some (mu E (s3 s 17 i 3 v)) := by unfold pF; rw [mu_at hE hi]; exact congrArg some (mu_s3 hE hi rfl)
theorem rR_17_4 {E : ev} {s : st} {i : Nat} (hE : okE E) (hi : i < lc E 17) : gR 6 4 (mu E s) (E.1 17 i) = some (E.1 18 i) := by unfold gR; rw [mu_at hE hi]; rfl
theorem rR_17_5 {E : ev} {s : st} {i : Nat} (hE : okE E) (hi : i < lc E 17) : gR 6 5 (mu E s) (E.1 17 i) = some (E.1 19 i) := by unfold gR; rw [mu_at hE hi]; rfl
theorem rI_17_6 {E : ev} {s : st} {i : Nat} (hE : okE E) (hi : i < lc E 17) : gI 6 6 (mu E s) (E.1 17 i) = some (s 17 i 6) := by unfold gI; rw [mu_at hE hi]; rfl
theorem rP_17_6 {E : ev} {s : st} {i : Nat} (hE : okE E) (hi : i < lc E 17) (v : Int32) : pF 6 6 (.int v) (mu E s) (E.1 17 i) = some (mu E (s3 s 17 i 6 v)) := by unfold pF; rw [mu_at hE hi]; exact congrArg some (mu_s3 hE hi rfl)
theorem rA_18 {E : ev} {s : st} {i : Nat} (hE : okE E) (hi : i < lc E 18) {j : Nat} (hj : j < 10) : aI (mu E s) (E.1 18 i) (nI j) = some (s 18 i j) := by unfold aI; rw [mu_at hE hi]; show (if _ then _ else _) = _; rw [if_pos ⟨rfl, ix_nI hj (by decide)⟩, nI_clamp (by omega)]
theorem rS_18 {E : ev} {s : st} {i : Nat} (hE : okE E) (hi : i < lc E 18) {j : Nat} (hj : j < 10) (v : Int32) : sI v (mu E s) (E.1 18 i) (nI j) = some (mu E (s3 s 18 i j v)) := by unfold sI; rw [mu_at hE hi]; show (if _ then _ else _) = _; rw [if_pos ⟨rfl, ix_nI hj (by decide)⟩, nI_clamp (by omega)]; exact congrArg some (mu_s3 hE hi rfl)
theorem rA_19 {E : ev} {s : st} {i : Nat} (hE : okE E) (hi : i < lc E 19) {j : Nat} (hj : j < 10) : aI (mu E s) (E.1 19 i) (nI j) = some (s 19 i j) := by unfold aI; rw [mu_at hE hi]; show (if _ then _ else _) = _; rw [if_pos ⟨rfl, ix_nI hj (by decide)⟩, nI_clamp (by omega)]
theorem rS_19 {E : ev} {s : st} {i : Nat} (hE : okE E) (hi : i < lc E 19) {j : Nat} (hj : j < 10) (v : Int32) : sI v (mu E s) (E.1 19 i) (nI j) = some (mu E (s3 s 19 i j v)) := by unfold sI; rw [mu_at hE hi]; show (if _ then _ else _) = _; rw [if_pos ⟨rfl, ix_nI hj (by decide)⟩, nI_clamp (by omega)]; exact congrArg some (mu_s3 hE hi rfl)
theorem rO_20 {E : ev} {s : st} {i : Nat} (hE : okE E) (hi : i < lc E 20) : kO 5 (mu E s) (E.1 20 i) = some () := by unfold kO; rw [mu_at hE hi]; rfl
theorem rI_20_0 {E : ev} {s : st} {i : Nat} (hE : okE E) (hi : i < lc E 20) : gI 5 0 (mu E s) (E.1 20 i) = some (s 20 i 0) := by unfold gI; rw [mu_at hE hi]; rfl
theorem rP_20_0 {E : ev} {s : st} {i : Nat} (hE : okE E) (hi : i < lc E 20) (v : Int32) : pF 5 0 (.int v) (mu E s) (E.1 20 i) = some (mu E (s3 s 20 i 0 v)) := by unfold pF; rw [mu_at hE hi]; exact congrArg some (mu_s3 hE hi rfl)
theorem rI_20_1 {E : ev} {s : st} {i : Nat} (hE : okE E) (hi : i < lc E 20) : gI 5 1 (mu E s) (E.1 20 i) = some (s 20 i 1) := by unfold gI; rw [mu_at hE hi]; rfl
theorem rP_20_1 {E : ev} {s : st} {i : Nat} (hE : okE E) (hi : i < lc E 20) (v : Int32) : pF 5 1 (.int v) (mu E s) (E.1 20 i) = some (mu E (s3 s 20 i 1 v)) := by unfold pF; rw [mu_at hE hi]; exact congrArg some (mu_s3 hE hi rfl)
theorem rI_20_2 {E : ev} {s : st} {i : Nat} (hE : okE E) (hi : i < lc E 20) : gI 5 2 (mu E s) (E.1 20 i) = some (s 20 i 2) := by unfold gI; rw [mu_at hE hi]; rfl
theorem rP_20_2 {E : ev} {s : st} {i : Nat} (hE : okE E) (hi : i < lc E 20) (v : Int32) : pF 5 2 (.int v) (mu E s) (E.1 20 i) = some (mu E (s3 s 20 i 2 v)) := by unfold pF; rw [mu_at hE hi]; exact congrArg some (mu_s3 hE hi rfl)
theorem rI_20_3 {E : ev} {s : st} {i : Nat} (hE : okE E) (hi : i < lc E 20) : gI 5 3 (mu E s) (E.1 20 i) = some (s 20 i 3) := by unfold gI; rw [mu_at hE hi]; rfl
theorem rP_20_3 {E : ev} {s : st} {i : Nat} (hE : okE E) (hi : i < lc E 20) (v : Int32) : pF 5 3 (.int v) (mu E s) (E.1 20 i) = some (mu E (s3 s 20 i 3 v)) := by unfold pF; rw [mu_at hE hi]; exact congrArg some (mu_s3 hE hi rfl)
theorem rI_20_4 {E : ev} {s : st} {i : Nat} (hE : okE E) (hi : i < lc E 20) : gI 5 4 (mu E s) (E.1 20 i) = some (s 20 i 4) := by unfold gI; rw [mu_at hE hi]; rfl
theorem rP_20_4 {E : ev} {s : st} {i : Nat} (hE : okE E) (hi : i < lc E 20) (v : Int32) : pF 5 4 (.int v) (mu E s) (E.1 20 i) = some (mu E (s3 s 20 i 4 v)) := by unfold pF; rw [mu_at hE hi]; exact congrArg some (mu_s3 hE hi rfl)
theorem rO_30 {E : ev} {s : st} {i : Nat} (hE : okE E) (hi : i < lc E 30) : kO 1 (mu E s) (E.1 30 i) = some () := by unfold kO; rw [mu_at hE hi]; rfl
theorem rI_30_0 {E : ev} {s : st} {i : Nat} (hE : okE E) (hi : i < lc E 30) : gI 1 0 (mu E s) (E.1 30 i) = some (s 30 i 0) := by unfold gI; rw [mu_at hE hi]; rfl
theorem rP_30_0 {E : ev} {s : st} {i : Nat} (hE : okE E) (hi : i < lc E 30) (v : Int32) : pF 1 0 (.int v) (mu E s) (E.1 30 i) = some (mu E (s3 s 30 i 0 v)) := by unfold pF; rw [mu_at hE hi]; exact congrArg some (mu_s3 hE hi rfl)
theorem rI_30_1 {E : ev} {s : st} {i : Nat} (hE : okE E) (hi : i < lc E 30) : gI 1 1 (mu E s) (E.1 30 i) = some (s 30 i 1) := by unfold gI; rw [mu_at hE hi]; rfl
theorem rP_30_1 {E : ev} {s : st} {i : Nat} (hE : okE E) (hi : i < lc E 30) (v : Int32) : pF 1 1 (.int v) (mu E s) (E.1 30 i) = some (mu E (s3 s 30 i 1 v)) := by unfold pF; rw [mu_at hE hi]; exact congrArg some (mu_s3 hE hi rfl)
theorem rR_30_2 {E : ev} {s : st} {i : Nat} (hE : okE E) (hi : i < lc E 30) : gR 1 2 (mu E s) (E.1 30 i) = some (E.1 32 i) := by unfold gR; rw [mu_at hE hi]; rfl
theorem rR_30_3 {E : ev} {s : st} {i : Nat} (hE : okE E) (hi : i < lc E 30) : gR 1 3 (mu E s) (E.1 30 i) = some (E.1 33 i) := by unfold gR; rw [mu_at hE hi]; rfl
theorem rR_30_4 {E : ev} {s : st} {i : Nat} (hE : okE E) (hi : i < lc E 30) : gR 1 4 (mu E s) (E.1 30 i) = some (E.1 34 i) := by unfold gR; rw [mu_at hE hi]; rfl
theorem rR_30_5 {E : ev} {s : st} {i : Nat} (hE : okE E) (hi : i < lc E 30) : gR 1 5 (mu E s) (E.1 30 i) = some (E.1 35 i) := by unfold gR; rw [mu_at hE hi]; rfl
theorem rR_30_6 {E : ev} {s : st} {i : Nat} (hE : okE E) (hi : i < lc E 30) : gR 1 6 (mu E s) (E.1 30 i) = some (E.1 36 i) := by unfold gR; rw [mu_at hE hi]; rfl
theorem rR_30_7 {E : ev} {s : st} {i : Nat} (hE : okE E) (hi : i < lc E 30) : gR 1 7 (mu E s) (E.1 30 i) = some (E.1 37 i) := by unfold gR; rw [mu_at hE hi]; rfl
theorem rR_30_8 {E : ev} {s : st} {i : Nat} (hE : okE E) (hi : i < lc E 30) : gR 1 8 (mu E s) (E.1 30 i) = some (E.1 38 i) := by unfold gR; rw [mu_at hE hi]; rfl
theorem rI_30_9 {E : ev} {s : st} {i : Nat} (hE : okE E) (hi : i < lc E 30) : gI 1 9 (mu E s) (E.1 30 i) = some (s 30 i 9) := by unfold gI; rw [mu_at hE hi]; rfl
theorem rP_30_9 {E : ev} {s : st} {i : Nat} (hE : okE E) (hi : i < lc E 30) (v : Int32) : pF 1 9 (.int v) (mu E s) (E.1 30 i) = some (mu E (s3 s 30 i 9 v)) := by unfold pF; rw [mu_at hE hi]; exact congrArg some (mu_s3 hE hi rfl)
theorem rR_30_10 {E : ev} {s : st} {i : Nat} (hE : okE E) (hi : i < lc E 30) : gR 1 10 (mu E s) (E.1 30 i) = some (E.1 40 i) := by unfold gR; rw [mu_at hE hi]; rfl
theorem rR_30_11 {E : ev} {s : st} {i : Nat} (hE : okE E) (hi : i < lc E 30) : gR 1 11 (mu E s) (E.1 30 i) = some (E.1 41 i) := by unfold gR; rw [mu_at hE hi]; rfl
theorem rR_30_12 {E : ev} {s : st} {i : Nat} (hE : okE E) (hi : i < lc E 30) : gR 1 12 (mu E s) (E.1 30 i) = some (E.1 42 i) := by unfold gR; rw [mu_at hE hi]; rfl
theorem rR_30_13 {E : ev} {s : st} {i : Nat} (hE : okE E) (hi : i < lc E 30) : gR 1 13 (mu E s) (E.1 30 i) = some (E.1 43 i) := by unfold gR; rw [mu_at hE hi]; rfl
theorem rR_30_14 {E : ev} {s : st} {i : Nat} (hE : okE E) (hi : i < lc E 30) : gR 1 14 (mu E s) (E.1 30 i) = some (E.1 44 i) := by unfold gR; rw [mu_at hE hi]; rfl
theorem rR_30_15 {E : ev} {s : st} {i : Nat} (hE : okE E) (hi : i < lc E 30) : gR 1 15 (mu E s) (E.1 30 i) = some (E.1 45 i) := by unfold gR; rw [mu_at hE hi]; rfl
theorem rR_30_16 {E : ev} {s : st} {i : Nat} (hE : okE E) (hi : i < lc E 30) : gR 1 16 (mu E s) (E.1 30 i) = some (E.1 46 i) := by unfold gR; rw [mu_at hE hi]; rfl
theorem rI_30_17 {E : ev} {s : st} {i : Nat} (hE : okE E) (hi : i < lc E 30) : gI 1 17 (mu E s) (E.1 30 i) = some (s 30 i 17) := by unfold gI; rw [mu_at hE hi]; rfl
theorem rP_30_17 {E : ev} {s : st} {i : Nat} (hE : okE E) (hi : i < lc E 30) (v : Int32) : pF 1 17 (.int v) (mu E s) (E.1 30 i) = some (mu E (s3 s 30 i 17 v)) := by unfold pF; rw [mu_at hE hi]; exact congrArg some (mu_s3 hE hi rfl)
theorem rR_30_18 {E : ev} {s : st} {i : Nat} (hE : okE E) (hi : i < lc E 30) : gR 1 18 (mu E s) (E.1 30 i) = some (E.1 48 i) := by unfold gR; rw [mu_at hE hi]; rfl
theorem rR_30_19 {E : ev} {s : st} {i : Nat} (hE : okE E) (hi : i < lc E 30) : gR 1 19 (mu E s) (E.1 30 i) = some (E.1 49 i) := by unfold gR; rw [mu_at hE hi]; rfl
theorem rR_30_20 {E : ev} {s : st} {i : Nat} (hE : okE E) (hi : i < lc E 30) : gR 1 20 (mu E s) (E.1 30 i) = some (E.1 50 i) := by unfold gR; rw [mu_at hE hi]; rfl
theorem rR_30_21 {E : ev} {s : st} {i : Nat} (hE : okE E) (hi : i < lc E 30) : gR 1 21 (mu E s) (E.1 30 i) = some (E.1 51 i) := by unfold gR; rw [mu_at hE hi]; rfl
theorem rR_30_22 {E : ev} {s : st} {i : Nat} (hE : okE E) (hi : i < lc E 30) : gR 1 22 (mu E s) (E.1 30 i) = some (E.1 52 i) := by unfold gR; rw [mu_at hE hi]; rfl
theorem rI_30_23 {E : ev} {s : st} {i : Nat} (hE : okE E) (hi : i < lc E 30) : gI 1 23 (mu E s) (E.1 30 i) = some (s 30 i 23) := by unfold gI; rw [mu_at hE hi]; rfl
theorem rP_30_23 {E : ev} {s : st} {i : Nat} (hE : okE E) (hi : i < lc E 30) (v : Int32) : pF 1 23 (.int v) (mu E s) (E.1 30 i) = some (mu E (s3 s 30 i 23 v)) := by unfold pF; rw [mu_at hE hi]; exact congrArg some (mu_s3 hE hi rfl)
theorem rR_30_24 {E : ev} {s : st} {i : Nat} (hE : okE E) (hi : i < lc E 30) : gR 1 24 (mu E s) (E.1 30 i) = some (E.1 54 i) := by unfold gR; rw [mu_at hE hi]; rfl
theorem rI_30_25 {E : ev} {s : st} {i : Nat} (hE : okE E) (hi : i < lc E 30) : gI 1 25 (mu E s) (E.1 30 i) = some (s 30 i 25) := by unfold gI; rw [mu_at hE hi]; rfl
theorem rP_30_25 {E : ev} {s : st} {i : Nat} (hE : okE E) (hi : i < lc E 30) (v : Int32) : pF 1 25 (.int v) (mu E s) (E.1 30 i) = some (mu E (s3 s 30 i 25 v)) := by unfold pF; rw [mu_at hE hi]; exact congrArg some (mu_s3 hE hi rfl)
theorem rR_30_26 {E : ev} {s : st} {i : Nat} (hE : okE E) (hi : i < lc E 30) : gR 1 26 (mu E s) (E.1 30 i) = some (E.1 56 i) := by unfold gR; rw [mu_at hE hi]; rfl
theorem rR_30_27 {E : ev} {s : st} {i : Nat} (hE : okE E) (hi : i < lc E 30) : gR 1 27 (mu E s) (E.1 30 i) = some (E.1 57 i) := by unfold gR; rw [mu_at hE hi]; rfl
theorem rR_30_28 {E : ev} {s : st} {i : Nat} (hE : okE E) (hi : i < lc E 30) : gR 1 28 (mu E s) (E.1 30 i) = some (E.1 58 i) := by unfold gR; rw [mu_at hE hi]; rfl
theorem rI_30_29 {E : ev} {s : st} {i : Nat} (hE : okE E) (hi : i < lc E 30) : gI 1 29 (mu E s) (E.1 30 i) = some (s 30 i 29) := by unfold gI; rw [mu_at hE hi]; rfl
theorem rP_30_29 {E : ev} {s : st} {i : Nat} (hE : okE E) (hi : i < lc E 30) (v : Int32) : pF 1 29 (.int v) (mu E s) (E.1 30 i) = some (mu E (s3 s 30 i 29 v)) := by unfold pF; rw [mu_at hE hi]; exact congrArg some (mu_s3 hE hi rfl)
theorem rR_30_30 {E : ev} {s : st} {i : Nat} (hE : okE E) (hi : i < lc E 30) : gR 1 30 (mu E s) (E.1 30 i) = some (E.1 60 i) := by unfold gR; rw [mu_at hE hi]; rfl
theorem rR_30_31 {E : ev} {s : st} {i : Nat} (hE : okE E) (hi : i < lc E 30) : gR 1 31 (mu E s) (E.1 30 i) = some (E.1 61 i) := by unfold gR; rw [mu_at hE hi]; rfl
theorem rA_32 {E : ev} {s : st} {i : Nat} (hE : okE E) (hi : i < lc E 32) {j : Nat} (hj : j < 20) : aZ (mu E s) (E.1 32 i) (nI j) = some (s 32 i j) := by unfold aZ; rw [mu_at hE hi]; show (if _ then _ else _) = _; rw [if_pos ⟨rfl, ix_nI hj (by decide)⟩, nI_clamp (by omega)]
theorem rS_32 {E : ev} {s : st} {i : Nat} (hE : okE E) (hi : i < lc E 32) {j : Nat} (hj : j < 20) {v : Int32} (hv : v = 0 ∨ v = 1) : sZ v (mu E s) (E.1 32 i) (nI j) = some (mu E (s3 s 32 i j v)) := by unfold sZ; rw [mu_at hE hi]; show (if _ then _ else _) = _; rw [if_pos ⟨hv, rfl, ix_nI hj (by decide)⟩, nI_clamp (by omega)]; exact congrArg some (mu_s3 hE hi rfl)
theorem rA_33 {E : ev} {s : st} {i : Nat} (hE : okE E) (hi : i < lc E 33) {j : Nat} (hj : j < 20) : aI (mu E s) (E.1 33 i) (nI j) = some (s 33 i j) := by unfold aI; rw [mu_at hE hi]; show (if _ then _ else _) = _; rw [if_pos ⟨rfl, ix_nI hj (by decide)⟩, nI_clamp (by omega)]
theorem rS_33 {E : ev} {s : st} {i : Nat} (hE : okE E) (hi : i < lc E 33) {j : Nat} (hj : j < 20) (v : Int32) : sI v (mu E s) (E.1 33 i) (nI j) = some (mu E (s3 s 33 i j v)) := by unfold sI; rw [mu_at hE hi]; show (if _ then _ else _) = _; rw [if_pos ⟨rfl, ix_nI hj (by decide)⟩, nI_clamp (by omega)]; exact congrArg some (mu_s3 hE hi rfl)
theorem rA_34 {E : ev} {s : st} {i : Nat} (hE : okE E) (hi : i < lc E 34) {j : Nat} (hj : j < 20) : aI (mu E s) (E.1 34 i) (nI j) = some (s 34 i j) := by unfold aI; rw [mu_at hE hi]; show (if _ then _ else _) = _; rw [if_pos ⟨rfl, ix_nI hj (by decide)⟩, nI_clamp (by omega)]
theorem rS_34 {E : ev} {s : st} {i : Nat} (hE : okE E) (hi : i < lc E 34) {j : Nat} (hj : j < 20) (v : Int32) : sI v (mu E s) (E.1 34 i) (nI j) = some (mu E (s3 s 34 i j v)) := by unfold sI; rw [mu_at hE hi]; show (if _ then _ else _) = _; rw [if_pos ⟨rfl, ix_nI hj (by decide)⟩, nI_clamp (by omega)]; exact congrArg some (mu_s3 hE hi rfl)
theorem rA_35 {E : ev} {s : st} {i : Nat} (hE : okE E) (hi : i < lc E 35) {j : Nat} (hj : j < 20) : aI (mu E s) (E.1 35 i) (nI j) = some (s 35 i j) := by unfold aI; rw [mu_at hE hi]; show (if _ then _ else _) = _; rw [if_pos ⟨rfl, ix_nI hj (by decide)⟩, nI_clamp (by omega)]
theorem rS_35 {E : ev} {s : st} {i : Nat} (hE : okE E) (hi : i < lc E 35) {j : Nat} (hj : j < 20) (v : Int32) : sI v (mu E s) (E.1 35 i) (nI j) = some (mu E (s3 s 35 i j v)) := by unfold sI; rw [mu_at hE hi]; show (if _ then _ else _) = _; rw [if_pos ⟨rfl, ix_nI hj (by decide)⟩, nI_clamp (by omega)]; exact congrArg some (mu_s3 hE hi rfl)
theorem rA_36 {E : ev} {s : st} {i : Nat} (hE : okE E) (hi : i < lc E 36) {j : Nat} (hj : j < 2000) : aI (mu E s) (E.1 36 i) (nI j) = some (s 36 i j) := by unfold aI; rw [mu_at hE hi]; show (if _ then _ else _) = _; rw [if_pos ⟨rfl, ix_nI hj (by decide)⟩, nI_clamp (by omega)]
theorem rS_36 {E : ev} {s : st} {i : Nat} (hE : okE E) (hi : i < lc E 36) {j : Nat} (hj : j < 2000) (v : Int32) : sI v (mu E s) (E.1 36 i) (nI j) = some (mu E (s3 s 36 i j v)) := by unfold sI; rw [mu_at hE hi]; show (if _ then _ else _) = _; rw [if_pos ⟨rfl, ix_nI hj (by decide)⟩, nI_clamp (by omega)]; exact congrArg some (mu_s3 hE hi rfl)
theorem rA_37 {E : ev} {s : st} {i : Nat} (hE : okE E) (hi : i < lc E 37) {j : Nat} (hj : j < 20) : aI (mu E s) (E.1 37 i) (nI j) = some (s 37 i j) := by unfold aI; rw [mu_at hE hi]; show (if _ then _ else _) = _; rw [if_pos ⟨rfl, ix_nI hj (by decide)⟩, nI_clamp (by omega)]
theorem rS_37 {E : ev} {s : st} {i : Nat} (hE : okE E) (hi : i < lc E 37) {j : Nat} (hj : j < 20) (v : Int32) : sI v (mu E s) (E.1 37 i) (nI j) = some (mu E (s3 s 37 i j v)) := by unfold sI; rw [mu_at hE hi]; show (if _ then _ else _) = _; rw [if_pos ⟨rfl, ix_nI hj (by decide)⟩, nI_clamp (by omega)]; exact congrArg some (mu_s3 hE hi rfl)
theorem rA_38 {E : ev} {s : st} {i : Nat} (hE : okE E) (hi : i < lc E 38) {j : Nat} (hj : j < 2000) : aI (mu E s) (E.1 38 i) (nI j) = some (s 38 i j) := by unfold aI; rw [mu_at hE hi]; show (if _ then _ else _) = _; rw [if_pos ⟨rfl, ix_nI hj (by decide)⟩, nI_clamp (by omega)]
theorem rS_38 {E : ev} {s : st} {i : Nat} (hE : okE E) (hi : i < lc E 38) {j : Nat} (hj : j < 2000) (v : Int32) : sI v (mu E s) (E.1 38 i) (nI j) = some (mu E (s3 s 38 i j v)) := by unfold sI; rw [mu_at hE hi]; show (if _ then _ else _) = _; rw [if_pos ⟨rfl, ix_nI hj (by decide)⟩, nI_clamp (by omega)]; exact congrArg some (mu_s3 hE hi rfl)
theorem rA_40 {E : ev} {s : st} {i : Nat} (hE : okE E) (hi : i < lc E 40) {j : Nat} (hj : j < 200) : aI (mu E s) (E.1 40 i) (nI j) = some (s 40 i j) := by unfold aI; rw [mu_at hE hi]; show (if _ then _ else _) = _; rw [if_pos ⟨rfl, ix_nI hj (by decide)⟩, nI_clamp (by omega)]
theorem rS_40 {E : ev} {s : st} {i : Nat} (hE : okE E) (hi : i < lc E 40) {j : Nat} (hj : j < 200) (v : Int32) : sI v (mu E s) (E.1 40 i) (nI j) = some (mu E (s3 s 40 i j v)) := by unfold sI; rw [mu_at hE hi]; show (if _ then _ else _) = _; rw [if_pos ⟨rfl, ix_nI hj (by decide)⟩, nI_clamp (by omega)]; exact congrArg some (mu_s3 hE hi rfl)
theorem rA_41 {E : ev} {s : st} {i : Nat} (hE : okE E) (hi : i < lc E 41) {j : Nat} (hj : j < 200) : aI (mu E s) (E.1 41 i) (nI j) = some (s 41 i j) := by unfold aI; rw [mu_at hE hi]; show (if _ then _ else _) = _; rw [if_pos ⟨rfl, ix_nI hj (by decide)⟩, nI_clamp (by omega)]
theorem rS_41 {E : ev} {s : st} {i : Nat} (hE : okE E) (hi : i < lc E 41) {j : Nat} (hj : j < 200) (v : Int32) : sI v (mu E s) (E.1 41 i) (nI j) = some (mu E (s3 s 41 i j v)) := by unfold sI; rw [mu_at hE hi]; show (if _ then _ else _) = _; rw [if_pos ⟨rfl, ix_nI hj (by decide)⟩, nI_clamp (by omega)]; exact congrArg some (mu_s3 hE hi rfl)
theorem rA_42 {E : ev} {s : st} {i : Nat} (hE : okE E) (hi : i < lc E 42) {j : Nat} (hj : j < 200) : aZ (mu E s) (E.1 42 i) (nI j) = some (s 42 i j) := by unfold aZ; rw [mu_at hE hi]; show (if _ then _ else _) = _; rw [if_pos ⟨rfl, ix_nI hj (by decide)⟩, nI_clamp (by omega)]
theorem rS_42 {E : ev} {s : st} {i : Nat} (hE : okE E) (hi : i < lc E 42) {j : Nat} (hj : j < 200) {v : Int32} (hv : v = 0 ∨ v = 1) : sZ v (mu E s) (E.1 42 i) (nI j) = some (mu E (s3 s 42 i j v)) := by unfold sZ; rw [mu_at hE hi]; show (if _ then _ else _) = _; rw [if_pos ⟨hv, rfl, ix_nI hj (by decide)⟩, nI_clamp (by omega)]; exact congrArg some (mu_s3 hE hi rfl)
theorem rA_43 {E : ev} {s : st} {i : Nat} (hE : okE E) (hi : i < lc E 43) {j : Nat} (hj : j < 200) : aI (mu E s) (E.1 43 i) (nI j) = some (s 43 i j) := by unfold aI; rw [mu_at hE hi]; show (if _ then _ else _) = _; rw [if_pos ⟨rfl, ix_nI hj (by decide)⟩, nI_clamp (by omega)]
theorem rS_43 {E : ev} {s : st} {i : Nat} (hE : okE E) (hi : i < lc E 43) {j : Nat} (hj : j < 200) (v : Int32) : sI v (mu E s) (E.1 43 i) (nI j) = some (mu E (s3 s 43 i j v)) := by unfold sI; rw [mu_at hE hi]; show (if _ then _ else _) = _; rw [if_pos ⟨rfl, ix_nI hj (by decide)⟩, nI_clamp (by omega)]; exact congrArg some (mu_s3 hE hi rfl)
theorem rA_44 {E : ev} {s : st} {i : Nat} (hE : okE E) (hi : i < lc E 44) {j : Nat} (hj : j < 200) : aI (mu E s) (E.1 44 i) (nI j) = some (s 44 i j) := by unfold aI; rw [mu_at hE hi]; show (if _ then _ else _) = _; rw [if_pos ⟨rfl, ix_nI hj (by decide)⟩, nI_clamp (by omega)]
theorem rS_44 {E : ev} {s : st} {i : Nat} (hE : okE E) (hi : i < lc E 44) {j : Nat} (hj : j < 200) (v : Int32) : sI v (mu E s) (E.1 44 i) (nI j) = some (mu E (s3 s 44 i j v)) := by unfold sI; rw [mu_at hE hi]; show (if _ then _ else _) = _; rw [if_pos ⟨rfl, ix_nI hj (by decide)⟩, nI_clamp (by omega)]; exact congrArg some (mu_s3 hE hi rfl)
theorem rA_45 {E : ev} {s : st} {i : Nat} (hE : okE E) (hi : i < lc E 45) {j : Nat} (hj : j < 2000) : aI (mu E s) (E.1 45 i) (nI j) = some (s 45 i j) := by unfold aI; rw [mu_at hE hi]; show (if _ then _ else _) = _; rw [if_pos ⟨rfl, ix_nI hj (by decide)⟩, nI_clamp (by omega)]
theorem rS_45 {E : ev} {s : st} {i : Nat} (hE : okE E) (hi : i < lc E 45) {j : Nat} (hj : j < 2000) (v : Int32) : sI v (mu E s) (E.1 45 i) (nI j) = some (mu E (s3 s 45 i j v)) := by unfold sI; rw [mu_at hE hi]; show (if _ then _ else _) = _; rw [if_pos ⟨rfl, ix_nI hj (by decide)⟩, nI_clamp (by omega)]; exact congrArg some (mu_s3 hE hi rfl)
theorem rA_46 {E : ev} {s : st} {i : Nat} (hE : okE E) (hi : i < lc E 46) {j : Nat} (hj : j < 2000) : aI (mu E s) (E.1 46 i) (nI j) = some (s 46 i j) := by unfold aI; rw [mu_at hE hi]; show (if _ then _ else _) = _; rw [if_pos ⟨rfl, ix_nI hj (by decide)⟩, nI_clamp (by omega)]
theorem rS_46 {E : ev} {s : st} {i : Nat} (hE : okE E) (hi : i < lc E 46) {j : Nat} (hj : j < 2000) (v : Int32) : sI v (mu E s) (E.1 46 i) (nI j) = some (mu E (s3 s 46 i j v)) := by unfold sI; rw [mu_at hE hi]; show (if _ then _ else _) = _; rw [if_pos ⟨rfl, ix_nI hj (by decide)⟩, nI_clamp (by omega)]; exact congrArg some (mu_s3 hE hi rfl)
theorem rA_48 {E : ev} {s : st} {i : Nat} (hE : okE E) (hi : i < lc E 48) {j : Nat} (hj : j < 100) : aI (mu E s) (E.1 48 i) (nI j) = some (s 48 i j) := by unfold aI; rw [mu_at hE hi]; show (if _ then _ else _) = _; rw [if_pos ⟨rfl, ix_nI hj (by decide)⟩, nI_clamp (by omega)]
theorem rS_48 {E : ev} {s : st} {i : Nat} (hE : okE E) (hi : i < lc E 48) {j : Nat} (hj : j < 100) (v : Int32) : sI v (mu E s) (E.1 48 i) (nI j) = some (mu E (s3 s 48 i j v)) := by unfold sI; rw [mu_at hE hi]; show (if _ then _ else _) = _; rw [if_pos ⟨rfl, ix_nI hj (by decide)⟩, nI_clamp (by omega)]; exact congrArg some (mu_s3 hE hi rfl)
theorem rA_49 {E : ev} {s : st} {i : Nat} (hE : okE E) (hi : i < lc E 49) {j : Nat} (hj : j < 100) : aI (mu E s) (E.1 49 i) (nI j) = some (s 49 i j) := by unfold aI; rw [mu_at hE hi]; show (if _ then _ else _) = _; rw [if_pos ⟨rfl, ix_nI hj (by decide)⟩, nI_clamp (by omega)]
theorem rS_49 {E : ev} {s : st} {i : Nat} (hE : okE E) (hi : i < lc E 49) {j : Nat} (hj : j < 100) (v : Int32) : sI v (mu E s) (E.1 49 i) (nI j) = some (mu E (s3 s 49 i j v)) := by unfold sI; rw [mu_at hE hi]; show (if _ then _ else _) = _; rw [if_pos ⟨rfl, ix_nI hj (by decide)⟩, nI_clamp (by omega)]; exact congrArg some (mu_s3 hE hi rfl)
theorem rA_50 {E : ev} {s : st} {i : Nat} (hE : okE E) (hi : i < lc E 50) {j : Nat} (hj : j < 100) : aI (mu E s) (E.1 50 i) (nI j) = some (s 50 i j) := by unfold aI; rw [mu_at hE hi]; show (if _ then _ else _) = _; rw [if_pos ⟨rfl, ix_nI hj (by decide)⟩, nI_clamp (by omega)]
theorem rS_50 {E : ev} {s : st} {i : Nat} (hE : okE E) (hi : i < lc E 50) {j : Nat} (hj : j < 100) (v : Int32) : sI v (mu E s) (E.1 50 i) (nI j) = some (mu E (s3 s 50 i j v)) := by unfold sI; rw [mu_at hE hi]; show (if _ then _ else _) = _; rw [if_pos ⟨rfl, ix_nI hj (by decide)⟩, nI_clamp (by omega)]; exact congrArg some (mu_s3 hE hi rfl)
theorem rA_51 {E : ev} {s : st} {i : Nat} (hE : okE E) (hi : i < lc E 51) {j : Nat} (hj : j < 100) : aI (mu E s) (E.1 51 i) (nI j) = some (s 51 i j) := by unfold aI; rw [mu_at hE hi]; show (if _ then _ else _) = _; rw [if_pos ⟨rfl, ix_nI hj (by decide)⟩, nI_clamp (by omega)]
theorem rS_51 {E : ev} {s : st} {i : Nat} (hE : okE E) (hi : i < lc E 51) {j : Nat} (hj : j < 100) (v : Int32) : sI v (mu E s) (E.1 51 i) (nI j) = some (mu E (s3 s 51 i j v)) := by unfold sI; rw [mu_at hE hi]; show (if _ then _ else _) = _; rw [if_pos ⟨rfl, ix_nI hj (by decide)⟩, nI_clamp (by omega)]; exact congrArg some (mu_s3 hE hi rfl)
theorem rA_52 {E : ev} {s : st} {i : Nat} (hE : okE E) (hi : i < lc E 52) {j : Nat} (hj : j < 100) : aZ (mu E s) (E.1 52 i) (nI j) = some (s 52 i j) := by unfold aZ; rw [mu_at hE hi]; show (if _ then _ else _) = _; rw [if_pos ⟨rfl, ix_nI hj (by decide)⟩, nI_clamp (by omega)]
theorem rS_52 {E : ev} {s : st} {i : Nat} (hE : okE E) (hi : i < lc E 52) {j : Nat} (hj : j < 100) {v : Int32} (hv : v = 0 ∨ v = 1) : sZ v (mu E s) (E.1 52 i) (nI j) = some (mu E (s3 s 52 i j v)) := by unfold sZ; rw [mu_at hE hi]; show (if _ then _ else _) = _; rw [if_pos ⟨hv, rfl, ix_nI hj (by decide)⟩, nI_clamp (by omega)]; exact congrArg some (mu_s3 hE hi rfl)
theorem rA_54 {E : ev} {s : st} {i : Nat} (hE : okE E) (hi : i < lc E 54) {j : Nat} (hj : j < 100) : aI (mu E s) (E.1 54 i) (nI j) = some (s 54 i j) := by unfold aI; rw [mu_at hE hi]; show (if _ then _ else _) = _; rw [if_pos ⟨rfl, ix_nI hj (by decide)⟩, nI_clamp (by omega)]
theorem rS_54 {E : ev} {s : st} {i : Nat} (hE : okE E) (hi : i < lc E 54) {j : Nat} (hj : j < 100) (v : Int32) : sI v (mu E s) (E.1 54 i) (nI j) = some (mu E (s3 s 54 i j v)) := by unfold sI; rw [mu_at hE hi]; show (if _ then _ else _) = _; rw [if_pos ⟨rfl, ix_nI hj (by decide)⟩, nI_clamp (by omega)]; exact congrArg some (mu_s3 hE hi rfl)
theorem rA_56 {E : ev} {s : st} {i : Nat} (hE : okE E) (hi : i < lc E 56) {j : Nat} (hj : j < 4096) : aI (mu E s) (E.1 56 i) (nI j) = some (s 56 i j) := by unfold aI; rw [mu_at hE hi]; show (if _ then _ else _) = _; rw [if_pos ⟨rfl, ix_nI hj (by decide)⟩, nI_clamp (by omega)]
theorem rS_56 {E : ev} {s : st} {i : Nat} (hE : okE E) (hi : i < lc E 56) {j : Nat} (hj : j < 4096) (v : Int32) : sI v (mu E s) (E.1 56 i) (nI j) = some (mu E (s3 s 56 i j v)) := by unfold sI; rw [mu_at hE hi]; show (if _ then _ else _) = _; rw [if_pos ⟨rfl, ix_nI hj (by decide)⟩, nI_clamp (by omega)]; exact congrArg some (mu_s3 hE hi rfl)
theorem rA_57 {E : ev} {s : st} {i : Nat} (hE : okE E) (hi : i < lc E 57) {j : Nat} (hj : j < 4096) : aI (mu E s) (E.1 57 i) (nI j) = some (s 57 i j) := by unfold aI; rw [mu_at hE hi]; show (if _ then _ else _) = _; rw [if_pos ⟨rfl, ix_nI hj (by decide)⟩, nI_clamp (by omega)]
theorem rS_57 {E : ev} {s : st} {i : Nat} (hE : okE E) (hi : i < lc E 57) {j : Nat} (hj : j < 4096) (v : Int32) : sI v (mu E s) (E.1 57 i) (nI j) = some (mu E (s3 s 57 i j v)) := by unfold sI; rw [mu_at hE hi]; show (if _ then _ else _) = _; rw [if_pos ⟨rfl, ix_nI hj (by decide)⟩, nI_clamp (by omega)]; exact congrArg some (mu_s3 hE hi rfl)
theorem rA_58 {E : ev} {s : st} {i : Nat} (hE : okE E) (hi : i < lc E 58) {j : Nat} (hj : j < 4096) : aI (mu E s) (E.1 58 i) (nI j) = some (s 58 i j) := by unfold aI; rw [mu_at hE hi]; show (if _ then _ else _) = _; rw [if_pos ⟨rfl, ix_nI hj (by decide)⟩, nI_clamp (by omega)]
theorem rS_58 {E : ev} {s : st} {i : Nat} (hE : okE E) (hi : i < lc E 58) {j : Nat} (hj : j < 4096) (v : Int32) : sI v (mu E s) (E.1 58 i) (nI j) = some (mu E (s3 s 58 i j v)) := by unfold sI; rw [mu_at hE hi]; show (if _ then _ else _) = _; rw [if_pos ⟨rfl, ix_nI hj (by decide)⟩, nI_clamp (by omega)]; exact congrArg some (mu_s3 hE hi rfl)
theorem rA_60 {E : ev} {s : st} {i : Nat} (hE : okE E) (hi : i < lc E 60) {j : Nat} (hj : j < 100) : aI (mu E s) (E.1 60 i) (nI j) = some (s 60 i j) := by unfold aI; rw [mu_at hE hi]; show (if _ then _ else _) = _; rw [if_pos ⟨rfl, ix_nI hj (by decide)⟩, nI_clamp (by omega)]
theorem rS_60 {E : ev} {s : st} {i : Nat} (hE : okE E) (hi : i < lc E 60) {j : Nat} (hj : j < 100) (v : Int32) : sI v (mu E s) (E.1 60 i) (nI j) = some (mu E (s3 s 60 i j v)) := by unfold sI; rw [mu_at hE hi]; show (if _ then _ else _) = _; rw [if_pos ⟨rfl, ix_nI hj (by decide)⟩, nI_clamp (by omega)]; exact congrArg some (mu_s3 hE hi rfl)
theorem rA_61 {E : ev} {s : st} {i : Nat} (hE : okE E) (hi : i < lc E 61) {j : Nat} (hj : j < 100) : aI (mu E s) (E.1 61 i) (nI j) = some (s 61 i j) := by unfold aI; rw [mu_at hE hi]; show (if _ then _ else _) = _; rw [if_pos ⟨rfl, ix_nI hj (by decide)⟩, nI_clamp (by omega)]
theorem rS_61 {E : ev} {s : st} {i : Nat} (hE : okE E) (hi : i < lc E 61) {j : Nat} (hj : j < 100) (v : Int32) : sI v (mu E s) (E.1 61 i) (nI j) = some (mu E (s3 s 61 i j v)) := by unfold sI; rw [mu_at hE hi]; show (if _ then _ else _) = _; rw [if_pos ⟨rfl, ix_nI hj (by decide)⟩, nI_clamp (by omega)]; exact congrArg some (mu_s3 hE hi rfl)
