/-! spans -/
theorem sp_sort {n : Nat} {f t F T : Nat → Int32} (h : SpOK n f t F T) : ∀ (d j : Nat), j + d + 1 < n → (t j).toInt + 1 < (f (j + d + 1)).toInt
  | 0, j, hj => h.2.1 j hj
  | d + 1, j, hj => by
    have h1 := sp_sort h d j (by omega)
    have h2 := h.2.1 (j + d + 1) (by omega)
    have h3 := h.1 (j + d + 1) (by omega)
    rw [show j + (d + 1) + 1 = j + d + 1 + 1 by omega]
    omega
theorem sp_lt {n : Nat} {f t F T : Nat → Int32} (h : SpOK n f t F T) {j k : Nat} (hjk : j < k) (hk : k < n) : (t j).toInt + 1 < (f k).toInt := by
  have h1 := sp_sort h (k - j - 1) j (by omega)
  rw [show j + (k - j - 1) + 1 = k by omega] at h1
  exact h1
theorem sp_tle {n : Nat} {f t F T : Nat → Int32} (h : SpOK n f t F T) {j k : Nat} (hjk : j ≤ k) (hk : k < n) : (t j).toInt ≤ (t k).toInt := by
  by_cases e : j = k
  · rw [e]; exact Int.le_refl _
  · have h1 := sp_lt h (show j < k by omega) hk
    have h2 := h.1 k hk
    omega
theorem sp_fle {n : Nat} {f t F T : Nat → Int32} (h : SpOK n f t F T) {j k : Nat} (hjk : j ≤ k) (hk : k < n) : (f j).toInt ≤ (f k).toInt := by
  by_cases e : j = k
  · rw [e]; exact Int.le_refl _
  · have h1 := sp_lt h (show j < k by omega) hk
    have h2 := h.1 j (by omega)
    omega
theorem sp_finj {n : Nat} {f t F T : Nat → Int32} (h : SpOK n f t F T) {j k : Nat} (hj : j < n) (hk : k < n) (e : f j = f k) : j = k := by
  have e' : (f j).toInt = (f k).toInt := by rw [e]
  by_cases h1 : j < k
  · have h2 := sp_lt h h1 hk
    have h3 := h.1 j hj
    omega
  · by_cases h4 : k < j
    · have h2 := sp_lt h h4 hj
      have h3 := h.1 k hk
      omega
    · omega
theorem sp_cg {n : Nat} {f t F T F' T' : Nat → Int32} (h : SpOK n f t F T) (he : ∀ k, k < n → F' k = F k ∧ T' k = T k) : SpOK n f t F' T' := by
  obtain ⟨h1, h2, h3, h4⟩ := h
  refine ⟨h1, h2, fun j hj => ?_, fun k hk => ?_⟩
  · obtain ⟨k, k1, k2, k3⟩ := h3 j hj
    exact ⟨k, k1, by rw [(he k k1).1]; exact k2, by rw [(he k k1).2]; exact k3⟩
  · obtain ⟨j, j1, j2, j3⟩ := h4 k hk
    exact ⟨j, j1, by rw [(he k hk).1]; exact j2, by rw [(he k hk).2]; exact j3⟩
/-- one of them passes a test -/
def an (g : Nat → Bool) : Nat → Nat → Int32
  | 0, _ => 0
  | k + 1, j => if g j = true then 1 else an g k (j + 1)
theorem an_spec {g : Nat → Bool} : ∀ (k j : Nat), (an g k j = 1 ∧ ∃ q, j ≤ q ∧ q < j + k ∧ g q = true) ∨ (an g k j = 0 ∧ ∀ q, j ≤ q → q < j + k → ¬ g q = true)
  | 0, j => Or.inr ⟨rfl, fun q h1 h2 => by omega⟩
  | k + 1, j => by
    unfold an
    by_cases h : g j = true
    · rw [if_pos h]
      exact Or.inl ⟨rfl, j, Nat.le_refl _, by omega, h⟩
    · rw [if_neg h]
      rcases an_spec (g := g) k (j + 1) with ⟨h1, q, h2, h3, h4⟩ | ⟨h1, h2⟩
      · exact Or.inl ⟨h1, q, by omega, by omega, h4⟩
      · refine Or.inr ⟨h1, fun q q1 q2 => ?_⟩
        by_cases e : q = j
        · rw [e]; exact h
        · exact h2 q (by omega) (by omega)
theorem an_eq {g g' : Nat → Bool} {k : Nat} (h1 : ∀ q, q < k → g q = true → ∃ p, p < k ∧ g' p = true) (h2 : ∀ q, q < k → g' q = true → ∃ p, p < k ∧ g p = true) : an g k 0 = an g' k 0 := by
  rcases an_spec (g := g) k 0 with ⟨a, q, b, c, d⟩ | ⟨a, b⟩ <;> rcases an_spec (g := g') k 0 with ⟨a', q', b', c', d'⟩ | ⟨a', b'⟩
  · rw [a, a']
  · obtain ⟨p, p1, p2⟩ := h1 q (by omega) d
    exact absurd p2 (b' p (by omega) (by omega))
  · obtain ⟨p, p1, p2⟩ := h2 q' (by omega) d'
    exact absurd p2 (b p (by omega) (by omega))
  · rw [a, a']
theorem an_01 (g : Nat → Bool) (k j : Nat) : an g k j = 0 ∨ an g k j = 1 := by
  rcases an_spec (g := g) k j with h | h
  · exact Or.inr h.1
  · exact Or.inl h.1
section SPX
variable {E : ev} {s : st} {i n : Nat} {x y : Int32}
theorem x_meets (hE : okE E) (hi : i < E.2.1.2.1) (hn : n ≤ 10) (hs : s 17 i 6 = nI n) : ∀ (k fu j : Nat), k < fu → j + k = n → f_Title_meets_b2 fu (E.1 17 i) x y (nI j) (mu E s) = some (an (fun q => !decide (s 19 i q + 1 < x) && !decide (y < s 18 i q - 1)) k j, mu E s) := by
  intro k
  induction k with
  | zero =>
    intro fu j h1 h2
    obtain ⟨f, rfl⟩ : ∃ f, fu = f + 1 := ⟨fu - 1, by omega⟩
    unfold f_Title_meets_b2
    rw [rI_17_6 hE hi, Option.bind_some, hs, if_pos (nI_le (by omega) (by omega))]; rfl
  | succ k ih =>
    intro fu j h1 h2
    obtain ⟨f, rfl⟩ : ∃ f, fu = f + 1 := ⟨fu - 1, by omega⟩
    unfold f_Title_meets_b2 an
    rw [rI_17_6 hE hi, Option.bind_some, hs, if_neg (nI_ge (by omega) (by omega)), rR_17_5 hE hi, Option.bind_some, rA_19 hE hi (by omega), Option.bind_some, nI_1, ih f (j + 1) (by omega) (by omega)]
    by_cases c1 : s 19 i j + 1 < x
    · rw [if_pos c1, if_neg (by simp [c1])]
    · rw [if_neg c1, rR_17_4 hE hi, Option.bind_some, rA_18 hE hi (by omega), Option.bind_some]
      by_cases c2 : y < s 18 i j - 1
      · rw [if_pos c2, if_neg (by simp [c2])]
      · rw [if_neg c2, if_pos (by simp [c1, c2])]; rfl
theorem x_covers (hE : okE E) (hi : i < E.2.1.2.1) (hn : n ≤ 10) (hs : s 17 i 6 = nI n) : ∀ (k fu j : Nat), k < fu → j + k = n → f_Title_covers_b2 fu (E.1 17 i) x (nI j) (mu E s) = some (an (fun q => !decide (x < s 18 i q) && !decide (s 19 i q < x)) k j, mu E s) := by
  intro k
  induction k with
  | zero =>
    intro fu j h1 h2
    obtain ⟨f, rfl⟩ : ∃ f, fu = f + 1 := ⟨fu - 1, by omega⟩
    unfold f_Title_covers_b2
    rw [rI_17_6 hE hi, Option.bind_some, hs, if_pos (nI_le (by omega) (by omega))]; rfl
  | succ k ih =>
    intro fu j h1 h2
    obtain ⟨f, rfl⟩ : ∃ f, fu = f + 1 := ⟨fu - 1, by omega⟩
    unfold f_Title_covers_b2 an
    rw [rI_17_6 hE hi, Option.bind_some, hs, if_neg (nI_ge (by omega) (by omega)), rR_17_4 hE hi, Option.bind_some, rA_18 hE hi (by omega), Option.bind_some, nI_1, ih f (j + 1) (by omega) (by omega)]
    by_cases c1 : x < s 18 i j
    · rw [if_pos c1, if_neg (by simp [c1])]
    · rw [if_neg c1, rR_17_5 hE hi, Option.bind_some, rA_19 hE hi (by omega), Option.bind_some]
      by_cases c2 : s 19 i j < x
      · rw [if_pos c2, if_neg (by simp [c2])]
      · rw [if_neg c2, if_pos (by simp [c1, c2])]; rfl
theorem x_lastDay (hE : okE E) (hi : i < E.2.1.2.1) (hn : n ≤ 10) (hs : s 17 i 6 = nI n) : f_Title_lastDay (E.1 17 i) (mu E s) = some (if n = 0 then -1 else s 19 i (n - 1), mu E s) := by
  unfold f_Title_lastDay
  rw [rI_17_6 hE hi, Option.bind_some, hs]
  by_cases h : n = 0
  · subst h
    rw [if_pos rfl, if_pos (show nI 0 = 0 from rfl)]
  · rw [if_neg (nI_ne0 (by omega) (by omega)), if_neg h, rR_17_5 hE hi, Option.bind_some, Option.bind_some, show (nI n - 1) = nI (n - 1) from pk_sub (b := 1) (by omega), rA_19 hE hi (by omega), Option.bind_some]
theorem x_firstDay (hE : okE E) (hi : i < E.2.1.2.1) (hn : n ≤ 10) (hs : s 17 i 6 = nI n) : f_Title_firstDay (E.1 17 i) (mu E s) = some (if n = 0 then -1 else s 18 i 0, mu E s) := by
  unfold f_Title_firstDay
  rw [rI_17_6 hE hi, Option.bind_some, hs]
  by_cases h : n = 0
  · subst h
    rw [if_pos rfl, if_pos (show nI 0 = 0 from rfl)]
  · rw [if_neg (nI_ne0 (by omega) (by omega)), if_neg h, rR_17_4 hE hi, Option.bind_some, show (0 : Int32) = nI 0 from rfl, rA_18 hE hi (by omega), Option.bind_some]
end SPX
/-- the Model's row of a title's spans -/
abbrev mF (s : st) (i : Nat) : Nat → Int32 := fun k => s 45 0 (10 * i + k)
abbrev mT (s : st) (i : Nat) : Nat → Int32 := fun k => s 46 0 (10 * i + k)
def mx (T : Nat → Int32) : Nat → Nat → Int32 → Int32
  | 0, _, b => b
  | k + 1, j, b => mx T k (j + 1) (if T j ≤ b then b else T j)
def mn (F : Nat → Int32) : Nat → Nat → Int32 → Int32
  | 0, _, b => b
  | k + 1, j, b => mn F k (j + 1) (if b < 0 then F j else if b ≤ F j then b else F j)
theorem mx_spec {T : Nat → Int32} : ∀ (k j : Nat) (b : Int32), b.toInt ≤ (mx T k j b).toInt ∧ (∀ q, j ≤ q → q < j + k → (T q).toInt ≤ (mx T k j b).toInt) ∧ (mx T k j b = b ∨ ∃ q, j ≤ q ∧ q < j + k ∧ mx T k j b = T q)
  | 0, j, b => ⟨Int.le_refl _, fun q h1 h2 => by omega, Or.inl rfl⟩
  | k + 1, j, b => by
    unfold mx
    obtain ⟨h1, h2, h3⟩ := mx_spec (T := T) k (j + 1) (if T j ≤ b then b else T j)
    have h0 : b.toInt ≤ (if T j ≤ b then b else T j).toInt ∧ (T j).toInt ≤ (if T j ≤ b then b else T j).toInt := by
      by_cases c : T j ≤ b
      · rw [if_pos c]; exact ⟨Int.le_refl _, i_le.mp c⟩
      · rw [if_neg c]
        have := i_lt.mp (Int32.not_le.mp c)
        exact ⟨by omega, Int.le_refl _⟩
    refine ⟨by omega, fun q q1 q2 => ?_, ?_⟩
    · by_cases e : q = j
      · rw [e]; omega
      · exact h2 q (by omega) (by omega)
    · rcases h3 with h3 | ⟨q, q1, q2, q3⟩
      · by_cases c : T j ≤ b
        · rw [if_pos c] at h3 ⊢; exact Or.inl h3
        · rw [if_neg c] at h3 ⊢; exact Or.inr ⟨j, Nat.le_refl _, by omega, h3⟩
      · exact Or.inr ⟨q, by omega, by omega, q3⟩
theorem mn_spec {F : Nat → Int32} : ∀ (k j : Nat) (b : Int32), (∀ q, j ≤ q → q < j + k → 0 ≤ (F q).toInt) → 0 ≤ b.toInt → 0 ≤ (mn F k j b).toInt ∧ (mn F k j b).toInt ≤ b.toInt ∧ (∀ q, j ≤ q → q < j + k → (mn F k j b).toInt ≤ (F q).toInt) ∧ (mn F k j b = b ∨ ∃ q, j ≤ q ∧ q < j + k ∧ mn F k j b = F q)
  | 0, j, b, _, hb => ⟨hb, Int.le_refl _, fun q h1 h2 => by omega, Or.inl rfl⟩
  | k + 1, j, b, hF, hb => by
    unfold mn
    have hF0 := hF j (Nat.le_refl _) (by omega)
    have hnb : ¬ b < 0 := by rw [i_lt, show (0 : Int32).toInt = 0 by decide]; omega
    rw [if_neg hnb]
    have h0 : 0 ≤ (if b ≤ F j then b else F j).toInt ∧ (if b ≤ F j then b else F j).toInt ≤ b.toInt ∧ (if b ≤ F j then b else F j).toInt ≤ (F j).toInt := by
      by_cases c : b ≤ F j
      · rw [if_pos c]; exact ⟨hb, Int.le_refl _, i_le.mp c⟩
      · rw [if_neg c]
        have := i_lt.mp (Int32.not_le.mp c)
        exact ⟨hF0, by omega, Int.le_refl _⟩
    obtain ⟨h1, h2, h3, h4⟩ := mn_spec (F := F) k (j + 1) (if b ≤ F j then b else F j) (fun q q1 q2 => hF q (by omega) (by omega)) h0.1
    refine ⟨h1, by omega, fun q q1 q2 => ?_, ?_⟩
    · by_cases e : q = j
      · rw [e]; omega
      · exact h3 q (by omega) (by omega)
    · rcases h4 with h4 | ⟨q, q1, q2, q3⟩
      · by_cases c : b ≤ F j
        · rw [if_pos c] at h4 ⊢; exact Or.inl h4
        · rw [if_neg c] at h4 ⊢; exact Or.inr ⟨j, Nat.le_refl _, by omega, h4⟩
      · exact Or.inr ⟨q, by omega, by omega, q3⟩
section SPM
variable {E : ev} {s : st} {i n : Nat} {x y : Int32}
theorem m_boundL (hE : okE E) (hi : i < 200) (hn : n ≤ 10) (hs : s 44 0 i = nI n) : ∀ (k fu j : Nat) (b : Int32), k < fu → j + k = n → f_Mo_bound_b8 fu (E.1 30 0) (nI i) 1 b (nI (10 * i + j)) (mu E s) = some (mx (mT s i) k j b, mu E s) := by
  intro k
  induction k with
  | zero =>
    intro fu j b h1 h2
    obtain ⟨f, rfl⟩ : ∃ f, fu = f + 1 := ⟨fu - 1, by omega⟩
    unfold f_Mo_bound_b8
    rw [rR_30_14 hE o1, Option.bind_some, rA_44 hE o1 hi, Option.bind_some, hs, m10, if_pos (nI_le (by omega) (by omega))]; rfl
  | succ k ih =>
    intro fu j b h1 h2
    obtain ⟨f, rfl⟩ : ∃ f, fu = f + 1 := ⟨fu - 1, by omega⟩
    unfold f_Mo_bound_b8 f_Mo_bound_b50 mx
    rw [rR_30_14 hE o1, Option.bind_some, rA_44 hE o1 hi, Option.bind_some, hs, m10, if_neg (nI_ge (by omega) (by omega)), if_neg (show ¬ (1 : Int32) = 0 by decide), rR_30_16 hE o1, Option.bind_some, rA_46 hE o1 (by omega), Option.bind_some, nI_1, show 10 * i + j + 1 = 10 * i + (j + 1) by omega]
    by_cases c : s 46 0 (10 * i + j) ≤ b
    · rw [if_pos c, if_pos c, ih f (j + 1) _ (by omega) (by omega)]
    · rw [if_neg c, if_neg c, Option.bind_some, rA_46 hE o1 (by omega), Option.bind_some, ih f (j + 1) _ (by omega) (by omega)]
theorem m_boundF (hE : okE E) (hi : i < 200) (hn : n ≤ 10) (hs : s 44 0 i = nI n) : ∀ (k fu j : Nat) (b : Int32), k < fu → j + k = n → f_Mo_bound_b8 fu (E.1 30 0) (nI i) 0 b (nI (10 * i + j)) (mu E s) = some (mn (mF s i) k j b, mu E s) := by
  intro k
  induction k with
  | zero =>
    intro fu j b h1 h2
    obtain ⟨f, rfl⟩ : ∃ f, fu = f + 1 := ⟨fu - 1, by omega⟩
    unfold f_Mo_bound_b8
    rw [rR_30_14 hE o1, Option.bind_some, rA_44 hE o1 hi, Option.bind_some, hs, m10, if_pos (nI_le (by omega) (by omega))]; rfl
  | succ k ih =>
    intro fu j b h1 h2
    obtain ⟨f, rfl⟩ : ∃ f, fu = f + 1 := ⟨fu - 1, by omega⟩
    unfold f_Mo_bound_b8 f_Mo_bound_b69 f_Mo_bound_b80 mn
    rw [rR_30_14 hE o1, Option.bind_some, rA_44 hE o1 hi, Option.bind_some, hs, m10, if_neg (nI_ge (by omega) (by omega)), if_pos rfl, rR_30_15 hE o1, Option.bind_some, rA_45 hE o1 (by omega), Option.bind_some, nI_1, show 10 * i + j + 1 = 10 * i + (j + 1) by omega]
    by_cases c : b < 0
    · rw [if_pos c, if_pos c, ih f (j + 1) _ (by omega) (by omega)]
    · rw [if_neg c, if_neg c, Option.bind_some, rA_45 hE o1 (by omega), Option.bind_some]
      by_cases c2 : b ≤ s 45 0 (10 * i + j)
      · rw [if_pos c2, if_pos c2, ih f (j + 1) _ (by omega) (by omega)]
      · rw [if_neg c2, if_neg c2, ih f (j + 1) _ (by omega) (by omega)]
theorem m_covers (hE : okE E) (hi : i < 200) (hn : n ≤ 10) (hs : s 44 0 i = nI n) : ∀ (k fu j : Nat) (b : Int32), (b = 0 ∨ b = 1) → k < fu → j + k = n → f_Mo_covers_b8 fu (E.1 30 0) (nI i) x b (nI (10 * i + j)) (mu E s) = some (if b = 1 then 1 else an (fun q => !decide (x < mF s i q) && !decide (mT s i q < x)) k j, mu E s) := by
  intro k
  induction k with
  | zero =>
    intro fu j b hb h1 h2
    obtain ⟨f, rfl⟩ : ∃ f, fu = f + 1 := ⟨fu - 1, by omega⟩
    unfold f_Mo_covers_b8
    rw [rR_30_14 hE o1, Option.bind_some, rA_44 hE o1 hi, Option.bind_some, hs, m10, if_pos (nI_le (by omega) (by omega))]
    rcases hb with rfl | rfl <;> rfl
  | succ k ih =>
    intro fu j b hb h1 h2
    obtain ⟨f, rfl⟩ : ∃ f, fu = f + 1 := ⟨fu - 1, by omega⟩
    unfold f_Mo_covers_b8 f_Mo_covers_b49 f_Mo_covers_b54 an
    rw [rR_30_14 hE o1, Option.bind_some, rA_44 hE o1 hi, Option.bind_some, hs, m10, if_neg (nI_ge (by omega) (by omega)), nI_1, show 10 * i + j + 1 = 10 * i + (j + 1) by omega]
    rcases hb with rfl | rfl
    · rw [if_pos rfl, rR_30_15 hE o1, Option.bind_some, rA_45 hE o1 (by omega), Option.bind_some, rR_30_16 hE o1, Option.bind_some, rA_46 hE o1 (by omega), Option.bind_some, in1_eq]
      by_cases c : x < s 45 0 (10 * i + j) ∨ s 46 0 (10 * i + j) < x
      · rw [if_pos c, if_neg (show ¬ (0 : Int32) = 1 by decide)]
        show f_Mo_covers_b8 f _ _ _ 0 _ _ = _
        rw [ih f (j + 1) 0 (Or.inl rfl) (by omega) (by omega), if_neg (show ¬ (0 : Int32) = 1 by decide), if_neg]
        show ¬ (!decide (x < s 45 0 (10 * i + j)) && !decide (s 46 0 (10 * i + j) < x)) = true
        rcases c with c | c <;> simp [c]
      · rw [if_neg c, if_neg (show ¬ (0 : Int32) = 1 by decide)]
        show f_Mo_covers_b8 f _ _ _ 1 _ _ = _
        rw [ih f (j + 1) 1 (Or.inr rfl) (by omega) (by omega), if_pos rfl, if_pos]
        show (!decide (x < s 45 0 (10 * i + j)) && !decide (s 46 0 (10 * i + j) < x)) = true
        have c1 : ¬ x < s 45 0 (10 * i + j) := fun h => c (Or.inl h)
        have c2 : ¬ s 46 0 (10 * i + j) < x := fun h => c (Or.inr h)
        simp [c1, c2]
    · rw [if_neg (show ¬ (1 : Int32) = 0 by decide), if_pos rfl, ih f (j + 1) 1 (Or.inr rfl) (by omega) (by omega), if_pos rfl]
end SPM
