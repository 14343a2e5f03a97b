/-! WHAT HOLDS BETWEEN CALLS: the class's rows and the Model's say the same -/
def iCn (E : ev) (x m : Nat → Int32) : Prop := E.2.1.1 ≤ 20 ∧ E.2.1.2.1 ≤ 200 ∧ E.2.1.2.2 ≤ 100 ∧ x 1 = nI E.2.1.1 ∧ m 1 = nI E.2.1.1 ∧ x 3 = nI E.2.1.2.1 ∧ m 9 = nI E.2.1.2.1 ∧ x 5 = nI E.2.1.2.2 ∧ m 17 = nI E.2.1.2.2 ∧ x 9 = m 23
def iPk (np : Nat) (p : Nat → Nat → Int32) (m32 m33 m34 : Nat → Int32) : Prop := ∀ i, i < np → p i 0 = nI i ∧ p i 1 = m32 i ∧ (m32 i = 0 ∨ m32 i = 1) ∧ p i 4 = m33 i ∧ (∃ c, c ≤ 100 ∧ m33 i = nI c) ∧ p i 5 = m34 i ∧ (m34 i = -1 ∨ 0 ≤ m34 i)
def iLn (np : Nat) (l a : Nat → Nat → Int32) (mc ma : Nat → Int32) : Prop := (∀ i, i < np → ∃ n, n ≤ 100 ∧ l i 1 = nI n ∧ mc i = nI n ∧ (∀ j, j < n → a i j = ma (100 * i + j) ∧ ∃ r, r < 100 ∧ a i j = nI r) ∧ ∀ j j', j < n → j' < n → a i j = a i j' → j = j') ∧ ∀ i, np ≤ i → i < 20 → mc i = 0
def iDj (np : Nat) (l a l' a' : Nat → Nat → Int32) : Prop := ∀ i, i < np → ∀ n n', l i 1 = nI n → l' i 1 = nI n' → n ≤ 100 → n' ≤ 100 → ∀ j j', j < n → j' < n' → a i j ≠ a' i j'
def iTi (np nt : Nat) (t : Nat → Nat → Int32) (m40 m41 m42 m43 : Nat → Int32) : Prop := (∀ i, i < nt → (∃ h, h < np ∧ t i 0 = nI h ∧ m40 i = nI h) ∧ t i 1 = m41 i ∧ ((t i 2 = 1 ∧ m42 i = 0) ∨ (t i 2 = 0 ∧ m42 i = 1)) ∧ t i 3 = m43 i) ∧ ∀ i, nt ≤ i → i < 200 → m42 i = 0 ∧ m43 i = 0
def SpOK (n : Nat) (f t F T : Nat → Int32) : Prop := (∀ j, j < n → 0 ≤ (f j).toInt ∧ (f j).toInt ≤ (t j).toInt ∧ (t j).toInt ≤ 200000) ∧ (∀ j, j + 1 < n → (t j).toInt + 1 < (f (j + 1)).toInt) ∧ (∀ j, j < n → ∃ k, k < n ∧ f j = F k ∧ t j = T k) ∧ ∀ k, k < n → ∃ j, j < n ∧ f j = F k ∧ t j = T k
def iSp (nt : Nat) (t f18 t19 : Nat → Nat → Int32) (m44 m45 m46 : Nat → Int32) : Prop := (∀ i, i < nt → ∃ n, n ≤ 10 ∧ t i 6 = nI n ∧ m44 i = nI n ∧ SpOK n (f18 i) (t19 i) (fun k => m45 (10 * i + k)) (fun k => m46 (10 * i + k))) ∧ ∀ i, nt ≤ i → i < 200 → m44 i = 0
def iRu (nr : Nat) (r : Nat → Nat → Int32) (m48 m49 m50 m51 m52 : Nat → Int32) : Prop := (∀ i, i < nr → r i 0 = m48 i ∧ r i 1 = m49 i ∧ r i 2 = m50 i ∧ r i 3 = m51 i ∧ r i 4 = m52 i ∧ (m52 i = 0 ∨ m52 i = 1) ∧ (m49 i = 0 ∨ m49 i = 1 ∨ m49 i = 2 ∨ m49 i = 3)) ∧ ∀ i, nr ≤ i → i < 100 → m52 i = 0
def iRd (c m54 : Nat → Int32) : Prop := ∀ j, j < 100 → c j = m54 j
def iUs (n : Nat) (u5 m a6 a7 a8 m56 m57 m58 : Nat → Int32) : Prop := ∃ u, u ≤ n ∧ u5 3 = nI u ∧ m 25 = nI u ∧ ∀ j, j < u → a6 j = m56 j ∧ a7 j = m57 j ∧ a8 j = m58 j
def iNo (o9 m a10 a11 m60 m61 : Nat → Int32) : Prop := ∃ k, k ≤ 100 ∧ o9 2 = nI k ∧ m 29 = nI k ∧ ∀ j, j < k → a10 j = m60 j ∧ a11 j = m61 j
def Inv (E : ev) (s : st) (n : Nat) : Prop := iCn E (s 0 0) (s 30 0) ∧ iPk E.2.1.1 (s 12) (s 32 0) (s 33 0) (s 34 0) ∧ iLn E.2.1.1 (s 13) (s 15) (s 35 0) (s 36 0) ∧ iLn E.2.1.1 (s 14) (s 16) (s 37 0) (s 38 0) ∧ iDj E.2.1.1 (s 13) (s 15) (s 14) (s 16) ∧ iTi E.2.1.1 E.2.1.2.1 (s 17) (s 40 0) (s 41 0) (s 42 0) (s 43 0) ∧ iSp E.2.1.2.1 (s 17) (s 18) (s 19) (s 44 0) (s 45 0) (s 46 0) ∧ iRu E.2.1.2.2 (s 20) (s 48 0) (s 49 0) (s 50 0) (s 51 0) (s 52 0) ∧ iRd (s 4 0) (s 54 0) ∧ iUs n (s 5 0) (s 30 0) (s 6 0) (s 7 0) (s 8 0) (s 56 0) (s 57 0) (s 58 0) ∧ iNo (s 9 0) (s 30 0) (s 10 0) (s 11 0) (s 60 0) (s 61 0)
/-- one call of the law: both answer the same, and it holds again -/
def OpOK (E : ev) (s : st) (n : Nat) (fX fM : mm → Option (Int32 × mm)) : Prop := ∃ (r : Int32) (E' : ev) (s1 s2 : st), okE E' ∧ E'.1 0 0 = E.1 0 0 ∧ E'.1 30 0 = E.1 30 0 ∧ fX (mu E s) = some (r, mu E' s1) ∧ fM (mu E' s1) = some (r, mu E' s2) ∧ Inv E' s2 (n + 1)
theorem s3_k {s : st} {k i j : Nat} {v : Int32} {a : Nat} (h : a ≠ k) : s3 s k i j v a = s a := by
  funext b
  exact s3_ne (fun q => h q.1)
theorem s3_b {s : st} {k i j : Nat} {v : Int32} {b : Nat} (h : b ≠ i) : s3 s k i j v k b = s k b := s3_ne (fun q => h q.2)
theorem o1 : 0 < 1 := Nat.one_pos
theorem kB0 : kB 0 = some () := rfl
theorem kB1 : kB 1 = some () := rfl
theorem iUs_mono {n n' : Nat} {u5 m a6 a7 a8 m56 m57 m58 : Nat → Int32} (h : iUs n u5 m a6 a7 a8 m56 m57 m58) (hn : n ≤ n') : iUs n' u5 m a6 a7 a8 m56 m57 m58 := by
  obtain ⟨u, h1, h2⟩ := h
  exact ⟨u, Nat.le_trans h1 hn, h2⟩
theorem Inv_mono {E : ev} {s : st} {n n' : Nat} (h : Inv E s n) (hn : n ≤ n') : Inv E s n' := by
  obtain ⟨a, b, c, d, e, f, g, i, j, k, l⟩ := h
  exact ⟨a, b, c, d, e, f, g, i, j, iUs_mono k hn, l⟩
/-- the Model's own mark, which nothing reads -/
theorem Inv_thr {E : ev} {s : st} {n : Nat} (h : Inv E s n) : Inv E (s3 s 30 0 0 0) n := by
  obtain ⟨a, b, c, d, e, f, g, i, j, k, l⟩ := h
  unfold Inv
  simp only [s3_k (show (0 : Nat) ≠ 30 by decide), s3_k (show (12 : Nat) ≠ 30 by decide), s3_k (show (13 : Nat) ≠ 30 by decide), s3_k (show (14 : Nat) ≠ 30 by decide), s3_k (show (15 : Nat) ≠ 30 by decide), s3_k (show (16 : Nat) ≠ 30 by decide), s3_k (show (17 : Nat) ≠ 30 by decide), s3_k (show (18 : Nat) ≠ 30 by decide), s3_k (show (19 : Nat) ≠ 30 by decide), s3_k (show (20 : Nat) ≠ 30 by decide), s3_k (show (4 : Nat) ≠ 30 by decide), s3_k (show (5 : Nat) ≠ 30 by decide), s3_k (show (6 : Nat) ≠ 30 by decide), s3_k (show (7 : Nat) ≠ 30 by decide), s3_k (show (8 : Nat) ≠ 30 by decide), s3_k (show (9 : Nat) ≠ 30 by decide), s3_k (show (10 : Nat) ≠ 30 by decide), s3_k (show (11 : Nat) ≠ 30 by decide), s3_k (show (32 : Nat) ≠ 30 by decide), s3_k (show (33 : Nat) ≠ 30 by decide), s3_k (show (34 : Nat) ≠ 30 by decide), s3_k (show (35 : Nat) ≠ 30 by decide), s3_k (show (36 : Nat) ≠ 30 by decide), s3_k (show (37 : Nat) ≠ 30 by decide), s3_k (show (38 : Nat) ≠ 30 by decide), s3_k (show (40 : Nat) ≠ 30 by decide), s3_k (show (41 : Nat) ≠ 30 by decide), s3_k (show (42 : Nat) ≠ 30 by decide), s3_k (show (43 : Nat) ≠ 30 by decide), s3_k (show (44 : Nat) ≠ 30 by decide), s3_k (show (45 : Nat) ≠ 30 by decide), s3_k (show (46 : Nat) ≠ 30 by decide), s3_k (show (48 : Nat) ≠ 30 by decide), s3_k (show (49 : Nat) ≠ 30 by decide), s3_k (show (50 : Nat) ≠ 30 by decide), s3_k (show (51 : Nat) ≠ 30 by decide), s3_k (show (52 : Nat) ≠ 30 by decide), s3_k (show (54 : Nat) ≠ 30 by decide), s3_k (show (56 : Nat) ≠ 30 by decide), s3_k (show (57 : Nat) ≠ 30 by decide), s3_k (show (58 : Nat) ≠ 30 by decide), s3_k (show (60 : Nat) ≠ 30 by decide), s3_k (show (61 : Nat) ≠ 30 by decide)]
  rw [s3_at]
  exact ⟨a, b, c, d, e, f, g, i, j, k, l⟩
/-! Numbers -/
theorem i_lt {x y : Int32} : x < y ↔ x.toInt < y.toInt := Int32.lt_iff_toInt_lt
theorem i_le {x y : Int32} : x ≤ y ↔ x.toInt ≤ y.toInt := Int32.le_iff_toInt_le
theorem i_eq {x y : Int32} : x = y ↔ x.toInt = y.toInt := Int32.toInt_inj.symm
theorem nm1 {n : Nat} (h : n ≤ 1000) : (nI n - 1).toInt = (n : Int) - 1 := by
  have h1 := pk_sub_toInt (a := n) (b := 1) (by omega) (by omega)
  exact h1
theorem in1_eq (v lo hi : Int32) (M : mm) : f_Mo_in1 v lo hi M = some (if v < lo ∨ hi < v then 0 else 1, M) := by
  unfold f_Mo_in1
  by_cases h1 : v < lo
  · rw [if_pos h1, if_pos (Or.inl h1)]; rfl
  · rw [if_neg h1]
    by_cases h2 : hi < v
    · rw [if_pos h2, if_pos (Or.inr h2)]; rfl
    · rw [if_neg h2, if_neg (fun h => h.elim h1 h2)]; rfl
theorem kB_if (c : Prop) [Decidable c] : kB (if c then 0 else 1) = some () := by
  split <;> rfl
theorem mday_eq (v : Int32) (M : mm) : f_Mo_isDay v M = some (if v < 0 ∨ 200000 < v then 0 else 1, M) := by
  unfold f_Mo_isDay
  rw [in1_eq]
  show (kB (if v < 0 ∨ 200000 < v then 0 else 1)).bind _ = _
  rw [kB_if]; rfl
theorem xday_eq (v : Int32) (M : mm) : f_X_isDay v M = some (if v < 0 ∨ 200000 < v then 0 else 1, M) := by
  unfold f_X_isDay
  by_cases h1 : v < 0
  · rw [if_pos h1, if_pos (Or.inl h1)]; rfl
  · rw [if_neg h1]
    by_cases h2 : 200000 < v
    · rw [if_pos h2, if_pos (Or.inr h2)]; rfl
    · rw [if_neg h2, if_neg (fun h => h.elim h1 h2)]; rfl
theorem xrd_eq (v : Int32) (M : mm) : f_X_isReader v M = some (if v < 0 ∨ 99 < v then 0 else 1, M) := by
  have h99 : (100 ≤ v) ↔ (99 < v) := by
    rw [i_le, i_lt, show (100 : Int32).toInt = 100 by decide, show (99 : Int32).toInt = 99 by decide]; omega
  unfold f_X_isReader
  by_cases h1 : v < 0
  · rw [if_pos h1, if_pos (Or.inl h1)]; rfl
  · rw [if_neg h1]
    by_cases h2 : 99 < v
    · rw [if_pos (h99.mpr h2), if_pos (Or.inr h2)]; rfl
    · rw [if_neg (fun h => h2 (h99.mp h)), if_neg (fun h => h.elim h1 h2)]; rfl
/-- a number that is none of the n, or one of them -/
theorem ix_cases (x : Int32) {n : Nat} (hn : n ≤ 1000) : (x < 0 ∨ nI n - 1 < x) ∨ ∃ j, j < n ∧ x = nI j := by
  rcases pk_ix x (n := n) (by omega) with h | h | h
  · exact Or.inl (Or.inl h)
  · refine Or.inl (Or.inr ?_)
    rw [i_lt, nm1 hn]
    rw [i_le, nI_toInt (by omega)] at h
    omega
  · exact Or.inr h
theorem ix_no {n j : Nat} (hn : n ≤ 1000) (h : j < n) : ¬ (nI j < 0 ∨ nI n - 1 < nI j) := by
  rw [i_lt, i_lt, nm1 hn, nI_toInt (by omega), show (0 : Int32).toInt = 0 by decide]
  omega
theorem ix_nl {n : Nat} {x : Int32} (hn : n ≤ 1000) (h : x < 0 ∨ nI n - 1 < x) (h0 : ¬ x < 0) : ¬ x < nI n := by
  rcases h with h | h
  · exact absurd h h0
  · rw [i_lt, nm1 hn] at h
    rw [i_lt, nI_toInt (by omega)]
    omega
theorem ix_l {n j : Nat} (hn : n ≤ 1000) (h : j < n) : ¬ nI j < 0 ∧ nI j < nI n := ⟨nI_pos (by omega), nI_lt h (by omega)⟩
section FND
variable {E : ev} {s : st} {v : Int32} {j : Nat}
theorem fp_no (hE : okE E) (hc : s 0 0 1 = nI E.2.1.1) (hn : E.2.1.1 ≤ 20) (h : v < 0 ∨ nI E.2.1.1 - 1 < v) : f_X_findPack (E.1 0 0) v (mu E s) = some (none, mu E s) := by
  unfold f_X_findPack
  by_cases h0 : v < 0
  · rw [if_pos h0]
  · rw [if_neg h0, rI_0_1 hE o1, Option.bind_some, hc, if_neg (ix_nl (by omega) h h0)]
theorem fp_yes (hE : okE E) (hc : s 0 0 1 = nI E.2.1.1) (hn : E.2.1.1 ≤ 20) (h : j < E.2.1.1) : f_X_findPack (E.1 0 0) (nI j) (mu E s) = some (some (E.1 12 j), mu E s) := by
  unfold f_X_findPack
  rw [if_neg (ix_l (by omega) h).1, rI_0_1 hE o1, Option.bind_some, hc, if_pos (ix_l (by omega) h).2, rR_0_0 hE o1, Option.bind_some, rQ_1 hE o1 h (by omega), Option.bind_some]
theorem ft_no (hE : okE E) (hc : s 0 0 3 = nI E.2.1.2.1) (hn : E.2.1.2.1 ≤ 200) (h : v < 0 ∨ nI E.2.1.2.1 - 1 < v) : f_X_findTitle (E.1 0 0) v (mu E s) = some (none, mu E s) := by
  unfold f_X_findTitle
  by_cases h0 : v < 0
  · rw [if_pos h0]
  · rw [if_neg h0, rI_0_3 hE o1, Option.bind_some, hc, if_neg (ix_nl (by omega) h h0)]
theorem ft_yes (hE : okE E) (hc : s 0 0 3 = nI E.2.1.2.1) (hn : E.2.1.2.1 ≤ 200) (h : j < E.2.1.2.1) : f_X_findTitle (E.1 0 0) (nI j) (mu E s) = some (some (E.1 17 j), mu E s) := by
  unfold f_X_findTitle
  rw [if_neg (ix_l (by omega) h).1, rI_0_3 hE o1, Option.bind_some, hc, if_pos (ix_l (by omega) h).2, rR_0_2 hE o1, Option.bind_some, rQ_2 hE o1 h (by omega), Option.bind_some]
theorem fr_no (hE : okE E) (hc : s 0 0 5 = nI E.2.1.2.2) (hn : E.2.1.2.2 ≤ 100) (h : v < 0 ∨ nI E.2.1.2.2 - 1 < v) : f_X_findRule (E.1 0 0) v (mu E s) = some (none, mu E s) := by
  unfold f_X_findRule
  by_cases h0 : v < 0
  · rw [if_pos h0]
  · rw [if_neg h0, rI_0_5 hE o1, Option.bind_some, hc, if_neg (ix_nl (by omega) h h0)]
theorem fr_yes (hE : okE E) (hc : s 0 0 5 = nI E.2.1.2.2) (hn : E.2.1.2.2 ≤ 100) (h : j < E.2.1.2.2) : f_X_findRule (E.1 0 0) (nI j) (mu E s) = some (some (E.1 20 j), mu E s) := by
  unfold f_X_findRule
  rw [if_neg (ix_l (by omega) h).1, rI_0_5 hE o1, Option.bind_some, hc, if_pos (ix_l (by omega) h).2, rR_0_4 hE o1, Option.bind_some, rQ_3 hE o1 h (by omega), Option.bind_some]
theorem ip_eq (hE : okE E) (hc : s 30 0 1 = nI E.2.1.1) : f_Mo_isPack (E.1 30 0) v (mu E s) = some (if v < 0 ∨ nI E.2.1.1 - 1 < v then 0 else 1, mu E s) := by
  unfold f_Mo_isPack
  rw [rI_30_1 hE o1, Option.bind_some, hc, in1_eq]
  show (kB (if v < 0 ∨ nI E.2.1.1 - 1 < v then 0 else 1)).bind _ = _
  rw [kB_if]; rfl
theorem it_eq (hE : okE E) (hc : s 30 0 9 = nI E.2.1.2.1) : f_Mo_isTitle (E.1 30 0) v (mu E s) = some (if v < 0 ∨ nI E.2.1.2.1 - 1 < v then 0 else 1, mu E s) := by
  unfold f_Mo_isTitle
  rw [rI_30_9 hE o1, Option.bind_some, hc, in1_eq]
  show (kB (if v < 0 ∨ nI E.2.1.2.1 - 1 < v then 0 else 1)).bind _ = _
  rw [kB_if]; rfl
end FND
