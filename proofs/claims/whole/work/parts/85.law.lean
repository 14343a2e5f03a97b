theorem sc_at {L : Nat} {xs : Nat → Int32} {q : Nat} (h : q < L) (hL : L ≤ 2560) : sc L xs (nI q) = some (xs q) := by
  unfold sc
  rw [if_pos (ix_nI h (by omega)), nI_clamp (by omega)]
theorem add_n (a b : Nat) : nI a + nI b = nI (a + b) := nI_add a b
section LAW
variable {L : Nat} {xs : Nat → Int32} {X Y : Nat}
theorem kO1' {E E' : ev} {s : st} (hE' : okE E') (em : E'.1 30 0 = E.1 30 0) : kO 1 (mu E' s) (E.1 30 0) = some () := by rw [← em]; exact rO_30 hE' o1
set_option maxRecDepth 100000 in
set_option maxHeartbeats 4000000 in
theorem law_loop (hL : L ≤ 2560) : ∀ (k fu j : Nat) (E : ev) (s : st), k + j = 513 → k < fu → okE E → E.1 0 0 = X → E.1 30 0 = Y → Inv E s j → ∃ M', f_law_b18 L xs fu X Y (nI (5 * j)) (mu E s) = some (1, M') := by
  intro k
  induction k with
  | zero =>
    intro fu j E s h1 h2 hE hx hy hI
    obtain ⟨f, rfl⟩ : ∃ f, fu = f + 1 := ⟨fu - 1, by omega⟩
    refine ⟨mu E s, ?_⟩
    unfold f_law_b18
    rw [if_pos]
    rw [i_lt, show (Int32.ofNat L - 5).toInt = (L : Int) - 5 from pk_sub_toInt (a := L) (b := 5) (by omega) (by omega), nI_toInt (by omega)]
    omega
  | succ k ih =>
    intro fu j E s h1 h2 hE hx hy hI
    obtain ⟨f, rfl⟩ : ∃ f, fu = f + 1 := ⟨fu - 1, by omega⟩
    subst hx
    subst hy
    by_cases c : (Int32.ofNat L - 5) < nI (5 * j)
    · refine ⟨mu E s, ?_⟩
      unfold f_law_b18
      rw [if_pos c]
    have hj : 5 * j + 5 ≤ L := by
      rw [i_lt, show (Int32.ofNat L - 5).toInt = (L : Int) - 5 from pk_sub_toInt (a := L) (b := 5) (by omega) (by omega), nI_toInt (by omega)] at c
      omega
    have s0 : sc L xs (nI (5 * j)) = some (xs (5 * j)) := sc_at (by omega) hL
    have s1' : sc L xs (nI (5 * j) + 1) = some (xs (5 * j + 1)) := by rw [show nI (5 * j) + 1 = nI (5 * j + 1) from nI_add _ 1]; exact sc_at (by omega) hL
    have s2' : sc L xs (nI (5 * j) + 2) = some (xs (5 * j + 2)) := by rw [show nI (5 * j) + 2 = nI (5 * j + 2) from nI_add _ 2]; exact sc_at (by omega) hL
    have s3' : sc L xs (nI (5 * j) + 3) = some (xs (5 * j + 3)) := by rw [show nI (5 * j) + 3 = nI (5 * j + 3) from nI_add _ 3]; exact sc_at (by omega) hL
    have s4' : sc L xs (nI (5 * j) + 4) = some (xs (5 * j + 4)) := by rw [show nI (5 * j) + 4 = nI (5 * j + 4) from nI_add _ 4]; exact sc_at (by omega) hL
    have go : ∀ (E' : ev) (s2 : st), okE E' → E'.1 0 0 = E.1 0 0 → E'.1 30 0 = E.1 30 0 → Inv E' s2 (j + 1) → ∃ M', f_law_b18 L xs f (E.1 0 0) (E.1 30 0) (nI (5 * j) + 5) (mu E' s2) = some (1, M') := by
      intro E' s2 hE' ex em hI'
      rw [show nI (5 * j) + 5 = nI (5 * (j + 1)) from nI_add (5 * j) 5]
      exact ih f (j + 1) E' s2 (by omega) (by omega) hE' ex em hI'
    unfold f_law_b18
    rw [if_neg c, s0, Option.bind_some, s1', s2', s3', s4']
    generalize f_law_b18 L xs f = g at go ⊢
    by_cases c0 : (xs (5 * j) &&& 31) = 0
    · rw [if_pos c0]
      have key : ∀ v : Int32, (v = 0 ∨ v = 1) → (v = if xs (5 * j + 1) = 0 then 0 else 1) → ∃ M', f_law_b138 L xs g (E.1 0 0) (E.1 30 0) (nI (5 * j)) v (E.1 0 0) (mu E s) = some (1, M') := by
        intro v hv he
        obtain ⟨r, E', s1, s2, hE', ex, em, hX, hM, hI'⟩ := op_pack hE hI v hv
        obtain ⟨M', hM'⟩ := go E' s2 hE' ex em hI'
        refine ⟨M', ?_⟩
        unfold f_law_b138 f_law_b155
        simp only [Option.bind_some, rO_0 hE o1, hX, s1', s2']
        by_cases cz : xs (5 * j + 1) = 0
        · rw [if_pos cz] at he ⊢
          rw [he] at hM
          simp only [kO1' hE' em, Option.bind_some, hM, if_true]
          exact hM'
        · rw [if_neg cz] at he ⊢
          rw [he] at hM
          simp only [kO1' hE' em, Option.bind_some, hM, if_true]
          exact hM'
      simp only [Option.bind_some]
      by_cases cz : xs (5 * j + 1) = 0
      · rw [if_pos cz]
        exact key 0 (Or.inl rfl) (by rw [if_pos cz])
      · rw [if_neg cz]
        exact key 1 (Or.inr rfl) (by rw [if_neg cz])
    rw [if_neg c0]
    by_cases c1 : (xs (5 * j) &&& 31) = 1
    · rw [if_pos c1]
      obtain ⟨r, E', s1, s2, hE', ex, em, hX, hM, hI'⟩ := op_title hE hI (xs (5 * j + 1)) (xs (5 * j + 2))
      obtain ⟨M', hM'⟩ := go E' s2 hE' ex em hI'
      refine ⟨M', ?_⟩
      simp only [Option.bind_some, rO_0 hE o1, hX, kO1' hE' em, hM, if_true]
      exact hM'
    rw [if_neg c1]
    by_cases c2 : (xs (5 * j) &&& 31) = 2
    · rw [if_pos c2]
      obtain ⟨r, E', s1, s2, hE', ex, em, hX, hM, hI'⟩ := op_cover hE hI (xs (5 * j + 1)) (xs (5 * j + 2)) (xs (5 * j + 3))
      obtain ⟨M', hM'⟩ := go E' s2 hE' ex em hI'
      refine ⟨M', ?_⟩
      simp only [Option.bind_some, rO_0 hE o1, hX, kO1' hE' em, hM, if_true]
      exact hM'
    rw [if_neg c2]
    by_cases c3 : (xs (5 * j) &&& 31) = 3
    · rw [if_pos c3]
      obtain ⟨r, E', s1, s2, hE', ex, em, hX, hM, hI'⟩ := op_embargo hE hI (xs (5 * j + 1)) (xs (5 * j + 2)) (xs (5 * j + 3))
      obtain ⟨M', hM'⟩ := go E' s2 hE' ex em hI'
      refine ⟨M', ?_⟩
      simp only [Option.bind_some, rO_0 hE o1, hX, kO1' hE' em, hM, if_true]
      exact hM'
    rw [if_neg c3]
    by_cases c4 : (xs (5 * j) &&& 31) = 4
    · rw [if_pos c4]
      obtain ⟨r, E', s1, s2, hE', ex, em, hX, hM, hI'⟩ := op_rule hE hI (xs (5 * j + 1)) (xs (5 * j + 2)) (xs (5 * j + 3)) (xs (5 * j + 4))
      obtain ⟨M', hM'⟩ := go E' s2 hE' ex em hI'
      refine ⟨M', ?_⟩
      simp only [Option.bind_some, rO_0 hE o1, hX, kO1' hE' em, hM, if_true]
      exact hM'
    rw [if_neg c4]
    by_cases c5 : (xs (5 * j) &&& 31) = 5
    · rw [if_pos c5]
      have key : ∀ v : Int32, (v = 0 ∨ v = 1) → (v = if xs (5 * j + 2) = 0 then 0 else 1) → ∃ M', f_law_b354 L xs g (E.1 0 0) (E.1 30 0) (nI (5 * j)) v (xs (5 * j + 1)) (E.1 0 0) (mu E s) = some (1, M') := by
        intro v hv he
        obtain ⟨r, E', s1, s2, hE', ex, em, hX, hM, hI'⟩ := op_fails hE hI (xs (5 * j + 1)) v hv
        obtain ⟨M', hM'⟩ := go E' s2 hE' ex em hI'
        refine ⟨M', ?_⟩
        unfold f_law_b354 f_law_b376
        simp only [Option.bind_some, rO_0 hE o1, hX, s1', s2']
        by_cases cz : xs (5 * j + 2) = 0
        · rw [if_pos cz] at he ⊢
          rw [he] at hM
          simp only [kO1' hE' em, Option.bind_some, hM, if_true]
          exact hM'
        · rw [if_neg cz] at he ⊢
          rw [he] at hM
          simp only [kO1' hE' em, Option.bind_some, hM, if_true]
          exact hM'
      simp only [Option.bind_some]
      by_cases cz : xs (5 * j + 2) = 0
      · rw [if_pos cz]
        exact key 0 (Or.inl rfl) (by rw [if_pos cz])
      · rw [if_neg cz]
        exact key 1 (Or.inr rfl) (by rw [if_neg cz])
    rw [if_neg c5]
    by_cases c6 : (xs (5 * j) &&& 31) = 6
    · rw [if_pos c6]
      obtain ⟨r, E', s1, s2, hE', ex, em, hX, hM, hI'⟩ := op_reader hE hI (xs (5 * j + 1)) (xs (5 * j + 2))
      obtain ⟨M', hM'⟩ := go E' s2 hE' ex em hI'
      refine ⟨M', ?_⟩
      simp only [Option.bind_some, rO_0 hE o1, hX, kO1' hE' em, hM, if_true]
      exact hM'
    rw [if_neg c6]
    by_cases c7 : (xs (5 * j) &&& 31) = 7
    · rw [if_pos c7]
      obtain ⟨r, E', s1, s2, hE', ex, em, hX, hM, hI'⟩ := op_room hE hI (xs (5 * j + 1)) (xs (5 * j + 2))
      obtain ⟨M', hM'⟩ := go E' s2 hE' ex em hI'
      refine ⟨M', ?_⟩
      simp only [Option.bind_some, rO_0 hE o1, hX, kO1' hE' em, hM, if_true]
      exact hM'
    rw [if_neg c7]
    by_cases c8 : (xs (5 * j) &&& 31) = 8
    · rw [if_pos c8]
      obtain ⟨r, E', s1, s2, hE', ex, em, hX, hM, hI'⟩ := op_in hE hI (xs (5 * j + 1)) (xs (5 * j + 2))
      obtain ⟨M', hM'⟩ := go E' s2 hE' ex em hI'
      refine ⟨M', ?_⟩
      simp only [Option.bind_some, rO_0 hE o1, hX, kO1' hE' em, hM, if_true]
      exact hM'
    rw [if_neg c8]
    by_cases c9 : (xs (5 * j) &&& 31) = 9
    · rw [if_pos c9]
      obtain ⟨r, E', s1, s2, hE', ex, em, hX, hM, hI'⟩ := op_out hE hI (xs (5 * j + 1)) (xs (5 * j + 2))
      obtain ⟨M', hM'⟩ := go E' s2 hE' ex em hI'
      refine ⟨M', ?_⟩
      simp only [Option.bind_some, rO_0 hE o1, hX, kO1' hE' em, hM, if_true]
      exact hM'
    rw [if_neg c9]
    by_cases c10 : (xs (5 * j) &&& 31) = 10
    · rw [if_pos c10]
      obtain ⟨r, E', s1, s2, hE', ex, em, hX, hM, hI'⟩ := op_access hE hI (by omega) (xs (5 * j + 1)) (xs (5 * j + 2)) (xs (5 * j + 3)) (xs (5 * j + 4))
      obtain ⟨M', hM'⟩ := go E' s2 hE' ex em hI'
      refine ⟨M', ?_⟩
      simp only [Option.bind_some, rO_0 hE o1, hX, kO1' hE' em, hM, if_true]
      exact hM'
    rw [if_neg c10]
    by_cases c11 : (xs (5 * j) &&& 31) = 11
    · rw [if_pos c11]
      obtain ⟨r, E', s1, s2, hE', ex, em, hX, hM, hI'⟩ := op_failed hE hI 
      obtain ⟨M', hM'⟩ := go E' s2 hE' ex em hI'
      refine ⟨M', ?_⟩
      simp only [Option.bind_some, rO_0 hE o1, hX, kO1' hE' em, hM, if_true]
      exact hM'
    rw [if_neg c11]
    by_cases c12 : (xs (5 * j) &&& 31) = 12
    · rw [if_pos c12]
      obtain ⟨r, E', s1, s2, hE', ex, em, hX, hM, hI'⟩ := op_provider hE hI (xs (5 * j + 1)) (xs (5 * j + 2)) (xs (5 * j + 3))
      obtain ⟨M', hM'⟩ := go E' s2 hE' ex em hI'
      refine ⟨M', ?_⟩
      simp only [Option.bind_some, rO_0 hE o1, hX, kO1' hE' em, hM, if_true]
      exact hM'
    rw [if_neg c12]
    by_cases c13 : (xs (5 * j) &&& 31) = 13
    · rw [if_pos c13]
      obtain ⟨r, E', s1, s2, hE', ex, em, hX, hM, hI'⟩ := op_end hE hI (xs (5 * j + 1)) (xs (5 * j + 2))
      obtain ⟨M', hM'⟩ := go E' s2 hE' ex em hI'
      refine ⟨M', ?_⟩
      simp only [Option.bind_some, rO_0 hE o1, hX, kO1' hE' em, hM, if_true]
      exact hM'
    rw [if_neg c13]
    by_cases c14 : (xs (5 * j) &&& 31) = 14
    · rw [if_pos c14]
      obtain ⟨r, E', s1, s2, hE', ex, em, hX, hM, hI'⟩ := op_about hE hI (by omega) (xs (5 * j + 1)) (xs (5 * j + 2))
      obtain ⟨M', hM'⟩ := go E' s2 hE' ex em hI'
      refine ⟨M', ?_⟩
      simp only [Option.bind_some, rO_0 hE o1, hX, kO1' hE' em, hM, if_true]
      exact hM'
    rw [if_neg c14]
    by_cases c15 : (xs (5 * j) &&& 31) = 15
    · rw [if_pos c15]
      obtain ⟨r, E', s1, s2, hE', ex, em, hX, hM, hI'⟩ := op_gap hE hI (xs (5 * j + 1)) (xs (5 * j + 2)) (xs (5 * j + 3))
      obtain ⟨M', hM'⟩ := go E' s2 hE' ex em hI'
      refine ⟨M', ?_⟩
      simp only [Option.bind_some, rO_0 hE o1, hX, kO1' hE' em, hM, if_true]
      exact hM'
    rw [if_neg c15]
    by_cases c16 : (xs (5 * j) &&& 31) = 16
    · rw [if_pos c16]
      obtain ⟨r, E', s1, s2, hE', ex, em, hX, hM, hI'⟩ := op_usage hE hI (by omega) (xs (5 * j + 1)) (xs (5 * j + 2))
      obtain ⟨M', hM'⟩ := go E' s2 hE' ex em hI'
      refine ⟨M', ?_⟩
      simp only [Option.bind_some, rO_0 hE o1, hX, kO1' hE' em, hM, if_true]
      exact hM'
    rw [if_neg c16]
    by_cases c17 : (xs (5 * j) &&& 31) = 17
    · rw [if_pos c17]
      obtain ⟨r, E', s1, s2, hE', ex, em, hX, hM, hI'⟩ := op_told hE hI (xs (5 * j + 1)) (xs (5 * j + 2))
      obtain ⟨M', hM'⟩ := go E' s2 hE' ex em hI'
      refine ⟨M', ?_⟩
      simp only [Option.bind_some, rO_0 hE o1, hX, kO1' hE' em, hM, if_true]
      exact hM'
    rw [if_neg c17]
    by_cases c18 : (xs (5 * j) &&& 31) = 18
    · rw [if_pos c18]
      obtain ⟨r, E', s1, s2, hE', ex, em, hX, hM, hI'⟩ := op_who hE hI (xs (5 * j + 1)) (xs (5 * j + 2))
      obtain ⟨M', hM'⟩ := go E' s2 hE' ex em hI'
      refine ⟨M', ?_⟩
      simp only [Option.bind_some, rO_0 hE o1, hX, kO1' hE' em, hM, if_true]
      exact hM'
    rw [if_neg c18]
    exact go E s hE rfl rfl (Inv_mono hI (by omega))
end LAW
