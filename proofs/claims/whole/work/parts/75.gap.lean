/-- the next span by the day: the Model's search -/
def nx (F : Nat → Int32) (d : Int32) : Nat → Nat → Option Nat → Option Nat
  | 0, _, b => b
  | k + 1, j, b => nx F d k (j + 1) (if F j ≤ d then b else match b with
    | none => some j
    | some q => if F q ≤ F j then some q else some j)
def nxI (i : Nat) (o : Option Nat) : Int32 := match o with
  | none => -1
  | some q => nI (10 * i + q)
theorem nx_spec {F : Nat → Int32} {d : Int32} : ∀ (k j : Nat) (b : Option Nat), (∀ q, b = some q → d < F q ∧ q < j) → (nx F d k j b = none ∧ b = none ∧ ∀ q, j ≤ q → q < j + k → F q ≤ d) ∨ ∃ r, nx F d k j b = some r ∧ r < j + k ∧ d < F r ∧ (∀ q, b = some q → F r ≤ F q) ∧ ∀ q, j ≤ q → q < j + k → d < F q → F r ≤ F q
  | 0, j, none, _ => Or.inl ⟨rfl, rfl, fun q h1 h2 => by omega⟩
  | 0, j, some q, h => Or.inr ⟨q, rfl, (h q rfl).2, (h q rfl).1, fun q' e => by cases e; exact Int32.le_refl _, fun q' h1 h2 => by omega⟩
  | k + 1, j, b, h => by
    unfold nx
    by_cases c : F j ≤ d
    · rw [if_pos c]
      rcases nx_spec (F := F) (d := d) k (j + 1) b (fun q e => ⟨(h q e).1, by have := (h q e).2; omega⟩) with ⟨h1, h2, h3⟩ | ⟨r, r1, r2, r3, r4, r5⟩
      · refine Or.inl ⟨h1, h2, fun q q1 q2 => ?_⟩
        by_cases e : q = j
        · rw [e]; exact c
        · exact h3 q (by omega) (by omega)
      · refine Or.inr ⟨r, r1, by omega, r3, r4, fun q q1 q2 q3 => ?_⟩
        by_cases e : q = j
        · rw [e] at q3
          exact absurd q3 (Int32.not_lt.mpr c)
        · exact r5 q (by omega) (by omega) q3
    · rw [if_neg c]
      have c' := Int32.not_le.mp c
      cases b with
      | none =>
        rcases nx_spec (F := F) (d := d) k (j + 1) (some j) (fun q e => by cases e; exact ⟨c', by omega⟩) with ⟨h1, h2, h3⟩ | ⟨r, r1, r2, r3, r4, r5⟩
        · cases h2
        · refine Or.inr ⟨r, r1, by omega, r3, fun q e => (by cases e), fun q q1 q2 q3 => ?_⟩
          by_cases e : q = j
          · rw [e]; exact r4 j rfl
          · exact r5 q (by omega) (by omega) q3
      | some p =>
        show (nx F d k (j + 1) (if F p ≤ F j then some p else some j) = none ∧ _ ∧ _) ∨ ∃ r, nx F d k (j + 1) (if F p ≤ F j then some p else some j) = some r ∧ _
        by_cases cp : F p ≤ F j
        · rw [if_pos cp]
          rcases nx_spec (F := F) (d := d) k (j + 1) (some p) (fun q e => ⟨(h q e).1, by have := (h q e).2; omega⟩) with ⟨h1, h2, h3⟩ | ⟨r, r1, r2, r3, r4, r5⟩
          · cases h2
          · refine Or.inr ⟨r, r1, by omega, r3, r4, fun q q1 q2 q3 => ?_⟩
            by_cases e : q = j
            · rw [e]; exact Int32.le_trans (r4 p rfl) cp
            · exact r5 q (by omega) (by omega) q3
        · rw [if_neg cp]
          rcases nx_spec (F := F) (d := d) k (j + 1) (some j) (fun q e => by cases e; exact ⟨c', by omega⟩) with ⟨h1, h2, h3⟩ | ⟨r, r1, r2, r3, r4, r5⟩
          · cases h2
          · refine Or.inr ⟨r, r1, by omega, r3, fun q e => ?_, fun q q1 q2 q3 => ?_⟩
            · cases e
              exact Int32.le_trans (r4 j rfl) (Int32.le_of_lt (Int32.not_le.mp cp))
            · by_cases e : q = j
              · rw [e]; exact r4 j rfl
              · exact r5 q (by omega) (by omega) q3
section GAP
variable {E : ev} {s : st} {i n : Nat} {d : Int32}
theorem m_next_b (hE : okE E) (hi : i < 200) (hn : n ≤ 10) (hs : s 44 0 i = nI n) : ∀ (k fu j : Nat) (b : Option Nat), (∀ q, b = some q → q < 10) → k < fu → j + k = n → f_Mo_nextSpan_b8 fu (E.1 30 0) (nI i) d (nxI i b) (nI (10 * i + j)) (mu E s) = some (nxI i (nx (mF s i) d k j b), mu E s) := by
  intro k
  induction k with
  | zero =>
    intro fu j b hb h1 h2
    obtain ⟨f, rfl⟩ : ∃ f, fu = f + 1 := ⟨fu - 1, by omega⟩
    unfold f_Mo_nextSpan_b8
    rw [rR_30_14 hE o1, Option.bind_some, rA_44 hE o1 hi, Option.bind_some, hs, m10, if_pos (nI_le (by omega) (by omega))]; rfl
  | succ k ih =>
    intro fu j b hb h1 h2
    obtain ⟨f, rfl⟩ : ∃ f, fu = f + 1 := ⟨fu - 1, by omega⟩
    unfold f_Mo_nextSpan_b8 f_Mo_nextSpan_b55 nx
    rw [rR_30_14 hE o1, Option.bind_some, rA_44 hE o1 hi, Option.bind_some, hs, m10, if_neg (nI_ge (by omega) (by omega)), rR_30_15 hE o1, Option.bind_some, rA_45 hE o1 (by omega), Option.bind_some, nI_1, show 10 * i + j + 1 = 10 * i + (j + 1) by omega]
    by_cases c : s 45 0 (10 * i + j) ≤ d
    · rw [if_pos c, if_pos c, ih f (j + 1) b hb (by omega) (by omega)]
    · rw [if_neg c, if_neg c]
      have hj : f_Mo_nextSpan_b8 f (E.1 30 0) (nI i) d (nI (10 * i + j)) (nI (10 * i + (j + 1))) (mu E s) = some (nxI i (nx (mF s i) d k (j + 1) (some j)), mu E s) := ih f (j + 1) (some j) (fun q e => by cases e; omega) (by omega) (by omega)
      cases b with
      | none =>
        show (if (-1 : Int32) < 0 then _ else _) = _
        rw [if_pos (by decide), hj]
      | some p =>
        have hp := hb p rfl
        show (if nI (10 * i + p) < 0 then _ else _) = _
        rw [if_neg (nI_pos (by omega)), Option.bind_some, rA_45 hE o1 (by omega), Option.bind_some, Option.bind_some]
        show ((aI (mu E s) (E.1 45 0) (nI (10 * i + p))).bind _) = _
        rw [rA_45 hE o1 (by omega), Option.bind_some]
        show _ = some (nxI i (nx (mF s i) d k (j + 1) (if s 45 0 (10 * i + p) ≤ s 45 0 (10 * i + j) then some p else some j)), mu E s)
        by_cases c2 : s 45 0 (10 * i + p) ≤ s 45 0 (10 * i + j)
        · rw [if_pos c2, if_pos c2]
          exact ih f (j + 1) (some p) hb (by omega) (by omega)
        · rw [if_neg c2, if_neg c2]
          exact hj
theorem m_next (hE : okE E) (hi : i < 200) (hn : n ≤ 10) (hs : s 44 0 i = nI n) : f_Mo_nextSpan (E.1 30 0) (nI i) d (mu E s) = some (nxI i (nx (mF s i) d n 0 none), mu E s) := by
  unfold f_Mo_nextSpan
  rw [m10']
  exact m_next_b hE hi hn hs n FU 0 none (fun q e => by cases e) (by unfold FU; omega) (by omega)
/-- the Model's k stands at the class's j-th span, or behind the last one -/
def cor (n i : Nat) (f t F T : Nat → Int32) (j : Nat) (k : Int32) : Prop := (j < n ∧ ∃ q, q < n ∧ k = nI (10 * i + q) ∧ F q = f j ∧ T q = t j) ∨ (n ≤ j ∧ k = -1)
theorem cor_0 {f t F T : Nat → Int32} (h : SpOK n f t F T) : cor n i f t F T 0 (nxI i (nx F (-1) n 0 none)) := by
  rcases nx_spec (F := F) (d := -1) n 0 none (fun q e => by cases e) with ⟨h1, h2, h3⟩ | ⟨r, r1, r2, r3, r4, r5⟩
  · rw [h1]
    by_cases e : n = 0
    · exact Or.inr ⟨by omega, rfl⟩
    · obtain ⟨j, j1, j2, j3⟩ := h.2.2.2 0 (by omega)
      have h9 := i_le.mp (h3 0 (by omega) (by omega))
      rw [← j2, show (-1 : Int32).toInt = -1 by decide] at h9
      have := h.1 j j1
      omega
  · rw [r1]
    refine Or.inl ⟨by omega, r, by omega, rfl, ?_⟩
    obtain ⟨j, j1, j2, j3⟩ := h.2.2.2 r (by omega)
    obtain ⟨k, k1, k2, k3⟩ := h.2.2.1 0 (by omega)
    have hk : (-1 : Int32) < F k := by
      rw [← k2, i_lt, show (-1 : Int32).toInt = -1 by decide]
      have := h.1 0 (by omega)
      omega
    have h9 := i_le.mp (r5 k (by omega) (by omega) hk)
    rw [← j2, ← k2] at h9
    by_cases e : j = 0
    · subst e
      exact ⟨j2.symm, j3.symm⟩
    · have h8 := sp_lt h (show 0 < j by omega) j1
      have h7 := h.1 0 (by omega)
      omega
theorem cor_s {f t F T : Nat → Int32} (h : SpOK n f t F T) {j q : Nat} (hj : j < n) (hq : T q = t j) : cor n i f t F T (j + 1) (nxI i (nx F (T q) n 0 none)) := by
  rcases nx_spec (F := F) (d := T q) n 0 none (fun q e => by cases e) with ⟨h1, h2, h3⟩ | ⟨r, r1, r2, r3, r4, r5⟩
  · rw [h1]
    by_cases e : j + 1 < n
    · obtain ⟨k, k1, k2, k3⟩ := h.2.2.1 (j + 1) e
      have h9 := i_le.mp (h3 k (by omega) (by omega))
      rw [← k2, hq] at h9
      have := h.2.1 j e
      omega
    · exact Or.inr ⟨by omega, rfl⟩
  · rw [r1]
    obtain ⟨j', j1, j2, j3⟩ := h.2.2.2 r (by omega)
    rw [hq] at r3 r5
    have h6 := i_lt.mp r3
    rw [← j2] at h6
    have hjj : j < j' := by
      rcases Nat.lt_or_ge j j' with c | c
      · exact c
      · have h7 := sp_tle h c hj
        have h8 := h.1 j' j1
        omega
    refine Or.inl ⟨by omega, r, by omega, rfl, ?_⟩
    obtain ⟨k, k1, k2, k3⟩ := h.2.2.1 (j + 1) (by omega)
    have hk : t j < F k := by
      rw [← k2, i_lt]
      have := h.2.1 j (by omega)
      omega
    have h9 := i_le.mp (r5 k (by omega) (by omega) hk)
    rw [← j2, ← k2] at h9
    by_cases e : j' = j + 1
    · subst e
      exact ⟨j2.symm, j3.symm⟩
    · have h8 := sp_lt h (show j + 1 < j' by omega) j1
      have h7 := h.1 (j + 1) (by omega)
      omega
theorem cor_neg {f t F T : Nat → Int32} {j : Nat} {k : Int32} (hi : i < 200) (hn : n ≤ 10) (h : cor n i f t F T j k) : (k < 0 ↔ n ≤ j) := by
  rcases h with ⟨h1, q, q1, q2, -⟩ | ⟨h1, h2⟩
  · rw [q2]
    exact ⟨fun h => absurd h (nI_pos (by omega)), fun h => by omega⟩
  · rw [h2]
    exact ⟨fun _ => h1, fun _ => by decide⟩
theorem m_gap_b (hE : okE E) (hi : i < 200) (hn : n ≤ 10) (hs : s 44 0 i = nI n) {f t : Nat → Int32} (h : SpOK n f t (mF s i) (mT s i)) {m : Nat} (hm : m < 2 ^ 31) {y : Int32} : ∀ (e fu c : Nat) (k : Int32), e < fu → c ≤ m → n + 1 ≤ c + e → cor n i f t (mF s i) (mT s i) c k → ∃ c' k', (c' = m ∨ n ≤ c') ∧ c' ≤ m ∧ cor n i f t (mF s i) (mT s i) c' k' ∧ f_Mo_gap_b39 fu (E.1 30 0) (nI i) (nI m) y k (nI c) (mu E s) = f_Mo_gap_b70 (E.1 30 0) (nI i) y k' (mu E s) := by
  intro e
  induction e with
  | zero =>
    intro fu c k h1 h2 h3 h4
    obtain ⟨g, rfl⟩ : ∃ g, fu = g + 1 := ⟨fu - 1, by omega⟩
    refine ⟨c, k, Or.inr (by omega), h2, h4, ?_⟩
    unfold f_Mo_gap_b39
    by_cases cc : nI m ≤ nI c
    · rw [if_pos cc]
    · rw [if_neg cc, if_pos ((cor_neg hi hn h4).mpr (by omega))]
  | succ e ih =>
    intro fu c k h1 h2 h3 h4
    obtain ⟨g, rfl⟩ : ∃ g, fu = g + 1 := ⟨fu - 1, by omega⟩
    by_cases cc : c = m
    · refine ⟨c, k, Or.inl cc, h2, h4, ?_⟩
      unfold f_Mo_gap_b39
      rw [if_pos (by rw [cc]; exact Int32.le_refl _)]
    · by_cases cn : n ≤ c
      · refine ⟨c, k, Or.inr cn, h2, h4, ?_⟩
        unfold f_Mo_gap_b39
        rw [if_neg (nI_ge (by omega) hm), if_pos ((cor_neg hi hn h4).mpr cn)]
      · have hk := mt (cor_neg hi hn h4).mp cn
        rcases h4 with ⟨a1, q, a2, a3, a4, a5⟩ | ⟨a1, -⟩
        · obtain ⟨c', k', b1, b2, b3, b4⟩ := ih g (c + 1) _ (by omega) (by omega) (by omega) (cor_s (i := i) h a1 a5)
          refine ⟨c', k', b1, b2, b3, ?_⟩
          unfold f_Mo_gap_b39
          rw [if_neg (nI_ge (by omega) hm), if_neg hk, rR_30_16 hE o1, Option.bind_some, a3, rA_46 hE o1 (by omega), Option.bind_some, rO_30 hE o1, Option.bind_some, m_next hE hi hn hs]
          show f_Mo_gap_b39 g _ _ _ _ _ (nI c + 1) _ = _
          rw [nI_1]
          exact b4
        · omega
set_option maxRecDepth 100000 in
theorem op_gap (hE : okE E) {n : Nat} (hI : Inv E s n) (v1 v2 v3 : Int32) : OpOK E s n (f_X_gap (E.1 0 0) v1 v2 v3) (f_Mo_gap (E.1 30 0) v1 v2 v3) := by
  obtain ⟨⟨hnp, hnt, hnr, x1, m1, x3, m9, x5, m17, x9⟩, -, -, -, -, -, ⟨hSp, -⟩, -⟩ := id hI
  have hm9 : th s 30 0 9 = nI E.2.1.2.1 := by rw [th_m (show (9 : Nat) ≠ 0 by decide)]; exact m9
  rcases ix_cases v1 (n := E.2.1.2.1) (by omega) with h | ⟨i, hi, rfl⟩
  · refine ⟨-1, E, s, th s, hE, rfl, rfl, ?_, ?_, Inv_thS hI⟩
    · unfold f_X_gap
      rw [rO_0 hE o1, Option.bind_some, ft_no hE x3 hnt h]; rfl
    · unfold f_Mo_gap
      rw [rT hE, Option.bind_some, rO_30 hE o1, Option.bind_some, it_eq hE hm9, if_pos h]; rfl
  by_cases h0 : v2 < 0
  · refine ⟨-1, E, s, th s, hE, rfl, rfl, ?_, ?_, Inv_thS hI⟩
    · unfold f_X_gap
      rw [rO_0 hE o1, Option.bind_some, ft_yes hE x3 hnt hi]
      show (if v2 < 0 then _ else _) = _
      rw [if_pos h0]
    · unfold f_Mo_gap
      rw [rT hE, Option.bind_some, rO_30 hE o1, Option.bind_some, it_eq hE hm9, if_neg (ix_no (by omega) hi)]
      show (if v2 < 0 then _ else _) = _
      rw [if_pos h0]
  obtain ⟨m, hm, rfl⟩ := nI_of h0
  obtain ⟨k, k1, k2, k3, k4⟩ := hSp i hi
  have hlt : (nI m < nI k - 1) ↔ m + 1 < k := by
    rw [i_lt, nm1 (by omega), nI_toInt hm]; omega
  have hX : f_X_gap (E.1 0 0) (nI i) (nI m) v3 (mu E s) = some (if m + 1 < k then (if v3 = 0 then s 19 i m + 1 else if v3 = 1 then s 18 i (m + 1) - 1 else -1) else -1, mu E s) := by
    unfold f_X_gap
    rw [rO_0 hE o1, Option.bind_some, ft_yes hE x3 hnt hi]
    show (if nI m < 0 then _ else _) = _
    rw [if_neg h0, rI_17_6 hE hi, Option.bind_some, k2]
    by_cases c : m + 1 < k
    · rw [if_pos (hlt.mpr c), if_pos c, rR_17_5 hE hi, Option.bind_some, rA_19 hE hi (by omega), Option.bind_some, rR_17_4 hE hi, Option.bind_some, nI_1, rA_18 hE hi (by omega), Option.bind_some]
      split
      · rfl
      · split <;> rfl
    · rw [if_neg (fun h => c (hlt.mp h)), if_neg c]
  refine ⟨_, E, s, th s, hE, rfl, rfl, hX, ?_, Inv_thS hI⟩
  unfold f_Mo_gap
  rw [rT hE, Option.bind_some, rO_30 hE o1, Option.bind_some, it_eq hE hm9, if_neg (ix_no (by omega) hi)]
  show (if nI m < 0 then _ else _) = _
  rw [if_neg h0, in1_eq]
  by_cases hw : v3 < 0 ∨ 1 < v3
  · rw [if_pos hw]
    have e0 : ¬ v3 = 0 := fun q => by rw [q] at hw; exact absurd hw (by decide)
    have e1 : ¬ v3 = 1 := fun q => by rw [q] at hw; exact absurd hw (by decide)
    rw [if_neg e0, if_neg e1]
    show some (-1, mu E (th s)) = _
    split <;> rfl
  · rw [if_neg hw]
    have h01 : v3 = 0 ∨ v3 = 1 := by
      rw [i_lt, i_lt, show (0 : Int32).toInt = 0 by decide, show (1 : Int32).toInt = 1 by decide] at hw
      rw [i_eq, i_eq, show (0 : Int32).toInt = 0 by decide, show (1 : Int32).toInt = 1 by decide]
      omega
    show (kO 1 _ _).bind _ = _
    have hs44 : th s 44 0 i = nI k := by rw [th_k (by decide)]; exact k3
    have k4' : SpOK k (s 18 i) (s 19 i) (mF (th s) i) (mT (th s) i) := sp_cg k4 (fun q hq => by
      unfold mF mT
      rw [th_k (show (45 : Nat) ≠ 30 by decide), th_k (show (46 : Nat) ≠ 30 by decide)]
      exact ⟨rfl, rfl⟩)
    rw [rO_30 hE o1, Option.bind_some, m_next hE (by omega) k1 hs44]
    obtain ⟨c', k', b1, b2, b3, b4⟩ := m_gap_b (y := v3) hE (show i < 200 by omega) k1 hs44 k4' hm (k + 1) FU 0 _ (by unfold FU; omega) (Nat.zero_le _) (by omega) (cor_0 (i := i) k4')
    show f_Mo_gap_b39 FU _ _ _ _ _ (nI 0) _ = _
    rw [b4]
    have hneg := cor_neg (show i < 200 by omega) k1 b3
    unfold f_Mo_gap_b70 f_Mo_gap_b91
    rcases b3 with ⟨a1, q, a2, a3, a4, a5⟩ | ⟨a1, a2⟩
    · have hcm : c' = m := by omega
      subst hcm
      have hnx := cor_s (i := i) k4' a1 a5
      have hneg2 := cor_neg (show i < 200 by omega) k1 hnx
      rw [if_pos (Int32.not_lt.mp (fun h => by have := hneg.mp h; omega)), rR_30_16 hE o1, Option.bind_some, a3, rA_46 hE o1 (by omega), Option.bind_some, rO_30 hE o1, Option.bind_some, m_next hE (by omega) k1 hs44]
      show (if 0 ≤ nxI i (nx (mF (th s) i) (mT (th s) i q) k 0 none) then _ else _) = _
      by_cases c : c' + 1 < k
      · rw [if_pos (Int32.not_lt.mp (fun h => by have := hneg2.mp h; omega)), if_pos c]
        rcases hnx with ⟨d1, q2, d2, d3, d4, d5⟩ | ⟨d1, -⟩
        · have a5' : th s 46 0 (10 * i + q) = s 19 i c' := a5
          have d4' : th s 45 0 (10 * i + q2) = s 18 i (c' + 1) := d4
          rcases h01 with rfl | rfl
          · rw [if_pos rfl, if_pos rfl, rR_30_16 hE o1, Option.bind_some, rA_46 hE o1 (by omega), Option.bind_some, a5']
          · rw [if_neg (by decide), if_neg (by decide), if_pos rfl, rR_30_15 hE o1, Option.bind_some, d3, rA_45 hE o1 (by omega), Option.bind_some, d4']
        · omega
      · rw [if_neg (Int32.not_le.mpr (hneg2.mpr (by omega))), if_neg c]
    · rw [if_neg (Int32.not_le.mpr (by rw [a2]; decide)), if_neg (by decide), if_neg (by omega)]
end GAP
