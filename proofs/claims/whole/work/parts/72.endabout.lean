theorem sp_last {n : Nat} {f t F T : Nat → Int32} (h : SpOK n f t F T) : mx T n 0 (-1) = if n = 0 then -1 else t (n - 1) := by
  obtain ⟨h1, h2, h3⟩ := mx_spec (T := T) n 0 (-1)
  by_cases e : n = 0
  · subst e
    rw [if_pos rfl]; rfl
  · rw [if_neg e, i_eq]
    obtain ⟨k, k1, k2, k3⟩ := h.2.2.1 (n - 1) (by omega)
    have a1 := h2 k (by omega) (by omega)
    rw [← k3] at a1
    have a2 := h.1 (n - 1) (by omega)
    rcases h3 with h3 | ⟨q, q1, q2, q3⟩
    · rw [h3, show (-1 : Int32).toInt = -1 by decide] at a1
      omega
    · obtain ⟨j, j1, j2, j3⟩ := h.2.2.2 q (by omega)
      have a3 := sp_tle h (show j ≤ n - 1 by omega) (by omega)
      rw [j3] at a3
      rw [q3] at a1 ⊢
      omega
theorem sp_first {n : Nat} {f t F T : Nat → Int32} (h : SpOK n f t F T) : mn F n 0 (-1) = if n = 0 then -1 else f 0 := by
  by_cases e : n = 0
  · subst e
    rw [if_pos rfl]; rfl
  · obtain ⟨m, rfl⟩ : ∃ m, n = m + 1 := ⟨n - 1, by omega⟩
    rw [if_neg e]
    unfold mn
    rw [if_pos (show (-1 : Int32) < 0 by decide)]
    have hF : ∀ q, q < m + 1 → 0 ≤ (F q).toInt := fun q hq => by
      obtain ⟨j, j1, j2, j3⟩ := h.2.2.2 q hq
      rw [← j2]
      exact (h.1 j j1).1
    obtain ⟨h1, h2, h3, h4⟩ := mn_spec (F := F) m 1 (F 0) (fun q q1 q2 => hF q (by omega)) (hF 0 (by omega))
    have hle : ∀ q, q < m + 1 → (mn F m (0 + 1) (F 0)).toInt ≤ (F q).toInt := fun q hq => by
      by_cases e0 : q = 0
      · rw [e0]; exact h2
      · exact h3 q (by omega) (by omega)
    have hex : ∃ q, q < m + 1 ∧ mn F m (0 + 1) (F 0) = F q := by
      rcases h4 with h4 | ⟨q, q1, q2, q3⟩
      · exact ⟨0, by omega, h4⟩
      · exact ⟨q, by omega, q3⟩
    rw [i_eq]
    obtain ⟨k, k1, k2, k3⟩ := h.2.2.1 0 (by omega)
    obtain ⟨q, q1, q2⟩ := hex
    obtain ⟨j, j1, j2, j3⟩ := h.2.2.2 q q1
    have a1 := hle k k1
    rw [← k2] at a1
    have a2 := sp_fle h (Nat.zero_le j) j1
    rw [j2] at a2
    rw [q2] at a1 ⊢
    omega
section EA
variable {E : ev} {s : st} {n i : Nat}
theorem mo_boundL (hE : okE E) (hi : i < 200) {k : Nat} (hk : k ≤ 10) (hs : s 44 0 i = nI k) : f_Mo_bound (E.1 30 0) (nI i) 1 (mu E s) = some (mx (mT s i) k 0 (-1), mu E s) := by
  unfold f_Mo_bound
  rw [m10']
  exact m_boundL hE hi hk hs k FU 0 (-1) (by unfold FU; omega) (by omega)
theorem mo_boundF (hE : okE E) (hi : i < 200) {k : Nat} (hk : k ≤ 10) (hs : s 44 0 i = nI k) : f_Mo_bound (E.1 30 0) (nI i) 0 (mu E s) = some (mn (mF s i) k 0 (-1), mu E s) := by
  unfold f_Mo_bound
  rw [m10']
  exact m_boundF hE hi hk hs k FU 0 (-1) (by unfold FU; omega) (by omega)
def lastD (s : st) (j : Nat) : Int32 := if (s 17 j 6).toNatClampNeg = 0 then -1 else s 19 j ((s 17 j 6).toNatClampNeg - 1)
theorem x_cgo (hE : okE E) (hnp : E.2.1.1 ≤ 20) (hnt : E.2.1.2.1 ≤ 200) (hc : s 0 0 3 = nI E.2.1.2.1) (hT : ∀ j, j < E.2.1.2.1 → ∃ h, h < E.2.1.1 ∧ s 17 j 0 = nI h) (hP : ∀ h, h < E.2.1.1 → s 12 h 0 = nI h) (hS : ∀ j, j < E.2.1.2.1 → ∃ k, k ≤ 10 ∧ s 17 j 6 = nI k) (x y : Int32) : ∀ (k fu j : Nat) (c : Int32), k < fu → j + k = E.2.1.2.1 → f_X_countGoingOn_b5 fu (E.1 0 0) x y c (nI j) (mu E s) = some (ct1 (fun q => decide (s 17 q 0 = x) && !decide (lastD s q ≤ y)) k j c, mu E s) := by
  intro k
  induction k with
  | zero =>
    intro fu j c h1 h2
    obtain ⟨f, rfl⟩ : ∃ f, fu = f + 1 := ⟨fu - 1, by omega⟩
    unfold f_X_countGoingOn_b5
    rw [rI_0_3 hE o1, Option.bind_some, hc, if_pos (nI_le (by omega) (by omega))]; rfl
  | succ k ih =>
    intro fu j c h1 h2
    obtain ⟨f, rfl⟩ : ∃ f, fu = f + 1 := ⟨fu - 1, by omega⟩
    obtain ⟨h, hh, e0⟩ := hT j (by omega)
    obtain ⟨m, hm, e6⟩ := hS j (by omega)
    have hj : j < E.2.1.2.1 := by omega
    have hl : lastD s j = if m = 0 then -1 else s 19 j (m - 1) := by unfold lastD; rw [e6, nI_clamp (by omega)]
    unfold f_X_countGoingOn_b5 ct1
    rw [rI_0_3 hE o1, Option.bind_some, hc, if_neg (nI_ge (by omega) (by omega)), rR_0_2 hE o1, Option.bind_some, rQ_2 hE o1 hj (by omega), Option.bind_some, rR_17_0 hE hj, Option.bind_some, e0, nI_clamp (by omega), rI_12_0 hE hh, Option.bind_some, hP h hh, ← e0, nI_1]
    by_cases c1 : s 17 j 0 = x
    · rw [if_pos c1, rO_17 hE hj, Option.bind_some, x_lastDay hE hj hm e6, ← hl]
      show (if lastD s j ≤ y then _ else _) = _
      by_cases c2 : lastD s j ≤ y
      · rw [if_pos c2, if_neg (by simp [c2]), ih f (j + 1) _ (by omega) (by omega)]
      · rw [if_neg c2, if_pos (by simp [c1, c2]), ih f (j + 1) _ (by omega) (by omega)]
    · rw [if_neg c1, if_neg (by simp [c1]), ih f (j + 1) _ (by omega) (by omega)]
theorem m_cgo (hE : okE E) (hnt : E.2.1.2.1 ≤ 200) (hc : s 30 0 9 = nI E.2.1.2.1) (hS : ∀ j, j < E.2.1.2.1 → ∃ k, k ≤ 10 ∧ s 44 0 j = nI k) (x y : Int32) : ∀ (k fu j : Nat) (c : Int32), k < fu → j + k = E.2.1.2.1 → f_Mo_end_b49 fu (E.1 30 0) x y c (nI j) (mu E s) = some (ct1 (fun q => decide (s 40 0 q = x) && !decide (mx (mT s q) (s 44 0 q).toNatClampNeg 0 (-1) ≤ y)) k j c, mu E s) := by
  intro k
  induction k with
  | zero =>
    intro fu j c h1 h2
    obtain ⟨f, rfl⟩ : ∃ f, fu = f + 1 := ⟨fu - 1, by omega⟩
    unfold f_Mo_end_b49
    rw [rI_30_9 hE o1, Option.bind_some, hc, if_pos (nI_le (by omega) (by omega))]; rfl
  | succ k ih =>
    intro fu j c h1 h2
    obtain ⟨f, rfl⟩ : ∃ f, fu = f + 1 := ⟨fu - 1, by omega⟩
    obtain ⟨m, hm, e6⟩ := hS j (by omega)
    have hcl : (s 44 0 j).toNatClampNeg = m := by rw [e6, nI_clamp (by omega)]
    unfold f_Mo_end_b49 f_Mo_end_b85 f_Mo_end_b86 ct1
    rw [rI_30_9 hE o1, Option.bind_some, hc, if_neg (nI_ge (by omega) (by omega)), rR_30_10 hE o1, Option.bind_some, rA_40 hE o1 (by omega), Option.bind_some, nI_1, hcl]
    by_cases c1 : s 40 0 j = x
    · rw [if_pos c1, rO_30 hE o1, Option.bind_some, mo_boundL hE (by omega) hm e6]
      show (if mx (mT s j) m 0 (-1) ≤ y then _ else _) = _
      by_cases c2 : mx (mT s j) m 0 (-1) ≤ y
      · rw [if_pos c2, if_neg (by simp [c2]), add0, ih f (j + 1) _ (by omega) (by omega)]
      · rw [if_neg c2, if_pos (by simp [c1, c2]), ih f (j + 1) _ (by omega) (by omega)]
    · rw [if_neg c1, if_neg (by simp [c1]), add0, ih f (j + 1) _ (by omega) (by omega)]
theorem op_end (hE : okE E) (hI : Inv E s n) (v1 v2 : Int32) : OpOK E s n (f_X_end (E.1 0 0) v1 v2) (f_Mo_end (E.1 30 0) v1 v2) := by
  obtain ⟨⟨hnp, hnt, hnr, x1, m1, x3, m9, x5, m17, x9⟩, hp, -, -, -, ⟨hT, -⟩, ⟨hSp, -⟩, -⟩ := id hI
  have hm1 : ∀ s1 : st, s1 30 = s 30 → th s1 30 0 1 = nI E.2.1.1 := fun s1 h => by rw [th_m (show (1 : Nat) ≠ 0 by decide), h]; exact m1
  have hm9 : ∀ s1 : st, s1 30 = s 30 → th s1 30 0 9 = nI E.2.1.2.1 := fun s1 h => by rw [th_m (show (9 : Nat) ≠ 0 by decide), h]; exact m9
  rcases ix_cases v1 (n := E.2.1.1) (by omega) with h | ⟨i, hi, rfl⟩
  · refine ⟨-1, E, s, th s, hE, rfl, rfl, ?_, ?_, Inv_thS hI⟩
    · unfold f_X_end
      rw [rO_0 hE o1, Option.bind_some, fp_no hE x1 hnp h]; rfl
    · unfold f_Mo_end
      rw [rT hE, Option.bind_some, rO_30 hE o1, Option.bind_some, ip_eq hE (hm1 s rfl), if_pos h]; rfl
  by_cases h3 : v2 < 0 ∨ 200000 < v2
  · refine ⟨-2, E, s, th s, hE, rfl, rfl, ?_, ?_, Inv_thS hI⟩
    · unfold f_X_end
      rw [rO_0 hE o1, Option.bind_some, fp_yes hE x1 hnp hi]
      show (f_X_isDay v2 _).bind _ = _
      rw [xday_eq, if_pos h3]; rfl
    · unfold f_Mo_end
      rw [rT hE, Option.bind_some, rO_30 hE o1, Option.bind_some, ip_eq hE (hm1 s rfl), if_neg (ix_no (by omega) hi)]
      show (f_Mo_isDay v2 _).bind _ = _
      rw [mday_eq, if_pos h3]; rfl
  obtain ⟨p0, p1, p2, p4, pc, p5, p6⟩ := hp i hi
  by_cases he : s 12 i 5 = -1
  · have hX1 := x_cgo (s := s3 s 12 i 5 v2) hE hnp hnt (by rw [s3_k (by decide)]; exact x3) (fun j hj => by rw [s3_k (by decide)]; obtain ⟨⟨h, h1, h2, -⟩, -⟩ := hT j hj; exact ⟨h, h1, h2⟩) (fun h hh => by
      rw [s3_u2]
      by_cases hhi : h = i
      · subst hhi
        rw [u2_at, upd_ne (by decide)]; exact (hp h hh).1
      · rw [u2_ne hhi]; exact (hp h hh).1) (fun j hj => by rw [s3_k (by decide)]; obtain ⟨k, k1, k2, -⟩ := hSp j hj; exact ⟨k, k1, k2⟩) (nI i) v2 E.2.1.2.1 FU 0 0 (by unfold FU; omega) (by omega)
    have hM1 := m_cgo (s := s3 (th (s3 s 12 i 5 v2)) 34 0 i v2) hE hnt (by rw [s3_k (by decide)]; exact hm9 _ (s3_k (by decide))) (fun j hj => by rw [s3_k (by decide), th_k (by decide), s3_k (by decide)]; obtain ⟨k, k1, k2, k3, -⟩ := hSp j hj; exact ⟨k, k1, k3⟩) (nI i) v2 E.2.1.2.1 FU 0 0 (by unfold FU; omega) (by omega)
    refine ⟨ct1 (fun q => decide (s 40 0 q = nI i) && !decide (mx (mT s q) (s 44 0 q).toNatClampNeg 0 (-1) ≤ v2)) E.2.1.2.1 0 0, E, s3 s 12 i 5 v2, s3 (th (s3 s 12 i 5 v2)) 34 0 i v2, hE, rfl, rfl, ?_, ?_, ?_⟩
    · unfold f_X_end
      rw [rO_0 hE o1, Option.bind_some, fp_yes hE x1 hnp hi]
      show (f_X_isDay v2 _).bind _ = _
      rw [xday_eq, if_neg h3]
      show (gI 4 5 _ _).bind _ = _
      rw [rI_12_5 hE hi, Option.bind_some, if_pos he, rP_12_5 hE hi, Option.bind_some, rO_0 hE o1, Option.bind_some]
      unfold f_X_countGoingOn
      rw [show f_X_countGoingOn_b5 FU (E.1 0 0) (nI i) v2 0 0 (mu E (s3 s 12 i 5 v2)) = _ from hX1, ct1_congr (g' := fun q => decide (s 40 0 q = nI i) && !decide (mx (mT s q) (s 44 0 q).toNatClampNeg 0 (-1) ≤ v2)) E.2.1.2.1 0 0 (fun q _ hq => by
        obtain ⟨⟨h, h1, h2, h4⟩, -⟩ := hT q (by omega)
        obtain ⟨k, k1, k2, k3, k4⟩ := hSp q (by omega)
        show (decide (s3 s 12 i 5 v2 17 q 0 = nI i) && !decide (lastD (s3 s 12 i 5 v2) q ≤ v2)) = _
        unfold lastD
        rw [s3_k (show (17 : Nat) ≠ 12 by decide), s3_k (show (19 : Nat) ≠ 12 by decide), h2, ← h4, k2, nI_clamp (by omega), k3, nI_clamp (by omega), sp_last k4])]; rfl
    · unfold f_Mo_end
      rw [rT hE, Option.bind_some, rO_30 hE o1, Option.bind_some, ip_eq hE (hm1 _ (s3_k (by decide))), if_neg (ix_no (by omega) hi)]
      show (f_Mo_isDay v2 _).bind _ = _
      rw [mday_eq, if_neg h3]
      show (gR 1 4 _ _).bind _ = _
      rw [rR_30_4 hE o1, Option.bind_some, rA_34 hE o1 (by omega), Option.bind_some, th_k (show (34 : Nat) ≠ 30 by decide), s3_k (show (34 : Nat) ≠ 12 by decide), ← p5, he, if_pos (show (-1 : Int32) < 0 by decide), Option.bind_some, rS_34 hE o1 (by omega), Option.bind_some]
      rw [show f_Mo_end_b49 FU (E.1 30 0) (nI i) v2 0 0 (mu E (s3 (th (s3 s 12 i 5 v2)) 34 0 i v2)) = _ from hM1]
      unfold mT
      rw [s3_k (show (40 : Nat) ≠ 34 by decide), th_k (show (40 : Nat) ≠ 30 by decide), s3_k (show (40 : Nat) ≠ 12 by decide), s3_k (show (44 : Nat) ≠ 34 by decide), th_k (show (44 : Nat) ≠ 30 by decide), s3_k (show (44 : Nat) ≠ 12 by decide), s3_k (show (46 : Nat) ≠ 34 by decide), th_k (show (46 : Nat) ≠ 30 by decide), s3_k (show (46 : Nat) ≠ 12 by decide)]
    · refine Inv_RL hI (Only_s3 (by decide)) (Only_s3 (by decide)) ?_
      obtain ⟨r1, r2, r3, r4⟩ := RL_of hI
      unfold RL
      simp only [th, s3_u2, s3_k (show (0 : Nat) ≠ 12 by decide), s3_k (show (4 : Nat) ≠ 12 by decide), s3_k (show (5 : Nat) ≠ 12 by decide), s3_k (show (6 : Nat) ≠ 12 by decide), s3_k (show (7 : Nat) ≠ 12 by decide), s3_k (show (8 : Nat) ≠ 12 by decide), s3_k (show (9 : Nat) ≠ 12 by decide), s3_k (show (10 : Nat) ≠ 12 by decide), s3_k (show (11 : Nat) ≠ 12 by decide), s3_k (show (13 : Nat) ≠ 12 by decide), s3_k (show (14 : Nat) ≠ 12 by decide), s3_k (show (15 : Nat) ≠ 12 by decide), s3_k (show (16 : Nat) ≠ 12 by decide), s3_k (show (17 : Nat) ≠ 12 by decide), s3_k (show (18 : Nat) ≠ 12 by decide), s3_k (show (19 : Nat) ≠ 12 by decide), s3_k (show (20 : Nat) ≠ 12 by decide), s3_k (show (30 : Nat) ≠ 12 by decide), s3_k (show (32 : Nat) ≠ 12 by decide), s3_k (show (33 : Nat) ≠ 12 by decide), s3_k (show (34 : Nat) ≠ 12 by decide), s3_k (show (35 : Nat) ≠ 12 by decide), s3_k (show (36 : Nat) ≠ 12 by decide), s3_k (show (37 : Nat) ≠ 12 by decide), s3_k (show (38 : Nat) ≠ 12 by decide), s3_k (show (40 : Nat) ≠ 12 by decide), s3_k (show (41 : Nat) ≠ 12 by decide), s3_k (show (42 : Nat) ≠ 12 by decide), s3_k (show (43 : Nat) ≠ 12 by decide), s3_k (show (44 : Nat) ≠ 12 by decide), s3_k (show (45 : Nat) ≠ 12 by decide), s3_k (show (46 : Nat) ≠ 12 by decide), s3_k (show (48 : Nat) ≠ 12 by decide), s3_k (show (49 : Nat) ≠ 12 by decide), s3_k (show (50 : Nat) ≠ 12 by decide), s3_k (show (51 : Nat) ≠ 12 by decide), s3_k (show (52 : Nat) ≠ 12 by decide), s3_k (show (54 : Nat) ≠ 12 by decide), s3_k (show (56 : Nat) ≠ 12 by decide), s3_k (show (57 : Nat) ≠ 12 by decide), s3_k (show (58 : Nat) ≠ 12 by decide), s3_k (show (60 : Nat) ≠ 12 by decide), s3_k (show (61 : Nat) ≠ 12 by decide), s3_k (show (0 : Nat) ≠ 34 by decide), s3_k (show (4 : Nat) ≠ 34 by decide), s3_k (show (5 : Nat) ≠ 34 by decide), s3_k (show (6 : Nat) ≠ 34 by decide), s3_k (show (7 : Nat) ≠ 34 by decide), s3_k (show (8 : Nat) ≠ 34 by decide), s3_k (show (9 : Nat) ≠ 34 by decide), s3_k (show (10 : Nat) ≠ 34 by decide), s3_k (show (11 : Nat) ≠ 34 by decide), s3_k (show (12 : Nat) ≠ 34 by decide), s3_k (show (13 : Nat) ≠ 34 by decide), s3_k (show (14 : Nat) ≠ 34 by decide), s3_k (show (15 : Nat) ≠ 34 by decide), s3_k (show (16 : Nat) ≠ 34 by decide), s3_k (show (17 : Nat) ≠ 34 by decide), s3_k (show (18 : Nat) ≠ 34 by decide), s3_k (show (19 : Nat) ≠ 34 by decide), s3_k (show (20 : Nat) ≠ 34 by decide), s3_k (show (30 : Nat) ≠ 34 by decide), s3_k (show (32 : Nat) ≠ 34 by decide), s3_k (show (33 : Nat) ≠ 34 by decide), s3_k (show (35 : Nat) ≠ 34 by decide), s3_k (show (36 : Nat) ≠ 34 by decide), s3_k (show (37 : Nat) ≠ 34 by decide), s3_k (show (38 : Nat) ≠ 34 by decide), s3_k (show (40 : Nat) ≠ 34 by decide), s3_k (show (41 : Nat) ≠ 34 by decide), s3_k (show (42 : Nat) ≠ 34 by decide), s3_k (show (43 : Nat) ≠ 34 by decide), s3_k (show (44 : Nat) ≠ 34 by decide), s3_k (show (45 : Nat) ≠ 34 by decide), s3_k (show (46 : Nat) ≠ 34 by decide), s3_k (show (48 : Nat) ≠ 34 by decide), s3_k (show (49 : Nat) ≠ 34 by decide), s3_k (show (50 : Nat) ≠ 34 by decide), s3_k (show (51 : Nat) ≠ 34 by decide), s3_k (show (52 : Nat) ≠ 34 by decide), s3_k (show (54 : Nat) ≠ 34 by decide), s3_k (show (56 : Nat) ≠ 34 by decide), s3_k (show (57 : Nat) ≠ 34 by decide), s3_k (show (58 : Nat) ≠ 34 by decide), s3_k (show (60 : Nat) ≠ 34 by decide), s3_k (show (61 : Nat) ≠ 34 by decide), s3_k (show (0 : Nat) ≠ 30 by decide), s3_k (show (4 : Nat) ≠ 30 by decide), s3_k (show (5 : Nat) ≠ 30 by decide), s3_k (show (6 : Nat) ≠ 30 by decide), s3_k (show (7 : Nat) ≠ 30 by decide), s3_k (show (8 : Nat) ≠ 30 by decide), s3_k (show (9 : Nat) ≠ 30 by decide), s3_k (show (10 : Nat) ≠ 30 by decide), s3_k (show (11 : Nat) ≠ 30 by decide), s3_k (show (12 : Nat) ≠ 30 by decide), s3_k (show (13 : Nat) ≠ 30 by decide), s3_k (show (14 : Nat) ≠ 30 by decide), s3_k (show (15 : Nat) ≠ 30 by decide), s3_k (show (16 : Nat) ≠ 30 by decide), s3_k (show (17 : Nat) ≠ 30 by decide), s3_k (show (18 : Nat) ≠ 30 by decide), s3_k (show (19 : Nat) ≠ 30 by decide), s3_k (show (20 : Nat) ≠ 30 by decide), s3_k (show (32 : Nat) ≠ 30 by decide), s3_k (show (33 : Nat) ≠ 30 by decide), s3_k (show (34 : Nat) ≠ 30 by decide), s3_k (show (35 : Nat) ≠ 30 by decide), s3_k (show (36 : Nat) ≠ 30 by decide), s3_k (show (37 : Nat) ≠ 30 by decide), s3_k (show (38 : Nat) ≠ 30 by decide), s3_k (show (40 : Nat) ≠ 30 by decide), s3_k (show (41 : Nat) ≠ 30 by decide), s3_k (show (42 : Nat) ≠ 30 by decide), s3_k (show (43 : Nat) ≠ 30 by decide), s3_k (show (44 : Nat) ≠ 30 by decide), s3_k (show (45 : Nat) ≠ 30 by decide), s3_k (show (46 : Nat) ≠ 30 by decide), s3_k (show (48 : Nat) ≠ 30 by decide), s3_k (show (49 : Nat) ≠ 30 by decide), s3_k (show (50 : Nat) ≠ 30 by decide), s3_k (show (51 : Nat) ≠ 30 by decide), s3_k (show (52 : Nat) ≠ 30 by decide), s3_k (show (54 : Nat) ≠ 30 by decide), s3_k (show (56 : Nat) ≠ 30 by decide), s3_k (show (57 : Nat) ≠ 30 by decide), s3_k (show (58 : Nat) ≠ 30 by decide), s3_k (show (60 : Nat) ≠ 30 by decide), s3_k (show (61 : Nat) ≠ 30 by decide), u2_at]
      refine ⟨fun q hq => ?_, r2, r3, r4⟩
      obtain ⟨p0, p1, p2, p4, pc, p5, p6⟩ := r1 q hq
      by_cases hqi : q = i
      · subst hqi
        rw [u2_at, upd_at, upd_at]
        exact ⟨p0, p1, p2, p4, pc, rfl, Or.inr (Int32.not_lt.mp (fun h => h3 (Or.inl h)))⟩
      · rw [u2_ne hqi, upd_ne hqi]
        exact ⟨p0, p1, p2, p4, pc, p5, p6⟩
  · refine ⟨-3, E, s, th s, hE, rfl, rfl, ?_, ?_, Inv_thS hI⟩
    · unfold f_X_end
      rw [rO_0 hE o1, Option.bind_some, fp_yes hE x1 hnp hi]
      show (f_X_isDay v2 _).bind _ = _
      rw [xday_eq, if_neg h3]
      show (gI 4 5 _ _).bind _ = _
      rw [rI_12_5 hE hi, Option.bind_some, if_neg he]
    · unfold f_Mo_end
      rw [rT hE, Option.bind_some, rO_30 hE o1, Option.bind_some, ip_eq hE (hm1 s rfl), if_neg (ix_no (by omega) hi)]
      show (f_Mo_isDay v2 _).bind _ = _
      rw [mday_eq, if_neg h3]
      show (gR 1 4 _ _).bind _ = _
      rw [rR_30_4 hE o1, Option.bind_some, rA_34 hE o1 (by omega), Option.bind_some, th_k (show (34 : Nat) ≠ 30 by decide), if_neg]
      rcases p6 with h | h
      · exact absurd (p5.trans h) he
      · exact Int32.not_lt.mpr h
theorem op_about (hE : okE E) (hI : Inv E s n) (hn : n ≤ 512) (v1 v2 : Int32) : OpOK E s n (f_X_about (E.1 0 0) v1 v2) (f_Mo_about (E.1 30 0) v1 v2) := by
  obtain ⟨⟨hnp, hnt, hnr, x1, m1, x3, m9, x5, m17, x9⟩, hp, -, -, -, ⟨hT, -⟩, ⟨hSp, -⟩, -, -, ⟨u, u1, u2, u3, u4⟩, -⟩ := id hI
  have hm9 : th s 30 0 9 = nI E.2.1.2.1 := by rw [th_m (show (9 : Nat) ≠ 0 by decide)]; exact m9
  have hm25 : th s 30 0 25 = nI u := by rw [th_m (show (25 : Nat) ≠ 0 by decide)]; exact u3
  rcases ix_cases v1 (n := E.2.1.2.1) (by omega) with h | ⟨i, hi, rfl⟩
  · refine ⟨-1, E, s, th s, hE, rfl, rfl, ?_, ?_, Inv_thS hI⟩
    · unfold f_X_about
      rw [rO_0 hE o1, Option.bind_some, ft_no hE x3 hnt h]; rfl
    · unfold f_Mo_about
      rw [rT hE, Option.bind_some, rO_30 hE o1, Option.bind_some, it_eq hE hm9, if_pos h]; rfl
  obtain ⟨⟨h, h1, h2, h4⟩, t1, t2, t3⟩ := hT i hi
  obtain ⟨k, k1, k2, k3, k4⟩ := hSp i hi
  have hX : f_X_about (E.1 0 0) (nI i) v2 (mu E s) = some (if v2 = 0 then nI h else if v2 = 1 then s 41 0 i else if v2 = 2 then (if s 42 0 i = 0 then 1 else 0) else if v2 = 3 then nI k else if v2 = 4 then s 43 0 i else if v2 = 5 then ct1 (fun q => decide (s 57 0 q = nI i)) u 0 0 else if v2 = 6 then mn (mF s i) k 0 (-1) else if v2 = 7 then mx (mT s i) k 0 (-1) else -1, mu E s) := by
    unfold f_X_about
    rw [rO_0 hE o1, Option.bind_some, ft_yes hE x3 hnt hi]
    show (if v2 = 0 then _ else _) = _
    have hct : f_Usages_ofTitle (E.1 5 0) (nI i) (mu E s) = some (ct1 (fun q => decide (s 57 0 q = nI i)) u 0 0, mu E s) := by
      unfold f_Usages_ofTitle
      rw [show f_Usages_ofTitle_b4 FU (E.1 5 0) (nI i) 0 0 (mu E s) = _ from x_ofTitle hE u2 (by omega) u FU 0 0 (by unfold FU; omega) (by omega), ct1_congr (g' := fun q => decide (s 57 0 q = nI i)) u 0 0 (fun q _ hq => by
        obtain ⟨-, b, -⟩ := u4 q (by omega)
        show decide (s 7 0 q = nI i) = _
        rw [b])]
    rw [rR_17_0 hE hi, h2, nI_clamp (by omega)]
    simp only [Option.bind_some, rI_12_0 hE h1, (hp h h1).1, rI_17_1 hE hi, t1, rI_17_2 hE hi, rI_17_6 hE hi, k2, rI_17_3 hE hi, t3, rR_0_7 hE o1, rO_5 hE o1, hct, rO_17 hE hi, x_firstDay hE hi k1 k2, x_lastDay hE hi k1 k2, ← sp_first k4, ← sp_last k4]
    by_cases c0 : v2 = 0
    · simp only [if_pos c0]
    · simp only [if_neg c0]
      by_cases c1 : v2 = 1
      · simp only [if_pos c1]
      · simp only [if_neg c1]
        by_cases c2 : v2 = 2
        · simp only [if_pos c2]
          rcases t2 with ⟨a1, a2⟩ | ⟨a1, a2⟩
          · rw [a1, a2]; rfl
          · rw [a1, a2]; rfl
        · simp only [if_neg c2]
          by_cases c3 : v2 = 3
          · simp only [if_pos c3]
          · simp only [if_neg c3]
            by_cases c4 : v2 = 4
            · simp only [if_pos c4]
            · simp only [if_neg c4]
              by_cases c5 : v2 = 5
              · simp only [if_pos c5]
              · simp only [if_neg c5]
                by_cases c6 : v2 = 6
                · simp only [if_pos c6]
                · simp only [if_neg c6]
                  by_cases c7 : v2 = 7
                  · simp only [if_pos c7]
                  · simp only [if_neg c7]
  refine ⟨_, E, s, th s, hE, rfl, rfl, hX, ?_, Inv_thS hI⟩
  unfold f_Mo_about
  rw [rT hE, Option.bind_some, rO_30 hE o1, Option.bind_some, it_eq hE hm9, if_neg (ix_no (by omega) hi)]
  show (if v2 = 0 then _ else _) = _
  have hct : f_Mo_about_b112 FU (E.1 30 0) (nI i) 0 0 (mu E (th s)) = some (ct1 (fun q => decide (s 57 0 q = nI i)) u 0 0, mu E (th s)) := by
    rw [show f_Mo_about_b112 FU (E.1 30 0) (nI i) 0 0 (mu E (th s)) = _ from m_ofTitle hE hm25 (by omega) u FU 0 0 (by unfold FU; omega) (by omega), th_k (show (57 : Nat) ≠ 30 by decide)]
  have hbF := mo_boundF (s := th s) hE (show i < 200 by omega) k1 (by rw [th_k (by decide)]; exact k3)
  have hbL := mo_boundL (s := th s) hE (show i < 200 by omega) k1 (by rw [th_k (by decide)]; exact k3)
  unfold mF at hbF
  unfold mT at hbL
  rw [th_k (show (45 : Nat) ≠ 30 by decide)] at hbF
  rw [th_k (show (46 : Nat) ≠ 30 by decide)] at hbL
  simp only [Option.bind_some, rR_30_10 hE o1, rA_40 hE o1 (show i < 200 by omega), rR_30_11 hE o1, rA_41 hE o1 (show i < 200 by omega), rR_30_12 hE o1, rA_42 hE o1 (show i < 200 by omega), rR_30_13 hE o1, rA_43 hE o1 (show i < 200 by omega), rR_30_14 hE o1, rA_44 hE o1 (show i < 200 by omega), th_k (show (40 : Nat) ≠ 30 by decide), th_k (show (41 : Nat) ≠ 30 by decide), th_k (show (42 : Nat) ≠ 30 by decide), th_k (show (43 : Nat) ≠ 30 by decide), th_k (show (44 : Nat) ≠ 30 by decide), h4, k3, hct, rO_30 hE o1, hbF, hbL]
  by_cases c0 : v2 = 0
  · simp only [if_pos c0]
  · simp only [if_neg c0]
    by_cases c1 : v2 = 1
    · simp only [if_pos c1]
    · simp only [if_neg c1]
      by_cases c2 : v2 = 2
      · simp only [if_pos c2]
        by_cases c9 : s 42 0 i = 0
        · simp only [if_pos c9]
        · simp only [if_neg c9]
      · simp only [if_neg c2]
        by_cases c3 : v2 = 3
        · simp only [if_pos c3]
        · simp only [if_neg c3]
          by_cases c4 : v2 = 4
          · simp only [if_pos c4]
          · simp only [if_neg c4]
            by_cases c5 : v2 = 5
            · simp only [if_pos c5]
            · simp only [if_neg c5]
              by_cases c6 : v2 = 6
              · simp only [if_pos c6]
              · simp only [if_neg c6]
                by_cases c7 : v2 = 7
                · simp only [if_pos c7]
                · simp only [if_neg c7]
end EA
