def th (s : st) : st := s3 s 30 0 0 0
theorem rT {E : ev} {s : st} (hE : okE E) : pF 1 0 (.int 0) (mu E s) (E.1 30 0) = some (mu E (th s)) := rP_30_0 hE o1 0
theorem th_m {s : st} {j : Nat} (h : j ≠ 0) : th s 30 0 j = s 30 0 j := by
  show s3 s 30 0 0 0 30 0 j = _
  rw [s3_at]; simp [upd, h]
theorem th_k {s : st} {a : Nat} (h : a ≠ 30) : th s a = s a := s3_k h
section OPS1
variable {E : ev} {s : st} {n : Nat}
theorem Inv_thS (hI : Inv E s n) : Inv E (th s) (n + 1) := Inv_mono (Inv_thr hI) (Nat.le_succ n)
theorem op_failed (hE : okE E) (hI : Inv E s n) : OpOK E s n (f_X_failed (E.1 0 0)) (f_Mo_failed (E.1 30 0)) := by
  obtain ⟨⟨hnp, hnt, hnr, x1, m1, x3, m9, x5, m17, x9⟩, -⟩ := id hI
  refine ⟨s 0 0 9, E, s, th s, hE, rfl, rfl, ?_, ?_, Inv_thS hI⟩
  · unfold f_X_failed
    rw [rI_0_9 hE o1]; rfl
  · unfold f_Mo_failed
    rw [rT hE, Option.bind_some, rI_30_23 hE o1, Option.bind_some, th_m (show (23 : Nat) ≠ 0 by decide), x9]
theorem op_reader (hE : okE E) (hI : Inv E s n) (v1 v2 : Int32) : OpOK E s n (f_X_reader (E.1 0 0) v1 v2) (f_Mo_reader (E.1 30 0) v1 v2) := by
  by_cases h1 : v1 < 0 ∨ 99 < v1
  · refine ⟨-1, E, s, th s, hE, rfl, rfl, ?_, ?_, Inv_thS hI⟩
    · unfold f_X_reader
      rw [xrd_eq, if_pos h1]; rfl
    · unfold f_Mo_reader
      rw [rT hE, Option.bind_some, in1_eq, if_pos h1]; rfl
  · obtain ⟨j, hj, rfl⟩ : ∃ j, j < 100 ∧ v1 = nI j := by
      rcases ix_cases v1 (n := 100) (by omega) with h | h
      · exact absurd (by rcases h with h | h; exact Or.inl h; exact Or.inr h) h1
      · exact h
    by_cases h2 : v2 < 0 ∨ 9 < v2
    · refine ⟨-2, E, s, th s, hE, rfl, rfl, ?_, ?_, Inv_thS hI⟩
      · unfold f_X_reader
        rw [xrd_eq, if_neg h1]
        show (if v2 < 0 then some (-2, mu E s) else if v2 ≤ 9 then _ else some (-2, mu E s)) = _
        by_cases h3 : v2 < 0
        · rw [if_pos h3]
        · rw [if_neg h3, if_neg]
          rcases h2 with h2 | h2
          · exact absurd h2 h3
          · exact Int32.not_le.mpr h2
      · unfold f_Mo_reader
        rw [rT hE, Option.bind_some, in1_eq, if_neg h1]
        show (f_Mo_in1 v2 0 9 (mu E (th s))).bind _ = _
        rw [in1_eq, if_pos h2]; rfl
    · have h3 : ¬ v2 < 0 := fun h => h2 (Or.inl h)
      have h4 : v2 ≤ 9 := Int32.not_lt.mp (fun h => h2 (Or.inr h))
      refine ⟨1, E, s3 s 4 0 j v2, s3 (th (s3 s 4 0 j v2)) 54 0 j v2, hE, rfl, rfl, ?_, ?_, ?_⟩
      · unfold f_X_reader
        rw [xrd_eq, if_neg h1]
        show (if v2 < 0 then some (-2, mu E s) else if v2 ≤ 9 then _ else some (-2, mu E s)) = _
        rw [if_neg h3, if_pos h4, rR_0_6 hE o1, Option.bind_some, rS_4 hE o1 hj, Option.bind_some]
      · unfold f_Mo_reader
        rw [rT hE, Option.bind_some, in1_eq, if_neg h1]
        show (f_Mo_in1 v2 0 9 _).bind _ = _
        rw [in1_eq, if_neg h2]
        show (gR 1 24 _ _).bind _ = _
        rw [rR_30_24 hE o1, Option.bind_some, rS_54 hE o1 hj, Option.bind_some]
      · obtain ⟨a, b, c, d, e, f, g, i, jd, k, l⟩ := Inv_thS hI
        unfold Inv
        simp only [th, s3_k (show (0 : Nat) ≠ 4 by decide), s3_k (show (5 : Nat) ≠ 4 by decide), s3_k (show (6 : Nat) ≠ 4 by decide), s3_k (show (7 : Nat) ≠ 4 by decide), s3_k (show (8 : Nat) ≠ 4 by decide), s3_k (show (9 : Nat) ≠ 4 by decide), s3_k (show (10 : Nat) ≠ 4 by decide), s3_k (show (11 : Nat) ≠ 4 by decide), s3_k (show (12 : Nat) ≠ 4 by decide), s3_k (show (13 : Nat) ≠ 4 by decide), s3_k (show (14 : Nat) ≠ 4 by decide), s3_k (show (15 : Nat) ≠ 4 by decide), s3_k (show (16 : Nat) ≠ 4 by decide), s3_k (show (17 : Nat) ≠ 4 by decide), s3_k (show (18 : Nat) ≠ 4 by decide), s3_k (show (19 : Nat) ≠ 4 by decide), s3_k (show (20 : Nat) ≠ 4 by decide), s3_k (show (30 : Nat) ≠ 4 by decide), s3_k (show (32 : Nat) ≠ 4 by decide), s3_k (show (33 : Nat) ≠ 4 by decide), s3_k (show (34 : Nat) ≠ 4 by decide), s3_k (show (35 : Nat) ≠ 4 by decide), s3_k (show (36 : Nat) ≠ 4 by decide), s3_k (show (37 : Nat) ≠ 4 by decide), s3_k (show (38 : Nat) ≠ 4 by decide), s3_k (show (40 : Nat) ≠ 4 by decide), s3_k (show (41 : Nat) ≠ 4 by decide), s3_k (show (42 : Nat) ≠ 4 by decide), s3_k (show (43 : Nat) ≠ 4 by decide), s3_k (show (44 : Nat) ≠ 4 by decide), s3_k (show (45 : Nat) ≠ 4 by decide), s3_k (show (46 : Nat) ≠ 4 by decide), s3_k (show (48 : Nat) ≠ 4 by decide), s3_k (show (49 : Nat) ≠ 4 by decide), s3_k (show (50 : Nat) ≠ 4 by decide), s3_k (show (51 : Nat) ≠ 4 by decide), s3_k (show (52 : Nat) ≠ 4 by decide), s3_k (show (54 : Nat) ≠ 4 by decide), s3_k (show (56 : Nat) ≠ 4 by decide), s3_k (show (57 : Nat) ≠ 4 by decide), s3_k (show (58 : Nat) ≠ 4 by decide), s3_k (show (60 : Nat) ≠ 4 by decide), s3_k (show (61 : Nat) ≠ 4 by decide), s3_k (show (0 : Nat) ≠ 54 by decide), s3_k (show (4 : Nat) ≠ 54 by decide), s3_k (show (5 : Nat) ≠ 54 by decide), s3_k (show (6 : Nat) ≠ 54 by decide), s3_k (show (7 : Nat) ≠ 54 by decide), s3_k (show (8 : Nat) ≠ 54 by decide), s3_k (show (9 : Nat) ≠ 54 by decide), s3_k (show (10 : Nat) ≠ 54 by decide), s3_k (show (11 : Nat) ≠ 54 by decide), s3_k (show (12 : Nat) ≠ 54 by decide), s3_k (show (13 : Nat) ≠ 54 by decide), s3_k (show (14 : Nat) ≠ 54 by decide), s3_k (show (15 : Nat) ≠ 54 by decide), s3_k (show (16 : Nat) ≠ 54 by decide), s3_k (show (17 : Nat) ≠ 54 by decide), s3_k (show (18 : Nat) ≠ 54 by decide), s3_k (show (19 : Nat) ≠ 54 by decide), s3_k (show (20 : Nat) ≠ 54 by decide), s3_k (show (30 : Nat) ≠ 54 by decide), s3_k (show (32 : Nat) ≠ 54 by decide), s3_k (show (33 : Nat) ≠ 54 by decide), s3_k (show (34 : Nat) ≠ 54 by decide), s3_k (show (35 : Nat) ≠ 54 by decide), s3_k (show (36 : Nat) ≠ 54 by decide), s3_k (show (37 : Nat) ≠ 54 by decide), s3_k (show (38 : Nat) ≠ 54 by decide), s3_k (show (40 : Nat) ≠ 54 by decide), s3_k (show (41 : Nat) ≠ 54 by decide), s3_k (show (42 : Nat) ≠ 54 by decide), s3_k (show (43 : Nat) ≠ 54 by decide), s3_k (show (44 : Nat) ≠ 54 by decide), s3_k (show (45 : Nat) ≠ 54 by decide), s3_k (show (46 : Nat) ≠ 54 by decide), s3_k (show (48 : Nat) ≠ 54 by decide), s3_k (show (49 : Nat) ≠ 54 by decide), s3_k (show (50 : Nat) ≠ 54 by decide), s3_k (show (51 : Nat) ≠ 54 by decide), s3_k (show (52 : Nat) ≠ 54 by decide), s3_k (show (56 : Nat) ≠ 54 by decide), s3_k (show (57 : Nat) ≠ 54 by decide), s3_k (show (58 : Nat) ≠ 54 by decide), s3_k (show (60 : Nat) ≠ 54 by decide), s3_k (show (61 : Nat) ≠ 54 by decide), s3_k (show (0 : Nat) ≠ 30 by decide), s3_k (show (4 : Nat) ≠ 30 by decide), s3_k (show (5 : Nat) ≠ 30 by decide), s3_k (show (6 : Nat) ≠ 30 by decide), s3_k (show (7 : Nat) ≠ 30 by decide), s3_k (show (8 : Nat) ≠ 30 by decide), s3_k (show (9 : Nat) ≠ 30 by decide), s3_k (show (10 : Nat) ≠ 30 by decide), s3_k (show (11 : Nat) ≠ 30 by decide), s3_k (show (12 : Nat) ≠ 30 by decide), s3_k (show (13 : Nat) ≠ 30 by decide), s3_k (show (14 : Nat) ≠ 30 by decide), s3_k (show (15 : Nat) ≠ 30 by decide), s3_k (show (16 : Nat) ≠ 30 by decide), s3_k (show (17 : Nat) ≠ 30 by decide), s3_k (show (18 : Nat) ≠ 30 by decide), s3_k (show (19 : Nat) ≠ 30 by decide), s3_k (show (20 : Nat) ≠ 30 by decide), s3_k (show (32 : Nat) ≠ 30 by decide), s3_k (show (33 : Nat) ≠ 30 by decide), s3_k (show (34 : Nat) ≠ 30 by decide), s3_k (show (35 : Nat) ≠ 30 by decide), s3_k (show (36 : Nat) ≠ 30 by decide), s3_k (show (37 : Nat) ≠ 30 by decide), s3_k (show (38 : Nat) ≠ 30 by decide), s3_k (show (40 : Nat) ≠ 30 by decide), s3_k (show (41 : Nat) ≠ 30 by decide), s3_k (show (42 : Nat) ≠ 30 by decide), s3_k (show (43 : Nat) ≠ 30 by decide), s3_k (show (44 : Nat) ≠ 30 by decide), s3_k (show (45 : Nat) ≠ 30 by decide), s3_k (show (46 : Nat) ≠ 30 by decide), s3_k (show (48 : Nat) ≠ 30 by decide), s3_k (show (49 : Nat) ≠ 30 by decide), s3_k (show (50 : Nat) ≠ 30 by decide), s3_k (show (51 : Nat) ≠ 30 by decide), s3_k (show (52 : Nat) ≠ 30 by decide), s3_k (show (54 : Nat) ≠ 30 by decide), s3_k (show (56 : Nat) ≠ 30 by decide), s3_k (show (57 : Nat) ≠ 30 by decide), s3_k (show (58 : Nat) ≠ 30 by decide), s3_k (show (60 : Nat) ≠ 30 by decide), s3_k (show (61 : Nat) ≠ 30 by decide), s3_at] at *
        refine ⟨a, b, c, d, e, f, g, i, ?_, k, l⟩
        intro q hq
        unfold upd
        by_cases hqj : q = j
        · rw [if_pos hqj, if_pos hqj]
        · rw [if_neg hqj, if_neg hqj]; exact jd q hq
theorem op_told (hE : okE E) (hI : Inv E s n) (v1 v2 : Int32) : OpOK E s n (f_X_told (E.1 0 0) v1 v2) (f_Mo_told (E.1 30 0) v1 v2) := by
  obtain ⟨-, -, -, -, -, -, -, -, -, -, k, hk, o2, m29, ha⟩ := id hI
  rcases ix_cases v1 (n := k) (by omega) with h | ⟨j, hj, rfl⟩
  · refine ⟨-1, E, s, th s, hE, rfl, rfl, ?_, ?_, Inv_thS hI⟩
    · unfold f_X_told
      by_cases h0 : v1 < 0
      · rw [if_pos h0]
      · rw [if_neg h0, rR_0_8 hE o1, Option.bind_some, rI_9_2 hE o1, Option.bind_some, o2, if_neg (ix_nl (by omega) h h0)]
    · unfold f_Mo_told
      rw [rT hE, Option.bind_some, rI_30_29 hE o1, Option.bind_some, th_m (show (29 : Nat) ≠ 0 by decide), m29, in1_eq, if_pos h]; rfl
  · have hnj := ix_no (n := k) (by omega) hj
    have hl := ix_l (n := k) (by omega) hj
    have hx : ∀ w, f_X_told (E.1 0 0) (nI j) w (mu E s) = if w = 0 then some (s 10 0 j, mu E s) else if w = 1 then some (s 11 0 j, mu E s) else some (-1, mu E s) := by
      intro w
      unfold f_X_told
      rw [if_neg hl.1]
      simp only [rR_0_8 hE o1, Option.bind_some, rI_9_2 hE o1, o2, if_pos hl.2, rR_9_0 hE o1, rR_9_1 hE o1, rA_10 hE o1 (show j < 100 by omega), rA_11 hE o1 (show j < 100 by omega)]
    have hm : ∀ w, f_Mo_told (E.1 30 0) (nI j) w (mu E s) = if w = 0 then some (s 60 0 j, mu E (th s)) else if w = 1 then some (s 61 0 j, mu E (th s)) else some (-1, mu E (th s)) := by
      intro w
      unfold f_Mo_told
      rw [rT hE, Option.bind_some, rI_30_29 hE o1, Option.bind_some, th_m (show (29 : Nat) ≠ 0 by decide), m29, in1_eq, if_neg hnj]
      show (f_Mo_in1 w 0 1 _).bind _ = _
      rw [in1_eq]
      by_cases hw : w < 0 ∨ 1 < w
      · rw [if_pos hw]
        rw [if_neg (fun q => by rw [q] at hw; exact absurd hw (by decide)), if_neg (fun q => by rw [q] at hw; exact absurd hw (by decide))]; rfl
      · rw [if_neg hw]
        show (if w = 0 then _ else _) = _
        by_cases h0 : w = 0
        · rw [if_pos h0, if_pos h0, rR_30_30 hE o1, Option.bind_some, rA_60 hE o1 (show j < 100 by omega), Option.bind_some, th_k (show (60 : Nat) ≠ 30 by decide)]
        · rw [if_neg h0, if_neg h0, if_pos, rR_30_31 hE o1, Option.bind_some, rA_61 hE o1 (show j < 100 by omega), Option.bind_some, th_k (show (61 : Nat) ≠ 30 by decide)]
          rw [i_eq, show (1 : Int32).toInt = 1 by decide]
          rw [i_eq, show (0 : Int32).toInt = 0 by decide] at h0
          rw [i_lt, i_lt, show (1 : Int32).toInt = 1 by decide, show (0 : Int32).toInt = 0 by decide] at hw
          omega
    refine ⟨if v2 = 0 then s 10 0 j else if v2 = 1 then s 11 0 j else -1, E, s, th s, hE, rfl, rfl, ?_, ?_, Inv_thS hI⟩
    · rw [hx]
      split
      · rfl
      · split <;> rfl
    · rw [hm, (ha j hj).1, (ha j hj).2]
      split
      · rfl
      · split <;> rfl
theorem op_fails (hE : okE E) (hI : Inv E s n) (v1 v2 : Int32) (hv : v2 = 0 ∨ v2 = 1) : OpOK E s n (f_X_fails (E.1 0 0) v1 v2) (f_Mo_fails (E.1 30 0) v1 v2) := by
  obtain ⟨⟨hnp, hnt, hnr, x1, m1, x3, m9, x5, m17, x9⟩, -⟩ := id hI
  have hkb : kB v2 = some () := by rcases hv with rfl | rfl <;> rfl
  rcases ix_cases v1 (n := E.2.1.2.2) (by omega) with h | ⟨j, hj, rfl⟩
  · refine ⟨-1, E, s, th s, hE, rfl, rfl, ?_, ?_, Inv_thS hI⟩
    · unfold f_X_fails
      rw [rO_0 hE o1, Option.bind_some, fr_no hE x5 hnr h]; rfl
    · unfold f_Mo_fails
      rw [rT hE, Option.bind_some, rI_30_17 hE o1, Option.bind_some, th_m (show (17 : Nat) ≠ 0 by decide), m17, in1_eq, if_pos h]; rfl
  · refine ⟨1, E, s3 s 20 j 4 v2, s3 (th (s3 s 20 j 4 v2)) 52 0 j v2, hE, rfl, rfl, ?_, ?_, ?_⟩
    · unfold f_X_fails
      rw [rO_0 hE o1, Option.bind_some, fr_yes hE x5 hnr hj]
      show (kB v2).bind _ = _
      rw [hkb, Option.bind_some, rP_20_4 hE hj, Option.bind_some]
    · unfold f_Mo_fails
      rw [rT hE, Option.bind_some, rI_30_17 hE o1, Option.bind_some, th_m (show (17 : Nat) ≠ 0 by decide), s3_k (show (30 : Nat) ≠ 20 by decide), m17, in1_eq, if_neg (ix_no (by omega) hj)]
      show (gR 1 22 _ _).bind _ = _
      rw [rR_30_22 hE o1, Option.bind_some, rS_52 hE o1 (by omega) hv, Option.bind_some]
    · obtain ⟨a, b, c, d, e, f, g, ⟨i1, i2⟩, jd, k, l⟩ := Inv_thS hI
      unfold Inv
      simp only [th, s3_k (show (0 : Nat) ≠ 20 by decide), s3_k (show (4 : Nat) ≠ 20 by decide), s3_k (show (5 : Nat) ≠ 20 by decide), s3_k (show (6 : Nat) ≠ 20 by decide), s3_k (show (7 : Nat) ≠ 20 by decide), s3_k (show (8 : Nat) ≠ 20 by decide), s3_k (show (9 : Nat) ≠ 20 by decide), s3_k (show (10 : Nat) ≠ 20 by decide), s3_k (show (11 : Nat) ≠ 20 by decide), s3_k (show (12 : Nat) ≠ 20 by decide), s3_k (show (13 : Nat) ≠ 20 by decide), s3_k (show (14 : Nat) ≠ 20 by decide), s3_k (show (15 : Nat) ≠ 20 by decide), s3_k (show (16 : Nat) ≠ 20 by decide), s3_k (show (17 : Nat) ≠ 20 by decide), s3_k (show (18 : Nat) ≠ 20 by decide), s3_k (show (19 : Nat) ≠ 20 by decide), s3_k (show (30 : Nat) ≠ 20 by decide), s3_k (show (32 : Nat) ≠ 20 by decide), s3_k (show (33 : Nat) ≠ 20 by decide), s3_k (show (34 : Nat) ≠ 20 by decide), s3_k (show (35 : Nat) ≠ 20 by decide), s3_k (show (36 : Nat) ≠ 20 by decide), s3_k (show (37 : Nat) ≠ 20 by decide), s3_k (show (38 : Nat) ≠ 20 by decide), s3_k (show (40 : Nat) ≠ 20 by decide), s3_k (show (41 : Nat) ≠ 20 by decide), s3_k (show (42 : Nat) ≠ 20 by decide), s3_k (show (43 : Nat) ≠ 20 by decide), s3_k (show (44 : Nat) ≠ 20 by decide), s3_k (show (45 : Nat) ≠ 20 by decide), s3_k (show (46 : Nat) ≠ 20 by decide), s3_k (show (48 : Nat) ≠ 20 by decide), s3_k (show (49 : Nat) ≠ 20 by decide), s3_k (show (50 : Nat) ≠ 20 by decide), s3_k (show (51 : Nat) ≠ 20 by decide), s3_k (show (52 : Nat) ≠ 20 by decide), s3_k (show (54 : Nat) ≠ 20 by decide), s3_k (show (56 : Nat) ≠ 20 by decide), s3_k (show (57 : Nat) ≠ 20 by decide), s3_k (show (58 : Nat) ≠ 20 by decide), s3_k (show (60 : Nat) ≠ 20 by decide), s3_k (show (61 : Nat) ≠ 20 by decide), s3_k (show (0 : Nat) ≠ 52 by decide), s3_k (show (4 : Nat) ≠ 52 by decide), s3_k (show (5 : Nat) ≠ 52 by decide), s3_k (show (6 : Nat) ≠ 52 by decide), s3_k (show (7 : Nat) ≠ 52 by decide), s3_k (show (8 : Nat) ≠ 52 by decide), s3_k (show (9 : Nat) ≠ 52 by decide), s3_k (show (10 : Nat) ≠ 52 by decide), s3_k (show (11 : Nat) ≠ 52 by decide), s3_k (show (12 : Nat) ≠ 52 by decide), s3_k (show (13 : Nat) ≠ 52 by decide), s3_k (show (14 : Nat) ≠ 52 by decide), s3_k (show (15 : Nat) ≠ 52 by decide), s3_k (show (16 : Nat) ≠ 52 by decide), s3_k (show (17 : Nat) ≠ 52 by decide), s3_k (show (18 : Nat) ≠ 52 by decide), s3_k (show (19 : Nat) ≠ 52 by decide), s3_k (show (20 : Nat) ≠ 52 by decide), s3_k (show (30 : Nat) ≠ 52 by decide), s3_k (show (32 : Nat) ≠ 52 by decide), s3_k (show (33 : Nat) ≠ 52 by decide), s3_k (show (34 : Nat) ≠ 52 by decide), s3_k (show (35 : Nat) ≠ 52 by decide), s3_k (show (36 : Nat) ≠ 52 by decide), s3_k (show (37 : Nat) ≠ 52 by decide), s3_k (show (38 : Nat) ≠ 52 by decide), s3_k (show (40 : Nat) ≠ 52 by decide), s3_k (show (41 : Nat) ≠ 52 by decide), s3_k (show (42 : Nat) ≠ 52 by decide), s3_k (show (43 : Nat) ≠ 52 by decide), s3_k (show (44 : Nat) ≠ 52 by decide), s3_k (show (45 : Nat) ≠ 52 by decide), s3_k (show (46 : Nat) ≠ 52 by decide), s3_k (show (48 : Nat) ≠ 52 by decide), s3_k (show (49 : Nat) ≠ 52 by decide), s3_k (show (50 : Nat) ≠ 52 by decide), s3_k (show (51 : Nat) ≠ 52 by decide), s3_k (show (54 : Nat) ≠ 52 by decide), s3_k (show (56 : Nat) ≠ 52 by decide), s3_k (show (57 : Nat) ≠ 52 by decide), s3_k (show (58 : Nat) ≠ 52 by decide), s3_k (show (60 : Nat) ≠ 52 by decide), s3_k (show (61 : Nat) ≠ 52 by decide), s3_k (show (0 : Nat) ≠ 30 by decide), s3_k (show (4 : Nat) ≠ 30 by decide), s3_k (show (5 : Nat) ≠ 30 by decide), s3_k (show (6 : Nat) ≠ 30 by decide), s3_k (show (7 : Nat) ≠ 30 by decide), s3_k (show (8 : Nat) ≠ 30 by decide), s3_k (show (9 : Nat) ≠ 30 by decide), s3_k (show (10 : Nat) ≠ 30 by decide), s3_k (show (11 : Nat) ≠ 30 by decide), s3_k (show (12 : Nat) ≠ 30 by decide), s3_k (show (13 : Nat) ≠ 30 by decide), s3_k (show (14 : Nat) ≠ 30 by decide), s3_k (show (15 : Nat) ≠ 30 by decide), s3_k (show (16 : Nat) ≠ 30 by decide), s3_k (show (17 : Nat) ≠ 30 by decide), s3_k (show (18 : Nat) ≠ 30 by decide), s3_k (show (19 : Nat) ≠ 30 by decide), s3_k (show (20 : Nat) ≠ 30 by decide), s3_k (show (32 : Nat) ≠ 30 by decide), s3_k (show (33 : Nat) ≠ 30 by decide), s3_k (show (34 : Nat) ≠ 30 by decide), s3_k (show (35 : Nat) ≠ 30 by decide), s3_k (show (36 : Nat) ≠ 30 by decide), s3_k (show (37 : Nat) ≠ 30 by decide), s3_k (show (38 : Nat) ≠ 30 by decide), s3_k (show (40 : Nat) ≠ 30 by decide), s3_k (show (41 : Nat) ≠ 30 by decide), s3_k (show (42 : Nat) ≠ 30 by decide), s3_k (show (43 : Nat) ≠ 30 by decide), s3_k (show (44 : Nat) ≠ 30 by decide), s3_k (show (45 : Nat) ≠ 30 by decide), s3_k (show (46 : Nat) ≠ 30 by decide), s3_k (show (48 : Nat) ≠ 30 by decide), s3_k (show (49 : Nat) ≠ 30 by decide), s3_k (show (50 : Nat) ≠ 30 by decide), s3_k (show (51 : Nat) ≠ 30 by decide), s3_k (show (52 : Nat) ≠ 30 by decide), s3_k (show (54 : Nat) ≠ 30 by decide), s3_k (show (56 : Nat) ≠ 30 by decide), s3_k (show (57 : Nat) ≠ 30 by decide), s3_k (show (58 : Nat) ≠ 30 by decide), s3_k (show (60 : Nat) ≠ 30 by decide), s3_k (show (61 : Nat) ≠ 30 by decide), s3_at] at *
      refine ⟨a, b, c, d, e, f, g, ⟨fun q hq => ?_, fun q h1 h2 => ?_⟩, jd, k, l⟩
      · obtain ⟨c0, c1, c2, c3, c4, c5, c6⟩ := i1 q hq
        by_cases hqj : q = j
        · subst hqj
          rw [s3_at]
          refine ⟨c0, c1, c2, c3, ?_, ?_, c6⟩
          · simp [upd]
          · simpa [upd] using hv
        · rw [s3_b hqj]
          refine ⟨c0, c1, c2, c3, ?_, ?_, c6⟩
          · simpa [upd, hqj] using c4
          · simpa [upd, hqj] using c5
      · have hqj : q ≠ j := by omega
        simpa [upd, hqj] using i2 q h1 h2
end OPS1
