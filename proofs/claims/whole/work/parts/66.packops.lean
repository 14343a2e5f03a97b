theorem Inv_RL {E : ev} {s s1 t' : st} {n : Nat} (hI : Inv E s n) (h1 : Only [12, 13, 14, 15, 16] s s1) (h2 : Only [32, 33, 34, 35, 36, 37, 38] (th s1) t') (h : RL E s1 t') : Inv E t' (n + 1) := by
  have e : ∀ a, a ∉ [12, 13, 14, 15, 16] → a ∉ [32, 33, 34, 35, 36, 37, 38] → t' a = th s a := fun a h3 h4 => by
    rw [h2 a h4]
    unfold th
    by_cases ha : a = 30
    · subst ha
      rw [s3_u2, s3_u2, h1 30 h3]
    · rw [s3_k ha, s3_k ha, h1 a h3]
  have c : ∀ a, a ∈ [12, 13, 14, 15, 16] → t' a = s1 a := fun a ha => by
    rw [h2 a (by intro hb; simp at ha hb; omega), th_k (by intro hb; simp at ha; omega)]
  obtain ⟨a, -, -, -, -, f, g, i, j, k, l⟩ := Inv_thS hI
  obtain ⟨r1, r2, r3, r4⟩ := h
  unfold Inv
  rw [c 12 (by decide), c 13 (by decide), c 14 (by decide), c 15 (by decide), c 16 (by decide)]
  rw [e 0 (by decide) (by decide), e 30 (by decide) (by decide), e 17 (by decide) (by decide), e 40 (by decide) (by decide), e 41 (by decide) (by decide), e 42 (by decide) (by decide), e 43 (by decide) (by decide), e 18 (by decide) (by decide), e 19 (by decide) (by decide), e 44 (by decide) (by decide), e 45 (by decide) (by decide), e 46 (by decide) (by decide), e 20 (by decide) (by decide), e 48 (by decide) (by decide), e 49 (by decide) (by decide), e 50 (by decide) (by decide), e 51 (by decide) (by decide), e 52 (by decide) (by decide), e 4 (by decide) (by decide), e 54 (by decide) (by decide), e 5 (by decide) (by decide), e 6 (by decide) (by decide), e 7 (by decide) (by decide), e 8 (by decide) (by decide), e 56 (by decide) (by decide), e 57 (by decide) (by decide), e 58 (by decide) (by decide), e 9 (by decide) (by decide), e 10 (by decide) (by decide), e 11 (by decide) (by decide), e 60 (by decide) (by decide), e 61 (by decide) (by decide)]
  exact ⟨a, r1, r2, r3, r4, f, g, i, j, k, l⟩
theorem RL_of {E : ev} {s : st} {n : Nat} (hI : Inv E s n) : RL E s s := ⟨hI.2.1, hI.2.2.1, hI.2.2.2.1, hI.2.2.2.2.1⟩
/-- the Model's rows alone count -/
theorem RL_t {E : ev} {s t t' : st} (h : RL E s t) (ht : ∀ a, 32 ≤ a → a ≤ 38 → t' a = t a) : RL E s t' := by
  unfold RL at *
  rw [ht 32 (by decide) (by decide), ht 33 (by decide) (by decide), ht 34 (by decide) (by decide), ht 35 (by decide) (by decide), ht 36 (by decide) (by decide), ht 37 (by decide) (by decide), ht 38 (by decide) (by decide)]
  exact h
theorem Only_wk {K K' : List Nat} {s s' : st} (h : Only K s s') (hk : ∀ a, a ∈ K → a ∈ K') : Only K' s s' := fun a ha => h a (fun hb => ha (hk a hb))
theorem iPk_room {np i : Nat} {p : Nat → Nat → Int32} {m32 m33 m34 : Nat → Int32} {c : Nat} (h : iPk np p m32 m33 m34) (hc : c ≤ 100) : iPk np (u2 p i 4 (nI c)) m32 (upd m33 i (nI c)) m34 := by
  intro q hq
  obtain ⟨p0, p1, p2, p4, pc, p5, p6⟩ := h q hq
  by_cases hqi : q = i
  · subst hqi
    rw [u2_at]
    exact ⟨p0, p1, p2, by rw [upd_at, upd_at], ⟨c, hc, upd_at⟩, p5, p6⟩
  · rw [u2_ne hqi, upd_ne hqi]
    exact ⟨p0, p1, p2, p4, pc, p5, p6⟩
section POPS
variable {E : ev} {s : st} {n : Nat}
theorem op_room (hE : okE E) (hI : Inv E s n) (v1 v2 : Int32) : OpOK E s n (f_X_room (E.1 0 0) v1 v2) (f_Mo_room (E.1 30 0) v1 v2) := by
  obtain ⟨⟨hnp, hnt, hnr, x1, m1, x3, m9, x5, m17, x9⟩, -⟩ := id hI
  rcases ix_cases v1 (n := E.2.1.1) (by omega) with h | ⟨i, hi, rfl⟩
  · refine ⟨-1, E, s, th s, hE, rfl, rfl, ?_, ?_, Inv_thS hI⟩
    · unfold f_X_room
      rw [rO_0 hE o1, Option.bind_some, fp_no hE x1 hnp h]; rfl
    · unfold f_Mo_room
      rw [rT hE, Option.bind_some, rO_30 hE o1, Option.bind_some, ip_eq hE (by rw [th_m (show (1 : Nat) ≠ 0 by decide)]; exact m1), if_pos h]; rfl
  · have hm1 : th s 30 0 1 = nI E.2.1.1 := by rw [th_m (show (1 : Nat) ≠ 0 by decide)]; exact m1
    rcases ix_cases v2 (n := 101) (by omega) with h2 | ⟨c, hc, rfl⟩
    · have h2 : v2 < 0 ∨ 100 < v2 := h2
      refine ⟨-2, E, s, th s, hE, rfl, rfl, ?_, ?_, Inv_thS hI⟩
      · unfold f_X_room
        rw [rO_0 hE o1, Option.bind_some, fp_yes hE x1 hnp hi]
        show (if v2 < 0 then _ else _) = _
        by_cases h3 : v2 < 0
        · rw [if_pos h3]
        · rw [if_neg h3, if_neg]
          rcases h2 with h2 | h2
          · exact absurd h2 h3
          · exact Int32.not_le.mpr h2
      · unfold f_Mo_room
        rw [rT hE, Option.bind_some, rO_30 hE o1, Option.bind_some, ip_eq hE hm1, if_neg (ix_no (by omega) hi)]
        show (f_Mo_in1 v2 0 100 _).bind _ = _
        rw [in1_eq, if_pos h2]; rfl
    · have hc1 : ¬ nI c < 0 := nI_nn (by omega)
      have hc2 : nI c ≤ 100 := nI_le (b := 100) (by omega) (by omega)
      have hR : RL E (s3 s 12 i 4 (nI c)) (s3 (th s) 33 0 i (nI c)) := by
        obtain ⟨r1, r2, r3, r4⟩ := RL_of hI
        unfold RL
        simp only [th, s3_u2, s3_k (show (0 : Nat) ≠ 12 by decide), s3_k (show (4 : Nat) ≠ 12 by decide), s3_k (show (5 : Nat) ≠ 12 by decide), s3_k (show (6 : Nat) ≠ 12 by decide), s3_k (show (7 : Nat) ≠ 12 by decide), s3_k (show (8 : Nat) ≠ 12 by decide), s3_k (show (9 : Nat) ≠ 12 by decide), s3_k (show (10 : Nat) ≠ 12 by decide), s3_k (show (11 : Nat) ≠ 12 by decide), s3_k (show (13 : Nat) ≠ 12 by decide), s3_k (show (14 : Nat) ≠ 12 by decide), s3_k (show (15 : Nat) ≠ 12 by decide), s3_k (show (16 : Nat) ≠ 12 by decide), s3_k (show (17 : Nat) ≠ 12 by decide), s3_k (show (18 : Nat) ≠ 12 by decide), s3_k (show (19 : Nat) ≠ 12 by decide), s3_k (show (20 : Nat) ≠ 12 by decide), s3_k (show (30 : Nat) ≠ 12 by decide), s3_k (show (32 : Nat) ≠ 12 by decide), s3_k (show (33 : Nat) ≠ 12 by decide), s3_k (show (34 : Nat) ≠ 12 by decide), s3_k (show (35 : Nat) ≠ 12 by decide), s3_k (show (36 : Nat) ≠ 12 by decide), s3_k (show (37 : Nat) ≠ 12 by decide), s3_k (show (38 : Nat) ≠ 12 by decide), s3_k (show (40 : Nat) ≠ 12 by decide), s3_k (show (41 : Nat) ≠ 12 by decide), s3_k (show (42 : Nat) ≠ 12 by decide), s3_k (show (43 : Nat) ≠ 12 by decide), s3_k (show (44 : Nat) ≠ 12 by decide), s3_k (show (45 : Nat) ≠ 12 by decide), s3_k (show (46 : Nat) ≠ 12 by decide), s3_k (show (48 : Nat) ≠ 12 by decide), s3_k (show (49 : Nat) ≠ 12 by decide), s3_k (show (50 : Nat) ≠ 12 by decide), s3_k (show (51 : Nat) ≠ 12 by decide), s3_k (show (52 : Nat) ≠ 12 by decide), s3_k (show (54 : Nat) ≠ 12 by decide), s3_k (show (56 : Nat) ≠ 12 by decide), s3_k (show (57 : Nat) ≠ 12 by decide), s3_k (show (58 : Nat) ≠ 12 by decide), s3_k (show (60 : Nat) ≠ 12 by decide), s3_k (show (61 : Nat) ≠ 12 by decide), s3_k (show (0 : Nat) ≠ 33 by decide), s3_k (show (4 : Nat) ≠ 33 by decide), s3_k (show (5 : Nat) ≠ 33 by decide), s3_k (show (6 : Nat) ≠ 33 by decide), s3_k (show (7 : Nat) ≠ 33 by decide), s3_k (show (8 : Nat) ≠ 33 by decide), s3_k (show (9 : Nat) ≠ 33 by decide), s3_k (show (10 : Nat) ≠ 33 by decide), s3_k (show (11 : Nat) ≠ 33 by decide), s3_k (show (12 : Nat) ≠ 33 by decide), s3_k (show (13 : Nat) ≠ 33 by decide), s3_k (show (14 : Nat) ≠ 33 by decide), s3_k (show (15 : Nat) ≠ 33 by decide), s3_k (show (16 : Nat) ≠ 33 by decide), s3_k (show (17 : Nat) ≠ 33 by decide), s3_k (show (18 : Nat) ≠ 33 by decide), s3_k (show (19 : Nat) ≠ 33 by decide), s3_k (show (20 : Nat) ≠ 33 by decide), s3_k (show (30 : Nat) ≠ 33 by decide), s3_k (show (32 : Nat) ≠ 33 by decide), s3_k (show (34 : Nat) ≠ 33 by decide), s3_k (show (35 : Nat) ≠ 33 by decide), s3_k (show (36 : Nat) ≠ 33 by decide), s3_k (show (37 : Nat) ≠ 33 by decide), s3_k (show (38 : Nat) ≠ 33 by decide), s3_k (show (40 : Nat) ≠ 33 by decide), s3_k (show (41 : Nat) ≠ 33 by decide), s3_k (show (42 : Nat) ≠ 33 by decide), s3_k (show (43 : Nat) ≠ 33 by decide), s3_k (show (44 : Nat) ≠ 33 by decide), s3_k (show (45 : Nat) ≠ 33 by decide), s3_k (show (46 : Nat) ≠ 33 by decide), s3_k (show (48 : Nat) ≠ 33 by decide), s3_k (show (49 : Nat) ≠ 33 by decide), s3_k (show (50 : Nat) ≠ 33 by decide), s3_k (show (51 : Nat) ≠ 33 by decide), s3_k (show (52 : Nat) ≠ 33 by decide), s3_k (show (54 : Nat) ≠ 33 by decide), s3_k (show (56 : Nat) ≠ 33 by decide), s3_k (show (57 : Nat) ≠ 33 by decide), s3_k (show (58 : Nat) ≠ 33 by decide), s3_k (show (60 : Nat) ≠ 33 by decide), s3_k (show (61 : Nat) ≠ 33 by decide), s3_k (show (0 : Nat) ≠ 30 by decide), s3_k (show (4 : Nat) ≠ 30 by decide), s3_k (show (5 : Nat) ≠ 30 by decide), s3_k (show (6 : Nat) ≠ 30 by decide), s3_k (show (7 : Nat) ≠ 30 by decide), s3_k (show (8 : Nat) ≠ 30 by decide), s3_k (show (9 : Nat) ≠ 30 by decide), s3_k (show (10 : Nat) ≠ 30 by decide), s3_k (show (11 : Nat) ≠ 30 by decide), s3_k (show (12 : Nat) ≠ 30 by decide), s3_k (show (13 : Nat) ≠ 30 by decide), s3_k (show (14 : Nat) ≠ 30 by decide), s3_k (show (15 : Nat) ≠ 30 by decide), s3_k (show (16 : Nat) ≠ 30 by decide), s3_k (show (17 : Nat) ≠ 30 by decide), s3_k (show (18 : Nat) ≠ 30 by decide), s3_k (show (19 : Nat) ≠ 30 by decide), s3_k (show (20 : Nat) ≠ 30 by decide), s3_k (show (32 : Nat) ≠ 30 by decide), s3_k (show (33 : Nat) ≠ 30 by decide), s3_k (show (34 : Nat) ≠ 30 by decide), s3_k (show (35 : Nat) ≠ 30 by decide), s3_k (show (36 : Nat) ≠ 30 by decide), s3_k (show (37 : Nat) ≠ 30 by decide), s3_k (show (38 : Nat) ≠ 30 by decide), s3_k (show (40 : Nat) ≠ 30 by decide), s3_k (show (41 : Nat) ≠ 30 by decide), s3_k (show (42 : Nat) ≠ 30 by decide), s3_k (show (43 : Nat) ≠ 30 by decide), s3_k (show (44 : Nat) ≠ 30 by decide), s3_k (show (45 : Nat) ≠ 30 by decide), s3_k (show (46 : Nat) ≠ 30 by decide), s3_k (show (48 : Nat) ≠ 30 by decide), s3_k (show (49 : Nat) ≠ 30 by decide), s3_k (show (50 : Nat) ≠ 30 by decide), s3_k (show (51 : Nat) ≠ 30 by decide), s3_k (show (52 : Nat) ≠ 30 by decide), s3_k (show (54 : Nat) ≠ 30 by decide), s3_k (show (56 : Nat) ≠ 30 by decide), s3_k (show (57 : Nat) ≠ 30 by decide), s3_k (show (58 : Nat) ≠ 30 by decide), s3_k (show (60 : Nat) ≠ 30 by decide), s3_k (show (61 : Nat) ≠ 30 by decide), s3_at]
        exact ⟨iPk_room r1 (by omega), r2, r3, r4⟩
      obtain ⟨w, w1, w2, -⟩ := (RL_of hI).2.2.1.1 i hi
      obtain ⟨k, s1, a1, a2, aM⟩ := room_sim hE hnp hi w FU 0 _ _ hR (by rw [s3_k (by decide)]; exact w2) w1 (by omega) (by unfold FU; omega)
      obtain ⟨t1, b1, b2, b3⟩ := aM FU (s3 (th s1) 33 0 i (nI c)) (by unfold FU; omega) (RL_t hR (fun a ha hb => by
        by_cases h33 : a = 33
        · subst h33
          rw [s3_u2, s3_u2, th_k (by decide), th_k (by decide), a2 33 (by decide), s3_k (by decide)]
        · rw [s3_k h33, s3_k h33, th_k (by omega), th_k (by omega), a2 a (by intro hm; simp at hm; omega), s3_k (by omega)]))
      refine ⟨k, E, s1, t1, hE, rfl, rfl, ?_, ?_, ?_⟩
      · unfold f_X_room
        rw [rO_0 hE o1, Option.bind_some, fp_yes hE x1 hnp hi]
        show (if nI c < 0 then _ else _) = _
        rw [if_neg hc1, if_pos hc2, rP_12_4 hE hi, Option.bind_some]
        exact a1
      · unfold f_Mo_room
        rw [rT hE, Option.bind_some, rO_30 hE o1, Option.bind_some, ip_eq hE (by rw [th_m (show (1 : Nat) ≠ 0 by decide), a2 30 (by decide), s3_k (by decide)]; exact m1), if_neg (ix_no (by omega) hi)]
        show (f_Mo_in1 (nI c) 0 100 _).bind _ = _
        rw [in1_eq, if_neg (fun h => h.elim hc1 (Int32.not_lt.mpr hc2))]
        show (gR 1 3 _ _).bind _ = _
        rw [rR_30_3 hE o1, Option.bind_some, rS_33 hE o1 (by omega), Option.bind_some]
        exact b1
      · exact Inv_RL hI (Only_tr (Only_s3 (by decide)) (Only_wk a2 (by decide))) (Only_tr (Only_s3 (by decide)) (Only_wk b3 (by decide))) b2
end POPS
