/-! title -/
section TIT
variable {E : ev} {s : st} {n : Nat}
theorem m_findN {x y : Int32} {N : Nat} (hE : okE E) (hnt : N ≤ 200) (hc : s 30 0 9 = nI N) : ∀ (k fu j : Nat), k < fu → j + k = N → f_Mo_find_b2 fu (E.1 30 0) x y (nI j) (mu E s) = some (fbI (fb (fun q => decide (s 40 0 q = x) && decide (s 41 0 q = y)) k j), mu E s) := by
  intro k
  induction k with
  | zero =>
    intro fu j h1 h2
    obtain ⟨f, rfl⟩ : ∃ f, fu = f + 1 := ⟨fu - 1, by omega⟩
    unfold f_Mo_find_b2
    rw [rI_30_9 hE o1, Option.bind_some, hc, if_pos (nI_le (by omega) (by omega))]; rfl
  | succ k ih =>
    intro fu j h1 h2
    obtain ⟨f, rfl⟩ : ∃ f, fu = f + 1 := ⟨fu - 1, by omega⟩
    unfold f_Mo_find_b2 fb
    rw [rI_30_9 hE o1, Option.bind_some, hc, if_neg (nI_ge (by omega) (by omega)), rR_30_10 hE o1, Option.bind_some, rA_40 hE o1 (by omega), Option.bind_some, nI_1]
    by_cases c1 : s 40 0 j = x
    · rw [if_pos c1, rR_30_11 hE o1, Option.bind_some, rA_41 hE o1 (by omega), Option.bind_some]
      by_cases c2 : s 41 0 j = y
      · rw [if_pos c2, if_pos (and_t c1 c2)]; rfl
      · rw [if_neg c2, if_neg (and_f2 c2), ih f (j + 1) (by omega) (by omega)]
    · rw [if_neg c1, if_neg (and_f1 c1), ih f (j + 1) (by omega) (by omega)]
theorem m_fnN (hE : okE E) {N : Nat} (hnt : N ≤ 200) (x y : Int32) (s1 : st) (h30 : s1 30 0 9 = nI N) (h40 : s1 40 = s 40) (h41 : s1 41 = s 41) : f_Mo_find (E.1 30 0) x y (mu E s1) = some (fbI (fb (fun q => decide (s 40 0 q = x) && decide (s 41 0 q = y)) N 0), mu E s1) := by
  unfold f_Mo_find
  rw [show f_Mo_find_b2 FU (E.1 30 0) x y 0 (mu E s1) = _ from m_findN hE hnt h30 N FU 0 (by unfold FU; omega) (by omega), h40, h41]
def rwT (h v : Int32) : Nat → Nat → Int32 := fun k j => if k = 17 then (match j with
  | 0 => h
  | 1 => v
  | 2 => 1
  | _ => 0) else 0
def offT : Nat → Nat := fun k => k - 17
def cnT (E : ev) : Nat × Nat × Nat := (E.2.1.1, E.2.1.2.1 + 1, E.2.1.2.2)
theorem grT (E : ev) : Gr E 17 19 E.2.1.2.1 offT (cnT E) 3 := by
  refine ⟨lc_t rfl, ?_, ?_, ?_⟩
  · intro k h1 h2
    obtain rfl | rfl | rfl : k = 17 ∨ k = 18 ∨ k = 19 := by omega
    · exact Nat.lt_irrefl _
    · exact Nat.lt_irrefl _
    · exact Nat.lt_irrefl _
  · intro k h1 h2
    unfold offT
    omega
  · intro k k' h1 h2 h3 h4 h5
    unfold offT at h5
    omega
theorem ctrT (hE : okE E) {i : Nat} (hi : i < E.2.1.1) (hnp : E.2.1.1 ≤ 20) (v : Int32) : ctr (gE E 17 19 E.2.1.2.1 offT (cnT E) 3) (rwT (nI i) v 17) 17 E.2.1.2.1 = .inr (6, [.ref (E.1 12 i), .int v, .int 1, .int 0, .ref (E.2.2.1 + 1), .ref (E.2.2.1 + 2), .int 0]) := by
  have hG := grT E
  show (Sum.inr (6, [.ref ((gE E 17 19 E.2.1.2.1 offT (cnT E) 3).1 12 (nI i).toNatClampNeg), .int v, .int 1, .int 0, .ref ((gE E 17 19 E.2.1.2.1 offT (cnT E) 3).1 18 E.2.1.2.1), .ref ((gE E 17 19 E.2.1.2.1 offT (cnT E) 3).1 19 E.2.1.2.1), .int 0]) : va_E) = _
  rw [nI_clamp (by omega), gE_o hG (show i < lc E 12 from hi), gE_n (by omega) (by omega), gE_n (by omega) (by omega)]
  rfl
theorem x_title_new (hE : okE E) (hI : Inv E s n) (hr : E.2.1.2.1 < 200) {i : Nat} (hi : i < E.2.1.1) {v2 : Int32} (hf : fb (fun q => decide (s 40 0 q = nI i) && decide (s 41 0 q = v2)) E.2.1.2.1 0 = none) : f_X_title (E.1 0 0) (nI i) v2 (mu E s) = some (nI E.2.1.2.1 + 1 - 1, mu (gE E 17 19 E.2.1.2.1 offT (cnT E) 3) (s3 (gS s 17 19 E.2.1.2.1 (rwT (nI i) v2)) 0 0 3 (nI E.2.1.2.1 + 1))) := by
  obtain ⟨⟨hnp, hnt, hnr, x1, m1, x3, m9, x5, m17, x9⟩, -⟩ := id hI
  have hG := grT E
  have hE' := gE_ok hE hG
  unfold f_X_title
  rw [rO_0 hE o1, Option.bind_some, fp_yes hE x1 hnp hi]
  show (kO 0 (mu E s) (E.1 0 0)).bind _ = _
  rw [rO_0 hE o1, Option.bind_some, x_fn hE hI, hf]
  show (gI 0 3 (mu E s) (E.1 0 0)).bind _ = _
  rw [rI_0_3 hE o1, Option.bind_some, x3, if_pos (show nI E.2.1.2.1 < 200 from (lt_nI (b := 200) (by omega) (by omega)).mpr hr), rR_0_2 hE o1, Option.bind_some, Option.bind_some]
  simp only [nO, Option.bind_some]
  rw [show f_Title_init (mu E s).1 (E.1 12 i) v2 (mm_ad (mu E s) (.inr (6, [.null, .int 0, .int 0, .int 0, .null, .null, .int 0]))) = _ from titleInit _ _ _]
  simp only [Option.bind_some]
  have l3 := hE.2 2 0 o1
  rw [sR_hit (n := 200) (f := fun j => if j < E.2.1.2.1 then some (E.1 17 j) else none) (fs := [.ref (E.1 12 i), .int v2, .int 1, .int 0, .ref (E.2.2.1 + 1), .ref (E.2.2.1 + 2), .int 0]) (by
    show (if E.1 2 0 = E.2.2.1 then _ else if E.1 2 0 = E.2.2.1 + 1 then _ else if E.1 2 0 = E.2.2.1 + 2 then _ else (mu E s).2 (E.1 2 0)) = _
    rw [if_neg (by omega), if_neg (by omega), if_neg (by omega), mu_at hE o1]; rfl) (if_pos rfl) hr (by decide), Option.bind_some]
  rw [grow (E := E) (s := s) (ka := 2) (row := rwT (nI i) v2) hE hG (h17_of hI) o1 (by omega) (by omega) rfl (fun a ha => by
    have a0 : a ≠ E.2.2.1 := ha 17 (by omega) (by omega)
    have a1 : a ≠ E.2.2.1 + 1 := ha 18 (by omega) (by omega)
    have a2 : a ≠ E.2.2.1 + 2 := ha 19 (by omega) (by omega)
    show (if a = E.2.2.1 then _ else if a = E.2.2.1 + 1 then _ else if a = E.2.2.1 + 2 then _ else (mu E s).2 a) = _
    rw [if_neg a0, if_neg a1, if_neg a2]) (fun k h1 h2 => by
    obtain rfl | rfl | rfl : k = 17 ∨ k = 18 ∨ k = 19 := by omega
    · rw [ctrT hE hi hnp]
      exact if_pos rfl
    · show (if E.2.2.1 + 1 = E.2.2.1 then _ else if E.2.2.1 + 1 = E.2.2.1 + 1 then _ else _) = _
      rw [if_neg (by omega), if_pos rfl]; rfl
    · show (if E.2.2.1 + 2 = E.2.2.1 then _ else if E.2.2.1 + 2 = E.2.2.1 + 1 then _ else if E.2.2.1 + 2 = E.2.2.1 + 2 then _ else _) = _
      rw [if_neg (by omega), if_neg (by omega), if_pos rfl]; rfl) (fun k hk hq => by
    rcases hk with rfl | rfl | rfl
    · exact arr_1 rfl (fun j hj => gE_o hG hj)
    · exact absurd rfl hq
    · exact arr_3 rfl (fun j hj => gE_o hG hj)) (by
    rw [show (mu E s).1 = E.2.2.1 from rfl, arr_up (n := E.2.1.2.1) (z := E.2.2.1) (A := E.1 17) (A' := (gE E 17 19 E.2.1.2.1 offT (cnT E) 3).1 17) (fun j hj => gE_o hG (show j < lc E 17 from hj)) (gE_n (by omega) (by omega))]; rfl)]
  rw [← gE_o hG (show 0 < lc E 0 from o1), rI_0_3 hE' o1, Option.bind_some, gS_k (by omega), x3, rP_0_3 hE' o1, Option.bind_some, rI_0_3 hE' o1, Option.bind_some, s3_at]
  rfl
theorem op_title (hE : okE E) (hI : Inv E s n) (v1 v2 : Int32) : OpOK E s n (f_X_title (E.1 0 0) v1 v2) (f_Mo_title (E.1 30 0) v1 v2) := by
  obtain ⟨⟨hnp, hnt, hnr, x1, m1, x3, m9, x5, m17, x9⟩, -⟩ := id hI
  have hm1 : th s 30 0 1 = nI E.2.1.1 := by rw [th_m (show (1 : Nat) ≠ 0 by decide)]; exact m1
  have hm9 : th s 30 0 9 = nI E.2.1.2.1 := by rw [th_m (show (9 : Nat) ≠ 0 by decide)]; exact m9
  rcases ix_cases v1 (n := E.2.1.1) (by omega) with h | ⟨i, hi, rfl⟩
  · refine ⟨-1, E, s, th s, hE, rfl, rfl, ?_, ?_, Inv_thS hI⟩
    · unfold f_X_title
      rw [rO_0 hE o1, Option.bind_some, fp_no hE x1 hnp h]; rfl
    · unfold f_Mo_title
      rw [rT hE, Option.bind_some, rO_30 hE o1, Option.bind_some, ip_eq hE hm1, if_pos h]; rfl
  cases hf : fb (fun q => decide (s 40 0 q = nI i) && decide (s 41 0 q = v2)) E.2.1.2.1 0 with
  | some j =>
    have hj := (fb_lt _ _ _ hf).2
    refine ⟨-3, E, s, th s, hE, rfl, rfl, ?_, ?_, Inv_thS hI⟩
    · unfold f_X_title
      rw [rO_0 hE o1, Option.bind_some, fp_yes hE x1 hnp hi]
      show (kO 0 (mu E s) (E.1 0 0)).bind _ = _
      rw [rO_0 hE o1, Option.bind_some, x_fn hE hI, hf]; rfl
    · unfold f_Mo_title
      rw [rT hE, Option.bind_some, rO_30 hE o1, Option.bind_some, ip_eq hE hm1, if_neg (ix_no (by omega) hi)]
      show (kO 1 (mu E (th s)) (E.1 30 0)).bind _ = _
      rw [rO_30 hE o1, Option.bind_some, m_fnN (s := s) hE hnt _ _ (th s) hm9 (th_k (by decide)) (th_k (by decide)), hf]
      show (if nI j < 0 then _ else _) = _
      rw [if_neg (nI_nn (by omega))]
  | none =>
    by_cases hr : E.2.1.2.1 < 200
    · have hG := grT E
      have hE' := gE_ok hE hG
      have hy : (gE E 17 19 E.2.1.2.1 offT (cnT E) 3).1 30 0 = E.1 30 0 := gE_o hG o1
      have gk : ∀ k, k ≠ 17 ∧ k ≠ 18 ∧ k ≠ 19 → gS s 17 19 E.2.1.2.1 (rwT (nI i) v2) k = s k := fun k hk => gS_k (by omega)
      have q30 : s3 (gS s 17 19 E.2.1.2.1 (rwT (nI i) v2)) 0 0 3 (nI E.2.1.2.1 + 1) 30 = s 30 := by rw [s3_k (by decide), gk 30 (by decide)]
      have q1 : th (s3 (gS s 17 19 E.2.1.2.1 (rwT (nI i) v2)) 0 0 3 (nI E.2.1.2.1 + 1)) 30 0 1 = nI E.2.1.1 := by rw [th_m (by decide), q30]; exact m1
      have q9 : th (s3 (gS s 17 19 E.2.1.2.1 (rwT (nI i) v2)) 0 0 3 (nI E.2.1.2.1 + 1)) 30 0 9 = nI E.2.1.2.1 := by rw [th_m (by decide), q30]; exact m9
      refine ⟨nI E.2.1.2.1 + 1 - 1, gE E 17 19 E.2.1.2.1 offT (cnT E) 3, s3 (gS s 17 19 E.2.1.2.1 (rwT (nI i) v2)) 0 0 3 (nI E.2.1.2.1 + 1), s3 (s3 (s3 (th (s3 (gS s 17 19 E.2.1.2.1 (rwT (nI i) v2)) 0 0 3 (nI E.2.1.2.1 + 1))) 40 0 E.2.1.2.1 (nI i)) 41 0 E.2.1.2.1 v2) 30 0 9 (nI E.2.1.2.1 + 1), hE', gE_o hG o1, hy, x_title_new hE hI hr hi hf, ?_, ?_⟩
      · rw [← hy]
        unfold f_Mo_title
        rw [rT hE', Option.bind_some, rO_30 hE' o1, Option.bind_some, ip_eq hE' q1, if_neg (ix_no (n := (gE E 17 19 E.2.1.2.1 offT (cnT E) 3).2.1.1) (by show E.2.1.1 ≤ 1000; omega) hi)]
        show (kO 1 (mu _ (th _)) _).bind _ = _
        rw [rO_30 hE' o1, Option.bind_some, m_fnN (s := s) hE' hnt _ _ _ q9 (by rw [th_k (by decide), s3_k (by decide), gk 40 (by decide)]) (by rw [th_k (by decide), s3_k (by decide), gk 41 (by decide)]), hf]
        show (gI 1 9 _ _).bind _ = _
        rw [rI_30_9 hE' o1, Option.bind_some, q9, if_neg (show ¬ nI E.2.1.2.1 = 200 from fun q => by have := (eq_nI (b := 200) (by omega) (by omega)).mp q; omega), rR_30_10 hE' o1, Option.bind_some, Option.bind_some, rS_40 hE' o1 hr, Option.bind_some,
          rR_30_11 hE' o1, Option.bind_some, rI_30_9 hE' o1, Option.bind_some, s3_k (show (30 : Nat) ≠ 40 by decide), q9, rS_41 hE' o1 hr, Option.bind_some,
          rI_30_9 hE' o1, Option.bind_some, s3_k (show (30 : Nat) ≠ 41 by decide), s3_k (show (30 : Nat) ≠ 40 by decide), q9, rP_30_9 hE' o1, Option.bind_some, rI_30_9 hE' o1, Option.bind_some, s3_at]
        rfl
      · obtain ⟨a, b, c, d, e, ⟨t1, t2⟩, ⟨p1, p2⟩, g, j, k, l⟩ := hI
        unfold Inv
        simp only [th, s3_k (show (0 : Nat) ≠ 30 by decide), s3_k (show (4 : Nat) ≠ 30 by decide), s3_k (show (5 : Nat) ≠ 30 by decide), s3_k (show (6 : Nat) ≠ 30 by decide), s3_k (show (7 : Nat) ≠ 30 by decide), s3_k (show (8 : Nat) ≠ 30 by decide), s3_k (show (9 : Nat) ≠ 30 by decide), s3_k (show (10 : Nat) ≠ 30 by decide), s3_k (show (11 : Nat) ≠ 30 by decide), s3_k (show (12 : Nat) ≠ 30 by decide), s3_k (show (13 : Nat) ≠ 30 by decide), s3_k (show (14 : Nat) ≠ 30 by decide), s3_k (show (15 : Nat) ≠ 30 by decide), s3_k (show (16 : Nat) ≠ 30 by decide), s3_k (show (17 : Nat) ≠ 30 by decide), s3_k (show (18 : Nat) ≠ 30 by decide), s3_k (show (19 : Nat) ≠ 30 by decide), s3_k (show (20 : Nat) ≠ 30 by decide), s3_k (show (32 : Nat) ≠ 30 by decide), s3_k (show (33 : Nat) ≠ 30 by decide), s3_k (show (34 : Nat) ≠ 30 by decide), s3_k (show (35 : Nat) ≠ 30 by decide), s3_k (show (36 : Nat) ≠ 30 by decide), s3_k (show (37 : Nat) ≠ 30 by decide), s3_k (show (38 : Nat) ≠ 30 by decide), s3_k (show (40 : Nat) ≠ 30 by decide), s3_k (show (41 : Nat) ≠ 30 by decide), s3_k (show (42 : Nat) ≠ 30 by decide), s3_k (show (43 : Nat) ≠ 30 by decide), s3_k (show (44 : Nat) ≠ 30 by decide), s3_k (show (45 : Nat) ≠ 30 by decide), s3_k (show (46 : Nat) ≠ 30 by decide), s3_k (show (48 : Nat) ≠ 30 by decide), s3_k (show (49 : Nat) ≠ 30 by decide), s3_k (show (50 : Nat) ≠ 30 by decide), s3_k (show (51 : Nat) ≠ 30 by decide), s3_k (show (52 : Nat) ≠ 30 by decide), s3_k (show (54 : Nat) ≠ 30 by decide), s3_k (show (56 : Nat) ≠ 30 by decide), s3_k (show (57 : Nat) ≠ 30 by decide), s3_k (show (58 : Nat) ≠ 30 by decide), s3_k (show (60 : Nat) ≠ 30 by decide), s3_k (show (61 : Nat) ≠ 30 by decide), s3_k (show (0 : Nat) ≠ 40 by decide), s3_k (show (4 : Nat) ≠ 40 by decide), s3_k (show (5 : Nat) ≠ 40 by decide), s3_k (show (6 : Nat) ≠ 40 by decide), s3_k (show (7 : Nat) ≠ 40 by decide), s3_k (show (8 : Nat) ≠ 40 by decide), s3_k (show (9 : Nat) ≠ 40 by decide), s3_k (show (10 : Nat) ≠ 40 by decide), s3_k (show (11 : Nat) ≠ 40 by decide), s3_k (show (12 : Nat) ≠ 40 by decide), s3_k (show (13 : Nat) ≠ 40 by decide), s3_k (show (14 : Nat) ≠ 40 by decide), s3_k (show (15 : Nat) ≠ 40 by decide), s3_k (show (16 : Nat) ≠ 40 by decide), s3_k (show (17 : Nat) ≠ 40 by decide), s3_k (show (18 : Nat) ≠ 40 by decide), s3_k (show (19 : Nat) ≠ 40 by decide), s3_k (show (20 : Nat) ≠ 40 by decide), s3_k (show (30 : Nat) ≠ 40 by decide), s3_k (show (32 : Nat) ≠ 40 by decide), s3_k (show (33 : Nat) ≠ 40 by decide), s3_k (show (34 : Nat) ≠ 40 by decide), s3_k (show (35 : Nat) ≠ 40 by decide), s3_k (show (36 : Nat) ≠ 40 by decide), s3_k (show (37 : Nat) ≠ 40 by decide), s3_k (show (38 : Nat) ≠ 40 by decide), s3_k (show (41 : Nat) ≠ 40 by decide), s3_k (show (42 : Nat) ≠ 40 by decide), s3_k (show (43 : Nat) ≠ 40 by decide), s3_k (show (44 : Nat) ≠ 40 by decide), s3_k (show (45 : Nat) ≠ 40 by decide), s3_k (show (46 : Nat) ≠ 40 by decide), s3_k (show (48 : Nat) ≠ 40 by decide), s3_k (show (49 : Nat) ≠ 40 by decide), s3_k (show (50 : Nat) ≠ 40 by decide), s3_k (show (51 : Nat) ≠ 40 by decide), s3_k (show (52 : Nat) ≠ 40 by decide), s3_k (show (54 : Nat) ≠ 40 by decide), s3_k (show (56 : Nat) ≠ 40 by decide), s3_k (show (57 : Nat) ≠ 40 by decide), s3_k (show (58 : Nat) ≠ 40 by decide), s3_k (show (60 : Nat) ≠ 40 by decide), s3_k (show (61 : Nat) ≠ 40 by decide), s3_k (show (0 : Nat) ≠ 41 by decide), s3_k (show (4 : Nat) ≠ 41 by decide), s3_k (show (5 : Nat) ≠ 41 by decide), s3_k (show (6 : Nat) ≠ 41 by decide), s3_k (show (7 : Nat) ≠ 41 by decide), s3_k (show (8 : Nat) ≠ 41 by decide), s3_k (show (9 : Nat) ≠ 41 by decide), s3_k (show (10 : Nat) ≠ 41 by decide), s3_k (show (11 : Nat) ≠ 41 by decide), s3_k (show (12 : Nat) ≠ 41 by decide), s3_k (show (13 : Nat) ≠ 41 by decide), s3_k (show (14 : Nat) ≠ 41 by decide), s3_k (show (15 : Nat) ≠ 41 by decide), s3_k (show (16 : Nat) ≠ 41 by decide), s3_k (show (17 : Nat) ≠ 41 by decide), s3_k (show (18 : Nat) ≠ 41 by decide), s3_k (show (19 : Nat) ≠ 41 by decide), s3_k (show (20 : Nat) ≠ 41 by decide), s3_k (show (30 : Nat) ≠ 41 by decide), s3_k (show (32 : Nat) ≠ 41 by decide), s3_k (show (33 : Nat) ≠ 41 by decide), s3_k (show (34 : Nat) ≠ 41 by decide), s3_k (show (35 : Nat) ≠ 41 by decide), s3_k (show (36 : Nat) ≠ 41 by decide), s3_k (show (37 : Nat) ≠ 41 by decide), s3_k (show (38 : Nat) ≠ 41 by decide), s3_k (show (40 : Nat) ≠ 41 by decide), s3_k (show (42 : Nat) ≠ 41 by decide), s3_k (show (43 : Nat) ≠ 41 by decide), s3_k (show (44 : Nat) ≠ 41 by decide), s3_k (show (45 : Nat) ≠ 41 by decide), s3_k (show (46 : Nat) ≠ 41 by decide), s3_k (show (48 : Nat) ≠ 41 by decide), s3_k (show (49 : Nat) ≠ 41 by decide), s3_k (show (50 : Nat) ≠ 41 by decide), s3_k (show (51 : Nat) ≠ 41 by decide), s3_k (show (52 : Nat) ≠ 41 by decide), s3_k (show (54 : Nat) ≠ 41 by decide), s3_k (show (56 : Nat) ≠ 41 by decide), s3_k (show (57 : Nat) ≠ 41 by decide), s3_k (show (58 : Nat) ≠ 41 by decide), s3_k (show (60 : Nat) ≠ 41 by decide), s3_k (show (61 : Nat) ≠ 41 by decide), s3_k (show (4 : Nat) ≠ 0 by decide), s3_k (show (5 : Nat) ≠ 0 by decide), s3_k (show (6 : Nat) ≠ 0 by decide), s3_k (show (7 : Nat) ≠ 0 by decide), s3_k (show (8 : Nat) ≠ 0 by decide), s3_k (show (9 : Nat) ≠ 0 by decide), s3_k (show (10 : Nat) ≠ 0 by decide), s3_k (show (11 : Nat) ≠ 0 by decide), s3_k (show (12 : Nat) ≠ 0 by decide), s3_k (show (13 : Nat) ≠ 0 by decide), s3_k (show (14 : Nat) ≠ 0 by decide), s3_k (show (15 : Nat) ≠ 0 by decide), s3_k (show (16 : Nat) ≠ 0 by decide), s3_k (show (17 : Nat) ≠ 0 by decide), s3_k (show (18 : Nat) ≠ 0 by decide), s3_k (show (19 : Nat) ≠ 0 by decide), s3_k (show (20 : Nat) ≠ 0 by decide), s3_k (show (30 : Nat) ≠ 0 by decide), s3_k (show (32 : Nat) ≠ 0 by decide), s3_k (show (33 : Nat) ≠ 0 by decide), s3_k (show (34 : Nat) ≠ 0 by decide), s3_k (show (35 : Nat) ≠ 0 by decide), s3_k (show (36 : Nat) ≠ 0 by decide), s3_k (show (37 : Nat) ≠ 0 by decide), s3_k (show (38 : Nat) ≠ 0 by decide), s3_k (show (40 : Nat) ≠ 0 by decide), s3_k (show (41 : Nat) ≠ 0 by decide), s3_k (show (42 : Nat) ≠ 0 by decide), s3_k (show (43 : Nat) ≠ 0 by decide), s3_k (show (44 : Nat) ≠ 0 by decide), s3_k (show (45 : Nat) ≠ 0 by decide), s3_k (show (46 : Nat) ≠ 0 by decide), s3_k (show (48 : Nat) ≠ 0 by decide), s3_k (show (49 : Nat) ≠ 0 by decide), s3_k (show (50 : Nat) ≠ 0 by decide), s3_k (show (51 : Nat) ≠ 0 by decide), s3_k (show (52 : Nat) ≠ 0 by decide), s3_k (show (54 : Nat) ≠ 0 by decide), s3_k (show (56 : Nat) ≠ 0 by decide), s3_k (show (57 : Nat) ≠ 0 by decide), s3_k (show (58 : Nat) ≠ 0 by decide), s3_k (show (60 : Nat) ≠ 0 by decide), s3_k (show (61 : Nat) ≠ 0 by decide), s3_at, gk 0 (by decide), gk 4 (by decide), gk 5 (by decide), gk 6 (by decide), gk 7 (by decide), gk 8 (by decide), gk 9 (by decide), gk 10 (by decide), gk 11 (by decide), gk 12 (by decide), gk 13 (by decide), gk 14 (by decide), gk 15 (by decide), gk 16 (by decide), gk 20 (by decide), gk 30 (by decide), gk 32 (by decide), gk 33 (by decide), gk 34 (by decide), gk 35 (by decide), gk 36 (by decide), gk 37 (by decide), gk 38 (by decide), gk 40 (by decide), gk 41 (by decide), gk 42 (by decide), gk 43 (by decide), gk 44 (by decide), gk 45 (by decide), gk 46 (by decide), gk 48 (by decide), gk 49 (by decide), gk 50 (by decide), gk 51 (by decide), gk 52 (by decide), gk 54 (by decide), gk 56 (by decide), gk 57 (by decide), gk 58 (by decide), gk 60 (by decide), gk 61 (by decide)]
        refine ⟨⟨hnp, hr, hnr, x1, m1, nI_add _ 1, nI_add _ 1, x5, m17, x9⟩, b, c, d, e, ⟨?_, ?_⟩, ⟨?_, ?_⟩, g, j, iUs_mono k (Nat.le_succ n), l⟩
        · intro q hq
          by_cases h : q = E.2.1.2.1
          · subst h
            rw [gS_n (by omega) (by omega), upd_at, upd_at]
            obtain ⟨w1, w2⟩ := t2 _ (Nat.le_refl _) hr
            exact ⟨⟨i, hi, rfl, rfl⟩, rfl, Or.inl ⟨rfl, w1⟩, w2.symm⟩
          · rw [gS_o h, upd_ne h, upd_ne h]
            have hq' : q < E.2.1.2.1 + 1 := hq
            exact t1 q (by omega)
        · intro q hq h
          have hq' : E.2.1.2.1 + 1 ≤ q := hq
          exact t2 q (by omega) h
        · intro q hq
          by_cases h : q = E.2.1.2.1
          · subst h
            rw [gS_n (by omega) (by omega), gS_n (by omega) (by omega), gS_n (by omega) (by omega)]
            refine ⟨0, by omega, nI_0.symm, ?_, ?_⟩
            · rw [p2 _ (Nat.le_refl _) hr, nI_0]
            · exact ⟨fun j hj => absurd hj (by omega), fun j hj => absurd hj (by omega), fun j hj => absurd hj (by omega), fun j hj => absurd hj (by omega)⟩
          · rw [gS_o h, gS_o h, gS_o h]
            have hq' : q < E.2.1.2.1 + 1 := hq
            exact p1 q (by omega)
        · intro q hq h
          have hq' : E.2.1.2.1 + 1 ≤ q := hq
          exact p2 q (by omega) h
    · have hr' : E.2.1.2.1 = 200 := by omega
      refine ⟨-4, E, s, th s, hE, rfl, rfl, ?_, ?_, Inv_thS hI⟩
      · unfold f_X_title
        rw [rO_0 hE o1, Option.bind_some, fp_yes hE x1 hnp hi]
        show (kO 0 (mu E s) (E.1 0 0)).bind _ = _
        rw [rO_0 hE o1, Option.bind_some, x_fn hE hI, hf]
        show (gI 0 3 (mu E s) (E.1 0 0)).bind _ = _
        rw [rI_0_3 hE o1, Option.bind_some, x3, hr']
        rfl
      · unfold f_Mo_title
        rw [rT hE, Option.bind_some, rO_30 hE o1, Option.bind_some, ip_eq hE hm1, if_neg (ix_no (by omega) hi)]
        show (kO 1 (mu E (th s)) (E.1 30 0)).bind _ = _
        rw [rO_30 hE o1, Option.bind_some, m_fnN (s := s) hE hnt _ _ (th s) hm9 (th_k (by decide)) (th_k (by decide)), hf]
        show (gI 1 9 _ _).bind _ = _
        rw [rI_30_9 hE o1, Option.bind_some, hm9, hr']
        rfl
end TIT
