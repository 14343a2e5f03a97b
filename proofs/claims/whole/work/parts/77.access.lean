section ACC
variable {E : ev} {s t : st} {n i r0 : Nat} {on day : Int32}
def cX (s : st) (h u r0 i : Nat) (on : Int32) : Nat → Nat := fun q => cod (nI h) (s 20 q 0) (s 20 q 4) (fitv (s 20 q 1) (s 20 q 3) (s 4 0 r0) (s 17 i 1) on (ct1 (fun q => decide (s 6 0 q = nI r0) && decide (s 8 0 q = on / 30)) u 0 0)) (s 20 q 2)
def cM (t : st) (u r0 i : Nat) (on : Int32) : Nat → Nat := fun q => cod (t 40 0 i) (t 48 0 q) (t 52 0 q) (fitv (t 49 0 q) (t 51 0 q) (t 54 0 r0) (t 41 0 i) on (ct1 (fun x => decide (t 56 0 x = nI r0) && decide (t 58 0 x = on / 30)) u 0 0)) (t 50 0 q)
theorem ra_had (hE : okE E) {u : Nat} (y2 : s 5 0 3 = nI u) (hu : u ≤ 512) : f_Usages_ofReaderIn (E.1 5 0) (nI r0) (on / 30) (mu E s) = some (ct1 (fun q => decide (s 6 0 q = nI r0) && decide (s 8 0 q = on / 30)) u 0 0, mu E s) := by
  have h9 := x_ofReaderIn (s := s) (x := nI r0) (y := on / 30) hE y2 hu u FU 0 0 (by unfold FU; omega) (by omega)
  rw [nI_0] at h9
  unfold f_Usages_ofReaderIn
  exact h9
theorem ra_un {c : Int32} {M M1 : mm} {x : Nat} (h1 : pF 0 9 (.int (-1)) M (E.1 0 0) = some M1) (h2 : gR 0 7 M1 (E.1 0 0) = some x) (h3 : kO 7 M1 x = some ()) (h4 : f_Usages_ofReaderIn x (nI r0) (on / 30) M1 = some (c, M1)) : f_X_rulesAllow (E.1 0 0) (nI r0) (E.1 17 i) on M = f_X_rulesAllow_b22 FU (E.1 0 0) (nI r0) (E.1 17 i) on c 0 M1 := by
  unfold f_X_rulesAllow
  generalize f_X_rulesAllow_b22 FU = g
  rw [h1, Option.bind_some, h2, Option.bind_some]
  show ((kO 7 M1 x).bind _) = _
  rw [h3, Option.bind_some, h4]
  rfl
theorem ra_X (hE : okE E) (hnp : E.2.1.1 ≤ 20) (hnr : E.2.1.2.2 ≤ 100) (x5 : s 0 0 5 = nI E.2.1.2.2) (hi : i < E.2.1.2.1) (hr : r0 < 100) {h u : Nat} (hh : h < E.2.1.1) (e0 : s 17 i 0 = nI h) (hp : s 12 h 0 = nI h) (hK : ∀ q, q < E.2.1.2.2 → s 20 q 1 = 0 ∨ s 20 q 1 = 1 ∨ s 20 q 1 = 2 ∨ s 20 q 1 = 3) (y2 : s 5 0 3 = nI u) (hu : u ≤ 512) : f_X_rulesAllow (E.1 0 0) (nI r0) (E.1 17 i) on (mu E s) = finX E (s3 s 0 0 9 (-1)) (rs (cX s h u r0 i on) E.2.1.2.2 0) := by
  have hsA : ∀ a, a ≠ 0 → s3 s 0 0 9 (-1) a = s a := fun a ha => s3_k ha
  have hcn : ∀ j, j ≠ 9 → s3 s 0 0 9 (-1) 0 0 j = s 0 0 j := fun j hj => by rw [s3_at, upd_ne hj]
  have hR := ra_had (s := s3 s 0 0 9 (-1)) (r0 := r0) (on := on) hE (by rw [hsA 5 (by decide)]; exact y2) hu
  rw [hsA 6 (by decide), hsA 8 (by decide)] at hR
  have h9 := x_rules (s := s3 s 0 0 9 (-1)) (on := on) (hd := ct1 (fun q => decide (s 6 0 q = nI r0) && decide (s 8 0 q = on / 30)) u 0 0) hE hnr (by rw [hcn 5 (by decide)]; exact x5) hi hh hnp (by rw [hsA 17 (by decide)]; exact e0) (by rw [hsA 12 (by decide)]; exact hp) hr (fun q hq => by rw [hsA 20 (by decide)]; exact hK q hq) E.2.1.2.2 FU 0 (by unfold FU; omega) (by omega)
  rw [hsA 20 (by decide), hsA 4 (by decide), hsA 17 (by decide), nI_0] at h9
  rw [ra_un (rP_0_9 hE o1 (-1)) (rR_0_7 hE o1) (rO_5 hE o1) hR, h9]
  rfl
theorem ra_unM {M M1 : mm} (h1 : pF 1 23 (.int (-1)) M (E.1 30 0) = some M1) : f_Mo_allows (E.1 30 0) (nI r0) (nI i) on M = f_Mo_allows_b8 FU (E.1 30 0) (nI r0) (nI i) on 0 M1 := by
  unfold f_Mo_allows
  rw [h1, Option.bind_some]
theorem ra_M (hE : okE E) {N u : Nat} (hN : N ≤ 100) (m17 : t 30 0 17 = nI N) (hi : i < 200) (hr : r0 < 100) (u3 : t 30 0 25 = nI u) (hu : u ≤ 512) : f_Mo_allows (E.1 30 0) (nI r0) (nI i) on (mu E t) = finM E (s3 t 30 0 23 (-1)) (rs (cM t u r0 i on) N 0) := by
  have htA : ∀ a, a ≠ 30 → s3 t 30 0 23 (-1) a = t a := fun a ha => s3_k ha
  have htn : ∀ j, j ≠ 23 → s3 t 30 0 23 (-1) 30 0 j = t 30 0 j := fun j hj => by rw [s3_at, upd_ne hj]
  have h9 := m_rules (t := s3 t 30 0 23 (-1)) (on := on) (i := i) hE hN (by rw [htn 17 (by decide)]; exact m17) hi hr (by rw [htn 25 (by decide)]; exact u3) hu N FU 0 (by unfold FU; omega) (by omega)
  rw [htA 40 (by decide), htA 48 (by decide), htA 52 (by decide), htA 49 (by decide), htA 51 (by decide), htA 54 (by decide), htA 41 (by decide), htA 56 (by decide), htA 58 (by decide), htA 50 (by decide), nI_0] at h9
  rw [ra_unM (rP_30_23 hE o1 (-1)), h9]
  rfl
theorem ra_c {h u : Nat} (hRu : ∀ q, q < E.2.1.2.2 → s 20 q 0 = t 48 0 q ∧ s 20 q 1 = t 49 0 q ∧ s 20 q 2 = t 50 0 q ∧ s 20 q 3 = t 51 0 q ∧ s 20 q 4 = t 52 0 q) (hRd : s 4 0 r0 = t 54 0 r0) (e2 : s 17 i 1 = t 41 0 i) (e1 : t 40 0 i = nI h) (u4 : ∀ j, j < u → s 6 0 j = t 56 0 j ∧ s 7 0 j = t 57 0 j ∧ s 8 0 j = t 58 0 j) : rs (cM t u r0 i on) E.2.1.2.2 0 = rs (cX s h u r0 i on) E.2.1.2.2 0 := by
  refine rs_congr E.2.1.2.2 0 (fun q _ hq => ?_)
  obtain ⟨c0, c1, c2, c3, c4⟩ := hRu q (by omega)
  unfold cM cX
  rw [c0, c1, c2, c3, c4, hRd, e2, e1, ct1_congr (g' := fun x => decide (s 6 0 x = nI r0) && decide (s 8 0 x = on / 30)) u 0 0 (fun x _ hx => by
    obtain ⟨a1, -, a3⟩ := u4 x (by omega)
    show (decide (t 56 0 x = nI r0) && decide (t 58 0 x = on / 30)) = _
    rw [← a1, ← a3])]
theorem rules_sim (hE : okE E) (h0 : IR E s t n) (hn : n ≤ 512) (hi : i < E.2.1.2.1) (hr : r0 < 100) : ∃ (r : Int32) (s' : st), f_X_rulesAllow (E.1 0 0) (nI r0) (E.1 17 i) on (mu E s) = some (r, mu E s') ∧ Only [0, 9, 10, 11] s s' ∧ ∀ t, IR E s t n → ∃ t', f_Mo_allows (E.1 30 0) (nI r0) (nI i) on (mu E t) = some (r, mu E t') ∧ Only [30, 60, 61] t t' ∧ IR E s' t' n := by
  obtain ⟨⟨hnp, hnt, hnr, x1, m1, x3, m9, x5, m17, x9⟩, hp, -, -, -, ⟨hT, -⟩, -, ⟨hRu, -⟩, hRd, ⟨u, y1, y2, y3, y4⟩, hNo⟩ := id h0
  obtain ⟨⟨h, hh, e0, e1⟩, e2, -, -⟩ := hT i hi
  have hX := ra_X (on := on) hE hnp hnr x5 hi hr hh e0 (hp h hh).1 (fun q hq => by rw [(hRu q hq).2.1]; exact (hRu q hq).2.2.2.2.2.2) y2 (show u ≤ 512 by omega)
  have hM : ∀ t, IR E s t n → f_Mo_allows (E.1 30 0) (nI r0) (nI i) on (mu E t) = finM E (s3 t 30 0 23 (-1)) (rs (cX s h u r0 i on) E.2.1.2.2 0) := by
    intro t ht
    obtain ⟨⟨-, -, -, -, m1, -, m9, -, m17, -⟩, -, -, -, -, ⟨hT, -⟩, -, ⟨hRu, -⟩, hRd, ⟨u', u1', u2', u3', u4'⟩, hNo⟩ := id ht
    have huu : u' = u := nI_inj (by omega) (by omega) (u2'.symm.trans y2)
    subst huu
    obtain ⟨⟨h', hh', e0', e1'⟩, e2', -, -⟩ := hT i hi
    have hhh : h' = h := nI_inj (by omega) (by omega) (e0'.symm.trans e0)
    subst hhh
    rw [ra_M hE hnr m17 (show i < 200 by omega) hr u3' (show u' ≤ 512 by omega), ra_c (fun q hq => by
      obtain ⟨c0, c1, c2, c3, c4, -, -⟩ := hRu q hq
      exact ⟨c0, c1, c2, c3, c4⟩) (hRd r0 hr) e2' e1' u4']
  generalize hcc : cX s h u r0 i on = cc at hX hM
  -- the state when no rule fails
  have hI1 : ∀ t, IR E s t n → IR E (s3 s 0 0 9 (-1)) (s3 t 30 0 23 (-1)) n := by
    intro t ht
    obtain ⟨⟨a1, a2, a3, a4, a5, a6, a7, a8, a9, a10⟩, b, c, d, e, f, g, i', j, k, l⟩ := ht
    unfold IR
    simp only [s3_k (show (4 : Nat) ≠ 0 by decide), s3_k (show (5 : Nat) ≠ 0 by decide), s3_k (show (6 : Nat) ≠ 0 by decide), s3_k (show (7 : Nat) ≠ 0 by decide), s3_k (show (8 : Nat) ≠ 0 by decide), s3_k (show (9 : Nat) ≠ 0 by decide), s3_k (show (10 : Nat) ≠ 0 by decide), s3_k (show (11 : Nat) ≠ 0 by decide), s3_k (show (12 : Nat) ≠ 0 by decide), s3_k (show (13 : Nat) ≠ 0 by decide), s3_k (show (14 : Nat) ≠ 0 by decide), s3_k (show (15 : Nat) ≠ 0 by decide), s3_k (show (16 : Nat) ≠ 0 by decide), s3_k (show (17 : Nat) ≠ 0 by decide), s3_k (show (18 : Nat) ≠ 0 by decide), s3_k (show (19 : Nat) ≠ 0 by decide), s3_k (show (20 : Nat) ≠ 0 by decide), s3_k (show (30 : Nat) ≠ 0 by decide), s3_k (show (32 : Nat) ≠ 0 by decide), s3_k (show (33 : Nat) ≠ 0 by decide), s3_k (show (34 : Nat) ≠ 0 by decide), s3_k (show (35 : Nat) ≠ 0 by decide), s3_k (show (36 : Nat) ≠ 0 by decide), s3_k (show (37 : Nat) ≠ 0 by decide), s3_k (show (38 : Nat) ≠ 0 by decide), s3_k (show (40 : Nat) ≠ 0 by decide), s3_k (show (41 : Nat) ≠ 0 by decide), s3_k (show (42 : Nat) ≠ 0 by decide), s3_k (show (43 : Nat) ≠ 0 by decide), s3_k (show (44 : Nat) ≠ 0 by decide), s3_k (show (45 : Nat) ≠ 0 by decide), s3_k (show (46 : Nat) ≠ 0 by decide), s3_k (show (48 : Nat) ≠ 0 by decide), s3_k (show (49 : Nat) ≠ 0 by decide), s3_k (show (50 : Nat) ≠ 0 by decide), s3_k (show (51 : Nat) ≠ 0 by decide), s3_k (show (52 : Nat) ≠ 0 by decide), s3_k (show (54 : Nat) ≠ 0 by decide), s3_k (show (56 : Nat) ≠ 0 by decide), s3_k (show (57 : Nat) ≠ 0 by decide), s3_k (show (58 : Nat) ≠ 0 by decide), s3_k (show (60 : Nat) ≠ 0 by decide), s3_k (show (61 : Nat) ≠ 0 by decide), s3_k (show (0 : Nat) ≠ 30 by decide), s3_k (show (4 : Nat) ≠ 30 by decide), s3_k (show (5 : Nat) ≠ 30 by decide), s3_k (show (6 : Nat) ≠ 30 by decide), s3_k (show (7 : Nat) ≠ 30 by decide), s3_k (show (8 : Nat) ≠ 30 by decide), s3_k (show (9 : Nat) ≠ 30 by decide), s3_k (show (10 : Nat) ≠ 30 by decide), s3_k (show (11 : Nat) ≠ 30 by decide), s3_k (show (12 : Nat) ≠ 30 by decide), s3_k (show (13 : Nat) ≠ 30 by decide), s3_k (show (14 : Nat) ≠ 30 by decide), s3_k (show (15 : Nat) ≠ 30 by decide), s3_k (show (16 : Nat) ≠ 30 by decide), s3_k (show (17 : Nat) ≠ 30 by decide), s3_k (show (18 : Nat) ≠ 30 by decide), s3_k (show (19 : Nat) ≠ 30 by decide), s3_k (show (20 : Nat) ≠ 30 by decide), s3_k (show (32 : Nat) ≠ 30 by decide), s3_k (show (33 : Nat) ≠ 30 by decide), s3_k (show (34 : Nat) ≠ 30 by decide), s3_k (show (35 : Nat) ≠ 30 by decide), s3_k (show (36 : Nat) ≠ 30 by decide), s3_k (show (37 : Nat) ≠ 30 by decide), s3_k (show (38 : Nat) ≠ 30 by decide), s3_k (show (40 : Nat) ≠ 30 by decide), s3_k (show (41 : Nat) ≠ 30 by decide), s3_k (show (42 : Nat) ≠ 30 by decide), s3_k (show (43 : Nat) ≠ 30 by decide), s3_k (show (44 : Nat) ≠ 30 by decide), s3_k (show (45 : Nat) ≠ 30 by decide), s3_k (show (46 : Nat) ≠ 30 by decide), s3_k (show (48 : Nat) ≠ 30 by decide), s3_k (show (49 : Nat) ≠ 30 by decide), s3_k (show (50 : Nat) ≠ 30 by decide), s3_k (show (51 : Nat) ≠ 30 by decide), s3_k (show (52 : Nat) ≠ 30 by decide), s3_k (show (54 : Nat) ≠ 30 by decide), s3_k (show (56 : Nat) ≠ 30 by decide), s3_k (show (57 : Nat) ≠ 30 by decide), s3_k (show (58 : Nat) ≠ 30 by decide), s3_k (show (60 : Nat) ≠ 30 by decide), s3_k (show (61 : Nat) ≠ 30 by decide), s3_at]
    exact ⟨⟨a1, a2, a3, a4, a5, a6, a7, a8, a9, rfl⟩, b, c, d, e, f, g, i', j, k, l⟩
  generalize hpp : rs cc E.2.1.2.2 0 = pp at hX hM
  have hlt : pp.1 ≠ 0 → pp.2 < 100 := fun hne => by
    have := rs_lt (c := cc) E.2.1.2.2 0 (by rw [hpp]; exact hne)
    rw [hpp] at this
    omega
  by_cases c1 : pp.1 = 1
  · -- a rule fails
    have hk := hlt (by omega)
    have hno1 : NoR (s3 (s3 s 0 0 9 (-1)) 0 0 9 (nI pp.2)) t := by
      unfold NoR
      simp only [s3_k (show (4 : Nat) ≠ 0 by decide), s3_k (show (5 : Nat) ≠ 0 by decide), s3_k (show (6 : Nat) ≠ 0 by decide), s3_k (show (7 : Nat) ≠ 0 by decide), s3_k (show (8 : Nat) ≠ 0 by decide), s3_k (show (9 : Nat) ≠ 0 by decide), s3_k (show (10 : Nat) ≠ 0 by decide), s3_k (show (11 : Nat) ≠ 0 by decide), s3_k (show (12 : Nat) ≠ 0 by decide), s3_k (show (13 : Nat) ≠ 0 by decide), s3_k (show (14 : Nat) ≠ 0 by decide), s3_k (show (15 : Nat) ≠ 0 by decide), s3_k (show (16 : Nat) ≠ 0 by decide), s3_k (show (17 : Nat) ≠ 0 by decide), s3_k (show (18 : Nat) ≠ 0 by decide), s3_k (show (19 : Nat) ≠ 0 by decide), s3_k (show (20 : Nat) ≠ 0 by decide), s3_k (show (30 : Nat) ≠ 0 by decide), s3_k (show (32 : Nat) ≠ 0 by decide), s3_k (show (33 : Nat) ≠ 0 by decide), s3_k (show (34 : Nat) ≠ 0 by decide), s3_k (show (35 : Nat) ≠ 0 by decide), s3_k (show (36 : Nat) ≠ 0 by decide), s3_k (show (37 : Nat) ≠ 0 by decide), s3_k (show (38 : Nat) ≠ 0 by decide), s3_k (show (40 : Nat) ≠ 0 by decide), s3_k (show (41 : Nat) ≠ 0 by decide), s3_k (show (42 : Nat) ≠ 0 by decide), s3_k (show (43 : Nat) ≠ 0 by decide), s3_k (show (44 : Nat) ≠ 0 by decide), s3_k (show (45 : Nat) ≠ 0 by decide), s3_k (show (46 : Nat) ≠ 0 by decide), s3_k (show (48 : Nat) ≠ 0 by decide), s3_k (show (49 : Nat) ≠ 0 by decide), s3_k (show (50 : Nat) ≠ 0 by decide), s3_k (show (51 : Nat) ≠ 0 by decide), s3_k (show (52 : Nat) ≠ 0 by decide), s3_k (show (54 : Nat) ≠ 0 by decide), s3_k (show (56 : Nat) ≠ 0 by decide), s3_k (show (57 : Nat) ≠ 0 by decide), s3_k (show (58 : Nat) ≠ 0 by decide), s3_k (show (60 : Nat) ≠ 0 by decide), s3_k (show (61 : Nat) ≠ 0 by decide)]
      exact hNo
    obtain ⟨s1, a1, a2, aM⟩ := note_sim hE hno1 1 (nI pp.2)
    have hsq : ∀ a, a ∉ [0, 9, 10, 11] → s1 a = s a := fun a ha => by
      rw [a2 a (by intro hb; simp at ha hb; omega), s3_k (by intro hb; simp at ha; omega), s3_k (by intro hb; simp at ha; omega)]
    refine ⟨0, s1, ?_, fun a ha => hsq a ha, fun t ht => ?_⟩
    · rw [hX]
      unfold finX
      rw [if_neg (by omega), if_pos c1, rP_0_9 hE o1, Option.bind_some, rR_0_8 hE o1, Option.bind_some, rO_9 hE o1, Option.bind_some, a1]; rfl
    · obtain ⟨⟨b1, b2, b3, b4, b5, b6, b7, b8, b9, b10⟩, b, c, d, e, f, g, i', j, ⟨v, v1, v2, v3, v4⟩, l⟩ := id ht
      obtain ⟨t1, d1, d2, d3, d4⟩ := aM (s3 (s3 t 30 0 23 (-1)) 30 0 23 (nI pp.2)) (by
        unfold NoR
        simp only [s3_k (show (4 : Nat) ≠ 0 by decide), s3_k (show (5 : Nat) ≠ 0 by decide), s3_k (show (6 : Nat) ≠ 0 by decide), s3_k (show (7 : Nat) ≠ 0 by decide), s3_k (show (8 : Nat) ≠ 0 by decide), s3_k (show (9 : Nat) ≠ 0 by decide), s3_k (show (10 : Nat) ≠ 0 by decide), s3_k (show (11 : Nat) ≠ 0 by decide), s3_k (show (12 : Nat) ≠ 0 by decide), s3_k (show (13 : Nat) ≠ 0 by decide), s3_k (show (14 : Nat) ≠ 0 by decide), s3_k (show (15 : Nat) ≠ 0 by decide), s3_k (show (16 : Nat) ≠ 0 by decide), s3_k (show (17 : Nat) ≠ 0 by decide), s3_k (show (18 : Nat) ≠ 0 by decide), s3_k (show (19 : Nat) ≠ 0 by decide), s3_k (show (20 : Nat) ≠ 0 by decide), s3_k (show (30 : Nat) ≠ 0 by decide), s3_k (show (32 : Nat) ≠ 0 by decide), s3_k (show (33 : Nat) ≠ 0 by decide), s3_k (show (34 : Nat) ≠ 0 by decide), s3_k (show (35 : Nat) ≠ 0 by decide), s3_k (show (36 : Nat) ≠ 0 by decide), s3_k (show (37 : Nat) ≠ 0 by decide), s3_k (show (38 : Nat) ≠ 0 by decide), s3_k (show (40 : Nat) ≠ 0 by decide), s3_k (show (41 : Nat) ≠ 0 by decide), s3_k (show (42 : Nat) ≠ 0 by decide), s3_k (show (43 : Nat) ≠ 0 by decide), s3_k (show (44 : Nat) ≠ 0 by decide), s3_k (show (45 : Nat) ≠ 0 by decide), s3_k (show (46 : Nat) ≠ 0 by decide), s3_k (show (48 : Nat) ≠ 0 by decide), s3_k (show (49 : Nat) ≠ 0 by decide), s3_k (show (50 : Nat) ≠ 0 by decide), s3_k (show (51 : Nat) ≠ 0 by decide), s3_k (show (52 : Nat) ≠ 0 by decide), s3_k (show (54 : Nat) ≠ 0 by decide), s3_k (show (56 : Nat) ≠ 0 by decide), s3_k (show (57 : Nat) ≠ 0 by decide), s3_k (show (58 : Nat) ≠ 0 by decide), s3_k (show (60 : Nat) ≠ 0 by decide), s3_k (show (61 : Nat) ≠ 0 by decide), s3_k (show (0 : Nat) ≠ 30 by decide), s3_k (show (4 : Nat) ≠ 30 by decide), s3_k (show (5 : Nat) ≠ 30 by decide), s3_k (show (6 : Nat) ≠ 30 by decide), s3_k (show (7 : Nat) ≠ 30 by decide), s3_k (show (8 : Nat) ≠ 30 by decide), s3_k (show (9 : Nat) ≠ 30 by decide), s3_k (show (10 : Nat) ≠ 30 by decide), s3_k (show (11 : Nat) ≠ 30 by decide), s3_k (show (12 : Nat) ≠ 30 by decide), s3_k (show (13 : Nat) ≠ 30 by decide), s3_k (show (14 : Nat) ≠ 30 by decide), s3_k (show (15 : Nat) ≠ 30 by decide), s3_k (show (16 : Nat) ≠ 30 by decide), s3_k (show (17 : Nat) ≠ 30 by decide), s3_k (show (18 : Nat) ≠ 30 by decide), s3_k (show (19 : Nat) ≠ 30 by decide), s3_k (show (20 : Nat) ≠ 30 by decide), s3_k (show (32 : Nat) ≠ 30 by decide), s3_k (show (33 : Nat) ≠ 30 by decide), s3_k (show (34 : Nat) ≠ 30 by decide), s3_k (show (35 : Nat) ≠ 30 by decide), s3_k (show (36 : Nat) ≠ 30 by decide), s3_k (show (37 : Nat) ≠ 30 by decide), s3_k (show (38 : Nat) ≠ 30 by decide), s3_k (show (40 : Nat) ≠ 30 by decide), s3_k (show (41 : Nat) ≠ 30 by decide), s3_k (show (42 : Nat) ≠ 30 by decide), s3_k (show (43 : Nat) ≠ 30 by decide), s3_k (show (44 : Nat) ≠ 30 by decide), s3_k (show (45 : Nat) ≠ 30 by decide), s3_k (show (46 : Nat) ≠ 30 by decide), s3_k (show (48 : Nat) ≠ 30 by decide), s3_k (show (49 : Nat) ≠ 30 by decide), s3_k (show (50 : Nat) ≠ 30 by decide), s3_k (show (51 : Nat) ≠ 30 by decide), s3_k (show (52 : Nat) ≠ 30 by decide), s3_k (show (54 : Nat) ≠ 30 by decide), s3_k (show (56 : Nat) ≠ 30 by decide), s3_k (show (57 : Nat) ≠ 30 by decide), s3_k (show (58 : Nat) ≠ 30 by decide), s3_k (show (60 : Nat) ≠ 30 by decide), s3_k (show (61 : Nat) ≠ 30 by decide), s3_at]
        exact l)
      have htq : ∀ a, a ∉ [30, 60, 61] → t1 a = t a := fun a ha => by
        rw [d3 a ha, s3_k (by intro hb; simp at ha; omega), s3_k (by intro hb; simp at ha; omega)]
      have ht30 : ∀ j, j ≠ 29 → j ≠ 23 → t1 30 0 j = t 30 0 j := fun j h1 h2 => by
        rw [d4 j h1, s3_at, upd_ne h2, s3_at, upd_ne h2]
      have hs0 : s1 0 = u2 (s 0) 0 9 (nI pp.2) := by
        rw [a2 0 (by decide), s3_u2, s3_u2]
        funext q
        unfold u2
        by_cases hq : q = 0
        · rw [if_pos hq, if_pos hq, if_pos rfl]
          funext z
          unfold upd
          by_cases hz : z = 9
          · rw [if_pos hz, if_pos hz]
          · rw [if_neg hz, if_neg hz, if_neg hz]
        · rw [if_neg hq, if_neg hq, if_neg hq]
      have hs00 : ∀ j, j ≠ 9 → s1 0 0 j = s 0 0 j := fun j hj => by rw [hs0, u2_at, upd_ne hj]
      refine ⟨t1, ?_, fun a ha => htq a ha, ?_⟩
      · rw [hM t ht]
        unfold finM
        rw [if_neg (by omega), if_pos c1, rP_30_23 hE o1, Option.bind_some, rO_30 hE o1, Option.bind_some, d1]; rfl
      · unfold NoR at d2
        unfold IR
        rw [hsq 12 (by decide), hsq 13 (by decide), hsq 14 (by decide), hsq 15 (by decide), hsq 16 (by decide), hsq 17 (by decide), hsq 18 (by decide), hsq 19 (by decide), hsq 20 (by decide), hsq 4 (by decide), hsq 5 (by decide), hsq 6 (by decide), hsq 7 (by decide), hsq 8 (by decide), htq 32 (by decide), htq 33 (by decide), htq 34 (by decide), htq 35 (by decide), htq 36 (by decide), htq 37 (by decide), htq 38 (by decide), htq 40 (by decide), htq 41 (by decide), htq 42 (by decide), htq 43 (by decide), htq 44 (by decide), htq 45 (by decide), htq 46 (by decide), htq 48 (by decide), htq 49 (by decide), htq 50 (by decide), htq 51 (by decide), htq 52 (by decide), htq 54 (by decide), htq 56 (by decide), htq 57 (by decide), htq 58 (by decide)]
        refine ⟨⟨b1, b2, b3, ?_, ?_, ?_, ?_, ?_, ?_, ?_⟩, b, c, d, e, f, g, i', j, ⟨v, v1, v2, ?_, v4⟩, d2⟩
        · rw [hs00 1 (by decide)]; exact b4
        · rw [ht30 1 (by decide) (by decide)]; exact b5
        · rw [hs00 3 (by decide)]; exact b6
        · rw [ht30 9 (by decide) (by decide)]; exact b7
        · rw [hs00 5 (by decide)]; exact b8
        · rw [ht30 17 (by decide) (by decide)]; exact b9
        · rw [hs0, u2_at, upd_at, d4 23 (by decide), s3_at, upd_at]
        · rw [ht30 25 (by decide) (by decide)]; exact v3
  · refine ⟨if pp.1 = 2 then 1 else 0, s3 s 0 0 9 (-1), ?_, Only_s3 (by decide), fun t ht => ⟨s3 t 30 0 23 (-1), ?_, Only_s3 (by decide), hI1 t ht⟩⟩
    · rw [hX]
      unfold finX
      rw [if_neg c1]
      by_cases z0 : pp.1 = 0
      · rw [if_pos z0, if_neg (by omega)]
      · rw [if_neg z0]
        by_cases z2 : pp.1 = 2
        · rw [if_pos z2, if_pos z2]
        · rw [if_neg z2, if_neg z2]
    · rw [hM t ht]
      unfold finM
      rw [if_neg c1]
      by_cases z0 : pp.1 = 0
      · rw [if_pos z0, if_neg (by omega)]
      · rw [if_neg z0]
        by_cases z2 : pp.1 = 2
        · rw [if_pos z2, if_pos z2]
        · rw [if_neg z2, if_neg z2]
/-- a usage more -/
theorem usage_sim (hE : okE E) (h0 : IR E s t n) (hn : n < 512) (a b c : Int32) : ∃ s', f_Usages_append (E.1 5 0) a b c (mu E s) = some ((), mu E s') ∧ Only [5, 6, 7, 8] s s' ∧ ∀ t, IR E s t n → ∃ t' u, t 30 0 25 = nI u ∧ u < 512 ∧ t' = s3 (s3 (s3 (s3 t 56 0 u a) 57 0 u b) 58 0 u c) 30 0 25 (nI (u + 1)) ∧ IR E s' t' (n + 1) := by
  obtain ⟨-, -, -, -, -, -, -, -, -, ⟨u, u1, u2, u3, u4⟩, -⟩ := id h0
  refine ⟨s3 (s3 (s3 (s3 s 6 0 u a) 7 0 u b) 8 0 u c) 5 0 3 (nI (u + 1)), ?_, Only_tr (Only_tr (Only_tr (Only_s3 (by decide)) (Only_s3 (by decide))) (Only_s3 (by decide))) (Only_s3 (by decide)), fun t ht => ?_⟩
  · unfold f_Usages_append
    rw [rI_5_3 hE o1, Option.bind_some, u2, if_neg (show ¬ (512 : Int32) ≤ nI u from nI_ge (b := 512) (by omega) (by omega)), rR_5_0 hE o1, Option.bind_some, Option.bind_some, rS_6 hE o1 (by omega), Option.bind_some, rR_5_1 hE o1, Option.bind_some, rI_5_3 hE o1, Option.bind_some, s3_k (show (5 : Nat) ≠ 6 by decide), u2, rS_7 hE o1 (by omega), Option.bind_some, rR_5_2 hE o1, Option.bind_some, rI_5_3 hE o1, Option.bind_some, s3_k (show (5 : Nat) ≠ 7 by decide), s3_k (show (5 : Nat) ≠ 6 by decide), u2, rS_8 hE o1 (by omega), Option.bind_some, rI_5_3 hE o1, Option.bind_some, s3_k (show (5 : Nat) ≠ 8 by decide), s3_k (show (5 : Nat) ≠ 7 by decide), s3_k (show (5 : Nat) ≠ 6 by decide), u2, nI_1, rP_5_3 hE o1, Option.bind_some]
  · obtain ⟨⟨a1, a2, a3, a4, a5, a6, a7, a8, a9, a10⟩, b', c', d, e, f, g, i', j, ⟨u', v1, v2, v3, v4⟩, l⟩ := id ht
    have huu : u' = u := nI_inj (by omega) (by omega) (v2.symm.trans u2)
    subst huu
    refine ⟨_, u', v3, by omega, rfl, ?_⟩
    unfold IR
    simp only [s3_k (show (0 : Nat) ≠ 5 by decide), s3_k (show (4 : Nat) ≠ 5 by decide), s3_k (show (6 : Nat) ≠ 5 by decide), s3_k (show (7 : Nat) ≠ 5 by decide), s3_k (show (8 : Nat) ≠ 5 by decide), s3_k (show (9 : Nat) ≠ 5 by decide), s3_k (show (10 : Nat) ≠ 5 by decide), s3_k (show (11 : Nat) ≠ 5 by decide), s3_k (show (12 : Nat) ≠ 5 by decide), s3_k (show (13 : Nat) ≠ 5 by decide), s3_k (show (14 : Nat) ≠ 5 by decide), s3_k (show (15 : Nat) ≠ 5 by decide), s3_k (show (16 : Nat) ≠ 5 by decide), s3_k (show (17 : Nat) ≠ 5 by decide), s3_k (show (18 : Nat) ≠ 5 by decide), s3_k (show (19 : Nat) ≠ 5 by decide), s3_k (show (20 : Nat) ≠ 5 by decide), s3_k (show (30 : Nat) ≠ 5 by decide), s3_k (show (32 : Nat) ≠ 5 by decide), s3_k (show (33 : Nat) ≠ 5 by decide), s3_k (show (34 : Nat) ≠ 5 by decide), s3_k (show (35 : Nat) ≠ 5 by decide), s3_k (show (36 : Nat) ≠ 5 by decide), s3_k (show (37 : Nat) ≠ 5 by decide), s3_k (show (38 : Nat) ≠ 5 by decide), s3_k (show (40 : Nat) ≠ 5 by decide), s3_k (show (41 : Nat) ≠ 5 by decide), s3_k (show (42 : Nat) ≠ 5 by decide), s3_k (show (43 : Nat) ≠ 5 by decide), s3_k (show (44 : Nat) ≠ 5 by decide), s3_k (show (45 : Nat) ≠ 5 by decide), s3_k (show (46 : Nat) ≠ 5 by decide), s3_k (show (48 : Nat) ≠ 5 by decide), s3_k (show (49 : Nat) ≠ 5 by decide), s3_k (show (50 : Nat) ≠ 5 by decide), s3_k (show (51 : Nat) ≠ 5 by decide), s3_k (show (52 : Nat) ≠ 5 by decide), s3_k (show (54 : Nat) ≠ 5 by decide), s3_k (show (56 : Nat) ≠ 5 by decide), s3_k (show (57 : Nat) ≠ 5 by decide), s3_k (show (58 : Nat) ≠ 5 by decide), s3_k (show (60 : Nat) ≠ 5 by decide), s3_k (show (61 : Nat) ≠ 5 by decide), s3_k (show (0 : Nat) ≠ 6 by decide), s3_k (show (4 : Nat) ≠ 6 by decide), s3_k (show (5 : Nat) ≠ 6 by decide), s3_k (show (7 : Nat) ≠ 6 by decide), s3_k (show (8 : Nat) ≠ 6 by decide), s3_k (show (9 : Nat) ≠ 6 by decide), s3_k (show (10 : Nat) ≠ 6 by decide), s3_k (show (11 : Nat) ≠ 6 by decide), s3_k (show (12 : Nat) ≠ 6 by decide), s3_k (show (13 : Nat) ≠ 6 by decide), s3_k (show (14 : Nat) ≠ 6 by decide), s3_k (show (15 : Nat) ≠ 6 by decide), s3_k (show (16 : Nat) ≠ 6 by decide), s3_k (show (17 : Nat) ≠ 6 by decide), s3_k (show (18 : Nat) ≠ 6 by decide), s3_k (show (19 : Nat) ≠ 6 by decide), s3_k (show (20 : Nat) ≠ 6 by decide), s3_k (show (30 : Nat) ≠ 6 by decide), s3_k (show (32 : Nat) ≠ 6 by decide), s3_k (show (33 : Nat) ≠ 6 by decide), s3_k (show (34 : Nat) ≠ 6 by decide), s3_k (show (35 : Nat) ≠ 6 by decide), s3_k (show (36 : Nat) ≠ 6 by decide), s3_k (show (37 : Nat) ≠ 6 by decide), s3_k (show (38 : Nat) ≠ 6 by decide), s3_k (show (40 : Nat) ≠ 6 by decide), s3_k (show (41 : Nat) ≠ 6 by decide), s3_k (show (42 : Nat) ≠ 6 by decide), s3_k (show (43 : Nat) ≠ 6 by decide), s3_k (show (44 : Nat) ≠ 6 by decide), s3_k (show (45 : Nat) ≠ 6 by decide), s3_k (show (46 : Nat) ≠ 6 by decide), s3_k (show (48 : Nat) ≠ 6 by decide), s3_k (show (49 : Nat) ≠ 6 by decide), s3_k (show (50 : Nat) ≠ 6 by decide), s3_k (show (51 : Nat) ≠ 6 by decide), s3_k (show (52 : Nat) ≠ 6 by decide), s3_k (show (54 : Nat) ≠ 6 by decide), s3_k (show (56 : Nat) ≠ 6 by decide), s3_k (show (57 : Nat) ≠ 6 by decide), s3_k (show (58 : Nat) ≠ 6 by decide), s3_k (show (60 : Nat) ≠ 6 by decide), s3_k (show (61 : Nat) ≠ 6 by decide), s3_k (show (0 : Nat) ≠ 7 by decide), s3_k (show (4 : Nat) ≠ 7 by decide), s3_k (show (5 : Nat) ≠ 7 by decide), s3_k (show (6 : Nat) ≠ 7 by decide), s3_k (show (8 : Nat) ≠ 7 by decide), s3_k (show (9 : Nat) ≠ 7 by decide), s3_k (show (10 : Nat) ≠ 7 by decide), s3_k (show (11 : Nat) ≠ 7 by decide), s3_k (show (12 : Nat) ≠ 7 by decide), s3_k (show (13 : Nat) ≠ 7 by decide), s3_k (show (14 : Nat) ≠ 7 by decide), s3_k (show (15 : Nat) ≠ 7 by decide), s3_k (show (16 : Nat) ≠ 7 by decide), s3_k (show (17 : Nat) ≠ 7 by decide), s3_k (show (18 : Nat) ≠ 7 by decide), s3_k (show (19 : Nat) ≠ 7 by decide), s3_k (show (20 : Nat) ≠ 7 by decide), s3_k (show (30 : Nat) ≠ 7 by decide), s3_k (show (32 : Nat) ≠ 7 by decide), s3_k (show (33 : Nat) ≠ 7 by decide), s3_k (show (34 : Nat) ≠ 7 by decide), s3_k (show (35 : Nat) ≠ 7 by decide), s3_k (show (36 : Nat) ≠ 7 by decide), s3_k (show (37 : Nat) ≠ 7 by decide), s3_k (show (38 : Nat) ≠ 7 by decide), s3_k (show (40 : Nat) ≠ 7 by decide), s3_k (show (41 : Nat) ≠ 7 by decide), s3_k (show (42 : Nat) ≠ 7 by decide), s3_k (show (43 : Nat) ≠ 7 by decide), s3_k (show (44 : Nat) ≠ 7 by decide), s3_k (show (45 : Nat) ≠ 7 by decide), s3_k (show (46 : Nat) ≠ 7 by decide), s3_k (show (48 : Nat) ≠ 7 by decide), s3_k (show (49 : Nat) ≠ 7 by decide), s3_k (show (50 : Nat) ≠ 7 by decide), s3_k (show (51 : Nat) ≠ 7 by decide), s3_k (show (52 : Nat) ≠ 7 by decide), s3_k (show (54 : Nat) ≠ 7 by decide), s3_k (show (56 : Nat) ≠ 7 by decide), s3_k (show (57 : Nat) ≠ 7 by decide), s3_k (show (58 : Nat) ≠ 7 by decide), s3_k (show (60 : Nat) ≠ 7 by decide), s3_k (show (61 : Nat) ≠ 7 by decide), s3_k (show (0 : Nat) ≠ 8 by decide), s3_k (show (4 : Nat) ≠ 8 by decide), s3_k (show (5 : Nat) ≠ 8 by decide), s3_k (show (6 : Nat) ≠ 8 by decide), s3_k (show (7 : Nat) ≠ 8 by decide), s3_k (show (9 : Nat) ≠ 8 by decide), s3_k (show (10 : Nat) ≠ 8 by decide), s3_k (show (11 : Nat) ≠ 8 by decide), s3_k (show (12 : Nat) ≠ 8 by decide), s3_k (show (13 : Nat) ≠ 8 by decide), s3_k (show (14 : Nat) ≠ 8 by decide), s3_k (show (15 : Nat) ≠ 8 by decide), s3_k (show (16 : Nat) ≠ 8 by decide), s3_k (show (17 : Nat) ≠ 8 by decide), s3_k (show (18 : Nat) ≠ 8 by decide), s3_k (show (19 : Nat) ≠ 8 by decide), s3_k (show (20 : Nat) ≠ 8 by decide), s3_k (show (30 : Nat) ≠ 8 by decide), s3_k (show (32 : Nat) ≠ 8 by decide), s3_k (show (33 : Nat) ≠ 8 by decide), s3_k (show (34 : Nat) ≠ 8 by decide), s3_k (show (35 : Nat) ≠ 8 by decide), s3_k (show (36 : Nat) ≠ 8 by decide), s3_k (show (37 : Nat) ≠ 8 by decide), s3_k (show (38 : Nat) ≠ 8 by decide), s3_k (show (40 : Nat) ≠ 8 by decide), s3_k (show (41 : Nat) ≠ 8 by decide), s3_k (show (42 : Nat) ≠ 8 by decide), s3_k (show (43 : Nat) ≠ 8 by decide), s3_k (show (44 : Nat) ≠ 8 by decide), s3_k (show (45 : Nat) ≠ 8 by decide), s3_k (show (46 : Nat) ≠ 8 by decide), s3_k (show (48 : Nat) ≠ 8 by decide), s3_k (show (49 : Nat) ≠ 8 by decide), s3_k (show (50 : Nat) ≠ 8 by decide), s3_k (show (51 : Nat) ≠ 8 by decide), s3_k (show (52 : Nat) ≠ 8 by decide), s3_k (show (54 : Nat) ≠ 8 by decide), s3_k (show (56 : Nat) ≠ 8 by decide), s3_k (show (57 : Nat) ≠ 8 by decide), s3_k (show (58 : Nat) ≠ 8 by decide), s3_k (show (60 : Nat) ≠ 8 by decide), s3_k (show (61 : Nat) ≠ 8 by decide), s3_k (show (0 : Nat) ≠ 30 by decide), s3_k (show (4 : Nat) ≠ 30 by decide), s3_k (show (5 : Nat) ≠ 30 by decide), s3_k (show (6 : Nat) ≠ 30 by decide), s3_k (show (7 : Nat) ≠ 30 by decide), s3_k (show (8 : Nat) ≠ 30 by decide), s3_k (show (9 : Nat) ≠ 30 by decide), s3_k (show (10 : Nat) ≠ 30 by decide), s3_k (show (11 : Nat) ≠ 30 by decide), s3_k (show (12 : Nat) ≠ 30 by decide), s3_k (show (13 : Nat) ≠ 30 by decide), s3_k (show (14 : Nat) ≠ 30 by decide), s3_k (show (15 : Nat) ≠ 30 by decide), s3_k (show (16 : Nat) ≠ 30 by decide), s3_k (show (17 : Nat) ≠ 30 by decide), s3_k (show (18 : Nat) ≠ 30 by decide), s3_k (show (19 : Nat) ≠ 30 by decide), s3_k (show (20 : Nat) ≠ 30 by decide), s3_k (show (32 : Nat) ≠ 30 by decide), s3_k (show (33 : Nat) ≠ 30 by decide), s3_k (show (34 : Nat) ≠ 30 by decide), s3_k (show (35 : Nat) ≠ 30 by decide), s3_k (show (36 : Nat) ≠ 30 by decide), s3_k (show (37 : Nat) ≠ 30 by decide), s3_k (show (38 : Nat) ≠ 30 by decide), s3_k (show (40 : Nat) ≠ 30 by decide), s3_k (show (41 : Nat) ≠ 30 by decide), s3_k (show (42 : Nat) ≠ 30 by decide), s3_k (show (43 : Nat) ≠ 30 by decide), s3_k (show (44 : Nat) ≠ 30 by decide), s3_k (show (45 : Nat) ≠ 30 by decide), s3_k (show (46 : Nat) ≠ 30 by decide), s3_k (show (48 : Nat) ≠ 30 by decide), s3_k (show (49 : Nat) ≠ 30 by decide), s3_k (show (50 : Nat) ≠ 30 by decide), s3_k (show (51 : Nat) ≠ 30 by decide), s3_k (show (52 : Nat) ≠ 30 by decide), s3_k (show (54 : Nat) ≠ 30 by decide), s3_k (show (56 : Nat) ≠ 30 by decide), s3_k (show (57 : Nat) ≠ 30 by decide), s3_k (show (58 : Nat) ≠ 30 by decide), s3_k (show (60 : Nat) ≠ 30 by decide), s3_k (show (61 : Nat) ≠ 30 by decide), s3_k (show (0 : Nat) ≠ 56 by decide), s3_k (show (4 : Nat) ≠ 56 by decide), s3_k (show (5 : Nat) ≠ 56 by decide), s3_k (show (6 : Nat) ≠ 56 by decide), s3_k (show (7 : Nat) ≠ 56 by decide), s3_k (show (8 : Nat) ≠ 56 by decide), s3_k (show (9 : Nat) ≠ 56 by decide), s3_k (show (10 : Nat) ≠ 56 by decide), s3_k (show (11 : Nat) ≠ 56 by decide), s3_k (show (12 : Nat) ≠ 56 by decide), s3_k (show (13 : Nat) ≠ 56 by decide), s3_k (show (14 : Nat) ≠ 56 by decide), s3_k (show (15 : Nat) ≠ 56 by decide), s3_k (show (16 : Nat) ≠ 56 by decide), s3_k (show (17 : Nat) ≠ 56 by decide), s3_k (show (18 : Nat) ≠ 56 by decide), s3_k (show (19 : Nat) ≠ 56 by decide), s3_k (show (20 : Nat) ≠ 56 by decide), s3_k (show (30 : Nat) ≠ 56 by decide), s3_k (show (32 : Nat) ≠ 56 by decide), s3_k (show (33 : Nat) ≠ 56 by decide), s3_k (show (34 : Nat) ≠ 56 by decide), s3_k (show (35 : Nat) ≠ 56 by decide), s3_k (show (36 : Nat) ≠ 56 by decide), s3_k (show (37 : Nat) ≠ 56 by decide), s3_k (show (38 : Nat) ≠ 56 by decide), s3_k (show (40 : Nat) ≠ 56 by decide), s3_k (show (41 : Nat) ≠ 56 by decide), s3_k (show (42 : Nat) ≠ 56 by decide), s3_k (show (43 : Nat) ≠ 56 by decide), s3_k (show (44 : Nat) ≠ 56 by decide), s3_k (show (45 : Nat) ≠ 56 by decide), s3_k (show (46 : Nat) ≠ 56 by decide), s3_k (show (48 : Nat) ≠ 56 by decide), s3_k (show (49 : Nat) ≠ 56 by decide), s3_k (show (50 : Nat) ≠ 56 by decide), s3_k (show (51 : Nat) ≠ 56 by decide), s3_k (show (52 : Nat) ≠ 56 by decide), s3_k (show (54 : Nat) ≠ 56 by decide), s3_k (show (57 : Nat) ≠ 56 by decide), s3_k (show (58 : Nat) ≠ 56 by decide), s3_k (show (60 : Nat) ≠ 56 by decide), s3_k (show (61 : Nat) ≠ 56 by decide), s3_k (show (0 : Nat) ≠ 57 by decide), s3_k (show (4 : Nat) ≠ 57 by decide), s3_k (show (5 : Nat) ≠ 57 by decide), s3_k (show (6 : Nat) ≠ 57 by decide), s3_k (show (7 : Nat) ≠ 57 by decide), s3_k (show (8 : Nat) ≠ 57 by decide), s3_k (show (9 : Nat) ≠ 57 by decide), s3_k (show (10 : Nat) ≠ 57 by decide), s3_k (show (11 : Nat) ≠ 57 by decide), s3_k (show (12 : Nat) ≠ 57 by decide), s3_k (show (13 : Nat) ≠ 57 by decide), s3_k (show (14 : Nat) ≠ 57 by decide), s3_k (show (15 : Nat) ≠ 57 by decide), s3_k (show (16 : Nat) ≠ 57 by decide), s3_k (show (17 : Nat) ≠ 57 by decide), s3_k (show (18 : Nat) ≠ 57 by decide), s3_k (show (19 : Nat) ≠ 57 by decide), s3_k (show (20 : Nat) ≠ 57 by decide), s3_k (show (30 : Nat) ≠ 57 by decide), s3_k (show (32 : Nat) ≠ 57 by decide), s3_k (show (33 : Nat) ≠ 57 by decide), s3_k (show (34 : Nat) ≠ 57 by decide), s3_k (show (35 : Nat) ≠ 57 by decide), s3_k (show (36 : Nat) ≠ 57 by decide), s3_k (show (37 : Nat) ≠ 57 by decide), s3_k (show (38 : Nat) ≠ 57 by decide), s3_k (show (40 : Nat) ≠ 57 by decide), s3_k (show (41 : Nat) ≠ 57 by decide), s3_k (show (42 : Nat) ≠ 57 by decide), s3_k (show (43 : Nat) ≠ 57 by decide), s3_k (show (44 : Nat) ≠ 57 by decide), s3_k (show (45 : Nat) ≠ 57 by decide), s3_k (show (46 : Nat) ≠ 57 by decide), s3_k (show (48 : Nat) ≠ 57 by decide), s3_k (show (49 : Nat) ≠ 57 by decide), s3_k (show (50 : Nat) ≠ 57 by decide), s3_k (show (51 : Nat) ≠ 57 by decide), s3_k (show (52 : Nat) ≠ 57 by decide), s3_k (show (54 : Nat) ≠ 57 by decide), s3_k (show (56 : Nat) ≠ 57 by decide), s3_k (show (58 : Nat) ≠ 57 by decide), s3_k (show (60 : Nat) ≠ 57 by decide), s3_k (show (61 : Nat) ≠ 57 by decide), s3_k (show (0 : Nat) ≠ 58 by decide), s3_k (show (4 : Nat) ≠ 58 by decide), s3_k (show (5 : Nat) ≠ 58 by decide), s3_k (show (6 : Nat) ≠ 58 by decide), s3_k (show (7 : Nat) ≠ 58 by decide), s3_k (show (8 : Nat) ≠ 58 by decide), s3_k (show (9 : Nat) ≠ 58 by decide), s3_k (show (10 : Nat) ≠ 58 by decide), s3_k (show (11 : Nat) ≠ 58 by decide), s3_k (show (12 : Nat) ≠ 58 by decide), s3_k (show (13 : Nat) ≠ 58 by decide), s3_k (show (14 : Nat) ≠ 58 by decide), s3_k (show (15 : Nat) ≠ 58 by decide), s3_k (show (16 : Nat) ≠ 58 by decide), s3_k (show (17 : Nat) ≠ 58 by decide), s3_k (show (18 : Nat) ≠ 58 by decide), s3_k (show (19 : Nat) ≠ 58 by decide), s3_k (show (20 : Nat) ≠ 58 by decide), s3_k (show (30 : Nat) ≠ 58 by decide), s3_k (show (32 : Nat) ≠ 58 by decide), s3_k (show (33 : Nat) ≠ 58 by decide), s3_k (show (34 : Nat) ≠ 58 by decide), s3_k (show (35 : Nat) ≠ 58 by decide), s3_k (show (36 : Nat) ≠ 58 by decide), s3_k (show (37 : Nat) ≠ 58 by decide), s3_k (show (38 : Nat) ≠ 58 by decide), s3_k (show (40 : Nat) ≠ 58 by decide), s3_k (show (41 : Nat) ≠ 58 by decide), s3_k (show (42 : Nat) ≠ 58 by decide), s3_k (show (43 : Nat) ≠ 58 by decide), s3_k (show (44 : Nat) ≠ 58 by decide), s3_k (show (45 : Nat) ≠ 58 by decide), s3_k (show (46 : Nat) ≠ 58 by decide), s3_k (show (48 : Nat) ≠ 58 by decide), s3_k (show (49 : Nat) ≠ 58 by decide), s3_k (show (50 : Nat) ≠ 58 by decide), s3_k (show (51 : Nat) ≠ 58 by decide), s3_k (show (52 : Nat) ≠ 58 by decide), s3_k (show (54 : Nat) ≠ 58 by decide), s3_k (show (56 : Nat) ≠ 58 by decide), s3_k (show (57 : Nat) ≠ 58 by decide), s3_k (show (60 : Nat) ≠ 58 by decide), s3_k (show (61 : Nat) ≠ 58 by decide), s3_at]
    refine ⟨⟨a1, a2, a3, a4, a5, a6, a7, a8, a9, a10⟩, b', c', d, e, f, g, i', j, ⟨u' + 1, by omega, upd_at, upd_at, fun q hq => ?_⟩, l⟩
    by_cases e9 : q = u'
    · subst e9
      rw [upd_at, upd_at, upd_at, upd_at, upd_at, upd_at]
      exact ⟨rfl, rfl, rfl⟩
    · rw [upd_ne e9, upd_ne e9, upd_ne e9, upd_ne e9, upd_ne e9, upd_ne e9]
      exact v4 q (by omega)
theorem IR_mono {n' : Nat} (h : IR E s t n) (hn : n ≤ n') : IR E s t n' := by
  obtain ⟨a, b, c, d, e, f, g, i, j, k, l⟩ := h
  exact ⟨a, b, c, d, e, f, g, i, j, iUs_mono k hn, l⟩
/-- the class's access from the coverage on -/
noncomputable def accX (E : ev) (r v2 day on : Int32) (i : Nat) (M : mm) : Option (Int32 × mm) := (f_X_judge_b34 (E.1 0 0) r (E.1 17 i) day on M).bind fun (x10, M10) => if x10 = 0 then (gR 0 7 M10 (E.1 0 0)).bind fun x13 => (f_X_monthOf on M10).bind fun (x14, M14) => (kO 7 M14 x13).bind fun _ => (f_Usages_append x13 r v2 x14 M14).bind fun (_, M15) => some (x10, M15) else some (x10, M10)
set_option maxRecDepth 100000 in
theorem accC (hE : okE E) (h0 : IR E s t n) (hn : n < 512) (hi : i < E.2.1.2.1) (hr : r0 < 100) {h : Nat} (hh : h < E.2.1.1) (e0 : s 17 i 0 = nI h) : ∃ (r : Int32) (s' : st), accX E (nI r0) (nI i) day on i (mu E s) = some (r, mu E s') ∧ (∀ a, 21 ≤ a → s' a = s a) ∧ ∀ t, IR E s t n → ∃ t', f_Mo_access_b107 (E.1 30 0) (nI r0) (nI i) day on (nI h) (mu E t) = some (r, mu E t') ∧ (∀ a, a ≤ 20 → t' a = t a) ∧ IR E s' t' (n + 1) := by
  obtain ⟨⟨hnp, hnt, hnr, x1, m1, x3, m9, x5, m17, x9⟩, -, hLn, -, -, ⟨hT, -⟩, ⟨hSp, -⟩, -⟩ := id h0
  obtain ⟨k, k1, k2, k3, k4⟩ := hSp i hi
  obtain ⟨ln, l1, l2, l3, l4, l5⟩ := hLn.1 h hh
  have hcv : f_Title_covers (E.1 17 i) day (mu E s) = some (an (fun q => !decide (day < s 18 i q) && !decide (s 19 i q < day)) k 0, mu E s) := by
    unfold f_Title_covers
    exact x_covers hE hi k1 k2 k FU 0 (by unfold FU; omega) (by omega)
  have hlf : f_Title_lastFreeMonth (E.1 17 i) on (mu E s) = some (on / 30 - s 17 i 3, mu E s) := by
    unfold f_Title_lastFreeMonth f_X_monthOf
    rw [Option.bind_some]
    show (gI 6 3 _ _).bind _ = _
    rw [rI_17_3 hE hi, Option.bind_some]
  have mcv : ∀ t, IR E s t n → f_Mo_covers (E.1 30 0) (nI i) day (mu E t) = some (an (fun q => !decide (day < s 18 i q) && !decide (s 19 i q < day)) k 0, mu E t) := by
    intro t ht
    obtain ⟨-, -, -, -, -, -, ⟨hSp, -⟩, -⟩ := id ht
    obtain ⟨k', q1', q2', q3', q4'⟩ := hSp i hi
    have hkk : k' = k := nI_inj (by omega) (by omega) (q2'.symm.trans k2)
    subst hkk
    unfold f_Mo_covers
    rw [m10']
    have h9 := m_covers (s := t) (x := day) hE (show i < 200 by omega) k1 q3' k' FU 0 0 (Or.inl rfl) (by unfold FU; omega) (by omega)
    rw [if_neg (show ¬ (0 : Int32) = 1 by decide)] at h9
    rw [show f_Mo_covers_b8 FU (E.1 30 0) (nI i) day 0 (nI (10 * i)) (mu E t) = _ from h9]
    rw [an_eq (g' := fun q => !decide (day < s 18 i q) && !decide (s 19 i q < day)) (fun q hq hg => by
      obtain ⟨c, c1, c2, c3⟩ := q4'.2.2.2 q hq
      refine ⟨c, c1, ?_⟩
      have hg : (!decide (day < mF t i q) && !decide (mT t i q < day)) = true := hg
      rw [show mF t i q = s 18 i c from c2.symm, show mT t i q = s 19 i c from c3.symm] at hg
      exact hg) (fun q hq hg => by
      obtain ⟨c, c1, c2, c3⟩ := q4'.2.2.1 q hq
      refine ⟨c, c1, ?_⟩
      show (!decide (day < mF t i c) && !decide (mT t i c < day)) = true
      rw [show mF t i c = s 18 i q from c2.symm, show mT t i c = s 19 i q from c3.symm]
      exact hg)]
  have mem : ∀ t, IR E s t n → t 43 0 i = s 17 i 3 := fun t ht => by
    obtain ⟨-, -, -, -, -, ⟨hT, -⟩, -⟩ := ht
    exact ((hT i hi).2.2.2).symm
  unfold accX f_X_judge_b34
  rw [rO_17 hE hi, Option.bind_some, hcv]
  by_cases c1 : an (fun q => !decide (day < s 18 i q) && !decide (s 19 i q < day)) k 0 = 0
  · refine ⟨3, s, ?_, fun _ _ => rfl, fun t ht => ⟨t, ?_, fun _ _ => rfl, IR_mono ht (by omega)⟩⟩
    · rw [c1]; rfl
    · unfold f_Mo_access_b107
      rw [rO_30 hE o1, Option.bind_some, mcv t ht, c1]; rfl
  · have hcm : ∀ t, IR E s t n → f_Mo_access_b107 (E.1 30 0) (nI r0) (nI i) day on (nI h) (mu E t) = if day / 30 ≤ on / 30 - s 17 i 3 then (f_Mo_allows (E.1 30 0) (nI r0) (nI i) on (mu E t)).bind (fun (x7, M7) => if x7 = 0 then some (5, M7) else (kO 1 M7 (E.1 30 0)).bind fun _ => (f_Mo_placeIn (E.1 30 0) (nI h) (nI r0) M7).bind fun (x10, M10) => if 0 ≤ x10 then (gR 1 26 M10 (E.1 30 0)).bind fun x13 => (gI 1 25 M10 (E.1 30 0)).bind fun x14 => (sI (nI r0) M10 x13 x14).bind fun M15 => (gR 1 27 M15 (E.1 30 0)).bind fun x16 => (gI 1 25 M15 (E.1 30 0)).bind fun x17 => (sI (nI i) M15 x16 x17).bind fun M18 => (gR 1 28 M18 (E.1 30 0)).bind fun x19 => (gI 1 25 M18 (E.1 30 0)).bind fun x20 => (sI (on / 30) M18 x19 x20).bind fun M21 => (gI 1 25 M21 (E.1 30 0)).bind fun x22 => (pF 1 25 (.int (x22 + 1)) M21 (E.1 30 0)).bind fun M23 => some ((0 : Int32), M23) else some (6, M10)) else some (4, mu E t) := by
      intro t ht
      unfold f_Mo_access_b107
      rw [rO_30 hE o1, Option.bind_some, mcv t ht]
      show (if an _ k 0 = 0 then _ else _) = _
      rw [if_neg c1, rR_30_13 hE o1, Option.bind_some, rA_43 hE o1 (show i < 200 by omega), Option.bind_some, mem t ht, rO_30 hE o1, Option.bind_some]
    show ∃ r s', (((if an _ k 0 = 0 then _ else _) : Option (Int32 × mm)).bind _ = some (r, mu E s')) ∧ _
    rw [if_neg c1]
    unfold f_X_monthOf
    rw [Option.bind_some]
    by_cases c2 : day / 30 ≤ on / 30 - s 17 i 3
    · obtain ⟨r, s1, a1, a2, aM⟩ := rules_sim (on := on) hE h0 (by omega) hi hr
      have s1q : ∀ a, a ∉ [0, 9, 10, 11] → s1 a = s a := a2
      have hXX : ((kO 6 (mu E s) (E.1 17 i)).bind fun _ => (f_Title_lastFreeMonth (E.1 17 i) on (mu E s)).bind fun x => if day / 30 ≤ x.1 then (kO 0 x.2 (E.1 0 0)).bind fun _ => (f_X_rulesAllow (E.1 0 0) (nI r0) (E.1 17 i) on x.2).bind fun (x8, M8) => if x8 = 0 then some ((5 : Int32), M8) else (gR 6 0 M8 (E.1 17 i)).bind fun x11 => (gR 4 2 M8 x11).bind fun x12 => (kO 2 M8 x12).bind fun _ => (f_Line_holds x12 (nI r0) M8).bind fun (x13, M13) => if x13 = 0 then some (6, M13) else some (0, M13) else some (4, x.2)) = if r = 0 then some (5, mu E s1) else some (if fnd (s 15 h) (nI r0) ln 0 < 0 then 6 else 0, mu E s1) := by
        rw [rO_17 hE hi, Option.bind_some, hlf, Option.bind_some, if_pos c2, rO_0 hE o1, Option.bind_some, a1]
        show (if r = 0 then _ else _) = _
        by_cases cr : r = 0
        · rw [if_pos cr, if_pos cr]
        · rw [if_neg cr, if_neg cr, rR_17_0 hE hi, Option.bind_some, s1q 17 (by decide), e0, nI_clamp (by omega), rR_12_2 hE hh, Option.bind_some, rO_13 hE hh, Option.bind_some, ln_holds (L13 hE) hh l1 (by rw [s1q 13 (by decide)]; exact l2), s1q 15 (by decide)]
          by_cases cf : fnd (s 15 h) (nI r0) ln 0 < 0
          · rw [if_pos cf, if_pos cf]; rfl
          · rw [if_neg cf, if_neg cf]; rfl
      show ∃ r' s', ((((kO 6 (mu E s) (E.1 17 i)).bind fun _ => (f_Title_lastFreeMonth (E.1 17 i) on (mu E s)).bind fun x => if day / 30 ≤ x.1 then (kO 0 x.2 (E.1 0 0)).bind fun _ => (f_X_rulesAllow (E.1 0 0) (nI r0) (E.1 17 i) on x.2).bind fun (x8, M8) => if x8 = 0 then some ((5 : Int32), M8) else (gR 6 0 M8 (E.1 17 i)).bind fun x11 => (gR 4 2 M8 x11).bind fun x12 => (kO 2 M8 x12).bind fun _ => (f_Line_holds x12 (nI r0) M8).bind fun (x13, M13) => if x13 = 0 then some (6, M13) else some (0, M13) else some (4, x.2)) : Option (Int32 × mm)).bind _ = some (r', mu E s')) ∧ _
      rw [hXX]
      by_cases cr : r = 0
      · rw [if_pos cr]
        refine ⟨5, s1, rfl, fun a ha => s1q a (by intro hb; simp at hb; omega), fun t ht => ?_⟩
        obtain ⟨t1, d1, d2, d3⟩ := aM t ht
        refine ⟨t1, ?_, fun a ha => d2 a (by intro hb; simp at hb; omega), IR_mono d3 (by omega)⟩
        rw [hcm t ht, if_pos c2, d1, cr]; rfl
      · rw [if_neg cr]
        have hmp : ∀ t1, IR E s1 t1 n → f_Mo_placeIn (E.1 30 0) (nI h) (nI r0) (mu E t1) = some (fnd (s 15 h) (nI r0) ln 0, mu E t1) := by
          intro t1 ht1
          obtain ⟨-, -, hLn, -⟩ := ht1
          obtain ⟨ln', q1', q2', q3', q4', -⟩ := hLn.1 h hh
          have hll : ln' = ln := nI_inj (by omega) (by omega) (q2'.symm.trans (by rw [s1q 13 (by decide)]; exact l2))
          subst hll
          rw [mo_placeIn hE (by omega) l1 q3', fnd_congr (g' := s 15 h) ln' 0 (fun q _ hq => by
            have h8 := (q4' q (by omega)).1
            rw [s1q 15 (by decide)] at h8
            exact h8.symm)]
        by_cases cf : fnd (s 15 h) (nI r0) ln 0 < 0
        · rw [if_pos cf]
          refine ⟨6, s1, rfl, fun a ha => s1q a (by intro hb; simp at hb; omega), fun t ht => ?_⟩
          obtain ⟨t1, d1, d2, d3⟩ := aM t ht
          refine ⟨t1, ?_, fun a ha => d2 a (by intro hb; simp at hb; omega), IR_mono d3 (by omega)⟩
          rw [hcm t ht, if_pos c2, d1]
          show (if r = 0 then _ else _) = _
          rw [if_neg cr, rO_30 hE o1, Option.bind_some, hmp t1 d3]
          show (if 0 ≤ fnd (s 15 h) (nI r0) ln 0 then _ else _) = _
          rw [if_neg (Int32.not_le.mpr cf)]
        · rw [if_neg cf]
          obtain ⟨t0, -, -, d0⟩ := aM t h0
          obtain ⟨s2, b1, b2, bM⟩ := usage_sim hE d0 hn (nI r0) (nI i) (on / 30)
          refine ⟨0, s2, ?_, fun a ha => (b2 a (by intro hb; simp at hb; omega)).trans (s1q a (by intro hb; simp at hb; omega)), fun t ht => ?_⟩
          · show (gR 0 7 _ _).bind _ = _
            rw [rR_0_7 hE o1, Option.bind_some, Option.bind_some]
            show (kO 7 _ _).bind _ = _
            rw [rO_5 hE o1, Option.bind_some, b1]; rfl
          · obtain ⟨t1, d1, d2, d3⟩ := aM t ht
            obtain ⟨t2, u, g1, g2, g3, g4⟩ := bM t1 d3
            refine ⟨t2, ?_, fun a ha => ?_, g4⟩
            · rw [hcm t ht, if_pos c2, d1]
              show (if r = 0 then _ else _) = _
              rw [if_neg cr, rO_30 hE o1, Option.bind_some, hmp t1 d3]
              show (if 0 ≤ fnd (s 15 h) (nI r0) ln 0 then _ else _) = _
              rw [if_pos (Int32.not_lt.mp cf), rR_30_26 hE o1, Option.bind_some, rI_30_25 hE o1, Option.bind_some, g1, rS_56 hE o1 (by omega), Option.bind_some, rR_30_27 hE o1, Option.bind_some, rI_30_25 hE o1, Option.bind_some, s3_k (show (30 : Nat) ≠ 56 by decide), g1, rS_57 hE o1 (by omega), Option.bind_some, rR_30_28 hE o1, Option.bind_some, rI_30_25 hE o1, Option.bind_some, s3_k (show (30 : Nat) ≠ 57 by decide), s3_k (show (30 : Nat) ≠ 56 by decide), g1, rS_58 hE o1 (by omega), Option.bind_some, rI_30_25 hE o1, Option.bind_some, s3_k (show (30 : Nat) ≠ 58 by decide), s3_k (show (30 : Nat) ≠ 57 by decide), s3_k (show (30 : Nat) ≠ 56 by decide), g1, nI_1, rP_30_25 hE o1, Option.bind_some, g3]
            · rw [g3, s3_k (by omega), s3_k (by omega), s3_k (by omega), s3_k (by omega)]
              exact d2 a (by intro hb; simp at hb; omega)
    · refine ⟨4, s, ?_, fun _ _ => rfl, fun t ht => ⟨t, ?_, fun _ _ => rfl, IR_mono ht (by omega)⟩⟩
      · show ((kO 6 (mu E s) (E.1 17 i)).bind _).bind _ = _
        rw [rO_17 hE hi, Option.bind_some, hlf]
        show ((if day / 30 ≤ on / 30 - s 17 i 3 then _ else _) : Option (Int32 × mm)).bind _ = _
        rw [if_neg c2]; rfl
      · rw [hcm t ht, if_neg c2]
end ACC
