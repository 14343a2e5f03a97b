/-! pack -/
section PAK
variable {E : ev} {s : st} {n : Nat}
def rwP (h v : Int32) : Nat → Nat → Int32 := fun k j => if k = 12 then (match j with
  | 0 => h
  | 1 => v
  | 4 => 100
  | 5 => -1
  | _ => 0) else 0
def offP : Nat → Nat
  | 12 => 0
  | 13 => 1
  | 15 => 2
  | 14 => 3
  | 16 => 4
  | _ => 5
def cnP (E : ev) : Nat × Nat × Nat := (E.2.1.1 + 1, E.2.1.2.1, E.2.1.2.2)
theorem c1216 {k : Nat} (h1 : 12 ≤ k) (h2 : k ≤ 16) : k = 12 ∨ k = 13 ∨ k = 15 ∨ k = 14 ∨ k = 16 := by omega
theorem grP (E : ev) : Gr E 12 16 E.2.1.1 offP (cnP E) 5 := by
  refine ⟨lc_p rfl, ?_, ?_, ?_⟩
  · intro k h1 h2
    obtain rfl | rfl | rfl | rfl | rfl := c1216 h1 h2
    · exact Nat.lt_irrefl _
    · exact Nat.lt_irrefl _
    · exact Nat.lt_irrefl _
    · exact Nat.lt_irrefl _
    · exact Nat.lt_irrefl _
  · intro k h1 h2
    obtain rfl | rfl | rfl | rfl | rfl := c1216 h1 h2 <;> decide
  · intro k k' h1 h2 h3 h4 h5
    obtain rfl | rfl | rfl | rfl | rfl := c1216 h1 h2 <;> obtain rfl | rfl | rfl | rfl | rfl := c1216 h3 h4 <;> first | rfl | (exact absurd h5 (by decide))
theorem ctrP (v w : Int32) : ctr (gE E 12 16 E.2.1.1 offP (cnP E) 5) (rwP v w 12) 12 E.2.1.1 = .inr (4, [.int v, .int w, .ref (E.2.2.1 + 1), .ref (E.2.2.1 + 3), .int 100, .int (-1)]) := by
  show (Sum.inr (4, [.int v, .int w, .ref ((gE E 12 16 E.2.1.1 offP (cnP E) 5).1 13 E.2.1.1), .ref ((gE E 12 16 E.2.1.1 offP (cnP E) 5).1 14 E.2.1.1), .int 100, .int (-1)]) : va_E) = _
  rw [gE_n (by omega) (by omega), gE_n (by omega) (by omega)]
  rfl
theorem ctrP13 (v w : Int32) : ctr (gE E 12 16 E.2.1.1 offP (cnP E) 5) (rwP v w 13) 13 E.2.1.1 = .inr (2, [.ref (E.2.2.1 + 2), .int 0]) := by
  show (Sum.inr (2, [.ref ((gE E 12 16 E.2.1.1 offP (cnP E) 5).1 15 E.2.1.1), .int 0]) : va_E) = _
  rw [gE_n (by omega) (by omega)]
  rfl
theorem ctrP14 (v w : Int32) : ctr (gE E 12 16 E.2.1.1 offP (cnP E) 5) (rwP v w 14) 14 E.2.1.1 = .inr (2, [.ref (E.2.2.1 + 4), .int 0]) := by
  show (Sum.inr (2, [.ref ((gE E 12 16 E.2.1.1 offP (cnP E) 5).1 16 E.2.1.1), .int 0]) : va_E) = _
  rw [gE_n (by omega) (by omega)]
  rfl
theorem x_pack_new (hE : okE E) (hI : Inv E s n) (hr : E.2.1.1 < 20) {v1 : Int32} (hv : v1 = 0 ∨ v1 = 1) : f_X_pack (E.1 0 0) v1 (mu E s) = some (nI E.2.1.1 + 1 - 1, mu (gE E 12 16 E.2.1.1 offP (cnP E) 5) (s3 (gS s 12 16 E.2.1.1 (rwP (nI E.2.1.1) v1)) 0 0 1 (nI E.2.1.1 + 1))) := by
  obtain ⟨⟨hnp, hnt, hnr, x1, m1, x3, m9, x5, m17, x9⟩, -⟩ := id hI
  have hG := grP E
  have hE' := gE_ok hE hG
  have l0 := hE.2 0 0 o1
  have l3 := hE.2 1 0 o1
  unfold f_X_pack
  rw [rI_0_1 hE o1, Option.bind_some, x1, if_pos (show nI E.2.1.1 < 20 from (lt_nI (b := 20) (by omega) (by omega)).mpr hr), rR_0_0 hE o1, Option.bind_some, Option.bind_some]
  simp only [nO, Option.bind_some]
  rw [gI_eq (M' := mu E s) (ad_ne (by show E.1 0 0 ≠ E.2.2.1; omega)), rI_0_1 hE o1, Option.bind_some, x1, show f_Pack_init (mu E s).1 (nI E.2.1.1) v1 (mm_ad (mu E s) (.inr (4, [.int 0, .int 0, .null, .null, .int 0, .int 0]))) = _ from packInit _ _ _ hv]
  simp only [Option.bind_some]
  rw [sR_hit (n := 20) (f := fun j => if j < E.2.1.1 then some (E.1 12 j) else none) (fs := [.int (nI E.2.1.1), .int v1, .ref (E.2.2.1 + 1), .ref (E.2.2.1 + 3), .int 100, .int (-1)]) (by
    show (if E.1 1 0 = E.2.2.1 then _ else if E.1 1 0 = E.2.2.1 + 1 then _ else if E.1 1 0 = E.2.2.1 + 2 then _ else if E.1 1 0 = E.2.2.1 + 3 then _ else if E.1 1 0 = E.2.2.1 + 4 then _ else (mu E s).2 (E.1 1 0)) = _
    rw [if_neg (by omega), if_neg (by omega), if_neg (by omega), if_neg (by omega), if_neg (by omega), mu_at hE o1]; rfl) (if_pos rfl) hr (by decide), Option.bind_some]
  rw [grow (E := E) (s := s) (ka := 1) (row := rwP (nI E.2.1.1) v1) hE hG (h17_of hI) o1 (by omega) (by omega) rfl (fun a ha => by
    have a0 : a ≠ E.2.2.1 := ha 12 (by omega) (by omega)
    have a1 : a ≠ E.2.2.1 + 1 := ha 13 (by omega) (by omega)
    have a2 : a ≠ E.2.2.1 + 2 := ha 15 (by omega) (by omega)
    have a3 : a ≠ E.2.2.1 + 3 := ha 14 (by omega) (by omega)
    have a4 : a ≠ E.2.2.1 + 4 := ha 16 (by omega) (by omega)
    show (if a = E.2.2.1 then _ else if a = E.2.2.1 + 1 then _ else if a = E.2.2.1 + 2 then _ else if a = E.2.2.1 + 3 then _ else if a = E.2.2.1 + 4 then _ else (mu E s).2 a) = _
    rw [if_neg a0, if_neg a1, if_neg a2, if_neg a3, if_neg a4]) (fun k h1 h2 => by
    obtain rfl | rfl | rfl | rfl | rfl := c1216 h1 h2
    · rw [ctrP]
      exact if_pos rfl
    · rw [ctrP13]
      show (if E.2.2.1 + 1 = E.2.2.1 then _ else if E.2.2.1 + 1 = E.2.2.1 + 1 then _ else _) = _
      rw [if_neg (by omega), if_pos rfl]; rfl
    · show (if E.2.2.1 + 2 = E.2.2.1 then _ else if E.2.2.1 + 2 = E.2.2.1 + 1 then _ else if E.2.2.1 + 2 = E.2.2.1 + 2 then _ else _) = _
      rw [if_neg (by omega), if_neg (by omega), if_pos rfl]; rfl
    · rw [ctrP14]
      show (if E.2.2.1 + 3 = E.2.2.1 then _ else if E.2.2.1 + 3 = E.2.2.1 + 1 then _ else if E.2.2.1 + 3 = E.2.2.1 + 2 then _ else if E.2.2.1 + 3 = E.2.2.1 + 3 then _ else _) = _
      rw [if_neg (by omega), if_neg (by omega), if_neg (by omega), if_pos rfl]; rfl
    · show (if E.2.2.1 + 4 = E.2.2.1 then _ else if E.2.2.1 + 4 = E.2.2.1 + 1 then _ else if E.2.2.1 + 4 = E.2.2.1 + 2 then _ else if E.2.2.1 + 4 = E.2.2.1 + 3 then _ else if E.2.2.1 + 4 = E.2.2.1 + 4 then _ else _) = _
      rw [if_neg (by omega), if_neg (by omega), if_neg (by omega), if_neg (by omega), if_pos rfl]; rfl) (fun k hk hq => by
    rcases hk with rfl | rfl | rfl
    · exact absurd rfl hq
    · exact arr_2 rfl (fun j hj => gE_o hG hj)
    · exact arr_3 rfl (fun j hj => gE_o hG hj)) (by
    rw [show (mu E s).1 = E.2.2.1 from rfl, arr_up (n := E.2.1.1) (z := E.2.2.1) (A := E.1 12) (A' := (gE E 12 16 E.2.1.1 offP (cnP E) 5).1 12) (fun j hj => gE_o hG (show j < lc E 12 from hj)) (gE_n (by omega) (by omega))]; rfl)]
  rw [← gE_o hG (show 0 < lc E 0 from o1), rI_0_1 hE' o1, Option.bind_some, gS_k (by omega), x1, rP_0_1 hE' o1, Option.bind_some, rI_0_1 hE' o1, Option.bind_some, s3_at]
  rfl
theorem nI_z {n : Nat} (h : n ≤ 100) (e : (0 : Int32) = nI n) : n = 0 := by
  rw [← nI_0] at e
  exact ((eq_nI (by omega) (by omega)).mp e).symm
theorem iLn_new {np : Nat} (h20 : np < 20) {l a l' a' : Nat → Nat → Int32} {mc ma : Nat → Int32} (h : iLn np l a mc ma) (ho : ∀ i, i ≠ np → l' i = l i ∧ a' i = a i) (hz : l' np 1 = 0) : iLn (np + 1) l' a' mc ma := by
  obtain ⟨h1, h2⟩ := h
  refine ⟨fun i hi => ?_, fun i hi h => h2 i (by omega) h⟩
  by_cases e : i = np
  · subst e
    exact ⟨0, by omega, by rw [hz, nI_0], by rw [h2 i (Nat.le_refl _) h20, nI_0], fun j hj => absurd hj (by omega), fun j j' hj => absurd hj (by omega)⟩
  · rw [(ho i e).1, (ho i e).2]
    exact h1 i (by omega)
theorem op_pack (hE : okE E) (hI : Inv E s n) (v1 : Int32) (hv : v1 = 0 ∨ v1 = 1) : OpOK E s n (f_X_pack (E.1 0 0) v1) (f_Mo_pack (E.1 30 0) v1) := by
  obtain ⟨⟨hnp, hnt, hnr, x1, m1, x3, m9, x5, m17, x9⟩, -⟩ := id hI
  by_cases hr : E.2.1.1 < 20
  · have hG := grP E
    have hE' := gE_ok hE hG
    have hy : (gE E 12 16 E.2.1.1 offP (cnP E) 5).1 30 0 = E.1 30 0 := gE_o hG o1
    have gk : ∀ k, k ≠ 12 ∧ k ≠ 13 ∧ k ≠ 14 ∧ k ≠ 15 ∧ k ≠ 16 → gS s 12 16 E.2.1.1 (rwP (nI E.2.1.1) v1) k = s k := fun k hk => gS_k (by omega)
    have q30 : s3 (gS s 12 16 E.2.1.1 (rwP (nI E.2.1.1) v1)) 0 0 1 (nI E.2.1.1 + 1) 30 = s 30 := by rw [s3_k (by decide), gk 30 (by decide)]
    have q1 : th (s3 (gS s 12 16 E.2.1.1 (rwP (nI E.2.1.1) v1)) 0 0 1 (nI E.2.1.1 + 1)) 30 0 1 = nI E.2.1.1 := by rw [th_m (by decide), q30]; exact m1
    refine ⟨nI E.2.1.1 + 1 - 1, gE E 12 16 E.2.1.1 offP (cnP E) 5, s3 (gS s 12 16 E.2.1.1 (rwP (nI E.2.1.1) v1)) 0 0 1 (nI E.2.1.1 + 1), s3 (s3 (s3 (s3 (th (s3 (gS s 12 16 E.2.1.1 (rwP (nI E.2.1.1) v1)) 0 0 1 (nI E.2.1.1 + 1))) 32 0 E.2.1.1 v1) 33 0 E.2.1.1 100) 34 0 E.2.1.1 (-1)) 30 0 1 (nI E.2.1.1 + 1), hE', gE_o hG o1, hy, x_pack_new hE hI hr hv, ?_, ?_⟩
    · rw [← hy]
      unfold f_Mo_pack
      rw [rT hE', Option.bind_some, rI_30_1 hE' o1, Option.bind_some, q1, if_neg (show ¬ nI E.2.1.1 = 20 from fun q => by have := (eq_nI (b := 20) (by omega) (by omega)).mp q; omega), rR_30_2 hE' o1, Option.bind_some, Option.bind_some, rS_32 hE' o1 hr hv, Option.bind_some,
        rR_30_3 hE' o1, Option.bind_some, rI_30_1 hE' o1, Option.bind_some, s3_k (show (30 : Nat) ≠ 32 by decide), q1, rS_33 hE' o1 hr, Option.bind_some,
        rR_30_4 hE' o1, Option.bind_some, rI_30_1 hE' o1, Option.bind_some, s3_k (show (30 : Nat) ≠ 33 by decide), s3_k (show (30 : Nat) ≠ 32 by decide), q1, rS_34 hE' o1 hr, Option.bind_some,
        rI_30_1 hE' o1, Option.bind_some, s3_k (show (30 : Nat) ≠ 34 by decide), s3_k (show (30 : Nat) ≠ 33 by decide), s3_k (show (30 : Nat) ≠ 32 by decide), q1, rP_30_1 hE' o1, Option.bind_some, rI_30_1 hE' o1, Option.bind_some, s3_at]
      rfl
    · obtain ⟨a, b, c, d, e, ⟨t1, t2⟩, f, g, j, k, l⟩ := hI
      unfold Inv
      simp only [th, s3_k (show (0 : Nat) ≠ 30 by decide), s3_k (show (4 : Nat) ≠ 30 by decide), s3_k (show (5 : Nat) ≠ 30 by decide), s3_k (show (6 : Nat) ≠ 30 by decide), s3_k (show (7 : Nat) ≠ 30 by decide), s3_k (show (8 : Nat) ≠ 30 by decide), s3_k (show (9 : Nat) ≠ 30 by decide), s3_k (show (10 : Nat) ≠ 30 by decide), s3_k (show (11 : Nat) ≠ 30 by decide), s3_k (show (12 : Nat) ≠ 30 by decide), s3_k (show (13 : Nat) ≠ 30 by decide), s3_k (show (14 : Nat) ≠ 30 by decide), s3_k (show (15 : Nat) ≠ 30 by decide), s3_k (show (16 : Nat) ≠ 30 by decide), s3_k (show (17 : Nat) ≠ 30 by decide), s3_k (show (18 : Nat) ≠ 30 by decide), s3_k (show (19 : Nat) ≠ 30 by decide), s3_k (show (20 : Nat) ≠ 30 by decide), s3_k (show (32 : Nat) ≠ 30 by decide), s3_k (show (33 : Nat) ≠ 30 by decide), s3_k (show (34 : Nat) ≠ 30 by decide), s3_k (show (35 : Nat) ≠ 30 by decide), s3_k (show (36 : Nat) ≠ 30 by decide), s3_k (show (37 : Nat) ≠ 30 by decide), s3_k (show (38 : Nat) ≠ 30 by decide), s3_k (show (40 : Nat) ≠ 30 by decide), s3_k (show (41 : Nat) ≠ 30 by decide), s3_k (show (42 : Nat) ≠ 30 by decide), s3_k (show (43 : Nat) ≠ 30 by decide), s3_k (show (44 : Nat) ≠ 30 by decide), s3_k (show (45 : Nat) ≠ 30 by decide), s3_k (show (46 : Nat) ≠ 30 by decide), s3_k (show (48 : Nat) ≠ 30 by decide), s3_k (show (49 : Nat) ≠ 30 by decide), s3_k (show (50 : Nat) ≠ 30 by decide), s3_k (show (51 : Nat) ≠ 30 by decide), s3_k (show (52 : Nat) ≠ 30 by decide), s3_k (show (54 : Nat) ≠ 30 by decide), s3_k (show (56 : Nat) ≠ 30 by decide), s3_k (show (57 : Nat) ≠ 30 by decide), s3_k (show (58 : Nat) ≠ 30 by decide), s3_k (show (60 : Nat) ≠ 30 by decide), s3_k (show (61 : Nat) ≠ 30 by decide), s3_k (show (0 : Nat) ≠ 32 by decide), s3_k (show (4 : Nat) ≠ 32 by decide), s3_k (show (5 : Nat) ≠ 32 by decide), s3_k (show (6 : Nat) ≠ 32 by decide), s3_k (show (7 : Nat) ≠ 32 by decide), s3_k (show (8 : Nat) ≠ 32 by decide), s3_k (show (9 : Nat) ≠ 32 by decide), s3_k (show (10 : Nat) ≠ 32 by decide), s3_k (show (11 : Nat) ≠ 32 by decide), s3_k (show (12 : Nat) ≠ 32 by decide), s3_k (show (13 : Nat) ≠ 32 by decide), s3_k (show (14 : Nat) ≠ 32 by decide), s3_k (show (15 : Nat) ≠ 32 by decide), s3_k (show (16 : Nat) ≠ 32 by decide), s3_k (show (17 : Nat) ≠ 32 by decide), s3_k (show (18 : Nat) ≠ 32 by decide), s3_k (show (19 : Nat) ≠ 32 by decide), s3_k (show (20 : Nat) ≠ 32 by decide), s3_k (show (30 : Nat) ≠ 32 by decide), s3_k (show (33 : Nat) ≠ 32 by decide), s3_k (show (34 : Nat) ≠ 32 by decide), s3_k (show (35 : Nat) ≠ 32 by decide), s3_k (show (36 : Nat) ≠ 32 by decide), s3_k (show (37 : Nat) ≠ 32 by decide), s3_k (show (38 : Nat) ≠ 32 by decide), s3_k (show (40 : Nat) ≠ 32 by decide), s3_k (show (41 : Nat) ≠ 32 by decide), s3_k (show (42 : Nat) ≠ 32 by decide), s3_k (show (43 : Nat) ≠ 32 by decide), s3_k (show (44 : Nat) ≠ 32 by decide), s3_k (show (45 : Nat) ≠ 32 by decide), s3_k (show (46 : Nat) ≠ 32 by decide), s3_k (show (48 : Nat) ≠ 32 by decide), s3_k (show (49 : Nat) ≠ 32 by decide), s3_k (show (50 : Nat) ≠ 32 by decide), s3_k (show (51 : Nat) ≠ 32 by decide), s3_k (show (52 : Nat) ≠ 32 by decide), s3_k (show (54 : Nat) ≠ 32 by decide), s3_k (show (56 : Nat) ≠ 32 by decide), s3_k (show (57 : Nat) ≠ 32 by decide), s3_k (show (58 : Nat) ≠ 32 by decide), s3_k (show (60 : Nat) ≠ 32 by decide), s3_k (show (61 : Nat) ≠ 32 by decide), s3_k (show (0 : Nat) ≠ 33 by decide), s3_k (show (4 : Nat) ≠ 33 by decide), s3_k (show (5 : Nat) ≠ 33 by decide), s3_k (show (6 : Nat) ≠ 33 by decide), s3_k (show (7 : Nat) ≠ 33 by decide), s3_k (show (8 : Nat) ≠ 33 by decide), s3_k (show (9 : Nat) ≠ 33 by decide), s3_k (show (10 : Nat) ≠ 33 by decide), s3_k (show (11 : Nat) ≠ 33 by decide), s3_k (show (12 : Nat) ≠ 33 by decide), s3_k (show (13 : Nat) ≠ 33 by decide), s3_k (show (14 : Nat) ≠ 33 by decide), s3_k (show (15 : Nat) ≠ 33 by decide), s3_k (show (16 : Nat) ≠ 33 by decide), s3_k (show (17 : Nat) ≠ 33 by decide), s3_k (show (18 : Nat) ≠ 33 by decide), s3_k (show (19 : Nat) ≠ 33 by decide), s3_k (show (20 : Nat) ≠ 33 by decide), s3_k (show (30 : Nat) ≠ 33 by decide), s3_k (show (32 : Nat) ≠ 33 by decide), s3_k (show (34 : Nat) ≠ 33 by decide), s3_k (show (35 : Nat) ≠ 33 by decide), s3_k (show (36 : Nat) ≠ 33 by decide), s3_k (show (37 : Nat) ≠ 33 by decide), s3_k (show (38 : Nat) ≠ 33 by decide), s3_k (show (40 : Nat) ≠ 33 by decide), s3_k (show (41 : Nat) ≠ 33 by decide), s3_k (show (42 : Nat) ≠ 33 by decide), s3_k (show (43 : Nat) ≠ 33 by decide), s3_k (show (44 : Nat) ≠ 33 by decide), s3_k (show (45 : Nat) ≠ 33 by decide), s3_k (show (46 : Nat) ≠ 33 by decide), s3_k (show (48 : Nat) ≠ 33 by decide), s3_k (show (49 : Nat) ≠ 33 by decide), s3_k (show (50 : Nat) ≠ 33 by decide), s3_k (show (51 : Nat) ≠ 33 by decide), s3_k (show (52 : Nat) ≠ 33 by decide), s3_k (show (54 : Nat) ≠ 33 by decide), s3_k (show (56 : Nat) ≠ 33 by decide), s3_k (show (57 : Nat) ≠ 33 by decide), s3_k (show (58 : Nat) ≠ 33 by decide), s3_k (show (60 : Nat) ≠ 33 by decide), s3_k (show (61 : Nat) ≠ 33 by decide), s3_k (show (0 : Nat) ≠ 34 by decide), s3_k (show (4 : Nat) ≠ 34 by decide), s3_k (show (5 : Nat) ≠ 34 by decide), s3_k (show (6 : Nat) ≠ 34 by decide), s3_k (show (7 : Nat) ≠ 34 by decide), s3_k (show (8 : Nat) ≠ 34 by decide), s3_k (show (9 : Nat) ≠ 34 by decide), s3_k (show (10 : Nat) ≠ 34 by decide), s3_k (show (11 : Nat) ≠ 34 by decide), s3_k (show (12 : Nat) ≠ 34 by decide), s3_k (show (13 : Nat) ≠ 34 by decide), s3_k (show (14 : Nat) ≠ 34 by decide), s3_k (show (15 : Nat) ≠ 34 by decide), s3_k (show (16 : Nat) ≠ 34 by decide), s3_k (show (17 : Nat) ≠ 34 by decide), s3_k (show (18 : Nat) ≠ 34 by decide), s3_k (show (19 : Nat) ≠ 34 by decide), s3_k (show (20 : Nat) ≠ 34 by decide), s3_k (show (30 : Nat) ≠ 34 by decide), s3_k (show (32 : Nat) ≠ 34 by decide), s3_k (show (33 : Nat) ≠ 34 by decide), s3_k (show (35 : Nat) ≠ 34 by decide), s3_k (show (36 : Nat) ≠ 34 by decide), s3_k (show (37 : Nat) ≠ 34 by decide), s3_k (show (38 : Nat) ≠ 34 by decide), s3_k (show (40 : Nat) ≠ 34 by decide), s3_k (show (41 : Nat) ≠ 34 by decide), s3_k (show (42 : Nat) ≠ 34 by decide), s3_k (show (43 : Nat) ≠ 34 by decide), s3_k (show (44 : Nat) ≠ 34 by decide), s3_k (show (45 : Nat) ≠ 34 by decide), s3_k (show (46 : Nat) ≠ 34 by decide), s3_k (show (48 : Nat) ≠ 34 by decide), s3_k (show (49 : Nat) ≠ 34 by decide), s3_k (show (50 : Nat) ≠ 34 by decide), s3_k (show (51 : Nat) ≠ 34 by decide), s3_k (show (52 : Nat) ≠ 34 by decide), s3_k (show (54 : Nat) ≠ 34 by decide), s3_k (show (56 : Nat) ≠ 34 by decide), s3_k (show (57 : Nat) ≠ 34 by decide), s3_k (show (58 : Nat) ≠ 34 by decide), s3_k (show (60 : Nat) ≠ 34 by decide), s3_k (show (61 : Nat) ≠ 34 by decide), s3_k (show (4 : Nat) ≠ 0 by decide), s3_k (show (5 : Nat) ≠ 0 by decide), s3_k (show (6 : Nat) ≠ 0 by decide), s3_k (show (7 : Nat) ≠ 0 by decide), s3_k (show (8 : Nat) ≠ 0 by decide), s3_k (show (9 : Nat) ≠ 0 by decide), s3_k (show (10 : Nat) ≠ 0 by decide), s3_k (show (11 : Nat) ≠ 0 by decide), s3_k (show (12 : Nat) ≠ 0 by decide), s3_k (show (13 : Nat) ≠ 0 by decide), s3_k (show (14 : Nat) ≠ 0 by decide), s3_k (show (15 : Nat) ≠ 0 by decide), s3_k (show (16 : Nat) ≠ 0 by decide), s3_k (show (17 : Nat) ≠ 0 by decide), s3_k (show (18 : Nat) ≠ 0 by decide), s3_k (show (19 : Nat) ≠ 0 by decide), s3_k (show (20 : Nat) ≠ 0 by decide), s3_k (show (30 : Nat) ≠ 0 by decide), s3_k (show (32 : Nat) ≠ 0 by decide), s3_k (show (33 : Nat) ≠ 0 by decide), s3_k (show (34 : Nat) ≠ 0 by decide), s3_k (show (35 : Nat) ≠ 0 by decide), s3_k (show (36 : Nat) ≠ 0 by decide), s3_k (show (37 : Nat) ≠ 0 by decide), s3_k (show (38 : Nat) ≠ 0 by decide), s3_k (show (40 : Nat) ≠ 0 by decide), s3_k (show (41 : Nat) ≠ 0 by decide), s3_k (show (42 : Nat) ≠ 0 by decide), s3_k (show (43 : Nat) ≠ 0 by decide), s3_k (show (44 : Nat) ≠ 0 by decide), s3_k (show (45 : Nat) ≠ 0 by decide), s3_k (show (46 : Nat) ≠ 0 by decide), s3_k (show (48 : Nat) ≠ 0 by decide), s3_k (show (49 : Nat) ≠ 0 by decide), s3_k (show (50 : Nat) ≠ 0 by decide), s3_k (show (51 : Nat) ≠ 0 by decide), s3_k (show (52 : Nat) ≠ 0 by decide), s3_k (show (54 : Nat) ≠ 0 by decide), s3_k (show (56 : Nat) ≠ 0 by decide), s3_k (show (57 : Nat) ≠ 0 by decide), s3_k (show (58 : Nat) ≠ 0 by decide), s3_k (show (60 : Nat) ≠ 0 by decide), s3_k (show (61 : Nat) ≠ 0 by decide), s3_at, gk 0 (by decide), gk 4 (by decide), gk 5 (by decide), gk 6 (by decide), gk 7 (by decide), gk 8 (by decide), gk 9 (by decide), gk 10 (by decide), gk 11 (by decide), gk 17 (by decide), gk 18 (by decide), gk 19 (by decide), gk 20 (by decide), gk 30 (by decide), gk 32 (by decide), gk 33 (by decide), gk 34 (by decide), gk 35 (by decide), gk 36 (by decide), gk 37 (by decide), gk 38 (by decide), gk 40 (by decide), gk 41 (by decide), gk 42 (by decide), gk 43 (by decide), gk 44 (by decide), gk 45 (by decide), gk 46 (by decide), gk 48 (by decide), gk 49 (by decide), gk 50 (by decide), gk 51 (by decide), gk 52 (by decide), gk 54 (by decide), gk 56 (by decide), gk 57 (by decide), gk 58 (by decide), gk 60 (by decide), gk 61 (by decide)]
      refine ⟨⟨hr, hnt, hnr, nI_add _ 1, nI_add _ 1, x3, m9, x5, m17, x9⟩, ?_, iLn_new hr c (fun i hi => ⟨gS_o hi, gS_o hi⟩) (by rw [gS_n (by omega) (by omega)]; rfl), iLn_new hr d (fun i hi => ⟨gS_o hi, gS_o hi⟩) (by rw [gS_n (by omega) (by omega)]; rfl), ?_, ⟨?_, t2⟩, f, g, j, iUs_mono k (Nat.le_succ n), l⟩
      · intro q hq
        by_cases h : q = E.2.1.1
        · subst h
          rw [gS_n (by omega) (by omega), upd_at, upd_at, upd_at]
          exact ⟨rfl, rfl, hv, rfl, ⟨100, by omega, rfl⟩, rfl, Or.inl rfl⟩
        · rw [gS_o h, upd_ne h, upd_ne h, upd_ne h]
          have hq' : q < E.2.1.1 + 1 := hq
          exact b q (by omega)
      · intro q hq n1 n2 e1 e2 h1 h2 j1 j2 g1 g2
        by_cases h : q = E.2.1.1
        · subst h
          rw [gS_n (by omega) (by omega)] at e1
          have := nI_z h1 e1
          omega
        · rw [gS_o h] at e1 e2 ⊢
          rw [gS_o h]
          have hq' : q < E.2.1.1 + 1 := hq
          exact e q (by omega) n1 n2 e1 e2 h1 h2 j1 j2 g1 g2
      · intro q hq
        obtain ⟨⟨h, w1, w2, w3⟩, w⟩ := t1 q hq
        exact ⟨⟨h, Nat.lt_succ_of_lt w1, w2, w3⟩, w⟩
  · have hr' : E.2.1.1 = 20 := by omega
    refine ⟨-4, E, s, th s, hE, rfl, rfl, ?_, ?_, Inv_thS hI⟩
    · unfold f_X_pack
      rw [rI_0_1 hE o1, Option.bind_some, x1, hr']
      rfl
    · unfold f_Mo_pack
      rw [rT hE, Option.bind_some, rI_30_1 hE o1, Option.bind_some, th_m (by decide), m1, hr']
      rfl
end PAK
