/-! rule -/
def VO (k v : Int32) : Prop := (k = 0 ∧ ¬ (v < 0 ∨ 9 < v)) ∨ k = 1 ∨ (k = 2 ∧ ¬ (v < 0 ∨ 127 < v)) ∨ (k = 3 ∧ ¬ (v < 0 ∨ 1000000 < v))
theorem rng_pos {v c : Int32} (M : mm) (h : ¬ (v < 0 ∨ c < v)) : (if v < 0 then (kB 0).bind fun _ => some ((0 : Int32), M) else if c < v then (kB 0).bind fun _ => some (0, M) else (kB 1).bind fun _ => some (1, M)) = some (1, M) := by
  rw [if_neg (fun q => h (Or.inl q)), if_neg (fun q => h (Or.inr q))]; rfl
theorem rng_neg {v c : Int32} (M : mm) (h : v < 0 ∨ c < v) : (if v < 0 then (kB 0).bind fun _ => some ((0 : Int32), M) else if c < v then (kB 0).bind fun _ => some (0, M) else (kB 1).bind fun _ => some (1, M)) = some (0, M) := by
  by_cases h1 : v < 0
  · rw [if_pos h1]; rfl
  · rw [if_neg h1, if_pos (h.resolve_left h1)]; rfl
theorem xvo_yes {k v : Int32} (M : mm) (h : VO k v) : f_X_isValueOf k v M = some (1, M) := by
  unfold f_X_isValueOf
  rcases h with ⟨rfl, h⟩ | rfl | ⟨rfl, h⟩ | ⟨rfl, h⟩
  · rw [if_pos rfl]; exact rng_pos M h
  · rw [if_neg (by decide), if_pos rfl]; rfl
  · rw [if_neg (by decide), if_neg (by decide), if_pos rfl]; exact rng_pos M h
  · rw [if_neg (by decide), if_neg (by decide), if_neg (by decide), if_pos rfl]; exact rng_pos M h
theorem xvo_no {k v : Int32} (M : mm) (h : ¬ VO k v) : f_X_isValueOf k v M = some (0, M) := by
  unfold VO at h
  unfold f_X_isValueOf
  by_cases c0 : k = 0
  · rw [if_pos c0]
    exact rng_neg M (Classical.byContradiction fun q => h (Or.inl ⟨c0, q⟩))
  rw [if_neg c0]
  by_cases c1 : k = 1
  · exact absurd (Or.inr (Or.inl c1)) h
  rw [if_neg c1]
  by_cases c2 : k = 2
  · rw [if_pos c2]
    exact rng_neg M (Classical.byContradiction fun q => h (Or.inr (Or.inr (Or.inl ⟨c2, q⟩))))
  rw [if_neg c2]
  by_cases c3 : k = 3
  · rw [if_pos c3]
    exact rng_neg M (Classical.byContradiction fun q => h (Or.inr (Or.inr (Or.inr ⟨c3, q⟩))))
  rw [if_neg c3]; rfl
theorem r12 {v : Int32} : (v < 1 ∨ 2 < v) ↔ ¬ (v = 1 ∨ v = 2) := by
  rw [i_lt, i_lt, i_eq, i_eq, show (1 : Int32).toInt = 1 by decide, show (2 : Int32).toInt = 2 by decide]
  omega
theorem r03 {v : Int32} : (v < 0 ∨ 3 < v) ↔ ¬ (v = 0 ∨ v = 1 ∨ v = 2 ∨ v = 3) := by
  rw [i_lt, i_lt, i_eq, i_eq, i_eq, i_eq, show (0 : Int32).toInt = 0 by decide, show (1 : Int32).toInt = 1 by decide, show (2 : Int32).toInt = 2 by decide, show (3 : Int32).toInt = 3 by decide]
  omega
section RUL
variable {E : ev} {s : st} {n : Nat}
theorem m_rule_yes (hE : okE E) (hm1 : s 30 0 1 = nI E.2.1.1) (hnp : E.2.1.1 ≤ 20) {i : Nat} (hi : i < E.2.1.1) {v2 v3 v4 : Int32} (h3 : v3 = 1 ∨ v3 = 2) (hv : VO v2 v4) : f_Mo_rule (E.1 30 0) (nI i) v2 v3 v4 (mu E s) = f_Mo_rule_b73 (E.1 30 0) (nI i) v2 v3 v4 1 (mu E (th s)) := by
  have hc : ¬ (v2 < 0 ∨ 3 < v2) := fun q => r03.mp q (by rcases hv with ⟨h, -⟩ | h | ⟨h, -⟩ | ⟨h, -⟩ <;> simp [h])
  unfold f_Mo_rule
  rw [rT hE, Option.bind_some, rO_30 hE o1, Option.bind_some, ip_eq hE (by rw [th_m (show (1 : Nat) ≠ 0 by decide)]; exact hm1), if_neg (ix_no (by omega) hi)]
  show (f_Mo_in1 v2 0 3 (mu E (th s))).bind _ = _
  rw [in1_eq, if_neg hc]
  show (f_Mo_in1 v3 1 2 (mu E (th s))).bind _ = _
  rw [in1_eq, if_neg (fun q => r12.mp q h3)]
  show (if v2 = 1 then _ else _) = _
  unfold f_Mo_rule_b62 f_Mo_rule_b68
  rcases hv with ⟨rfl, h⟩ | rfl | ⟨rfl, h⟩ | ⟨rfl, h⟩
  · rw [if_neg (by decide), if_pos rfl, in1_eq, if_neg h]; rfl
  · rw [if_pos rfl]
  · rw [if_neg (by decide), if_neg (by decide), if_pos rfl, in1_eq, if_neg h]; rfl
  · rw [if_neg (by decide), if_neg (by decide), if_neg (by decide), in1_eq, if_neg h]; rfl
theorem m_rule_no (hE : okE E) (hm1 : s 30 0 1 = nI E.2.1.1) (hnp : E.2.1.1 ≤ 20) {i : Nat} (hi : i < E.2.1.1) {v2 v3 v4 : Int32} (h : ¬ ((v3 = 1 ∨ v3 = 2) ∧ VO v2 v4)) : f_Mo_rule (E.1 30 0) (nI i) v2 v3 v4 (mu E s) = some (-2, mu E (th s)) := by
  have e72 : f_Mo_rule_b72 (E.1 30 0) (nI i) v2 v3 v4 (mu E (th s)) = some (-2, mu E (th s)) := by
    unfold f_Mo_rule_b72 f_Mo_rule_b73
    rw [if_pos rfl]
  unfold f_Mo_rule
  rw [rT hE, Option.bind_some, rO_30 hE o1, Option.bind_some, ip_eq hE (by rw [th_m (show (1 : Nat) ≠ 0 by decide)]; exact hm1), if_neg (ix_no (by omega) hi)]
  show (f_Mo_in1 v2 0 3 (mu E (th s))).bind _ = _
  by_cases c : v2 < 0 ∨ 3 < v2
  · rw [in1_eq, if_pos c]
    exact e72
  rw [in1_eq, if_neg c]
  show (f_Mo_in1 v3 1 2 (mu E (th s))).bind _ = _
  by_cases c3 : v3 < 1 ∨ 2 < v3
  · rw [in1_eq, if_pos c3]
    exact e72
  rw [in1_eq, if_neg c3]
  have h3 : v3 = 1 ∨ v3 = 2 := Classical.byContradiction fun q => c3 (r12.mpr q)
  have hv : ¬ VO v2 v4 := fun q => h ⟨h3, q⟩
  unfold VO at hv
  show (if v2 = 1 then _ else _) = _
  unfold f_Mo_rule_b62
  rcases Classical.byContradiction (fun q => c (r03.mpr q)) with e | e | e | e
  · rw [if_neg (by rw [e]; decide), if_pos e, in1_eq, if_pos (Classical.byContradiction fun q => hv (Or.inl ⟨e, q⟩))]
    exact e72
  · exact absurd (Or.inr (Or.inl e)) hv
  · rw [if_neg (by rw [e]; decide), if_neg (by rw [e]; decide), if_pos e, in1_eq, if_pos (Classical.byContradiction fun q => hv (Or.inr (Or.inr (Or.inl ⟨e, q⟩))))]
    exact e72
  · rw [if_neg (by rw [e]; decide), if_neg (by rw [e]; decide), if_neg (by rw [e]; decide), in1_eq, if_pos (Classical.byContradiction fun q => hv (Or.inr (Or.inr (Or.inr ⟨e, q⟩))))]
    exact e72
theorem x_rule (hE : okE E) (x1 : s 0 0 1 = nI E.2.1.1) (hnp : E.2.1.1 ≤ 20) {i : Nat} (hi : i < E.2.1.1) {v2 v3 v4 : Int32} : f_X_rule (E.1 0 0) (nI i) v2 v3 v4 (mu E s) = if v3 = 1 then f_X_rule_b20 (E.1 0 0) (nI i) v2 v3 v4 (mu E s) else if v3 = 2 then f_X_rule_b20 (E.1 0 0) (nI i) v2 v3 v4 (mu E s) else some (-2, mu E s) := by
  unfold f_X_rule
  rw [rO_0 hE o1, Option.bind_some, fp_yes hE x1 hnp hi]
  rfl
theorem lt_nI {a b : Nat} (ha : a < 2 ^ 31) (hb : b < 2 ^ 31) : nI a < nI b ↔ a < b := by
  rw [i_lt, nI_toInt ha, nI_toInt hb]
  omega
theorem eq_nI {a b : Nat} (ha : a < 2 ^ 31) (hb : b < 2 ^ 31) : nI a = nI b ↔ a = b := by
  rw [i_eq, nI_toInt ha, nI_toInt hb]
  omega
def rwR (v1 v2 v3 v4 : Int32) : Nat → Nat → Int32 := fun _ j => match j with
  | 0 => v1
  | 1 => v2
  | 2 => v3
  | 3 => v4
  | _ => 0
def offR : Nat → Nat := fun _ => 0
def cnR (E : ev) : Nat × Nat × Nat := (E.2.1.1, E.2.1.2.1, E.2.1.2.2 + 1)
theorem grR (E : ev) : Gr E 20 20 E.2.1.2.2 offR (cnR E) 1 := by
  refine ⟨lc_r rfl, ?_, ?_, ?_⟩
  · intro k h1 h2
    obtain rfl : k = 20 := by omega
    exact Nat.lt_irrefl _
  · intro k h1 h2
    exact Nat.one_pos
  · intro k k' h1 h2 h3 h4 h5
    omega
theorem x_rule_new (hE : okE E) (hI : Inv E s n) (hr : E.2.1.2.2 < 100) {v1 v2 v3 v4 : Int32} (hv : VO v2 v4) : f_X_rule_b20 (E.1 0 0) v1 v2 v3 v4 (mu E s) = some (nI E.2.1.2.2 + 1 - 1, mu (gE E 20 20 E.2.1.2.2 offR (cnR E) 1) (s3 (gS s 20 20 E.2.1.2.2 (rwR v1 v2 v3 v4)) 0 0 5 (nI E.2.1.2.2 + 1))) := by
  obtain ⟨⟨hnp, hnt, hnr, x1, m1, x3, m9, x5, m17, x9⟩, -⟩ := id hI
  have hG := grR E
  have hE' := gE_ok hE hG
  unfold f_X_rule_b20
  rw [xvo_yes _ hv]
  show (gI 0 5 (mu E s) (E.1 0 0)).bind _ = _
  rw [rI_0_5 hE o1, Option.bind_some, x5, if_pos (show nI E.2.1.2.2 < 100 from (lt_nI (b := 100) (by omega) (by omega)).mpr hr), rR_0_4 hE o1, Option.bind_some, Option.bind_some]
  simp only [nO, Option.bind_some]
  rw [show f_Rule_init (mu E s).1 v1 v2 v3 v4 (mm_ad (mu E s) (.inr (5, [.int 0, .int 0, .int 0, .int 0, .int 0]))) = _ from ruleInit _ _ _ _ _]
  simp only [Option.bind_some]
  have l3 := hE.2 3 0 o1
  rw [sR_hit (n := 100) (f := fun j => if j < E.2.1.2.2 then some (E.1 20 j) else none) (fs := [.int v1, .int v2, .int v3, .int v4, .int 0]) (by
    show (if E.1 3 0 = E.2.2.1 then _ else (mu E s).2 (E.1 3 0)) = _
    rw [if_neg (by omega), mu_at hE o1]; rfl) (if_pos rfl) hr (by decide), Option.bind_some]
  rw [grow (E := E) (s := s) (ka := 3) (row := rwR v1 v2 v3 v4) hE hG (h17_of hI) o1 (by omega) (by omega) rfl (fun a ha => if_neg (ha 20 (by omega) (by omega))) (fun k h1 h2 => by
    obtain rfl : k = 20 := by omega
    exact if_pos rfl) (fun k hk hq => by
    rcases hk with rfl | rfl | rfl
    · exact arr_1 rfl (fun j hj => gE_o hG hj)
    · exact arr_2 rfl (fun j hj => gE_o hG hj)
    · exact absurd rfl hq) (by
    rw [show (mu E s).1 = E.2.2.1 from rfl, arr_up (n := E.2.1.2.2) (z := E.2.2.1) (A := E.1 20) (A' := (gE E 20 20 E.2.1.2.2 offR (cnR E) 1).1 20) (fun j hj => gE_o hG (show j < lc E 20 from hj)) (gE_n (by omega) (by omega))]; rfl)]
  rw [← gE_o hG (show 0 < lc E 0 from o1), rI_0_5 hE' o1, Option.bind_some, gS_k (by omega), x5, rP_0_5 hE' o1, Option.bind_some, rI_0_5 hE' o1, Option.bind_some, s3_at]
  rfl
theorem x_b20_no (M : mm) {a : Nat} {v1 v2 v3 v4 : Int32} (hv : ¬ VO v2 v4) : f_X_rule_b20 a v1 v2 v3 v4 M = some (-2, M) := by
  unfold f_X_rule_b20
  rw [xvo_no _ hv]
  rfl
theorem ua {f : Nat → Int32} {j : Nat} {v : Int32} : upd f j v j = v := by simp [upd]
theorem un {f : Nat → Int32} {j i : Nat} {v : Int32} (h : i ≠ j) : upd f j v i = f i := by simp [upd, h]
theorem op_rule (hE : okE E) (hI : Inv E s n) (v1 v2 v3 v4 : Int32) : OpOK E s n (f_X_rule (E.1 0 0) v1 v2 v3 v4) (f_Mo_rule (E.1 30 0) v1 v2 v3 v4) := by
  obtain ⟨⟨hnp, hnt, hnr, x1, m1, x3, m9, x5, m17, x9⟩, -⟩ := id hI
  have hm1 : th s 30 0 1 = nI E.2.1.1 := by rw [th_m (show (1 : Nat) ≠ 0 by decide)]; exact m1
  rcases ix_cases v1 (n := E.2.1.1) (by omega) with h | ⟨i, hi, rfl⟩
  · refine ⟨-1, E, s, th s, hE, rfl, rfl, ?_, ?_, Inv_thS hI⟩
    · unfold f_X_rule
      rw [rO_0 hE o1, Option.bind_some, fp_no hE x1 hnp h]; rfl
    · unfold f_Mo_rule
      rw [rT hE, Option.bind_some, rO_30 hE o1, Option.bind_some, ip_eq hE hm1, if_pos h]; rfl
  by_cases hv : (v3 = 1 ∨ v3 = 2) ∧ VO v2 v4
  · have e3 : f_X_rule (E.1 0 0) (nI i) v2 v3 v4 (mu E s) = f_X_rule_b20 (E.1 0 0) (nI i) v2 v3 v4 (mu E s) := by
      rw [x_rule hE x1 hnp hi]
      rcases hv.1 with h | h
      · rw [if_pos h]
      · rw [if_neg (by rw [h]; decide), if_pos h]
    by_cases hr : E.2.1.2.2 < 100
    · have hG := grR E
      have hE' := gE_ok hE hG
      have hy : (gE E 20 20 E.2.1.2.2 offR (cnR E) 1).1 30 0 = E.1 30 0 := gE_o hG o1
      have gk : ∀ k, k ≠ 20 → gS s 20 20 E.2.1.2.2 (rwR (nI i) v2 v3 v4) k = s k := fun k hk => gS_k (by omega)
      have q30 : s3 (gS s 20 20 E.2.1.2.2 (rwR (nI i) v2 v3 v4)) 0 0 5 (nI E.2.1.2.2 + 1) 30 = s 30 := by rw [s3_k (by decide), gk 30 (by decide)]
      have q17 : th (s3 (gS s 20 20 E.2.1.2.2 (rwR (nI i) v2 v3 v4)) 0 0 5 (nI E.2.1.2.2 + 1)) 30 0 17 = nI E.2.1.2.2 := by rw [th_m (by decide), q30]; exact m17
      refine ⟨nI E.2.1.2.2 + 1 - 1, gE E 20 20 E.2.1.2.2 offR (cnR E) 1, s3 (gS s 20 20 E.2.1.2.2 (rwR (nI i) v2 v3 v4)) 0 0 5 (nI E.2.1.2.2 + 1), s3 (s3 (s3 (s3 (s3 (th (s3 (gS s 20 20 E.2.1.2.2 (rwR (nI i) v2 v3 v4)) 0 0 5 (nI E.2.1.2.2 + 1))) 48 0 E.2.1.2.2 (nI i)) 49 0 E.2.1.2.2 v2) 50 0 E.2.1.2.2 v3) 51 0 E.2.1.2.2 v4) 30 0 17 (nI E.2.1.2.2 + 1), hE', gE_o hG o1, hy, ?_, ?_, ?_⟩
      · rw [e3, x_rule_new hE hI hr hv.2]
      · rw [← hy, m_rule_yes hE' (by rw [q30]; exact m1) hnp hi hv.1 hv.2]
        unfold f_Mo_rule_b73
        rw [if_neg (by decide), rI_30_17 hE' o1, Option.bind_some, q17, if_neg (show ¬ nI E.2.1.2.2 = 100 from fun q => by have := (eq_nI (b := 100) (by omega) (by omega)).mp q; omega), rR_30_18 hE' o1, Option.bind_some, Option.bind_some, rS_48 hE' o1 hr, Option.bind_some,
          rR_30_19 hE' o1, Option.bind_some, rI_30_17 hE' o1, Option.bind_some, s3_k (show (30 : Nat) ≠ 48 by decide), q17, rS_49 hE' o1 hr, Option.bind_some,
          rR_30_20 hE' o1, Option.bind_some, rI_30_17 hE' o1, Option.bind_some, s3_k (show (30 : Nat) ≠ 49 by decide), s3_k (show (30 : Nat) ≠ 48 by decide), q17, rS_50 hE' o1 hr, Option.bind_some,
          rR_30_21 hE' o1, Option.bind_some, rI_30_17 hE' o1, Option.bind_some, s3_k (show (30 : Nat) ≠ 50 by decide), s3_k (show (30 : Nat) ≠ 49 by decide), s3_k (show (30 : Nat) ≠ 48 by decide), q17, rS_51 hE' o1 hr, Option.bind_some,
          rI_30_17 hE' o1, Option.bind_some, s3_k (show (30 : Nat) ≠ 51 by decide), s3_k (show (30 : Nat) ≠ 50 by decide), s3_k (show (30 : Nat) ≠ 49 by decide), s3_k (show (30 : Nat) ≠ 48 by decide), q17, rP_30_17 hE' o1, Option.bind_some, rI_30_17 hE' o1, Option.bind_some, s3_at]
        rfl
      · obtain ⟨a, b, c, d, e, f, g, ⟨r1, r2⟩, j, k, l⟩ := hI
        unfold Inv
        simp only [th, s3_k (show (0 : Nat) ≠ 30 by decide), s3_k (show (4 : Nat) ≠ 30 by decide), s3_k (show (5 : Nat) ≠ 30 by decide), s3_k (show (6 : Nat) ≠ 30 by decide), s3_k (show (7 : Nat) ≠ 30 by decide), s3_k (show (8 : Nat) ≠ 30 by decide), s3_k (show (9 : Nat) ≠ 30 by decide), s3_k (show (10 : Nat) ≠ 30 by decide), s3_k (show (11 : Nat) ≠ 30 by decide), s3_k (show (12 : Nat) ≠ 30 by decide), s3_k (show (13 : Nat) ≠ 30 by decide), s3_k (show (14 : Nat) ≠ 30 by decide), s3_k (show (15 : Nat) ≠ 30 by decide), s3_k (show (16 : Nat) ≠ 30 by decide), s3_k (show (17 : Nat) ≠ 30 by decide), s3_k (show (18 : Nat) ≠ 30 by decide), s3_k (show (19 : Nat) ≠ 30 by decide), s3_k (show (20 : Nat) ≠ 30 by decide), s3_k (show (32 : Nat) ≠ 30 by decide), s3_k (show (33 : Nat) ≠ 30 by decide), s3_k (show (34 : Nat) ≠ 30 by decide), s3_k (show (35 : Nat) ≠ 30 by decide), s3_k (show (36 : Nat) ≠ 30 by decide), s3_k (show (37 : Nat) ≠ 30 by decide), s3_k (show (38 : Nat) ≠ 30 by decide), s3_k (show (40 : Nat) ≠ 30 by decide), s3_k (show (41 : Nat) ≠ 30 by decide), s3_k (show (42 : Nat) ≠ 30 by decide), s3_k (show (43 : Nat) ≠ 30 by decide), s3_k (show (44 : Nat) ≠ 30 by decide), s3_k (show (45 : Nat) ≠ 30 by decide), s3_k (show (46 : Nat) ≠ 30 by decide), s3_k (show (48 : Nat) ≠ 30 by decide), s3_k (show (49 : Nat) ≠ 30 by decide), s3_k (show (50 : Nat) ≠ 30 by decide), s3_k (show (51 : Nat) ≠ 30 by decide), s3_k (show (52 : Nat) ≠ 30 by decide), s3_k (show (54 : Nat) ≠ 30 by decide), s3_k (show (56 : Nat) ≠ 30 by decide), s3_k (show (57 : Nat) ≠ 30 by decide), s3_k (show (58 : Nat) ≠ 30 by decide), s3_k (show (60 : Nat) ≠ 30 by decide), s3_k (show (61 : Nat) ≠ 30 by decide), s3_k (show (0 : Nat) ≠ 48 by decide), s3_k (show (4 : Nat) ≠ 48 by decide), s3_k (show (5 : Nat) ≠ 48 by decide), s3_k (show (6 : Nat) ≠ 48 by decide), s3_k (show (7 : Nat) ≠ 48 by decide), s3_k (show (8 : Nat) ≠ 48 by decide), s3_k (show (9 : Nat) ≠ 48 by decide), s3_k (show (10 : Nat) ≠ 48 by decide), s3_k (show (11 : Nat) ≠ 48 by decide), s3_k (show (12 : Nat) ≠ 48 by decide), s3_k (show (13 : Nat) ≠ 48 by decide), s3_k (show (14 : Nat) ≠ 48 by decide), s3_k (show (15 : Nat) ≠ 48 by decide), s3_k (show (16 : Nat) ≠ 48 by decide), s3_k (show (17 : Nat) ≠ 48 by decide), s3_k (show (18 : Nat) ≠ 48 by decide), s3_k (show (19 : Nat) ≠ 48 by decide), s3_k (show (20 : Nat) ≠ 48 by decide), s3_k (show (30 : Nat) ≠ 48 by decide), s3_k (show (32 : Nat) ≠ 48 by decide), s3_k (show (33 : Nat) ≠ 48 by decide), s3_k (show (34 : Nat) ≠ 48 by decide), s3_k (show (35 : Nat) ≠ 48 by decide), s3_k (show (36 : Nat) ≠ 48 by decide), s3_k (show (37 : Nat) ≠ 48 by decide), s3_k (show (38 : Nat) ≠ 48 by decide), s3_k (show (40 : Nat) ≠ 48 by decide), s3_k (show (41 : Nat) ≠ 48 by decide), s3_k (show (42 : Nat) ≠ 48 by decide), s3_k (show (43 : Nat) ≠ 48 by decide), s3_k (show (44 : Nat) ≠ 48 by decide), s3_k (show (45 : Nat) ≠ 48 by decide), s3_k (show (46 : Nat) ≠ 48 by decide), s3_k (show (49 : Nat) ≠ 48 by decide), s3_k (show (50 : Nat) ≠ 48 by decide), s3_k (show (51 : Nat) ≠ 48 by decide), s3_k (show (52 : Nat) ≠ 48 by decide), s3_k (show (54 : Nat) ≠ 48 by decide), s3_k (show (56 : Nat) ≠ 48 by decide), s3_k (show (57 : Nat) ≠ 48 by decide), s3_k (show (58 : Nat) ≠ 48 by decide), s3_k (show (60 : Nat) ≠ 48 by decide), s3_k (show (61 : Nat) ≠ 48 by decide), s3_k (show (0 : Nat) ≠ 49 by decide), s3_k (show (4 : Nat) ≠ 49 by decide), s3_k (show (5 : Nat) ≠ 49 by decide), s3_k (show (6 : Nat) ≠ 49 by decide), s3_k (show (7 : Nat) ≠ 49 by decide), s3_k (show (8 : Nat) ≠ 49 by decide), s3_k (show (9 : Nat) ≠ 49 by decide), s3_k (show (10 : Nat) ≠ 49 by decide), s3_k (show (11 : Nat) ≠ 49 by decide), s3_k (show (12 : Nat) ≠ 49 by decide), s3_k (show (13 : Nat) ≠ 49 by decide), s3_k (show (14 : Nat) ≠ 49 by decide), s3_k (show (15 : Nat) ≠ 49 by decide), s3_k (show (16 : Nat) ≠ 49 by decide), s3_k (show (17 : Nat) ≠ 49 by decide), s3_k (show (18 : Nat) ≠ 49 by decide), s3_k (show (19 : Nat) ≠ 49 by decide), s3_k (show (20 : Nat) ≠ 49 by decide), s3_k (show (30 : Nat) ≠ 49 by decide), s3_k (show (32 : Nat) ≠ 49 by decide), s3_k (show (33 : Nat) ≠ 49 by decide), s3_k (show (34 : Nat) ≠ 49 by decide), s3_k (show (35 : Nat) ≠ 49 by decide), s3_k (show (36 : Nat) ≠ 49 by decide), s3_k (show (37 : Nat) ≠ 49 by decide), s3_k (show (38 : Nat) ≠ 49 by decide), s3_k (show (40 : Nat) ≠ 49 by decide), s3_k (show (41 : Nat) ≠ 49 by decide), s3_k (show (42 : Nat) ≠ 49 by decide), s3_k (show (43 : Nat) ≠ 49 by decide), s3_k (show (44 : Nat) ≠ 49 by decide), s3_k (show (45 : Nat) ≠ 49 by decide), s3_k (show (46 : Nat) ≠ 49 by decide), s3_k (show (48 : Nat) ≠ 49 by decide), s3_k (show (50 : Nat) ≠ 49 by decide), s3_k (show (51 : Nat) ≠ 49 by decide), s3_k (show (52 : Nat) ≠ 49 by decide), s3_k (show (54 : Nat) ≠ 49 by decide), s3_k (show (56 : Nat) ≠ 49 by decide), s3_k (show (57 : Nat) ≠ 49 by decide), s3_k (show (58 : Nat) ≠ 49 by decide), s3_k (show (60 : Nat) ≠ 49 by decide), s3_k (show (61 : Nat) ≠ 49 by decide), s3_k (show (0 : Nat) ≠ 50 by decide), s3_k (show (4 : Nat) ≠ 50 by decide), s3_k (show (5 : Nat) ≠ 50 by decide), s3_k (show (6 : Nat) ≠ 50 by decide), s3_k (show (7 : Nat) ≠ 50 by decide), s3_k (show (8 : Nat) ≠ 50 by decide), s3_k (show (9 : Nat) ≠ 50 by decide), s3_k (show (10 : Nat) ≠ 50 by decide), s3_k (show (11 : Nat) ≠ 50 by decide), s3_k (show (12 : Nat) ≠ 50 by decide), s3_k (show (13 : Nat) ≠ 50 by decide), s3_k (show (14 : Nat) ≠ 50 by decide), s3_k (show (15 : Nat) ≠ 50 by decide), s3_k (show (16 : Nat) ≠ 50 by decide), s3_k (show (17 : Nat) ≠ 50 by decide), s3_k (show (18 : Nat) ≠ 50 by decide), s3_k (show (19 : Nat) ≠ 50 by decide), s3_k (show (20 : Nat) ≠ 50 by decide), s3_k (show (30 : Nat) ≠ 50 by decide), s3_k (show (32 : Nat) ≠ 50 by decide), s3_k (show (33 : Nat) ≠ 50 by decide), s3_k (show (34 : Nat) ≠ 50 by decide), s3_k (show (35 : Nat) ≠ 50 by decide), s3_k (show (36 : Nat) ≠ 50 by decide), s3_k (show (37 : Nat) ≠ 50 by decide), s3_k (show (38 : Nat) ≠ 50 by decide), s3_k (show (40 : Nat) ≠ 50 by decide), s3_k (show (41 : Nat) ≠ 50 by decide), s3_k (show (42 : Nat) ≠ 50 by decide), s3_k (show (43 : Nat) ≠ 50 by decide), s3_k (show (44 : Nat) ≠ 50 by decide), s3_k (show (45 : Nat) ≠ 50 by decide), s3_k (show (46 : Nat) ≠ 50 by decide), s3_k (show (48 : Nat) ≠ 50 by decide), s3_k (show (49 : Nat) ≠ 50 by decide), s3_k (show (51 : Nat) ≠ 50 by decide), s3_k (show (52 : Nat) ≠ 50 by decide), s3_k (show (54 : Nat) ≠ 50 by decide), s3_k (show (56 : Nat) ≠ 50 by decide), s3_k (show (57 : Nat) ≠ 50 by decide), s3_k (show (58 : Nat) ≠ 50 by decide), s3_k (show (60 : Nat) ≠ 50 by decide), s3_k (show (61 : Nat) ≠ 50 by decide), s3_k (show (0 : Nat) ≠ 51 by decide), s3_k (show (4 : Nat) ≠ 51 by decide), s3_k (show (5 : Nat) ≠ 51 by decide), s3_k (show (6 : Nat) ≠ 51 by decide), s3_k (show (7 : Nat) ≠ 51 by decide), s3_k (show (8 : Nat) ≠ 51 by decide), s3_k (show (9 : Nat) ≠ 51 by decide), s3_k (show (10 : Nat) ≠ 51 by decide), s3_k (show (11 : Nat) ≠ 51 by decide), s3_k (show (12 : Nat) ≠ 51 by decide), s3_k (show (13 : Nat) ≠ 51 by decide), s3_k (show (14 : Nat) ≠ 51 by decide), s3_k (show (15 : Nat) ≠ 51 by decide), s3_k (show (16 : Nat) ≠ 51 by decide), s3_k (show (17 : Nat) ≠ 51 by decide), s3_k (show (18 : Nat) ≠ 51 by decide), s3_k (show (19 : Nat) ≠ 51 by decide), s3_k (show (20 : Nat) ≠ 51 by decide), s3_k (show (30 : Nat) ≠ 51 by decide), s3_k (show (32 : Nat) ≠ 51 by decide), s3_k (show (33 : Nat) ≠ 51 by decide), s3_k (show (34 : Nat) ≠ 51 by decide), s3_k (show (35 : Nat) ≠ 51 by decide), s3_k (show (36 : Nat) ≠ 51 by decide), s3_k (show (37 : Nat) ≠ 51 by decide), s3_k (show (38 : Nat) ≠ 51 by decide), s3_k (show (40 : Nat) ≠ 51 by decide), s3_k (show (41 : Nat) ≠ 51 by decide), s3_k (show (42 : Nat) ≠ 51 by decide), s3_k (show (43 : Nat) ≠ 51 by decide), s3_k (show (44 : Nat) ≠ 51 by decide), s3_k (show (45 : Nat) ≠ 51 by decide), s3_k (show (46 : Nat) ≠ 51 by decide), s3_k (show (48 : Nat) ≠ 51 by decide), s3_k (show (49 : Nat) ≠ 51 by decide), s3_k (show (50 : Nat) ≠ 51 by decide), s3_k (show (52 : Nat) ≠ 51 by decide), s3_k (show (54 : Nat) ≠ 51 by decide), s3_k (show (56 : Nat) ≠ 51 by decide), s3_k (show (57 : Nat) ≠ 51 by decide), s3_k (show (58 : Nat) ≠ 51 by decide), s3_k (show (60 : Nat) ≠ 51 by decide), s3_k (show (61 : Nat) ≠ 51 by decide), s3_k (show (4 : Nat) ≠ 0 by decide), s3_k (show (5 : Nat) ≠ 0 by decide), s3_k (show (6 : Nat) ≠ 0 by decide), s3_k (show (7 : Nat) ≠ 0 by decide), s3_k (show (8 : Nat) ≠ 0 by decide), s3_k (show (9 : Nat) ≠ 0 by decide), s3_k (show (10 : Nat) ≠ 0 by decide), s3_k (show (11 : Nat) ≠ 0 by decide), s3_k (show (12 : Nat) ≠ 0 by decide), s3_k (show (13 : Nat) ≠ 0 by decide), s3_k (show (14 : Nat) ≠ 0 by decide), s3_k (show (15 : Nat) ≠ 0 by decide), s3_k (show (16 : Nat) ≠ 0 by decide), s3_k (show (17 : Nat) ≠ 0 by decide), s3_k (show (18 : Nat) ≠ 0 by decide), s3_k (show (19 : Nat) ≠ 0 by decide), s3_k (show (20 : Nat) ≠ 0 by decide), s3_k (show (30 : Nat) ≠ 0 by decide), s3_k (show (32 : Nat) ≠ 0 by decide), s3_k (show (33 : Nat) ≠ 0 by decide), s3_k (show (34 : Nat) ≠ 0 by decide), s3_k (show (35 : Nat) ≠ 0 by decide), s3_k (show (36 : Nat) ≠ 0 by decide), s3_k (show (37 : Nat) ≠ 0 by decide), s3_k (show (38 : Nat) ≠ 0 by decide), s3_k (show (40 : Nat) ≠ 0 by decide), s3_k (show (41 : Nat) ≠ 0 by decide), s3_k (show (42 : Nat) ≠ 0 by decide), s3_k (show (43 : Nat) ≠ 0 by decide), s3_k (show (44 : Nat) ≠ 0 by decide), s3_k (show (45 : Nat) ≠ 0 by decide), s3_k (show (46 : Nat) ≠ 0 by decide), s3_k (show (48 : Nat) ≠ 0 by decide), s3_k (show (49 : Nat) ≠ 0 by decide), s3_k (show (50 : Nat) ≠ 0 by decide), s3_k (show (51 : Nat) ≠ 0 by decide), s3_k (show (52 : Nat) ≠ 0 by decide), s3_k (show (54 : Nat) ≠ 0 by decide), s3_k (show (56 : Nat) ≠ 0 by decide), s3_k (show (57 : Nat) ≠ 0 by decide), s3_k (show (58 : Nat) ≠ 0 by decide), s3_k (show (60 : Nat) ≠ 0 by decide), s3_k (show (61 : Nat) ≠ 0 by decide), s3_at, gk 0 (by decide), gk 4 (by decide), gk 5 (by decide), gk 6 (by decide), gk 7 (by decide), gk 8 (by decide), gk 9 (by decide), gk 10 (by decide), gk 11 (by decide), gk 12 (by decide), gk 13 (by decide), gk 14 (by decide), gk 15 (by decide), gk 16 (by decide), gk 17 (by decide), gk 18 (by decide), gk 19 (by decide), gk 30 (by decide), gk 32 (by decide), gk 33 (by decide), gk 34 (by decide), gk 35 (by decide), gk 36 (by decide), gk 37 (by decide), gk 38 (by decide), gk 40 (by decide), gk 41 (by decide), gk 42 (by decide), gk 43 (by decide), gk 44 (by decide), gk 45 (by decide), gk 46 (by decide), gk 48 (by decide), gk 49 (by decide), gk 50 (by decide), gk 51 (by decide), gk 52 (by decide), gk 54 (by decide), gk 56 (by decide), gk 57 (by decide), gk 58 (by decide), gk 60 (by decide), gk 61 (by decide)]
        refine ⟨⟨hnp, hnt, hr, x1, m1, x3, m9, nI_add _ 1, nI_add _ 1, x9⟩, b, c, d, e, f, g, ⟨?_, ?_⟩, j, iUs_mono k (Nat.le_succ n), l⟩
        · intro q hq
          by_cases h : q = E.2.1.2.2
          · subst h
            rw [gS_n (by omega) (by omega), ua, ua, ua, ua]
            refine ⟨rfl, rfl, rfl, rfl, (r2 _ (Nat.le_refl _) hr).symm, Or.inl (r2 _ (Nat.le_refl _) hr), ?_⟩
            rcases hv.2 with ⟨h, -⟩ | h | ⟨h, -⟩ | ⟨h, -⟩
            · exact Or.inl h
            · exact Or.inr (Or.inl h)
            · exact Or.inr (Or.inr (Or.inl h))
            · exact Or.inr (Or.inr (Or.inr h))
          · rw [gS_o h, un h, un h, un h, un h]
            have hq' : q < E.2.1.2.2 + 1 := hq
            exact r1 q (by omega)
        · intro q hq h
          have hq' : E.2.1.2.2 + 1 ≤ q := hq
          exact r2 q (by omega) h
    · have hr' : E.2.1.2.2 = 100 := by omega
      refine ⟨-4, E, s, th s, hE, rfl, rfl, ?_, ?_, Inv_thS hI⟩
      · rw [e3]
        unfold f_X_rule_b20
        rw [xvo_yes _ hv.2]
        show (gI 0 5 (mu E s) (E.1 0 0)).bind _ = _
        rw [rI_0_5 hE o1, Option.bind_some, x5, hr']
        rfl
      · rw [m_rule_yes hE m1 hnp hi hv.1 hv.2]
        unfold f_Mo_rule_b73
        rw [if_neg (by decide), rI_30_17 hE o1, Option.bind_some, th_m (by decide), m17, hr']
        rfl
  · refine ⟨-2, E, s, th s, hE, rfl, rfl, ?_, m_rule_no hE m1 hnp hi hv, Inv_thS hI⟩
    rw [x_rule hE x1 hnp hi]
    by_cases c1 : v3 = 1
    · rw [if_pos c1, x_b20_no _ (fun q => hv ⟨Or.inl c1, q⟩)]
    · rw [if_neg c1]
      by_cases c2 : v3 = 2
      · rw [if_pos c2, x_b20_no _ (fun q => hv ⟨Or.inr c2, q⟩)]
      · rw [if_neg c2]
end RUL
