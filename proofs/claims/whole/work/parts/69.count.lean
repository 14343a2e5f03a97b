/-- counting -/
def ct1 (g : Nat → Bool) : Nat → Nat → Int32 → Int32
  | 0, _, c => c
  | k + 1, j, c => ct1 g k (j + 1) (if g j = true then c + 1 else c)
theorem ct1_congr {g g' : Nat → Bool} : ∀ (k j : Nat) (c : Int32), (∀ q, j ≤ q → q < j + k → g q = g' q) → ct1 g k j c = ct1 g' k j c
  | 0, _, _, _ => rfl
  | k + 1, j, c, h => by
    unfold ct1
    rw [h j (Nat.le_refl _) (by omega), ct1_congr k (j + 1) _ (fun q h1 h2 => h q (by omega) (by omega))]
theorem add0 (c : Int32) : c + 0 = c := Int32.add_zero c
section CNT
variable {E : ev} {s : st} {u : Nat} {x y : Int32}
theorem x_ofTitle (hE : okE E) (hu : s 5 0 3 = nI u) (hu2 : u ≤ 512) : ∀ (k fu j : Nat) (c : Int32), k < fu → j + k = u → f_Usages_ofTitle_b4 fu (E.1 5 0) x c (nI j) (mu E s) = some (ct1 (fun q => decide (s 7 0 q = x)) k j c, mu E s) := by
  intro k
  induction k with
  | zero =>
    intro fu j c h1 h2
    obtain ⟨f, rfl⟩ : ∃ f, fu = f + 1 := ⟨fu - 1, by omega⟩
    unfold f_Usages_ofTitle_b4
    rw [rI_5_3 hE o1, Option.bind_some, hu, if_pos (nI_le (by omega) (by omega))]; rfl
  | succ k ih =>
    intro fu j c h1 h2
    obtain ⟨f, rfl⟩ : ∃ f, fu = f + 1 := ⟨fu - 1, by omega⟩
    unfold f_Usages_ofTitle_b4 ct1
    rw [rI_5_3 hE o1, Option.bind_some, hu, if_neg (nI_ge (by omega) (by omega)), rR_5_1 hE o1, Option.bind_some, rA_7 hE o1 (by omega), Option.bind_some, nI_1]
    by_cases e : s 7 0 j = x
    · rw [if_pos e, if_pos (decide_eq_true e), ih f (j + 1) _ (by omega) (by omega)]
    · rw [if_neg e, if_neg (fun h => e (of_decide_eq_true h)), ih f (j + 1) _ (by omega) (by omega)]
theorem and_t {a b : Prop} [Decidable a] [Decidable b] (ha : a) (hb : b) : (decide a && decide b) = true := by simp [ha, hb]
theorem and_f1 {a b : Prop} [Decidable a] [Decidable b] (ha : ¬ a) : ¬ (decide a && decide b) = true := by simp [ha]
theorem and_f2 {a b : Prop} [Decidable a] [Decidable b] (hb : ¬ b) : ¬ (decide a && decide b) = true := by simp [hb]
theorem x_ofTitleIn (hE : okE E) (hu : s 5 0 3 = nI u) (hu2 : u ≤ 512) : ∀ (k fu j : Nat) (c : Int32), k < fu → j + k = u → f_Usages_ofTitleIn_b5 fu (E.1 5 0) x y c (nI j) (mu E s) = some (ct1 (fun q => decide (s 7 0 q = x) && decide (s 8 0 q = y)) k j c, mu E s) := by
  intro k
  induction k with
  | zero =>
    intro fu j c h1 h2
    obtain ⟨f, rfl⟩ : ∃ f, fu = f + 1 := ⟨fu - 1, by omega⟩
    unfold f_Usages_ofTitleIn_b5
    rw [rI_5_3 hE o1, Option.bind_some, hu, if_pos (nI_le (by omega) (by omega))]; rfl
  | succ k ih =>
    intro fu j c h1 h2
    obtain ⟨f, rfl⟩ : ∃ f, fu = f + 1 := ⟨fu - 1, by omega⟩
    unfold f_Usages_ofTitleIn_b5 ct1
    rw [rI_5_3 hE o1, Option.bind_some, hu, if_neg (nI_ge (by omega) (by omega)), rR_5_1 hE o1, Option.bind_some, rA_7 hE o1 (by omega), Option.bind_some, nI_1]
    by_cases e : s 7 0 j = x
    · rw [if_pos e, rR_5_2 hE o1, Option.bind_some, rA_8 hE o1 (by omega), Option.bind_some]
      by_cases e2 : s 8 0 j = y
      · rw [if_pos e2, if_pos (and_t e e2), ih f (j + 1) _ (by omega) (by omega)]
      · rw [if_neg e2, if_neg (and_f2 e2), ih f (j + 1) _ (by omega) (by omega)]
    · rw [if_neg e, if_neg (and_f1 e), ih f (j + 1) _ (by omega) (by omega)]
theorem x_ofReaderIn (hE : okE E) (hu : s 5 0 3 = nI u) (hu2 : u ≤ 512) : ∀ (k fu j : Nat) (c : Int32), k < fu → j + k = u → f_Usages_ofReaderIn_b5 fu (E.1 5 0) x y c (nI j) (mu E s) = some (ct1 (fun q => decide (s 6 0 q = x) && decide (s 8 0 q = y)) k j c, mu E s) := by
  intro k
  induction k with
  | zero =>
    intro fu j c h1 h2
    obtain ⟨f, rfl⟩ : ∃ f, fu = f + 1 := ⟨fu - 1, by omega⟩
    unfold f_Usages_ofReaderIn_b5
    rw [rI_5_3 hE o1, Option.bind_some, hu, if_pos (nI_le (by omega) (by omega))]; rfl
  | succ k ih =>
    intro fu j c h1 h2
    obtain ⟨f, rfl⟩ : ∃ f, fu = f + 1 := ⟨fu - 1, by omega⟩
    unfold f_Usages_ofReaderIn_b5 ct1
    rw [rI_5_3 hE o1, Option.bind_some, hu, if_neg (nI_ge (by omega) (by omega)), rR_5_0 hE o1, Option.bind_some, rA_6 hE o1 (by omega), Option.bind_some, nI_1]
    by_cases e : s 6 0 j = x
    · rw [if_pos e, rR_5_2 hE o1, Option.bind_some, rA_8 hE o1 (by omega), Option.bind_some]
      by_cases e2 : s 8 0 j = y
      · rw [if_pos e2, if_pos (and_t e e2), ih f (j + 1) _ (by omega) (by omega)]
      · rw [if_neg e2, if_neg (and_f2 e2), ih f (j + 1) _ (by omega) (by omega)]
    · rw [if_neg e, if_neg (and_f1 e), ih f (j + 1) _ (by omega) (by omega)]
theorem m_ofTitle (hE : okE E) (hu : s 30 0 25 = nI u) (hu2 : u ≤ 512) : ∀ (k fu j : Nat) (c : Int32), k < fu → j + k = u → f_Mo_about_b112 fu (E.1 30 0) x c (nI j) (mu E s) = some (ct1 (fun q => decide (s 57 0 q = x)) k j c, mu E s) := by
  intro k
  induction k with
  | zero =>
    intro fu j c h1 h2
    obtain ⟨f, rfl⟩ : ∃ f, fu = f + 1 := ⟨fu - 1, by omega⟩
    unfold f_Mo_about_b112
    rw [rI_30_25 hE o1, Option.bind_some, hu, if_pos (nI_le (by omega) (by omega))]; rfl
  | succ k ih =>
    intro fu j c h1 h2
    obtain ⟨f, rfl⟩ : ∃ f, fu = f + 1 := ⟨fu - 1, by omega⟩
    unfold f_Mo_about_b112 f_Mo_about_b138 ct1
    rw [rI_30_25 hE o1, Option.bind_some, hu, if_neg (nI_ge (by omega) (by omega)), rR_30_27 hE o1, Option.bind_some, rA_57 hE o1 (by omega), Option.bind_some, nI_1]
    by_cases e : s 57 0 j = x
    · rw [if_pos e, if_pos (decide_eq_true e), ih f (j + 1) _ (by omega) (by omega)]
    · rw [if_neg e, if_neg (fun h => e (of_decide_eq_true h)), add0, ih f (j + 1) _ (by omega) (by omega)]
theorem m_ofTitleIn (hE : okE E) (hu : s 30 0 25 = nI u) (hu2 : u ≤ 512) : ∀ (k fu j : Nat) (c : Int32), k < fu → j + k = u → f_Mo_usage_b34 fu (E.1 30 0) x y c (nI j) (mu E s) = some (ct1 (fun q => decide (s 57 0 q = x) && decide (s 58 0 q = y)) k j c, mu E s) := by
  intro k
  induction k with
  | zero =>
    intro fu j c h1 h2
    obtain ⟨f, rfl⟩ : ∃ f, fu = f + 1 := ⟨fu - 1, by omega⟩
    unfold f_Mo_usage_b34
    rw [rI_30_25 hE o1, Option.bind_some, hu, if_pos (nI_le (by omega) (by omega))]; rfl
  | succ k ih =>
    intro fu j c h1 h2
    obtain ⟨f, rfl⟩ : ∃ f, fu = f + 1 := ⟨fu - 1, by omega⟩
    unfold f_Mo_usage_b34 f_Mo_usage_b70 f_Mo_usage_b71 ct1
    rw [rI_30_25 hE o1, Option.bind_some, hu, if_neg (nI_ge (by omega) (by omega)), rR_30_27 hE o1, Option.bind_some, rA_57 hE o1 (by omega), Option.bind_some, nI_1]
    by_cases e : s 57 0 j = x
    · rw [if_pos e, rR_30_28 hE o1, Option.bind_some, rA_58 hE o1 (by omega), Option.bind_some]
      by_cases e2 : s 58 0 j = y
      · rw [if_pos e2, if_pos (and_t e e2), ih f (j + 1) _ (by omega) (by omega)]
      · rw [if_neg e2, if_neg (and_f2 e2), add0, ih f (j + 1) _ (by omega) (by omega)]
    · rw [if_neg e, if_neg (and_f1 e), add0, ih f (j + 1) _ (by omega) (by omega)]
theorem m_ofReaderIn (hE : okE E) (hu : s 30 0 25 = nI u) (hu2 : u ≤ 512) : ∀ (k fu j : Nat) (c : Int32), k < fu → j + k = u → f_Mo_usagesOf_b5 fu (E.1 30 0) x y c (nI j) (mu E s) = some (ct1 (fun q => decide (s 56 0 q = x) && decide (s 58 0 q = y)) k j c, mu E s) := by
  intro k
  induction k with
  | zero =>
    intro fu j c h1 h2
    obtain ⟨f, rfl⟩ : ∃ f, fu = f + 1 := ⟨fu - 1, by omega⟩
    unfold f_Mo_usagesOf_b5
    rw [rI_30_25 hE o1, Option.bind_some, hu, if_pos (nI_le (by omega) (by omega))]; rfl
  | succ k ih =>
    intro fu j c h1 h2
    obtain ⟨f, rfl⟩ : ∃ f, fu = f + 1 := ⟨fu - 1, by omega⟩
    unfold f_Mo_usagesOf_b5 f_Mo_usagesOf_b41 f_Mo_usagesOf_b42 ct1
    rw [rI_30_25 hE o1, Option.bind_some, hu, if_neg (nI_ge (by omega) (by omega)), rR_30_26 hE o1, Option.bind_some, rA_56 hE o1 (by omega), Option.bind_some, nI_1]
    by_cases e : s 56 0 j = x
    · rw [if_pos e, rR_30_28 hE o1, Option.bind_some, rA_58 hE o1 (by omega), Option.bind_some]
      by_cases e2 : s 58 0 j = y
      · rw [if_pos e2, if_pos (and_t e e2), ih f (j + 1) _ (by omega) (by omega)]
      · rw [if_neg e2, if_neg (and_f2 e2), add0, ih f (j + 1) _ (by omega) (by omega)]
    · rw [if_neg e, if_neg (and_f1 e), add0, ih f (j + 1) _ (by omega) (by omega)]
end CNT
section OPS2
variable {E : ev} {s : st} {n : Nat}
theorem op_usage (hE : okE E) (hI : Inv E s n) (hn : n ≤ 512) (v1 v2 : Int32) : OpOK E s n (f_X_usage (E.1 0 0) v1 v2) (f_Mo_usage (E.1 30 0) v1 v2) := by
  obtain ⟨⟨hnp, hnt, hnr, x1, m1, x3, m9, x5, m17, x9⟩, -, -, -, -, -, -, -, -, ⟨u, u1, u2, u3, u4⟩, -⟩ := id hI
  have hm9 : th s 30 0 9 = nI E.2.1.2.1 := by rw [th_m (show (9 : Nat) ≠ 0 by decide)]; exact m9
  have hm25 : th s 30 0 25 = nI u := by rw [th_m (show (25 : Nat) ≠ 0 by decide)]; exact u3
  rcases ix_cases v1 (n := E.2.1.2.1) (by omega) with h | ⟨i, hi, rfl⟩
  · refine ⟨-1, E, s, th s, hE, rfl, rfl, ?_, ?_, Inv_thS hI⟩
    · unfold f_X_usage
      rw [rO_0 hE o1, Option.bind_some, ft_no hE x3 hnt h]; rfl
    · unfold f_Mo_usage
      rw [rT hE, Option.bind_some, rO_30 hE o1, Option.bind_some, it_eq hE hm9, if_pos h]; rfl
  by_cases h2 : v2 < 0 ∨ 6666 < v2
  · refine ⟨-2, E, s, th s, hE, rfl, rfl, ?_, ?_, Inv_thS hI⟩
    · unfold f_X_usage
      rw [rO_0 hE o1, Option.bind_some, ft_yes hE x3 hnt hi]
      show (if v2 < 0 then _ else _) = _
      by_cases h3 : v2 < 0
      · rw [if_pos h3]
      · rw [if_neg h3, if_neg (Int32.not_le.mpr (h2.resolve_left h3))]
    · unfold f_Mo_usage
      rw [rT hE, Option.bind_some, rO_30 hE o1, Option.bind_some, it_eq hE hm9, if_neg (ix_no (by omega) hi)]
      show (f_Mo_in1 v2 0 6666 _).bind _ = _
      rw [in1_eq, if_pos h2]; rfl
  · refine ⟨ct1 (fun q => decide (s 7 0 q = nI i) && decide (s 8 0 q = v2)) u 0 0, E, s, th s, hE, rfl, rfl, ?_, ?_, Inv_thS hI⟩
    · unfold f_X_usage
      rw [rO_0 hE o1, Option.bind_some, ft_yes hE x3 hnt hi]
      show (if v2 < 0 then _ else _) = _
      rw [if_neg (fun h => h2 (Or.inl h)), if_pos (Int32.not_lt.mp (fun h => h2 (Or.inr h))), rR_0_7 hE o1, Option.bind_some, rO_5 hE o1, Option.bind_some]
      unfold f_Usages_ofTitleIn
      rw [show (f_Usages_ofTitleIn_b5 FU (E.1 5 0) (nI i) v2 0 0 (mu E s)) = _ from x_ofTitleIn hE u2 (by omega) u FU 0 0 (by unfold FU; omega) (by omega)]; rfl
    · unfold f_Mo_usage
      rw [rT hE, Option.bind_some, rO_30 hE o1, Option.bind_some, it_eq hE hm9, if_neg (ix_no (by omega) hi)]
      show (f_Mo_in1 v2 0 6666 _).bind _ = _
      rw [in1_eq, if_neg h2]
      show f_Mo_usage_b34 FU (E.1 30 0) (nI i) v2 0 (nI 0) (mu E (th s)) = _
      rw [m_ofTitleIn hE hm25 (by omega) u FU 0 0 (by unfold FU; omega) (by omega), th_k (show (57 : Nat) ≠ 30 by decide), th_k (show (58 : Nat) ≠ 30 by decide), ct1_congr (g' := fun q => decide (s 7 0 q = nI i) && decide (s 8 0 q = v2)) u 0 0 (fun q _ hq => by
        obtain ⟨-, b, c⟩ := u4 q (by omega)
        show (decide (s 57 0 q = nI i) && decide (s 58 0 q = v2)) = _
        rw [← b, ← c])]
theorem iSp_cg {nt : Nat} {t t' f g : Nat → Nat → Int32} {m44 m45 m46 : Nat → Int32} (h : iSp nt t f g m44 m45 m46) (he : ∀ q, q < nt → t' q 6 = t q 6) : iSp nt t' f g m44 m45 m46 := by
  refine ⟨fun q hq => ?_, h.2⟩
  rw [he q hq]
  exact h.1 q hq
theorem op_embargo (hE : okE E) (hI : Inv E s n) (v1 v2 v3 : Int32) : OpOK E s n (f_X_embargo (E.1 0 0) v1 v2 v3) (f_Mo_embargo (E.1 30 0) v1 v2 v3) := by
  obtain ⟨⟨hnp, hnt, hnr, x1, m1, x3, m9, x5, m17, x9⟩, -⟩ := id hI
  have hm9 : ∀ s1 : st, s1 30 = s 30 → th s1 30 0 9 = nI E.2.1.2.1 := fun s1 h => by rw [th_m (show (9 : Nat) ≠ 0 by decide), h]; exact m9
  rcases ix_cases v1 (n := E.2.1.2.1) (by omega) with h | ⟨i, hi, rfl⟩
  · refine ⟨-1, E, s, th s, hE, rfl, rfl, ?_, ?_, Inv_thS hI⟩
    · unfold f_X_embargo
      rw [rO_0 hE o1, Option.bind_some, ft_no hE x3 hnt h]; rfl
    · unfold f_Mo_embargo
      rw [rT hE, Option.bind_some, rO_30 hE o1, Option.bind_some, it_eq hE (hm9 s rfl), if_pos h]; rfl
  by_cases h2 : v2 < 0 ∨ 120 < v2
  · refine ⟨-2, E, s, th s, hE, rfl, rfl, ?_, ?_, Inv_thS hI⟩
    · unfold f_X_embargo
      rw [rO_0 hE o1, Option.bind_some, ft_yes hE x3 hnt hi]
      show (if v2 < 0 then some (-2, mu E s) else if 120 < v2 then some (-2, mu E s) else _) = _
      rw [if_or, if_pos h2]
    · unfold f_Mo_embargo
      rw [rT hE, Option.bind_some, rO_30 hE o1, Option.bind_some, it_eq hE (hm9 s rfl), if_neg (ix_no (by omega) hi)]
      show (f_Mo_in1 v2 0 120 _).bind _ = _
      rw [in1_eq, if_pos h2]; rfl
  by_cases h3 : v3 < 0 ∨ 200000 < v3
  · refine ⟨-2, E, s, th s, hE, rfl, rfl, ?_, ?_, Inv_thS hI⟩
    · unfold f_X_embargo
      rw [rO_0 hE o1, Option.bind_some, ft_yes hE x3 hnt hi]
      show (if v2 < 0 then some (-2, mu E s) else if 120 < v2 then some (-2, mu E s) else _) = _
      rw [if_or, if_neg h2, xday_eq, if_pos h3]; rfl
    · unfold f_Mo_embargo
      rw [rT hE, Option.bind_some, rO_30 hE o1, Option.bind_some, it_eq hE (hm9 s rfl), if_neg (ix_no (by omega) hi)]
      show (f_Mo_in1 v2 0 120 _).bind _ = _
      rw [in1_eq, if_neg h2]
      show (f_Mo_isDay v3 _).bind _ = _
      rw [mday_eq, if_pos h3]; rfl
  refine ⟨if 0 < ((v3 / 30 - v2 + 1) * 30) then ((v3 / 30 - v2 + 1) * 30) else 0, E, s3 s 17 i 3 v2, s3 (th (s3 s 17 i 3 v2)) 43 0 i v2, hE, rfl, rfl, ?_, ?_, ?_⟩
  · unfold f_X_embargo
    rw [rO_0 hE o1, Option.bind_some, ft_yes hE x3 hnt hi]
    show (if v2 < 0 then some (-2, mu E s) else if 120 < v2 then some (-2, mu E s) else _) = _
    rw [if_or, if_neg h2, xday_eq, if_neg h3]
    show (pF 6 3 _ _ _).bind _ = _
    rw [rP_17_3 hE hi, Option.bind_some, rO_17 hE hi, Option.bind_some]
    unfold f_Title_lastFreeMonth f_X_monthOf
    rw [Option.bind_some]
    show ((gI 6 3 _ _).bind _).bind _ = _
    rw [rI_17_3 hE hi, s3_at, upd_at]; rfl
  · unfold f_Mo_embargo
    rw [rT hE, Option.bind_some, rO_30 hE o1, Option.bind_some, it_eq hE (hm9 _ (s3_k (by decide))), if_neg (ix_no (by omega) hi)]
    show (f_Mo_in1 v2 0 120 _).bind _ = _
    rw [in1_eq, if_neg h2]
    show (f_Mo_isDay v3 _).bind _ = _
    rw [mday_eq, if_neg h3]
    show (gR 1 13 _ _).bind _ = _
    rw [rR_30_13 hE o1, Option.bind_some, rS_43 hE o1 (by omega), Option.bind_some]
    by_cases c : 0 < ((v3 / 30 - v2 + 1) * 30)
    · rw [if_pos c, if_pos (Int32.le_of_lt c)]
    · rw [if_neg c]
      by_cases c2 : 0 ≤ ((v3 / 30 - v2 + 1) * 30)
      · rw [if_pos c2, Int32.le_antisymm (Int32.not_lt.mp c) c2]
      · rw [if_neg c2]
  · obtain ⟨a, b, c, d, e, ⟨f1, f2⟩, g, i', j, k, l⟩ := Inv_thS hI
    unfold Inv
    simp only [th, s3_u2, s3_k (show (0 : Nat) ≠ 17 by decide), s3_k (show (4 : Nat) ≠ 17 by decide), s3_k (show (5 : Nat) ≠ 17 by decide), s3_k (show (6 : Nat) ≠ 17 by decide), s3_k (show (7 : Nat) ≠ 17 by decide), s3_k (show (8 : Nat) ≠ 17 by decide), s3_k (show (9 : Nat) ≠ 17 by decide), s3_k (show (10 : Nat) ≠ 17 by decide), s3_k (show (11 : Nat) ≠ 17 by decide), s3_k (show (12 : Nat) ≠ 17 by decide), s3_k (show (13 : Nat) ≠ 17 by decide), s3_k (show (14 : Nat) ≠ 17 by decide), s3_k (show (15 : Nat) ≠ 17 by decide), s3_k (show (16 : Nat) ≠ 17 by decide), s3_k (show (18 : Nat) ≠ 17 by decide), s3_k (show (19 : Nat) ≠ 17 by decide), s3_k (show (20 : Nat) ≠ 17 by decide), s3_k (show (30 : Nat) ≠ 17 by decide), s3_k (show (32 : Nat) ≠ 17 by decide), s3_k (show (33 : Nat) ≠ 17 by decide), s3_k (show (34 : Nat) ≠ 17 by decide), s3_k (show (35 : Nat) ≠ 17 by decide), s3_k (show (36 : Nat) ≠ 17 by decide), s3_k (show (37 : Nat) ≠ 17 by decide), s3_k (show (38 : Nat) ≠ 17 by decide), s3_k (show (40 : Nat) ≠ 17 by decide), s3_k (show (41 : Nat) ≠ 17 by decide), s3_k (show (42 : Nat) ≠ 17 by decide), s3_k (show (43 : Nat) ≠ 17 by decide), s3_k (show (44 : Nat) ≠ 17 by decide), s3_k (show (45 : Nat) ≠ 17 by decide), s3_k (show (46 : Nat) ≠ 17 by decide), s3_k (show (48 : Nat) ≠ 17 by decide), s3_k (show (49 : Nat) ≠ 17 by decide), s3_k (show (50 : Nat) ≠ 17 by decide), s3_k (show (51 : Nat) ≠ 17 by decide), s3_k (show (52 : Nat) ≠ 17 by decide), s3_k (show (54 : Nat) ≠ 17 by decide), s3_k (show (56 : Nat) ≠ 17 by decide), s3_k (show (57 : Nat) ≠ 17 by decide), s3_k (show (58 : Nat) ≠ 17 by decide), s3_k (show (60 : Nat) ≠ 17 by decide), s3_k (show (61 : Nat) ≠ 17 by decide), s3_k (show (0 : Nat) ≠ 43 by decide), s3_k (show (4 : Nat) ≠ 43 by decide), s3_k (show (5 : Nat) ≠ 43 by decide), s3_k (show (6 : Nat) ≠ 43 by decide), s3_k (show (7 : Nat) ≠ 43 by decide), s3_k (show (8 : Nat) ≠ 43 by decide), s3_k (show (9 : Nat) ≠ 43 by decide), s3_k (show (10 : Nat) ≠ 43 by decide), s3_k (show (11 : Nat) ≠ 43 by decide), s3_k (show (12 : Nat) ≠ 43 by decide), s3_k (show (13 : Nat) ≠ 43 by decide), s3_k (show (14 : Nat) ≠ 43 by decide), s3_k (show (15 : Nat) ≠ 43 by decide), s3_k (show (16 : Nat) ≠ 43 by decide), s3_k (show (17 : Nat) ≠ 43 by decide), s3_k (show (18 : Nat) ≠ 43 by decide), s3_k (show (19 : Nat) ≠ 43 by decide), s3_k (show (20 : Nat) ≠ 43 by decide), s3_k (show (30 : Nat) ≠ 43 by decide), s3_k (show (32 : Nat) ≠ 43 by decide), s3_k (show (33 : Nat) ≠ 43 by decide), s3_k (show (34 : Nat) ≠ 43 by decide), s3_k (show (35 : Nat) ≠ 43 by decide), s3_k (show (36 : Nat) ≠ 43 by decide), s3_k (show (37 : Nat) ≠ 43 by decide), s3_k (show (38 : Nat) ≠ 43 by decide), s3_k (show (40 : Nat) ≠ 43 by decide), s3_k (show (41 : Nat) ≠ 43 by decide), s3_k (show (42 : Nat) ≠ 43 by decide), s3_k (show (44 : Nat) ≠ 43 by decide), s3_k (show (45 : Nat) ≠ 43 by decide), s3_k (show (46 : Nat) ≠ 43 by decide), s3_k (show (48 : Nat) ≠ 43 by decide), s3_k (show (49 : Nat) ≠ 43 by decide), s3_k (show (50 : Nat) ≠ 43 by decide), s3_k (show (51 : Nat) ≠ 43 by decide), s3_k (show (52 : Nat) ≠ 43 by decide), s3_k (show (54 : Nat) ≠ 43 by decide), s3_k (show (56 : Nat) ≠ 43 by decide), s3_k (show (57 : Nat) ≠ 43 by decide), s3_k (show (58 : Nat) ≠ 43 by decide), s3_k (show (60 : Nat) ≠ 43 by decide), s3_k (show (61 : Nat) ≠ 43 by decide), s3_k (show (0 : Nat) ≠ 30 by decide), s3_k (show (4 : Nat) ≠ 30 by decide), s3_k (show (5 : Nat) ≠ 30 by decide), s3_k (show (6 : Nat) ≠ 30 by decide), s3_k (show (7 : Nat) ≠ 30 by decide), s3_k (show (8 : Nat) ≠ 30 by decide), s3_k (show (9 : Nat) ≠ 30 by decide), s3_k (show (10 : Nat) ≠ 30 by decide), s3_k (show (11 : Nat) ≠ 30 by decide), s3_k (show (12 : Nat) ≠ 30 by decide), s3_k (show (13 : Nat) ≠ 30 by decide), s3_k (show (14 : Nat) ≠ 30 by decide), s3_k (show (15 : Nat) ≠ 30 by decide), s3_k (show (16 : Nat) ≠ 30 by decide), s3_k (show (17 : Nat) ≠ 30 by decide), s3_k (show (18 : Nat) ≠ 30 by decide), s3_k (show (19 : Nat) ≠ 30 by decide), s3_k (show (20 : Nat) ≠ 30 by decide), s3_k (show (32 : Nat) ≠ 30 by decide), s3_k (show (33 : Nat) ≠ 30 by decide), s3_k (show (34 : Nat) ≠ 30 by decide), s3_k (show (35 : Nat) ≠ 30 by decide), s3_k (show (36 : Nat) ≠ 30 by decide), s3_k (show (37 : Nat) ≠ 30 by decide), s3_k (show (38 : Nat) ≠ 30 by decide), s3_k (show (40 : Nat) ≠ 30 by decide), s3_k (show (41 : Nat) ≠ 30 by decide), s3_k (show (42 : Nat) ≠ 30 by decide), s3_k (show (43 : Nat) ≠ 30 by decide), s3_k (show (44 : Nat) ≠ 30 by decide), s3_k (show (45 : Nat) ≠ 30 by decide), s3_k (show (46 : Nat) ≠ 30 by decide), s3_k (show (48 : Nat) ≠ 30 by decide), s3_k (show (49 : Nat) ≠ 30 by decide), s3_k (show (50 : Nat) ≠ 30 by decide), s3_k (show (51 : Nat) ≠ 30 by decide), s3_k (show (52 : Nat) ≠ 30 by decide), s3_k (show (54 : Nat) ≠ 30 by decide), s3_k (show (56 : Nat) ≠ 30 by decide), s3_k (show (57 : Nat) ≠ 30 by decide), s3_k (show (58 : Nat) ≠ 30 by decide), s3_k (show (60 : Nat) ≠ 30 by decide), s3_k (show (61 : Nat) ≠ 30 by decide), u2_at] at *
    refine ⟨a, b, c, d, e, ⟨fun q hq => ?_, fun q h1 h2 => ?_⟩, iSp_cg g (fun q hq => ?_), i', j, k, l⟩
    · obtain ⟨t0, t1, t2, t3⟩ := f1 q hq
      by_cases hqi : q = i
      · subst hqi
        rw [u2_at, upd_at, upd_at]
        exact ⟨t0, t1, t2, rfl⟩
      · rw [u2_ne hqi, upd_ne hqi]
        exact ⟨t0, t1, t2, t3⟩
    · rw [upd_ne (by omega)]
      exact f2 q h1 h2
    · by_cases hqi : q = i
      · subst hqi
        rw [u2_at, upd_ne (by decide)]
      · rw [u2_ne hqi]
end OPS2
