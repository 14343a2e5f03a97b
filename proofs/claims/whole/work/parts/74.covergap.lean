section COP
variable {E : ev} {s : st} {n : Nat}
theorem iSp_ins {nt i k p : Nat} {t f g : Nat → Nat → Int32} {m44 m45 m46 : Nat → Int32} {a b : Int32} (h : iSp nt t f g m44 m45 m46) (hnt : nt ≤ 200) (hi : i < nt) (hk : t i 6 = nI k) (hk10 : k < 10) (hnew : SpOK (k + 1) (ins (f i) p k a) (ins (g i) p k b) (fun q => upd m45 (10 * i + k) a (10 * i + q)) (fun q => upd m46 (10 * i + k) b (10 * i + q))) : iSp nt (u2 t i 6 (nI (k + 1))) (ur f i (ins (f i) p k a)) (ur g i (ins (g i) p k b)) (upd m44 i (nI (k + 1))) (upd m45 (10 * i + k) a) (upd m46 (10 * i + k) b) := by
  refine ⟨fun q hq => ?_, fun q h1 h2 => ?_⟩
  · by_cases e : q = i
    · subst e
      refine ⟨k + 1, by omega, by rw [u2_at, upd_at], upd_at, ?_⟩
      rw [ur_at, ur_at]
      exact hnew
    · obtain ⟨k', k1, k2, k3, k4⟩ := h.1 q hq
      refine ⟨k', k1, by rw [u2_ne e]; exact k2, by rw [upd_ne e]; exact k3, ?_⟩
      rw [ur_ne e, ur_ne e]
      exact sp_cg k4 (fun c hc => ⟨upd_ne (by omega), upd_ne (by omega)⟩)
  · rw [upd_ne (by omega)]
    exact h.2 q h1 h2
theorem iTi_cg {np nt : Nat} {t t' : Nat → Nat → Int32} {m40 m41 m42 m43 : Nat → Int32} (h : iTi np nt t m40 m41 m42 m43) (he : ∀ q, q < nt → ∀ c, c < 4 → t' q c = t q c) : iTi np nt t' m40 m41 m42 m43 := by
  refine ⟨fun q hq => ?_, h.2⟩
  rw [he q hq 0 (by omega), he q hq 1 (by omega), he q hq 2 (by omega), he q hq 3 (by omega)]
  exact h.1 q hq
theorem op_cover (hE : okE E) (hI : Inv E s n) (v1 v2 v3 : Int32) : OpOK E s n (f_X_cover (E.1 0 0) v1 v2 v3) (f_Mo_cover (E.1 30 0) v1 v2 v3) := by
  obtain ⟨⟨hnp, hnt, hnr, x1, m1, x3, m9, x5, m17, x9⟩, -, -, -, -, -, hSpA, -⟩ := id hI
  have hSp := hSpA.1
  have hm9 : ∀ s1 : st, s1 30 = s 30 → th s1 30 0 9 = nI E.2.1.2.1 := fun s1 h => by rw [th_m (show (9 : Nat) ≠ 0 by decide), h]; exact m9
  rcases ix_cases v1 (n := E.2.1.2.1) (by omega) with h | ⟨i, hi, rfl⟩
  · refine ⟨-1, E, s, th s, hE, rfl, rfl, ?_, ?_, Inv_thS hI⟩
    · unfold f_X_cover
      rw [rO_0 hE o1, Option.bind_some, ft_no hE x3 hnt h]; rfl
    · unfold f_Mo_cover
      rw [rT hE, Option.bind_some, rO_30 hE o1, Option.bind_some, it_eq hE (hm9 s rfl), if_pos h]; rfl
  by_cases h2 : v2 < 0 ∨ 200000 < v2
  · refine ⟨-2, E, s, th s, hE, rfl, rfl, ?_, ?_, Inv_thS hI⟩
    · unfold f_X_cover
      rw [rO_0 hE o1, Option.bind_some, ft_yes hE x3 hnt hi]
      show (f_X_isDay v2 _).bind _ = _
      rw [xday_eq, if_pos h2]; rfl
    · unfold f_Mo_cover
      rw [rT hE, Option.bind_some, rO_30 hE o1, Option.bind_some, it_eq hE (hm9 s rfl), if_neg (ix_no (by omega) hi)]
      show (f_Mo_isDay v2 _).bind _ = _
      rw [mday_eq, if_pos h2]; rfl
  by_cases h3 : v3 < 0 ∨ 200000 < v3
  · refine ⟨-2, E, s, th s, hE, rfl, rfl, ?_, ?_, Inv_thS hI⟩
    · unfold f_X_cover
      rw [rO_0 hE o1, Option.bind_some, ft_yes hE x3 hnt hi]
      show (f_X_isDay v2 _).bind _ = _
      rw [xday_eq, if_neg h2]
      show (f_X_isDay v3 _).bind _ = _
      rw [xday_eq, if_pos h3]; rfl
    · unfold f_Mo_cover
      rw [rT hE, Option.bind_some, rO_30 hE o1, Option.bind_some, it_eq hE (hm9 s rfl), if_neg (ix_no (by omega) hi)]
      show (f_Mo_isDay v2 _).bind _ = _
      rw [mday_eq, if_neg h2]
      show (f_Mo_isDay v3 _).bind _ = _
      rw [mday_eq, if_pos h3]; rfl
  by_cases h4 : v2 ≤ v3
  case neg =>
    refine ⟨-2, E, s, th s, hE, rfl, rfl, ?_, ?_, Inv_thS hI⟩
    · unfold f_X_cover
      rw [rO_0 hE o1, Option.bind_some, ft_yes hE x3 hnt hi]
      show (f_X_isDay v2 _).bind _ = _
      rw [xday_eq, if_neg h2]
      show (f_X_isDay v3 _).bind _ = _
      rw [xday_eq, if_neg h3]
      show (if v2 ≤ v3 then _ else _) = _
      rw [if_neg h4]
    · unfold f_Mo_cover
      rw [rT hE, Option.bind_some, rO_30 hE o1, Option.bind_some, it_eq hE (hm9 s rfl), if_neg (ix_no (by omega) hi)]
      show (f_Mo_isDay v2 _).bind _ = _
      rw [mday_eq, if_neg h2]
      show (f_Mo_isDay v3 _).bind _ = _
      rw [mday_eq, if_neg h3]
      show (if v2 ≤ v3 then _ else _) = _
      rw [if_neg h4]
  obtain ⟨k, k1, k2, k3, k4⟩ := hSp i hi
  have r2 : 0 ≤ v2.toInt ∧ v2.toInt ≤ 200000 := by
    rw [i_lt, i_lt, show (0 : Int32).toInt = 0 by decide, show (200000 : Int32).toInt = 200000 by decide] at h2; omega
  have r3 : 0 ≤ v3.toInt ∧ v3.toInt ≤ 200000 := by
    rw [i_lt, i_lt, show (0 : Int32).toInt = 0 by decide, show (200000 : Int32).toInt = 200000 by decide] at h3; omega
  have r23 := i_le.mp h4
  have tst : ∀ f t : Int32, 0 ≤ f.toInt → f.toInt ≤ t.toInt → t.toInt ≤ 200000 → (((!decide (t + 1 < v2) && !decide (v3 < f - 1)) = true ↔ ¬ (t.toInt + 1 < v2.toInt ∨ v3.toInt + 1 < f.toInt)) ∧ ((!decide (t + 1 < v2) && !decide (v3 + 1 < f)) = true ↔ ¬ (t.toInt + 1 < v2.toInt ∨ v3.toInt + 1 < f.toInt))) := fun f t q1' q2' q3' => by
    have e1 := p1 (x := t) (by omega) q3'
    have e2 := q1 (x := f) q1' (by omega)
    have e3 := p1 (x := v3) r3.1 r3.2
    simp only [Bool.and_eq_true, Bool.not_eq_true', decide_eq_false_iff_not, i_lt, e1, e2, e3]
    constructor <;> constructor <;> intro h <;> omega
  have hmt : f_Title_meets (E.1 17 i) v2 v3 (mu E s) = some (an (fun q => !decide (s 19 i q + 1 < v2) && !decide (v3 < s 18 i q - 1)) k 0, mu E s) := by
    unfold f_Title_meets
    exact x_meets hE hi k1 k2 k FU 0 (by unfold FU; omega) (by omega)
  have han : an (fun q => !decide (s 19 i q + 1 < v2) && !decide (v3 < s 18 i q - 1)) k 0 = an (fun q => !decide (mT s i q + 1 < v2) && !decide (v3 + 1 < mF s i q)) k 0 := by
    refine an_eq (fun q hq h => ?_) (fun q hq h => ?_)
    · obtain ⟨c, c1, c2, c3⟩ := k4.2.2.1 q hq
      have hr := k4.1 q hq
      have h9 := ((tst (s 18 i q) (s 19 i q) hr.1 hr.2.1 hr.2.2).1).mp h
      refine ⟨c, c1, ?_⟩
      show (!decide (mT s i c + 1 < v2) && !decide (v3 + 1 < mF s i c)) = true
      rw [show mT s i c = s 19 i q from c3.symm, show mF s i c = s 18 i q from c2.symm]
      exact ((tst (s 18 i q) (s 19 i q) hr.1 hr.2.1 hr.2.2).2).mpr h9
    · obtain ⟨c, c1, c2, c3⟩ := k4.2.2.2 q hq
      have hr := k4.1 c c1
      have h : (!decide (mT s i q + 1 < v2) && !decide (v3 + 1 < mF s i q)) = true := h
      rw [show mT s i q = s 19 i c from c3.symm, show mF s i q = s 18 i c from c2.symm] at h
      have h9 := ((tst (s 18 i c) (s 19 i c) hr.1 hr.2.1 hr.2.2).2).mp h
      exact ⟨c, c1, ((tst (s 18 i c) (s 19 i c) hr.1 hr.2.1 hr.2.2).1).mpr h9⟩
  have hX : f_X_cover (E.1 0 0) (nI i) v2 v3 (mu E s) = if an (fun q => !decide (s 19 i q + 1 < v2) && !decide (v3 < s 18 i q - 1)) k 0 = 0 then (if nI k < 10 then (f_Title_addSpan (E.1 17 i) v2 v3 (mu E s)).bind (fun x => (gI 6 6 x.2 (E.1 17 i)).bind fun x16 => some (x16, x.2)) else some (-4, mu E s)) else some (-3, mu E s) := by
    unfold f_X_cover
    rw [rO_0 hE o1, Option.bind_some, ft_yes hE x3 hnt hi]
    show (f_X_isDay v2 _).bind _ = _
    rw [xday_eq, if_neg h2]
    show (f_X_isDay v3 _).bind _ = _
    rw [xday_eq, if_neg h3]
    show (if v2 ≤ v3 then _ else _) = _
    rw [if_pos h4, rO_17 hE hi, Option.bind_some, hmt]
    show (if an _ k 0 = 0 then _ else _) = _
    rw [rI_17_6 hE hi, Option.bind_some, k2, rO_17 hE hi, Option.bind_some]
  have hM : ∀ s1 : st, s1 30 = s 30 → s1 44 = s 44 → s1 45 = s 45 → s1 46 = s 46 → f_Mo_cover (E.1 30 0) (nI i) v2 v3 (mu E s1) = if an (fun q => !decide (mT s i q + 1 < v2) && !decide (v3 + 1 < mF s i q)) k 0 = 1 then some (-3, mu E (th s1)) else if k = 10 then some (-4, mu E (th s1)) else some (nI (k + 1), mu E (s3 (s3 (s3 (th s1) 45 0 (10 * i + k) v2) 46 0 (10 * i + k) v3) 44 0 i (nI (k + 1)))) := by
    intro s1 q30 q44 q45 q46
    unfold f_Mo_cover
    rw [rT hE, Option.bind_some, rO_30 hE o1, Option.bind_some, it_eq hE (hm9 s1 q30), if_neg (ix_no (by omega) hi)]
    show (f_Mo_isDay v2 _).bind _ = _
    rw [mday_eq, if_neg h2]
    show (f_Mo_isDay v3 _).bind _ = _
    rw [mday_eq, if_neg h3]
    show (if v2 ≤ v3 then _ else _) = _
    have h9 := m_cover_b (s := th s1) (a := v2) (b := v3) hE (show i < 200 by omega) k1 (by rw [th_k (by decide), q44]; exact k3) k FU 0 (by unfold FU; omega) (by omega)
    unfold mT mF at h9
    rw [th_k (show (45 : Nat) ≠ 30 by decide), th_k (show (46 : Nat) ≠ 30 by decide), q45, q46] at h9
    rw [if_pos h4, m10']
    exact h9
  rcases an_spec (g := fun q => !decide (s 19 i q + 1 < v2) && !decide (v3 < s 18 i q - 1)) k 0 with ⟨c1, -⟩ | ⟨c1, cno⟩
  · refine ⟨-3, E, s, th s, hE, rfl, rfl, ?_, ?_, Inv_thS hI⟩
    · rw [hX, c1, if_neg (by decide)]
    · rw [hM s rfl rfl rfl rfl, ← han, c1, if_pos rfl]
  · by_cases ck : k = 10
    · refine ⟨-4, E, s, th s, hE, rfl, rfl, ?_, ?_, Inv_thS hI⟩
      · rw [hX, c1, if_pos rfl, ck, if_neg (by decide)]
      · rw [hM s rfl rfl rfl rfl, ← han, c1, if_neg (by decide), if_pos ck]
    · obtain ⟨p, p1', p2', p3', p4'⟩ := x_addSpan (a := v2) (b := v3) hE hi (show k < 10 by omega) k2
      refine ⟨nI (k + 1), E, s3 (sr (sr s 18 i (ins (s 18 i) p k v2)) 19 i (ins (s 19 i) p k v3)) 17 i 6 (nI (k + 1)), s3 (s3 (s3 (th (s3 (sr (sr s 18 i (ins (s 18 i) p k v2)) 19 i (ins (s 19 i) p k v3)) 17 i 6 (nI (k + 1)))) 45 0 (10 * i + k) v2) 46 0 (10 * i + k) v3) 44 0 i (nI (k + 1)), hE, rfl, rfl, ?_, ?_, ?_⟩
      · rw [hX, c1, if_pos rfl, if_pos (show nI k < (10 : Int32) from nI_lt (b := 10) (by omega) (by omega)), p4']
        show (gI 6 6 _ _).bind _ = _
        rw [rI_17_6 hE hi, Option.bind_some, s3_at, upd_at]
      · rw [hM _ (by rw [s3_k (by decide), sr_k (by decide), sr_k (by decide)]) (by rw [s3_k (by decide), sr_k (by decide), sr_k (by decide)]) (by rw [s3_k (by decide), sr_k (by decide), sr_k (by decide)]) (by rw [s3_k (by decide), sr_k (by decide), sr_k (by decide)]), ← han, c1, if_neg (by decide), if_neg ck]
      · have hnew : SpOK (k + 1) (ins (s 18 i) p k v2) (ins (s 19 i) p k v3) (fun q => upd (s 45 0) (10 * i + k) v2 (10 * i + q)) (fun q => upd (s 46 0) (10 * i + k) v3 (10 * i + q)) := by
          refine sp_ins k4 r2.1 r23 r3.2 p1' p2' p3' (fun q hq => ?_) (fun q hq => ⟨upd_ne (by omega), upd_ne (by omega)⟩) ⟨upd_at, upd_at⟩
          have hr := k4.1 q hq
          have h9 := cno q (by omega) (by omega)
          have h8 := (tst (s 18 i q) (s 19 i q) hr.1 hr.2.1 hr.2.2).1
          exact Classical.byContradiction (fun h7 => h9 (h8.mpr h7))
        have hins := iSp_ins hSpA hnt hi k2 (show k < 10 by omega) hnew
        obtain ⟨a, b, c, d, e, f, g, i', jj, kk, l⟩ := Inv_thS hI
        unfold Inv
        simp only [th, s3_u2, sr_ur, s3_k (show (0 : Nat) ≠ 17 by decide), s3_k (show (4 : Nat) ≠ 17 by decide), s3_k (show (5 : Nat) ≠ 17 by decide), s3_k (show (6 : Nat) ≠ 17 by decide), s3_k (show (7 : Nat) ≠ 17 by decide), s3_k (show (8 : Nat) ≠ 17 by decide), s3_k (show (9 : Nat) ≠ 17 by decide), s3_k (show (10 : Nat) ≠ 17 by decide), s3_k (show (11 : Nat) ≠ 17 by decide), s3_k (show (12 : Nat) ≠ 17 by decide), s3_k (show (13 : Nat) ≠ 17 by decide), s3_k (show (14 : Nat) ≠ 17 by decide), s3_k (show (15 : Nat) ≠ 17 by decide), s3_k (show (16 : Nat) ≠ 17 by decide), s3_k (show (18 : Nat) ≠ 17 by decide), s3_k (show (19 : Nat) ≠ 17 by decide), s3_k (show (20 : Nat) ≠ 17 by decide), s3_k (show (30 : Nat) ≠ 17 by decide), s3_k (show (32 : Nat) ≠ 17 by decide), s3_k (show (33 : Nat) ≠ 17 by decide), s3_k (show (34 : Nat) ≠ 17 by decide), s3_k (show (35 : Nat) ≠ 17 by decide), s3_k (show (36 : Nat) ≠ 17 by decide), s3_k (show (37 : Nat) ≠ 17 by decide), s3_k (show (38 : Nat) ≠ 17 by decide), s3_k (show (40 : Nat) ≠ 17 by decide), s3_k (show (41 : Nat) ≠ 17 by decide), s3_k (show (42 : Nat) ≠ 17 by decide), s3_k (show (43 : Nat) ≠ 17 by decide), s3_k (show (44 : Nat) ≠ 17 by decide), s3_k (show (45 : Nat) ≠ 17 by decide), s3_k (show (46 : Nat) ≠ 17 by decide), s3_k (show (48 : Nat) ≠ 17 by decide), s3_k (show (49 : Nat) ≠ 17 by decide), s3_k (show (50 : Nat) ≠ 17 by decide), s3_k (show (51 : Nat) ≠ 17 by decide), s3_k (show (52 : Nat) ≠ 17 by decide), s3_k (show (54 : Nat) ≠ 17 by decide), s3_k (show (56 : Nat) ≠ 17 by decide), s3_k (show (57 : Nat) ≠ 17 by decide), s3_k (show (58 : Nat) ≠ 17 by decide), s3_k (show (60 : Nat) ≠ 17 by decide), s3_k (show (61 : Nat) ≠ 17 by decide), s3_k (show (0 : Nat) ≠ 44 by decide), s3_k (show (4 : Nat) ≠ 44 by decide), s3_k (show (5 : Nat) ≠ 44 by decide), s3_k (show (6 : Nat) ≠ 44 by decide), s3_k (show (7 : Nat) ≠ 44 by decide), s3_k (show (8 : Nat) ≠ 44 by decide), s3_k (show (9 : Nat) ≠ 44 by decide), s3_k (show (10 : Nat) ≠ 44 by decide), s3_k (show (11 : Nat) ≠ 44 by decide), s3_k (show (12 : Nat) ≠ 44 by decide), s3_k (show (13 : Nat) ≠ 44 by decide), s3_k (show (14 : Nat) ≠ 44 by decide), s3_k (show (15 : Nat) ≠ 44 by decide), s3_k (show (16 : Nat) ≠ 44 by decide), s3_k (show (17 : Nat) ≠ 44 by decide), s3_k (show (18 : Nat) ≠ 44 by decide), s3_k (show (19 : Nat) ≠ 44 by decide), s3_k (show (20 : Nat) ≠ 44 by decide), s3_k (show (30 : Nat) ≠ 44 by decide), s3_k (show (32 : Nat) ≠ 44 by decide), s3_k (show (33 : Nat) ≠ 44 by decide), s3_k (show (34 : Nat) ≠ 44 by decide), s3_k (show (35 : Nat) ≠ 44 by decide), s3_k (show (36 : Nat) ≠ 44 by decide), s3_k (show (37 : Nat) ≠ 44 by decide), s3_k (show (38 : Nat) ≠ 44 by decide), s3_k (show (40 : Nat) ≠ 44 by decide), s3_k (show (41 : Nat) ≠ 44 by decide), s3_k (show (42 : Nat) ≠ 44 by decide), s3_k (show (43 : Nat) ≠ 44 by decide), s3_k (show (45 : Nat) ≠ 44 by decide), s3_k (show (46 : Nat) ≠ 44 by decide), s3_k (show (48 : Nat) ≠ 44 by decide), s3_k (show (49 : Nat) ≠ 44 by decide), s3_k (show (50 : Nat) ≠ 44 by decide), s3_k (show (51 : Nat) ≠ 44 by decide), s3_k (show (52 : Nat) ≠ 44 by decide), s3_k (show (54 : Nat) ≠ 44 by decide), s3_k (show (56 : Nat) ≠ 44 by decide), s3_k (show (57 : Nat) ≠ 44 by decide), s3_k (show (58 : Nat) ≠ 44 by decide), s3_k (show (60 : Nat) ≠ 44 by decide), s3_k (show (61 : Nat) ≠ 44 by decide), s3_k (show (0 : Nat) ≠ 45 by decide), s3_k (show (4 : Nat) ≠ 45 by decide), s3_k (show (5 : Nat) ≠ 45 by decide), s3_k (show (6 : Nat) ≠ 45 by decide), s3_k (show (7 : Nat) ≠ 45 by decide), s3_k (show (8 : Nat) ≠ 45 by decide), s3_k (show (9 : Nat) ≠ 45 by decide), s3_k (show (10 : Nat) ≠ 45 by decide), s3_k (show (11 : Nat) ≠ 45 by decide), s3_k (show (12 : Nat) ≠ 45 by decide), s3_k (show (13 : Nat) ≠ 45 by decide), s3_k (show (14 : Nat) ≠ 45 by decide), s3_k (show (15 : Nat) ≠ 45 by decide), s3_k (show (16 : Nat) ≠ 45 by decide), s3_k (show (17 : Nat) ≠ 45 by decide), s3_k (show (18 : Nat) ≠ 45 by decide), s3_k (show (19 : Nat) ≠ 45 by decide), s3_k (show (20 : Nat) ≠ 45 by decide), s3_k (show (30 : Nat) ≠ 45 by decide), s3_k (show (32 : Nat) ≠ 45 by decide), s3_k (show (33 : Nat) ≠ 45 by decide), s3_k (show (34 : Nat) ≠ 45 by decide), s3_k (show (35 : Nat) ≠ 45 by decide), s3_k (show (36 : Nat) ≠ 45 by decide), s3_k (show (37 : Nat) ≠ 45 by decide), s3_k (show (38 : Nat) ≠ 45 by decide), s3_k (show (40 : Nat) ≠ 45 by decide), s3_k (show (41 : Nat) ≠ 45 by decide), s3_k (show (42 : Nat) ≠ 45 by decide), s3_k (show (43 : Nat) ≠ 45 by decide), s3_k (show (44 : Nat) ≠ 45 by decide), s3_k (show (46 : Nat) ≠ 45 by decide), s3_k (show (48 : Nat) ≠ 45 by decide), s3_k (show (49 : Nat) ≠ 45 by decide), s3_k (show (50 : Nat) ≠ 45 by decide), s3_k (show (51 : Nat) ≠ 45 by decide), s3_k (show (52 : Nat) ≠ 45 by decide), s3_k (show (54 : Nat) ≠ 45 by decide), s3_k (show (56 : Nat) ≠ 45 by decide), s3_k (show (57 : Nat) ≠ 45 by decide), s3_k (show (58 : Nat) ≠ 45 by decide), s3_k (show (60 : Nat) ≠ 45 by decide), s3_k (show (61 : Nat) ≠ 45 by decide), s3_k (show (0 : Nat) ≠ 46 by decide), s3_k (show (4 : Nat) ≠ 46 by decide), s3_k (show (5 : Nat) ≠ 46 by decide), s3_k (show (6 : Nat) ≠ 46 by decide), s3_k (show (7 : Nat) ≠ 46 by decide), s3_k (show (8 : Nat) ≠ 46 by decide), s3_k (show (9 : Nat) ≠ 46 by decide), s3_k (show (10 : Nat) ≠ 46 by decide), s3_k (show (11 : Nat) ≠ 46 by decide), s3_k (show (12 : Nat) ≠ 46 by decide), s3_k (show (13 : Nat) ≠ 46 by decide), s3_k (show (14 : Nat) ≠ 46 by decide), s3_k (show (15 : Nat) ≠ 46 by decide), s3_k (show (16 : Nat) ≠ 46 by decide), s3_k (show (17 : Nat) ≠ 46 by decide), s3_k (show (18 : Nat) ≠ 46 by decide), s3_k (show (19 : Nat) ≠ 46 by decide), s3_k (show (20 : Nat) ≠ 46 by decide), s3_k (show (30 : Nat) ≠ 46 by decide), s3_k (show (32 : Nat) ≠ 46 by decide), s3_k (show (33 : Nat) ≠ 46 by decide), s3_k (show (34 : Nat) ≠ 46 by decide), s3_k (show (35 : Nat) ≠ 46 by decide), s3_k (show (36 : Nat) ≠ 46 by decide), s3_k (show (37 : Nat) ≠ 46 by decide), s3_k (show (38 : Nat) ≠ 46 by decide), s3_k (show (40 : Nat) ≠ 46 by decide), s3_k (show (41 : Nat) ≠ 46 by decide), s3_k (show (42 : Nat) ≠ 46 by decide), s3_k (show (43 : Nat) ≠ 46 by decide), s3_k (show (44 : Nat) ≠ 46 by decide), s3_k (show (45 : Nat) ≠ 46 by decide), s3_k (show (48 : Nat) ≠ 46 by decide), s3_k (show (49 : Nat) ≠ 46 by decide), s3_k (show (50 : Nat) ≠ 46 by decide), s3_k (show (51 : Nat) ≠ 46 by decide), s3_k (show (52 : Nat) ≠ 46 by decide), s3_k (show (54 : Nat) ≠ 46 by decide), s3_k (show (56 : Nat) ≠ 46 by decide), s3_k (show (57 : Nat) ≠ 46 by decide), s3_k (show (58 : Nat) ≠ 46 by decide), s3_k (show (60 : Nat) ≠ 46 by decide), s3_k (show (61 : Nat) ≠ 46 by decide), s3_k (show (0 : Nat) ≠ 30 by decide), s3_k (show (4 : Nat) ≠ 30 by decide), s3_k (show (5 : Nat) ≠ 30 by decide), s3_k (show (6 : Nat) ≠ 30 by decide), s3_k (show (7 : Nat) ≠ 30 by decide), s3_k (show (8 : Nat) ≠ 30 by decide), s3_k (show (9 : Nat) ≠ 30 by decide), s3_k (show (10 : Nat) ≠ 30 by decide), s3_k (show (11 : Nat) ≠ 30 by decide), s3_k (show (12 : Nat) ≠ 30 by decide), s3_k (show (13 : Nat) ≠ 30 by decide), s3_k (show (14 : Nat) ≠ 30 by decide), s3_k (show (15 : Nat) ≠ 30 by decide), s3_k (show (16 : Nat) ≠ 30 by decide), s3_k (show (17 : Nat) ≠ 30 by decide), s3_k (show (18 : Nat) ≠ 30 by decide), s3_k (show (19 : Nat) ≠ 30 by decide), s3_k (show (20 : Nat) ≠ 30 by decide), s3_k (show (32 : Nat) ≠ 30 by decide), s3_k (show (33 : Nat) ≠ 30 by decide), s3_k (show (34 : Nat) ≠ 30 by decide), s3_k (show (35 : Nat) ≠ 30 by decide), s3_k (show (36 : Nat) ≠ 30 by decide), s3_k (show (37 : Nat) ≠ 30 by decide), s3_k (show (38 : Nat) ≠ 30 by decide), s3_k (show (40 : Nat) ≠ 30 by decide), s3_k (show (41 : Nat) ≠ 30 by decide), s3_k (show (42 : Nat) ≠ 30 by decide), s3_k (show (43 : Nat) ≠ 30 by decide), s3_k (show (44 : Nat) ≠ 30 by decide), s3_k (show (45 : Nat) ≠ 30 by decide), s3_k (show (46 : Nat) ≠ 30 by decide), s3_k (show (48 : Nat) ≠ 30 by decide), s3_k (show (49 : Nat) ≠ 30 by decide), s3_k (show (50 : Nat) ≠ 30 by decide), s3_k (show (51 : Nat) ≠ 30 by decide), s3_k (show (52 : Nat) ≠ 30 by decide), s3_k (show (54 : Nat) ≠ 30 by decide), s3_k (show (56 : Nat) ≠ 30 by decide), s3_k (show (57 : Nat) ≠ 30 by decide), s3_k (show (58 : Nat) ≠ 30 by decide), s3_k (show (60 : Nat) ≠ 30 by decide), s3_k (show (61 : Nat) ≠ 30 by decide), sr_k (show (0 : Nat) ≠ 18 by decide), sr_k (show (0 : Nat) ≠ 19 by decide), sr_k (show (17 : Nat) ≠ 18 by decide), sr_k (show (17 : Nat) ≠ 19 by decide), sr_k (show (18 : Nat) ≠ 19 by decide), sr_k (show (19 : Nat) ≠ 18 by decide), sr_k (show (30 : Nat) ≠ 18 by decide), sr_k (show (30 : Nat) ≠ 19 by decide), sr_k (show (12 : Nat) ≠ 18 by decide), sr_k (show (12 : Nat) ≠ 19 by decide), sr_k (show (13 : Nat) ≠ 18 by decide), sr_k (show (13 : Nat) ≠ 19 by decide), sr_k (show (14 : Nat) ≠ 18 by decide), sr_k (show (14 : Nat) ≠ 19 by decide), sr_k (show (15 : Nat) ≠ 18 by decide), sr_k (show (15 : Nat) ≠ 19 by decide), sr_k (show (16 : Nat) ≠ 18 by decide), sr_k (show (16 : Nat) ≠ 19 by decide), sr_k (show (20 : Nat) ≠ 18 by decide), sr_k (show (20 : Nat) ≠ 19 by decide), sr_k (show (32 : Nat) ≠ 18 by decide), sr_k (show (32 : Nat) ≠ 19 by decide), sr_k (show (33 : Nat) ≠ 18 by decide), sr_k (show (33 : Nat) ≠ 19 by decide), sr_k (show (34 : Nat) ≠ 18 by decide), sr_k (show (34 : Nat) ≠ 19 by decide), sr_k (show (35 : Nat) ≠ 18 by decide), sr_k (show (35 : Nat) ≠ 19 by decide), sr_k (show (36 : Nat) ≠ 18 by decide), sr_k (show (36 : Nat) ≠ 19 by decide), sr_k (show (37 : Nat) ≠ 18 by decide), sr_k (show (37 : Nat) ≠ 19 by decide), sr_k (show (38 : Nat) ≠ 18 by decide), sr_k (show (38 : Nat) ≠ 19 by decide), sr_k (show (40 : Nat) ≠ 18 by decide), sr_k (show (40 : Nat) ≠ 19 by decide), sr_k (show (41 : Nat) ≠ 18 by decide), sr_k (show (41 : Nat) ≠ 19 by decide), sr_k (show (42 : Nat) ≠ 18 by decide), sr_k (show (42 : Nat) ≠ 19 by decide), sr_k (show (43 : Nat) ≠ 18 by decide), sr_k (show (43 : Nat) ≠ 19 by decide), sr_k (show (44 : Nat) ≠ 18 by decide), sr_k (show (44 : Nat) ≠ 19 by decide), sr_k (show (45 : Nat) ≠ 18 by decide), sr_k (show (45 : Nat) ≠ 19 by decide), sr_k (show (46 : Nat) ≠ 18 by decide), sr_k (show (46 : Nat) ≠ 19 by decide), sr_k (show (48 : Nat) ≠ 18 by decide), sr_k (show (48 : Nat) ≠ 19 by decide), sr_k (show (49 : Nat) ≠ 18 by decide), sr_k (show (49 : Nat) ≠ 19 by decide), sr_k (show (50 : Nat) ≠ 18 by decide), sr_k (show (50 : Nat) ≠ 19 by decide), sr_k (show (51 : Nat) ≠ 18 by decide), sr_k (show (51 : Nat) ≠ 19 by decide), sr_k (show (52 : Nat) ≠ 18 by decide), sr_k (show (52 : Nat) ≠ 19 by decide), sr_k (show (54 : Nat) ≠ 18 by decide), sr_k (show (54 : Nat) ≠ 19 by decide), sr_k (show (4 : Nat) ≠ 18 by decide), sr_k (show (4 : Nat) ≠ 19 by decide), sr_k (show (5 : Nat) ≠ 18 by decide), sr_k (show (5 : Nat) ≠ 19 by decide), sr_k (show (6 : Nat) ≠ 18 by decide), sr_k (show (6 : Nat) ≠ 19 by decide), sr_k (show (7 : Nat) ≠ 18 by decide), sr_k (show (7 : Nat) ≠ 19 by decide), sr_k (show (8 : Nat) ≠ 18 by decide), sr_k (show (8 : Nat) ≠ 19 by decide), sr_k (show (9 : Nat) ≠ 18 by decide), sr_k (show (9 : Nat) ≠ 19 by decide), sr_k (show (10 : Nat) ≠ 18 by decide), sr_k (show (10 : Nat) ≠ 19 by decide), sr_k (show (11 : Nat) ≠ 18 by decide), sr_k (show (11 : Nat) ≠ 19 by decide), sr_k (show (56 : Nat) ≠ 18 by decide), sr_k (show (56 : Nat) ≠ 19 by decide), sr_k (show (57 : Nat) ≠ 18 by decide), sr_k (show (57 : Nat) ≠ 19 by decide), sr_k (show (58 : Nat) ≠ 18 by decide), sr_k (show (58 : Nat) ≠ 19 by decide), sr_k (show (60 : Nat) ≠ 18 by decide), sr_k (show (60 : Nat) ≠ 19 by decide), sr_k (show (61 : Nat) ≠ 18 by decide), sr_k (show (61 : Nat) ≠ 19 by decide), u2_at] at a b c d e f i' jj kk l ⊢
        refine ⟨a, b, c, d, e, iTi_cg f (fun q hq cc hcc => ?_), hins, i', jj, kk, l⟩
        by_cases e9 : q = i
        · subst e9
          rw [u2_at, upd_ne (by omega)]
        · rw [u2_ne e9]
end COP
