section ACO
variable {E : ev} {s : st} {n : Nat}
theorem x_ended (hE : okE E) {h : Nat} (hh : h < E.2.1.1) (on : Int32) : f_Pack_hasEndedBy (E.1 12 h) on (mu E s) = some (if s 12 h 5 = -1 ∨ on < s 12 h 5 then 0 else 1, mu E s) := by
  unfold f_Pack_hasEndedBy
  rw [rI_12_5 hE hh, Option.bind_some]
  by_cases c1 : s 12 h 5 = -1
  · rw [if_pos c1, if_pos (Or.inl c1)]; rfl
  · rw [if_neg c1, Option.bind_some]
    by_cases c2 : on < s 12 h 5
    · rw [if_pos c2, if_pos (Or.inr c2)]; rfl
    · rw [if_neg c2, if_neg (fun h => h.elim c1 c2)]; rfl
theorem x_keeps (hE : okE E) {h : Nat} (hh : h < E.2.1.1) (day : Int32) : f_Pack_keepsDay (E.1 12 h) day (mu E s) = some (if s 12 h 1 = 0 ∨ s 12 h 5 ≤ day then 0 else 1, mu E s) := by
  unfold f_Pack_keepsDay
  rw [rI_12_1 hE hh, Option.bind_some]
  by_cases c1 : s 12 h 1 = 0
  · rw [if_pos c1, if_pos (Or.inl c1)]; rfl
  · rw [if_neg c1, rI_12_5 hE hh, Option.bind_some]
    by_cases c2 : s 12 h 5 ≤ day
    · rw [if_pos c2, if_pos (Or.inr c2)]; rfl
    · rw [if_neg c2, if_neg (fun h => h.elim c1 c2)]; rfl
theorem op_access (hE : okE E) (hI : Inv E s n) (hn : n < 512) (v1 v2 v3 v4 : Int32) : OpOK E s n (f_X_access (E.1 0 0) v1 v2 v3 v4) (f_Mo_access (E.1 30 0) v1 v2 v3 v4) := by
  obtain ⟨⟨hnp, hnt, hnr, x1, m1, x3, m9, x5, m17, x9⟩, hp, -, -, -, ⟨hT, -⟩, -⟩ := id hI
  have hm9 : ∀ s1 : st, s1 30 = s 30 → th s1 30 0 9 = nI E.2.1.2.1 := fun s1 h => by rw [th_m (show (9 : Nat) ≠ 0 by decide), h]; exact m9
  rcases ix_cases v2 (n := E.2.1.2.1) (by omega) with h | ⟨i, hi, rfl⟩
  · refine ⟨-1, E, s, th s, hE, rfl, rfl, ?_, ?_, Inv_thS hI⟩
    · unfold f_X_access
      rw [rO_0 hE o1, Option.bind_some, ft_no hE x3 hnt h]; rfl
    · unfold f_Mo_access
      rw [rT hE, Option.bind_some, rO_30 hE o1, Option.bind_some, it_eq hE (hm9 s rfl), if_pos h]; rfl
  rcases rd_cases v1 with h2 | ⟨r0, hr0, rfl⟩
  · refine ⟨-1, E, s, th s, hE, rfl, rfl, ?_, ?_, Inv_thS hI⟩
    · unfold f_X_access
      rw [rO_0 hE o1, Option.bind_some, ft_yes hE x3 hnt hi]
      show (f_X_isReader v1 _).bind _ = _
      rw [xrd_eq, if_pos h2]; rfl
    · unfold f_Mo_access
      rw [rT hE, Option.bind_some, rO_30 hE o1, Option.bind_some, it_eq hE (hm9 s rfl), if_neg (ix_no (by omega) hi)]
      show (f_Mo_in1 v1 0 99 _).bind _ = _
      rw [in1_eq, if_pos h2]; rfl
  by_cases h3 : v3 < 0 ∨ 200000 < v3
  · refine ⟨-2, E, s, th s, hE, rfl, rfl, ?_, ?_, Inv_thS hI⟩
    · unfold f_X_access
      rw [rO_0 hE o1, Option.bind_some, ft_yes hE x3 hnt hi]
      show (f_X_isReader (nI r0) _).bind _ = _
      rw [xrd_eq, if_neg (rd_no hr0)]
      show (f_X_isDay v3 _).bind _ = _
      rw [xday_eq, if_pos h3]; rfl
    · unfold f_Mo_access
      rw [rT hE, Option.bind_some, rO_30 hE o1, Option.bind_some, it_eq hE (hm9 s rfl), if_neg (ix_no (by omega) hi)]
      show (f_Mo_in1 (nI r0) 0 99 _).bind _ = _
      rw [in1_eq, if_neg (rd_no hr0)]
      show (f_Mo_isDay v3 _).bind _ = _
      rw [mday_eq, if_pos h3]; rfl
  by_cases h4 : v4 < 0 ∨ 200000 < v4
  · refine ⟨-2, E, s, th s, hE, rfl, rfl, ?_, ?_, Inv_thS hI⟩
    · unfold f_X_access
      rw [rO_0 hE o1, Option.bind_some, ft_yes hE x3 hnt hi]
      show (f_X_isReader (nI r0) _).bind _ = _
      rw [xrd_eq, if_neg (rd_no hr0)]
      show (f_X_isDay v3 _).bind _ = _
      rw [xday_eq, if_neg h3]
      show (f_X_isDay v4 _).bind _ = _
      rw [xday_eq, if_pos h4]; rfl
    · unfold f_Mo_access
      rw [rT hE, Option.bind_some, rO_30 hE o1, Option.bind_some, it_eq hE (hm9 s rfl), if_neg (ix_no (by omega) hi)]
      show (f_Mo_in1 (nI r0) 0 99 _).bind _ = _
      rw [in1_eq, if_neg (rd_no hr0)]
      show (f_Mo_isDay v3 _).bind _ = _
      rw [mday_eq, if_neg h3]
      show (f_Mo_isDay v4 _).bind _ = _
      rw [mday_eq, if_pos h4]; rfl
  obtain ⟨⟨h, hh, e0, e1⟩, e2, e3, e4⟩ := hT i hi
  obtain ⟨p0, p1, p2, p4, pc, p5, p6⟩ := hp h hh
  -- the class
  have hX : f_X_access (E.1 0 0) (nI r0) (nI i) v3 v4 (mu E s) = if s 17 i 2 = 0 then some (1, mu E s) else if s 12 h 5 = -1 ∨ v4 < s 12 h 5 then accX E (nI r0) (nI i) v3 v4 i (mu E s) else if s 12 h 1 = 0 ∨ s 12 h 5 ≤ v3 then some (2, mu E s) else accX E (nI r0) (nI i) v3 v4 i (mu E s) := by
    unfold f_X_access accX
    rw [rO_0 hE o1, Option.bind_some, ft_yes hE x3 hnt hi]
    show (f_X_isReader (nI r0) _).bind _ = _
    rw [xrd_eq, if_neg (rd_no hr0)]
    show (f_X_isDay v3 _).bind _ = _
    rw [xday_eq, if_neg h3]
    show (f_X_isDay v4 _).bind _ = _
    rw [xday_eq, if_neg h4]
    show (kO 0 _ _).bind _ = _
    rw [rO_0 hE o1, Option.bind_some]
    unfold f_X_judge
    rw [rI_17_2 hE hi, Option.bind_some]
    by_cases ca : s 17 i 2 = 0
    · rw [if_pos ca, if_pos ca]; rfl
    · rw [if_neg ca, if_neg ca, rR_17_0 hE hi, Option.bind_some, e0, nI_clamp (by omega), rO_12 hE hh, Option.bind_some, x_ended hE hh]
      by_cases cb : s 12 h 5 = -1 ∨ v4 < s 12 h 5
      · rw [if_pos cb, if_pos cb]; rfl
      · rw [if_neg cb, if_neg cb]
        show ((gR 6 0 _ _).bind _).bind _ = _
        rw [rR_17_0 hE hi, Option.bind_some, e0, nI_clamp (by omega), rO_12 hE hh, Option.bind_some, x_keeps hE hh]
        by_cases cd : s 12 h 1 = 0 ∨ s 12 h 5 ≤ v3
        · rw [if_pos cd, if_pos cd]; rfl
        · rw [if_neg cd, if_neg cd]; rfl
  have hM : ∀ s1 : st, s1 30 = s 30 → s1 40 = s 40 → s1 42 = s 42 → s1 34 = s 34 → s1 32 = s 32 → f_Mo_access (E.1 30 0) (nI r0) (nI i) v3 v4 (mu E s1) = if s 42 0 i = 0 then (if s 34 0 h < 0 then f_Mo_access_b107 (E.1 30 0) (nI r0) (nI i) v3 v4 (nI h) (mu E (th s1)) else if v4 < s 34 0 h then f_Mo_access_b107 (E.1 30 0) (nI r0) (nI i) v3 v4 (nI h) (mu E (th s1)) else if s 32 0 h = 0 then some (2, mu E (th s1)) else if v3 < s 34 0 h then f_Mo_access_b107 (E.1 30 0) (nI r0) (nI i) v3 v4 (nI h) (mu E (th s1)) else some (2, mu E (th s1))) else some (1, mu E (th s1)) := by
    intro s1 q30 q40 q42 q34 q32
    unfold f_Mo_access
    rw [rT hE, Option.bind_some, rO_30 hE o1, Option.bind_some, it_eq hE (hm9 s1 q30), if_neg (ix_no (by omega) hi)]
    show (f_Mo_in1 (nI r0) 0 99 _).bind _ = _
    rw [in1_eq, if_neg (rd_no hr0)]
    show (f_Mo_isDay v3 _).bind _ = _
    rw [mday_eq, if_neg h3]
    show (f_Mo_isDay v4 _).bind _ = _
    rw [mday_eq, if_neg h4]
    show (gR 1 10 _ _).bind _ = _
    have f40 : th s1 40 0 i = nI h := by rw [th_k (by decide), q40]; exact e1
    have f42 : th s1 42 0 i = s 42 0 i := by rw [th_k (by decide), q42]
    have f34 : th s1 34 0 h = s 34 0 h := by rw [th_k (by decide), q34]
    have f32 : th s1 32 0 h = s 32 0 h := by rw [th_k (by decide), q32]
    simp only [rR_30_10 hE o1, Option.bind_some, rA_40 hE o1 (show i < 200 by omega), f40, rR_30_12 hE o1, rA_42 hE o1 (show i < 200 by omega), f42, rR_30_4 hE o1, rA_34 hE o1 (show h < 20 by omega), f34, rR_30_2 hE o1, rA_32 hE o1 (show h < 20 by omega), f32]
  have hne : (s 34 0 h < 0) ↔ s 12 h 5 = -1 := by
    rw [p5]
    rcases p6 with q | q
    · rw [q]; exact ⟨fun _ => rfl, fun _ => by decide⟩
    · exact ⟨fun h => absurd h (Int32.not_lt.mpr q), fun h => by rw [h]; decide⟩
  rcases e3 with ⟨g1, g2⟩ | ⟨g1, g2⟩
  · -- active
    have hgo : (s 12 h 5 = -1 ∨ v4 < s 12 h 5) ∨ ¬ (s 12 h 1 = 0 ∨ s 12 h 5 ≤ v3) → OpOK E s n (f_X_access (E.1 0 0) (nI r0) (nI i) v3 v4) (f_Mo_access (E.1 30 0) (nI r0) (nI i) v3 v4) := by
      intro hc
      obtain ⟨r, s1, a1, a2, aM⟩ := accC (day := v3) (on := v4) hE (IR_of hI) hn hi hr0 hh e0
      obtain ⟨t1, b1, b2, b3⟩ := aM (th s1) (IR_th (IR_t (IR_of hI) (fun a ha => a2 a (by omega))))
      refine ⟨r, E, s1, t1, hE, rfl, rfl, ?_, ?_, Inv_IR b3 (fun a ha => by rw [b2 a ha, th_k (by omega)])⟩
      · rw [hX, if_neg (by rw [g1]; decide)]
        by_cases cb : s 12 h 5 = -1 ∨ v4 < s 12 h 5
        · rw [if_pos cb]; exact a1
        · rw [if_neg cb, if_neg (hc.resolve_left cb)]; exact a1
      · rw [hM s1 (a2 30 (by omega)) (a2 40 (by omega)) (a2 42 (by omega)) (a2 34 (by omega)) (a2 32 (by omega)), if_pos g2]
        by_cases c1 : s 34 0 h < 0
        · rw [if_pos c1]; exact b1
        · rw [if_neg c1]
          by_cases c2 : v4 < s 34 0 h
          · rw [if_pos c2]; exact b1
          · rw [if_neg c2]
            have hk : ¬ (s 12 h 1 = 0 ∨ s 12 h 5 ≤ v3) := by
              refine hc.resolve_left (fun h9 => ?_)
              rcases h9 with h9 | h9
              · exact c1 (hne.mpr h9)
              · rw [p5] at h9; exact c2 h9
            rw [if_neg (by rw [← p1]; exact fun h9 => hk (Or.inl h9)), if_pos (by rw [← p5]; exact Int32.not_le.mp (fun h9 => hk (Or.inr h9)))]
            exact b1
    by_cases cb : s 12 h 5 = -1 ∨ v4 < s 12 h 5
    · exact hgo (Or.inl cb)
    · by_cases cd : s 12 h 1 = 0 ∨ s 12 h 5 ≤ v3
      · refine ⟨2, E, s, th s, hE, rfl, rfl, ?_, ?_, Inv_thS hI⟩
        · rw [hX, if_neg (by rw [g1]; decide), if_neg cb, if_pos cd]
        · rw [hM s rfl rfl rfl rfl rfl, if_pos g2, if_neg (fun h9 => cb (Or.inl (hne.mp h9))), if_neg (by rw [← p5]; exact fun h9 => cb (Or.inr h9))]
          by_cases c3 : s 32 0 h = 0
          · rw [if_pos c3]
          · rw [if_neg c3, if_neg]
            rw [← p5]
            rcases cd with cd | cd
            · exact absurd (p1.symm.trans cd) c3
            · exact Int32.not_lt.mpr cd
      · exact hgo (Or.inr cd)
  · refine ⟨1, E, s, th s, hE, rfl, rfl, ?_, ?_, Inv_thS hI⟩
    · rw [hX, if_pos g1]
    · rw [hM s rfl rfl rfl rfl rfl, if_neg (by rw [g2]; decide)]
end ACO
