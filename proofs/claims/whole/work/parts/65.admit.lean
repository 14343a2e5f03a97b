section ADM
variable {E : ev} {s t : st} {i n w : Nat}
theorem x_hasPlace (hE : okE E) (hi : i < E.2.1.1) : f_Pack_hasPlace (E.1 12 i) (mu E s) = some (if s 12 i 4 ≤ s 13 i 1 then 0 else 1, mu E s) := by
  unfold f_Pack_hasPlace
  rw [rR_12_2 hE hi, Option.bind_some, rI_13_1 hE hi, Option.bind_some, rI_12_4 hE hi, Option.bind_some]
  split <;> rfl
theorem x_ad_no (hE : okE E) (hi : i < E.2.1.1) (h : s 12 i 4 ≤ s 13 i 1 ∨ s 14 i 1 = 0) : f_Pack_admitNext (E.1 12 i) (mu E s) = some (-10, mu E s) := by
  unfold f_Pack_admitNext
  rw [rO_12 hE hi, Option.bind_some, x_hasPlace hE hi]
  by_cases h1 : s 12 i 4 ≤ s 13 i 1
  · rw [if_pos h1]; rfl
  · rw [if_neg h1]
    show (gR 4 3 _ _).bind _ = _
    rw [rR_12_3 hE hi, Option.bind_some, rI_14_1 hE hi, Option.bind_some]
    rcases h with h | h
    · exact absurd h h1
    · rw [if_pos h]
theorem x_ad_yes (hE : okE E) (hi : i < E.2.1.1) (h1 : ¬ s 12 i 4 ≤ s 13 i 1) (hw : s 14 i 1 = nI (w + 1)) (hw1 : w < 100) (hs : s 13 i 1 = nI n) (hn : n < 100) : f_Pack_admitNext (E.1 12 i) (mu E s) = some (s 16 i 0, mu E (s3 (s3 (sr (s3 s 14 i 1 (nI w)) 16 i (shl (s 16 i) 0 w)) 15 i n (s 16 i 0)) 13 i 1 (nI (n + 1)))) := by
  unfold f_Pack_admitNext
  rw [rO_12 hE hi, Option.bind_some, x_hasPlace hE hi, if_neg h1]
  show (gR 4 3 _ _).bind _ = _
  have hz : ¬ nI (w + 1) = 0 := nI_ne0 (by omega) (by omega)
  have hf : fnd (s 16 i) (s 16 i 0) (w + 1) 0 = nI 0 := by unfold fnd; rw [if_pos rfl]
  rw [rR_12_3 hE hi, Option.bind_some, rI_14_1 hE hi, Option.bind_some, hw, if_neg hz, Option.bind_some, rR_14_0 hE hi, Option.bind_some, show (0 : Int32) = nI 0 from rfl, rA_16 hE hi (show 0 < 100 by omega), Option.bind_some, Option.bind_some, rO_14 hE hi, Option.bind_some, ln_drop_yes (L14 hE) hi hw1 hw (Nat.zero_le w) hf]
  show (gR 4 2 _ _).bind _ = _
  rw [rR_12_2 hE hi, Option.bind_some, rO_13 hE hi, Option.bind_some, ln_append (L13 hE) hi hn (by rw [sr_k (by decide), s3_k (by decide)]; exact hs)]; rfl
theorem m_ad_no (hE : okE E) (hi : i < 20) (h : t 37 0 i = 0 ∨ ¬ t 35 0 i < t 33 0 i) : f_Mo_admit (E.1 30 0) (nI i) (mu E t) = some (-10, mu E t) := by
  unfold f_Mo_admit
  rw [rR_30_7 hE o1, Option.bind_some, rA_37 hE o1 hi, Option.bind_some]
  by_cases h1 : t 37 0 i = 0
  · rw [if_pos h1]
  · rw [if_neg h1, rR_30_5 hE o1, Option.bind_some, rA_35 hE o1 hi, Option.bind_some, rR_30_3 hE o1, Option.bind_some, rA_33 hE o1 hi, Option.bind_some]
    rcases h with h | h
    · exact absurd h h1
    · rw [if_neg h]
theorem m_ad_yes (hE : okE E) (hi : i < 20) (h1 : t 35 0 i < t 33 0 i) (hw : t 37 0 i = nI (w + 1)) (hw1 : w < 100) (hs : t 35 0 i = nI n) (hn : n < 100) : f_Mo_admit (E.1 30 0) (nI i) (mu E t) = some (t 38 0 (100 * i), mu E (s3 (s3 (sr (s3 t 37 0 i (nI w)) 38 0 (shl (t 38 0) (100 * i + 0) (100 * i + w))) 36 0 (100 * i + n) (t 38 0 (100 * i))) 35 0 i (nI (n + 1)))) := by
  unfold f_Mo_admit
  have hz : ¬ nI (w + 1) = 0 := nI_ne0 (by omega) (by omega)
  rw [rR_30_7 hE o1, Option.bind_some, rA_37 hE o1 hi, Option.bind_some, hw, if_neg hz, rR_30_5 hE o1, Option.bind_some, rA_35 hE o1 hi, Option.bind_some, rR_30_3 hE o1, Option.bind_some, rA_33 hE o1 hi, Option.bind_some, if_pos h1, rR_30_8 hE o1, Option.bind_some, m100', rA_38 hE o1 (by omega), Option.bind_some, rO_30 hE o1, Option.bind_some, show f_Mo_dropWaiter (E.1 30 0) (nI i) 0 (mu E t) = f_Mo_dropWaiter (E.1 30 0) (nI i) (nI 0) (mu E t) from rfl, mo_dropW hE hi hw1 hw (Nat.zero_le w)]
  show (kO 1 _ _).bind _ = _
  rw [rO_30 hE o1, Option.bind_some, mo_enter hE hi hn (by rw [sr_k (by decide), s3_k (by decide)]; exact hs)]; rfl
theorem admit_sim (hE : okE E) (hnp : E.2.1.1 ≤ 20) (hi : i < E.2.1.1) (h0 : RL E s t) : ∃ (r : Int32) (s' : st), f_Pack_admitNext (E.1 12 i) (mu E s) = some (r, mu E s') ∧ Only [13, 14, 15, 16] s s' ∧ (r = -10 ∨ ∃ r0 w, r0 < 100 ∧ r = nI r0 ∧ w < 100 ∧ s 14 i 1 = nI (w + 1) ∧ s' 14 i 1 = nI w) ∧ ∀ t, RL E s t → ∃ t', f_Mo_admit (E.1 30 0) (nI i) (mu E t) = some (r, mu E t') ∧ RL E s' t' ∧ Only [35, 36, 37, 38] t t' := by
  obtain ⟨hp, hl, hw, hd⟩ := id h0
  obtain ⟨p0, p1, p2, p4, ⟨cc, hcc, pc⟩, p5, p6⟩ := hp i hi
  obtain ⟨n, n1, n2, n3, n4, n5⟩ := hl.1 i hi
  obtain ⟨w, w1, w2, w3, w4, w5⟩ := hw.1 i hi
  by_cases hpl : s 12 i 4 ≤ s 13 i 1
  · refine ⟨-10, s, x_ad_no hE hi (Or.inl hpl), Only_rf, Or.inl rfl, fun t h => ⟨t, m_ad_no hE (by omega) (Or.inr ?_), h, Only_rf⟩⟩
    obtain ⟨hp, hl, hw, hd⟩ := id h
    obtain ⟨p0, p1, p2, p4, -, p5, p6⟩ := hp i hi
    obtain ⟨n, n1, n2, n3, n4, n5⟩ := hl.1 i hi
    rw [n3, ← n2, ← p4]
    exact Int32.not_lt.mpr hpl
  · by_cases hw0 : w = 0
    · subst hw0
      refine ⟨-10, s, x_ad_no hE hi (Or.inr w2), Only_rf, Or.inl rfl, fun t h => ⟨t, m_ad_no hE (by omega) (Or.inl ?_), h, Only_rf⟩⟩
      obtain ⟨w', q1, q2, q3, -⟩ := h.2.2.1.1 i hi
      rw [q3, ← q2, w2]; rfl
    · obtain ⟨v, rfl⟩ : ∃ v, w = v + 1 := ⟨w - 1, by omega⟩
      have hlt : n < cc := by
        rw [p4, pc, n2] at hpl
        have h9 := Int32.not_le.mp hpl
        exact (nI_ltI (by omega) (by omega)).mp h9
      obtain ⟨-, r0, hr0, e1⟩ := w4 0 (by omega)
      have hne : ∀ j, j < n → s 15 i j ≠ nI r0 := fun j hj => by
        rw [← e1]
        exact hd i hi n (v + 1) n2 w2 n1 w1 j 0 hj (by omega)
      refine ⟨s 16 i 0, _, x_ad_yes hE hi hpl w2 (by omega) n2 (by omega), ?_, Or.inr ⟨r0, v, hr0, e1, by omega, w2, ?_⟩, fun t h => ?_⟩
      · exact Only_tr (Only_tr (Only_tr (Only_s3 (by decide)) (Only_sr (by decide))) (Only_s3 (by decide))) (Only_s3 (by decide))
      · rw [s3_k (by decide), s3_k (by decide), sr_k (by decide), s3_at, upd_at]
      · obtain ⟨hp, hl, hw, hd⟩ := id h
        obtain ⟨-, -, -, p4', -, -, -⟩ := hp i hi
        obtain ⟨n', -, n2', n3', -, -⟩ := hl.1 i hi
        obtain ⟨w', w1', w2', w3', w4', -⟩ := hw.1 i hi
        have n3 : t 35 0 i = nI n := by rw [n3', ← n2', n2]
        have w3 : t 37 0 i = nI (v + 1) := by rw [w3', ← w2', w2]
        have hwv : w' = v + 1 := nI_inj (by omega) (by omega) (w2'.symm.trans w2)
        obtain ⟨e0, -⟩ := w4' 0 (by omega)
        have e0 : s 16 i 0 = t 38 0 (100 * i) := e0
        refine ⟨_, by rw [e0]; exact m_ad_yes hE (by omega) (by rw [n3, ← n2, ← p4']; exact Int32.not_le.mp hpl) w3 (by omega) n3 (by omega), ?_, ?_⟩
        · rw [← e0, e1]
          have k1 := iLn_app (r0 := r0) hl hnp hi n2 (by omega) hr0 hne
          have k2 := iLn_del (p := 0) hw hnp hi w2 (by omega) (Nat.zero_le v)
          have k3 := iDj_del (p := 0) (iDj_swap hd) w2 (by omega) (Nat.zero_le v)
          have k4 : iDj E.2.1.1 (u2 (s 13) i 1 (nI (n + 1))) (u2 (s 15) i n (nI r0)) (u2 (s 14) i 1 (nI v)) (ur (s 16) i (shl (s 16 i) 0 v)) := by
            refine iDj_app (iDj_swap k3) n2 (by omega) (fun n' h1 h2 j' hj' => ?_)
            rw [u2_at, upd_at] at h1
            have hv : n' = v := nI_inj (by omega) (by omega) h1.symm
            rw [ur_at]
            unfold shl
            rw [if_pos ⟨by omega, by omega⟩, ← e1]
            intro e
            have := w5 (j' + 1) 0 (by omega) (by omega) e
            omega
          unfold RL
          simp only [s3_k (show (12 : Nat) ≠ 13 by decide), s3_k (show (12 : Nat) ≠ 15 by decide), sr_k (show (12 : Nat) ≠ 16 by decide), s3_k (show (12 : Nat) ≠ 14 by decide), s3_u2, s3_k (show (13 : Nat) ≠ 15 by decide), sr_k (show (13 : Nat) ≠ 16 by decide), s3_k (show (13 : Nat) ≠ 14 by decide), s3_k (show (15 : Nat) ≠ 13 by decide), sr_k (show (15 : Nat) ≠ 16 by decide), s3_k (show (15 : Nat) ≠ 14 by decide), s3_k (show (14 : Nat) ≠ 13 by decide), s3_k (show (14 : Nat) ≠ 15 by decide), sr_k (show (14 : Nat) ≠ 16 by decide), s3_k (show (16 : Nat) ≠ 13 by decide), s3_k (show (16 : Nat) ≠ 15 by decide), sr_ur, s3_k (show (16 : Nat) ≠ 14 by decide), s3_k (show (32 : Nat) ≠ 35 by decide), s3_k (show (32 : Nat) ≠ 36 by decide), sr_k (show (32 : Nat) ≠ 38 by decide), s3_k (show (32 : Nat) ≠ 37 by decide), s3_k (show (33 : Nat) ≠ 35 by decide), s3_k (show (33 : Nat) ≠ 36 by decide), sr_k (show (33 : Nat) ≠ 38 by decide), s3_k (show (33 : Nat) ≠ 37 by decide), s3_k (show (34 : Nat) ≠ 35 by decide), s3_k (show (34 : Nat) ≠ 36 by decide), sr_k (show (34 : Nat) ≠ 38 by decide), s3_k (show (34 : Nat) ≠ 37 by decide), s3_k (show (35 : Nat) ≠ 36 by decide), sr_k (show (35 : Nat) ≠ 38 by decide), s3_k (show (35 : Nat) ≠ 37 by decide), s3_k (show (36 : Nat) ≠ 35 by decide), sr_k (show (36 : Nat) ≠ 38 by decide), s3_k (show (36 : Nat) ≠ 37 by decide), s3_k (show (37 : Nat) ≠ 35 by decide), s3_k (show (37 : Nat) ≠ 36 by decide), sr_k (show (37 : Nat) ≠ 38 by decide), s3_k (show (38 : Nat) ≠ 35 by decide), s3_k (show (38 : Nat) ≠ 36 by decide), s3_k (show (38 : Nat) ≠ 37 by decide), u2_at, ur_at]
          exact ⟨hp, k1, k2, k4⟩
        · exact Only_tr (Only_tr (Only_tr (Only_s3 (by decide)) (Only_sr (by decide))) (Only_s3 (by decide))) (Only_s3 (by decide))
theorem nI_n10 {r0 : Nat} (h : r0 < 100) : ¬ nI r0 = -10 := by
  rw [i_eq, nI_toInt (by omega), show (-10 : Int32).toInt = -10 by decide]; omega
theorem room_sim (hE : okE E) (hnp : E.2.1.1 ≤ 20) (hi : i < E.2.1.1) : ∀ (w fX c : Nat) (s t : st), RL E s t → s 14 i 1 = nI w → w ≤ 100 → c + w ≤ 100 → w < fX → ∃ (k : Int32) (s' : st), f_X_room_b33 fX (some (E.1 12 i)) (nI c) (mu E s) = some (k, mu E s') ∧ Only [13, 14, 15, 16] s s' ∧ ∀ (fM : Nat) (t : st), w < fM → RL E s t → ∃ t', f_Mo_room_b37 fM (E.1 30 0) (nI i) (nI c) (mu E t) = some (k, mu E t') ∧ RL E s' t' ∧ Only [35, 36, 37, 38] t t' := by
  intro w
  induction w with
  | zero =>
    intro fX c s t h hw h1 h2 h3
    obtain ⟨f, rfl⟩ : ∃ f, fX = f + 1 := ⟨fX - 1, by omega⟩
    refine ⟨nI c, s, ?_, Only_rf, fun fM t hf ht => ⟨t, ?_, ht, Only_rf⟩⟩
    · unfold f_X_room_b33
      by_cases hc : (100 : Int32) ≤ nI c
      · rw [if_pos hc]
      · rw [if_neg hc, Option.bind_some, rO_12 hE hi, Option.bind_some, x_ad_no hE hi (Or.inr hw)]; rfl
    · obtain ⟨g, rfl⟩ : ∃ g, fM = g + 1 := ⟨fM - 1, by omega⟩
      obtain ⟨w', w1, w2, w3, -⟩ := ht.2.2.1.1 i hi
      unfold f_Mo_room_b37
      rw [rO_30 hE o1, Option.bind_some, m_ad_no hE (by omega) (Or.inl (by rw [w3, ← w2, hw]; rfl))]; rfl
  | succ w ih =>
    intro fX c s t h hw h1 h2 h3
    obtain ⟨f, rfl⟩ : ∃ f, fX = f + 1 := ⟨fX - 1, by omega⟩
    obtain ⟨r, s1, a1, a4, a6, aM⟩ := admit_sim hE hnp hi h
    have hc : ¬ (100 : Int32) ≤ nI c := by
      rw [show (100 : Int32) = nI 100 from rfl]
      exact nI_ge (by omega) (by omega)
    rcases a6 with rfl | ⟨r0, v, b1, b2, b3, b4, b5⟩
    · refine ⟨nI c, s1, ?_, a4, fun fM t hf ht => ?_⟩
      · unfold f_X_room_b33
        rw [if_neg hc, Option.bind_some, rO_12 hE hi, Option.bind_some, a1]; rfl
      · obtain ⟨g, rfl⟩ : ∃ g, fM = g + 1 := ⟨fM - 1, by omega⟩
        obtain ⟨t1, d1, d2, d3⟩ := aM t ht
        refine ⟨t1, ?_, d2, d3⟩
        unfold f_Mo_room_b37
        rw [rO_30 hE o1, Option.bind_some, d1]; rfl
    · have hv : v = w := by
        have := nI_inj (by omega) (by omega) (b4.symm.trans hw)
        omega
      subst hv
      obtain ⟨t1, -, d2, -⟩ := aM t h
      obtain ⟨k, s2, c1, c4, cM⟩ := ih f (c + 1) s1 t1 d2 b5 (by omega) (by omega) (by omega)
      refine ⟨k, s2, ?_, Only_tr a4 c4, fun fM t hf ht => ?_⟩
      · unfold f_X_room_b33
        rw [if_neg hc, Option.bind_some, rO_12 hE hi, Option.bind_some, a1]
        show (if r = -10 then _ else _) = _
        rw [b2, if_neg (nI_n10 b1), nI_1, c1]
      · obtain ⟨g, rfl⟩ : ∃ g, fM = g + 1 := ⟨fM - 1, by omega⟩
        obtain ⟨t1, e1, e2, e3⟩ := aM t ht
        obtain ⟨t2, g1, g2, g3⟩ := cM g t1 (by omega) e2
        refine ⟨t2, ?_, g2, Only_tr e3 g3⟩
        unfold f_Mo_room_b37
        rw [rO_30 hE o1, Option.bind_some, e1]
        show (if r < 0 then _ else _) = _
        rw [b2, if_neg (nI_nn (by omega)), nI_1, g1]
end ADM
