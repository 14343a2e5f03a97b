theorem bind_eta {α β : Type} (x : Option (α × β)) : (x.bind fun (a, b) => some (a, b)) = x := by
  cases x with
  | none => rfl
  | some p => rfl
section OUTS
variable {E : ev} {s t : st} {n i : Nat}
theorem mo_out_b (hE : okE E) (hi : i < 20) {m : Nat} (hn : m < 100) : ∀ (k fu j : Nat) (s : st), s 35 0 i = nI m → k < fu → j + k = m → f_Mo_out_b80 fu (E.1 30 0) (nI i) (nI (100 * i + j)) (mu E s) = f_Mo_admit (E.1 30 0) (nI i) (mu E (sr s 36 0 (shl (s 36 0) (100 * i + j) (100 * i + m)))) := by
  intro k
  induction k with
  | zero =>
    intro fu j s hs h1 h2
    obtain ⟨f, rfl⟩ : ∃ f, fu = f + 1 := ⟨fu - 1, by omega⟩
    unfold f_Mo_out_b80
    rw [rR_30_5 hE o1, Option.bind_some, rA_35 hE o1 hi, Option.bind_some, hs, m100, if_pos (nI_le (by omega) (by omega)), shl_0 (by omega), sr_self, rO_30 hE o1, Option.bind_some]
    exact bind_eta _
  | succ k ih =>
    intro fu j s hs h1 h2
    obtain ⟨f, rfl⟩ : ∃ f, fu = f + 1 := ⟨fu - 1, by omega⟩
    unfold f_Mo_out_b80
    rw [rR_30_5 hE o1, Option.bind_some, rA_35 hE o1 hi, Option.bind_some, hs, m100, if_neg (nI_ge (by omega) (by omega)), rR_30_6 hE o1, Option.bind_some, Option.bind_some, nI_1, rA_36 hE o1 (by omega), Option.bind_some, rS_36 hE o1 (by omega), Option.bind_some, show 100 * i + j + 1 = 100 * i + (j + 1) by omega, ih f (j + 1) _ (by rw [s3_k (by decide)]; exact hs) (by omega) (by omega), s3_at, s3_sr, sr_sr, show 100 * i + (j + 1) = 100 * i + j + 1 by omega, shl_s (by omega)]
theorem op_out (hE : okE E) (hI : Inv E s n) (v1 v2 : Int32) : OpOK E s n (f_X_out (E.1 0 0) v1 v2) (f_Mo_out (E.1 30 0) v1 v2) := by
  obtain ⟨⟨hnp, hnt, hnr, x1, m1, x3, m9, x5, m17, x9⟩, -⟩ := id hI
  have hm1 : ∀ s1 : st, s1 30 = s 30 → th s1 30 0 1 = nI E.2.1.1 := fun s1 h => by rw [th_m (show (1 : Nat) ≠ 0 by decide), h]; exact m1
  rcases ix_cases v1 (n := E.2.1.1) (by omega) with h | ⟨i, hi, rfl⟩
  · refine ⟨-1, E, s, th s, hE, rfl, rfl, ?_, ?_, Inv_thS hI⟩
    · unfold f_X_out
      rw [rO_0 hE o1, Option.bind_some, fp_no hE x1 hnp h]; rfl
    · unfold f_Mo_out
      rw [rT hE, Option.bind_some, rO_30 hE o1, Option.bind_some, ip_eq hE (hm1 s rfl), if_pos h]; rfl
  rcases rd_cases v2 with h2 | ⟨r0, hr0, rfl⟩
  · refine ⟨-1, E, s, th s, hE, rfl, rfl, ?_, ?_, Inv_thS hI⟩
    · unfold f_X_out
      rw [rO_0 hE o1, Option.bind_some, fp_yes hE x1 hnp hi]
      show (f_X_isReader v2 _).bind _ = _
      rw [xrd_eq, if_pos h2]; rfl
    · unfold f_Mo_out
      rw [rT hE, Option.bind_some, rO_30 hE o1, Option.bind_some, ip_eq hE (hm1 s rfl), if_neg (ix_no (by omega) hi)]
      show (f_Mo_in1 v2 0 99 _).bind _ = _
      rw [in1_eq, if_pos h2]; rfl
  have hR := RL_of hI
  obtain ⟨hp, hl, hw, hd⟩ := id hR
  obtain ⟨k, k1, k2, k3, k4, k5⟩ := hl.1 i hi
  obtain ⟨w, w1, w2, w3, w4, w5⟩ := hw.1 i hi
  have fe1 : fnd (fun q => s 36 0 (100 * i + q)) (nI r0) k 0 = fnd (s 15 i) (nI r0) k 0 := fnd_congr k 0 (fun q _ hq => ((k4 q (by omega)).1).symm)
  have fe2 : fnd (fun q => s 38 0 (100 * i + q)) (nI r0) w 0 = fnd (s 16 i) (nI r0) w 0 := fnd_congr w 0 (fun q _ hq => ((w4 q (by omega)).1).symm)
  have hX : f_X_out (E.1 0 0) (nI i) (nI r0) (mu E s) = (f_Line_drop (E.1 13 i) (nI r0) (mu E s)).bind fun (x7, M7) => if x7 = 0 then (gR 4 3 M7 (E.1 12 i)).bind fun x10 => (kO 2 M7 x10).bind fun _ => (f_Line_drop x10 (nI r0) M7).bind fun (x11, M11) => if x11 = 0 then some ((-3 : Int32), M11) else some (-10, M11) else (kO 4 M7 (E.1 12 i)).bind fun _ => (f_Pack_admitNext (E.1 12 i) M7).bind fun (x14, M14) => some (x14, M14) := by
    unfold f_X_out
    rw [rO_0 hE o1, Option.bind_some, fp_yes hE x1 hnp hi]
    show (f_X_isReader (nI r0) _).bind _ = _
    rw [xrd_eq, if_neg (rd_no hr0)]
    show (gR 4 2 _ _).bind _ = _
    rw [rR_12_2 hE hi, Option.bind_some, rO_13 hE hi, Option.bind_some]
  have hM : ∀ s1 : st, s1 30 = s 30 → s1 35 = s 35 → s1 36 = s 36 → s1 37 = s 37 → s1 38 = s 38 → f_Mo_out (E.1 30 0) (nI i) (nI r0) (mu E s1) = if fnd (s 16 i) (nI r0) w 0 < 0 then (if 0 ≤ fnd (s 15 i) (nI r0) k 0 then (sI (nI k - 1) (mu E (th s1)) (E.1 35 0) (nI i)).bind (fun M24 => f_Mo_out_b80 FU (E.1 30 0) (nI i) ((100 * nI i) + fnd (s 15 i) (nI r0) k 0) M24) else some (-3, mu E (th s1))) else (f_Mo_dropWaiter (E.1 30 0) (nI i) (fnd (s 16 i) (nI r0) w 0) (mu E (th s1))).bind (fun x => some (-10, x.2)) := by
    intro s1 q30 q35 q36 q37 q38
    unfold f_Mo_out
    rw [rT hE, Option.bind_some, rO_30 hE o1, Option.bind_some, ip_eq hE (hm1 s1 q30), if_neg (ix_no (by omega) hi)]
    show (f_Mo_in1 (nI r0) 0 99 _).bind _ = _
    rw [in1_eq, if_neg (rd_no hr0)]
    show (kO 1 _ _).bind _ = _
    rw [rO_30 hE o1, Option.bind_some, mo_placeWaiting hE (by omega) w1 (by rw [th_k (by decide), q37]; exact w3), th_k (show (38 : Nat) ≠ 30 by decide), q38, fe2]
    show (if fnd (s 16 i) (nI r0) w 0 < 0 then _ else _) = _
    by_cases c2 : fnd (s 16 i) (nI r0) w 0 < 0
    · rw [if_pos c2, if_pos c2, rO_30 hE o1, Option.bind_some, mo_placeIn hE (by omega) k1 (by rw [th_k (by decide), q35]; exact k3), th_k (show (36 : Nat) ≠ 30 by decide), q36, fe1]
      show (if 0 ≤ fnd (s 15 i) (nI r0) k 0 then _ else _) = _
      by_cases c1 : 0 ≤ fnd (s 15 i) (nI r0) k 0
      · rw [if_pos c1, if_pos c1, rR_30_5 hE o1, Option.bind_some, rA_35 hE o1 (by omega), Option.bind_some, th_k (show (35 : Nat) ≠ 30 by decide), q35, k3]
      · rw [if_neg c1, if_neg c1]
    · rw [if_neg c2, if_neg c2, rO_30 hE o1, Option.bind_some]
  rcases fnd_spec (g := s 15 i) (r := nI r0) k 0 with ⟨f1, f2⟩ | ⟨p, f1, f2, f3, f4, f5⟩
  · have c1 : fnd (s 15 i) (nI r0) k 0 < 0 := by rw [f1]; decide
    rcases fnd_spec (g := s 16 i) (r := nI r0) w 0 with ⟨g1, g2⟩ | ⟨p, g1, g2, g3, g4, g5⟩
    · have c2 : fnd (s 16 i) (nI r0) w 0 < 0 := by rw [g1]; decide
      refine ⟨-3, E, s, th s, hE, rfl, rfl, ?_, ?_, Inv_thS hI⟩
      · rw [hX, ln_drop_no (L13 hE) hi k1 k2 c1]
        show (gR 4 3 _ _).bind _ = _
        rw [rR_12_3 hE hi, Option.bind_some, rO_14 hE hi, Option.bind_some, ln_drop_no (L14 hE) hi w1 w2 c2]; rfl
      · rw [hM s rfl rfl rfl rfl rfl, if_pos c2, if_neg (Int32.not_le.mpr c1)]
    · obtain ⟨m, rfl⟩ : ∃ m, w = m + 1 := ⟨w - 1, by omega⟩
      have c2 : ¬ fnd (s 16 i) (nI r0) (m + 1) 0 < 0 := by rw [g4]; exact nI_nn (by omega)
      refine ⟨-10, E, sr (s3 s 14 i 1 (nI m)) 16 i (shl (s 16 i) p m), sr (s3 (th (sr (s3 s 14 i 1 (nI m)) 16 i (shl (s 16 i) p m))) 37 0 i (nI m)) 38 0 (shl (s 38 0) (100 * i + p) (100 * i + m)), hE, rfl, rfl, ?_, ?_, ?_⟩
      · rw [hX, ln_drop_no (L13 hE) hi k1 k2 c1]
        show (gR 4 3 _ _).bind _ = _
        rw [rR_12_3 hE hi, Option.bind_some, rO_14 hE hi, Option.bind_some, ln_drop_yes (L14 hE) hi (by omega) w2 (by omega) g4]; rfl
      · rw [hM _ (by rw [sr_k (by decide), s3_k (by decide)]) (by rw [sr_k (by decide), s3_k (by decide)]) (by rw [sr_k (by decide), s3_k (by decide)]) (by rw [sr_k (by decide), s3_k (by decide)]) (by rw [sr_k (by decide), s3_k (by decide)]), if_neg c2, g4, mo_dropW (m := m) hE (by omega) (by omega) (by rw [th_k (by decide), sr_k (by decide), s3_k (by decide)]; exact w3) (by omega), th_k (show (38 : Nat) ≠ 30 by decide), sr_k (show (38 : Nat) ≠ 16 by decide), s3_k (show (38 : Nat) ≠ 14 by decide)]; rfl
      · refine Inv_RL hI (Only_tr (Only_s3 (by decide)) (Only_sr (by decide))) (Only_tr (Only_s3 (by decide)) (Only_sr (by decide))) ?_
        have h9 := RL_del14 (RL_t (t' := th (sr (s3 s 14 i 1 (nI m)) 16 i (shl (s 16 i) p m))) hR (fun a ha hb => by rw [th_k (by omega), sr_k (by omega), s3_k (by omega)])) hnp hi w2 (by omega) (show p ≤ m by omega)
        rw [th_k (show (38 : Nat) ≠ 30 by decide), sr_k (show (38 : Nat) ≠ 16 by decide), s3_k (show (38 : Nat) ≠ 14 by decide)] at h9
        exact h9
  · obtain ⟨m, rfl⟩ : ∃ m, k = m + 1 := ⟨k - 1, by omega⟩
    have c1 : 0 ≤ fnd (s 15 i) (nI r0) (m + 1) 0 := by rw [f4]; exact nI_0le (by omega)
    have c2 : fnd (s 16 i) (nI r0) w 0 < 0 := (fnd_lt w1).mpr (fun q hq e => hd i hi (m + 1) w k2 w2 k1 w1 p q (by omega) hq (f3.trans e.symm))
    have hRA := RL_del13 (t := th s) (RL_t hR (fun a ha hb => by rw [th_k (by omega)])) hnp hi k2 (by omega) (show p ≤ m by omega)
    obtain ⟨r, s1, a1, a2, a3, aM⟩ := admit_sim hE hnp hi hRA
    have q : ∀ a, a ∉ [13, 14, 15, 16] → s1 a = s a := fun a ha => by
      rw [a2 a ha, sr_k (by intro h; simp at ha; omega), s3_k (by intro h; simp at ha; omega)]
    obtain ⟨t1, b1, b2, b3⟩ := aM (sr (s3 (th s1) 35 0 i (nI m)) 36 0 (shl (s 36 0) (100 * i + p) (100 * i + m))) (RL_t hRA (fun a ha hb => by
      by_cases h36 : a = 36
      · subst h36
        rw [sr_ur, sr_ur, s3_k (by decide), s3_k (by decide), th_k (by decide), th_k (by decide), q 36 (by decide)]
      · rw [sr_k h36, sr_k h36]
        by_cases h35 : a = 35
        · subst h35
          rw [s3_u2, s3_u2, th_k (by decide), th_k (by decide), q 35 (by decide)]
        · rw [s3_k h35, s3_k h35, th_k (by omega), th_k (by omega), q a (by intro h; simp at h; omega)]))
    refine ⟨r, E, s1, t1, hE, rfl, rfl, ?_, ?_, ?_⟩
    · rw [hX, ln_drop_yes (L13 hE) hi (by omega) k2 (by omega) f4]
      show (kO 4 _ _).bind _ = _
      rw [rO_12 hE hi, Option.bind_some, a1]; rfl
    · rw [hM s1 (q 30 (by decide)) (q 35 (by decide)) (q 36 (by decide)) (q 37 (by decide)) (q 38 (by decide)), if_pos c2, if_pos c1, nI_pred, rS_35 hE o1 (by omega), Option.bind_some, f4, m100, mo_out_b (m := m) hE (by omega) (by omega) (m - p) FU p _ (by rw [s3_at, upd_at]) (by unfold FU; omega) (by omega), s3_k (show (36 : Nat) ≠ 35 by decide), th_k (show (36 : Nat) ≠ 30 by decide), q 36 (by decide)]
      exact b1
    · exact Inv_RL hI (Only_tr (Only_tr (Only_s3 (by decide)) (Only_sr (by decide))) (Only_wk a2 (by decide))) (Only_tr (Only_tr (Only_s3 (by decide)) (Only_sr (by decide))) (Only_wk b3 (by decide))) b2
theorem half {k : Nat} (h : k < 2 ^ 31) : nI k / 2 = nI (k / 2) := pk_div (d := 2) h (by omega) (by omega)
theorem odd {k : Nat} (h : k < 2 ^ 31) : nI k - nI k / 2 * 2 = nI (k % 2) := pk_rem (d := 2) h (by omega) (by omega)
theorem op_who (hE : okE E) (hI : Inv E s n) (v1 v2 : Int32) : OpOK E s n (f_X_who (E.1 0 0) v1 v2) (f_Mo_who (E.1 30 0) v1 v2) := by
  obtain ⟨⟨hnp, hnt, hnr, x1, m1, x3, m9, x5, m17, x9⟩, -⟩ := id hI
  have hm1 : th s 30 0 1 = nI E.2.1.1 := by rw [th_m (show (1 : Nat) ≠ 0 by decide)]; exact m1
  rcases ix_cases v1 (n := E.2.1.1) (by omega) with h | ⟨i, hi, rfl⟩
  · refine ⟨-1, E, s, th s, hE, rfl, rfl, ?_, ?_, Inv_thS hI⟩
    · unfold f_X_who
      rw [rO_0 hE o1, Option.bind_some, fp_no hE x1 hnp h]; rfl
    · unfold f_Mo_who
      rw [rT hE, Option.bind_some, rO_30 hE o1, Option.bind_some, ip_eq hE hm1, if_pos h]; rfl
  by_cases h0 : v2 < 0
  · refine ⟨-1, E, s, th s, hE, rfl, rfl, ?_, ?_, Inv_thS hI⟩
    · unfold f_X_who
      rw [rO_0 hE o1, Option.bind_some, fp_yes hE x1 hnp hi]
      show (if 0 ≤ v2 then _ else _) = _
      rw [if_neg (Int32.not_le.mpr h0)]
    · unfold f_Mo_who
      rw [rT hE, Option.bind_some, rO_30 hE o1, Option.bind_some, ip_eq hE hm1, if_neg (ix_no (by omega) hi)]
      show (if 0 ≤ v2 then _ else _) = _
      rw [if_neg (Int32.not_le.mpr h0)]
  obtain ⟨k, hk, rfl⟩ := nI_of h0
  obtain ⟨hp, hl, hw, hd⟩ := RL_of hI
  obtain ⟨a, a1, a2, a3, a4, a5⟩ := hl.1 i hi
  obtain ⟨w, w1, w2, w3, w4, w5⟩ := hw.1 i hi
  have h02 : (2 : Int32) ≤ nI k ↔ 2 ≤ k := nI_leI (a := 2) (by omega) hk
  have hX : f_X_who (E.1 0 0) (nI i) (nI k) (mu E s) = some (if k % 2 = 0 then (if 2 ≤ k then (if k / 2 - 1 < a then s 15 i (k / 2 - 1) else -1) else nI a) else (if 2 ≤ k then (if k / 2 - 1 < w then s 16 i (k / 2 - 1) else -1) else nI w), mu E s) := by
    unfold f_X_who
    rw [rO_0 hE o1, Option.bind_some, fp_yes hE x1 hnp hi]
    show (if 0 ≤ nI k then _ else _) = _
    rw [if_pos (Int32.not_lt.mp h0), odd hk]
    by_cases c : k % 2 = 0
    · rw [c, if_pos (show nI 0 = 0 from rfl), if_pos rfl, rR_12_2 hE hi, Option.bind_some]
      unfold f_X_who_b33
      by_cases c2 : 2 ≤ k
      · rw [if_pos (h02.mpr c2), if_pos c2, rO_13 hE hi, Option.bind_some, half hk, show (nI (k / 2) - 1) = nI (k / 2 - 1) from pk_sub (b := 1) (by omega), ln_at (L13 hE) hi a1 a2 (by omega)]; rfl
      · rw [if_neg (fun h => c2 (h02.mp h)), if_neg c2, rI_13_1 hE hi, Option.bind_some, a2]
    · rw [if_neg c, if_neg (by rw [show k % 2 = 1 by omega]; decide), rR_12_3 hE hi, Option.bind_some]
      unfold f_X_who_b33
      by_cases c2 : 2 ≤ k
      · rw [if_pos (h02.mpr c2), if_pos c2, rO_14 hE hi, Option.bind_some, half hk, show (nI (k / 2) - 1) = nI (k / 2 - 1) from pk_sub (b := 1) (by omega), ln_at (L14 hE) hi w1 w2 (by omega)]; rfl
      · rw [if_neg (fun h => c2 (h02.mp h)), if_neg c2, rI_14_1 hE hi, Option.bind_some, w2]
  refine ⟨_, E, s, th s, hE, rfl, rfl, hX, ?_, Inv_thS hI⟩
  unfold f_Mo_who
  rw [rT hE, Option.bind_some, rO_30 hE o1, Option.bind_some, ip_eq hE hm1, if_neg (ix_no (by omega) hi)]
  show (if 0 ≤ nI k then _ else _) = _
  rw [if_pos (Int32.not_lt.mp h0)]
  have ea : th s 35 0 i = nI a := by rw [th_k (by decide)]; exact a3
  have ew : th s 37 0 i = nI w := by rw [th_k (by decide)]; exact w3
  by_cases c2 : 2 ≤ k
  · have hh : (nI k - 2) / 2 = nI (k / 2 - 1) := by
      rw [show nI k - 2 = nI (k - 2) from pk_sub (b := 2) c2, half (by omega), show (k - 2) / 2 = k / 2 - 1 by omega]
    rw [if_pos (h02.mpr c2), odd hk, hh]
    by_cases c : k % 2 = 0
    · rw [c, if_pos (show nI 0 = 0 from rfl), if_pos rfl, if_pos c2, rR_30_5 hE o1, Option.bind_some, rA_35 hE o1 (by omega), Option.bind_some, ea]
      by_cases c3 : k / 2 - 1 < a
      · rw [if_neg (nI_ge c3 (by omega)), if_pos c3, rR_30_6 hE o1, Option.bind_some, m100, rA_36 hE o1 (by omega), Option.bind_some, th_k (show (36 : Nat) ≠ 30 by decide), (a4 _ c3).1]
      · rw [if_pos (nI_le (by omega) (by omega)), if_neg c3]
    · rw [if_neg c, if_neg (by rw [show k % 2 = 1 by omega]; decide), if_pos c2, rR_30_7 hE o1, Option.bind_some, rA_37 hE o1 (by omega), Option.bind_some, ew]
      by_cases c3 : k / 2 - 1 < w
      · rw [if_neg (nI_ge c3 (by omega)), if_pos c3, rR_30_8 hE o1, Option.bind_some, m100, rA_38 hE o1 (by omega), Option.bind_some, th_k (show (38 : Nat) ≠ 30 by decide), (w4 _ c3).1]
      · rw [if_pos (nI_le (by omega) (by omega)), if_neg c3]
  · rw [if_neg (fun h => c2 (h02.mp h))]
    by_cases c : k = 0
    · subst c
      rw [if_pos (show nI 0 = 0 from rfl), if_pos (by decide), if_neg c2, rR_30_5 hE o1, Option.bind_some, rA_35 hE o1 (by omega), Option.bind_some, ea]
    · have c1 : k = 1 := by omega
      subst c1
      rw [if_neg (by decide), if_neg (by decide), if_neg c2, rR_30_7 hE o1, Option.bind_some, rA_37 hE o1 (by omega), Option.bind_some, ew]
end OUTS
