section NOTE
variable {E : ev} {s t : st}
def NoR (s t : st) : Prop := iNo (s 9 0) (t 30 0) (s 10 0) (s 11 0) (t 60 0) (t 61 0)
theorem note_sim (hE : okE E) (h0 : NoR s t) (a b : Int32) : ∃ s', f_Notices_append (E.1 9 0) a b (mu E s) = some ((), mu E s') ∧ Only [9, 10, 11] s s' ∧ ∀ t, NoR s t → ∃ t', f_Mo_tell (E.1 30 0) a b (mu E t) = some ((), mu E t') ∧ NoR s' t' ∧ Only [30, 60, 61] t t' ∧ ∀ j, j ≠ 29 → t' 30 0 j = t 30 0 j := by
  obtain ⟨k, k1, k2, k3, k4⟩ := id h0
  by_cases hk : k = 100
  · refine ⟨s, ?_, Only_rf, fun t ht => ⟨t, ?_, ht, Only_rf, fun _ _ => rfl⟩⟩
    · unfold f_Notices_append
      rw [rI_9_2 hE o1, Option.bind_some, k2, hk, if_pos (by decide)]
    · obtain ⟨q, q1, q2, q3, q4⟩ := id ht
      unfold f_Mo_tell
      rw [rI_30_29 hE o1, Option.bind_some, q3, ← q2, k2, hk, if_pos (show nI 100 = 100 from rfl)]
  · refine ⟨s3 (s3 (s3 s 10 0 k a) 11 0 k b) 9 0 2 (nI (k + 1)), ?_, Only_tr (Only_tr (Only_s3 (by decide)) (Only_s3 (by decide))) (Only_s3 (by decide)), fun t ht => ⟨s3 (s3 (s3 t 60 0 k a) 61 0 k b) 30 0 29 (nI (k + 1)), ?_, ?_, Only_tr (Only_tr (Only_s3 (by decide)) (Only_s3 (by decide))) (Only_s3 (by decide)), fun j hj => ?_⟩⟩
    · unfold f_Notices_append
      rw [rI_9_2 hE o1, Option.bind_some, k2, if_neg (show ¬ (100 : Int32) ≤ nI k from nI_ge (b := 100) (by omega) (by omega)), rR_9_0 hE o1, Option.bind_some, Option.bind_some, rS_10 hE o1 (by omega), Option.bind_some, rR_9_1 hE o1, Option.bind_some, rI_9_2 hE o1, Option.bind_some, s3_k (show (9 : Nat) ≠ 10 by decide), k2, rS_11 hE o1 (by omega), Option.bind_some, rI_9_2 hE o1, Option.bind_some, s3_k (show (9 : Nat) ≠ 11 by decide), s3_k (show (9 : Nat) ≠ 10 by decide), k2, nI_1, rP_9_2 hE o1, Option.bind_some]
    · obtain ⟨q, q1, q2, q3, q4⟩ := id ht
      have q3 : t 30 0 29 = nI k := by rw [q3, ← q2, k2]
      unfold f_Mo_tell
      rw [rI_30_29 hE o1, Option.bind_some, q3, if_neg (show ¬ nI k = (100 : Int32) from fun h => hk (nI_inj (b := 100) (by omega) (by omega) h)), rR_30_30 hE o1, Option.bind_some, Option.bind_some, rS_60 hE o1 (by omega), Option.bind_some, rR_30_31 hE o1, Option.bind_some, rI_30_29 hE o1, Option.bind_some, s3_k (show (30 : Nat) ≠ 60 by decide), q3, rS_61 hE o1 (by omega), Option.bind_some, rI_30_29 hE o1, Option.bind_some, s3_k (show (30 : Nat) ≠ 61 by decide), s3_k (show (30 : Nat) ≠ 60 by decide), q3, nI_1, rP_30_29 hE o1, Option.bind_some]
    · obtain ⟨q, q1, q2, q3, q4⟩ := id ht
      have hq : q = k := nI_inj (by omega) (by omega) (q2.symm.trans k2)
      subst hq
      unfold NoR
      simp only [s3_u2, s3_k (show (0 : Nat) ≠ 9 by decide), s3_k (show (4 : Nat) ≠ 9 by decide), s3_k (show (5 : Nat) ≠ 9 by decide), s3_k (show (6 : Nat) ≠ 9 by decide), s3_k (show (7 : Nat) ≠ 9 by decide), s3_k (show (8 : Nat) ≠ 9 by decide), s3_k (show (10 : Nat) ≠ 9 by decide), s3_k (show (11 : Nat) ≠ 9 by decide), s3_k (show (12 : Nat) ≠ 9 by decide), s3_k (show (13 : Nat) ≠ 9 by decide), s3_k (show (14 : Nat) ≠ 9 by decide), s3_k (show (15 : Nat) ≠ 9 by decide), s3_k (show (16 : Nat) ≠ 9 by decide), s3_k (show (17 : Nat) ≠ 9 by decide), s3_k (show (18 : Nat) ≠ 9 by decide), s3_k (show (19 : Nat) ≠ 9 by decide), s3_k (show (20 : Nat) ≠ 9 by decide), s3_k (show (30 : Nat) ≠ 9 by decide), s3_k (show (32 : Nat) ≠ 9 by decide), s3_k (show (33 : Nat) ≠ 9 by decide), s3_k (show (34 : Nat) ≠ 9 by decide), s3_k (show (35 : Nat) ≠ 9 by decide), s3_k (show (36 : Nat) ≠ 9 by decide), s3_k (show (37 : Nat) ≠ 9 by decide), s3_k (show (38 : Nat) ≠ 9 by decide), s3_k (show (40 : Nat) ≠ 9 by decide), s3_k (show (41 : Nat) ≠ 9 by decide), s3_k (show (42 : Nat) ≠ 9 by decide), s3_k (show (43 : Nat) ≠ 9 by decide), s3_k (show (44 : Nat) ≠ 9 by decide), s3_k (show (45 : Nat) ≠ 9 by decide), s3_k (show (46 : Nat) ≠ 9 by decide), s3_k (show (48 : Nat) ≠ 9 by decide), s3_k (show (49 : Nat) ≠ 9 by decide), s3_k (show (50 : Nat) ≠ 9 by decide), s3_k (show (51 : Nat) ≠ 9 by decide), s3_k (show (52 : Nat) ≠ 9 by decide), s3_k (show (54 : Nat) ≠ 9 by decide), s3_k (show (56 : Nat) ≠ 9 by decide), s3_k (show (57 : Nat) ≠ 9 by decide), s3_k (show (58 : Nat) ≠ 9 by decide), s3_k (show (60 : Nat) ≠ 9 by decide), s3_k (show (61 : Nat) ≠ 9 by decide), s3_k (show (0 : Nat) ≠ 10 by decide), s3_k (show (4 : Nat) ≠ 10 by decide), s3_k (show (5 : Nat) ≠ 10 by decide), s3_k (show (6 : Nat) ≠ 10 by decide), s3_k (show (7 : Nat) ≠ 10 by decide), s3_k (show (8 : Nat) ≠ 10 by decide), s3_k (show (9 : Nat) ≠ 10 by decide), s3_k (show (11 : Nat) ≠ 10 by decide), s3_k (show (12 : Nat) ≠ 10 by decide), s3_k (show (13 : Nat) ≠ 10 by decide), s3_k (show (14 : Nat) ≠ 10 by decide), s3_k (show (15 : Nat) ≠ 10 by decide), s3_k (show (16 : Nat) ≠ 10 by decide), s3_k (show (17 : Nat) ≠ 10 by decide), s3_k (show (18 : Nat) ≠ 10 by decide), s3_k (show (19 : Nat) ≠ 10 by decide), s3_k (show (20 : Nat) ≠ 10 by decide), s3_k (show (30 : Nat) ≠ 10 by decide), s3_k (show (32 : Nat) ≠ 10 by decide), s3_k (show (33 : Nat) ≠ 10 by decide), s3_k (show (34 : Nat) ≠ 10 by decide), s3_k (show (35 : Nat) ≠ 10 by decide), s3_k (show (36 : Nat) ≠ 10 by decide), s3_k (show (37 : Nat) ≠ 10 by decide), s3_k (show (38 : Nat) ≠ 10 by decide), s3_k (show (40 : Nat) ≠ 10 by decide), s3_k (show (41 : Nat) ≠ 10 by decide), s3_k (show (42 : Nat) ≠ 10 by decide), s3_k (show (43 : Nat) ≠ 10 by decide), s3_k (show (44 : Nat) ≠ 10 by decide), s3_k (show (45 : Nat) ≠ 10 by decide), s3_k (show (46 : Nat) ≠ 10 by decide), s3_k (show (48 : Nat) ≠ 10 by decide), s3_k (show (49 : Nat) ≠ 10 by decide), s3_k (show (50 : Nat) ≠ 10 by decide), s3_k (show (51 : Nat) ≠ 10 by decide), s3_k (show (52 : Nat) ≠ 10 by decide), s3_k (show (54 : Nat) ≠ 10 by decide), s3_k (show (56 : Nat) ≠ 10 by decide), s3_k (show (57 : Nat) ≠ 10 by decide), s3_k (show (58 : Nat) ≠ 10 by decide), s3_k (show (60 : Nat) ≠ 10 by decide), s3_k (show (61 : Nat) ≠ 10 by decide), s3_k (show (0 : Nat) ≠ 11 by decide), s3_k (show (4 : Nat) ≠ 11 by decide), s3_k (show (5 : Nat) ≠ 11 by decide), s3_k (show (6 : Nat) ≠ 11 by decide), s3_k (show (7 : Nat) ≠ 11 by decide), s3_k (show (8 : Nat) ≠ 11 by decide), s3_k (show (9 : Nat) ≠ 11 by decide), s3_k (show (10 : Nat) ≠ 11 by decide), s3_k (show (12 : Nat) ≠ 11 by decide), s3_k (show (13 : Nat) ≠ 11 by decide), s3_k (show (14 : Nat) ≠ 11 by decide), s3_k (show (15 : Nat) ≠ 11 by decide), s3_k (show (16 : Nat) ≠ 11 by decide), s3_k (show (17 : Nat) ≠ 11 by decide), s3_k (show (18 : Nat) ≠ 11 by decide), s3_k (show (19 : Nat) ≠ 11 by decide), s3_k (show (20 : Nat) ≠ 11 by decide), s3_k (show (30 : Nat) ≠ 11 by decide), s3_k (show (32 : Nat) ≠ 11 by decide), s3_k (show (33 : Nat) ≠ 11 by decide), s3_k (show (34 : Nat) ≠ 11 by decide), s3_k (show (35 : Nat) ≠ 11 by decide), s3_k (show (36 : Nat) ≠ 11 by decide), s3_k (show (37 : Nat) ≠ 11 by decide), s3_k (show (38 : Nat) ≠ 11 by decide), s3_k (show (40 : Nat) ≠ 11 by decide), s3_k (show (41 : Nat) ≠ 11 by decide), s3_k (show (42 : Nat) ≠ 11 by decide), s3_k (show (43 : Nat) ≠ 11 by decide), s3_k (show (44 : Nat) ≠ 11 by decide), s3_k (show (45 : Nat) ≠ 11 by decide), s3_k (show (46 : Nat) ≠ 11 by decide), s3_k (show (48 : Nat) ≠ 11 by decide), s3_k (show (49 : Nat) ≠ 11 by decide), s3_k (show (50 : Nat) ≠ 11 by decide), s3_k (show (51 : Nat) ≠ 11 by decide), s3_k (show (52 : Nat) ≠ 11 by decide), s3_k (show (54 : Nat) ≠ 11 by decide), s3_k (show (56 : Nat) ≠ 11 by decide), s3_k (show (57 : Nat) ≠ 11 by decide), s3_k (show (58 : Nat) ≠ 11 by decide), s3_k (show (60 : Nat) ≠ 11 by decide), s3_k (show (61 : Nat) ≠ 11 by decide), s3_k (show (0 : Nat) ≠ 30 by decide), s3_k (show (4 : Nat) ≠ 30 by decide), s3_k (show (5 : Nat) ≠ 30 by decide), s3_k (show (6 : Nat) ≠ 30 by decide), s3_k (show (7 : Nat) ≠ 30 by decide), s3_k (show (8 : Nat) ≠ 30 by decide), s3_k (show (9 : Nat) ≠ 30 by decide), s3_k (show (10 : Nat) ≠ 30 by decide), s3_k (show (11 : Nat) ≠ 30 by decide), s3_k (show (12 : Nat) ≠ 30 by decide), s3_k (show (13 : Nat) ≠ 30 by decide), s3_k (show (14 : Nat) ≠ 30 by decide), s3_k (show (15 : Nat) ≠ 30 by decide), s3_k (show (16 : Nat) ≠ 30 by decide), s3_k (show (17 : Nat) ≠ 30 by decide), s3_k (show (18 : Nat) ≠ 30 by decide), s3_k (show (19 : Nat) ≠ 30 by decide), s3_k (show (20 : Nat) ≠ 30 by decide), s3_k (show (32 : Nat) ≠ 30 by decide), s3_k (show (33 : Nat) ≠ 30 by decide), s3_k (show (34 : Nat) ≠ 30 by decide), s3_k (show (35 : Nat) ≠ 30 by decide), s3_k (show (36 : Nat) ≠ 30 by decide), s3_k (show (37 : Nat) ≠ 30 by decide), s3_k (show (38 : Nat) ≠ 30 by decide), s3_k (show (40 : Nat) ≠ 30 by decide), s3_k (show (41 : Nat) ≠ 30 by decide), s3_k (show (42 : Nat) ≠ 30 by decide), s3_k (show (43 : Nat) ≠ 30 by decide), s3_k (show (44 : Nat) ≠ 30 by decide), s3_k (show (45 : Nat) ≠ 30 by decide), s3_k (show (46 : Nat) ≠ 30 by decide), s3_k (show (48 : Nat) ≠ 30 by decide), s3_k (show (49 : Nat) ≠ 30 by decide), s3_k (show (50 : Nat) ≠ 30 by decide), s3_k (show (51 : Nat) ≠ 30 by decide), s3_k (show (52 : Nat) ≠ 30 by decide), s3_k (show (54 : Nat) ≠ 30 by decide), s3_k (show (56 : Nat) ≠ 30 by decide), s3_k (show (57 : Nat) ≠ 30 by decide), s3_k (show (58 : Nat) ≠ 30 by decide), s3_k (show (60 : Nat) ≠ 30 by decide), s3_k (show (61 : Nat) ≠ 30 by decide), s3_k (show (0 : Nat) ≠ 60 by decide), s3_k (show (4 : Nat) ≠ 60 by decide), s3_k (show (5 : Nat) ≠ 60 by decide), s3_k (show (6 : Nat) ≠ 60 by decide), s3_k (show (7 : Nat) ≠ 60 by decide), s3_k (show (8 : Nat) ≠ 60 by decide), s3_k (show (9 : Nat) ≠ 60 by decide), s3_k (show (10 : Nat) ≠ 60 by decide), s3_k (show (11 : Nat) ≠ 60 by decide), s3_k (show (12 : Nat) ≠ 60 by decide), s3_k (show (13 : Nat) ≠ 60 by decide), s3_k (show (14 : Nat) ≠ 60 by decide), s3_k (show (15 : Nat) ≠ 60 by decide), s3_k (show (16 : Nat) ≠ 60 by decide), s3_k (show (17 : Nat) ≠ 60 by decide), s3_k (show (18 : Nat) ≠ 60 by decide), s3_k (show (19 : Nat) ≠ 60 by decide), s3_k (show (20 : Nat) ≠ 60 by decide), s3_k (show (30 : Nat) ≠ 60 by decide), s3_k (show (32 : Nat) ≠ 60 by decide), s3_k (show (33 : Nat) ≠ 60 by decide), s3_k (show (34 : Nat) ≠ 60 by decide), s3_k (show (35 : Nat) ≠ 60 by decide), s3_k (show (36 : Nat) ≠ 60 by decide), s3_k (show (37 : Nat) ≠ 60 by decide), s3_k (show (38 : Nat) ≠ 60 by decide), s3_k (show (40 : Nat) ≠ 60 by decide), s3_k (show (41 : Nat) ≠ 60 by decide), s3_k (show (42 : Nat) ≠ 60 by decide), s3_k (show (43 : Nat) ≠ 60 by decide), s3_k (show (44 : Nat) ≠ 60 by decide), s3_k (show (45 : Nat) ≠ 60 by decide), s3_k (show (46 : Nat) ≠ 60 by decide), s3_k (show (48 : Nat) ≠ 60 by decide), s3_k (show (49 : Nat) ≠ 60 by decide), s3_k (show (50 : Nat) ≠ 60 by decide), s3_k (show (51 : Nat) ≠ 60 by decide), s3_k (show (52 : Nat) ≠ 60 by decide), s3_k (show (54 : Nat) ≠ 60 by decide), s3_k (show (56 : Nat) ≠ 60 by decide), s3_k (show (57 : Nat) ≠ 60 by decide), s3_k (show (58 : Nat) ≠ 60 by decide), s3_k (show (61 : Nat) ≠ 60 by decide), s3_k (show (0 : Nat) ≠ 61 by decide), s3_k (show (4 : Nat) ≠ 61 by decide), s3_k (show (5 : Nat) ≠ 61 by decide), s3_k (show (6 : Nat) ≠ 61 by decide), s3_k (show (7 : Nat) ≠ 61 by decide), s3_k (show (8 : Nat) ≠ 61 by decide), s3_k (show (9 : Nat) ≠ 61 by decide), s3_k (show (10 : Nat) ≠ 61 by decide), s3_k (show (11 : Nat) ≠ 61 by decide), s3_k (show (12 : Nat) ≠ 61 by decide), s3_k (show (13 : Nat) ≠ 61 by decide), s3_k (show (14 : Nat) ≠ 61 by decide), s3_k (show (15 : Nat) ≠ 61 by decide), s3_k (show (16 : Nat) ≠ 61 by decide), s3_k (show (17 : Nat) ≠ 61 by decide), s3_k (show (18 : Nat) ≠ 61 by decide), s3_k (show (19 : Nat) ≠ 61 by decide), s3_k (show (20 : Nat) ≠ 61 by decide), s3_k (show (30 : Nat) ≠ 61 by decide), s3_k (show (32 : Nat) ≠ 61 by decide), s3_k (show (33 : Nat) ≠ 61 by decide), s3_k (show (34 : Nat) ≠ 61 by decide), s3_k (show (35 : Nat) ≠ 61 by decide), s3_k (show (36 : Nat) ≠ 61 by decide), s3_k (show (37 : Nat) ≠ 61 by decide), s3_k (show (38 : Nat) ≠ 61 by decide), s3_k (show (40 : Nat) ≠ 61 by decide), s3_k (show (41 : Nat) ≠ 61 by decide), s3_k (show (42 : Nat) ≠ 61 by decide), s3_k (show (43 : Nat) ≠ 61 by decide), s3_k (show (44 : Nat) ≠ 61 by decide), s3_k (show (45 : Nat) ≠ 61 by decide), s3_k (show (46 : Nat) ≠ 61 by decide), s3_k (show (48 : Nat) ≠ 61 by decide), s3_k (show (49 : Nat) ≠ 61 by decide), s3_k (show (50 : Nat) ≠ 61 by decide), s3_k (show (51 : Nat) ≠ 61 by decide), s3_k (show (52 : Nat) ≠ 61 by decide), s3_k (show (54 : Nat) ≠ 61 by decide), s3_k (show (56 : Nat) ≠ 61 by decide), s3_k (show (57 : Nat) ≠ 61 by decide), s3_k (show (58 : Nat) ≠ 61 by decide), s3_k (show (60 : Nat) ≠ 61 by decide), u2_at]
      refine ⟨q + 1, by omega, upd_at, upd_at, fun j hj => ?_⟩
      by_cases hjq : j = q
      · subst hjq
        rw [upd_at, upd_at, upd_at, upd_at]
        exact ⟨rfl, rfl⟩
      · rw [upd_ne hjq, upd_ne hjq, upd_ne hjq, upd_ne hjq]
        exact q4 j (by omega)
    · rw [s3_at, upd_ne hj, s3_k (by decide), s3_k (by decide)]
end NOTE
/-- the first place where a test holds -/
def fb (g : Nat → Bool) : Nat → Nat → Option Nat
  | 0, _ => none
  | k + 1, j => if g j = true then some j else fb g k (j + 1)
theorem fb_congr {g g' : Nat → Bool} : ∀ (k j : Nat), (∀ q, j ≤ q → q < j + k → g q = g' q) → fb g k j = fb g' k j
  | 0, _, _ => rfl
  | k + 1, j, h => by
    unfold fb
    rw [h j (Nat.le_refl _) (by omega), fb_congr k (j + 1) (fun q h1 h2 => h q (by omega) (by omega))]
theorem fb_lt {g : Nat → Bool} : ∀ (k j p : Nat), fb g k j = some p → j ≤ p ∧ p < j + k
  | 0, _, _, h => by cases h
  | k + 1, j, p, h => by
    unfold fb at h
    by_cases hg : g j = true
    · rw [if_pos hg] at h
      cases h
      omega
    · rw [if_neg hg] at h
      have := fb_lt k (j + 1) p h
      omega
def fbI (o : Option Nat) : Int32 := match o with
  | none => -1
  | some j => nI j
section FN
variable {E : ev} {s : st} {x y : Int32}
theorem x_findNamed (hE : okE E) (hnp : E.2.1.1 ≤ 20) (hnt : E.2.1.2.1 ≤ 200) (hc : s 0 0 3 = nI E.2.1.2.1) (hT : ∀ j, j < E.2.1.2.1 → ∃ h, h < E.2.1.1 ∧ s 17 j 0 = nI h) (hP : ∀ h, h < E.2.1.1 → s 12 h 0 = nI h) : ∀ (k fu j : Nat), k < fu → j + k = E.2.1.2.1 → f_X_findNamed_b2 fu (E.1 0 0) x y (nI j) (mu E s) = some ((fb (fun q => decide (s 17 q 0 = x) && decide (s 17 q 1 = y)) k j).map (E.1 17), mu E s) := by
  intro k
  induction k with
  | zero =>
    intro fu j h1 h2
    obtain ⟨f, rfl⟩ : ∃ f, fu = f + 1 := ⟨fu - 1, by omega⟩
    unfold f_X_findNamed_b2
    rw [rI_0_3 hE o1, Option.bind_some, hc, if_pos (nI_le (by omega) (by omega))]; rfl
  | succ k ih =>
    intro fu j h1 h2
    obtain ⟨f, rfl⟩ : ∃ f, fu = f + 1 := ⟨fu - 1, by omega⟩
    obtain ⟨h, hh, e0⟩ := hT j (by omega)
    have hj : j < E.2.1.2.1 := by omega
    unfold f_X_findNamed_b2 fb
    rw [rI_0_3 hE o1, Option.bind_some, hc, if_neg (nI_ge (by omega) (by omega)), rR_0_2 hE o1, Option.bind_some, rQ_2 hE o1 hj (by omega), Option.bind_some, rR_17_0 hE hj, Option.bind_some, e0, nI_clamp (by omega), rI_12_0 hE hh, Option.bind_some, hP h hh, ← e0, nI_1]
    by_cases c1 : s 17 j 0 = x
    · rw [if_pos c1, rI_17_1 hE hj, Option.bind_some]
      by_cases c2 : s 17 j 1 = y
      · rw [if_pos c2, if_pos (and_t c1 c2)]; rfl
      · rw [if_neg c2, if_neg (and_f2 c2), ih f (j + 1) (by omega) (by omega)]
    · rw [if_neg c1, if_neg (and_f1 c1), ih f (j + 1) (by omega) (by omega)]
theorem m_find (hE : okE E) (hnt : E.2.1.2.1 ≤ 200) (hc : s 30 0 9 = nI E.2.1.2.1) : ∀ (k fu j : Nat), k < fu → j + k = E.2.1.2.1 → f_Mo_find_b2 fu (E.1 30 0) x y (nI j) (mu E s) = some (fbI (fb (fun q => decide (s 40 0 q = x) && decide (s 41 0 q = y)) k j), mu E s) := by
  intro k
  induction k with
  | zero =>
    intro fu j h1 h2
    obtain ⟨f, rfl⟩ : ∃ f, fu = f + 1 := ⟨fu - 1, by omega⟩
    unfold f_Mo_find_b2
    rw [rI_30_9 hE o1, Option.bind_some, hc, if_pos (nI_le (by omega) (by omega))]; rfl
  | succ k ih =>
    intro fu j h1 h2
    obtain ⟨f, rfl⟩ : ∃ f, fu = f + 1 := ⟨fu - 1, by omega⟩
    unfold f_Mo_find_b2 fb
    rw [rI_30_9 hE o1, Option.bind_some, hc, if_neg (nI_ge (by omega) (by omega)), rR_30_10 hE o1, Option.bind_some, rA_40 hE o1 (by omega), Option.bind_some, nI_1]
    by_cases c1 : s 40 0 j = x
    · rw [if_pos c1, rR_30_11 hE o1, Option.bind_some, rA_41 hE o1 (by omega), Option.bind_some]
      by_cases c2 : s 41 0 j = y
      · rw [if_pos c2, if_pos (and_t c1 c2)]; rfl
      · rw [if_neg c2, if_neg (and_f2 c2), ih f (j + 1) (by omega) (by omega)]
    · rw [if_neg c1, if_neg (and_f1 c1), ih f (j + 1) (by omega) (by omega)]
end FN
section PRV
variable {E : ev} {s : st} {n : Nat}
theorem x_fn (hE : okE E) (hI : Inv E s n) (x y : Int32) : f_X_findNamed (E.1 0 0) x y (mu E s) = some ((fb (fun q => decide (s 40 0 q = x) && decide (s 41 0 q = y)) E.2.1.2.1 0).map (E.1 17), mu E s) := by
  obtain ⟨⟨hnp, hnt, hnr, x1, m1, x3, m9, x5, m17, x9⟩, hp, -, -, -, ⟨hT, -⟩, -⟩ := id hI
  unfold f_X_findNamed
  rw [show f_X_findNamed_b2 FU (E.1 0 0) x y 0 (mu E s) = _ from x_findNamed hE hnp hnt x3 (fun j hj => by obtain ⟨⟨h, h1, h2, -⟩, -⟩ := hT j hj; exact ⟨h, h1, h2⟩) (fun h hh => (hp h hh).1) E.2.1.2.1 FU 0 (by unfold FU; omega) (by omega), fb_congr (g' := fun q => decide (s 40 0 q = x) && decide (s 41 0 q = y)) E.2.1.2.1 0 (fun q _ hq => by
    obtain ⟨⟨h, h1, h2, h3⟩, h4, -⟩ := hT q (by omega)
    show (decide (s 17 q 0 = x) && decide (s 17 q 1 = y)) = _
    rw [h2, ← h3, h4])]
theorem m_fn (hE : okE E) (hnt : E.2.1.2.1 ≤ 200) (x y : Int32) (s1 : st) (h30 : s1 30 0 9 = nI E.2.1.2.1) (h40 : s1 40 = s 40) (h41 : s1 41 = s 41) : f_Mo_find (E.1 30 0) x y (mu E s1) = some (fbI (fb (fun q => decide (s 40 0 q = x) && decide (s 41 0 q = y)) E.2.1.2.1 0), mu E s1) := by
  unfold f_Mo_find
  rw [show f_Mo_find_b2 FU (E.1 30 0) x y 0 (mu E s1) = _ from m_find hE hnt h30 E.2.1.2.1 FU 0 (by unfold FU; omega) (by omega), h40, h41]
theorem op_provider (hE : okE E) (hI : Inv E s n) (v1 v2 v3 : Int32) : OpOK E s n (f_X_provider (E.1 0 0) v1 v2 v3) (f_Mo_provider (E.1 30 0) v1 v2 v3) := by
  obtain ⟨⟨hnp, hnt, hnr, x1, m1, x3, m9, x5, m17, x9⟩, -, -, -, -, ⟨hT, hT2⟩, -, -, -, -, hNo⟩ := id hI
  have hm1 : ∀ s1 : st, s1 30 = s 30 → th s1 30 0 1 = nI E.2.1.1 := fun s1 h => by rw [th_m (show (1 : Nat) ≠ 0 by decide), h]; exact m1
  have hm9 : ∀ s1 : st, s1 30 = s 30 → th s1 30 0 9 = nI E.2.1.2.1 := fun s1 h => by rw [th_m (show (9 : Nat) ≠ 0 by decide), h]; exact m9
  rcases ix_cases v1 (n := E.2.1.1) (by omega) with h | ⟨i, hi, rfl⟩
  · refine ⟨-1, E, s, th s, hE, rfl, rfl, ?_, ?_, Inv_thS hI⟩
    · unfold f_X_provider
      rw [rO_0 hE o1, Option.bind_some, fp_no hE x1 hnp h]; rfl
    · unfold f_Mo_provider
      rw [rT hE, Option.bind_some, rO_30 hE o1, Option.bind_some, ip_eq hE (hm1 s rfl), if_pos h]; rfl
  have hX : f_X_provider (E.1 0 0) (nI i) v2 v3 (mu E s) = qm ((fb (fun q => decide (s 40 0 q = nI i) && decide (s 41 0 q = v2)) E.2.1.2.1 0).map (E.1 17)) ((f_Notices_append (E.1 9 0) 2 v2 (mu E s)).bind fun x => some (0, x.2)) (fun x9 => if v2 = v3 then (gI 6 2 (mu E s) x9).bind fun x18 => if x18 = 0 then f_X_provider_b54 1 (some x9) (mu E s) else f_X_provider_b54 0 (some x9) (mu E s) else qm ((fb (fun q => decide (s 40 0 q = nI i) && decide (s 41 0 q = v3)) E.2.1.2.1 0).map (E.1 17)) ((pF 6 1 (.int v3) (mu E s) x9).bind fun M17 => some (1, M17)) (fun _ => some (-3, mu E s))) := by
    unfold f_X_provider
    rw [rO_0 hE o1, Option.bind_some, fp_yes hE x1 hnp hi]
    show (kO 0 _ _).bind _ = _
    rw [rO_0 hE o1, Option.bind_some, x_fn hE hI]
    show qm _ _ _ = _
    cases fb (fun q => decide (s 40 0 q = nI i) && decide (s 41 0 q = v2)) E.2.1.2.1 0 with
    | none =>
      show (gR 0 8 _ _).bind _ = (f_Notices_append (E.1 9 0) 2 v2 (mu E s)).bind _
      rw [rR_0_8 hE o1, Option.bind_some, rO_9 hE o1, Option.bind_some]
    | some j =>
      show (if v2 = v3 then _ else _) = (if v2 = v3 then _ else _)
      by_cases c : v2 = v3
      · rw [if_pos c, if_pos c]
      · rw [if_neg c, if_neg c, rO_0 hE o1, Option.bind_some, x_fn hE hI]
        rfl
  have hM : ∀ s1 : st, s1 30 = s 30 → s1 40 = s 40 → s1 41 = s 41 → f_Mo_provider (E.1 30 0) (nI i) v2 v3 (mu E s1) = qm (fb (fun q => decide (s 40 0 q = nI i) && decide (s 41 0 q = v2)) E.2.1.2.1 0) ((f_Mo_tell (E.1 30 0) 2 v2 (mu E (th s1))).bind fun x => some (0, x.2)) (fun j => if v2 = v3 then (aZ (mu E (th s1)) (E.1 42 0) (nI j)).bind fun x17 => if x17 = 0 then f_Mo_provider_b62 1 (nI j) (E.1 42 0) (mu E (th s1)) else f_Mo_provider_b62 0 (nI j) (E.1 42 0) (mu E (th s1)) else qm (fb (fun q => decide (s 40 0 q = nI i) && decide (s 41 0 q = v3)) E.2.1.2.1 0) ((sI v3 (mu E (th s1)) (E.1 41 0) (nI j)).bind fun M14 => some (1, M14)) (fun _ => some (-3, mu E (th s1)))) := by
    intro s1 q30 q40 q41
    unfold f_Mo_provider
    rw [rT hE, Option.bind_some, rO_30 hE o1, Option.bind_some, ip_eq hE (hm1 s1 q30), if_neg (ix_no (by omega) hi)]
    show (kO 1 _ _).bind _ = _
    rw [rO_30 hE o1, Option.bind_some, m_fn (s := s) hE hnt _ _ (th s1) (hm9 s1 q30) (by rw [th_k (by decide)]; exact q40) (by rw [th_k (by decide)]; exact q41)]
    show (if 0 ≤ fbI _ then _ else _) = _
    cases hf : fb (fun q => decide (s 40 0 q = nI i) && decide (s 41 0 q = v2)) E.2.1.2.1 0 with
    | none =>
      show (if (0 : Int32) ≤ -1 then _ else _) = _
      rw [if_neg (by decide), rO_30 hE o1, Option.bind_some]; rfl
    | some j =>
      have hj := (fb_lt _ _ _ hf).2
      show (if (0 : Int32) ≤ nI j then _ else _) = _
      rw [if_pos (nI_0le (by omega))]
      show (if v2 = v3 then _ else _) = (if v2 = v3 then _ else _)
      by_cases c : v2 = v3
      · rw [if_pos c, if_pos c, rR_30_12 hE o1, Option.bind_some, Option.bind_some]; rfl
      · rw [if_neg c, if_neg c, rO_30 hE o1, Option.bind_some, m_fn (s := s) hE hnt _ _ (th s1) (hm9 s1 q30) (by rw [th_k (by decide)]; exact q40) (by rw [th_k (by decide)]; exact q41)]
        show (if fbI _ < 0 then _ else _) = _
        cases hf2 : fb (fun q => decide (s 40 0 q = nI i) && decide (s 41 0 q = v3)) E.2.1.2.1 0 with
        | none =>
          show (if (-1 : Int32) < 0 then _ else _) = _
          rw [if_pos (by decide), rR_30_11 hE o1, Option.bind_some]; rfl
        | some j2 =>
          have hj2 := (fb_lt _ _ _ hf2).2
          show (if nI j2 < 0 then _ else _) = _
          rw [if_neg (nI_nn (by omega))]; rfl
  cases hf : fb (fun q => decide (s 40 0 q = nI i) && decide (s 41 0 q = v2)) E.2.1.2.1 0 with
  | none =>
    obtain ⟨s1, a1, a2, aM⟩ := note_sim hE (show NoR s s from hNo) 2 v2
    obtain ⟨t1, b1, b2, b3, b4⟩ := aM (th s1) (by
      unfold NoR at *
      rw [th_k (show (60 : Nat) ≠ 30 by decide), th_k (show (61 : Nat) ≠ 30 by decide), a2 60 (by decide), a2 61 (by decide)]
      obtain ⟨k, k1, k2, k3, k4⟩ := hNo
      exact ⟨k, k1, k2, by rw [th_m (show (29 : Nat) ≠ 0 by decide), a2 30 (by decide)]; exact k3, k4⟩)
    refine ⟨0, E, s1, t1, hE, rfl, rfl, ?_, ?_, ?_⟩
    · rw [hX, hf]
      show (f_Notices_append (E.1 9 0) 2 v2 (mu E s)).bind _ = _
      rw [a1]; rfl
    · rw [hM s1 (a2 30 (by decide)) (a2 40 (by decide)) (a2 41 (by decide)), hf]
      show (f_Mo_tell (E.1 30 0) 2 v2 (mu E (th s1))).bind _ = _
      rw [b1]; rfl
    · obtain ⟨a, b, c, d, e, f, g, i', j, k, l⟩ := Inv_thS hI
      have e0 : ∀ q, q ∉ [9, 10, 11, 30, 60, 61] → t1 q = th s q := fun q hq => by
        have hq1 : q ≠ 30 := by intro h; simp at hq; omega
        rw [b3 q (by intro h; simp at hq h; omega), th_k hq1, th_k hq1, a2 q (by intro h; simp at hq h; omega)]
      have e1 : ∀ q, q ∈ [9, 10, 11] → t1 q = s1 q := fun q hq => by
        rw [b3 q (by intro h; simp at hq h; omega), th_k (by intro h; simp at hq; omega)]
      have e3 : ∀ q, q ≠ 29 → q ≠ 0 → t1 30 0 q = s 30 0 q := fun q h1 h2 => by rw [b4 q h1, th_m h2, a2 30 (by decide)]
      unfold NoR at b2
      obtain ⟨c1, c2, c3, c4, c5, c6, c7, c8, c9, c10⟩ := hI.1
      obtain ⟨u, u1, u2, u3, u4⟩ := hI.2.2.2.2.2.2.2.2.2.1
      unfold Inv
      rw [e1 9 (by decide), e1 10 (by decide), e1 11 (by decide), e0 0 (by decide), e0 4 (by decide), e0 5 (by decide), e0 6 (by decide), e0 7 (by decide), e0 8 (by decide), e0 12 (by decide), e0 13 (by decide), e0 14 (by decide), e0 15 (by decide), e0 16 (by decide), e0 17 (by decide), e0 18 (by decide), e0 19 (by decide), e0 20 (by decide), e0 32 (by decide), e0 33 (by decide), e0 34 (by decide), e0 35 (by decide), e0 36 (by decide), e0 37 (by decide), e0 38 (by decide), e0 40 (by decide), e0 41 (by decide), e0 42 (by decide), e0 43 (by decide), e0 44 (by decide), e0 45 (by decide), e0 46 (by decide), e0 48 (by decide), e0 49 (by decide), e0 50 (by decide), e0 51 (by decide), e0 52 (by decide), e0 54 (by decide), e0 56 (by decide), e0 57 (by decide), e0 58 (by decide)]
      refine ⟨⟨c1, c2, c3, c4, ?_, c6, ?_, c8, ?_, ?_⟩, b, c, d, e, f, g, i', j, ⟨u, by omega, u2, ?_, u4⟩, b2⟩
      · rw [e3 1 (by decide) (by decide)]; exact c5
      · rw [e3 9 (by decide) (by decide)]; exact c7
      · rw [e3 17 (by decide) (by decide)]; exact c9
      · rw [e3 23 (by decide) (by decide)]; exact c10
      · rw [e3 25 (by decide) (by decide)]; exact u3
  | some j =>
    have hj : j < E.2.1.2.1 := by have := (fb_lt _ _ _ hf).2; omega
    obtain ⟨t0, t1, t2, t3⟩ := hT j hj
    by_cases c : v2 = v3
    · -- turned
      have key : ∀ v : Int32, (v = 0 ∨ v = 1) → (s 17 j 2 = v ∧ s 42 0 j = 1 - v) → ∃ w : Int32, (w = 0 ∨ w = 1) ∧ w = 1 - v ∧ OpOK E s n (f_X_provider (E.1 0 0) (nI i) v2 v3) (f_Mo_provider (E.1 30 0) (nI i) v2 v3) := by
        intro v hv hs
        refine ⟨1 - v, by rcases hv with rfl | rfl <;> decide, rfl, ?_⟩
        have hkb : kB (1 - v) = some () := by rcases hv with rfl | rfl <;> rfl
        refine ⟨1, E, s3 s 17 j 2 (1 - v), s3 (th (s3 s 17 j 2 (1 - v))) 42 0 j v, hE, rfl, rfl, ?_, ?_, ?_⟩
        · rw [hX, hf]
          show (if v2 = v3 then _ else _) = _
          rw [if_pos c, rI_17_2 hE hj, Option.bind_some, hs.1]
          unfold f_X_provider_b54
          rcases hv with rfl | rfl
          · rw [if_pos rfl, Option.bind_some, kB1, Option.bind_some, rP_17_2 hE hj, Option.bind_some]; rfl
          · rw [if_neg (by decide), Option.bind_some, kB0, Option.bind_some, rP_17_2 hE hj, Option.bind_some]; rfl
        · rw [hM _ (s3_k (by decide)) (s3_k (by decide)) (s3_k (by decide)), hf]
          show (if v2 = v3 then _ else _) = _
          rw [if_pos c, rA_42 hE o1 (show j < 200 by omega), Option.bind_some, th_k (show (42 : Nat) ≠ 30 by decide), s3_k (show (42 : Nat) ≠ 17 by decide), hs.2]
          unfold f_Mo_provider_b62
          rcases hv with rfl | rfl
          · rw [if_neg (by decide), rS_42 hE o1 (show j < 200 by omega) (Or.inl rfl), Option.bind_some]
          · rw [if_pos (by decide), rS_42 hE o1 (show j < 200 by omega) (Or.inr rfl), Option.bind_some]
        · obtain ⟨a, b, c, d, e, ⟨f1, f2⟩, g, i', jj, k, l⟩ := Inv_thS hI
          unfold Inv
          simp only [th, s3_u2, s3_k (show (0 : Nat) ≠ 17 by decide), s3_k (show (4 : Nat) ≠ 17 by decide), s3_k (show (5 : Nat) ≠ 17 by decide), s3_k (show (6 : Nat) ≠ 17 by decide), s3_k (show (7 : Nat) ≠ 17 by decide), s3_k (show (8 : Nat) ≠ 17 by decide), s3_k (show (9 : Nat) ≠ 17 by decide), s3_k (show (10 : Nat) ≠ 17 by decide), s3_k (show (11 : Nat) ≠ 17 by decide), s3_k (show (12 : Nat) ≠ 17 by decide), s3_k (show (13 : Nat) ≠ 17 by decide), s3_k (show (14 : Nat) ≠ 17 by decide), s3_k (show (15 : Nat) ≠ 17 by decide), s3_k (show (16 : Nat) ≠ 17 by decide), s3_k (show (18 : Nat) ≠ 17 by decide), s3_k (show (19 : Nat) ≠ 17 by decide), s3_k (show (20 : Nat) ≠ 17 by decide), s3_k (show (30 : Nat) ≠ 17 by decide), s3_k (show (32 : Nat) ≠ 17 by decide), s3_k (show (33 : Nat) ≠ 17 by decide), s3_k (show (34 : Nat) ≠ 17 by decide), s3_k (show (35 : Nat) ≠ 17 by decide), s3_k (show (36 : Nat) ≠ 17 by decide), s3_k (show (37 : Nat) ≠ 17 by decide), s3_k (show (38 : Nat) ≠ 17 by decide), s3_k (show (40 : Nat) ≠ 17 by decide), s3_k (show (41 : Nat) ≠ 17 by decide), s3_k (show (42 : Nat) ≠ 17 by decide), s3_k (show (43 : Nat) ≠ 17 by decide), s3_k (show (44 : Nat) ≠ 17 by decide), s3_k (show (45 : Nat) ≠ 17 by decide), s3_k (show (46 : Nat) ≠ 17 by decide), s3_k (show (48 : Nat) ≠ 17 by decide), s3_k (show (49 : Nat) ≠ 17 by decide), s3_k (show (50 : Nat) ≠ 17 by decide), s3_k (show (51 : Nat) ≠ 17 by decide), s3_k (show (52 : Nat) ≠ 17 by decide), s3_k (show (54 : Nat) ≠ 17 by decide), s3_k (show (56 : Nat) ≠ 17 by decide), s3_k (show (57 : Nat) ≠ 17 by decide), s3_k (show (58 : Nat) ≠ 17 by decide), s3_k (show (60 : Nat) ≠ 17 by decide), s3_k (show (61 : Nat) ≠ 17 by decide), s3_k (show (0 : Nat) ≠ 42 by decide), s3_k (show (4 : Nat) ≠ 42 by decide), s3_k (show (5 : Nat) ≠ 42 by decide), s3_k (show (6 : Nat) ≠ 42 by decide), s3_k (show (7 : Nat) ≠ 42 by decide), s3_k (show (8 : Nat) ≠ 42 by decide), s3_k (show (9 : Nat) ≠ 42 by decide), s3_k (show (10 : Nat) ≠ 42 by decide), s3_k (show (11 : Nat) ≠ 42 by decide), s3_k (show (12 : Nat) ≠ 42 by decide), s3_k (show (13 : Nat) ≠ 42 by decide), s3_k (show (14 : Nat) ≠ 42 by decide), s3_k (show (15 : Nat) ≠ 42 by decide), s3_k (show (16 : Nat) ≠ 42 by decide), s3_k (show (17 : Nat) ≠ 42 by decide), s3_k (show (18 : Nat) ≠ 42 by decide), s3_k (show (19 : Nat) ≠ 42 by decide), s3_k (show (20 : Nat) ≠ 42 by decide), s3_k (show (30 : Nat) ≠ 42 by decide), s3_k (show (32 : Nat) ≠ 42 by decide), s3_k (show (33 : Nat) ≠ 42 by decide), s3_k (show (34 : Nat) ≠ 42 by decide), s3_k (show (35 : Nat) ≠ 42 by decide), s3_k (show (36 : Nat) ≠ 42 by decide), s3_k (show (37 : Nat) ≠ 42 by decide), s3_k (show (38 : Nat) ≠ 42 by decide), s3_k (show (40 : Nat) ≠ 42 by decide), s3_k (show (41 : Nat) ≠ 42 by decide), s3_k (show (43 : Nat) ≠ 42 by decide), s3_k (show (44 : Nat) ≠ 42 by decide), s3_k (show (45 : Nat) ≠ 42 by decide), s3_k (show (46 : Nat) ≠ 42 by decide), s3_k (show (48 : Nat) ≠ 42 by decide), s3_k (show (49 : Nat) ≠ 42 by decide), s3_k (show (50 : Nat) ≠ 42 by decide), s3_k (show (51 : Nat) ≠ 42 by decide), s3_k (show (52 : Nat) ≠ 42 by decide), s3_k (show (54 : Nat) ≠ 42 by decide), s3_k (show (56 : Nat) ≠ 42 by decide), s3_k (show (57 : Nat) ≠ 42 by decide), s3_k (show (58 : Nat) ≠ 42 by decide), s3_k (show (60 : Nat) ≠ 42 by decide), s3_k (show (61 : Nat) ≠ 42 by decide), s3_k (show (0 : Nat) ≠ 30 by decide), s3_k (show (4 : Nat) ≠ 30 by decide), s3_k (show (5 : Nat) ≠ 30 by decide), s3_k (show (6 : Nat) ≠ 30 by decide), s3_k (show (7 : Nat) ≠ 30 by decide), s3_k (show (8 : Nat) ≠ 30 by decide), s3_k (show (9 : Nat) ≠ 30 by decide), s3_k (show (10 : Nat) ≠ 30 by decide), s3_k (show (11 : Nat) ≠ 30 by decide), s3_k (show (12 : Nat) ≠ 30 by decide), s3_k (show (13 : Nat) ≠ 30 by decide), s3_k (show (14 : Nat) ≠ 30 by decide), s3_k (show (15 : Nat) ≠ 30 by decide), s3_k (show (16 : Nat) ≠ 30 by decide), s3_k (show (17 : Nat) ≠ 30 by decide), s3_k (show (18 : Nat) ≠ 30 by decide), s3_k (show (19 : Nat) ≠ 30 by decide), s3_k (show (20 : Nat) ≠ 30 by decide), s3_k (show (32 : Nat) ≠ 30 by decide), s3_k (show (33 : Nat) ≠ 30 by decide), s3_k (show (34 : Nat) ≠ 30 by decide), s3_k (show (35 : Nat) ≠ 30 by decide), s3_k (show (36 : Nat) ≠ 30 by decide), s3_k (show (37 : Nat) ≠ 30 by decide), s3_k (show (38 : Nat) ≠ 30 by decide), s3_k (show (40 : Nat) ≠ 30 by decide), s3_k (show (41 : Nat) ≠ 30 by decide), s3_k (show (42 : Nat) ≠ 30 by decide), s3_k (show (43 : Nat) ≠ 30 by decide), s3_k (show (44 : Nat) ≠ 30 by decide), s3_k (show (45 : Nat) ≠ 30 by decide), s3_k (show (46 : Nat) ≠ 30 by decide), s3_k (show (48 : Nat) ≠ 30 by decide), s3_k (show (49 : Nat) ≠ 30 by decide), s3_k (show (50 : Nat) ≠ 30 by decide), s3_k (show (51 : Nat) ≠ 30 by decide), s3_k (show (52 : Nat) ≠ 30 by decide), s3_k (show (54 : Nat) ≠ 30 by decide), s3_k (show (56 : Nat) ≠ 30 by decide), s3_k (show (57 : Nat) ≠ 30 by decide), s3_k (show (58 : Nat) ≠ 30 by decide), s3_k (show (60 : Nat) ≠ 30 by decide), s3_k (show (61 : Nat) ≠ 30 by decide), u2_at] at *
          refine ⟨a, b, c, d, e, ⟨fun q hq => ?_, fun q h1 h2 => ?_⟩, iSp_cg g (fun q hq => ?_), i', jj, k, l⟩
          · obtain ⟨t0, t1, t2, t3⟩ := f1 q hq
            by_cases hqi : q = j
            · subst hqi
              rw [u2_at, upd_at, upd_at]
              refine ⟨t0, t1, ?_, t3⟩
              rcases hv with rfl | rfl
              · exact Or.inl ⟨by decide, rfl⟩
              · exact Or.inr ⟨by decide, rfl⟩
            · rw [u2_ne hqi, upd_ne hqi]
              exact ⟨t0, t1, t2, t3⟩
          · rw [upd_ne (by omega)]
            exact f2 q h1 h2
          · by_cases hqi : q = j
            · subst hqi
              rw [u2_at, upd_ne (by decide)]
            · rw [u2_ne hqi]
      rcases t2 with ⟨k1, k2⟩ | ⟨k1, k2⟩
      · obtain ⟨w, -, -, h⟩ := key 1 (Or.inr rfl) ⟨k1, by rw [k2]; decide⟩
        exact h
      · obtain ⟨w, -, -, h⟩ := key 0 (Or.inl rfl) ⟨k1, by rw [k2]; decide⟩
        exact h
    · cases hf2 : fb (fun q => decide (s 40 0 q = nI i) && decide (s 41 0 q = v3)) E.2.1.2.1 0 with
      | none =>
        refine ⟨1, E, s3 s 17 j 1 v3, s3 (th (s3 s 17 j 1 v3)) 41 0 j v3, hE, rfl, rfl, ?_, ?_, ?_⟩
        · rw [hX, hf, hf2]
          show (if v2 = v3 then _ else _) = _
          rw [if_neg c]
          show (pF 6 1 _ _ _).bind _ = _
          rw [rP_17_1 hE hj, Option.bind_some]
        · rw [hM _ (s3_k (by decide)) (s3_k (by decide)) (s3_k (by decide)), hf, hf2]
          show (if v2 = v3 then _ else _) = _
          rw [if_neg c]
          show (sI v3 _ _ _).bind _ = _
          rw [rS_41 hE o1 (show j < 200 by omega), Option.bind_some]
        · obtain ⟨a, b, c, d, e, ⟨f1, f2⟩, g, i', jj, k, l⟩ := Inv_thS hI
          unfold Inv
          simp only [th, s3_u2, s3_k (show (0 : Nat) ≠ 17 by decide), s3_k (show (4 : Nat) ≠ 17 by decide), s3_k (show (5 : Nat) ≠ 17 by decide), s3_k (show (6 : Nat) ≠ 17 by decide), s3_k (show (7 : Nat) ≠ 17 by decide), s3_k (show (8 : Nat) ≠ 17 by decide), s3_k (show (9 : Nat) ≠ 17 by decide), s3_k (show (10 : Nat) ≠ 17 by decide), s3_k (show (11 : Nat) ≠ 17 by decide), s3_k (show (12 : Nat) ≠ 17 by decide), s3_k (show (13 : Nat) ≠ 17 by decide), s3_k (show (14 : Nat) ≠ 17 by decide), s3_k (show (15 : Nat) ≠ 17 by decide), s3_k (show (16 : Nat) ≠ 17 by decide), s3_k (show (18 : Nat) ≠ 17 by decide), s3_k (show (19 : Nat) ≠ 17 by decide), s3_k (show (20 : Nat) ≠ 17 by decide), s3_k (show (30 : Nat) ≠ 17 by decide), s3_k (show (32 : Nat) ≠ 17 by decide), s3_k (show (33 : Nat) ≠ 17 by decide), s3_k (show (34 : Nat) ≠ 17 by decide), s3_k (show (35 : Nat) ≠ 17 by decide), s3_k (show (36 : Nat) ≠ 17 by decide), s3_k (show (37 : Nat) ≠ 17 by decide), s3_k (show (38 : Nat) ≠ 17 by decide), s3_k (show (40 : Nat) ≠ 17 by decide), s3_k (show (41 : Nat) ≠ 17 by decide), s3_k (show (42 : Nat) ≠ 17 by decide), s3_k (show (43 : Nat) ≠ 17 by decide), s3_k (show (44 : Nat) ≠ 17 by decide), s3_k (show (45 : Nat) ≠ 17 by decide), s3_k (show (46 : Nat) ≠ 17 by decide), s3_k (show (48 : Nat) ≠ 17 by decide), s3_k (show (49 : Nat) ≠ 17 by decide), s3_k (show (50 : Nat) ≠ 17 by decide), s3_k (show (51 : Nat) ≠ 17 by decide), s3_k (show (52 : Nat) ≠ 17 by decide), s3_k (show (54 : Nat) ≠ 17 by decide), s3_k (show (56 : Nat) ≠ 17 by decide), s3_k (show (57 : Nat) ≠ 17 by decide), s3_k (show (58 : Nat) ≠ 17 by decide), s3_k (show (60 : Nat) ≠ 17 by decide), s3_k (show (61 : Nat) ≠ 17 by decide), s3_k (show (0 : Nat) ≠ 41 by decide), s3_k (show (4 : Nat) ≠ 41 by decide), s3_k (show (5 : Nat) ≠ 41 by decide), s3_k (show (6 : Nat) ≠ 41 by decide), s3_k (show (7 : Nat) ≠ 41 by decide), s3_k (show (8 : Nat) ≠ 41 by decide), s3_k (show (9 : Nat) ≠ 41 by decide), s3_k (show (10 : Nat) ≠ 41 by decide), s3_k (show (11 : Nat) ≠ 41 by decide), s3_k (show (12 : Nat) ≠ 41 by decide), s3_k (show (13 : Nat) ≠ 41 by decide), s3_k (show (14 : Nat) ≠ 41 by decide), s3_k (show (15 : Nat) ≠ 41 by decide), s3_k (show (16 : Nat) ≠ 41 by decide), s3_k (show (17 : Nat) ≠ 41 by decide), s3_k (show (18 : Nat) ≠ 41 by decide), s3_k (show (19 : Nat) ≠ 41 by decide), s3_k (show (20 : Nat) ≠ 41 by decide), s3_k (show (30 : Nat) ≠ 41 by decide), s3_k (show (32 : Nat) ≠ 41 by decide), s3_k (show (33 : Nat) ≠ 41 by decide), s3_k (show (34 : Nat) ≠ 41 by decide), s3_k (show (35 : Nat) ≠ 41 by decide), s3_k (show (36 : Nat) ≠ 41 by decide), s3_k (show (37 : Nat) ≠ 41 by decide), s3_k (show (38 : Nat) ≠ 41 by decide), s3_k (show (40 : Nat) ≠ 41 by decide), s3_k (show (42 : Nat) ≠ 41 by decide), s3_k (show (43 : Nat) ≠ 41 by decide), s3_k (show (44 : Nat) ≠ 41 by decide), s3_k (show (45 : Nat) ≠ 41 by decide), s3_k (show (46 : Nat) ≠ 41 by decide), s3_k (show (48 : Nat) ≠ 41 by decide), s3_k (show (49 : Nat) ≠ 41 by decide), s3_k (show (50 : Nat) ≠ 41 by decide), s3_k (show (51 : Nat) ≠ 41 by decide), s3_k (show (52 : Nat) ≠ 41 by decide), s3_k (show (54 : Nat) ≠ 41 by decide), s3_k (show (56 : Nat) ≠ 41 by decide), s3_k (show (57 : Nat) ≠ 41 by decide), s3_k (show (58 : Nat) ≠ 41 by decide), s3_k (show (60 : Nat) ≠ 41 by decide), s3_k (show (61 : Nat) ≠ 41 by decide), s3_k (show (0 : Nat) ≠ 30 by decide), s3_k (show (4 : Nat) ≠ 30 by decide), s3_k (show (5 : Nat) ≠ 30 by decide), s3_k (show (6 : Nat) ≠ 30 by decide), s3_k (show (7 : Nat) ≠ 30 by decide), s3_k (show (8 : Nat) ≠ 30 by decide), s3_k (show (9 : Nat) ≠ 30 by decide), s3_k (show (10 : Nat) ≠ 30 by decide), s3_k (show (11 : Nat) ≠ 30 by decide), s3_k (show (12 : Nat) ≠ 30 by decide), s3_k (show (13 : Nat) ≠ 30 by decide), s3_k (show (14 : Nat) ≠ 30 by decide), s3_k (show (15 : Nat) ≠ 30 by decide), s3_k (show (16 : Nat) ≠ 30 by decide), s3_k (show (17 : Nat) ≠ 30 by decide), s3_k (show (18 : Nat) ≠ 30 by decide), s3_k (show (19 : Nat) ≠ 30 by decide), s3_k (show (20 : Nat) ≠ 30 by decide), s3_k (show (32 : Nat) ≠ 30 by decide), s3_k (show (33 : Nat) ≠ 30 by decide), s3_k (show (34 : Nat) ≠ 30 by decide), s3_k (show (35 : Nat) ≠ 30 by decide), s3_k (show (36 : Nat) ≠ 30 by decide), s3_k (show (37 : Nat) ≠ 30 by decide), s3_k (show (38 : Nat) ≠ 30 by decide), s3_k (show (40 : Nat) ≠ 30 by decide), s3_k (show (41 : Nat) ≠ 30 by decide), s3_k (show (42 : Nat) ≠ 30 by decide), s3_k (show (43 : Nat) ≠ 30 by decide), s3_k (show (44 : Nat) ≠ 30 by decide), s3_k (show (45 : Nat) ≠ 30 by decide), s3_k (show (46 : Nat) ≠ 30 by decide), s3_k (show (48 : Nat) ≠ 30 by decide), s3_k (show (49 : Nat) ≠ 30 by decide), s3_k (show (50 : Nat) ≠ 30 by decide), s3_k (show (51 : Nat) ≠ 30 by decide), s3_k (show (52 : Nat) ≠ 30 by decide), s3_k (show (54 : Nat) ≠ 30 by decide), s3_k (show (56 : Nat) ≠ 30 by decide), s3_k (show (57 : Nat) ≠ 30 by decide), s3_k (show (58 : Nat) ≠ 30 by decide), s3_k (show (60 : Nat) ≠ 30 by decide), s3_k (show (61 : Nat) ≠ 30 by decide), u2_at] at *
          refine ⟨a, b, c, d, e, ⟨fun q hq => ?_, f2⟩, iSp_cg g (fun q hq => ?_), i', jj, k, l⟩
          · obtain ⟨t0, t1, t2, t3⟩ := f1 q hq
            by_cases hqi : q = j
            · subst hqi
              rw [u2_at, upd_at, upd_at]
              exact ⟨t0, rfl, t2, t3⟩
            · rw [u2_ne hqi, upd_ne hqi]
              exact ⟨t0, t1, t2, t3⟩
          · by_cases hqi : q = j
            · subst hqi
              rw [u2_at, upd_ne (by decide)]
            · rw [u2_ne hqi]
      | some j2 =>
        refine ⟨-3, E, s, th s, hE, rfl, rfl, ?_, ?_, Inv_thS hI⟩
        · rw [hX, hf, hf2]
          show (if v2 = v3 then _ else _) = _
          rw [if_neg c]; rfl
        · rw [hM s rfl rfl rfl, hf, hf2]
          show (if v2 = v3 then _ else _) = _
          rw [if_neg c]; rfl
end PRV
