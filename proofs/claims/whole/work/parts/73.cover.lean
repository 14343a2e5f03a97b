def shr (g : Nat → Int32) (j n : Nat) : Nat → Int32 := fun q => if j < q ∧ q ≤ n then g (q - 1) else g q
def ins (g : Nat → Int32) (p n : Nat) (v : Int32) : Nat → Int32 := fun q => if q < p then g q else if q = p then v else if q ≤ n then g (q - 1) else g q
theorem shr_n {g : Nat → Int32} {n : Nat} : shr g n n = g := by
  funext q
  unfold shr
  rw [if_neg (by omega)]
theorem ins_eq {g : Nat → Int32} {j n : Nat} {v : Int32} (h : j ≤ n) : upd (shr g j n) j v = ins g j n v := by
  funext q
  unfold upd shr ins
  by_cases h1 : q = j
  · rw [if_pos h1, if_neg (by omega), if_pos h1]
  · rw [if_neg h1]
    by_cases h2 : q < j
    · rw [if_neg (by omega), if_pos h2]
    · rw [if_neg h2, if_neg h1]
      by_cases h3 : q ≤ n
      · rw [if_pos ⟨by omega, h3⟩, if_pos h3]
      · rw [if_neg (by omega), if_neg h3]
theorem shr_s {g : Nat → Int32} {j n : Nat} (h : j + 1 ≤ n) : upd (shr g (j + 1) n) (j + 1) (g j) = shr g j n := by
  funext q
  unfold upd shr
  by_cases h1 : q = j + 1
  · rw [if_pos h1, if_pos ⟨by omega, by omega⟩, h1]; rfl
  · rw [if_neg h1]
    by_cases h2 : j + 1 < q ∧ q ≤ n
    · rw [if_pos h2, if_pos ⟨by omega, h2.2⟩]
    · rw [if_neg h2, if_neg (by omega)]
theorem sr_2 {s : st} {i : Nat} {a b c d : Nat → Int32} : sr (sr (sr (sr s 18 i a) 19 i b) 18 i c) 19 i d = sr (sr s 18 i c) 19 i d := by
  funext k q
  unfold sr
  by_cases h1 : k = 19 ∧ q = i
  · simp only [if_pos h1]
  · simp only [if_neg h1]
    by_cases h2 : k = 18 ∧ q = i
    · simp only [if_pos h2]
    · simp only [if_neg h2]
theorem p1 {x : Int32} (h0 : 0 ≤ x.toInt) (h1 : x.toInt ≤ 200000) : (x + 1).toInt = x.toInt + 1 := by
  have hx : ¬ x < 0 := by rw [i_lt, show (0 : Int32).toInt = 0 by decide]; omega
  obtain ⟨j, hj, rfl⟩ := nI_of hx
  rw [nI_toInt hj] at h1
  rw [nI_1, nI_toInt hj, nI_toInt (by omega)]
  omega
theorem q1 {x : Int32} (h0 : 0 ≤ x.toInt) (h1 : x.toInt ≤ 200000) : (x - 1).toInt = x.toInt - 1 := by
  have hx : ¬ x < 0 := by rw [i_lt, show (0 : Int32).toInt = 0 by decide]; omega
  obtain ⟨j, hj, rfl⟩ := nI_of hx
  rw [nI_toInt hj] at h1
  have h2 := pk_sub_toInt (a := j) (b := 1) (by omega) (by omega)
  rw [show nI j - 1 = nI j - nI 1 from rfl, h2, nI_toInt hj]; rfl
section CVX
variable {E : ev} {s : st} {i n : Nat} {a b : Int32}
theorem x_b65 (hE : okE E) (hi : i < E.2.1.2.1) (hn : n < 10) (hs : s 17 i 6 = nI n) {p : Nat} (hp : p ≤ n) {f0 t0 : Nat → Int32} (hf : s 18 i = shr f0 p n) (ht : s 19 i = shr t0 p n) : f_Title_addSpan_b65 (E.1 17 i) a b (nI p) (mu E s) = some ((), mu E (s3 (sr (sr s 18 i (ins f0 p n a)) 19 i (ins t0 p n b)) 17 i 6 (nI (n + 1)))) := by
  unfold f_Title_addSpan_b65
  rw [rR_17_4 hE hi, Option.bind_some, rS_18 hE hi (by omega), Option.bind_some, rR_17_5 hE hi, Option.bind_some, rS_19 hE hi (by omega), Option.bind_some, rI_17_6 hE hi, Option.bind_some, s3_k (show (17 : Nat) ≠ 19 by decide), s3_k (show (17 : Nat) ≠ 18 by decide), hs, nI_1, rP_17_6 hE hi, Option.bind_some, s3_sr s 18, hf, ins_eq hp, s3_sr _ 19, sr_k (show (19 : Nat) ≠ 18 by decide), ht, ins_eq hp]
theorem x_add_b (hE : okE E) (hi : i < E.2.1.2.1) (hn : n < 10) (f0 t0 : Nat → Int32) : ∀ (j fu : Nat) (s : st), j < fu → j ≤ n → s 17 i 6 = nI n → s 18 i = shr f0 j n → s 19 i = shr t0 j n → ∃ p, p ≤ j ∧ (p = 0 ∨ f0 (p - 1) ≤ a) ∧ (∀ q, p ≤ q → q < j → a < f0 q) ∧ f_Title_addSpan_b15 fu (E.1 17 i) a b (nI j) (mu E s) = some ((), mu E (s3 (sr (sr s 18 i (ins f0 p n a)) 19 i (ins t0 p n b)) 17 i 6 (nI (n + 1)))) := by
  intro j
  induction j with
  | zero =>
    intro fu s h1 h2 hs hf ht
    obtain ⟨f, rfl⟩ : ∃ f, fu = f + 1 := ⟨fu - 1, by omega⟩
    refine ⟨0, Nat.le_refl _, Or.inl rfl, fun q _ hq => by omega, ?_⟩
    unfold f_Title_addSpan_b15
    rw [if_pos (show nI 0 ≤ 0 by decide)]
    exact x_b65 hE hi hn hs (Nat.zero_le n) hf ht
  | succ j ih =>
    intro fu s h1 h2 hs hf ht
    obtain ⟨f, rfl⟩ : ∃ f, fu = f + 1 := ⟨fu - 1, by omega⟩
    have e18 : s 18 i j = f0 j := by rw [hf]; unfold shr; rw [if_neg (by omega)]
    have e19 : s 19 i j = t0 j := by rw [ht]; unfold shr; rw [if_neg (by omega)]
    by_cases c : f0 j ≤ a
    · refine ⟨j + 1, Nat.le_refl _, Or.inr (by rw [show j + 1 - 1 = j by omega]; exact c), fun q _ hq => by omega, ?_⟩
      unfold f_Title_addSpan_b15
      rw [if_neg (nI_nle (by omega) (by omega)), rR_17_4 hE hi, Option.bind_some, nI_pred, rA_18 hE hi (by omega), Option.bind_some, e18, if_pos c]
      exact x_b65 hE hi hn hs h2 hf ht
    · obtain ⟨p, p1, p2, p3, p4⟩ := ih f (s3 (s3 s 18 i (j + 1) (f0 j)) 19 i (j + 1) (t0 j)) (by omega) (by omega) (by rw [s3_k (by decide), s3_k (by decide)]; exact hs) (by rw [s3_k (by decide), s3_at, hf, shr_s (by omega)]) (by rw [s3_at, s3_k (by decide), ht, shr_s (by omega)])
      refine ⟨p, by omega, p2, fun q q1 q2 => ?_, ?_⟩
      · by_cases e : q = j
        · rw [e]; exact Int32.not_le.mp c
        · exact p3 q q1 (by omega)
      · unfold f_Title_addSpan_b15
        rw [if_neg (nI_nle (by omega) (by omega)), rR_17_4 hE hi, Option.bind_some, nI_pred, rA_18 hE hi (by omega), Option.bind_some, e18, if_neg c, Option.bind_some, Option.bind_some, rA_18 hE hi (by omega), Option.bind_some, e18, rS_18 hE hi (by omega), Option.bind_some, rR_17_5 hE hi, Option.bind_some, Option.bind_some, rA_19 hE hi (by omega), Option.bind_some, s3_k (show (19 : Nat) ≠ 18 by decide), e19, rS_19 hE hi (by omega), Option.bind_some, pk_m1, p4, s3_sr s 18, s3_sr _ 19, sr_2]
theorem x_addSpan (hE : okE E) (hi : i < E.2.1.2.1) (hn : n < 10) (hs : s 17 i 6 = nI n) : ∃ p, p ≤ n ∧ (p = 0 ∨ s 18 i (p - 1) ≤ a) ∧ (∀ q, p ≤ q → q < n → a < s 18 i q) ∧ f_Title_addSpan (E.1 17 i) a b (mu E s) = some ((), mu E (s3 (sr (sr s 18 i (ins (s 18 i) p n a)) 19 i (ins (s 19 i) p n b)) 17 i 6 (nI (n + 1)))) := by
  obtain ⟨p, p1, p2, p3, p4⟩ := x_add_b (a := a) (b := b) hE hi hn (s 18 i) (s 19 i) n FU s (by unfold FU; omega) (Nat.le_refl _) hs shr_n.symm shr_n.symm
  refine ⟨p, p1, p2, p3, ?_⟩
  unfold f_Title_addSpan
  rw [rI_17_6 hE hi, Option.bind_some, hs, if_pos (show nI n < (10 : Int32) from nI_lt (b := 10) (by omega) (by omega)), Option.bind_some]
  exact p4
theorem sp_ins {f t F T : Nat → Int32} {p : Nat} (h : SpOK n f t F T) (ha0 : 0 ≤ a.toInt) (hab : a.toInt ≤ b.toInt) (hb : b.toInt ≤ 200000) (hp : p ≤ n) (hlo : p = 0 ∨ f (p - 1) ≤ a) (hhi : ∀ q, p ≤ q → q < n → a < f q) (hno : ∀ q, q < n → (t q).toInt + 1 < a.toInt ∨ b.toInt + 1 < (f q).toInt) {F' T' : Nat → Int32} (hF : ∀ k, k < n → F' k = F k ∧ T' k = T k) (hFn : F' n = a ∧ T' n = b) : SpOK (n + 1) (ins f p n a) (ins t p n b) F' T' := by
  have lo : ∀ q, q < p → ins f p n a q = f q ∧ ins t p n b q = t q := fun q hq => by
    unfold ins; rw [if_pos hq, if_pos hq]; exact ⟨rfl, rfl⟩
  have at' : ins f p n a p = a ∧ ins t p n b p = b := by
    unfold ins; rw [if_neg (Nat.lt_irrefl p), if_neg (Nat.lt_irrefl p), if_pos rfl, if_pos rfl]; exact ⟨rfl, rfl⟩
  have up : ∀ q, p ≤ q → q < n → ins f p n a (q + 1) = f q ∧ ins t p n b (q + 1) = t q := fun q h1 h2 => by
    refine ⟨?_, ?_⟩ <;> (unfold ins; rw [if_neg (show ¬ q + 1 < p by omega), if_neg (show ¬ q + 1 = p by omega), if_pos (show q + 1 ≤ n by omega)]; rfl)
  refine ⟨fun j hj => ?_, fun j hj => ?_, fun j hj => ?_, fun k hk => ?_⟩
  · by_cases c1 : j < p
    · rw [(lo j c1).1, (lo j c1).2]; exact h.1 j (by omega)
    · by_cases c2 : j = p
      · rw [c2, at'.1, at'.2]; exact ⟨ha0, hab, hb⟩
      · obtain ⟨q, rfl⟩ : ∃ q, j = q + 1 := ⟨j - 1, by omega⟩
        rw [(up q (by omega) (by omega)).1, (up q (by omega) (by omega)).2]
        exact h.1 q (by omega)
  · by_cases c1 : j + 1 < p
    · rw [(lo j (by omega)).2, (lo (j + 1) c1).1]; exact h.2.1 j (by omega)
    · by_cases c2 : j + 1 = p
      · rw [(lo j (by omega)).2, c2, at'.1]
        rcases hlo with h0 | h0
        · omega
        · rw [show p - 1 = j by omega] at h0
          have := i_le.mp h0
          have hr := h.1 j (by omega)
          rcases hno j (by omega) with h9 | h9
          · exact h9
          · omega
      · by_cases c3 : j = p
        · rw [c3, at'.2, (up p (Nat.le_refl _) (by omega)).1]
          have h8 := i_lt.mp (hhi p (Nat.le_refl _) (by omega))
          have hr := h.1 p (by omega)
          rcases hno p (by omega) with h9 | h9
          · omega
          · exact h9
        · obtain ⟨q, rfl⟩ : ∃ q, j = q + 1 := ⟨j - 1, by omega⟩
          rw [(up q (by omega) (by omega)).2, (up (q + 1) (by omega) (by omega)).1]
          exact h.2.1 q (by omega)
  · by_cases c1 : j < p
    · obtain ⟨k, k1, k2, k3⟩ := h.2.2.1 j (by omega)
      exact ⟨k, by omega, by rw [(lo j c1).1, (hF k k1).1]; exact k2, by rw [(lo j c1).2, (hF k k1).2]; exact k3⟩
    · by_cases c2 : j = p
      · exact ⟨n, by omega, by rw [c2, at'.1, hFn.1], by rw [c2, at'.2, hFn.2]⟩
      · obtain ⟨q, rfl⟩ : ∃ q, j = q + 1 := ⟨j - 1, by omega⟩
        obtain ⟨k, k1, k2, k3⟩ := h.2.2.1 q (by omega)
        have hu := up q (by omega) (by omega)
        exact ⟨k, by omega, by rw [hu.1, (hF k k1).1]; exact k2, by rw [hu.2, (hF k k1).2]; exact k3⟩
  · by_cases c : k = n
    · exact ⟨p, by omega, by rw [at'.1, c, hFn.1], by rw [at'.2, c, hFn.2]⟩
    · obtain ⟨j, j1, j2, j3⟩ := h.2.2.2 k (by omega)
      by_cases c1 : j < p
      · exact ⟨j, by omega, by rw [(lo j c1).1, (hF k (by omega)).1]; exact j2, by rw [(lo j c1).2, (hF k (by omega)).2]; exact j3⟩
      · have hu := up j (by omega) j1
        exact ⟨j + 1, by omega, by rw [hu.1, (hF k (by omega)).1]; exact j2, by rw [hu.2, (hF k (by omega)).2]; exact j3⟩
theorem m_cover_b (hE : okE E) (hi : i < 200) (hn : n ≤ 10) (hs : s 44 0 i = nI n) : ∀ (k fu j : Nat), k < fu → j + k = n → f_Mo_cover_b43 fu (E.1 30 0) (nI i) a b (nI (10 * i + j)) (mu E s) = if an (fun q => !decide (mT s i q + 1 < a) && !decide (b + 1 < mF s i q)) k j = 1 then some (-3, mu E s) else if n = 10 then some (-4, mu E s) else some (nI (n + 1), mu E (s3 (s3 (s3 s 45 0 (10 * i + n) a) 46 0 (10 * i + n) b) 44 0 i (nI (n + 1)))) := by
  intro k
  induction k with
  | zero =>
    intro fu j h1 h2
    obtain ⟨f, rfl⟩ : ∃ f, fu = f + 1 := ⟨fu - 1, by omega⟩
    unfold f_Mo_cover_b43 an
    rw [rR_30_14 hE o1, Option.bind_some, rA_44 hE o1 hi, Option.bind_some, hs, m10, if_pos (nI_le (by omega) (by omega)), if_neg (show ¬ (0 : Int32) = 1 by decide), Option.bind_some, rA_44 hE o1 hi, Option.bind_some, hs]
    by_cases c : n = 10
    · rw [if_pos (show nI n = (10 : Int32) by rw [c]; rfl), if_pos c]
    · rw [if_neg (show ¬ nI n = (10 : Int32) from fun h => c (nI_inj (b := 10) (by omega) (by omega) h)), if_neg c, rR_30_15 hE o1, Option.bind_some, Option.bind_some, rA_44 hE o1 hi, Option.bind_some, hs, m10, rS_45 hE o1 (by omega), Option.bind_some, rR_30_16 hE o1, Option.bind_some, rR_30_14 hE o1, Option.bind_some, rA_44 hE o1 hi, Option.bind_some, s3_k (show (44 : Nat) ≠ 45 by decide), hs, m10, rS_46 hE o1 (by omega), Option.bind_some, rR_30_14 hE o1, Option.bind_some, rA_44 hE o1 hi, Option.bind_some, s3_k (show (44 : Nat) ≠ 46 by decide), s3_k (show (44 : Nat) ≠ 45 by decide), hs, nI_1, rS_44 hE o1 hi, Option.bind_some, rR_30_14 hE o1, Option.bind_some, rA_44 hE o1 hi, Option.bind_some, s3_at, upd_at]
  | succ k ih =>
    intro fu j h1 h2
    obtain ⟨f, rfl⟩ : ∃ f, fu = f + 1 := ⟨fu - 1, by omega⟩
    unfold f_Mo_cover_b43 an
    rw [rR_30_14 hE o1, Option.bind_some, rA_44 hE o1 hi, Option.bind_some, hs, m10, if_neg (nI_ge (by omega) (by omega)), rR_30_16 hE o1, Option.bind_some, rA_46 hE o1 (by omega), Option.bind_some, nI_1, show 10 * i + j + 1 = 10 * i + (j + 1) by omega, ih f (j + 1) (by omega) (by omega)]
    by_cases c1 : s 46 0 (10 * i + j) + 1 < a
    · rw [if_pos c1, if_neg (show ¬ (!decide (s 46 0 (10 * i + j) + 1 < a) && !decide (b + 1 < s 45 0 (10 * i + j))) = true by simp [c1])]
    · rw [if_neg c1, rR_30_15 hE o1, Option.bind_some, rA_45 hE o1 (by omega), Option.bind_some]
      by_cases c2 : b + 1 < s 45 0 (10 * i + j)
      · rw [if_pos c2, if_neg (show ¬ (!decide (s 46 0 (10 * i + j) + 1 < a) && !decide (b + 1 < s 45 0 (10 * i + j))) = true by simp [c2])]
      · rw [if_neg c2, if_pos (show (!decide (s 46 0 (10 * i + j) + 1 < a) && !decide (b + 1 < s 45 0 (10 * i + j))) = true by simp [c1, c2]), if_pos rfl]
end CVX
