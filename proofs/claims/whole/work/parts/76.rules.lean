/-- what holds between calls, the class's rows in s, the Model's in t -/
def IR (E : ev) (s t : st) (n : Nat) : Prop := iCn E (s 0 0) (t 30 0) ∧ iPk E.2.1.1 (s 12) (t 32 0) (t 33 0) (t 34 0) ∧ iLn E.2.1.1 (s 13) (s 15) (t 35 0) (t 36 0) ∧ iLn E.2.1.1 (s 14) (s 16) (t 37 0) (t 38 0) ∧ iDj E.2.1.1 (s 13) (s 15) (s 14) (s 16) ∧ iTi E.2.1.1 E.2.1.2.1 (s 17) (t 40 0) (t 41 0) (t 42 0) (t 43 0) ∧ iSp E.2.1.2.1 (s 17) (s 18) (s 19) (t 44 0) (t 45 0) (t 46 0) ∧ iRu E.2.1.2.2 (s 20) (t 48 0) (t 49 0) (t 50 0) (t 51 0) (t 52 0) ∧ iRd (s 4 0) (t 54 0) ∧ iUs n (s 5 0) (t 30 0) (s 6 0) (s 7 0) (s 8 0) (t 56 0) (t 57 0) (t 58 0) ∧ iNo (s 9 0) (t 30 0) (s 10 0) (s 11 0) (t 60 0) (t 61 0)
section IRS
variable {E : ev} {s t : st} {n : Nat}
theorem IR_t {t2 : st} (h : IR E s t n) (e : ∀ a, 30 ≤ a → t2 a = t a) : IR E s t2 n := by
  unfold IR at *
  rw [e 30 (by decide), e 32 (by decide), e 33 (by decide), e 34 (by decide), e 35 (by decide), e 36 (by decide), e 37 (by decide), e 38 (by decide), e 40 (by decide), e 41 (by decide), e 42 (by decide), e 43 (by decide), e 44 (by decide), e 45 (by decide), e 46 (by decide), e 48 (by decide), e 49 (by decide), e 50 (by decide), e 51 (by decide), e 52 (by decide), e 54 (by decide), e 56 (by decide), e 57 (by decide), e 58 (by decide), e 60 (by decide), e 61 (by decide)]
  exact h
theorem IR_th (h : IR E s t n) : IR E s (th t) n := by
  obtain ⟨a, b, c, d, e, f, g, i, j, k, l⟩ := h
  unfold IR
  rw [th_k (show (32 : Nat) ≠ 30 by decide), th_k (show (33 : Nat) ≠ 30 by decide), th_k (show (34 : Nat) ≠ 30 by decide), th_k (show (35 : Nat) ≠ 30 by decide), th_k (show (36 : Nat) ≠ 30 by decide), th_k (show (37 : Nat) ≠ 30 by decide), th_k (show (38 : Nat) ≠ 30 by decide), th_k (show (40 : Nat) ≠ 30 by decide), th_k (show (41 : Nat) ≠ 30 by decide), th_k (show (42 : Nat) ≠ 30 by decide), th_k (show (43 : Nat) ≠ 30 by decide), th_k (show (44 : Nat) ≠ 30 by decide), th_k (show (45 : Nat) ≠ 30 by decide), th_k (show (46 : Nat) ≠ 30 by decide), th_k (show (48 : Nat) ≠ 30 by decide), th_k (show (49 : Nat) ≠ 30 by decide), th_k (show (50 : Nat) ≠ 30 by decide), th_k (show (51 : Nat) ≠ 30 by decide), th_k (show (52 : Nat) ≠ 30 by decide), th_k (show (54 : Nat) ≠ 30 by decide), th_k (show (56 : Nat) ≠ 30 by decide), th_k (show (57 : Nat) ≠ 30 by decide), th_k (show (58 : Nat) ≠ 30 by decide), th_k (show (60 : Nat) ≠ 30 by decide), th_k (show (61 : Nat) ≠ 30 by decide)]
  unfold th
  rw [s3_at]
  exact ⟨a, b, c, d, e, f, g, i, j, k, l⟩
theorem IR_of (h : Inv E s n) : IR E s s n := h
theorem Inv_IR (h : IR E s t n) (e : ∀ a, a ≤ 20 → t a = s a) : Inv E t n := by
  unfold Inv
  rw [e 0 (by decide), e 12 (by decide), e 13 (by decide), e 14 (by decide), e 15 (by decide), e 16 (by decide), e 17 (by decide), e 18 (by decide), e 19 (by decide), e 20 (by decide), e 4 (by decide), e 5 (by decide), e 6 (by decide), e 7 (by decide), e 8 (by decide), e 9 (by decide), e 10 (by decide), e 11 (by decide)]
  exact h
end IRS
def fitv (kd vl cl nm on hd : Int32) : Int32 := if kd = 0 then (if cl = vl then 1 else 0) else if kd = 1 then (if vl ≤ nm then 0 else 1) else if kd = 2 then (if ((vl >>> ((on - on / 7 * 7) &&& 31)) &&& 1) = 1 then 1 else 0) else (if hd < vl then 0 else 1)
/-- the first rule that says something: 1 it fails, 2 allows, 3 refuses; 0 none -/
def rs (c : Nat → Nat) : Nat → Nat → Nat × Nat
  | 0, _ => (0, 0)
  | k + 1, j => if c j = 0 then rs c k (j + 1) else (c j, j)
theorem rs_congr {c c' : Nat → Nat} : ∀ (k j : Nat), (∀ q, j ≤ q → q < j + k → c q = c' q) → rs c k j = rs c' k j
  | 0, _, _ => rfl
  | k + 1, j, h => by
    unfold rs
    rw [h j (Nat.le_refl _) (by omega), rs_congr k (j + 1) (fun q h1 h2 => h q (by omega) (by omega))]
theorem rs_lt {c : Nat → Nat} : ∀ (k j : Nat), (rs c k j).1 ≠ 0 → (rs c k j).2 < j + k
  | 0, _, h => absurd rfl h
  | k + 1, j, h => by
    unfold rs at *
    by_cases e : c j = 0
    · rw [if_pos e] at h ⊢
      have := rs_lt k (j + 1) h
      omega
    · rw [if_neg e] at h ⊢
      show j < _
      omega
def cod (hm ho fl fv ds : Int32) : Nat := if ho = hm then (if fl = 0 then (if fv = 0 then 0 else if ds = 1 then 2 else 3) else 1) else 0
section RUL
variable {E : ev} {s t : st} {n i r0 : Nat} {on hd : Int32}
theorem x_fits (hE : okE E) {q : Nat} (hq : q < E.2.1.2.2) {cl nm : Int32} (hk : s 20 q 1 = 0 ∨ s 20 q 1 = 1 ∨ s 20 q 1 = 2 ∨ s 20 q 1 = 3) : f_Rule_fits (E.1 20 q) cl nm on hd (mu E s) = some (fitv (s 20 q 1) (s 20 q 3) cl nm on hd, mu E s) := by
  unfold f_Rule_fits fitv
  rw [rI_20_1 hE hq, Option.bind_some, rI_20_3 hE hq]
  simp only [Option.bind_some, kB0, kB1]
  by_cases c0 : s 20 q 1 = 0
  · simp only [if_pos c0]; split <;> rfl
  · simp only [if_neg c0]
    by_cases c1 : s 20 q 1 = 1
    · simp only [if_pos c1]; split <;> rfl
    · simp only [if_neg c1]
      by_cases c2 : s 20 q 1 = 2
      · simp only [if_pos c2]; split <;> rfl
      · simp only [if_neg c2]
        have c3 : s 20 q 1 = 3 := by
          rcases hk with h | h | h | h
          · exact absurd h c0
          · exact absurd h c1
          · exact absurd h c2
          · exact h
        simp only [if_pos c3]; split <;> rfl
/-- what the class does when a rule says something -/
noncomputable def finX (E : ev) (s : st) (p : Nat × Nat) : Option (Int32 × mm) := if p.1 = 0 then some (0, mu E s) else if p.1 = 1 then (pF 0 9 (.int (nI p.2)) (mu E s) (E.1 0 0)).bind fun M22 => (gR 0 8 M22 (E.1 0 0)).bind fun x23 => (kO 3 M22 x23).bind fun _ => (f_Notices_append x23 1 (nI p.2) M22).bind fun x => some (0, x.2) else if p.1 = 2 then some (1, mu E s) else some (0, mu E s)
noncomputable def finM (E : ev) (s : st) (p : Nat × Nat) : Option (Int32 × mm) := if p.1 = 0 then some (0, mu E s) else if p.1 = 1 then (pF 1 23 (.int (nI p.2)) (mu E s) (E.1 30 0)).bind fun M20 => (kO 1 M20 (E.1 30 0)).bind fun _ => (f_Mo_tell (E.1 30 0) 1 (nI p.2) M20).bind fun x => some (0, x.2) else if p.1 = 2 then some (1, mu E s) else some (0, mu E s)
theorem x_rules (hE : okE E) (hnr : E.2.1.2.2 ≤ 100) (hc : s 0 0 5 = nI E.2.1.2.2) (hi : i < E.2.1.2.1) {h : Nat} (hh : h < E.2.1.1) (hnp : E.2.1.1 ≤ 20) (h0 : s 17 i 0 = nI h) (hp : s 12 h 0 = nI h) (hr : r0 < 100) (hK : ∀ q, q < E.2.1.2.2 → s 20 q 1 = 0 ∨ s 20 q 1 = 1 ∨ s 20 q 1 = 2 ∨ s 20 q 1 = 3) : ∀ (k fu j : Nat), k < fu → j + k = E.2.1.2.2 → f_X_rulesAllow_b22 fu (E.1 0 0) (nI r0) (E.1 17 i) on hd (nI j) (mu E s) = finX E s (rs (fun q => cod (nI h) (s 20 q 0) (s 20 q 4) (fitv (s 20 q 1) (s 20 q 3) (s 4 0 r0) (s 17 i 1) on hd) (s 20 q 2)) k j) := by
  intro k
  induction k with
  | zero =>
    intro fu j h1 h2
    obtain ⟨f, rfl⟩ : ∃ f, fu = f + 1 := ⟨fu - 1, by omega⟩
    unfold f_X_rulesAllow_b22 rs finX
    rw [rI_0_5 hE o1, Option.bind_some, hc, if_pos (nI_le (by omega) (by omega))]; rfl
  | succ k ih =>
    intro fu j h1 h2
    obtain ⟨f, rfl⟩ : ∃ f, fu = f + 1 := ⟨fu - 1, by omega⟩
    have hj : j < E.2.1.2.2 := by omega
    unfold f_X_rulesAllow_b22 rs
    rw [rI_0_5 hE o1, Option.bind_some, hc, if_neg (nI_ge (by omega) (by omega)), rR_0_4 hE o1, Option.bind_some, rQ_3 hE o1 hj (by omega), Option.bind_some, rI_20_0 hE hj, Option.bind_some, rR_17_0 hE hi, Option.bind_some, h0, nI_clamp (by omega), rI_12_0 hE hh, Option.bind_some, hp, nI_1]
    by_cases c1 : s 20 j 0 = nI h
    · rw [if_pos c1, rI_20_4 hE hj, Option.bind_some]
      by_cases c2 : s 20 j 4 = 0
      · rw [if_pos c2, rR_0_6 hE o1, Option.bind_some, rA_4 hE o1 hr, Option.bind_some, rI_17_1 hE hi, Option.bind_some, rO_20 hE hj, Option.bind_some, x_fits hE hj (hK j hj)]
        show (if fitv _ _ _ _ _ _ = 0 then _ else _) = _
        by_cases c3 : fitv (s 20 j 1) (s 20 j 3) (s 4 0 r0) (s 17 i 1) on hd = 0
        · rw [if_pos c3, ih f (j + 1) (by omega) (by omega), if_pos (by unfold cod; rw [if_pos c1, if_pos c2, if_pos c3])]
        · rw [if_neg c3, rI_20_2 hE hj, Option.bind_some]
          by_cases c4 : s 20 j 2 = 1
          · rw [if_pos c4, show cod (nI h) (s 20 j 0) (s 20 j 4) (fitv (s 20 j 1) (s 20 j 3) (s 4 0 r0) (s 17 i 1) on hd) (s 20 j 2) = 2 by unfold cod; rw [if_pos c1, if_pos c2, if_neg c3, if_pos c4]]; rfl
          · rw [if_neg c4, show cod (nI h) (s 20 j 0) (s 20 j 4) (fitv (s 20 j 1) (s 20 j 3) (s 4 0 r0) (s 17 i 1) on hd) (s 20 j 2) = 3 by unfold cod; rw [if_pos c1, if_pos c2, if_neg c3, if_neg c4]]; rfl
      · rw [if_neg c2, show cod (nI h) (s 20 j 0) (s 20 j 4) (fitv (s 20 j 1) (s 20 j 3) (s 4 0 r0) (s 17 i 1) on hd) (s 20 j 2) = 1 by unfold cod; rw [if_pos c1, if_neg c2]]; rfl
    · rw [if_neg c1, ih f (j + 1) (by omega) (by omega), if_pos (by unfold cod; rw [if_neg c1])]
theorem m_fits (hE : okE E) {q u : Nat} (hq : q < 100) (hi : i < 200) (hr : r0 < 100) (hu : t 30 0 25 = nI u) (hu2 : u ≤ 512) : f_Mo_fits (E.1 30 0) (nI q) (nI r0) (nI i) on (mu E t) = some (fitv (t 49 0 q) (t 51 0 q) (t 54 0 r0) (t 41 0 i) on (ct1 (fun x => decide (t 56 0 x = nI r0) && decide (t 58 0 x = on / 30)) u 0 0), mu E t) := by
  have hct : f_Mo_usagesOf (E.1 30 0) (nI r0) (on / 30) (mu E t) = some (ct1 (fun x => decide (t 56 0 x = nI r0) && decide (t 58 0 x = on / 30)) u 0 0, mu E t) := by
    unfold f_Mo_usagesOf
    exact m_ofReaderIn hE hu hu2 u FU 0 0 (by unfold FU; omega) (by omega)
  unfold f_Mo_fits fitv
  simp only [rR_30_19 hE o1, rA_49 hE o1 hq, rR_30_24 hE o1, rA_54 hE o1 hr, rR_30_21 hE o1, rA_51 hE o1 hq, rR_30_11 hE o1, rA_41 hE o1 hi, rO_30 hE o1, hct, Option.bind_some, kB0, kB1]
  by_cases c0 : t 49 0 q = 0
  · simp only [if_pos c0]; split <;> rfl
  · simp only [if_neg c0]
    by_cases c1 : t 49 0 q = 1
    · simp only [if_pos c1]; split <;> rfl
    · simp only [if_neg c1]
      by_cases c2 : t 49 0 q = 2
      · simp only [if_pos c2]; split <;> rfl
      · simp only [if_neg c2]; split <;> rfl
theorem m_rules (hE : okE E) {N u : Nat} (hN : N ≤ 100) (hc : t 30 0 17 = nI N) (hi : i < 200) (hr : r0 < 100) (hu : t 30 0 25 = nI u) (hu2 : u ≤ 512) : ∀ (k fu j : Nat), k < fu → j + k = N → f_Mo_allows_b8 fu (E.1 30 0) (nI r0) (nI i) on (nI j) (mu E t) = finM E t (rs (fun q => cod (t 40 0 i) (t 48 0 q) (t 52 0 q) (fitv (t 49 0 q) (t 51 0 q) (t 54 0 r0) (t 41 0 i) on (ct1 (fun x => decide (t 56 0 x = nI r0) && decide (t 58 0 x = on / 30)) u 0 0)) (t 50 0 q)) k j) := by
  intro k
  induction k with
  | zero =>
    intro fu j h1 h2
    obtain ⟨f, rfl⟩ : ∃ f, fu = f + 1 := ⟨fu - 1, by omega⟩
    unfold f_Mo_allows_b8 rs finM
    rw [rI_30_17 hE o1, Option.bind_some, hc, if_pos (nI_le (by omega) (by omega))]; rfl
  | succ k ih =>
    intro fu j h1 h2
    obtain ⟨f, rfl⟩ : ∃ f, fu = f + 1 := ⟨fu - 1, by omega⟩
    have hj : j < 100 := by omega
    unfold f_Mo_allows_b8 rs
    rw [rI_30_17 hE o1, Option.bind_some, hc, if_neg (nI_ge (by omega) (by omega)), rR_30_18 hE o1, Option.bind_some, rA_48 hE o1 hj, Option.bind_some, rR_30_10 hE o1, Option.bind_some, rA_40 hE o1 hi, Option.bind_some, nI_1]
    by_cases c1 : t 48 0 j = t 40 0 i
    · rw [if_pos c1, rR_30_22 hE o1, Option.bind_some, rA_52 hE o1 hj, Option.bind_some]
      by_cases c2 : t 52 0 j = 0
      · rw [if_pos c2, rO_30 hE o1, Option.bind_some, m_fits hE hj hi hr hu hu2]
        show (if fitv _ _ _ _ _ _ = 0 then _ else _) = _
        by_cases c3 : fitv (t 49 0 j) (t 51 0 j) (t 54 0 r0) (t 41 0 i) on (ct1 (fun x => decide (t 56 0 x = nI r0) && decide (t 58 0 x = on / 30)) u 0 0) = 0
        · rw [if_pos c3, ih f (j + 1) (by omega) (by omega), if_pos (by unfold cod; rw [if_pos c1, if_pos c2, if_pos c3])]
        · rw [if_neg c3, rR_30_20 hE o1, Option.bind_some, rA_50 hE o1 hj, Option.bind_some]
          by_cases c4 : t 50 0 j = 1
          · rw [if_pos c4, show cod (t 40 0 i) (t 48 0 j) (t 52 0 j) (fitv (t 49 0 j) (t 51 0 j) (t 54 0 r0) (t 41 0 i) on (ct1 (fun x => decide (t 56 0 x = nI r0) && decide (t 58 0 x = on / 30)) u 0 0)) (t 50 0 j) = 2 by unfold cod; rw [if_pos c1, if_pos c2, if_neg c3, if_pos c4]]; rfl
          · rw [if_neg c4, show cod (t 40 0 i) (t 48 0 j) (t 52 0 j) (fitv (t 49 0 j) (t 51 0 j) (t 54 0 r0) (t 41 0 i) on (ct1 (fun x => decide (t 56 0 x = nI r0) && decide (t 58 0 x = on / 30)) u 0 0)) (t 50 0 j) = 3 by unfold cod; rw [if_pos c1, if_pos c2, if_neg c3, if_neg c4]]; rfl
      · rw [if_neg c2, show cod (t 40 0 i) (t 48 0 j) (t 52 0 j) (fitv (t 49 0 j) (t 51 0 j) (t 54 0 r0) (t 41 0 i) on (ct1 (fun x => decide (t 56 0 x = nI r0) && decide (t 58 0 x = on / 30)) u 0 0)) (t 50 0 j) = 1 by unfold cod; rw [if_pos c1, if_neg c2]]; rfl
    · rw [if_neg c1, ih f (j + 1) (by omega) (by omega), if_pos (by unfold cod; rw [if_neg c1])]
end RUL
