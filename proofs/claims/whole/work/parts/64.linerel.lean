def u2 (p : Nat → Nat → Int32) (i j : Nat) (v : Int32) : Nat → Nat → Int32 := fun b => if b = i then upd (p i) j v else p b
def ur (p : Nat → Nat → Int32) (i : Nat) (row : Nat → Int32) : Nat → Nat → Int32 := fun b => if b = i then row else p b
theorem s3_u2 {s : st} {k i j : Nat} {v : Int32} : s3 s k i j v k = u2 (s k) i j v := by
  funext b
  unfold u2
  by_cases h : b = i
  · rw [if_pos h, h, s3_at]
  · rw [if_neg h, s3_b h]
theorem sr_ur {s : st} {k i : Nat} {row : Nat → Int32} : sr s k i row k = ur (s k) i row := by
  funext b
  unfold ur
  by_cases h : b = i
  · rw [if_pos h, h, sr_at]
  · rw [if_neg h, sr_b h]
theorem u2_at {p : Nat → Nat → Int32} {i j : Nat} {v : Int32} : u2 p i j v i = upd (p i) j v := by unfold u2; rw [if_pos rfl]
theorem u2_ne {p : Nat → Nat → Int32} {i j b : Nat} {v : Int32} (h : b ≠ i) : u2 p i j v b = p b := by unfold u2; rw [if_neg h]
theorem ur_at {p : Nat → Nat → Int32} {i : Nat} {row : Nat → Int32} : ur p i row i = row := by unfold ur; rw [if_pos rfl]
theorem ur_ne {p : Nat → Nat → Int32} {i b : Nat} {row : Nat → Int32} (h : b ≠ i) : ur p i row b = p b := by unfold ur; rw [if_neg h]
theorem upd_at {g : Nat → Int32} {j : Nat} {v : Int32} : upd g j v j = v := pk_us
theorem upd_ne {g : Nat → Int32} {j q : Nat} {v : Int32} (h : q ≠ j) : upd g j v q = g q := pk_un h
theorem nI_inj {a b : Nat} (ha : a ≤ 100000) (hb : b ≤ 100000) (h : nI a = nI b) : a = b := (nI_eq (by omega) (by omega)).mp h
/-- no more different numbers below m than m -/
theorem pig : ∀ (m n : Nat) (g : Nat → Nat), (∀ i, i < n → g i < m) → (∀ i j, i < n → j < n → g i = g j → i = j) → n ≤ m
  | 0, n, g, h, _ => by
    rcases Nat.eq_zero_or_pos n with h0 | h0
    · omega
    · exact absurd (h 0 h0) (by omega)
  | m + 1, n, g, h, hi => by
    by_cases he : ∃ i, i < n ∧ g i = m
    · obtain ⟨i0, h0, e0⟩ := he
      have h9 := pig m (n - 1) (fun k => if k = i0 then g (n - 1) else g k) (fun k hk => by
        show (if k = i0 then g (n - 1) else g k) < m
        by_cases hk0 : k = i0
        · rw [if_pos hk0]
          have h1 := h (n - 1) (by omega)
          have h2 : g (n - 1) ≠ m := fun e => by
            have := hi (n - 1) i0 (by omega) h0 (e.trans e0.symm)
            omega
          omega
        · rw [if_neg hk0]
          have h1 := h k (by omega)
          have h2 : g k ≠ m := fun e => hk0 (hi k i0 (by omega) h0 (e.trans e0.symm))
          omega) (fun k k' hk hk' e => by
        have e : (if k = i0 then g (n - 1) else g k) = (if k' = i0 then g (n - 1) else g k') := e
        by_cases hk0 : k = i0
        · by_cases hk1 : k' = i0
          · omega
          · rw [if_pos hk0, if_neg hk1] at e
            have := hi (n - 1) k' (by omega) (by omega) e
            omega
        · by_cases hk1 : k' = i0
          · rw [if_neg hk0, if_pos hk1] at e
            have := hi k (n - 1) (by omega) (by omega) e
            omega
          · rw [if_neg hk0, if_neg hk1] at e
            exact hi k k' (by omega) (by omega) e)
      omega
    · have h9 := pig m n g (fun i hn => by
        have h1 := h i hn
        have h2 : g i ≠ m := fun e => he ⟨i, hn, e⟩
        omega) hi
      omega
theorem line_room {a : Nat → Int32} {n : Nat} {r0 : Nat} (hr : r0 < 100) (hb : ∀ j, j < n → ∃ r, r < 100 ∧ a j = nI r) (hd : ∀ j j', j < n → j' < n → a j = a j' → j = j') (hno : ∀ j, j < n → a j ≠ nI r0) : n < 100 := by
  have h := pig 100 (n + 1) (fun j => if j = n then r0 else (a j).toNatClampNeg) (fun j hj => by
    show (if j = n then r0 else (a j).toNatClampNeg) < 100
    by_cases h : j = n
    · rw [if_pos h]; exact hr
    · rw [if_neg h]
      obtain ⟨r, h1, h2⟩ := hb j (by omega)
      rw [h2, nI_clamp (by omega)]; exact h1) (fun j j' hj hj' e => by
    have e : (if j = n then r0 else (a j).toNatClampNeg) = (if j' = n then r0 else (a j').toNatClampNeg) := e
    by_cases h : j = n
    · by_cases h' : j' = n
      · omega
      · rw [if_pos h, if_neg h'] at e
        obtain ⟨r, h1, h2⟩ := hb j' (by omega)
        rw [h2, nI_clamp (by omega)] at e
        exact absurd (by rw [h2, e]) (hno j' (by omega))
    · by_cases h' : j' = n
      · rw [if_neg h, if_pos h'] at e
        obtain ⟨r, h1, h2⟩ := hb j (by omega)
        rw [h2, nI_clamp (by omega)] at e
        exact absurd (by rw [h2, e]) (hno j (by omega))
      · rw [if_neg h, if_neg h'] at e
        obtain ⟨r, h1, h2⟩ := hb j (by omega)
        obtain ⟨r', h1', h2'⟩ := hb j' (by omega)
        rw [h2, h2', nI_clamp (by omega), nI_clamp (by omega)] at e
        exact hd j j' (by omega) (by omega) (by rw [h2, h2', e]))
  omega
section LR
variable {np i n m p r0 : Nat} {l a l' a' : Nat → Nat → Int32} {mc ma : Nat → Int32}
theorem iLn_app (h : iLn np l a mc ma) (hnp : np ≤ 20) (hi : i < np) (hs : l i 1 = nI n) (hn : n < 100) (hr : r0 < 100) (hno : ∀ j, j < n → a i j ≠ nI r0) : iLn np (u2 l i 1 (nI (n + 1))) (u2 a i n (nI r0)) (upd mc i (nI (n + 1))) (upd ma (100 * i + n) (nI r0)) := by
  obtain ⟨h1, h2⟩ := h
  refine ⟨fun q hq => ?_, fun q hq hq' => ?_⟩
  · by_cases hqi : q = i
    · subst hqi
      obtain ⟨n', c1, c2, c3, c4, c5⟩ := h1 q hq
      have hnn : n' = n := nI_inj (by omega) (by omega) (c2.symm.trans hs)
      subst hnn
      refine ⟨n' + 1, by omega, by rw [u2_at, upd_at], upd_at, fun j hj => ?_, fun j j' hj hj' e => ?_⟩
      · rw [u2_at]
        by_cases hjn : j = n'
        · subst hjn
          rw [upd_at, upd_at]
          exact ⟨rfl, r0, hr, rfl⟩
        · rw [upd_ne hjn, upd_ne (by omega)]
          exact c4 j (by omega)
      · rw [u2_at] at e
        by_cases hjn : j = n'
        · by_cases hjn' : j' = n'
          · omega
          · rw [hjn, upd_at, upd_ne hjn'] at e
            exact absurd e.symm (hno j' (by omega))
        · by_cases hjn' : j' = n'
          · rw [hjn', upd_at, upd_ne hjn] at e
            exact absurd e (hno j (by omega))
          · rw [upd_ne hjn, upd_ne hjn'] at e
            exact c5 j j' (by omega) (by omega) e
    · obtain ⟨n', c1, c2, c3, c4, c5⟩ := h1 q hq
      refine ⟨n', c1, by rw [u2_ne hqi]; exact c2, by rw [upd_ne hqi]; exact c3, fun j hj => ?_, fun j j' hj hj' e => ?_⟩
      · rw [u2_ne hqi, upd_ne (by omega)]
        exact c4 j hj
      · rw [u2_ne hqi] at e
        exact c5 j j' hj hj' e
  · rw [upd_ne (by omega)]
    exact h2 q hq hq'
theorem iLn_del (h : iLn np l a mc ma) (hnp : np ≤ 20) (hi : i < np) (hs : l i 1 = nI (m + 1)) (hm : m < 100) (hp : p ≤ m) : iLn np (u2 l i 1 (nI m)) (ur a i (shl (a i) p m)) (upd mc i (nI m)) (shl ma (100 * i + p) (100 * i + m)) := by
  obtain ⟨h1, h2⟩ := h
  refine ⟨fun q hq => ?_, fun q hq hq' => ?_⟩
  · by_cases hqi : q = i
    · subst hqi
      obtain ⟨n', c1, c2, c3, c4, c5⟩ := h1 q hq
      have hnn : n' = m + 1 := nI_inj (by omega) (by omega) (c2.symm.trans hs)
      subst hnn
      refine ⟨m, by omega, by rw [u2_at, upd_at], upd_at, fun j hj => ?_, fun j j' hj hj' e => ?_⟩
      · rw [ur_at]
        unfold shl
        by_cases hjp : p ≤ j
        · rw [if_pos ⟨hjp, hj⟩, if_pos ⟨by omega, by omega⟩, show 100 * q + j + 1 = 100 * q + (j + 1) by omega]
          exact c4 (j + 1) (by omega)
        · rw [if_neg (by omega), if_neg (by omega)]
          exact c4 j (by omega)
      · rw [ur_at] at e
        unfold shl at e
        by_cases hjp : p ≤ j
        · by_cases hjp' : p ≤ j'
          · rw [if_pos ⟨hjp, hj⟩, if_pos ⟨hjp', hj'⟩] at e
            have := c5 (j + 1) (j' + 1) (by omega) (by omega) e
            omega
          · rw [if_pos ⟨hjp, hj⟩, if_neg (by omega)] at e
            have := c5 (j + 1) j' (by omega) (by omega) e
            omega
        · by_cases hjp' : p ≤ j'
          · rw [if_neg (by omega), if_pos ⟨hjp', hj'⟩] at e
            have := c5 j (j' + 1) (by omega) (by omega) e
            omega
          · rw [if_neg (by omega), if_neg (by omega)] at e
            exact c5 j j' (by omega) (by omega) e
    · obtain ⟨n', c1, c2, c3, c4, c5⟩ := h1 q hq
      refine ⟨n', c1, by rw [u2_ne hqi]; exact c2, by rw [upd_ne hqi]; exact c3, fun j hj => ?_, fun j j' hj hj' e => ?_⟩
      · rw [ur_ne hqi]
        unfold shl
        rw [if_neg (by omega)]
        exact c4 j hj
      · rw [ur_ne hqi] at e
        exact c5 j j' hj hj' e
  · rw [upd_ne (by omega)]
    exact h2 q hq hq'
theorem iDj_app (h : iDj np l a l' a') (hs : l i 1 = nI n) (hn : n < 100) (hno : ∀ n', l' i 1 = nI n' → n' ≤ 100 → ∀ j', j' < n' → a' i j' ≠ nI r0) : iDj np (u2 l i 1 (nI (n + 1))) (u2 a i n (nI r0)) l' a' := by
  intro q hq k k' e1 e2 b1 b2 j j' hj hj'
  by_cases hqi : q = i
  · subst hqi
    rw [u2_at, upd_at] at e1
    have hk : k = n + 1 := nI_inj (by omega) (by omega) e1.symm
    rw [u2_at]
    by_cases hjn : j = n
    · rw [hjn, upd_at]
      exact fun e => hno k' e2 b2 j' hj' e.symm
    · rw [upd_ne hjn]
      exact h q hq n k' hs e2 (by omega) b2 j j' (by omega) hj'
  · rw [u2_ne hqi] at e1
    rw [u2_ne hqi]
    exact h q hq k k' e1 e2 b1 b2 j j' hj hj'
theorem iDj_swap (h : iDj np l a l' a') : iDj np l' a' l a := fun q hq k k' e1 e2 b1 b2 j j' hj hj' e => h q hq k' k e2 e1 b2 b1 j' j hj' hj e.symm
theorem iDj_del (h : iDj np l a l' a') (hs : l i 1 = nI (m + 1)) (hm : m < 100) (hp : p ≤ m) : iDj np (u2 l i 1 (nI m)) (ur a i (shl (a i) p m)) l' a' := by
  intro q hq k k' e1 e2 b1 b2 j j' hj hj'
  by_cases hqi : q = i
  · subst hqi
    rw [u2_at, upd_at] at e1
    have hk : k = m := nI_inj (by omega) (by omega) e1.symm
    rw [ur_at]
    unfold shl
    by_cases hjp : p ≤ j ∧ j < m
    · rw [if_pos hjp]
      exact h q hq (m + 1) k' hs e2 (by omega) b2 (j + 1) j' (by omega) hj'
    · rw [if_neg hjp]
      exact h q hq (m + 1) k' hs e2 (by omega) b2 j j' (by omega) hj'
  · rw [u2_ne hqi] at e1
    rw [ur_ne hqi]
    exact h q hq k k' e1 e2 b1 b2 j j' hj hj'
end LR
/-- packs and lines: the class's in s, the Model's in t -/
def RL (E : ev) (s t : st) : Prop := iPk E.2.1.1 (s 12) (t 32 0) (t 33 0) (t 34 0) ∧ iLn E.2.1.1 (s 13) (s 15) (t 35 0) (t 36 0) ∧ iLn E.2.1.1 (s 14) (s 16) (t 37 0) (t 38 0) ∧ iDj E.2.1.1 (s 13) (s 15) (s 14) (s 16)
def Only (K : List Nat) (s s' : st) : Prop := ∀ a, a ∉ K → s' a = s a
theorem Only_rf {K : List Nat} {s : st} : Only K s s := fun _ _ => rfl
theorem Only_tr {K : List Nat} {s s' s'' : st} (h : Only K s s') (h' : Only K s' s'') : Only K s s'' := fun a ha => (h' a ha).trans (h a ha)
theorem Only_s3 {K : List Nat} {s : st} {k i j : Nat} {v : Int32} (h : k ∈ K) : Only K s (s3 s k i j v) := fun a ha => s3_k (fun e => ha (by rw [e]; exact h))
theorem Only_sr {K : List Nat} {s : st} {k i : Nat} {row : Nat → Int32} (h : k ∈ K) : Only K s (sr s k i row) := fun a ha => sr_k (fun e => ha (by rw [e]; exact h))
