/-! MEMORY THAT GROWS: the objects of a row of kinds lo .. hi, at one new index -/
def gE (E : ev) (lo hi ix : Nat) (off : Nat → Nat) (cnt : Nat × Nat × Nat) (d : Nat) : ev := (fun k i => if i = ix ∧ lo ≤ k ∧ k ≤ hi then E.2.2.1 + off k else E.1 k i, cnt, (E.2.2.1 + d, E.2.2.2))
def gS (s : st) (lo hi ix : Nat) (row : Nat → Nat → Int32) : st := fun k i => if i = ix ∧ lo ≤ k ∧ k ≤ hi then row k else s k i
def Gr (E : ev) (lo hi ix : Nat) (off : Nat → Nat) (cnt : Nat × Nat × Nat) (d : Nat) : Prop := (∀ k i, i < lc (gE E lo hi ix off cnt d) k ↔ (i < lc E k ∨ (i = ix ∧ lo ≤ k ∧ k ≤ hi))) ∧ (∀ k, lo ≤ k → k ≤ hi → ¬ ix < lc E k) ∧ (∀ k, lo ≤ k → k ≤ hi → off k < d) ∧ ∀ k k', lo ≤ k → k ≤ hi → lo ≤ k' → k' ≤ hi → off k = off k' → k = k'
section GROW
variable {E : ev} {s : st} {lo hi ix d : Nat} {off : Nat → Nat} {cnt : Nat × Nat × Nat} {row : Nat → Nat → Int32} {k i : Nat}
theorem gS_k (h : k < lo ∨ hi < k) : gS s lo hi ix row k = s k := by
  funext i
  unfold gS
  rw [if_neg (by omega)]
theorem gS_o (h : i ≠ ix) : gS s lo hi ix row k i = s k i := by
  unfold gS
  rw [if_neg (fun q => h q.1)]
theorem gS_n (h1 : lo ≤ k) (h2 : k ≤ hi) : gS s lo hi ix row k ix = row k := by
  unfold gS
  rw [if_pos ⟨rfl, h1, h2⟩]
theorem gE_o (h : Gr E lo hi ix off cnt d) (hk : i < lc E k) : (gE E lo hi ix off cnt d).1 k i = E.1 k i := by
  show (if _ then _ else _) = _
  rw [if_neg]
  rintro ⟨e, h1, h2⟩
  subst e
  exact h.2.1 k h1 h2 hk
theorem gE_n (h1 : lo ≤ k) (h2 : k ≤ hi) : (gE E lo hi ix off cnt d).1 k ix = E.2.2.1 + off k := if_pos ⟨rfl, h1, h2⟩
theorem gE_ok (hE : okE E) (h : Gr E lo hi ix off cnt d) : okE (gE E lo hi ix off cnt d) := by
  constructor
  · intro k i k' i' hk hk' he
    rcases (h.1 k i).mp hk with a | ⟨e, a1, a2⟩
    · rcases (h.1 k' i').mp hk' with b | ⟨e', b1, b2⟩
      · rw [gE_o h a, gE_o h b] at he
        exact hE.1 _ _ _ _ a b he
      · rw [e', gE_o h a, gE_n b1 b2] at he
        have := hE.2 k i a
        omega
    · rcases (h.1 k' i').mp hk' with b | ⟨e', b1, b2⟩
      · rw [e, gE_n a1 a2, gE_o h b] at he
        have := hE.2 k' i' b
        omega
      · rw [e, e', gE_n a1 a2, gE_n b1 b2] at he
        exact ⟨h.2.2.2 _ _ a1 a2 b1 b2 (by omega), by rw [e, e']⟩
  · intro k i hk
    show _ < E.2.2.1 + d
    rcases (h.1 k i).mp hk with a | ⟨e, a1, a2⟩
    · rw [gE_o h a]
      have := hE.2 k i a
      omega
    · rw [e, gE_n a1 a2]
      have := h.2.2.1 k a1 a2
      omega
theorem a123 (hq : k = 1 ∨ k = 2 ∨ k = 3) (h1 : i < lc E k) : i = 0 := by
  rcases hq with rfl | rfl | rfl
  · exact Nat.lt_one_iff.mp h1
  · exact Nat.lt_one_iff.mp h1
  · exact Nat.lt_one_iff.mp h1
theorem grow {Z : mm} {ka : Nat} (hE : okE E) (h : Gr E lo hi ix off cnt d) (h17 : ∀ i, i < lc E 17 → (s 17 i 0).toNatClampNeg < E.2.1.1) (hka : 0 < lc E ka) (hq3 : ka = 1 ∨ ka = 2 ∨ ka = 3) (hlo : 3 < lo) (hZ1 : Z.1 = E.2.2.1 + d) (hZo : ∀ a, (∀ k, lo ≤ k → k ≤ hi → a ≠ E.2.2.1 + off k) → Z.2 a = (mu E s).2 a) (hZn : ∀ k, lo ≤ k → k ≤ hi → Z.2 (E.2.2.1 + off k) = some (ctr (gE E lo hi ix off cnt d) (row k) k ix)) (harr : ∀ k, k = 1 ∨ k = 2 ∨ k = 3 → k ≠ ka → ctr (gE E lo hi ix off cnt d) (s k 0) k 0 = ctr E (s k 0) k 0) {c : va_E} (hc : c = ctr (gE E lo hi ix off cnt d) (s ka 0) ka 0) : mm_up Z (E.1 ka 0) c = mu (gE E lo hi ix off cnt d) (gS s lo hi ix row) := by
  subst hc
  refine mu_ext (gE_ok hE h) hZ1 ?_ ?_
  · intro k i hk
    by_cases hq : k = ka
    · subst hq
      have h1 : i < lc E k := ((h.1 k i).mp hk).resolve_right (by omega)
      have h0 := a123 hq3 h1
      subst h0
      rw [gE_o h h1, up_at, gS_k (Or.inl (by omega))]
    · rcases (h.1 k i).mp hk with a | ⟨e, a1, a2⟩
      · rw [gE_o h a, up_ne (fun q => hq (hE.1 _ _ _ _ a hka q).1), hZo _ (fun k' b1 b2 q => by have := hE.2 k i a; omega), mu_at hE a]
        have e1 : gS s lo hi ix row k i = s k i := by
          unfold gS
          rw [if_neg]
          rintro ⟨e, b1, b2⟩
          subst e
          exact h.2.1 k b1 b2 a
        rw [e1]
        by_cases c : k = 1 ∨ k = 2 ∨ k = 3
        · have h0 := a123 c a
          subst h0
          rw [harr k c hq]
        · rw [ctr_same (fun k i hk => gE_o h hk) k i a (by omega) (by omega) (by omega) (fun e => by subst e; exact h17 i a)]
      · subst e
        have := hE.2 ka 0 hka
        rw [gE_n a1 a2, up_ne (by omega), hZn k a1 a2, gS_n a1 a2]
  · intro a ha
    show _ = E.2.2.2 a
    have n1 : a ≠ E.1 ka 0 := fun e => ha ⟨(ka, 0), (h.1 ka 0).mpr (Or.inl hka), (gE_o h hka).trans e.symm⟩
    rw [up_ne n1, hZo a (fun k b1 b2 e => ha ⟨(k, ix), (h.1 k ix).mpr (Or.inr ⟨rfl, b1, b2⟩), (gE_n b1 b2).trans e.symm⟩)]
    refine mu_ne (fun q => ?_)
    obtain ⟨⟨k, i⟩, b1, b2⟩ := q
    exact ha ⟨(k, i), (h.1 k i).mpr (Or.inl b1), (gE_o h b1).trans b2⟩
end GROW
theorem sR_hit {t ci v : Nat} {M : mm} {a n j : Nat} {f : Nat → Option Nat} {fs : List Value} (h1 : M.2 a = some (.inl (t, n, .inr (.inr (.inr (.inr f)))))) (h2 : M.2 v = some (.inr (ci, fs))) (hj : j < n) (hn : n < 2 ^ 31) : sR t ci v M a (nI j) = some (mm_up M a (.inl (t, n, .inr (.inr (.inr (.inr (va_up f j (some v)))))))) := by
  unfold sR
  rw [h1, h2]
  show (if _ then _ else _) = _
  rw [if_pos ⟨rfl, rfl, ix_nI hj hn⟩, nI_clamp (by omega)]
theorem arr_up {n z : Nat} {A A' : Nat → Nat} (h : ∀ j, j < n → A' j = A j) (hz : A' n = z) : va_up (fun j => if j < n then some (A j) else none) n (some z) = (fun j => if j < n + 1 then some (A' j) else none) := by
  funext j
  unfold va_up
  by_cases h1 : j = n
  · subst h1
    rw [if_pos rfl, if_pos (by omega), hz]
  · rw [if_neg h1]
    show (if j < n then some (A j) else none) = _
    by_cases h2 : j < n
    · rw [if_pos h2, if_pos (by omega), h j h2]
    · rw [if_neg h2, if_neg (by omega)]
theorem arr_eq {n n' : Nat} {A A' : Nat → Nat} (hn : n' = n) (h : ∀ j, j < n → A' j = A j) : (fun j => if j < n' then some (A' j) else none) = (fun j => if j < n then some (A j) else none) := by
  subst hn
  funext j
  by_cases h2 : j < n'
  · rw [if_pos h2, if_pos h2, h j h2]
  · rw [if_neg h2, if_neg h2]
theorem arr_1 {E E' : ev} {r : Nat → Int32} {i : Nat} (hc : E'.2.1.1 = E.2.1.1) (ha : ∀ j, j < E.2.1.1 → E'.1 12 j = E.1 12 j) : ctr E' r 1 i = ctr E r 1 i := by
  show (Sum.inl (2, 20, .inr (.inr (.inr (.inr (fun j => if j < E'.2.1.1 then some (E'.1 12 j) else none))))) : va_E) = Sum.inl (2, 20, .inr (.inr (.inr (.inr (fun j => if j < E.2.1.1 then some (E.1 12 j) else none)))))
  rw [arr_eq hc ha]
theorem arr_2 {E E' : ev} {r : Nat → Int32} {i : Nat} (hc : E'.2.1.2.1 = E.2.1.2.1) (ha : ∀ j, j < E.2.1.2.1 → E'.1 17 j = E.1 17 j) : ctr E' r 2 i = ctr E r 2 i := by
  show (Sum.inl (3, 200, .inr (.inr (.inr (.inr (fun j => if j < E'.2.1.2.1 then some (E'.1 17 j) else none))))) : va_E) = Sum.inl (3, 200, .inr (.inr (.inr (.inr (fun j => if j < E.2.1.2.1 then some (E.1 17 j) else none)))))
  rw [arr_eq hc ha]
theorem arr_3 {E E' : ev} {r : Nat → Int32} {i : Nat} (hc : E'.2.1.2.2 = E.2.1.2.2) (ha : ∀ j, j < E.2.1.2.2 → E'.1 20 j = E.1 20 j) : ctr E' r 3 i = ctr E r 3 i := by
  show (Sum.inl (4, 100, .inr (.inr (.inr (.inr (fun j => if j < E'.2.1.2.2 then some (E'.1 20 j) else none))))) : va_E) = Sum.inl (4, 100, .inr (.inr (.inr (.inr (fun j => if j < E.2.1.2.2 then some (E.1 20 j) else none)))))
  rw [arr_eq hc ha]
theorem gI_eq {ci k a : Nat} {M M' : mm} (h : M.2 a = M'.2 a) : gI ci k M a = gI ci k M' a := by
  unfold gI
  rw [h]
theorem h17_of {E : ev} {s : st} {n : Nat} (hI : Inv E s n) : ∀ i, i < lc E 17 → (s 17 i 0).toNatClampNeg < E.2.1.1 := by
  intro i hi
  obtain ⟨⟨hnp, -⟩, -, -, -, -, ⟨hT, -⟩, -⟩ := id hI
  obtain ⟨⟨h, h1, h2, -⟩, -⟩ := hT i hi
  rw [h2, nI_clamp (by omega)]
  exact h1
theorem ruleInit (M : mm) (v1 v2 v3 v4 : Int32) : f_Rule_init M.1 v1 v2 v3 v4 (mm_ad M (.inr (5, [.int 0, .int 0, .int 0, .int 0, .int 0]))) = some ((), (M.1 + 1, fun a => if a = M.1 then some (.inr (5, [.int v1, .int v2, .int v3, .int v4, .int 0])) else M.2 a)) := by
  have step : ∀ (Z : mm) (fs : List Value) (k : Nat) (v : Value), Z.2 M.1 = some (.inr (5, fs)) → k < fs.length → pF 5 k v Z M.1 = some (mm_up Z M.1 (.inr (5, fs.set k v))) := fun Z fs k v h h' => pF_hit h h'
  unfold f_Rule_init
  rw [kB0, Option.bind_some, step _ [.int 0, .int 0, .int 0, .int 0, .int 0] _ _ ad_at (Nat.le_of_ble_eq_true rfl), Option.bind_some,
    step _ [.int 0, .int 0, .int 0, .int 0, .int 0] _ _ (by rw [up_at]; rfl) (Nat.le_of_ble_eq_true rfl), Option.bind_some,
    step _ [.int v1, .int 0, .int 0, .int 0, .int 0] _ _ (by rw [up_at]; rfl) (Nat.le_of_ble_eq_true rfl), Option.bind_some,
    step _ [.int v1, .int v2, .int 0, .int 0, .int 0] _ _ (by rw [up_at]; rfl) (Nat.le_of_ble_eq_true rfl), Option.bind_some,
    step _ [.int v1, .int v2, .int v3, .int 0, .int 0] _ _ (by rw [up_at]; rfl) (Nat.le_of_ble_eq_true rfl), Option.bind_some]
  refine congrArg some (Prod.ext rfl (Prod.ext rfl (funext fun a => ?_)))
  show va_up (va_up (va_up (va_up (va_up (va_up M.2 M.1 _) M.1 _) M.1 _) M.1 _) M.1 _) M.1 _ a = _
  unfold va_up
  by_cases h1 : a = M.1
  · simp only [if_pos h1]; rfl
  · simp only [if_neg h1]
theorem titleInit (M : mm) (h : Nat) (v : Int32) : f_Title_init M.1 h v (mm_ad M (.inr (6, [.null, .int 0, .int 0, .int 0, .null, .null, .int 0]))) = some ((), (M.1 + 3, fun a => if a = M.1 then some (.inr (6, [.ref h, .int v, .int 1, .int 0, .ref (M.1 + 1), .ref (M.1 + 2), .int 0])) else if a = M.1 + 1 then some (.inl (0, 10, .inl (fun _ => 0))) else if a = M.1 + 2 then some (.inl (0, 10, .inl (fun _ => 0))) else M.2 a)) := by
  have step : ∀ (Z : mm) (fs : List Value) (k : Nat) (v : Value), Z.2 M.1 = some (.inr (6, fs)) → k < fs.length → pF 6 k v Z M.1 = some (mm_up Z M.1 (.inr (6, fs.set k v))) := fun Z fs k v h h' => pF_hit h h'
  unfold f_Title_init
  rw [kB1, Option.bind_some, step _ [.null, .int 0, .int 0, .int 0, .null, .null, .int 0] _ _ ad_at (Nat.le_of_ble_eq_true rfl), Option.bind_some,
    step _ [.null, .int 0, .int 1, .int 0, .null, .null, .int 0] _ _ (by rw [up_at]; rfl) (Nat.le_of_ble_eq_true rfl), Option.bind_some]
  simp only [nA, Option.bind_some]
  rw [step _ [.null, .int 0, .int 1, .int 0, .null, .null, .int 0] _ _ (by rw [ad_ne (by show M.1 ≠ M.1 + 1; omega), up_at]; rfl) (Nat.le_of_ble_eq_true rfl)]
  simp only [Option.bind_some]
  rw [step _ [.null, .int 0, .int 1, .int 0, .ref (M.1 + 1), .null, .int 0] _ _ (by rw [ad_ne (by show M.1 ≠ M.1 + 1 + 1; omega), up_at]; rfl) (Nat.le_of_ble_eq_true rfl), Option.bind_some,
    step _ [.null, .int 0, .int 1, .int 0, .ref (M.1 + 1), .ref (M.1 + 2), .int 0] _ _ (by rw [up_at]; rfl) (Nat.le_of_ble_eq_true rfl), Option.bind_some,
    step _ [.null, .int 0, .int 1, .int 0, .ref (M.1 + 1), .ref (M.1 + 2), .int 0] _ _ (by rw [up_at]; rfl) (Nat.le_of_ble_eq_true rfl), Option.bind_some,
    step _ [.ref h, .int 0, .int 1, .int 0, .ref (M.1 + 1), .ref (M.1 + 2), .int 0] _ _ (by rw [up_at]; rfl) (Nat.le_of_ble_eq_true rfl), Option.bind_some]
  refine congrArg some (Prod.ext rfl (Prod.ext rfl (funext fun a => ?_)))
  show va_up (va_up (va_up (va_up (va_up (va_up (va_up (va_up (va_up (va_up M.2 M.1 _) M.1 _) M.1 _) (M.1 + 1) _) M.1 _) (M.1 + 2) _) M.1 _) M.1 _) M.1 _) M.1 _ a = _
  unfold va_up
  by_cases h1 : a = M.1
  · simp only [if_pos h1]; rfl
  · simp only [if_neg h1]
    by_cases h2 : a = M.1 + 1
    · rw [if_neg (by omega), if_pos h2, if_pos h2]
    · by_cases h3 : a = M.1 + 2
      · rw [if_pos h3, if_neg h2, if_pos h3]
      · rw [if_neg h3, if_neg h2, if_neg h2, if_neg h3]
