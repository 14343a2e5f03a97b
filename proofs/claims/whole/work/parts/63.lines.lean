theorem if_or {a b : Prop} [Decidable a] [Decidable b] {α : Type} {X Y : α} : (if a then X else if b then X else Y) = if a ∨ b then X else Y := by
  by_cases ha : a
  · rw [if_pos ha, if_pos (Or.inl ha)]
  · by_cases hb : b
    · rw [if_neg ha, if_pos hb, if_pos (Or.inr hb)]
    · rw [if_neg ha, if_neg hb, if_neg (fun h => h.elim ha hb)]
def sr (s : st) (k i : Nat) (row : Nat → Int32) : st := fun a b => if a = k ∧ b = i then row else s a b
theorem s3_sr (s : st) (k i j : Nat) (v : Int32) : s3 s k i j v = sr s k i (upd (s k i) j v) := by
  funext a b
  unfold sr
  by_cases h : a = k ∧ b = i
  · rw [if_pos h, h.1, h.2, s3_at]
  · rw [if_neg h, s3_ne h]
theorem sr_at {s : st} {k i : Nat} {row : Nat → Int32} : sr s k i row k i = row := by
  unfold sr; rw [if_pos ⟨rfl, rfl⟩]
theorem sr_k {s : st} {k i : Nat} {row : Nat → Int32} {a : Nat} (h : a ≠ k) : sr s k i row a = s a := by
  funext b
  unfold sr; rw [if_neg (fun q => h q.1)]
theorem sr_b {s : st} {k i : Nat} {row : Nat → Int32} {b : Nat} (h : b ≠ i) : sr s k i row k b = s k b := by
  unfold sr; rw [if_neg (fun q => h q.2)]
theorem sr_sr {s : st} {k i : Nat} {r1 r2 : Nat → Int32} : sr (sr s k i r1) k i r2 = sr s k i r2 := by
  funext a b
  unfold sr
  by_cases h : a = k ∧ b = i
  · rw [if_pos h, if_pos h]
  · rw [if_neg h, if_neg h, if_neg h]
theorem sr_self {s : st} {k i : Nat} : sr s k i (s k i) = s := by
  funext a b
  unfold sr
  by_cases h : a = k ∧ b = i
  · rw [if_pos h, h.1, h.2]
  · rw [if_neg h]
/-- the first place of a value -/
def fnd (g : Nat → Int32) (r : Int32) : Nat → Nat → Int32
  | 0, _ => -1
  | k + 1, j => if g j = r then nI j else fnd g r k (j + 1)
theorem fnd_congr {g g' : Nat → Int32} {r : Int32} : ∀ (k j : Nat), (∀ q, j ≤ q → q < j + k → g q = g' q) → fnd g r k j = fnd g' r k j
  | 0, _, _ => rfl
  | k + 1, j, h => by
    unfold fnd
    rw [h j (Nat.le_refl _) (by omega), fnd_congr k (j + 1) (fun q h1 h2 => h q (by omega) (by omega))]
theorem fnd_spec {g : Nat → Int32} {r : Int32} : ∀ (k j : Nat), (fnd g r k j = -1 ∧ ∀ q, j ≤ q → q < j + k → g q ≠ r) ∨ ∃ p, j ≤ p ∧ p < j + k ∧ g p = r ∧ fnd g r k j = nI p ∧ ∀ q, j ≤ q → q < p → g q ≠ r
  | 0, j => Or.inl ⟨rfl, fun q h1 h2 => by omega⟩
  | k + 1, j => by
    unfold fnd
    by_cases h : g j = r
    · rw [if_pos h]
      exact Or.inr ⟨j, Nat.le_refl _, by omega, h, rfl, fun q h1 h2 => by omega⟩
    · rw [if_neg h]
      rcases fnd_spec (g := g) (r := r) k (j + 1) with ⟨h1, h2⟩ | ⟨p, h1, h2, h3, h4, h5⟩
      · refine Or.inl ⟨h1, fun q q1 q2 => ?_⟩
        by_cases hq : q = j
        · rw [hq]; exact h
        · exact h2 q (by omega) (by omega)
      · refine Or.inr ⟨p, by omega, by omega, h3, h4, fun q q1 q2 => ?_⟩
        by_cases hq : q = j
        · rw [hq]; exact h
        · exact h5 q (by omega) q2
def shl (g : Nat → Int32) (j m : Nat) : Nat → Int32 := fun q => if j ≤ q ∧ q < m then g (q + 1) else g q
theorem shl_0 {g : Nat → Int32} {j m : Nat} (h : m ≤ j) : shl g j m = g := by
  funext q
  unfold shl
  rw [if_neg (by omega)]
theorem shl_s {g : Nat → Int32} {j m : Nat} (h : j < m) : shl (upd g j (g (j + 1))) (j + 1) m = shl g j m := by
  funext q
  unfold shl upd
  by_cases h1 : q = j
  · subst h1
    rw [if_neg (by omega), if_pos rfl, if_pos ⟨Nat.le_refl _, h⟩]
  · by_cases h2 : j ≤ q ∧ q < m
    · rw [if_pos ⟨by omega, h2.2⟩, if_pos h2, if_neg (by omega)]
    · rw [if_neg (by omega), if_neg h1, if_neg h2]
theorem nI_m1 : ((-1 : Int32) < 0) := by decide
theorem nI_nn {j : Nat} (h : j < 1000) : ¬ nI j < 0 := nI_pos (by omega)
theorem nI_0le {j : Nat} (h : j < 1000) : (0 : Int32) ≤ nI j := nI_pos' (by omega)
/-- a line of readers: where it lies and how it is read and written -/
def LnA (E : ev) (kl ka : Nat) : Prop := kl ≠ ka ∧ ∀ (s : st) (i : Nat), i < E.2.1.1 → kO 2 (mu E s) (E.1 kl i) = some () ∧ gI 2 1 (mu E s) (E.1 kl i) = some (s kl i 1) ∧ gR 2 0 (mu E s) (E.1 kl i) = some (E.1 ka i) ∧ (∀ v, pF 2 1 (.int v) (mu E s) (E.1 kl i) = some (mu E (s3 s kl i 1 v))) ∧ (∀ j, j < 100 → aI (mu E s) (E.1 ka i) (nI j) = some (s ka i j)) ∧ ∀ j, j < 100 → ∀ v, sI v (mu E s) (E.1 ka i) (nI j) = some (mu E (s3 s ka i j v))
theorem L13 {E : ev} (hE : okE E) : LnA E 13 15 := ⟨by decide, fun _ _ hi => ⟨rO_13 hE hi, rI_13_1 hE hi, rR_13_0 hE hi, fun v => rP_13_1 hE hi v, fun _ hj => rA_15 hE hi hj, fun _ hj v => rS_15 hE hi hj v⟩⟩
theorem L14 {E : ev} (hE : okE E) : LnA E 14 16 := ⟨by decide, fun _ _ hi => ⟨rO_14 hE hi, rI_14_1 hE hi, rR_14_0 hE hi, fun v => rP_14_1 hE hi v, fun _ hj => rA_16 hE hi hj, fun _ hj v => rS_16 hE hi hj v⟩⟩
section LNS
variable {E : ev} {s : st} {kl ka i n : Nat} {r : Int32}
theorem ln_place (hL : LnA E kl ka) (hi : i < E.2.1.1) (hn : n ≤ 100) (hs : s kl i 1 = nI n) : ∀ (k fu j : Nat), k < fu → j + k = n → f_Line_placeOf_b2 fu (E.1 kl i) r (nI j) (mu E s) = some (fnd (s ka i) r k j, mu E s) := by
  obtain ⟨-, hL⟩ := hL
  obtain ⟨a1, a2, a3, a4, a5, a6⟩ := hL s i hi
  intro k
  induction k with
  | zero =>
    intro fu j h1 h2
    obtain ⟨f, rfl⟩ : ∃ f, fu = f + 1 := ⟨fu - 1, by omega⟩
    unfold f_Line_placeOf_b2
    rw [a2, Option.bind_some, hs, if_pos (nI_le (by omega) (by omega))]; rfl
  | succ k ih =>
    intro fu j h1 h2
    obtain ⟨f, rfl⟩ : ∃ f, fu = f + 1 := ⟨fu - 1, by omega⟩
    unfold f_Line_placeOf_b2 fnd
    rw [a2, Option.bind_some, hs, if_neg (nI_ge (by omega) (by omega)), a3, Option.bind_some, a5 j (by omega), Option.bind_some, nI_1, ih f (j + 1) (by omega) (by omega)]
    split <;> rfl
theorem ln_placeOf (hL : LnA E kl ka) (hi : i < E.2.1.1) (hn : n ≤ 100) (hs : s kl i 1 = nI n) : f_Line_placeOf (E.1 kl i) r (mu E s) = some (fnd (s ka i) r n 0, mu E s) := ln_place hL hi hn hs n FU 0 (by unfold FU; omega) (by omega)
theorem fnd_lt {g : Nat → Int32} {k : Nat} (hk : k ≤ 100) : (fnd g r k 0 < 0) ↔ ∀ q, q < k → g q ≠ r := by
  rcases fnd_spec (g := g) (r := r) k 0 with ⟨h1, h2⟩ | ⟨p, h1, h2, h3, h4, h5⟩
  · rw [h1]
    exact ⟨fun _ q hq => h2 q (by omega) (by omega), fun _ => nI_m1⟩
  · rw [h4]
    exact ⟨fun h => absurd h (nI_nn (by omega)), fun h => absurd h3 (h p (by omega))⟩
theorem ln_holds (hL : LnA E kl ka) (hi : i < E.2.1.1) (hn : n ≤ 100) (hs : s kl i 1 = nI n) : f_Line_holds (E.1 kl i) r (mu E s) = some (if fnd (s ka i) r n 0 < 0 then 0 else 1, mu E s) := by
  unfold f_Line_holds
  rw [(hL.2 s i hi).1, Option.bind_some, ln_placeOf hL hi hn hs]
  show (if _ then _ else _) = _
  split <;> rfl
theorem ln_at (hL : LnA E kl ka) (hi : i < E.2.1.1) (hn : n ≤ 100) (hs : s kl i 1 = nI n) {j : Nat} (hj : j < 2 ^ 31) : f_Line_at (E.1 kl i) (nI j) (mu E s) = some (if j < n then s ka i j else -1, mu E s) := by
  obtain ⟨-, hL⟩ := hL
  obtain ⟨a1, a2, a3, a4, a5, a6⟩ := hL s i hi
  unfold f_Line_at
  rw [if_neg (nI_pos hj), a2, Option.bind_some, hs]
  by_cases h : j < n
  · rw [if_pos (nI_lt h (by omega)), if_pos h, a3, Option.bind_some, a5 j (by omega), Option.bind_some]
  · rw [if_neg (nI_nlt (by omega) hj), if_neg h]
theorem ln_append (hL : LnA E kl ka) (hi : i < E.2.1.1) (hn : n < 100) (hs : s kl i 1 = nI n) : f_Line_append (E.1 kl i) r (mu E s) = some ((), mu E (s3 (s3 s ka i n r) kl i 1 (nI (n + 1)))) := by
  obtain ⟨hk, hL⟩ := hL
  obtain ⟨a1, a2, a3, a4, a5, a6⟩ := hL s i hi
  obtain ⟨b1, b2, b3, b4, b5, b6⟩ := hL (s3 s ka i n r) i hi
  unfold f_Line_append
  rw [a2, Option.bind_some, hs, if_neg (by rw [show (100 : Int32) = nI 100 from rfl]; exact nI_ge (by omega) (by omega)), a3, Option.bind_some, Option.bind_some, a6 n hn, Option.bind_some, b2, Option.bind_some, s3_k hk, hs, nI_1, b4, Option.bind_some]
theorem ln_drop_b (hL : LnA E kl ka) (hi : i < E.2.1.1) (hn : n < 100) : ∀ (k fu j : Nat) (s : st), s kl i 1 = nI n → k < fu → j + k = n → f_Line_drop_b24 fu (E.1 kl i) (nI j) (mu E s) = some (1, mu E (sr s ka i (shl (s ka i) j n))) := by
  obtain ⟨hk, hL⟩ := hL
  intro k
  induction k with
  | zero =>
    intro fu j s hs h1 h2
    obtain ⟨a1, a2, a3, a4, a5, a6⟩ := hL s i hi
    obtain ⟨f, rfl⟩ : ∃ f, fu = f + 1 := ⟨fu - 1, by omega⟩
    unfold f_Line_drop_b24
    rw [a2, Option.bind_some, hs, if_pos (nI_le (by omega) (by omega)), shl_0 (by omega), sr_self]; rfl
  | succ k ih =>
    intro fu j s hs h1 h2
    obtain ⟨a1, a2, a3, a4, a5, a6⟩ := hL s i hi
    obtain ⟨f, rfl⟩ : ∃ f, fu = f + 1 := ⟨fu - 1, by omega⟩
    unfold f_Line_drop_b24
    rw [a2, Option.bind_some, hs, if_neg (nI_ge (by omega) (by omega)), a3, Option.bind_some, Option.bind_some, nI_1, a5 (j + 1) (by omega), Option.bind_some, a6 j (by omega), Option.bind_some, ih f (j + 1) _ (by rw [s3_k hk]; exact hs) (by omega) (by omega), s3_at, shl_s (by omega), s3_sr, sr_sr]
theorem ln_drop_no (hL : LnA E kl ka) (hi : i < E.2.1.1) (hn : n ≤ 100) (hs : s kl i 1 = nI n) (h : fnd (s ka i) r n 0 < 0) : f_Line_drop (E.1 kl i) r (mu E s) = some (0, mu E s) := by
  unfold f_Line_drop
  rw [(hL.2 s i hi).1, Option.bind_some, ln_placeOf hL hi hn hs]
  show (if _ then _ else _) = _
  rw [if_neg (Int32.not_le.mpr h)]; rfl
theorem ln_drop_yes (hL : LnA E kl ka) (hi : i < E.2.1.1) {m p : Nat} (hn : m < 100) (hs : s kl i 1 = nI (m + 1)) (hp : p ≤ m) (h : fnd (s ka i) r (m + 1) 0 = nI p) : f_Line_drop (E.1 kl i) r (mu E s) = some (1, mu E (sr (s3 s kl i 1 (nI m)) ka i (shl (s ka i) p m))) := by
  unfold f_Line_drop
  obtain ⟨hk, hL2⟩ := id hL
  obtain ⟨a1, a2, a3, a4, a5, a6⟩ := hL2 s i hi
  rw [a1, Option.bind_some, ln_placeOf hL hi (by omega) hs, h]
  show (if _ then _ else _) = _
  rw [if_pos (nI_0le (by omega)), a2, Option.bind_some, hs, nI_pred, a4, Option.bind_some, ln_drop_b hL hi hn (m - p) FU p _ (by rw [s3_at]; rfl) (by unfold FU; omega) (by omega), s3_k (Ne.symm hk)]
end LNS
theorem m100 (i j : Nat) : (100 : Int32) * nI i + nI j = nI (100 * i + j) := by
  rw [show (100 : Int32) = nI 100 from rfl, pk_mul, nI_add]
theorem m100' (i : Nat) : (100 : Int32) * nI i = nI (100 * i) := by
  rw [show (100 : Int32) = nI 100 from rfl, pk_mul]
theorem m10 (i j : Nat) : (10 : Int32) * nI i + nI j = nI (10 * i + j) := by
  rw [show (10 : Int32) = nI 10 from rfl, pk_mul, nI_add]
theorem m10' (i : Nat) : (10 : Int32) * nI i = nI (10 * i) := by
  rw [show (10 : Int32) = nI 10 from rfl, pk_mul]
section MLN
variable {E : ev} {s : st} {i n : Nat} {r : Int32}
theorem mo_placeIn_b (hE : okE E) (hi : i < 20) (hn : n ≤ 100) (hs : s 35 0 i = nI n) : ∀ (k fu j : Nat), k < fu → j + k = n → f_Mo_placeIn_b2 fu (E.1 30 0) (nI i) r (nI j) (mu E s) = some (fnd (fun q => s 36 0 (100 * i + q)) r k j, mu E s) := by
  intro k
  induction k with
  | zero =>
    intro fu j h1 h2
    obtain ⟨f, rfl⟩ : ∃ f, fu = f + 1 := ⟨fu - 1, by omega⟩
    unfold f_Mo_placeIn_b2
    rw [rR_30_5 hE o1, Option.bind_some, rA_35 hE o1 hi, Option.bind_some, hs, if_pos (nI_le (by omega) (by omega))]; rfl
  | succ k ih =>
    intro fu j h1 h2
    obtain ⟨f, rfl⟩ : ∃ f, fu = f + 1 := ⟨fu - 1, by omega⟩
    unfold f_Mo_placeIn_b2 fnd
    rw [rR_30_5 hE o1, Option.bind_some, rA_35 hE o1 hi, Option.bind_some, hs, if_neg (nI_ge (by omega) (by omega)), rR_30_6 hE o1, Option.bind_some, m100, rA_36 hE o1 (by omega), Option.bind_some, nI_1, ih f (j + 1) (by omega) (by omega)]
    split <;> rfl
theorem mo_placeIn (hE : okE E) (hi : i < 20) (hn : n ≤ 100) (hs : s 35 0 i = nI n) : f_Mo_placeIn (E.1 30 0) (nI i) r (mu E s) = some (fnd (fun q => s 36 0 (100 * i + q)) r n 0, mu E s) := mo_placeIn_b hE hi hn hs n FU 0 (by unfold FU; omega) (by omega)
theorem mo_placeWaiting_b (hE : okE E) (hi : i < 20) (hn : n ≤ 100) (hs : s 37 0 i = nI n) : ∀ (k fu j : Nat), k < fu → j + k = n → f_Mo_placeWaiting_b2 fu (E.1 30 0) (nI i) r (nI j) (mu E s) = some (fnd (fun q => s 38 0 (100 * i + q)) r k j, mu E s) := by
  intro k
  induction k with
  | zero =>
    intro fu j h1 h2
    obtain ⟨f, rfl⟩ : ∃ f, fu = f + 1 := ⟨fu - 1, by omega⟩
    unfold f_Mo_placeWaiting_b2
    rw [rR_30_7 hE o1, Option.bind_some, rA_37 hE o1 hi, Option.bind_some, hs, if_pos (nI_le (by omega) (by omega))]; rfl
  | succ k ih =>
    intro fu j h1 h2
    obtain ⟨f, rfl⟩ : ∃ f, fu = f + 1 := ⟨fu - 1, by omega⟩
    unfold f_Mo_placeWaiting_b2 fnd
    rw [rR_30_7 hE o1, Option.bind_some, rA_37 hE o1 hi, Option.bind_some, hs, if_neg (nI_ge (by omega) (by omega)), rR_30_8 hE o1, Option.bind_some, m100, rA_38 hE o1 (by omega), Option.bind_some, nI_1, ih f (j + 1) (by omega) (by omega)]
    split <;> rfl
theorem mo_placeWaiting (hE : okE E) (hi : i < 20) (hn : n ≤ 100) (hs : s 37 0 i = nI n) : f_Mo_placeWaiting (E.1 30 0) (nI i) r (mu E s) = some (fnd (fun q => s 38 0 (100 * i + q)) r n 0, mu E s) := mo_placeWaiting_b hE hi hn hs n FU 0 (by unfold FU; omega) (by omega)
theorem mo_enter (hE : okE E) (hi : i < 20) (hn : n < 100) (hs : s 35 0 i = nI n) : f_Mo_enter (E.1 30 0) (nI i) r (mu E s) = some ((), mu E (s3 (s3 s 36 0 (100 * i + n) r) 35 0 i (nI (n + 1)))) := by
  unfold f_Mo_enter
  rw [rR_30_6 hE o1, Option.bind_some, rR_30_5 hE o1, Option.bind_some, rA_35 hE o1 hi, Option.bind_some, hs, m100, rS_36 hE o1 (by omega), Option.bind_some, rR_30_5 hE o1, Option.bind_some, rA_35 hE o1 hi, Option.bind_some, s3_k (by decide), hs, nI_1, rS_35 hE o1 hi, Option.bind_some]
theorem mo_dropW_b (hE : okE E) (hi : i < 20) (hn : n < 100) : ∀ (k fu j : Nat) (s : st), s 37 0 i = nI n → k < fu → j + k = n → f_Mo_dropWaiter_b17 fu (E.1 30 0) (nI i) (nI (100 * i + j)) (mu E s) = some ((), mu E (sr s 38 0 (shl (s 38 0) (100 * i + j) (100 * i + n)))) := by
  intro k
  induction k with
  | zero =>
    intro fu j s hs h1 h2
    obtain ⟨f, rfl⟩ : ∃ f, fu = f + 1 := ⟨fu - 1, by omega⟩
    unfold f_Mo_dropWaiter_b17
    rw [rR_30_7 hE o1, Option.bind_some, rA_37 hE o1 hi, Option.bind_some, hs, m100, if_pos (nI_le (by omega) (by omega)), shl_0 (by omega), sr_self]
  | succ k ih =>
    intro fu j s hs h1 h2
    obtain ⟨f, rfl⟩ : ∃ f, fu = f + 1 := ⟨fu - 1, by omega⟩
    unfold f_Mo_dropWaiter_b17
    rw [rR_30_7 hE o1, Option.bind_some, rA_37 hE o1 hi, Option.bind_some, hs, m100, if_neg (nI_ge (by omega) (by omega)), rR_30_8 hE o1, Option.bind_some, Option.bind_some, nI_1, rA_38 hE o1 (by omega), Option.bind_some, rS_38 hE o1 (by omega), Option.bind_some, show 100 * i + j + 1 = 100 * i + (j + 1) by omega, ih f (j + 1) _ (by rw [s3_k (by decide)]; exact hs) (by omega) (by omega), s3_at, s3_sr, sr_sr, show 100 * i + (j + 1) = 100 * i + j + 1 by omega, shl_s (by omega)]
theorem mo_dropW (hE : okE E) (hi : i < 20) {m p : Nat} (hn : m < 100) (hs : s 37 0 i = nI (m + 1)) (hp : p ≤ m) : f_Mo_dropWaiter (E.1 30 0) (nI i) (nI p) (mu E s) = some ((), mu E (sr (s3 s 37 0 i (nI m)) 38 0 (shl (s 38 0) (100 * i + p) (100 * i + m)))) := by
  unfold f_Mo_dropWaiter
  rw [rR_30_7 hE o1, Option.bind_some, rA_37 hE o1 hi, Option.bind_some, hs, nI_pred, rS_37 hE o1 hi, Option.bind_some, m100, mo_dropW_b hE hi hn (m - p) FU p _ (by rw [s3_at]; simp [upd]) (by unfold FU; omega) (by omega), s3_k (by decide)]
end MLN
