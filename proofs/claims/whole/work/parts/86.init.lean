/-! THE FIRST MEMORY -/
def off0 : Nat → Nat
  | 0 => 0
  | 1 => 1
  | 2 => 2
  | 3 => 3
  | 4 => 4
  | 5 => 5
  | 6 => 6
  | 7 => 7
  | 8 => 8
  | 9 => 9
  | 10 => 10
  | 11 => 11
  | 30 => 12
  | 32 => 13
  | 33 => 14
  | 34 => 15
  | 35 => 16
  | 36 => 17
  | 37 => 18
  | 38 => 19
  | 40 => 20
  | 41 => 21
  | 42 => 22
  | 43 => 23
  | 44 => 24
  | 45 => 25
  | 46 => 26
  | 48 => 27
  | 49 => 28
  | 50 => 29
  | 51 => 30
  | 52 => 31
  | 54 => 32
  | 56 => 33
  | 57 => 34
  | 58 => 35
  | 60 => 36
  | 61 => 37
  | _ => 99
def kd : Nat → Nat
  | 0 => 0
  | 1 => 1
  | 2 => 2
  | 3 => 3
  | 4 => 4
  | 5 => 5
  | 6 => 6
  | 7 => 7
  | 8 => 8
  | 9 => 9
  | 10 => 10
  | 11 => 11
  | 12 => 30
  | 13 => 32
  | 14 => 33
  | 15 => 34
  | 16 => 35
  | 17 => 36
  | 18 => 37
  | 19 => 38
  | 20 => 40
  | 21 => 41
  | 22 => 42
  | 23 => 43
  | 24 => 44
  | 25 => 45
  | 26 => 46
  | 27 => 48
  | 28 => 49
  | 29 => 50
  | 30 => 51
  | 31 => 52
  | 32 => 54
  | 33 => 56
  | 34 => 57
  | 35 => 58
  | 36 => 60
  | 37 => 61
  | _ => 99
def E0 (z : Nat) : ev := (fun k _ => z + off0 k, (0, 0, 0), (z + 38, fun _ => none))
def s0 : st := fun k _ => if k = 0 then (fun j => if j = 9 then -1 else 0) else if k = 30 then (fun j => if j = 23 then -1 else 0) else fun _ => 0
def zF (z m : Nat) (g : Nat → va_E) : mm := (z + m, fun a => if z ≤ a ∧ a < z + m then some (g (a - z)) else none)
def ug (g : Nat → va_E) (j : Nat) (e : va_E) : Nat → va_E := fun i => if i = j then e else g i
def okc (ci k : Nat) (e : va_E) : Bool := match e with
  | .inr (c, fs) => Nat.beq c ci && Nat.blt k fs.length
  | _ => false
def pfc (k : Nat) (v : Value) (e : va_E) : va_E := match e with
  | .inr (c, fs) => .inr (c, fs.set k v)
  | e => e
section INI
variable {z m n j : Nat} {g : Nat → va_E} {β : Type} {o : Option β}
theorem zF_at (h : j < m) : (zF z m g).2 (z + j) = some (g j) := by
  show (if z ≤ z + j ∧ z + j < z + m then some (g (z + j - z)) else none) = _
  rw [if_pos (by omega), Nat.add_sub_cancel_left]
theorem zF_ext {g' : Nat → va_E} (h : ∀ j, j < m → g j = g' j) : zF z m g = zF z m g' := by
  refine Prod.ext rfl (funext fun a => ?_)
  show (if z ≤ a ∧ a < z + m then some (g (a - z)) else none) = (if z ≤ a ∧ a < z + m then some (g' (a - z)) else none)
  by_cases c : z ≤ a ∧ a < z + m
  · rw [if_pos c, if_pos c, h (a - z) (by omega)]
  · rw [if_neg c, if_neg c]
theorem zF_0 : ((z, fun _ => none) : mm) = zF z 0 g := by
  refine Prod.ext rfl (funext fun a => ?_)
  show none = (if z ≤ a ∧ a < z + 0 then some (g (a - z)) else none)
  rw [if_neg (by omega)]
theorem zF_ad (e : va_E) : mm_ad (zF z m g) e = zF z (m + 1) (ug g m e) := by
  refine Prod.ext rfl (funext fun a => ?_)
  show va_up (fun a => if z ≤ a ∧ a < z + m then some (g (a - z)) else none) (z + m) (some e) a = (if z ≤ a ∧ a < z + (m + 1) then some (if a - z = m then e else g (a - z)) else none)
  unfold va_up
  by_cases c : a = z + m
  · rw [if_pos c, if_pos (by omega), if_pos (by omega)]
  · rw [if_neg c]
    show (if z ≤ a ∧ a < z + m then some (g (a - z)) else none) = _
    by_cases c2 : z ≤ a ∧ a < z + m
    · rw [if_pos c2, if_pos (by omega), if_neg (by omega)]
    · rw [if_neg c2, if_neg (by omega)]
theorem zF_up (h : j < m) (e : va_E) : mm_up (zF z m g) (z + j) e = zF z m (ug g j e) := by
  refine Prod.ext rfl (funext fun a => ?_)
  show va_up (fun a => if z ≤ a ∧ a < z + m then some (g (a - z)) else none) (z + j) (some e) a = (if z ≤ a ∧ a < z + m then some (if a - z = j then e else g (a - z)) else none)
  unfold va_up
  by_cases c : a = z + j
  · rw [if_pos c, if_pos (by omega), if_pos (by omega)]
  · rw [if_neg c]
    show (if z ≤ a ∧ a < z + m then some (g (a - z)) else none) = _
    by_cases c2 : z ≤ a ∧ a < z + m
    · rw [if_pos c2, if_pos c2, if_neg (by omega)]
    · rw [if_neg c2, if_neg c2]
theorem bnO {ci : Nat} {fs : List Value} {F : Nat × mm → Option β} (h : F (z + m, zF z (m + 1) (ug g m (.inr (ci, fs)))) = o) : (nO ci fs (zF z m g)).bind F = o := by
  rw [← zF_ad] at h
  exact h
theorem bnA {F : Nat × mm → Option β} (h : F (z + m, zF z (m + 1) (ug g m (.inl (0, n, .inl (fun _ => 0))))) = o) : (nA n (zF z m g)).bind F = o := by
  rw [← zF_ad] at h
  exact h
theorem bnZ {F : Nat × mm → Option β} (h : F (z + m, zF z (m + 1) (ug g m (.inl (1, n, .inl (fun _ => 0))))) = o) : (nZ n (zF z m g)).bind F = o := by
  rw [← zF_ad] at h
  exact h
theorem bnQ {t : Nat} {F : Nat × mm → Option β} (h : F (z + m, zF z (m + 1) (ug g m (.inl (t, n, .inr (.inr (.inr (.inr (fun _ => none)))))))) = o) : (nQ t n (zF z m g)).bind F = o := by
  rw [← zF_ad] at h
  exact h
theorem bpF {ci k : Nat} {v : Value} {F : mm → Option β} (hj : j < m) (hc : okc ci k (g j) = true) (h : F (zF z m (ug g j (pfc k v (g j)))) = o) : (pF ci k v (zF z m g) (z + j)).bind F = o := by
  unfold okc at hc
  split at hc
  · rename_i c fs he
    rw [Bool.and_eq_true] at hc
    have h1 := Nat.eq_of_beq_eq_true hc.1
    have h2 : k < fs.length := Nat.le_of_ble_eq_true hc.2
    subst h1
    rw [pF_hit (by rw [zF_at hj, he]) h2, Option.bind_some, zF_up hj]
    rw [he] at h
    exact h
  · cases hc
theorem bbb {α γ : Type} {x : Option α} {f : α → Option γ} {F : γ → Option β} (h : x.bind (fun a => (f a).bind F) = o) : (x.bind f).bind F = o := by
  cases x with
  | none => exact h
  | some a => exact h
theorem bS {α : Type} {a : α} {F : α → Option β} (h : F a = o) : (some a).bind F = o := h
theorem bgA {m' : Nat} {F : Nat × mm → Option β} (hm : m + 1 = m') (hg : g m = .inl (0, n, .inl (fun _ => 0))) (h : F (z + m, zF z m' g) = o) : (nA n (zF z m g)).bind F = o := by
  subst hm
  refine bnA ?_
  rw [zF_ext (g' := g)]
  · exact h
  · intro i _
    show (if i = m then _ else g i) = g i
    by_cases c : i = m
    · rw [if_pos c, c, hg]
    · rw [if_neg c]
theorem bgZ {m' : Nat} {F : Nat × mm → Option β} (hm : m + 1 = m') (hg : g m = .inl (1, n, .inl (fun _ => 0))) (h : F (z + m, zF z m' g) = o) : (nZ n (zF z m g)).bind F = o := by
  subst hm
  refine bnZ ?_
  rw [zF_ext (g' := g)]
  · exact h
  · intro i _
    show (if i = m then _ else g i) = g i
    by_cases c : i = m
    · rw [if_pos c, c, hg]
    · rw [if_neg c]
theorem bgF {ci k : Nat} {v : Value} {fs fs' : List Value} {F : mm → Option β} (hj : j < m) (hk : k < n) (hl : n = fs.length) (hf : fs.set k v = fs') (h : F (zF z m (ug g j (.inr (ci, fs')))) = o) : (pF ci k v (zF z m (ug g j (.inr (ci, fs)))) (z + j)).bind F = o := by
  subst hl
  subst hf
  have hg : ug g j (.inr (ci, fs)) j = .inr (ci, fs) := if_pos rfl
  rw [pF_hit (by rw [zF_at hj, hg]) hk, Option.bind_some, zF_up hj]
  rw [zF_ext (g' := ug g j (.inr (ci, fs.set k v)))]
  · exact h
  · intro i _
    unfold ug
    by_cases c : i = j
    · rw [if_pos c, if_pos c]
    · rw [if_neg c, if_neg c, if_neg c]
end INI
def gF (z : Nat) : Nat → va_E := fun j => ctr (E0 z) (s0 (kd j) 0) (kd j) 0
set_option maxRecDepth 100000 in
set_option maxHeartbeats 4000000 in
theorem xInit (z : Nat) (g : Nat → va_E) : f_X_init (z + 0) (zF z (0 + 1) (ug g 0 (.inr (0, [.null, .int 0, .null, .int 0, .null, .int 0, .null, .null, .null, .int 0])))) = some ((), zF z 12 (gF z)) := by
  unfold f_X_init
  refine bnQ ?_
  refine bpF (by decide) rfl ?_
  refine bpF (by decide) rfl ?_
  refine bnQ ?_
  refine bpF (by decide) rfl ?_
  refine bpF (by decide) rfl ?_
  refine bnQ ?_
  refine bpF (by decide) rfl ?_
  refine bpF (by decide) rfl ?_
  refine bnA ?_
  refine bpF (by decide) rfl ?_
  refine bnO ?_
  unfold f_Usages_init
  refine bbb ?_
  refine bnA ?_
  refine bbb ?_
  refine bpF (by decide) rfl ?_
  refine bbb ?_
  refine bnA ?_
  refine bbb ?_
  refine bpF (by decide) rfl ?_
  refine bbb ?_
  refine bnA ?_
  refine bbb ?_
  refine bpF (by decide) rfl ?_
  refine bbb ?_
  refine bpF (by decide) rfl ?_
  refine bS ?_
  refine bpF (by decide) rfl ?_
  refine bnO ?_
  unfold f_Notices_init
  refine bbb ?_
  refine bnA ?_
  refine bbb ?_
  refine bpF (by decide) rfl ?_
  refine bbb ?_
  refine bnA ?_
  refine bbb ?_
  refine bpF (by decide) rfl ?_
  refine bbb ?_
  refine bpF (by decide) rfl ?_
  refine bS ?_
  refine bpF (by decide) rfl ?_
  refine bpF (by decide) rfl ?_
  refine congrArg (fun M => some ((), M)) (zF_ext fun j hj => ?_)
  match j, hj with
  | 0, _ => rfl
  | 1, _ => exact congrArg (fun f => (Sum.inl (2, 20, .inr (.inr (.inr (.inr f)))) : va_E)) (funext fun j => (if_neg (Nat.not_lt_zero j)).symm)
  | 2, _ => exact congrArg (fun f => (Sum.inl (3, 200, .inr (.inr (.inr (.inr f)))) : va_E)) (funext fun j => (if_neg (Nat.not_lt_zero j)).symm)
  | 3, _ => exact congrArg (fun f => (Sum.inl (4, 100, .inr (.inr (.inr (.inr f)))) : va_E)) (funext fun j => (if_neg (Nat.not_lt_zero j)).symm)
  | 4, _ => rfl
  | 5, _ => rfl
  | 6, _ => rfl
  | 7, _ => rfl
  | 8, _ => rfl
  | 9, _ => rfl
  | 10, _ => rfl
  | 11, _ => rfl
  | q + 12, h => exact absurd h (by omega)
set_option maxRecDepth 100000 in
set_option maxHeartbeats 4000000 in
theorem mInit (z : Nat) : f_Mo_init (z + 12) (zF z (12 + 1) (ug (gF z) 12 (.inr (1, [.int 0, .int 0, .null, .null, .null, .null, .null, .null, .null, .int 0, .null, .null, .null, .null, .null, .null, .null, .int 0, .null, .null, .null, .null, .null, .int 0, .null, .int 0, .null, .null, .null, .int 0, .null, .null])))) = some ((), zF z 38 (gF z)) := by
  unfold f_Mo_init
  refine bgZ (m' := 14) rfl rfl ?_
  refine bgF (n := 32) (fs' := [.int 0, .int 0, .ref (z + 13), .null, .null, .null, .null, .null, .null, .int 0, .null, .null, .null, .null, .null, .null, .null, .int 0, .null, .null, .null, .null, .null, .int 0, .null, .int 0, .null, .null, .null, .int 0, .null, .null]) (by decide) (by decide) rfl rfl ?_
  refine bgA (m' := 15) rfl rfl ?_
  refine bgF (n := 32) (fs' := [.int 0, .int 0, .ref (z + 13), .ref (z + 14), .null, .null, .null, .null, .null, .int 0, .null, .null, .null, .null, .null, .null, .null, .int 0, .null, .null, .null, .null, .null, .int 0, .null, .int 0, .null, .null, .null, .int 0, .null, .null]) (by decide) (by decide) rfl rfl ?_
  refine bgA (m' := 16) rfl rfl ?_
  refine bgF (n := 32) (fs' := [.int 0, .int 0, .ref (z + 13), .ref (z + 14), .ref (z + 15), .null, .null, .null, .null, .int 0, .null, .null, .null, .null, .null, .null, .null, .int 0, .null, .null, .null, .null, .null, .int 0, .null, .int 0, .null, .null, .null, .int 0, .null, .null]) (by decide) (by decide) rfl rfl ?_
  refine bgA (m' := 17) rfl rfl ?_
  refine bgF (n := 32) (fs' := [.int 0, .int 0, .ref (z + 13), .ref (z + 14), .ref (z + 15), .ref (z + 16), .null, .null, .null, .int 0, .null, .null, .null, .null, .null, .null, .null, .int 0, .null, .null, .null, .null, .null, .int 0, .null, .int 0, .null, .null, .null, .int 0, .null, .null]) (by decide) (by decide) rfl rfl ?_
  refine bgA (m' := 18) rfl rfl ?_
  refine bgF (n := 32) (fs' := [.int 0, .int 0, .ref (z + 13), .ref (z + 14), .ref (z + 15), .ref (z + 16), .ref (z + 17), .null, .null, .int 0, .null, .null, .null, .null, .null, .null, .null, .int 0, .null, .null, .null, .null, .null, .int 0, .null, .int 0, .null, .null, .null, .int 0, .null, .null]) (by decide) (by decide) rfl rfl ?_
  refine bgA (m' := 19) rfl rfl ?_
  refine bgF (n := 32) (fs' := [.int 0, .int 0, .ref (z + 13), .ref (z + 14), .ref (z + 15), .ref (z + 16), .ref (z + 17), .ref (z + 18), .null, .int 0, .null, .null, .null, .null, .null, .null, .null, .int 0, .null, .null, .null, .null, .null, .int 0, .null, .int 0, .null, .null, .null, .int 0, .null, .null]) (by decide) (by decide) rfl rfl ?_
  refine bgA (m' := 20) rfl rfl ?_
  refine bgF (n := 32) (fs' := [.int 0, .int 0, .ref (z + 13), .ref (z + 14), .ref (z + 15), .ref (z + 16), .ref (z + 17), .ref (z + 18), .ref (z + 19), .int 0, .null, .null, .null, .null, .null, .null, .null, .int 0, .null, .null, .null, .null, .null, .int 0, .null, .int 0, .null, .null, .null, .int 0, .null, .null]) (by decide) (by decide) rfl rfl ?_
  refine bgA (m' := 21) rfl rfl ?_
  refine bgF (n := 32) (fs' := [.int 0, .int 0, .ref (z + 13), .ref (z + 14), .ref (z + 15), .ref (z + 16), .ref (z + 17), .ref (z + 18), .ref (z + 19), .int 0, .ref (z + 20), .null, .null, .null, .null, .null, .null, .int 0, .null, .null, .null, .null, .null, .int 0, .null, .int 0, .null, .null, .null, .int 0, .null, .null]) (by decide) (by decide) rfl rfl ?_
  refine bgA (m' := 22) rfl rfl ?_
  refine bgF (n := 32) (fs' := [.int 0, .int 0, .ref (z + 13), .ref (z + 14), .ref (z + 15), .ref (z + 16), .ref (z + 17), .ref (z + 18), .ref (z + 19), .int 0, .ref (z + 20), .ref (z + 21), .null, .null, .null, .null, .null, .int 0, .null, .null, .null, .null, .null, .int 0, .null, .int 0, .null, .null, .null, .int 0, .null, .null]) (by decide) (by decide) rfl rfl ?_
  refine bgZ (m' := 23) rfl rfl ?_
  refine bgF (n := 32) (fs' := [.int 0, .int 0, .ref (z + 13), .ref (z + 14), .ref (z + 15), .ref (z + 16), .ref (z + 17), .ref (z + 18), .ref (z + 19), .int 0, .ref (z + 20), .ref (z + 21), .ref (z + 22), .null, .null, .null, .null, .int 0, .null, .null, .null, .null, .null, .int 0, .null, .int 0, .null, .null, .null, .int 0, .null, .null]) (by decide) (by decide) rfl rfl ?_
  refine bgA (m' := 24) rfl rfl ?_
  refine bgF (n := 32) (fs' := [.int 0, .int 0, .ref (z + 13), .ref (z + 14), .ref (z + 15), .ref (z + 16), .ref (z + 17), .ref (z + 18), .ref (z + 19), .int 0, .ref (z + 20), .ref (z + 21), .ref (z + 22), .ref (z + 23), .null, .null, .null, .int 0, .null, .null, .null, .null, .null, .int 0, .null, .int 0, .null, .null, .null, .int 0, .null, .null]) (by decide) (by decide) rfl rfl ?_
  refine bgA (m' := 25) rfl rfl ?_
  refine bgF (n := 32) (fs' := [.int 0, .int 0, .ref (z + 13), .ref (z + 14), .ref (z + 15), .ref (z + 16), .ref (z + 17), .ref (z + 18), .ref (z + 19), .int 0, .ref (z + 20), .ref (z + 21), .ref (z + 22), .ref (z + 23), .ref (z + 24), .null, .null, .int 0, .null, .null, .null, .null, .null, .int 0, .null, .int 0, .null, .null, .null, .int 0, .null, .null]) (by decide) (by decide) rfl rfl ?_
  refine bgA (m' := 26) rfl rfl ?_
  refine bgF (n := 32) (fs' := [.int 0, .int 0, .ref (z + 13), .ref (z + 14), .ref (z + 15), .ref (z + 16), .ref (z + 17), .ref (z + 18), .ref (z + 19), .int 0, .ref (z + 20), .ref (z + 21), .ref (z + 22), .ref (z + 23), .ref (z + 24), .ref (z + 25), .null, .int 0, .null, .null, .null, .null, .null, .int 0, .null, .int 0, .null, .null, .null, .int 0, .null, .null]) (by decide) (by decide) rfl rfl ?_
  refine bgA (m' := 27) rfl rfl ?_
  refine bgF (n := 32) (fs' := [.int 0, .int 0, .ref (z + 13), .ref (z + 14), .ref (z + 15), .ref (z + 16), .ref (z + 17), .ref (z + 18), .ref (z + 19), .int 0, .ref (z + 20), .ref (z + 21), .ref (z + 22), .ref (z + 23), .ref (z + 24), .ref (z + 25), .ref (z + 26), .int 0, .null, .null, .null, .null, .null, .int 0, .null, .int 0, .null, .null, .null, .int 0, .null, .null]) (by decide) (by decide) rfl rfl ?_
  refine bgA (m' := 28) rfl rfl ?_
  refine bgF (n := 32) (fs' := [.int 0, .int 0, .ref (z + 13), .ref (z + 14), .ref (z + 15), .ref (z + 16), .ref (z + 17), .ref (z + 18), .ref (z + 19), .int 0, .ref (z + 20), .ref (z + 21), .ref (z + 22), .ref (z + 23), .ref (z + 24), .ref (z + 25), .ref (z + 26), .int 0, .ref (z + 27), .null, .null, .null, .null, .int 0, .null, .int 0, .null, .null, .null, .int 0, .null, .null]) (by decide) (by decide) rfl rfl ?_
  refine bgA (m' := 29) rfl rfl ?_
  refine bgF (n := 32) (fs' := [.int 0, .int 0, .ref (z + 13), .ref (z + 14), .ref (z + 15), .ref (z + 16), .ref (z + 17), .ref (z + 18), .ref (z + 19), .int 0, .ref (z + 20), .ref (z + 21), .ref (z + 22), .ref (z + 23), .ref (z + 24), .ref (z + 25), .ref (z + 26), .int 0, .ref (z + 27), .ref (z + 28), .null, .null, .null, .int 0, .null, .int 0, .null, .null, .null, .int 0, .null, .null]) (by decide) (by decide) rfl rfl ?_
  refine bgA (m' := 30) rfl rfl ?_
  refine bgF (n := 32) (fs' := [.int 0, .int 0, .ref (z + 13), .ref (z + 14), .ref (z + 15), .ref (z + 16), .ref (z + 17), .ref (z + 18), .ref (z + 19), .int 0, .ref (z + 20), .ref (z + 21), .ref (z + 22), .ref (z + 23), .ref (z + 24), .ref (z + 25), .ref (z + 26), .int 0, .ref (z + 27), .ref (z + 28), .ref (z + 29), .null, .null, .int 0, .null, .int 0, .null, .null, .null, .int 0, .null, .null]) (by decide) (by decide) rfl rfl ?_
  refine bgA (m' := 31) rfl rfl ?_
  refine bgF (n := 32) (fs' := [.int 0, .int 0, .ref (z + 13), .ref (z + 14), .ref (z + 15), .ref (z + 16), .ref (z + 17), .ref (z + 18), .ref (z + 19), .int 0, .ref (z + 20), .ref (z + 21), .ref (z + 22), .ref (z + 23), .ref (z + 24), .ref (z + 25), .ref (z + 26), .int 0, .ref (z + 27), .ref (z + 28), .ref (z + 29), .ref (z + 30), .null, .int 0, .null, .int 0, .null, .null, .null, .int 0, .null, .null]) (by decide) (by decide) rfl rfl ?_
  refine bgZ (m' := 32) rfl rfl ?_
  refine bgF (n := 32) (fs' := [.int 0, .int 0, .ref (z + 13), .ref (z + 14), .ref (z + 15), .ref (z + 16), .ref (z + 17), .ref (z + 18), .ref (z + 19), .int 0, .ref (z + 20), .ref (z + 21), .ref (z + 22), .ref (z + 23), .ref (z + 24), .ref (z + 25), .ref (z + 26), .int 0, .ref (z + 27), .ref (z + 28), .ref (z + 29), .ref (z + 30), .ref (z + 31), .int 0, .null, .int 0, .null, .null, .null, .int 0, .null, .null]) (by decide) (by decide) rfl rfl ?_
  refine bgF (n := 32) (fs' := [.int 0, .int 0, .ref (z + 13), .ref (z + 14), .ref (z + 15), .ref (z + 16), .ref (z + 17), .ref (z + 18), .ref (z + 19), .int 0, .ref (z + 20), .ref (z + 21), .ref (z + 22), .ref (z + 23), .ref (z + 24), .ref (z + 25), .ref (z + 26), .int 0, .ref (z + 27), .ref (z + 28), .ref (z + 29), .ref (z + 30), .ref (z + 31), .int (((-1))), .null, .int 0, .null, .null, .null, .int 0, .null, .null]) (by decide) (by decide) rfl rfl ?_
  refine bgA (m' := 33) rfl rfl ?_
  refine bgF (n := 32) (fs' := [.int 0, .int 0, .ref (z + 13), .ref (z + 14), .ref (z + 15), .ref (z + 16), .ref (z + 17), .ref (z + 18), .ref (z + 19), .int 0, .ref (z + 20), .ref (z + 21), .ref (z + 22), .ref (z + 23), .ref (z + 24), .ref (z + 25), .ref (z + 26), .int 0, .ref (z + 27), .ref (z + 28), .ref (z + 29), .ref (z + 30), .ref (z + 31), .int (((-1))), .ref (z + 32), .int 0, .null, .null, .null, .int 0, .null, .null]) (by decide) (by decide) rfl rfl ?_
  refine bgA (m' := 34) rfl rfl ?_
  refine bgF (n := 32) (fs' := [.int 0, .int 0, .ref (z + 13), .ref (z + 14), .ref (z + 15), .ref (z + 16), .ref (z + 17), .ref (z + 18), .ref (z + 19), .int 0, .ref (z + 20), .ref (z + 21), .ref (z + 22), .ref (z + 23), .ref (z + 24), .ref (z + 25), .ref (z + 26), .int 0, .ref (z + 27), .ref (z + 28), .ref (z + 29), .ref (z + 30), .ref (z + 31), .int (((-1))), .ref (z + 32), .int 0, .ref (z + 33), .null, .null, .int 0, .null, .null]) (by decide) (by decide) rfl rfl ?_
  refine bgA (m' := 35) rfl rfl ?_
  refine bgF (n := 32) (fs' := [.int 0, .int 0, .ref (z + 13), .ref (z + 14), .ref (z + 15), .ref (z + 16), .ref (z + 17), .ref (z + 18), .ref (z + 19), .int 0, .ref (z + 20), .ref (z + 21), .ref (z + 22), .ref (z + 23), .ref (z + 24), .ref (z + 25), .ref (z + 26), .int 0, .ref (z + 27), .ref (z + 28), .ref (z + 29), .ref (z + 30), .ref (z + 31), .int (((-1))), .ref (z + 32), .int 0, .ref (z + 33), .ref (z + 34), .null, .int 0, .null, .null]) (by decide) (by decide) rfl rfl ?_
  refine bgA (m' := 36) rfl rfl ?_
  refine bgF (n := 32) (fs' := [.int 0, .int 0, .ref (z + 13), .ref (z + 14), .ref (z + 15), .ref (z + 16), .ref (z + 17), .ref (z + 18), .ref (z + 19), .int 0, .ref (z + 20), .ref (z + 21), .ref (z + 22), .ref (z + 23), .ref (z + 24), .ref (z + 25), .ref (z + 26), .int 0, .ref (z + 27), .ref (z + 28), .ref (z + 29), .ref (z + 30), .ref (z + 31), .int (((-1))), .ref (z + 32), .int 0, .ref (z + 33), .ref (z + 34), .ref (z + 35), .int 0, .null, .null]) (by decide) (by decide) rfl rfl ?_
  refine bgA (m' := 37) rfl rfl ?_
  refine bgF (n := 32) (fs' := [.int 0, .int 0, .ref (z + 13), .ref (z + 14), .ref (z + 15), .ref (z + 16), .ref (z + 17), .ref (z + 18), .ref (z + 19), .int 0, .ref (z + 20), .ref (z + 21), .ref (z + 22), .ref (z + 23), .ref (z + 24), .ref (z + 25), .ref (z + 26), .int 0, .ref (z + 27), .ref (z + 28), .ref (z + 29), .ref (z + 30), .ref (z + 31), .int (((-1))), .ref (z + 32), .int 0, .ref (z + 33), .ref (z + 34), .ref (z + 35), .int 0, .ref (z + 36), .null]) (by decide) (by decide) rfl rfl ?_
  refine bgA (m' := 38) rfl rfl ?_
  refine bgF (n := 32) (fs' := [.int 0, .int 0, .ref (z + 13), .ref (z + 14), .ref (z + 15), .ref (z + 16), .ref (z + 17), .ref (z + 18), .ref (z + 19), .int 0, .ref (z + 20), .ref (z + 21), .ref (z + 22), .ref (z + 23), .ref (z + 24), .ref (z + 25), .ref (z + 26), .int 0, .ref (z + 27), .ref (z + 28), .ref (z + 29), .ref (z + 30), .ref (z + 31), .int (((-1))), .ref (z + 32), .int 0, .ref (z + 33), .ref (z + 34), .ref (z + 35), .int 0, .ref (z + 36), .ref (z + 37)]) (by decide) (by decide) rfl rfl ?_
  refine congrArg (fun M => some ((), M)) (zF_ext fun j hj => ?_)
  unfold ug
  by_cases c : j = 12
  · rw [if_pos c, c]
    rfl
  · rw [if_neg c]
theorem kd_off (z : Nat) : ∀ (k i : Nat), i < lc (E0 z) k → kd (off0 k) = k ∧ i = 0 ∧ off0 k < 38
  | 0, i, h => ⟨rfl, Nat.lt_one_iff.mp h, by decide⟩
  | 1, i, h => ⟨rfl, Nat.lt_one_iff.mp h, by decide⟩
  | 2, i, h => ⟨rfl, Nat.lt_one_iff.mp h, by decide⟩
  | 3, i, h => ⟨rfl, Nat.lt_one_iff.mp h, by decide⟩
  | 4, i, h => ⟨rfl, Nat.lt_one_iff.mp h, by decide⟩
  | 5, i, h => ⟨rfl, Nat.lt_one_iff.mp h, by decide⟩
  | 6, i, h => ⟨rfl, Nat.lt_one_iff.mp h, by decide⟩
  | 7, i, h => ⟨rfl, Nat.lt_one_iff.mp h, by decide⟩
  | 8, i, h => ⟨rfl, Nat.lt_one_iff.mp h, by decide⟩
  | 9, i, h => ⟨rfl, Nat.lt_one_iff.mp h, by decide⟩
  | 10, i, h => ⟨rfl, Nat.lt_one_iff.mp h, by decide⟩
  | 11, i, h => ⟨rfl, Nat.lt_one_iff.mp h, by decide⟩
  | 12, i, h => absurd h (Nat.not_lt_zero i)
  | 13, i, h => absurd h (Nat.not_lt_zero i)
  | 14, i, h => absurd h (Nat.not_lt_zero i)
  | 15, i, h => absurd h (Nat.not_lt_zero i)
  | 16, i, h => absurd h (Nat.not_lt_zero i)
  | 17, i, h => absurd h (Nat.not_lt_zero i)
  | 18, i, h => absurd h (Nat.not_lt_zero i)
  | 19, i, h => absurd h (Nat.not_lt_zero i)
  | 20, i, h => absurd h (Nat.not_lt_zero i)
  | 21, i, h => absurd h (Nat.not_lt_zero i)
  | 22, i, h => absurd h (Nat.not_lt_zero i)
  | 23, i, h => absurd h (Nat.not_lt_zero i)
  | 24, i, h => absurd h (Nat.not_lt_zero i)
  | 25, i, h => absurd h (Nat.not_lt_zero i)
  | 26, i, h => absurd h (Nat.not_lt_zero i)
  | 27, i, h => absurd h (Nat.not_lt_zero i)
  | 28, i, h => absurd h (Nat.not_lt_zero i)
  | 29, i, h => absurd h (Nat.not_lt_zero i)
  | 30, i, h => ⟨rfl, Nat.lt_one_iff.mp h, by decide⟩
  | 31, i, h => absurd h (Nat.not_lt_zero i)
  | 32, i, h => ⟨rfl, Nat.lt_one_iff.mp h, by decide⟩
  | 33, i, h => ⟨rfl, Nat.lt_one_iff.mp h, by decide⟩
  | 34, i, h => ⟨rfl, Nat.lt_one_iff.mp h, by decide⟩
  | 35, i, h => ⟨rfl, Nat.lt_one_iff.mp h, by decide⟩
  | 36, i, h => ⟨rfl, Nat.lt_one_iff.mp h, by decide⟩
  | 37, i, h => ⟨rfl, Nat.lt_one_iff.mp h, by decide⟩
  | 38, i, h => ⟨rfl, Nat.lt_one_iff.mp h, by decide⟩
  | 39, i, h => absurd h (Nat.not_lt_zero i)
  | 40, i, h => ⟨rfl, Nat.lt_one_iff.mp h, by decide⟩
  | 41, i, h => ⟨rfl, Nat.lt_one_iff.mp h, by decide⟩
  | 42, i, h => ⟨rfl, Nat.lt_one_iff.mp h, by decide⟩
  | 43, i, h => ⟨rfl, Nat.lt_one_iff.mp h, by decide⟩
  | 44, i, h => ⟨rfl, Nat.lt_one_iff.mp h, by decide⟩
  | 45, i, h => ⟨rfl, Nat.lt_one_iff.mp h, by decide⟩
  | 46, i, h => ⟨rfl, Nat.lt_one_iff.mp h, by decide⟩
  | 47, i, h => absurd h (Nat.not_lt_zero i)
  | 48, i, h => ⟨rfl, Nat.lt_one_iff.mp h, by decide⟩
  | 49, i, h => ⟨rfl, Nat.lt_one_iff.mp h, by decide⟩
  | 50, i, h => ⟨rfl, Nat.lt_one_iff.mp h, by decide⟩
  | 51, i, h => ⟨rfl, Nat.lt_one_iff.mp h, by decide⟩
  | 52, i, h => ⟨rfl, Nat.lt_one_iff.mp h, by decide⟩
  | 53, i, h => absurd h (Nat.not_lt_zero i)
  | 54, i, h => ⟨rfl, Nat.lt_one_iff.mp h, by decide⟩
  | 55, i, h => absurd h (Nat.not_lt_zero i)
  | 56, i, h => ⟨rfl, Nat.lt_one_iff.mp h, by decide⟩
  | 57, i, h => ⟨rfl, Nat.lt_one_iff.mp h, by decide⟩
  | 58, i, h => ⟨rfl, Nat.lt_one_iff.mp h, by decide⟩
  | 59, i, h => absurd h (Nat.not_lt_zero i)
  | 60, i, h => ⟨rfl, Nat.lt_one_iff.mp h, by decide⟩
  | 61, i, h => ⟨rfl, Nat.lt_one_iff.mp h, by decide⟩
  | m + 62, i, h => absurd h (Nat.not_lt_zero i)
theorem lc_kd (z : Nat) : ∀ j, j < 38 → 0 < lc (E0 z) (kd j) ∧ off0 (kd j) = j
  | 0, _ => ⟨Nat.one_pos, rfl⟩
  | 1, _ => ⟨Nat.one_pos, rfl⟩
  | 2, _ => ⟨Nat.one_pos, rfl⟩
  | 3, _ => ⟨Nat.one_pos, rfl⟩
  | 4, _ => ⟨Nat.one_pos, rfl⟩
  | 5, _ => ⟨Nat.one_pos, rfl⟩
  | 6, _ => ⟨Nat.one_pos, rfl⟩
  | 7, _ => ⟨Nat.one_pos, rfl⟩
  | 8, _ => ⟨Nat.one_pos, rfl⟩
  | 9, _ => ⟨Nat.one_pos, rfl⟩
  | 10, _ => ⟨Nat.one_pos, rfl⟩
  | 11, _ => ⟨Nat.one_pos, rfl⟩
  | 12, _ => ⟨Nat.one_pos, rfl⟩
  | 13, _ => ⟨Nat.one_pos, rfl⟩
  | 14, _ => ⟨Nat.one_pos, rfl⟩
  | 15, _ => ⟨Nat.one_pos, rfl⟩
  | 16, _ => ⟨Nat.one_pos, rfl⟩
  | 17, _ => ⟨Nat.one_pos, rfl⟩
  | 18, _ => ⟨Nat.one_pos, rfl⟩
  | 19, _ => ⟨Nat.one_pos, rfl⟩
  | 20, _ => ⟨Nat.one_pos, rfl⟩
  | 21, _ => ⟨Nat.one_pos, rfl⟩
  | 22, _ => ⟨Nat.one_pos, rfl⟩
  | 23, _ => ⟨Nat.one_pos, rfl⟩
  | 24, _ => ⟨Nat.one_pos, rfl⟩
  | 25, _ => ⟨Nat.one_pos, rfl⟩
  | 26, _ => ⟨Nat.one_pos, rfl⟩
  | 27, _ => ⟨Nat.one_pos, rfl⟩
  | 28, _ => ⟨Nat.one_pos, rfl⟩
  | 29, _ => ⟨Nat.one_pos, rfl⟩
  | 30, _ => ⟨Nat.one_pos, rfl⟩
  | 31, _ => ⟨Nat.one_pos, rfl⟩
  | 32, _ => ⟨Nat.one_pos, rfl⟩
  | 33, _ => ⟨Nat.one_pos, rfl⟩
  | 34, _ => ⟨Nat.one_pos, rfl⟩
  | 35, _ => ⟨Nat.one_pos, rfl⟩
  | 36, _ => ⟨Nat.one_pos, rfl⟩
  | 37, _ => ⟨Nat.one_pos, rfl⟩
  | q + 38, h => absurd h (by omega)
theorem ok0 (z : Nat) : okE (E0 z) := by
  constructor
  · intro k i k' i' h h' e
    obtain ⟨a1, a2, a3⟩ := kd_off z k i h
    obtain ⟨b1, b2, b3⟩ := kd_off z k' i' h'
    have e' : z + off0 k = z + off0 k' := e
    have e2 : off0 k = off0 k' := by omega
    rw [e2, b1] at a1
    exact ⟨a1.symm, by omega⟩
  · intro k i h
    obtain ⟨a1, a2, a3⟩ := kd_off z k i h
    show z + off0 k < z + 38
    omega
theorem mem0 (z : Nat) : zF z 38 (gF z) = mu (E0 z) s0 := by
  refine mu_ext (ok0 z) rfl ?_ ?_
  · intro k i h
    obtain ⟨a1, a2, a3⟩ := kd_off z k i h
    subst a2
    rw [show (E0 z).1 k 0 = z + off0 k from rfl, zF_at a3]
    unfold gF
    rw [a1]
  · intro a h
    show (if z ≤ a ∧ a < z + 38 then some (gF z (a - z)) else none) = none
    rw [if_neg]
    intro c
    obtain ⟨b1, b2⟩ := lc_kd z (a - z) (by omega)
    refine h ⟨(kd (a - z), 0), b1, ?_⟩
    show z + off0 (kd (a - z)) = a
    rw [b2]
    omega
theorem inv0 (z : Nat) : Inv (E0 z) s0 0 := by
  have hz : (0 : Int32) = nI 0 := nI_0.symm
  refine ⟨⟨Nat.zero_le _, Nat.zero_le _, Nat.zero_le _, hz, hz, hz, hz, hz, hz, rfl⟩, fun i h => absurd h (Nat.not_lt_zero i), ⟨fun i h => absurd h (Nat.not_lt_zero i), fun i _ _ => rfl⟩, ⟨fun i h => absurd h (Nat.not_lt_zero i), fun i _ _ => rfl⟩, fun i h => absurd h (Nat.not_lt_zero i), ⟨fun i h => absurd h (Nat.not_lt_zero i), fun i _ _ => ⟨rfl, rfl⟩⟩, ⟨fun i h => absurd h (Nat.not_lt_zero i), fun i _ _ => rfl⟩, ⟨fun i h => absurd h (Nat.not_lt_zero i), fun i _ _ => rfl⟩, fun j _ => rfl, ⟨0, Nat.le_refl _, hz, hz, fun j h => absurd h (Nat.not_lt_zero j)⟩, ⟨0, Nat.zero_le _, hz, hz, fun j h => absurd h (Nat.not_lt_zero j)⟩⟩
theorem law_init (K : Nat → Nat → mm → Option (Int32 × mm)) (z : Nat) : ((nO 0 [.null, .int 0, .null, .int 0, .null, .int 0, .null, .null, .null, .int 0] (z, fun _ => none)).bind fun (x207, M207) => (f_X_init x207 M207).bind fun (_, M208) => (nO 1 [.int 0, .int 0, .null, .null, .null, .null, .null, .null, .null, .int 0, .null, .null, .null, .null, .null, .null, .null, .int 0, .null, .null, .null, .null, .null, .int 0, .null, .int 0, .null, .null, .null, .int 0, .null, .null] M208).bind fun (x209, M209) => (f_Mo_init x209 M209).bind fun (_, M210) => K x207 x209 M210) = K ((E0 z).1 0 0) ((E0 z).1 30 0) (mu (E0 z) s0) := by
  rw [zF_0 (g := gF z)]
  refine bnO ?_
  show (f_X_init (z + 0) (zF z (0 + 1) (ug (gF z) 0 (.inr (0, [.null, .int 0, .null, .int 0, .null, .int 0, .null, .null, .null, .int 0]))))).bind _ = _
  rw [xInit]
  refine bS ?_
  refine bnO ?_
  show (f_Mo_init (z + 12) (zF z (12 + 1) (ug (gF z) 12 (.inr (1, [.int 0, .int 0, .null, .null, .null, .null, .null, .null, .null, .int 0, .null, .null, .null, .null, .null, .null, .null, .int 0, .null, .null, .null, .null, .null, .int 0, .null, .int 0, .null, .null, .null, .int 0, .null, .null]))))).bind _ = _
  rw [mInit, mem0]
  rfl
