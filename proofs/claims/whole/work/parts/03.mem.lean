/-! A MEMORY AS A FUNCTION: a method's whole reach is one memory M = (next address, what lies at each address); its walk follows a functional program over M. -/
abbrev mm : Type := Nat × (Nat → Option va_E)
def mm_tr (dA : Nat → ClassId) : va_E → va_E
  | .inl x => .inl (dA x.1, x.2)
  | .inr o => .inr o
def mm_W (D : va_G) (dA : Nat → ClassId) (A : Nat → Prop) (M : mm) (H : Heap) : Prop := H.size = M.1 ∧ ∀ (a : Nat) (e : va_E), M.2 a = some e → va_at D classes (a, mm_tr dA e) H ∧ A a
def mm_A (M : mm) : Nat → Prop := fun q => (∃ e, M.2 q = some e) ∨ M.1 ≤ q
def mm_up (M : mm) (a : Nat) (e : va_E) : mm := (M.1, va_up M.2 a (some e))
def mm_ad (M : mm) (e : va_E) : mm := (M.1 + 1, va_up M.2 M.1 (some e))
/-- reads and writes, as partial functions -/
def gI (ci k : Nat) (M : mm) (a : Nat) : Option Int32 := match M.2 a with
  | some (.inr (c, fs)) => if c = ci then (match fs[k]? with | some (.int x) => some x | _ => none) else none
  | _ => none
def gR (ci k : Nat) (M : mm) (a : Nat) : Option Nat := match M.2 a with
  | some (.inr (c, fs)) => if c = ci then (match fs[k]? with | some (.ref x) => some x | _ => none) else none
  | _ => none
def pF (ci k : Nat) (v : Value) (M : mm) (a : Nat) : Option mm := match M.2 a with
  | some (.inr (c, fs)) => if c = ci ∧ k < fs.length then some (mm_up M a (.inr (ci, fs.set k v))) else none
  | _ => none
/-- a boolean field or answer: 0 or 1 -/
def kB (x : Int32) : Option Unit := if x = 0 ∨ x = 1 then some () else none
/-- an object of the class is there -/
def kO (ci : Nat) (M : mm) (a : Nat) : Option Unit := match M.2 a with
  | some (.inr (c, _)) => if c = ci then some () else none
  | _ => none
def kZ (x : Int32) : Option Unit := if x = 0 then none else some ()
def aI (M : mm) (a : Nat) (i : Int32) : Option Int32 := match M.2 a with
  | some (.inl (t, n, .inl f)) => if t = 0 ∧ 0 ≤ i ∧ i.toNatClampNeg < n then some (f i.toNatClampNeg) else none
  | _ => none
def sI (x : Int32) (M : mm) (a : Nat) (i : Int32) : Option mm := match M.2 a with
  | some (.inl (t, n, .inl f)) => if t = 0 ∧ 0 ≤ i ∧ i.toNatClampNeg < n then some (mm_up M a (.inl (0, n, .inl (upd f i.toNatClampNeg x)))) else none
  | _ => none
def aZ (M : mm) (a : Nat) (i : Int32) : Option Int32 := match M.2 a with
  | some (.inl (t, n, .inl f)) => if t = 1 ∧ 0 ≤ i ∧ i.toNatClampNeg < n then some (f i.toNatClampNeg) else none
  | _ => none
def sZ (x : Int32) (M : mm) (a : Nat) (i : Int32) : Option mm := match M.2 a with
  | some (.inl (t, n, .inl f)) => if (x = 0 ∨ x = 1) ∧ t = 1 ∧ 0 ≤ i ∧ i.toNatClampNeg < n then some (mm_up M a (.inl (1, n, .inl (upd f i.toNatClampNeg x)))) else none
  | _ => none
def aL (M : mm) (a : Nat) : Option Int32 := match M.2 a with
  | some (.inl (_, n, _)) => some (Int32.ofNat n)
  | _ => none
def aR (t0 : Nat) (M : mm) (a : Nat) (i : Int32) : Option Nat := match M.2 a with
  | some (.inl (t, n, .inr (.inr (.inr (.inr f))))) => if t = t0 ∧ 0 ≤ i ∧ i.toNatClampNeg < n then f i.toNatClampNeg else none
  | _ => none
def sR (t0 ci : Nat) (v : Nat) (M : mm) (a : Nat) (i : Int32) : Option mm := match M.2 a, M.2 v with
  | some (.inl (t, n, .inr (.inr (.inr (.inr f))))), some (.inr (c, _)) => if t = t0 ∧ c = ci ∧ 0 ≤ i ∧ i.toNatClampNeg < n then some (mm_up M a (.inl (t0, n, .inr (.inr (.inr (.inr (va_up f i.toNatClampNeg (some v)))))))) else none
  | _, _ => none
def nO (ci : Nat) (fs : List Value) (M : mm) : Option (Nat × mm) := some (M.1, mm_ad M (.inr (ci, fs)))
def nA (n : Nat) (M : mm) : Option (Nat × mm) := some (M.1, mm_ad M (.inl (0, n, .inl (fun _ => 0))))
def nZ (n : Nat) (M : mm) : Option (Nat × mm) := some (M.1, mm_ad M (.inl (1, n, .inl (fun _ => 0))))
def nQ (t n : Nat) (M : mm) : Option (Nat × mm) := some (M.1, mm_ad M (.inl (t, n, .inr (.inr (.inr (.inr (fun _ => none)))))))
/-- the script -/
def sc (L : Nat) (xs : Nat → Int32) (i : Int32) : Option Int32 := if 0 ≤ i ∧ i.toNatClampNeg < L then some (xs i.toNatClampNeg) else none
theorem ob {α β : Type} {x : Option α} {f : α → Option β} {o : β} (h : x.bind f = some o) : ∃ a, x = some a ∧ f a = some o := by
  cases x with
  | none => cases h
  | some a => exact ⟨a, rfl, h⟩
theorem gI_some {ci k : Nat} {M : mm} {a : Nat} {x : Int32} (h : gI ci k M a = some x) : ∃ fs, M.2 a = some (.inr (ci, fs)) ∧ fs[k]? = some (.int x) := by
  unfold gI at h
  split at h
  · rename_i c fs hm
    split at h
    · rename_i hc
      subst hc
      split at h
      · rename_i y hy
        cases h
        exact ⟨fs, hm, hy⟩
      · cases h
    · cases h
  · cases h
theorem gR_some {ci k : Nat} {M : mm} {a : Nat} {x : Nat} (h : gR ci k M a = some x) : ∃ fs, M.2 a = some (.inr (ci, fs)) ∧ fs[k]? = some (.ref x) := by
  unfold gR at h
  split at h
  · rename_i c fs hm
    split at h
    · rename_i hc
      subst hc
      split at h
      · rename_i y hy
        cases h
        exact ⟨fs, hm, hy⟩
      · cases h
    · cases h
  · cases h
theorem pF_some {ci k : Nat} {v : Value} {M M1 : mm} {a : Nat} (h : pF ci k v M a = some M1) : ∃ fs, M.2 a = some (.inr (ci, fs)) ∧ k < fs.length ∧ M1 = mm_up M a (.inr (ci, fs.set k v)) := by
  unfold pF at h
  split at h
  · rename_i c fs hm
    split at h
    · rename_i hc
      obtain ⟨hc, hk⟩ := hc
      subst hc
      cases h
      exact ⟨fs, hm, hk, rfl⟩
    · cases h
  · cases h
theorem kO_some {ci : Nat} {M : mm} {a : Nat} {u : Unit} (h : kO ci M a = some u) : ∃ fs, M.2 a = some (.inr (ci, fs)) := by
  unfold kO at h
  split at h
  · rename_i c fs hm
    split at h
    · rename_i hc
      subst hc
      exact ⟨fs, hm⟩
    · cases h
  · cases h
theorem kB_some {x : Int32} {u : Unit} (h : kB x = some u) : narrow .boolean (.int x) = .int x ∧ fits .boolean (.int x) = true := by
  unfold kB at h
  split at h
  · rename_i hc
    rcases hc with rfl | rfl <;> exact ⟨by decide +kernel, by decide +kernel⟩
  · cases h
theorem kZ_some {x : Int32} {u : Unit} (h : kZ x = some u) : ¬ x = 0 := by
  unfold kZ at h
  split at h
  · cases h
  · assumption
theorem ix_in {i : Int32} {n : Nat} (h0 : 0 ≤ i) (h1 : i.toNatClampNeg < n) : vp_in i n := fun h => by
  rcases h with h | h
  · exact absurd h (Int32.not_lt.mpr h0)
  · omega
theorem aI_some {M : mm} {a : Nat} {i x : Int32} (h : aI M a i = some x) : ∃ n f, M.2 a = some (.inl (0, n, .inl f)) ∧ vp_in i n ∧ x = f i.toNatClampNeg := by
  unfold aI at h
  split at h
  · rename_i t n f hm
    split at h
    · rename_i hc
      obtain ⟨ht, h0, h1⟩ := hc
      subst ht
      cases h
      exact ⟨n, f, hm, ix_in h0 h1, rfl⟩
    · cases h
  · cases h
theorem sI_some {M M1 : mm} {a : Nat} {i x : Int32} (h : sI x M a i = some M1) : ∃ n f, M.2 a = some (.inl (0, n, .inl f)) ∧ vp_in i n ∧ M1 = mm_up M a (.inl (0, n, .inl (upd f i.toNatClampNeg x))) := by
  unfold sI at h
  split at h
  · rename_i t n f hm
    split at h
    · rename_i hc
      obtain ⟨ht, h0, h1⟩ := hc
      subst ht
      cases h
      exact ⟨n, f, hm, ix_in h0 h1, rfl⟩
    · cases h
  · cases h
theorem aZ_some {M : mm} {a : Nat} {i x : Int32} (h : aZ M a i = some x) : ∃ n f, M.2 a = some (.inl (1, n, .inl f)) ∧ vp_in i n ∧ x = f i.toNatClampNeg := by
  unfold aZ at h
  split at h
  · rename_i t n f hm
    split at h
    · rename_i hc
      obtain ⟨ht, h0, h1⟩ := hc
      subst ht
      cases h
      exact ⟨n, f, hm, ix_in h0 h1, rfl⟩
    · cases h
  · cases h
theorem sZ_some {M M1 : mm} {a : Nat} {i x : Int32} (h : sZ x M a i = some M1) : ∃ n f, M.2 a = some (.inl (1, n, .inl f)) ∧ vp_in i n ∧ narrow .boolean (.int x) = .int x ∧ M1 = mm_up M a (.inl (1, n, .inl (upd f i.toNatClampNeg x))) := by
  unfold sZ at h
  split at h
  · rename_i t n f hm
    split at h
    · rename_i hc
      obtain ⟨hz, ht, h0, h1⟩ := hc
      subst ht
      cases h
      refine ⟨n, f, hm, ix_in h0 h1, ?_, rfl⟩
      rcases hz with rfl | rfl <;> decide +kernel
    · cases h
  · cases h
theorem aR_some {t0 : Nat} {M : mm} {a : Nat} {i : Int32} {x : Nat} (h : aR t0 M a i = some x) : ∃ n f, M.2 a = some (.inl (t0, n, .inr (.inr (.inr (.inr f))))) ∧ vp_in i n ∧ f i.toNatClampNeg = some x := by
  unfold aR at h
  split at h
  · rename_i t n f hm
    split at h
    · rename_i hc
      obtain ⟨ht, h0, h1⟩ := hc
      subst ht
      exact ⟨n, f, hm, ix_in h0 h1, h⟩
    · cases h
  · cases h
theorem sR_some {t0 ci v : Nat} {M M1 : mm} {a : Nat} {i : Int32} (h : sR t0 ci v M a i = some M1) : ∃ n f vs, M.2 a = some (.inl (t0, n, .inr (.inr (.inr (.inr f))))) ∧ M.2 v = some (.inr (ci, vs)) ∧ vp_in i n ∧ M1 = mm_up M a (.inl (t0, n, .inr (.inr (.inr (.inr (va_up f i.toNatClampNeg (some v))))))) := by
  unfold sR at h
  split at h
  · rename_i t n f c vs hm hv
    split at h
    · rename_i hc
      obtain ⟨ht, hc, h0, h1⟩ := hc
      subst ht
      subst hc
      cases h
      exact ⟨n, f, vs, hm, hv, ix_in h0 h1, rfl⟩
    · cases h
  · cases h
theorem sc_some {L : Nat} {xs : Nat → Int32} {i x : Int32} (h : sc L xs i = some x) : vp_in i L ∧ x = xs i.toNatClampNeg := by
  unfold sc at h
  split at h
  · rename_i hc
    cases h
    exact ⟨ix_in hc.1 hc.2, rfl⟩
  · cases h
section MMW
variable {D : va_G} {dA : Nat → ClassId} {A B : Nat → Prop} {M : mm} {H H1 : Heap} {a : Nat} {e e0 : va_E}
theorem mm_one (h : mm_W D dA A M H) (ha : M.2 a = some e) : va_P D classes [(a, mm_tr dA e)] H := by
  intro k q hk
  cases k with
  | zero =>
    have hq := Option.some.inj hk
    subst hq
    exact (h.2 a e ha).1
  | succ k => simp at hk
theorem mm_W_up (hW : mm_W D dA A M H) (ha : M.2 a = some e0) (he : va_at D classes (a, mm_tr dA e) H1) (z : H1.size = H.size) (oq : ∀ q : Nat, q ≠ a → H1[q]? = H[q]?) : mm_W D dA A (mm_up M a e) H1 := by
  refine ⟨z.trans hW.1, fun b e' hb => ?_⟩
  by_cases hba : b = a
  · subst hba
    have hb2 : some e = some e' := by simpa [mm_up, va_up] using hb
    cases hb2
    exact ⟨he, (hW.2 b e0 ha).2⟩
  · have hb2 : M.2 b = some e' := by simpa [mm_up, va_up, hba] using hb
    exact ⟨(hW.2 b e' hb2).1.kept (oq b hba), (hW.2 b e' hb2).2⟩
theorem mm_W_ad (hW : mm_W D dA A M H) (hA : A M.1) (he : va_at D classes (M.1, mm_tr dA e) H1) (z : H1.size = H.size + 1) (oq : ∀ q : Nat, q < H.size → H1[q]? = H[q]?) : mm_W D dA A (mm_ad M e) H1 := by
  refine ⟨by rw [z, hW.1]; rfl, fun b e' hb => ?_⟩
  by_cases hba : b = M.1
  · subst hba
    have hb2 : some e = some e' := by simpa [mm_ad, va_up] using hb
    cases hb2
    exact ⟨he, hA⟩
  · have hb2 : M.2 b = some e' := by simpa [mm_ad, va_up, hba] using hb
    have hlt := (hW.2 b e' hb2).1.lt
    exact ⟨(hW.2 b e' hb2).1.kept (oq b hlt), (hW.2 b e' hb2).2⟩
theorem mm_W_wk (hW : mm_W D dA A M H) (h : ∀ q, A q → B q) : mm_W D dA B M H := ⟨hW.1, fun a e ha => ⟨(hW.2 a e ha).1, h a (hW.2 a e ha).2⟩⟩
theorem mm_W_self (hW : mm_W D dA A M H) : mm_W D dA (mm_A M) M H := ⟨hW.1, fun a e ha => ⟨(hW.2 a e ha).1, Or.inl ⟨e, ha⟩⟩⟩
end MMW
/-- the tables as every method sees them: classes, array classes, the words of nest mates and of arrays of references -/
def mm_K (D : va_G) (dA : Nat → ClassId) (U : State) : Prop := va_K D classes (mm_tys dA) U ∧ (∀ q ∈ mm_nestM, va_Nw (.methodLinkNest q.1 q.2.1 q.2.2.1 q.2.2.2) U) ∧ (∀ q ∈ mm_nestF, va_Nw (.fieldLinkNest q.1 q.2.1 q.2.2.1 q.2.2.2.1 q.2.2.2.2.1 q.2.2.2.2.2) U) ∧ ∀ q ∈ mm_over, va_AO q U
theorem mm_K_moved {D : va_G} {dA : Nat → ClassId} {s U : State} (hW : s.WarmedH U.vm) (h : mm_K D dA s) : mm_K D dA U :=
  ⟨h.1.moved hW.alike, fun q hq => (h.2.1 q hq).warmM hW, fun q hq => (h.2.2.1 q hq).warmF hW, fun q hq => (h.2.2.2 q hq).moved hW.alike⟩
theorem mm_K_same {D : va_G} {dA : Nat → ClassId} {u U : State} (hv : u.vm = U.vm) (h : mm_K D dA u) : mm_K D dA U :=
  ⟨h.1.moved (by rw [hv]; exact Vm.Alike.refl _), fun q hq => (h.2.1 q hq).same rfl hv, fun q hq => (h.2.2.1 q hq).same rfl hv, fun q hq => (h.2.2.2 q hq).moved (by rw [hv]; exact Vm.Alike.refl _)⟩
/-- a contract's start and its ends -/
def mm_Pre (D : va_G) (dA : Nat → ClassId) (M : mm) (av : List Value) : Array Value → State → Prop := va_Pc av (fun U => mm_W D dA (mm_A M) M U.heap ∧ mm_K D dA U)
theorem mm_blind {D : va_G} {dA : Nat → ClassId} {M : mm} {av : List Value} : FrameBlind (mm_Pre D dA M av) := fun a U g mk h => ⟨h.1, h.2.1, mm_K_same (u := U) (U := U.calling g mk a) rfl h.2.2⟩
def mm_QI (D : va_G) (dA : Nat → ClassId) (M : mm) (r : Int32) (M1 : mm) : Array Value → State → Outcome → State → Prop := va_Qi (fun x (_ : Unit) => x = r) (fun _ t => mm_W D dA (mm_A M) M1 t.heap) (mm_A M)
def mm_QV (D : va_G) (dA : Nat → ClassId) (M : mm) (_ : Unit) (M1 : mm) : Array Value → State → Outcome → State → Prop := va_Qv (fun (_ : Unit) => True) (fun _ t => mm_W D dA (mm_A M) M1 t.heap) (mm_A M)
def mm_QQ (D : va_G) (dA : Nat → ClassId) (M : mm) (r : Option Nat) (M1 : mm) : Array Value → State → Outcome → State → Prop := va_Qq (fun x (_ : Unit) => x = r) (fun _ t => mm_W D dA (mm_A M) M1 t.heap) (mm_A M)
/-- what stands fixed while a method walks -/
def mm_C (p : Program) (s : State) (m : MethodId) (args : Array Value) (meth : Method) (c : Code) (cc : ByteArray) (nL : Nat) (ret : Option FieldType) (own : String) (D : va_G) (dA : Nat → ClassId) (A : Nat → Prop) : Prop :=
  p.tables.exec = Jvm.exec ∧ c.code = cc ∧ meth.sig.returnType = ret ∧ c.maxLocals = nL ∧ s.vm.findClass own = some m.cls ∧ (∀ w ∈ mm_G, w.before args s = true) ∧ meth.locks = false ∧ mm_K D dA s ∧ (∀ q, s.heap.size ≤ q → A q)
/-- a field's link: its class, its place, its words -/
def mm_FL (own : String) (index ci k : Nat) : Prop := ∃ (C : String) (T : u_T) (N : Nat), classes[ci]? = some (C, T, N) ∧ k < N ∧ (∀ w ∈ u_ws C T N, w ∈ mm_G) ∧ Cond.fieldLink own index (T k).1 (T k).2.1 (T k).2.2.1 ∈ mm_G
/-- a field's link for a write: its type, final or not -/
def mm_FP (own : String) (index ci k : Nat) (ty : FieldType) (fin : Bool) : Prop := ∃ (C : String) (T : u_T) (N : Nat) (ty0 : Nat → FieldType), classes[ci]? = some (C, T, N) ∧ k < N ∧ (∀ w ∈ u_ws C T N, w ∈ mm_G) ∧ Cond.fieldLink own index (T k).1 (T k).2.1 (T k).2.2.1 ∈ mm_G ∧ (∀ k, k < N → parseFieldDescriptor (T k).2.2.1 = some (ty0 k)) ∧ (∀ a, a < N → ∀ b, b < N → a ≠ b → (T a).2.1 ≠ (T b).2.1) ∧ (T k).2.2.2 = fin ∧ parseFieldDescriptor (T k).2.2.1 = some ty ∧ (fin = true → (T k).1 = own)
section MMR
variable {p : Program} {l : Launch} {e : Env} {R : Room} {s : State} {m : MethodId} {args : Array Value} {below : List Frame} {meth : Method} {c : Code} {H : Heap} {locs : List Loc} {cells slots : Nat} {Q : State → Prop}
variable {cc : ByteArray} {nL : Nat} {ret : Option FieldType} {own : String} {D : va_G} {dA : Nat → ClassId} {A : Nat → Prop} {M M1 : mm} {pc : Nat} {ls : Array Slot} {rest : List Value} {a index ci k : Nat}
theorem mr_get (C : mm_C p s m args meth c cc nL ret own D dA A) (hW : mm_W D dA A M H) (hF : mm_FL own index ci k) {fs : List Value} {v : Value} (ha : M.2 a = some (.inr (ci, fs))) (hv : fs[k]? = some v) (hdg : decode cc pc = .ok (.getfield index, 3))
    (kk : W p l e R s m args below meth c H locs cells slots Q (F0 m (pc + 3) ls (v :: rest))) : W p l e R s m args below meth c H locs cells slots Q (F0 m pc ls (.ref a :: rest)) := by
  obtain ⟨hx, hb, hr, hml, hown, hts, hlocks, hK, hA⟩ := C
  obtain ⟨Cn, T, N, hc, hk, hin, hlk⟩ := hF
  exact va_get (D := D) hx hb hts hin hown hK.1 (mm_one hW ha) 0 rfl hc k hk (hts _ hlk) (fun _ h => h) hv hdg kk
theorem mr_gI (C : mm_C p s m args meth c cc nL ret own D dA A) (hW : mm_W D dA A M H) (hF : mm_FL own index ci k) {x : Int32} (h : gI ci k M a = some x) (hdg : decode cc pc = .ok (.getfield index, 3))
    (kk : W p l e R s m args below meth c H locs cells slots Q (F0 m (pc + 3) ls (.int x :: rest))) : W p l e R s m args below meth c H locs cells slots Q (F0 m pc ls (.ref a :: rest)) := by
  obtain ⟨fs, h1, h2⟩ := gI_some h
  exact mr_get C hW hF h1 h2 hdg kk
theorem mr_gR (C : mm_C p s m args meth c cc nL ret own D dA A) (hW : mm_W D dA A M H) (hF : mm_FL own index ci k) {x : Nat} (h : gR ci k M a = some x) (hdg : decode cc pc = .ok (.getfield index, 3))
    (kk : W p l e R s m args below meth c H locs cells slots Q (F0 m (pc + 3) ls (.ref x :: rest))) : W p l e R s m args below meth c H locs cells slots Q (F0 m pc ls (.ref a :: rest)) := by
  obtain ⟨fs, h1, h2⟩ := gR_some h
  exact mr_get C hW hF h1 h2 hdg kk
theorem mr_put (C : mm_C p s m args meth c cc nL ret own D dA A) (hW : mm_W D dA A M H) (hS0 : va_S A s.heap H locs) {ty : FieldType} (hF : mm_FP own index ci k ty false) {v : Value} (hn : narrow ty v = v) (hfit : fits ty v = true) (h : pF ci k v M a = some M1) (hdg : decode cc pc = .ok (.putfield index, 3))
    (kk : ∀ (H1 : Heap) (locs1 : List Loc), mm_W D dA A M1 H1 → va_S A s.heap H1 locs1 → W p l e R s m args below meth c H1 locs1 cells slots Q (F0 m (pc + 3) ls rest)) : W p l e R s m args below meth c H locs cells slots Q (F0 m pc ls (v :: .ref a :: rest)) := by
  obtain ⟨hx, hb, hr, hml, hown, hts, hlocks, hK, hA⟩ := C
  obtain ⟨Cn, T, N, ty0, hc, hk, hin, hlk, hty, hnm, hfin, hd, -⟩ := hF
  obtain ⟨fs, ha, hl, rfl⟩ := pF_some h
  have hap := va_apart (own := own) hts hin ty0 hty hnm hK.1 hc
  obtain ⟨r, h1, cell, q1, q2, q3, q4⟩ := (hW.2 a _ ha).1
  have hr : r = (Cn, T, N) := Option.some.inj (h1.symm.trans hc)
  subst hr
  obtain ⟨hS, hfc, kC, hkC, hkind⟩ := hK.1.1 ci _ hc
  obtain ⟨cf, kf, fi, f, hi, hsl⟩ := hS k hk
  have hlay := hts _ (hin _ (u_in_lay hk))
  unfold u_lay at hlay
  rw [if_neg (by rw [hfin]; decide)] at hlay
  have hst := (u_facts hfc hkC (u_lays hts hin hk) hi).1
  have h6 := u_store hfc hkC hkind hlay hi hd hn hfit
  refine W.putK hx hb (f := f) ⟨hown, hts _ hlk, ⟨_, _, _, hi⟩, hst⟩ (by rw [q2]; exact h6) q1 q3 (by rw [hsl]; exact k2_hasslot (q4 k hk)) rfl rfl hdg fun H' e1 e2 e3 => ?_
  rw [hsl] at e1 ⊢
  exact kk H' _ (mm_W_up hW ha ⟨_, hc, t_OB.to (V := updV (vp_V fs) k v) ⟨_, e1, q2, q3, t_set q4 hap hk v⟩ (fun j _ => vp_updV_set hl v j)⟩ e2 e3) (hS0.put e2 e3 (hW.2 a _ ha).2)
theorem mr_putF (C : mm_C p s m args meth c cc nL ret own D dA A) (hW : mm_W D dA A M H) (hS0 : va_S A s.heap H locs) {ty : FieldType} (hF : mm_FP own index ci k ty true) (hin2 : meth.name = "<init>") {v : Value} (hn : narrow ty v = v) (hfit : fits ty v = true) (h : pF ci k v M a = some M1) (hdg : decode cc pc = .ok (.putfield index, 3))
    (kk : ∀ (H1 : Heap) (locs1 : List Loc), mm_W D dA A M1 H1 → va_S A s.heap H1 locs1 → W p l e R s m args below meth c H1 locs1 cells slots Q (F0 m (pc + 3) ls rest)) : W p l e R s m args below meth c H locs cells slots Q (F0 m pc ls (v :: .ref a :: rest)) := by
  obtain ⟨hx, hb, hr, hml, hown, hts, hlocks, hK, hA⟩ := C
  obtain ⟨Cn, T, N, ty0, hc, hk, hin, hlk, hty, hnm, hfin, hd, hdecl⟩ := hF
  have hdecl := hdecl rfl
  obtain ⟨fs, ha, hl, rfl⟩ := pF_some h
  have hap := va_apart (own := own) hts hin ty0 hty hnm hK.1 hc
  obtain ⟨r, h1, cell, q1, q2, q3, q4⟩ := (hW.2 a _ ha).1
  have hr : r = (Cn, T, N) := Option.some.inj (h1.symm.trans hc)
  subst hr
  obtain ⟨hS, hfc, kC, hkC, hkind⟩ := hK.1.1 ci _ hc
  obtain ⟨cf, kf, fi, f, hi, hsl⟩ := hS k hk
  have hlay := hts _ (hin _ (u_in_lay hk))
  unfold u_lay at hlay
  rw [if_pos hfin] at hlay
  have hst := (u_facts hfc hkC (u_lays hts hin hk) hi).1
  have hcf : m.cls = cf := by
    obtain ⟨_, _, c', _, _, _, -, -, hf', -, -, -, hown2, -⟩ := Cond.laysFinal_spec hlay
    have e1 : c' = cf := by have := hi.symm.trans hf'; simp at this; exact this.1.symm
    rw [hdecl] at hown2
    rw [← e1]; exact Option.some.inj (hown.symm.trans hown2)
  have h6 := u_fits hfc hkC hkind (Or.inr hlay) hi hd hn hfit
  refine W.putFinK hx hb hown (hts _ hlk) hi hst hcf hin2 (by rw [q2]; exact h6) q1 q3 (by rw [hsl]; exact k2_hasslot (q4 k hk)) rfl rfl hdg fun H' e1 e2 e3 => ?_
  rw [hsl] at e1 ⊢
  exact kk H' _ (mm_W_up hW ha ⟨_, hc, t_OB.to (V := updV (vp_V fs) k v) ⟨_, e1, q2, q3, t_set q4 hap hk v⟩ (fun j _ => vp_updV_set hl v j)⟩ e2 e3) (hS0.put e2 e3 (hW.2 a _ ha).2)
theorem mr_aI (C : mm_C p s m args meth c cc nL ret own D dA A) (hW : mm_W D dA A M H) {i x : Int32} (h : aI M a i = some x) (hdg : decode cc pc = .ok (.iaload, 1))
    (kk : W p l e R s m args below meth c H locs cells slots Q (F0 m (pc + 1) ls (.int x :: rest))) : W p l e R s m args below meth c H locs cells slots Q (F0 m pc ls (.int i :: .ref a :: rest)) := by
  obtain ⟨hx, hb, hr, hml, hown, hts, hlocks, hK, hA⟩ := C
  obtain ⟨n, f, ha, hin, rfl⟩ := aI_some h
  exact va_iald (D := D) hx hb hK.1 (mm_one hW ha) 0 0 rfl rfl hin hdg kk
theorem mr_sI (C : mm_C p s m args meth c cc nL ret own D dA A) (hW : mm_W D dA A M H) (hS : va_S A s.heap H locs) {i x : Int32} (h : sI x M a i = some M1) (hdg : decode cc pc = .ok (.iastore, 1))
    (kk : ∀ (H1 : Heap) (locs1 : List Loc), mm_W D dA A M1 H1 → va_S A s.heap H1 locs1 → W p l e R s m args below meth c H1 locs1 cells slots Q (F0 m (pc + 1) ls rest)) : W p l e R s m args below meth c H locs cells slots Q (F0 m pc ls (.int x :: .int i :: .ref a :: rest)) := by
  obtain ⟨hx, hb, hr, hml, hown, hts, hlocks, hK, hA⟩ := C
  obtain ⟨n, f, ha, hin, rfl⟩ := sI_some h
  refine W.iast hx hb (hW.2 a _ ha).1 ((hK.1.2 0 _ rfl).1 n (fun j => .int (f j))) (fun q => by cases q) (by show ¬ (i < 0 ∨ (arrV _ _ _).slots.size ≤ _); rw [arrV_size]; exact hin) rfl rfl hdg fun H1 e z oq => ?_
  refine kk H1 _ (mm_W_up hW ha ?_ z oq) (hS.put z oq (hW.2 a _ ha).2)
  show H1[a]? = some (vp_cell _ _)
  rw [e]
  rw [vp_cell_i, vp_cell_i, arrV_store]
  congr 2
  funext q
  by_cases hq : q = i.toNatClampNeg
  · subst hq
    simp [updV, upd]
  · simp [updV, upd, hq]
theorem mr_aZ (C : mm_C p s m args meth c cc nL ret own D dA A) (hW : mm_W D dA A M H) {i x : Int32} (h : aZ M a i = some x) (hdg : decode cc pc = .ok (.baload, 1))
    (kk : W p l e R s m args below meth c H locs cells slots Q (F0 m (pc + 1) ls (.int x :: rest))) : W p l e R s m args below meth c H locs cells slots Q (F0 m pc ls (.int i :: .ref a :: rest)) := by
  obtain ⟨hx, hb, hr, hml, hown, hts, hlocks, hK, hA⟩ := C
  obtain ⟨n, f, ha, hin, rfl⟩ := aZ_some h
  exact va_zald (D := D) hx hb hK.1 (mm_one hW ha) 0 1 rfl rfl hin hdg kk
theorem mr_sZ (C : mm_C p s m args meth c cc nL ret own D dA A) (hW : mm_W D dA A M H) (hS : va_S A s.heap H locs) {i x : Int32} (h : sZ x M a i = some M1) (hdg : decode cc pc = .ok (.bastore, 1))
    (kk : ∀ (H1 : Heap) (locs1 : List Loc), mm_W D dA A M1 H1 → va_S A s.heap H1 locs1 → W p l e R s m args below meth c H1 locs1 cells slots Q (F0 m (pc + 1) ls rest)) : W p l e R s m args below meth c H locs cells slots Q (F0 m pc ls (.int x :: .int i :: .ref a :: rest)) := by
  obtain ⟨hx, hb, hr, hml, hown, hts, hlocks, hK, hA⟩ := C
  obtain ⟨n, f, ha, hin, hz, rfl⟩ := sZ_some h
  refine W.zast hx hb (hW.2 a _ ha).1 ((hK.1.2 1 _ rfl).1 n (fun j => .int (f j))) (fun q => by cases q) (by show ¬ (i < 0 ∨ (arrV _ _ _).slots.size ≤ _); rw [arrV_size]; exact hin) rfl rfl hdg fun H1 e z oq => ?_
  refine kk H1 _ (mm_W_up hW ha ?_ z oq) (hS.put z oq (hW.2 a _ ha).2)
  show H1[a]? = some (vp_cell _ _)
  rw [e]
  rw [vp_cell_i, vp_cell_i, arrV_store]
  congr 2
  funext q
  by_cases hq : q = i.toNatClampNeg
  · subst hq
    simp [updV, upd]
    exact hz
  · simp [updV, upd, hq]
theorem mr_aR (C : mm_C p s m args meth c cc nL ret own D dA A) (hW : mm_W D dA A M H) {t0 : Nat} {cn : String} (ht : (mm_tys dA)[t0]? = some (dA t0, .object cn)) {i : Int32} {x : Nat} (h : aR t0 M a i = some x) (hdg : decode cc pc = .ok (.aaload, 1))
    (kk : W p l e R s m args below meth c H locs cells slots Q (F0 m (pc + 1) ls (.ref x :: rest))) : W p l e R s m args below meth c H locs cells slots Q (F0 m pc ls (.int i :: .ref a :: rest)) := by
  obtain ⟨hx, hb, hr, hml, hown, hts, hlocks, hK, hA⟩ := C
  obtain ⟨n, f, ha, hin, hf⟩ := aR_some h
  refine va_aldq (D := D) hx hb hK.1 (mm_one hW ha) 0 t0 rfl ht hin hdg ?_
  rw [hf]
  exact kk
theorem mr_sR (C : mm_C p s m args meth c cc nL ret own D dA A) (hW : mm_W D dA A M H) (hS : va_S A s.heap H locs) {t0 v : Nat} {r : vw_C} (hc : classes[ci]? = some r) (ht : (mm_tys dA)[t0]? = some (dA t0, .object r.1)) {i : Int32} (h : sR t0 ci v M a i = some M1) (hdg : decode cc pc = .ok (.aastore, 1))
    (kk : ∀ (H1 : Heap) (locs1 : List Loc), mm_W D dA A M1 H1 → va_S A s.heap H1 locs1 → W p l e R s m args below meth c H1 locs1 cells slots Q (F0 m (pc + 1) ls rest)) : W p l e R s m args below meth c H locs cells slots Q (F0 m pc ls (.ref v :: .int i :: .ref a :: rest)) := by
  obtain ⟨hx, hb, hr, hml, hown, hts, hlocks, hK, hA⟩ := C
  obtain ⟨n, f, vs, ha, hv, hin, rfl⟩ := sR_some h
  have hlt : i.toNatClampNeg < n := Nat.not_le.mp fun q => hin (Or.inr q)
  have h0 : ¬ i < 0 := fun q => hin (Or.inl q)
  obtain ⟨r', hr', cellV, g1, g2, g3, -⟩ := (hW.2 v _ hv).1
  have hcls := (hK.1.1 ci r hc).2
  obtain ⟨kA, comp, k1, k2, k3, -⟩ := (hK.1.2 t0 _ ht).2
  have hcomp : comp = D.1 ci := Option.some.inj (k3.symm.trans hcls.1)
  subst hcomp
  obtain ⟨kC, hkC, -⟩ := hcls.2
  refine W.aast hx hb (hW.2 a _ ha).1 (fun q h => by cases h) (fun h => by cases h) k1 k2 rfl hkC ⟨h0, by show _ < (arrV _ _ _).slots.size; rw [arrV_size]; exact hlt⟩ g1 (fun q h => by rw [g3] at h; cases h) (by rw [g2]; exact hkC) (by rw [g2]; exact va_assign hcls) rfl rfl hdg fun H1 e z oq => ?_
  refine kk H1 _ (mm_W_up hW ha ?_ z oq) (hS.put z oq (hW.2 a _ ha).2)
  show H1[a]? = some (vp_cell _ _)
  rw [e]
  rw [vp_cell_q, vp_cell_q, arrV_store]
  congr 2
  funext q
  by_cases hq : q = i.toNatClampNeg
  · subst hq
    simp [updV, va_up, va_rf]
  · simp [updV, va_up, hq]
theorem mr_nO (C : mm_C p s m args meth c cc nL ret own D dA A) (hW : mm_W D dA A M H) (hS : va_S A s.heap H locs) {Cn : String} {T : u_T} {N : Nat} {ty : Nat → FieldType} {fs : List Value} (hc : classes[ci]? = some (Cn, T, N)) (hin : ∀ w ∈ u_ws Cn T N, w ∈ mm_G) (hty : ∀ k, k < N → parseFieldDescriptor (T k).2.2.1 = some (ty k)) (hlk : Cond.classLink own index Cn ∈ mm_G ∧ Cond.instantiable Cn N ∈ mm_G ∧ Cond.initialized Cn ∈ mm_G)
    (hfs : ∀ j, j < N → defaultValue (ty j) = vp_V fs j) (hcells : cells + 1 ≤ R.cells) (hslots : slots + N ≤ R.slots) {q : Nat} (h : nO ci fs M = some (q, M1)) (hdg : decode cc pc = .ok (.new index, 3))
    (kk : ∀ (H1 : Heap), mm_W D dA A M1 H1 → va_S A s.heap H1 locs → W p l e R s m args below meth c H1 locs (cells + 1) (slots + N) Q (F0 m (pc + 3) ls (.ref q :: rest))) : W p l e R s m args below meth c H locs cells slots Q (F0 m pc ls rest) := by
  obtain ⟨hx, hb, hr, hml, hown, hts, hlocks, hK, hA⟩ := C
  cases h
  have hKn := hK.1.1 ci _ hc
  refine W.newcK hx hb hown (hts _ hlk.1) (hts _ hlk.2.1) (hts _ hlk.2.2) rfl hdg hcells hslots hKn.2.1 hW.1 fun H1 kC hkC e1 z1 o1 => ?_
  rw [← hW.1] at o1 z1
  refine kk H1 (mm_W_ad hW (hA _ (by rw [← hW.1]; exact hS.1)) ?_ z1 o1) ⟨Nat.le_trans hS.1 (by omega), fun x h1 h2 => (o1 x (Nat.lt_of_lt_of_le h1 hS.1)).trans (hS.2.1 x h1 h2), hS.2.2⟩
  exact ⟨_, hc, (u_born ty hts hin hKn hkC e1 hty).to hfs⟩
theorem mr_nA (C : mm_C p s m args meth c cc nL ret own D dA A) (hW : mm_W D dA A M H) (hS : va_S A s.heap H locs) (harr : Cond.arrayClass .int ∈ mm_G) {n : Int32} {N : Nat} (hn : ¬ n < 0) (hN : n.toNatClampNeg = N) (hbytes : N * componentBytes .int ≤ 536870912) (hcells : cells + 1 ≤ R.cells) (hslots : slots + N ≤ R.slots) {q : Nat} (h : nA N M = some (q, M1)) (hdg : decode cc pc = .ok (.newarray .int, 2))
    (kk : ∀ (H1 : Heap), mm_W D dA A M1 H1 → va_S A s.heap H1 locs → W p l e R s m args below meth c H1 locs (cells + 1) (slots + N) Q (F0 m (pc + 2) ls (.ref q :: rest))) : W p l e R s m args below meth c H locs cells slots Q (F0 m pc ls (.int n :: rest)) := by
  obtain ⟨hx, hb, hr, hml, hown, hts, hlocks, hK, hA⟩ := C
  cases h
  refine va_newaK hx hb (atype := .int) (hts _ harr) rfl hdg rfl hn hN hbytes hcells hslots hW.1 fun H1 cA e1 z1 o1 hAr hNm => ?_
  rw [← hW.1] at o1 z1
  have hcA : cA = dA 0 := Option.some.inj (hNm.symm.trans (hK.1.2 0 _ rfl).2)
  subst hcA
  refine kk H1 (mm_W_ad hW (hA _ (by rw [← hW.1]; exact hS.1)) ?_ z1 o1) ⟨Nat.le_trans hS.1 (by omega), fun x h1 h2 => (o1 x (Nat.lt_of_lt_of_le h1 hS.1)).trans (hS.2.1 x h1 h2), hS.2.2⟩
  show H1[M.1]? = some (vp_cell _ _)
  rw [vp_cell_i]
  exact e1
theorem mr_nZ (C : mm_C p s m args meth c cc nL ret own D dA A) (hW : mm_W D dA A M H) (hS : va_S A s.heap H locs) (harr : Cond.arrayClass .boolean ∈ mm_G) {n : Int32} {N : Nat} (hn : ¬ n < 0) (hN : n.toNatClampNeg = N) (hbytes : N * componentBytes .boolean ≤ 536870912) (hcells : cells + 1 ≤ R.cells) (hslots : slots + N ≤ R.slots) {q : Nat} (h : nZ N M = some (q, M1)) (hdg : decode cc pc = .ok (.newarray .boolean, 2))
    (kk : ∀ (H1 : Heap), mm_W D dA A M1 H1 → va_S A s.heap H1 locs → W p l e R s m args below meth c H1 locs (cells + 1) (slots + N) Q (F0 m (pc + 2) ls (.ref q :: rest))) : W p l e R s m args below meth c H locs cells slots Q (F0 m pc ls (.int n :: rest)) := by
  obtain ⟨hx, hb, hr, hml, hown, hts, hlocks, hK, hA⟩ := C
  cases h
  refine va_newaK hx hb (atype := .boolean) (hts _ harr) rfl hdg rfl hn hN hbytes hcells hslots hW.1 fun H1 cA e1 z1 o1 hAr hNm => ?_
  rw [← hW.1] at o1 z1
  have hcA : cA = dA 1 := Option.some.inj (hNm.symm.trans (hK.1.2 1 _ rfl).2)
  subst hcA
  refine kk H1 (mm_W_ad hW (hA _ (by rw [← hW.1]; exact hS.1)) ?_ z1 o1) ⟨Nat.le_trans hS.1 (by omega), fun x h1 h2 => (o1 x (Nat.lt_of_lt_of_le h1 hS.1)).trans (hS.2.1 x h1 h2), hS.2.2⟩
  show H1[M.1]? = some (vp_cell _ _)
  rw [vp_cell_i]
  exact e1
theorem mr_nQ (C : mm_C p s m args meth c cc nL ret own D dA A) (hW : mm_W D dA A M H) (hS : va_S A s.heap H locs) {t0 : Nat} {cn : String} (ht : (mm_tys dA)[t0]? = some (dA t0, .object cn)) (hlk : Cond.classLink own index cn ∈ mm_G) (hov : cn ∈ mm_over) {n : Int32} {N : Nat} (hn : ¬ n < 0) (hN : n.toNatClampNeg = N) (hbytes : N * 4 ≤ 536870912) (hcells : cells + 1 ≤ R.cells) (hslots : slots + N ≤ R.slots) {q : Nat} (h : nQ t0 N M = some (q, M1)) (hdg : decode cc pc = .ok (.anewarray index, 3))
    (kk : ∀ (H1 : Heap), mm_W D dA A M1 H1 → va_S A s.heap H1 locs → W p l e R s m args below meth c H1 locs (cells + 1) (slots + N) Q (F0 m (pc + 3) ls (.ref q :: rest))) : W p l e R s m args below meth c H locs cells slots Q (F0 m pc ls (.int n :: rest)) := by
  obtain ⟨hx, hb, hr, hml, hown, hts, hlocks, hK, hA⟩ := C
  cases h
  subst hN
  refine W.anew hx hb hown (hts _ hlk) (va_AO.use (hK.2.2.2 _ hov)) rfl hdg rfl hn hbytes hcells hslots fun cA kA comp f1 f2 f3 f4 => ?_
  obtain ⟨kA', comp', g1, g2, g3, g4⟩ := (hK.1.2 t0 _ ht).2
  have hcA : cA = dA t0 := Option.some.inj (f1.symm.trans g4)
  subst hcA
  generalize hH1 : H.push ({ cls := dA t0, slots := Array.replicate n.toNatClampNeg .null, vm := .none } : Cell) = H1
  have z1 : H1.size = H.size + 1 := by rw [← hH1, Array.size_push]
  have e1 : H1[M.1]? = some (arrV (dA t0) n.toNatClampNeg (fun _ => .null)) := by rw [← hH1, ← hW.1, Array.getElem?_push_size, ← arrV_new]
  have o1 : ∀ q : Nat, q < H.size → H1[q]? = H[q]? := fun q hq => by rw [← hH1, Array.getElem?_push, if_neg (Nat.ne_of_lt hq)]
  have kk2 := kk H1 (mm_W_ad hW (hA _ (by rw [← hW.1]; exact hS.1)) (by show H1[M.1]? = some (vp_cell _ _); rw [vp_cell_q]; exact e1) z1 o1) ⟨Nat.le_trans hS.1 (by omega), fun x h1 h2 => (o1 x (Nat.lt_of_lt_of_le h1 hS.1)).trans (hS.2.1 x h1 h2), hS.2.2⟩
  rw [← hW.1] at kk2
  exact kk2
/-- a reference that may be null, in a local -/
theorem mr_aloadq (hexec : p.tables.exec = Jvm.exec) (hb : c.code = cc) {i : Nat} {r : Option Nat} (hdg : decode cc pc = .ok (.aload i, 2)) (hl : ls[i]? = some (.val (va_rf r)))
    (k : W p l e R s m args below meth c H locs cells slots Q (F0 m (pc + 2) ls (va_rf r :: rest))) : W p l e R s m args below meth c H locs cells slots Q (F0 m pc ls rest) := by
  cases r with
  | none => exact lv_aloadN hexec hb hdg hl k
  | some x => exact lv_aload hexec hb hdg hl k
theorem mr_aload_nq (hexec : p.tables.exec = Jvm.exec) (hb : c.code = cc) {k : Fin 4} {i : Nat} {r : Option Nat} (hdg : decode cc pc = .ok (.aload_n k, 1)) (hi : (k : Nat) = i) (hl : ls[i]? = some (.val (va_rf r)))
    (kk : W p l e R s m args below meth c H locs cells slots Q (F0 m (pc + 1) ls (va_rf r :: rest))) : W p l e R s m args below meth c H locs cells slots Q (F0 m pc ls rest) := by
  cases r with
  | none => exact lv_aload_nN hexec hb hdg hi hl kk
  | some x => exact lv_aload_n hexec hb hdg hi hl kk
theorem mr_astoreq (hexec : p.tables.exec = Jvm.exec) (hb : c.code = cc) {i : Nat} {r : Option Nat} {lv lv' : List (Nat × Value)} (hdg : decode cc pc = .ok (.astore i, 2)) (h : lv_has ls nL lv) (hn : i < nL) (hl : (i, va_rf r) :: lv.filter (fun q => !(q.1 == i) && !(q.1 + 1 == i && q.2.category == 2)) = lv')
    (kk : ∀ ls' : Array Slot, lv_has ls' nL lv' → W p l e R s m args below meth c H locs cells slots Q (F0 m (pc + 2) ls' rest)) : W p l e R s m args below meth c H locs cells slots Q (F0 m pc ls (va_rf r :: rest)) := by
  cases r with
  | none => exact lv_astoreN hexec hb hdg h hn hl kk
  | some x => exact lv_astore hexec hb hdg h hn hl kk
theorem mr_astore_nq (hexec : p.tables.exec = Jvm.exec) (hb : c.code = cc) {k : Fin 4} {i : Nat} {r : Option Nat} {lv lv' : List (Nat × Value)} (hdg : decode cc pc = .ok (.astore_n k, 1)) (hi : (k : Nat) = i) (h : lv_has ls nL lv) (hn : i < nL) (hl : (i, va_rf r) :: lv.filter (fun q => !(q.1 == i) && !(q.1 + 1 == i && q.2.category == 2)) = lv')
    (kk : ∀ ls' : Array Slot, lv_has ls' nL lv' → W p l e R s m args below meth c H locs cells slots Q (F0 m (pc + 1) ls' rest)) : W p l e R s m args below meth c H locs cells slots Q (F0 m pc ls (va_rf r :: rest)) := by
  cases r with
  | none => exact lv_astore_nN hexec hb hdg hi h hn hl kk
  | some x => exact lv_astore_n hexec hb hdg hi h hn hl kk
theorem mr_ifnull (hexec : p.tables.exec = Jvm.exec) (hb : c.code = cc) {r : Option Nat} {off : Int} {tgt : Nat} (hdg : decode cc pc = .ok (.ifnull off, 3)) (ht : (pc : Int) + off = (tgt : Int))
    (kt : r = none → W p l e R s m args below meth c H locs cells slots Q (F0 m tgt ls rest)) (kf : ∀ x, r = some x → W p l e R s m args below meth c H locs cells slots Q (F0 m (pc + 3) ls rest)) : W p l e R s m args below meth c H locs cells slots Q (F0 m pc ls (va_rf r :: rest)) := by
  cases r with
  | none => exact lv_ifnullN hexec hb hdg ht (kt rfl)
  | some x => exact lv_ifnull hexec hb hdg (kf x rfl)
theorem mr_ifnonnull (hexec : p.tables.exec = Jvm.exec) (hb : c.code = cc) {r : Option Nat} {off : Int} {tgt : Nat} (hdg : decode cc pc = .ok (.ifnonnull off, 3)) (ht : (pc : Int) + off = (tgt : Int))
    (kt : ∀ x, r = some x → W p l e R s m args below meth c H locs cells slots Q (F0 m tgt ls rest)) (kf : r = none → W p l e R s m args below meth c H locs cells slots Q (F0 m (pc + 3) ls rest)) : W p l e R s m args below meth c H locs cells slots Q (F0 m pc ls (va_rf r :: rest)) := by
  cases r with
  | none => exact lv_ifnonnullN hexec hb hdg (kf rfl)
  | some x => exact lv_ifnonnull hexec hb hdg ht (kt x rfl)
/-- what a call may touch is ours -/
theorem mr_free (C : mm_C p s m args meth c cc nL ret own D dA A) (hW : mm_W D dA A M H) (hS : va_S A s.heap H locs) : ∀ q, mm_A M q → A q := fun q h => by
  obtain ⟨-, -, -, -, -, -, -, -, hA⟩ := C
  rcases h with ⟨e, h⟩ | h
  · exact (hW.2 q e h).2
  · exact hA q (Nat.le_trans hS.1 (by rw [hW.1]; exact h))
theorem mr_pre (C : mm_C p s m args meth c cc nL ret own D dA A) (hW : mm_W D dA A M H) {av : List Value} : PreS s H (mm_Pre D dA M av) av := by
  obtain ⟨-, -, -, -, -, -, -, hK, -⟩ := C
  exact ⟨mm_blind, fun U hU hw => ⟨rfl, by rw [hU]; exact mm_W_self hW, mm_K_moved hw hK⟩⟩
theorem mr_preV (C : mm_C p s m args meth c cc nL ret own D dA A) (hW : mm_W D dA A M H) {As : List Value} {Cn : String} {T : u_T} {N : Nat} {u : Unit} (hc : classes[ci]? = some (Cn, T, N)) (hk : kO ci M a = some u) : PreV s H Cn a (mm_Pre D dA M (.ref a :: As)) As := by
  obtain ⟨-, -, -, -, -, -, -, hK, -⟩ := C
  obtain ⟨fs, ha⟩ := kO_some hk
  exact ⟨mm_blind, va_recv (q0 := 0) (ci := ci) hK.1 (mm_one hW ha) hc rfl, fun U hU hw => ⟨rfl, by rw [hU]; exact mm_W_self hW, mm_K_moved hw hK⟩⟩
variable {mc ms : Nat} {st0 : List Value} {av : Array Value}
theorem mr_ci (C : mm_C p s m args meth c cc nL ret own D dA A) (hW : mm_W D dA A M H) (hS : va_S A s.heap H locs) {r : Int32} (hr : va_Run p l e R s m args below meth c H locs cells slots mc ms (F0 m pc ls st0) rest (mm_QI D dA M r M1 av) (mm_A M))
    (kk : ∀ (H1 : Heap) (locs1 : List Loc), mm_W D dA A M1 H1 → va_S A s.heap H1 locs1 → W p l e R s m args below meth c H1 locs1 (cells + mc) (slots + ms) Q (F0 m (pc + 3) ls (.int r :: rest))) : W p l e R s m args below meth c H locs cells slots Q (F0 m pc ls st0) := by
  have hF := mr_free C hW hS
  refine va_calli hr hS (fun q _ h => hF q h) hF (fun x u t H1 locs1 ht hvm hw hB hz1 hk1 hS1 => ?_)
  subst hw
  subst ht
  exact kk _ _ (mm_W_wk hB hF) hS1
theorem mr_cv (C : mm_C p s m args meth c cc nL ret own D dA A) (hW : mm_W D dA A M H) (hS : va_S A s.heap H locs) {r : Unit} (hr : va_Run p l e R s m args below meth c H locs cells slots mc ms (F0 m pc ls st0) rest (mm_QV D dA M r M1 av) (mm_A M))
    (kk : ∀ (H1 : Heap) (locs1 : List Loc), mm_W D dA A M1 H1 → va_S A s.heap H1 locs1 → W p l e R s m args below meth c H1 locs1 (cells + mc) (slots + ms) Q (F0 m (pc + 3) ls rest)) : W p l e R s m args below meth c H locs cells slots Q (F0 m pc ls st0) := by
  have hF := mr_free C hW hS
  refine va_callv hr hS (fun q _ h => hF q h) hF (fun u t H1 locs1 ht hvm hw hB hz1 hk1 hS1 => ?_)
  subst ht
  exact kk _ _ (mm_W_wk hB hF) hS1
theorem mr_cq (C : mm_C p s m args meth c cc nL ret own D dA A) (hW : mm_W D dA A M H) (hS : va_S A s.heap H locs) {r : Option Nat} (hr : va_Run p l e R s m args below meth c H locs cells slots mc ms (F0 m pc ls st0) rest (mm_QQ D dA M r M1 av) (mm_A M))
    (kk : ∀ (H1 : Heap) (locs1 : List Loc), mm_W D dA A M1 H1 → va_S A s.heap H1 locs1 → W p l e R s m args below meth c H1 locs1 (cells + mc) (slots + ms) Q (F0 m (pc + 3) ls (va_rf r :: rest))) : W p l e R s m args below meth c H locs cells slots Q (F0 m pc ls st0) := by
  have hF := mr_free C hW hS
  refine va_callq hr hS (fun q _ h => hF q h) hF (fun x u t H1 locs1 ht hvm hw hB hz1 hk1 hS1 => ?_)
  subst hw
  subst ht
  exact kk _ _ (mm_W_wk hB hF) hS1
end MMR
section MMT
variable {p : Program} {l : Launch} {e : Env} {R : Room} {s : State} {m : MethodId} {args : Array Value} {below : List Frame} {meth : Method} {c : Code} {H : Heap} {locs : List Loc} {cells slots mc ms : Nat}
variable {cc : ByteArray} {nL : Nat} {own : String} {D : va_G} {dA : Nat → ClassId} {M0 M M' : mm} {pc : Nat} {ls : Array Slot}
theorem mr_iret (C : mm_C p s m args meth c cc nL (some .int) own D dA (mm_A M0)) (hW : mm_W D dA (mm_A M0) M H) (hS : va_S (mm_A M0) s.heap H locs) (h1 : cells ≤ mc) (h2 : slots ≤ ms) {v r : Int32} (h : some (v, M) = some (r, M')) (hdg : decode cc pc = .ok (.ireturn, 1)) :
    W p l e R s m args below meth c H locs cells slots (MQ below (mm_QI D dA M0 r M') args s mc ms (mm_A M0)) (F0 m pc ls [.int v]) := by
  obtain ⟨hx, hb, hr, hml, hown, hts, hlocks, hK, hA⟩ := C
  cases h
  refine W.widen h1 h2 ?_
  exact W.iret hx hb hr (fun t ht hw => ⟨⟨v, (), rfl, rfl, by show mm_W D dA (mm_A M0) _ t.heap; rw [ht]; exact hW⟩, hS.F ht⟩) hS.2.2 hdg
theorem mr_zret (C : mm_C p s m args meth c cc nL (some .boolean) own D dA (mm_A M0)) (hW : mm_W D dA (mm_A M0) M H) (hS : va_S (mm_A M0) s.heap H locs) (h1 : cells ≤ mc) (h2 : slots ≤ ms) {v r : Int32} {u : Unit} (hk : kB v = some u) (h : some (v, M) = some (r, M')) (hdg : decode cc pc = .ok (.ireturn, 1)) :
    W p l e R s m args below meth c H locs cells slots (MQ below (mm_QI D dA M0 r M') args s mc ms (mm_A M0)) (F0 m pc ls [.int v]) := by
  obtain ⟨hx, hb, hr, hml, hown, hts, hlocks, hK, hA⟩ := C
  cases h
  refine W.widen h1 h2 ?_
  exact W.zret hx hb hr (kB_some hk).1 (fun t ht hw => ⟨⟨v, (), rfl, rfl, by show mm_W D dA (mm_A M0) _ t.heap; rw [ht]; exact hW⟩, hS.F ht⟩) hS.2.2 hdg
theorem mr_vret (C : mm_C p s m args meth c cc nL none own D dA (mm_A M0)) (hW : mm_W D dA (mm_A M0) M H) (hS : va_S (mm_A M0) s.heap H locs) (h1 : cells ≤ mc) (h2 : slots ≤ ms) {r : Unit} (h : some ((), M) = some (r, M')) (hdg : decode cc pc = .ok (.return_, 1)) :
    W p l e R s m args below meth c H locs cells slots (MQ below (mm_QV D dA M0 r M') args s mc ms (mm_A M0)) (F0 m pc ls []) := by
  obtain ⟨hx, hb, hr, hml, hown, hts, hlocks, hK, hA⟩ := C
  cases h
  refine W.widen h1 h2 ?_
  exact W.vret hx hb hr (fun t ht hw => ⟨⟨(), rfl, trivial, by show mm_W D dA (mm_A M0) _ t.heap; rw [ht]; exact hW⟩, hS.F ht⟩) hS.2.2 hdg
theorem mr_aret {cn : String} (C : mm_C p s m args meth c cc nL (some (.object cn)) own D dA (mm_A M0)) (hW : mm_W D dA (mm_A M0) M H) (hS : va_S (mm_A M0) s.heap H locs) (h1 : cells ≤ mc) (h2 : slots ≤ ms) {v r : Option Nat} (h : some (v, M) = some (r, M')) (hdg : decode cc pc = .ok (.areturn, 1)) :
    W p l e R s m args below meth c H locs cells slots (MQ below (mm_QQ D dA M0 r M') args s mc ms (mm_A M0)) (F0 m pc ls [va_rf v]) := by
  obtain ⟨hx, hb, hr, hml, hown, hts, hlocks, hK, hA⟩ := C
  cases h
  refine W.widen h1 h2 ?_
  exact W.aret hx hb hr (Or.inl ⟨_, rfl⟩) (by cases v with | none => exact Or.inl rfl | some x => exact Or.inr ⟨x, rfl⟩) (fun t ht hw => ⟨⟨v, (), rfl, rfl, by show mm_W D dA (mm_A M0) _ t.heap; rw [ht]; exact hW⟩, hS.F ht⟩) hS.2.2 hdg
end MMT
/-- the words of a call: all of them stand in mm_G -/
theorem mg_in {y : MethodName} {b : ByteArray} {n : Nat} {ret : Option FieldType} (hc : Cond.code y b n ret ∈ mm_G) : GoodIn mm_G (Cond.code y b n ret :: mm_G) := fun w hw => by
  rcases List.mem_cons.mp hw with h | h
  · subst h; exact ⟨hc, Or.inl rfl⟩
  · exact ⟨h, mm_G_good w h⟩
theorem mg_V {own C : String} {idx : Nat} {y : MethodName} {b : ByteArray} {n : Nat} {ret : Option FieldType} (hc : Cond.code y b n ret ∈ mm_G) (h1 : Cond.methodLink own idx y ∈ mm_G) (h2 : Cond.instanceMethod y ∈ mm_G) (h3 : Cond.selects C y y ∈ mm_G) (h4 : Cond.initialized C ∈ mm_G) : GoodIn mm_G (wsV own idx C y (Cond.code y b n ret :: mm_G)) := fun w hw => by
  rcases List.mem_append.mp hw with h | h
  · have hm : w ∈ mm_G := by
      simp only [List.mem_cons, List.not_mem_nil, or_false] at h
      rcases h with rfl | rfl | rfl | rfl <;> assumption
    exact ⟨hm, mm_G_good w hm⟩
  · exact mg_in hc w h
theorem mg_S {own : String} {idx : Nat} {y : MethodName} {b : ByteArray} {n : Nat} {ret : Option FieldType} (hc : Cond.code y b n ret ∈ mm_G) (h1 : Cond.methodLink own idx y ∈ mm_G) (h2 : Cond.static y ∈ mm_G) (h3 : Cond.initialized own ∈ mm_G) : GoodIn mm_G (wsS own idx y (Cond.code y b n ret :: mm_G)) := fun w hw => by
  rcases List.mem_append.mp hw with h | h
  · have hm : w ∈ mm_G := by
      simp only [List.mem_cons, List.not_mem_nil, or_false] at h
      rcases h with rfl | rfl | rfl <;> assumption
    exact ⟨hm, mm_G_good w hm⟩
  · exact mg_in hc w h
def qm {α β : Type} (r : Option α) (x : β) (f : α → β) : β := match r with
  | none => x
  | some a => f a
theorem ifp {c : Prop} [Decidable c] {α : Type} {a b o : α} (h : (if c then a else b) = o) (hc : c) : a = o := by rw [← h, if_pos hc]
theorem ifn {c : Prop} [Decidable c] {α : Type} {a b o : α} (h : (if c then a else b) = o) (hc : ¬ c) : b = o := by rw [← h, if_neg hc]
/-- fuel of a loop: more than any loop of the program turns -/
def FU : Nat := 1000
