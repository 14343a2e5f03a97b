/-! THE CLAIM OUT OF ONE WALK OF THE LAW'S BODY. Your part is whole_start (and what it stands on); all else here is the same for every law, but numbers. -/
def lw_P (b : Addr) (xs : List Int32) (args : Array Value) (s : State) : Prop := args = #[.ref b] ∧ s.IntsAt b xs ∧ xs.length ≤ 2560 ∧ (Jvm.Cond.and given_1 narrow_1).before args s = true
def lw_Q (_ : Array Value) (s : State) (o : Outcome) (t : State) : Prop := o = .returned (some (.int 1)) ∧ Framed s o t [] 600000 7302250
def lw_Z (below : List Frame) (a : Array Value) (s : State) : State → Prop := fun t => ∃ o, t.status = .running ∧ Ended t below o ∧ lw_Q a s o t
/-- the law's own end, with 1 on the stack, nothing written that was there before, its room as the claim has it -/
theorem lw_ret {p : Program} {l : Launch} {e : Env} {s : State} {m : MethodId} {below : List Frame} {meth : Method} {c : Code} {b : Nat} (hx : p.tables.exec = Jvm.exec) (hb : c.code = code) (hr : meth.sig.returnType = ret) (hlocks : meth.locks = false) {pc : Nat} {H : Heap} {ls : Array Slot} (hdg : decode code pc = .ok (.ireturn, 1)) : W p l e room_1 s m #[Value.ref b] below meth c H [] 600000 7302250 (lw_Z below #[Value.ref b] s) (F0 m pc ls [.int 1]) := by
  intro T hT X
  obtain ⟨fs, hret, hrun, hended, hW, hframe⟩ := X.leave (v := some (.int 1)) (hlocks := hlocks) (fun h => by rw [hr] at h; cases h)
  have hmeth' : T.vm.method? m = some meth := X.method'
  refine ⟨T.setFrames fs, ?_, .returned (some (.int 1)), hrun, hended, rfl, ⟨_, rfl⟩, hW, hframe⟩
  jvm_step X.here [X.here.top, hx, hb, hdg, hmeth', hr, ret, narrow_b1]
  (try refine ⟨rfl, ?_⟩); (try refine ⟨rfl, ?_⟩)
  first | (intro acts; rw [hret _ acts rfl rfl rfl]) | rw [hret _ _ rfl rfl rfl]
  exact Steps.refl _
/-- what holds at the law's entry: the machine, the code, the tables' words (any of lw_tbl by 'hts w (by decide +kernel)'), the script of L ints xs at the cell b, what the Statement gives of the start (any of its parts by flat_of_before) -/
def lw_At (p : Program) (s : State) (m : MethodId) (meth : Method) (c : Code) (b L : Nat) (xs : Nat → Int32) : Prop :=
  p.tables.exec = Jvm.exec ∧ c.code = code ∧ meth.sig.returnType = ret ∧ c.maxLocals = 4 ∧ s.vm.findClass R_law = some m.cls ∧ (∀ w ∈ lw_tbl, w.before #[Value.ref b] s = true) ∧ va_X b L xs s s.heap ∧ b < s.heap.size ∧ meth.locks = false ∧ (Jvm.Cond.and given_1 narrow_1).before #[Value.ref b] s = true
section LWR
variable {p : Program} {l : Launch} {e : Env} {R : Room} {s : State} {m : MethodId} {args : Array Value} {below : List Frame} {meth : Method} {c : Code} {H : Heap} {locs : List Loc} {cells slots : Nat} {Q : State → Prop}
variable {cc : ByteArray} {nL : Nat} {rt : Option FieldType} {own : String} {D : va_G} {dA : Nat → ClassId} {pc : Nat} {ls : Array Slot} {rest : List Value} {b L : Nat} {xs : Nat → Int32}
theorem mr_sc (C : mm_C p s m args meth c cc nL rt own D dA (fun q : Nat => s.heap.size ≤ q)) (hX : va_X b L xs s s.heap) (hbl : b < s.heap.size) (hS : va_S (fun q : Nat => s.heap.size ≤ q) s.heap H locs) {i x : Int32} (h : sc L xs i = some x) (hdg : decode cc pc = .ok (.iaload, 1))
    (kk : W p l e R s m args below meth c H locs cells slots Q (F0 m (pc + 1) ls (.int x :: rest))) : W p l e R s m args below meth c H locs cells slots Q (F0 m pc ls (.int i :: .ref b :: rest)) := by
  obtain ⟨hx, hb, hr, hml, hown, hts, hlocks, hK, hA⟩ := C
  obtain ⟨hin, rfl⟩ := sc_some h
  exact va_sld hx hb hX hbl (Nat.not_le.mpr hbl) hS hin hdg kk
theorem mr_sl (C : mm_C p s m args meth c cc nL rt own D dA (fun q : Nat => s.heap.size ≤ q)) (hX : va_X b L xs s s.heap) (hbl : b < s.heap.size) (hS : va_S (fun q : Nat => s.heap.size ≤ q) s.heap H locs) (hdg : decode cc pc = .ok (.arraylength, 1))
    (kk : W p l e R s m args below meth c H locs cells slots Q (F0 m (pc + 1) ls (.int (Int32.ofNat L) :: rest))) : W p l e R s m args below meth c H locs cells slots Q (F0 m pc ls (.ref b :: rest)) := by
  obtain ⟨hx, hb, hr, hml, hown, hts, hlocks, hK, hA⟩ := C
  exact va_slen hx hb hX hbl (Nat.not_le.mpr hbl) hS hdg kk
theorem mr_lret (C : mm_C p s m #[Value.ref b] meth c code nL ret own D dA (fun q : Nat => s.heap.size ≤ q)) (hS : va_S (fun q : Nat => s.heap.size ≤ q) s.heap H locs) (h1 : cells ≤ 600000) (h2 : slots ≤ 7302250) (hdg : decode code pc = .ok (.ireturn, 1)) :
    W p l e room_1 s m #[Value.ref b] below meth c H locs cells slots (lw_Z below #[Value.ref b] s) (F0 m pc ls [.int 1]) := by
  obtain ⟨hx, hb, hr, hml, hown, hts, hlocks, hK, hA⟩ := C
  refine va_forget (fun q hq => hS.2.2 q hq) ?_
  refine W.widen (k := 600000) (n := 7302250) h1 h2 ?_
  exact lw_ret hx hb hr hlocks hdg
end LWR
def f_law_b155 (L : Nat) (xs : Nat → Int32) (k18 : Nat → Nat → Int32 → mm → Option (Int32 × mm)) : Nat → Nat → Int32 → Int32 → Nat → Int32 → mm → Option (Int32 × mm) := fun v1 v2 v3 t0 t1 t2 M =>
    (kO 1 M t1).bind fun _ =>
    (f_Mo_pack t1 t0 M).bind fun (x196, M196) =>
    if t2 = x196 then
      k18 v1 v2 (v3 + 5) M196
    else
      some (0, M196)
def f_law_b138 (L : Nat) (xs : Nat → Int32) (k18 : Nat → Nat → Int32 → mm → Option (Int32 × mm)) : Nat → Nat → Int32 → Int32 → Nat → mm → Option (Int32 × mm) := fun v1 v2 v3 t0 t1 M =>
    (kO 0 M t1).bind fun _ =>
    (f_X_pack t1 t0 M).bind fun (x192, M192) =>
    (sc L xs (v3 + 1)).bind fun x194 =>
    if x194 = 0 then
      f_law_b155 L xs k18 v1 v2 v3 0 v2 x192 M192
    else
      f_law_b155 L xs k18 v1 v2 v3 1 v2 x192 M192
def f_law_b376 (L : Nat) (xs : Nat → Int32) (k18 : Nat → Nat → Int32 → mm → Option (Int32 × mm)) : Nat → Nat → Int32 → Int32 → Int32 → Nat → Int32 → mm → Option (Int32 × mm) := fun v1 v2 v3 t0 t1 t2 t3 M =>
    (kO 1 M t2).bind fun _ =>
    (f_Mo_fails t2 t1 t0 M).bind fun (x204, M204) =>
    if t3 = x204 then
      k18 v1 v2 (v3 + 5) M204
    else
      some (0, M204)
def f_law_b354 (L : Nat) (xs : Nat → Int32) (k18 : Nat → Nat → Int32 → mm → Option (Int32 × mm)) : Nat → Nat → Int32 → Int32 → Int32 → Nat → mm → Option (Int32 × mm) := fun v1 v2 v3 t0 t1 t2 M =>
    (kO 0 M t2).bind fun _ =>
    (f_X_fails t2 t1 t0 M).bind fun (x199, M199) =>
    (sc L xs (v3 + 1)).bind fun x201 =>
    (sc L xs (v3 + 2)).bind fun x202 =>
    if x202 = 0 then
      f_law_b376 L xs k18 v1 v2 v3 0 x201 v2 x199 M199
    else
      f_law_b376 L xs k18 v1 v2 v3 1 x201 v2 x199 M199
def f_law_b18 (L : Nat) (xs : Nat → Int32) : Nat → Nat → Nat → Int32 → mm → Option (Int32 × mm)
  | 0, _, _, _, _ => none
  | n + 1, v1, v2, v3, M =>
    if ((Int32.ofNat L) - 5) < v3 then
      some (1, M)
    else
      (sc L xs v3).bind fun x2 =>
      if (x2 &&& 31) = 0 then
        (sc L xs (v3 + 1)).bind fun x4 =>
        if x4 = 0 then
          f_law_b138 L xs (f_law_b18 L xs n) v1 v2 v3 0 v1 M
        else
          f_law_b138 L xs (f_law_b18 L xs n) v1 v2 v3 1 v1 M
      else
      if (x2 &&& 31) = 1 then
        (sc L xs (v3 + 1)).bind fun x7 =>
        (sc L xs (v3 + 2)).bind fun x8 =>
        (kO 0 M v1).bind fun _ =>
        (f_X_title v1 x7 x8 M).bind fun (x9, M9) =>
        (sc L xs (v3 + 1)).bind fun x11 =>
        (sc L xs (v3 + 2)).bind fun x12 =>
        (kO 1 M9 v2).bind fun _ =>
        (f_Mo_title v2 x11 x12 M9).bind fun (x13, M13) =>
        if x9 = x13 then
          f_law_b18 L xs n v1 v2 (v3 + 5) M13
        else
          some (0, M13)
      else
      if (x2 &&& 31) = 2 then
        (sc L xs (v3 + 1)).bind fun x17 =>
        (sc L xs (v3 + 2)).bind fun x18 =>
        (sc L xs (v3 + 3)).bind fun x19 =>
        (kO 0 M v1).bind fun _ =>
        (f_X_cover v1 x17 x18 x19 M).bind fun (x20, M20) =>
        (sc L xs (v3 + 1)).bind fun x22 =>
        (sc L xs (v3 + 2)).bind fun x23 =>
        (sc L xs (v3 + 3)).bind fun x24 =>
        (kO 1 M20 v2).bind fun _ =>
        (f_Mo_cover v2 x22 x23 x24 M20).bind fun (x25, M25) =>
        if x20 = x25 then
          f_law_b18 L xs n v1 v2 (v3 + 5) M25
        else
          some (0, M25)
      else
      if (x2 &&& 31) = 3 then
        (sc L xs (v3 + 1)).bind fun x29 =>
        (sc L xs (v3 + 2)).bind fun x30 =>
        (sc L xs (v3 + 3)).bind fun x31 =>
        (kO 0 M v1).bind fun _ =>
        (f_X_embargo v1 x29 x30 x31 M).bind fun (x32, M32) =>
        (sc L xs (v3 + 1)).bind fun x34 =>
        (sc L xs (v3 + 2)).bind fun x35 =>
        (sc L xs (v3 + 3)).bind fun x36 =>
        (kO 1 M32 v2).bind fun _ =>
        (f_Mo_embargo v2 x34 x35 x36 M32).bind fun (x37, M37) =>
        if x32 = x37 then
          f_law_b18 L xs n v1 v2 (v3 + 5) M37
        else
          some (0, M37)
      else
      if (x2 &&& 31) = 4 then
        (sc L xs (v3 + 1)).bind fun x41 =>
        (sc L xs (v3 + 2)).bind fun x42 =>
        (sc L xs (v3 + 3)).bind fun x43 =>
        (sc L xs (v3 + 4)).bind fun x44 =>
        (kO 0 M v1).bind fun _ =>
        (f_X_rule v1 x41 x42 x43 x44 M).bind fun (x45, M45) =>
        (sc L xs (v3 + 1)).bind fun x47 =>
        (sc L xs (v3 + 2)).bind fun x48 =>
        (sc L xs (v3 + 3)).bind fun x49 =>
        (sc L xs (v3 + 4)).bind fun x50 =>
        (kO 1 M45 v2).bind fun _ =>
        (f_Mo_rule v2 x47 x48 x49 x50 M45).bind fun (x51, M51) =>
        if x45 = x51 then
          f_law_b18 L xs n v1 v2 (v3 + 5) M51
        else
          some (0, M51)
      else
      if (x2 &&& 31) = 5 then
        (sc L xs (v3 + 1)).bind fun x55 =>
        (sc L xs (v3 + 2)).bind fun x56 =>
        if x56 = 0 then
          f_law_b354 L xs (f_law_b18 L xs n) v1 v2 v3 0 x55 v1 M
        else
          f_law_b354 L xs (f_law_b18 L xs n) v1 v2 v3 1 x55 v1 M
      else
      if (x2 &&& 31) = 6 then
        (sc L xs (v3 + 1)).bind fun x59 =>
        (sc L xs (v3 + 2)).bind fun x60 =>
        (kO 0 M v1).bind fun _ =>
        (f_X_reader v1 x59 x60 M).bind fun (x61, M61) =>
        (sc L xs (v3 + 1)).bind fun x63 =>
        (sc L xs (v3 + 2)).bind fun x64 =>
        (kO 1 M61 v2).bind fun _ =>
        (f_Mo_reader v2 x63 x64 M61).bind fun (x65, M65) =>
        if x61 = x65 then
          f_law_b18 L xs n v1 v2 (v3 + 5) M65
        else
          some (0, M65)
      else
      if (x2 &&& 31) = 7 then
        (sc L xs (v3 + 1)).bind fun x69 =>
        (sc L xs (v3 + 2)).bind fun x70 =>
        (kO 0 M v1).bind fun _ =>
        (f_X_room v1 x69 x70 M).bind fun (x71, M71) =>
        (sc L xs (v3 + 1)).bind fun x73 =>
        (sc L xs (v3 + 2)).bind fun x74 =>
        (kO 1 M71 v2).bind fun _ =>
        (f_Mo_room v2 x73 x74 M71).bind fun (x75, M75) =>
        if x71 = x75 then
          f_law_b18 L xs n v1 v2 (v3 + 5) M75
        else
          some (0, M75)
      else
      if (x2 &&& 31) = 8 then
        (sc L xs (v3 + 1)).bind fun x79 =>
        (sc L xs (v3 + 2)).bind fun x80 =>
        (kO 0 M v1).bind fun _ =>
        (f_X_in v1 x79 x80 M).bind fun (x81, M81) =>
        (sc L xs (v3 + 1)).bind fun x83 =>
        (sc L xs (v3 + 2)).bind fun x84 =>
        (kO 1 M81 v2).bind fun _ =>
        (f_Mo_in v2 x83 x84 M81).bind fun (x85, M85) =>
        if x81 = x85 then
          f_law_b18 L xs n v1 v2 (v3 + 5) M85
        else
          some (0, M85)
      else
      if (x2 &&& 31) = 9 then
        (sc L xs (v3 + 1)).bind fun x89 =>
        (sc L xs (v3 + 2)).bind fun x90 =>
        (kO 0 M v1).bind fun _ =>
        (f_X_out v1 x89 x90 M).bind fun (x91, M91) =>
        (sc L xs (v3 + 1)).bind fun x93 =>
        (sc L xs (v3 + 2)).bind fun x94 =>
        (kO 1 M91 v2).bind fun _ =>
        (f_Mo_out v2 x93 x94 M91).bind fun (x95, M95) =>
        if x91 = x95 then
          f_law_b18 L xs n v1 v2 (v3 + 5) M95
        else
          some (0, M95)
      else
      if (x2 &&& 31) = 10 then
        (sc L xs (v3 + 1)).bind fun x99 =>
        (sc L xs (v3 + 2)).bind fun x100 =>
        (sc L xs (v3 + 3)).bind fun x101 =>
        (sc L xs (v3 + 4)).bind fun x102 =>
        (kO 0 M v1).bind fun _ =>
        (f_X_access v1 x99 x100 x101 x102 M).bind fun (x103, M103) =>
        (sc L xs (v3 + 1)).bind fun x105 =>
        (sc L xs (v3 + 2)).bind fun x106 =>
        (sc L xs (v3 + 3)).bind fun x107 =>
        (sc L xs (v3 + 4)).bind fun x108 =>
        (kO 1 M103 v2).bind fun _ =>
        (f_Mo_access v2 x105 x106 x107 x108 M103).bind fun (x109, M109) =>
        if x103 = x109 then
          f_law_b18 L xs n v1 v2 (v3 + 5) M109
        else
          some (0, M109)
      else
      if (x2 &&& 31) = 11 then
        (kO 0 M v1).bind fun _ =>
        (f_X_failed v1 M).bind fun (x113, M113) =>
        (kO 1 M113 v2).bind fun _ =>
        (f_Mo_failed v2 M113).bind fun (x115, M115) =>
        if x113 = x115 then
          f_law_b18 L xs n v1 v2 (v3 + 5) M115
        else
          some (0, M115)
      else
      if (x2 &&& 31) = 12 then
        (sc L xs (v3 + 1)).bind fun x119 =>
        (sc L xs (v3 + 2)).bind fun x120 =>
        (sc L xs (v3 + 3)).bind fun x121 =>
        (kO 0 M v1).bind fun _ =>
        (f_X_provider v1 x119 x120 x121 M).bind fun (x122, M122) =>
        (sc L xs (v3 + 1)).bind fun x124 =>
        (sc L xs (v3 + 2)).bind fun x125 =>
        (sc L xs (v3 + 3)).bind fun x126 =>
        (kO 1 M122 v2).bind fun _ =>
        (f_Mo_provider v2 x124 x125 x126 M122).bind fun (x127, M127) =>
        if x122 = x127 then
          f_law_b18 L xs n v1 v2 (v3 + 5) M127
        else
          some (0, M127)
      else
      if (x2 &&& 31) = 13 then
        (sc L xs (v3 + 1)).bind fun x131 =>
        (sc L xs (v3 + 2)).bind fun x132 =>
        (kO 0 M v1).bind fun _ =>
        (f_X_end v1 x131 x132 M).bind fun (x133, M133) =>
        (sc L xs (v3 + 1)).bind fun x135 =>
        (sc L xs (v3 + 2)).bind fun x136 =>
        (kO 1 M133 v2).bind fun _ =>
        (f_Mo_end v2 x135 x136 M133).bind fun (x137, M137) =>
        if x133 = x137 then
          f_law_b18 L xs n v1 v2 (v3 + 5) M137
        else
          some (0, M137)
      else
      if (x2 &&& 31) = 14 then
        (sc L xs (v3 + 1)).bind fun x141 =>
        (sc L xs (v3 + 2)).bind fun x142 =>
        (kO 0 M v1).bind fun _ =>
        (f_X_about v1 x141 x142 M).bind fun (x143, M143) =>
        (sc L xs (v3 + 1)).bind fun x145 =>
        (sc L xs (v3 + 2)).bind fun x146 =>
        (kO 1 M143 v2).bind fun _ =>
        (f_Mo_about v2 x145 x146 M143).bind fun (x147, M147) =>
        if x143 = x147 then
          f_law_b18 L xs n v1 v2 (v3 + 5) M147
        else
          some (0, M147)
      else
      if (x2 &&& 31) = 15 then
        (sc L xs (v3 + 1)).bind fun x151 =>
        (sc L xs (v3 + 2)).bind fun x152 =>
        (sc L xs (v3 + 3)).bind fun x153 =>
        (kO 0 M v1).bind fun _ =>
        (f_X_gap v1 x151 x152 x153 M).bind fun (x154, M154) =>
        (sc L xs (v3 + 1)).bind fun x156 =>
        (sc L xs (v3 + 2)).bind fun x157 =>
        (sc L xs (v3 + 3)).bind fun x158 =>
        (kO 1 M154 v2).bind fun _ =>
        (f_Mo_gap v2 x156 x157 x158 M154).bind fun (x159, M159) =>
        if x154 = x159 then
          f_law_b18 L xs n v1 v2 (v3 + 5) M159
        else
          some (0, M159)
      else
      if (x2 &&& 31) = 16 then
        (sc L xs (v3 + 1)).bind fun x163 =>
        (sc L xs (v3 + 2)).bind fun x164 =>
        (kO 0 M v1).bind fun _ =>
        (f_X_usage v1 x163 x164 M).bind fun (x165, M165) =>
        (sc L xs (v3 + 1)).bind fun x167 =>
        (sc L xs (v3 + 2)).bind fun x168 =>
        (kO 1 M165 v2).bind fun _ =>
        (f_Mo_usage v2 x167 x168 M165).bind fun (x169, M169) =>
        if x165 = x169 then
          f_law_b18 L xs n v1 v2 (v3 + 5) M169
        else
          some (0, M169)
      else
      if (x2 &&& 31) = 17 then
        (sc L xs (v3 + 1)).bind fun x173 =>
        (sc L xs (v3 + 2)).bind fun x174 =>
        (kO 0 M v1).bind fun _ =>
        (f_X_told v1 x173 x174 M).bind fun (x175, M175) =>
        (sc L xs (v3 + 1)).bind fun x177 =>
        (sc L xs (v3 + 2)).bind fun x178 =>
        (kO 1 M175 v2).bind fun _ =>
        (f_Mo_told v2 x177 x178 M175).bind fun (x179, M179) =>
        if x175 = x179 then
          f_law_b18 L xs n v1 v2 (v3 + 5) M179
        else
          some (0, M179)
      else
      if (x2 &&& 31) = 18 then
        (sc L xs (v3 + 1)).bind fun x183 =>
        (sc L xs (v3 + 2)).bind fun x184 =>
        (kO 0 M v1).bind fun _ =>
        (f_X_who v1 x183 x184 M).bind fun (x185, M185) =>
        (sc L xs (v3 + 1)).bind fun x187 =>
        (sc L xs (v3 + 2)).bind fun x188 =>
        (kO 1 M185 v2).bind fun _ =>
        (f_Mo_who v2 x187 x188 M185).bind fun (x189, M189) =>
        if x185 = x189 then
          f_law_b18 L xs n v1 v2 (v3 + 5) M189
        else
          some (0, M189)
      else
      f_law_b18 L xs n v1 v2 (v3 + 5) M
def f_law (L : Nat) (xs : Nat → Int32) (M : mm) : Option (Int32 × mm) :=
    (nO 0 [.null, .int 0, .null, .int 0, .null, .int 0, .null, .null, .null, .int 0] M).bind fun (x207, M207) =>
    (f_X_init x207 M207).bind fun (_, M208) =>
    (nO 1 [.int 0, .int 0, .null, .null, .null, .null, .null, .null, .null, .int 0, .null, .null, .null, .null, .null, .null, .null, .int 0, .null, .null, .null, .null, .null, .int 0, .null, .int 0, .null, .null, .null, .int 0, .null, .null] M208).bind fun (x209, M209) =>
    (f_Mo_init x209 M209).bind fun (_, M210) =>
    f_law_b18 L xs FU x207 x209 0 M210
