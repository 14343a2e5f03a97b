set_option maxHeartbeats 4000000 in
set_option maxRecDepth 100000 in
theorem w_law_b155 {p : Program} {l : Launch} {e : Env} {s : State} {m : MethodId} {below : List Frame} {meth : Method} {c : Code} {D : va_G} {dA : Nat → ClassId} {M' : mm} {b L : Nat} {xs : Nat → Int32} (hX : va_X b L xs s s.heap) (hbl : b < s.heap.size) (C : mm_C p s m #[Value.ref b] meth c code 4 ret R_law D dA (fun q : Nat => s.heap.size ≤ q)) {k18 : Nat → Nat → Int32 → mm → Option (Int32 × mm)} (n : Nat) (hk18 : ∀ (v1 : Nat) (v2 : Nat) (v3 : Int32) (M : mm) (H : Heap) (locs : List Loc) (ls : Array Slot) (cells slots : Nat), k18 v1 v2 v3 M = some (1, M') → mm_W D dA (fun q : Nat => s.heap.size ≤ q) M H → va_S (fun q : Nat => s.heap.size ≤ q) s.heap H locs → lv_has ls 4 [(0, .ref b), (1, .ref v1), (2, .ref v2), (3, .int v3)] → cells + 5 * n ≤ 600000 → slots + 210 * n ≤ 7302250 → W p l e room_1 s m #[Value.ref b] below meth c H locs cells slots (lw_Z below #[Value.ref b] s) (F0 m 18 ls [])) : ∀ (v1 : Nat) (v2 : Nat) (v3 : Int32) (t0 : Int32) (t1 : Nat) (t2 : Int32) (M : mm) (H : Heap) (locs : List Loc) (ls : Array Slot) (cells slots : Nat), f_law_b155 L xs k18 v1 v2 v3 t0 t1 t2 M = some (1, M') → mm_W D dA (fun q : Nat => s.heap.size ≤ q) M H → va_S (fun q : Nat => s.heap.size ≤ q) s.heap H locs → lv_has ls 4 [(0, .ref b), (1, .ref v1), (2, .ref v2), (3, .int v3)] → cells + (0 + 5 * n) ≤ 600000 → slots + (0 + 210 * n) ≤ 7302250 → W p l e room_1 s m #[Value.ref b] below meth c H locs cells slots (lw_Z below #[Value.ref b] s) (F0 m 155 ls [.int t0, .ref t1, .int t2]) := by
  obtain ⟨hx, hb, hr, hml, hown, hts, hlocks, hK, hA⟩ := id C
  intro v1 v2 v3 t0 t1 t2 M H locs ls cells slots h hW hS hl hcc hcs
  unfold f_law_b155 at h
  obtain ⟨_, e197, h⟩ := ob h
  obtain ⟨⟨x196, M196⟩, e196, h⟩ := ob h
  refine mr_ci C hW hS (va_runV (As := [.int t0]) (rest := [.int t2]) ⟨hx, hb, hml, hown, hts⟩ (c_Mo_pack l D dA _ _ _ t1 t0 e196) (cwV 1 hts (mg_V q_478 q_479 q_480 q_481 q_267) rfl rfl rfl (by decide +kernel) ⟨Nat.le_of_ble_eq_true rfl, Nat.le_of_ble_eq_true rfl⟩) (mr_preV C hW (ci := 1) rfl e197) rfl rfl hl.1 rfl (lv_room (Nat.le_of_ble_eq_true rfl)) d_law_155 ⟨by show _ ≤ 600000; omega, by show _ ≤ 7302250; omega⟩) (fun H locs hW hS => ?_)
  refine lv_icmp_eq (tgt := 833) hx hb d_law_158 (by decide) (fun c198 => ?_) (fun c198 => ?_)
  · have h := ifp h c198
    refine lv_iinc (v := v3 + 5) (lv' := [(3, .int (v3 + 5)), (0, .ref b), (1, .ref v1), (2, .ref v2)]) hx hb d_law_833 hl (k := 3) rfl rfl (by decide) rfl (fun ls hl => ?_)
    refine lv_goto (tgt := 18) hx hb d_law_836 (by decide) ?_
    exact hk18 _ _ _ _ _ _ _ _ _ h hW hS (lv_sub hl [1, 2, 3, 0] rfl) (by omega) (by omega)
  · have h := ifn h c198
    refine lv_iconst (v := 0) hx hb d_law_161 (by decide) ?_
    exact absurd (show (0 : Int32) = 1 from congrArg Prod.fst (Option.some.inj h)) (by decide)
set_option maxHeartbeats 4000000 in
set_option maxRecDepth 100000 in
theorem w_law_b138 {p : Program} {l : Launch} {e : Env} {s : State} {m : MethodId} {below : List Frame} {meth : Method} {c : Code} {D : va_G} {dA : Nat → ClassId} {M' : mm} {b L : Nat} {xs : Nat → Int32} (hX : va_X b L xs s s.heap) (hbl : b < s.heap.size) (C : mm_C p s m #[Value.ref b] meth c code 4 ret R_law D dA (fun q : Nat => s.heap.size ≤ q)) {k18 : Nat → Nat → Int32 → mm → Option (Int32 × mm)} (n : Nat) (hk18 : ∀ (v1 : Nat) (v2 : Nat) (v3 : Int32) (M : mm) (H : Heap) (locs : List Loc) (ls : Array Slot) (cells slots : Nat), k18 v1 v2 v3 M = some (1, M') → mm_W D dA (fun q : Nat => s.heap.size ≤ q) M H → va_S (fun q : Nat => s.heap.size ≤ q) s.heap H locs → lv_has ls 4 [(0, .ref b), (1, .ref v1), (2, .ref v2), (3, .int v3)] → cells + 5 * n ≤ 600000 → slots + 210 * n ≤ 7302250 → W p l e room_1 s m #[Value.ref b] below meth c H locs cells slots (lw_Z below #[Value.ref b] s) (F0 m 18 ls [])) : ∀ (v1 : Nat) (v2 : Nat) (v3 : Int32) (t0 : Int32) (t1 : Nat) (M : mm) (H : Heap) (locs : List Loc) (ls : Array Slot) (cells slots : Nat), f_law_b138 L xs k18 v1 v2 v3 t0 t1 M = some (1, M') → mm_W D dA (fun q : Nat => s.heap.size ≤ q) M H → va_S (fun q : Nat => s.heap.size ≤ q) s.heap H locs → lv_has ls 4 [(0, .ref b), (1, .ref v1), (2, .ref v2), (3, .int v3)] → cells + (5 + 5 * n) ≤ 600000 → slots + (210 + 210 * n) ≤ 7302250 → W p l e room_1 s m #[Value.ref b] below meth c H locs cells slots (lw_Z below #[Value.ref b] s) (F0 m 138 ls [.int t0, .ref t1]) := by
  obtain ⟨hx, hb, hr, hml, hown, hts, hlocks, hK, hA⟩ := id C
  intro v1 v2 v3 t0 t1 M H locs ls cells slots h hW hS hl hcc hcs
  unfold f_law_b138 at h
  obtain ⟨_, e193, h⟩ := ob h
  obtain ⟨⟨x192, M192⟩, e192, h⟩ := ob h
  refine mr_ci C hW hS (va_runV (As := [.int t0]) (rest := []) ⟨hx, hb, hml, hown, hts⟩ (c_X_pack l D dA _ _ _ t1 t0 e192) (cwV 1 hts (mg_V q_474 q_475 q_476 q_477 q_71) rfl rfl rfl (by decide +kernel) ⟨Nat.le_of_ble_eq_true rfl, Nat.le_of_ble_eq_true rfl⟩) (mr_preV C hW (ci := 0) rfl e193) rfl rfl hl.1 rfl (lv_room (Nat.le_of_ble_eq_true rfl)) d_law_138 ⟨by show _ ≤ 600000; omega, by show _ ≤ 7302250; omega⟩) (fun H locs hW hS => ?_)
  refine lv_aload_n hx hb d_law_141 rfl (lv_at hl 2 rfl) ?_
  refine lv_aload_n hx hb d_law_142 rfl (lv_at hl 0 rfl) ?_
  refine lv_iload_n hx hb d_law_143 rfl (lv_at hl 3 rfl) ?_
  refine lv_iconst (v := 1) hx hb d_law_144 (by decide) ?_
  refine lv_iadd hx hb d_law_145 ?_
  obtain ⟨x194, e194, h⟩ := ob h
  refine mr_sc C hX hbl hS e194 d_law_146 ?_
  refine lv_if_eq (tgt := 154) hx hb d_law_147 (by decide) (fun c195 => ?_) (fun c195 => ?_)
  · have h := ifp h c195
    refine lv_iconst (v := 0) hx hb d_law_154 (by decide) ?_
    exact w_law_b155 hX hbl C n hk18 _ _ _ _ _ _ _ _ _ _ _ _ h hW hS (lv_sub hl [0, 1, 2, 3] rfl) (by omega) (by omega)
  · have h := ifn h c195
    refine lv_iconst (v := 1) hx hb d_law_150 (by decide) ?_
    refine lv_goto (tgt := 155) hx hb d_law_151 (by decide) ?_
    exact w_law_b155 hX hbl C n hk18 _ _ _ _ _ _ _ _ _ _ _ _ h hW hS (lv_sub hl [0, 1, 2, 3] rfl) (by omega) (by omega)
set_option maxHeartbeats 4000000 in
set_option maxRecDepth 100000 in
theorem w_law_b376 {p : Program} {l : Launch} {e : Env} {s : State} {m : MethodId} {below : List Frame} {meth : Method} {c : Code} {D : va_G} {dA : Nat → ClassId} {M' : mm} {b L : Nat} {xs : Nat → Int32} (hX : va_X b L xs s s.heap) (hbl : b < s.heap.size) (C : mm_C p s m #[Value.ref b] meth c code 4 ret R_law D dA (fun q : Nat => s.heap.size ≤ q)) {k18 : Nat → Nat → Int32 → mm → Option (Int32 × mm)} (n : Nat) (hk18 : ∀ (v1 : Nat) (v2 : Nat) (v3 : Int32) (M : mm) (H : Heap) (locs : List Loc) (ls : Array Slot) (cells slots : Nat), k18 v1 v2 v3 M = some (1, M') → mm_W D dA (fun q : Nat => s.heap.size ≤ q) M H → va_S (fun q : Nat => s.heap.size ≤ q) s.heap H locs → lv_has ls 4 [(0, .ref b), (1, .ref v1), (2, .ref v2), (3, .int v3)] → cells + 5 * n ≤ 600000 → slots + 210 * n ≤ 7302250 → W p l e room_1 s m #[Value.ref b] below meth c H locs cells slots (lw_Z below #[Value.ref b] s) (F0 m 18 ls [])) : ∀ (v1 : Nat) (v2 : Nat) (v3 : Int32) (t0 : Int32) (t1 : Int32) (t2 : Nat) (t3 : Int32) (M : mm) (H : Heap) (locs : List Loc) (ls : Array Slot) (cells slots : Nat), f_law_b376 L xs k18 v1 v2 v3 t0 t1 t2 t3 M = some (1, M') → mm_W D dA (fun q : Nat => s.heap.size ≤ q) M H → va_S (fun q : Nat => s.heap.size ≤ q) s.heap H locs → lv_has ls 4 [(0, .ref b), (1, .ref v1), (2, .ref v2), (3, .int v3)] → cells + (0 + 5 * n) ≤ 600000 → slots + (0 + 210 * n) ≤ 7302250 → W p l e room_1 s m #[Value.ref b] below meth c H locs cells slots (lw_Z below #[Value.ref b] s) (F0 m 376 ls [.int t0, .int t1, .ref t2, .int t3]) := by
  obtain ⟨hx, hb, hr, hml, hown, hts, hlocks, hK, hA⟩ := id C
  intro v1 v2 v3 t0 t1 t2 t3 M H locs ls cells slots h hW hS hl hcc hcs
  unfold f_law_b376 at h
  obtain ⟨_, e205, h⟩ := ob h
  obtain ⟨⟨x204, M204⟩, e204, h⟩ := ob h
  refine mr_ci C hW hS (va_runV (As := [.int t1, .int t0]) (rest := [.int t3]) ⟨hx, hb, hml, hown, hts⟩ (c_Mo_fails l D dA _ _ _ t2 t1 t0 e204) (cwV 2 hts (mg_V q_486 q_487 q_488 q_489 q_267) rfl rfl rfl (by decide +kernel) ⟨Nat.le_of_ble_eq_true rfl, Nat.le_of_ble_eq_true rfl⟩) (mr_preV C hW (ci := 1) rfl e205) rfl rfl hl.1 rfl (lv_room (Nat.le_of_ble_eq_true rfl)) d_law_376 ⟨by show _ ≤ 600000; omega, by show _ ≤ 7302250; omega⟩) (fun H locs hW hS => ?_)
  refine lv_icmp_eq (tgt := 833) hx hb d_law_379 (by decide) (fun c206 => ?_) (fun c206 => ?_)
  · have h := ifp h c206
    refine lv_iinc (v := v3 + 5) (lv' := [(3, .int (v3 + 5)), (0, .ref b), (1, .ref v1), (2, .ref v2)]) hx hb d_law_833 hl (k := 3) rfl rfl (by decide) rfl (fun ls hl => ?_)
    refine lv_goto (tgt := 18) hx hb d_law_836 (by decide) ?_
    exact hk18 _ _ _ _ _ _ _ _ _ h hW hS (lv_sub hl [1, 2, 3, 0] rfl) (by omega) (by omega)
  · have h := ifn h c206
    refine lv_iconst (v := 0) hx hb d_law_382 (by decide) ?_
    exact absurd (show (0 : Int32) = 1 from congrArg Prod.fst (Option.some.inj h)) (by decide)
set_option maxHeartbeats 4000000 in
set_option maxRecDepth 100000 in
theorem w_law_b354 {p : Program} {l : Launch} {e : Env} {s : State} {m : MethodId} {below : List Frame} {meth : Method} {c : Code} {D : va_G} {dA : Nat → ClassId} {M' : mm} {b L : Nat} {xs : Nat → Int32} (hX : va_X b L xs s s.heap) (hbl : b < s.heap.size) (C : mm_C p s m #[Value.ref b] meth c code 4 ret R_law D dA (fun q : Nat => s.heap.size ≤ q)) {k18 : Nat → Nat → Int32 → mm → Option (Int32 × mm)} (n : Nat) (hk18 : ∀ (v1 : Nat) (v2 : Nat) (v3 : Int32) (M : mm) (H : Heap) (locs : List Loc) (ls : Array Slot) (cells slots : Nat), k18 v1 v2 v3 M = some (1, M') → mm_W D dA (fun q : Nat => s.heap.size ≤ q) M H → va_S (fun q : Nat => s.heap.size ≤ q) s.heap H locs → lv_has ls 4 [(0, .ref b), (1, .ref v1), (2, .ref v2), (3, .int v3)] → cells + 5 * n ≤ 600000 → slots + 210 * n ≤ 7302250 → W p l e room_1 s m #[Value.ref b] below meth c H locs cells slots (lw_Z below #[Value.ref b] s) (F0 m 18 ls [])) : ∀ (v1 : Nat) (v2 : Nat) (v3 : Int32) (t0 : Int32) (t1 : Int32) (t2 : Nat) (M : mm) (H : Heap) (locs : List Loc) (ls : Array Slot) (cells slots : Nat), f_law_b354 L xs k18 v1 v2 v3 t0 t1 t2 M = some (1, M') → mm_W D dA (fun q : Nat => s.heap.size ≤ q) M H → va_S (fun q : Nat => s.heap.size ≤ q) s.heap H locs → lv_has ls 4 [(0, .ref b), (1, .ref v1), (2, .ref v2), (3, .int v3)] → cells + (0 + 5 * n) ≤ 600000 → slots + (0 + 210 * n) ≤ 7302250 → W p l e room_1 s m #[Value.ref b] below meth c H locs cells slots (lw_Z below #[Value.ref b] s) (F0 m 354 ls [.int t0, .int t1, .ref t2]) := by
  obtain ⟨hx, hb, hr, hml, hown, hts, hlocks, hK, hA⟩ := id C
  intro v1 v2 v3 t0 t1 t2 M H locs ls cells slots h hW hS hl hcc hcs
  unfold f_law_b354 at h
  obtain ⟨_, e200, h⟩ := ob h
  obtain ⟨⟨x199, M199⟩, e199, h⟩ := ob h
  refine mr_ci C hW hS (va_runV (As := [.int t1, .int t0]) (rest := []) ⟨hx, hb, hml, hown, hts⟩ (c_X_fails l D dA _ _ _ t2 t1 t0 e199) (cwV 2 hts (mg_V q_482 q_483 q_484 q_485 q_71) rfl rfl rfl (by decide +kernel) ⟨Nat.le_of_ble_eq_true rfl, Nat.le_of_ble_eq_true rfl⟩) (mr_preV C hW (ci := 0) rfl e200) rfl rfl hl.1 rfl (lv_room (Nat.le_of_ble_eq_true rfl)) d_law_354 ⟨by show _ ≤ 600000; omega, by show _ ≤ 7302250; omega⟩) (fun H locs hW hS => ?_)
  refine lv_aload_n hx hb d_law_357 rfl (lv_at hl 2 rfl) ?_
  refine lv_aload_n hx hb d_law_358 rfl (lv_at hl 0 rfl) ?_
  refine lv_iload_n hx hb d_law_359 rfl (lv_at hl 3 rfl) ?_
  refine lv_iconst (v := 1) hx hb d_law_360 (by decide) ?_
  refine lv_iadd hx hb d_law_361 ?_
  obtain ⟨x201, e201, h⟩ := ob h
  refine mr_sc C hX hbl hS e201 d_law_362 ?_
  refine lv_aload_n hx hb d_law_363 rfl (lv_at hl 0 rfl) ?_
  refine lv_iload_n hx hb d_law_364 rfl (lv_at hl 3 rfl) ?_
  refine lv_iconst (v := 2) hx hb d_law_365 (by decide) ?_
  refine lv_iadd hx hb d_law_366 ?_
  obtain ⟨x202, e202, h⟩ := ob h
  refine mr_sc C hX hbl hS e202 d_law_367 ?_
  refine lv_if_eq (tgt := 375) hx hb d_law_368 (by decide) (fun c203 => ?_) (fun c203 => ?_)
  · have h := ifp h c203
    refine lv_iconst (v := 0) hx hb d_law_375 (by decide) ?_
    exact w_law_b376 hX hbl C n hk18 _ _ _ _ _ _ _ _ _ _ _ _ _ h hW hS (lv_sub hl [0, 1, 2, 3] rfl) (by omega) (by omega)
  · have h := ifn h c203
    refine lv_iconst (v := 1) hx hb d_law_371 (by decide) ?_
    refine lv_goto (tgt := 376) hx hb d_law_372 (by decide) ?_
    exact w_law_b376 hX hbl C n hk18 _ _ _ _ _ _ _ _ _ _ _ _ _ h hW hS (lv_sub hl [0, 1, 2, 3] rfl) (by omega) (by omega)
