set_option maxHeartbeats 4000000 in
set_option maxRecDepth 100000 in
theorem w_law_b18 {p : Program} {l : Launch} {e : Env} {s : State} {m : MethodId} {below : List Frame} {meth : Method} {c : Code} {D : va_G} {dA : Nat → ClassId} {M' : mm} {b L : Nat} {xs : Nat → Int32} (hX : va_X b L xs s s.heap) (hbl : b < s.heap.size) (C : mm_C p s m #[Value.ref b] meth c code 4 ret R_law D dA (fun q : Nat => s.heap.size ≤ q)) : ∀ (n : Nat), ∀ (v1 : Nat) (v2 : Nat) (v3 : Int32) (M : mm) (H : Heap) (locs : List Loc) (ls : Array Slot) (cells slots : Nat), f_law_b18 L xs n v1 v2 v3 M = some (1, M') → mm_W D dA (fun q : Nat => s.heap.size ≤ q) M H → va_S (fun q : Nat => s.heap.size ≤ q) s.heap H locs → lv_has ls 4 [(0, .ref b), (1, .ref v1), (2, .ref v2), (3, .int v3)] → cells + 5 * n ≤ 600000 → slots + 210 * n ≤ 7302250 → W p l e room_1 s m #[Value.ref b] below meth c H locs cells slots (lw_Z below #[Value.ref b] s) (F0 m 18 ls []) := by
  obtain ⟨hx, hb, hr, hml, hown, hts, hlocks, hK, hA⟩ := id C
  intro n
  induction n with
  | zero =>
    intro v1 v2 v3 M H locs ls cells slots h hW hS hl hcc hcs
    unfold f_law_b18 at h
    cases h
  | succ n ih =>
    intro v1 v2 v3 M H locs ls cells slots h hW hS hl hcc hcs
    unfold f_law_b18 at h
    refine lv_iload_n hx hb d_law_18 rfl (lv_at hl 3 rfl) ?_
    refine lv_aload_n hx hb d_law_19 rfl (lv_at hl 0 rfl) ?_
    refine mr_sl C hX hbl hS d_law_20 ?_
    refine lv_iconst (v := 5) hx hb d_law_21 (by decide) ?_
    refine lv_isub hx hb d_law_22 ?_
    refine lv_icmp_gt (tgt := 839) hx hb d_law_23 (by decide) (fun c1 => ?_) (fun c1 => ?_)
    · have h := ifp h c1
      refine lv_iconst (v := 1) hx hb d_law_839 (by decide) ?_
      exact mr_lret C hS (by omega) (by omega) d_law_840
    · have h := ifn h c1
      refine lv_aload_n hx hb d_law_26 rfl (lv_at hl 0 rfl) ?_
      refine lv_iload_n hx hb d_law_27 rfl (lv_at hl 3 rfl) ?_
      obtain ⟨x2, e2, h⟩ := ob h
      refine mr_sc C hX hbl hS e2 d_law_28 ?_
      refine lv_bipush (v := 31) hx hb d_law_29 (by decide) ?_
      refine lv_iand hx hb d_law_31 ?_
      by_cases c3 : (x2 &&& 31) = 0
      · have h := ifp h c3
        refine lv_tableIn (tgt := 124) hx hb d_law_32 (by rw [c3]; decide) (by rw [c3]; decide) (by rw [c3]; rfl) (by decide) ?_
        refine lv_aload_n hx hb d_law_124 rfl (lv_at hl 1 rfl) ?_
        refine lv_aload_n hx hb d_law_125 rfl (lv_at hl 0 rfl) ?_
        refine lv_iload_n hx hb d_law_126 rfl (lv_at hl 3 rfl) ?_
        refine lv_iconst (v := 1) hx hb d_law_127 (by decide) ?_
        refine lv_iadd hx hb d_law_128 ?_
        obtain ⟨x4, e4, h⟩ := ob h
        refine mr_sc C hX hbl hS e4 d_law_129 ?_
        refine lv_if_eq (tgt := 137) hx hb d_law_130 (by decide) (fun c5 => ?_) (fun c5 => ?_)
        · have h := ifp h c5
          refine lv_iconst (v := 0) hx hb d_law_137 (by decide) ?_
          exact w_law_b138 hX hbl C n ih _ _ _ _ _ _ _ _ _ _ _ h hW hS (lv_sub hl [0, 1, 2, 3] rfl) (by omega) (by omega)
        · have h := ifn h c5
          refine lv_iconst (v := 1) hx hb d_law_133 (by decide) ?_
          refine lv_goto (tgt := 138) hx hb d_law_134 (by decide) ?_
          exact w_law_b138 hX hbl C n ih _ _ _ _ _ _ _ _ _ _ _ h hW hS (lv_sub hl [0, 1, 2, 3] rfl) (by omega) (by omega)
      have h := ifn h c3
      by_cases c6 : (x2 &&& 31) = 1
      · have h := ifp h c6
        refine lv_tableIn (tgt := 163) hx hb d_law_32 (by rw [c6]; decide) (by rw [c6]; decide) (by rw [c6]; rfl) (by decide) ?_
        refine lv_aload_n hx hb d_law_163 rfl (lv_at hl 1 rfl) ?_
        refine lv_aload_n hx hb d_law_164 rfl (lv_at hl 0 rfl) ?_
        refine lv_iload_n hx hb d_law_165 rfl (lv_at hl 3 rfl) ?_
        refine lv_iconst (v := 1) hx hb d_law_166 (by decide) ?_
        refine lv_iadd hx hb d_law_167 ?_
        obtain ⟨x7, e7, h⟩ := ob h
        refine mr_sc C hX hbl hS e7 d_law_168 ?_
        refine lv_aload_n hx hb d_law_169 rfl (lv_at hl 0 rfl) ?_
        refine lv_iload_n hx hb d_law_170 rfl (lv_at hl 3 rfl) ?_
        refine lv_iconst (v := 2) hx hb d_law_171 (by decide) ?_
        refine lv_iadd hx hb d_law_172 ?_
        obtain ⟨x8, e8, h⟩ := ob h
        refine mr_sc C hX hbl hS e8 d_law_173 ?_
        obtain ⟨_, e10, h⟩ := ob h
        obtain ⟨⟨x9, M9⟩, e9, h⟩ := ob h
        refine mr_ci C hW hS (va_runV (As := [.int x7, .int x8]) (rest := []) ⟨hx, hb, hml, hown, hts⟩ (c_X_title l D dA _ _ _ v1 x7 x8 e9) (cwV 2 hts (mg_V q_338 q_339 q_340 q_341 q_71) rfl rfl rfl (by decide +kernel) ⟨Nat.le_of_ble_eq_true rfl, Nat.le_of_ble_eq_true rfl⟩) (mr_preV C hW (ci := 0) rfl e10) rfl rfl hl.1 rfl (lv_room (Nat.le_of_ble_eq_true rfl)) d_law_174 ⟨by show _ ≤ 600000; omega, by show _ ≤ 7302250; omega⟩) (fun H locs hW hS => ?_)
        refine lv_aload_n hx hb d_law_177 rfl (lv_at hl 2 rfl) ?_
        refine lv_aload_n hx hb d_law_178 rfl (lv_at hl 0 rfl) ?_
        refine lv_iload_n hx hb d_law_179 rfl (lv_at hl 3 rfl) ?_
        refine lv_iconst (v := 1) hx hb d_law_180 (by decide) ?_
        refine lv_iadd hx hb d_law_181 ?_
        obtain ⟨x11, e11, h⟩ := ob h
        refine mr_sc C hX hbl hS e11 d_law_182 ?_
        refine lv_aload_n hx hb d_law_183 rfl (lv_at hl 0 rfl) ?_
        refine lv_iload_n hx hb d_law_184 rfl (lv_at hl 3 rfl) ?_
        refine lv_iconst (v := 2) hx hb d_law_185 (by decide) ?_
        refine lv_iadd hx hb d_law_186 ?_
        obtain ⟨x12, e12, h⟩ := ob h
        refine mr_sc C hX hbl hS e12 d_law_187 ?_
        obtain ⟨_, e14, h⟩ := ob h
        obtain ⟨⟨x13, M13⟩, e13, h⟩ := ob h
        refine mr_ci C hW hS (va_runV (As := [.int x11, .int x12]) (rest := [.int x9]) ⟨hx, hb, hml, hown, hts⟩ (c_Mo_title l D dA _ _ _ v2 x11 x12 e13) (cwV 2 hts (mg_V q_342 q_343 q_344 q_345 q_267) rfl rfl rfl (by decide +kernel) ⟨Nat.le_of_ble_eq_true rfl, Nat.le_of_ble_eq_true rfl⟩) (mr_preV C hW (ci := 1) rfl e14) rfl rfl hl.1 rfl (lv_room (Nat.le_of_ble_eq_true rfl)) d_law_188 ⟨by show _ ≤ 600000; omega, by show _ ≤ 7302250; omega⟩) (fun H locs hW hS => ?_)
        refine lv_icmp_eq (tgt := 833) hx hb d_law_191 (by decide) (fun c15 => ?_) (fun c15 => ?_)
        · have h := ifp h c15
          refine lv_iinc (v := v3 + 5) (lv' := [(3, .int (v3 + 5)), (0, .ref b), (1, .ref v1), (2, .ref v2)]) hx hb d_law_833 hl (k := 3) rfl rfl (by decide) rfl (fun ls hl => ?_)
          refine lv_goto (tgt := 18) hx hb d_law_836 (by decide) ?_
          exact ih _ _ _ _ _ _ _ _ _ h hW hS (lv_sub hl [1, 2, 3, 0] rfl) (by omega) (by omega)
        · have h := ifn h c15
          refine lv_iconst (v := 0) hx hb d_law_194 (by decide) ?_
          exact absurd (show (0 : Int32) = 1 from congrArg Prod.fst (Option.some.inj h)) (by decide)
      have h := ifn h c6
      by_cases c16 : (x2 &&& 31) = 2
      · have h := ifp h c16
        refine lv_tableIn (tgt := 196) hx hb d_law_32 (by rw [c16]; decide) (by rw [c16]; decide) (by rw [c16]; rfl) (by decide) ?_
        refine lv_aload_n hx hb d_law_196 rfl (lv_at hl 1 rfl) ?_
        refine lv_aload_n hx hb d_law_197 rfl (lv_at hl 0 rfl) ?_
        refine lv_iload_n hx hb d_law_198 rfl (lv_at hl 3 rfl) ?_
        refine lv_iconst (v := 1) hx hb d_law_199 (by decide) ?_
        refine lv_iadd hx hb d_law_200 ?_
        obtain ⟨x17, e17, h⟩ := ob h
        refine mr_sc C hX hbl hS e17 d_law_201 ?_
        refine lv_aload_n hx hb d_law_202 rfl (lv_at hl 0 rfl) ?_
        refine lv_iload_n hx hb d_law_203 rfl (lv_at hl 3 rfl) ?_
        refine lv_iconst (v := 2) hx hb d_law_204 (by decide) ?_
        refine lv_iadd hx hb d_law_205 ?_
        obtain ⟨x18, e18, h⟩ := ob h
        refine mr_sc C hX hbl hS e18 d_law_206 ?_
        refine lv_aload_n hx hb d_law_207 rfl (lv_at hl 0 rfl) ?_
        refine lv_iload_n hx hb d_law_208 rfl (lv_at hl 3 rfl) ?_
        refine lv_iconst (v := 3) hx hb d_law_209 (by decide) ?_
        refine lv_iadd hx hb d_law_210 ?_
        obtain ⟨x19, e19, h⟩ := ob h
        refine mr_sc C hX hbl hS e19 d_law_211 ?_
        obtain ⟨_, e21, h⟩ := ob h
        obtain ⟨⟨x20, M20⟩, e20, h⟩ := ob h
        refine mr_ci C hW hS (va_runV (As := [.int x17, .int x18, .int x19]) (rest := []) ⟨hx, hb, hml, hown, hts⟩ (c_X_cover l D dA _ _ _ v1 x17 x18 x19 e20) (cwV 3 hts (mg_V q_346 q_347 q_348 q_349 q_71) rfl rfl rfl (by decide +kernel) ⟨Nat.le_of_ble_eq_true rfl, Nat.le_of_ble_eq_true rfl⟩) (mr_preV C hW (ci := 0) rfl e21) rfl rfl hl.1 rfl (lv_room (Nat.le_of_ble_eq_true rfl)) d_law_212 ⟨by show _ ≤ 600000; omega, by show _ ≤ 7302250; omega⟩) (fun H locs hW hS => ?_)
        refine lv_aload_n hx hb d_law_215 rfl (lv_at hl 2 rfl) ?_
        refine lv_aload_n hx hb d_law_216 rfl (lv_at hl 0 rfl) ?_
        refine lv_iload_n hx hb d_law_217 rfl (lv_at hl 3 rfl) ?_
        refine lv_iconst (v := 1) hx hb d_law_218 (by decide) ?_
        refine lv_iadd hx hb d_law_219 ?_
        obtain ⟨x22, e22, h⟩ := ob h
        refine mr_sc C hX hbl hS e22 d_law_220 ?_
        refine lv_aload_n hx hb d_law_221 rfl (lv_at hl 0 rfl) ?_
        refine lv_iload_n hx hb d_law_222 rfl (lv_at hl 3 rfl) ?_
        refine lv_iconst (v := 2) hx hb d_law_223 (by decide) ?_
        refine lv_iadd hx hb d_law_224 ?_
        obtain ⟨x23, e23, h⟩ := ob h
        refine mr_sc C hX hbl hS e23 d_law_225 ?_
        refine lv_aload_n hx hb d_law_226 rfl (lv_at hl 0 rfl) ?_
        refine lv_iload_n hx hb d_law_227 rfl (lv_at hl 3 rfl) ?_
        refine lv_iconst (v := 3) hx hb d_law_228 (by decide) ?_
        refine lv_iadd hx hb d_law_229 ?_
        obtain ⟨x24, e24, h⟩ := ob h
        refine mr_sc C hX hbl hS e24 d_law_230 ?_
        obtain ⟨_, e26, h⟩ := ob h
        obtain ⟨⟨x25, M25⟩, e25, h⟩ := ob h
        refine mr_ci C hW hS (va_runV (As := [.int x22, .int x23, .int x24]) (rest := [.int x20]) ⟨hx, hb, hml, hown, hts⟩ (c_Mo_cover l D dA _ _ _ v2 x22 x23 x24 e25) (cwV 3 hts (mg_V q_350 q_351 q_352 q_353 q_267) rfl rfl rfl (by decide +kernel) ⟨Nat.le_of_ble_eq_true rfl, Nat.le_of_ble_eq_true rfl⟩) (mr_preV C hW (ci := 1) rfl e26) rfl rfl hl.1 rfl (lv_room (Nat.le_of_ble_eq_true rfl)) d_law_231 ⟨by show _ ≤ 600000; omega, by show _ ≤ 7302250; omega⟩) (fun H locs hW hS => ?_)
        refine lv_icmp_eq (tgt := 833) hx hb d_law_234 (by decide) (fun c27 => ?_) (fun c27 => ?_)
        · have h := ifp h c27
          refine lv_iinc (v := v3 + 5) (lv' := [(3, .int (v3 + 5)), (0, .ref b), (1, .ref v1), (2, .ref v2)]) hx hb d_law_833 hl (k := 3) rfl rfl (by decide) rfl (fun ls hl => ?_)
          refine lv_goto (tgt := 18) hx hb d_law_836 (by decide) ?_
          exact ih _ _ _ _ _ _ _ _ _ h hW hS (lv_sub hl [1, 2, 3, 0] rfl) (by omega) (by omega)
        · have h := ifn h c27
          refine lv_iconst (v := 0) hx hb d_law_237 (by decide) ?_
          exact absurd (show (0 : Int32) = 1 from congrArg Prod.fst (Option.some.inj h)) (by decide)
      have h := ifn h c16
      by_cases c28 : (x2 &&& 31) = 3
      · have h := ifp h c28
        refine lv_tableIn (tgt := 239) hx hb d_law_32 (by rw [c28]; decide) (by rw [c28]; decide) (by rw [c28]; rfl) (by decide) ?_
        refine lv_aload_n hx hb d_law_239 rfl (lv_at hl 1 rfl) ?_
        refine lv_aload_n hx hb d_law_240 rfl (lv_at hl 0 rfl) ?_
        refine lv_iload_n hx hb d_law_241 rfl (lv_at hl 3 rfl) ?_
        refine lv_iconst (v := 1) hx hb d_law_242 (by decide) ?_
        refine lv_iadd hx hb d_law_243 ?_
        obtain ⟨x29, e29, h⟩ := ob h
        refine mr_sc C hX hbl hS e29 d_law_244 ?_
        refine lv_aload_n hx hb d_law_245 rfl (lv_at hl 0 rfl) ?_
        refine lv_iload_n hx hb d_law_246 rfl (lv_at hl 3 rfl) ?_
        refine lv_iconst (v := 2) hx hb d_law_247 (by decide) ?_
        refine lv_iadd hx hb d_law_248 ?_
        obtain ⟨x30, e30, h⟩ := ob h
        refine mr_sc C hX hbl hS e30 d_law_249 ?_
        refine lv_aload_n hx hb d_law_250 rfl (lv_at hl 0 rfl) ?_
        refine lv_iload_n hx hb d_law_251 rfl (lv_at hl 3 rfl) ?_
        refine lv_iconst (v := 3) hx hb d_law_252 (by decide) ?_
        refine lv_iadd hx hb d_law_253 ?_
        obtain ⟨x31, e31, h⟩ := ob h
        refine mr_sc C hX hbl hS e31 d_law_254 ?_
        obtain ⟨_, e33, h⟩ := ob h
        obtain ⟨⟨x32, M32⟩, e32, h⟩ := ob h
        refine mr_ci C hW hS (va_runV (As := [.int x29, .int x30, .int x31]) (rest := []) ⟨hx, hb, hml, hown, hts⟩ (c_X_embargo l D dA _ _ _ v1 x29 x30 x31 e32) (cwV 3 hts (mg_V q_354 q_355 q_356 q_357 q_71) rfl rfl rfl (by decide +kernel) ⟨Nat.le_of_ble_eq_true rfl, Nat.le_of_ble_eq_true rfl⟩) (mr_preV C hW (ci := 0) rfl e33) rfl rfl hl.1 rfl (lv_room (Nat.le_of_ble_eq_true rfl)) d_law_255 ⟨by show _ ≤ 600000; omega, by show _ ≤ 7302250; omega⟩) (fun H locs hW hS => ?_)
        refine lv_aload_n hx hb d_law_258 rfl (lv_at hl 2 rfl) ?_
        refine lv_aload_n hx hb d_law_259 rfl (lv_at hl 0 rfl) ?_
        refine lv_iload_n hx hb d_law_260 rfl (lv_at hl 3 rfl) ?_
        refine lv_iconst (v := 1) hx hb d_law_261 (by decide) ?_
        refine lv_iadd hx hb d_law_262 ?_
        obtain ⟨x34, e34, h⟩ := ob h
        refine mr_sc C hX hbl hS e34 d_law_263 ?_
        refine lv_aload_n hx hb d_law_264 rfl (lv_at hl 0 rfl) ?_
        refine lv_iload_n hx hb d_law_265 rfl (lv_at hl 3 rfl) ?_
        refine lv_iconst (v := 2) hx hb d_law_266 (by decide) ?_
        refine lv_iadd hx hb d_law_267 ?_
        obtain ⟨x35, e35, h⟩ := ob h
        refine mr_sc C hX hbl hS e35 d_law_268 ?_
        refine lv_aload_n hx hb d_law_269 rfl (lv_at hl 0 rfl) ?_
        refine lv_iload_n hx hb d_law_270 rfl (lv_at hl 3 rfl) ?_
        refine lv_iconst (v := 3) hx hb d_law_271 (by decide) ?_
        refine lv_iadd hx hb d_law_272 ?_
        obtain ⟨x36, e36, h⟩ := ob h
        refine mr_sc C hX hbl hS e36 d_law_273 ?_
        obtain ⟨_, e38, h⟩ := ob h
        obtain ⟨⟨x37, M37⟩, e37, h⟩ := ob h
        refine mr_ci C hW hS (va_runV (As := [.int x34, .int x35, .int x36]) (rest := [.int x32]) ⟨hx, hb, hml, hown, hts⟩ (c_Mo_embargo l D dA _ _ _ v2 x34 x35 x36 e37) (cwV 3 hts (mg_V q_358 q_359 q_360 q_361 q_267) rfl rfl rfl (by decide +kernel) ⟨Nat.le_of_ble_eq_true rfl, Nat.le_of_ble_eq_true rfl⟩) (mr_preV C hW (ci := 1) rfl e38) rfl rfl hl.1 rfl (lv_room (Nat.le_of_ble_eq_true rfl)) d_law_274 ⟨by show _ ≤ 600000; omega, by show _ ≤ 7302250; omega⟩) (fun H locs hW hS => ?_)
        refine lv_icmp_eq (tgt := 833) hx hb d_law_277 (by decide) (fun c39 => ?_) (fun c39 => ?_)
        · have h := ifp h c39
          refine lv_iinc (v := v3 + 5) (lv' := [(3, .int (v3 + 5)), (0, .ref b), (1, .ref v1), (2, .ref v2)]) hx hb d_law_833 hl (k := 3) rfl rfl (by decide) rfl (fun ls hl => ?_)
          refine lv_goto (tgt := 18) hx hb d_law_836 (by decide) ?_
          exact ih _ _ _ _ _ _ _ _ _ h hW hS (lv_sub hl [1, 2, 3, 0] rfl) (by omega) (by omega)
        · have h := ifn h c39
          refine lv_iconst (v := 0) hx hb d_law_280 (by decide) ?_
          exact absurd (show (0 : Int32) = 1 from congrArg Prod.fst (Option.some.inj h)) (by decide)
      have h := ifn h c28
      by_cases c40 : (x2 &&& 31) = 4
      · have h := ifp h c40
        refine lv_tableIn (tgt := 282) hx hb d_law_32 (by rw [c40]; decide) (by rw [c40]; decide) (by rw [c40]; rfl) (by decide) ?_
        refine lv_aload_n hx hb d_law_282 rfl (lv_at hl 1 rfl) ?_
        refine lv_aload_n hx hb d_law_283 rfl (lv_at hl 0 rfl) ?_
        refine lv_iload_n hx hb d_law_284 rfl (lv_at hl 3 rfl) ?_
        refine lv_iconst (v := 1) hx hb d_law_285 (by decide) ?_
        refine lv_iadd hx hb d_law_286 ?_
        obtain ⟨x41, e41, h⟩ := ob h
        refine mr_sc C hX hbl hS e41 d_law_287 ?_
        refine lv_aload_n hx hb d_law_288 rfl (lv_at hl 0 rfl) ?_
        refine lv_iload_n hx hb d_law_289 rfl (lv_at hl 3 rfl) ?_
        refine lv_iconst (v := 2) hx hb d_law_290 (by decide) ?_
        refine lv_iadd hx hb d_law_291 ?_
        obtain ⟨x42, e42, h⟩ := ob h
        refine mr_sc C hX hbl hS e42 d_law_292 ?_
        refine lv_aload_n hx hb d_law_293 rfl (lv_at hl 0 rfl) ?_
        refine lv_iload_n hx hb d_law_294 rfl (lv_at hl 3 rfl) ?_
        refine lv_iconst (v := 3) hx hb d_law_295 (by decide) ?_
        refine lv_iadd hx hb d_law_296 ?_
        obtain ⟨x43, e43, h⟩ := ob h
        refine mr_sc C hX hbl hS e43 d_law_297 ?_
        refine lv_aload_n hx hb d_law_298 rfl (lv_at hl 0 rfl) ?_
        refine lv_iload_n hx hb d_law_299 rfl (lv_at hl 3 rfl) ?_
        refine lv_iconst (v := 4) hx hb d_law_300 (by decide) ?_
        refine lv_iadd hx hb d_law_301 ?_
        obtain ⟨x44, e44, h⟩ := ob h
        refine mr_sc C hX hbl hS e44 d_law_302 ?_
        obtain ⟨_, e46, h⟩ := ob h
        obtain ⟨⟨x45, M45⟩, e45, h⟩ := ob h
        refine mr_ci C hW hS (va_runV (As := [.int x41, .int x42, .int x43, .int x44]) (rest := []) ⟨hx, hb, hml, hown, hts⟩ (c_X_rule l D dA _ _ _ v1 x41 x42 x43 x44 e45) (cwV 4 hts (mg_V q_362 q_363 q_364 q_365 q_71) rfl rfl rfl (by decide +kernel) ⟨Nat.le_of_ble_eq_true rfl, Nat.le_of_ble_eq_true rfl⟩) (mr_preV C hW (ci := 0) rfl e46) rfl rfl hl.1 rfl (lv_room (Nat.le_of_ble_eq_true rfl)) d_law_303 ⟨by show _ ≤ 600000; omega, by show _ ≤ 7302250; omega⟩) (fun H locs hW hS => ?_)
        refine lv_aload_n hx hb d_law_306 rfl (lv_at hl 2 rfl) ?_
        refine lv_aload_n hx hb d_law_307 rfl (lv_at hl 0 rfl) ?_
        refine lv_iload_n hx hb d_law_308 rfl (lv_at hl 3 rfl) ?_
        refine lv_iconst (v := 1) hx hb d_law_309 (by decide) ?_
        refine lv_iadd hx hb d_law_310 ?_
        obtain ⟨x47, e47, h⟩ := ob h
        refine mr_sc C hX hbl hS e47 d_law_311 ?_
        refine lv_aload_n hx hb d_law_312 rfl (lv_at hl 0 rfl) ?_
        refine lv_iload_n hx hb d_law_313 rfl (lv_at hl 3 rfl) ?_
        refine lv_iconst (v := 2) hx hb d_law_314 (by decide) ?_
        refine lv_iadd hx hb d_law_315 ?_
        obtain ⟨x48, e48, h⟩ := ob h
        refine mr_sc C hX hbl hS e48 d_law_316 ?_
        refine lv_aload_n hx hb d_law_317 rfl (lv_at hl 0 rfl) ?_
        refine lv_iload_n hx hb d_law_318 rfl (lv_at hl 3 rfl) ?_
        refine lv_iconst (v := 3) hx hb d_law_319 (by decide) ?_
        refine lv_iadd hx hb d_law_320 ?_
        obtain ⟨x49, e49, h⟩ := ob h
        refine mr_sc C hX hbl hS e49 d_law_321 ?_
        refine lv_aload_n hx hb d_law_322 rfl (lv_at hl 0 rfl) ?_
        refine lv_iload_n hx hb d_law_323 rfl (lv_at hl 3 rfl) ?_
        refine lv_iconst (v := 4) hx hb d_law_324 (by decide) ?_
        refine lv_iadd hx hb d_law_325 ?_
        obtain ⟨x50, e50, h⟩ := ob h
        refine mr_sc C hX hbl hS e50 d_law_326 ?_
        obtain ⟨_, e52, h⟩ := ob h
        obtain ⟨⟨x51, M51⟩, e51, h⟩ := ob h
        refine mr_ci C hW hS (va_runV (As := [.int x47, .int x48, .int x49, .int x50]) (rest := [.int x45]) ⟨hx, hb, hml, hown, hts⟩ (c_Mo_rule l D dA _ _ _ v2 x47 x48 x49 x50 e51) (cwV 4 hts (mg_V q_366 q_367 q_368 q_369 q_267) rfl rfl rfl (by decide +kernel) ⟨Nat.le_of_ble_eq_true rfl, Nat.le_of_ble_eq_true rfl⟩) (mr_preV C hW (ci := 1) rfl e52) rfl rfl hl.1 rfl (lv_room (Nat.le_of_ble_eq_true rfl)) d_law_327 ⟨by show _ ≤ 600000; omega, by show _ ≤ 7302250; omega⟩) (fun H locs hW hS => ?_)
        refine lv_icmp_eq (tgt := 833) hx hb d_law_330 (by decide) (fun c53 => ?_) (fun c53 => ?_)
        · have h := ifp h c53
          refine lv_iinc (v := v3 + 5) (lv' := [(3, .int (v3 + 5)), (0, .ref b), (1, .ref v1), (2, .ref v2)]) hx hb d_law_833 hl (k := 3) rfl rfl (by decide) rfl (fun ls hl => ?_)
          refine lv_goto (tgt := 18) hx hb d_law_836 (by decide) ?_
          exact ih _ _ _ _ _ _ _ _ _ h hW hS (lv_sub hl [1, 2, 3, 0] rfl) (by omega) (by omega)
        · have h := ifn h c53
          refine lv_iconst (v := 0) hx hb d_law_333 (by decide) ?_
          exact absurd (show (0 : Int32) = 1 from congrArg Prod.fst (Option.some.inj h)) (by decide)
      have h := ifn h c40
      by_cases c54 : (x2 &&& 31) = 5
      · have h := ifp h c54
        refine lv_tableIn (tgt := 335) hx hb d_law_32 (by rw [c54]; decide) (by rw [c54]; decide) (by rw [c54]; rfl) (by decide) ?_
        refine lv_aload_n hx hb d_law_335 rfl (lv_at hl 1 rfl) ?_
        refine lv_aload_n hx hb d_law_336 rfl (lv_at hl 0 rfl) ?_
        refine lv_iload_n hx hb d_law_337 rfl (lv_at hl 3 rfl) ?_
        refine lv_iconst (v := 1) hx hb d_law_338 (by decide) ?_
        refine lv_iadd hx hb d_law_339 ?_
        obtain ⟨x55, e55, h⟩ := ob h
        refine mr_sc C hX hbl hS e55 d_law_340 ?_
        refine lv_aload_n hx hb d_law_341 rfl (lv_at hl 0 rfl) ?_
        refine lv_iload_n hx hb d_law_342 rfl (lv_at hl 3 rfl) ?_
        refine lv_iconst (v := 2) hx hb d_law_343 (by decide) ?_
        refine lv_iadd hx hb d_law_344 ?_
        obtain ⟨x56, e56, h⟩ := ob h
        refine mr_sc C hX hbl hS e56 d_law_345 ?_
        refine lv_if_eq (tgt := 353) hx hb d_law_346 (by decide) (fun c57 => ?_) (fun c57 => ?_)
        · have h := ifp h c57
          refine lv_iconst (v := 0) hx hb d_law_353 (by decide) ?_
          exact w_law_b354 hX hbl C n ih _ _ _ _ _ _ _ _ _ _ _ _ h hW hS (lv_sub hl [0, 1, 2, 3] rfl) (by omega) (by omega)
        · have h := ifn h c57
          refine lv_iconst (v := 1) hx hb d_law_349 (by decide) ?_
          refine lv_goto (tgt := 354) hx hb d_law_350 (by decide) ?_
          exact w_law_b354 hX hbl C n ih _ _ _ _ _ _ _ _ _ _ _ _ h hW hS (lv_sub hl [0, 1, 2, 3] rfl) (by omega) (by omega)
      have h := ifn h c54
      by_cases c58 : (x2 &&& 31) = 6
      · have h := ifp h c58
        refine lv_tableIn (tgt := 384) hx hb d_law_32 (by rw [c58]; decide) (by rw [c58]; decide) (by rw [c58]; rfl) (by decide) ?_
        refine lv_aload_n hx hb d_law_384 rfl (lv_at hl 1 rfl) ?_
        refine lv_aload_n hx hb d_law_385 rfl (lv_at hl 0 rfl) ?_
        refine lv_iload_n hx hb d_law_386 rfl (lv_at hl 3 rfl) ?_
        refine lv_iconst (v := 1) hx hb d_law_387 (by decide) ?_
        refine lv_iadd hx hb d_law_388 ?_
        obtain ⟨x59, e59, h⟩ := ob h
        refine mr_sc C hX hbl hS e59 d_law_389 ?_
        refine lv_aload_n hx hb d_law_390 rfl (lv_at hl 0 rfl) ?_
        refine lv_iload_n hx hb d_law_391 rfl (lv_at hl 3 rfl) ?_
        refine lv_iconst (v := 2) hx hb d_law_392 (by decide) ?_
        refine lv_iadd hx hb d_law_393 ?_
        obtain ⟨x60, e60, h⟩ := ob h
        refine mr_sc C hX hbl hS e60 d_law_394 ?_
        obtain ⟨_, e62, h⟩ := ob h
        obtain ⟨⟨x61, M61⟩, e61, h⟩ := ob h
        refine mr_ci C hW hS (va_runV (As := [.int x59, .int x60]) (rest := []) ⟨hx, hb, hml, hown, hts⟩ (c_X_reader l D dA _ _ _ v1 x59 x60 e61) (cwV 2 hts (mg_V q_370 q_371 q_372 q_373 q_71) rfl rfl rfl (by decide +kernel) ⟨Nat.le_of_ble_eq_true rfl, Nat.le_of_ble_eq_true rfl⟩) (mr_preV C hW (ci := 0) rfl e62) rfl rfl hl.1 rfl (lv_room (Nat.le_of_ble_eq_true rfl)) d_law_395 ⟨by show _ ≤ 600000; omega, by show _ ≤ 7302250; omega⟩) (fun H locs hW hS => ?_)
        refine lv_aload_n hx hb d_law_398 rfl (lv_at hl 2 rfl) ?_
        refine lv_aload_n hx hb d_law_399 rfl (lv_at hl 0 rfl) ?_
        refine lv_iload_n hx hb d_law_400 rfl (lv_at hl 3 rfl) ?_
        refine lv_iconst (v := 1) hx hb d_law_401 (by decide) ?_
        refine lv_iadd hx hb d_law_402 ?_
        obtain ⟨x63, e63, h⟩ := ob h
        refine mr_sc C hX hbl hS e63 d_law_403 ?_
        refine lv_aload_n hx hb d_law_404 rfl (lv_at hl 0 rfl) ?_
        refine lv_iload_n hx hb d_law_405 rfl (lv_at hl 3 rfl) ?_
        refine lv_iconst (v := 2) hx hb d_law_406 (by decide) ?_
        refine lv_iadd hx hb d_law_407 ?_
        obtain ⟨x64, e64, h⟩ := ob h
        refine mr_sc C hX hbl hS e64 d_law_408 ?_
        obtain ⟨_, e66, h⟩ := ob h
        obtain ⟨⟨x65, M65⟩, e65, h⟩ := ob h
        refine mr_ci C hW hS (va_runV (As := [.int x63, .int x64]) (rest := [.int x61]) ⟨hx, hb, hml, hown, hts⟩ (c_Mo_reader l D dA _ _ _ v2 x63 x64 e65) (cwV 2 hts (mg_V q_374 q_375 q_376 q_377 q_267) rfl rfl rfl (by decide +kernel) ⟨Nat.le_of_ble_eq_true rfl, Nat.le_of_ble_eq_true rfl⟩) (mr_preV C hW (ci := 1) rfl e66) rfl rfl hl.1 rfl (lv_room (Nat.le_of_ble_eq_true rfl)) d_law_409 ⟨by show _ ≤ 600000; omega, by show _ ≤ 7302250; omega⟩) (fun H locs hW hS => ?_)
        refine lv_icmp_eq (tgt := 833) hx hb d_law_412 (by decide) (fun c67 => ?_) (fun c67 => ?_)
        · have h := ifp h c67
          refine lv_iinc (v := v3 + 5) (lv' := [(3, .int (v3 + 5)), (0, .ref b), (1, .ref v1), (2, .ref v2)]) hx hb d_law_833 hl (k := 3) rfl rfl (by decide) rfl (fun ls hl => ?_)
          refine lv_goto (tgt := 18) hx hb d_law_836 (by decide) ?_
          exact ih _ _ _ _ _ _ _ _ _ h hW hS (lv_sub hl [1, 2, 3, 0] rfl) (by omega) (by omega)
        · have h := ifn h c67
          refine lv_iconst (v := 0) hx hb d_law_415 (by decide) ?_
          exact absurd (show (0 : Int32) = 1 from congrArg Prod.fst (Option.some.inj h)) (by decide)
      have h := ifn h c58
      by_cases c68 : (x2 &&& 31) = 7
      · have h := ifp h c68
        refine lv_tableIn (tgt := 417) hx hb d_law_32 (by rw [c68]; decide) (by rw [c68]; decide) (by rw [c68]; rfl) (by decide) ?_
        refine lv_aload_n hx hb d_law_417 rfl (lv_at hl 1 rfl) ?_
        refine lv_aload_n hx hb d_law_418 rfl (lv_at hl 0 rfl) ?_
        refine lv_iload_n hx hb d_law_419 rfl (lv_at hl 3 rfl) ?_
        refine lv_iconst (v := 1) hx hb d_law_420 (by decide) ?_
        refine lv_iadd hx hb d_law_421 ?_
        obtain ⟨x69, e69, h⟩ := ob h
        refine mr_sc C hX hbl hS e69 d_law_422 ?_
        refine lv_aload_n hx hb d_law_423 rfl (lv_at hl 0 rfl) ?_
        refine lv_iload_n hx hb d_law_424 rfl (lv_at hl 3 rfl) ?_
        refine lv_iconst (v := 2) hx hb d_law_425 (by decide) ?_
        refine lv_iadd hx hb d_law_426 ?_
        obtain ⟨x70, e70, h⟩ := ob h
        refine mr_sc C hX hbl hS e70 d_law_427 ?_
        obtain ⟨_, e72, h⟩ := ob h
        obtain ⟨⟨x71, M71⟩, e71, h⟩ := ob h
        refine mr_ci C hW hS (va_runV (As := [.int x69, .int x70]) (rest := []) ⟨hx, hb, hml, hown, hts⟩ (c_X_room l D dA _ _ _ v1 x69 x70 e71) (cwV 2 hts (mg_V q_378 q_379 q_380 q_381 q_71) rfl rfl rfl (by decide +kernel) ⟨Nat.le_of_ble_eq_true rfl, Nat.le_of_ble_eq_true rfl⟩) (mr_preV C hW (ci := 0) rfl e72) rfl rfl hl.1 rfl (lv_room (Nat.le_of_ble_eq_true rfl)) d_law_428 ⟨by show _ ≤ 600000; omega, by show _ ≤ 7302250; omega⟩) (fun H locs hW hS => ?_)
        refine lv_aload_n hx hb d_law_431 rfl (lv_at hl 2 rfl) ?_
        refine lv_aload_n hx hb d_law_432 rfl (lv_at hl 0 rfl) ?_
        refine lv_iload_n hx hb d_law_433 rfl (lv_at hl 3 rfl) ?_
        refine lv_iconst (v := 1) hx hb d_law_434 (by decide) ?_
        refine lv_iadd hx hb d_law_435 ?_
        obtain ⟨x73, e73, h⟩ := ob h
        refine mr_sc C hX hbl hS e73 d_law_436 ?_
        refine lv_aload_n hx hb d_law_437 rfl (lv_at hl 0 rfl) ?_
        refine lv_iload_n hx hb d_law_438 rfl (lv_at hl 3 rfl) ?_
        refine lv_iconst (v := 2) hx hb d_law_439 (by decide) ?_
        refine lv_iadd hx hb d_law_440 ?_
        obtain ⟨x74, e74, h⟩ := ob h
        refine mr_sc C hX hbl hS e74 d_law_441 ?_
        obtain ⟨_, e76, h⟩ := ob h
        obtain ⟨⟨x75, M75⟩, e75, h⟩ := ob h
        refine mr_ci C hW hS (va_runV (As := [.int x73, .int x74]) (rest := [.int x71]) ⟨hx, hb, hml, hown, hts⟩ (c_Mo_room l D dA _ _ _ v2 x73 x74 e75) (cwV 2 hts (mg_V q_382 q_383 q_384 q_385 q_267) rfl rfl rfl (by decide +kernel) ⟨Nat.le_of_ble_eq_true rfl, Nat.le_of_ble_eq_true rfl⟩) (mr_preV C hW (ci := 1) rfl e76) rfl rfl hl.1 rfl (lv_room (Nat.le_of_ble_eq_true rfl)) d_law_442 ⟨by show _ ≤ 600000; omega, by show _ ≤ 7302250; omega⟩) (fun H locs hW hS => ?_)
        refine lv_icmp_eq (tgt := 833) hx hb d_law_445 (by decide) (fun c77 => ?_) (fun c77 => ?_)
        · have h := ifp h c77
          refine lv_iinc (v := v3 + 5) (lv' := [(3, .int (v3 + 5)), (0, .ref b), (1, .ref v1), (2, .ref v2)]) hx hb d_law_833 hl (k := 3) rfl rfl (by decide) rfl (fun ls hl => ?_)
          refine lv_goto (tgt := 18) hx hb d_law_836 (by decide) ?_
          exact ih _ _ _ _ _ _ _ _ _ h hW hS (lv_sub hl [1, 2, 3, 0] rfl) (by omega) (by omega)
        · have h := ifn h c77
          refine lv_iconst (v := 0) hx hb d_law_448 (by decide) ?_
          exact absurd (show (0 : Int32) = 1 from congrArg Prod.fst (Option.some.inj h)) (by decide)
      have h := ifn h c68
      by_cases c78 : (x2 &&& 31) = 8
      · have h := ifp h c78
        refine lv_tableIn (tgt := 450) hx hb d_law_32 (by rw [c78]; decide) (by rw [c78]; decide) (by rw [c78]; rfl) (by decide) ?_
        refine lv_aload_n hx hb d_law_450 rfl (lv_at hl 1 rfl) ?_
        refine lv_aload_n hx hb d_law_451 rfl (lv_at hl 0 rfl) ?_
        refine lv_iload_n hx hb d_law_452 rfl (lv_at hl 3 rfl) ?_
        refine lv_iconst (v := 1) hx hb d_law_453 (by decide) ?_
        refine lv_iadd hx hb d_law_454 ?_
        obtain ⟨x79, e79, h⟩ := ob h
        refine mr_sc C hX hbl hS e79 d_law_455 ?_
        refine lv_aload_n hx hb d_law_456 rfl (lv_at hl 0 rfl) ?_
        refine lv_iload_n hx hb d_law_457 rfl (lv_at hl 3 rfl) ?_
        refine lv_iconst (v := 2) hx hb d_law_458 (by decide) ?_
        refine lv_iadd hx hb d_law_459 ?_
        obtain ⟨x80, e80, h⟩ := ob h
        refine mr_sc C hX hbl hS e80 d_law_460 ?_
        obtain ⟨_, e82, h⟩ := ob h
        obtain ⟨⟨x81, M81⟩, e81, h⟩ := ob h
        refine mr_ci C hW hS (va_runV (As := [.int x79, .int x80]) (rest := []) ⟨hx, hb, hml, hown, hts⟩ (c_X_in l D dA _ _ _ v1 x79 x80 e81) (cwV 2 hts (mg_V q_386 q_387 q_388 q_389 q_71) rfl rfl rfl (by decide +kernel) ⟨Nat.le_of_ble_eq_true rfl, Nat.le_of_ble_eq_true rfl⟩) (mr_preV C hW (ci := 0) rfl e82) rfl rfl hl.1 rfl (lv_room (Nat.le_of_ble_eq_true rfl)) d_law_461 ⟨by show _ ≤ 600000; omega, by show _ ≤ 7302250; omega⟩) (fun H locs hW hS => ?_)
        refine lv_aload_n hx hb d_law_464 rfl (lv_at hl 2 rfl) ?_
        refine lv_aload_n hx hb d_law_465 rfl (lv_at hl 0 rfl) ?_
        refine lv_iload_n hx hb d_law_466 rfl (lv_at hl 3 rfl) ?_
        refine lv_iconst (v := 1) hx hb d_law_467 (by decide) ?_
        refine lv_iadd hx hb d_law_468 ?_
        obtain ⟨x83, e83, h⟩ := ob h
        refine mr_sc C hX hbl hS e83 d_law_469 ?_
        refine lv_aload_n hx hb d_law_470 rfl (lv_at hl 0 rfl) ?_
        refine lv_iload_n hx hb d_law_471 rfl (lv_at hl 3 rfl) ?_
        refine lv_iconst (v := 2) hx hb d_law_472 (by decide) ?_
        refine lv_iadd hx hb d_law_473 ?_
        obtain ⟨x84, e84, h⟩ := ob h
        refine mr_sc C hX hbl hS e84 d_law_474 ?_
        obtain ⟨_, e86, h⟩ := ob h
        obtain ⟨⟨x85, M85⟩, e85, h⟩ := ob h
        refine mr_ci C hW hS (va_runV (As := [.int x83, .int x84]) (rest := [.int x81]) ⟨hx, hb, hml, hown, hts⟩ (c_Mo_in l D dA _ _ _ v2 x83 x84 e85) (cwV 2 hts (mg_V q_390 q_391 q_392 q_393 q_267) rfl rfl rfl (by decide +kernel) ⟨Nat.le_of_ble_eq_true rfl, Nat.le_of_ble_eq_true rfl⟩) (mr_preV C hW (ci := 1) rfl e86) rfl rfl hl.1 rfl (lv_room (Nat.le_of_ble_eq_true rfl)) d_law_475 ⟨by show _ ≤ 600000; omega, by show _ ≤ 7302250; omega⟩) (fun H locs hW hS => ?_)
        refine lv_icmp_eq (tgt := 833) hx hb d_law_478 (by decide) (fun c87 => ?_) (fun c87 => ?_)
        · have h := ifp h c87
          refine lv_iinc (v := v3 + 5) (lv' := [(3, .int (v3 + 5)), (0, .ref b), (1, .ref v1), (2, .ref v2)]) hx hb d_law_833 hl (k := 3) rfl rfl (by decide) rfl (fun ls hl => ?_)
          refine lv_goto (tgt := 18) hx hb d_law_836 (by decide) ?_
          exact ih _ _ _ _ _ _ _ _ _ h hW hS (lv_sub hl [1, 2, 3, 0] rfl) (by omega) (by omega)
        · have h := ifn h c87
          refine lv_iconst (v := 0) hx hb d_law_481 (by decide) ?_
          exact absurd (show (0 : Int32) = 1 from congrArg Prod.fst (Option.some.inj h)) (by decide)
      have h := ifn h c78
      by_cases c88 : (x2 &&& 31) = 9
      · have h := ifp h c88
        refine lv_tableIn (tgt := 483) hx hb d_law_32 (by rw [c88]; decide) (by rw [c88]; decide) (by rw [c88]; rfl) (by decide) ?_
        refine lv_aload_n hx hb d_law_483 rfl (lv_at hl 1 rfl) ?_
        refine lv_aload_n hx hb d_law_484 rfl (lv_at hl 0 rfl) ?_
        refine lv_iload_n hx hb d_law_485 rfl (lv_at hl 3 rfl) ?_
        refine lv_iconst (v := 1) hx hb d_law_486 (by decide) ?_
        refine lv_iadd hx hb d_law_487 ?_
        obtain ⟨x89, e89, h⟩ := ob h
        refine mr_sc C hX hbl hS e89 d_law_488 ?_
        refine lv_aload_n hx hb d_law_489 rfl (lv_at hl 0 rfl) ?_
        refine lv_iload_n hx hb d_law_490 rfl (lv_at hl 3 rfl) ?_
        refine lv_iconst (v := 2) hx hb d_law_491 (by decide) ?_
        refine lv_iadd hx hb d_law_492 ?_
        obtain ⟨x90, e90, h⟩ := ob h
        refine mr_sc C hX hbl hS e90 d_law_493 ?_
        obtain ⟨_, e92, h⟩ := ob h
        obtain ⟨⟨x91, M91⟩, e91, h⟩ := ob h
        refine mr_ci C hW hS (va_runV (As := [.int x89, .int x90]) (rest := []) ⟨hx, hb, hml, hown, hts⟩ (c_X_out l D dA _ _ _ v1 x89 x90 e91) (cwV 2 hts (mg_V q_394 q_395 q_396 q_397 q_71) rfl rfl rfl (by decide +kernel) ⟨Nat.le_of_ble_eq_true rfl, Nat.le_of_ble_eq_true rfl⟩) (mr_preV C hW (ci := 0) rfl e92) rfl rfl hl.1 rfl (lv_room (Nat.le_of_ble_eq_true rfl)) d_law_494 ⟨by show _ ≤ 600000; omega, by show _ ≤ 7302250; omega⟩) (fun H locs hW hS => ?_)
        refine lv_aload_n hx hb d_law_497 rfl (lv_at hl 2 rfl) ?_
        refine lv_aload_n hx hb d_law_498 rfl (lv_at hl 0 rfl) ?_
        refine lv_iload_n hx hb d_law_499 rfl (lv_at hl 3 rfl) ?_
        refine lv_iconst (v := 1) hx hb d_law_500 (by decide) ?_
        refine lv_iadd hx hb d_law_501 ?_
        obtain ⟨x93, e93, h⟩ := ob h
        refine mr_sc C hX hbl hS e93 d_law_502 ?_
        refine lv_aload_n hx hb d_law_503 rfl (lv_at hl 0 rfl) ?_
        refine lv_iload_n hx hb d_law_504 rfl (lv_at hl 3 rfl) ?_
        refine lv_iconst (v := 2) hx hb d_law_505 (by decide) ?_
        refine lv_iadd hx hb d_law_506 ?_
        obtain ⟨x94, e94, h⟩ := ob h
        refine mr_sc C hX hbl hS e94 d_law_507 ?_
        obtain ⟨_, e96, h⟩ := ob h
        obtain ⟨⟨x95, M95⟩, e95, h⟩ := ob h
        refine mr_ci C hW hS (va_runV (As := [.int x93, .int x94]) (rest := [.int x91]) ⟨hx, hb, hml, hown, hts⟩ (c_Mo_out l D dA _ _ _ v2 x93 x94 e95) (cwV 2 hts (mg_V q_398 q_399 q_400 q_401 q_267) rfl rfl rfl (by decide +kernel) ⟨Nat.le_of_ble_eq_true rfl, Nat.le_of_ble_eq_true rfl⟩) (mr_preV C hW (ci := 1) rfl e96) rfl rfl hl.1 rfl (lv_room (Nat.le_of_ble_eq_true rfl)) d_law_508 ⟨by show _ ≤ 600000; omega, by show _ ≤ 7302250; omega⟩) (fun H locs hW hS => ?_)
        refine lv_icmp_eq (tgt := 833) hx hb d_law_511 (by decide) (fun c97 => ?_) (fun c97 => ?_)
        · have h := ifp h c97
          refine lv_iinc (v := v3 + 5) (lv' := [(3, .int (v3 + 5)), (0, .ref b), (1, .ref v1), (2, .ref v2)]) hx hb d_law_833 hl (k := 3) rfl rfl (by decide) rfl (fun ls hl => ?_)
          refine lv_goto (tgt := 18) hx hb d_law_836 (by decide) ?_
          exact ih _ _ _ _ _ _ _ _ _ h hW hS (lv_sub hl [1, 2, 3, 0] rfl) (by omega) (by omega)
        · have h := ifn h c97
          refine lv_iconst (v := 0) hx hb d_law_514 (by decide) ?_
          exact absurd (show (0 : Int32) = 1 from congrArg Prod.fst (Option.some.inj h)) (by decide)
      have h := ifn h c88
      by_cases c98 : (x2 &&& 31) = 10
      · have h := ifp h c98
        refine lv_tableIn (tgt := 516) hx hb d_law_32 (by rw [c98]; decide) (by rw [c98]; decide) (by rw [c98]; rfl) (by decide) ?_
        refine lv_aload_n hx hb d_law_516 rfl (lv_at hl 1 rfl) ?_
        refine lv_aload_n hx hb d_law_517 rfl (lv_at hl 0 rfl) ?_
        refine lv_iload_n hx hb d_law_518 rfl (lv_at hl 3 rfl) ?_
        refine lv_iconst (v := 1) hx hb d_law_519 (by decide) ?_
        refine lv_iadd hx hb d_law_520 ?_
        obtain ⟨x99, e99, h⟩ := ob h
        refine mr_sc C hX hbl hS e99 d_law_521 ?_
        refine lv_aload_n hx hb d_law_522 rfl (lv_at hl 0 rfl) ?_
        refine lv_iload_n hx hb d_law_523 rfl (lv_at hl 3 rfl) ?_
        refine lv_iconst (v := 2) hx hb d_law_524 (by decide) ?_
        refine lv_iadd hx hb d_law_525 ?_
        obtain ⟨x100, e100, h⟩ := ob h
        refine mr_sc C hX hbl hS e100 d_law_526 ?_
        refine lv_aload_n hx hb d_law_527 rfl (lv_at hl 0 rfl) ?_
        refine lv_iload_n hx hb d_law_528 rfl (lv_at hl 3 rfl) ?_
        refine lv_iconst (v := 3) hx hb d_law_529 (by decide) ?_
        refine lv_iadd hx hb d_law_530 ?_
        obtain ⟨x101, e101, h⟩ := ob h
        refine mr_sc C hX hbl hS e101 d_law_531 ?_
        refine lv_aload_n hx hb d_law_532 rfl (lv_at hl 0 rfl) ?_
        refine lv_iload_n hx hb d_law_533 rfl (lv_at hl 3 rfl) ?_
        refine lv_iconst (v := 4) hx hb d_law_534 (by decide) ?_
        refine lv_iadd hx hb d_law_535 ?_
        obtain ⟨x102, e102, h⟩ := ob h
        refine mr_sc C hX hbl hS e102 d_law_536 ?_
        obtain ⟨_, e104, h⟩ := ob h
        obtain ⟨⟨x103, M103⟩, e103, h⟩ := ob h
        refine mr_ci C hW hS (va_runV (As := [.int x99, .int x100, .int x101, .int x102]) (rest := []) ⟨hx, hb, hml, hown, hts⟩ (c_X_access l D dA _ _ _ v1 x99 x100 x101 x102 e103) (cwV 4 hts (mg_V q_402 q_403 q_404 q_405 q_71) rfl rfl rfl (by decide +kernel) ⟨Nat.le_of_ble_eq_true rfl, Nat.le_of_ble_eq_true rfl⟩) (mr_preV C hW (ci := 0) rfl e104) rfl rfl hl.1 rfl (lv_room (Nat.le_of_ble_eq_true rfl)) d_law_537 ⟨by show _ ≤ 600000; omega, by show _ ≤ 7302250; omega⟩) (fun H locs hW hS => ?_)
        refine lv_aload_n hx hb d_law_540 rfl (lv_at hl 2 rfl) ?_
        refine lv_aload_n hx hb d_law_541 rfl (lv_at hl 0 rfl) ?_
        refine lv_iload_n hx hb d_law_542 rfl (lv_at hl 3 rfl) ?_
        refine lv_iconst (v := 1) hx hb d_law_543 (by decide) ?_
        refine lv_iadd hx hb d_law_544 ?_
        obtain ⟨x105, e105, h⟩ := ob h
        refine mr_sc C hX hbl hS e105 d_law_545 ?_
        refine lv_aload_n hx hb d_law_546 rfl (lv_at hl 0 rfl) ?_
        refine lv_iload_n hx hb d_law_547 rfl (lv_at hl 3 rfl) ?_
        refine lv_iconst (v := 2) hx hb d_law_548 (by decide) ?_
        refine lv_iadd hx hb d_law_549 ?_
        obtain ⟨x106, e106, h⟩ := ob h
        refine mr_sc C hX hbl hS e106 d_law_550 ?_
        refine lv_aload_n hx hb d_law_551 rfl (lv_at hl 0 rfl) ?_
        refine lv_iload_n hx hb d_law_552 rfl (lv_at hl 3 rfl) ?_
        refine lv_iconst (v := 3) hx hb d_law_553 (by decide) ?_
        refine lv_iadd hx hb d_law_554 ?_
        obtain ⟨x107, e107, h⟩ := ob h
        refine mr_sc C hX hbl hS e107 d_law_555 ?_
        refine lv_aload_n hx hb d_law_556 rfl (lv_at hl 0 rfl) ?_
        refine lv_iload_n hx hb d_law_557 rfl (lv_at hl 3 rfl) ?_
        refine lv_iconst (v := 4) hx hb d_law_558 (by decide) ?_
        refine lv_iadd hx hb d_law_559 ?_
        obtain ⟨x108, e108, h⟩ := ob h
        refine mr_sc C hX hbl hS e108 d_law_560 ?_
        obtain ⟨_, e110, h⟩ := ob h
        obtain ⟨⟨x109, M109⟩, e109, h⟩ := ob h
        refine mr_ci C hW hS (va_runV (As := [.int x105, .int x106, .int x107, .int x108]) (rest := [.int x103]) ⟨hx, hb, hml, hown, hts⟩ (c_Mo_access l D dA _ _ _ v2 x105 x106 x107 x108 e109) (cwV 4 hts (mg_V q_406 q_407 q_408 q_409 q_267) rfl rfl rfl (by decide +kernel) ⟨Nat.le_of_ble_eq_true rfl, Nat.le_of_ble_eq_true rfl⟩) (mr_preV C hW (ci := 1) rfl e110) rfl rfl hl.1 rfl (lv_room (Nat.le_of_ble_eq_true rfl)) d_law_561 ⟨by show _ ≤ 600000; omega, by show _ ≤ 7302250; omega⟩) (fun H locs hW hS => ?_)
        refine lv_icmp_eq (tgt := 833) hx hb d_law_564 (by decide) (fun c111 => ?_) (fun c111 => ?_)
        · have h := ifp h c111
          refine lv_iinc (v := v3 + 5) (lv' := [(3, .int (v3 + 5)), (0, .ref b), (1, .ref v1), (2, .ref v2)]) hx hb d_law_833 hl (k := 3) rfl rfl (by decide) rfl (fun ls hl => ?_)
          refine lv_goto (tgt := 18) hx hb d_law_836 (by decide) ?_
          exact ih _ _ _ _ _ _ _ _ _ h hW hS (lv_sub hl [1, 2, 3, 0] rfl) (by omega) (by omega)
        · have h := ifn h c111
          refine lv_iconst (v := 0) hx hb d_law_567 (by decide) ?_
          exact absurd (show (0 : Int32) = 1 from congrArg Prod.fst (Option.some.inj h)) (by decide)
      have h := ifn h c98
      by_cases c112 : (x2 &&& 31) = 11
      · have h := ifp h c112
        refine lv_tableIn (tgt := 569) hx hb d_law_32 (by rw [c112]; decide) (by rw [c112]; decide) (by rw [c112]; rfl) (by decide) ?_
        refine lv_aload_n hx hb d_law_569 rfl (lv_at hl 1 rfl) ?_
        obtain ⟨_, e114, h⟩ := ob h
        obtain ⟨⟨x113, M113⟩, e113, h⟩ := ob h
        refine mr_ci C hW hS (va_runV (As := []) (rest := []) ⟨hx, hb, hml, hown, hts⟩ (c_X_failed l D dA _ _ _ v1 e113) (cwV 0 hts (mg_V q_410 q_411 q_412 q_413 q_71) rfl rfl rfl (by decide +kernel) ⟨Nat.le_of_ble_eq_true rfl, Nat.le_of_ble_eq_true rfl⟩) (mr_preV C hW (ci := 0) rfl e114) rfl rfl hl.1 rfl (lv_room (Nat.le_of_ble_eq_true rfl)) d_law_570 ⟨by show _ ≤ 600000; omega, by show _ ≤ 7302250; omega⟩) (fun H locs hW hS => ?_)
        refine lv_aload_n hx hb d_law_573 rfl (lv_at hl 2 rfl) ?_
        obtain ⟨_, e116, h⟩ := ob h
        obtain ⟨⟨x115, M115⟩, e115, h⟩ := ob h
        refine mr_ci C hW hS (va_runV (As := []) (rest := [.int x113]) ⟨hx, hb, hml, hown, hts⟩ (c_Mo_failed l D dA _ _ _ v2 e115) (cwV 0 hts (mg_V q_414 q_415 q_416 q_417 q_267) rfl rfl rfl (by decide +kernel) ⟨Nat.le_of_ble_eq_true rfl, Nat.le_of_ble_eq_true rfl⟩) (mr_preV C hW (ci := 1) rfl e116) rfl rfl hl.1 rfl (lv_room (Nat.le_of_ble_eq_true rfl)) d_law_574 ⟨by show _ ≤ 600000; omega, by show _ ≤ 7302250; omega⟩) (fun H locs hW hS => ?_)
        refine lv_icmp_eq (tgt := 833) hx hb d_law_577 (by decide) (fun c117 => ?_) (fun c117 => ?_)
        · have h := ifp h c117
          refine lv_iinc (v := v3 + 5) (lv' := [(3, .int (v3 + 5)), (0, .ref b), (1, .ref v1), (2, .ref v2)]) hx hb d_law_833 hl (k := 3) rfl rfl (by decide) rfl (fun ls hl => ?_)
          refine lv_goto (tgt := 18) hx hb d_law_836 (by decide) ?_
          exact ih _ _ _ _ _ _ _ _ _ h hW hS (lv_sub hl [1, 2, 3, 0] rfl) (by omega) (by omega)
        · have h := ifn h c117
          refine lv_iconst (v := 0) hx hb d_law_580 (by decide) ?_
          exact absurd (show (0 : Int32) = 1 from congrArg Prod.fst (Option.some.inj h)) (by decide)
      have h := ifn h c112
      by_cases c118 : (x2 &&& 31) = 12
      · have h := ifp h c118
        refine lv_tableIn (tgt := 582) hx hb d_law_32 (by rw [c118]; decide) (by rw [c118]; decide) (by rw [c118]; rfl) (by decide) ?_
        refine lv_aload_n hx hb d_law_582 rfl (lv_at hl 1 rfl) ?_
        refine lv_aload_n hx hb d_law_583 rfl (lv_at hl 0 rfl) ?_
        refine lv_iload_n hx hb d_law_584 rfl (lv_at hl 3 rfl) ?_
        refine lv_iconst (v := 1) hx hb d_law_585 (by decide) ?_
        refine lv_iadd hx hb d_law_586 ?_
        obtain ⟨x119, e119, h⟩ := ob h
        refine mr_sc C hX hbl hS e119 d_law_587 ?_
        refine lv_aload_n hx hb d_law_588 rfl (lv_at hl 0 rfl) ?_
        refine lv_iload_n hx hb d_law_589 rfl (lv_at hl 3 rfl) ?_
        refine lv_iconst (v := 2) hx hb d_law_590 (by decide) ?_
        refine lv_iadd hx hb d_law_591 ?_
        obtain ⟨x120, e120, h⟩ := ob h
        refine mr_sc C hX hbl hS e120 d_law_592 ?_
        refine lv_aload_n hx hb d_law_593 rfl (lv_at hl 0 rfl) ?_
        refine lv_iload_n hx hb d_law_594 rfl (lv_at hl 3 rfl) ?_
        refine lv_iconst (v := 3) hx hb d_law_595 (by decide) ?_
        refine lv_iadd hx hb d_law_596 ?_
        obtain ⟨x121, e121, h⟩ := ob h
        refine mr_sc C hX hbl hS e121 d_law_597 ?_
        obtain ⟨_, e123, h⟩ := ob h
        obtain ⟨⟨x122, M122⟩, e122, h⟩ := ob h
        refine mr_ci C hW hS (va_runV (As := [.int x119, .int x120, .int x121]) (rest := []) ⟨hx, hb, hml, hown, hts⟩ (c_X_provider l D dA _ _ _ v1 x119 x120 x121 e122) (cwV 3 hts (mg_V q_418 q_419 q_420 q_421 q_71) rfl rfl rfl (by decide +kernel) ⟨Nat.le_of_ble_eq_true rfl, Nat.le_of_ble_eq_true rfl⟩) (mr_preV C hW (ci := 0) rfl e123) rfl rfl hl.1 rfl (lv_room (Nat.le_of_ble_eq_true rfl)) d_law_598 ⟨by show _ ≤ 600000; omega, by show _ ≤ 7302250; omega⟩) (fun H locs hW hS => ?_)
        refine lv_aload_n hx hb d_law_601 rfl (lv_at hl 2 rfl) ?_
        refine lv_aload_n hx hb d_law_602 rfl (lv_at hl 0 rfl) ?_
        refine lv_iload_n hx hb d_law_603 rfl (lv_at hl 3 rfl) ?_
        refine lv_iconst (v := 1) hx hb d_law_604 (by decide) ?_
        refine lv_iadd hx hb d_law_605 ?_
        obtain ⟨x124, e124, h⟩ := ob h
        refine mr_sc C hX hbl hS e124 d_law_606 ?_
        refine lv_aload_n hx hb d_law_607 rfl (lv_at hl 0 rfl) ?_
        refine lv_iload_n hx hb d_law_608 rfl (lv_at hl 3 rfl) ?_
        refine lv_iconst (v := 2) hx hb d_law_609 (by decide) ?_
        refine lv_iadd hx hb d_law_610 ?_
        obtain ⟨x125, e125, h⟩ := ob h
        refine mr_sc C hX hbl hS e125 d_law_611 ?_
        refine lv_aload_n hx hb d_law_612 rfl (lv_at hl 0 rfl) ?_
        refine lv_iload_n hx hb d_law_613 rfl (lv_at hl 3 rfl) ?_
        refine lv_iconst (v := 3) hx hb d_law_614 (by decide) ?_
        refine lv_iadd hx hb d_law_615 ?_
        obtain ⟨x126, e126, h⟩ := ob h
        refine mr_sc C hX hbl hS e126 d_law_616 ?_
        obtain ⟨_, e128, h⟩ := ob h
        obtain ⟨⟨x127, M127⟩, e127, h⟩ := ob h
        refine mr_ci C hW hS (va_runV (As := [.int x124, .int x125, .int x126]) (rest := [.int x122]) ⟨hx, hb, hml, hown, hts⟩ (c_Mo_provider l D dA _ _ _ v2 x124 x125 x126 e127) (cwV 3 hts (mg_V q_422 q_423 q_424 q_425 q_267) rfl rfl rfl (by decide +kernel) ⟨Nat.le_of_ble_eq_true rfl, Nat.le_of_ble_eq_true rfl⟩) (mr_preV C hW (ci := 1) rfl e128) rfl rfl hl.1 rfl (lv_room (Nat.le_of_ble_eq_true rfl)) d_law_617 ⟨by show _ ≤ 600000; omega, by show _ ≤ 7302250; omega⟩) (fun H locs hW hS => ?_)
        refine lv_icmp_eq (tgt := 833) hx hb d_law_620 (by decide) (fun c129 => ?_) (fun c129 => ?_)
        · have h := ifp h c129
          refine lv_iinc (v := v3 + 5) (lv' := [(3, .int (v3 + 5)), (0, .ref b), (1, .ref v1), (2, .ref v2)]) hx hb d_law_833 hl (k := 3) rfl rfl (by decide) rfl (fun ls hl => ?_)
          refine lv_goto (tgt := 18) hx hb d_law_836 (by decide) ?_
          exact ih _ _ _ _ _ _ _ _ _ h hW hS (lv_sub hl [1, 2, 3, 0] rfl) (by omega) (by omega)
        · have h := ifn h c129
          refine lv_iconst (v := 0) hx hb d_law_623 (by decide) ?_
          exact absurd (show (0 : Int32) = 1 from congrArg Prod.fst (Option.some.inj h)) (by decide)
      have h := ifn h c118
      by_cases c130 : (x2 &&& 31) = 13
      · have h := ifp h c130
        refine lv_tableIn (tgt := 625) hx hb d_law_32 (by rw [c130]; decide) (by rw [c130]; decide) (by rw [c130]; rfl) (by decide) ?_
        refine lv_aload_n hx hb d_law_625 rfl (lv_at hl 1 rfl) ?_
        refine lv_aload_n hx hb d_law_626 rfl (lv_at hl 0 rfl) ?_
        refine lv_iload_n hx hb d_law_627 rfl (lv_at hl 3 rfl) ?_
        refine lv_iconst (v := 1) hx hb d_law_628 (by decide) ?_
        refine lv_iadd hx hb d_law_629 ?_
        obtain ⟨x131, e131, h⟩ := ob h
        refine mr_sc C hX hbl hS e131 d_law_630 ?_
        refine lv_aload_n hx hb d_law_631 rfl (lv_at hl 0 rfl) ?_
        refine lv_iload_n hx hb d_law_632 rfl (lv_at hl 3 rfl) ?_
        refine lv_iconst (v := 2) hx hb d_law_633 (by decide) ?_
        refine lv_iadd hx hb d_law_634 ?_
        obtain ⟨x132, e132, h⟩ := ob h
        refine mr_sc C hX hbl hS e132 d_law_635 ?_
        obtain ⟨_, e134, h⟩ := ob h
        obtain ⟨⟨x133, M133⟩, e133, h⟩ := ob h
        refine mr_ci C hW hS (va_runV (As := [.int x131, .int x132]) (rest := []) ⟨hx, hb, hml, hown, hts⟩ (c_X_end l D dA _ _ _ v1 x131 x132 e133) (cwV 2 hts (mg_V q_426 q_427 q_428 q_429 q_71) rfl rfl rfl (by decide +kernel) ⟨Nat.le_of_ble_eq_true rfl, Nat.le_of_ble_eq_true rfl⟩) (mr_preV C hW (ci := 0) rfl e134) rfl rfl hl.1 rfl (lv_room (Nat.le_of_ble_eq_true rfl)) d_law_636 ⟨by show _ ≤ 600000; omega, by show _ ≤ 7302250; omega⟩) (fun H locs hW hS => ?_)
        refine lv_aload_n hx hb d_law_639 rfl (lv_at hl 2 rfl) ?_
        refine lv_aload_n hx hb d_law_640 rfl (lv_at hl 0 rfl) ?_
        refine lv_iload_n hx hb d_law_641 rfl (lv_at hl 3 rfl) ?_
        refine lv_iconst (v := 1) hx hb d_law_642 (by decide) ?_
        refine lv_iadd hx hb d_law_643 ?_
        obtain ⟨x135, e135, h⟩ := ob h
        refine mr_sc C hX hbl hS e135 d_law_644 ?_
        refine lv_aload_n hx hb d_law_645 rfl (lv_at hl 0 rfl) ?_
        refine lv_iload_n hx hb d_law_646 rfl (lv_at hl 3 rfl) ?_
        refine lv_iconst (v := 2) hx hb d_law_647 (by decide) ?_
        refine lv_iadd hx hb d_law_648 ?_
        obtain ⟨x136, e136, h⟩ := ob h
        refine mr_sc C hX hbl hS e136 d_law_649 ?_
        obtain ⟨_, e138, h⟩ := ob h
        obtain ⟨⟨x137, M137⟩, e137, h⟩ := ob h
        refine mr_ci C hW hS (va_runV (As := [.int x135, .int x136]) (rest := [.int x133]) ⟨hx, hb, hml, hown, hts⟩ (c_Mo_end l D dA _ _ _ v2 x135 x136 e137) (cwV 2 hts (mg_V q_430 q_431 q_432 q_433 q_267) rfl rfl rfl (by decide +kernel) ⟨Nat.le_of_ble_eq_true rfl, Nat.le_of_ble_eq_true rfl⟩) (mr_preV C hW (ci := 1) rfl e138) rfl rfl hl.1 rfl (lv_room (Nat.le_of_ble_eq_true rfl)) d_law_650 ⟨by show _ ≤ 600000; omega, by show _ ≤ 7302250; omega⟩) (fun H locs hW hS => ?_)
        refine lv_icmp_eq (tgt := 833) hx hb d_law_653 (by decide) (fun c139 => ?_) (fun c139 => ?_)
        · have h := ifp h c139
          refine lv_iinc (v := v3 + 5) (lv' := [(3, .int (v3 + 5)), (0, .ref b), (1, .ref v1), (2, .ref v2)]) hx hb d_law_833 hl (k := 3) rfl rfl (by decide) rfl (fun ls hl => ?_)
          refine lv_goto (tgt := 18) hx hb d_law_836 (by decide) ?_
          exact ih _ _ _ _ _ _ _ _ _ h hW hS (lv_sub hl [1, 2, 3, 0] rfl) (by omega) (by omega)
        · have h := ifn h c139
          refine lv_iconst (v := 0) hx hb d_law_656 (by decide) ?_
          exact absurd (show (0 : Int32) = 1 from congrArg Prod.fst (Option.some.inj h)) (by decide)
      have h := ifn h c130
      by_cases c140 : (x2 &&& 31) = 14
      · have h := ifp h c140
        refine lv_tableIn (tgt := 658) hx hb d_law_32 (by rw [c140]; decide) (by rw [c140]; decide) (by rw [c140]; rfl) (by decide) ?_
        refine lv_aload_n hx hb d_law_658 rfl (lv_at hl 1 rfl) ?_
        refine lv_aload_n hx hb d_law_659 rfl (lv_at hl 0 rfl) ?_
        refine lv_iload_n hx hb d_law_660 rfl (lv_at hl 3 rfl) ?_
        refine lv_iconst (v := 1) hx hb d_law_661 (by decide) ?_
        refine lv_iadd hx hb d_law_662 ?_
        obtain ⟨x141, e141, h⟩ := ob h
        refine mr_sc C hX hbl hS e141 d_law_663 ?_
        refine lv_aload_n hx hb d_law_664 rfl (lv_at hl 0 rfl) ?_
        refine lv_iload_n hx hb d_law_665 rfl (lv_at hl 3 rfl) ?_
        refine lv_iconst (v := 2) hx hb d_law_666 (by decide) ?_
        refine lv_iadd hx hb d_law_667 ?_
        obtain ⟨x142, e142, h⟩ := ob h
        refine mr_sc C hX hbl hS e142 d_law_668 ?_
        obtain ⟨_, e144, h⟩ := ob h
        obtain ⟨⟨x143, M143⟩, e143, h⟩ := ob h
        refine mr_ci C hW hS (va_runV (As := [.int x141, .int x142]) (rest := []) ⟨hx, hb, hml, hown, hts⟩ (c_X_about l D dA _ _ _ v1 x141 x142 e143) (cwV 2 hts (mg_V q_434 q_435 q_436 q_437 q_71) rfl rfl rfl (by decide +kernel) ⟨Nat.le_of_ble_eq_true rfl, Nat.le_of_ble_eq_true rfl⟩) (mr_preV C hW (ci := 0) rfl e144) rfl rfl hl.1 rfl (lv_room (Nat.le_of_ble_eq_true rfl)) d_law_669 ⟨by show _ ≤ 600000; omega, by show _ ≤ 7302250; omega⟩) (fun H locs hW hS => ?_)
        refine lv_aload_n hx hb d_law_672 rfl (lv_at hl 2 rfl) ?_
        refine lv_aload_n hx hb d_law_673 rfl (lv_at hl 0 rfl) ?_
        refine lv_iload_n hx hb d_law_674 rfl (lv_at hl 3 rfl) ?_
        refine lv_iconst (v := 1) hx hb d_law_675 (by decide) ?_
        refine lv_iadd hx hb d_law_676 ?_
        obtain ⟨x145, e145, h⟩ := ob h
        refine mr_sc C hX hbl hS e145 d_law_677 ?_
        refine lv_aload_n hx hb d_law_678 rfl (lv_at hl 0 rfl) ?_
        refine lv_iload_n hx hb d_law_679 rfl (lv_at hl 3 rfl) ?_
        refine lv_iconst (v := 2) hx hb d_law_680 (by decide) ?_
        refine lv_iadd hx hb d_law_681 ?_
        obtain ⟨x146, e146, h⟩ := ob h
        refine mr_sc C hX hbl hS e146 d_law_682 ?_
        obtain ⟨_, e148, h⟩ := ob h
        obtain ⟨⟨x147, M147⟩, e147, h⟩ := ob h
        refine mr_ci C hW hS (va_runV (As := [.int x145, .int x146]) (rest := [.int x143]) ⟨hx, hb, hml, hown, hts⟩ (c_Mo_about l D dA _ _ _ v2 x145 x146 e147) (cwV 2 hts (mg_V q_438 q_439 q_440 q_441 q_267) rfl rfl rfl (by decide +kernel) ⟨Nat.le_of_ble_eq_true rfl, Nat.le_of_ble_eq_true rfl⟩) (mr_preV C hW (ci := 1) rfl e148) rfl rfl hl.1 rfl (lv_room (Nat.le_of_ble_eq_true rfl)) d_law_683 ⟨by show _ ≤ 600000; omega, by show _ ≤ 7302250; omega⟩) (fun H locs hW hS => ?_)
        refine lv_icmp_eq (tgt := 833) hx hb d_law_686 (by decide) (fun c149 => ?_) (fun c149 => ?_)
        · have h := ifp h c149
          refine lv_iinc (v := v3 + 5) (lv' := [(3, .int (v3 + 5)), (0, .ref b), (1, .ref v1), (2, .ref v2)]) hx hb d_law_833 hl (k := 3) rfl rfl (by decide) rfl (fun ls hl => ?_)
          refine lv_goto (tgt := 18) hx hb d_law_836 (by decide) ?_
          exact ih _ _ _ _ _ _ _ _ _ h hW hS (lv_sub hl [1, 2, 3, 0] rfl) (by omega) (by omega)
        · have h := ifn h c149
          refine lv_iconst (v := 0) hx hb d_law_689 (by decide) ?_
          exact absurd (show (0 : Int32) = 1 from congrArg Prod.fst (Option.some.inj h)) (by decide)
      have h := ifn h c140
      by_cases c150 : (x2 &&& 31) = 15
      · have h := ifp h c150
        refine lv_tableIn (tgt := 691) hx hb d_law_32 (by rw [c150]; decide) (by rw [c150]; decide) (by rw [c150]; rfl) (by decide) ?_
        refine lv_aload_n hx hb d_law_691 rfl (lv_at hl 1 rfl) ?_
        refine lv_aload_n hx hb d_law_692 rfl (lv_at hl 0 rfl) ?_
        refine lv_iload_n hx hb d_law_693 rfl (lv_at hl 3 rfl) ?_
        refine lv_iconst (v := 1) hx hb d_law_694 (by decide) ?_
        refine lv_iadd hx hb d_law_695 ?_
        obtain ⟨x151, e151, h⟩ := ob h
        refine mr_sc C hX hbl hS e151 d_law_696 ?_
        refine lv_aload_n hx hb d_law_697 rfl (lv_at hl 0 rfl) ?_
        refine lv_iload_n hx hb d_law_698 rfl (lv_at hl 3 rfl) ?_
        refine lv_iconst (v := 2) hx hb d_law_699 (by decide) ?_
        refine lv_iadd hx hb d_law_700 ?_
        obtain ⟨x152, e152, h⟩ := ob h
        refine mr_sc C hX hbl hS e152 d_law_701 ?_
        refine lv_aload_n hx hb d_law_702 rfl (lv_at hl 0 rfl) ?_
        refine lv_iload_n hx hb d_law_703 rfl (lv_at hl 3 rfl) ?_
        refine lv_iconst (v := 3) hx hb d_law_704 (by decide) ?_
        refine lv_iadd hx hb d_law_705 ?_
        obtain ⟨x153, e153, h⟩ := ob h
        refine mr_sc C hX hbl hS e153 d_law_706 ?_
        obtain ⟨_, e155, h⟩ := ob h
        obtain ⟨⟨x154, M154⟩, e154, h⟩ := ob h
        refine mr_ci C hW hS (va_runV (As := [.int x151, .int x152, .int x153]) (rest := []) ⟨hx, hb, hml, hown, hts⟩ (c_X_gap l D dA _ _ _ v1 x151 x152 x153 e154) (cwV 3 hts (mg_V q_442 q_443 q_444 q_445 q_71) rfl rfl rfl (by decide +kernel) ⟨Nat.le_of_ble_eq_true rfl, Nat.le_of_ble_eq_true rfl⟩) (mr_preV C hW (ci := 0) rfl e155) rfl rfl hl.1 rfl (lv_room (Nat.le_of_ble_eq_true rfl)) d_law_707 ⟨by show _ ≤ 600000; omega, by show _ ≤ 7302250; omega⟩) (fun H locs hW hS => ?_)
        refine lv_aload_n hx hb d_law_710 rfl (lv_at hl 2 rfl) ?_
        refine lv_aload_n hx hb d_law_711 rfl (lv_at hl 0 rfl) ?_
        refine lv_iload_n hx hb d_law_712 rfl (lv_at hl 3 rfl) ?_
        refine lv_iconst (v := 1) hx hb d_law_713 (by decide) ?_
        refine lv_iadd hx hb d_law_714 ?_
        obtain ⟨x156, e156, h⟩ := ob h
        refine mr_sc C hX hbl hS e156 d_law_715 ?_
        refine lv_aload_n hx hb d_law_716 rfl (lv_at hl 0 rfl) ?_
        refine lv_iload_n hx hb d_law_717 rfl (lv_at hl 3 rfl) ?_
        refine lv_iconst (v := 2) hx hb d_law_718 (by decide) ?_
        refine lv_iadd hx hb d_law_719 ?_
        obtain ⟨x157, e157, h⟩ := ob h
        refine mr_sc C hX hbl hS e157 d_law_720 ?_
        refine lv_aload_n hx hb d_law_721 rfl (lv_at hl 0 rfl) ?_
        refine lv_iload_n hx hb d_law_722 rfl (lv_at hl 3 rfl) ?_
        refine lv_iconst (v := 3) hx hb d_law_723 (by decide) ?_
        refine lv_iadd hx hb d_law_724 ?_
        obtain ⟨x158, e158, h⟩ := ob h
        refine mr_sc C hX hbl hS e158 d_law_725 ?_
        obtain ⟨_, e160, h⟩ := ob h
        obtain ⟨⟨x159, M159⟩, e159, h⟩ := ob h
        refine mr_ci C hW hS (va_runV (As := [.int x156, .int x157, .int x158]) (rest := [.int x154]) ⟨hx, hb, hml, hown, hts⟩ (c_Mo_gap l D dA _ _ _ v2 x156 x157 x158 e159) (cwV 3 hts (mg_V q_446 q_447 q_448 q_449 q_267) rfl rfl rfl (by decide +kernel) ⟨Nat.le_of_ble_eq_true rfl, Nat.le_of_ble_eq_true rfl⟩) (mr_preV C hW (ci := 1) rfl e160) rfl rfl hl.1 rfl (lv_room (Nat.le_of_ble_eq_true rfl)) d_law_726 ⟨by show _ ≤ 600000; omega, by show _ ≤ 7302250; omega⟩) (fun H locs hW hS => ?_)
        refine lv_icmp_eq (tgt := 833) hx hb d_law_729 (by decide) (fun c161 => ?_) (fun c161 => ?_)
        · have h := ifp h c161
          refine lv_iinc (v := v3 + 5) (lv' := [(3, .int (v3 + 5)), (0, .ref b), (1, .ref v1), (2, .ref v2)]) hx hb d_law_833 hl (k := 3) rfl rfl (by decide) rfl (fun ls hl => ?_)
          refine lv_goto (tgt := 18) hx hb d_law_836 (by decide) ?_
          exact ih _ _ _ _ _ _ _ _ _ h hW hS (lv_sub hl [1, 2, 3, 0] rfl) (by omega) (by omega)
        · have h := ifn h c161
          refine lv_iconst (v := 0) hx hb d_law_732 (by decide) ?_
          exact absurd (show (0 : Int32) = 1 from congrArg Prod.fst (Option.some.inj h)) (by decide)
      have h := ifn h c150
      by_cases c162 : (x2 &&& 31) = 16
      · have h := ifp h c162
        refine lv_tableIn (tgt := 734) hx hb d_law_32 (by rw [c162]; decide) (by rw [c162]; decide) (by rw [c162]; rfl) (by decide) ?_
        refine lv_aload_n hx hb d_law_734 rfl (lv_at hl 1 rfl) ?_
        refine lv_aload_n hx hb d_law_735 rfl (lv_at hl 0 rfl) ?_
        refine lv_iload_n hx hb d_law_736 rfl (lv_at hl 3 rfl) ?_
        refine lv_iconst (v := 1) hx hb d_law_737 (by decide) ?_
        refine lv_iadd hx hb d_law_738 ?_
        obtain ⟨x163, e163, h⟩ := ob h
        refine mr_sc C hX hbl hS e163 d_law_739 ?_
        refine lv_aload_n hx hb d_law_740 rfl (lv_at hl 0 rfl) ?_
        refine lv_iload_n hx hb d_law_741 rfl (lv_at hl 3 rfl) ?_
        refine lv_iconst (v := 2) hx hb d_law_742 (by decide) ?_
        refine lv_iadd hx hb d_law_743 ?_
        obtain ⟨x164, e164, h⟩ := ob h
        refine mr_sc C hX hbl hS e164 d_law_744 ?_
        obtain ⟨_, e166, h⟩ := ob h
        obtain ⟨⟨x165, M165⟩, e165, h⟩ := ob h
        refine mr_ci C hW hS (va_runV (As := [.int x163, .int x164]) (rest := []) ⟨hx, hb, hml, hown, hts⟩ (c_X_usage l D dA _ _ _ v1 x163 x164 e165) (cwV 2 hts (mg_V q_450 q_451 q_452 q_453 q_71) rfl rfl rfl (by decide +kernel) ⟨Nat.le_of_ble_eq_true rfl, Nat.le_of_ble_eq_true rfl⟩) (mr_preV C hW (ci := 0) rfl e166) rfl rfl hl.1 rfl (lv_room (Nat.le_of_ble_eq_true rfl)) d_law_745 ⟨by show _ ≤ 600000; omega, by show _ ≤ 7302250; omega⟩) (fun H locs hW hS => ?_)
        refine lv_aload_n hx hb d_law_748 rfl (lv_at hl 2 rfl) ?_
        refine lv_aload_n hx hb d_law_749 rfl (lv_at hl 0 rfl) ?_
        refine lv_iload_n hx hb d_law_750 rfl (lv_at hl 3 rfl) ?_
        refine lv_iconst (v := 1) hx hb d_law_751 (by decide) ?_
        refine lv_iadd hx hb d_law_752 ?_
        obtain ⟨x167, e167, h⟩ := ob h
        refine mr_sc C hX hbl hS e167 d_law_753 ?_
        refine lv_aload_n hx hb d_law_754 rfl (lv_at hl 0 rfl) ?_
        refine lv_iload_n hx hb d_law_755 rfl (lv_at hl 3 rfl) ?_
        refine lv_iconst (v := 2) hx hb d_law_756 (by decide) ?_
        refine lv_iadd hx hb d_law_757 ?_
        obtain ⟨x168, e168, h⟩ := ob h
        refine mr_sc C hX hbl hS e168 d_law_758 ?_
        obtain ⟨_, e170, h⟩ := ob h
        obtain ⟨⟨x169, M169⟩, e169, h⟩ := ob h
        refine mr_ci C hW hS (va_runV (As := [.int x167, .int x168]) (rest := [.int x165]) ⟨hx, hb, hml, hown, hts⟩ (c_Mo_usage l D dA _ _ _ v2 x167 x168 e169) (cwV 2 hts (mg_V q_454 q_455 q_456 q_457 q_267) rfl rfl rfl (by decide +kernel) ⟨Nat.le_of_ble_eq_true rfl, Nat.le_of_ble_eq_true rfl⟩) (mr_preV C hW (ci := 1) rfl e170) rfl rfl hl.1 rfl (lv_room (Nat.le_of_ble_eq_true rfl)) d_law_759 ⟨by show _ ≤ 600000; omega, by show _ ≤ 7302250; omega⟩) (fun H locs hW hS => ?_)
        refine lv_icmp_eq (tgt := 833) hx hb d_law_762 (by decide) (fun c171 => ?_) (fun c171 => ?_)
        · have h := ifp h c171
          refine lv_iinc (v := v3 + 5) (lv' := [(3, .int (v3 + 5)), (0, .ref b), (1, .ref v1), (2, .ref v2)]) hx hb d_law_833 hl (k := 3) rfl rfl (by decide) rfl (fun ls hl => ?_)
          refine lv_goto (tgt := 18) hx hb d_law_836 (by decide) ?_
          exact ih _ _ _ _ _ _ _ _ _ h hW hS (lv_sub hl [1, 2, 3, 0] rfl) (by omega) (by omega)
        · have h := ifn h c171
          refine lv_iconst (v := 0) hx hb d_law_765 (by decide) ?_
          exact absurd (show (0 : Int32) = 1 from congrArg Prod.fst (Option.some.inj h)) (by decide)
      have h := ifn h c162
      by_cases c172 : (x2 &&& 31) = 17
      · have h := ifp h c172
        refine lv_tableIn (tgt := 767) hx hb d_law_32 (by rw [c172]; decide) (by rw [c172]; decide) (by rw [c172]; rfl) (by decide) ?_
        refine lv_aload_n hx hb d_law_767 rfl (lv_at hl 1 rfl) ?_
        refine lv_aload_n hx hb d_law_768 rfl (lv_at hl 0 rfl) ?_
        refine lv_iload_n hx hb d_law_769 rfl (lv_at hl 3 rfl) ?_
        refine lv_iconst (v := 1) hx hb d_law_770 (by decide) ?_
        refine lv_iadd hx hb d_law_771 ?_
        obtain ⟨x173, e173, h⟩ := ob h
        refine mr_sc C hX hbl hS e173 d_law_772 ?_
        refine lv_aload_n hx hb d_law_773 rfl (lv_at hl 0 rfl) ?_
        refine lv_iload_n hx hb d_law_774 rfl (lv_at hl 3 rfl) ?_
        refine lv_iconst (v := 2) hx hb d_law_775 (by decide) ?_
        refine lv_iadd hx hb d_law_776 ?_
        obtain ⟨x174, e174, h⟩ := ob h
        refine mr_sc C hX hbl hS e174 d_law_777 ?_
        obtain ⟨_, e176, h⟩ := ob h
        obtain ⟨⟨x175, M175⟩, e175, h⟩ := ob h
        refine mr_ci C hW hS (va_runV (As := [.int x173, .int x174]) (rest := []) ⟨hx, hb, hml, hown, hts⟩ (c_X_told l D dA _ _ _ v1 x173 x174 e175) (cwV 2 hts (mg_V q_458 q_459 q_460 q_461 q_71) rfl rfl rfl (by decide +kernel) ⟨Nat.le_of_ble_eq_true rfl, Nat.le_of_ble_eq_true rfl⟩) (mr_preV C hW (ci := 0) rfl e176) rfl rfl hl.1 rfl (lv_room (Nat.le_of_ble_eq_true rfl)) d_law_778 ⟨by show _ ≤ 600000; omega, by show _ ≤ 7302250; omega⟩) (fun H locs hW hS => ?_)
        refine lv_aload_n hx hb d_law_781 rfl (lv_at hl 2 rfl) ?_
        refine lv_aload_n hx hb d_law_782 rfl (lv_at hl 0 rfl) ?_
        refine lv_iload_n hx hb d_law_783 rfl (lv_at hl 3 rfl) ?_
        refine lv_iconst (v := 1) hx hb d_law_784 (by decide) ?_
        refine lv_iadd hx hb d_law_785 ?_
        obtain ⟨x177, e177, h⟩ := ob h
        refine mr_sc C hX hbl hS e177 d_law_786 ?_
        refine lv_aload_n hx hb d_law_787 rfl (lv_at hl 0 rfl) ?_
        refine lv_iload_n hx hb d_law_788 rfl (lv_at hl 3 rfl) ?_
        refine lv_iconst (v := 2) hx hb d_law_789 (by decide) ?_
        refine lv_iadd hx hb d_law_790 ?_
        obtain ⟨x178, e178, h⟩ := ob h
        refine mr_sc C hX hbl hS e178 d_law_791 ?_
        obtain ⟨_, e180, h⟩ := ob h
        obtain ⟨⟨x179, M179⟩, e179, h⟩ := ob h
        refine mr_ci C hW hS (va_runV (As := [.int x177, .int x178]) (rest := [.int x175]) ⟨hx, hb, hml, hown, hts⟩ (c_Mo_told l D dA _ _ _ v2 x177 x178 e179) (cwV 2 hts (mg_V q_462 q_463 q_464 q_465 q_267) rfl rfl rfl (by decide +kernel) ⟨Nat.le_of_ble_eq_true rfl, Nat.le_of_ble_eq_true rfl⟩) (mr_preV C hW (ci := 1) rfl e180) rfl rfl hl.1 rfl (lv_room (Nat.le_of_ble_eq_true rfl)) d_law_792 ⟨by show _ ≤ 600000; omega, by show _ ≤ 7302250; omega⟩) (fun H locs hW hS => ?_)
        refine lv_icmp_eq (tgt := 833) hx hb d_law_795 (by decide) (fun c181 => ?_) (fun c181 => ?_)
        · have h := ifp h c181
          refine lv_iinc (v := v3 + 5) (lv' := [(3, .int (v3 + 5)), (0, .ref b), (1, .ref v1), (2, .ref v2)]) hx hb d_law_833 hl (k := 3) rfl rfl (by decide) rfl (fun ls hl => ?_)
          refine lv_goto (tgt := 18) hx hb d_law_836 (by decide) ?_
          exact ih _ _ _ _ _ _ _ _ _ h hW hS (lv_sub hl [1, 2, 3, 0] rfl) (by omega) (by omega)
        · have h := ifn h c181
          refine lv_iconst (v := 0) hx hb d_law_798 (by decide) ?_
          exact absurd (show (0 : Int32) = 1 from congrArg Prod.fst (Option.some.inj h)) (by decide)
      have h := ifn h c172
      by_cases c182 : (x2 &&& 31) = 18
      · have h := ifp h c182
        refine lv_tableIn (tgt := 800) hx hb d_law_32 (by rw [c182]; decide) (by rw [c182]; decide) (by rw [c182]; rfl) (by decide) ?_
        refine lv_aload_n hx hb d_law_800 rfl (lv_at hl 1 rfl) ?_
        refine lv_aload_n hx hb d_law_801 rfl (lv_at hl 0 rfl) ?_
        refine lv_iload_n hx hb d_law_802 rfl (lv_at hl 3 rfl) ?_
        refine lv_iconst (v := 1) hx hb d_law_803 (by decide) ?_
        refine lv_iadd hx hb d_law_804 ?_
        obtain ⟨x183, e183, h⟩ := ob h
        refine mr_sc C hX hbl hS e183 d_law_805 ?_
        refine lv_aload_n hx hb d_law_806 rfl (lv_at hl 0 rfl) ?_
        refine lv_iload_n hx hb d_law_807 rfl (lv_at hl 3 rfl) ?_
        refine lv_iconst (v := 2) hx hb d_law_808 (by decide) ?_
        refine lv_iadd hx hb d_law_809 ?_
        obtain ⟨x184, e184, h⟩ := ob h
        refine mr_sc C hX hbl hS e184 d_law_810 ?_
        obtain ⟨_, e186, h⟩ := ob h
        obtain ⟨⟨x185, M185⟩, e185, h⟩ := ob h
        refine mr_ci C hW hS (va_runV (As := [.int x183, .int x184]) (rest := []) ⟨hx, hb, hml, hown, hts⟩ (c_X_who l D dA _ _ _ v1 x183 x184 e185) (cwV 2 hts (mg_V q_466 q_467 q_468 q_469 q_71) rfl rfl rfl (by decide +kernel) ⟨Nat.le_of_ble_eq_true rfl, Nat.le_of_ble_eq_true rfl⟩) (mr_preV C hW (ci := 0) rfl e186) rfl rfl hl.1 rfl (lv_room (Nat.le_of_ble_eq_true rfl)) d_law_811 ⟨by show _ ≤ 600000; omega, by show _ ≤ 7302250; omega⟩) (fun H locs hW hS => ?_)
        refine lv_aload_n hx hb d_law_814 rfl (lv_at hl 2 rfl) ?_
        refine lv_aload_n hx hb d_law_815 rfl (lv_at hl 0 rfl) ?_
        refine lv_iload_n hx hb d_law_816 rfl (lv_at hl 3 rfl) ?_
        refine lv_iconst (v := 1) hx hb d_law_817 (by decide) ?_
        refine lv_iadd hx hb d_law_818 ?_
        obtain ⟨x187, e187, h⟩ := ob h
        refine mr_sc C hX hbl hS e187 d_law_819 ?_
        refine lv_aload_n hx hb d_law_820 rfl (lv_at hl 0 rfl) ?_
        refine lv_iload_n hx hb d_law_821 rfl (lv_at hl 3 rfl) ?_
        refine lv_iconst (v := 2) hx hb d_law_822 (by decide) ?_
        refine lv_iadd hx hb d_law_823 ?_
        obtain ⟨x188, e188, h⟩ := ob h
        refine mr_sc C hX hbl hS e188 d_law_824 ?_
        obtain ⟨_, e190, h⟩ := ob h
        obtain ⟨⟨x189, M189⟩, e189, h⟩ := ob h
        refine mr_ci C hW hS (va_runV (As := [.int x187, .int x188]) (rest := [.int x185]) ⟨hx, hb, hml, hown, hts⟩ (c_Mo_who l D dA _ _ _ v2 x187 x188 e189) (cwV 2 hts (mg_V q_470 q_471 q_472 q_473 q_267) rfl rfl rfl (by decide +kernel) ⟨Nat.le_of_ble_eq_true rfl, Nat.le_of_ble_eq_true rfl⟩) (mr_preV C hW (ci := 1) rfl e190) rfl rfl hl.1 rfl (lv_room (Nat.le_of_ble_eq_true rfl)) d_law_825 ⟨by show _ ≤ 600000; omega, by show _ ≤ 7302250; omega⟩) (fun H locs hW hS => ?_)
        refine lv_icmp_eq (tgt := 833) hx hb d_law_828 (by decide) (fun c191 => ?_) (fun c191 => ?_)
        · have h := ifp h c191
          refine lv_iinc (v := v3 + 5) (lv' := [(3, .int (v3 + 5)), (0, .ref b), (1, .ref v1), (2, .ref v2)]) hx hb d_law_833 hl (k := 3) rfl rfl (by decide) rfl (fun ls hl => ?_)
          refine lv_goto (tgt := 18) hx hb d_law_836 (by decide) ?_
          exact ih _ _ _ _ _ _ _ _ _ h hW hS (lv_sub hl [1, 2, 3, 0] rfl) (by omega) (by omega)
        · have h := ifn h c191
          refine lv_iconst (v := 0) hx hb d_law_831 (by decide) ?_
          exact absurd (show (0 : Int32) = 1 from congrArg Prod.fst (Option.some.inj h)) (by decide)
      have h := ifn h c182
      refine lv_tableOut (tgt := 833) hx hb d_law_32 (by
        have t3 := lv_neT c3 (show (0 : Int32).toInt = 0 by decide)
        have t6 := lv_neT c6 (show (1 : Int32).toInt = 1 by decide)
        have t16 := lv_neT c16 (show (2 : Int32).toInt = 2 by decide)
        have t28 := lv_neT c28 (show (3 : Int32).toInt = 3 by decide)
        have t40 := lv_neT c40 (show (4 : Int32).toInt = 4 by decide)
        have t54 := lv_neT c54 (show (5 : Int32).toInt = 5 by decide)
        have t58 := lv_neT c58 (show (6 : Int32).toInt = 6 by decide)
        have t68 := lv_neT c68 (show (7 : Int32).toInt = 7 by decide)
        have t78 := lv_neT c78 (show (8 : Int32).toInt = 8 by decide)
        have t88 := lv_neT c88 (show (9 : Int32).toInt = 9 by decide)
        have t98 := lv_neT c98 (show (10 : Int32).toInt = 10 by decide)
        have t112 := lv_neT c112 (show (11 : Int32).toInt = 11 by decide)
        have t118 := lv_neT c118 (show (12 : Int32).toInt = 12 by decide)
        have t130 := lv_neT c130 (show (13 : Int32).toInt = 13 by decide)
        have t140 := lv_neT c140 (show (14 : Int32).toInt = 14 by decide)
        have t150 := lv_neT c150 (show (15 : Int32).toInt = 15 by decide)
        have t162 := lv_neT c162 (show (16 : Int32).toInt = 16 by decide)
        have t172 := lv_neT c172 (show (17 : Int32).toInt = 17 by decide)
        have t182 := lv_neT c182 (show (18 : Int32).toInt = 18 by decide)
        omega) (by decide) ?_
      refine lv_iinc (v := v3 + 5) (lv' := [(3, .int (v3 + 5)), (0, .ref b), (1, .ref v1), (2, .ref v2)]) hx hb d_law_833 hl (k := 3) rfl rfl (by decide) rfl (fun ls hl => ?_)
      refine lv_goto (tgt := 18) hx hb d_law_836 (by decide) ?_
      exact ih _ _ _ _ _ _ _ _ _ h hW hS (lv_sub hl [1, 2, 3, 0] rfl) (by omega) (by omega)
set_option maxHeartbeats 4000000 in
set_option maxRecDepth 100000 in
theorem w_law {p : Program} {l : Launch} {e : Env} {s : State} {m : MethodId} {below : List Frame} {meth : Method} {c : Code} {D : va_G} {dA : Nat → ClassId} {M' : mm} {b L : Nat} {xs : Nat → Int32} (hX : va_X b L xs s s.heap) (hbl : b < s.heap.size) (C : mm_C p s m #[Value.ref b] meth c code 4 ret R_law D dA (fun q : Nat => s.heap.size ≤ q)) (hM : f_law L xs (s.heap.size, fun _ => none) = some (1, M')) : W p l e room_1 s m #[Value.ref b] below meth c s.heap [] 0 0 (lw_Z below #[Value.ref b] s) (entryFrame m ([Value.ref b] : List Value).toArray 4) := by
  obtain ⟨hx, hb, hr, hml, hown, hts, hlocks, hK, hA⟩ := id C
  have h := hM
  have hW : mm_W D dA (fun q : Nat => s.heap.size ≤ q) (s.heap.size, fun _ => none) s.heap := ⟨rfl, fun a e ha => by cases ha⟩
  have hS : va_S (fun q : Nat => s.heap.size ≤ q) s.heap s.heap [] := va_S.rf
  have hl := lv_entry ([.ref b]) (n := 4) (Nat.le_of_ble_eq_true rfl)
  rw [lg_entry_eq]
  generalize (lg_sl ([.ref b]) ++ List.replicate (4 - (lg_sl ([.ref b])).length) Slot.unset).toArray = ls at hl ⊢
  have hl : lv_has ls 4 [(0, .ref b)] := hl
  unfold f_law at h
  obtain ⟨⟨x207, M207⟩, e207, h⟩ := ob h
  refine mr_nO C hW hS (ci := 0) rfl i_X t_X_ok ⟨q_490, q_491, q_71⟩ z_X (Nat.le_of_ble_eq_true rfl) (Nat.le_of_ble_eq_true rfl) e207 d_law_0 (fun H hW hS => ?_)
  refine lv_dup hx hb d_law_3 rfl ?_
  obtain ⟨⟨u208, M208⟩, e208, h⟩ := ob h
  refine mr_cv C hW hS (va_runI (As := []) (rest := [.ref x207]) ⟨hx, hb, hml, hown, hts⟩ (c_X_init l D dA _ _ _ x207 e208) (cwI 0 hts (mg_in q_492) rfl rfl rfl (hts _ q_71) (hts _ q_493) (hts _ q_494) rfl (by decide +kernel) ⟨Nat.le_of_ble_eq_true rfl, Nat.le_of_ble_eq_true rfl⟩) (mr_pre C hW) rfl rfl hl.1 rfl (lv_room (Nat.le_of_ble_eq_true rfl)) d_law_4 ⟨by show _ ≤ 600000; omega, by show _ ≤ 7302250; omega⟩) (fun H locs hW hS => ?_)
  refine lv_astore_n (lv' := [(1, .ref x207), (0, .ref b)]) hx hb d_law_7 rfl hl (by decide) rfl (fun ls hl => ?_)
  obtain ⟨⟨x209, M209⟩, e209, h⟩ := ob h
  refine mr_nO C hW hS (ci := 1) rfl i_Mo t_Mo_ok ⟨q_495, q_496, q_267⟩ z_Mo (Nat.le_of_ble_eq_true rfl) (Nat.le_of_ble_eq_true rfl) e209 d_law_8 (fun H hW hS => ?_)
  refine lv_dup hx hb d_law_11 rfl ?_
  obtain ⟨⟨u210, M210⟩, e210, h⟩ := ob h
  refine mr_cv C hW hS (va_runI (As := []) (rest := [.ref x209]) ⟨hx, hb, hml, hown, hts⟩ (c_Mo_init l D dA _ _ _ x209 e210) (cwI 0 hts (mg_in q_497) rfl rfl rfl (hts _ q_267) (hts _ q_498) (hts _ q_499) rfl (by decide +kernel) ⟨Nat.le_of_ble_eq_true rfl, Nat.le_of_ble_eq_true rfl⟩) (mr_pre C hW) rfl rfl hl.1 rfl (lv_room (Nat.le_of_ble_eq_true rfl)) d_law_12 ⟨by show _ ≤ 600000; omega, by show _ ≤ 7302250; omega⟩) (fun H locs hW hS => ?_)
  refine lv_astore_n (lv' := [(2, .ref x209), (1, .ref x207), (0, .ref b)]) hx hb d_law_15 rfl hl (by decide) rfl (fun ls hl => ?_)
  refine lv_iconst (v := 0) hx hb d_law_16 (by decide) ?_
  refine lv_istore_n (lv' := [(3, .int 0), (2, .ref x209), (1, .ref x207), (0, .ref b)]) hx hb d_law_17 rfl hl (by decide) rfl (fun ls hl => ?_)
  exact w_law_b18 hX hbl C FU _ _ _ _ _ _ _ _ _ h hW hS (lv_sub hl [3, 2, 1, 0] rfl) (by decide) (by decide)
