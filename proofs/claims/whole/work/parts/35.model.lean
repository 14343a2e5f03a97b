theorem d_Mo_usage_0 : decode b_Mo_usage 0 = .ok (.aload_n 0, 1) := by decide +kernel
theorem d_Mo_usage_1 : decode b_Mo_usage 1 = .ok (.iconst 0, 1) := by decide +kernel
theorem d_Mo_usage_2 : decode b_Mo_usage 2 = .ok (.putfield 90, 3) := by decide +kernel
theorem d_Mo_usage_5 : decode b_Mo_usage 5 = .ok (.aload_n 0, 1) := by decide +kernel
theorem d_Mo_usage_6 : decode b_Mo_usage 6 = .ok (.iload_n 1, 1) := by decide +kernel
theorem d_Mo_usage_7 : decode b_Mo_usage 7 = .ok (.invokevirtual 115, 3) := by decide +kernel
theorem d_Mo_usage_10 : decode b_Mo_usage 10 = .ok (.ifCond .ne 5, 3) := by decide +kernel
theorem d_Mo_usage_13 : decode b_Mo_usage 13 = .ok (.iconst (-1), 1) := by decide +kernel
theorem d_Mo_usage_14 : decode b_Mo_usage 14 = .ok (.ireturn, 1) := by decide +kernel
theorem d_Mo_usage_15 : decode b_Mo_usage 15 = .ok (.iload_n 2, 1) := by decide +kernel
theorem d_Mo_usage_16 : decode b_Mo_usage 16 = .ok (.iconst 0, 1) := by decide +kernel
theorem d_Mo_usage_17 : decode b_Mo_usage 17 = .ok (.sipush 6666, 3) := by decide +kernel
theorem d_Mo_usage_20 : decode b_Mo_usage 20 = .ok (.invokestatic 94, 3) := by decide +kernel
theorem d_Mo_usage_23 : decode b_Mo_usage 23 = .ok (.ifCond .ne 6, 3) := by decide +kernel
theorem d_Mo_usage_26 : decode b_Mo_usage 26 = .ok (.bipush (-2), 2) := by decide +kernel
theorem d_Mo_usage_28 : decode b_Mo_usage 28 = .ok (.ireturn, 1) := by decide +kernel
theorem d_Mo_usage_29 : decode b_Mo_usage 29 = .ok (.iconst 0, 1) := by decide +kernel
theorem d_Mo_usage_30 : decode b_Mo_usage 30 = .ok (.istore_n 3, 1) := by decide +kernel
theorem d_Mo_usage_31 : decode b_Mo_usage 31 = .ok (.iconst 0, 1) := by decide +kernel
theorem d_Mo_usage_32 : decode b_Mo_usage 32 = .ok (.istore 4, 2) := by decide +kernel
theorem d_Mo_usage_34 : decode b_Mo_usage 34 = .ok (.iload 4, 2) := by decide +kernel
theorem d_Mo_usage_36 : decode b_Mo_usage 36 = .ok (.aload_n 0, 1) := by decide +kernel
theorem d_Mo_usage_37 : decode b_Mo_usage 37 = .ok (.getfield 142, 3) := by decide +kernel
theorem d_Mo_usage_40 : decode b_Mo_usage 40 = .ok (.if_icmp .ge 39, 3) := by decide +kernel
theorem d_Mo_usage_43 : decode b_Mo_usage 43 = .ok (.iload_n 3, 1) := by decide +kernel
theorem d_Mo_usage_44 : decode b_Mo_usage 44 = .ok (.aload_n 0, 1) := by decide +kernel
theorem d_Mo_usage_45 : decode b_Mo_usage 45 = .ok (.getfield 78, 3) := by decide +kernel
theorem d_Mo_usage_48 : decode b_Mo_usage 48 = .ok (.iload 4, 2) := by decide +kernel
theorem d_Mo_usage_50 : decode b_Mo_usage 50 = .ok (.iaload, 1) := by decide +kernel
theorem d_Mo_usage_51 : decode b_Mo_usage 51 = .ok (.iload_n 1, 1) := by decide +kernel
theorem d_Mo_usage_52 : decode b_Mo_usage 52 = .ok (.if_icmp .ne 18, 3) := by decide +kernel
theorem d_Mo_usage_55 : decode b_Mo_usage 55 = .ok (.aload_n 0, 1) := by decide +kernel
theorem d_Mo_usage_56 : decode b_Mo_usage 56 = .ok (.getfield 81, 3) := by decide +kernel
theorem d_Mo_usage_59 : decode b_Mo_usage 59 = .ok (.iload 4, 2) := by decide +kernel
theorem d_Mo_usage_61 : decode b_Mo_usage 61 = .ok (.iaload, 1) := by decide +kernel
theorem d_Mo_usage_62 : decode b_Mo_usage 62 = .ok (.iload_n 2, 1) := by decide +kernel
theorem d_Mo_usage_63 : decode b_Mo_usage 63 = .ok (.if_icmp .ne 7, 3) := by decide +kernel
theorem d_Mo_usage_66 : decode b_Mo_usage 66 = .ok (.iconst 1, 1) := by decide +kernel
theorem d_Mo_usage_67 : decode b_Mo_usage 67 = .ok (.goto 4, 3) := by decide +kernel
theorem d_Mo_usage_70 : decode b_Mo_usage 70 = .ok (.iconst 0, 1) := by decide +kernel
theorem d_Mo_usage_71 : decode b_Mo_usage 71 = .ok (.iadd, 1) := by decide +kernel
theorem d_Mo_usage_72 : decode b_Mo_usage 72 = .ok (.istore_n 3, 1) := by decide +kernel
theorem d_Mo_usage_73 : decode b_Mo_usage 73 = .ok (.iinc 4 1, 3) := by decide +kernel
theorem d_Mo_usage_76 : decode b_Mo_usage 76 = .ok (.goto (-42), 3) := by decide +kernel
theorem d_Mo_usage_79 : decode b_Mo_usage 79 = .ok (.iload_n 3, 1) := by decide +kernel
theorem d_Mo_usage_80 : decode b_Mo_usage 80 = .ok (.ireturn, 1) := by decide +kernel
theorem d_Mo_told_0 : decode b_Mo_told 0 = .ok (.aload_n 0, 1) := by decide +kernel
theorem d_Mo_told_1 : decode b_Mo_told 1 = .ok (.iconst 0, 1) := by decide +kernel
theorem d_Mo_told_2 : decode b_Mo_told 2 = .ok (.putfield 90, 3) := by decide +kernel
theorem d_Mo_told_5 : decode b_Mo_told 5 = .ok (.iload_n 1, 1) := by decide +kernel
theorem d_Mo_told_6 : decode b_Mo_told 6 = .ok (.iconst 0, 1) := by decide +kernel
theorem d_Mo_told_7 : decode b_Mo_told 7 = .ok (.aload_n 0, 1) := by decide +kernel
theorem d_Mo_told_8 : decode b_Mo_told 8 = .ok (.getfield 104, 3) := by decide +kernel
theorem d_Mo_told_11 : decode b_Mo_told 11 = .ok (.iconst 1, 1) := by decide +kernel
theorem d_Mo_told_12 : decode b_Mo_told 12 = .ok (.isub, 1) := by decide +kernel
theorem d_Mo_told_13 : decode b_Mo_told 13 = .ok (.invokestatic 94, 3) := by decide +kernel
theorem d_Mo_told_16 : decode b_Mo_told 16 = .ok (.ifCond .eq 12, 3) := by decide +kernel
theorem d_Mo_told_19 : decode b_Mo_told 19 = .ok (.iload_n 2, 1) := by decide +kernel
theorem d_Mo_told_20 : decode b_Mo_told 20 = .ok (.iconst 0, 1) := by decide +kernel
theorem d_Mo_told_21 : decode b_Mo_told 21 = .ok (.iconst 1, 1) := by decide +kernel
theorem d_Mo_told_22 : decode b_Mo_told 22 = .ok (.invokestatic 94, 3) := by decide +kernel
theorem d_Mo_told_25 : decode b_Mo_told 25 = .ok (.ifCond .ne 7, 3) := by decide +kernel
theorem d_Mo_told_28 : decode b_Mo_told 28 = .ok (.iconst (-1), 1) := by decide +kernel
theorem d_Mo_told_29 : decode b_Mo_told 29 = .ok (.goto 22, 3) := by decide +kernel
theorem d_Mo_told_32 : decode b_Mo_told 32 = .ok (.iload_n 2, 1) := by decide +kernel
theorem d_Mo_told_33 : decode b_Mo_told 33 = .ok (.ifCond .ne 12, 3) := by decide +kernel
theorem d_Mo_told_36 : decode b_Mo_told 36 = .ok (.aload_n 0, 1) := by decide +kernel
theorem d_Mo_told_37 : decode b_Mo_told 37 = .ok (.getfield 84, 3) := by decide +kernel
theorem d_Mo_told_40 : decode b_Mo_told 40 = .ok (.iload_n 1, 1) := by decide +kernel
theorem d_Mo_told_41 : decode b_Mo_told 41 = .ok (.iaload, 1) := by decide +kernel
theorem d_Mo_told_42 : decode b_Mo_told 42 = .ok (.goto 9, 3) := by decide +kernel
theorem d_Mo_told_45 : decode b_Mo_told 45 = .ok (.aload_n 0, 1) := by decide +kernel
theorem d_Mo_told_46 : decode b_Mo_told 46 = .ok (.getfield 87, 3) := by decide +kernel
theorem d_Mo_told_49 : decode b_Mo_told 49 = .ok (.iload_n 1, 1) := by decide +kernel
theorem d_Mo_told_50 : decode b_Mo_told 50 = .ok (.iaload, 1) := by decide +kernel
theorem d_Mo_told_51 : decode b_Mo_told 51 = .ok (.ireturn, 1) := by decide +kernel
theorem d_Mo_who_0 : decode b_Mo_who 0 = .ok (.aload_n 0, 1) := by decide +kernel
theorem d_Mo_who_1 : decode b_Mo_who 1 = .ok (.iconst 0, 1) := by decide +kernel
theorem d_Mo_who_2 : decode b_Mo_who 2 = .ok (.putfield 90, 3) := by decide +kernel
theorem d_Mo_who_5 : decode b_Mo_who 5 = .ok (.aload_n 0, 1) := by decide +kernel
theorem d_Mo_who_6 : decode b_Mo_who 6 = .ok (.iload_n 1, 1) := by decide +kernel
theorem d_Mo_who_7 : decode b_Mo_who 7 = .ok (.invokevirtual 107, 3) := by decide +kernel
theorem d_Mo_who_10 : decode b_Mo_who 10 = .ok (.ifCond .eq 7, 3) := by decide +kernel
theorem d_Mo_who_13 : decode b_Mo_who 13 = .ok (.iload_n 2, 1) := by decide +kernel
theorem d_Mo_who_14 : decode b_Mo_who 14 = .ok (.ifCond .ge 5, 3) := by decide +kernel
theorem d_Mo_who_17 : decode b_Mo_who 17 = .ok (.iconst (-1), 1) := by decide +kernel
theorem d_Mo_who_18 : decode b_Mo_who 18 = .ok (.ireturn, 1) := by decide +kernel
theorem d_Mo_who_19 : decode b_Mo_who 19 = .ok (.iload_n 2, 1) := by decide +kernel
theorem d_Mo_who_20 : decode b_Mo_who 20 = .ok (.iconst 2, 1) := by decide +kernel
theorem d_Mo_who_21 : decode b_Mo_who 21 = .ok (.if_icmp .ge 23, 3) := by decide +kernel
theorem d_Mo_who_24 : decode b_Mo_who 24 = .ok (.iload_n 2, 1) := by decide +kernel
theorem d_Mo_who_25 : decode b_Mo_who 25 = .ok (.ifCond .ne 12, 3) := by decide +kernel
theorem d_Mo_who_28 : decode b_Mo_who 28 = .ok (.aload_n 0, 1) := by decide +kernel
theorem d_Mo_who_29 : decode b_Mo_who 29 = .ok (.getfield 20, 3) := by decide +kernel
theorem d_Mo_who_32 : decode b_Mo_who 32 = .ok (.iload_n 1, 1) := by decide +kernel
theorem d_Mo_who_33 : decode b_Mo_who 33 = .ok (.iaload, 1) := by decide +kernel
theorem d_Mo_who_34 : decode b_Mo_who 34 = .ok (.goto 9, 3) := by decide +kernel
theorem d_Mo_who_37 : decode b_Mo_who 37 = .ok (.aload_n 0, 1) := by decide +kernel
theorem d_Mo_who_38 : decode b_Mo_who 38 = .ok (.getfield 26, 3) := by decide +kernel
theorem d_Mo_who_41 : decode b_Mo_who 41 = .ok (.iload_n 1, 1) := by decide +kernel
theorem d_Mo_who_42 : decode b_Mo_who 42 = .ok (.iaload, 1) := by decide +kernel
theorem d_Mo_who_43 : decode b_Mo_who 43 = .ok (.ireturn, 1) := by decide +kernel
theorem d_Mo_who_44 : decode b_Mo_who 44 = .ok (.iload_n 2, 1) := by decide +kernel
theorem d_Mo_who_45 : decode b_Mo_who 45 = .ok (.iconst 2, 1) := by decide +kernel
theorem d_Mo_who_46 : decode b_Mo_who 46 = .ok (.isub, 1) := by decide +kernel
theorem d_Mo_who_47 : decode b_Mo_who 47 = .ok (.iconst 2, 1) := by decide +kernel
theorem d_Mo_who_48 : decode b_Mo_who 48 = .ok (.idiv, 1) := by decide +kernel
theorem d_Mo_who_49 : decode b_Mo_who 49 = .ok (.istore_n 3, 1) := by decide +kernel
theorem d_Mo_who_50 : decode b_Mo_who 50 = .ok (.iload_n 2, 1) := by decide +kernel
theorem d_Mo_who_51 : decode b_Mo_who 51 = .ok (.iconst 2, 1) := by decide +kernel
theorem d_Mo_who_52 : decode b_Mo_who 52 = .ok (.irem, 1) := by decide +kernel
theorem d_Mo_who_53 : decode b_Mo_who 53 = .ok (.ifCond .ne 29, 3) := by decide +kernel
theorem d_Mo_who_56 : decode b_Mo_who 56 = .ok (.iload_n 3, 1) := by decide +kernel
theorem d_Mo_who_57 : decode b_Mo_who 57 = .ok (.aload_n 0, 1) := by decide +kernel
theorem d_Mo_who_58 : decode b_Mo_who 58 = .ok (.getfield 20, 3) := by decide +kernel
theorem d_Mo_who_61 : decode b_Mo_who 61 = .ok (.iload_n 1, 1) := by decide +kernel
theorem d_Mo_who_62 : decode b_Mo_who 62 = .ok (.iaload, 1) := by decide +kernel
theorem d_Mo_who_63 : decode b_Mo_who 63 = .ok (.if_icmp .ge 17, 3) := by decide +kernel
theorem d_Mo_who_66 : decode b_Mo_who 66 = .ok (.aload_n 0, 1) := by decide +kernel
theorem d_Mo_who_67 : decode b_Mo_who 67 = .ok (.getfield 23, 3) := by decide +kernel
theorem d_Mo_who_70 : decode b_Mo_who 70 = .ok (.bipush 100, 2) := by decide +kernel
theorem d_Mo_who_72 : decode b_Mo_who 72 = .ok (.iload_n 1, 1) := by decide +kernel
theorem d_Mo_who_73 : decode b_Mo_who 73 = .ok (.imul, 1) := by decide +kernel
theorem d_Mo_who_74 : decode b_Mo_who 74 = .ok (.iload_n 3, 1) := by decide +kernel
theorem d_Mo_who_75 : decode b_Mo_who 75 = .ok (.iadd, 1) := by decide +kernel
theorem d_Mo_who_76 : decode b_Mo_who 76 = .ok (.iaload, 1) := by decide +kernel
theorem d_Mo_who_77 : decode b_Mo_who 77 = .ok (.goto 4, 3) := by decide +kernel
theorem d_Mo_who_80 : decode b_Mo_who 80 = .ok (.iconst (-1), 1) := by decide +kernel
theorem d_Mo_who_81 : decode b_Mo_who 81 = .ok (.ireturn, 1) := by decide +kernel
theorem d_Mo_who_82 : decode b_Mo_who 82 = .ok (.iload_n 3, 1) := by decide +kernel
theorem d_Mo_who_83 : decode b_Mo_who 83 = .ok (.aload_n 0, 1) := by decide +kernel
theorem d_Mo_who_84 : decode b_Mo_who 84 = .ok (.getfield 26, 3) := by decide +kernel
theorem d_Mo_who_87 : decode b_Mo_who 87 = .ok (.iload_n 1, 1) := by decide +kernel
theorem d_Mo_who_88 : decode b_Mo_who 88 = .ok (.iaload, 1) := by decide +kernel
theorem d_Mo_who_89 : decode b_Mo_who 89 = .ok (.if_icmp .ge 17, 3) := by decide +kernel
theorem d_Mo_who_92 : decode b_Mo_who 92 = .ok (.aload_n 0, 1) := by decide +kernel
theorem d_Mo_who_93 : decode b_Mo_who 93 = .ok (.getfield 29, 3) := by decide +kernel
theorem d_Mo_who_96 : decode b_Mo_who 96 = .ok (.bipush 100, 2) := by decide +kernel
theorem d_Mo_who_98 : decode b_Mo_who 98 = .ok (.iload_n 1, 1) := by decide +kernel
theorem d_Mo_who_99 : decode b_Mo_who 99 = .ok (.imul, 1) := by decide +kernel
theorem d_Mo_who_100 : decode b_Mo_who 100 = .ok (.iload_n 3, 1) := by decide +kernel
theorem d_Mo_who_101 : decode b_Mo_who 101 = .ok (.iadd, 1) := by decide +kernel
theorem d_Mo_who_102 : decode b_Mo_who 102 = .ok (.iaload, 1) := by decide +kernel
theorem d_Mo_who_103 : decode b_Mo_who 103 = .ok (.goto 4, 3) := by decide +kernel
theorem d_Mo_who_106 : decode b_Mo_who 106 = .ok (.iconst (-1), 1) := by decide +kernel
theorem d_Mo_who_107 : decode b_Mo_who 107 = .ok (.ireturn, 1) := by decide +kernel
def f_Mo_usage_b71 (k34 : Nat → Int32 → Int32 → Int32 → Int32 → mm → Option (Int32 × mm)) : Nat → Int32 → Int32 → Int32 → Int32 → Int32 → mm → Option (Int32 × mm) := fun v0 v1 v2 v4 t0 t1 M =>
    k34 v0 v1 v2 (t1 + t0) (v4 + 1) M
def f_Mo_usage_b70 (k34 : Nat → Int32 → Int32 → Int32 → Int32 → mm → Option (Int32 × mm)) : Nat → Int32 → Int32 → Int32 → Int32 → mm → Option (Int32 × mm) := fun v0 v1 v2 v4 t0 M =>
    f_Mo_usage_b71 k34 v0 v1 v2 v4 0 t0 M
def f_Mo_usage_b34 : Nat → Nat → Int32 → Int32 → Int32 → Int32 → mm → Option (Int32 × mm)
  | 0, _, _, _, _, _, _ => none
  | n + 1, v0, v1, v2, v3, v4, M =>
    (gI 1 25 M v0).bind fun x1 =>
    if x1 ≤ v4 then
      some (v3, M)
    else
      (gR 1 27 M v0).bind fun x3 =>
      (aI M x3 v4).bind fun x4 =>
      if x4 = v1 then
        (gR 1 28 M v0).bind fun x6 =>
        (aI M x6 v4).bind fun x7 =>
        if x7 = v2 then
          f_Mo_usage_b71 (f_Mo_usage_b34 n) v0 v1 v2 v4 1 v3 M
        else
          f_Mo_usage_b70 (f_Mo_usage_b34 n) v0 v1 v2 v4 v3 M
      else
        f_Mo_usage_b70 (f_Mo_usage_b34 n) v0 v1 v2 v4 v3 M
def f_Mo_usage (v0 : Nat) (v1 : Int32) (v2 : Int32) (M : mm) : Option (Int32 × mm) :=
    (pF 1 0 (.int 0) M v0).bind fun M9 =>
    (kO 1 M9 v0).bind fun _ =>
    (f_Mo_isTitle v0 v1 M9).bind fun (x10, M10) =>
    if x10 = 0 then
      some ((-1), M10)
    else
      (f_Mo_in1 v2 0 6666 M10).bind fun (x13, M13) =>
      if x13 = 0 then
        some ((-2), M13)
      else
        f_Mo_usage_b34 FU v0 v1 v2 0 0 M13
set_option maxHeartbeats 4000000 in
set_option maxRecDepth 100000 in
theorem w_Mo_usage_b71 {p : Program} {l : Launch} {e : Env} {s : State} {m : MethodId} {args : Array Value} {below : List Frame} {meth : Method} {c : Code} {D : va_G} {dA : Nat → ClassId} {M0 M' : mm} {r : Int32} (C : mm_C p s m args meth c b_Mo_usage 5 (some .int) R_Mo D dA (mm_A M0)) {k34 : Nat → Int32 → Int32 → Int32 → Int32 → mm → Option (Int32 × mm)} (hk34 : ∀ (v0 : Nat) (v1 : Int32) (v2 : Int32) (v3 : Int32) (v4 : Int32) (M : mm) (H : Heap) (locs : List Loc) (ls : Array Slot), k34 v0 v1 v2 v3 v4 M = some (r, M') → mm_W D dA (mm_A M0) M H → va_S (mm_A M0) s.heap H locs → lv_has ls 5 [(0, .ref v0), (1, .int v1), (2, .int v2), (3, .int v3), (4, .int v4)] → W p l e rm_Mo_usage s m args below meth c H locs 0 0 (MQ below (mm_QI D dA M0 r M') args s 0 0 (mm_A M0)) (F0 m 34 ls [])) : ∀ (v0 : Nat) (v1 : Int32) (v2 : Int32) (v4 : Int32) (t0 : Int32) (t1 : Int32) (M : mm) (H : Heap) (locs : List Loc) (ls : Array Slot), f_Mo_usage_b71 k34 v0 v1 v2 v4 t0 t1 M = some (r, M') → mm_W D dA (mm_A M0) M H → va_S (mm_A M0) s.heap H locs → lv_has ls 5 [(0, .ref v0), (1, .int v1), (2, .int v2), (4, .int v4)] → W p l e rm_Mo_usage s m args below meth c H locs 0 0 (MQ below (mm_QI D dA M0 r M') args s 0 0 (mm_A M0)) (F0 m 71 ls [.int t0, .int t1]) := by
  obtain ⟨hx, hb, hr, hml, hown, hts, hlocks, hK, hA⟩ := id C
  intro v0 v1 v2 v4 t0 t1 M H locs ls h hW hS hl
  unfold f_Mo_usage_b71 at h
  refine lv_iadd hx hb d_Mo_usage_71 ?_
  refine lv_istore_n (lv' := [(3, .int (t1 + t0)), (0, .ref v0), (1, .int v1), (2, .int v2), (4, .int v4)]) hx hb d_Mo_usage_72 rfl hl (by decide) rfl (fun ls hl => ?_)
  refine lv_iinc (v := v4 + 1) (lv' := [(4, .int (v4 + 1)), (3, .int (t1 + t0)), (0, .ref v0), (1, .int v1), (2, .int v2)]) hx hb d_Mo_usage_73 hl (k := 4) rfl rfl (by decide) rfl (fun ls hl => ?_)
  refine lv_goto (tgt := 34) hx hb d_Mo_usage_76 (by decide) ?_
  exact hk34 _ _ _ _ _ _ _ _ _ h hW hS (lv_sub hl [2, 3, 4, 1, 0] rfl)
set_option maxHeartbeats 4000000 in
set_option maxRecDepth 100000 in
theorem w_Mo_usage_b70 {p : Program} {l : Launch} {e : Env} {s : State} {m : MethodId} {args : Array Value} {below : List Frame} {meth : Method} {c : Code} {D : va_G} {dA : Nat → ClassId} {M0 M' : mm} {r : Int32} (C : mm_C p s m args meth c b_Mo_usage 5 (some .int) R_Mo D dA (mm_A M0)) {k34 : Nat → Int32 → Int32 → Int32 → Int32 → mm → Option (Int32 × mm)} (hk34 : ∀ (v0 : Nat) (v1 : Int32) (v2 : Int32) (v3 : Int32) (v4 : Int32) (M : mm) (H : Heap) (locs : List Loc) (ls : Array Slot), k34 v0 v1 v2 v3 v4 M = some (r, M') → mm_W D dA (mm_A M0) M H → va_S (mm_A M0) s.heap H locs → lv_has ls 5 [(0, .ref v0), (1, .int v1), (2, .int v2), (3, .int v3), (4, .int v4)] → W p l e rm_Mo_usage s m args below meth c H locs 0 0 (MQ below (mm_QI D dA M0 r M') args s 0 0 (mm_A M0)) (F0 m 34 ls [])) : ∀ (v0 : Nat) (v1 : Int32) (v2 : Int32) (v4 : Int32) (t0 : Int32) (M : mm) (H : Heap) (locs : List Loc) (ls : Array Slot), f_Mo_usage_b70 k34 v0 v1 v2 v4 t0 M = some (r, M') → mm_W D dA (mm_A M0) M H → va_S (mm_A M0) s.heap H locs → lv_has ls 5 [(0, .ref v0), (1, .int v1), (2, .int v2), (4, .int v4)] → W p l e rm_Mo_usage s m args below meth c H locs 0 0 (MQ below (mm_QI D dA M0 r M') args s 0 0 (mm_A M0)) (F0 m 70 ls [.int t0]) := by
  obtain ⟨hx, hb, hr, hml, hown, hts, hlocks, hK, hA⟩ := id C
  intro v0 v1 v2 v4 t0 M H locs ls h hW hS hl
  unfold f_Mo_usage_b70 at h
  refine lv_iconst (v := 0) hx hb d_Mo_usage_70 (by decide) ?_
  exact w_Mo_usage_b71 C hk34 _ _ _ _ _ _ _ _ _ _ h hW hS (lv_sub hl [0, 1, 2, 3] rfl)
set_option maxHeartbeats 4000000 in
set_option maxRecDepth 100000 in
theorem w_Mo_usage_b34 {p : Program} {l : Launch} {e : Env} {s : State} {m : MethodId} {args : Array Value} {below : List Frame} {meth : Method} {c : Code} {D : va_G} {dA : Nat → ClassId} {M0 M' : mm} {r : Int32} (C : mm_C p s m args meth c b_Mo_usage 5 (some .int) R_Mo D dA (mm_A M0)) : ∀ (n : Nat), ∀ (v0 : Nat) (v1 : Int32) (v2 : Int32) (v3 : Int32) (v4 : Int32) (M : mm) (H : Heap) (locs : List Loc) (ls : Array Slot), f_Mo_usage_b34 n v0 v1 v2 v3 v4 M = some (r, M') → mm_W D dA (mm_A M0) M H → va_S (mm_A M0) s.heap H locs → lv_has ls 5 [(0, .ref v0), (1, .int v1), (2, .int v2), (3, .int v3), (4, .int v4)] → W p l e rm_Mo_usage s m args below meth c H locs 0 0 (MQ below (mm_QI D dA M0 r M') args s 0 0 (mm_A M0)) (F0 m 34 ls []) := by
  obtain ⟨hx, hb, hr, hml, hown, hts, hlocks, hK, hA⟩ := id C
  intro n
  induction n with
  | zero =>
    intro v0 v1 v2 v3 v4 M H locs ls h hW hS hl
    unfold f_Mo_usage_b34 at h
    cases h
  | succ n ih =>
    intro v0 v1 v2 v3 v4 M H locs ls h hW hS hl
    unfold f_Mo_usage_b34 at h
    refine lv_iload hx hb d_Mo_usage_34 (lv_at hl 4 rfl) ?_
    refine lv_aload_n hx hb d_Mo_usage_36 rfl (lv_at hl 0 rfl) ?_
    obtain ⟨x1, e1, h⟩ := ob h
    refine mr_gI C hW k_Mo_142 e1 d_Mo_usage_37 ?_
    refine lv_icmp_ge (tgt := 79) hx hb d_Mo_usage_40 (by decide) (fun c2 => ?_) (fun c2 => ?_)
    · have h := ifp h c2
      refine lv_iload_n hx hb d_Mo_usage_79 rfl (lv_at hl 3 rfl) ?_
      exact mr_iret C hW hS (Nat.le_of_ble_eq_true rfl) (Nat.le_of_ble_eq_true rfl) h d_Mo_usage_80
    · have h := ifn h c2
      refine lv_iload_n hx hb d_Mo_usage_43 rfl (lv_at hl 3 rfl) ?_
      refine lv_aload_n hx hb d_Mo_usage_44 rfl (lv_at hl 0 rfl) ?_
      obtain ⟨x3, e3, h⟩ := ob h
      refine mr_gR C hW k_Mo_78 e3 d_Mo_usage_45 ?_
      refine lv_iload hx hb d_Mo_usage_48 (lv_at hl 4 rfl) ?_
      obtain ⟨x4, e4, h⟩ := ob h
      refine mr_aI C hW e4 d_Mo_usage_50 ?_
      refine lv_iload_n hx hb d_Mo_usage_51 rfl (lv_at hl 1 rfl) ?_
      refine lv_icmp_ne (tgt := 70) hx hb d_Mo_usage_52 (by decide) (fun c5 => ?_) (fun c5 => ?_)
      · have h := ifn h c5
        exact w_Mo_usage_b70 C ih _ _ _ _ _ _ _ _ _ h hW hS (lv_sub hl [0, 1, 2, 4] rfl)
      · have h := ifp h c5
        refine lv_aload_n hx hb d_Mo_usage_55 rfl (lv_at hl 0 rfl) ?_
        obtain ⟨x6, e6, h⟩ := ob h
        refine mr_gR C hW k_Mo_81 e6 d_Mo_usage_56 ?_
        refine lv_iload hx hb d_Mo_usage_59 (lv_at hl 4 rfl) ?_
        obtain ⟨x7, e7, h⟩ := ob h
        refine mr_aI C hW e7 d_Mo_usage_61 ?_
        refine lv_iload_n hx hb d_Mo_usage_62 rfl (lv_at hl 2 rfl) ?_
        refine lv_icmp_ne (tgt := 70) hx hb d_Mo_usage_63 (by decide) (fun c8 => ?_) (fun c8 => ?_)
        · have h := ifn h c8
          exact w_Mo_usage_b70 C ih _ _ _ _ _ _ _ _ _ h hW hS (lv_sub hl [0, 1, 2, 4] rfl)
        · have h := ifp h c8
          refine lv_iconst (v := 1) hx hb d_Mo_usage_66 (by decide) ?_
          refine lv_goto (tgt := 71) hx hb d_Mo_usage_67 (by decide) ?_
          exact w_Mo_usage_b71 C ih _ _ _ _ _ _ _ _ _ _ h hW hS (lv_sub hl [0, 1, 2, 4] rfl)
set_option maxHeartbeats 4000000 in
set_option maxRecDepth 100000 in
theorem c_Mo_usage (l : Launch) (D : va_G) (dA : Nat → ClassId) (M0 M' : mm) (r : Int32) (v0 : Nat) (v1 : Int32) (v2 : Int32) (h : f_Mo_usage v0 v1 v2 M0 = some (r, M')) : Met l y_Mo_usage w_Mo_usage rm_Mo_usage (mm_Pre D dA M0 [.ref v0, .int v1, .int v2]) (mm_QI D dA M0 r M') 0 0 (mm_A M0) := by
  refine Met.ofW (cc := b_Mo_usage) (maxL := 5) (ret := (some .int)) (by decide) rfl ?_
  intro p e s m args below meth c s₁ B hml hv
  obtain ⟨rfl, hW, hK⟩ := hv
  have C : mm_C p s m _ meth c b_Mo_usage 5 (some .int) R_Mo D dA (mm_A M0) := ⟨B.exec, B.bytes, B.returns, hml, findClass_of_methodNamed B.named, fun w hw => atoms_spec (ws := w_Mo_usage) B.pre w (List.mem_cons_of_mem _ hw), B.notSynchronized, hK, fun q hq => Or.inr (by rw [← hW.1]; exact hq)⟩
  have hS : va_S (mm_A M0) s.heap s.heap [] := va_S.rf
  obtain ⟨hx, hb, hr, hml, hown, hts, hlocks, hK, hA⟩ := id C
  have hl := lv_entry ([.ref v0, .int v1, .int v2]) (n := 5) (Nat.le_of_ble_eq_true rfl)
  rw [lg_entry_eq]
  generalize (lg_sl ([.ref v0, .int v1, .int v2]) ++ List.replicate (5 - (lg_sl ([.ref v0, .int v1, .int v2])).length) Slot.unset).toArray = ls at hl ⊢
  have hl : lv_has ls 5 [(0, .ref v0), (1, .int v1), (2, .int v2)] := hl
  unfold f_Mo_usage at h
  refine lv_aload_n hx hb d_Mo_usage_0 rfl (lv_at hl 0 rfl) ?_
  refine lv_iconst (v := 0) hx hb d_Mo_usage_1 (by decide) ?_
  obtain ⟨M9, e9, h⟩ := ob h
  refine mr_put C hW hS kp_Mo_90 rfl rfl e9 d_Mo_usage_2 (fun H locs hW hS => ?_)
  refine lv_aload_n hx hb d_Mo_usage_5 rfl (lv_at hl 0 rfl) ?_
  refine lv_iload_n hx hb d_Mo_usage_6 rfl (lv_at hl 1 rfl) ?_
  obtain ⟨_, e11, h⟩ := ob h
  obtain ⟨⟨x10, M10⟩, e10, h⟩ := ob h
  refine mr_ci C hW hS (va_runV (As := [.int v1]) (rest := []) ⟨hx, hb, hml, hown, hts⟩ (c_Mo_isTitle l D dA _ _ _ v0 v1 e10) (cwV 1 hts (mg_V q_280 q_281 q_282 q_283 q_267) rfl rfl rfl (by decide +kernel) ⟨Nat.le_of_ble_eq_true rfl, Nat.le_of_ble_eq_true rfl⟩) (mr_preV C hW (ci := 1) rfl e11) rfl rfl hl.1 rfl (lv_room (Nat.le_of_ble_eq_true rfl)) d_Mo_usage_7 ⟨Nat.le_of_ble_eq_true rfl, Nat.le_of_ble_eq_true rfl⟩) (fun H locs hW hS => ?_)
  refine lv_if_ne (tgt := 15) hx hb d_Mo_usage_10 (by decide) (fun c12 => ?_) (fun c12 => ?_)
  · have h := ifn h c12
    refine lv_iload_n hx hb d_Mo_usage_15 rfl (lv_at hl 2 rfl) ?_
    refine lv_iconst (v := 0) hx hb d_Mo_usage_16 (by decide) ?_
    refine lv_sipush (v := 6666) hx hb d_Mo_usage_17 (by decide) ?_
    obtain ⟨⟨x13, M13⟩, e13, h⟩ := ob h
    refine mr_ci C hW hS (va_runS (As := [.int v2, .int 0, .int 6666]) (rest := []) ⟨hx, hb, hml, hown, hts⟩ (c_Mo_in1 l D dA _ _ _ v2 0 6666 e13) (cwS 3 hts (mg_S q_264 q_265 q_266 q_267) rfl rfl rfl (by decide +kernel) ⟨Nat.le_of_ble_eq_true rfl, Nat.le_of_ble_eq_true rfl⟩) (mr_pre C hW) rfl rfl hl.1 rfl (lv_room (Nat.le_of_ble_eq_true rfl)) d_Mo_usage_20 ⟨Nat.le_of_ble_eq_true rfl, Nat.le_of_ble_eq_true rfl⟩) (fun H locs hW hS => ?_)
    refine lv_if_ne (tgt := 29) hx hb d_Mo_usage_23 (by decide) (fun c14 => ?_) (fun c14 => ?_)
    · have h := ifn h c14
      refine lv_iconst (v := 0) hx hb d_Mo_usage_29 (by decide) ?_
      refine lv_istore_n (lv' := [(3, .int 0), (0, .ref v0), (1, .int v1), (2, .int v2)]) hx hb d_Mo_usage_30 rfl hl (by decide) rfl (fun ls hl => ?_)
      refine lv_iconst (v := 0) hx hb d_Mo_usage_31 (by decide) ?_
      refine lv_istore (lv' := [(4, .int 0), (3, .int 0), (0, .ref v0), (1, .int v1), (2, .int v2)]) hx hb d_Mo_usage_32 hl (by decide) rfl (fun ls hl => ?_)
      exact w_Mo_usage_b34 C FU _ _ _ _ _ _ _ _ _ h hW hS (lv_sub hl [2, 3, 4, 1, 0] rfl)
    · have h := ifp h c14
      refine lv_bipush (v := (-2)) hx hb d_Mo_usage_26 (by decide) ?_
      exact mr_iret C hW hS (Nat.le_of_ble_eq_true rfl) (Nat.le_of_ble_eq_true rfl) h d_Mo_usage_28
  · have h := ifp h c12
    refine lv_iconst (v := (-1)) hx hb d_Mo_usage_13 (by decide) ?_
    exact mr_iret C hW hS (Nat.le_of_ble_eq_true rfl) (Nat.le_of_ble_eq_true rfl) h d_Mo_usage_14
def f_Mo_told (v0 : Nat) (v1 : Int32) (v2 : Int32) (M : mm) : Option (Int32 × mm) :=
    (pF 1 0 (.int 0) M v0).bind fun M1 =>
    (gI 1 29 M1 v0).bind fun x2 =>
    (f_Mo_in1 v1 0 (x2 - 1) M1).bind fun (x3, M3) =>
    if x3 = 0 then
      some ((-1), M3)
    else
      (f_Mo_in1 v2 0 1 M3).bind fun (x5, M5) =>
      if x5 = 0 then
        some ((-1), M5)
      else
        if v2 = 0 then
          (gR 1 30 M5 v0).bind fun x10 =>
          (aI M5 x10 v1).bind fun x11 =>
          some (x11, M5)
        else
          (gR 1 31 M5 v0).bind fun x8 =>
          (aI M5 x8 v1).bind fun x9 =>
          some (x9, M5)
set_option maxHeartbeats 4000000 in
set_option maxRecDepth 100000 in
theorem c_Mo_told (l : Launch) (D : va_G) (dA : Nat → ClassId) (M0 M' : mm) (r : Int32) (v0 : Nat) (v1 : Int32) (v2 : Int32) (h : f_Mo_told v0 v1 v2 M0 = some (r, M')) : Met l y_Mo_told w_Mo_told rm_Mo_told (mm_Pre D dA M0 [.ref v0, .int v1, .int v2]) (mm_QI D dA M0 r M') 0 0 (mm_A M0) := by
  refine Met.ofW (cc := b_Mo_told) (maxL := 3) (ret := (some .int)) (by decide) rfl ?_
  intro p e s m args below meth c s₁ B hml hv
  obtain ⟨rfl, hW, hK⟩ := hv
  have C : mm_C p s m _ meth c b_Mo_told 3 (some .int) R_Mo D dA (mm_A M0) := ⟨B.exec, B.bytes, B.returns, hml, findClass_of_methodNamed B.named, fun w hw => atoms_spec (ws := w_Mo_told) B.pre w (List.mem_cons_of_mem _ hw), B.notSynchronized, hK, fun q hq => Or.inr (by rw [← hW.1]; exact hq)⟩
  have hS : va_S (mm_A M0) s.heap s.heap [] := va_S.rf
  obtain ⟨hx, hb, hr, hml, hown, hts, hlocks, hK, hA⟩ := id C
  have hl := lv_entry ([.ref v0, .int v1, .int v2]) (n := 3) (Nat.le_of_ble_eq_true rfl)
  rw [lg_entry_eq]
  generalize (lg_sl ([.ref v0, .int v1, .int v2]) ++ List.replicate (3 - (lg_sl ([.ref v0, .int v1, .int v2])).length) Slot.unset).toArray = ls at hl ⊢
  have hl : lv_has ls 3 [(0, .ref v0), (1, .int v1), (2, .int v2)] := hl
  unfold f_Mo_told at h
  refine lv_aload_n hx hb d_Mo_told_0 rfl (lv_at hl 0 rfl) ?_
  refine lv_iconst (v := 0) hx hb d_Mo_told_1 (by decide) ?_
  obtain ⟨M1, e1, h⟩ := ob h
  refine mr_put C hW hS kp_Mo_90 rfl rfl e1 d_Mo_told_2 (fun H locs hW hS => ?_)
  refine lv_iload_n hx hb d_Mo_told_5 rfl (lv_at hl 1 rfl) ?_
  refine lv_iconst (v := 0) hx hb d_Mo_told_6 (by decide) ?_
  refine lv_aload_n hx hb d_Mo_told_7 rfl (lv_at hl 0 rfl) ?_
  obtain ⟨x2, e2, h⟩ := ob h
  refine mr_gI C hW k_Mo_104 e2 d_Mo_told_8 ?_
  refine lv_iconst (v := 1) hx hb d_Mo_told_11 (by decide) ?_
  refine lv_isub hx hb d_Mo_told_12 ?_
  obtain ⟨⟨x3, M3⟩, e3, h⟩ := ob h
  refine mr_ci C hW hS (va_runS (As := [.int v1, .int 0, .int (x2 - 1)]) (rest := []) ⟨hx, hb, hml, hown, hts⟩ (c_Mo_in1 l D dA _ _ _ v1 0 (x2 - 1) e3) (cwS 3 hts (mg_S q_264 q_265 q_266 q_267) rfl rfl rfl (by decide +kernel) ⟨Nat.le_of_ble_eq_true rfl, Nat.le_of_ble_eq_true rfl⟩) (mr_pre C hW) rfl rfl hl.1 rfl (lv_room (Nat.le_of_ble_eq_true rfl)) d_Mo_told_13 ⟨Nat.le_of_ble_eq_true rfl, Nat.le_of_ble_eq_true rfl⟩) (fun H locs hW hS => ?_)
  refine lv_if_eq (tgt := 28) hx hb d_Mo_told_16 (by decide) (fun c4 => ?_) (fun c4 => ?_)
  · have h := ifp h c4
    refine lv_iconst (v := (-1)) hx hb d_Mo_told_28 (by decide) ?_
    refine lv_goto (tgt := 51) hx hb d_Mo_told_29 (by decide) ?_
    exact mr_iret C hW hS (Nat.le_of_ble_eq_true rfl) (Nat.le_of_ble_eq_true rfl) h d_Mo_told_51
  · have h := ifn h c4
    refine lv_iload_n hx hb d_Mo_told_19 rfl (lv_at hl 2 rfl) ?_
    refine lv_iconst (v := 0) hx hb d_Mo_told_20 (by decide) ?_
    refine lv_iconst (v := 1) hx hb d_Mo_told_21 (by decide) ?_
    obtain ⟨⟨x5, M5⟩, e5, h⟩ := ob h
    refine mr_ci C hW hS (va_runS (As := [.int v2, .int 0, .int 1]) (rest := []) ⟨hx, hb, hml, hown, hts⟩ (c_Mo_in1 l D dA _ _ _ v2 0 1 e5) (cwS 3 hts (mg_S q_264 q_265 q_266 q_267) rfl rfl rfl (by decide +kernel) ⟨Nat.le_of_ble_eq_true rfl, Nat.le_of_ble_eq_true rfl⟩) (mr_pre C hW) rfl rfl hl.1 rfl (lv_room (Nat.le_of_ble_eq_true rfl)) d_Mo_told_22 ⟨Nat.le_of_ble_eq_true rfl, Nat.le_of_ble_eq_true rfl⟩) (fun H locs hW hS => ?_)
    refine lv_if_ne (tgt := 32) hx hb d_Mo_told_25 (by decide) (fun c6 => ?_) (fun c6 => ?_)
    · have h := ifn h c6
      refine lv_iload_n hx hb d_Mo_told_32 rfl (lv_at hl 2 rfl) ?_
      refine lv_if_ne (tgt := 45) hx hb d_Mo_told_33 (by decide) (fun c7 => ?_) (fun c7 => ?_)
      · have h := ifn h c7
        refine lv_aload_n hx hb d_Mo_told_45 rfl (lv_at hl 0 rfl) ?_
        obtain ⟨x8, e8, h⟩ := ob h
        refine mr_gR C hW k_Mo_87 e8 d_Mo_told_46 ?_
        refine lv_iload_n hx hb d_Mo_told_49 rfl (lv_at hl 1 rfl) ?_
        obtain ⟨x9, e9, h⟩ := ob h
        refine mr_aI C hW e9 d_Mo_told_50 ?_
        exact mr_iret C hW hS (Nat.le_of_ble_eq_true rfl) (Nat.le_of_ble_eq_true rfl) h d_Mo_told_51
      · have h := ifp h c7
        refine lv_aload_n hx hb d_Mo_told_36 rfl (lv_at hl 0 rfl) ?_
        obtain ⟨x10, e10, h⟩ := ob h
        refine mr_gR C hW k_Mo_84 e10 d_Mo_told_37 ?_
        refine lv_iload_n hx hb d_Mo_told_40 rfl (lv_at hl 1 rfl) ?_
        obtain ⟨x11, e11, h⟩ := ob h
        refine mr_aI C hW e11 d_Mo_told_41 ?_
        refine lv_goto (tgt := 51) hx hb d_Mo_told_42 (by decide) ?_
        exact mr_iret C hW hS (Nat.le_of_ble_eq_true rfl) (Nat.le_of_ble_eq_true rfl) h d_Mo_told_51
    · have h := ifp h c6
      refine lv_iconst (v := (-1)) hx hb d_Mo_told_28 (by decide) ?_
      refine lv_goto (tgt := 51) hx hb d_Mo_told_29 (by decide) ?_
      exact mr_iret C hW hS (Nat.le_of_ble_eq_true rfl) (Nat.le_of_ble_eq_true rfl) h d_Mo_told_51
def f_Mo_who (v0 : Nat) (v1 : Int32) (v2 : Int32) (M : mm) : Option (Int32 × mm) :=
    (pF 1 0 (.int 0) M v0).bind fun M1 =>
    (kO 1 M1 v0).bind fun _ =>
    (f_Mo_isPack v0 v1 M1).bind fun (x2, M2) =>
    if x2 = 0 then
      some ((-1), M2)
    else
      if 0 ≤ v2 then
        if 2 ≤ v2 then
          if (v2 - v2 / 2 * 2) = 0 then
            (gR 1 5 M2 v0).bind fun x13 =>
            (aI M2 x13 v1).bind fun x14 =>
            if x14 ≤ ((v2 - 2) / 2) then
              some ((-1), M2)
            else
              (gR 1 6 M2 v0).bind fun x16 =>
              (aI M2 x16 ((100 * v1) + ((v2 - 2) / 2))).bind fun x17 =>
              some (x17, M2)
          else
            (gR 1 7 M2 v0).bind fun x8 =>
            (aI M2 x8 v1).bind fun x9 =>
            if x9 ≤ ((v2 - 2) / 2) then
              some ((-1), M2)
            else
              (gR 1 8 M2 v0).bind fun x11 =>
              (aI M2 x11 ((100 * v1) + ((v2 - 2) / 2))).bind fun x12 =>
              some (x12, M2)
        else
          if v2 = 0 then
            (gR 1 5 M2 v0).bind fun x21 =>
            (aI M2 x21 v1).bind fun x22 =>
            some (x22, M2)
          else
            (gR 1 7 M2 v0).bind fun x19 =>
            (aI M2 x19 v1).bind fun x20 =>
            some (x20, M2)
      else
        some ((-1), M2)
set_option maxHeartbeats 4000000 in
set_option maxRecDepth 100000 in
theorem c_Mo_who (l : Launch) (D : va_G) (dA : Nat → ClassId) (M0 M' : mm) (r : Int32) (v0 : Nat) (v1 : Int32) (v2 : Int32) (h : f_Mo_who v0 v1 v2 M0 = some (r, M')) : Met l y_Mo_who w_Mo_who rm_Mo_who (mm_Pre D dA M0 [.ref v0, .int v1, .int v2]) (mm_QI D dA M0 r M') 0 0 (mm_A M0) := by
  refine Met.ofW (cc := b_Mo_who) (maxL := 4) (ret := (some .int)) (by decide) rfl ?_
  intro p e s m args below meth c s₁ B hml hv
  obtain ⟨rfl, hW, hK⟩ := hv
  have C : mm_C p s m _ meth c b_Mo_who 4 (some .int) R_Mo D dA (mm_A M0) := ⟨B.exec, B.bytes, B.returns, hml, findClass_of_methodNamed B.named, fun w hw => atoms_spec (ws := w_Mo_who) B.pre w (List.mem_cons_of_mem _ hw), B.notSynchronized, hK, fun q hq => Or.inr (by rw [← hW.1]; exact hq)⟩
  have hS : va_S (mm_A M0) s.heap s.heap [] := va_S.rf
  obtain ⟨hx, hb, hr, hml, hown, hts, hlocks, hK, hA⟩ := id C
  have hl := lv_entry ([.ref v0, .int v1, .int v2]) (n := 4) (Nat.le_of_ble_eq_true rfl)
  rw [lg_entry_eq]
  generalize (lg_sl ([.ref v0, .int v1, .int v2]) ++ List.replicate (4 - (lg_sl ([.ref v0, .int v1, .int v2])).length) Slot.unset).toArray = ls at hl ⊢
  have hl : lv_has ls 4 [(0, .ref v0), (1, .int v1), (2, .int v2)] := hl
  unfold f_Mo_who at h
  refine lv_aload_n hx hb d_Mo_who_0 rfl (lv_at hl 0 rfl) ?_
  refine lv_iconst (v := 0) hx hb d_Mo_who_1 (by decide) ?_
  obtain ⟨M1, e1, h⟩ := ob h
  refine mr_put C hW hS kp_Mo_90 rfl rfl e1 d_Mo_who_2 (fun H locs hW hS => ?_)
  refine lv_aload_n hx hb d_Mo_who_5 rfl (lv_at hl 0 rfl) ?_
  refine lv_iload_n hx hb d_Mo_who_6 rfl (lv_at hl 1 rfl) ?_
  obtain ⟨_, e3, h⟩ := ob h
  obtain ⟨⟨x2, M2⟩, e2, h⟩ := ob h
  refine mr_ci C hW hS (va_runV (As := [.int v1]) (rest := []) ⟨hx, hb, hml, hown, hts⟩ (c_Mo_isPack l D dA _ _ _ v0 v1 e2) (cwV 1 hts (mg_V q_272 q_273 q_274 q_275 q_267) rfl rfl rfl (by decide +kernel) ⟨Nat.le_of_ble_eq_true rfl, Nat.le_of_ble_eq_true rfl⟩) (mr_preV C hW (ci := 1) rfl e3) rfl rfl hl.1 rfl (lv_room (Nat.le_of_ble_eq_true rfl)) d_Mo_who_7 ⟨Nat.le_of_ble_eq_true rfl, Nat.le_of_ble_eq_true rfl⟩) (fun H locs hW hS => ?_)
  refine lv_if_eq (tgt := 17) hx hb d_Mo_who_10 (by decide) (fun c4 => ?_) (fun c4 => ?_)
  · have h := ifp h c4
    refine lv_iconst (v := (-1)) hx hb d_Mo_who_17 (by decide) ?_
    exact mr_iret C hW hS (Nat.le_of_ble_eq_true rfl) (Nat.le_of_ble_eq_true rfl) h d_Mo_who_18
  · have h := ifn h c4
    refine lv_iload_n hx hb d_Mo_who_13 rfl (lv_at hl 2 rfl) ?_
    refine lv_if_ge (tgt := 19) hx hb d_Mo_who_14 (by decide) (fun c5 => ?_) (fun c5 => ?_)
    · have h := ifp h c5
      refine lv_iload_n hx hb d_Mo_who_19 rfl (lv_at hl 2 rfl) ?_
      refine lv_iconst (v := 2) hx hb d_Mo_who_20 (by decide) ?_
      refine lv_icmp_ge (tgt := 44) hx hb d_Mo_who_21 (by decide) (fun c6 => ?_) (fun c6 => ?_)
      · have h := ifp h c6
        refine lv_iload_n hx hb d_Mo_who_44 rfl (lv_at hl 2 rfl) ?_
        refine lv_iconst (v := 2) hx hb d_Mo_who_45 (by decide) ?_
        refine lv_isub hx hb d_Mo_who_46 ?_
        refine lv_iconst (v := 2) hx hb d_Mo_who_47 (by decide) ?_
        refine lv_idiv hx hb d_Mo_who_48 (by decide) ?_
        refine lv_istore_n (lv' := [(3, .int ((v2 - 2) / 2)), (0, .ref v0), (1, .int v1), (2, .int v2)]) hx hb d_Mo_who_49 rfl hl (by decide) rfl (fun ls hl => ?_)
        refine lv_iload_n hx hb d_Mo_who_50 rfl (lv_at hl 3 rfl) ?_
        refine lv_iconst (v := 2) hx hb d_Mo_who_51 (by decide) ?_
        refine lv_irem hx hb d_Mo_who_52 (by decide) ?_
        refine lv_if_ne (tgt := 82) hx hb d_Mo_who_53 (by decide) (fun c7 => ?_) (fun c7 => ?_)
        · have h := ifn h c7
          refine lv_iload_n hx hb d_Mo_who_82 rfl (lv_at hl 0 rfl) ?_
          refine lv_aload_n hx hb d_Mo_who_83 rfl (lv_at hl 1 rfl) ?_
          obtain ⟨x8, e8, h⟩ := ob h
          refine mr_gR C hW k_Mo_26 e8 d_Mo_who_84 ?_
          refine lv_iload_n hx hb d_Mo_who_87 rfl (lv_at hl 2 rfl) ?_
          obtain ⟨x9, e9, h⟩ := ob h
          refine mr_aI C hW e9 d_Mo_who_88 ?_
          refine lv_icmp_ge (tgt := 106) hx hb d_Mo_who_89 (by decide) (fun c10 => ?_) (fun c10 => ?_)
          · have h := ifp h c10
            refine lv_iconst (v := (-1)) hx hb d_Mo_who_106 (by decide) ?_
            exact mr_iret C hW hS (Nat.le_of_ble_eq_true rfl) (Nat.le_of_ble_eq_true rfl) h d_Mo_who_107
          · have h := ifn h c10
            refine lv_aload_n hx hb d_Mo_who_92 rfl (lv_at hl 1 rfl) ?_
            obtain ⟨x11, e11, h⟩ := ob h
            refine mr_gR C hW k_Mo_29 e11 d_Mo_who_93 ?_
            refine lv_bipush (v := 100) hx hb d_Mo_who_96 (by decide) ?_
            refine lv_iload_n hx hb d_Mo_who_98 rfl (lv_at hl 2 rfl) ?_
            refine lv_imul hx hb d_Mo_who_99 ?_
            refine lv_iload_n hx hb d_Mo_who_100 rfl (lv_at hl 0 rfl) ?_
            refine lv_iadd hx hb d_Mo_who_101 ?_
            obtain ⟨x12, e12, h⟩ := ob h
            refine mr_aI C hW e12 d_Mo_who_102 ?_
            refine lv_goto (tgt := 107) hx hb d_Mo_who_103 (by decide) ?_
            exact mr_iret C hW hS (Nat.le_of_ble_eq_true rfl) (Nat.le_of_ble_eq_true rfl) h d_Mo_who_107
        · have h := ifp h c7
          refine lv_iload_n hx hb d_Mo_who_56 rfl (lv_at hl 0 rfl) ?_
          refine lv_aload_n hx hb d_Mo_who_57 rfl (lv_at hl 1 rfl) ?_
          obtain ⟨x13, e13, h⟩ := ob h
          refine mr_gR C hW k_Mo_20 e13 d_Mo_who_58 ?_
          refine lv_iload_n hx hb d_Mo_who_61 rfl (lv_at hl 2 rfl) ?_
          obtain ⟨x14, e14, h⟩ := ob h
          refine mr_aI C hW e14 d_Mo_who_62 ?_
          refine lv_icmp_ge (tgt := 80) hx hb d_Mo_who_63 (by decide) (fun c15 => ?_) (fun c15 => ?_)
          · have h := ifp h c15
            refine lv_iconst (v := (-1)) hx hb d_Mo_who_80 (by decide) ?_
            exact mr_iret C hW hS (Nat.le_of_ble_eq_true rfl) (Nat.le_of_ble_eq_true rfl) h d_Mo_who_81
          · have h := ifn h c15
            refine lv_aload_n hx hb d_Mo_who_66 rfl (lv_at hl 1 rfl) ?_
            obtain ⟨x16, e16, h⟩ := ob h
            refine mr_gR C hW k_Mo_23 e16 d_Mo_who_67 ?_
            refine lv_bipush (v := 100) hx hb d_Mo_who_70 (by decide) ?_
            refine lv_iload_n hx hb d_Mo_who_72 rfl (lv_at hl 2 rfl) ?_
            refine lv_imul hx hb d_Mo_who_73 ?_
            refine lv_iload_n hx hb d_Mo_who_74 rfl (lv_at hl 0 rfl) ?_
            refine lv_iadd hx hb d_Mo_who_75 ?_
            obtain ⟨x17, e17, h⟩ := ob h
            refine mr_aI C hW e17 d_Mo_who_76 ?_
            refine lv_goto (tgt := 81) hx hb d_Mo_who_77 (by decide) ?_
            exact mr_iret C hW hS (Nat.le_of_ble_eq_true rfl) (Nat.le_of_ble_eq_true rfl) h d_Mo_who_81
      · have h := ifn h c6
        refine lv_iload_n hx hb d_Mo_who_24 rfl (lv_at hl 2 rfl) ?_
        refine lv_if_ne (tgt := 37) hx hb d_Mo_who_25 (by decide) (fun c18 => ?_) (fun c18 => ?_)
        · have h := ifn h c18
          refine lv_aload_n hx hb d_Mo_who_37 rfl (lv_at hl 0 rfl) ?_
          obtain ⟨x19, e19, h⟩ := ob h
          refine mr_gR C hW k_Mo_26 e19 d_Mo_who_38 ?_
          refine lv_iload_n hx hb d_Mo_who_41 rfl (lv_at hl 1 rfl) ?_
          obtain ⟨x20, e20, h⟩ := ob h
          refine mr_aI C hW e20 d_Mo_who_42 ?_
          exact mr_iret C hW hS (Nat.le_of_ble_eq_true rfl) (Nat.le_of_ble_eq_true rfl) h d_Mo_who_43
        · have h := ifp h c18
          refine lv_aload_n hx hb d_Mo_who_28 rfl (lv_at hl 0 rfl) ?_
          obtain ⟨x21, e21, h⟩ := ob h
          refine mr_gR C hW k_Mo_20 e21 d_Mo_who_29 ?_
          refine lv_iload_n hx hb d_Mo_who_32 rfl (lv_at hl 1 rfl) ?_
          obtain ⟨x22, e22, h⟩ := ob h
          refine mr_aI C hW e22 d_Mo_who_33 ?_
          refine lv_goto (tgt := 43) hx hb d_Mo_who_34 (by decide) ?_
          exact mr_iret C hW hS (Nat.le_of_ble_eq_true rfl) (Nat.le_of_ble_eq_true rfl) h d_Mo_who_43
    · have h := ifn h c5
      refine lv_iconst (v := (-1)) hx hb d_Mo_who_17 (by decide) ?_
      exact mr_iret C hW hS (Nat.le_of_ble_eq_true rfl) (Nat.le_of_ble_eq_true rfl) h d_Mo_who_18
