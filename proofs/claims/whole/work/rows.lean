section
-- ===== PART A: goes FIRST, ahead of the names: the tables' words, and 'selects' of the private methods out of them =====
/-- a private method of a class that the tables say can be made, by its rows of tables_1 -/
def lw_okq (q : MethodName × Nat) : Prop := (q.1.cls ≠ "java/lang/invoke/MethodHandle" ∧ q.1.cls ≠ "java/lang/invoke/VarHandle") ∧ Cond.instantiable q.1.cls q.2 ∈ tables_1 ∧ Cond.privateMethod q.1 ∈ tables_1 ∧ Cond.instanceMethod q.1 ∈ tables_1
theorem lw_p0 : lw_okq (⟨"LicenceRows2", "findPack", "(I)LLicenceRows2$Pack;"⟩, 10) := ⟨⟨by decide +kernel, by decide +kernel⟩, List.mem_of_getElem? (i := 11) (by decide +kernel), List.mem_of_getElem? (i := 148) (by decide +kernel), List.mem_of_getElem? (i := 149) (by decide +kernel)⟩
theorem lw_p1 : lw_okq (⟨"LicenceRows2", "findNamed", "(II)LLicenceRows2$Title;"⟩, 10) := ⟨⟨by decide +kernel, by decide +kernel⟩, List.mem_of_getElem? (i := 11) (by decide +kernel), List.mem_of_getElem? (i := 152) (by decide +kernel), List.mem_of_getElem? (i := 153) (by decide +kernel)⟩
theorem lw_p2 : lw_okq (⟨"LicenceRows2", "findTitle", "(I)LLicenceRows2$Title;"⟩, 10) := ⟨⟨by decide +kernel, by decide +kernel⟩, List.mem_of_getElem? (i := 11) (by decide +kernel), List.mem_of_getElem? (i := 194) (by decide +kernel), List.mem_of_getElem? (i := 195) (by decide +kernel)⟩
theorem lw_p3 : lw_okq (⟨"LicenceRows2", "findRule", "(I)LLicenceRows2$Rule;"⟩, 10) := ⟨⟨by decide +kernel, by decide +kernel⟩, List.mem_of_getElem? (i := 11) (by decide +kernel), List.mem_of_getElem? (i := 260) (by decide +kernel), List.mem_of_getElem? (i := 261) (by decide +kernel)⟩
theorem lw_p4 : lw_okq (⟨"LicenceRows2$Line", "placeOf", "(I)I"⟩, 2) := ⟨⟨by decide +kernel, by decide +kernel⟩, List.mem_of_getElem? (i := 104) (by decide +kernel), List.mem_of_getElem? (i := 287) (by decide +kernel), List.mem_of_getElem? (i := 288) (by decide +kernel)⟩
theorem lw_p5 : lw_okq (⟨"LicenceRows2", "judge", "(ILLicenceRows2$Title;II)I"⟩, 10) := ⟨⟨by decide +kernel, by decide +kernel⟩, List.mem_of_getElem? (i := 11) (by decide +kernel), List.mem_of_getElem? (i := 314) (by decide +kernel), List.mem_of_getElem? (i := 315) (by decide +kernel)⟩
theorem lw_p6 : lw_okq (⟨"LicenceRows2", "rulesAllow", "(ILLicenceRows2$Title;I)Z"⟩, 10) := ⟨⟨by decide +kernel, by decide +kernel⟩, List.mem_of_getElem? (i := 11) (by decide +kernel), List.mem_of_getElem? (i := 331) (by decide +kernel), List.mem_of_getElem? (i := 332) (by decide +kernel)⟩
theorem lw_p7 : lw_okq (⟨"LicenceRows2", "countGoingOn", "(II)I"⟩, 10) := ⟨⟨by decide +kernel, by decide +kernel⟩, List.mem_of_getElem? (i := 11) (by decide +kernel), List.mem_of_getElem? (i := 363) (by decide +kernel), List.mem_of_getElem? (i := 364) (by decide +kernel)⟩
theorem lw_p8 : lw_okq (⟨"LicenceRows2Model", "isPack", "(I)Z"⟩, 32) := ⟨⟨by decide +kernel, by decide +kernel⟩, List.mem_of_getElem? (i := 407) (by decide +kernel), List.mem_of_getElem? (i := 519) (by decide +kernel), List.mem_of_getElem? (i := 520) (by decide +kernel)⟩
theorem lw_p9 : lw_okq (⟨"LicenceRows2Model", "find", "(II)I"⟩, 32) := ⟨⟨by decide +kernel, by decide +kernel⟩, List.mem_of_getElem? (i := 407) (by decide +kernel), List.mem_of_getElem? (i := 526) (by decide +kernel), List.mem_of_getElem? (i := 527) (by decide +kernel)⟩
theorem lw_p10 : lw_okq (⟨"LicenceRows2Model", "isTitle", "(I)Z"⟩, 32) := ⟨⟨by decide +kernel, by decide +kernel⟩, List.mem_of_getElem? (i := 407) (by decide +kernel), List.mem_of_getElem? (i := 534) (by decide +kernel), List.mem_of_getElem? (i := 535) (by decide +kernel)⟩
theorem lw_p11 : lw_okq (⟨"LicenceRows2Model", "admit", "(I)I"⟩, 32) := ⟨⟨by decide +kernel, by decide +kernel⟩, List.mem_of_getElem? (i := 407) (by decide +kernel), List.mem_of_getElem? (i := 563) (by decide +kernel), List.mem_of_getElem? (i := 564) (by decide +kernel)⟩
theorem lw_p12 : lw_okq (⟨"LicenceRows2Model", "dropWaiter", "(II)V"⟩, 32) := ⟨⟨by decide +kernel, by decide +kernel⟩, List.mem_of_getElem? (i := 407) (by decide +kernel), List.mem_of_getElem? (i := 567) (by decide +kernel), List.mem_of_getElem? (i := 568) (by decide +kernel)⟩
theorem lw_p13 : lw_okq (⟨"LicenceRows2Model", "enter", "(II)V"⟩, 32) := ⟨⟨by decide +kernel, by decide +kernel⟩, List.mem_of_getElem? (i := 407) (by decide +kernel), List.mem_of_getElem? (i := 571) (by decide +kernel), List.mem_of_getElem? (i := 572) (by decide +kernel)⟩
theorem lw_p14 : lw_okq (⟨"LicenceRows2Model", "placeIn", "(II)I"⟩, 32) := ⟨⟨by decide +kernel, by decide +kernel⟩, List.mem_of_getElem? (i := 407) (by decide +kernel), List.mem_of_getElem? (i := 579) (by decide +kernel), List.mem_of_getElem? (i := 580) (by decide +kernel)⟩
theorem lw_p15 : lw_okq (⟨"LicenceRows2Model", "placeWaiting", "(II)I"⟩, 32) := ⟨⟨by decide +kernel, by decide +kernel⟩, List.mem_of_getElem? (i := 407) (by decide +kernel), List.mem_of_getElem? (i := 583) (by decide +kernel), List.mem_of_getElem? (i := 584) (by decide +kernel)⟩
def lw_privs_1 : List (MethodName × Nat) := [(⟨"LicenceRows2", "findPack", "(I)LLicenceRows2$Pack;"⟩, 10), (⟨"LicenceRows2", "findNamed", "(II)LLicenceRows2$Title;"⟩, 10), (⟨"LicenceRows2", "findTitle", "(I)LLicenceRows2$Title;"⟩, 10), (⟨"LicenceRows2", "findRule", "(I)LLicenceRows2$Rule;"⟩, 10), (⟨"LicenceRows2$Line", "placeOf", "(I)I"⟩, 2), (⟨"LicenceRows2", "judge", "(ILLicenceRows2$Title;II)I"⟩, 10), (⟨"LicenceRows2", "rulesAllow", "(ILLicenceRows2$Title;I)Z"⟩, 10), (⟨"LicenceRows2", "countGoingOn", "(II)I"⟩, 10), (⟨"LicenceRows2Model", "isPack", "(I)Z"⟩, 32), (⟨"LicenceRows2Model", "find", "(II)I"⟩, 32), (⟨"LicenceRows2Model", "isTitle", "(I)Z"⟩, 32), (⟨"LicenceRows2Model", "admit", "(I)I"⟩, 32), (⟨"LicenceRows2Model", "dropWaiter", "(II)V"⟩, 32), (⟨"LicenceRows2Model", "enter", "(II)V"⟩, 32), (⟨"LicenceRows2Model", "placeIn", "(II)I"⟩, 32), (⟨"LicenceRows2Model", "placeWaiting", "(II)I"⟩, 32)]
theorem lw_r1 : ∀ q ∈ lw_privs_1, lw_okq q := List.forall_mem_cons.mpr ⟨lw_p0, List.forall_mem_cons.mpr ⟨lw_p1, List.forall_mem_cons.mpr ⟨lw_p2, List.forall_mem_cons.mpr ⟨lw_p3, List.forall_mem_cons.mpr ⟨lw_p4, List.forall_mem_cons.mpr ⟨lw_p5, List.forall_mem_cons.mpr ⟨lw_p6, List.forall_mem_cons.mpr ⟨lw_p7, List.forall_mem_cons.mpr ⟨lw_p8, List.forall_mem_cons.mpr ⟨lw_p9, List.forall_mem_cons.mpr ⟨lw_p10, List.forall_mem_cons.mpr ⟨lw_p11, List.forall_mem_cons.mpr ⟨lw_p12, List.forall_mem_cons.mpr ⟨lw_p13, List.forall_mem_cons.mpr ⟨lw_p14, List.forall_mem_cons.mpr ⟨lw_p15, fun _ h => absurd h List.not_mem_nil⟩⟩⟩⟩⟩⟩⟩⟩⟩⟩⟩⟩⟩⟩⟩⟩
theorem lw_p16 : lw_okq (⟨"LicenceRows2Model", "covers", "(II)Z"⟩, 32) := ⟨⟨by decide +kernel, by decide +kernel⟩, List.mem_of_getElem? (i := 407) (by decide +kernel), List.mem_of_getElem? (i := 595) (by decide +kernel), List.mem_of_getElem? (i := 596) (by decide +kernel)⟩
theorem lw_p17 : lw_okq (⟨"LicenceRows2Model", "allows", "(III)Z"⟩, 32) := ⟨⟨by decide +kernel, by decide +kernel⟩, List.mem_of_getElem? (i := 407) (by decide +kernel), List.mem_of_getElem? (i := 599) (by decide +kernel), List.mem_of_getElem? (i := 600) (by decide +kernel)⟩
theorem lw_p18 : lw_okq (⟨"LicenceRows2Model", "tell", "(II)V"⟩, 32) := ⟨⟨by decide +kernel, by decide +kernel⟩, List.mem_of_getElem? (i := 407) (by decide +kernel), List.mem_of_getElem? (i := 603) (by decide +kernel), List.mem_of_getElem? (i := 604) (by decide +kernel)⟩
theorem lw_p19 : lw_okq (⟨"LicenceRows2Model", "fits", "(IIII)Z"⟩, 32) := ⟨⟨by decide +kernel, by decide +kernel⟩, List.mem_of_getElem? (i := 407) (by decide +kernel), List.mem_of_getElem? (i := 607) (by decide +kernel), List.mem_of_getElem? (i := 608) (by decide +kernel)⟩
theorem lw_p20 : lw_okq (⟨"LicenceRows2Model", "usagesOf", "(II)I"⟩, 32) := ⟨⟨by decide +kernel, by decide +kernel⟩, List.mem_of_getElem? (i := 407) (by decide +kernel), List.mem_of_getElem? (i := 611) (by decide +kernel), List.mem_of_getElem? (i := 612) (by decide +kernel)⟩
theorem lw_p21 : lw_okq (⟨"LicenceRows2Model", "bound", "(IZ)I"⟩, 32) := ⟨⟨by decide +kernel, by decide +kernel⟩, List.mem_of_getElem? (i := 407) (by decide +kernel), List.mem_of_getElem? (i := 627) (by decide +kernel), List.mem_of_getElem? (i := 628) (by decide +kernel)⟩
theorem lw_p22 : lw_okq (⟨"LicenceRows2Model", "nextSpan", "(II)I"⟩, 32) := ⟨⟨by decide +kernel, by decide +kernel⟩, List.mem_of_getElem? (i := 407) (by decide +kernel), List.mem_of_getElem? (i := 639) (by decide +kernel), List.mem_of_getElem? (i := 640) (by decide +kernel)⟩
def lw_privs_2 : List (MethodName × Nat) := [(⟨"LicenceRows2Model", "covers", "(II)Z"⟩, 32), (⟨"LicenceRows2Model", "allows", "(III)Z"⟩, 32), (⟨"LicenceRows2Model", "tell", "(II)V"⟩, 32), (⟨"LicenceRows2Model", "fits", "(IIII)Z"⟩, 32), (⟨"LicenceRows2Model", "usagesOf", "(II)I"⟩, 32), (⟨"LicenceRows2Model", "bound", "(IZ)I"⟩, 32), (⟨"LicenceRows2Model", "nextSpan", "(II)I"⟩, 32)]
theorem lw_r2 : ∀ q ∈ lw_privs_2, lw_okq q := List.forall_mem_cons.mpr ⟨lw_p16, List.forall_mem_cons.mpr ⟨lw_p17, List.forall_mem_cons.mpr ⟨lw_p18, List.forall_mem_cons.mpr ⟨lw_p19, List.forall_mem_cons.mpr ⟨lw_p20, List.forall_mem_cons.mpr ⟨lw_p21, List.forall_mem_cons.mpr ⟨lw_p22, fun _ h => absurd h List.not_mem_nil⟩⟩⟩⟩⟩⟩⟩
def lw_privs : List (MethodName × Nat) := lw_privs_1 ++ (lw_privs_2)
def lw_tbl : List Cond := k2_sels lw_privs ++ tables_1
theorem lw_privs_ok : ∀ q ∈ lw_privs, lw_okq q := by
  show ∀ q ∈ lw_privs_1 ++ (lw_privs_2), lw_okq q
  exact List.forall_mem_append.mpr ⟨lw_r1, lw_r2⟩
end
section
def R_X : String := "LicenceRows2"
def F_X : u_T := fun k => match k with
  | 0 => ("LicenceRows2", "packs", "[LLicenceRows2$Pack;", true)
  | 1 => ("LicenceRows2", "packCount", "I", false)
  | 2 => ("LicenceRows2", "titles", "[LLicenceRows2$Title;", true)
  | 3 => ("LicenceRows2", "titleCount", "I", false)
  | 4 => ("LicenceRows2", "rules", "[LLicenceRows2$Rule;", true)
  | 5 => ("LicenceRows2", "ruleCount", "I", false)
  | 6 => ("LicenceRows2", "classOf", "[I", true)
  | 7 => ("LicenceRows2", "usages", "LLicenceRows2$Usages;", true)
  | 8 => ("LicenceRows2", "notices", "LLicenceRows2$Notices;", true)
  | _ => ("LicenceRows2", "latestFailed", "I", false)
def t_X : Nat → FieldType := fun k => match k with
  | 0 => (.array (.object "LicenceRows2$Pack"))
  | 1 => .int
  | 2 => (.array (.object "LicenceRows2$Title"))
  | 3 => .int
  | 4 => (.array (.object "LicenceRows2$Rule"))
  | 5 => .int
  | 6 => (.array .int)
  | 7 => (.object "LicenceRows2$Usages")
  | 8 => (.object "LicenceRows2$Notices")
  | _ => .int
theorem n_X : ∀ a, a < 10 → ∀ b, b < 10 → a ≠ b → (F_X a).2.1 ≠ (F_X b).2.1 := by decide +kernel
theorem t_X_ok : ∀ k, k < 10 → parseFieldDescriptor (F_X k).2.2.1 = some (t_X k) := by decide +kernel
theorem z_X : ∀ j, j < 10 → defaultValue (t_X j) = vp_V [.null, .int 0, .null, .int 0, .null, .int 0, .null, .null, .null, .int 0] j := fun j hj => by
  match j, hj with
  | 0, _ => rfl
  | 1, _ => rfl
  | 2, _ => rfl
  | 3, _ => rfl
  | 4, _ => rfl
  | 5, _ => rfl
  | 6, _ => rfl
  | 7, _ => rfl
  | 8, _ => rfl
  | 9, _ => rfl
  | n + 10, hj => omega
def R_Mo : String := "LicenceRows2Model"
def F_Mo : u_T := fun k => match k with
  | 0 => ("LicenceRows2Model", "thrown", "I", false)
  | 1 => ("LicenceRows2Model", "packs", "I", false)
  | 2 => ("LicenceRows2Model", "keeps", "[Z", true)
  | 3 => ("LicenceRows2Model", "rooms", "[I", true)
  | 4 => ("LicenceRows2Model", "ends", "[I", true)
  | 5 => ("LicenceRows2Model", "inside", "[I", true)
  | 6 => ("LicenceRows2Model", "insider", "[I", true)
  | 7 => ("LicenceRows2Model", "waiting", "[I", true)
  | 8 => ("LicenceRows2Model", "waiter", "[I", true)
  | 9 => ("LicenceRows2Model", "titles", "I", false)
  | 10 => ("LicenceRows2Model", "packOf", "[I", true)
  | 11 => ("LicenceRows2Model", "name", "[I", true)
  | 12 => ("LicenceRows2Model", "off", "[Z", true)
  | 13 => ("LicenceRows2Model", "embargo", "[I", true)
  | 14 => ("LicenceRows2Model", "spans", "[I", true)
  | 15 => ("LicenceRows2Model", "from", "[I", true)
  | 16 => ("LicenceRows2Model", "to", "[I", true)
  | 17 => ("LicenceRows2Model", "rules", "I", false)
  | 18 => ("LicenceRows2Model", "rulePack", "[I", true)
  | 19 => ("LicenceRows2Model", "kind", "[I", true)
  | 20 => ("LicenceRows2Model", "does", "[I", true)
  | 21 => ("LicenceRows2Model", "value", "[I", true)
  | 22 => ("LicenceRows2Model", "bad", "[Z", true)
  | 23 => ("LicenceRows2Model", "failed", "I", false)
  | 24 => ("LicenceRows2Model", "classOf", "[I", true)
  | 25 => ("LicenceRows2Model", "usages", "I", false)
  | 26 => ("LicenceRows2Model", "usageReader", "[I", true)
  | 27 => ("LicenceRows2Model", "usageTitle", "[I", true)
  | 28 => ("LicenceRows2Model", "usageMonth", "[I", true)
  | 29 => ("LicenceRows2Model", "notes", "I", false)
  | 30 => ("LicenceRows2Model", "note", "[I", true)
  | _ => ("LicenceRows2Model", "noteOf", "[I", true)
def t_Mo : Nat → FieldType := fun k => match k with
  | 0 => .int
  | 1 => .int
  | 2 => (.array .boolean)
  | 3 => (.array .int)
  | 4 => (.array .int)
  | 5 => (.array .int)
  | 6 => (.array .int)
  | 7 => (.array .int)
  | 8 => (.array .int)
  | 9 => .int
  | 10 => (.array .int)
  | 11 => (.array .int)
  | 12 => (.array .boolean)
  | 13 => (.array .int)
  | 14 => (.array .int)
  | 15 => (.array .int)
  | 16 => (.array .int)
  | 17 => .int
  | 18 => (.array .int)
  | 19 => (.array .int)
  | 20 => (.array .int)
  | 21 => (.array .int)
  | 22 => (.array .boolean)
  | 23 => .int
  | 24 => (.array .int)
  | 25 => .int
  | 26 => (.array .int)
  | 27 => (.array .int)
  | 28 => (.array .int)
  | 29 => .int
  | 30 => (.array .int)
  | _ => (.array .int)
theorem n_Mo : ∀ a, a < 32 → ∀ b, b < 32 → a ≠ b → (F_Mo a).2.1 ≠ (F_Mo b).2.1 := by decide +kernel
theorem t_Mo_ok : ∀ k, k < 32 → parseFieldDescriptor (F_Mo k).2.2.1 = some (t_Mo k) := by decide +kernel
theorem z_Mo : ∀ j, j < 32 → defaultValue (t_Mo j) = vp_V [.int 0, .int 0, .null, .null, .null, .null, .null, .null, .null, .int 0, .null, .null, .null, .null, .null, .null, .null, .int 0, .null, .null, .null, .null, .null, .int 0, .null, .int 0, .null, .null, .null, .int 0, .null, .null] j := fun j hj => by
  match j, hj with
  | 0, _ => rfl
  | 1, _ => rfl
  | 2, _ => rfl
  | 3, _ => rfl
  | 4, _ => rfl
  | 5, _ => rfl
  | 6, _ => rfl
  | 7, _ => rfl
  | 8, _ => rfl
  | 9, _ => rfl
  | 10, _ => rfl
  | 11, _ => rfl
  | 12, _ => rfl
  | 13, _ => rfl
  | 14, _ => rfl
  | 15, _ => rfl
  | 16, _ => rfl
  | 17, _ => rfl
  | 18, _ => rfl
  | 19, _ => rfl
  | 20, _ => rfl
  | 21, _ => rfl
  | 22, _ => rfl
  | 23, _ => rfl
  | 24, _ => rfl
  | 25, _ => rfl
  | 26, _ => rfl
  | 27, _ => rfl
  | 28, _ => rfl
  | 29, _ => rfl
  | 30, _ => rfl
  | 31, _ => rfl
  | n + 32, hj => omega
def R_Line : String := "LicenceRows2$Line"
def F_Line : u_T := fun k => match k with
  | 0 => ("LicenceRows2$Line", "readers", "[I", true)
  | _ => ("LicenceRows2$Line", "size", "I", false)
def t_Line : Nat → FieldType := fun k => match k with
  | 0 => (.array .int)
  | _ => .int
theorem n_Line : ∀ a, a < 2 → ∀ b, b < 2 → a ≠ b → (F_Line a).2.1 ≠ (F_Line b).2.1 := by decide +kernel
theorem t_Line_ok : ∀ k, k < 2 → parseFieldDescriptor (F_Line k).2.2.1 = some (t_Line k) := by decide +kernel
theorem z_Line : ∀ j, j < 2 → defaultValue (t_Line j) = vp_V [.null, .int 0] j := fun j hj => by
  match j, hj with
  | 0, _ => rfl
  | 1, _ => rfl
  | n + 2, hj => omega
def R_Notices : String := "LicenceRows2$Notices"
def F_Notices : u_T := fun k => match k with
  | 0 => ("LicenceRows2$Notices", "sorts", "[I", true)
  | 1 => ("LicenceRows2$Notices", "numbers", "[I", true)
  | _ => ("LicenceRows2$Notices", "size", "I", false)
def t_Notices : Nat → FieldType := fun k => match k with
  | 0 => (.array .int)
  | 1 => (.array .int)
  | _ => .int
theorem n_Notices : ∀ a, a < 3 → ∀ b, b < 3 → a ≠ b → (F_Notices a).2.1 ≠ (F_Notices b).2.1 := by decide +kernel
theorem t_Notices_ok : ∀ k, k < 3 → parseFieldDescriptor (F_Notices k).2.2.1 = some (t_Notices k) := by decide +kernel
theorem z_Notices : ∀ j, j < 3 → defaultValue (t_Notices j) = vp_V [.null, .null, .int 0] j := fun j hj => by
  match j, hj with
  | 0, _ => rfl
  | 1, _ => rfl
  | 2, _ => rfl
  | n + 3, hj => omega
def R_Pack : String := "LicenceRows2$Pack"
def F_Pack : u_T := fun k => match k with
  | 0 => ("LicenceRows2$Pack", "number", "I", true)
  | 1 => ("LicenceRows2$Pack", "keeps", "Z", true)
  | 2 => ("LicenceRows2$Pack", "inside", "LLicenceRows2$Line;", true)
  | 3 => ("LicenceRows2$Pack", "waiting", "LLicenceRows2$Line;", true)
  | 4 => ("LicenceRows2$Pack", "places", "I", false)
  | _ => ("LicenceRows2$Pack", "endDay", "I", false)
def t_Pack : Nat → FieldType := fun k => match k with
  | 0 => .int
  | 1 => .boolean
  | 2 => (.object "LicenceRows2$Line")
  | 3 => (.object "LicenceRows2$Line")
  | 4 => .int
  | _ => .int
theorem n_Pack : ∀ a, a < 6 → ∀ b, b < 6 → a ≠ b → (F_Pack a).2.1 ≠ (F_Pack b).2.1 := by decide +kernel
theorem t_Pack_ok : ∀ k, k < 6 → parseFieldDescriptor (F_Pack k).2.2.1 = some (t_Pack k) := by decide +kernel
theorem z_Pack : ∀ j, j < 6 → defaultValue (t_Pack j) = vp_V [.int 0, .int 0, .null, .null, .int 0, .int 0] j := fun j hj => by
  match j, hj with
  | 0, _ => rfl
  | 1, _ => rfl
  | 2, _ => rfl
  | 3, _ => rfl
  | 4, _ => rfl
  | 5, _ => rfl
  | n + 6, hj => omega
def R_Rule : String := "LicenceRows2$Rule"
def F_Rule : u_T := fun k => match k with
  | 0 => ("LicenceRows2$Rule", "home", "I", true)
  | 1 => ("LicenceRows2$Rule", "kind", "I", true)
  | 2 => ("LicenceRows2$Rule", "does", "I", true)
  | 3 => ("LicenceRows2$Rule", "value", "I", true)
  | _ => ("LicenceRows2$Rule", "failing", "Z", false)
def t_Rule : Nat → FieldType := fun k => match k with
  | 0 => .int
  | 1 => .int
  | 2 => .int
  | 3 => .int
  | _ => .boolean
theorem n_Rule : ∀ a, a < 5 → ∀ b, b < 5 → a ≠ b → (F_Rule a).2.1 ≠ (F_Rule b).2.1 := by decide +kernel
theorem t_Rule_ok : ∀ k, k < 5 → parseFieldDescriptor (F_Rule k).2.2.1 = some (t_Rule k) := by decide +kernel
theorem z_Rule : ∀ j, j < 5 → defaultValue (t_Rule j) = vp_V [.int 0, .int 0, .int 0, .int 0, .int 0] j := fun j hj => by
  match j, hj with
  | 0, _ => rfl
  | 1, _ => rfl
  | 2, _ => rfl
  | 3, _ => rfl
  | 4, _ => rfl
  | n + 5, hj => omega
def R_Title : String := "LicenceRows2$Title"
def F_Title : u_T := fun k => match k with
  | 0 => ("LicenceRows2$Title", "home", "LLicenceRows2$Pack;", true)
  | 1 => ("LicenceRows2$Title", "name", "I", false)
  | 2 => ("LicenceRows2$Title", "active", "Z", false)
  | 3 => ("LicenceRows2$Title", "months", "I", false)
  | 4 => ("LicenceRows2$Title", "from", "[I", true)
  | 5 => ("LicenceRows2$Title", "to", "[I", true)
  | _ => ("LicenceRows2$Title", "spans", "I", false)
def t_Title : Nat → FieldType := fun k => match k with
  | 0 => (.object "LicenceRows2$Pack")
  | 1 => .int
  | 2 => .boolean
  | 3 => .int
  | 4 => (.array .int)
  | 5 => (.array .int)
  | _ => .int
theorem n_Title : ∀ a, a < 7 → ∀ b, b < 7 → a ≠ b → (F_Title a).2.1 ≠ (F_Title b).2.1 := by decide +kernel
theorem t_Title_ok : ∀ k, k < 7 → parseFieldDescriptor (F_Title k).2.2.1 = some (t_Title k) := by decide +kernel
theorem z_Title : ∀ j, j < 7 → defaultValue (t_Title j) = vp_V [.null, .int 0, .int 0, .int 0, .null, .null, .int 0] j := fun j hj => by
  match j, hj with
  | 0, _ => rfl
  | 1, _ => rfl
  | 2, _ => rfl
  | 3, _ => rfl
  | 4, _ => rfl
  | 5, _ => rfl
  | 6, _ => rfl
  | n + 7, hj => omega
def R_Usages : String := "LicenceRows2$Usages"
def F_Usages : u_T := fun k => match k with
  | 0 => ("LicenceRows2$Usages", "readers", "[I", true)
  | 1 => ("LicenceRows2$Usages", "titles", "[I", true)
  | 2 => ("LicenceRows2$Usages", "months", "[I", true)
  | _ => ("LicenceRows2$Usages", "size", "I", false)
def t_Usages : Nat → FieldType := fun k => match k with
  | 0 => (.array .int)
  | 1 => (.array .int)
  | 2 => (.array .int)
  | _ => .int
theorem n_Usages : ∀ a, a < 4 → ∀ b, b < 4 → a ≠ b → (F_Usages a).2.1 ≠ (F_Usages b).2.1 := by decide +kernel
theorem t_Usages_ok : ∀ k, k < 4 → parseFieldDescriptor (F_Usages k).2.2.1 = some (t_Usages k) := by decide +kernel
theorem z_Usages : ∀ j, j < 4 → defaultValue (t_Usages j) = vp_V [.null, .null, .null, .int 0] j := fun j hj => by
  match j, hj with
  | 0, _ => rfl
  | 1, _ => rfl
  | 2, _ => rfl
  | 3, _ => rfl
  | n + 4, hj => omega
def R_law : String := "LicenceRows2Law"
abbrev b_Usages_init : ByteArray := prog_7_method_1_code
def y_Usages_init : MethodName := ⟨R_Usages, "<init>", "()V"⟩
abbrev b_Notices_init : ByteArray := prog_3_method_1_code
def y_Notices_init : MethodName := ⟨R_Notices, "<init>", "()V"⟩
abbrev b_X_init : ByteArray := prog_1_method_1_code
def y_X_init : MethodName := ⟨R_X, "<init>", "()V"⟩
abbrev b_Line_init : ByteArray := prog_2_method_1_code
def y_Line_init : MethodName := ⟨R_Line, "<init>", "()V"⟩
abbrev b_Pack_init : ByteArray := prog_4_method_1_code
def y_Pack_init : MethodName := ⟨R_Pack, "<init>", "(IZ)V"⟩
abbrev b_X_pack : ByteArray := prog_1_method_2_code
def y_X_pack : MethodName := ⟨R_X, "pack", "(Z)I"⟩
abbrev b_X_findPack : ByteArray := prog_1_method_21_code
def y_X_findPack : MethodName := ⟨R_X, "findPack", "(I)LLicenceRows2$Pack;"⟩
abbrev b_X_findNamed : ByteArray := prog_1_method_24_code
def y_X_findNamed : MethodName := ⟨R_X, "findNamed", "(II)LLicenceRows2$Title;"⟩
abbrev b_Title_init : ByteArray := prog_6_method_1_code
def y_Title_init : MethodName := ⟨R_Title, "<init>", "(LLicenceRows2$Pack;I)V"⟩
abbrev b_X_title : ByteArray := prog_1_method_3_code
def y_X_title : MethodName := ⟨R_X, "title", "(II)I"⟩
abbrev b_X_findTitle : ByteArray := prog_1_method_22_code
def y_X_findTitle : MethodName := ⟨R_X, "findTitle", "(I)LLicenceRows2$Title;"⟩
abbrev b_X_isDay : ByteArray := prog_1_method_28_code
def y_X_isDay : MethodName := ⟨R_X, "isDay", "(I)Z"⟩
abbrev b_Title_meets : ByteArray := prog_6_method_3_code
def y_Title_meets : MethodName := ⟨R_Title, "meets", "(II)Z"⟩
abbrev b_Title_addSpan : ByteArray := prog_6_method_4_code
def y_Title_addSpan : MethodName := ⟨R_Title, "addSpan", "(II)V"⟩
abbrev b_X_cover : ByteArray := prog_1_method_4_code
def y_X_cover : MethodName := ⟨R_X, "cover", "(III)I"⟩
abbrev b_X_monthOf : ByteArray := prog_1_method_30_code
def y_X_monthOf : MethodName := ⟨R_X, "monthOf", "(I)I"⟩
abbrev b_Title_lastFreeMonth : ByteArray := prog_6_method_2_code
def y_Title_lastFreeMonth : MethodName := ⟨R_Title, "lastFreeMonth", "(I)I"⟩
abbrev b_X_embargo : ByteArray := prog_1_method_5_code
def y_X_embargo : MethodName := ⟨R_X, "embargo", "(III)I"⟩
abbrev b_X_isValueOf : ByteArray := prog_1_method_31_code
def y_X_isValueOf : MethodName := ⟨R_X, "isValueOf", "(II)Z"⟩
abbrev b_Rule_init : ByteArray := prog_5_method_1_code
def y_Rule_init : MethodName := ⟨R_Rule, "<init>", "(IIII)V"⟩
abbrev b_X_rule : ByteArray := prog_1_method_6_code
def y_X_rule : MethodName := ⟨R_X, "rule", "(IIII)I"⟩
abbrev b_X_findRule : ByteArray := prog_1_method_23_code
def y_X_findRule : MethodName := ⟨R_X, "findRule", "(I)LLicenceRows2$Rule;"⟩
abbrev b_X_fails : ByteArray := prog_1_method_7_code
def y_X_fails : MethodName := ⟨R_X, "fails", "(IZ)I"⟩
abbrev b_X_isReader : ByteArray := prog_1_method_29_code
def y_X_isReader : MethodName := ⟨R_X, "isReader", "(I)Z"⟩
abbrev b_X_reader : ByteArray := prog_1_method_8_code
def y_X_reader : MethodName := ⟨R_X, "reader", "(II)I"⟩
abbrev b_Pack_hasPlace : ByteArray := prog_4_method_2_code
def y_Pack_hasPlace : MethodName := ⟨R_Pack, "hasPlace", "()Z"⟩
abbrev b_Line_placeOf : ByteArray := prog_2_method_6_code
def y_Line_placeOf : MethodName := ⟨R_Line, "placeOf", "(I)I"⟩
abbrev b_Line_drop : ByteArray := prog_2_method_5_code
def y_Line_drop : MethodName := ⟨R_Line, "drop", "(I)Z"⟩
abbrev b_Line_append : ByteArray := prog_2_method_4_code
def y_Line_append : MethodName := ⟨R_Line, "append", "(I)V"⟩
abbrev b_Pack_admitNext : ByteArray := prog_4_method_3_code
def y_Pack_admitNext : MethodName := ⟨R_Pack, "admitNext", "()I"⟩
abbrev b_X_room : ByteArray := prog_1_method_9_code
def y_X_room : MethodName := ⟨R_X, "room", "(II)I"⟩
abbrev b_Line_holds : ByteArray := prog_2_method_3_code
def y_Line_holds : MethodName := ⟨R_Line, "holds", "(I)Z"⟩
abbrev b_X_in : ByteArray := prog_1_method_10_code
def y_X_in : MethodName := ⟨R_X, "in", "(II)I"⟩
abbrev b_X_out : ByteArray := prog_1_method_11_code
def y_X_out : MethodName := ⟨R_X, "out", "(II)I"⟩
abbrev b_Pack_hasEndedBy : ByteArray := prog_4_method_4_code
def y_Pack_hasEndedBy : MethodName := ⟨R_Pack, "hasEndedBy", "(I)Z"⟩
abbrev b_Pack_keepsDay : ByteArray := prog_4_method_5_code
def y_Pack_keepsDay : MethodName := ⟨R_Pack, "keepsDay", "(I)Z"⟩
abbrev b_Title_covers : ByteArray := prog_6_method_5_code
def y_Title_covers : MethodName := ⟨R_Title, "covers", "(I)Z"⟩
abbrev b_Usages_ofReaderIn : ByteArray := prog_7_method_3_code
def y_Usages_ofReaderIn : MethodName := ⟨R_Usages, "ofReaderIn", "(II)I"⟩
abbrev b_Notices_append : ByteArray := prog_3_method_2_code
def y_Notices_append : MethodName := ⟨R_Notices, "append", "(II)V"⟩
abbrev b_Rule_fits : ByteArray := prog_5_method_2_code
def y_Rule_fits : MethodName := ⟨R_Rule, "fits", "(IIII)Z"⟩
abbrev b_X_rulesAllow : ByteArray := prog_1_method_27_code
def y_X_rulesAllow : MethodName := ⟨R_X, "rulesAllow", "(ILLicenceRows2$Title;I)Z"⟩
abbrev b_X_judge : ByteArray := prog_1_method_26_code
def y_X_judge : MethodName := ⟨R_X, "judge", "(ILLicenceRows2$Title;II)I"⟩
abbrev b_Usages_append : ByteArray := prog_7_method_2_code
def y_Usages_append : MethodName := ⟨R_Usages, "append", "(III)V"⟩
abbrev b_X_access : ByteArray := prog_1_method_12_code
def y_X_access : MethodName := ⟨R_X, "access", "(IIII)I"⟩
abbrev b_X_failed : ByteArray := prog_1_method_13_code
def y_X_failed : MethodName := ⟨R_X, "failed", "()I"⟩
abbrev b_X_provider : ByteArray := prog_1_method_14_code
def y_X_provider : MethodName := ⟨R_X, "provider", "(III)I"⟩
abbrev b_Title_lastDay : ByteArray := prog_6_method_7_code
def y_Title_lastDay : MethodName := ⟨R_Title, "lastDay", "()I"⟩
abbrev b_X_countGoingOn : ByteArray := prog_1_method_25_code
def y_X_countGoingOn : MethodName := ⟨R_X, "countGoingOn", "(II)I"⟩
abbrev b_X_end : ByteArray := prog_1_method_15_code
def y_X_end : MethodName := ⟨R_X, "end", "(II)I"⟩
abbrev b_Usages_ofTitle : ByteArray := prog_7_method_5_code
def y_Usages_ofTitle : MethodName := ⟨R_Usages, "ofTitle", "(I)I"⟩
abbrev b_Title_firstDay : ByteArray := prog_6_method_6_code
def y_Title_firstDay : MethodName := ⟨R_Title, "firstDay", "()I"⟩
abbrev b_X_about : ByteArray := prog_1_method_16_code
def y_X_about : MethodName := ⟨R_X, "about", "(II)I"⟩
abbrev b_X_gap : ByteArray := prog_1_method_17_code
def y_X_gap : MethodName := ⟨R_X, "gap", "(III)I"⟩
abbrev b_Usages_ofTitleIn : ByteArray := prog_7_method_4_code
def y_Usages_ofTitleIn : MethodName := ⟨R_Usages, "ofTitleIn", "(II)I"⟩
abbrev b_X_usage : ByteArray := prog_1_method_18_code
def y_X_usage : MethodName := ⟨R_X, "usage", "(II)I"⟩
abbrev b_X_told : ByteArray := prog_1_method_19_code
def y_X_told : MethodName := ⟨R_X, "told", "(II)I"⟩
abbrev b_Line_at : ByteArray := prog_2_method_2_code
def y_Line_at : MethodName := ⟨R_Line, "at", "(I)I"⟩
abbrev b_X_who : ByteArray := prog_1_method_20_code
def y_X_who : MethodName := ⟨R_X, "who", "(II)I"⟩
abbrev b_Mo_init : ByteArray := prog_9_method_1_code
def y_Mo_init : MethodName := ⟨R_Mo, "<init>", "()V"⟩
abbrev b_Mo_in1 : ByteArray := prog_9_method_3_code
def y_Mo_in1 : MethodName := ⟨R_Mo, "in1", "(III)Z"⟩
abbrev b_Mo_isDay : ByteArray := prog_9_method_4_code
def y_Mo_isDay : MethodName := ⟨R_Mo, "isDay", "(I)Z"⟩
abbrev b_Mo_isPack : ByteArray := prog_9_method_5_code
def y_Mo_isPack : MethodName := ⟨R_Mo, "isPack", "(I)Z"⟩
abbrev b_Mo_isTitle : ByteArray := prog_9_method_6_code
def y_Mo_isTitle : MethodName := ⟨R_Mo, "isTitle", "(I)Z"⟩
abbrev b_Mo_tell : ByteArray := prog_9_method_7_code
def y_Mo_tell : MethodName := ⟨R_Mo, "tell", "(II)V"⟩
abbrev b_Mo_pack : ByteArray := prog_9_method_8_code
def y_Mo_pack : MethodName := ⟨R_Mo, "pack", "(Z)I"⟩
abbrev b_Mo_find : ByteArray := prog_9_method_9_code
def y_Mo_find : MethodName := ⟨R_Mo, "find", "(II)I"⟩
abbrev b_Mo_title : ByteArray := prog_9_method_10_code
def y_Mo_title : MethodName := ⟨R_Mo, "title", "(II)I"⟩
abbrev b_Mo_cover : ByteArray := prog_9_method_11_code
def y_Mo_cover : MethodName := ⟨R_Mo, "cover", "(III)I"⟩
abbrev b_Mo_embargo : ByteArray := prog_9_method_12_code
def y_Mo_embargo : MethodName := ⟨R_Mo, "embargo", "(III)I"⟩
abbrev b_Mo_rule : ByteArray := prog_9_method_13_code
def y_Mo_rule : MethodName := ⟨R_Mo, "rule", "(IIII)I"⟩
abbrev b_Mo_fails : ByteArray := prog_9_method_14_code
def y_Mo_fails : MethodName := ⟨R_Mo, "fails", "(IZ)I"⟩
abbrev b_Mo_reader : ByteArray := prog_9_method_15_code
def y_Mo_reader : MethodName := ⟨R_Mo, "reader", "(II)I"⟩
abbrev b_Mo_placeIn : ByteArray := prog_9_method_16_code
def y_Mo_placeIn : MethodName := ⟨R_Mo, "placeIn", "(II)I"⟩
abbrev b_Mo_placeWaiting : ByteArray := prog_9_method_17_code
def y_Mo_placeWaiting : MethodName := ⟨R_Mo, "placeWaiting", "(II)I"⟩
abbrev b_Mo_enter : ByteArray := prog_9_method_18_code
def y_Mo_enter : MethodName := ⟨R_Mo, "enter", "(II)V"⟩
abbrev b_Mo_dropWaiter : ByteArray := prog_9_method_20_code
def y_Mo_dropWaiter : MethodName := ⟨R_Mo, "dropWaiter", "(II)V"⟩
abbrev b_Mo_admit : ByteArray := prog_9_method_19_code
def y_Mo_admit : MethodName := ⟨R_Mo, "admit", "(I)I"⟩
abbrev b_Mo_room : ByteArray := prog_9_method_21_code
def y_Mo_room : MethodName := ⟨R_Mo, "room", "(II)I"⟩
abbrev b_Mo_in : ByteArray := prog_9_method_22_code
def y_Mo_in : MethodName := ⟨R_Mo, "in", "(II)I"⟩
abbrev b_Mo_out : ByteArray := prog_9_method_23_code
def y_Mo_out : MethodName := ⟨R_Mo, "out", "(II)I"⟩
abbrev b_Mo_covers : ByteArray := prog_9_method_24_code
def y_Mo_covers : MethodName := ⟨R_Mo, "covers", "(II)Z"⟩
abbrev b_Mo_usagesOf : ByteArray := prog_9_method_25_code
def y_Mo_usagesOf : MethodName := ⟨R_Mo, "usagesOf", "(II)I"⟩
abbrev b_Mo_fits : ByteArray := prog_9_method_26_code
def y_Mo_fits : MethodName := ⟨R_Mo, "fits", "(IIII)Z"⟩
abbrev b_Mo_allows : ByteArray := prog_9_method_27_code
def y_Mo_allows : MethodName := ⟨R_Mo, "allows", "(III)Z"⟩
abbrev b_Mo_access : ByteArray := prog_9_method_28_code
def y_Mo_access : MethodName := ⟨R_Mo, "access", "(IIII)I"⟩
abbrev b_Mo_failed : ByteArray := prog_9_method_29_code
def y_Mo_failed : MethodName := ⟨R_Mo, "failed", "()I"⟩
abbrev b_Mo_provider : ByteArray := prog_9_method_30_code
def y_Mo_provider : MethodName := ⟨R_Mo, "provider", "(III)I"⟩
abbrev b_Mo_bound : ByteArray := prog_9_method_32_code
def y_Mo_bound : MethodName := ⟨R_Mo, "bound", "(IZ)I"⟩
abbrev b_Mo_end : ByteArray := prog_9_method_31_code
def y_Mo_end : MethodName := ⟨R_Mo, "end", "(II)I"⟩
abbrev b_Mo_about : ByteArray := prog_9_method_33_code
def y_Mo_about : MethodName := ⟨R_Mo, "about", "(II)I"⟩
abbrev b_Mo_nextSpan : ByteArray := prog_9_method_34_code
def y_Mo_nextSpan : MethodName := ⟨R_Mo, "nextSpan", "(II)I"⟩
abbrev b_Mo_gap : ByteArray := prog_9_method_35_code
def y_Mo_gap : MethodName := ⟨R_Mo, "gap", "(III)I"⟩
abbrev b_Mo_usage : ByteArray := prog_9_method_36_code
def y_Mo_usage : MethodName := ⟨R_Mo, "usage", "(II)I"⟩
abbrev b_Mo_told : ByteArray := prog_9_method_37_code
def y_Mo_told : MethodName := ⟨R_Mo, "told", "(II)I"⟩
abbrev b_Mo_who : ByteArray := prog_9_method_38_code
def y_Mo_who : MethodName := ⟨R_Mo, "who", "(II)I"⟩
abbrev classes : List vw_C := [(R_X, F_X, 10), (R_Mo, F_Mo, 32), (R_Line, F_Line, 2), (R_Notices, F_Notices, 3), (R_Pack, F_Pack, 6), (R_Rule, F_Rule, 5), (R_Title, F_Title, 7), (R_Usages, F_Usages, 4)]
def mm_tys (dA : Nat → ClassId) : List (ClassId × FieldType) := [(dA 0, .int), (dA 1, .boolean), (dA 2, (.object "LicenceRows2$Pack")), (dA 3, (.object "LicenceRows2$Title")), (dA 4, (.object "LicenceRows2$Rule"))]
def mm_nestM : List (String × Nat × MethodName × String) := [(R_X, 43, y_Usages_init, R_X), (R_X, 50, y_Notices_init, R_X), (R_Pack, 11, y_Line_init, R_X), (R_Title, 36, y_X_monthOf, R_X)]
def mm_nestF : List (String × Nat × String × String × String × String) := []
def mm_over : List String := [R_Pack, R_Title, R_Rule]
theorem qn_X_43 : (R_X, 43, y_Usages_init, R_X) ∈ mm_nestM := List.mem_of_getElem? (i := 0) rfl
theorem qn_X_50 : (R_X, 50, y_Notices_init, R_X) ∈ mm_nestM := List.mem_of_getElem? (i := 1) rfl
theorem qn_Pack_11 : (R_Pack, 11, y_Line_init, R_X) ∈ mm_nestM := List.mem_of_getElem? (i := 2) rfl
theorem qn_Title_36 : (R_Title, 36, y_X_monthOf, R_X) ∈ mm_nestM := List.mem_of_getElem? (i := 3) rfl
def mm_G : List Cond := lw_tbl.filter goodWord
theorem mm_G_good : ∀ w ∈ mm_G, (w.onTables && w.keeps) = true ∨ ∃ ty, w = .arrayClass ty := fun w hw => good_of_word (List.mem_filter.mp hw).2
end
section
theorem mm_q {w : Cond} (i : Nat) (h : lw_tbl[i]? = some w) (hg : goodWord w = true) : w ∈ mm_G := List.mem_filter.mpr ⟨List.mem_of_getElem? h, hg⟩
set_option maxRecDepth 100000 in
theorem q_0 : Cond.methodLink R_Usages 3 objectInit ∈ mm_G := mm_q 52 rfl rfl
set_option maxRecDepth 100000 in
theorem q_1 : Cond.instanceMethod objectInit ∈ mm_G := mm_q 39 rfl rfl
set_option maxRecDepth 100000 in
theorem q_2 : Cond.code objectInit ⟨#[0xb1]⟩ 1 none ∈ mm_G := mm_q 40 rfl rfl
set_option maxRecDepth 100000 in
theorem q_3 : Cond.arrayClass .int ∈ mm_G := mm_q 66 rfl rfl
set_option maxRecDepth 100000 in
theorem q_4 : Cond.fieldLink R_Usages 9 R_Usages "readers" "[I" ∈ mm_G := mm_q 53 rfl rfl
set_option maxRecDepth 100000 in
theorem q_5 : Cond.fieldLink R_Usages 15 R_Usages "titles" "[I" ∈ mm_G := mm_q 54 rfl rfl
set_option maxRecDepth 100000 in
theorem q_6 : Cond.fieldLink R_Usages 18 R_Usages "months" "[I" ∈ mm_G := mm_q 55 rfl rfl
set_option maxRecDepth 100000 in
theorem q_7 : Cond.fieldLink R_Usages 21 R_Usages "size" "I" ∈ mm_G := mm_q 56 rfl rfl
set_option maxRecDepth 100000 in
theorem q_8 : Cond.methodLink R_Notices 3 objectInit ∈ mm_G := mm_q 72 rfl rfl
set_option maxRecDepth 100000 in
theorem q_9 : Cond.fieldLink R_Notices 9 R_Notices "sorts" "[I" ∈ mm_G := mm_q 73 rfl rfl
set_option maxRecDepth 100000 in
theorem q_10 : Cond.fieldLink R_Notices 15 R_Notices "numbers" "[I" ∈ mm_G := mm_q 75 rfl rfl
set_option maxRecDepth 100000 in
theorem q_11 : Cond.fieldLink R_Notices 18 R_Notices "size" "I" ∈ mm_G := mm_q 77 rfl rfl
set_option maxRecDepth 100000 in
theorem q_12 : Cond.methodLink R_X 3 objectInit ∈ mm_G := mm_q 38 rfl rfl
set_option maxRecDepth 100000 in
theorem q_13 : Cond.classLink R_X 9 R_Pack ∈ mm_G := mm_q 41 rfl rfl
set_option maxRecDepth 100000 in
theorem q_14 : Cond.fieldLink R_X 11 R_X "packs" "[LLicenceRows2$Pack;" ∈ mm_G := mm_q 86 rfl rfl
set_option maxRecDepth 100000 in
theorem q_15 : Cond.fieldLink R_X 15 R_X "packCount" "I" ∈ mm_G := mm_q 87 rfl rfl
set_option maxRecDepth 100000 in
theorem q_16 : Cond.classLink R_X 19 R_Title ∈ mm_G := mm_q 43 rfl rfl
set_option maxRecDepth 100000 in
theorem q_17 : Cond.fieldLink R_X 21 R_X "titles" "[LLicenceRows2$Title;" ∈ mm_G := mm_q 88 rfl rfl
set_option maxRecDepth 100000 in
theorem q_18 : Cond.fieldLink R_X 25 R_X "titleCount" "I" ∈ mm_G := mm_q 89 rfl rfl
set_option maxRecDepth 100000 in
theorem q_19 : Cond.classLink R_X 28 R_Rule ∈ mm_G := mm_q 45 rfl rfl
set_option maxRecDepth 100000 in
theorem q_20 : Cond.fieldLink R_X 30 R_X "rules" "[LLicenceRows2$Rule;" ∈ mm_G := mm_q 90 rfl rfl
set_option maxRecDepth 100000 in
theorem q_21 : Cond.fieldLink R_X 34 R_X "ruleCount" "I" ∈ mm_G := mm_q 91 rfl rfl
set_option maxRecDepth 100000 in
theorem q_22 : Cond.fieldLink R_X 37 R_X "classOf" "[I" ∈ mm_G := mm_q 92 rfl rfl
set_option maxRecDepth 100000 in
theorem q_23 : Cond.classLink R_X 41 R_Usages ∈ mm_G := mm_q 47 rfl rfl
set_option maxRecDepth 100000 in
theorem q_24 : Cond.instantiable R_Usages 4 ∈ mm_G := mm_q 48 rfl rfl
set_option maxRecDepth 100000 in
theorem q_25 : Cond.initialized R_Usages ∈ mm_G := mm_q 25 rfl rfl
set_option maxRecDepth 100000 in
theorem q_26 : Cond.code y_Usages_init b_Usages_init 1 none ∈ mm_G := mm_q 51 rfl rfl
set_option maxRecDepth 100000 in
theorem q_27 : Cond.instanceMethod y_Usages_init ∈ mm_G := mm_q 50 rfl rfl
set_option maxRecDepth 100000 in
theorem q_28 : Cond.fieldLink R_X 44 R_X "usages" "LLicenceRows2$Usages;" ∈ mm_G := mm_q 93 rfl rfl
set_option maxRecDepth 100000 in
theorem q_29 : Cond.classLink R_X 48 R_Notices ∈ mm_G := mm_q 67 rfl rfl
set_option maxRecDepth 100000 in
theorem q_30 : Cond.instantiable R_Notices 3 ∈ mm_G := mm_q 68 rfl rfl
set_option maxRecDepth 100000 in
theorem q_31 : Cond.initialized R_Notices ∈ mm_G := mm_q 26 rfl rfl
set_option maxRecDepth 100000 in
theorem q_32 : Cond.code y_Notices_init b_Notices_init 1 none ∈ mm_G := mm_q 71 rfl rfl
set_option maxRecDepth 100000 in
theorem q_33 : Cond.instanceMethod y_Notices_init ∈ mm_G := mm_q 70 rfl rfl
set_option maxRecDepth 100000 in
theorem q_34 : Cond.fieldLink R_X 51 R_X "notices" "LLicenceRows2$Notices;" ∈ mm_G := mm_q 94 rfl rfl
set_option maxRecDepth 100000 in
theorem q_35 : Cond.fieldLink R_X 55 R_X "latestFailed" "I" ∈ mm_G := mm_q 95 rfl rfl
set_option maxRecDepth 100000 in
theorem q_36 : Cond.methodLink R_Line 3 objectInit ∈ mm_G := mm_q 131 rfl rfl
set_option maxRecDepth 100000 in
theorem q_37 : Cond.fieldLink R_Line 9 R_Line "readers" "[I" ∈ mm_G := mm_q 132 rfl rfl
set_option maxRecDepth 100000 in
theorem q_38 : Cond.fieldLink R_Line 15 R_Line "size" "I" ∈ mm_G := mm_q 134 rfl rfl
set_option maxRecDepth 100000 in
theorem q_39 : Cond.methodLink R_Pack 3 objectInit ∈ mm_G := mm_q 125 rfl rfl
set_option maxRecDepth 100000 in
theorem q_40 : Cond.classLink R_Pack 9 R_Line ∈ mm_G := mm_q 126 rfl rfl
set_option maxRecDepth 100000 in
theorem q_41 : Cond.instantiable R_Line 2 ∈ mm_G := mm_q 127 rfl rfl
set_option maxRecDepth 100000 in
theorem q_42 : Cond.initialized R_Line ∈ mm_G := mm_q 29 rfl rfl
set_option maxRecDepth 100000 in
theorem q_43 : Cond.code y_Line_init b_Line_init 1 none ∈ mm_G := mm_q 130 rfl rfl
set_option maxRecDepth 100000 in
theorem q_44 : Cond.instanceMethod y_Line_init ∈ mm_G := mm_q 129 rfl rfl
set_option maxRecDepth 100000 in
theorem q_45 : Cond.fieldLink R_Pack 12 R_Pack "inside" "LLicenceRows2$Line;" ∈ mm_G := mm_q 145 rfl rfl
set_option maxRecDepth 100000 in
theorem q_46 : Cond.fieldLink R_Pack 18 R_Pack "waiting" "LLicenceRows2$Line;" ∈ mm_G := mm_q 147 rfl rfl
set_option maxRecDepth 100000 in
theorem q_47 : Cond.fieldLink R_Pack 21 R_Pack "places" "I" ∈ mm_G := mm_q 149 rfl rfl
set_option maxRecDepth 100000 in
theorem q_48 : Cond.fieldLink R_Pack 25 R_Pack "endDay" "I" ∈ mm_G := mm_q 151 rfl rfl
set_option maxRecDepth 100000 in
theorem q_49 : Cond.fieldLink R_Pack 28 R_Pack "number" "I" ∈ mm_G := mm_q 142 rfl rfl
set_option maxRecDepth 100000 in
theorem q_50 : Cond.fieldLink R_Pack 31 R_Pack "keeps" "Z" ∈ mm_G := mm_q 144 rfl rfl
set_option maxRecDepth 100000 in
theorem q_51 : Cond.instantiable R_Pack 6 ∈ mm_G := mm_q 121 rfl rfl
set_option maxRecDepth 100000 in
theorem q_52 : Cond.initialized R_Pack ∈ mm_G := mm_q 28 rfl rfl
set_option maxRecDepth 100000 in
theorem q_53 : Cond.code y_Pack_init b_Pack_init 3 none ∈ mm_G := mm_q 124 rfl rfl
set_option maxRecDepth 100000 in
theorem q_54 : Cond.methodLink R_X 58 y_Pack_init ∈ mm_G := mm_q 122 rfl rfl
set_option maxRecDepth 100000 in
theorem q_55 : Cond.instanceMethod y_Pack_init ∈ mm_G := mm_q 123 rfl rfl
set_option maxRecDepth 100000 in
theorem q_56 : Cond.fieldLink R_X 175 R_Title "home" "LLicenceRows2$Pack;" ∈ mm_G := mm_q 184 rfl rfl
set_option maxRecDepth 100000 in
theorem q_57 : Cond.fieldLink R_X 179 R_Pack "number" "I" ∈ mm_G := mm_q 143 rfl rfl
set_option maxRecDepth 100000 in
theorem q_58 : Cond.fieldLink R_X 166 R_Title "name" "I" ∈ mm_G := mm_q 186 rfl rfl
set_option maxRecDepth 100000 in
theorem q_59 : Cond.methodLink R_Title 3 objectInit ∈ mm_G := mm_q 182 rfl rfl
set_option maxRecDepth 100000 in
theorem q_60 : Cond.fieldLink R_Title 9 R_Title "active" "Z" ∈ mm_G := mm_q 187 rfl rfl
set_option maxRecDepth 100000 in
theorem q_61 : Cond.fieldLink R_Title 15 R_Title "months" "I" ∈ mm_G := mm_q 189 rfl rfl
set_option maxRecDepth 100000 in
theorem q_62 : Cond.fieldLink R_Title 19 R_Title "from" "[I" ∈ mm_G := mm_q 191 rfl rfl
set_option maxRecDepth 100000 in
theorem q_63 : Cond.fieldLink R_Title 23 R_Title "to" "[I" ∈ mm_G := mm_q 193 rfl rfl
set_option maxRecDepth 100000 in
theorem q_64 : Cond.fieldLink R_Title 26 R_Title "spans" "I" ∈ mm_G := mm_q 195 rfl rfl
set_option maxRecDepth 100000 in
theorem q_65 : Cond.fieldLink R_Title 29 R_Title "home" "LLicenceRows2$Pack;" ∈ mm_G := mm_q 183 rfl rfl
set_option maxRecDepth 100000 in
theorem q_66 : Cond.fieldLink R_Title 33 R_Title "name" "I" ∈ mm_G := mm_q 185 rfl rfl
set_option maxRecDepth 100000 in
theorem q_67 : Cond.code y_X_findPack b_X_findPack 2 (some (.object "LicenceRows2$Pack")) ∈ mm_G := mm_q 173 rfl rfl
set_option maxRecDepth 100000 in
theorem q_68 : Cond.methodLink R_X 61 y_X_findPack ∈ mm_G := mm_q 170 rfl rfl
set_option maxRecDepth 100000 in
theorem q_69 : Cond.instanceMethod y_X_findPack ∈ mm_G := mm_q 172 rfl rfl
set_option maxRecDepth 100000 in
theorem q_70 : Cond.selects R_X y_X_findPack y_X_findPack ∈ mm_G := mm_q 0 rfl rfl
set_option maxRecDepth 100000 in
theorem q_71 : Cond.initialized R_X ∈ mm_G := mm_q 24 rfl rfl
set_option maxRecDepth 100000 in
theorem q_72 : Cond.code y_X_findNamed b_X_findNamed 5 (some (.object "LicenceRows2$Title")) ∈ mm_G := mm_q 177 rfl rfl
set_option maxRecDepth 100000 in
theorem q_73 : Cond.methodLink R_X 65 y_X_findNamed ∈ mm_G := mm_q 174 rfl rfl
set_option maxRecDepth 100000 in
theorem q_74 : Cond.instanceMethod y_X_findNamed ∈ mm_G := mm_q 176 rfl rfl
set_option maxRecDepth 100000 in
theorem q_75 : Cond.selects R_X y_X_findNamed y_X_findNamed ∈ mm_G := mm_q 1 rfl rfl
set_option maxRecDepth 100000 in
theorem q_76 : Cond.instantiable R_Title 7 ∈ mm_G := mm_q 178 rfl rfl
set_option maxRecDepth 100000 in
theorem q_77 : Cond.initialized R_Title ∈ mm_G := mm_q 30 rfl rfl
set_option maxRecDepth 100000 in
theorem q_78 : Cond.code y_Title_init b_Title_init 3 none ∈ mm_G := mm_q 181 rfl rfl
set_option maxRecDepth 100000 in
theorem q_79 : Cond.methodLink R_X 69 y_Title_init ∈ mm_G := mm_q 179 rfl rfl
set_option maxRecDepth 100000 in
theorem q_80 : Cond.instanceMethod y_Title_init ∈ mm_G := mm_q 180 rfl rfl
set_option maxRecDepth 100000 in
theorem q_81 : Cond.constant R_X 238 200000 ∈ mm_G := mm_q 223 rfl rfl
set_option maxRecDepth 100000 in
theorem q_82 : Cond.code y_X_findTitle b_X_findTitle 2 (some (.object "LicenceRows2$Title")) ∈ mm_G := mm_q 219 rfl rfl
set_option maxRecDepth 100000 in
theorem q_83 : Cond.methodLink R_X 72 y_X_findTitle ∈ mm_G := mm_q 216 rfl rfl
set_option maxRecDepth 100000 in
theorem q_84 : Cond.instanceMethod y_X_findTitle ∈ mm_G := mm_q 218 rfl rfl
set_option maxRecDepth 100000 in
theorem q_85 : Cond.selects R_X y_X_findTitle y_X_findTitle ∈ mm_G := mm_q 2 rfl rfl
set_option maxRecDepth 100000 in
theorem q_86 : Cond.code y_X_isDay b_X_isDay 1 (some .boolean) ∈ mm_G := mm_q 222 rfl rfl
set_option maxRecDepth 100000 in
theorem q_87 : Cond.methodLink R_X 76 y_X_isDay ∈ mm_G := mm_q 220 rfl rfl
set_option maxRecDepth 100000 in
theorem q_88 : Cond.static y_X_isDay ∈ mm_G := mm_q 221 rfl rfl
set_option maxRecDepth 100000 in
theorem q_89 : Cond.code y_Title_meets b_Title_meets 4 (some .boolean) ∈ mm_G := mm_q 227 rfl rfl
set_option maxRecDepth 100000 in
theorem q_90 : Cond.methodLink R_X 80 y_Title_meets ∈ mm_G := mm_q 224 rfl rfl
set_option maxRecDepth 100000 in
theorem q_91 : Cond.instanceMethod y_Title_meets ∈ mm_G := mm_q 225 rfl rfl
set_option maxRecDepth 100000 in
theorem q_92 : Cond.selects R_Title y_Title_meets y_Title_meets ∈ mm_G := mm_q 226 rfl rfl
set_option maxRecDepth 100000 in
theorem q_93 : Cond.fieldLink R_X 84 R_Title "spans" "I" ∈ mm_G := mm_q 196 rfl rfl
set_option maxRecDepth 100000 in
theorem q_94 : Cond.code y_Title_addSpan b_Title_addSpan 4 none ∈ mm_G := mm_q 231 rfl rfl
set_option maxRecDepth 100000 in
theorem q_95 : Cond.methodLink R_X 87 y_Title_addSpan ∈ mm_G := mm_q 228 rfl rfl
set_option maxRecDepth 100000 in
theorem q_96 : Cond.instanceMethod y_Title_addSpan ∈ mm_G := mm_q 229 rfl rfl
set_option maxRecDepth 100000 in
theorem q_97 : Cond.selects R_Title y_Title_addSpan y_Title_addSpan ∈ mm_G := mm_q 230 rfl rfl
set_option maxRecDepth 100000 in
theorem q_98 : Cond.code y_X_monthOf b_X_monthOf 1 (some .int) ∈ mm_G := mm_q 242 rfl rfl
set_option maxRecDepth 100000 in
theorem q_99 : Cond.static y_X_monthOf ∈ mm_G := mm_q 241 rfl rfl
set_option maxRecDepth 100000 in
theorem q_100 : Cond.fieldLink R_X 91 R_Title "months" "I" ∈ mm_G := mm_q 190 rfl rfl
set_option maxRecDepth 100000 in
theorem q_101 : Cond.code y_Title_lastFreeMonth b_Title_lastFreeMonth 2 (some .int) ∈ mm_G := mm_q 239 rfl rfl
set_option maxRecDepth 100000 in
theorem q_102 : Cond.methodLink R_X 94 y_Title_lastFreeMonth ∈ mm_G := mm_q 236 rfl rfl
set_option maxRecDepth 100000 in
theorem q_103 : Cond.instanceMethod y_Title_lastFreeMonth ∈ mm_G := mm_q 237 rfl rfl
set_option maxRecDepth 100000 in
theorem q_104 : Cond.selects R_Title y_Title_lastFreeMonth y_Title_lastFreeMonth ∈ mm_G := mm_q 238 rfl rfl
set_option maxRecDepth 100000 in
theorem q_105 : Cond.methodLink R_X 98 Lib.Math.max.name ∈ mm_G := mm_q 243 rfl rfl
set_option maxRecDepth 100000 in
theorem q_106 : Cond.static Lib.Math.max.name ∈ mm_G := mm_q 244 rfl rfl
set_option maxRecDepth 100000 in
theorem q_107 : Cond.initialized "java/lang/Math" ∈ mm_G := mm_q 31 rfl rfl
set_option maxRecDepth 100000 in
theorem q_108 : Cond.code Lib.Math.max.name Lib.Math.max.code 2 (some .int) ∈ mm_G := mm_q 245 rfl rfl
set_option maxRecDepth 100000 in
theorem q_109 : Cond.constant R_X 239 1000000 ∈ mm_G := mm_q 253 rfl rfl
set_option maxRecDepth 100000 in
theorem q_110 : Cond.methodLink R_Rule 3 objectInit ∈ mm_G := mm_q 258 rfl rfl
set_option maxRecDepth 100000 in
theorem q_111 : Cond.fieldLink R_Rule 9 R_Rule "failing" "Z" ∈ mm_G := mm_q 265 rfl rfl
set_option maxRecDepth 100000 in
theorem q_112 : Cond.fieldLink R_Rule 15 R_Rule "home" "I" ∈ mm_G := mm_q 259 rfl rfl
set_option maxRecDepth 100000 in
theorem q_113 : Cond.fieldLink R_Rule 19 R_Rule "kind" "I" ∈ mm_G := mm_q 261 rfl rfl
set_option maxRecDepth 100000 in
theorem q_114 : Cond.fieldLink R_Rule 22 R_Rule "does" "I" ∈ mm_G := mm_q 262 rfl rfl
set_option maxRecDepth 100000 in
theorem q_115 : Cond.fieldLink R_Rule 25 R_Rule "value" "I" ∈ mm_G := mm_q 264 rfl rfl
set_option maxRecDepth 100000 in
theorem q_116 : Cond.code y_X_isValueOf b_X_isValueOf 2 (some .boolean) ∈ mm_G := mm_q 252 rfl rfl
set_option maxRecDepth 100000 in
theorem q_117 : Cond.methodLink R_X 104 y_X_isValueOf ∈ mm_G := mm_q 250 rfl rfl
set_option maxRecDepth 100000 in
theorem q_118 : Cond.static y_X_isValueOf ∈ mm_G := mm_q 251 rfl rfl
set_option maxRecDepth 100000 in
theorem q_119 : Cond.instantiable R_Rule 5 ∈ mm_G := mm_q 254 rfl rfl
set_option maxRecDepth 100000 in
theorem q_120 : Cond.initialized R_Rule ∈ mm_G := mm_q 32 rfl rfl
set_option maxRecDepth 100000 in
theorem q_121 : Cond.code y_Rule_init b_Rule_init 5 none ∈ mm_G := mm_q 257 rfl rfl
set_option maxRecDepth 100000 in
theorem q_122 : Cond.methodLink R_X 107 y_Rule_init ∈ mm_G := mm_q 255 rfl rfl
set_option maxRecDepth 100000 in
theorem q_123 : Cond.instanceMethod y_Rule_init ∈ mm_G := mm_q 256 rfl rfl
set_option maxRecDepth 100000 in
theorem q_124 : Cond.code y_X_findRule b_X_findRule 2 (some (.object "LicenceRows2$Rule")) ∈ mm_G := mm_q 285 rfl rfl
set_option maxRecDepth 100000 in
theorem q_125 : Cond.methodLink R_X 110 y_X_findRule ∈ mm_G := mm_q 282 rfl rfl
set_option maxRecDepth 100000 in
theorem q_126 : Cond.instanceMethod y_X_findRule ∈ mm_G := mm_q 284 rfl rfl
set_option maxRecDepth 100000 in
theorem q_127 : Cond.selects R_X y_X_findRule y_X_findRule ∈ mm_G := mm_q 3 rfl rfl
set_option maxRecDepth 100000 in
theorem q_128 : Cond.fieldLink R_X 114 R_Rule "failing" "Z" ∈ mm_G := mm_q 266 rfl rfl
set_option maxRecDepth 100000 in
theorem q_129 : Cond.code y_X_isReader b_X_isReader 1 (some .boolean) ∈ mm_G := mm_q 292 rfl rfl
set_option maxRecDepth 100000 in
theorem q_130 : Cond.methodLink R_X 118 y_X_isReader ∈ mm_G := mm_q 290 rfl rfl
set_option maxRecDepth 100000 in
theorem q_131 : Cond.static y_X_isReader ∈ mm_G := mm_q 291 rfl rfl
set_option maxRecDepth 100000 in
theorem q_132 : Cond.fieldLink R_Pack 35 R_Line "size" "I" ∈ mm_G := mm_q 135 rfl rfl
set_option maxRecDepth 100000 in
theorem q_133 : Cond.code y_Line_placeOf b_Line_placeOf 3 (some .int) ∈ mm_G := mm_q 312 rfl rfl
set_option maxRecDepth 100000 in
theorem q_134 : Cond.methodLink R_Line 19 y_Line_placeOf ∈ mm_G := mm_q 309 rfl rfl
set_option maxRecDepth 100000 in
theorem q_135 : Cond.instanceMethod y_Line_placeOf ∈ mm_G := mm_q 311 rfl rfl
set_option maxRecDepth 100000 in
theorem q_136 : Cond.selects R_Line y_Line_placeOf y_Line_placeOf ∈ mm_G := mm_q 4 rfl rfl
set_option maxRecDepth 100000 in
theorem q_137 : Cond.code y_Pack_hasPlace b_Pack_hasPlace 1 (some .boolean) ∈ mm_G := mm_q 304 rfl rfl
set_option maxRecDepth 100000 in
theorem q_138 : Cond.methodLink R_Pack 38 y_Pack_hasPlace ∈ mm_G := mm_q 301 rfl rfl
set_option maxRecDepth 100000 in
theorem q_139 : Cond.instanceMethod y_Pack_hasPlace ∈ mm_G := mm_q 302 rfl rfl
set_option maxRecDepth 100000 in
theorem q_140 : Cond.selects R_Pack y_Pack_hasPlace y_Pack_hasPlace ∈ mm_G := mm_q 303 rfl rfl
set_option maxRecDepth 100000 in
theorem q_141 : Cond.fieldLink R_Pack 42 R_Line "readers" "[I" ∈ mm_G := mm_q 133 rfl rfl
set_option maxRecDepth 100000 in
theorem q_142 : Cond.code y_Line_drop b_Line_drop 4 (some .boolean) ∈ mm_G := mm_q 308 rfl rfl
set_option maxRecDepth 100000 in
theorem q_143 : Cond.methodLink R_Pack 46 y_Line_drop ∈ mm_G := mm_q 305 rfl rfl
set_option maxRecDepth 100000 in
theorem q_144 : Cond.instanceMethod y_Line_drop ∈ mm_G := mm_q 306 rfl rfl
set_option maxRecDepth 100000 in
theorem q_145 : Cond.selects R_Line y_Line_drop y_Line_drop ∈ mm_G := mm_q 307 rfl rfl
set_option maxRecDepth 100000 in
theorem q_146 : Cond.code y_Line_append b_Line_append 2 none ∈ mm_G := mm_q 316 rfl rfl
set_option maxRecDepth 100000 in
theorem q_147 : Cond.methodLink R_Pack 50 y_Line_append ∈ mm_G := mm_q 313 rfl rfl
set_option maxRecDepth 100000 in
theorem q_148 : Cond.instanceMethod y_Line_append ∈ mm_G := mm_q 314 rfl rfl
set_option maxRecDepth 100000 in
theorem q_149 : Cond.selects R_Line y_Line_append y_Line_append ∈ mm_G := mm_q 315 rfl rfl
set_option maxRecDepth 100000 in
theorem q_150 : Cond.code y_Pack_admitNext b_Pack_admitNext 2 (some .int) ∈ mm_G := mm_q 300 rfl rfl
set_option maxRecDepth 100000 in
theorem q_151 : Cond.methodLink R_X 124 y_Pack_admitNext ∈ mm_G := mm_q 297 rfl rfl
set_option maxRecDepth 100000 in
theorem q_152 : Cond.instanceMethod y_Pack_admitNext ∈ mm_G := mm_q 298 rfl rfl
set_option maxRecDepth 100000 in
theorem q_153 : Cond.selects R_Pack y_Pack_admitNext y_Pack_admitNext ∈ mm_G := mm_q 299 rfl rfl
set_option maxRecDepth 100000 in
theorem q_154 : Cond.fieldLink R_X 121 R_Pack "places" "I" ∈ mm_G := mm_q 150 rfl rfl
set_option maxRecDepth 100000 in
theorem q_155 : Cond.fieldLink R_X 128 R_Pack "inside" "LLicenceRows2$Line;" ∈ mm_G := mm_q 146 rfl rfl
set_option maxRecDepth 100000 in
theorem q_156 : Cond.code y_Line_holds b_Line_holds 2 (some .boolean) ∈ mm_G := mm_q 324 rfl rfl
set_option maxRecDepth 100000 in
theorem q_157 : Cond.methodLink R_X 132 y_Line_holds ∈ mm_G := mm_q 321 rfl rfl
set_option maxRecDepth 100000 in
theorem q_158 : Cond.instanceMethod y_Line_holds ∈ mm_G := mm_q 322 rfl rfl
set_option maxRecDepth 100000 in
theorem q_159 : Cond.selects R_Line y_Line_holds y_Line_holds ∈ mm_G := mm_q 323 rfl rfl
set_option maxRecDepth 100000 in
theorem q_160 : Cond.fieldLink R_X 137 R_Pack "waiting" "LLicenceRows2$Line;" ∈ mm_G := mm_q 148 rfl rfl
set_option maxRecDepth 100000 in
theorem q_161 : Cond.methodLink R_X 140 y_Pack_hasPlace ∈ mm_G := mm_q 325 rfl rfl
set_option maxRecDepth 100000 in
theorem q_162 : Cond.methodLink R_X 144 y_Line_append ∈ mm_G := mm_q 326 rfl rfl
set_option maxRecDepth 100000 in
theorem q_163 : Cond.methodLink R_X 148 y_Line_drop ∈ mm_G := mm_q 331 rfl rfl
set_option maxRecDepth 100000 in
theorem q_164 : Cond.fieldLink R_X 229 R_Rule "home" "I" ∈ mm_G := mm_q 260 rfl rfl
set_option maxRecDepth 100000 in
theorem q_165 : Cond.code y_Rule_fits b_Rule_fits 5 (some .boolean) ∈ mm_G := mm_q 368 rfl rfl
set_option maxRecDepth 100000 in
theorem q_166 : Cond.methodLink R_X 231 y_Rule_fits ∈ mm_G := mm_q 365 rfl rfl
set_option maxRecDepth 100000 in
theorem q_167 : Cond.instanceMethod y_Rule_fits ∈ mm_G := mm_q 366 rfl rfl
set_option maxRecDepth 100000 in
theorem q_168 : Cond.selects R_Rule y_Rule_fits y_Rule_fits ∈ mm_G := mm_q 367 rfl rfl
set_option maxRecDepth 100000 in
theorem q_169 : Cond.fieldLink R_X 235 R_Rule "does" "I" ∈ mm_G := mm_q 263 rfl rfl
set_option maxRecDepth 100000 in
theorem q_170 : Cond.code y_Notices_append b_Notices_append 3 none ∈ mm_G := mm_q 364 rfl rfl
set_option maxRecDepth 100000 in
theorem q_171 : Cond.methodLink R_X 161 y_Notices_append ∈ mm_G := mm_q 361 rfl rfl
set_option maxRecDepth 100000 in
theorem q_172 : Cond.instanceMethod y_Notices_append ∈ mm_G := mm_q 362 rfl rfl
set_option maxRecDepth 100000 in
theorem q_173 : Cond.selects R_Notices y_Notices_append y_Notices_append ∈ mm_G := mm_q 363 rfl rfl
set_option maxRecDepth 100000 in
theorem q_174 : Cond.methodLink R_X 155 y_X_monthOf ∈ mm_G := mm_q 352 rfl rfl
set_option maxRecDepth 100000 in
theorem q_175 : Cond.code y_Usages_ofReaderIn b_Usages_ofReaderIn 5 (some .int) ∈ mm_G := mm_q 360 rfl rfl
set_option maxRecDepth 100000 in
theorem q_176 : Cond.methodLink R_X 226 y_Usages_ofReaderIn ∈ mm_G := mm_q 357 rfl rfl
set_option maxRecDepth 100000 in
theorem q_177 : Cond.instanceMethod y_Usages_ofReaderIn ∈ mm_G := mm_q 358 rfl rfl
set_option maxRecDepth 100000 in
theorem q_178 : Cond.selects R_Usages y_Usages_ofReaderIn y_Usages_ofReaderIn ∈ mm_G := mm_q 359 rfl rfl
set_option maxRecDepth 100000 in
theorem q_179 : Cond.code y_Title_covers b_Title_covers 3 (some .boolean) ∈ mm_G := mm_q 351 rfl rfl
set_option maxRecDepth 100000 in
theorem q_180 : Cond.methodLink R_X 219 y_Title_covers ∈ mm_G := mm_q 348 rfl rfl
set_option maxRecDepth 100000 in
theorem q_181 : Cond.instanceMethod y_Title_covers ∈ mm_G := mm_q 349 rfl rfl
set_option maxRecDepth 100000 in
theorem q_182 : Cond.selects R_Title y_Title_covers y_Title_covers ∈ mm_G := mm_q 350 rfl rfl
set_option maxRecDepth 100000 in
theorem q_183 : Cond.code y_X_rulesAllow b_X_rulesAllow 7 (some .boolean) ∈ mm_G := mm_q 356 rfl rfl
set_option maxRecDepth 100000 in
theorem q_184 : Cond.methodLink R_X 222 y_X_rulesAllow ∈ mm_G := mm_q 353 rfl rfl
set_option maxRecDepth 100000 in
theorem q_185 : Cond.instanceMethod y_X_rulesAllow ∈ mm_G := mm_q 355 rfl rfl
set_option maxRecDepth 100000 in
theorem q_186 : Cond.selects R_X y_X_rulesAllow y_X_rulesAllow ∈ mm_G := mm_q 6 rfl rfl
set_option maxRecDepth 100000 in
theorem q_187 : Cond.fieldLink R_X 163 R_Title "active" "Z" ∈ mm_G := mm_q 188 rfl rfl
set_option maxRecDepth 100000 in
theorem q_188 : Cond.code y_Pack_hasEndedBy b_Pack_hasEndedBy 2 (some .boolean) ∈ mm_G := mm_q 343 rfl rfl
set_option maxRecDepth 100000 in
theorem q_189 : Cond.methodLink R_X 213 y_Pack_hasEndedBy ∈ mm_G := mm_q 340 rfl rfl
set_option maxRecDepth 100000 in
theorem q_190 : Cond.instanceMethod y_Pack_hasEndedBy ∈ mm_G := mm_q 341 rfl rfl
set_option maxRecDepth 100000 in
theorem q_191 : Cond.selects R_Pack y_Pack_hasEndedBy y_Pack_hasEndedBy ∈ mm_G := mm_q 342 rfl rfl
set_option maxRecDepth 100000 in
theorem q_192 : Cond.code y_Pack_keepsDay b_Pack_keepsDay 2 (some .boolean) ∈ mm_G := mm_q 347 rfl rfl
set_option maxRecDepth 100000 in
theorem q_193 : Cond.methodLink R_X 216 y_Pack_keepsDay ∈ mm_G := mm_q 344 rfl rfl
set_option maxRecDepth 100000 in
theorem q_194 : Cond.instanceMethod y_Pack_keepsDay ∈ mm_G := mm_q 345 rfl rfl
set_option maxRecDepth 100000 in
theorem q_195 : Cond.selects R_Pack y_Pack_keepsDay y_Pack_keepsDay ∈ mm_G := mm_q 346 rfl rfl
set_option maxRecDepth 100000 in
theorem q_196 : Cond.code y_X_judge b_X_judge 5 (some .int) ∈ mm_G := mm_q 339 rfl rfl
set_option maxRecDepth 100000 in
theorem q_197 : Cond.methodLink R_X 151 y_X_judge ∈ mm_G := mm_q 336 rfl rfl
set_option maxRecDepth 100000 in
theorem q_198 : Cond.instanceMethod y_X_judge ∈ mm_G := mm_q 338 rfl rfl
set_option maxRecDepth 100000 in
theorem q_199 : Cond.selects R_X y_X_judge y_X_judge ∈ mm_G := mm_q 5 rfl rfl
set_option maxRecDepth 100000 in
theorem q_200 : Cond.code y_Usages_append b_Usages_append 4 none ∈ mm_G := mm_q 372 rfl rfl
set_option maxRecDepth 100000 in
theorem q_201 : Cond.methodLink R_X 158 y_Usages_append ∈ mm_G := mm_q 369 rfl rfl
set_option maxRecDepth 100000 in
theorem q_202 : Cond.instanceMethod y_Usages_append ∈ mm_G := mm_q 370 rfl rfl
set_option maxRecDepth 100000 in
theorem q_203 : Cond.selects R_Usages y_Usages_append y_Usages_append ∈ mm_G := mm_q 371 rfl rfl
set_option maxRecDepth 100000 in
theorem q_204 : Cond.code y_Title_lastDay b_Title_lastDay 1 (some .int) ∈ mm_G := mm_q 392 rfl rfl
set_option maxRecDepth 100000 in
theorem q_205 : Cond.methodLink R_X 188 y_Title_lastDay ∈ mm_G := mm_q 389 rfl rfl
set_option maxRecDepth 100000 in
theorem q_206 : Cond.instanceMethod y_Title_lastDay ∈ mm_G := mm_q 390 rfl rfl
set_option maxRecDepth 100000 in
theorem q_207 : Cond.selects R_Title y_Title_lastDay y_Title_lastDay ∈ mm_G := mm_q 391 rfl rfl
set_option maxRecDepth 100000 in
theorem q_208 : Cond.fieldLink R_X 169 R_Pack "endDay" "I" ∈ mm_G := mm_q 152 rfl rfl
set_option maxRecDepth 100000 in
theorem q_209 : Cond.code y_X_countGoingOn b_X_countGoingOn 6 (some .int) ∈ mm_G := mm_q 388 rfl rfl
set_option maxRecDepth 100000 in
theorem q_210 : Cond.methodLink R_X 172 y_X_countGoingOn ∈ mm_G := mm_q 385 rfl rfl
set_option maxRecDepth 100000 in
theorem q_211 : Cond.instanceMethod y_X_countGoingOn ∈ mm_G := mm_q 387 rfl rfl
set_option maxRecDepth 100000 in
theorem q_212 : Cond.selects R_X y_X_countGoingOn y_X_countGoingOn ∈ mm_G := mm_q 7 rfl rfl
set_option maxRecDepth 100000 in
theorem q_213 : Cond.code y_Usages_ofTitle b_Usages_ofTitle 4 (some .int) ∈ mm_G := mm_q 400 rfl rfl
set_option maxRecDepth 100000 in
theorem q_214 : Cond.methodLink R_X 182 y_Usages_ofTitle ∈ mm_G := mm_q 397 rfl rfl
set_option maxRecDepth 100000 in
theorem q_215 : Cond.instanceMethod y_Usages_ofTitle ∈ mm_G := mm_q 398 rfl rfl
set_option maxRecDepth 100000 in
theorem q_216 : Cond.selects R_Usages y_Usages_ofTitle y_Usages_ofTitle ∈ mm_G := mm_q 399 rfl rfl
set_option maxRecDepth 100000 in
theorem q_217 : Cond.code y_Title_firstDay b_Title_firstDay 1 (some .int) ∈ mm_G := mm_q 404 rfl rfl
set_option maxRecDepth 100000 in
theorem q_218 : Cond.methodLink R_X 185 y_Title_firstDay ∈ mm_G := mm_q 401 rfl rfl
set_option maxRecDepth 100000 in
theorem q_219 : Cond.instanceMethod y_Title_firstDay ∈ mm_G := mm_q 402 rfl rfl
set_option maxRecDepth 100000 in
theorem q_220 : Cond.selects R_Title y_Title_firstDay y_Title_firstDay ∈ mm_G := mm_q 403 rfl rfl
set_option maxRecDepth 100000 in
theorem q_221 : Cond.fieldLink R_X 194 R_Title "from" "[I" ∈ mm_G := mm_q 192 rfl rfl
set_option maxRecDepth 100000 in
theorem q_222 : Cond.fieldLink R_X 191 R_Title "to" "[I" ∈ mm_G := mm_q 194 rfl rfl
set_option maxRecDepth 100000 in
theorem q_223 : Cond.code y_Usages_ofTitleIn b_Usages_ofTitleIn 5 (some .int) ∈ mm_G := mm_q 416 rfl rfl
set_option maxRecDepth 100000 in
theorem q_224 : Cond.methodLink R_X 197 y_Usages_ofTitleIn ∈ mm_G := mm_q 413 rfl rfl
set_option maxRecDepth 100000 in
theorem q_225 : Cond.instanceMethod y_Usages_ofTitleIn ∈ mm_G := mm_q 414 rfl rfl
set_option maxRecDepth 100000 in
theorem q_226 : Cond.selects R_Usages y_Usages_ofTitleIn y_Usages_ofTitleIn ∈ mm_G := mm_q 415 rfl rfl
set_option maxRecDepth 100000 in
theorem q_227 : Cond.fieldLink R_X 200 R_Notices "size" "I" ∈ mm_G := mm_q 78 rfl rfl
set_option maxRecDepth 100000 in
theorem q_228 : Cond.fieldLink R_X 206 R_Notices "numbers" "[I" ∈ mm_G := mm_q 76 rfl rfl
set_option maxRecDepth 100000 in
theorem q_229 : Cond.fieldLink R_X 203 R_Notices "sorts" "[I" ∈ mm_G := mm_q 74 rfl rfl
set_option maxRecDepth 100000 in
theorem q_230 : Cond.code y_Line_at b_Line_at 2 (some .int) ∈ mm_G := mm_q 428 rfl rfl
set_option maxRecDepth 100000 in
theorem q_231 : Cond.methodLink R_X 210 y_Line_at ∈ mm_G := mm_q 425 rfl rfl
set_option maxRecDepth 100000 in
theorem q_232 : Cond.instanceMethod y_Line_at ∈ mm_G := mm_q 426 rfl rfl
set_option maxRecDepth 100000 in
theorem q_233 : Cond.selects R_Line y_Line_at y_Line_at ∈ mm_G := mm_q 427 rfl rfl
set_option maxRecDepth 100000 in
theorem q_234 : Cond.fieldLink R_X 209 R_Line "size" "I" ∈ mm_G := mm_q 136 rfl rfl
set_option maxRecDepth 100000 in
theorem q_235 : Cond.methodLink R_Mo 1 objectInit ∈ mm_G := mm_q 434 rfl rfl
set_option maxRecDepth 100000 in
theorem q_236 : Cond.arrayClass .boolean ∈ mm_G := mm_q 532 rfl rfl
set_option maxRecDepth 100000 in
theorem q_237 : Cond.fieldLink R_Mo 7 R_Mo "keeps" "[Z" ∈ mm_G := mm_q 437 rfl rfl
set_option maxRecDepth 100000 in
theorem q_238 : Cond.fieldLink R_Mo 13 R_Mo "rooms" "[I" ∈ mm_G := mm_q 438 rfl rfl
set_option maxRecDepth 100000 in
theorem q_239 : Cond.fieldLink R_Mo 17 R_Mo "ends" "[I" ∈ mm_G := mm_q 439 rfl rfl
set_option maxRecDepth 100000 in
theorem q_240 : Cond.fieldLink R_Mo 20 R_Mo "inside" "[I" ∈ mm_G := mm_q 440 rfl rfl
set_option maxRecDepth 100000 in
theorem q_241 : Cond.fieldLink R_Mo 23 R_Mo "insider" "[I" ∈ mm_G := mm_q 441 rfl rfl
set_option maxRecDepth 100000 in
theorem q_242 : Cond.fieldLink R_Mo 26 R_Mo "waiting" "[I" ∈ mm_G := mm_q 442 rfl rfl
set_option maxRecDepth 100000 in
theorem q_243 : Cond.fieldLink R_Mo 29 R_Mo "waiter" "[I" ∈ mm_G := mm_q 443 rfl rfl
set_option maxRecDepth 100000 in
theorem q_244 : Cond.fieldLink R_Mo 32 R_Mo "packOf" "[I" ∈ mm_G := mm_q 445 rfl rfl
set_option maxRecDepth 100000 in
theorem q_245 : Cond.fieldLink R_Mo 35 R_Mo "name" "[I" ∈ mm_G := mm_q 446 rfl rfl
set_option maxRecDepth 100000 in
theorem q_246 : Cond.fieldLink R_Mo 38 R_Mo "off" "[Z" ∈ mm_G := mm_q 447 rfl rfl
set_option maxRecDepth 100000 in
theorem q_247 : Cond.fieldLink R_Mo 41 R_Mo "embargo" "[I" ∈ mm_G := mm_q 448 rfl rfl
set_option maxRecDepth 100000 in
theorem q_248 : Cond.fieldLink R_Mo 44 R_Mo "spans" "[I" ∈ mm_G := mm_q 449 rfl rfl
set_option maxRecDepth 100000 in
theorem q_249 : Cond.fieldLink R_Mo 47 R_Mo "from" "[I" ∈ mm_G := mm_q 450 rfl rfl
set_option maxRecDepth 100000 in
theorem q_250 : Cond.fieldLink R_Mo 50 R_Mo "to" "[I" ∈ mm_G := mm_q 451 rfl rfl
set_option maxRecDepth 100000 in
theorem q_251 : Cond.fieldLink R_Mo 53 R_Mo "rulePack" "[I" ∈ mm_G := mm_q 453 rfl rfl
set_option maxRecDepth 100000 in
theorem q_252 : Cond.fieldLink R_Mo 56 R_Mo "kind" "[I" ∈ mm_G := mm_q 454 rfl rfl
set_option maxRecDepth 100000 in
theorem q_253 : Cond.fieldLink R_Mo 59 R_Mo "does" "[I" ∈ mm_G := mm_q 455 rfl rfl
set_option maxRecDepth 100000 in
theorem q_254 : Cond.fieldLink R_Mo 62 R_Mo "value" "[I" ∈ mm_G := mm_q 456 rfl rfl
set_option maxRecDepth 100000 in
theorem q_255 : Cond.fieldLink R_Mo 65 R_Mo "bad" "[Z" ∈ mm_G := mm_q 457 rfl rfl
set_option maxRecDepth 100000 in
theorem q_256 : Cond.fieldLink R_Mo 68 R_Mo "failed" "I" ∈ mm_G := mm_q 458 rfl rfl
set_option maxRecDepth 100000 in
theorem q_257 : Cond.fieldLink R_Mo 72 R_Mo "classOf" "[I" ∈ mm_G := mm_q 459 rfl rfl
set_option maxRecDepth 100000 in
theorem q_258 : Cond.fieldLink R_Mo 75 R_Mo "usageReader" "[I" ∈ mm_G := mm_q 461 rfl rfl
set_option maxRecDepth 100000 in
theorem q_259 : Cond.fieldLink R_Mo 78 R_Mo "usageTitle" "[I" ∈ mm_G := mm_q 462 rfl rfl
set_option maxRecDepth 100000 in
theorem q_260 : Cond.fieldLink R_Mo 81 R_Mo "usageMonth" "[I" ∈ mm_G := mm_q 463 rfl rfl
set_option maxRecDepth 100000 in
theorem q_261 : Cond.fieldLink R_Mo 84 R_Mo "note" "[I" ∈ mm_G := mm_q 465 rfl rfl
set_option maxRecDepth 100000 in
theorem q_262 : Cond.fieldLink R_Mo 87 R_Mo "noteOf" "[I" ∈ mm_G := mm_q 466 rfl rfl
set_option maxRecDepth 100000 in
theorem q_263 : Cond.constant R_Mo 93 200000 ∈ mm_G := mm_q 563 rfl rfl
set_option maxRecDepth 100000 in
theorem q_264 : Cond.code y_Mo_in1 b_Mo_in1 3 (some .boolean) ∈ mm_G := mm_q 547 rfl rfl
set_option maxRecDepth 100000 in
theorem q_265 : Cond.methodLink R_Mo 94 y_Mo_in1 ∈ mm_G := mm_q 545 rfl rfl
set_option maxRecDepth 100000 in
theorem q_266 : Cond.static y_Mo_in1 ∈ mm_G := mm_q 546 rfl rfl
set_option maxRecDepth 100000 in
theorem q_267 : Cond.initialized R_Mo ∈ mm_G := mm_q 27 rfl rfl
set_option maxRecDepth 100000 in
theorem q_268 : Cond.fieldLink R_Mo 98 R_Mo "packs" "I" ∈ mm_G := mm_q 436 rfl rfl
set_option maxRecDepth 100000 in
theorem q_269 : Cond.fieldLink R_Mo 101 R_Mo "titles" "I" ∈ mm_G := mm_q 444 rfl rfl
set_option maxRecDepth 100000 in
theorem q_270 : Cond.fieldLink R_Mo 104 R_Mo "notes" "I" ∈ mm_G := mm_q 464 rfl rfl
set_option maxRecDepth 100000 in
theorem q_271 : Cond.fieldLink R_Mo 90 R_Mo "thrown" "I" ∈ mm_G := mm_q 435 rfl rfl
set_option maxRecDepth 100000 in
theorem q_272 : Cond.code y_Mo_isPack b_Mo_isPack 2 (some .boolean) ∈ mm_G := mm_q 544 rfl rfl
set_option maxRecDepth 100000 in
theorem q_273 : Cond.methodLink R_Mo 107 y_Mo_isPack ∈ mm_G := mm_q 541 rfl rfl
set_option maxRecDepth 100000 in
theorem q_274 : Cond.instanceMethod y_Mo_isPack ∈ mm_G := mm_q 543 rfl rfl
set_option maxRecDepth 100000 in
theorem q_275 : Cond.selects R_Mo y_Mo_isPack y_Mo_isPack ∈ mm_G := mm_q 8 rfl rfl
set_option maxRecDepth 100000 in
theorem q_276 : Cond.code y_Mo_find b_Mo_find 4 (some .int) ∈ mm_G := mm_q 551 rfl rfl
set_option maxRecDepth 100000 in
theorem q_277 : Cond.methodLink R_Mo 111 y_Mo_find ∈ mm_G := mm_q 548 rfl rfl
set_option maxRecDepth 100000 in
theorem q_278 : Cond.instanceMethod y_Mo_find ∈ mm_G := mm_q 550 rfl rfl
set_option maxRecDepth 100000 in
theorem q_279 : Cond.selects R_Mo y_Mo_find y_Mo_find ∈ mm_G := mm_q 9 rfl rfl
set_option maxRecDepth 100000 in
theorem q_280 : Cond.code y_Mo_isTitle b_Mo_isTitle 2 (some .boolean) ∈ mm_G := mm_q 559 rfl rfl
set_option maxRecDepth 100000 in
theorem q_281 : Cond.methodLink R_Mo 115 y_Mo_isTitle ∈ mm_G := mm_q 556 rfl rfl
set_option maxRecDepth 100000 in
theorem q_282 : Cond.instanceMethod y_Mo_isTitle ∈ mm_G := mm_q 558 rfl rfl
set_option maxRecDepth 100000 in
theorem q_283 : Cond.selects R_Mo y_Mo_isTitle y_Mo_isTitle ∈ mm_G := mm_q 10 rfl rfl
set_option maxRecDepth 100000 in
theorem q_284 : Cond.code y_Mo_isDay b_Mo_isDay 1 (some .boolean) ∈ mm_G := mm_q 562 rfl rfl
set_option maxRecDepth 100000 in
theorem q_285 : Cond.methodLink R_Mo 118 y_Mo_isDay ∈ mm_G := mm_q 560 rfl rfl
set_option maxRecDepth 100000 in
theorem q_286 : Cond.static y_Mo_isDay ∈ mm_G := mm_q 561 rfl rfl
set_option maxRecDepth 100000 in
theorem q_287 : Cond.fieldLink R_Mo 122 R_Mo "rules" "I" ∈ mm_G := mm_q 452 rfl rfl
set_option maxRecDepth 100000 in
theorem q_288 : Cond.constant R_Mo 121 1000000 ∈ mm_G := mm_q 572 rfl rfl
set_option maxRecDepth 100000 in
theorem q_289 : Cond.code y_Mo_dropWaiter b_Mo_dropWaiter 4 none ∈ mm_G := mm_q 592 rfl rfl
set_option maxRecDepth 100000 in
theorem q_290 : Cond.methodLink R_Mo 125 y_Mo_dropWaiter ∈ mm_G := mm_q 589 rfl rfl
set_option maxRecDepth 100000 in
theorem q_291 : Cond.instanceMethod y_Mo_dropWaiter ∈ mm_G := mm_q 591 rfl rfl
set_option maxRecDepth 100000 in
theorem q_292 : Cond.selects R_Mo y_Mo_dropWaiter y_Mo_dropWaiter ∈ mm_G := mm_q 12 rfl rfl
set_option maxRecDepth 100000 in
theorem q_293 : Cond.code y_Mo_enter b_Mo_enter 3 none ∈ mm_G := mm_q 596 rfl rfl
set_option maxRecDepth 100000 in
theorem q_294 : Cond.methodLink R_Mo 129 y_Mo_enter ∈ mm_G := mm_q 593 rfl rfl
set_option maxRecDepth 100000 in
theorem q_295 : Cond.instanceMethod y_Mo_enter ∈ mm_G := mm_q 595 rfl rfl
set_option maxRecDepth 100000 in
theorem q_296 : Cond.selects R_Mo y_Mo_enter y_Mo_enter ∈ mm_G := mm_q 13 rfl rfl
set_option maxRecDepth 100000 in
theorem q_297 : Cond.code y_Mo_admit b_Mo_admit 3 (some .int) ∈ mm_G := mm_q 588 rfl rfl
set_option maxRecDepth 100000 in
theorem q_298 : Cond.methodLink R_Mo 132 y_Mo_admit ∈ mm_G := mm_q 585 rfl rfl
set_option maxRecDepth 100000 in
theorem q_299 : Cond.instanceMethod y_Mo_admit ∈ mm_G := mm_q 587 rfl rfl
set_option maxRecDepth 100000 in
theorem q_300 : Cond.selects R_Mo y_Mo_admit y_Mo_admit ∈ mm_G := mm_q 11 rfl rfl
set_option maxRecDepth 100000 in
theorem q_301 : Cond.code y_Mo_placeIn b_Mo_placeIn 4 (some .int) ∈ mm_G := mm_q 604 rfl rfl
set_option maxRecDepth 100000 in
theorem q_302 : Cond.methodLink R_Mo 136 y_Mo_placeIn ∈ mm_G := mm_q 601 rfl rfl
set_option maxRecDepth 100000 in
theorem q_303 : Cond.instanceMethod y_Mo_placeIn ∈ mm_G := mm_q 603 rfl rfl
set_option maxRecDepth 100000 in
theorem q_304 : Cond.selects R_Mo y_Mo_placeIn y_Mo_placeIn ∈ mm_G := mm_q 14 rfl rfl
set_option maxRecDepth 100000 in
theorem q_305 : Cond.code y_Mo_placeWaiting b_Mo_placeWaiting 4 (some .int) ∈ mm_G := mm_q 608 rfl rfl
set_option maxRecDepth 100000 in
theorem q_306 : Cond.methodLink R_Mo 139 y_Mo_placeWaiting ∈ mm_G := mm_q 605 rfl rfl
set_option maxRecDepth 100000 in
theorem q_307 : Cond.instanceMethod y_Mo_placeWaiting ∈ mm_G := mm_q 607 rfl rfl
set_option maxRecDepth 100000 in
theorem q_308 : Cond.selects R_Mo y_Mo_placeWaiting y_Mo_placeWaiting ∈ mm_G := mm_q 15 rfl rfl
set_option maxRecDepth 100000 in
theorem q_309 : Cond.fieldLink R_Mo 142 R_Mo "usages" "I" ∈ mm_G := mm_q 460 rfl rfl
set_option maxRecDepth 100000 in
theorem q_310 : Cond.code y_Mo_usagesOf b_Mo_usagesOf 5 (some .int) ∈ mm_G := mm_q 636 rfl rfl
set_option maxRecDepth 100000 in
theorem q_311 : Cond.methodLink R_Mo 145 y_Mo_usagesOf ∈ mm_G := mm_q 633 rfl rfl
set_option maxRecDepth 100000 in
theorem q_312 : Cond.instanceMethod y_Mo_usagesOf ∈ mm_G := mm_q 635 rfl rfl
set_option maxRecDepth 100000 in
theorem q_313 : Cond.selects R_Mo y_Mo_usagesOf y_Mo_usagesOf ∈ mm_G := mm_q 20 rfl rfl
set_option maxRecDepth 100000 in
theorem q_314 : Cond.code y_Mo_fits b_Mo_fits 5 (some .boolean) ∈ mm_G := mm_q 632 rfl rfl
set_option maxRecDepth 100000 in
theorem q_315 : Cond.methodLink R_Mo 151 y_Mo_fits ∈ mm_G := mm_q 629 rfl rfl
set_option maxRecDepth 100000 in
theorem q_316 : Cond.instanceMethod y_Mo_fits ∈ mm_G := mm_q 631 rfl rfl
set_option maxRecDepth 100000 in
theorem q_317 : Cond.selects R_Mo y_Mo_fits y_Mo_fits ∈ mm_G := mm_q 19 rfl rfl
set_option maxRecDepth 100000 in
theorem q_318 : Cond.code y_Mo_tell b_Mo_tell 3 none ∈ mm_G := mm_q 628 rfl rfl
set_option maxRecDepth 100000 in
theorem q_319 : Cond.methodLink R_Mo 148 y_Mo_tell ∈ mm_G := mm_q 625 rfl rfl
set_option maxRecDepth 100000 in
theorem q_320 : Cond.instanceMethod y_Mo_tell ∈ mm_G := mm_q 627 rfl rfl
set_option maxRecDepth 100000 in
theorem q_321 : Cond.selects R_Mo y_Mo_tell y_Mo_tell ∈ mm_G := mm_q 18 rfl rfl
set_option maxRecDepth 100000 in
theorem q_322 : Cond.code y_Mo_covers b_Mo_covers 5 (some .boolean) ∈ mm_G := mm_q 620 rfl rfl
set_option maxRecDepth 100000 in
theorem q_323 : Cond.methodLink R_Mo 155 y_Mo_covers ∈ mm_G := mm_q 617 rfl rfl
set_option maxRecDepth 100000 in
theorem q_324 : Cond.instanceMethod y_Mo_covers ∈ mm_G := mm_q 619 rfl rfl
set_option maxRecDepth 100000 in
theorem q_325 : Cond.selects R_Mo y_Mo_covers y_Mo_covers ∈ mm_G := mm_q 16 rfl rfl
set_option maxRecDepth 100000 in
theorem q_326 : Cond.code y_Mo_allows b_Mo_allows 5 (some .boolean) ∈ mm_G := mm_q 624 rfl rfl
set_option maxRecDepth 100000 in
theorem q_327 : Cond.methodLink R_Mo 159 y_Mo_allows ∈ mm_G := mm_q 621 rfl rfl
set_option maxRecDepth 100000 in
theorem q_328 : Cond.instanceMethod y_Mo_allows ∈ mm_G := mm_q 623 rfl rfl
set_option maxRecDepth 100000 in
theorem q_329 : Cond.selects R_Mo y_Mo_allows y_Mo_allows ∈ mm_G := mm_q 17 rfl rfl
set_option maxRecDepth 100000 in
theorem q_330 : Cond.code y_Mo_bound b_Mo_bound 5 (some .int) ∈ mm_G := mm_q 652 rfl rfl
set_option maxRecDepth 100000 in
theorem q_331 : Cond.methodLink R_Mo 162 y_Mo_bound ∈ mm_G := mm_q 649 rfl rfl
set_option maxRecDepth 100000 in
theorem q_332 : Cond.instanceMethod y_Mo_bound ∈ mm_G := mm_q 651 rfl rfl
set_option maxRecDepth 100000 in
theorem q_333 : Cond.selects R_Mo y_Mo_bound y_Mo_bound ∈ mm_G := mm_q 21 rfl rfl
set_option maxRecDepth 100000 in
theorem q_334 : Cond.code y_Mo_nextSpan b_Mo_nextSpan 5 (some .int) ∈ mm_G := mm_q 664 rfl rfl
set_option maxRecDepth 100000 in
theorem q_335 : Cond.methodLink R_Mo 166 y_Mo_nextSpan ∈ mm_G := mm_q 661 rfl rfl
set_option maxRecDepth 100000 in
theorem q_336 : Cond.instanceMethod y_Mo_nextSpan ∈ mm_G := mm_q 663 rfl rfl
set_option maxRecDepth 100000 in
theorem q_337 : Cond.selects R_Mo y_Mo_nextSpan y_Mo_nextSpan ∈ mm_G := mm_q 22 rfl rfl
set_option maxRecDepth 100000 in
theorem q_338 : Cond.laysFinal R_X R_X "packs" "[LLicenceRows2$Pack;" ∈ mm_G := mm_q 96 rfl rfl
set_option maxRecDepth 100000 in
theorem q_339 : Cond.lays R_X R_X "packCount" "I" ∈ mm_G := mm_q 98 rfl rfl
set_option maxRecDepth 100000 in
theorem q_340 : Cond.laysFinal R_X R_X "titles" "[LLicenceRows2$Title;" ∈ mm_G := mm_q 100 rfl rfl
set_option maxRecDepth 100000 in
theorem q_341 : Cond.lays R_X R_X "titleCount" "I" ∈ mm_G := mm_q 102 rfl rfl
set_option maxRecDepth 100000 in
theorem q_342 : Cond.laysFinal R_X R_X "rules" "[LLicenceRows2$Rule;" ∈ mm_G := mm_q 104 rfl rfl
set_option maxRecDepth 100000 in
theorem q_343 : Cond.lays R_X R_X "ruleCount" "I" ∈ mm_G := mm_q 106 rfl rfl
set_option maxRecDepth 100000 in
theorem q_344 : Cond.laysFinal R_X R_X "classOf" "[I" ∈ mm_G := mm_q 108 rfl rfl
set_option maxRecDepth 100000 in
theorem q_345 : Cond.laysFinal R_X R_X "usages" "LLicenceRows2$Usages;" ∈ mm_G := mm_q 110 rfl rfl
set_option maxRecDepth 100000 in
theorem q_346 : Cond.laysFinal R_X R_X "notices" "LLicenceRows2$Notices;" ∈ mm_G := mm_q 112 rfl rfl
set_option maxRecDepth 100000 in
theorem q_347 : Cond.lays R_X R_X "latestFailed" "I" ∈ mm_G := mm_q 114 rfl rfl
set_option maxRecDepth 100000 in
theorem q_348 : Cond.lays R_Mo R_Mo "thrown" "I" ∈ mm_G := mm_q 467 rfl rfl
set_option maxRecDepth 100000 in
theorem q_349 : Cond.lays R_Mo R_Mo "packs" "I" ∈ mm_G := mm_q 469 rfl rfl
set_option maxRecDepth 100000 in
theorem q_350 : Cond.laysFinal R_Mo R_Mo "keeps" "[Z" ∈ mm_G := mm_q 471 rfl rfl
set_option maxRecDepth 100000 in
theorem q_351 : Cond.laysFinal R_Mo R_Mo "rooms" "[I" ∈ mm_G := mm_q 473 rfl rfl
set_option maxRecDepth 100000 in
theorem q_352 : Cond.laysFinal R_Mo R_Mo "ends" "[I" ∈ mm_G := mm_q 475 rfl rfl
set_option maxRecDepth 100000 in
theorem q_353 : Cond.laysFinal R_Mo R_Mo "inside" "[I" ∈ mm_G := mm_q 477 rfl rfl
set_option maxRecDepth 100000 in
theorem q_354 : Cond.laysFinal R_Mo R_Mo "insider" "[I" ∈ mm_G := mm_q 479 rfl rfl
set_option maxRecDepth 100000 in
theorem q_355 : Cond.laysFinal R_Mo R_Mo "waiting" "[I" ∈ mm_G := mm_q 481 rfl rfl
set_option maxRecDepth 100000 in
theorem q_356 : Cond.laysFinal R_Mo R_Mo "waiter" "[I" ∈ mm_G := mm_q 483 rfl rfl
set_option maxRecDepth 100000 in
theorem q_357 : Cond.lays R_Mo R_Mo "titles" "I" ∈ mm_G := mm_q 485 rfl rfl
set_option maxRecDepth 100000 in
theorem q_358 : Cond.laysFinal R_Mo R_Mo "packOf" "[I" ∈ mm_G := mm_q 487 rfl rfl
set_option maxRecDepth 100000 in
theorem q_359 : Cond.laysFinal R_Mo R_Mo "name" "[I" ∈ mm_G := mm_q 489 rfl rfl
set_option maxRecDepth 100000 in
theorem q_360 : Cond.laysFinal R_Mo R_Mo "off" "[Z" ∈ mm_G := mm_q 491 rfl rfl
set_option maxRecDepth 100000 in
theorem q_361 : Cond.laysFinal R_Mo R_Mo "embargo" "[I" ∈ mm_G := mm_q 493 rfl rfl
set_option maxRecDepth 100000 in
theorem q_362 : Cond.laysFinal R_Mo R_Mo "spans" "[I" ∈ mm_G := mm_q 495 rfl rfl
set_option maxRecDepth 100000 in
theorem q_363 : Cond.laysFinal R_Mo R_Mo "from" "[I" ∈ mm_G := mm_q 497 rfl rfl
set_option maxRecDepth 100000 in
theorem q_364 : Cond.laysFinal R_Mo R_Mo "to" "[I" ∈ mm_G := mm_q 499 rfl rfl
set_option maxRecDepth 100000 in
theorem q_365 : Cond.lays R_Mo R_Mo "rules" "I" ∈ mm_G := mm_q 501 rfl rfl
set_option maxRecDepth 100000 in
theorem q_366 : Cond.laysFinal R_Mo R_Mo "rulePack" "[I" ∈ mm_G := mm_q 503 rfl rfl
set_option maxRecDepth 100000 in
theorem q_367 : Cond.laysFinal R_Mo R_Mo "kind" "[I" ∈ mm_G := mm_q 505 rfl rfl
set_option maxRecDepth 100000 in
theorem q_368 : Cond.laysFinal R_Mo R_Mo "does" "[I" ∈ mm_G := mm_q 507 rfl rfl
set_option maxRecDepth 100000 in
theorem q_369 : Cond.laysFinal R_Mo R_Mo "value" "[I" ∈ mm_G := mm_q 509 rfl rfl
set_option maxRecDepth 100000 in
theorem q_370 : Cond.laysFinal R_Mo R_Mo "bad" "[Z" ∈ mm_G := mm_q 511 rfl rfl
set_option maxRecDepth 100000 in
theorem q_371 : Cond.lays R_Mo R_Mo "failed" "I" ∈ mm_G := mm_q 513 rfl rfl
set_option maxRecDepth 100000 in
theorem q_372 : Cond.laysFinal R_Mo R_Mo "classOf" "[I" ∈ mm_G := mm_q 515 rfl rfl
set_option maxRecDepth 100000 in
theorem q_373 : Cond.lays R_Mo R_Mo "usages" "I" ∈ mm_G := mm_q 517 rfl rfl
set_option maxRecDepth 100000 in
theorem q_374 : Cond.laysFinal R_Mo R_Mo "usageReader" "[I" ∈ mm_G := mm_q 519 rfl rfl
set_option maxRecDepth 100000 in
theorem q_375 : Cond.laysFinal R_Mo R_Mo "usageTitle" "[I" ∈ mm_G := mm_q 521 rfl rfl
set_option maxRecDepth 100000 in
theorem q_376 : Cond.laysFinal R_Mo R_Mo "usageMonth" "[I" ∈ mm_G := mm_q 523 rfl rfl
set_option maxRecDepth 100000 in
theorem q_377 : Cond.lays R_Mo R_Mo "notes" "I" ∈ mm_G := mm_q 525 rfl rfl
set_option maxRecDepth 100000 in
theorem q_378 : Cond.laysFinal R_Mo R_Mo "note" "[I" ∈ mm_G := mm_q 527 rfl rfl
set_option maxRecDepth 100000 in
theorem q_379 : Cond.laysFinal R_Mo R_Mo "noteOf" "[I" ∈ mm_G := mm_q 529 rfl rfl
set_option maxRecDepth 100000 in
theorem q_380 : Cond.laysFinal R_Line R_Line "readers" "[I" ∈ mm_G := mm_q 137 rfl rfl
set_option maxRecDepth 100000 in
theorem q_381 : Cond.lays R_Line R_Line "size" "I" ∈ mm_G := mm_q 139 rfl rfl
set_option maxRecDepth 100000 in
theorem q_382 : Cond.laysFinal R_Notices R_Notices "sorts" "[I" ∈ mm_G := mm_q 79 rfl rfl
set_option maxRecDepth 100000 in
theorem q_383 : Cond.laysFinal R_Notices R_Notices "numbers" "[I" ∈ mm_G := mm_q 81 rfl rfl
set_option maxRecDepth 100000 in
theorem q_384 : Cond.lays R_Notices R_Notices "size" "I" ∈ mm_G := mm_q 83 rfl rfl
set_option maxRecDepth 100000 in
theorem q_385 : Cond.laysFinal R_Pack R_Pack "number" "I" ∈ mm_G := mm_q 153 rfl rfl
set_option maxRecDepth 100000 in
theorem q_386 : Cond.laysFinal R_Pack R_Pack "keeps" "Z" ∈ mm_G := mm_q 155 rfl rfl
set_option maxRecDepth 100000 in
theorem q_387 : Cond.laysFinal R_Pack R_Pack "inside" "LLicenceRows2$Line;" ∈ mm_G := mm_q 157 rfl rfl
set_option maxRecDepth 100000 in
theorem q_388 : Cond.laysFinal R_Pack R_Pack "waiting" "LLicenceRows2$Line;" ∈ mm_G := mm_q 159 rfl rfl
set_option maxRecDepth 100000 in
theorem q_389 : Cond.lays R_Pack R_Pack "places" "I" ∈ mm_G := mm_q 161 rfl rfl
set_option maxRecDepth 100000 in
theorem q_390 : Cond.lays R_Pack R_Pack "endDay" "I" ∈ mm_G := mm_q 163 rfl rfl
set_option maxRecDepth 100000 in
theorem q_391 : Cond.laysFinal R_Rule R_Rule "home" "I" ∈ mm_G := mm_q 267 rfl rfl
set_option maxRecDepth 100000 in
theorem q_392 : Cond.laysFinal R_Rule R_Rule "kind" "I" ∈ mm_G := mm_q 269 rfl rfl
set_option maxRecDepth 100000 in
theorem q_393 : Cond.laysFinal R_Rule R_Rule "does" "I" ∈ mm_G := mm_q 271 rfl rfl
set_option maxRecDepth 100000 in
theorem q_394 : Cond.laysFinal R_Rule R_Rule "value" "I" ∈ mm_G := mm_q 273 rfl rfl
set_option maxRecDepth 100000 in
theorem q_395 : Cond.lays R_Rule R_Rule "failing" "Z" ∈ mm_G := mm_q 275 rfl rfl
set_option maxRecDepth 100000 in
theorem q_396 : Cond.laysFinal R_Title R_Title "home" "LLicenceRows2$Pack;" ∈ mm_G := mm_q 197 rfl rfl
set_option maxRecDepth 100000 in
theorem q_397 : Cond.lays R_Title R_Title "name" "I" ∈ mm_G := mm_q 199 rfl rfl
set_option maxRecDepth 100000 in
theorem q_398 : Cond.lays R_Title R_Title "active" "Z" ∈ mm_G := mm_q 201 rfl rfl
set_option maxRecDepth 100000 in
theorem q_399 : Cond.lays R_Title R_Title "months" "I" ∈ mm_G := mm_q 203 rfl rfl
set_option maxRecDepth 100000 in
theorem q_400 : Cond.laysFinal R_Title R_Title "from" "[I" ∈ mm_G := mm_q 205 rfl rfl
set_option maxRecDepth 100000 in
theorem q_401 : Cond.laysFinal R_Title R_Title "to" "[I" ∈ mm_G := mm_q 207 rfl rfl
set_option maxRecDepth 100000 in
theorem q_402 : Cond.lays R_Title R_Title "spans" "I" ∈ mm_G := mm_q 209 rfl rfl
set_option maxRecDepth 100000 in
theorem q_403 : Cond.laysFinal R_Usages R_Usages "readers" "[I" ∈ mm_G := mm_q 57 rfl rfl
set_option maxRecDepth 100000 in
theorem q_404 : Cond.laysFinal R_Usages R_Usages "titles" "[I" ∈ mm_G := mm_q 59 rfl rfl
set_option maxRecDepth 100000 in
theorem q_405 : Cond.laysFinal R_Usages R_Usages "months" "[I" ∈ mm_G := mm_q 61 rfl rfl
set_option maxRecDepth 100000 in
theorem q_406 : Cond.lays R_Usages R_Usages "size" "I" ∈ mm_G := mm_q 63 rfl rfl
set_option maxRecDepth 100000 in
theorem q_407 : Cond.instantiable R_X 10 ∈ mm_G := mm_q 34 rfl rfl
set_option maxRecDepth 100000 in
theorem q_408 : Cond.instantiable R_Mo 32 ∈ mm_G := mm_q 430 rfl rfl
theorem i_X : ∀ w ∈ u_ws R_X F_X 10, w ∈ mm_G := by
  intro w hw
  obtain ⟨k, hk, rfl⟩ := List.mem_map.mp hw
  have hk := List.mem_range.mp hk
  match k, hk with
  | 0, _ => exact q_338
  | 1, _ => exact q_339
  | 2, _ => exact q_340
  | 3, _ => exact q_341
  | 4, _ => exact q_342
  | 5, _ => exact q_343
  | 6, _ => exact q_344
  | 7, _ => exact q_345
  | 8, _ => exact q_346
  | 9, _ => exact q_347
  | n + 10, hk => omega
theorem i_Mo : ∀ w ∈ u_ws R_Mo F_Mo 32, w ∈ mm_G := by
  intro w hw
  obtain ⟨k, hk, rfl⟩ := List.mem_map.mp hw
  have hk := List.mem_range.mp hk
  match k, hk with
  | 0, _ => exact q_348
  | 1, _ => exact q_349
  | 2, _ => exact q_350
  | 3, _ => exact q_351
  | 4, _ => exact q_352
  | 5, _ => exact q_353
  | 6, _ => exact q_354
  | 7, _ => exact q_355
  | 8, _ => exact q_356
  | 9, _ => exact q_357
  | 10, _ => exact q_358
  | 11, _ => exact q_359
  | 12, _ => exact q_360
  | 13, _ => exact q_361
  | 14, _ => exact q_362
  | 15, _ => exact q_363
  | 16, _ => exact q_364
  | 17, _ => exact q_365
  | 18, _ => exact q_366
  | 19, _ => exact q_367
  | 20, _ => exact q_368
  | 21, _ => exact q_369
  | 22, _ => exact q_370
  | 23, _ => exact q_371
  | 24, _ => exact q_372
  | 25, _ => exact q_373
  | 26, _ => exact q_374
  | 27, _ => exact q_375
  | 28, _ => exact q_376
  | 29, _ => exact q_377
  | 30, _ => exact q_378
  | 31, _ => exact q_379
  | n + 32, hk => omega
theorem i_Line : ∀ w ∈ u_ws R_Line F_Line 2, w ∈ mm_G := by
  intro w hw
  obtain ⟨k, hk, rfl⟩ := List.mem_map.mp hw
  have hk := List.mem_range.mp hk
  match k, hk with
  | 0, _ => exact q_380
  | 1, _ => exact q_381
  | n + 2, hk => omega
theorem i_Notices : ∀ w ∈ u_ws R_Notices F_Notices 3, w ∈ mm_G := by
  intro w hw
  obtain ⟨k, hk, rfl⟩ := List.mem_map.mp hw
  have hk := List.mem_range.mp hk
  match k, hk with
  | 0, _ => exact q_382
  | 1, _ => exact q_383
  | 2, _ => exact q_384
  | n + 3, hk => omega
theorem i_Pack : ∀ w ∈ u_ws R_Pack F_Pack 6, w ∈ mm_G := by
  intro w hw
  obtain ⟨k, hk, rfl⟩ := List.mem_map.mp hw
  have hk := List.mem_range.mp hk
  match k, hk with
  | 0, _ => exact q_385
  | 1, _ => exact q_386
  | 2, _ => exact q_387
  | 3, _ => exact q_388
  | 4, _ => exact q_389
  | 5, _ => exact q_390
  | n + 6, hk => omega
theorem i_Rule : ∀ w ∈ u_ws R_Rule F_Rule 5, w ∈ mm_G := by
  intro w hw
  obtain ⟨k, hk, rfl⟩ := List.mem_map.mp hw
  have hk := List.mem_range.mp hk
  match k, hk with
  | 0, _ => exact q_391
  | 1, _ => exact q_392
  | 2, _ => exact q_393
  | 3, _ => exact q_394
  | 4, _ => exact q_395
  | n + 5, hk => omega
theorem i_Title : ∀ w ∈ u_ws R_Title F_Title 7, w ∈ mm_G := by
  intro w hw
  obtain ⟨k, hk, rfl⟩ := List.mem_map.mp hw
  have hk := List.mem_range.mp hk
  match k, hk with
  | 0, _ => exact q_396
  | 1, _ => exact q_397
  | 2, _ => exact q_398
  | 3, _ => exact q_399
  | 4, _ => exact q_400
  | 5, _ => exact q_401
  | 6, _ => exact q_402
  | n + 7, hk => omega
theorem i_Usages : ∀ w ∈ u_ws R_Usages F_Usages 4, w ∈ mm_G := by
  intro w hw
  obtain ⟨k, hk, rfl⟩ := List.mem_map.mp hw
  have hk := List.mem_range.mp hk
  match k, hk with
  | 0, _ => exact q_403
  | 1, _ => exact q_404
  | 2, _ => exact q_405
  | 3, _ => exact q_406
  | n + 4, hk => omega
end
section
/-! A MEMORY AS A FUNCTION: a method's whole reach is one memory M = (next address, what lies at each address); its walk follows a functional program over M. -/
abbrev mm : Type := Nat × (Nat → Option va_E)
def mm_tr (dA : Nat → ClassId) : va_E → va_E
  | .inl x => .inl (dA x.1, x.2)
  | .inr o => .inr o
def mm_W (D : va_G) (dA : Nat → ClassId) (A : Nat → Prop) (M : mm) (H : Heap) : Prop := H.size = M.1 ∧ ∀ (a : Nat) (e : va_E), M.2 a = some e → va_at D classes (a, mm_tr dA e) H ∧ A a
def mm_A (M : mm) : Nat → Prop := fun q => (∃ e, M.2 q = some e) ∨ M.1 ≤ q
def mm_up (M : mm) (a : Nat) (e : va_E) : mm := (M.1, va_up M.2 a (some e))
def mm_ad (M : mm) (e : va_E) : mm := (M.1 + 1, va_up M.2 M.1 (some e))
/-- reads and writes, as partial functions -/
def gI (ci k : Nat) (M : mm) (a : Nat) : Option Int32 := match M.2 a with
  | some (.inr (c, fs)) => if c = ci then (match fs[k]? with | some (.int x) => some x | _ => none) else none
  | _ => none
def gR (ci k : Nat) (M : mm) (a : Nat) : Option Nat := match M.2 a with
  | some (.inr (c, fs)) => if c = ci then (match fs[k]? with | some (.ref x) => some x | _ => none) else none
  | _ => none
def pF (ci k : Nat) (v : Value) (M : mm) (a : Nat) : Option mm := match M.2 a with
  | some (.inr (c, fs)) => if c = ci ∧ k < fs.length then some (mm_up M a (.inr (ci, fs.set k v))) else none
  | _ => none
/-- a boolean field or answer: 0 or 1 -/
def kB (x : Int32) : Option Unit := if x = 0 ∨ x = 1 then some () else none
/-- an object of the class is there -/
def kO (ci : Nat) (M : mm) (a : Nat) : Option Unit := match M.2 a with
  | some (.inr (c, _)) => if c = ci then some () else none
  | _ => none
def kZ (x : Int32) : Option Unit := if x = 0 then none else some ()
def aI (M : mm) (a : Nat) (i : Int32) : Option Int32 := match M.2 a with
  | some (.inl (t, n, .inl f)) => if t = 0 ∧ 0 ≤ i ∧ i.toNatClampNeg < n then some (f i.toNatClampNeg) else none
  | _ => none
def sI (x : Int32) (M : mm) (a : Nat) (i : Int32) : Option mm := match M.2 a with
  | some (.inl (t, n, .inl f)) => if t = 0 ∧ 0 ≤ i ∧ i.toNatClampNeg < n then some (mm_up M a (.inl (0, n, .inl (upd f i.toNatClampNeg x)))) else none
  | _ => none
def aZ (M : mm) (a : Nat) (i : Int32) : Option Int32 := match M.2 a with
  | some (.inl (t, n, .inl f)) => if t = 1 ∧ 0 ≤ i ∧ i.toNatClampNeg < n then some (f i.toNatClampNeg) else none
  | _ => none
def sZ (x : Int32) (M : mm) (a : Nat) (i : Int32) : Option mm := match M.2 a with
  | some (.inl (t, n, .inl f)) => if (x = 0 ∨ x = 1) ∧ t = 1 ∧ 0 ≤ i ∧ i.toNatClampNeg < n then some (mm_up M a (.inl (1, n, .inl (upd f i.toNatClampNeg x)))) else none
  | _ => none
def aL (M : mm) (a : Nat) : Option Int32 := match M.2 a with
  | some (.inl (_, n, _)) => some (Int32.ofNat n)
  | _ => none
def aR (t0 : Nat) (M : mm) (a : Nat) (i : Int32) : Option Nat := match M.2 a with
  | some (.inl (t, n, .inr (.inr (.inr (.inr f))))) => if t = t0 ∧ 0 ≤ i ∧ i.toNatClampNeg < n then f i.toNatClampNeg else none
  | _ => none
def sR (t0 ci : Nat) (v : Nat) (M : mm) (a : Nat) (i : Int32) : Option mm := match M.2 a, M.2 v with
  | some (.inl (t, n, .inr (.inr (.inr (.inr f))))), some (.inr (c, _)) => if t = t0 ∧ c = ci ∧ 0 ≤ i ∧ i.toNatClampNeg < n then some (mm_up M a (.inl (t0, n, .inr (.inr (.inr (.inr (va_up f i.toNatClampNeg (some v)))))))) else none
  | _, _ => none
def nO (ci : Nat) (fs : List Value) (M : mm) : Option (Nat × mm) := some (M.1, mm_ad M (.inr (ci, fs)))
def nA (n : Nat) (M : mm) : Option (Nat × mm) := some (M.1, mm_ad M (.inl (0, n, .inl (fun _ => 0))))
def nZ (n : Nat) (M : mm) : Option (Nat × mm) := some (M.1, mm_ad M (.inl (1, n, .inl (fun _ => 0))))
def nQ (t n : Nat) (M : mm) : Option (Nat × mm) := some (M.1, mm_ad M (.inl (t, n, .inr (.inr (.inr (.inr (fun _ => none)))))))
/-- the script -/
def sc (L : Nat) (xs : Nat → Int32) (i : Int32) : Option Int32 := if 0 ≤ i ∧ i.toNatClampNeg < L then some (xs i.toNatClampNeg) else none
theorem ob {α β : Type} {x : Option α} {f : α → Option β} {o : β} (h : x.bind f = some o) : ∃ a, x = some a ∧ f a = some o := by
  cases x with
  | none => cases h
  | some a => exact ⟨a, rfl, h⟩
theorem gI_some {ci k : Nat} {M : mm} {a : Nat} {x : Int32} (h : gI ci k M a = some x) : ∃ fs, M.2 a = some (.inr (ci, fs)) ∧ fs[k]? = some (.int x) := by
  unfold gI at h
  split at h
  · rename_i c fs hm
    split at h
    · rename_i hc
      subst hc
      split at h
      · rename_i y hy
        cases h
        exact ⟨fs, hm, hy⟩
      · cases h
    · cases h
  · cases h
theorem gR_some {ci k : Nat} {M : mm} {a : Nat} {x : Nat} (h : gR ci k M a = some x) : ∃ fs, M.2 a = some (.inr (ci, fs)) ∧ fs[k]? = some (.ref x) := by
  unfold gR at h
  split at h
  · rename_i c fs hm
    split at h
    · rename_i hc
      subst hc
      split at h
      · rename_i y hy
        cases h
        exact ⟨fs, hm, hy⟩
      · cases h
    · cases h
  · cases h
theorem pF_some {ci k : Nat} {v : Value} {M M1 : mm} {a : Nat} (h : pF ci k v M a = some M1) : ∃ fs, M.2 a = some (.inr (ci, fs)) ∧ k < fs.length ∧ M1 = mm_up M a (.inr (ci, fs.set k v)) := by
  unfold pF at h
  split at h
  · rename_i c fs hm
    split at h
    · rename_i hc
      obtain ⟨hc, hk⟩ := hc
      subst hc
      cases h
      exact ⟨fs, hm, hk, rfl⟩
    · cases h
  · cases h
theorem kO_some {ci : Nat} {M : mm} {a : Nat} {u : Unit} (h : kO ci M a = some u) : ∃ fs, M.2 a = some (.inr (ci, fs)) := by
  unfold kO at h
  split at h
  · rename_i c fs hm
    split at h
    · rename_i hc
      subst hc
      exact ⟨fs, hm⟩
    · cases h
  · cases h
theorem kB_some {x : Int32} {u : Unit} (h : kB x = some u) : narrow .boolean (.int x) = .int x ∧ fits .boolean (.int x) = true := by
  unfold kB at h
  split at h
  · rename_i hc
    rcases hc with rfl | rfl <;> exact ⟨by decide +kernel, by decide +kernel⟩
  · cases h
theorem kZ_some {x : Int32} {u : Unit} (h : kZ x = some u) : ¬ x = 0 := by
  unfold kZ at h
  split at h
  · cases h
  · assumption
theorem ix_in {i : Int32} {n : Nat} (h0 : 0 ≤ i) (h1 : i.toNatClampNeg < n) : vp_in i n := fun h => by
  rcases h with h | h
  · exact absurd h (Int32.not_lt.mpr h0)
  · omega
theorem aI_some {M : mm} {a : Nat} {i x : Int32} (h : aI M a i = some x) : ∃ n f, M.2 a = some (.inl (0, n, .inl f)) ∧ vp_in i n ∧ x = f i.toNatClampNeg := by
  unfold aI at h
  split at h
  · rename_i t n f hm
    split at h
    · rename_i hc
      obtain ⟨ht, h0, h1⟩ := hc
      subst ht
      cases h
      exact ⟨n, f, hm, ix_in h0 h1, rfl⟩
    · cases h
  · cases h
theorem sI_some {M M1 : mm} {a : Nat} {i x : Int32} (h : sI x M a i = some M1) : ∃ n f, M.2 a = some (.inl (0, n, .inl f)) ∧ vp_in i n ∧ M1 = mm_up M a (.inl (0, n, .inl (upd f i.toNatClampNeg x))) := by
  unfold sI at h
  split at h
  · rename_i t n f hm
    split at h
    · rename_i hc
      obtain ⟨ht, h0, h1⟩ := hc
      subst ht
      cases h
      exact ⟨n, f, hm, ix_in h0 h1, rfl⟩
    · cases h
  · cases h
theorem aZ_some {M : mm} {a : Nat} {i x : Int32} (h : aZ M a i = some x) : ∃ n f, M.2 a = some (.inl (1, n, .inl f)) ∧ vp_in i n ∧ x = f i.toNatClampNeg := by
  unfold aZ at h
  split at h
  · rename_i t n f hm
    split at h
    · rename_i hc
      obtain ⟨ht, h0, h1⟩ := hc
      subst ht
      cases h
      exact ⟨n, f, hm, ix_in h0 h1, rfl⟩
    · cases h
  · cases h
theorem sZ_some {M M1 : mm} {a : Nat} {i x : Int32} (h : sZ x M a i = some M1) : ∃ n f, M.2 a = some (.inl (1, n, .inl f)) ∧ vp_in i n ∧ narrow .boolean (.int x) = .int x ∧ M1 = mm_up M a (.inl (1, n, .inl (upd f i.toNatClampNeg x))) := by
  unfold sZ at h
  split at h
  · rename_i t n f hm
    split at h
    · rename_i hc
      obtain ⟨hz, ht, h0, h1⟩ := hc
      subst ht
      cases h
      refine ⟨n, f, hm, ix_in h0 h1, ?_, rfl⟩
      rcases hz with rfl | rfl <;> decide +kernel
    · cases h
  · cases h
theorem aR_some {t0 : Nat} {M : mm} {a : Nat} {i : Int32} {x : Nat} (h : aR t0 M a i = some x) : ∃ n f, M.2 a = some (.inl (t0, n, .inr (.inr (.inr (.inr f))))) ∧ vp_in i n ∧ f i.toNatClampNeg = some x := by
  unfold aR at h
  split at h
  · rename_i t n f hm
    split at h
    · rename_i hc
      obtain ⟨ht, h0, h1⟩ := hc
      subst ht
      exact ⟨n, f, hm, ix_in h0 h1, h⟩
    · cases h
  · cases h
theorem sR_some {t0 ci v : Nat} {M M1 : mm} {a : Nat} {i : Int32} (h : sR t0 ci v M a i = some M1) : ∃ n f vs, M.2 a = some (.inl (t0, n, .inr (.inr (.inr (.inr f))))) ∧ M.2 v = some (.inr (ci, vs)) ∧ vp_in i n ∧ M1 = mm_up M a (.inl (t0, n, .inr (.inr (.inr (.inr (va_up f i.toNatClampNeg (some v))))))) := by
  unfold sR at h
  split at h
  · rename_i t n f c vs hm hv
    split at h
    · rename_i hc
      obtain ⟨ht, hc, h0, h1⟩ := hc
      subst ht
      subst hc
      cases h
      exact ⟨n, f, vs, hm, hv, ix_in h0 h1, rfl⟩
    · cases h
  · cases h
theorem sc_some {L : Nat} {xs : Nat → Int32} {i x : Int32} (h : sc L xs i = some x) : vp_in i L ∧ x = xs i.toNatClampNeg := by
  unfold sc at h
  split at h
  · rename_i hc
    cases h
    exact ⟨ix_in hc.1 hc.2, rfl⟩
  · cases h
section MMW
variable {D : va_G} {dA : Nat → ClassId} {A B : Nat → Prop} {M : mm} {H H1 : Heap} {a : Nat} {e e0 : va_E}
theorem mm_one (h : mm_W D dA A M H) (ha : M.2 a = some e) : va_P D classes [(a, mm_tr dA e)] H := by
  intro k q hk
  cases k with
  | zero =>
    have hq := Option.some.inj hk
    subst hq
    exact (h.2 a e ha).1
  | succ k => simp at hk
theorem mm_W_up (hW : mm_W D dA A M H) (ha : M.2 a = some e0) (he : va_at D classes (a, mm_tr dA e) H1) (z : H1.size = H.size) (oq : ∀ q : Nat, q ≠ a → H1[q]? = H[q]?) : mm_W D dA A (mm_up M a e) H1 := by
  refine ⟨z.trans hW.1, fun b e' hb => ?_⟩
  by_cases hba : b = a
  · subst hba
    have hb2 : some e = some e' := by simpa [mm_up, va_up] using hb
    cases hb2
    exact ⟨he, (hW.2 b e0 ha).2⟩
  · have hb2 : M.2 b = some e' := by simpa [mm_up, va_up, hba] using hb
    exact ⟨(hW.2 b e' hb2).1.kept (oq b hba), (hW.2 b e' hb2).2⟩
theorem mm_W_ad (hW : mm_W D dA A M H) (hA : A M.1) (he : va_at D classes (M.1, mm_tr dA e) H1) (z : H1.size = H.size + 1) (oq : ∀ q : Nat, q < H.size → H1[q]? = H[q]?) : mm_W D dA A (mm_ad M e) H1 := by
  refine ⟨by rw [z, hW.1]; rfl, fun b e' hb => ?_⟩
  by_cases hba : b = M.1
  · subst hba
    have hb2 : some e = some e' := by simpa [mm_ad, va_up] using hb
    cases hb2
    exact ⟨he, hA⟩
  · have hb2 : M.2 b = some e' := by simpa [mm_ad, va_up, hba] using hb
    have hlt := (hW.2 b e' hb2).1.lt
    exact ⟨(hW.2 b e' hb2).1.kept (oq b hlt), (hW.2 b e' hb2).2⟩
theorem mm_W_wk (hW : mm_W D dA A M H) (h : ∀ q, A q → B q) : mm_W D dA B M H := ⟨hW.1, fun a e ha => ⟨(hW.2 a e ha).1, h a (hW.2 a e ha).2⟩⟩
theorem mm_W_self (hW : mm_W D dA A M H) : mm_W D dA (mm_A M) M H := ⟨hW.1, fun a e ha => ⟨(hW.2 a e ha).1, Or.inl ⟨e, ha⟩⟩⟩
end MMW
/-- the tables as every method sees them: classes, array classes, the words of nest mates and of arrays of references -/
def mm_K (D : va_G) (dA : Nat → ClassId) (U : State) : Prop := va_K D classes (mm_tys dA) U ∧ (∀ q ∈ mm_nestM, va_Nw (.methodLinkNest q.1 q.2.1 q.2.2.1 q.2.2.2) U) ∧ (∀ q ∈ mm_nestF, va_Nw (.fieldLinkNest q.1 q.2.1 q.2.2.1 q.2.2.2.1 q.2.2.2.2.1 q.2.2.2.2.2) U) ∧ ∀ q ∈ mm_over, va_AO q U
theorem mm_K_moved {D : va_G} {dA : Nat → ClassId} {s U : State} (hW : s.WarmedH U.vm) (h : mm_K D dA s) : mm_K D dA U :=
  ⟨h.1.moved hW.alike, fun q hq => (h.2.1 q hq).warmM hW, fun q hq => (h.2.2.1 q hq).warmF hW, fun q hq => (h.2.2.2 q hq).moved hW.alike⟩
theorem mm_K_same {D : va_G} {dA : Nat → ClassId} {u U : State} (hv : u.vm = U.vm) (h : mm_K D dA u) : mm_K D dA U :=
  ⟨h.1.moved (by rw [hv]; exact Vm.Alike.refl _), fun q hq => (h.2.1 q hq).same rfl hv, fun q hq => (h.2.2.1 q hq).same rfl hv, fun q hq => (h.2.2.2 q hq).moved (by rw [hv]; exact Vm.Alike.refl _)⟩
/-- a contract's start and its ends -/
def mm_Pre (D : va_G) (dA : Nat → ClassId) (M : mm) (av : List Value) : Array Value → State → Prop := va_Pc av (fun U => mm_W D dA (mm_A M) M U.heap ∧ mm_K D dA U)
theorem mm_blind {D : va_G} {dA : Nat → ClassId} {M : mm} {av : List Value} : FrameBlind (mm_Pre D dA M av) := fun a U g mk h => ⟨h.1, h.2.1, mm_K_same (u := U) (U := U.calling g mk a) rfl h.2.2⟩
def mm_QI (D : va_G) (dA : Nat → ClassId) (M : mm) (r : Int32) (M1 : mm) : Array Value → State → Outcome → State → Prop := va_Qi (fun x (_ : Unit) => x = r) (fun _ t => mm_W D dA (mm_A M) M1 t.heap) (mm_A M)
def mm_QV (D : va_G) (dA : Nat → ClassId) (M : mm) (_ : Unit) (M1 : mm) : Array Value → State → Outcome → State → Prop := va_Qv (fun (_ : Unit) => True) (fun _ t => mm_W D dA (mm_A M) M1 t.heap) (mm_A M)
def mm_QQ (D : va_G) (dA : Nat → ClassId) (M : mm) (r : Option Nat) (M1 : mm) : Array Value → State → Outcome → State → Prop := va_Qq (fun x (_ : Unit) => x = r) (fun _ t => mm_W D dA (mm_A M) M1 t.heap) (mm_A M)
/-- what stands fixed while a method walks -/
def mm_C (p : Program) (s : State) (m : MethodId) (args : Array Value) (meth : Method) (c : Code) (cc : ByteArray) (nL : Nat) (ret : Option FieldType) (own : String) (D : va_G) (dA : Nat → ClassId) (A : Nat → Prop) : Prop :=
  p.tables.exec = Jvm.exec ∧ c.code = cc ∧ meth.sig.returnType = ret ∧ c.maxLocals = nL ∧ s.vm.findClass own = some m.cls ∧ (∀ w ∈ mm_G, w.before args s = true) ∧ meth.locks = false ∧ mm_K D dA s ∧ (∀ q, s.heap.size ≤ q → A q)
/-- a field's link: its class, its place, its words -/
def mm_FL (own : String) (index ci k : Nat) : Prop := ∃ (C : String) (T : u_T) (N : Nat), classes[ci]? = some (C, T, N) ∧ k < N ∧ (∀ w ∈ u_ws C T N, w ∈ mm_G) ∧ Cond.fieldLink own index (T k).1 (T k).2.1 (T k).2.2.1 ∈ mm_G
/-- a field's link for a write: its type, final or not -/
def mm_FP (own : String) (index ci k : Nat) (ty : FieldType) (fin : Bool) : Prop := ∃ (C : String) (T : u_T) (N : Nat) (ty0 : Nat → FieldType), classes[ci]? = some (C, T, N) ∧ k < N ∧ (∀ w ∈ u_ws C T N, w ∈ mm_G) ∧ Cond.fieldLink own index (T k).1 (T k).2.1 (T k).2.2.1 ∈ mm_G ∧ (∀ k, k < N → parseFieldDescriptor (T k).2.2.1 = some (ty0 k)) ∧ (∀ a, a < N → ∀ b, b < N → a ≠ b → (T a).2.1 ≠ (T b).2.1) ∧ (T k).2.2.2 = fin ∧ parseFieldDescriptor (T k).2.2.1 = some ty ∧ (fin = true → (T k).1 = own)
section MMR
variable {p : Program} {l : Launch} {e : Env} {R : Room} {s : State} {m : MethodId} {args : Array Value} {below : List Frame} {meth : Method} {c : Code} {H : Heap} {locs : List Loc} {cells slots : Nat} {Q : State → Prop}
variable {cc : ByteArray} {nL : Nat} {ret : Option FieldType} {own : String} {D : va_G} {dA : Nat → ClassId} {A : Nat → Prop} {M M1 : mm} {pc : Nat} {ls : Array Slot} {rest : List Value} {a index ci k : Nat}
theorem mr_get (C : mm_C p s m args meth c cc nL ret own D dA A) (hW : mm_W D dA A M H) (hF : mm_FL own index ci k) {fs : List Value} {v : Value} (ha : M.2 a = some (.inr (ci, fs))) (hv : fs[k]? = some v) (hdg : decode cc pc = .ok (.getfield index, 3))
    (kk : W p l e R s m args below meth c H locs cells slots Q (F0 m (pc + 3) ls (v :: rest))) : W p l e R s m args below meth c H locs cells slots Q (F0 m pc ls (.ref a :: rest)) := by
  obtain ⟨hx, hb, hr, hml, hown, hts, hlocks, hK, hA⟩ := C
  obtain ⟨Cn, T, N, hc, hk, hin, hlk⟩ := hF
  exact va_get (D := D) hx hb hts hin hown hK.1 (mm_one hW ha) 0 rfl hc k hk (hts _ hlk) (fun _ h => h) hv hdg kk
theorem mr_gI (C : mm_C p s m args meth c cc nL ret own D dA A) (hW : mm_W D dA A M H) (hF : mm_FL own index ci k) {x : Int32} (h : gI ci k M a = some x) (hdg : decode cc pc = .ok (.getfield index, 3))
    (kk : W p l e R s m args below meth c H locs cells slots Q (F0 m (pc + 3) ls (.int x :: rest))) : W p l e R s m args below meth c H locs cells slots Q (F0 m pc ls (.ref a :: rest)) := by
  obtain ⟨fs, h1, h2⟩ := gI_some h
  exact mr_get C hW hF h1 h2 hdg kk
theorem mr_gR (C : mm_C p s m args meth c cc nL ret own D dA A) (hW : mm_W D dA A M H) (hF : mm_FL own index ci k) {x : Nat} (h : gR ci k M a = some x) (hdg : decode cc pc = .ok (.getfield index, 3))
    (kk : W p l e R s m args below meth c H locs cells slots Q (F0 m (pc + 3) ls (.ref x :: rest))) : W p l e R s m args below meth c H locs cells slots Q (F0 m pc ls (.ref a :: rest)) := by
  obtain ⟨fs, h1, h2⟩ := gR_some h
  exact mr_get C hW hF h1 h2 hdg kk
theorem mr_put (C : mm_C p s m args meth c cc nL ret own D dA A) (hW : mm_W D dA A M H) (hS0 : va_S A s.heap H locs) {ty : FieldType} (hF : mm_FP own index ci k ty false) {v : Value} (hn : narrow ty v = v) (hfit : fits ty v = true) (h : pF ci k v M a = some M1) (hdg : decode cc pc = .ok (.putfield index, 3))
    (kk : ∀ (H1 : Heap) (locs1 : List Loc), mm_W D dA A M1 H1 → va_S A s.heap H1 locs1 → W p l e R s m args below meth c H1 locs1 cells slots Q (F0 m (pc + 3) ls rest)) : W p l e R s m args below meth c H locs cells slots Q (F0 m pc ls (v :: .ref a :: rest)) := by
  obtain ⟨hx, hb, hr, hml, hown, hts, hlocks, hK, hA⟩ := C
  obtain ⟨Cn, T, N, ty0, hc, hk, hin, hlk, hty, hnm, hfin, hd, -⟩ := hF
  obtain ⟨fs, ha, hl, rfl⟩ := pF_some h
  have hap := va_apart (own := own) hts hin ty0 hty hnm hK.1 hc
  obtain ⟨r, h1, cell, q1, q2, q3, q4⟩ := (hW.2 a _ ha).1
  have hr : r = (Cn, T, N) := Option.some.inj (h1.symm.trans hc)
  subst hr
  obtain ⟨hS, hfc, kC, hkC, hkind⟩ := hK.1.1 ci _ hc
  obtain ⟨cf, kf, fi, f, hi, hsl⟩ := hS k hk
  have hlay := hts _ (hin _ (u_in_lay hk))
  unfold u_lay at hlay
  rw [if_neg (by rw [hfin]; decide)] at hlay
  have hst := (u_facts hfc hkC (u_lays hts hin hk) hi).1
  have h6 := u_store hfc hkC hkind hlay hi hd hn hfit
  refine W.putK hx hb (f := f) ⟨hown, hts _ hlk, ⟨_, _, _, hi⟩, hst⟩ (by rw [q2]; exact h6) q1 q3 (by rw [hsl]; exact k2_hasslot (q4 k hk)) rfl rfl hdg fun H' e1 e2 e3 => ?_
  rw [hsl] at e1 ⊢
  exact kk H' _ (mm_W_up hW ha ⟨_, hc, t_OB.to (V := updV (vp_V fs) k v) ⟨_, e1, q2, q3, t_set q4 hap hk v⟩ (fun j _ => vp_updV_set hl v j)⟩ e2 e3) (hS0.put e2 e3 (hW.2 a _ ha).2)
theorem mr_putF (C : mm_C p s m args meth c cc nL ret own D dA A) (hW : mm_W D dA A M H) (hS0 : va_S A s.heap H locs) {ty : FieldType} (hF : mm_FP own index ci k ty true) (hin2 : meth.name = "<init>") {v : Value} (hn : narrow ty v = v) (hfit : fits ty v = true) (h : pF ci k v M a = some M1) (hdg : decode cc pc = .ok (.putfield index, 3))
    (kk : ∀ (H1 : Heap) (locs1 : List Loc), mm_W D dA A M1 H1 → va_S A s.heap H1 locs1 → W p l e R s m args below meth c H1 locs1 cells slots Q (F0 m (pc + 3) ls rest)) : W p l e R s m args below meth c H locs cells slots Q (F0 m pc ls (v :: .ref a :: rest)) := by
  obtain ⟨hx, hb, hr, hml, hown, hts, hlocks, hK, hA⟩ := C
  obtain ⟨Cn, T, N, ty0, hc, hk, hin, hlk, hty, hnm, hfin, hd, hdecl⟩ := hF
  have hdecl := hdecl rfl
  obtain ⟨fs, ha, hl, rfl⟩ := pF_some h
  have hap := va_apart (own := own) hts hin ty0 hty hnm hK.1 hc
  obtain ⟨r, h1, cell, q1, q2, q3, q4⟩ := (hW.2 a _ ha).1
  have hr : r = (Cn, T, N) := Option.some.inj (h1.symm.trans hc)
  subst hr
  obtain ⟨hS, hfc, kC, hkC, hkind⟩ := hK.1.1 ci _ hc
  obtain ⟨cf, kf, fi, f, hi, hsl⟩ := hS k hk
  have hlay := hts _ (hin _ (u_in_lay hk))
  unfold u_lay at hlay
  rw [if_pos hfin] at hlay
  have hst := (u_facts hfc hkC (u_lays hts hin hk) hi).1
  have hcf : m.cls = cf := by
    obtain ⟨_, _, c', _, _, _, -, -, hf', -, -, -, hown2, -⟩ := Cond.laysFinal_spec hlay
    have e1 : c' = cf := by have := hi.symm.trans hf'; simp at this; exact this.1.symm
    rw [hdecl] at hown2
    rw [← e1]; exact Option.some.inj (hown.symm.trans hown2)
  have h6 := u_fits hfc hkC hkind (Or.inr hlay) hi hd hn hfit
  refine W.putFinK hx hb hown (hts _ hlk) hi hst hcf hin2 (by rw [q2]; exact h6) q1 q3 (by rw [hsl]; exact k2_hasslot (q4 k hk)) rfl rfl hdg fun H' e1 e2 e3 => ?_
  rw [hsl] at e1 ⊢
  exact kk H' _ (mm_W_up hW ha ⟨_, hc, t_OB.to (V := updV (vp_V fs) k v) ⟨_, e1, q2, q3, t_set q4 hap hk v⟩ (fun j _ => vp_updV_set hl v j)⟩ e2 e3) (hS0.put e2 e3 (hW.2 a _ ha).2)
theorem mr_aI (C : mm_C p s m args meth c cc nL ret own D dA A) (hW : mm_W D dA A M H) {i x : Int32} (h : aI M a i = some x) (hdg : decode cc pc = .ok (.iaload, 1))
    (kk : W p l e R s m args below meth c H locs cells slots Q (F0 m (pc + 1) ls (.int x :: rest))) : W p l e R s m args below meth c H locs cells slots Q (F0 m pc ls (.int i :: .ref a :: rest)) := by
  obtain ⟨hx, hb, hr, hml, hown, hts, hlocks, hK, hA⟩ := C
  obtain ⟨n, f, ha, hin, rfl⟩ := aI_some h
  exact va_iald (D := D) hx hb hK.1 (mm_one hW ha) 0 0 rfl rfl hin hdg kk
theorem mr_sI (C : mm_C p s m args meth c cc nL ret own D dA A) (hW : mm_W D dA A M H) (hS : va_S A s.heap H locs) {i x : Int32} (h : sI x M a i = some M1) (hdg : decode cc pc = .ok (.iastore, 1))
    (kk : ∀ (H1 : Heap) (locs1 : List Loc), mm_W D dA A M1 H1 → va_S A s.heap H1 locs1 → W p l e R s m args below meth c H1 locs1 cells slots Q (F0 m (pc + 1) ls rest)) : W p l e R s m args below meth c H locs cells slots Q (F0 m pc ls (.int x :: .int i :: .ref a :: rest)) := by
  obtain ⟨hx, hb, hr, hml, hown, hts, hlocks, hK, hA⟩ := C
  obtain ⟨n, f, ha, hin, rfl⟩ := sI_some h
  refine W.iast hx hb (hW.2 a _ ha).1 ((hK.1.2 0 _ rfl).1 n (fun j => .int (f j))) (fun q => by cases q) (by show ¬ (i < 0 ∨ (arrV _ _ _).slots.size ≤ _); rw [arrV_size]; exact hin) rfl rfl hdg fun H1 e z oq => ?_
  refine kk H1 _ (mm_W_up hW ha ?_ z oq) (hS.put z oq (hW.2 a _ ha).2)
  show H1[a]? = some (vp_cell _ _)
  rw [e]
  rw [vp_cell_i, vp_cell_i, arrV_store]
  congr 2
  funext q
  by_cases hq : q = i.toNatClampNeg
  · subst hq
    simp [updV, upd]
  · simp [updV, upd, hq]
theorem mr_aZ (C : mm_C p s m args meth c cc nL ret own D dA A) (hW : mm_W D dA A M H) {i x : Int32} (h : aZ M a i = some x) (hdg : decode cc pc = .ok (.baload, 1))
    (kk : W p l e R s m args below meth c H locs cells slots Q (F0 m (pc + 1) ls (.int x :: rest))) : W p l e R s m args below meth c H locs cells slots Q (F0 m pc ls (.int i :: .ref a :: rest)) := by
  obtain ⟨hx, hb, hr, hml, hown, hts, hlocks, hK, hA⟩ := C
  obtain ⟨n, f, ha, hin, rfl⟩ := aZ_some h
  exact va_zald (D := D) hx hb hK.1 (mm_one hW ha) 0 1 rfl rfl hin hdg kk
theorem mr_sZ (C : mm_C p s m args meth c cc nL ret own D dA A) (hW : mm_W D dA A M H) (hS : va_S A s.heap H locs) {i x : Int32} (h : sZ x M a i = some M1) (hdg : decode cc pc = .ok (.bastore, 1))
    (kk : ∀ (H1 : Heap) (locs1 : List Loc), mm_W D dA A M1 H1 → va_S A s.heap H1 locs1 → W p l e R s m args below meth c H1 locs1 cells slots Q (F0 m (pc + 1) ls rest)) : W p l e R s m args below meth c H locs cells slots Q (F0 m pc ls (.int x :: .int i :: .ref a :: rest)) := by
  obtain ⟨hx, hb, hr, hml, hown, hts, hlocks, hK, hA⟩ := C
  obtain ⟨n, f, ha, hin, hz, rfl⟩ := sZ_some h
  refine W.zast hx hb (hW.2 a _ ha).1 ((hK.1.2 1 _ rfl).1 n (fun j => .int (f j))) (fun q => by cases q) (by show ¬ (i < 0 ∨ (arrV _ _ _).slots.size ≤ _); rw [arrV_size]; exact hin) rfl rfl hdg fun H1 e z oq => ?_
  refine kk H1 _ (mm_W_up hW ha ?_ z oq) (hS.put z oq (hW.2 a _ ha).2)
  show H1[a]? = some (vp_cell _ _)
  rw [e]
  rw [vp_cell_i, vp_cell_i, arrV_store]
  congr 2
  funext q
  by_cases hq : q = i.toNatClampNeg
  · subst hq
    simp [updV, upd]
    exact hz
  · simp [updV, upd, hq]
theorem mr_aR (C : mm_C p s m args meth c cc nL ret own D dA A) (hW : mm_W D dA A M H) {t0 : Nat} {cn : String} (ht : (mm_tys dA)[t0]? = some (dA t0, .object cn)) {i : Int32} {x : Nat} (h : aR t0 M a i = some x) (hdg : decode cc pc = .ok (.aaload, 1))
    (kk : W p l e R s m args below meth c H locs cells slots Q (F0 m (pc + 1) ls (.ref x :: rest))) : W p l e R s m args below meth c H locs cells slots Q (F0 m pc ls (.int i :: .ref a :: rest)) := by
  obtain ⟨hx, hb, hr, hml, hown, hts, hlocks, hK, hA⟩ := C
  obtain ⟨n, f, ha, hin, hf⟩ := aR_some h
  refine va_aldq (D := D) hx hb hK.1 (mm_one hW ha) 0 t0 rfl ht hin hdg ?_
  rw [hf]
  exact kk
theorem mr_sR (C : mm_C p s m args meth c cc nL ret own D dA A) (hW : mm_W D dA A M H) (hS : va_S A s.heap H locs) {t0 v : Nat} {r : vw_C} (hc : classes[ci]? = some r) (ht : (mm_tys dA)[t0]? = some (dA t0, .object r.1)) {i : Int32} (h : sR t0 ci v M a i = some M1) (hdg : decode cc pc = .ok (.aastore, 1))
    (kk : ∀ (H1 : Heap) (locs1 : List Loc), mm_W D dA A M1 H1 → va_S A s.heap H1 locs1 → W p l e R s m args below meth c H1 locs1 cells slots Q (F0 m (pc + 1) ls rest)) : W p l e R s m args below meth c H locs cells slots Q (F0 m pc ls (.ref v :: .int i :: .ref a :: rest)) := by
  obtain ⟨hx, hb, hr, hml, hown, hts, hlocks, hK, hA⟩ := C
  obtain ⟨n, f, vs, ha, hv, hin, rfl⟩ := sR_some h
  have hlt : i.toNatClampNeg < n := Nat.not_le.mp fun q => hin (Or.inr q)
  have h0 : ¬ i < 0 := fun q => hin (Or.inl q)
  obtain ⟨r', hr', cellV, g1, g2, g3, -⟩ := (hW.2 v _ hv).1
  have hcls := (hK.1.1 ci r hc).2
  obtain ⟨kA, comp, k1, k2, k3, -⟩ := (hK.1.2 t0 _ ht).2
  have hcomp : comp = D.1 ci := Option.some.inj (k3.symm.trans hcls.1)
  subst hcomp
  obtain ⟨kC, hkC, -⟩ := hcls.2
  refine W.aast hx hb (hW.2 a _ ha).1 (fun q h => by cases h) (fun h => by cases h) k1 k2 rfl hkC ⟨h0, by show _ < (arrV _ _ _).slots.size; rw [arrV_size]; exact hlt⟩ g1 (fun q h => by rw [g3] at h; cases h) (by rw [g2]; exact hkC) (by rw [g2]; exact va_assign hcls) rfl rfl hdg fun H1 e z oq => ?_
  refine kk H1 _ (mm_W_up hW ha ?_ z oq) (hS.put z oq (hW.2 a _ ha).2)
  show H1[a]? = some (vp_cell _ _)
  rw [e]
  rw [vp_cell_q, vp_cell_q, arrV_store]
  congr 2
  funext q
  by_cases hq : q = i.toNatClampNeg
  · subst hq
    simp [updV, va_up, va_rf]
  · simp [updV, va_up, hq]
theorem mr_nO (C : mm_C p s m args meth c cc nL ret own D dA A) (hW : mm_W D dA A M H) (hS : va_S A s.heap H locs) {Cn : String} {T : u_T} {N : Nat} {ty : Nat → FieldType} {fs : List Value} (hc : classes[ci]? = some (Cn, T, N)) (hin : ∀ w ∈ u_ws Cn T N, w ∈ mm_G) (hty : ∀ k, k < N → parseFieldDescriptor (T k).2.2.1 = some (ty k)) (hlk : Cond.classLink own index Cn ∈ mm_G ∧ Cond.instantiable Cn N ∈ mm_G ∧ Cond.initialized Cn ∈ mm_G)
    (hfs : ∀ j, j < N → defaultValue (ty j) = vp_V fs j) (hcells : cells + 1 ≤ R.cells) (hslots : slots + N ≤ R.slots) {q : Nat} (h : nO ci fs M = some (q, M1)) (hdg : decode cc pc = .ok (.new index, 3))
    (kk : ∀ (H1 : Heap), mm_W D dA A M1 H1 → va_S A s.heap H1 locs → W p l e R s m args below meth c H1 locs (cells + 1) (slots + N) Q (F0 m (pc + 3) ls (.ref q :: rest))) : W p l e R s m args below meth c H locs cells slots Q (F0 m pc ls rest) := by
  obtain ⟨hx, hb, hr, hml, hown, hts, hlocks, hK, hA⟩ := C
  cases h
  have hKn := hK.1.1 ci _ hc
  refine W.newcK hx hb hown (hts _ hlk.1) (hts _ hlk.2.1) (hts _ hlk.2.2) rfl hdg hcells hslots hKn.2.1 hW.1 fun H1 kC hkC e1 z1 o1 => ?_
  rw [← hW.1] at o1 z1
  refine kk H1 (mm_W_ad hW (hA _ (by rw [← hW.1]; exact hS.1)) ?_ z1 o1) ⟨Nat.le_trans hS.1 (by omega), fun x h1 h2 => (o1 x (Nat.lt_of_lt_of_le h1 hS.1)).trans (hS.2.1 x h1 h2), hS.2.2⟩
  exact ⟨_, hc, (u_born ty hts hin hKn hkC e1 hty).to hfs⟩
theorem mr_nA (C : mm_C p s m args meth c cc nL ret own D dA A) (hW : mm_W D dA A M H) (hS : va_S A s.heap H locs) (harr : Cond.arrayClass .int ∈ mm_G) {n : Int32} {N : Nat} (hn : ¬ n < 0) (hN : n.toNatClampNeg = N) (hbytes : N * componentBytes .int ≤ 536870912) (hcells : cells + 1 ≤ R.cells) (hslots : slots + N ≤ R.slots) {q : Nat} (h : nA N M = some (q, M1)) (hdg : decode cc pc = .ok (.newarray .int, 2))
    (kk : ∀ (H1 : Heap), mm_W D dA A M1 H1 → va_S A s.heap H1 locs → W p l e R s m args below meth c H1 locs (cells + 1) (slots + N) Q (F0 m (pc + 2) ls (.ref q :: rest))) : W p l e R s m args below meth c H locs cells slots Q (F0 m pc ls (.int n :: rest)) := by
  obtain ⟨hx, hb, hr, hml, hown, hts, hlocks, hK, hA⟩ := C
  cases h
  refine va_newaK hx hb (atype := .int) (hts _ harr) rfl hdg rfl hn hN hbytes hcells hslots hW.1 fun H1 cA e1 z1 o1 hAr hNm => ?_
  rw [← hW.1] at o1 z1
  have hcA : cA = dA 0 := Option.some.inj (hNm.symm.trans (hK.1.2 0 _ rfl).2)
  subst hcA
  refine kk H1 (mm_W_ad hW (hA _ (by rw [← hW.1]; exact hS.1)) ?_ z1 o1) ⟨Nat.le_trans hS.1 (by omega), fun x h1 h2 => (o1 x (Nat.lt_of_lt_of_le h1 hS.1)).trans (hS.2.1 x h1 h2), hS.2.2⟩
  show H1[M.1]? = some (vp_cell _ _)
  rw [vp_cell_i]
  exact e1
theorem mr_nZ (C : mm_C p s m args meth c cc nL ret own D dA A) (hW : mm_W D dA A M H) (hS : va_S A s.heap H locs) (harr : Cond.arrayClass .boolean ∈ mm_G) {n : Int32} {N : Nat} (hn : ¬ n < 0) (hN : n.toNatClampNeg = N) (hbytes : N * componentBytes .boolean ≤ 536870912) (hcells : cells + 1 ≤ R.cells) (hslots : slots + N ≤ R.slots) {q : Nat} (h : nZ N M = some (q, M1)) (hdg : decode cc pc = .ok (.newarray .boolean, 2))
    (kk : ∀ (H1 : Heap), mm_W D dA A M1 H1 → va_S A s.heap H1 locs → W p l e R s m args below meth c H1 locs (cells + 1) (slots + N) Q (F0 m (pc + 2) ls (.ref q :: rest))) : W p l e R s m args below meth c H locs cells slots Q (F0 m pc ls (.int n :: rest)) := by
  obtain ⟨hx, hb, hr, hml, hown, hts, hlocks, hK, hA⟩ := C
  cases h
  refine va_newaK hx hb (atype := .boolean) (hts _ harr) rfl hdg rfl hn hN hbytes hcells hslots hW.1 fun H1 cA e1 z1 o1 hAr hNm => ?_
  rw [← hW.1] at o1 z1
  have hcA : cA = dA 1 := Option.some.inj (hNm.symm.trans (hK.1.2 1 _ rfl).2)
  subst hcA
  refine kk H1 (mm_W_ad hW (hA _ (by rw [← hW.1]; exact hS.1)) ?_ z1 o1) ⟨Nat.le_trans hS.1 (by omega), fun x h1 h2 => (o1 x (Nat.lt_of_lt_of_le h1 hS.1)).trans (hS.2.1 x h1 h2), hS.2.2⟩
  show H1[M.1]? = some (vp_cell _ _)
  rw [vp_cell_i]
  exact e1
theorem mr_nQ (C : mm_C p s m args meth c cc nL ret own D dA A) (hW : mm_W D dA A M H) (hS : va_S A s.heap H locs) {t0 : Nat} {cn : String} (ht : (mm_tys dA)[t0]? = some (dA t0, .object cn)) (hlk : Cond.classLink own index cn ∈ mm_G) (hov : cn ∈ mm_over) {n : Int32} {N : Nat} (hn : ¬ n < 0) (hN : n.toNatClampNeg = N) (hbytes : N * 4 ≤ 536870912) (hcells : cells + 1 ≤ R.cells) (hslots : slots + N ≤ R.slots) {q : Nat} (h : nQ t0 N M = some (q, M1)) (hdg : decode cc pc = .ok (.anewarray index, 3))
    (kk : ∀ (H1 : Heap), mm_W D dA A M1 H1 → va_S A s.heap H1 locs → W p l e R s m args below meth c H1 locs (cells + 1) (slots + N) Q (F0 m (pc + 3) ls (.ref q :: rest))) : W p l e R s m args below meth c H locs cells slots Q (F0 m pc ls (.int n :: rest)) := by
  obtain ⟨hx, hb, hr, hml, hown, hts, hlocks, hK, hA⟩ := C
  cases h
  subst hN
  refine W.anew hx hb hown (hts _ hlk) (va_AO.use (hK.2.2.2 _ hov)) rfl hdg rfl hn hbytes hcells hslots fun cA kA comp f1 f2 f3 f4 => ?_
  obtain ⟨kA', comp', g1, g2, g3, g4⟩ := (hK.1.2 t0 _ ht).2
  have hcA : cA = dA t0 := Option.some.inj (f1.symm.trans g4)
  subst hcA
  generalize hH1 : H.push ({ cls := dA t0, slots := Array.replicate n.toNatClampNeg .null, vm := .none } : Cell) = H1
  have z1 : H1.size = H.size + 1 := by rw [← hH1, Array.size_push]
  have e1 : H1[M.1]? = some (arrV (dA t0) n.toNatClampNeg (fun _ => .null)) := by rw [← hH1, ← hW.1, Array.getElem?_push_size, ← arrV_new]
  have o1 : ∀ q : Nat, q < H.size → H1[q]? = H[q]? := fun q hq => by rw [← hH1, Array.getElem?_push, if_neg (Nat.ne_of_lt hq)]
  have kk2 := kk H1 (mm_W_ad hW (hA _ (by rw [← hW.1]; exact hS.1)) (by show H1[M.1]? = some (vp_cell _ _); rw [vp_cell_q]; exact e1) z1 o1) ⟨Nat.le_trans hS.1 (by omega), fun x h1 h2 => (o1 x (Nat.lt_of_lt_of_le h1 hS.1)).trans (hS.2.1 x h1 h2), hS.2.2⟩
  rw [← hW.1] at kk2
  exact kk2
/-- a reference that may be null, in a local -/
theorem mr_aloadq (hexec : p.tables.exec = Jvm.exec) (hb : c.code = cc) {i : Nat} {r : Option Nat} (hdg : decode cc pc = .ok (.aload i, 2)) (hl : ls[i]? = some (.val (va_rf r)))
    (k : W p l e R s m args below meth c H locs cells slots Q (F0 m (pc + 2) ls (va_rf r :: rest))) : W p l e R s m args below meth c H locs cells slots Q (F0 m pc ls rest) := by
  cases r with
  | none => exact lv_aloadN hexec hb hdg hl k
  | some x => exact lv_aload hexec hb hdg hl k
theorem mr_aload_nq (hexec : p.tables.exec = Jvm.exec) (hb : c.code = cc) {k : Fin 4} {i : Nat} {r : Option Nat} (hdg : decode cc pc = .ok (.aload_n k, 1)) (hi : (k : Nat) = i) (hl : ls[i]? = some (.val (va_rf r)))
    (kk : W p l e R s m args below meth c H locs cells slots Q (F0 m (pc + 1) ls (va_rf r :: rest))) : W p l e R s m args below meth c H locs cells slots Q (F0 m pc ls rest) := by
  cases r with
  | none => exact lv_aload_nN hexec hb hdg hi hl kk
  | some x => exact lv_aload_n hexec hb hdg hi hl kk
theorem mr_astoreq (hexec : p.tables.exec = Jvm.exec) (hb : c.code = cc) {i : Nat} {r : Option Nat} {lv lv' : List (Nat × Value)} (hdg : decode cc pc = .ok (.astore i, 2)) (h : lv_has ls nL lv) (hn : i < nL) (hl : (i, va_rf r) :: lv.filter (fun q => !(q.1 == i) && !(q.1 + 1 == i && q.2.category == 2)) = lv')
    (kk : ∀ ls' : Array Slot, lv_has ls' nL lv' → W p l e R s m args below meth c H locs cells slots Q (F0 m (pc + 2) ls' rest)) : W p l e R s m args below meth c H locs cells slots Q (F0 m pc ls (va_rf r :: rest)) := by
  cases r with
  | none => exact lv_astoreN hexec hb hdg h hn hl kk
  | some x => exact lv_astore hexec hb hdg h hn hl kk
theorem mr_astore_nq (hexec : p.tables.exec = Jvm.exec) (hb : c.code = cc) {k : Fin 4} {i : Nat} {r : Option Nat} {lv lv' : List (Nat × Value)} (hdg : decode cc pc = .ok (.astore_n k, 1)) (hi : (k : Nat) = i) (h : lv_has ls nL lv) (hn : i < nL) (hl : (i, va_rf r) :: lv.filter (fun q => !(q.1 == i) && !(q.1 + 1 == i && q.2.category == 2)) = lv')
    (kk : ∀ ls' : Array Slot, lv_has ls' nL lv' → W p l e R s m args below meth c H locs cells slots Q (F0 m (pc + 1) ls' rest)) : W p l e R s m args below meth c H locs cells slots Q (F0 m pc ls (va_rf r :: rest)) := by
  cases r with
  | none => exact lv_astore_nN hexec hb hdg hi h hn hl kk
  | some x => exact lv_astore_n hexec hb hdg hi h hn hl kk
theorem mr_ifnull (hexec : p.tables.exec = Jvm.exec) (hb : c.code = cc) {r : Option Nat} {off : Int} {tgt : Nat} (hdg : decode cc pc = .ok (.ifnull off, 3)) (ht : (pc : Int) + off = (tgt : Int))
    (kt : r = none → W p l e R s m args below meth c H locs cells slots Q (F0 m tgt ls rest)) (kf : ∀ x, r = some x → W p l e R s m args below meth c H locs cells slots Q (F0 m (pc + 3) ls rest)) : W p l e R s m args below meth c H locs cells slots Q (F0 m pc ls (va_rf r :: rest)) := by
  cases r with
  | none => exact lv_ifnullN hexec hb hdg ht (kt rfl)
  | some x => exact lv_ifnull hexec hb hdg (kf x rfl)
theorem mr_ifnonnull (hexec : p.tables.exec = Jvm.exec) (hb : c.code = cc) {r : Option Nat} {off : Int} {tgt : Nat} (hdg : decode cc pc = .ok (.ifnonnull off, 3)) (ht : (pc : Int) + off = (tgt : Int))
    (kt : ∀ x, r = some x → W p l e R s m args below meth c H locs cells slots Q (F0 m tgt ls rest)) (kf : r = none → W p l e R s m args below meth c H locs cells slots Q (F0 m (pc + 3) ls rest)) : W p l e R s m args below meth c H locs cells slots Q (F0 m pc ls (va_rf r :: rest)) := by
  cases r with
  | none => exact lv_ifnonnullN hexec hb hdg (kf rfl)
  | some x => exact lv_ifnonnull hexec hb hdg ht (kt x rfl)
/-- what a call may touch is ours -/
theorem mr_free (C : mm_C p s m args meth c cc nL ret own D dA A) (hW : mm_W D dA A M H) (hS : va_S A s.heap H locs) : ∀ q, mm_A M q → A q := fun q h => by
  obtain ⟨-, -, -, -, -, -, -, -, hA⟩ := C
  rcases h with ⟨e, h⟩ | h
  · exact (hW.2 q e h).2
  · exact hA q (Nat.le_trans hS.1 (by rw [hW.1]; exact h))
theorem mr_pre (C : mm_C p s m args meth c cc nL ret own D dA A) (hW : mm_W D dA A M H) {av : List Value} : PreS s H (mm_Pre D dA M av) av := by
  obtain ⟨-, -, -, -, -, -, -, hK, -⟩ := C
  exact ⟨mm_blind, fun U hU hw => ⟨rfl, by rw [hU]; exact mm_W_self hW, mm_K_moved hw hK⟩⟩
theorem mr_preV (C : mm_C p s m args meth c cc nL ret own D dA A) (hW : mm_W D dA A M H) {As : List Value} {Cn : String} {T : u_T} {N : Nat} {u : Unit} (hc : classes[ci]? = some (Cn, T, N)) (hk : kO ci M a = some u) : PreV s H Cn a (mm_Pre D dA M (.ref a :: As)) As := by
  obtain ⟨-, -, -, -, -, -, -, hK, -⟩ := C
  obtain ⟨fs, ha⟩ := kO_some hk
  exact ⟨mm_blind, va_recv (q0 := 0) (ci := ci) hK.1 (mm_one hW ha) hc rfl, fun U hU hw => ⟨rfl, by rw [hU]; exact mm_W_self hW, mm_K_moved hw hK⟩⟩
variable {mc ms : Nat} {st0 : List Value} {av : Array Value}
theorem mr_ci (C : mm_C p s m args meth c cc nL ret own D dA A) (hW : mm_W D dA A M H) (hS : va_S A s.heap H locs) {r : Int32} (hr : va_Run p l e R s m args below meth c H locs cells slots mc ms (F0 m pc ls st0) rest (mm_QI D dA M r M1 av) (mm_A M))
    (kk : ∀ (H1 : Heap) (locs1 : List Loc), mm_W D dA A M1 H1 → va_S A s.heap H1 locs1 → W p l e R s m args below meth c H1 locs1 (cells + mc) (slots + ms) Q (F0 m (pc + 3) ls (.int r :: rest))) : W p l e R s m args below meth c H locs cells slots Q (F0 m pc ls st0) := by
  have hF := mr_free C hW hS
  refine va_calli hr hS (fun q _ h => hF q h) hF (fun x u t H1 locs1 ht hvm hw hB hz1 hk1 hS1 => ?_)
  subst hw
  subst ht
  exact kk _ _ (mm_W_wk hB hF) hS1
theorem mr_cv (C : mm_C p s m args meth c cc nL ret own D dA A) (hW : mm_W D dA A M H) (hS : va_S A s.heap H locs) {r : Unit} (hr : va_Run p l e R s m args below meth c H locs cells slots mc ms (F0 m pc ls st0) rest (mm_QV D dA M r M1 av) (mm_A M))
    (kk : ∀ (H1 : Heap) (locs1 : List Loc), mm_W D dA A M1 H1 → va_S A s.heap H1 locs1 → W p l e R s m args below meth c H1 locs1 (cells + mc) (slots + ms) Q (F0 m (pc + 3) ls rest)) : W p l e R s m args below meth c H locs cells slots Q (F0 m pc ls st0) := by
  have hF := mr_free C hW hS
  refine va_callv hr hS (fun q _ h => hF q h) hF (fun u t H1 locs1 ht hvm hw hB hz1 hk1 hS1 => ?_)
  subst ht
  exact kk _ _ (mm_W_wk hB hF) hS1
theorem mr_cq (C : mm_C p s m args meth c cc nL ret own D dA A) (hW : mm_W D dA A M H) (hS : va_S A s.heap H locs) {r : Option Nat} (hr : va_Run p l e R s m args below meth c H locs cells slots mc ms (F0 m pc ls st0) rest (mm_QQ D dA M r M1 av) (mm_A M))
    (kk : ∀ (H1 : Heap) (locs1 : List Loc), mm_W D dA A M1 H1 → va_S A s.heap H1 locs1 → W p l e R s m args below meth c H1 locs1 (cells + mc) (slots + ms) Q (F0 m (pc + 3) ls (va_rf r :: rest))) : W p l e R s m args below meth c H locs cells slots Q (F0 m pc ls st0) := by
  have hF := mr_free C hW hS
  refine va_callq hr hS (fun q _ h => hF q h) hF (fun x u t H1 locs1 ht hvm hw hB hz1 hk1 hS1 => ?_)
  subst hw
  subst ht
  exact kk _ _ (mm_W_wk hB hF) hS1
end MMR
section MMT
variable {p : Program} {l : Launch} {e : Env} {R : Room} {s : State} {m : MethodId} {args : Array Value} {below : List Frame} {meth : Method} {c : Code} {H : Heap} {locs : List Loc} {cells slots mc ms : Nat}
variable {cc : ByteArray} {nL : Nat} {own : String} {D : va_G} {dA : Nat → ClassId} {M0 M M' : mm} {pc : Nat} {ls : Array Slot}
theorem mr_iret (C : mm_C p s m args meth c cc nL (some .int) own D dA (mm_A M0)) (hW : mm_W D dA (mm_A M0) M H) (hS : va_S (mm_A M0) s.heap H locs) (h1 : cells ≤ mc) (h2 : slots ≤ ms) {v r : Int32} (h : some (v, M) = some (r, M')) (hdg : decode cc pc = .ok (.ireturn, 1)) :
    W p l e R s m args below meth c H locs cells slots (MQ below (mm_QI D dA M0 r M') args s mc ms (mm_A M0)) (F0 m pc ls [.int v]) := by
  obtain ⟨hx, hb, hr, hml, hown, hts, hlocks, hK, hA⟩ := C
  cases h
  refine W.widen h1 h2 ?_
  exact W.iret hx hb hr (fun t ht hw => ⟨⟨v, (), rfl, rfl, by show mm_W D dA (mm_A M0) _ t.heap; rw [ht]; exact hW⟩, hS.F ht⟩) hS.2.2 hdg
theorem mr_zret (C : mm_C p s m args meth c cc nL (some .boolean) own D dA (mm_A M0)) (hW : mm_W D dA (mm_A M0) M H) (hS : va_S (mm_A M0) s.heap H locs) (h1 : cells ≤ mc) (h2 : slots ≤ ms) {v r : Int32} {u : Unit} (hk : kB v = some u) (h : some (v, M) = some (r, M')) (hdg : decode cc pc = .ok (.ireturn, 1)) :
    W p l e R s m args below meth c H locs cells slots (MQ below (mm_QI D dA M0 r M') args s mc ms (mm_A M0)) (F0 m pc ls [.int v]) := by
  obtain ⟨hx, hb, hr, hml, hown, hts, hlocks, hK, hA⟩ := C
  cases h
  refine W.widen h1 h2 ?_
  exact W.zret hx hb hr (kB_some hk).1 (fun t ht hw => ⟨⟨v, (), rfl, rfl, by show mm_W D dA (mm_A M0) _ t.heap; rw [ht]; exact hW⟩, hS.F ht⟩) hS.2.2 hdg
theorem mr_vret (C : mm_C p s m args meth c cc nL none own D dA (mm_A M0)) (hW : mm_W D dA (mm_A M0) M H) (hS : va_S (mm_A M0) s.heap H locs) (h1 : cells ≤ mc) (h2 : slots ≤ ms) {r : Unit} (h : some ((), M) = some (r, M')) (hdg : decode cc pc = .ok (.return_, 1)) :
    W p l e R s m args below meth c H locs cells slots (MQ below (mm_QV D dA M0 r M') args s mc ms (mm_A M0)) (F0 m pc ls []) := by
  obtain ⟨hx, hb, hr, hml, hown, hts, hlocks, hK, hA⟩ := C
  cases h
  refine W.widen h1 h2 ?_
  exact W.vret hx hb hr (fun t ht hw => ⟨⟨(), rfl, trivial, by show mm_W D dA (mm_A M0) _ t.heap; rw [ht]; exact hW⟩, hS.F ht⟩) hS.2.2 hdg
theorem mr_aret {cn : String} (C : mm_C p s m args meth c cc nL (some (.object cn)) own D dA (mm_A M0)) (hW : mm_W D dA (mm_A M0) M H) (hS : va_S (mm_A M0) s.heap H locs) (h1 : cells ≤ mc) (h2 : slots ≤ ms) {v r : Option Nat} (h : some (v, M) = some (r, M')) (hdg : decode cc pc = .ok (.areturn, 1)) :
    W p l e R s m args below meth c H locs cells slots (MQ below (mm_QQ D dA M0 r M') args s mc ms (mm_A M0)) (F0 m pc ls [va_rf v]) := by
  obtain ⟨hx, hb, hr, hml, hown, hts, hlocks, hK, hA⟩ := C
  cases h
  refine W.widen h1 h2 ?_
  exact W.aret hx hb hr (Or.inl ⟨_, rfl⟩) (by cases v with | none => exact Or.inl rfl | some x => exact Or.inr ⟨x, rfl⟩) (fun t ht hw => ⟨⟨v, (), rfl, rfl, by show mm_W D dA (mm_A M0) _ t.heap; rw [ht]; exact hW⟩, hS.F ht⟩) hS.2.2 hdg
end MMT
/-- the words of a call: all of them stand in mm_G -/
theorem mg_in {y : MethodName} {b : ByteArray} {n : Nat} {ret : Option FieldType} (hc : Cond.code y b n ret ∈ mm_G) : GoodIn mm_G (Cond.code y b n ret :: mm_G) := fun w hw => by
  rcases List.mem_cons.mp hw with h | h
  · subst h; exact ⟨hc, Or.inl rfl⟩
  · exact ⟨h, mm_G_good w h⟩
theorem mg_V {own C : String} {idx : Nat} {y : MethodName} {b : ByteArray} {n : Nat} {ret : Option FieldType} (hc : Cond.code y b n ret ∈ mm_G) (h1 : Cond.methodLink own idx y ∈ mm_G) (h2 : Cond.instanceMethod y ∈ mm_G) (h3 : Cond.selects C y y ∈ mm_G) (h4 : Cond.initialized C ∈ mm_G) : GoodIn mm_G (wsV own idx C y (Cond.code y b n ret :: mm_G)) := fun w hw => by
  rcases List.mem_append.mp hw with h | h
  · have hm : w ∈ mm_G := by
      simp only [List.mem_cons, List.not_mem_nil, or_false] at h
      rcases h with rfl | rfl | rfl | rfl <;> assumption
    exact ⟨hm, mm_G_good w hm⟩
  · exact mg_in hc w h
theorem mg_S {own : String} {idx : Nat} {y : MethodName} {b : ByteArray} {n : Nat} {ret : Option FieldType} (hc : Cond.code y b n ret ∈ mm_G) (h1 : Cond.methodLink own idx y ∈ mm_G) (h2 : Cond.static y ∈ mm_G) (h3 : Cond.initialized own ∈ mm_G) : GoodIn mm_G (wsS own idx y (Cond.code y b n ret :: mm_G)) := fun w hw => by
  rcases List.mem_append.mp hw with h | h
  · have hm : w ∈ mm_G := by
      simp only [List.mem_cons, List.not_mem_nil, or_false] at h
      rcases h with rfl | rfl | rfl <;> assumption
    exact ⟨hm, mm_G_good w hm⟩
  · exact mg_in hc w h
def qm {α β : Type} (r : Option α) (x : β) (f : α → β) : β := match r with
  | none => x
  | some a => f a
theorem ifp {c : Prop} [Decidable c] {α : Type} {a b o : α} (h : (if c then a else b) = o) (hc : c) : a = o := by rw [← h, if_pos hc]
theorem ifn {c : Prop} [Decidable c] {α : Type} {a b o : α} (h : (if c then a else b) = o) (hc : ¬ c) : b = o := by rw [← h, if_neg hc]
/-- fuel of a loop: more than any loop of the program turns -/
def FU : Nat := 1000
end
section
def w_Usages_init : List Cond := .code y_Usages_init b_Usages_init 1 none :: mm_G
abbrev rm_Usages_init : Room := { frames := 1, cells := 3, slots := 1536, locals := 12 }
def w_Notices_init : List Cond := .code y_Notices_init b_Notices_init 1 none :: mm_G
abbrev rm_Notices_init : Room := { frames := 1, cells := 2, slots := 200, locals := 12 }
def w_X_init : List Cond := .code y_X_init b_X_init 1 none :: mm_G
abbrev rm_X_init : Room := { frames := 2, cells := 11, slots := 2163, locals := 32 }
def w_Line_init : List Cond := .code y_Line_init b_Line_init 1 none :: mm_G
abbrev rm_Line_init : Room := { frames := 1, cells := 1, slots := 100, locals := 12 }
def w_Pack_init : List Cond := .code y_Pack_init b_Pack_init 3 none :: mm_G
abbrev rm_Pack_init : Room := { frames := 2, cells := 4, slots := 204, locals := 32 }
def w_X_pack : List Cond := .code y_X_pack b_X_pack 2 (some .int) :: mm_G
abbrev rm_X_pack : Room := { frames := 3, cells := 5, slots := 210, locals := 54 }
def w_X_findPack : List Cond := .code y_X_findPack b_X_findPack 2 (some (.object "LicenceRows2$Pack")) :: mm_G
abbrev rm_X_findPack : Room := { frames := 0, cells := 0, slots := 0, locals := 0 }
def w_X_findNamed : List Cond := .code y_X_findNamed b_X_findNamed 5 (some (.object "LicenceRows2$Title")) :: mm_G
abbrev rm_X_findNamed : Room := { frames := 0, cells := 0, slots := 0, locals := 0 }
def w_Title_init : List Cond := .code y_Title_init b_Title_init 3 none :: mm_G
abbrev rm_Title_init : Room := { frames := 1, cells := 2, slots := 20, locals := 12 }
def w_X_title : List Cond := .code y_X_title b_X_title 4 (some .int) :: mm_G
abbrev rm_X_title : Room := { frames := 2, cells := 3, slots := 27, locals := 34 }
def w_X_findTitle : List Cond := .code y_X_findTitle b_X_findTitle 2 (some (.object "LicenceRows2$Title")) :: mm_G
abbrev rm_X_findTitle : Room := { frames := 0, cells := 0, slots := 0, locals := 0 }
def w_X_isDay : List Cond := .code y_X_isDay b_X_isDay 1 (some .boolean) :: mm_G
abbrev rm_X_isDay : Room := { frames := 0, cells := 0, slots := 0, locals := 0 }
def w_Title_meets : List Cond := .code y_Title_meets b_Title_meets 4 (some .boolean) :: mm_G
abbrev rm_Title_meets : Room := { frames := 0, cells := 0, slots := 0, locals := 0 }
def w_Title_addSpan : List Cond := .code y_Title_addSpan b_Title_addSpan 4 none :: mm_G
abbrev rm_Title_addSpan : Room := { frames := 0, cells := 0, slots := 0, locals := 0 }
def w_X_cover : List Cond := .code y_X_cover b_X_cover 5 (some .int) :: mm_G
abbrev rm_X_cover : Room := { frames := 1, cells := 0, slots := 0, locals := 23 }
def w_X_monthOf : List Cond := .code y_X_monthOf b_X_monthOf 1 (some .int) :: mm_G
abbrev rm_X_monthOf : Room := { frames := 0, cells := 0, slots := 0, locals := 0 }
def w_Title_lastFreeMonth : List Cond := .code y_Title_lastFreeMonth b_Title_lastFreeMonth 2 (some .int) :: mm_G
abbrev rm_Title_lastFreeMonth : Room := { frames := 1, cells := 0, slots := 0, locals := 20 }
def w_X_embargo : List Cond := .code y_X_embargo b_X_embargo 5 (some .int) :: mm_G
abbrev rm_X_embargo : Room := { frames := 2, cells := 0, slots := 0, locals := 41 }
def w_X_isValueOf : List Cond := .code y_X_isValueOf b_X_isValueOf 2 (some .boolean) :: mm_G
abbrev rm_X_isValueOf : Room := { frames := 0, cells := 0, slots := 0, locals := 0 }
def w_Rule_init : List Cond := .code y_Rule_init b_Rule_init 5 none :: mm_G
abbrev rm_Rule_init : Room := { frames := 1, cells := 0, slots := 0, locals := 12 }
def w_X_rule : List Cond := .code y_X_rule b_X_rule 5 (some .int) :: mm_G
abbrev rm_X_rule : Room := { frames := 2, cells := 1, slots := 5, locals := 36 }
def w_X_findRule : List Cond := .code y_X_findRule b_X_findRule 2 (some (.object "LicenceRows2$Rule")) :: mm_G
abbrev rm_X_findRule : Room := { frames := 0, cells := 0, slots := 0, locals := 0 }
def w_X_fails : List Cond := .code y_X_fails b_X_fails 4 (some .int) :: mm_G
abbrev rm_X_fails : Room := { frames := 1, cells := 0, slots := 0, locals := 21 }
def w_X_isReader : List Cond := .code y_X_isReader b_X_isReader 1 (some .boolean) :: mm_G
abbrev rm_X_isReader : Room := { frames := 0, cells := 0, slots := 0, locals := 0 }
def w_X_reader : List Cond := .code y_X_reader b_X_reader 3 (some .int) :: mm_G
abbrev rm_X_reader : Room := { frames := 1, cells := 0, slots := 0, locals := 20 }
def w_Pack_hasPlace : List Cond := .code y_Pack_hasPlace b_Pack_hasPlace 1 (some .boolean) :: mm_G
abbrev rm_Pack_hasPlace : Room := { frames := 0, cells := 0, slots := 0, locals := 0 }
def w_Line_placeOf : List Cond := .code y_Line_placeOf b_Line_placeOf 3 (some .int) :: mm_G
abbrev rm_Line_placeOf : Room := { frames := 0, cells := 0, slots := 0, locals := 0 }
def w_Line_drop : List Cond := .code y_Line_drop b_Line_drop 4 (some .boolean) :: mm_G
abbrev rm_Line_drop : Room := { frames := 1, cells := 0, slots := 0, locals := 22 }
def w_Line_append : List Cond := .code y_Line_append b_Line_append 2 none :: mm_G
abbrev rm_Line_append : Room := { frames := 0, cells := 0, slots := 0, locals := 0 }
def w_Pack_admitNext : List Cond := .code y_Pack_admitNext b_Pack_admitNext 2 (some .int) :: mm_G
abbrev rm_Pack_admitNext : Room := { frames := 2, cells := 0, slots := 0, locals := 45 }
def w_X_room : List Cond := .code y_X_room b_X_room 5 (some .int) :: mm_G
abbrev rm_X_room : Room := { frames := 3, cells := 0, slots := 0, locals := 66 }
def w_Line_holds : List Cond := .code y_Line_holds b_Line_holds 2 (some .boolean) :: mm_G
abbrev rm_Line_holds : Room := { frames := 1, cells := 0, slots := 0, locals := 22 }
def w_X_in : List Cond := .code y_X_in b_X_in 4 (some .int) :: mm_G
abbrev rm_X_in : Room := { frames := 2, cells := 0, slots := 0, locals := 43 }
def w_X_out : List Cond := .code y_X_out b_X_out 4 (some .int) :: mm_G
abbrev rm_X_out : Room := { frames := 3, cells := 0, slots := 0, locals := 66 }
def w_Pack_hasEndedBy : List Cond := .code y_Pack_hasEndedBy b_Pack_hasEndedBy 2 (some .boolean) :: mm_G
abbrev rm_Pack_hasEndedBy : Room := { frames := 0, cells := 0, slots := 0, locals := 0 }
def w_Pack_keepsDay : List Cond := .code y_Pack_keepsDay b_Pack_keepsDay 2 (some .boolean) :: mm_G
abbrev rm_Pack_keepsDay : Room := { frames := 0, cells := 0, slots := 0, locals := 0 }
def w_Title_covers : List Cond := .code y_Title_covers b_Title_covers 3 (some .boolean) :: mm_G
abbrev rm_Title_covers : Room := { frames := 0, cells := 0, slots := 0, locals := 0 }
def w_Usages_ofReaderIn : List Cond := .code y_Usages_ofReaderIn b_Usages_ofReaderIn 5 (some .int) :: mm_G
abbrev rm_Usages_ofReaderIn : Room := { frames := 0, cells := 0, slots := 0, locals := 0 }
def w_Notices_append : List Cond := .code y_Notices_append b_Notices_append 3 none :: mm_G
abbrev rm_Notices_append : Room := { frames := 0, cells := 0, slots := 0, locals := 0 }
def w_Rule_fits : List Cond := .code y_Rule_fits b_Rule_fits 5 (some .boolean) :: mm_G
abbrev rm_Rule_fits : Room := { frames := 0, cells := 0, slots := 0, locals := 0 }
def w_X_rulesAllow : List Cond := .code y_X_rulesAllow b_X_rulesAllow 7 (some .boolean) :: mm_G
abbrev rm_X_rulesAllow : Room := { frames := 1, cells := 0, slots := 0, locals := 24 }
def w_X_judge : List Cond := .code y_X_judge b_X_judge 5 (some .int) :: mm_G
abbrev rm_X_judge : Room := { frames := 2, cells := 0, slots := 0, locals := 50 }
def w_Usages_append : List Cond := .code y_Usages_append b_Usages_append 4 none :: mm_G
abbrev rm_Usages_append : Room := { frames := 0, cells := 0, slots := 0, locals := 0 }
def w_X_access : List Cond := .code y_X_access b_X_access 7 (some .int) :: mm_G
abbrev rm_X_access : Room := { frames := 3, cells := 0, slots := 0, locals := 74 }
def w_X_failed : List Cond := .code y_X_failed b_X_failed 1 (some .int) :: mm_G
abbrev rm_X_failed : Room := { frames := 0, cells := 0, slots := 0, locals := 0 }
def w_X_provider : List Cond := .code y_X_provider b_X_provider 5 (some .int) :: mm_G
abbrev rm_X_provider : Room := { frames := 1, cells := 0, slots := 0, locals := 24 }
def w_Title_lastDay : List Cond := .code y_Title_lastDay b_Title_lastDay 1 (some .int) :: mm_G
abbrev rm_Title_lastDay : Room := { frames := 0, cells := 0, slots := 0, locals := 0 }
def w_X_countGoingOn : List Cond := .code y_X_countGoingOn b_X_countGoingOn 6 (some .int) :: mm_G
abbrev rm_X_countGoingOn : Room := { frames := 1, cells := 0, slots := 0, locals := 20 }
def w_X_end : List Cond := .code y_X_end b_X_end 4 (some .int) :: mm_G
abbrev rm_X_end : Room := { frames := 2, cells := 0, slots := 0, locals := 45 }
def w_Usages_ofTitle : List Cond := .code y_Usages_ofTitle b_Usages_ofTitle 4 (some .int) :: mm_G
abbrev rm_Usages_ofTitle : Room := { frames := 0, cells := 0, slots := 0, locals := 0 }
def w_Title_firstDay : List Cond := .code y_Title_firstDay b_Title_firstDay 1 (some .int) :: mm_G
abbrev rm_Title_firstDay : Room := { frames := 0, cells := 0, slots := 0, locals := 0 }
def w_X_about : List Cond := .code y_X_about b_X_about 4 (some .int) :: mm_G
abbrev rm_X_about : Room := { frames := 1, cells := 0, slots := 0, locals := 23 }
def w_X_gap : List Cond := .code y_X_gap b_X_gap 5 (some .int) :: mm_G
abbrev rm_X_gap : Room := { frames := 1, cells := 0, slots := 0, locals := 21 }
def w_Usages_ofTitleIn : List Cond := .code y_Usages_ofTitleIn b_Usages_ofTitleIn 5 (some .int) :: mm_G
abbrev rm_Usages_ofTitleIn : Room := { frames := 0, cells := 0, slots := 0, locals := 0 }
def w_X_usage : List Cond := .code y_X_usage b_X_usage 3 (some .int) :: mm_G
abbrev rm_X_usage : Room := { frames := 1, cells := 0, slots := 0, locals := 24 }
def w_X_told : List Cond := .code y_X_told b_X_told 3 (some .int) :: mm_G
abbrev rm_X_told : Room := { frames := 0, cells := 0, slots := 0, locals := 0 }
def w_Line_at : List Cond := .code y_Line_at b_Line_at 2 (some .int) :: mm_G
abbrev rm_Line_at : Room := { frames := 0, cells := 0, slots := 0, locals := 0 }
def w_X_who : List Cond := .code y_X_who b_X_who 5 (some .int) :: mm_G
abbrev rm_X_who : Room := { frames := 1, cells := 0, slots := 0, locals := 21 }
def w_Mo_init : List Cond := .code y_Mo_init b_Mo_init 1 none :: mm_G
abbrev rm_Mo_init : Room := { frames := 1, cells := 25, slots := 22188, locals := 12 }
def w_Mo_in1 : List Cond := .code y_Mo_in1 b_Mo_in1 3 (some .boolean) :: mm_G
abbrev rm_Mo_in1 : Room := { frames := 0, cells := 0, slots := 0, locals := 0 }
def w_Mo_isDay : List Cond := .code y_Mo_isDay b_Mo_isDay 1 (some .boolean) :: mm_G
abbrev rm_Mo_isDay : Room := { frames := 1, cells := 0, slots := 0, locals := 22 }
def w_Mo_isPack : List Cond := .code y_Mo_isPack b_Mo_isPack 2 (some .boolean) :: mm_G
abbrev rm_Mo_isPack : Room := { frames := 1, cells := 0, slots := 0, locals := 22 }
def w_Mo_isTitle : List Cond := .code y_Mo_isTitle b_Mo_isTitle 2 (some .boolean) :: mm_G
abbrev rm_Mo_isTitle : Room := { frames := 1, cells := 0, slots := 0, locals := 22 }
def w_Mo_tell : List Cond := .code y_Mo_tell b_Mo_tell 3 none :: mm_G
abbrev rm_Mo_tell : Room := { frames := 0, cells := 0, slots := 0, locals := 0 }
def w_Mo_pack : List Cond := .code y_Mo_pack b_Mo_pack 2 (some .int) :: mm_G
abbrev rm_Mo_pack : Room := { frames := 0, cells := 0, slots := 0, locals := 0 }
def w_Mo_find : List Cond := .code y_Mo_find b_Mo_find 4 (some .int) :: mm_G
abbrev rm_Mo_find : Room := { frames := 0, cells := 0, slots := 0, locals := 0 }
def w_Mo_title : List Cond := .code y_Mo_title b_Mo_title 3 (some .int) :: mm_G
abbrev rm_Mo_title : Room := { frames := 2, cells := 0, slots := 0, locals := 43 }
def w_Mo_cover : List Cond := .code y_Mo_cover b_Mo_cover 5 (some .int) :: mm_G
abbrev rm_Mo_cover : Room := { frames := 2, cells := 0, slots := 0, locals := 43 }
def w_Mo_embargo : List Cond := .code y_Mo_embargo b_Mo_embargo 5 (some .int) :: mm_G
abbrev rm_Mo_embargo : Room := { frames := 2, cells := 0, slots := 0, locals := 43 }
def w_Mo_rule : List Cond := .code y_Mo_rule b_Mo_rule 6 (some .int) :: mm_G
abbrev rm_Mo_rule : Room := { frames := 2, cells := 0, slots := 0, locals := 43 }
def w_Mo_fails : List Cond := .code y_Mo_fails b_Mo_fails 3 (some .int) :: mm_G
abbrev rm_Mo_fails : Room := { frames := 1, cells := 0, slots := 0, locals := 22 }
def w_Mo_reader : List Cond := .code y_Mo_reader b_Mo_reader 3 (some .int) :: mm_G
abbrev rm_Mo_reader : Room := { frames := 1, cells := 0, slots := 0, locals := 22 }
def w_Mo_placeIn : List Cond := .code y_Mo_placeIn b_Mo_placeIn 4 (some .int) :: mm_G
abbrev rm_Mo_placeIn : Room := { frames := 0, cells := 0, slots := 0, locals := 0 }
def w_Mo_placeWaiting : List Cond := .code y_Mo_placeWaiting b_Mo_placeWaiting 4 (some .int) :: mm_G
abbrev rm_Mo_placeWaiting : Room := { frames := 0, cells := 0, slots := 0, locals := 0 }
def w_Mo_enter : List Cond := .code y_Mo_enter b_Mo_enter 3 none :: mm_G
abbrev rm_Mo_enter : Room := { frames := 0, cells := 0, slots := 0, locals := 0 }
def w_Mo_dropWaiter : List Cond := .code y_Mo_dropWaiter b_Mo_dropWaiter 4 none :: mm_G
abbrev rm_Mo_dropWaiter : Room := { frames := 0, cells := 0, slots := 0, locals := 0 }
def w_Mo_admit : List Cond := .code y_Mo_admit b_Mo_admit 3 (some .int) :: mm_G
abbrev rm_Mo_admit : Room := { frames := 1, cells := 0, slots := 0, locals := 23 }
def w_Mo_room : List Cond := .code y_Mo_room b_Mo_room 4 (some .int) :: mm_G
abbrev rm_Mo_room : Room := { frames := 2, cells := 0, slots := 0, locals := 45 }
def w_Mo_in : List Cond := .code y_Mo_in b_Mo_in 3 (some .int) :: mm_G
abbrev rm_Mo_in : Room := { frames := 2, cells := 0, slots := 0, locals := 43 }
def w_Mo_out : List Cond := .code y_Mo_out b_Mo_out 6 (some .int) :: mm_G
abbrev rm_Mo_out : Room := { frames := 2, cells := 0, slots := 0, locals := 45 }
def w_Mo_covers : List Cond := .code y_Mo_covers b_Mo_covers 5 (some .boolean) :: mm_G
abbrev rm_Mo_covers : Room := { frames := 1, cells := 0, slots := 0, locals := 22 }
def w_Mo_usagesOf : List Cond := .code y_Mo_usagesOf b_Mo_usagesOf 5 (some .int) :: mm_G
abbrev rm_Mo_usagesOf : Room := { frames := 0, cells := 0, slots := 0, locals := 0 }
def w_Mo_fits : List Cond := .code y_Mo_fits b_Mo_fits 5 (some .boolean) :: mm_G
abbrev rm_Mo_fits : Room := { frames := 1, cells := 0, slots := 0, locals := 24 }
def w_Mo_allows : List Cond := .code y_Mo_allows b_Mo_allows 5 (some .boolean) :: mm_G
abbrev rm_Mo_allows : Room := { frames := 2, cells := 0, slots := 0, locals := 48 }
def w_Mo_access : List Cond := .code y_Mo_access b_Mo_access 6 (some .int) :: mm_G
abbrev rm_Mo_access : Room := { frames := 3, cells := 0, slots := 0, locals := 72 }
def w_Mo_failed : List Cond := .code y_Mo_failed b_Mo_failed 1 (some .int) :: mm_G
abbrev rm_Mo_failed : Room := { frames := 0, cells := 0, slots := 0, locals := 0 }
def w_Mo_provider : List Cond := .code y_Mo_provider b_Mo_provider 5 (some .int) :: mm_G
abbrev rm_Mo_provider : Room := { frames := 2, cells := 0, slots := 0, locals := 43 }
def w_Mo_bound : List Cond := .code y_Mo_bound b_Mo_bound 5 (some .int) :: mm_G
abbrev rm_Mo_bound : Room := { frames := 0, cells := 0, slots := 0, locals := 0 }
def w_Mo_end : List Cond := .code y_Mo_end b_Mo_end 5 (some .int) :: mm_G
abbrev rm_Mo_end : Room := { frames := 2, cells := 0, slots := 0, locals := 43 }
def w_Mo_about : List Cond := .code y_Mo_about b_Mo_about 5 (some .int) :: mm_G
abbrev rm_Mo_about : Room := { frames := 2, cells := 0, slots := 0, locals := 43 }
def w_Mo_nextSpan : List Cond := .code y_Mo_nextSpan b_Mo_nextSpan 5 (some .int) :: mm_G
abbrev rm_Mo_nextSpan : Room := { frames := 0, cells := 0, slots := 0, locals := 0 }
def w_Mo_gap : List Cond := .code y_Mo_gap b_Mo_gap 6 (some .int) :: mm_G
abbrev rm_Mo_gap : Room := { frames := 2, cells := 0, slots := 0, locals := 43 }
def w_Mo_usage : List Cond := .code y_Mo_usage b_Mo_usage 5 (some .int) :: mm_G
abbrev rm_Mo_usage : Room := { frames := 2, cells := 0, slots := 0, locals := 43 }
def w_Mo_told : List Cond := .code y_Mo_told b_Mo_told 3 (some .int) :: mm_G
abbrev rm_Mo_told : Room := { frames := 1, cells := 0, slots := 0, locals := 22 }
def w_Mo_who : List Cond := .code y_Mo_who b_Mo_who 4 (some .int) :: mm_G
abbrev rm_Mo_who : Room := { frames := 2, cells := 0, slots := 0, locals := 43 }
theorem k_Usages_9 : mm_FL R_Usages 9 7 0 := ⟨R_Usages, F_Usages, 4, rfl, by decide, i_Usages, q_4⟩
theorem k_Usages_15 : mm_FL R_Usages 15 7 1 := ⟨R_Usages, F_Usages, 4, rfl, by decide, i_Usages, q_5⟩
theorem k_Usages_18 : mm_FL R_Usages 18 7 2 := ⟨R_Usages, F_Usages, 4, rfl, by decide, i_Usages, q_6⟩
theorem k_Usages_21 : mm_FL R_Usages 21 7 3 := ⟨R_Usages, F_Usages, 4, rfl, by decide, i_Usages, q_7⟩
theorem k_Notices_9 : mm_FL R_Notices 9 3 0 := ⟨R_Notices, F_Notices, 3, rfl, by decide, i_Notices, q_9⟩
theorem k_Notices_15 : mm_FL R_Notices 15 3 1 := ⟨R_Notices, F_Notices, 3, rfl, by decide, i_Notices, q_10⟩
theorem k_Notices_18 : mm_FL R_Notices 18 3 2 := ⟨R_Notices, F_Notices, 3, rfl, by decide, i_Notices, q_11⟩
theorem k_X_11 : mm_FL R_X 11 0 0 := ⟨R_X, F_X, 10, rfl, by decide, i_X, q_14⟩
theorem k_X_15 : mm_FL R_X 15 0 1 := ⟨R_X, F_X, 10, rfl, by decide, i_X, q_15⟩
theorem k_X_21 : mm_FL R_X 21 0 2 := ⟨R_X, F_X, 10, rfl, by decide, i_X, q_17⟩
theorem k_X_25 : mm_FL R_X 25 0 3 := ⟨R_X, F_X, 10, rfl, by decide, i_X, q_18⟩
theorem k_X_30 : mm_FL R_X 30 0 4 := ⟨R_X, F_X, 10, rfl, by decide, i_X, q_20⟩
theorem k_X_34 : mm_FL R_X 34 0 5 := ⟨R_X, F_X, 10, rfl, by decide, i_X, q_21⟩
theorem k_X_37 : mm_FL R_X 37 0 6 := ⟨R_X, F_X, 10, rfl, by decide, i_X, q_22⟩
theorem k_X_44 : mm_FL R_X 44 0 7 := ⟨R_X, F_X, 10, rfl, by decide, i_X, q_28⟩
theorem k_X_51 : mm_FL R_X 51 0 8 := ⟨R_X, F_X, 10, rfl, by decide, i_X, q_34⟩
theorem k_X_55 : mm_FL R_X 55 0 9 := ⟨R_X, F_X, 10, rfl, by decide, i_X, q_35⟩
theorem k_Line_9 : mm_FL R_Line 9 2 0 := ⟨R_Line, F_Line, 2, rfl, by decide, i_Line, q_37⟩
theorem k_Line_15 : mm_FL R_Line 15 2 1 := ⟨R_Line, F_Line, 2, rfl, by decide, i_Line, q_38⟩
theorem k_Pack_12 : mm_FL R_Pack 12 4 2 := ⟨R_Pack, F_Pack, 6, rfl, by decide, i_Pack, q_45⟩
theorem k_Pack_18 : mm_FL R_Pack 18 4 3 := ⟨R_Pack, F_Pack, 6, rfl, by decide, i_Pack, q_46⟩
theorem k_Pack_21 : mm_FL R_Pack 21 4 4 := ⟨R_Pack, F_Pack, 6, rfl, by decide, i_Pack, q_47⟩
theorem k_Pack_25 : mm_FL R_Pack 25 4 5 := ⟨R_Pack, F_Pack, 6, rfl, by decide, i_Pack, q_48⟩
theorem k_Pack_28 : mm_FL R_Pack 28 4 0 := ⟨R_Pack, F_Pack, 6, rfl, by decide, i_Pack, q_49⟩
theorem k_Pack_31 : mm_FL R_Pack 31 4 1 := ⟨R_Pack, F_Pack, 6, rfl, by decide, i_Pack, q_50⟩
theorem k_X_175 : mm_FL R_X 175 6 0 := ⟨R_Title, F_Title, 7, rfl, by decide, i_Title, q_56⟩
theorem k_X_179 : mm_FL R_X 179 4 0 := ⟨R_Pack, F_Pack, 6, rfl, by decide, i_Pack, q_57⟩
theorem k_X_166 : mm_FL R_X 166 6 1 := ⟨R_Title, F_Title, 7, rfl, by decide, i_Title, q_58⟩
theorem k_Title_9 : mm_FL R_Title 9 6 2 := ⟨R_Title, F_Title, 7, rfl, by decide, i_Title, q_60⟩
theorem k_Title_15 : mm_FL R_Title 15 6 3 := ⟨R_Title, F_Title, 7, rfl, by decide, i_Title, q_61⟩
theorem k_Title_19 : mm_FL R_Title 19 6 4 := ⟨R_Title, F_Title, 7, rfl, by decide, i_Title, q_62⟩
theorem k_Title_23 : mm_FL R_Title 23 6 5 := ⟨R_Title, F_Title, 7, rfl, by decide, i_Title, q_63⟩
theorem k_Title_26 : mm_FL R_Title 26 6 6 := ⟨R_Title, F_Title, 7, rfl, by decide, i_Title, q_64⟩
theorem k_Title_29 : mm_FL R_Title 29 6 0 := ⟨R_Title, F_Title, 7, rfl, by decide, i_Title, q_65⟩
theorem k_Title_33 : mm_FL R_Title 33 6 1 := ⟨R_Title, F_Title, 7, rfl, by decide, i_Title, q_66⟩
theorem k_X_84 : mm_FL R_X 84 6 6 := ⟨R_Title, F_Title, 7, rfl, by decide, i_Title, q_93⟩
theorem k_X_91 : mm_FL R_X 91 6 3 := ⟨R_Title, F_Title, 7, rfl, by decide, i_Title, q_100⟩
theorem k_Rule_9 : mm_FL R_Rule 9 5 4 := ⟨R_Rule, F_Rule, 5, rfl, by decide, i_Rule, q_111⟩
theorem k_Rule_15 : mm_FL R_Rule 15 5 0 := ⟨R_Rule, F_Rule, 5, rfl, by decide, i_Rule, q_112⟩
theorem k_Rule_19 : mm_FL R_Rule 19 5 1 := ⟨R_Rule, F_Rule, 5, rfl, by decide, i_Rule, q_113⟩
theorem k_Rule_22 : mm_FL R_Rule 22 5 2 := ⟨R_Rule, F_Rule, 5, rfl, by decide, i_Rule, q_114⟩
theorem k_Rule_25 : mm_FL R_Rule 25 5 3 := ⟨R_Rule, F_Rule, 5, rfl, by decide, i_Rule, q_115⟩
theorem k_X_114 : mm_FL R_X 114 5 4 := ⟨R_Rule, F_Rule, 5, rfl, by decide, i_Rule, q_128⟩
theorem k_Pack_35 : mm_FL R_Pack 35 2 1 := ⟨R_Line, F_Line, 2, rfl, by decide, i_Line, q_132⟩
theorem k_Pack_42 : mm_FL R_Pack 42 2 0 := ⟨R_Line, F_Line, 2, rfl, by decide, i_Line, q_141⟩
theorem k_X_121 : mm_FL R_X 121 4 4 := ⟨R_Pack, F_Pack, 6, rfl, by decide, i_Pack, q_154⟩
theorem k_X_128 : mm_FL R_X 128 4 2 := ⟨R_Pack, F_Pack, 6, rfl, by decide, i_Pack, q_155⟩
theorem k_X_137 : mm_FL R_X 137 4 3 := ⟨R_Pack, F_Pack, 6, rfl, by decide, i_Pack, q_160⟩
theorem k_X_229 : mm_FL R_X 229 5 0 := ⟨R_Rule, F_Rule, 5, rfl, by decide, i_Rule, q_164⟩
theorem k_X_235 : mm_FL R_X 235 5 2 := ⟨R_Rule, F_Rule, 5, rfl, by decide, i_Rule, q_169⟩
theorem k_X_163 : mm_FL R_X 163 6 2 := ⟨R_Title, F_Title, 7, rfl, by decide, i_Title, q_187⟩
theorem k_X_169 : mm_FL R_X 169 4 5 := ⟨R_Pack, F_Pack, 6, rfl, by decide, i_Pack, q_208⟩
theorem k_X_194 : mm_FL R_X 194 6 4 := ⟨R_Title, F_Title, 7, rfl, by decide, i_Title, q_221⟩
theorem k_X_191 : mm_FL R_X 191 6 5 := ⟨R_Title, F_Title, 7, rfl, by decide, i_Title, q_222⟩
theorem k_X_200 : mm_FL R_X 200 3 2 := ⟨R_Notices, F_Notices, 3, rfl, by decide, i_Notices, q_227⟩
theorem k_X_206 : mm_FL R_X 206 3 1 := ⟨R_Notices, F_Notices, 3, rfl, by decide, i_Notices, q_228⟩
theorem k_X_203 : mm_FL R_X 203 3 0 := ⟨R_Notices, F_Notices, 3, rfl, by decide, i_Notices, q_229⟩
theorem k_X_209 : mm_FL R_X 209 2 1 := ⟨R_Line, F_Line, 2, rfl, by decide, i_Line, q_234⟩
theorem k_Mo_7 : mm_FL R_Mo 7 1 2 := ⟨R_Mo, F_Mo, 32, rfl, by decide, i_Mo, q_237⟩
theorem k_Mo_13 : mm_FL R_Mo 13 1 3 := ⟨R_Mo, F_Mo, 32, rfl, by decide, i_Mo, q_238⟩
theorem k_Mo_17 : mm_FL R_Mo 17 1 4 := ⟨R_Mo, F_Mo, 32, rfl, by decide, i_Mo, q_239⟩
theorem k_Mo_20 : mm_FL R_Mo 20 1 5 := ⟨R_Mo, F_Mo, 32, rfl, by decide, i_Mo, q_240⟩
theorem k_Mo_23 : mm_FL R_Mo 23 1 6 := ⟨R_Mo, F_Mo, 32, rfl, by decide, i_Mo, q_241⟩
theorem k_Mo_26 : mm_FL R_Mo 26 1 7 := ⟨R_Mo, F_Mo, 32, rfl, by decide, i_Mo, q_242⟩
theorem k_Mo_29 : mm_FL R_Mo 29 1 8 := ⟨R_Mo, F_Mo, 32, rfl, by decide, i_Mo, q_243⟩
theorem k_Mo_32 : mm_FL R_Mo 32 1 10 := ⟨R_Mo, F_Mo, 32, rfl, by decide, i_Mo, q_244⟩
theorem k_Mo_35 : mm_FL R_Mo 35 1 11 := ⟨R_Mo, F_Mo, 32, rfl, by decide, i_Mo, q_245⟩
theorem k_Mo_38 : mm_FL R_Mo 38 1 12 := ⟨R_Mo, F_Mo, 32, rfl, by decide, i_Mo, q_246⟩
theorem k_Mo_41 : mm_FL R_Mo 41 1 13 := ⟨R_Mo, F_Mo, 32, rfl, by decide, i_Mo, q_247⟩
theorem k_Mo_44 : mm_FL R_Mo 44 1 14 := ⟨R_Mo, F_Mo, 32, rfl, by decide, i_Mo, q_248⟩
theorem k_Mo_47 : mm_FL R_Mo 47 1 15 := ⟨R_Mo, F_Mo, 32, rfl, by decide, i_Mo, q_249⟩
theorem k_Mo_50 : mm_FL R_Mo 50 1 16 := ⟨R_Mo, F_Mo, 32, rfl, by decide, i_Mo, q_250⟩
theorem k_Mo_53 : mm_FL R_Mo 53 1 18 := ⟨R_Mo, F_Mo, 32, rfl, by decide, i_Mo, q_251⟩
theorem k_Mo_56 : mm_FL R_Mo 56 1 19 := ⟨R_Mo, F_Mo, 32, rfl, by decide, i_Mo, q_252⟩
theorem k_Mo_59 : mm_FL R_Mo 59 1 20 := ⟨R_Mo, F_Mo, 32, rfl, by decide, i_Mo, q_253⟩
theorem k_Mo_62 : mm_FL R_Mo 62 1 21 := ⟨R_Mo, F_Mo, 32, rfl, by decide, i_Mo, q_254⟩
theorem k_Mo_65 : mm_FL R_Mo 65 1 22 := ⟨R_Mo, F_Mo, 32, rfl, by decide, i_Mo, q_255⟩
theorem k_Mo_68 : mm_FL R_Mo 68 1 23 := ⟨R_Mo, F_Mo, 32, rfl, by decide, i_Mo, q_256⟩
theorem k_Mo_72 : mm_FL R_Mo 72 1 24 := ⟨R_Mo, F_Mo, 32, rfl, by decide, i_Mo, q_257⟩
theorem k_Mo_75 : mm_FL R_Mo 75 1 26 := ⟨R_Mo, F_Mo, 32, rfl, by decide, i_Mo, q_258⟩
theorem k_Mo_78 : mm_FL R_Mo 78 1 27 := ⟨R_Mo, F_Mo, 32, rfl, by decide, i_Mo, q_259⟩
theorem k_Mo_81 : mm_FL R_Mo 81 1 28 := ⟨R_Mo, F_Mo, 32, rfl, by decide, i_Mo, q_260⟩
theorem k_Mo_84 : mm_FL R_Mo 84 1 30 := ⟨R_Mo, F_Mo, 32, rfl, by decide, i_Mo, q_261⟩
theorem k_Mo_87 : mm_FL R_Mo 87 1 31 := ⟨R_Mo, F_Mo, 32, rfl, by decide, i_Mo, q_262⟩
theorem k_Mo_98 : mm_FL R_Mo 98 1 1 := ⟨R_Mo, F_Mo, 32, rfl, by decide, i_Mo, q_268⟩
theorem k_Mo_101 : mm_FL R_Mo 101 1 9 := ⟨R_Mo, F_Mo, 32, rfl, by decide, i_Mo, q_269⟩
theorem k_Mo_104 : mm_FL R_Mo 104 1 29 := ⟨R_Mo, F_Mo, 32, rfl, by decide, i_Mo, q_270⟩
theorem k_Mo_90 : mm_FL R_Mo 90 1 0 := ⟨R_Mo, F_Mo, 32, rfl, by decide, i_Mo, q_271⟩
theorem k_Mo_122 : mm_FL R_Mo 122 1 17 := ⟨R_Mo, F_Mo, 32, rfl, by decide, i_Mo, q_287⟩
theorem k_Mo_142 : mm_FL R_Mo 142 1 25 := ⟨R_Mo, F_Mo, 32, rfl, by decide, i_Mo, q_309⟩
theorem kp_Usages_9 : mm_FP R_Usages 9 7 0 (.array .int) true := ⟨R_Usages, F_Usages, 4, t_Usages, rfl, by decide, i_Usages, q_4, t_Usages_ok, n_Usages, rfl, by decide +kernel, fun h => by first | rfl | cases h⟩
theorem kp_Usages_15 : mm_FP R_Usages 15 7 1 (.array .int) true := ⟨R_Usages, F_Usages, 4, t_Usages, rfl, by decide, i_Usages, q_5, t_Usages_ok, n_Usages, rfl, by decide +kernel, fun h => by first | rfl | cases h⟩
theorem kp_Usages_18 : mm_FP R_Usages 18 7 2 (.array .int) true := ⟨R_Usages, F_Usages, 4, t_Usages, rfl, by decide, i_Usages, q_6, t_Usages_ok, n_Usages, rfl, by decide +kernel, fun h => by first | rfl | cases h⟩
theorem kp_Usages_21 : mm_FP R_Usages 21 7 3 .int false := ⟨R_Usages, F_Usages, 4, t_Usages, rfl, by decide, i_Usages, q_7, t_Usages_ok, n_Usages, rfl, by decide +kernel, fun h => by first | rfl | cases h⟩
theorem kp_Notices_9 : mm_FP R_Notices 9 3 0 (.array .int) true := ⟨R_Notices, F_Notices, 3, t_Notices, rfl, by decide, i_Notices, q_9, t_Notices_ok, n_Notices, rfl, by decide +kernel, fun h => by first | rfl | cases h⟩
theorem kp_Notices_15 : mm_FP R_Notices 15 3 1 (.array .int) true := ⟨R_Notices, F_Notices, 3, t_Notices, rfl, by decide, i_Notices, q_10, t_Notices_ok, n_Notices, rfl, by decide +kernel, fun h => by first | rfl | cases h⟩
theorem kp_Notices_18 : mm_FP R_Notices 18 3 2 .int false := ⟨R_Notices, F_Notices, 3, t_Notices, rfl, by decide, i_Notices, q_11, t_Notices_ok, n_Notices, rfl, by decide +kernel, fun h => by first | rfl | cases h⟩
theorem kp_X_11 : mm_FP R_X 11 0 0 (.array (.object "LicenceRows2$Pack")) true := ⟨R_X, F_X, 10, t_X, rfl, by decide, i_X, q_14, t_X_ok, n_X, rfl, by decide +kernel, fun h => by first | rfl | cases h⟩
theorem kp_X_15 : mm_FP R_X 15 0 1 .int false := ⟨R_X, F_X, 10, t_X, rfl, by decide, i_X, q_15, t_X_ok, n_X, rfl, by decide +kernel, fun h => by first | rfl | cases h⟩
theorem kp_X_21 : mm_FP R_X 21 0 2 (.array (.object "LicenceRows2$Title")) true := ⟨R_X, F_X, 10, t_X, rfl, by decide, i_X, q_17, t_X_ok, n_X, rfl, by decide +kernel, fun h => by first | rfl | cases h⟩
theorem kp_X_25 : mm_FP R_X 25 0 3 .int false := ⟨R_X, F_X, 10, t_X, rfl, by decide, i_X, q_18, t_X_ok, n_X, rfl, by decide +kernel, fun h => by first | rfl | cases h⟩
theorem kp_X_30 : mm_FP R_X 30 0 4 (.array (.object "LicenceRows2$Rule")) true := ⟨R_X, F_X, 10, t_X, rfl, by decide, i_X, q_20, t_X_ok, n_X, rfl, by decide +kernel, fun h => by first | rfl | cases h⟩
theorem kp_X_34 : mm_FP R_X 34 0 5 .int false := ⟨R_X, F_X, 10, t_X, rfl, by decide, i_X, q_21, t_X_ok, n_X, rfl, by decide +kernel, fun h => by first | rfl | cases h⟩
theorem kp_X_37 : mm_FP R_X 37 0 6 (.array .int) true := ⟨R_X, F_X, 10, t_X, rfl, by decide, i_X, q_22, t_X_ok, n_X, rfl, by decide +kernel, fun h => by first | rfl | cases h⟩
theorem kp_X_44 : mm_FP R_X 44 0 7 (.object "LicenceRows2$Usages") true := ⟨R_X, F_X, 10, t_X, rfl, by decide, i_X, q_28, t_X_ok, n_X, rfl, by decide +kernel, fun h => by first | rfl | cases h⟩
theorem kp_X_51 : mm_FP R_X 51 0 8 (.object "LicenceRows2$Notices") true := ⟨R_X, F_X, 10, t_X, rfl, by decide, i_X, q_34, t_X_ok, n_X, rfl, by decide +kernel, fun h => by first | rfl | cases h⟩
theorem kp_X_55 : mm_FP R_X 55 0 9 .int false := ⟨R_X, F_X, 10, t_X, rfl, by decide, i_X, q_35, t_X_ok, n_X, rfl, by decide +kernel, fun h => by first | rfl | cases h⟩
theorem kp_Line_9 : mm_FP R_Line 9 2 0 (.array .int) true := ⟨R_Line, F_Line, 2, t_Line, rfl, by decide, i_Line, q_37, t_Line_ok, n_Line, rfl, by decide +kernel, fun h => by first | rfl | cases h⟩
theorem kp_Line_15 : mm_FP R_Line 15 2 1 .int false := ⟨R_Line, F_Line, 2, t_Line, rfl, by decide, i_Line, q_38, t_Line_ok, n_Line, rfl, by decide +kernel, fun h => by first | rfl | cases h⟩
theorem kp_Pack_12 : mm_FP R_Pack 12 4 2 (.object "LicenceRows2$Line") true := ⟨R_Pack, F_Pack, 6, t_Pack, rfl, by decide, i_Pack, q_45, t_Pack_ok, n_Pack, rfl, by decide +kernel, fun h => by first | rfl | cases h⟩
theorem kp_Pack_18 : mm_FP R_Pack 18 4 3 (.object "LicenceRows2$Line") true := ⟨R_Pack, F_Pack, 6, t_Pack, rfl, by decide, i_Pack, q_46, t_Pack_ok, n_Pack, rfl, by decide +kernel, fun h => by first | rfl | cases h⟩
theorem kp_Pack_21 : mm_FP R_Pack 21 4 4 .int false := ⟨R_Pack, F_Pack, 6, t_Pack, rfl, by decide, i_Pack, q_47, t_Pack_ok, n_Pack, rfl, by decide +kernel, fun h => by first | rfl | cases h⟩
theorem kp_Pack_25 : mm_FP R_Pack 25 4 5 .int false := ⟨R_Pack, F_Pack, 6, t_Pack, rfl, by decide, i_Pack, q_48, t_Pack_ok, n_Pack, rfl, by decide +kernel, fun h => by first | rfl | cases h⟩
theorem kp_Pack_28 : mm_FP R_Pack 28 4 0 .int true := ⟨R_Pack, F_Pack, 6, t_Pack, rfl, by decide, i_Pack, q_49, t_Pack_ok, n_Pack, rfl, by decide +kernel, fun h => by first | rfl | cases h⟩
theorem kp_Pack_31 : mm_FP R_Pack 31 4 1 .boolean true := ⟨R_Pack, F_Pack, 6, t_Pack, rfl, by decide, i_Pack, q_50, t_Pack_ok, n_Pack, rfl, by decide +kernel, fun h => by first | rfl | cases h⟩
theorem kp_Title_9 : mm_FP R_Title 9 6 2 .boolean false := ⟨R_Title, F_Title, 7, t_Title, rfl, by decide, i_Title, q_60, t_Title_ok, n_Title, rfl, by decide +kernel, fun h => by first | rfl | cases h⟩
theorem kp_Title_15 : mm_FP R_Title 15 6 3 .int false := ⟨R_Title, F_Title, 7, t_Title, rfl, by decide, i_Title, q_61, t_Title_ok, n_Title, rfl, by decide +kernel, fun h => by first | rfl | cases h⟩
theorem kp_Title_19 : mm_FP R_Title 19 6 4 (.array .int) true := ⟨R_Title, F_Title, 7, t_Title, rfl, by decide, i_Title, q_62, t_Title_ok, n_Title, rfl, by decide +kernel, fun h => by first | rfl | cases h⟩
theorem kp_Title_23 : mm_FP R_Title 23 6 5 (.array .int) true := ⟨R_Title, F_Title, 7, t_Title, rfl, by decide, i_Title, q_63, t_Title_ok, n_Title, rfl, by decide +kernel, fun h => by first | rfl | cases h⟩
theorem kp_Title_26 : mm_FP R_Title 26 6 6 .int false := ⟨R_Title, F_Title, 7, t_Title, rfl, by decide, i_Title, q_64, t_Title_ok, n_Title, rfl, by decide +kernel, fun h => by first | rfl | cases h⟩
theorem kp_Title_29 : mm_FP R_Title 29 6 0 (.object "LicenceRows2$Pack") true := ⟨R_Title, F_Title, 7, t_Title, rfl, by decide, i_Title, q_65, t_Title_ok, n_Title, rfl, by decide +kernel, fun h => by first | rfl | cases h⟩
theorem kp_Title_33 : mm_FP R_Title 33 6 1 .int false := ⟨R_Title, F_Title, 7, t_Title, rfl, by decide, i_Title, q_66, t_Title_ok, n_Title, rfl, by decide +kernel, fun h => by first | rfl | cases h⟩
theorem kp_X_91 : mm_FP R_X 91 6 3 .int false := ⟨R_Title, F_Title, 7, t_Title, rfl, by decide, i_Title, q_100, t_Title_ok, n_Title, rfl, by decide +kernel, fun h => by first | rfl | cases h⟩
theorem kp_Rule_9 : mm_FP R_Rule 9 5 4 .boolean false := ⟨R_Rule, F_Rule, 5, t_Rule, rfl, by decide, i_Rule, q_111, t_Rule_ok, n_Rule, rfl, by decide +kernel, fun h => by first | rfl | cases h⟩
theorem kp_Rule_15 : mm_FP R_Rule 15 5 0 .int true := ⟨R_Rule, F_Rule, 5, t_Rule, rfl, by decide, i_Rule, q_112, t_Rule_ok, n_Rule, rfl, by decide +kernel, fun h => by first | rfl | cases h⟩
theorem kp_Rule_19 : mm_FP R_Rule 19 5 1 .int true := ⟨R_Rule, F_Rule, 5, t_Rule, rfl, by decide, i_Rule, q_113, t_Rule_ok, n_Rule, rfl, by decide +kernel, fun h => by first | rfl | cases h⟩
theorem kp_Rule_22 : mm_FP R_Rule 22 5 2 .int true := ⟨R_Rule, F_Rule, 5, t_Rule, rfl, by decide, i_Rule, q_114, t_Rule_ok, n_Rule, rfl, by decide +kernel, fun h => by first | rfl | cases h⟩
theorem kp_Rule_25 : mm_FP R_Rule 25 5 3 .int true := ⟨R_Rule, F_Rule, 5, t_Rule, rfl, by decide, i_Rule, q_115, t_Rule_ok, n_Rule, rfl, by decide +kernel, fun h => by first | rfl | cases h⟩
theorem kp_X_114 : mm_FP R_X 114 5 4 .boolean false := ⟨R_Rule, F_Rule, 5, t_Rule, rfl, by decide, i_Rule, q_128, t_Rule_ok, n_Rule, rfl, by decide +kernel, fun h => by first | rfl | cases h⟩
theorem kp_X_121 : mm_FP R_X 121 4 4 .int false := ⟨R_Pack, F_Pack, 6, t_Pack, rfl, by decide, i_Pack, q_154, t_Pack_ok, n_Pack, rfl, by decide +kernel, fun h => by first | rfl | cases h⟩
theorem kp_X_163 : mm_FP R_X 163 6 2 .boolean false := ⟨R_Title, F_Title, 7, t_Title, rfl, by decide, i_Title, q_187, t_Title_ok, n_Title, rfl, by decide +kernel, fun h => by first | rfl | cases h⟩
theorem kp_X_166 : mm_FP R_X 166 6 1 .int false := ⟨R_Title, F_Title, 7, t_Title, rfl, by decide, i_Title, q_58, t_Title_ok, n_Title, rfl, by decide +kernel, fun h => by first | rfl | cases h⟩
theorem kp_X_169 : mm_FP R_X 169 4 5 .int false := ⟨R_Pack, F_Pack, 6, t_Pack, rfl, by decide, i_Pack, q_208, t_Pack_ok, n_Pack, rfl, by decide +kernel, fun h => by first | rfl | cases h⟩
theorem kp_Mo_7 : mm_FP R_Mo 7 1 2 (.array .boolean) true := ⟨R_Mo, F_Mo, 32, t_Mo, rfl, by decide, i_Mo, q_237, t_Mo_ok, n_Mo, rfl, by decide +kernel, fun h => by first | rfl | cases h⟩
theorem kp_Mo_13 : mm_FP R_Mo 13 1 3 (.array .int) true := ⟨R_Mo, F_Mo, 32, t_Mo, rfl, by decide, i_Mo, q_238, t_Mo_ok, n_Mo, rfl, by decide +kernel, fun h => by first | rfl | cases h⟩
theorem kp_Mo_17 : mm_FP R_Mo 17 1 4 (.array .int) true := ⟨R_Mo, F_Mo, 32, t_Mo, rfl, by decide, i_Mo, q_239, t_Mo_ok, n_Mo, rfl, by decide +kernel, fun h => by first | rfl | cases h⟩
theorem kp_Mo_20 : mm_FP R_Mo 20 1 5 (.array .int) true := ⟨R_Mo, F_Mo, 32, t_Mo, rfl, by decide, i_Mo, q_240, t_Mo_ok, n_Mo, rfl, by decide +kernel, fun h => by first | rfl | cases h⟩
theorem kp_Mo_23 : mm_FP R_Mo 23 1 6 (.array .int) true := ⟨R_Mo, F_Mo, 32, t_Mo, rfl, by decide, i_Mo, q_241, t_Mo_ok, n_Mo, rfl, by decide +kernel, fun h => by first | rfl | cases h⟩
theorem kp_Mo_26 : mm_FP R_Mo 26 1 7 (.array .int) true := ⟨R_Mo, F_Mo, 32, t_Mo, rfl, by decide, i_Mo, q_242, t_Mo_ok, n_Mo, rfl, by decide +kernel, fun h => by first | rfl | cases h⟩
theorem kp_Mo_29 : mm_FP R_Mo 29 1 8 (.array .int) true := ⟨R_Mo, F_Mo, 32, t_Mo, rfl, by decide, i_Mo, q_243, t_Mo_ok, n_Mo, rfl, by decide +kernel, fun h => by first | rfl | cases h⟩
theorem kp_Mo_32 : mm_FP R_Mo 32 1 10 (.array .int) true := ⟨R_Mo, F_Mo, 32, t_Mo, rfl, by decide, i_Mo, q_244, t_Mo_ok, n_Mo, rfl, by decide +kernel, fun h => by first | rfl | cases h⟩
theorem kp_Mo_35 : mm_FP R_Mo 35 1 11 (.array .int) true := ⟨R_Mo, F_Mo, 32, t_Mo, rfl, by decide, i_Mo, q_245, t_Mo_ok, n_Mo, rfl, by decide +kernel, fun h => by first | rfl | cases h⟩
theorem kp_Mo_38 : mm_FP R_Mo 38 1 12 (.array .boolean) true := ⟨R_Mo, F_Mo, 32, t_Mo, rfl, by decide, i_Mo, q_246, t_Mo_ok, n_Mo, rfl, by decide +kernel, fun h => by first | rfl | cases h⟩
theorem kp_Mo_41 : mm_FP R_Mo 41 1 13 (.array .int) true := ⟨R_Mo, F_Mo, 32, t_Mo, rfl, by decide, i_Mo, q_247, t_Mo_ok, n_Mo, rfl, by decide +kernel, fun h => by first | rfl | cases h⟩
theorem kp_Mo_44 : mm_FP R_Mo 44 1 14 (.array .int) true := ⟨R_Mo, F_Mo, 32, t_Mo, rfl, by decide, i_Mo, q_248, t_Mo_ok, n_Mo, rfl, by decide +kernel, fun h => by first | rfl | cases h⟩
theorem kp_Mo_47 : mm_FP R_Mo 47 1 15 (.array .int) true := ⟨R_Mo, F_Mo, 32, t_Mo, rfl, by decide, i_Mo, q_249, t_Mo_ok, n_Mo, rfl, by decide +kernel, fun h => by first | rfl | cases h⟩
theorem kp_Mo_50 : mm_FP R_Mo 50 1 16 (.array .int) true := ⟨R_Mo, F_Mo, 32, t_Mo, rfl, by decide, i_Mo, q_250, t_Mo_ok, n_Mo, rfl, by decide +kernel, fun h => by first | rfl | cases h⟩
theorem kp_Mo_53 : mm_FP R_Mo 53 1 18 (.array .int) true := ⟨R_Mo, F_Mo, 32, t_Mo, rfl, by decide, i_Mo, q_251, t_Mo_ok, n_Mo, rfl, by decide +kernel, fun h => by first | rfl | cases h⟩
theorem kp_Mo_56 : mm_FP R_Mo 56 1 19 (.array .int) true := ⟨R_Mo, F_Mo, 32, t_Mo, rfl, by decide, i_Mo, q_252, t_Mo_ok, n_Mo, rfl, by decide +kernel, fun h => by first | rfl | cases h⟩
theorem kp_Mo_59 : mm_FP R_Mo 59 1 20 (.array .int) true := ⟨R_Mo, F_Mo, 32, t_Mo, rfl, by decide, i_Mo, q_253, t_Mo_ok, n_Mo, rfl, by decide +kernel, fun h => by first | rfl | cases h⟩
theorem kp_Mo_62 : mm_FP R_Mo 62 1 21 (.array .int) true := ⟨R_Mo, F_Mo, 32, t_Mo, rfl, by decide, i_Mo, q_254, t_Mo_ok, n_Mo, rfl, by decide +kernel, fun h => by first | rfl | cases h⟩
theorem kp_Mo_65 : mm_FP R_Mo 65 1 22 (.array .boolean) true := ⟨R_Mo, F_Mo, 32, t_Mo, rfl, by decide, i_Mo, q_255, t_Mo_ok, n_Mo, rfl, by decide +kernel, fun h => by first | rfl | cases h⟩
theorem kp_Mo_68 : mm_FP R_Mo 68 1 23 .int false := ⟨R_Mo, F_Mo, 32, t_Mo, rfl, by decide, i_Mo, q_256, t_Mo_ok, n_Mo, rfl, by decide +kernel, fun h => by first | rfl | cases h⟩
theorem kp_Mo_72 : mm_FP R_Mo 72 1 24 (.array .int) true := ⟨R_Mo, F_Mo, 32, t_Mo, rfl, by decide, i_Mo, q_257, t_Mo_ok, n_Mo, rfl, by decide +kernel, fun h => by first | rfl | cases h⟩
theorem kp_Mo_75 : mm_FP R_Mo 75 1 26 (.array .int) true := ⟨R_Mo, F_Mo, 32, t_Mo, rfl, by decide, i_Mo, q_258, t_Mo_ok, n_Mo, rfl, by decide +kernel, fun h => by first | rfl | cases h⟩
theorem kp_Mo_78 : mm_FP R_Mo 78 1 27 (.array .int) true := ⟨R_Mo, F_Mo, 32, t_Mo, rfl, by decide, i_Mo, q_259, t_Mo_ok, n_Mo, rfl, by decide +kernel, fun h => by first | rfl | cases h⟩
theorem kp_Mo_81 : mm_FP R_Mo 81 1 28 (.array .int) true := ⟨R_Mo, F_Mo, 32, t_Mo, rfl, by decide, i_Mo, q_260, t_Mo_ok, n_Mo, rfl, by decide +kernel, fun h => by first | rfl | cases h⟩
theorem kp_Mo_84 : mm_FP R_Mo 84 1 30 (.array .int) true := ⟨R_Mo, F_Mo, 32, t_Mo, rfl, by decide, i_Mo, q_261, t_Mo_ok, n_Mo, rfl, by decide +kernel, fun h => by first | rfl | cases h⟩
theorem kp_Mo_87 : mm_FP R_Mo 87 1 31 (.array .int) true := ⟨R_Mo, F_Mo, 32, t_Mo, rfl, by decide, i_Mo, q_262, t_Mo_ok, n_Mo, rfl, by decide +kernel, fun h => by first | rfl | cases h⟩
theorem kp_Mo_104 : mm_FP R_Mo 104 1 29 .int false := ⟨R_Mo, F_Mo, 32, t_Mo, rfl, by decide, i_Mo, q_270, t_Mo_ok, n_Mo, rfl, by decide +kernel, fun h => by first | rfl | cases h⟩
theorem kp_Mo_90 : mm_FP R_Mo 90 1 0 .int false := ⟨R_Mo, F_Mo, 32, t_Mo, rfl, by decide, i_Mo, q_271, t_Mo_ok, n_Mo, rfl, by decide +kernel, fun h => by first | rfl | cases h⟩
theorem kp_Mo_98 : mm_FP R_Mo 98 1 1 .int false := ⟨R_Mo, F_Mo, 32, t_Mo, rfl, by decide, i_Mo, q_268, t_Mo_ok, n_Mo, rfl, by decide +kernel, fun h => by first | rfl | cases h⟩
theorem kp_Mo_101 : mm_FP R_Mo 101 1 9 .int false := ⟨R_Mo, F_Mo, 32, t_Mo, rfl, by decide, i_Mo, q_269, t_Mo_ok, n_Mo, rfl, by decide +kernel, fun h => by first | rfl | cases h⟩
theorem kp_Mo_122 : mm_FP R_Mo 122 1 17 .int false := ⟨R_Mo, F_Mo, 32, t_Mo, rfl, by decide, i_Mo, q_287, t_Mo_ok, n_Mo, rfl, by decide +kernel, fun h => by first | rfl | cases h⟩
theorem kp_Mo_142 : mm_FP R_Mo 142 1 25 .int false := ⟨R_Mo, F_Mo, 32, t_Mo, rfl, by decide, i_Mo, q_309, t_Mo_ok, n_Mo, rfl, by decide +kernel, fun h => by first | rfl | cases h⟩
end
section
theorem d_Usages_init_0 : decode b_Usages_init 0 = .ok (.aload_n 0, 1) := by decide +kernel
theorem d_Usages_init_1 : decode b_Usages_init 1 = .ok (.invokespecial 3, 3) := by decide +kernel
theorem d_Usages_init_4 : decode b_Usages_init 4 = .ok (.aload_n 0, 1) := by decide +kernel
theorem d_Usages_init_5 : decode b_Usages_init 5 = .ok (.sipush 512, 3) := by decide +kernel
theorem d_Usages_init_8 : decode b_Usages_init 8 = .ok (.newarray .int, 2) := by decide +kernel
theorem d_Usages_init_10 : decode b_Usages_init 10 = .ok (.putfield 9, 3) := by decide +kernel
theorem d_Usages_init_13 : decode b_Usages_init 13 = .ok (.aload_n 0, 1) := by decide +kernel
theorem d_Usages_init_14 : decode b_Usages_init 14 = .ok (.sipush 512, 3) := by decide +kernel
theorem d_Usages_init_17 : decode b_Usages_init 17 = .ok (.newarray .int, 2) := by decide +kernel
theorem d_Usages_init_19 : decode b_Usages_init 19 = .ok (.putfield 15, 3) := by decide +kernel
theorem d_Usages_init_22 : decode b_Usages_init 22 = .ok (.aload_n 0, 1) := by decide +kernel
theorem d_Usages_init_23 : decode b_Usages_init 23 = .ok (.sipush 512, 3) := by decide +kernel
theorem d_Usages_init_26 : decode b_Usages_init 26 = .ok (.newarray .int, 2) := by decide +kernel
theorem d_Usages_init_28 : decode b_Usages_init 28 = .ok (.putfield 18, 3) := by decide +kernel
theorem d_Usages_init_31 : decode b_Usages_init 31 = .ok (.aload_n 0, 1) := by decide +kernel
theorem d_Usages_init_32 : decode b_Usages_init 32 = .ok (.iconst 0, 1) := by decide +kernel
theorem d_Usages_init_33 : decode b_Usages_init 33 = .ok (.putfield 21, 3) := by decide +kernel
theorem d_Usages_init_36 : decode b_Usages_init 36 = .ok (.return_, 1) := by decide +kernel
theorem d_Notices_init_0 : decode b_Notices_init 0 = .ok (.aload_n 0, 1) := by decide +kernel
theorem d_Notices_init_1 : decode b_Notices_init 1 = .ok (.invokespecial 3, 3) := by decide +kernel
theorem d_Notices_init_4 : decode b_Notices_init 4 = .ok (.aload_n 0, 1) := by decide +kernel
theorem d_Notices_init_5 : decode b_Notices_init 5 = .ok (.bipush 100, 2) := by decide +kernel
theorem d_Notices_init_7 : decode b_Notices_init 7 = .ok (.newarray .int, 2) := by decide +kernel
theorem d_Notices_init_9 : decode b_Notices_init 9 = .ok (.putfield 9, 3) := by decide +kernel
theorem d_Notices_init_12 : decode b_Notices_init 12 = .ok (.aload_n 0, 1) := by decide +kernel
theorem d_Notices_init_13 : decode b_Notices_init 13 = .ok (.bipush 100, 2) := by decide +kernel
theorem d_Notices_init_15 : decode b_Notices_init 15 = .ok (.newarray .int, 2) := by decide +kernel
theorem d_Notices_init_17 : decode b_Notices_init 17 = .ok (.putfield 15, 3) := by decide +kernel
theorem d_Notices_init_20 : decode b_Notices_init 20 = .ok (.aload_n 0, 1) := by decide +kernel
theorem d_Notices_init_21 : decode b_Notices_init 21 = .ok (.iconst 0, 1) := by decide +kernel
theorem d_Notices_init_22 : decode b_Notices_init 22 = .ok (.putfield 18, 3) := by decide +kernel
theorem d_Notices_init_25 : decode b_Notices_init 25 = .ok (.return_, 1) := by decide +kernel
theorem d_Line_init_0 : decode b_Line_init 0 = .ok (.aload_n 0, 1) := by decide +kernel
theorem d_Line_init_1 : decode b_Line_init 1 = .ok (.invokespecial 3, 3) := by decide +kernel
theorem d_Line_init_4 : decode b_Line_init 4 = .ok (.aload_n 0, 1) := by decide +kernel
theorem d_Line_init_5 : decode b_Line_init 5 = .ok (.bipush 100, 2) := by decide +kernel
theorem d_Line_init_7 : decode b_Line_init 7 = .ok (.newarray .int, 2) := by decide +kernel
theorem d_Line_init_9 : decode b_Line_init 9 = .ok (.putfield 9, 3) := by decide +kernel
theorem d_Line_init_12 : decode b_Line_init 12 = .ok (.aload_n 0, 1) := by decide +kernel
theorem d_Line_init_13 : decode b_Line_init 13 = .ok (.iconst 0, 1) := by decide +kernel
theorem d_Line_init_14 : decode b_Line_init 14 = .ok (.putfield 15, 3) := by decide +kernel
theorem d_Line_init_17 : decode b_Line_init 17 = .ok (.return_, 1) := by decide +kernel
theorem d_Pack_init_0 : decode b_Pack_init 0 = .ok (.aload_n 0, 1) := by decide +kernel
theorem d_Pack_init_1 : decode b_Pack_init 1 = .ok (.invokespecial 3, 3) := by decide +kernel
theorem d_Pack_init_4 : decode b_Pack_init 4 = .ok (.aload_n 0, 1) := by decide +kernel
theorem d_Pack_init_5 : decode b_Pack_init 5 = .ok (.new 9, 3) := by decide +kernel
theorem d_Pack_init_8 : decode b_Pack_init 8 = .ok (.dup, 1) := by decide +kernel
theorem d_Pack_init_9 : decode b_Pack_init 9 = .ok (.invokespecial 11, 3) := by decide +kernel
theorem d_Pack_init_12 : decode b_Pack_init 12 = .ok (.putfield 12, 3) := by decide +kernel
theorem d_Pack_init_15 : decode b_Pack_init 15 = .ok (.aload_n 0, 1) := by decide +kernel
theorem d_Pack_init_16 : decode b_Pack_init 16 = .ok (.new 9, 3) := by decide +kernel
theorem d_Pack_init_19 : decode b_Pack_init 19 = .ok (.dup, 1) := by decide +kernel
theorem d_Pack_init_20 : decode b_Pack_init 20 = .ok (.invokespecial 11, 3) := by decide +kernel
theorem d_Pack_init_23 : decode b_Pack_init 23 = .ok (.putfield 18, 3) := by decide +kernel
theorem d_Pack_init_26 : decode b_Pack_init 26 = .ok (.aload_n 0, 1) := by decide +kernel
theorem d_Pack_init_27 : decode b_Pack_init 27 = .ok (.bipush 100, 2) := by decide +kernel
theorem d_Pack_init_29 : decode b_Pack_init 29 = .ok (.putfield 21, 3) := by decide +kernel
theorem d_Pack_init_32 : decode b_Pack_init 32 = .ok (.aload_n 0, 1) := by decide +kernel
theorem d_Pack_init_33 : decode b_Pack_init 33 = .ok (.iconst (-1), 1) := by decide +kernel
theorem d_Pack_init_34 : decode b_Pack_init 34 = .ok (.putfield 25, 3) := by decide +kernel
theorem d_Pack_init_37 : decode b_Pack_init 37 = .ok (.aload_n 0, 1) := by decide +kernel
theorem d_Pack_init_38 : decode b_Pack_init 38 = .ok (.iload_n 1, 1) := by decide +kernel
theorem d_Pack_init_39 : decode b_Pack_init 39 = .ok (.putfield 28, 3) := by decide +kernel
theorem d_Pack_init_42 : decode b_Pack_init 42 = .ok (.aload_n 0, 1) := by decide +kernel
theorem d_Pack_init_43 : decode b_Pack_init 43 = .ok (.iload_n 2, 1) := by decide +kernel
theorem d_Pack_init_44 : decode b_Pack_init 44 = .ok (.putfield 31, 3) := by decide +kernel
theorem d_Pack_init_47 : decode b_Pack_init 47 = .ok (.return_, 1) := by decide +kernel
theorem d_Title_init_0 : decode b_Title_init 0 = .ok (.aload_n 0, 1) := by decide +kernel
theorem d_Title_init_1 : decode b_Title_init 1 = .ok (.invokespecial 3, 3) := by decide +kernel
theorem d_Title_init_4 : decode b_Title_init 4 = .ok (.aload_n 0, 1) := by decide +kernel
theorem d_Title_init_5 : decode b_Title_init 5 = .ok (.iconst 1, 1) := by decide +kernel
theorem d_Title_init_6 : decode b_Title_init 6 = .ok (.putfield 9, 3) := by decide +kernel
theorem d_Title_init_9 : decode b_Title_init 9 = .ok (.aload_n 0, 1) := by decide +kernel
theorem d_Title_init_10 : decode b_Title_init 10 = .ok (.iconst 0, 1) := by decide +kernel
theorem d_Title_init_11 : decode b_Title_init 11 = .ok (.putfield 15, 3) := by decide +kernel
theorem d_Title_init_14 : decode b_Title_init 14 = .ok (.aload_n 0, 1) := by decide +kernel
theorem d_Title_init_15 : decode b_Title_init 15 = .ok (.bipush 10, 2) := by decide +kernel
theorem d_Title_init_17 : decode b_Title_init 17 = .ok (.newarray .int, 2) := by decide +kernel
theorem d_Title_init_19 : decode b_Title_init 19 = .ok (.putfield 19, 3) := by decide +kernel
theorem d_Title_init_22 : decode b_Title_init 22 = .ok (.aload_n 0, 1) := by decide +kernel
theorem d_Title_init_23 : decode b_Title_init 23 = .ok (.bipush 10, 2) := by decide +kernel
theorem d_Title_init_25 : decode b_Title_init 25 = .ok (.newarray .int, 2) := by decide +kernel
theorem d_Title_init_27 : decode b_Title_init 27 = .ok (.putfield 23, 3) := by decide +kernel
theorem d_Title_init_30 : decode b_Title_init 30 = .ok (.aload_n 0, 1) := by decide +kernel
theorem d_Title_init_31 : decode b_Title_init 31 = .ok (.iconst 0, 1) := by decide +kernel
theorem d_Title_init_32 : decode b_Title_init 32 = .ok (.putfield 26, 3) := by decide +kernel
theorem d_Title_init_35 : decode b_Title_init 35 = .ok (.aload_n 0, 1) := by decide +kernel
theorem d_Title_init_36 : decode b_Title_init 36 = .ok (.aload_n 1, 1) := by decide +kernel
theorem d_Title_init_37 : decode b_Title_init 37 = .ok (.putfield 29, 3) := by decide +kernel
theorem d_Title_init_40 : decode b_Title_init 40 = .ok (.aload_n 0, 1) := by decide +kernel
theorem d_Title_init_41 : decode b_Title_init 41 = .ok (.iload_n 2, 1) := by decide +kernel
theorem d_Title_init_42 : decode b_Title_init 42 = .ok (.putfield 33, 3) := by decide +kernel
theorem d_Title_init_45 : decode b_Title_init 45 = .ok (.return_, 1) := by decide +kernel
theorem d_Title_meets_0 : decode b_Title_meets 0 = .ok (.iconst 0, 1) := by decide +kernel
theorem d_Title_meets_1 : decode b_Title_meets 1 = .ok (.istore_n 3, 1) := by decide +kernel
theorem d_Title_meets_2 : decode b_Title_meets 2 = .ok (.iload_n 3, 1) := by decide +kernel
theorem d_Title_meets_3 : decode b_Title_meets 3 = .ok (.aload_n 0, 1) := by decide +kernel
theorem d_Title_meets_4 : decode b_Title_meets 4 = .ok (.getfield 26, 3) := by decide +kernel
theorem d_Title_meets_7 : decode b_Title_meets 7 = .ok (.if_icmp .ge 35, 3) := by decide +kernel
theorem d_Title_meets_10 : decode b_Title_meets 10 = .ok (.iload_n 1, 1) := by decide +kernel
theorem d_Title_meets_11 : decode b_Title_meets 11 = .ok (.aload_n 0, 1) := by decide +kernel
theorem d_Title_meets_12 : decode b_Title_meets 12 = .ok (.getfield 23, 3) := by decide +kernel
theorem d_Title_meets_15 : decode b_Title_meets 15 = .ok (.iload_n 3, 1) := by decide +kernel
theorem d_Title_meets_16 : decode b_Title_meets 16 = .ok (.iaload, 1) := by decide +kernel
theorem d_Title_meets_17 : decode b_Title_meets 17 = .ok (.iconst 1, 1) := by decide +kernel
theorem d_Title_meets_18 : decode b_Title_meets 18 = .ok (.iadd, 1) := by decide +kernel
theorem d_Title_meets_19 : decode b_Title_meets 19 = .ok (.if_icmp .gt 17, 3) := by decide +kernel
theorem d_Title_meets_22 : decode b_Title_meets 22 = .ok (.iload_n 2, 1) := by decide +kernel
theorem d_Title_meets_23 : decode b_Title_meets 23 = .ok (.aload_n 0, 1) := by decide +kernel
theorem d_Title_meets_24 : decode b_Title_meets 24 = .ok (.getfield 19, 3) := by decide +kernel
theorem d_Title_meets_27 : decode b_Title_meets 27 = .ok (.iload_n 3, 1) := by decide +kernel
theorem d_Title_meets_28 : decode b_Title_meets 28 = .ok (.iaload, 1) := by decide +kernel
theorem d_Title_meets_29 : decode b_Title_meets 29 = .ok (.iconst 1, 1) := by decide +kernel
theorem d_Title_meets_30 : decode b_Title_meets 30 = .ok (.isub, 1) := by decide +kernel
theorem d_Title_meets_31 : decode b_Title_meets 31 = .ok (.if_icmp .lt 5, 3) := by decide +kernel
theorem d_Title_meets_34 : decode b_Title_meets 34 = .ok (.iconst 1, 1) := by decide +kernel
theorem d_Title_meets_35 : decode b_Title_meets 35 = .ok (.ireturn, 1) := by decide +kernel
theorem d_Title_meets_36 : decode b_Title_meets 36 = .ok (.iinc 3 1, 3) := by decide +kernel
theorem d_Title_meets_39 : decode b_Title_meets 39 = .ok (.goto (-37), 3) := by decide +kernel
theorem d_Title_meets_42 : decode b_Title_meets 42 = .ok (.iconst 0, 1) := by decide +kernel
theorem d_Title_meets_43 : decode b_Title_meets 43 = .ok (.ireturn, 1) := by decide +kernel
theorem d_Title_addSpan_0 : decode b_Title_addSpan 0 = .ok (.aload_n 0, 1) := by decide +kernel
theorem d_Title_addSpan_1 : decode b_Title_addSpan 1 = .ok (.getfield 26, 3) := by decide +kernel
theorem d_Title_addSpan_4 : decode b_Title_addSpan 4 = .ok (.bipush 10, 2) := by decide +kernel
theorem d_Title_addSpan_6 : decode b_Title_addSpan 6 = .ok (.if_icmp .lt 4, 3) := by decide +kernel
theorem d_Title_addSpan_9 : decode b_Title_addSpan 9 = .ok (.return_, 1) := by decide +kernel
theorem d_Title_addSpan_10 : decode b_Title_addSpan 10 = .ok (.aload_n 0, 1) := by decide +kernel
theorem d_Title_addSpan_11 : decode b_Title_addSpan 11 = .ok (.getfield 26, 3) := by decide +kernel
theorem d_Title_addSpan_14 : decode b_Title_addSpan 14 = .ok (.istore_n 3, 1) := by decide +kernel
theorem d_Title_addSpan_15 : decode b_Title_addSpan 15 = .ok (.iload_n 3, 1) := by decide +kernel
theorem d_Title_addSpan_16 : decode b_Title_addSpan 16 = .ok (.ifCond .le 49, 3) := by decide +kernel
theorem d_Title_addSpan_19 : decode b_Title_addSpan 19 = .ok (.aload_n 0, 1) := by decide +kernel
theorem d_Title_addSpan_20 : decode b_Title_addSpan 20 = .ok (.getfield 19, 3) := by decide +kernel
theorem d_Title_addSpan_23 : decode b_Title_addSpan 23 = .ok (.iload_n 3, 1) := by decide +kernel
theorem d_Title_addSpan_24 : decode b_Title_addSpan 24 = .ok (.iconst 1, 1) := by decide +kernel
theorem d_Title_addSpan_25 : decode b_Title_addSpan 25 = .ok (.isub, 1) := by decide +kernel
theorem d_Title_addSpan_26 : decode b_Title_addSpan 26 = .ok (.iaload, 1) := by decide +kernel
theorem d_Title_addSpan_27 : decode b_Title_addSpan 27 = .ok (.iload_n 1, 1) := by decide +kernel
theorem d_Title_addSpan_28 : decode b_Title_addSpan 28 = .ok (.if_icmp .le 37, 3) := by decide +kernel
theorem d_Title_addSpan_31 : decode b_Title_addSpan 31 = .ok (.aload_n 0, 1) := by decide +kernel
theorem d_Title_addSpan_32 : decode b_Title_addSpan 32 = .ok (.getfield 19, 3) := by decide +kernel
theorem d_Title_addSpan_35 : decode b_Title_addSpan 35 = .ok (.iload_n 3, 1) := by decide +kernel
theorem d_Title_addSpan_36 : decode b_Title_addSpan 36 = .ok (.aload_n 0, 1) := by decide +kernel
theorem d_Title_addSpan_37 : decode b_Title_addSpan 37 = .ok (.getfield 19, 3) := by decide +kernel
theorem d_Title_addSpan_40 : decode b_Title_addSpan 40 = .ok (.iload_n 3, 1) := by decide +kernel
theorem d_Title_addSpan_41 : decode b_Title_addSpan 41 = .ok (.iconst 1, 1) := by decide +kernel
theorem d_Title_addSpan_42 : decode b_Title_addSpan 42 = .ok (.isub, 1) := by decide +kernel
theorem d_Title_addSpan_43 : decode b_Title_addSpan 43 = .ok (.iaload, 1) := by decide +kernel
theorem d_Title_addSpan_44 : decode b_Title_addSpan 44 = .ok (.iastore, 1) := by decide +kernel
theorem d_Title_addSpan_45 : decode b_Title_addSpan 45 = .ok (.aload_n 0, 1) := by decide +kernel
theorem d_Title_addSpan_46 : decode b_Title_addSpan 46 = .ok (.getfield 23, 3) := by decide +kernel
theorem d_Title_addSpan_49 : decode b_Title_addSpan 49 = .ok (.iload_n 3, 1) := by decide +kernel
theorem d_Title_addSpan_50 : decode b_Title_addSpan 50 = .ok (.aload_n 0, 1) := by decide +kernel
theorem d_Title_addSpan_51 : decode b_Title_addSpan 51 = .ok (.getfield 23, 3) := by decide +kernel
theorem d_Title_addSpan_54 : decode b_Title_addSpan 54 = .ok (.iload_n 3, 1) := by decide +kernel
theorem d_Title_addSpan_55 : decode b_Title_addSpan 55 = .ok (.iconst 1, 1) := by decide +kernel
theorem d_Title_addSpan_56 : decode b_Title_addSpan 56 = .ok (.isub, 1) := by decide +kernel
theorem d_Title_addSpan_57 : decode b_Title_addSpan 57 = .ok (.iaload, 1) := by decide +kernel
theorem d_Title_addSpan_58 : decode b_Title_addSpan 58 = .ok (.iastore, 1) := by decide +kernel
theorem d_Title_addSpan_59 : decode b_Title_addSpan 59 = .ok (.iinc 3 (-1), 3) := by decide +kernel
theorem d_Title_addSpan_62 : decode b_Title_addSpan 62 = .ok (.goto (-47), 3) := by decide +kernel
theorem d_Title_addSpan_65 : decode b_Title_addSpan 65 = .ok (.aload_n 0, 1) := by decide +kernel
theorem d_Title_addSpan_66 : decode b_Title_addSpan 66 = .ok (.getfield 19, 3) := by decide +kernel
theorem d_Title_addSpan_69 : decode b_Title_addSpan 69 = .ok (.iload_n 3, 1) := by decide +kernel
theorem d_Title_addSpan_70 : decode b_Title_addSpan 70 = .ok (.iload_n 1, 1) := by decide +kernel
theorem d_Title_addSpan_71 : decode b_Title_addSpan 71 = .ok (.iastore, 1) := by decide +kernel
theorem d_Title_addSpan_72 : decode b_Title_addSpan 72 = .ok (.aload_n 0, 1) := by decide +kernel
theorem d_Title_addSpan_73 : decode b_Title_addSpan 73 = .ok (.getfield 23, 3) := by decide +kernel
theorem d_Title_addSpan_76 : decode b_Title_addSpan 76 = .ok (.iload_n 3, 1) := by decide +kernel
theorem d_Title_addSpan_77 : decode b_Title_addSpan 77 = .ok (.iload_n 2, 1) := by decide +kernel
theorem d_Title_addSpan_78 : decode b_Title_addSpan 78 = .ok (.iastore, 1) := by decide +kernel
theorem d_Title_addSpan_79 : decode b_Title_addSpan 79 = .ok (.aload_n 0, 1) := by decide +kernel
theorem d_Title_addSpan_80 : decode b_Title_addSpan 80 = .ok (.dup, 1) := by decide +kernel
theorem d_Title_addSpan_81 : decode b_Title_addSpan 81 = .ok (.getfield 26, 3) := by decide +kernel
theorem d_Title_addSpan_84 : decode b_Title_addSpan 84 = .ok (.iconst 1, 1) := by decide +kernel
theorem d_Title_addSpan_85 : decode b_Title_addSpan 85 = .ok (.iadd, 1) := by decide +kernel
theorem d_Title_addSpan_86 : decode b_Title_addSpan 86 = .ok (.putfield 26, 3) := by decide +kernel
theorem d_Title_addSpan_89 : decode b_Title_addSpan 89 = .ok (.return_, 1) := by decide +kernel
theorem d_X_monthOf_0 : decode b_X_monthOf 0 = .ok (.iload_n 0, 1) := by decide +kernel
theorem d_X_monthOf_1 : decode b_X_monthOf 1 = .ok (.bipush 30, 2) := by decide +kernel
theorem d_X_monthOf_3 : decode b_X_monthOf 3 = .ok (.idiv, 1) := by decide +kernel
theorem d_X_monthOf_4 : decode b_X_monthOf 4 = .ok (.ireturn, 1) := by decide +kernel
theorem d_Title_lastFreeMonth_0 : decode b_Title_lastFreeMonth 0 = .ok (.iload_n 1, 1) := by decide +kernel
theorem d_Title_lastFreeMonth_1 : decode b_Title_lastFreeMonth 1 = .ok (.invokestatic 36, 3) := by decide +kernel
theorem d_Title_lastFreeMonth_4 : decode b_Title_lastFreeMonth 4 = .ok (.aload_n 0, 1) := by decide +kernel
theorem d_Title_lastFreeMonth_5 : decode b_Title_lastFreeMonth 5 = .ok (.getfield 15, 3) := by decide +kernel
theorem d_Title_lastFreeMonth_8 : decode b_Title_lastFreeMonth 8 = .ok (.isub, 1) := by decide +kernel
theorem d_Title_lastFreeMonth_9 : decode b_Title_lastFreeMonth 9 = .ok (.ireturn, 1) := by decide +kernel
theorem d_Rule_init_0 : decode b_Rule_init 0 = .ok (.aload_n 0, 1) := by decide +kernel
theorem d_Rule_init_1 : decode b_Rule_init 1 = .ok (.invokespecial 3, 3) := by decide +kernel
theorem d_Rule_init_4 : decode b_Rule_init 4 = .ok (.aload_n 0, 1) := by decide +kernel
theorem d_Rule_init_5 : decode b_Rule_init 5 = .ok (.iconst 0, 1) := by decide +kernel
theorem d_Rule_init_6 : decode b_Rule_init 6 = .ok (.putfield 9, 3) := by decide +kernel
theorem d_Rule_init_9 : decode b_Rule_init 9 = .ok (.aload_n 0, 1) := by decide +kernel
theorem d_Rule_init_10 : decode b_Rule_init 10 = .ok (.iload_n 1, 1) := by decide +kernel
theorem d_Rule_init_11 : decode b_Rule_init 11 = .ok (.putfield 15, 3) := by decide +kernel
theorem d_Rule_init_14 : decode b_Rule_init 14 = .ok (.aload_n 0, 1) := by decide +kernel
theorem d_Rule_init_15 : decode b_Rule_init 15 = .ok (.iload_n 2, 1) := by decide +kernel
theorem d_Rule_init_16 : decode b_Rule_init 16 = .ok (.putfield 19, 3) := by decide +kernel
theorem d_Rule_init_19 : decode b_Rule_init 19 = .ok (.aload_n 0, 1) := by decide +kernel
theorem d_Rule_init_20 : decode b_Rule_init 20 = .ok (.iload_n 3, 1) := by decide +kernel
theorem d_Rule_init_21 : decode b_Rule_init 21 = .ok (.putfield 22, 3) := by decide +kernel
theorem d_Rule_init_24 : decode b_Rule_init 24 = .ok (.aload_n 0, 1) := by decide +kernel
theorem d_Rule_init_25 : decode b_Rule_init 25 = .ok (.iload 4, 2) := by decide +kernel
theorem d_Rule_init_27 : decode b_Rule_init 27 = .ok (.putfield 25, 3) := by decide +kernel
theorem d_Rule_init_30 : decode b_Rule_init 30 = .ok (.return_, 1) := by decide +kernel
theorem d_Pack_hasPlace_0 : decode b_Pack_hasPlace 0 = .ok (.aload_n 0, 1) := by decide +kernel
theorem d_Pack_hasPlace_1 : decode b_Pack_hasPlace 1 = .ok (.getfield 12, 3) := by decide +kernel
theorem d_Pack_hasPlace_4 : decode b_Pack_hasPlace 4 = .ok (.getfield 35, 3) := by decide +kernel
theorem d_Pack_hasPlace_7 : decode b_Pack_hasPlace 7 = .ok (.aload_n 0, 1) := by decide +kernel
theorem d_Pack_hasPlace_8 : decode b_Pack_hasPlace 8 = .ok (.getfield 21, 3) := by decide +kernel
theorem d_Pack_hasPlace_11 : decode b_Pack_hasPlace 11 = .ok (.if_icmp .ge 7, 3) := by decide +kernel
theorem d_Pack_hasPlace_14 : decode b_Pack_hasPlace 14 = .ok (.iconst 1, 1) := by decide +kernel
theorem d_Pack_hasPlace_15 : decode b_Pack_hasPlace 15 = .ok (.goto 4, 3) := by decide +kernel
theorem d_Pack_hasPlace_18 : decode b_Pack_hasPlace 18 = .ok (.iconst 0, 1) := by decide +kernel
theorem d_Pack_hasPlace_19 : decode b_Pack_hasPlace 19 = .ok (.ireturn, 1) := by decide +kernel
theorem d_Line_placeOf_0 : decode b_Line_placeOf 0 = .ok (.iconst 0, 1) := by decide +kernel
theorem d_Line_placeOf_1 : decode b_Line_placeOf 1 = .ok (.istore_n 2, 1) := by decide +kernel
theorem d_Line_placeOf_2 : decode b_Line_placeOf 2 = .ok (.iload_n 2, 1) := by decide +kernel
theorem d_Line_placeOf_3 : decode b_Line_placeOf 3 = .ok (.aload_n 0, 1) := by decide +kernel
theorem d_Line_placeOf_4 : decode b_Line_placeOf 4 = .ok (.getfield 15, 3) := by decide +kernel
theorem d_Line_placeOf_7 : decode b_Line_placeOf 7 = .ok (.if_icmp .ge 21, 3) := by decide +kernel
theorem d_Line_placeOf_10 : decode b_Line_placeOf 10 = .ok (.aload_n 0, 1) := by decide +kernel
theorem d_Line_placeOf_11 : decode b_Line_placeOf 11 = .ok (.getfield 9, 3) := by decide +kernel
theorem d_Line_placeOf_14 : decode b_Line_placeOf 14 = .ok (.iload_n 2, 1) := by decide +kernel
theorem d_Line_placeOf_15 : decode b_Line_placeOf 15 = .ok (.iaload, 1) := by decide +kernel
theorem d_Line_placeOf_16 : decode b_Line_placeOf 16 = .ok (.iload_n 1, 1) := by decide +kernel
theorem d_Line_placeOf_17 : decode b_Line_placeOf 17 = .ok (.if_icmp .ne 5, 3) := by decide +kernel
theorem d_Line_placeOf_20 : decode b_Line_placeOf 20 = .ok (.iload_n 2, 1) := by decide +kernel
theorem d_Line_placeOf_21 : decode b_Line_placeOf 21 = .ok (.ireturn, 1) := by decide +kernel
theorem d_Line_placeOf_22 : decode b_Line_placeOf 22 = .ok (.iinc 2 1, 3) := by decide +kernel
theorem d_Line_placeOf_25 : decode b_Line_placeOf 25 = .ok (.goto (-23), 3) := by decide +kernel
theorem d_Line_placeOf_28 : decode b_Line_placeOf 28 = .ok (.iconst (-1), 1) := by decide +kernel
theorem d_Line_placeOf_29 : decode b_Line_placeOf 29 = .ok (.ireturn, 1) := by decide +kernel
theorem d_Line_drop_0 : decode b_Line_drop 0 = .ok (.aload_n 0, 1) := by decide +kernel
theorem d_Line_drop_1 : decode b_Line_drop 1 = .ok (.iload_n 1, 1) := by decide +kernel
theorem d_Line_drop_2 : decode b_Line_drop 2 = .ok (.invokevirtual 19, 3) := by decide +kernel
theorem d_Line_drop_5 : decode b_Line_drop 5 = .ok (.istore_n 2, 1) := by decide +kernel
theorem d_Line_drop_6 : decode b_Line_drop 6 = .ok (.iload_n 2, 1) := by decide +kernel
theorem d_Line_drop_7 : decode b_Line_drop 7 = .ok (.ifCond .ge 5, 3) := by decide +kernel
theorem d_Line_drop_10 : decode b_Line_drop 10 = .ok (.iconst 0, 1) := by decide +kernel
theorem d_Line_drop_11 : decode b_Line_drop 11 = .ok (.ireturn, 1) := by decide +kernel
theorem d_Line_drop_12 : decode b_Line_drop 12 = .ok (.aload_n 0, 1) := by decide +kernel
theorem d_Line_drop_13 : decode b_Line_drop 13 = .ok (.dup, 1) := by decide +kernel
theorem d_Line_drop_14 : decode b_Line_drop 14 = .ok (.getfield 15, 3) := by decide +kernel
theorem d_Line_drop_17 : decode b_Line_drop 17 = .ok (.iconst 1, 1) := by decide +kernel
theorem d_Line_drop_18 : decode b_Line_drop 18 = .ok (.isub, 1) := by decide +kernel
theorem d_Line_drop_19 : decode b_Line_drop 19 = .ok (.putfield 15, 3) := by decide +kernel
theorem d_Line_drop_22 : decode b_Line_drop 22 = .ok (.iload_n 2, 1) := by decide +kernel
theorem d_Line_drop_23 : decode b_Line_drop 23 = .ok (.istore_n 3, 1) := by decide +kernel
theorem d_Line_drop_24 : decode b_Line_drop 24 = .ok (.iload_n 3, 1) := by decide +kernel
theorem d_Line_drop_25 : decode b_Line_drop 25 = .ok (.aload_n 0, 1) := by decide +kernel
theorem d_Line_drop_26 : decode b_Line_drop 26 = .ok (.getfield 15, 3) := by decide +kernel
theorem d_Line_drop_29 : decode b_Line_drop 29 = .ok (.if_icmp .ge 23, 3) := by decide +kernel
theorem d_Line_drop_32 : decode b_Line_drop 32 = .ok (.aload_n 0, 1) := by decide +kernel
theorem d_Line_drop_33 : decode b_Line_drop 33 = .ok (.getfield 9, 3) := by decide +kernel
theorem d_Line_drop_36 : decode b_Line_drop 36 = .ok (.iload_n 3, 1) := by decide +kernel
theorem d_Line_drop_37 : decode b_Line_drop 37 = .ok (.aload_n 0, 1) := by decide +kernel
theorem d_Line_drop_38 : decode b_Line_drop 38 = .ok (.getfield 9, 3) := by decide +kernel
theorem d_Line_drop_41 : decode b_Line_drop 41 = .ok (.iload_n 3, 1) := by decide +kernel
theorem d_Line_drop_42 : decode b_Line_drop 42 = .ok (.iconst 1, 1) := by decide +kernel
theorem d_Line_drop_43 : decode b_Line_drop 43 = .ok (.iadd, 1) := by decide +kernel
theorem d_Line_drop_44 : decode b_Line_drop 44 = .ok (.iaload, 1) := by decide +kernel
theorem d_Line_drop_45 : decode b_Line_drop 45 = .ok (.iastore, 1) := by decide +kernel
theorem d_Line_drop_46 : decode b_Line_drop 46 = .ok (.iinc 3 1, 3) := by decide +kernel
theorem d_Line_drop_49 : decode b_Line_drop 49 = .ok (.goto (-25), 3) := by decide +kernel
theorem d_Line_drop_52 : decode b_Line_drop 52 = .ok (.iconst 1, 1) := by decide +kernel
theorem d_Line_drop_53 : decode b_Line_drop 53 = .ok (.ireturn, 1) := by decide +kernel
theorem d_Line_append_0 : decode b_Line_append 0 = .ok (.aload_n 0, 1) := by decide +kernel
theorem d_Line_append_1 : decode b_Line_append 1 = .ok (.getfield 15, 3) := by decide +kernel
theorem d_Line_append_4 : decode b_Line_append 4 = .ok (.bipush 100, 2) := by decide +kernel
theorem d_Line_append_6 : decode b_Line_append 6 = .ok (.if_icmp .ge 23, 3) := by decide +kernel
theorem d_Line_append_9 : decode b_Line_append 9 = .ok (.aload_n 0, 1) := by decide +kernel
theorem d_Line_append_10 : decode b_Line_append 10 = .ok (.getfield 9, 3) := by decide +kernel
theorem d_Line_append_13 : decode b_Line_append 13 = .ok (.aload_n 0, 1) := by decide +kernel
theorem d_Line_append_14 : decode b_Line_append 14 = .ok (.getfield 15, 3) := by decide +kernel
theorem d_Line_append_17 : decode b_Line_append 17 = .ok (.iload_n 1, 1) := by decide +kernel
theorem d_Line_append_18 : decode b_Line_append 18 = .ok (.iastore, 1) := by decide +kernel
theorem d_Line_append_19 : decode b_Line_append 19 = .ok (.aload_n 0, 1) := by decide +kernel
theorem d_Line_append_20 : decode b_Line_append 20 = .ok (.dup, 1) := by decide +kernel
theorem d_Line_append_21 : decode b_Line_append 21 = .ok (.getfield 15, 3) := by decide +kernel
theorem d_Line_append_24 : decode b_Line_append 24 = .ok (.iconst 1, 1) := by decide +kernel
theorem d_Line_append_25 : decode b_Line_append 25 = .ok (.iadd, 1) := by decide +kernel
theorem d_Line_append_26 : decode b_Line_append 26 = .ok (.putfield 15, 3) := by decide +kernel
theorem d_Line_append_29 : decode b_Line_append 29 = .ok (.return_, 1) := by decide +kernel
theorem d_Pack_admitNext_0 : decode b_Pack_admitNext 0 = .ok (.aload_n 0, 1) := by decide +kernel
theorem d_Pack_admitNext_1 : decode b_Pack_admitNext 1 = .ok (.invokevirtual 38, 3) := by decide +kernel
theorem d_Pack_admitNext_4 : decode b_Pack_admitNext 4 = .ok (.ifCond .eq 13, 3) := by decide +kernel
theorem d_Pack_admitNext_7 : decode b_Pack_admitNext 7 = .ok (.aload_n 0, 1) := by decide +kernel
theorem d_Pack_admitNext_8 : decode b_Pack_admitNext 8 = .ok (.getfield 18, 3) := by decide +kernel
theorem d_Pack_admitNext_11 : decode b_Pack_admitNext 11 = .ok (.getfield 35, 3) := by decide +kernel
theorem d_Pack_admitNext_14 : decode b_Pack_admitNext 14 = .ok (.ifCond .ne 6, 3) := by decide +kernel
theorem d_Pack_admitNext_17 : decode b_Pack_admitNext 17 = .ok (.bipush (-10), 2) := by decide +kernel
theorem d_Pack_admitNext_19 : decode b_Pack_admitNext 19 = .ok (.ireturn, 1) := by decide +kernel
theorem d_Pack_admitNext_20 : decode b_Pack_admitNext 20 = .ok (.aload_n 0, 1) := by decide +kernel
theorem d_Pack_admitNext_21 : decode b_Pack_admitNext 21 = .ok (.getfield 18, 3) := by decide +kernel
theorem d_Pack_admitNext_24 : decode b_Pack_admitNext 24 = .ok (.getfield 42, 3) := by decide +kernel
theorem d_Pack_admitNext_27 : decode b_Pack_admitNext 27 = .ok (.iconst 0, 1) := by decide +kernel
theorem d_Pack_admitNext_28 : decode b_Pack_admitNext 28 = .ok (.iaload, 1) := by decide +kernel
theorem d_Pack_admitNext_29 : decode b_Pack_admitNext 29 = .ok (.istore_n 1, 1) := by decide +kernel
theorem d_Pack_admitNext_30 : decode b_Pack_admitNext 30 = .ok (.aload_n 0, 1) := by decide +kernel
theorem d_Pack_admitNext_31 : decode b_Pack_admitNext 31 = .ok (.getfield 18, 3) := by decide +kernel
theorem d_Pack_admitNext_34 : decode b_Pack_admitNext 34 = .ok (.iload_n 1, 1) := by decide +kernel
theorem d_Pack_admitNext_35 : decode b_Pack_admitNext 35 = .ok (.invokevirtual 46, 3) := by decide +kernel
theorem d_Pack_admitNext_38 : decode b_Pack_admitNext 38 = .ok (.pop, 1) := by decide +kernel
theorem d_Pack_admitNext_39 : decode b_Pack_admitNext 39 = .ok (.aload_n 0, 1) := by decide +kernel
theorem d_Pack_admitNext_40 : decode b_Pack_admitNext 40 = .ok (.getfield 12, 3) := by decide +kernel
theorem d_Pack_admitNext_43 : decode b_Pack_admitNext 43 = .ok (.iload_n 1, 1) := by decide +kernel
theorem d_Pack_admitNext_44 : decode b_Pack_admitNext 44 = .ok (.invokevirtual 50, 3) := by decide +kernel
theorem d_Pack_admitNext_47 : decode b_Pack_admitNext 47 = .ok (.iload_n 1, 1) := by decide +kernel
theorem d_Pack_admitNext_48 : decode b_Pack_admitNext 48 = .ok (.ireturn, 1) := by decide +kernel
theorem d_Line_holds_0 : decode b_Line_holds 0 = .ok (.aload_n 0, 1) := by decide +kernel
theorem d_Line_holds_1 : decode b_Line_holds 1 = .ok (.iload_n 1, 1) := by decide +kernel
theorem d_Line_holds_2 : decode b_Line_holds 2 = .ok (.invokevirtual 19, 3) := by decide +kernel
theorem d_Line_holds_5 : decode b_Line_holds 5 = .ok (.ifCond .lt 7, 3) := by decide +kernel
theorem d_Line_holds_8 : decode b_Line_holds 8 = .ok (.iconst 1, 1) := by decide +kernel
theorem d_Line_holds_9 : decode b_Line_holds 9 = .ok (.goto 4, 3) := by decide +kernel
theorem d_Line_holds_12 : decode b_Line_holds 12 = .ok (.iconst 0, 1) := by decide +kernel
theorem d_Line_holds_13 : decode b_Line_holds 13 = .ok (.ireturn, 1) := by decide +kernel
theorem d_Pack_hasEndedBy_0 : decode b_Pack_hasEndedBy 0 = .ok (.aload_n 0, 1) := by decide +kernel
theorem d_Pack_hasEndedBy_1 : decode b_Pack_hasEndedBy 1 = .ok (.getfield 25, 3) := by decide +kernel
theorem d_Pack_hasEndedBy_4 : decode b_Pack_hasEndedBy 4 = .ok (.iconst (-1), 1) := by decide +kernel
theorem d_Pack_hasEndedBy_5 : decode b_Pack_hasEndedBy 5 = .ok (.if_icmp .eq 15, 3) := by decide +kernel
theorem d_Pack_hasEndedBy_8 : decode b_Pack_hasEndedBy 8 = .ok (.aload_n 0, 1) := by decide +kernel
theorem d_Pack_hasEndedBy_9 : decode b_Pack_hasEndedBy 9 = .ok (.getfield 25, 3) := by decide +kernel
theorem d_Pack_hasEndedBy_12 : decode b_Pack_hasEndedBy 12 = .ok (.iload_n 1, 1) := by decide +kernel
theorem d_Pack_hasEndedBy_13 : decode b_Pack_hasEndedBy 13 = .ok (.if_icmp .gt 7, 3) := by decide +kernel
theorem d_Pack_hasEndedBy_16 : decode b_Pack_hasEndedBy 16 = .ok (.iconst 1, 1) := by decide +kernel
theorem d_Pack_hasEndedBy_17 : decode b_Pack_hasEndedBy 17 = .ok (.goto 4, 3) := by decide +kernel
theorem d_Pack_hasEndedBy_20 : decode b_Pack_hasEndedBy 20 = .ok (.iconst 0, 1) := by decide +kernel
theorem d_Pack_hasEndedBy_21 : decode b_Pack_hasEndedBy 21 = .ok (.ireturn, 1) := by decide +kernel
theorem d_Pack_keepsDay_0 : decode b_Pack_keepsDay 0 = .ok (.aload_n 0, 1) := by decide +kernel
theorem d_Pack_keepsDay_1 : decode b_Pack_keepsDay 1 = .ok (.getfield 31, 3) := by decide +kernel
theorem d_Pack_keepsDay_4 : decode b_Pack_keepsDay 4 = .ok (.ifCond .eq 15, 3) := by decide +kernel
theorem d_Pack_keepsDay_7 : decode b_Pack_keepsDay 7 = .ok (.iload_n 1, 1) := by decide +kernel
theorem d_Pack_keepsDay_8 : decode b_Pack_keepsDay 8 = .ok (.aload_n 0, 1) := by decide +kernel
theorem d_Pack_keepsDay_9 : decode b_Pack_keepsDay 9 = .ok (.getfield 25, 3) := by decide +kernel
theorem d_Pack_keepsDay_12 : decode b_Pack_keepsDay 12 = .ok (.if_icmp .ge 7, 3) := by decide +kernel
theorem d_Pack_keepsDay_15 : decode b_Pack_keepsDay 15 = .ok (.iconst 1, 1) := by decide +kernel
theorem d_Pack_keepsDay_16 : decode b_Pack_keepsDay 16 = .ok (.goto 4, 3) := by decide +kernel
theorem d_Pack_keepsDay_19 : decode b_Pack_keepsDay 19 = .ok (.iconst 0, 1) := by decide +kernel
theorem d_Pack_keepsDay_20 : decode b_Pack_keepsDay 20 = .ok (.ireturn, 1) := by decide +kernel
theorem d_Title_covers_0 : decode b_Title_covers 0 = .ok (.iconst 0, 1) := by decide +kernel
theorem d_Title_covers_1 : decode b_Title_covers 1 = .ok (.istore_n 2, 1) := by decide +kernel
theorem d_Title_covers_2 : decode b_Title_covers 2 = .ok (.iload_n 2, 1) := by decide +kernel
theorem d_Title_covers_3 : decode b_Title_covers 3 = .ok (.aload_n 0, 1) := by decide +kernel
theorem d_Title_covers_4 : decode b_Title_covers 4 = .ok (.getfield 26, 3) := by decide +kernel
theorem d_Title_covers_7 : decode b_Title_covers 7 = .ok (.if_icmp .ge 31, 3) := by decide +kernel
theorem d_Title_covers_10 : decode b_Title_covers 10 = .ok (.aload_n 0, 1) := by decide +kernel
theorem d_Title_covers_11 : decode b_Title_covers 11 = .ok (.getfield 19, 3) := by decide +kernel
theorem d_Title_covers_14 : decode b_Title_covers 14 = .ok (.iload_n 2, 1) := by decide +kernel
theorem d_Title_covers_15 : decode b_Title_covers 15 = .ok (.iaload, 1) := by decide +kernel
theorem d_Title_covers_16 : decode b_Title_covers 16 = .ok (.iload_n 1, 1) := by decide +kernel
theorem d_Title_covers_17 : decode b_Title_covers 17 = .ok (.if_icmp .gt 15, 3) := by decide +kernel
theorem d_Title_covers_20 : decode b_Title_covers 20 = .ok (.iload_n 1, 1) := by decide +kernel
theorem d_Title_covers_21 : decode b_Title_covers 21 = .ok (.aload_n 0, 1) := by decide +kernel
theorem d_Title_covers_22 : decode b_Title_covers 22 = .ok (.getfield 23, 3) := by decide +kernel
theorem d_Title_covers_25 : decode b_Title_covers 25 = .ok (.iload_n 2, 1) := by decide +kernel
theorem d_Title_covers_26 : decode b_Title_covers 26 = .ok (.iaload, 1) := by decide +kernel
theorem d_Title_covers_27 : decode b_Title_covers 27 = .ok (.if_icmp .gt 5, 3) := by decide +kernel
theorem d_Title_covers_30 : decode b_Title_covers 30 = .ok (.iconst 1, 1) := by decide +kernel
theorem d_Title_covers_31 : decode b_Title_covers 31 = .ok (.ireturn, 1) := by decide +kernel
theorem d_Title_covers_32 : decode b_Title_covers 32 = .ok (.iinc 2 1, 3) := by decide +kernel
theorem d_Title_covers_35 : decode b_Title_covers 35 = .ok (.goto (-33), 3) := by decide +kernel
theorem d_Title_covers_38 : decode b_Title_covers 38 = .ok (.iconst 0, 1) := by decide +kernel
theorem d_Title_covers_39 : decode b_Title_covers 39 = .ok (.ireturn, 1) := by decide +kernel
theorem d_Usages_ofReaderIn_0 : decode b_Usages_ofReaderIn 0 = .ok (.iconst 0, 1) := by decide +kernel
theorem d_Usages_ofReaderIn_1 : decode b_Usages_ofReaderIn 1 = .ok (.istore_n 3, 1) := by decide +kernel
theorem d_Usages_ofReaderIn_2 : decode b_Usages_ofReaderIn 2 = .ok (.iconst 0, 1) := by decide +kernel
theorem d_Usages_ofReaderIn_3 : decode b_Usages_ofReaderIn 3 = .ok (.istore 4, 2) := by decide +kernel
theorem d_Usages_ofReaderIn_5 : decode b_Usages_ofReaderIn 5 = .ok (.iload 4, 2) := by decide +kernel
theorem d_Usages_ofReaderIn_7 : decode b_Usages_ofReaderIn 7 = .ok (.aload_n 0, 1) := by decide +kernel
theorem d_Usages_ofReaderIn_8 : decode b_Usages_ofReaderIn 8 = .ok (.getfield 21, 3) := by decide +kernel
theorem d_Usages_ofReaderIn_11 : decode b_Usages_ofReaderIn 11 = .ok (.if_icmp .ge 34, 3) := by decide +kernel
theorem d_Usages_ofReaderIn_14 : decode b_Usages_ofReaderIn 14 = .ok (.aload_n 0, 1) := by decide +kernel
theorem d_Usages_ofReaderIn_15 : decode b_Usages_ofReaderIn 15 = .ok (.getfield 9, 3) := by decide +kernel
theorem d_Usages_ofReaderIn_18 : decode b_Usages_ofReaderIn 18 = .ok (.iload 4, 2) := by decide +kernel
theorem d_Usages_ofReaderIn_20 : decode b_Usages_ofReaderIn 20 = .ok (.iaload, 1) := by decide +kernel
theorem d_Usages_ofReaderIn_21 : decode b_Usages_ofReaderIn 21 = .ok (.iload_n 1, 1) := by decide +kernel
theorem d_Usages_ofReaderIn_22 : decode b_Usages_ofReaderIn 22 = .ok (.if_icmp .ne 17, 3) := by decide +kernel
theorem d_Usages_ofReaderIn_25 : decode b_Usages_ofReaderIn 25 = .ok (.aload_n 0, 1) := by decide +kernel
theorem d_Usages_ofReaderIn_26 : decode b_Usages_ofReaderIn 26 = .ok (.getfield 18, 3) := by decide +kernel
theorem d_Usages_ofReaderIn_29 : decode b_Usages_ofReaderIn 29 = .ok (.iload 4, 2) := by decide +kernel
theorem d_Usages_ofReaderIn_31 : decode b_Usages_ofReaderIn 31 = .ok (.iaload, 1) := by decide +kernel
theorem d_Usages_ofReaderIn_32 : decode b_Usages_ofReaderIn 32 = .ok (.iload_n 2, 1) := by decide +kernel
theorem d_Usages_ofReaderIn_33 : decode b_Usages_ofReaderIn 33 = .ok (.if_icmp .ne 6, 3) := by decide +kernel
theorem d_Usages_ofReaderIn_36 : decode b_Usages_ofReaderIn 36 = .ok (.iinc 3 1, 3) := by decide +kernel
theorem d_Usages_ofReaderIn_39 : decode b_Usages_ofReaderIn 39 = .ok (.iinc 4 1, 3) := by decide +kernel
theorem d_Usages_ofReaderIn_42 : decode b_Usages_ofReaderIn 42 = .ok (.goto (-37), 3) := by decide +kernel
theorem d_Usages_ofReaderIn_45 : decode b_Usages_ofReaderIn 45 = .ok (.iload_n 3, 1) := by decide +kernel
theorem d_Usages_ofReaderIn_46 : decode b_Usages_ofReaderIn 46 = .ok (.ireturn, 1) := by decide +kernel
theorem d_Notices_append_0 : decode b_Notices_append 0 = .ok (.aload_n 0, 1) := by decide +kernel
theorem d_Notices_append_1 : decode b_Notices_append 1 = .ok (.getfield 18, 3) := by decide +kernel
theorem d_Notices_append_4 : decode b_Notices_append 4 = .ok (.bipush 100, 2) := by decide +kernel
theorem d_Notices_append_6 : decode b_Notices_append 6 = .ok (.if_icmp .ge 33, 3) := by decide +kernel
theorem d_Notices_append_9 : decode b_Notices_append 9 = .ok (.aload_n 0, 1) := by decide +kernel
theorem d_Notices_append_10 : decode b_Notices_append 10 = .ok (.getfield 9, 3) := by decide +kernel
theorem d_Notices_append_13 : decode b_Notices_append 13 = .ok (.aload_n 0, 1) := by decide +kernel
theorem d_Notices_append_14 : decode b_Notices_append 14 = .ok (.getfield 18, 3) := by decide +kernel
theorem d_Notices_append_17 : decode b_Notices_append 17 = .ok (.iload_n 1, 1) := by decide +kernel
theorem d_Notices_append_18 : decode b_Notices_append 18 = .ok (.iastore, 1) := by decide +kernel
theorem d_Notices_append_19 : decode b_Notices_append 19 = .ok (.aload_n 0, 1) := by decide +kernel
theorem d_Notices_append_20 : decode b_Notices_append 20 = .ok (.getfield 15, 3) := by decide +kernel
theorem d_Notices_append_23 : decode b_Notices_append 23 = .ok (.aload_n 0, 1) := by decide +kernel
theorem d_Notices_append_24 : decode b_Notices_append 24 = .ok (.getfield 18, 3) := by decide +kernel
theorem d_Notices_append_27 : decode b_Notices_append 27 = .ok (.iload_n 2, 1) := by decide +kernel
theorem d_Notices_append_28 : decode b_Notices_append 28 = .ok (.iastore, 1) := by decide +kernel
theorem d_Notices_append_29 : decode b_Notices_append 29 = .ok (.aload_n 0, 1) := by decide +kernel
theorem d_Notices_append_30 : decode b_Notices_append 30 = .ok (.dup, 1) := by decide +kernel
theorem d_Notices_append_31 : decode b_Notices_append 31 = .ok (.getfield 18, 3) := by decide +kernel
theorem d_Notices_append_34 : decode b_Notices_append 34 = .ok (.iconst 1, 1) := by decide +kernel
theorem d_Notices_append_35 : decode b_Notices_append 35 = .ok (.iadd, 1) := by decide +kernel
theorem d_Notices_append_36 : decode b_Notices_append 36 = .ok (.putfield 18, 3) := by decide +kernel
theorem d_Notices_append_39 : decode b_Notices_append 39 = .ok (.return_, 1) := by decide +kernel
theorem d_Rule_fits_0 : decode b_Rule_fits 0 = .ok (.aload_n 0, 1) := by decide +kernel
theorem d_Rule_fits_1 : decode b_Rule_fits 1 = .ok (.getfield 19, 3) := by decide +kernel
theorem d_Rule_fits_4 : decode b_Rule_fits 4 = .ok (.tableswitch 96 0 3 #[32, 46, 60, 81], 32) := by decide +kernel
theorem d_Rule_fits_36 : decode b_Rule_fits 36 = .ok (.iload_n 1, 1) := by decide +kernel
theorem d_Rule_fits_37 : decode b_Rule_fits 37 = .ok (.aload_n 0, 1) := by decide +kernel
theorem d_Rule_fits_38 : decode b_Rule_fits 38 = .ok (.getfield 25, 3) := by decide +kernel
theorem d_Rule_fits_41 : decode b_Rule_fits 41 = .ok (.if_icmp .ne 7, 3) := by decide +kernel
theorem d_Rule_fits_44 : decode b_Rule_fits 44 = .ok (.iconst 1, 1) := by decide +kernel
theorem d_Rule_fits_45 : decode b_Rule_fits 45 = .ok (.goto 4, 3) := by decide +kernel
theorem d_Rule_fits_48 : decode b_Rule_fits 48 = .ok (.iconst 0, 1) := by decide +kernel
theorem d_Rule_fits_49 : decode b_Rule_fits 49 = .ok (.ireturn, 1) := by decide +kernel
theorem d_Rule_fits_50 : decode b_Rule_fits 50 = .ok (.iload_n 2, 1) := by decide +kernel
theorem d_Rule_fits_51 : decode b_Rule_fits 51 = .ok (.aload_n 0, 1) := by decide +kernel
theorem d_Rule_fits_52 : decode b_Rule_fits 52 = .ok (.getfield 25, 3) := by decide +kernel
theorem d_Rule_fits_55 : decode b_Rule_fits 55 = .ok (.if_icmp .ge 7, 3) := by decide +kernel
theorem d_Rule_fits_58 : decode b_Rule_fits 58 = .ok (.iconst 1, 1) := by decide +kernel
theorem d_Rule_fits_59 : decode b_Rule_fits 59 = .ok (.goto 4, 3) := by decide +kernel
theorem d_Rule_fits_62 : decode b_Rule_fits 62 = .ok (.iconst 0, 1) := by decide +kernel
theorem d_Rule_fits_63 : decode b_Rule_fits 63 = .ok (.ireturn, 1) := by decide +kernel
theorem d_Rule_fits_64 : decode b_Rule_fits 64 = .ok (.aload_n 0, 1) := by decide +kernel
theorem d_Rule_fits_65 : decode b_Rule_fits 65 = .ok (.getfield 25, 3) := by decide +kernel
theorem d_Rule_fits_68 : decode b_Rule_fits 68 = .ok (.iload_n 3, 1) := by decide +kernel
theorem d_Rule_fits_69 : decode b_Rule_fits 69 = .ok (.bipush 7, 2) := by decide +kernel
theorem d_Rule_fits_71 : decode b_Rule_fits 71 = .ok (.irem, 1) := by decide +kernel
theorem d_Rule_fits_72 : decode b_Rule_fits 72 = .ok (.ishr, 1) := by decide +kernel
theorem d_Rule_fits_73 : decode b_Rule_fits 73 = .ok (.iconst 1, 1) := by decide +kernel
theorem d_Rule_fits_74 : decode b_Rule_fits 74 = .ok (.iand, 1) := by decide +kernel
theorem d_Rule_fits_75 : decode b_Rule_fits 75 = .ok (.iconst 1, 1) := by decide +kernel
theorem d_Rule_fits_76 : decode b_Rule_fits 76 = .ok (.if_icmp .ne 7, 3) := by decide +kernel
theorem d_Rule_fits_79 : decode b_Rule_fits 79 = .ok (.iconst 1, 1) := by decide +kernel
theorem d_Rule_fits_80 : decode b_Rule_fits 80 = .ok (.goto 4, 3) := by decide +kernel
theorem d_Rule_fits_83 : decode b_Rule_fits 83 = .ok (.iconst 0, 1) := by decide +kernel
theorem d_Rule_fits_84 : decode b_Rule_fits 84 = .ok (.ireturn, 1) := by decide +kernel
theorem d_Rule_fits_85 : decode b_Rule_fits 85 = .ok (.iload 4, 2) := by decide +kernel
theorem d_Rule_fits_87 : decode b_Rule_fits 87 = .ok (.aload_n 0, 1) := by decide +kernel
theorem d_Rule_fits_88 : decode b_Rule_fits 88 = .ok (.getfield 25, 3) := by decide +kernel
theorem d_Rule_fits_91 : decode b_Rule_fits 91 = .ok (.if_icmp .lt 7, 3) := by decide +kernel
theorem d_Rule_fits_94 : decode b_Rule_fits 94 = .ok (.iconst 1, 1) := by decide +kernel
theorem d_Rule_fits_95 : decode b_Rule_fits 95 = .ok (.goto 4, 3) := by decide +kernel
theorem d_Rule_fits_98 : decode b_Rule_fits 98 = .ok (.iconst 0, 1) := by decide +kernel
theorem d_Rule_fits_99 : decode b_Rule_fits 99 = .ok (.ireturn, 1) := by decide +kernel
theorem d_Rule_fits_100 : decode b_Rule_fits 100 = .ok (.iconst 0, 1) := by decide +kernel
theorem d_Rule_fits_101 : decode b_Rule_fits 101 = .ok (.ireturn, 1) := by decide +kernel
theorem d_Usages_append_0 : decode b_Usages_append 0 = .ok (.aload_n 0, 1) := by decide +kernel
theorem d_Usages_append_1 : decode b_Usages_append 1 = .ok (.getfield 21, 3) := by decide +kernel
theorem d_Usages_append_4 : decode b_Usages_append 4 = .ok (.sipush 512, 3) := by decide +kernel
theorem d_Usages_append_7 : decode b_Usages_append 7 = .ok (.if_icmp .ge 43, 3) := by decide +kernel
theorem d_Usages_append_10 : decode b_Usages_append 10 = .ok (.aload_n 0, 1) := by decide +kernel
theorem d_Usages_append_11 : decode b_Usages_append 11 = .ok (.getfield 9, 3) := by decide +kernel
theorem d_Usages_append_14 : decode b_Usages_append 14 = .ok (.aload_n 0, 1) := by decide +kernel
theorem d_Usages_append_15 : decode b_Usages_append 15 = .ok (.getfield 21, 3) := by decide +kernel
theorem d_Usages_append_18 : decode b_Usages_append 18 = .ok (.iload_n 1, 1) := by decide +kernel
theorem d_Usages_append_19 : decode b_Usages_append 19 = .ok (.iastore, 1) := by decide +kernel
theorem d_Usages_append_20 : decode b_Usages_append 20 = .ok (.aload_n 0, 1) := by decide +kernel
theorem d_Usages_append_21 : decode b_Usages_append 21 = .ok (.getfield 15, 3) := by decide +kernel
theorem d_Usages_append_24 : decode b_Usages_append 24 = .ok (.aload_n 0, 1) := by decide +kernel
theorem d_Usages_append_25 : decode b_Usages_append 25 = .ok (.getfield 21, 3) := by decide +kernel
theorem d_Usages_append_28 : decode b_Usages_append 28 = .ok (.iload_n 2, 1) := by decide +kernel
theorem d_Usages_append_29 : decode b_Usages_append 29 = .ok (.iastore, 1) := by decide +kernel
theorem d_Usages_append_30 : decode b_Usages_append 30 = .ok (.aload_n 0, 1) := by decide +kernel
theorem d_Usages_append_31 : decode b_Usages_append 31 = .ok (.getfield 18, 3) := by decide +kernel
theorem d_Usages_append_34 : decode b_Usages_append 34 = .ok (.aload_n 0, 1) := by decide +kernel
theorem d_Usages_append_35 : decode b_Usages_append 35 = .ok (.getfield 21, 3) := by decide +kernel
theorem d_Usages_append_38 : decode b_Usages_append 38 = .ok (.iload_n 3, 1) := by decide +kernel
theorem d_Usages_append_39 : decode b_Usages_append 39 = .ok (.iastore, 1) := by decide +kernel
theorem d_Usages_append_40 : decode b_Usages_append 40 = .ok (.aload_n 0, 1) := by decide +kernel
theorem d_Usages_append_41 : decode b_Usages_append 41 = .ok (.dup, 1) := by decide +kernel
theorem d_Usages_append_42 : decode b_Usages_append 42 = .ok (.getfield 21, 3) := by decide +kernel
theorem d_Usages_append_45 : decode b_Usages_append 45 = .ok (.iconst 1, 1) := by decide +kernel
theorem d_Usages_append_46 : decode b_Usages_append 46 = .ok (.iadd, 1) := by decide +kernel
theorem d_Usages_append_47 : decode b_Usages_append 47 = .ok (.putfield 21, 3) := by decide +kernel
theorem d_Usages_append_50 : decode b_Usages_append 50 = .ok (.return_, 1) := by decide +kernel
theorem d_Title_lastDay_0 : decode b_Title_lastDay 0 = .ok (.aload_n 0, 1) := by decide +kernel
theorem d_Title_lastDay_1 : decode b_Title_lastDay 1 = .ok (.getfield 26, 3) := by decide +kernel
theorem d_Title_lastDay_4 : decode b_Title_lastDay 4 = .ok (.ifCond .ne 7, 3) := by decide +kernel
theorem d_Title_lastDay_7 : decode b_Title_lastDay 7 = .ok (.iconst (-1), 1) := by decide +kernel
theorem d_Title_lastDay_8 : decode b_Title_lastDay 8 = .ok (.goto 14, 3) := by decide +kernel
theorem d_Title_lastDay_11 : decode b_Title_lastDay 11 = .ok (.aload_n 0, 1) := by decide +kernel
theorem d_Title_lastDay_12 : decode b_Title_lastDay 12 = .ok (.getfield 23, 3) := by decide +kernel
theorem d_Title_lastDay_15 : decode b_Title_lastDay 15 = .ok (.aload_n 0, 1) := by decide +kernel
theorem d_Title_lastDay_16 : decode b_Title_lastDay 16 = .ok (.getfield 26, 3) := by decide +kernel
theorem d_Title_lastDay_19 : decode b_Title_lastDay 19 = .ok (.iconst 1, 1) := by decide +kernel
theorem d_Title_lastDay_20 : decode b_Title_lastDay 20 = .ok (.isub, 1) := by decide +kernel
theorem d_Title_lastDay_21 : decode b_Title_lastDay 21 = .ok (.iaload, 1) := by decide +kernel
theorem d_Title_lastDay_22 : decode b_Title_lastDay 22 = .ok (.ireturn, 1) := by decide +kernel
theorem d_Usages_ofTitle_0 : decode b_Usages_ofTitle 0 = .ok (.iconst 0, 1) := by decide +kernel
theorem d_Usages_ofTitle_1 : decode b_Usages_ofTitle 1 = .ok (.istore_n 2, 1) := by decide +kernel
theorem d_Usages_ofTitle_2 : decode b_Usages_ofTitle 2 = .ok (.iconst 0, 1) := by decide +kernel
theorem d_Usages_ofTitle_3 : decode b_Usages_ofTitle 3 = .ok (.istore_n 3, 1) := by decide +kernel
theorem d_Usages_ofTitle_4 : decode b_Usages_ofTitle 4 = .ok (.iload_n 3, 1) := by decide +kernel
theorem d_Usages_ofTitle_5 : decode b_Usages_ofTitle 5 = .ok (.aload_n 0, 1) := by decide +kernel
theorem d_Usages_ofTitle_6 : decode b_Usages_ofTitle 6 = .ok (.getfield 21, 3) := by decide +kernel
theorem d_Usages_ofTitle_9 : decode b_Usages_ofTitle 9 = .ok (.if_icmp .ge 22, 3) := by decide +kernel
theorem d_Usages_ofTitle_12 : decode b_Usages_ofTitle 12 = .ok (.aload_n 0, 1) := by decide +kernel
theorem d_Usages_ofTitle_13 : decode b_Usages_ofTitle 13 = .ok (.getfield 15, 3) := by decide +kernel
theorem d_Usages_ofTitle_16 : decode b_Usages_ofTitle 16 = .ok (.iload_n 3, 1) := by decide +kernel
theorem d_Usages_ofTitle_17 : decode b_Usages_ofTitle 17 = .ok (.iaload, 1) := by decide +kernel
theorem d_Usages_ofTitle_18 : decode b_Usages_ofTitle 18 = .ok (.iload_n 1, 1) := by decide +kernel
theorem d_Usages_ofTitle_19 : decode b_Usages_ofTitle 19 = .ok (.if_icmp .ne 6, 3) := by decide +kernel
theorem d_Usages_ofTitle_22 : decode b_Usages_ofTitle 22 = .ok (.iinc 2 1, 3) := by decide +kernel
theorem d_Usages_ofTitle_25 : decode b_Usages_ofTitle 25 = .ok (.iinc 3 1, 3) := by decide +kernel
theorem d_Usages_ofTitle_28 : decode b_Usages_ofTitle 28 = .ok (.goto (-24), 3) := by decide +kernel
theorem d_Usages_ofTitle_31 : decode b_Usages_ofTitle 31 = .ok (.iload_n 2, 1) := by decide +kernel
theorem d_Usages_ofTitle_32 : decode b_Usages_ofTitle 32 = .ok (.ireturn, 1) := by decide +kernel
theorem d_Title_firstDay_0 : decode b_Title_firstDay 0 = .ok (.aload_n 0, 1) := by decide +kernel
theorem d_Title_firstDay_1 : decode b_Title_firstDay 1 = .ok (.getfield 26, 3) := by decide +kernel
theorem d_Title_firstDay_4 : decode b_Title_firstDay 4 = .ok (.ifCond .ne 7, 3) := by decide +kernel
theorem d_Title_firstDay_7 : decode b_Title_firstDay 7 = .ok (.iconst (-1), 1) := by decide +kernel
theorem d_Title_firstDay_8 : decode b_Title_firstDay 8 = .ok (.goto 9, 3) := by decide +kernel
theorem d_Title_firstDay_11 : decode b_Title_firstDay 11 = .ok (.aload_n 0, 1) := by decide +kernel
theorem d_Title_firstDay_12 : decode b_Title_firstDay 12 = .ok (.getfield 19, 3) := by decide +kernel
theorem d_Title_firstDay_15 : decode b_Title_firstDay 15 = .ok (.iconst 0, 1) := by decide +kernel
theorem d_Title_firstDay_16 : decode b_Title_firstDay 16 = .ok (.iaload, 1) := by decide +kernel
theorem d_Title_firstDay_17 : decode b_Title_firstDay 17 = .ok (.ireturn, 1) := by decide +kernel
theorem d_Usages_ofTitleIn_0 : decode b_Usages_ofTitleIn 0 = .ok (.iconst 0, 1) := by decide +kernel
theorem d_Usages_ofTitleIn_1 : decode b_Usages_ofTitleIn 1 = .ok (.istore_n 3, 1) := by decide +kernel
theorem d_Usages_ofTitleIn_2 : decode b_Usages_ofTitleIn 2 = .ok (.iconst 0, 1) := by decide +kernel
theorem d_Usages_ofTitleIn_3 : decode b_Usages_ofTitleIn 3 = .ok (.istore 4, 2) := by decide +kernel
theorem d_Usages_ofTitleIn_5 : decode b_Usages_ofTitleIn 5 = .ok (.iload 4, 2) := by decide +kernel
theorem d_Usages_ofTitleIn_7 : decode b_Usages_ofTitleIn 7 = .ok (.aload_n 0, 1) := by decide +kernel
theorem d_Usages_ofTitleIn_8 : decode b_Usages_ofTitleIn 8 = .ok (.getfield 21, 3) := by decide +kernel
theorem d_Usages_ofTitleIn_11 : decode b_Usages_ofTitleIn 11 = .ok (.if_icmp .ge 34, 3) := by decide +kernel
theorem d_Usages_ofTitleIn_14 : decode b_Usages_ofTitleIn 14 = .ok (.aload_n 0, 1) := by decide +kernel
theorem d_Usages_ofTitleIn_15 : decode b_Usages_ofTitleIn 15 = .ok (.getfield 15, 3) := by decide +kernel
theorem d_Usages_ofTitleIn_18 : decode b_Usages_ofTitleIn 18 = .ok (.iload 4, 2) := by decide +kernel
theorem d_Usages_ofTitleIn_20 : decode b_Usages_ofTitleIn 20 = .ok (.iaload, 1) := by decide +kernel
theorem d_Usages_ofTitleIn_21 : decode b_Usages_ofTitleIn 21 = .ok (.iload_n 1, 1) := by decide +kernel
theorem d_Usages_ofTitleIn_22 : decode b_Usages_ofTitleIn 22 = .ok (.if_icmp .ne 17, 3) := by decide +kernel
theorem d_Usages_ofTitleIn_25 : decode b_Usages_ofTitleIn 25 = .ok (.aload_n 0, 1) := by decide +kernel
theorem d_Usages_ofTitleIn_26 : decode b_Usages_ofTitleIn 26 = .ok (.getfield 18, 3) := by decide +kernel
theorem d_Usages_ofTitleIn_29 : decode b_Usages_ofTitleIn 29 = .ok (.iload 4, 2) := by decide +kernel
theorem d_Usages_ofTitleIn_31 : decode b_Usages_ofTitleIn 31 = .ok (.iaload, 1) := by decide +kernel
theorem d_Usages_ofTitleIn_32 : decode b_Usages_ofTitleIn 32 = .ok (.iload_n 2, 1) := by decide +kernel
theorem d_Usages_ofTitleIn_33 : decode b_Usages_ofTitleIn 33 = .ok (.if_icmp .ne 6, 3) := by decide +kernel
theorem d_Usages_ofTitleIn_36 : decode b_Usages_ofTitleIn 36 = .ok (.iinc 3 1, 3) := by decide +kernel
theorem d_Usages_ofTitleIn_39 : decode b_Usages_ofTitleIn 39 = .ok (.iinc 4 1, 3) := by decide +kernel
theorem d_Usages_ofTitleIn_42 : decode b_Usages_ofTitleIn 42 = .ok (.goto (-37), 3) := by decide +kernel
theorem d_Usages_ofTitleIn_45 : decode b_Usages_ofTitleIn 45 = .ok (.iload_n 3, 1) := by decide +kernel
theorem d_Usages_ofTitleIn_46 : decode b_Usages_ofTitleIn 46 = .ok (.ireturn, 1) := by decide +kernel
theorem d_Line_at_0 : decode b_Line_at 0 = .ok (.iload_n 1, 1) := by decide +kernel
theorem d_Line_at_1 : decode b_Line_at 1 = .ok (.ifCond .lt 11, 3) := by decide +kernel
theorem d_Line_at_4 : decode b_Line_at 4 = .ok (.iload_n 1, 1) := by decide +kernel
theorem d_Line_at_5 : decode b_Line_at 5 = .ok (.aload_n 0, 1) := by decide +kernel
theorem d_Line_at_6 : decode b_Line_at 6 = .ok (.getfield 15, 3) := by decide +kernel
theorem d_Line_at_9 : decode b_Line_at 9 = .ok (.if_icmp .lt 7, 3) := by decide +kernel
theorem d_Line_at_12 : decode b_Line_at 12 = .ok (.iconst (-1), 1) := by decide +kernel
theorem d_Line_at_13 : decode b_Line_at 13 = .ok (.goto 9, 3) := by decide +kernel
theorem d_Line_at_16 : decode b_Line_at 16 = .ok (.aload_n 0, 1) := by decide +kernel
theorem d_Line_at_17 : decode b_Line_at 17 = .ok (.getfield 9, 3) := by decide +kernel
theorem d_Line_at_20 : decode b_Line_at 20 = .ok (.iload_n 1, 1) := by decide +kernel
theorem d_Line_at_21 : decode b_Line_at 21 = .ok (.iaload, 1) := by decide +kernel
theorem d_Line_at_22 : decode b_Line_at 22 = .ok (.ireturn, 1) := by decide +kernel
def f_Usages_init (v0 : Nat) (M : mm) : Option (Unit × mm) :=
    (nA 512 M).bind fun (x1, M1) =>
    (pF 7 0 (.ref x1) M1 v0).bind fun M2 =>
    (nA 512 M2).bind fun (x3, M3) =>
    (pF 7 1 (.ref x3) M3 v0).bind fun M4 =>
    (nA 512 M4).bind fun (x5, M5) =>
    (pF 7 2 (.ref x5) M5 v0).bind fun M6 =>
    (pF 7 3 (.int 0) M6 v0).bind fun M7 =>
    some ((), M7)
set_option maxHeartbeats 4000000 in
set_option maxRecDepth 100000 in
theorem c_Usages_init (l : Launch) (D : va_G) (dA : Nat → ClassId) (M0 M' : mm) (r : Unit) (v0 : Nat) (h : f_Usages_init v0 M0 = some (r, M')) : Met l y_Usages_init w_Usages_init rm_Usages_init (mm_Pre D dA M0 [.ref v0]) (mm_QV D dA M0 r M') 3 1536 (mm_A M0) := by
  refine Met.ofW (cc := b_Usages_init) (maxL := 1) (ret := none) (by decide) rfl ?_
  intro p e s m args below meth c s₁ B hml hv
  obtain ⟨rfl, hW, hK⟩ := hv
  have C : mm_C p s m _ meth c b_Usages_init 1 none R_Usages D dA (mm_A M0) := ⟨B.exec, B.bytes, B.returns, hml, findClass_of_methodNamed B.named, fun w hw => atoms_spec (ws := w_Usages_init) B.pre w (List.mem_cons_of_mem _ hw), B.notSynchronized, hK, fun q hq => Or.inr (by rw [← hW.1]; exact hq)⟩
  have hini : meth.name = "<init>" := (name_of_methodNamed B.named B.method).1
  have hS : va_S (mm_A M0) s.heap s.heap [] := va_S.rf
  obtain ⟨hx, hb, hr, hml, hown, hts, hlocks, hK, hA⟩ := id C
  have hl := lv_entry ([.ref v0]) (n := 1) (Nat.le_of_ble_eq_true rfl)
  rw [lg_entry_eq]
  generalize (lg_sl ([.ref v0]) ++ List.replicate (1 - (lg_sl ([.ref v0])).length) Slot.unset).toArray = ls at hl ⊢
  have hl : lv_has ls 1 [(0, .ref v0)] := hl
  unfold f_Usages_init at h
  refine lv_aload_n hx hb d_Usages_init_0 rfl (lv_at hl 0 rfl) ?_
  refine W.objInit hx hb hown (hts _ q_0) (hts _ q_1) (hts _ q_2) rfl (by rw [hml]; exact hl.1) rfl d_Usages_init_1 (Nat.le_of_ble_eq_true rfl) (Nat.le_of_ble_eq_true rfl) ?_
  refine W.eq (g2 := F0 m 4 ls []) rfl ?_
  refine lv_aload_n hx hb d_Usages_init_4 rfl (lv_at hl 0 rfl) ?_
  refine lv_sipush (v := 512) hx hb d_Usages_init_5 (by decide) ?_
  obtain ⟨⟨x1, M1⟩, e1, h⟩ := ob h
  refine mr_nA C hW hS q_3 (by decide) (by decide) (by decide) (Nat.le_of_ble_eq_true rfl) (Nat.le_of_ble_eq_true rfl) e1 d_Usages_init_8 (fun H hW hS => ?_)
  obtain ⟨M2, e2, h⟩ := ob h
  refine mr_putF C hW hS kp_Usages_9 hini rfl rfl e2 d_Usages_init_10 (fun H locs hW hS => ?_)
  refine lv_aload_n hx hb d_Usages_init_13 rfl (lv_at hl 0 rfl) ?_
  refine lv_sipush (v := 512) hx hb d_Usages_init_14 (by decide) ?_
  obtain ⟨⟨x3, M3⟩, e3, h⟩ := ob h
  refine mr_nA C hW hS q_3 (by decide) (by decide) (by decide) (Nat.le_of_ble_eq_true rfl) (Nat.le_of_ble_eq_true rfl) e3 d_Usages_init_17 (fun H hW hS => ?_)
  obtain ⟨M4, e4, h⟩ := ob h
  refine mr_putF C hW hS kp_Usages_15 hini rfl rfl e4 d_Usages_init_19 (fun H locs hW hS => ?_)
  refine lv_aload_n hx hb d_Usages_init_22 rfl (lv_at hl 0 rfl) ?_
  refine lv_sipush (v := 512) hx hb d_Usages_init_23 (by decide) ?_
  obtain ⟨⟨x5, M5⟩, e5, h⟩ := ob h
  refine mr_nA C hW hS q_3 (by decide) (by decide) (by decide) (Nat.le_of_ble_eq_true rfl) (Nat.le_of_ble_eq_true rfl) e5 d_Usages_init_26 (fun H hW hS => ?_)
  obtain ⟨M6, e6, h⟩ := ob h
  refine mr_putF C hW hS kp_Usages_18 hini rfl rfl e6 d_Usages_init_28 (fun H locs hW hS => ?_)
  refine lv_aload_n hx hb d_Usages_init_31 rfl (lv_at hl 0 rfl) ?_
  refine lv_iconst (v := 0) hx hb d_Usages_init_32 (by decide) ?_
  obtain ⟨M7, e7, h⟩ := ob h
  refine mr_put C hW hS kp_Usages_21 rfl rfl e7 d_Usages_init_33 (fun H locs hW hS => ?_)
  exact mr_vret C hW hS (Nat.le_of_ble_eq_true rfl) (Nat.le_of_ble_eq_true rfl) h d_Usages_init_36
def f_Notices_init (v0 : Nat) (M : mm) : Option (Unit × mm) :=
    (nA 100 M).bind fun (x1, M1) =>
    (pF 3 0 (.ref x1) M1 v0).bind fun M2 =>
    (nA 100 M2).bind fun (x3, M3) =>
    (pF 3 1 (.ref x3) M3 v0).bind fun M4 =>
    (pF 3 2 (.int 0) M4 v0).bind fun M5 =>
    some ((), M5)
set_option maxHeartbeats 4000000 in
set_option maxRecDepth 100000 in
theorem c_Notices_init (l : Launch) (D : va_G) (dA : Nat → ClassId) (M0 M' : mm) (r : Unit) (v0 : Nat) (h : f_Notices_init v0 M0 = some (r, M')) : Met l y_Notices_init w_Notices_init rm_Notices_init (mm_Pre D dA M0 [.ref v0]) (mm_QV D dA M0 r M') 2 200 (mm_A M0) := by
  refine Met.ofW (cc := b_Notices_init) (maxL := 1) (ret := none) (by decide) rfl ?_
  intro p e s m args below meth c s₁ B hml hv
  obtain ⟨rfl, hW, hK⟩ := hv
  have C : mm_C p s m _ meth c b_Notices_init 1 none R_Notices D dA (mm_A M0) := ⟨B.exec, B.bytes, B.returns, hml, findClass_of_methodNamed B.named, fun w hw => atoms_spec (ws := w_Notices_init) B.pre w (List.mem_cons_of_mem _ hw), B.notSynchronized, hK, fun q hq => Or.inr (by rw [← hW.1]; exact hq)⟩
  have hini : meth.name = "<init>" := (name_of_methodNamed B.named B.method).1
  have hS : va_S (mm_A M0) s.heap s.heap [] := va_S.rf
  obtain ⟨hx, hb, hr, hml, hown, hts, hlocks, hK, hA⟩ := id C
  have hl := lv_entry ([.ref v0]) (n := 1) (Nat.le_of_ble_eq_true rfl)
  rw [lg_entry_eq]
  generalize (lg_sl ([.ref v0]) ++ List.replicate (1 - (lg_sl ([.ref v0])).length) Slot.unset).toArray = ls at hl ⊢
  have hl : lv_has ls 1 [(0, .ref v0)] := hl
  unfold f_Notices_init at h
  refine lv_aload_n hx hb d_Notices_init_0 rfl (lv_at hl 0 rfl) ?_
  refine W.objInit hx hb hown (hts _ q_8) (hts _ q_1) (hts _ q_2) rfl (by rw [hml]; exact hl.1) rfl d_Notices_init_1 (Nat.le_of_ble_eq_true rfl) (Nat.le_of_ble_eq_true rfl) ?_
  refine W.eq (g2 := F0 m 4 ls []) rfl ?_
  refine lv_aload_n hx hb d_Notices_init_4 rfl (lv_at hl 0 rfl) ?_
  refine lv_bipush (v := 100) hx hb d_Notices_init_5 (by decide) ?_
  obtain ⟨⟨x1, M1⟩, e1, h⟩ := ob h
  refine mr_nA C hW hS q_3 (by decide) (by decide) (by decide) (Nat.le_of_ble_eq_true rfl) (Nat.le_of_ble_eq_true rfl) e1 d_Notices_init_7 (fun H hW hS => ?_)
  obtain ⟨M2, e2, h⟩ := ob h
  refine mr_putF C hW hS kp_Notices_9 hini rfl rfl e2 d_Notices_init_9 (fun H locs hW hS => ?_)
  refine lv_aload_n hx hb d_Notices_init_12 rfl (lv_at hl 0 rfl) ?_
  refine lv_bipush (v := 100) hx hb d_Notices_init_13 (by decide) ?_
  obtain ⟨⟨x3, M3⟩, e3, h⟩ := ob h
  refine mr_nA C hW hS q_3 (by decide) (by decide) (by decide) (Nat.le_of_ble_eq_true rfl) (Nat.le_of_ble_eq_true rfl) e3 d_Notices_init_15 (fun H hW hS => ?_)
  obtain ⟨M4, e4, h⟩ := ob h
  refine mr_putF C hW hS kp_Notices_15 hini rfl rfl e4 d_Notices_init_17 (fun H locs hW hS => ?_)
  refine lv_aload_n hx hb d_Notices_init_20 rfl (lv_at hl 0 rfl) ?_
  refine lv_iconst (v := 0) hx hb d_Notices_init_21 (by decide) ?_
  obtain ⟨M5, e5, h⟩ := ob h
  refine mr_put C hW hS kp_Notices_18 rfl rfl e5 d_Notices_init_22 (fun H locs hW hS => ?_)
  exact mr_vret C hW hS (Nat.le_of_ble_eq_true rfl) (Nat.le_of_ble_eq_true rfl) h d_Notices_init_25
def f_Line_init (v0 : Nat) (M : mm) : Option (Unit × mm) :=
    (nA 100 M).bind fun (x1, M1) =>
    (pF 2 0 (.ref x1) M1 v0).bind fun M2 =>
    (pF 2 1 (.int 0) M2 v0).bind fun M3 =>
    some ((), M3)
set_option maxHeartbeats 4000000 in
set_option maxRecDepth 100000 in
theorem c_Line_init (l : Launch) (D : va_G) (dA : Nat → ClassId) (M0 M' : mm) (r : Unit) (v0 : Nat) (h : f_Line_init v0 M0 = some (r, M')) : Met l y_Line_init w_Line_init rm_Line_init (mm_Pre D dA M0 [.ref v0]) (mm_QV D dA M0 r M') 1 100 (mm_A M0) := by
  refine Met.ofW (cc := b_Line_init) (maxL := 1) (ret := none) (by decide) rfl ?_
  intro p e s m args below meth c s₁ B hml hv
  obtain ⟨rfl, hW, hK⟩ := hv
  have C : mm_C p s m _ meth c b_Line_init 1 none R_Line D dA (mm_A M0) := ⟨B.exec, B.bytes, B.returns, hml, findClass_of_methodNamed B.named, fun w hw => atoms_spec (ws := w_Line_init) B.pre w (List.mem_cons_of_mem _ hw), B.notSynchronized, hK, fun q hq => Or.inr (by rw [← hW.1]; exact hq)⟩
  have hini : meth.name = "<init>" := (name_of_methodNamed B.named B.method).1
  have hS : va_S (mm_A M0) s.heap s.heap [] := va_S.rf
  obtain ⟨hx, hb, hr, hml, hown, hts, hlocks, hK, hA⟩ := id C
  have hl := lv_entry ([.ref v0]) (n := 1) (Nat.le_of_ble_eq_true rfl)
  rw [lg_entry_eq]
  generalize (lg_sl ([.ref v0]) ++ List.replicate (1 - (lg_sl ([.ref v0])).length) Slot.unset).toArray = ls at hl ⊢
  have hl : lv_has ls 1 [(0, .ref v0)] := hl
  unfold f_Line_init at h
  refine lv_aload_n hx hb d_Line_init_0 rfl (lv_at hl 0 rfl) ?_
  refine W.objInit hx hb hown (hts _ q_36) (hts _ q_1) (hts _ q_2) rfl (by rw [hml]; exact hl.1) rfl d_Line_init_1 (Nat.le_of_ble_eq_true rfl) (Nat.le_of_ble_eq_true rfl) ?_
  refine W.eq (g2 := F0 m 4 ls []) rfl ?_
  refine lv_aload_n hx hb d_Line_init_4 rfl (lv_at hl 0 rfl) ?_
  refine lv_bipush (v := 100) hx hb d_Line_init_5 (by decide) ?_
  obtain ⟨⟨x1, M1⟩, e1, h⟩ := ob h
  refine mr_nA C hW hS q_3 (by decide) (by decide) (by decide) (Nat.le_of_ble_eq_true rfl) (Nat.le_of_ble_eq_true rfl) e1 d_Line_init_7 (fun H hW hS => ?_)
  obtain ⟨M2, e2, h⟩ := ob h
  refine mr_putF C hW hS kp_Line_9 hini rfl rfl e2 d_Line_init_9 (fun H locs hW hS => ?_)
  refine lv_aload_n hx hb d_Line_init_12 rfl (lv_at hl 0 rfl) ?_
  refine lv_iconst (v := 0) hx hb d_Line_init_13 (by decide) ?_
  obtain ⟨M3, e3, h⟩ := ob h
  refine mr_put C hW hS kp_Line_15 rfl rfl e3 d_Line_init_14 (fun H locs hW hS => ?_)
  exact mr_vret C hW hS (Nat.le_of_ble_eq_true rfl) (Nat.le_of_ble_eq_true rfl) h d_Line_init_17
def f_Pack_init (v0 : Nat) (v1 : Int32) (v2 : Int32) (M : mm) : Option (Unit × mm) :=
    (nO 2 [.null, .int 0] M).bind fun (x1, M1) =>
    (f_Line_init x1 M1).bind fun (_, M2) =>
    (pF 4 2 (.ref x1) M2 v0).bind fun M3 =>
    (nO 2 [.null, .int 0] M3).bind fun (x4, M4) =>
    (f_Line_init x4 M4).bind fun (_, M5) =>
    (pF 4 3 (.ref x4) M5 v0).bind fun M6 =>
    (pF 4 4 (.int 100) M6 v0).bind fun M7 =>
    (pF 4 5 (.int ((-1))) M7 v0).bind fun M8 =>
    (pF 4 0 (.int v1) M8 v0).bind fun M9 =>
    (kB v2).bind fun _ =>
    (pF 4 1 (.int v2) M9 v0).bind fun M11 =>
    some ((), M11)
set_option maxHeartbeats 4000000 in
set_option maxRecDepth 100000 in
theorem c_Pack_init (l : Launch) (D : va_G) (dA : Nat → ClassId) (M0 M' : mm) (r : Unit) (v0 : Nat) (v1 : Int32) (v2 : Int32) (h : f_Pack_init v0 v1 v2 M0 = some (r, M')) : Met l y_Pack_init w_Pack_init rm_Pack_init (mm_Pre D dA M0 [.ref v0, .int v1, .int v2]) (mm_QV D dA M0 r M') 4 204 (mm_A M0) := by
  refine Met.ofW (cc := b_Pack_init) (maxL := 3) (ret := none) (by decide) rfl ?_
  intro p e s m args below meth c s₁ B hml hv
  obtain ⟨rfl, hW, hK⟩ := hv
  have C : mm_C p s m _ meth c b_Pack_init 3 none R_Pack D dA (mm_A M0) := ⟨B.exec, B.bytes, B.returns, hml, findClass_of_methodNamed B.named, fun w hw => atoms_spec (ws := w_Pack_init) B.pre w (List.mem_cons_of_mem _ hw), B.notSynchronized, hK, fun q hq => Or.inr (by rw [← hW.1]; exact hq)⟩
  have hini : meth.name = "<init>" := (name_of_methodNamed B.named B.method).1
  have hS : va_S (mm_A M0) s.heap s.heap [] := va_S.rf
  obtain ⟨hx, hb, hr, hml, hown, hts, hlocks, hK, hA⟩ := id C
  have hl := lv_entry ([.ref v0, .int v1, .int v2]) (n := 3) (Nat.le_of_ble_eq_true rfl)
  rw [lg_entry_eq]
  generalize (lg_sl ([.ref v0, .int v1, .int v2]) ++ List.replicate (3 - (lg_sl ([.ref v0, .int v1, .int v2])).length) Slot.unset).toArray = ls at hl ⊢
  have hl : lv_has ls 3 [(0, .ref v0), (1, .int v1), (2, .int v2)] := hl
  unfold f_Pack_init at h
  refine lv_aload_n hx hb d_Pack_init_0 rfl (lv_at hl 0 rfl) ?_
  refine W.objInit hx hb hown (hts _ q_39) (hts _ q_1) (hts _ q_2) rfl (by rw [hml]; exact hl.1) rfl d_Pack_init_1 (Nat.le_of_ble_eq_true rfl) (Nat.le_of_ble_eq_true rfl) ?_
  refine W.eq (g2 := F0 m 4 ls []) rfl ?_
  refine lv_aload_n hx hb d_Pack_init_4 rfl (lv_at hl 0 rfl) ?_
  obtain ⟨⟨x1, M1⟩, e1, h⟩ := ob h
  refine mr_nO C hW hS (ci := 2) rfl i_Line t_Line_ok ⟨q_40, q_41, q_42⟩ z_Line (Nat.le_of_ble_eq_true rfl) (Nat.le_of_ble_eq_true rfl) e1 d_Pack_init_5 (fun H hW hS => ?_)
  refine lv_dup hx hb d_Pack_init_8 rfl ?_
  obtain ⟨⟨u2, M2⟩, e2, h⟩ := ob h
  refine mr_cv C hW hS (va_runIN (As := []) (rest := [.ref x1, .ref v0]) ⟨hx, hb, hml, hown, hts⟩ (c_Line_init l D dA _ _ _ x1 e2) ⟨va_cnB 0 hts (mg_in q_43) rfl rfl rfl (hK.2.1 _ qn_Pack_11) (hts _ q_42) (by decide +kernel) ⟨Nat.le_of_ble_eq_true rfl, Nat.le_of_ble_eq_true rfl⟩, rfl, hts _ q_44⟩ (mr_pre C hW) rfl rfl hl.1 rfl (lv_room (Nat.le_of_ble_eq_true rfl)) d_Pack_init_9 ⟨Nat.le_of_ble_eq_true rfl, Nat.le_of_ble_eq_true rfl⟩) (fun H locs hW hS => ?_)
  obtain ⟨M3, e3, h⟩ := ob h
  refine mr_putF C hW hS kp_Pack_12 hini rfl rfl e3 d_Pack_init_12 (fun H locs hW hS => ?_)
  refine lv_aload_n hx hb d_Pack_init_15 rfl (lv_at hl 0 rfl) ?_
  obtain ⟨⟨x4, M4⟩, e4, h⟩ := ob h
  refine mr_nO C hW hS (ci := 2) rfl i_Line t_Line_ok ⟨q_40, q_41, q_42⟩ z_Line (Nat.le_of_ble_eq_true rfl) (Nat.le_of_ble_eq_true rfl) e4 d_Pack_init_16 (fun H hW hS => ?_)
  refine lv_dup hx hb d_Pack_init_19 rfl ?_
  obtain ⟨⟨u5, M5⟩, e5, h⟩ := ob h
  refine mr_cv C hW hS (va_runIN (As := []) (rest := [.ref x4, .ref v0]) ⟨hx, hb, hml, hown, hts⟩ (c_Line_init l D dA _ _ _ x4 e5) ⟨va_cnB 0 hts (mg_in q_43) rfl rfl rfl (hK.2.1 _ qn_Pack_11) (hts _ q_42) (by decide +kernel) ⟨Nat.le_of_ble_eq_true rfl, Nat.le_of_ble_eq_true rfl⟩, rfl, hts _ q_44⟩ (mr_pre C hW) rfl rfl hl.1 rfl (lv_room (Nat.le_of_ble_eq_true rfl)) d_Pack_init_20 ⟨Nat.le_of_ble_eq_true rfl, Nat.le_of_ble_eq_true rfl⟩) (fun H locs hW hS => ?_)
  obtain ⟨M6, e6, h⟩ := ob h
  refine mr_putF C hW hS kp_Pack_18 hini rfl rfl e6 d_Pack_init_23 (fun H locs hW hS => ?_)
  refine lv_aload_n hx hb d_Pack_init_26 rfl (lv_at hl 0 rfl) ?_
  refine lv_bipush (v := 100) hx hb d_Pack_init_27 (by decide) ?_
  obtain ⟨M7, e7, h⟩ := ob h
  refine mr_put C hW hS kp_Pack_21 rfl rfl e7 d_Pack_init_29 (fun H locs hW hS => ?_)
  refine lv_aload_n hx hb d_Pack_init_32 rfl (lv_at hl 0 rfl) ?_
  refine lv_iconst (v := (-1)) hx hb d_Pack_init_33 (by decide) ?_
  obtain ⟨M8, e8, h⟩ := ob h
  refine mr_put C hW hS kp_Pack_25 rfl rfl e8 d_Pack_init_34 (fun H locs hW hS => ?_)
  refine lv_aload_n hx hb d_Pack_init_37 rfl (lv_at hl 0 rfl) ?_
  refine lv_iload_n hx hb d_Pack_init_38 rfl (lv_at hl 1 rfl) ?_
  obtain ⟨M9, e9, h⟩ := ob h
  refine mr_putF C hW hS kp_Pack_28 hini rfl rfl e9 d_Pack_init_39 (fun H locs hW hS => ?_)
  refine lv_aload_n hx hb d_Pack_init_42 rfl (lv_at hl 0 rfl) ?_
  refine lv_iload_n hx hb d_Pack_init_43 rfl (lv_at hl 2 rfl) ?_
  obtain ⟨_, e10, h⟩ := ob h
  obtain ⟨M11, e11, h⟩ := ob h
  refine mr_putF C hW hS kp_Pack_31 hini (kB_some e10).1 (kB_some e10).2 e11 d_Pack_init_44 (fun H locs hW hS => ?_)
  exact mr_vret C hW hS (Nat.le_of_ble_eq_true rfl) (Nat.le_of_ble_eq_true rfl) h d_Pack_init_47
def f_Title_init (v0 : Nat) (v1 : Nat) (v2 : Int32) (M : mm) : Option (Unit × mm) :=
    (kB 1).bind fun _ =>
    (pF 6 2 (.int 1) M v0).bind fun M2 =>
    (pF 6 3 (.int 0) M2 v0).bind fun M3 =>
    (nA 10 M3).bind fun (x4, M4) =>
    (pF 6 4 (.ref x4) M4 v0).bind fun M5 =>
    (nA 10 M5).bind fun (x6, M6) =>
    (pF 6 5 (.ref x6) M6 v0).bind fun M7 =>
    (pF 6 6 (.int 0) M7 v0).bind fun M8 =>
    (pF 6 0 (.ref v1) M8 v0).bind fun M9 =>
    (pF 6 1 (.int v2) M9 v0).bind fun M10 =>
    some ((), M10)
set_option maxHeartbeats 4000000 in
set_option maxRecDepth 100000 in
theorem c_Title_init (l : Launch) (D : va_G) (dA : Nat → ClassId) (M0 M' : mm) (r : Unit) (v0 : Nat) (v1 : Nat) (v2 : Int32) (h : f_Title_init v0 v1 v2 M0 = some (r, M')) : Met l y_Title_init w_Title_init rm_Title_init (mm_Pre D dA M0 [.ref v0, .ref v1, .int v2]) (mm_QV D dA M0 r M') 2 20 (mm_A M0) := by
  refine Met.ofW (cc := b_Title_init) (maxL := 3) (ret := none) (by decide) rfl ?_
  intro p e s m args below meth c s₁ B hml hv
  obtain ⟨rfl, hW, hK⟩ := hv
  have C : mm_C p s m _ meth c b_Title_init 3 none R_Title D dA (mm_A M0) := ⟨B.exec, B.bytes, B.returns, hml, findClass_of_methodNamed B.named, fun w hw => atoms_spec (ws := w_Title_init) B.pre w (List.mem_cons_of_mem _ hw), B.notSynchronized, hK, fun q hq => Or.inr (by rw [← hW.1]; exact hq)⟩
  have hini : meth.name = "<init>" := (name_of_methodNamed B.named B.method).1
  have hS : va_S (mm_A M0) s.heap s.heap [] := va_S.rf
  obtain ⟨hx, hb, hr, hml, hown, hts, hlocks, hK, hA⟩ := id C
  have hl := lv_entry ([.ref v0, .ref v1, .int v2]) (n := 3) (Nat.le_of_ble_eq_true rfl)
  rw [lg_entry_eq]
  generalize (lg_sl ([.ref v0, .ref v1, .int v2]) ++ List.replicate (3 - (lg_sl ([.ref v0, .ref v1, .int v2])).length) Slot.unset).toArray = ls at hl ⊢
  have hl : lv_has ls 3 [(0, .ref v0), (1, .ref v1), (2, .int v2)] := hl
  unfold f_Title_init at h
  refine lv_aload_n hx hb d_Title_init_0 rfl (lv_at hl 0 rfl) ?_
  refine W.objInit hx hb hown (hts _ q_59) (hts _ q_1) (hts _ q_2) rfl (by rw [hml]; exact hl.1) rfl d_Title_init_1 (Nat.le_of_ble_eq_true rfl) (Nat.le_of_ble_eq_true rfl) ?_
  refine W.eq (g2 := F0 m 4 ls []) rfl ?_
  refine lv_aload_n hx hb d_Title_init_4 rfl (lv_at hl 0 rfl) ?_
  refine lv_iconst (v := 1) hx hb d_Title_init_5 (by decide) ?_
  obtain ⟨_, e1, h⟩ := ob h
  obtain ⟨M2, e2, h⟩ := ob h
  refine mr_put C hW hS kp_Title_9 (kB_some e1).1 (kB_some e1).2 e2 d_Title_init_6 (fun H locs hW hS => ?_)
  refine lv_aload_n hx hb d_Title_init_9 rfl (lv_at hl 0 rfl) ?_
  refine lv_iconst (v := 0) hx hb d_Title_init_10 (by decide) ?_
  obtain ⟨M3, e3, h⟩ := ob h
  refine mr_put C hW hS kp_Title_15 rfl rfl e3 d_Title_init_11 (fun H locs hW hS => ?_)
  refine lv_aload_n hx hb d_Title_init_14 rfl (lv_at hl 0 rfl) ?_
  refine lv_bipush (v := 10) hx hb d_Title_init_15 (by decide) ?_
  obtain ⟨⟨x4, M4⟩, e4, h⟩ := ob h
  refine mr_nA C hW hS q_3 (by decide) (by decide) (by decide) (Nat.le_of_ble_eq_true rfl) (Nat.le_of_ble_eq_true rfl) e4 d_Title_init_17 (fun H hW hS => ?_)
  obtain ⟨M5, e5, h⟩ := ob h
  refine mr_putF C hW hS kp_Title_19 hini rfl rfl e5 d_Title_init_19 (fun H locs hW hS => ?_)
  refine lv_aload_n hx hb d_Title_init_22 rfl (lv_at hl 0 rfl) ?_
  refine lv_bipush (v := 10) hx hb d_Title_init_23 (by decide) ?_
  obtain ⟨⟨x6, M6⟩, e6, h⟩ := ob h
  refine mr_nA C hW hS q_3 (by decide) (by decide) (by decide) (Nat.le_of_ble_eq_true rfl) (Nat.le_of_ble_eq_true rfl) e6 d_Title_init_25 (fun H hW hS => ?_)
  obtain ⟨M7, e7, h⟩ := ob h
  refine mr_putF C hW hS kp_Title_23 hini rfl rfl e7 d_Title_init_27 (fun H locs hW hS => ?_)
  refine lv_aload_n hx hb d_Title_init_30 rfl (lv_at hl 0 rfl) ?_
  refine lv_iconst (v := 0) hx hb d_Title_init_31 (by decide) ?_
  obtain ⟨M8, e8, h⟩ := ob h
  refine mr_put C hW hS kp_Title_26 rfl rfl e8 d_Title_init_32 (fun H locs hW hS => ?_)
  refine lv_aload_n hx hb d_Title_init_35 rfl (lv_at hl 0 rfl) ?_
  refine lv_aload_n hx hb d_Title_init_36 rfl (lv_at hl 1 rfl) ?_
  obtain ⟨M9, e9, h⟩ := ob h
  refine mr_putF C hW hS kp_Title_29 hini rfl rfl e9 d_Title_init_37 (fun H locs hW hS => ?_)
  refine lv_aload_n hx hb d_Title_init_40 rfl (lv_at hl 0 rfl) ?_
  refine lv_iload_n hx hb d_Title_init_41 rfl (lv_at hl 2 rfl) ?_
  obtain ⟨M10, e10, h⟩ := ob h
  refine mr_put C hW hS kp_Title_33 rfl rfl e10 d_Title_init_42 (fun H locs hW hS => ?_)
  exact mr_vret C hW hS (Nat.le_of_ble_eq_true rfl) (Nat.le_of_ble_eq_true rfl) h d_Title_init_45
def f_Title_meets_b2 : Nat → Nat → Int32 → Int32 → Int32 → mm → Option (Int32 × mm)
  | 0, _, _, _, _, _ => none
  | n + 1, v0, v1, v2, v3, M =>
    (gI 6 6 M v0).bind fun x1 =>
    if x1 ≤ v3 then
      (kB 0).bind fun _ =>
      some (0, M)
    else
      (gR 6 5 M v0).bind fun x4 =>
      (aI M x4 v3).bind fun x5 =>
      if (x5 + 1) < v1 then
        f_Title_meets_b2 n v0 v1 v2 (v3 + 1) M
      else
        (gR 6 4 M v0).bind fun x7 =>
        (aI M x7 v3).bind fun x8 =>
        if v2 < (x8 - 1) then
          f_Title_meets_b2 n v0 v1 v2 (v3 + 1) M
        else
          (kB 1).bind fun _ =>
          some (1, M)
def f_Title_meets (v0 : Nat) (v1 : Int32) (v2 : Int32) (M : mm) : Option (Int32 × mm) :=
    f_Title_meets_b2 FU v0 v1 v2 0 M
set_option maxHeartbeats 4000000 in
set_option maxRecDepth 100000 in
theorem w_Title_meets_b2 {p : Program} {l : Launch} {e : Env} {s : State} {m : MethodId} {args : Array Value} {below : List Frame} {meth : Method} {c : Code} {D : va_G} {dA : Nat → ClassId} {M0 M' : mm} {r : Int32} (C : mm_C p s m args meth c b_Title_meets 4 (some .boolean) R_Title D dA (mm_A M0)) : ∀ (n : Nat), ∀ (v0 : Nat) (v1 : Int32) (v2 : Int32) (v3 : Int32) (M : mm) (H : Heap) (locs : List Loc) (ls : Array Slot), f_Title_meets_b2 n v0 v1 v2 v3 M = some (r, M') → mm_W D dA (mm_A M0) M H → va_S (mm_A M0) s.heap H locs → lv_has ls 4 [(0, .ref v0), (1, .int v1), (2, .int v2), (3, .int v3)] → W p l e rm_Title_meets s m args below meth c H locs 0 0 (MQ below (mm_QI D dA M0 r M') args s 0 0 (mm_A M0)) (F0 m 2 ls []) := by
  obtain ⟨hx, hb, hr, hml, hown, hts, hlocks, hK, hA⟩ := id C
  intro n
  induction n with
  | zero =>
    intro v0 v1 v2 v3 M H locs ls h hW hS hl
    unfold f_Title_meets_b2 at h
    cases h
  | succ n ih =>
    intro v0 v1 v2 v3 M H locs ls h hW hS hl
    unfold f_Title_meets_b2 at h
    refine lv_iload_n hx hb d_Title_meets_2 rfl (lv_at hl 3 rfl) ?_
    refine lv_aload_n hx hb d_Title_meets_3 rfl (lv_at hl 0 rfl) ?_
    obtain ⟨x1, e1, h⟩ := ob h
    refine mr_gI C hW k_Title_26 e1 d_Title_meets_4 ?_
    refine lv_icmp_ge (tgt := 42) hx hb d_Title_meets_7 (by decide) (fun c2 => ?_) (fun c2 => ?_)
    · have h := ifp h c2
      refine lv_iconst (v := 0) hx hb d_Title_meets_42 (by decide) ?_
      obtain ⟨_, e3, h⟩ := ob h
      exact mr_zret C hW hS (Nat.le_of_ble_eq_true rfl) (Nat.le_of_ble_eq_true rfl) e3 h d_Title_meets_43
    · have h := ifn h c2
      refine lv_iload_n hx hb d_Title_meets_10 rfl (lv_at hl 1 rfl) ?_
      refine lv_aload_n hx hb d_Title_meets_11 rfl (lv_at hl 0 rfl) ?_
      obtain ⟨x4, e4, h⟩ := ob h
      refine mr_gR C hW k_Title_23 e4 d_Title_meets_12 ?_
      refine lv_iload_n hx hb d_Title_meets_15 rfl (lv_at hl 3 rfl) ?_
      obtain ⟨x5, e5, h⟩ := ob h
      refine mr_aI C hW e5 d_Title_meets_16 ?_
      refine lv_iconst (v := 1) hx hb d_Title_meets_17 (by decide) ?_
      refine lv_iadd hx hb d_Title_meets_18 ?_
      refine lv_icmp_gt (tgt := 36) hx hb d_Title_meets_19 (by decide) (fun c6 => ?_) (fun c6 => ?_)
      · have h := ifp h c6
        refine lv_iinc (v := v3 + 1) (lv' := [(3, .int (v3 + 1)), (0, .ref v0), (1, .int v1), (2, .int v2)]) hx hb d_Title_meets_36 hl (k := 3) rfl rfl (by decide) rfl (fun ls hl => ?_)
        refine lv_goto (tgt := 2) hx hb d_Title_meets_39 (by decide) ?_
        exact ih _ _ _ _ _ _ _ _ h hW hS (lv_sub hl [1, 2, 3, 0] rfl)
      · have h := ifn h c6
        refine lv_iload_n hx hb d_Title_meets_22 rfl (lv_at hl 2 rfl) ?_
        refine lv_aload_n hx hb d_Title_meets_23 rfl (lv_at hl 0 rfl) ?_
        obtain ⟨x7, e7, h⟩ := ob h
        refine mr_gR C hW k_Title_19 e7 d_Title_meets_24 ?_
        refine lv_iload_n hx hb d_Title_meets_27 rfl (lv_at hl 3 rfl) ?_
        obtain ⟨x8, e8, h⟩ := ob h
        refine mr_aI C hW e8 d_Title_meets_28 ?_
        refine lv_iconst (v := 1) hx hb d_Title_meets_29 (by decide) ?_
        refine lv_isub hx hb d_Title_meets_30 ?_
        refine lv_icmp_lt (tgt := 36) hx hb d_Title_meets_31 (by decide) (fun c9 => ?_) (fun c9 => ?_)
        · have h := ifp h c9
          refine lv_iinc (v := v3 + 1) (lv' := [(3, .int (v3 + 1)), (0, .ref v0), (1, .int v1), (2, .int v2)]) hx hb d_Title_meets_36 hl (k := 3) rfl rfl (by decide) rfl (fun ls hl => ?_)
          refine lv_goto (tgt := 2) hx hb d_Title_meets_39 (by decide) ?_
          exact ih _ _ _ _ _ _ _ _ h hW hS (lv_sub hl [1, 2, 3, 0] rfl)
        · have h := ifn h c9
          refine lv_iconst (v := 1) hx hb d_Title_meets_34 (by decide) ?_
          obtain ⟨_, e10, h⟩ := ob h
          exact mr_zret C hW hS (Nat.le_of_ble_eq_true rfl) (Nat.le_of_ble_eq_true rfl) e10 h d_Title_meets_35
set_option maxHeartbeats 4000000 in
set_option maxRecDepth 100000 in
theorem c_Title_meets (l : Launch) (D : va_G) (dA : Nat → ClassId) (M0 M' : mm) (r : Int32) (v0 : Nat) (v1 : Int32) (v2 : Int32) (h : f_Title_meets v0 v1 v2 M0 = some (r, M')) : Met l y_Title_meets w_Title_meets rm_Title_meets (mm_Pre D dA M0 [.ref v0, .int v1, .int v2]) (mm_QI D dA M0 r M') 0 0 (mm_A M0) := by
  refine Met.ofW (cc := b_Title_meets) (maxL := 4) (ret := (some .boolean)) (by decide) rfl ?_
  intro p e s m args below meth c s₁ B hml hv
  obtain ⟨rfl, hW, hK⟩ := hv
  have C : mm_C p s m _ meth c b_Title_meets 4 (some .boolean) R_Title D dA (mm_A M0) := ⟨B.exec, B.bytes, B.returns, hml, findClass_of_methodNamed B.named, fun w hw => atoms_spec (ws := w_Title_meets) B.pre w (List.mem_cons_of_mem _ hw), B.notSynchronized, hK, fun q hq => Or.inr (by rw [← hW.1]; exact hq)⟩
  have hS : va_S (mm_A M0) s.heap s.heap [] := va_S.rf
  obtain ⟨hx, hb, hr, hml, hown, hts, hlocks, hK, hA⟩ := id C
  have hl := lv_entry ([.ref v0, .int v1, .int v2]) (n := 4) (Nat.le_of_ble_eq_true rfl)
  rw [lg_entry_eq]
  generalize (lg_sl ([.ref v0, .int v1, .int v2]) ++ List.replicate (4 - (lg_sl ([.ref v0, .int v1, .int v2])).length) Slot.unset).toArray = ls at hl ⊢
  have hl : lv_has ls 4 [(0, .ref v0), (1, .int v1), (2, .int v2)] := hl
  unfold f_Title_meets at h
  refine lv_iconst (v := 0) hx hb d_Title_meets_0 (by decide) ?_
  refine lv_istore_n (lv' := [(3, .int 0), (0, .ref v0), (1, .int v1), (2, .int v2)]) hx hb d_Title_meets_1 rfl hl (by decide) rfl (fun ls hl => ?_)
  exact w_Title_meets_b2 C FU _ _ _ _ _ _ _ _ h hW hS (lv_sub hl [1, 2, 3, 0] rfl)
def f_Title_addSpan_b65 : Nat → Int32 → Int32 → Int32 → mm → Option (Unit × mm) := fun v0 v1 v2 v3 M =>
    (gR 6 4 M v0).bind fun x13 =>
    (sI v1 M x13 v3).bind fun M14 =>
    (gR 6 5 M14 v0).bind fun x15 =>
    (sI v2 M14 x15 v3).bind fun M16 =>
    (gI 6 6 M16 v0).bind fun x17 =>
    (pF 6 6 (.int (x17 + 1)) M16 v0).bind fun M18 =>
    some ((), M18)
def f_Title_addSpan_b15 : Nat → Nat → Int32 → Int32 → Int32 → mm → Option (Unit × mm)
  | 0, _, _, _, _, _ => none
  | n + 1, v0, v1, v2, v3, M =>
    if v3 ≤ 0 then
      f_Title_addSpan_b65 v0 v1 v2 v3 M
    else
      (gR 6 4 M v0).bind fun x2 =>
      (aI M x2 (v3 - 1)).bind fun x3 =>
      if x3 ≤ v1 then
        f_Title_addSpan_b65 v0 v1 v2 v3 M
      else
        (gR 6 4 M v0).bind fun x5 =>
        (gR 6 4 M v0).bind fun x6 =>
        (aI M x6 (v3 - 1)).bind fun x7 =>
        (sI x7 M x5 v3).bind fun M8 =>
        (gR 6 5 M8 v0).bind fun x9 =>
        (gR 6 5 M8 v0).bind fun x10 =>
        (aI M8 x10 (v3 - 1)).bind fun x11 =>
        (sI x11 M8 x9 v3).bind fun M12 =>
        f_Title_addSpan_b15 n v0 v1 v2 (v3 + (-1)) M12
def f_Title_addSpan (v0 : Nat) (v1 : Int32) (v2 : Int32) (M : mm) : Option (Unit × mm) :=
    (gI 6 6 M v0).bind fun x19 =>
    if x19 < 10 then
      (gI 6 6 M v0).bind fun x21 =>
      f_Title_addSpan_b15 FU v0 v1 v2 x21 M
    else
      some ((), M)
set_option maxHeartbeats 4000000 in
set_option maxRecDepth 100000 in
theorem w_Title_addSpan_b65 {p : Program} {l : Launch} {e : Env} {s : State} {m : MethodId} {args : Array Value} {below : List Frame} {meth : Method} {c : Code} {D : va_G} {dA : Nat → ClassId} {M0 M' : mm} {r : Unit} (C : mm_C p s m args meth c b_Title_addSpan 4 none R_Title D dA (mm_A M0)) : ∀ (v0 : Nat) (v1 : Int32) (v2 : Int32) (v3 : Int32) (M : mm) (H : Heap) (locs : List Loc) (ls : Array Slot), f_Title_addSpan_b65 v0 v1 v2 v3 M = some (r, M') → mm_W D dA (mm_A M0) M H → va_S (mm_A M0) s.heap H locs → lv_has ls 4 [(0, .ref v0), (1, .int v1), (2, .int v2), (3, .int v3)] → W p l e rm_Title_addSpan s m args below meth c H locs 0 0 (MQ below (mm_QV D dA M0 r M') args s 0 0 (mm_A M0)) (F0 m 65 ls []) := by
  obtain ⟨hx, hb, hr, hml, hown, hts, hlocks, hK, hA⟩ := id C
  intro v0 v1 v2 v3 M H locs ls h hW hS hl
  unfold f_Title_addSpan_b65 at h
  refine lv_aload_n hx hb d_Title_addSpan_65 rfl (lv_at hl 0 rfl) ?_
  obtain ⟨x13, e13, h⟩ := ob h
  refine mr_gR C hW k_Title_19 e13 d_Title_addSpan_66 ?_
  refine lv_iload_n hx hb d_Title_addSpan_69 rfl (lv_at hl 3 rfl) ?_
  refine lv_iload_n hx hb d_Title_addSpan_70 rfl (lv_at hl 1 rfl) ?_
  obtain ⟨M14, e14, h⟩ := ob h
  refine mr_sI C hW hS e14 d_Title_addSpan_71 (fun H locs hW hS => ?_)
  refine lv_aload_n hx hb d_Title_addSpan_72 rfl (lv_at hl 0 rfl) ?_
  obtain ⟨x15, e15, h⟩ := ob h
  refine mr_gR C hW k_Title_23 e15 d_Title_addSpan_73 ?_
  refine lv_iload_n hx hb d_Title_addSpan_76 rfl (lv_at hl 3 rfl) ?_
  refine lv_iload_n hx hb d_Title_addSpan_77 rfl (lv_at hl 2 rfl) ?_
  obtain ⟨M16, e16, h⟩ := ob h
  refine mr_sI C hW hS e16 d_Title_addSpan_78 (fun H locs hW hS => ?_)
  refine lv_aload_n hx hb d_Title_addSpan_79 rfl (lv_at hl 0 rfl) ?_
  refine lv_dup hx hb d_Title_addSpan_80 rfl ?_
  obtain ⟨x17, e17, h⟩ := ob h
  refine mr_gI C hW k_Title_26 e17 d_Title_addSpan_81 ?_
  refine lv_iconst (v := 1) hx hb d_Title_addSpan_84 (by decide) ?_
  refine lv_iadd hx hb d_Title_addSpan_85 ?_
  obtain ⟨M18, e18, h⟩ := ob h
  refine mr_put C hW hS kp_Title_26 rfl rfl e18 d_Title_addSpan_86 (fun H locs hW hS => ?_)
  exact mr_vret C hW hS (Nat.le_of_ble_eq_true rfl) (Nat.le_of_ble_eq_true rfl) h d_Title_addSpan_89
set_option maxHeartbeats 4000000 in
set_option maxRecDepth 100000 in
theorem w_Title_addSpan_b15 {p : Program} {l : Launch} {e : Env} {s : State} {m : MethodId} {args : Array Value} {below : List Frame} {meth : Method} {c : Code} {D : va_G} {dA : Nat → ClassId} {M0 M' : mm} {r : Unit} (C : mm_C p s m args meth c b_Title_addSpan 4 none R_Title D dA (mm_A M0)) : ∀ (n : Nat), ∀ (v0 : Nat) (v1 : Int32) (v2 : Int32) (v3 : Int32) (M : mm) (H : Heap) (locs : List Loc) (ls : Array Slot), f_Title_addSpan_b15 n v0 v1 v2 v3 M = some (r, M') → mm_W D dA (mm_A M0) M H → va_S (mm_A M0) s.heap H locs → lv_has ls 4 [(0, .ref v0), (1, .int v1), (2, .int v2), (3, .int v3)] → W p l e rm_Title_addSpan s m args below meth c H locs 0 0 (MQ below (mm_QV D dA M0 r M') args s 0 0 (mm_A M0)) (F0 m 15 ls []) := by
  obtain ⟨hx, hb, hr, hml, hown, hts, hlocks, hK, hA⟩ := id C
  intro n
  induction n with
  | zero =>
    intro v0 v1 v2 v3 M H locs ls h hW hS hl
    unfold f_Title_addSpan_b15 at h
    cases h
  | succ n ih =>
    intro v0 v1 v2 v3 M H locs ls h hW hS hl
    unfold f_Title_addSpan_b15 at h
    refine lv_iload_n hx hb d_Title_addSpan_15 rfl (lv_at hl 3 rfl) ?_
    refine lv_if_le (tgt := 65) hx hb d_Title_addSpan_16 (by decide) (fun c1 => ?_) (fun c1 => ?_)
    · have h := ifp h c1
      exact w_Title_addSpan_b65 C _ _ _ _ _ _ _ _ h hW hS (lv_sub hl [0, 1, 2, 3] rfl)
    · have h := ifn h c1
      refine lv_aload_n hx hb d_Title_addSpan_19 rfl (lv_at hl 0 rfl) ?_
      obtain ⟨x2, e2, h⟩ := ob h
      refine mr_gR C hW k_Title_19 e2 d_Title_addSpan_20 ?_
      refine lv_iload_n hx hb d_Title_addSpan_23 rfl (lv_at hl 3 rfl) ?_
      refine lv_iconst (v := 1) hx hb d_Title_addSpan_24 (by decide) ?_
      refine lv_isub hx hb d_Title_addSpan_25 ?_
      obtain ⟨x3, e3, h⟩ := ob h
      refine mr_aI C hW e3 d_Title_addSpan_26 ?_
      refine lv_iload_n hx hb d_Title_addSpan_27 rfl (lv_at hl 1 rfl) ?_
      refine lv_icmp_le (tgt := 65) hx hb d_Title_addSpan_28 (by decide) (fun c4 => ?_) (fun c4 => ?_)
      · have h := ifp h c4
        exact w_Title_addSpan_b65 C _ _ _ _ _ _ _ _ h hW hS (lv_sub hl [0, 1, 2, 3] rfl)
      · have h := ifn h c4
        refine lv_aload_n hx hb d_Title_addSpan_31 rfl (lv_at hl 0 rfl) ?_
        obtain ⟨x5, e5, h⟩ := ob h
        refine mr_gR C hW k_Title_19 e5 d_Title_addSpan_32 ?_
        refine lv_iload_n hx hb d_Title_addSpan_35 rfl (lv_at hl 3 rfl) ?_
        refine lv_aload_n hx hb d_Title_addSpan_36 rfl (lv_at hl 0 rfl) ?_
        obtain ⟨x6, e6, h⟩ := ob h
        refine mr_gR C hW k_Title_19 e6 d_Title_addSpan_37 ?_
        refine lv_iload_n hx hb d_Title_addSpan_40 rfl (lv_at hl 3 rfl) ?_
        refine lv_iconst (v := 1) hx hb d_Title_addSpan_41 (by decide) ?_
        refine lv_isub hx hb d_Title_addSpan_42 ?_
        obtain ⟨x7, e7, h⟩ := ob h
        refine mr_aI C hW e7 d_Title_addSpan_43 ?_
        obtain ⟨M8, e8, h⟩ := ob h
        refine mr_sI C hW hS e8 d_Title_addSpan_44 (fun H locs hW hS => ?_)
        refine lv_aload_n hx hb d_Title_addSpan_45 rfl (lv_at hl 0 rfl) ?_
        obtain ⟨x9, e9, h⟩ := ob h
        refine mr_gR C hW k_Title_23 e9 d_Title_addSpan_46 ?_
        refine lv_iload_n hx hb d_Title_addSpan_49 rfl (lv_at hl 3 rfl) ?_
        refine lv_aload_n hx hb d_Title_addSpan_50 rfl (lv_at hl 0 rfl) ?_
        obtain ⟨x10, e10, h⟩ := ob h
        refine mr_gR C hW k_Title_23 e10 d_Title_addSpan_51 ?_
        refine lv_iload_n hx hb d_Title_addSpan_54 rfl (lv_at hl 3 rfl) ?_
        refine lv_iconst (v := 1) hx hb d_Title_addSpan_55 (by decide) ?_
        refine lv_isub hx hb d_Title_addSpan_56 ?_
        obtain ⟨x11, e11, h⟩ := ob h
        refine mr_aI C hW e11 d_Title_addSpan_57 ?_
        obtain ⟨M12, e12, h⟩ := ob h
        refine mr_sI C hW hS e12 d_Title_addSpan_58 (fun H locs hW hS => ?_)
        refine lv_iinc (v := v3 + (-1)) (lv' := [(3, .int (v3 + (-1))), (0, .ref v0), (1, .int v1), (2, .int v2)]) hx hb d_Title_addSpan_59 hl (k := 3) rfl rfl (by decide) rfl (fun ls hl => ?_)
        refine lv_goto (tgt := 15) hx hb d_Title_addSpan_62 (by decide) ?_
        exact ih _ _ _ _ _ _ _ _ h hW hS (lv_sub hl [1, 2, 3, 0] rfl)
set_option maxHeartbeats 4000000 in
set_option maxRecDepth 100000 in
theorem c_Title_addSpan (l : Launch) (D : va_G) (dA : Nat → ClassId) (M0 M' : mm) (r : Unit) (v0 : Nat) (v1 : Int32) (v2 : Int32) (h : f_Title_addSpan v0 v1 v2 M0 = some (r, M')) : Met l y_Title_addSpan w_Title_addSpan rm_Title_addSpan (mm_Pre D dA M0 [.ref v0, .int v1, .int v2]) (mm_QV D dA M0 r M') 0 0 (mm_A M0) := by
  refine Met.ofW (cc := b_Title_addSpan) (maxL := 4) (ret := none) (by decide) rfl ?_
  intro p e s m args below meth c s₁ B hml hv
  obtain ⟨rfl, hW, hK⟩ := hv
  have C : mm_C p s m _ meth c b_Title_addSpan 4 none R_Title D dA (mm_A M0) := ⟨B.exec, B.bytes, B.returns, hml, findClass_of_methodNamed B.named, fun w hw => atoms_spec (ws := w_Title_addSpan) B.pre w (List.mem_cons_of_mem _ hw), B.notSynchronized, hK, fun q hq => Or.inr (by rw [← hW.1]; exact hq)⟩
  have hS : va_S (mm_A M0) s.heap s.heap [] := va_S.rf
  obtain ⟨hx, hb, hr, hml, hown, hts, hlocks, hK, hA⟩ := id C
  have hl := lv_entry ([.ref v0, .int v1, .int v2]) (n := 4) (Nat.le_of_ble_eq_true rfl)
  rw [lg_entry_eq]
  generalize (lg_sl ([.ref v0, .int v1, .int v2]) ++ List.replicate (4 - (lg_sl ([.ref v0, .int v1, .int v2])).length) Slot.unset).toArray = ls at hl ⊢
  have hl : lv_has ls 4 [(0, .ref v0), (1, .int v1), (2, .int v2)] := hl
  unfold f_Title_addSpan at h
  refine lv_aload_n hx hb d_Title_addSpan_0 rfl (lv_at hl 0 rfl) ?_
  obtain ⟨x19, e19, h⟩ := ob h
  refine mr_gI C hW k_Title_26 e19 d_Title_addSpan_1 ?_
  refine lv_bipush (v := 10) hx hb d_Title_addSpan_4 (by decide) ?_
  refine lv_icmp_lt (tgt := 10) hx hb d_Title_addSpan_6 (by decide) (fun c20 => ?_) (fun c20 => ?_)
  · have h := ifp h c20
    refine lv_aload_n hx hb d_Title_addSpan_10 rfl (lv_at hl 0 rfl) ?_
    obtain ⟨x21, e21, h⟩ := ob h
    refine mr_gI C hW k_Title_26 e21 d_Title_addSpan_11 ?_
    refine lv_istore_n (lv' := [(3, .int x21), (0, .ref v0), (1, .int v1), (2, .int v2)]) hx hb d_Title_addSpan_14 rfl hl (by decide) rfl (fun ls hl => ?_)
    exact w_Title_addSpan_b15 C FU _ _ _ _ _ _ _ _ h hW hS (lv_sub hl [1, 2, 3, 0] rfl)
  · have h := ifn h c20
    exact mr_vret C hW hS (Nat.le_of_ble_eq_true rfl) (Nat.le_of_ble_eq_true rfl) h d_Title_addSpan_9
def f_X_monthOf (v0 : Int32) (M : mm) : Option (Int32 × mm) :=
    some (v0 / 30, M)
set_option maxHeartbeats 4000000 in
set_option maxRecDepth 100000 in
theorem c_X_monthOf (l : Launch) (D : va_G) (dA : Nat → ClassId) (M0 M' : mm) (r : Int32) (v0 : Int32) (h : f_X_monthOf v0 M0 = some (r, M')) : Met l y_X_monthOf w_X_monthOf rm_X_monthOf (mm_Pre D dA M0 [.int v0]) (mm_QI D dA M0 r M') 0 0 (mm_A M0) := by
  refine Met.ofW (cc := b_X_monthOf) (maxL := 1) (ret := (some .int)) (by decide) rfl ?_
  intro p e s m args below meth c s₁ B hml hv
  obtain ⟨rfl, hW, hK⟩ := hv
  have C : mm_C p s m _ meth c b_X_monthOf 1 (some .int) R_X D dA (mm_A M0) := ⟨B.exec, B.bytes, B.returns, hml, findClass_of_methodNamed B.named, fun w hw => atoms_spec (ws := w_X_monthOf) B.pre w (List.mem_cons_of_mem _ hw), B.notSynchronized, hK, fun q hq => Or.inr (by rw [← hW.1]; exact hq)⟩
  have hS : va_S (mm_A M0) s.heap s.heap [] := va_S.rf
  obtain ⟨hx, hb, hr, hml, hown, hts, hlocks, hK, hA⟩ := id C
  have hl := lv_entry ([.int v0]) (n := 1) (Nat.le_of_ble_eq_true rfl)
  rw [lg_entry_eq]
  generalize (lg_sl ([.int v0]) ++ List.replicate (1 - (lg_sl ([.int v0])).length) Slot.unset).toArray = ls at hl ⊢
  have hl : lv_has ls 1 [(0, .int v0)] := hl
  unfold f_X_monthOf at h
  refine lv_iload_n hx hb d_X_monthOf_0 rfl (lv_at hl 0 rfl) ?_
  refine lv_bipush (v := 30) hx hb d_X_monthOf_1 (by decide) ?_
  refine lv_idiv hx hb d_X_monthOf_3 (by decide) ?_
  exact mr_iret C hW hS (Nat.le_of_ble_eq_true rfl) (Nat.le_of_ble_eq_true rfl) h d_X_monthOf_4
def f_Title_lastFreeMonth (v0 : Nat) (v1 : Int32) (M : mm) : Option (Int32 × mm) :=
    (f_X_monthOf v1 M).bind fun (x1, M1) =>
    (gI 6 3 M1 v0).bind fun x2 =>
    some (x1 - x2, M1)
set_option maxHeartbeats 4000000 in
set_option maxRecDepth 100000 in
theorem c_Title_lastFreeMonth (l : Launch) (D : va_G) (dA : Nat → ClassId) (M0 M' : mm) (r : Int32) (v0 : Nat) (v1 : Int32) (h : f_Title_lastFreeMonth v0 v1 M0 = some (r, M')) : Met l y_Title_lastFreeMonth w_Title_lastFreeMonth rm_Title_lastFreeMonth (mm_Pre D dA M0 [.ref v0, .int v1]) (mm_QI D dA M0 r M') 0 0 (mm_A M0) := by
  refine Met.ofW (cc := b_Title_lastFreeMonth) (maxL := 2) (ret := (some .int)) (by decide) rfl ?_
  intro p e s m args below meth c s₁ B hml hv
  obtain ⟨rfl, hW, hK⟩ := hv
  have C : mm_C p s m _ meth c b_Title_lastFreeMonth 2 (some .int) R_Title D dA (mm_A M0) := ⟨B.exec, B.bytes, B.returns, hml, findClass_of_methodNamed B.named, fun w hw => atoms_spec (ws := w_Title_lastFreeMonth) B.pre w (List.mem_cons_of_mem _ hw), B.notSynchronized, hK, fun q hq => Or.inr (by rw [← hW.1]; exact hq)⟩
  have hS : va_S (mm_A M0) s.heap s.heap [] := va_S.rf
  obtain ⟨hx, hb, hr, hml, hown, hts, hlocks, hK, hA⟩ := id C
  have hl := lv_entry ([.ref v0, .int v1]) (n := 2) (Nat.le_of_ble_eq_true rfl)
  rw [lg_entry_eq]
  generalize (lg_sl ([.ref v0, .int v1]) ++ List.replicate (2 - (lg_sl ([.ref v0, .int v1])).length) Slot.unset).toArray = ls at hl ⊢
  have hl : lv_has ls 2 [(0, .ref v0), (1, .int v1)] := hl
  unfold f_Title_lastFreeMonth at h
  refine lv_iload_n hx hb d_Title_lastFreeMonth_0 rfl (lv_at hl 1 rfl) ?_
  obtain ⟨⟨x1, M1⟩, e1, h⟩ := ob h
  refine mr_ci C hW hS (va_runSN (As := [.int v1]) (rest := []) ⟨hx, hb, hml, hown, hts⟩ (c_X_monthOf l D dA _ _ _ v1 e1) ⟨va_cnB 1 hts (mg_in q_98) rfl rfl rfl (hK.2.1 _ qn_Title_36) (hts _ q_71) (by decide +kernel) ⟨Nat.le_of_ble_eq_true rfl, Nat.le_of_ble_eq_true rfl⟩, hts _ q_99, trivial⟩ (mr_pre C hW) rfl rfl hl.1 rfl (lv_room (Nat.le_of_ble_eq_true rfl)) d_Title_lastFreeMonth_1 ⟨Nat.le_of_ble_eq_true rfl, Nat.le_of_ble_eq_true rfl⟩) (fun H locs hW hS => ?_)
  refine lv_aload_n hx hb d_Title_lastFreeMonth_4 rfl (lv_at hl 0 rfl) ?_
  obtain ⟨x2, e2, h⟩ := ob h
  refine mr_gI C hW k_Title_15 e2 d_Title_lastFreeMonth_5 ?_
  refine lv_isub hx hb d_Title_lastFreeMonth_8 ?_
  exact mr_iret C hW hS (Nat.le_of_ble_eq_true rfl) (Nat.le_of_ble_eq_true rfl) h d_Title_lastFreeMonth_9
def f_Rule_init (v0 : Nat) (v1 : Int32) (v2 : Int32) (v3 : Int32) (v4 : Int32) (M : mm) : Option (Unit × mm) :=
    (kB 0).bind fun _ =>
    (pF 5 4 (.int 0) M v0).bind fun M2 =>
    (pF 5 0 (.int v1) M2 v0).bind fun M3 =>
    (pF 5 1 (.int v2) M3 v0).bind fun M4 =>
    (pF 5 2 (.int v3) M4 v0).bind fun M5 =>
    (pF 5 3 (.int v4) M5 v0).bind fun M6 =>
    some ((), M6)
set_option maxHeartbeats 4000000 in
set_option maxRecDepth 100000 in
theorem c_Rule_init (l : Launch) (D : va_G) (dA : Nat → ClassId) (M0 M' : mm) (r : Unit) (v0 : Nat) (v1 : Int32) (v2 : Int32) (v3 : Int32) (v4 : Int32) (h : f_Rule_init v0 v1 v2 v3 v4 M0 = some (r, M')) : Met l y_Rule_init w_Rule_init rm_Rule_init (mm_Pre D dA M0 [.ref v0, .int v1, .int v2, .int v3, .int v4]) (mm_QV D dA M0 r M') 0 0 (mm_A M0) := by
  refine Met.ofW (cc := b_Rule_init) (maxL := 5) (ret := none) (by decide) rfl ?_
  intro p e s m args below meth c s₁ B hml hv
  obtain ⟨rfl, hW, hK⟩ := hv
  have C : mm_C p s m _ meth c b_Rule_init 5 none R_Rule D dA (mm_A M0) := ⟨B.exec, B.bytes, B.returns, hml, findClass_of_methodNamed B.named, fun w hw => atoms_spec (ws := w_Rule_init) B.pre w (List.mem_cons_of_mem _ hw), B.notSynchronized, hK, fun q hq => Or.inr (by rw [← hW.1]; exact hq)⟩
  have hini : meth.name = "<init>" := (name_of_methodNamed B.named B.method).1
  have hS : va_S (mm_A M0) s.heap s.heap [] := va_S.rf
  obtain ⟨hx, hb, hr, hml, hown, hts, hlocks, hK, hA⟩ := id C
  have hl := lv_entry ([.ref v0, .int v1, .int v2, .int v3, .int v4]) (n := 5) (Nat.le_of_ble_eq_true rfl)
  rw [lg_entry_eq]
  generalize (lg_sl ([.ref v0, .int v1, .int v2, .int v3, .int v4]) ++ List.replicate (5 - (lg_sl ([.ref v0, .int v1, .int v2, .int v3, .int v4])).length) Slot.unset).toArray = ls at hl ⊢
  have hl : lv_has ls 5 [(0, .ref v0), (1, .int v1), (2, .int v2), (3, .int v3), (4, .int v4)] := hl
  unfold f_Rule_init at h
  refine lv_aload_n hx hb d_Rule_init_0 rfl (lv_at hl 0 rfl) ?_
  refine W.objInit hx hb hown (hts _ q_110) (hts _ q_1) (hts _ q_2) rfl (by rw [hml]; exact hl.1) rfl d_Rule_init_1 (Nat.le_of_ble_eq_true rfl) (Nat.le_of_ble_eq_true rfl) ?_
  refine W.eq (g2 := F0 m 4 ls []) rfl ?_
  refine lv_aload_n hx hb d_Rule_init_4 rfl (lv_at hl 0 rfl) ?_
  refine lv_iconst (v := 0) hx hb d_Rule_init_5 (by decide) ?_
  obtain ⟨_, e1, h⟩ := ob h
  obtain ⟨M2, e2, h⟩ := ob h
  refine mr_put C hW hS kp_Rule_9 (kB_some e1).1 (kB_some e1).2 e2 d_Rule_init_6 (fun H locs hW hS => ?_)
  refine lv_aload_n hx hb d_Rule_init_9 rfl (lv_at hl 0 rfl) ?_
  refine lv_iload_n hx hb d_Rule_init_10 rfl (lv_at hl 1 rfl) ?_
  obtain ⟨M3, e3, h⟩ := ob h
  refine mr_putF C hW hS kp_Rule_15 hini rfl rfl e3 d_Rule_init_11 (fun H locs hW hS => ?_)
  refine lv_aload_n hx hb d_Rule_init_14 rfl (lv_at hl 0 rfl) ?_
  refine lv_iload_n hx hb d_Rule_init_15 rfl (lv_at hl 2 rfl) ?_
  obtain ⟨M4, e4, h⟩ := ob h
  refine mr_putF C hW hS kp_Rule_19 hini rfl rfl e4 d_Rule_init_16 (fun H locs hW hS => ?_)
  refine lv_aload_n hx hb d_Rule_init_19 rfl (lv_at hl 0 rfl) ?_
  refine lv_iload_n hx hb d_Rule_init_20 rfl (lv_at hl 3 rfl) ?_
  obtain ⟨M5, e5, h⟩ := ob h
  refine mr_putF C hW hS kp_Rule_22 hini rfl rfl e5 d_Rule_init_21 (fun H locs hW hS => ?_)
  refine lv_aload_n hx hb d_Rule_init_24 rfl (lv_at hl 0 rfl) ?_
  refine lv_iload hx hb d_Rule_init_25 (lv_at hl 4 rfl) ?_
  obtain ⟨M6, e6, h⟩ := ob h
  refine mr_putF C hW hS kp_Rule_25 hini rfl rfl e6 d_Rule_init_27 (fun H locs hW hS => ?_)
  exact mr_vret C hW hS (Nat.le_of_ble_eq_true rfl) (Nat.le_of_ble_eq_true rfl) h d_Rule_init_30
def f_Pack_hasPlace (v0 : Nat) (M : mm) : Option (Int32 × mm) :=
    (gR 4 2 M v0).bind fun x1 =>
    (gI 2 1 M x1).bind fun x2 =>
    (gI 4 4 M v0).bind fun x3 =>
    if x3 ≤ x2 then
      (kB 0).bind fun _ =>
      some (0, M)
    else
      (kB 1).bind fun _ =>
      some (1, M)
set_option maxHeartbeats 4000000 in
set_option maxRecDepth 100000 in
theorem c_Pack_hasPlace (l : Launch) (D : va_G) (dA : Nat → ClassId) (M0 M' : mm) (r : Int32) (v0 : Nat) (h : f_Pack_hasPlace v0 M0 = some (r, M')) : Met l y_Pack_hasPlace w_Pack_hasPlace rm_Pack_hasPlace (mm_Pre D dA M0 [.ref v0]) (mm_QI D dA M0 r M') 0 0 (mm_A M0) := by
  refine Met.ofW (cc := b_Pack_hasPlace) (maxL := 1) (ret := (some .boolean)) (by decide) rfl ?_
  intro p e s m args below meth c s₁ B hml hv
  obtain ⟨rfl, hW, hK⟩ := hv
  have C : mm_C p s m _ meth c b_Pack_hasPlace 1 (some .boolean) R_Pack D dA (mm_A M0) := ⟨B.exec, B.bytes, B.returns, hml, findClass_of_methodNamed B.named, fun w hw => atoms_spec (ws := w_Pack_hasPlace) B.pre w (List.mem_cons_of_mem _ hw), B.notSynchronized, hK, fun q hq => Or.inr (by rw [← hW.1]; exact hq)⟩
  have hS : va_S (mm_A M0) s.heap s.heap [] := va_S.rf
  obtain ⟨hx, hb, hr, hml, hown, hts, hlocks, hK, hA⟩ := id C
  have hl := lv_entry ([.ref v0]) (n := 1) (Nat.le_of_ble_eq_true rfl)
  rw [lg_entry_eq]
  generalize (lg_sl ([.ref v0]) ++ List.replicate (1 - (lg_sl ([.ref v0])).length) Slot.unset).toArray = ls at hl ⊢
  have hl : lv_has ls 1 [(0, .ref v0)] := hl
  unfold f_Pack_hasPlace at h
  refine lv_aload_n hx hb d_Pack_hasPlace_0 rfl (lv_at hl 0 rfl) ?_
  obtain ⟨x1, e1, h⟩ := ob h
  refine mr_gR C hW k_Pack_12 e1 d_Pack_hasPlace_1 ?_
  obtain ⟨x2, e2, h⟩ := ob h
  refine mr_gI C hW k_Pack_35 e2 d_Pack_hasPlace_4 ?_
  refine lv_aload_n hx hb d_Pack_hasPlace_7 rfl (lv_at hl 0 rfl) ?_
  obtain ⟨x3, e3, h⟩ := ob h
  refine mr_gI C hW k_Pack_21 e3 d_Pack_hasPlace_8 ?_
  refine lv_icmp_ge (tgt := 18) hx hb d_Pack_hasPlace_11 (by decide) (fun c4 => ?_) (fun c4 => ?_)
  · have h := ifp h c4
    refine lv_iconst (v := 0) hx hb d_Pack_hasPlace_18 (by decide) ?_
    obtain ⟨_, e5, h⟩ := ob h
    exact mr_zret C hW hS (Nat.le_of_ble_eq_true rfl) (Nat.le_of_ble_eq_true rfl) e5 h d_Pack_hasPlace_19
  · have h := ifn h c4
    refine lv_iconst (v := 1) hx hb d_Pack_hasPlace_14 (by decide) ?_
    refine lv_goto (tgt := 19) hx hb d_Pack_hasPlace_15 (by decide) ?_
    obtain ⟨_, e6, h⟩ := ob h
    exact mr_zret C hW hS (Nat.le_of_ble_eq_true rfl) (Nat.le_of_ble_eq_true rfl) e6 h d_Pack_hasPlace_19
def f_Line_placeOf_b2 : Nat → Nat → Int32 → Int32 → mm → Option (Int32 × mm)
  | 0, _, _, _, _ => none
  | n + 1, v0, v1, v2, M =>
    (gI 2 1 M v0).bind fun x1 =>
    if x1 ≤ v2 then
      some ((-1), M)
    else
      (gR 2 0 M v0).bind fun x3 =>
      (aI M x3 v2).bind fun x4 =>
      if x4 = v1 then
        some (v2, M)
      else
        f_Line_placeOf_b2 n v0 v1 (v2 + 1) M
def f_Line_placeOf (v0 : Nat) (v1 : Int32) (M : mm) : Option (Int32 × mm) :=
    f_Line_placeOf_b2 FU v0 v1 0 M
set_option maxHeartbeats 4000000 in
set_option maxRecDepth 100000 in
theorem w_Line_placeOf_b2 {p : Program} {l : Launch} {e : Env} {s : State} {m : MethodId} {args : Array Value} {below : List Frame} {meth : Method} {c : Code} {D : va_G} {dA : Nat → ClassId} {M0 M' : mm} {r : Int32} (C : mm_C p s m args meth c b_Line_placeOf 3 (some .int) R_Line D dA (mm_A M0)) : ∀ (n : Nat), ∀ (v0 : Nat) (v1 : Int32) (v2 : Int32) (M : mm) (H : Heap) (locs : List Loc) (ls : Array Slot), f_Line_placeOf_b2 n v0 v1 v2 M = some (r, M') → mm_W D dA (mm_A M0) M H → va_S (mm_A M0) s.heap H locs → lv_has ls 3 [(0, .ref v0), (1, .int v1), (2, .int v2)] → W p l e rm_Line_placeOf s m args below meth c H locs 0 0 (MQ below (mm_QI D dA M0 r M') args s 0 0 (mm_A M0)) (F0 m 2 ls []) := by
  obtain ⟨hx, hb, hr, hml, hown, hts, hlocks, hK, hA⟩ := id C
  intro n
  induction n with
  | zero =>
    intro v0 v1 v2 M H locs ls h hW hS hl
    unfold f_Line_placeOf_b2 at h
    cases h
  | succ n ih =>
    intro v0 v1 v2 M H locs ls h hW hS hl
    unfold f_Line_placeOf_b2 at h
    refine lv_iload_n hx hb d_Line_placeOf_2 rfl (lv_at hl 2 rfl) ?_
    refine lv_aload_n hx hb d_Line_placeOf_3 rfl (lv_at hl 0 rfl) ?_
    obtain ⟨x1, e1, h⟩ := ob h
    refine mr_gI C hW k_Line_15 e1 d_Line_placeOf_4 ?_
    refine lv_icmp_ge (tgt := 28) hx hb d_Line_placeOf_7 (by decide) (fun c2 => ?_) (fun c2 => ?_)
    · have h := ifp h c2
      refine lv_iconst (v := (-1)) hx hb d_Line_placeOf_28 (by decide) ?_
      exact mr_iret C hW hS (Nat.le_of_ble_eq_true rfl) (Nat.le_of_ble_eq_true rfl) h d_Line_placeOf_29
    · have h := ifn h c2
      refine lv_aload_n hx hb d_Line_placeOf_10 rfl (lv_at hl 0 rfl) ?_
      obtain ⟨x3, e3, h⟩ := ob h
      refine mr_gR C hW k_Line_9 e3 d_Line_placeOf_11 ?_
      refine lv_iload_n hx hb d_Line_placeOf_14 rfl (lv_at hl 2 rfl) ?_
      obtain ⟨x4, e4, h⟩ := ob h
      refine mr_aI C hW e4 d_Line_placeOf_15 ?_
      refine lv_iload_n hx hb d_Line_placeOf_16 rfl (lv_at hl 1 rfl) ?_
      refine lv_icmp_ne (tgt := 22) hx hb d_Line_placeOf_17 (by decide) (fun c5 => ?_) (fun c5 => ?_)
      · have h := ifn h c5
        refine lv_iinc (v := v2 + 1) (lv' := [(2, .int (v2 + 1)), (0, .ref v0), (1, .int v1)]) hx hb d_Line_placeOf_22 hl (k := 2) rfl rfl (by decide) rfl (fun ls hl => ?_)
        refine lv_goto (tgt := 2) hx hb d_Line_placeOf_25 (by decide) ?_
        exact ih _ _ _ _ _ _ _ h hW hS (lv_sub hl [1, 2, 0] rfl)
      · have h := ifp h c5
        refine lv_iload_n hx hb d_Line_placeOf_20 rfl (lv_at hl 2 rfl) ?_
        exact mr_iret C hW hS (Nat.le_of_ble_eq_true rfl) (Nat.le_of_ble_eq_true rfl) h d_Line_placeOf_21
set_option maxHeartbeats 4000000 in
set_option maxRecDepth 100000 in
theorem c_Line_placeOf (l : Launch) (D : va_G) (dA : Nat → ClassId) (M0 M' : mm) (r : Int32) (v0 : Nat) (v1 : Int32) (h : f_Line_placeOf v0 v1 M0 = some (r, M')) : Met l y_Line_placeOf w_Line_placeOf rm_Line_placeOf (mm_Pre D dA M0 [.ref v0, .int v1]) (mm_QI D dA M0 r M') 0 0 (mm_A M0) := by
  refine Met.ofW (cc := b_Line_placeOf) (maxL := 3) (ret := (some .int)) (by decide) rfl ?_
  intro p e s m args below meth c s₁ B hml hv
  obtain ⟨rfl, hW, hK⟩ := hv
  have C : mm_C p s m _ meth c b_Line_placeOf 3 (some .int) R_Line D dA (mm_A M0) := ⟨B.exec, B.bytes, B.returns, hml, findClass_of_methodNamed B.named, fun w hw => atoms_spec (ws := w_Line_placeOf) B.pre w (List.mem_cons_of_mem _ hw), B.notSynchronized, hK, fun q hq => Or.inr (by rw [← hW.1]; exact hq)⟩
  have hS : va_S (mm_A M0) s.heap s.heap [] := va_S.rf
  obtain ⟨hx, hb, hr, hml, hown, hts, hlocks, hK, hA⟩ := id C
  have hl := lv_entry ([.ref v0, .int v1]) (n := 3) (Nat.le_of_ble_eq_true rfl)
  rw [lg_entry_eq]
  generalize (lg_sl ([.ref v0, .int v1]) ++ List.replicate (3 - (lg_sl ([.ref v0, .int v1])).length) Slot.unset).toArray = ls at hl ⊢
  have hl : lv_has ls 3 [(0, .ref v0), (1, .int v1)] := hl
  unfold f_Line_placeOf at h
  refine lv_iconst (v := 0) hx hb d_Line_placeOf_0 (by decide) ?_
  refine lv_istore_n (lv' := [(2, .int 0), (0, .ref v0), (1, .int v1)]) hx hb d_Line_placeOf_1 rfl hl (by decide) rfl (fun ls hl => ?_)
  exact w_Line_placeOf_b2 C FU _ _ _ _ _ _ _ h hW hS (lv_sub hl [1, 2, 0] rfl)
def f_Line_drop_b24 : Nat → Nat → Int32 → mm → Option (Int32 × mm)
  | 0, _, _, _ => none
  | n + 1, v0, v3, M =>
    (gI 2 1 M v0).bind fun x1 =>
    if x1 ≤ v3 then
      (kB 1).bind fun _ =>
      some (1, M)
    else
      (gR 2 0 M v0).bind fun x4 =>
      (gR 2 0 M v0).bind fun x5 =>
      (aI M x5 (v3 + 1)).bind fun x6 =>
      (sI x6 M x4 v3).bind fun M7 =>
      f_Line_drop_b24 n v0 (v3 + 1) M7
def f_Line_drop (v0 : Nat) (v1 : Int32) (M : mm) : Option (Int32 × mm) :=
    (kO 2 M v0).bind fun _ =>
    (f_Line_placeOf v0 v1 M).bind fun (x8, M8) =>
    if 0 ≤ x8 then
      (gI 2 1 M8 v0).bind fun x11 =>
      (pF 2 1 (.int (x11 - 1)) M8 v0).bind fun M12 =>
      f_Line_drop_b24 FU v0 x8 M12
    else
      (kB 0).bind fun _ =>
      some (0, M8)
set_option maxHeartbeats 4000000 in
set_option maxRecDepth 100000 in
theorem w_Line_drop_b24 {p : Program} {l : Launch} {e : Env} {s : State} {m : MethodId} {args : Array Value} {below : List Frame} {meth : Method} {c : Code} {D : va_G} {dA : Nat → ClassId} {M0 M' : mm} {r : Int32} (C : mm_C p s m args meth c b_Line_drop 4 (some .boolean) R_Line D dA (mm_A M0)) : ∀ (n : Nat), ∀ (v0 : Nat) (v3 : Int32) (M : mm) (H : Heap) (locs : List Loc) (ls : Array Slot), f_Line_drop_b24 n v0 v3 M = some (r, M') → mm_W D dA (mm_A M0) M H → va_S (mm_A M0) s.heap H locs → lv_has ls 4 [(0, .ref v0), (3, .int v3)] → W p l e rm_Line_drop s m args below meth c H locs 0 0 (MQ below (mm_QI D dA M0 r M') args s 0 0 (mm_A M0)) (F0 m 24 ls []) := by
  obtain ⟨hx, hb, hr, hml, hown, hts, hlocks, hK, hA⟩ := id C
  intro n
  induction n with
  | zero =>
    intro v0 v3 M H locs ls h hW hS hl
    unfold f_Line_drop_b24 at h
    cases h
  | succ n ih =>
    intro v0 v3 M H locs ls h hW hS hl
    unfold f_Line_drop_b24 at h
    refine lv_iload_n hx hb d_Line_drop_24 rfl (lv_at hl 1 rfl) ?_
    refine lv_aload_n hx hb d_Line_drop_25 rfl (lv_at hl 0 rfl) ?_
    obtain ⟨x1, e1, h⟩ := ob h
    refine mr_gI C hW k_Line_15 e1 d_Line_drop_26 ?_
    refine lv_icmp_ge (tgt := 52) hx hb d_Line_drop_29 (by decide) (fun c2 => ?_) (fun c2 => ?_)
    · have h := ifp h c2
      refine lv_iconst (v := 1) hx hb d_Line_drop_52 (by decide) ?_
      obtain ⟨_, e3, h⟩ := ob h
      exact mr_zret C hW hS (Nat.le_of_ble_eq_true rfl) (Nat.le_of_ble_eq_true rfl) e3 h d_Line_drop_53
    · have h := ifn h c2
      refine lv_aload_n hx hb d_Line_drop_32 rfl (lv_at hl 0 rfl) ?_
      obtain ⟨x4, e4, h⟩ := ob h
      refine mr_gR C hW k_Line_9 e4 d_Line_drop_33 ?_
      refine lv_iload_n hx hb d_Line_drop_36 rfl (lv_at hl 1 rfl) ?_
      refine lv_aload_n hx hb d_Line_drop_37 rfl (lv_at hl 0 rfl) ?_
      obtain ⟨x5, e5, h⟩ := ob h
      refine mr_gR C hW k_Line_9 e5 d_Line_drop_38 ?_
      refine lv_iload_n hx hb d_Line_drop_41 rfl (lv_at hl 1 rfl) ?_
      refine lv_iconst (v := 1) hx hb d_Line_drop_42 (by decide) ?_
      refine lv_iadd hx hb d_Line_drop_43 ?_
      obtain ⟨x6, e6, h⟩ := ob h
      refine mr_aI C hW e6 d_Line_drop_44 ?_
      obtain ⟨M7, e7, h⟩ := ob h
      refine mr_sI C hW hS e7 d_Line_drop_45 (fun H locs hW hS => ?_)
      refine lv_iinc (v := v3 + 1) (lv' := [(3, .int (v3 + 1)), (0, .ref v0)]) hx hb d_Line_drop_46 hl (k := 1) rfl rfl (by decide) rfl (fun ls hl => ?_)
      refine lv_goto (tgt := 24) hx hb d_Line_drop_49 (by decide) ?_
      exact ih _ _ _ _ _ _ h hW hS (lv_sub hl [1, 0] rfl)
set_option maxHeartbeats 4000000 in
set_option maxRecDepth 100000 in
theorem c_Line_drop (l : Launch) (D : va_G) (dA : Nat → ClassId) (M0 M' : mm) (r : Int32) (v0 : Nat) (v1 : Int32) (h : f_Line_drop v0 v1 M0 = some (r, M')) : Met l y_Line_drop w_Line_drop rm_Line_drop (mm_Pre D dA M0 [.ref v0, .int v1]) (mm_QI D dA M0 r M') 0 0 (mm_A M0) := by
  refine Met.ofW (cc := b_Line_drop) (maxL := 4) (ret := (some .boolean)) (by decide) rfl ?_
  intro p e s m args below meth c s₁ B hml hv
  obtain ⟨rfl, hW, hK⟩ := hv
  have C : mm_C p s m _ meth c b_Line_drop 4 (some .boolean) R_Line D dA (mm_A M0) := ⟨B.exec, B.bytes, B.returns, hml, findClass_of_methodNamed B.named, fun w hw => atoms_spec (ws := w_Line_drop) B.pre w (List.mem_cons_of_mem _ hw), B.notSynchronized, hK, fun q hq => Or.inr (by rw [← hW.1]; exact hq)⟩
  have hS : va_S (mm_A M0) s.heap s.heap [] := va_S.rf
  obtain ⟨hx, hb, hr, hml, hown, hts, hlocks, hK, hA⟩ := id C
  have hl := lv_entry ([.ref v0, .int v1]) (n := 4) (Nat.le_of_ble_eq_true rfl)
  rw [lg_entry_eq]
  generalize (lg_sl ([.ref v0, .int v1]) ++ List.replicate (4 - (lg_sl ([.ref v0, .int v1])).length) Slot.unset).toArray = ls at hl ⊢
  have hl : lv_has ls 4 [(0, .ref v0), (1, .int v1)] := hl
  unfold f_Line_drop at h
  refine lv_aload_n hx hb d_Line_drop_0 rfl (lv_at hl 0 rfl) ?_
  refine lv_iload_n hx hb d_Line_drop_1 rfl (lv_at hl 1 rfl) ?_
  obtain ⟨_, e9, h⟩ := ob h
  obtain ⟨⟨x8, M8⟩, e8, h⟩ := ob h
  refine mr_ci C hW hS (va_runV (As := [.int v1]) (rest := []) ⟨hx, hb, hml, hown, hts⟩ (c_Line_placeOf l D dA _ _ _ v0 v1 e8) (cwV 1 hts (mg_V q_133 q_134 q_135 q_136 q_42) rfl rfl rfl (by decide +kernel) ⟨Nat.le_of_ble_eq_true rfl, Nat.le_of_ble_eq_true rfl⟩) (mr_preV C hW (ci := 2) rfl e9) rfl rfl hl.1 rfl (lv_room (Nat.le_of_ble_eq_true rfl)) d_Line_drop_2 ⟨Nat.le_of_ble_eq_true rfl, Nat.le_of_ble_eq_true rfl⟩) (fun H locs hW hS => ?_)
  refine lv_istore_n (lv' := [(2, .int x8), (0, .ref v0), (1, .int v1)]) hx hb d_Line_drop_5 rfl hl (by decide) rfl (fun ls hl => ?_)
  refine lv_iload_n hx hb d_Line_drop_6 rfl (lv_at hl 0 rfl) ?_
  refine lv_if_ge (tgt := 12) hx hb d_Line_drop_7 (by decide) (fun c10 => ?_) (fun c10 => ?_)
  · have h := ifp h c10
    refine lv_aload_n hx hb d_Line_drop_12 rfl (lv_at hl 1 rfl) ?_
    refine lv_dup hx hb d_Line_drop_13 rfl ?_
    obtain ⟨x11, e11, h⟩ := ob h
    refine mr_gI C hW k_Line_15 e11 d_Line_drop_14 ?_
    refine lv_iconst (v := 1) hx hb d_Line_drop_17 (by decide) ?_
    refine lv_isub hx hb d_Line_drop_18 ?_
    obtain ⟨M12, e12, h⟩ := ob h
    refine mr_put C hW hS kp_Line_15 rfl rfl e12 d_Line_drop_19 (fun H locs hW hS => ?_)
    refine lv_iload_n hx hb d_Line_drop_22 rfl (lv_at hl 0 rfl) ?_
    refine lv_istore_n (lv' := [(3, .int x8), (2, .int x8), (0, .ref v0), (1, .int v1)]) hx hb d_Line_drop_23 rfl hl (by decide) rfl (fun ls hl => ?_)
    exact w_Line_drop_b24 C FU _ _ _ _ _ _ h hW hS (lv_sub hl [2, 0] rfl)
  · have h := ifn h c10
    refine lv_iconst (v := 0) hx hb d_Line_drop_10 (by decide) ?_
    obtain ⟨_, e13, h⟩ := ob h
    exact mr_zret C hW hS (Nat.le_of_ble_eq_true rfl) (Nat.le_of_ble_eq_true rfl) e13 h d_Line_drop_11
def f_Line_append (v0 : Nat) (v1 : Int32) (M : mm) : Option (Unit × mm) :=
    (gI 2 1 M v0).bind fun x1 =>
    if 100 ≤ x1 then
      some ((), M)
    else
      (gR 2 0 M v0).bind fun x3 =>
      (gI 2 1 M v0).bind fun x4 =>
      (sI v1 M x3 x4).bind fun M5 =>
      (gI 2 1 M5 v0).bind fun x6 =>
      (pF 2 1 (.int (x6 + 1)) M5 v0).bind fun M7 =>
      some ((), M7)
set_option maxHeartbeats 4000000 in
set_option maxRecDepth 100000 in
theorem c_Line_append (l : Launch) (D : va_G) (dA : Nat → ClassId) (M0 M' : mm) (r : Unit) (v0 : Nat) (v1 : Int32) (h : f_Line_append v0 v1 M0 = some (r, M')) : Met l y_Line_append w_Line_append rm_Line_append (mm_Pre D dA M0 [.ref v0, .int v1]) (mm_QV D dA M0 r M') 0 0 (mm_A M0) := by
  refine Met.ofW (cc := b_Line_append) (maxL := 2) (ret := none) (by decide) rfl ?_
  intro p e s m args below meth c s₁ B hml hv
  obtain ⟨rfl, hW, hK⟩ := hv
  have C : mm_C p s m _ meth c b_Line_append 2 none R_Line D dA (mm_A M0) := ⟨B.exec, B.bytes, B.returns, hml, findClass_of_methodNamed B.named, fun w hw => atoms_spec (ws := w_Line_append) B.pre w (List.mem_cons_of_mem _ hw), B.notSynchronized, hK, fun q hq => Or.inr (by rw [← hW.1]; exact hq)⟩
  have hS : va_S (mm_A M0) s.heap s.heap [] := va_S.rf
  obtain ⟨hx, hb, hr, hml, hown, hts, hlocks, hK, hA⟩ := id C
  have hl := lv_entry ([.ref v0, .int v1]) (n := 2) (Nat.le_of_ble_eq_true rfl)
  rw [lg_entry_eq]
  generalize (lg_sl ([.ref v0, .int v1]) ++ List.replicate (2 - (lg_sl ([.ref v0, .int v1])).length) Slot.unset).toArray = ls at hl ⊢
  have hl : lv_has ls 2 [(0, .ref v0), (1, .int v1)] := hl
  unfold f_Line_append at h
  refine lv_aload_n hx hb d_Line_append_0 rfl (lv_at hl 0 rfl) ?_
  obtain ⟨x1, e1, h⟩ := ob h
  refine mr_gI C hW k_Line_15 e1 d_Line_append_1 ?_
  refine lv_bipush (v := 100) hx hb d_Line_append_4 (by decide) ?_
  refine lv_icmp_ge (tgt := 29) hx hb d_Line_append_6 (by decide) (fun c2 => ?_) (fun c2 => ?_)
  · have h := ifp h c2
    exact mr_vret C hW hS (Nat.le_of_ble_eq_true rfl) (Nat.le_of_ble_eq_true rfl) h d_Line_append_29
  · have h := ifn h c2
    refine lv_aload_n hx hb d_Line_append_9 rfl (lv_at hl 0 rfl) ?_
    obtain ⟨x3, e3, h⟩ := ob h
    refine mr_gR C hW k_Line_9 e3 d_Line_append_10 ?_
    refine lv_aload_n hx hb d_Line_append_13 rfl (lv_at hl 0 rfl) ?_
    obtain ⟨x4, e4, h⟩ := ob h
    refine mr_gI C hW k_Line_15 e4 d_Line_append_14 ?_
    refine lv_iload_n hx hb d_Line_append_17 rfl (lv_at hl 1 rfl) ?_
    obtain ⟨M5, e5, h⟩ := ob h
    refine mr_sI C hW hS e5 d_Line_append_18 (fun H locs hW hS => ?_)
    refine lv_aload_n hx hb d_Line_append_19 rfl (lv_at hl 0 rfl) ?_
    refine lv_dup hx hb d_Line_append_20 rfl ?_
    obtain ⟨x6, e6, h⟩ := ob h
    refine mr_gI C hW k_Line_15 e6 d_Line_append_21 ?_
    refine lv_iconst (v := 1) hx hb d_Line_append_24 (by decide) ?_
    refine lv_iadd hx hb d_Line_append_25 ?_
    obtain ⟨M7, e7, h⟩ := ob h
    refine mr_put C hW hS kp_Line_15 rfl rfl e7 d_Line_append_26 (fun H locs hW hS => ?_)
    exact mr_vret C hW hS (Nat.le_of_ble_eq_true rfl) (Nat.le_of_ble_eq_true rfl) h d_Line_append_29
def f_Pack_admitNext (v0 : Nat) (M : mm) : Option (Int32 × mm) :=
    (kO 4 M v0).bind fun _ =>
    (f_Pack_hasPlace v0 M).bind fun (x1, M1) =>
    if x1 = 0 then
      some ((-10), M1)
    else
      (gR 4 3 M1 v0).bind fun x4 =>
      (gI 2 1 M1 x4).bind fun x5 =>
      if x5 = 0 then
        some ((-10), M1)
      else
        (gR 4 3 M1 v0).bind fun x7 =>
        (gR 2 0 M1 x7).bind fun x8 =>
        (aI M1 x8 0).bind fun x9 =>
        (gR 4 3 M1 v0).bind fun x10 =>
        (kO 2 M1 x10).bind fun _ =>
        (f_Line_drop x10 x9 M1).bind fun (x11, M11) =>
        (gR 4 2 M11 v0).bind fun x13 =>
        (kO 2 M11 x13).bind fun _ =>
        (f_Line_append x13 x9 M11).bind fun (_, M14) =>
        some (x9, M14)
set_option maxHeartbeats 4000000 in
set_option maxRecDepth 100000 in
theorem c_Pack_admitNext (l : Launch) (D : va_G) (dA : Nat → ClassId) (M0 M' : mm) (r : Int32) (v0 : Nat) (h : f_Pack_admitNext v0 M0 = some (r, M')) : Met l y_Pack_admitNext w_Pack_admitNext rm_Pack_admitNext (mm_Pre D dA M0 [.ref v0]) (mm_QI D dA M0 r M') 0 0 (mm_A M0) := by
  refine Met.ofW (cc := b_Pack_admitNext) (maxL := 2) (ret := (some .int)) (by decide) rfl ?_
  intro p e s m args below meth c s₁ B hml hv
  obtain ⟨rfl, hW, hK⟩ := hv
  have C : mm_C p s m _ meth c b_Pack_admitNext 2 (some .int) R_Pack D dA (mm_A M0) := ⟨B.exec, B.bytes, B.returns, hml, findClass_of_methodNamed B.named, fun w hw => atoms_spec (ws := w_Pack_admitNext) B.pre w (List.mem_cons_of_mem _ hw), B.notSynchronized, hK, fun q hq => Or.inr (by rw [← hW.1]; exact hq)⟩
  have hS : va_S (mm_A M0) s.heap s.heap [] := va_S.rf
  obtain ⟨hx, hb, hr, hml, hown, hts, hlocks, hK, hA⟩ := id C
  have hl := lv_entry ([.ref v0]) (n := 2) (Nat.le_of_ble_eq_true rfl)
  rw [lg_entry_eq]
  generalize (lg_sl ([.ref v0]) ++ List.replicate (2 - (lg_sl ([.ref v0])).length) Slot.unset).toArray = ls at hl ⊢
  have hl : lv_has ls 2 [(0, .ref v0)] := hl
  unfold f_Pack_admitNext at h
  refine lv_aload_n hx hb d_Pack_admitNext_0 rfl (lv_at hl 0 rfl) ?_
  obtain ⟨_, e2, h⟩ := ob h
  obtain ⟨⟨x1, M1⟩, e1, h⟩ := ob h
  refine mr_ci C hW hS (va_runV (As := []) (rest := []) ⟨hx, hb, hml, hown, hts⟩ (c_Pack_hasPlace l D dA _ _ _ v0 e1) (cwV 0 hts (mg_V q_137 q_138 q_139 q_140 q_52) rfl rfl rfl (by decide +kernel) ⟨Nat.le_of_ble_eq_true rfl, Nat.le_of_ble_eq_true rfl⟩) (mr_preV C hW (ci := 4) rfl e2) rfl rfl hl.1 rfl (lv_room (Nat.le_of_ble_eq_true rfl)) d_Pack_admitNext_1 ⟨Nat.le_of_ble_eq_true rfl, Nat.le_of_ble_eq_true rfl⟩) (fun H locs hW hS => ?_)
  refine lv_if_eq (tgt := 17) hx hb d_Pack_admitNext_4 (by decide) (fun c3 => ?_) (fun c3 => ?_)
  · have h := ifp h c3
    refine lv_bipush (v := (-10)) hx hb d_Pack_admitNext_17 (by decide) ?_
    exact mr_iret C hW hS (Nat.le_of_ble_eq_true rfl) (Nat.le_of_ble_eq_true rfl) h d_Pack_admitNext_19
  · have h := ifn h c3
    refine lv_aload_n hx hb d_Pack_admitNext_7 rfl (lv_at hl 0 rfl) ?_
    obtain ⟨x4, e4, h⟩ := ob h
    refine mr_gR C hW k_Pack_18 e4 d_Pack_admitNext_8 ?_
    obtain ⟨x5, e5, h⟩ := ob h
    refine mr_gI C hW k_Pack_35 e5 d_Pack_admitNext_11 ?_
    refine lv_if_ne (tgt := 20) hx hb d_Pack_admitNext_14 (by decide) (fun c6 => ?_) (fun c6 => ?_)
    · have h := ifn h c6
      refine lv_aload_n hx hb d_Pack_admitNext_20 rfl (lv_at hl 0 rfl) ?_
      obtain ⟨x7, e7, h⟩ := ob h
      refine mr_gR C hW k_Pack_18 e7 d_Pack_admitNext_21 ?_
      obtain ⟨x8, e8, h⟩ := ob h
      refine mr_gR C hW k_Pack_42 e8 d_Pack_admitNext_24 ?_
      refine lv_iconst (v := 0) hx hb d_Pack_admitNext_27 (by decide) ?_
      obtain ⟨x9, e9, h⟩ := ob h
      refine mr_aI C hW e9 d_Pack_admitNext_28 ?_
      refine lv_istore_n (lv' := [(1, .int x9), (0, .ref v0)]) hx hb d_Pack_admitNext_29 rfl hl (by decide) rfl (fun ls hl => ?_)
      refine lv_aload_n hx hb d_Pack_admitNext_30 rfl (lv_at hl 1 rfl) ?_
      obtain ⟨x10, e10, h⟩ := ob h
      refine mr_gR C hW k_Pack_18 e10 d_Pack_admitNext_31 ?_
      refine lv_iload_n hx hb d_Pack_admitNext_34 rfl (lv_at hl 0 rfl) ?_
      obtain ⟨_, e12, h⟩ := ob h
      obtain ⟨⟨x11, M11⟩, e11, h⟩ := ob h
      refine mr_ci C hW hS (va_runV (As := [.int x9]) (rest := []) ⟨hx, hb, hml, hown, hts⟩ (c_Line_drop l D dA _ _ _ x10 x9 e11) (cwV 1 hts (mg_V q_142 q_143 q_144 q_145 q_42) rfl rfl rfl (by decide +kernel) ⟨Nat.le_of_ble_eq_true rfl, Nat.le_of_ble_eq_true rfl⟩) (mr_preV C hW (ci := 2) rfl e12) rfl rfl hl.1 rfl (lv_room (Nat.le_of_ble_eq_true rfl)) d_Pack_admitNext_35 ⟨Nat.le_of_ble_eq_true rfl, Nat.le_of_ble_eq_true rfl⟩) (fun H locs hW hS => ?_)
      refine lv_pop hx hb d_Pack_admitNext_38 rfl ?_
      refine lv_aload_n hx hb d_Pack_admitNext_39 rfl (lv_at hl 1 rfl) ?_
      obtain ⟨x13, e13, h⟩ := ob h
      refine mr_gR C hW k_Pack_12 e13 d_Pack_admitNext_40 ?_
      refine lv_iload_n hx hb d_Pack_admitNext_43 rfl (lv_at hl 0 rfl) ?_
      obtain ⟨_, e15, h⟩ := ob h
      obtain ⟨⟨u14, M14⟩, e14, h⟩ := ob h
      refine mr_cv C hW hS (va_runV (As := [.int x9]) (rest := []) ⟨hx, hb, hml, hown, hts⟩ (c_Line_append l D dA _ _ _ x13 x9 e14) (cwV 1 hts (mg_V q_146 q_147 q_148 q_149 q_42) rfl rfl rfl (by decide +kernel) ⟨Nat.le_of_ble_eq_true rfl, Nat.le_of_ble_eq_true rfl⟩) (mr_preV C hW (ci := 2) rfl e15) rfl rfl hl.1 rfl (lv_room (Nat.le_of_ble_eq_true rfl)) d_Pack_admitNext_44 ⟨Nat.le_of_ble_eq_true rfl, Nat.le_of_ble_eq_true rfl⟩) (fun H locs hW hS => ?_)
      refine lv_iload_n hx hb d_Pack_admitNext_47 rfl (lv_at hl 0 rfl) ?_
      exact mr_iret C hW hS (Nat.le_of_ble_eq_true rfl) (Nat.le_of_ble_eq_true rfl) h d_Pack_admitNext_48
    · have h := ifp h c6
      refine lv_bipush (v := (-10)) hx hb d_Pack_admitNext_17 (by decide) ?_
      exact mr_iret C hW hS (Nat.le_of_ble_eq_true rfl) (Nat.le_of_ble_eq_true rfl) h d_Pack_admitNext_19
def f_Line_holds (v0 : Nat) (v1 : Int32) (M : mm) : Option (Int32 × mm) :=
    (kO 2 M v0).bind fun _ =>
    (f_Line_placeOf v0 v1 M).bind fun (x1, M1) =>
    if x1 < 0 then
      (kB 0).bind fun _ =>
      some (0, M1)
    else
      (kB 1).bind fun _ =>
      some (1, M1)
set_option maxHeartbeats 4000000 in
set_option maxRecDepth 100000 in
theorem c_Line_holds (l : Launch) (D : va_G) (dA : Nat → ClassId) (M0 M' : mm) (r : Int32) (v0 : Nat) (v1 : Int32) (h : f_Line_holds v0 v1 M0 = some (r, M')) : Met l y_Line_holds w_Line_holds rm_Line_holds (mm_Pre D dA M0 [.ref v0, .int v1]) (mm_QI D dA M0 r M') 0 0 (mm_A M0) := by
  refine Met.ofW (cc := b_Line_holds) (maxL := 2) (ret := (some .boolean)) (by decide) rfl ?_
  intro p e s m args below meth c s₁ B hml hv
  obtain ⟨rfl, hW, hK⟩ := hv
  have C : mm_C p s m _ meth c b_Line_holds 2 (some .boolean) R_Line D dA (mm_A M0) := ⟨B.exec, B.bytes, B.returns, hml, findClass_of_methodNamed B.named, fun w hw => atoms_spec (ws := w_Line_holds) B.pre w (List.mem_cons_of_mem _ hw), B.notSynchronized, hK, fun q hq => Or.inr (by rw [← hW.1]; exact hq)⟩
  have hS : va_S (mm_A M0) s.heap s.heap [] := va_S.rf
  obtain ⟨hx, hb, hr, hml, hown, hts, hlocks, hK, hA⟩ := id C
  have hl := lv_entry ([.ref v0, .int v1]) (n := 2) (Nat.le_of_ble_eq_true rfl)
  rw [lg_entry_eq]
  generalize (lg_sl ([.ref v0, .int v1]) ++ List.replicate (2 - (lg_sl ([.ref v0, .int v1])).length) Slot.unset).toArray = ls at hl ⊢
  have hl : lv_has ls 2 [(0, .ref v0), (1, .int v1)] := hl
  unfold f_Line_holds at h
  refine lv_aload_n hx hb d_Line_holds_0 rfl (lv_at hl 0 rfl) ?_
  refine lv_iload_n hx hb d_Line_holds_1 rfl (lv_at hl 1 rfl) ?_
  obtain ⟨_, e2, h⟩ := ob h
  obtain ⟨⟨x1, M1⟩, e1, h⟩ := ob h
  refine mr_ci C hW hS (va_runV (As := [.int v1]) (rest := []) ⟨hx, hb, hml, hown, hts⟩ (c_Line_placeOf l D dA _ _ _ v0 v1 e1) (cwV 1 hts (mg_V q_133 q_134 q_135 q_136 q_42) rfl rfl rfl (by decide +kernel) ⟨Nat.le_of_ble_eq_true rfl, Nat.le_of_ble_eq_true rfl⟩) (mr_preV C hW (ci := 2) rfl e2) rfl rfl hl.1 rfl (lv_room (Nat.le_of_ble_eq_true rfl)) d_Line_holds_2 ⟨Nat.le_of_ble_eq_true rfl, Nat.le_of_ble_eq_true rfl⟩) (fun H locs hW hS => ?_)
  refine lv_if_lt (tgt := 12) hx hb d_Line_holds_5 (by decide) (fun c3 => ?_) (fun c3 => ?_)
  · have h := ifp h c3
    refine lv_iconst (v := 0) hx hb d_Line_holds_12 (by decide) ?_
    obtain ⟨_, e4, h⟩ := ob h
    exact mr_zret C hW hS (Nat.le_of_ble_eq_true rfl) (Nat.le_of_ble_eq_true rfl) e4 h d_Line_holds_13
  · have h := ifn h c3
    refine lv_iconst (v := 1) hx hb d_Line_holds_8 (by decide) ?_
    refine lv_goto (tgt := 13) hx hb d_Line_holds_9 (by decide) ?_
    obtain ⟨_, e5, h⟩ := ob h
    exact mr_zret C hW hS (Nat.le_of_ble_eq_true rfl) (Nat.le_of_ble_eq_true rfl) e5 h d_Line_holds_13
def f_Pack_hasEndedBy (v0 : Nat) (v1 : Int32) (M : mm) : Option (Int32 × mm) :=
    (gI 4 5 M v0).bind fun x1 =>
    if x1 = ((-1)) then
      (kB 0).bind fun _ =>
      some (0, M)
    else
      (gI 4 5 M v0).bind fun x4 =>
      if v1 < x4 then
        (kB 0).bind fun _ =>
        some (0, M)
      else
        (kB 1).bind fun _ =>
        some (1, M)
set_option maxHeartbeats 4000000 in
set_option maxRecDepth 100000 in
theorem c_Pack_hasEndedBy (l : Launch) (D : va_G) (dA : Nat → ClassId) (M0 M' : mm) (r : Int32) (v0 : Nat) (v1 : Int32) (h : f_Pack_hasEndedBy v0 v1 M0 = some (r, M')) : Met l y_Pack_hasEndedBy w_Pack_hasEndedBy rm_Pack_hasEndedBy (mm_Pre D dA M0 [.ref v0, .int v1]) (mm_QI D dA M0 r M') 0 0 (mm_A M0) := by
  refine Met.ofW (cc := b_Pack_hasEndedBy) (maxL := 2) (ret := (some .boolean)) (by decide) rfl ?_
  intro p e s m args below meth c s₁ B hml hv
  obtain ⟨rfl, hW, hK⟩ := hv
  have C : mm_C p s m _ meth c b_Pack_hasEndedBy 2 (some .boolean) R_Pack D dA (mm_A M0) := ⟨B.exec, B.bytes, B.returns, hml, findClass_of_methodNamed B.named, fun w hw => atoms_spec (ws := w_Pack_hasEndedBy) B.pre w (List.mem_cons_of_mem _ hw), B.notSynchronized, hK, fun q hq => Or.inr (by rw [← hW.1]; exact hq)⟩
  have hS : va_S (mm_A M0) s.heap s.heap [] := va_S.rf
  obtain ⟨hx, hb, hr, hml, hown, hts, hlocks, hK, hA⟩ := id C
  have hl := lv_entry ([.ref v0, .int v1]) (n := 2) (Nat.le_of_ble_eq_true rfl)
  rw [lg_entry_eq]
  generalize (lg_sl ([.ref v0, .int v1]) ++ List.replicate (2 - (lg_sl ([.ref v0, .int v1])).length) Slot.unset).toArray = ls at hl ⊢
  have hl : lv_has ls 2 [(0, .ref v0), (1, .int v1)] := hl
  unfold f_Pack_hasEndedBy at h
  refine lv_aload_n hx hb d_Pack_hasEndedBy_0 rfl (lv_at hl 0 rfl) ?_
  obtain ⟨x1, e1, h⟩ := ob h
  refine mr_gI C hW k_Pack_25 e1 d_Pack_hasEndedBy_1 ?_
  refine lv_iconst (v := (-1)) hx hb d_Pack_hasEndedBy_4 (by decide) ?_
  refine lv_icmp_eq (tgt := 20) hx hb d_Pack_hasEndedBy_5 (by decide) (fun c2 => ?_) (fun c2 => ?_)
  · have h := ifp h c2
    refine lv_iconst (v := 0) hx hb d_Pack_hasEndedBy_20 (by decide) ?_
    obtain ⟨_, e3, h⟩ := ob h
    exact mr_zret C hW hS (Nat.le_of_ble_eq_true rfl) (Nat.le_of_ble_eq_true rfl) e3 h d_Pack_hasEndedBy_21
  · have h := ifn h c2
    refine lv_aload_n hx hb d_Pack_hasEndedBy_8 rfl (lv_at hl 0 rfl) ?_
    obtain ⟨x4, e4, h⟩ := ob h
    refine mr_gI C hW k_Pack_25 e4 d_Pack_hasEndedBy_9 ?_
    refine lv_iload_n hx hb d_Pack_hasEndedBy_12 rfl (lv_at hl 1 rfl) ?_
    refine lv_icmp_gt (tgt := 20) hx hb d_Pack_hasEndedBy_13 (by decide) (fun c5 => ?_) (fun c5 => ?_)
    · have h := ifp h c5
      refine lv_iconst (v := 0) hx hb d_Pack_hasEndedBy_20 (by decide) ?_
      obtain ⟨_, e6, h⟩ := ob h
      exact mr_zret C hW hS (Nat.le_of_ble_eq_true rfl) (Nat.le_of_ble_eq_true rfl) e6 h d_Pack_hasEndedBy_21
    · have h := ifn h c5
      refine lv_iconst (v := 1) hx hb d_Pack_hasEndedBy_16 (by decide) ?_
      refine lv_goto (tgt := 21) hx hb d_Pack_hasEndedBy_17 (by decide) ?_
      obtain ⟨_, e7, h⟩ := ob h
      exact mr_zret C hW hS (Nat.le_of_ble_eq_true rfl) (Nat.le_of_ble_eq_true rfl) e7 h d_Pack_hasEndedBy_21
def f_Pack_keepsDay (v0 : Nat) (v1 : Int32) (M : mm) : Option (Int32 × mm) :=
    (gI 4 1 M v0).bind fun x1 =>
    if x1 = 0 then
      (kB 0).bind fun _ =>
      some (0, M)
    else
      (gI 4 5 M v0).bind fun x4 =>
      if x4 ≤ v1 then
        (kB 0).bind fun _ =>
        some (0, M)
      else
        (kB 1).bind fun _ =>
        some (1, M)
set_option maxHeartbeats 4000000 in
set_option maxRecDepth 100000 in
theorem c_Pack_keepsDay (l : Launch) (D : va_G) (dA : Nat → ClassId) (M0 M' : mm) (r : Int32) (v0 : Nat) (v1 : Int32) (h : f_Pack_keepsDay v0 v1 M0 = some (r, M')) : Met l y_Pack_keepsDay w_Pack_keepsDay rm_Pack_keepsDay (mm_Pre D dA M0 [.ref v0, .int v1]) (mm_QI D dA M0 r M') 0 0 (mm_A M0) := by
  refine Met.ofW (cc := b_Pack_keepsDay) (maxL := 2) (ret := (some .boolean)) (by decide) rfl ?_
  intro p e s m args below meth c s₁ B hml hv
  obtain ⟨rfl, hW, hK⟩ := hv
  have C : mm_C p s m _ meth c b_Pack_keepsDay 2 (some .boolean) R_Pack D dA (mm_A M0) := ⟨B.exec, B.bytes, B.returns, hml, findClass_of_methodNamed B.named, fun w hw => atoms_spec (ws := w_Pack_keepsDay) B.pre w (List.mem_cons_of_mem _ hw), B.notSynchronized, hK, fun q hq => Or.inr (by rw [← hW.1]; exact hq)⟩
  have hS : va_S (mm_A M0) s.heap s.heap [] := va_S.rf
  obtain ⟨hx, hb, hr, hml, hown, hts, hlocks, hK, hA⟩ := id C
  have hl := lv_entry ([.ref v0, .int v1]) (n := 2) (Nat.le_of_ble_eq_true rfl)
  rw [lg_entry_eq]
  generalize (lg_sl ([.ref v0, .int v1]) ++ List.replicate (2 - (lg_sl ([.ref v0, .int v1])).length) Slot.unset).toArray = ls at hl ⊢
  have hl : lv_has ls 2 [(0, .ref v0), (1, .int v1)] := hl
  unfold f_Pack_keepsDay at h
  refine lv_aload_n hx hb d_Pack_keepsDay_0 rfl (lv_at hl 0 rfl) ?_
  obtain ⟨x1, e1, h⟩ := ob h
  refine mr_gI C hW k_Pack_31 e1 d_Pack_keepsDay_1 ?_
  refine lv_if_eq (tgt := 19) hx hb d_Pack_keepsDay_4 (by decide) (fun c2 => ?_) (fun c2 => ?_)
  · have h := ifp h c2
    refine lv_iconst (v := 0) hx hb d_Pack_keepsDay_19 (by decide) ?_
    obtain ⟨_, e3, h⟩ := ob h
    exact mr_zret C hW hS (Nat.le_of_ble_eq_true rfl) (Nat.le_of_ble_eq_true rfl) e3 h d_Pack_keepsDay_20
  · have h := ifn h c2
    refine lv_iload_n hx hb d_Pack_keepsDay_7 rfl (lv_at hl 1 rfl) ?_
    refine lv_aload_n hx hb d_Pack_keepsDay_8 rfl (lv_at hl 0 rfl) ?_
    obtain ⟨x4, e4, h⟩ := ob h
    refine mr_gI C hW k_Pack_25 e4 d_Pack_keepsDay_9 ?_
    refine lv_icmp_ge (tgt := 19) hx hb d_Pack_keepsDay_12 (by decide) (fun c5 => ?_) (fun c5 => ?_)
    · have h := ifp h c5
      refine lv_iconst (v := 0) hx hb d_Pack_keepsDay_19 (by decide) ?_
      obtain ⟨_, e6, h⟩ := ob h
      exact mr_zret C hW hS (Nat.le_of_ble_eq_true rfl) (Nat.le_of_ble_eq_true rfl) e6 h d_Pack_keepsDay_20
    · have h := ifn h c5
      refine lv_iconst (v := 1) hx hb d_Pack_keepsDay_15 (by decide) ?_
      refine lv_goto (tgt := 20) hx hb d_Pack_keepsDay_16 (by decide) ?_
      obtain ⟨_, e7, h⟩ := ob h
      exact mr_zret C hW hS (Nat.le_of_ble_eq_true rfl) (Nat.le_of_ble_eq_true rfl) e7 h d_Pack_keepsDay_20
def f_Title_covers_b2 : Nat → Nat → Int32 → Int32 → mm → Option (Int32 × mm)
  | 0, _, _, _, _ => none
  | n + 1, v0, v1, v2, M =>
    (gI 6 6 M v0).bind fun x1 =>
    if x1 ≤ v2 then
      (kB 0).bind fun _ =>
      some (0, M)
    else
      (gR 6 4 M v0).bind fun x4 =>
      (aI M x4 v2).bind fun x5 =>
      if v1 < x5 then
        f_Title_covers_b2 n v0 v1 (v2 + 1) M
      else
        (gR 6 5 M v0).bind fun x7 =>
        (aI M x7 v2).bind fun x8 =>
        if x8 < v1 then
          f_Title_covers_b2 n v0 v1 (v2 + 1) M
        else
          (kB 1).bind fun _ =>
          some (1, M)
def f_Title_covers (v0 : Nat) (v1 : Int32) (M : mm) : Option (Int32 × mm) :=
    f_Title_covers_b2 FU v0 v1 0 M
set_option maxHeartbeats 4000000 in
set_option maxRecDepth 100000 in
theorem w_Title_covers_b2 {p : Program} {l : Launch} {e : Env} {s : State} {m : MethodId} {args : Array Value} {below : List Frame} {meth : Method} {c : Code} {D : va_G} {dA : Nat → ClassId} {M0 M' : mm} {r : Int32} (C : mm_C p s m args meth c b_Title_covers 3 (some .boolean) R_Title D dA (mm_A M0)) : ∀ (n : Nat), ∀ (v0 : Nat) (v1 : Int32) (v2 : Int32) (M : mm) (H : Heap) (locs : List Loc) (ls : Array Slot), f_Title_covers_b2 n v0 v1 v2 M = some (r, M') → mm_W D dA (mm_A M0) M H → va_S (mm_A M0) s.heap H locs → lv_has ls 3 [(0, .ref v0), (1, .int v1), (2, .int v2)] → W p l e rm_Title_covers s m args below meth c H locs 0 0 (MQ below (mm_QI D dA M0 r M') args s 0 0 (mm_A M0)) (F0 m 2 ls []) := by
  obtain ⟨hx, hb, hr, hml, hown, hts, hlocks, hK, hA⟩ := id C
  intro n
  induction n with
  | zero =>
    intro v0 v1 v2 M H locs ls h hW hS hl
    unfold f_Title_covers_b2 at h
    cases h
  | succ n ih =>
    intro v0 v1 v2 M H locs ls h hW hS hl
    unfold f_Title_covers_b2 at h
    refine lv_iload_n hx hb d_Title_covers_2 rfl (lv_at hl 2 rfl) ?_
    refine lv_aload_n hx hb d_Title_covers_3 rfl (lv_at hl 0 rfl) ?_
    obtain ⟨x1, e1, h⟩ := ob h
    refine mr_gI C hW k_Title_26 e1 d_Title_covers_4 ?_
    refine lv_icmp_ge (tgt := 38) hx hb d_Title_covers_7 (by decide) (fun c2 => ?_) (fun c2 => ?_)
    · have h := ifp h c2
      refine lv_iconst (v := 0) hx hb d_Title_covers_38 (by decide) ?_
      obtain ⟨_, e3, h⟩ := ob h
      exact mr_zret C hW hS (Nat.le_of_ble_eq_true rfl) (Nat.le_of_ble_eq_true rfl) e3 h d_Title_covers_39
    · have h := ifn h c2
      refine lv_aload_n hx hb d_Title_covers_10 rfl (lv_at hl 0 rfl) ?_
      obtain ⟨x4, e4, h⟩ := ob h
      refine mr_gR C hW k_Title_19 e4 d_Title_covers_11 ?_
      refine lv_iload_n hx hb d_Title_covers_14 rfl (lv_at hl 2 rfl) ?_
      obtain ⟨x5, e5, h⟩ := ob h
      refine mr_aI C hW e5 d_Title_covers_15 ?_
      refine lv_iload_n hx hb d_Title_covers_16 rfl (lv_at hl 1 rfl) ?_
      refine lv_icmp_gt (tgt := 32) hx hb d_Title_covers_17 (by decide) (fun c6 => ?_) (fun c6 => ?_)
      · have h := ifp h c6
        refine lv_iinc (v := v2 + 1) (lv' := [(2, .int (v2 + 1)), (0, .ref v0), (1, .int v1)]) hx hb d_Title_covers_32 hl (k := 2) rfl rfl (by decide) rfl (fun ls hl => ?_)
        refine lv_goto (tgt := 2) hx hb d_Title_covers_35 (by decide) ?_
        exact ih _ _ _ _ _ _ _ h hW hS (lv_sub hl [1, 2, 0] rfl)
      · have h := ifn h c6
        refine lv_iload_n hx hb d_Title_covers_20 rfl (lv_at hl 1 rfl) ?_
        refine lv_aload_n hx hb d_Title_covers_21 rfl (lv_at hl 0 rfl) ?_
        obtain ⟨x7, e7, h⟩ := ob h
        refine mr_gR C hW k_Title_23 e7 d_Title_covers_22 ?_
        refine lv_iload_n hx hb d_Title_covers_25 rfl (lv_at hl 2 rfl) ?_
        obtain ⟨x8, e8, h⟩ := ob h
        refine mr_aI C hW e8 d_Title_covers_26 ?_
        refine lv_icmp_gt (tgt := 32) hx hb d_Title_covers_27 (by decide) (fun c9 => ?_) (fun c9 => ?_)
        · have h := ifp h c9
          refine lv_iinc (v := v2 + 1) (lv' := [(2, .int (v2 + 1)), (0, .ref v0), (1, .int v1)]) hx hb d_Title_covers_32 hl (k := 2) rfl rfl (by decide) rfl (fun ls hl => ?_)
          refine lv_goto (tgt := 2) hx hb d_Title_covers_35 (by decide) ?_
          exact ih _ _ _ _ _ _ _ h hW hS (lv_sub hl [1, 2, 0] rfl)
        · have h := ifn h c9
          refine lv_iconst (v := 1) hx hb d_Title_covers_30 (by decide) ?_
          obtain ⟨_, e10, h⟩ := ob h
          exact mr_zret C hW hS (Nat.le_of_ble_eq_true rfl) (Nat.le_of_ble_eq_true rfl) e10 h d_Title_covers_31
set_option maxHeartbeats 4000000 in
set_option maxRecDepth 100000 in
theorem c_Title_covers (l : Launch) (D : va_G) (dA : Nat → ClassId) (M0 M' : mm) (r : Int32) (v0 : Nat) (v1 : Int32) (h : f_Title_covers v0 v1 M0 = some (r, M')) : Met l y_Title_covers w_Title_covers rm_Title_covers (mm_Pre D dA M0 [.ref v0, .int v1]) (mm_QI D dA M0 r M') 0 0 (mm_A M0) := by
  refine Met.ofW (cc := b_Title_covers) (maxL := 3) (ret := (some .boolean)) (by decide) rfl ?_
  intro p e s m args below meth c s₁ B hml hv
  obtain ⟨rfl, hW, hK⟩ := hv
  have C : mm_C p s m _ meth c b_Title_covers 3 (some .boolean) R_Title D dA (mm_A M0) := ⟨B.exec, B.bytes, B.returns, hml, findClass_of_methodNamed B.named, fun w hw => atoms_spec (ws := w_Title_covers) B.pre w (List.mem_cons_of_mem _ hw), B.notSynchronized, hK, fun q hq => Or.inr (by rw [← hW.1]; exact hq)⟩
  have hS : va_S (mm_A M0) s.heap s.heap [] := va_S.rf
  obtain ⟨hx, hb, hr, hml, hown, hts, hlocks, hK, hA⟩ := id C
  have hl := lv_entry ([.ref v0, .int v1]) (n := 3) (Nat.le_of_ble_eq_true rfl)
  rw [lg_entry_eq]
  generalize (lg_sl ([.ref v0, .int v1]) ++ List.replicate (3 - (lg_sl ([.ref v0, .int v1])).length) Slot.unset).toArray = ls at hl ⊢
  have hl : lv_has ls 3 [(0, .ref v0), (1, .int v1)] := hl
  unfold f_Title_covers at h
  refine lv_iconst (v := 0) hx hb d_Title_covers_0 (by decide) ?_
  refine lv_istore_n (lv' := [(2, .int 0), (0, .ref v0), (1, .int v1)]) hx hb d_Title_covers_1 rfl hl (by decide) rfl (fun ls hl => ?_)
  exact w_Title_covers_b2 C FU _ _ _ _ _ _ _ h hW hS (lv_sub hl [1, 2, 0] rfl)
def f_Usages_ofReaderIn_b5 : Nat → Nat → Int32 → Int32 → Int32 → Int32 → mm → Option (Int32 × mm)
  | 0, _, _, _, _, _, _ => none
  | n + 1, v0, v1, v2, v3, v4, M =>
    (gI 7 3 M v0).bind fun x1 =>
    if x1 ≤ v4 then
      some (v3, M)
    else
      (gR 7 0 M v0).bind fun x3 =>
      (aI M x3 v4).bind fun x4 =>
      if x4 = v1 then
        (gR 7 2 M v0).bind fun x6 =>
        (aI M x6 v4).bind fun x7 =>
        if x7 = v2 then
          f_Usages_ofReaderIn_b5 n v0 v1 v2 (v3 + 1) (v4 + 1) M
        else
          f_Usages_ofReaderIn_b5 n v0 v1 v2 v3 (v4 + 1) M
      else
        f_Usages_ofReaderIn_b5 n v0 v1 v2 v3 (v4 + 1) M
def f_Usages_ofReaderIn (v0 : Nat) (v1 : Int32) (v2 : Int32) (M : mm) : Option (Int32 × mm) :=
    f_Usages_ofReaderIn_b5 FU v0 v1 v2 0 0 M
set_option maxHeartbeats 4000000 in
set_option maxRecDepth 100000 in
theorem w_Usages_ofReaderIn_b5 {p : Program} {l : Launch} {e : Env} {s : State} {m : MethodId} {args : Array Value} {below : List Frame} {meth : Method} {c : Code} {D : va_G} {dA : Nat → ClassId} {M0 M' : mm} {r : Int32} (C : mm_C p s m args meth c b_Usages_ofReaderIn 5 (some .int) R_Usages D dA (mm_A M0)) : ∀ (n : Nat), ∀ (v0 : Nat) (v1 : Int32) (v2 : Int32) (v3 : Int32) (v4 : Int32) (M : mm) (H : Heap) (locs : List Loc) (ls : Array Slot), f_Usages_ofReaderIn_b5 n v0 v1 v2 v3 v4 M = some (r, M') → mm_W D dA (mm_A M0) M H → va_S (mm_A M0) s.heap H locs → lv_has ls 5 [(0, .ref v0), (1, .int v1), (2, .int v2), (3, .int v3), (4, .int v4)] → W p l e rm_Usages_ofReaderIn s m args below meth c H locs 0 0 (MQ below (mm_QI D dA M0 r M') args s 0 0 (mm_A M0)) (F0 m 5 ls []) := by
  obtain ⟨hx, hb, hr, hml, hown, hts, hlocks, hK, hA⟩ := id C
  intro n
  induction n with
  | zero =>
    intro v0 v1 v2 v3 v4 M H locs ls h hW hS hl
    unfold f_Usages_ofReaderIn_b5 at h
    cases h
  | succ n ih =>
    intro v0 v1 v2 v3 v4 M H locs ls h hW hS hl
    unfold f_Usages_ofReaderIn_b5 at h
    refine lv_iload hx hb d_Usages_ofReaderIn_5 (lv_at hl 4 rfl) ?_
    refine lv_aload_n hx hb d_Usages_ofReaderIn_7 rfl (lv_at hl 0 rfl) ?_
    obtain ⟨x1, e1, h⟩ := ob h
    refine mr_gI C hW k_Usages_21 e1 d_Usages_ofReaderIn_8 ?_
    refine lv_icmp_ge (tgt := 45) hx hb d_Usages_ofReaderIn_11 (by decide) (fun c2 => ?_) (fun c2 => ?_)
    · have h := ifp h c2
      refine lv_iload_n hx hb d_Usages_ofReaderIn_45 rfl (lv_at hl 3 rfl) ?_
      exact mr_iret C hW hS (Nat.le_of_ble_eq_true rfl) (Nat.le_of_ble_eq_true rfl) h d_Usages_ofReaderIn_46
    · have h := ifn h c2
      refine lv_aload_n hx hb d_Usages_ofReaderIn_14 rfl (lv_at hl 0 rfl) ?_
      obtain ⟨x3, e3, h⟩ := ob h
      refine mr_gR C hW k_Usages_9 e3 d_Usages_ofReaderIn_15 ?_
      refine lv_iload hx hb d_Usages_ofReaderIn_18 (lv_at hl 4 rfl) ?_
      obtain ⟨x4, e4, h⟩ := ob h
      refine mr_aI C hW e4 d_Usages_ofReaderIn_20 ?_
      refine lv_iload_n hx hb d_Usages_ofReaderIn_21 rfl (lv_at hl 1 rfl) ?_
      refine lv_icmp_ne (tgt := 39) hx hb d_Usages_ofReaderIn_22 (by decide) (fun c5 => ?_) (fun c5 => ?_)
      · have h := ifn h c5
        refine lv_iinc (v := v4 + 1) (lv' := [(4, .int (v4 + 1)), (0, .ref v0), (1, .int v1), (2, .int v2), (3, .int v3)]) hx hb d_Usages_ofReaderIn_39 hl (k := 4) rfl rfl (by decide) rfl (fun ls hl => ?_)
        refine lv_goto (tgt := 5) hx hb d_Usages_ofReaderIn_42 (by decide) ?_
        exact ih _ _ _ _ _ _ _ _ _ h hW hS (lv_sub hl [1, 2, 3, 4, 0] rfl)
      · have h := ifp h c5
        refine lv_aload_n hx hb d_Usages_ofReaderIn_25 rfl (lv_at hl 0 rfl) ?_
        obtain ⟨x6, e6, h⟩ := ob h
        refine mr_gR C hW k_Usages_18 e6 d_Usages_ofReaderIn_26 ?_
        refine lv_iload hx hb d_Usages_ofReaderIn_29 (lv_at hl 4 rfl) ?_
        obtain ⟨x7, e7, h⟩ := ob h
        refine mr_aI C hW e7 d_Usages_ofReaderIn_31 ?_
        refine lv_iload_n hx hb d_Usages_ofReaderIn_32 rfl (lv_at hl 2 rfl) ?_
        refine lv_icmp_ne (tgt := 39) hx hb d_Usages_ofReaderIn_33 (by decide) (fun c8 => ?_) (fun c8 => ?_)
        · have h := ifn h c8
          refine lv_iinc (v := v4 + 1) (lv' := [(4, .int (v4 + 1)), (0, .ref v0), (1, .int v1), (2, .int v2), (3, .int v3)]) hx hb d_Usages_ofReaderIn_39 hl (k := 4) rfl rfl (by decide) rfl (fun ls hl => ?_)
          refine lv_goto (tgt := 5) hx hb d_Usages_ofReaderIn_42 (by decide) ?_
          exact ih _ _ _ _ _ _ _ _ _ h hW hS (lv_sub hl [1, 2, 3, 4, 0] rfl)
        · have h := ifp h c8
          refine lv_iinc (v := v3 + 1) (lv' := [(3, .int (v3 + 1)), (0, .ref v0), (1, .int v1), (2, .int v2), (4, .int v4)]) hx hb d_Usages_ofReaderIn_36 hl (k := 3) rfl rfl (by decide) rfl (fun ls hl => ?_)
          refine lv_iinc (v := v4 + 1) (lv' := [(4, .int (v4 + 1)), (3, .int (v3 + 1)), (0, .ref v0), (1, .int v1), (2, .int v2)]) hx hb d_Usages_ofReaderIn_39 hl (k := 4) rfl rfl (by decide) rfl (fun ls hl => ?_)
          refine lv_goto (tgt := 5) hx hb d_Usages_ofReaderIn_42 (by decide) ?_
          exact ih _ _ _ _ _ _ _ _ _ h hW hS (lv_sub hl [2, 3, 4, 1, 0] rfl)
set_option maxHeartbeats 4000000 in
set_option maxRecDepth 100000 in
theorem c_Usages_ofReaderIn (l : Launch) (D : va_G) (dA : Nat → ClassId) (M0 M' : mm) (r : Int32) (v0 : Nat) (v1 : Int32) (v2 : Int32) (h : f_Usages_ofReaderIn v0 v1 v2 M0 = some (r, M')) : Met l y_Usages_ofReaderIn w_Usages_ofReaderIn rm_Usages_ofReaderIn (mm_Pre D dA M0 [.ref v0, .int v1, .int v2]) (mm_QI D dA M0 r M') 0 0 (mm_A M0) := by
  refine Met.ofW (cc := b_Usages_ofReaderIn) (maxL := 5) (ret := (some .int)) (by decide) rfl ?_
  intro p e s m args below meth c s₁ B hml hv
  obtain ⟨rfl, hW, hK⟩ := hv
  have C : mm_C p s m _ meth c b_Usages_ofReaderIn 5 (some .int) R_Usages D dA (mm_A M0) := ⟨B.exec, B.bytes, B.returns, hml, findClass_of_methodNamed B.named, fun w hw => atoms_spec (ws := w_Usages_ofReaderIn) B.pre w (List.mem_cons_of_mem _ hw), B.notSynchronized, hK, fun q hq => Or.inr (by rw [← hW.1]; exact hq)⟩
  have hS : va_S (mm_A M0) s.heap s.heap [] := va_S.rf
  obtain ⟨hx, hb, hr, hml, hown, hts, hlocks, hK, hA⟩ := id C
  have hl := lv_entry ([.ref v0, .int v1, .int v2]) (n := 5) (Nat.le_of_ble_eq_true rfl)
  rw [lg_entry_eq]
  generalize (lg_sl ([.ref v0, .int v1, .int v2]) ++ List.replicate (5 - (lg_sl ([.ref v0, .int v1, .int v2])).length) Slot.unset).toArray = ls at hl ⊢
  have hl : lv_has ls 5 [(0, .ref v0), (1, .int v1), (2, .int v2)] := hl
  unfold f_Usages_ofReaderIn at h
  refine lv_iconst (v := 0) hx hb d_Usages_ofReaderIn_0 (by decide) ?_
  refine lv_istore_n (lv' := [(3, .int 0), (0, .ref v0), (1, .int v1), (2, .int v2)]) hx hb d_Usages_ofReaderIn_1 rfl hl (by decide) rfl (fun ls hl => ?_)
  refine lv_iconst (v := 0) hx hb d_Usages_ofReaderIn_2 (by decide) ?_
  refine lv_istore (lv' := [(4, .int 0), (3, .int 0), (0, .ref v0), (1, .int v1), (2, .int v2)]) hx hb d_Usages_ofReaderIn_3 hl (by decide) rfl (fun ls hl => ?_)
  exact w_Usages_ofReaderIn_b5 C FU _ _ _ _ _ _ _ _ _ h hW hS (lv_sub hl [2, 3, 4, 1, 0] rfl)
def f_Notices_append (v0 : Nat) (v1 : Int32) (v2 : Int32) (M : mm) : Option (Unit × mm) :=
    (gI 3 2 M v0).bind fun x1 =>
    if 100 ≤ x1 then
      some ((), M)
    else
      (gR 3 0 M v0).bind fun x3 =>
      (gI 3 2 M v0).bind fun x4 =>
      (sI v1 M x3 x4).bind fun M5 =>
      (gR 3 1 M5 v0).bind fun x6 =>
      (gI 3 2 M5 v0).bind fun x7 =>
      (sI v2 M5 x6 x7).bind fun M8 =>
      (gI 3 2 M8 v0).bind fun x9 =>
      (pF 3 2 (.int (x9 + 1)) M8 v0).bind fun M10 =>
      some ((), M10)
set_option maxHeartbeats 4000000 in
set_option maxRecDepth 100000 in
theorem c_Notices_append (l : Launch) (D : va_G) (dA : Nat → ClassId) (M0 M' : mm) (r : Unit) (v0 : Nat) (v1 : Int32) (v2 : Int32) (h : f_Notices_append v0 v1 v2 M0 = some (r, M')) : Met l y_Notices_append w_Notices_append rm_Notices_append (mm_Pre D dA M0 [.ref v0, .int v1, .int v2]) (mm_QV D dA M0 r M') 0 0 (mm_A M0) := by
  refine Met.ofW (cc := b_Notices_append) (maxL := 3) (ret := none) (by decide) rfl ?_
  intro p e s m args below meth c s₁ B hml hv
  obtain ⟨rfl, hW, hK⟩ := hv
  have C : mm_C p s m _ meth c b_Notices_append 3 none R_Notices D dA (mm_A M0) := ⟨B.exec, B.bytes, B.returns, hml, findClass_of_methodNamed B.named, fun w hw => atoms_spec (ws := w_Notices_append) B.pre w (List.mem_cons_of_mem _ hw), B.notSynchronized, hK, fun q hq => Or.inr (by rw [← hW.1]; exact hq)⟩
  have hS : va_S (mm_A M0) s.heap s.heap [] := va_S.rf
  obtain ⟨hx, hb, hr, hml, hown, hts, hlocks, hK, hA⟩ := id C
  have hl := lv_entry ([.ref v0, .int v1, .int v2]) (n := 3) (Nat.le_of_ble_eq_true rfl)
  rw [lg_entry_eq]
  generalize (lg_sl ([.ref v0, .int v1, .int v2]) ++ List.replicate (3 - (lg_sl ([.ref v0, .int v1, .int v2])).length) Slot.unset).toArray = ls at hl ⊢
  have hl : lv_has ls 3 [(0, .ref v0), (1, .int v1), (2, .int v2)] := hl
  unfold f_Notices_append at h
  refine lv_aload_n hx hb d_Notices_append_0 rfl (lv_at hl 0 rfl) ?_
  obtain ⟨x1, e1, h⟩ := ob h
  refine mr_gI C hW k_Notices_18 e1 d_Notices_append_1 ?_
  refine lv_bipush (v := 100) hx hb d_Notices_append_4 (by decide) ?_
  refine lv_icmp_ge (tgt := 39) hx hb d_Notices_append_6 (by decide) (fun c2 => ?_) (fun c2 => ?_)
  · have h := ifp h c2
    exact mr_vret C hW hS (Nat.le_of_ble_eq_true rfl) (Nat.le_of_ble_eq_true rfl) h d_Notices_append_39
  · have h := ifn h c2
    refine lv_aload_n hx hb d_Notices_append_9 rfl (lv_at hl 0 rfl) ?_
    obtain ⟨x3, e3, h⟩ := ob h
    refine mr_gR C hW k_Notices_9 e3 d_Notices_append_10 ?_
    refine lv_aload_n hx hb d_Notices_append_13 rfl (lv_at hl 0 rfl) ?_
    obtain ⟨x4, e4, h⟩ := ob h
    refine mr_gI C hW k_Notices_18 e4 d_Notices_append_14 ?_
    refine lv_iload_n hx hb d_Notices_append_17 rfl (lv_at hl 1 rfl) ?_
    obtain ⟨M5, e5, h⟩ := ob h
    refine mr_sI C hW hS e5 d_Notices_append_18 (fun H locs hW hS => ?_)
    refine lv_aload_n hx hb d_Notices_append_19 rfl (lv_at hl 0 rfl) ?_
    obtain ⟨x6, e6, h⟩ := ob h
    refine mr_gR C hW k_Notices_15 e6 d_Notices_append_20 ?_
    refine lv_aload_n hx hb d_Notices_append_23 rfl (lv_at hl 0 rfl) ?_
    obtain ⟨x7, e7, h⟩ := ob h
    refine mr_gI C hW k_Notices_18 e7 d_Notices_append_24 ?_
    refine lv_iload_n hx hb d_Notices_append_27 rfl (lv_at hl 2 rfl) ?_
    obtain ⟨M8, e8, h⟩ := ob h
    refine mr_sI C hW hS e8 d_Notices_append_28 (fun H locs hW hS => ?_)
    refine lv_aload_n hx hb d_Notices_append_29 rfl (lv_at hl 0 rfl) ?_
    refine lv_dup hx hb d_Notices_append_30 rfl ?_
    obtain ⟨x9, e9, h⟩ := ob h
    refine mr_gI C hW k_Notices_18 e9 d_Notices_append_31 ?_
    refine lv_iconst (v := 1) hx hb d_Notices_append_34 (by decide) ?_
    refine lv_iadd hx hb d_Notices_append_35 ?_
    obtain ⟨M10, e10, h⟩ := ob h
    refine mr_put C hW hS kp_Notices_18 rfl rfl e10 d_Notices_append_36 (fun H locs hW hS => ?_)
    exact mr_vret C hW hS (Nat.le_of_ble_eq_true rfl) (Nat.le_of_ble_eq_true rfl) h d_Notices_append_39
def f_Rule_fits (v0 : Nat) (v1 : Int32) (v2 : Int32) (v3 : Int32) (v4 : Int32) (M : mm) : Option (Int32 × mm) :=
    (gI 5 1 M v0).bind fun x1 =>
    if x1 = 0 then
      (gI 5 3 M v0).bind fun x3 =>
      if v1 = x3 then
        (kB 1).bind fun _ =>
        some (1, M)
      else
        (kB 0).bind fun _ =>
        some (0, M)
    else
    if x1 = 1 then
      (gI 5 3 M v0).bind fun x8 =>
      if x8 ≤ v2 then
        (kB 0).bind fun _ =>
        some (0, M)
      else
        (kB 1).bind fun _ =>
        some (1, M)
    else
    if x1 = 2 then
      (gI 5 3 M v0).bind fun x13 =>
      if ((x13 >>> ((v3 - v3 / 7 * 7) &&& 31)) &&& 1) = 1 then
        (kB 1).bind fun _ =>
        some (1, M)
      else
        (kB 0).bind fun _ =>
        some (0, M)
    else
    if x1 = 3 then
      (gI 5 3 M v0).bind fun x18 =>
      if v4 < x18 then
        (kB 0).bind fun _ =>
        some (0, M)
      else
        (kB 1).bind fun _ =>
        some (1, M)
    else
    (kB 0).bind fun _ =>
    some (0, M)
set_option maxHeartbeats 4000000 in
set_option maxRecDepth 100000 in
theorem c_Rule_fits (l : Launch) (D : va_G) (dA : Nat → ClassId) (M0 M' : mm) (r : Int32) (v0 : Nat) (v1 : Int32) (v2 : Int32) (v3 : Int32) (v4 : Int32) (h : f_Rule_fits v0 v1 v2 v3 v4 M0 = some (r, M')) : Met l y_Rule_fits w_Rule_fits rm_Rule_fits (mm_Pre D dA M0 [.ref v0, .int v1, .int v2, .int v3, .int v4]) (mm_QI D dA M0 r M') 0 0 (mm_A M0) := by
  refine Met.ofW (cc := b_Rule_fits) (maxL := 5) (ret := (some .boolean)) (by decide) rfl ?_
  intro p e s m args below meth c s₁ B hml hv
  obtain ⟨rfl, hW, hK⟩ := hv
  have C : mm_C p s m _ meth c b_Rule_fits 5 (some .boolean) R_Rule D dA (mm_A M0) := ⟨B.exec, B.bytes, B.returns, hml, findClass_of_methodNamed B.named, fun w hw => atoms_spec (ws := w_Rule_fits) B.pre w (List.mem_cons_of_mem _ hw), B.notSynchronized, hK, fun q hq => Or.inr (by rw [← hW.1]; exact hq)⟩
  have hS : va_S (mm_A M0) s.heap s.heap [] := va_S.rf
  obtain ⟨hx, hb, hr, hml, hown, hts, hlocks, hK, hA⟩ := id C
  have hl := lv_entry ([.ref v0, .int v1, .int v2, .int v3, .int v4]) (n := 5) (Nat.le_of_ble_eq_true rfl)
  rw [lg_entry_eq]
  generalize (lg_sl ([.ref v0, .int v1, .int v2, .int v3, .int v4]) ++ List.replicate (5 - (lg_sl ([.ref v0, .int v1, .int v2, .int v3, .int v4])).length) Slot.unset).toArray = ls at hl ⊢
  have hl : lv_has ls 5 [(0, .ref v0), (1, .int v1), (2, .int v2), (3, .int v3), (4, .int v4)] := hl
  unfold f_Rule_fits at h
  refine lv_aload_n hx hb d_Rule_fits_0 rfl (lv_at hl 0 rfl) ?_
  obtain ⟨x1, e1, h⟩ := ob h
  refine mr_gI C hW k_Rule_19 e1 d_Rule_fits_1 ?_
  by_cases c2 : x1 = 0
  · have h := ifp h c2
    refine lv_tableIn (tgt := 36) hx hb d_Rule_fits_4 (by rw [c2]; decide) (by rw [c2]; decide) (by rw [c2]; rfl) (by decide) ?_
    refine lv_iload_n hx hb d_Rule_fits_36 rfl (lv_at hl 1 rfl) ?_
    refine lv_aload_n hx hb d_Rule_fits_37 rfl (lv_at hl 0 rfl) ?_
    obtain ⟨x3, e3, h⟩ := ob h
    refine mr_gI C hW k_Rule_25 e3 d_Rule_fits_38 ?_
    refine lv_icmp_ne (tgt := 48) hx hb d_Rule_fits_41 (by decide) (fun c4 => ?_) (fun c4 => ?_)
    · have h := ifn h c4
      refine lv_iconst (v := 0) hx hb d_Rule_fits_48 (by decide) ?_
      obtain ⟨_, e5, h⟩ := ob h
      exact mr_zret C hW hS (Nat.le_of_ble_eq_true rfl) (Nat.le_of_ble_eq_true rfl) e5 h d_Rule_fits_49
    · have h := ifp h c4
      refine lv_iconst (v := 1) hx hb d_Rule_fits_44 (by decide) ?_
      refine lv_goto (tgt := 49) hx hb d_Rule_fits_45 (by decide) ?_
      obtain ⟨_, e6, h⟩ := ob h
      exact mr_zret C hW hS (Nat.le_of_ble_eq_true rfl) (Nat.le_of_ble_eq_true rfl) e6 h d_Rule_fits_49
  have h := ifn h c2
  by_cases c7 : x1 = 1
  · have h := ifp h c7
    refine lv_tableIn (tgt := 50) hx hb d_Rule_fits_4 (by rw [c7]; decide) (by rw [c7]; decide) (by rw [c7]; rfl) (by decide) ?_
    refine lv_iload_n hx hb d_Rule_fits_50 rfl (lv_at hl 2 rfl) ?_
    refine lv_aload_n hx hb d_Rule_fits_51 rfl (lv_at hl 0 rfl) ?_
    obtain ⟨x8, e8, h⟩ := ob h
    refine mr_gI C hW k_Rule_25 e8 d_Rule_fits_52 ?_
    refine lv_icmp_ge (tgt := 62) hx hb d_Rule_fits_55 (by decide) (fun c9 => ?_) (fun c9 => ?_)
    · have h := ifp h c9
      refine lv_iconst (v := 0) hx hb d_Rule_fits_62 (by decide) ?_
      obtain ⟨_, e10, h⟩ := ob h
      exact mr_zret C hW hS (Nat.le_of_ble_eq_true rfl) (Nat.le_of_ble_eq_true rfl) e10 h d_Rule_fits_63
    · have h := ifn h c9
      refine lv_iconst (v := 1) hx hb d_Rule_fits_58 (by decide) ?_
      refine lv_goto (tgt := 63) hx hb d_Rule_fits_59 (by decide) ?_
      obtain ⟨_, e11, h⟩ := ob h
      exact mr_zret C hW hS (Nat.le_of_ble_eq_true rfl) (Nat.le_of_ble_eq_true rfl) e11 h d_Rule_fits_63
  have h := ifn h c7
  by_cases c12 : x1 = 2
  · have h := ifp h c12
    refine lv_tableIn (tgt := 64) hx hb d_Rule_fits_4 (by rw [c12]; decide) (by rw [c12]; decide) (by rw [c12]; rfl) (by decide) ?_
    refine lv_aload_n hx hb d_Rule_fits_64 rfl (lv_at hl 0 rfl) ?_
    obtain ⟨x13, e13, h⟩ := ob h
    refine mr_gI C hW k_Rule_25 e13 d_Rule_fits_65 ?_
    refine lv_iload_n hx hb d_Rule_fits_68 rfl (lv_at hl 3 rfl) ?_
    refine lv_bipush (v := 7) hx hb d_Rule_fits_69 (by decide) ?_
    refine lv_irem hx hb d_Rule_fits_71 (by decide) ?_
    refine lv_ishr hx hb d_Rule_fits_72 ?_
    refine lv_iconst (v := 1) hx hb d_Rule_fits_73 (by decide) ?_
    refine lv_iand hx hb d_Rule_fits_74 ?_
    refine lv_iconst (v := 1) hx hb d_Rule_fits_75 (by decide) ?_
    refine lv_icmp_ne (tgt := 83) hx hb d_Rule_fits_76 (by decide) (fun c14 => ?_) (fun c14 => ?_)
    · have h := ifn h c14
      refine lv_iconst (v := 0) hx hb d_Rule_fits_83 (by decide) ?_
      obtain ⟨_, e15, h⟩ := ob h
      exact mr_zret C hW hS (Nat.le_of_ble_eq_true rfl) (Nat.le_of_ble_eq_true rfl) e15 h d_Rule_fits_84
    · have h := ifp h c14
      refine lv_iconst (v := 1) hx hb d_Rule_fits_79 (by decide) ?_
      refine lv_goto (tgt := 84) hx hb d_Rule_fits_80 (by decide) ?_
      obtain ⟨_, e16, h⟩ := ob h
      exact mr_zret C hW hS (Nat.le_of_ble_eq_true rfl) (Nat.le_of_ble_eq_true rfl) e16 h d_Rule_fits_84
  have h := ifn h c12
  by_cases c17 : x1 = 3
  · have h := ifp h c17
    refine lv_tableIn (tgt := 85) hx hb d_Rule_fits_4 (by rw [c17]; decide) (by rw [c17]; decide) (by rw [c17]; rfl) (by decide) ?_
    refine lv_iload hx hb d_Rule_fits_85 (lv_at hl 4 rfl) ?_
    refine lv_aload_n hx hb d_Rule_fits_87 rfl (lv_at hl 0 rfl) ?_
    obtain ⟨x18, e18, h⟩ := ob h
    refine mr_gI C hW k_Rule_25 e18 d_Rule_fits_88 ?_
    refine lv_icmp_lt (tgt := 98) hx hb d_Rule_fits_91 (by decide) (fun c19 => ?_) (fun c19 => ?_)
    · have h := ifp h c19
      refine lv_iconst (v := 0) hx hb d_Rule_fits_98 (by decide) ?_
      obtain ⟨_, e20, h⟩ := ob h
      exact mr_zret C hW hS (Nat.le_of_ble_eq_true rfl) (Nat.le_of_ble_eq_true rfl) e20 h d_Rule_fits_99
    · have h := ifn h c19
      refine lv_iconst (v := 1) hx hb d_Rule_fits_94 (by decide) ?_
      refine lv_goto (tgt := 99) hx hb d_Rule_fits_95 (by decide) ?_
      obtain ⟨_, e21, h⟩ := ob h
      exact mr_zret C hW hS (Nat.le_of_ble_eq_true rfl) (Nat.le_of_ble_eq_true rfl) e21 h d_Rule_fits_99
  have h := ifn h c17
  refine lv_tableOut (tgt := 100) hx hb d_Rule_fits_4 (by
    have t2 := lv_neT c2 (show (0 : Int32).toInt = 0 by decide)
    have t7 := lv_neT c7 (show (1 : Int32).toInt = 1 by decide)
    have t12 := lv_neT c12 (show (2 : Int32).toInt = 2 by decide)
    have t17 := lv_neT c17 (show (3 : Int32).toInt = 3 by decide)
    omega) (by decide) ?_
  refine lv_iconst (v := 0) hx hb d_Rule_fits_100 (by decide) ?_
  obtain ⟨_, e22, h⟩ := ob h
  exact mr_zret C hW hS (Nat.le_of_ble_eq_true rfl) (Nat.le_of_ble_eq_true rfl) e22 h d_Rule_fits_101
def f_Usages_append (v0 : Nat) (v1 : Int32) (v2 : Int32) (v3 : Int32) (M : mm) : Option (Unit × mm) :=
    (gI 7 3 M v0).bind fun x1 =>
    if 512 ≤ x1 then
      some ((), M)
    else
      (gR 7 0 M v0).bind fun x3 =>
      (gI 7 3 M v0).bind fun x4 =>
      (sI v1 M x3 x4).bind fun M5 =>
      (gR 7 1 M5 v0).bind fun x6 =>
      (gI 7 3 M5 v0).bind fun x7 =>
      (sI v2 M5 x6 x7).bind fun M8 =>
      (gR 7 2 M8 v0).bind fun x9 =>
      (gI 7 3 M8 v0).bind fun x10 =>
      (sI v3 M8 x9 x10).bind fun M11 =>
      (gI 7 3 M11 v0).bind fun x12 =>
      (pF 7 3 (.int (x12 + 1)) M11 v0).bind fun M13 =>
      some ((), M13)
set_option maxHeartbeats 4000000 in
set_option maxRecDepth 100000 in
theorem c_Usages_append (l : Launch) (D : va_G) (dA : Nat → ClassId) (M0 M' : mm) (r : Unit) (v0 : Nat) (v1 : Int32) (v2 : Int32) (v3 : Int32) (h : f_Usages_append v0 v1 v2 v3 M0 = some (r, M')) : Met l y_Usages_append w_Usages_append rm_Usages_append (mm_Pre D dA M0 [.ref v0, .int v1, .int v2, .int v3]) (mm_QV D dA M0 r M') 0 0 (mm_A M0) := by
  refine Met.ofW (cc := b_Usages_append) (maxL := 4) (ret := none) (by decide) rfl ?_
  intro p e s m args below meth c s₁ B hml hv
  obtain ⟨rfl, hW, hK⟩ := hv
  have C : mm_C p s m _ meth c b_Usages_append 4 none R_Usages D dA (mm_A M0) := ⟨B.exec, B.bytes, B.returns, hml, findClass_of_methodNamed B.named, fun w hw => atoms_spec (ws := w_Usages_append) B.pre w (List.mem_cons_of_mem _ hw), B.notSynchronized, hK, fun q hq => Or.inr (by rw [← hW.1]; exact hq)⟩
  have hS : va_S (mm_A M0) s.heap s.heap [] := va_S.rf
  obtain ⟨hx, hb, hr, hml, hown, hts, hlocks, hK, hA⟩ := id C
  have hl := lv_entry ([.ref v0, .int v1, .int v2, .int v3]) (n := 4) (Nat.le_of_ble_eq_true rfl)
  rw [lg_entry_eq]
  generalize (lg_sl ([.ref v0, .int v1, .int v2, .int v3]) ++ List.replicate (4 - (lg_sl ([.ref v0, .int v1, .int v2, .int v3])).length) Slot.unset).toArray = ls at hl ⊢
  have hl : lv_has ls 4 [(0, .ref v0), (1, .int v1), (2, .int v2), (3, .int v3)] := hl
  unfold f_Usages_append at h
  refine lv_aload_n hx hb d_Usages_append_0 rfl (lv_at hl 0 rfl) ?_
  obtain ⟨x1, e1, h⟩ := ob h
  refine mr_gI C hW k_Usages_21 e1 d_Usages_append_1 ?_
  refine lv_sipush (v := 512) hx hb d_Usages_append_4 (by decide) ?_
  refine lv_icmp_ge (tgt := 50) hx hb d_Usages_append_7 (by decide) (fun c2 => ?_) (fun c2 => ?_)
  · have h := ifp h c2
    exact mr_vret C hW hS (Nat.le_of_ble_eq_true rfl) (Nat.le_of_ble_eq_true rfl) h d_Usages_append_50
  · have h := ifn h c2
    refine lv_aload_n hx hb d_Usages_append_10 rfl (lv_at hl 0 rfl) ?_
    obtain ⟨x3, e3, h⟩ := ob h
    refine mr_gR C hW k_Usages_9 e3 d_Usages_append_11 ?_
    refine lv_aload_n hx hb d_Usages_append_14 rfl (lv_at hl 0 rfl) ?_
    obtain ⟨x4, e4, h⟩ := ob h
    refine mr_gI C hW k_Usages_21 e4 d_Usages_append_15 ?_
    refine lv_iload_n hx hb d_Usages_append_18 rfl (lv_at hl 1 rfl) ?_
    obtain ⟨M5, e5, h⟩ := ob h
    refine mr_sI C hW hS e5 d_Usages_append_19 (fun H locs hW hS => ?_)
    refine lv_aload_n hx hb d_Usages_append_20 rfl (lv_at hl 0 rfl) ?_
    obtain ⟨x6, e6, h⟩ := ob h
    refine mr_gR C hW k_Usages_15 e6 d_Usages_append_21 ?_
    refine lv_aload_n hx hb d_Usages_append_24 rfl (lv_at hl 0 rfl) ?_
    obtain ⟨x7, e7, h⟩ := ob h
    refine mr_gI C hW k_Usages_21 e7 d_Usages_append_25 ?_
    refine lv_iload_n hx hb d_Usages_append_28 rfl (lv_at hl 2 rfl) ?_
    obtain ⟨M8, e8, h⟩ := ob h
    refine mr_sI C hW hS e8 d_Usages_append_29 (fun H locs hW hS => ?_)
    refine lv_aload_n hx hb d_Usages_append_30 rfl (lv_at hl 0 rfl) ?_
    obtain ⟨x9, e9, h⟩ := ob h
    refine mr_gR C hW k_Usages_18 e9 d_Usages_append_31 ?_
    refine lv_aload_n hx hb d_Usages_append_34 rfl (lv_at hl 0 rfl) ?_
    obtain ⟨x10, e10, h⟩ := ob h
    refine mr_gI C hW k_Usages_21 e10 d_Usages_append_35 ?_
    refine lv_iload_n hx hb d_Usages_append_38 rfl (lv_at hl 3 rfl) ?_
    obtain ⟨M11, e11, h⟩ := ob h
    refine mr_sI C hW hS e11 d_Usages_append_39 (fun H locs hW hS => ?_)
    refine lv_aload_n hx hb d_Usages_append_40 rfl (lv_at hl 0 rfl) ?_
    refine lv_dup hx hb d_Usages_append_41 rfl ?_
    obtain ⟨x12, e12, h⟩ := ob h
    refine mr_gI C hW k_Usages_21 e12 d_Usages_append_42 ?_
    refine lv_iconst (v := 1) hx hb d_Usages_append_45 (by decide) ?_
    refine lv_iadd hx hb d_Usages_append_46 ?_
    obtain ⟨M13, e13, h⟩ := ob h
    refine mr_put C hW hS kp_Usages_21 rfl rfl e13 d_Usages_append_47 (fun H locs hW hS => ?_)
    exact mr_vret C hW hS (Nat.le_of_ble_eq_true rfl) (Nat.le_of_ble_eq_true rfl) h d_Usages_append_50
def f_Title_lastDay (v0 : Nat) (M : mm) : Option (Int32 × mm) :=
    (gI 6 6 M v0).bind fun x1 =>
    if x1 = 0 then
      some ((-1), M)
    else
      (gR 6 5 M v0).bind fun x3 =>
      (gI 6 6 M v0).bind fun x4 =>
      (aI M x3 (x4 - 1)).bind fun x5 =>
      some (x5, M)
set_option maxHeartbeats 4000000 in
set_option maxRecDepth 100000 in
theorem c_Title_lastDay (l : Launch) (D : va_G) (dA : Nat → ClassId) (M0 M' : mm) (r : Int32) (v0 : Nat) (h : f_Title_lastDay v0 M0 = some (r, M')) : Met l y_Title_lastDay w_Title_lastDay rm_Title_lastDay (mm_Pre D dA M0 [.ref v0]) (mm_QI D dA M0 r M') 0 0 (mm_A M0) := by
  refine Met.ofW (cc := b_Title_lastDay) (maxL := 1) (ret := (some .int)) (by decide) rfl ?_
  intro p e s m args below meth c s₁ B hml hv
  obtain ⟨rfl, hW, hK⟩ := hv
  have C : mm_C p s m _ meth c b_Title_lastDay 1 (some .int) R_Title D dA (mm_A M0) := ⟨B.exec, B.bytes, B.returns, hml, findClass_of_methodNamed B.named, fun w hw => atoms_spec (ws := w_Title_lastDay) B.pre w (List.mem_cons_of_mem _ hw), B.notSynchronized, hK, fun q hq => Or.inr (by rw [← hW.1]; exact hq)⟩
  have hS : va_S (mm_A M0) s.heap s.heap [] := va_S.rf
  obtain ⟨hx, hb, hr, hml, hown, hts, hlocks, hK, hA⟩ := id C
  have hl := lv_entry ([.ref v0]) (n := 1) (Nat.le_of_ble_eq_true rfl)
  rw [lg_entry_eq]
  generalize (lg_sl ([.ref v0]) ++ List.replicate (1 - (lg_sl ([.ref v0])).length) Slot.unset).toArray = ls at hl ⊢
  have hl : lv_has ls 1 [(0, .ref v0)] := hl
  unfold f_Title_lastDay at h
  refine lv_aload_n hx hb d_Title_lastDay_0 rfl (lv_at hl 0 rfl) ?_
  obtain ⟨x1, e1, h⟩ := ob h
  refine mr_gI C hW k_Title_26 e1 d_Title_lastDay_1 ?_
  refine lv_if_ne (tgt := 11) hx hb d_Title_lastDay_4 (by decide) (fun c2 => ?_) (fun c2 => ?_)
  · have h := ifn h c2
    refine lv_aload_n hx hb d_Title_lastDay_11 rfl (lv_at hl 0 rfl) ?_
    obtain ⟨x3, e3, h⟩ := ob h
    refine mr_gR C hW k_Title_23 e3 d_Title_lastDay_12 ?_
    refine lv_aload_n hx hb d_Title_lastDay_15 rfl (lv_at hl 0 rfl) ?_
    obtain ⟨x4, e4, h⟩ := ob h
    refine mr_gI C hW k_Title_26 e4 d_Title_lastDay_16 ?_
    refine lv_iconst (v := 1) hx hb d_Title_lastDay_19 (by decide) ?_
    refine lv_isub hx hb d_Title_lastDay_20 ?_
    obtain ⟨x5, e5, h⟩ := ob h
    refine mr_aI C hW e5 d_Title_lastDay_21 ?_
    exact mr_iret C hW hS (Nat.le_of_ble_eq_true rfl) (Nat.le_of_ble_eq_true rfl) h d_Title_lastDay_22
  · have h := ifp h c2
    refine lv_iconst (v := (-1)) hx hb d_Title_lastDay_7 (by decide) ?_
    refine lv_goto (tgt := 22) hx hb d_Title_lastDay_8 (by decide) ?_
    exact mr_iret C hW hS (Nat.le_of_ble_eq_true rfl) (Nat.le_of_ble_eq_true rfl) h d_Title_lastDay_22
def f_Usages_ofTitle_b4 : Nat → Nat → Int32 → Int32 → Int32 → mm → Option (Int32 × mm)
  | 0, _, _, _, _, _ => none
  | n + 1, v0, v1, v2, v3, M =>
    (gI 7 3 M v0).bind fun x1 =>
    if x1 ≤ v3 then
      some (v2, M)
    else
      (gR 7 1 M v0).bind fun x3 =>
      (aI M x3 v3).bind fun x4 =>
      if x4 = v1 then
        f_Usages_ofTitle_b4 n v0 v1 (v2 + 1) (v3 + 1) M
      else
        f_Usages_ofTitle_b4 n v0 v1 v2 (v3 + 1) M
def f_Usages_ofTitle (v0 : Nat) (v1 : Int32) (M : mm) : Option (Int32 × mm) :=
    f_Usages_ofTitle_b4 FU v0 v1 0 0 M
set_option maxHeartbeats 4000000 in
set_option maxRecDepth 100000 in
theorem w_Usages_ofTitle_b4 {p : Program} {l : Launch} {e : Env} {s : State} {m : MethodId} {args : Array Value} {below : List Frame} {meth : Method} {c : Code} {D : va_G} {dA : Nat → ClassId} {M0 M' : mm} {r : Int32} (C : mm_C p s m args meth c b_Usages_ofTitle 4 (some .int) R_Usages D dA (mm_A M0)) : ∀ (n : Nat), ∀ (v0 : Nat) (v1 : Int32) (v2 : Int32) (v3 : Int32) (M : mm) (H : Heap) (locs : List Loc) (ls : Array Slot), f_Usages_ofTitle_b4 n v0 v1 v2 v3 M = some (r, M') → mm_W D dA (mm_A M0) M H → va_S (mm_A M0) s.heap H locs → lv_has ls 4 [(0, .ref v0), (1, .int v1), (2, .int v2), (3, .int v3)] → W p l e rm_Usages_ofTitle s m args below meth c H locs 0 0 (MQ below (mm_QI D dA M0 r M') args s 0 0 (mm_A M0)) (F0 m 4 ls []) := by
  obtain ⟨hx, hb, hr, hml, hown, hts, hlocks, hK, hA⟩ := id C
  intro n
  induction n with
  | zero =>
    intro v0 v1 v2 v3 M H locs ls h hW hS hl
    unfold f_Usages_ofTitle_b4 at h
    cases h
  | succ n ih =>
    intro v0 v1 v2 v3 M H locs ls h hW hS hl
    unfold f_Usages_ofTitle_b4 at h
    refine lv_iload_n hx hb d_Usages_ofTitle_4 rfl (lv_at hl 3 rfl) ?_
    refine lv_aload_n hx hb d_Usages_ofTitle_5 rfl (lv_at hl 0 rfl) ?_
    obtain ⟨x1, e1, h⟩ := ob h
    refine mr_gI C hW k_Usages_21 e1 d_Usages_ofTitle_6 ?_
    refine lv_icmp_ge (tgt := 31) hx hb d_Usages_ofTitle_9 (by decide) (fun c2 => ?_) (fun c2 => ?_)
    · have h := ifp h c2
      refine lv_iload_n hx hb d_Usages_ofTitle_31 rfl (lv_at hl 2 rfl) ?_
      exact mr_iret C hW hS (Nat.le_of_ble_eq_true rfl) (Nat.le_of_ble_eq_true rfl) h d_Usages_ofTitle_32
    · have h := ifn h c2
      refine lv_aload_n hx hb d_Usages_ofTitle_12 rfl (lv_at hl 0 rfl) ?_
      obtain ⟨x3, e3, h⟩ := ob h
      refine mr_gR C hW k_Usages_15 e3 d_Usages_ofTitle_13 ?_
      refine lv_iload_n hx hb d_Usages_ofTitle_16 rfl (lv_at hl 3 rfl) ?_
      obtain ⟨x4, e4, h⟩ := ob h
      refine mr_aI C hW e4 d_Usages_ofTitle_17 ?_
      refine lv_iload_n hx hb d_Usages_ofTitle_18 rfl (lv_at hl 1 rfl) ?_
      refine lv_icmp_ne (tgt := 25) hx hb d_Usages_ofTitle_19 (by decide) (fun c5 => ?_) (fun c5 => ?_)
      · have h := ifn h c5
        refine lv_iinc (v := v3 + 1) (lv' := [(3, .int (v3 + 1)), (0, .ref v0), (1, .int v1), (2, .int v2)]) hx hb d_Usages_ofTitle_25 hl (k := 3) rfl rfl (by decide) rfl (fun ls hl => ?_)
        refine lv_goto (tgt := 4) hx hb d_Usages_ofTitle_28 (by decide) ?_
        exact ih _ _ _ _ _ _ _ _ h hW hS (lv_sub hl [1, 2, 3, 0] rfl)
      · have h := ifp h c5
        refine lv_iinc (v := v2 + 1) (lv' := [(2, .int (v2 + 1)), (0, .ref v0), (1, .int v1), (3, .int v3)]) hx hb d_Usages_ofTitle_22 hl (k := 2) rfl rfl (by decide) rfl (fun ls hl => ?_)
        refine lv_iinc (v := v3 + 1) (lv' := [(3, .int (v3 + 1)), (2, .int (v2 + 1)), (0, .ref v0), (1, .int v1)]) hx hb d_Usages_ofTitle_25 hl (k := 3) rfl rfl (by decide) rfl (fun ls hl => ?_)
        refine lv_goto (tgt := 4) hx hb d_Usages_ofTitle_28 (by decide) ?_
        exact ih _ _ _ _ _ _ _ _ h hW hS (lv_sub hl [2, 3, 1, 0] rfl)
set_option maxHeartbeats 4000000 in
set_option maxRecDepth 100000 in
theorem c_Usages_ofTitle (l : Launch) (D : va_G) (dA : Nat → ClassId) (M0 M' : mm) (r : Int32) (v0 : Nat) (v1 : Int32) (h : f_Usages_ofTitle v0 v1 M0 = some (r, M')) : Met l y_Usages_ofTitle w_Usages_ofTitle rm_Usages_ofTitle (mm_Pre D dA M0 [.ref v0, .int v1]) (mm_QI D dA M0 r M') 0 0 (mm_A M0) := by
  refine Met.ofW (cc := b_Usages_ofTitle) (maxL := 4) (ret := (some .int)) (by decide) rfl ?_
  intro p e s m args below meth c s₁ B hml hv
  obtain ⟨rfl, hW, hK⟩ := hv
  have C : mm_C p s m _ meth c b_Usages_ofTitle 4 (some .int) R_Usages D dA (mm_A M0) := ⟨B.exec, B.bytes, B.returns, hml, findClass_of_methodNamed B.named, fun w hw => atoms_spec (ws := w_Usages_ofTitle) B.pre w (List.mem_cons_of_mem _ hw), B.notSynchronized, hK, fun q hq => Or.inr (by rw [← hW.1]; exact hq)⟩
  have hS : va_S (mm_A M0) s.heap s.heap [] := va_S.rf
  obtain ⟨hx, hb, hr, hml, hown, hts, hlocks, hK, hA⟩ := id C
  have hl := lv_entry ([.ref v0, .int v1]) (n := 4) (Nat.le_of_ble_eq_true rfl)
  rw [lg_entry_eq]
  generalize (lg_sl ([.ref v0, .int v1]) ++ List.replicate (4 - (lg_sl ([.ref v0, .int v1])).length) Slot.unset).toArray = ls at hl ⊢
  have hl : lv_has ls 4 [(0, .ref v0), (1, .int v1)] := hl
  unfold f_Usages_ofTitle at h
  refine lv_iconst (v := 0) hx hb d_Usages_ofTitle_0 (by decide) ?_
  refine lv_istore_n (lv' := [(2, .int 0), (0, .ref v0), (1, .int v1)]) hx hb d_Usages_ofTitle_1 rfl hl (by decide) rfl (fun ls hl => ?_)
  refine lv_iconst (v := 0) hx hb d_Usages_ofTitle_2 (by decide) ?_
  refine lv_istore_n (lv' := [(3, .int 0), (2, .int 0), (0, .ref v0), (1, .int v1)]) hx hb d_Usages_ofTitle_3 rfl hl (by decide) rfl (fun ls hl => ?_)
  exact w_Usages_ofTitle_b4 C FU _ _ _ _ _ _ _ _ h hW hS (lv_sub hl [2, 3, 1, 0] rfl)
def f_Title_firstDay (v0 : Nat) (M : mm) : Option (Int32 × mm) :=
    (gI 6 6 M v0).bind fun x1 =>
    if x1 = 0 then
      some ((-1), M)
    else
      (gR 6 4 M v0).bind fun x3 =>
      (aI M x3 0).bind fun x4 =>
      some (x4, M)
set_option maxHeartbeats 4000000 in
set_option maxRecDepth 100000 in
theorem c_Title_firstDay (l : Launch) (D : va_G) (dA : Nat → ClassId) (M0 M' : mm) (r : Int32) (v0 : Nat) (h : f_Title_firstDay v0 M0 = some (r, M')) : Met l y_Title_firstDay w_Title_firstDay rm_Title_firstDay (mm_Pre D dA M0 [.ref v0]) (mm_QI D dA M0 r M') 0 0 (mm_A M0) := by
  refine Met.ofW (cc := b_Title_firstDay) (maxL := 1) (ret := (some .int)) (by decide) rfl ?_
  intro p e s m args below meth c s₁ B hml hv
  obtain ⟨rfl, hW, hK⟩ := hv
  have C : mm_C p s m _ meth c b_Title_firstDay 1 (some .int) R_Title D dA (mm_A M0) := ⟨B.exec, B.bytes, B.returns, hml, findClass_of_methodNamed B.named, fun w hw => atoms_spec (ws := w_Title_firstDay) B.pre w (List.mem_cons_of_mem _ hw), B.notSynchronized, hK, fun q hq => Or.inr (by rw [← hW.1]; exact hq)⟩
  have hS : va_S (mm_A M0) s.heap s.heap [] := va_S.rf
  obtain ⟨hx, hb, hr, hml, hown, hts, hlocks, hK, hA⟩ := id C
  have hl := lv_entry ([.ref v0]) (n := 1) (Nat.le_of_ble_eq_true rfl)
  rw [lg_entry_eq]
  generalize (lg_sl ([.ref v0]) ++ List.replicate (1 - (lg_sl ([.ref v0])).length) Slot.unset).toArray = ls at hl ⊢
  have hl : lv_has ls 1 [(0, .ref v0)] := hl
  unfold f_Title_firstDay at h
  refine lv_aload_n hx hb d_Title_firstDay_0 rfl (lv_at hl 0 rfl) ?_
  obtain ⟨x1, e1, h⟩ := ob h
  refine mr_gI C hW k_Title_26 e1 d_Title_firstDay_1 ?_
  refine lv_if_ne (tgt := 11) hx hb d_Title_firstDay_4 (by decide) (fun c2 => ?_) (fun c2 => ?_)
  · have h := ifn h c2
    refine lv_aload_n hx hb d_Title_firstDay_11 rfl (lv_at hl 0 rfl) ?_
    obtain ⟨x3, e3, h⟩ := ob h
    refine mr_gR C hW k_Title_19 e3 d_Title_firstDay_12 ?_
    refine lv_iconst (v := 0) hx hb d_Title_firstDay_15 (by decide) ?_
    obtain ⟨x4, e4, h⟩ := ob h
    refine mr_aI C hW e4 d_Title_firstDay_16 ?_
    exact mr_iret C hW hS (Nat.le_of_ble_eq_true rfl) (Nat.le_of_ble_eq_true rfl) h d_Title_firstDay_17
  · have h := ifp h c2
    refine lv_iconst (v := (-1)) hx hb d_Title_firstDay_7 (by decide) ?_
    refine lv_goto (tgt := 17) hx hb d_Title_firstDay_8 (by decide) ?_
    exact mr_iret C hW hS (Nat.le_of_ble_eq_true rfl) (Nat.le_of_ble_eq_true rfl) h d_Title_firstDay_17
def f_Usages_ofTitleIn_b5 : Nat → Nat → Int32 → Int32 → Int32 → Int32 → mm → Option (Int32 × mm)
  | 0, _, _, _, _, _, _ => none
  | n + 1, v0, v1, v2, v3, v4, M =>
    (gI 7 3 M v0).bind fun x1 =>
    if x1 ≤ v4 then
      some (v3, M)
    else
      (gR 7 1 M v0).bind fun x3 =>
      (aI M x3 v4).bind fun x4 =>
      if x4 = v1 then
        (gR 7 2 M v0).bind fun x6 =>
        (aI M x6 v4).bind fun x7 =>
        if x7 = v2 then
          f_Usages_ofTitleIn_b5 n v0 v1 v2 (v3 + 1) (v4 + 1) M
        else
          f_Usages_ofTitleIn_b5 n v0 v1 v2 v3 (v4 + 1) M
      else
        f_Usages_ofTitleIn_b5 n v0 v1 v2 v3 (v4 + 1) M
def f_Usages_ofTitleIn (v0 : Nat) (v1 : Int32) (v2 : Int32) (M : mm) : Option (Int32 × mm) :=
    f_Usages_ofTitleIn_b5 FU v0 v1 v2 0 0 M
set_option maxHeartbeats 4000000 in
set_option maxRecDepth 100000 in
theorem w_Usages_ofTitleIn_b5 {p : Program} {l : Launch} {e : Env} {s : State} {m : MethodId} {args : Array Value} {below : List Frame} {meth : Method} {c : Code} {D : va_G} {dA : Nat → ClassId} {M0 M' : mm} {r : Int32} (C : mm_C p s m args meth c b_Usages_ofTitleIn 5 (some .int) R_Usages D dA (mm_A M0)) : ∀ (n : Nat), ∀ (v0 : Nat) (v1 : Int32) (v2 : Int32) (v3 : Int32) (v4 : Int32) (M : mm) (H : Heap) (locs : List Loc) (ls : Array Slot), f_Usages_ofTitleIn_b5 n v0 v1 v2 v3 v4 M = some (r, M') → mm_W D dA (mm_A M0) M H → va_S (mm_A M0) s.heap H locs → lv_has ls 5 [(0, .ref v0), (1, .int v1), (2, .int v2), (3, .int v3), (4, .int v4)] → W p l e rm_Usages_ofTitleIn s m args below meth c H locs 0 0 (MQ below (mm_QI D dA M0 r M') args s 0 0 (mm_A M0)) (F0 m 5 ls []) := by
  obtain ⟨hx, hb, hr, hml, hown, hts, hlocks, hK, hA⟩ := id C
  intro n
  induction n with
  | zero =>
    intro v0 v1 v2 v3 v4 M H locs ls h hW hS hl
    unfold f_Usages_ofTitleIn_b5 at h
    cases h
  | succ n ih =>
    intro v0 v1 v2 v3 v4 M H locs ls h hW hS hl
    unfold f_Usages_ofTitleIn_b5 at h
    refine lv_iload hx hb d_Usages_ofTitleIn_5 (lv_at hl 4 rfl) ?_
    refine lv_aload_n hx hb d_Usages_ofTitleIn_7 rfl (lv_at hl 0 rfl) ?_
    obtain ⟨x1, e1, h⟩ := ob h
    refine mr_gI C hW k_Usages_21 e1 d_Usages_ofTitleIn_8 ?_
    refine lv_icmp_ge (tgt := 45) hx hb d_Usages_ofTitleIn_11 (by decide) (fun c2 => ?_) (fun c2 => ?_)
    · have h := ifp h c2
      refine lv_iload_n hx hb d_Usages_ofTitleIn_45 rfl (lv_at hl 3 rfl) ?_
      exact mr_iret C hW hS (Nat.le_of_ble_eq_true rfl) (Nat.le_of_ble_eq_true rfl) h d_Usages_ofTitleIn_46
    · have h := ifn h c2
      refine lv_aload_n hx hb d_Usages_ofTitleIn_14 rfl (lv_at hl 0 rfl) ?_
      obtain ⟨x3, e3, h⟩ := ob h
      refine mr_gR C hW k_Usages_15 e3 d_Usages_ofTitleIn_15 ?_
      refine lv_iload hx hb d_Usages_ofTitleIn_18 (lv_at hl 4 rfl) ?_
      obtain ⟨x4, e4, h⟩ := ob h
      refine mr_aI C hW e4 d_Usages_ofTitleIn_20 ?_
      refine lv_iload_n hx hb d_Usages_ofTitleIn_21 rfl (lv_at hl 1 rfl) ?_
      refine lv_icmp_ne (tgt := 39) hx hb d_Usages_ofTitleIn_22 (by decide) (fun c5 => ?_) (fun c5 => ?_)
      · have h := ifn h c5
        refine lv_iinc (v := v4 + 1) (lv' := [(4, .int (v4 + 1)), (0, .ref v0), (1, .int v1), (2, .int v2), (3, .int v3)]) hx hb d_Usages_ofTitleIn_39 hl (k := 4) rfl rfl (by decide) rfl (fun ls hl => ?_)
        refine lv_goto (tgt := 5) hx hb d_Usages_ofTitleIn_42 (by decide) ?_
        exact ih _ _ _ _ _ _ _ _ _ h hW hS (lv_sub hl [1, 2, 3, 4, 0] rfl)
      · have h := ifp h c5
        refine lv_aload_n hx hb d_Usages_ofTitleIn_25 rfl (lv_at hl 0 rfl) ?_
        obtain ⟨x6, e6, h⟩ := ob h
        refine mr_gR C hW k_Usages_18 e6 d_Usages_ofTitleIn_26 ?_
        refine lv_iload hx hb d_Usages_ofTitleIn_29 (lv_at hl 4 rfl) ?_
        obtain ⟨x7, e7, h⟩ := ob h
        refine mr_aI C hW e7 d_Usages_ofTitleIn_31 ?_
        refine lv_iload_n hx hb d_Usages_ofTitleIn_32 rfl (lv_at hl 2 rfl) ?_
        refine lv_icmp_ne (tgt := 39) hx hb d_Usages_ofTitleIn_33 (by decide) (fun c8 => ?_) (fun c8 => ?_)
        · have h := ifn h c8
          refine lv_iinc (v := v4 + 1) (lv' := [(4, .int (v4 + 1)), (0, .ref v0), (1, .int v1), (2, .int v2), (3, .int v3)]) hx hb d_Usages_ofTitleIn_39 hl (k := 4) rfl rfl (by decide) rfl (fun ls hl => ?_)
          refine lv_goto (tgt := 5) hx hb d_Usages_ofTitleIn_42 (by decide) ?_
          exact ih _ _ _ _ _ _ _ _ _ h hW hS (lv_sub hl [1, 2, 3, 4, 0] rfl)
        · have h := ifp h c8
          refine lv_iinc (v := v3 + 1) (lv' := [(3, .int (v3 + 1)), (0, .ref v0), (1, .int v1), (2, .int v2), (4, .int v4)]) hx hb d_Usages_ofTitleIn_36 hl (k := 3) rfl rfl (by decide) rfl (fun ls hl => ?_)
          refine lv_iinc (v := v4 + 1) (lv' := [(4, .int (v4 + 1)), (3, .int (v3 + 1)), (0, .ref v0), (1, .int v1), (2, .int v2)]) hx hb d_Usages_ofTitleIn_39 hl (k := 4) rfl rfl (by decide) rfl (fun ls hl => ?_)
          refine lv_goto (tgt := 5) hx hb d_Usages_ofTitleIn_42 (by decide) ?_
          exact ih _ _ _ _ _ _ _ _ _ h hW hS (lv_sub hl [2, 3, 4, 1, 0] rfl)
set_option maxHeartbeats 4000000 in
set_option maxRecDepth 100000 in
theorem c_Usages_ofTitleIn (l : Launch) (D : va_G) (dA : Nat → ClassId) (M0 M' : mm) (r : Int32) (v0 : Nat) (v1 : Int32) (v2 : Int32) (h : f_Usages_ofTitleIn v0 v1 v2 M0 = some (r, M')) : Met l y_Usages_ofTitleIn w_Usages_ofTitleIn rm_Usages_ofTitleIn (mm_Pre D dA M0 [.ref v0, .int v1, .int v2]) (mm_QI D dA M0 r M') 0 0 (mm_A M0) := by
  refine Met.ofW (cc := b_Usages_ofTitleIn) (maxL := 5) (ret := (some .int)) (by decide) rfl ?_
  intro p e s m args below meth c s₁ B hml hv
  obtain ⟨rfl, hW, hK⟩ := hv
  have C : mm_C p s m _ meth c b_Usages_ofTitleIn 5 (some .int) R_Usages D dA (mm_A M0) := ⟨B.exec, B.bytes, B.returns, hml, findClass_of_methodNamed B.named, fun w hw => atoms_spec (ws := w_Usages_ofTitleIn) B.pre w (List.mem_cons_of_mem _ hw), B.notSynchronized, hK, fun q hq => Or.inr (by rw [← hW.1]; exact hq)⟩
  have hS : va_S (mm_A M0) s.heap s.heap [] := va_S.rf
  obtain ⟨hx, hb, hr, hml, hown, hts, hlocks, hK, hA⟩ := id C
  have hl := lv_entry ([.ref v0, .int v1, .int v2]) (n := 5) (Nat.le_of_ble_eq_true rfl)
  rw [lg_entry_eq]
  generalize (lg_sl ([.ref v0, .int v1, .int v2]) ++ List.replicate (5 - (lg_sl ([.ref v0, .int v1, .int v2])).length) Slot.unset).toArray = ls at hl ⊢
  have hl : lv_has ls 5 [(0, .ref v0), (1, .int v1), (2, .int v2)] := hl
  unfold f_Usages_ofTitleIn at h
  refine lv_iconst (v := 0) hx hb d_Usages_ofTitleIn_0 (by decide) ?_
  refine lv_istore_n (lv' := [(3, .int 0), (0, .ref v0), (1, .int v1), (2, .int v2)]) hx hb d_Usages_ofTitleIn_1 rfl hl (by decide) rfl (fun ls hl => ?_)
  refine lv_iconst (v := 0) hx hb d_Usages_ofTitleIn_2 (by decide) ?_
  refine lv_istore (lv' := [(4, .int 0), (3, .int 0), (0, .ref v0), (1, .int v1), (2, .int v2)]) hx hb d_Usages_ofTitleIn_3 hl (by decide) rfl (fun ls hl => ?_)
  exact w_Usages_ofTitleIn_b5 C FU _ _ _ _ _ _ _ _ _ h hW hS (lv_sub hl [2, 3, 4, 1, 0] rfl)
def f_Line_at (v0 : Nat) (v1 : Int32) (M : mm) : Option (Int32 × mm) :=
    if v1 < 0 then
      some ((-1), M)
    else
      (gI 2 1 M v0).bind fun x2 =>
      if v1 < x2 then
        (gR 2 0 M v0).bind fun x4 =>
        (aI M x4 v1).bind fun x5 =>
        some (x5, M)
      else
        some ((-1), M)
set_option maxHeartbeats 4000000 in
set_option maxRecDepth 100000 in
theorem c_Line_at (l : Launch) (D : va_G) (dA : Nat → ClassId) (M0 M' : mm) (r : Int32) (v0 : Nat) (v1 : Int32) (h : f_Line_at v0 v1 M0 = some (r, M')) : Met l y_Line_at w_Line_at rm_Line_at (mm_Pre D dA M0 [.ref v0, .int v1]) (mm_QI D dA M0 r M') 0 0 (mm_A M0) := by
  refine Met.ofW (cc := b_Line_at) (maxL := 2) (ret := (some .int)) (by decide) rfl ?_
  intro p e s m args below meth c s₁ B hml hv
  obtain ⟨rfl, hW, hK⟩ := hv
  have C : mm_C p s m _ meth c b_Line_at 2 (some .int) R_Line D dA (mm_A M0) := ⟨B.exec, B.bytes, B.returns, hml, findClass_of_methodNamed B.named, fun w hw => atoms_spec (ws := w_Line_at) B.pre w (List.mem_cons_of_mem _ hw), B.notSynchronized, hK, fun q hq => Or.inr (by rw [← hW.1]; exact hq)⟩
  have hS : va_S (mm_A M0) s.heap s.heap [] := va_S.rf
  obtain ⟨hx, hb, hr, hml, hown, hts, hlocks, hK, hA⟩ := id C
  have hl := lv_entry ([.ref v0, .int v1]) (n := 2) (Nat.le_of_ble_eq_true rfl)
  rw [lg_entry_eq]
  generalize (lg_sl ([.ref v0, .int v1]) ++ List.replicate (2 - (lg_sl ([.ref v0, .int v1])).length) Slot.unset).toArray = ls at hl ⊢
  have hl : lv_has ls 2 [(0, .ref v0), (1, .int v1)] := hl
  unfold f_Line_at at h
  refine lv_iload_n hx hb d_Line_at_0 rfl (lv_at hl 1 rfl) ?_
  refine lv_if_lt (tgt := 12) hx hb d_Line_at_1 (by decide) (fun c1 => ?_) (fun c1 => ?_)
  · have h := ifp h c1
    refine lv_iconst (v := (-1)) hx hb d_Line_at_12 (by decide) ?_
    refine lv_goto (tgt := 22) hx hb d_Line_at_13 (by decide) ?_
    exact mr_iret C hW hS (Nat.le_of_ble_eq_true rfl) (Nat.le_of_ble_eq_true rfl) h d_Line_at_22
  · have h := ifn h c1
    refine lv_iload_n hx hb d_Line_at_4 rfl (lv_at hl 1 rfl) ?_
    refine lv_aload_n hx hb d_Line_at_5 rfl (lv_at hl 0 rfl) ?_
    obtain ⟨x2, e2, h⟩ := ob h
    refine mr_gI C hW k_Line_15 e2 d_Line_at_6 ?_
    refine lv_icmp_lt (tgt := 16) hx hb d_Line_at_9 (by decide) (fun c3 => ?_) (fun c3 => ?_)
    · have h := ifp h c3
      refine lv_aload_n hx hb d_Line_at_16 rfl (lv_at hl 0 rfl) ?_
      obtain ⟨x4, e4, h⟩ := ob h
      refine mr_gR C hW k_Line_9 e4 d_Line_at_17 ?_
      refine lv_iload_n hx hb d_Line_at_20 rfl (lv_at hl 1 rfl) ?_
      obtain ⟨x5, e5, h⟩ := ob h
      refine mr_aI C hW e5 d_Line_at_21 ?_
      exact mr_iret C hW hS (Nat.le_of_ble_eq_true rfl) (Nat.le_of_ble_eq_true rfl) h d_Line_at_22
    · have h := ifn h c3
      refine lv_iconst (v := (-1)) hx hb d_Line_at_12 (by decide) ?_
      refine lv_goto (tgt := 22) hx hb d_Line_at_13 (by decide) ?_
      exact mr_iret C hW hS (Nat.le_of_ble_eq_true rfl) (Nat.le_of_ble_eq_true rfl) h d_Line_at_22
end
