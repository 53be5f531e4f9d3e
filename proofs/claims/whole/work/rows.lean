section
-- ===== PART A: goes FIRST, ahead of the names: the tables' words, and 'selects' of the private methods out of them =====
/-- a private method of a class that the tables say can be made, by its rows of tables_1 -/
def lw_okq (q : MethodName × Nat) : Prop := (q.1.cls ≠ "java/lang/invoke/MethodHandle" ∧ q.1.cls ≠ "java/lang/invoke/VarHandle") ∧ Cond.instantiable q.1.cls q.2 ∈ tables_1 ∧ Cond.privateMethod q.1 ∈ tables_1 ∧ Cond.instanceMethod q.1 ∈ tables_1
theorem lw_p0 : lw_okq (⟨"ChangeStore", "openDraft", "()V"⟩, 6) := ⟨⟨by decide +kernel, by decide +kernel⟩, List.mem_of_getElem? (i := 9) (by decide +kernel), List.mem_of_getElem? (i := 124) (by decide +kernel), List.mem_of_getElem? (i := 125) (by decide +kernel)⟩
theorem lw_p1 : lw_okq (⟨"ChangeStore$Draft", "start", "()V"⟩, 6) := ⟨⟨by decide +kernel, by decide +kernel⟩, List.mem_of_getElem? (i := 70) (by decide +kernel), List.mem_of_getElem? (i := 132) (by decide +kernel), List.mem_of_getElem? (i := 133) (by decide +kernel)⟩
theorem lw_p2 : lw_okq (⟨"ChangeStore", "hasRoomForCommit", "()Z"⟩, 6) := ⟨⟨by decide +kernel, by decide +kernel⟩, List.mem_of_getElem? (i := 9) (by decide +kernel), List.mem_of_getElem? (i := 165) (by decide +kernel), List.mem_of_getElem? (i := 166) (by decide +kernel)⟩
theorem lw_p3 : lw_okq (⟨"ChangeStore", "keepDraft", "(II)I"⟩, 6) := ⟨⟨by decide +kernel, by decide +kernel⟩, List.mem_of_getElem? (i := 9) (by decide +kernel), List.mem_of_getElem? (i := 205) (by decide +kernel), List.mem_of_getElem? (i := 206) (by decide +kernel)⟩
theorem lw_p4 : lw_okq (⟨"ChangeStore$Draft", "lowestOrphan", "()I"⟩, 6) := ⟨⟨by decide +kernel, by decide +kernel⟩, List.mem_of_getElem? (i := 70) (by decide +kernel), List.mem_of_getElem? (i := 213) (by decide +kernel), List.mem_of_getElem? (i := 214) (by decide +kernel)⟩
theorem lw_p5 : lw_okq (⟨"ChangeStore$Draft", "placeOf", "(IJ)I"⟩, 6) := ⟨⟨by decide +kernel, by decide +kernel⟩, List.mem_of_getElem? (i := 70) (by decide +kernel), List.mem_of_getElem? (i := 231) (by decide +kernel), List.mem_of_getElem? (i := 232) (by decide +kernel)⟩
theorem lw_p6 : lw_okq (⟨"ChangeStore$Draft", "nextTowardsPlace", "(IJ)I"⟩, 6) := ⟨⟨by decide +kernel, by decide +kernel⟩, List.mem_of_getElem? (i := 70) (by decide +kernel), List.mem_of_getElem? (i := 235) (by decide +kernel), List.mem_of_getElem? (i := 236) (by decide +kernel)⟩
theorem lw_p7 : lw_okq (⟨"ChangeStore$Commits", "addDifference", "(IIII)V"⟩, 5) := ⟨⟨by decide +kernel, by decide +kernel⟩, List.mem_of_getElem? (i := 17) (by decide +kernel), List.mem_of_getElem? (i := 253) (by decide +kernel), List.mem_of_getElem? (i := 254) (by decide +kernel)⟩
theorem lw_p8 : lw_okq (⟨"ChangeStore", "isReplaceable", "(I)Z"⟩, 6) := ⟨⟨by decide +kernel, by decide +kernel⟩, List.mem_of_getElem? (i := 9) (by decide +kernel), List.mem_of_getElem? (i := 309) (by decide +kernel), List.mem_of_getElem? (i := 310) (by decide +kernel)⟩
theorem lw_p9 : lw_okq (⟨"ChangeStore", "hasLineOne", "()Z"⟩, 6) := ⟨⟨by decide +kernel, by decide +kernel⟩, List.mem_of_getElem? (i := 9) (by decide +kernel), List.mem_of_getElem? (i := 354) (by decide +kernel), List.mem_of_getElem? (i := 355) (by decide +kernel)⟩
theorem lw_p10 : lw_okq (⟨"ChangeStoreModel", "here", "()I"⟩, 23) := ⟨⟨by decide +kernel, by decide +kernel⟩, List.mem_of_getElem? (i := 414) (by decide +kernel), List.mem_of_getElem? (i := 495) (by decide +kernel), List.mem_of_getElem? (i := 496) (by decide +kernel)⟩
theorem lw_p11 : lw_okq (⟨"ChangeStoreModel", "isVisible", "(II)Z"⟩, 23) := ⟨⟨by decide +kernel, by decide +kernel⟩, List.mem_of_getElem? (i := 414) (by decide +kernel), List.mem_of_getElem? (i := 499) (by decide +kernel), List.mem_of_getElem? (i := 500) (by decide +kernel)⟩
theorem lw_p12 : lw_okq (⟨"ChangeStoreModel", "begin", "(I)V"⟩, 23) := ⟨⟨by decide +kernel, by decide +kernel⟩, List.mem_of_getElem? (i := 414) (by decide +kernel), List.mem_of_getElem? (i := 503) (by decide +kernel), List.mem_of_getElem? (i := 504) (by decide +kernel)⟩
theorem lw_p13 : lw_okq (⟨"ChangeStoreModel", "fresh", "(II)I"⟩, 23) := ⟨⟨by decide +kernel, by decide +kernel⟩, List.mem_of_getElem? (i := 414) (by decide +kernel), List.mem_of_getElem? (i := 507) (by decide +kernel), List.mem_of_getElem? (i := 508) (by decide +kernel)⟩
theorem lw_p14 : lw_okq (⟨"ChangeStoreModel", "copyContents", "(II)V"⟩, 23) := ⟨⟨by decide +kernel, by decide +kernel⟩, List.mem_of_getElem? (i := 414) (by decide +kernel), List.mem_of_getElem? (i := 511) (by decide +kernel), List.mem_of_getElem? (i := 512) (by decide +kernel)⟩
theorem lw_p15 : lw_okq (⟨"ChangeStoreModel", "done", "()I"⟩, 23) := ⟨⟨by decide +kernel, by decide +kernel⟩, List.mem_of_getElem? (i := 414) (by decide +kernel), List.mem_of_getElem? (i := 515) (by decide +kernel), List.mem_of_getElem? (i := 516) (by decide +kernel)⟩
def lw_privs_1 : List (MethodName × Nat) := [(⟨"ChangeStore", "openDraft", "()V"⟩, 6), (⟨"ChangeStore$Draft", "start", "()V"⟩, 6), (⟨"ChangeStore", "hasRoomForCommit", "()Z"⟩, 6), (⟨"ChangeStore", "keepDraft", "(II)I"⟩, 6), (⟨"ChangeStore$Draft", "lowestOrphan", "()I"⟩, 6), (⟨"ChangeStore$Draft", "placeOf", "(IJ)I"⟩, 6), (⟨"ChangeStore$Draft", "nextTowardsPlace", "(IJ)I"⟩, 6), (⟨"ChangeStore$Commits", "addDifference", "(IIII)V"⟩, 5), (⟨"ChangeStore", "isReplaceable", "(I)Z"⟩, 6), (⟨"ChangeStore", "hasLineOne", "()Z"⟩, 6), (⟨"ChangeStoreModel", "here", "()I"⟩, 23), (⟨"ChangeStoreModel", "isVisible", "(II)Z"⟩, 23), (⟨"ChangeStoreModel", "begin", "(I)V"⟩, 23), (⟨"ChangeStoreModel", "fresh", "(II)I"⟩, 23), (⟨"ChangeStoreModel", "copyContents", "(II)V"⟩, 23), (⟨"ChangeStoreModel", "done", "()I"⟩, 23)]
theorem lw_r1 : ∀ q ∈ lw_privs_1, lw_okq q := List.forall_mem_cons.mpr ⟨lw_p0, List.forall_mem_cons.mpr ⟨lw_p1, List.forall_mem_cons.mpr ⟨lw_p2, List.forall_mem_cons.mpr ⟨lw_p3, List.forall_mem_cons.mpr ⟨lw_p4, List.forall_mem_cons.mpr ⟨lw_p5, List.forall_mem_cons.mpr ⟨lw_p6, List.forall_mem_cons.mpr ⟨lw_p7, List.forall_mem_cons.mpr ⟨lw_p8, List.forall_mem_cons.mpr ⟨lw_p9, List.forall_mem_cons.mpr ⟨lw_p10, List.forall_mem_cons.mpr ⟨lw_p11, List.forall_mem_cons.mpr ⟨lw_p12, List.forall_mem_cons.mpr ⟨lw_p13, List.forall_mem_cons.mpr ⟨lw_p14, List.forall_mem_cons.mpr ⟨lw_p15, fun _ h => absurd h List.not_mem_nil⟩⟩⟩⟩⟩⟩⟩⟩⟩⟩⟩⟩⟩⟩⟩⟩
theorem lw_p16 : lw_okq (⟨"ChangeStoreModel", "finish", "(II)I"⟩, 23) := ⟨⟨by decide +kernel, by decide +kernel⟩, List.mem_of_getElem? (i := 414) (by decide +kernel), List.mem_of_getElem? (i := 519) (by decide +kernel), List.mem_of_getElem? (i := 520) (by decide +kernel)⟩
theorem lw_p17 : lw_okq (⟨"ChangeStoreModel", "plain", "(III)Z"⟩, 23) := ⟨⟨by decide +kernel, by decide +kernel⟩, List.mem_of_getElem? (i := 414) (by decide +kernel), List.mem_of_getElem? (i := 527) (by decide +kernel), List.mem_of_getElem? (i := 528) (by decide +kernel)⟩
theorem lw_p18 : lw_okq (⟨"ChangeStoreModel", "setPlain", "(III)V"⟩, 23) := ⟨⟨by decide +kernel, by decide +kernel⟩, List.mem_of_getElem? (i := 414) (by decide +kernel), List.mem_of_getElem? (i := 531) (by decide +kernel), List.mem_of_getElem? (i := 532) (by decide +kernel)⟩
theorem lw_p19 : lw_okq (⟨"ChangeStoreModel", "replace", "(II)V"⟩, 23) := ⟨⟨by decide +kernel, by decide +kernel⟩, List.mem_of_getElem? (i := 414) (by decide +kernel), List.mem_of_getElem? (i := 535) (by decide +kernel), List.mem_of_getElem? (i := 536) (by decide +kernel)⟩
theorem lw_p20 : lw_okq (⟨"ChangeStoreModel", "settle", "()V"⟩, 23) := ⟨⟨by decide +kernel, by decide +kernel⟩, List.mem_of_getElem? (i := 414) (by decide +kernel), List.mem_of_getElem? (i := 539) (by decide +kernel), List.mem_of_getElem? (i := 540) (by decide +kernel)⟩
theorem lw_p21 : lw_okq (⟨"ChangeStoreModel", "loose", "()I"⟩, 23) := ⟨⟨by decide +kernel, by decide +kernel⟩, List.mem_of_getElem? (i := 414) (by decide +kernel), List.mem_of_getElem? (i := 543) (by decide +kernel), List.mem_of_getElem? (i := 544) (by decide +kernel)⟩
theorem lw_p22 : lw_okq (⟨"ChangeStoreModel", "place", "(II)I"⟩, 23) := ⟨⟨by decide +kernel, by decide +kernel⟩, List.mem_of_getElem? (i := 414) (by decide +kernel), List.mem_of_getElem? (i := 547) (by decide +kernel), List.mem_of_getElem? (i := 548) (by decide +kernel)⟩
theorem lw_p23 : lw_okq (⟨"ChangeStoreModel", "sameChange", "(II)I"⟩, 23) := ⟨⟨by decide +kernel, by decide +kernel⟩, List.mem_of_getElem? (i := 414) (by decide +kernel), List.mem_of_getElem? (i := 551) (by decide +kernel), List.mem_of_getElem? (i := 552) (by decide +kernel)⟩
theorem lw_p24 : lw_okq (⟨"ChangeStoreModel", "comesOf", "(II)Z"⟩, 23) := ⟨⟨by decide +kernel, by decide +kernel⟩, List.mem_of_getElem? (i := 414) (by decide +kernel), List.mem_of_getElem? (i := 555) (by decide +kernel), List.mem_of_getElem? (i := 556) (by decide +kernel)⟩
theorem lw_p25 : lw_okq (⟨"ChangeStoreModel", "mix", "(IIII)V"⟩, 23) := ⟨⟨by decide +kernel, by decide +kernel⟩, List.mem_of_getElem? (i := 414) (by decide +kernel), List.mem_of_getElem? (i := 559) (by decide +kernel), List.mem_of_getElem? (i := 560) (by decide +kernel)⟩
theorem lw_p26 : lw_okq (⟨"ChangeStoreModel", "there", "(I)Z"⟩, 23) := ⟨⟨by decide +kernel, by decide +kernel⟩, List.mem_of_getElem? (i := 414) (by decide +kernel), List.mem_of_getElem? (i := 614) (by decide +kernel), List.mem_of_getElem? (i := 615) (by decide +kernel)⟩
theorem lw_p27 : lw_okq (⟨"ChangeStoreModel", "isHead", "(II)Z"⟩, 23) := ⟨⟨by decide +kernel, by decide +kernel⟩, List.mem_of_getElem? (i := 414) (by decide +kernel), List.mem_of_getElem? (i := 634) (by decide +kernel), List.mem_of_getElem? (i := 635) (by decide +kernel)⟩
def lw_privs_2 : List (MethodName × Nat) := [(⟨"ChangeStoreModel", "finish", "(II)I"⟩, 23), (⟨"ChangeStoreModel", "plain", "(III)Z"⟩, 23), (⟨"ChangeStoreModel", "setPlain", "(III)V"⟩, 23), (⟨"ChangeStoreModel", "replace", "(II)V"⟩, 23), (⟨"ChangeStoreModel", "settle", "()V"⟩, 23), (⟨"ChangeStoreModel", "loose", "()I"⟩, 23), (⟨"ChangeStoreModel", "place", "(II)I"⟩, 23), (⟨"ChangeStoreModel", "sameChange", "(II)I"⟩, 23), (⟨"ChangeStoreModel", "comesOf", "(II)Z"⟩, 23), (⟨"ChangeStoreModel", "mix", "(IIII)V"⟩, 23), (⟨"ChangeStoreModel", "there", "(I)Z"⟩, 23), (⟨"ChangeStoreModel", "isHead", "(II)Z"⟩, 23)]
theorem lw_r2 : ∀ q ∈ lw_privs_2, lw_okq q := List.forall_mem_cons.mpr ⟨lw_p16, List.forall_mem_cons.mpr ⟨lw_p17, List.forall_mem_cons.mpr ⟨lw_p18, List.forall_mem_cons.mpr ⟨lw_p19, List.forall_mem_cons.mpr ⟨lw_p20, List.forall_mem_cons.mpr ⟨lw_p21, List.forall_mem_cons.mpr ⟨lw_p22, List.forall_mem_cons.mpr ⟨lw_p23, List.forall_mem_cons.mpr ⟨lw_p24, List.forall_mem_cons.mpr ⟨lw_p25, List.forall_mem_cons.mpr ⟨lw_p26, List.forall_mem_cons.mpr ⟨lw_p27, fun _ h => absurd h List.not_mem_nil⟩⟩⟩⟩⟩⟩⟩⟩⟩⟩⟩⟩
def lw_privs : List (MethodName × Nat) := lw_privs_1 ++ (lw_privs_2)
def lw_tbl : List Cond := k2_sels lw_privs ++ tables_1
theorem lw_privs_ok : ∀ q ∈ lw_privs, lw_okq q := by
  show ∀ q ∈ lw_privs_1 ++ (lw_privs_2), lw_okq q
  exact List.forall_mem_append.mpr ⟨lw_r1, lw_r2⟩
end
section
def R_S : String := "ChangeStore"
def R_C : String := "ChangeStore$Commits"
def R_O : String := "ChangeStore$Operations"
def R_D : String := "ChangeStore$Draft"
def R_M : String := "ChangeStoreModel"
def R_A : String := "java/util/Arrays"
def F_S : u_T := fun k => match k with
  | 0 => ("ChangeStore", "commits", "LChangeStore$Commits;", true)
  | 1 => ("ChangeStore", "operations", "LChangeStore$Operations;", true)
  | 2 => ("ChangeStore", "draft", "LChangeStore$Draft;", true)
  | 3 => ("ChangeStore", "currents", "[I", true)
  | 4 => ("ChangeStore", "chosen", "I", false)
  | _ => ("ChangeStore", "lineOneBegan", "I", false)
def t_S : Nat → FieldType := fun k => match k with
  | 0 => .object "ChangeStore$Commits"
  | 1 => .object "ChangeStore$Operations"
  | 2 => .object "ChangeStore$Draft"
  | 3 => .array .int
  | 4 => .int
  | _ => .int
theorem n_S : ∀ a, a < 6 → ∀ b, b < 6 → a ≠ b → (F_S a).2.1 ≠ (F_S b).2.1 := by decide +kernel
theorem t_S_ok : ∀ k, k < 6 → parseFieldDescriptor (F_S k).2.2.1 = some (t_S k) := by decide +kernel
def F_C : u_T := fun k => match k with
  | 0 => ("ChangeStore$Commits", "parents", "[I", true)
  | 1 => ("ChangeStore$Commits", "changes", "[I", true)
  | 2 => ("ChangeStore$Commits", "counts", "[J", true)
  | 3 => ("ChangeStore$Commits", "size", "I", false)
  | _ => ("ChangeStore$Commits", "lastChange", "I", false)
def t_C : Nat → FieldType := fun k => match k with
  | 0 => .array .int
  | 1 => .array .int
  | 2 => .array .long
  | 3 => .int
  | _ => .int
theorem n_C : ∀ a, a < 5 → ∀ b, b < 5 → a ≠ b → (F_C a).2.1 ≠ (F_C b).2.1 := by decide +kernel
theorem t_C_ok : ∀ k, k < 5 → parseFieldDescriptor (F_C k).2.2.1 = some (t_C k) := by decide +kernel
def F_O : u_T := fun k => match k with
  | 0 => ("ChangeStore$Operations", "firsts", "[I", true)
  | 1 => ("ChangeStore$Operations", "seconds", "[I", true)
  | 2 => ("ChangeStore$Operations", "shown", "[J", true)
  | 3 => ("ChangeStore$Operations", "workings", "[I", true)
  | 4 => ("ChangeStore$Operations", "marks", "[I", true)
  | _ => ("ChangeStore$Operations", "size", "I", false)
def t_O : Nat → FieldType := fun k => match k with
  | 0 => .array .int
  | 1 => .array .int
  | 2 => .array .long
  | 3 => .array .int
  | 4 => .array .int
  | _ => .int
theorem n_O : ∀ a, a < 6 → ∀ b, b < 6 → a ≠ b → (F_O a).2.1 ≠ (F_O b).2.1 := by decide +kernel
theorem t_O_ok : ∀ k, k < 6 → parseFieldDescriptor (F_O k).2.2.1 = some (t_O k) := by decide +kernel
def F_D : u_T := fun k => match k with
  | 0 => ("ChangeStore$Draft", "commits", "LChangeStore$Commits;", true)
  | 1 => ("ChangeStore$Draft", "marks", "[I", true)
  | 2 => ("ChangeStore$Draft", "replacements", "[I", true)
  | 3 => ("ChangeStore$Draft", "shown", "J", false)
  | 4 => ("ChangeStore$Draft", "working", "I", false)
  | _ => ("ChangeStore$Draft", "commitsAtOpening", "I", false)
def t_D : Nat → FieldType := fun k => match k with
  | 0 => .object "ChangeStore$Commits"
  | 1 => .array .int
  | 2 => .array .int
  | 3 => .long
  | 4 => .int
  | _ => .int
theorem n_D : ∀ a, a < 6 → ∀ b, b < 6 → a ≠ b → (F_D a).2.1 ≠ (F_D b).2.1 := by decide +kernel
theorem t_D_ok : ∀ k, k < 6 → parseFieldDescriptor (F_D k).2.2.1 = some (t_D k) := by decide +kernel
def F_M : u_T := fun k => match k with
  | 0 => ("ChangeStoreModel", "commits", "I", false)
  | 1 => ("ChangeStoreModel", "changes", "I", false)
  | 2 => ("ChangeStoreModel", "change", "[I", false)
  | 3 => ("ChangeStoreModel", "parent", "[I", false)
  | 4 => ("ChangeStoreModel", "counts", "[J", false)
  | 5 => ("ChangeStoreModel", "operations", "I", false)
  | 6 => ("ChangeStoreModel", "first", "[I", false)
  | 7 => ("ChangeStoreModel", "second", "[I", false)
  | 8 => ("ChangeStoreModel", "joined", "[Z", false)
  | 9 => ("ChangeStoreModel", "seen", "[Z", false)
  | 10 => ("ChangeStoreModel", "marks", "[I", false)
  | 11 => ("ChangeStoreModel", "work", "[I", false)
  | 12 => ("ChangeStoreModel", "current", "[I", false)
  | 13 => ("ChangeStoreModel", "two", "Z", false)
  | 14 => ("ChangeStoreModel", "base", "I", false)
  | 15 => ("ChangeStoreModel", "chosen", "I", false)
  | 16 => ("ChangeStoreModel", "now", "[Z", false)
  | 17 => ("ChangeStoreModel", "nowMark", "[I", false)
  | 18 => ("ChangeStoreModel", "nowWork", "I", false)
  | 19 => ("ChangeStoreModel", "replaced", "[I", false)
  | 20 => ("ChangeStoreModel", "oldCommits", "I", false)
  | 21 => ("ChangeStoreModel", "oldChanges", "I", false)
  | _ => ("ChangeStoreModel", "full", "Z", false)
def t_M : Nat → FieldType := fun k => match k with
  | 0 => .int
  | 1 => .int
  | 2 => .array .int
  | 3 => .array .int
  | 4 => .array .long
  | 5 => .int
  | 6 => .array .int
  | 7 => .array .int
  | 8 => .array .boolean
  | 9 => .array .boolean
  | 10 => .array .int
  | 11 => .array .int
  | 12 => .array .int
  | 13 => .boolean
  | 14 => .int
  | 15 => .int
  | 16 => .array .boolean
  | 17 => .array .int
  | 18 => .int
  | 19 => .array .int
  | 20 => .int
  | 21 => .int
  | _ => .boolean
theorem n_M : ∀ a, a < 23 → ∀ b, b < 23 → a ≠ b → (F_M a).2.1 ≠ (F_M b).2.1 := by decide +kernel
theorem t_M_ok : ∀ k, k < 23 → parseFieldDescriptor (F_M k).2.2.1 = some (t_M k) := by decide +kernel
abbrev classes : List vw_C := [(R_S, F_S, 6), (R_C, F_C, 5), (R_O, F_O, 6), (R_D, F_D, 6), (R_M, F_M, 23)]
abbrev b_S_init : ByteArray := prog_1_method_1_code
def y_S_init : MethodName := ⟨R_S, "<init>", "()V"⟩
abbrev b_C_init : ByteArray := prog_2_method_1_code
def y_C_init : MethodName := ⟨R_C, "<init>", "()V"⟩
abbrev b_O_init : ByteArray := prog_4_method_1_code
def y_O_init : MethodName := ⟨R_O, "<init>", "()V"⟩
abbrev b_S_bit : ByteArray := prog_1_method_30_code
def y_S_bit : MethodName := ⟨R_S, "bit", "(I)J"⟩
abbrev b_D_init : ByteArray := prog_3_method_1_code
def y_D_init : MethodName := ⟨R_D, "<init>", "(LChangeStore$Commits;)V"⟩
abbrev b_S_create : ByteArray := prog_1_method_2_code
def y_S_create : MethodName := ⟨R_S, "create", "(I)I"⟩
abbrev b_S_openDraft : ByteArray := prog_1_method_25_code
def y_S_openDraft : MethodName := ⟨R_S, "openDraft", "()V"⟩
abbrev b_D_open : ByteArray := prog_3_method_2_code
def y_D_open : MethodName := ⟨R_D, "open", "(LChangeStore$Operations;I)V"⟩
abbrev b_D_start : ByteArray := prog_3_method_4_code
def y_D_start : MethodName := ⟨R_D, "start", "()V"⟩
abbrev b_A_fill : ByteArray := prog_8_method_103_code
def y_A_fill : MethodName := ⟨R_A, "fill", "([II)V"⟩
abbrev b_O_shownIn : ByteArray := prog_4_method_6_code
def y_O_shownIn : MethodName := ⟨R_O, "shownIn", "(I)J"⟩
abbrev b_O_has : ByteArray := prog_4_method_2_code
def y_O_has : MethodName := ⟨R_O, "has", "(I)Z"⟩
abbrev b_O_workingIn : ByteArray := prog_4_method_7_code
def y_O_workingIn : MethodName := ⟨R_O, "workingIn", "(I)I"⟩
abbrev b_O_markIn : ByteArray := prog_4_method_8_code
def y_O_markIn : MethodName := ⟨R_O, "markIn", "(II)I"⟩
abbrev b_S_isMark : ByteArray := prog_1_method_29_code
def y_S_isMark : MethodName := ⟨R_S, "isMark", "(I)Z"⟩
abbrev b_D_shows : ByteArray := prog_3_method_6_code
def y_D_shows : MethodName := ⟨R_D, "shows", "(I)Z"⟩
abbrev b_S_isIn : ByteArray := prog_1_method_31_code
def y_S_isIn : MethodName := ⟨R_S, "isIn", "(IJ)Z"⟩
abbrev b_S_hasRoomForCommit : ByteArray := prog_1_method_23_code
def y_S_hasRoomForCommit : MethodName := ⟨R_S, "hasRoomForCommit", "()Z"⟩
abbrev b_C_isFull : ByteArray := prog_2_method_3_code
def y_C_isFull : MethodName := ⟨R_C, "isFull", "()Z"⟩
abbrev b_O_isFull : ByteArray := prog_4_method_3_code
def y_O_isFull : MethodName := ⟨R_O, "isFull", "()Z"⟩
abbrev b_C_addNewChange : ByteArray := prog_2_method_11_code
def y_C_addNewChange : MethodName := ⟨R_C, "addNewChange", "(I)I"⟩
abbrev b_C_addCopy : ByteArray := prog_2_method_12_code
def y_C_addCopy : MethodName := ⟨R_C, "addCopy", "(III)I"⟩
abbrev b_C_has : ByteArray := prog_2_method_2_code
def y_C_has : MethodName := ⟨R_C, "has", "(I)Z"⟩
abbrev b_C_start : ByteArray := prog_2_method_17_code
def y_C_start : MethodName := ⟨R_C, "start", "(II)I"⟩
abbrev b_D_show : ByteArray := prog_3_method_7_code
def y_D_show : MethodName := ⟨R_D, "show", "(I)V"⟩
abbrev b_D_workOn : ByteArray := prog_3_method_8_code
def y_D_workOn : MethodName := ⟨R_D, "workOn", "(I)V"⟩
abbrev b_S_keepDraft : ByteArray := prog_1_method_26_code
def y_S_keepDraft : MethodName := ⟨R_S, "keepDraft", "(II)I"⟩
abbrev b_D_settleCommits : ByteArray := prog_3_method_10_code
def y_D_settleCommits : MethodName := ⟨R_D, "settleCommits", "()Z"⟩
abbrev b_D_lowestOrphan : ByteArray := prog_3_method_11_code
def y_D_lowestOrphan : MethodName := ⟨R_D, "lowestOrphan", "()I"⟩
abbrev b_C_parentOf : ByteArray := prog_2_method_4_code
def y_C_parentOf : MethodName := ⟨R_C, "parentOf", "(I)I"⟩
abbrev b_C_withAllThatComesOf : ByteArray := prog_2_method_8_code
def y_C_withAllThatComesOf : MethodName := ⟨R_C, "withAllThatComesOf", "(I)J"⟩
abbrev b_D_placeOf : ByteArray := prog_3_method_13_code
def y_D_placeOf : MethodName := ⟨R_D, "placeOf", "(IJ)I"⟩
abbrev b_D_nextTowardsPlace : ByteArray := prog_3_method_14_code
def y_D_nextTowardsPlace : MethodName := ⟨R_D, "nextTowardsPlace", "(IJ)I"⟩
abbrev b_C_changeOf : ByteArray := prog_2_method_5_code
def y_C_changeOf : MethodName := ⟨R_C, "changeOf", "(I)I"⟩
abbrev b_C_latestOfChange : ByteArray := prog_2_method_10_code
def y_C_latestOfChange : MethodName := ⟨R_C, "latestOfChange", "(IJ)I"⟩
abbrev b_C_addMoved : ByteArray := prog_2_method_13_code
def y_C_addMoved : MethodName := ⟨R_C, "addMoved", "(II)I"⟩
abbrev b_C_addDifference : ByteArray := prog_2_method_14_code
def y_C_addDifference : MethodName := ⟨R_C, "addDifference", "(IIII)V"⟩
abbrev b_C_makePlain : ByteArray := prog_2_method_15_code
def y_C_makePlain : MethodName := ⟨R_C, "makePlain", "(III)V"⟩
abbrev b_S_isPath : ByteArray := prog_1_method_27_code
def y_S_isPath : MethodName := ⟨R_S, "isPath", "(I)Z"⟩
abbrev b_S_isValue : ByteArray := prog_1_method_28_code
def y_S_isValue : MethodName := ⟨R_S, "isValue", "(I)Z"⟩
abbrev b_D_replace : ByteArray := prog_3_method_9_code
def y_D_replace : MethodName := ⟨R_D, "replace", "(II)V"⟩
abbrev b_C_dropFrom : ByteArray := prog_2_method_16_code
def y_C_dropFrom : MethodName := ⟨R_C, "dropFrom", "(I)V"⟩
abbrev b_D_settlePointers : ByteArray := prog_3_method_12_code
def y_D_settlePointers : MethodName := ⟨R_D, "settlePointers", "()V"⟩
abbrev b_O_add : ByteArray := prog_4_method_9_code
def y_O_add : MethodName := ⟨R_O, "add", "(LChangeStore$Draft;II)I"⟩
abbrev b_S_write : ByteArray := prog_1_method_3_code
def y_S_write : MethodName := ⟨R_S, "write", "(II)I"⟩
abbrev b_C_isPlain : ByteArray := prog_2_method_7_code
def y_C_isPlain : MethodName := ⟨R_C, "isPlain", "(III)Z"⟩
abbrev b_C_countOf : ByteArray := prog_2_method_6_code
def y_C_countOf : MethodName := ⟨R_C, "countOf", "(III)J"⟩
abbrev b_S_rebase : ByteArray := prog_1_method_4_code
def y_S_rebase : MethodName := ⟨R_S, "rebase", "(II)I"⟩
abbrev b_S_isReplaceable : ByteArray := prog_1_method_24_code
def y_S_isReplaceable : MethodName := ⟨R_S, "isReplaceable", "(I)Z"⟩
abbrev b_S_abandon : ByteArray := prog_1_method_5_code
def y_S_abandon : MethodName := ⟨R_S, "abandon", "(I)I"⟩
abbrev b_S_squash : ByteArray := prog_1_method_6_code
def y_S_squash : MethodName := ⟨R_S, "squash", "(I)I"⟩
abbrev b_S_edit : ByteArray := prog_1_method_7_code
def y_S_edit : MethodName := ⟨R_S, "edit", "(I)I"⟩
abbrev b_S_mark : ByteArray := prog_1_method_8_code
def y_S_mark : MethodName := ⟨R_S, "mark", "(II)I"⟩
abbrev b_S_undo : ByteArray := prog_1_method_9_code
def y_S_undo : MethodName := ⟨R_S, "undo", "()I"⟩
abbrev b_O_firstBefore : ByteArray := prog_4_method_4_code
def y_O_firstBefore : MethodName := ⟨R_O, "firstBefore", "(I)I"⟩
abbrev b_O_secondBefore : ByteArray := prog_4_method_5_code
def y_O_secondBefore : MethodName := ⟨R_O, "secondBefore", "(I)I"⟩
abbrev b_S_restore : ByteArray := prog_1_method_10_code
def y_S_restore : MethodName := ⟨R_S, "restore", "(I)I"⟩
abbrev b_S_fork : ByteArray := prog_1_method_11_code
def y_S_fork : MethodName := ⟨R_S, "fork", "(I)Z"⟩
abbrev b_S_hasLineOne : ByteArray := prog_1_method_22_code
def y_S_hasLineOne : MethodName := ⟨R_S, "hasLineOne", "()Z"⟩
abbrev b_S_choose : ByteArray := prog_1_method_12_code
def y_S_choose : MethodName := ⟨R_S, "choose", "(I)Z"⟩
abbrev b_S_join : ByteArray := prog_1_method_13_code
def y_S_join : MethodName := ⟨R_S, "join", "()I"⟩
abbrev b_D_openJoined : ByteArray := prog_3_method_3_code
def y_D_openJoined : MethodName := ⟨R_D, "openJoined", "(LChangeStore$Operations;III)V"⟩
abbrev b_D_joinedMark : ByteArray := prog_3_method_5_code
def y_D_joinedMark : MethodName := ⟨R_D, "joinedMark", "(III)I"⟩
abbrev b_S_operation : ByteArray := prog_1_method_14_code
def y_S_operation : MethodName := ⟨R_S, "operation", "()I"⟩
abbrev b_S_before : ByteArray := prog_1_method_15_code
def y_S_before : MethodName := ⟨R_S, "before", "(II)I"⟩
abbrev b_S_visible : ByteArray := prog_1_method_16_code
def y_S_visible : MethodName := ⟨R_S, "visible", "(II)Z"⟩
abbrev b_S_working : ByteArray := prog_1_method_17_code
def y_S_working : MethodName := ⟨R_S, "working", "(I)I"⟩
abbrev b_S_marked : ByteArray := prog_1_method_18_code
def y_S_marked : MethodName := ⟨R_S, "marked", "(II)I"⟩
abbrev b_S_head : ByteArray := prog_1_method_19_code
def y_S_head : MethodName := ⟨R_S, "head", "(II)I"⟩
abbrev b_C_parentsOf : ByteArray := prog_2_method_9_code
def y_C_parentsOf : MethodName := ⟨R_C, "parentsOf", "(J)J"⟩
abbrev b_S_commit : ByteArray := prog_1_method_20_code
def y_S_commit : MethodName := ⟨R_S, "commit", "(II)I"⟩
abbrev b_S_count : ByteArray := prog_1_method_21_code
def y_S_count : MethodName := ⟨R_S, "count", "(III)J"⟩
abbrev b_M_init : ByteArray := prog_6_method_1_code
def y_M_init : MethodName := ⟨R_M, "<init>", "()V"⟩
abbrev b_M_create : ByteArray := prog_6_method_18_code
def y_M_create : MethodName := ⟨R_M, "create", "(I)I"⟩
abbrev b_M_here : ByteArray := prog_6_method_2_code
def y_M_here : MethodName := ⟨R_M, "here", "()I"⟩
abbrev b_M_isVisible : ByteArray := prog_6_method_3_code
def y_M_isVisible : MethodName := ⟨R_M, "isVisible", "(II)Z"⟩
abbrev b_M_begin : ByteArray := prog_6_method_8_code
def y_M_begin : MethodName := ⟨R_M, "begin", "(I)V"⟩
abbrev b_M_fresh : ByteArray := prog_6_method_9_code
def y_M_fresh : MethodName := ⟨R_M, "fresh", "(II)I"⟩
abbrev b_M_copyContents : ByteArray := prog_6_method_6_code
def y_M_copyContents : MethodName := ⟨R_M, "copyContents", "(II)V"⟩
abbrev b_M_done : ByteArray := prog_6_method_17_code
def y_M_done : MethodName := ⟨R_M, "done", "()I"⟩
abbrev b_M_finish : ByteArray := prog_6_method_16_code
def y_M_finish : MethodName := ⟨R_M, "finish", "(II)I"⟩
abbrev b_M_write : ByteArray := prog_6_method_19_code
def y_M_write : MethodName := ⟨R_M, "write", "(II)I"⟩
abbrev b_M_plain : ByteArray := prog_6_method_4_code
def y_M_plain : MethodName := ⟨R_M, "plain", "(III)Z"⟩
abbrev b_M_setPlain : ByteArray := prog_6_method_5_code
def y_M_setPlain : MethodName := ⟨R_M, "setPlain", "(III)V"⟩
abbrev b_M_replace : ByteArray := prog_6_method_10_code
def y_M_replace : MethodName := ⟨R_M, "replace", "(II)V"⟩
abbrev b_M_settle : ByteArray := prog_6_method_15_code
def y_M_settle : MethodName := ⟨R_M, "settle", "()V"⟩
abbrev b_M_loose : ByteArray := prog_6_method_14_code
def y_M_loose : MethodName := ⟨R_M, "loose", "()I"⟩
abbrev b_M_place : ByteArray := prog_6_method_13_code
def y_M_place : MethodName := ⟨R_M, "place", "(II)I"⟩
abbrev b_M_sameChange : ByteArray := prog_6_method_12_code
def y_M_sameChange : MethodName := ⟨R_M, "sameChange", "(II)I"⟩
abbrev b_M_comesOf : ByteArray := prog_6_method_11_code
def y_M_comesOf : MethodName := ⟨R_M, "comesOf", "(II)Z"⟩
abbrev b_M_mix : ByteArray := prog_6_method_7_code
def y_M_mix : MethodName := ⟨R_M, "mix", "(IIII)V"⟩
abbrev b_M_rebase : ByteArray := prog_6_method_20_code
def y_M_rebase : MethodName := ⟨R_M, "rebase", "(II)I"⟩
abbrev b_M_abandon : ByteArray := prog_6_method_21_code
def y_M_abandon : MethodName := ⟨R_M, "abandon", "(I)I"⟩
abbrev b_M_squash : ByteArray := prog_6_method_22_code
def y_M_squash : MethodName := ⟨R_M, "squash", "(I)I"⟩
abbrev b_M_edit : ByteArray := prog_6_method_23_code
def y_M_edit : MethodName := ⟨R_M, "edit", "(I)I"⟩
abbrev b_M_mark : ByteArray := prog_6_method_24_code
def y_M_mark : MethodName := ⟨R_M, "mark", "(II)I"⟩
abbrev b_M_undo : ByteArray := prog_6_method_25_code
def y_M_undo : MethodName := ⟨R_M, "undo", "()I"⟩
abbrev b_M_restore : ByteArray := prog_6_method_26_code
def y_M_restore : MethodName := ⟨R_M, "restore", "(I)I"⟩
abbrev b_M_fork : ByteArray := prog_6_method_27_code
def y_M_fork : MethodName := ⟨R_M, "fork", "(I)Z"⟩
abbrev b_M_choose : ByteArray := prog_6_method_28_code
def y_M_choose : MethodName := ⟨R_M, "choose", "(I)Z"⟩
abbrev b_M_join : ByteArray := prog_6_method_30_code
def y_M_join : MethodName := ⟨R_M, "join", "()I"⟩
abbrev b_M_merged : ByteArray := prog_6_method_29_code
def y_M_merged : MethodName := ⟨R_M, "merged", "(III)I"⟩
abbrev b_M_operation : ByteArray := prog_6_method_32_code
def y_M_operation : MethodName := ⟨R_M, "operation", "()I"⟩
abbrev b_M_before : ByteArray := prog_6_method_33_code
def y_M_before : MethodName := ⟨R_M, "before", "(II)I"⟩
abbrev b_M_there : ByteArray := prog_6_method_31_code
def y_M_there : MethodName := ⟨R_M, "there", "(I)Z"⟩
abbrev b_M_visible : ByteArray := prog_6_method_34_code
def y_M_visible : MethodName := ⟨R_M, "visible", "(II)Z"⟩
abbrev b_M_working : ByteArray := prog_6_method_35_code
def y_M_working : MethodName := ⟨R_M, "working", "(I)I"⟩
abbrev b_M_marked : ByteArray := prog_6_method_36_code
def y_M_marked : MethodName := ⟨R_M, "marked", "(II)I"⟩
abbrev b_M_head : ByteArray := prog_6_method_38_code
def y_M_head : MethodName := ⟨R_M, "head", "(II)I"⟩
abbrev b_M_isHead : ByteArray := prog_6_method_37_code
def y_M_isHead : MethodName := ⟨R_M, "isHead", "(II)Z"⟩
abbrev b_M_commit : ByteArray := prog_6_method_39_code
def y_M_commit : MethodName := ⟨R_M, "commit", "(II)I"⟩
abbrev b_M_count : ByteArray := prog_6_method_40_code
def y_M_count : MethodName := ⟨R_M, "count", "(III)J"⟩
end
section
theorem d_S_init_0 : decode b_S_init 0 = .ok (.aload_n 0, 1) := by decide +kernel
theorem d_S_init_1 : decode b_S_init 1 = .ok (.invokespecial 1, 3) := by decide +kernel
theorem d_S_init_4 : decode b_S_init 4 = .ok (.aload_n 0, 1) := by decide +kernel
theorem d_S_init_5 : decode b_S_init 5 = .ok (.new 7, 3) := by decide +kernel
theorem d_S_init_8 : decode b_S_init 8 = .ok (.dup, 1) := by decide +kernel
theorem d_S_init_9 : decode b_S_init 9 = .ok (.invokespecial 9, 3) := by decide +kernel
theorem d_S_init_12 : decode b_S_init 12 = .ok (.putfield 10, 3) := by decide +kernel
theorem d_S_init_15 : decode b_S_init 15 = .ok (.aload_n 0, 1) := by decide +kernel
theorem d_S_init_16 : decode b_S_init 16 = .ok (.new 16, 3) := by decide +kernel
theorem d_S_init_19 : decode b_S_init 19 = .ok (.dup, 1) := by decide +kernel
theorem d_S_init_20 : decode b_S_init 20 = .ok (.invokespecial 18, 3) := by decide +kernel
theorem d_S_init_23 : decode b_S_init 23 = .ok (.putfield 19, 3) := by decide +kernel
theorem d_S_init_26 : decode b_S_init 26 = .ok (.aload_n 0, 1) := by decide +kernel
theorem d_S_init_27 : decode b_S_init 27 = .ok (.new 23, 3) := by decide +kernel
theorem d_S_init_30 : decode b_S_init 30 = .ok (.dup, 1) := by decide +kernel
theorem d_S_init_31 : decode b_S_init 31 = .ok (.aload_n 0, 1) := by decide +kernel
theorem d_S_init_32 : decode b_S_init 32 = .ok (.getfield 10, 3) := by decide +kernel
theorem d_S_init_35 : decode b_S_init 35 = .ok (.invokespecial 25, 3) := by decide +kernel
theorem d_S_init_38 : decode b_S_init 38 = .ok (.putfield 28, 3) := by decide +kernel
theorem d_S_init_41 : decode b_S_init 41 = .ok (.aload_n 0, 1) := by decide +kernel
theorem d_S_init_42 : decode b_S_init 42 = .ok (.iconst 2, 1) := by decide +kernel
theorem d_S_init_43 : decode b_S_init 43 = .ok (.newarray .int, 2) := by decide +kernel
theorem d_S_init_45 : decode b_S_init 45 = .ok (.dup, 1) := by decide +kernel
theorem d_S_init_46 : decode b_S_init 46 = .ok (.iconst 0, 1) := by decide +kernel
theorem d_S_init_47 : decode b_S_init 47 = .ok (.iconst 0, 1) := by decide +kernel
theorem d_S_init_48 : decode b_S_init 48 = .ok (.iastore, 1) := by decide +kernel
theorem d_S_init_49 : decode b_S_init 49 = .ok (.dup, 1) := by decide +kernel
theorem d_S_init_50 : decode b_S_init 50 = .ok (.iconst 1, 1) := by decide +kernel
theorem d_S_init_51 : decode b_S_init 51 = .ok (.iconst (-1), 1) := by decide +kernel
theorem d_S_init_52 : decode b_S_init 52 = .ok (.iastore, 1) := by decide +kernel
theorem d_S_init_53 : decode b_S_init 53 = .ok (.putfield 32, 3) := by decide +kernel
theorem d_S_init_56 : decode b_S_init 56 = .ok (.aload_n 0, 1) := by decide +kernel
theorem d_S_init_57 : decode b_S_init 57 = .ok (.iconst 0, 1) := by decide +kernel
theorem d_S_init_58 : decode b_S_init 58 = .ok (.putfield 36, 3) := by decide +kernel
theorem d_S_init_61 : decode b_S_init 61 = .ok (.aload_n 0, 1) := by decide +kernel
theorem d_S_init_62 : decode b_S_init 62 = .ok (.iconst (-1), 1) := by decide +kernel
theorem d_S_init_63 : decode b_S_init 63 = .ok (.putfield 40, 3) := by decide +kernel
theorem d_S_init_66 : decode b_S_init 66 = .ok (.return_, 1) := by decide +kernel
theorem d_C_init_0 : decode b_C_init 0 = .ok (.aload_n 0, 1) := by decide +kernel
theorem d_C_init_1 : decode b_C_init 1 = .ok (.invokespecial 3, 3) := by decide +kernel
theorem d_C_init_4 : decode b_C_init 4 = .ok (.aload_n 0, 1) := by decide +kernel
theorem d_C_init_5 : decode b_C_init 5 = .ok (.bipush 60, 2) := by decide +kernel
theorem d_C_init_7 : decode b_C_init 7 = .ok (.newarray .int, 2) := by decide +kernel
theorem d_C_init_9 : decode b_C_init 9 = .ok (.putfield 9, 3) := by decide +kernel
theorem d_C_init_12 : decode b_C_init 12 = .ok (.aload_n 0, 1) := by decide +kernel
theorem d_C_init_13 : decode b_C_init 13 = .ok (.bipush 60, 2) := by decide +kernel
theorem d_C_init_15 : decode b_C_init 15 = .ok (.newarray .int, 2) := by decide +kernel
theorem d_C_init_17 : decode b_C_init 17 = .ok (.putfield 15, 3) := by decide +kernel
theorem d_C_init_20 : decode b_C_init 20 = .ok (.aload_n 0, 1) := by decide +kernel
theorem d_C_init_21 : decode b_C_init 21 = .ok (.sipush 1920, 3) := by decide +kernel
theorem d_C_init_24 : decode b_C_init 24 = .ok (.newarray .long, 2) := by decide +kernel
theorem d_C_init_26 : decode b_C_init 26 = .ok (.putfield 18, 3) := by decide +kernel
theorem d_C_init_29 : decode b_C_init 29 = .ok (.aload_n 0, 1) := by decide +kernel
theorem d_C_init_30 : decode b_C_init 30 = .ok (.getfield 9, 3) := by decide +kernel
theorem d_C_init_33 : decode b_C_init 33 = .ok (.iconst 0, 1) := by decide +kernel
theorem d_C_init_34 : decode b_C_init 34 = .ok (.iconst (-1), 1) := by decide +kernel
theorem d_C_init_35 : decode b_C_init 35 = .ok (.iastore, 1) := by decide +kernel
theorem d_C_init_36 : decode b_C_init 36 = .ok (.iconst 0, 1) := by decide +kernel
theorem d_C_init_37 : decode b_C_init 37 = .ok (.istore_n 1, 1) := by decide +kernel
theorem d_C_init_38 : decode b_C_init 38 = .ok (.iload_n 1, 1) := by decide +kernel
theorem d_C_init_39 : decode b_C_init 39 = .ok (.iconst 4, 1) := by decide +kernel
theorem d_C_init_40 : decode b_C_init 40 = .ok (.if_icmp .ge 19, 3) := by decide +kernel
theorem d_C_init_43 : decode b_C_init 43 = .ok (.aload_n 0, 1) := by decide +kernel
theorem d_C_init_44 : decode b_C_init 44 = .ok (.getfield 18, 3) := by decide +kernel
theorem d_C_init_47 : decode b_C_init 47 = .ok (.iload_n 1, 1) := by decide +kernel
theorem d_C_init_48 : decode b_C_init 48 = .ok (.bipush 8, 2) := by decide +kernel
theorem d_C_init_50 : decode b_C_init 50 = .ok (.imul, 1) := by decide +kernel
theorem d_C_init_51 : decode b_C_init 51 = .ok (.lconst 1, 1) := by decide +kernel
theorem d_C_init_52 : decode b_C_init 52 = .ok (.lastore, 1) := by decide +kernel
theorem d_C_init_53 : decode b_C_init 53 = .ok (.iinc 1 1, 3) := by decide +kernel
theorem d_C_init_56 : decode b_C_init 56 = .ok (.goto (-18), 3) := by decide +kernel
theorem d_C_init_59 : decode b_C_init 59 = .ok (.aload_n 0, 1) := by decide +kernel
theorem d_C_init_60 : decode b_C_init 60 = .ok (.iconst 1, 1) := by decide +kernel
theorem d_C_init_61 : decode b_C_init 61 = .ok (.putfield 22, 3) := by decide +kernel
theorem d_C_init_64 : decode b_C_init 64 = .ok (.aload_n 0, 1) := by decide +kernel
theorem d_C_init_65 : decode b_C_init 65 = .ok (.iconst 0, 1) := by decide +kernel
theorem d_C_init_66 : decode b_C_init 66 = .ok (.putfield 26, 3) := by decide +kernel
theorem d_C_init_69 : decode b_C_init 69 = .ok (.return_, 1) := by decide +kernel
theorem d_O_init_0 : decode b_O_init 0 = .ok (.aload_n 0, 1) := by decide +kernel
theorem d_O_init_1 : decode b_O_init 1 = .ok (.invokespecial 3, 3) := by decide +kernel
theorem d_O_init_4 : decode b_O_init 4 = .ok (.aload_n 0, 1) := by decide +kernel
theorem d_O_init_5 : decode b_O_init 5 = .ok (.bipush 100, 2) := by decide +kernel
theorem d_O_init_7 : decode b_O_init 7 = .ok (.newarray .int, 2) := by decide +kernel
theorem d_O_init_9 : decode b_O_init 9 = .ok (.putfield 9, 3) := by decide +kernel
theorem d_O_init_12 : decode b_O_init 12 = .ok (.aload_n 0, 1) := by decide +kernel
theorem d_O_init_13 : decode b_O_init 13 = .ok (.bipush 100, 2) := by decide +kernel
theorem d_O_init_15 : decode b_O_init 15 = .ok (.newarray .int, 2) := by decide +kernel
theorem d_O_init_17 : decode b_O_init 17 = .ok (.putfield 15, 3) := by decide +kernel
theorem d_O_init_20 : decode b_O_init 20 = .ok (.aload_n 0, 1) := by decide +kernel
theorem d_O_init_21 : decode b_O_init 21 = .ok (.bipush 100, 2) := by decide +kernel
theorem d_O_init_23 : decode b_O_init 23 = .ok (.newarray .long, 2) := by decide +kernel
theorem d_O_init_25 : decode b_O_init 25 = .ok (.putfield 18, 3) := by decide +kernel
theorem d_O_init_28 : decode b_O_init 28 = .ok (.aload_n 0, 1) := by decide +kernel
theorem d_O_init_29 : decode b_O_init 29 = .ok (.bipush 100, 2) := by decide +kernel
theorem d_O_init_31 : decode b_O_init 31 = .ok (.newarray .int, 2) := by decide +kernel
theorem d_O_init_33 : decode b_O_init 33 = .ok (.putfield 22, 3) := by decide +kernel
theorem d_O_init_36 : decode b_O_init 36 = .ok (.aload_n 0, 1) := by decide +kernel
theorem d_O_init_37 : decode b_O_init 37 = .ok (.sipush 300, 3) := by decide +kernel
theorem d_O_init_40 : decode b_O_init 40 = .ok (.newarray .int, 2) := by decide +kernel
theorem d_O_init_42 : decode b_O_init 42 = .ok (.putfield 25, 3) := by decide +kernel
theorem d_O_init_45 : decode b_O_init 45 = .ok (.aload_n 0, 1) := by decide +kernel
theorem d_O_init_46 : decode b_O_init 46 = .ok (.getfield 9, 3) := by decide +kernel
theorem d_O_init_49 : decode b_O_init 49 = .ok (.iconst 0, 1) := by decide +kernel
theorem d_O_init_50 : decode b_O_init 50 = .ok (.iconst (-1), 1) := by decide +kernel
theorem d_O_init_51 : decode b_O_init 51 = .ok (.iastore, 1) := by decide +kernel
theorem d_O_init_52 : decode b_O_init 52 = .ok (.aload_n 0, 1) := by decide +kernel
theorem d_O_init_53 : decode b_O_init 53 = .ok (.getfield 15, 3) := by decide +kernel
theorem d_O_init_56 : decode b_O_init 56 = .ok (.iconst 0, 1) := by decide +kernel
theorem d_O_init_57 : decode b_O_init 57 = .ok (.iconst (-1), 1) := by decide +kernel
theorem d_O_init_58 : decode b_O_init 58 = .ok (.iastore, 1) := by decide +kernel
theorem d_O_init_59 : decode b_O_init 59 = .ok (.aload_n 0, 1) := by decide +kernel
theorem d_O_init_60 : decode b_O_init 60 = .ok (.getfield 18, 3) := by decide +kernel
theorem d_O_init_63 : decode b_O_init 63 = .ok (.iconst 0, 1) := by decide +kernel
theorem d_O_init_64 : decode b_O_init 64 = .ok (.iconst 0, 1) := by decide +kernel
theorem d_O_init_65 : decode b_O_init 65 = .ok (.invokestatic 28, 3) := by decide +kernel
theorem d_O_init_68 : decode b_O_init 68 = .ok (.lastore, 1) := by decide +kernel
theorem d_O_init_69 : decode b_O_init 69 = .ok (.aload_n 0, 1) := by decide +kernel
theorem d_O_init_70 : decode b_O_init 70 = .ok (.getfield 22, 3) := by decide +kernel
theorem d_O_init_73 : decode b_O_init 73 = .ok (.iconst 0, 1) := by decide +kernel
theorem d_O_init_74 : decode b_O_init 74 = .ok (.iconst 0, 1) := by decide +kernel
theorem d_O_init_75 : decode b_O_init 75 = .ok (.iastore, 1) := by decide +kernel
theorem d_O_init_76 : decode b_O_init 76 = .ok (.iconst 0, 1) := by decide +kernel
theorem d_O_init_77 : decode b_O_init 77 = .ok (.istore_n 1, 1) := by decide +kernel
theorem d_O_init_78 : decode b_O_init 78 = .ok (.iload_n 1, 1) := by decide +kernel
theorem d_O_init_79 : decode b_O_init 79 = .ok (.iconst 3, 1) := by decide +kernel
theorem d_O_init_80 : decode b_O_init 80 = .ok (.if_icmp .ge 16, 3) := by decide +kernel
theorem d_O_init_83 : decode b_O_init 83 = .ok (.aload_n 0, 1) := by decide +kernel
theorem d_O_init_84 : decode b_O_init 84 = .ok (.getfield 25, 3) := by decide +kernel
theorem d_O_init_87 : decode b_O_init 87 = .ok (.iload_n 1, 1) := by decide +kernel
theorem d_O_init_88 : decode b_O_init 88 = .ok (.iconst (-1), 1) := by decide +kernel
theorem d_O_init_89 : decode b_O_init 89 = .ok (.iastore, 1) := by decide +kernel
theorem d_O_init_90 : decode b_O_init 90 = .ok (.iinc 1 1, 3) := by decide +kernel
theorem d_O_init_93 : decode b_O_init 93 = .ok (.goto (-15), 3) := by decide +kernel
theorem d_O_init_96 : decode b_O_init 96 = .ok (.aload_n 0, 1) := by decide +kernel
theorem d_O_init_97 : decode b_O_init 97 = .ok (.iconst 1, 1) := by decide +kernel
theorem d_O_init_98 : decode b_O_init 98 = .ok (.putfield 32, 3) := by decide +kernel
theorem d_O_init_101 : decode b_O_init 101 = .ok (.return_, 1) := by decide +kernel
theorem d_S_bit_0 : decode b_S_bit 0 = .ok (.lconst 1, 1) := by decide +kernel
theorem d_S_bit_1 : decode b_S_bit 1 = .ok (.iload_n 0, 1) := by decide +kernel
theorem d_S_bit_2 : decode b_S_bit 2 = .ok (.lshl, 1) := by decide +kernel
theorem d_S_bit_3 : decode b_S_bit 3 = .ok (.lreturn, 1) := by decide +kernel
theorem d_D_init_0 : decode b_D_init 0 = .ok (.aload_n 0, 1) := by decide +kernel
theorem d_D_init_1 : decode b_D_init 1 = .ok (.invokespecial 3, 3) := by decide +kernel
theorem d_D_init_4 : decode b_D_init 4 = .ok (.aload_n 0, 1) := by decide +kernel
theorem d_D_init_5 : decode b_D_init 5 = .ok (.aload_n 1, 1) := by decide +kernel
theorem d_D_init_6 : decode b_D_init 6 = .ok (.putfield 9, 3) := by decide +kernel
theorem d_D_init_9 : decode b_D_init 9 = .ok (.aload_n 0, 1) := by decide +kernel
theorem d_D_init_10 : decode b_D_init 10 = .ok (.iconst 3, 1) := by decide +kernel
theorem d_D_init_11 : decode b_D_init 11 = .ok (.newarray .int, 2) := by decide +kernel
theorem d_D_init_13 : decode b_D_init 13 = .ok (.putfield 15, 3) := by decide +kernel
theorem d_D_init_16 : decode b_D_init 16 = .ok (.aload_n 0, 1) := by decide +kernel
theorem d_D_init_17 : decode b_D_init 17 = .ok (.bipush 60, 2) := by decide +kernel
theorem d_D_init_19 : decode b_D_init 19 = .ok (.newarray .int, 2) := by decide +kernel
theorem d_D_init_21 : decode b_D_init 21 = .ok (.putfield 19, 3) := by decide +kernel
theorem d_D_init_24 : decode b_D_init 24 = .ok (.return_, 1) := by decide +kernel
theorem d_S_create_0 : decode b_S_create 0 = .ok (.aload_n 0, 1) := by decide +kernel
theorem d_S_create_1 : decode b_S_create 1 = .ok (.invokevirtual 43, 3) := by decide +kernel
theorem d_S_create_4 : decode b_S_create 4 = .ok (.aload_n 0, 1) := by decide +kernel
theorem d_S_create_5 : decode b_S_create 5 = .ok (.getfield 28, 3) := by decide +kernel
theorem d_S_create_8 : decode b_S_create 8 = .ok (.iload_n 1, 1) := by decide +kernel
theorem d_S_create_9 : decode b_S_create 9 = .ok (.invokevirtual 46, 3) := by decide +kernel
theorem d_S_create_12 : decode b_S_create 12 = .ok (.ifCond .ne 5, 3) := by decide +kernel
theorem d_S_create_15 : decode b_S_create 15 = .ok (.iconst (-1), 1) := by decide +kernel
theorem d_S_create_16 : decode b_S_create 16 = .ok (.ireturn, 1) := by decide +kernel
theorem d_S_create_17 : decode b_S_create 17 = .ok (.aload_n 0, 1) := by decide +kernel
theorem d_S_create_18 : decode b_S_create 18 = .ok (.invokevirtual 50, 3) := by decide +kernel
theorem d_S_create_21 : decode b_S_create 21 = .ok (.ifCond .ne 6, 3) := by decide +kernel
theorem d_S_create_24 : decode b_S_create 24 = .ok (.bipush (-3), 2) := by decide +kernel
theorem d_S_create_26 : decode b_S_create 26 = .ok (.ireturn, 1) := by decide +kernel
theorem d_S_create_27 : decode b_S_create 27 = .ok (.aload_n 0, 1) := by decide +kernel
theorem d_S_create_28 : decode b_S_create 28 = .ok (.getfield 10, 3) := by decide +kernel
theorem d_S_create_31 : decode b_S_create 31 = .ok (.iload_n 1, 1) := by decide +kernel
theorem d_S_create_32 : decode b_S_create 32 = .ok (.invokevirtual 54, 3) := by decide +kernel
theorem d_S_create_35 : decode b_S_create 35 = .ok (.istore_n 2, 1) := by decide +kernel
theorem d_S_create_36 : decode b_S_create 36 = .ok (.aload_n 0, 1) := by decide +kernel
theorem d_S_create_37 : decode b_S_create 37 = .ok (.getfield 28, 3) := by decide +kernel
theorem d_S_create_40 : decode b_S_create 40 = .ok (.iload_n 2, 1) := by decide +kernel
theorem d_S_create_41 : decode b_S_create 41 = .ok (.invokevirtual 58, 3) := by decide +kernel
theorem d_S_create_44 : decode b_S_create 44 = .ok (.aload_n 0, 1) := by decide +kernel
theorem d_S_create_45 : decode b_S_create 45 = .ok (.getfield 28, 3) := by decide +kernel
theorem d_S_create_48 : decode b_S_create 48 = .ok (.iload_n 2, 1) := by decide +kernel
theorem d_S_create_49 : decode b_S_create 49 = .ok (.invokevirtual 62, 3) := by decide +kernel
theorem d_S_create_52 : decode b_S_create 52 = .ok (.aload_n 0, 1) := by decide +kernel
theorem d_S_create_53 : decode b_S_create 53 = .ok (.aload_n 0, 1) := by decide +kernel
theorem d_S_create_54 : decode b_S_create 54 = .ok (.getfield 36, 3) := by decide +kernel
theorem d_S_create_57 : decode b_S_create 57 = .ok (.iconst (-1), 1) := by decide +kernel
theorem d_S_create_58 : decode b_S_create 58 = .ok (.invokevirtual 65, 3) := by decide +kernel
theorem d_S_create_61 : decode b_S_create 61 = .ok (.ireturn, 1) := by decide +kernel
theorem d_S_openDraft_0 : decode b_S_openDraft 0 = .ok (.aload_n 0, 1) := by decide +kernel
theorem d_S_openDraft_1 : decode b_S_openDraft 1 = .ok (.getfield 28, 3) := by decide +kernel
theorem d_S_openDraft_4 : decode b_S_openDraft 4 = .ok (.aload_n 0, 1) := by decide +kernel
theorem d_S_openDraft_5 : decode b_S_openDraft 5 = .ok (.getfield 19, 3) := by decide +kernel
theorem d_S_openDraft_8 : decode b_S_openDraft 8 = .ok (.aload_n 0, 1) := by decide +kernel
theorem d_S_openDraft_9 : decode b_S_openDraft 9 = .ok (.getfield 32, 3) := by decide +kernel
theorem d_S_openDraft_12 : decode b_S_openDraft 12 = .ok (.aload_n 0, 1) := by decide +kernel
theorem d_S_openDraft_13 : decode b_S_openDraft 13 = .ok (.getfield 36, 3) := by decide +kernel
theorem d_S_openDraft_16 : decode b_S_openDraft 16 = .ok (.iaload, 1) := by decide +kernel
theorem d_S_openDraft_17 : decode b_S_openDraft 17 = .ok (.invokevirtual 126, 3) := by decide +kernel
theorem d_S_openDraft_20 : decode b_S_openDraft 20 = .ok (.return_, 1) := by decide +kernel
theorem d_D_open_0 : decode b_D_open 0 = .ok (.aload_n 0, 1) := by decide +kernel
theorem d_D_open_1 : decode b_D_open 1 = .ok (.invokevirtual 22, 3) := by decide +kernel
theorem d_D_open_4 : decode b_D_open 4 = .ok (.aload_n 0, 1) := by decide +kernel
theorem d_D_open_5 : decode b_D_open 5 = .ok (.aload_n 1, 1) := by decide +kernel
theorem d_D_open_6 : decode b_D_open 6 = .ok (.iload_n 2, 1) := by decide +kernel
theorem d_D_open_7 : decode b_D_open 7 = .ok (.invokevirtual 25, 3) := by decide +kernel
theorem d_D_open_10 : decode b_D_open 10 = .ok (.putfield 31, 3) := by decide +kernel
theorem d_D_open_13 : decode b_D_open 13 = .ok (.aload_n 0, 1) := by decide +kernel
theorem d_D_open_14 : decode b_D_open 14 = .ok (.aload_n 1, 1) := by decide +kernel
theorem d_D_open_15 : decode b_D_open 15 = .ok (.iload_n 2, 1) := by decide +kernel
theorem d_D_open_16 : decode b_D_open 16 = .ok (.invokevirtual 35, 3) := by decide +kernel
theorem d_D_open_19 : decode b_D_open 19 = .ok (.putfield 39, 3) := by decide +kernel
theorem d_D_open_22 : decode b_D_open 22 = .ok (.iconst 0, 1) := by decide +kernel
theorem d_D_open_23 : decode b_D_open 23 = .ok (.istore_n 3, 1) := by decide +kernel
theorem d_D_open_24 : decode b_D_open 24 = .ok (.iload_n 3, 1) := by decide +kernel
theorem d_D_open_25 : decode b_D_open 25 = .ok (.iconst 3, 1) := by decide +kernel
theorem d_D_open_26 : decode b_D_open 26 = .ok (.if_icmp .ge 21, 3) := by decide +kernel
theorem d_D_open_29 : decode b_D_open 29 = .ok (.aload_n 0, 1) := by decide +kernel
theorem d_D_open_30 : decode b_D_open 30 = .ok (.getfield 15, 3) := by decide +kernel
theorem d_D_open_33 : decode b_D_open 33 = .ok (.iload_n 3, 1) := by decide +kernel
theorem d_D_open_34 : decode b_D_open 34 = .ok (.aload_n 1, 1) := by decide +kernel
theorem d_D_open_35 : decode b_D_open 35 = .ok (.iload_n 2, 1) := by decide +kernel
theorem d_D_open_36 : decode b_D_open 36 = .ok (.iload_n 3, 1) := by decide +kernel
theorem d_D_open_37 : decode b_D_open 37 = .ok (.invokevirtual 43, 3) := by decide +kernel
theorem d_D_open_40 : decode b_D_open 40 = .ok (.iastore, 1) := by decide +kernel
theorem d_D_open_41 : decode b_D_open 41 = .ok (.iinc 3 1, 3) := by decide +kernel
theorem d_D_open_44 : decode b_D_open 44 = .ok (.goto (-20), 3) := by decide +kernel
theorem d_D_open_47 : decode b_D_open 47 = .ok (.return_, 1) := by decide +kernel
theorem d_D_start_0 : decode b_D_start 0 = .ok (.aload_n 0, 1) := by decide +kernel
theorem d_D_start_1 : decode b_D_start 1 = .ok (.getfield 19, 3) := by decide +kernel
theorem d_D_start_4 : decode b_D_start 4 = .ok (.iconst (-1), 1) := by decide +kernel
theorem d_D_start_5 : decode b_D_start 5 = .ok (.invokestatic 53, 3) := by decide +kernel
theorem d_D_start_8 : decode b_D_start 8 = .ok (.aload_n 0, 1) := by decide +kernel
theorem d_D_start_9 : decode b_D_start 9 = .ok (.aload_n 0, 1) := by decide +kernel
theorem d_D_start_10 : decode b_D_start 10 = .ok (.getfield 9, 3) := by decide +kernel
theorem d_D_start_13 : decode b_D_start 13 = .ok (.getfield 59, 3) := by decide +kernel
theorem d_D_start_16 : decode b_D_start 16 = .ok (.putfield 64, 3) := by decide +kernel
theorem d_D_start_19 : decode b_D_start 19 = .ok (.return_, 1) := by decide +kernel
theorem d_A_fill_0 : decode b_A_fill 0 = .ok (.iconst 0, 1) := by decide +kernel
theorem d_A_fill_1 : decode b_A_fill 1 = .ok (.istore_n 2, 1) := by decide +kernel
theorem d_A_fill_2 : decode b_A_fill 2 = .ok (.aload_n 0, 1) := by decide +kernel
theorem d_A_fill_3 : decode b_A_fill 3 = .ok (.arraylength, 1) := by decide +kernel
theorem d_A_fill_4 : decode b_A_fill 4 = .ok (.istore_n 3, 1) := by decide +kernel
theorem d_A_fill_5 : decode b_A_fill 5 = .ok (.iload_n 2, 1) := by decide +kernel
theorem d_A_fill_6 : decode b_A_fill 6 = .ok (.iload_n 3, 1) := by decide +kernel
theorem d_A_fill_7 : decode b_A_fill 7 = .ok (.if_icmp .ge 13, 3) := by decide +kernel
theorem d_A_fill_10 : decode b_A_fill 10 = .ok (.aload_n 0, 1) := by decide +kernel
theorem d_A_fill_11 : decode b_A_fill 11 = .ok (.iload_n 2, 1) := by decide +kernel
theorem d_A_fill_12 : decode b_A_fill 12 = .ok (.iload_n 1, 1) := by decide +kernel
theorem d_A_fill_13 : decode b_A_fill 13 = .ok (.iastore, 1) := by decide +kernel
theorem d_A_fill_14 : decode b_A_fill 14 = .ok (.iinc 2 1, 3) := by decide +kernel
theorem d_A_fill_17 : decode b_A_fill 17 = .ok (.goto (-12), 3) := by decide +kernel
theorem d_A_fill_20 : decode b_A_fill 20 = .ok (.return_, 1) := by decide +kernel
theorem d_O_shownIn_0 : decode b_O_shownIn 0 = .ok (.aload_n 0, 1) := by decide +kernel
theorem d_O_shownIn_1 : decode b_O_shownIn 1 = .ok (.iload_n 1, 1) := by decide +kernel
theorem d_O_shownIn_2 : decode b_O_shownIn 2 = .ok (.invokevirtual 36, 3) := by decide +kernel
theorem d_O_shownIn_5 : decode b_O_shownIn 5 = .ok (.ifCond .eq 12, 3) := by decide +kernel
theorem d_O_shownIn_8 : decode b_O_shownIn 8 = .ok (.aload_n 0, 1) := by decide +kernel
theorem d_O_shownIn_9 : decode b_O_shownIn 9 = .ok (.getfield 18, 3) := by decide +kernel
theorem d_O_shownIn_12 : decode b_O_shownIn 12 = .ok (.iload_n 1, 1) := by decide +kernel
theorem d_O_shownIn_13 : decode b_O_shownIn 13 = .ok (.laload, 1) := by decide +kernel
theorem d_O_shownIn_14 : decode b_O_shownIn 14 = .ok (.goto 4, 3) := by decide +kernel
theorem d_O_shownIn_17 : decode b_O_shownIn 17 = .ok (.lconst 0, 1) := by decide +kernel
theorem d_O_shownIn_18 : decode b_O_shownIn 18 = .ok (.lreturn, 1) := by decide +kernel
theorem d_O_has_0 : decode b_O_has 0 = .ok (.iload_n 1, 1) := by decide +kernel
theorem d_O_has_1 : decode b_O_has 1 = .ok (.ifCond .lt 15, 3) := by decide +kernel
theorem d_O_has_4 : decode b_O_has 4 = .ok (.iload_n 1, 1) := by decide +kernel
theorem d_O_has_5 : decode b_O_has 5 = .ok (.aload_n 0, 1) := by decide +kernel
theorem d_O_has_6 : decode b_O_has 6 = .ok (.getfield 32, 3) := by decide +kernel
theorem d_O_has_9 : decode b_O_has 9 = .ok (.if_icmp .ge 7, 3) := by decide +kernel
theorem d_O_has_12 : decode b_O_has 12 = .ok (.iconst 1, 1) := by decide +kernel
theorem d_O_has_13 : decode b_O_has 13 = .ok (.goto 4, 3) := by decide +kernel
theorem d_O_has_16 : decode b_O_has 16 = .ok (.iconst 0, 1) := by decide +kernel
theorem d_O_has_17 : decode b_O_has 17 = .ok (.ireturn, 1) := by decide +kernel
theorem d_O_workingIn_0 : decode b_O_workingIn 0 = .ok (.aload_n 0, 1) := by decide +kernel
theorem d_O_workingIn_1 : decode b_O_workingIn 1 = .ok (.iload_n 1, 1) := by decide +kernel
theorem d_O_workingIn_2 : decode b_O_workingIn 2 = .ok (.invokevirtual 36, 3) := by decide +kernel
theorem d_O_workingIn_5 : decode b_O_workingIn 5 = .ok (.ifCond .eq 12, 3) := by decide +kernel
theorem d_O_workingIn_8 : decode b_O_workingIn 8 = .ok (.aload_n 0, 1) := by decide +kernel
theorem d_O_workingIn_9 : decode b_O_workingIn 9 = .ok (.getfield 22, 3) := by decide +kernel
theorem d_O_workingIn_12 : decode b_O_workingIn 12 = .ok (.iload_n 1, 1) := by decide +kernel
theorem d_O_workingIn_13 : decode b_O_workingIn 13 = .ok (.iaload, 1) := by decide +kernel
theorem d_O_workingIn_14 : decode b_O_workingIn 14 = .ok (.goto 4, 3) := by decide +kernel
theorem d_O_workingIn_17 : decode b_O_workingIn 17 = .ok (.iconst (-1), 1) := by decide +kernel
theorem d_O_workingIn_18 : decode b_O_workingIn 18 = .ok (.ireturn, 1) := by decide +kernel
theorem d_O_markIn_0 : decode b_O_markIn 0 = .ok (.aload_n 0, 1) := by decide +kernel
theorem d_O_markIn_1 : decode b_O_markIn 1 = .ok (.iload_n 1, 1) := by decide +kernel
theorem d_O_markIn_2 : decode b_O_markIn 2 = .ok (.invokevirtual 36, 3) := by decide +kernel
theorem d_O_markIn_5 : decode b_O_markIn 5 = .ok (.ifCond .eq 23, 3) := by decide +kernel
theorem d_O_markIn_8 : decode b_O_markIn 8 = .ok (.iload_n 2, 1) := by decide +kernel
theorem d_O_markIn_9 : decode b_O_markIn 9 = .ok (.invokestatic 40, 3) := by decide +kernel
theorem d_O_markIn_12 : decode b_O_markIn 12 = .ok (.ifCond .eq 16, 3) := by decide +kernel
theorem d_O_markIn_15 : decode b_O_markIn 15 = .ok (.aload_n 0, 1) := by decide +kernel
theorem d_O_markIn_16 : decode b_O_markIn 16 = .ok (.getfield 25, 3) := by decide +kernel
theorem d_O_markIn_19 : decode b_O_markIn 19 = .ok (.iload_n 1, 1) := by decide +kernel
theorem d_O_markIn_20 : decode b_O_markIn 20 = .ok (.iconst 3, 1) := by decide +kernel
theorem d_O_markIn_21 : decode b_O_markIn 21 = .ok (.imul, 1) := by decide +kernel
theorem d_O_markIn_22 : decode b_O_markIn 22 = .ok (.iload_n 2, 1) := by decide +kernel
theorem d_O_markIn_23 : decode b_O_markIn 23 = .ok (.iadd, 1) := by decide +kernel
theorem d_O_markIn_24 : decode b_O_markIn 24 = .ok (.iaload, 1) := by decide +kernel
theorem d_O_markIn_25 : decode b_O_markIn 25 = .ok (.goto 4, 3) := by decide +kernel
theorem d_O_markIn_28 : decode b_O_markIn 28 = .ok (.iconst (-1), 1) := by decide +kernel
theorem d_O_markIn_29 : decode b_O_markIn 29 = .ok (.ireturn, 1) := by decide +kernel
theorem d_S_isMark_0 : decode b_S_isMark 0 = .ok (.iload_n 0, 1) := by decide +kernel
theorem d_S_isMark_1 : decode b_S_isMark 1 = .ok (.ifCond .lt 12, 3) := by decide +kernel
theorem d_S_isMark_4 : decode b_S_isMark 4 = .ok (.iload_n 0, 1) := by decide +kernel
theorem d_S_isMark_5 : decode b_S_isMark 5 = .ok (.iconst 3, 1) := by decide +kernel
theorem d_S_isMark_6 : decode b_S_isMark 6 = .ok (.if_icmp .ge 7, 3) := by decide +kernel
theorem d_S_isMark_9 : decode b_S_isMark 9 = .ok (.iconst 1, 1) := by decide +kernel
theorem d_S_isMark_10 : decode b_S_isMark 10 = .ok (.goto 4, 3) := by decide +kernel
theorem d_S_isMark_13 : decode b_S_isMark 13 = .ok (.iconst 0, 1) := by decide +kernel
theorem d_S_isMark_14 : decode b_S_isMark 14 = .ok (.ireturn, 1) := by decide +kernel
theorem d_D_shows_0 : decode b_D_shows 0 = .ok (.iload_n 1, 1) := by decide +kernel
theorem d_D_shows_1 : decode b_D_shows 1 = .ok (.aload_n 0, 1) := by decide +kernel
theorem d_D_shows_2 : decode b_D_shows 2 = .ok (.getfield 31, 3) := by decide +kernel
theorem d_D_shows_5 : decode b_D_shows 5 = .ok (.invokestatic 67, 3) := by decide +kernel
theorem d_D_shows_8 : decode b_D_shows 8 = .ok (.ireturn, 1) := by decide +kernel
theorem d_S_isIn_0 : decode b_S_isIn 0 = .ok (.iload_n 0, 1) := by decide +kernel
theorem d_S_isIn_1 : decode b_S_isIn 1 = .ok (.ifCond .lt 23, 3) := by decide +kernel
theorem d_S_isIn_4 : decode b_S_isIn 4 = .ok (.iload_n 0, 1) := by decide +kernel
theorem d_S_isIn_5 : decode b_S_isIn 5 = .ok (.bipush 60, 2) := by decide +kernel
theorem d_S_isIn_7 : decode b_S_isIn 7 = .ok (.if_icmp .ge 17, 3) := by decide +kernel
theorem d_S_isIn_10 : decode b_S_isIn 10 = .ok (.lload_n 1, 1) := by decide +kernel
theorem d_S_isIn_11 : decode b_S_isIn 11 = .ok (.iload_n 0, 1) := by decide +kernel
theorem d_S_isIn_12 : decode b_S_isIn 12 = .ok (.lshr, 1) := by decide +kernel
theorem d_S_isIn_13 : decode b_S_isIn 13 = .ok (.lconst 1, 1) := by decide +kernel
theorem d_S_isIn_14 : decode b_S_isIn 14 = .ok (.land, 1) := by decide +kernel
theorem d_S_isIn_15 : decode b_S_isIn 15 = .ok (.lconst 0, 1) := by decide +kernel
theorem d_S_isIn_16 : decode b_S_isIn 16 = .ok (.lcmp, 1) := by decide +kernel
theorem d_S_isIn_17 : decode b_S_isIn 17 = .ok (.ifCond .eq 7, 3) := by decide +kernel
theorem d_S_isIn_20 : decode b_S_isIn 20 = .ok (.iconst 1, 1) := by decide +kernel
theorem d_S_isIn_21 : decode b_S_isIn 21 = .ok (.goto 4, 3) := by decide +kernel
theorem d_S_isIn_24 : decode b_S_isIn 24 = .ok (.iconst 0, 1) := by decide +kernel
theorem d_S_isIn_25 : decode b_S_isIn 25 = .ok (.ireturn, 1) := by decide +kernel
theorem d_S_hasRoomForCommit_0 : decode b_S_hasRoomForCommit 0 = .ok (.aload_n 0, 1) := by decide +kernel
theorem d_S_hasRoomForCommit_1 : decode b_S_hasRoomForCommit 1 = .ok (.getfield 10, 3) := by decide +kernel
theorem d_S_hasRoomForCommit_4 : decode b_S_hasRoomForCommit 4 = .ok (.invokevirtual 159, 3) := by decide +kernel
theorem d_S_hasRoomForCommit_7 : decode b_S_hasRoomForCommit 7 = .ok (.ifCond .ne 17, 3) := by decide +kernel
theorem d_S_hasRoomForCommit_10 : decode b_S_hasRoomForCommit 10 = .ok (.aload_n 0, 1) := by decide +kernel
theorem d_S_hasRoomForCommit_11 : decode b_S_hasRoomForCommit 11 = .ok (.getfield 19, 3) := by decide +kernel
theorem d_S_hasRoomForCommit_14 : decode b_S_hasRoomForCommit 14 = .ok (.invokevirtual 162, 3) := by decide +kernel
theorem d_S_hasRoomForCommit_17 : decode b_S_hasRoomForCommit 17 = .ok (.ifCond .ne 7, 3) := by decide +kernel
theorem d_S_hasRoomForCommit_20 : decode b_S_hasRoomForCommit 20 = .ok (.iconst 1, 1) := by decide +kernel
theorem d_S_hasRoomForCommit_21 : decode b_S_hasRoomForCommit 21 = .ok (.goto 4, 3) := by decide +kernel
theorem d_S_hasRoomForCommit_24 : decode b_S_hasRoomForCommit 24 = .ok (.iconst 0, 1) := by decide +kernel
theorem d_S_hasRoomForCommit_25 : decode b_S_hasRoomForCommit 25 = .ok (.ireturn, 1) := by decide +kernel
theorem d_C_isFull_0 : decode b_C_isFull 0 = .ok (.aload_n 0, 1) := by decide +kernel
theorem d_C_isFull_1 : decode b_C_isFull 1 = .ok (.getfield 22, 3) := by decide +kernel
theorem d_C_isFull_4 : decode b_C_isFull 4 = .ok (.bipush 60, 2) := by decide +kernel
theorem d_C_isFull_6 : decode b_C_isFull 6 = .ok (.if_icmp .lt 7, 3) := by decide +kernel
theorem d_C_isFull_9 : decode b_C_isFull 9 = .ok (.iconst 1, 1) := by decide +kernel
theorem d_C_isFull_10 : decode b_C_isFull 10 = .ok (.goto 4, 3) := by decide +kernel
theorem d_C_isFull_13 : decode b_C_isFull 13 = .ok (.iconst 0, 1) := by decide +kernel
theorem d_C_isFull_14 : decode b_C_isFull 14 = .ok (.ireturn, 1) := by decide +kernel
theorem d_O_isFull_0 : decode b_O_isFull 0 = .ok (.aload_n 0, 1) := by decide +kernel
theorem d_O_isFull_1 : decode b_O_isFull 1 = .ok (.getfield 32, 3) := by decide +kernel
theorem d_O_isFull_4 : decode b_O_isFull 4 = .ok (.bipush 100, 2) := by decide +kernel
theorem d_O_isFull_6 : decode b_O_isFull 6 = .ok (.if_icmp .lt 7, 3) := by decide +kernel
theorem d_O_isFull_9 : decode b_O_isFull 9 = .ok (.iconst 1, 1) := by decide +kernel
theorem d_O_isFull_10 : decode b_O_isFull 10 = .ok (.goto 4, 3) := by decide +kernel
theorem d_O_isFull_13 : decode b_O_isFull 13 = .ok (.iconst 0, 1) := by decide +kernel
theorem d_O_isFull_14 : decode b_O_isFull 14 = .ok (.ireturn, 1) := by decide +kernel
theorem d_C_addNewChange_0 : decode b_C_addNewChange 0 = .ok (.aload_n 0, 1) := by decide +kernel
theorem d_C_addNewChange_1 : decode b_C_addNewChange 1 = .ok (.invokevirtual 59, 3) := by decide +kernel
theorem d_C_addNewChange_4 : decode b_C_addNewChange 4 = .ok (.ifCond .eq 5, 3) := by decide +kernel
theorem d_C_addNewChange_7 : decode b_C_addNewChange 7 = .ok (.iconst (-1), 1) := by decide +kernel
theorem d_C_addNewChange_8 : decode b_C_addNewChange 8 = .ok (.ireturn, 1) := by decide +kernel
theorem d_C_addNewChange_9 : decode b_C_addNewChange 9 = .ok (.aload_n 0, 1) := by decide +kernel
theorem d_C_addNewChange_10 : decode b_C_addNewChange 10 = .ok (.dup, 1) := by decide +kernel
theorem d_C_addNewChange_11 : decode b_C_addNewChange 11 = .ok (.getfield 26, 3) := by decide +kernel
theorem d_C_addNewChange_14 : decode b_C_addNewChange 14 = .ok (.iconst 1, 1) := by decide +kernel
theorem d_C_addNewChange_15 : decode b_C_addNewChange 15 = .ok (.iadd, 1) := by decide +kernel
theorem d_C_addNewChange_16 : decode b_C_addNewChange 16 = .ok (.putfield 26, 3) := by decide +kernel
theorem d_C_addNewChange_19 : decode b_C_addNewChange 19 = .ok (.aload_n 0, 1) := by decide +kernel
theorem d_C_addNewChange_20 : decode b_C_addNewChange 20 = .ok (.aload_n 0, 1) := by decide +kernel
theorem d_C_addNewChange_21 : decode b_C_addNewChange 21 = .ok (.getfield 26, 3) := by decide +kernel
theorem d_C_addNewChange_24 : decode b_C_addNewChange 24 = .ok (.iload_n 1, 1) := by decide +kernel
theorem d_C_addNewChange_25 : decode b_C_addNewChange 25 = .ok (.iload_n 1, 1) := by decide +kernel
theorem d_C_addNewChange_26 : decode b_C_addNewChange 26 = .ok (.invokevirtual 63, 3) := by decide +kernel
theorem d_C_addNewChange_29 : decode b_C_addNewChange 29 = .ok (.ireturn, 1) := by decide +kernel
theorem d_C_addCopy_0 : decode b_C_addCopy 0 = .ok (.aload_n 0, 1) := by decide +kernel
theorem d_C_addCopy_1 : decode b_C_addCopy 1 = .ok (.invokevirtual 59, 3) := by decide +kernel
theorem d_C_addCopy_4 : decode b_C_addCopy 4 = .ok (.ifCond .ne 11, 3) := by decide +kernel
theorem d_C_addCopy_7 : decode b_C_addCopy 7 = .ok (.aload_n 0, 1) := by decide +kernel
theorem d_C_addCopy_8 : decode b_C_addCopy 8 = .ok (.iload_n 3, 1) := by decide +kernel
theorem d_C_addCopy_9 : decode b_C_addCopy 9 = .ok (.invokevirtual 29, 3) := by decide +kernel
theorem d_C_addCopy_12 : decode b_C_addCopy 12 = .ok (.ifCond .ne 5, 3) := by decide +kernel
theorem d_C_addCopy_15 : decode b_C_addCopy 15 = .ok (.iconst (-1), 1) := by decide +kernel
theorem d_C_addCopy_16 : decode b_C_addCopy 16 = .ok (.ireturn, 1) := by decide +kernel
theorem d_C_addCopy_17 : decode b_C_addCopy 17 = .ok (.aload_n 0, 1) := by decide +kernel
theorem d_C_addCopy_18 : decode b_C_addCopy 18 = .ok (.getfield 22, 3) := by decide +kernel
theorem d_C_addCopy_21 : decode b_C_addCopy 21 = .ok (.istore 4, 2) := by decide +kernel
theorem d_C_addCopy_23 : decode b_C_addCopy 23 = .ok (.aload_n 0, 1) := by decide +kernel
theorem d_C_addCopy_24 : decode b_C_addCopy 24 = .ok (.dup, 1) := by decide +kernel
theorem d_C_addCopy_25 : decode b_C_addCopy 25 = .ok (.getfield 22, 3) := by decide +kernel
theorem d_C_addCopy_28 : decode b_C_addCopy 28 = .ok (.iconst 1, 1) := by decide +kernel
theorem d_C_addCopy_29 : decode b_C_addCopy 29 = .ok (.iadd, 1) := by decide +kernel
theorem d_C_addCopy_30 : decode b_C_addCopy 30 = .ok (.putfield 22, 3) := by decide +kernel
theorem d_C_addCopy_33 : decode b_C_addCopy 33 = .ok (.aload_n 0, 1) := by decide +kernel
theorem d_C_addCopy_34 : decode b_C_addCopy 34 = .ok (.getfield 15, 3) := by decide +kernel
theorem d_C_addCopy_37 : decode b_C_addCopy 37 = .ok (.iload 4, 2) := by decide +kernel
theorem d_C_addCopy_39 : decode b_C_addCopy 39 = .ok (.iload_n 1, 1) := by decide +kernel
theorem d_C_addCopy_40 : decode b_C_addCopy 40 = .ok (.iastore, 1) := by decide +kernel
theorem d_C_addCopy_41 : decode b_C_addCopy 41 = .ok (.aload_n 0, 1) := by decide +kernel
theorem d_C_addCopy_42 : decode b_C_addCopy 42 = .ok (.getfield 9, 3) := by decide +kernel
theorem d_C_addCopy_45 : decode b_C_addCopy 45 = .ok (.iload 4, 2) := by decide +kernel
theorem d_C_addCopy_47 : decode b_C_addCopy 47 = .ok (.iload_n 2, 1) := by decide +kernel
theorem d_C_addCopy_48 : decode b_C_addCopy 48 = .ok (.iastore, 1) := by decide +kernel
theorem d_C_addCopy_49 : decode b_C_addCopy 49 = .ok (.aload_n 0, 1) := by decide +kernel
theorem d_C_addCopy_50 : decode b_C_addCopy 50 = .ok (.getfield 18, 3) := by decide +kernel
theorem d_C_addCopy_53 : decode b_C_addCopy 53 = .ok (.iload_n 3, 1) := by decide +kernel
theorem d_C_addCopy_54 : decode b_C_addCopy 54 = .ok (.iconst 0, 1) := by decide +kernel
theorem d_C_addCopy_55 : decode b_C_addCopy 55 = .ok (.invokestatic 39, 3) := by decide +kernel
theorem d_C_addCopy_58 : decode b_C_addCopy 58 = .ok (.aload_n 0, 1) := by decide +kernel
theorem d_C_addCopy_59 : decode b_C_addCopy 59 = .ok (.getfield 18, 3) := by decide +kernel
theorem d_C_addCopy_62 : decode b_C_addCopy 62 = .ok (.iload 4, 2) := by decide +kernel
theorem d_C_addCopy_64 : decode b_C_addCopy 64 = .ok (.iconst 0, 1) := by decide +kernel
theorem d_C_addCopy_65 : decode b_C_addCopy 65 = .ok (.invokestatic 39, 3) := by decide +kernel
theorem d_C_addCopy_68 : decode b_C_addCopy 68 = .ok (.bipush 32, 2) := by decide +kernel
theorem d_C_addCopy_70 : decode b_C_addCopy 70 = .ok (.invokestatic 67, 3) := by decide +kernel
theorem d_C_addCopy_73 : decode b_C_addCopy 73 = .ok (.iload 4, 2) := by decide +kernel
theorem d_C_addCopy_75 : decode b_C_addCopy 75 = .ok (.ireturn, 1) := by decide +kernel
theorem d_C_has_0 : decode b_C_has 0 = .ok (.iload_n 1, 1) := by decide +kernel
theorem d_C_has_1 : decode b_C_has 1 = .ok (.ifCond .lt 15, 3) := by decide +kernel
theorem d_C_has_4 : decode b_C_has 4 = .ok (.iload_n 1, 1) := by decide +kernel
theorem d_C_has_5 : decode b_C_has 5 = .ok (.aload_n 0, 1) := by decide +kernel
theorem d_C_has_6 : decode b_C_has 6 = .ok (.getfield 22, 3) := by decide +kernel
theorem d_C_has_9 : decode b_C_has 9 = .ok (.if_icmp .ge 7, 3) := by decide +kernel
theorem d_C_has_12 : decode b_C_has 12 = .ok (.iconst 1, 1) := by decide +kernel
theorem d_C_has_13 : decode b_C_has 13 = .ok (.goto 4, 3) := by decide +kernel
theorem d_C_has_16 : decode b_C_has 16 = .ok (.iconst 0, 1) := by decide +kernel
theorem d_C_has_17 : decode b_C_has 17 = .ok (.ireturn, 1) := by decide +kernel
theorem d_C_start_0 : decode b_C_start 0 = .ok (.iload_n 0, 1) := by decide +kernel
theorem d_C_start_1 : decode b_C_start 1 = .ok (.iconst 4, 1) := by decide +kernel
theorem d_C_start_2 : decode b_C_start 2 = .ok (.imul, 1) := by decide +kernel
theorem d_C_start_3 : decode b_C_start 3 = .ok (.iload_n 1, 1) := by decide +kernel
theorem d_C_start_4 : decode b_C_start 4 = .ok (.iadd, 1) := by decide +kernel
theorem d_C_start_5 : decode b_C_start 5 = .ok (.bipush 8, 2) := by decide +kernel
theorem d_C_start_7 : decode b_C_start 7 = .ok (.imul, 1) := by decide +kernel
theorem d_C_start_8 : decode b_C_start 8 = .ok (.ireturn, 1) := by decide +kernel
theorem d_D_show_0 : decode b_D_show 0 = .ok (.aload_n 0, 1) := by decide +kernel
theorem d_D_show_1 : decode b_D_show 1 = .ok (.dup, 1) := by decide +kernel
theorem d_D_show_2 : decode b_D_show 2 = .ok (.getfield 31, 3) := by decide +kernel
theorem d_D_show_5 : decode b_D_show 5 = .ok (.iload_n 1, 1) := by decide +kernel
theorem d_D_show_6 : decode b_D_show 6 = .ok (.invokestatic 71, 3) := by decide +kernel
theorem d_D_show_9 : decode b_D_show 9 = .ok (.lor, 1) := by decide +kernel
theorem d_D_show_10 : decode b_D_show 10 = .ok (.putfield 31, 3) := by decide +kernel
theorem d_D_show_13 : decode b_D_show 13 = .ok (.return_, 1) := by decide +kernel
theorem d_D_workOn_0 : decode b_D_workOn 0 = .ok (.aload_n 0, 1) := by decide +kernel
theorem d_D_workOn_1 : decode b_D_workOn 1 = .ok (.iload_n 1, 1) := by decide +kernel
theorem d_D_workOn_2 : decode b_D_workOn 2 = .ok (.putfield 39, 3) := by decide +kernel
end
section
theorem d_D_workOn_5 : decode b_D_workOn 5 = .ok (.return_, 1) := by decide +kernel
theorem d_S_keepDraft_0 : decode b_S_keepDraft 0 = .ok (.aload_n 0, 1) := by decide +kernel
theorem d_S_keepDraft_1 : decode b_S_keepDraft 1 = .ok (.getfield 19, 3) := by decide +kernel
theorem d_S_keepDraft_4 : decode b_S_keepDraft 4 = .ok (.invokevirtual 162, 3) := by decide +kernel
theorem d_S_keepDraft_7 : decode b_S_keepDraft 7 = .ok (.ifCond .ne 13, 3) := by decide +kernel
theorem d_S_keepDraft_10 : decode b_S_keepDraft 10 = .ok (.aload_n 0, 1) := by decide +kernel
theorem d_S_keepDraft_11 : decode b_S_keepDraft 11 = .ok (.getfield 28, 3) := by decide +kernel
theorem d_S_keepDraft_14 : decode b_S_keepDraft 14 = .ok (.invokevirtual 163, 3) := by decide +kernel
theorem d_S_keepDraft_17 : decode b_S_keepDraft 17 = .ok (.ifCond .ne 20, 3) := by decide +kernel
theorem d_S_keepDraft_20 : decode b_S_keepDraft 20 = .ok (.aload_n 0, 1) := by decide +kernel
theorem d_S_keepDraft_21 : decode b_S_keepDraft 21 = .ok (.getfield 10, 3) := by decide +kernel
theorem d_S_keepDraft_24 : decode b_S_keepDraft 24 = .ok (.aload_n 0, 1) := by decide +kernel
theorem d_S_keepDraft_25 : decode b_S_keepDraft 25 = .ok (.getfield 28, 3) := by decide +kernel
theorem d_S_keepDraft_28 : decode b_S_keepDraft 28 = .ok (.getfield 166, 3) := by decide +kernel
theorem d_S_keepDraft_31 : decode b_S_keepDraft 31 = .ok (.invokevirtual 169, 3) := by decide +kernel
theorem d_S_keepDraft_34 : decode b_S_keepDraft 34 = .ok (.bipush (-3), 2) := by decide +kernel
theorem d_S_keepDraft_36 : decode b_S_keepDraft 36 = .ok (.ireturn, 1) := by decide +kernel
theorem d_S_keepDraft_37 : decode b_S_keepDraft 37 = .ok (.aload_n 0, 1) := by decide +kernel
theorem d_S_keepDraft_38 : decode b_S_keepDraft 38 = .ok (.getfield 28, 3) := by decide +kernel
theorem d_S_keepDraft_41 : decode b_S_keepDraft 41 = .ok (.invokevirtual 172, 3) := by decide +kernel
theorem d_S_keepDraft_44 : decode b_S_keepDraft 44 = .ok (.aload_n 0, 1) := by decide +kernel
theorem d_S_keepDraft_45 : decode b_S_keepDraft 45 = .ok (.getfield 19, 3) := by decide +kernel
theorem d_S_keepDraft_48 : decode b_S_keepDraft 48 = .ok (.aload_n 0, 1) := by decide +kernel
theorem d_S_keepDraft_49 : decode b_S_keepDraft 49 = .ok (.getfield 28, 3) := by decide +kernel
theorem d_S_keepDraft_52 : decode b_S_keepDraft 52 = .ok (.aload_n 0, 1) := by decide +kernel
theorem d_S_keepDraft_53 : decode b_S_keepDraft 53 = .ok (.getfield 32, 3) := by decide +kernel
theorem d_S_keepDraft_56 : decode b_S_keepDraft 56 = .ok (.iload_n 1, 1) := by decide +kernel
theorem d_S_keepDraft_57 : decode b_S_keepDraft 57 = .ok (.iaload, 1) := by decide +kernel
theorem d_S_keepDraft_58 : decode b_S_keepDraft 58 = .ok (.iload_n 2, 1) := by decide +kernel
theorem d_S_keepDraft_59 : decode b_S_keepDraft 59 = .ok (.invokevirtual 175, 3) := by decide +kernel
theorem d_S_keepDraft_62 : decode b_S_keepDraft 62 = .ok (.istore_n 3, 1) := by decide +kernel
theorem d_S_keepDraft_63 : decode b_S_keepDraft 63 = .ok (.aload_n 0, 1) := by decide +kernel
theorem d_S_keepDraft_64 : decode b_S_keepDraft 64 = .ok (.getfield 32, 3) := by decide +kernel
theorem d_S_keepDraft_67 : decode b_S_keepDraft 67 = .ok (.iload_n 1, 1) := by decide +kernel
theorem d_S_keepDraft_68 : decode b_S_keepDraft 68 = .ok (.iload_n 3, 1) := by decide +kernel
theorem d_S_keepDraft_69 : decode b_S_keepDraft 69 = .ok (.iastore, 1) := by decide +kernel
theorem d_S_keepDraft_70 : decode b_S_keepDraft 70 = .ok (.iload_n 3, 1) := by decide +kernel
theorem d_S_keepDraft_71 : decode b_S_keepDraft 71 = .ok (.ireturn, 1) := by decide +kernel
theorem d_D_settleCommits_0 : decode b_D_settleCommits 0 = .ok (.iconst 0, 1) := by decide +kernel
theorem d_D_settleCommits_1 : decode b_D_settleCommits 1 = .ok (.istore_n 1, 1) := by decide +kernel
theorem d_D_settleCommits_2 : decode b_D_settleCommits 2 = .ok (.iload_n 1, 1) := by decide +kernel
theorem d_D_settleCommits_3 : decode b_D_settleCommits 3 = .ok (.bipush 60, 2) := by decide +kernel
theorem d_D_settleCommits_5 : decode b_D_settleCommits 5 = .ok (.if_icmp .ge 77, 3) := by decide +kernel
theorem d_D_settleCommits_8 : decode b_D_settleCommits 8 = .ok (.aload_n 0, 1) := by decide +kernel
theorem d_D_settleCommits_9 : decode b_D_settleCommits 9 = .ok (.invokevirtual 82, 3) := by decide +kernel
theorem d_D_settleCommits_12 : decode b_D_settleCommits 12 = .ok (.istore_n 2, 1) := by decide +kernel
theorem d_D_settleCommits_13 : decode b_D_settleCommits 13 = .ok (.iload_n 2, 1) := by decide +kernel
theorem d_D_settleCommits_14 : decode b_D_settleCommits 14 = .ok (.iconst (-1), 1) := by decide +kernel
theorem d_D_settleCommits_15 : decode b_D_settleCommits 15 = .ok (.if_icmp .ne 5, 3) := by decide +kernel
theorem d_D_settleCommits_18 : decode b_D_settleCommits 18 = .ok (.iconst 1, 1) := by decide +kernel
theorem d_D_settleCommits_19 : decode b_D_settleCommits 19 = .ok (.ireturn, 1) := by decide +kernel
theorem d_D_settleCommits_20 : decode b_D_settleCommits 20 = .ok (.aload_n 0, 1) := by decide +kernel
theorem d_D_settleCommits_21 : decode b_D_settleCommits 21 = .ok (.getfield 9, 3) := by decide +kernel
theorem d_D_settleCommits_24 : decode b_D_settleCommits 24 = .ok (.invokevirtual 86, 3) := by decide +kernel
theorem d_D_settleCommits_27 : decode b_D_settleCommits 27 = .ok (.ifCond .eq 5, 3) := by decide +kernel
theorem d_D_settleCommits_30 : decode b_D_settleCommits 30 = .ok (.iconst 0, 1) := by decide +kernel
theorem d_D_settleCommits_31 : decode b_D_settleCommits 31 = .ok (.ireturn, 1) := by decide +kernel
theorem d_D_settleCommits_32 : decode b_D_settleCommits 32 = .ok (.aload_n 0, 1) := by decide +kernel
theorem d_D_settleCommits_33 : decode b_D_settleCommits 33 = .ok (.getfield 31, 3) := by decide +kernel
theorem d_D_settleCommits_36 : decode b_D_settleCommits 36 = .ok (.aload_n 0, 1) := by decide +kernel
theorem d_D_settleCommits_37 : decode b_D_settleCommits 37 = .ok (.getfield 9, 3) := by decide +kernel
theorem d_D_settleCommits_40 : decode b_D_settleCommits 40 = .ok (.iload_n 2, 1) := by decide +kernel
theorem d_D_settleCommits_41 : decode b_D_settleCommits 41 = .ok (.invokevirtual 90, 3) := by decide +kernel
theorem d_D_settleCommits_44 : decode b_D_settleCommits 44 = .ok (.ldc2_w 47, 3) := by decide +kernel
theorem d_D_settleCommits_47 : decode b_D_settleCommits 47 = .ok (.lxor, 1) := by decide +kernel
theorem d_D_settleCommits_48 : decode b_D_settleCommits 48 = .ok (.land, 1) := by decide +kernel
theorem d_D_settleCommits_49 : decode b_D_settleCommits 49 = .ok (.lstore_n 3, 1) := by decide +kernel
theorem d_D_settleCommits_50 : decode b_D_settleCommits 50 = .ok (.aload_n 0, 1) := by decide +kernel
theorem d_D_settleCommits_51 : decode b_D_settleCommits 51 = .ok (.iload_n 2, 1) := by decide +kernel
theorem d_D_settleCommits_52 : decode b_D_settleCommits 52 = .ok (.aload_n 0, 1) := by decide +kernel
theorem d_D_settleCommits_53 : decode b_D_settleCommits 53 = .ok (.getfield 9, 3) := by decide +kernel
theorem d_D_settleCommits_56 : decode b_D_settleCommits 56 = .ok (.iload_n 2, 1) := by decide +kernel
theorem d_D_settleCommits_57 : decode b_D_settleCommits 57 = .ok (.aload_n 0, 1) := by decide +kernel
theorem d_D_settleCommits_58 : decode b_D_settleCommits 58 = .ok (.aload_n 0, 1) := by decide +kernel
theorem d_D_settleCommits_59 : decode b_D_settleCommits 59 = .ok (.getfield 9, 3) := by decide +kernel
theorem d_D_settleCommits_62 : decode b_D_settleCommits 62 = .ok (.iload_n 2, 1) := by decide +kernel
theorem d_D_settleCommits_63 : decode b_D_settleCommits 63 = .ok (.invokevirtual 93, 3) := by decide +kernel
theorem d_D_settleCommits_66 : decode b_D_settleCommits 66 = .ok (.lload_n 3, 1) := by decide +kernel
theorem d_D_settleCommits_67 : decode b_D_settleCommits 67 = .ok (.invokevirtual 96, 3) := by decide +kernel
theorem d_D_settleCommits_70 : decode b_D_settleCommits 70 = .ok (.invokevirtual 100, 3) := by decide +kernel
theorem d_D_settleCommits_73 : decode b_D_settleCommits 73 = .ok (.invokevirtual 103, 3) := by decide +kernel
theorem d_D_settleCommits_76 : decode b_D_settleCommits 76 = .ok (.iinc 1 1, 3) := by decide +kernel
theorem d_D_settleCommits_79 : decode b_D_settleCommits 79 = .ok (.goto (-77), 3) := by decide +kernel
theorem d_D_settleCommits_82 : decode b_D_settleCommits 82 = .ok (.iconst 0, 1) := by decide +kernel
theorem d_D_settleCommits_83 : decode b_D_settleCommits 83 = .ok (.ireturn, 1) := by decide +kernel
theorem d_D_lowestOrphan_0 : decode b_D_lowestOrphan 0 = .ok (.iconst 1, 1) := by decide +kernel
theorem d_D_lowestOrphan_1 : decode b_D_lowestOrphan 1 = .ok (.istore_n 1, 1) := by decide +kernel
theorem d_D_lowestOrphan_2 : decode b_D_lowestOrphan 2 = .ok (.iload_n 1, 1) := by decide +kernel
theorem d_D_lowestOrphan_3 : decode b_D_lowestOrphan 3 = .ok (.aload_n 0, 1) := by decide +kernel
theorem d_D_lowestOrphan_4 : decode b_D_lowestOrphan 4 = .ok (.getfield 9, 3) := by decide +kernel
theorem d_D_lowestOrphan_7 : decode b_D_lowestOrphan 7 = .ok (.getfield 59, 3) := by decide +kernel
theorem d_D_lowestOrphan_10 : decode b_D_lowestOrphan 10 = .ok (.if_icmp .ge 34, 3) := by decide +kernel
theorem d_D_lowestOrphan_13 : decode b_D_lowestOrphan 13 = .ok (.aload_n 0, 1) := by decide +kernel
theorem d_D_lowestOrphan_14 : decode b_D_lowestOrphan 14 = .ok (.iload_n 1, 1) := by decide +kernel
theorem d_D_lowestOrphan_15 : decode b_D_lowestOrphan 15 = .ok (.invokevirtual 107, 3) := by decide +kernel
theorem d_D_lowestOrphan_18 : decode b_D_lowestOrphan 18 = .ok (.ifCond .eq 20, 3) := by decide +kernel
theorem d_D_lowestOrphan_21 : decode b_D_lowestOrphan 21 = .ok (.aload_n 0, 1) := by decide +kernel
theorem d_D_lowestOrphan_22 : decode b_D_lowestOrphan 22 = .ok (.aload_n 0, 1) := by decide +kernel
theorem d_D_lowestOrphan_23 : decode b_D_lowestOrphan 23 = .ok (.getfield 9, 3) := by decide +kernel
theorem d_D_lowestOrphan_26 : decode b_D_lowestOrphan 26 = .ok (.iload_n 1, 1) := by decide +kernel
theorem d_D_lowestOrphan_27 : decode b_D_lowestOrphan 27 = .ok (.invokevirtual 93, 3) := by decide +kernel
theorem d_D_lowestOrphan_30 : decode b_D_lowestOrphan 30 = .ok (.invokevirtual 107, 3) := by decide +kernel
theorem d_D_lowestOrphan_33 : decode b_D_lowestOrphan 33 = .ok (.ifCond .ne 5, 3) := by decide +kernel
theorem d_D_lowestOrphan_36 : decode b_D_lowestOrphan 36 = .ok (.iload_n 1, 1) := by decide +kernel
theorem d_D_lowestOrphan_37 : decode b_D_lowestOrphan 37 = .ok (.ireturn, 1) := by decide +kernel
theorem d_D_lowestOrphan_38 : decode b_D_lowestOrphan 38 = .ok (.iinc 1 1, 3) := by decide +kernel
theorem d_D_lowestOrphan_41 : decode b_D_lowestOrphan 41 = .ok (.goto (-39), 3) := by decide +kernel
theorem d_D_lowestOrphan_44 : decode b_D_lowestOrphan 44 = .ok (.iconst (-1), 1) := by decide +kernel
theorem d_D_lowestOrphan_45 : decode b_D_lowestOrphan 45 = .ok (.ireturn, 1) := by decide +kernel
theorem d_C_parentOf_0 : decode b_C_parentOf 0 = .ok (.aload_n 0, 1) := by decide +kernel
theorem d_C_parentOf_1 : decode b_C_parentOf 1 = .ok (.iload_n 1, 1) := by decide +kernel
theorem d_C_parentOf_2 : decode b_C_parentOf 2 = .ok (.invokevirtual 29, 3) := by decide +kernel
theorem d_C_parentOf_5 : decode b_C_parentOf 5 = .ok (.ifCond .eq 12, 3) := by decide +kernel
theorem d_C_parentOf_8 : decode b_C_parentOf 8 = .ok (.aload_n 0, 1) := by decide +kernel
theorem d_C_parentOf_9 : decode b_C_parentOf 9 = .ok (.getfield 9, 3) := by decide +kernel
theorem d_C_parentOf_12 : decode b_C_parentOf 12 = .ok (.iload_n 1, 1) := by decide +kernel
theorem d_C_parentOf_13 : decode b_C_parentOf 13 = .ok (.iaload, 1) := by decide +kernel
theorem d_C_parentOf_14 : decode b_C_parentOf 14 = .ok (.goto 4, 3) := by decide +kernel
theorem d_C_parentOf_17 : decode b_C_parentOf 17 = .ok (.iconst (-1), 1) := by decide +kernel
theorem d_C_parentOf_18 : decode b_C_parentOf 18 = .ok (.ireturn, 1) := by decide +kernel
theorem d_C_withAllThatComesOf_0 : decode b_C_withAllThatComesOf 0 = .ok (.iload_n 1, 1) := by decide +kernel
theorem d_C_withAllThatComesOf_1 : decode b_C_withAllThatComesOf 1 = .ok (.invokestatic 47, 3) := by decide +kernel
theorem d_C_withAllThatComesOf_4 : decode b_C_withAllThatComesOf 4 = .ok (.lstore_n 2, 1) := by decide +kernel
theorem d_C_withAllThatComesOf_5 : decode b_C_withAllThatComesOf 5 = .ok (.iload_n 1, 1) := by decide +kernel
theorem d_C_withAllThatComesOf_6 : decode b_C_withAllThatComesOf 6 = .ok (.iconst 1, 1) := by decide +kernel
theorem d_C_withAllThatComesOf_7 : decode b_C_withAllThatComesOf 7 = .ok (.iadd, 1) := by decide +kernel
theorem d_C_withAllThatComesOf_8 : decode b_C_withAllThatComesOf 8 = .ok (.istore 4, 2) := by decide +kernel
theorem d_C_withAllThatComesOf_10 : decode b_C_withAllThatComesOf 10 = .ok (.iload 4, 2) := by decide +kernel
theorem d_C_withAllThatComesOf_12 : decode b_C_withAllThatComesOf 12 = .ok (.aload_n 0, 1) := by decide +kernel
theorem d_C_withAllThatComesOf_13 : decode b_C_withAllThatComesOf 13 = .ok (.getfield 22, 3) := by decide +kernel
theorem d_C_withAllThatComesOf_16 : decode b_C_withAllThatComesOf 16 = .ok (.if_icmp .ge 30, 3) := by decide +kernel
theorem d_C_withAllThatComesOf_19 : decode b_C_withAllThatComesOf 19 = .ok (.aload_n 0, 1) := by decide +kernel
theorem d_C_withAllThatComesOf_20 : decode b_C_withAllThatComesOf 20 = .ok (.iload 4, 2) := by decide +kernel
theorem d_C_withAllThatComesOf_22 : decode b_C_withAllThatComesOf 22 = .ok (.invokevirtual 51, 3) := by decide +kernel
theorem d_C_withAllThatComesOf_25 : decode b_C_withAllThatComesOf 25 = .ok (.lload_n 2, 1) := by decide +kernel
theorem d_C_withAllThatComesOf_26 : decode b_C_withAllThatComesOf 26 = .ok (.invokestatic 55, 3) := by decide +kernel
theorem d_C_withAllThatComesOf_29 : decode b_C_withAllThatComesOf 29 = .ok (.ifCond .eq 11, 3) := by decide +kernel
theorem d_C_withAllThatComesOf_32 : decode b_C_withAllThatComesOf 32 = .ok (.lload_n 2, 1) := by decide +kernel
theorem d_C_withAllThatComesOf_33 : decode b_C_withAllThatComesOf 33 = .ok (.iload 4, 2) := by decide +kernel
theorem d_C_withAllThatComesOf_35 : decode b_C_withAllThatComesOf 35 = .ok (.invokestatic 47, 3) := by decide +kernel
theorem d_C_withAllThatComesOf_38 : decode b_C_withAllThatComesOf 38 = .ok (.lor, 1) := by decide +kernel
theorem d_C_withAllThatComesOf_39 : decode b_C_withAllThatComesOf 39 = .ok (.lstore_n 2, 1) := by decide +kernel
theorem d_C_withAllThatComesOf_40 : decode b_C_withAllThatComesOf 40 = .ok (.iinc 4 1, 3) := by decide +kernel
theorem d_C_withAllThatComesOf_43 : decode b_C_withAllThatComesOf 43 = .ok (.goto (-33), 3) := by decide +kernel
theorem d_C_withAllThatComesOf_46 : decode b_C_withAllThatComesOf 46 = .ok (.lload_n 2, 1) := by decide +kernel
theorem d_C_withAllThatComesOf_47 : decode b_C_withAllThatComesOf 47 = .ok (.lreturn, 1) := by decide +kernel
theorem d_D_placeOf_0 : decode b_D_placeOf 0 = .ok (.iload_n 1, 1) := by decide +kernel
theorem d_D_placeOf_1 : decode b_D_placeOf 1 = .ok (.istore 4, 2) := by decide +kernel
theorem d_D_placeOf_3 : decode b_D_placeOf 3 = .ok (.iconst 0, 1) := by decide +kernel
theorem d_D_placeOf_4 : decode b_D_placeOf 4 = .ok (.istore 5, 2) := by decide +kernel
theorem d_D_placeOf_6 : decode b_D_placeOf 6 = .ok (.iload 5, 2) := by decide +kernel
theorem d_D_placeOf_8 : decode b_D_placeOf 8 = .ok (.bipush 120, 2) := by decide +kernel
theorem d_D_placeOf_10 : decode b_D_placeOf 10 = .ok (.if_icmp .ge 27, 3) := by decide +kernel
theorem d_D_placeOf_13 : decode b_D_placeOf 13 = .ok (.aload_n 0, 1) := by decide +kernel
theorem d_D_placeOf_14 : decode b_D_placeOf 14 = .ok (.iload 4, 2) := by decide +kernel
theorem d_D_placeOf_16 : decode b_D_placeOf 16 = .ok (.invokevirtual 107, 3) := by decide +kernel
theorem d_D_placeOf_19 : decode b_D_placeOf 19 = .ok (.ifCond .ne 18, 3) := by decide +kernel
theorem d_D_placeOf_22 : decode b_D_placeOf 22 = .ok (.aload_n 0, 1) := by decide +kernel
theorem d_D_placeOf_23 : decode b_D_placeOf 23 = .ok (.iload 4, 2) := by decide +kernel
theorem d_D_placeOf_25 : decode b_D_placeOf 25 = .ok (.lload_n 2, 1) := by decide +kernel
theorem d_D_placeOf_26 : decode b_D_placeOf 26 = .ok (.invokevirtual 110, 3) := by decide +kernel
theorem d_D_placeOf_29 : decode b_D_placeOf 29 = .ok (.istore 4, 2) := by decide +kernel
theorem d_D_placeOf_31 : decode b_D_placeOf 31 = .ok (.iinc 5 1, 3) := by decide +kernel
theorem d_D_placeOf_34 : decode b_D_placeOf 34 = .ok (.goto (-28), 3) := by decide +kernel
theorem d_D_placeOf_37 : decode b_D_placeOf 37 = .ok (.aload_n 0, 1) := by decide +kernel
theorem d_D_placeOf_38 : decode b_D_placeOf 38 = .ok (.iload 4, 2) := by decide +kernel
theorem d_D_placeOf_40 : decode b_D_placeOf 40 = .ok (.invokevirtual 107, 3) := by decide +kernel
theorem d_D_placeOf_43 : decode b_D_placeOf 43 = .ok (.ifCond .eq 8, 3) := by decide +kernel
theorem d_D_placeOf_46 : decode b_D_placeOf 46 = .ok (.iload 4, 2) := by decide +kernel
theorem d_D_placeOf_48 : decode b_D_placeOf 48 = .ok (.goto 4, 3) := by decide +kernel
theorem d_D_placeOf_51 : decode b_D_placeOf 51 = .ok (.iconst 0, 1) := by decide +kernel
theorem d_D_placeOf_52 : decode b_D_placeOf 52 = .ok (.ireturn, 1) := by decide +kernel
theorem d_D_nextTowardsPlace_0 : decode b_D_nextTowardsPlace 0 = .ok (.aload_n 0, 1) := by decide +kernel
theorem d_D_nextTowardsPlace_1 : decode b_D_nextTowardsPlace 1 = .ok (.getfield 9, 3) := by decide +kernel
theorem d_D_nextTowardsPlace_4 : decode b_D_nextTowardsPlace 4 = .ok (.iload_n 1, 1) := by decide +kernel
theorem d_D_nextTowardsPlace_5 : decode b_D_nextTowardsPlace 5 = .ok (.invokevirtual 74, 3) := by decide +kernel
theorem d_D_nextTowardsPlace_8 : decode b_D_nextTowardsPlace 8 = .ok (.ifCond .ne 5, 3) := by decide +kernel
theorem d_D_nextTowardsPlace_11 : decode b_D_nextTowardsPlace 11 = .ok (.iconst 0, 1) := by decide +kernel
theorem d_D_nextTowardsPlace_12 : decode b_D_nextTowardsPlace 12 = .ok (.ireturn, 1) := by decide +kernel
theorem d_D_nextTowardsPlace_13 : decode b_D_nextTowardsPlace 13 = .ok (.aload_n 0, 1) := by decide +kernel
theorem d_D_nextTowardsPlace_14 : decode b_D_nextTowardsPlace 14 = .ok (.getfield 19, 3) := by decide +kernel
theorem d_D_nextTowardsPlace_17 : decode b_D_nextTowardsPlace 17 = .ok (.iload_n 1, 1) := by decide +kernel
theorem d_D_nextTowardsPlace_18 : decode b_D_nextTowardsPlace 18 = .ok (.iaload, 1) := by decide +kernel
theorem d_D_nextTowardsPlace_19 : decode b_D_nextTowardsPlace 19 = .ok (.iconst (-1), 1) := by decide +kernel
theorem d_D_nextTowardsPlace_20 : decode b_D_nextTowardsPlace 20 = .ok (.if_icmp .eq 10, 3) := by decide +kernel
theorem d_D_nextTowardsPlace_23 : decode b_D_nextTowardsPlace 23 = .ok (.aload_n 0, 1) := by decide +kernel
theorem d_D_nextTowardsPlace_24 : decode b_D_nextTowardsPlace 24 = .ok (.getfield 19, 3) := by decide +kernel
theorem d_D_nextTowardsPlace_27 : decode b_D_nextTowardsPlace 27 = .ok (.iload_n 1, 1) := by decide +kernel
theorem d_D_nextTowardsPlace_28 : decode b_D_nextTowardsPlace 28 = .ok (.iaload, 1) := by decide +kernel
theorem d_D_nextTowardsPlace_29 : decode b_D_nextTowardsPlace 29 = .ok (.ireturn, 1) := by decide +kernel
theorem d_D_nextTowardsPlace_30 : decode b_D_nextTowardsPlace 30 = .ok (.aload_n 0, 1) := by decide +kernel
theorem d_D_nextTowardsPlace_31 : decode b_D_nextTowardsPlace 31 = .ok (.getfield 9, 3) := by decide +kernel
theorem d_D_nextTowardsPlace_34 : decode b_D_nextTowardsPlace 34 = .ok (.aload_n 0, 1) := by decide +kernel
theorem d_D_nextTowardsPlace_35 : decode b_D_nextTowardsPlace 35 = .ok (.getfield 9, 3) := by decide +kernel
theorem d_D_nextTowardsPlace_38 : decode b_D_nextTowardsPlace 38 = .ok (.iload_n 1, 1) := by decide +kernel
theorem d_D_nextTowardsPlace_39 : decode b_D_nextTowardsPlace 39 = .ok (.invokevirtual 113, 3) := by decide +kernel
theorem d_D_nextTowardsPlace_42 : decode b_D_nextTowardsPlace 42 = .ok (.lload_n 2, 1) := by decide +kernel
theorem d_D_nextTowardsPlace_43 : decode b_D_nextTowardsPlace 43 = .ok (.invokevirtual 116, 3) := by decide +kernel
theorem d_D_nextTowardsPlace_46 : decode b_D_nextTowardsPlace 46 = .ok (.istore 4, 2) := by decide +kernel
theorem d_D_nextTowardsPlace_48 : decode b_D_nextTowardsPlace 48 = .ok (.iload 4, 2) := by decide +kernel
theorem d_D_nextTowardsPlace_50 : decode b_D_nextTowardsPlace 50 = .ok (.iconst (-1), 1) := by decide +kernel
theorem d_D_nextTowardsPlace_51 : decode b_D_nextTowardsPlace 51 = .ok (.if_icmp .eq 8, 3) := by decide +kernel
theorem d_D_nextTowardsPlace_54 : decode b_D_nextTowardsPlace 54 = .ok (.iload 4, 2) := by decide +kernel
theorem d_D_nextTowardsPlace_56 : decode b_D_nextTowardsPlace 56 = .ok (.goto 11, 3) := by decide +kernel
theorem d_D_nextTowardsPlace_59 : decode b_D_nextTowardsPlace 59 = .ok (.aload_n 0, 1) := by decide +kernel
theorem d_D_nextTowardsPlace_60 : decode b_D_nextTowardsPlace 60 = .ok (.getfield 9, 3) := by decide +kernel
theorem d_D_nextTowardsPlace_63 : decode b_D_nextTowardsPlace 63 = .ok (.iload_n 1, 1) := by decide +kernel
theorem d_D_nextTowardsPlace_64 : decode b_D_nextTowardsPlace 64 = .ok (.invokevirtual 93, 3) := by decide +kernel
theorem d_D_nextTowardsPlace_67 : decode b_D_nextTowardsPlace 67 = .ok (.ireturn, 1) := by decide +kernel
theorem d_C_changeOf_0 : decode b_C_changeOf 0 = .ok (.aload_n 0, 1) := by decide +kernel
theorem d_C_changeOf_1 : decode b_C_changeOf 1 = .ok (.iload_n 1, 1) := by decide +kernel
theorem d_C_changeOf_2 : decode b_C_changeOf 2 = .ok (.invokevirtual 29, 3) := by decide +kernel
theorem d_C_changeOf_5 : decode b_C_changeOf 5 = .ok (.ifCond .eq 12, 3) := by decide +kernel
theorem d_C_changeOf_8 : decode b_C_changeOf 8 = .ok (.aload_n 0, 1) := by decide +kernel
theorem d_C_changeOf_9 : decode b_C_changeOf 9 = .ok (.getfield 15, 3) := by decide +kernel
theorem d_C_changeOf_12 : decode b_C_changeOf 12 = .ok (.iload_n 1, 1) := by decide +kernel
theorem d_C_changeOf_13 : decode b_C_changeOf 13 = .ok (.iaload, 1) := by decide +kernel
theorem d_C_changeOf_14 : decode b_C_changeOf 14 = .ok (.goto 4, 3) := by decide +kernel
theorem d_C_changeOf_17 : decode b_C_changeOf 17 = .ok (.iconst (-1), 1) := by decide +kernel
theorem d_C_changeOf_18 : decode b_C_changeOf 18 = .ok (.ireturn, 1) := by decide +kernel
theorem d_C_latestOfChange_0 : decode b_C_latestOfChange 0 = .ok (.aload_n 0, 1) := by decide +kernel
theorem d_C_latestOfChange_1 : decode b_C_latestOfChange 1 = .ok (.getfield 22, 3) := by decide +kernel
theorem d_C_latestOfChange_4 : decode b_C_latestOfChange 4 = .ok (.iconst 1, 1) := by decide +kernel
theorem d_C_latestOfChange_5 : decode b_C_latestOfChange 5 = .ok (.isub, 1) := by decide +kernel
theorem d_C_latestOfChange_6 : decode b_C_latestOfChange 6 = .ok (.istore 4, 2) := by decide +kernel
theorem d_C_latestOfChange_8 : decode b_C_latestOfChange 8 = .ok (.iload 4, 2) := by decide +kernel
theorem d_C_latestOfChange_10 : decode b_C_latestOfChange 10 = .ok (.ifCond .lt 32, 3) := by decide +kernel
theorem d_C_latestOfChange_13 : decode b_C_latestOfChange 13 = .ok (.aload_n 0, 1) := by decide +kernel
theorem d_C_latestOfChange_14 : decode b_C_latestOfChange 14 = .ok (.getfield 15, 3) := by decide +kernel
theorem d_C_latestOfChange_17 : decode b_C_latestOfChange 17 = .ok (.iload 4, 2) := by decide +kernel
theorem d_C_latestOfChange_19 : decode b_C_latestOfChange 19 = .ok (.iaload, 1) := by decide +kernel
theorem d_C_latestOfChange_20 : decode b_C_latestOfChange 20 = .ok (.iload_n 1, 1) := by decide +kernel
theorem d_C_latestOfChange_21 : decode b_C_latestOfChange 21 = .ok (.if_icmp .ne 15, 3) := by decide +kernel
theorem d_C_latestOfChange_24 : decode b_C_latestOfChange 24 = .ok (.iload 4, 2) := by decide +kernel
theorem d_C_latestOfChange_26 : decode b_C_latestOfChange 26 = .ok (.lload_n 2, 1) := by decide +kernel
theorem d_C_latestOfChange_27 : decode b_C_latestOfChange 27 = .ok (.invokestatic 55, 3) := by decide +kernel
theorem d_C_latestOfChange_30 : decode b_C_latestOfChange 30 = .ok (.ifCond .eq 6, 3) := by decide +kernel
theorem d_C_latestOfChange_33 : decode b_C_latestOfChange 33 = .ok (.iload 4, 2) := by decide +kernel
theorem d_C_latestOfChange_35 : decode b_C_latestOfChange 35 = .ok (.ireturn, 1) := by decide +kernel
theorem d_C_latestOfChange_36 : decode b_C_latestOfChange 36 = .ok (.iinc 4 (-1), 3) := by decide +kernel
theorem d_C_latestOfChange_39 : decode b_C_latestOfChange 39 = .ok (.goto (-31), 3) := by decide +kernel
theorem d_C_latestOfChange_42 : decode b_C_latestOfChange 42 = .ok (.iconst (-1), 1) := by decide +kernel
theorem d_C_latestOfChange_43 : decode b_C_latestOfChange 43 = .ok (.ireturn, 1) := by decide +kernel
theorem d_C_addMoved_0 : decode b_C_addMoved 0 = .ok (.aload_n 0, 1) := by decide +kernel
theorem d_C_addMoved_1 : decode b_C_addMoved 1 = .ok (.iload_n 1, 1) := by decide +kernel
theorem d_C_addMoved_2 : decode b_C_addMoved 2 = .ok (.invokevirtual 51, 3) := by decide +kernel
theorem d_C_addMoved_5 : decode b_C_addMoved 5 = .ok (.istore_n 3, 1) := by decide +kernel
theorem d_C_addMoved_6 : decode b_C_addMoved 6 = .ok (.aload_n 0, 1) := by decide +kernel
theorem d_C_addMoved_7 : decode b_C_addMoved 7 = .ok (.invokevirtual 59, 3) := by decide +kernel
theorem d_C_addMoved_10 : decode b_C_addMoved 10 = .ok (.ifCond .ne 19, 3) := by decide +kernel
theorem d_C_addMoved_13 : decode b_C_addMoved 13 = .ok (.aload_n 0, 1) := by decide +kernel
theorem d_C_addMoved_14 : decode b_C_addMoved 14 = .ok (.iload_n 2, 1) := by decide +kernel
theorem d_C_addMoved_15 : decode b_C_addMoved 15 = .ok (.invokevirtual 29, 3) := by decide +kernel
theorem d_C_addMoved_18 : decode b_C_addMoved 18 = .ok (.ifCond .eq 11, 3) := by decide +kernel
theorem d_C_addMoved_21 : decode b_C_addMoved 21 = .ok (.aload_n 0, 1) := by decide +kernel
theorem d_C_addMoved_22 : decode b_C_addMoved 22 = .ok (.iload_n 3, 1) := by decide +kernel
theorem d_C_addMoved_23 : decode b_C_addMoved 23 = .ok (.invokevirtual 29, 3) := by decide +kernel
theorem d_C_addMoved_26 : decode b_C_addMoved 26 = .ok (.ifCond .ne 5, 3) := by decide +kernel
theorem d_C_addMoved_29 : decode b_C_addMoved 29 = .ok (.iconst (-1), 1) := by decide +kernel
theorem d_C_addMoved_30 : decode b_C_addMoved 30 = .ok (.ireturn, 1) := by decide +kernel
theorem d_C_addMoved_31 : decode b_C_addMoved 31 = .ok (.aload_n 0, 1) := by decide +kernel
theorem d_C_addMoved_32 : decode b_C_addMoved 32 = .ok (.aload_n 0, 1) := by decide +kernel
theorem d_C_addMoved_33 : decode b_C_addMoved 33 = .ok (.iload_n 1, 1) := by decide +kernel
theorem d_C_addMoved_34 : decode b_C_addMoved 34 = .ok (.invokevirtual 73, 3) := by decide +kernel
theorem d_C_addMoved_37 : decode b_C_addMoved 37 = .ok (.iload_n 2, 1) := by decide +kernel
theorem d_C_addMoved_38 : decode b_C_addMoved 38 = .ok (.iload_n 1, 1) := by decide +kernel
theorem d_C_addMoved_39 : decode b_C_addMoved 39 = .ok (.invokevirtual 63, 3) := by decide +kernel
theorem d_C_addMoved_42 : decode b_C_addMoved 42 = .ok (.istore 4, 2) := by decide +kernel
theorem d_C_addMoved_44 : decode b_C_addMoved 44 = .ok (.iconst 0, 1) := by decide +kernel
theorem d_C_addMoved_45 : decode b_C_addMoved 45 = .ok (.istore 5, 2) := by decide +kernel
theorem d_C_addMoved_47 : decode b_C_addMoved 47 = .ok (.iload 5, 2) := by decide +kernel
theorem d_C_addMoved_49 : decode b_C_addMoved 49 = .ok (.iconst 4, 1) := by decide +kernel
theorem d_C_addMoved_50 : decode b_C_addMoved 50 = .ok (.if_icmp .ge 19, 3) := by decide +kernel
theorem d_C_addMoved_53 : decode b_C_addMoved 53 = .ok (.aload_n 0, 1) := by decide +kernel
theorem d_C_addMoved_54 : decode b_C_addMoved 54 = .ok (.iload 4, 2) := by decide +kernel
theorem d_C_addMoved_56 : decode b_C_addMoved 56 = .ok (.iload 5, 2) := by decide +kernel
theorem d_C_addMoved_58 : decode b_C_addMoved 58 = .ok (.iload_n 2, 1) := by decide +kernel
theorem d_C_addMoved_59 : decode b_C_addMoved 59 = .ok (.iload_n 3, 1) := by decide +kernel
theorem d_C_addMoved_60 : decode b_C_addMoved 60 = .ok (.invokevirtual 76, 3) := by decide +kernel
theorem d_C_addMoved_63 : decode b_C_addMoved 63 = .ok (.iinc 5 1, 3) := by decide +kernel
theorem d_C_addMoved_66 : decode b_C_addMoved 66 = .ok (.goto (-19), 3) := by decide +kernel
theorem d_C_addMoved_69 : decode b_C_addMoved 69 = .ok (.iload 4, 2) := by decide +kernel
theorem d_C_addMoved_71 : decode b_C_addMoved 71 = .ok (.ireturn, 1) := by decide +kernel
theorem d_C_addDifference_0 : decode b_C_addDifference 0 = .ok (.iconst 0, 1) := by decide +kernel
theorem d_C_addDifference_1 : decode b_C_addDifference 1 = .ok (.istore 5, 2) := by decide +kernel
theorem d_C_addDifference_3 : decode b_C_addDifference 3 = .ok (.iconst 0, 1) := by decide +kernel
theorem d_C_addDifference_4 : decode b_C_addDifference 4 = .ok (.istore 6, 2) := by decide +kernel
theorem d_C_addDifference_6 : decode b_C_addDifference 6 = .ok (.iconst 0, 1) := by decide +kernel
theorem d_C_addDifference_7 : decode b_C_addDifference 7 = .ok (.istore 7, 2) := by decide +kernel
theorem d_C_addDifference_9 : decode b_C_addDifference 9 = .ok (.iload 7, 2) := by decide +kernel
theorem d_C_addDifference_11 : decode b_C_addDifference 11 = .ok (.bipush 8, 2) := by decide +kernel
theorem d_C_addDifference_13 : decode b_C_addDifference 13 = .ok (.if_icmp .ge 100, 3) := by decide +kernel
theorem d_C_addDifference_16 : decode b_C_addDifference 16 = .ok (.iload_n 1, 1) := by decide +kernel
theorem d_C_addDifference_17 : decode b_C_addDifference 17 = .ok (.iload_n 2, 1) := by decide +kernel
theorem d_C_addDifference_18 : decode b_C_addDifference 18 = .ok (.invokestatic 39, 3) := by decide +kernel
theorem d_C_addDifference_21 : decode b_C_addDifference 21 = .ok (.iload 7, 2) := by decide +kernel
theorem d_C_addDifference_23 : decode b_C_addDifference 23 = .ok (.iadd, 1) := by decide +kernel
theorem d_C_addDifference_24 : decode b_C_addDifference 24 = .ok (.istore 8, 2) := by decide +kernel
theorem d_C_addDifference_26 : decode b_C_addDifference 26 = .ok (.aload_n 0, 1) := by decide +kernel
theorem d_C_addDifference_27 : decode b_C_addDifference 27 = .ok (.getfield 18, 3) := by decide +kernel
theorem d_C_addDifference_30 : decode b_C_addDifference 30 = .ok (.iload 8, 2) := by decide +kernel
theorem d_C_addDifference_32 : decode b_C_addDifference 32 = .ok (.dup2, 1) := by decide +kernel
theorem d_C_addDifference_33 : decode b_C_addDifference 33 = .ok (.laload, 1) := by decide +kernel
theorem d_C_addDifference_34 : decode b_C_addDifference 34 = .ok (.aload_n 0, 1) := by decide +kernel
theorem d_C_addDifference_35 : decode b_C_addDifference 35 = .ok (.getfield 18, 3) := by decide +kernel
theorem d_C_addDifference_38 : decode b_C_addDifference 38 = .ok (.iload_n 3, 1) := by decide +kernel
theorem d_C_addDifference_39 : decode b_C_addDifference 39 = .ok (.iload_n 2, 1) := by decide +kernel
theorem d_C_addDifference_40 : decode b_C_addDifference 40 = .ok (.invokestatic 39, 3) := by decide +kernel
theorem d_C_addDifference_43 : decode b_C_addDifference 43 = .ok (.iload 7, 2) := by decide +kernel
theorem d_C_addDifference_45 : decode b_C_addDifference 45 = .ok (.iadd, 1) := by decide +kernel
theorem d_C_addDifference_46 : decode b_C_addDifference 46 = .ok (.laload, 1) := by decide +kernel
theorem d_C_addDifference_47 : decode b_C_addDifference 47 = .ok (.aload_n 0, 1) := by decide +kernel
theorem d_C_addDifference_48 : decode b_C_addDifference 48 = .ok (.getfield 18, 3) := by decide +kernel
theorem d_C_addDifference_51 : decode b_C_addDifference 51 = .ok (.iload 4, 2) := by decide +kernel
theorem d_C_addDifference_53 : decode b_C_addDifference 53 = .ok (.iload_n 2, 1) := by decide +kernel
theorem d_C_addDifference_54 : decode b_C_addDifference 54 = .ok (.invokestatic 39, 3) := by decide +kernel
theorem d_C_addDifference_57 : decode b_C_addDifference 57 = .ok (.iload 7, 2) := by decide +kernel
theorem d_C_addDifference_59 : decode b_C_addDifference 59 = .ok (.iadd, 1) := by decide +kernel
theorem d_C_addDifference_60 : decode b_C_addDifference 60 = .ok (.laload, 1) := by decide +kernel
theorem d_C_addDifference_61 : decode b_C_addDifference 61 = .ok (.lsub, 1) := by decide +kernel
theorem d_C_addDifference_62 : decode b_C_addDifference 62 = .ok (.ladd, 1) := by decide +kernel
theorem d_C_addDifference_63 : decode b_C_addDifference 63 = .ok (.lastore, 1) := by decide +kernel
theorem d_C_addDifference_64 : decode b_C_addDifference 64 = .ok (.iload 5, 2) := by decide +kernel
theorem d_C_addDifference_66 : decode b_C_addDifference 66 = .ok (.aload_n 0, 1) := by decide +kernel
theorem d_C_addDifference_67 : decode b_C_addDifference 67 = .ok (.getfield 18, 3) := by decide +kernel
theorem d_C_addDifference_70 : decode b_C_addDifference 70 = .ok (.iload 8, 2) := by decide +kernel
theorem d_C_addDifference_72 : decode b_C_addDifference 72 = .ok (.laload, 1) := by decide +kernel
theorem d_C_addDifference_73 : decode b_C_addDifference 73 = .ok (.lconst 0, 1) := by decide +kernel
theorem d_C_addDifference_74 : decode b_C_addDifference 74 = .ok (.lcmp, 1) := by decide +kernel
theorem d_C_addDifference_75 : decode b_C_addDifference 75 = .ok (.ifCond .eq 7, 3) := by decide +kernel
theorem d_C_addDifference_78 : decode b_C_addDifference 78 = .ok (.iconst 1, 1) := by decide +kernel
theorem d_C_addDifference_79 : decode b_C_addDifference 79 = .ok (.goto 4, 3) := by decide +kernel
theorem d_C_addDifference_82 : decode b_C_addDifference 82 = .ok (.iconst 0, 1) := by decide +kernel
theorem d_C_addDifference_83 : decode b_C_addDifference 83 = .ok (.iadd, 1) := by decide +kernel
theorem d_C_addDifference_84 : decode b_C_addDifference 84 = .ok (.istore 5, 2) := by decide +kernel
theorem d_C_addDifference_86 : decode b_C_addDifference 86 = .ok (.aload_n 0, 1) := by decide +kernel
theorem d_C_addDifference_87 : decode b_C_addDifference 87 = .ok (.getfield 18, 3) := by decide +kernel
theorem d_C_addDifference_90 : decode b_C_addDifference 90 = .ok (.iload 8, 2) := by decide +kernel
theorem d_C_addDifference_92 : decode b_C_addDifference 92 = .ok (.laload, 1) := by decide +kernel
theorem d_C_addDifference_93 : decode b_C_addDifference 93 = .ok (.lconst 0, 1) := by decide +kernel
theorem d_C_addDifference_94 : decode b_C_addDifference 94 = .ok (.lcmp, 1) := by decide +kernel
theorem d_C_addDifference_95 : decode b_C_addDifference 95 = .ok (.ifCond .le 8, 3) := by decide +kernel
theorem d_C_addDifference_98 : decode b_C_addDifference 98 = .ok (.iload 7, 2) := by decide +kernel
theorem d_C_addDifference_100 : decode b_C_addDifference 100 = .ok (.goto 5, 3) := by decide +kernel
theorem d_C_addDifference_103 : decode b_C_addDifference 103 = .ok (.iload 6, 2) := by decide +kernel
theorem d_C_addDifference_105 : decode b_C_addDifference 105 = .ok (.istore 6, 2) := by decide +kernel
theorem d_C_addDifference_107 : decode b_C_addDifference 107 = .ok (.iinc 7 1, 3) := by decide +kernel
theorem d_C_addDifference_110 : decode b_C_addDifference 110 = .ok (.goto (-101), 3) := by decide +kernel
theorem d_C_addDifference_113 : decode b_C_addDifference 113 = .ok (.iload 5, 2) := by decide +kernel
theorem d_C_addDifference_115 : decode b_C_addDifference 115 = .ok (.iconst 2, 1) := by decide +kernel
theorem d_C_addDifference_116 : decode b_C_addDifference 116 = .ok (.if_icmp .ne 11, 3) := by decide +kernel
theorem d_C_addDifference_119 : decode b_C_addDifference 119 = .ok (.aload_n 0, 1) := by decide +kernel
theorem d_C_addDifference_120 : decode b_C_addDifference 120 = .ok (.iload_n 1, 1) := by decide +kernel
theorem d_C_addDifference_121 : decode b_C_addDifference 121 = .ok (.iload_n 2, 1) := by decide +kernel
theorem d_C_addDifference_122 : decode b_C_addDifference 122 = .ok (.iload 6, 2) := by decide +kernel
theorem d_C_addDifference_124 : decode b_C_addDifference 124 = .ok (.invokevirtual 80, 3) := by decide +kernel
theorem d_C_addDifference_127 : decode b_C_addDifference 127 = .ok (.return_, 1) := by decide +kernel
theorem d_C_makePlain_0 : decode b_C_makePlain 0 = .ok (.aload_n 0, 1) := by decide +kernel
theorem d_C_makePlain_1 : decode b_C_makePlain 1 = .ok (.iload_n 1, 1) := by decide +kernel
theorem d_C_makePlain_2 : decode b_C_makePlain 2 = .ok (.invokevirtual 29, 3) := by decide +kernel
theorem d_C_makePlain_5 : decode b_C_makePlain 5 = .ok (.ifCond .eq 17, 3) := by decide +kernel
theorem d_C_makePlain_8 : decode b_C_makePlain 8 = .ok (.iload_n 2, 1) := by decide +kernel
theorem d_C_makePlain_9 : decode b_C_makePlain 9 = .ok (.invokestatic 33, 3) := by decide +kernel
theorem d_C_makePlain_12 : decode b_C_makePlain 12 = .ok (.ifCond .eq 10, 3) := by decide +kernel
theorem d_C_makePlain_15 : decode b_C_makePlain 15 = .ok (.iload_n 3, 1) := by decide +kernel
theorem d_C_makePlain_16 : decode b_C_makePlain 16 = .ok (.invokestatic 36, 3) := by decide +kernel
theorem d_C_makePlain_19 : decode b_C_makePlain 19 = .ok (.ifCond .ne 4, 3) := by decide +kernel
theorem d_C_makePlain_22 : decode b_C_makePlain 22 = .ok (.return_, 1) := by decide +kernel
theorem d_C_makePlain_23 : decode b_C_makePlain 23 = .ok (.iconst 0, 1) := by decide +kernel
theorem d_C_makePlain_24 : decode b_C_makePlain 24 = .ok (.istore 4, 2) := by decide +kernel
theorem d_C_makePlain_26 : decode b_C_makePlain 26 = .ok (.iload 4, 2) := by decide +kernel
theorem d_C_makePlain_28 : decode b_C_makePlain 28 = .ok (.bipush 8, 2) := by decide +kernel
theorem d_C_makePlain_30 : decode b_C_makePlain 30 = .ok (.if_icmp .ge 33, 3) := by decide +kernel
theorem d_C_makePlain_33 : decode b_C_makePlain 33 = .ok (.aload_n 0, 1) := by decide +kernel
theorem d_C_makePlain_34 : decode b_C_makePlain 34 = .ok (.getfield 18, 3) := by decide +kernel
theorem d_C_makePlain_37 : decode b_C_makePlain 37 = .ok (.iload_n 1, 1) := by decide +kernel
theorem d_C_makePlain_38 : decode b_C_makePlain 38 = .ok (.iload_n 2, 1) := by decide +kernel
theorem d_C_makePlain_39 : decode b_C_makePlain 39 = .ok (.invokestatic 39, 3) := by decide +kernel
theorem d_C_makePlain_42 : decode b_C_makePlain 42 = .ok (.iload 4, 2) := by decide +kernel
theorem d_C_makePlain_44 : decode b_C_makePlain 44 = .ok (.iadd, 1) := by decide +kernel
theorem d_C_makePlain_45 : decode b_C_makePlain 45 = .ok (.iload 4, 2) := by decide +kernel
theorem d_C_makePlain_47 : decode b_C_makePlain 47 = .ok (.iload_n 3, 1) := by decide +kernel
theorem d_C_makePlain_48 : decode b_C_makePlain 48 = .ok (.if_icmp .ne 7, 3) := by decide +kernel
theorem d_C_makePlain_51 : decode b_C_makePlain 51 = .ok (.lconst 1, 1) := by decide +kernel
theorem d_C_makePlain_52 : decode b_C_makePlain 52 = .ok (.goto 4, 3) := by decide +kernel
theorem d_C_makePlain_55 : decode b_C_makePlain 55 = .ok (.lconst 0, 1) := by decide +kernel
theorem d_C_makePlain_56 : decode b_C_makePlain 56 = .ok (.lastore, 1) := by decide +kernel
theorem d_C_makePlain_57 : decode b_C_makePlain 57 = .ok (.iinc 4 1, 3) := by decide +kernel
theorem d_C_makePlain_60 : decode b_C_makePlain 60 = .ok (.goto (-34), 3) := by decide +kernel
theorem d_C_makePlain_63 : decode b_C_makePlain 63 = .ok (.return_, 1) := by decide +kernel
theorem d_S_isPath_0 : decode b_S_isPath 0 = .ok (.iload_n 0, 1) := by decide +kernel
theorem d_S_isPath_1 : decode b_S_isPath 1 = .ok (.ifCond .lt 12, 3) := by decide +kernel
theorem d_S_isPath_4 : decode b_S_isPath 4 = .ok (.iload_n 0, 1) := by decide +kernel
theorem d_S_isPath_5 : decode b_S_isPath 5 = .ok (.iconst 4, 1) := by decide +kernel
theorem d_S_isPath_6 : decode b_S_isPath 6 = .ok (.if_icmp .ge 7, 3) := by decide +kernel
theorem d_S_isPath_9 : decode b_S_isPath 9 = .ok (.iconst 1, 1) := by decide +kernel
theorem d_S_isPath_10 : decode b_S_isPath 10 = .ok (.goto 4, 3) := by decide +kernel
theorem d_S_isPath_13 : decode b_S_isPath 13 = .ok (.iconst 0, 1) := by decide +kernel
theorem d_S_isPath_14 : decode b_S_isPath 14 = .ok (.ireturn, 1) := by decide +kernel
theorem d_S_isValue_0 : decode b_S_isValue 0 = .ok (.iload_n 0, 1) := by decide +kernel
theorem d_S_isValue_1 : decode b_S_isValue 1 = .ok (.ifCond .lt 13, 3) := by decide +kernel
theorem d_S_isValue_4 : decode b_S_isValue 4 = .ok (.iload_n 0, 1) := by decide +kernel
theorem d_S_isValue_5 : decode b_S_isValue 5 = .ok (.bipush 8, 2) := by decide +kernel
theorem d_S_isValue_7 : decode b_S_isValue 7 = .ok (.if_icmp .ge 7, 3) := by decide +kernel
theorem d_S_isValue_10 : decode b_S_isValue 10 = .ok (.iconst 1, 1) := by decide +kernel
theorem d_S_isValue_11 : decode b_S_isValue 11 = .ok (.goto 4, 3) := by decide +kernel
theorem d_S_isValue_14 : decode b_S_isValue 14 = .ok (.iconst 0, 1) := by decide +kernel
theorem d_S_isValue_15 : decode b_S_isValue 15 = .ok (.ireturn, 1) := by decide +kernel
theorem d_D_replace_0 : decode b_D_replace 0 = .ok (.aload_n 0, 1) := by decide +kernel
theorem d_D_replace_1 : decode b_D_replace 1 = .ok (.getfield 9, 3) := by decide +kernel
theorem d_D_replace_4 : decode b_D_replace 4 = .ok (.iload_n 1, 1) := by decide +kernel
theorem d_D_replace_5 : decode b_D_replace 5 = .ok (.invokevirtual 74, 3) := by decide +kernel
theorem d_D_replace_8 : decode b_D_replace 8 = .ok (.ifCond .eq 14, 3) := by decide +kernel
theorem d_D_replace_11 : decode b_D_replace 11 = .ok (.aload_n 0, 1) := by decide +kernel
theorem d_D_replace_12 : decode b_D_replace 12 = .ok (.getfield 9, 3) := by decide +kernel
theorem d_D_replace_15 : decode b_D_replace 15 = .ok (.iload_n 2, 1) := by decide +kernel
theorem d_D_replace_16 : decode b_D_replace 16 = .ok (.invokevirtual 74, 3) := by decide +kernel
theorem d_D_replace_19 : decode b_D_replace 19 = .ok (.ifCond .ne 4, 3) := by decide +kernel
theorem d_D_replace_22 : decode b_D_replace 22 = .ok (.return_, 1) := by decide +kernel
theorem d_D_replace_23 : decode b_D_replace 23 = .ok (.aload_n 0, 1) := by decide +kernel
theorem d_D_replace_24 : decode b_D_replace 24 = .ok (.dup, 1) := by decide +kernel
theorem d_D_replace_25 : decode b_D_replace 25 = .ok (.getfield 31, 3) := by decide +kernel
theorem d_D_replace_28 : decode b_D_replace 28 = .ok (.iload_n 1, 1) := by decide +kernel
theorem d_D_replace_29 : decode b_D_replace 29 = .ok (.invokestatic 71, 3) := by decide +kernel
theorem d_D_replace_32 : decode b_D_replace 32 = .ok (.ldc2_w 47, 3) := by decide +kernel
theorem d_D_replace_35 : decode b_D_replace 35 = .ok (.lxor, 1) := by decide +kernel
theorem d_D_replace_36 : decode b_D_replace 36 = .ok (.land, 1) := by decide +kernel
theorem d_D_replace_37 : decode b_D_replace 37 = .ok (.putfield 31, 3) := by decide +kernel
theorem d_D_replace_40 : decode b_D_replace 40 = .ok (.aload_n 0, 1) := by decide +kernel
theorem d_D_replace_41 : decode b_D_replace 41 = .ok (.iload_n 2, 1) := by decide +kernel
theorem d_D_replace_42 : decode b_D_replace 42 = .ok (.invokevirtual 78, 3) := by decide +kernel
theorem d_D_replace_45 : decode b_D_replace 45 = .ok (.aload_n 0, 1) := by decide +kernel
theorem d_D_replace_46 : decode b_D_replace 46 = .ok (.getfield 19, 3) := by decide +kernel
theorem d_D_replace_49 : decode b_D_replace 49 = .ok (.iload_n 1, 1) := by decide +kernel
theorem d_D_replace_50 : decode b_D_replace 50 = .ok (.iload_n 2, 1) := by decide +kernel
theorem d_D_replace_51 : decode b_D_replace 51 = .ok (.iastore, 1) := by decide +kernel
theorem d_D_replace_52 : decode b_D_replace 52 = .ok (.return_, 1) := by decide +kernel
theorem d_C_dropFrom_0 : decode b_C_dropFrom 0 = .ok (.aload_n 0, 1) := by decide +kernel
theorem d_C_dropFrom_1 : decode b_C_dropFrom 1 = .ok (.iload_n 1, 1) := by decide +kernel
theorem d_C_dropFrom_2 : decode b_C_dropFrom 2 = .ok (.putfield 22, 3) := by decide +kernel
theorem d_C_dropFrom_5 : decode b_C_dropFrom 5 = .ok (.return_, 1) := by decide +kernel
theorem d_D_settlePointers_0 : decode b_D_settlePointers 0 = .ok (.aload_n 0, 1) := by decide +kernel
theorem d_D_settlePointers_1 : decode b_D_settlePointers 1 = .ok (.aload_n 0, 1) := by decide +kernel
theorem d_D_settlePointers_2 : decode b_D_settlePointers 2 = .ok (.aload_n 0, 1) := by decide +kernel
theorem d_D_settlePointers_3 : decode b_D_settlePointers 3 = .ok (.getfield 39, 3) := by decide +kernel
theorem d_D_settlePointers_6 : decode b_D_settlePointers 6 = .ok (.aload_n 0, 1) := by decide +kernel
theorem d_D_settlePointers_7 : decode b_D_settlePointers 7 = .ok (.getfield 31, 3) := by decide +kernel
theorem d_D_settlePointers_10 : decode b_D_settlePointers 10 = .ok (.invokevirtual 96, 3) := by decide +kernel
theorem d_D_settlePointers_13 : decode b_D_settlePointers 13 = .ok (.putfield 39, 3) := by decide +kernel
theorem d_D_settlePointers_16 : decode b_D_settlePointers 16 = .ok (.iconst 0, 1) := by decide +kernel
end
section
theorem d_D_settlePointers_17 : decode b_D_settlePointers 17 = .ok (.istore_n 1, 1) := by decide +kernel
theorem d_D_settlePointers_18 : decode b_D_settlePointers 18 = .ok (.iload_n 1, 1) := by decide +kernel
theorem d_D_settlePointers_19 : decode b_D_settlePointers 19 = .ok (.iconst 3, 1) := by decide +kernel
theorem d_D_settlePointers_20 : decode b_D_settlePointers 20 = .ok (.if_icmp .ge 45, 3) := by decide +kernel
theorem d_D_settlePointers_23 : decode b_D_settlePointers 23 = .ok (.aload_n 0, 1) := by decide +kernel
theorem d_D_settlePointers_24 : decode b_D_settlePointers 24 = .ok (.getfield 9, 3) := by decide +kernel
theorem d_D_settlePointers_27 : decode b_D_settlePointers 27 = .ok (.aload_n 0, 1) := by decide +kernel
theorem d_D_settlePointers_28 : decode b_D_settlePointers 28 = .ok (.getfield 15, 3) := by decide +kernel
theorem d_D_settlePointers_31 : decode b_D_settlePointers 31 = .ok (.iload_n 1, 1) := by decide +kernel
theorem d_D_settlePointers_32 : decode b_D_settlePointers 32 = .ok (.iaload, 1) := by decide +kernel
theorem d_D_settlePointers_33 : decode b_D_settlePointers 33 = .ok (.invokevirtual 74, 3) := by decide +kernel
theorem d_D_settlePointers_36 : decode b_D_settlePointers 36 = .ok (.ifCond .eq 23, 3) := by decide +kernel
theorem d_D_settlePointers_39 : decode b_D_settlePointers 39 = .ok (.aload_n 0, 1) := by decide +kernel
theorem d_D_settlePointers_40 : decode b_D_settlePointers 40 = .ok (.getfield 15, 3) := by decide +kernel
theorem d_D_settlePointers_43 : decode b_D_settlePointers 43 = .ok (.iload_n 1, 1) := by decide +kernel
theorem d_D_settlePointers_44 : decode b_D_settlePointers 44 = .ok (.aload_n 0, 1) := by decide +kernel
theorem d_D_settlePointers_45 : decode b_D_settlePointers 45 = .ok (.aload_n 0, 1) := by decide +kernel
theorem d_D_settlePointers_46 : decode b_D_settlePointers 46 = .ok (.getfield 15, 3) := by decide +kernel
theorem d_D_settlePointers_49 : decode b_D_settlePointers 49 = .ok (.iload_n 1, 1) := by decide +kernel
theorem d_D_settlePointers_50 : decode b_D_settlePointers 50 = .ok (.iaload, 1) := by decide +kernel
theorem d_D_settlePointers_51 : decode b_D_settlePointers 51 = .ok (.aload_n 0, 1) := by decide +kernel
theorem d_D_settlePointers_52 : decode b_D_settlePointers 52 = .ok (.getfield 31, 3) := by decide +kernel
theorem d_D_settlePointers_55 : decode b_D_settlePointers 55 = .ok (.invokevirtual 96, 3) := by decide +kernel
theorem d_D_settlePointers_58 : decode b_D_settlePointers 58 = .ok (.iastore, 1) := by decide +kernel
theorem d_D_settlePointers_59 : decode b_D_settlePointers 59 = .ok (.iinc 1 1, 3) := by decide +kernel
theorem d_D_settlePointers_62 : decode b_D_settlePointers 62 = .ok (.goto (-44), 3) := by decide +kernel
theorem d_D_settlePointers_65 : decode b_D_settlePointers 65 = .ok (.return_, 1) := by decide +kernel
theorem d_O_add_0 : decode b_O_add 0 = .ok (.aload_n 0, 1) := by decide +kernel
theorem d_O_add_1 : decode b_O_add 1 = .ok (.invokevirtual 43, 3) := by decide +kernel
theorem d_O_add_4 : decode b_O_add 4 = .ok (.ifCond .eq 6, 3) := by decide +kernel
theorem d_O_add_7 : decode b_O_add 7 = .ok (.bipush (-3), 2) := by decide +kernel
theorem d_O_add_9 : decode b_O_add 9 = .ok (.ireturn, 1) := by decide +kernel
theorem d_O_add_10 : decode b_O_add 10 = .ok (.aload_n 0, 1) := by decide +kernel
theorem d_O_add_11 : decode b_O_add 11 = .ok (.getfield 32, 3) := by decide +kernel
theorem d_O_add_14 : decode b_O_add 14 = .ok (.istore 4, 2) := by decide +kernel
theorem d_O_add_16 : decode b_O_add 16 = .ok (.aload_n 0, 1) := by decide +kernel
theorem d_O_add_17 : decode b_O_add 17 = .ok (.dup, 1) := by decide +kernel
theorem d_O_add_18 : decode b_O_add 18 = .ok (.getfield 32, 3) := by decide +kernel
theorem d_O_add_21 : decode b_O_add 21 = .ok (.iconst 1, 1) := by decide +kernel
theorem d_O_add_22 : decode b_O_add 22 = .ok (.iadd, 1) := by decide +kernel
theorem d_O_add_23 : decode b_O_add 23 = .ok (.putfield 32, 3) := by decide +kernel
theorem d_O_add_26 : decode b_O_add 26 = .ok (.aload_n 0, 1) := by decide +kernel
theorem d_O_add_27 : decode b_O_add 27 = .ok (.getfield 9, 3) := by decide +kernel
theorem d_O_add_30 : decode b_O_add 30 = .ok (.iload 4, 2) := by decide +kernel
theorem d_O_add_32 : decode b_O_add 32 = .ok (.iload_n 2, 1) := by decide +kernel
theorem d_O_add_33 : decode b_O_add 33 = .ok (.iastore, 1) := by decide +kernel
theorem d_O_add_34 : decode b_O_add 34 = .ok (.aload_n 0, 1) := by decide +kernel
theorem d_O_add_35 : decode b_O_add 35 = .ok (.getfield 15, 3) := by decide +kernel
theorem d_O_add_38 : decode b_O_add 38 = .ok (.iload 4, 2) := by decide +kernel
theorem d_O_add_40 : decode b_O_add 40 = .ok (.iload_n 3, 1) := by decide +kernel
theorem d_O_add_41 : decode b_O_add 41 = .ok (.iastore, 1) := by decide +kernel
theorem d_O_add_42 : decode b_O_add 42 = .ok (.aload_n 0, 1) := by decide +kernel
theorem d_O_add_43 : decode b_O_add 43 = .ok (.getfield 18, 3) := by decide +kernel
theorem d_O_add_46 : decode b_O_add 46 = .ok (.iload 4, 2) := by decide +kernel
theorem d_O_add_48 : decode b_O_add 48 = .ok (.aload_n 1, 1) := by decide +kernel
theorem d_O_add_49 : decode b_O_add 49 = .ok (.getfield 47, 3) := by decide +kernel
theorem d_O_add_52 : decode b_O_add 52 = .ok (.lastore, 1) := by decide +kernel
theorem d_O_add_53 : decode b_O_add 53 = .ok (.aload_n 0, 1) := by decide +kernel
theorem d_O_add_54 : decode b_O_add 54 = .ok (.getfield 22, 3) := by decide +kernel
theorem d_O_add_57 : decode b_O_add 57 = .ok (.iload 4, 2) := by decide +kernel
theorem d_O_add_59 : decode b_O_add 59 = .ok (.aload_n 1, 1) := by decide +kernel
theorem d_O_add_60 : decode b_O_add 60 = .ok (.getfield 52, 3) := by decide +kernel
theorem d_O_add_63 : decode b_O_add 63 = .ok (.iastore, 1) := by decide +kernel
theorem d_O_add_64 : decode b_O_add 64 = .ok (.aload_n 1, 1) := by decide +kernel
theorem d_O_add_65 : decode b_O_add 65 = .ok (.getfield 55, 3) := by decide +kernel
theorem d_O_add_68 : decode b_O_add 68 = .ok (.iconst 0, 1) := by decide +kernel
theorem d_O_add_69 : decode b_O_add 69 = .ok (.aload_n 0, 1) := by decide +kernel
theorem d_O_add_70 : decode b_O_add 70 = .ok (.getfield 25, 3) := by decide +kernel
theorem d_O_add_73 : decode b_O_add 73 = .ok (.iload 4, 2) := by decide +kernel
theorem d_O_add_75 : decode b_O_add 75 = .ok (.iconst 3, 1) := by decide +kernel
theorem d_O_add_76 : decode b_O_add 76 = .ok (.imul, 1) := by decide +kernel
theorem d_O_add_77 : decode b_O_add 77 = .ok (.iconst 3, 1) := by decide +kernel
theorem d_O_add_78 : decode b_O_add 78 = .ok (.invokestatic 56, 3) := by decide +kernel
theorem d_O_add_81 : decode b_O_add 81 = .ok (.iload 4, 2) := by decide +kernel
theorem d_O_add_83 : decode b_O_add 83 = .ok (.ireturn, 1) := by decide +kernel
theorem d_S_write_0 : decode b_S_write 0 = .ok (.aload_n 0, 1) := by decide +kernel
theorem d_S_write_1 : decode b_S_write 1 = .ok (.invokevirtual 43, 3) := by decide +kernel
theorem d_S_write_4 : decode b_S_write 4 = .ok (.aload_n 0, 1) := by decide +kernel
theorem d_S_write_5 : decode b_S_write 5 = .ok (.getfield 28, 3) := by decide +kernel
theorem d_S_write_8 : decode b_S_write 8 = .ok (.getfield 69, 3) := by decide +kernel
theorem d_S_write_11 : decode b_S_write 11 = .ok (.istore_n 3, 1) := by decide +kernel
theorem d_S_write_12 : decode b_S_write 12 = .ok (.iload_n 3, 1) := by decide +kernel
theorem d_S_write_13 : decode b_S_write 13 = .ok (.ifCond .eq 17, 3) := by decide +kernel
theorem d_S_write_16 : decode b_S_write 16 = .ok (.iload_n 1, 1) := by decide +kernel
theorem d_S_write_17 : decode b_S_write 17 = .ok (.invokestatic 72, 3) := by decide +kernel
theorem d_S_write_20 : decode b_S_write 20 = .ok (.ifCond .eq 10, 3) := by decide +kernel
theorem d_S_write_23 : decode b_S_write 23 = .ok (.iload_n 2, 1) := by decide +kernel
theorem d_S_write_24 : decode b_S_write 24 = .ok (.invokestatic 75, 3) := by decide +kernel
theorem d_S_write_27 : decode b_S_write 27 = .ok (.ifCond .ne 5, 3) := by decide +kernel
theorem d_S_write_30 : decode b_S_write 30 = .ok (.iconst (-1), 1) := by decide +kernel
theorem d_S_write_31 : decode b_S_write 31 = .ok (.ireturn, 1) := by decide +kernel
theorem d_S_write_32 : decode b_S_write 32 = .ok (.aload_n 0, 1) := by decide +kernel
theorem d_S_write_33 : decode b_S_write 33 = .ok (.getfield 10, 3) := by decide +kernel
theorem d_S_write_36 : decode b_S_write 36 = .ok (.iload_n 3, 1) := by decide +kernel
theorem d_S_write_37 : decode b_S_write 37 = .ok (.iload_n 1, 1) := by decide +kernel
theorem d_S_write_38 : decode b_S_write 38 = .ok (.iload_n 2, 1) := by decide +kernel
theorem d_S_write_39 : decode b_S_write 39 = .ok (.invokevirtual 78, 3) := by decide +kernel
theorem d_S_write_42 : decode b_S_write 42 = .ok (.ifCond .eq 6, 3) := by decide +kernel
theorem d_S_write_45 : decode b_S_write 45 = .ok (.bipush (-2), 2) := by decide +kernel
theorem d_S_write_47 : decode b_S_write 47 = .ok (.ireturn, 1) := by decide +kernel
theorem d_S_write_48 : decode b_S_write 48 = .ok (.aload_n 0, 1) := by decide +kernel
theorem d_S_write_49 : decode b_S_write 49 = .ok (.invokevirtual 50, 3) := by decide +kernel
theorem d_S_write_52 : decode b_S_write 52 = .ok (.ifCond .ne 6, 3) := by decide +kernel
theorem d_S_write_55 : decode b_S_write 55 = .ok (.bipush (-3), 2) := by decide +kernel
theorem d_S_write_57 : decode b_S_write 57 = .ok (.ireturn, 1) := by decide +kernel
theorem d_S_write_58 : decode b_S_write 58 = .ok (.aload_n 0, 1) := by decide +kernel
theorem d_S_write_59 : decode b_S_write 59 = .ok (.getfield 10, 3) := by decide +kernel
theorem d_S_write_62 : decode b_S_write 62 = .ok (.aload_n 0, 1) := by decide +kernel
theorem d_S_write_63 : decode b_S_write 63 = .ok (.getfield 10, 3) := by decide +kernel
theorem d_S_write_66 : decode b_S_write 66 = .ok (.iload_n 3, 1) := by decide +kernel
theorem d_S_write_67 : decode b_S_write 67 = .ok (.invokevirtual 82, 3) := by decide +kernel
theorem d_S_write_70 : decode b_S_write 70 = .ok (.aload_n 0, 1) := by decide +kernel
theorem d_S_write_71 : decode b_S_write 71 = .ok (.getfield 10, 3) := by decide +kernel
theorem d_S_write_74 : decode b_S_write 74 = .ok (.iload_n 3, 1) := by decide +kernel
theorem d_S_write_75 : decode b_S_write 75 = .ok (.invokevirtual 85, 3) := by decide +kernel
theorem d_S_write_78 : decode b_S_write 78 = .ok (.iload_n 3, 1) := by decide +kernel
theorem d_S_write_79 : decode b_S_write 79 = .ok (.invokevirtual 88, 3) := by decide +kernel
theorem d_S_write_82 : decode b_S_write 82 = .ok (.istore 4, 2) := by decide +kernel
theorem d_S_write_84 : decode b_S_write 84 = .ok (.aload_n 0, 1) := by decide +kernel
theorem d_S_write_85 : decode b_S_write 85 = .ok (.getfield 10, 3) := by decide +kernel
theorem d_S_write_88 : decode b_S_write 88 = .ok (.iload 4, 2) := by decide +kernel
theorem d_S_write_90 : decode b_S_write 90 = .ok (.iload_n 1, 1) := by decide +kernel
theorem d_S_write_91 : decode b_S_write 91 = .ok (.iload_n 2, 1) := by decide +kernel
theorem d_S_write_92 : decode b_S_write 92 = .ok (.invokevirtual 92, 3) := by decide +kernel
theorem d_S_write_95 : decode b_S_write 95 = .ok (.aload_n 0, 1) := by decide +kernel
theorem d_S_write_96 : decode b_S_write 96 = .ok (.getfield 28, 3) := by decide +kernel
theorem d_S_write_99 : decode b_S_write 99 = .ok (.iload_n 3, 1) := by decide +kernel
theorem d_S_write_100 : decode b_S_write 100 = .ok (.iload 4, 2) := by decide +kernel
theorem d_S_write_102 : decode b_S_write 102 = .ok (.invokevirtual 96, 3) := by decide +kernel
theorem d_S_write_105 : decode b_S_write 105 = .ok (.aload_n 0, 1) := by decide +kernel
theorem d_S_write_106 : decode b_S_write 106 = .ok (.aload_n 0, 1) := by decide +kernel
theorem d_S_write_107 : decode b_S_write 107 = .ok (.getfield 36, 3) := by decide +kernel
theorem d_S_write_110 : decode b_S_write 110 = .ok (.iconst (-1), 1) := by decide +kernel
theorem d_S_write_111 : decode b_S_write 111 = .ok (.invokevirtual 65, 3) := by decide +kernel
theorem d_S_write_114 : decode b_S_write 114 = .ok (.ireturn, 1) := by decide +kernel
theorem d_C_isPlain_0 : decode b_C_isPlain 0 = .ok (.iconst 0, 1) := by decide +kernel
theorem d_C_isPlain_1 : decode b_C_isPlain 1 = .ok (.istore 4, 2) := by decide +kernel
theorem d_C_isPlain_3 : decode b_C_isPlain 3 = .ok (.iload 4, 2) := by decide +kernel
theorem d_C_isPlain_5 : decode b_C_isPlain 5 = .ok (.bipush 8, 2) := by decide +kernel
theorem d_C_isPlain_7 : decode b_C_isPlain 7 = .ok (.if_icmp .ge 35, 3) := by decide +kernel
theorem d_C_isPlain_10 : decode b_C_isPlain 10 = .ok (.aload_n 0, 1) := by decide +kernel
theorem d_C_isPlain_11 : decode b_C_isPlain 11 = .ok (.iload_n 1, 1) := by decide +kernel
theorem d_C_isPlain_12 : decode b_C_isPlain 12 = .ok (.iload_n 2, 1) := by decide +kernel
theorem d_C_isPlain_13 : decode b_C_isPlain 13 = .ok (.iload 4, 2) := by decide +kernel
theorem d_C_isPlain_15 : decode b_C_isPlain 15 = .ok (.invokevirtual 43, 3) := by decide +kernel
theorem d_C_isPlain_18 : decode b_C_isPlain 18 = .ok (.iload 4, 2) := by decide +kernel
theorem d_C_isPlain_20 : decode b_C_isPlain 20 = .ok (.iload_n 3, 1) := by decide +kernel
theorem d_C_isPlain_21 : decode b_C_isPlain 21 = .ok (.if_icmp .ne 7, 3) := by decide +kernel
theorem d_C_isPlain_24 : decode b_C_isPlain 24 = .ok (.iconst 1, 1) := by decide +kernel
theorem d_C_isPlain_25 : decode b_C_isPlain 25 = .ok (.goto 4, 3) := by decide +kernel
theorem d_C_isPlain_28 : decode b_C_isPlain 28 = .ok (.iconst 0, 1) := by decide +kernel
theorem d_C_isPlain_29 : decode b_C_isPlain 29 = .ok (.i2l, 1) := by decide +kernel
theorem d_C_isPlain_30 : decode b_C_isPlain 30 = .ok (.lcmp, 1) := by decide +kernel
theorem d_C_isPlain_31 : decode b_C_isPlain 31 = .ok (.ifCond .eq 5, 3) := by decide +kernel
theorem d_C_isPlain_34 : decode b_C_isPlain 34 = .ok (.iconst 0, 1) := by decide +kernel
theorem d_C_isPlain_35 : decode b_C_isPlain 35 = .ok (.ireturn, 1) := by decide +kernel
theorem d_C_isPlain_36 : decode b_C_isPlain 36 = .ok (.iinc 4 1, 3) := by decide +kernel
theorem d_C_isPlain_39 : decode b_C_isPlain 39 = .ok (.goto (-36), 3) := by decide +kernel
theorem d_C_isPlain_42 : decode b_C_isPlain 42 = .ok (.iconst 1, 1) := by decide +kernel
theorem d_C_isPlain_43 : decode b_C_isPlain 43 = .ok (.ireturn, 1) := by decide +kernel
theorem d_C_countOf_0 : decode b_C_countOf 0 = .ok (.aload_n 0, 1) := by decide +kernel
theorem d_C_countOf_1 : decode b_C_countOf 1 = .ok (.iload_n 1, 1) := by decide +kernel
theorem d_C_countOf_2 : decode b_C_countOf 2 = .ok (.invokevirtual 29, 3) := by decide +kernel
theorem d_C_countOf_5 : decode b_C_countOf 5 = .ok (.ifCond .eq 32, 3) := by decide +kernel
theorem d_C_countOf_8 : decode b_C_countOf 8 = .ok (.iload_n 2, 1) := by decide +kernel
theorem d_C_countOf_9 : decode b_C_countOf 9 = .ok (.invokestatic 33, 3) := by decide +kernel
theorem d_C_countOf_12 : decode b_C_countOf 12 = .ok (.ifCond .eq 25, 3) := by decide +kernel
theorem d_C_countOf_15 : decode b_C_countOf 15 = .ok (.iload_n 3, 1) := by decide +kernel
theorem d_C_countOf_16 : decode b_C_countOf 16 = .ok (.invokestatic 36, 3) := by decide +kernel
theorem d_C_countOf_19 : decode b_C_countOf 19 = .ok (.ifCond .eq 18, 3) := by decide +kernel
theorem d_C_countOf_22 : decode b_C_countOf 22 = .ok (.aload_n 0, 1) := by decide +kernel
theorem d_C_countOf_23 : decode b_C_countOf 23 = .ok (.getfield 18, 3) := by decide +kernel
theorem d_C_countOf_26 : decode b_C_countOf 26 = .ok (.iload_n 1, 1) := by decide +kernel
theorem d_C_countOf_27 : decode b_C_countOf 27 = .ok (.iload_n 2, 1) := by decide +kernel
theorem d_C_countOf_28 : decode b_C_countOf 28 = .ok (.invokestatic 39, 3) := by decide +kernel
theorem d_C_countOf_31 : decode b_C_countOf 31 = .ok (.iload_n 3, 1) := by decide +kernel
theorem d_C_countOf_32 : decode b_C_countOf 32 = .ok (.iadd, 1) := by decide +kernel
theorem d_C_countOf_33 : decode b_C_countOf 33 = .ok (.laload, 1) := by decide +kernel
theorem d_C_countOf_34 : decode b_C_countOf 34 = .ok (.goto 4, 3) := by decide +kernel
theorem d_C_countOf_37 : decode b_C_countOf 37 = .ok (.lconst 0, 1) := by decide +kernel
theorem d_C_countOf_38 : decode b_C_countOf 38 = .ok (.lreturn, 1) := by decide +kernel
theorem d_S_rebase_0 : decode b_S_rebase 0 = .ok (.aload_n 0, 1) := by decide +kernel
theorem d_S_rebase_1 : decode b_S_rebase 1 = .ok (.invokevirtual 43, 3) := by decide +kernel
theorem d_S_rebase_4 : decode b_S_rebase 4 = .ok (.aload_n 0, 1) := by decide +kernel
theorem d_S_rebase_5 : decode b_S_rebase 5 = .ok (.iload_n 1, 1) := by decide +kernel
theorem d_S_rebase_6 : decode b_S_rebase 6 = .ok (.invokevirtual 100, 3) := by decide +kernel
theorem d_S_rebase_9 : decode b_S_rebase 9 = .ok (.ifCond .eq 29, 3) := by decide +kernel
theorem d_S_rebase_12 : decode b_S_rebase 12 = .ok (.aload_n 0, 1) := by decide +kernel
theorem d_S_rebase_13 : decode b_S_rebase 13 = .ok (.getfield 28, 3) := by decide +kernel
theorem d_S_rebase_16 : decode b_S_rebase 16 = .ok (.iload_n 2, 1) := by decide +kernel
theorem d_S_rebase_17 : decode b_S_rebase 17 = .ok (.invokevirtual 46, 3) := by decide +kernel
theorem d_S_rebase_20 : decode b_S_rebase 20 = .ok (.ifCond .eq 18, 3) := by decide +kernel
theorem d_S_rebase_23 : decode b_S_rebase 23 = .ok (.iload_n 2, 1) := by decide +kernel
theorem d_S_rebase_24 : decode b_S_rebase 24 = .ok (.aload_n 0, 1) := by decide +kernel
theorem d_S_rebase_25 : decode b_S_rebase 25 = .ok (.getfield 10, 3) := by decide +kernel
theorem d_S_rebase_28 : decode b_S_rebase 28 = .ok (.iload_n 1, 1) := by decide +kernel
theorem d_S_rebase_29 : decode b_S_rebase 29 = .ok (.invokevirtual 103, 3) := by decide +kernel
theorem d_S_rebase_32 : decode b_S_rebase 32 = .ok (.invokestatic 107, 3) := by decide +kernel
theorem d_S_rebase_35 : decode b_S_rebase 35 = .ok (.ifCond .eq 5, 3) := by decide +kernel
theorem d_S_rebase_38 : decode b_S_rebase 38 = .ok (.iconst (-1), 1) := by decide +kernel
theorem d_S_rebase_39 : decode b_S_rebase 39 = .ok (.ireturn, 1) := by decide +kernel
theorem d_S_rebase_40 : decode b_S_rebase 40 = .ok (.aload_n 0, 1) := by decide +kernel
theorem d_S_rebase_41 : decode b_S_rebase 41 = .ok (.getfield 10, 3) := by decide +kernel
theorem d_S_rebase_44 : decode b_S_rebase 44 = .ok (.iload_n 1, 1) := by decide +kernel
theorem d_S_rebase_45 : decode b_S_rebase 45 = .ok (.invokevirtual 85, 3) := by decide +kernel
theorem d_S_rebase_48 : decode b_S_rebase 48 = .ok (.iload_n 2, 1) := by decide +kernel
theorem d_S_rebase_49 : decode b_S_rebase 49 = .ok (.if_icmp .ne 6, 3) := by decide +kernel
theorem d_S_rebase_52 : decode b_S_rebase 52 = .ok (.bipush (-2), 2) := by decide +kernel
theorem d_S_rebase_54 : decode b_S_rebase 54 = .ok (.ireturn, 1) := by decide +kernel
theorem d_S_rebase_55 : decode b_S_rebase 55 = .ok (.aload_n 0, 1) := by decide +kernel
theorem d_S_rebase_56 : decode b_S_rebase 56 = .ok (.invokevirtual 50, 3) := by decide +kernel
theorem d_S_rebase_59 : decode b_S_rebase 59 = .ok (.ifCond .ne 6, 3) := by decide +kernel
theorem d_S_rebase_62 : decode b_S_rebase 62 = .ok (.bipush (-3), 2) := by decide +kernel
theorem d_S_rebase_64 : decode b_S_rebase 64 = .ok (.ireturn, 1) := by decide +kernel
theorem d_S_rebase_65 : decode b_S_rebase 65 = .ok (.aload_n 0, 1) := by decide +kernel
theorem d_S_rebase_66 : decode b_S_rebase 66 = .ok (.getfield 28, 3) := by decide +kernel
theorem d_S_rebase_69 : decode b_S_rebase 69 = .ok (.iload_n 1, 1) := by decide +kernel
theorem d_S_rebase_70 : decode b_S_rebase 70 = .ok (.aload_n 0, 1) := by decide +kernel
theorem d_S_rebase_71 : decode b_S_rebase 71 = .ok (.getfield 10, 3) := by decide +kernel
theorem d_S_rebase_74 : decode b_S_rebase 74 = .ok (.iload_n 1, 1) := by decide +kernel
theorem d_S_rebase_75 : decode b_S_rebase 75 = .ok (.iload_n 2, 1) := by decide +kernel
theorem d_S_rebase_76 : decode b_S_rebase 76 = .ok (.invokevirtual 111, 3) := by decide +kernel
theorem d_S_rebase_79 : decode b_S_rebase 79 = .ok (.invokevirtual 96, 3) := by decide +kernel
theorem d_S_rebase_82 : decode b_S_rebase 82 = .ok (.aload_n 0, 1) := by decide +kernel
theorem d_S_rebase_83 : decode b_S_rebase 83 = .ok (.aload_n 0, 1) := by decide +kernel
theorem d_S_rebase_84 : decode b_S_rebase 84 = .ok (.getfield 36, 3) := by decide +kernel
theorem d_S_rebase_87 : decode b_S_rebase 87 = .ok (.iconst (-1), 1) := by decide +kernel
theorem d_S_rebase_88 : decode b_S_rebase 88 = .ok (.invokevirtual 65, 3) := by decide +kernel
theorem d_S_rebase_91 : decode b_S_rebase 91 = .ok (.ireturn, 1) := by decide +kernel
theorem d_S_isReplaceable_0 : decode b_S_isReplaceable 0 = .ok (.iload_n 1, 1) := by decide +kernel
theorem d_S_isReplaceable_1 : decode b_S_isReplaceable 1 = .ok (.ifCond .eq 18, 3) := by decide +kernel
theorem d_S_isReplaceable_4 : decode b_S_isReplaceable 4 = .ok (.aload_n 0, 1) := by decide +kernel
theorem d_S_isReplaceable_5 : decode b_S_isReplaceable 5 = .ok (.getfield 28, 3) := by decide +kernel
theorem d_S_isReplaceable_8 : decode b_S_isReplaceable 8 = .ok (.iload_n 1, 1) := by decide +kernel
theorem d_S_isReplaceable_9 : decode b_S_isReplaceable 9 = .ok (.invokevirtual 46, 3) := by decide +kernel
theorem d_S_isReplaceable_12 : decode b_S_isReplaceable 12 = .ok (.ifCond .eq 7, 3) := by decide +kernel
theorem d_S_isReplaceable_15 : decode b_S_isReplaceable 15 = .ok (.iconst 1, 1) := by decide +kernel
theorem d_S_isReplaceable_16 : decode b_S_isReplaceable 16 = .ok (.goto 4, 3) := by decide +kernel
theorem d_S_isReplaceable_19 : decode b_S_isReplaceable 19 = .ok (.iconst 0, 1) := by decide +kernel
theorem d_S_isReplaceable_20 : decode b_S_isReplaceable 20 = .ok (.ireturn, 1) := by decide +kernel
theorem d_S_abandon_0 : decode b_S_abandon 0 = .ok (.aload_n 0, 1) := by decide +kernel
theorem d_S_abandon_1 : decode b_S_abandon 1 = .ok (.invokevirtual 43, 3) := by decide +kernel
theorem d_S_abandon_4 : decode b_S_abandon 4 = .ok (.aload_n 0, 1) := by decide +kernel
theorem d_S_abandon_5 : decode b_S_abandon 5 = .ok (.iload_n 1, 1) := by decide +kernel
theorem d_S_abandon_6 : decode b_S_abandon 6 = .ok (.invokevirtual 100, 3) := by decide +kernel
theorem d_S_abandon_9 : decode b_S_abandon 9 = .ok (.ifCond .ne 5, 3) := by decide +kernel
theorem d_S_abandon_12 : decode b_S_abandon 12 = .ok (.iconst (-1), 1) := by decide +kernel
theorem d_S_abandon_13 : decode b_S_abandon 13 = .ok (.ireturn, 1) := by decide +kernel
theorem d_S_abandon_14 : decode b_S_abandon 14 = .ok (.aload_n 0, 1) := by decide +kernel
theorem d_S_abandon_15 : decode b_S_abandon 15 = .ok (.getfield 28, 3) := by decide +kernel
theorem d_S_abandon_18 : decode b_S_abandon 18 = .ok (.iload_n 1, 1) := by decide +kernel
theorem d_S_abandon_19 : decode b_S_abandon 19 = .ok (.aload_n 0, 1) := by decide +kernel
theorem d_S_abandon_20 : decode b_S_abandon 20 = .ok (.getfield 10, 3) := by decide +kernel
theorem d_S_abandon_23 : decode b_S_abandon 23 = .ok (.iload_n 1, 1) := by decide +kernel
theorem d_S_abandon_24 : decode b_S_abandon 24 = .ok (.invokevirtual 85, 3) := by decide +kernel
theorem d_S_abandon_27 : decode b_S_abandon 27 = .ok (.invokevirtual 96, 3) := by decide +kernel
theorem d_S_abandon_30 : decode b_S_abandon 30 = .ok (.aload_n 0, 1) := by decide +kernel
theorem d_S_abandon_31 : decode b_S_abandon 31 = .ok (.aload_n 0, 1) := by decide +kernel
theorem d_S_abandon_32 : decode b_S_abandon 32 = .ok (.getfield 36, 3) := by decide +kernel
theorem d_S_abandon_35 : decode b_S_abandon 35 = .ok (.iconst (-1), 1) := by decide +kernel
theorem d_S_abandon_36 : decode b_S_abandon 36 = .ok (.invokevirtual 65, 3) := by decide +kernel
theorem d_S_abandon_39 : decode b_S_abandon 39 = .ok (.ireturn, 1) := by decide +kernel
theorem d_S_squash_0 : decode b_S_squash 0 = .ok (.aload_n 0, 1) := by decide +kernel
theorem d_S_squash_1 : decode b_S_squash 1 = .ok (.invokevirtual 43, 3) := by decide +kernel
theorem d_S_squash_4 : decode b_S_squash 4 = .ok (.aload_n 0, 1) := by decide +kernel
theorem d_S_squash_5 : decode b_S_squash 5 = .ok (.iload_n 1, 1) := by decide +kernel
theorem d_S_squash_6 : decode b_S_squash 6 = .ok (.invokevirtual 100, 3) := by decide +kernel
theorem d_S_squash_9 : decode b_S_squash 9 = .ok (.ifCond .eq 14, 3) := by decide +kernel
theorem d_S_squash_12 : decode b_S_squash 12 = .ok (.aload_n 0, 1) := by decide +kernel
theorem d_S_squash_13 : decode b_S_squash 13 = .ok (.getfield 10, 3) := by decide +kernel
theorem d_S_squash_16 : decode b_S_squash 16 = .ok (.iload_n 1, 1) := by decide +kernel
theorem d_S_squash_17 : decode b_S_squash 17 = .ok (.invokevirtual 85, 3) := by decide +kernel
theorem d_S_squash_20 : decode b_S_squash 20 = .ok (.ifCond .ne 5, 3) := by decide +kernel
theorem d_S_squash_23 : decode b_S_squash 23 = .ok (.iconst (-1), 1) := by decide +kernel
theorem d_S_squash_24 : decode b_S_squash 24 = .ok (.ireturn, 1) := by decide +kernel
theorem d_S_squash_25 : decode b_S_squash 25 = .ok (.aload_n 0, 1) := by decide +kernel
theorem d_S_squash_26 : decode b_S_squash 26 = .ok (.invokevirtual 50, 3) := by decide +kernel
theorem d_S_squash_29 : decode b_S_squash 29 = .ok (.ifCond .ne 6, 3) := by decide +kernel
theorem d_S_squash_32 : decode b_S_squash 32 = .ok (.bipush (-3), 2) := by decide +kernel
theorem d_S_squash_34 : decode b_S_squash 34 = .ok (.ireturn, 1) := by decide +kernel
theorem d_S_squash_35 : decode b_S_squash 35 = .ok (.aload_n 0, 1) := by decide +kernel
theorem d_S_squash_36 : decode b_S_squash 36 = .ok (.getfield 10, 3) := by decide +kernel
theorem d_S_squash_39 : decode b_S_squash 39 = .ok (.iload_n 1, 1) := by decide +kernel
theorem d_S_squash_40 : decode b_S_squash 40 = .ok (.invokevirtual 85, 3) := by decide +kernel
theorem d_S_squash_43 : decode b_S_squash 43 = .ok (.istore_n 2, 1) := by decide +kernel
theorem d_S_squash_44 : decode b_S_squash 44 = .ok (.aload_n 0, 1) := by decide +kernel
theorem d_S_squash_45 : decode b_S_squash 45 = .ok (.getfield 10, 3) := by decide +kernel
theorem d_S_squash_48 : decode b_S_squash 48 = .ok (.aload_n 0, 1) := by decide +kernel
theorem d_S_squash_49 : decode b_S_squash 49 = .ok (.getfield 10, 3) := by decide +kernel
theorem d_S_squash_52 : decode b_S_squash 52 = .ok (.iload_n 2, 1) := by decide +kernel
theorem d_S_squash_53 : decode b_S_squash 53 = .ok (.invokevirtual 82, 3) := by decide +kernel
theorem d_S_squash_56 : decode b_S_squash 56 = .ok (.aload_n 0, 1) := by decide +kernel
theorem d_S_squash_57 : decode b_S_squash 57 = .ok (.getfield 10, 3) := by decide +kernel
theorem d_S_squash_60 : decode b_S_squash 60 = .ok (.iload_n 2, 1) := by decide +kernel
theorem d_S_squash_61 : decode b_S_squash 61 = .ok (.invokevirtual 85, 3) := by decide +kernel
theorem d_S_squash_64 : decode b_S_squash 64 = .ok (.iload_n 1, 1) := by decide +kernel
theorem d_S_squash_65 : decode b_S_squash 65 = .ok (.invokevirtual 88, 3) := by decide +kernel
theorem d_S_squash_68 : decode b_S_squash 68 = .ok (.istore_n 3, 1) := by decide +kernel
theorem d_S_squash_69 : decode b_S_squash 69 = .ok (.aload_n 0, 1) := by decide +kernel
theorem d_S_squash_70 : decode b_S_squash 70 = .ok (.getfield 28, 3) := by decide +kernel
theorem d_S_squash_73 : decode b_S_squash 73 = .ok (.iload_n 1, 1) := by decide +kernel
theorem d_S_squash_74 : decode b_S_squash 74 = .ok (.iload_n 3, 1) := by decide +kernel
theorem d_S_squash_75 : decode b_S_squash 75 = .ok (.invokevirtual 96, 3) := by decide +kernel
theorem d_S_squash_78 : decode b_S_squash 78 = .ok (.aload_n 0, 1) := by decide +kernel
theorem d_S_squash_79 : decode b_S_squash 79 = .ok (.getfield 28, 3) := by decide +kernel
theorem d_S_squash_82 : decode b_S_squash 82 = .ok (.iload_n 2, 1) := by decide +kernel
theorem d_S_squash_83 : decode b_S_squash 83 = .ok (.iload_n 3, 1) := by decide +kernel
theorem d_S_squash_84 : decode b_S_squash 84 = .ok (.invokevirtual 96, 3) := by decide +kernel
theorem d_S_squash_87 : decode b_S_squash 87 = .ok (.aload_n 0, 1) := by decide +kernel
theorem d_S_squash_88 : decode b_S_squash 88 = .ok (.aload_n 0, 1) := by decide +kernel
theorem d_S_squash_89 : decode b_S_squash 89 = .ok (.getfield 36, 3) := by decide +kernel
theorem d_S_squash_92 : decode b_S_squash 92 = .ok (.iconst (-1), 1) := by decide +kernel
theorem d_S_squash_93 : decode b_S_squash 93 = .ok (.invokevirtual 65, 3) := by decide +kernel
theorem d_S_squash_96 : decode b_S_squash 96 = .ok (.ireturn, 1) := by decide +kernel
theorem d_S_edit_0 : decode b_S_edit 0 = .ok (.aload_n 0, 1) := by decide +kernel
theorem d_S_edit_1 : decode b_S_edit 1 = .ok (.invokevirtual 43, 3) := by decide +kernel
theorem d_S_edit_4 : decode b_S_edit 4 = .ok (.aload_n 0, 1) := by decide +kernel
theorem d_S_edit_5 : decode b_S_edit 5 = .ok (.getfield 28, 3) := by decide +kernel
theorem d_S_edit_8 : decode b_S_edit 8 = .ok (.iload_n 1, 1) := by decide +kernel
theorem d_S_edit_9 : decode b_S_edit 9 = .ok (.invokevirtual 46, 3) := by decide +kernel
theorem d_S_edit_12 : decode b_S_edit 12 = .ok (.ifCond .ne 5, 3) := by decide +kernel
theorem d_S_edit_15 : decode b_S_edit 15 = .ok (.iconst (-1), 1) := by decide +kernel
theorem d_S_edit_16 : decode b_S_edit 16 = .ok (.ireturn, 1) := by decide +kernel
theorem d_S_edit_17 : decode b_S_edit 17 = .ok (.aload_n 0, 1) := by decide +kernel
theorem d_S_edit_18 : decode b_S_edit 18 = .ok (.getfield 28, 3) := by decide +kernel
theorem d_S_edit_21 : decode b_S_edit 21 = .ok (.getfield 69, 3) := by decide +kernel
theorem d_S_edit_24 : decode b_S_edit 24 = .ok (.iload_n 1, 1) := by decide +kernel
theorem d_S_edit_25 : decode b_S_edit 25 = .ok (.if_icmp .ne 6, 3) := by decide +kernel
theorem d_S_edit_28 : decode b_S_edit 28 = .ok (.bipush (-2), 2) := by decide +kernel
theorem d_S_edit_30 : decode b_S_edit 30 = .ok (.ireturn, 1) := by decide +kernel
theorem d_S_edit_31 : decode b_S_edit 31 = .ok (.aload_n 0, 1) := by decide +kernel
theorem d_S_edit_32 : decode b_S_edit 32 = .ok (.getfield 28, 3) := by decide +kernel
theorem d_S_edit_35 : decode b_S_edit 35 = .ok (.iload_n 1, 1) := by decide +kernel
theorem d_S_edit_36 : decode b_S_edit 36 = .ok (.invokevirtual 62, 3) := by decide +kernel
theorem d_S_edit_39 : decode b_S_edit 39 = .ok (.aload_n 0, 1) := by decide +kernel
theorem d_S_edit_40 : decode b_S_edit 40 = .ok (.aload_n 0, 1) := by decide +kernel
theorem d_S_edit_41 : decode b_S_edit 41 = .ok (.getfield 36, 3) := by decide +kernel
theorem d_S_edit_44 : decode b_S_edit 44 = .ok (.iconst (-1), 1) := by decide +kernel
theorem d_S_edit_45 : decode b_S_edit 45 = .ok (.invokevirtual 65, 3) := by decide +kernel
theorem d_S_edit_48 : decode b_S_edit 48 = .ok (.ireturn, 1) := by decide +kernel
theorem d_S_mark_0 : decode b_S_mark 0 = .ok (.aload_n 0, 1) := by decide +kernel
theorem d_S_mark_1 : decode b_S_mark 1 = .ok (.invokevirtual 43, 3) := by decide +kernel
theorem d_S_mark_4 : decode b_S_mark 4 = .ok (.iload_n 1, 1) := by decide +kernel
theorem d_S_mark_5 : decode b_S_mark 5 = .ok (.invokestatic 114, 3) := by decide +kernel
theorem d_S_mark_8 : decode b_S_mark 8 = .ok (.ifCond .eq 19, 3) := by decide +kernel
theorem d_S_mark_11 : decode b_S_mark 11 = .ok (.iload_n 2, 1) := by decide +kernel
theorem d_S_mark_12 : decode b_S_mark 12 = .ok (.iconst (-1), 1) := by decide +kernel
theorem d_S_mark_13 : decode b_S_mark 13 = .ok (.if_icmp .eq 16, 3) := by decide +kernel
theorem d_S_mark_16 : decode b_S_mark 16 = .ok (.aload_n 0, 1) := by decide +kernel
theorem d_S_mark_17 : decode b_S_mark 17 = .ok (.getfield 28, 3) := by decide +kernel
theorem d_S_mark_20 : decode b_S_mark 20 = .ok (.iload_n 2, 1) := by decide +kernel
theorem d_S_mark_21 : decode b_S_mark 21 = .ok (.invokevirtual 46, 3) := by decide +kernel
theorem d_S_mark_24 : decode b_S_mark 24 = .ok (.ifCond .ne 5, 3) := by decide +kernel
theorem d_S_mark_27 : decode b_S_mark 27 = .ok (.iconst (-1), 1) := by decide +kernel
theorem d_S_mark_28 : decode b_S_mark 28 = .ok (.ireturn, 1) := by decide +kernel
theorem d_S_mark_29 : decode b_S_mark 29 = .ok (.aload_n 0, 1) := by decide +kernel
theorem d_S_mark_30 : decode b_S_mark 30 = .ok (.getfield 28, 3) := by decide +kernel
theorem d_S_mark_33 : decode b_S_mark 33 = .ok (.getfield 117, 3) := by decide +kernel
theorem d_S_mark_36 : decode b_S_mark 36 = .ok (.iload_n 1, 1) := by decide +kernel
theorem d_S_mark_37 : decode b_S_mark 37 = .ok (.iaload, 1) := by decide +kernel
theorem d_S_mark_38 : decode b_S_mark 38 = .ok (.iload_n 2, 1) := by decide +kernel
theorem d_S_mark_39 : decode b_S_mark 39 = .ok (.if_icmp .ne 6, 3) := by decide +kernel
theorem d_S_mark_42 : decode b_S_mark 42 = .ok (.bipush (-2), 2) := by decide +kernel
theorem d_S_mark_44 : decode b_S_mark 44 = .ok (.ireturn, 1) := by decide +kernel
theorem d_S_mark_45 : decode b_S_mark 45 = .ok (.aload_n 0, 1) := by decide +kernel
theorem d_S_mark_46 : decode b_S_mark 46 = .ok (.getfield 28, 3) := by decide +kernel
theorem d_S_mark_49 : decode b_S_mark 49 = .ok (.getfield 117, 3) := by decide +kernel
theorem d_S_mark_52 : decode b_S_mark 52 = .ok (.iload_n 1, 1) := by decide +kernel
theorem d_S_mark_53 : decode b_S_mark 53 = .ok (.iload_n 2, 1) := by decide +kernel
theorem d_S_mark_54 : decode b_S_mark 54 = .ok (.iastore, 1) := by decide +kernel
theorem d_S_mark_55 : decode b_S_mark 55 = .ok (.aload_n 0, 1) := by decide +kernel
theorem d_S_mark_56 : decode b_S_mark 56 = .ok (.aload_n 0, 1) := by decide +kernel
theorem d_S_mark_57 : decode b_S_mark 57 = .ok (.getfield 36, 3) := by decide +kernel
theorem d_S_mark_60 : decode b_S_mark 60 = .ok (.iconst (-1), 1) := by decide +kernel
theorem d_S_mark_61 : decode b_S_mark 61 = .ok (.invokevirtual 65, 3) := by decide +kernel
theorem d_S_mark_64 : decode b_S_mark 64 = .ok (.ireturn, 1) := by decide +kernel
theorem d_S_undo_0 : decode b_S_undo 0 = .ok (.aload_n 0, 1) := by decide +kernel
theorem d_S_undo_1 : decode b_S_undo 1 = .ok (.getfield 32, 3) := by decide +kernel
theorem d_S_undo_4 : decode b_S_undo 4 = .ok (.aload_n 0, 1) := by decide +kernel
theorem d_S_undo_5 : decode b_S_undo 5 = .ok (.getfield 36, 3) := by decide +kernel
theorem d_S_undo_8 : decode b_S_undo 8 = .ok (.iaload, 1) := by decide +kernel
theorem d_S_undo_9 : decode b_S_undo 9 = .ok (.istore_n 1, 1) := by decide +kernel
theorem d_S_undo_10 : decode b_S_undo 10 = .ok (.aload_n 0, 1) := by decide +kernel
theorem d_S_undo_11 : decode b_S_undo 11 = .ok (.getfield 19, 3) := by decide +kernel
theorem d_S_undo_14 : decode b_S_undo 14 = .ok (.iload_n 1, 1) := by decide +kernel
theorem d_S_undo_15 : decode b_S_undo 15 = .ok (.invokevirtual 120, 3) := by decide +kernel
theorem d_S_undo_18 : decode b_S_undo 18 = .ok (.istore_n 2, 1) := by decide +kernel
theorem d_S_undo_19 : decode b_S_undo 19 = .ok (.aload_n 0, 1) := by decide +kernel
theorem d_S_undo_20 : decode b_S_undo 20 = .ok (.getfield 19, 3) := by decide +kernel
theorem d_S_undo_23 : decode b_S_undo 23 = .ok (.iload_n 1, 1) := by decide +kernel
theorem d_S_undo_24 : decode b_S_undo 24 = .ok (.invokevirtual 123, 3) := by decide +kernel
theorem d_S_undo_27 : decode b_S_undo 27 = .ok (.iconst (-1), 1) := by decide +kernel
theorem d_S_undo_28 : decode b_S_undo 28 = .ok (.if_icmp .eq 7, 3) := by decide +kernel
theorem d_S_undo_31 : decode b_S_undo 31 = .ok (.iconst 1, 1) := by decide +kernel
theorem d_S_undo_32 : decode b_S_undo 32 = .ok (.goto 4, 3) := by decide +kernel
theorem d_S_undo_35 : decode b_S_undo 35 = .ok (.iconst 0, 1) := by decide +kernel
theorem d_S_undo_36 : decode b_S_undo 36 = .ok (.istore_n 3, 1) := by decide +kernel
theorem d_S_undo_37 : decode b_S_undo 37 = .ok (.iload_n 2, 1) := by decide +kernel
theorem d_S_undo_38 : decode b_S_undo 38 = .ok (.iconst (-1), 1) := by decide +kernel
theorem d_S_undo_39 : decode b_S_undo 39 = .ok (.if_icmp .eq 7, 3) := by decide +kernel
theorem d_S_undo_42 : decode b_S_undo 42 = .ok (.iload_n 3, 1) := by decide +kernel
theorem d_S_undo_43 : decode b_S_undo 43 = .ok (.ifCond .eq 5, 3) := by decide +kernel
theorem d_S_undo_46 : decode b_S_undo 46 = .ok (.iconst (-1), 1) := by decide +kernel
theorem d_S_undo_47 : decode b_S_undo 47 = .ok (.ireturn, 1) := by decide +kernel
theorem d_S_undo_48 : decode b_S_undo 48 = .ok (.aload_n 0, 1) := by decide +kernel
theorem d_S_undo_49 : decode b_S_undo 49 = .ok (.getfield 28, 3) := by decide +kernel
theorem d_S_undo_52 : decode b_S_undo 52 = .ok (.aload_n 0, 1) := by decide +kernel
theorem d_S_undo_53 : decode b_S_undo 53 = .ok (.getfield 19, 3) := by decide +kernel
theorem d_S_undo_56 : decode b_S_undo 56 = .ok (.iload_n 2, 1) := by decide +kernel
theorem d_S_undo_57 : decode b_S_undo 57 = .ok (.invokevirtual 126, 3) := by decide +kernel
theorem d_S_undo_60 : decode b_S_undo 60 = .ok (.aload_n 0, 1) := by decide +kernel
theorem d_S_undo_61 : decode b_S_undo 61 = .ok (.aload_n 0, 1) := by decide +kernel
theorem d_S_undo_62 : decode b_S_undo 62 = .ok (.getfield 36, 3) := by decide +kernel
theorem d_S_undo_65 : decode b_S_undo 65 = .ok (.iconst (-1), 1) := by decide +kernel
theorem d_S_undo_66 : decode b_S_undo 66 = .ok (.invokevirtual 65, 3) := by decide +kernel
theorem d_S_undo_69 : decode b_S_undo 69 = .ok (.ireturn, 1) := by decide +kernel
theorem d_O_firstBefore_0 : decode b_O_firstBefore 0 = .ok (.aload_n 0, 1) := by decide +kernel
theorem d_O_firstBefore_1 : decode b_O_firstBefore 1 = .ok (.iload_n 1, 1) := by decide +kernel
theorem d_O_firstBefore_2 : decode b_O_firstBefore 2 = .ok (.invokevirtual 36, 3) := by decide +kernel
theorem d_O_firstBefore_5 : decode b_O_firstBefore 5 = .ok (.ifCond .eq 12, 3) := by decide +kernel
theorem d_O_firstBefore_8 : decode b_O_firstBefore 8 = .ok (.aload_n 0, 1) := by decide +kernel
theorem d_O_firstBefore_9 : decode b_O_firstBefore 9 = .ok (.getfield 9, 3) := by decide +kernel
theorem d_O_firstBefore_12 : decode b_O_firstBefore 12 = .ok (.iload_n 1, 1) := by decide +kernel
theorem d_O_firstBefore_13 : decode b_O_firstBefore 13 = .ok (.iaload, 1) := by decide +kernel
theorem d_O_firstBefore_14 : decode b_O_firstBefore 14 = .ok (.goto 4, 3) := by decide +kernel
theorem d_O_firstBefore_17 : decode b_O_firstBefore 17 = .ok (.iconst (-1), 1) := by decide +kernel
theorem d_O_firstBefore_18 : decode b_O_firstBefore 18 = .ok (.ireturn, 1) := by decide +kernel
theorem d_O_secondBefore_0 : decode b_O_secondBefore 0 = .ok (.aload_n 0, 1) := by decide +kernel
theorem d_O_secondBefore_1 : decode b_O_secondBefore 1 = .ok (.iload_n 1, 1) := by decide +kernel
theorem d_O_secondBefore_2 : decode b_O_secondBefore 2 = .ok (.invokevirtual 36, 3) := by decide +kernel
theorem d_O_secondBefore_5 : decode b_O_secondBefore 5 = .ok (.ifCond .eq 12, 3) := by decide +kernel
theorem d_O_secondBefore_8 : decode b_O_secondBefore 8 = .ok (.aload_n 0, 1) := by decide +kernel
theorem d_O_secondBefore_9 : decode b_O_secondBefore 9 = .ok (.getfield 15, 3) := by decide +kernel
theorem d_O_secondBefore_12 : decode b_O_secondBefore 12 = .ok (.iload_n 1, 1) := by decide +kernel
theorem d_O_secondBefore_13 : decode b_O_secondBefore 13 = .ok (.iaload, 1) := by decide +kernel
theorem d_O_secondBefore_14 : decode b_O_secondBefore 14 = .ok (.goto 4, 3) := by decide +kernel
theorem d_O_secondBefore_17 : decode b_O_secondBefore 17 = .ok (.iconst (-1), 1) := by decide +kernel
theorem d_O_secondBefore_18 : decode b_O_secondBefore 18 = .ok (.ireturn, 1) := by decide +kernel
theorem d_S_restore_0 : decode b_S_restore 0 = .ok (.aload_n 0, 1) := by decide +kernel
theorem d_S_restore_1 : decode b_S_restore 1 = .ok (.getfield 19, 3) := by decide +kernel
theorem d_S_restore_4 : decode b_S_restore 4 = .ok (.iload_n 1, 1) := by decide +kernel
theorem d_S_restore_5 : decode b_S_restore 5 = .ok (.invokevirtual 130, 3) := by decide +kernel
theorem d_S_restore_8 : decode b_S_restore 8 = .ok (.ifCond .ne 5, 3) := by decide +kernel
theorem d_S_restore_11 : decode b_S_restore 11 = .ok (.iconst (-1), 1) := by decide +kernel
theorem d_S_restore_12 : decode b_S_restore 12 = .ok (.ireturn, 1) := by decide +kernel
theorem d_S_restore_13 : decode b_S_restore 13 = .ok (.aload_n 0, 1) := by decide +kernel
theorem d_S_restore_14 : decode b_S_restore 14 = .ok (.getfield 28, 3) := by decide +kernel
theorem d_S_restore_17 : decode b_S_restore 17 = .ok (.aload_n 0, 1) := by decide +kernel
theorem d_S_restore_18 : decode b_S_restore 18 = .ok (.getfield 19, 3) := by decide +kernel
theorem d_S_restore_21 : decode b_S_restore 21 = .ok (.iload_n 1, 1) := by decide +kernel
end
section
theorem d_S_restore_22 : decode b_S_restore 22 = .ok (.invokevirtual 126, 3) := by decide +kernel
theorem d_S_restore_25 : decode b_S_restore 25 = .ok (.aload_n 0, 1) := by decide +kernel
theorem d_S_restore_26 : decode b_S_restore 26 = .ok (.aload_n 0, 1) := by decide +kernel
theorem d_S_restore_27 : decode b_S_restore 27 = .ok (.getfield 36, 3) := by decide +kernel
theorem d_S_restore_30 : decode b_S_restore 30 = .ok (.iconst (-1), 1) := by decide +kernel
theorem d_S_restore_31 : decode b_S_restore 31 = .ok (.invokevirtual 65, 3) := by decide +kernel
theorem d_S_restore_34 : decode b_S_restore 34 = .ok (.ireturn, 1) := by decide +kernel
theorem d_S_fork_0 : decode b_S_fork 0 = .ok (.aload_n 0, 1) := by decide +kernel
theorem d_S_fork_1 : decode b_S_fork 1 = .ok (.invokevirtual 133, 3) := by decide +kernel
theorem d_S_fork_4 : decode b_S_fork 4 = .ok (.ifCond .ne 14, 3) := by decide +kernel
theorem d_S_fork_7 : decode b_S_fork 7 = .ok (.aload_n 0, 1) := by decide +kernel
theorem d_S_fork_8 : decode b_S_fork 8 = .ok (.getfield 19, 3) := by decide +kernel
theorem d_S_fork_11 : decode b_S_fork 11 = .ok (.iload_n 1, 1) := by decide +kernel
theorem d_S_fork_12 : decode b_S_fork 12 = .ok (.invokevirtual 130, 3) := by decide +kernel
theorem d_S_fork_15 : decode b_S_fork 15 = .ok (.ifCond .ne 5, 3) := by decide +kernel
theorem d_S_fork_18 : decode b_S_fork 18 = .ok (.iconst 0, 1) := by decide +kernel
theorem d_S_fork_19 : decode b_S_fork 19 = .ok (.ireturn, 1) := by decide +kernel
theorem d_S_fork_20 : decode b_S_fork 20 = .ok (.aload_n 0, 1) := by decide +kernel
theorem d_S_fork_21 : decode b_S_fork 21 = .ok (.iload_n 1, 1) := by decide +kernel
theorem d_S_fork_22 : decode b_S_fork 22 = .ok (.putfield 40, 3) := by decide +kernel
theorem d_S_fork_25 : decode b_S_fork 25 = .ok (.aload_n 0, 1) := by decide +kernel
theorem d_S_fork_26 : decode b_S_fork 26 = .ok (.getfield 32, 3) := by decide +kernel
theorem d_S_fork_29 : decode b_S_fork 29 = .ok (.iconst 1, 1) := by decide +kernel
theorem d_S_fork_30 : decode b_S_fork 30 = .ok (.iload_n 1, 1) := by decide +kernel
theorem d_S_fork_31 : decode b_S_fork 31 = .ok (.iastore, 1) := by decide +kernel
theorem d_S_fork_32 : decode b_S_fork 32 = .ok (.aload_n 0, 1) := by decide +kernel
theorem d_S_fork_33 : decode b_S_fork 33 = .ok (.iconst 1, 1) := by decide +kernel
theorem d_S_fork_34 : decode b_S_fork 34 = .ok (.putfield 36, 3) := by decide +kernel
theorem d_S_fork_37 : decode b_S_fork 37 = .ok (.iconst 1, 1) := by decide +kernel
theorem d_S_fork_38 : decode b_S_fork 38 = .ok (.ireturn, 1) := by decide +kernel
theorem d_S_hasLineOne_0 : decode b_S_hasLineOne 0 = .ok (.aload_n 0, 1) := by decide +kernel
theorem d_S_hasLineOne_1 : decode b_S_hasLineOne 1 = .ok (.getfield 32, 3) := by decide +kernel
theorem d_S_hasLineOne_4 : decode b_S_hasLineOne 4 = .ok (.iconst 1, 1) := by decide +kernel
theorem d_S_hasLineOne_5 : decode b_S_hasLineOne 5 = .ok (.iaload, 1) := by decide +kernel
theorem d_S_hasLineOne_6 : decode b_S_hasLineOne 6 = .ok (.iconst (-1), 1) := by decide +kernel
theorem d_S_hasLineOne_7 : decode b_S_hasLineOne 7 = .ok (.if_icmp .eq 7, 3) := by decide +kernel
theorem d_S_hasLineOne_10 : decode b_S_hasLineOne 10 = .ok (.iconst 1, 1) := by decide +kernel
theorem d_S_hasLineOne_11 : decode b_S_hasLineOne 11 = .ok (.goto 4, 3) := by decide +kernel
theorem d_S_hasLineOne_14 : decode b_S_hasLineOne 14 = .ok (.iconst 0, 1) := by decide +kernel
theorem d_S_hasLineOne_15 : decode b_S_hasLineOne 15 = .ok (.ireturn, 1) := by decide +kernel
theorem d_S_choose_0 : decode b_S_choose 0 = .ok (.iload_n 1, 1) := by decide +kernel
theorem d_S_choose_1 : decode b_S_choose 1 = .ok (.ifCond .eq 15, 3) := by decide +kernel
theorem d_S_choose_4 : decode b_S_choose 4 = .ok (.iload_n 1, 1) := by decide +kernel
theorem d_S_choose_5 : decode b_S_choose 5 = .ok (.iconst 1, 1) := by decide +kernel
theorem d_S_choose_6 : decode b_S_choose 6 = .ok (.if_icmp .ne 14, 3) := by decide +kernel
theorem d_S_choose_9 : decode b_S_choose 9 = .ok (.aload_n 0, 1) := by decide +kernel
theorem d_S_choose_10 : decode b_S_choose 10 = .ok (.invokevirtual 133, 3) := by decide +kernel
theorem d_S_choose_13 : decode b_S_choose 13 = .ok (.ifCond .eq 7, 3) := by decide +kernel
theorem d_S_choose_16 : decode b_S_choose 16 = .ok (.iconst 1, 1) := by decide +kernel
theorem d_S_choose_17 : decode b_S_choose 17 = .ok (.goto 4, 3) := by decide +kernel
theorem d_S_choose_20 : decode b_S_choose 20 = .ok (.iconst 0, 1) := by decide +kernel
theorem d_S_choose_21 : decode b_S_choose 21 = .ok (.istore_n 2, 1) := by decide +kernel
theorem d_S_choose_22 : decode b_S_choose 22 = .ok (.iload_n 2, 1) := by decide +kernel
theorem d_S_choose_23 : decode b_S_choose 23 = .ok (.ifCond .eq 8, 3) := by decide +kernel
theorem d_S_choose_26 : decode b_S_choose 26 = .ok (.aload_n 0, 1) := by decide +kernel
theorem d_S_choose_27 : decode b_S_choose 27 = .ok (.iload_n 1, 1) := by decide +kernel
theorem d_S_choose_28 : decode b_S_choose 28 = .ok (.putfield 36, 3) := by decide +kernel
theorem d_S_choose_31 : decode b_S_choose 31 = .ok (.iload_n 2, 1) := by decide +kernel
theorem d_S_choose_32 : decode b_S_choose 32 = .ok (.ireturn, 1) := by decide +kernel
theorem d_S_join_0 : decode b_S_join 0 = .ok (.aload_n 0, 1) := by decide +kernel
theorem d_S_join_1 : decode b_S_join 1 = .ok (.invokevirtual 133, 3) := by decide +kernel
theorem d_S_join_4 : decode b_S_join 4 = .ok (.ifCond .ne 5, 3) := by decide +kernel
theorem d_S_join_7 : decode b_S_join 7 = .ok (.iconst (-1), 1) := by decide +kernel
theorem d_S_join_8 : decode b_S_join 8 = .ok (.ireturn, 1) := by decide +kernel
theorem d_S_join_9 : decode b_S_join 9 = .ok (.aload_n 0, 1) := by decide +kernel
theorem d_S_join_10 : decode b_S_join 10 = .ok (.getfield 28, 3) := by decide +kernel
theorem d_S_join_13 : decode b_S_join 13 = .ok (.aload_n 0, 1) := by decide +kernel
theorem d_S_join_14 : decode b_S_join 14 = .ok (.getfield 19, 3) := by decide +kernel
theorem d_S_join_17 : decode b_S_join 17 = .ok (.aload_n 0, 1) := by decide +kernel
theorem d_S_join_18 : decode b_S_join 18 = .ok (.getfield 40, 3) := by decide +kernel
theorem d_S_join_21 : decode b_S_join 21 = .ok (.aload_n 0, 1) := by decide +kernel
theorem d_S_join_22 : decode b_S_join 22 = .ok (.getfield 32, 3) := by decide +kernel
theorem d_S_join_25 : decode b_S_join 25 = .ok (.iconst 0, 1) := by decide +kernel
theorem d_S_join_26 : decode b_S_join 26 = .ok (.iaload, 1) := by decide +kernel
theorem d_S_join_27 : decode b_S_join 27 = .ok (.aload_n 0, 1) := by decide +kernel
theorem d_S_join_28 : decode b_S_join 28 = .ok (.getfield 32, 3) := by decide +kernel
theorem d_S_join_31 : decode b_S_join 31 = .ok (.iconst 1, 1) := by decide +kernel
theorem d_S_join_32 : decode b_S_join 32 = .ok (.iaload, 1) := by decide +kernel
theorem d_S_join_33 : decode b_S_join 33 = .ok (.invokevirtual 136, 3) := by decide +kernel
theorem d_S_join_36 : decode b_S_join 36 = .ok (.aload_n 0, 1) := by decide +kernel
theorem d_S_join_37 : decode b_S_join 37 = .ok (.iconst 0, 1) := by decide +kernel
theorem d_S_join_38 : decode b_S_join 38 = .ok (.aload_n 0, 1) := by decide +kernel
theorem d_S_join_39 : decode b_S_join 39 = .ok (.getfield 32, 3) := by decide +kernel
theorem d_S_join_42 : decode b_S_join 42 = .ok (.iconst 1, 1) := by decide +kernel
theorem d_S_join_43 : decode b_S_join 43 = .ok (.iaload, 1) := by decide +kernel
theorem d_S_join_44 : decode b_S_join 44 = .ok (.invokevirtual 65, 3) := by decide +kernel
theorem d_S_join_47 : decode b_S_join 47 = .ok (.istore_n 1, 1) := by decide +kernel
theorem d_S_join_48 : decode b_S_join 48 = .ok (.iload_n 1, 1) := by decide +kernel
theorem d_S_join_49 : decode b_S_join 49 = .ok (.bipush (-3), 2) := by decide +kernel
theorem d_S_join_51 : decode b_S_join 51 = .ok (.if_icmp .eq 20, 3) := by decide +kernel
theorem d_S_join_54 : decode b_S_join 54 = .ok (.aload_n 0, 1) := by decide +kernel
theorem d_S_join_55 : decode b_S_join 55 = .ok (.getfield 32, 3) := by decide +kernel
theorem d_S_join_58 : decode b_S_join 58 = .ok (.iconst 1, 1) := by decide +kernel
theorem d_S_join_59 : decode b_S_join 59 = .ok (.iconst (-1), 1) := by decide +kernel
theorem d_S_join_60 : decode b_S_join 60 = .ok (.iastore, 1) := by decide +kernel
theorem d_S_join_61 : decode b_S_join 61 = .ok (.aload_n 0, 1) := by decide +kernel
theorem d_S_join_62 : decode b_S_join 62 = .ok (.iconst (-1), 1) := by decide +kernel
theorem d_S_join_63 : decode b_S_join 63 = .ok (.putfield 40, 3) := by decide +kernel
theorem d_S_join_66 : decode b_S_join 66 = .ok (.aload_n 0, 1) := by decide +kernel
theorem d_S_join_67 : decode b_S_join 67 = .ok (.iconst 0, 1) := by decide +kernel
theorem d_S_join_68 : decode b_S_join 68 = .ok (.putfield 36, 3) := by decide +kernel
theorem d_S_join_71 : decode b_S_join 71 = .ok (.iload_n 1, 1) := by decide +kernel
theorem d_S_join_72 : decode b_S_join 72 = .ok (.ireturn, 1) := by decide +kernel
theorem d_D_openJoined_0 : decode b_D_openJoined 0 = .ok (.aload_n 0, 1) := by decide +kernel
theorem d_D_openJoined_1 : decode b_D_openJoined 1 = .ok (.invokevirtual 22, 3) := by decide +kernel
theorem d_D_openJoined_4 : decode b_D_openJoined 4 = .ok (.aload_n 1, 1) := by decide +kernel
theorem d_D_openJoined_5 : decode b_D_openJoined 5 = .ok (.iload_n 3, 1) := by decide +kernel
theorem d_D_openJoined_6 : decode b_D_openJoined 6 = .ok (.invokevirtual 25, 3) := by decide +kernel
theorem d_D_openJoined_9 : decode b_D_openJoined 9 = .ok (.lstore 5, 2) := by decide +kernel
theorem d_D_openJoined_11 : decode b_D_openJoined 11 = .ok (.aload_n 1, 1) := by decide +kernel
theorem d_D_openJoined_12 : decode b_D_openJoined 12 = .ok (.iload 4, 2) := by decide +kernel
theorem d_D_openJoined_14 : decode b_D_openJoined 14 = .ok (.invokevirtual 25, 3) := by decide +kernel
theorem d_D_openJoined_17 : decode b_D_openJoined 17 = .ok (.lstore 7, 2) := by decide +kernel
theorem d_D_openJoined_19 : decode b_D_openJoined 19 = .ok (.aload_n 0, 1) := by decide +kernel
theorem d_D_openJoined_20 : decode b_D_openJoined 20 = .ok (.lload 5, 2) := by decide +kernel
theorem d_D_openJoined_22 : decode b_D_openJoined 22 = .ok (.lload 7, 2) := by decide +kernel
theorem d_D_openJoined_24 : decode b_D_openJoined 24 = .ok (.land, 1) := by decide +kernel
theorem d_D_openJoined_25 : decode b_D_openJoined 25 = .ok (.lload 5, 2) := by decide +kernel
theorem d_D_openJoined_27 : decode b_D_openJoined 27 = .ok (.lload 7, 2) := by decide +kernel
theorem d_D_openJoined_29 : decode b_D_openJoined 29 = .ok (.lor, 1) := by decide +kernel
theorem d_D_openJoined_30 : decode b_D_openJoined 30 = .ok (.aload_n 1, 1) := by decide +kernel
theorem d_D_openJoined_31 : decode b_D_openJoined 31 = .ok (.iload_n 2, 1) := by decide +kernel
theorem d_D_openJoined_32 : decode b_D_openJoined 32 = .ok (.invokevirtual 25, 3) := by decide +kernel
theorem d_D_openJoined_35 : decode b_D_openJoined 35 = .ok (.ldc2_w 47, 3) := by decide +kernel
theorem d_D_openJoined_38 : decode b_D_openJoined 38 = .ok (.lxor, 1) := by decide +kernel
theorem d_D_openJoined_39 : decode b_D_openJoined 39 = .ok (.land, 1) := by decide +kernel
theorem d_D_openJoined_40 : decode b_D_openJoined 40 = .ok (.lor, 1) := by decide +kernel
theorem d_D_openJoined_41 : decode b_D_openJoined 41 = .ok (.putfield 31, 3) := by decide +kernel
theorem d_D_openJoined_44 : decode b_D_openJoined 44 = .ok (.aload_n 1, 1) := by decide +kernel
theorem d_D_openJoined_45 : decode b_D_openJoined 45 = .ok (.iload_n 3, 1) := by decide +kernel
theorem d_D_openJoined_46 : decode b_D_openJoined 46 = .ok (.invokevirtual 35, 3) := by decide +kernel
theorem d_D_openJoined_49 : decode b_D_openJoined 49 = .ok (.istore 9, 2) := by decide +kernel
theorem d_D_openJoined_51 : decode b_D_openJoined 51 = .ok (.aload_n 0, 1) := by decide +kernel
theorem d_D_openJoined_52 : decode b_D_openJoined 52 = .ok (.iload 9, 2) := by decide +kernel
theorem d_D_openJoined_54 : decode b_D_openJoined 54 = .ok (.aload_n 1, 1) := by decide +kernel
theorem d_D_openJoined_55 : decode b_D_openJoined 55 = .ok (.iload_n 2, 1) := by decide +kernel
theorem d_D_openJoined_56 : decode b_D_openJoined 56 = .ok (.invokevirtual 35, 3) := by decide +kernel
theorem d_D_openJoined_59 : decode b_D_openJoined 59 = .ok (.if_icmp .ne 12, 3) := by decide +kernel
theorem d_D_openJoined_62 : decode b_D_openJoined 62 = .ok (.aload_n 1, 1) := by decide +kernel
theorem d_D_openJoined_63 : decode b_D_openJoined 63 = .ok (.iload 4, 2) := by decide +kernel
theorem d_D_openJoined_65 : decode b_D_openJoined 65 = .ok (.invokevirtual 35, 3) := by decide +kernel
theorem d_D_openJoined_68 : decode b_D_openJoined 68 = .ok (.goto 5, 3) := by decide +kernel
theorem d_D_openJoined_71 : decode b_D_openJoined 71 = .ok (.iload 9, 2) := by decide +kernel
theorem d_D_openJoined_73 : decode b_D_openJoined 73 = .ok (.putfield 39, 3) := by decide +kernel
theorem d_D_openJoined_76 : decode b_D_openJoined 76 = .ok (.iconst 0, 1) := by decide +kernel
theorem d_D_openJoined_77 : decode b_D_openJoined 77 = .ok (.istore 10, 2) := by decide +kernel
theorem d_D_openJoined_79 : decode b_D_openJoined 79 = .ok (.iload 10, 2) := by decide +kernel
theorem d_D_openJoined_81 : decode b_D_openJoined 81 = .ok (.iconst 3, 1) := by decide +kernel
theorem d_D_openJoined_82 : decode b_D_openJoined 82 = .ok (.if_icmp .ge 41, 3) := by decide +kernel
theorem d_D_openJoined_85 : decode b_D_openJoined 85 = .ok (.aload_n 0, 1) := by decide +kernel
theorem d_D_openJoined_86 : decode b_D_openJoined 86 = .ok (.getfield 15, 3) := by decide +kernel
theorem d_D_openJoined_89 : decode b_D_openJoined 89 = .ok (.iload 10, 2) := by decide +kernel
theorem d_D_openJoined_91 : decode b_D_openJoined 91 = .ok (.aload_n 1, 1) := by decide +kernel
theorem d_D_openJoined_92 : decode b_D_openJoined 92 = .ok (.iload_n 2, 1) := by decide +kernel
theorem d_D_openJoined_93 : decode b_D_openJoined 93 = .ok (.iload 10, 2) := by decide +kernel
theorem d_D_openJoined_95 : decode b_D_openJoined 95 = .ok (.invokevirtual 43, 3) := by decide +kernel
theorem d_D_openJoined_98 : decode b_D_openJoined 98 = .ok (.aload_n 1, 1) := by decide +kernel
theorem d_D_openJoined_99 : decode b_D_openJoined 99 = .ok (.iload_n 3, 1) := by decide +kernel
theorem d_D_openJoined_100 : decode b_D_openJoined 100 = .ok (.iload 10, 2) := by decide +kernel
theorem d_D_openJoined_102 : decode b_D_openJoined 102 = .ok (.invokevirtual 43, 3) := by decide +kernel
theorem d_D_openJoined_105 : decode b_D_openJoined 105 = .ok (.aload_n 1, 1) := by decide +kernel
theorem d_D_openJoined_106 : decode b_D_openJoined 106 = .ok (.iload 4, 2) := by decide +kernel
theorem d_D_openJoined_108 : decode b_D_openJoined 108 = .ok (.iload 10, 2) := by decide +kernel
theorem d_D_openJoined_110 : decode b_D_openJoined 110 = .ok (.invokevirtual 43, 3) := by decide +kernel
theorem d_D_openJoined_113 : decode b_D_openJoined 113 = .ok (.invokestatic 49, 3) := by decide +kernel
theorem d_D_openJoined_116 : decode b_D_openJoined 116 = .ok (.iastore, 1) := by decide +kernel
theorem d_D_openJoined_117 : decode b_D_openJoined 117 = .ok (.iinc 10 1, 3) := by decide +kernel
theorem d_D_openJoined_120 : decode b_D_openJoined 120 = .ok (.goto (-41), 3) := by decide +kernel
theorem d_D_openJoined_123 : decode b_D_openJoined 123 = .ok (.return_, 1) := by decide +kernel
theorem d_D_joinedMark_0 : decode b_D_joinedMark 0 = .ok (.iload_n 1, 1) := by decide +kernel
theorem d_D_joinedMark_1 : decode b_D_joinedMark 1 = .ok (.iload_n 0, 1) := by decide +kernel
theorem d_D_joinedMark_2 : decode b_D_joinedMark 2 = .ok (.if_icmp .ne 5, 3) := by decide +kernel
theorem d_D_joinedMark_5 : decode b_D_joinedMark 5 = .ok (.iload_n 2, 1) := by decide +kernel
theorem d_D_joinedMark_6 : decode b_D_joinedMark 6 = .ok (.ireturn, 1) := by decide +kernel
theorem d_D_joinedMark_7 : decode b_D_joinedMark 7 = .ok (.iload_n 2, 1) := by decide +kernel
theorem d_D_joinedMark_8 : decode b_D_joinedMark 8 = .ok (.iload_n 0, 1) := by decide +kernel
theorem d_D_joinedMark_9 : decode b_D_joinedMark 9 = .ok (.if_icmp .eq 8, 3) := by decide +kernel
theorem d_D_joinedMark_12 : decode b_D_joinedMark 12 = .ok (.iload_n 2, 1) := by decide +kernel
theorem d_D_joinedMark_13 : decode b_D_joinedMark 13 = .ok (.iload_n 1, 1) := by decide +kernel
theorem d_D_joinedMark_14 : decode b_D_joinedMark 14 = .ok (.if_icmp .ne 7, 3) := by decide +kernel
theorem d_D_joinedMark_17 : decode b_D_joinedMark 17 = .ok (.iload_n 1, 1) := by decide +kernel
theorem d_D_joinedMark_18 : decode b_D_joinedMark 18 = .ok (.goto 5, 3) := by decide +kernel
theorem d_D_joinedMark_21 : decode b_D_joinedMark 21 = .ok (.bipush (-2), 2) := by decide +kernel
theorem d_D_joinedMark_23 : decode b_D_joinedMark 23 = .ok (.ireturn, 1) := by decide +kernel
theorem d_S_operation_0 : decode b_S_operation 0 = .ok (.aload_n 0, 1) := by decide +kernel
theorem d_S_operation_1 : decode b_S_operation 1 = .ok (.getfield 32, 3) := by decide +kernel
theorem d_S_operation_4 : decode b_S_operation 4 = .ok (.aload_n 0, 1) := by decide +kernel
theorem d_S_operation_5 : decode b_S_operation 5 = .ok (.getfield 36, 3) := by decide +kernel
theorem d_S_operation_8 : decode b_S_operation 8 = .ok (.iaload, 1) := by decide +kernel
theorem d_S_operation_9 : decode b_S_operation 9 = .ok (.ireturn, 1) := by decide +kernel
theorem d_S_before_0 : decode b_S_before 0 = .ok (.iload_n 2, 1) := by decide +kernel
theorem d_S_before_1 : decode b_S_before 1 = .ok (.ifCond .ne 12, 3) := by decide +kernel
theorem d_S_before_4 : decode b_S_before 4 = .ok (.aload_n 0, 1) := by decide +kernel
theorem d_S_before_5 : decode b_S_before 5 = .ok (.getfield 19, 3) := by decide +kernel
theorem d_S_before_8 : decode b_S_before 8 = .ok (.iload_n 1, 1) := by decide +kernel
theorem d_S_before_9 : decode b_S_before 9 = .ok (.invokevirtual 120, 3) := by decide +kernel
theorem d_S_before_12 : decode b_S_before 12 = .ok (.ireturn, 1) := by decide +kernel
theorem d_S_before_13 : decode b_S_before 13 = .ok (.iload_n 2, 1) := by decide +kernel
theorem d_S_before_14 : decode b_S_before 14 = .ok (.iconst 1, 1) := by decide +kernel
theorem d_S_before_15 : decode b_S_before 15 = .ok (.if_icmp .ne 14, 3) := by decide +kernel
theorem d_S_before_18 : decode b_S_before 18 = .ok (.aload_n 0, 1) := by decide +kernel
theorem d_S_before_19 : decode b_S_before 19 = .ok (.getfield 19, 3) := by decide +kernel
theorem d_S_before_22 : decode b_S_before 22 = .ok (.iload_n 1, 1) := by decide +kernel
theorem d_S_before_23 : decode b_S_before 23 = .ok (.invokevirtual 123, 3) := by decide +kernel
theorem d_S_before_26 : decode b_S_before 26 = .ok (.goto 4, 3) := by decide +kernel
theorem d_S_before_29 : decode b_S_before 29 = .ok (.iconst (-1), 1) := by decide +kernel
theorem d_S_before_30 : decode b_S_before 30 = .ok (.ireturn, 1) := by decide +kernel
theorem d_S_visible_0 : decode b_S_visible 0 = .ok (.iload_n 2, 1) := by decide +kernel
theorem d_S_visible_1 : decode b_S_visible 1 = .ok (.aload_n 0, 1) := by decide +kernel
theorem d_S_visible_2 : decode b_S_visible 2 = .ok (.getfield 19, 3) := by decide +kernel
theorem d_S_visible_5 : decode b_S_visible 5 = .ok (.iload_n 1, 1) := by decide +kernel
theorem d_S_visible_6 : decode b_S_visible 6 = .ok (.invokevirtual 140, 3) := by decide +kernel
theorem d_S_visible_9 : decode b_S_visible 9 = .ok (.invokestatic 107, 3) := by decide +kernel
theorem d_S_visible_12 : decode b_S_visible 12 = .ok (.ireturn, 1) := by decide +kernel
theorem d_S_working_0 : decode b_S_working 0 = .ok (.aload_n 0, 1) := by decide +kernel
theorem d_S_working_1 : decode b_S_working 1 = .ok (.getfield 19, 3) := by decide +kernel
theorem d_S_working_4 : decode b_S_working 4 = .ok (.iload_n 1, 1) := by decide +kernel
theorem d_S_working_5 : decode b_S_working 5 = .ok (.invokevirtual 143, 3) := by decide +kernel
theorem d_S_working_8 : decode b_S_working 8 = .ok (.ireturn, 1) := by decide +kernel
theorem d_S_marked_0 : decode b_S_marked 0 = .ok (.aload_n 0, 1) := by decide +kernel
theorem d_S_marked_1 : decode b_S_marked 1 = .ok (.getfield 19, 3) := by decide +kernel
theorem d_S_marked_4 : decode b_S_marked 4 = .ok (.iload_n 1, 1) := by decide +kernel
theorem d_S_marked_5 : decode b_S_marked 5 = .ok (.iload_n 2, 1) := by decide +kernel
theorem d_S_marked_6 : decode b_S_marked 6 = .ok (.invokevirtual 146, 3) := by decide +kernel
theorem d_S_marked_9 : decode b_S_marked 9 = .ok (.ireturn, 1) := by decide +kernel
theorem d_S_head_0 : decode b_S_head 0 = .ok (.aload_n 0, 1) := by decide +kernel
theorem d_S_head_1 : decode b_S_head 1 = .ok (.getfield 19, 3) := by decide +kernel
theorem d_S_head_4 : decode b_S_head 4 = .ok (.iload_n 1, 1) := by decide +kernel
theorem d_S_head_5 : decode b_S_head 5 = .ok (.invokevirtual 140, 3) := by decide +kernel
theorem d_S_head_8 : decode b_S_head 8 = .ok (.lstore_n 3, 1) := by decide +kernel
theorem d_S_head_9 : decode b_S_head 9 = .ok (.lload_n 3, 1) := by decide +kernel
theorem d_S_head_10 : decode b_S_head 10 = .ok (.aload_n 0, 1) := by decide +kernel
theorem d_S_head_11 : decode b_S_head 11 = .ok (.getfield 10, 3) := by decide +kernel
theorem d_S_head_14 : decode b_S_head 14 = .ok (.lload_n 3, 1) := by decide +kernel
theorem d_S_head_15 : decode b_S_head 15 = .ok (.invokevirtual 149, 3) := by decide +kernel
theorem d_S_head_18 : decode b_S_head 18 = .ok (.ldc2_w 153, 3) := by decide +kernel
theorem d_S_head_21 : decode b_S_head 21 = .ok (.lxor, 1) := by decide +kernel
theorem d_S_head_22 : decode b_S_head 22 = .ok (.land, 1) := by decide +kernel
theorem d_S_head_23 : decode b_S_head 23 = .ok (.lstore 5, 2) := by decide +kernel
theorem d_S_head_25 : decode b_S_head 25 = .ok (.iconst 0, 1) := by decide +kernel
theorem d_S_head_26 : decode b_S_head 26 = .ok (.istore 7, 2) := by decide +kernel
theorem d_S_head_28 : decode b_S_head 28 = .ok (.iconst 0, 1) := by decide +kernel
theorem d_S_head_29 : decode b_S_head 29 = .ok (.istore 8, 2) := by decide +kernel
theorem d_S_head_31 : decode b_S_head 31 = .ok (.iload 8, 2) := by decide +kernel
theorem d_S_head_33 : decode b_S_head 33 = .ok (.bipush 60, 2) := by decide +kernel
theorem d_S_head_35 : decode b_S_head 35 = .ok (.if_icmp .ge 31, 3) := by decide +kernel
theorem d_S_head_38 : decode b_S_head 38 = .ok (.iload 8, 2) := by decide +kernel
theorem d_S_head_40 : decode b_S_head 40 = .ok (.lload 5, 2) := by decide +kernel
theorem d_S_head_42 : decode b_S_head 42 = .ok (.invokestatic 107, 3) := by decide +kernel
theorem d_S_head_45 : decode b_S_head 45 = .ok (.ifCond .eq 15, 3) := by decide +kernel
theorem d_S_head_48 : decode b_S_head 48 = .ok (.iload 7, 2) := by decide +kernel
theorem d_S_head_50 : decode b_S_head 50 = .ok (.iload_n 2, 1) := by decide +kernel
theorem d_S_head_51 : decode b_S_head 51 = .ok (.if_icmp .ne 6, 3) := by decide +kernel
theorem d_S_head_54 : decode b_S_head 54 = .ok (.iload 8, 2) := by decide +kernel
theorem d_S_head_56 : decode b_S_head 56 = .ok (.ireturn, 1) := by decide +kernel
theorem d_S_head_57 : decode b_S_head 57 = .ok (.iinc 7 1, 3) := by decide +kernel
theorem d_S_head_60 : decode b_S_head 60 = .ok (.iinc 8 1, 3) := by decide +kernel
theorem d_S_head_63 : decode b_S_head 63 = .ok (.goto (-32), 3) := by decide +kernel
theorem d_S_head_66 : decode b_S_head 66 = .ok (.iconst (-1), 1) := by decide +kernel
theorem d_S_head_67 : decode b_S_head 67 = .ok (.ireturn, 1) := by decide +kernel
theorem d_C_parentsOf_0 : decode b_C_parentsOf 0 = .ok (.lconst 0, 1) := by decide +kernel
theorem d_C_parentsOf_1 : decode b_C_parentsOf 1 = .ok (.lstore_n 3, 1) := by decide +kernel
theorem d_C_parentsOf_2 : decode b_C_parentsOf 2 = .ok (.iconst 1, 1) := by decide +kernel
theorem d_C_parentsOf_3 : decode b_C_parentsOf 3 = .ok (.istore 5, 2) := by decide +kernel
theorem d_C_parentsOf_5 : decode b_C_parentsOf 5 = .ok (.iload 5, 2) := by decide +kernel
theorem d_C_parentsOf_7 : decode b_C_parentsOf 7 = .ok (.aload_n 0, 1) := by decide +kernel
theorem d_C_parentsOf_8 : decode b_C_parentsOf 8 = .ok (.getfield 22, 3) := by decide +kernel
theorem d_C_parentsOf_11 : decode b_C_parentsOf 11 = .ok (.if_icmp .ge 31, 3) := by decide +kernel
theorem d_C_parentsOf_14 : decode b_C_parentsOf 14 = .ok (.iload 5, 2) := by decide +kernel
theorem d_C_parentsOf_16 : decode b_C_parentsOf 16 = .ok (.lload_n 1, 1) := by decide +kernel
theorem d_C_parentsOf_17 : decode b_C_parentsOf 17 = .ok (.invokestatic 55, 3) := by decide +kernel
theorem d_C_parentsOf_20 : decode b_C_parentsOf 20 = .ok (.ifCond .eq 16, 3) := by decide +kernel
theorem d_C_parentsOf_23 : decode b_C_parentsOf 23 = .ok (.lload_n 3, 1) := by decide +kernel
theorem d_C_parentsOf_24 : decode b_C_parentsOf 24 = .ok (.aload_n 0, 1) := by decide +kernel
theorem d_C_parentsOf_25 : decode b_C_parentsOf 25 = .ok (.getfield 9, 3) := by decide +kernel
theorem d_C_parentsOf_28 : decode b_C_parentsOf 28 = .ok (.iload 5, 2) := by decide +kernel
theorem d_C_parentsOf_30 : decode b_C_parentsOf 30 = .ok (.iaload, 1) := by decide +kernel
theorem d_C_parentsOf_31 : decode b_C_parentsOf 31 = .ok (.invokestatic 47, 3) := by decide +kernel
theorem d_C_parentsOf_34 : decode b_C_parentsOf 34 = .ok (.lor, 1) := by decide +kernel
theorem d_C_parentsOf_35 : decode b_C_parentsOf 35 = .ok (.lstore_n 3, 1) := by decide +kernel
theorem d_C_parentsOf_36 : decode b_C_parentsOf 36 = .ok (.iinc 5 1, 3) := by decide +kernel
theorem d_C_parentsOf_39 : decode b_C_parentsOf 39 = .ok (.goto (-34), 3) := by decide +kernel
theorem d_C_parentsOf_42 : decode b_C_parentsOf 42 = .ok (.lload_n 3, 1) := by decide +kernel
theorem d_C_parentsOf_43 : decode b_C_parentsOf 43 = .ok (.lreturn, 1) := by decide +kernel
theorem d_S_commit_0 : decode b_S_commit 0 = .ok (.iload_n 2, 1) := by decide +kernel
theorem d_S_commit_1 : decode b_S_commit 1 = .ok (.ifCond .ne 12, 3) := by decide +kernel
theorem d_S_commit_4 : decode b_S_commit 4 = .ok (.aload_n 0, 1) := by decide +kernel
theorem d_S_commit_5 : decode b_S_commit 5 = .ok (.getfield 10, 3) := by decide +kernel
theorem d_S_commit_8 : decode b_S_commit 8 = .ok (.iload_n 1, 1) := by decide +kernel
theorem d_S_commit_9 : decode b_S_commit 9 = .ok (.invokevirtual 85, 3) := by decide +kernel
theorem d_S_commit_12 : decode b_S_commit 12 = .ok (.ireturn, 1) := by decide +kernel
theorem d_S_commit_13 : decode b_S_commit 13 = .ok (.iload_n 2, 1) := by decide +kernel
theorem d_S_commit_14 : decode b_S_commit 14 = .ok (.iconst 1, 1) := by decide +kernel
theorem d_S_commit_15 : decode b_S_commit 15 = .ok (.if_icmp .ne 14, 3) := by decide +kernel
theorem d_S_commit_18 : decode b_S_commit 18 = .ok (.aload_n 0, 1) := by decide +kernel
theorem d_S_commit_19 : decode b_S_commit 19 = .ok (.getfield 10, 3) := by decide +kernel
theorem d_S_commit_22 : decode b_S_commit 22 = .ok (.iload_n 1, 1) := by decide +kernel
theorem d_S_commit_23 : decode b_S_commit 23 = .ok (.invokevirtual 82, 3) := by decide +kernel
theorem d_S_commit_26 : decode b_S_commit 26 = .ok (.goto 4, 3) := by decide +kernel
theorem d_S_commit_29 : decode b_S_commit 29 = .ok (.iconst (-1), 1) := by decide +kernel
theorem d_S_commit_30 : decode b_S_commit 30 = .ok (.ireturn, 1) := by decide +kernel
theorem d_S_count_0 : decode b_S_count 0 = .ok (.aload_n 0, 1) := by decide +kernel
theorem d_S_count_1 : decode b_S_count 1 = .ok (.getfield 10, 3) := by decide +kernel
theorem d_S_count_4 : decode b_S_count 4 = .ok (.iload_n 1, 1) := by decide +kernel
theorem d_S_count_5 : decode b_S_count 5 = .ok (.iload_n 2, 1) := by decide +kernel
theorem d_S_count_6 : decode b_S_count 6 = .ok (.iload_n 3, 1) := by decide +kernel
theorem d_S_count_7 : decode b_S_count 7 = .ok (.invokevirtual 155, 3) := by decide +kernel
theorem d_S_count_10 : decode b_S_count 10 = .ok (.lreturn, 1) := by decide +kernel
theorem d_M_init_0 : decode b_M_init 0 = .ok (.aload_n 0, 1) := by decide +kernel
theorem d_M_init_1 : decode b_M_init 1 = .ok (.invokespecial 1, 3) := by decide +kernel
theorem d_M_init_4 : decode b_M_init 4 = .ok (.aload_n 0, 1) := by decide +kernel
theorem d_M_init_5 : decode b_M_init 5 = .ok (.bipush 60, 2) := by decide +kernel
theorem d_M_init_7 : decode b_M_init 7 = .ok (.newarray .int, 2) := by decide +kernel
theorem d_M_init_9 : decode b_M_init 9 = .ok (.putfield 7, 3) := by decide +kernel
theorem d_M_init_12 : decode b_M_init 12 = .ok (.aload_n 0, 1) := by decide +kernel
theorem d_M_init_13 : decode b_M_init 13 = .ok (.bipush 60, 2) := by decide +kernel
theorem d_M_init_15 : decode b_M_init 15 = .ok (.newarray .int, 2) := by decide +kernel
theorem d_M_init_17 : decode b_M_init 17 = .ok (.putfield 13, 3) := by decide +kernel
theorem d_M_init_20 : decode b_M_init 20 = .ok (.aload_n 0, 1) := by decide +kernel
theorem d_M_init_21 : decode b_M_init 21 = .ok (.sipush 1920, 3) := by decide +kernel
theorem d_M_init_24 : decode b_M_init 24 = .ok (.newarray .long, 2) := by decide +kernel
theorem d_M_init_26 : decode b_M_init 26 = .ok (.putfield 16, 3) := by decide +kernel
theorem d_M_init_29 : decode b_M_init 29 = .ok (.aload_n 0, 1) := by decide +kernel
theorem d_M_init_30 : decode b_M_init 30 = .ok (.bipush 100, 2) := by decide +kernel
theorem d_M_init_32 : decode b_M_init 32 = .ok (.newarray .int, 2) := by decide +kernel
theorem d_M_init_34 : decode b_M_init 34 = .ok (.putfield 20, 3) := by decide +kernel
theorem d_M_init_37 : decode b_M_init 37 = .ok (.aload_n 0, 1) := by decide +kernel
theorem d_M_init_38 : decode b_M_init 38 = .ok (.bipush 100, 2) := by decide +kernel
theorem d_M_init_40 : decode b_M_init 40 = .ok (.newarray .int, 2) := by decide +kernel
theorem d_M_init_42 : decode b_M_init 42 = .ok (.putfield 23, 3) := by decide +kernel
theorem d_M_init_45 : decode b_M_init 45 = .ok (.aload_n 0, 1) := by decide +kernel
theorem d_M_init_46 : decode b_M_init 46 = .ok (.bipush 100, 2) := by decide +kernel
theorem d_M_init_48 : decode b_M_init 48 = .ok (.newarray .boolean, 2) := by decide +kernel
theorem d_M_init_50 : decode b_M_init 50 = .ok (.putfield 26, 3) := by decide +kernel
theorem d_M_init_53 : decode b_M_init 53 = .ok (.aload_n 0, 1) := by decide +kernel
theorem d_M_init_54 : decode b_M_init 54 = .ok (.sipush 6000, 3) := by decide +kernel
theorem d_M_init_57 : decode b_M_init 57 = .ok (.newarray .boolean, 2) := by decide +kernel
theorem d_M_init_59 : decode b_M_init 59 = .ok (.putfield 30, 3) := by decide +kernel
theorem d_M_init_62 : decode b_M_init 62 = .ok (.aload_n 0, 1) := by decide +kernel
theorem d_M_init_63 : decode b_M_init 63 = .ok (.sipush 300, 3) := by decide +kernel
theorem d_M_init_66 : decode b_M_init 66 = .ok (.newarray .int, 2) := by decide +kernel
theorem d_M_init_68 : decode b_M_init 68 = .ok (.putfield 33, 3) := by decide +kernel
theorem d_M_init_71 : decode b_M_init 71 = .ok (.aload_n 0, 1) := by decide +kernel
theorem d_M_init_72 : decode b_M_init 72 = .ok (.bipush 100, 2) := by decide +kernel
theorem d_M_init_74 : decode b_M_init 74 = .ok (.newarray .int, 2) := by decide +kernel
theorem d_M_init_76 : decode b_M_init 76 = .ok (.putfield 36, 3) := by decide +kernel
theorem d_M_init_79 : decode b_M_init 79 = .ok (.aload_n 0, 1) := by decide +kernel
theorem d_M_init_80 : decode b_M_init 80 = .ok (.iconst 2, 1) := by decide +kernel
theorem d_M_init_81 : decode b_M_init 81 = .ok (.newarray .int, 2) := by decide +kernel
theorem d_M_init_83 : decode b_M_init 83 = .ok (.putfield 39, 3) := by decide +kernel
theorem d_M_init_86 : decode b_M_init 86 = .ok (.aload_n 0, 1) := by decide +kernel
theorem d_M_init_87 : decode b_M_init 87 = .ok (.bipush 60, 2) := by decide +kernel
theorem d_M_init_89 : decode b_M_init 89 = .ok (.newarray .boolean, 2) := by decide +kernel
theorem d_M_init_91 : decode b_M_init 91 = .ok (.putfield 42, 3) := by decide +kernel
theorem d_M_init_94 : decode b_M_init 94 = .ok (.aload_n 0, 1) := by decide +kernel
theorem d_M_init_95 : decode b_M_init 95 = .ok (.iconst 3, 1) := by decide +kernel
theorem d_M_init_96 : decode b_M_init 96 = .ok (.newarray .int, 2) := by decide +kernel
theorem d_M_init_98 : decode b_M_init 98 = .ok (.putfield 45, 3) := by decide +kernel
theorem d_M_init_101 : decode b_M_init 101 = .ok (.aload_n 0, 1) := by decide +kernel
theorem d_M_init_102 : decode b_M_init 102 = .ok (.bipush 60, 2) := by decide +kernel
theorem d_M_init_104 : decode b_M_init 104 = .ok (.newarray .int, 2) := by decide +kernel
theorem d_M_init_106 : decode b_M_init 106 = .ok (.putfield 48, 3) := by decide +kernel
theorem d_M_init_109 : decode b_M_init 109 = .ok (.iconst 0, 1) := by decide +kernel
theorem d_M_init_110 : decode b_M_init 110 = .ok (.istore_n 1, 1) := by decide +kernel
theorem d_M_init_111 : decode b_M_init 111 = .ok (.iload_n 1, 1) := by decide +kernel
theorem d_M_init_112 : decode b_M_init 112 = .ok (.iconst 4, 1) := by decide +kernel
theorem d_M_init_113 : decode b_M_init 113 = .ok (.if_icmp .ge 19, 3) := by decide +kernel
theorem d_M_init_116 : decode b_M_init 116 = .ok (.aload_n 0, 1) := by decide +kernel
theorem d_M_init_117 : decode b_M_init 117 = .ok (.getfield 16, 3) := by decide +kernel
theorem d_M_init_120 : decode b_M_init 120 = .ok (.bipush 8, 2) := by decide +kernel
theorem d_M_init_122 : decode b_M_init 122 = .ok (.iload_n 1, 1) := by decide +kernel
theorem d_M_init_123 : decode b_M_init 123 = .ok (.imul, 1) := by decide +kernel
theorem d_M_init_124 : decode b_M_init 124 = .ok (.lconst 1, 1) := by decide +kernel
theorem d_M_init_125 : decode b_M_init 125 = .ok (.lastore, 1) := by decide +kernel
theorem d_M_init_126 : decode b_M_init 126 = .ok (.iinc 1 1, 3) := by decide +kernel
theorem d_M_init_129 : decode b_M_init 129 = .ok (.goto (-18), 3) := by decide +kernel
theorem d_M_init_132 : decode b_M_init 132 = .ok (.aload_n 0, 1) := by decide +kernel
theorem d_M_init_133 : decode b_M_init 133 = .ok (.getfield 13, 3) := by decide +kernel
theorem d_M_init_136 : decode b_M_init 136 = .ok (.iconst 0, 1) := by decide +kernel
theorem d_M_init_137 : decode b_M_init 137 = .ok (.iconst (-1), 1) := by decide +kernel
theorem d_M_init_138 : decode b_M_init 138 = .ok (.iastore, 1) := by decide +kernel
theorem d_M_init_139 : decode b_M_init 139 = .ok (.aload_n 0, 1) := by decide +kernel
theorem d_M_init_140 : decode b_M_init 140 = .ok (.iconst 1, 1) := by decide +kernel
theorem d_M_init_141 : decode b_M_init 141 = .ok (.putfield 51, 3) := by decide +kernel
theorem d_M_init_144 : decode b_M_init 144 = .ok (.aload_n 0, 1) := by decide +kernel
theorem d_M_init_145 : decode b_M_init 145 = .ok (.iconst 1, 1) := by decide +kernel
theorem d_M_init_146 : decode b_M_init 146 = .ok (.putfield 55, 3) := by decide +kernel
theorem d_M_init_149 : decode b_M_init 149 = .ok (.aload_n 0, 1) := by decide +kernel
theorem d_M_init_150 : decode b_M_init 150 = .ok (.getfield 20, 3) := by decide +kernel
theorem d_M_init_153 : decode b_M_init 153 = .ok (.iconst 0, 1) := by decide +kernel
theorem d_M_init_154 : decode b_M_init 154 = .ok (.iconst (-1), 1) := by decide +kernel
theorem d_M_init_155 : decode b_M_init 155 = .ok (.iastore, 1) := by decide +kernel
theorem d_M_init_156 : decode b_M_init 156 = .ok (.aload_n 0, 1) := by decide +kernel
theorem d_M_init_157 : decode b_M_init 157 = .ok (.getfield 23, 3) := by decide +kernel
theorem d_M_init_160 : decode b_M_init 160 = .ok (.iconst 0, 1) := by decide +kernel
theorem d_M_init_161 : decode b_M_init 161 = .ok (.iconst (-1), 1) := by decide +kernel
theorem d_M_init_162 : decode b_M_init 162 = .ok (.iastore, 1) := by decide +kernel
theorem d_M_init_163 : decode b_M_init 163 = .ok (.aload_n 0, 1) := by decide +kernel
theorem d_M_init_164 : decode b_M_init 164 = .ok (.getfield 30, 3) := by decide +kernel
theorem d_M_init_167 : decode b_M_init 167 = .ok (.iconst 0, 1) := by decide +kernel
theorem d_M_init_168 : decode b_M_init 168 = .ok (.iconst 1, 1) := by decide +kernel
theorem d_M_init_169 : decode b_M_init 169 = .ok (.bastore, 1) := by decide +kernel
theorem d_M_init_170 : decode b_M_init 170 = .ok (.iconst 0, 1) := by decide +kernel
theorem d_M_init_171 : decode b_M_init 171 = .ok (.istore_n 1, 1) := by decide +kernel
theorem d_M_init_172 : decode b_M_init 172 = .ok (.iload_n 1, 1) := by decide +kernel
theorem d_M_init_173 : decode b_M_init 173 = .ok (.iconst 3, 1) := by decide +kernel
theorem d_M_init_174 : decode b_M_init 174 = .ok (.if_icmp .ge 16, 3) := by decide +kernel
theorem d_M_init_177 : decode b_M_init 177 = .ok (.aload_n 0, 1) := by decide +kernel
theorem d_M_init_178 : decode b_M_init 178 = .ok (.getfield 33, 3) := by decide +kernel
theorem d_M_init_181 : decode b_M_init 181 = .ok (.iload_n 1, 1) := by decide +kernel
theorem d_M_init_182 : decode b_M_init 182 = .ok (.iconst (-1), 1) := by decide +kernel
theorem d_M_init_183 : decode b_M_init 183 = .ok (.iastore, 1) := by decide +kernel
theorem d_M_init_184 : decode b_M_init 184 = .ok (.iinc 1 1, 3) := by decide +kernel
theorem d_M_init_187 : decode b_M_init 187 = .ok (.goto (-15), 3) := by decide +kernel
theorem d_M_init_190 : decode b_M_init 190 = .ok (.return_, 1) := by decide +kernel
theorem d_M_create_0 : decode b_M_create 0 = .ok (.aload_n 0, 1) := by decide +kernel
theorem d_M_create_1 : decode b_M_create 1 = .ok (.aload_n 0, 1) := by decide +kernel
theorem d_M_create_2 : decode b_M_create 2 = .ok (.invokevirtual 107, 3) := by decide +kernel
theorem d_M_create_5 : decode b_M_create 5 = .ok (.iload_n 1, 1) := by decide +kernel
theorem d_M_create_6 : decode b_M_create 6 = .ok (.invokevirtual 113, 3) := by decide +kernel
theorem d_M_create_9 : decode b_M_create 9 = .ok (.ifCond .ne 5, 3) := by decide +kernel
theorem d_M_create_12 : decode b_M_create 12 = .ok (.iconst (-1), 1) := by decide +kernel
theorem d_M_create_13 : decode b_M_create 13 = .ok (.ireturn, 1) := by decide +kernel
theorem d_M_create_14 : decode b_M_create 14 = .ok (.aload_n 0, 1) := by decide +kernel
theorem d_M_create_15 : decode b_M_create 15 = .ok (.aload_n 0, 1) := by decide +kernel
theorem d_M_create_16 : decode b_M_create 16 = .ok (.invokevirtual 107, 3) := by decide +kernel
theorem d_M_create_19 : decode b_M_create 19 = .ok (.invokevirtual 116, 3) := by decide +kernel
theorem d_M_create_22 : decode b_M_create 22 = .ok (.aload_n 0, 1) := by decide +kernel
theorem d_M_create_23 : decode b_M_create 23 = .ok (.aload_n 0, 1) := by decide +kernel
theorem d_M_create_24 : decode b_M_create 24 = .ok (.getfield 71, 3) := by decide +kernel
theorem d_M_create_27 : decode b_M_create 27 = .ok (.iconst 1, 1) := by decide +kernel
theorem d_M_create_28 : decode b_M_create 28 = .ok (.iadd, 1) := by decide +kernel
theorem d_M_create_29 : decode b_M_create 29 = .ok (.iload_n 1, 1) := by decide +kernel
theorem d_M_create_30 : decode b_M_create 30 = .ok (.invokevirtual 96, 3) := by decide +kernel
theorem d_M_create_33 : decode b_M_create 33 = .ok (.istore_n 2, 1) := by decide +kernel
theorem d_M_create_34 : decode b_M_create 34 = .ok (.iload_n 2, 1) := by decide +kernel
theorem d_M_create_35 : decode b_M_create 35 = .ok (.ifCond .lt 31, 3) := by decide +kernel
theorem d_M_create_38 : decode b_M_create 38 = .ok (.aload_n 0, 1) := by decide +kernel
theorem d_M_create_39 : decode b_M_create 39 = .ok (.dup, 1) := by decide +kernel
theorem d_M_create_40 : decode b_M_create 40 = .ok (.getfield 71, 3) := by decide +kernel
theorem d_M_create_43 : decode b_M_create 43 = .ok (.iconst 1, 1) := by decide +kernel
theorem d_M_create_44 : decode b_M_create 44 = .ok (.iadd, 1) := by decide +kernel
theorem d_M_create_45 : decode b_M_create 45 = .ok (.putfield 71, 3) := by decide +kernel
theorem d_M_create_48 : decode b_M_create 48 = .ok (.aload_n 0, 1) := by decide +kernel
theorem d_M_create_49 : decode b_M_create 49 = .ok (.iload_n 2, 1) := by decide +kernel
theorem d_M_create_50 : decode b_M_create 50 = .ok (.iload_n 1, 1) := by decide +kernel
theorem d_M_create_51 : decode b_M_create 51 = .ok (.invokevirtual 120, 3) := by decide +kernel
theorem d_M_create_54 : decode b_M_create 54 = .ok (.aload_n 0, 1) := by decide +kernel
theorem d_M_create_55 : decode b_M_create 55 = .ok (.getfield 42, 3) := by decide +kernel
theorem d_M_create_58 : decode b_M_create 58 = .ok (.iload_n 2, 1) := by decide +kernel
end
section
theorem d_M_create_59 : decode b_M_create 59 = .ok (.iconst 1, 1) := by decide +kernel
theorem d_M_create_60 : decode b_M_create 60 = .ok (.bastore, 1) := by decide +kernel
theorem d_M_create_61 : decode b_M_create 61 = .ok (.aload_n 0, 1) := by decide +kernel
theorem d_M_create_62 : decode b_M_create 62 = .ok (.iload_n 2, 1) := by decide +kernel
theorem d_M_create_63 : decode b_M_create 63 = .ok (.putfield 65, 3) := by decide +kernel
theorem d_M_create_66 : decode b_M_create 66 = .ok (.aload_n 0, 1) := by decide +kernel
theorem d_M_create_67 : decode b_M_create 67 = .ok (.invokevirtual 123, 3) := by decide +kernel
theorem d_M_create_70 : decode b_M_create 70 = .ok (.ireturn, 1) := by decide +kernel
theorem d_M_here_0 : decode b_M_here 0 = .ok (.aload_n 0, 1) := by decide +kernel
theorem d_M_here_1 : decode b_M_here 1 = .ok (.getfield 39, 3) := by decide +kernel
theorem d_M_here_4 : decode b_M_here 4 = .ok (.aload_n 0, 1) := by decide +kernel
theorem d_M_here_5 : decode b_M_here 5 = .ok (.getfield 58, 3) := by decide +kernel
theorem d_M_here_8 : decode b_M_here 8 = .ok (.iaload, 1) := by decide +kernel
theorem d_M_here_9 : decode b_M_here 9 = .ok (.ireturn, 1) := by decide +kernel
theorem d_M_isVisible_0 : decode b_M_isVisible 0 = .ok (.iload_n 2, 1) := by decide +kernel
theorem d_M_isVisible_1 : decode b_M_isVisible 1 = .ok (.ifCond .lt 29, 3) := by decide +kernel
theorem d_M_isVisible_4 : decode b_M_isVisible 4 = .ok (.iload_n 2, 1) := by decide +kernel
theorem d_M_isVisible_5 : decode b_M_isVisible 5 = .ok (.aload_n 0, 1) := by decide +kernel
theorem d_M_isVisible_6 : decode b_M_isVisible 6 = .ok (.getfield 51, 3) := by decide +kernel
theorem d_M_isVisible_9 : decode b_M_isVisible 9 = .ok (.if_icmp .ge 21, 3) := by decide +kernel
theorem d_M_isVisible_12 : decode b_M_isVisible 12 = .ok (.aload_n 0, 1) := by decide +kernel
theorem d_M_isVisible_13 : decode b_M_isVisible 13 = .ok (.getfield 30, 3) := by decide +kernel
theorem d_M_isVisible_16 : decode b_M_isVisible 16 = .ok (.bipush 60, 2) := by decide +kernel
theorem d_M_isVisible_18 : decode b_M_isVisible 18 = .ok (.iload_n 1, 1) := by decide +kernel
theorem d_M_isVisible_19 : decode b_M_isVisible 19 = .ok (.imul, 1) := by decide +kernel
theorem d_M_isVisible_20 : decode b_M_isVisible 20 = .ok (.iload_n 2, 1) := by decide +kernel
theorem d_M_isVisible_21 : decode b_M_isVisible 21 = .ok (.iadd, 1) := by decide +kernel
theorem d_M_isVisible_22 : decode b_M_isVisible 22 = .ok (.baload, 1) := by decide +kernel
theorem d_M_isVisible_23 : decode b_M_isVisible 23 = .ok (.ifCond .eq 7, 3) := by decide +kernel
theorem d_M_isVisible_26 : decode b_M_isVisible 26 = .ok (.iconst 1, 1) := by decide +kernel
theorem d_M_isVisible_27 : decode b_M_isVisible 27 = .ok (.goto 4, 3) := by decide +kernel
theorem d_M_isVisible_30 : decode b_M_isVisible 30 = .ok (.iconst 0, 1) := by decide +kernel
theorem d_M_isVisible_31 : decode b_M_isVisible 31 = .ok (.ireturn, 1) := by decide +kernel
theorem d_M_begin_0 : decode b_M_begin 0 = .ok (.iconst 0, 1) := by decide +kernel
theorem d_M_begin_1 : decode b_M_begin 1 = .ok (.istore_n 2, 1) := by decide +kernel
theorem d_M_begin_2 : decode b_M_begin 2 = .ok (.iload_n 2, 1) := by decide +kernel
theorem d_M_begin_3 : decode b_M_begin 3 = .ok (.bipush 60, 2) := by decide +kernel
theorem d_M_begin_5 : decode b_M_begin 5 = .ok (.if_icmp .ge 33, 3) := by decide +kernel
theorem d_M_begin_8 : decode b_M_begin 8 = .ok (.aload_n 0, 1) := by decide +kernel
theorem d_M_begin_9 : decode b_M_begin 9 = .ok (.getfield 42, 3) := by decide +kernel
theorem d_M_begin_12 : decode b_M_begin 12 = .ok (.iload_n 2, 1) := by decide +kernel
theorem d_M_begin_13 : decode b_M_begin 13 = .ok (.aload_n 0, 1) := by decide +kernel
theorem d_M_begin_14 : decode b_M_begin 14 = .ok (.getfield 30, 3) := by decide +kernel
theorem d_M_begin_17 : decode b_M_begin 17 = .ok (.bipush 60, 2) := by decide +kernel
theorem d_M_begin_19 : decode b_M_begin 19 = .ok (.iload_n 1, 1) := by decide +kernel
theorem d_M_begin_20 : decode b_M_begin 20 = .ok (.imul, 1) := by decide +kernel
theorem d_M_begin_21 : decode b_M_begin 21 = .ok (.iload_n 2, 1) := by decide +kernel
theorem d_M_begin_22 : decode b_M_begin 22 = .ok (.iadd, 1) := by decide +kernel
theorem d_M_begin_23 : decode b_M_begin 23 = .ok (.baload, 1) := by decide +kernel
theorem d_M_begin_24 : decode b_M_begin 24 = .ok (.bastore, 1) := by decide +kernel
theorem d_M_begin_25 : decode b_M_begin 25 = .ok (.aload_n 0, 1) := by decide +kernel
theorem d_M_begin_26 : decode b_M_begin 26 = .ok (.getfield 48, 3) := by decide +kernel
theorem d_M_begin_29 : decode b_M_begin 29 = .ok (.iload_n 2, 1) := by decide +kernel
theorem d_M_begin_30 : decode b_M_begin 30 = .ok (.iconst (-1), 1) := by decide +kernel
theorem d_M_begin_31 : decode b_M_begin 31 = .ok (.iastore, 1) := by decide +kernel
theorem d_M_begin_32 : decode b_M_begin 32 = .ok (.iinc 2 1, 3) := by decide +kernel
theorem d_M_begin_35 : decode b_M_begin 35 = .ok (.goto (-33), 3) := by decide +kernel
theorem d_M_begin_38 : decode b_M_begin 38 = .ok (.iconst 0, 1) := by decide +kernel
theorem d_M_begin_39 : decode b_M_begin 39 = .ok (.istore_n 2, 1) := by decide +kernel
theorem d_M_begin_40 : decode b_M_begin 40 = .ok (.iload_n 2, 1) := by decide +kernel
theorem d_M_begin_41 : decode b_M_begin 41 = .ok (.iconst 3, 1) := by decide +kernel
theorem d_M_begin_42 : decode b_M_begin 42 = .ok (.if_icmp .ge 25, 3) := by decide +kernel
theorem d_M_begin_45 : decode b_M_begin 45 = .ok (.aload_n 0, 1) := by decide +kernel
theorem d_M_begin_46 : decode b_M_begin 46 = .ok (.getfield 45, 3) := by decide +kernel
theorem d_M_begin_49 : decode b_M_begin 49 = .ok (.iload_n 2, 1) := by decide +kernel
theorem d_M_begin_50 : decode b_M_begin 50 = .ok (.aload_n 0, 1) := by decide +kernel
theorem d_M_begin_51 : decode b_M_begin 51 = .ok (.getfield 33, 3) := by decide +kernel
theorem d_M_begin_54 : decode b_M_begin 54 = .ok (.iconst 3, 1) := by decide +kernel
theorem d_M_begin_55 : decode b_M_begin 55 = .ok (.iload_n 1, 1) := by decide +kernel
theorem d_M_begin_56 : decode b_M_begin 56 = .ok (.imul, 1) := by decide +kernel
theorem d_M_begin_57 : decode b_M_begin 57 = .ok (.iload_n 2, 1) := by decide +kernel
theorem d_M_begin_58 : decode b_M_begin 58 = .ok (.iadd, 1) := by decide +kernel
theorem d_M_begin_59 : decode b_M_begin 59 = .ok (.iaload, 1) := by decide +kernel
theorem d_M_begin_60 : decode b_M_begin 60 = .ok (.iastore, 1) := by decide +kernel
theorem d_M_begin_61 : decode b_M_begin 61 = .ok (.iinc 2 1, 3) := by decide +kernel
theorem d_M_begin_64 : decode b_M_begin 64 = .ok (.goto (-24), 3) := by decide +kernel
theorem d_M_begin_67 : decode b_M_begin 67 = .ok (.aload_n 0, 1) := by decide +kernel
theorem d_M_begin_68 : decode b_M_begin 68 = .ok (.aload_n 0, 1) := by decide +kernel
theorem d_M_begin_69 : decode b_M_begin 69 = .ok (.getfield 36, 3) := by decide +kernel
theorem d_M_begin_72 : decode b_M_begin 72 = .ok (.iload_n 1, 1) := by decide +kernel
theorem d_M_begin_73 : decode b_M_begin 73 = .ok (.iaload, 1) := by decide +kernel
theorem d_M_begin_74 : decode b_M_begin 74 = .ok (.putfield 65, 3) := by decide +kernel
theorem d_M_begin_77 : decode b_M_begin 77 = .ok (.aload_n 0, 1) := by decide +kernel
theorem d_M_begin_78 : decode b_M_begin 78 = .ok (.aload_n 0, 1) := by decide +kernel
theorem d_M_begin_79 : decode b_M_begin 79 = .ok (.getfield 51, 3) := by decide +kernel
theorem d_M_begin_82 : decode b_M_begin 82 = .ok (.putfield 68, 3) := by decide +kernel
theorem d_M_begin_85 : decode b_M_begin 85 = .ok (.aload_n 0, 1) := by decide +kernel
theorem d_M_begin_86 : decode b_M_begin 86 = .ok (.aload_n 0, 1) := by decide +kernel
theorem d_M_begin_87 : decode b_M_begin 87 = .ok (.getfield 71, 3) := by decide +kernel
theorem d_M_begin_90 : decode b_M_begin 90 = .ok (.putfield 74, 3) := by decide +kernel
theorem d_M_begin_93 : decode b_M_begin 93 = .ok (.aload_n 0, 1) := by decide +kernel
theorem d_M_begin_94 : decode b_M_begin 94 = .ok (.iconst 0, 1) := by decide +kernel
theorem d_M_begin_95 : decode b_M_begin 95 = .ok (.putfield 77, 3) := by decide +kernel
theorem d_M_begin_98 : decode b_M_begin 98 = .ok (.return_, 1) := by decide +kernel
theorem d_M_fresh_0 : decode b_M_fresh 0 = .ok (.aload_n 0, 1) := by decide +kernel
theorem d_M_fresh_1 : decode b_M_fresh 1 = .ok (.getfield 51, 3) := by decide +kernel
theorem d_M_fresh_4 : decode b_M_fresh 4 = .ok (.bipush 60, 2) := by decide +kernel
theorem d_M_fresh_6 : decode b_M_fresh 6 = .ok (.if_icmp .ne 10, 3) := by decide +kernel
theorem d_M_fresh_9 : decode b_M_fresh 9 = .ok (.aload_n 0, 1) := by decide +kernel
theorem d_M_fresh_10 : decode b_M_fresh 10 = .ok (.iconst 1, 1) := by decide +kernel
theorem d_M_fresh_11 : decode b_M_fresh 11 = .ok (.putfield 77, 3) := by decide +kernel
theorem d_M_fresh_14 : decode b_M_fresh 14 = .ok (.iconst (-1), 1) := by decide +kernel
theorem d_M_fresh_15 : decode b_M_fresh 15 = .ok (.ireturn, 1) := by decide +kernel
theorem d_M_fresh_16 : decode b_M_fresh 16 = .ok (.aload_n 0, 1) := by decide +kernel
theorem d_M_fresh_17 : decode b_M_fresh 17 = .ok (.getfield 7, 3) := by decide +kernel
theorem d_M_fresh_20 : decode b_M_fresh 20 = .ok (.aload_n 0, 1) := by decide +kernel
theorem d_M_fresh_21 : decode b_M_fresh 21 = .ok (.getfield 51, 3) := by decide +kernel
theorem d_M_fresh_24 : decode b_M_fresh 24 = .ok (.iload_n 1, 1) := by decide +kernel
theorem d_M_fresh_25 : decode b_M_fresh 25 = .ok (.iastore, 1) := by decide +kernel
theorem d_M_fresh_26 : decode b_M_fresh 26 = .ok (.aload_n 0, 1) := by decide +kernel
theorem d_M_fresh_27 : decode b_M_fresh 27 = .ok (.getfield 13, 3) := by decide +kernel
theorem d_M_fresh_30 : decode b_M_fresh 30 = .ok (.aload_n 0, 1) := by decide +kernel
theorem d_M_fresh_31 : decode b_M_fresh 31 = .ok (.getfield 51, 3) := by decide +kernel
theorem d_M_fresh_34 : decode b_M_fresh 34 = .ok (.iload_n 2, 1) := by decide +kernel
theorem d_M_fresh_35 : decode b_M_fresh 35 = .ok (.iastore, 1) := by decide +kernel
theorem d_M_fresh_36 : decode b_M_fresh 36 = .ok (.aload_n 0, 1) := by decide +kernel
theorem d_M_fresh_37 : decode b_M_fresh 37 = .ok (.dup, 1) := by decide +kernel
theorem d_M_fresh_38 : decode b_M_fresh 38 = .ok (.getfield 51, 3) := by decide +kernel
theorem d_M_fresh_41 : decode b_M_fresh 41 = .ok (.iconst 1, 1) := by decide +kernel
theorem d_M_fresh_42 : decode b_M_fresh 42 = .ok (.iadd, 1) := by decide +kernel
theorem d_M_fresh_43 : decode b_M_fresh 43 = .ok (.putfield 51, 3) := by decide +kernel
theorem d_M_fresh_46 : decode b_M_fresh 46 = .ok (.aload_n 0, 1) := by decide +kernel
theorem d_M_fresh_47 : decode b_M_fresh 47 = .ok (.getfield 51, 3) := by decide +kernel
theorem d_M_fresh_50 : decode b_M_fresh 50 = .ok (.iconst 1, 1) := by decide +kernel
theorem d_M_fresh_51 : decode b_M_fresh 51 = .ok (.isub, 1) := by decide +kernel
theorem d_M_fresh_52 : decode b_M_fresh 52 = .ok (.ireturn, 1) := by decide +kernel
theorem d_M_copyContents_0 : decode b_M_copyContents 0 = .ok (.iconst 0, 1) := by decide +kernel
theorem d_M_copyContents_1 : decode b_M_copyContents 1 = .ok (.istore_n 3, 1) := by decide +kernel
theorem d_M_copyContents_2 : decode b_M_copyContents 2 = .ok (.iload_n 3, 1) := by decide +kernel
theorem d_M_copyContents_3 : decode b_M_copyContents 3 = .ok (.bipush 32, 2) := by decide +kernel
theorem d_M_copyContents_5 : decode b_M_copyContents 5 = .ok (.if_icmp .ge 31, 3) := by decide +kernel
theorem d_M_copyContents_8 : decode b_M_copyContents 8 = .ok (.aload_n 0, 1) := by decide +kernel
theorem d_M_copyContents_9 : decode b_M_copyContents 9 = .ok (.getfield 16, 3) := by decide +kernel
theorem d_M_copyContents_12 : decode b_M_copyContents 12 = .ok (.bipush 32, 2) := by decide +kernel
theorem d_M_copyContents_14 : decode b_M_copyContents 14 = .ok (.iload_n 1, 1) := by decide +kernel
theorem d_M_copyContents_15 : decode b_M_copyContents 15 = .ok (.imul, 1) := by decide +kernel
theorem d_M_copyContents_16 : decode b_M_copyContents 16 = .ok (.iload_n 3, 1) := by decide +kernel
theorem d_M_copyContents_17 : decode b_M_copyContents 17 = .ok (.iadd, 1) := by decide +kernel
theorem d_M_copyContents_18 : decode b_M_copyContents 18 = .ok (.aload_n 0, 1) := by decide +kernel
theorem d_M_copyContents_19 : decode b_M_copyContents 19 = .ok (.getfield 16, 3) := by decide +kernel
theorem d_M_copyContents_22 : decode b_M_copyContents 22 = .ok (.bipush 32, 2) := by decide +kernel
theorem d_M_copyContents_24 : decode b_M_copyContents 24 = .ok (.iload_n 2, 1) := by decide +kernel
theorem d_M_copyContents_25 : decode b_M_copyContents 25 = .ok (.imul, 1) := by decide +kernel
theorem d_M_copyContents_26 : decode b_M_copyContents 26 = .ok (.iload_n 3, 1) := by decide +kernel
theorem d_M_copyContents_27 : decode b_M_copyContents 27 = .ok (.iadd, 1) := by decide +kernel
theorem d_M_copyContents_28 : decode b_M_copyContents 28 = .ok (.laload, 1) := by decide +kernel
theorem d_M_copyContents_29 : decode b_M_copyContents 29 = .ok (.lastore, 1) := by decide +kernel
theorem d_M_copyContents_30 : decode b_M_copyContents 30 = .ok (.iinc 3 1, 3) := by decide +kernel
theorem d_M_copyContents_33 : decode b_M_copyContents 33 = .ok (.goto (-31), 3) := by decide +kernel
theorem d_M_copyContents_36 : decode b_M_copyContents 36 = .ok (.return_, 1) := by decide +kernel
theorem d_M_done_0 : decode b_M_done 0 = .ok (.aload_n 0, 1) := by decide +kernel
theorem d_M_done_1 : decode b_M_done 1 = .ok (.aload_n 0, 1) := by decide +kernel
theorem d_M_done_2 : decode b_M_done 2 = .ok (.invokevirtual 107, 3) := by decide +kernel
theorem d_M_done_5 : decode b_M_done 5 = .ok (.iconst (-1), 1) := by decide +kernel
theorem d_M_done_6 : decode b_M_done 6 = .ok (.invokevirtual 110, 3) := by decide +kernel
theorem d_M_done_9 : decode b_M_done 9 = .ok (.istore_n 1, 1) := by decide +kernel
theorem d_M_done_10 : decode b_M_done 10 = .ok (.aload_n 0, 1) := by decide +kernel
theorem d_M_done_11 : decode b_M_done 11 = .ok (.getfield 39, 3) := by decide +kernel
theorem d_M_done_14 : decode b_M_done 14 = .ok (.aload_n 0, 1) := by decide +kernel
theorem d_M_done_15 : decode b_M_done 15 = .ok (.getfield 58, 3) := by decide +kernel
theorem d_M_done_18 : decode b_M_done 18 = .ok (.iload_n 1, 1) := by decide +kernel
theorem d_M_done_19 : decode b_M_done 19 = .ok (.ifCond .lt 7, 3) := by decide +kernel
theorem d_M_done_22 : decode b_M_done 22 = .ok (.iload_n 1, 1) := by decide +kernel
theorem d_M_done_23 : decode b_M_done 23 = .ok (.goto 7, 3) := by decide +kernel
theorem d_M_done_26 : decode b_M_done 26 = .ok (.aload_n 0, 1) := by decide +kernel
theorem d_M_done_27 : decode b_M_done 27 = .ok (.invokevirtual 107, 3) := by decide +kernel
theorem d_M_done_30 : decode b_M_done 30 = .ok (.iastore, 1) := by decide +kernel
theorem d_M_done_31 : decode b_M_done 31 = .ok (.iload_n 1, 1) := by decide +kernel
theorem d_M_done_32 : decode b_M_done 32 = .ok (.ireturn, 1) := by decide +kernel
theorem d_M_finish_0 : decode b_M_finish 0 = .ok (.aload_n 0, 1) := by decide +kernel
theorem d_M_finish_1 : decode b_M_finish 1 = .ok (.getfield 77, 3) := by decide +kernel
theorem d_M_finish_4 : decode b_M_finish 4 = .ok (.ifCond .ne 12, 3) := by decide +kernel
theorem d_M_finish_7 : decode b_M_finish 7 = .ok (.aload_n 0, 1) := by decide +kernel
theorem d_M_finish_8 : decode b_M_finish 8 = .ok (.getfield 55, 3) := by decide +kernel
theorem d_M_finish_11 : decode b_M_finish 11 = .ok (.bipush 100, 2) := by decide +kernel
theorem d_M_finish_13 : decode b_M_finish 13 = .ok (.if_icmp .ne 22, 3) := by decide +kernel
theorem d_M_finish_16 : decode b_M_finish 16 = .ok (.aload_n 0, 1) := by decide +kernel
theorem d_M_finish_17 : decode b_M_finish 17 = .ok (.aload_n 0, 1) := by decide +kernel
theorem d_M_finish_18 : decode b_M_finish 18 = .ok (.getfield 68, 3) := by decide +kernel
theorem d_M_finish_21 : decode b_M_finish 21 = .ok (.putfield 51, 3) := by decide +kernel
theorem d_M_finish_24 : decode b_M_finish 24 = .ok (.aload_n 0, 1) := by decide +kernel
theorem d_M_finish_25 : decode b_M_finish 25 = .ok (.aload_n 0, 1) := by decide +kernel
theorem d_M_finish_26 : decode b_M_finish 26 = .ok (.getfield 74, 3) := by decide +kernel
theorem d_M_finish_29 : decode b_M_finish 29 = .ok (.putfield 71, 3) := by decide +kernel
theorem d_M_finish_32 : decode b_M_finish 32 = .ok (.bipush (-3), 2) := by decide +kernel
theorem d_M_finish_34 : decode b_M_finish 34 = .ok (.ireturn, 1) := by decide +kernel
theorem d_M_finish_35 : decode b_M_finish 35 = .ok (.aload_n 0, 1) := by decide +kernel
theorem d_M_finish_36 : decode b_M_finish 36 = .ok (.getfield 55, 3) := by decide +kernel
theorem d_M_finish_39 : decode b_M_finish 39 = .ok (.istore_n 3, 1) := by decide +kernel
theorem d_M_finish_40 : decode b_M_finish 40 = .ok (.aload_n 0, 1) := by decide +kernel
theorem d_M_finish_41 : decode b_M_finish 41 = .ok (.dup, 1) := by decide +kernel
theorem d_M_finish_42 : decode b_M_finish 42 = .ok (.getfield 55, 3) := by decide +kernel
theorem d_M_finish_45 : decode b_M_finish 45 = .ok (.iconst 1, 1) := by decide +kernel
theorem d_M_finish_46 : decode b_M_finish 46 = .ok (.iadd, 1) := by decide +kernel
theorem d_M_finish_47 : decode b_M_finish 47 = .ok (.putfield 55, 3) := by decide +kernel
theorem d_M_finish_50 : decode b_M_finish 50 = .ok (.aload_n 0, 1) := by decide +kernel
theorem d_M_finish_51 : decode b_M_finish 51 = .ok (.getfield 20, 3) := by decide +kernel
theorem d_M_finish_54 : decode b_M_finish 54 = .ok (.iload_n 3, 1) := by decide +kernel
theorem d_M_finish_55 : decode b_M_finish 55 = .ok (.iload_n 1, 1) := by decide +kernel
theorem d_M_finish_56 : decode b_M_finish 56 = .ok (.iastore, 1) := by decide +kernel
theorem d_M_finish_57 : decode b_M_finish 57 = .ok (.aload_n 0, 1) := by decide +kernel
theorem d_M_finish_58 : decode b_M_finish 58 = .ok (.getfield 23, 3) := by decide +kernel
theorem d_M_finish_61 : decode b_M_finish 61 = .ok (.iload_n 3, 1) := by decide +kernel
theorem d_M_finish_62 : decode b_M_finish 62 = .ok (.iload_n 2, 1) := by decide +kernel
theorem d_M_finish_63 : decode b_M_finish 63 = .ok (.iastore, 1) := by decide +kernel
theorem d_M_finish_64 : decode b_M_finish 64 = .ok (.iconst 0, 1) := by decide +kernel
theorem d_M_finish_65 : decode b_M_finish 65 = .ok (.istore 4, 2) := by decide +kernel
theorem d_M_finish_67 : decode b_M_finish 67 = .ok (.iload 4, 2) := by decide +kernel
theorem d_M_finish_69 : decode b_M_finish 69 = .ok (.bipush 60, 2) := by decide +kernel
theorem d_M_finish_71 : decode b_M_finish 71 = .ok (.if_icmp .ge 28, 3) := by decide +kernel
theorem d_M_finish_74 : decode b_M_finish 74 = .ok (.aload_n 0, 1) := by decide +kernel
theorem d_M_finish_75 : decode b_M_finish 75 = .ok (.getfield 30, 3) := by decide +kernel
theorem d_M_finish_78 : decode b_M_finish 78 = .ok (.bipush 60, 2) := by decide +kernel
theorem d_M_finish_80 : decode b_M_finish 80 = .ok (.iload_n 3, 1) := by decide +kernel
theorem d_M_finish_81 : decode b_M_finish 81 = .ok (.imul, 1) := by decide +kernel
theorem d_M_finish_82 : decode b_M_finish 82 = .ok (.iload 4, 2) := by decide +kernel
theorem d_M_finish_84 : decode b_M_finish 84 = .ok (.iadd, 1) := by decide +kernel
theorem d_M_finish_85 : decode b_M_finish 85 = .ok (.aload_n 0, 1) := by decide +kernel
theorem d_M_finish_86 : decode b_M_finish 86 = .ok (.getfield 42, 3) := by decide +kernel
theorem d_M_finish_89 : decode b_M_finish 89 = .ok (.iload 4, 2) := by decide +kernel
theorem d_M_finish_91 : decode b_M_finish 91 = .ok (.baload, 1) := by decide +kernel
theorem d_M_finish_92 : decode b_M_finish 92 = .ok (.bastore, 1) := by decide +kernel
theorem d_M_finish_93 : decode b_M_finish 93 = .ok (.iinc 4 1, 3) := by decide +kernel
theorem d_M_finish_96 : decode b_M_finish 96 = .ok (.goto (-29), 3) := by decide +kernel
theorem d_M_finish_99 : decode b_M_finish 99 = .ok (.iconst 0, 1) := by decide +kernel
theorem d_M_finish_100 : decode b_M_finish 100 = .ok (.istore 4, 2) := by decide +kernel
theorem d_M_finish_102 : decode b_M_finish 102 = .ok (.iload 4, 2) := by decide +kernel
theorem d_M_finish_104 : decode b_M_finish 104 = .ok (.iconst 3, 1) := by decide +kernel
theorem d_M_finish_105 : decode b_M_finish 105 = .ok (.if_icmp .ge 27, 3) := by decide +kernel
theorem d_M_finish_108 : decode b_M_finish 108 = .ok (.aload_n 0, 1) := by decide +kernel
theorem d_M_finish_109 : decode b_M_finish 109 = .ok (.getfield 33, 3) := by decide +kernel
theorem d_M_finish_112 : decode b_M_finish 112 = .ok (.iconst 3, 1) := by decide +kernel
theorem d_M_finish_113 : decode b_M_finish 113 = .ok (.iload_n 3, 1) := by decide +kernel
theorem d_M_finish_114 : decode b_M_finish 114 = .ok (.imul, 1) := by decide +kernel
theorem d_M_finish_115 : decode b_M_finish 115 = .ok (.iload 4, 2) := by decide +kernel
theorem d_M_finish_117 : decode b_M_finish 117 = .ok (.iadd, 1) := by decide +kernel
theorem d_M_finish_118 : decode b_M_finish 118 = .ok (.aload_n 0, 1) := by decide +kernel
theorem d_M_finish_119 : decode b_M_finish 119 = .ok (.getfield 45, 3) := by decide +kernel
theorem d_M_finish_122 : decode b_M_finish 122 = .ok (.iload 4, 2) := by decide +kernel
theorem d_M_finish_124 : decode b_M_finish 124 = .ok (.iaload, 1) := by decide +kernel
theorem d_M_finish_125 : decode b_M_finish 125 = .ok (.iastore, 1) := by decide +kernel
theorem d_M_finish_126 : decode b_M_finish 126 = .ok (.iinc 4 1, 3) := by decide +kernel
theorem d_M_finish_129 : decode b_M_finish 129 = .ok (.goto (-27), 3) := by decide +kernel
theorem d_M_finish_132 : decode b_M_finish 132 = .ok (.aload_n 0, 1) := by decide +kernel
theorem d_M_finish_133 : decode b_M_finish 133 = .ok (.getfield 36, 3) := by decide +kernel
theorem d_M_finish_136 : decode b_M_finish 136 = .ok (.iload_n 3, 1) := by decide +kernel
theorem d_M_finish_137 : decode b_M_finish 137 = .ok (.aload_n 0, 1) := by decide +kernel
theorem d_M_finish_138 : decode b_M_finish 138 = .ok (.getfield 65, 3) := by decide +kernel
theorem d_M_finish_141 : decode b_M_finish 141 = .ok (.iastore, 1) := by decide +kernel
theorem d_M_finish_142 : decode b_M_finish 142 = .ok (.iload_n 3, 1) := by decide +kernel
theorem d_M_finish_143 : decode b_M_finish 143 = .ok (.ireturn, 1) := by decide +kernel
theorem d_M_write_0 : decode b_M_write 0 = .ok (.aload_n 0, 1) := by decide +kernel
theorem d_M_write_1 : decode b_M_write 1 = .ok (.getfield 36, 3) := by decide +kernel
theorem d_M_write_4 : decode b_M_write 4 = .ok (.aload_n 0, 1) := by decide +kernel
theorem d_M_write_5 : decode b_M_write 5 = .ok (.invokevirtual 107, 3) := by decide +kernel
theorem d_M_write_8 : decode b_M_write 8 = .ok (.iaload, 1) := by decide +kernel
theorem d_M_write_9 : decode b_M_write 9 = .ok (.istore_n 3, 1) := by decide +kernel
theorem d_M_write_10 : decode b_M_write 10 = .ok (.iload_n 3, 1) := by decide +kernel
theorem d_M_write_11 : decode b_M_write 11 = .ok (.ifCond .eq 22, 3) := by decide +kernel
theorem d_M_write_14 : decode b_M_write 14 = .ok (.iload_n 1, 1) := by decide +kernel
theorem d_M_write_15 : decode b_M_write 15 = .ok (.ifCond .lt 18, 3) := by decide +kernel
theorem d_M_write_18 : decode b_M_write 18 = .ok (.iload_n 1, 1) := by decide +kernel
theorem d_M_write_19 : decode b_M_write 19 = .ok (.iconst 3, 1) := by decide +kernel
theorem d_M_write_20 : decode b_M_write 20 = .ok (.if_icmp .gt 13, 3) := by decide +kernel
theorem d_M_write_23 : decode b_M_write 23 = .ok (.iload_n 2, 1) := by decide +kernel
theorem d_M_write_24 : decode b_M_write 24 = .ok (.ifCond .lt 9, 3) := by decide +kernel
theorem d_M_write_27 : decode b_M_write 27 = .ok (.iload_n 2, 1) := by decide +kernel
theorem d_M_write_28 : decode b_M_write 28 = .ok (.bipush 7, 2) := by decide +kernel
theorem d_M_write_30 : decode b_M_write 30 = .ok (.if_icmp .le 5, 3) := by decide +kernel
theorem d_M_write_33 : decode b_M_write 33 = .ok (.iconst (-1), 1) := by decide +kernel
theorem d_M_write_34 : decode b_M_write 34 = .ok (.ireturn, 1) := by decide +kernel
theorem d_M_write_35 : decode b_M_write 35 = .ok (.aload_n 0, 1) := by decide +kernel
theorem d_M_write_36 : decode b_M_write 36 = .ok (.iload_n 3, 1) := by decide +kernel
theorem d_M_write_37 : decode b_M_write 37 = .ok (.iload_n 1, 1) := by decide +kernel
theorem d_M_write_38 : decode b_M_write 38 = .ok (.iload_n 2, 1) := by decide +kernel
theorem d_M_write_39 : decode b_M_write 39 = .ok (.invokevirtual 126, 3) := by decide +kernel
theorem d_M_write_42 : decode b_M_write 42 = .ok (.ifCond .eq 6, 3) := by decide +kernel
theorem d_M_write_45 : decode b_M_write 45 = .ok (.bipush (-2), 2) := by decide +kernel
theorem d_M_write_47 : decode b_M_write 47 = .ok (.ireturn, 1) := by decide +kernel
theorem d_M_write_48 : decode b_M_write 48 = .ok (.aload_n 0, 1) := by decide +kernel
theorem d_M_write_49 : decode b_M_write 49 = .ok (.aload_n 0, 1) := by decide +kernel
theorem d_M_write_50 : decode b_M_write 50 = .ok (.invokevirtual 107, 3) := by decide +kernel
theorem d_M_write_53 : decode b_M_write 53 = .ok (.invokevirtual 116, 3) := by decide +kernel
theorem d_M_write_56 : decode b_M_write 56 = .ok (.aload_n 0, 1) := by decide +kernel
theorem d_M_write_57 : decode b_M_write 57 = .ok (.aload_n 0, 1) := by decide +kernel
theorem d_M_write_58 : decode b_M_write 58 = .ok (.getfield 7, 3) := by decide +kernel
theorem d_M_write_61 : decode b_M_write 61 = .ok (.iload_n 3, 1) := by decide +kernel
theorem d_M_write_62 : decode b_M_write 62 = .ok (.iaload, 1) := by decide +kernel
theorem d_M_write_63 : decode b_M_write 63 = .ok (.aload_n 0, 1) := by decide +kernel
theorem d_M_write_64 : decode b_M_write 64 = .ok (.getfield 13, 3) := by decide +kernel
theorem d_M_write_67 : decode b_M_write 67 = .ok (.iload_n 3, 1) := by decide +kernel
theorem d_M_write_68 : decode b_M_write 68 = .ok (.iaload, 1) := by decide +kernel
theorem d_M_write_69 : decode b_M_write 69 = .ok (.invokevirtual 96, 3) := by decide +kernel
theorem d_M_write_72 : decode b_M_write 72 = .ok (.istore 4, 2) := by decide +kernel
theorem d_M_write_74 : decode b_M_write 74 = .ok (.iload 4, 2) := by decide +kernel
theorem d_M_write_76 : decode b_M_write 76 = .ok (.ifCond .lt 29, 3) := by decide +kernel
theorem d_M_write_79 : decode b_M_write 79 = .ok (.aload_n 0, 1) := by decide +kernel
theorem d_M_write_80 : decode b_M_write 80 = .ok (.iload 4, 2) := by decide +kernel
theorem d_M_write_82 : decode b_M_write 82 = .ok (.iload_n 3, 1) := by decide +kernel
theorem d_M_write_83 : decode b_M_write 83 = .ok (.invokevirtual 120, 3) := by decide +kernel
theorem d_M_write_86 : decode b_M_write 86 = .ok (.aload_n 0, 1) := by decide +kernel
theorem d_M_write_87 : decode b_M_write 87 = .ok (.iload 4, 2) := by decide +kernel
theorem d_M_write_89 : decode b_M_write 89 = .ok (.iload_n 1, 1) := by decide +kernel
theorem d_M_write_90 : decode b_M_write 90 = .ok (.iload_n 2, 1) := by decide +kernel
theorem d_M_write_91 : decode b_M_write 91 = .ok (.invokevirtual 61, 3) := by decide +kernel
theorem d_M_write_94 : decode b_M_write 94 = .ok (.aload_n 0, 1) := by decide +kernel
theorem d_M_write_95 : decode b_M_write 95 = .ok (.iload_n 3, 1) := by decide +kernel
theorem d_M_write_96 : decode b_M_write 96 = .ok (.iload 4, 2) := by decide +kernel
theorem d_M_write_98 : decode b_M_write 98 = .ok (.invokevirtual 103, 3) := by decide +kernel
theorem d_M_write_101 : decode b_M_write 101 = .ok (.aload_n 0, 1) := by decide +kernel
theorem d_M_write_102 : decode b_M_write 102 = .ok (.invokevirtual 130, 3) := by decide +kernel
theorem d_M_write_105 : decode b_M_write 105 = .ok (.aload_n 0, 1) := by decide +kernel
theorem d_M_write_106 : decode b_M_write 106 = .ok (.invokevirtual 123, 3) := by decide +kernel
theorem d_M_write_109 : decode b_M_write 109 = .ok (.ireturn, 1) := by decide +kernel
theorem d_M_plain_0 : decode b_M_plain 0 = .ok (.iconst 1, 1) := by decide +kernel
theorem d_M_plain_1 : decode b_M_plain 1 = .ok (.istore 4, 2) := by decide +kernel
theorem d_M_plain_3 : decode b_M_plain 3 = .ok (.iconst 0, 1) := by decide +kernel
theorem d_M_plain_4 : decode b_M_plain 4 = .ok (.istore 5, 2) := by decide +kernel
theorem d_M_plain_6 : decode b_M_plain 6 = .ok (.iload 5, 2) := by decide +kernel
theorem d_M_plain_8 : decode b_M_plain 8 = .ok (.bipush 8, 2) := by decide +kernel
theorem d_M_plain_10 : decode b_M_plain 10 = .ok (.if_icmp .ge 54, 3) := by decide +kernel
theorem d_M_plain_13 : decode b_M_plain 13 = .ok (.iload 4, 2) := by decide +kernel
theorem d_M_plain_15 : decode b_M_plain 15 = .ok (.ifCond .eq 40, 3) := by decide +kernel
theorem d_M_plain_18 : decode b_M_plain 18 = .ok (.aload_n 0, 1) := by decide +kernel
theorem d_M_plain_19 : decode b_M_plain 19 = .ok (.getfield 16, 3) := by decide +kernel
theorem d_M_plain_22 : decode b_M_plain 22 = .ok (.bipush 32, 2) := by decide +kernel
theorem d_M_plain_24 : decode b_M_plain 24 = .ok (.iload_n 1, 1) := by decide +kernel
theorem d_M_plain_25 : decode b_M_plain 25 = .ok (.imul, 1) := by decide +kernel
theorem d_M_plain_26 : decode b_M_plain 26 = .ok (.bipush 8, 2) := by decide +kernel
theorem d_M_plain_28 : decode b_M_plain 28 = .ok (.iload_n 2, 1) := by decide +kernel
theorem d_M_plain_29 : decode b_M_plain 29 = .ok (.imul, 1) := by decide +kernel
theorem d_M_plain_30 : decode b_M_plain 30 = .ok (.iadd, 1) := by decide +kernel
theorem d_M_plain_31 : decode b_M_plain 31 = .ok (.iload 5, 2) := by decide +kernel
theorem d_M_plain_33 : decode b_M_plain 33 = .ok (.iadd, 1) := by decide +kernel
theorem d_M_plain_34 : decode b_M_plain 34 = .ok (.laload, 1) := by decide +kernel
theorem d_M_plain_35 : decode b_M_plain 35 = .ok (.iload 5, 2) := by decide +kernel
theorem d_M_plain_37 : decode b_M_plain 37 = .ok (.iload_n 3, 1) := by decide +kernel
theorem d_M_plain_38 : decode b_M_plain 38 = .ok (.if_icmp .ne 7, 3) := by decide +kernel
theorem d_M_plain_41 : decode b_M_plain 41 = .ok (.iconst 1, 1) := by decide +kernel
theorem d_M_plain_42 : decode b_M_plain 42 = .ok (.goto 4, 3) := by decide +kernel
theorem d_M_plain_45 : decode b_M_plain 45 = .ok (.iconst 0, 1) := by decide +kernel
theorem d_M_plain_46 : decode b_M_plain 46 = .ok (.i2l, 1) := by decide +kernel
theorem d_M_plain_47 : decode b_M_plain 47 = .ok (.lcmp, 1) := by decide +kernel
theorem d_M_plain_48 : decode b_M_plain 48 = .ok (.ifCond .ne 7, 3) := by decide +kernel
theorem d_M_plain_51 : decode b_M_plain 51 = .ok (.iconst 1, 1) := by decide +kernel
theorem d_M_plain_52 : decode b_M_plain 52 = .ok (.goto 4, 3) := by decide +kernel
theorem d_M_plain_55 : decode b_M_plain 55 = .ok (.iconst 0, 1) := by decide +kernel
theorem d_M_plain_56 : decode b_M_plain 56 = .ok (.istore 4, 2) := by decide +kernel
theorem d_M_plain_58 : decode b_M_plain 58 = .ok (.iinc 5 1, 3) := by decide +kernel
theorem d_M_plain_61 : decode b_M_plain 61 = .ok (.goto (-55), 3) := by decide +kernel
theorem d_M_plain_64 : decode b_M_plain 64 = .ok (.iload 4, 2) := by decide +kernel
theorem d_M_plain_66 : decode b_M_plain 66 = .ok (.ireturn, 1) := by decide +kernel
theorem d_M_setPlain_0 : decode b_M_setPlain 0 = .ok (.iconst 0, 1) := by decide +kernel
theorem d_M_setPlain_1 : decode b_M_setPlain 1 = .ok (.istore 4, 2) := by decide +kernel
theorem d_M_setPlain_3 : decode b_M_setPlain 3 = .ok (.iload 4, 2) := by decide +kernel
theorem d_M_setPlain_5 : decode b_M_setPlain 5 = .ok (.bipush 8, 2) := by decide +kernel
theorem d_M_setPlain_7 : decode b_M_setPlain 7 = .ok (.if_icmp .ge 37, 3) := by decide +kernel
theorem d_M_setPlain_10 : decode b_M_setPlain 10 = .ok (.aload_n 0, 1) := by decide +kernel
theorem d_M_setPlain_11 : decode b_M_setPlain 11 = .ok (.getfield 16, 3) := by decide +kernel
theorem d_M_setPlain_14 : decode b_M_setPlain 14 = .ok (.bipush 32, 2) := by decide +kernel
theorem d_M_setPlain_16 : decode b_M_setPlain 16 = .ok (.iload_n 1, 1) := by decide +kernel
theorem d_M_setPlain_17 : decode b_M_setPlain 17 = .ok (.imul, 1) := by decide +kernel
theorem d_M_setPlain_18 : decode b_M_setPlain 18 = .ok (.bipush 8, 2) := by decide +kernel
theorem d_M_setPlain_20 : decode b_M_setPlain 20 = .ok (.iload_n 2, 1) := by decide +kernel
theorem d_M_setPlain_21 : decode b_M_setPlain 21 = .ok (.imul, 1) := by decide +kernel
theorem d_M_setPlain_22 : decode b_M_setPlain 22 = .ok (.iadd, 1) := by decide +kernel
theorem d_M_setPlain_23 : decode b_M_setPlain 23 = .ok (.iload 4, 2) := by decide +kernel
theorem d_M_setPlain_25 : decode b_M_setPlain 25 = .ok (.iadd, 1) := by decide +kernel
theorem d_M_setPlain_26 : decode b_M_setPlain 26 = .ok (.iload 4, 2) := by decide +kernel
theorem d_M_setPlain_28 : decode b_M_setPlain 28 = .ok (.iload_n 3, 1) := by decide +kernel
theorem d_M_setPlain_29 : decode b_M_setPlain 29 = .ok (.if_icmp .ne 7, 3) := by decide +kernel
theorem d_M_setPlain_32 : decode b_M_setPlain 32 = .ok (.lconst 1, 1) := by decide +kernel
theorem d_M_setPlain_33 : decode b_M_setPlain 33 = .ok (.goto 4, 3) := by decide +kernel
theorem d_M_setPlain_36 : decode b_M_setPlain 36 = .ok (.lconst 0, 1) := by decide +kernel
theorem d_M_setPlain_37 : decode b_M_setPlain 37 = .ok (.lastore, 1) := by decide +kernel
theorem d_M_setPlain_38 : decode b_M_setPlain 38 = .ok (.iinc 4 1, 3) := by decide +kernel
theorem d_M_setPlain_41 : decode b_M_setPlain 41 = .ok (.goto (-38), 3) := by decide +kernel
theorem d_M_setPlain_44 : decode b_M_setPlain 44 = .ok (.return_, 1) := by decide +kernel
theorem d_M_replace_0 : decode b_M_replace 0 = .ok (.aload_n 0, 1) := by decide +kernel
theorem d_M_replace_1 : decode b_M_replace 1 = .ok (.getfield 42, 3) := by decide +kernel
theorem d_M_replace_4 : decode b_M_replace 4 = .ok (.iload_n 1, 1) := by decide +kernel
theorem d_M_replace_5 : decode b_M_replace 5 = .ok (.iconst 0, 1) := by decide +kernel
theorem d_M_replace_6 : decode b_M_replace 6 = .ok (.bastore, 1) := by decide +kernel
theorem d_M_replace_7 : decode b_M_replace 7 = .ok (.aload_n 0, 1) := by decide +kernel
theorem d_M_replace_8 : decode b_M_replace 8 = .ok (.getfield 42, 3) := by decide +kernel
theorem d_M_replace_11 : decode b_M_replace 11 = .ok (.iload_n 2, 1) := by decide +kernel
theorem d_M_replace_12 : decode b_M_replace 12 = .ok (.iconst 1, 1) := by decide +kernel
theorem d_M_replace_13 : decode b_M_replace 13 = .ok (.bastore, 1) := by decide +kernel
theorem d_M_replace_14 : decode b_M_replace 14 = .ok (.aload_n 0, 1) := by decide +kernel
theorem d_M_replace_15 : decode b_M_replace 15 = .ok (.getfield 48, 3) := by decide +kernel
theorem d_M_replace_18 : decode b_M_replace 18 = .ok (.iload_n 1, 1) := by decide +kernel
theorem d_M_replace_19 : decode b_M_replace 19 = .ok (.iload_n 2, 1) := by decide +kernel
theorem d_M_replace_20 : decode b_M_replace 20 = .ok (.iastore, 1) := by decide +kernel
theorem d_M_replace_21 : decode b_M_replace 21 = .ok (.return_, 1) := by decide +kernel
theorem d_M_settle_0 : decode b_M_settle 0 = .ok (.aload_n 0, 1) := by decide +kernel
theorem d_M_settle_1 : decode b_M_settle 1 = .ok (.invokevirtual 89, 3) := by decide +kernel
theorem d_M_settle_4 : decode b_M_settle 4 = .ok (.istore_n 1, 1) := by decide +kernel
theorem d_M_settle_5 : decode b_M_settle 5 = .ok (.iload_n 1, 1) := by decide +kernel
theorem d_M_settle_6 : decode b_M_settle 6 = .ok (.ifCond .lt 65, 3) := by decide +kernel
theorem d_M_settle_9 : decode b_M_settle 9 = .ok (.aload_n 0, 1) := by decide +kernel
theorem d_M_settle_10 : decode b_M_settle 10 = .ok (.getfield 77, 3) := by decide +kernel
theorem d_M_settle_13 : decode b_M_settle 13 = .ok (.ifCond .ne 58, 3) := by decide +kernel
theorem d_M_settle_16 : decode b_M_settle 16 = .ok (.aload_n 0, 1) := by decide +kernel
theorem d_M_settle_17 : decode b_M_settle 17 = .ok (.aload_n 0, 1) := by decide +kernel
theorem d_M_settle_18 : decode b_M_settle 18 = .ok (.getfield 13, 3) := by decide +kernel
theorem d_M_settle_21 : decode b_M_settle 21 = .ok (.iload_n 1, 1) := by decide +kernel
theorem d_M_settle_22 : decode b_M_settle 22 = .ok (.iaload, 1) := by decide +kernel
theorem d_M_settle_23 : decode b_M_settle 23 = .ok (.iload_n 1, 1) := by decide +kernel
theorem d_M_settle_24 : decode b_M_settle 24 = .ok (.invokevirtual 93, 3) := by decide +kernel
theorem d_M_settle_27 : decode b_M_settle 27 = .ok (.istore_n 2, 1) := by decide +kernel
theorem d_M_settle_28 : decode b_M_settle 28 = .ok (.aload_n 0, 1) := by decide +kernel
theorem d_M_settle_29 : decode b_M_settle 29 = .ok (.aload_n 0, 1) := by decide +kernel
theorem d_M_settle_30 : decode b_M_settle 30 = .ok (.getfield 7, 3) := by decide +kernel
theorem d_M_settle_33 : decode b_M_settle 33 = .ok (.iload_n 1, 1) := by decide +kernel
theorem d_M_settle_34 : decode b_M_settle 34 = .ok (.iaload, 1) := by decide +kernel
theorem d_M_settle_35 : decode b_M_settle 35 = .ok (.iload_n 2, 1) := by decide +kernel
theorem d_M_settle_36 : decode b_M_settle 36 = .ok (.invokevirtual 96, 3) := by decide +kernel
theorem d_M_settle_39 : decode b_M_settle 39 = .ok (.istore_n 3, 1) := by decide +kernel
theorem d_M_settle_40 : decode b_M_settle 40 = .ok (.iload_n 3, 1) := by decide +kernel
theorem d_M_settle_41 : decode b_M_settle 41 = .ok (.ifCond .lt 27, 3) := by decide +kernel
theorem d_M_settle_44 : decode b_M_settle 44 = .ok (.aload_n 0, 1) := by decide +kernel
theorem d_M_settle_45 : decode b_M_settle 45 = .ok (.iload_n 3, 1) := by decide +kernel
theorem d_M_settle_46 : decode b_M_settle 46 = .ok (.iload_n 1, 1) := by decide +kernel
theorem d_M_settle_47 : decode b_M_settle 47 = .ok (.iload_n 2, 1) := by decide +kernel
theorem d_M_settle_48 : decode b_M_settle 48 = .ok (.aload_n 0, 1) := by decide +kernel
theorem d_M_settle_49 : decode b_M_settle 49 = .ok (.getfield 13, 3) := by decide +kernel
theorem d_M_settle_52 : decode b_M_settle 52 = .ok (.iload_n 1, 1) := by decide +kernel
theorem d_M_settle_53 : decode b_M_settle 53 = .ok (.iaload, 1) := by decide +kernel
theorem d_M_settle_54 : decode b_M_settle 54 = .ok (.invokevirtual 99, 3) := by decide +kernel
theorem d_M_settle_57 : decode b_M_settle 57 = .ok (.aload_n 0, 1) := by decide +kernel
theorem d_M_settle_58 : decode b_M_settle 58 = .ok (.iload_n 1, 1) := by decide +kernel
theorem d_M_settle_59 : decode b_M_settle 59 = .ok (.iload_n 3, 1) := by decide +kernel
theorem d_M_settle_60 : decode b_M_settle 60 = .ok (.invokevirtual 103, 3) := by decide +kernel
theorem d_M_settle_63 : decode b_M_settle 63 = .ok (.aload_n 0, 1) := by decide +kernel
theorem d_M_settle_64 : decode b_M_settle 64 = .ok (.invokevirtual 89, 3) := by decide +kernel
theorem d_M_settle_67 : decode b_M_settle 67 = .ok (.istore_n 1, 1) := by decide +kernel
theorem d_M_settle_68 : decode b_M_settle 68 = .ok (.goto (-63), 3) := by decide +kernel
theorem d_M_settle_71 : decode b_M_settle 71 = .ok (.iconst 0, 1) := by decide +kernel
theorem d_M_settle_72 : decode b_M_settle 72 = .ok (.istore_n 2, 1) := by decide +kernel
theorem d_M_settle_73 : decode b_M_settle 73 = .ok (.iload_n 2, 1) := by decide +kernel
theorem d_M_settle_74 : decode b_M_settle 74 = .ok (.iconst 3, 1) := by decide +kernel
theorem d_M_settle_75 : decode b_M_settle 75 = .ok (.if_icmp .ge 65, 3) := by decide +kernel
theorem d_M_settle_78 : decode b_M_settle 78 = .ok (.aload_n 0, 1) := by decide +kernel
theorem d_M_settle_79 : decode b_M_settle 79 = .ok (.getfield 77, 3) := by decide +kernel
theorem d_M_settle_82 : decode b_M_settle 82 = .ok (.ifCond .ne 58, 3) := by decide +kernel
theorem d_M_settle_85 : decode b_M_settle 85 = .ok (.aload_n 0, 1) := by decide +kernel
theorem d_M_settle_86 : decode b_M_settle 86 = .ok (.getfield 45, 3) := by decide +kernel
theorem d_M_settle_89 : decode b_M_settle 89 = .ok (.iload_n 2, 1) := by decide +kernel
theorem d_M_settle_90 : decode b_M_settle 90 = .ok (.aload_n 0, 1) := by decide +kernel
theorem d_M_settle_91 : decode b_M_settle 91 = .ok (.getfield 45, 3) := by decide +kernel
end
section
theorem d_M_settle_94 : decode b_M_settle 94 = .ok (.iload_n 2, 1) := by decide +kernel
theorem d_M_settle_95 : decode b_M_settle 95 = .ok (.iaload, 1) := by decide +kernel
theorem d_M_settle_96 : decode b_M_settle 96 = .ok (.ifCond .lt 31, 3) := by decide +kernel
theorem d_M_settle_99 : decode b_M_settle 99 = .ok (.aload_n 0, 1) := by decide +kernel
theorem d_M_settle_100 : decode b_M_settle 100 = .ok (.getfield 42, 3) := by decide +kernel
theorem d_M_settle_103 : decode b_M_settle 103 = .ok (.aload_n 0, 1) := by decide +kernel
theorem d_M_settle_104 : decode b_M_settle 104 = .ok (.getfield 45, 3) := by decide +kernel
theorem d_M_settle_107 : decode b_M_settle 107 = .ok (.iload_n 2, 1) := by decide +kernel
theorem d_M_settle_108 : decode b_M_settle 108 = .ok (.iaload, 1) := by decide +kernel
theorem d_M_settle_109 : decode b_M_settle 109 = .ok (.baload, 1) := by decide +kernel
theorem d_M_settle_110 : decode b_M_settle 110 = .ok (.ifCond .ne 17, 3) := by decide +kernel
theorem d_M_settle_113 : decode b_M_settle 113 = .ok (.aload_n 0, 1) := by decide +kernel
theorem d_M_settle_114 : decode b_M_settle 114 = .ok (.aload_n 0, 1) := by decide +kernel
theorem d_M_settle_115 : decode b_M_settle 115 = .ok (.getfield 45, 3) := by decide +kernel
theorem d_M_settle_118 : decode b_M_settle 118 = .ok (.iload_n 2, 1) := by decide +kernel
theorem d_M_settle_119 : decode b_M_settle 119 = .ok (.iaload, 1) := by decide +kernel
theorem d_M_settle_120 : decode b_M_settle 120 = .ok (.iconst (-1), 1) := by decide +kernel
theorem d_M_settle_121 : decode b_M_settle 121 = .ok (.invokevirtual 93, 3) := by decide +kernel
theorem d_M_settle_124 : decode b_M_settle 124 = .ok (.goto 9, 3) := by decide +kernel
theorem d_M_settle_127 : decode b_M_settle 127 = .ok (.aload_n 0, 1) := by decide +kernel
theorem d_M_settle_128 : decode b_M_settle 128 = .ok (.getfield 45, 3) := by decide +kernel
theorem d_M_settle_131 : decode b_M_settle 131 = .ok (.iload_n 2, 1) := by decide +kernel
theorem d_M_settle_132 : decode b_M_settle 132 = .ok (.iaload, 1) := by decide +kernel
theorem d_M_settle_133 : decode b_M_settle 133 = .ok (.iastore, 1) := by decide +kernel
theorem d_M_settle_134 : decode b_M_settle 134 = .ok (.iinc 2 1, 3) := by decide +kernel
theorem d_M_settle_137 : decode b_M_settle 137 = .ok (.goto (-64), 3) := by decide +kernel
theorem d_M_settle_140 : decode b_M_settle 140 = .ok (.aload_n 0, 1) := by decide +kernel
theorem d_M_settle_141 : decode b_M_settle 141 = .ok (.aload_n 0, 1) := by decide +kernel
theorem d_M_settle_142 : decode b_M_settle 142 = .ok (.getfield 77, 3) := by decide +kernel
theorem d_M_settle_145 : decode b_M_settle 145 = .ok (.ifCond .ne 27, 3) := by decide +kernel
theorem d_M_settle_148 : decode b_M_settle 148 = .ok (.aload_n 0, 1) := by decide +kernel
theorem d_M_settle_149 : decode b_M_settle 149 = .ok (.getfield 42, 3) := by decide +kernel
theorem d_M_settle_152 : decode b_M_settle 152 = .ok (.aload_n 0, 1) := by decide +kernel
theorem d_M_settle_153 : decode b_M_settle 153 = .ok (.getfield 65, 3) := by decide +kernel
theorem d_M_settle_156 : decode b_M_settle 156 = .ok (.baload, 1) := by decide +kernel
theorem d_M_settle_157 : decode b_M_settle 157 = .ok (.ifCond .ne 15, 3) := by decide +kernel
theorem d_M_settle_160 : decode b_M_settle 160 = .ok (.aload_n 0, 1) := by decide +kernel
theorem d_M_settle_161 : decode b_M_settle 161 = .ok (.aload_n 0, 1) := by decide +kernel
theorem d_M_settle_162 : decode b_M_settle 162 = .ok (.getfield 65, 3) := by decide +kernel
theorem d_M_settle_165 : decode b_M_settle 165 = .ok (.iconst (-1), 1) := by decide +kernel
theorem d_M_settle_166 : decode b_M_settle 166 = .ok (.invokevirtual 93, 3) := by decide +kernel
theorem d_M_settle_169 : decode b_M_settle 169 = .ok (.goto 7, 3) := by decide +kernel
theorem d_M_settle_172 : decode b_M_settle 172 = .ok (.aload_n 0, 1) := by decide +kernel
theorem d_M_settle_173 : decode b_M_settle 173 = .ok (.getfield 65, 3) := by decide +kernel
theorem d_M_settle_176 : decode b_M_settle 176 = .ok (.putfield 65, 3) := by decide +kernel
theorem d_M_settle_179 : decode b_M_settle 179 = .ok (.return_, 1) := by decide +kernel
theorem d_M_loose_0 : decode b_M_loose 0 = .ok (.iconst 1, 1) := by decide +kernel
theorem d_M_loose_1 : decode b_M_loose 1 = .ok (.istore_n 1, 1) := by decide +kernel
theorem d_M_loose_2 : decode b_M_loose 2 = .ok (.iload_n 1, 1) := by decide +kernel
theorem d_M_loose_3 : decode b_M_loose 3 = .ok (.aload_n 0, 1) := by decide +kernel
theorem d_M_loose_4 : decode b_M_loose 4 = .ok (.getfield 51, 3) := by decide +kernel
theorem d_M_loose_7 : decode b_M_loose 7 = .ok (.if_icmp .ge 34, 3) := by decide +kernel
theorem d_M_loose_10 : decode b_M_loose 10 = .ok (.aload_n 0, 1) := by decide +kernel
theorem d_M_loose_11 : decode b_M_loose 11 = .ok (.getfield 42, 3) := by decide +kernel
theorem d_M_loose_14 : decode b_M_loose 14 = .ok (.iload_n 1, 1) := by decide +kernel
theorem d_M_loose_15 : decode b_M_loose 15 = .ok (.baload, 1) := by decide +kernel
theorem d_M_loose_16 : decode b_M_loose 16 = .ok (.ifCond .eq 19, 3) := by decide +kernel
theorem d_M_loose_19 : decode b_M_loose 19 = .ok (.aload_n 0, 1) := by decide +kernel
theorem d_M_loose_20 : decode b_M_loose 20 = .ok (.getfield 42, 3) := by decide +kernel
theorem d_M_loose_23 : decode b_M_loose 23 = .ok (.aload_n 0, 1) := by decide +kernel
theorem d_M_loose_24 : decode b_M_loose 24 = .ok (.getfield 13, 3) := by decide +kernel
theorem d_M_loose_27 : decode b_M_loose 27 = .ok (.iload_n 1, 1) := by decide +kernel
theorem d_M_loose_28 : decode b_M_loose 28 = .ok (.iaload, 1) := by decide +kernel
theorem d_M_loose_29 : decode b_M_loose 29 = .ok (.baload, 1) := by decide +kernel
theorem d_M_loose_30 : decode b_M_loose 30 = .ok (.ifCond .ne 5, 3) := by decide +kernel
theorem d_M_loose_33 : decode b_M_loose 33 = .ok (.iload_n 1, 1) := by decide +kernel
theorem d_M_loose_34 : decode b_M_loose 34 = .ok (.ireturn, 1) := by decide +kernel
theorem d_M_loose_35 : decode b_M_loose 35 = .ok (.iinc 1 1, 3) := by decide +kernel
theorem d_M_loose_38 : decode b_M_loose 38 = .ok (.goto (-36), 3) := by decide +kernel
theorem d_M_loose_41 : decode b_M_loose 41 = .ok (.iconst (-1), 1) := by decide +kernel
theorem d_M_loose_42 : decode b_M_loose 42 = .ok (.ireturn, 1) := by decide +kernel
theorem d_M_place_0 : decode b_M_place 0 = .ok (.iload_n 1, 1) := by decide +kernel
theorem d_M_place_1 : decode b_M_place 1 = .ok (.istore_n 3, 1) := by decide +kernel
theorem d_M_place_2 : decode b_M_place 2 = .ok (.iconst 0, 1) := by decide +kernel
theorem d_M_place_3 : decode b_M_place 3 = .ok (.istore 4, 2) := by decide +kernel
theorem d_M_place_5 : decode b_M_place 5 = .ok (.iload 4, 2) := by decide +kernel
theorem d_M_place_7 : decode b_M_place 7 = .ok (.sipush 400, 3) := by decide +kernel
theorem d_M_place_10 : decode b_M_place 10 = .ok (.if_icmp .ge 70, 3) := by decide +kernel
theorem d_M_place_13 : decode b_M_place 13 = .ok (.aload_n 0, 1) := by decide +kernel
theorem d_M_place_14 : decode b_M_place 14 = .ok (.getfield 42, 3) := by decide +kernel
theorem d_M_place_17 : decode b_M_place 17 = .ok (.iload_n 3, 1) := by decide +kernel
theorem d_M_place_18 : decode b_M_place 18 = .ok (.baload, 1) := by decide +kernel
theorem d_M_place_19 : decode b_M_place 19 = .ok (.ifCond .eq 5, 3) := by decide +kernel
theorem d_M_place_22 : decode b_M_place 22 = .ok (.iload_n 3, 1) := by decide +kernel
theorem d_M_place_23 : decode b_M_place 23 = .ok (.ireturn, 1) := by decide +kernel
theorem d_M_place_24 : decode b_M_place 24 = .ok (.aload_n 0, 1) := by decide +kernel
theorem d_M_place_25 : decode b_M_place 25 = .ok (.iload_n 3, 1) := by decide +kernel
theorem d_M_place_26 : decode b_M_place 26 = .ok (.iload_n 2, 1) := by decide +kernel
theorem d_M_place_27 : decode b_M_place 27 = .ok (.invokevirtual 85, 3) := by decide +kernel
theorem d_M_place_30 : decode b_M_place 30 = .ok (.istore 5, 2) := by decide +kernel
theorem d_M_place_32 : decode b_M_place 32 = .ok (.aload_n 0, 1) := by decide +kernel
theorem d_M_place_33 : decode b_M_place 33 = .ok (.getfield 48, 3) := by decide +kernel
theorem d_M_place_36 : decode b_M_place 36 = .ok (.iload_n 3, 1) := by decide +kernel
theorem d_M_place_37 : decode b_M_place 37 = .ok (.iaload, 1) := by decide +kernel
theorem d_M_place_38 : decode b_M_place 38 = .ok (.ifCond .ge 11, 3) := by decide +kernel
theorem d_M_place_41 : decode b_M_place 41 = .ok (.iload 5, 2) := by decide +kernel
theorem d_M_place_43 : decode b_M_place 43 = .ok (.ifCond .lt 6, 3) := by decide +kernel
theorem d_M_place_46 : decode b_M_place 46 = .ok (.iload 5, 2) := by decide +kernel
theorem d_M_place_48 : decode b_M_place 48 = .ok (.ireturn, 1) := by decide +kernel
theorem d_M_place_49 : decode b_M_place 49 = .ok (.aload_n 0, 1) := by decide +kernel
theorem d_M_place_50 : decode b_M_place 50 = .ok (.getfield 48, 3) := by decide +kernel
theorem d_M_place_53 : decode b_M_place 53 = .ok (.iload_n 3, 1) := by decide +kernel
theorem d_M_place_54 : decode b_M_place 54 = .ok (.iaload, 1) := by decide +kernel
theorem d_M_place_55 : decode b_M_place 55 = .ok (.ifCond .lt 12, 3) := by decide +kernel
theorem d_M_place_58 : decode b_M_place 58 = .ok (.aload_n 0, 1) := by decide +kernel
theorem d_M_place_59 : decode b_M_place 59 = .ok (.getfield 48, 3) := by decide +kernel
theorem d_M_place_62 : decode b_M_place 62 = .ok (.iload_n 3, 1) := by decide +kernel
theorem d_M_place_63 : decode b_M_place 63 = .ok (.iaload, 1) := by decide +kernel
theorem d_M_place_64 : decode b_M_place 64 = .ok (.goto 9, 3) := by decide +kernel
theorem d_M_place_67 : decode b_M_place 67 = .ok (.aload_n 0, 1) := by decide +kernel
theorem d_M_place_68 : decode b_M_place 68 = .ok (.getfield 13, 3) := by decide +kernel
theorem d_M_place_71 : decode b_M_place 71 = .ok (.iload_n 3, 1) := by decide +kernel
theorem d_M_place_72 : decode b_M_place 72 = .ok (.iaload, 1) := by decide +kernel
theorem d_M_place_73 : decode b_M_place 73 = .ok (.istore_n 3, 1) := by decide +kernel
theorem d_M_place_74 : decode b_M_place 74 = .ok (.iinc 4 1, 3) := by decide +kernel
theorem d_M_place_77 : decode b_M_place 77 = .ok (.goto (-72), 3) := by decide +kernel
theorem d_M_place_80 : decode b_M_place 80 = .ok (.iconst 0, 1) := by decide +kernel
theorem d_M_place_81 : decode b_M_place 81 = .ok (.ireturn, 1) := by decide +kernel
theorem d_M_sameChange_0 : decode b_M_sameChange 0 = .ok (.iconst (-1), 1) := by decide +kernel
theorem d_M_sameChange_1 : decode b_M_sameChange 1 = .ok (.istore_n 3, 1) := by decide +kernel
theorem d_M_sameChange_2 : decode b_M_sameChange 2 = .ok (.iconst 0, 1) := by decide +kernel
theorem d_M_sameChange_3 : decode b_M_sameChange 3 = .ok (.istore 4, 2) := by decide +kernel
theorem d_M_sameChange_5 : decode b_M_sameChange 5 = .ok (.iload 4, 2) := by decide +kernel
theorem d_M_sameChange_7 : decode b_M_sameChange 7 = .ok (.aload_n 0, 1) := by decide +kernel
theorem d_M_sameChange_8 : decode b_M_sameChange 8 = .ok (.getfield 51, 3) := by decide +kernel
theorem d_M_sameChange_11 : decode b_M_sameChange 11 = .ok (.if_icmp .ge 56, 3) := by decide +kernel
theorem d_M_sameChange_14 : decode b_M_sameChange 14 = .ok (.aload_n 0, 1) := by decide +kernel
theorem d_M_sameChange_15 : decode b_M_sameChange 15 = .ok (.getfield 42, 3) := by decide +kernel
theorem d_M_sameChange_18 : decode b_M_sameChange 18 = .ok (.iload 4, 2) := by decide +kernel
theorem d_M_sameChange_20 : decode b_M_sameChange 20 = .ok (.baload, 1) := by decide +kernel
theorem d_M_sameChange_21 : decode b_M_sameChange 21 = .ok (.ifCond .eq 38, 3) := by decide +kernel
theorem d_M_sameChange_24 : decode b_M_sameChange 24 = .ok (.aload_n 0, 1) := by decide +kernel
theorem d_M_sameChange_25 : decode b_M_sameChange 25 = .ok (.getfield 7, 3) := by decide +kernel
theorem d_M_sameChange_28 : decode b_M_sameChange 28 = .ok (.iload 4, 2) := by decide +kernel
theorem d_M_sameChange_30 : decode b_M_sameChange 30 = .ok (.iaload, 1) := by decide +kernel
theorem d_M_sameChange_31 : decode b_M_sameChange 31 = .ok (.aload_n 0, 1) := by decide +kernel
theorem d_M_sameChange_32 : decode b_M_sameChange 32 = .ok (.getfield 7, 3) := by decide +kernel
theorem d_M_sameChange_35 : decode b_M_sameChange 35 = .ok (.iload_n 1, 1) := by decide +kernel
theorem d_M_sameChange_36 : decode b_M_sameChange 36 = .ok (.iaload, 1) := by decide +kernel
theorem d_M_sameChange_37 : decode b_M_sameChange 37 = .ok (.if_icmp .ne 22, 3) := by decide +kernel
theorem d_M_sameChange_40 : decode b_M_sameChange 40 = .ok (.iload_n 2, 1) := by decide +kernel
theorem d_M_sameChange_41 : decode b_M_sameChange 41 = .ok (.ifCond .lt 13, 3) := by decide +kernel
theorem d_M_sameChange_44 : decode b_M_sameChange 44 = .ok (.aload_n 0, 1) := by decide +kernel
theorem d_M_sameChange_45 : decode b_M_sameChange 45 = .ok (.iload 4, 2) := by decide +kernel
theorem d_M_sameChange_47 : decode b_M_sameChange 47 = .ok (.iload_n 2, 1) := by decide +kernel
theorem d_M_sameChange_48 : decode b_M_sameChange 48 = .ok (.invokevirtual 81, 3) := by decide +kernel
theorem d_M_sameChange_51 : decode b_M_sameChange 51 = .ok (.ifCond .ne 8, 3) := by decide +kernel
theorem d_M_sameChange_54 : decode b_M_sameChange 54 = .ok (.iload 4, 2) := by decide +kernel
theorem d_M_sameChange_56 : decode b_M_sameChange 56 = .ok (.goto 4, 3) := by decide +kernel
theorem d_M_sameChange_59 : decode b_M_sameChange 59 = .ok (.iload_n 3, 1) := by decide +kernel
theorem d_M_sameChange_60 : decode b_M_sameChange 60 = .ok (.istore_n 3, 1) := by decide +kernel
theorem d_M_sameChange_61 : decode b_M_sameChange 61 = .ok (.iinc 4 1, 3) := by decide +kernel
theorem d_M_sameChange_64 : decode b_M_sameChange 64 = .ok (.goto (-59), 3) := by decide +kernel
theorem d_M_sameChange_67 : decode b_M_sameChange 67 = .ok (.iload_n 3, 1) := by decide +kernel
theorem d_M_sameChange_68 : decode b_M_sameChange 68 = .ok (.ireturn, 1) := by decide +kernel
theorem d_M_comesOf_0 : decode b_M_comesOf 0 = .ok (.iload_n 1, 1) := by decide +kernel
theorem d_M_comesOf_1 : decode b_M_comesOf 1 = .ok (.istore_n 3, 1) := by decide +kernel
theorem d_M_comesOf_2 : decode b_M_comesOf 2 = .ok (.iload_n 3, 1) := by decide +kernel
theorem d_M_comesOf_3 : decode b_M_comesOf 3 = .ok (.iload_n 2, 1) := by decide +kernel
theorem d_M_comesOf_4 : decode b_M_comesOf 4 = .ok (.if_icmp .le 13, 3) := by decide +kernel
theorem d_M_comesOf_7 : decode b_M_comesOf 7 = .ok (.aload_n 0, 1) := by decide +kernel
theorem d_M_comesOf_8 : decode b_M_comesOf 8 = .ok (.getfield 13, 3) := by decide +kernel
theorem d_M_comesOf_11 : decode b_M_comesOf 11 = .ok (.iload_n 3, 1) := by decide +kernel
theorem d_M_comesOf_12 : decode b_M_comesOf 12 = .ok (.iaload, 1) := by decide +kernel
theorem d_M_comesOf_13 : decode b_M_comesOf 13 = .ok (.istore_n 3, 1) := by decide +kernel
theorem d_M_comesOf_14 : decode b_M_comesOf 14 = .ok (.goto (-12), 3) := by decide +kernel
theorem d_M_comesOf_17 : decode b_M_comesOf 17 = .ok (.iload_n 3, 1) := by decide +kernel
theorem d_M_comesOf_18 : decode b_M_comesOf 18 = .ok (.iload_n 2, 1) := by decide +kernel
theorem d_M_comesOf_19 : decode b_M_comesOf 19 = .ok (.if_icmp .ne 7, 3) := by decide +kernel
theorem d_M_comesOf_22 : decode b_M_comesOf 22 = .ok (.iconst 1, 1) := by decide +kernel
theorem d_M_comesOf_23 : decode b_M_comesOf 23 = .ok (.goto 4, 3) := by decide +kernel
theorem d_M_comesOf_26 : decode b_M_comesOf 26 = .ok (.iconst 0, 1) := by decide +kernel
theorem d_M_comesOf_27 : decode b_M_comesOf 27 = .ok (.ireturn, 1) := by decide +kernel
theorem d_M_mix_0 : decode b_M_mix 0 = .ok (.iconst 0, 1) := by decide +kernel
theorem d_M_mix_1 : decode b_M_mix 1 = .ok (.istore 5, 2) := by decide +kernel
theorem d_M_mix_3 : decode b_M_mix 3 = .ok (.iload 5, 2) := by decide +kernel
theorem d_M_mix_5 : decode b_M_mix 5 = .ok (.iconst 4, 1) := by decide +kernel
theorem d_M_mix_6 : decode b_M_mix 6 = .ok (.if_icmp .ge 144, 3) := by decide +kernel
theorem d_M_mix_9 : decode b_M_mix 9 = .ok (.iconst 0, 1) := by decide +kernel
theorem d_M_mix_10 : decode b_M_mix 10 = .ok (.istore 6, 2) := by decide +kernel
theorem d_M_mix_12 : decode b_M_mix 12 = .ok (.iconst 0, 1) := by decide +kernel
theorem d_M_mix_13 : decode b_M_mix 13 = .ok (.istore 7, 2) := by decide +kernel
theorem d_M_mix_15 : decode b_M_mix 15 = .ok (.iconst 0, 1) := by decide +kernel
theorem d_M_mix_16 : decode b_M_mix 16 = .ok (.istore 8, 2) := by decide +kernel
theorem d_M_mix_18 : decode b_M_mix 18 = .ok (.iload 8, 2) := by decide +kernel
theorem d_M_mix_20 : decode b_M_mix 20 = .ok (.bipush 8, 2) := by decide +kernel
theorem d_M_mix_22 : decode b_M_mix 22 = .ok (.if_icmp .ge 107, 3) := by decide +kernel
theorem d_M_mix_25 : decode b_M_mix 25 = .ok (.bipush 8, 2) := by decide +kernel
theorem d_M_mix_27 : decode b_M_mix 27 = .ok (.iload 5, 2) := by decide +kernel
theorem d_M_mix_29 : decode b_M_mix 29 = .ok (.imul, 1) := by decide +kernel
theorem d_M_mix_30 : decode b_M_mix 30 = .ok (.iload 8, 2) := by decide +kernel
theorem d_M_mix_32 : decode b_M_mix 32 = .ok (.iadd, 1) := by decide +kernel
theorem d_M_mix_33 : decode b_M_mix 33 = .ok (.istore 9, 2) := by decide +kernel
theorem d_M_mix_35 : decode b_M_mix 35 = .ok (.aload_n 0, 1) := by decide +kernel
theorem d_M_mix_36 : decode b_M_mix 36 = .ok (.getfield 16, 3) := by decide +kernel
theorem d_M_mix_39 : decode b_M_mix 39 = .ok (.bipush 32, 2) := by decide +kernel
theorem d_M_mix_41 : decode b_M_mix 41 = .ok (.iload_n 2, 1) := by decide +kernel
theorem d_M_mix_42 : decode b_M_mix 42 = .ok (.imul, 1) := by decide +kernel
theorem d_M_mix_43 : decode b_M_mix 43 = .ok (.iload 9, 2) := by decide +kernel
theorem d_M_mix_45 : decode b_M_mix 45 = .ok (.iadd, 1) := by decide +kernel
theorem d_M_mix_46 : decode b_M_mix 46 = .ok (.laload, 1) := by decide +kernel
theorem d_M_mix_47 : decode b_M_mix 47 = .ok (.aload_n 0, 1) := by decide +kernel
theorem d_M_mix_48 : decode b_M_mix 48 = .ok (.getfield 16, 3) := by decide +kernel
theorem d_M_mix_51 : decode b_M_mix 51 = .ok (.bipush 32, 2) := by decide +kernel
theorem d_M_mix_53 : decode b_M_mix 53 = .ok (.iload_n 3, 1) := by decide +kernel
theorem d_M_mix_54 : decode b_M_mix 54 = .ok (.imul, 1) := by decide +kernel
theorem d_M_mix_55 : decode b_M_mix 55 = .ok (.iload 9, 2) := by decide +kernel
theorem d_M_mix_57 : decode b_M_mix 57 = .ok (.iadd, 1) := by decide +kernel
theorem d_M_mix_58 : decode b_M_mix 58 = .ok (.laload, 1) := by decide +kernel
theorem d_M_mix_59 : decode b_M_mix 59 = .ok (.ladd, 1) := by decide +kernel
theorem d_M_mix_60 : decode b_M_mix 60 = .ok (.aload_n 0, 1) := by decide +kernel
theorem d_M_mix_61 : decode b_M_mix 61 = .ok (.getfield 16, 3) := by decide +kernel
theorem d_M_mix_64 : decode b_M_mix 64 = .ok (.bipush 32, 2) := by decide +kernel
theorem d_M_mix_66 : decode b_M_mix 66 = .ok (.iload 4, 2) := by decide +kernel
theorem d_M_mix_68 : decode b_M_mix 68 = .ok (.imul, 1) := by decide +kernel
theorem d_M_mix_69 : decode b_M_mix 69 = .ok (.iload 9, 2) := by decide +kernel
theorem d_M_mix_71 : decode b_M_mix 71 = .ok (.iadd, 1) := by decide +kernel
theorem d_M_mix_72 : decode b_M_mix 72 = .ok (.laload, 1) := by decide +kernel
theorem d_M_mix_73 : decode b_M_mix 73 = .ok (.lsub, 1) := by decide +kernel
theorem d_M_mix_74 : decode b_M_mix 74 = .ok (.lstore 10, 2) := by decide +kernel
theorem d_M_mix_76 : decode b_M_mix 76 = .ok (.aload_n 0, 1) := by decide +kernel
theorem d_M_mix_77 : decode b_M_mix 77 = .ok (.getfield 16, 3) := by decide +kernel
theorem d_M_mix_80 : decode b_M_mix 80 = .ok (.bipush 32, 2) := by decide +kernel
theorem d_M_mix_82 : decode b_M_mix 82 = .ok (.iload_n 1, 1) := by decide +kernel
theorem d_M_mix_83 : decode b_M_mix 83 = .ok (.imul, 1) := by decide +kernel
theorem d_M_mix_84 : decode b_M_mix 84 = .ok (.iload 9, 2) := by decide +kernel
theorem d_M_mix_86 : decode b_M_mix 86 = .ok (.iadd, 1) := by decide +kernel
theorem d_M_mix_87 : decode b_M_mix 87 = .ok (.lload 10, 2) := by decide +kernel
theorem d_M_mix_89 : decode b_M_mix 89 = .ok (.lastore, 1) := by decide +kernel
theorem d_M_mix_90 : decode b_M_mix 90 = .ok (.iload 6, 2) := by decide +kernel
theorem d_M_mix_92 : decode b_M_mix 92 = .ok (.lload 10, 2) := by decide +kernel
theorem d_M_mix_94 : decode b_M_mix 94 = .ok (.lconst 0, 1) := by decide +kernel
theorem d_M_mix_95 : decode b_M_mix 95 = .ok (.lcmp, 1) := by decide +kernel
theorem d_M_mix_96 : decode b_M_mix 96 = .ok (.ifCond .eq 7, 3) := by decide +kernel
theorem d_M_mix_99 : decode b_M_mix 99 = .ok (.iconst 1, 1) := by decide +kernel
theorem d_M_mix_100 : decode b_M_mix 100 = .ok (.goto 4, 3) := by decide +kernel
theorem d_M_mix_103 : decode b_M_mix 103 = .ok (.iconst 0, 1) := by decide +kernel
theorem d_M_mix_104 : decode b_M_mix 104 = .ok (.iadd, 1) := by decide +kernel
theorem d_M_mix_105 : decode b_M_mix 105 = .ok (.istore 6, 2) := by decide +kernel
theorem d_M_mix_107 : decode b_M_mix 107 = .ok (.lload 10, 2) := by decide +kernel
theorem d_M_mix_109 : decode b_M_mix 109 = .ok (.lconst 0, 1) := by decide +kernel
theorem d_M_mix_110 : decode b_M_mix 110 = .ok (.lcmp, 1) := by decide +kernel
theorem d_M_mix_111 : decode b_M_mix 111 = .ok (.ifCond .le 8, 3) := by decide +kernel
theorem d_M_mix_114 : decode b_M_mix 114 = .ok (.iload 8, 2) := by decide +kernel
theorem d_M_mix_116 : decode b_M_mix 116 = .ok (.goto 5, 3) := by decide +kernel
theorem d_M_mix_119 : decode b_M_mix 119 = .ok (.iload 7, 2) := by decide +kernel
theorem d_M_mix_121 : decode b_M_mix 121 = .ok (.istore 7, 2) := by decide +kernel
theorem d_M_mix_123 : decode b_M_mix 123 = .ok (.iinc 8 1, 3) := by decide +kernel
theorem d_M_mix_126 : decode b_M_mix 126 = .ok (.goto (-108), 3) := by decide +kernel
theorem d_M_mix_129 : decode b_M_mix 129 = .ok (.iload 6, 2) := by decide +kernel
theorem d_M_mix_131 : decode b_M_mix 131 = .ok (.iconst 2, 1) := by decide +kernel
theorem d_M_mix_132 : decode b_M_mix 132 = .ok (.if_icmp .ne 12, 3) := by decide +kernel
theorem d_M_mix_135 : decode b_M_mix 135 = .ok (.aload_n 0, 1) := by decide +kernel
theorem d_M_mix_136 : decode b_M_mix 136 = .ok (.iload_n 1, 1) := by decide +kernel
theorem d_M_mix_137 : decode b_M_mix 137 = .ok (.iload 5, 2) := by decide +kernel
theorem d_M_mix_139 : decode b_M_mix 139 = .ok (.iload 7, 2) := by decide +kernel
theorem d_M_mix_141 : decode b_M_mix 141 = .ok (.invokevirtual 61, 3) := by decide +kernel
theorem d_M_mix_144 : decode b_M_mix 144 = .ok (.iinc 5 1, 3) := by decide +kernel
theorem d_M_mix_147 : decode b_M_mix 147 = .ok (.goto (-144), 3) := by decide +kernel
theorem d_M_mix_150 : decode b_M_mix 150 = .ok (.return_, 1) := by decide +kernel
theorem d_M_rebase_0 : decode b_M_rebase 0 = .ok (.iload_n 1, 1) := by decide +kernel
theorem d_M_rebase_1 : decode b_M_rebase 1 = .ok (.ifCond .eq 36, 3) := by decide +kernel
theorem d_M_rebase_4 : decode b_M_rebase 4 = .ok (.aload_n 0, 1) := by decide +kernel
theorem d_M_rebase_5 : decode b_M_rebase 5 = .ok (.aload_n 0, 1) := by decide +kernel
theorem d_M_rebase_6 : decode b_M_rebase 6 = .ok (.invokevirtual 107, 3) := by decide +kernel
theorem d_M_rebase_9 : decode b_M_rebase 9 = .ok (.iload_n 1, 1) := by decide +kernel
theorem d_M_rebase_10 : decode b_M_rebase 10 = .ok (.invokevirtual 113, 3) := by decide +kernel
theorem d_M_rebase_13 : decode b_M_rebase 13 = .ok (.ifCond .eq 24, 3) := by decide +kernel
theorem d_M_rebase_16 : decode b_M_rebase 16 = .ok (.aload_n 0, 1) := by decide +kernel
theorem d_M_rebase_17 : decode b_M_rebase 17 = .ok (.aload_n 0, 1) := by decide +kernel
theorem d_M_rebase_18 : decode b_M_rebase 18 = .ok (.invokevirtual 107, 3) := by decide +kernel
theorem d_M_rebase_21 : decode b_M_rebase 21 = .ok (.iload_n 2, 1) := by decide +kernel
theorem d_M_rebase_22 : decode b_M_rebase 22 = .ok (.invokevirtual 113, 3) := by decide +kernel
theorem d_M_rebase_25 : decode b_M_rebase 25 = .ok (.ifCond .eq 12, 3) := by decide +kernel
theorem d_M_rebase_28 : decode b_M_rebase 28 = .ok (.aload_n 0, 1) := by decide +kernel
theorem d_M_rebase_29 : decode b_M_rebase 29 = .ok (.iload_n 2, 1) := by decide +kernel
theorem d_M_rebase_30 : decode b_M_rebase 30 = .ok (.iload_n 1, 1) := by decide +kernel
theorem d_M_rebase_31 : decode b_M_rebase 31 = .ok (.invokevirtual 81, 3) := by decide +kernel
theorem d_M_rebase_34 : decode b_M_rebase 34 = .ok (.ifCond .eq 5, 3) := by decide +kernel
theorem d_M_rebase_37 : decode b_M_rebase 37 = .ok (.iconst (-1), 1) := by decide +kernel
theorem d_M_rebase_38 : decode b_M_rebase 38 = .ok (.ireturn, 1) := by decide +kernel
theorem d_M_rebase_39 : decode b_M_rebase 39 = .ok (.aload_n 0, 1) := by decide +kernel
theorem d_M_rebase_40 : decode b_M_rebase 40 = .ok (.getfield 13, 3) := by decide +kernel
theorem d_M_rebase_43 : decode b_M_rebase 43 = .ok (.iload_n 1, 1) := by decide +kernel
theorem d_M_rebase_44 : decode b_M_rebase 44 = .ok (.iaload, 1) := by decide +kernel
theorem d_M_rebase_45 : decode b_M_rebase 45 = .ok (.iload_n 2, 1) := by decide +kernel
theorem d_M_rebase_46 : decode b_M_rebase 46 = .ok (.if_icmp .ne 6, 3) := by decide +kernel
theorem d_M_rebase_49 : decode b_M_rebase 49 = .ok (.bipush (-2), 2) := by decide +kernel
theorem d_M_rebase_51 : decode b_M_rebase 51 = .ok (.ireturn, 1) := by decide +kernel
theorem d_M_rebase_52 : decode b_M_rebase 52 = .ok (.aload_n 0, 1) := by decide +kernel
theorem d_M_rebase_53 : decode b_M_rebase 53 = .ok (.aload_n 0, 1) := by decide +kernel
theorem d_M_rebase_54 : decode b_M_rebase 54 = .ok (.invokevirtual 107, 3) := by decide +kernel
theorem d_M_rebase_57 : decode b_M_rebase 57 = .ok (.invokevirtual 116, 3) := by decide +kernel
theorem d_M_rebase_60 : decode b_M_rebase 60 = .ok (.aload_n 0, 1) := by decide +kernel
theorem d_M_rebase_61 : decode b_M_rebase 61 = .ok (.aload_n 0, 1) := by decide +kernel
theorem d_M_rebase_62 : decode b_M_rebase 62 = .ok (.getfield 7, 3) := by decide +kernel
theorem d_M_rebase_65 : decode b_M_rebase 65 = .ok (.iload_n 1, 1) := by decide +kernel
theorem d_M_rebase_66 : decode b_M_rebase 66 = .ok (.iaload, 1) := by decide +kernel
theorem d_M_rebase_67 : decode b_M_rebase 67 = .ok (.iload_n 2, 1) := by decide +kernel
theorem d_M_rebase_68 : decode b_M_rebase 68 = .ok (.invokevirtual 96, 3) := by decide +kernel
theorem d_M_rebase_71 : decode b_M_rebase 71 = .ok (.istore_n 3, 1) := by decide +kernel
theorem d_M_rebase_72 : decode b_M_rebase 72 = .ok (.iload_n 3, 1) := by decide +kernel
theorem d_M_rebase_73 : decode b_M_rebase 73 = .ok (.ifCond .lt 26, 3) := by decide +kernel
theorem d_M_rebase_76 : decode b_M_rebase 76 = .ok (.aload_n 0, 1) := by decide +kernel
theorem d_M_rebase_77 : decode b_M_rebase 77 = .ok (.iload_n 3, 1) := by decide +kernel
theorem d_M_rebase_78 : decode b_M_rebase 78 = .ok (.iload_n 1, 1) := by decide +kernel
theorem d_M_rebase_79 : decode b_M_rebase 79 = .ok (.iload_n 2, 1) := by decide +kernel
theorem d_M_rebase_80 : decode b_M_rebase 80 = .ok (.aload_n 0, 1) := by decide +kernel
theorem d_M_rebase_81 : decode b_M_rebase 81 = .ok (.getfield 13, 3) := by decide +kernel
theorem d_M_rebase_84 : decode b_M_rebase 84 = .ok (.iload_n 1, 1) := by decide +kernel
theorem d_M_rebase_85 : decode b_M_rebase 85 = .ok (.iaload, 1) := by decide +kernel
theorem d_M_rebase_86 : decode b_M_rebase 86 = .ok (.invokevirtual 99, 3) := by decide +kernel
theorem d_M_rebase_89 : decode b_M_rebase 89 = .ok (.aload_n 0, 1) := by decide +kernel
theorem d_M_rebase_90 : decode b_M_rebase 90 = .ok (.iload_n 1, 1) := by decide +kernel
theorem d_M_rebase_91 : decode b_M_rebase 91 = .ok (.iload_n 3, 1) := by decide +kernel
theorem d_M_rebase_92 : decode b_M_rebase 92 = .ok (.invokevirtual 103, 3) := by decide +kernel
theorem d_M_rebase_95 : decode b_M_rebase 95 = .ok (.aload_n 0, 1) := by decide +kernel
theorem d_M_rebase_96 : decode b_M_rebase 96 = .ok (.invokevirtual 130, 3) := by decide +kernel
theorem d_M_rebase_99 : decode b_M_rebase 99 = .ok (.aload_n 0, 1) := by decide +kernel
theorem d_M_rebase_100 : decode b_M_rebase 100 = .ok (.invokevirtual 123, 3) := by decide +kernel
theorem d_M_rebase_103 : decode b_M_rebase 103 = .ok (.ireturn, 1) := by decide +kernel
theorem d_M_abandon_0 : decode b_M_abandon 0 = .ok (.iload_n 1, 1) := by decide +kernel
theorem d_M_abandon_1 : decode b_M_abandon 1 = .ok (.ifCond .eq 15, 3) := by decide +kernel
theorem d_M_abandon_4 : decode b_M_abandon 4 = .ok (.aload_n 0, 1) := by decide +kernel
theorem d_M_abandon_5 : decode b_M_abandon 5 = .ok (.aload_n 0, 1) := by decide +kernel
theorem d_M_abandon_6 : decode b_M_abandon 6 = .ok (.invokevirtual 107, 3) := by decide +kernel
theorem d_M_abandon_9 : decode b_M_abandon 9 = .ok (.iload_n 1, 1) := by decide +kernel
theorem d_M_abandon_10 : decode b_M_abandon 10 = .ok (.invokevirtual 113, 3) := by decide +kernel
theorem d_M_abandon_13 : decode b_M_abandon 13 = .ok (.ifCond .ne 5, 3) := by decide +kernel
theorem d_M_abandon_16 : decode b_M_abandon 16 = .ok (.iconst (-1), 1) := by decide +kernel
theorem d_M_abandon_17 : decode b_M_abandon 17 = .ok (.ireturn, 1) := by decide +kernel
theorem d_M_abandon_18 : decode b_M_abandon 18 = .ok (.aload_n 0, 1) := by decide +kernel
theorem d_M_abandon_19 : decode b_M_abandon 19 = .ok (.aload_n 0, 1) := by decide +kernel
theorem d_M_abandon_20 : decode b_M_abandon 20 = .ok (.invokevirtual 107, 3) := by decide +kernel
theorem d_M_abandon_23 : decode b_M_abandon 23 = .ok (.invokevirtual 116, 3) := by decide +kernel
theorem d_M_abandon_26 : decode b_M_abandon 26 = .ok (.aload_n 0, 1) := by decide +kernel
theorem d_M_abandon_27 : decode b_M_abandon 27 = .ok (.iload_n 1, 1) := by decide +kernel
theorem d_M_abandon_28 : decode b_M_abandon 28 = .ok (.aload_n 0, 1) := by decide +kernel
theorem d_M_abandon_29 : decode b_M_abandon 29 = .ok (.getfield 13, 3) := by decide +kernel
theorem d_M_abandon_32 : decode b_M_abandon 32 = .ok (.iload_n 1, 1) := by decide +kernel
theorem d_M_abandon_33 : decode b_M_abandon 33 = .ok (.iaload, 1) := by decide +kernel
theorem d_M_abandon_34 : decode b_M_abandon 34 = .ok (.invokevirtual 103, 3) := by decide +kernel
theorem d_M_abandon_37 : decode b_M_abandon 37 = .ok (.aload_n 0, 1) := by decide +kernel
theorem d_M_abandon_38 : decode b_M_abandon 38 = .ok (.invokevirtual 130, 3) := by decide +kernel
theorem d_M_abandon_41 : decode b_M_abandon 41 = .ok (.aload_n 0, 1) := by decide +kernel
theorem d_M_abandon_42 : decode b_M_abandon 42 = .ok (.invokevirtual 123, 3) := by decide +kernel
theorem d_M_abandon_45 : decode b_M_abandon 45 = .ok (.ireturn, 1) := by decide +kernel
theorem d_M_squash_0 : decode b_M_squash 0 = .ok (.iload_n 1, 1) := by decide +kernel
theorem d_M_squash_1 : decode b_M_squash 1 = .ok (.ifCond .eq 24, 3) := by decide +kernel
theorem d_M_squash_4 : decode b_M_squash 4 = .ok (.aload_n 0, 1) := by decide +kernel
theorem d_M_squash_5 : decode b_M_squash 5 = .ok (.aload_n 0, 1) := by decide +kernel
theorem d_M_squash_6 : decode b_M_squash 6 = .ok (.invokevirtual 107, 3) := by decide +kernel
theorem d_M_squash_9 : decode b_M_squash 9 = .ok (.iload_n 1, 1) := by decide +kernel
theorem d_M_squash_10 : decode b_M_squash 10 = .ok (.invokevirtual 113, 3) := by decide +kernel
theorem d_M_squash_13 : decode b_M_squash 13 = .ok (.ifCond .eq 12, 3) := by decide +kernel
theorem d_M_squash_16 : decode b_M_squash 16 = .ok (.aload_n 0, 1) := by decide +kernel
theorem d_M_squash_17 : decode b_M_squash 17 = .ok (.getfield 13, 3) := by decide +kernel
theorem d_M_squash_20 : decode b_M_squash 20 = .ok (.iload_n 1, 1) := by decide +kernel
theorem d_M_squash_21 : decode b_M_squash 21 = .ok (.iaload, 1) := by decide +kernel
theorem d_M_squash_22 : decode b_M_squash 22 = .ok (.ifCond .ne 5, 3) := by decide +kernel
theorem d_M_squash_25 : decode b_M_squash 25 = .ok (.iconst (-1), 1) := by decide +kernel
theorem d_M_squash_26 : decode b_M_squash 26 = .ok (.ireturn, 1) := by decide +kernel
theorem d_M_squash_27 : decode b_M_squash 27 = .ok (.aload_n 0, 1) := by decide +kernel
theorem d_M_squash_28 : decode b_M_squash 28 = .ok (.getfield 13, 3) := by decide +kernel
theorem d_M_squash_31 : decode b_M_squash 31 = .ok (.iload_n 1, 1) := by decide +kernel
theorem d_M_squash_32 : decode b_M_squash 32 = .ok (.iaload, 1) := by decide +kernel
theorem d_M_squash_33 : decode b_M_squash 33 = .ok (.istore_n 2, 1) := by decide +kernel
theorem d_M_squash_34 : decode b_M_squash 34 = .ok (.aload_n 0, 1) := by decide +kernel
theorem d_M_squash_35 : decode b_M_squash 35 = .ok (.aload_n 0, 1) := by decide +kernel
theorem d_M_squash_36 : decode b_M_squash 36 = .ok (.invokevirtual 107, 3) := by decide +kernel
theorem d_M_squash_39 : decode b_M_squash 39 = .ok (.invokevirtual 116, 3) := by decide +kernel
theorem d_M_squash_42 : decode b_M_squash 42 = .ok (.aload_n 0, 1) := by decide +kernel
theorem d_M_squash_43 : decode b_M_squash 43 = .ok (.aload_n 0, 1) := by decide +kernel
theorem d_M_squash_44 : decode b_M_squash 44 = .ok (.getfield 7, 3) := by decide +kernel
theorem d_M_squash_47 : decode b_M_squash 47 = .ok (.iload_n 2, 1) := by decide +kernel
theorem d_M_squash_48 : decode b_M_squash 48 = .ok (.iaload, 1) := by decide +kernel
theorem d_M_squash_49 : decode b_M_squash 49 = .ok (.aload_n 0, 1) := by decide +kernel
theorem d_M_squash_50 : decode b_M_squash 50 = .ok (.getfield 13, 3) := by decide +kernel
theorem d_M_squash_53 : decode b_M_squash 53 = .ok (.iload_n 2, 1) := by decide +kernel
theorem d_M_squash_54 : decode b_M_squash 54 = .ok (.iaload, 1) := by decide +kernel
theorem d_M_squash_55 : decode b_M_squash 55 = .ok (.invokevirtual 96, 3) := by decide +kernel
theorem d_M_squash_58 : decode b_M_squash 58 = .ok (.istore_n 3, 1) := by decide +kernel
theorem d_M_squash_59 : decode b_M_squash 59 = .ok (.iload_n 3, 1) := by decide +kernel
theorem d_M_squash_60 : decode b_M_squash 60 = .ok (.ifCond .lt 25, 3) := by decide +kernel
theorem d_M_squash_63 : decode b_M_squash 63 = .ok (.aload_n 0, 1) := by decide +kernel
theorem d_M_squash_64 : decode b_M_squash 64 = .ok (.iload_n 3, 1) := by decide +kernel
theorem d_M_squash_65 : decode b_M_squash 65 = .ok (.iload_n 1, 1) := by decide +kernel
theorem d_M_squash_66 : decode b_M_squash 66 = .ok (.invokevirtual 120, 3) := by decide +kernel
theorem d_M_squash_69 : decode b_M_squash 69 = .ok (.aload_n 0, 1) := by decide +kernel
theorem d_M_squash_70 : decode b_M_squash 70 = .ok (.iload_n 1, 1) := by decide +kernel
theorem d_M_squash_71 : decode b_M_squash 71 = .ok (.iload_n 3, 1) := by decide +kernel
theorem d_M_squash_72 : decode b_M_squash 72 = .ok (.invokevirtual 103, 3) := by decide +kernel
theorem d_M_squash_75 : decode b_M_squash 75 = .ok (.aload_n 0, 1) := by decide +kernel
theorem d_M_squash_76 : decode b_M_squash 76 = .ok (.iload_n 2, 1) := by decide +kernel
theorem d_M_squash_77 : decode b_M_squash 77 = .ok (.iload_n 3, 1) := by decide +kernel
theorem d_M_squash_78 : decode b_M_squash 78 = .ok (.invokevirtual 103, 3) := by decide +kernel
theorem d_M_squash_81 : decode b_M_squash 81 = .ok (.aload_n 0, 1) := by decide +kernel
theorem d_M_squash_82 : decode b_M_squash 82 = .ok (.invokevirtual 130, 3) := by decide +kernel
theorem d_M_squash_85 : decode b_M_squash 85 = .ok (.aload_n 0, 1) := by decide +kernel
theorem d_M_squash_86 : decode b_M_squash 86 = .ok (.invokevirtual 123, 3) := by decide +kernel
theorem d_M_squash_89 : decode b_M_squash 89 = .ok (.ireturn, 1) := by decide +kernel
theorem d_M_edit_0 : decode b_M_edit 0 = .ok (.aload_n 0, 1) := by decide +kernel
theorem d_M_edit_1 : decode b_M_edit 1 = .ok (.aload_n 0, 1) := by decide +kernel
theorem d_M_edit_2 : decode b_M_edit 2 = .ok (.invokevirtual 107, 3) := by decide +kernel
theorem d_M_edit_5 : decode b_M_edit 5 = .ok (.iload_n 1, 1) := by decide +kernel
theorem d_M_edit_6 : decode b_M_edit 6 = .ok (.invokevirtual 113, 3) := by decide +kernel
theorem d_M_edit_9 : decode b_M_edit 9 = .ok (.ifCond .ne 5, 3) := by decide +kernel
theorem d_M_edit_12 : decode b_M_edit 12 = .ok (.iconst (-1), 1) := by decide +kernel
theorem d_M_edit_13 : decode b_M_edit 13 = .ok (.ireturn, 1) := by decide +kernel
theorem d_M_edit_14 : decode b_M_edit 14 = .ok (.aload_n 0, 1) := by decide +kernel
theorem d_M_edit_15 : decode b_M_edit 15 = .ok (.getfield 36, 3) := by decide +kernel
theorem d_M_edit_18 : decode b_M_edit 18 = .ok (.aload_n 0, 1) := by decide +kernel
theorem d_M_edit_19 : decode b_M_edit 19 = .ok (.invokevirtual 107, 3) := by decide +kernel
theorem d_M_edit_22 : decode b_M_edit 22 = .ok (.iaload, 1) := by decide +kernel
theorem d_M_edit_23 : decode b_M_edit 23 = .ok (.iload_n 1, 1) := by decide +kernel
theorem d_M_edit_24 : decode b_M_edit 24 = .ok (.if_icmp .ne 6, 3) := by decide +kernel
theorem d_M_edit_27 : decode b_M_edit 27 = .ok (.bipush (-2), 2) := by decide +kernel
theorem d_M_edit_29 : decode b_M_edit 29 = .ok (.ireturn, 1) := by decide +kernel
theorem d_M_edit_30 : decode b_M_edit 30 = .ok (.aload_n 0, 1) := by decide +kernel
theorem d_M_edit_31 : decode b_M_edit 31 = .ok (.aload_n 0, 1) := by decide +kernel
theorem d_M_edit_32 : decode b_M_edit 32 = .ok (.invokevirtual 107, 3) := by decide +kernel
theorem d_M_edit_35 : decode b_M_edit 35 = .ok (.invokevirtual 116, 3) := by decide +kernel
theorem d_M_edit_38 : decode b_M_edit 38 = .ok (.aload_n 0, 1) := by decide +kernel
theorem d_M_edit_39 : decode b_M_edit 39 = .ok (.iload_n 1, 1) := by decide +kernel
theorem d_M_edit_40 : decode b_M_edit 40 = .ok (.putfield 65, 3) := by decide +kernel
theorem d_M_edit_43 : decode b_M_edit 43 = .ok (.aload_n 0, 1) := by decide +kernel
theorem d_M_edit_44 : decode b_M_edit 44 = .ok (.invokevirtual 123, 3) := by decide +kernel
theorem d_M_edit_47 : decode b_M_edit 47 = .ok (.ireturn, 1) := by decide +kernel
theorem d_M_mark_0 : decode b_M_mark 0 = .ok (.iload_n 1, 1) := by decide +kernel
theorem d_M_mark_1 : decode b_M_mark 1 = .ok (.ifCond .lt 25, 3) := by decide +kernel
theorem d_M_mark_4 : decode b_M_mark 4 = .ok (.iload_n 1, 1) := by decide +kernel
theorem d_M_mark_5 : decode b_M_mark 5 = .ok (.iconst 2, 1) := by decide +kernel
theorem d_M_mark_6 : decode b_M_mark 6 = .ok (.if_icmp .gt 20, 3) := by decide +kernel
theorem d_M_mark_9 : decode b_M_mark 9 = .ok (.iload_n 2, 1) := by decide +kernel
theorem d_M_mark_10 : decode b_M_mark 10 = .ok (.iconst (-1), 1) := by decide +kernel
theorem d_M_mark_11 : decode b_M_mark 11 = .ok (.if_icmp .eq 17, 3) := by decide +kernel
theorem d_M_mark_14 : decode b_M_mark 14 = .ok (.aload_n 0, 1) := by decide +kernel
theorem d_M_mark_15 : decode b_M_mark 15 = .ok (.aload_n 0, 1) := by decide +kernel
theorem d_M_mark_16 : decode b_M_mark 16 = .ok (.invokevirtual 107, 3) := by decide +kernel
theorem d_M_mark_19 : decode b_M_mark 19 = .ok (.iload_n 2, 1) := by decide +kernel
theorem d_M_mark_20 : decode b_M_mark 20 = .ok (.invokevirtual 113, 3) := by decide +kernel
theorem d_M_mark_23 : decode b_M_mark 23 = .ok (.ifCond .ne 5, 3) := by decide +kernel
theorem d_M_mark_26 : decode b_M_mark 26 = .ok (.iconst (-1), 1) := by decide +kernel
theorem d_M_mark_27 : decode b_M_mark 27 = .ok (.ireturn, 1) := by decide +kernel
theorem d_M_mark_28 : decode b_M_mark 28 = .ok (.aload_n 0, 1) := by decide +kernel
theorem d_M_mark_29 : decode b_M_mark 29 = .ok (.getfield 33, 3) := by decide +kernel
theorem d_M_mark_32 : decode b_M_mark 32 = .ok (.iconst 3, 1) := by decide +kernel
theorem d_M_mark_33 : decode b_M_mark 33 = .ok (.aload_n 0, 1) := by decide +kernel
theorem d_M_mark_34 : decode b_M_mark 34 = .ok (.invokevirtual 107, 3) := by decide +kernel
theorem d_M_mark_37 : decode b_M_mark 37 = .ok (.imul, 1) := by decide +kernel
end
section
theorem d_M_mark_38 : decode b_M_mark 38 = .ok (.iload_n 1, 1) := by decide +kernel
theorem d_M_mark_39 : decode b_M_mark 39 = .ok (.iadd, 1) := by decide +kernel
theorem d_M_mark_40 : decode b_M_mark 40 = .ok (.iaload, 1) := by decide +kernel
theorem d_M_mark_41 : decode b_M_mark 41 = .ok (.iload_n 2, 1) := by decide +kernel
theorem d_M_mark_42 : decode b_M_mark 42 = .ok (.if_icmp .ne 6, 3) := by decide +kernel
theorem d_M_mark_45 : decode b_M_mark 45 = .ok (.bipush (-2), 2) := by decide +kernel
theorem d_M_mark_47 : decode b_M_mark 47 = .ok (.ireturn, 1) := by decide +kernel
theorem d_M_mark_48 : decode b_M_mark 48 = .ok (.aload_n 0, 1) := by decide +kernel
theorem d_M_mark_49 : decode b_M_mark 49 = .ok (.aload_n 0, 1) := by decide +kernel
theorem d_M_mark_50 : decode b_M_mark 50 = .ok (.invokevirtual 107, 3) := by decide +kernel
theorem d_M_mark_53 : decode b_M_mark 53 = .ok (.invokevirtual 116, 3) := by decide +kernel
theorem d_M_mark_56 : decode b_M_mark 56 = .ok (.aload_n 0, 1) := by decide +kernel
theorem d_M_mark_57 : decode b_M_mark 57 = .ok (.getfield 45, 3) := by decide +kernel
theorem d_M_mark_60 : decode b_M_mark 60 = .ok (.iload_n 1, 1) := by decide +kernel
theorem d_M_mark_61 : decode b_M_mark 61 = .ok (.iload_n 2, 1) := by decide +kernel
theorem d_M_mark_62 : decode b_M_mark 62 = .ok (.iastore, 1) := by decide +kernel
theorem d_M_mark_63 : decode b_M_mark 63 = .ok (.aload_n 0, 1) := by decide +kernel
theorem d_M_mark_64 : decode b_M_mark 64 = .ok (.invokevirtual 123, 3) := by decide +kernel
theorem d_M_mark_67 : decode b_M_mark 67 = .ok (.ireturn, 1) := by decide +kernel
theorem d_M_undo_0 : decode b_M_undo 0 = .ok (.aload_n 0, 1) := by decide +kernel
theorem d_M_undo_1 : decode b_M_undo 1 = .ok (.invokevirtual 107, 3) := by decide +kernel
theorem d_M_undo_4 : decode b_M_undo 4 = .ok (.istore_n 1, 1) := by decide +kernel
theorem d_M_undo_5 : decode b_M_undo 5 = .ok (.iload_n 1, 1) := by decide +kernel
theorem d_M_undo_6 : decode b_M_undo 6 = .ok (.ifCond .eq 12, 3) := by decide +kernel
theorem d_M_undo_9 : decode b_M_undo 9 = .ok (.aload_n 0, 1) := by decide +kernel
theorem d_M_undo_10 : decode b_M_undo 10 = .ok (.getfield 26, 3) := by decide +kernel
theorem d_M_undo_13 : decode b_M_undo 13 = .ok (.iload_n 1, 1) := by decide +kernel
theorem d_M_undo_14 : decode b_M_undo 14 = .ok (.baload, 1) := by decide +kernel
theorem d_M_undo_15 : decode b_M_undo 15 = .ok (.ifCond .eq 5, 3) := by decide +kernel
theorem d_M_undo_18 : decode b_M_undo 18 = .ok (.iconst (-1), 1) := by decide +kernel
theorem d_M_undo_19 : decode b_M_undo 19 = .ok (.ireturn, 1) := by decide +kernel
theorem d_M_undo_20 : decode b_M_undo 20 = .ok (.aload_n 0, 1) := by decide +kernel
theorem d_M_undo_21 : decode b_M_undo 21 = .ok (.aload_n 0, 1) := by decide +kernel
theorem d_M_undo_22 : decode b_M_undo 22 = .ok (.getfield 20, 3) := by decide +kernel
theorem d_M_undo_25 : decode b_M_undo 25 = .ok (.iload_n 1, 1) := by decide +kernel
theorem d_M_undo_26 : decode b_M_undo 26 = .ok (.iaload, 1) := by decide +kernel
theorem d_M_undo_27 : decode b_M_undo 27 = .ok (.invokevirtual 116, 3) := by decide +kernel
theorem d_M_undo_30 : decode b_M_undo 30 = .ok (.aload_n 0, 1) := by decide +kernel
theorem d_M_undo_31 : decode b_M_undo 31 = .ok (.invokevirtual 123, 3) := by decide +kernel
theorem d_M_undo_34 : decode b_M_undo 34 = .ok (.ireturn, 1) := by decide +kernel
theorem d_M_restore_0 : decode b_M_restore 0 = .ok (.iload_n 1, 1) := by decide +kernel
theorem d_M_restore_1 : decode b_M_restore 1 = .ok (.ifCond .lt 11, 3) := by decide +kernel
theorem d_M_restore_4 : decode b_M_restore 4 = .ok (.iload_n 1, 1) := by decide +kernel
theorem d_M_restore_5 : decode b_M_restore 5 = .ok (.aload_n 0, 1) := by decide +kernel
theorem d_M_restore_6 : decode b_M_restore 6 = .ok (.getfield 55, 3) := by decide +kernel
theorem d_M_restore_9 : decode b_M_restore 9 = .ok (.if_icmp .lt 5, 3) := by decide +kernel
theorem d_M_restore_12 : decode b_M_restore 12 = .ok (.iconst (-1), 1) := by decide +kernel
theorem d_M_restore_13 : decode b_M_restore 13 = .ok (.ireturn, 1) := by decide +kernel
theorem d_M_restore_14 : decode b_M_restore 14 = .ok (.aload_n 0, 1) := by decide +kernel
theorem d_M_restore_15 : decode b_M_restore 15 = .ok (.iload_n 1, 1) := by decide +kernel
theorem d_M_restore_16 : decode b_M_restore 16 = .ok (.invokevirtual 116, 3) := by decide +kernel
theorem d_M_restore_19 : decode b_M_restore 19 = .ok (.aload_n 0, 1) := by decide +kernel
theorem d_M_restore_20 : decode b_M_restore 20 = .ok (.invokevirtual 123, 3) := by decide +kernel
theorem d_M_restore_23 : decode b_M_restore 23 = .ok (.ireturn, 1) := by decide +kernel
theorem d_M_fork_0 : decode b_M_fork 0 = .ok (.aload_n 0, 1) := by decide +kernel
theorem d_M_fork_1 : decode b_M_fork 1 = .ok (.getfield 133, 3) := by decide +kernel
theorem d_M_fork_4 : decode b_M_fork 4 = .ok (.ifCond .ne 15, 3) := by decide +kernel
theorem d_M_fork_7 : decode b_M_fork 7 = .ok (.iload_n 1, 1) := by decide +kernel
theorem d_M_fork_8 : decode b_M_fork 8 = .ok (.ifCond .lt 11, 3) := by decide +kernel
theorem d_M_fork_11 : decode b_M_fork 11 = .ok (.iload_n 1, 1) := by decide +kernel
theorem d_M_fork_12 : decode b_M_fork 12 = .ok (.aload_n 0, 1) := by decide +kernel
theorem d_M_fork_13 : decode b_M_fork 13 = .ok (.getfield 55, 3) := by decide +kernel
theorem d_M_fork_16 : decode b_M_fork 16 = .ok (.if_icmp .lt 5, 3) := by decide +kernel
theorem d_M_fork_19 : decode b_M_fork 19 = .ok (.iconst 0, 1) := by decide +kernel
theorem d_M_fork_20 : decode b_M_fork 20 = .ok (.ireturn, 1) := by decide +kernel
theorem d_M_fork_21 : decode b_M_fork 21 = .ok (.aload_n 0, 1) := by decide +kernel
theorem d_M_fork_22 : decode b_M_fork 22 = .ok (.iconst 1, 1) := by decide +kernel
theorem d_M_fork_23 : decode b_M_fork 23 = .ok (.putfield 133, 3) := by decide +kernel
theorem d_M_fork_26 : decode b_M_fork 26 = .ok (.aload_n 0, 1) := by decide +kernel
theorem d_M_fork_27 : decode b_M_fork 27 = .ok (.iload_n 1, 1) := by decide +kernel
theorem d_M_fork_28 : decode b_M_fork 28 = .ok (.putfield 136, 3) := by decide +kernel
theorem d_M_fork_31 : decode b_M_fork 31 = .ok (.aload_n 0, 1) := by decide +kernel
theorem d_M_fork_32 : decode b_M_fork 32 = .ok (.getfield 39, 3) := by decide +kernel
theorem d_M_fork_35 : decode b_M_fork 35 = .ok (.iconst 1, 1) := by decide +kernel
theorem d_M_fork_36 : decode b_M_fork 36 = .ok (.iload_n 1, 1) := by decide +kernel
theorem d_M_fork_37 : decode b_M_fork 37 = .ok (.iastore, 1) := by decide +kernel
theorem d_M_fork_38 : decode b_M_fork 38 = .ok (.aload_n 0, 1) := by decide +kernel
theorem d_M_fork_39 : decode b_M_fork 39 = .ok (.iconst 1, 1) := by decide +kernel
theorem d_M_fork_40 : decode b_M_fork 40 = .ok (.putfield 58, 3) := by decide +kernel
theorem d_M_fork_43 : decode b_M_fork 43 = .ok (.iconst 1, 1) := by decide +kernel
theorem d_M_fork_44 : decode b_M_fork 44 = .ok (.ireturn, 1) := by decide +kernel
theorem d_M_choose_0 : decode b_M_choose 0 = .ok (.iload_n 1, 1) := by decide +kernel
theorem d_M_choose_1 : decode b_M_choose 1 = .ok (.ifCond .eq 17, 3) := by decide +kernel
theorem d_M_choose_4 : decode b_M_choose 4 = .ok (.iload_n 1, 1) := by decide +kernel
theorem d_M_choose_5 : decode b_M_choose 5 = .ok (.iconst 1, 1) := by decide +kernel
theorem d_M_choose_6 : decode b_M_choose 6 = .ok (.if_icmp .ne 10, 3) := by decide +kernel
theorem d_M_choose_9 : decode b_M_choose 9 = .ok (.aload_n 0, 1) := by decide +kernel
theorem d_M_choose_10 : decode b_M_choose 10 = .ok (.getfield 133, 3) := by decide +kernel
theorem d_M_choose_13 : decode b_M_choose 13 = .ok (.ifCond .ne 5, 3) := by decide +kernel
theorem d_M_choose_16 : decode b_M_choose 16 = .ok (.iconst 0, 1) := by decide +kernel
theorem d_M_choose_17 : decode b_M_choose 17 = .ok (.ireturn, 1) := by decide +kernel
theorem d_M_choose_18 : decode b_M_choose 18 = .ok (.aload_n 0, 1) := by decide +kernel
theorem d_M_choose_19 : decode b_M_choose 19 = .ok (.iload_n 1, 1) := by decide +kernel
theorem d_M_choose_20 : decode b_M_choose 20 = .ok (.putfield 58, 3) := by decide +kernel
theorem d_M_choose_23 : decode b_M_choose 23 = .ok (.iconst 1, 1) := by decide +kernel
theorem d_M_choose_24 : decode b_M_choose 24 = .ok (.ireturn, 1) := by decide +kernel
theorem d_M_join_0 : decode b_M_join 0 = .ok (.aload_n 0, 1) := by decide +kernel
theorem d_M_join_1 : decode b_M_join 1 = .ok (.getfield 133, 3) := by decide +kernel
theorem d_M_join_4 : decode b_M_join 4 = .ok (.ifCond .ne 5, 3) := by decide +kernel
theorem d_M_join_7 : decode b_M_join 7 = .ok (.iconst (-1), 1) := by decide +kernel
theorem d_M_join_8 : decode b_M_join 8 = .ok (.ireturn, 1) := by decide +kernel
theorem d_M_join_9 : decode b_M_join 9 = .ok (.aload_n 0, 1) := by decide +kernel
theorem d_M_join_10 : decode b_M_join 10 = .ok (.getfield 39, 3) := by decide +kernel
theorem d_M_join_13 : decode b_M_join 13 = .ok (.iconst 0, 1) := by decide +kernel
theorem d_M_join_14 : decode b_M_join 14 = .ok (.iaload, 1) := by decide +kernel
theorem d_M_join_15 : decode b_M_join 15 = .ok (.istore_n 1, 1) := by decide +kernel
theorem d_M_join_16 : decode b_M_join 16 = .ok (.aload_n 0, 1) := by decide +kernel
theorem d_M_join_17 : decode b_M_join 17 = .ok (.getfield 39, 3) := by decide +kernel
theorem d_M_join_20 : decode b_M_join 20 = .ok (.iconst 1, 1) := by decide +kernel
theorem d_M_join_21 : decode b_M_join 21 = .ok (.iaload, 1) := by decide +kernel
theorem d_M_join_22 : decode b_M_join 22 = .ok (.istore_n 2, 1) := by decide +kernel
theorem d_M_join_23 : decode b_M_join 23 = .ok (.aload_n 0, 1) := by decide +kernel
theorem d_M_join_24 : decode b_M_join 24 = .ok (.iload_n 1, 1) := by decide +kernel
theorem d_M_join_25 : decode b_M_join 25 = .ok (.invokevirtual 116, 3) := by decide +kernel
theorem d_M_join_28 : decode b_M_join 28 = .ok (.iconst 0, 1) := by decide +kernel
theorem d_M_join_29 : decode b_M_join 29 = .ok (.istore_n 3, 1) := by decide +kernel
theorem d_M_join_30 : decode b_M_join 30 = .ok (.iload_n 3, 1) := by decide +kernel
theorem d_M_join_31 : decode b_M_join 31 = .ok (.bipush 60, 2) := by decide +kernel
theorem d_M_join_33 : decode b_M_join 33 = .ok (.if_icmp .ge 87, 3) := by decide +kernel
theorem d_M_join_36 : decode b_M_join 36 = .ok (.aload_n 0, 1) := by decide +kernel
theorem d_M_join_37 : decode b_M_join 37 = .ok (.getfield 30, 3) := by decide +kernel
theorem d_M_join_40 : decode b_M_join 40 = .ok (.bipush 60, 2) := by decide +kernel
theorem d_M_join_42 : decode b_M_join 42 = .ok (.aload_n 0, 1) := by decide +kernel
theorem d_M_join_43 : decode b_M_join 43 = .ok (.getfield 136, 3) := by decide +kernel
theorem d_M_join_46 : decode b_M_join 46 = .ok (.imul, 1) := by decide +kernel
theorem d_M_join_47 : decode b_M_join 47 = .ok (.iload_n 3, 1) := by decide +kernel
theorem d_M_join_48 : decode b_M_join 48 = .ok (.iadd, 1) := by decide +kernel
theorem d_M_join_49 : decode b_M_join 49 = .ok (.baload, 1) := by decide +kernel
theorem d_M_join_50 : decode b_M_join 50 = .ok (.istore 4, 2) := by decide +kernel
theorem d_M_join_52 : decode b_M_join 52 = .ok (.aload_n 0, 1) := by decide +kernel
theorem d_M_join_53 : decode b_M_join 53 = .ok (.getfield 30, 3) := by decide +kernel
theorem d_M_join_56 : decode b_M_join 56 = .ok (.bipush 60, 2) := by decide +kernel
theorem d_M_join_58 : decode b_M_join 58 = .ok (.iload_n 1, 1) := by decide +kernel
theorem d_M_join_59 : decode b_M_join 59 = .ok (.imul, 1) := by decide +kernel
theorem d_M_join_60 : decode b_M_join 60 = .ok (.iload_n 3, 1) := by decide +kernel
theorem d_M_join_61 : decode b_M_join 61 = .ok (.iadd, 1) := by decide +kernel
theorem d_M_join_62 : decode b_M_join 62 = .ok (.baload, 1) := by decide +kernel
theorem d_M_join_63 : decode b_M_join 63 = .ok (.istore 5, 2) := by decide +kernel
theorem d_M_join_65 : decode b_M_join 65 = .ok (.aload_n 0, 1) := by decide +kernel
theorem d_M_join_66 : decode b_M_join 66 = .ok (.getfield 30, 3) := by decide +kernel
theorem d_M_join_69 : decode b_M_join 69 = .ok (.bipush 60, 2) := by decide +kernel
theorem d_M_join_71 : decode b_M_join 71 = .ok (.iload_n 2, 1) := by decide +kernel
theorem d_M_join_72 : decode b_M_join 72 = .ok (.imul, 1) := by decide +kernel
theorem d_M_join_73 : decode b_M_join 73 = .ok (.iload_n 3, 1) := by decide +kernel
theorem d_M_join_74 : decode b_M_join 74 = .ok (.iadd, 1) := by decide +kernel
theorem d_M_join_75 : decode b_M_join 75 = .ok (.baload, 1) := by decide +kernel
theorem d_M_join_76 : decode b_M_join 76 = .ok (.istore 6, 2) := by decide +kernel
theorem d_M_join_78 : decode b_M_join 78 = .ok (.aload_n 0, 1) := by decide +kernel
theorem d_M_join_79 : decode b_M_join 79 = .ok (.getfield 42, 3) := by decide +kernel
theorem d_M_join_82 : decode b_M_join 82 = .ok (.iload_n 3, 1) := by decide +kernel
theorem d_M_join_83 : decode b_M_join 83 = .ok (.iload 5, 2) := by decide +kernel
theorem d_M_join_85 : decode b_M_join 85 = .ok (.ifCond .eq 8, 3) := by decide +kernel
theorem d_M_join_88 : decode b_M_join 88 = .ok (.iload 6, 2) := by decide +kernel
theorem d_M_join_90 : decode b_M_join 90 = .ok (.ifCond .ne 18, 3) := by decide +kernel
theorem d_M_join_93 : decode b_M_join 93 = .ok (.iload 5, 2) := by decide +kernel
theorem d_M_join_95 : decode b_M_join 95 = .ok (.ifCond .ne 8, 3) := by decide +kernel
theorem d_M_join_98 : decode b_M_join 98 = .ok (.iload 6, 2) := by decide +kernel
theorem d_M_join_100 : decode b_M_join 100 = .ok (.ifCond .eq 12, 3) := by decide +kernel
theorem d_M_join_103 : decode b_M_join 103 = .ok (.iload 4, 2) := by decide +kernel
theorem d_M_join_105 : decode b_M_join 105 = .ok (.ifCond .ne 7, 3) := by decide +kernel
theorem d_M_join_108 : decode b_M_join 108 = .ok (.iconst 1, 1) := by decide +kernel
theorem d_M_join_109 : decode b_M_join 109 = .ok (.goto 4, 3) := by decide +kernel
theorem d_M_join_112 : decode b_M_join 112 = .ok (.iconst 0, 1) := by decide +kernel
theorem d_M_join_113 : decode b_M_join 113 = .ok (.bastore, 1) := by decide +kernel
theorem d_M_join_114 : decode b_M_join 114 = .ok (.iinc 3 1, 3) := by decide +kernel
theorem d_M_join_117 : decode b_M_join 117 = .ok (.goto (-87), 3) := by decide +kernel
theorem d_M_join_120 : decode b_M_join 120 = .ok (.iconst 0, 1) := by decide +kernel
theorem d_M_join_121 : decode b_M_join 121 = .ok (.istore_n 3, 1) := by decide +kernel
theorem d_M_join_122 : decode b_M_join 122 = .ok (.iload_n 3, 1) := by decide +kernel
theorem d_M_join_123 : decode b_M_join 123 = .ok (.iconst 3, 1) := by decide +kernel
theorem d_M_join_124 : decode b_M_join 124 = .ok (.if_icmp .ge 51, 3) := by decide +kernel
theorem d_M_join_127 : decode b_M_join 127 = .ok (.aload_n 0, 1) := by decide +kernel
theorem d_M_join_128 : decode b_M_join 128 = .ok (.getfield 45, 3) := by decide +kernel
theorem d_M_join_131 : decode b_M_join 131 = .ok (.iload_n 3, 1) := by decide +kernel
theorem d_M_join_132 : decode b_M_join 132 = .ok (.aload_n 0, 1) := by decide +kernel
theorem d_M_join_133 : decode b_M_join 133 = .ok (.getfield 33, 3) := by decide +kernel
theorem d_M_join_136 : decode b_M_join 136 = .ok (.iconst 3, 1) := by decide +kernel
theorem d_M_join_137 : decode b_M_join 137 = .ok (.aload_n 0, 1) := by decide +kernel
theorem d_M_join_138 : decode b_M_join 138 = .ok (.getfield 136, 3) := by decide +kernel
theorem d_M_join_141 : decode b_M_join 141 = .ok (.imul, 1) := by decide +kernel
theorem d_M_join_142 : decode b_M_join 142 = .ok (.iload_n 3, 1) := by decide +kernel
theorem d_M_join_143 : decode b_M_join 143 = .ok (.iadd, 1) := by decide +kernel
theorem d_M_join_144 : decode b_M_join 144 = .ok (.iaload, 1) := by decide +kernel
theorem d_M_join_145 : decode b_M_join 145 = .ok (.aload_n 0, 1) := by decide +kernel
theorem d_M_join_146 : decode b_M_join 146 = .ok (.getfield 33, 3) := by decide +kernel
theorem d_M_join_149 : decode b_M_join 149 = .ok (.iconst 3, 1) := by decide +kernel
theorem d_M_join_150 : decode b_M_join 150 = .ok (.iload_n 1, 1) := by decide +kernel
theorem d_M_join_151 : decode b_M_join 151 = .ok (.imul, 1) := by decide +kernel
theorem d_M_join_152 : decode b_M_join 152 = .ok (.iload_n 3, 1) := by decide +kernel
theorem d_M_join_153 : decode b_M_join 153 = .ok (.iadd, 1) := by decide +kernel
theorem d_M_join_154 : decode b_M_join 154 = .ok (.iaload, 1) := by decide +kernel
theorem d_M_join_155 : decode b_M_join 155 = .ok (.aload_n 0, 1) := by decide +kernel
theorem d_M_join_156 : decode b_M_join 156 = .ok (.getfield 33, 3) := by decide +kernel
theorem d_M_join_159 : decode b_M_join 159 = .ok (.iconst 3, 1) := by decide +kernel
theorem d_M_join_160 : decode b_M_join 160 = .ok (.iload_n 2, 1) := by decide +kernel
theorem d_M_join_161 : decode b_M_join 161 = .ok (.imul, 1) := by decide +kernel
theorem d_M_join_162 : decode b_M_join 162 = .ok (.iload_n 3, 1) := by decide +kernel
theorem d_M_join_163 : decode b_M_join 163 = .ok (.iadd, 1) := by decide +kernel
theorem d_M_join_164 : decode b_M_join 164 = .ok (.iaload, 1) := by decide +kernel
theorem d_M_join_165 : decode b_M_join 165 = .ok (.invokestatic 139, 3) := by decide +kernel
theorem d_M_join_168 : decode b_M_join 168 = .ok (.iastore, 1) := by decide +kernel
theorem d_M_join_169 : decode b_M_join 169 = .ok (.iinc 3 1, 3) := by decide +kernel
theorem d_M_join_172 : decode b_M_join 172 = .ok (.goto (-50), 3) := by decide +kernel
theorem d_M_join_175 : decode b_M_join 175 = .ok (.aload_n 0, 1) := by decide +kernel
theorem d_M_join_176 : decode b_M_join 176 = .ok (.aload_n 0, 1) := by decide +kernel
theorem d_M_join_177 : decode b_M_join 177 = .ok (.getfield 36, 3) := by decide +kernel
theorem d_M_join_180 : decode b_M_join 180 = .ok (.iload_n 1, 1) := by decide +kernel
theorem d_M_join_181 : decode b_M_join 181 = .ok (.iaload, 1) := by decide +kernel
theorem d_M_join_182 : decode b_M_join 182 = .ok (.aload_n 0, 1) := by decide +kernel
theorem d_M_join_183 : decode b_M_join 183 = .ok (.getfield 36, 3) := by decide +kernel
theorem d_M_join_186 : decode b_M_join 186 = .ok (.aload_n 0, 1) := by decide +kernel
theorem d_M_join_187 : decode b_M_join 187 = .ok (.getfield 136, 3) := by decide +kernel
theorem d_M_join_190 : decode b_M_join 190 = .ok (.iaload, 1) := by decide +kernel
theorem d_M_join_191 : decode b_M_join 191 = .ok (.if_icmp .ne 12, 3) := by decide +kernel
theorem d_M_join_194 : decode b_M_join 194 = .ok (.aload_n 0, 1) := by decide +kernel
theorem d_M_join_195 : decode b_M_join 195 = .ok (.getfield 36, 3) := by decide +kernel
theorem d_M_join_198 : decode b_M_join 198 = .ok (.iload_n 2, 1) := by decide +kernel
theorem d_M_join_199 : decode b_M_join 199 = .ok (.iaload, 1) := by decide +kernel
theorem d_M_join_200 : decode b_M_join 200 = .ok (.goto 9, 3) := by decide +kernel
theorem d_M_join_203 : decode b_M_join 203 = .ok (.aload_n 0, 1) := by decide +kernel
theorem d_M_join_204 : decode b_M_join 204 = .ok (.getfield 36, 3) := by decide +kernel
theorem d_M_join_207 : decode b_M_join 207 = .ok (.iload_n 1, 1) := by decide +kernel
theorem d_M_join_208 : decode b_M_join 208 = .ok (.iaload, 1) := by decide +kernel
theorem d_M_join_209 : decode b_M_join 209 = .ok (.putfield 65, 3) := by decide +kernel
theorem d_M_join_212 : decode b_M_join 212 = .ok (.aload_n 0, 1) := by decide +kernel
theorem d_M_join_213 : decode b_M_join 213 = .ok (.invokevirtual 130, 3) := by decide +kernel
theorem d_M_join_216 : decode b_M_join 216 = .ok (.aload_n 0, 1) := by decide +kernel
theorem d_M_join_217 : decode b_M_join 217 = .ok (.iload_n 1, 1) := by decide +kernel
theorem d_M_join_218 : decode b_M_join 218 = .ok (.iload_n 2, 1) := by decide +kernel
theorem d_M_join_219 : decode b_M_join 219 = .ok (.invokevirtual 110, 3) := by decide +kernel
theorem d_M_join_222 : decode b_M_join 222 = .ok (.istore_n 3, 1) := by decide +kernel
theorem d_M_join_223 : decode b_M_join 223 = .ok (.iload_n 3, 1) := by decide +kernel
theorem d_M_join_224 : decode b_M_join 224 = .ok (.ifCond .lt 27, 3) := by decide +kernel
theorem d_M_join_227 : decode b_M_join 227 = .ok (.aload_n 0, 1) := by decide +kernel
theorem d_M_join_228 : decode b_M_join 228 = .ok (.getfield 26, 3) := by decide +kernel
theorem d_M_join_231 : decode b_M_join 231 = .ok (.iload_n 3, 1) := by decide +kernel
theorem d_M_join_232 : decode b_M_join 232 = .ok (.iconst 1, 1) := by decide +kernel
theorem d_M_join_233 : decode b_M_join 233 = .ok (.bastore, 1) := by decide +kernel
theorem d_M_join_234 : decode b_M_join 234 = .ok (.aload_n 0, 1) := by decide +kernel
theorem d_M_join_235 : decode b_M_join 235 = .ok (.getfield 39, 3) := by decide +kernel
theorem d_M_join_238 : decode b_M_join 238 = .ok (.iconst 0, 1) := by decide +kernel
theorem d_M_join_239 : decode b_M_join 239 = .ok (.iload_n 3, 1) := by decide +kernel
theorem d_M_join_240 : decode b_M_join 240 = .ok (.iastore, 1) := by decide +kernel
theorem d_M_join_241 : decode b_M_join 241 = .ok (.aload_n 0, 1) := by decide +kernel
theorem d_M_join_242 : decode b_M_join 242 = .ok (.iconst 0, 1) := by decide +kernel
theorem d_M_join_243 : decode b_M_join 243 = .ok (.putfield 58, 3) := by decide +kernel
theorem d_M_join_246 : decode b_M_join 246 = .ok (.aload_n 0, 1) := by decide +kernel
theorem d_M_join_247 : decode b_M_join 247 = .ok (.iconst 0, 1) := by decide +kernel
theorem d_M_join_248 : decode b_M_join 248 = .ok (.putfield 133, 3) := by decide +kernel
theorem d_M_join_251 : decode b_M_join 251 = .ok (.iload_n 3, 1) := by decide +kernel
theorem d_M_join_252 : decode b_M_join 252 = .ok (.ireturn, 1) := by decide +kernel
theorem d_M_merged_0 : decode b_M_merged 0 = .ok (.iload_n 1, 1) := by decide +kernel
theorem d_M_merged_1 : decode b_M_merged 1 = .ok (.iload_n 0, 1) := by decide +kernel
theorem d_M_merged_2 : decode b_M_merged 2 = .ok (.if_icmp .ne 7, 3) := by decide +kernel
theorem d_M_merged_5 : decode b_M_merged 5 = .ok (.iload_n 2, 1) := by decide +kernel
theorem d_M_merged_6 : decode b_M_merged 6 = .ok (.goto 19, 3) := by decide +kernel
theorem d_M_merged_9 : decode b_M_merged 9 = .ok (.iload_n 2, 1) := by decide +kernel
theorem d_M_merged_10 : decode b_M_merged 10 = .ok (.iload_n 0, 1) := by decide +kernel
theorem d_M_merged_11 : decode b_M_merged 11 = .ok (.if_icmp .eq 8, 3) := by decide +kernel
theorem d_M_merged_14 : decode b_M_merged 14 = .ok (.iload_n 2, 1) := by decide +kernel
theorem d_M_merged_15 : decode b_M_merged 15 = .ok (.iload_n 1, 1) := by decide +kernel
theorem d_M_merged_16 : decode b_M_merged 16 = .ok (.if_icmp .ne 7, 3) := by decide +kernel
theorem d_M_merged_19 : decode b_M_merged 19 = .ok (.iload_n 1, 1) := by decide +kernel
theorem d_M_merged_20 : decode b_M_merged 20 = .ok (.goto 5, 3) := by decide +kernel
theorem d_M_merged_23 : decode b_M_merged 23 = .ok (.bipush (-2), 2) := by decide +kernel
theorem d_M_merged_25 : decode b_M_merged 25 = .ok (.ireturn, 1) := by decide +kernel
theorem d_M_operation_0 : decode b_M_operation 0 = .ok (.aload_n 0, 1) := by decide +kernel
theorem d_M_operation_1 : decode b_M_operation 1 = .ok (.invokevirtual 107, 3) := by decide +kernel
theorem d_M_operation_4 : decode b_M_operation 4 = .ok (.ireturn, 1) := by decide +kernel
theorem d_M_before_0 : decode b_M_before 0 = .ok (.aload_n 0, 1) := by decide +kernel
theorem d_M_before_1 : decode b_M_before 1 = .ok (.iload_n 1, 1) := by decide +kernel
theorem d_M_before_2 : decode b_M_before 2 = .ok (.invokevirtual 143, 3) := by decide +kernel
theorem d_M_before_5 : decode b_M_before 5 = .ok (.ifCond .eq 12, 3) := by decide +kernel
theorem d_M_before_8 : decode b_M_before 8 = .ok (.iload_n 2, 1) := by decide +kernel
theorem d_M_before_9 : decode b_M_before 9 = .ok (.ifCond .lt 8, 3) := by decide +kernel
theorem d_M_before_12 : decode b_M_before 12 = .ok (.iload_n 2, 1) := by decide +kernel
theorem d_M_before_13 : decode b_M_before 13 = .ok (.iconst 1, 1) := by decide +kernel
theorem d_M_before_14 : decode b_M_before 14 = .ok (.if_icmp .le 7, 3) := by decide +kernel
theorem d_M_before_17 : decode b_M_before 17 = .ok (.iconst (-1), 1) := by decide +kernel
theorem d_M_before_18 : decode b_M_before 18 = .ok (.goto 22, 3) := by decide +kernel
theorem d_M_before_21 : decode b_M_before 21 = .ok (.iload_n 2, 1) := by decide +kernel
theorem d_M_before_22 : decode b_M_before 22 = .ok (.ifCond .ne 12, 3) := by decide +kernel
theorem d_M_before_25 : decode b_M_before 25 = .ok (.aload_n 0, 1) := by decide +kernel
theorem d_M_before_26 : decode b_M_before 26 = .ok (.getfield 20, 3) := by decide +kernel
theorem d_M_before_29 : decode b_M_before 29 = .ok (.iload_n 1, 1) := by decide +kernel
theorem d_M_before_30 : decode b_M_before 30 = .ok (.iaload, 1) := by decide +kernel
theorem d_M_before_31 : decode b_M_before 31 = .ok (.goto 9, 3) := by decide +kernel
theorem d_M_before_34 : decode b_M_before 34 = .ok (.aload_n 0, 1) := by decide +kernel
theorem d_M_before_35 : decode b_M_before 35 = .ok (.getfield 23, 3) := by decide +kernel
theorem d_M_before_38 : decode b_M_before 38 = .ok (.iload_n 1, 1) := by decide +kernel
theorem d_M_before_39 : decode b_M_before 39 = .ok (.iaload, 1) := by decide +kernel
theorem d_M_before_40 : decode b_M_before 40 = .ok (.ireturn, 1) := by decide +kernel
theorem d_M_there_0 : decode b_M_there 0 = .ok (.iload_n 1, 1) := by decide +kernel
theorem d_M_there_1 : decode b_M_there 1 = .ok (.ifCond .lt 15, 3) := by decide +kernel
theorem d_M_there_4 : decode b_M_there 4 = .ok (.iload_n 1, 1) := by decide +kernel
theorem d_M_there_5 : decode b_M_there 5 = .ok (.aload_n 0, 1) := by decide +kernel
theorem d_M_there_6 : decode b_M_there 6 = .ok (.getfield 55, 3) := by decide +kernel
theorem d_M_there_9 : decode b_M_there 9 = .ok (.if_icmp .ge 7, 3) := by decide +kernel
theorem d_M_there_12 : decode b_M_there 12 = .ok (.iconst 1, 1) := by decide +kernel
theorem d_M_there_13 : decode b_M_there 13 = .ok (.goto 4, 3) := by decide +kernel
theorem d_M_there_16 : decode b_M_there 16 = .ok (.iconst 0, 1) := by decide +kernel
theorem d_M_there_17 : decode b_M_there 17 = .ok (.ireturn, 1) := by decide +kernel
theorem d_M_visible_0 : decode b_M_visible 0 = .ok (.aload_n 0, 1) := by decide +kernel
theorem d_M_visible_1 : decode b_M_visible 1 = .ok (.iload_n 1, 1) := by decide +kernel
theorem d_M_visible_2 : decode b_M_visible 2 = .ok (.invokevirtual 143, 3) := by decide +kernel
theorem d_M_visible_5 : decode b_M_visible 5 = .ok (.ifCond .eq 16, 3) := by decide +kernel
theorem d_M_visible_8 : decode b_M_visible 8 = .ok (.aload_n 0, 1) := by decide +kernel
theorem d_M_visible_9 : decode b_M_visible 9 = .ok (.iload_n 1, 1) := by decide +kernel
theorem d_M_visible_10 : decode b_M_visible 10 = .ok (.iload_n 2, 1) := by decide +kernel
theorem d_M_visible_11 : decode b_M_visible 11 = .ok (.invokevirtual 113, 3) := by decide +kernel
theorem d_M_visible_14 : decode b_M_visible 14 = .ok (.ifCond .eq 7, 3) := by decide +kernel
theorem d_M_visible_17 : decode b_M_visible 17 = .ok (.iconst 1, 1) := by decide +kernel
theorem d_M_visible_18 : decode b_M_visible 18 = .ok (.goto 4, 3) := by decide +kernel
theorem d_M_visible_21 : decode b_M_visible 21 = .ok (.iconst 0, 1) := by decide +kernel
theorem d_M_visible_22 : decode b_M_visible 22 = .ok (.ireturn, 1) := by decide +kernel
theorem d_M_working_0 : decode b_M_working 0 = .ok (.aload_n 0, 1) := by decide +kernel
theorem d_M_working_1 : decode b_M_working 1 = .ok (.iload_n 1, 1) := by decide +kernel
theorem d_M_working_2 : decode b_M_working 2 = .ok (.invokevirtual 143, 3) := by decide +kernel
theorem d_M_working_5 : decode b_M_working 5 = .ok (.ifCond .eq 12, 3) := by decide +kernel
theorem d_M_working_8 : decode b_M_working 8 = .ok (.aload_n 0, 1) := by decide +kernel
theorem d_M_working_9 : decode b_M_working 9 = .ok (.getfield 36, 3) := by decide +kernel
theorem d_M_working_12 : decode b_M_working 12 = .ok (.iload_n 1, 1) := by decide +kernel
theorem d_M_working_13 : decode b_M_working 13 = .ok (.iaload, 1) := by decide +kernel
theorem d_M_working_14 : decode b_M_working 14 = .ok (.goto 4, 3) := by decide +kernel
theorem d_M_working_17 : decode b_M_working 17 = .ok (.iconst (-1), 1) := by decide +kernel
theorem d_M_working_18 : decode b_M_working 18 = .ok (.ireturn, 1) := by decide +kernel
theorem d_M_marked_0 : decode b_M_marked 0 = .ok (.aload_n 0, 1) := by decide +kernel
theorem d_M_marked_1 : decode b_M_marked 1 = .ok (.iload_n 1, 1) := by decide +kernel
theorem d_M_marked_2 : decode b_M_marked 2 = .ok (.invokevirtual 143, 3) := by decide +kernel
theorem d_M_marked_5 : decode b_M_marked 5 = .ok (.ifCond .eq 25, 3) := by decide +kernel
theorem d_M_marked_8 : decode b_M_marked 8 = .ok (.iload_n 2, 1) := by decide +kernel
theorem d_M_marked_9 : decode b_M_marked 9 = .ok (.ifCond .lt 21, 3) := by decide +kernel
theorem d_M_marked_12 : decode b_M_marked 12 = .ok (.iload_n 2, 1) := by decide +kernel
theorem d_M_marked_13 : decode b_M_marked 13 = .ok (.iconst 2, 1) := by decide +kernel
theorem d_M_marked_14 : decode b_M_marked 14 = .ok (.if_icmp .gt 16, 3) := by decide +kernel
theorem d_M_marked_17 : decode b_M_marked 17 = .ok (.aload_n 0, 1) := by decide +kernel
theorem d_M_marked_18 : decode b_M_marked 18 = .ok (.getfield 33, 3) := by decide +kernel
theorem d_M_marked_21 : decode b_M_marked 21 = .ok (.iconst 3, 1) := by decide +kernel
theorem d_M_marked_22 : decode b_M_marked 22 = .ok (.iload_n 1, 1) := by decide +kernel
theorem d_M_marked_23 : decode b_M_marked 23 = .ok (.imul, 1) := by decide +kernel
theorem d_M_marked_24 : decode b_M_marked 24 = .ok (.iload_n 2, 1) := by decide +kernel
theorem d_M_marked_25 : decode b_M_marked 25 = .ok (.iadd, 1) := by decide +kernel
theorem d_M_marked_26 : decode b_M_marked 26 = .ok (.iaload, 1) := by decide +kernel
theorem d_M_marked_27 : decode b_M_marked 27 = .ok (.goto 4, 3) := by decide +kernel
theorem d_M_marked_30 : decode b_M_marked 30 = .ok (.iconst (-1), 1) := by decide +kernel
theorem d_M_marked_31 : decode b_M_marked 31 = .ok (.ireturn, 1) := by decide +kernel
theorem d_M_head_0 : decode b_M_head 0 = .ok (.iload_n 2, 1) := by decide +kernel
theorem d_M_head_1 : decode b_M_head 1 = .ok (.istore_n 3, 1) := by decide +kernel
theorem d_M_head_2 : decode b_M_head 2 = .ok (.iconst 0, 1) := by decide +kernel
theorem d_M_head_3 : decode b_M_head 3 = .ok (.istore 4, 2) := by decide +kernel
theorem d_M_head_5 : decode b_M_head 5 = .ok (.iload 4, 2) := by decide +kernel
theorem d_M_head_7 : decode b_M_head 7 = .ok (.aload_n 0, 1) := by decide +kernel
theorem d_M_head_8 : decode b_M_head 8 = .ok (.getfield 51, 3) := by decide +kernel
theorem d_M_head_11 : decode b_M_head 11 = .ok (.if_icmp .ge 37, 3) := by decide +kernel
theorem d_M_head_14 : decode b_M_head 14 = .ok (.aload_n 0, 1) := by decide +kernel
theorem d_M_head_15 : decode b_M_head 15 = .ok (.iload_n 1, 1) := by decide +kernel
theorem d_M_head_16 : decode b_M_head 16 = .ok (.invokevirtual 143, 3) := by decide +kernel
theorem d_M_head_19 : decode b_M_head 19 = .ok (.ifCond .eq 29, 3) := by decide +kernel
theorem d_M_head_22 : decode b_M_head 22 = .ok (.aload_n 0, 1) := by decide +kernel
theorem d_M_head_23 : decode b_M_head 23 = .ok (.iload_n 1, 1) := by decide +kernel
theorem d_M_head_24 : decode b_M_head 24 = .ok (.iload 4, 2) := by decide +kernel
theorem d_M_head_26 : decode b_M_head 26 = .ok (.invokevirtual 147, 3) := by decide +kernel
theorem d_M_head_29 : decode b_M_head 29 = .ok (.ifCond .eq 13, 3) := by decide +kernel
theorem d_M_head_32 : decode b_M_head 32 = .ok (.iload_n 3, 1) := by decide +kernel
theorem d_M_head_33 : decode b_M_head 33 = .ok (.ifCond .ne 6, 3) := by decide +kernel
theorem d_M_head_36 : decode b_M_head 36 = .ok (.iload 4, 2) := by decide +kernel
theorem d_M_head_38 : decode b_M_head 38 = .ok (.ireturn, 1) := by decide +kernel
theorem d_M_head_39 : decode b_M_head 39 = .ok (.iinc 3 (-1), 3) := by decide +kernel
theorem d_M_head_42 : decode b_M_head 42 = .ok (.iinc 4 1, 3) := by decide +kernel
theorem d_M_head_45 : decode b_M_head 45 = .ok (.goto (-40), 3) := by decide +kernel
theorem d_M_head_48 : decode b_M_head 48 = .ok (.iconst (-1), 1) := by decide +kernel
theorem d_M_head_49 : decode b_M_head 49 = .ok (.ireturn, 1) := by decide +kernel
theorem d_M_isHead_0 : decode b_M_isHead 0 = .ok (.aload_n 0, 1) := by decide +kernel
theorem d_M_isHead_1 : decode b_M_isHead 1 = .ok (.iload_n 1, 1) := by decide +kernel
theorem d_M_isHead_2 : decode b_M_isHead 2 = .ok (.iload_n 2, 1) := by decide +kernel
theorem d_M_isHead_3 : decode b_M_isHead 3 = .ok (.invokevirtual 113, 3) := by decide +kernel
theorem d_M_isHead_6 : decode b_M_isHead 6 = .ok (.istore_n 3, 1) := by decide +kernel
theorem d_M_isHead_7 : decode b_M_isHead 7 = .ok (.iload_n 2, 1) := by decide +kernel
theorem d_M_isHead_8 : decode b_M_isHead 8 = .ok (.iconst 1, 1) := by decide +kernel
theorem d_M_isHead_9 : decode b_M_isHead 9 = .ok (.iadd, 1) := by decide +kernel
theorem d_M_isHead_10 : decode b_M_isHead 10 = .ok (.istore 4, 2) := by decide +kernel
theorem d_M_isHead_12 : decode b_M_isHead 12 = .ok (.iload 4, 2) := by decide +kernel
theorem d_M_isHead_14 : decode b_M_isHead 14 = .ok (.aload_n 0, 1) := by decide +kernel
theorem d_M_isHead_15 : decode b_M_isHead 15 = .ok (.getfield 51, 3) := by decide +kernel
theorem d_M_isHead_18 : decode b_M_isHead 18 = .ok (.if_icmp .ge 40, 3) := by decide +kernel
theorem d_M_isHead_21 : decode b_M_isHead 21 = .ok (.iload_n 3, 1) := by decide +kernel
theorem d_M_isHead_22 : decode b_M_isHead 22 = .ok (.ifCond .eq 36, 3) := by decide +kernel
theorem d_M_isHead_25 : decode b_M_isHead 25 = .ok (.aload_n 0, 1) := by decide +kernel
theorem d_M_isHead_26 : decode b_M_isHead 26 = .ok (.iload_n 1, 1) := by decide +kernel
theorem d_M_isHead_27 : decode b_M_isHead 27 = .ok (.iload 4, 2) := by decide +kernel
theorem d_M_isHead_29 : decode b_M_isHead 29 = .ok (.invokevirtual 113, 3) := by decide +kernel
theorem d_M_isHead_32 : decode b_M_isHead 32 = .ok (.ifCond .eq 14, 3) := by decide +kernel
theorem d_M_isHead_35 : decode b_M_isHead 35 = .ok (.aload_n 0, 1) := by decide +kernel
theorem d_M_isHead_36 : decode b_M_isHead 36 = .ok (.getfield 13, 3) := by decide +kernel
theorem d_M_isHead_39 : decode b_M_isHead 39 = .ok (.iload 4, 2) := by decide +kernel
theorem d_M_isHead_41 : decode b_M_isHead 41 = .ok (.iaload, 1) := by decide +kernel
theorem d_M_isHead_42 : decode b_M_isHead 42 = .ok (.iload_n 2, 1) := by decide +kernel
theorem d_M_isHead_43 : decode b_M_isHead 43 = .ok (.if_icmp .eq 7, 3) := by decide +kernel
theorem d_M_isHead_46 : decode b_M_isHead 46 = .ok (.iconst 1, 1) := by decide +kernel
theorem d_M_isHead_47 : decode b_M_isHead 47 = .ok (.goto 4, 3) := by decide +kernel
theorem d_M_isHead_50 : decode b_M_isHead 50 = .ok (.iconst 0, 1) := by decide +kernel
theorem d_M_isHead_51 : decode b_M_isHead 51 = .ok (.istore_n 3, 1) := by decide +kernel
theorem d_M_isHead_52 : decode b_M_isHead 52 = .ok (.iinc 4 1, 3) := by decide +kernel
theorem d_M_isHead_55 : decode b_M_isHead 55 = .ok (.goto (-43), 3) := by decide +kernel
theorem d_M_isHead_58 : decode b_M_isHead 58 = .ok (.iload_n 3, 1) := by decide +kernel
theorem d_M_isHead_59 : decode b_M_isHead 59 = .ok (.ireturn, 1) := by decide +kernel
theorem d_M_commit_0 : decode b_M_commit 0 = .ok (.iload_n 1, 1) := by decide +kernel
theorem d_M_commit_1 : decode b_M_commit 1 = .ok (.ifCond .lt 20, 3) := by decide +kernel
theorem d_M_commit_4 : decode b_M_commit 4 = .ok (.iload_n 1, 1) := by decide +kernel
theorem d_M_commit_5 : decode b_M_commit 5 = .ok (.aload_n 0, 1) := by decide +kernel
theorem d_M_commit_6 : decode b_M_commit 6 = .ok (.getfield 51, 3) := by decide +kernel
theorem d_M_commit_9 : decode b_M_commit 9 = .ok (.if_icmp .ge 12, 3) := by decide +kernel
theorem d_M_commit_12 : decode b_M_commit 12 = .ok (.iload_n 2, 1) := by decide +kernel
theorem d_M_commit_13 : decode b_M_commit 13 = .ok (.ifCond .lt 8, 3) := by decide +kernel
theorem d_M_commit_16 : decode b_M_commit 16 = .ok (.iload_n 2, 1) := by decide +kernel
theorem d_M_commit_17 : decode b_M_commit 17 = .ok (.iconst 1, 1) := by decide +kernel
theorem d_M_commit_18 : decode b_M_commit 18 = .ok (.if_icmp .le 7, 3) := by decide +kernel
theorem d_M_commit_21 : decode b_M_commit 21 = .ok (.iconst (-1), 1) := by decide +kernel
theorem d_M_commit_22 : decode b_M_commit 22 = .ok (.goto 22, 3) := by decide +kernel
theorem d_M_commit_25 : decode b_M_commit 25 = .ok (.iload_n 2, 1) := by decide +kernel
theorem d_M_commit_26 : decode b_M_commit 26 = .ok (.ifCond .ne 12, 3) := by decide +kernel
theorem d_M_commit_29 : decode b_M_commit 29 = .ok (.aload_n 0, 1) := by decide +kernel
theorem d_M_commit_30 : decode b_M_commit 30 = .ok (.getfield 13, 3) := by decide +kernel
theorem d_M_commit_33 : decode b_M_commit 33 = .ok (.iload_n 1, 1) := by decide +kernel
theorem d_M_commit_34 : decode b_M_commit 34 = .ok (.iaload, 1) := by decide +kernel
theorem d_M_commit_35 : decode b_M_commit 35 = .ok (.goto 9, 3) := by decide +kernel
theorem d_M_commit_38 : decode b_M_commit 38 = .ok (.aload_n 0, 1) := by decide +kernel
theorem d_M_commit_39 : decode b_M_commit 39 = .ok (.getfield 7, 3) := by decide +kernel
theorem d_M_commit_42 : decode b_M_commit 42 = .ok (.iload_n 1, 1) := by decide +kernel
theorem d_M_commit_43 : decode b_M_commit 43 = .ok (.iaload, 1) := by decide +kernel
theorem d_M_commit_44 : decode b_M_commit 44 = .ok (.ireturn, 1) := by decide +kernel
theorem d_M_count_0 : decode b_M_count 0 = .ok (.iload_n 1, 1) := by decide +kernel
theorem d_M_count_1 : decode b_M_count 1 = .ok (.ifCond .lt 30, 3) := by decide +kernel
theorem d_M_count_4 : decode b_M_count 4 = .ok (.iload_n 1, 1) := by decide +kernel
theorem d_M_count_5 : decode b_M_count 5 = .ok (.aload_n 0, 1) := by decide +kernel
theorem d_M_count_6 : decode b_M_count 6 = .ok (.getfield 51, 3) := by decide +kernel
theorem d_M_count_9 : decode b_M_count 9 = .ok (.if_icmp .ge 22, 3) := by decide +kernel
theorem d_M_count_12 : decode b_M_count 12 = .ok (.iload_n 2, 1) := by decide +kernel
theorem d_M_count_13 : decode b_M_count 13 = .ok (.ifCond .lt 18, 3) := by decide +kernel
theorem d_M_count_16 : decode b_M_count 16 = .ok (.iload_n 2, 1) := by decide +kernel
theorem d_M_count_17 : decode b_M_count 17 = .ok (.iconst 3, 1) := by decide +kernel
theorem d_M_count_18 : decode b_M_count 18 = .ok (.if_icmp .gt 13, 3) := by decide +kernel
theorem d_M_count_21 : decode b_M_count 21 = .ok (.iload_n 3, 1) := by decide +kernel
theorem d_M_count_22 : decode b_M_count 22 = .ok (.ifCond .lt 9, 3) := by decide +kernel
theorem d_M_count_25 : decode b_M_count 25 = .ok (.iload_n 3, 1) := by decide +kernel
theorem d_M_count_26 : decode b_M_count 26 = .ok (.bipush 7, 2) := by decide +kernel
theorem d_M_count_28 : decode b_M_count 28 = .ok (.if_icmp .le 7, 3) := by decide +kernel
theorem d_M_count_31 : decode b_M_count 31 = .ok (.lconst 0, 1) := by decide +kernel
theorem d_M_count_32 : decode b_M_count 32 = .ok (.goto 19, 3) := by decide +kernel
theorem d_M_count_35 : decode b_M_count 35 = .ok (.aload_n 0, 1) := by decide +kernel
end
section
theorem d_M_count_36 : decode b_M_count 36 = .ok (.getfield 16, 3) := by decide +kernel
theorem d_M_count_39 : decode b_M_count 39 = .ok (.bipush 32, 2) := by decide +kernel
theorem d_M_count_41 : decode b_M_count 41 = .ok (.iload_n 1, 1) := by decide +kernel
theorem d_M_count_42 : decode b_M_count 42 = .ok (.imul, 1) := by decide +kernel
theorem d_M_count_43 : decode b_M_count 43 = .ok (.bipush 8, 2) := by decide +kernel
theorem d_M_count_45 : decode b_M_count 45 = .ok (.iload_n 2, 1) := by decide +kernel
theorem d_M_count_46 : decode b_M_count 46 = .ok (.imul, 1) := by decide +kernel
theorem d_M_count_47 : decode b_M_count 47 = .ok (.iadd, 1) := by decide +kernel
theorem d_M_count_48 : decode b_M_count 48 = .ok (.iload_n 3, 1) := by decide +kernel
theorem d_M_count_49 : decode b_M_count 49 = .ok (.iadd, 1) := by decide +kernel
theorem d_M_count_50 : decode b_M_count 50 = .ok (.laload, 1) := by decide +kernel
theorem d_M_count_51 : decode b_M_count 51 = .ok (.lreturn, 1) := by decide +kernel
end
section
/-! The layer: one situation 'qa_S' for a world that a state x of type QX pictures; returns, calls, and the way from a walk to a contract. -/
/-- a state: int fields, long fields, int (or boolean) arrays, long arrays, each by number -/
abbrev QX : Type := (Nat → Int32) × (Nat → Int64) × (Nat → Nat → Int32) × (Nat → Nat → Int64)
def sI (x : QX) (k : Nat) (v : Int32) : QX := (va_up x.1 k v, x.2.1, x.2.2.1, x.2.2.2)
def sL (x : QX) (k : Nat) (v : Int64) : QX := (x.1, va_up x.2.1 k v, x.2.2.1, x.2.2.2)
def sA (x : QX) (k : Nat) (f : Nat → Int32) : QX := (x.1, x.2.1, va_up x.2.2.1 k f, x.2.2.2)
def sB (x : QX) (k : Nat) (f : Nat → Int64) : QX := (x.1, x.2.1, x.2.2.1, va_up x.2.2.2 k f)
def gI (x : QX) (k : Nat) : Int32 := x.1 k
def gL (x : QX) (k : Nat) : Int64 := x.2.1 k
def gA (x : QX) (k : Nat) : Nat → Int32 := x.2.2.1 k
def gB (x : QX) (k : Nat) : Nat → Int64 := x.2.2.2 k
/-- the words that hold at every method: the good ones of the tables -/
def qa_WG : List Cond := lw_tbl.filter goodWord
theorem qa_in {w : Cond} (h : w ∈ lw_tbl) (g : goodWord w = true) : w ∈ qa_WG := List.mem_filter.mpr ⟨h, g⟩
theorem qa_good {pre : List Cond} {c2 : Cond} (h2 : c2 ∈ qa_WG) (hp : ∀ w ∈ pre, w ∈ qa_WG) : GoodIn qa_WG (pre ++ (c2 :: qa_WG)) := by
  intro w hw
  have h : w ∈ qa_WG := by
    rcases List.mem_append.mp hw with h | h
    · exact hp w h
    · rcases List.mem_cons.mp h with h | h
      · rw [h]; exact h2
      · exact h
  exact ⟨h, good_of_word (List.mem_filter.mp h).2⟩
/-- words of nest mates go beside -/
def qa_nest : Cond → Bool
  | .fieldLinkNest .. => true
  | .methodLinkNest .. => true
  | _ => false
def qa_NW : List Cond := lw_tbl.filter qa_nest
def qa_N (U : State) : Prop := ∀ w ∈ qa_NW, va_Nw w U
theorem qa_nin {w : Cond} (h : w ∈ lw_tbl) (g : qa_nest w = true) : w ∈ qa_NW := List.mem_filter.mpr ⟨h, g⟩
theorem qa_N.warm {s U : State} (hW : s.WarmedH U.vm) (h : qa_N s) : qa_N U := by
  intro w hw
  have h1 := (List.mem_filter.mp hw).2
  have h2 := h w hw
  cases w <;> first | (simp [qa_nest] at h1; done) | exact va_Nw.warmF hW h2 | exact va_Nw.warmM hW h2
theorem qa_N.same {s U : State} (hv : s.vm = U.vm) (h : qa_N s) : qa_N U := by
  intro w hw
  have h1 := (List.mem_filter.mp hw).2
  have h2 := h w hw
  cases w <;> first | (simp [qa_nest] at h1; done) | exact va_Nw.same rfl hv h2
theorem qa_range (ws : va_W) : (List.range ws.length).map (fun i => ws[i]?) = ws.map some := by
  apply List.ext_getElem?
  intro i
  by_cases h : i < ws.length
  · simp [h]
  · simp [h]
def qa_S (D : va_G) (cl : List vw_C) (tys : List (ClassId × FieldType)) {X : Type} (wf : X → va_W) (A : Nat → Prop) (s : State) (x : X) (H : Heap) (locs : List Loc) : Prop :=
  va_P D cl (wf x) H ∧ va_D A (wf x) ∧ va_K D cl tys s ∧ va_S A s.heap H locs ∧ (∀ q : Nat, s.heap.size ≤ q → A q) ∧ qa_N s
def qa_B (D : va_G) (cl : List vw_C) (tys : List (ClassId × FieldType)) {X : Type} (wf : X → va_W) (A : Nat → Prop) (x : X) (t : State) : Prop :=
  va_P D cl (wf x) t.heap ∧ va_K D cl tys t ∧ va_D A (wf x)
def qa_Pre (D : va_G) (cl : List vw_C) (tys : List (ClassId × FieldType)) {X : Type} (wf : X → va_W) (vs : List Value) (x : X) (sz : Nat) : Array Value → State → Prop :=
  va_Pc vs (fun U => U.heap.size = sz ∧ va_P D cl (wf x) U.heap ∧ va_K D cl tys U ∧ va_D (fun _ => True) (wf x) ∧ qa_N U)
/-- contracts over a whole world: int (also boolean), long, void -/
abbrev qa_Ci (l : Launch) (y : MethodName) (ws : List Cond) (rm : Room) (D : va_G) (cl : List vw_C) (tys : List (ClassId × FieldType)) {X : Type} (wf : X → va_W) (vs : List Value) (x : X) (post : Int32 → X → Prop) : Prop :=
  ∀ sz : Nat, Met l y ws rm (qa_Pre D cl tys wf vs x sz) (va_Qi post (qa_B D cl tys wf (va_A (wf x) sz)) (va_A (wf x) sz)) 0 0 (va_A (wf x) sz)
abbrev qa_Cl (l : Launch) (y : MethodName) (ws : List Cond) (rm : Room) (D : va_G) (cl : List vw_C) (tys : List (ClassId × FieldType)) {X : Type} (wf : X → va_W) (vs : List Value) (x : X) (post : Int64 → X → Prop) : Prop :=
  ∀ sz : Nat, Met l y ws rm (qa_Pre D cl tys wf vs x sz) (va_Ql post (qa_B D cl tys wf (va_A (wf x) sz)) (va_A (wf x) sz)) 0 0 (va_A (wf x) sz)
abbrev qa_Cv (l : Launch) (y : MethodName) (ws : List Cond) (rm : Room) (D : va_G) (cl : List vw_C) (tys : List (ClassId × FieldType)) {X : Type} (wf : X → va_W) (vs : List Value) (x : X) (post : X → Prop) : Prop :=
  ∀ sz : Nat, Met l y ws rm (qa_Pre D cl tys wf vs x sz) (va_Qv post (qa_B D cl tys wf (va_A (wf x) sz)) (va_A (wf x) sz)) 0 0 (va_A (wf x) sz)
/-- what stays fixed in a walk -/
def qa_X (p : Program) (s : State) (m : MethodId) (args : Array Value) (meth : Method) (c : Code) (cc : ByteArray) (nL : Nat) (ret : Option FieldType) (own : String) : Prop :=
  p.tables.exec = Jvm.exec ∧ c.code = cc ∧ c.maxLocals = nL ∧ meth.sig.returnType = ret ∧ (∀ w ∈ qa_WG, w.before args s = true) ∧ s.vm.findClass own = some m.cls ∧ meth.locks = false
section QA
variable {p : Program} {l : Launch} {e : Env} {R : Room} {s : State} {m : MethodId} {args : Array Value} {below : List Frame} {meth : Method} {c : Code} {H : Heap} {locs : List Loc} {Q : State → Prop}
variable {D : va_G} {cl : List vw_C} {tys : List (ClassId × FieldType)} {X : Type} {wf : X → va_W} {A : Nat → Prop} {x : X}
variable {cc : ByteArray} {nL : Nat} {own : String} {pc : Nat} {ls : Array Slot} {rest st0 : List Value}
theorem qa_blind {vs : List Value} {sz : Nat} : FrameBlind (qa_Pre D cl tys wf vs x sz) := by
  intro a U g mk q
  obtain ⟨q0, q1, qP, qK, qD, qN⟩ := q
  exact ⟨q0, q1, qP, va_K.moved (u := U) (U := U.calling g mk a) (Vm.Alike.refl U.vm) qK, qD, qa_N.same (s := U) (U := U.calling g mk a) rfl qN⟩
theorem qa_pre {vs : List Value} (S : qa_S D cl tys wf A s x H locs) (U : State) (hU : U.heap = H) (hW : s.WarmedH U.vm) : qa_Pre D cl tys wf vs x H.size vs.toArray U := by
  obtain ⟨hP, hD, hK, -, -, hN⟩ := S
  exact ⟨rfl, by rw [hU], by rw [hU]; exact hP, va_K.moved hW.alike hK, hD.weaken (fun _ _ _ _ => trivial), hN.warm hW⟩
theorem qa_reti (C : qa_X p s m args meth c cc nL (some .int) own) (S : qa_S D cl tys wf A s x H locs) {post : Int32 → X → Prop} {v : Int32} (hp : post v x) (hdg : decode cc pc = .ok (.ireturn, 1)) :
    W p l e R s m args below meth c H locs 0 0 (MQ below (va_Qi post (qa_B D cl tys wf A) A) args s 0 0 A) (F0 m pc ls [.int v]) := by
  obtain ⟨hx, hb, -, hr, -, -, hlk⟩ := C
  obtain ⟨hP, hD, hK, hS, -, -⟩ := S
  exact W.iret hx hb hr (fun t ht hW => ⟨⟨v, x, rfl, hp, by rw [ht]; exact hP, va_K.moved hW.alike hK, hD⟩, hS.F ht⟩) hS.2.2 hdg (hlocks := hlk)
theorem qa_retz (C : qa_X p s m args meth c cc nL (some .boolean) own) (S : qa_S D cl tys wf A s x H locs) {post : Int32 → X → Prop} {v : Int32} (hp : vp_nar .boolean v = v ∧ post v x) (hdg : decode cc pc = .ok (.ireturn, 1)) :
    W p l e R s m args below meth c H locs 0 0 (MQ below (va_Qi post (qa_B D cl tys wf A) A) args s 0 0 A) (F0 m pc ls [.int v]) := by
  obtain ⟨hx, hb, -, hr, -, -, hlk⟩ := C
  obtain ⟨hP, hD, hK, hS, -, -⟩ := S
  have hn : narrow .boolean (.int v) = .int v := by
    have h1 : narrow .boolean (.int v) = .int (vp_nar .boolean v) := rfl
    rw [h1, hp.1]
  exact W.zret hx hb hr hn (fun t ht hW => ⟨⟨v, x, rfl, hp.2, by rw [ht]; exact hP, va_K.moved hW.alike hK, hD⟩, hS.F ht⟩) hS.2.2 hdg (hlocks := hlk)
theorem qa_retl (C : qa_X p s m args meth c cc nL (some .long) own) (S : qa_S D cl tys wf A s x H locs) {post : Int64 → X → Prop} {v : Int64} (hp : post v x) (hdg : decode cc pc = .ok (.lreturn, 1)) :
    W p l e R s m args below meth c H locs 0 0 (MQ below (va_Ql post (qa_B D cl tys wf A) A) args s 0 0 A) (F0 m pc ls [.long v]) := by
  obtain ⟨hx, hb, -, hr, -, -, hlk⟩ := C
  obtain ⟨hP, hD, hK, hS, -, -⟩ := S
  exact W.lret hx hb hr (fun t ht hW => ⟨⟨v, x, rfl, hp, by rw [ht]; exact hP, va_K.moved hW.alike hK, hD⟩, hS.F ht⟩) hS.2.2 hdg (hlocks := hlk)
theorem qa_retv (C : qa_X p s m args meth c cc nL none own) (S : qa_S D cl tys wf A s x H locs) {post : X → Prop} (hp : post x) (hdg : decode cc pc = .ok (.return_, 1)) :
    W p l e R s m args below meth c H locs 0 0 (MQ below (va_Qv post (qa_B D cl tys wf A) A) args s 0 0 A) (F0 m pc ls []) := by
  obtain ⟨hx, hb, -, hr, -, -, hlk⟩ := C
  obtain ⟨hP, hD, hK, hS, -, -⟩ := S
  exact W.vret hx hb hr (fun t ht hW => ⟨⟨x, rfl, hp, by rw [ht]; exact hP, va_K.moved hW.alike hK, hD⟩, hS.F ht⟩) hS.2.2 hdg (hlocks := hlk)
theorem qa_calli {post : Int32 → X → Prop} {a : Array Value} (run : va_Run p l e R s m args below meth c H locs 0 0 0 0 (F0 m pc ls st0) rest (va_Qi post (qa_B D cl tys wf (va_A (wf x) H.size)) (va_A (wf x) H.size) a) (va_A (wf x) H.size)) (S : qa_S D cl tys wf A s x H locs)
    (kk : ∀ (r : Int32) (x' : X) (H1 : Heap) (locs1 : List Loc), post r x' → qa_S D cl tys wf A s x' H1 locs1 → W p l e R s m args below meth c H1 locs1 0 0 Q (F0 m (pc + 3) ls (.int r :: rest))) : W p l e R s m args below meth c H locs 0 0 Q (F0 m pc ls st0) := by
  obtain ⟨hP, hD, hK, hS, hA, hN⟩ := S
  have hF := va_free (wc := wf x) hD hS hA (List.range (wf x).length) (qa_range (wf x))
  refine va_calli run hS (fun q _ h => hF q h) hF (fun r u t H1 locs1 ht hvm hp hB hz hk hS1 => ?_)
  obtain ⟨hP1, hK1, hD1⟩ := hB
  rw [ht] at hP1
  obtain ⟨hP2, hD2⟩ := va_join (wr := []) (w1 := wf u) hP hD (List.range (wf x).length) [] (qa_range _) rfl rfl (fun i h => by cases h) hk hF hP1 hD1
  exact kk r u H1 locs1 hp ⟨hP2, hD2, hK, hS1, hA, hN⟩
theorem qa_calll {post : Int64 → X → Prop} {a : Array Value} (run : va_Run p l e R s m args below meth c H locs 0 0 0 0 (F0 m pc ls st0) rest (va_Ql post (qa_B D cl tys wf (va_A (wf x) H.size)) (va_A (wf x) H.size) a) (va_A (wf x) H.size)) (S : qa_S D cl tys wf A s x H locs)
    (kk : ∀ (r : Int64) (x' : X) (H1 : Heap) (locs1 : List Loc), post r x' → qa_S D cl tys wf A s x' H1 locs1 → W p l e R s m args below meth c H1 locs1 0 0 Q (F0 m (pc + 3) ls (.long r :: rest))) : W p l e R s m args below meth c H locs 0 0 Q (F0 m pc ls st0) := by
  obtain ⟨hP, hD, hK, hS, hA, hN⟩ := S
  have hF := va_free (wc := wf x) hD hS hA (List.range (wf x).length) (qa_range (wf x))
  refine va_calll run hS (fun q _ h => hF q h) hF (fun r u t H1 locs1 ht hvm hp hB hz hk hS1 => ?_)
  obtain ⟨hP1, hK1, hD1⟩ := hB
  rw [ht] at hP1
  obtain ⟨hP2, hD2⟩ := va_join (wr := []) (w1 := wf u) hP hD (List.range (wf x).length) [] (qa_range _) rfl rfl (fun i h => by cases h) hk hF hP1 hD1
  exact kk r u H1 locs1 hp ⟨hP2, hD2, hK, hS1, hA, hN⟩
theorem qa_callv {post : X → Prop} {a : Array Value} (run : va_Run p l e R s m args below meth c H locs 0 0 0 0 (F0 m pc ls st0) rest (va_Qv post (qa_B D cl tys wf (va_A (wf x) H.size)) (va_A (wf x) H.size) a) (va_A (wf x) H.size)) (S : qa_S D cl tys wf A s x H locs)
    (kk : ∀ (x' : X) (H1 : Heap) (locs1 : List Loc), post x' → qa_S D cl tys wf A s x' H1 locs1 → W p l e R s m args below meth c H1 locs1 0 0 Q (F0 m (pc + 3) ls rest)) : W p l e R s m args below meth c H locs 0 0 Q (F0 m pc ls st0) := by
  obtain ⟨hP, hD, hK, hS, hA, hN⟩ := S
  have hF := va_free (wc := wf x) hD hS hA (List.range (wf x).length) (qa_range (wf x))
  refine va_callv run hS (fun q _ h => hF q h) hF (fun u t H1 locs1 ht hvm hp hB hz hk hS1 => ?_)
  obtain ⟨hP1, hK1, hD1⟩ := hB
  rw [ht] at hP1
  obtain ⟨hP2, hD2⟩ := va_join (wr := []) (w1 := wf u) hP hD (List.range (wf x).length) [] (qa_range _) rfl rfl (fun i h => by cases h) hk hF hP1 hD1
  exact kk u H1 locs1 hp ⟨hP2, hD2, hK, hS1, hA, hN⟩
variable {ret retC : Option FieldType} {y : MethodName} {bytes : ByteArray} {maxL index n : Nat} {wsC : List Cond} {rm : Room} {Qc : Array Value → State → Outcome → State → Prop} {free : Addr → Prop} {As : List Value} {b : Nat} {Cn host : String}
/-- invokevirtual, own class or package-private -/
theorem qa_runV (C : qa_X p s m args meth c cc nL ret own) (S : qa_S D cl tys wf A s x H locs) (hM : Met l y wsC rm (qa_Pre D cl tys wf (.ref b :: As) x H.size) Qc 0 0 free)
    (cw : CallW R s args own Cn index y bytes maxL retC wsC rm 0 0 n) (hrecv : ∃ cellB : Cell, H[b]? = some cellB ∧ cellB.vm.isStatics = false ∧ s.vm.findClass Cn = some cellB.cls)
    (hn : As.length = n) (hls : ls.size = nL) (hst : st0 = As.reverse ++ .ref b :: rest) (hroom : (rest.map fun v => v.category).sum ≤ 8) (hdg : decode cc pc = .ok (.invokevirtual index, 3)) :
    va_Run p l e R s m args below meth c H locs 0 0 0 0 (F0 m pc ls st0) rest (Qc (Value.ref b :: As).toArray) free :=
  va_runV ⟨C.1, C.2.1, C.2.2.1, C.2.2.2.2.2.1, C.2.2.2.2.1⟩ hM cw ⟨qa_blind, hrecv, fun U hU hW => qa_pre S U hU hW⟩ rfl hn hls hst (lv_room hroom) hdg ⟨Nat.zero_le _, Nat.zero_le _⟩
/-- invokestatic of the own class -/
theorem qa_runS (C : qa_X p s m args meth c cc nL ret own) (S : qa_S D cl tys wf A s x H locs) (hM : Met l y wsC rm (qa_Pre D cl tys wf As x H.size) Qc 0 0 free)
    (cw : CallB R s args own index y bytes maxL retC wsC rm 0 0 n ∧ (Cond.static y).before args s = true)
    (hn : As.length = n) (hls : ls.size = nL) (hst : st0 = As.reverse ++ rest) (hroom : (rest.map fun v => v.category).sum ≤ 8) (hdg : decode cc pc = .ok (.invokestatic index, 3)) :
    va_Run p l e R s m args below meth c H locs 0 0 0 0 (F0 m pc ls st0) rest (Qc As.toArray) free :=
  va_runS ⟨C.1, C.2.1, C.2.2.1, C.2.2.2.2.2.1, C.2.2.2.2.1⟩ hM cw ⟨qa_blind, fun U hU hW => qa_pre S U hU hW⟩ rfl hn hls hst (lv_room hroom) hdg ⟨Nat.zero_le _, Nat.zero_le _⟩
/-- invokestatic of a nest mate's private method -/
theorem qa_runSN (C : qa_X p s m args meth c cc nL ret own) (S : qa_S D cl tys wf A s x H locs) (hM : Met l y wsC rm (qa_Pre D cl tys wf As x H.size) Qc 0 0 free)
    (cw : va_CN R s args own index y host bytes maxL retC wsC rm 0 0 n ∧ (Cond.static y).before args s = true ∧ True)
    (hn : As.length = n) (hls : ls.size = nL) (hst : st0 = As.reverse ++ rest) (hroom : (rest.map fun v => v.category).sum ≤ 8) (hdg : decode cc pc = .ok (.invokestatic index, 3)) :
    va_Run p l e R s m args below meth c H locs 0 0 0 0 (F0 m pc ls st0) rest (Qc As.toArray) free :=
  va_runSN ⟨C.1, C.2.1, C.2.2.1, C.2.2.2.2.2.1, C.2.2.2.2.1⟩ hM cw ⟨qa_blind, fun U hU hW => qa_pre S U hU hW⟩ rfl hn hls hst (lv_room hroom) hdg ⟨Nat.zero_le _, Nat.zero_le _⟩
/-- invokevirtual of a nest mate's private method -/
theorem qa_runVN (C : qa_X p s m args meth c cc nL ret own) (S : qa_S D cl tys wf A s x H locs) (hM : Met l y wsC rm (qa_Pre D cl tys wf (.ref b :: As) x H.size) Qc 0 0 free)
    (cw : va_CN R s args own index y host bytes maxL retC wsC rm 0 0 n ∧ (Cond.instanceMethod y).before args s = true ∧ (Cond.selects Cn y y).before args s = true) (hrecv : ∃ cellB : Cell, H[b]? = some cellB ∧ cellB.vm.isStatics = false ∧ s.vm.findClass Cn = some cellB.cls)
    (hn : As.length = n) (hls : ls.size = nL) (hst : st0 = As.reverse ++ .ref b :: rest) (hroom : (rest.map fun v => v.category).sum ≤ 8) (hdg : decode cc pc = .ok (.invokevirtual index, 3)) :
    va_Run p l e R s m args below meth c H locs 0 0 0 0 (F0 m pc ls st0) rest (Qc (Value.ref b :: As).toArray) free :=
  va_runVN ⟨C.1, C.2.1, C.2.2.1, C.2.2.2.2.2.1, C.2.2.2.2.1⟩ hM cw ⟨qa_blind, hrecv, fun U hU hW => qa_pre S U hU hW⟩ rfl hn hls hst (lv_room hroom) hdg ⟨Nat.zero_le _, Nat.zero_le _⟩
end QA
section QB
variable {l : Launch} {D : va_G} {cl : List vw_C} {tys : List (ClassId × FieldType)} {X : Type} {wf : X → va_W} {x : X} {y : MethodName} {ws' : List Cond} {rm : Room} {cc : ByteArray} {maxL : Nat} {ret : Option FieldType} {vs : List Value}
theorem qa_ofWi {post : Int32 → X → Prop} (hy : plainName y.cls = true) (hn : (lg_sl vs).length ≤ maxL)
    (body : ∀ (p : Program) (e : Env) (s : State) (m : MethodId) (args : Array Value) (below : List Frame) (meth : Method) (c : Code) (A : Nat → Prop) (H : Heap) (locs : List Loc) (ls : Array Slot), qa_X p s m args meth c cc maxL ret y.cls → qa_S D cl tys wf A s x H locs → lv_has ls maxL (lv_args 0 vs) →
      W p l e rm s m args below meth c H locs 0 0 (MQ below (va_Qi post (qa_B D cl tys wf A) A) args s 0 0 A) (F0 m 0 ls [])) : qa_Ci l y (.code y cc maxL ret :: qa_WG) rm D cl tys wf vs x post := by
  intro sz
  refine Met.ofW (cc := cc) (maxL := maxL) (ret := ret) hy rfl ?_
  intro p e s m args below meth c s₁ B hml hv
  obtain ⟨rfl, hsz, hP, hK, hD0, hN⟩ := hv
  subst hsz
  rw [lg_entry_eq]
  exact body p e s m _ below meth c _ _ _ _ ⟨B.exec, B.bytes, hml, B.returns, fun w hw => atoms_spec (ws := .code y cc maxL ret :: qa_WG) B.pre w (List.mem_cons_of_mem _ hw), findClass_of_methodNamed B.named, B.notSynchronized⟩ ⟨hP, hD0.self, hK, va_S.rf, fun q h => Or.inr h, hN⟩ (lv_entry vs hn)
theorem qa_ofWl {post : Int64 → X → Prop} (hy : plainName y.cls = true) (hn : (lg_sl vs).length ≤ maxL)
    (body : ∀ (p : Program) (e : Env) (s : State) (m : MethodId) (args : Array Value) (below : List Frame) (meth : Method) (c : Code) (A : Nat → Prop) (H : Heap) (locs : List Loc) (ls : Array Slot), qa_X p s m args meth c cc maxL ret y.cls → qa_S D cl tys wf A s x H locs → lv_has ls maxL (lv_args 0 vs) →
      W p l e rm s m args below meth c H locs 0 0 (MQ below (va_Ql post (qa_B D cl tys wf A) A) args s 0 0 A) (F0 m 0 ls [])) : qa_Cl l y (.code y cc maxL ret :: qa_WG) rm D cl tys wf vs x post := by
  intro sz
  refine Met.ofW (cc := cc) (maxL := maxL) (ret := ret) hy rfl ?_
  intro p e s m args below meth c s₁ B hml hv
  obtain ⟨rfl, hsz, hP, hK, hD0, hN⟩ := hv
  subst hsz
  rw [lg_entry_eq]
  exact body p e s m _ below meth c _ _ _ _ ⟨B.exec, B.bytes, hml, B.returns, fun w hw => atoms_spec (ws := .code y cc maxL ret :: qa_WG) B.pre w (List.mem_cons_of_mem _ hw), findClass_of_methodNamed B.named, B.notSynchronized⟩ ⟨hP, hD0.self, hK, va_S.rf, fun q h => Or.inr h, hN⟩ (lv_entry vs hn)
theorem qa_ofWv {post : X → Prop} (hy : plainName y.cls = true) (hn : (lg_sl vs).length ≤ maxL)
    (body : ∀ (p : Program) (e : Env) (s : State) (m : MethodId) (args : Array Value) (below : List Frame) (meth : Method) (c : Code) (A : Nat → Prop) (H : Heap) (locs : List Loc) (ls : Array Slot), qa_X p s m args meth c cc maxL ret y.cls → qa_S D cl tys wf A s x H locs → lv_has ls maxL (lv_args 0 vs) →
      W p l e rm s m args below meth c H locs 0 0 (MQ below (va_Qv post (qa_B D cl tys wf A) A) args s 0 0 A) (F0 m 0 ls [])) : qa_Cv l y (.code y cc maxL ret :: qa_WG) rm D cl tys wf vs x post := by
  intro sz
  refine Met.ofW (cc := cc) (maxL := maxL) (ret := ret) hy rfl ?_
  intro p e s m args below meth c s₁ B hml hv
  obtain ⟨rfl, hsz, hP, hK, hD0, hN⟩ := hv
  subst hsz
  rw [lg_entry_eq]
  exact body p e s m _ below meth c _ _ _ _ ⟨B.exec, B.bytes, hml, B.returns, fun w hw => atoms_spec (ws := .code y cc maxL ret :: qa_WG) B.pre w (List.mem_cons_of_mem _ hw), findClass_of_methodNamed B.named, B.notSynchronized⟩ ⟨hP, hD0.self, hK, va_S.rf, fun q h => Or.inr h, hN⟩ (lv_entry vs hn)
end QB
end
section
theorem qh_ac_native : Cond.native arraycopyName ∈ qa_WG := qa_in (List.mem_append_right _ (List.mem_of_getElem? (i := 194) (by decide +kernel))) rfl
theorem qh_ac_static : Cond.static arraycopyName ∈ qa_WG := qa_in (List.mem_append_right _ (List.mem_of_getElem? (i := 193) (by decide +kernel))) rfl
theorem qh_ac_init : Cond.initialized "java/lang/System" ∈ qa_WG := qa_in (List.mem_append_right _ (List.mem_of_getElem? (i := 7) (by decide +kernel))) rfl
theorem hin_S : ∀ w ∈ u_ws R_S F_S 6, w ∈ qa_WG := by
  show ∀ w ∈ [u_lay R_S F_S 0, u_lay R_S F_S 1, u_lay R_S F_S 2, u_lay R_S F_S 3, u_lay R_S F_S 4, u_lay R_S F_S 5], w ∈ qa_WG
  exact List.forall_mem_cons.mpr ⟨qa_in (List.mem_append_right _ (List.mem_of_getElem? (i := 106) (by decide +kernel))) rfl, List.forall_mem_cons.mpr ⟨qa_in (List.mem_append_right _ (List.mem_of_getElem? (i := 108) (by decide +kernel))) rfl, List.forall_mem_cons.mpr ⟨qa_in (List.mem_append_right _ (List.mem_of_getElem? (i := 110) (by decide +kernel))) rfl, List.forall_mem_cons.mpr ⟨qa_in (List.mem_append_right _ (List.mem_of_getElem? (i := 112) (by decide +kernel))) rfl, List.forall_mem_cons.mpr ⟨qa_in (List.mem_append_right _ (List.mem_of_getElem? (i := 114) (by decide +kernel))) rfl, List.forall_mem_cons.mpr ⟨qa_in (List.mem_append_right _ (List.mem_of_getElem? (i := 116) (by decide +kernel))) rfl, fun _ h => by cases h⟩⟩⟩⟩⟩⟩
theorem hin_C : ∀ w ∈ u_ws R_C F_C 5, w ∈ qa_WG := by
  show ∀ w ∈ [u_lay R_C F_C 0, u_lay R_C F_C 1, u_lay R_C F_C 2, u_lay R_C F_C 3, u_lay R_C F_C 4], w ∈ qa_WG
  exact List.forall_mem_cons.mpr ⟨qa_in (List.mem_append_right _ (List.mem_of_getElem? (i := 28) (by decide +kernel))) rfl, List.forall_mem_cons.mpr ⟨qa_in (List.mem_append_right _ (List.mem_of_getElem? (i := 30) (by decide +kernel))) rfl, List.forall_mem_cons.mpr ⟨qa_in (List.mem_append_right _ (List.mem_of_getElem? (i := 32) (by decide +kernel))) rfl, List.forall_mem_cons.mpr ⟨qa_in (List.mem_append_right _ (List.mem_of_getElem? (i := 34) (by decide +kernel))) rfl, List.forall_mem_cons.mpr ⟨qa_in (List.mem_append_right _ (List.mem_of_getElem? (i := 36) (by decide +kernel))) rfl, fun _ h => by cases h⟩⟩⟩⟩⟩
theorem hin_O : ∀ w ∈ u_ws R_O F_O 6, w ∈ qa_WG := by
  show ∀ w ∈ [u_lay R_O F_O 0, u_lay R_O F_O 1, u_lay R_O F_O 2, u_lay R_O F_O 3, u_lay R_O F_O 4, u_lay R_O F_O 5], w ∈ qa_WG
  exact List.forall_mem_cons.mpr ⟨qa_in (List.mem_append_right _ (List.mem_of_getElem? (i := 56) (by decide +kernel))) rfl, List.forall_mem_cons.mpr ⟨qa_in (List.mem_append_right _ (List.mem_of_getElem? (i := 58) (by decide +kernel))) rfl, List.forall_mem_cons.mpr ⟨qa_in (List.mem_append_right _ (List.mem_of_getElem? (i := 60) (by decide +kernel))) rfl, List.forall_mem_cons.mpr ⟨qa_in (List.mem_append_right _ (List.mem_of_getElem? (i := 62) (by decide +kernel))) rfl, List.forall_mem_cons.mpr ⟨qa_in (List.mem_append_right _ (List.mem_of_getElem? (i := 64) (by decide +kernel))) rfl, List.forall_mem_cons.mpr ⟨qa_in (List.mem_append_right _ (List.mem_of_getElem? (i := 66) (by decide +kernel))) rfl, fun _ h => by cases h⟩⟩⟩⟩⟩⟩
theorem hin_D : ∀ w ∈ u_ws R_D F_D 6, w ∈ qa_WG := by
  show ∀ w ∈ [u_lay R_D F_D 0, u_lay R_D F_D 1, u_lay R_D F_D 2, u_lay R_D F_D 3, u_lay R_D F_D 4, u_lay R_D F_D 5], w ∈ qa_WG
  exact List.forall_mem_cons.mpr ⟨qa_in (List.mem_append_right _ (List.mem_of_getElem? (i := 87) (by decide +kernel))) rfl, List.forall_mem_cons.mpr ⟨qa_in (List.mem_append_right _ (List.mem_of_getElem? (i := 89) (by decide +kernel))) rfl, List.forall_mem_cons.mpr ⟨qa_in (List.mem_append_right _ (List.mem_of_getElem? (i := 91) (by decide +kernel))) rfl, List.forall_mem_cons.mpr ⟨qa_in (List.mem_append_right _ (List.mem_of_getElem? (i := 93) (by decide +kernel))) rfl, List.forall_mem_cons.mpr ⟨qa_in (List.mem_append_right _ (List.mem_of_getElem? (i := 95) (by decide +kernel))) rfl, List.forall_mem_cons.mpr ⟨qa_in (List.mem_append_right _ (List.mem_of_getElem? (i := 97) (by decide +kernel))) rfl, fun _ h => by cases h⟩⟩⟩⟩⟩⟩
theorem hin_M : ∀ w ∈ u_ws R_M F_M 23, w ∈ qa_WG := by
  show ∀ w ∈ [u_lay R_M F_M 0, u_lay R_M F_M 1, u_lay R_M F_M 2, u_lay R_M F_M 3, u_lay R_M F_M 4, u_lay R_M F_M 5, u_lay R_M F_M 6, u_lay R_M F_M 7, u_lay R_M F_M 8, u_lay R_M F_M 9, u_lay R_M F_M 10, u_lay R_M F_M 11, u_lay R_M F_M 12, u_lay R_M F_M 13, u_lay R_M F_M 14, u_lay R_M F_M 15, u_lay R_M F_M 16, u_lay R_M F_M 17, u_lay R_M F_M 18, u_lay R_M F_M 19, u_lay R_M F_M 20, u_lay R_M F_M 21, u_lay R_M F_M 22], w ∈ qa_WG
  exact List.forall_mem_cons.mpr ⟨qa_in (List.mem_append_right _ (List.mem_of_getElem? (i := 442) (by decide +kernel))) rfl, List.forall_mem_cons.mpr ⟨qa_in (List.mem_append_right _ (List.mem_of_getElem? (i := 444) (by decide +kernel))) rfl, List.forall_mem_cons.mpr ⟨qa_in (List.mem_append_right _ (List.mem_of_getElem? (i := 446) (by decide +kernel))) rfl, List.forall_mem_cons.mpr ⟨qa_in (List.mem_append_right _ (List.mem_of_getElem? (i := 448) (by decide +kernel))) rfl, List.forall_mem_cons.mpr ⟨qa_in (List.mem_append_right _ (List.mem_of_getElem? (i := 450) (by decide +kernel))) rfl, List.forall_mem_cons.mpr ⟨qa_in (List.mem_append_right _ (List.mem_of_getElem? (i := 452) (by decide +kernel))) rfl, List.forall_mem_cons.mpr ⟨qa_in (List.mem_append_right _ (List.mem_of_getElem? (i := 454) (by decide +kernel))) rfl, List.forall_mem_cons.mpr ⟨qa_in (List.mem_append_right _ (List.mem_of_getElem? (i := 456) (by decide +kernel))) rfl, List.forall_mem_cons.mpr ⟨qa_in (List.mem_append_right _ (List.mem_of_getElem? (i := 458) (by decide +kernel))) rfl, List.forall_mem_cons.mpr ⟨qa_in (List.mem_append_right _ (List.mem_of_getElem? (i := 460) (by decide +kernel))) rfl, List.forall_mem_cons.mpr ⟨qa_in (List.mem_append_right _ (List.mem_of_getElem? (i := 462) (by decide +kernel))) rfl, List.forall_mem_cons.mpr ⟨qa_in (List.mem_append_right _ (List.mem_of_getElem? (i := 464) (by decide +kernel))) rfl, List.forall_mem_cons.mpr ⟨qa_in (List.mem_append_right _ (List.mem_of_getElem? (i := 466) (by decide +kernel))) rfl, List.forall_mem_cons.mpr ⟨qa_in (List.mem_append_right _ (List.mem_of_getElem? (i := 468) (by decide +kernel))) rfl, List.forall_mem_cons.mpr ⟨qa_in (List.mem_append_right _ (List.mem_of_getElem? (i := 470) (by decide +kernel))) rfl, List.forall_mem_cons.mpr ⟨qa_in (List.mem_append_right _ (List.mem_of_getElem? (i := 472) (by decide +kernel))) rfl, List.forall_mem_cons.mpr ⟨qa_in (List.mem_append_right _ (List.mem_of_getElem? (i := 474) (by decide +kernel))) rfl, List.forall_mem_cons.mpr ⟨qa_in (List.mem_append_right _ (List.mem_of_getElem? (i := 476) (by decide +kernel))) rfl, List.forall_mem_cons.mpr ⟨qa_in (List.mem_append_right _ (List.mem_of_getElem? (i := 478) (by decide +kernel))) rfl, List.forall_mem_cons.mpr ⟨qa_in (List.mem_append_right _ (List.mem_of_getElem? (i := 480) (by decide +kernel))) rfl, List.forall_mem_cons.mpr ⟨qa_in (List.mem_append_right _ (List.mem_of_getElem? (i := 482) (by decide +kernel))) rfl, List.forall_mem_cons.mpr ⟨qa_in (List.mem_append_right _ (List.mem_of_getElem? (i := 484) (by decide +kernel))) rfl, List.forall_mem_cons.mpr ⟨qa_in (List.mem_append_right _ (List.mem_of_getElem? (i := 486) (by decide +kernel))) rfl, fun _ h => by cases h⟩⟩⟩⟩⟩⟩⟩⟩⟩⟩⟩⟩⟩⟩⟩⟩⟩⟩⟩⟩⟩⟩⟩
theorem qh_79 : Cond.fieldLink R_D 19 R_D "replacements" "[I" ∈ qa_WG := qa_in (List.mem_append_right _ (List.mem_of_getElem? (i := 79) (by decide +kernel))) rfl
theorem qh_75 : Cond.fieldLink R_D 9 R_D "commits" "LChangeStore$Commits;" ∈ qa_WG := qa_in (List.mem_append_right _ (List.mem_of_getElem? (i := 75) (by decide +kernel))) rfl
theorem qh_26 : Cond.fieldLinkNest R_D 59 R_C "size" "I" "ChangeStore" ∈ qa_NW := qa_nin (List.mem_append_right _ (List.mem_of_getElem? (i := 26) (by decide +kernel))) rfl
theorem qh_85 : Cond.fieldLink R_D 64 R_D "commitsAtOpening" "I" ∈ qa_WG := qa_in (List.mem_append_right _ (List.mem_of_getElem? (i := 85) (by decide +kernel))) rfl
theorem qh_137 : Cond.code y_A_fill prog_8_method_103_code 4 (Option.none : Option Jvm.ClassFile.FieldType) ∈ qa_WG := qa_in (List.mem_append_right _ (List.mem_of_getElem? (i := 137) (by decide +kernel))) rfl
theorem qh_6 : Cond.initialized R_A ∈ qa_WG := qa_in (List.mem_append_right _ (List.mem_of_getElem? (i := 6) (by decide +kernel))) rfl
theorem qh_135 : Cond.methodLink R_D 53 y_A_fill ∈ qa_WG := qa_in (List.mem_append_right _ (List.mem_of_getElem? (i := 135) (by decide +kernel))) rfl
theorem qh_136 : Cond.static y_A_fill ∈ qa_WG := qa_in (List.mem_append_right _ (List.mem_of_getElem? (i := 136) (by decide +kernel))) rfl
theorem qh_55 : Cond.fieldLink R_O 32 R_O "size" "I" ∈ qa_WG := qa_in (List.mem_append_right _ (List.mem_of_getElem? (i := 55) (by decide +kernel))) rfl
theorem qh_52 : Cond.fieldLink R_O 18 R_O "shown" "[J" ∈ qa_WG := qa_in (List.mem_append_right _ (List.mem_of_getElem? (i := 52) (by decide +kernel))) rfl
theorem qh_145 : Cond.code y_O_has prog_4_method_2_code 2 (Option.some Jvm.ClassFile.FieldType.boolean) ∈ qa_WG := qa_in (List.mem_append_right _ (List.mem_of_getElem? (i := 145) (by decide +kernel))) rfl
theorem qh_142 : Cond.methodLink R_O 36 y_O_has ∈ qa_WG := qa_in (List.mem_append_right _ (List.mem_of_getElem? (i := 142) (by decide +kernel))) rfl
theorem qh_143 : Cond.instanceMethod y_O_has ∈ qa_WG := qa_in (List.mem_append_right _ (List.mem_of_getElem? (i := 143) (by decide +kernel))) rfl
theorem qh_144 : Cond.selects R_O y_O_has y_O_has ∈ qa_WG := qa_in (List.mem_append_right _ (List.mem_of_getElem? (i := 144) (by decide +kernel))) rfl
theorem qh_3 : Cond.initialized R_O ∈ qa_WG := qa_in (List.mem_append_right _ (List.mem_of_getElem? (i := 3) (by decide +kernel))) rfl
theorem qh_53 : Cond.fieldLink R_O 22 R_O "workings" "[I" ∈ qa_WG := qa_in (List.mem_append_right _ (List.mem_of_getElem? (i := 53) (by decide +kernel))) rfl
theorem qh_54 : Cond.fieldLink R_O 25 R_O "marks" "[I" ∈ qa_WG := qa_in (List.mem_append_right _ (List.mem_of_getElem? (i := 54) (by decide +kernel))) rfl
theorem qh_156 : Cond.code y_S_isMark prog_1_method_29_code 1 (Option.some Jvm.ClassFile.FieldType.boolean) ∈ qa_WG := qa_in (List.mem_append_right _ (List.mem_of_getElem? (i := 156) (by decide +kernel))) rfl
theorem qh_154 : Cond.methodLinkNest R_O 40 y_S_isMark "ChangeStore" ∈ qa_NW := qa_nin (List.mem_append_right _ (List.mem_of_getElem? (i := 154) (by decide +kernel))) rfl
theorem qh_1 : Cond.initialized R_S ∈ qa_WG := qa_in (List.mem_append_right _ (List.mem_of_getElem? (i := 1) (by decide +kernel))) rfl
theorem qh_155 : Cond.static y_S_isMark ∈ qa_WG := qa_in (List.mem_append_right _ (List.mem_of_getElem? (i := 155) (by decide +kernel))) rfl
theorem qh_80 : Cond.fieldLink R_D 31 R_D "shown" "J" ∈ qa_WG := qa_in (List.mem_append_right _ (List.mem_of_getElem? (i := 80) (by decide +kernel))) rfl
theorem qh_82 : Cond.fieldLink R_D 39 R_D "working" "I" ∈ qa_WG := qa_in (List.mem_append_right _ (List.mem_of_getElem? (i := 82) (by decide +kernel))) rfl
theorem qh_76 : Cond.fieldLink R_D 15 R_D "marks" "[I" ∈ qa_WG := qa_in (List.mem_append_right _ (List.mem_of_getElem? (i := 76) (by decide +kernel))) rfl
theorem qh_153 : Cond.code y_O_markIn prog_4_method_8_code 3 (Option.some Jvm.ClassFile.FieldType.int) ∈ qa_WG := qa_in (List.mem_append_right _ (List.mem_of_getElem? (i := 153) (by decide +kernel))) rfl
theorem qh_150 : Cond.methodLink R_D 43 y_O_markIn ∈ qa_WG := qa_in (List.mem_append_right _ (List.mem_of_getElem? (i := 150) (by decide +kernel))) rfl
theorem qh_151 : Cond.instanceMethod y_O_markIn ∈ qa_WG := qa_in (List.mem_append_right _ (List.mem_of_getElem? (i := 151) (by decide +kernel))) rfl
theorem qh_152 : Cond.selects R_O y_O_markIn y_O_markIn ∈ qa_WG := qa_in (List.mem_append_right _ (List.mem_of_getElem? (i := 152) (by decide +kernel))) rfl
theorem qh_149 : Cond.code y_O_workingIn prog_4_method_7_code 2 (Option.some Jvm.ClassFile.FieldType.int) ∈ qa_WG := qa_in (List.mem_append_right _ (List.mem_of_getElem? (i := 149) (by decide +kernel))) rfl
theorem qh_146 : Cond.methodLink R_D 35 y_O_workingIn ∈ qa_WG := qa_in (List.mem_append_right _ (List.mem_of_getElem? (i := 146) (by decide +kernel))) rfl
theorem qh_147 : Cond.instanceMethod y_O_workingIn ∈ qa_WG := qa_in (List.mem_append_right _ (List.mem_of_getElem? (i := 147) (by decide +kernel))) rfl
theorem qh_148 : Cond.selects R_O y_O_workingIn y_O_workingIn ∈ qa_WG := qa_in (List.mem_append_right _ (List.mem_of_getElem? (i := 148) (by decide +kernel))) rfl
theorem qh_141 : Cond.code y_O_shownIn prog_4_method_6_code 2 (Option.some Jvm.ClassFile.FieldType.long) ∈ qa_WG := qa_in (List.mem_append_right _ (List.mem_of_getElem? (i := 141) (by decide +kernel))) rfl
theorem qh_138 : Cond.methodLink R_D 25 y_O_shownIn ∈ qa_WG := qa_in (List.mem_append_right _ (List.mem_of_getElem? (i := 138) (by decide +kernel))) rfl
theorem qh_139 : Cond.instanceMethod y_O_shownIn ∈ qa_WG := qa_in (List.mem_append_right _ (List.mem_of_getElem? (i := 139) (by decide +kernel))) rfl
theorem qh_140 : Cond.selects R_O y_O_shownIn y_O_shownIn ∈ qa_WG := qa_in (List.mem_append_right _ (List.mem_of_getElem? (i := 140) (by decide +kernel))) rfl
theorem qh_134 : Cond.code y_D_start prog_3_method_4_code 1 (Option.none : Option Jvm.ClassFile.FieldType) ∈ qa_WG := qa_in (List.mem_append_right _ (List.mem_of_getElem? (i := 134) (by decide +kernel))) rfl
theorem qh_131 : Cond.methodLink R_D 22 y_D_start ∈ qa_WG := qa_in (List.mem_append_right _ (List.mem_of_getElem? (i := 131) (by decide +kernel))) rfl
theorem qh_133 : Cond.instanceMethod y_D_start ∈ qa_WG := qa_in (List.mem_append_right _ (List.mem_of_getElem? (i := 133) (by decide +kernel))) rfl
theorem qh_s1 : Cond.selects R_D y_D_start y_D_start ∈ qa_WG := qa_in (List.mem_append_left _ (List.mem_of_getElem? (i := 1) (by decide +kernel))) rfl
theorem qh_4 : Cond.initialized R_D ∈ qa_WG := qa_in (List.mem_append_right _ (List.mem_of_getElem? (i := 4) (by decide +kernel))) rfl
theorem qh_102 : Cond.fieldLink R_S 28 R_S "draft" "LChangeStore$Draft;" ∈ qa_WG := qa_in (List.mem_append_right _ (List.mem_of_getElem? (i := 102) (by decide +kernel))) rfl
theorem qh_101 : Cond.fieldLink R_S 19 R_S "operations" "LChangeStore$Operations;" ∈ qa_WG := qa_in (List.mem_append_right _ (List.mem_of_getElem? (i := 101) (by decide +kernel))) rfl
theorem qh_103 : Cond.fieldLink R_S 32 R_S "currents" "[I" ∈ qa_WG := qa_in (List.mem_append_right _ (List.mem_of_getElem? (i := 103) (by decide +kernel))) rfl
theorem qh_104 : Cond.fieldLink R_S 36 R_S "chosen" "I" ∈ qa_WG := qa_in (List.mem_append_right _ (List.mem_of_getElem? (i := 104) (by decide +kernel))) rfl
theorem qh_130 : Cond.code y_D_open prog_3_method_2_code 4 (Option.none : Option Jvm.ClassFile.FieldType) ∈ qa_WG := qa_in (List.mem_append_right _ (List.mem_of_getElem? (i := 130) (by decide +kernel))) rfl
theorem qh_127 : Cond.methodLink R_S 126 y_D_open ∈ qa_WG := qa_in (List.mem_append_right _ (List.mem_of_getElem? (i := 127) (by decide +kernel))) rfl
theorem qh_128 : Cond.instanceMethod y_D_open ∈ qa_WG := qa_in (List.mem_append_right _ (List.mem_of_getElem? (i := 128) (by decide +kernel))) rfl
theorem qh_129 : Cond.selects R_D y_D_open y_D_open ∈ qa_WG := qa_in (List.mem_append_right _ (List.mem_of_getElem? (i := 129) (by decide +kernel))) rfl
theorem qh_163 : Cond.code y_S_isIn prog_1_method_31_code 3 (Option.some Jvm.ClassFile.FieldType.boolean) ∈ qa_WG := qa_in (List.mem_append_right _ (List.mem_of_getElem? (i := 163) (by decide +kernel))) rfl
theorem qh_161 : Cond.methodLinkNest R_D 67 y_S_isIn "ChangeStore" ∈ qa_NW := qa_nin (List.mem_append_right _ (List.mem_of_getElem? (i := 161) (by decide +kernel))) rfl
theorem qh_162 : Cond.static y_S_isIn ∈ qa_WG := qa_in (List.mem_append_right _ (List.mem_of_getElem? (i := 162) (by decide +kernel))) rfl
theorem qh_25 : Cond.fieldLink R_C 22 R_C "size" "I" ∈ qa_WG := qa_in (List.mem_append_right _ (List.mem_of_getElem? (i := 25) (by decide +kernel))) rfl
theorem qh_100 : Cond.fieldLink R_S 10 R_S "commits" "LChangeStore$Commits;" ∈ qa_WG := qa_in (List.mem_append_right _ (List.mem_of_getElem? (i := 100) (by decide +kernel))) rfl
theorem qh_175 : Cond.code y_O_isFull prog_4_method_3_code 1 (Option.some Jvm.ClassFile.FieldType.boolean) ∈ qa_WG := qa_in (List.mem_append_right _ (List.mem_of_getElem? (i := 175) (by decide +kernel))) rfl
theorem qh_172 : Cond.methodLink R_S 162 y_O_isFull ∈ qa_WG := qa_in (List.mem_append_right _ (List.mem_of_getElem? (i := 172) (by decide +kernel))) rfl
theorem qh_173 : Cond.instanceMethod y_O_isFull ∈ qa_WG := qa_in (List.mem_append_right _ (List.mem_of_getElem? (i := 173) (by decide +kernel))) rfl
theorem qh_174 : Cond.selects R_O y_O_isFull y_O_isFull ∈ qa_WG := qa_in (List.mem_append_right _ (List.mem_of_getElem? (i := 174) (by decide +kernel))) rfl
theorem qh_171 : Cond.code y_C_isFull prog_2_method_3_code 1 (Option.some Jvm.ClassFile.FieldType.boolean) ∈ qa_WG := qa_in (List.mem_append_right _ (List.mem_of_getElem? (i := 171) (by decide +kernel))) rfl
theorem qh_168 : Cond.methodLink R_S 159 y_C_isFull ∈ qa_WG := qa_in (List.mem_append_right _ (List.mem_of_getElem? (i := 168) (by decide +kernel))) rfl
theorem qh_169 : Cond.instanceMethod y_C_isFull ∈ qa_WG := qa_in (List.mem_append_right _ (List.mem_of_getElem? (i := 169) (by decide +kernel))) rfl
theorem qh_170 : Cond.selects R_C y_C_isFull y_C_isFull ∈ qa_WG := qa_in (List.mem_append_right _ (List.mem_of_getElem? (i := 170) (by decide +kernel))) rfl
theorem qh_2 : Cond.initialized R_C ∈ qa_WG := qa_in (List.mem_append_right _ (List.mem_of_getElem? (i := 2) (by decide +kernel))) rfl
theorem qh_23 : Cond.fieldLink R_C 15 R_C "changes" "[I" ∈ qa_WG := qa_in (List.mem_append_right _ (List.mem_of_getElem? (i := 23) (by decide +kernel))) rfl
theorem qh_22 : Cond.fieldLink R_C 9 R_C "parents" "[I" ∈ qa_WG := qa_in (List.mem_append_right _ (List.mem_of_getElem? (i := 22) (by decide +kernel))) rfl
theorem qh_24 : Cond.fieldLink R_C 18 R_C "counts" "[J" ∈ qa_WG := qa_in (List.mem_append_right _ (List.mem_of_getElem? (i := 24) (by decide +kernel))) rfl
theorem qh_192 : Cond.methodLink R_C 67 arraycopyName ∈ qa_WG := qa_in (List.mem_append_right _ (List.mem_of_getElem? (i := 192) (by decide +kernel))) rfl
theorem qh_191 : Cond.code y_C_start prog_2_method_17_code 2 (Option.some Jvm.ClassFile.FieldType.int) ∈ qa_WG := qa_in (List.mem_append_right _ (List.mem_of_getElem? (i := 191) (by decide +kernel))) rfl
theorem qh_189 : Cond.methodLink R_C 39 y_C_start ∈ qa_WG := qa_in (List.mem_append_right _ (List.mem_of_getElem? (i := 189) (by decide +kernel))) rfl
theorem qh_190 : Cond.static y_C_start ∈ qa_WG := qa_in (List.mem_append_right _ (List.mem_of_getElem? (i := 190) (by decide +kernel))) rfl
theorem qh_188 : Cond.code y_C_has prog_2_method_2_code 2 (Option.some Jvm.ClassFile.FieldType.boolean) ∈ qa_WG := qa_in (List.mem_append_right _ (List.mem_of_getElem? (i := 188) (by decide +kernel))) rfl
theorem qh_185 : Cond.methodLink R_C 29 y_C_has ∈ qa_WG := qa_in (List.mem_append_right _ (List.mem_of_getElem? (i := 185) (by decide +kernel))) rfl
theorem qh_186 : Cond.instanceMethod y_C_has ∈ qa_WG := qa_in (List.mem_append_right _ (List.mem_of_getElem? (i := 186) (by decide +kernel))) rfl
theorem qh_187 : Cond.selects R_C y_C_has y_C_has ∈ qa_WG := qa_in (List.mem_append_right _ (List.mem_of_getElem? (i := 187) (by decide +kernel))) rfl
theorem qh_180 : Cond.methodLink R_C 59 y_C_isFull ∈ qa_WG := qa_in (List.mem_append_right _ (List.mem_of_getElem? (i := 180) (by decide +kernel))) rfl
theorem qh_27 : Cond.fieldLink R_C 26 R_C "lastChange" "I" ∈ qa_WG := qa_in (List.mem_append_right _ (List.mem_of_getElem? (i := 27) (by decide +kernel))) rfl
theorem qh_184 : Cond.code y_C_addCopy prog_2_method_12_code 5 (Option.some Jvm.ClassFile.FieldType.int) ∈ qa_WG := qa_in (List.mem_append_right _ (List.mem_of_getElem? (i := 184) (by decide +kernel))) rfl
theorem qh_181 : Cond.methodLink R_C 63 y_C_addCopy ∈ qa_WG := qa_in (List.mem_append_right _ (List.mem_of_getElem? (i := 181) (by decide +kernel))) rfl
theorem qh_182 : Cond.instanceMethod y_C_addCopy ∈ qa_WG := qa_in (List.mem_append_right _ (List.mem_of_getElem? (i := 182) (by decide +kernel))) rfl
theorem qh_183 : Cond.selects R_C y_C_addCopy y_C_addCopy ∈ qa_WG := qa_in (List.mem_append_right _ (List.mem_of_getElem? (i := 183) (by decide +kernel))) rfl
theorem qh_49 : Cond.code y_S_bit prog_1_method_30_code 1 (Option.some Jvm.ClassFile.FieldType.long) ∈ qa_WG := qa_in (List.mem_append_right _ (List.mem_of_getElem? (i := 49) (by decide +kernel))) rfl
theorem qh_199 : Cond.methodLinkNest R_D 71 y_S_bit "ChangeStore" ∈ qa_NW := qa_nin (List.mem_append_right _ (List.mem_of_getElem? (i := 199) (by decide +kernel))) rfl
theorem qh_48 : Cond.static y_S_bit ∈ qa_WG := qa_in (List.mem_append_right _ (List.mem_of_getElem? (i := 48) (by decide +kernel))) rfl
theorem qh_160 : Cond.code y_D_shows prog_3_method_6_code 2 (Option.some Jvm.ClassFile.FieldType.boolean) ∈ qa_WG := qa_in (List.mem_append_right _ (List.mem_of_getElem? (i := 160) (by decide +kernel))) rfl
theorem qh_216 : Cond.methodLink R_D 107 y_D_shows ∈ qa_WG := qa_in (List.mem_append_right _ (List.mem_of_getElem? (i := 216) (by decide +kernel))) rfl
theorem qh_158 : Cond.instanceMethod y_D_shows ∈ qa_WG := qa_in (List.mem_append_right _ (List.mem_of_getElem? (i := 158) (by decide +kernel))) rfl
theorem qh_159 : Cond.selects R_D y_D_shows y_D_shows ∈ qa_WG := qa_in (List.mem_append_right _ (List.mem_of_getElem? (i := 159) (by decide +kernel))) rfl
theorem qh_220 : Cond.code y_C_parentOf prog_2_method_4_code 2 (Option.some Jvm.ClassFile.FieldType.int) ∈ qa_WG := qa_in (List.mem_append_right _ (List.mem_of_getElem? (i := 220) (by decide +kernel))) rfl
theorem qh_217 : Cond.methodLink R_D 93 y_C_parentOf ∈ qa_WG := qa_in (List.mem_append_right _ (List.mem_of_getElem? (i := 217) (by decide +kernel))) rfl
theorem qh_218 : Cond.instanceMethod y_C_parentOf ∈ qa_WG := qa_in (List.mem_append_right _ (List.mem_of_getElem? (i := 218) (by decide +kernel))) rfl
theorem qh_219 : Cond.selects R_C y_C_parentOf y_C_parentOf ∈ qa_WG := qa_in (List.mem_append_right _ (List.mem_of_getElem? (i := 219) (by decide +kernel))) rfl
theorem qh_226 : Cond.methodLinkNest R_C 47 y_S_bit "ChangeStore" ∈ qa_NW := qa_nin (List.mem_append_right _ (List.mem_of_getElem? (i := 226) (by decide +kernel))) rfl
theorem qh_228 : Cond.methodLinkNest R_C 55 y_S_isIn "ChangeStore" ∈ qa_NW := qa_nin (List.mem_append_right _ (List.mem_of_getElem? (i := 228) (by decide +kernel))) rfl
theorem qh_227 : Cond.methodLink R_C 51 y_C_parentOf ∈ qa_WG := qa_in (List.mem_append_right _ (List.mem_of_getElem? (i := 227) (by decide +kernel))) rfl
theorem qh_246 : Cond.code y_C_latestOfChange prog_2_method_10_code 5 (Option.some Jvm.ClassFile.FieldType.int) ∈ qa_WG := qa_in (List.mem_append_right _ (List.mem_of_getElem? (i := 246) (by decide +kernel))) rfl
theorem qh_243 : Cond.methodLink R_D 116 y_C_latestOfChange ∈ qa_WG := qa_in (List.mem_append_right _ (List.mem_of_getElem? (i := 243) (by decide +kernel))) rfl
theorem qh_244 : Cond.instanceMethod y_C_latestOfChange ∈ qa_WG := qa_in (List.mem_append_right _ (List.mem_of_getElem? (i := 244) (by decide +kernel))) rfl
theorem qh_245 : Cond.selects R_C y_C_latestOfChange y_C_latestOfChange ∈ qa_WG := qa_in (List.mem_append_right _ (List.mem_of_getElem? (i := 245) (by decide +kernel))) rfl
theorem qh_242 : Cond.code y_C_changeOf prog_2_method_5_code 2 (Option.some Jvm.ClassFile.FieldType.int) ∈ qa_WG := qa_in (List.mem_append_right _ (List.mem_of_getElem? (i := 242) (by decide +kernel))) rfl
theorem qh_239 : Cond.methodLink R_D 113 y_C_changeOf ∈ qa_WG := qa_in (List.mem_append_right _ (List.mem_of_getElem? (i := 239) (by decide +kernel))) rfl
theorem qh_240 : Cond.instanceMethod y_C_changeOf ∈ qa_WG := qa_in (List.mem_append_right _ (List.mem_of_getElem? (i := 240) (by decide +kernel))) rfl
theorem qh_241 : Cond.selects R_C y_C_changeOf y_C_changeOf ∈ qa_WG := qa_in (List.mem_append_right _ (List.mem_of_getElem? (i := 241) (by decide +kernel))) rfl
theorem qh_238 : Cond.methodLink R_D 74 y_C_has ∈ qa_WG := qa_in (List.mem_append_right _ (List.mem_of_getElem? (i := 238) (by decide +kernel))) rfl
theorem qh_237 : Cond.code y_D_nextTowardsPlace prog_3_method_14_code 5 (Option.some Jvm.ClassFile.FieldType.int) ∈ qa_WG := qa_in (List.mem_append_right _ (List.mem_of_getElem? (i := 237) (by decide +kernel))) rfl
theorem qh_234 : Cond.methodLink R_D 110 y_D_nextTowardsPlace ∈ qa_WG := qa_in (List.mem_append_right _ (List.mem_of_getElem? (i := 234) (by decide +kernel))) rfl
theorem qh_236 : Cond.instanceMethod y_D_nextTowardsPlace ∈ qa_WG := qa_in (List.mem_append_right _ (List.mem_of_getElem? (i := 236) (by decide +kernel))) rfl
theorem qh_s6 : Cond.selects R_D y_D_nextTowardsPlace y_D_nextTowardsPlace ∈ qa_WG := qa_in (List.mem_append_left _ (List.mem_of_getElem? (i := 6) (by decide +kernel))) rfl
theorem qh_265 : Cond.code y_S_isValue prog_1_method_28_code 1 (Option.some Jvm.ClassFile.FieldType.boolean) ∈ qa_WG := qa_in (List.mem_append_right _ (List.mem_of_getElem? (i := 265) (by decide +kernel))) rfl
theorem qh_263 : Cond.methodLinkNest R_C 36 y_S_isValue "ChangeStore" ∈ qa_NW := qa_nin (List.mem_append_right _ (List.mem_of_getElem? (i := 263) (by decide +kernel))) rfl
theorem qh_264 : Cond.static y_S_isValue ∈ qa_WG := qa_in (List.mem_append_right _ (List.mem_of_getElem? (i := 264) (by decide +kernel))) rfl
theorem qh_262 : Cond.code y_S_isPath prog_1_method_27_code 1 (Option.some Jvm.ClassFile.FieldType.boolean) ∈ qa_WG := qa_in (List.mem_append_right _ (List.mem_of_getElem? (i := 262) (by decide +kernel))) rfl
theorem qh_260 : Cond.methodLinkNest R_C 33 y_S_isPath "ChangeStore" ∈ qa_NW := qa_nin (List.mem_append_right _ (List.mem_of_getElem? (i := 260) (by decide +kernel))) rfl
theorem qh_261 : Cond.static y_S_isPath ∈ qa_WG := qa_in (List.mem_append_right _ (List.mem_of_getElem? (i := 261) (by decide +kernel))) rfl
theorem qh_259 : Cond.code y_C_makePlain prog_2_method_15_code 5 (Option.none : Option Jvm.ClassFile.FieldType) ∈ qa_WG := qa_in (List.mem_append_right _ (List.mem_of_getElem? (i := 259) (by decide +kernel))) rfl
theorem qh_256 : Cond.methodLink R_C 80 y_C_makePlain ∈ qa_WG := qa_in (List.mem_append_right _ (List.mem_of_getElem? (i := 256) (by decide +kernel))) rfl
theorem qh_257 : Cond.instanceMethod y_C_makePlain ∈ qa_WG := qa_in (List.mem_append_right _ (List.mem_of_getElem? (i := 257) (by decide +kernel))) rfl
theorem qh_258 : Cond.selects R_C y_C_makePlain y_C_makePlain ∈ qa_WG := qa_in (List.mem_append_right _ (List.mem_of_getElem? (i := 258) (by decide +kernel))) rfl
theorem qh_255 : Cond.code y_C_addDifference prog_2_method_14_code 9 (Option.none : Option Jvm.ClassFile.FieldType) ∈ qa_WG := qa_in (List.mem_append_right _ (List.mem_of_getElem? (i := 255) (by decide +kernel))) rfl
theorem qh_252 : Cond.methodLink R_C 76 y_C_addDifference ∈ qa_WG := qa_in (List.mem_append_right _ (List.mem_of_getElem? (i := 252) (by decide +kernel))) rfl
theorem qh_254 : Cond.instanceMethod y_C_addDifference ∈ qa_WG := qa_in (List.mem_append_right _ (List.mem_of_getElem? (i := 254) (by decide +kernel))) rfl
theorem qh_s7 : Cond.selects R_C y_C_addDifference y_C_addDifference ∈ qa_WG := qa_in (List.mem_append_left _ (List.mem_of_getElem? (i := 7) (by decide +kernel))) rfl
theorem qh_251 : Cond.methodLink R_C 73 y_C_changeOf ∈ qa_WG := qa_in (List.mem_append_right _ (List.mem_of_getElem? (i := 251) (by decide +kernel))) rfl
theorem qh_229 : Cond.constantLong R_D 47 (-1) ∈ qa_WG := qa_in (List.mem_append_right _ (List.mem_of_getElem? (i := 229) (by decide +kernel))) rfl
theorem qh_198 : Cond.code y_D_show prog_3_method_7_code 2 (Option.none : Option Jvm.ClassFile.FieldType) ∈ qa_WG := qa_in (List.mem_append_right _ (List.mem_of_getElem? (i := 198) (by decide +kernel))) rfl
theorem qh_270 : Cond.methodLink R_D 78 y_D_show ∈ qa_WG := qa_in (List.mem_append_right _ (List.mem_of_getElem? (i := 270) (by decide +kernel))) rfl
theorem qh_196 : Cond.instanceMethod y_D_show ∈ qa_WG := qa_in (List.mem_append_right _ (List.mem_of_getElem? (i := 196) (by decide +kernel))) rfl
theorem qh_197 : Cond.selects R_D y_D_show y_D_show ∈ qa_WG := qa_in (List.mem_append_right _ (List.mem_of_getElem? (i := 197) (by decide +kernel))) rfl
theorem qh_269 : Cond.code y_D_replace prog_3_method_9_code 3 (Option.none : Option Jvm.ClassFile.FieldType) ∈ qa_WG := qa_in (List.mem_append_right _ (List.mem_of_getElem? (i := 269) (by decide +kernel))) rfl
theorem qh_266 : Cond.methodLink R_D 103 y_D_replace ∈ qa_WG := qa_in (List.mem_append_right _ (List.mem_of_getElem? (i := 266) (by decide +kernel))) rfl
theorem qh_267 : Cond.instanceMethod y_D_replace ∈ qa_WG := qa_in (List.mem_append_right _ (List.mem_of_getElem? (i := 267) (by decide +kernel))) rfl
theorem qh_268 : Cond.selects R_D y_D_replace y_D_replace ∈ qa_WG := qa_in (List.mem_append_right _ (List.mem_of_getElem? (i := 268) (by decide +kernel))) rfl
theorem qh_250 : Cond.code y_C_addMoved prog_2_method_13_code 6 (Option.some Jvm.ClassFile.FieldType.int) ∈ qa_WG := qa_in (List.mem_append_right _ (List.mem_of_getElem? (i := 250) (by decide +kernel))) rfl
theorem qh_247 : Cond.methodLink R_D 100 y_C_addMoved ∈ qa_WG := qa_in (List.mem_append_right _ (List.mem_of_getElem? (i := 247) (by decide +kernel))) rfl
theorem qh_248 : Cond.instanceMethod y_C_addMoved ∈ qa_WG := qa_in (List.mem_append_right _ (List.mem_of_getElem? (i := 248) (by decide +kernel))) rfl
theorem qh_249 : Cond.selects R_C y_C_addMoved y_C_addMoved ∈ qa_WG := qa_in (List.mem_append_right _ (List.mem_of_getElem? (i := 249) (by decide +kernel))) rfl
theorem qh_233 : Cond.code y_D_placeOf prog_3_method_13_code 6 (Option.some Jvm.ClassFile.FieldType.int) ∈ qa_WG := qa_in (List.mem_append_right _ (List.mem_of_getElem? (i := 233) (by decide +kernel))) rfl
theorem qh_230 : Cond.methodLink R_D 96 y_D_placeOf ∈ qa_WG := qa_in (List.mem_append_right _ (List.mem_of_getElem? (i := 230) (by decide +kernel))) rfl
theorem qh_232 : Cond.instanceMethod y_D_placeOf ∈ qa_WG := qa_in (List.mem_append_right _ (List.mem_of_getElem? (i := 232) (by decide +kernel))) rfl
theorem qh_s5 : Cond.selects R_D y_D_placeOf y_D_placeOf ∈ qa_WG := qa_in (List.mem_append_left _ (List.mem_of_getElem? (i := 5) (by decide +kernel))) rfl
theorem qh_225 : Cond.code y_C_withAllThatComesOf prog_2_method_8_code 5 (Option.some Jvm.ClassFile.FieldType.long) ∈ qa_WG := qa_in (List.mem_append_right _ (List.mem_of_getElem? (i := 225) (by decide +kernel))) rfl
theorem qh_222 : Cond.methodLink R_D 90 y_C_withAllThatComesOf ∈ qa_WG := qa_in (List.mem_append_right _ (List.mem_of_getElem? (i := 222) (by decide +kernel))) rfl
theorem qh_223 : Cond.instanceMethod y_C_withAllThatComesOf ∈ qa_WG := qa_in (List.mem_append_right _ (List.mem_of_getElem? (i := 223) (by decide +kernel))) rfl
theorem qh_224 : Cond.selects R_C y_C_withAllThatComesOf y_C_withAllThatComesOf ∈ qa_WG := qa_in (List.mem_append_right _ (List.mem_of_getElem? (i := 224) (by decide +kernel))) rfl
theorem qh_221 : Cond.methodLink R_D 86 y_C_isFull ∈ qa_WG := qa_in (List.mem_append_right _ (List.mem_of_getElem? (i := 221) (by decide +kernel))) rfl
theorem qh_215 : Cond.code y_D_lowestOrphan prog_3_method_11_code 2 (Option.some Jvm.ClassFile.FieldType.int) ∈ qa_WG := qa_in (List.mem_append_right _ (List.mem_of_getElem? (i := 215) (by decide +kernel))) rfl
theorem qh_212 : Cond.methodLink R_D 82 y_D_lowestOrphan ∈ qa_WG := qa_in (List.mem_append_right _ (List.mem_of_getElem? (i := 212) (by decide +kernel))) rfl
theorem qh_214 : Cond.instanceMethod y_D_lowestOrphan ∈ qa_WG := qa_in (List.mem_append_right _ (List.mem_of_getElem? (i := 214) (by decide +kernel))) rfl
theorem qh_s4 : Cond.selects R_D y_D_lowestOrphan y_D_lowestOrphan ∈ qa_WG := qa_in (List.mem_append_left _ (List.mem_of_getElem? (i := 4) (by decide +kernel))) rfl
theorem qh_50 : Cond.fieldLink R_O 9 R_O "firsts" "[I" ∈ qa_WG := qa_in (List.mem_append_right _ (List.mem_of_getElem? (i := 50) (by decide +kernel))) rfl
theorem qh_51 : Cond.fieldLink R_O 15 R_O "seconds" "[I" ∈ qa_WG := qa_in (List.mem_append_right _ (List.mem_of_getElem? (i := 51) (by decide +kernel))) rfl
theorem qh_81 : Cond.fieldLinkNest R_O 47 R_D "shown" "J" "ChangeStore" ∈ qa_NW := qa_nin (List.mem_append_right _ (List.mem_of_getElem? (i := 81) (by decide +kernel))) rfl
theorem qh_84 : Cond.fieldLinkNest R_O 52 R_D "working" "I" "ChangeStore" ∈ qa_NW := qa_nin (List.mem_append_right _ (List.mem_of_getElem? (i := 84) (by decide +kernel))) rfl
theorem qh_78 : Cond.fieldLinkNest R_O 55 R_D "marks" "[I" "ChangeStore" ∈ qa_NW := qa_nin (List.mem_append_right _ (List.mem_of_getElem? (i := 78) (by decide +kernel))) rfl
theorem qh_284 : Cond.methodLink R_O 56 arraycopyName ∈ qa_WG := qa_in (List.mem_append_right _ (List.mem_of_getElem? (i := 284) (by decide +kernel))) rfl
theorem qh_283 : Cond.methodLink R_O 43 y_O_isFull ∈ qa_WG := qa_in (List.mem_append_right _ (List.mem_of_getElem? (i := 283) (by decide +kernel))) rfl
theorem qh_86 : Cond.fieldLinkNest R_S 166 R_D "commitsAtOpening" "I" "ChangeStore" ∈ qa_NW := qa_nin (List.mem_append_right _ (List.mem_of_getElem? (i := 86) (by decide +kernel))) rfl
theorem qh_274 : Cond.code y_C_dropFrom prog_2_method_16_code 2 (Option.none : Option Jvm.ClassFile.FieldType) ∈ qa_WG := qa_in (List.mem_append_right _ (List.mem_of_getElem? (i := 274) (by decide +kernel))) rfl
theorem qh_271 : Cond.methodLink R_S 169 y_C_dropFrom ∈ qa_WG := qa_in (List.mem_append_right _ (List.mem_of_getElem? (i := 271) (by decide +kernel))) rfl
theorem qh_272 : Cond.instanceMethod y_C_dropFrom ∈ qa_WG := qa_in (List.mem_append_right _ (List.mem_of_getElem? (i := 272) (by decide +kernel))) rfl
theorem qh_273 : Cond.selects R_C y_C_dropFrom y_C_dropFrom ∈ qa_WG := qa_in (List.mem_append_right _ (List.mem_of_getElem? (i := 273) (by decide +kernel))) rfl
theorem qh_282 : Cond.code y_O_add prog_4_method_9_code 5 (Option.some Jvm.ClassFile.FieldType.int) ∈ qa_WG := qa_in (List.mem_append_right _ (List.mem_of_getElem? (i := 282) (by decide +kernel))) rfl
theorem qh_279 : Cond.methodLink R_S 175 y_O_add ∈ qa_WG := qa_in (List.mem_append_right _ (List.mem_of_getElem? (i := 279) (by decide +kernel))) rfl
theorem qh_280 : Cond.instanceMethod y_O_add ∈ qa_WG := qa_in (List.mem_append_right _ (List.mem_of_getElem? (i := 280) (by decide +kernel))) rfl
theorem qh_281 : Cond.selects R_O y_O_add y_O_add ∈ qa_WG := qa_in (List.mem_append_right _ (List.mem_of_getElem? (i := 281) (by decide +kernel))) rfl
theorem qh_278 : Cond.code y_D_settlePointers prog_3_method_12_code 2 (Option.none : Option Jvm.ClassFile.FieldType) ∈ qa_WG := qa_in (List.mem_append_right _ (List.mem_of_getElem? (i := 278) (by decide +kernel))) rfl
theorem qh_275 : Cond.methodLink R_S 172 y_D_settlePointers ∈ qa_WG := qa_in (List.mem_append_right _ (List.mem_of_getElem? (i := 275) (by decide +kernel))) rfl
theorem qh_276 : Cond.instanceMethod y_D_settlePointers ∈ qa_WG := qa_in (List.mem_append_right _ (List.mem_of_getElem? (i := 276) (by decide +kernel))) rfl
theorem qh_277 : Cond.selects R_D y_D_settlePointers y_D_settlePointers ∈ qa_WG := qa_in (List.mem_append_right _ (List.mem_of_getElem? (i := 277) (by decide +kernel))) rfl
theorem qh_211 : Cond.code y_D_settleCommits prog_3_method_10_code 5 (Option.some Jvm.ClassFile.FieldType.boolean) ∈ qa_WG := qa_in (List.mem_append_right _ (List.mem_of_getElem? (i := 211) (by decide +kernel))) rfl
theorem qh_208 : Cond.methodLink R_S 163 y_D_settleCommits ∈ qa_WG := qa_in (List.mem_append_right _ (List.mem_of_getElem? (i := 208) (by decide +kernel))) rfl
theorem qh_209 : Cond.instanceMethod y_D_settleCommits ∈ qa_WG := qa_in (List.mem_append_right _ (List.mem_of_getElem? (i := 209) (by decide +kernel))) rfl
theorem qh_210 : Cond.selects R_D y_D_settleCommits y_D_settleCommits ∈ qa_WG := qa_in (List.mem_append_right _ (List.mem_of_getElem? (i := 210) (by decide +kernel))) rfl
theorem qh_207 : Cond.code y_S_keepDraft prog_1_method_26_code 4 (Option.some Jvm.ClassFile.FieldType.int) ∈ qa_WG := qa_in (List.mem_append_right _ (List.mem_of_getElem? (i := 207) (by decide +kernel))) rfl
theorem qh_204 : Cond.methodLink R_S 65 y_S_keepDraft ∈ qa_WG := qa_in (List.mem_append_right _ (List.mem_of_getElem? (i := 204) (by decide +kernel))) rfl
theorem qh_206 : Cond.instanceMethod y_S_keepDraft ∈ qa_WG := qa_in (List.mem_append_right _ (List.mem_of_getElem? (i := 206) (by decide +kernel))) rfl
theorem qh_s3 : Cond.selects R_S y_S_keepDraft y_S_keepDraft ∈ qa_WG := qa_in (List.mem_append_left _ (List.mem_of_getElem? (i := 3) (by decide +kernel))) rfl
theorem qh_203 : Cond.code y_D_workOn prog_3_method_8_code 2 (Option.none : Option Jvm.ClassFile.FieldType) ∈ qa_WG := qa_in (List.mem_append_right _ (List.mem_of_getElem? (i := 203) (by decide +kernel))) rfl
theorem qh_200 : Cond.methodLink R_S 62 y_D_workOn ∈ qa_WG := qa_in (List.mem_append_right _ (List.mem_of_getElem? (i := 200) (by decide +kernel))) rfl
theorem qh_201 : Cond.instanceMethod y_D_workOn ∈ qa_WG := qa_in (List.mem_append_right _ (List.mem_of_getElem? (i := 201) (by decide +kernel))) rfl
theorem qh_202 : Cond.selects R_D y_D_workOn y_D_workOn ∈ qa_WG := qa_in (List.mem_append_right _ (List.mem_of_getElem? (i := 202) (by decide +kernel))) rfl
theorem qh_195 : Cond.methodLink R_S 58 y_D_show ∈ qa_WG := qa_in (List.mem_append_right _ (List.mem_of_getElem? (i := 195) (by decide +kernel))) rfl
theorem qh_179 : Cond.code y_C_addNewChange prog_2_method_11_code 2 (Option.some Jvm.ClassFile.FieldType.int) ∈ qa_WG := qa_in (List.mem_append_right _ (List.mem_of_getElem? (i := 179) (by decide +kernel))) rfl
theorem qh_176 : Cond.methodLink R_S 54 y_C_addNewChange ∈ qa_WG := qa_in (List.mem_append_right _ (List.mem_of_getElem? (i := 176) (by decide +kernel))) rfl
theorem qh_177 : Cond.instanceMethod y_C_addNewChange ∈ qa_WG := qa_in (List.mem_append_right _ (List.mem_of_getElem? (i := 177) (by decide +kernel))) rfl
theorem qh_178 : Cond.selects R_C y_C_addNewChange y_C_addNewChange ∈ qa_WG := qa_in (List.mem_append_right _ (List.mem_of_getElem? (i := 178) (by decide +kernel))) rfl
theorem qh_167 : Cond.code y_S_hasRoomForCommit prog_1_method_23_code 1 (Option.some Jvm.ClassFile.FieldType.boolean) ∈ qa_WG := qa_in (List.mem_append_right _ (List.mem_of_getElem? (i := 167) (by decide +kernel))) rfl
theorem qh_164 : Cond.methodLink R_S 50 y_S_hasRoomForCommit ∈ qa_WG := qa_in (List.mem_append_right _ (List.mem_of_getElem? (i := 164) (by decide +kernel))) rfl
theorem qh_166 : Cond.instanceMethod y_S_hasRoomForCommit ∈ qa_WG := qa_in (List.mem_append_right _ (List.mem_of_getElem? (i := 166) (by decide +kernel))) rfl
theorem qh_s2 : Cond.selects R_S y_S_hasRoomForCommit y_S_hasRoomForCommit ∈ qa_WG := qa_in (List.mem_append_left _ (List.mem_of_getElem? (i := 2) (by decide +kernel))) rfl
theorem qh_157 : Cond.methodLink R_S 46 y_D_shows ∈ qa_WG := qa_in (List.mem_append_right _ (List.mem_of_getElem? (i := 157) (by decide +kernel))) rfl
theorem qh_126 : Cond.code y_S_openDraft prog_1_method_25_code 1 (Option.none : Option Jvm.ClassFile.FieldType) ∈ qa_WG := qa_in (List.mem_append_right _ (List.mem_of_getElem? (i := 126) (by decide +kernel))) rfl
theorem qh_123 : Cond.methodLink R_S 43 y_S_openDraft ∈ qa_WG := qa_in (List.mem_append_right _ (List.mem_of_getElem? (i := 123) (by decide +kernel))) rfl
theorem qh_125 : Cond.instanceMethod y_S_openDraft ∈ qa_WG := qa_in (List.mem_append_right _ (List.mem_of_getElem? (i := 125) (by decide +kernel))) rfl
theorem qh_s0 : Cond.selects R_S y_S_openDraft y_S_openDraft ∈ qa_WG := qa_in (List.mem_append_left _ (List.mem_of_getElem? (i := 0) (by decide +kernel))) rfl
theorem qh_298 : Cond.code y_C_countOf prog_2_method_6_code 4 (Option.some Jvm.ClassFile.FieldType.long) ∈ qa_WG := qa_in (List.mem_append_right _ (List.mem_of_getElem? (i := 298) (by decide +kernel))) rfl
theorem qh_295 : Cond.methodLink R_C 43 y_C_countOf ∈ qa_WG := qa_in (List.mem_append_right _ (List.mem_of_getElem? (i := 295) (by decide +kernel))) rfl
theorem qh_296 : Cond.instanceMethod y_C_countOf ∈ qa_WG := qa_in (List.mem_append_right _ (List.mem_of_getElem? (i := 296) (by decide +kernel))) rfl
theorem qh_297 : Cond.selects R_C y_C_countOf y_C_countOf ∈ qa_WG := qa_in (List.mem_append_right _ (List.mem_of_getElem? (i := 297) (by decide +kernel))) rfl
theorem qh_83 : Cond.fieldLinkNest R_S 69 R_D "working" "I" "ChangeStore" ∈ qa_NW := qa_nin (List.mem_append_right _ (List.mem_of_getElem? (i := 83) (by decide +kernel))) rfl
theorem qh_303 : Cond.methodLink R_S 96 y_D_replace ∈ qa_WG := qa_in (List.mem_append_right _ (List.mem_of_getElem? (i := 303) (by decide +kernel))) rfl
theorem qh_302 : Cond.methodLink R_S 92 y_C_makePlain ∈ qa_WG := qa_in (List.mem_append_right _ (List.mem_of_getElem? (i := 302) (by decide +kernel))) rfl
theorem qh_301 : Cond.methodLink R_S 88 y_C_addCopy ∈ qa_WG := qa_in (List.mem_append_right _ (List.mem_of_getElem? (i := 301) (by decide +kernel))) rfl
theorem qh_300 : Cond.methodLink R_S 85 y_C_parentOf ∈ qa_WG := qa_in (List.mem_append_right _ (List.mem_of_getElem? (i := 300) (by decide +kernel))) rfl
theorem qh_299 : Cond.methodLink R_S 82 y_C_changeOf ∈ qa_WG := qa_in (List.mem_append_right _ (List.mem_of_getElem? (i := 299) (by decide +kernel))) rfl
theorem qh_294 : Cond.code y_C_isPlain prog_2_method_7_code 5 (Option.some Jvm.ClassFile.FieldType.boolean) ∈ qa_WG := qa_in (List.mem_append_right _ (List.mem_of_getElem? (i := 294) (by decide +kernel))) rfl
theorem qh_291 : Cond.methodLink R_S 78 y_C_isPlain ∈ qa_WG := qa_in (List.mem_append_right _ (List.mem_of_getElem? (i := 291) (by decide +kernel))) rfl
theorem qh_292 : Cond.instanceMethod y_C_isPlain ∈ qa_WG := qa_in (List.mem_append_right _ (List.mem_of_getElem? (i := 292) (by decide +kernel))) rfl
theorem qh_293 : Cond.selects R_C y_C_isPlain y_C_isPlain ∈ qa_WG := qa_in (List.mem_append_right _ (List.mem_of_getElem? (i := 293) (by decide +kernel))) rfl
theorem qh_290 : Cond.methodLink R_S 75 y_S_isValue ∈ qa_WG := qa_in (List.mem_append_right _ (List.mem_of_getElem? (i := 290) (by decide +kernel))) rfl
theorem qh_289 : Cond.methodLink R_S 72 y_S_isPath ∈ qa_WG := qa_in (List.mem_append_right _ (List.mem_of_getElem? (i := 289) (by decide +kernel))) rfl
theorem qh_314 : Cond.methodLink R_S 111 y_C_addMoved ∈ qa_WG := qa_in (List.mem_append_right _ (List.mem_of_getElem? (i := 314) (by decide +kernel))) rfl
theorem qh_313 : Cond.methodLink R_S 107 y_S_isIn ∈ qa_WG := qa_in (List.mem_append_right _ (List.mem_of_getElem? (i := 313) (by decide +kernel))) rfl
theorem qh_312 : Cond.methodLink R_S 103 y_C_withAllThatComesOf ∈ qa_WG := qa_in (List.mem_append_right _ (List.mem_of_getElem? (i := 312) (by decide +kernel))) rfl
theorem qh_311 : Cond.code y_S_isReplaceable prog_1_method_24_code 2 (Option.some Jvm.ClassFile.FieldType.boolean) ∈ qa_WG := qa_in (List.mem_append_right _ (List.mem_of_getElem? (i := 311) (by decide +kernel))) rfl
theorem qh_308 : Cond.methodLink R_S 100 y_S_isReplaceable ∈ qa_WG := qa_in (List.mem_append_right _ (List.mem_of_getElem? (i := 308) (by decide +kernel))) rfl
theorem qh_310 : Cond.instanceMethod y_S_isReplaceable ∈ qa_WG := qa_in (List.mem_append_right _ (List.mem_of_getElem? (i := 310) (by decide +kernel))) rfl
theorem qh_s8 : Cond.selects R_S y_S_isReplaceable y_S_isReplaceable ∈ qa_WG := qa_in (List.mem_append_left _ (List.mem_of_getElem? (i := 8) (by decide +kernel))) rfl
theorem qh_77 : Cond.fieldLinkNest R_S 117 R_D "marks" "[I" "ChangeStore" ∈ qa_NW := qa_nin (List.mem_append_right _ (List.mem_of_getElem? (i := 77) (by decide +kernel))) rfl
theorem qh_331 : Cond.methodLink R_S 114 y_S_isMark ∈ qa_WG := qa_in (List.mem_append_right _ (List.mem_of_getElem? (i := 331) (by decide +kernel))) rfl
theorem qh_343 : Cond.code y_O_secondBefore prog_4_method_5_code 2 (Option.some Jvm.ClassFile.FieldType.int) ∈ qa_WG := qa_in (List.mem_append_right _ (List.mem_of_getElem? (i := 343) (by decide +kernel))) rfl
theorem qh_340 : Cond.methodLink R_S 123 y_O_secondBefore ∈ qa_WG := qa_in (List.mem_append_right _ (List.mem_of_getElem? (i := 340) (by decide +kernel))) rfl
theorem qh_341 : Cond.instanceMethod y_O_secondBefore ∈ qa_WG := qa_in (List.mem_append_right _ (List.mem_of_getElem? (i := 341) (by decide +kernel))) rfl
theorem qh_342 : Cond.selects R_O y_O_secondBefore y_O_secondBefore ∈ qa_WG := qa_in (List.mem_append_right _ (List.mem_of_getElem? (i := 342) (by decide +kernel))) rfl
theorem qh_339 : Cond.code y_O_firstBefore prog_4_method_4_code 2 (Option.some Jvm.ClassFile.FieldType.int) ∈ qa_WG := qa_in (List.mem_append_right _ (List.mem_of_getElem? (i := 339) (by decide +kernel))) rfl
theorem qh_336 : Cond.methodLink R_S 120 y_O_firstBefore ∈ qa_WG := qa_in (List.mem_append_right _ (List.mem_of_getElem? (i := 336) (by decide +kernel))) rfl
theorem qh_337 : Cond.instanceMethod y_O_firstBefore ∈ qa_WG := qa_in (List.mem_append_right _ (List.mem_of_getElem? (i := 337) (by decide +kernel))) rfl
theorem qh_338 : Cond.selects R_O y_O_firstBefore y_O_firstBefore ∈ qa_WG := qa_in (List.mem_append_right _ (List.mem_of_getElem? (i := 338) (by decide +kernel))) rfl
theorem qh_348 : Cond.methodLink R_S 130 y_O_has ∈ qa_WG := qa_in (List.mem_append_right _ (List.mem_of_getElem? (i := 348) (by decide +kernel))) rfl
theorem qh_105 : Cond.fieldLink R_S 40 R_S "lineOneBegan" "I" ∈ qa_WG := qa_in (List.mem_append_right _ (List.mem_of_getElem? (i := 105) (by decide +kernel))) rfl
theorem qh_356 : Cond.code y_S_hasLineOne prog_1_method_22_code 1 (Option.some Jvm.ClassFile.FieldType.boolean) ∈ qa_WG := qa_in (List.mem_append_right _ (List.mem_of_getElem? (i := 356) (by decide +kernel))) rfl
theorem qh_353 : Cond.methodLink R_S 133 y_S_hasLineOne ∈ qa_WG := qa_in (List.mem_append_right _ (List.mem_of_getElem? (i := 353) (by decide +kernel))) rfl
theorem qh_355 : Cond.instanceMethod y_S_hasLineOne ∈ qa_WG := qa_in (List.mem_append_right _ (List.mem_of_getElem? (i := 355) (by decide +kernel))) rfl
theorem qh_s9 : Cond.selects R_S y_S_hasLineOne y_S_hasLineOne ∈ qa_WG := qa_in (List.mem_append_left _ (List.mem_of_getElem? (i := 9) (by decide +kernel))) rfl
theorem qh_371 : Cond.code y_D_joinedMark prog_3_method_5_code 3 (Option.some Jvm.ClassFile.FieldType.int) ∈ qa_WG := qa_in (List.mem_append_right _ (List.mem_of_getElem? (i := 371) (by decide +kernel))) rfl
theorem qh_369 : Cond.methodLink R_D 49 y_D_joinedMark ∈ qa_WG := qa_in (List.mem_append_right _ (List.mem_of_getElem? (i := 369) (by decide +kernel))) rfl
theorem qh_370 : Cond.static y_D_joinedMark ∈ qa_WG := qa_in (List.mem_append_right _ (List.mem_of_getElem? (i := 370) (by decide +kernel))) rfl
theorem qh_368 : Cond.code y_D_openJoined prog_3_method_3_code 11 (Option.none : Option Jvm.ClassFile.FieldType) ∈ qa_WG := qa_in (List.mem_append_right _ (List.mem_of_getElem? (i := 368) (by decide +kernel))) rfl
theorem qh_365 : Cond.methodLink R_S 136 y_D_openJoined ∈ qa_WG := qa_in (List.mem_append_right _ (List.mem_of_getElem? (i := 365) (by decide +kernel))) rfl
theorem qh_366 : Cond.instanceMethod y_D_openJoined ∈ qa_WG := qa_in (List.mem_append_right _ (List.mem_of_getElem? (i := 366) (by decide +kernel))) rfl
theorem qh_367 : Cond.selects R_D y_D_openJoined y_D_openJoined ∈ qa_WG := qa_in (List.mem_append_right _ (List.mem_of_getElem? (i := 367) (by decide +kernel))) rfl
theorem qh_384 : Cond.methodLink R_S 140 y_O_shownIn ∈ qa_WG := qa_in (List.mem_append_right _ (List.mem_of_getElem? (i := 384) (by decide +kernel))) rfl
theorem qh_389 : Cond.methodLink R_S 143 y_O_workingIn ∈ qa_WG := qa_in (List.mem_append_right _ (List.mem_of_getElem? (i := 389) (by decide +kernel))) rfl
theorem qh_394 : Cond.methodLink R_S 146 y_O_markIn ∈ qa_WG := qa_in (List.mem_append_right _ (List.mem_of_getElem? (i := 394) (by decide +kernel))) rfl
theorem qh_403 : Cond.constantLong R_S 153 (-1) ∈ qa_WG := qa_in (List.mem_append_right _ (List.mem_of_getElem? (i := 403) (by decide +kernel))) rfl
theorem qh_402 : Cond.code y_C_parentsOf prog_2_method_9_code 6 (Option.some Jvm.ClassFile.FieldType.long) ∈ qa_WG := qa_in (List.mem_append_right _ (List.mem_of_getElem? (i := 402) (by decide +kernel))) rfl
theorem qh_399 : Cond.methodLink R_S 149 y_C_parentsOf ∈ qa_WG := qa_in (List.mem_append_right _ (List.mem_of_getElem? (i := 399) (by decide +kernel))) rfl
theorem qh_400 : Cond.instanceMethod y_C_parentsOf ∈ qa_WG := qa_in (List.mem_append_right _ (List.mem_of_getElem? (i := 400) (by decide +kernel))) rfl
theorem qh_401 : Cond.selects R_C y_C_parentsOf y_C_parentsOf ∈ qa_WG := qa_in (List.mem_append_right _ (List.mem_of_getElem? (i := 401) (by decide +kernel))) rfl
theorem qh_412 : Cond.methodLink R_S 155 y_C_countOf ∈ qa_WG := qa_in (List.mem_append_right _ (List.mem_of_getElem? (i := 412) (by decide +kernel))) rfl
theorem qh_431 : Cond.fieldLink R_M 39 R_M "current" "[I" ∈ qa_WG := qa_in (List.mem_append_right _ (List.mem_of_getElem? (i := 431) (by decide +kernel))) rfl
theorem qh_434 : Cond.fieldLink R_M 58 R_M "chosen" "I" ∈ qa_WG := qa_in (List.mem_append_right _ (List.mem_of_getElem? (i := 434) (by decide +kernel))) rfl
theorem qh_419 : Cond.fieldLink R_M 51 R_M "commits" "I" ∈ qa_WG := qa_in (List.mem_append_right _ (List.mem_of_getElem? (i := 419) (by decide +kernel))) rfl
theorem qh_428 : Cond.fieldLink R_M 30 R_M "seen" "[Z" ∈ qa_WG := qa_in (List.mem_append_right _ (List.mem_of_getElem? (i := 428) (by decide +kernel))) rfl
theorem qh_430 : Cond.fieldLink R_M 36 R_M "work" "[I" ∈ qa_WG := qa_in (List.mem_append_right _ (List.mem_of_getElem? (i := 430) (by decide +kernel))) rfl
theorem qh_437 : Cond.fieldLink R_M 65 R_M "nowWork" "I" ∈ qa_WG := qa_in (List.mem_append_right _ (List.mem_of_getElem? (i := 437) (by decide +kernel))) rfl
theorem qh_439 : Cond.fieldLink R_M 68 R_M "oldCommits" "I" ∈ qa_WG := qa_in (List.mem_append_right _ (List.mem_of_getElem? (i := 439) (by decide +kernel))) rfl
theorem qh_420 : Cond.fieldLink R_M 71 R_M "changes" "I" ∈ qa_WG := qa_in (List.mem_append_right _ (List.mem_of_getElem? (i := 420) (by decide +kernel))) rfl
theorem qh_440 : Cond.fieldLink R_M 74 R_M "oldChanges" "I" ∈ qa_WG := qa_in (List.mem_append_right _ (List.mem_of_getElem? (i := 440) (by decide +kernel))) rfl
theorem qh_441 : Cond.fieldLink R_M 77 R_M "full" "Z" ∈ qa_WG := qa_in (List.mem_append_right _ (List.mem_of_getElem? (i := 441) (by decide +kernel))) rfl
theorem qh_436 : Cond.fieldLink R_M 45 R_M "nowMark" "[I" ∈ qa_WG := qa_in (List.mem_append_right _ (List.mem_of_getElem? (i := 436) (by decide +kernel))) rfl
theorem qh_429 : Cond.fieldLink R_M 33 R_M "marks" "[I" ∈ qa_WG := qa_in (List.mem_append_right _ (List.mem_of_getElem? (i := 429) (by decide +kernel))) rfl
theorem qh_435 : Cond.fieldLink R_M 42 R_M "now" "[Z" ∈ qa_WG := qa_in (List.mem_append_right _ (List.mem_of_getElem? (i := 435) (by decide +kernel))) rfl
theorem qh_438 : Cond.fieldLink R_M 48 R_M "replaced" "[I" ∈ qa_WG := qa_in (List.mem_append_right _ (List.mem_of_getElem? (i := 438) (by decide +kernel))) rfl
theorem qh_421 : Cond.fieldLink R_M 7 R_M "change" "[I" ∈ qa_WG := qa_in (List.mem_append_right _ (List.mem_of_getElem? (i := 421) (by decide +kernel))) rfl
theorem qh_422 : Cond.fieldLink R_M 13 R_M "parent" "[I" ∈ qa_WG := qa_in (List.mem_append_right _ (List.mem_of_getElem? (i := 422) (by decide +kernel))) rfl
theorem qh_423 : Cond.fieldLink R_M 16 R_M "counts" "[J" ∈ qa_WG := qa_in (List.mem_append_right _ (List.mem_of_getElem? (i := 423) (by decide +kernel))) rfl
theorem qh_424 : Cond.fieldLink R_M 55 R_M "operations" "I" ∈ qa_WG := qa_in (List.mem_append_right _ (List.mem_of_getElem? (i := 424) (by decide +kernel))) rfl
theorem qh_425 : Cond.fieldLink R_M 20 R_M "first" "[I" ∈ qa_WG := qa_in (List.mem_append_right _ (List.mem_of_getElem? (i := 425) (by decide +kernel))) rfl
theorem qh_426 : Cond.fieldLink R_M 23 R_M "second" "[I" ∈ qa_WG := qa_in (List.mem_append_right _ (List.mem_of_getElem? (i := 426) (by decide +kernel))) rfl
theorem qh_497 : Cond.code y_M_here prog_6_method_2_code 1 (Option.some Jvm.ClassFile.FieldType.int) ∈ qa_WG := qa_in (List.mem_append_right _ (List.mem_of_getElem? (i := 497) (by decide +kernel))) rfl
theorem qh_494 : Cond.methodLink R_M 107 y_M_here ∈ qa_WG := qa_in (List.mem_append_right _ (List.mem_of_getElem? (i := 494) (by decide +kernel))) rfl
theorem qh_496 : Cond.instanceMethod y_M_here ∈ qa_WG := qa_in (List.mem_append_right _ (List.mem_of_getElem? (i := 496) (by decide +kernel))) rfl
theorem qh_s10 : Cond.selects R_M y_M_here y_M_here ∈ qa_WG := qa_in (List.mem_append_left _ (List.mem_of_getElem? (i := 10) (by decide +kernel))) rfl
theorem qh_5 : Cond.initialized R_M ∈ qa_WG := qa_in (List.mem_append_right _ (List.mem_of_getElem? (i := 5) (by decide +kernel))) rfl
theorem qh_521 : Cond.code y_M_finish prog_6_method_16_code 5 (Option.some Jvm.ClassFile.FieldType.int) ∈ qa_WG := qa_in (List.mem_append_right _ (List.mem_of_getElem? (i := 521) (by decide +kernel))) rfl
theorem qh_518 : Cond.methodLink R_M 110 y_M_finish ∈ qa_WG := qa_in (List.mem_append_right _ (List.mem_of_getElem? (i := 518) (by decide +kernel))) rfl
theorem qh_520 : Cond.instanceMethod y_M_finish ∈ qa_WG := qa_in (List.mem_append_right _ (List.mem_of_getElem? (i := 520) (by decide +kernel))) rfl
theorem qh_s16 : Cond.selects R_M y_M_finish y_M_finish ∈ qa_WG := qa_in (List.mem_append_left _ (List.mem_of_getElem? (i := 16) (by decide +kernel))) rfl
theorem qh_517 : Cond.code y_M_done prog_6_method_17_code 2 (Option.some Jvm.ClassFile.FieldType.int) ∈ qa_WG := qa_in (List.mem_append_right _ (List.mem_of_getElem? (i := 517) (by decide +kernel))) rfl
theorem qh_514 : Cond.methodLink R_M 123 y_M_done ∈ qa_WG := qa_in (List.mem_append_right _ (List.mem_of_getElem? (i := 514) (by decide +kernel))) rfl
theorem qh_516 : Cond.instanceMethod y_M_done ∈ qa_WG := qa_in (List.mem_append_right _ (List.mem_of_getElem? (i := 516) (by decide +kernel))) rfl
theorem qh_s15 : Cond.selects R_M y_M_done y_M_done ∈ qa_WG := qa_in (List.mem_append_left _ (List.mem_of_getElem? (i := 15) (by decide +kernel))) rfl
theorem qh_513 : Cond.code y_M_copyContents prog_6_method_6_code 4 (Option.none : Option Jvm.ClassFile.FieldType) ∈ qa_WG := qa_in (List.mem_append_right _ (List.mem_of_getElem? (i := 513) (by decide +kernel))) rfl
theorem qh_510 : Cond.methodLink R_M 120 y_M_copyContents ∈ qa_WG := qa_in (List.mem_append_right _ (List.mem_of_getElem? (i := 510) (by decide +kernel))) rfl
theorem qh_512 : Cond.instanceMethod y_M_copyContents ∈ qa_WG := qa_in (List.mem_append_right _ (List.mem_of_getElem? (i := 512) (by decide +kernel))) rfl
theorem qh_s14 : Cond.selects R_M y_M_copyContents y_M_copyContents ∈ qa_WG := qa_in (List.mem_append_left _ (List.mem_of_getElem? (i := 14) (by decide +kernel))) rfl
theorem qh_509 : Cond.code y_M_fresh prog_6_method_9_code 3 (Option.some Jvm.ClassFile.FieldType.int) ∈ qa_WG := qa_in (List.mem_append_right _ (List.mem_of_getElem? (i := 509) (by decide +kernel))) rfl
theorem qh_506 : Cond.methodLink R_M 96 y_M_fresh ∈ qa_WG := qa_in (List.mem_append_right _ (List.mem_of_getElem? (i := 506) (by decide +kernel))) rfl
theorem qh_508 : Cond.instanceMethod y_M_fresh ∈ qa_WG := qa_in (List.mem_append_right _ (List.mem_of_getElem? (i := 508) (by decide +kernel))) rfl
theorem qh_s13 : Cond.selects R_M y_M_fresh y_M_fresh ∈ qa_WG := qa_in (List.mem_append_left _ (List.mem_of_getElem? (i := 13) (by decide +kernel))) rfl
theorem qh_505 : Cond.code y_M_begin prog_6_method_8_code 3 (Option.none : Option Jvm.ClassFile.FieldType) ∈ qa_WG := qa_in (List.mem_append_right _ (List.mem_of_getElem? (i := 505) (by decide +kernel))) rfl
theorem qh_502 : Cond.methodLink R_M 116 y_M_begin ∈ qa_WG := qa_in (List.mem_append_right _ (List.mem_of_getElem? (i := 502) (by decide +kernel))) rfl
theorem qh_504 : Cond.instanceMethod y_M_begin ∈ qa_WG := qa_in (List.mem_append_right _ (List.mem_of_getElem? (i := 504) (by decide +kernel))) rfl
theorem qh_s12 : Cond.selects R_M y_M_begin y_M_begin ∈ qa_WG := qa_in (List.mem_append_left _ (List.mem_of_getElem? (i := 12) (by decide +kernel))) rfl
theorem qh_501 : Cond.code y_M_isVisible prog_6_method_3_code 3 (Option.some Jvm.ClassFile.FieldType.boolean) ∈ qa_WG := qa_in (List.mem_append_right _ (List.mem_of_getElem? (i := 501) (by decide +kernel))) rfl
theorem qh_498 : Cond.methodLink R_M 113 y_M_isVisible ∈ qa_WG := qa_in (List.mem_append_right _ (List.mem_of_getElem? (i := 498) (by decide +kernel))) rfl
theorem qh_500 : Cond.instanceMethod y_M_isVisible ∈ qa_WG := qa_in (List.mem_append_right _ (List.mem_of_getElem? (i := 500) (by decide +kernel))) rfl
theorem qh_s11 : Cond.selects R_M y_M_isVisible y_M_isVisible ∈ qa_WG := qa_in (List.mem_append_left _ (List.mem_of_getElem? (i := 11) (by decide +kernel))) rfl
theorem qh_557 : Cond.code y_M_comesOf prog_6_method_11_code 4 (Option.some Jvm.ClassFile.FieldType.boolean) ∈ qa_WG := qa_in (List.mem_append_right _ (List.mem_of_getElem? (i := 557) (by decide +kernel))) rfl
theorem qh_554 : Cond.methodLink R_M 81 y_M_comesOf ∈ qa_WG := qa_in (List.mem_append_right _ (List.mem_of_getElem? (i := 554) (by decide +kernel))) rfl
theorem qh_556 : Cond.instanceMethod y_M_comesOf ∈ qa_WG := qa_in (List.mem_append_right _ (List.mem_of_getElem? (i := 556) (by decide +kernel))) rfl
theorem qh_s24 : Cond.selects R_M y_M_comesOf y_M_comesOf ∈ qa_WG := qa_in (List.mem_append_left _ (List.mem_of_getElem? (i := 24) (by decide +kernel))) rfl
theorem qh_553 : Cond.code y_M_sameChange prog_6_method_12_code 5 (Option.some Jvm.ClassFile.FieldType.int) ∈ qa_WG := qa_in (List.mem_append_right _ (List.mem_of_getElem? (i := 553) (by decide +kernel))) rfl
theorem qh_550 : Cond.methodLink R_M 85 y_M_sameChange ∈ qa_WG := qa_in (List.mem_append_right _ (List.mem_of_getElem? (i := 550) (by decide +kernel))) rfl
theorem qh_552 : Cond.instanceMethod y_M_sameChange ∈ qa_WG := qa_in (List.mem_append_right _ (List.mem_of_getElem? (i := 552) (by decide +kernel))) rfl
theorem qh_s23 : Cond.selects R_M y_M_sameChange y_M_sameChange ∈ qa_WG := qa_in (List.mem_append_left _ (List.mem_of_getElem? (i := 23) (by decide +kernel))) rfl
theorem qh_533 : Cond.code y_M_setPlain prog_6_method_5_code 5 (Option.none : Option Jvm.ClassFile.FieldType) ∈ qa_WG := qa_in (List.mem_append_right _ (List.mem_of_getElem? (i := 533) (by decide +kernel))) rfl
theorem qh_530 : Cond.methodLink R_M 61 y_M_setPlain ∈ qa_WG := qa_in (List.mem_append_right _ (List.mem_of_getElem? (i := 530) (by decide +kernel))) rfl
theorem qh_532 : Cond.instanceMethod y_M_setPlain ∈ qa_WG := qa_in (List.mem_append_right _ (List.mem_of_getElem? (i := 532) (by decide +kernel))) rfl
theorem qh_s18 : Cond.selects R_M y_M_setPlain y_M_setPlain ∈ qa_WG := qa_in (List.mem_append_left _ (List.mem_of_getElem? (i := 18) (by decide +kernel))) rfl
theorem qh_549 : Cond.code y_M_place prog_6_method_13_code 6 (Option.some Jvm.ClassFile.FieldType.int) ∈ qa_WG := qa_in (List.mem_append_right _ (List.mem_of_getElem? (i := 549) (by decide +kernel))) rfl
theorem qh_546 : Cond.methodLink R_M 93 y_M_place ∈ qa_WG := qa_in (List.mem_append_right _ (List.mem_of_getElem? (i := 546) (by decide +kernel))) rfl
theorem qh_548 : Cond.instanceMethod y_M_place ∈ qa_WG := qa_in (List.mem_append_right _ (List.mem_of_getElem? (i := 548) (by decide +kernel))) rfl
theorem qh_s22 : Cond.selects R_M y_M_place y_M_place ∈ qa_WG := qa_in (List.mem_append_left _ (List.mem_of_getElem? (i := 22) (by decide +kernel))) rfl
theorem qh_545 : Cond.code y_M_loose prog_6_method_14_code 2 (Option.some Jvm.ClassFile.FieldType.int) ∈ qa_WG := qa_in (List.mem_append_right _ (List.mem_of_getElem? (i := 545) (by decide +kernel))) rfl
theorem qh_542 : Cond.methodLink R_M 89 y_M_loose ∈ qa_WG := qa_in (List.mem_append_right _ (List.mem_of_getElem? (i := 542) (by decide +kernel))) rfl
theorem qh_544 : Cond.instanceMethod y_M_loose ∈ qa_WG := qa_in (List.mem_append_right _ (List.mem_of_getElem? (i := 544) (by decide +kernel))) rfl
theorem qh_s21 : Cond.selects R_M y_M_loose y_M_loose ∈ qa_WG := qa_in (List.mem_append_left _ (List.mem_of_getElem? (i := 21) (by decide +kernel))) rfl
theorem qh_537 : Cond.code y_M_replace prog_6_method_10_code 3 (Option.none : Option Jvm.ClassFile.FieldType) ∈ qa_WG := qa_in (List.mem_append_right _ (List.mem_of_getElem? (i := 537) (by decide +kernel))) rfl
theorem qh_534 : Cond.methodLink R_M 103 y_M_replace ∈ qa_WG := qa_in (List.mem_append_right _ (List.mem_of_getElem? (i := 534) (by decide +kernel))) rfl
theorem qh_536 : Cond.instanceMethod y_M_replace ∈ qa_WG := qa_in (List.mem_append_right _ (List.mem_of_getElem? (i := 536) (by decide +kernel))) rfl
theorem qh_s19 : Cond.selects R_M y_M_replace y_M_replace ∈ qa_WG := qa_in (List.mem_append_left _ (List.mem_of_getElem? (i := 19) (by decide +kernel))) rfl
theorem qh_561 : Cond.code y_M_mix prog_6_method_7_code 12 (Option.none : Option Jvm.ClassFile.FieldType) ∈ qa_WG := qa_in (List.mem_append_right _ (List.mem_of_getElem? (i := 561) (by decide +kernel))) rfl
theorem qh_558 : Cond.methodLink R_M 99 y_M_mix ∈ qa_WG := qa_in (List.mem_append_right _ (List.mem_of_getElem? (i := 558) (by decide +kernel))) rfl
theorem qh_560 : Cond.instanceMethod y_M_mix ∈ qa_WG := qa_in (List.mem_append_right _ (List.mem_of_getElem? (i := 560) (by decide +kernel))) rfl
theorem qh_s25 : Cond.selects R_M y_M_mix y_M_mix ∈ qa_WG := qa_in (List.mem_append_left _ (List.mem_of_getElem? (i := 25) (by decide +kernel))) rfl
theorem qh_541 : Cond.code y_M_settle prog_6_method_15_code 4 (Option.none : Option Jvm.ClassFile.FieldType) ∈ qa_WG := qa_in (List.mem_append_right _ (List.mem_of_getElem? (i := 541) (by decide +kernel))) rfl
theorem qh_538 : Cond.methodLink R_M 130 y_M_settle ∈ qa_WG := qa_in (List.mem_append_right _ (List.mem_of_getElem? (i := 538) (by decide +kernel))) rfl
theorem qh_540 : Cond.instanceMethod y_M_settle ∈ qa_WG := qa_in (List.mem_append_right _ (List.mem_of_getElem? (i := 540) (by decide +kernel))) rfl
theorem qh_s20 : Cond.selects R_M y_M_settle y_M_settle ∈ qa_WG := qa_in (List.mem_append_left _ (List.mem_of_getElem? (i := 20) (by decide +kernel))) rfl
theorem qh_529 : Cond.code y_M_plain prog_6_method_4_code 6 (Option.some Jvm.ClassFile.FieldType.boolean) ∈ qa_WG := qa_in (List.mem_append_right _ (List.mem_of_getElem? (i := 529) (by decide +kernel))) rfl
theorem qh_526 : Cond.methodLink R_M 126 y_M_plain ∈ qa_WG := qa_in (List.mem_append_right _ (List.mem_of_getElem? (i := 526) (by decide +kernel))) rfl
theorem qh_528 : Cond.instanceMethod y_M_plain ∈ qa_WG := qa_in (List.mem_append_right _ (List.mem_of_getElem? (i := 528) (by decide +kernel))) rfl
theorem qh_s17 : Cond.selects R_M y_M_plain y_M_plain ∈ qa_WG := qa_in (List.mem_append_left _ (List.mem_of_getElem? (i := 17) (by decide +kernel))) rfl
theorem qh_427 : Cond.fieldLink R_M 26 R_M "joined" "[Z" ∈ qa_WG := qa_in (List.mem_append_right _ (List.mem_of_getElem? (i := 427) (by decide +kernel))) rfl
theorem qh_432 : Cond.fieldLink R_M 133 R_M "two" "Z" ∈ qa_WG := qa_in (List.mem_append_right _ (List.mem_of_getElem? (i := 432) (by decide +kernel))) rfl
theorem qh_433 : Cond.fieldLink R_M 136 R_M "base" "I" ∈ qa_WG := qa_in (List.mem_append_right _ (List.mem_of_getElem? (i := 433) (by decide +kernel))) rfl
theorem qh_604 : Cond.code y_M_merged prog_6_method_29_code 3 (Option.some Jvm.ClassFile.FieldType.int) ∈ qa_WG := qa_in (List.mem_append_right _ (List.mem_of_getElem? (i := 604) (by decide +kernel))) rfl
theorem qh_602 : Cond.methodLink R_M 139 y_M_merged ∈ qa_WG := qa_in (List.mem_append_right _ (List.mem_of_getElem? (i := 602) (by decide +kernel))) rfl
theorem qh_603 : Cond.static y_M_merged ∈ qa_WG := qa_in (List.mem_append_right _ (List.mem_of_getElem? (i := 603) (by decide +kernel))) rfl
theorem qh_616 : Cond.code y_M_there prog_6_method_31_code 2 (Option.some Jvm.ClassFile.FieldType.boolean) ∈ qa_WG := qa_in (List.mem_append_right _ (List.mem_of_getElem? (i := 616) (by decide +kernel))) rfl
theorem qh_613 : Cond.methodLink R_M 143 y_M_there ∈ qa_WG := qa_in (List.mem_append_right _ (List.mem_of_getElem? (i := 613) (by decide +kernel))) rfl
theorem qh_615 : Cond.instanceMethod y_M_there ∈ qa_WG := qa_in (List.mem_append_right _ (List.mem_of_getElem? (i := 615) (by decide +kernel))) rfl
theorem qh_s26 : Cond.selects R_M y_M_there y_M_there ∈ qa_WG := qa_in (List.mem_append_left _ (List.mem_of_getElem? (i := 26) (by decide +kernel))) rfl
theorem qh_636 : Cond.code y_M_isHead prog_6_method_37_code 5 (Option.some Jvm.ClassFile.FieldType.boolean) ∈ qa_WG := qa_in (List.mem_append_right _ (List.mem_of_getElem? (i := 636) (by decide +kernel))) rfl
theorem qh_633 : Cond.methodLink R_M 147 y_M_isHead ∈ qa_WG := qa_in (List.mem_append_right _ (List.mem_of_getElem? (i := 633) (by decide +kernel))) rfl
theorem qh_635 : Cond.instanceMethod y_M_isHead ∈ qa_WG := qa_in (List.mem_append_right _ (List.mem_of_getElem? (i := 635) (by decide +kernel))) rfl
theorem qh_s27 : Cond.selects R_M y_M_isHead y_M_isHead ∈ qa_WG := qa_in (List.mem_append_left _ (List.mem_of_getElem? (i := 27) (by decide +kernel))) rfl
def qv_S_bit : List Cond := .code y_S_bit b_S_bit 1 (some .long) :: qa_WG
def qr_S_bit : Room := { frames := 0, cells := 0, slots := 0, locals := 0 }
theorem qd_S_bit : y_S_bit.cls = R_S ∧ y_S_bit.cls ≠ "java/lang/invoke/MethodHandle" ∧ y_S_bit.cls ≠ "java/lang/invoke/VarHandle" ∧ (parseMethodDescriptor y_S_bit.desc).map (fun d => d.parameters.length) = some 1 := by decide +kernel
def qv_A_fill : List Cond := .code y_A_fill b_A_fill 4 none :: qa_WG
def qr_A_fill : Room := { frames := 0, cells := 0, slots := 0, locals := 0 }
theorem qd_A_fill : y_A_fill.cls = R_A ∧ y_A_fill.cls ≠ "java/lang/invoke/MethodHandle" ∧ y_A_fill.cls ≠ "java/lang/invoke/VarHandle" ∧ (parseMethodDescriptor y_A_fill.desc).map (fun d => d.parameters.length) = some 2 := by decide +kernel
def qv_D_start : List Cond := .code y_D_start b_D_start 1 none :: qa_WG
def qr_D_start : Room := { frames := 1, cells := 0, slots := 0, locals := 23 }
theorem qd_D_start : y_D_start.cls = R_D ∧ y_D_start.cls ≠ "java/lang/invoke/MethodHandle" ∧ y_D_start.cls ≠ "java/lang/invoke/VarHandle" ∧ (parseMethodDescriptor y_D_start.desc).map (fun d => d.parameters.length) = some 0 := by decide +kernel
def qv_O_has : List Cond := .code y_O_has b_O_has 2 (some .boolean) :: qa_WG
def qr_O_has : Room := { frames := 0, cells := 0, slots := 0, locals := 0 }
theorem qd_O_has : y_O_has.cls = R_O ∧ y_O_has.cls ≠ "java/lang/invoke/MethodHandle" ∧ y_O_has.cls ≠ "java/lang/invoke/VarHandle" ∧ (parseMethodDescriptor y_O_has.desc).map (fun d => d.parameters.length) = some 1 := by decide +kernel
def qv_O_shownIn : List Cond := .code y_O_shownIn b_O_shownIn 2 (some .long) :: qa_WG
def qr_O_shownIn : Room := { frames := 1, cells := 0, slots := 0, locals := 21 }
theorem qd_O_shownIn : y_O_shownIn.cls = R_O ∧ y_O_shownIn.cls ≠ "java/lang/invoke/MethodHandle" ∧ y_O_shownIn.cls ≠ "java/lang/invoke/VarHandle" ∧ (parseMethodDescriptor y_O_shownIn.desc).map (fun d => d.parameters.length) = some 1 := by decide +kernel
def qv_O_workingIn : List Cond := .code y_O_workingIn b_O_workingIn 2 (some .int) :: qa_WG
def qr_O_workingIn : Room := { frames := 1, cells := 0, slots := 0, locals := 21 }
theorem qd_O_workingIn : y_O_workingIn.cls = R_O ∧ y_O_workingIn.cls ≠ "java/lang/invoke/MethodHandle" ∧ y_O_workingIn.cls ≠ "java/lang/invoke/VarHandle" ∧ (parseMethodDescriptor y_O_workingIn.desc).map (fun d => d.parameters.length) = some 1 := by decide +kernel
def qv_S_isMark : List Cond := .code y_S_isMark b_S_isMark 1 (some .boolean) :: qa_WG
def qr_S_isMark : Room := { frames := 0, cells := 0, slots := 0, locals := 0 }
theorem qd_S_isMark : y_S_isMark.cls = R_S ∧ y_S_isMark.cls ≠ "java/lang/invoke/MethodHandle" ∧ y_S_isMark.cls ≠ "java/lang/invoke/VarHandle" ∧ (parseMethodDescriptor y_S_isMark.desc).map (fun d => d.parameters.length) = some 1 := by decide +kernel
def qv_O_markIn : List Cond := .code y_O_markIn b_O_markIn 3 (some .int) :: qa_WG
def qr_O_markIn : Room := { frames := 1, cells := 0, slots := 0, locals := 21 }
theorem qd_O_markIn : y_O_markIn.cls = R_O ∧ y_O_markIn.cls ≠ "java/lang/invoke/MethodHandle" ∧ y_O_markIn.cls ≠ "java/lang/invoke/VarHandle" ∧ (parseMethodDescriptor y_O_markIn.desc).map (fun d => d.parameters.length) = some 2 := by decide +kernel
def qv_D_open : List Cond := .code y_D_open b_D_open 4 none :: qa_WG
def qr_D_open : Room := { frames := 2, cells := 0, slots := 0, locals := 43 }
theorem qd_D_open : y_D_open.cls = R_D ∧ y_D_open.cls ≠ "java/lang/invoke/MethodHandle" ∧ y_D_open.cls ≠ "java/lang/invoke/VarHandle" ∧ (parseMethodDescriptor y_D_open.desc).map (fun d => d.parameters.length) = some 2 := by decide +kernel
def qv_S_openDraft : List Cond := .code y_S_openDraft b_S_openDraft 1 none :: qa_WG
def qr_S_openDraft : Room := { frames := 3, cells := 0, slots := 0, locals := 66 }
theorem qd_S_openDraft : y_S_openDraft.cls = R_S ∧ y_S_openDraft.cls ≠ "java/lang/invoke/MethodHandle" ∧ y_S_openDraft.cls ≠ "java/lang/invoke/VarHandle" ∧ (parseMethodDescriptor y_S_openDraft.desc).map (fun d => d.parameters.length) = some 0 := by decide +kernel
def qv_S_isIn : List Cond := .code y_S_isIn b_S_isIn 3 (some .boolean) :: qa_WG
def qr_S_isIn : Room := { frames := 0, cells := 0, slots := 0, locals := 0 }
theorem qd_S_isIn : y_S_isIn.cls = R_S ∧ y_S_isIn.cls ≠ "java/lang/invoke/MethodHandle" ∧ y_S_isIn.cls ≠ "java/lang/invoke/VarHandle" ∧ (parseMethodDescriptor y_S_isIn.desc).map (fun d => d.parameters.length) = some 2 := by decide +kernel
def qv_D_shows : List Cond := .code y_D_shows b_D_shows 2 (some .boolean) :: qa_WG
def qr_D_shows : Room := { frames := 1, cells := 0, slots := 0, locals := 22 }
theorem qd_D_shows : y_D_shows.cls = R_D ∧ y_D_shows.cls ≠ "java/lang/invoke/MethodHandle" ∧ y_D_shows.cls ≠ "java/lang/invoke/VarHandle" ∧ (parseMethodDescriptor y_D_shows.desc).map (fun d => d.parameters.length) = some 1 := by decide +kernel
def qv_C_isFull : List Cond := .code y_C_isFull b_C_isFull 1 (some .boolean) :: qa_WG
def qr_C_isFull : Room := { frames := 0, cells := 0, slots := 0, locals := 0 }
theorem qd_C_isFull : y_C_isFull.cls = R_C ∧ y_C_isFull.cls ≠ "java/lang/invoke/MethodHandle" ∧ y_C_isFull.cls ≠ "java/lang/invoke/VarHandle" ∧ (parseMethodDescriptor y_C_isFull.desc).map (fun d => d.parameters.length) = some 0 := by decide +kernel
def qv_O_isFull : List Cond := .code y_O_isFull b_O_isFull 1 (some .boolean) :: qa_WG
def qr_O_isFull : Room := { frames := 0, cells := 0, slots := 0, locals := 0 }
theorem qd_O_isFull : y_O_isFull.cls = R_O ∧ y_O_isFull.cls ≠ "java/lang/invoke/MethodHandle" ∧ y_O_isFull.cls ≠ "java/lang/invoke/VarHandle" ∧ (parseMethodDescriptor y_O_isFull.desc).map (fun d => d.parameters.length) = some 0 := by decide +kernel
def qv_S_hasRoomForCommit : List Cond := .code y_S_hasRoomForCommit b_S_hasRoomForCommit 1 (some .boolean) :: qa_WG
def qr_S_hasRoomForCommit : Room := { frames := 1, cells := 0, slots := 0, locals := 20 }
theorem qd_S_hasRoomForCommit : y_S_hasRoomForCommit.cls = R_S ∧ y_S_hasRoomForCommit.cls ≠ "java/lang/invoke/MethodHandle" ∧ y_S_hasRoomForCommit.cls ≠ "java/lang/invoke/VarHandle" ∧ (parseMethodDescriptor y_S_hasRoomForCommit.desc).map (fun d => d.parameters.length) = some 0 := by decide +kernel
def qv_C_has : List Cond := .code y_C_has b_C_has 2 (some .boolean) :: qa_WG
def qr_C_has : Room := { frames := 0, cells := 0, slots := 0, locals := 0 }
theorem qd_C_has : y_C_has.cls = R_C ∧ y_C_has.cls ≠ "java/lang/invoke/MethodHandle" ∧ y_C_has.cls ≠ "java/lang/invoke/VarHandle" ∧ (parseMethodDescriptor y_C_has.desc).map (fun d => d.parameters.length) = some 1 := by decide +kernel
def qv_C_start : List Cond := .code y_C_start b_C_start 2 (some .int) :: qa_WG
def qr_C_start : Room := { frames := 0, cells := 0, slots := 0, locals := 0 }
theorem qd_C_start : y_C_start.cls = R_C ∧ y_C_start.cls ≠ "java/lang/invoke/MethodHandle" ∧ y_C_start.cls ≠ "java/lang/invoke/VarHandle" ∧ (parseMethodDescriptor y_C_start.desc).map (fun d => d.parameters.length) = some 2 := by decide +kernel
def qv_C_addCopy : List Cond := .code y_C_addCopy b_C_addCopy 5 (some .int) :: qa_WG
def qr_C_addCopy : Room := { frames := 1, cells := 0, slots := 0, locals := 40 }
theorem qd_C_addCopy : y_C_addCopy.cls = R_C ∧ y_C_addCopy.cls ≠ "java/lang/invoke/MethodHandle" ∧ y_C_addCopy.cls ≠ "java/lang/invoke/VarHandle" ∧ (parseMethodDescriptor y_C_addCopy.desc).map (fun d => d.parameters.length) = some 3 := by decide +kernel
def qv_C_addNewChange : List Cond := .code y_C_addNewChange b_C_addNewChange 2 (some .int) :: qa_WG
def qr_C_addNewChange : Room := { frames := 2, cells := 0, slots := 0, locals := 64 }
theorem qd_C_addNewChange : y_C_addNewChange.cls = R_C ∧ y_C_addNewChange.cls ≠ "java/lang/invoke/MethodHandle" ∧ y_C_addNewChange.cls ≠ "java/lang/invoke/VarHandle" ∧ (parseMethodDescriptor y_C_addNewChange.desc).map (fun d => d.parameters.length) = some 1 := by decide +kernel
def qv_D_show : List Cond := .code y_D_show b_D_show 2 none :: qa_WG
def qr_D_show : Room := { frames := 1, cells := 0, slots := 0, locals := 20 }
theorem qd_D_show : y_D_show.cls = R_D ∧ y_D_show.cls ≠ "java/lang/invoke/MethodHandle" ∧ y_D_show.cls ≠ "java/lang/invoke/VarHandle" ∧ (parseMethodDescriptor y_D_show.desc).map (fun d => d.parameters.length) = some 1 := by decide +kernel
def qv_D_workOn : List Cond := .code y_D_workOn b_D_workOn 2 none :: qa_WG
def qr_D_workOn : Room := { frames := 0, cells := 0, slots := 0, locals := 0 }
theorem qd_D_workOn : y_D_workOn.cls = R_D ∧ y_D_workOn.cls ≠ "java/lang/invoke/MethodHandle" ∧ y_D_workOn.cls ≠ "java/lang/invoke/VarHandle" ∧ (parseMethodDescriptor y_D_workOn.desc).map (fun d => d.parameters.length) = some 1 := by decide +kernel
def qv_C_parentOf : List Cond := .code y_C_parentOf b_C_parentOf 2 (some .int) :: qa_WG
def qr_C_parentOf : Room := { frames := 1, cells := 0, slots := 0, locals := 21 }
theorem qd_C_parentOf : y_C_parentOf.cls = R_C ∧ y_C_parentOf.cls ≠ "java/lang/invoke/MethodHandle" ∧ y_C_parentOf.cls ≠ "java/lang/invoke/VarHandle" ∧ (parseMethodDescriptor y_C_parentOf.desc).map (fun d => d.parameters.length) = some 1 := by decide +kernel
def qv_D_lowestOrphan : List Cond := .code y_D_lowestOrphan b_D_lowestOrphan 2 (some .int) :: qa_WG
def qr_D_lowestOrphan : Room := { frames := 2, cells := 0, slots := 0, locals := 43 }
theorem qd_D_lowestOrphan : y_D_lowestOrphan.cls = R_D ∧ y_D_lowestOrphan.cls ≠ "java/lang/invoke/MethodHandle" ∧ y_D_lowestOrphan.cls ≠ "java/lang/invoke/VarHandle" ∧ (parseMethodDescriptor y_D_lowestOrphan.desc).map (fun d => d.parameters.length) = some 0 := by decide +kernel
def qv_C_withAllThatComesOf : List Cond := .code y_C_withAllThatComesOf b_C_withAllThatComesOf 5 (some .long) :: qa_WG
def qr_C_withAllThatComesOf : Room := { frames := 2, cells := 0, slots := 0, locals := 42 }
theorem qd_C_withAllThatComesOf : y_C_withAllThatComesOf.cls = R_C ∧ y_C_withAllThatComesOf.cls ≠ "java/lang/invoke/MethodHandle" ∧ y_C_withAllThatComesOf.cls ≠ "java/lang/invoke/VarHandle" ∧ (parseMethodDescriptor y_C_withAllThatComesOf.desc).map (fun d => d.parameters.length) = some 1 := by decide +kernel
def qv_C_changeOf : List Cond := .code y_C_changeOf b_C_changeOf 2 (some .int) :: qa_WG
def qr_C_changeOf : Room := { frames := 1, cells := 0, slots := 0, locals := 21 }
theorem qd_C_changeOf : y_C_changeOf.cls = R_C ∧ y_C_changeOf.cls ≠ "java/lang/invoke/MethodHandle" ∧ y_C_changeOf.cls ≠ "java/lang/invoke/VarHandle" ∧ (parseMethodDescriptor y_C_changeOf.desc).map (fun d => d.parameters.length) = some 1 := by decide +kernel
def qv_C_latestOfChange : List Cond := .code y_C_latestOfChange b_C_latestOfChange 5 (some .int) :: qa_WG
def qr_C_latestOfChange : Room := { frames := 1, cells := 0, slots := 0, locals := 22 }
theorem qd_C_latestOfChange : y_C_latestOfChange.cls = R_C ∧ y_C_latestOfChange.cls ≠ "java/lang/invoke/MethodHandle" ∧ y_C_latestOfChange.cls ≠ "java/lang/invoke/VarHandle" ∧ (parseMethodDescriptor y_C_latestOfChange.desc).map (fun d => d.parameters.length) = some 2 := by decide +kernel
def qv_D_nextTowardsPlace : List Cond := .code y_D_nextTowardsPlace b_D_nextTowardsPlace 5 (some .int) :: qa_WG
def qr_D_nextTowardsPlace : Room := { frames := 2, cells := 0, slots := 0, locals := 46 }
theorem qd_D_nextTowardsPlace : y_D_nextTowardsPlace.cls = R_D ∧ y_D_nextTowardsPlace.cls ≠ "java/lang/invoke/MethodHandle" ∧ y_D_nextTowardsPlace.cls ≠ "java/lang/invoke/VarHandle" ∧ (parseMethodDescriptor y_D_nextTowardsPlace.desc).map (fun d => d.parameters.length) = some 2 := by decide +kernel
def qv_D_placeOf : List Cond := .code y_D_placeOf b_D_placeOf 6 (some .int) :: qa_WG
def qr_D_placeOf : Room := { frames := 3, cells := 0, slots := 0, locals := 70 }
theorem qd_D_placeOf : y_D_placeOf.cls = R_D ∧ y_D_placeOf.cls ≠ "java/lang/invoke/MethodHandle" ∧ y_D_placeOf.cls ≠ "java/lang/invoke/VarHandle" ∧ (parseMethodDescriptor y_D_placeOf.desc).map (fun d => d.parameters.length) = some 2 := by decide +kernel
def qv_S_isPath : List Cond := .code y_S_isPath b_S_isPath 1 (some .boolean) :: qa_WG
def qr_S_isPath : Room := { frames := 0, cells := 0, slots := 0, locals := 0 }
theorem qd_S_isPath : y_S_isPath.cls = R_S ∧ y_S_isPath.cls ≠ "java/lang/invoke/MethodHandle" ∧ y_S_isPath.cls ≠ "java/lang/invoke/VarHandle" ∧ (parseMethodDescriptor y_S_isPath.desc).map (fun d => d.parameters.length) = some 1 := by decide +kernel
def qv_S_isValue : List Cond := .code y_S_isValue b_S_isValue 1 (some .boolean) :: qa_WG
def qr_S_isValue : Room := { frames := 0, cells := 0, slots := 0, locals := 0 }
theorem qd_S_isValue : y_S_isValue.cls = R_S ∧ y_S_isValue.cls ≠ "java/lang/invoke/MethodHandle" ∧ y_S_isValue.cls ≠ "java/lang/invoke/VarHandle" ∧ (parseMethodDescriptor y_S_isValue.desc).map (fun d => d.parameters.length) = some 1 := by decide +kernel
def qv_C_makePlain : List Cond := .code y_C_makePlain b_C_makePlain 5 none :: qa_WG
def qr_C_makePlain : Room := { frames := 1, cells := 0, slots := 0, locals := 21 }
theorem qd_C_makePlain : y_C_makePlain.cls = R_C ∧ y_C_makePlain.cls ≠ "java/lang/invoke/MethodHandle" ∧ y_C_makePlain.cls ≠ "java/lang/invoke/VarHandle" ∧ (parseMethodDescriptor y_C_makePlain.desc).map (fun d => d.parameters.length) = some 3 := by decide +kernel
def qv_C_addDifference : List Cond := .code y_C_addDifference b_C_addDifference 9 none :: qa_WG
def qr_C_addDifference : Room := { frames := 2, cells := 0, slots := 0, locals := 45 }
theorem qd_C_addDifference : y_C_addDifference.cls = R_C ∧ y_C_addDifference.cls ≠ "java/lang/invoke/MethodHandle" ∧ y_C_addDifference.cls ≠ "java/lang/invoke/VarHandle" ∧ (parseMethodDescriptor y_C_addDifference.desc).map (fun d => d.parameters.length) = some 4 := by decide +kernel
def qv_C_addMoved : List Cond := .code y_C_addMoved b_C_addMoved 6 (some .int) :: qa_WG
def qr_C_addMoved : Room := { frames := 3, cells := 0, slots := 0, locals := 73 }
theorem qd_C_addMoved : y_C_addMoved.cls = R_C ∧ y_C_addMoved.cls ≠ "java/lang/invoke/MethodHandle" ∧ y_C_addMoved.cls ≠ "java/lang/invoke/VarHandle" ∧ (parseMethodDescriptor y_C_addMoved.desc).map (fun d => d.parameters.length) = some 2 := by decide +kernel
def qv_D_replace : List Cond := .code y_D_replace b_D_replace 3 none :: qa_WG
def qr_D_replace : Room := { frames := 2, cells := 0, slots := 0, locals := 41 }
theorem qd_D_replace : y_D_replace.cls = R_D ∧ y_D_replace.cls ≠ "java/lang/invoke/MethodHandle" ∧ y_D_replace.cls ≠ "java/lang/invoke/VarHandle" ∧ (parseMethodDescriptor y_D_replace.desc).map (fun d => d.parameters.length) = some 2 := by decide +kernel
def qv_D_settleCommits : List Cond := .code y_D_settleCommits b_D_settleCommits 5 (some .boolean) :: qa_WG
def qr_D_settleCommits : Room := { frames := 4, cells := 0, slots := 0, locals := 98 }
theorem qd_D_settleCommits : y_D_settleCommits.cls = R_D ∧ y_D_settleCommits.cls ≠ "java/lang/invoke/MethodHandle" ∧ y_D_settleCommits.cls ≠ "java/lang/invoke/VarHandle" ∧ (parseMethodDescriptor y_D_settleCommits.desc).map (fun d => d.parameters.length) = some 0 := by decide +kernel
def qv_C_dropFrom : List Cond := .code y_C_dropFrom b_C_dropFrom 2 none :: qa_WG
def qr_C_dropFrom : Room := { frames := 0, cells := 0, slots := 0, locals := 0 }
theorem qd_C_dropFrom : y_C_dropFrom.cls = R_C ∧ y_C_dropFrom.cls ≠ "java/lang/invoke/MethodHandle" ∧ y_C_dropFrom.cls ≠ "java/lang/invoke/VarHandle" ∧ (parseMethodDescriptor y_C_dropFrom.desc).map (fun d => d.parameters.length) = some 1 := by decide +kernel
def qv_D_settlePointers : List Cond := .code y_D_settlePointers b_D_settlePointers 2 none :: qa_WG
def qr_D_settlePointers : Room := { frames := 4, cells := 0, slots := 0, locals := 95 }
theorem qd_D_settlePointers : y_D_settlePointers.cls = R_D ∧ y_D_settlePointers.cls ≠ "java/lang/invoke/MethodHandle" ∧ y_D_settlePointers.cls ≠ "java/lang/invoke/VarHandle" ∧ (parseMethodDescriptor y_D_settlePointers.desc).map (fun d => d.parameters.length) = some 0 := by decide +kernel
def qv_O_add : List Cond := .code y_O_add b_O_add 5 (some .int) :: qa_WG
def qr_O_add : Room := { frames := 1, cells := 0, slots := 0, locals := 40 }
theorem qd_O_add : y_O_add.cls = R_O ∧ y_O_add.cls ≠ "java/lang/invoke/MethodHandle" ∧ y_O_add.cls ≠ "java/lang/invoke/VarHandle" ∧ (parseMethodDescriptor y_O_add.desc).map (fun d => d.parameters.length) = some 3 := by decide +kernel
def qv_S_keepDraft : List Cond := .code y_S_keepDraft b_S_keepDraft 4 (some .int) :: qa_WG
def qr_S_keepDraft : Room := { frames := 5, cells := 0, slots := 0, locals := 122 }
theorem qd_S_keepDraft : y_S_keepDraft.cls = R_S ∧ y_S_keepDraft.cls ≠ "java/lang/invoke/MethodHandle" ∧ y_S_keepDraft.cls ≠ "java/lang/invoke/VarHandle" ∧ (parseMethodDescriptor y_S_keepDraft.desc).map (fun d => d.parameters.length) = some 2 := by decide +kernel
def qv_S_create : List Cond := .code y_S_create b_S_create 3 (some .int) :: qa_WG
def qr_S_create : Room := { frames := 6, cells := 0, slots := 0, locals := 145 }
theorem qd_S_create : y_S_create.cls = R_S ∧ y_S_create.cls ≠ "java/lang/invoke/MethodHandle" ∧ y_S_create.cls ≠ "java/lang/invoke/VarHandle" ∧ (parseMethodDescriptor y_S_create.desc).map (fun d => d.parameters.length) = some 1 := by decide +kernel
def qv_C_countOf : List Cond := .code y_C_countOf b_C_countOf 4 (some .long) :: qa_WG
def qr_C_countOf : Room := { frames := 1, cells := 0, slots := 0, locals := 21 }
theorem qd_C_countOf : y_C_countOf.cls = R_C ∧ y_C_countOf.cls ≠ "java/lang/invoke/MethodHandle" ∧ y_C_countOf.cls ≠ "java/lang/invoke/VarHandle" ∧ (parseMethodDescriptor y_C_countOf.desc).map (fun d => d.parameters.length) = some 3 := by decide +kernel
def qv_C_isPlain : List Cond := .code y_C_isPlain b_C_isPlain 5 (some .boolean) :: qa_WG
def qr_C_isPlain : Room := { frames := 2, cells := 0, slots := 0, locals := 44 }
theorem qd_C_isPlain : y_C_isPlain.cls = R_C ∧ y_C_isPlain.cls ≠ "java/lang/invoke/MethodHandle" ∧ y_C_isPlain.cls ≠ "java/lang/invoke/VarHandle" ∧ (parseMethodDescriptor y_C_isPlain.desc).map (fun d => d.parameters.length) = some 3 := by decide +kernel
def qv_S_write : List Cond := .code y_S_write b_S_write 5 (some .int) :: qa_WG
def qr_S_write : Room := { frames := 6, cells := 0, slots := 0, locals := 145 }
theorem qd_S_write : y_S_write.cls = R_S ∧ y_S_write.cls ≠ "java/lang/invoke/MethodHandle" ∧ y_S_write.cls ≠ "java/lang/invoke/VarHandle" ∧ (parseMethodDescriptor y_S_write.desc).map (fun d => d.parameters.length) = some 2 := by decide +kernel
def qv_S_isReplaceable : List Cond := .code y_S_isReplaceable b_S_isReplaceable 2 (some .boolean) :: qa_WG
def qr_S_isReplaceable : Room := { frames := 2, cells := 0, slots := 0, locals := 43 }
theorem qd_S_isReplaceable : y_S_isReplaceable.cls = R_S ∧ y_S_isReplaceable.cls ≠ "java/lang/invoke/MethodHandle" ∧ y_S_isReplaceable.cls ≠ "java/lang/invoke/VarHandle" ∧ (parseMethodDescriptor y_S_isReplaceable.desc).map (fun d => d.parameters.length) = some 1 := by decide +kernel
def qv_S_rebase : List Cond := .code y_S_rebase b_S_rebase 3 (some .int) :: qa_WG
def qr_S_rebase : Room := { frames := 6, cells := 0, slots := 0, locals := 145 }
theorem qd_S_rebase : y_S_rebase.cls = R_S ∧ y_S_rebase.cls ≠ "java/lang/invoke/MethodHandle" ∧ y_S_rebase.cls ≠ "java/lang/invoke/VarHandle" ∧ (parseMethodDescriptor y_S_rebase.desc).map (fun d => d.parameters.length) = some 2 := by decide +kernel
def qv_S_abandon : List Cond := .code y_S_abandon b_S_abandon 2 (some .int) :: qa_WG
def qr_S_abandon : Room := { frames := 6, cells := 0, slots := 0, locals := 145 }
theorem qd_S_abandon : y_S_abandon.cls = R_S ∧ y_S_abandon.cls ≠ "java/lang/invoke/MethodHandle" ∧ y_S_abandon.cls ≠ "java/lang/invoke/VarHandle" ∧ (parseMethodDescriptor y_S_abandon.desc).map (fun d => d.parameters.length) = some 1 := by decide +kernel
def qv_S_squash : List Cond := .code y_S_squash b_S_squash 4 (some .int) :: qa_WG
def qr_S_squash : Room := { frames := 6, cells := 0, slots := 0, locals := 145 }
theorem qd_S_squash : y_S_squash.cls = R_S ∧ y_S_squash.cls ≠ "java/lang/invoke/MethodHandle" ∧ y_S_squash.cls ≠ "java/lang/invoke/VarHandle" ∧ (parseMethodDescriptor y_S_squash.desc).map (fun d => d.parameters.length) = some 1 := by decide +kernel
def qv_S_edit : List Cond := .code y_S_edit b_S_edit 2 (some .int) :: qa_WG
def qr_S_edit : Room := { frames := 6, cells := 0, slots := 0, locals := 145 }
theorem qd_S_edit : y_S_edit.cls = R_S ∧ y_S_edit.cls ≠ "java/lang/invoke/MethodHandle" ∧ y_S_edit.cls ≠ "java/lang/invoke/VarHandle" ∧ (parseMethodDescriptor y_S_edit.desc).map (fun d => d.parameters.length) = some 1 := by decide +kernel
def qv_S_mark : List Cond := .code y_S_mark b_S_mark 3 (some .int) :: qa_WG
def qr_S_mark : Room := { frames := 6, cells := 0, slots := 0, locals := 145 }
theorem qd_S_mark : y_S_mark.cls = R_S ∧ y_S_mark.cls ≠ "java/lang/invoke/MethodHandle" ∧ y_S_mark.cls ≠ "java/lang/invoke/VarHandle" ∧ (parseMethodDescriptor y_S_mark.desc).map (fun d => d.parameters.length) = some 2 := by decide +kernel
def qv_O_firstBefore : List Cond := .code y_O_firstBefore b_O_firstBefore 2 (some .int) :: qa_WG
def qr_O_firstBefore : Room := { frames := 1, cells := 0, slots := 0, locals := 21 }
theorem qd_O_firstBefore : y_O_firstBefore.cls = R_O ∧ y_O_firstBefore.cls ≠ "java/lang/invoke/MethodHandle" ∧ y_O_firstBefore.cls ≠ "java/lang/invoke/VarHandle" ∧ (parseMethodDescriptor y_O_firstBefore.desc).map (fun d => d.parameters.length) = some 1 := by decide +kernel
def qv_O_secondBefore : List Cond := .code y_O_secondBefore b_O_secondBefore 2 (some .int) :: qa_WG
def qr_O_secondBefore : Room := { frames := 1, cells := 0, slots := 0, locals := 21 }
theorem qd_O_secondBefore : y_O_secondBefore.cls = R_O ∧ y_O_secondBefore.cls ≠ "java/lang/invoke/MethodHandle" ∧ y_O_secondBefore.cls ≠ "java/lang/invoke/VarHandle" ∧ (parseMethodDescriptor y_O_secondBefore.desc).map (fun d => d.parameters.length) = some 1 := by decide +kernel
def qv_S_undo : List Cond := .code y_S_undo b_S_undo 4 (some .int) :: qa_WG
def qr_S_undo : Room := { frames := 6, cells := 0, slots := 0, locals := 145 }
theorem qd_S_undo : y_S_undo.cls = R_S ∧ y_S_undo.cls ≠ "java/lang/invoke/MethodHandle" ∧ y_S_undo.cls ≠ "java/lang/invoke/VarHandle" ∧ (parseMethodDescriptor y_S_undo.desc).map (fun d => d.parameters.length) = some 0 := by decide +kernel
def qv_S_restore : List Cond := .code y_S_restore b_S_restore 2 (some .int) :: qa_WG
def qr_S_restore : Room := { frames := 6, cells := 0, slots := 0, locals := 145 }
theorem qd_S_restore : y_S_restore.cls = R_S ∧ y_S_restore.cls ≠ "java/lang/invoke/MethodHandle" ∧ y_S_restore.cls ≠ "java/lang/invoke/VarHandle" ∧ (parseMethodDescriptor y_S_restore.desc).map (fun d => d.parameters.length) = some 1 := by decide +kernel
def qv_S_hasLineOne : List Cond := .code y_S_hasLineOne b_S_hasLineOne 1 (some .boolean) :: qa_WG
def qr_S_hasLineOne : Room := { frames := 0, cells := 0, slots := 0, locals := 0 }
theorem qd_S_hasLineOne : y_S_hasLineOne.cls = R_S ∧ y_S_hasLineOne.cls ≠ "java/lang/invoke/MethodHandle" ∧ y_S_hasLineOne.cls ≠ "java/lang/invoke/VarHandle" ∧ (parseMethodDescriptor y_S_hasLineOne.desc).map (fun d => d.parameters.length) = some 0 := by decide +kernel
def qv_S_fork : List Cond := .code y_S_fork b_S_fork 2 (some .boolean) :: qa_WG
def qr_S_fork : Room := { frames := 1, cells := 0, slots := 0, locals := 21 }
theorem qd_S_fork : y_S_fork.cls = R_S ∧ y_S_fork.cls ≠ "java/lang/invoke/MethodHandle" ∧ y_S_fork.cls ≠ "java/lang/invoke/VarHandle" ∧ (parseMethodDescriptor y_S_fork.desc).map (fun d => d.parameters.length) = some 1 := by decide +kernel
def qv_S_choose : List Cond := .code y_S_choose b_S_choose 3 (some .boolean) :: qa_WG
def qr_S_choose : Room := { frames := 1, cells := 0, slots := 0, locals := 20 }
theorem qd_S_choose : y_S_choose.cls = R_S ∧ y_S_choose.cls ≠ "java/lang/invoke/MethodHandle" ∧ y_S_choose.cls ≠ "java/lang/invoke/VarHandle" ∧ (parseMethodDescriptor y_S_choose.desc).map (fun d => d.parameters.length) = some 1 := by decide +kernel
def qv_D_joinedMark : List Cond := .code y_D_joinedMark b_D_joinedMark 3 (some .int) :: qa_WG
def qr_D_joinedMark : Room := { frames := 0, cells := 0, slots := 0, locals := 0 }
theorem qd_D_joinedMark : y_D_joinedMark.cls = R_D ∧ y_D_joinedMark.cls ≠ "java/lang/invoke/MethodHandle" ∧ y_D_joinedMark.cls ≠ "java/lang/invoke/VarHandle" ∧ (parseMethodDescriptor y_D_joinedMark.desc).map (fun d => d.parameters.length) = some 3 := by decide +kernel
def qv_D_openJoined : List Cond := .code y_D_openJoined b_D_openJoined 11 none :: qa_WG
def qr_D_openJoined : Room := { frames := 2, cells := 0, slots := 0, locals := 43 }
theorem qd_D_openJoined : y_D_openJoined.cls = R_D ∧ y_D_openJoined.cls ≠ "java/lang/invoke/MethodHandle" ∧ y_D_openJoined.cls ≠ "java/lang/invoke/VarHandle" ∧ (parseMethodDescriptor y_D_openJoined.desc).map (fun d => d.parameters.length) = some 4 := by decide +kernel
def qv_S_join : List Cond := .code y_S_join b_S_join 2 (some .int) :: qa_WG
def qr_S_join : Room := { frames := 6, cells := 0, slots := 0, locals := 145 }
theorem qd_S_join : y_S_join.cls = R_S ∧ y_S_join.cls ≠ "java/lang/invoke/MethodHandle" ∧ y_S_join.cls ≠ "java/lang/invoke/VarHandle" ∧ (parseMethodDescriptor y_S_join.desc).map (fun d => d.parameters.length) = some 0 := by decide +kernel
def qv_S_operation : List Cond := .code y_S_operation b_S_operation 1 (some .int) :: qa_WG
def qr_S_operation : Room := { frames := 0, cells := 0, slots := 0, locals := 0 }
theorem qd_S_operation : y_S_operation.cls = R_S ∧ y_S_operation.cls ≠ "java/lang/invoke/MethodHandle" ∧ y_S_operation.cls ≠ "java/lang/invoke/VarHandle" ∧ (parseMethodDescriptor y_S_operation.desc).map (fun d => d.parameters.length) = some 0 := by decide +kernel
def qv_S_before : List Cond := .code y_S_before b_S_before 3 (some .int) :: qa_WG
def qr_S_before : Room := { frames := 2, cells := 0, slots := 0, locals := 42 }
theorem qd_S_before : y_S_before.cls = R_S ∧ y_S_before.cls ≠ "java/lang/invoke/MethodHandle" ∧ y_S_before.cls ≠ "java/lang/invoke/VarHandle" ∧ (parseMethodDescriptor y_S_before.desc).map (fun d => d.parameters.length) = some 2 := by decide +kernel
def qv_S_visible : List Cond := .code y_S_visible b_S_visible 3 (some .boolean) :: qa_WG
def qr_S_visible : Room := { frames := 2, cells := 0, slots := 0, locals := 42 }
theorem qd_S_visible : y_S_visible.cls = R_S ∧ y_S_visible.cls ≠ "java/lang/invoke/MethodHandle" ∧ y_S_visible.cls ≠ "java/lang/invoke/VarHandle" ∧ (parseMethodDescriptor y_S_visible.desc).map (fun d => d.parameters.length) = some 2 := by decide +kernel
def qv_S_working : List Cond := .code y_S_working b_S_working 2 (some .int) :: qa_WG
def qr_S_working : Room := { frames := 2, cells := 0, slots := 0, locals := 42 }
theorem qd_S_working : y_S_working.cls = R_S ∧ y_S_working.cls ≠ "java/lang/invoke/MethodHandle" ∧ y_S_working.cls ≠ "java/lang/invoke/VarHandle" ∧ (parseMethodDescriptor y_S_working.desc).map (fun d => d.parameters.length) = some 1 := by decide +kernel
def qv_S_marked : List Cond := .code y_S_marked b_S_marked 3 (some .int) :: qa_WG
def qr_S_marked : Room := { frames := 2, cells := 0, slots := 0, locals := 43 }
theorem qd_S_marked : y_S_marked.cls = R_S ∧ y_S_marked.cls ≠ "java/lang/invoke/MethodHandle" ∧ y_S_marked.cls ≠ "java/lang/invoke/VarHandle" ∧ (parseMethodDescriptor y_S_marked.desc).map (fun d => d.parameters.length) = some 2 := by decide +kernel
def qv_C_parentsOf : List Cond := .code y_C_parentsOf b_C_parentsOf 6 (some .long) :: qa_WG
def qr_C_parentsOf : Room := { frames := 1, cells := 0, slots := 0, locals := 22 }
theorem qd_C_parentsOf : y_C_parentsOf.cls = R_C ∧ y_C_parentsOf.cls ≠ "java/lang/invoke/MethodHandle" ∧ y_C_parentsOf.cls ≠ "java/lang/invoke/VarHandle" ∧ (parseMethodDescriptor y_C_parentsOf.desc).map (fun d => d.parameters.length) = some 1 := by decide +kernel
def qv_S_head : List Cond := .code y_S_head b_S_head 9 (some .int) :: qa_WG
def qr_S_head : Room := { frames := 2, cells := 0, slots := 0, locals := 47 }
theorem qd_S_head : y_S_head.cls = R_S ∧ y_S_head.cls ≠ "java/lang/invoke/MethodHandle" ∧ y_S_head.cls ≠ "java/lang/invoke/VarHandle" ∧ (parseMethodDescriptor y_S_head.desc).map (fun d => d.parameters.length) = some 2 := by decide +kernel
def qv_S_commit : List Cond := .code y_S_commit b_S_commit 3 (some .int) :: qa_WG
def qr_S_commit : Room := { frames := 2, cells := 0, slots := 0, locals := 42 }
theorem qd_S_commit : y_S_commit.cls = R_S ∧ y_S_commit.cls ≠ "java/lang/invoke/MethodHandle" ∧ y_S_commit.cls ≠ "java/lang/invoke/VarHandle" ∧ (parseMethodDescriptor y_S_commit.desc).map (fun d => d.parameters.length) = some 2 := by decide +kernel
def qv_S_count : List Cond := .code y_S_count b_S_count 4 (some .long) :: qa_WG
def qr_S_count : Room := { frames := 2, cells := 0, slots := 0, locals := 44 }
theorem qd_S_count : y_S_count.cls = R_S ∧ y_S_count.cls ≠ "java/lang/invoke/MethodHandle" ∧ y_S_count.cls ≠ "java/lang/invoke/VarHandle" ∧ (parseMethodDescriptor y_S_count.desc).map (fun d => d.parameters.length) = some 3 := by decide +kernel
def qv_M_here : List Cond := .code y_M_here b_M_here 1 (some .int) :: qa_WG
def qr_M_here : Room := { frames := 0, cells := 0, slots := 0, locals := 0 }
theorem qd_M_here : y_M_here.cls = R_M ∧ y_M_here.cls ≠ "java/lang/invoke/MethodHandle" ∧ y_M_here.cls ≠ "java/lang/invoke/VarHandle" ∧ (parseMethodDescriptor y_M_here.desc).map (fun d => d.parameters.length) = some 0 := by decide +kernel
def qv_M_isVisible : List Cond := .code y_M_isVisible b_M_isVisible 3 (some .boolean) :: qa_WG
def qr_M_isVisible : Room := { frames := 0, cells := 0, slots := 0, locals := 0 }
theorem qd_M_isVisible : y_M_isVisible.cls = R_M ∧ y_M_isVisible.cls ≠ "java/lang/invoke/MethodHandle" ∧ y_M_isVisible.cls ≠ "java/lang/invoke/VarHandle" ∧ (parseMethodDescriptor y_M_isVisible.desc).map (fun d => d.parameters.length) = some 2 := by decide +kernel
def qv_M_begin : List Cond := .code y_M_begin b_M_begin 3 none :: qa_WG
def qr_M_begin : Room := { frames := 0, cells := 0, slots := 0, locals := 0 }
theorem qd_M_begin : y_M_begin.cls = R_M ∧ y_M_begin.cls ≠ "java/lang/invoke/MethodHandle" ∧ y_M_begin.cls ≠ "java/lang/invoke/VarHandle" ∧ (parseMethodDescriptor y_M_begin.desc).map (fun d => d.parameters.length) = some 1 := by decide +kernel
def qv_M_fresh : List Cond := .code y_M_fresh b_M_fresh 3 (some .int) :: qa_WG
def qr_M_fresh : Room := { frames := 0, cells := 0, slots := 0, locals := 0 }
theorem qd_M_fresh : y_M_fresh.cls = R_M ∧ y_M_fresh.cls ≠ "java/lang/invoke/MethodHandle" ∧ y_M_fresh.cls ≠ "java/lang/invoke/VarHandle" ∧ (parseMethodDescriptor y_M_fresh.desc).map (fun d => d.parameters.length) = some 2 := by decide +kernel
def qv_M_copyContents : List Cond := .code y_M_copyContents b_M_copyContents 4 none :: qa_WG
def qr_M_copyContents : Room := { frames := 0, cells := 0, slots := 0, locals := 0 }
theorem qd_M_copyContents : y_M_copyContents.cls = R_M ∧ y_M_copyContents.cls ≠ "java/lang/invoke/MethodHandle" ∧ y_M_copyContents.cls ≠ "java/lang/invoke/VarHandle" ∧ (parseMethodDescriptor y_M_copyContents.desc).map (fun d => d.parameters.length) = some 2 := by decide +kernel
def qv_M_finish : List Cond := .code y_M_finish b_M_finish 5 (some .int) :: qa_WG
def qr_M_finish : Room := { frames := 0, cells := 0, slots := 0, locals := 0 }
theorem qd_M_finish : y_M_finish.cls = R_M ∧ y_M_finish.cls ≠ "java/lang/invoke/MethodHandle" ∧ y_M_finish.cls ≠ "java/lang/invoke/VarHandle" ∧ (parseMethodDescriptor y_M_finish.desc).map (fun d => d.parameters.length) = some 2 := by decide +kernel
def qv_M_done : List Cond := .code y_M_done b_M_done 2 (some .int) :: qa_WG
def qr_M_done : Room := { frames := 1, cells := 0, slots := 0, locals := 24 }
theorem qd_M_done : y_M_done.cls = R_M ∧ y_M_done.cls ≠ "java/lang/invoke/MethodHandle" ∧ y_M_done.cls ≠ "java/lang/invoke/VarHandle" ∧ (parseMethodDescriptor y_M_done.desc).map (fun d => d.parameters.length) = some 0 := by decide +kernel
def qv_M_create : List Cond := .code y_M_create b_M_create 3 (some .int) :: qa_WG
def qr_M_create : Room := { frames := 2, cells := 0, slots := 0, locals := 45 }
theorem qd_M_create : y_M_create.cls = R_M ∧ y_M_create.cls ≠ "java/lang/invoke/MethodHandle" ∧ y_M_create.cls ≠ "java/lang/invoke/VarHandle" ∧ (parseMethodDescriptor y_M_create.desc).map (fun d => d.parameters.length) = some 1 := by decide +kernel
def qv_M_plain : List Cond := .code y_M_plain b_M_plain 6 (some .boolean) :: qa_WG
def qr_M_plain : Room := { frames := 0, cells := 0, slots := 0, locals := 0 }
theorem qd_M_plain : y_M_plain.cls = R_M ∧ y_M_plain.cls ≠ "java/lang/invoke/MethodHandle" ∧ y_M_plain.cls ≠ "java/lang/invoke/VarHandle" ∧ (parseMethodDescriptor y_M_plain.desc).map (fun d => d.parameters.length) = some 3 := by decide +kernel
def qv_M_setPlain : List Cond := .code y_M_setPlain b_M_setPlain 5 none :: qa_WG
def qr_M_setPlain : Room := { frames := 0, cells := 0, slots := 0, locals := 0 }
theorem qd_M_setPlain : y_M_setPlain.cls = R_M ∧ y_M_setPlain.cls ≠ "java/lang/invoke/MethodHandle" ∧ y_M_setPlain.cls ≠ "java/lang/invoke/VarHandle" ∧ (parseMethodDescriptor y_M_setPlain.desc).map (fun d => d.parameters.length) = some 3 := by decide +kernel
def qv_M_replace : List Cond := .code y_M_replace b_M_replace 3 none :: qa_WG
def qr_M_replace : Room := { frames := 0, cells := 0, slots := 0, locals := 0 }
theorem qd_M_replace : y_M_replace.cls = R_M ∧ y_M_replace.cls ≠ "java/lang/invoke/MethodHandle" ∧ y_M_replace.cls ≠ "java/lang/invoke/VarHandle" ∧ (parseMethodDescriptor y_M_replace.desc).map (fun d => d.parameters.length) = some 2 := by decide +kernel
def qv_M_loose : List Cond := .code y_M_loose b_M_loose 2 (some .int) :: qa_WG
def qr_M_loose : Room := { frames := 0, cells := 0, slots := 0, locals := 0 }
theorem qd_M_loose : y_M_loose.cls = R_M ∧ y_M_loose.cls ≠ "java/lang/invoke/MethodHandle" ∧ y_M_loose.cls ≠ "java/lang/invoke/VarHandle" ∧ (parseMethodDescriptor y_M_loose.desc).map (fun d => d.parameters.length) = some 0 := by decide +kernel
def qv_M_comesOf : List Cond := .code y_M_comesOf b_M_comesOf 4 (some .boolean) :: qa_WG
def qr_M_comesOf : Room := { frames := 0, cells := 0, slots := 0, locals := 0 }
theorem qd_M_comesOf : y_M_comesOf.cls = R_M ∧ y_M_comesOf.cls ≠ "java/lang/invoke/MethodHandle" ∧ y_M_comesOf.cls ≠ "java/lang/invoke/VarHandle" ∧ (parseMethodDescriptor y_M_comesOf.desc).map (fun d => d.parameters.length) = some 2 := by decide +kernel
def qv_M_sameChange : List Cond := .code y_M_sameChange b_M_sameChange 5 (some .int) :: qa_WG
def qr_M_sameChange : Room := { frames := 1, cells := 0, slots := 0, locals := 23 }
theorem qd_M_sameChange : y_M_sameChange.cls = R_M ∧ y_M_sameChange.cls ≠ "java/lang/invoke/MethodHandle" ∧ y_M_sameChange.cls ≠ "java/lang/invoke/VarHandle" ∧ (parseMethodDescriptor y_M_sameChange.desc).map (fun d => d.parameters.length) = some 2 := by decide +kernel
def qv_M_place : List Cond := .code y_M_place b_M_place 6 (some .int) :: qa_WG
def qr_M_place : Room := { frames := 2, cells := 0, slots := 0, locals := 47 }
theorem qd_M_place : y_M_place.cls = R_M ∧ y_M_place.cls ≠ "java/lang/invoke/MethodHandle" ∧ y_M_place.cls ≠ "java/lang/invoke/VarHandle" ∧ (parseMethodDescriptor y_M_place.desc).map (fun d => d.parameters.length) = some 2 := by decide +kernel
def qv_M_mix : List Cond := .code y_M_mix b_M_mix 12 none :: qa_WG
def qr_M_mix : Room := { frames := 1, cells := 0, slots := 0, locals := 24 }
theorem qd_M_mix : y_M_mix.cls = R_M ∧ y_M_mix.cls ≠ "java/lang/invoke/MethodHandle" ∧ y_M_mix.cls ≠ "java/lang/invoke/VarHandle" ∧ (parseMethodDescriptor y_M_mix.desc).map (fun d => d.parameters.length) = some 4 := by decide +kernel
def qv_M_settle : List Cond := .code y_M_settle b_M_settle 4 none :: qa_WG
def qr_M_settle : Room := { frames := 3, cells := 0, slots := 0, locals := 72 }
theorem qd_M_settle : y_M_settle.cls = R_M ∧ y_M_settle.cls ≠ "java/lang/invoke/MethodHandle" ∧ y_M_settle.cls ≠ "java/lang/invoke/VarHandle" ∧ (parseMethodDescriptor y_M_settle.desc).map (fun d => d.parameters.length) = some 0 := by decide +kernel
def qv_M_write : List Cond := .code y_M_write b_M_write 5 (some .int) :: qa_WG
def qr_M_write : Room := { frames := 4, cells := 0, slots := 0, locals := 95 }
theorem qd_M_write : y_M_write.cls = R_M ∧ y_M_write.cls ≠ "java/lang/invoke/MethodHandle" ∧ y_M_write.cls ≠ "java/lang/invoke/VarHandle" ∧ (parseMethodDescriptor y_M_write.desc).map (fun d => d.parameters.length) = some 2 := by decide +kernel
def qv_M_rebase : List Cond := .code y_M_rebase b_M_rebase 4 (some .int) :: qa_WG
def qr_M_rebase : Room := { frames := 4, cells := 0, slots := 0, locals := 95 }
theorem qd_M_rebase : y_M_rebase.cls = R_M ∧ y_M_rebase.cls ≠ "java/lang/invoke/MethodHandle" ∧ y_M_rebase.cls ≠ "java/lang/invoke/VarHandle" ∧ (parseMethodDescriptor y_M_rebase.desc).map (fun d => d.parameters.length) = some 2 := by decide +kernel
def qv_M_abandon : List Cond := .code y_M_abandon b_M_abandon 2 (some .int) :: qa_WG
def qr_M_abandon : Room := { frames := 4, cells := 0, slots := 0, locals := 95 }
theorem qd_M_abandon : y_M_abandon.cls = R_M ∧ y_M_abandon.cls ≠ "java/lang/invoke/MethodHandle" ∧ y_M_abandon.cls ≠ "java/lang/invoke/VarHandle" ∧ (parseMethodDescriptor y_M_abandon.desc).map (fun d => d.parameters.length) = some 1 := by decide +kernel
def qv_M_squash : List Cond := .code y_M_squash b_M_squash 4 (some .int) :: qa_WG
def qr_M_squash : Room := { frames := 4, cells := 0, slots := 0, locals := 95 }
theorem qd_M_squash : y_M_squash.cls = R_M ∧ y_M_squash.cls ≠ "java/lang/invoke/MethodHandle" ∧ y_M_squash.cls ≠ "java/lang/invoke/VarHandle" ∧ (parseMethodDescriptor y_M_squash.desc).map (fun d => d.parameters.length) = some 1 := by decide +kernel
def qv_M_edit : List Cond := .code y_M_edit b_M_edit 2 (some .int) :: qa_WG
def qr_M_edit : Room := { frames := 2, cells := 0, slots := 0, locals := 45 }
theorem qd_M_edit : y_M_edit.cls = R_M ∧ y_M_edit.cls ≠ "java/lang/invoke/MethodHandle" ∧ y_M_edit.cls ≠ "java/lang/invoke/VarHandle" ∧ (parseMethodDescriptor y_M_edit.desc).map (fun d => d.parameters.length) = some 1 := by decide +kernel
def qv_M_mark : List Cond := .code y_M_mark b_M_mark 3 (some .int) :: qa_WG
def qr_M_mark : Room := { frames := 2, cells := 0, slots := 0, locals := 45 }
theorem qd_M_mark : y_M_mark.cls = R_M ∧ y_M_mark.cls ≠ "java/lang/invoke/MethodHandle" ∧ y_M_mark.cls ≠ "java/lang/invoke/VarHandle" ∧ (parseMethodDescriptor y_M_mark.desc).map (fun d => d.parameters.length) = some 2 := by decide +kernel
def qv_M_undo : List Cond := .code y_M_undo b_M_undo 2 (some .int) :: qa_WG
def qr_M_undo : Room := { frames := 2, cells := 0, slots := 0, locals := 45 }
theorem qd_M_undo : y_M_undo.cls = R_M ∧ y_M_undo.cls ≠ "java/lang/invoke/MethodHandle" ∧ y_M_undo.cls ≠ "java/lang/invoke/VarHandle" ∧ (parseMethodDescriptor y_M_undo.desc).map (fun d => d.parameters.length) = some 0 := by decide +kernel
def qv_M_restore : List Cond := .code y_M_restore b_M_restore 2 (some .int) :: qa_WG
def qr_M_restore : Room := { frames := 2, cells := 0, slots := 0, locals := 45 }
theorem qd_M_restore : y_M_restore.cls = R_M ∧ y_M_restore.cls ≠ "java/lang/invoke/MethodHandle" ∧ y_M_restore.cls ≠ "java/lang/invoke/VarHandle" ∧ (parseMethodDescriptor y_M_restore.desc).map (fun d => d.parameters.length) = some 1 := by decide +kernel
def qv_M_fork : List Cond := .code y_M_fork b_M_fork 2 (some .boolean) :: qa_WG
def qr_M_fork : Room := { frames := 0, cells := 0, slots := 0, locals := 0 }
theorem qd_M_fork : y_M_fork.cls = R_M ∧ y_M_fork.cls ≠ "java/lang/invoke/MethodHandle" ∧ y_M_fork.cls ≠ "java/lang/invoke/VarHandle" ∧ (parseMethodDescriptor y_M_fork.desc).map (fun d => d.parameters.length) = some 1 := by decide +kernel
def qv_M_choose : List Cond := .code y_M_choose b_M_choose 2 (some .boolean) :: qa_WG
def qr_M_choose : Room := { frames := 0, cells := 0, slots := 0, locals := 0 }
theorem qd_M_choose : y_M_choose.cls = R_M ∧ y_M_choose.cls ≠ "java/lang/invoke/MethodHandle" ∧ y_M_choose.cls ≠ "java/lang/invoke/VarHandle" ∧ (parseMethodDescriptor y_M_choose.desc).map (fun d => d.parameters.length) = some 1 := by decide +kernel
def qv_M_merged : List Cond := .code y_M_merged b_M_merged 3 (some .int) :: qa_WG
def qr_M_merged : Room := { frames := 0, cells := 0, slots := 0, locals := 0 }
theorem qd_M_merged : y_M_merged.cls = R_M ∧ y_M_merged.cls ≠ "java/lang/invoke/MethodHandle" ∧ y_M_merged.cls ≠ "java/lang/invoke/VarHandle" ∧ (parseMethodDescriptor y_M_merged.desc).map (fun d => d.parameters.length) = some 3 := by decide +kernel
def qv_M_join : List Cond := .code y_M_join b_M_join 7 (some .int) :: qa_WG
def qr_M_join : Room := { frames := 4, cells := 0, slots := 0, locals := 95 }
theorem qd_M_join : y_M_join.cls = R_M ∧ y_M_join.cls ≠ "java/lang/invoke/MethodHandle" ∧ y_M_join.cls ≠ "java/lang/invoke/VarHandle" ∧ (parseMethodDescriptor y_M_join.desc).map (fun d => d.parameters.length) = some 0 := by decide +kernel
def qv_M_operation : List Cond := .code y_M_operation b_M_operation 1 (some .int) :: qa_WG
def qr_M_operation : Room := { frames := 1, cells := 0, slots := 0, locals := 20 }
theorem qd_M_operation : y_M_operation.cls = R_M ∧ y_M_operation.cls ≠ "java/lang/invoke/MethodHandle" ∧ y_M_operation.cls ≠ "java/lang/invoke/VarHandle" ∧ (parseMethodDescriptor y_M_operation.desc).map (fun d => d.parameters.length) = some 0 := by decide +kernel
def qv_M_there : List Cond := .code y_M_there b_M_there 2 (some .boolean) :: qa_WG
def qr_M_there : Room := { frames := 0, cells := 0, slots := 0, locals := 0 }
theorem qd_M_there : y_M_there.cls = R_M ∧ y_M_there.cls ≠ "java/lang/invoke/MethodHandle" ∧ y_M_there.cls ≠ "java/lang/invoke/VarHandle" ∧ (parseMethodDescriptor y_M_there.desc).map (fun d => d.parameters.length) = some 1 := by decide +kernel
def qv_M_before : List Cond := .code y_M_before b_M_before 3 (some .int) :: qa_WG
def qr_M_before : Room := { frames := 1, cells := 0, slots := 0, locals := 21 }
theorem qd_M_before : y_M_before.cls = R_M ∧ y_M_before.cls ≠ "java/lang/invoke/MethodHandle" ∧ y_M_before.cls ≠ "java/lang/invoke/VarHandle" ∧ (parseMethodDescriptor y_M_before.desc).map (fun d => d.parameters.length) = some 2 := by decide +kernel
def qv_M_visible : List Cond := .code y_M_visible b_M_visible 3 (some .boolean) :: qa_WG
def qr_M_visible : Room := { frames := 1, cells := 0, slots := 0, locals := 22 }
theorem qd_M_visible : y_M_visible.cls = R_M ∧ y_M_visible.cls ≠ "java/lang/invoke/MethodHandle" ∧ y_M_visible.cls ≠ "java/lang/invoke/VarHandle" ∧ (parseMethodDescriptor y_M_visible.desc).map (fun d => d.parameters.length) = some 2 := by decide +kernel
def qv_M_working : List Cond := .code y_M_working b_M_working 2 (some .int) :: qa_WG
def qr_M_working : Room := { frames := 1, cells := 0, slots := 0, locals := 21 }
theorem qd_M_working : y_M_working.cls = R_M ∧ y_M_working.cls ≠ "java/lang/invoke/MethodHandle" ∧ y_M_working.cls ≠ "java/lang/invoke/VarHandle" ∧ (parseMethodDescriptor y_M_working.desc).map (fun d => d.parameters.length) = some 1 := by decide +kernel
def qv_M_marked : List Cond := .code y_M_marked b_M_marked 3 (some .int) :: qa_WG
def qr_M_marked : Room := { frames := 1, cells := 0, slots := 0, locals := 21 }
theorem qd_M_marked : y_M_marked.cls = R_M ∧ y_M_marked.cls ≠ "java/lang/invoke/MethodHandle" ∧ y_M_marked.cls ≠ "java/lang/invoke/VarHandle" ∧ (parseMethodDescriptor y_M_marked.desc).map (fun d => d.parameters.length) = some 2 := by decide +kernel
def qv_M_isHead : List Cond := .code y_M_isHead b_M_isHead 5 (some .boolean) :: qa_WG
def qr_M_isHead : Room := { frames := 1, cells := 0, slots := 0, locals := 22 }
theorem qd_M_isHead : y_M_isHead.cls = R_M ∧ y_M_isHead.cls ≠ "java/lang/invoke/MethodHandle" ∧ y_M_isHead.cls ≠ "java/lang/invoke/VarHandle" ∧ (parseMethodDescriptor y_M_isHead.desc).map (fun d => d.parameters.length) = some 2 := by decide +kernel
def qv_M_head : List Cond := .code y_M_head b_M_head 5 (some .int) :: qa_WG
def qr_M_head : Room := { frames := 2, cells := 0, slots := 0, locals := 46 }
theorem qd_M_head : y_M_head.cls = R_M ∧ y_M_head.cls ≠ "java/lang/invoke/MethodHandle" ∧ y_M_head.cls ≠ "java/lang/invoke/VarHandle" ∧ (parseMethodDescriptor y_M_head.desc).map (fun d => d.parameters.length) = some 2 := by decide +kernel
def qv_M_commit : List Cond := .code y_M_commit b_M_commit 3 (some .int) :: qa_WG
def qr_M_commit : Room := { frames := 0, cells := 0, slots := 0, locals := 0 }
theorem qd_M_commit : y_M_commit.cls = R_M ∧ y_M_commit.cls ≠ "java/lang/invoke/MethodHandle" ∧ y_M_commit.cls ≠ "java/lang/invoke/VarHandle" ∧ (parseMethodDescriptor y_M_commit.desc).map (fun d => d.parameters.length) = some 2 := by decide +kernel
def qv_M_count : List Cond := .code y_M_count b_M_count 4 (some .long) :: qa_WG
def qr_M_count : Room := { frames := 0, cells := 0, slots := 0, locals := 0 }
theorem qd_M_count : y_M_count.cls = R_M ∧ y_M_count.cls ≠ "java/lang/invoke/MethodHandle" ∧ y_M_count.cls ≠ "java/lang/invoke/VarHandle" ∧ (parseMethodDescriptor y_M_count.desc).map (fun d => d.parameters.length) = some 3 := by decide +kernel
theorem qo_A_fill : GoodIn qa_WG qv_A_fill := qa_good (pre := []) qh_137 (fun w h => by cases h)
theorem qo_O_36_O_has : GoodIn qa_WG (wsV R_O 36 R_O y_O_has qv_O_has) := qa_good qh_145 (List.forall_mem_cons.mpr ⟨qh_142, List.forall_mem_cons.mpr ⟨qh_143, List.forall_mem_cons.mpr ⟨qh_144, List.forall_mem_cons.mpr ⟨qh_3, fun _ h => by cases h⟩⟩⟩⟩)
theorem qo_S_isMark : GoodIn qa_WG qv_S_isMark := qa_good (pre := []) qh_156 (fun w h => by cases h)
theorem qo_D_43_O_markIn : GoodIn qa_WG (wsV R_D 43 R_O y_O_markIn qv_O_markIn) := qa_good qh_153 (List.forall_mem_cons.mpr ⟨qh_150, List.forall_mem_cons.mpr ⟨qh_151, List.forall_mem_cons.mpr ⟨qh_152, List.forall_mem_cons.mpr ⟨qh_3, fun _ h => by cases h⟩⟩⟩⟩)
theorem qo_D_35_O_workingIn : GoodIn qa_WG (wsV R_D 35 R_O y_O_workingIn qv_O_workingIn) := qa_good qh_149 (List.forall_mem_cons.mpr ⟨qh_146, List.forall_mem_cons.mpr ⟨qh_147, List.forall_mem_cons.mpr ⟨qh_148, List.forall_mem_cons.mpr ⟨qh_3, fun _ h => by cases h⟩⟩⟩⟩)
theorem qo_D_25_O_shownIn : GoodIn qa_WG (wsV R_D 25 R_O y_O_shownIn qv_O_shownIn) := qa_good qh_141 (List.forall_mem_cons.mpr ⟨qh_138, List.forall_mem_cons.mpr ⟨qh_139, List.forall_mem_cons.mpr ⟨qh_140, List.forall_mem_cons.mpr ⟨qh_3, fun _ h => by cases h⟩⟩⟩⟩)
theorem qo_D_22_D_start : GoodIn qa_WG (wsV R_D 22 R_D y_D_start qv_D_start) := qa_good qh_134 (List.forall_mem_cons.mpr ⟨qh_131, List.forall_mem_cons.mpr ⟨qh_133, List.forall_mem_cons.mpr ⟨qh_s1, List.forall_mem_cons.mpr ⟨qh_4, fun _ h => by cases h⟩⟩⟩⟩)
theorem qo_S_126_D_open : GoodIn qa_WG (wsV R_S 126 R_D y_D_open qv_D_open) := qa_good qh_130 (List.forall_mem_cons.mpr ⟨qh_127, List.forall_mem_cons.mpr ⟨qh_128, List.forall_mem_cons.mpr ⟨qh_129, List.forall_mem_cons.mpr ⟨qh_4, fun _ h => by cases h⟩⟩⟩⟩)
theorem qo_S_isIn : GoodIn qa_WG qv_S_isIn := qa_good (pre := []) qh_163 (fun w h => by cases h)
theorem qo_S_162_O_isFull : GoodIn qa_WG (wsV R_S 162 R_O y_O_isFull qv_O_isFull) := qa_good qh_175 (List.forall_mem_cons.mpr ⟨qh_172, List.forall_mem_cons.mpr ⟨qh_173, List.forall_mem_cons.mpr ⟨qh_174, List.forall_mem_cons.mpr ⟨qh_3, fun _ h => by cases h⟩⟩⟩⟩)
theorem qo_S_159_C_isFull : GoodIn qa_WG (wsV R_S 159 R_C y_C_isFull qv_C_isFull) := qa_good qh_171 (List.forall_mem_cons.mpr ⟨qh_168, List.forall_mem_cons.mpr ⟨qh_169, List.forall_mem_cons.mpr ⟨qh_170, List.forall_mem_cons.mpr ⟨qh_2, fun _ h => by cases h⟩⟩⟩⟩)
theorem qo_C_39_C_start : GoodIn qa_WG (wsS R_C 39 y_C_start qv_C_start) := qa_good qh_191 (List.forall_mem_cons.mpr ⟨qh_189, List.forall_mem_cons.mpr ⟨qh_190, List.forall_mem_cons.mpr ⟨qh_2, fun _ h => by cases h⟩⟩⟩)
theorem qo_C_29_C_has : GoodIn qa_WG (wsV R_C 29 R_C y_C_has qv_C_has) := qa_good qh_188 (List.forall_mem_cons.mpr ⟨qh_185, List.forall_mem_cons.mpr ⟨qh_186, List.forall_mem_cons.mpr ⟨qh_187, List.forall_mem_cons.mpr ⟨qh_2, fun _ h => by cases h⟩⟩⟩⟩)
theorem qo_C_59_C_isFull : GoodIn qa_WG (wsV R_C 59 R_C y_C_isFull qv_C_isFull) := qa_good qh_171 (List.forall_mem_cons.mpr ⟨qh_180, List.forall_mem_cons.mpr ⟨qh_169, List.forall_mem_cons.mpr ⟨qh_170, List.forall_mem_cons.mpr ⟨qh_2, fun _ h => by cases h⟩⟩⟩⟩)
theorem qo_C_63_C_addCopy : GoodIn qa_WG (wsV R_C 63 R_C y_C_addCopy qv_C_addCopy) := qa_good qh_184 (List.forall_mem_cons.mpr ⟨qh_181, List.forall_mem_cons.mpr ⟨qh_182, List.forall_mem_cons.mpr ⟨qh_183, List.forall_mem_cons.mpr ⟨qh_2, fun _ h => by cases h⟩⟩⟩⟩)
theorem qo_S_bit : GoodIn qa_WG qv_S_bit := qa_good (pre := []) qh_49 (fun w h => by cases h)
theorem qo_D_107_D_shows : GoodIn qa_WG (wsV R_D 107 R_D y_D_shows qv_D_shows) := qa_good qh_160 (List.forall_mem_cons.mpr ⟨qh_216, List.forall_mem_cons.mpr ⟨qh_158, List.forall_mem_cons.mpr ⟨qh_159, List.forall_mem_cons.mpr ⟨qh_4, fun _ h => by cases h⟩⟩⟩⟩)
theorem qo_D_93_C_parentOf : GoodIn qa_WG (wsV R_D 93 R_C y_C_parentOf qv_C_parentOf) := qa_good qh_220 (List.forall_mem_cons.mpr ⟨qh_217, List.forall_mem_cons.mpr ⟨qh_218, List.forall_mem_cons.mpr ⟨qh_219, List.forall_mem_cons.mpr ⟨qh_2, fun _ h => by cases h⟩⟩⟩⟩)
theorem qo_C_51_C_parentOf : GoodIn qa_WG (wsV R_C 51 R_C y_C_parentOf qv_C_parentOf) := qa_good qh_220 (List.forall_mem_cons.mpr ⟨qh_227, List.forall_mem_cons.mpr ⟨qh_218, List.forall_mem_cons.mpr ⟨qh_219, List.forall_mem_cons.mpr ⟨qh_2, fun _ h => by cases h⟩⟩⟩⟩)
theorem qo_D_116_C_latestOfChange : GoodIn qa_WG (wsV R_D 116 R_C y_C_latestOfChange qv_C_latestOfChange) := qa_good qh_246 (List.forall_mem_cons.mpr ⟨qh_243, List.forall_mem_cons.mpr ⟨qh_244, List.forall_mem_cons.mpr ⟨qh_245, List.forall_mem_cons.mpr ⟨qh_2, fun _ h => by cases h⟩⟩⟩⟩)
theorem qo_D_113_C_changeOf : GoodIn qa_WG (wsV R_D 113 R_C y_C_changeOf qv_C_changeOf) := qa_good qh_242 (List.forall_mem_cons.mpr ⟨qh_239, List.forall_mem_cons.mpr ⟨qh_240, List.forall_mem_cons.mpr ⟨qh_241, List.forall_mem_cons.mpr ⟨qh_2, fun _ h => by cases h⟩⟩⟩⟩)
theorem qo_D_74_C_has : GoodIn qa_WG (wsV R_D 74 R_C y_C_has qv_C_has) := qa_good qh_188 (List.forall_mem_cons.mpr ⟨qh_238, List.forall_mem_cons.mpr ⟨qh_186, List.forall_mem_cons.mpr ⟨qh_187, List.forall_mem_cons.mpr ⟨qh_2, fun _ h => by cases h⟩⟩⟩⟩)
theorem qo_D_110_D_nextTowardsPlace : GoodIn qa_WG (wsV R_D 110 R_D y_D_nextTowardsPlace qv_D_nextTowardsPlace) := qa_good qh_237 (List.forall_mem_cons.mpr ⟨qh_234, List.forall_mem_cons.mpr ⟨qh_236, List.forall_mem_cons.mpr ⟨qh_s6, List.forall_mem_cons.mpr ⟨qh_4, fun _ h => by cases h⟩⟩⟩⟩)
theorem qo_S_isValue : GoodIn qa_WG qv_S_isValue := qa_good (pre := []) qh_265 (fun w h => by cases h)
theorem qo_S_isPath : GoodIn qa_WG qv_S_isPath := qa_good (pre := []) qh_262 (fun w h => by cases h)
theorem qo_C_80_C_makePlain : GoodIn qa_WG (wsV R_C 80 R_C y_C_makePlain qv_C_makePlain) := qa_good qh_259 (List.forall_mem_cons.mpr ⟨qh_256, List.forall_mem_cons.mpr ⟨qh_257, List.forall_mem_cons.mpr ⟨qh_258, List.forall_mem_cons.mpr ⟨qh_2, fun _ h => by cases h⟩⟩⟩⟩)
theorem qo_C_76_C_addDifference : GoodIn qa_WG (wsV R_C 76 R_C y_C_addDifference qv_C_addDifference) := qa_good qh_255 (List.forall_mem_cons.mpr ⟨qh_252, List.forall_mem_cons.mpr ⟨qh_254, List.forall_mem_cons.mpr ⟨qh_s7, List.forall_mem_cons.mpr ⟨qh_2, fun _ h => by cases h⟩⟩⟩⟩)
theorem qo_C_73_C_changeOf : GoodIn qa_WG (wsV R_C 73 R_C y_C_changeOf qv_C_changeOf) := qa_good qh_242 (List.forall_mem_cons.mpr ⟨qh_251, List.forall_mem_cons.mpr ⟨qh_240, List.forall_mem_cons.mpr ⟨qh_241, List.forall_mem_cons.mpr ⟨qh_2, fun _ h => by cases h⟩⟩⟩⟩)
theorem qo_D_78_D_show : GoodIn qa_WG (wsV R_D 78 R_D y_D_show qv_D_show) := qa_good qh_198 (List.forall_mem_cons.mpr ⟨qh_270, List.forall_mem_cons.mpr ⟨qh_196, List.forall_mem_cons.mpr ⟨qh_197, List.forall_mem_cons.mpr ⟨qh_4, fun _ h => by cases h⟩⟩⟩⟩)
theorem qo_D_103_D_replace : GoodIn qa_WG (wsV R_D 103 R_D y_D_replace qv_D_replace) := qa_good qh_269 (List.forall_mem_cons.mpr ⟨qh_266, List.forall_mem_cons.mpr ⟨qh_267, List.forall_mem_cons.mpr ⟨qh_268, List.forall_mem_cons.mpr ⟨qh_4, fun _ h => by cases h⟩⟩⟩⟩)
theorem qo_D_100_C_addMoved : GoodIn qa_WG (wsV R_D 100 R_C y_C_addMoved qv_C_addMoved) := qa_good qh_250 (List.forall_mem_cons.mpr ⟨qh_247, List.forall_mem_cons.mpr ⟨qh_248, List.forall_mem_cons.mpr ⟨qh_249, List.forall_mem_cons.mpr ⟨qh_2, fun _ h => by cases h⟩⟩⟩⟩)
theorem qo_D_96_D_placeOf : GoodIn qa_WG (wsV R_D 96 R_D y_D_placeOf qv_D_placeOf) := qa_good qh_233 (List.forall_mem_cons.mpr ⟨qh_230, List.forall_mem_cons.mpr ⟨qh_232, List.forall_mem_cons.mpr ⟨qh_s5, List.forall_mem_cons.mpr ⟨qh_4, fun _ h => by cases h⟩⟩⟩⟩)
theorem qo_D_90_C_withAllThatComesOf : GoodIn qa_WG (wsV R_D 90 R_C y_C_withAllThatComesOf qv_C_withAllThatComesOf) := qa_good qh_225 (List.forall_mem_cons.mpr ⟨qh_222, List.forall_mem_cons.mpr ⟨qh_223, List.forall_mem_cons.mpr ⟨qh_224, List.forall_mem_cons.mpr ⟨qh_2, fun _ h => by cases h⟩⟩⟩⟩)
theorem qo_D_86_C_isFull : GoodIn qa_WG (wsV R_D 86 R_C y_C_isFull qv_C_isFull) := qa_good qh_171 (List.forall_mem_cons.mpr ⟨qh_221, List.forall_mem_cons.mpr ⟨qh_169, List.forall_mem_cons.mpr ⟨qh_170, List.forall_mem_cons.mpr ⟨qh_2, fun _ h => by cases h⟩⟩⟩⟩)
theorem qo_D_82_D_lowestOrphan : GoodIn qa_WG (wsV R_D 82 R_D y_D_lowestOrphan qv_D_lowestOrphan) := qa_good qh_215 (List.forall_mem_cons.mpr ⟨qh_212, List.forall_mem_cons.mpr ⟨qh_214, List.forall_mem_cons.mpr ⟨qh_s4, List.forall_mem_cons.mpr ⟨qh_4, fun _ h => by cases h⟩⟩⟩⟩)
theorem qo_O_43_O_isFull : GoodIn qa_WG (wsV R_O 43 R_O y_O_isFull qv_O_isFull) := qa_good qh_175 (List.forall_mem_cons.mpr ⟨qh_283, List.forall_mem_cons.mpr ⟨qh_173, List.forall_mem_cons.mpr ⟨qh_174, List.forall_mem_cons.mpr ⟨qh_3, fun _ h => by cases h⟩⟩⟩⟩)
theorem qo_S_169_C_dropFrom : GoodIn qa_WG (wsV R_S 169 R_C y_C_dropFrom qv_C_dropFrom) := qa_good qh_274 (List.forall_mem_cons.mpr ⟨qh_271, List.forall_mem_cons.mpr ⟨qh_272, List.forall_mem_cons.mpr ⟨qh_273, List.forall_mem_cons.mpr ⟨qh_2, fun _ h => by cases h⟩⟩⟩⟩)
theorem qo_S_175_O_add : GoodIn qa_WG (wsV R_S 175 R_O y_O_add qv_O_add) := qa_good qh_282 (List.forall_mem_cons.mpr ⟨qh_279, List.forall_mem_cons.mpr ⟨qh_280, List.forall_mem_cons.mpr ⟨qh_281, List.forall_mem_cons.mpr ⟨qh_3, fun _ h => by cases h⟩⟩⟩⟩)
theorem qo_S_172_D_settlePointers : GoodIn qa_WG (wsV R_S 172 R_D y_D_settlePointers qv_D_settlePointers) := qa_good qh_278 (List.forall_mem_cons.mpr ⟨qh_275, List.forall_mem_cons.mpr ⟨qh_276, List.forall_mem_cons.mpr ⟨qh_277, List.forall_mem_cons.mpr ⟨qh_4, fun _ h => by cases h⟩⟩⟩⟩)
theorem qo_S_163_D_settleCommits : GoodIn qa_WG (wsV R_S 163 R_D y_D_settleCommits qv_D_settleCommits) := qa_good qh_211 (List.forall_mem_cons.mpr ⟨qh_208, List.forall_mem_cons.mpr ⟨qh_209, List.forall_mem_cons.mpr ⟨qh_210, List.forall_mem_cons.mpr ⟨qh_4, fun _ h => by cases h⟩⟩⟩⟩)
theorem qo_S_65_S_keepDraft : GoodIn qa_WG (wsV R_S 65 R_S y_S_keepDraft qv_S_keepDraft) := qa_good qh_207 (List.forall_mem_cons.mpr ⟨qh_204, List.forall_mem_cons.mpr ⟨qh_206, List.forall_mem_cons.mpr ⟨qh_s3, List.forall_mem_cons.mpr ⟨qh_1, fun _ h => by cases h⟩⟩⟩⟩)
theorem qo_S_62_D_workOn : GoodIn qa_WG (wsV R_S 62 R_D y_D_workOn qv_D_workOn) := qa_good qh_203 (List.forall_mem_cons.mpr ⟨qh_200, List.forall_mem_cons.mpr ⟨qh_201, List.forall_mem_cons.mpr ⟨qh_202, List.forall_mem_cons.mpr ⟨qh_4, fun _ h => by cases h⟩⟩⟩⟩)
theorem qo_S_58_D_show : GoodIn qa_WG (wsV R_S 58 R_D y_D_show qv_D_show) := qa_good qh_198 (List.forall_mem_cons.mpr ⟨qh_195, List.forall_mem_cons.mpr ⟨qh_196, List.forall_mem_cons.mpr ⟨qh_197, List.forall_mem_cons.mpr ⟨qh_4, fun _ h => by cases h⟩⟩⟩⟩)
theorem qo_S_54_C_addNewChange : GoodIn qa_WG (wsV R_S 54 R_C y_C_addNewChange qv_C_addNewChange) := qa_good qh_179 (List.forall_mem_cons.mpr ⟨qh_176, List.forall_mem_cons.mpr ⟨qh_177, List.forall_mem_cons.mpr ⟨qh_178, List.forall_mem_cons.mpr ⟨qh_2, fun _ h => by cases h⟩⟩⟩⟩)
theorem qo_S_50_S_hasRoomForCommit : GoodIn qa_WG (wsV R_S 50 R_S y_S_hasRoomForCommit qv_S_hasRoomForCommit) := qa_good qh_167 (List.forall_mem_cons.mpr ⟨qh_164, List.forall_mem_cons.mpr ⟨qh_166, List.forall_mem_cons.mpr ⟨qh_s2, List.forall_mem_cons.mpr ⟨qh_1, fun _ h => by cases h⟩⟩⟩⟩)
theorem qo_S_46_D_shows : GoodIn qa_WG (wsV R_S 46 R_D y_D_shows qv_D_shows) := qa_good qh_160 (List.forall_mem_cons.mpr ⟨qh_157, List.forall_mem_cons.mpr ⟨qh_158, List.forall_mem_cons.mpr ⟨qh_159, List.forall_mem_cons.mpr ⟨qh_4, fun _ h => by cases h⟩⟩⟩⟩)
theorem qo_S_43_S_openDraft : GoodIn qa_WG (wsV R_S 43 R_S y_S_openDraft qv_S_openDraft) := qa_good qh_126 (List.forall_mem_cons.mpr ⟨qh_123, List.forall_mem_cons.mpr ⟨qh_125, List.forall_mem_cons.mpr ⟨qh_s0, List.forall_mem_cons.mpr ⟨qh_1, fun _ h => by cases h⟩⟩⟩⟩)
theorem qo_C_43_C_countOf : GoodIn qa_WG (wsV R_C 43 R_C y_C_countOf qv_C_countOf) := qa_good qh_298 (List.forall_mem_cons.mpr ⟨qh_295, List.forall_mem_cons.mpr ⟨qh_296, List.forall_mem_cons.mpr ⟨qh_297, List.forall_mem_cons.mpr ⟨qh_2, fun _ h => by cases h⟩⟩⟩⟩)
theorem qo_S_96_D_replace : GoodIn qa_WG (wsV R_S 96 R_D y_D_replace qv_D_replace) := qa_good qh_269 (List.forall_mem_cons.mpr ⟨qh_303, List.forall_mem_cons.mpr ⟨qh_267, List.forall_mem_cons.mpr ⟨qh_268, List.forall_mem_cons.mpr ⟨qh_4, fun _ h => by cases h⟩⟩⟩⟩)
theorem qo_S_92_C_makePlain : GoodIn qa_WG (wsV R_S 92 R_C y_C_makePlain qv_C_makePlain) := qa_good qh_259 (List.forall_mem_cons.mpr ⟨qh_302, List.forall_mem_cons.mpr ⟨qh_257, List.forall_mem_cons.mpr ⟨qh_258, List.forall_mem_cons.mpr ⟨qh_2, fun _ h => by cases h⟩⟩⟩⟩)
theorem qo_S_88_C_addCopy : GoodIn qa_WG (wsV R_S 88 R_C y_C_addCopy qv_C_addCopy) := qa_good qh_184 (List.forall_mem_cons.mpr ⟨qh_301, List.forall_mem_cons.mpr ⟨qh_182, List.forall_mem_cons.mpr ⟨qh_183, List.forall_mem_cons.mpr ⟨qh_2, fun _ h => by cases h⟩⟩⟩⟩)
theorem qo_S_85_C_parentOf : GoodIn qa_WG (wsV R_S 85 R_C y_C_parentOf qv_C_parentOf) := qa_good qh_220 (List.forall_mem_cons.mpr ⟨qh_300, List.forall_mem_cons.mpr ⟨qh_218, List.forall_mem_cons.mpr ⟨qh_219, List.forall_mem_cons.mpr ⟨qh_2, fun _ h => by cases h⟩⟩⟩⟩)
theorem qo_S_82_C_changeOf : GoodIn qa_WG (wsV R_S 82 R_C y_C_changeOf qv_C_changeOf) := qa_good qh_242 (List.forall_mem_cons.mpr ⟨qh_299, List.forall_mem_cons.mpr ⟨qh_240, List.forall_mem_cons.mpr ⟨qh_241, List.forall_mem_cons.mpr ⟨qh_2, fun _ h => by cases h⟩⟩⟩⟩)
theorem qo_S_78_C_isPlain : GoodIn qa_WG (wsV R_S 78 R_C y_C_isPlain qv_C_isPlain) := qa_good qh_294 (List.forall_mem_cons.mpr ⟨qh_291, List.forall_mem_cons.mpr ⟨qh_292, List.forall_mem_cons.mpr ⟨qh_293, List.forall_mem_cons.mpr ⟨qh_2, fun _ h => by cases h⟩⟩⟩⟩)
theorem qo_S_75_S_isValue : GoodIn qa_WG (wsS R_S 75 y_S_isValue qv_S_isValue) := qa_good qh_265 (List.forall_mem_cons.mpr ⟨qh_290, List.forall_mem_cons.mpr ⟨qh_264, List.forall_mem_cons.mpr ⟨qh_1, fun _ h => by cases h⟩⟩⟩)
theorem qo_S_72_S_isPath : GoodIn qa_WG (wsS R_S 72 y_S_isPath qv_S_isPath) := qa_good qh_262 (List.forall_mem_cons.mpr ⟨qh_289, List.forall_mem_cons.mpr ⟨qh_261, List.forall_mem_cons.mpr ⟨qh_1, fun _ h => by cases h⟩⟩⟩)
theorem qo_S_111_C_addMoved : GoodIn qa_WG (wsV R_S 111 R_C y_C_addMoved qv_C_addMoved) := qa_good qh_250 (List.forall_mem_cons.mpr ⟨qh_314, List.forall_mem_cons.mpr ⟨qh_248, List.forall_mem_cons.mpr ⟨qh_249, List.forall_mem_cons.mpr ⟨qh_2, fun _ h => by cases h⟩⟩⟩⟩)
theorem qo_S_107_S_isIn : GoodIn qa_WG (wsS R_S 107 y_S_isIn qv_S_isIn) := qa_good qh_163 (List.forall_mem_cons.mpr ⟨qh_313, List.forall_mem_cons.mpr ⟨qh_162, List.forall_mem_cons.mpr ⟨qh_1, fun _ h => by cases h⟩⟩⟩)
theorem qo_S_103_C_withAllThatComesOf : GoodIn qa_WG (wsV R_S 103 R_C y_C_withAllThatComesOf qv_C_withAllThatComesOf) := qa_good qh_225 (List.forall_mem_cons.mpr ⟨qh_312, List.forall_mem_cons.mpr ⟨qh_223, List.forall_mem_cons.mpr ⟨qh_224, List.forall_mem_cons.mpr ⟨qh_2, fun _ h => by cases h⟩⟩⟩⟩)
theorem qo_S_100_S_isReplaceable : GoodIn qa_WG (wsV R_S 100 R_S y_S_isReplaceable qv_S_isReplaceable) := qa_good qh_311 (List.forall_mem_cons.mpr ⟨qh_308, List.forall_mem_cons.mpr ⟨qh_310, List.forall_mem_cons.mpr ⟨qh_s8, List.forall_mem_cons.mpr ⟨qh_1, fun _ h => by cases h⟩⟩⟩⟩)
theorem qo_S_114_S_isMark : GoodIn qa_WG (wsS R_S 114 y_S_isMark qv_S_isMark) := qa_good qh_156 (List.forall_mem_cons.mpr ⟨qh_331, List.forall_mem_cons.mpr ⟨qh_155, List.forall_mem_cons.mpr ⟨qh_1, fun _ h => by cases h⟩⟩⟩)
theorem qo_S_123_O_secondBefore : GoodIn qa_WG (wsV R_S 123 R_O y_O_secondBefore qv_O_secondBefore) := qa_good qh_343 (List.forall_mem_cons.mpr ⟨qh_340, List.forall_mem_cons.mpr ⟨qh_341, List.forall_mem_cons.mpr ⟨qh_342, List.forall_mem_cons.mpr ⟨qh_3, fun _ h => by cases h⟩⟩⟩⟩)
theorem qo_S_120_O_firstBefore : GoodIn qa_WG (wsV R_S 120 R_O y_O_firstBefore qv_O_firstBefore) := qa_good qh_339 (List.forall_mem_cons.mpr ⟨qh_336, List.forall_mem_cons.mpr ⟨qh_337, List.forall_mem_cons.mpr ⟨qh_338, List.forall_mem_cons.mpr ⟨qh_3, fun _ h => by cases h⟩⟩⟩⟩)
theorem qo_S_130_O_has : GoodIn qa_WG (wsV R_S 130 R_O y_O_has qv_O_has) := qa_good qh_145 (List.forall_mem_cons.mpr ⟨qh_348, List.forall_mem_cons.mpr ⟨qh_143, List.forall_mem_cons.mpr ⟨qh_144, List.forall_mem_cons.mpr ⟨qh_3, fun _ h => by cases h⟩⟩⟩⟩)
theorem qo_S_133_S_hasLineOne : GoodIn qa_WG (wsV R_S 133 R_S y_S_hasLineOne qv_S_hasLineOne) := qa_good qh_356 (List.forall_mem_cons.mpr ⟨qh_353, List.forall_mem_cons.mpr ⟨qh_355, List.forall_mem_cons.mpr ⟨qh_s9, List.forall_mem_cons.mpr ⟨qh_1, fun _ h => by cases h⟩⟩⟩⟩)
theorem qo_D_49_D_joinedMark : GoodIn qa_WG (wsS R_D 49 y_D_joinedMark qv_D_joinedMark) := qa_good qh_371 (List.forall_mem_cons.mpr ⟨qh_369, List.forall_mem_cons.mpr ⟨qh_370, List.forall_mem_cons.mpr ⟨qh_4, fun _ h => by cases h⟩⟩⟩)
theorem qo_S_136_D_openJoined : GoodIn qa_WG (wsV R_S 136 R_D y_D_openJoined qv_D_openJoined) := qa_good qh_368 (List.forall_mem_cons.mpr ⟨qh_365, List.forall_mem_cons.mpr ⟨qh_366, List.forall_mem_cons.mpr ⟨qh_367, List.forall_mem_cons.mpr ⟨qh_4, fun _ h => by cases h⟩⟩⟩⟩)
theorem qo_S_140_O_shownIn : GoodIn qa_WG (wsV R_S 140 R_O y_O_shownIn qv_O_shownIn) := qa_good qh_141 (List.forall_mem_cons.mpr ⟨qh_384, List.forall_mem_cons.mpr ⟨qh_139, List.forall_mem_cons.mpr ⟨qh_140, List.forall_mem_cons.mpr ⟨qh_3, fun _ h => by cases h⟩⟩⟩⟩)
theorem qo_S_143_O_workingIn : GoodIn qa_WG (wsV R_S 143 R_O y_O_workingIn qv_O_workingIn) := qa_good qh_149 (List.forall_mem_cons.mpr ⟨qh_389, List.forall_mem_cons.mpr ⟨qh_147, List.forall_mem_cons.mpr ⟨qh_148, List.forall_mem_cons.mpr ⟨qh_3, fun _ h => by cases h⟩⟩⟩⟩)
theorem qo_S_146_O_markIn : GoodIn qa_WG (wsV R_S 146 R_O y_O_markIn qv_O_markIn) := qa_good qh_153 (List.forall_mem_cons.mpr ⟨qh_394, List.forall_mem_cons.mpr ⟨qh_151, List.forall_mem_cons.mpr ⟨qh_152, List.forall_mem_cons.mpr ⟨qh_3, fun _ h => by cases h⟩⟩⟩⟩)
theorem qo_S_149_C_parentsOf : GoodIn qa_WG (wsV R_S 149 R_C y_C_parentsOf qv_C_parentsOf) := qa_good qh_402 (List.forall_mem_cons.mpr ⟨qh_399, List.forall_mem_cons.mpr ⟨qh_400, List.forall_mem_cons.mpr ⟨qh_401, List.forall_mem_cons.mpr ⟨qh_2, fun _ h => by cases h⟩⟩⟩⟩)
theorem qo_S_155_C_countOf : GoodIn qa_WG (wsV R_S 155 R_C y_C_countOf qv_C_countOf) := qa_good qh_298 (List.forall_mem_cons.mpr ⟨qh_412, List.forall_mem_cons.mpr ⟨qh_296, List.forall_mem_cons.mpr ⟨qh_297, List.forall_mem_cons.mpr ⟨qh_2, fun _ h => by cases h⟩⟩⟩⟩)
theorem qo_M_107_M_here : GoodIn qa_WG (wsV R_M 107 R_M y_M_here qv_M_here) := qa_good qh_497 (List.forall_mem_cons.mpr ⟨qh_494, List.forall_mem_cons.mpr ⟨qh_496, List.forall_mem_cons.mpr ⟨qh_s10, List.forall_mem_cons.mpr ⟨qh_5, fun _ h => by cases h⟩⟩⟩⟩)
theorem qo_M_110_M_finish : GoodIn qa_WG (wsV R_M 110 R_M y_M_finish qv_M_finish) := qa_good qh_521 (List.forall_mem_cons.mpr ⟨qh_518, List.forall_mem_cons.mpr ⟨qh_520, List.forall_mem_cons.mpr ⟨qh_s16, List.forall_mem_cons.mpr ⟨qh_5, fun _ h => by cases h⟩⟩⟩⟩)
theorem qo_M_123_M_done : GoodIn qa_WG (wsV R_M 123 R_M y_M_done qv_M_done) := qa_good qh_517 (List.forall_mem_cons.mpr ⟨qh_514, List.forall_mem_cons.mpr ⟨qh_516, List.forall_mem_cons.mpr ⟨qh_s15, List.forall_mem_cons.mpr ⟨qh_5, fun _ h => by cases h⟩⟩⟩⟩)
theorem qo_M_120_M_copyContents : GoodIn qa_WG (wsV R_M 120 R_M y_M_copyContents qv_M_copyContents) := qa_good qh_513 (List.forall_mem_cons.mpr ⟨qh_510, List.forall_mem_cons.mpr ⟨qh_512, List.forall_mem_cons.mpr ⟨qh_s14, List.forall_mem_cons.mpr ⟨qh_5, fun _ h => by cases h⟩⟩⟩⟩)
theorem qo_M_96_M_fresh : GoodIn qa_WG (wsV R_M 96 R_M y_M_fresh qv_M_fresh) := qa_good qh_509 (List.forall_mem_cons.mpr ⟨qh_506, List.forall_mem_cons.mpr ⟨qh_508, List.forall_mem_cons.mpr ⟨qh_s13, List.forall_mem_cons.mpr ⟨qh_5, fun _ h => by cases h⟩⟩⟩⟩)
theorem qo_M_116_M_begin : GoodIn qa_WG (wsV R_M 116 R_M y_M_begin qv_M_begin) := qa_good qh_505 (List.forall_mem_cons.mpr ⟨qh_502, List.forall_mem_cons.mpr ⟨qh_504, List.forall_mem_cons.mpr ⟨qh_s12, List.forall_mem_cons.mpr ⟨qh_5, fun _ h => by cases h⟩⟩⟩⟩)
theorem qo_M_113_M_isVisible : GoodIn qa_WG (wsV R_M 113 R_M y_M_isVisible qv_M_isVisible) := qa_good qh_501 (List.forall_mem_cons.mpr ⟨qh_498, List.forall_mem_cons.mpr ⟨qh_500, List.forall_mem_cons.mpr ⟨qh_s11, List.forall_mem_cons.mpr ⟨qh_5, fun _ h => by cases h⟩⟩⟩⟩)
theorem qo_M_81_M_comesOf : GoodIn qa_WG (wsV R_M 81 R_M y_M_comesOf qv_M_comesOf) := qa_good qh_557 (List.forall_mem_cons.mpr ⟨qh_554, List.forall_mem_cons.mpr ⟨qh_556, List.forall_mem_cons.mpr ⟨qh_s24, List.forall_mem_cons.mpr ⟨qh_5, fun _ h => by cases h⟩⟩⟩⟩)
theorem qo_M_85_M_sameChange : GoodIn qa_WG (wsV R_M 85 R_M y_M_sameChange qv_M_sameChange) := qa_good qh_553 (List.forall_mem_cons.mpr ⟨qh_550, List.forall_mem_cons.mpr ⟨qh_552, List.forall_mem_cons.mpr ⟨qh_s23, List.forall_mem_cons.mpr ⟨qh_5, fun _ h => by cases h⟩⟩⟩⟩)
theorem qo_M_61_M_setPlain : GoodIn qa_WG (wsV R_M 61 R_M y_M_setPlain qv_M_setPlain) := qa_good qh_533 (List.forall_mem_cons.mpr ⟨qh_530, List.forall_mem_cons.mpr ⟨qh_532, List.forall_mem_cons.mpr ⟨qh_s18, List.forall_mem_cons.mpr ⟨qh_5, fun _ h => by cases h⟩⟩⟩⟩)
theorem qo_M_93_M_place : GoodIn qa_WG (wsV R_M 93 R_M y_M_place qv_M_place) := qa_good qh_549 (List.forall_mem_cons.mpr ⟨qh_546, List.forall_mem_cons.mpr ⟨qh_548, List.forall_mem_cons.mpr ⟨qh_s22, List.forall_mem_cons.mpr ⟨qh_5, fun _ h => by cases h⟩⟩⟩⟩)
theorem qo_M_89_M_loose : GoodIn qa_WG (wsV R_M 89 R_M y_M_loose qv_M_loose) := qa_good qh_545 (List.forall_mem_cons.mpr ⟨qh_542, List.forall_mem_cons.mpr ⟨qh_544, List.forall_mem_cons.mpr ⟨qh_s21, List.forall_mem_cons.mpr ⟨qh_5, fun _ h => by cases h⟩⟩⟩⟩)
theorem qo_M_103_M_replace : GoodIn qa_WG (wsV R_M 103 R_M y_M_replace qv_M_replace) := qa_good qh_537 (List.forall_mem_cons.mpr ⟨qh_534, List.forall_mem_cons.mpr ⟨qh_536, List.forall_mem_cons.mpr ⟨qh_s19, List.forall_mem_cons.mpr ⟨qh_5, fun _ h => by cases h⟩⟩⟩⟩)
theorem qo_M_99_M_mix : GoodIn qa_WG (wsV R_M 99 R_M y_M_mix qv_M_mix) := qa_good qh_561 (List.forall_mem_cons.mpr ⟨qh_558, List.forall_mem_cons.mpr ⟨qh_560, List.forall_mem_cons.mpr ⟨qh_s25, List.forall_mem_cons.mpr ⟨qh_5, fun _ h => by cases h⟩⟩⟩⟩)
theorem qo_M_130_M_settle : GoodIn qa_WG (wsV R_M 130 R_M y_M_settle qv_M_settle) := qa_good qh_541 (List.forall_mem_cons.mpr ⟨qh_538, List.forall_mem_cons.mpr ⟨qh_540, List.forall_mem_cons.mpr ⟨qh_s20, List.forall_mem_cons.mpr ⟨qh_5, fun _ h => by cases h⟩⟩⟩⟩)
theorem qo_M_126_M_plain : GoodIn qa_WG (wsV R_M 126 R_M y_M_plain qv_M_plain) := qa_good qh_529 (List.forall_mem_cons.mpr ⟨qh_526, List.forall_mem_cons.mpr ⟨qh_528, List.forall_mem_cons.mpr ⟨qh_s17, List.forall_mem_cons.mpr ⟨qh_5, fun _ h => by cases h⟩⟩⟩⟩)
theorem qo_M_139_M_merged : GoodIn qa_WG (wsS R_M 139 y_M_merged qv_M_merged) := qa_good qh_604 (List.forall_mem_cons.mpr ⟨qh_602, List.forall_mem_cons.mpr ⟨qh_603, List.forall_mem_cons.mpr ⟨qh_5, fun _ h => by cases h⟩⟩⟩)
theorem qo_M_143_M_there : GoodIn qa_WG (wsV R_M 143 R_M y_M_there qv_M_there) := qa_good qh_616 (List.forall_mem_cons.mpr ⟨qh_613, List.forall_mem_cons.mpr ⟨qh_615, List.forall_mem_cons.mpr ⟨qh_s26, List.forall_mem_cons.mpr ⟨qh_5, fun _ h => by cases h⟩⟩⟩⟩)
theorem qo_M_147_M_isHead : GoodIn qa_WG (wsV R_M 147 R_M y_M_isHead qv_M_isHead) := qa_good qh_636 (List.forall_mem_cons.mpr ⟨qh_633, List.forall_mem_cons.mpr ⟨qh_635, List.forall_mem_cons.mpr ⟨qh_s27, List.forall_mem_cons.mpr ⟨qh_5, fun _ h => by cases h⟩⟩⟩⟩)
end
section
def qC_w (a : Nat → Nat) (k : Nat → ClassId) (x : QX) : va_W := [(a 0, .inr (0, [.ref (a 1), .ref (a 2), .ref (a 3), .ref (a 4), .int (gI x 0), .int (gI x 1)])), (a 1, .inr (1, [.ref (a 5), .ref (a 6), .ref (a 7), .int (gI x 2), .int (gI x 3)])), (a 2, .inr (2, [.ref (a 8), .ref (a 9), .ref (a 10), .ref (a 11), .ref (a 12), .int (gI x 4)])), (a 3, .inr (3, [.ref (a 1), .ref (a 13), .ref (a 14), .long (gL x 0), .int (gI x 5), .int (gI x 6)])), (a 4, .inl (k 4, 2, .inl (gA x 0))), (a 5, .inl (k 5, 60, .inl (gA x 1))), (a 6, .inl (k 6, 60, .inl (gA x 2))), (a 7, .inl (k 7, 1920, .inr (.inl (gB x 0)))), (a 8, .inl (k 8, 100, .inl (gA x 3))), (a 9, .inl (k 9, 100, .inl (gA x 4))), (a 10, .inl (k 10, 100, .inr (.inl (gB x 1)))), (a 11, .inl (k 11, 100, .inl (gA x 5))), (a 12, .inl (k 12, 300, .inl (gA x 6))), (a 13, .inl (k 13, 3, .inl (gA x 7))), (a 14, .inl (k 14, 60, .inl (gA x 8)))]
def qC_t (k : Nat → ClassId) : List (ClassId × FieldType) := [(k 4, .int), (k 5, .int), (k 6, .int), (k 7, .long), (k 8, .int), (k 9, .int), (k 10, .long), (k 11, .int), (k 12, .int), (k 13, .int), (k 14, .int)]
theorem qf_C_S_commits {p : Program} {l : Launch} {e : Env} {R : Room} {s : State} {m : MethodId} {args : Array Value} {below : List Frame} {meth : Method} {c : Code} {H : Heap} {locs : List Loc} {Q : State → Prop} {A : Nat → Prop} {x : QX} {cc : ByteArray} {nL : Nat} {ret : Option FieldType} {own : String} {pc : Nat} {ls : Array Slot} {rest : List Value} {dC : Nat → ClassId} {dI : Nat → Nat → Nat} {a : Nat → Nat} {k : Nat → ClassId} (C : qa_X p s m args meth c cc nL ret own) (S : qa_S (dC, dI) classes (qC_t k) (qC_w a k) A s x H locs) {index : Nat} (hw : Cond.fieldLink own index R_S "commits" "LChangeStore$Commits;" ∈ qa_WG) (hdg : decode cc pc = .ok (.getfield index, 3)) (kk : W p l e R s m args below meth c H locs 0 0 Q (F0 m (pc + 3) ls (.ref (a 1) :: rest))) : W p l e R s m args below meth c H locs 0 0 Q (F0 m pc ls (.ref (a 0) :: rest)) :=
  va_get (D := (dC, dI)) (ci := 0) (v := .ref (a 1)) (C := R_S) (T := F_S) (N := 6) C.1 C.2.1 C.2.2.2.2.1 hin_S C.2.2.2.2.2.1 S.2.2.1 S.1 0 rfl rfl 0 (by decide) (C.2.2.2.2.1 _ hw) (fun _ h9 => h9) rfl hdg kk
theorem qfN_C_S_commits {p : Program} {l : Launch} {e : Env} {R : Room} {s : State} {m : MethodId} {args : Array Value} {below : List Frame} {meth : Method} {c : Code} {H : Heap} {locs : List Loc} {Q : State → Prop} {A : Nat → Prop} {x : QX} {cc : ByteArray} {nL : Nat} {ret : Option FieldType} {own : String} {pc : Nat} {ls : Array Slot} {rest : List Value} {dC : Nat → ClassId} {dI : Nat → Nat → Nat} {a : Nat → Nat} {k : Nat → ClassId} (C : qa_X p s m args meth c cc nL ret own) (S : qa_S (dC, dI) classes (qC_t k) (qC_w a k) A s x H locs) {index : Nat} (hw : Cond.fieldLinkNest own index R_S "commits" "LChangeStore$Commits;" "ChangeStore" ∈ qa_NW) (hdg : decode cc pc = .ok (.getfield index, 3)) (kk : W p l e R s m args below meth c H locs 0 0 Q (F0 m (pc + 3) ls (.ref (a 1) :: rest))) : W p l e R s m args below meth c H locs 0 0 Q (F0 m pc ls (.ref (a 0) :: rest)) :=
  va_getN (D := (dC, dI)) (ci := 0) (v := .ref (a 1)) (C := R_S) (T := F_S) (N := 6) C.1 C.2.1 C.2.2.2.2.1 hin_S C.2.2.2.2.2.1 S.2.2.1 S.1 0 rfl rfl 0 (by decide) (va_Nw.use rfl (S.2.2.2.2.2 _ hw)) (fun _ h9 => h9) rfl hdg kk
theorem qf_C_S_operations {p : Program} {l : Launch} {e : Env} {R : Room} {s : State} {m : MethodId} {args : Array Value} {below : List Frame} {meth : Method} {c : Code} {H : Heap} {locs : List Loc} {Q : State → Prop} {A : Nat → Prop} {x : QX} {cc : ByteArray} {nL : Nat} {ret : Option FieldType} {own : String} {pc : Nat} {ls : Array Slot} {rest : List Value} {dC : Nat → ClassId} {dI : Nat → Nat → Nat} {a : Nat → Nat} {k : Nat → ClassId} (C : qa_X p s m args meth c cc nL ret own) (S : qa_S (dC, dI) classes (qC_t k) (qC_w a k) A s x H locs) {index : Nat} (hw : Cond.fieldLink own index R_S "operations" "LChangeStore$Operations;" ∈ qa_WG) (hdg : decode cc pc = .ok (.getfield index, 3)) (kk : W p l e R s m args below meth c H locs 0 0 Q (F0 m (pc + 3) ls (.ref (a 2) :: rest))) : W p l e R s m args below meth c H locs 0 0 Q (F0 m pc ls (.ref (a 0) :: rest)) :=
  va_get (D := (dC, dI)) (ci := 0) (v := .ref (a 2)) (C := R_S) (T := F_S) (N := 6) C.1 C.2.1 C.2.2.2.2.1 hin_S C.2.2.2.2.2.1 S.2.2.1 S.1 0 rfl rfl 1 (by decide) (C.2.2.2.2.1 _ hw) (fun _ h9 => h9) rfl hdg kk
theorem qfN_C_S_operations {p : Program} {l : Launch} {e : Env} {R : Room} {s : State} {m : MethodId} {args : Array Value} {below : List Frame} {meth : Method} {c : Code} {H : Heap} {locs : List Loc} {Q : State → Prop} {A : Nat → Prop} {x : QX} {cc : ByteArray} {nL : Nat} {ret : Option FieldType} {own : String} {pc : Nat} {ls : Array Slot} {rest : List Value} {dC : Nat → ClassId} {dI : Nat → Nat → Nat} {a : Nat → Nat} {k : Nat → ClassId} (C : qa_X p s m args meth c cc nL ret own) (S : qa_S (dC, dI) classes (qC_t k) (qC_w a k) A s x H locs) {index : Nat} (hw : Cond.fieldLinkNest own index R_S "operations" "LChangeStore$Operations;" "ChangeStore" ∈ qa_NW) (hdg : decode cc pc = .ok (.getfield index, 3)) (kk : W p l e R s m args below meth c H locs 0 0 Q (F0 m (pc + 3) ls (.ref (a 2) :: rest))) : W p l e R s m args below meth c H locs 0 0 Q (F0 m pc ls (.ref (a 0) :: rest)) :=
  va_getN (D := (dC, dI)) (ci := 0) (v := .ref (a 2)) (C := R_S) (T := F_S) (N := 6) C.1 C.2.1 C.2.2.2.2.1 hin_S C.2.2.2.2.2.1 S.2.2.1 S.1 0 rfl rfl 1 (by decide) (va_Nw.use rfl (S.2.2.2.2.2 _ hw)) (fun _ h9 => h9) rfl hdg kk
theorem qf_C_S_draft {p : Program} {l : Launch} {e : Env} {R : Room} {s : State} {m : MethodId} {args : Array Value} {below : List Frame} {meth : Method} {c : Code} {H : Heap} {locs : List Loc} {Q : State → Prop} {A : Nat → Prop} {x : QX} {cc : ByteArray} {nL : Nat} {ret : Option FieldType} {own : String} {pc : Nat} {ls : Array Slot} {rest : List Value} {dC : Nat → ClassId} {dI : Nat → Nat → Nat} {a : Nat → Nat} {k : Nat → ClassId} (C : qa_X p s m args meth c cc nL ret own) (S : qa_S (dC, dI) classes (qC_t k) (qC_w a k) A s x H locs) {index : Nat} (hw : Cond.fieldLink own index R_S "draft" "LChangeStore$Draft;" ∈ qa_WG) (hdg : decode cc pc = .ok (.getfield index, 3)) (kk : W p l e R s m args below meth c H locs 0 0 Q (F0 m (pc + 3) ls (.ref (a 3) :: rest))) : W p l e R s m args below meth c H locs 0 0 Q (F0 m pc ls (.ref (a 0) :: rest)) :=
  va_get (D := (dC, dI)) (ci := 0) (v := .ref (a 3)) (C := R_S) (T := F_S) (N := 6) C.1 C.2.1 C.2.2.2.2.1 hin_S C.2.2.2.2.2.1 S.2.2.1 S.1 0 rfl rfl 2 (by decide) (C.2.2.2.2.1 _ hw) (fun _ h9 => h9) rfl hdg kk
theorem qfN_C_S_draft {p : Program} {l : Launch} {e : Env} {R : Room} {s : State} {m : MethodId} {args : Array Value} {below : List Frame} {meth : Method} {c : Code} {H : Heap} {locs : List Loc} {Q : State → Prop} {A : Nat → Prop} {x : QX} {cc : ByteArray} {nL : Nat} {ret : Option FieldType} {own : String} {pc : Nat} {ls : Array Slot} {rest : List Value} {dC : Nat → ClassId} {dI : Nat → Nat → Nat} {a : Nat → Nat} {k : Nat → ClassId} (C : qa_X p s m args meth c cc nL ret own) (S : qa_S (dC, dI) classes (qC_t k) (qC_w a k) A s x H locs) {index : Nat} (hw : Cond.fieldLinkNest own index R_S "draft" "LChangeStore$Draft;" "ChangeStore" ∈ qa_NW) (hdg : decode cc pc = .ok (.getfield index, 3)) (kk : W p l e R s m args below meth c H locs 0 0 Q (F0 m (pc + 3) ls (.ref (a 3) :: rest))) : W p l e R s m args below meth c H locs 0 0 Q (F0 m pc ls (.ref (a 0) :: rest)) :=
  va_getN (D := (dC, dI)) (ci := 0) (v := .ref (a 3)) (C := R_S) (T := F_S) (N := 6) C.1 C.2.1 C.2.2.2.2.1 hin_S C.2.2.2.2.2.1 S.2.2.1 S.1 0 rfl rfl 2 (by decide) (va_Nw.use rfl (S.2.2.2.2.2 _ hw)) (fun _ h9 => h9) rfl hdg kk
theorem qf_C_S_currents {p : Program} {l : Launch} {e : Env} {R : Room} {s : State} {m : MethodId} {args : Array Value} {below : List Frame} {meth : Method} {c : Code} {H : Heap} {locs : List Loc} {Q : State → Prop} {A : Nat → Prop} {x : QX} {cc : ByteArray} {nL : Nat} {ret : Option FieldType} {own : String} {pc : Nat} {ls : Array Slot} {rest : List Value} {dC : Nat → ClassId} {dI : Nat → Nat → Nat} {a : Nat → Nat} {k : Nat → ClassId} (C : qa_X p s m args meth c cc nL ret own) (S : qa_S (dC, dI) classes (qC_t k) (qC_w a k) A s x H locs) {index : Nat} (hw : Cond.fieldLink own index R_S "currents" "[I" ∈ qa_WG) (hdg : decode cc pc = .ok (.getfield index, 3)) (kk : W p l e R s m args below meth c H locs 0 0 Q (F0 m (pc + 3) ls (.ref (a 4) :: rest))) : W p l e R s m args below meth c H locs 0 0 Q (F0 m pc ls (.ref (a 0) :: rest)) :=
  va_get (D := (dC, dI)) (ci := 0) (v := .ref (a 4)) (C := R_S) (T := F_S) (N := 6) C.1 C.2.1 C.2.2.2.2.1 hin_S C.2.2.2.2.2.1 S.2.2.1 S.1 0 rfl rfl 3 (by decide) (C.2.2.2.2.1 _ hw) (fun _ h9 => h9) rfl hdg kk
theorem qfN_C_S_currents {p : Program} {l : Launch} {e : Env} {R : Room} {s : State} {m : MethodId} {args : Array Value} {below : List Frame} {meth : Method} {c : Code} {H : Heap} {locs : List Loc} {Q : State → Prop} {A : Nat → Prop} {x : QX} {cc : ByteArray} {nL : Nat} {ret : Option FieldType} {own : String} {pc : Nat} {ls : Array Slot} {rest : List Value} {dC : Nat → ClassId} {dI : Nat → Nat → Nat} {a : Nat → Nat} {k : Nat → ClassId} (C : qa_X p s m args meth c cc nL ret own) (S : qa_S (dC, dI) classes (qC_t k) (qC_w a k) A s x H locs) {index : Nat} (hw : Cond.fieldLinkNest own index R_S "currents" "[I" "ChangeStore" ∈ qa_NW) (hdg : decode cc pc = .ok (.getfield index, 3)) (kk : W p l e R s m args below meth c H locs 0 0 Q (F0 m (pc + 3) ls (.ref (a 4) :: rest))) : W p l e R s m args below meth c H locs 0 0 Q (F0 m pc ls (.ref (a 0) :: rest)) :=
  va_getN (D := (dC, dI)) (ci := 0) (v := .ref (a 4)) (C := R_S) (T := F_S) (N := 6) C.1 C.2.1 C.2.2.2.2.1 hin_S C.2.2.2.2.2.1 S.2.2.1 S.1 0 rfl rfl 3 (by decide) (va_Nw.use rfl (S.2.2.2.2.2 _ hw)) (fun _ h9 => h9) rfl hdg kk
theorem qf_C_S_chosen {p : Program} {l : Launch} {e : Env} {R : Room} {s : State} {m : MethodId} {args : Array Value} {below : List Frame} {meth : Method} {c : Code} {H : Heap} {locs : List Loc} {Q : State → Prop} {A : Nat → Prop} {x : QX} {cc : ByteArray} {nL : Nat} {ret : Option FieldType} {own : String} {pc : Nat} {ls : Array Slot} {rest : List Value} {dC : Nat → ClassId} {dI : Nat → Nat → Nat} {a : Nat → Nat} {k : Nat → ClassId} (C : qa_X p s m args meth c cc nL ret own) (S : qa_S (dC, dI) classes (qC_t k) (qC_w a k) A s x H locs) {index : Nat} (hw : Cond.fieldLink own index R_S "chosen" "I" ∈ qa_WG) (hdg : decode cc pc = .ok (.getfield index, 3)) (kk : W p l e R s m args below meth c H locs 0 0 Q (F0 m (pc + 3) ls (.int (gI x 0) :: rest))) : W p l e R s m args below meth c H locs 0 0 Q (F0 m pc ls (.ref (a 0) :: rest)) :=
  va_get (D := (dC, dI)) (ci := 0) (v := .int (gI x 0)) (C := R_S) (T := F_S) (N := 6) C.1 C.2.1 C.2.2.2.2.1 hin_S C.2.2.2.2.2.1 S.2.2.1 S.1 0 rfl rfl 4 (by decide) (C.2.2.2.2.1 _ hw) (fun _ h9 => h9) rfl hdg kk
theorem qp_C_S_chosen {p : Program} {l : Launch} {e : Env} {R : Room} {s : State} {m : MethodId} {args : Array Value} {below : List Frame} {meth : Method} {c : Code} {H : Heap} {locs : List Loc} {Q : State → Prop} {A : Nat → Prop} {x : QX} {cc : ByteArray} {nL : Nat} {ret : Option FieldType} {own : String} {pc : Nat} {ls : Array Slot} {rest : List Value} {dC : Nat → ClassId} {dI : Nat → Nat → Nat} {a : Nat → Nat} {k : Nat → ClassId} {v : Int32} (C : qa_X p s m args meth c cc nL ret own) (S : qa_S (dC, dI) classes (qC_t k) (qC_w a k) A s x H locs) {index : Nat} (hw : Cond.fieldLink own index R_S "chosen" "I" ∈ qa_WG) (hdg : decode cc pc = .ok (.putfield index, 3)) (kk : ∀ (x1 : QX) (H1 : Heap) (locs1 : List Loc), x1 = sI x 0 v → qa_S (dC, dI) classes (qC_t k) (qC_w a k) A s x1 H1 locs1 → W p l e R s m args below meth c H1 locs1 0 0 Q (F0 m (pc + 3) ls rest)) : W p l e R s m args below meth c H locs 0 0 Q (F0 m pc ls (.int v :: .ref (a 0) :: rest)) :=
  va_put (D := (dC, dI)) (ci := 0) (v := .int v) (ty := .int) (C := R_S) (T := F_S) (N := 6) C.1 C.2.1 C.2.2.2.2.1 hin_S t_S t_S_ok n_S C.2.2.2.2.2.1 S.2.2.1 S.1 S.2.1 S.2.2.2.1 0 rfl rfl 4 (by decide) (C.2.2.2.2.1 _ hw) (fun _ h9 => h9) rfl (by decide +kernel) rfl rfl (Nat.le_of_ble_eq_true rfl) hdg (fun H1 locs1 hP hD hS => kk _ H1 locs1 rfl ⟨hP, hD, S.2.2.1, hS, S.2.2.2.2.1, S.2.2.2.2.2⟩)
theorem qfN_C_S_chosen {p : Program} {l : Launch} {e : Env} {R : Room} {s : State} {m : MethodId} {args : Array Value} {below : List Frame} {meth : Method} {c : Code} {H : Heap} {locs : List Loc} {Q : State → Prop} {A : Nat → Prop} {x : QX} {cc : ByteArray} {nL : Nat} {ret : Option FieldType} {own : String} {pc : Nat} {ls : Array Slot} {rest : List Value} {dC : Nat → ClassId} {dI : Nat → Nat → Nat} {a : Nat → Nat} {k : Nat → ClassId} (C : qa_X p s m args meth c cc nL ret own) (S : qa_S (dC, dI) classes (qC_t k) (qC_w a k) A s x H locs) {index : Nat} (hw : Cond.fieldLinkNest own index R_S "chosen" "I" "ChangeStore" ∈ qa_NW) (hdg : decode cc pc = .ok (.getfield index, 3)) (kk : W p l e R s m args below meth c H locs 0 0 Q (F0 m (pc + 3) ls (.int (gI x 0) :: rest))) : W p l e R s m args below meth c H locs 0 0 Q (F0 m pc ls (.ref (a 0) :: rest)) :=
  va_getN (D := (dC, dI)) (ci := 0) (v := .int (gI x 0)) (C := R_S) (T := F_S) (N := 6) C.1 C.2.1 C.2.2.2.2.1 hin_S C.2.2.2.2.2.1 S.2.2.1 S.1 0 rfl rfl 4 (by decide) (va_Nw.use rfl (S.2.2.2.2.2 _ hw)) (fun _ h9 => h9) rfl hdg kk
theorem qpN_C_S_chosen {p : Program} {l : Launch} {e : Env} {R : Room} {s : State} {m : MethodId} {args : Array Value} {below : List Frame} {meth : Method} {c : Code} {H : Heap} {locs : List Loc} {Q : State → Prop} {A : Nat → Prop} {x : QX} {cc : ByteArray} {nL : Nat} {ret : Option FieldType} {own : String} {pc : Nat} {ls : Array Slot} {rest : List Value} {dC : Nat → ClassId} {dI : Nat → Nat → Nat} {a : Nat → Nat} {k : Nat → ClassId} {v : Int32} (C : qa_X p s m args meth c cc nL ret own) (S : qa_S (dC, dI) classes (qC_t k) (qC_w a k) A s x H locs) {index : Nat} (hw : Cond.fieldLinkNest own index R_S "chosen" "I" "ChangeStore" ∈ qa_NW) (hdg : decode cc pc = .ok (.putfield index, 3)) (kk : ∀ (x1 : QX) (H1 : Heap) (locs1 : List Loc), x1 = sI x 0 v → qa_S (dC, dI) classes (qC_t k) (qC_w a k) A s x1 H1 locs1 → W p l e R s m args below meth c H1 locs1 0 0 Q (F0 m (pc + 3) ls rest)) : W p l e R s m args below meth c H locs 0 0 Q (F0 m pc ls (.int v :: .ref (a 0) :: rest)) :=
  va_putN (D := (dC, dI)) (ci := 0) (v := .int v) (ty := .int) (C := R_S) (T := F_S) (N := 6) C.1 C.2.1 C.2.2.2.2.1 hin_S t_S t_S_ok n_S C.2.2.2.2.2.1 S.2.2.1 S.1 S.2.1 S.2.2.2.1 0 rfl rfl 4 (by decide) (va_Nw.use rfl (S.2.2.2.2.2 _ hw)) (fun _ h9 => h9) rfl (by decide +kernel) rfl rfl (Nat.le_of_ble_eq_true rfl) hdg (fun H1 locs1 hP hD hS => kk _ H1 locs1 rfl ⟨hP, hD, S.2.2.1, hS, S.2.2.2.2.1, S.2.2.2.2.2⟩)
theorem qf_C_S_lineOneBegan {p : Program} {l : Launch} {e : Env} {R : Room} {s : State} {m : MethodId} {args : Array Value} {below : List Frame} {meth : Method} {c : Code} {H : Heap} {locs : List Loc} {Q : State → Prop} {A : Nat → Prop} {x : QX} {cc : ByteArray} {nL : Nat} {ret : Option FieldType} {own : String} {pc : Nat} {ls : Array Slot} {rest : List Value} {dC : Nat → ClassId} {dI : Nat → Nat → Nat} {a : Nat → Nat} {k : Nat → ClassId} (C : qa_X p s m args meth c cc nL ret own) (S : qa_S (dC, dI) classes (qC_t k) (qC_w a k) A s x H locs) {index : Nat} (hw : Cond.fieldLink own index R_S "lineOneBegan" "I" ∈ qa_WG) (hdg : decode cc pc = .ok (.getfield index, 3)) (kk : W p l e R s m args below meth c H locs 0 0 Q (F0 m (pc + 3) ls (.int (gI x 1) :: rest))) : W p l e R s m args below meth c H locs 0 0 Q (F0 m pc ls (.ref (a 0) :: rest)) :=
  va_get (D := (dC, dI)) (ci := 0) (v := .int (gI x 1)) (C := R_S) (T := F_S) (N := 6) C.1 C.2.1 C.2.2.2.2.1 hin_S C.2.2.2.2.2.1 S.2.2.1 S.1 0 rfl rfl 5 (by decide) (C.2.2.2.2.1 _ hw) (fun _ h9 => h9) rfl hdg kk
theorem qp_C_S_lineOneBegan {p : Program} {l : Launch} {e : Env} {R : Room} {s : State} {m : MethodId} {args : Array Value} {below : List Frame} {meth : Method} {c : Code} {H : Heap} {locs : List Loc} {Q : State → Prop} {A : Nat → Prop} {x : QX} {cc : ByteArray} {nL : Nat} {ret : Option FieldType} {own : String} {pc : Nat} {ls : Array Slot} {rest : List Value} {dC : Nat → ClassId} {dI : Nat → Nat → Nat} {a : Nat → Nat} {k : Nat → ClassId} {v : Int32} (C : qa_X p s m args meth c cc nL ret own) (S : qa_S (dC, dI) classes (qC_t k) (qC_w a k) A s x H locs) {index : Nat} (hw : Cond.fieldLink own index R_S "lineOneBegan" "I" ∈ qa_WG) (hdg : decode cc pc = .ok (.putfield index, 3)) (kk : ∀ (x1 : QX) (H1 : Heap) (locs1 : List Loc), x1 = sI x 1 v → qa_S (dC, dI) classes (qC_t k) (qC_w a k) A s x1 H1 locs1 → W p l e R s m args below meth c H1 locs1 0 0 Q (F0 m (pc + 3) ls rest)) : W p l e R s m args below meth c H locs 0 0 Q (F0 m pc ls (.int v :: .ref (a 0) :: rest)) :=
  va_put (D := (dC, dI)) (ci := 0) (v := .int v) (ty := .int) (C := R_S) (T := F_S) (N := 6) C.1 C.2.1 C.2.2.2.2.1 hin_S t_S t_S_ok n_S C.2.2.2.2.2.1 S.2.2.1 S.1 S.2.1 S.2.2.2.1 0 rfl rfl 5 (by decide) (C.2.2.2.2.1 _ hw) (fun _ h9 => h9) rfl (by decide +kernel) rfl rfl (Nat.le_of_ble_eq_true rfl) hdg (fun H1 locs1 hP hD hS => kk _ H1 locs1 rfl ⟨hP, hD, S.2.2.1, hS, S.2.2.2.2.1, S.2.2.2.2.2⟩)
theorem qfN_C_S_lineOneBegan {p : Program} {l : Launch} {e : Env} {R : Room} {s : State} {m : MethodId} {args : Array Value} {below : List Frame} {meth : Method} {c : Code} {H : Heap} {locs : List Loc} {Q : State → Prop} {A : Nat → Prop} {x : QX} {cc : ByteArray} {nL : Nat} {ret : Option FieldType} {own : String} {pc : Nat} {ls : Array Slot} {rest : List Value} {dC : Nat → ClassId} {dI : Nat → Nat → Nat} {a : Nat → Nat} {k : Nat → ClassId} (C : qa_X p s m args meth c cc nL ret own) (S : qa_S (dC, dI) classes (qC_t k) (qC_w a k) A s x H locs) {index : Nat} (hw : Cond.fieldLinkNest own index R_S "lineOneBegan" "I" "ChangeStore" ∈ qa_NW) (hdg : decode cc pc = .ok (.getfield index, 3)) (kk : W p l e R s m args below meth c H locs 0 0 Q (F0 m (pc + 3) ls (.int (gI x 1) :: rest))) : W p l e R s m args below meth c H locs 0 0 Q (F0 m pc ls (.ref (a 0) :: rest)) :=
  va_getN (D := (dC, dI)) (ci := 0) (v := .int (gI x 1)) (C := R_S) (T := F_S) (N := 6) C.1 C.2.1 C.2.2.2.2.1 hin_S C.2.2.2.2.2.1 S.2.2.1 S.1 0 rfl rfl 5 (by decide) (va_Nw.use rfl (S.2.2.2.2.2 _ hw)) (fun _ h9 => h9) rfl hdg kk
theorem qpN_C_S_lineOneBegan {p : Program} {l : Launch} {e : Env} {R : Room} {s : State} {m : MethodId} {args : Array Value} {below : List Frame} {meth : Method} {c : Code} {H : Heap} {locs : List Loc} {Q : State → Prop} {A : Nat → Prop} {x : QX} {cc : ByteArray} {nL : Nat} {ret : Option FieldType} {own : String} {pc : Nat} {ls : Array Slot} {rest : List Value} {dC : Nat → ClassId} {dI : Nat → Nat → Nat} {a : Nat → Nat} {k : Nat → ClassId} {v : Int32} (C : qa_X p s m args meth c cc nL ret own) (S : qa_S (dC, dI) classes (qC_t k) (qC_w a k) A s x H locs) {index : Nat} (hw : Cond.fieldLinkNest own index R_S "lineOneBegan" "I" "ChangeStore" ∈ qa_NW) (hdg : decode cc pc = .ok (.putfield index, 3)) (kk : ∀ (x1 : QX) (H1 : Heap) (locs1 : List Loc), x1 = sI x 1 v → qa_S (dC, dI) classes (qC_t k) (qC_w a k) A s x1 H1 locs1 → W p l e R s m args below meth c H1 locs1 0 0 Q (F0 m (pc + 3) ls rest)) : W p l e R s m args below meth c H locs 0 0 Q (F0 m pc ls (.int v :: .ref (a 0) :: rest)) :=
  va_putN (D := (dC, dI)) (ci := 0) (v := .int v) (ty := .int) (C := R_S) (T := F_S) (N := 6) C.1 C.2.1 C.2.2.2.2.1 hin_S t_S t_S_ok n_S C.2.2.2.2.2.1 S.2.2.1 S.1 S.2.1 S.2.2.2.1 0 rfl rfl 5 (by decide) (va_Nw.use rfl (S.2.2.2.2.2 _ hw)) (fun _ h9 => h9) rfl (by decide +kernel) rfl rfl (Nat.le_of_ble_eq_true rfl) hdg (fun H1 locs1 hP hD hS => kk _ H1 locs1 rfl ⟨hP, hD, S.2.2.1, hS, S.2.2.2.2.1, S.2.2.2.2.2⟩)
theorem qf_C_C_parents {p : Program} {l : Launch} {e : Env} {R : Room} {s : State} {m : MethodId} {args : Array Value} {below : List Frame} {meth : Method} {c : Code} {H : Heap} {locs : List Loc} {Q : State → Prop} {A : Nat → Prop} {x : QX} {cc : ByteArray} {nL : Nat} {ret : Option FieldType} {own : String} {pc : Nat} {ls : Array Slot} {rest : List Value} {dC : Nat → ClassId} {dI : Nat → Nat → Nat} {a : Nat → Nat} {k : Nat → ClassId} (C : qa_X p s m args meth c cc nL ret own) (S : qa_S (dC, dI) classes (qC_t k) (qC_w a k) A s x H locs) {index : Nat} (hw : Cond.fieldLink own index R_C "parents" "[I" ∈ qa_WG) (hdg : decode cc pc = .ok (.getfield index, 3)) (kk : W p l e R s m args below meth c H locs 0 0 Q (F0 m (pc + 3) ls (.ref (a 5) :: rest))) : W p l e R s m args below meth c H locs 0 0 Q (F0 m pc ls (.ref (a 1) :: rest)) :=
  va_get (D := (dC, dI)) (ci := 1) (v := .ref (a 5)) (C := R_C) (T := F_C) (N := 5) C.1 C.2.1 C.2.2.2.2.1 hin_C C.2.2.2.2.2.1 S.2.2.1 S.1 1 rfl rfl 0 (by decide) (C.2.2.2.2.1 _ hw) (fun _ h9 => h9) rfl hdg kk
theorem qfN_C_C_parents {p : Program} {l : Launch} {e : Env} {R : Room} {s : State} {m : MethodId} {args : Array Value} {below : List Frame} {meth : Method} {c : Code} {H : Heap} {locs : List Loc} {Q : State → Prop} {A : Nat → Prop} {x : QX} {cc : ByteArray} {nL : Nat} {ret : Option FieldType} {own : String} {pc : Nat} {ls : Array Slot} {rest : List Value} {dC : Nat → ClassId} {dI : Nat → Nat → Nat} {a : Nat → Nat} {k : Nat → ClassId} (C : qa_X p s m args meth c cc nL ret own) (S : qa_S (dC, dI) classes (qC_t k) (qC_w a k) A s x H locs) {index : Nat} (hw : Cond.fieldLinkNest own index R_C "parents" "[I" "ChangeStore" ∈ qa_NW) (hdg : decode cc pc = .ok (.getfield index, 3)) (kk : W p l e R s m args below meth c H locs 0 0 Q (F0 m (pc + 3) ls (.ref (a 5) :: rest))) : W p l e R s m args below meth c H locs 0 0 Q (F0 m pc ls (.ref (a 1) :: rest)) :=
  va_getN (D := (dC, dI)) (ci := 1) (v := .ref (a 5)) (C := R_C) (T := F_C) (N := 5) C.1 C.2.1 C.2.2.2.2.1 hin_C C.2.2.2.2.2.1 S.2.2.1 S.1 1 rfl rfl 0 (by decide) (va_Nw.use rfl (S.2.2.2.2.2 _ hw)) (fun _ h9 => h9) rfl hdg kk
theorem qf_C_C_changes {p : Program} {l : Launch} {e : Env} {R : Room} {s : State} {m : MethodId} {args : Array Value} {below : List Frame} {meth : Method} {c : Code} {H : Heap} {locs : List Loc} {Q : State → Prop} {A : Nat → Prop} {x : QX} {cc : ByteArray} {nL : Nat} {ret : Option FieldType} {own : String} {pc : Nat} {ls : Array Slot} {rest : List Value} {dC : Nat → ClassId} {dI : Nat → Nat → Nat} {a : Nat → Nat} {k : Nat → ClassId} (C : qa_X p s m args meth c cc nL ret own) (S : qa_S (dC, dI) classes (qC_t k) (qC_w a k) A s x H locs) {index : Nat} (hw : Cond.fieldLink own index R_C "changes" "[I" ∈ qa_WG) (hdg : decode cc pc = .ok (.getfield index, 3)) (kk : W p l e R s m args below meth c H locs 0 0 Q (F0 m (pc + 3) ls (.ref (a 6) :: rest))) : W p l e R s m args below meth c H locs 0 0 Q (F0 m pc ls (.ref (a 1) :: rest)) :=
  va_get (D := (dC, dI)) (ci := 1) (v := .ref (a 6)) (C := R_C) (T := F_C) (N := 5) C.1 C.2.1 C.2.2.2.2.1 hin_C C.2.2.2.2.2.1 S.2.2.1 S.1 1 rfl rfl 1 (by decide) (C.2.2.2.2.1 _ hw) (fun _ h9 => h9) rfl hdg kk
theorem qfN_C_C_changes {p : Program} {l : Launch} {e : Env} {R : Room} {s : State} {m : MethodId} {args : Array Value} {below : List Frame} {meth : Method} {c : Code} {H : Heap} {locs : List Loc} {Q : State → Prop} {A : Nat → Prop} {x : QX} {cc : ByteArray} {nL : Nat} {ret : Option FieldType} {own : String} {pc : Nat} {ls : Array Slot} {rest : List Value} {dC : Nat → ClassId} {dI : Nat → Nat → Nat} {a : Nat → Nat} {k : Nat → ClassId} (C : qa_X p s m args meth c cc nL ret own) (S : qa_S (dC, dI) classes (qC_t k) (qC_w a k) A s x H locs) {index : Nat} (hw : Cond.fieldLinkNest own index R_C "changes" "[I" "ChangeStore" ∈ qa_NW) (hdg : decode cc pc = .ok (.getfield index, 3)) (kk : W p l e R s m args below meth c H locs 0 0 Q (F0 m (pc + 3) ls (.ref (a 6) :: rest))) : W p l e R s m args below meth c H locs 0 0 Q (F0 m pc ls (.ref (a 1) :: rest)) :=
  va_getN (D := (dC, dI)) (ci := 1) (v := .ref (a 6)) (C := R_C) (T := F_C) (N := 5) C.1 C.2.1 C.2.2.2.2.1 hin_C C.2.2.2.2.2.1 S.2.2.1 S.1 1 rfl rfl 1 (by decide) (va_Nw.use rfl (S.2.2.2.2.2 _ hw)) (fun _ h9 => h9) rfl hdg kk
theorem qf_C_C_counts {p : Program} {l : Launch} {e : Env} {R : Room} {s : State} {m : MethodId} {args : Array Value} {below : List Frame} {meth : Method} {c : Code} {H : Heap} {locs : List Loc} {Q : State → Prop} {A : Nat → Prop} {x : QX} {cc : ByteArray} {nL : Nat} {ret : Option FieldType} {own : String} {pc : Nat} {ls : Array Slot} {rest : List Value} {dC : Nat → ClassId} {dI : Nat → Nat → Nat} {a : Nat → Nat} {k : Nat → ClassId} (C : qa_X p s m args meth c cc nL ret own) (S : qa_S (dC, dI) classes (qC_t k) (qC_w a k) A s x H locs) {index : Nat} (hw : Cond.fieldLink own index R_C "counts" "[J" ∈ qa_WG) (hdg : decode cc pc = .ok (.getfield index, 3)) (kk : W p l e R s m args below meth c H locs 0 0 Q (F0 m (pc + 3) ls (.ref (a 7) :: rest))) : W p l e R s m args below meth c H locs 0 0 Q (F0 m pc ls (.ref (a 1) :: rest)) :=
  va_get (D := (dC, dI)) (ci := 1) (v := .ref (a 7)) (C := R_C) (T := F_C) (N := 5) C.1 C.2.1 C.2.2.2.2.1 hin_C C.2.2.2.2.2.1 S.2.2.1 S.1 1 rfl rfl 2 (by decide) (C.2.2.2.2.1 _ hw) (fun _ h9 => h9) rfl hdg kk
theorem qfN_C_C_counts {p : Program} {l : Launch} {e : Env} {R : Room} {s : State} {m : MethodId} {args : Array Value} {below : List Frame} {meth : Method} {c : Code} {H : Heap} {locs : List Loc} {Q : State → Prop} {A : Nat → Prop} {x : QX} {cc : ByteArray} {nL : Nat} {ret : Option FieldType} {own : String} {pc : Nat} {ls : Array Slot} {rest : List Value} {dC : Nat → ClassId} {dI : Nat → Nat → Nat} {a : Nat → Nat} {k : Nat → ClassId} (C : qa_X p s m args meth c cc nL ret own) (S : qa_S (dC, dI) classes (qC_t k) (qC_w a k) A s x H locs) {index : Nat} (hw : Cond.fieldLinkNest own index R_C "counts" "[J" "ChangeStore" ∈ qa_NW) (hdg : decode cc pc = .ok (.getfield index, 3)) (kk : W p l e R s m args below meth c H locs 0 0 Q (F0 m (pc + 3) ls (.ref (a 7) :: rest))) : W p l e R s m args below meth c H locs 0 0 Q (F0 m pc ls (.ref (a 1) :: rest)) :=
  va_getN (D := (dC, dI)) (ci := 1) (v := .ref (a 7)) (C := R_C) (T := F_C) (N := 5) C.1 C.2.1 C.2.2.2.2.1 hin_C C.2.2.2.2.2.1 S.2.2.1 S.1 1 rfl rfl 2 (by decide) (va_Nw.use rfl (S.2.2.2.2.2 _ hw)) (fun _ h9 => h9) rfl hdg kk
theorem qf_C_C_size {p : Program} {l : Launch} {e : Env} {R : Room} {s : State} {m : MethodId} {args : Array Value} {below : List Frame} {meth : Method} {c : Code} {H : Heap} {locs : List Loc} {Q : State → Prop} {A : Nat → Prop} {x : QX} {cc : ByteArray} {nL : Nat} {ret : Option FieldType} {own : String} {pc : Nat} {ls : Array Slot} {rest : List Value} {dC : Nat → ClassId} {dI : Nat → Nat → Nat} {a : Nat → Nat} {k : Nat → ClassId} (C : qa_X p s m args meth c cc nL ret own) (S : qa_S (dC, dI) classes (qC_t k) (qC_w a k) A s x H locs) {index : Nat} (hw : Cond.fieldLink own index R_C "size" "I" ∈ qa_WG) (hdg : decode cc pc = .ok (.getfield index, 3)) (kk : W p l e R s m args below meth c H locs 0 0 Q (F0 m (pc + 3) ls (.int (gI x 2) :: rest))) : W p l e R s m args below meth c H locs 0 0 Q (F0 m pc ls (.ref (a 1) :: rest)) :=
  va_get (D := (dC, dI)) (ci := 1) (v := .int (gI x 2)) (C := R_C) (T := F_C) (N := 5) C.1 C.2.1 C.2.2.2.2.1 hin_C C.2.2.2.2.2.1 S.2.2.1 S.1 1 rfl rfl 3 (by decide) (C.2.2.2.2.1 _ hw) (fun _ h9 => h9) rfl hdg kk
theorem qp_C_C_size {p : Program} {l : Launch} {e : Env} {R : Room} {s : State} {m : MethodId} {args : Array Value} {below : List Frame} {meth : Method} {c : Code} {H : Heap} {locs : List Loc} {Q : State → Prop} {A : Nat → Prop} {x : QX} {cc : ByteArray} {nL : Nat} {ret : Option FieldType} {own : String} {pc : Nat} {ls : Array Slot} {rest : List Value} {dC : Nat → ClassId} {dI : Nat → Nat → Nat} {a : Nat → Nat} {k : Nat → ClassId} {v : Int32} (C : qa_X p s m args meth c cc nL ret own) (S : qa_S (dC, dI) classes (qC_t k) (qC_w a k) A s x H locs) {index : Nat} (hw : Cond.fieldLink own index R_C "size" "I" ∈ qa_WG) (hdg : decode cc pc = .ok (.putfield index, 3)) (kk : ∀ (x1 : QX) (H1 : Heap) (locs1 : List Loc), x1 = sI x 2 v → qa_S (dC, dI) classes (qC_t k) (qC_w a k) A s x1 H1 locs1 → W p l e R s m args below meth c H1 locs1 0 0 Q (F0 m (pc + 3) ls rest)) : W p l e R s m args below meth c H locs 0 0 Q (F0 m pc ls (.int v :: .ref (a 1) :: rest)) :=
  va_put (D := (dC, dI)) (ci := 1) (v := .int v) (ty := .int) (C := R_C) (T := F_C) (N := 5) C.1 C.2.1 C.2.2.2.2.1 hin_C t_C t_C_ok n_C C.2.2.2.2.2.1 S.2.2.1 S.1 S.2.1 S.2.2.2.1 1 rfl rfl 3 (by decide) (C.2.2.2.2.1 _ hw) (fun _ h9 => h9) rfl (by decide +kernel) rfl rfl (Nat.le_of_ble_eq_true rfl) hdg (fun H1 locs1 hP hD hS => kk _ H1 locs1 rfl ⟨hP, hD, S.2.2.1, hS, S.2.2.2.2.1, S.2.2.2.2.2⟩)
theorem qfN_C_C_size {p : Program} {l : Launch} {e : Env} {R : Room} {s : State} {m : MethodId} {args : Array Value} {below : List Frame} {meth : Method} {c : Code} {H : Heap} {locs : List Loc} {Q : State → Prop} {A : Nat → Prop} {x : QX} {cc : ByteArray} {nL : Nat} {ret : Option FieldType} {own : String} {pc : Nat} {ls : Array Slot} {rest : List Value} {dC : Nat → ClassId} {dI : Nat → Nat → Nat} {a : Nat → Nat} {k : Nat → ClassId} (C : qa_X p s m args meth c cc nL ret own) (S : qa_S (dC, dI) classes (qC_t k) (qC_w a k) A s x H locs) {index : Nat} (hw : Cond.fieldLinkNest own index R_C "size" "I" "ChangeStore" ∈ qa_NW) (hdg : decode cc pc = .ok (.getfield index, 3)) (kk : W p l e R s m args below meth c H locs 0 0 Q (F0 m (pc + 3) ls (.int (gI x 2) :: rest))) : W p l e R s m args below meth c H locs 0 0 Q (F0 m pc ls (.ref (a 1) :: rest)) :=
  va_getN (D := (dC, dI)) (ci := 1) (v := .int (gI x 2)) (C := R_C) (T := F_C) (N := 5) C.1 C.2.1 C.2.2.2.2.1 hin_C C.2.2.2.2.2.1 S.2.2.1 S.1 1 rfl rfl 3 (by decide) (va_Nw.use rfl (S.2.2.2.2.2 _ hw)) (fun _ h9 => h9) rfl hdg kk
theorem qpN_C_C_size {p : Program} {l : Launch} {e : Env} {R : Room} {s : State} {m : MethodId} {args : Array Value} {below : List Frame} {meth : Method} {c : Code} {H : Heap} {locs : List Loc} {Q : State → Prop} {A : Nat → Prop} {x : QX} {cc : ByteArray} {nL : Nat} {ret : Option FieldType} {own : String} {pc : Nat} {ls : Array Slot} {rest : List Value} {dC : Nat → ClassId} {dI : Nat → Nat → Nat} {a : Nat → Nat} {k : Nat → ClassId} {v : Int32} (C : qa_X p s m args meth c cc nL ret own) (S : qa_S (dC, dI) classes (qC_t k) (qC_w a k) A s x H locs) {index : Nat} (hw : Cond.fieldLinkNest own index R_C "size" "I" "ChangeStore" ∈ qa_NW) (hdg : decode cc pc = .ok (.putfield index, 3)) (kk : ∀ (x1 : QX) (H1 : Heap) (locs1 : List Loc), x1 = sI x 2 v → qa_S (dC, dI) classes (qC_t k) (qC_w a k) A s x1 H1 locs1 → W p l e R s m args below meth c H1 locs1 0 0 Q (F0 m (pc + 3) ls rest)) : W p l e R s m args below meth c H locs 0 0 Q (F0 m pc ls (.int v :: .ref (a 1) :: rest)) :=
  va_putN (D := (dC, dI)) (ci := 1) (v := .int v) (ty := .int) (C := R_C) (T := F_C) (N := 5) C.1 C.2.1 C.2.2.2.2.1 hin_C t_C t_C_ok n_C C.2.2.2.2.2.1 S.2.2.1 S.1 S.2.1 S.2.2.2.1 1 rfl rfl 3 (by decide) (va_Nw.use rfl (S.2.2.2.2.2 _ hw)) (fun _ h9 => h9) rfl (by decide +kernel) rfl rfl (Nat.le_of_ble_eq_true rfl) hdg (fun H1 locs1 hP hD hS => kk _ H1 locs1 rfl ⟨hP, hD, S.2.2.1, hS, S.2.2.2.2.1, S.2.2.2.2.2⟩)
theorem qf_C_C_lastChange {p : Program} {l : Launch} {e : Env} {R : Room} {s : State} {m : MethodId} {args : Array Value} {below : List Frame} {meth : Method} {c : Code} {H : Heap} {locs : List Loc} {Q : State → Prop} {A : Nat → Prop} {x : QX} {cc : ByteArray} {nL : Nat} {ret : Option FieldType} {own : String} {pc : Nat} {ls : Array Slot} {rest : List Value} {dC : Nat → ClassId} {dI : Nat → Nat → Nat} {a : Nat → Nat} {k : Nat → ClassId} (C : qa_X p s m args meth c cc nL ret own) (S : qa_S (dC, dI) classes (qC_t k) (qC_w a k) A s x H locs) {index : Nat} (hw : Cond.fieldLink own index R_C "lastChange" "I" ∈ qa_WG) (hdg : decode cc pc = .ok (.getfield index, 3)) (kk : W p l e R s m args below meth c H locs 0 0 Q (F0 m (pc + 3) ls (.int (gI x 3) :: rest))) : W p l e R s m args below meth c H locs 0 0 Q (F0 m pc ls (.ref (a 1) :: rest)) :=
  va_get (D := (dC, dI)) (ci := 1) (v := .int (gI x 3)) (C := R_C) (T := F_C) (N := 5) C.1 C.2.1 C.2.2.2.2.1 hin_C C.2.2.2.2.2.1 S.2.2.1 S.1 1 rfl rfl 4 (by decide) (C.2.2.2.2.1 _ hw) (fun _ h9 => h9) rfl hdg kk
theorem qp_C_C_lastChange {p : Program} {l : Launch} {e : Env} {R : Room} {s : State} {m : MethodId} {args : Array Value} {below : List Frame} {meth : Method} {c : Code} {H : Heap} {locs : List Loc} {Q : State → Prop} {A : Nat → Prop} {x : QX} {cc : ByteArray} {nL : Nat} {ret : Option FieldType} {own : String} {pc : Nat} {ls : Array Slot} {rest : List Value} {dC : Nat → ClassId} {dI : Nat → Nat → Nat} {a : Nat → Nat} {k : Nat → ClassId} {v : Int32} (C : qa_X p s m args meth c cc nL ret own) (S : qa_S (dC, dI) classes (qC_t k) (qC_w a k) A s x H locs) {index : Nat} (hw : Cond.fieldLink own index R_C "lastChange" "I" ∈ qa_WG) (hdg : decode cc pc = .ok (.putfield index, 3)) (kk : ∀ (x1 : QX) (H1 : Heap) (locs1 : List Loc), x1 = sI x 3 v → qa_S (dC, dI) classes (qC_t k) (qC_w a k) A s x1 H1 locs1 → W p l e R s m args below meth c H1 locs1 0 0 Q (F0 m (pc + 3) ls rest)) : W p l e R s m args below meth c H locs 0 0 Q (F0 m pc ls (.int v :: .ref (a 1) :: rest)) :=
  va_put (D := (dC, dI)) (ci := 1) (v := .int v) (ty := .int) (C := R_C) (T := F_C) (N := 5) C.1 C.2.1 C.2.2.2.2.1 hin_C t_C t_C_ok n_C C.2.2.2.2.2.1 S.2.2.1 S.1 S.2.1 S.2.2.2.1 1 rfl rfl 4 (by decide) (C.2.2.2.2.1 _ hw) (fun _ h9 => h9) rfl (by decide +kernel) rfl rfl (Nat.le_of_ble_eq_true rfl) hdg (fun H1 locs1 hP hD hS => kk _ H1 locs1 rfl ⟨hP, hD, S.2.2.1, hS, S.2.2.2.2.1, S.2.2.2.2.2⟩)
theorem qfN_C_C_lastChange {p : Program} {l : Launch} {e : Env} {R : Room} {s : State} {m : MethodId} {args : Array Value} {below : List Frame} {meth : Method} {c : Code} {H : Heap} {locs : List Loc} {Q : State → Prop} {A : Nat → Prop} {x : QX} {cc : ByteArray} {nL : Nat} {ret : Option FieldType} {own : String} {pc : Nat} {ls : Array Slot} {rest : List Value} {dC : Nat → ClassId} {dI : Nat → Nat → Nat} {a : Nat → Nat} {k : Nat → ClassId} (C : qa_X p s m args meth c cc nL ret own) (S : qa_S (dC, dI) classes (qC_t k) (qC_w a k) A s x H locs) {index : Nat} (hw : Cond.fieldLinkNest own index R_C "lastChange" "I" "ChangeStore" ∈ qa_NW) (hdg : decode cc pc = .ok (.getfield index, 3)) (kk : W p l e R s m args below meth c H locs 0 0 Q (F0 m (pc + 3) ls (.int (gI x 3) :: rest))) : W p l e R s m args below meth c H locs 0 0 Q (F0 m pc ls (.ref (a 1) :: rest)) :=
  va_getN (D := (dC, dI)) (ci := 1) (v := .int (gI x 3)) (C := R_C) (T := F_C) (N := 5) C.1 C.2.1 C.2.2.2.2.1 hin_C C.2.2.2.2.2.1 S.2.2.1 S.1 1 rfl rfl 4 (by decide) (va_Nw.use rfl (S.2.2.2.2.2 _ hw)) (fun _ h9 => h9) rfl hdg kk
theorem qpN_C_C_lastChange {p : Program} {l : Launch} {e : Env} {R : Room} {s : State} {m : MethodId} {args : Array Value} {below : List Frame} {meth : Method} {c : Code} {H : Heap} {locs : List Loc} {Q : State → Prop} {A : Nat → Prop} {x : QX} {cc : ByteArray} {nL : Nat} {ret : Option FieldType} {own : String} {pc : Nat} {ls : Array Slot} {rest : List Value} {dC : Nat → ClassId} {dI : Nat → Nat → Nat} {a : Nat → Nat} {k : Nat → ClassId} {v : Int32} (C : qa_X p s m args meth c cc nL ret own) (S : qa_S (dC, dI) classes (qC_t k) (qC_w a k) A s x H locs) {index : Nat} (hw : Cond.fieldLinkNest own index R_C "lastChange" "I" "ChangeStore" ∈ qa_NW) (hdg : decode cc pc = .ok (.putfield index, 3)) (kk : ∀ (x1 : QX) (H1 : Heap) (locs1 : List Loc), x1 = sI x 3 v → qa_S (dC, dI) classes (qC_t k) (qC_w a k) A s x1 H1 locs1 → W p l e R s m args below meth c H1 locs1 0 0 Q (F0 m (pc + 3) ls rest)) : W p l e R s m args below meth c H locs 0 0 Q (F0 m pc ls (.int v :: .ref (a 1) :: rest)) :=
  va_putN (D := (dC, dI)) (ci := 1) (v := .int v) (ty := .int) (C := R_C) (T := F_C) (N := 5) C.1 C.2.1 C.2.2.2.2.1 hin_C t_C t_C_ok n_C C.2.2.2.2.2.1 S.2.2.1 S.1 S.2.1 S.2.2.2.1 1 rfl rfl 4 (by decide) (va_Nw.use rfl (S.2.2.2.2.2 _ hw)) (fun _ h9 => h9) rfl (by decide +kernel) rfl rfl (Nat.le_of_ble_eq_true rfl) hdg (fun H1 locs1 hP hD hS => kk _ H1 locs1 rfl ⟨hP, hD, S.2.2.1, hS, S.2.2.2.2.1, S.2.2.2.2.2⟩)
theorem qf_C_O_firsts {p : Program} {l : Launch} {e : Env} {R : Room} {s : State} {m : MethodId} {args : Array Value} {below : List Frame} {meth : Method} {c : Code} {H : Heap} {locs : List Loc} {Q : State → Prop} {A : Nat → Prop} {x : QX} {cc : ByteArray} {nL : Nat} {ret : Option FieldType} {own : String} {pc : Nat} {ls : Array Slot} {rest : List Value} {dC : Nat → ClassId} {dI : Nat → Nat → Nat} {a : Nat → Nat} {k : Nat → ClassId} (C : qa_X p s m args meth c cc nL ret own) (S : qa_S (dC, dI) classes (qC_t k) (qC_w a k) A s x H locs) {index : Nat} (hw : Cond.fieldLink own index R_O "firsts" "[I" ∈ qa_WG) (hdg : decode cc pc = .ok (.getfield index, 3)) (kk : W p l e R s m args below meth c H locs 0 0 Q (F0 m (pc + 3) ls (.ref (a 8) :: rest))) : W p l e R s m args below meth c H locs 0 0 Q (F0 m pc ls (.ref (a 2) :: rest)) :=
  va_get (D := (dC, dI)) (ci := 2) (v := .ref (a 8)) (C := R_O) (T := F_O) (N := 6) C.1 C.2.1 C.2.2.2.2.1 hin_O C.2.2.2.2.2.1 S.2.2.1 S.1 2 rfl rfl 0 (by decide) (C.2.2.2.2.1 _ hw) (fun _ h9 => h9) rfl hdg kk
theorem qfN_C_O_firsts {p : Program} {l : Launch} {e : Env} {R : Room} {s : State} {m : MethodId} {args : Array Value} {below : List Frame} {meth : Method} {c : Code} {H : Heap} {locs : List Loc} {Q : State → Prop} {A : Nat → Prop} {x : QX} {cc : ByteArray} {nL : Nat} {ret : Option FieldType} {own : String} {pc : Nat} {ls : Array Slot} {rest : List Value} {dC : Nat → ClassId} {dI : Nat → Nat → Nat} {a : Nat → Nat} {k : Nat → ClassId} (C : qa_X p s m args meth c cc nL ret own) (S : qa_S (dC, dI) classes (qC_t k) (qC_w a k) A s x H locs) {index : Nat} (hw : Cond.fieldLinkNest own index R_O "firsts" "[I" "ChangeStore" ∈ qa_NW) (hdg : decode cc pc = .ok (.getfield index, 3)) (kk : W p l e R s m args below meth c H locs 0 0 Q (F0 m (pc + 3) ls (.ref (a 8) :: rest))) : W p l e R s m args below meth c H locs 0 0 Q (F0 m pc ls (.ref (a 2) :: rest)) :=
  va_getN (D := (dC, dI)) (ci := 2) (v := .ref (a 8)) (C := R_O) (T := F_O) (N := 6) C.1 C.2.1 C.2.2.2.2.1 hin_O C.2.2.2.2.2.1 S.2.2.1 S.1 2 rfl rfl 0 (by decide) (va_Nw.use rfl (S.2.2.2.2.2 _ hw)) (fun _ h9 => h9) rfl hdg kk
theorem qf_C_O_seconds {p : Program} {l : Launch} {e : Env} {R : Room} {s : State} {m : MethodId} {args : Array Value} {below : List Frame} {meth : Method} {c : Code} {H : Heap} {locs : List Loc} {Q : State → Prop} {A : Nat → Prop} {x : QX} {cc : ByteArray} {nL : Nat} {ret : Option FieldType} {own : String} {pc : Nat} {ls : Array Slot} {rest : List Value} {dC : Nat → ClassId} {dI : Nat → Nat → Nat} {a : Nat → Nat} {k : Nat → ClassId} (C : qa_X p s m args meth c cc nL ret own) (S : qa_S (dC, dI) classes (qC_t k) (qC_w a k) A s x H locs) {index : Nat} (hw : Cond.fieldLink own index R_O "seconds" "[I" ∈ qa_WG) (hdg : decode cc pc = .ok (.getfield index, 3)) (kk : W p l e R s m args below meth c H locs 0 0 Q (F0 m (pc + 3) ls (.ref (a 9) :: rest))) : W p l e R s m args below meth c H locs 0 0 Q (F0 m pc ls (.ref (a 2) :: rest)) :=
  va_get (D := (dC, dI)) (ci := 2) (v := .ref (a 9)) (C := R_O) (T := F_O) (N := 6) C.1 C.2.1 C.2.2.2.2.1 hin_O C.2.2.2.2.2.1 S.2.2.1 S.1 2 rfl rfl 1 (by decide) (C.2.2.2.2.1 _ hw) (fun _ h9 => h9) rfl hdg kk
theorem qfN_C_O_seconds {p : Program} {l : Launch} {e : Env} {R : Room} {s : State} {m : MethodId} {args : Array Value} {below : List Frame} {meth : Method} {c : Code} {H : Heap} {locs : List Loc} {Q : State → Prop} {A : Nat → Prop} {x : QX} {cc : ByteArray} {nL : Nat} {ret : Option FieldType} {own : String} {pc : Nat} {ls : Array Slot} {rest : List Value} {dC : Nat → ClassId} {dI : Nat → Nat → Nat} {a : Nat → Nat} {k : Nat → ClassId} (C : qa_X p s m args meth c cc nL ret own) (S : qa_S (dC, dI) classes (qC_t k) (qC_w a k) A s x H locs) {index : Nat} (hw : Cond.fieldLinkNest own index R_O "seconds" "[I" "ChangeStore" ∈ qa_NW) (hdg : decode cc pc = .ok (.getfield index, 3)) (kk : W p l e R s m args below meth c H locs 0 0 Q (F0 m (pc + 3) ls (.ref (a 9) :: rest))) : W p l e R s m args below meth c H locs 0 0 Q (F0 m pc ls (.ref (a 2) :: rest)) :=
  va_getN (D := (dC, dI)) (ci := 2) (v := .ref (a 9)) (C := R_O) (T := F_O) (N := 6) C.1 C.2.1 C.2.2.2.2.1 hin_O C.2.2.2.2.2.1 S.2.2.1 S.1 2 rfl rfl 1 (by decide) (va_Nw.use rfl (S.2.2.2.2.2 _ hw)) (fun _ h9 => h9) rfl hdg kk
theorem qf_C_O_shown {p : Program} {l : Launch} {e : Env} {R : Room} {s : State} {m : MethodId} {args : Array Value} {below : List Frame} {meth : Method} {c : Code} {H : Heap} {locs : List Loc} {Q : State → Prop} {A : Nat → Prop} {x : QX} {cc : ByteArray} {nL : Nat} {ret : Option FieldType} {own : String} {pc : Nat} {ls : Array Slot} {rest : List Value} {dC : Nat → ClassId} {dI : Nat → Nat → Nat} {a : Nat → Nat} {k : Nat → ClassId} (C : qa_X p s m args meth c cc nL ret own) (S : qa_S (dC, dI) classes (qC_t k) (qC_w a k) A s x H locs) {index : Nat} (hw : Cond.fieldLink own index R_O "shown" "[J" ∈ qa_WG) (hdg : decode cc pc = .ok (.getfield index, 3)) (kk : W p l e R s m args below meth c H locs 0 0 Q (F0 m (pc + 3) ls (.ref (a 10) :: rest))) : W p l e R s m args below meth c H locs 0 0 Q (F0 m pc ls (.ref (a 2) :: rest)) :=
  va_get (D := (dC, dI)) (ci := 2) (v := .ref (a 10)) (C := R_O) (T := F_O) (N := 6) C.1 C.2.1 C.2.2.2.2.1 hin_O C.2.2.2.2.2.1 S.2.2.1 S.1 2 rfl rfl 2 (by decide) (C.2.2.2.2.1 _ hw) (fun _ h9 => h9) rfl hdg kk
theorem qfN_C_O_shown {p : Program} {l : Launch} {e : Env} {R : Room} {s : State} {m : MethodId} {args : Array Value} {below : List Frame} {meth : Method} {c : Code} {H : Heap} {locs : List Loc} {Q : State → Prop} {A : Nat → Prop} {x : QX} {cc : ByteArray} {nL : Nat} {ret : Option FieldType} {own : String} {pc : Nat} {ls : Array Slot} {rest : List Value} {dC : Nat → ClassId} {dI : Nat → Nat → Nat} {a : Nat → Nat} {k : Nat → ClassId} (C : qa_X p s m args meth c cc nL ret own) (S : qa_S (dC, dI) classes (qC_t k) (qC_w a k) A s x H locs) {index : Nat} (hw : Cond.fieldLinkNest own index R_O "shown" "[J" "ChangeStore" ∈ qa_NW) (hdg : decode cc pc = .ok (.getfield index, 3)) (kk : W p l e R s m args below meth c H locs 0 0 Q (F0 m (pc + 3) ls (.ref (a 10) :: rest))) : W p l e R s m args below meth c H locs 0 0 Q (F0 m pc ls (.ref (a 2) :: rest)) :=
  va_getN (D := (dC, dI)) (ci := 2) (v := .ref (a 10)) (C := R_O) (T := F_O) (N := 6) C.1 C.2.1 C.2.2.2.2.1 hin_O C.2.2.2.2.2.1 S.2.2.1 S.1 2 rfl rfl 2 (by decide) (va_Nw.use rfl (S.2.2.2.2.2 _ hw)) (fun _ h9 => h9) rfl hdg kk
theorem qf_C_O_workings {p : Program} {l : Launch} {e : Env} {R : Room} {s : State} {m : MethodId} {args : Array Value} {below : List Frame} {meth : Method} {c : Code} {H : Heap} {locs : List Loc} {Q : State → Prop} {A : Nat → Prop} {x : QX} {cc : ByteArray} {nL : Nat} {ret : Option FieldType} {own : String} {pc : Nat} {ls : Array Slot} {rest : List Value} {dC : Nat → ClassId} {dI : Nat → Nat → Nat} {a : Nat → Nat} {k : Nat → ClassId} (C : qa_X p s m args meth c cc nL ret own) (S : qa_S (dC, dI) classes (qC_t k) (qC_w a k) A s x H locs) {index : Nat} (hw : Cond.fieldLink own index R_O "workings" "[I" ∈ qa_WG) (hdg : decode cc pc = .ok (.getfield index, 3)) (kk : W p l e R s m args below meth c H locs 0 0 Q (F0 m (pc + 3) ls (.ref (a 11) :: rest))) : W p l e R s m args below meth c H locs 0 0 Q (F0 m pc ls (.ref (a 2) :: rest)) :=
  va_get (D := (dC, dI)) (ci := 2) (v := .ref (a 11)) (C := R_O) (T := F_O) (N := 6) C.1 C.2.1 C.2.2.2.2.1 hin_O C.2.2.2.2.2.1 S.2.2.1 S.1 2 rfl rfl 3 (by decide) (C.2.2.2.2.1 _ hw) (fun _ h9 => h9) rfl hdg kk
theorem qfN_C_O_workings {p : Program} {l : Launch} {e : Env} {R : Room} {s : State} {m : MethodId} {args : Array Value} {below : List Frame} {meth : Method} {c : Code} {H : Heap} {locs : List Loc} {Q : State → Prop} {A : Nat → Prop} {x : QX} {cc : ByteArray} {nL : Nat} {ret : Option FieldType} {own : String} {pc : Nat} {ls : Array Slot} {rest : List Value} {dC : Nat → ClassId} {dI : Nat → Nat → Nat} {a : Nat → Nat} {k : Nat → ClassId} (C : qa_X p s m args meth c cc nL ret own) (S : qa_S (dC, dI) classes (qC_t k) (qC_w a k) A s x H locs) {index : Nat} (hw : Cond.fieldLinkNest own index R_O "workings" "[I" "ChangeStore" ∈ qa_NW) (hdg : decode cc pc = .ok (.getfield index, 3)) (kk : W p l e R s m args below meth c H locs 0 0 Q (F0 m (pc + 3) ls (.ref (a 11) :: rest))) : W p l e R s m args below meth c H locs 0 0 Q (F0 m pc ls (.ref (a 2) :: rest)) :=
  va_getN (D := (dC, dI)) (ci := 2) (v := .ref (a 11)) (C := R_O) (T := F_O) (N := 6) C.1 C.2.1 C.2.2.2.2.1 hin_O C.2.2.2.2.2.1 S.2.2.1 S.1 2 rfl rfl 3 (by decide) (va_Nw.use rfl (S.2.2.2.2.2 _ hw)) (fun _ h9 => h9) rfl hdg kk
theorem qf_C_O_marks {p : Program} {l : Launch} {e : Env} {R : Room} {s : State} {m : MethodId} {args : Array Value} {below : List Frame} {meth : Method} {c : Code} {H : Heap} {locs : List Loc} {Q : State → Prop} {A : Nat → Prop} {x : QX} {cc : ByteArray} {nL : Nat} {ret : Option FieldType} {own : String} {pc : Nat} {ls : Array Slot} {rest : List Value} {dC : Nat → ClassId} {dI : Nat → Nat → Nat} {a : Nat → Nat} {k : Nat → ClassId} (C : qa_X p s m args meth c cc nL ret own) (S : qa_S (dC, dI) classes (qC_t k) (qC_w a k) A s x H locs) {index : Nat} (hw : Cond.fieldLink own index R_O "marks" "[I" ∈ qa_WG) (hdg : decode cc pc = .ok (.getfield index, 3)) (kk : W p l e R s m args below meth c H locs 0 0 Q (F0 m (pc + 3) ls (.ref (a 12) :: rest))) : W p l e R s m args below meth c H locs 0 0 Q (F0 m pc ls (.ref (a 2) :: rest)) :=
  va_get (D := (dC, dI)) (ci := 2) (v := .ref (a 12)) (C := R_O) (T := F_O) (N := 6) C.1 C.2.1 C.2.2.2.2.1 hin_O C.2.2.2.2.2.1 S.2.2.1 S.1 2 rfl rfl 4 (by decide) (C.2.2.2.2.1 _ hw) (fun _ h9 => h9) rfl hdg kk
theorem qfN_C_O_marks {p : Program} {l : Launch} {e : Env} {R : Room} {s : State} {m : MethodId} {args : Array Value} {below : List Frame} {meth : Method} {c : Code} {H : Heap} {locs : List Loc} {Q : State → Prop} {A : Nat → Prop} {x : QX} {cc : ByteArray} {nL : Nat} {ret : Option FieldType} {own : String} {pc : Nat} {ls : Array Slot} {rest : List Value} {dC : Nat → ClassId} {dI : Nat → Nat → Nat} {a : Nat → Nat} {k : Nat → ClassId} (C : qa_X p s m args meth c cc nL ret own) (S : qa_S (dC, dI) classes (qC_t k) (qC_w a k) A s x H locs) {index : Nat} (hw : Cond.fieldLinkNest own index R_O "marks" "[I" "ChangeStore" ∈ qa_NW) (hdg : decode cc pc = .ok (.getfield index, 3)) (kk : W p l e R s m args below meth c H locs 0 0 Q (F0 m (pc + 3) ls (.ref (a 12) :: rest))) : W p l e R s m args below meth c H locs 0 0 Q (F0 m pc ls (.ref (a 2) :: rest)) :=
  va_getN (D := (dC, dI)) (ci := 2) (v := .ref (a 12)) (C := R_O) (T := F_O) (N := 6) C.1 C.2.1 C.2.2.2.2.1 hin_O C.2.2.2.2.2.1 S.2.2.1 S.1 2 rfl rfl 4 (by decide) (va_Nw.use rfl (S.2.2.2.2.2 _ hw)) (fun _ h9 => h9) rfl hdg kk
theorem qf_C_O_size {p : Program} {l : Launch} {e : Env} {R : Room} {s : State} {m : MethodId} {args : Array Value} {below : List Frame} {meth : Method} {c : Code} {H : Heap} {locs : List Loc} {Q : State → Prop} {A : Nat → Prop} {x : QX} {cc : ByteArray} {nL : Nat} {ret : Option FieldType} {own : String} {pc : Nat} {ls : Array Slot} {rest : List Value} {dC : Nat → ClassId} {dI : Nat → Nat → Nat} {a : Nat → Nat} {k : Nat → ClassId} (C : qa_X p s m args meth c cc nL ret own) (S : qa_S (dC, dI) classes (qC_t k) (qC_w a k) A s x H locs) {index : Nat} (hw : Cond.fieldLink own index R_O "size" "I" ∈ qa_WG) (hdg : decode cc pc = .ok (.getfield index, 3)) (kk : W p l e R s m args below meth c H locs 0 0 Q (F0 m (pc + 3) ls (.int (gI x 4) :: rest))) : W p l e R s m args below meth c H locs 0 0 Q (F0 m pc ls (.ref (a 2) :: rest)) :=
  va_get (D := (dC, dI)) (ci := 2) (v := .int (gI x 4)) (C := R_O) (T := F_O) (N := 6) C.1 C.2.1 C.2.2.2.2.1 hin_O C.2.2.2.2.2.1 S.2.2.1 S.1 2 rfl rfl 5 (by decide) (C.2.2.2.2.1 _ hw) (fun _ h9 => h9) rfl hdg kk
theorem qp_C_O_size {p : Program} {l : Launch} {e : Env} {R : Room} {s : State} {m : MethodId} {args : Array Value} {below : List Frame} {meth : Method} {c : Code} {H : Heap} {locs : List Loc} {Q : State → Prop} {A : Nat → Prop} {x : QX} {cc : ByteArray} {nL : Nat} {ret : Option FieldType} {own : String} {pc : Nat} {ls : Array Slot} {rest : List Value} {dC : Nat → ClassId} {dI : Nat → Nat → Nat} {a : Nat → Nat} {k : Nat → ClassId} {v : Int32} (C : qa_X p s m args meth c cc nL ret own) (S : qa_S (dC, dI) classes (qC_t k) (qC_w a k) A s x H locs) {index : Nat} (hw : Cond.fieldLink own index R_O "size" "I" ∈ qa_WG) (hdg : decode cc pc = .ok (.putfield index, 3)) (kk : ∀ (x1 : QX) (H1 : Heap) (locs1 : List Loc), x1 = sI x 4 v → qa_S (dC, dI) classes (qC_t k) (qC_w a k) A s x1 H1 locs1 → W p l e R s m args below meth c H1 locs1 0 0 Q (F0 m (pc + 3) ls rest)) : W p l e R s m args below meth c H locs 0 0 Q (F0 m pc ls (.int v :: .ref (a 2) :: rest)) :=
  va_put (D := (dC, dI)) (ci := 2) (v := .int v) (ty := .int) (C := R_O) (T := F_O) (N := 6) C.1 C.2.1 C.2.2.2.2.1 hin_O t_O t_O_ok n_O C.2.2.2.2.2.1 S.2.2.1 S.1 S.2.1 S.2.2.2.1 2 rfl rfl 5 (by decide) (C.2.2.2.2.1 _ hw) (fun _ h9 => h9) rfl (by decide +kernel) rfl rfl (Nat.le_of_ble_eq_true rfl) hdg (fun H1 locs1 hP hD hS => kk _ H1 locs1 rfl ⟨hP, hD, S.2.2.1, hS, S.2.2.2.2.1, S.2.2.2.2.2⟩)
theorem qfN_C_O_size {p : Program} {l : Launch} {e : Env} {R : Room} {s : State} {m : MethodId} {args : Array Value} {below : List Frame} {meth : Method} {c : Code} {H : Heap} {locs : List Loc} {Q : State → Prop} {A : Nat → Prop} {x : QX} {cc : ByteArray} {nL : Nat} {ret : Option FieldType} {own : String} {pc : Nat} {ls : Array Slot} {rest : List Value} {dC : Nat → ClassId} {dI : Nat → Nat → Nat} {a : Nat → Nat} {k : Nat → ClassId} (C : qa_X p s m args meth c cc nL ret own) (S : qa_S (dC, dI) classes (qC_t k) (qC_w a k) A s x H locs) {index : Nat} (hw : Cond.fieldLinkNest own index R_O "size" "I" "ChangeStore" ∈ qa_NW) (hdg : decode cc pc = .ok (.getfield index, 3)) (kk : W p l e R s m args below meth c H locs 0 0 Q (F0 m (pc + 3) ls (.int (gI x 4) :: rest))) : W p l e R s m args below meth c H locs 0 0 Q (F0 m pc ls (.ref (a 2) :: rest)) :=
  va_getN (D := (dC, dI)) (ci := 2) (v := .int (gI x 4)) (C := R_O) (T := F_O) (N := 6) C.1 C.2.1 C.2.2.2.2.1 hin_O C.2.2.2.2.2.1 S.2.2.1 S.1 2 rfl rfl 5 (by decide) (va_Nw.use rfl (S.2.2.2.2.2 _ hw)) (fun _ h9 => h9) rfl hdg kk
theorem qpN_C_O_size {p : Program} {l : Launch} {e : Env} {R : Room} {s : State} {m : MethodId} {args : Array Value} {below : List Frame} {meth : Method} {c : Code} {H : Heap} {locs : List Loc} {Q : State → Prop} {A : Nat → Prop} {x : QX} {cc : ByteArray} {nL : Nat} {ret : Option FieldType} {own : String} {pc : Nat} {ls : Array Slot} {rest : List Value} {dC : Nat → ClassId} {dI : Nat → Nat → Nat} {a : Nat → Nat} {k : Nat → ClassId} {v : Int32} (C : qa_X p s m args meth c cc nL ret own) (S : qa_S (dC, dI) classes (qC_t k) (qC_w a k) A s x H locs) {index : Nat} (hw : Cond.fieldLinkNest own index R_O "size" "I" "ChangeStore" ∈ qa_NW) (hdg : decode cc pc = .ok (.putfield index, 3)) (kk : ∀ (x1 : QX) (H1 : Heap) (locs1 : List Loc), x1 = sI x 4 v → qa_S (dC, dI) classes (qC_t k) (qC_w a k) A s x1 H1 locs1 → W p l e R s m args below meth c H1 locs1 0 0 Q (F0 m (pc + 3) ls rest)) : W p l e R s m args below meth c H locs 0 0 Q (F0 m pc ls (.int v :: .ref (a 2) :: rest)) :=
  va_putN (D := (dC, dI)) (ci := 2) (v := .int v) (ty := .int) (C := R_O) (T := F_O) (N := 6) C.1 C.2.1 C.2.2.2.2.1 hin_O t_O t_O_ok n_O C.2.2.2.2.2.1 S.2.2.1 S.1 S.2.1 S.2.2.2.1 2 rfl rfl 5 (by decide) (va_Nw.use rfl (S.2.2.2.2.2 _ hw)) (fun _ h9 => h9) rfl (by decide +kernel) rfl rfl (Nat.le_of_ble_eq_true rfl) hdg (fun H1 locs1 hP hD hS => kk _ H1 locs1 rfl ⟨hP, hD, S.2.2.1, hS, S.2.2.2.2.1, S.2.2.2.2.2⟩)
theorem qf_C_D_commits {p : Program} {l : Launch} {e : Env} {R : Room} {s : State} {m : MethodId} {args : Array Value} {below : List Frame} {meth : Method} {c : Code} {H : Heap} {locs : List Loc} {Q : State → Prop} {A : Nat → Prop} {x : QX} {cc : ByteArray} {nL : Nat} {ret : Option FieldType} {own : String} {pc : Nat} {ls : Array Slot} {rest : List Value} {dC : Nat → ClassId} {dI : Nat → Nat → Nat} {a : Nat → Nat} {k : Nat → ClassId} (C : qa_X p s m args meth c cc nL ret own) (S : qa_S (dC, dI) classes (qC_t k) (qC_w a k) A s x H locs) {index : Nat} (hw : Cond.fieldLink own index R_D "commits" "LChangeStore$Commits;" ∈ qa_WG) (hdg : decode cc pc = .ok (.getfield index, 3)) (kk : W p l e R s m args below meth c H locs 0 0 Q (F0 m (pc + 3) ls (.ref (a 1) :: rest))) : W p l e R s m args below meth c H locs 0 0 Q (F0 m pc ls (.ref (a 3) :: rest)) :=
  va_get (D := (dC, dI)) (ci := 3) (v := .ref (a 1)) (C := R_D) (T := F_D) (N := 6) C.1 C.2.1 C.2.2.2.2.1 hin_D C.2.2.2.2.2.1 S.2.2.1 S.1 3 rfl rfl 0 (by decide) (C.2.2.2.2.1 _ hw) (fun _ h9 => h9) rfl hdg kk
theorem qfN_C_D_commits {p : Program} {l : Launch} {e : Env} {R : Room} {s : State} {m : MethodId} {args : Array Value} {below : List Frame} {meth : Method} {c : Code} {H : Heap} {locs : List Loc} {Q : State → Prop} {A : Nat → Prop} {x : QX} {cc : ByteArray} {nL : Nat} {ret : Option FieldType} {own : String} {pc : Nat} {ls : Array Slot} {rest : List Value} {dC : Nat → ClassId} {dI : Nat → Nat → Nat} {a : Nat → Nat} {k : Nat → ClassId} (C : qa_X p s m args meth c cc nL ret own) (S : qa_S (dC, dI) classes (qC_t k) (qC_w a k) A s x H locs) {index : Nat} (hw : Cond.fieldLinkNest own index R_D "commits" "LChangeStore$Commits;" "ChangeStore" ∈ qa_NW) (hdg : decode cc pc = .ok (.getfield index, 3)) (kk : W p l e R s m args below meth c H locs 0 0 Q (F0 m (pc + 3) ls (.ref (a 1) :: rest))) : W p l e R s m args below meth c H locs 0 0 Q (F0 m pc ls (.ref (a 3) :: rest)) :=
  va_getN (D := (dC, dI)) (ci := 3) (v := .ref (a 1)) (C := R_D) (T := F_D) (N := 6) C.1 C.2.1 C.2.2.2.2.1 hin_D C.2.2.2.2.2.1 S.2.2.1 S.1 3 rfl rfl 0 (by decide) (va_Nw.use rfl (S.2.2.2.2.2 _ hw)) (fun _ h9 => h9) rfl hdg kk
theorem qf_C_D_marks {p : Program} {l : Launch} {e : Env} {R : Room} {s : State} {m : MethodId} {args : Array Value} {below : List Frame} {meth : Method} {c : Code} {H : Heap} {locs : List Loc} {Q : State → Prop} {A : Nat → Prop} {x : QX} {cc : ByteArray} {nL : Nat} {ret : Option FieldType} {own : String} {pc : Nat} {ls : Array Slot} {rest : List Value} {dC : Nat → ClassId} {dI : Nat → Nat → Nat} {a : Nat → Nat} {k : Nat → ClassId} (C : qa_X p s m args meth c cc nL ret own) (S : qa_S (dC, dI) classes (qC_t k) (qC_w a k) A s x H locs) {index : Nat} (hw : Cond.fieldLink own index R_D "marks" "[I" ∈ qa_WG) (hdg : decode cc pc = .ok (.getfield index, 3)) (kk : W p l e R s m args below meth c H locs 0 0 Q (F0 m (pc + 3) ls (.ref (a 13) :: rest))) : W p l e R s m args below meth c H locs 0 0 Q (F0 m pc ls (.ref (a 3) :: rest)) :=
  va_get (D := (dC, dI)) (ci := 3) (v := .ref (a 13)) (C := R_D) (T := F_D) (N := 6) C.1 C.2.1 C.2.2.2.2.1 hin_D C.2.2.2.2.2.1 S.2.2.1 S.1 3 rfl rfl 1 (by decide) (C.2.2.2.2.1 _ hw) (fun _ h9 => h9) rfl hdg kk
theorem qfN_C_D_marks {p : Program} {l : Launch} {e : Env} {R : Room} {s : State} {m : MethodId} {args : Array Value} {below : List Frame} {meth : Method} {c : Code} {H : Heap} {locs : List Loc} {Q : State → Prop} {A : Nat → Prop} {x : QX} {cc : ByteArray} {nL : Nat} {ret : Option FieldType} {own : String} {pc : Nat} {ls : Array Slot} {rest : List Value} {dC : Nat → ClassId} {dI : Nat → Nat → Nat} {a : Nat → Nat} {k : Nat → ClassId} (C : qa_X p s m args meth c cc nL ret own) (S : qa_S (dC, dI) classes (qC_t k) (qC_w a k) A s x H locs) {index : Nat} (hw : Cond.fieldLinkNest own index R_D "marks" "[I" "ChangeStore" ∈ qa_NW) (hdg : decode cc pc = .ok (.getfield index, 3)) (kk : W p l e R s m args below meth c H locs 0 0 Q (F0 m (pc + 3) ls (.ref (a 13) :: rest))) : W p l e R s m args below meth c H locs 0 0 Q (F0 m pc ls (.ref (a 3) :: rest)) :=
  va_getN (D := (dC, dI)) (ci := 3) (v := .ref (a 13)) (C := R_D) (T := F_D) (N := 6) C.1 C.2.1 C.2.2.2.2.1 hin_D C.2.2.2.2.2.1 S.2.2.1 S.1 3 rfl rfl 1 (by decide) (va_Nw.use rfl (S.2.2.2.2.2 _ hw)) (fun _ h9 => h9) rfl hdg kk
theorem qf_C_D_replacements {p : Program} {l : Launch} {e : Env} {R : Room} {s : State} {m : MethodId} {args : Array Value} {below : List Frame} {meth : Method} {c : Code} {H : Heap} {locs : List Loc} {Q : State → Prop} {A : Nat → Prop} {x : QX} {cc : ByteArray} {nL : Nat} {ret : Option FieldType} {own : String} {pc : Nat} {ls : Array Slot} {rest : List Value} {dC : Nat → ClassId} {dI : Nat → Nat → Nat} {a : Nat → Nat} {k : Nat → ClassId} (C : qa_X p s m args meth c cc nL ret own) (S : qa_S (dC, dI) classes (qC_t k) (qC_w a k) A s x H locs) {index : Nat} (hw : Cond.fieldLink own index R_D "replacements" "[I" ∈ qa_WG) (hdg : decode cc pc = .ok (.getfield index, 3)) (kk : W p l e R s m args below meth c H locs 0 0 Q (F0 m (pc + 3) ls (.ref (a 14) :: rest))) : W p l e R s m args below meth c H locs 0 0 Q (F0 m pc ls (.ref (a 3) :: rest)) :=
  va_get (D := (dC, dI)) (ci := 3) (v := .ref (a 14)) (C := R_D) (T := F_D) (N := 6) C.1 C.2.1 C.2.2.2.2.1 hin_D C.2.2.2.2.2.1 S.2.2.1 S.1 3 rfl rfl 2 (by decide) (C.2.2.2.2.1 _ hw) (fun _ h9 => h9) rfl hdg kk
theorem qfN_C_D_replacements {p : Program} {l : Launch} {e : Env} {R : Room} {s : State} {m : MethodId} {args : Array Value} {below : List Frame} {meth : Method} {c : Code} {H : Heap} {locs : List Loc} {Q : State → Prop} {A : Nat → Prop} {x : QX} {cc : ByteArray} {nL : Nat} {ret : Option FieldType} {own : String} {pc : Nat} {ls : Array Slot} {rest : List Value} {dC : Nat → ClassId} {dI : Nat → Nat → Nat} {a : Nat → Nat} {k : Nat → ClassId} (C : qa_X p s m args meth c cc nL ret own) (S : qa_S (dC, dI) classes (qC_t k) (qC_w a k) A s x H locs) {index : Nat} (hw : Cond.fieldLinkNest own index R_D "replacements" "[I" "ChangeStore" ∈ qa_NW) (hdg : decode cc pc = .ok (.getfield index, 3)) (kk : W p l e R s m args below meth c H locs 0 0 Q (F0 m (pc + 3) ls (.ref (a 14) :: rest))) : W p l e R s m args below meth c H locs 0 0 Q (F0 m pc ls (.ref (a 3) :: rest)) :=
  va_getN (D := (dC, dI)) (ci := 3) (v := .ref (a 14)) (C := R_D) (T := F_D) (N := 6) C.1 C.2.1 C.2.2.2.2.1 hin_D C.2.2.2.2.2.1 S.2.2.1 S.1 3 rfl rfl 2 (by decide) (va_Nw.use rfl (S.2.2.2.2.2 _ hw)) (fun _ h9 => h9) rfl hdg kk
theorem qf_C_D_shown {p : Program} {l : Launch} {e : Env} {R : Room} {s : State} {m : MethodId} {args : Array Value} {below : List Frame} {meth : Method} {c : Code} {H : Heap} {locs : List Loc} {Q : State → Prop} {A : Nat → Prop} {x : QX} {cc : ByteArray} {nL : Nat} {ret : Option FieldType} {own : String} {pc : Nat} {ls : Array Slot} {rest : List Value} {dC : Nat → ClassId} {dI : Nat → Nat → Nat} {a : Nat → Nat} {k : Nat → ClassId} (C : qa_X p s m args meth c cc nL ret own) (S : qa_S (dC, dI) classes (qC_t k) (qC_w a k) A s x H locs) {index : Nat} (hw : Cond.fieldLink own index R_D "shown" "J" ∈ qa_WG) (hdg : decode cc pc = .ok (.getfield index, 3)) (kk : W p l e R s m args below meth c H locs 0 0 Q (F0 m (pc + 3) ls (.long (gL x 0) :: rest))) : W p l e R s m args below meth c H locs 0 0 Q (F0 m pc ls (.ref (a 3) :: rest)) :=
  va_get (D := (dC, dI)) (ci := 3) (v := .long (gL x 0)) (C := R_D) (T := F_D) (N := 6) C.1 C.2.1 C.2.2.2.2.1 hin_D C.2.2.2.2.2.1 S.2.2.1 S.1 3 rfl rfl 3 (by decide) (C.2.2.2.2.1 _ hw) (fun _ h9 => h9) rfl hdg kk
theorem qp_C_D_shown {p : Program} {l : Launch} {e : Env} {R : Room} {s : State} {m : MethodId} {args : Array Value} {below : List Frame} {meth : Method} {c : Code} {H : Heap} {locs : List Loc} {Q : State → Prop} {A : Nat → Prop} {x : QX} {cc : ByteArray} {nL : Nat} {ret : Option FieldType} {own : String} {pc : Nat} {ls : Array Slot} {rest : List Value} {dC : Nat → ClassId} {dI : Nat → Nat → Nat} {a : Nat → Nat} {k : Nat → ClassId} {v : Int64} (C : qa_X p s m args meth c cc nL ret own) (S : qa_S (dC, dI) classes (qC_t k) (qC_w a k) A s x H locs) {index : Nat} (hw : Cond.fieldLink own index R_D "shown" "J" ∈ qa_WG) (hdg : decode cc pc = .ok (.putfield index, 3)) (kk : ∀ (x1 : QX) (H1 : Heap) (locs1 : List Loc), x1 = sL x 0 v → qa_S (dC, dI) classes (qC_t k) (qC_w a k) A s x1 H1 locs1 → W p l e R s m args below meth c H1 locs1 0 0 Q (F0 m (pc + 3) ls rest)) : W p l e R s m args below meth c H locs 0 0 Q (F0 m pc ls (.long v :: .ref (a 3) :: rest)) :=
  va_put (D := (dC, dI)) (ci := 3) (v := .long v) (ty := .long) (C := R_D) (T := F_D) (N := 6) C.1 C.2.1 C.2.2.2.2.1 hin_D t_D t_D_ok n_D C.2.2.2.2.2.1 S.2.2.1 S.1 S.2.1 S.2.2.2.1 3 rfl rfl 3 (by decide) (C.2.2.2.2.1 _ hw) (fun _ h9 => h9) rfl (by decide +kernel) rfl rfl (Nat.le_of_ble_eq_true rfl) hdg (fun H1 locs1 hP hD hS => kk _ H1 locs1 rfl ⟨hP, hD, S.2.2.1, hS, S.2.2.2.2.1, S.2.2.2.2.2⟩)
theorem qfN_C_D_shown {p : Program} {l : Launch} {e : Env} {R : Room} {s : State} {m : MethodId} {args : Array Value} {below : List Frame} {meth : Method} {c : Code} {H : Heap} {locs : List Loc} {Q : State → Prop} {A : Nat → Prop} {x : QX} {cc : ByteArray} {nL : Nat} {ret : Option FieldType} {own : String} {pc : Nat} {ls : Array Slot} {rest : List Value} {dC : Nat → ClassId} {dI : Nat → Nat → Nat} {a : Nat → Nat} {k : Nat → ClassId} (C : qa_X p s m args meth c cc nL ret own) (S : qa_S (dC, dI) classes (qC_t k) (qC_w a k) A s x H locs) {index : Nat} (hw : Cond.fieldLinkNest own index R_D "shown" "J" "ChangeStore" ∈ qa_NW) (hdg : decode cc pc = .ok (.getfield index, 3)) (kk : W p l e R s m args below meth c H locs 0 0 Q (F0 m (pc + 3) ls (.long (gL x 0) :: rest))) : W p l e R s m args below meth c H locs 0 0 Q (F0 m pc ls (.ref (a 3) :: rest)) :=
  va_getN (D := (dC, dI)) (ci := 3) (v := .long (gL x 0)) (C := R_D) (T := F_D) (N := 6) C.1 C.2.1 C.2.2.2.2.1 hin_D C.2.2.2.2.2.1 S.2.2.1 S.1 3 rfl rfl 3 (by decide) (va_Nw.use rfl (S.2.2.2.2.2 _ hw)) (fun _ h9 => h9) rfl hdg kk
theorem qpN_C_D_shown {p : Program} {l : Launch} {e : Env} {R : Room} {s : State} {m : MethodId} {args : Array Value} {below : List Frame} {meth : Method} {c : Code} {H : Heap} {locs : List Loc} {Q : State → Prop} {A : Nat → Prop} {x : QX} {cc : ByteArray} {nL : Nat} {ret : Option FieldType} {own : String} {pc : Nat} {ls : Array Slot} {rest : List Value} {dC : Nat → ClassId} {dI : Nat → Nat → Nat} {a : Nat → Nat} {k : Nat → ClassId} {v : Int64} (C : qa_X p s m args meth c cc nL ret own) (S : qa_S (dC, dI) classes (qC_t k) (qC_w a k) A s x H locs) {index : Nat} (hw : Cond.fieldLinkNest own index R_D "shown" "J" "ChangeStore" ∈ qa_NW) (hdg : decode cc pc = .ok (.putfield index, 3)) (kk : ∀ (x1 : QX) (H1 : Heap) (locs1 : List Loc), x1 = sL x 0 v → qa_S (dC, dI) classes (qC_t k) (qC_w a k) A s x1 H1 locs1 → W p l e R s m args below meth c H1 locs1 0 0 Q (F0 m (pc + 3) ls rest)) : W p l e R s m args below meth c H locs 0 0 Q (F0 m pc ls (.long v :: .ref (a 3) :: rest)) :=
  va_putN (D := (dC, dI)) (ci := 3) (v := .long v) (ty := .long) (C := R_D) (T := F_D) (N := 6) C.1 C.2.1 C.2.2.2.2.1 hin_D t_D t_D_ok n_D C.2.2.2.2.2.1 S.2.2.1 S.1 S.2.1 S.2.2.2.1 3 rfl rfl 3 (by decide) (va_Nw.use rfl (S.2.2.2.2.2 _ hw)) (fun _ h9 => h9) rfl (by decide +kernel) rfl rfl (Nat.le_of_ble_eq_true rfl) hdg (fun H1 locs1 hP hD hS => kk _ H1 locs1 rfl ⟨hP, hD, S.2.2.1, hS, S.2.2.2.2.1, S.2.2.2.2.2⟩)
theorem qf_C_D_working {p : Program} {l : Launch} {e : Env} {R : Room} {s : State} {m : MethodId} {args : Array Value} {below : List Frame} {meth : Method} {c : Code} {H : Heap} {locs : List Loc} {Q : State → Prop} {A : Nat → Prop} {x : QX} {cc : ByteArray} {nL : Nat} {ret : Option FieldType} {own : String} {pc : Nat} {ls : Array Slot} {rest : List Value} {dC : Nat → ClassId} {dI : Nat → Nat → Nat} {a : Nat → Nat} {k : Nat → ClassId} (C : qa_X p s m args meth c cc nL ret own) (S : qa_S (dC, dI) classes (qC_t k) (qC_w a k) A s x H locs) {index : Nat} (hw : Cond.fieldLink own index R_D "working" "I" ∈ qa_WG) (hdg : decode cc pc = .ok (.getfield index, 3)) (kk : W p l e R s m args below meth c H locs 0 0 Q (F0 m (pc + 3) ls (.int (gI x 5) :: rest))) : W p l e R s m args below meth c H locs 0 0 Q (F0 m pc ls (.ref (a 3) :: rest)) :=
  va_get (D := (dC, dI)) (ci := 3) (v := .int (gI x 5)) (C := R_D) (T := F_D) (N := 6) C.1 C.2.1 C.2.2.2.2.1 hin_D C.2.2.2.2.2.1 S.2.2.1 S.1 3 rfl rfl 4 (by decide) (C.2.2.2.2.1 _ hw) (fun _ h9 => h9) rfl hdg kk
theorem qp_C_D_working {p : Program} {l : Launch} {e : Env} {R : Room} {s : State} {m : MethodId} {args : Array Value} {below : List Frame} {meth : Method} {c : Code} {H : Heap} {locs : List Loc} {Q : State → Prop} {A : Nat → Prop} {x : QX} {cc : ByteArray} {nL : Nat} {ret : Option FieldType} {own : String} {pc : Nat} {ls : Array Slot} {rest : List Value} {dC : Nat → ClassId} {dI : Nat → Nat → Nat} {a : Nat → Nat} {k : Nat → ClassId} {v : Int32} (C : qa_X p s m args meth c cc nL ret own) (S : qa_S (dC, dI) classes (qC_t k) (qC_w a k) A s x H locs) {index : Nat} (hw : Cond.fieldLink own index R_D "working" "I" ∈ qa_WG) (hdg : decode cc pc = .ok (.putfield index, 3)) (kk : ∀ (x1 : QX) (H1 : Heap) (locs1 : List Loc), x1 = sI x 5 v → qa_S (dC, dI) classes (qC_t k) (qC_w a k) A s x1 H1 locs1 → W p l e R s m args below meth c H1 locs1 0 0 Q (F0 m (pc + 3) ls rest)) : W p l e R s m args below meth c H locs 0 0 Q (F0 m pc ls (.int v :: .ref (a 3) :: rest)) :=
  va_put (D := (dC, dI)) (ci := 3) (v := .int v) (ty := .int) (C := R_D) (T := F_D) (N := 6) C.1 C.2.1 C.2.2.2.2.1 hin_D t_D t_D_ok n_D C.2.2.2.2.2.1 S.2.2.1 S.1 S.2.1 S.2.2.2.1 3 rfl rfl 4 (by decide) (C.2.2.2.2.1 _ hw) (fun _ h9 => h9) rfl (by decide +kernel) rfl rfl (Nat.le_of_ble_eq_true rfl) hdg (fun H1 locs1 hP hD hS => kk _ H1 locs1 rfl ⟨hP, hD, S.2.2.1, hS, S.2.2.2.2.1, S.2.2.2.2.2⟩)
theorem qfN_C_D_working {p : Program} {l : Launch} {e : Env} {R : Room} {s : State} {m : MethodId} {args : Array Value} {below : List Frame} {meth : Method} {c : Code} {H : Heap} {locs : List Loc} {Q : State → Prop} {A : Nat → Prop} {x : QX} {cc : ByteArray} {nL : Nat} {ret : Option FieldType} {own : String} {pc : Nat} {ls : Array Slot} {rest : List Value} {dC : Nat → ClassId} {dI : Nat → Nat → Nat} {a : Nat → Nat} {k : Nat → ClassId} (C : qa_X p s m args meth c cc nL ret own) (S : qa_S (dC, dI) classes (qC_t k) (qC_w a k) A s x H locs) {index : Nat} (hw : Cond.fieldLinkNest own index R_D "working" "I" "ChangeStore" ∈ qa_NW) (hdg : decode cc pc = .ok (.getfield index, 3)) (kk : W p l e R s m args below meth c H locs 0 0 Q (F0 m (pc + 3) ls (.int (gI x 5) :: rest))) : W p l e R s m args below meth c H locs 0 0 Q (F0 m pc ls (.ref (a 3) :: rest)) :=
  va_getN (D := (dC, dI)) (ci := 3) (v := .int (gI x 5)) (C := R_D) (T := F_D) (N := 6) C.1 C.2.1 C.2.2.2.2.1 hin_D C.2.2.2.2.2.1 S.2.2.1 S.1 3 rfl rfl 4 (by decide) (va_Nw.use rfl (S.2.2.2.2.2 _ hw)) (fun _ h9 => h9) rfl hdg kk
theorem qpN_C_D_working {p : Program} {l : Launch} {e : Env} {R : Room} {s : State} {m : MethodId} {args : Array Value} {below : List Frame} {meth : Method} {c : Code} {H : Heap} {locs : List Loc} {Q : State → Prop} {A : Nat → Prop} {x : QX} {cc : ByteArray} {nL : Nat} {ret : Option FieldType} {own : String} {pc : Nat} {ls : Array Slot} {rest : List Value} {dC : Nat → ClassId} {dI : Nat → Nat → Nat} {a : Nat → Nat} {k : Nat → ClassId} {v : Int32} (C : qa_X p s m args meth c cc nL ret own) (S : qa_S (dC, dI) classes (qC_t k) (qC_w a k) A s x H locs) {index : Nat} (hw : Cond.fieldLinkNest own index R_D "working" "I" "ChangeStore" ∈ qa_NW) (hdg : decode cc pc = .ok (.putfield index, 3)) (kk : ∀ (x1 : QX) (H1 : Heap) (locs1 : List Loc), x1 = sI x 5 v → qa_S (dC, dI) classes (qC_t k) (qC_w a k) A s x1 H1 locs1 → W p l e R s m args below meth c H1 locs1 0 0 Q (F0 m (pc + 3) ls rest)) : W p l e R s m args below meth c H locs 0 0 Q (F0 m pc ls (.int v :: .ref (a 3) :: rest)) :=
  va_putN (D := (dC, dI)) (ci := 3) (v := .int v) (ty := .int) (C := R_D) (T := F_D) (N := 6) C.1 C.2.1 C.2.2.2.2.1 hin_D t_D t_D_ok n_D C.2.2.2.2.2.1 S.2.2.1 S.1 S.2.1 S.2.2.2.1 3 rfl rfl 4 (by decide) (va_Nw.use rfl (S.2.2.2.2.2 _ hw)) (fun _ h9 => h9) rfl (by decide +kernel) rfl rfl (Nat.le_of_ble_eq_true rfl) hdg (fun H1 locs1 hP hD hS => kk _ H1 locs1 rfl ⟨hP, hD, S.2.2.1, hS, S.2.2.2.2.1, S.2.2.2.2.2⟩)
theorem qf_C_D_commitsAtOpening {p : Program} {l : Launch} {e : Env} {R : Room} {s : State} {m : MethodId} {args : Array Value} {below : List Frame} {meth : Method} {c : Code} {H : Heap} {locs : List Loc} {Q : State → Prop} {A : Nat → Prop} {x : QX} {cc : ByteArray} {nL : Nat} {ret : Option FieldType} {own : String} {pc : Nat} {ls : Array Slot} {rest : List Value} {dC : Nat → ClassId} {dI : Nat → Nat → Nat} {a : Nat → Nat} {k : Nat → ClassId} (C : qa_X p s m args meth c cc nL ret own) (S : qa_S (dC, dI) classes (qC_t k) (qC_w a k) A s x H locs) {index : Nat} (hw : Cond.fieldLink own index R_D "commitsAtOpening" "I" ∈ qa_WG) (hdg : decode cc pc = .ok (.getfield index, 3)) (kk : W p l e R s m args below meth c H locs 0 0 Q (F0 m (pc + 3) ls (.int (gI x 6) :: rest))) : W p l e R s m args below meth c H locs 0 0 Q (F0 m pc ls (.ref (a 3) :: rest)) :=
  va_get (D := (dC, dI)) (ci := 3) (v := .int (gI x 6)) (C := R_D) (T := F_D) (N := 6) C.1 C.2.1 C.2.2.2.2.1 hin_D C.2.2.2.2.2.1 S.2.2.1 S.1 3 rfl rfl 5 (by decide) (C.2.2.2.2.1 _ hw) (fun _ h9 => h9) rfl hdg kk
theorem qp_C_D_commitsAtOpening {p : Program} {l : Launch} {e : Env} {R : Room} {s : State} {m : MethodId} {args : Array Value} {below : List Frame} {meth : Method} {c : Code} {H : Heap} {locs : List Loc} {Q : State → Prop} {A : Nat → Prop} {x : QX} {cc : ByteArray} {nL : Nat} {ret : Option FieldType} {own : String} {pc : Nat} {ls : Array Slot} {rest : List Value} {dC : Nat → ClassId} {dI : Nat → Nat → Nat} {a : Nat → Nat} {k : Nat → ClassId} {v : Int32} (C : qa_X p s m args meth c cc nL ret own) (S : qa_S (dC, dI) classes (qC_t k) (qC_w a k) A s x H locs) {index : Nat} (hw : Cond.fieldLink own index R_D "commitsAtOpening" "I" ∈ qa_WG) (hdg : decode cc pc = .ok (.putfield index, 3)) (kk : ∀ (x1 : QX) (H1 : Heap) (locs1 : List Loc), x1 = sI x 6 v → qa_S (dC, dI) classes (qC_t k) (qC_w a k) A s x1 H1 locs1 → W p l e R s m args below meth c H1 locs1 0 0 Q (F0 m (pc + 3) ls rest)) : W p l e R s m args below meth c H locs 0 0 Q (F0 m pc ls (.int v :: .ref (a 3) :: rest)) :=
  va_put (D := (dC, dI)) (ci := 3) (v := .int v) (ty := .int) (C := R_D) (T := F_D) (N := 6) C.1 C.2.1 C.2.2.2.2.1 hin_D t_D t_D_ok n_D C.2.2.2.2.2.1 S.2.2.1 S.1 S.2.1 S.2.2.2.1 3 rfl rfl 5 (by decide) (C.2.2.2.2.1 _ hw) (fun _ h9 => h9) rfl (by decide +kernel) rfl rfl (Nat.le_of_ble_eq_true rfl) hdg (fun H1 locs1 hP hD hS => kk _ H1 locs1 rfl ⟨hP, hD, S.2.2.1, hS, S.2.2.2.2.1, S.2.2.2.2.2⟩)
theorem qfN_C_D_commitsAtOpening {p : Program} {l : Launch} {e : Env} {R : Room} {s : State} {m : MethodId} {args : Array Value} {below : List Frame} {meth : Method} {c : Code} {H : Heap} {locs : List Loc} {Q : State → Prop} {A : Nat → Prop} {x : QX} {cc : ByteArray} {nL : Nat} {ret : Option FieldType} {own : String} {pc : Nat} {ls : Array Slot} {rest : List Value} {dC : Nat → ClassId} {dI : Nat → Nat → Nat} {a : Nat → Nat} {k : Nat → ClassId} (C : qa_X p s m args meth c cc nL ret own) (S : qa_S (dC, dI) classes (qC_t k) (qC_w a k) A s x H locs) {index : Nat} (hw : Cond.fieldLinkNest own index R_D "commitsAtOpening" "I" "ChangeStore" ∈ qa_NW) (hdg : decode cc pc = .ok (.getfield index, 3)) (kk : W p l e R s m args below meth c H locs 0 0 Q (F0 m (pc + 3) ls (.int (gI x 6) :: rest))) : W p l e R s m args below meth c H locs 0 0 Q (F0 m pc ls (.ref (a 3) :: rest)) :=
  va_getN (D := (dC, dI)) (ci := 3) (v := .int (gI x 6)) (C := R_D) (T := F_D) (N := 6) C.1 C.2.1 C.2.2.2.2.1 hin_D C.2.2.2.2.2.1 S.2.2.1 S.1 3 rfl rfl 5 (by decide) (va_Nw.use rfl (S.2.2.2.2.2 _ hw)) (fun _ h9 => h9) rfl hdg kk
theorem qpN_C_D_commitsAtOpening {p : Program} {l : Launch} {e : Env} {R : Room} {s : State} {m : MethodId} {args : Array Value} {below : List Frame} {meth : Method} {c : Code} {H : Heap} {locs : List Loc} {Q : State → Prop} {A : Nat → Prop} {x : QX} {cc : ByteArray} {nL : Nat} {ret : Option FieldType} {own : String} {pc : Nat} {ls : Array Slot} {rest : List Value} {dC : Nat → ClassId} {dI : Nat → Nat → Nat} {a : Nat → Nat} {k : Nat → ClassId} {v : Int32} (C : qa_X p s m args meth c cc nL ret own) (S : qa_S (dC, dI) classes (qC_t k) (qC_w a k) A s x H locs) {index : Nat} (hw : Cond.fieldLinkNest own index R_D "commitsAtOpening" "I" "ChangeStore" ∈ qa_NW) (hdg : decode cc pc = .ok (.putfield index, 3)) (kk : ∀ (x1 : QX) (H1 : Heap) (locs1 : List Loc), x1 = sI x 6 v → qa_S (dC, dI) classes (qC_t k) (qC_w a k) A s x1 H1 locs1 → W p l e R s m args below meth c H1 locs1 0 0 Q (F0 m (pc + 3) ls rest)) : W p l e R s m args below meth c H locs 0 0 Q (F0 m pc ls (.int v :: .ref (a 3) :: rest)) :=
  va_putN (D := (dC, dI)) (ci := 3) (v := .int v) (ty := .int) (C := R_D) (T := F_D) (N := 6) C.1 C.2.1 C.2.2.2.2.1 hin_D t_D t_D_ok n_D C.2.2.2.2.2.1 S.2.2.1 S.1 S.2.1 S.2.2.2.1 3 rfl rfl 5 (by decide) (va_Nw.use rfl (S.2.2.2.2.2 _ hw)) (fun _ h9 => h9) rfl (by decide +kernel) rfl rfl (Nat.le_of_ble_eq_true rfl) hdg (fun H1 locs1 hP hD hS => kk _ H1 locs1 rfl ⟨hP, hD, S.2.2.1, hS, S.2.2.2.2.1, S.2.2.2.2.2⟩)
theorem qe_C_currents {p : Program} {l : Launch} {e : Env} {R : Room} {s : State} {m : MethodId} {args : Array Value} {below : List Frame} {meth : Method} {c : Code} {H : Heap} {locs : List Loc} {Q : State → Prop} {A : Nat → Prop} {x : QX} {cc : ByteArray} {nL : Nat} {ret : Option FieldType} {own : String} {pc : Nat} {ls : Array Slot} {rest : List Value} {dC : Nat → ClassId} {dI : Nat → Nat → Nat} {a : Nat → Nat} {k : Nat → ClassId} (C : qa_X p s m args meth c cc nL ret own) (S : qa_S (dC, dI) classes (qC_t k) (qC_w a k) A s x H locs) {i : Int32} (hi : vp_in i 2) (hdg : decode cc pc = .ok (.iaload, 1)) (kk : W p l e R s m args below meth c H locs 0 0 Q (F0 m (pc + 1) ls (.int (gA x 0 i.toNatClampNeg) :: rest))) : W p l e R s m args below meth c H locs 0 0 Q (F0 m pc ls (.int i :: .ref (a 4) :: rest)) :=
  va_iald (f := gA x 0) C.1 C.2.1 S.2.2.1 S.1 4 0 rfl rfl hi hdg kk
theorem qt_C_currents {p : Program} {l : Launch} {e : Env} {R : Room} {s : State} {m : MethodId} {args : Array Value} {below : List Frame} {meth : Method} {c : Code} {H : Heap} {locs : List Loc} {Q : State → Prop} {A : Nat → Prop} {x : QX} {cc : ByteArray} {nL : Nat} {ret : Option FieldType} {own : String} {pc : Nat} {ls : Array Slot} {rest : List Value} {dC : Nat → ClassId} {dI : Nat → Nat → Nat} {a : Nat → Nat} {k : Nat → ClassId} (C : qa_X p s m args meth c cc nL ret own) (S : qa_S (dC, dI) classes (qC_t k) (qC_w a k) A s x H locs) {i : Int32} {v : Int32} (hi : vp_in i 2) (hdg : decode cc pc = .ok (.iastore, 1)) (kk : ∀ (x1 : QX) (H1 : Heap) (locs1 : List Loc), x1 = sA x 0 (upd (gA x 0) i.toNatClampNeg v) → qa_S (dC, dI) classes (qC_t k) (qC_w a k) A s x1 H1 locs1 → W p l e R s m args below meth c H1 locs1 0 0 Q (F0 m (pc + 1) ls rest)) : W p l e R s m args below meth c H locs 0 0 Q (F0 m pc ls (.int v :: .int i :: .ref (a 4) :: rest)) :=
  va_iast (f := gA x 0) C.1 C.2.1 S.2.2.1 S.1 S.2.1 S.2.2.2.1 4 0 rfl rfl hi hdg (fun H1 locs1 hP hD hS => kk _ H1 locs1 rfl ⟨hP, hD, S.2.2.1, hS, S.2.2.2.2.1, S.2.2.2.2.2⟩)
theorem qn_C_currents {p : Program} {l : Launch} {e : Env} {R : Room} {s : State} {m : MethodId} {args : Array Value} {below : List Frame} {meth : Method} {c : Code} {H : Heap} {locs : List Loc} {Q : State → Prop} {A : Nat → Prop} {x : QX} {cc : ByteArray} {nL : Nat} {ret : Option FieldType} {own : String} {pc : Nat} {ls : Array Slot} {rest : List Value} {dC : Nat → ClassId} {dI : Nat → Nat → Nat} {a : Nat → Nat} {k : Nat → ClassId} (C : qa_X p s m args meth c cc nL ret own) (S : qa_S (dC, dI) classes (qC_t k) (qC_w a k) A s x H locs) (hdg : decode cc pc = .ok (.arraylength, 1)) (kk : W p l e R s m args below meth c H locs 0 0 Q (F0 m (pc + 1) ls (.int 2 :: rest))) : W p l e R s m args below meth c H locs 0 0 Q (F0 m pc ls (.ref (a 4) :: rest)) :=
  va_alen (v := 2) (ty := .int) C.1 C.2.1 S.2.2.1 S.1 4 0 rfl rfl rfl hdg kk
theorem qe_C_parents {p : Program} {l : Launch} {e : Env} {R : Room} {s : State} {m : MethodId} {args : Array Value} {below : List Frame} {meth : Method} {c : Code} {H : Heap} {locs : List Loc} {Q : State → Prop} {A : Nat → Prop} {x : QX} {cc : ByteArray} {nL : Nat} {ret : Option FieldType} {own : String} {pc : Nat} {ls : Array Slot} {rest : List Value} {dC : Nat → ClassId} {dI : Nat → Nat → Nat} {a : Nat → Nat} {k : Nat → ClassId} (C : qa_X p s m args meth c cc nL ret own) (S : qa_S (dC, dI) classes (qC_t k) (qC_w a k) A s x H locs) {i : Int32} (hi : vp_in i 60) (hdg : decode cc pc = .ok (.iaload, 1)) (kk : W p l e R s m args below meth c H locs 0 0 Q (F0 m (pc + 1) ls (.int (gA x 1 i.toNatClampNeg) :: rest))) : W p l e R s m args below meth c H locs 0 0 Q (F0 m pc ls (.int i :: .ref (a 5) :: rest)) :=
  va_iald (f := gA x 1) C.1 C.2.1 S.2.2.1 S.1 5 1 rfl rfl hi hdg kk
theorem qt_C_parents {p : Program} {l : Launch} {e : Env} {R : Room} {s : State} {m : MethodId} {args : Array Value} {below : List Frame} {meth : Method} {c : Code} {H : Heap} {locs : List Loc} {Q : State → Prop} {A : Nat → Prop} {x : QX} {cc : ByteArray} {nL : Nat} {ret : Option FieldType} {own : String} {pc : Nat} {ls : Array Slot} {rest : List Value} {dC : Nat → ClassId} {dI : Nat → Nat → Nat} {a : Nat → Nat} {k : Nat → ClassId} (C : qa_X p s m args meth c cc nL ret own) (S : qa_S (dC, dI) classes (qC_t k) (qC_w a k) A s x H locs) {i : Int32} {v : Int32} (hi : vp_in i 60) (hdg : decode cc pc = .ok (.iastore, 1)) (kk : ∀ (x1 : QX) (H1 : Heap) (locs1 : List Loc), x1 = sA x 1 (upd (gA x 1) i.toNatClampNeg v) → qa_S (dC, dI) classes (qC_t k) (qC_w a k) A s x1 H1 locs1 → W p l e R s m args below meth c H1 locs1 0 0 Q (F0 m (pc + 1) ls rest)) : W p l e R s m args below meth c H locs 0 0 Q (F0 m pc ls (.int v :: .int i :: .ref (a 5) :: rest)) :=
  va_iast (f := gA x 1) C.1 C.2.1 S.2.2.1 S.1 S.2.1 S.2.2.2.1 5 1 rfl rfl hi hdg (fun H1 locs1 hP hD hS => kk _ H1 locs1 rfl ⟨hP, hD, S.2.2.1, hS, S.2.2.2.2.1, S.2.2.2.2.2⟩)
theorem qn_C_parents {p : Program} {l : Launch} {e : Env} {R : Room} {s : State} {m : MethodId} {args : Array Value} {below : List Frame} {meth : Method} {c : Code} {H : Heap} {locs : List Loc} {Q : State → Prop} {A : Nat → Prop} {x : QX} {cc : ByteArray} {nL : Nat} {ret : Option FieldType} {own : String} {pc : Nat} {ls : Array Slot} {rest : List Value} {dC : Nat → ClassId} {dI : Nat → Nat → Nat} {a : Nat → Nat} {k : Nat → ClassId} (C : qa_X p s m args meth c cc nL ret own) (S : qa_S (dC, dI) classes (qC_t k) (qC_w a k) A s x H locs) (hdg : decode cc pc = .ok (.arraylength, 1)) (kk : W p l e R s m args below meth c H locs 0 0 Q (F0 m (pc + 1) ls (.int 60 :: rest))) : W p l e R s m args below meth c H locs 0 0 Q (F0 m pc ls (.ref (a 5) :: rest)) :=
  va_alen (v := 60) (ty := .int) C.1 C.2.1 S.2.2.1 S.1 5 1 rfl rfl rfl hdg kk
theorem qe_C_changes {p : Program} {l : Launch} {e : Env} {R : Room} {s : State} {m : MethodId} {args : Array Value} {below : List Frame} {meth : Method} {c : Code} {H : Heap} {locs : List Loc} {Q : State → Prop} {A : Nat → Prop} {x : QX} {cc : ByteArray} {nL : Nat} {ret : Option FieldType} {own : String} {pc : Nat} {ls : Array Slot} {rest : List Value} {dC : Nat → ClassId} {dI : Nat → Nat → Nat} {a : Nat → Nat} {k : Nat → ClassId} (C : qa_X p s m args meth c cc nL ret own) (S : qa_S (dC, dI) classes (qC_t k) (qC_w a k) A s x H locs) {i : Int32} (hi : vp_in i 60) (hdg : decode cc pc = .ok (.iaload, 1)) (kk : W p l e R s m args below meth c H locs 0 0 Q (F0 m (pc + 1) ls (.int (gA x 2 i.toNatClampNeg) :: rest))) : W p l e R s m args below meth c H locs 0 0 Q (F0 m pc ls (.int i :: .ref (a 6) :: rest)) :=
  va_iald (f := gA x 2) C.1 C.2.1 S.2.2.1 S.1 6 2 rfl rfl hi hdg kk
theorem qt_C_changes {p : Program} {l : Launch} {e : Env} {R : Room} {s : State} {m : MethodId} {args : Array Value} {below : List Frame} {meth : Method} {c : Code} {H : Heap} {locs : List Loc} {Q : State → Prop} {A : Nat → Prop} {x : QX} {cc : ByteArray} {nL : Nat} {ret : Option FieldType} {own : String} {pc : Nat} {ls : Array Slot} {rest : List Value} {dC : Nat → ClassId} {dI : Nat → Nat → Nat} {a : Nat → Nat} {k : Nat → ClassId} (C : qa_X p s m args meth c cc nL ret own) (S : qa_S (dC, dI) classes (qC_t k) (qC_w a k) A s x H locs) {i : Int32} {v : Int32} (hi : vp_in i 60) (hdg : decode cc pc = .ok (.iastore, 1)) (kk : ∀ (x1 : QX) (H1 : Heap) (locs1 : List Loc), x1 = sA x 2 (upd (gA x 2) i.toNatClampNeg v) → qa_S (dC, dI) classes (qC_t k) (qC_w a k) A s x1 H1 locs1 → W p l e R s m args below meth c H1 locs1 0 0 Q (F0 m (pc + 1) ls rest)) : W p l e R s m args below meth c H locs 0 0 Q (F0 m pc ls (.int v :: .int i :: .ref (a 6) :: rest)) :=
  va_iast (f := gA x 2) C.1 C.2.1 S.2.2.1 S.1 S.2.1 S.2.2.2.1 6 2 rfl rfl hi hdg (fun H1 locs1 hP hD hS => kk _ H1 locs1 rfl ⟨hP, hD, S.2.2.1, hS, S.2.2.2.2.1, S.2.2.2.2.2⟩)
theorem qn_C_changes {p : Program} {l : Launch} {e : Env} {R : Room} {s : State} {m : MethodId} {args : Array Value} {below : List Frame} {meth : Method} {c : Code} {H : Heap} {locs : List Loc} {Q : State → Prop} {A : Nat → Prop} {x : QX} {cc : ByteArray} {nL : Nat} {ret : Option FieldType} {own : String} {pc : Nat} {ls : Array Slot} {rest : List Value} {dC : Nat → ClassId} {dI : Nat → Nat → Nat} {a : Nat → Nat} {k : Nat → ClassId} (C : qa_X p s m args meth c cc nL ret own) (S : qa_S (dC, dI) classes (qC_t k) (qC_w a k) A s x H locs) (hdg : decode cc pc = .ok (.arraylength, 1)) (kk : W p l e R s m args below meth c H locs 0 0 Q (F0 m (pc + 1) ls (.int 60 :: rest))) : W p l e R s m args below meth c H locs 0 0 Q (F0 m pc ls (.ref (a 6) :: rest)) :=
  va_alen (v := 60) (ty := .int) C.1 C.2.1 S.2.2.1 S.1 6 2 rfl rfl rfl hdg kk
theorem qe_C_counts {p : Program} {l : Launch} {e : Env} {R : Room} {s : State} {m : MethodId} {args : Array Value} {below : List Frame} {meth : Method} {c : Code} {H : Heap} {locs : List Loc} {Q : State → Prop} {A : Nat → Prop} {x : QX} {cc : ByteArray} {nL : Nat} {ret : Option FieldType} {own : String} {pc : Nat} {ls : Array Slot} {rest : List Value} {dC : Nat → ClassId} {dI : Nat → Nat → Nat} {a : Nat → Nat} {k : Nat → ClassId} (C : qa_X p s m args meth c cc nL ret own) (S : qa_S (dC, dI) classes (qC_t k) (qC_w a k) A s x H locs) {i : Int32} (hi : vp_in i 1920) (hdg : decode cc pc = .ok (.laload, 1)) (kk : W p l e R s m args below meth c H locs 0 0 Q (F0 m (pc + 1) ls (.long (gB x 0 i.toNatClampNeg) :: rest))) : W p l e R s m args below meth c H locs 0 0 Q (F0 m pc ls (.int i :: .ref (a 7) :: rest)) :=
  va_lald (f := gB x 0) C.1 C.2.1 S.2.2.1 S.1 7 3 rfl rfl hi hdg kk
theorem qt_C_counts {p : Program} {l : Launch} {e : Env} {R : Room} {s : State} {m : MethodId} {args : Array Value} {below : List Frame} {meth : Method} {c : Code} {H : Heap} {locs : List Loc} {Q : State → Prop} {A : Nat → Prop} {x : QX} {cc : ByteArray} {nL : Nat} {ret : Option FieldType} {own : String} {pc : Nat} {ls : Array Slot} {rest : List Value} {dC : Nat → ClassId} {dI : Nat → Nat → Nat} {a : Nat → Nat} {k : Nat → ClassId} (C : qa_X p s m args meth c cc nL ret own) (S : qa_S (dC, dI) classes (qC_t k) (qC_w a k) A s x H locs) {i : Int32} {v : Int64} (hi : vp_in i 1920) (hdg : decode cc pc = .ok (.lastore, 1)) (kk : ∀ (x1 : QX) (H1 : Heap) (locs1 : List Loc), x1 = sB x 0 (vp_updL (gB x 0) i.toNatClampNeg v) → qa_S (dC, dI) classes (qC_t k) (qC_w a k) A s x1 H1 locs1 → W p l e R s m args below meth c H1 locs1 0 0 Q (F0 m (pc + 1) ls rest)) : W p l e R s m args below meth c H locs 0 0 Q (F0 m pc ls (.long v :: .int i :: .ref (a 7) :: rest)) :=
  va_last (f := gB x 0) C.1 C.2.1 S.2.2.1 S.1 S.2.1 S.2.2.2.1 7 3 rfl rfl hi hdg (fun H1 locs1 hP hD hS => kk _ H1 locs1 rfl ⟨hP, hD, S.2.2.1, hS, S.2.2.2.2.1, S.2.2.2.2.2⟩)
theorem qn_C_counts {p : Program} {l : Launch} {e : Env} {R : Room} {s : State} {m : MethodId} {args : Array Value} {below : List Frame} {meth : Method} {c : Code} {H : Heap} {locs : List Loc} {Q : State → Prop} {A : Nat → Prop} {x : QX} {cc : ByteArray} {nL : Nat} {ret : Option FieldType} {own : String} {pc : Nat} {ls : Array Slot} {rest : List Value} {dC : Nat → ClassId} {dI : Nat → Nat → Nat} {a : Nat → Nat} {k : Nat → ClassId} (C : qa_X p s m args meth c cc nL ret own) (S : qa_S (dC, dI) classes (qC_t k) (qC_w a k) A s x H locs) (hdg : decode cc pc = .ok (.arraylength, 1)) (kk : W p l e R s m args below meth c H locs 0 0 Q (F0 m (pc + 1) ls (.int 1920 :: rest))) : W p l e R s m args below meth c H locs 0 0 Q (F0 m pc ls (.ref (a 7) :: rest)) :=
  va_alen (v := 1920) (ty := .long) C.1 C.2.1 S.2.2.1 S.1 7 3 rfl rfl rfl hdg kk
theorem qe_C_firsts {p : Program} {l : Launch} {e : Env} {R : Room} {s : State} {m : MethodId} {args : Array Value} {below : List Frame} {meth : Method} {c : Code} {H : Heap} {locs : List Loc} {Q : State → Prop} {A : Nat → Prop} {x : QX} {cc : ByteArray} {nL : Nat} {ret : Option FieldType} {own : String} {pc : Nat} {ls : Array Slot} {rest : List Value} {dC : Nat → ClassId} {dI : Nat → Nat → Nat} {a : Nat → Nat} {k : Nat → ClassId} (C : qa_X p s m args meth c cc nL ret own) (S : qa_S (dC, dI) classes (qC_t k) (qC_w a k) A s x H locs) {i : Int32} (hi : vp_in i 100) (hdg : decode cc pc = .ok (.iaload, 1)) (kk : W p l e R s m args below meth c H locs 0 0 Q (F0 m (pc + 1) ls (.int (gA x 3 i.toNatClampNeg) :: rest))) : W p l e R s m args below meth c H locs 0 0 Q (F0 m pc ls (.int i :: .ref (a 8) :: rest)) :=
  va_iald (f := gA x 3) C.1 C.2.1 S.2.2.1 S.1 8 4 rfl rfl hi hdg kk
theorem qt_C_firsts {p : Program} {l : Launch} {e : Env} {R : Room} {s : State} {m : MethodId} {args : Array Value} {below : List Frame} {meth : Method} {c : Code} {H : Heap} {locs : List Loc} {Q : State → Prop} {A : Nat → Prop} {x : QX} {cc : ByteArray} {nL : Nat} {ret : Option FieldType} {own : String} {pc : Nat} {ls : Array Slot} {rest : List Value} {dC : Nat → ClassId} {dI : Nat → Nat → Nat} {a : Nat → Nat} {k : Nat → ClassId} (C : qa_X p s m args meth c cc nL ret own) (S : qa_S (dC, dI) classes (qC_t k) (qC_w a k) A s x H locs) {i : Int32} {v : Int32} (hi : vp_in i 100) (hdg : decode cc pc = .ok (.iastore, 1)) (kk : ∀ (x1 : QX) (H1 : Heap) (locs1 : List Loc), x1 = sA x 3 (upd (gA x 3) i.toNatClampNeg v) → qa_S (dC, dI) classes (qC_t k) (qC_w a k) A s x1 H1 locs1 → W p l e R s m args below meth c H1 locs1 0 0 Q (F0 m (pc + 1) ls rest)) : W p l e R s m args below meth c H locs 0 0 Q (F0 m pc ls (.int v :: .int i :: .ref (a 8) :: rest)) :=
  va_iast (f := gA x 3) C.1 C.2.1 S.2.2.1 S.1 S.2.1 S.2.2.2.1 8 4 rfl rfl hi hdg (fun H1 locs1 hP hD hS => kk _ H1 locs1 rfl ⟨hP, hD, S.2.2.1, hS, S.2.2.2.2.1, S.2.2.2.2.2⟩)
theorem qn_C_firsts {p : Program} {l : Launch} {e : Env} {R : Room} {s : State} {m : MethodId} {args : Array Value} {below : List Frame} {meth : Method} {c : Code} {H : Heap} {locs : List Loc} {Q : State → Prop} {A : Nat → Prop} {x : QX} {cc : ByteArray} {nL : Nat} {ret : Option FieldType} {own : String} {pc : Nat} {ls : Array Slot} {rest : List Value} {dC : Nat → ClassId} {dI : Nat → Nat → Nat} {a : Nat → Nat} {k : Nat → ClassId} (C : qa_X p s m args meth c cc nL ret own) (S : qa_S (dC, dI) classes (qC_t k) (qC_w a k) A s x H locs) (hdg : decode cc pc = .ok (.arraylength, 1)) (kk : W p l e R s m args below meth c H locs 0 0 Q (F0 m (pc + 1) ls (.int 100 :: rest))) : W p l e R s m args below meth c H locs 0 0 Q (F0 m pc ls (.ref (a 8) :: rest)) :=
  va_alen (v := 100) (ty := .int) C.1 C.2.1 S.2.2.1 S.1 8 4 rfl rfl rfl hdg kk
theorem qe_C_seconds {p : Program} {l : Launch} {e : Env} {R : Room} {s : State} {m : MethodId} {args : Array Value} {below : List Frame} {meth : Method} {c : Code} {H : Heap} {locs : List Loc} {Q : State → Prop} {A : Nat → Prop} {x : QX} {cc : ByteArray} {nL : Nat} {ret : Option FieldType} {own : String} {pc : Nat} {ls : Array Slot} {rest : List Value} {dC : Nat → ClassId} {dI : Nat → Nat → Nat} {a : Nat → Nat} {k : Nat → ClassId} (C : qa_X p s m args meth c cc nL ret own) (S : qa_S (dC, dI) classes (qC_t k) (qC_w a k) A s x H locs) {i : Int32} (hi : vp_in i 100) (hdg : decode cc pc = .ok (.iaload, 1)) (kk : W p l e R s m args below meth c H locs 0 0 Q (F0 m (pc + 1) ls (.int (gA x 4 i.toNatClampNeg) :: rest))) : W p l e R s m args below meth c H locs 0 0 Q (F0 m pc ls (.int i :: .ref (a 9) :: rest)) :=
  va_iald (f := gA x 4) C.1 C.2.1 S.2.2.1 S.1 9 5 rfl rfl hi hdg kk
theorem qt_C_seconds {p : Program} {l : Launch} {e : Env} {R : Room} {s : State} {m : MethodId} {args : Array Value} {below : List Frame} {meth : Method} {c : Code} {H : Heap} {locs : List Loc} {Q : State → Prop} {A : Nat → Prop} {x : QX} {cc : ByteArray} {nL : Nat} {ret : Option FieldType} {own : String} {pc : Nat} {ls : Array Slot} {rest : List Value} {dC : Nat → ClassId} {dI : Nat → Nat → Nat} {a : Nat → Nat} {k : Nat → ClassId} (C : qa_X p s m args meth c cc nL ret own) (S : qa_S (dC, dI) classes (qC_t k) (qC_w a k) A s x H locs) {i : Int32} {v : Int32} (hi : vp_in i 100) (hdg : decode cc pc = .ok (.iastore, 1)) (kk : ∀ (x1 : QX) (H1 : Heap) (locs1 : List Loc), x1 = sA x 4 (upd (gA x 4) i.toNatClampNeg v) → qa_S (dC, dI) classes (qC_t k) (qC_w a k) A s x1 H1 locs1 → W p l e R s m args below meth c H1 locs1 0 0 Q (F0 m (pc + 1) ls rest)) : W p l e R s m args below meth c H locs 0 0 Q (F0 m pc ls (.int v :: .int i :: .ref (a 9) :: rest)) :=
  va_iast (f := gA x 4) C.1 C.2.1 S.2.2.1 S.1 S.2.1 S.2.2.2.1 9 5 rfl rfl hi hdg (fun H1 locs1 hP hD hS => kk _ H1 locs1 rfl ⟨hP, hD, S.2.2.1, hS, S.2.2.2.2.1, S.2.2.2.2.2⟩)
theorem qn_C_seconds {p : Program} {l : Launch} {e : Env} {R : Room} {s : State} {m : MethodId} {args : Array Value} {below : List Frame} {meth : Method} {c : Code} {H : Heap} {locs : List Loc} {Q : State → Prop} {A : Nat → Prop} {x : QX} {cc : ByteArray} {nL : Nat} {ret : Option FieldType} {own : String} {pc : Nat} {ls : Array Slot} {rest : List Value} {dC : Nat → ClassId} {dI : Nat → Nat → Nat} {a : Nat → Nat} {k : Nat → ClassId} (C : qa_X p s m args meth c cc nL ret own) (S : qa_S (dC, dI) classes (qC_t k) (qC_w a k) A s x H locs) (hdg : decode cc pc = .ok (.arraylength, 1)) (kk : W p l e R s m args below meth c H locs 0 0 Q (F0 m (pc + 1) ls (.int 100 :: rest))) : W p l e R s m args below meth c H locs 0 0 Q (F0 m pc ls (.ref (a 9) :: rest)) :=
  va_alen (v := 100) (ty := .int) C.1 C.2.1 S.2.2.1 S.1 9 5 rfl rfl rfl hdg kk
theorem qe_C_oshown {p : Program} {l : Launch} {e : Env} {R : Room} {s : State} {m : MethodId} {args : Array Value} {below : List Frame} {meth : Method} {c : Code} {H : Heap} {locs : List Loc} {Q : State → Prop} {A : Nat → Prop} {x : QX} {cc : ByteArray} {nL : Nat} {ret : Option FieldType} {own : String} {pc : Nat} {ls : Array Slot} {rest : List Value} {dC : Nat → ClassId} {dI : Nat → Nat → Nat} {a : Nat → Nat} {k : Nat → ClassId} (C : qa_X p s m args meth c cc nL ret own) (S : qa_S (dC, dI) classes (qC_t k) (qC_w a k) A s x H locs) {i : Int32} (hi : vp_in i 100) (hdg : decode cc pc = .ok (.laload, 1)) (kk : W p l e R s m args below meth c H locs 0 0 Q (F0 m (pc + 1) ls (.long (gB x 1 i.toNatClampNeg) :: rest))) : W p l e R s m args below meth c H locs 0 0 Q (F0 m pc ls (.int i :: .ref (a 10) :: rest)) :=
  va_lald (f := gB x 1) C.1 C.2.1 S.2.2.1 S.1 10 6 rfl rfl hi hdg kk
theorem qt_C_oshown {p : Program} {l : Launch} {e : Env} {R : Room} {s : State} {m : MethodId} {args : Array Value} {below : List Frame} {meth : Method} {c : Code} {H : Heap} {locs : List Loc} {Q : State → Prop} {A : Nat → Prop} {x : QX} {cc : ByteArray} {nL : Nat} {ret : Option FieldType} {own : String} {pc : Nat} {ls : Array Slot} {rest : List Value} {dC : Nat → ClassId} {dI : Nat → Nat → Nat} {a : Nat → Nat} {k : Nat → ClassId} (C : qa_X p s m args meth c cc nL ret own) (S : qa_S (dC, dI) classes (qC_t k) (qC_w a k) A s x H locs) {i : Int32} {v : Int64} (hi : vp_in i 100) (hdg : decode cc pc = .ok (.lastore, 1)) (kk : ∀ (x1 : QX) (H1 : Heap) (locs1 : List Loc), x1 = sB x 1 (vp_updL (gB x 1) i.toNatClampNeg v) → qa_S (dC, dI) classes (qC_t k) (qC_w a k) A s x1 H1 locs1 → W p l e R s m args below meth c H1 locs1 0 0 Q (F0 m (pc + 1) ls rest)) : W p l e R s m args below meth c H locs 0 0 Q (F0 m pc ls (.long v :: .int i :: .ref (a 10) :: rest)) :=
  va_last (f := gB x 1) C.1 C.2.1 S.2.2.1 S.1 S.2.1 S.2.2.2.1 10 6 rfl rfl hi hdg (fun H1 locs1 hP hD hS => kk _ H1 locs1 rfl ⟨hP, hD, S.2.2.1, hS, S.2.2.2.2.1, S.2.2.2.2.2⟩)
theorem qn_C_oshown {p : Program} {l : Launch} {e : Env} {R : Room} {s : State} {m : MethodId} {args : Array Value} {below : List Frame} {meth : Method} {c : Code} {H : Heap} {locs : List Loc} {Q : State → Prop} {A : Nat → Prop} {x : QX} {cc : ByteArray} {nL : Nat} {ret : Option FieldType} {own : String} {pc : Nat} {ls : Array Slot} {rest : List Value} {dC : Nat → ClassId} {dI : Nat → Nat → Nat} {a : Nat → Nat} {k : Nat → ClassId} (C : qa_X p s m args meth c cc nL ret own) (S : qa_S (dC, dI) classes (qC_t k) (qC_w a k) A s x H locs) (hdg : decode cc pc = .ok (.arraylength, 1)) (kk : W p l e R s m args below meth c H locs 0 0 Q (F0 m (pc + 1) ls (.int 100 :: rest))) : W p l e R s m args below meth c H locs 0 0 Q (F0 m pc ls (.ref (a 10) :: rest)) :=
  va_alen (v := 100) (ty := .long) C.1 C.2.1 S.2.2.1 S.1 10 6 rfl rfl rfl hdg kk
theorem qe_C_workings {p : Program} {l : Launch} {e : Env} {R : Room} {s : State} {m : MethodId} {args : Array Value} {below : List Frame} {meth : Method} {c : Code} {H : Heap} {locs : List Loc} {Q : State → Prop} {A : Nat → Prop} {x : QX} {cc : ByteArray} {nL : Nat} {ret : Option FieldType} {own : String} {pc : Nat} {ls : Array Slot} {rest : List Value} {dC : Nat → ClassId} {dI : Nat → Nat → Nat} {a : Nat → Nat} {k : Nat → ClassId} (C : qa_X p s m args meth c cc nL ret own) (S : qa_S (dC, dI) classes (qC_t k) (qC_w a k) A s x H locs) {i : Int32} (hi : vp_in i 100) (hdg : decode cc pc = .ok (.iaload, 1)) (kk : W p l e R s m args below meth c H locs 0 0 Q (F0 m (pc + 1) ls (.int (gA x 5 i.toNatClampNeg) :: rest))) : W p l e R s m args below meth c H locs 0 0 Q (F0 m pc ls (.int i :: .ref (a 11) :: rest)) :=
  va_iald (f := gA x 5) C.1 C.2.1 S.2.2.1 S.1 11 7 rfl rfl hi hdg kk
theorem qt_C_workings {p : Program} {l : Launch} {e : Env} {R : Room} {s : State} {m : MethodId} {args : Array Value} {below : List Frame} {meth : Method} {c : Code} {H : Heap} {locs : List Loc} {Q : State → Prop} {A : Nat → Prop} {x : QX} {cc : ByteArray} {nL : Nat} {ret : Option FieldType} {own : String} {pc : Nat} {ls : Array Slot} {rest : List Value} {dC : Nat → ClassId} {dI : Nat → Nat → Nat} {a : Nat → Nat} {k : Nat → ClassId} (C : qa_X p s m args meth c cc nL ret own) (S : qa_S (dC, dI) classes (qC_t k) (qC_w a k) A s x H locs) {i : Int32} {v : Int32} (hi : vp_in i 100) (hdg : decode cc pc = .ok (.iastore, 1)) (kk : ∀ (x1 : QX) (H1 : Heap) (locs1 : List Loc), x1 = sA x 5 (upd (gA x 5) i.toNatClampNeg v) → qa_S (dC, dI) classes (qC_t k) (qC_w a k) A s x1 H1 locs1 → W p l e R s m args below meth c H1 locs1 0 0 Q (F0 m (pc + 1) ls rest)) : W p l e R s m args below meth c H locs 0 0 Q (F0 m pc ls (.int v :: .int i :: .ref (a 11) :: rest)) :=
  va_iast (f := gA x 5) C.1 C.2.1 S.2.2.1 S.1 S.2.1 S.2.2.2.1 11 7 rfl rfl hi hdg (fun H1 locs1 hP hD hS => kk _ H1 locs1 rfl ⟨hP, hD, S.2.2.1, hS, S.2.2.2.2.1, S.2.2.2.2.2⟩)
theorem qn_C_workings {p : Program} {l : Launch} {e : Env} {R : Room} {s : State} {m : MethodId} {args : Array Value} {below : List Frame} {meth : Method} {c : Code} {H : Heap} {locs : List Loc} {Q : State → Prop} {A : Nat → Prop} {x : QX} {cc : ByteArray} {nL : Nat} {ret : Option FieldType} {own : String} {pc : Nat} {ls : Array Slot} {rest : List Value} {dC : Nat → ClassId} {dI : Nat → Nat → Nat} {a : Nat → Nat} {k : Nat → ClassId} (C : qa_X p s m args meth c cc nL ret own) (S : qa_S (dC, dI) classes (qC_t k) (qC_w a k) A s x H locs) (hdg : decode cc pc = .ok (.arraylength, 1)) (kk : W p l e R s m args below meth c H locs 0 0 Q (F0 m (pc + 1) ls (.int 100 :: rest))) : W p l e R s m args below meth c H locs 0 0 Q (F0 m pc ls (.ref (a 11) :: rest)) :=
  va_alen (v := 100) (ty := .int) C.1 C.2.1 S.2.2.1 S.1 11 7 rfl rfl rfl hdg kk
theorem qe_C_omarks {p : Program} {l : Launch} {e : Env} {R : Room} {s : State} {m : MethodId} {args : Array Value} {below : List Frame} {meth : Method} {c : Code} {H : Heap} {locs : List Loc} {Q : State → Prop} {A : Nat → Prop} {x : QX} {cc : ByteArray} {nL : Nat} {ret : Option FieldType} {own : String} {pc : Nat} {ls : Array Slot} {rest : List Value} {dC : Nat → ClassId} {dI : Nat → Nat → Nat} {a : Nat → Nat} {k : Nat → ClassId} (C : qa_X p s m args meth c cc nL ret own) (S : qa_S (dC, dI) classes (qC_t k) (qC_w a k) A s x H locs) {i : Int32} (hi : vp_in i 300) (hdg : decode cc pc = .ok (.iaload, 1)) (kk : W p l e R s m args below meth c H locs 0 0 Q (F0 m (pc + 1) ls (.int (gA x 6 i.toNatClampNeg) :: rest))) : W p l e R s m args below meth c H locs 0 0 Q (F0 m pc ls (.int i :: .ref (a 12) :: rest)) :=
  va_iald (f := gA x 6) C.1 C.2.1 S.2.2.1 S.1 12 8 rfl rfl hi hdg kk
theorem qt_C_omarks {p : Program} {l : Launch} {e : Env} {R : Room} {s : State} {m : MethodId} {args : Array Value} {below : List Frame} {meth : Method} {c : Code} {H : Heap} {locs : List Loc} {Q : State → Prop} {A : Nat → Prop} {x : QX} {cc : ByteArray} {nL : Nat} {ret : Option FieldType} {own : String} {pc : Nat} {ls : Array Slot} {rest : List Value} {dC : Nat → ClassId} {dI : Nat → Nat → Nat} {a : Nat → Nat} {k : Nat → ClassId} (C : qa_X p s m args meth c cc nL ret own) (S : qa_S (dC, dI) classes (qC_t k) (qC_w a k) A s x H locs) {i : Int32} {v : Int32} (hi : vp_in i 300) (hdg : decode cc pc = .ok (.iastore, 1)) (kk : ∀ (x1 : QX) (H1 : Heap) (locs1 : List Loc), x1 = sA x 6 (upd (gA x 6) i.toNatClampNeg v) → qa_S (dC, dI) classes (qC_t k) (qC_w a k) A s x1 H1 locs1 → W p l e R s m args below meth c H1 locs1 0 0 Q (F0 m (pc + 1) ls rest)) : W p l e R s m args below meth c H locs 0 0 Q (F0 m pc ls (.int v :: .int i :: .ref (a 12) :: rest)) :=
  va_iast (f := gA x 6) C.1 C.2.1 S.2.2.1 S.1 S.2.1 S.2.2.2.1 12 8 rfl rfl hi hdg (fun H1 locs1 hP hD hS => kk _ H1 locs1 rfl ⟨hP, hD, S.2.2.1, hS, S.2.2.2.2.1, S.2.2.2.2.2⟩)
theorem qn_C_omarks {p : Program} {l : Launch} {e : Env} {R : Room} {s : State} {m : MethodId} {args : Array Value} {below : List Frame} {meth : Method} {c : Code} {H : Heap} {locs : List Loc} {Q : State → Prop} {A : Nat → Prop} {x : QX} {cc : ByteArray} {nL : Nat} {ret : Option FieldType} {own : String} {pc : Nat} {ls : Array Slot} {rest : List Value} {dC : Nat → ClassId} {dI : Nat → Nat → Nat} {a : Nat → Nat} {k : Nat → ClassId} (C : qa_X p s m args meth c cc nL ret own) (S : qa_S (dC, dI) classes (qC_t k) (qC_w a k) A s x H locs) (hdg : decode cc pc = .ok (.arraylength, 1)) (kk : W p l e R s m args below meth c H locs 0 0 Q (F0 m (pc + 1) ls (.int 300 :: rest))) : W p l e R s m args below meth c H locs 0 0 Q (F0 m pc ls (.ref (a 12) :: rest)) :=
  va_alen (v := 300) (ty := .int) C.1 C.2.1 S.2.2.1 S.1 12 8 rfl rfl rfl hdg kk
theorem qe_C_dmarks {p : Program} {l : Launch} {e : Env} {R : Room} {s : State} {m : MethodId} {args : Array Value} {below : List Frame} {meth : Method} {c : Code} {H : Heap} {locs : List Loc} {Q : State → Prop} {A : Nat → Prop} {x : QX} {cc : ByteArray} {nL : Nat} {ret : Option FieldType} {own : String} {pc : Nat} {ls : Array Slot} {rest : List Value} {dC : Nat → ClassId} {dI : Nat → Nat → Nat} {a : Nat → Nat} {k : Nat → ClassId} (C : qa_X p s m args meth c cc nL ret own) (S : qa_S (dC, dI) classes (qC_t k) (qC_w a k) A s x H locs) {i : Int32} (hi : vp_in i 3) (hdg : decode cc pc = .ok (.iaload, 1)) (kk : W p l e R s m args below meth c H locs 0 0 Q (F0 m (pc + 1) ls (.int (gA x 7 i.toNatClampNeg) :: rest))) : W p l e R s m args below meth c H locs 0 0 Q (F0 m pc ls (.int i :: .ref (a 13) :: rest)) :=
  va_iald (f := gA x 7) C.1 C.2.1 S.2.2.1 S.1 13 9 rfl rfl hi hdg kk
theorem qt_C_dmarks {p : Program} {l : Launch} {e : Env} {R : Room} {s : State} {m : MethodId} {args : Array Value} {below : List Frame} {meth : Method} {c : Code} {H : Heap} {locs : List Loc} {Q : State → Prop} {A : Nat → Prop} {x : QX} {cc : ByteArray} {nL : Nat} {ret : Option FieldType} {own : String} {pc : Nat} {ls : Array Slot} {rest : List Value} {dC : Nat → ClassId} {dI : Nat → Nat → Nat} {a : Nat → Nat} {k : Nat → ClassId} (C : qa_X p s m args meth c cc nL ret own) (S : qa_S (dC, dI) classes (qC_t k) (qC_w a k) A s x H locs) {i : Int32} {v : Int32} (hi : vp_in i 3) (hdg : decode cc pc = .ok (.iastore, 1)) (kk : ∀ (x1 : QX) (H1 : Heap) (locs1 : List Loc), x1 = sA x 7 (upd (gA x 7) i.toNatClampNeg v) → qa_S (dC, dI) classes (qC_t k) (qC_w a k) A s x1 H1 locs1 → W p l e R s m args below meth c H1 locs1 0 0 Q (F0 m (pc + 1) ls rest)) : W p l e R s m args below meth c H locs 0 0 Q (F0 m pc ls (.int v :: .int i :: .ref (a 13) :: rest)) :=
  va_iast (f := gA x 7) C.1 C.2.1 S.2.2.1 S.1 S.2.1 S.2.2.2.1 13 9 rfl rfl hi hdg (fun H1 locs1 hP hD hS => kk _ H1 locs1 rfl ⟨hP, hD, S.2.2.1, hS, S.2.2.2.2.1, S.2.2.2.2.2⟩)
theorem qn_C_dmarks {p : Program} {l : Launch} {e : Env} {R : Room} {s : State} {m : MethodId} {args : Array Value} {below : List Frame} {meth : Method} {c : Code} {H : Heap} {locs : List Loc} {Q : State → Prop} {A : Nat → Prop} {x : QX} {cc : ByteArray} {nL : Nat} {ret : Option FieldType} {own : String} {pc : Nat} {ls : Array Slot} {rest : List Value} {dC : Nat → ClassId} {dI : Nat → Nat → Nat} {a : Nat → Nat} {k : Nat → ClassId} (C : qa_X p s m args meth c cc nL ret own) (S : qa_S (dC, dI) classes (qC_t k) (qC_w a k) A s x H locs) (hdg : decode cc pc = .ok (.arraylength, 1)) (kk : W p l e R s m args below meth c H locs 0 0 Q (F0 m (pc + 1) ls (.int 3 :: rest))) : W p l e R s m args below meth c H locs 0 0 Q (F0 m pc ls (.ref (a 13) :: rest)) :=
  va_alen (v := 3) (ty := .int) C.1 C.2.1 S.2.2.1 S.1 13 9 rfl rfl rfl hdg kk
theorem qe_C_replacements {p : Program} {l : Launch} {e : Env} {R : Room} {s : State} {m : MethodId} {args : Array Value} {below : List Frame} {meth : Method} {c : Code} {H : Heap} {locs : List Loc} {Q : State → Prop} {A : Nat → Prop} {x : QX} {cc : ByteArray} {nL : Nat} {ret : Option FieldType} {own : String} {pc : Nat} {ls : Array Slot} {rest : List Value} {dC : Nat → ClassId} {dI : Nat → Nat → Nat} {a : Nat → Nat} {k : Nat → ClassId} (C : qa_X p s m args meth c cc nL ret own) (S : qa_S (dC, dI) classes (qC_t k) (qC_w a k) A s x H locs) {i : Int32} (hi : vp_in i 60) (hdg : decode cc pc = .ok (.iaload, 1)) (kk : W p l e R s m args below meth c H locs 0 0 Q (F0 m (pc + 1) ls (.int (gA x 8 i.toNatClampNeg) :: rest))) : W p l e R s m args below meth c H locs 0 0 Q (F0 m pc ls (.int i :: .ref (a 14) :: rest)) :=
  va_iald (f := gA x 8) C.1 C.2.1 S.2.2.1 S.1 14 10 rfl rfl hi hdg kk
theorem qt_C_replacements {p : Program} {l : Launch} {e : Env} {R : Room} {s : State} {m : MethodId} {args : Array Value} {below : List Frame} {meth : Method} {c : Code} {H : Heap} {locs : List Loc} {Q : State → Prop} {A : Nat → Prop} {x : QX} {cc : ByteArray} {nL : Nat} {ret : Option FieldType} {own : String} {pc : Nat} {ls : Array Slot} {rest : List Value} {dC : Nat → ClassId} {dI : Nat → Nat → Nat} {a : Nat → Nat} {k : Nat → ClassId} (C : qa_X p s m args meth c cc nL ret own) (S : qa_S (dC, dI) classes (qC_t k) (qC_w a k) A s x H locs) {i : Int32} {v : Int32} (hi : vp_in i 60) (hdg : decode cc pc = .ok (.iastore, 1)) (kk : ∀ (x1 : QX) (H1 : Heap) (locs1 : List Loc), x1 = sA x 8 (upd (gA x 8) i.toNatClampNeg v) → qa_S (dC, dI) classes (qC_t k) (qC_w a k) A s x1 H1 locs1 → W p l e R s m args below meth c H1 locs1 0 0 Q (F0 m (pc + 1) ls rest)) : W p l e R s m args below meth c H locs 0 0 Q (F0 m pc ls (.int v :: .int i :: .ref (a 14) :: rest)) :=
  va_iast (f := gA x 8) C.1 C.2.1 S.2.2.1 S.1 S.2.1 S.2.2.2.1 14 10 rfl rfl hi hdg (fun H1 locs1 hP hD hS => kk _ H1 locs1 rfl ⟨hP, hD, S.2.2.1, hS, S.2.2.2.2.1, S.2.2.2.2.2⟩)
theorem qn_C_replacements {p : Program} {l : Launch} {e : Env} {R : Room} {s : State} {m : MethodId} {args : Array Value} {below : List Frame} {meth : Method} {c : Code} {H : Heap} {locs : List Loc} {Q : State → Prop} {A : Nat → Prop} {x : QX} {cc : ByteArray} {nL : Nat} {ret : Option FieldType} {own : String} {pc : Nat} {ls : Array Slot} {rest : List Value} {dC : Nat → ClassId} {dI : Nat → Nat → Nat} {a : Nat → Nat} {k : Nat → ClassId} (C : qa_X p s m args meth c cc nL ret own) (S : qa_S (dC, dI) classes (qC_t k) (qC_w a k) A s x H locs) (hdg : decode cc pc = .ok (.arraylength, 1)) (kk : W p l e R s m args below meth c H locs 0 0 Q (F0 m (pc + 1) ls (.int 60 :: rest))) : W p l e R s m args below meth c H locs 0 0 Q (F0 m pc ls (.ref (a 14) :: rest)) :=
  va_alen (v := 60) (ty := .int) C.1 C.2.1 S.2.2.1 S.1 14 10 rfl rfl rfl hdg kk
theorem qy_C_counts_counts {p : Program} {l : Launch} {e : Env} {R : Room} {s : State} {m : MethodId} {args : Array Value} {below : List Frame} {meth : Method} {c : Code} {H : Heap} {locs : List Loc} {Q : State → Prop} {A : Nat → Prop} {x : QX} {cc : ByteArray} {nL : Nat} {ret : Option FieldType} {own : String} {pc : Nat} {ls : Array Slot} {rest : List Value} {dC : Nat → ClassId} {dI : Nat → Nat → Nat} {a : Nat → Nat} {k : Nat → ClassId} (C : qa_X p s m args meth c cc nL ret own) (S : qa_S (dC, dI) classes (qC_t k) (qC_w a k) A s x H locs) {index : Nat} (hw : Cond.methodLink own index arraycopyName ∈ qa_WG) (hls : ls.size = nL) {sp dp n : Int32} (h1 : ¬ sp < 0) (h2 : ¬ dp < 0) (h3 : ¬ n < 0) (h4 : sp.toNatClampNeg + n.toNatClampNeg ≤ 1920) (h5 : dp.toNatClampNeg + n.toNatClampNeg ≤ 1920) (hR1 : 1 ≤ R.frames) (hR2 : (rest.map fun v => v.category).sum + (nativeFrameWords "java/lang/System" "arraycopy" 5 + 11) ≤ R.locals) (hdg : decode cc pc = .ok (.invokestatic index, 3)) (kk : ∀ (x1 : QX) (H1 : Heap) (locs1 : List Loc), x1 = sB x 0 (va_cpy (gB x 0) (gB x 0) sp.toNatClampNeg dp.toNatClampNeg n.toNatClampNeg) → qa_S (dC, dI) classes (qC_t k) (qC_w a k) A s x1 H1 locs1 → W p l e R s m args below meth c H1 locs1 0 0 Q (F0 m (pc + 3) ls rest)) : W p l e R s m args below meth c H locs 0 0 Q (F0 m pc ls (.int n :: .int dp :: .ref (a 7) :: .int sp :: .ref (a 7) :: rest)) :=
  va_copyl (ty := .long) C.1 C.2.1 (by rw [C.2.2.1, hls]) C.2.2.2.2.2.1 (C.2.2.2.2.1 _ hw) (C.2.2.2.2.1 _ qh_ac_native) (C.2.2.2.2.1 _ qh_ac_static) (C.2.2.2.2.1 _ qh_ac_init) S.2.2.1 S.1 S.2.1 S.2.2.2.1 7 7 3 3 rfl rfl rfl rfl rfl h1 h2 h3 h4 h5 (fun _ _ => rfl) hR1 hR2 hdg (fun H1 locs1 hP hD hS => kk _ H1 locs1 rfl ⟨hP, hD, S.2.2.1, hS, S.2.2.2.2.1, S.2.2.2.2.2⟩)
theorem qy_C_dmarks_omarks {p : Program} {l : Launch} {e : Env} {R : Room} {s : State} {m : MethodId} {args : Array Value} {below : List Frame} {meth : Method} {c : Code} {H : Heap} {locs : List Loc} {Q : State → Prop} {A : Nat → Prop} {x : QX} {cc : ByteArray} {nL : Nat} {ret : Option FieldType} {own : String} {pc : Nat} {ls : Array Slot} {rest : List Value} {dC : Nat → ClassId} {dI : Nat → Nat → Nat} {a : Nat → Nat} {k : Nat → ClassId} (C : qa_X p s m args meth c cc nL ret own) (S : qa_S (dC, dI) classes (qC_t k) (qC_w a k) A s x H locs) {index : Nat} (hw : Cond.methodLink own index arraycopyName ∈ qa_WG) (hls : ls.size = nL) {sp dp n : Int32} (h1 : ¬ sp < 0) (h2 : ¬ dp < 0) (h3 : ¬ n < 0) (h4 : sp.toNatClampNeg + n.toNatClampNeg ≤ 3) (h5 : dp.toNatClampNeg + n.toNatClampNeg ≤ 300) (hR1 : 1 ≤ R.frames) (hR2 : (rest.map fun v => v.category).sum + (nativeFrameWords "java/lang/System" "arraycopy" 5 + 11) ≤ R.locals) (hdg : decode cc pc = .ok (.invokestatic index, 3)) (kk : ∀ (x1 : QX) (H1 : Heap) (locs1 : List Loc), x1 = sA x 6 (va_cpy (gA x 7) (gA x 6) sp.toNatClampNeg dp.toNatClampNeg n.toNatClampNeg) → qa_S (dC, dI) classes (qC_t k) (qC_w a k) A s x1 H1 locs1 → W p l e R s m args below meth c H1 locs1 0 0 Q (F0 m (pc + 3) ls rest)) : W p l e R s m args below meth c H locs 0 0 Q (F0 m pc ls (.int n :: .int dp :: .ref (a 12) :: .int sp :: .ref (a 13) :: rest)) :=
  va_copyi (ty := .int) C.1 C.2.1 (by rw [C.2.2.1, hls]) C.2.2.2.2.2.1 (C.2.2.2.2.1 _ hw) (C.2.2.2.2.1 _ qh_ac_native) (C.2.2.2.2.1 _ qh_ac_static) (C.2.2.2.2.1 _ qh_ac_init) S.2.2.1 S.1 S.2.1 S.2.2.2.1 13 12 9 8 rfl rfl rfl rfl rfl h1 h2 h3 h4 h5 (fun _ _ => rfl) hR1 hR2 hdg (fun H1 locs1 hP hD hS => kk _ H1 locs1 rfl ⟨hP, hD, S.2.2.1, hS, S.2.2.2.2.1, S.2.2.2.2.2⟩)
end
