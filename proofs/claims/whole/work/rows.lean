section
-- ===== PART A: goes FIRST, ahead of the names: the tables' words, and 'selects' of the private methods out of them =====
/-- a private method of a class that the tables say can be made, by its rows of tables_1 -/
def lw_okq (q : MethodName × Nat) : Prop := (q.1.cls ≠ "java/lang/invoke/MethodHandle" ∧ q.1.cls ≠ "java/lang/invoke/VarHandle") ∧ Cond.instantiable q.1.cls q.2 ∈ tables_1 ∧ Cond.privateMethod q.1 ∈ tables_1 ∧ Cond.instanceMethod q.1 ∈ tables_1
theorem lw_p0 : lw_okq (⟨"ChangeStore", "openDraft", "()V"⟩, 6) := ⟨⟨by decide +kernel, by decide +kernel⟩, List.mem_of_getElem? (i := 9) (by decide +kernel), List.mem_of_getElem? (i := 124) (by decide +kernel), List.mem_of_getElem? (i := 125) (by decide +kernel)⟩
theorem lw_p1 : lw_okq (⟨"ChangeStore$Draft", "start", "()V"⟩, 6) := ⟨⟨by decide +kernel, by decide +kernel⟩, List.mem_of_getElem? (i := 70) (by decide +kernel), List.mem_of_getElem? (i := 132) (by decide +kernel), List.mem_of_getElem? (i := 133) (by decide +kernel)⟩
theorem lw_p2 : lw_okq (⟨"ChangeStore", "hasRoomForCommit", "()Z"⟩, 6) := ⟨⟨by decide +kernel, by decide +kernel⟩, List.mem_of_getElem? (i := 9) (by decide +kernel), List.mem_of_getElem? (i := 165) (by decide +kernel), List.mem_of_getElem? (i := 166) (by decide +kernel)⟩
theorem lw_p3 : lw_okq (⟨"ChangeStore", "keepDraft", "(II)I"⟩, 6) := ⟨⟨by decide +kernel, by decide +kernel⟩, List.mem_of_getElem? (i := 9) (by decide +kernel), List.mem_of_getElem? (i := 205) (by decide +kernel), List.mem_of_getElem? (i := 206) (by decide +kernel)⟩
theorem lw_p4 : lw_okq (⟨"ChangeStore$Draft", "lowestOrphan", "()I"⟩, 6) := ⟨⟨by decide +kernel, by decide +kernel⟩, List.mem_of_getElem? (i := 70) (by decide +kernel), List.mem_of_getElem? (i := 213) (by decide +kernel), List.mem_of_getElem? (i := 214) (by decide +kernel)⟩
theorem lw_p5 : lw_okq (⟨"ChangeStore$Draft", "placeOf", "(IJ)I"⟩, 6) := ⟨⟨by decide +kernel, by decide +kernel⟩, List.mem_of_getElem? (i := 70) (by decide +kernel), List.mem_of_getElem? (i := 231) (by decide +kernel), List.mem_of_getElem? (i := 232) (by decide +kernel)⟩
theorem lw_p6 : lw_okq (⟨"ChangeStore$Draft", "nextTowardsPlace", "(IJ)I"⟩, 6) := ⟨⟨by decide +kernel, by decide +kernel⟩, List.mem_of_getElem? (i := 70) (by decide +kernel), List.mem_of_getElem? (i := 235) (by decide +kernel), List.mem_of_getElem? (i := 236) (by decide +kernel)⟩
theorem lw_p7 : lw_okq (⟨"ChangeStore$Commits", "addDifference", "(IIII)V"⟩, 5) := ⟨⟨by decide +kernel, by decide +kernel⟩, List.mem_of_getElem? (i := 17) (by decide +kernel), List.mem_of_getElem? (i := 253) (by decide +kernel), List.mem_of_getElem? (i := 254) (by decide +kernel)⟩
theorem lw_p8 : lw_okq (⟨"ChangeStore", "isReplaceable", "(I)Z"⟩, 6) := ⟨⟨by decide +kernel, by decide +kernel⟩, List.mem_of_getElem? (i := 9) (by decide +kernel), List.mem_of_getElem? (i := 309) (by decide +kernel), List.mem_of_getElem? (i := 310) (by decide +kernel)⟩
theorem lw_p9 : lw_okq (⟨"ChangeStore", "hasLineOne", "()Z"⟩, 6) := ⟨⟨by decide +kernel, by decide +kernel⟩, List.mem_of_getElem? (i := 9) (by decide +kernel), List.mem_of_getElem? (i := 354) (by decide +kernel), List.mem_of_getElem? (i := 355) (by decide +kernel)⟩
theorem lw_p10 : lw_okq (⟨"ChangeStoreModel", "here", "()I"⟩, 23) := ⟨⟨by decide +kernel, by decide +kernel⟩, List.mem_of_getElem? (i := 414) (by decide +kernel), List.mem_of_getElem? (i := 495) (by decide +kernel), List.mem_of_getElem? (i := 496) (by decide +kernel)⟩
theorem lw_p11 : lw_okq (⟨"ChangeStoreModel", "isVisible", "(II)Z"⟩, 23) := ⟨⟨by decide +kernel, by decide +kernel⟩, List.mem_of_getElem? (i := 414) (by decide +kernel), List.mem_of_getElem? (i := 499) (by decide +kernel), List.mem_of_getElem? (i := 500) (by decide +kernel)⟩
theorem lw_p12 : lw_okq (⟨"ChangeStoreModel", "begin", "(I)V"⟩, 23) := ⟨⟨by decide +kernel, by decide +kernel⟩, List.mem_of_getElem? (i := 414) (by decide +kernel), List.mem_of_getElem? (i := 503) (by decide +kernel), List.mem_of_getElem? (i := 504) (by decide +kernel)⟩
theorem lw_p13 : lw_okq (⟨"ChangeStoreModel", "fresh", "(II)I"⟩, 23) := ⟨⟨by decide +kernel, by decide +kernel⟩, List.mem_of_getElem? (i := 414) (by decide +kernel), List.mem_of_getElem? (i := 507) (by decide +kernel), List.mem_of_getElem? (i := 508) (by decide +kernel)⟩
theorem lw_p14 : lw_okq (⟨"ChangeStoreModel", "copyContents", "(II)V"⟩, 23) := ⟨⟨by decide +kernel, by decide +kernel⟩, List.mem_of_getElem? (i := 414) (by decide +kernel), List.mem_of_getElem? (i := 511) (by decide +kernel), List.mem_of_getElem? (i := 512) (by decide +kernel)⟩
theorem lw_p15 : lw_okq (⟨"ChangeStoreModel", "done", "()I"⟩, 23) := ⟨⟨by decide +kernel, by decide +kernel⟩, List.mem_of_getElem? (i := 414) (by decide +kernel), List.mem_of_getElem? (i := 515) (by decide +kernel), List.mem_of_getElem? (i := 516) (by decide +kernel)⟩
def lw_privs_1 : List (MethodName × Nat) := [(⟨"ChangeStore", "openDraft", "()V"⟩, 6), (⟨"ChangeStore$Draft", "start", "()V"⟩, 6), (⟨"ChangeStore", "hasRoomForCommit", "()Z"⟩, 6), (⟨"ChangeStore", "keepDraft", "(II)I"⟩, 6), (⟨"ChangeStore$Draft", "lowestOrphan", "()I"⟩, 6), (⟨"ChangeStore$Draft", "placeOf", "(IJ)I"⟩, 6), (⟨"ChangeStore$Draft", "nextTowardsPlace", "(IJ)I"⟩, 6), (⟨"ChangeStore$Commits", "addDifference", "(IIII)V"⟩, 5), (⟨"ChangeStore", "isReplaceable", "(I)Z"⟩, 6), (⟨"ChangeStore", "hasLineOne", "()Z"⟩, 6), (⟨"ChangeStoreModel", "here", "()I"⟩, 23), (⟨"ChangeStoreModel", "isVisible", "(II)Z"⟩, 23), (⟨"ChangeStoreModel", "begin", "(I)V"⟩, 23), (⟨"ChangeStoreModel", "fresh", "(II)I"⟩, 23), (⟨"ChangeStoreModel", "copyContents", "(II)V"⟩, 23), (⟨"ChangeStoreModel", "done", "()I"⟩, 23)]
theorem lw_r1 : ∀ q ∈ lw_privs_1, lw_okq q := List.forall_mem_cons.mpr ⟨lw_p0, List.forall_mem_cons.mpr ⟨lw_p1, List.forall_mem_cons.mpr ⟨lw_p2, List.forall_mem_cons.mpr ⟨lw_p3, List.forall_mem_cons.mpr ⟨lw_p4, List.forall_mem_cons.mpr ⟨lw_p5, List.forall_mem_cons.mpr ⟨lw_p6, List.forall_mem_cons.mpr ⟨lw_p7, List.forall_mem_cons.mpr ⟨lw_p8, List.forall_mem_cons.mpr ⟨lw_p9, List.forall_mem_cons.mpr ⟨lw_p10, List.forall_mem_cons.mpr ⟨lw_p11, List.forall_mem_cons.mpr ⟨lw_p12, List.forall_mem_cons.mpr ⟨lw_p13, List.forall_mem_cons.mpr ⟨lw_p14, List.forall_mem_cons.mpr ⟨lw_p15, fun _ h => absurd h List.not_mem_nil⟩⟩⟩⟩⟩⟩⟩⟩⟩⟩⟩⟩⟩⟩⟩⟩
theorem lw_p16 : lw_okq (⟨"ChangeStoreModel", "finish", "(II)I"⟩, 23) := ⟨⟨by decide +kernel, by decide +kernel⟩, List.mem_of_getElem? (i := 414) (by decide +kernel), List.mem_of_getElem? (i := 519) (by decide +kernel), List.mem_of_getElem? (i := 520) (by decide +kernel)⟩
theorem lw_p17 : lw_okq (⟨"ChangeStoreModel", "plain", "(III)Z"⟩, 23) := ⟨⟨by decide +kernel, by decide +kernel⟩, List.mem_of_getElem? (i := 414) (by decide +kernel), List.mem_of_getElem? (i := 527) (by decide +kernel), List.mem_of_getElem? (i := 528) (by decide +kernel)⟩
theorem lw_p18 : lw_okq (⟨"ChangeStoreModel", "setPlain", "(III)V"⟩, 23) := ⟨⟨by decide +kernel, by decide +kernel⟩, List.mem_of_getElem? (i := 414) (by decide +kernel), List.mem_of_getElem? (i := 531) (by decide +kernel), List.mem_of_getElem? (i := 532) (by decide +kernel)⟩
theorem lw_p19 : lw_okq (⟨"ChangeStoreModel", "replace", "(II)V"⟩, 23) := ⟨⟨by decide +kernel, by decide +kernel⟩, List.mem_of_getElem? (i := 414) (by decide +kernel), List.mem_of_getElem? (i := 535) (by decide +kernel), List.mem_of_getElem? (i := 536) (by decide +kernel)⟩
theorem lw_p20 : lw_okq (⟨"ChangeStoreModel", "settle", "()V"⟩, 23) := ⟨⟨by decide +kernel, by decide +kernel⟩, List.mem_of_getElem? (i := 414) (by decide +kernel), List.mem_of_getElem? (i := 539) (by decide +kernel), List.mem_of_getElem? (i := 540) (by decide +kernel)⟩
theorem lw_p21 : lw_okq (⟨"ChangeStoreModel", "loose", "()I"⟩, 23) := ⟨⟨by decide +kernel, by decide +kernel⟩, List.mem_of_getElem? (i := 414) (by decide +kernel), List.mem_of_getElem? (i := 543) (by decide +kernel), List.mem_of_getElem? (i := 544) (by decide +kernel)⟩
theorem lw_p22 : lw_okq (⟨"ChangeStoreModel", "place", "(II)I"⟩, 23) := ⟨⟨by decide +kernel, by decide +kernel⟩, List.mem_of_getElem? (i := 414) (by decide +kernel), List.mem_of_getElem? (i := 547) (by decide +kernel), List.mem_of_getElem? (i := 548) (by decide +kernel)⟩
theorem lw_p23 : lw_okq (⟨"ChangeStoreModel", "sameChange", "(II)I"⟩, 23) := ⟨⟨by decide +kernel, by decide +kernel⟩, List.mem_of_getElem? (i := 414) (by decide +kernel), List.mem_of_getElem? (i := 551) (by decide +kernel), List.mem_of_getElem? (i := 552) (by decide +kernel)⟩
theorem lw_p24 : lw_okq (⟨"ChangeStoreModel", "comesOf", "(II)Z"⟩, 23) := ⟨⟨by decide +kernel, by decide +kernel⟩, List.mem_of_getElem? (i := 414) (by decide +kernel), List.mem_of_getElem? (i := 555) (by decide +kernel), List.mem_of_getElem? (i := 556) (by decide +kernel)⟩
theorem lw_p25 : lw_okq (⟨"ChangeStoreModel", "mix", "(IIII)V"⟩, 23) := ⟨⟨by decide +kernel, by decide +kernel⟩, List.mem_of_getElem? (i := 414) (by decide +kernel), List.mem_of_getElem? (i := 559) (by decide +kernel), List.mem_of_getElem? (i := 560) (by decide +kernel)⟩
theorem lw_p26 : lw_okq (⟨"ChangeStoreModel", "there", "(I)Z"⟩, 23) := ⟨⟨by decide +kernel, by decide +kernel⟩, List.mem_of_getElem? (i := 414) (by decide +kernel), List.mem_of_getElem? (i := 614) (by decide +kernel), List.mem_of_getElem? (i := 615) (by decide +kernel)⟩
theorem lw_p27 : lw_okq (⟨"ChangeStoreModel", "isHead", "(II)Z"⟩, 23) := ⟨⟨by decide +kernel, by decide +kernel⟩, List.mem_of_getElem? (i := 414) (by decide +kernel), List.mem_of_getElem? (i := 634) (by decide +kernel), List.mem_of_getElem? (i := 635) (by decide +kernel)⟩
def lw_privs_2 : List (MethodName × Nat) := [(⟨"ChangeStoreModel", "finish", "(II)I"⟩, 23), (⟨"ChangeStoreModel", "plain", "(III)Z"⟩, 23), (⟨"ChangeStoreModel", "setPlain", "(III)V"⟩, 23), (⟨"ChangeStoreModel", "replace", "(II)V"⟩, 23), (⟨"ChangeStoreModel", "settle", "()V"⟩, 23), (⟨"ChangeStoreModel", "loose", "()I"⟩, 23), (⟨"ChangeStoreModel", "place", "(II)I"⟩, 23), (⟨"ChangeStoreModel", "sameChange", "(II)I"⟩, 23), (⟨"ChangeStoreModel", "comesOf", "(II)Z"⟩, 23), (⟨"ChangeStoreModel", "mix", "(IIII)V"⟩, 23), (⟨"ChangeStoreModel", "there", "(I)Z"⟩, 23), (⟨"ChangeStoreModel", "isHead", "(II)Z"⟩, 23)]
theorem lw_r2 : ∀ q ∈ lw_privs_2, lw_okq q := List.forall_mem_cons.mpr ⟨lw_p16, List.forall_mem_cons.mpr ⟨lw_p17, List.forall_mem_cons.mpr ⟨lw_p18, List.forall_mem_cons.mpr ⟨lw_p19, List.forall_mem_cons.mpr ⟨lw_p20, List.forall_mem_cons.mpr ⟨lw_p21, List.forall_mem_cons.mpr ⟨lw_p22, List.forall_mem_cons.mpr ⟨lw_p23, List.forall_mem_cons.mpr ⟨lw_p24, List.forall_mem_cons.mpr ⟨lw_p25, List.forall_mem_cons.mpr ⟨lw_p26, List.forall_mem_cons.mpr ⟨lw_p27, fun _ h => absurd h List.not_mem_nil⟩⟩⟩⟩⟩⟩⟩⟩⟩⟩⟩⟩
def lw_privs : List (MethodName × Nat) := lw_privs_1 ++ (lw_privs_2)
def lw_tbl : List Cond := k2_sels lw_privs ++ tables_1
theorem lw_privs_ok : ∀ q ∈ lw_privs, lw_okq q := by
  show ∀ q ∈ lw_privs_1 ++ (lw_privs_2), lw_okq q
  exact List.forall_mem_append.mpr ⟨lw_r1, lw_r2⟩
end
section
def R_S : String := "ChangeStore"
def R_C : String := "ChangeStore$Commits"
def R_O : String := "ChangeStore$Operations"
def R_D : String := "ChangeStore$Draft"
def R_M : String := "ChangeStoreModel"
def R_A : String := "java/util/Arrays"
def F_S : u_T := fun k => match k with
  | 0 => ("ChangeStore", "commits", "LChangeStore$Commits;", true)
  | 1 => ("ChangeStore", "operations", "LChangeStore$Operations;", true)
  | 2 => ("ChangeStore", "draft", "LChangeStore$Draft;", true)
  | 3 => ("ChangeStore", "currents", "[I", true)
  | 4 => ("ChangeStore", "chosen", "I", false)
  | _ => ("ChangeStore", "lineOneBegan", "I", false)
def t_S : Nat → FieldType := fun k => match k with
  | 0 => .object "ChangeStore$Commits"
  | 1 => .object "ChangeStore$Operations"
  | 2 => .object "ChangeStore$Draft"
  | 3 => .array .int
  | 4 => .int
  | _ => .int
theorem n_S : ∀ a, a < 6 → ∀ b, b < 6 → a ≠ b → (F_S a).2.1 ≠ (F_S b).2.1 := by decide +kernel
theorem t_S_ok : ∀ k, k < 6 → parseFieldDescriptor (F_S k).2.2.1 = some (t_S k) := by decide +kernel
def F_C : u_T := fun k => match k with
  | 0 => ("ChangeStore$Commits", "parents", "[I", true)
  | 1 => ("ChangeStore$Commits", "changes", "[I", true)
  | 2 => ("ChangeStore$Commits", "counts", "[J", true)
  | 3 => ("ChangeStore$Commits", "size", "I", false)
  | _ => ("ChangeStore$Commits", "lastChange", "I", false)
def t_C : Nat → FieldType := fun k => match k with
  | 0 => .array .int
  | 1 => .array .int
  | 2 => .array .long
  | 3 => .int
  | _ => .int
theorem n_C : ∀ a, a < 5 → ∀ b, b < 5 → a ≠ b → (F_C a).2.1 ≠ (F_C b).2.1 := by decide +kernel
theorem t_C_ok : ∀ k, k < 5 → parseFieldDescriptor (F_C k).2.2.1 = some (t_C k) := by decide +kernel
def F_O : u_T := fun k => match k with
  | 0 => ("ChangeStore$Operations", "firsts", "[I", true)
  | 1 => ("ChangeStore$Operations", "seconds", "[I", true)
  | 2 => ("ChangeStore$Operations", "shown", "[J", true)
  | 3 => ("ChangeStore$Operations", "workings", "[I", true)
  | 4 => ("ChangeStore$Operations", "marks", "[I", true)
  | _ => ("ChangeStore$Operations", "size", "I", false)
def t_O : Nat → FieldType := fun k => match k with
  | 0 => .array .int
  | 1 => .array .int
  | 2 => .array .long
  | 3 => .array .int
  | 4 => .array .int
  | _ => .int
theorem n_O : ∀ a, a < 6 → ∀ b, b < 6 → a ≠ b → (F_O a).2.1 ≠ (F_O b).2.1 := by decide +kernel
theorem t_O_ok : ∀ k, k < 6 → parseFieldDescriptor (F_O k).2.2.1 = some (t_O k) := by decide +kernel
def F_D : u_T := fun k => match k with
  | 0 => ("ChangeStore$Draft", "commits", "LChangeStore$Commits;", true)
  | 1 => ("ChangeStore$Draft", "marks", "[I", true)
  | 2 => ("ChangeStore$Draft", "replacements", "[I", true)
  | 3 => ("ChangeStore$Draft", "shown", "J", false)
  | 4 => ("ChangeStore$Draft", "working", "I", false)
  | _ => ("ChangeStore$Draft", "commitsAtOpening", "I", false)
def t_D : Nat → FieldType := fun k => match k with
  | 0 => .object "ChangeStore$Commits"
  | 1 => .array .int
  | 2 => .array .int
  | 3 => .long
  | 4 => .int
  | _ => .int
theorem n_D : ∀ a, a < 6 → ∀ b, b < 6 → a ≠ b → (F_D a).2.1 ≠ (F_D b).2.1 := by decide +kernel
theorem t_D_ok : ∀ k, k < 6 → parseFieldDescriptor (F_D k).2.2.1 = some (t_D k) := by decide +kernel
def F_M : u_T := fun k => match k with
  | 0 => ("ChangeStoreModel", "commits", "I", false)
  | 1 => ("ChangeStoreModel", "changes", "I", false)
  | 2 => ("ChangeStoreModel", "change", "[I", false)
  | 3 => ("ChangeStoreModel", "parent", "[I", false)
  | 4 => ("ChangeStoreModel", "counts", "[J", false)
  | 5 => ("ChangeStoreModel", "operations", "I", false)
  | 6 => ("ChangeStoreModel", "first", "[I", false)
  | 7 => ("ChangeStoreModel", "second", "[I", false)
  | 8 => ("ChangeStoreModel", "joined", "[Z", false)
  | 9 => ("ChangeStoreModel", "seen", "[Z", false)
  | 10 => ("ChangeStoreModel", "marks", "[I", false)
  | 11 => ("ChangeStoreModel", "work", "[I", false)
  | 12 => ("ChangeStoreModel", "current", "[I", false)
  | 13 => ("ChangeStoreModel", "two", "Z", false)
  | 14 => ("ChangeStoreModel", "base", "I", false)
  | 15 => ("ChangeStoreModel", "chosen", "I", false)
  | 16 => ("ChangeStoreModel", "now", "[Z", false)
  | 17 => ("ChangeStoreModel", "nowMark", "[I", false)
  | 18 => ("ChangeStoreModel", "nowWork", "I", false)
  | 19 => ("ChangeStoreModel", "replaced", "[I", false)
  | 20 => ("ChangeStoreModel", "oldCommits", "I", false)
  | 21 => ("ChangeStoreModel", "oldChanges", "I", false)
  | _ => ("ChangeStoreModel", "full", "Z", false)
def t_M : Nat → FieldType := fun k => match k with
  | 0 => .int
  | 1 => .int
  | 2 => .array .int
  | 3 => .array .int
  | 4 => .array .long
  | 5 => .int
  | 6 => .array .int
  | 7 => .array .int
  | 8 => .array .boolean
  | 9 => .array .boolean
  | 10 => .array .int
  | 11 => .array .int
  | 12 => .array .int
  | 13 => .boolean
  | 14 => .int
  | 15 => .int
  | 16 => .array .boolean
  | 17 => .array .int
  | 18 => .int
  | 19 => .array .int
  | 20 => .int
  | 21 => .int
  | _ => .boolean
theorem n_M : ∀ a, a < 23 → ∀ b, b < 23 → a ≠ b → (F_M a).2.1 ≠ (F_M b).2.1 := by decide +kernel
theorem t_M_ok : ∀ k, k < 23 → parseFieldDescriptor (F_M k).2.2.1 = some (t_M k) := by decide +kernel
abbrev classes : List vw_C := [(R_S, F_S, 6), (R_C, F_C, 5), (R_O, F_O, 6), (R_D, F_D, 6), (R_M, F_M, 23)]
abbrev b_S_init : ByteArray := prog_1_method_1_code
def y_S_init : MethodName := ⟨R_S, "<init>", "()V"⟩
abbrev b_C_init : ByteArray := prog_2_method_1_code
def y_C_init : MethodName := ⟨R_C, "<init>", "()V"⟩
abbrev b_O_init : ByteArray := prog_4_method_1_code
def y_O_init : MethodName := ⟨R_O, "<init>", "()V"⟩
abbrev b_S_bit : ByteArray := prog_1_method_30_code
def y_S_bit : MethodName := ⟨R_S, "bit", "(I)J"⟩
abbrev b_D_init : ByteArray := prog_3_method_1_code
def y_D_init : MethodName := ⟨R_D, "<init>", "(LChangeStore$Commits;)V"⟩
abbrev b_S_create : ByteArray := prog_1_method_2_code
def y_S_create : MethodName := ⟨R_S, "create", "(I)I"⟩
abbrev b_S_openDraft : ByteArray := prog_1_method_25_code
def y_S_openDraft : MethodName := ⟨R_S, "openDraft", "()V"⟩
abbrev b_D_open : ByteArray := prog_3_method_2_code
def y_D_open : MethodName := ⟨R_D, "open", "(LChangeStore$Operations;I)V"⟩
abbrev b_D_start : ByteArray := prog_3_method_4_code
def y_D_start : MethodName := ⟨R_D, "start", "()V"⟩
abbrev b_A_fill : ByteArray := prog_8_method_103_code
def y_A_fill : MethodName := ⟨R_A, "fill", "([II)V"⟩
abbrev b_O_shownIn : ByteArray := prog_4_method_6_code
def y_O_shownIn : MethodName := ⟨R_O, "shownIn", "(I)J"⟩
abbrev b_O_has : ByteArray := prog_4_method_2_code
def y_O_has : MethodName := ⟨R_O, "has", "(I)Z"⟩
abbrev b_O_workingIn : ByteArray := prog_4_method_7_code
def y_O_workingIn : MethodName := ⟨R_O, "workingIn", "(I)I"⟩
abbrev b_O_markIn : ByteArray := prog_4_method_8_code
def y_O_markIn : MethodName := ⟨R_O, "markIn", "(II)I"⟩
abbrev b_S_isMark : ByteArray := prog_1_method_29_code
def y_S_isMark : MethodName := ⟨R_S, "isMark", "(I)Z"⟩
abbrev b_D_shows : ByteArray := prog_3_method_6_code
def y_D_shows : MethodName := ⟨R_D, "shows", "(I)Z"⟩
abbrev b_S_isIn : ByteArray := prog_1_method_31_code
def y_S_isIn : MethodName := ⟨R_S, "isIn", "(IJ)Z"⟩
abbrev b_S_hasRoomForCommit : ByteArray := prog_1_method_23_code
def y_S_hasRoomForCommit : MethodName := ⟨R_S, "hasRoomForCommit", "()Z"⟩
abbrev b_C_isFull : ByteArray := prog_2_method_3_code
def y_C_isFull : MethodName := ⟨R_C, "isFull", "()Z"⟩
abbrev b_O_isFull : ByteArray := prog_4_method_3_code
def y_O_isFull : MethodName := ⟨R_O, "isFull", "()Z"⟩
abbrev b_C_addNewChange : ByteArray := prog_2_method_11_code
def y_C_addNewChange : MethodName := ⟨R_C, "addNewChange", "(I)I"⟩
abbrev b_C_addCopy : ByteArray := prog_2_method_12_code
def y_C_addCopy : MethodName := ⟨R_C, "addCopy", "(III)I"⟩
abbrev b_C_has : ByteArray := prog_2_method_2_code
def y_C_has : MethodName := ⟨R_C, "has", "(I)Z"⟩
abbrev b_C_start : ByteArray := prog_2_method_17_code
def y_C_start : MethodName := ⟨R_C, "start", "(II)I"⟩
abbrev b_D_show : ByteArray := prog_3_method_7_code
def y_D_show : MethodName := ⟨R_D, "show", "(I)V"⟩
abbrev b_D_workOn : ByteArray := prog_3_method_8_code
def y_D_workOn : MethodName := ⟨R_D, "workOn", "(I)V"⟩
abbrev b_S_keepDraft : ByteArray := prog_1_method_26_code
def y_S_keepDraft : MethodName := ⟨R_S, "keepDraft", "(II)I"⟩
abbrev b_D_settleCommits : ByteArray := prog_3_method_10_code
def y_D_settleCommits : MethodName := ⟨R_D, "settleCommits", "()Z"⟩
abbrev b_D_lowestOrphan : ByteArray := prog_3_method_11_code
def y_D_lowestOrphan : MethodName := ⟨R_D, "lowestOrphan", "()I"⟩
abbrev b_C_parentOf : ByteArray := prog_2_method_4_code
def y_C_parentOf : MethodName := ⟨R_C, "parentOf", "(I)I"⟩
abbrev b_C_withAllThatComesOf : ByteArray := prog_2_method_8_code
def y_C_withAllThatComesOf : MethodName := ⟨R_C, "withAllThatComesOf", "(I)J"⟩
abbrev b_D_placeOf : ByteArray := prog_3_method_13_code
def y_D_placeOf : MethodName := ⟨R_D, "placeOf", "(IJ)I"⟩
abbrev b_D_nextTowardsPlace : ByteArray := prog_3_method_14_code
def y_D_nextTowardsPlace : MethodName := ⟨R_D, "nextTowardsPlace", "(IJ)I"⟩
abbrev b_C_changeOf : ByteArray := prog_2_method_5_code
def y_C_changeOf : MethodName := ⟨R_C, "changeOf", "(I)I"⟩
abbrev b_C_latestOfChange : ByteArray := prog_2_method_10_code
def y_C_latestOfChange : MethodName := ⟨R_C, "latestOfChange", "(IJ)I"⟩
abbrev b_C_addMoved : ByteArray := prog_2_method_13_code
def y_C_addMoved : MethodName := ⟨R_C, "addMoved", "(II)I"⟩
abbrev b_C_addDifference : ByteArray := prog_2_method_14_code
def y_C_addDifference : MethodName := ⟨R_C, "addDifference", "(IIII)V"⟩
abbrev b_C_makePlain : ByteArray := prog_2_method_15_code
def y_C_makePlain : MethodName := ⟨R_C, "makePlain", "(III)V"⟩
abbrev b_S_isPath : ByteArray := prog_1_method_27_code
def y_S_isPath : MethodName := ⟨R_S, "isPath", "(I)Z"⟩
abbrev b_S_isValue : ByteArray := prog_1_method_28_code
def y_S_isValue : MethodName := ⟨R_S, "isValue", "(I)Z"⟩
abbrev b_D_replace : ByteArray := prog_3_method_9_code
def y_D_replace : MethodName := ⟨R_D, "replace", "(II)V"⟩
abbrev b_C_dropFrom : ByteArray := prog_2_method_16_code
def y_C_dropFrom : MethodName := ⟨R_C, "dropFrom", "(I)V"⟩
abbrev b_D_settlePointers : ByteArray := prog_3_method_12_code
def y_D_settlePointers : MethodName := ⟨R_D, "settlePointers", "()V"⟩
abbrev b_O_add : ByteArray := prog_4_method_9_code
def y_O_add : MethodName := ⟨R_O, "add", "(LChangeStore$Draft;II)I"⟩
abbrev b_S_write : ByteArray := prog_1_method_3_code
def y_S_write : MethodName := ⟨R_S, "write", "(II)I"⟩
abbrev b_C_isPlain : ByteArray := prog_2_method_7_code
def y_C_isPlain : MethodName := ⟨R_C, "isPlain", "(III)Z"⟩
abbrev b_C_countOf : ByteArray := prog_2_method_6_code
def y_C_countOf : MethodName := ⟨R_C, "countOf", "(III)J"⟩
abbrev b_S_rebase : ByteArray := prog_1_method_4_code
def y_S_rebase : MethodName := ⟨R_S, "rebase", "(II)I"⟩
abbrev b_S_isReplaceable : ByteArray := prog_1_method_24_code
def y_S_isReplaceable : MethodName := ⟨R_S, "isReplaceable", "(I)Z"⟩
abbrev b_S_abandon : ByteArray := prog_1_method_5_code
def y_S_abandon : MethodName := ⟨R_S, "abandon", "(I)I"⟩
abbrev b_S_squash : ByteArray := prog_1_method_6_code
def y_S_squash : MethodName := ⟨R_S, "squash", "(I)I"⟩
abbrev b_S_edit : ByteArray := prog_1_method_7_code
def y_S_edit : MethodName := ⟨R_S, "edit", "(I)I"⟩
abbrev b_S_mark : ByteArray := prog_1_method_8_code
def y_S_mark : MethodName := ⟨R_S, "mark", "(II)I"⟩
abbrev b_S_undo : ByteArray := prog_1_method_9_code
def y_S_undo : MethodName := ⟨R_S, "undo", "()I"⟩
abbrev b_O_firstBefore : ByteArray := prog_4_method_4_code
def y_O_firstBefore : MethodName := ⟨R_O, "firstBefore", "(I)I"⟩
abbrev b_O_secondBefore : ByteArray := prog_4_method_5_code
def y_O_secondBefore : MethodName := ⟨R_O, "secondBefore", "(I)I"⟩
abbrev b_S_restore : ByteArray := prog_1_method_10_code
def y_S_restore : MethodName := ⟨R_S, "restore", "(I)I"⟩
abbrev b_S_fork : ByteArray := prog_1_method_11_code
def y_S_fork : MethodName := ⟨R_S, "fork", "(I)Z"⟩
abbrev b_S_hasLineOne : ByteArray := prog_1_method_22_code
def y_S_hasLineOne : MethodName := ⟨R_S, "hasLineOne", "()Z"⟩
abbrev b_S_choose : ByteArray := prog_1_method_12_code
def y_S_choose : MethodName := ⟨R_S, "choose", "(I)Z"⟩
abbrev b_S_join : ByteArray := prog_1_method_13_code
def y_S_join : MethodName := ⟨R_S, "join", "()I"⟩
abbrev b_D_openJoined : ByteArray := prog_3_method_3_code
def y_D_openJoined : MethodName := ⟨R_D, "openJoined", "(LChangeStore$Operations;III)V"⟩
abbrev b_D_joinedMark : ByteArray := prog_3_method_5_code
def y_D_joinedMark : MethodName := ⟨R_D, "joinedMark", "(III)I"⟩
abbrev b_S_operation : ByteArray := prog_1_method_14_code
def y_S_operation : MethodName := ⟨R_S, "operation", "()I"⟩
abbrev b_S_before : ByteArray := prog_1_method_15_code
def y_S_before : MethodName := ⟨R_S, "before", "(II)I"⟩
abbrev b_S_visible : ByteArray := prog_1_method_16_code
def y_S_visible : MethodName := ⟨R_S, "visible", "(II)Z"⟩
abbrev b_S_working : ByteArray := prog_1_method_17_code
def y_S_working : MethodName := ⟨R_S, "working", "(I)I"⟩
abbrev b_S_marked : ByteArray := prog_1_method_18_code
def y_S_marked : MethodName := ⟨R_S, "marked", "(II)I"⟩
abbrev b_S_head : ByteArray := prog_1_method_19_code
def y_S_head : MethodName := ⟨R_S, "head", "(II)I"⟩
abbrev b_C_parentsOf : ByteArray := prog_2_method_9_code
def y_C_parentsOf : MethodName := ⟨R_C, "parentsOf", "(J)J"⟩
abbrev b_S_commit : ByteArray := prog_1_method_20_code
def y_S_commit : MethodName := ⟨R_S, "commit", "(II)I"⟩
abbrev b_S_count : ByteArray := prog_1_method_21_code
def y_S_count : MethodName := ⟨R_S, "count", "(III)J"⟩
abbrev b_M_init : ByteArray := prog_6_method_1_code
def y_M_init : MethodName := ⟨R_M, "<init>", "()V"⟩
abbrev b_M_create : ByteArray := prog_6_method_18_code
def y_M_create : MethodName := ⟨R_M, "create", "(I)I"⟩
abbrev b_M_here : ByteArray := prog_6_method_2_code
def y_M_here : MethodName := ⟨R_M, "here", "()I"⟩
abbrev b_M_isVisible : ByteArray := prog_6_method_3_code
def y_M_isVisible : MethodName := ⟨R_M, "isVisible", "(II)Z"⟩
abbrev b_M_begin : ByteArray := prog_6_method_8_code
def y_M_begin : MethodName := ⟨R_M, "begin", "(I)V"⟩
abbrev b_M_fresh : ByteArray := prog_6_method_9_code
def y_M_fresh : MethodName := ⟨R_M, "fresh", "(II)I"⟩
abbrev b_M_copyContents : ByteArray := prog_6_method_6_code
def y_M_copyContents : MethodName := ⟨R_M, "copyContents", "(II)V"⟩
abbrev b_M_done : ByteArray := prog_6_method_17_code
def y_M_done : MethodName := ⟨R_M, "done", "()I"⟩
abbrev b_M_finish : ByteArray := prog_6_method_16_code
def y_M_finish : MethodName := ⟨R_M, "finish", "(II)I"⟩
abbrev b_M_write : ByteArray := prog_6_method_19_code
def y_M_write : MethodName := ⟨R_M, "write", "(II)I"⟩
abbrev b_M_plain : ByteArray := prog_6_method_4_code
def y_M_plain : MethodName := ⟨R_M, "plain", "(III)Z"⟩
abbrev b_M_setPlain : ByteArray := prog_6_method_5_code
def y_M_setPlain : MethodName := ⟨R_M, "setPlain", "(III)V"⟩
abbrev b_M_replace : ByteArray := prog_6_method_10_code
def y_M_replace : MethodName := ⟨R_M, "replace", "(II)V"⟩
abbrev b_M_settle : ByteArray := prog_6_method_15_code
def y_M_settle : MethodName := ⟨R_M, "settle", "()V"⟩
abbrev b_M_loose : ByteArray := prog_6_method_14_code
def y_M_loose : MethodName := ⟨R_M, "loose", "()I"⟩
abbrev b_M_place : ByteArray := prog_6_method_13_code
def y_M_place : MethodName := ⟨R_M, "place", "(II)I"⟩
abbrev b_M_sameChange : ByteArray := prog_6_method_12_code
def y_M_sameChange : MethodName := ⟨R_M, "sameChange", "(II)I"⟩
abbrev b_M_comesOf : ByteArray := prog_6_method_11_code
def y_M_comesOf : MethodName := ⟨R_M, "comesOf", "(II)Z"⟩
abbrev b_M_mix : ByteArray := prog_6_method_7_code
def y_M_mix : MethodName := ⟨R_M, "mix", "(IIII)V"⟩
abbrev b_M_rebase : ByteArray := prog_6_method_20_code
def y_M_rebase : MethodName := ⟨R_M, "rebase", "(II)I"⟩
abbrev b_M_abandon : ByteArray := prog_6_method_21_code
def y_M_abandon : MethodName := ⟨R_M, "abandon", "(I)I"⟩
abbrev b_M_squash : ByteArray := prog_6_method_22_code
def y_M_squash : MethodName := ⟨R_M, "squash", "(I)I"⟩
abbrev b_M_edit : ByteArray := prog_6_method_23_code
def y_M_edit : MethodName := ⟨R_M, "edit", "(I)I"⟩
abbrev b_M_mark : ByteArray := prog_6_method_24_code
def y_M_mark : MethodName := ⟨R_M, "mark", "(II)I"⟩
abbrev b_M_undo : ByteArray := prog_6_method_25_code
def y_M_undo : MethodName := ⟨R_M, "undo", "()I"⟩
abbrev b_M_restore : ByteArray := prog_6_method_26_code
def y_M_restore : MethodName := ⟨R_M, "restore", "(I)I"⟩
abbrev b_M_fork : ByteArray := prog_6_method_27_code
def y_M_fork : MethodName := ⟨R_M, "fork", "(I)Z"⟩
abbrev b_M_choose : ByteArray := prog_6_method_28_code
def y_M_choose : MethodName := ⟨R_M, "choose", "(I)Z"⟩
abbrev b_M_join : ByteArray := prog_6_method_30_code
def y_M_join : MethodName := ⟨R_M, "join", "()I"⟩
abbrev b_M_merged : ByteArray := prog_6_method_29_code
def y_M_merged : MethodName := ⟨R_M, "merged", "(III)I"⟩
abbrev b_M_operation : ByteArray := prog_6_method_32_code
def y_M_operation : MethodName := ⟨R_M, "operation", "()I"⟩
abbrev b_M_before : ByteArray := prog_6_method_33_code
def y_M_before : MethodName := ⟨R_M, "before", "(II)I"⟩
abbrev b_M_there : ByteArray := prog_6_method_31_code
def y_M_there : MethodName := ⟨R_M, "there", "(I)Z"⟩
abbrev b_M_visible : ByteArray := prog_6_method_34_code
def y_M_visible : MethodName := ⟨R_M, "visible", "(II)Z"⟩
abbrev b_M_working : ByteArray := prog_6_method_35_code
def y_M_working : MethodName := ⟨R_M, "working", "(I)I"⟩
abbrev b_M_marked : ByteArray := prog_6_method_36_code
def y_M_marked : MethodName := ⟨R_M, "marked", "(II)I"⟩
abbrev b_M_head : ByteArray := prog_6_method_38_code
def y_M_head : MethodName := ⟨R_M, "head", "(II)I"⟩
abbrev b_M_isHead : ByteArray := prog_6_method_37_code
def y_M_isHead : MethodName := ⟨R_M, "isHead", "(II)Z"⟩
abbrev b_M_commit : ByteArray := prog_6_method_39_code
def y_M_commit : MethodName := ⟨R_M, "commit", "(II)I"⟩
abbrev b_M_count : ByteArray := prog_6_method_40_code
def y_M_count : MethodName := ⟨R_M, "count", "(III)J"⟩
end
section
/-! The layer: one situation 'qa_S' for a world that a state x of type QX pictures; returns, calls, and the way from a walk to a contract. -/
/-- a state: int fields, long fields, int (or boolean) arrays, long arrays, each by number -/
abbrev QX : Type := (Nat → Int32) × (Nat → Int64) × (Nat → Nat → Int32) × (Nat → Nat → Int64)
def sI (x : QX) (k : Nat) (v : Int32) : QX := (va_up x.1 k v, x.2.1, x.2.2.1, x.2.2.2)
def sL (x : QX) (k : Nat) (v : Int64) : QX := (x.1, va_up x.2.1 k v, x.2.2.1, x.2.2.2)
def sA (x : QX) (k : Nat) (f : Nat → Int32) : QX := (x.1, x.2.1, va_up x.2.2.1 k f, x.2.2.2)
def sB (x : QX) (k : Nat) (f : Nat → Int64) : QX := (x.1, x.2.1, x.2.2.1, va_up x.2.2.2 k f)
def gI (x : QX) (k : Nat) : Int32 := x.1 k
def gL (x : QX) (k : Nat) : Int64 := x.2.1 k
def gA (x : QX) (k : Nat) : Nat → Int32 := x.2.2.1 k
def gB (x : QX) (k : Nat) : Nat → Int64 := x.2.2.2 k
/-- the words that hold at every method: the good ones of the tables -/
def qa_WG : List Cond := lw_tbl.filter goodWord
theorem qa_in {w : Cond} (h : w ∈ lw_tbl) (g : goodWord w = true) : w ∈ qa_WG := List.mem_filter.mpr ⟨h, g⟩
theorem qa_good {pre : List Cond} {c2 : Cond} (h2 : c2 ∈ qa_WG) (hp : ∀ w ∈ pre, w ∈ qa_WG) : GoodIn qa_WG (pre ++ (c2 :: qa_WG)) := by
  intro w hw
  have h : w ∈ qa_WG := by
    rcases List.mem_append.mp hw with h | h
    · exact hp w h
    · rcases List.mem_cons.mp h with h | h
      · rw [h]; exact h2
      · exact h
  exact ⟨h, good_of_word (List.mem_filter.mp h).2⟩
/-- words of nest mates go beside -/
def qa_nest : Cond → Bool
  | .fieldLinkNest .. => true
  | .methodLinkNest .. => true
  | _ => false
def qa_NW : List Cond := lw_tbl.filter qa_nest
def qa_N (U : State) : Prop := ∀ w ∈ qa_NW, va_Nw w U
theorem qa_nin {w : Cond} (h : w ∈ lw_tbl) (g : qa_nest w = true) : w ∈ qa_NW := List.mem_filter.mpr ⟨h, g⟩
theorem qa_N.warm {s U : State} (hW : s.WarmedH U.vm) (h : qa_N s) : qa_N U := by
  intro w hw
  have h1 := (List.mem_filter.mp hw).2
  have h2 := h w hw
  cases w <;> first | (simp [qa_nest] at h1; done) | exact va_Nw.warmF hW h2 | exact va_Nw.warmM hW h2
theorem qa_N.same {s U : State} (hv : s.vm = U.vm) (h : qa_N s) : qa_N U := by
  intro w hw
  have h1 := (List.mem_filter.mp hw).2
  have h2 := h w hw
  cases w <;> first | (simp [qa_nest] at h1; done) | exact va_Nw.same rfl hv h2
theorem qa_range (ws : va_W) : (List.range ws.length).map (fun i => ws[i]?) = ws.map some := by
  apply List.ext_getElem?
  intro i
  by_cases h : i < ws.length
  · simp [h]
  · simp [h]
def qa_S (D : va_G) (cl : List vw_C) (tys : List (ClassId × FieldType)) {X : Type} (wf : X → va_W) (A : Nat → Prop) (s : State) (x : X) (H : Heap) (locs : List Loc) : Prop :=
  va_P D cl (wf x) H ∧ va_D A (wf x) ∧ va_K D cl tys s ∧ va_S A s.heap H locs ∧ (∀ q : Nat, s.heap.size ≤ q → A q) ∧ qa_N s
def qa_B (D : va_G) (cl : List vw_C) (tys : List (ClassId × FieldType)) {X : Type} (wf : X → va_W) (A : Nat → Prop) (x : X) (t : State) : Prop :=
  va_P D cl (wf x) t.heap ∧ va_K D cl tys t ∧ va_D A (wf x)
def qa_Pre (D : va_G) (cl : List vw_C) (tys : List (ClassId × FieldType)) {X : Type} (wf : X → va_W) (vs : List Value) (x : X) (sz : Nat) : Array Value → State → Prop :=
  va_Pc vs (fun U => U.heap.size = sz ∧ va_P D cl (wf x) U.heap ∧ va_K D cl tys U ∧ va_D (fun _ => True) (wf x) ∧ qa_N U)
/-- contracts over a whole world: int (also boolean), long, void -/
abbrev qa_Ci (l : Launch) (y : MethodName) (ws : List Cond) (rm : Room) (D : va_G) (cl : List vw_C) (tys : List (ClassId × FieldType)) {X : Type} (wf : X → va_W) (vs : List Value) (x : X) (post : Int32 → X → Prop) : Prop :=
  ∀ sz : Nat, Met l y ws rm (qa_Pre D cl tys wf vs x sz) (va_Qi post (qa_B D cl tys wf (va_A (wf x) sz)) (va_A (wf x) sz)) 0 0 (va_A (wf x) sz)
abbrev qa_Cl (l : Launch) (y : MethodName) (ws : List Cond) (rm : Room) (D : va_G) (cl : List vw_C) (tys : List (ClassId × FieldType)) {X : Type} (wf : X → va_W) (vs : List Value) (x : X) (post : Int64 → X → Prop) : Prop :=
  ∀ sz : Nat, Met l y ws rm (qa_Pre D cl tys wf vs x sz) (va_Ql post (qa_B D cl tys wf (va_A (wf x) sz)) (va_A (wf x) sz)) 0 0 (va_A (wf x) sz)
abbrev qa_Cv (l : Launch) (y : MethodName) (ws : List Cond) (rm : Room) (D : va_G) (cl : List vw_C) (tys : List (ClassId × FieldType)) {X : Type} (wf : X → va_W) (vs : List Value) (x : X) (post : X → Prop) : Prop :=
  ∀ sz : Nat, Met l y ws rm (qa_Pre D cl tys wf vs x sz) (va_Qv post (qa_B D cl tys wf (va_A (wf x) sz)) (va_A (wf x) sz)) 0 0 (va_A (wf x) sz)
/-- what stays fixed in a walk -/
def qa_X (p : Program) (s : State) (m : MethodId) (args : Array Value) (meth : Method) (c : Code) (cc : ByteArray) (nL : Nat) (ret : Option FieldType) (own : String) : Prop :=
  p.tables.exec = Jvm.exec ∧ c.code = cc ∧ c.maxLocals = nL ∧ meth.sig.returnType = ret ∧ (∀ w ∈ qa_WG, w.before args s = true) ∧ s.vm.findClass own = some m.cls ∧ meth.locks = false
section QA
variable {p : Program} {l : Launch} {e : Env} {R : Room} {s : State} {m : MethodId} {args : Array Value} {below : List Frame} {meth : Method} {c : Code} {H : Heap} {locs : List Loc} {Q : State → Prop}
variable {D : va_G} {cl : List vw_C} {tys : List (ClassId × FieldType)} {X : Type} {wf : X → va_W} {A : Nat → Prop} {x : X}
variable {cc : ByteArray} {nL : Nat} {own : String} {pc : Nat} {ls : Array Slot} {rest st0 : List Value}
theorem qa_blind {vs : List Value} {sz : Nat} : FrameBlind (qa_Pre D cl tys wf vs x sz) := by
  intro a U g mk q
  obtain ⟨q0, q1, qP, qK, qD, qN⟩ := q
  exact ⟨q0, q1, qP, va_K.moved (u := U) (U := U.calling g mk a) (Vm.Alike.refl U.vm) qK, qD, qa_N.same (s := U) (U := U.calling g mk a) rfl qN⟩
theorem qa_pre {vs : List Value} (S : qa_S D cl tys wf A s x H locs) (U : State) (hU : U.heap = H) (hW : s.WarmedH U.vm) : qa_Pre D cl tys wf vs x H.size vs.toArray U := by
  obtain ⟨hP, hD, hK, -, -, hN⟩ := S
  exact ⟨rfl, by rw [hU], by rw [hU]; exact hP, va_K.moved hW.alike hK, hD.weaken (fun _ _ _ _ => trivial), hN.warm hW⟩
theorem qa_reti (C : qa_X p s m args meth c cc nL (some .int) own) (S : qa_S D cl tys wf A s x H locs) {post : Int32 → X → Prop} {v : Int32} (hp : post v x) (hdg : decode cc pc = .ok (.ireturn, 1)) :
    W p l e R s m args below meth c H locs 0 0 (MQ below (va_Qi post (qa_B D cl tys wf A) A) args s 0 0 A) (F0 m pc ls [.int v]) := by
  obtain ⟨hx, hb, -, hr, -, -, hlk⟩ := C
  obtain ⟨hP, hD, hK, hS, -, -⟩ := S
  exact W.iret hx hb hr (fun t ht hW => ⟨⟨v, x, rfl, hp, by rw [ht]; exact hP, va_K.moved hW.alike hK, hD⟩, hS.F ht⟩) hS.2.2 hdg (hlocks := hlk)
theorem qa_retz (C : qa_X p s m args meth c cc nL (some .boolean) own) (S : qa_S D cl tys wf A s x H locs) {post : Int32 → X → Prop} {v : Int32} (hp : vp_nar .boolean v = v ∧ post v x) (hdg : decode cc pc = .ok (.ireturn, 1)) :
    W p l e R s m args below meth c H locs 0 0 (MQ below (va_Qi post (qa_B D cl tys wf A) A) args s 0 0 A) (F0 m pc ls [.int v]) := by
  obtain ⟨hx, hb, -, hr, -, -, hlk⟩ := C
  obtain ⟨hP, hD, hK, hS, -, -⟩ := S
  have hn : narrow .boolean (.int v) = .int v := by
    have h1 : narrow .boolean (.int v) = .int (vp_nar .boolean v) := rfl
    rw [h1, hp.1]
  exact W.zret hx hb hr hn (fun t ht hW => ⟨⟨v, x, rfl, hp.2, by rw [ht]; exact hP, va_K.moved hW.alike hK, hD⟩, hS.F ht⟩) hS.2.2 hdg (hlocks := hlk)
theorem qa_retl (C : qa_X p s m args meth c cc nL (some .long) own) (S : qa_S D cl tys wf A s x H locs) {post : Int64 → X → Prop} {v : Int64} (hp : post v x) (hdg : decode cc pc = .ok (.lreturn, 1)) :
    W p l e R s m args below meth c H locs 0 0 (MQ below (va_Ql post (qa_B D cl tys wf A) A) args s 0 0 A) (F0 m pc ls [.long v]) := by
  obtain ⟨hx, hb, -, hr, -, -, hlk⟩ := C
  obtain ⟨hP, hD, hK, hS, -, -⟩ := S
  exact W.lret hx hb hr (fun t ht hW => ⟨⟨v, x, rfl, hp, by rw [ht]; exact hP, va_K.moved hW.alike hK, hD⟩, hS.F ht⟩) hS.2.2 hdg (hlocks := hlk)
theorem qa_retv (C : qa_X p s m args meth c cc nL none own) (S : qa_S D cl tys wf A s x H locs) {post : X → Prop} (hp : post x) (hdg : decode cc pc = .ok (.return_, 1)) :
    W p l e R s m args below meth c H locs 0 0 (MQ below (va_Qv post (qa_B D cl tys wf A) A) args s 0 0 A) (F0 m pc ls []) := by
  obtain ⟨hx, hb, -, hr, -, -, hlk⟩ := C
  obtain ⟨hP, hD, hK, hS, -, -⟩ := S
  exact W.vret hx hb hr (fun t ht hW => ⟨⟨x, rfl, hp, by rw [ht]; exact hP, va_K.moved hW.alike hK, hD⟩, hS.F ht⟩) hS.2.2 hdg (hlocks := hlk)
theorem qa_calli {post : Int32 → X → Prop} {a : Array Value} (run : va_Run p l e R s m args below meth c H locs 0 0 0 0 (F0 m pc ls st0) rest (va_Qi post (qa_B D cl tys wf (va_A (wf x) H.size)) (va_A (wf x) H.size) a) (va_A (wf x) H.size)) (S : qa_S D cl tys wf A s x H locs)
    (kk : ∀ (r : Int32) (x' : X) (H1 : Heap) (locs1 : List Loc), post r x' → qa_S D cl tys wf A s x' H1 locs1 → W p l e R s m args below meth c H1 locs1 0 0 Q (F0 m (pc + 3) ls (.int r :: rest))) : W p l e R s m args below meth c H locs 0 0 Q (F0 m pc ls st0) := by
  obtain ⟨hP, hD, hK, hS, hA, hN⟩ := S
  have hF := va_free (wc := wf x) hD hS hA (List.range (wf x).length) (qa_range (wf x))
  refine va_calli run hS (fun q _ h => hF q h) hF (fun r u t H1 locs1 ht hvm hp hB hz hk hS1 => ?_)
  obtain ⟨hP1, hK1, hD1⟩ := hB
  rw [ht] at hP1
  obtain ⟨hP2, hD2⟩ := va_join (wr := []) (w1 := wf u) hP hD (List.range (wf x).length) [] (qa_range _) rfl rfl (fun i h => by cases h) hk hF hP1 hD1
  exact kk r u H1 locs1 hp ⟨hP2, hD2, hK, hS1, hA, hN⟩
theorem qa_calll {post : Int64 → X → Prop} {a : Array Value} (run : va_Run p l e R s m args below meth c H locs 0 0 0 0 (F0 m pc ls st0) rest (va_Ql post (qa_B D cl tys wf (va_A (wf x) H.size)) (va_A (wf x) H.size) a) (va_A (wf x) H.size)) (S : qa_S D cl tys wf A s x H locs)
    (kk : ∀ (r : Int64) (x' : X) (H1 : Heap) (locs1 : List Loc), post r x' → qa_S D cl tys wf A s x' H1 locs1 → W p l e R s m args below meth c H1 locs1 0 0 Q (F0 m (pc + 3) ls (.long r :: rest))) : W p l e R s m args below meth c H locs 0 0 Q (F0 m pc ls st0) := by
  obtain ⟨hP, hD, hK, hS, hA, hN⟩ := S
  have hF := va_free (wc := wf x) hD hS hA (List.range (wf x).length) (qa_range (wf x))
  refine va_calll run hS (fun q _ h => hF q h) hF (fun r u t H1 locs1 ht hvm hp hB hz hk hS1 => ?_)
  obtain ⟨hP1, hK1, hD1⟩ := hB
  rw [ht] at hP1
  obtain ⟨hP2, hD2⟩ := va_join (wr := []) (w1 := wf u) hP hD (List.range (wf x).length) [] (qa_range _) rfl rfl (fun i h => by cases h) hk hF hP1 hD1
  exact kk r u H1 locs1 hp ⟨hP2, hD2, hK, hS1, hA, hN⟩
theorem qa_callv {post : X → Prop} {a : Array Value} (run : va_Run p l e R s m args below meth c H locs 0 0 0 0 (F0 m pc ls st0) rest (va_Qv post (qa_B D cl tys wf (va_A (wf x) H.size)) (va_A (wf x) H.size) a) (va_A (wf x) H.size)) (S : qa_S D cl tys wf A s x H locs)
    (kk : ∀ (x' : X) (H1 : Heap) (locs1 : List Loc), post x' → qa_S D cl tys wf A s x' H1 locs1 → W p l e R s m args below meth c H1 locs1 0 0 Q (F0 m (pc + 3) ls rest)) : W p l e R s m args below meth c H locs 0 0 Q (F0 m pc ls st0) := by
  obtain ⟨hP, hD, hK, hS, hA, hN⟩ := S
  have hF := va_free (wc := wf x) hD hS hA (List.range (wf x).length) (qa_range (wf x))
  refine va_callv run hS (fun q _ h => hF q h) hF (fun u t H1 locs1 ht hvm hp hB hz hk hS1 => ?_)
  obtain ⟨hP1, hK1, hD1⟩ := hB
  rw [ht] at hP1
  obtain ⟨hP2, hD2⟩ := va_join (wr := []) (w1 := wf u) hP hD (List.range (wf x).length) [] (qa_range _) rfl rfl (fun i h => by cases h) hk hF hP1 hD1
  exact kk u H1 locs1 hp ⟨hP2, hD2, hK, hS1, hA, hN⟩
variable {ret retC : Option FieldType} {y : MethodName} {bytes : ByteArray} {maxL index n : Nat} {wsC : List Cond} {rm : Room} {Qc : Array Value → State → Outcome → State → Prop} {free : Addr → Prop} {As : List Value} {b : Nat} {Cn host : String}
/-- invokevirtual, own class or package-private -/
theorem qa_runV (C : qa_X p s m args meth c cc nL ret own) (S : qa_S D cl tys wf A s x H locs) (hM : Met l y wsC rm (qa_Pre D cl tys wf (.ref b :: As) x H.size) Qc 0 0 free)
    (cw : CallW R s args own Cn index y bytes maxL retC wsC rm 0 0 n) (hrecv : ∃ cellB : Cell, H[b]? = some cellB ∧ cellB.vm.isStatics = false ∧ s.vm.findClass Cn = some cellB.cls)
    (hn : As.length = n) (hls : ls.size = nL) (hst : st0 = As.reverse ++ .ref b :: rest) (hroom : (rest.map fun v => v.category).sum ≤ 8) (hdg : decode cc pc = .ok (.invokevirtual index, 3)) :
    va_Run p l e R s m args below meth c H locs 0 0 0 0 (F0 m pc ls st0) rest (Qc (Value.ref b :: As).toArray) free :=
  va_runV ⟨C.1, C.2.1, C.2.2.1, C.2.2.2.2.2.1, C.2.2.2.2.1⟩ hM cw ⟨qa_blind, hrecv, fun U hU hW => qa_pre S U hU hW⟩ rfl hn hls hst (lv_room hroom) hdg ⟨Nat.zero_le _, Nat.zero_le _⟩
/-- invokestatic of the own class -/
theorem qa_runS (C : qa_X p s m args meth c cc nL ret own) (S : qa_S D cl tys wf A s x H locs) (hM : Met l y wsC rm (qa_Pre D cl tys wf As x H.size) Qc 0 0 free)
    (cw : CallB R s args own index y bytes maxL retC wsC rm 0 0 n ∧ (Cond.static y).before args s = true)
    (hn : As.length = n) (hls : ls.size = nL) (hst : st0 = As.reverse ++ rest) (hroom : (rest.map fun v => v.category).sum ≤ 8) (hdg : decode cc pc = .ok (.invokestatic index, 3)) :
    va_Run p l e R s m args below meth c H locs 0 0 0 0 (F0 m pc ls st0) rest (Qc As.toArray) free :=
  va_runS ⟨C.1, C.2.1, C.2.2.1, C.2.2.2.2.2.1, C.2.2.2.2.1⟩ hM cw ⟨qa_blind, fun U hU hW => qa_pre S U hU hW⟩ rfl hn hls hst (lv_room hroom) hdg ⟨Nat.zero_le _, Nat.zero_le _⟩
/-- invokestatic of a nest mate's private method -/
theorem qa_runSN (C : qa_X p s m args meth c cc nL ret own) (S : qa_S D cl tys wf A s x H locs) (hM : Met l y wsC rm (qa_Pre D cl tys wf As x H.size) Qc 0 0 free)
    (cw : va_CN R s args own index y host bytes maxL retC wsC rm 0 0 n ∧ (Cond.static y).before args s = true ∧ True)
    (hn : As.length = n) (hls : ls.size = nL) (hst : st0 = As.reverse ++ rest) (hroom : (rest.map fun v => v.category).sum ≤ 8) (hdg : decode cc pc = .ok (.invokestatic index, 3)) :
    va_Run p l e R s m args below meth c H locs 0 0 0 0 (F0 m pc ls st0) rest (Qc As.toArray) free :=
  va_runSN ⟨C.1, C.2.1, C.2.2.1, C.2.2.2.2.2.1, C.2.2.2.2.1⟩ hM cw ⟨qa_blind, fun U hU hW => qa_pre S U hU hW⟩ rfl hn hls hst (lv_room hroom) hdg ⟨Nat.zero_le _, Nat.zero_le _⟩
/-- invokevirtual of a nest mate's private method -/
theorem qa_runVN (C : qa_X p s m args meth c cc nL ret own) (S : qa_S D cl tys wf A s x H locs) (hM : Met l y wsC rm (qa_Pre D cl tys wf (.ref b :: As) x H.size) Qc 0 0 free)
    (cw : va_CN R s args own index y host bytes maxL retC wsC rm 0 0 n ∧ (Cond.instanceMethod y).before args s = true ∧ (Cond.selects Cn y y).before args s = true) (hrecv : ∃ cellB : Cell, H[b]? = some cellB ∧ cellB.vm.isStatics = false ∧ s.vm.findClass Cn = some cellB.cls)
    (hn : As.length = n) (hls : ls.size = nL) (hst : st0 = As.reverse ++ .ref b :: rest) (hroom : (rest.map fun v => v.category).sum ≤ 8) (hdg : decode cc pc = .ok (.invokevirtual index, 3)) :
    va_Run p l e R s m args below meth c H locs 0 0 0 0 (F0 m pc ls st0) rest (Qc (Value.ref b :: As).toArray) free :=
  va_runVN ⟨C.1, C.2.1, C.2.2.1, C.2.2.2.2.2.1, C.2.2.2.2.1⟩ hM cw ⟨qa_blind, hrecv, fun U hU hW => qa_pre S U hU hW⟩ rfl hn hls hst (lv_room hroom) hdg ⟨Nat.zero_le _, Nat.zero_le _⟩
end QA
section QB
variable {l : Launch} {D : va_G} {cl : List vw_C} {tys : List (ClassId × FieldType)} {X : Type} {wf : X → va_W} {x : X} {y : MethodName} {ws' : List Cond} {rm : Room} {cc : ByteArray} {maxL : Nat} {ret : Option FieldType} {vs : List Value}
theorem qa_ofWi {post : Int32 → X → Prop} (hy : plainName y.cls = true) (hn : (lg_sl vs).length ≤ maxL)
    (body : ∀ (p : Program) (e : Env) (s : State) (m : MethodId) (args : Array Value) (below : List Frame) (meth : Method) (c : Code) (A : Nat → Prop) (H : Heap) (locs : List Loc) (ls : Array Slot), qa_X p s m args meth c cc maxL ret y.cls → qa_S D cl tys wf A s x H locs → lv_has ls maxL (lv_args 0 vs) →
      W p l e rm s m args below meth c H locs 0 0 (MQ below (va_Qi post (qa_B D cl tys wf A) A) args s 0 0 A) (F0 m 0 ls [])) : qa_Ci l y (.code y cc maxL ret :: qa_WG) rm D cl tys wf vs x post := by
  intro sz
  refine Met.ofW (cc := cc) (maxL := maxL) (ret := ret) hy rfl ?_
  intro p e s m args below meth c s₁ B hml hv
  obtain ⟨rfl, hsz, hP, hK, hD0, hN⟩ := hv
  subst hsz
  rw [lg_entry_eq]
  exact body p e s m _ below meth c _ _ _ _ ⟨B.exec, B.bytes, hml, B.returns, fun w hw => atoms_spec (ws := .code y cc maxL ret :: qa_WG) B.pre w (List.mem_cons_of_mem _ hw), findClass_of_methodNamed B.named, B.notSynchronized⟩ ⟨hP, hD0.self, hK, va_S.rf, fun q h => Or.inr h, hN⟩ (lv_entry vs hn)
theorem qa_ofWl {post : Int64 → X → Prop} (hy : plainName y.cls = true) (hn : (lg_sl vs).length ≤ maxL)
    (body : ∀ (p : Program) (e : Env) (s : State) (m : MethodId) (args : Array Value) (below : List Frame) (meth : Method) (c : Code) (A : Nat → Prop) (H : Heap) (locs : List Loc) (ls : Array Slot), qa_X p s m args meth c cc maxL ret y.cls → qa_S D cl tys wf A s x H locs → lv_has ls maxL (lv_args 0 vs) →
      W p l e rm s m args below meth c H locs 0 0 (MQ below (va_Ql post (qa_B D cl tys wf A) A) args s 0 0 A) (F0 m 0 ls [])) : qa_Cl l y (.code y cc maxL ret :: qa_WG) rm D cl tys wf vs x post := by
  intro sz
  refine Met.ofW (cc := cc) (maxL := maxL) (ret := ret) hy rfl ?_
  intro p e s m args below meth c s₁ B hml hv
  obtain ⟨rfl, hsz, hP, hK, hD0, hN⟩ := hv
  subst hsz
  rw [lg_entry_eq]
  exact body p e s m _ below meth c _ _ _ _ ⟨B.exec, B.bytes, hml, B.returns, fun w hw => atoms_spec (ws := .code y cc maxL ret :: qa_WG) B.pre w (List.mem_cons_of_mem _ hw), findClass_of_methodNamed B.named, B.notSynchronized⟩ ⟨hP, hD0.self, hK, va_S.rf, fun q h => Or.inr h, hN⟩ (lv_entry vs hn)
theorem qa_ofWv {post : X → Prop} (hy : plainName y.cls = true) (hn : (lg_sl vs).length ≤ maxL)
    (body : ∀ (p : Program) (e : Env) (s : State) (m : MethodId) (args : Array Value) (below : List Frame) (meth : Method) (c : Code) (A : Nat → Prop) (H : Heap) (locs : List Loc) (ls : Array Slot), qa_X p s m args meth c cc maxL ret y.cls → qa_S D cl tys wf A s x H locs → lv_has ls maxL (lv_args 0 vs) →
      W p l e rm s m args below meth c H locs 0 0 (MQ below (va_Qv post (qa_B D cl tys wf A) A) args s 0 0 A) (F0 m 0 ls [])) : qa_Cv l y (.code y cc maxL ret :: qa_WG) rm D cl tys wf vs x post := by
  intro sz
  refine Met.ofW (cc := cc) (maxL := maxL) (ret := ret) hy rfl ?_
  intro p e s m args below meth c s₁ B hml hv
  obtain ⟨rfl, hsz, hP, hK, hD0, hN⟩ := hv
  subst hsz
  rw [lg_entry_eq]
  exact body p e s m _ below meth c _ _ _ _ ⟨B.exec, B.bytes, hml, B.returns, fun w hw => atoms_spec (ws := .code y cc maxL ret :: qa_WG) B.pre w (List.mem_cons_of_mem _ hw), findClass_of_methodNamed B.named, B.notSynchronized⟩ ⟨hP, hD0.self, hK, va_S.rf, fun q h => Or.inr h, hN⟩ (lv_entry vs hn)
end QB
end
