theorem qh_ac_native : Cond.native arraycopyName ∈ qa_WG := qa_in (List.mem_append_right _ (List.mem_of_getElem? (i := 194) (by decide +kernel))) rfl
theorem qh_ac_static : Cond.static arraycopyName ∈ qa_WG := qa_in (List.mem_append_right _ (List.mem_of_getElem? (i := 193) (by decide +kernel))) rfl
theorem qh_ac_init : Cond.initialized "java/lang/System" ∈ qa_WG := qa_in (List.mem_append_right _ (List.mem_of_getElem? (i := 7) (by decide +kernel))) rfl
theorem hin_S : ∀ w ∈ u_ws R_S F_S 6, w ∈ qa_WG := by
  show ∀ w ∈ [u_lay R_S F_S 0, u_lay R_S F_S 1, u_lay R_S F_S 2, u_lay R_S F_S 3, u_lay R_S F_S 4, u_lay R_S F_S 5], w ∈ qa_WG
  exact List.forall_mem_cons.mpr ⟨qa_in (List.mem_append_right _ (List.mem_of_getElem? (i := 106) (by decide +kernel))) rfl, List.forall_mem_cons.mpr ⟨qa_in (List.mem_append_right _ (List.mem_of_getElem? (i := 108) (by decide +kernel))) rfl, List.forall_mem_cons.mpr ⟨qa_in (List.mem_append_right _ (List.mem_of_getElem? (i := 110) (by decide +kernel))) rfl, List.forall_mem_cons.mpr ⟨qa_in (List.mem_append_right _ (List.mem_of_getElem? (i := 112) (by decide +kernel))) rfl, List.forall_mem_cons.mpr ⟨qa_in (List.mem_append_right _ (List.mem_of_getElem? (i := 114) (by decide +kernel))) rfl, List.forall_mem_cons.mpr ⟨qa_in (List.mem_append_right _ (List.mem_of_getElem? (i := 116) (by decide +kernel))) rfl, fun _ h => by cases h⟩⟩⟩⟩⟩⟩
theorem hin_C : ∀ w ∈ u_ws R_C F_C 5, w ∈ qa_WG := by
  show ∀ w ∈ [u_lay R_C F_C 0, u_lay R_C F_C 1, u_lay R_C F_C 2, u_lay R_C F_C 3, u_lay R_C F_C 4], w ∈ qa_WG
  exact List.forall_mem_cons.mpr ⟨qa_in (List.mem_append_right _ (List.mem_of_getElem? (i := 28) (by decide +kernel))) rfl, List.forall_mem_cons.mpr ⟨qa_in (List.mem_append_right _ (List.mem_of_getElem? (i := 30) (by decide +kernel))) rfl, List.forall_mem_cons.mpr ⟨qa_in (List.mem_append_right _ (List.mem_of_getElem? (i := 32) (by decide +kernel))) rfl, List.forall_mem_cons.mpr ⟨qa_in (List.mem_append_right _ (List.mem_of_getElem? (i := 34) (by decide +kernel))) rfl, List.forall_mem_cons.mpr ⟨qa_in (List.mem_append_right _ (List.mem_of_getElem? (i := 36) (by decide +kernel))) rfl, fun _ h => by cases h⟩⟩⟩⟩⟩
theorem hin_O : ∀ w ∈ u_ws R_O F_O 6, w ∈ qa_WG := by
  show ∀ w ∈ [u_lay R_O F_O 0, u_lay R_O F_O 1, u_lay R_O F_O 2, u_lay R_O F_O 3, u_lay R_O F_O 4, u_lay R_O F_O 5], w ∈ qa_WG
  exact List.forall_mem_cons.mpr ⟨qa_in (List.mem_append_right _ (List.mem_of_getElem? (i := 56) (by decide +kernel))) rfl, List.forall_mem_cons.mpr ⟨qa_in (List.mem_append_right _ (List.mem_of_getElem? (i := 58) (by decide +kernel))) rfl, List.forall_mem_cons.mpr ⟨qa_in (List.mem_append_right _ (List.mem_of_getElem? (i := 60) (by decide +kernel))) rfl, List.forall_mem_cons.mpr ⟨qa_in (List.mem_append_right _ (List.mem_of_getElem? (i := 62) (by decide +kernel))) rfl, List.forall_mem_cons.mpr ⟨qa_in (List.mem_append_right _ (List.mem_of_getElem? (i := 64) (by decide +kernel))) rfl, List.forall_mem_cons.mpr ⟨qa_in (List.mem_append_right _ (List.mem_of_getElem? (i := 66) (by decide +kernel))) rfl, fun _ h => by cases h⟩⟩⟩⟩⟩⟩
theorem hin_D : ∀ w ∈ u_ws R_D F_D 6, w ∈ qa_WG := by
  show ∀ w ∈ [u_lay R_D F_D 0, u_lay R_D F_D 1, u_lay R_D F_D 2, u_lay R_D F_D 3, u_lay R_D F_D 4, u_lay R_D F_D 5], w ∈ qa_WG
  exact List.forall_mem_cons.mpr ⟨qa_in (List.mem_append_right _ (List.mem_of_getElem? (i := 87) (by decide +kernel))) rfl, List.forall_mem_cons.mpr ⟨qa_in (List.mem_append_right _ (List.mem_of_getElem? (i := 89) (by decide +kernel))) rfl, List.forall_mem_cons.mpr ⟨qa_in (List.mem_append_right _ (List.mem_of_getElem? (i := 91) (by decide +kernel))) rfl, List.forall_mem_cons.mpr ⟨qa_in (List.mem_append_right _ (List.mem_of_getElem? (i := 93) (by decide +kernel))) rfl, List.forall_mem_cons.mpr ⟨qa_in (List.mem_append_right _ (List.mem_of_getElem? (i := 95) (by decide +kernel))) rfl, List.forall_mem_cons.mpr ⟨qa_in (List.mem_append_right _ (List.mem_of_getElem? (i := 97) (by decide +kernel))) rfl, fun _ h => by cases h⟩⟩⟩⟩⟩⟩
theorem hin_M : ∀ w ∈ u_ws R_M F_M 23, w ∈ qa_WG := by
  show ∀ w ∈ [u_lay R_M F_M 0, u_lay R_M F_M 1, u_lay R_M F_M 2, u_lay R_M F_M 3, u_lay R_M F_M 4, u_lay R_M F_M 5, u_lay R_M F_M 6, u_lay R_M F_M 7, u_lay R_M F_M 8, u_lay R_M F_M 9, u_lay R_M F_M 10, u_lay R_M F_M 11, u_lay R_M F_M 12, u_lay R_M F_M 13, u_lay R_M F_M 14, u_lay R_M F_M 15, u_lay R_M F_M 16, u_lay R_M F_M 17, u_lay R_M F_M 18, u_lay R_M F_M 19, u_lay R_M F_M 20, u_lay R_M F_M 21, u_lay R_M F_M 22], w ∈ qa_WG
  exact List.forall_mem_cons.mpr ⟨qa_in (List.mem_append_right _ (List.mem_of_getElem? (i := 442) (by decide +kernel))) rfl, List.forall_mem_cons.mpr ⟨qa_in (List.mem_append_right _ (List.mem_of_getElem? (i := 444) (by decide +kernel))) rfl, List.forall_mem_cons.mpr ⟨qa_in (List.mem_append_right _ (List.mem_of_getElem? (i := 446) (by decide +kernel))) rfl, List.forall_mem_cons.mpr ⟨qa_in (List.mem_append_right _ (List.mem_of_getElem? (i := 448) (by decide +kernel))) rfl, List.forall_mem_cons.mpr ⟨qa_in (List.mem_append_right _ (List.mem_of_getElem? (i := 450) (by decide +kernel))) rfl, List.forall_mem_cons.mpr ⟨qa_in (List.mem_append_right _ (List.mem_of_getElem? (i := 452) (by decide +kernel))) rfl, List.forall_mem_cons.mpr ⟨qa_in (List.mem_append_right _ (List.mem_of_getElem? (i := 454) (by decide +kernel))) rfl, List.forall_mem_cons.mpr ⟨qa_in (List.mem_append_right _ (List.mem_of_getElem? (i := 456) (by decide +kernel))) rfl, List.forall_mem_cons.mpr ⟨qa_in (List.mem_append_right _ (List.mem_of_getElem? (i := 458) (by decide +kernel))) rfl, List.forall_mem_cons.mpr ⟨qa_in (List.mem_append_right _ (List.mem_of_getElem? (i := 460) (by decide +kernel))) rfl, List.forall_mem_cons.mpr ⟨qa_in (List.mem_append_right _ (List.mem_of_getElem? (i := 462) (by decide +kernel))) rfl, List.forall_mem_cons.mpr ⟨qa_in (List.mem_append_right _ (List.mem_of_getElem? (i := 464) (by decide +kernel))) rfl, List.forall_mem_cons.mpr ⟨qa_in (List.mem_append_right _ (List.mem_of_getElem? (i := 466) (by decide +kernel))) rfl, List.forall_mem_cons.mpr ⟨qa_in (List.mem_append_right _ (List.mem_of_getElem? (i := 468) (by decide +kernel))) rfl, List.forall_mem_cons.mpr ⟨qa_in (List.mem_append_right _ (List.mem_of_getElem? (i := 470) (by decide +kernel))) rfl, List.forall_mem_cons.mpr ⟨qa_in (List.mem_append_right _ (List.mem_of_getElem? (i := 472) (by decide +kernel))) rfl, List.forall_mem_cons.mpr ⟨qa_in (List.mem_append_right _ (List.mem_of_getElem? (i := 474) (by decide +kernel))) rfl, List.forall_mem_cons.mpr ⟨qa_in (List.mem_append_right _ (List.mem_of_getElem? (i := 476) (by decide +kernel))) rfl, List.forall_mem_cons.mpr ⟨qa_in (List.mem_append_right _ (List.mem_of_getElem? (i := 478) (by decide +kernel))) rfl, List.forall_mem_cons.mpr ⟨qa_in (List.mem_append_right _ (List.mem_of_getElem? (i := 480) (by decide +kernel))) rfl, List.forall_mem_cons.mpr ⟨qa_in (List.mem_append_right _ (List.mem_of_getElem? (i := 482) (by decide +kernel))) rfl, List.forall_mem_cons.mpr ⟨qa_in (List.mem_append_right _ (List.mem_of_getElem? (i := 484) (by decide +kernel))) rfl, List.forall_mem_cons.mpr ⟨qa_in (List.mem_append_right _ (List.mem_of_getElem? (i := 486) (by decide +kernel))) rfl, fun _ h => by cases h⟩⟩⟩⟩⟩⟩⟩⟩⟩⟩⟩⟩⟩⟩⟩⟩⟩⟩⟩⟩⟩⟩⟩
theorem qh_79 : Cond.fieldLink R_D 19 R_D "replacements" "[I" ∈ qa_WG := qa_in (List.mem_append_right _ (List.mem_of_getElem? (i := 79) (by decide +kernel))) rfl
theorem qh_75 : Cond.fieldLink R_D 9 R_D "commits" "LChangeStore$Commits;" ∈ qa_WG := qa_in (List.mem_append_right _ (List.mem_of_getElem? (i := 75) (by decide +kernel))) rfl
theorem qh_26 : Cond.fieldLinkNest R_D 59 R_C "size" "I" "ChangeStore" ∈ qa_NW := qa_nin (List.mem_append_right _ (List.mem_of_getElem? (i := 26) (by decide +kernel))) rfl
theorem qh_85 : Cond.fieldLink R_D 64 R_D "commitsAtOpening" "I" ∈ qa_WG := qa_in (List.mem_append_right _ (List.mem_of_getElem? (i := 85) (by decide +kernel))) rfl
theorem qh_137 : Cond.code y_A_fill prog_8_method_103_code 4 (Option.none : Option Jvm.ClassFile.FieldType) ∈ qa_WG := qa_in (List.mem_append_right _ (List.mem_of_getElem? (i := 137) (by decide +kernel))) rfl
theorem qh_6 : Cond.initialized R_A ∈ qa_WG := qa_in (List.mem_append_right _ (List.mem_of_getElem? (i := 6) (by decide +kernel))) rfl
theorem qh_135 : Cond.methodLink R_D 53 y_A_fill ∈ qa_WG := qa_in (List.mem_append_right _ (List.mem_of_getElem? (i := 135) (by decide +kernel))) rfl
theorem qh_136 : Cond.static y_A_fill ∈ qa_WG := qa_in (List.mem_append_right _ (List.mem_of_getElem? (i := 136) (by decide +kernel))) rfl
theorem qh_55 : Cond.fieldLink R_O 32 R_O "size" "I" ∈ qa_WG := qa_in (List.mem_append_right _ (List.mem_of_getElem? (i := 55) (by decide +kernel))) rfl
theorem qh_52 : Cond.fieldLink R_O 18 R_O "shown" "[J" ∈ qa_WG := qa_in (List.mem_append_right _ (List.mem_of_getElem? (i := 52) (by decide +kernel))) rfl
theorem qh_145 : Cond.code y_O_has prog_4_method_2_code 2 (Option.some Jvm.ClassFile.FieldType.boolean) ∈ qa_WG := qa_in (List.mem_append_right _ (List.mem_of_getElem? (i := 145) (by decide +kernel))) rfl
theorem qh_142 : Cond.methodLink R_O 36 y_O_has ∈ qa_WG := qa_in (List.mem_append_right _ (List.mem_of_getElem? (i := 142) (by decide +kernel))) rfl
theorem qh_143 : Cond.instanceMethod y_O_has ∈ qa_WG := qa_in (List.mem_append_right _ (List.mem_of_getElem? (i := 143) (by decide +kernel))) rfl
theorem qh_144 : Cond.selects R_O y_O_has y_O_has ∈ qa_WG := qa_in (List.mem_append_right _ (List.mem_of_getElem? (i := 144) (by decide +kernel))) rfl
theorem qh_3 : Cond.initialized R_O ∈ qa_WG := qa_in (List.mem_append_right _ (List.mem_of_getElem? (i := 3) (by decide +kernel))) rfl
theorem qh_53 : Cond.fieldLink R_O 22 R_O "workings" "[I" ∈ qa_WG := qa_in (List.mem_append_right _ (List.mem_of_getElem? (i := 53) (by decide +kernel))) rfl
theorem qh_54 : Cond.fieldLink R_O 25 R_O "marks" "[I" ∈ qa_WG := qa_in (List.mem_append_right _ (List.mem_of_getElem? (i := 54) (by decide +kernel))) rfl
theorem qh_156 : Cond.code y_S_isMark prog_1_method_29_code 1 (Option.some Jvm.ClassFile.FieldType.boolean) ∈ qa_WG := qa_in (List.mem_append_right _ (List.mem_of_getElem? (i := 156) (by decide +kernel))) rfl
theorem qh_154 : Cond.methodLinkNest R_O 40 y_S_isMark "ChangeStore" ∈ qa_NW := qa_nin (List.mem_append_right _ (List.mem_of_getElem? (i := 154) (by decide +kernel))) rfl
theorem qh_1 : Cond.initialized R_S ∈ qa_WG := qa_in (List.mem_append_right _ (List.mem_of_getElem? (i := 1) (by decide +kernel))) rfl
theorem qh_155 : Cond.static y_S_isMark ∈ qa_WG := qa_in (List.mem_append_right _ (List.mem_of_getElem? (i := 155) (by decide +kernel))) rfl
theorem qh_80 : Cond.fieldLink R_D 31 R_D "shown" "J" ∈ qa_WG := qa_in (List.mem_append_right _ (List.mem_of_getElem? (i := 80) (by decide +kernel))) rfl
theorem qh_82 : Cond.fieldLink R_D 39 R_D "working" "I" ∈ qa_WG := qa_in (List.mem_append_right _ (List.mem_of_getElem? (i := 82) (by decide +kernel))) rfl
theorem qh_76 : Cond.fieldLink R_D 15 R_D "marks" "[I" ∈ qa_WG := qa_in (List.mem_append_right _ (List.mem_of_getElem? (i := 76) (by decide +kernel))) rfl
theorem qh_153 : Cond.code y_O_markIn prog_4_method_8_code 3 (Option.some Jvm.ClassFile.FieldType.int) ∈ qa_WG := qa_in (List.mem_append_right _ (List.mem_of_getElem? (i := 153) (by decide +kernel))) rfl
theorem qh_150 : Cond.methodLink R_D 43 y_O_markIn ∈ qa_WG := qa_in (List.mem_append_right _ (List.mem_of_getElem? (i := 150) (by decide +kernel))) rfl
theorem qh_151 : Cond.instanceMethod y_O_markIn ∈ qa_WG := qa_in (List.mem_append_right _ (List.mem_of_getElem? (i := 151) (by decide +kernel))) rfl
theorem qh_152 : Cond.selects R_O y_O_markIn y_O_markIn ∈ qa_WG := qa_in (List.mem_append_right _ (List.mem_of_getElem? (i := 152) (by decide +kernel))) rfl
theorem qh_149 : Cond.code y_O_workingIn prog_4_method_7_code 2 (Option.some Jvm.ClassFile.FieldType.int) ∈ qa_WG := qa_in (List.mem_append_right _ (List.mem_of_getElem? (i := 149) (by decide +kernel))) rfl
theorem qh_146 : Cond.methodLink R_D 35 y_O_workingIn ∈ qa_WG := qa_in (List.mem_append_right _ (List.mem_of_getElem? (i := 146) (by decide +kernel))) rfl
theorem qh_147 : Cond.instanceMethod y_O_workingIn ∈ qa_WG := qa_in (List.mem_append_right _ (List.mem_of_getElem? (i := 147) (by decide +kernel))) rfl
theorem qh_148 : Cond.selects R_O y_O_workingIn y_O_workingIn ∈ qa_WG := qa_in (List.mem_append_right _ (List.mem_of_getElem? (i := 148) (by decide +kernel))) rfl
theorem qh_141 : Cond.code y_O_shownIn prog_4_method_6_code 2 (Option.some Jvm.ClassFile.FieldType.long) ∈ qa_WG := qa_in (List.mem_append_right _ (List.mem_of_getElem? (i := 141) (by decide +kernel))) rfl
theorem qh_138 : Cond.methodLink R_D 25 y_O_shownIn ∈ qa_WG := qa_in (List.mem_append_right _ (List.mem_of_getElem? (i := 138) (by decide +kernel))) rfl
theorem qh_139 : Cond.instanceMethod y_O_shownIn ∈ qa_WG := qa_in (List.mem_append_right _ (List.mem_of_getElem? (i := 139) (by decide +kernel))) rfl
theorem qh_140 : Cond.selects R_O y_O_shownIn y_O_shownIn ∈ qa_WG := qa_in (List.mem_append_right _ (List.mem_of_getElem? (i := 140) (by decide +kernel))) rfl
theorem qh_134 : Cond.code y_D_start prog_3_method_4_code 1 (Option.none : Option Jvm.ClassFile.FieldType) ∈ qa_WG := qa_in (List.mem_append_right _ (List.mem_of_getElem? (i := 134) (by decide +kernel))) rfl
theorem qh_131 : Cond.methodLink R_D 22 y_D_start ∈ qa_WG := qa_in (List.mem_append_right _ (List.mem_of_getElem? (i := 131) (by decide +kernel))) rfl
theorem qh_133 : Cond.instanceMethod y_D_start ∈ qa_WG := qa_in (List.mem_append_right _ (List.mem_of_getElem? (i := 133) (by decide +kernel))) rfl
theorem qh_s1 : Cond.selects R_D y_D_start y_D_start ∈ qa_WG := qa_in (List.mem_append_left _ (List.mem_of_getElem? (i := 1) (by decide +kernel))) rfl
theorem qh_4 : Cond.initialized R_D ∈ qa_WG := qa_in (List.mem_append_right _ (List.mem_of_getElem? (i := 4) (by decide +kernel))) rfl
theorem qh_102 : Cond.fieldLink R_S 28 R_S "draft" "LChangeStore$Draft;" ∈ qa_WG := qa_in (List.mem_append_right _ (List.mem_of_getElem? (i := 102) (by decide +kernel))) rfl
theorem qh_101 : Cond.fieldLink R_S 19 R_S "operations" "LChangeStore$Operations;" ∈ qa_WG := qa_in (List.mem_append_right _ (List.mem_of_getElem? (i := 101) (by decide +kernel))) rfl
theorem qh_103 : Cond.fieldLink R_S 32 R_S "currents" "[I" ∈ qa_WG := qa_in (List.mem_append_right _ (List.mem_of_getElem? (i := 103) (by decide +kernel))) rfl
theorem qh_104 : Cond.fieldLink R_S 36 R_S "chosen" "I" ∈ qa_WG := qa_in (List.mem_append_right _ (List.mem_of_getElem? (i := 104) (by decide +kernel))) rfl
theorem qh_130 : Cond.code y_D_open prog_3_method_2_code 4 (Option.none : Option Jvm.ClassFile.FieldType) ∈ qa_WG := qa_in (List.mem_append_right _ (List.mem_of_getElem? (i := 130) (by decide +kernel))) rfl
theorem qh_127 : Cond.methodLink R_S 126 y_D_open ∈ qa_WG := qa_in (List.mem_append_right _ (List.mem_of_getElem? (i := 127) (by decide +kernel))) rfl
theorem qh_128 : Cond.instanceMethod y_D_open ∈ qa_WG := qa_in (List.mem_append_right _ (List.mem_of_getElem? (i := 128) (by decide +kernel))) rfl
theorem qh_129 : Cond.selects R_D y_D_open y_D_open ∈ qa_WG := qa_in (List.mem_append_right _ (List.mem_of_getElem? (i := 129) (by decide +kernel))) rfl
theorem qh_163 : Cond.code y_S_isIn prog_1_method_31_code 3 (Option.some Jvm.ClassFile.FieldType.boolean) ∈ qa_WG := qa_in (List.mem_append_right _ (List.mem_of_getElem? (i := 163) (by decide +kernel))) rfl
theorem qh_161 : Cond.methodLinkNest R_D 67 y_S_isIn "ChangeStore" ∈ qa_NW := qa_nin (List.mem_append_right _ (List.mem_of_getElem? (i := 161) (by decide +kernel))) rfl
theorem qh_162 : Cond.static y_S_isIn ∈ qa_WG := qa_in (List.mem_append_right _ (List.mem_of_getElem? (i := 162) (by decide +kernel))) rfl
theorem qh_25 : Cond.fieldLink R_C 22 R_C "size" "I" ∈ qa_WG := qa_in (List.mem_append_right _ (List.mem_of_getElem? (i := 25) (by decide +kernel))) rfl
theorem qh_100 : Cond.fieldLink R_S 10 R_S "commits" "LChangeStore$Commits;" ∈ qa_WG := qa_in (List.mem_append_right _ (List.mem_of_getElem? (i := 100) (by decide +kernel))) rfl
theorem qh_175 : Cond.code y_O_isFull prog_4_method_3_code 1 (Option.some Jvm.ClassFile.FieldType.boolean) ∈ qa_WG := qa_in (List.mem_append_right _ (List.mem_of_getElem? (i := 175) (by decide +kernel))) rfl
theorem qh_172 : Cond.methodLink R_S 162 y_O_isFull ∈ qa_WG := qa_in (List.mem_append_right _ (List.mem_of_getElem? (i := 172) (by decide +kernel))) rfl
theorem qh_173 : Cond.instanceMethod y_O_isFull ∈ qa_WG := qa_in (List.mem_append_right _ (List.mem_of_getElem? (i := 173) (by decide +kernel))) rfl
theorem qh_174 : Cond.selects R_O y_O_isFull y_O_isFull ∈ qa_WG := qa_in (List.mem_append_right _ (List.mem_of_getElem? (i := 174) (by decide +kernel))) rfl
theorem qh_171 : Cond.code y_C_isFull prog_2_method_3_code 1 (Option.some Jvm.ClassFile.FieldType.boolean) ∈ qa_WG := qa_in (List.mem_append_right _ (List.mem_of_getElem? (i := 171) (by decide +kernel))) rfl
theorem qh_168 : Cond.methodLink R_S 159 y_C_isFull ∈ qa_WG := qa_in (List.mem_append_right _ (List.mem_of_getElem? (i := 168) (by decide +kernel))) rfl
theorem qh_169 : Cond.instanceMethod y_C_isFull ∈ qa_WG := qa_in (List.mem_append_right _ (List.mem_of_getElem? (i := 169) (by decide +kernel))) rfl
theorem qh_170 : Cond.selects R_C y_C_isFull y_C_isFull ∈ qa_WG := qa_in (List.mem_append_right _ (List.mem_of_getElem? (i := 170) (by decide +kernel))) rfl
theorem qh_2 : Cond.initialized R_C ∈ qa_WG := qa_in (List.mem_append_right _ (List.mem_of_getElem? (i := 2) (by decide +kernel))) rfl
theorem qh_23 : Cond.fieldLink R_C 15 R_C "changes" "[I" ∈ qa_WG := qa_in (List.mem_append_right _ (List.mem_of_getElem? (i := 23) (by decide +kernel))) rfl
theorem qh_22 : Cond.fieldLink R_C 9 R_C "parents" "[I" ∈ qa_WG := qa_in (List.mem_append_right _ (List.mem_of_getElem? (i := 22) (by decide +kernel))) rfl
theorem qh_24 : Cond.fieldLink R_C 18 R_C "counts" "[J" ∈ qa_WG := qa_in (List.mem_append_right _ (List.mem_of_getElem? (i := 24) (by decide +kernel))) rfl
theorem qh_192 : Cond.methodLink R_C 67 arraycopyName ∈ qa_WG := qa_in (List.mem_append_right _ (List.mem_of_getElem? (i := 192) (by decide +kernel))) rfl
theorem qh_191 : Cond.code y_C_start prog_2_method_17_code 2 (Option.some Jvm.ClassFile.FieldType.int) ∈ qa_WG := qa_in (List.mem_append_right _ (List.mem_of_getElem? (i := 191) (by decide +kernel))) rfl
theorem qh_189 : Cond.methodLink R_C 39 y_C_start ∈ qa_WG := qa_in (List.mem_append_right _ (List.mem_of_getElem? (i := 189) (by decide +kernel))) rfl
theorem qh_190 : Cond.static y_C_start ∈ qa_WG := qa_in (List.mem_append_right _ (List.mem_of_getElem? (i := 190) (by decide +kernel))) rfl
theorem qh_188 : Cond.code y_C_has prog_2_method_2_code 2 (Option.some Jvm.ClassFile.FieldType.boolean) ∈ qa_WG := qa_in (List.mem_append_right _ (List.mem_of_getElem? (i := 188) (by decide +kernel))) rfl
theorem qh_185 : Cond.methodLink R_C 29 y_C_has ∈ qa_WG := qa_in (List.mem_append_right _ (List.mem_of_getElem? (i := 185) (by decide +kernel))) rfl
theorem qh_186 : Cond.instanceMethod y_C_has ∈ qa_WG := qa_in (List.mem_append_right _ (List.mem_of_getElem? (i := 186) (by decide +kernel))) rfl
theorem qh_187 : Cond.selects R_C y_C_has y_C_has ∈ qa_WG := qa_in (List.mem_append_right _ (List.mem_of_getElem? (i := 187) (by decide +kernel))) rfl
theorem qh_180 : Cond.methodLink R_C 59 y_C_isFull ∈ qa_WG := qa_in (List.mem_append_right _ (List.mem_of_getElem? (i := 180) (by decide +kernel))) rfl
theorem qh_27 : Cond.fieldLink R_C 26 R_C "lastChange" "I" ∈ qa_WG := qa_in (List.mem_append_right _ (List.mem_of_getElem? (i := 27) (by decide +kernel))) rfl
theorem qh_184 : Cond.code y_C_addCopy prog_2_method_12_code 5 (Option.some Jvm.ClassFile.FieldType.int) ∈ qa_WG := qa_in (List.mem_append_right _ (List.mem_of_getElem? (i := 184) (by decide +kernel))) rfl
theorem qh_181 : Cond.methodLink R_C 63 y_C_addCopy ∈ qa_WG := qa_in (List.mem_append_right _ (List.mem_of_getElem? (i := 181) (by decide +kernel))) rfl
theorem qh_182 : Cond.instanceMethod y_C_addCopy ∈ qa_WG := qa_in (List.mem_append_right _ (List.mem_of_getElem? (i := 182) (by decide +kernel))) rfl
theorem qh_183 : Cond.selects R_C y_C_addCopy y_C_addCopy ∈ qa_WG := qa_in (List.mem_append_right _ (List.mem_of_getElem? (i := 183) (by decide +kernel))) rfl
theorem qh_49 : Cond.code y_S_bit prog_1_method_30_code 1 (Option.some Jvm.ClassFile.FieldType.long) ∈ qa_WG := qa_in (List.mem_append_right _ (List.mem_of_getElem? (i := 49) (by decide +kernel))) rfl
theorem qh_199 : Cond.methodLinkNest R_D 71 y_S_bit "ChangeStore" ∈ qa_NW := qa_nin (List.mem_append_right _ (List.mem_of_getElem? (i := 199) (by decide +kernel))) rfl
theorem qh_48 : Cond.static y_S_bit ∈ qa_WG := qa_in (List.mem_append_right _ (List.mem_of_getElem? (i := 48) (by decide +kernel))) rfl
theorem qh_160 : Cond.code y_D_shows prog_3_method_6_code 2 (Option.some Jvm.ClassFile.FieldType.boolean) ∈ qa_WG := qa_in (List.mem_append_right _ (List.mem_of_getElem? (i := 160) (by decide +kernel))) rfl
theorem qh_216 : Cond.methodLink R_D 107 y_D_shows ∈ qa_WG := qa_in (List.mem_append_right _ (List.mem_of_getElem? (i := 216) (by decide +kernel))) rfl
theorem qh_158 : Cond.instanceMethod y_D_shows ∈ qa_WG := qa_in (List.mem_append_right _ (List.mem_of_getElem? (i := 158) (by decide +kernel))) rfl
theorem qh_159 : Cond.selects R_D y_D_shows y_D_shows ∈ qa_WG := qa_in (List.mem_append_right _ (List.mem_of_getElem? (i := 159) (by decide +kernel))) rfl
theorem qh_220 : Cond.code y_C_parentOf prog_2_method_4_code 2 (Option.some Jvm.ClassFile.FieldType.int) ∈ qa_WG := qa_in (List.mem_append_right _ (List.mem_of_getElem? (i := 220) (by decide +kernel))) rfl
theorem qh_217 : Cond.methodLink R_D 93 y_C_parentOf ∈ qa_WG := qa_in (List.mem_append_right _ (List.mem_of_getElem? (i := 217) (by decide +kernel))) rfl
theorem qh_218 : Cond.instanceMethod y_C_parentOf ∈ qa_WG := qa_in (List.mem_append_right _ (List.mem_of_getElem? (i := 218) (by decide +kernel))) rfl
theorem qh_219 : Cond.selects R_C y_C_parentOf y_C_parentOf ∈ qa_WG := qa_in (List.mem_append_right _ (List.mem_of_getElem? (i := 219) (by decide +kernel))) rfl
theorem qh_226 : Cond.methodLinkNest R_C 47 y_S_bit "ChangeStore" ∈ qa_NW := qa_nin (List.mem_append_right _ (List.mem_of_getElem? (i := 226) (by decide +kernel))) rfl
theorem qh_228 : Cond.methodLinkNest R_C 55 y_S_isIn "ChangeStore" ∈ qa_NW := qa_nin (List.mem_append_right _ (List.mem_of_getElem? (i := 228) (by decide +kernel))) rfl
theorem qh_227 : Cond.methodLink R_C 51 y_C_parentOf ∈ qa_WG := qa_in (List.mem_append_right _ (List.mem_of_getElem? (i := 227) (by decide +kernel))) rfl
theorem qh_246 : Cond.code y_C_latestOfChange prog_2_method_10_code 5 (Option.some Jvm.ClassFile.FieldType.int) ∈ qa_WG := qa_in (List.mem_append_right _ (List.mem_of_getElem? (i := 246) (by decide +kernel))) rfl
theorem qh_243 : Cond.methodLink R_D 116 y_C_latestOfChange ∈ qa_WG := qa_in (List.mem_append_right _ (List.mem_of_getElem? (i := 243) (by decide +kernel))) rfl
theorem qh_244 : Cond.instanceMethod y_C_latestOfChange ∈ qa_WG := qa_in (List.mem_append_right _ (List.mem_of_getElem? (i := 244) (by decide +kernel))) rfl
theorem qh_245 : Cond.selects R_C y_C_latestOfChange y_C_latestOfChange ∈ qa_WG := qa_in (List.mem_append_right _ (List.mem_of_getElem? (i := 245) (by decide +kernel))) rfl
theorem qh_242 : Cond.code y_C_changeOf prog_2_method_5_code 2 (Option.some Jvm.ClassFile.FieldType.int) ∈ qa_WG := qa_in (List.mem_append_right _ (List.mem_of_getElem? (i := 242) (by decide +kernel))) rfl
theorem qh_239 : Cond.methodLink R_D 113 y_C_changeOf ∈ qa_WG := qa_in (List.mem_append_right _ (List.mem_of_getElem? (i := 239) (by decide +kernel))) rfl
theorem qh_240 : Cond.instanceMethod y_C_changeOf ∈ qa_WG := qa_in (List.mem_append_right _ (List.mem_of_getElem? (i := 240) (by decide +kernel))) rfl
theorem qh_241 : Cond.selects R_C y_C_changeOf y_C_changeOf ∈ qa_WG := qa_in (List.mem_append_right _ (List.mem_of_getElem? (i := 241) (by decide +kernel))) rfl
theorem qh_238 : Cond.methodLink R_D 74 y_C_has ∈ qa_WG := qa_in (List.mem_append_right _ (List.mem_of_getElem? (i := 238) (by decide +kernel))) rfl
theorem qh_237 : Cond.code y_D_nextTowardsPlace prog_3_method_14_code 5 (Option.some Jvm.ClassFile.FieldType.int) ∈ qa_WG := qa_in (List.mem_append_right _ (List.mem_of_getElem? (i := 237) (by decide +kernel))) rfl
theorem qh_234 : Cond.methodLink R_D 110 y_D_nextTowardsPlace ∈ qa_WG := qa_in (List.mem_append_right _ (List.mem_of_getElem? (i := 234) (by decide +kernel))) rfl
theorem qh_236 : Cond.instanceMethod y_D_nextTowardsPlace ∈ qa_WG := qa_in (List.mem_append_right _ (List.mem_of_getElem? (i := 236) (by decide +kernel))) rfl
theorem qh_s6 : Cond.selects R_D y_D_nextTowardsPlace y_D_nextTowardsPlace ∈ qa_WG := qa_in (List.mem_append_left _ (List.mem_of_getElem? (i := 6) (by decide +kernel))) rfl
theorem qh_265 : Cond.code y_S_isValue prog_1_method_28_code 1 (Option.some Jvm.ClassFile.FieldType.boolean) ∈ qa_WG := qa_in (List.mem_append_right _ (List.mem_of_getElem? (i := 265) (by decide +kernel))) rfl
theorem qh_263 : Cond.methodLinkNest R_C 36 y_S_isValue "ChangeStore" ∈ qa_NW := qa_nin (List.mem_append_right _ (List.mem_of_getElem? (i := 263) (by decide +kernel))) rfl
theorem qh_264 : Cond.static y_S_isValue ∈ qa_WG := qa_in (List.mem_append_right _ (List.mem_of_getElem? (i := 264) (by decide +kernel))) rfl
theorem qh_262 : Cond.code y_S_isPath prog_1_method_27_code 1 (Option.some Jvm.ClassFile.FieldType.boolean) ∈ qa_WG := qa_in (List.mem_append_right _ (List.mem_of_getElem? (i := 262) (by decide +kernel))) rfl
theorem qh_260 : Cond.methodLinkNest R_C 33 y_S_isPath "ChangeStore" ∈ qa_NW := qa_nin (List.mem_append_right _ (List.mem_of_getElem? (i := 260) (by decide +kernel))) rfl
theorem qh_261 : Cond.static y_S_isPath ∈ qa_WG := qa_in (List.mem_append_right _ (List.mem_of_getElem? (i := 261) (by decide +kernel))) rfl
theorem qh_259 : Cond.code y_C_makePlain prog_2_method_15_code 5 (Option.none : Option Jvm.ClassFile.FieldType) ∈ qa_WG := qa_in (List.mem_append_right _ (List.mem_of_getElem? (i := 259) (by decide +kernel))) rfl
theorem qh_256 : Cond.methodLink R_C 80 y_C_makePlain ∈ qa_WG := qa_in (List.mem_append_right _ (List.mem_of_getElem? (i := 256) (by decide +kernel))) rfl
theorem qh_257 : Cond.instanceMethod y_C_makePlain ∈ qa_WG := qa_in (List.mem_append_right _ (List.mem_of_getElem? (i := 257) (by decide +kernel))) rfl
theorem qh_258 : Cond.selects R_C y_C_makePlain y_C_makePlain ∈ qa_WG := qa_in (List.mem_append_right _ (List.mem_of_getElem? (i := 258) (by decide +kernel))) rfl
theorem qh_255 : Cond.code y_C_addDifference prog_2_method_14_code 9 (Option.none : Option Jvm.ClassFile.FieldType) ∈ qa_WG := qa_in (List.mem_append_right _ (List.mem_of_getElem? (i := 255) (by decide +kernel))) rfl
theorem qh_252 : Cond.methodLink R_C 76 y_C_addDifference ∈ qa_WG := qa_in (List.mem_append_right _ (List.mem_of_getElem? (i := 252) (by decide +kernel))) rfl
theorem qh_254 : Cond.instanceMethod y_C_addDifference ∈ qa_WG := qa_in (List.mem_append_right _ (List.mem_of_getElem? (i := 254) (by decide +kernel))) rfl
theorem qh_s7 : Cond.selects R_C y_C_addDifference y_C_addDifference ∈ qa_WG := qa_in (List.mem_append_left _ (List.mem_of_getElem? (i := 7) (by decide +kernel))) rfl
theorem qh_251 : Cond.methodLink R_C 73 y_C_changeOf ∈ qa_WG := qa_in (List.mem_append_right _ (List.mem_of_getElem? (i := 251) (by decide +kernel))) rfl
theorem qh_229 : Cond.constantLong R_D 47 (-1) ∈ qa_WG := qa_in (List.mem_append_right _ (List.mem_of_getElem? (i := 229) (by decide +kernel))) rfl
theorem qh_198 : Cond.code y_D_show prog_3_method_7_code 2 (Option.none : Option Jvm.ClassFile.FieldType) ∈ qa_WG := qa_in (List.mem_append_right _ (List.mem_of_getElem? (i := 198) (by decide +kernel))) rfl
theorem qh_270 : Cond.methodLink R_D 78 y_D_show ∈ qa_WG := qa_in (List.mem_append_right _ (List.mem_of_getElem? (i := 270) (by decide +kernel))) rfl
theorem qh_196 : Cond.instanceMethod y_D_show ∈ qa_WG := qa_in (List.mem_append_right _ (List.mem_of_getElem? (i := 196) (by decide +kernel))) rfl
theorem qh_197 : Cond.selects R_D y_D_show y_D_show ∈ qa_WG := qa_in (List.mem_append_right _ (List.mem_of_getElem? (i := 197) (by decide +kernel))) rfl
theorem qh_269 : Cond.code y_D_replace prog_3_method_9_code 3 (Option.none : Option Jvm.ClassFile.FieldType) ∈ qa_WG := qa_in (List.mem_append_right _ (List.mem_of_getElem? (i := 269) (by decide +kernel))) rfl
theorem qh_266 : Cond.methodLink R_D 103 y_D_replace ∈ qa_WG := qa_in (List.mem_append_right _ (List.mem_of_getElem? (i := 266) (by decide +kernel))) rfl
theorem qh_267 : Cond.instanceMethod y_D_replace ∈ qa_WG := qa_in (List.mem_append_right _ (List.mem_of_getElem? (i := 267) (by decide +kernel))) rfl
theorem qh_268 : Cond.selects R_D y_D_replace y_D_replace ∈ qa_WG := qa_in (List.mem_append_right _ (List.mem_of_getElem? (i := 268) (by decide +kernel))) rfl
theorem qh_250 : Cond.code y_C_addMoved prog_2_method_13_code 6 (Option.some Jvm.ClassFile.FieldType.int) ∈ qa_WG := qa_in (List.mem_append_right _ (List.mem_of_getElem? (i := 250) (by decide +kernel))) rfl
theorem qh_247 : Cond.methodLink R_D 100 y_C_addMoved ∈ qa_WG := qa_in (List.mem_append_right _ (List.mem_of_getElem? (i := 247) (by decide +kernel))) rfl
theorem qh_248 : Cond.instanceMethod y_C_addMoved ∈ qa_WG := qa_in (List.mem_append_right _ (List.mem_of_getElem? (i := 248) (by decide +kernel))) rfl
theorem qh_249 : Cond.selects R_C y_C_addMoved y_C_addMoved ∈ qa_WG := qa_in (List.mem_append_right _ (List.mem_of_getElem? (i := 249) (by decide +kernel))) rfl
theorem qh_233 : Cond.code y_D_placeOf prog_3_method_13_code 6 (Option.some Jvm.ClassFile.FieldType.int) ∈ qa_WG := qa_in (List.mem_append_right _ (List.mem_of_getElem? (i := 233) (by decide +kernel))) rfl
theorem qh_230 : Cond.methodLink R_D 96 y_D_placeOf ∈ qa_WG := qa_in (List.mem_append_right _ (List.mem_of_getElem? (i := 230) (by decide +kernel))) rfl
theorem qh_232 : Cond.instanceMethod y_D_placeOf ∈ qa_WG := qa_in (List.mem_append_right _ (List.mem_of_getElem? (i := 232) (by decide +kernel))) rfl
theorem qh_s5 : Cond.selects R_D y_D_placeOf y_D_placeOf ∈ qa_WG := qa_in (List.mem_append_left _ (List.mem_of_getElem? (i := 5) (by decide +kernel))) rfl
theorem qh_225 : Cond.code y_C_withAllThatComesOf prog_2_method_8_code 5 (Option.some Jvm.ClassFile.FieldType.long) ∈ qa_WG := qa_in (List.mem_append_right _ (List.mem_of_getElem? (i := 225) (by decide +kernel))) rfl
theorem qh_222 : Cond.methodLink R_D 90 y_C_withAllThatComesOf ∈ qa_WG := qa_in (List.mem_append_right _ (List.mem_of_getElem? (i := 222) (by decide +kernel))) rfl
theorem qh_223 : Cond.instanceMethod y_C_withAllThatComesOf ∈ qa_WG := qa_in (List.mem_append_right _ (List.mem_of_getElem? (i := 223) (by decide +kernel))) rfl
theorem qh_224 : Cond.selects R_C y_C_withAllThatComesOf y_C_withAllThatComesOf ∈ qa_WG := qa_in (List.mem_append_right _ (List.mem_of_getElem? (i := 224) (by decide +kernel))) rfl
theorem qh_221 : Cond.methodLink R_D 86 y_C_isFull ∈ qa_WG := qa_in (List.mem_append_right _ (List.mem_of_getElem? (i := 221) (by decide +kernel))) rfl
theorem qh_215 : Cond.code y_D_lowestOrphan prog_3_method_11_code 2 (Option.some Jvm.ClassFile.FieldType.int) ∈ qa_WG := qa_in (List.mem_append_right _ (List.mem_of_getElem? (i := 215) (by decide +kernel))) rfl
theorem qh_212 : Cond.methodLink R_D 82 y_D_lowestOrphan ∈ qa_WG := qa_in (List.mem_append_right _ (List.mem_of_getElem? (i := 212) (by decide +kernel))) rfl
theorem qh_214 : Cond.instanceMethod y_D_lowestOrphan ∈ qa_WG := qa_in (List.mem_append_right _ (List.mem_of_getElem? (i := 214) (by decide +kernel))) rfl
theorem qh_s4 : Cond.selects R_D y_D_lowestOrphan y_D_lowestOrphan ∈ qa_WG := qa_in (List.mem_append_left _ (List.mem_of_getElem? (i := 4) (by decide +kernel))) rfl
theorem qh_50 : Cond.fieldLink R_O 9 R_O "firsts" "[I" ∈ qa_WG := qa_in (List.mem_append_right _ (List.mem_of_getElem? (i := 50) (by decide +kernel))) rfl
theorem qh_51 : Cond.fieldLink R_O 15 R_O "seconds" "[I" ∈ qa_WG := qa_in (List.mem_append_right _ (List.mem_of_getElem? (i := 51) (by decide +kernel))) rfl
theorem qh_81 : Cond.fieldLinkNest R_O 47 R_D "shown" "J" "ChangeStore" ∈ qa_NW := qa_nin (List.mem_append_right _ (List.mem_of_getElem? (i := 81) (by decide +kernel))) rfl
theorem qh_84 : Cond.fieldLinkNest R_O 52 R_D "working" "I" "ChangeStore" ∈ qa_NW := qa_nin (List.mem_append_right _ (List.mem_of_getElem? (i := 84) (by decide +kernel))) rfl
theorem qh_78 : Cond.fieldLinkNest R_O 55 R_D "marks" "[I" "ChangeStore" ∈ qa_NW := qa_nin (List.mem_append_right _ (List.mem_of_getElem? (i := 78) (by decide +kernel))) rfl
theorem qh_284 : Cond.methodLink R_O 56 arraycopyName ∈ qa_WG := qa_in (List.mem_append_right _ (List.mem_of_getElem? (i := 284) (by decide +kernel))) rfl
theorem qh_283 : Cond.methodLink R_O 43 y_O_isFull ∈ qa_WG := qa_in (List.mem_append_right _ (List.mem_of_getElem? (i := 283) (by decide +kernel))) rfl
theorem qh_86 : Cond.fieldLinkNest R_S 166 R_D "commitsAtOpening" "I" "ChangeStore" ∈ qa_NW := qa_nin (List.mem_append_right _ (List.mem_of_getElem? (i := 86) (by decide +kernel))) rfl
theorem qh_274 : Cond.code y_C_dropFrom prog_2_method_16_code 2 (Option.none : Option Jvm.ClassFile.FieldType) ∈ qa_WG := qa_in (List.mem_append_right _ (List.mem_of_getElem? (i := 274) (by decide +kernel))) rfl
theorem qh_271 : Cond.methodLink R_S 169 y_C_dropFrom ∈ qa_WG := qa_in (List.mem_append_right _ (List.mem_of_getElem? (i := 271) (by decide +kernel))) rfl
theorem qh_272 : Cond.instanceMethod y_C_dropFrom ∈ qa_WG := qa_in (List.mem_append_right _ (List.mem_of_getElem? (i := 272) (by decide +kernel))) rfl
theorem qh_273 : Cond.selects R_C y_C_dropFrom y_C_dropFrom ∈ qa_WG := qa_in (List.mem_append_right _ (List.mem_of_getElem? (i := 273) (by decide +kernel))) rfl
theorem qh_282 : Cond.code y_O_add prog_4_method_9_code 5 (Option.some Jvm.ClassFile.FieldType.int) ∈ qa_WG := qa_in (List.mem_append_right _ (List.mem_of_getElem? (i := 282) (by decide +kernel))) rfl
theorem qh_279 : Cond.methodLink R_S 175 y_O_add ∈ qa_WG := qa_in (List.mem_append_right _ (List.mem_of_getElem? (i := 279) (by decide +kernel))) rfl
theorem qh_280 : Cond.instanceMethod y_O_add ∈ qa_WG := qa_in (List.mem_append_right _ (List.mem_of_getElem? (i := 280) (by decide +kernel))) rfl
theorem qh_281 : Cond.selects R_O y_O_add y_O_add ∈ qa_WG := qa_in (List.mem_append_right _ (List.mem_of_getElem? (i := 281) (by decide +kernel))) rfl
theorem qh_278 : Cond.code y_D_settlePointers prog_3_method_12_code 2 (Option.none : Option Jvm.ClassFile.FieldType) ∈ qa_WG := qa_in (List.mem_append_right _ (List.mem_of_getElem? (i := 278) (by decide +kernel))) rfl
theorem qh_275 : Cond.methodLink R_S 172 y_D_settlePointers ∈ qa_WG := qa_in (List.mem_append_right _ (List.mem_of_getElem? (i := 275) (by decide +kernel))) rfl
theorem qh_276 : Cond.instanceMethod y_D_settlePointers ∈ qa_WG := qa_in (List.mem_append_right _ (List.mem_of_getElem? (i := 276) (by decide +kernel))) rfl
theorem qh_277 : Cond.selects R_D y_D_settlePointers y_D_settlePointers ∈ qa_WG := qa_in (List.mem_append_right _ (List.mem_of_getElem? (i := 277) (by decide +kernel))) rfl
theorem qh_211 : Cond.code y_D_settleCommits prog_3_method_10_code 5 (Option.some Jvm.ClassFile.FieldType.boolean) ∈ qa_WG := qa_in (List.mem_append_right _ (List.mem_of_getElem? (i := 211) (by decide +kernel))) rfl
theorem qh_208 : Cond.methodLink R_S 163 y_D_settleCommits ∈ qa_WG := qa_in (List.mem_append_right _ (List.mem_of_getElem? (i := 208) (by decide +kernel))) rfl
theorem qh_209 : Cond.instanceMethod y_D_settleCommits ∈ qa_WG := qa_in (List.mem_append_right _ (List.mem_of_getElem? (i := 209) (by decide +kernel))) rfl
theorem qh_210 : Cond.selects R_D y_D_settleCommits y_D_settleCommits ∈ qa_WG := qa_in (List.mem_append_right _ (List.mem_of_getElem? (i := 210) (by decide +kernel))) rfl
theorem qh_207 : Cond.code y_S_keepDraft prog_1_method_26_code 4 (Option.some Jvm.ClassFile.FieldType.int) ∈ qa_WG := qa_in (List.mem_append_right _ (List.mem_of_getElem? (i := 207) (by decide +kernel))) rfl
theorem qh_204 : Cond.methodLink R_S 65 y_S_keepDraft ∈ qa_WG := qa_in (List.mem_append_right _ (List.mem_of_getElem? (i := 204) (by decide +kernel))) rfl
theorem qh_206 : Cond.instanceMethod y_S_keepDraft ∈ qa_WG := qa_in (List.mem_append_right _ (List.mem_of_getElem? (i := 206) (by decide +kernel))) rfl
theorem qh_s3 : Cond.selects R_S y_S_keepDraft y_S_keepDraft ∈ qa_WG := qa_in (List.mem_append_left _ (List.mem_of_getElem? (i := 3) (by decide +kernel))) rfl
theorem qh_203 : Cond.code y_D_workOn prog_3_method_8_code 2 (Option.none : Option Jvm.ClassFile.FieldType) ∈ qa_WG := qa_in (List.mem_append_right _ (List.mem_of_getElem? (i := 203) (by decide +kernel))) rfl
theorem qh_200 : Cond.methodLink R_S 62 y_D_workOn ∈ qa_WG := qa_in (List.mem_append_right _ (List.mem_of_getElem? (i := 200) (by decide +kernel))) rfl
theorem qh_201 : Cond.instanceMethod y_D_workOn ∈ qa_WG := qa_in (List.mem_append_right _ (List.mem_of_getElem? (i := 201) (by decide +kernel))) rfl
theorem qh_202 : Cond.selects R_D y_D_workOn y_D_workOn ∈ qa_WG := qa_in (List.mem_append_right _ (List.mem_of_getElem? (i := 202) (by decide +kernel))) rfl
theorem qh_195 : Cond.methodLink R_S 58 y_D_show ∈ qa_WG := qa_in (List.mem_append_right _ (List.mem_of_getElem? (i := 195) (by decide +kernel))) rfl
theorem qh_179 : Cond.code y_C_addNewChange prog_2_method_11_code 2 (Option.some Jvm.ClassFile.FieldType.int) ∈ qa_WG := qa_in (List.mem_append_right _ (List.mem_of_getElem? (i := 179) (by decide +kernel))) rfl
theorem qh_176 : Cond.methodLink R_S 54 y_C_addNewChange ∈ qa_WG := qa_in (List.mem_append_right _ (List.mem_of_getElem? (i := 176) (by decide +kernel))) rfl
theorem qh_177 : Cond.instanceMethod y_C_addNewChange ∈ qa_WG := qa_in (List.mem_append_right _ (List.mem_of_getElem? (i := 177) (by decide +kernel))) rfl
theorem qh_178 : Cond.selects R_C y_C_addNewChange y_C_addNewChange ∈ qa_WG := qa_in (List.mem_append_right _ (List.mem_of_getElem? (i := 178) (by decide +kernel))) rfl
theorem qh_167 : Cond.code y_S_hasRoomForCommit prog_1_method_23_code 1 (Option.some Jvm.ClassFile.FieldType.boolean) ∈ qa_WG := qa_in (List.mem_append_right _ (List.mem_of_getElem? (i := 167) (by decide +kernel))) rfl
theorem qh_164 : Cond.methodLink R_S 50 y_S_hasRoomForCommit ∈ qa_WG := qa_in (List.mem_append_right _ (List.mem_of_getElem? (i := 164) (by decide +kernel))) rfl
theorem qh_166 : Cond.instanceMethod y_S_hasRoomForCommit ∈ qa_WG := qa_in (List.mem_append_right _ (List.mem_of_getElem? (i := 166) (by decide +kernel))) rfl
theorem qh_s2 : Cond.selects R_S y_S_hasRoomForCommit y_S_hasRoomForCommit ∈ qa_WG := qa_in (List.mem_append_left _ (List.mem_of_getElem? (i := 2) (by decide +kernel))) rfl
theorem qh_157 : Cond.methodLink R_S 46 y_D_shows ∈ qa_WG := qa_in (List.mem_append_right _ (List.mem_of_getElem? (i := 157) (by decide +kernel))) rfl
theorem qh_126 : Cond.code y_S_openDraft prog_1_method_25_code 1 (Option.none : Option Jvm.ClassFile.FieldType) ∈ qa_WG := qa_in (List.mem_append_right _ (List.mem_of_getElem? (i := 126) (by decide +kernel))) rfl
theorem qh_123 : Cond.methodLink R_S 43 y_S_openDraft ∈ qa_WG := qa_in (List.mem_append_right _ (List.mem_of_getElem? (i := 123) (by decide +kernel))) rfl
theorem qh_125 : Cond.instanceMethod y_S_openDraft ∈ qa_WG := qa_in (List.mem_append_right _ (List.mem_of_getElem? (i := 125) (by decide +kernel))) rfl
theorem qh_s0 : Cond.selects R_S y_S_openDraft y_S_openDraft ∈ qa_WG := qa_in (List.mem_append_left _ (List.mem_of_getElem? (i := 0) (by decide +kernel))) rfl
theorem qh_298 : Cond.code y_C_countOf prog_2_method_6_code 4 (Option.some Jvm.ClassFile.FieldType.long) ∈ qa_WG := qa_in (List.mem_append_right _ (List.mem_of_getElem? (i := 298) (by decide +kernel))) rfl
theorem qh_295 : Cond.methodLink R_C 43 y_C_countOf ∈ qa_WG := qa_in (List.mem_append_right _ (List.mem_of_getElem? (i := 295) (by decide +kernel))) rfl
theorem qh_296 : Cond.instanceMethod y_C_countOf ∈ qa_WG := qa_in (List.mem_append_right _ (List.mem_of_getElem? (i := 296) (by decide +kernel))) rfl
theorem qh_297 : Cond.selects R_C y_C_countOf y_C_countOf ∈ qa_WG := qa_in (List.mem_append_right _ (List.mem_of_getElem? (i := 297) (by decide +kernel))) rfl
theorem qh_83 : Cond.fieldLinkNest R_S 69 R_D "working" "I" "ChangeStore" ∈ qa_NW := qa_nin (List.mem_append_right _ (List.mem_of_getElem? (i := 83) (by decide +kernel))) rfl
theorem qh_303 : Cond.methodLink R_S 96 y_D_replace ∈ qa_WG := qa_in (List.mem_append_right _ (List.mem_of_getElem? (i := 303) (by decide +kernel))) rfl
theorem qh_302 : Cond.methodLink R_S 92 y_C_makePlain ∈ qa_WG := qa_in (List.mem_append_right _ (List.mem_of_getElem? (i := 302) (by decide +kernel))) rfl
theorem qh_301 : Cond.methodLink R_S 88 y_C_addCopy ∈ qa_WG := qa_in (List.mem_append_right _ (List.mem_of_getElem? (i := 301) (by decide +kernel))) rfl
theorem qh_300 : Cond.methodLink R_S 85 y_C_parentOf ∈ qa_WG := qa_in (List.mem_append_right _ (List.mem_of_getElem? (i := 300) (by decide +kernel))) rfl
theorem qh_299 : Cond.methodLink R_S 82 y_C_changeOf ∈ qa_WG := qa_in (List.mem_append_right _ (List.mem_of_getElem? (i := 299) (by decide +kernel))) rfl
theorem qh_294 : Cond.code y_C_isPlain prog_2_method_7_code 5 (Option.some Jvm.ClassFile.FieldType.boolean) ∈ qa_WG := qa_in (List.mem_append_right _ (List.mem_of_getElem? (i := 294) (by decide +kernel))) rfl
theorem qh_291 : Cond.methodLink R_S 78 y_C_isPlain ∈ qa_WG := qa_in (List.mem_append_right _ (List.mem_of_getElem? (i := 291) (by decide +kernel))) rfl
theorem qh_292 : Cond.instanceMethod y_C_isPlain ∈ qa_WG := qa_in (List.mem_append_right _ (List.mem_of_getElem? (i := 292) (by decide +kernel))) rfl
theorem qh_293 : Cond.selects R_C y_C_isPlain y_C_isPlain ∈ qa_WG := qa_in (List.mem_append_right _ (List.mem_of_getElem? (i := 293) (by decide +kernel))) rfl
theorem qh_290 : Cond.methodLink R_S 75 y_S_isValue ∈ qa_WG := qa_in (List.mem_append_right _ (List.mem_of_getElem? (i := 290) (by decide +kernel))) rfl
theorem qh_289 : Cond.methodLink R_S 72 y_S_isPath ∈ qa_WG := qa_in (List.mem_append_right _ (List.mem_of_getElem? (i := 289) (by decide +kernel))) rfl
theorem qh_314 : Cond.methodLink R_S 111 y_C_addMoved ∈ qa_WG := qa_in (List.mem_append_right _ (List.mem_of_getElem? (i := 314) (by decide +kernel))) rfl
theorem qh_313 : Cond.methodLink R_S 107 y_S_isIn ∈ qa_WG := qa_in (List.mem_append_right _ (List.mem_of_getElem? (i := 313) (by decide +kernel))) rfl
theorem qh_312 : Cond.methodLink R_S 103 y_C_withAllThatComesOf ∈ qa_WG := qa_in (List.mem_append_right _ (List.mem_of_getElem? (i := 312) (by decide +kernel))) rfl
theorem qh_311 : Cond.code y_S_isReplaceable prog_1_method_24_code 2 (Option.some Jvm.ClassFile.FieldType.boolean) ∈ qa_WG := qa_in (List.mem_append_right _ (List.mem_of_getElem? (i := 311) (by decide +kernel))) rfl
theorem qh_308 : Cond.methodLink R_S 100 y_S_isReplaceable ∈ qa_WG := qa_in (List.mem_append_right _ (List.mem_of_getElem? (i := 308) (by decide +kernel))) rfl
theorem qh_310 : Cond.instanceMethod y_S_isReplaceable ∈ qa_WG := qa_in (List.mem_append_right _ (List.mem_of_getElem? (i := 310) (by decide +kernel))) rfl
theorem qh_s8 : Cond.selects R_S y_S_isReplaceable y_S_isReplaceable ∈ qa_WG := qa_in (List.mem_append_left _ (List.mem_of_getElem? (i := 8) (by decide +kernel))) rfl
theorem qh_77 : Cond.fieldLinkNest R_S 117 R_D "marks" "[I" "ChangeStore" ∈ qa_NW := qa_nin (List.mem_append_right _ (List.mem_of_getElem? (i := 77) (by decide +kernel))) rfl
theorem qh_331 : Cond.methodLink R_S 114 y_S_isMark ∈ qa_WG := qa_in (List.mem_append_right _ (List.mem_of_getElem? (i := 331) (by decide +kernel))) rfl
theorem qh_343 : Cond.code y_O_secondBefore prog_4_method_5_code 2 (Option.some Jvm.ClassFile.FieldType.int) ∈ qa_WG := qa_in (List.mem_append_right _ (List.mem_of_getElem? (i := 343) (by decide +kernel))) rfl
theorem qh_340 : Cond.methodLink R_S 123 y_O_secondBefore ∈ qa_WG := qa_in (List.mem_append_right _ (List.mem_of_getElem? (i := 340) (by decide +kernel))) rfl
theorem qh_341 : Cond.instanceMethod y_O_secondBefore ∈ qa_WG := qa_in (List.mem_append_right _ (List.mem_of_getElem? (i := 341) (by decide +kernel))) rfl
theorem qh_342 : Cond.selects R_O y_O_secondBefore y_O_secondBefore ∈ qa_WG := qa_in (List.mem_append_right _ (List.mem_of_getElem? (i := 342) (by decide +kernel))) rfl
theorem qh_339 : Cond.code y_O_firstBefore prog_4_method_4_code 2 (Option.some Jvm.ClassFile.FieldType.int) ∈ qa_WG := qa_in (List.mem_append_right _ (List.mem_of_getElem? (i := 339) (by decide +kernel))) rfl
theorem qh_336 : Cond.methodLink R_S 120 y_O_firstBefore ∈ qa_WG := qa_in (List.mem_append_right _ (List.mem_of_getElem? (i := 336) (by decide +kernel))) rfl
theorem qh_337 : Cond.instanceMethod y_O_firstBefore ∈ qa_WG := qa_in (List.mem_append_right _ (List.mem_of_getElem? (i := 337) (by decide +kernel))) rfl
theorem qh_338 : Cond.selects R_O y_O_firstBefore y_O_firstBefore ∈ qa_WG := qa_in (List.mem_append_right _ (List.mem_of_getElem? (i := 338) (by decide +kernel))) rfl
theorem qh_348 : Cond.methodLink R_S 130 y_O_has ∈ qa_WG := qa_in (List.mem_append_right _ (List.mem_of_getElem? (i := 348) (by decide +kernel))) rfl
theorem qh_105 : Cond.fieldLink R_S 40 R_S "lineOneBegan" "I" ∈ qa_WG := qa_in (List.mem_append_right _ (List.mem_of_getElem? (i := 105) (by decide +kernel))) rfl
theorem qh_356 : Cond.code y_S_hasLineOne prog_1_method_22_code 1 (Option.some Jvm.ClassFile.FieldType.boolean) ∈ qa_WG := qa_in (List.mem_append_right _ (List.mem_of_getElem? (i := 356) (by decide +kernel))) rfl
theorem qh_353 : Cond.methodLink R_S 133 y_S_hasLineOne ∈ qa_WG := qa_in (List.mem_append_right _ (List.mem_of_getElem? (i := 353) (by decide +kernel))) rfl
theorem qh_355 : Cond.instanceMethod y_S_hasLineOne ∈ qa_WG := qa_in (List.mem_append_right _ (List.mem_of_getElem? (i := 355) (by decide +kernel))) rfl
theorem qh_s9 : Cond.selects R_S y_S_hasLineOne y_S_hasLineOne ∈ qa_WG := qa_in (List.mem_append_left _ (List.mem_of_getElem? (i := 9) (by decide +kernel))) rfl
theorem qh_371 : Cond.code y_D_joinedMark prog_3_method_5_code 3 (Option.some Jvm.ClassFile.FieldType.int) ∈ qa_WG := qa_in (List.mem_append_right _ (List.mem_of_getElem? (i := 371) (by decide +kernel))) rfl
theorem qh_369 : Cond.methodLink R_D 49 y_D_joinedMark ∈ qa_WG := qa_in (List.mem_append_right _ (List.mem_of_getElem? (i := 369) (by decide +kernel))) rfl
theorem qh_370 : Cond.static y_D_joinedMark ∈ qa_WG := qa_in (List.mem_append_right _ (List.mem_of_getElem? (i := 370) (by decide +kernel))) rfl
theorem qh_368 : Cond.code y_D_openJoined prog_3_method_3_code 11 (Option.none : Option Jvm.ClassFile.FieldType) ∈ qa_WG := qa_in (List.mem_append_right _ (List.mem_of_getElem? (i := 368) (by decide +kernel))) rfl
theorem qh_365 : Cond.methodLink R_S 136 y_D_openJoined ∈ qa_WG := qa_in (List.mem_append_right _ (List.mem_of_getElem? (i := 365) (by decide +kernel))) rfl
theorem qh_366 : Cond.instanceMethod y_D_openJoined ∈ qa_WG := qa_in (List.mem_append_right _ (List.mem_of_getElem? (i := 366) (by decide +kernel))) rfl
theorem qh_367 : Cond.selects R_D y_D_openJoined y_D_openJoined ∈ qa_WG := qa_in (List.mem_append_right _ (List.mem_of_getElem? (i := 367) (by decide +kernel))) rfl
theorem qh_384 : Cond.methodLink R_S 140 y_O_shownIn ∈ qa_WG := qa_in (List.mem_append_right _ (List.mem_of_getElem? (i := 384) (by decide +kernel))) rfl
theorem qh_389 : Cond.methodLink R_S 143 y_O_workingIn ∈ qa_WG := qa_in (List.mem_append_right _ (List.mem_of_getElem? (i := 389) (by decide +kernel))) rfl
theorem qh_394 : Cond.methodLink R_S 146 y_O_markIn ∈ qa_WG := qa_in (List.mem_append_right _ (List.mem_of_getElem? (i := 394) (by decide +kernel))) rfl
theorem qh_403 : Cond.constantLong R_S 153 (-1) ∈ qa_WG := qa_in (List.mem_append_right _ (List.mem_of_getElem? (i := 403) (by decide +kernel))) rfl
theorem qh_402 : Cond.code y_C_parentsOf prog_2_method_9_code 6 (Option.some Jvm.ClassFile.FieldType.long) ∈ qa_WG := qa_in (List.mem_append_right _ (List.mem_of_getElem? (i := 402) (by decide +kernel))) rfl
theorem qh_399 : Cond.methodLink R_S 149 y_C_parentsOf ∈ qa_WG := qa_in (List.mem_append_right _ (List.mem_of_getElem? (i := 399) (by decide +kernel))) rfl
theorem qh_400 : Cond.instanceMethod y_C_parentsOf ∈ qa_WG := qa_in (List.mem_append_right _ (List.mem_of_getElem? (i := 400) (by decide +kernel))) rfl
theorem qh_401 : Cond.selects R_C y_C_parentsOf y_C_parentsOf ∈ qa_WG := qa_in (List.mem_append_right _ (List.mem_of_getElem? (i := 401) (by decide +kernel))) rfl
theorem qh_412 : Cond.methodLink R_S 155 y_C_countOf ∈ qa_WG := qa_in (List.mem_append_right _ (List.mem_of_getElem? (i := 412) (by decide +kernel))) rfl
theorem qh_431 : Cond.fieldLink R_M 39 R_M "current" "[I" ∈ qa_WG := qa_in (List.mem_append_right _ (List.mem_of_getElem? (i := 431) (by decide +kernel))) rfl
theorem qh_434 : Cond.fieldLink R_M 58 R_M "chosen" "I" ∈ qa_WG := qa_in (List.mem_append_right _ (List.mem_of_getElem? (i := 434) (by decide +kernel))) rfl
theorem qh_419 : Cond.fieldLink R_M 51 R_M "commits" "I" ∈ qa_WG := qa_in (List.mem_append_right _ (List.mem_of_getElem? (i := 419) (by decide +kernel))) rfl
theorem qh_428 : Cond.fieldLink R_M 30 R_M "seen" "[Z" ∈ qa_WG := qa_in (List.mem_append_right _ (List.mem_of_getElem? (i := 428) (by decide +kernel))) rfl
theorem qh_430 : Cond.fieldLink R_M 36 R_M "work" "[I" ∈ qa_WG := qa_in (List.mem_append_right _ (List.mem_of_getElem? (i := 430) (by decide +kernel))) rfl
theorem qh_437 : Cond.fieldLink R_M 65 R_M "nowWork" "I" ∈ qa_WG := qa_in (List.mem_append_right _ (List.mem_of_getElem? (i := 437) (by decide +kernel))) rfl
theorem qh_439 : Cond.fieldLink R_M 68 R_M "oldCommits" "I" ∈ qa_WG := qa_in (List.mem_append_right _ (List.mem_of_getElem? (i := 439) (by decide +kernel))) rfl
theorem qh_420 : Cond.fieldLink R_M 71 R_M "changes" "I" ∈ qa_WG := qa_in (List.mem_append_right _ (List.mem_of_getElem? (i := 420) (by decide +kernel))) rfl
theorem qh_440 : Cond.fieldLink R_M 74 R_M "oldChanges" "I" ∈ qa_WG := qa_in (List.mem_append_right _ (List.mem_of_getElem? (i := 440) (by decide +kernel))) rfl
theorem qh_441 : Cond.fieldLink R_M 77 R_M "full" "Z" ∈ qa_WG := qa_in (List.mem_append_right _ (List.mem_of_getElem? (i := 441) (by decide +kernel))) rfl
theorem qh_436 : Cond.fieldLink R_M 45 R_M "nowMark" "[I" ∈ qa_WG := qa_in (List.mem_append_right _ (List.mem_of_getElem? (i := 436) (by decide +kernel))) rfl
theorem qh_429 : Cond.fieldLink R_M 33 R_M "marks" "[I" ∈ qa_WG := qa_in (List.mem_append_right _ (List.mem_of_getElem? (i := 429) (by decide +kernel))) rfl
theorem qh_435 : Cond.fieldLink R_M 42 R_M "now" "[Z" ∈ qa_WG := qa_in (List.mem_append_right _ (List.mem_of_getElem? (i := 435) (by decide +kernel))) rfl
theorem qh_438 : Cond.fieldLink R_M 48 R_M "replaced" "[I" ∈ qa_WG := qa_in (List.mem_append_right _ (List.mem_of_getElem? (i := 438) (by decide +kernel))) rfl
theorem qh_421 : Cond.fieldLink R_M 7 R_M "change" "[I" ∈ qa_WG := qa_in (List.mem_append_right _ (List.mem_of_getElem? (i := 421) (by decide +kernel))) rfl
theorem qh_422 : Cond.fieldLink R_M 13 R_M "parent" "[I" ∈ qa_WG := qa_in (List.mem_append_right _ (List.mem_of_getElem? (i := 422) (by decide +kernel))) rfl
theorem qh_423 : Cond.fieldLink R_M 16 R_M "counts" "[J" ∈ qa_WG := qa_in (List.mem_append_right _ (List.mem_of_getElem? (i := 423) (by decide +kernel))) rfl
theorem qh_424 : Cond.fieldLink R_M 55 R_M "operations" "I" ∈ qa_WG := qa_in (List.mem_append_right _ (List.mem_of_getElem? (i := 424) (by decide +kernel))) rfl
theorem qh_425 : Cond.fieldLink R_M 20 R_M "first" "[I" ∈ qa_WG := qa_in (List.mem_append_right _ (List.mem_of_getElem? (i := 425) (by decide +kernel))) rfl
theorem qh_426 : Cond.fieldLink R_M 23 R_M "second" "[I" ∈ qa_WG := qa_in (List.mem_append_right _ (List.mem_of_getElem? (i := 426) (by decide +kernel))) rfl
theorem qh_497 : Cond.code y_M_here prog_6_method_2_code 1 (Option.some Jvm.ClassFile.FieldType.int) ∈ qa_WG := qa_in (List.mem_append_right _ (List.mem_of_getElem? (i := 497) (by decide +kernel))) rfl
theorem qh_494 : Cond.methodLink R_M 107 y_M_here ∈ qa_WG := qa_in (List.mem_append_right _ (List.mem_of_getElem? (i := 494) (by decide +kernel))) rfl
theorem qh_496 : Cond.instanceMethod y_M_here ∈ qa_WG := qa_in (List.mem_append_right _ (List.mem_of_getElem? (i := 496) (by decide +kernel))) rfl
theorem qh_s10 : Cond.selects R_M y_M_here y_M_here ∈ qa_WG := qa_in (List.mem_append_left _ (List.mem_of_getElem? (i := 10) (by decide +kernel))) rfl
theorem qh_5 : Cond.initialized R_M ∈ qa_WG := qa_in (List.mem_append_right _ (List.mem_of_getElem? (i := 5) (by decide +kernel))) rfl
theorem qh_521 : Cond.code y_M_finish prog_6_method_16_code 5 (Option.some Jvm.ClassFile.FieldType.int) ∈ qa_WG := qa_in (List.mem_append_right _ (List.mem_of_getElem? (i := 521) (by decide +kernel))) rfl
theorem qh_518 : Cond.methodLink R_M 110 y_M_finish ∈ qa_WG := qa_in (List.mem_append_right _ (List.mem_of_getElem? (i := 518) (by decide +kernel))) rfl
theorem qh_520 : Cond.instanceMethod y_M_finish ∈ qa_WG := qa_in (List.mem_append_right _ (List.mem_of_getElem? (i := 520) (by decide +kernel))) rfl
theorem qh_s16 : Cond.selects R_M y_M_finish y_M_finish ∈ qa_WG := qa_in (List.mem_append_left _ (List.mem_of_getElem? (i := 16) (by decide +kernel))) rfl
theorem qh_517 : Cond.code y_M_done prog_6_method_17_code 2 (Option.some Jvm.ClassFile.FieldType.int) ∈ qa_WG := qa_in (List.mem_append_right _ (List.mem_of_getElem? (i := 517) (by decide +kernel))) rfl
theorem qh_514 : Cond.methodLink R_M 123 y_M_done ∈ qa_WG := qa_in (List.mem_append_right _ (List.mem_of_getElem? (i := 514) (by decide +kernel))) rfl
theorem qh_516 : Cond.instanceMethod y_M_done ∈ qa_WG := qa_in (List.mem_append_right _ (List.mem_of_getElem? (i := 516) (by decide +kernel))) rfl
theorem qh_s15 : Cond.selects R_M y_M_done y_M_done ∈ qa_WG := qa_in (List.mem_append_left _ (List.mem_of_getElem? (i := 15) (by decide +kernel))) rfl
theorem qh_513 : Cond.code y_M_copyContents prog_6_method_6_code 4 (Option.none : Option Jvm.ClassFile.FieldType) ∈ qa_WG := qa_in (List.mem_append_right _ (List.mem_of_getElem? (i := 513) (by decide +kernel))) rfl
theorem qh_510 : Cond.methodLink R_M 120 y_M_copyContents ∈ qa_WG := qa_in (List.mem_append_right _ (List.mem_of_getElem? (i := 510) (by decide +kernel))) rfl
theorem qh_512 : Cond.instanceMethod y_M_copyContents ∈ qa_WG := qa_in (List.mem_append_right _ (List.mem_of_getElem? (i := 512) (by decide +kernel))) rfl
theorem qh_s14 : Cond.selects R_M y_M_copyContents y_M_copyContents ∈ qa_WG := qa_in (List.mem_append_left _ (List.mem_of_getElem? (i := 14) (by decide +kernel))) rfl
theorem qh_509 : Cond.code y_M_fresh prog_6_method_9_code 3 (Option.some Jvm.ClassFile.FieldType.int) ∈ qa_WG := qa_in (List.mem_append_right _ (List.mem_of_getElem? (i := 509) (by decide +kernel))) rfl
theorem qh_506 : Cond.methodLink R_M 96 y_M_fresh ∈ qa_WG := qa_in (List.mem_append_right _ (List.mem_of_getElem? (i := 506) (by decide +kernel))) rfl
theorem qh_508 : Cond.instanceMethod y_M_fresh ∈ qa_WG := qa_in (List.mem_append_right _ (List.mem_of_getElem? (i := 508) (by decide +kernel))) rfl
theorem qh_s13 : Cond.selects R_M y_M_fresh y_M_fresh ∈ qa_WG := qa_in (List.mem_append_left _ (List.mem_of_getElem? (i := 13) (by decide +kernel))) rfl
theorem qh_505 : Cond.code y_M_begin prog_6_method_8_code 3 (Option.none : Option Jvm.ClassFile.FieldType) ∈ qa_WG := qa_in (List.mem_append_right _ (List.mem_of_getElem? (i := 505) (by decide +kernel))) rfl
theorem qh_502 : Cond.methodLink R_M 116 y_M_begin ∈ qa_WG := qa_in (List.mem_append_right _ (List.mem_of_getElem? (i := 502) (by decide +kernel))) rfl
theorem qh_504 : Cond.instanceMethod y_M_begin ∈ qa_WG := qa_in (List.mem_append_right _ (List.mem_of_getElem? (i := 504) (by decide +kernel))) rfl
theorem qh_s12 : Cond.selects R_M y_M_begin y_M_begin ∈ qa_WG := qa_in (List.mem_append_left _ (List.mem_of_getElem? (i := 12) (by decide +kernel))) rfl
theorem qh_501 : Cond.code y_M_isVisible prog_6_method_3_code 3 (Option.some Jvm.ClassFile.FieldType.boolean) ∈ qa_WG := qa_in (List.mem_append_right _ (List.mem_of_getElem? (i := 501) (by decide +kernel))) rfl
theorem qh_498 : Cond.methodLink R_M 113 y_M_isVisible ∈ qa_WG := qa_in (List.mem_append_right _ (List.mem_of_getElem? (i := 498) (by decide +kernel))) rfl
theorem qh_500 : Cond.instanceMethod y_M_isVisible ∈ qa_WG := qa_in (List.mem_append_right _ (List.mem_of_getElem? (i := 500) (by decide +kernel))) rfl
theorem qh_s11 : Cond.selects R_M y_M_isVisible y_M_isVisible ∈ qa_WG := qa_in (List.mem_append_left _ (List.mem_of_getElem? (i := 11) (by decide +kernel))) rfl
theorem qh_557 : Cond.code y_M_comesOf prog_6_method_11_code 4 (Option.some Jvm.ClassFile.FieldType.boolean) ∈ qa_WG := qa_in (List.mem_append_right _ (List.mem_of_getElem? (i := 557) (by decide +kernel))) rfl
theorem qh_554 : Cond.methodLink R_M 81 y_M_comesOf ∈ qa_WG := qa_in (List.mem_append_right _ (List.mem_of_getElem? (i := 554) (by decide +kernel))) rfl
theorem qh_556 : Cond.instanceMethod y_M_comesOf ∈ qa_WG := qa_in (List.mem_append_right _ (List.mem_of_getElem? (i := 556) (by decide +kernel))) rfl
theorem qh_s24 : Cond.selects R_M y_M_comesOf y_M_comesOf ∈ qa_WG := qa_in (List.mem_append_left _ (List.mem_of_getElem? (i := 24) (by decide +kernel))) rfl
theorem qh_553 : Cond.code y_M_sameChange prog_6_method_12_code 5 (Option.some Jvm.ClassFile.FieldType.int) ∈ qa_WG := qa_in (List.mem_append_right _ (List.mem_of_getElem? (i := 553) (by decide +kernel))) rfl
theorem qh_550 : Cond.methodLink R_M 85 y_M_sameChange ∈ qa_WG := qa_in (List.mem_append_right _ (List.mem_of_getElem? (i := 550) (by decide +kernel))) rfl
theorem qh_552 : Cond.instanceMethod y_M_sameChange ∈ qa_WG := qa_in (List.mem_append_right _ (List.mem_of_getElem? (i := 552) (by decide +kernel))) rfl
theorem qh_s23 : Cond.selects R_M y_M_sameChange y_M_sameChange ∈ qa_WG := qa_in (List.mem_append_left _ (List.mem_of_getElem? (i := 23) (by decide +kernel))) rfl
theorem qh_533 : Cond.code y_M_setPlain prog_6_method_5_code 5 (Option.none : Option Jvm.ClassFile.FieldType) ∈ qa_WG := qa_in (List.mem_append_right _ (List.mem_of_getElem? (i := 533) (by decide +kernel))) rfl
theorem qh_530 : Cond.methodLink R_M 61 y_M_setPlain ∈ qa_WG := qa_in (List.mem_append_right _ (List.mem_of_getElem? (i := 530) (by decide +kernel))) rfl
theorem qh_532 : Cond.instanceMethod y_M_setPlain ∈ qa_WG := qa_in (List.mem_append_right _ (List.mem_of_getElem? (i := 532) (by decide +kernel))) rfl
theorem qh_s18 : Cond.selects R_M y_M_setPlain y_M_setPlain ∈ qa_WG := qa_in (List.mem_append_left _ (List.mem_of_getElem? (i := 18) (by decide +kernel))) rfl
theorem qh_549 : Cond.code y_M_place prog_6_method_13_code 6 (Option.some Jvm.ClassFile.FieldType.int) ∈ qa_WG := qa_in (List.mem_append_right _ (List.mem_of_getElem? (i := 549) (by decide +kernel))) rfl
theorem qh_546 : Cond.methodLink R_M 93 y_M_place ∈ qa_WG := qa_in (List.mem_append_right _ (List.mem_of_getElem? (i := 546) (by decide +kernel))) rfl
theorem qh_548 : Cond.instanceMethod y_M_place ∈ qa_WG := qa_in (List.mem_append_right _ (List.mem_of_getElem? (i := 548) (by decide +kernel))) rfl
theorem qh_s22 : Cond.selects R_M y_M_place y_M_place ∈ qa_WG := qa_in (List.mem_append_left _ (List.mem_of_getElem? (i := 22) (by decide +kernel))) rfl
theorem qh_545 : Cond.code y_M_loose prog_6_method_14_code 2 (Option.some Jvm.ClassFile.FieldType.int) ∈ qa_WG := qa_in (List.mem_append_right _ (List.mem_of_getElem? (i := 545) (by decide +kernel))) rfl
theorem qh_542 : Cond.methodLink R_M 89 y_M_loose ∈ qa_WG := qa_in (List.mem_append_right _ (List.mem_of_getElem? (i := 542) (by decide +kernel))) rfl
theorem qh_544 : Cond.instanceMethod y_M_loose ∈ qa_WG := qa_in (List.mem_append_right _ (List.mem_of_getElem? (i := 544) (by decide +kernel))) rfl
theorem qh_s21 : Cond.selects R_M y_M_loose y_M_loose ∈ qa_WG := qa_in (List.mem_append_left _ (List.mem_of_getElem? (i := 21) (by decide +kernel))) rfl
theorem qh_537 : Cond.code y_M_replace prog_6_method_10_code 3 (Option.none : Option Jvm.ClassFile.FieldType) ∈ qa_WG := qa_in (List.mem_append_right _ (List.mem_of_getElem? (i := 537) (by decide +kernel))) rfl
theorem qh_534 : Cond.methodLink R_M 103 y_M_replace ∈ qa_WG := qa_in (List.mem_append_right _ (List.mem_of_getElem? (i := 534) (by decide +kernel))) rfl
theorem qh_536 : Cond.instanceMethod y_M_replace ∈ qa_WG := qa_in (List.mem_append_right _ (List.mem_of_getElem? (i := 536) (by decide +kernel))) rfl
theorem qh_s19 : Cond.selects R_M y_M_replace y_M_replace ∈ qa_WG := qa_in (List.mem_append_left _ (List.mem_of_getElem? (i := 19) (by decide +kernel))) rfl
theorem qh_561 : Cond.code y_M_mix prog_6_method_7_code 12 (Option.none : Option Jvm.ClassFile.FieldType) ∈ qa_WG := qa_in (List.mem_append_right _ (List.mem_of_getElem? (i := 561) (by decide +kernel))) rfl
theorem qh_558 : Cond.methodLink R_M 99 y_M_mix ∈ qa_WG := qa_in (List.mem_append_right _ (List.mem_of_getElem? (i := 558) (by decide +kernel))) rfl
theorem qh_560 : Cond.instanceMethod y_M_mix ∈ qa_WG := qa_in (List.mem_append_right _ (List.mem_of_getElem? (i := 560) (by decide +kernel))) rfl
theorem qh_s25 : Cond.selects R_M y_M_mix y_M_mix ∈ qa_WG := qa_in (List.mem_append_left _ (List.mem_of_getElem? (i := 25) (by decide +kernel))) rfl
theorem qh_541 : Cond.code y_M_settle prog_6_method_15_code 4 (Option.none : Option Jvm.ClassFile.FieldType) ∈ qa_WG := qa_in (List.mem_append_right _ (List.mem_of_getElem? (i := 541) (by decide +kernel))) rfl
theorem qh_538 : Cond.methodLink R_M 130 y_M_settle ∈ qa_WG := qa_in (List.mem_append_right _ (List.mem_of_getElem? (i := 538) (by decide +kernel))) rfl
theorem qh_540 : Cond.instanceMethod y_M_settle ∈ qa_WG := qa_in (List.mem_append_right _ (List.mem_of_getElem? (i := 540) (by decide +kernel))) rfl
theorem qh_s20 : Cond.selects R_M y_M_settle y_M_settle ∈ qa_WG := qa_in (List.mem_append_left _ (List.mem_of_getElem? (i := 20) (by decide +kernel))) rfl
theorem qh_529 : Cond.code y_M_plain prog_6_method_4_code 6 (Option.some Jvm.ClassFile.FieldType.boolean) ∈ qa_WG := qa_in (List.mem_append_right _ (List.mem_of_getElem? (i := 529) (by decide +kernel))) rfl
theorem qh_526 : Cond.methodLink R_M 126 y_M_plain ∈ qa_WG := qa_in (List.mem_append_right _ (List.mem_of_getElem? (i := 526) (by decide +kernel))) rfl
theorem qh_528 : Cond.instanceMethod y_M_plain ∈ qa_WG := qa_in (List.mem_append_right _ (List.mem_of_getElem? (i := 528) (by decide +kernel))) rfl
theorem qh_s17 : Cond.selects R_M y_M_plain y_M_plain ∈ qa_WG := qa_in (List.mem_append_left _ (List.mem_of_getElem? (i := 17) (by decide +kernel))) rfl
theorem qh_427 : Cond.fieldLink R_M 26 R_M "joined" "[Z" ∈ qa_WG := qa_in (List.mem_append_right _ (List.mem_of_getElem? (i := 427) (by decide +kernel))) rfl
theorem qh_432 : Cond.fieldLink R_M 133 R_M "two" "Z" ∈ qa_WG := qa_in (List.mem_append_right _ (List.mem_of_getElem? (i := 432) (by decide +kernel))) rfl
theorem qh_433 : Cond.fieldLink R_M 136 R_M "base" "I" ∈ qa_WG := qa_in (List.mem_append_right _ (List.mem_of_getElem? (i := 433) (by decide +kernel))) rfl
theorem qh_604 : Cond.code y_M_merged prog_6_method_29_code 3 (Option.some Jvm.ClassFile.FieldType.int) ∈ qa_WG := qa_in (List.mem_append_right _ (List.mem_of_getElem? (i := 604) (by decide +kernel))) rfl
theorem qh_602 : Cond.methodLink R_M 139 y_M_merged ∈ qa_WG := qa_in (List.mem_append_right _ (List.mem_of_getElem? (i := 602) (by decide +kernel))) rfl
theorem qh_603 : Cond.static y_M_merged ∈ qa_WG := qa_in (List.mem_append_right _ (List.mem_of_getElem? (i := 603) (by decide +kernel))) rfl
theorem qh_616 : Cond.code y_M_there prog_6_method_31_code 2 (Option.some Jvm.ClassFile.FieldType.boolean) ∈ qa_WG := qa_in (List.mem_append_right _ (List.mem_of_getElem? (i := 616) (by decide +kernel))) rfl
theorem qh_613 : Cond.methodLink R_M 143 y_M_there ∈ qa_WG := qa_in (List.mem_append_right _ (List.mem_of_getElem? (i := 613) (by decide +kernel))) rfl
theorem qh_615 : Cond.instanceMethod y_M_there ∈ qa_WG := qa_in (List.mem_append_right _ (List.mem_of_getElem? (i := 615) (by decide +kernel))) rfl
theorem qh_s26 : Cond.selects R_M y_M_there y_M_there ∈ qa_WG := qa_in (List.mem_append_left _ (List.mem_of_getElem? (i := 26) (by decide +kernel))) rfl
theorem qh_636 : Cond.code y_M_isHead prog_6_method_37_code 5 (Option.some Jvm.ClassFile.FieldType.boolean) ∈ qa_WG := qa_in (List.mem_append_right _ (List.mem_of_getElem? (i := 636) (by decide +kernel))) rfl
theorem qh_633 : Cond.methodLink R_M 147 y_M_isHead ∈ qa_WG := qa_in (List.mem_append_right _ (List.mem_of_getElem? (i := 633) (by decide +kernel))) rfl
theorem qh_635 : Cond.instanceMethod y_M_isHead ∈ qa_WG := qa_in (List.mem_append_right _ (List.mem_of_getElem? (i := 635) (by decide +kernel))) rfl
theorem qh_s27 : Cond.selects R_M y_M_isHead y_M_isHead ∈ qa_WG := qa_in (List.mem_append_left _ (List.mem_of_getElem? (i := 27) (by decide +kernel))) rfl
def qv_S_bit : List Cond := .code y_S_bit b_S_bit 1 (some .long) :: qa_WG
def qr_S_bit : Room := { frames := 0, cells := 0, slots := 0, locals := 0 }
theorem qd_S_bit : y_S_bit.cls = R_S ∧ y_S_bit.cls ≠ "java/lang/invoke/MethodHandle" ∧ y_S_bit.cls ≠ "java/lang/invoke/VarHandle" ∧ (parseMethodDescriptor y_S_bit.desc).map (fun d => d.parameters.length) = some 1 := by decide +kernel
def qv_A_fill : List Cond := .code y_A_fill b_A_fill 4 none :: qa_WG
def qr_A_fill : Room := { frames := 0, cells := 0, slots := 0, locals := 0 }
theorem qd_A_fill : y_A_fill.cls = R_A ∧ y_A_fill.cls ≠ "java/lang/invoke/MethodHandle" ∧ y_A_fill.cls ≠ "java/lang/invoke/VarHandle" ∧ (parseMethodDescriptor y_A_fill.desc).map (fun d => d.parameters.length) = some 2 := by decide +kernel
def qv_D_start : List Cond := .code y_D_start b_D_start 1 none :: qa_WG
def qr_D_start : Room := { frames := 1, cells := 0, slots := 0, locals := 23 }
theorem qd_D_start : y_D_start.cls = R_D ∧ y_D_start.cls ≠ "java/lang/invoke/MethodHandle" ∧ y_D_start.cls ≠ "java/lang/invoke/VarHandle" ∧ (parseMethodDescriptor y_D_start.desc).map (fun d => d.parameters.length) = some 0 := by decide +kernel
def qv_O_has : List Cond := .code y_O_has b_O_has 2 (some .boolean) :: qa_WG
def qr_O_has : Room := { frames := 0, cells := 0, slots := 0, locals := 0 }
theorem qd_O_has : y_O_has.cls = R_O ∧ y_O_has.cls ≠ "java/lang/invoke/MethodHandle" ∧ y_O_has.cls ≠ "java/lang/invoke/VarHandle" ∧ (parseMethodDescriptor y_O_has.desc).map (fun d => d.parameters.length) = some 1 := by decide +kernel
def qv_O_shownIn : List Cond := .code y_O_shownIn b_O_shownIn 2 (some .long) :: qa_WG
def qr_O_shownIn : Room := { frames := 1, cells := 0, slots := 0, locals := 21 }
theorem qd_O_shownIn : y_O_shownIn.cls = R_O ∧ y_O_shownIn.cls ≠ "java/lang/invoke/MethodHandle" ∧ y_O_shownIn.cls ≠ "java/lang/invoke/VarHandle" ∧ (parseMethodDescriptor y_O_shownIn.desc).map (fun d => d.parameters.length) = some 1 := by decide +kernel
def qv_O_workingIn : List Cond := .code y_O_workingIn b_O_workingIn 2 (some .int) :: qa_WG
def qr_O_workingIn : Room := { frames := 1, cells := 0, slots := 0, locals := 21 }
theorem qd_O_workingIn : y_O_workingIn.cls = R_O ∧ y_O_workingIn.cls ≠ "java/lang/invoke/MethodHandle" ∧ y_O_workingIn.cls ≠ "java/lang/invoke/VarHandle" ∧ (parseMethodDescriptor y_O_workingIn.desc).map (fun d => d.parameters.length) = some 1 := by decide +kernel
def qv_S_isMark : List Cond := .code y_S_isMark b_S_isMark 1 (some .boolean) :: qa_WG
def qr_S_isMark : Room := { frames := 0, cells := 0, slots := 0, locals := 0 }
theorem qd_S_isMark : y_S_isMark.cls = R_S ∧ y_S_isMark.cls ≠ "java/lang/invoke/MethodHandle" ∧ y_S_isMark.cls ≠ "java/lang/invoke/VarHandle" ∧ (parseMethodDescriptor y_S_isMark.desc).map (fun d => d.parameters.length) = some 1 := by decide +kernel
def qv_O_markIn : List Cond := .code y_O_markIn b_O_markIn 3 (some .int) :: qa_WG
def qr_O_markIn : Room := { frames := 1, cells := 0, slots := 0, locals := 21 }
theorem qd_O_markIn : y_O_markIn.cls = R_O ∧ y_O_markIn.cls ≠ "java/lang/invoke/MethodHandle" ∧ y_O_markIn.cls ≠ "java/lang/invoke/VarHandle" ∧ (parseMethodDescriptor y_O_markIn.desc).map (fun d => d.parameters.length) = some 2 := by decide +kernel
def qv_D_open : List Cond := .code y_D_open b_D_open 4 none :: qa_WG
def qr_D_open : Room := { frames := 2, cells := 0, slots := 0, locals := 43 }
theorem qd_D_open : y_D_open.cls = R_D ∧ y_D_open.cls ≠ "java/lang/invoke/MethodHandle" ∧ y_D_open.cls ≠ "java/lang/invoke/VarHandle" ∧ (parseMethodDescriptor y_D_open.desc).map (fun d => d.parameters.length) = some 2 := by decide +kernel
def qv_S_openDraft : List Cond := .code y_S_openDraft b_S_openDraft 1 none :: qa_WG
def qr_S_openDraft : Room := { frames := 3, cells := 0, slots := 0, locals := 66 }
theorem qd_S_openDraft : y_S_openDraft.cls = R_S ∧ y_S_openDraft.cls ≠ "java/lang/invoke/MethodHandle" ∧ y_S_openDraft.cls ≠ "java/lang/invoke/VarHandle" ∧ (parseMethodDescriptor y_S_openDraft.desc).map (fun d => d.parameters.length) = some 0 := by decide +kernel
def qv_S_isIn : List Cond := .code y_S_isIn b_S_isIn 3 (some .boolean) :: qa_WG
def qr_S_isIn : Room := { frames := 0, cells := 0, slots := 0, locals := 0 }
theorem qd_S_isIn : y_S_isIn.cls = R_S ∧ y_S_isIn.cls ≠ "java/lang/invoke/MethodHandle" ∧ y_S_isIn.cls ≠ "java/lang/invoke/VarHandle" ∧ (parseMethodDescriptor y_S_isIn.desc).map (fun d => d.parameters.length) = some 2 := by decide +kernel
def qv_D_shows : List Cond := .code y_D_shows b_D_shows 2 (some .boolean) :: qa_WG
def qr_D_shows : Room := { frames := 1, cells := 0, slots := 0, locals := 22 }
theorem qd_D_shows : y_D_shows.cls = R_D ∧ y_D_shows.cls ≠ "java/lang/invoke/MethodHandle" ∧ y_D_shows.cls ≠ "java/lang/invoke/VarHandle" ∧ (parseMethodDescriptor y_D_shows.desc).map (fun d => d.parameters.length) = some 1 := by decide +kernel
def qv_C_isFull : List Cond := .code y_C_isFull b_C_isFull 1 (some .boolean) :: qa_WG
def qr_C_isFull : Room := { frames := 0, cells := 0, slots := 0, locals := 0 }
theorem qd_C_isFull : y_C_isFull.cls = R_C ∧ y_C_isFull.cls ≠ "java/lang/invoke/MethodHandle" ∧ y_C_isFull.cls ≠ "java/lang/invoke/VarHandle" ∧ (parseMethodDescriptor y_C_isFull.desc).map (fun d => d.parameters.length) = some 0 := by decide +kernel
def qv_O_isFull : List Cond := .code y_O_isFull b_O_isFull 1 (some .boolean) :: qa_WG
def qr_O_isFull : Room := { frames := 0, cells := 0, slots := 0, locals := 0 }
theorem qd_O_isFull : y_O_isFull.cls = R_O ∧ y_O_isFull.cls ≠ "java/lang/invoke/MethodHandle" ∧ y_O_isFull.cls ≠ "java/lang/invoke/VarHandle" ∧ (parseMethodDescriptor y_O_isFull.desc).map (fun d => d.parameters.length) = some 0 := by decide +kernel
def qv_S_hasRoomForCommit : List Cond := .code y_S_hasRoomForCommit b_S_hasRoomForCommit 1 (some .boolean) :: qa_WG
def qr_S_hasRoomForCommit : Room := { frames := 1, cells := 0, slots := 0, locals := 20 }
theorem qd_S_hasRoomForCommit : y_S_hasRoomForCommit.cls = R_S ∧ y_S_hasRoomForCommit.cls ≠ "java/lang/invoke/MethodHandle" ∧ y_S_hasRoomForCommit.cls ≠ "java/lang/invoke/VarHandle" ∧ (parseMethodDescriptor y_S_hasRoomForCommit.desc).map (fun d => d.parameters.length) = some 0 := by decide +kernel
def qv_C_has : List Cond := .code y_C_has b_C_has 2 (some .boolean) :: qa_WG
def qr_C_has : Room := { frames := 0, cells := 0, slots := 0, locals := 0 }
theorem qd_C_has : y_C_has.cls = R_C ∧ y_C_has.cls ≠ "java/lang/invoke/MethodHandle" ∧ y_C_has.cls ≠ "java/lang/invoke/VarHandle" ∧ (parseMethodDescriptor y_C_has.desc).map (fun d => d.parameters.length) = some 1 := by decide +kernel
def qv_C_start : List Cond := .code y_C_start b_C_start 2 (some .int) :: qa_WG
def qr_C_start : Room := { frames := 0, cells := 0, slots := 0, locals := 0 }
theorem qd_C_start : y_C_start.cls = R_C ∧ y_C_start.cls ≠ "java/lang/invoke/MethodHandle" ∧ y_C_start.cls ≠ "java/lang/invoke/VarHandle" ∧ (parseMethodDescriptor y_C_start.desc).map (fun d => d.parameters.length) = some 2 := by decide +kernel
def qv_C_addCopy : List Cond := .code y_C_addCopy b_C_addCopy 5 (some .int) :: qa_WG
def qr_C_addCopy : Room := { frames := 1, cells := 0, slots := 0, locals := 40 }
theorem qd_C_addCopy : y_C_addCopy.cls = R_C ∧ y_C_addCopy.cls ≠ "java/lang/invoke/MethodHandle" ∧ y_C_addCopy.cls ≠ "java/lang/invoke/VarHandle" ∧ (parseMethodDescriptor y_C_addCopy.desc).map (fun d => d.parameters.length) = some 3 := by decide +kernel
def qv_C_addNewChange : List Cond := .code y_C_addNewChange b_C_addNewChange 2 (some .int) :: qa_WG
def qr_C_addNewChange : Room := { frames := 2, cells := 0, slots := 0, locals := 64 }
theorem qd_C_addNewChange : y_C_addNewChange.cls = R_C ∧ y_C_addNewChange.cls ≠ "java/lang/invoke/MethodHandle" ∧ y_C_addNewChange.cls ≠ "java/lang/invoke/VarHandle" ∧ (parseMethodDescriptor y_C_addNewChange.desc).map (fun d => d.parameters.length) = some 1 := by decide +kernel
def qv_D_show : List Cond := .code y_D_show b_D_show 2 none :: qa_WG
def qr_D_show : Room := { frames := 1, cells := 0, slots := 0, locals := 20 }
theorem qd_D_show : y_D_show.cls = R_D ∧ y_D_show.cls ≠ "java/lang/invoke/MethodHandle" ∧ y_D_show.cls ≠ "java/lang/invoke/VarHandle" ∧ (parseMethodDescriptor y_D_show.desc).map (fun d => d.parameters.length) = some 1 := by decide +kernel
def qv_D_workOn : List Cond := .code y_D_workOn b_D_workOn 2 none :: qa_WG
def qr_D_workOn : Room := { frames := 0, cells := 0, slots := 0, locals := 0 }
theorem qd_D_workOn : y_D_workOn.cls = R_D ∧ y_D_workOn.cls ≠ "java/lang/invoke/MethodHandle" ∧ y_D_workOn.cls ≠ "java/lang/invoke/VarHandle" ∧ (parseMethodDescriptor y_D_workOn.desc).map (fun d => d.parameters.length) = some 1 := by decide +kernel
def qv_C_parentOf : List Cond := .code y_C_parentOf b_C_parentOf 2 (some .int) :: qa_WG
def qr_C_parentOf : Room := { frames := 1, cells := 0, slots := 0, locals := 21 }
theorem qd_C_parentOf : y_C_parentOf.cls = R_C ∧ y_C_parentOf.cls ≠ "java/lang/invoke/MethodHandle" ∧ y_C_parentOf.cls ≠ "java/lang/invoke/VarHandle" ∧ (parseMethodDescriptor y_C_parentOf.desc).map (fun d => d.parameters.length) = some 1 := by decide +kernel
def qv_D_lowestOrphan : List Cond := .code y_D_lowestOrphan b_D_lowestOrphan 2 (some .int) :: qa_WG
def qr_D_lowestOrphan : Room := { frames := 2, cells := 0, slots := 0, locals := 43 }
theorem qd_D_lowestOrphan : y_D_lowestOrphan.cls = R_D ∧ y_D_lowestOrphan.cls ≠ "java/lang/invoke/MethodHandle" ∧ y_D_lowestOrphan.cls ≠ "java/lang/invoke/VarHandle" ∧ (parseMethodDescriptor y_D_lowestOrphan.desc).map (fun d => d.parameters.length) = some 0 := by decide +kernel
def qv_C_withAllThatComesOf : List Cond := .code y_C_withAllThatComesOf b_C_withAllThatComesOf 5 (some .long) :: qa_WG
def qr_C_withAllThatComesOf : Room := { frames := 2, cells := 0, slots := 0, locals := 42 }
theorem qd_C_withAllThatComesOf : y_C_withAllThatComesOf.cls = R_C ∧ y_C_withAllThatComesOf.cls ≠ "java/lang/invoke/MethodHandle" ∧ y_C_withAllThatComesOf.cls ≠ "java/lang/invoke/VarHandle" ∧ (parseMethodDescriptor y_C_withAllThatComesOf.desc).map (fun d => d.parameters.length) = some 1 := by decide +kernel
def qv_C_changeOf : List Cond := .code y_C_changeOf b_C_changeOf 2 (some .int) :: qa_WG
def qr_C_changeOf : Room := { frames := 1, cells := 0, slots := 0, locals := 21 }
theorem qd_C_changeOf : y_C_changeOf.cls = R_C ∧ y_C_changeOf.cls ≠ "java/lang/invoke/MethodHandle" ∧ y_C_changeOf.cls ≠ "java/lang/invoke/VarHandle" ∧ (parseMethodDescriptor y_C_changeOf.desc).map (fun d => d.parameters.length) = some 1 := by decide +kernel
def qv_C_latestOfChange : List Cond := .code y_C_latestOfChange b_C_latestOfChange 5 (some .int) :: qa_WG
def qr_C_latestOfChange : Room := { frames := 1, cells := 0, slots := 0, locals := 22 }
theorem qd_C_latestOfChange : y_C_latestOfChange.cls = R_C ∧ y_C_latestOfChange.cls ≠ "java/lang/invoke/MethodHandle" ∧ y_C_latestOfChange.cls ≠ "java/lang/invoke/VarHandle" ∧ (parseMethodDescriptor y_C_latestOfChange.desc).map (fun d => d.parameters.length) = some 2 := by decide +kernel
def qv_D_nextTowardsPlace : List Cond := .code y_D_nextTowardsPlace b_D_nextTowardsPlace 5 (some .int) :: qa_WG
def qr_D_nextTowardsPlace : Room := { frames := 2, cells := 0, slots := 0, locals := 46 }
theorem qd_D_nextTowardsPlace : y_D_nextTowardsPlace.cls = R_D ∧ y_D_nextTowardsPlace.cls ≠ "java/lang/invoke/MethodHandle" ∧ y_D_nextTowardsPlace.cls ≠ "java/lang/invoke/VarHandle" ∧ (parseMethodDescriptor y_D_nextTowardsPlace.desc).map (fun d => d.parameters.length) = some 2 := by decide +kernel
def qv_D_placeOf : List Cond := .code y_D_placeOf b_D_placeOf 6 (some .int) :: qa_WG
def qr_D_placeOf : Room := { frames := 3, cells := 0, slots := 0, locals := 70 }
theorem qd_D_placeOf : y_D_placeOf.cls = R_D ∧ y_D_placeOf.cls ≠ "java/lang/invoke/MethodHandle" ∧ y_D_placeOf.cls ≠ "java/lang/invoke/VarHandle" ∧ (parseMethodDescriptor y_D_placeOf.desc).map (fun d => d.parameters.length) = some 2 := by decide +kernel
def qv_S_isPath : List Cond := .code y_S_isPath b_S_isPath 1 (some .boolean) :: qa_WG
def qr_S_isPath : Room := { frames := 0, cells := 0, slots := 0, locals := 0 }
theorem qd_S_isPath : y_S_isPath.cls = R_S ∧ y_S_isPath.cls ≠ "java/lang/invoke/MethodHandle" ∧ y_S_isPath.cls ≠ "java/lang/invoke/VarHandle" ∧ (parseMethodDescriptor y_S_isPath.desc).map (fun d => d.parameters.length) = some 1 := by decide +kernel
def qv_S_isValue : List Cond := .code y_S_isValue b_S_isValue 1 (some .boolean) :: qa_WG
def qr_S_isValue : Room := { frames := 0, cells := 0, slots := 0, locals := 0 }
theorem qd_S_isValue : y_S_isValue.cls = R_S ∧ y_S_isValue.cls ≠ "java/lang/invoke/MethodHandle" ∧ y_S_isValue.cls ≠ "java/lang/invoke/VarHandle" ∧ (parseMethodDescriptor y_S_isValue.desc).map (fun d => d.parameters.length) = some 1 := by decide +kernel
def qv_C_makePlain : List Cond := .code y_C_makePlain b_C_makePlain 5 none :: qa_WG
def qr_C_makePlain : Room := { frames := 1, cells := 0, slots := 0, locals := 21 }
theorem qd_C_makePlain : y_C_makePlain.cls = R_C ∧ y_C_makePlain.cls ≠ "java/lang/invoke/MethodHandle" ∧ y_C_makePlain.cls ≠ "java/lang/invoke/VarHandle" ∧ (parseMethodDescriptor y_C_makePlain.desc).map (fun d => d.parameters.length) = some 3 := by decide +kernel
def qv_C_addDifference : List Cond := .code y_C_addDifference b_C_addDifference 9 none :: qa_WG
def qr_C_addDifference : Room := { frames := 2, cells := 0, slots := 0, locals := 45 }
theorem qd_C_addDifference : y_C_addDifference.cls = R_C ∧ y_C_addDifference.cls ≠ "java/lang/invoke/MethodHandle" ∧ y_C_addDifference.cls ≠ "java/lang/invoke/VarHandle" ∧ (parseMethodDescriptor y_C_addDifference.desc).map (fun d => d.parameters.length) = some 4 := by decide +kernel
def qv_C_addMoved : List Cond := .code y_C_addMoved b_C_addMoved 6 (some .int) :: qa_WG
def qr_C_addMoved : Room := { frames := 3, cells := 0, slots := 0, locals := 73 }
theorem qd_C_addMoved : y_C_addMoved.cls = R_C ∧ y_C_addMoved.cls ≠ "java/lang/invoke/MethodHandle" ∧ y_C_addMoved.cls ≠ "java/lang/invoke/VarHandle" ∧ (parseMethodDescriptor y_C_addMoved.desc).map (fun d => d.parameters.length) = some 2 := by decide +kernel
def qv_D_replace : List Cond := .code y_D_replace b_D_replace 3 none :: qa_WG
def qr_D_replace : Room := { frames := 2, cells := 0, slots := 0, locals := 41 }
theorem qd_D_replace : y_D_replace.cls = R_D ∧ y_D_replace.cls ≠ "java/lang/invoke/MethodHandle" ∧ y_D_replace.cls ≠ "java/lang/invoke/VarHandle" ∧ (parseMethodDescriptor y_D_replace.desc).map (fun d => d.parameters.length) = some 2 := by decide +kernel
def qv_D_settleCommits : List Cond := .code y_D_settleCommits b_D_settleCommits 5 (some .boolean) :: qa_WG
def qr_D_settleCommits : Room := { frames := 4, cells := 0, slots := 0, locals := 98 }
theorem qd_D_settleCommits : y_D_settleCommits.cls = R_D ∧ y_D_settleCommits.cls ≠ "java/lang/invoke/MethodHandle" ∧ y_D_settleCommits.cls ≠ "java/lang/invoke/VarHandle" ∧ (parseMethodDescriptor y_D_settleCommits.desc).map (fun d => d.parameters.length) = some 0 := by decide +kernel
def qv_C_dropFrom : List Cond := .code y_C_dropFrom b_C_dropFrom 2 none :: qa_WG
def qr_C_dropFrom : Room := { frames := 0, cells := 0, slots := 0, locals := 0 }
theorem qd_C_dropFrom : y_C_dropFrom.cls = R_C ∧ y_C_dropFrom.cls ≠ "java/lang/invoke/MethodHandle" ∧ y_C_dropFrom.cls ≠ "java/lang/invoke/VarHandle" ∧ (parseMethodDescriptor y_C_dropFrom.desc).map (fun d => d.parameters.length) = some 1 := by decide +kernel
def qv_D_settlePointers : List Cond := .code y_D_settlePointers b_D_settlePointers 2 none :: qa_WG
def qr_D_settlePointers : Room := { frames := 4, cells := 0, slots := 0, locals := 95 }
theorem qd_D_settlePointers : y_D_settlePointers.cls = R_D ∧ y_D_settlePointers.cls ≠ "java/lang/invoke/MethodHandle" ∧ y_D_settlePointers.cls ≠ "java/lang/invoke/VarHandle" ∧ (parseMethodDescriptor y_D_settlePointers.desc).map (fun d => d.parameters.length) = some 0 := by decide +kernel
def qv_O_add : List Cond := .code y_O_add b_O_add 5 (some .int) :: qa_WG
def qr_O_add : Room := { frames := 1, cells := 0, slots := 0, locals := 40 }
theorem qd_O_add : y_O_add.cls = R_O ∧ y_O_add.cls ≠ "java/lang/invoke/MethodHandle" ∧ y_O_add.cls ≠ "java/lang/invoke/VarHandle" ∧ (parseMethodDescriptor y_O_add.desc).map (fun d => d.parameters.length) = some 3 := by decide +kernel
def qv_S_keepDraft : List Cond := .code y_S_keepDraft b_S_keepDraft 4 (some .int) :: qa_WG
def qr_S_keepDraft : Room := { frames := 5, cells := 0, slots := 0, locals := 122 }
theorem qd_S_keepDraft : y_S_keepDraft.cls = R_S ∧ y_S_keepDraft.cls ≠ "java/lang/invoke/MethodHandle" ∧ y_S_keepDraft.cls ≠ "java/lang/invoke/VarHandle" ∧ (parseMethodDescriptor y_S_keepDraft.desc).map (fun d => d.parameters.length) = some 2 := by decide +kernel
def qv_S_create : List Cond := .code y_S_create b_S_create 3 (some .int) :: qa_WG
def qr_S_create : Room := { frames := 6, cells := 0, slots := 0, locals := 145 }
theorem qd_S_create : y_S_create.cls = R_S ∧ y_S_create.cls ≠ "java/lang/invoke/MethodHandle" ∧ y_S_create.cls ≠ "java/lang/invoke/VarHandle" ∧ (parseMethodDescriptor y_S_create.desc).map (fun d => d.parameters.length) = some 1 := by decide +kernel
def qv_C_countOf : List Cond := .code y_C_countOf b_C_countOf 4 (some .long) :: qa_WG
def qr_C_countOf : Room := { frames := 1, cells := 0, slots := 0, locals := 21 }
theorem qd_C_countOf : y_C_countOf.cls = R_C ∧ y_C_countOf.cls ≠ "java/lang/invoke/MethodHandle" ∧ y_C_countOf.cls ≠ "java/lang/invoke/VarHandle" ∧ (parseMethodDescriptor y_C_countOf.desc).map (fun d => d.parameters.length) = some 3 := by decide +kernel
def qv_C_isPlain : List Cond := .code y_C_isPlain b_C_isPlain 5 (some .boolean) :: qa_WG
def qr_C_isPlain : Room := { frames := 2, cells := 0, slots := 0, locals := 44 }
theorem qd_C_isPlain : y_C_isPlain.cls = R_C ∧ y_C_isPlain.cls ≠ "java/lang/invoke/MethodHandle" ∧ y_C_isPlain.cls ≠ "java/lang/invoke/VarHandle" ∧ (parseMethodDescriptor y_C_isPlain.desc).map (fun d => d.parameters.length) = some 3 := by decide +kernel
def qv_S_write : List Cond := .code y_S_write b_S_write 5 (some .int) :: qa_WG
def qr_S_write : Room := { frames := 6, cells := 0, slots := 0, locals := 145 }
theorem qd_S_write : y_S_write.cls = R_S ∧ y_S_write.cls ≠ "java/lang/invoke/MethodHandle" ∧ y_S_write.cls ≠ "java/lang/invoke/VarHandle" ∧ (parseMethodDescriptor y_S_write.desc).map (fun d => d.parameters.length) = some 2 := by decide +kernel
def qv_S_isReplaceable : List Cond := .code y_S_isReplaceable b_S_isReplaceable 2 (some .boolean) :: qa_WG
def qr_S_isReplaceable : Room := { frames := 2, cells := 0, slots := 0, locals := 43 }
theorem qd_S_isReplaceable : y_S_isReplaceable.cls = R_S ∧ y_S_isReplaceable.cls ≠ "java/lang/invoke/MethodHandle" ∧ y_S_isReplaceable.cls ≠ "java/lang/invoke/VarHandle" ∧ (parseMethodDescriptor y_S_isReplaceable.desc).map (fun d => d.parameters.length) = some 1 := by decide +kernel
def qv_S_rebase : List Cond := .code y_S_rebase b_S_rebase 3 (some .int) :: qa_WG
def qr_S_rebase : Room := { frames := 6, cells := 0, slots := 0, locals := 145 }
theorem qd_S_rebase : y_S_rebase.cls = R_S ∧ y_S_rebase.cls ≠ "java/lang/invoke/MethodHandle" ∧ y_S_rebase.cls ≠ "java/lang/invoke/VarHandle" ∧ (parseMethodDescriptor y_S_rebase.desc).map (fun d => d.parameters.length) = some 2 := by decide +kernel
def qv_S_abandon : List Cond := .code y_S_abandon b_S_abandon 2 (some .int) :: qa_WG
def qr_S_abandon : Room := { frames := 6, cells := 0, slots := 0, locals := 145 }
theorem qd_S_abandon : y_S_abandon.cls = R_S ∧ y_S_abandon.cls ≠ "java/lang/invoke/MethodHandle" ∧ y_S_abandon.cls ≠ "java/lang/invoke/VarHandle" ∧ (parseMethodDescriptor y_S_abandon.desc).map (fun d => d.parameters.length) = some 1 := by decide +kernel
def qv_S_squash : List Cond := .code y_S_squash b_S_squash 4 (some .int) :: qa_WG
def qr_S_squash : Room := { frames := 6, cells := 0, slots := 0, locals := 145 }
theorem qd_S_squash : y_S_squash.cls = R_S ∧ y_S_squash.cls ≠ "java/lang/invoke/MethodHandle" ∧ y_S_squash.cls ≠ "java/lang/invoke/VarHandle" ∧ (parseMethodDescriptor y_S_squash.desc).map (fun d => d.parameters.length) = some 1 := by decide +kernel
def qv_S_edit : List Cond := .code y_S_edit b_S_edit 2 (some .int) :: qa_WG
def qr_S_edit : Room := { frames := 6, cells := 0, slots := 0, locals := 145 }
theorem qd_S_edit : y_S_edit.cls = R_S ∧ y_S_edit.cls ≠ "java/lang/invoke/MethodHandle" ∧ y_S_edit.cls ≠ "java/lang/invoke/VarHandle" ∧ (parseMethodDescriptor y_S_edit.desc).map (fun d => d.parameters.length) = some 1 := by decide +kernel
def qv_S_mark : List Cond := .code y_S_mark b_S_mark 3 (some .int) :: qa_WG
def qr_S_mark : Room := { frames := 6, cells := 0, slots := 0, locals := 145 }
theorem qd_S_mark : y_S_mark.cls = R_S ∧ y_S_mark.cls ≠ "java/lang/invoke/MethodHandle" ∧ y_S_mark.cls ≠ "java/lang/invoke/VarHandle" ∧ (parseMethodDescriptor y_S_mark.desc).map (fun d => d.parameters.length) = some 2 := by decide +kernel
def qv_O_firstBefore : List Cond := .code y_O_firstBefore b_O_firstBefore 2 (some .int) :: qa_WG
def qr_O_firstBefore : Room := { frames := 1, cells := 0, slots := 0, locals := 21 }
theorem qd_O_firstBefore : y_O_firstBefore.cls = R_O ∧ y_O_firstBefore.cls ≠ "java/lang/invoke/MethodHandle" ∧ y_O_firstBefore.cls ≠ "java/lang/invoke/VarHandle" ∧ (parseMethodDescriptor y_O_firstBefore.desc).map (fun d => d.parameters.length) = some 1 := by decide +kernel
def qv_O_secondBefore : List Cond := .code y_O_secondBefore b_O_secondBefore 2 (some .int) :: qa_WG
def qr_O_secondBefore : Room := { frames := 1, cells := 0, slots := 0, locals := 21 }
theorem qd_O_secondBefore : y_O_secondBefore.cls = R_O ∧ y_O_secondBefore.cls ≠ "java/lang/invoke/MethodHandle" ∧ y_O_secondBefore.cls ≠ "java/lang/invoke/VarHandle" ∧ (parseMethodDescriptor y_O_secondBefore.desc).map (fun d => d.parameters.length) = some 1 := by decide +kernel
def qv_S_undo : List Cond := .code y_S_undo b_S_undo 4 (some .int) :: qa_WG
def qr_S_undo : Room := { frames := 6, cells := 0, slots := 0, locals := 145 }
theorem qd_S_undo : y_S_undo.cls = R_S ∧ y_S_undo.cls ≠ "java/lang/invoke/MethodHandle" ∧ y_S_undo.cls ≠ "java/lang/invoke/VarHandle" ∧ (parseMethodDescriptor y_S_undo.desc).map (fun d => d.parameters.length) = some 0 := by decide +kernel
def qv_S_restore : List Cond := .code y_S_restore b_S_restore 2 (some .int) :: qa_WG
def qr_S_restore : Room := { frames := 6, cells := 0, slots := 0, locals := 145 }
theorem qd_S_restore : y_S_restore.cls = R_S ∧ y_S_restore.cls ≠ "java/lang/invoke/MethodHandle" ∧ y_S_restore.cls ≠ "java/lang/invoke/VarHandle" ∧ (parseMethodDescriptor y_S_restore.desc).map (fun d => d.parameters.length) = some 1 := by decide +kernel
def qv_S_hasLineOne : List Cond := .code y_S_hasLineOne b_S_hasLineOne 1 (some .boolean) :: qa_WG
def qr_S_hasLineOne : Room := { frames := 0, cells := 0, slots := 0, locals := 0 }
theorem qd_S_hasLineOne : y_S_hasLineOne.cls = R_S ∧ y_S_hasLineOne.cls ≠ "java/lang/invoke/MethodHandle" ∧ y_S_hasLineOne.cls ≠ "java/lang/invoke/VarHandle" ∧ (parseMethodDescriptor y_S_hasLineOne.desc).map (fun d => d.parameters.length) = some 0 := by decide +kernel
def qv_S_fork : List Cond := .code y_S_fork b_S_fork 2 (some .boolean) :: qa_WG
def qr_S_fork : Room := { frames := 1, cells := 0, slots := 0, locals := 21 }
theorem qd_S_fork : y_S_fork.cls = R_S ∧ y_S_fork.cls ≠ "java/lang/invoke/MethodHandle" ∧ y_S_fork.cls ≠ "java/lang/invoke/VarHandle" ∧ (parseMethodDescriptor y_S_fork.desc).map (fun d => d.parameters.length) = some 1 := by decide +kernel
def qv_S_choose : List Cond := .code y_S_choose b_S_choose 3 (some .boolean) :: qa_WG
def qr_S_choose : Room := { frames := 1, cells := 0, slots := 0, locals := 20 }
theorem qd_S_choose : y_S_choose.cls = R_S ∧ y_S_choose.cls ≠ "java/lang/invoke/MethodHandle" ∧ y_S_choose.cls ≠ "java/lang/invoke/VarHandle" ∧ (parseMethodDescriptor y_S_choose.desc).map (fun d => d.parameters.length) = some 1 := by decide +kernel
def qv_D_joinedMark : List Cond := .code y_D_joinedMark b_D_joinedMark 3 (some .int) :: qa_WG
def qr_D_joinedMark : Room := { frames := 0, cells := 0, slots := 0, locals := 0 }
theorem qd_D_joinedMark : y_D_joinedMark.cls = R_D ∧ y_D_joinedMark.cls ≠ "java/lang/invoke/MethodHandle" ∧ y_D_joinedMark.cls ≠ "java/lang/invoke/VarHandle" ∧ (parseMethodDescriptor y_D_joinedMark.desc).map (fun d => d.parameters.length) = some 3 := by decide +kernel
def qv_D_openJoined : List Cond := .code y_D_openJoined b_D_openJoined 11 none :: qa_WG
def qr_D_openJoined : Room := { frames := 2, cells := 0, slots := 0, locals := 43 }
theorem qd_D_openJoined : y_D_openJoined.cls = R_D ∧ y_D_openJoined.cls ≠ "java/lang/invoke/MethodHandle" ∧ y_D_openJoined.cls ≠ "java/lang/invoke/VarHandle" ∧ (parseMethodDescriptor y_D_openJoined.desc).map (fun d => d.parameters.length) = some 4 := by decide +kernel
def qv_S_join : List Cond := .code y_S_join b_S_join 2 (some .int) :: qa_WG
def qr_S_join : Room := { frames := 6, cells := 0, slots := 0, locals := 145 }
theorem qd_S_join : y_S_join.cls = R_S ∧ y_S_join.cls ≠ "java/lang/invoke/MethodHandle" ∧ y_S_join.cls ≠ "java/lang/invoke/VarHandle" ∧ (parseMethodDescriptor y_S_join.desc).map (fun d => d.parameters.length) = some 0 := by decide +kernel
def qv_S_operation : List Cond := .code y_S_operation b_S_operation 1 (some .int) :: qa_WG
def qr_S_operation : Room := { frames := 0, cells := 0, slots := 0, locals := 0 }
theorem qd_S_operation : y_S_operation.cls = R_S ∧ y_S_operation.cls ≠ "java/lang/invoke/MethodHandle" ∧ y_S_operation.cls ≠ "java/lang/invoke/VarHandle" ∧ (parseMethodDescriptor y_S_operation.desc).map (fun d => d.parameters.length) = some 0 := by decide +kernel
def qv_S_before : List Cond := .code y_S_before b_S_before 3 (some .int) :: qa_WG
def qr_S_before : Room := { frames := 2, cells := 0, slots := 0, locals := 42 }
theorem qd_S_before : y_S_before.cls = R_S ∧ y_S_before.cls ≠ "java/lang/invoke/MethodHandle" ∧ y_S_before.cls ≠ "java/lang/invoke/VarHandle" ∧ (parseMethodDescriptor y_S_before.desc).map (fun d => d.parameters.length) = some 2 := by decide +kernel
def qv_S_visible : List Cond := .code y_S_visible b_S_visible 3 (some .boolean) :: qa_WG
def qr_S_visible : Room := { frames := 2, cells := 0, slots := 0, locals := 42 }
theorem qd_S_visible : y_S_visible.cls = R_S ∧ y_S_visible.cls ≠ "java/lang/invoke/MethodHandle" ∧ y_S_visible.cls ≠ "java/lang/invoke/VarHandle" ∧ (parseMethodDescriptor y_S_visible.desc).map (fun d => d.parameters.length) = some 2 := by decide +kernel
def qv_S_working : List Cond := .code y_S_working b_S_working 2 (some .int) :: qa_WG
def qr_S_working : Room := { frames := 2, cells := 0, slots := 0, locals := 42 }
theorem qd_S_working : y_S_working.cls = R_S ∧ y_S_working.cls ≠ "java/lang/invoke/MethodHandle" ∧ y_S_working.cls ≠ "java/lang/invoke/VarHandle" ∧ (parseMethodDescriptor y_S_working.desc).map (fun d => d.parameters.length) = some 1 := by decide +kernel
def qv_S_marked : List Cond := .code y_S_marked b_S_marked 3 (some .int) :: qa_WG
def qr_S_marked : Room := { frames := 2, cells := 0, slots := 0, locals := 43 }
theorem qd_S_marked : y_S_marked.cls = R_S ∧ y_S_marked.cls ≠ "java/lang/invoke/MethodHandle" ∧ y_S_marked.cls ≠ "java/lang/invoke/VarHandle" ∧ (parseMethodDescriptor y_S_marked.desc).map (fun d => d.parameters.length) = some 2 := by decide +kernel
def qv_C_parentsOf : List Cond := .code y_C_parentsOf b_C_parentsOf 6 (some .long) :: qa_WG
def qr_C_parentsOf : Room := { frames := 1, cells := 0, slots := 0, locals := 22 }
theorem qd_C_parentsOf : y_C_parentsOf.cls = R_C ∧ y_C_parentsOf.cls ≠ "java/lang/invoke/MethodHandle" ∧ y_C_parentsOf.cls ≠ "java/lang/invoke/VarHandle" ∧ (parseMethodDescriptor y_C_parentsOf.desc).map (fun d => d.parameters.length) = some 1 := by decide +kernel
def qv_S_head : List Cond := .code y_S_head b_S_head 9 (some .int) :: qa_WG
def qr_S_head : Room := { frames := 2, cells := 0, slots := 0, locals := 47 }
theorem qd_S_head : y_S_head.cls = R_S ∧ y_S_head.cls ≠ "java/lang/invoke/MethodHandle" ∧ y_S_head.cls ≠ "java/lang/invoke/VarHandle" ∧ (parseMethodDescriptor y_S_head.desc).map (fun d => d.parameters.length) = some 2 := by decide +kernel
def qv_S_commit : List Cond := .code y_S_commit b_S_commit 3 (some .int) :: qa_WG
def qr_S_commit : Room := { frames := 2, cells := 0, slots := 0, locals := 42 }
theorem qd_S_commit : y_S_commit.cls = R_S ∧ y_S_commit.cls ≠ "java/lang/invoke/MethodHandle" ∧ y_S_commit.cls ≠ "java/lang/invoke/VarHandle" ∧ (parseMethodDescriptor y_S_commit.desc).map (fun d => d.parameters.length) = some 2 := by decide +kernel
def qv_S_count : List Cond := .code y_S_count b_S_count 4 (some .long) :: qa_WG
def qr_S_count : Room := { frames := 2, cells := 0, slots := 0, locals := 44 }
theorem qd_S_count : y_S_count.cls = R_S ∧ y_S_count.cls ≠ "java/lang/invoke/MethodHandle" ∧ y_S_count.cls ≠ "java/lang/invoke/VarHandle" ∧ (parseMethodDescriptor y_S_count.desc).map (fun d => d.parameters.length) = some 3 := by decide +kernel
def qv_M_here : List Cond := .code y_M_here b_M_here 1 (some .int) :: qa_WG
def qr_M_here : Room := { frames := 0, cells := 0, slots := 0, locals := 0 }
theorem qd_M_here : y_M_here.cls = R_M ∧ y_M_here.cls ≠ "java/lang/invoke/MethodHandle" ∧ y_M_here.cls ≠ "java/lang/invoke/VarHandle" ∧ (parseMethodDescriptor y_M_here.desc).map (fun d => d.parameters.length) = some 0 := by decide +kernel
def qv_M_isVisible : List Cond := .code y_M_isVisible b_M_isVisible 3 (some .boolean) :: qa_WG
def qr_M_isVisible : Room := { frames := 0, cells := 0, slots := 0, locals := 0 }
theorem qd_M_isVisible : y_M_isVisible.cls = R_M ∧ y_M_isVisible.cls ≠ "java/lang/invoke/MethodHandle" ∧ y_M_isVisible.cls ≠ "java/lang/invoke/VarHandle" ∧ (parseMethodDescriptor y_M_isVisible.desc).map (fun d => d.parameters.length) = some 2 := by decide +kernel
def qv_M_begin : List Cond := .code y_M_begin b_M_begin 3 none :: qa_WG
def qr_M_begin : Room := { frames := 0, cells := 0, slots := 0, locals := 0 }
theorem qd_M_begin : y_M_begin.cls = R_M ∧ y_M_begin.cls ≠ "java/lang/invoke/MethodHandle" ∧ y_M_begin.cls ≠ "java/lang/invoke/VarHandle" ∧ (parseMethodDescriptor y_M_begin.desc).map (fun d => d.parameters.length) = some 1 := by decide +kernel
def qv_M_fresh : List Cond := .code y_M_fresh b_M_fresh 3 (some .int) :: qa_WG
def qr_M_fresh : Room := { frames := 0, cells := 0, slots := 0, locals := 0 }
theorem qd_M_fresh : y_M_fresh.cls = R_M ∧ y_M_fresh.cls ≠ "java/lang/invoke/MethodHandle" ∧ y_M_fresh.cls ≠ "java/lang/invoke/VarHandle" ∧ (parseMethodDescriptor y_M_fresh.desc).map (fun d => d.parameters.length) = some 2 := by decide +kernel
def qv_M_copyContents : List Cond := .code y_M_copyContents b_M_copyContents 4 none :: qa_WG
def qr_M_copyContents : Room := { frames := 0, cells := 0, slots := 0, locals := 0 }
theorem qd_M_copyContents : y_M_copyContents.cls = R_M ∧ y_M_copyContents.cls ≠ "java/lang/invoke/MethodHandle" ∧ y_M_copyContents.cls ≠ "java/lang/invoke/VarHandle" ∧ (parseMethodDescriptor y_M_copyContents.desc).map (fun d => d.parameters.length) = some 2 := by decide +kernel
def qv_M_finish : List Cond := .code y_M_finish b_M_finish 5 (some .int) :: qa_WG
def qr_M_finish : Room := { frames := 0, cells := 0, slots := 0, locals := 0 }
theorem qd_M_finish : y_M_finish.cls = R_M ∧ y_M_finish.cls ≠ "java/lang/invoke/MethodHandle" ∧ y_M_finish.cls ≠ "java/lang/invoke/VarHandle" ∧ (parseMethodDescriptor y_M_finish.desc).map (fun d => d.parameters.length) = some 2 := by decide +kernel
def qv_M_done : List Cond := .code y_M_done b_M_done 2 (some .int) :: qa_WG
def qr_M_done : Room := { frames := 1, cells := 0, slots := 0, locals := 24 }
theorem qd_M_done : y_M_done.cls = R_M ∧ y_M_done.cls ≠ "java/lang/invoke/MethodHandle" ∧ y_M_done.cls ≠ "java/lang/invoke/VarHandle" ∧ (parseMethodDescriptor y_M_done.desc).map (fun d => d.parameters.length) = some 0 := by decide +kernel
def qv_M_create : List Cond := .code y_M_create b_M_create 3 (some .int) :: qa_WG
def qr_M_create : Room := { frames := 2, cells := 0, slots := 0, locals := 45 }
theorem qd_M_create : y_M_create.cls = R_M ∧ y_M_create.cls ≠ "java/lang/invoke/MethodHandle" ∧ y_M_create.cls ≠ "java/lang/invoke/VarHandle" ∧ (parseMethodDescriptor y_M_create.desc).map (fun d => d.parameters.length) = some 1 := by decide +kernel
def qv_M_plain : List Cond := .code y_M_plain b_M_plain 6 (some .boolean) :: qa_WG
def qr_M_plain : Room := { frames := 0, cells := 0, slots := 0, locals := 0 }
theorem qd_M_plain : y_M_plain.cls = R_M ∧ y_M_plain.cls ≠ "java/lang/invoke/MethodHandle" ∧ y_M_plain.cls ≠ "java/lang/invoke/VarHandle" ∧ (parseMethodDescriptor y_M_plain.desc).map (fun d => d.parameters.length) = some 3 := by decide +kernel
def qv_M_setPlain : List Cond := .code y_M_setPlain b_M_setPlain 5 none :: qa_WG
def qr_M_setPlain : Room := { frames := 0, cells := 0, slots := 0, locals := 0 }
theorem qd_M_setPlain : y_M_setPlain.cls = R_M ∧ y_M_setPlain.cls ≠ "java/lang/invoke/MethodHandle" ∧ y_M_setPlain.cls ≠ "java/lang/invoke/VarHandle" ∧ (parseMethodDescriptor y_M_setPlain.desc).map (fun d => d.parameters.length) = some 3 := by decide +kernel
def qv_M_replace : List Cond := .code y_M_replace b_M_replace 3 none :: qa_WG
def qr_M_replace : Room := { frames := 0, cells := 0, slots := 0, locals := 0 }
theorem qd_M_replace : y_M_replace.cls = R_M ∧ y_M_replace.cls ≠ "java/lang/invoke/MethodHandle" ∧ y_M_replace.cls ≠ "java/lang/invoke/VarHandle" ∧ (parseMethodDescriptor y_M_replace.desc).map (fun d => d.parameters.length) = some 2 := by decide +kernel
def qv_M_loose : List Cond := .code y_M_loose b_M_loose 2 (some .int) :: qa_WG
def qr_M_loose : Room := { frames := 0, cells := 0, slots := 0, locals := 0 }
theorem qd_M_loose : y_M_loose.cls = R_M ∧ y_M_loose.cls ≠ "java/lang/invoke/MethodHandle" ∧ y_M_loose.cls ≠ "java/lang/invoke/VarHandle" ∧ (parseMethodDescriptor y_M_loose.desc).map (fun d => d.parameters.length) = some 0 := by decide +kernel
def qv_M_comesOf : List Cond := .code y_M_comesOf b_M_comesOf 4 (some .boolean) :: qa_WG
def qr_M_comesOf : Room := { frames := 0, cells := 0, slots := 0, locals := 0 }
theorem qd_M_comesOf : y_M_comesOf.cls = R_M ∧ y_M_comesOf.cls ≠ "java/lang/invoke/MethodHandle" ∧ y_M_comesOf.cls ≠ "java/lang/invoke/VarHandle" ∧ (parseMethodDescriptor y_M_comesOf.desc).map (fun d => d.parameters.length) = some 2 := by decide +kernel
def qv_M_sameChange : List Cond := .code y_M_sameChange b_M_sameChange 5 (some .int) :: qa_WG
def qr_M_sameChange : Room := { frames := 1, cells := 0, slots := 0, locals := 23 }
theorem qd_M_sameChange : y_M_sameChange.cls = R_M ∧ y_M_sameChange.cls ≠ "java/lang/invoke/MethodHandle" ∧ y_M_sameChange.cls ≠ "java/lang/invoke/VarHandle" ∧ (parseMethodDescriptor y_M_sameChange.desc).map (fun d => d.parameters.length) = some 2 := by decide +kernel
def qv_M_place : List Cond := .code y_M_place b_M_place 6 (some .int) :: qa_WG
def qr_M_place : Room := { frames := 2, cells := 0, slots := 0, locals := 47 }
theorem qd_M_place : y_M_place.cls = R_M ∧ y_M_place.cls ≠ "java/lang/invoke/MethodHandle" ∧ y_M_place.cls ≠ "java/lang/invoke/VarHandle" ∧ (parseMethodDescriptor y_M_place.desc).map (fun d => d.parameters.length) = some 2 := by decide +kernel
def qv_M_mix : List Cond := .code y_M_mix b_M_mix 12 none :: qa_WG
def qr_M_mix : Room := { frames := 1, cells := 0, slots := 0, locals := 24 }
theorem qd_M_mix : y_M_mix.cls = R_M ∧ y_M_mix.cls ≠ "java/lang/invoke/MethodHandle" ∧ y_M_mix.cls ≠ "java/lang/invoke/VarHandle" ∧ (parseMethodDescriptor y_M_mix.desc).map (fun d => d.parameters.length) = some 4 := by decide +kernel
def qv_M_settle : List Cond := .code y_M_settle b_M_settle 4 none :: qa_WG
def qr_M_settle : Room := { frames := 3, cells := 0, slots := 0, locals := 72 }
theorem qd_M_settle : y_M_settle.cls = R_M ∧ y_M_settle.cls ≠ "java/lang/invoke/MethodHandle" ∧ y_M_settle.cls ≠ "java/lang/invoke/VarHandle" ∧ (parseMethodDescriptor y_M_settle.desc).map (fun d => d.parameters.length) = some 0 := by decide +kernel
def qv_M_write : List Cond := .code y_M_write b_M_write 5 (some .int) :: qa_WG
def qr_M_write : Room := { frames := 4, cells := 0, slots := 0, locals := 95 }
theorem qd_M_write : y_M_write.cls = R_M ∧ y_M_write.cls ≠ "java/lang/invoke/MethodHandle" ∧ y_M_write.cls ≠ "java/lang/invoke/VarHandle" ∧ (parseMethodDescriptor y_M_write.desc).map (fun d => d.parameters.length) = some 2 := by decide +kernel
def qv_M_rebase : List Cond := .code y_M_rebase b_M_rebase 4 (some .int) :: qa_WG
def qr_M_rebase : Room := { frames := 4, cells := 0, slots := 0, locals := 95 }
theorem qd_M_rebase : y_M_rebase.cls = R_M ∧ y_M_rebase.cls ≠ "java/lang/invoke/MethodHandle" ∧ y_M_rebase.cls ≠ "java/lang/invoke/VarHandle" ∧ (parseMethodDescriptor y_M_rebase.desc).map (fun d => d.parameters.length) = some 2 := by decide +kernel
def qv_M_abandon : List Cond := .code y_M_abandon b_M_abandon 2 (some .int) :: qa_WG
def qr_M_abandon : Room := { frames := 4, cells := 0, slots := 0, locals := 95 }
theorem qd_M_abandon : y_M_abandon.cls = R_M ∧ y_M_abandon.cls ≠ "java/lang/invoke/MethodHandle" ∧ y_M_abandon.cls ≠ "java/lang/invoke/VarHandle" ∧ (parseMethodDescriptor y_M_abandon.desc).map (fun d => d.parameters.length) = some 1 := by decide +kernel
def qv_M_squash : List Cond := .code y_M_squash b_M_squash 4 (some .int) :: qa_WG
def qr_M_squash : Room := { frames := 4, cells := 0, slots := 0, locals := 95 }
theorem qd_M_squash : y_M_squash.cls = R_M ∧ y_M_squash.cls ≠ "java/lang/invoke/MethodHandle" ∧ y_M_squash.cls ≠ "java/lang/invoke/VarHandle" ∧ (parseMethodDescriptor y_M_squash.desc).map (fun d => d.parameters.length) = some 1 := by decide +kernel
def qv_M_edit : List Cond := .code y_M_edit b_M_edit 2 (some .int) :: qa_WG
def qr_M_edit : Room := { frames := 2, cells := 0, slots := 0, locals := 45 }
theorem qd_M_edit : y_M_edit.cls = R_M ∧ y_M_edit.cls ≠ "java/lang/invoke/MethodHandle" ∧ y_M_edit.cls ≠ "java/lang/invoke/VarHandle" ∧ (parseMethodDescriptor y_M_edit.desc).map (fun d => d.parameters.length) = some 1 := by decide +kernel
def qv_M_mark : List Cond := .code y_M_mark b_M_mark 3 (some .int) :: qa_WG
def qr_M_mark : Room := { frames := 2, cells := 0, slots := 0, locals := 45 }
theorem qd_M_mark : y_M_mark.cls = R_M ∧ y_M_mark.cls ≠ "java/lang/invoke/MethodHandle" ∧ y_M_mark.cls ≠ "java/lang/invoke/VarHandle" ∧ (parseMethodDescriptor y_M_mark.desc).map (fun d => d.parameters.length) = some 2 := by decide +kernel
def qv_M_undo : List Cond := .code y_M_undo b_M_undo 2 (some .int) :: qa_WG
def qr_M_undo : Room := { frames := 2, cells := 0, slots := 0, locals := 45 }
theorem qd_M_undo : y_M_undo.cls = R_M ∧ y_M_undo.cls ≠ "java/lang/invoke/MethodHandle" ∧ y_M_undo.cls ≠ "java/lang/invoke/VarHandle" ∧ (parseMethodDescriptor y_M_undo.desc).map (fun d => d.parameters.length) = some 0 := by decide +kernel
def qv_M_restore : List Cond := .code y_M_restore b_M_restore 2 (some .int) :: qa_WG
def qr_M_restore : Room := { frames := 2, cells := 0, slots := 0, locals := 45 }
theorem qd_M_restore : y_M_restore.cls = R_M ∧ y_M_restore.cls ≠ "java/lang/invoke/MethodHandle" ∧ y_M_restore.cls ≠ "java/lang/invoke/VarHandle" ∧ (parseMethodDescriptor y_M_restore.desc).map (fun d => d.parameters.length) = some 1 := by decide +kernel
def qv_M_fork : List Cond := .code y_M_fork b_M_fork 2 (some .boolean) :: qa_WG
def qr_M_fork : Room := { frames := 0, cells := 0, slots := 0, locals := 0 }
theorem qd_M_fork : y_M_fork.cls = R_M ∧ y_M_fork.cls ≠ "java/lang/invoke/MethodHandle" ∧ y_M_fork.cls ≠ "java/lang/invoke/VarHandle" ∧ (parseMethodDescriptor y_M_fork.desc).map (fun d => d.parameters.length) = some 1 := by decide +kernel
def qv_M_choose : List Cond := .code y_M_choose b_M_choose 2 (some .boolean) :: qa_WG
def qr_M_choose : Room := { frames := 0, cells := 0, slots := 0, locals := 0 }
theorem qd_M_choose : y_M_choose.cls = R_M ∧ y_M_choose.cls ≠ "java/lang/invoke/MethodHandle" ∧ y_M_choose.cls ≠ "java/lang/invoke/VarHandle" ∧ (parseMethodDescriptor y_M_choose.desc).map (fun d => d.parameters.length) = some 1 := by decide +kernel
def qv_M_merged : List Cond := .code y_M_merged b_M_merged 3 (some .int) :: qa_WG
def qr_M_merged : Room := { frames := 0, cells := 0, slots := 0, locals := 0 }
theorem qd_M_merged : y_M_merged.cls = R_M ∧ y_M_merged.cls ≠ "java/lang/invoke/MethodHandle" ∧ y_M_merged.cls ≠ "java/lang/invoke/VarHandle" ∧ (parseMethodDescriptor y_M_merged.desc).map (fun d => d.parameters.length) = some 3 := by decide +kernel
def qv_M_join : List Cond := .code y_M_join b_M_join 7 (some .int) :: qa_WG
def qr_M_join : Room := { frames := 4, cells := 0, slots := 0, locals := 95 }
theorem qd_M_join : y_M_join.cls = R_M ∧ y_M_join.cls ≠ "java/lang/invoke/MethodHandle" ∧ y_M_join.cls ≠ "java/lang/invoke/VarHandle" ∧ (parseMethodDescriptor y_M_join.desc).map (fun d => d.parameters.length) = some 0 := by decide +kernel
def qv_M_operation : List Cond := .code y_M_operation b_M_operation 1 (some .int) :: qa_WG
def qr_M_operation : Room := { frames := 1, cells := 0, slots := 0, locals := 20 }
theorem qd_M_operation : y_M_operation.cls = R_M ∧ y_M_operation.cls ≠ "java/lang/invoke/MethodHandle" ∧ y_M_operation.cls ≠ "java/lang/invoke/VarHandle" ∧ (parseMethodDescriptor y_M_operation.desc).map (fun d => d.parameters.length) = some 0 := by decide +kernel
def qv_M_there : List Cond := .code y_M_there b_M_there 2 (some .boolean) :: qa_WG
def qr_M_there : Room := { frames := 0, cells := 0, slots := 0, locals := 0 }
theorem qd_M_there : y_M_there.cls = R_M ∧ y_M_there.cls ≠ "java/lang/invoke/MethodHandle" ∧ y_M_there.cls ≠ "java/lang/invoke/VarHandle" ∧ (parseMethodDescriptor y_M_there.desc).map (fun d => d.parameters.length) = some 1 := by decide +kernel
def qv_M_before : List Cond := .code y_M_before b_M_before 3 (some .int) :: qa_WG
def qr_M_before : Room := { frames := 1, cells := 0, slots := 0, locals := 21 }
theorem qd_M_before : y_M_before.cls = R_M ∧ y_M_before.cls ≠ "java/lang/invoke/MethodHandle" ∧ y_M_before.cls ≠ "java/lang/invoke/VarHandle" ∧ (parseMethodDescriptor y_M_before.desc).map (fun d => d.parameters.length) = some 2 := by decide +kernel
def qv_M_visible : List Cond := .code y_M_visible b_M_visible 3 (some .boolean) :: qa_WG
def qr_M_visible : Room := { frames := 1, cells := 0, slots := 0, locals := 22 }
theorem qd_M_visible : y_M_visible.cls = R_M ∧ y_M_visible.cls ≠ "java/lang/invoke/MethodHandle" ∧ y_M_visible.cls ≠ "java/lang/invoke/VarHandle" ∧ (parseMethodDescriptor y_M_visible.desc).map (fun d => d.parameters.length) = some 2 := by decide +kernel
def qv_M_working : List Cond := .code y_M_working b_M_working 2 (some .int) :: qa_WG
def qr_M_working : Room := { frames := 1, cells := 0, slots := 0, locals := 21 }
theorem qd_M_working : y_M_working.cls = R_M ∧ y_M_working.cls ≠ "java/lang/invoke/MethodHandle" ∧ y_M_working.cls ≠ "java/lang/invoke/VarHandle" ∧ (parseMethodDescriptor y_M_working.desc).map (fun d => d.parameters.length) = some 1 := by decide +kernel
def qv_M_marked : List Cond := .code y_M_marked b_M_marked 3 (some .int) :: qa_WG
def qr_M_marked : Room := { frames := 1, cells := 0, slots := 0, locals := 21 }
theorem qd_M_marked : y_M_marked.cls = R_M ∧ y_M_marked.cls ≠ "java/lang/invoke/MethodHandle" ∧ y_M_marked.cls ≠ "java/lang/invoke/VarHandle" ∧ (parseMethodDescriptor y_M_marked.desc).map (fun d => d.parameters.length) = some 2 := by decide +kernel
def qv_M_isHead : List Cond := .code y_M_isHead b_M_isHead 5 (some .boolean) :: qa_WG
def qr_M_isHead : Room := { frames := 1, cells := 0, slots := 0, locals := 22 }
theorem qd_M_isHead : y_M_isHead.cls = R_M ∧ y_M_isHead.cls ≠ "java/lang/invoke/MethodHandle" ∧ y_M_isHead.cls ≠ "java/lang/invoke/VarHandle" ∧ (parseMethodDescriptor y_M_isHead.desc).map (fun d => d.parameters.length) = some 2 := by decide +kernel
def qv_M_head : List Cond := .code y_M_head b_M_head 5 (some .int) :: qa_WG
def qr_M_head : Room := { frames := 2, cells := 0, slots := 0, locals := 46 }
theorem qd_M_head : y_M_head.cls = R_M ∧ y_M_head.cls ≠ "java/lang/invoke/MethodHandle" ∧ y_M_head.cls ≠ "java/lang/invoke/VarHandle" ∧ (parseMethodDescriptor y_M_head.desc).map (fun d => d.parameters.length) = some 2 := by decide +kernel
def qv_M_commit : List Cond := .code y_M_commit b_M_commit 3 (some .int) :: qa_WG
def qr_M_commit : Room := { frames := 0, cells := 0, slots := 0, locals := 0 }
theorem qd_M_commit : y_M_commit.cls = R_M ∧ y_M_commit.cls ≠ "java/lang/invoke/MethodHandle" ∧ y_M_commit.cls ≠ "java/lang/invoke/VarHandle" ∧ (parseMethodDescriptor y_M_commit.desc).map (fun d => d.parameters.length) = some 2 := by decide +kernel
def qv_M_count : List Cond := .code y_M_count b_M_count 4 (some .long) :: qa_WG
def qr_M_count : Room := { frames := 0, cells := 0, slots := 0, locals := 0 }
theorem qd_M_count : y_M_count.cls = R_M ∧ y_M_count.cls ≠ "java/lang/invoke/MethodHandle" ∧ y_M_count.cls ≠ "java/lang/invoke/VarHandle" ∧ (parseMethodDescriptor y_M_count.desc).map (fun d => d.parameters.length) = some 3 := by decide +kernel
theorem qo_A_fill : GoodIn qa_WG qv_A_fill := qa_good (pre := []) qh_137 (fun w h => by cases h)
theorem qo_O_36_O_has : GoodIn qa_WG (wsV R_O 36 R_O y_O_has qv_O_has) := qa_good qh_145 (List.forall_mem_cons.mpr ⟨qh_142, List.forall_mem_cons.mpr ⟨qh_143, List.forall_mem_cons.mpr ⟨qh_144, List.forall_mem_cons.mpr ⟨qh_3, fun _ h => by cases h⟩⟩⟩⟩)
theorem qo_S_isMark : GoodIn qa_WG qv_S_isMark := qa_good (pre := []) qh_156 (fun w h => by cases h)
theorem qo_D_43_O_markIn : GoodIn qa_WG (wsV R_D 43 R_O y_O_markIn qv_O_markIn) := qa_good qh_153 (List.forall_mem_cons.mpr ⟨qh_150, List.forall_mem_cons.mpr ⟨qh_151, List.forall_mem_cons.mpr ⟨qh_152, List.forall_mem_cons.mpr ⟨qh_3, fun _ h => by cases h⟩⟩⟩⟩)
theorem qo_D_35_O_workingIn : GoodIn qa_WG (wsV R_D 35 R_O y_O_workingIn qv_O_workingIn) := qa_good qh_149 (List.forall_mem_cons.mpr ⟨qh_146, List.forall_mem_cons.mpr ⟨qh_147, List.forall_mem_cons.mpr ⟨qh_148, List.forall_mem_cons.mpr ⟨qh_3, fun _ h => by cases h⟩⟩⟩⟩)
theorem qo_D_25_O_shownIn : GoodIn qa_WG (wsV R_D 25 R_O y_O_shownIn qv_O_shownIn) := qa_good qh_141 (List.forall_mem_cons.mpr ⟨qh_138, List.forall_mem_cons.mpr ⟨qh_139, List.forall_mem_cons.mpr ⟨qh_140, List.forall_mem_cons.mpr ⟨qh_3, fun _ h => by cases h⟩⟩⟩⟩)
theorem qo_D_22_D_start : GoodIn qa_WG (wsV R_D 22 R_D y_D_start qv_D_start) := qa_good qh_134 (List.forall_mem_cons.mpr ⟨qh_131, List.forall_mem_cons.mpr ⟨qh_133, List.forall_mem_cons.mpr ⟨qh_s1, List.forall_mem_cons.mpr ⟨qh_4, fun _ h => by cases h⟩⟩⟩⟩)
theorem qo_S_126_D_open : GoodIn qa_WG (wsV R_S 126 R_D y_D_open qv_D_open) := qa_good qh_130 (List.forall_mem_cons.mpr ⟨qh_127, List.forall_mem_cons.mpr ⟨qh_128, List.forall_mem_cons.mpr ⟨qh_129, List.forall_mem_cons.mpr ⟨qh_4, fun _ h => by cases h⟩⟩⟩⟩)
theorem qo_S_isIn : GoodIn qa_WG qv_S_isIn := qa_good (pre := []) qh_163 (fun w h => by cases h)
theorem qo_S_162_O_isFull : GoodIn qa_WG (wsV R_S 162 R_O y_O_isFull qv_O_isFull) := qa_good qh_175 (List.forall_mem_cons.mpr ⟨qh_172, List.forall_mem_cons.mpr ⟨qh_173, List.forall_mem_cons.mpr ⟨qh_174, List.forall_mem_cons.mpr ⟨qh_3, fun _ h => by cases h⟩⟩⟩⟩)
theorem qo_S_159_C_isFull : GoodIn qa_WG (wsV R_S 159 R_C y_C_isFull qv_C_isFull) := qa_good qh_171 (List.forall_mem_cons.mpr ⟨qh_168, List.forall_mem_cons.mpr ⟨qh_169, List.forall_mem_cons.mpr ⟨qh_170, List.forall_mem_cons.mpr ⟨qh_2, fun _ h => by cases h⟩⟩⟩⟩)
theorem qo_C_39_C_start : GoodIn qa_WG (wsS R_C 39 y_C_start qv_C_start) := qa_good qh_191 (List.forall_mem_cons.mpr ⟨qh_189, List.forall_mem_cons.mpr ⟨qh_190, List.forall_mem_cons.mpr ⟨qh_2, fun _ h => by cases h⟩⟩⟩)
theorem qo_C_29_C_has : GoodIn qa_WG (wsV R_C 29 R_C y_C_has qv_C_has) := qa_good qh_188 (List.forall_mem_cons.mpr ⟨qh_185, List.forall_mem_cons.mpr ⟨qh_186, List.forall_mem_cons.mpr ⟨qh_187, List.forall_mem_cons.mpr ⟨qh_2, fun _ h => by cases h⟩⟩⟩⟩)
theorem qo_C_59_C_isFull : GoodIn qa_WG (wsV R_C 59 R_C y_C_isFull qv_C_isFull) := qa_good qh_171 (List.forall_mem_cons.mpr ⟨qh_180, List.forall_mem_cons.mpr ⟨qh_169, List.forall_mem_cons.mpr ⟨qh_170, List.forall_mem_cons.mpr ⟨qh_2, fun _ h => by cases h⟩⟩⟩⟩)
theorem qo_C_63_C_addCopy : GoodIn qa_WG (wsV R_C 63 R_C y_C_addCopy qv_C_addCopy) := qa_good qh_184 (List.forall_mem_cons.mpr ⟨qh_181, List.forall_mem_cons.mpr ⟨qh_182, List.forall_mem_cons.mpr ⟨qh_183, List.forall_mem_cons.mpr ⟨qh_2, fun _ h => by cases h⟩⟩⟩⟩)
theorem qo_S_bit : GoodIn qa_WG qv_S_bit := qa_good (pre := []) qh_49 (fun w h => by cases h)
theorem qo_D_107_D_shows : GoodIn qa_WG (wsV R_D 107 R_D y_D_shows qv_D_shows) := qa_good qh_160 (List.forall_mem_cons.mpr ⟨qh_216, List.forall_mem_cons.mpr ⟨qh_158, List.forall_mem_cons.mpr ⟨qh_159, List.forall_mem_cons.mpr ⟨qh_4, fun _ h => by cases h⟩⟩⟩⟩)
theorem qo_D_93_C_parentOf : GoodIn qa_WG (wsV R_D 93 R_C y_C_parentOf qv_C_parentOf) := qa_good qh_220 (List.forall_mem_cons.mpr ⟨qh_217, List.forall_mem_cons.mpr ⟨qh_218, List.forall_mem_cons.mpr ⟨qh_219, List.forall_mem_cons.mpr ⟨qh_2, fun _ h => by cases h⟩⟩⟩⟩)
theorem qo_C_51_C_parentOf : GoodIn qa_WG (wsV R_C 51 R_C y_C_parentOf qv_C_parentOf) := qa_good qh_220 (List.forall_mem_cons.mpr ⟨qh_227, List.forall_mem_cons.mpr ⟨qh_218, List.forall_mem_cons.mpr ⟨qh_219, List.forall_mem_cons.mpr ⟨qh_2, fun _ h => by cases h⟩⟩⟩⟩)
theorem qo_D_116_C_latestOfChange : GoodIn qa_WG (wsV R_D 116 R_C y_C_latestOfChange qv_C_latestOfChange) := qa_good qh_246 (List.forall_mem_cons.mpr ⟨qh_243, List.forall_mem_cons.mpr ⟨qh_244, List.forall_mem_cons.mpr ⟨qh_245, List.forall_mem_cons.mpr ⟨qh_2, fun _ h => by cases h⟩⟩⟩⟩)
theorem qo_D_113_C_changeOf : GoodIn qa_WG (wsV R_D 113 R_C y_C_changeOf qv_C_changeOf) := qa_good qh_242 (List.forall_mem_cons.mpr ⟨qh_239, List.forall_mem_cons.mpr ⟨qh_240, List.forall_mem_cons.mpr ⟨qh_241, List.forall_mem_cons.mpr ⟨qh_2, fun _ h => by cases h⟩⟩⟩⟩)
theorem qo_D_74_C_has : GoodIn qa_WG (wsV R_D 74 R_C y_C_has qv_C_has) := qa_good qh_188 (List.forall_mem_cons.mpr ⟨qh_238, List.forall_mem_cons.mpr ⟨qh_186, List.forall_mem_cons.mpr ⟨qh_187, List.forall_mem_cons.mpr ⟨qh_2, fun _ h => by cases h⟩⟩⟩⟩)
theorem qo_D_110_D_nextTowardsPlace : GoodIn qa_WG (wsV R_D 110 R_D y_D_nextTowardsPlace qv_D_nextTowardsPlace) := qa_good qh_237 (List.forall_mem_cons.mpr ⟨qh_234, List.forall_mem_cons.mpr ⟨qh_236, List.forall_mem_cons.mpr ⟨qh_s6, List.forall_mem_cons.mpr ⟨qh_4, fun _ h => by cases h⟩⟩⟩⟩)
theorem qo_S_isValue : GoodIn qa_WG qv_S_isValue := qa_good (pre := []) qh_265 (fun w h => by cases h)
theorem qo_S_isPath : GoodIn qa_WG qv_S_isPath := qa_good (pre := []) qh_262 (fun w h => by cases h)
theorem qo_C_80_C_makePlain : GoodIn qa_WG (wsV R_C 80 R_C y_C_makePlain qv_C_makePlain) := qa_good qh_259 (List.forall_mem_cons.mpr ⟨qh_256, List.forall_mem_cons.mpr ⟨qh_257, List.forall_mem_cons.mpr ⟨qh_258, List.forall_mem_cons.mpr ⟨qh_2, fun _ h => by cases h⟩⟩⟩⟩)
theorem qo_C_76_C_addDifference : GoodIn qa_WG (wsV R_C 76 R_C y_C_addDifference qv_C_addDifference) := qa_good qh_255 (List.forall_mem_cons.mpr ⟨qh_252, List.forall_mem_cons.mpr ⟨qh_254, List.forall_mem_cons.mpr ⟨qh_s7, List.forall_mem_cons.mpr ⟨qh_2, fun _ h => by cases h⟩⟩⟩⟩)
theorem qo_C_73_C_changeOf : GoodIn qa_WG (wsV R_C 73 R_C y_C_changeOf qv_C_changeOf) := qa_good qh_242 (List.forall_mem_cons.mpr ⟨qh_251, List.forall_mem_cons.mpr ⟨qh_240, List.forall_mem_cons.mpr ⟨qh_241, List.forall_mem_cons.mpr ⟨qh_2, fun _ h => by cases h⟩⟩⟩⟩)
theorem qo_D_78_D_show : GoodIn qa_WG (wsV R_D 78 R_D y_D_show qv_D_show) := qa_good qh_198 (List.forall_mem_cons.mpr ⟨qh_270, List.forall_mem_cons.mpr ⟨qh_196, List.forall_mem_cons.mpr ⟨qh_197, List.forall_mem_cons.mpr ⟨qh_4, fun _ h => by cases h⟩⟩⟩⟩)
theorem qo_D_103_D_replace : GoodIn qa_WG (wsV R_D 103 R_D y_D_replace qv_D_replace) := qa_good qh_269 (List.forall_mem_cons.mpr ⟨qh_266, List.forall_mem_cons.mpr ⟨qh_267, List.forall_mem_cons.mpr ⟨qh_268, List.forall_mem_cons.mpr ⟨qh_4, fun _ h => by cases h⟩⟩⟩⟩)
theorem qo_D_100_C_addMoved : GoodIn qa_WG (wsV R_D 100 R_C y_C_addMoved qv_C_addMoved) := qa_good qh_250 (List.forall_mem_cons.mpr ⟨qh_247, List.forall_mem_cons.mpr ⟨qh_248, List.forall_mem_cons.mpr ⟨qh_249, List.forall_mem_cons.mpr ⟨qh_2, fun _ h => by cases h⟩⟩⟩⟩)
theorem qo_D_96_D_placeOf : GoodIn qa_WG (wsV R_D 96 R_D y_D_placeOf qv_D_placeOf) := qa_good qh_233 (List.forall_mem_cons.mpr ⟨qh_230, List.forall_mem_cons.mpr ⟨qh_232, List.forall_mem_cons.mpr ⟨qh_s5, List.forall_mem_cons.mpr ⟨qh_4, fun _ h => by cases h⟩⟩⟩⟩)
theorem qo_D_90_C_withAllThatComesOf : GoodIn qa_WG (wsV R_D 90 R_C y_C_withAllThatComesOf qv_C_withAllThatComesOf) := qa_good qh_225 (List.forall_mem_cons.mpr ⟨qh_222, List.forall_mem_cons.mpr ⟨qh_223, List.forall_mem_cons.mpr ⟨qh_224, List.forall_mem_cons.mpr ⟨qh_2, fun _ h => by cases h⟩⟩⟩⟩)
theorem qo_D_86_C_isFull : GoodIn qa_WG (wsV R_D 86 R_C y_C_isFull qv_C_isFull) := qa_good qh_171 (List.forall_mem_cons.mpr ⟨qh_221, List.forall_mem_cons.mpr ⟨qh_169, List.forall_mem_cons.mpr ⟨qh_170, List.forall_mem_cons.mpr ⟨qh_2, fun _ h => by cases h⟩⟩⟩⟩)
theorem qo_D_82_D_lowestOrphan : GoodIn qa_WG (wsV R_D 82 R_D y_D_lowestOrphan qv_D_lowestOrphan) := qa_good qh_215 (List.forall_mem_cons.mpr ⟨qh_212, List.forall_mem_cons.mpr ⟨qh_214, List.forall_mem_cons.mpr ⟨qh_s4, List.forall_mem_cons.mpr ⟨qh_4, fun _ h => by cases h⟩⟩⟩⟩)
theorem qo_O_43_O_isFull : GoodIn qa_WG (wsV R_O 43 R_O y_O_isFull qv_O_isFull) := qa_good qh_175 (List.forall_mem_cons.mpr ⟨qh_283, List.forall_mem_cons.mpr ⟨qh_173, List.forall_mem_cons.mpr ⟨qh_174, List.forall_mem_cons.mpr ⟨qh_3, fun _ h => by cases h⟩⟩⟩⟩)
theorem qo_S_169_C_dropFrom : GoodIn qa_WG (wsV R_S 169 R_C y_C_dropFrom qv_C_dropFrom) := qa_good qh_274 (List.forall_mem_cons.mpr ⟨qh_271, List.forall_mem_cons.mpr ⟨qh_272, List.forall_mem_cons.mpr ⟨qh_273, List.forall_mem_cons.mpr ⟨qh_2, fun _ h => by cases h⟩⟩⟩⟩)
theorem qo_S_175_O_add : GoodIn qa_WG (wsV R_S 175 R_O y_O_add qv_O_add) := qa_good qh_282 (List.forall_mem_cons.mpr ⟨qh_279, List.forall_mem_cons.mpr ⟨qh_280, List.forall_mem_cons.mpr ⟨qh_281, List.forall_mem_cons.mpr ⟨qh_3, fun _ h => by cases h⟩⟩⟩⟩)
theorem qo_S_172_D_settlePointers : GoodIn qa_WG (wsV R_S 172 R_D y_D_settlePointers qv_D_settlePointers) := qa_good qh_278 (List.forall_mem_cons.mpr ⟨qh_275, List.forall_mem_cons.mpr ⟨qh_276, List.forall_mem_cons.mpr ⟨qh_277, List.forall_mem_cons.mpr ⟨qh_4, fun _ h => by cases h⟩⟩⟩⟩)
theorem qo_S_163_D_settleCommits : GoodIn qa_WG (wsV R_S 163 R_D y_D_settleCommits qv_D_settleCommits) := qa_good qh_211 (List.forall_mem_cons.mpr ⟨qh_208, List.forall_mem_cons.mpr ⟨qh_209, List.forall_mem_cons.mpr ⟨qh_210, List.forall_mem_cons.mpr ⟨qh_4, fun _ h => by cases h⟩⟩⟩⟩)
theorem qo_S_65_S_keepDraft : GoodIn qa_WG (wsV R_S 65 R_S y_S_keepDraft qv_S_keepDraft) := qa_good qh_207 (List.forall_mem_cons.mpr ⟨qh_204, List.forall_mem_cons.mpr ⟨qh_206, List.forall_mem_cons.mpr ⟨qh_s3, List.forall_mem_cons.mpr ⟨qh_1, fun _ h => by cases h⟩⟩⟩⟩)
theorem qo_S_62_D_workOn : GoodIn qa_WG (wsV R_S 62 R_D y_D_workOn qv_D_workOn) := qa_good qh_203 (List.forall_mem_cons.mpr ⟨qh_200, List.forall_mem_cons.mpr ⟨qh_201, List.forall_mem_cons.mpr ⟨qh_202, List.forall_mem_cons.mpr ⟨qh_4, fun _ h => by cases h⟩⟩⟩⟩)
theorem qo_S_58_D_show : GoodIn qa_WG (wsV R_S 58 R_D y_D_show qv_D_show) := qa_good qh_198 (List.forall_mem_cons.mpr ⟨qh_195, List.forall_mem_cons.mpr ⟨qh_196, List.forall_mem_cons.mpr ⟨qh_197, List.forall_mem_cons.mpr ⟨qh_4, fun _ h => by cases h⟩⟩⟩⟩)
theorem qo_S_54_C_addNewChange : GoodIn qa_WG (wsV R_S 54 R_C y_C_addNewChange qv_C_addNewChange) := qa_good qh_179 (List.forall_mem_cons.mpr ⟨qh_176, List.forall_mem_cons.mpr ⟨qh_177, List.forall_mem_cons.mpr ⟨qh_178, List.forall_mem_cons.mpr ⟨qh_2, fun _ h => by cases h⟩⟩⟩⟩)
theorem qo_S_50_S_hasRoomForCommit : GoodIn qa_WG (wsV R_S 50 R_S y_S_hasRoomForCommit qv_S_hasRoomForCommit) := qa_good qh_167 (List.forall_mem_cons.mpr ⟨qh_164, List.forall_mem_cons.mpr ⟨qh_166, List.forall_mem_cons.mpr ⟨qh_s2, List.forall_mem_cons.mpr ⟨qh_1, fun _ h => by cases h⟩⟩⟩⟩)
theorem qo_S_46_D_shows : GoodIn qa_WG (wsV R_S 46 R_D y_D_shows qv_D_shows) := qa_good qh_160 (List.forall_mem_cons.mpr ⟨qh_157, List.forall_mem_cons.mpr ⟨qh_158, List.forall_mem_cons.mpr ⟨qh_159, List.forall_mem_cons.mpr ⟨qh_4, fun _ h => by cases h⟩⟩⟩⟩)
theorem qo_S_43_S_openDraft : GoodIn qa_WG (wsV R_S 43 R_S y_S_openDraft qv_S_openDraft) := qa_good qh_126 (List.forall_mem_cons.mpr ⟨qh_123, List.forall_mem_cons.mpr ⟨qh_125, List.forall_mem_cons.mpr ⟨qh_s0, List.forall_mem_cons.mpr ⟨qh_1, fun _ h => by cases h⟩⟩⟩⟩)
theorem qo_C_43_C_countOf : GoodIn qa_WG (wsV R_C 43 R_C y_C_countOf qv_C_countOf) := qa_good qh_298 (List.forall_mem_cons.mpr ⟨qh_295, List.forall_mem_cons.mpr ⟨qh_296, List.forall_mem_cons.mpr ⟨qh_297, List.forall_mem_cons.mpr ⟨qh_2, fun _ h => by cases h⟩⟩⟩⟩)
theorem qo_S_96_D_replace : GoodIn qa_WG (wsV R_S 96 R_D y_D_replace qv_D_replace) := qa_good qh_269 (List.forall_mem_cons.mpr ⟨qh_303, List.forall_mem_cons.mpr ⟨qh_267, List.forall_mem_cons.mpr ⟨qh_268, List.forall_mem_cons.mpr ⟨qh_4, fun _ h => by cases h⟩⟩⟩⟩)
theorem qo_S_92_C_makePlain : GoodIn qa_WG (wsV R_S 92 R_C y_C_makePlain qv_C_makePlain) := qa_good qh_259 (List.forall_mem_cons.mpr ⟨qh_302, List.forall_mem_cons.mpr ⟨qh_257, List.forall_mem_cons.mpr ⟨qh_258, List.forall_mem_cons.mpr ⟨qh_2, fun _ h => by cases h⟩⟩⟩⟩)
theorem qo_S_88_C_addCopy : GoodIn qa_WG (wsV R_S 88 R_C y_C_addCopy qv_C_addCopy) := qa_good qh_184 (List.forall_mem_cons.mpr ⟨qh_301, List.forall_mem_cons.mpr ⟨qh_182, List.forall_mem_cons.mpr ⟨qh_183, List.forall_mem_cons.mpr ⟨qh_2, fun _ h => by cases h⟩⟩⟩⟩)
theorem qo_S_85_C_parentOf : GoodIn qa_WG (wsV R_S 85 R_C y_C_parentOf qv_C_parentOf) := qa_good qh_220 (List.forall_mem_cons.mpr ⟨qh_300, List.forall_mem_cons.mpr ⟨qh_218, List.forall_mem_cons.mpr ⟨qh_219, List.forall_mem_cons.mpr ⟨qh_2, fun _ h => by cases h⟩⟩⟩⟩)
theorem qo_S_82_C_changeOf : GoodIn qa_WG (wsV R_S 82 R_C y_C_changeOf qv_C_changeOf) := qa_good qh_242 (List.forall_mem_cons.mpr ⟨qh_299, List.forall_mem_cons.mpr ⟨qh_240, List.forall_mem_cons.mpr ⟨qh_241, List.forall_mem_cons.mpr ⟨qh_2, fun _ h => by cases h⟩⟩⟩⟩)
theorem qo_S_78_C_isPlain : GoodIn qa_WG (wsV R_S 78 R_C y_C_isPlain qv_C_isPlain) := qa_good qh_294 (List.forall_mem_cons.mpr ⟨qh_291, List.forall_mem_cons.mpr ⟨qh_292, List.forall_mem_cons.mpr ⟨qh_293, List.forall_mem_cons.mpr ⟨qh_2, fun _ h => by cases h⟩⟩⟩⟩)
theorem qo_S_75_S_isValue : GoodIn qa_WG (wsS R_S 75 y_S_isValue qv_S_isValue) := qa_good qh_265 (List.forall_mem_cons.mpr ⟨qh_290, List.forall_mem_cons.mpr ⟨qh_264, List.forall_mem_cons.mpr ⟨qh_1, fun _ h => by cases h⟩⟩⟩)
theorem qo_S_72_S_isPath : GoodIn qa_WG (wsS R_S 72 y_S_isPath qv_S_isPath) := qa_good qh_262 (List.forall_mem_cons.mpr ⟨qh_289, List.forall_mem_cons.mpr ⟨qh_261, List.forall_mem_cons.mpr ⟨qh_1, fun _ h => by cases h⟩⟩⟩)
theorem qo_S_111_C_addMoved : GoodIn qa_WG (wsV R_S 111 R_C y_C_addMoved qv_C_addMoved) := qa_good qh_250 (List.forall_mem_cons.mpr ⟨qh_314, List.forall_mem_cons.mpr ⟨qh_248, List.forall_mem_cons.mpr ⟨qh_249, List.forall_mem_cons.mpr ⟨qh_2, fun _ h => by cases h⟩⟩⟩⟩)
theorem qo_S_107_S_isIn : GoodIn qa_WG (wsS R_S 107 y_S_isIn qv_S_isIn) := qa_good qh_163 (List.forall_mem_cons.mpr ⟨qh_313, List.forall_mem_cons.mpr ⟨qh_162, List.forall_mem_cons.mpr ⟨qh_1, fun _ h => by cases h⟩⟩⟩)
theorem qo_S_103_C_withAllThatComesOf : GoodIn qa_WG (wsV R_S 103 R_C y_C_withAllThatComesOf qv_C_withAllThatComesOf) := qa_good qh_225 (List.forall_mem_cons.mpr ⟨qh_312, List.forall_mem_cons.mpr ⟨qh_223, List.forall_mem_cons.mpr ⟨qh_224, List.forall_mem_cons.mpr ⟨qh_2, fun _ h => by cases h⟩⟩⟩⟩)
theorem qo_S_100_S_isReplaceable : GoodIn qa_WG (wsV R_S 100 R_S y_S_isReplaceable qv_S_isReplaceable) := qa_good qh_311 (List.forall_mem_cons.mpr ⟨qh_308, List.forall_mem_cons.mpr ⟨qh_310, List.forall_mem_cons.mpr ⟨qh_s8, List.forall_mem_cons.mpr ⟨qh_1, fun _ h => by cases h⟩⟩⟩⟩)
theorem qo_S_114_S_isMark : GoodIn qa_WG (wsS R_S 114 y_S_isMark qv_S_isMark) := qa_good qh_156 (List.forall_mem_cons.mpr ⟨qh_331, List.forall_mem_cons.mpr ⟨qh_155, List.forall_mem_cons.mpr ⟨qh_1, fun _ h => by cases h⟩⟩⟩)
theorem qo_S_123_O_secondBefore : GoodIn qa_WG (wsV R_S 123 R_O y_O_secondBefore qv_O_secondBefore) := qa_good qh_343 (List.forall_mem_cons.mpr ⟨qh_340, List.forall_mem_cons.mpr ⟨qh_341, List.forall_mem_cons.mpr ⟨qh_342, List.forall_mem_cons.mpr ⟨qh_3, fun _ h => by cases h⟩⟩⟩⟩)
theorem qo_S_120_O_firstBefore : GoodIn qa_WG (wsV R_S 120 R_O y_O_firstBefore qv_O_firstBefore) := qa_good qh_339 (List.forall_mem_cons.mpr ⟨qh_336, List.forall_mem_cons.mpr ⟨qh_337, List.forall_mem_cons.mpr ⟨qh_338, List.forall_mem_cons.mpr ⟨qh_3, fun _ h => by cases h⟩⟩⟩⟩)
theorem qo_S_130_O_has : GoodIn qa_WG (wsV R_S 130 R_O y_O_has qv_O_has) := qa_good qh_145 (List.forall_mem_cons.mpr ⟨qh_348, List.forall_mem_cons.mpr ⟨qh_143, List.forall_mem_cons.mpr ⟨qh_144, List.forall_mem_cons.mpr ⟨qh_3, fun _ h => by cases h⟩⟩⟩⟩)
theorem qo_S_133_S_hasLineOne : GoodIn qa_WG (wsV R_S 133 R_S y_S_hasLineOne qv_S_hasLineOne) := qa_good qh_356 (List.forall_mem_cons.mpr ⟨qh_353, List.forall_mem_cons.mpr ⟨qh_355, List.forall_mem_cons.mpr ⟨qh_s9, List.forall_mem_cons.mpr ⟨qh_1, fun _ h => by cases h⟩⟩⟩⟩)
theorem qo_D_49_D_joinedMark : GoodIn qa_WG (wsS R_D 49 y_D_joinedMark qv_D_joinedMark) := qa_good qh_371 (List.forall_mem_cons.mpr ⟨qh_369, List.forall_mem_cons.mpr ⟨qh_370, List.forall_mem_cons.mpr ⟨qh_4, fun _ h => by cases h⟩⟩⟩)
theorem qo_S_136_D_openJoined : GoodIn qa_WG (wsV R_S 136 R_D y_D_openJoined qv_D_openJoined) := qa_good qh_368 (List.forall_mem_cons.mpr ⟨qh_365, List.forall_mem_cons.mpr ⟨qh_366, List.forall_mem_cons.mpr ⟨qh_367, List.forall_mem_cons.mpr ⟨qh_4, fun _ h => by cases h⟩⟩⟩⟩)
theorem qo_S_140_O_shownIn : GoodIn qa_WG (wsV R_S 140 R_O y_O_shownIn qv_O_shownIn) := qa_good qh_141 (List.forall_mem_cons.mpr ⟨qh_384, List.forall_mem_cons.mpr ⟨qh_139, List.forall_mem_cons.mpr ⟨qh_140, List.forall_mem_cons.mpr ⟨qh_3, fun _ h => by cases h⟩⟩⟩⟩)
theorem qo_S_143_O_workingIn : GoodIn qa_WG (wsV R_S 143 R_O y_O_workingIn qv_O_workingIn) := qa_good qh_149 (List.forall_mem_cons.mpr ⟨qh_389, List.forall_mem_cons.mpr ⟨qh_147, List.forall_mem_cons.mpr ⟨qh_148, List.forall_mem_cons.mpr ⟨qh_3, fun _ h => by cases h⟩⟩⟩⟩)
theorem qo_S_146_O_markIn : GoodIn qa_WG (wsV R_S 146 R_O y_O_markIn qv_O_markIn) := qa_good qh_153 (List.forall_mem_cons.mpr ⟨qh_394, List.forall_mem_cons.mpr ⟨qh_151, List.forall_mem_cons.mpr ⟨qh_152, List.forall_mem_cons.mpr ⟨qh_3, fun _ h => by cases h⟩⟩⟩⟩)
theorem qo_S_149_C_parentsOf : GoodIn qa_WG (wsV R_S 149 R_C y_C_parentsOf qv_C_parentsOf) := qa_good qh_402 (List.forall_mem_cons.mpr ⟨qh_399, List.forall_mem_cons.mpr ⟨qh_400, List.forall_mem_cons.mpr ⟨qh_401, List.forall_mem_cons.mpr ⟨qh_2, fun _ h => by cases h⟩⟩⟩⟩)
theorem qo_S_155_C_countOf : GoodIn qa_WG (wsV R_S 155 R_C y_C_countOf qv_C_countOf) := qa_good qh_298 (List.forall_mem_cons.mpr ⟨qh_412, List.forall_mem_cons.mpr ⟨qh_296, List.forall_mem_cons.mpr ⟨qh_297, List.forall_mem_cons.mpr ⟨qh_2, fun _ h => by cases h⟩⟩⟩⟩)
theorem qo_M_107_M_here : GoodIn qa_WG (wsV R_M 107 R_M y_M_here qv_M_here) := qa_good qh_497 (List.forall_mem_cons.mpr ⟨qh_494, List.forall_mem_cons.mpr ⟨qh_496, List.forall_mem_cons.mpr ⟨qh_s10, List.forall_mem_cons.mpr ⟨qh_5, fun _ h => by cases h⟩⟩⟩⟩)
theorem qo_M_110_M_finish : GoodIn qa_WG (wsV R_M 110 R_M y_M_finish qv_M_finish) := qa_good qh_521 (List.forall_mem_cons.mpr ⟨qh_518, List.forall_mem_cons.mpr ⟨qh_520, List.forall_mem_cons.mpr ⟨qh_s16, List.forall_mem_cons.mpr ⟨qh_5, fun _ h => by cases h⟩⟩⟩⟩)
theorem qo_M_123_M_done : GoodIn qa_WG (wsV R_M 123 R_M y_M_done qv_M_done) := qa_good qh_517 (List.forall_mem_cons.mpr ⟨qh_514, List.forall_mem_cons.mpr ⟨qh_516, List.forall_mem_cons.mpr ⟨qh_s15, List.forall_mem_cons.mpr ⟨qh_5, fun _ h => by cases h⟩⟩⟩⟩)
theorem qo_M_120_M_copyContents : GoodIn qa_WG (wsV R_M 120 R_M y_M_copyContents qv_M_copyContents) := qa_good qh_513 (List.forall_mem_cons.mpr ⟨qh_510, List.forall_mem_cons.mpr ⟨qh_512, List.forall_mem_cons.mpr ⟨qh_s14, List.forall_mem_cons.mpr ⟨qh_5, fun _ h => by cases h⟩⟩⟩⟩)
theorem qo_M_96_M_fresh : GoodIn qa_WG (wsV R_M 96 R_M y_M_fresh qv_M_fresh) := qa_good qh_509 (List.forall_mem_cons.mpr ⟨qh_506, List.forall_mem_cons.mpr ⟨qh_508, List.forall_mem_cons.mpr ⟨qh_s13, List.forall_mem_cons.mpr ⟨qh_5, fun _ h => by cases h⟩⟩⟩⟩)
theorem qo_M_116_M_begin : GoodIn qa_WG (wsV R_M 116 R_M y_M_begin qv_M_begin) := qa_good qh_505 (List.forall_mem_cons.mpr ⟨qh_502, List.forall_mem_cons.mpr ⟨qh_504, List.forall_mem_cons.mpr ⟨qh_s12, List.forall_mem_cons.mpr ⟨qh_5, fun _ h => by cases h⟩⟩⟩⟩)
theorem qo_M_113_M_isVisible : GoodIn qa_WG (wsV R_M 113 R_M y_M_isVisible qv_M_isVisible) := qa_good qh_501 (List.forall_mem_cons.mpr ⟨qh_498, List.forall_mem_cons.mpr ⟨qh_500, List.forall_mem_cons.mpr ⟨qh_s11, List.forall_mem_cons.mpr ⟨qh_5, fun _ h => by cases h⟩⟩⟩⟩)
theorem qo_M_81_M_comesOf : GoodIn qa_WG (wsV R_M 81 R_M y_M_comesOf qv_M_comesOf) := qa_good qh_557 (List.forall_mem_cons.mpr ⟨qh_554, List.forall_mem_cons.mpr ⟨qh_556, List.forall_mem_cons.mpr ⟨qh_s24, List.forall_mem_cons.mpr ⟨qh_5, fun _ h => by cases h⟩⟩⟩⟩)
theorem qo_M_85_M_sameChange : GoodIn qa_WG (wsV R_M 85 R_M y_M_sameChange qv_M_sameChange) := qa_good qh_553 (List.forall_mem_cons.mpr ⟨qh_550, List.forall_mem_cons.mpr ⟨qh_552, List.forall_mem_cons.mpr ⟨qh_s23, List.forall_mem_cons.mpr ⟨qh_5, fun _ h => by cases h⟩⟩⟩⟩)
theorem qo_M_61_M_setPlain : GoodIn qa_WG (wsV R_M 61 R_M y_M_setPlain qv_M_setPlain) := qa_good qh_533 (List.forall_mem_cons.mpr ⟨qh_530, List.forall_mem_cons.mpr ⟨qh_532, List.forall_mem_cons.mpr ⟨qh_s18, List.forall_mem_cons.mpr ⟨qh_5, fun _ h => by cases h⟩⟩⟩⟩)
theorem qo_M_93_M_place : GoodIn qa_WG (wsV R_M 93 R_M y_M_place qv_M_place) := qa_good qh_549 (List.forall_mem_cons.mpr ⟨qh_546, List.forall_mem_cons.mpr ⟨qh_548, List.forall_mem_cons.mpr ⟨qh_s22, List.forall_mem_cons.mpr ⟨qh_5, fun _ h => by cases h⟩⟩⟩⟩)
theorem qo_M_89_M_loose : GoodIn qa_WG (wsV R_M 89 R_M y_M_loose qv_M_loose) := qa_good qh_545 (List.forall_mem_cons.mpr ⟨qh_542, List.forall_mem_cons.mpr ⟨qh_544, List.forall_mem_cons.mpr ⟨qh_s21, List.forall_mem_cons.mpr ⟨qh_5, fun _ h => by cases h⟩⟩⟩⟩)
theorem qo_M_103_M_replace : GoodIn qa_WG (wsV R_M 103 R_M y_M_replace qv_M_replace) := qa_good qh_537 (List.forall_mem_cons.mpr ⟨qh_534, List.forall_mem_cons.mpr ⟨qh_536, List.forall_mem_cons.mpr ⟨qh_s19, List.forall_mem_cons.mpr ⟨qh_5, fun _ h => by cases h⟩⟩⟩⟩)
theorem qo_M_99_M_mix : GoodIn qa_WG (wsV R_M 99 R_M y_M_mix qv_M_mix) := qa_good qh_561 (List.forall_mem_cons.mpr ⟨qh_558, List.forall_mem_cons.mpr ⟨qh_560, List.forall_mem_cons.mpr ⟨qh_s25, List.forall_mem_cons.mpr ⟨qh_5, fun _ h => by cases h⟩⟩⟩⟩)
theorem qo_M_130_M_settle : GoodIn qa_WG (wsV R_M 130 R_M y_M_settle qv_M_settle) := qa_good qh_541 (List.forall_mem_cons.mpr ⟨qh_538, List.forall_mem_cons.mpr ⟨qh_540, List.forall_mem_cons.mpr ⟨qh_s20, List.forall_mem_cons.mpr ⟨qh_5, fun _ h => by cases h⟩⟩⟩⟩)
theorem qo_M_126_M_plain : GoodIn qa_WG (wsV R_M 126 R_M y_M_plain qv_M_plain) := qa_good qh_529 (List.forall_mem_cons.mpr ⟨qh_526, List.forall_mem_cons.mpr ⟨qh_528, List.forall_mem_cons.mpr ⟨qh_s17, List.forall_mem_cons.mpr ⟨qh_5, fun _ h => by cases h⟩⟩⟩⟩)
theorem qo_M_139_M_merged : GoodIn qa_WG (wsS R_M 139 y_M_merged qv_M_merged) := qa_good qh_604 (List.forall_mem_cons.mpr ⟨qh_602, List.forall_mem_cons.mpr ⟨qh_603, List.forall_mem_cons.mpr ⟨qh_5, fun _ h => by cases h⟩⟩⟩)
theorem qo_M_143_M_there : GoodIn qa_WG (wsV R_M 143 R_M y_M_there qv_M_there) := qa_good qh_616 (List.forall_mem_cons.mpr ⟨qh_613, List.forall_mem_cons.mpr ⟨qh_615, List.forall_mem_cons.mpr ⟨qh_s26, List.forall_mem_cons.mpr ⟨qh_5, fun _ h => by cases h⟩⟩⟩⟩)
theorem qo_M_147_M_isHead : GoodIn qa_WG (wsV R_M 147 R_M y_M_isHead qv_M_isHead) := qa_good qh_636 (List.forall_mem_cons.mpr ⟨qh_633, List.forall_mem_cons.mpr ⟨qh_635, List.forall_mem_cons.mpr ⟨qh_s27, List.forall_mem_cons.mpr ⟨qh_5, fun _ h => by cases h⟩⟩⟩⟩)
