set_option maxHeartbeats 4000000 in
set_option maxRecDepth 100000 in
theorem lw_case0 {p : Program} {l : Launch} {e : Env} {s : State} {m : MethodId} {below : List Frame} {meth : Method} {c : Code} {b : Nat} {H : Heap} {locs : List Loc} {A : Nat → Prop} {dC : Nat → ClassId} {dI : Nat → Nat → Nat} {a a' : Nat → Nat} {k k' : Nat → ClassId} {x y : QX} {ls : Array Slot} {Q : State → Prop} {L j : Nat} {xs : Nat → Int32} (C0 : lw_At p s m meth c b L xs) (hL : L ≤ 2048) (hj : j + 4 ≤ L) (hbA : ¬ A b) (hI : INV x y) (S : q_LS dC dI a a' k k' A s x y H locs) (hl : lv_has ls 4 [(0, .ref b), (1, .ref (a 0)), (2, .ref (a' 0)), (3, .int (nI j))]) (hrec : ∀ (x y : QX) (H : Heap) (locs : List Loc) (ls : Array Slot), INV x y → q_LS dC dI a a' k k' A s x y H locs → lv_has ls 4 [(0, .ref b), (1, .ref (a 0)), (2, .ref (a' 0)), (3, .int (nI j))] → W p l e room_1 s m #[Value.ref b] below meth c H locs 29 11716 Q (F0 m 659 ls [])) : W p l e room_1 s m #[Value.ref b] below meth c H locs 29 11716 Q (F0 m 128 ls []) := by
  obtain ⟨hx, hb, hr, hml, hown, hts0, hX, hbl, hlocks, hgv⟩ := C0
  have CF : CallFix p m c code 4 s #[Value.ref b] qa_WG R_law := ⟨hx, hb, hml, hown, fun w hw => hts0 w (List.mem_filter.mp hw).1⟩
  have hin0 : vp_in (nI j) L := vp_in_nI (by omega) (by omega)
  have hin1 : vp_in (nI j + 1) L := by rw [q_l1, nI_add]; exact vp_in_nI (by omega) (by omega)
  have hin2 : vp_in (nI j + 2) L := by rw [q_l2, nI_add]; exact vp_in_nI (by omega) (by omega)
  have hin3 : vp_in (nI j + 3) L := by rw [q_l3, nI_add]; exact vp_in_nI (by omega) (by omega)
  refine lv_aload_n hx hb d_L_128 rfl (lv_at hl 1 rfl) ?_
  refine lv_aload_n hx hb d_L_129 rfl (lv_at hl 0 rfl) ?_
  refine lv_iload_n hx hb d_L_130 rfl (lv_at hl 3 rfl) ?_
  refine lv_iconst (v := 1) hx hb d_L_131 (by decide) ?_
  refine lv_iadd hx hb d_L_132 ?_
  refine va_sld hx hb hX hbl hbA S.2.2.2.1 hin1 d_L_133 ?_
  refine lw_callCi (lw_runV (As := [.int (xs (nI j + 1).toNatClampNeg)]) (rest := []) CF (lw_cutC S) (qc_S_create l dC dI a k _ _ _ (t_create hI _) H.size) (cwV 1 CF.2.2.2.2 qo_L_13_S_create rfl rfl rfl qd_S_create ⟨Nat.le_of_ble_eq_true rfl, Nat.le_of_ble_eq_true rfl⟩) (va_recv (q0 := 0) (ci := 0) (lw_cutC S).2.2.1 (lw_cutC S).1 rfl rfl) rfl hl.1 rfl (Nat.le_of_ble_eq_true rfl) d_L_134 ⟨Nat.le_of_ble_eq_true rfl, Nat.le_of_ble_eq_true rfl⟩) S (fun r1 x1 H locs hw S => ?_)
  refine lv_aload_n hx hb d_L_137 rfl (lv_at hl 2 rfl) ?_
  refine lv_aload_n hx hb d_L_138 rfl (lv_at hl 0 rfl) ?_
  refine lv_iload_n hx hb d_L_139 rfl (lv_at hl 3 rfl) ?_
  refine lv_iconst (v := 1) hx hb d_L_140 (by decide) ?_
  refine lv_iadd hx hb d_L_141 ?_
  refine va_sld hx hb hX hbl hbA S.2.2.2.1 hin1 d_L_142 ?_
  refine lw_callMi (lw_runV (As := [.int (xs (nI j + 1).toNatClampNeg)]) (rest := [.int r1]) CF (lw_cutM S) (qc_M_create l dC dI a' k' _ _ _ hw H.size) (cwV 1 CF.2.2.2.2 qo_L_17_M_create rfl rfl rfl qd_M_create ⟨Nat.le_of_ble_eq_true rfl, Nat.le_of_ble_eq_true rfl⟩) (va_recv (q0 := 0) (ci := 4) (lw_cutM S).2.2.1 (lw_cutM S).1 rfl rfl) rfl hl.1 rfl (Nat.le_of_ble_eq_true rfl) d_L_143 ⟨Nat.le_of_ble_eq_true rfl, Nat.le_of_ble_eq_true rfl⟩) S (fun r2 y1 H locs hw S => ?_)
  refine lv_icmp_eq (tgt := 659) hx hb d_L_146 rfl (fun hc => ?_) (fun hc => ?_)
  · exact hrec _ _ _ _ _ hw.2 S hl
  exact absurd hw.1 hc
set_option maxHeartbeats 4000000 in
set_option maxRecDepth 100000 in
theorem lw_case1 {p : Program} {l : Launch} {e : Env} {s : State} {m : MethodId} {below : List Frame} {meth : Method} {c : Code} {b : Nat} {H : Heap} {locs : List Loc} {A : Nat → Prop} {dC : Nat → ClassId} {dI : Nat → Nat → Nat} {a a' : Nat → Nat} {k k' : Nat → ClassId} {x y : QX} {ls : Array Slot} {Q : State → Prop} {L j : Nat} {xs : Nat → Int32} (C0 : lw_At p s m meth c b L xs) (hL : L ≤ 2048) (hj : j + 4 ≤ L) (hbA : ¬ A b) (hI : INV x y) (S : q_LS dC dI a a' k k' A s x y H locs) (hl : lv_has ls 4 [(0, .ref b), (1, .ref (a 0)), (2, .ref (a' 0)), (3, .int (nI j))]) (hrec : ∀ (x y : QX) (H : Heap) (locs : List Loc) (ls : Array Slot), INV x y → q_LS dC dI a a' k k' A s x y H locs → lv_has ls 4 [(0, .ref b), (1, .ref (a 0)), (2, .ref (a' 0)), (3, .int (nI j))] → W p l e room_1 s m #[Value.ref b] below meth c H locs 29 11716 Q (F0 m 659 ls [])) : W p l e room_1 s m #[Value.ref b] below meth c H locs 29 11716 Q (F0 m 151 ls []) := by
  obtain ⟨hx, hb, hr, hml, hown, hts0, hX, hbl, hlocks, hgv⟩ := C0
  have CF : CallFix p m c code 4 s #[Value.ref b] qa_WG R_law := ⟨hx, hb, hml, hown, fun w hw => hts0 w (List.mem_filter.mp hw).1⟩
  have hin0 : vp_in (nI j) L := vp_in_nI (by omega) (by omega)
  have hin1 : vp_in (nI j + 1) L := by rw [q_l1, nI_add]; exact vp_in_nI (by omega) (by omega)
  have hin2 : vp_in (nI j + 2) L := by rw [q_l2, nI_add]; exact vp_in_nI (by omega) (by omega)
  have hin3 : vp_in (nI j + 3) L := by rw [q_l3, nI_add]; exact vp_in_nI (by omega) (by omega)
  refine lv_aload_n hx hb d_L_151 rfl (lv_at hl 1 rfl) ?_
  refine lv_aload_n hx hb d_L_152 rfl (lv_at hl 0 rfl) ?_
  refine lv_iload_n hx hb d_L_153 rfl (lv_at hl 3 rfl) ?_
  refine lv_iconst (v := 1) hx hb d_L_154 (by decide) ?_
  refine lv_iadd hx hb d_L_155 ?_
  refine va_sld hx hb hX hbl hbA S.2.2.2.1 hin1 d_L_156 ?_
  refine lv_aload_n hx hb d_L_157 rfl (lv_at hl 0 rfl) ?_
  refine lv_iload_n hx hb d_L_158 rfl (lv_at hl 3 rfl) ?_
  refine lv_iconst (v := 2) hx hb d_L_159 (by decide) ?_
  refine lv_iadd hx hb d_L_160 ?_
  refine va_sld hx hb hX hbl hbA S.2.2.2.1 hin2 d_L_161 ?_
  refine lw_callCi (lw_runV (As := [.int (xs (nI j + 1).toNatClampNeg), .int (xs (nI j + 2).toNatClampNeg)]) (rest := []) CF (lw_cutC S) (qc_S_write l dC dI a k _ _ _ _ (t_write hI _ _) H.size) (cwV 2 CF.2.2.2.2 qo_L_18_S_write rfl rfl rfl qd_S_write ⟨Nat.le_of_ble_eq_true rfl, Nat.le_of_ble_eq_true rfl⟩) (va_recv (q0 := 0) (ci := 0) (lw_cutC S).2.2.1 (lw_cutC S).1 rfl rfl) rfl hl.1 rfl (Nat.le_of_ble_eq_true rfl) d_L_162 ⟨Nat.le_of_ble_eq_true rfl, Nat.le_of_ble_eq_true rfl⟩) S (fun r1 x1 H locs hw S => ?_)
  refine lv_aload_n hx hb d_L_165 rfl (lv_at hl 2 rfl) ?_
  refine lv_aload_n hx hb d_L_166 rfl (lv_at hl 0 rfl) ?_
  refine lv_iload_n hx hb d_L_167 rfl (lv_at hl 3 rfl) ?_
  refine lv_iconst (v := 1) hx hb d_L_168 (by decide) ?_
  refine lv_iadd hx hb d_L_169 ?_
  refine va_sld hx hb hX hbl hbA S.2.2.2.1 hin1 d_L_170 ?_
  refine lv_aload_n hx hb d_L_171 rfl (lv_at hl 0 rfl) ?_
  refine lv_iload_n hx hb d_L_172 rfl (lv_at hl 3 rfl) ?_
  refine lv_iconst (v := 2) hx hb d_L_173 (by decide) ?_
  refine lv_iadd hx hb d_L_174 ?_
  refine va_sld hx hb hX hbl hbA S.2.2.2.1 hin2 d_L_175 ?_
  refine lw_callMi (lw_runV (As := [.int (xs (nI j + 1).toNatClampNeg), .int (xs (nI j + 2).toNatClampNeg)]) (rest := [.int r1]) CF (lw_cutM S) (qc_M_write l dC dI a' k' _ _ _ _ hw H.size) (cwV 2 CF.2.2.2.2 qo_L_22_M_write rfl rfl rfl qd_M_write ⟨Nat.le_of_ble_eq_true rfl, Nat.le_of_ble_eq_true rfl⟩) (va_recv (q0 := 0) (ci := 4) (lw_cutM S).2.2.1 (lw_cutM S).1 rfl rfl) rfl hl.1 rfl (Nat.le_of_ble_eq_true rfl) d_L_176 ⟨Nat.le_of_ble_eq_true rfl, Nat.le_of_ble_eq_true rfl⟩) S (fun r2 y1 H locs hw S => ?_)
  refine lv_icmp_eq (tgt := 659) hx hb d_L_179 rfl (fun hc => ?_) (fun hc => ?_)
  · exact hrec _ _ _ _ _ hw.2 S hl
  exact absurd hw.1 hc
set_option maxHeartbeats 4000000 in
set_option maxRecDepth 100000 in
theorem lw_case2 {p : Program} {l : Launch} {e : Env} {s : State} {m : MethodId} {below : List Frame} {meth : Method} {c : Code} {b : Nat} {H : Heap} {locs : List Loc} {A : Nat → Prop} {dC : Nat → ClassId} {dI : Nat → Nat → Nat} {a a' : Nat → Nat} {k k' : Nat → ClassId} {x y : QX} {ls : Array Slot} {Q : State → Prop} {L j : Nat} {xs : Nat → Int32} (C0 : lw_At p s m meth c b L xs) (hL : L ≤ 2048) (hj : j + 4 ≤ L) (hbA : ¬ A b) (hI : INV x y) (S : q_LS dC dI a a' k k' A s x y H locs) (hl : lv_has ls 4 [(0, .ref b), (1, .ref (a 0)), (2, .ref (a' 0)), (3, .int (nI j))]) (hrec : ∀ (x y : QX) (H : Heap) (locs : List Loc) (ls : Array Slot), INV x y → q_LS dC dI a a' k k' A s x y H locs → lv_has ls 4 [(0, .ref b), (1, .ref (a 0)), (2, .ref (a' 0)), (3, .int (nI j))] → W p l e room_1 s m #[Value.ref b] below meth c H locs 29 11716 Q (F0 m 659 ls [])) : W p l e room_1 s m #[Value.ref b] below meth c H locs 29 11716 Q (F0 m 184 ls []) := by
  obtain ⟨hx, hb, hr, hml, hown, hts0, hX, hbl, hlocks, hgv⟩ := C0
  have CF : CallFix p m c code 4 s #[Value.ref b] qa_WG R_law := ⟨hx, hb, hml, hown, fun w hw => hts0 w (List.mem_filter.mp hw).1⟩
  have hin0 : vp_in (nI j) L := vp_in_nI (by omega) (by omega)
  have hin1 : vp_in (nI j + 1) L := by rw [q_l1, nI_add]; exact vp_in_nI (by omega) (by omega)
  have hin2 : vp_in (nI j + 2) L := by rw [q_l2, nI_add]; exact vp_in_nI (by omega) (by omega)
  have hin3 : vp_in (nI j + 3) L := by rw [q_l3, nI_add]; exact vp_in_nI (by omega) (by omega)
  refine lv_aload_n hx hb d_L_184 rfl (lv_at hl 1 rfl) ?_
  refine lv_aload_n hx hb d_L_185 rfl (lv_at hl 0 rfl) ?_
  refine lv_iload_n hx hb d_L_186 rfl (lv_at hl 3 rfl) ?_
  refine lv_iconst (v := 1) hx hb d_L_187 (by decide) ?_
  refine lv_iadd hx hb d_L_188 ?_
  refine va_sld hx hb hX hbl hbA S.2.2.2.1 hin1 d_L_189 ?_
  refine lv_aload_n hx hb d_L_190 rfl (lv_at hl 0 rfl) ?_
  refine lv_iload_n hx hb d_L_191 rfl (lv_at hl 3 rfl) ?_
  refine lv_iconst (v := 2) hx hb d_L_192 (by decide) ?_
  refine lv_iadd hx hb d_L_193 ?_
  refine va_sld hx hb hX hbl hbA S.2.2.2.1 hin2 d_L_194 ?_
  refine lw_callCi (lw_runV (As := [.int (xs (nI j + 1).toNatClampNeg), .int (xs (nI j + 2).toNatClampNeg)]) (rest := []) CF (lw_cutC S) (qc_S_rebase l dC dI a k _ _ _ _ (t_rebase hI _ _) H.size) (cwV 2 CF.2.2.2.2 qo_L_23_S_rebase rfl rfl rfl qd_S_rebase ⟨Nat.le_of_ble_eq_true rfl, Nat.le_of_ble_eq_true rfl⟩) (va_recv (q0 := 0) (ci := 0) (lw_cutC S).2.2.1 (lw_cutC S).1 rfl rfl) rfl hl.1 rfl (Nat.le_of_ble_eq_true rfl) d_L_195 ⟨Nat.le_of_ble_eq_true rfl, Nat.le_of_ble_eq_true rfl⟩) S (fun r1 x1 H locs hw S => ?_)
  refine lv_aload_n hx hb d_L_198 rfl (lv_at hl 2 rfl) ?_
  refine lv_aload_n hx hb d_L_199 rfl (lv_at hl 0 rfl) ?_
  refine lv_iload_n hx hb d_L_200 rfl (lv_at hl 3 rfl) ?_
  refine lv_iconst (v := 1) hx hb d_L_201 (by decide) ?_
  refine lv_iadd hx hb d_L_202 ?_
  refine va_sld hx hb hX hbl hbA S.2.2.2.1 hin1 d_L_203 ?_
  refine lv_aload_n hx hb d_L_204 rfl (lv_at hl 0 rfl) ?_
  refine lv_iload_n hx hb d_L_205 rfl (lv_at hl 3 rfl) ?_
  refine lv_iconst (v := 2) hx hb d_L_206 (by decide) ?_
  refine lv_iadd hx hb d_L_207 ?_
  refine va_sld hx hb hX hbl hbA S.2.2.2.1 hin2 d_L_208 ?_
  refine lw_callMi (lw_runV (As := [.int (xs (nI j + 1).toNatClampNeg), .int (xs (nI j + 2).toNatClampNeg)]) (rest := [.int r1]) CF (lw_cutM S) (qc_M_rebase l dC dI a' k' _ _ _ _ hw H.size) (cwV 2 CF.2.2.2.2 qo_L_26_M_rebase rfl rfl rfl qd_M_rebase ⟨Nat.le_of_ble_eq_true rfl, Nat.le_of_ble_eq_true rfl⟩) (va_recv (q0 := 0) (ci := 4) (lw_cutM S).2.2.1 (lw_cutM S).1 rfl rfl) rfl hl.1 rfl (Nat.le_of_ble_eq_true rfl) d_L_209 ⟨Nat.le_of_ble_eq_true rfl, Nat.le_of_ble_eq_true rfl⟩) S (fun r2 y1 H locs hw S => ?_)
  refine lv_icmp_eq (tgt := 659) hx hb d_L_212 rfl (fun hc => ?_) (fun hc => ?_)
  · exact hrec _ _ _ _ _ hw.2 S hl
  exact absurd hw.1 hc
set_option maxHeartbeats 4000000 in
set_option maxRecDepth 100000 in
theorem lw_case3 {p : Program} {l : Launch} {e : Env} {s : State} {m : MethodId} {below : List Frame} {meth : Method} {c : Code} {b : Nat} {H : Heap} {locs : List Loc} {A : Nat → Prop} {dC : Nat → ClassId} {dI : Nat → Nat → Nat} {a a' : Nat → Nat} {k k' : Nat → ClassId} {x y : QX} {ls : Array Slot} {Q : State → Prop} {L j : Nat} {xs : Nat → Int32} (C0 : lw_At p s m meth c b L xs) (hL : L ≤ 2048) (hj : j + 4 ≤ L) (hbA : ¬ A b) (hI : INV x y) (S : q_LS dC dI a a' k k' A s x y H locs) (hl : lv_has ls 4 [(0, .ref b), (1, .ref (a 0)), (2, .ref (a' 0)), (3, .int (nI j))]) (hrec : ∀ (x y : QX) (H : Heap) (locs : List Loc) (ls : Array Slot), INV x y → q_LS dC dI a a' k k' A s x y H locs → lv_has ls 4 [(0, .ref b), (1, .ref (a 0)), (2, .ref (a' 0)), (3, .int (nI j))] → W p l e room_1 s m #[Value.ref b] below meth c H locs 29 11716 Q (F0 m 659 ls [])) : W p l e room_1 s m #[Value.ref b] below meth c H locs 29 11716 Q (F0 m 217 ls []) := by
  obtain ⟨hx, hb, hr, hml, hown, hts0, hX, hbl, hlocks, hgv⟩ := C0
  have CF : CallFix p m c code 4 s #[Value.ref b] qa_WG R_law := ⟨hx, hb, hml, hown, fun w hw => hts0 w (List.mem_filter.mp hw).1⟩
  have hin0 : vp_in (nI j) L := vp_in_nI (by omega) (by omega)
  have hin1 : vp_in (nI j + 1) L := by rw [q_l1, nI_add]; exact vp_in_nI (by omega) (by omega)
  have hin2 : vp_in (nI j + 2) L := by rw [q_l2, nI_add]; exact vp_in_nI (by omega) (by omega)
  have hin3 : vp_in (nI j + 3) L := by rw [q_l3, nI_add]; exact vp_in_nI (by omega) (by omega)
  refine lv_aload_n hx hb d_L_217 rfl (lv_at hl 1 rfl) ?_
  refine lv_aload_n hx hb d_L_218 rfl (lv_at hl 0 rfl) ?_
  refine lv_iload_n hx hb d_L_219 rfl (lv_at hl 3 rfl) ?_
  refine lv_iconst (v := 1) hx hb d_L_220 (by decide) ?_
  refine lv_iadd hx hb d_L_221 ?_
  refine va_sld hx hb hX hbl hbA S.2.2.2.1 hin1 d_L_222 ?_
  refine lw_callCi (lw_runV (As := [.int (xs (nI j + 1).toNatClampNeg)]) (rest := []) CF (lw_cutC S) (qc_S_abandon l dC dI a k _ _ _ (t_abandon hI _) H.size) (cwV 1 CF.2.2.2.2 qo_L_27_S_abandon rfl rfl rfl qd_S_abandon ⟨Nat.le_of_ble_eq_true rfl, Nat.le_of_ble_eq_true rfl⟩) (va_recv (q0 := 0) (ci := 0) (lw_cutC S).2.2.1 (lw_cutC S).1 rfl rfl) rfl hl.1 rfl (Nat.le_of_ble_eq_true rfl) d_L_223 ⟨Nat.le_of_ble_eq_true rfl, Nat.le_of_ble_eq_true rfl⟩) S (fun r1 x1 H locs hw S => ?_)
  refine lv_aload_n hx hb d_L_226 rfl (lv_at hl 2 rfl) ?_
  refine lv_aload_n hx hb d_L_227 rfl (lv_at hl 0 rfl) ?_
  refine lv_iload_n hx hb d_L_228 rfl (lv_at hl 3 rfl) ?_
  refine lv_iconst (v := 1) hx hb d_L_229 (by decide) ?_
  refine lv_iadd hx hb d_L_230 ?_
  refine va_sld hx hb hX hbl hbA S.2.2.2.1 hin1 d_L_231 ?_
  refine lw_callMi (lw_runV (As := [.int (xs (nI j + 1).toNatClampNeg)]) (rest := [.int r1]) CF (lw_cutM S) (qc_M_abandon l dC dI a' k' _ _ _ hw H.size) (cwV 1 CF.2.2.2.2 qo_L_30_M_abandon rfl rfl rfl qd_M_abandon ⟨Nat.le_of_ble_eq_true rfl, Nat.le_of_ble_eq_true rfl⟩) (va_recv (q0 := 0) (ci := 4) (lw_cutM S).2.2.1 (lw_cutM S).1 rfl rfl) rfl hl.1 rfl (Nat.le_of_ble_eq_true rfl) d_L_232 ⟨Nat.le_of_ble_eq_true rfl, Nat.le_of_ble_eq_true rfl⟩) S (fun r2 y1 H locs hw S => ?_)
  refine lv_icmp_eq (tgt := 659) hx hb d_L_235 rfl (fun hc => ?_) (fun hc => ?_)
  · exact hrec _ _ _ _ _ hw.2 S hl
  exact absurd hw.1 hc
set_option maxHeartbeats 4000000 in
set_option maxRecDepth 100000 in
theorem lw_case4 {p : Program} {l : Launch} {e : Env} {s : State} {m : MethodId} {below : List Frame} {meth : Method} {c : Code} {b : Nat} {H : Heap} {locs : List Loc} {A : Nat → Prop} {dC : Nat → ClassId} {dI : Nat → Nat → Nat} {a a' : Nat → Nat} {k k' : Nat → ClassId} {x y : QX} {ls : Array Slot} {Q : State → Prop} {L j : Nat} {xs : Nat → Int32} (C0 : lw_At p s m meth c b L xs) (hL : L ≤ 2048) (hj : j + 4 ≤ L) (hbA : ¬ A b) (hI : INV x y) (S : q_LS dC dI a a' k k' A s x y H locs) (hl : lv_has ls 4 [(0, .ref b), (1, .ref (a 0)), (2, .ref (a' 0)), (3, .int (nI j))]) (hrec : ∀ (x y : QX) (H : Heap) (locs : List Loc) (ls : Array Slot), INV x y → q_LS dC dI a a' k k' A s x y H locs → lv_has ls 4 [(0, .ref b), (1, .ref (a 0)), (2, .ref (a' 0)), (3, .int (nI j))] → W p l e room_1 s m #[Value.ref b] below meth c H locs 29 11716 Q (F0 m 659 ls [])) : W p l e room_1 s m #[Value.ref b] below meth c H locs 29 11716 Q (F0 m 240 ls []) := by
  obtain ⟨hx, hb, hr, hml, hown, hts0, hX, hbl, hlocks, hgv⟩ := C0
  have CF : CallFix p m c code 4 s #[Value.ref b] qa_WG R_law := ⟨hx, hb, hml, hown, fun w hw => hts0 w (List.mem_filter.mp hw).1⟩
  have hin0 : vp_in (nI j) L := vp_in_nI (by omega) (by omega)
  have hin1 : vp_in (nI j + 1) L := by rw [q_l1, nI_add]; exact vp_in_nI (by omega) (by omega)
  have hin2 : vp_in (nI j + 2) L := by rw [q_l2, nI_add]; exact vp_in_nI (by omega) (by omega)
  have hin3 : vp_in (nI j + 3) L := by rw [q_l3, nI_add]; exact vp_in_nI (by omega) (by omega)
  refine lv_aload_n hx hb d_L_240 rfl (lv_at hl 1 rfl) ?_
  refine lv_aload_n hx hb d_L_241 rfl (lv_at hl 0 rfl) ?_
  refine lv_iload_n hx hb d_L_242 rfl (lv_at hl 3 rfl) ?_
  refine lv_iconst (v := 1) hx hb d_L_243 (by decide) ?_
  refine lv_iadd hx hb d_L_244 ?_
  refine va_sld hx hb hX hbl hbA S.2.2.2.1 hin1 d_L_245 ?_
  refine lw_callCi (lw_runV (As := [.int (xs (nI j + 1).toNatClampNeg)]) (rest := []) CF (lw_cutC S) (qc_S_squash l dC dI a k _ _ _ (t_squash hI _) H.size) (cwV 1 CF.2.2.2.2 qo_L_31_S_squash rfl rfl rfl qd_S_squash ⟨Nat.le_of_ble_eq_true rfl, Nat.le_of_ble_eq_true rfl⟩) (va_recv (q0 := 0) (ci := 0) (lw_cutC S).2.2.1 (lw_cutC S).1 rfl rfl) rfl hl.1 rfl (Nat.le_of_ble_eq_true rfl) d_L_246 ⟨Nat.le_of_ble_eq_true rfl, Nat.le_of_ble_eq_true rfl⟩) S (fun r1 x1 H locs hw S => ?_)
  refine lv_aload_n hx hb d_L_249 rfl (lv_at hl 2 rfl) ?_
  refine lv_aload_n hx hb d_L_250 rfl (lv_at hl 0 rfl) ?_
  refine lv_iload_n hx hb d_L_251 rfl (lv_at hl 3 rfl) ?_
  refine lv_iconst (v := 1) hx hb d_L_252 (by decide) ?_
  refine lv_iadd hx hb d_L_253 ?_
  refine va_sld hx hb hX hbl hbA S.2.2.2.1 hin1 d_L_254 ?_
  refine lw_callMi (lw_runV (As := [.int (xs (nI j + 1).toNatClampNeg)]) (rest := [.int r1]) CF (lw_cutM S) (qc_M_squash l dC dI a' k' _ _ _ hw H.size) (cwV 1 CF.2.2.2.2 qo_L_34_M_squash rfl rfl rfl qd_M_squash ⟨Nat.le_of_ble_eq_true rfl, Nat.le_of_ble_eq_true rfl⟩) (va_recv (q0 := 0) (ci := 4) (lw_cutM S).2.2.1 (lw_cutM S).1 rfl rfl) rfl hl.1 rfl (Nat.le_of_ble_eq_true rfl) d_L_255 ⟨Nat.le_of_ble_eq_true rfl, Nat.le_of_ble_eq_true rfl⟩) S (fun r2 y1 H locs hw S => ?_)
  refine lv_icmp_eq (tgt := 659) hx hb d_L_258 rfl (fun hc => ?_) (fun hc => ?_)
  · exact hrec _ _ _ _ _ hw.2 S hl
  exact absurd hw.1 hc
set_option maxHeartbeats 4000000 in
set_option maxRecDepth 100000 in
theorem lw_case5 {p : Program} {l : Launch} {e : Env} {s : State} {m : MethodId} {below : List Frame} {meth : Method} {c : Code} {b : Nat} {H : Heap} {locs : List Loc} {A : Nat → Prop} {dC : Nat → ClassId} {dI : Nat → Nat → Nat} {a a' : Nat → Nat} {k k' : Nat → ClassId} {x y : QX} {ls : Array Slot} {Q : State → Prop} {L j : Nat} {xs : Nat → Int32} (C0 : lw_At p s m meth c b L xs) (hL : L ≤ 2048) (hj : j + 4 ≤ L) (hbA : ¬ A b) (hI : INV x y) (S : q_LS dC dI a a' k k' A s x y H locs) (hl : lv_has ls 4 [(0, .ref b), (1, .ref (a 0)), (2, .ref (a' 0)), (3, .int (nI j))]) (hrec : ∀ (x y : QX) (H : Heap) (locs : List Loc) (ls : Array Slot), INV x y → q_LS dC dI a a' k k' A s x y H locs → lv_has ls 4 [(0, .ref b), (1, .ref (a 0)), (2, .ref (a' 0)), (3, .int (nI j))] → W p l e room_1 s m #[Value.ref b] below meth c H locs 29 11716 Q (F0 m 659 ls [])) : W p l e room_1 s m #[Value.ref b] below meth c H locs 29 11716 Q (F0 m 263 ls []) := by
  obtain ⟨hx, hb, hr, hml, hown, hts0, hX, hbl, hlocks, hgv⟩ := C0
  have CF : CallFix p m c code 4 s #[Value.ref b] qa_WG R_law := ⟨hx, hb, hml, hown, fun w hw => hts0 w (List.mem_filter.mp hw).1⟩
  have hin0 : vp_in (nI j) L := vp_in_nI (by omega) (by omega)
  have hin1 : vp_in (nI j + 1) L := by rw [q_l1, nI_add]; exact vp_in_nI (by omega) (by omega)
  have hin2 : vp_in (nI j + 2) L := by rw [q_l2, nI_add]; exact vp_in_nI (by omega) (by omega)
  have hin3 : vp_in (nI j + 3) L := by rw [q_l3, nI_add]; exact vp_in_nI (by omega) (by omega)
  refine lv_aload_n hx hb d_L_263 rfl (lv_at hl 1 rfl) ?_
  refine lv_aload_n hx hb d_L_264 rfl (lv_at hl 0 rfl) ?_
  refine lv_iload_n hx hb d_L_265 rfl (lv_at hl 3 rfl) ?_
  refine lv_iconst (v := 1) hx hb d_L_266 (by decide) ?_
  refine lv_iadd hx hb d_L_267 ?_
  refine va_sld hx hb hX hbl hbA S.2.2.2.1 hin1 d_L_268 ?_
  refine lw_callCi (lw_runV (As := [.int (xs (nI j + 1).toNatClampNeg)]) (rest := []) CF (lw_cutC S) (qc_S_edit l dC dI a k _ _ _ (t_edit hI _) H.size) (cwV 1 CF.2.2.2.2 qo_L_35_S_edit rfl rfl rfl qd_S_edit ⟨Nat.le_of_ble_eq_true rfl, Nat.le_of_ble_eq_true rfl⟩) (va_recv (q0 := 0) (ci := 0) (lw_cutC S).2.2.1 (lw_cutC S).1 rfl rfl) rfl hl.1 rfl (Nat.le_of_ble_eq_true rfl) d_L_269 ⟨Nat.le_of_ble_eq_true rfl, Nat.le_of_ble_eq_true rfl⟩) S (fun r1 x1 H locs hw S => ?_)
  refine lv_aload_n hx hb d_L_272 rfl (lv_at hl 2 rfl) ?_
  refine lv_aload_n hx hb d_L_273 rfl (lv_at hl 0 rfl) ?_
  refine lv_iload_n hx hb d_L_274 rfl (lv_at hl 3 rfl) ?_
  refine lv_iconst (v := 1) hx hb d_L_275 (by decide) ?_
  refine lv_iadd hx hb d_L_276 ?_
  refine va_sld hx hb hX hbl hbA S.2.2.2.1 hin1 d_L_277 ?_
  refine lw_callMi (lw_runV (As := [.int (xs (nI j + 1).toNatClampNeg)]) (rest := [.int r1]) CF (lw_cutM S) (qc_M_edit l dC dI a' k' _ _ _ hw H.size) (cwV 1 CF.2.2.2.2 qo_L_38_M_edit rfl rfl rfl qd_M_edit ⟨Nat.le_of_ble_eq_true rfl, Nat.le_of_ble_eq_true rfl⟩) (va_recv (q0 := 0) (ci := 4) (lw_cutM S).2.2.1 (lw_cutM S).1 rfl rfl) rfl hl.1 rfl (Nat.le_of_ble_eq_true rfl) d_L_278 ⟨Nat.le_of_ble_eq_true rfl, Nat.le_of_ble_eq_true rfl⟩) S (fun r2 y1 H locs hw S => ?_)
  refine lv_icmp_eq (tgt := 659) hx hb d_L_281 rfl (fun hc => ?_) (fun hc => ?_)
  · exact hrec _ _ _ _ _ hw.2 S hl
  exact absurd hw.1 hc
set_option maxHeartbeats 4000000 in
set_option maxRecDepth 100000 in
theorem lw_case6 {p : Program} {l : Launch} {e : Env} {s : State} {m : MethodId} {below : List Frame} {meth : Method} {c : Code} {b : Nat} {H : Heap} {locs : List Loc} {A : Nat → Prop} {dC : Nat → ClassId} {dI : Nat → Nat → Nat} {a a' : Nat → Nat} {k k' : Nat → ClassId} {x y : QX} {ls : Array Slot} {Q : State → Prop} {L j : Nat} {xs : Nat → Int32} (C0 : lw_At p s m meth c b L xs) (hL : L ≤ 2048) (hj : j + 4 ≤ L) (hbA : ¬ A b) (hI : INV x y) (S : q_LS dC dI a a' k k' A s x y H locs) (hl : lv_has ls 4 [(0, .ref b), (1, .ref (a 0)), (2, .ref (a' 0)), (3, .int (nI j))]) (hrec : ∀ (x y : QX) (H : Heap) (locs : List Loc) (ls : Array Slot), INV x y → q_LS dC dI a a' k k' A s x y H locs → lv_has ls 4 [(0, .ref b), (1, .ref (a 0)), (2, .ref (a' 0)), (3, .int (nI j))] → W p l e room_1 s m #[Value.ref b] below meth c H locs 29 11716 Q (F0 m 659 ls [])) : W p l e room_1 s m #[Value.ref b] below meth c H locs 29 11716 Q (F0 m 286 ls []) := by
  obtain ⟨hx, hb, hr, hml, hown, hts0, hX, hbl, hlocks, hgv⟩ := C0
  have CF : CallFix p m c code 4 s #[Value.ref b] qa_WG R_law := ⟨hx, hb, hml, hown, fun w hw => hts0 w (List.mem_filter.mp hw).1⟩
  have hin0 : vp_in (nI j) L := vp_in_nI (by omega) (by omega)
  have hin1 : vp_in (nI j + 1) L := by rw [q_l1, nI_add]; exact vp_in_nI (by omega) (by omega)
  have hin2 : vp_in (nI j + 2) L := by rw [q_l2, nI_add]; exact vp_in_nI (by omega) (by omega)
  have hin3 : vp_in (nI j + 3) L := by rw [q_l3, nI_add]; exact vp_in_nI (by omega) (by omega)
  refine lv_aload_n hx hb d_L_286 rfl (lv_at hl 1 rfl) ?_
  refine lv_aload_n hx hb d_L_287 rfl (lv_at hl 0 rfl) ?_
  refine lv_iload_n hx hb d_L_288 rfl (lv_at hl 3 rfl) ?_
  refine lv_iconst (v := 1) hx hb d_L_289 (by decide) ?_
  refine lv_iadd hx hb d_L_290 ?_
  refine va_sld hx hb hX hbl hbA S.2.2.2.1 hin1 d_L_291 ?_
  refine lv_aload_n hx hb d_L_292 rfl (lv_at hl 0 rfl) ?_
  refine lv_iload_n hx hb d_L_293 rfl (lv_at hl 3 rfl) ?_
  refine lv_iconst (v := 2) hx hb d_L_294 (by decide) ?_
  refine lv_iadd hx hb d_L_295 ?_
  refine va_sld hx hb hX hbl hbA S.2.2.2.1 hin2 d_L_296 ?_
  refine lw_callCi (lw_runV (As := [.int (xs (nI j + 1).toNatClampNeg), .int (xs (nI j + 2).toNatClampNeg)]) (rest := []) CF (lw_cutC S) (qc_S_mark l dC dI a k _ _ _ _ (t_mark hI _ _) H.size) (cwV 2 CF.2.2.2.2 qo_L_39_S_mark rfl rfl rfl qd_S_mark ⟨Nat.le_of_ble_eq_true rfl, Nat.le_of_ble_eq_true rfl⟩) (va_recv (q0 := 0) (ci := 0) (lw_cutC S).2.2.1 (lw_cutC S).1 rfl rfl) rfl hl.1 rfl (Nat.le_of_ble_eq_true rfl) d_L_297 ⟨Nat.le_of_ble_eq_true rfl, Nat.le_of_ble_eq_true rfl⟩) S (fun r1 x1 H locs hw S => ?_)
  refine lv_aload_n hx hb d_L_300 rfl (lv_at hl 2 rfl) ?_
  refine lv_aload_n hx hb d_L_301 rfl (lv_at hl 0 rfl) ?_
  refine lv_iload_n hx hb d_L_302 rfl (lv_at hl 3 rfl) ?_
  refine lv_iconst (v := 1) hx hb d_L_303 (by decide) ?_
  refine lv_iadd hx hb d_L_304 ?_
  refine va_sld hx hb hX hbl hbA S.2.2.2.1 hin1 d_L_305 ?_
  refine lv_aload_n hx hb d_L_306 rfl (lv_at hl 0 rfl) ?_
  refine lv_iload_n hx hb d_L_307 rfl (lv_at hl 3 rfl) ?_
  refine lv_iconst (v := 2) hx hb d_L_308 (by decide) ?_
  refine lv_iadd hx hb d_L_309 ?_
  refine va_sld hx hb hX hbl hbA S.2.2.2.1 hin2 d_L_310 ?_
  refine lw_callMi (lw_runV (As := [.int (xs (nI j + 1).toNatClampNeg), .int (xs (nI j + 2).toNatClampNeg)]) (rest := [.int r1]) CF (lw_cutM S) (qc_M_mark l dC dI a' k' _ _ _ _ hw H.size) (cwV 2 CF.2.2.2.2 qo_L_42_M_mark rfl rfl rfl qd_M_mark ⟨Nat.le_of_ble_eq_true rfl, Nat.le_of_ble_eq_true rfl⟩) (va_recv (q0 := 0) (ci := 4) (lw_cutM S).2.2.1 (lw_cutM S).1 rfl rfl) rfl hl.1 rfl (Nat.le_of_ble_eq_true rfl) d_L_311 ⟨Nat.le_of_ble_eq_true rfl, Nat.le_of_ble_eq_true rfl⟩) S (fun r2 y1 H locs hw S => ?_)
  refine lv_icmp_eq (tgt := 659) hx hb d_L_314 rfl (fun hc => ?_) (fun hc => ?_)
  · exact hrec _ _ _ _ _ hw.2 S hl
  exact absurd hw.1 hc
set_option maxHeartbeats 4000000 in
set_option maxRecDepth 100000 in
theorem lw_case7 {p : Program} {l : Launch} {e : Env} {s : State} {m : MethodId} {below : List Frame} {meth : Method} {c : Code} {b : Nat} {H : Heap} {locs : List Loc} {A : Nat → Prop} {dC : Nat → ClassId} {dI : Nat → Nat → Nat} {a a' : Nat → Nat} {k k' : Nat → ClassId} {x y : QX} {ls : Array Slot} {Q : State → Prop} {L j : Nat} {xs : Nat → Int32} (C0 : lw_At p s m meth c b L xs) (hL : L ≤ 2048) (hj : j + 4 ≤ L) (hbA : ¬ A b) (hI : INV x y) (S : q_LS dC dI a a' k k' A s x y H locs) (hl : lv_has ls 4 [(0, .ref b), (1, .ref (a 0)), (2, .ref (a' 0)), (3, .int (nI j))]) (hrec : ∀ (x y : QX) (H : Heap) (locs : List Loc) (ls : Array Slot), INV x y → q_LS dC dI a a' k k' A s x y H locs → lv_has ls 4 [(0, .ref b), (1, .ref (a 0)), (2, .ref (a' 0)), (3, .int (nI j))] → W p l e room_1 s m #[Value.ref b] below meth c H locs 29 11716 Q (F0 m 659 ls [])) : W p l e room_1 s m #[Value.ref b] below meth c H locs 29 11716 Q (F0 m 319 ls []) := by
  obtain ⟨hx, hb, hr, hml, hown, hts0, hX, hbl, hlocks, hgv⟩ := C0
  have CF : CallFix p m c code 4 s #[Value.ref b] qa_WG R_law := ⟨hx, hb, hml, hown, fun w hw => hts0 w (List.mem_filter.mp hw).1⟩
  have hin0 : vp_in (nI j) L := vp_in_nI (by omega) (by omega)
  have hin1 : vp_in (nI j + 1) L := by rw [q_l1, nI_add]; exact vp_in_nI (by omega) (by omega)
  have hin2 : vp_in (nI j + 2) L := by rw [q_l2, nI_add]; exact vp_in_nI (by omega) (by omega)
  have hin3 : vp_in (nI j + 3) L := by rw [q_l3, nI_add]; exact vp_in_nI (by omega) (by omega)
  refine lv_aload_n hx hb d_L_319 rfl (lv_at hl 1 rfl) ?_
  refine lw_callCi (lw_runV (As := []) (rest := []) CF (lw_cutC S) (qc_S_undo l dC dI a k  _ _ (t_undo hI) H.size) (cwV 0 CF.2.2.2.2 qo_L_43_S_undo rfl rfl rfl qd_S_undo ⟨Nat.le_of_ble_eq_true rfl, Nat.le_of_ble_eq_true rfl⟩) (va_recv (q0 := 0) (ci := 0) (lw_cutC S).2.2.1 (lw_cutC S).1 rfl rfl) rfl hl.1 rfl (Nat.le_of_ble_eq_true rfl) d_L_320 ⟨Nat.le_of_ble_eq_true rfl, Nat.le_of_ble_eq_true rfl⟩) S (fun r1 x1 H locs hw S => ?_)
  refine lv_aload_n hx hb d_L_323 rfl (lv_at hl 2 rfl) ?_
  refine lw_callMi (lw_runV (As := []) (rest := [.int r1]) CF (lw_cutM S) (qc_M_undo l dC dI a' k'  _ _ hw H.size) (cwV 0 CF.2.2.2.2 qo_L_47_M_undo rfl rfl rfl qd_M_undo ⟨Nat.le_of_ble_eq_true rfl, Nat.le_of_ble_eq_true rfl⟩) (va_recv (q0 := 0) (ci := 4) (lw_cutM S).2.2.1 (lw_cutM S).1 rfl rfl) rfl hl.1 rfl (Nat.le_of_ble_eq_true rfl) d_L_324 ⟨Nat.le_of_ble_eq_true rfl, Nat.le_of_ble_eq_true rfl⟩) S (fun r2 y1 H locs hw S => ?_)
  refine lv_icmp_eq (tgt := 659) hx hb d_L_327 rfl (fun hc => ?_) (fun hc => ?_)
  · exact hrec _ _ _ _ _ hw.2 S hl
  exact absurd hw.1 hc
set_option maxHeartbeats 4000000 in
set_option maxRecDepth 100000 in
theorem lw_case8 {p : Program} {l : Launch} {e : Env} {s : State} {m : MethodId} {below : List Frame} {meth : Method} {c : Code} {b : Nat} {H : Heap} {locs : List Loc} {A : Nat → Prop} {dC : Nat → ClassId} {dI : Nat → Nat → Nat} {a a' : Nat → Nat} {k k' : Nat → ClassId} {x y : QX} {ls : Array Slot} {Q : State → Prop} {L j : Nat} {xs : Nat → Int32} (C0 : lw_At p s m meth c b L xs) (hL : L ≤ 2048) (hj : j + 4 ≤ L) (hbA : ¬ A b) (hI : INV x y) (S : q_LS dC dI a a' k k' A s x y H locs) (hl : lv_has ls 4 [(0, .ref b), (1, .ref (a 0)), (2, .ref (a' 0)), (3, .int (nI j))]) (hrec : ∀ (x y : QX) (H : Heap) (locs : List Loc) (ls : Array Slot), INV x y → q_LS dC dI a a' k k' A s x y H locs → lv_has ls 4 [(0, .ref b), (1, .ref (a 0)), (2, .ref (a' 0)), (3, .int (nI j))] → W p l e room_1 s m #[Value.ref b] below meth c H locs 29 11716 Q (F0 m 659 ls [])) : W p l e room_1 s m #[Value.ref b] below meth c H locs 29 11716 Q (F0 m 332 ls []) := by
  obtain ⟨hx, hb, hr, hml, hown, hts0, hX, hbl, hlocks, hgv⟩ := C0
  have CF : CallFix p m c code 4 s #[Value.ref b] qa_WG R_law := ⟨hx, hb, hml, hown, fun w hw => hts0 w (List.mem_filter.mp hw).1⟩
  have hin0 : vp_in (nI j) L := vp_in_nI (by omega) (by omega)
  have hin1 : vp_in (nI j + 1) L := by rw [q_l1, nI_add]; exact vp_in_nI (by omega) (by omega)
  have hin2 : vp_in (nI j + 2) L := by rw [q_l2, nI_add]; exact vp_in_nI (by omega) (by omega)
  have hin3 : vp_in (nI j + 3) L := by rw [q_l3, nI_add]; exact vp_in_nI (by omega) (by omega)
  refine lv_aload_n hx hb d_L_332 rfl (lv_at hl 1 rfl) ?_
  refine lv_aload_n hx hb d_L_333 rfl (lv_at hl 0 rfl) ?_
  refine lv_iload_n hx hb d_L_334 rfl (lv_at hl 3 rfl) ?_
  refine lv_iconst (v := 1) hx hb d_L_335 (by decide) ?_
  refine lv_iadd hx hb d_L_336 ?_
  refine va_sld hx hb hX hbl hbA S.2.2.2.1 hin1 d_L_337 ?_
  refine lw_callCi (lw_runV (As := [.int (xs (nI j + 1).toNatClampNeg)]) (rest := []) CF (lw_cutC S) (qc_S_restore l dC dI a k _ _ _ (t_restore hI _) H.size) (cwV 1 CF.2.2.2.2 qo_L_48_S_restore rfl rfl rfl qd_S_restore ⟨Nat.le_of_ble_eq_true rfl, Nat.le_of_ble_eq_true rfl⟩) (va_recv (q0 := 0) (ci := 0) (lw_cutC S).2.2.1 (lw_cutC S).1 rfl rfl) rfl hl.1 rfl (Nat.le_of_ble_eq_true rfl) d_L_338 ⟨Nat.le_of_ble_eq_true rfl, Nat.le_of_ble_eq_true rfl⟩) S (fun r1 x1 H locs hw S => ?_)
  refine lv_aload_n hx hb d_L_341 rfl (lv_at hl 2 rfl) ?_
  refine lv_aload_n hx hb d_L_342 rfl (lv_at hl 0 rfl) ?_
  refine lv_iload_n hx hb d_L_343 rfl (lv_at hl 3 rfl) ?_
  refine lv_iconst (v := 1) hx hb d_L_344 (by decide) ?_
  refine lv_iadd hx hb d_L_345 ?_
  refine va_sld hx hb hX hbl hbA S.2.2.2.1 hin1 d_L_346 ?_
  refine lw_callMi (lw_runV (As := [.int (xs (nI j + 1).toNatClampNeg)]) (rest := [.int r1]) CF (lw_cutM S) (qc_M_restore l dC dI a' k' _ _ _ hw H.size) (cwV 1 CF.2.2.2.2 qo_L_51_M_restore rfl rfl rfl qd_M_restore ⟨Nat.le_of_ble_eq_true rfl, Nat.le_of_ble_eq_true rfl⟩) (va_recv (q0 := 0) (ci := 4) (lw_cutM S).2.2.1 (lw_cutM S).1 rfl rfl) rfl hl.1 rfl (Nat.le_of_ble_eq_true rfl) d_L_347 ⟨Nat.le_of_ble_eq_true rfl, Nat.le_of_ble_eq_true rfl⟩) S (fun r2 y1 H locs hw S => ?_)
  refine lv_icmp_eq (tgt := 659) hx hb d_L_350 rfl (fun hc => ?_) (fun hc => ?_)
  · exact hrec _ _ _ _ _ hw.2 S hl
  exact absurd hw.1 hc
set_option maxHeartbeats 4000000 in
set_option maxRecDepth 100000 in
theorem lw_case9 {p : Program} {l : Launch} {e : Env} {s : State} {m : MethodId} {below : List Frame} {meth : Method} {c : Code} {b : Nat} {H : Heap} {locs : List Loc} {A : Nat → Prop} {dC : Nat → ClassId} {dI : Nat → Nat → Nat} {a a' : Nat → Nat} {k k' : Nat → ClassId} {x y : QX} {ls : Array Slot} {Q : State → Prop} {L j : Nat} {xs : Nat → Int32} (C0 : lw_At p s m meth c b L xs) (hL : L ≤ 2048) (hj : j + 4 ≤ L) (hbA : ¬ A b) (hI : INV x y) (S : q_LS dC dI a a' k k' A s x y H locs) (hl : lv_has ls 4 [(0, .ref b), (1, .ref (a 0)), (2, .ref (a' 0)), (3, .int (nI j))]) (hrec : ∀ (x y : QX) (H : Heap) (locs : List Loc) (ls : Array Slot), INV x y → q_LS dC dI a a' k k' A s x y H locs → lv_has ls 4 [(0, .ref b), (1, .ref (a 0)), (2, .ref (a' 0)), (3, .int (nI j))] → W p l e room_1 s m #[Value.ref b] below meth c H locs 29 11716 Q (F0 m 659 ls [])) : W p l e room_1 s m #[Value.ref b] below meth c H locs 29 11716 Q (F0 m 355 ls []) := by
  obtain ⟨hx, hb, hr, hml, hown, hts0, hX, hbl, hlocks, hgv⟩ := C0
  have CF : CallFix p m c code 4 s #[Value.ref b] qa_WG R_law := ⟨hx, hb, hml, hown, fun w hw => hts0 w (List.mem_filter.mp hw).1⟩
  have hin0 : vp_in (nI j) L := vp_in_nI (by omega) (by omega)
  have hin1 : vp_in (nI j + 1) L := by rw [q_l1, nI_add]; exact vp_in_nI (by omega) (by omega)
  have hin2 : vp_in (nI j + 2) L := by rw [q_l2, nI_add]; exact vp_in_nI (by omega) (by omega)
  have hin3 : vp_in (nI j + 3) L := by rw [q_l3, nI_add]; exact vp_in_nI (by omega) (by omega)
  refine lv_aload_n hx hb d_L_355 rfl (lv_at hl 1 rfl) ?_
  refine lv_aload_n hx hb d_L_356 rfl (lv_at hl 0 rfl) ?_
  refine lv_iload_n hx hb d_L_357 rfl (lv_at hl 3 rfl) ?_
  refine lv_iconst (v := 1) hx hb d_L_358 (by decide) ?_
  refine lv_iadd hx hb d_L_359 ?_
  refine va_sld hx hb hX hbl hbA S.2.2.2.1 hin1 d_L_360 ?_
  refine lw_callCi (lw_runV (As := [.int (xs (nI j + 1).toNatClampNeg)]) (rest := []) CF (lw_cutC S) (qc_S_fork l dC dI a k _ _ _ (t_fork hI _) H.size) (cwV 1 CF.2.2.2.2 qo_L_52_S_fork rfl rfl rfl qd_S_fork ⟨Nat.le_of_ble_eq_true rfl, Nat.le_of_ble_eq_true rfl⟩) (va_recv (q0 := 0) (ci := 0) (lw_cutC S).2.2.1 (lw_cutC S).1 rfl rfl) rfl hl.1 rfl (Nat.le_of_ble_eq_true rfl) d_L_361 ⟨Nat.le_of_ble_eq_true rfl, Nat.le_of_ble_eq_true rfl⟩) S (fun r1 x1 H locs hw S => ?_)
  refine lv_aload_n hx hb d_L_364 rfl (lv_at hl 2 rfl) ?_
  refine lv_aload_n hx hb d_L_365 rfl (lv_at hl 0 rfl) ?_
  refine lv_iload_n hx hb d_L_366 rfl (lv_at hl 3 rfl) ?_
  refine lv_iconst (v := 1) hx hb d_L_367 (by decide) ?_
  refine lv_iadd hx hb d_L_368 ?_
  refine va_sld hx hb hX hbl hbA S.2.2.2.1 hin1 d_L_369 ?_
  refine lw_callMi (lw_runV (As := [.int (xs (nI j + 1).toNatClampNeg)]) (rest := [.int r1]) CF (lw_cutM S) (qc_M_fork l dC dI a' k' _ _ _ hw H.size) (cwV 1 CF.2.2.2.2 qo_L_56_M_fork rfl rfl rfl qd_M_fork ⟨Nat.le_of_ble_eq_true rfl, Nat.le_of_ble_eq_true rfl⟩) (va_recv (q0 := 0) (ci := 4) (lw_cutM S).2.2.1 (lw_cutM S).1 rfl rfl) rfl hl.1 rfl (Nat.le_of_ble_eq_true rfl) d_L_370 ⟨Nat.le_of_ble_eq_true rfl, Nat.le_of_ble_eq_true rfl⟩) S (fun r2 y1 H locs hw S => ?_)
  refine lv_icmp_eq (tgt := 659) hx hb d_L_373 rfl (fun hc => ?_) (fun hc => ?_)
  · exact hrec _ _ _ _ _ hw.2 S hl
  exact absurd hw.1 hc
set_option maxHeartbeats 4000000 in
set_option maxRecDepth 100000 in
theorem lw_case10 {p : Program} {l : Launch} {e : Env} {s : State} {m : MethodId} {below : List Frame} {meth : Method} {c : Code} {b : Nat} {H : Heap} {locs : List Loc} {A : Nat → Prop} {dC : Nat → ClassId} {dI : Nat → Nat → Nat} {a a' : Nat → Nat} {k k' : Nat → ClassId} {x y : QX} {ls : Array Slot} {Q : State → Prop} {L j : Nat} {xs : Nat → Int32} (C0 : lw_At p s m meth c b L xs) (hL : L ≤ 2048) (hj : j + 4 ≤ L) (hbA : ¬ A b) (hI : INV x y) (S : q_LS dC dI a a' k k' A s x y H locs) (hl : lv_has ls 4 [(0, .ref b), (1, .ref (a 0)), (2, .ref (a' 0)), (3, .int (nI j))]) (hrec : ∀ (x y : QX) (H : Heap) (locs : List Loc) (ls : Array Slot), INV x y → q_LS dC dI a a' k k' A s x y H locs → lv_has ls 4 [(0, .ref b), (1, .ref (a 0)), (2, .ref (a' 0)), (3, .int (nI j))] → W p l e room_1 s m #[Value.ref b] below meth c H locs 29 11716 Q (F0 m 659 ls [])) : W p l e room_1 s m #[Value.ref b] below meth c H locs 29 11716 Q (F0 m 378 ls []) := by
  obtain ⟨hx, hb, hr, hml, hown, hts0, hX, hbl, hlocks, hgv⟩ := C0
  have CF : CallFix p m c code 4 s #[Value.ref b] qa_WG R_law := ⟨hx, hb, hml, hown, fun w hw => hts0 w (List.mem_filter.mp hw).1⟩
  have hin0 : vp_in (nI j) L := vp_in_nI (by omega) (by omega)
  have hin1 : vp_in (nI j + 1) L := by rw [q_l1, nI_add]; exact vp_in_nI (by omega) (by omega)
  have hin2 : vp_in (nI j + 2) L := by rw [q_l2, nI_add]; exact vp_in_nI (by omega) (by omega)
  have hin3 : vp_in (nI j + 3) L := by rw [q_l3, nI_add]; exact vp_in_nI (by omega) (by omega)
  refine lv_aload_n hx hb d_L_378 rfl (lv_at hl 1 rfl) ?_
  refine lv_aload_n hx hb d_L_379 rfl (lv_at hl 0 rfl) ?_
  refine lv_iload_n hx hb d_L_380 rfl (lv_at hl 3 rfl) ?_
  refine lv_iconst (v := 1) hx hb d_L_381 (by decide) ?_
  refine lv_iadd hx hb d_L_382 ?_
  refine va_sld hx hb hX hbl hbA S.2.2.2.1 hin1 d_L_383 ?_
  refine lw_callCi (lw_runV (As := [.int (xs (nI j + 1).toNatClampNeg)]) (rest := []) CF (lw_cutC S) (qc_S_choose l dC dI a k _ _ _ (t_choose hI _) H.size) (cwV 1 CF.2.2.2.2 qo_L_57_S_choose rfl rfl rfl qd_S_choose ⟨Nat.le_of_ble_eq_true rfl, Nat.le_of_ble_eq_true rfl⟩) (va_recv (q0 := 0) (ci := 0) (lw_cutC S).2.2.1 (lw_cutC S).1 rfl rfl) rfl hl.1 rfl (Nat.le_of_ble_eq_true rfl) d_L_384 ⟨Nat.le_of_ble_eq_true rfl, Nat.le_of_ble_eq_true rfl⟩) S (fun r1 x1 H locs hw S => ?_)
  refine lv_aload_n hx hb d_L_387 rfl (lv_at hl 2 rfl) ?_
  refine lv_aload_n hx hb d_L_388 rfl (lv_at hl 0 rfl) ?_
  refine lv_iload_n hx hb d_L_389 rfl (lv_at hl 3 rfl) ?_
  refine lv_iconst (v := 1) hx hb d_L_390 (by decide) ?_
  refine lv_iadd hx hb d_L_391 ?_
  refine va_sld hx hb hX hbl hbA S.2.2.2.1 hin1 d_L_392 ?_
  refine lw_callMi (lw_runV (As := [.int (xs (nI j + 1).toNatClampNeg)]) (rest := [.int r1]) CF (lw_cutM S) (qc_M_choose l dC dI a' k' _ _ _ hw H.size) (cwV 1 CF.2.2.2.2 qo_L_60_M_choose rfl rfl rfl qd_M_choose ⟨Nat.le_of_ble_eq_true rfl, Nat.le_of_ble_eq_true rfl⟩) (va_recv (q0 := 0) (ci := 4) (lw_cutM S).2.2.1 (lw_cutM S).1 rfl rfl) rfl hl.1 rfl (Nat.le_of_ble_eq_true rfl) d_L_393 ⟨Nat.le_of_ble_eq_true rfl, Nat.le_of_ble_eq_true rfl⟩) S (fun r2 y1 H locs hw S => ?_)
  refine lv_icmp_eq (tgt := 659) hx hb d_L_396 rfl (fun hc => ?_) (fun hc => ?_)
  · exact hrec _ _ _ _ _ hw.2 S hl
  exact absurd hw.1 hc
set_option maxHeartbeats 4000000 in
set_option maxRecDepth 100000 in
theorem lw_case11 {p : Program} {l : Launch} {e : Env} {s : State} {m : MethodId} {below : List Frame} {meth : Method} {c : Code} {b : Nat} {H : Heap} {locs : List Loc} {A : Nat → Prop} {dC : Nat → ClassId} {dI : Nat → Nat → Nat} {a a' : Nat → Nat} {k k' : Nat → ClassId} {x y : QX} {ls : Array Slot} {Q : State → Prop} {L j : Nat} {xs : Nat → Int32} (C0 : lw_At p s m meth c b L xs) (hL : L ≤ 2048) (hj : j + 4 ≤ L) (hbA : ¬ A b) (hI : INV x y) (S : q_LS dC dI a a' k k' A s x y H locs) (hl : lv_has ls 4 [(0, .ref b), (1, .ref (a 0)), (2, .ref (a' 0)), (3, .int (nI j))]) (hrec : ∀ (x y : QX) (H : Heap) (locs : List Loc) (ls : Array Slot), INV x y → q_LS dC dI a a' k k' A s x y H locs → lv_has ls 4 [(0, .ref b), (1, .ref (a 0)), (2, .ref (a' 0)), (3, .int (nI j))] → W p l e room_1 s m #[Value.ref b] below meth c H locs 29 11716 Q (F0 m 659 ls [])) : W p l e room_1 s m #[Value.ref b] below meth c H locs 29 11716 Q (F0 m 401 ls []) := by
  obtain ⟨hx, hb, hr, hml, hown, hts0, hX, hbl, hlocks, hgv⟩ := C0
  have CF : CallFix p m c code 4 s #[Value.ref b] qa_WG R_law := ⟨hx, hb, hml, hown, fun w hw => hts0 w (List.mem_filter.mp hw).1⟩
  have hin0 : vp_in (nI j) L := vp_in_nI (by omega) (by omega)
  have hin1 : vp_in (nI j + 1) L := by rw [q_l1, nI_add]; exact vp_in_nI (by omega) (by omega)
  have hin2 : vp_in (nI j + 2) L := by rw [q_l2, nI_add]; exact vp_in_nI (by omega) (by omega)
  have hin3 : vp_in (nI j + 3) L := by rw [q_l3, nI_add]; exact vp_in_nI (by omega) (by omega)
  refine lv_aload_n hx hb d_L_401 rfl (lv_at hl 1 rfl) ?_
  refine lw_callCi (lw_runV (As := []) (rest := []) CF (lw_cutC S) (qc_S_join l dC dI a k  _ _ (t_join hI) H.size) (cwV 0 CF.2.2.2.2 qo_L_61_S_join rfl rfl rfl qd_S_join ⟨Nat.le_of_ble_eq_true rfl, Nat.le_of_ble_eq_true rfl⟩) (va_recv (q0 := 0) (ci := 0) (lw_cutC S).2.2.1 (lw_cutC S).1 rfl rfl) rfl hl.1 rfl (Nat.le_of_ble_eq_true rfl) d_L_402 ⟨Nat.le_of_ble_eq_true rfl, Nat.le_of_ble_eq_true rfl⟩) S (fun r1 x1 H locs hw S => ?_)
  refine lv_aload_n hx hb d_L_405 rfl (lv_at hl 2 rfl) ?_
  refine lw_callMi (lw_runV (As := []) (rest := [.int r1]) CF (lw_cutM S) (qc_M_join l dC dI a' k'  _ _ hw H.size) (cwV 0 CF.2.2.2.2 qo_L_64_M_join rfl rfl rfl qd_M_join ⟨Nat.le_of_ble_eq_true rfl, Nat.le_of_ble_eq_true rfl⟩) (va_recv (q0 := 0) (ci := 4) (lw_cutM S).2.2.1 (lw_cutM S).1 rfl rfl) rfl hl.1 rfl (Nat.le_of_ble_eq_true rfl) d_L_406 ⟨Nat.le_of_ble_eq_true rfl, Nat.le_of_ble_eq_true rfl⟩) S (fun r2 y1 H locs hw S => ?_)
  refine lv_icmp_eq (tgt := 659) hx hb d_L_409 rfl (fun hc => ?_) (fun hc => ?_)
  · exact hrec _ _ _ _ _ hw.2 S hl
  exact absurd hw.1 hc
set_option maxHeartbeats 4000000 in
set_option maxRecDepth 100000 in
theorem lw_case12 {p : Program} {l : Launch} {e : Env} {s : State} {m : MethodId} {below : List Frame} {meth : Method} {c : Code} {b : Nat} {H : Heap} {locs : List Loc} {A : Nat → Prop} {dC : Nat → ClassId} {dI : Nat → Nat → Nat} {a a' : Nat → Nat} {k k' : Nat → ClassId} {x y : QX} {ls : Array Slot} {Q : State → Prop} {L j : Nat} {xs : Nat → Int32} (C0 : lw_At p s m meth c b L xs) (hL : L ≤ 2048) (hj : j + 4 ≤ L) (hbA : ¬ A b) (hI : INV x y) (S : q_LS dC dI a a' k k' A s x y H locs) (hl : lv_has ls 4 [(0, .ref b), (1, .ref (a 0)), (2, .ref (a' 0)), (3, .int (nI j))]) (hrec : ∀ (x y : QX) (H : Heap) (locs : List Loc) (ls : Array Slot), INV x y → q_LS dC dI a a' k k' A s x y H locs → lv_has ls 4 [(0, .ref b), (1, .ref (a 0)), (2, .ref (a' 0)), (3, .int (nI j))] → W p l e room_1 s m #[Value.ref b] below meth c H locs 29 11716 Q (F0 m 659 ls [])) : W p l e room_1 s m #[Value.ref b] below meth c H locs 29 11716 Q (F0 m 414 ls []) := by
  obtain ⟨hx, hb, hr, hml, hown, hts0, hX, hbl, hlocks, hgv⟩ := C0
  have CF : CallFix p m c code 4 s #[Value.ref b] qa_WG R_law := ⟨hx, hb, hml, hown, fun w hw => hts0 w (List.mem_filter.mp hw).1⟩
  have hin0 : vp_in (nI j) L := vp_in_nI (by omega) (by omega)
  have hin1 : vp_in (nI j + 1) L := by rw [q_l1, nI_add]; exact vp_in_nI (by omega) (by omega)
  have hin2 : vp_in (nI j + 2) L := by rw [q_l2, nI_add]; exact vp_in_nI (by omega) (by omega)
  have hin3 : vp_in (nI j + 3) L := by rw [q_l3, nI_add]; exact vp_in_nI (by omega) (by omega)
  refine lv_aload_n hx hb d_L_414 rfl (lv_at hl 1 rfl) ?_
  refine lw_callCi (lw_runV (As := []) (rest := []) CF (lw_cutC S) (qc_S_operation l dC dI a k  _ _ (t_operation hI) H.size) (cwV 0 CF.2.2.2.2 qo_L_65_S_operation rfl rfl rfl qd_S_operation ⟨Nat.le_of_ble_eq_true rfl, Nat.le_of_ble_eq_true rfl⟩) (va_recv (q0 := 0) (ci := 0) (lw_cutC S).2.2.1 (lw_cutC S).1 rfl rfl) rfl hl.1 rfl (Nat.le_of_ble_eq_true rfl) d_L_415 ⟨Nat.le_of_ble_eq_true rfl, Nat.le_of_ble_eq_true rfl⟩) S (fun r1 x1 H locs hw S => ?_)
  refine lv_aload_n hx hb d_L_418 rfl (lv_at hl 2 rfl) ?_
  refine lw_callMi (lw_runV (As := []) (rest := [.int r1]) CF (lw_cutM S) (qc_M_operation l dC dI a' k'  _ _ hw H.size) (cwV 0 CF.2.2.2.2 qo_L_68_M_operation rfl rfl rfl qd_M_operation ⟨Nat.le_of_ble_eq_true rfl, Nat.le_of_ble_eq_true rfl⟩) (va_recv (q0 := 0) (ci := 4) (lw_cutM S).2.2.1 (lw_cutM S).1 rfl rfl) rfl hl.1 rfl (Nat.le_of_ble_eq_true rfl) d_L_419 ⟨Nat.le_of_ble_eq_true rfl, Nat.le_of_ble_eq_true rfl⟩) S (fun r2 y1 H locs hw S => ?_)
  refine lv_icmp_eq (tgt := 659) hx hb d_L_422 rfl (fun hc => ?_) (fun hc => ?_)
  · exact hrec _ _ _ _ _ hw.2 S hl
  exact absurd hw.1 hc
set_option maxHeartbeats 4000000 in
set_option maxRecDepth 100000 in
theorem lw_case13 {p : Program} {l : Launch} {e : Env} {s : State} {m : MethodId} {below : List Frame} {meth : Method} {c : Code} {b : Nat} {H : Heap} {locs : List Loc} {A : Nat → Prop} {dC : Nat → ClassId} {dI : Nat → Nat → Nat} {a a' : Nat → Nat} {k k' : Nat → ClassId} {x y : QX} {ls : Array Slot} {Q : State → Prop} {L j : Nat} {xs : Nat → Int32} (C0 : lw_At p s m meth c b L xs) (hL : L ≤ 2048) (hj : j + 4 ≤ L) (hbA : ¬ A b) (hI : INV x y) (S : q_LS dC dI a a' k k' A s x y H locs) (hl : lv_has ls 4 [(0, .ref b), (1, .ref (a 0)), (2, .ref (a' 0)), (3, .int (nI j))]) (hrec : ∀ (x y : QX) (H : Heap) (locs : List Loc) (ls : Array Slot), INV x y → q_LS dC dI a a' k k' A s x y H locs → lv_has ls 4 [(0, .ref b), (1, .ref (a 0)), (2, .ref (a' 0)), (3, .int (nI j))] → W p l e room_1 s m #[Value.ref b] below meth c H locs 29 11716 Q (F0 m 659 ls [])) : W p l e room_1 s m #[Value.ref b] below meth c H locs 29 11716 Q (F0 m 427 ls []) := by
  obtain ⟨hx, hb, hr, hml, hown, hts0, hX, hbl, hlocks, hgv⟩ := C0
  have CF : CallFix p m c code 4 s #[Value.ref b] qa_WG R_law := ⟨hx, hb, hml, hown, fun w hw => hts0 w (List.mem_filter.mp hw).1⟩
  have hin0 : vp_in (nI j) L := vp_in_nI (by omega) (by omega)
  have hin1 : vp_in (nI j + 1) L := by rw [q_l1, nI_add]; exact vp_in_nI (by omega) (by omega)
  have hin2 : vp_in (nI j + 2) L := by rw [q_l2, nI_add]; exact vp_in_nI (by omega) (by omega)
  have hin3 : vp_in (nI j + 3) L := by rw [q_l3, nI_add]; exact vp_in_nI (by omega) (by omega)
  refine lv_aload_n hx hb d_L_427 rfl (lv_at hl 1 rfl) ?_
  refine lv_aload_n hx hb d_L_428 rfl (lv_at hl 0 rfl) ?_
  refine lv_iload_n hx hb d_L_429 rfl (lv_at hl 3 rfl) ?_
  refine lv_iconst (v := 1) hx hb d_L_430 (by decide) ?_
  refine lv_iadd hx hb d_L_431 ?_
  refine va_sld hx hb hX hbl hbA S.2.2.2.1 hin1 d_L_432 ?_
  refine lv_aload_n hx hb d_L_433 rfl (lv_at hl 0 rfl) ?_
  refine lv_iload_n hx hb d_L_434 rfl (lv_at hl 3 rfl) ?_
  refine lv_iconst (v := 2) hx hb d_L_435 (by decide) ?_
  refine lv_iadd hx hb d_L_436 ?_
  refine va_sld hx hb hX hbl hbA S.2.2.2.1 hin2 d_L_437 ?_
  refine lw_callCi (lw_runV (As := [.int (xs (nI j + 1).toNatClampNeg), .int (xs (nI j + 2).toNatClampNeg)]) (rest := []) CF (lw_cutC S) (qc_S_before l dC dI a k _ _ _ _ (t_before hI _ _) H.size) (cwV 2 CF.2.2.2.2 qo_L_69_S_before rfl rfl rfl qd_S_before ⟨Nat.le_of_ble_eq_true rfl, Nat.le_of_ble_eq_true rfl⟩) (va_recv (q0 := 0) (ci := 0) (lw_cutC S).2.2.1 (lw_cutC S).1 rfl rfl) rfl hl.1 rfl (Nat.le_of_ble_eq_true rfl) d_L_438 ⟨Nat.le_of_ble_eq_true rfl, Nat.le_of_ble_eq_true rfl⟩) S (fun r1 x1 H locs hw S => ?_)
  refine lv_aload_n hx hb d_L_441 rfl (lv_at hl 2 rfl) ?_
  refine lv_aload_n hx hb d_L_442 rfl (lv_at hl 0 rfl) ?_
  refine lv_iload_n hx hb d_L_443 rfl (lv_at hl 3 rfl) ?_
  refine lv_iconst (v := 1) hx hb d_L_444 (by decide) ?_
  refine lv_iadd hx hb d_L_445 ?_
  refine va_sld hx hb hX hbl hbA S.2.2.2.1 hin1 d_L_446 ?_
  refine lv_aload_n hx hb d_L_447 rfl (lv_at hl 0 rfl) ?_
  refine lv_iload_n hx hb d_L_448 rfl (lv_at hl 3 rfl) ?_
  refine lv_iconst (v := 2) hx hb d_L_449 (by decide) ?_
  refine lv_iadd hx hb d_L_450 ?_
  refine va_sld hx hb hX hbl hbA S.2.2.2.1 hin2 d_L_451 ?_
  refine lw_callMi (lw_runV (As := [.int (xs (nI j + 1).toNatClampNeg), .int (xs (nI j + 2).toNatClampNeg)]) (rest := [.int r1]) CF (lw_cutM S) (qc_M_before l dC dI a' k' _ _ _ _ hw H.size) (cwV 2 CF.2.2.2.2 qo_L_72_M_before rfl rfl rfl qd_M_before ⟨Nat.le_of_ble_eq_true rfl, Nat.le_of_ble_eq_true rfl⟩) (va_recv (q0 := 0) (ci := 4) (lw_cutM S).2.2.1 (lw_cutM S).1 rfl rfl) rfl hl.1 rfl (Nat.le_of_ble_eq_true rfl) d_L_452 ⟨Nat.le_of_ble_eq_true rfl, Nat.le_of_ble_eq_true rfl⟩) S (fun r2 y1 H locs hw S => ?_)
  refine lv_icmp_eq (tgt := 659) hx hb d_L_455 rfl (fun hc => ?_) (fun hc => ?_)
  · exact hrec _ _ _ _ _ hw.2 S hl
  exact absurd hw.1 hc
set_option maxHeartbeats 4000000 in
set_option maxRecDepth 100000 in
theorem lw_case14 {p : Program} {l : Launch} {e : Env} {s : State} {m : MethodId} {below : List Frame} {meth : Method} {c : Code} {b : Nat} {H : Heap} {locs : List Loc} {A : Nat → Prop} {dC : Nat → ClassId} {dI : Nat → Nat → Nat} {a a' : Nat → Nat} {k k' : Nat → ClassId} {x y : QX} {ls : Array Slot} {Q : State → Prop} {L j : Nat} {xs : Nat → Int32} (C0 : lw_At p s m meth c b L xs) (hL : L ≤ 2048) (hj : j + 4 ≤ L) (hbA : ¬ A b) (hI : INV x y) (S : q_LS dC dI a a' k k' A s x y H locs) (hl : lv_has ls 4 [(0, .ref b), (1, .ref (a 0)), (2, .ref (a' 0)), (3, .int (nI j))]) (hrec : ∀ (x y : QX) (H : Heap) (locs : List Loc) (ls : Array Slot), INV x y → q_LS dC dI a a' k k' A s x y H locs → lv_has ls 4 [(0, .ref b), (1, .ref (a 0)), (2, .ref (a' 0)), (3, .int (nI j))] → W p l e room_1 s m #[Value.ref b] below meth c H locs 29 11716 Q (F0 m 659 ls [])) : W p l e room_1 s m #[Value.ref b] below meth c H locs 29 11716 Q (F0 m 460 ls []) := by
  obtain ⟨hx, hb, hr, hml, hown, hts0, hX, hbl, hlocks, hgv⟩ := C0
  have CF : CallFix p m c code 4 s #[Value.ref b] qa_WG R_law := ⟨hx, hb, hml, hown, fun w hw => hts0 w (List.mem_filter.mp hw).1⟩
  have hin0 : vp_in (nI j) L := vp_in_nI (by omega) (by omega)
  have hin1 : vp_in (nI j + 1) L := by rw [q_l1, nI_add]; exact vp_in_nI (by omega) (by omega)
  have hin2 : vp_in (nI j + 2) L := by rw [q_l2, nI_add]; exact vp_in_nI (by omega) (by omega)
  have hin3 : vp_in (nI j + 3) L := by rw [q_l3, nI_add]; exact vp_in_nI (by omega) (by omega)
  refine lv_aload_n hx hb d_L_460 rfl (lv_at hl 1 rfl) ?_
  refine lv_aload_n hx hb d_L_461 rfl (lv_at hl 0 rfl) ?_
  refine lv_iload_n hx hb d_L_462 rfl (lv_at hl 3 rfl) ?_
  refine lv_iconst (v := 1) hx hb d_L_463 (by decide) ?_
  refine lv_iadd hx hb d_L_464 ?_
  refine va_sld hx hb hX hbl hbA S.2.2.2.1 hin1 d_L_465 ?_
  refine lv_aload_n hx hb d_L_466 rfl (lv_at hl 0 rfl) ?_
  refine lv_iload_n hx hb d_L_467 rfl (lv_at hl 3 rfl) ?_
  refine lv_iconst (v := 2) hx hb d_L_468 (by decide) ?_
  refine lv_iadd hx hb d_L_469 ?_
  refine va_sld hx hb hX hbl hbA S.2.2.2.1 hin2 d_L_470 ?_
  refine lw_callCi (lw_runV (As := [.int (xs (nI j + 1).toNatClampNeg), .int (xs (nI j + 2).toNatClampNeg)]) (rest := []) CF (lw_cutC S) (qc_S_visible l dC dI a k _ _ _ _ (t_visible hI _ _) H.size) (cwV 2 CF.2.2.2.2 qo_L_73_S_visible rfl rfl rfl qd_S_visible ⟨Nat.le_of_ble_eq_true rfl, Nat.le_of_ble_eq_true rfl⟩) (va_recv (q0 := 0) (ci := 0) (lw_cutC S).2.2.1 (lw_cutC S).1 rfl rfl) rfl hl.1 rfl (Nat.le_of_ble_eq_true rfl) d_L_471 ⟨Nat.le_of_ble_eq_true rfl, Nat.le_of_ble_eq_true rfl⟩) S (fun r1 x1 H locs hw S => ?_)
  refine lv_aload_n hx hb d_L_474 rfl (lv_at hl 2 rfl) ?_
  refine lv_aload_n hx hb d_L_475 rfl (lv_at hl 0 rfl) ?_
  refine lv_iload_n hx hb d_L_476 rfl (lv_at hl 3 rfl) ?_
  refine lv_iconst (v := 1) hx hb d_L_477 (by decide) ?_
  refine lv_iadd hx hb d_L_478 ?_
  refine va_sld hx hb hX hbl hbA S.2.2.2.1 hin1 d_L_479 ?_
  refine lv_aload_n hx hb d_L_480 rfl (lv_at hl 0 rfl) ?_
  refine lv_iload_n hx hb d_L_481 rfl (lv_at hl 3 rfl) ?_
  refine lv_iconst (v := 2) hx hb d_L_482 (by decide) ?_
  refine lv_iadd hx hb d_L_483 ?_
  refine va_sld hx hb hX hbl hbA S.2.2.2.1 hin2 d_L_484 ?_
  refine lw_callMi (lw_runV (As := [.int (xs (nI j + 1).toNatClampNeg), .int (xs (nI j + 2).toNatClampNeg)]) (rest := [.int r1]) CF (lw_cutM S) (qc_M_visible l dC dI a' k' _ _ _ _ hw H.size) (cwV 2 CF.2.2.2.2 qo_L_77_M_visible rfl rfl rfl qd_M_visible ⟨Nat.le_of_ble_eq_true rfl, Nat.le_of_ble_eq_true rfl⟩) (va_recv (q0 := 0) (ci := 4) (lw_cutM S).2.2.1 (lw_cutM S).1 rfl rfl) rfl hl.1 rfl (Nat.le_of_ble_eq_true rfl) d_L_485 ⟨Nat.le_of_ble_eq_true rfl, Nat.le_of_ble_eq_true rfl⟩) S (fun r2 y1 H locs hw S => ?_)
  refine lv_icmp_eq (tgt := 659) hx hb d_L_488 rfl (fun hc => ?_) (fun hc => ?_)
  · exact hrec _ _ _ _ _ hw.2 S hl
  exact absurd hw.1 hc
set_option maxHeartbeats 4000000 in
set_option maxRecDepth 100000 in
theorem lw_case15 {p : Program} {l : Launch} {e : Env} {s : State} {m : MethodId} {below : List Frame} {meth : Method} {c : Code} {b : Nat} {H : Heap} {locs : List Loc} {A : Nat → Prop} {dC : Nat → ClassId} {dI : Nat → Nat → Nat} {a a' : Nat → Nat} {k k' : Nat → ClassId} {x y : QX} {ls : Array Slot} {Q : State → Prop} {L j : Nat} {xs : Nat → Int32} (C0 : lw_At p s m meth c b L xs) (hL : L ≤ 2048) (hj : j + 4 ≤ L) (hbA : ¬ A b) (hI : INV x y) (S : q_LS dC dI a a' k k' A s x y H locs) (hl : lv_has ls 4 [(0, .ref b), (1, .ref (a 0)), (2, .ref (a' 0)), (3, .int (nI j))]) (hrec : ∀ (x y : QX) (H : Heap) (locs : List Loc) (ls : Array Slot), INV x y → q_LS dC dI a a' k k' A s x y H locs → lv_has ls 4 [(0, .ref b), (1, .ref (a 0)), (2, .ref (a' 0)), (3, .int (nI j))] → W p l e room_1 s m #[Value.ref b] below meth c H locs 29 11716 Q (F0 m 659 ls [])) : W p l e room_1 s m #[Value.ref b] below meth c H locs 29 11716 Q (F0 m 493 ls []) := by
  obtain ⟨hx, hb, hr, hml, hown, hts0, hX, hbl, hlocks, hgv⟩ := C0
  have CF : CallFix p m c code 4 s #[Value.ref b] qa_WG R_law := ⟨hx, hb, hml, hown, fun w hw => hts0 w (List.mem_filter.mp hw).1⟩
  have hin0 : vp_in (nI j) L := vp_in_nI (by omega) (by omega)
  have hin1 : vp_in (nI j + 1) L := by rw [q_l1, nI_add]; exact vp_in_nI (by omega) (by omega)
  have hin2 : vp_in (nI j + 2) L := by rw [q_l2, nI_add]; exact vp_in_nI (by omega) (by omega)
  have hin3 : vp_in (nI j + 3) L := by rw [q_l3, nI_add]; exact vp_in_nI (by omega) (by omega)
  refine lv_aload_n hx hb d_L_493 rfl (lv_at hl 1 rfl) ?_
  refine lv_aload_n hx hb d_L_494 rfl (lv_at hl 0 rfl) ?_
  refine lv_iload_n hx hb d_L_495 rfl (lv_at hl 3 rfl) ?_
  refine lv_iconst (v := 1) hx hb d_L_496 (by decide) ?_
  refine lv_iadd hx hb d_L_497 ?_
  refine va_sld hx hb hX hbl hbA S.2.2.2.1 hin1 d_L_498 ?_
  refine lw_callCi (lw_runV (As := [.int (xs (nI j + 1).toNatClampNeg)]) (rest := []) CF (lw_cutC S) (qc_S_working l dC dI a k _ _ _ (t_working hI _) H.size) (cwV 1 CF.2.2.2.2 qo_L_78_S_working rfl rfl rfl qd_S_working ⟨Nat.le_of_ble_eq_true rfl, Nat.le_of_ble_eq_true rfl⟩) (va_recv (q0 := 0) (ci := 0) (lw_cutC S).2.2.1 (lw_cutC S).1 rfl rfl) rfl hl.1 rfl (Nat.le_of_ble_eq_true rfl) d_L_499 ⟨Nat.le_of_ble_eq_true rfl, Nat.le_of_ble_eq_true rfl⟩) S (fun r1 x1 H locs hw S => ?_)
  refine lv_aload_n hx hb d_L_502 rfl (lv_at hl 2 rfl) ?_
  refine lv_aload_n hx hb d_L_503 rfl (lv_at hl 0 rfl) ?_
  refine lv_iload_n hx hb d_L_504 rfl (lv_at hl 3 rfl) ?_
  refine lv_iconst (v := 1) hx hb d_L_505 (by decide) ?_
  refine lv_iadd hx hb d_L_506 ?_
  refine va_sld hx hb hX hbl hbA S.2.2.2.1 hin1 d_L_507 ?_
  refine lw_callMi (lw_runV (As := [.int (xs (nI j + 1).toNatClampNeg)]) (rest := [.int r1]) CF (lw_cutM S) (qc_M_working l dC dI a' k' _ _ _ hw H.size) (cwV 1 CF.2.2.2.2 qo_L_81_M_working rfl rfl rfl qd_M_working ⟨Nat.le_of_ble_eq_true rfl, Nat.le_of_ble_eq_true rfl⟩) (va_recv (q0 := 0) (ci := 4) (lw_cutM S).2.2.1 (lw_cutM S).1 rfl rfl) rfl hl.1 rfl (Nat.le_of_ble_eq_true rfl) d_L_508 ⟨Nat.le_of_ble_eq_true rfl, Nat.le_of_ble_eq_true rfl⟩) S (fun r2 y1 H locs hw S => ?_)
  refine lv_icmp_eq (tgt := 659) hx hb d_L_511 rfl (fun hc => ?_) (fun hc => ?_)
  · exact hrec _ _ _ _ _ hw.2 S hl
  exact absurd hw.1 hc
set_option maxHeartbeats 4000000 in
set_option maxRecDepth 100000 in
theorem lw_case16 {p : Program} {l : Launch} {e : Env} {s : State} {m : MethodId} {below : List Frame} {meth : Method} {c : Code} {b : Nat} {H : Heap} {locs : List Loc} {A : Nat → Prop} {dC : Nat → ClassId} {dI : Nat → Nat → Nat} {a a' : Nat → Nat} {k k' : Nat → ClassId} {x y : QX} {ls : Array Slot} {Q : State → Prop} {L j : Nat} {xs : Nat → Int32} (C0 : lw_At p s m meth c b L xs) (hL : L ≤ 2048) (hj : j + 4 ≤ L) (hbA : ¬ A b) (hI : INV x y) (S : q_LS dC dI a a' k k' A s x y H locs) (hl : lv_has ls 4 [(0, .ref b), (1, .ref (a 0)), (2, .ref (a' 0)), (3, .int (nI j))]) (hrec : ∀ (x y : QX) (H : Heap) (locs : List Loc) (ls : Array Slot), INV x y → q_LS dC dI a a' k k' A s x y H locs → lv_has ls 4 [(0, .ref b), (1, .ref (a 0)), (2, .ref (a' 0)), (3, .int (nI j))] → W p l e room_1 s m #[Value.ref b] below meth c H locs 29 11716 Q (F0 m 659 ls [])) : W p l e room_1 s m #[Value.ref b] below meth c H locs 29 11716 Q (F0 m 516 ls []) := by
  obtain ⟨hx, hb, hr, hml, hown, hts0, hX, hbl, hlocks, hgv⟩ := C0
  have CF : CallFix p m c code 4 s #[Value.ref b] qa_WG R_law := ⟨hx, hb, hml, hown, fun w hw => hts0 w (List.mem_filter.mp hw).1⟩
  have hin0 : vp_in (nI j) L := vp_in_nI (by omega) (by omega)
  have hin1 : vp_in (nI j + 1) L := by rw [q_l1, nI_add]; exact vp_in_nI (by omega) (by omega)
  have hin2 : vp_in (nI j + 2) L := by rw [q_l2, nI_add]; exact vp_in_nI (by omega) (by omega)
  have hin3 : vp_in (nI j + 3) L := by rw [q_l3, nI_add]; exact vp_in_nI (by omega) (by omega)
  refine lv_aload_n hx hb d_L_516 rfl (lv_at hl 1 rfl) ?_
  refine lv_aload_n hx hb d_L_517 rfl (lv_at hl 0 rfl) ?_
  refine lv_iload_n hx hb d_L_518 rfl (lv_at hl 3 rfl) ?_
  refine lv_iconst (v := 1) hx hb d_L_519 (by decide) ?_
  refine lv_iadd hx hb d_L_520 ?_
  refine va_sld hx hb hX hbl hbA S.2.2.2.1 hin1 d_L_521 ?_
  refine lv_aload_n hx hb d_L_522 rfl (lv_at hl 0 rfl) ?_
  refine lv_iload_n hx hb d_L_523 rfl (lv_at hl 3 rfl) ?_
  refine lv_iconst (v := 2) hx hb d_L_524 (by decide) ?_
  refine lv_iadd hx hb d_L_525 ?_
  refine va_sld hx hb hX hbl hbA S.2.2.2.1 hin2 d_L_526 ?_
  refine lw_callCi (lw_runV (As := [.int (xs (nI j + 1).toNatClampNeg), .int (xs (nI j + 2).toNatClampNeg)]) (rest := []) CF (lw_cutC S) (qc_S_marked l dC dI a k _ _ _ _ (t_marked hI _ _) H.size) (cwV 2 CF.2.2.2.2 qo_L_82_S_marked rfl rfl rfl qd_S_marked ⟨Nat.le_of_ble_eq_true rfl, Nat.le_of_ble_eq_true rfl⟩) (va_recv (q0 := 0) (ci := 0) (lw_cutC S).2.2.1 (lw_cutC S).1 rfl rfl) rfl hl.1 rfl (Nat.le_of_ble_eq_true rfl) d_L_527 ⟨Nat.le_of_ble_eq_true rfl, Nat.le_of_ble_eq_true rfl⟩) S (fun r1 x1 H locs hw S => ?_)
  refine lv_aload_n hx hb d_L_530 rfl (lv_at hl 2 rfl) ?_
  refine lv_aload_n hx hb d_L_531 rfl (lv_at hl 0 rfl) ?_
  refine lv_iload_n hx hb d_L_532 rfl (lv_at hl 3 rfl) ?_
  refine lv_iconst (v := 1) hx hb d_L_533 (by decide) ?_
  refine lv_iadd hx hb d_L_534 ?_
  refine va_sld hx hb hX hbl hbA S.2.2.2.1 hin1 d_L_535 ?_
  refine lv_aload_n hx hb d_L_536 rfl (lv_at hl 0 rfl) ?_
  refine lv_iload_n hx hb d_L_537 rfl (lv_at hl 3 rfl) ?_
  refine lv_iconst (v := 2) hx hb d_L_538 (by decide) ?_
  refine lv_iadd hx hb d_L_539 ?_
  refine va_sld hx hb hX hbl hbA S.2.2.2.1 hin2 d_L_540 ?_
  refine lw_callMi (lw_runV (As := [.int (xs (nI j + 1).toNatClampNeg), .int (xs (nI j + 2).toNatClampNeg)]) (rest := [.int r1]) CF (lw_cutM S) (qc_M_marked l dC dI a' k' _ _ _ _ hw H.size) (cwV 2 CF.2.2.2.2 qo_L_85_M_marked rfl rfl rfl qd_M_marked ⟨Nat.le_of_ble_eq_true rfl, Nat.le_of_ble_eq_true rfl⟩) (va_recv (q0 := 0) (ci := 4) (lw_cutM S).2.2.1 (lw_cutM S).1 rfl rfl) rfl hl.1 rfl (Nat.le_of_ble_eq_true rfl) d_L_541 ⟨Nat.le_of_ble_eq_true rfl, Nat.le_of_ble_eq_true rfl⟩) S (fun r2 y1 H locs hw S => ?_)
  refine lv_icmp_eq (tgt := 659) hx hb d_L_544 rfl (fun hc => ?_) (fun hc => ?_)
  · exact hrec _ _ _ _ _ hw.2 S hl
  exact absurd hw.1 hc
set_option maxHeartbeats 4000000 in
set_option maxRecDepth 100000 in
theorem lw_case17 {p : Program} {l : Launch} {e : Env} {s : State} {m : MethodId} {below : List Frame} {meth : Method} {c : Code} {b : Nat} {H : Heap} {locs : List Loc} {A : Nat → Prop} {dC : Nat → ClassId} {dI : Nat → Nat → Nat} {a a' : Nat → Nat} {k k' : Nat → ClassId} {x y : QX} {ls : Array Slot} {Q : State → Prop} {L j : Nat} {xs : Nat → Int32} (C0 : lw_At p s m meth c b L xs) (hL : L ≤ 2048) (hj : j + 4 ≤ L) (hbA : ¬ A b) (hI : INV x y) (S : q_LS dC dI a a' k k' A s x y H locs) (hl : lv_has ls 4 [(0, .ref b), (1, .ref (a 0)), (2, .ref (a' 0)), (3, .int (nI j))]) (hrec : ∀ (x y : QX) (H : Heap) (locs : List Loc) (ls : Array Slot), INV x y → q_LS dC dI a a' k k' A s x y H locs → lv_has ls 4 [(0, .ref b), (1, .ref (a 0)), (2, .ref (a' 0)), (3, .int (nI j))] → W p l e room_1 s m #[Value.ref b] below meth c H locs 29 11716 Q (F0 m 659 ls [])) : W p l e room_1 s m #[Value.ref b] below meth c H locs 29 11716 Q (F0 m 549 ls []) := by
  obtain ⟨hx, hb, hr, hml, hown, hts0, hX, hbl, hlocks, hgv⟩ := C0
  have CF : CallFix p m c code 4 s #[Value.ref b] qa_WG R_law := ⟨hx, hb, hml, hown, fun w hw => hts0 w (List.mem_filter.mp hw).1⟩
  have hin0 : vp_in (nI j) L := vp_in_nI (by omega) (by omega)
  have hin1 : vp_in (nI j + 1) L := by rw [q_l1, nI_add]; exact vp_in_nI (by omega) (by omega)
  have hin2 : vp_in (nI j + 2) L := by rw [q_l2, nI_add]; exact vp_in_nI (by omega) (by omega)
  have hin3 : vp_in (nI j + 3) L := by rw [q_l3, nI_add]; exact vp_in_nI (by omega) (by omega)
  refine lv_aload_n hx hb d_L_549 rfl (lv_at hl 1 rfl) ?_
  refine lv_aload_n hx hb d_L_550 rfl (lv_at hl 0 rfl) ?_
  refine lv_iload_n hx hb d_L_551 rfl (lv_at hl 3 rfl) ?_
  refine lv_iconst (v := 1) hx hb d_L_552 (by decide) ?_
  refine lv_iadd hx hb d_L_553 ?_
  refine va_sld hx hb hX hbl hbA S.2.2.2.1 hin1 d_L_554 ?_
  refine lv_aload_n hx hb d_L_555 rfl (lv_at hl 0 rfl) ?_
  refine lv_iload_n hx hb d_L_556 rfl (lv_at hl 3 rfl) ?_
  refine lv_iconst (v := 2) hx hb d_L_557 (by decide) ?_
  refine lv_iadd hx hb d_L_558 ?_
  refine va_sld hx hb hX hbl hbA S.2.2.2.1 hin2 d_L_559 ?_
  refine lw_callCi (lw_runV (As := [.int (xs (nI j + 1).toNatClampNeg), .int (xs (nI j + 2).toNatClampNeg)]) (rest := []) CF (lw_cutC S) (qc_S_head l dC dI a k _ _ _ _ (t_heads hI _ _) H.size) (cwV 2 CF.2.2.2.2 qo_L_86_S_head rfl rfl rfl qd_S_head ⟨Nat.le_of_ble_eq_true rfl, Nat.le_of_ble_eq_true rfl⟩) (va_recv (q0 := 0) (ci := 0) (lw_cutC S).2.2.1 (lw_cutC S).1 rfl rfl) rfl hl.1 rfl (Nat.le_of_ble_eq_true rfl) d_L_560 ⟨Nat.le_of_ble_eq_true rfl, Nat.le_of_ble_eq_true rfl⟩) S (fun r1 x1 H locs hw S => ?_)
  refine lv_aload_n hx hb d_L_563 rfl (lv_at hl 2 rfl) ?_
  refine lv_aload_n hx hb d_L_564 rfl (lv_at hl 0 rfl) ?_
  refine lv_iload_n hx hb d_L_565 rfl (lv_at hl 3 rfl) ?_
  refine lv_iconst (v := 1) hx hb d_L_566 (by decide) ?_
  refine lv_iadd hx hb d_L_567 ?_
  refine va_sld hx hb hX hbl hbA S.2.2.2.1 hin1 d_L_568 ?_
  refine lv_aload_n hx hb d_L_569 rfl (lv_at hl 0 rfl) ?_
  refine lv_iload_n hx hb d_L_570 rfl (lv_at hl 3 rfl) ?_
  refine lv_iconst (v := 2) hx hb d_L_571 (by decide) ?_
  refine lv_iadd hx hb d_L_572 ?_
  refine va_sld hx hb hX hbl hbA S.2.2.2.1 hin2 d_L_573 ?_
  refine lw_callMi (lw_runV (As := [.int (xs (nI j + 1).toNatClampNeg), .int (xs (nI j + 2).toNatClampNeg)]) (rest := [.int r1]) CF (lw_cutM S) (qc_M_head l dC dI a' k' _ _ _ _ hw H.size) (cwV 2 CF.2.2.2.2 qo_L_89_M_head rfl rfl rfl qd_M_head ⟨Nat.le_of_ble_eq_true rfl, Nat.le_of_ble_eq_true rfl⟩) (va_recv (q0 := 0) (ci := 4) (lw_cutM S).2.2.1 (lw_cutM S).1 rfl rfl) rfl hl.1 rfl (Nat.le_of_ble_eq_true rfl) d_L_574 ⟨Nat.le_of_ble_eq_true rfl, Nat.le_of_ble_eq_true rfl⟩) S (fun r2 y1 H locs hw S => ?_)
  refine lv_icmp_eq (tgt := 659) hx hb d_L_577 rfl (fun hc => ?_) (fun hc => ?_)
  · exact hrec _ _ _ _ _ hw.2 S hl
  exact absurd hw.1 hc
set_option maxHeartbeats 4000000 in
set_option maxRecDepth 100000 in
theorem lw_case18 {p : Program} {l : Launch} {e : Env} {s : State} {m : MethodId} {below : List Frame} {meth : Method} {c : Code} {b : Nat} {H : Heap} {locs : List Loc} {A : Nat → Prop} {dC : Nat → ClassId} {dI : Nat → Nat → Nat} {a a' : Nat → Nat} {k k' : Nat → ClassId} {x y : QX} {ls : Array Slot} {Q : State → Prop} {L j : Nat} {xs : Nat → Int32} (C0 : lw_At p s m meth c b L xs) (hL : L ≤ 2048) (hj : j + 4 ≤ L) (hbA : ¬ A b) (hI : INV x y) (S : q_LS dC dI a a' k k' A s x y H locs) (hl : lv_has ls 4 [(0, .ref b), (1, .ref (a 0)), (2, .ref (a' 0)), (3, .int (nI j))]) (hrec : ∀ (x y : QX) (H : Heap) (locs : List Loc) (ls : Array Slot), INV x y → q_LS dC dI a a' k k' A s x y H locs → lv_has ls 4 [(0, .ref b), (1, .ref (a 0)), (2, .ref (a' 0)), (3, .int (nI j))] → W p l e room_1 s m #[Value.ref b] below meth c H locs 29 11716 Q (F0 m 659 ls [])) : W p l e room_1 s m #[Value.ref b] below meth c H locs 29 11716 Q (F0 m 582 ls []) := by
  obtain ⟨hx, hb, hr, hml, hown, hts0, hX, hbl, hlocks, hgv⟩ := C0
  have CF : CallFix p m c code 4 s #[Value.ref b] qa_WG R_law := ⟨hx, hb, hml, hown, fun w hw => hts0 w (List.mem_filter.mp hw).1⟩
  have hin0 : vp_in (nI j) L := vp_in_nI (by omega) (by omega)
  have hin1 : vp_in (nI j + 1) L := by rw [q_l1, nI_add]; exact vp_in_nI (by omega) (by omega)
  have hin2 : vp_in (nI j + 2) L := by rw [q_l2, nI_add]; exact vp_in_nI (by omega) (by omega)
  have hin3 : vp_in (nI j + 3) L := by rw [q_l3, nI_add]; exact vp_in_nI (by omega) (by omega)
  refine lv_aload_n hx hb d_L_582 rfl (lv_at hl 1 rfl) ?_
  refine lv_aload_n hx hb d_L_583 rfl (lv_at hl 0 rfl) ?_
  refine lv_iload_n hx hb d_L_584 rfl (lv_at hl 3 rfl) ?_
  refine lv_iconst (v := 1) hx hb d_L_585 (by decide) ?_
  refine lv_iadd hx hb d_L_586 ?_
  refine va_sld hx hb hX hbl hbA S.2.2.2.1 hin1 d_L_587 ?_
  refine lv_aload_n hx hb d_L_588 rfl (lv_at hl 0 rfl) ?_
  refine lv_iload_n hx hb d_L_589 rfl (lv_at hl 3 rfl) ?_
  refine lv_iconst (v := 2) hx hb d_L_590 (by decide) ?_
  refine lv_iadd hx hb d_L_591 ?_
  refine va_sld hx hb hX hbl hbA S.2.2.2.1 hin2 d_L_592 ?_
  refine lw_callCi (lw_runV (As := [.int (xs (nI j + 1).toNatClampNeg), .int (xs (nI j + 2).toNatClampNeg)]) (rest := []) CF (lw_cutC S) (qc_S_commit l dC dI a k _ _ _ _ (t_commit hI _ _) H.size) (cwV 2 CF.2.2.2.2 qo_L_90_S_commit rfl rfl rfl qd_S_commit ⟨Nat.le_of_ble_eq_true rfl, Nat.le_of_ble_eq_true rfl⟩) (va_recv (q0 := 0) (ci := 0) (lw_cutC S).2.2.1 (lw_cutC S).1 rfl rfl) rfl hl.1 rfl (Nat.le_of_ble_eq_true rfl) d_L_593 ⟨Nat.le_of_ble_eq_true rfl, Nat.le_of_ble_eq_true rfl⟩) S (fun r1 x1 H locs hw S => ?_)
  refine lv_aload_n hx hb d_L_596 rfl (lv_at hl 2 rfl) ?_
  refine lv_aload_n hx hb d_L_597 rfl (lv_at hl 0 rfl) ?_
  refine lv_iload_n hx hb d_L_598 rfl (lv_at hl 3 rfl) ?_
  refine lv_iconst (v := 1) hx hb d_L_599 (by decide) ?_
  refine lv_iadd hx hb d_L_600 ?_
  refine va_sld hx hb hX hbl hbA S.2.2.2.1 hin1 d_L_601 ?_
  refine lv_aload_n hx hb d_L_602 rfl (lv_at hl 0 rfl) ?_
  refine lv_iload_n hx hb d_L_603 rfl (lv_at hl 3 rfl) ?_
  refine lv_iconst (v := 2) hx hb d_L_604 (by decide) ?_
  refine lv_iadd hx hb d_L_605 ?_
  refine va_sld hx hb hX hbl hbA S.2.2.2.1 hin2 d_L_606 ?_
  refine lw_callMi (lw_runV (As := [.int (xs (nI j + 1).toNatClampNeg), .int (xs (nI j + 2).toNatClampNeg)]) (rest := [.int r1]) CF (lw_cutM S) (qc_M_commit l dC dI a' k' _ _ _ _ hw H.size) (cwV 2 CF.2.2.2.2 qo_L_93_M_commit rfl rfl rfl qd_M_commit ⟨Nat.le_of_ble_eq_true rfl, Nat.le_of_ble_eq_true rfl⟩) (va_recv (q0 := 0) (ci := 4) (lw_cutM S).2.2.1 (lw_cutM S).1 rfl rfl) rfl hl.1 rfl (Nat.le_of_ble_eq_true rfl) d_L_607 ⟨Nat.le_of_ble_eq_true rfl, Nat.le_of_ble_eq_true rfl⟩) S (fun r2 y1 H locs hw S => ?_)
  refine lv_icmp_eq (tgt := 659) hx hb d_L_610 rfl (fun hc => ?_) (fun hc => ?_)
  · exact hrec _ _ _ _ _ hw.2 S hl
  exact absurd hw.1 hc
set_option maxHeartbeats 4000000 in
set_option maxRecDepth 100000 in
theorem lw_case19 {p : Program} {l : Launch} {e : Env} {s : State} {m : MethodId} {below : List Frame} {meth : Method} {c : Code} {b : Nat} {H : Heap} {locs : List Loc} {A : Nat → Prop} {dC : Nat → ClassId} {dI : Nat → Nat → Nat} {a a' : Nat → Nat} {k k' : Nat → ClassId} {x y : QX} {ls : Array Slot} {Q : State → Prop} {L j : Nat} {xs : Nat → Int32} (C0 : lw_At p s m meth c b L xs) (hL : L ≤ 2048) (hj : j + 4 ≤ L) (hbA : ¬ A b) (hI : INV x y) (S : q_LS dC dI a a' k k' A s x y H locs) (hl : lv_has ls 4 [(0, .ref b), (1, .ref (a 0)), (2, .ref (a' 0)), (3, .int (nI j))]) (hrec : ∀ (x y : QX) (H : Heap) (locs : List Loc) (ls : Array Slot), INV x y → q_LS dC dI a a' k k' A s x y H locs → lv_has ls 4 [(0, .ref b), (1, .ref (a 0)), (2, .ref (a' 0)), (3, .int (nI j))] → W p l e room_1 s m #[Value.ref b] below meth c H locs 29 11716 Q (F0 m 659 ls [])) : W p l e room_1 s m #[Value.ref b] below meth c H locs 29 11716 Q (F0 m 615 ls []) := by
  obtain ⟨hx, hb, hr, hml, hown, hts0, hX, hbl, hlocks, hgv⟩ := C0
  have CF : CallFix p m c code 4 s #[Value.ref b] qa_WG R_law := ⟨hx, hb, hml, hown, fun w hw => hts0 w (List.mem_filter.mp hw).1⟩
  have hin0 : vp_in (nI j) L := vp_in_nI (by omega) (by omega)
  have hin1 : vp_in (nI j + 1) L := by rw [q_l1, nI_add]; exact vp_in_nI (by omega) (by omega)
  have hin2 : vp_in (nI j + 2) L := by rw [q_l2, nI_add]; exact vp_in_nI (by omega) (by omega)
  have hin3 : vp_in (nI j + 3) L := by rw [q_l3, nI_add]; exact vp_in_nI (by omega) (by omega)
  refine lv_aload_n hx hb d_L_615 rfl (lv_at hl 1 rfl) ?_
  refine lv_aload_n hx hb d_L_616 rfl (lv_at hl 0 rfl) ?_
  refine lv_iload_n hx hb d_L_617 rfl (lv_at hl 3 rfl) ?_
  refine lv_iconst (v := 1) hx hb d_L_618 (by decide) ?_
  refine lv_iadd hx hb d_L_619 ?_
  refine va_sld hx hb hX hbl hbA S.2.2.2.1 hin1 d_L_620 ?_
  refine lv_aload_n hx hb d_L_621 rfl (lv_at hl 0 rfl) ?_
  refine lv_iload_n hx hb d_L_622 rfl (lv_at hl 3 rfl) ?_
  refine lv_iconst (v := 2) hx hb d_L_623 (by decide) ?_
  refine lv_iadd hx hb d_L_624 ?_
  refine va_sld hx hb hX hbl hbA S.2.2.2.1 hin2 d_L_625 ?_
  refine lv_aload_n hx hb d_L_626 rfl (lv_at hl 0 rfl) ?_
  refine lv_iload_n hx hb d_L_627 rfl (lv_at hl 3 rfl) ?_
  refine lv_iconst (v := 3) hx hb d_L_628 (by decide) ?_
  refine lv_iadd hx hb d_L_629 ?_
  refine va_sld hx hb hX hbl hbA S.2.2.2.1 hin3 d_L_630 ?_
  refine lw_callCl (lw_runV (As := [.int (xs (nI j + 1).toNatClampNeg), .int (xs (nI j + 2).toNatClampNeg), .int (xs (nI j + 3).toNatClampNeg)]) (rest := []) CF (lw_cutC S) (qc_S_count l dC dI a k _ _ _ _ _ (t_count hI _ _ _) H.size) (cwV 3 CF.2.2.2.2 qo_L_94_S_count rfl rfl rfl qd_S_count ⟨Nat.le_of_ble_eq_true rfl, Nat.le_of_ble_eq_true rfl⟩) (va_recv (q0 := 0) (ci := 0) (lw_cutC S).2.2.1 (lw_cutC S).1 rfl rfl) rfl hl.1 rfl (Nat.le_of_ble_eq_true rfl) d_L_631 ⟨Nat.le_of_ble_eq_true rfl, Nat.le_of_ble_eq_true rfl⟩) S (fun r1 x1 H locs hw S => ?_)
  refine lv_aload_n hx hb d_L_634 rfl (lv_at hl 2 rfl) ?_
  refine lv_aload_n hx hb d_L_635 rfl (lv_at hl 0 rfl) ?_
  refine lv_iload_n hx hb d_L_636 rfl (lv_at hl 3 rfl) ?_
  refine lv_iconst (v := 1) hx hb d_L_637 (by decide) ?_
  refine lv_iadd hx hb d_L_638 ?_
  refine va_sld hx hb hX hbl hbA S.2.2.2.1 hin1 d_L_639 ?_
  refine lv_aload_n hx hb d_L_640 rfl (lv_at hl 0 rfl) ?_
  refine lv_iload_n hx hb d_L_641 rfl (lv_at hl 3 rfl) ?_
  refine lv_iconst (v := 2) hx hb d_L_642 (by decide) ?_
  refine lv_iadd hx hb d_L_643 ?_
  refine va_sld hx hb hX hbl hbA S.2.2.2.1 hin2 d_L_644 ?_
  refine lv_aload_n hx hb d_L_645 rfl (lv_at hl 0 rfl) ?_
  refine lv_iload_n hx hb d_L_646 rfl (lv_at hl 3 rfl) ?_
  refine lv_iconst (v := 3) hx hb d_L_647 (by decide) ?_
  refine lv_iadd hx hb d_L_648 ?_
  refine va_sld hx hb hX hbl hbA S.2.2.2.1 hin3 d_L_649 ?_
  refine lw_callMl (lw_runV (As := [.int (xs (nI j + 1).toNatClampNeg), .int (xs (nI j + 2).toNatClampNeg), .int (xs (nI j + 3).toNatClampNeg)]) (rest := [.long r1]) CF (lw_cutM S) (qc_M_count l dC dI a' k' _ _ _ _ _ hw H.size) (cwV 3 CF.2.2.2.2 qo_L_98_M_count rfl rfl rfl qd_M_count ⟨Nat.le_of_ble_eq_true rfl, Nat.le_of_ble_eq_true rfl⟩) (va_recv (q0 := 0) (ci := 4) (lw_cutM S).2.2.1 (lw_cutM S).1 rfl rfl) rfl hl.1 rfl (Nat.le_of_ble_eq_true rfl) d_L_650 ⟨Nat.le_of_ble_eq_true rfl, Nat.le_of_ble_eq_true rfl⟩) S (fun r2 y1 H locs hw S => ?_)
  refine W.lcmp hx hb d_L_653 ?_
  refine lv_if_eq (tgt := 659) hx hb d_L_654 rfl (fun hc => ?_) (fun hc => ?_)
  · exact hrec _ _ _ _ _ hw.2 S hl
  exact absurd ((lg_eq _ _).mpr hw.1) hc
