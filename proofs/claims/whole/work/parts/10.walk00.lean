set_option maxHeartbeats 4000000 in
set_option maxRecDepth 100000 in
theorem qc_S_bit (l : Launch) (dC : Nat → ClassId) (dI : Nat → Nat → Nat) (a : Nat → Nat) (k : Nat → ClassId) (p1 : Int32) (x : QX) (post : Int64 → QX → Prop) (hw : qw_S_bit p1 x post) : qa_Cl l y_S_bit qv_S_bit qr_S_bit (dC, dI) classes (qC_t k) (qC_w a k) [.int p1] x post := by
  refine qa_ofWl (by decide) (Nat.le_of_ble_eq_true rfl) ?_
  intro p e s m args below meth c A H locs ls C S hl
  replace hl : lv_has ls 1 [(0, .int p1)] := hl
  have hx := C.1
  have hb := C.2.1
  unfold qw_S_bit at hw
  refine lv_lconst (v := 1) hx hb d_S_bit_0 (by decide) ?_
  refine lv_iload_n hx hb d_S_bit_1 rfl (lv_at hl 0 rfl) ?_
  refine lv_lshl hx hb d_S_bit_2 rfl ?_
  exact qa_retl C S hw d_S_bit_3
set_option maxHeartbeats 4000000 in
set_option maxRecDepth 100000 in
theorem qk_A_fill_H5 {p : Program} {l : Launch} {e : Env} {s : State} {m : MethodId} {args : Array Value} {below : List Frame} {meth : Method} {c : Code} {A : Nat → Prop} {dC : Nat → ClassId} {dI : Nat → Nat → Nat} {a : Nat → Nat} {k : Nat → ClassId} (C : qa_X p s m args meth c b_A_fill 4 none R_A)  (post : QX → Prop)  : ∀ (n : Nat), ∀ (v1 : Int32) (v2 : Int32) (v3 : Int32) (x : QX) (H : Heap) (locs : List Loc) (ls : Array Slot), qw_A_fill_H5  post n v1 v2 v3 x → qa_S (dC, dI) classes (qC_t k) (qC_w a k) A s x H locs → lv_has ls 4 [(0, .ref (a 14)), (1, .int v1), (2, .int v2), (3, .int v3)] → W p l e qr_A_fill s m args below meth c H locs 0 0 (MQ below (va_Qv post (qa_B (dC, dI) classes (qC_t k) (qC_w a k) A) A) args s 0 0 A) (F0 m 5 ls []) := by
  have hx := C.1
  have hb := C.2.1
  intro n
  induction n with
  | zero => intro v1 v2 v3 x H locs ls hw S hl; exact False.elim hw
  | succ n ih =>
    intro v1 v2 v3 x H locs ls hw S hl
    replace hw : qw_A_fill_S5  post (qw_A_fill_H5  post n) v1 v2 v3 x := hw
    unfold qw_A_fill_S5 at hw
    refine lv_iload_n hx hb d_A_fill_5 rfl (lv_at hl 2 rfl) ?_
    refine lv_iload_n hx hb d_A_fill_6 rfl (lv_at hl 3 rfl) ?_
    refine lv_icmp_ge (tgt := 20) hx hb d_A_fill_7 rfl (fun hc => ?_) (fun hc => ?_)
    · replace hw := hw.1 hc
      exact qa_retv C S hw d_A_fill_20
    replace hw := hw.2 hc
    refine lv_aload_n hx hb d_A_fill_10 rfl (lv_at hl 0 rfl) ?_
    refine lv_iload_n hx hb d_A_fill_11 rfl (lv_at hl 2 rfl) ?_
    refine lv_iload_n hx hb d_A_fill_12 rfl (lv_at hl 1 rfl) ?_
    obtain ⟨hi, hw⟩ := hw
    refine qt_C_replacements C S hi d_A_fill_13 (fun x1 H locs ex1 S => ?_)
    replace hw := hw x1 ex1
    refine lv_iinc (k := 2) (v := v2 + 1) (lv' := [(2, .int (v2 + 1)), (0, .ref (a 14)), (1, .int v1), (3, .int v3)]) hx hb d_A_fill_14 hl rfl rfl (by decide) rfl (fun ls hl => ?_)
    refine lv_goto (tgt := 5) hx hb d_A_fill_17 rfl ?_
    exact ih _ _ _ _ _ _ _ hw S (lv_sub hl [1, 2, 0, 3] rfl)
set_option maxHeartbeats 4000000 in
set_option maxRecDepth 100000 in
theorem qc_A_fill (l : Launch) (dC : Nat → ClassId) (dI : Nat → Nat → Nat) (a : Nat → Nat) (k : Nat → ClassId) (p2 : Int32) (x : QX) (post : QX → Prop) (hw : qw_A_fill p2 x post) : qa_Cv l y_A_fill qv_A_fill qr_A_fill (dC, dI) classes (qC_t k) (qC_w a k) [.ref (a 14), .int p2] x post := by
  refine qa_ofWv (by decide) (Nat.le_of_ble_eq_true rfl) ?_
  intro p e s m args below meth c A H locs ls C S hl
  replace hl : lv_has ls 4 [(0, .ref (a 14)), (1, .int p2)] := hl
  have hx := C.1
  have hb := C.2.1
  unfold qw_A_fill at hw
  refine lv_iconst (v := 0) hx hb d_A_fill_0 (by decide) ?_
  refine lv_istore_n (lv' := [(2, .int (0 : Int32)), (0, .ref (a 14)), (1, .int p2)]) hx hb d_A_fill_1 rfl hl (by decide) rfl (fun ls hl => ?_)
  refine lv_aload_n hx hb d_A_fill_2 rfl (lv_at hl 1 rfl) ?_
  refine qn_C_replacements C S d_A_fill_3 ?_
  refine lv_istore_n (lv' := [(3, .int (60 : Int32)), (2, .int (0 : Int32)), (0, .ref (a 14)), (1, .int p2)]) hx hb d_A_fill_4 rfl hl (by decide) rfl (fun ls hl => ?_)
  exact qk_A_fill_H5 C post qFU _ _ _ _ _ _ _ hw S (lv_sub hl [2, 3, 1, 0] rfl)
set_option maxHeartbeats 4000000 in
set_option maxRecDepth 100000 in
theorem qc_D_start (l : Launch) (dC : Nat → ClassId) (dI : Nat → Nat → Nat) (a : Nat → Nat) (k : Nat → ClassId)  (x : QX) (post : QX → Prop) (hw : qw_D_start  x post) : qa_Cv l y_D_start qv_D_start qr_D_start (dC, dI) classes (qC_t k) (qC_w a k) [.ref (a 3)] x post := by
  refine qa_ofWv (by decide) (Nat.le_of_ble_eq_true rfl) ?_
  intro p e s m args below meth c A H locs ls C S hl
  replace hl : lv_has ls 1 [(0, .ref (a 3))] := hl
  have hx := C.1
  have hb := C.2.1
  unfold qw_D_start at hw
  refine lv_aload_n hx hb d_D_start_0 rfl (lv_at hl 0 rfl) ?_
  refine qf_C_D_replacements C S qh_79 d_D_start_1 ?_
  refine lv_iconst (v := -1) hx hb d_D_start_4 (by decide) ?_
  refine qa_callv (qa_runS (As := [.ref (a 14), .int (-1 : Int32)]) (rest := []) C S (qc_A_fill l dC dI a k _ _ _ hw H.size) ⟨callB_of 2 C.2.2.2.2.1 qo_A_fill rfl rfl rfl (C.2.2.2.2.1 _ qh_6) (C.2.2.2.2.1 _ qh_135) qd_A_fill.2 ⟨Nat.le_of_ble_eq_true rfl, Nat.le_of_ble_eq_true rfl⟩, C.2.2.2.2.1 _ qh_136⟩ rfl hl.1 rfl (Nat.le_of_ble_eq_true rfl) d_D_start_5) S (fun x1 H locs hw S => ?_)
  refine lv_aload_n hx hb d_D_start_8 rfl (lv_at hl 0 rfl) ?_
  refine lv_aload_n hx hb d_D_start_9 rfl (lv_at hl 0 rfl) ?_
  refine qf_C_D_commits C S qh_75 d_D_start_10 ?_
  refine qfN_C_C_size C S qh_26 d_D_start_13 ?_
  refine qp_C_D_commitsAtOpening C S qh_85 d_D_start_16 (fun x2 H locs ex2 S => ?_)
  replace hw := hw x2 ex2
  exact qa_retv C S hw d_D_start_19
set_option maxHeartbeats 4000000 in
set_option maxRecDepth 100000 in
theorem qc_O_has (l : Launch) (dC : Nat → ClassId) (dI : Nat → Nat → Nat) (a : Nat → Nat) (k : Nat → ClassId) (p1 : Int32) (x : QX) (post : Int32 → QX → Prop) (hw : qw_O_has p1 x post) : qa_Ci l y_O_has qv_O_has qr_O_has (dC, dI) classes (qC_t k) (qC_w a k) [.ref (a 2), .int p1] x post := by
  refine qa_ofWi (by decide) (Nat.le_of_ble_eq_true rfl) ?_
  intro p e s m args below meth c A H locs ls C S hl
  replace hl : lv_has ls 2 [(0, .ref (a 2)), (1, .int p1)] := hl
  have hx := C.1
  have hb := C.2.1
  unfold qw_O_has at hw
  refine lv_iload_n hx hb d_O_has_0 rfl (lv_at hl 1 rfl) ?_
  refine lv_if_lt (tgt := 16) hx hb d_O_has_1 rfl (fun hc => ?_) (fun hc => ?_)
  · replace hw := hw.1 hc
    refine lv_iconst (v := 0) hx hb d_O_has_16 (by decide) ?_
    exact qa_retz C S ⟨by decide, hw⟩ d_O_has_17
  replace hw := hw.2 hc
  refine lv_iload_n hx hb d_O_has_4 rfl (lv_at hl 1 rfl) ?_
  refine lv_aload_n hx hb d_O_has_5 rfl (lv_at hl 0 rfl) ?_
  refine qf_C_O_size C S qh_55 d_O_has_6 ?_
  refine lv_icmp_ge (tgt := 16) hx hb d_O_has_9 rfl (fun hc => ?_) (fun hc => ?_)
  · replace hw := hw.1 hc
    refine lv_iconst (v := 0) hx hb d_O_has_16 (by decide) ?_
    exact qa_retz C S ⟨by decide, hw⟩ d_O_has_17
  replace hw := hw.2 hc
  refine lv_iconst (v := 1) hx hb d_O_has_12 (by decide) ?_
  refine lv_goto (tgt := 17) hx hb d_O_has_13 rfl ?_
  exact qa_retz C S ⟨by decide, hw⟩ d_O_has_17
set_option maxHeartbeats 4000000 in
set_option maxRecDepth 100000 in
theorem qc_O_shownIn (l : Launch) (dC : Nat → ClassId) (dI : Nat → Nat → Nat) (a : Nat → Nat) (k : Nat → ClassId) (p1 : Int32) (x : QX) (post : Int64 → QX → Prop) (hw : qw_O_shownIn p1 x post) : qa_Cl l y_O_shownIn qv_O_shownIn qr_O_shownIn (dC, dI) classes (qC_t k) (qC_w a k) [.ref (a 2), .int p1] x post := by
  refine qa_ofWl (by decide) (Nat.le_of_ble_eq_true rfl) ?_
  intro p e s m args below meth c A H locs ls C S hl
  replace hl : lv_has ls 2 [(0, .ref (a 2)), (1, .int p1)] := hl
  have hx := C.1
  have hb := C.2.1
  unfold qw_O_shownIn at hw
  refine lv_aload_n hx hb d_O_shownIn_0 rfl (lv_at hl 0 rfl) ?_
  refine lv_iload_n hx hb d_O_shownIn_1 rfl (lv_at hl 1 rfl) ?_
  refine qa_calli (qa_runV (As := [.int p1]) (rest := []) C S (qc_O_has l dC dI a k _ _ _ hw H.size) (cwV 1 C.2.2.2.2.1 qo_O_36_O_has rfl rfl rfl qd_O_has ⟨Nat.le_of_ble_eq_true rfl, Nat.le_of_ble_eq_true rfl⟩) (va_recv (q0 := 2) (ci := 2) S.2.2.1 S.1 rfl rfl) rfl hl.1 rfl (Nat.le_of_ble_eq_true rfl) d_O_shownIn_2) S (fun r2 x1 H locs hw S => ?_)
  refine lv_if_eq (tgt := 17) hx hb d_O_shownIn_5 rfl (fun hc => ?_) (fun hc => ?_)
  · replace hw := hw.1 hc
    refine lv_lconst (v := 0) hx hb d_O_shownIn_17 (by decide) ?_
    exact qa_retl C S hw d_O_shownIn_18
  replace hw := hw.2 hc
  refine lv_aload_n hx hb d_O_shownIn_8 rfl (lv_at hl 0 rfl) ?_
  refine qf_C_O_shown C S qh_52 d_O_shownIn_9 ?_
  refine lv_iload_n hx hb d_O_shownIn_12 rfl (lv_at hl 1 rfl) ?_
  obtain ⟨hi, hw⟩ := hw
  refine qe_C_oshown C S hi d_O_shownIn_13 ?_
  refine lv_goto (tgt := 18) hx hb d_O_shownIn_14 rfl ?_
  exact qa_retl C S hw d_O_shownIn_18
set_option maxHeartbeats 4000000 in
set_option maxRecDepth 100000 in
theorem qc_O_workingIn (l : Launch) (dC : Nat → ClassId) (dI : Nat → Nat → Nat) (a : Nat → Nat) (k : Nat → ClassId) (p1 : Int32) (x : QX) (post : Int32 → QX → Prop) (hw : qw_O_workingIn p1 x post) : qa_Ci l y_O_workingIn qv_O_workingIn qr_O_workingIn (dC, dI) classes (qC_t k) (qC_w a k) [.ref (a 2), .int p1] x post := by
  refine qa_ofWi (by decide) (Nat.le_of_ble_eq_true rfl) ?_
  intro p e s m args below meth c A H locs ls C S hl
  replace hl : lv_has ls 2 [(0, .ref (a 2)), (1, .int p1)] := hl
  have hx := C.1
  have hb := C.2.1
  unfold qw_O_workingIn at hw
  refine lv_aload_n hx hb d_O_workingIn_0 rfl (lv_at hl 0 rfl) ?_
  refine lv_iload_n hx hb d_O_workingIn_1 rfl (lv_at hl 1 rfl) ?_
  refine qa_calli (qa_runV (As := [.int p1]) (rest := []) C S (qc_O_has l dC dI a k _ _ _ hw H.size) (cwV 1 C.2.2.2.2.1 qo_O_36_O_has rfl rfl rfl qd_O_has ⟨Nat.le_of_ble_eq_true rfl, Nat.le_of_ble_eq_true rfl⟩) (va_recv (q0 := 2) (ci := 2) S.2.2.1 S.1 rfl rfl) rfl hl.1 rfl (Nat.le_of_ble_eq_true rfl) d_O_workingIn_2) S (fun r2 x1 H locs hw S => ?_)
  refine lv_if_eq (tgt := 17) hx hb d_O_workingIn_5 rfl (fun hc => ?_) (fun hc => ?_)
  · replace hw := hw.1 hc
    refine lv_iconst (v := -1) hx hb d_O_workingIn_17 (by decide) ?_
    exact qa_reti C S hw d_O_workingIn_18
  replace hw := hw.2 hc
  refine lv_aload_n hx hb d_O_workingIn_8 rfl (lv_at hl 0 rfl) ?_
  refine qf_C_O_workings C S qh_53 d_O_workingIn_9 ?_
  refine lv_iload_n hx hb d_O_workingIn_12 rfl (lv_at hl 1 rfl) ?_
  obtain ⟨hi, hw⟩ := hw
  refine qe_C_workings C S hi d_O_workingIn_13 ?_
  refine lv_goto (tgt := 18) hx hb d_O_workingIn_14 rfl ?_
  exact qa_reti C S hw d_O_workingIn_18
set_option maxHeartbeats 4000000 in
set_option maxRecDepth 100000 in
theorem qc_S_isMark (l : Launch) (dC : Nat → ClassId) (dI : Nat → Nat → Nat) (a : Nat → Nat) (k : Nat → ClassId) (p1 : Int32) (x : QX) (post : Int32 → QX → Prop) (hw : qw_S_isMark p1 x post) : qa_Ci l y_S_isMark qv_S_isMark qr_S_isMark (dC, dI) classes (qC_t k) (qC_w a k) [.int p1] x post := by
  refine qa_ofWi (by decide) (Nat.le_of_ble_eq_true rfl) ?_
  intro p e s m args below meth c A H locs ls C S hl
  replace hl : lv_has ls 1 [(0, .int p1)] := hl
  have hx := C.1
  have hb := C.2.1
  unfold qw_S_isMark at hw
  refine lv_iload_n hx hb d_S_isMark_0 rfl (lv_at hl 0 rfl) ?_
  refine lv_if_lt (tgt := 13) hx hb d_S_isMark_1 rfl (fun hc => ?_) (fun hc => ?_)
  · replace hw := hw.1 hc
    refine lv_iconst (v := 0) hx hb d_S_isMark_13 (by decide) ?_
    exact qa_retz C S ⟨by decide, hw⟩ d_S_isMark_14
  replace hw := hw.2 hc
  refine lv_iload_n hx hb d_S_isMark_4 rfl (lv_at hl 0 rfl) ?_
  refine lv_iconst (v := 3) hx hb d_S_isMark_5 (by decide) ?_
  refine lv_icmp_ge (tgt := 13) hx hb d_S_isMark_6 rfl (fun hc => ?_) (fun hc => ?_)
  · replace hw := hw.1 hc
    refine lv_iconst (v := 0) hx hb d_S_isMark_13 (by decide) ?_
    exact qa_retz C S ⟨by decide, hw⟩ d_S_isMark_14
  replace hw := hw.2 hc
  refine lv_iconst (v := 1) hx hb d_S_isMark_9 (by decide) ?_
  refine lv_goto (tgt := 14) hx hb d_S_isMark_10 rfl ?_
  exact qa_retz C S ⟨by decide, hw⟩ d_S_isMark_14
set_option maxHeartbeats 4000000 in
set_option maxRecDepth 100000 in
theorem qc_O_markIn (l : Launch) (dC : Nat → ClassId) (dI : Nat → Nat → Nat) (a : Nat → Nat) (k : Nat → ClassId) (p1 : Int32) (p2 : Int32) (x : QX) (post : Int32 → QX → Prop) (hw : qw_O_markIn p1 p2 x post) : qa_Ci l y_O_markIn qv_O_markIn qr_O_markIn (dC, dI) classes (qC_t k) (qC_w a k) [.ref (a 2), .int p1, .int p2] x post := by
  refine qa_ofWi (by decide) (Nat.le_of_ble_eq_true rfl) ?_
  intro p e s m args below meth c A H locs ls C S hl
  replace hl : lv_has ls 3 [(0, .ref (a 2)), (1, .int p1), (2, .int p2)] := hl
  have hx := C.1
  have hb := C.2.1
  unfold qw_O_markIn at hw
  refine lv_aload_n hx hb d_O_markIn_0 rfl (lv_at hl 0 rfl) ?_
  refine lv_iload_n hx hb d_O_markIn_1 rfl (lv_at hl 1 rfl) ?_
  refine qa_calli (qa_runV (As := [.int p1]) (rest := []) C S (qc_O_has l dC dI a k _ _ _ hw H.size) (cwV 1 C.2.2.2.2.1 qo_O_36_O_has rfl rfl rfl qd_O_has ⟨Nat.le_of_ble_eq_true rfl, Nat.le_of_ble_eq_true rfl⟩) (va_recv (q0 := 2) (ci := 2) S.2.2.1 S.1 rfl rfl) rfl hl.1 rfl (Nat.le_of_ble_eq_true rfl) d_O_markIn_2) S (fun r2 x1 H locs hw S => ?_)
  refine lv_if_eq (tgt := 28) hx hb d_O_markIn_5 rfl (fun hc => ?_) (fun hc => ?_)
  · replace hw := hw.1 hc
    refine lv_iconst (v := -1) hx hb d_O_markIn_28 (by decide) ?_
    exact qa_reti C S hw d_O_markIn_29
  replace hw := hw.2 hc
  refine lv_iload_n hx hb d_O_markIn_8 rfl (lv_at hl 2 rfl) ?_
  refine qa_calli (qa_runSN (As := [.int p2]) (rest := []) C S (qc_S_isMark l dC dI a k _ _ _ hw H.size) ⟨va_cnB 1 C.2.2.2.2.1 qo_S_isMark rfl rfl rfl (S.2.2.2.2.2 _ qh_154) (C.2.2.2.2.1 _ qh_1) qd_S_isMark.2 ⟨Nat.le_of_ble_eq_true rfl, Nat.le_of_ble_eq_true rfl⟩, C.2.2.2.2.1 _ qh_155, trivial⟩ rfl hl.1 rfl (Nat.le_of_ble_eq_true rfl) d_O_markIn_9) S (fun r4 x3 H locs hw S => ?_)
  refine lv_if_eq (tgt := 28) hx hb d_O_markIn_12 rfl (fun hc => ?_) (fun hc => ?_)
  · replace hw := hw.1 hc
    refine lv_iconst (v := -1) hx hb d_O_markIn_28 (by decide) ?_
    exact qa_reti C S hw d_O_markIn_29
  replace hw := hw.2 hc
  refine lv_aload_n hx hb d_O_markIn_15 rfl (lv_at hl 0 rfl) ?_
  refine qf_C_O_marks C S qh_54 d_O_markIn_16 ?_
  refine lv_iload_n hx hb d_O_markIn_19 rfl (lv_at hl 1 rfl) ?_
  refine lv_iconst (v := 3) hx hb d_O_markIn_20 (by decide) ?_
  refine lv_imul hx hb d_O_markIn_21 ?_
  refine lv_iload_n hx hb d_O_markIn_22 rfl (lv_at hl 2 rfl) ?_
  refine lv_iadd hx hb d_O_markIn_23 ?_
  obtain ⟨hi, hw⟩ := hw
  refine qe_C_omarks C S hi d_O_markIn_24 ?_
  refine lv_goto (tgt := 29) hx hb d_O_markIn_25 rfl ?_
  exact qa_reti C S hw d_O_markIn_29
set_option maxHeartbeats 4000000 in
set_option maxRecDepth 100000 in
theorem qk_D_open_H24 {p : Program} {l : Launch} {e : Env} {s : State} {m : MethodId} {args : Array Value} {below : List Frame} {meth : Method} {c : Code} {A : Nat → Prop} {dC : Nat → ClassId} {dI : Nat → Nat → Nat} {a : Nat → Nat} {k : Nat → ClassId} (C : qa_X p s m args meth c b_D_open 4 none R_D)  (post : QX → Prop)  : ∀ (n : Nat), ∀ (v2 : Int32) (v3 : Int32) (x : QX) (H : Heap) (locs : List Loc) (ls : Array Slot), qw_D_open_H24  post n v2 v3 x → qa_S (dC, dI) classes (qC_t k) (qC_w a k) A s x H locs → lv_has ls 4 [(0, .ref (a 3)), (1, .ref (a 2)), (2, .int v2), (3, .int v3)] → W p l e qr_D_open s m args below meth c H locs 0 0 (MQ below (va_Qv post (qa_B (dC, dI) classes (qC_t k) (qC_w a k) A) A) args s 0 0 A) (F0 m 24 ls []) := by
  have hx := C.1
  have hb := C.2.1
  intro n
  induction n with
  | zero => intro v2 v3 x H locs ls hw S hl; exact False.elim hw
  | succ n ih =>
    intro v2 v3 x H locs ls hw S hl
    replace hw : qw_D_open_S24  post (qw_D_open_H24  post n) v2 v3 x := hw
    unfold qw_D_open_S24 at hw
    refine lv_iload_n hx hb d_D_open_24 rfl (lv_at hl 3 rfl) ?_
    refine lv_iconst (v := 3) hx hb d_D_open_25 (by decide) ?_
    refine lv_icmp_ge (tgt := 47) hx hb d_D_open_26 rfl (fun hc => ?_) (fun hc => ?_)
    · replace hw := hw.1 hc
      exact qa_retv C S hw d_D_open_47
    replace hw := hw.2 hc
    refine lv_aload_n hx hb d_D_open_29 rfl (lv_at hl 0 rfl) ?_
    refine qf_C_D_marks C S qh_76 d_D_open_30 ?_
    refine lv_iload_n hx hb d_D_open_33 rfl (lv_at hl 3 rfl) ?_
    refine lv_aload_n hx hb d_D_open_34 rfl (lv_at hl 1 rfl) ?_
    refine lv_iload_n hx hb d_D_open_35 rfl (lv_at hl 2 rfl) ?_
    refine lv_iload_n hx hb d_D_open_36 rfl (lv_at hl 3 rfl) ?_
    refine qa_calli (qa_runV (As := [.int v2, .int v3]) (rest := [.int v3, .ref (a 13)]) C S (qc_O_markIn l dC dI a k _ _ _ _ hw H.size) (cwV 2 C.2.2.2.2.1 qo_D_43_O_markIn rfl rfl rfl qd_O_markIn ⟨Nat.le_of_ble_eq_true rfl, Nat.le_of_ble_eq_true rfl⟩) (va_recv (q0 := 2) (ci := 2) S.2.2.1 S.1 rfl rfl) rfl hl.1 rfl (Nat.le_of_ble_eq_true rfl) d_D_open_37) S (fun r9 x8 H locs hw S => ?_)
    obtain ⟨hi, hw⟩ := hw
    refine qt_C_dmarks C S hi d_D_open_40 (fun x10 H locs ex10 S => ?_)
    replace hw := hw x10 ex10
    refine lv_iinc (k := 3) (v := v3 + 1) (lv' := [(3, .int (v3 + 1)), (0, .ref (a 3)), (1, .ref (a 2)), (2, .int v2)]) hx hb d_D_open_41 hl rfl rfl (by decide) rfl (fun ls hl => ?_)
    refine lv_goto (tgt := 24) hx hb d_D_open_44 rfl ?_
    exact ih _ _ _ _ _ _ hw S (lv_sub hl [1, 2, 3, 0] rfl)
set_option maxHeartbeats 4000000 in
set_option maxRecDepth 100000 in
theorem qc_D_open (l : Launch) (dC : Nat → ClassId) (dI : Nat → Nat → Nat) (a : Nat → Nat) (k : Nat → ClassId) (p2 : Int32) (x : QX) (post : QX → Prop) (hw : qw_D_open p2 x post) : qa_Cv l y_D_open qv_D_open qr_D_open (dC, dI) classes (qC_t k) (qC_w a k) [.ref (a 3), .ref (a 2), .int p2] x post := by
  refine qa_ofWv (by decide) (Nat.le_of_ble_eq_true rfl) ?_
  intro p e s m args below meth c A H locs ls C S hl
  replace hl : lv_has ls 4 [(0, .ref (a 3)), (1, .ref (a 2)), (2, .int p2)] := hl
  have hx := C.1
  have hb := C.2.1
  unfold qw_D_open at hw
  refine lv_aload_n hx hb d_D_open_0 rfl (lv_at hl 0 rfl) ?_
  refine qa_callv (qa_runV (As := []) (rest := []) C S (qc_D_start l dC dI a k _ _ hw H.size) (cwV 0 C.2.2.2.2.1 qo_D_22_D_start rfl rfl rfl qd_D_start ⟨Nat.le_of_ble_eq_true rfl, Nat.le_of_ble_eq_true rfl⟩) (va_recv (q0 := 3) (ci := 3) S.2.2.1 S.1 rfl rfl) rfl hl.1 rfl (Nat.le_of_ble_eq_true rfl) d_D_open_1) S (fun x1 H locs hw S => ?_)
  refine lv_aload_n hx hb d_D_open_4 rfl (lv_at hl 0 rfl) ?_
  refine lv_aload_n hx hb d_D_open_5 rfl (lv_at hl 1 rfl) ?_
  refine lv_iload_n hx hb d_D_open_6 rfl (lv_at hl 2 rfl) ?_
  refine qa_calll (qa_runV (As := [.int p2]) (rest := [.ref (a 3)]) C S (qc_O_shownIn l dC dI a k _ _ _ hw H.size) (cwV 1 C.2.2.2.2.1 qo_D_25_O_shownIn rfl rfl rfl qd_O_shownIn ⟨Nat.le_of_ble_eq_true rfl, Nat.le_of_ble_eq_true rfl⟩) (va_recv (q0 := 2) (ci := 2) S.2.2.1 S.1 rfl rfl) rfl hl.1 rfl (Nat.le_of_ble_eq_true rfl) d_D_open_7) S (fun r3 x2 H locs hw S => ?_)
  refine qp_C_D_shown C S qh_80 d_D_open_10 (fun x4 H locs ex4 S => ?_)
  replace hw := hw x4 ex4
  refine lv_aload_n hx hb d_D_open_13 rfl (lv_at hl 0 rfl) ?_
  refine lv_aload_n hx hb d_D_open_14 rfl (lv_at hl 1 rfl) ?_
  refine lv_iload_n hx hb d_D_open_15 rfl (lv_at hl 2 rfl) ?_
  refine qa_calli (qa_runV (As := [.int p2]) (rest := [.ref (a 3)]) C S (qc_O_workingIn l dC dI a k _ _ _ hw H.size) (cwV 1 C.2.2.2.2.1 qo_D_35_O_workingIn rfl rfl rfl qd_O_workingIn ⟨Nat.le_of_ble_eq_true rfl, Nat.le_of_ble_eq_true rfl⟩) (va_recv (q0 := 2) (ci := 2) S.2.2.1 S.1 rfl rfl) rfl hl.1 rfl (Nat.le_of_ble_eq_true rfl) d_D_open_16) S (fun r6 x5 H locs hw S => ?_)
  refine qp_C_D_working C S qh_82 d_D_open_19 (fun x7 H locs ex7 S => ?_)
  replace hw := hw x7 ex7
  refine lv_iconst (v := 0) hx hb d_D_open_22 (by decide) ?_
  refine lv_istore_n (lv' := [(3, .int (0 : Int32)), (0, .ref (a 3)), (1, .ref (a 2)), (2, .int p2)]) hx hb d_D_open_23 rfl hl (by decide) rfl (fun ls hl => ?_)
  exact qk_D_open_H24 C post qFU _ _ _ _ _ _ hw S (lv_sub hl [1, 2, 3, 0] rfl)
set_option maxHeartbeats 4000000 in
set_option maxRecDepth 100000 in
theorem qc_S_openDraft (l : Launch) (dC : Nat → ClassId) (dI : Nat → Nat → Nat) (a : Nat → Nat) (k : Nat → ClassId)  (x : QX) (post : QX → Prop) (hw : qw_S_openDraft  x post) : qa_Cv l y_S_openDraft qv_S_openDraft qr_S_openDraft (dC, dI) classes (qC_t k) (qC_w a k) [.ref (a 0)] x post := by
  refine qa_ofWv (by decide) (Nat.le_of_ble_eq_true rfl) ?_
  intro p e s m args below meth c A H locs ls C S hl
  replace hl : lv_has ls 1 [(0, .ref (a 0))] := hl
  have hx := C.1
  have hb := C.2.1
  unfold qw_S_openDraft at hw
  refine lv_aload_n hx hb d_S_openDraft_0 rfl (lv_at hl 0 rfl) ?_
  refine qf_C_S_draft C S qh_102 d_S_openDraft_1 ?_
  refine lv_aload_n hx hb d_S_openDraft_4 rfl (lv_at hl 0 rfl) ?_
  refine qf_C_S_operations C S qh_101 d_S_openDraft_5 ?_
  refine lv_aload_n hx hb d_S_openDraft_8 rfl (lv_at hl 0 rfl) ?_
  refine qf_C_S_currents C S qh_103 d_S_openDraft_9 ?_
  refine lv_aload_n hx hb d_S_openDraft_12 rfl (lv_at hl 0 rfl) ?_
  refine qf_C_S_chosen C S qh_104 d_S_openDraft_13 ?_
  obtain ⟨hi, hw⟩ := hw
  refine qe_C_currents C S hi d_S_openDraft_16 ?_
  refine qa_callv (qa_runV (As := [.ref (a 2), .int (gA x 0 (gI x 0).toNatClampNeg)]) (rest := []) C S (qc_D_open l dC dI a k _ _ _ hw H.size) (cwV 2 C.2.2.2.2.1 qo_S_126_D_open rfl rfl rfl qd_D_open ⟨Nat.le_of_ble_eq_true rfl, Nat.le_of_ble_eq_true rfl⟩) (va_recv (q0 := 3) (ci := 3) S.2.2.1 S.1 rfl rfl) rfl hl.1 rfl (Nat.le_of_ble_eq_true rfl) d_S_openDraft_17) S (fun x1 H locs hw S => ?_)
  exact qa_retv C S hw d_S_openDraft_20
set_option maxHeartbeats 4000000 in
set_option maxRecDepth 100000 in
theorem qc_S_isIn (l : Launch) (dC : Nat → ClassId) (dI : Nat → Nat → Nat) (a : Nat → Nat) (k : Nat → ClassId) (p1 : Int32) (p2 : Int64) (x : QX) (post : Int32 → QX → Prop) (hw : qw_S_isIn p1 p2 x post) : qa_Ci l y_S_isIn qv_S_isIn qr_S_isIn (dC, dI) classes (qC_t k) (qC_w a k) [.int p1, .long p2] x post := by
  refine qa_ofWi (by decide) (Nat.le_of_ble_eq_true rfl) ?_
  intro p e s m args below meth c A H locs ls C S hl
  replace hl : lv_has ls 3 [(0, .int p1), (1, .long p2)] := hl
  have hx := C.1
  have hb := C.2.1
  unfold qw_S_isIn at hw
  refine lv_iload_n hx hb d_S_isIn_0 rfl (lv_at hl 0 rfl) ?_
  refine lv_if_lt (tgt := 24) hx hb d_S_isIn_1 rfl (fun hc => ?_) (fun hc => ?_)
  · replace hw := hw.1 hc
    refine lv_iconst (v := 0) hx hb d_S_isIn_24 (by decide) ?_
    exact qa_retz C S ⟨by decide, hw⟩ d_S_isIn_25
  replace hw := hw.2 hc
  refine lv_iload_n hx hb d_S_isIn_4 rfl (lv_at hl 0 rfl) ?_
  refine lv_bipush (v := 60) hx hb d_S_isIn_5 (by decide) ?_
  refine lv_icmp_ge (tgt := 24) hx hb d_S_isIn_7 rfl (fun hc => ?_) (fun hc => ?_)
  · replace hw := hw.1 hc
    refine lv_iconst (v := 0) hx hb d_S_isIn_24 (by decide) ?_
    exact qa_retz C S ⟨by decide, hw⟩ d_S_isIn_25
  replace hw := hw.2 hc
  refine lv_lload_n hx hb d_S_isIn_10 rfl (lv_at hl 1 rfl) ?_
  refine lv_iload_n hx hb d_S_isIn_11 rfl (lv_at hl 0 rfl) ?_
  refine lv_lshr hx hb d_S_isIn_12 rfl ?_
  refine lv_lconst (v := 1) hx hb d_S_isIn_13 (by decide) ?_
  refine lv_land hx hb d_S_isIn_14 ?_
  refine lv_lconst (v := 0) hx hb d_S_isIn_15 (by decide) ?_
  refine W.lcmp hx hb d_S_isIn_16 ?_
  refine lv_if_eq (tgt := 24) hx hb d_S_isIn_17 rfl (fun hc => ?_) (fun hc => ?_)
  · replace hw := hw.1 hc
    refine lv_iconst (v := 0) hx hb d_S_isIn_24 (by decide) ?_
    exact qa_retz C S ⟨by decide, hw⟩ d_S_isIn_25
  replace hw := hw.2 hc
  refine lv_iconst (v := 1) hx hb d_S_isIn_20 (by decide) ?_
  refine lv_goto (tgt := 25) hx hb d_S_isIn_21 rfl ?_
  exact qa_retz C S ⟨by decide, hw⟩ d_S_isIn_25
set_option maxHeartbeats 4000000 in
set_option maxRecDepth 100000 in
theorem qc_D_shows (l : Launch) (dC : Nat → ClassId) (dI : Nat → Nat → Nat) (a : Nat → Nat) (k : Nat → ClassId) (p1 : Int32) (x : QX) (post : Int32 → QX → Prop) (hw : qw_D_shows p1 x post) : qa_Ci l y_D_shows qv_D_shows qr_D_shows (dC, dI) classes (qC_t k) (qC_w a k) [.ref (a 3), .int p1] x post := by
  refine qa_ofWi (by decide) (Nat.le_of_ble_eq_true rfl) ?_
  intro p e s m args below meth c A H locs ls C S hl
  replace hl : lv_has ls 2 [(0, .ref (a 3)), (1, .int p1)] := hl
  have hx := C.1
  have hb := C.2.1
  unfold qw_D_shows at hw
  refine lv_iload_n hx hb d_D_shows_0 rfl (lv_at hl 1 rfl) ?_
  refine lv_aload_n hx hb d_D_shows_1 rfl (lv_at hl 0 rfl) ?_
  refine qf_C_D_shown C S qh_80 d_D_shows_2 ?_
  refine qa_calli (qa_runSN (As := [.int p1, .long (gL x 0)]) (rest := []) C S (qc_S_isIn l dC dI a k _ _ _ _ hw H.size) ⟨va_cnB 2 C.2.2.2.2.1 qo_S_isIn rfl rfl rfl (S.2.2.2.2.2 _ qh_161) (C.2.2.2.2.1 _ qh_1) qd_S_isIn.2 ⟨Nat.le_of_ble_eq_true rfl, Nat.le_of_ble_eq_true rfl⟩, C.2.2.2.2.1 _ qh_162, trivial⟩ rfl hl.1 rfl (Nat.le_of_ble_eq_true rfl) d_D_shows_5) S (fun r2 x1 H locs hw S => ?_)
  exact qa_retz C S hw d_D_shows_8
set_option maxHeartbeats 4000000 in
set_option maxRecDepth 100000 in
theorem qc_C_isFull (l : Launch) (dC : Nat → ClassId) (dI : Nat → Nat → Nat) (a : Nat → Nat) (k : Nat → ClassId)  (x : QX) (post : Int32 → QX → Prop) (hw : qw_C_isFull  x post) : qa_Ci l y_C_isFull qv_C_isFull qr_C_isFull (dC, dI) classes (qC_t k) (qC_w a k) [.ref (a 1)] x post := by
  refine qa_ofWi (by decide) (Nat.le_of_ble_eq_true rfl) ?_
  intro p e s m args below meth c A H locs ls C S hl
  replace hl : lv_has ls 1 [(0, .ref (a 1))] := hl
  have hx := C.1
  have hb := C.2.1
  unfold qw_C_isFull at hw
  refine lv_aload_n hx hb d_C_isFull_0 rfl (lv_at hl 0 rfl) ?_
  refine qf_C_C_size C S qh_25 d_C_isFull_1 ?_
  refine lv_bipush (v := 60) hx hb d_C_isFull_4 (by decide) ?_
  refine lv_icmp_lt (tgt := 13) hx hb d_C_isFull_6 rfl (fun hc => ?_) (fun hc => ?_)
  · replace hw := hw.1 hc
    refine lv_iconst (v := 0) hx hb d_C_isFull_13 (by decide) ?_
    exact qa_retz C S ⟨by decide, hw⟩ d_C_isFull_14
  replace hw := hw.2 hc
  refine lv_iconst (v := 1) hx hb d_C_isFull_9 (by decide) ?_
  refine lv_goto (tgt := 14) hx hb d_C_isFull_10 rfl ?_
  exact qa_retz C S ⟨by decide, hw⟩ d_C_isFull_14
set_option maxHeartbeats 4000000 in
set_option maxRecDepth 100000 in
theorem qc_O_isFull (l : Launch) (dC : Nat → ClassId) (dI : Nat → Nat → Nat) (a : Nat → Nat) (k : Nat → ClassId)  (x : QX) (post : Int32 → QX → Prop) (hw : qw_O_isFull  x post) : qa_Ci l y_O_isFull qv_O_isFull qr_O_isFull (dC, dI) classes (qC_t k) (qC_w a k) [.ref (a 2)] x post := by
  refine qa_ofWi (by decide) (Nat.le_of_ble_eq_true rfl) ?_
  intro p e s m args below meth c A H locs ls C S hl
  replace hl : lv_has ls 1 [(0, .ref (a 2))] := hl
  have hx := C.1
  have hb := C.2.1
  unfold qw_O_isFull at hw
  refine lv_aload_n hx hb d_O_isFull_0 rfl (lv_at hl 0 rfl) ?_
  refine qf_C_O_size C S qh_55 d_O_isFull_1 ?_
  refine lv_bipush (v := 100) hx hb d_O_isFull_4 (by decide) ?_
  refine lv_icmp_lt (tgt := 13) hx hb d_O_isFull_6 rfl (fun hc => ?_) (fun hc => ?_)
  · replace hw := hw.1 hc
    refine lv_iconst (v := 0) hx hb d_O_isFull_13 (by decide) ?_
    exact qa_retz C S ⟨by decide, hw⟩ d_O_isFull_14
  replace hw := hw.2 hc
  refine lv_iconst (v := 1) hx hb d_O_isFull_9 (by decide) ?_
  refine lv_goto (tgt := 14) hx hb d_O_isFull_10 rfl ?_
  exact qa_retz C S ⟨by decide, hw⟩ d_O_isFull_14
set_option maxHeartbeats 4000000 in
set_option maxRecDepth 100000 in
theorem qc_S_hasRoomForCommit (l : Launch) (dC : Nat → ClassId) (dI : Nat → Nat → Nat) (a : Nat → Nat) (k : Nat → ClassId)  (x : QX) (post : Int32 → QX → Prop) (hw : qw_S_hasRoomForCommit  x post) : qa_Ci l y_S_hasRoomForCommit qv_S_hasRoomForCommit qr_S_hasRoomForCommit (dC, dI) classes (qC_t k) (qC_w a k) [.ref (a 0)] x post := by
  refine qa_ofWi (by decide) (Nat.le_of_ble_eq_true rfl) ?_
  intro p e s m args below meth c A H locs ls C S hl
  replace hl : lv_has ls 1 [(0, .ref (a 0))] := hl
  have hx := C.1
  have hb := C.2.1
  unfold qw_S_hasRoomForCommit at hw
  refine lv_aload_n hx hb d_S_hasRoomForCommit_0 rfl (lv_at hl 0 rfl) ?_
  refine qf_C_S_commits C S qh_100 d_S_hasRoomForCommit_1 ?_
  refine qa_calli (qa_runV (As := []) (rest := []) C S (qc_C_isFull l dC dI a k _ _ hw H.size) (cwV 0 C.2.2.2.2.1 qo_S_159_C_isFull rfl rfl rfl qd_C_isFull ⟨Nat.le_of_ble_eq_true rfl, Nat.le_of_ble_eq_true rfl⟩) (va_recv (q0 := 1) (ci := 1) S.2.2.1 S.1 rfl rfl) rfl hl.1 rfl (Nat.le_of_ble_eq_true rfl) d_S_hasRoomForCommit_4) S (fun r2 x1 H locs hw S => ?_)
  refine lv_if_ne (tgt := 24) hx hb d_S_hasRoomForCommit_7 rfl (fun hc => ?_) (fun hc => ?_)
  · replace hw := hw.1 hc
    refine lv_iconst (v := 0) hx hb d_S_hasRoomForCommit_24 (by decide) ?_
    exact qa_retz C S ⟨by decide, hw⟩ d_S_hasRoomForCommit_25
  replace hw := hw.2 hc
  refine lv_aload_n hx hb d_S_hasRoomForCommit_10 rfl (lv_at hl 0 rfl) ?_
  refine qf_C_S_operations C S qh_101 d_S_hasRoomForCommit_11 ?_
  refine qa_calli (qa_runV (As := []) (rest := []) C S (qc_O_isFull l dC dI a k _ _ hw H.size) (cwV 0 C.2.2.2.2.1 qo_S_162_O_isFull rfl rfl rfl qd_O_isFull ⟨Nat.le_of_ble_eq_true rfl, Nat.le_of_ble_eq_true rfl⟩) (va_recv (q0 := 2) (ci := 2) S.2.2.1 S.1 rfl rfl) rfl hl.1 rfl (Nat.le_of_ble_eq_true rfl) d_S_hasRoomForCommit_14) S (fun r4 x3 H locs hw S => ?_)
  refine lv_if_ne (tgt := 24) hx hb d_S_hasRoomForCommit_17 rfl (fun hc => ?_) (fun hc => ?_)
  · replace hw := hw.1 hc
    refine lv_iconst (v := 0) hx hb d_S_hasRoomForCommit_24 (by decide) ?_
    exact qa_retz C S ⟨by decide, hw⟩ d_S_hasRoomForCommit_25
  replace hw := hw.2 hc
  refine lv_iconst (v := 1) hx hb d_S_hasRoomForCommit_20 (by decide) ?_
  refine lv_goto (tgt := 25) hx hb d_S_hasRoomForCommit_21 rfl ?_
  exact qa_retz C S ⟨by decide, hw⟩ d_S_hasRoomForCommit_25
set_option maxHeartbeats 4000000 in
set_option maxRecDepth 100000 in
theorem qc_C_has (l : Launch) (dC : Nat → ClassId) (dI : Nat → Nat → Nat) (a : Nat → Nat) (k : Nat → ClassId) (p1 : Int32) (x : QX) (post : Int32 → QX → Prop) (hw : qw_C_has p1 x post) : qa_Ci l y_C_has qv_C_has qr_C_has (dC, dI) classes (qC_t k) (qC_w a k) [.ref (a 1), .int p1] x post := by
  refine qa_ofWi (by decide) (Nat.le_of_ble_eq_true rfl) ?_
  intro p e s m args below meth c A H locs ls C S hl
  replace hl : lv_has ls 2 [(0, .ref (a 1)), (1, .int p1)] := hl
  have hx := C.1
  have hb := C.2.1
  unfold qw_C_has at hw
  refine lv_iload_n hx hb d_C_has_0 rfl (lv_at hl 1 rfl) ?_
  refine lv_if_lt (tgt := 16) hx hb d_C_has_1 rfl (fun hc => ?_) (fun hc => ?_)
  · replace hw := hw.1 hc
    refine lv_iconst (v := 0) hx hb d_C_has_16 (by decide) ?_
    exact qa_retz C S ⟨by decide, hw⟩ d_C_has_17
  replace hw := hw.2 hc
  refine lv_iload_n hx hb d_C_has_4 rfl (lv_at hl 1 rfl) ?_
  refine lv_aload_n hx hb d_C_has_5 rfl (lv_at hl 0 rfl) ?_
  refine qf_C_C_size C S qh_25 d_C_has_6 ?_
  refine lv_icmp_ge (tgt := 16) hx hb d_C_has_9 rfl (fun hc => ?_) (fun hc => ?_)
  · replace hw := hw.1 hc
    refine lv_iconst (v := 0) hx hb d_C_has_16 (by decide) ?_
    exact qa_retz C S ⟨by decide, hw⟩ d_C_has_17
  replace hw := hw.2 hc
  refine lv_iconst (v := 1) hx hb d_C_has_12 (by decide) ?_
  refine lv_goto (tgt := 17) hx hb d_C_has_13 rfl ?_
  exact qa_retz C S ⟨by decide, hw⟩ d_C_has_17
set_option maxHeartbeats 4000000 in
set_option maxRecDepth 100000 in
theorem qc_C_start (l : Launch) (dC : Nat → ClassId) (dI : Nat → Nat → Nat) (a : Nat → Nat) (k : Nat → ClassId) (p1 : Int32) (p2 : Int32) (x : QX) (post : Int32 → QX → Prop) (hw : qw_C_start p1 p2 x post) : qa_Ci l y_C_start qv_C_start qr_C_start (dC, dI) classes (qC_t k) (qC_w a k) [.int p1, .int p2] x post := by
  refine qa_ofWi (by decide) (Nat.le_of_ble_eq_true rfl) ?_
  intro p e s m args below meth c A H locs ls C S hl
  replace hl : lv_has ls 2 [(0, .int p1), (1, .int p2)] := hl
  have hx := C.1
  have hb := C.2.1
  unfold qw_C_start at hw
  refine lv_iload_n hx hb d_C_start_0 rfl (lv_at hl 0 rfl) ?_
  refine lv_iconst (v := 4) hx hb d_C_start_1 (by decide) ?_
  refine lv_imul hx hb d_C_start_2 ?_
  refine lv_iload_n hx hb d_C_start_3 rfl (lv_at hl 1 rfl) ?_
  refine lv_iadd hx hb d_C_start_4 ?_
  refine lv_bipush (v := 8) hx hb d_C_start_5 (by decide) ?_
  refine lv_imul hx hb d_C_start_7 ?_
  exact qa_reti C S hw d_C_start_8
set_option maxHeartbeats 4000000 in
set_option maxRecDepth 100000 in
theorem qc_C_addCopy (l : Launch) (dC : Nat → ClassId) (dI : Nat → Nat → Nat) (a : Nat → Nat) (k : Nat → ClassId) (p1 : Int32) (p2 : Int32) (p3 : Int32) (x : QX) (post : Int32 → QX → Prop) (hw : qw_C_addCopy p1 p2 p3 x post) : qa_Ci l y_C_addCopy qv_C_addCopy qr_C_addCopy (dC, dI) classes (qC_t k) (qC_w a k) [.ref (a 1), .int p1, .int p2, .int p3] x post := by
  refine qa_ofWi (by decide) (Nat.le_of_ble_eq_true rfl) ?_
  intro p e s m args below meth c A H locs ls C S hl
  replace hl : lv_has ls 5 [(0, .ref (a 1)), (1, .int p1), (2, .int p2), (3, .int p3)] := hl
  have hx := C.1
  have hb := C.2.1
  unfold qw_C_addCopy at hw
  refine lv_aload_n hx hb d_C_addCopy_0 rfl (lv_at hl 0 rfl) ?_
  refine qa_calli (qa_runV (As := []) (rest := []) C S (qc_C_isFull l dC dI a k _ _ hw H.size) (cwV 0 C.2.2.2.2.1 qo_C_59_C_isFull rfl rfl rfl qd_C_isFull ⟨Nat.le_of_ble_eq_true rfl, Nat.le_of_ble_eq_true rfl⟩) (va_recv (q0 := 1) (ci := 1) S.2.2.1 S.1 rfl rfl) rfl hl.1 rfl (Nat.le_of_ble_eq_true rfl) d_C_addCopy_1) S (fun r2 x1 H locs hw S => ?_)
  refine lv_if_ne (tgt := 15) hx hb d_C_addCopy_4 rfl (fun hc => ?_) (fun hc => ?_)
  · replace hw := hw.1 hc
    refine lv_iconst (v := -1) hx hb d_C_addCopy_15 (by decide) ?_
    exact qa_reti C S hw d_C_addCopy_16
  replace hw := hw.2 hc
  refine lv_aload_n hx hb d_C_addCopy_7 rfl (lv_at hl 0 rfl) ?_
  refine lv_iload_n hx hb d_C_addCopy_8 rfl (lv_at hl 3 rfl) ?_
  refine qa_calli (qa_runV (As := [.int p3]) (rest := []) C S (qc_C_has l dC dI a k _ _ _ hw H.size) (cwV 1 C.2.2.2.2.1 qo_C_29_C_has rfl rfl rfl qd_C_has ⟨Nat.le_of_ble_eq_true rfl, Nat.le_of_ble_eq_true rfl⟩) (va_recv (q0 := 1) (ci := 1) S.2.2.1 S.1 rfl rfl) rfl hl.1 rfl (Nat.le_of_ble_eq_true rfl) d_C_addCopy_9) S (fun r4 x3 H locs hw S => ?_)
  refine lv_if_ne (tgt := 17) hx hb d_C_addCopy_12 rfl (fun hc => ?_) (fun hc => ?_)
  · replace hw := hw.1 hc
    refine lv_aload_n hx hb d_C_addCopy_17 rfl (lv_at hl 0 rfl) ?_
    refine qf_C_C_size C S qh_25 d_C_addCopy_18 ?_
    refine lv_topi (fun t5 et5 => ?_)
    replace hw := hw t5 et5
    refine lv_istore (lv' := [(4, .int t5), (0, .ref (a 1)), (1, .int p1), (2, .int p2), (3, .int p3)]) hx hb d_C_addCopy_21 hl (by decide) rfl (fun ls hl => ?_)
    refine lv_aload_n hx hb d_C_addCopy_23 rfl (lv_at hl 1 rfl) ?_
    refine lv_dup hx hb d_C_addCopy_24 rfl ?_
    refine qf_C_C_size C S qh_25 d_C_addCopy_25 ?_
    refine lv_iconst (v := 1) hx hb d_C_addCopy_28 (by decide) ?_
    refine lv_iadd hx hb d_C_addCopy_29 ?_
    refine qp_C_C_size C S qh_25 d_C_addCopy_30 (fun x6 H locs ex6 S => ?_)
    replace hw := hw x6 ex6
    refine lv_aload_n hx hb d_C_addCopy_33 rfl (lv_at hl 1 rfl) ?_
    refine qf_C_C_changes C S qh_23 d_C_addCopy_34 ?_
    refine lv_iload hx hb d_C_addCopy_37 (lv_at hl 0 rfl) ?_
    refine lv_iload_n hx hb d_C_addCopy_39 rfl (lv_at hl 2 rfl) ?_
    obtain ⟨hi, hw⟩ := hw
    refine qt_C_changes C S hi d_C_addCopy_40 (fun x7 H locs ex7 S => ?_)
    replace hw := hw x7 ex7
    refine lv_aload_n hx hb d_C_addCopy_41 rfl (lv_at hl 1 rfl) ?_
    refine qf_C_C_parents C S qh_22 d_C_addCopy_42 ?_
    refine lv_iload hx hb d_C_addCopy_45 (lv_at hl 0 rfl) ?_
    refine lv_iload_n hx hb d_C_addCopy_47 rfl (lv_at hl 3 rfl) ?_
    obtain ⟨hi, hw⟩ := hw
    refine qt_C_parents C S hi d_C_addCopy_48 (fun x8 H locs ex8 S => ?_)
    replace hw := hw x8 ex8
    refine lv_aload_n hx hb d_C_addCopy_49 rfl (lv_at hl 1 rfl) ?_
    refine qf_C_C_counts C S qh_24 d_C_addCopy_50 ?_
    refine lv_iload_n hx hb d_C_addCopy_53 rfl (lv_at hl 4 rfl) ?_
    refine lv_iconst (v := 0) hx hb d_C_addCopy_54 (by decide) ?_
    refine qa_calli (qa_runS (As := [.int p3, .int (0 : Int32)]) (rest := [.ref (a 7)]) C S (qc_C_start l dC dI a k _ _ _ _ hw H.size) (cwS 2 C.2.2.2.2.1 qo_C_39_C_start rfl rfl rfl qd_C_start ⟨Nat.le_of_ble_eq_true rfl, Nat.le_of_ble_eq_true rfl⟩) rfl hl.1 rfl (Nat.le_of_ble_eq_true rfl) d_C_addCopy_55) S (fun r10 x9 H locs hw S => ?_)
    refine lv_aload_n hx hb d_C_addCopy_58 rfl (lv_at hl 1 rfl) ?_
    refine qf_C_C_counts C S qh_24 d_C_addCopy_59 ?_
    refine lv_iload hx hb d_C_addCopy_62 (lv_at hl 0 rfl) ?_
    refine lv_iconst (v := 0) hx hb d_C_addCopy_64 (by decide) ?_
    refine qa_calli (qa_runS (As := [.int t5, .int (0 : Int32)]) (rest := [.ref (a 7), .int r10, .ref (a 7)]) C S (qc_C_start l dC dI a k _ _ _ _ hw H.size) (cwS 2 C.2.2.2.2.1 qo_C_39_C_start rfl rfl rfl qd_C_start ⟨Nat.le_of_ble_eq_true rfl, Nat.le_of_ble_eq_true rfl⟩) rfl hl.1 rfl (Nat.le_of_ble_eq_true rfl) d_C_addCopy_65) S (fun r12 x11 H locs hw S => ?_)
    refine lv_bipush (v := 32) hx hb d_C_addCopy_68 (by decide) ?_
    obtain ⟨h1, h2, h3, h4, h5, hw⟩ := hw
    refine qy_C_counts_counts C S qh_192 hl.1 h1 h2 h3 h4 h5 (Nat.le_of_ble_eq_true rfl) (Nat.le_of_ble_eq_true rfl) d_C_addCopy_70 (fun x13 H locs ex13 S => ?_)
    replace hw := hw x13 ex13
    refine lv_iload hx hb d_C_addCopy_73 (lv_at hl 0 rfl) ?_
    exact qa_reti C S hw d_C_addCopy_75
  replace hw := hw.2 hc
  refine lv_iconst (v := -1) hx hb d_C_addCopy_15 (by decide) ?_
  exact qa_reti C S hw d_C_addCopy_16
