set_option maxHeartbeats 4000000 in
set_option maxRecDepth 100000 in
theorem qc_M_operation (l : Launch) (dC : Nat → ClassId) (dI : Nat → Nat → Nat) (a : Nat → Nat) (k : Nat → ClassId)  (x : QX) (post : Int32 → QX → Prop) (hw : qw_M_operation  x post) : qa_Ci l y_M_operation qv_M_operation qr_M_operation (dC, dI) classes (qM_t k) (qM_w a k) [.ref (a 0)] x post := by
  refine qa_ofWi (by decide) (Nat.le_of_ble_eq_true rfl) ?_
  intro p e s m args below meth c A H locs ls C S hl
  replace hl : lv_has ls 1 [(0, .ref (a 0))] := hl
  have hx := C.1
  have hb := C.2.1
  unfold qw_M_operation at hw
  refine lv_aload_n hx hb d_M_operation_0 rfl (lv_at hl 0 rfl) ?_
  refine qa_calli (qa_runV (As := []) (rest := []) C S (qc_M_here l dC dI a k _ _ hw H.size) (cwV 0 C.2.2.2.2.1 qo_M_107_M_here rfl rfl rfl qd_M_here ⟨Nat.le_of_ble_eq_true rfl, Nat.le_of_ble_eq_true rfl⟩) (va_recv (q0 := 0) (ci := 4) S.2.2.1 S.1 rfl rfl) rfl hl.1 rfl (Nat.le_of_ble_eq_true rfl) d_M_operation_1) S (fun r2 x1 H locs hw S => ?_)
  exact qa_reti C S hw d_M_operation_4
set_option maxHeartbeats 4000000 in
set_option maxRecDepth 100000 in
theorem qc_M_there (l : Launch) (dC : Nat → ClassId) (dI : Nat → Nat → Nat) (a : Nat → Nat) (k : Nat → ClassId) (p1 : Int32) (x : QX) (post : Int32 → QX → Prop) (hw : qw_M_there p1 x post) : qa_Ci l y_M_there qv_M_there qr_M_there (dC, dI) classes (qM_t k) (qM_w a k) [.ref (a 0), .int p1] x post := by
  refine qa_ofWi (by decide) (Nat.le_of_ble_eq_true rfl) ?_
  intro p e s m args below meth c A H locs ls C S hl
  replace hl : lv_has ls 2 [(0, .ref (a 0)), (1, .int p1)] := hl
  have hx := C.1
  have hb := C.2.1
  unfold qw_M_there at hw
  refine lv_iload_n hx hb d_M_there_0 rfl (lv_at hl 1 rfl) ?_
  refine lv_if_lt (tgt := 16) hx hb d_M_there_1 rfl (fun hc => ?_) (fun hc => ?_)
  · replace hw := hw.1 hc
    refine lv_iconst (v := 0) hx hb d_M_there_16 (by decide) ?_
    exact qa_retz C S ⟨by decide, hw⟩ d_M_there_17
  replace hw := hw.2 hc
  refine lv_iload_n hx hb d_M_there_4 rfl (lv_at hl 1 rfl) ?_
  refine lv_aload_n hx hb d_M_there_5 rfl (lv_at hl 0 rfl) ?_
  refine qf_M_M_operations C S qh_424 d_M_there_6 ?_
  refine lv_icmp_ge (tgt := 16) hx hb d_M_there_9 rfl (fun hc => ?_) (fun hc => ?_)
  · replace hw := hw.1 hc
    refine lv_iconst (v := 0) hx hb d_M_there_16 (by decide) ?_
    exact qa_retz C S ⟨by decide, hw⟩ d_M_there_17
  replace hw := hw.2 hc
  refine lv_iconst (v := 1) hx hb d_M_there_12 (by decide) ?_
  refine lv_goto (tgt := 17) hx hb d_M_there_13 rfl ?_
  exact qa_retz C S ⟨by decide, hw⟩ d_M_there_17
set_option maxHeartbeats 4000000 in
set_option maxRecDepth 100000 in
theorem qc_M_before (l : Launch) (dC : Nat → ClassId) (dI : Nat → Nat → Nat) (a : Nat → Nat) (k : Nat → ClassId) (p1 : Int32) (p2 : Int32) (x : QX) (post : Int32 → QX → Prop) (hw : qw_M_before p1 p2 x post) : qa_Ci l y_M_before qv_M_before qr_M_before (dC, dI) classes (qM_t k) (qM_w a k) [.ref (a 0), .int p1, .int p2] x post := by
  refine qa_ofWi (by decide) (Nat.le_of_ble_eq_true rfl) ?_
  intro p e s m args below meth c A H locs ls C S hl
  replace hl : lv_has ls 3 [(0, .ref (a 0)), (1, .int p1), (2, .int p2)] := hl
  have hx := C.1
  have hb := C.2.1
  unfold qw_M_before at hw
  refine lv_aload_n hx hb d_M_before_0 rfl (lv_at hl 0 rfl) ?_
  refine lv_iload_n hx hb d_M_before_1 rfl (lv_at hl 1 rfl) ?_
  refine qa_calli (qa_runV (As := [.int p1]) (rest := []) C S (qc_M_there l dC dI a k _ _ _ hw H.size) (cwV 1 C.2.2.2.2.1 qo_M_143_M_there rfl rfl rfl qd_M_there ⟨Nat.le_of_ble_eq_true rfl, Nat.le_of_ble_eq_true rfl⟩) (va_recv (q0 := 0) (ci := 4) S.2.2.1 S.1 rfl rfl) rfl hl.1 rfl (Nat.le_of_ble_eq_true rfl) d_M_before_2) S (fun r2 x1 H locs hw S => ?_)
  refine lv_if_eq (tgt := 17) hx hb d_M_before_5 rfl (fun hc => ?_) (fun hc => ?_)
  · replace hw := hw.1 hc
    refine lv_iconst (v := -1) hx hb d_M_before_17 (by decide) ?_
    refine lv_goto (tgt := 40) hx hb d_M_before_18 rfl ?_
    exact qa_reti C S hw d_M_before_40
  replace hw := hw.2 hc
  refine lv_iload_n hx hb d_M_before_8 rfl (lv_at hl 2 rfl) ?_
  refine lv_if_lt (tgt := 17) hx hb d_M_before_9 rfl (fun hc => ?_) (fun hc => ?_)
  · replace hw := hw.1 hc
    refine lv_iconst (v := -1) hx hb d_M_before_17 (by decide) ?_
    refine lv_goto (tgt := 40) hx hb d_M_before_18 rfl ?_
    exact qa_reti C S hw d_M_before_40
  replace hw := hw.2 hc
  refine lv_iload_n hx hb d_M_before_12 rfl (lv_at hl 2 rfl) ?_
  refine lv_iconst (v := 1) hx hb d_M_before_13 (by decide) ?_
  refine lv_icmp_le (tgt := 21) hx hb d_M_before_14 rfl (fun hc => ?_) (fun hc => ?_)
  · replace hw := hw.1 hc
    refine lv_iload_n hx hb d_M_before_21 rfl (lv_at hl 2 rfl) ?_
    refine lv_if_ne (tgt := 34) hx hb d_M_before_22 rfl (fun hc => ?_) (fun hc => ?_)
    · replace hw := hw.1 hc
      refine lv_aload_n hx hb d_M_before_34 rfl (lv_at hl 0 rfl) ?_
      refine qf_M_M_second C S qh_426 d_M_before_35 ?_
      refine lv_iload_n hx hb d_M_before_38 rfl (lv_at hl 1 rfl) ?_
      obtain ⟨hi, hw⟩ := hw
      refine qe_M_second C S hi d_M_before_39 ?_
      exact qa_reti C S hw d_M_before_40
    replace hw := hw.2 hc
    refine lv_aload_n hx hb d_M_before_25 rfl (lv_at hl 0 rfl) ?_
    refine qf_M_M_first C S qh_425 d_M_before_26 ?_
    refine lv_iload_n hx hb d_M_before_29 rfl (lv_at hl 1 rfl) ?_
    obtain ⟨hi, hw⟩ := hw
    refine qe_M_first C S hi d_M_before_30 ?_
    refine lv_goto (tgt := 40) hx hb d_M_before_31 rfl ?_
    exact qa_reti C S hw d_M_before_40
  replace hw := hw.2 hc
  refine lv_iconst (v := -1) hx hb d_M_before_17 (by decide) ?_
  refine lv_goto (tgt := 40) hx hb d_M_before_18 rfl ?_
  exact qa_reti C S hw d_M_before_40
set_option maxHeartbeats 4000000 in
set_option maxRecDepth 100000 in
theorem qc_M_visible (l : Launch) (dC : Nat → ClassId) (dI : Nat → Nat → Nat) (a : Nat → Nat) (k : Nat → ClassId) (p1 : Int32) (p2 : Int32) (x : QX) (post : Int32 → QX → Prop) (hw : qw_M_visible p1 p2 x post) : qa_Ci l y_M_visible qv_M_visible qr_M_visible (dC, dI) classes (qM_t k) (qM_w a k) [.ref (a 0), .int p1, .int p2] x post := by
  refine qa_ofWi (by decide) (Nat.le_of_ble_eq_true rfl) ?_
  intro p e s m args below meth c A H locs ls C S hl
  replace hl : lv_has ls 3 [(0, .ref (a 0)), (1, .int p1), (2, .int p2)] := hl
  have hx := C.1
  have hb := C.2.1
  unfold qw_M_visible at hw
  refine lv_aload_n hx hb d_M_visible_0 rfl (lv_at hl 0 rfl) ?_
  refine lv_iload_n hx hb d_M_visible_1 rfl (lv_at hl 1 rfl) ?_
  refine qa_calli (qa_runV (As := [.int p1]) (rest := []) C S (qc_M_there l dC dI a k _ _ _ hw H.size) (cwV 1 C.2.2.2.2.1 qo_M_143_M_there rfl rfl rfl qd_M_there ⟨Nat.le_of_ble_eq_true rfl, Nat.le_of_ble_eq_true rfl⟩) (va_recv (q0 := 0) (ci := 4) S.2.2.1 S.1 rfl rfl) rfl hl.1 rfl (Nat.le_of_ble_eq_true rfl) d_M_visible_2) S (fun r2 x1 H locs hw S => ?_)
  refine lv_if_eq (tgt := 21) hx hb d_M_visible_5 rfl (fun hc => ?_) (fun hc => ?_)
  · replace hw := hw.1 hc
    refine lv_iconst (v := 0) hx hb d_M_visible_21 (by decide) ?_
    exact qa_retz C S ⟨by decide, hw⟩ d_M_visible_22
  replace hw := hw.2 hc
  refine lv_aload_n hx hb d_M_visible_8 rfl (lv_at hl 0 rfl) ?_
  refine lv_iload_n hx hb d_M_visible_9 rfl (lv_at hl 1 rfl) ?_
  refine lv_iload_n hx hb d_M_visible_10 rfl (lv_at hl 2 rfl) ?_
  refine qa_calli (qa_runV (As := [.int p1, .int p2]) (rest := []) C S (qc_M_isVisible l dC dI a k _ _ _ _ hw H.size) (cwV 2 C.2.2.2.2.1 qo_M_113_M_isVisible rfl rfl rfl qd_M_isVisible ⟨Nat.le_of_ble_eq_true rfl, Nat.le_of_ble_eq_true rfl⟩) (va_recv (q0 := 0) (ci := 4) S.2.2.1 S.1 rfl rfl) rfl hl.1 rfl (Nat.le_of_ble_eq_true rfl) d_M_visible_11) S (fun r4 x3 H locs hw S => ?_)
  refine lv_if_eq (tgt := 21) hx hb d_M_visible_14 rfl (fun hc => ?_) (fun hc => ?_)
  · replace hw := hw.1 hc
    refine lv_iconst (v := 0) hx hb d_M_visible_21 (by decide) ?_
    exact qa_retz C S ⟨by decide, hw⟩ d_M_visible_22
  replace hw := hw.2 hc
  refine lv_iconst (v := 1) hx hb d_M_visible_17 (by decide) ?_
  refine lv_goto (tgt := 22) hx hb d_M_visible_18 rfl ?_
  exact qa_retz C S ⟨by decide, hw⟩ d_M_visible_22
set_option maxHeartbeats 4000000 in
set_option maxRecDepth 100000 in
theorem qc_M_working (l : Launch) (dC : Nat → ClassId) (dI : Nat → Nat → Nat) (a : Nat → Nat) (k : Nat → ClassId) (p1 : Int32) (x : QX) (post : Int32 → QX → Prop) (hw : qw_M_working p1 x post) : qa_Ci l y_M_working qv_M_working qr_M_working (dC, dI) classes (qM_t k) (qM_w a k) [.ref (a 0), .int p1] x post := by
  refine qa_ofWi (by decide) (Nat.le_of_ble_eq_true rfl) ?_
  intro p e s m args below meth c A H locs ls C S hl
  replace hl : lv_has ls 2 [(0, .ref (a 0)), (1, .int p1)] := hl
  have hx := C.1
  have hb := C.2.1
  unfold qw_M_working at hw
  refine lv_aload_n hx hb d_M_working_0 rfl (lv_at hl 0 rfl) ?_
  refine lv_iload_n hx hb d_M_working_1 rfl (lv_at hl 1 rfl) ?_
  refine qa_calli (qa_runV (As := [.int p1]) (rest := []) C S (qc_M_there l dC dI a k _ _ _ hw H.size) (cwV 1 C.2.2.2.2.1 qo_M_143_M_there rfl rfl rfl qd_M_there ⟨Nat.le_of_ble_eq_true rfl, Nat.le_of_ble_eq_true rfl⟩) (va_recv (q0 := 0) (ci := 4) S.2.2.1 S.1 rfl rfl) rfl hl.1 rfl (Nat.le_of_ble_eq_true rfl) d_M_working_2) S (fun r2 x1 H locs hw S => ?_)
  refine lv_if_eq (tgt := 17) hx hb d_M_working_5 rfl (fun hc => ?_) (fun hc => ?_)
  · replace hw := hw.1 hc
    refine lv_iconst (v := -1) hx hb d_M_working_17 (by decide) ?_
    exact qa_reti C S hw d_M_working_18
  replace hw := hw.2 hc
  refine lv_aload_n hx hb d_M_working_8 rfl (lv_at hl 0 rfl) ?_
  refine qf_M_M_work C S qh_430 d_M_working_9 ?_
  refine lv_iload_n hx hb d_M_working_12 rfl (lv_at hl 1 rfl) ?_
  obtain ⟨hi, hw⟩ := hw
  refine qe_M_work C S hi d_M_working_13 ?_
  refine lv_goto (tgt := 18) hx hb d_M_working_14 rfl ?_
  exact qa_reti C S hw d_M_working_18
set_option maxHeartbeats 4000000 in
set_option maxRecDepth 100000 in
theorem qc_M_marked (l : Launch) (dC : Nat → ClassId) (dI : Nat → Nat → Nat) (a : Nat → Nat) (k : Nat → ClassId) (p1 : Int32) (p2 : Int32) (x : QX) (post : Int32 → QX → Prop) (hw : qw_M_marked p1 p2 x post) : qa_Ci l y_M_marked qv_M_marked qr_M_marked (dC, dI) classes (qM_t k) (qM_w a k) [.ref (a 0), .int p1, .int p2] x post := by
  refine qa_ofWi (by decide) (Nat.le_of_ble_eq_true rfl) ?_
  intro p e s m args below meth c A H locs ls C S hl
  replace hl : lv_has ls 3 [(0, .ref (a 0)), (1, .int p1), (2, .int p2)] := hl
  have hx := C.1
  have hb := C.2.1
  unfold qw_M_marked at hw
  refine lv_aload_n hx hb d_M_marked_0 rfl (lv_at hl 0 rfl) ?_
  refine lv_iload_n hx hb d_M_marked_1 rfl (lv_at hl 1 rfl) ?_
  refine qa_calli (qa_runV (As := [.int p1]) (rest := []) C S (qc_M_there l dC dI a k _ _ _ hw H.size) (cwV 1 C.2.2.2.2.1 qo_M_143_M_there rfl rfl rfl qd_M_there ⟨Nat.le_of_ble_eq_true rfl, Nat.le_of_ble_eq_true rfl⟩) (va_recv (q0 := 0) (ci := 4) S.2.2.1 S.1 rfl rfl) rfl hl.1 rfl (Nat.le_of_ble_eq_true rfl) d_M_marked_2) S (fun r2 x1 H locs hw S => ?_)
  refine lv_if_eq (tgt := 30) hx hb d_M_marked_5 rfl (fun hc => ?_) (fun hc => ?_)
  · replace hw := hw.1 hc
    refine lv_iconst (v := -1) hx hb d_M_marked_30 (by decide) ?_
    exact qa_reti C S hw d_M_marked_31
  replace hw := hw.2 hc
  refine lv_iload_n hx hb d_M_marked_8 rfl (lv_at hl 2 rfl) ?_
  refine lv_if_lt (tgt := 30) hx hb d_M_marked_9 rfl (fun hc => ?_) (fun hc => ?_)
  · replace hw := hw.1 hc
    refine lv_iconst (v := -1) hx hb d_M_marked_30 (by decide) ?_
    exact qa_reti C S hw d_M_marked_31
  replace hw := hw.2 hc
  refine lv_iload_n hx hb d_M_marked_12 rfl (lv_at hl 2 rfl) ?_
  refine lv_iconst (v := 2) hx hb d_M_marked_13 (by decide) ?_
  refine lv_icmp_gt (tgt := 30) hx hb d_M_marked_14 rfl (fun hc => ?_) (fun hc => ?_)
  · replace hw := hw.1 hc
    refine lv_iconst (v := -1) hx hb d_M_marked_30 (by decide) ?_
    exact qa_reti C S hw d_M_marked_31
  replace hw := hw.2 hc
  refine lv_aload_n hx hb d_M_marked_17 rfl (lv_at hl 0 rfl) ?_
  refine qf_M_M_marks C S qh_429 d_M_marked_18 ?_
  refine lv_iconst (v := 3) hx hb d_M_marked_21 (by decide) ?_
  refine lv_iload_n hx hb d_M_marked_22 rfl (lv_at hl 1 rfl) ?_
  refine lv_imul hx hb d_M_marked_23 ?_
  refine lv_iload_n hx hb d_M_marked_24 rfl (lv_at hl 2 rfl) ?_
  refine lv_iadd hx hb d_M_marked_25 ?_
  obtain ⟨hi, hw⟩ := hw
  refine qe_M_marks C S hi d_M_marked_26 ?_
  refine lv_goto (tgt := 31) hx hb d_M_marked_27 rfl ?_
  exact qa_reti C S hw d_M_marked_31
set_option maxHeartbeats 4000000 in
set_option maxRecDepth 100000 in
theorem qk_M_isHead_H12 {p : Program} {l : Launch} {e : Env} {s : State} {m : MethodId} {args : Array Value} {below : List Frame} {meth : Method} {c : Code} {A : Nat → Prop} {dC : Nat → ClassId} {dI : Nat → Nat → Nat} {a : Nat → Nat} {k : Nat → ClassId} (C : qa_X p s m args meth c b_M_isHead 5 (some .boolean) R_M)  (post : Int32 → QX → Prop)  : ∀ (n : Nat), ∀ (v1 : Int32) (v2 : Int32) (v3 : Int32) (v4 : Int32) (x : QX) (H : Heap) (locs : List Loc) (ls : Array Slot), qw_M_isHead_H12  post n v1 v2 v3 v4 x → qa_S (dC, dI) classes (qM_t k) (qM_w a k) A s x H locs → lv_has ls 5 [(0, .ref (a 0)), (1, .int v1), (2, .int v2), (3, .int v3), (4, .int v4)] → W p l e qr_M_isHead s m args below meth c H locs 0 0 (MQ below (va_Qi post (qa_B (dC, dI) classes (qM_t k) (qM_w a k) A) A) args s 0 0 A) (F0 m 12 ls []) := by
  have hx := C.1
  have hb := C.2.1
  intro n
  induction n with
  | zero => intro v1 v2 v3 v4 x H locs ls hw S hl; exact False.elim hw
  | succ n ih =>
    intro v1 v2 v3 v4 x H locs ls hw S hl
    replace hw : qw_M_isHead_S12  post (qw_M_isHead_H12  post n) v1 v2 v3 v4 x := hw
    unfold qw_M_isHead_S12 at hw
    refine lv_iload hx hb d_M_isHead_12 (lv_at hl 4 rfl) ?_
    refine lv_aload_n hx hb d_M_isHead_14 rfl (lv_at hl 0 rfl) ?_
    refine qf_M_M_commits C S qh_419 d_M_isHead_15 ?_
    refine lv_icmp_ge (tgt := 58) hx hb d_M_isHead_18 rfl (fun hc => ?_) (fun hc => ?_)
    · replace hw := hw.1 hc
      refine lv_iload_n hx hb d_M_isHead_58 rfl (lv_at hl 3 rfl) ?_
      exact qa_retz C S hw d_M_isHead_59
    replace hw := hw.2 hc
    refine lv_iload_n hx hb d_M_isHead_21 rfl (lv_at hl 3 rfl) ?_
    refine lv_if_eq (tgt := 58) hx hb d_M_isHead_22 rfl (fun hc => ?_) (fun hc => ?_)
    · replace hw := hw.1 hc
      refine lv_iload_n hx hb d_M_isHead_58 rfl (lv_at hl 3 rfl) ?_
      exact qa_retz C S hw d_M_isHead_59
    replace hw := hw.2 hc
    refine lv_aload_n hx hb d_M_isHead_25 rfl (lv_at hl 0 rfl) ?_
    refine lv_iload_n hx hb d_M_isHead_26 rfl (lv_at hl 1 rfl) ?_
    refine lv_iload hx hb d_M_isHead_27 (lv_at hl 4 rfl) ?_
    refine qa_calli (qa_runV (As := [.int v1, .int v4]) (rest := []) C S (qc_M_isVisible l dC dI a k _ _ _ _ hw H.size) (cwV 2 C.2.2.2.2.1 qo_M_113_M_isVisible rfl rfl rfl qd_M_isVisible ⟨Nat.le_of_ble_eq_true rfl, Nat.le_of_ble_eq_true rfl⟩) (va_recv (q0 := 0) (ci := 4) S.2.2.1 S.1 rfl rfl) rfl hl.1 rfl (Nat.le_of_ble_eq_true rfl) d_M_isHead_29) S (fun r5 x4 H locs hw S => ?_)
    refine lv_if_eq (tgt := 46) hx hb d_M_isHead_32 rfl (fun hc => ?_) (fun hc => ?_)
    · replace hw := hw.1 hc
      refine lv_iconst (v := 1) hx hb d_M_isHead_46 (by decide) ?_
      refine lv_goto (tgt := 51) hx hb d_M_isHead_47 rfl ?_
      refine lv_istore_n (lv' := [(3, .int (1 : Int32)), (0, .ref (a 0)), (1, .int v1), (2, .int v2), (4, .int v4)]) hx hb d_M_isHead_51 rfl hl (by decide) rfl (fun ls hl => ?_)
      refine lv_iinc (k := 4) (v := v4 + 1) (lv' := [(4, .int (v4 + 1)), (3, .int (1 : Int32)), (0, .ref (a 0)), (1, .int v1), (2, .int v2)]) hx hb d_M_isHead_52 hl rfl rfl (by decide) rfl (fun ls hl => ?_)
      refine lv_goto (tgt := 12) hx hb d_M_isHead_55 rfl ?_
      exact ih _ _ _ _ _ _ _ _ hw S (lv_sub hl [2, 3, 4, 1, 0] rfl)
    replace hw := hw.2 hc
    refine lv_aload_n hx hb d_M_isHead_35 rfl (lv_at hl 0 rfl) ?_
    refine qf_M_M_parent C S qh_422 d_M_isHead_36 ?_
    refine lv_iload hx hb d_M_isHead_39 (lv_at hl 4 rfl) ?_
    obtain ⟨hi, hw⟩ := hw
    refine qe_M_parent C S hi d_M_isHead_41 ?_
    refine lv_iload_n hx hb d_M_isHead_42 rfl (lv_at hl 2 rfl) ?_
    refine lv_icmp_eq (tgt := 50) hx hb d_M_isHead_43 rfl (fun hc => ?_) (fun hc => ?_)
    · replace hw := hw.1 hc
      refine lv_iconst (v := 0) hx hb d_M_isHead_50 (by decide) ?_
      refine lv_istore_n (lv' := [(3, .int (0 : Int32)), (0, .ref (a 0)), (1, .int v1), (2, .int v2), (4, .int v4)]) hx hb d_M_isHead_51 rfl hl (by decide) rfl (fun ls hl => ?_)
      refine lv_iinc (k := 4) (v := v4 + 1) (lv' := [(4, .int (v4 + 1)), (3, .int (0 : Int32)), (0, .ref (a 0)), (1, .int v1), (2, .int v2)]) hx hb d_M_isHead_52 hl rfl rfl (by decide) rfl (fun ls hl => ?_)
      refine lv_goto (tgt := 12) hx hb d_M_isHead_55 rfl ?_
      exact ih _ _ _ _ _ _ _ _ hw S (lv_sub hl [2, 3, 4, 1, 0] rfl)
    replace hw := hw.2 hc
    refine lv_iconst (v := 1) hx hb d_M_isHead_46 (by decide) ?_
    refine lv_goto (tgt := 51) hx hb d_M_isHead_47 rfl ?_
    refine lv_istore_n (lv' := [(3, .int (1 : Int32)), (0, .ref (a 0)), (1, .int v1), (2, .int v2), (4, .int v4)]) hx hb d_M_isHead_51 rfl hl (by decide) rfl (fun ls hl => ?_)
    refine lv_iinc (k := 4) (v := v4 + 1) (lv' := [(4, .int (v4 + 1)), (3, .int (1 : Int32)), (0, .ref (a 0)), (1, .int v1), (2, .int v2)]) hx hb d_M_isHead_52 hl rfl rfl (by decide) rfl (fun ls hl => ?_)
    refine lv_goto (tgt := 12) hx hb d_M_isHead_55 rfl ?_
    exact ih _ _ _ _ _ _ _ _ hw S (lv_sub hl [2, 3, 4, 1, 0] rfl)
set_option maxHeartbeats 4000000 in
set_option maxRecDepth 100000 in
theorem qc_M_isHead (l : Launch) (dC : Nat → ClassId) (dI : Nat → Nat → Nat) (a : Nat → Nat) (k : Nat → ClassId) (p1 : Int32) (p2 : Int32) (x : QX) (post : Int32 → QX → Prop) (hw : qw_M_isHead p1 p2 x post) : qa_Ci l y_M_isHead qv_M_isHead qr_M_isHead (dC, dI) classes (qM_t k) (qM_w a k) [.ref (a 0), .int p1, .int p2] x post := by
  refine qa_ofWi (by decide) (Nat.le_of_ble_eq_true rfl) ?_
  intro p e s m args below meth c A H locs ls C S hl
  replace hl : lv_has ls 5 [(0, .ref (a 0)), (1, .int p1), (2, .int p2)] := hl
  have hx := C.1
  have hb := C.2.1
  unfold qw_M_isHead at hw
  refine lv_aload_n hx hb d_M_isHead_0 rfl (lv_at hl 0 rfl) ?_
  refine lv_iload_n hx hb d_M_isHead_1 rfl (lv_at hl 1 rfl) ?_
  refine lv_iload_n hx hb d_M_isHead_2 rfl (lv_at hl 2 rfl) ?_
  refine qa_calli (qa_runV (As := [.int p1, .int p2]) (rest := []) C S (qc_M_isVisible l dC dI a k _ _ _ _ hw H.size) (cwV 2 C.2.2.2.2.1 qo_M_113_M_isVisible rfl rfl rfl qd_M_isVisible ⟨Nat.le_of_ble_eq_true rfl, Nat.le_of_ble_eq_true rfl⟩) (va_recv (q0 := 0) (ci := 4) S.2.2.1 S.1 rfl rfl) rfl hl.1 rfl (Nat.le_of_ble_eq_true rfl) d_M_isHead_3) S (fun r2 x1 H locs hw S => ?_)
  refine lv_istore_n (lv' := [(3, .int r2), (0, .ref (a 0)), (1, .int p1), (2, .int p2)]) hx hb d_M_isHead_6 rfl hl (by decide) rfl (fun ls hl => ?_)
  refine lv_iload_n hx hb d_M_isHead_7 rfl (lv_at hl 3 rfl) ?_
  refine lv_iconst (v := 1) hx hb d_M_isHead_8 (by decide) ?_
  refine lv_iadd hx hb d_M_isHead_9 ?_
  refine lv_topi (fun t3 et3 => ?_)
  replace hw := hw t3 et3
  refine lv_istore (lv' := [(4, .int t3), (3, .int r2), (0, .ref (a 0)), (1, .int p1), (2, .int p2)]) hx hb d_M_isHead_10 hl (by decide) rfl (fun ls hl => ?_)
  exact qk_M_isHead_H12 C post qFU _ _ _ _ _ _ _ _ hw S (lv_sub hl [2, 3, 4, 1, 0] rfl)
set_option maxHeartbeats 4000000 in
set_option maxRecDepth 100000 in
theorem qk_M_head_H5 {p : Program} {l : Launch} {e : Env} {s : State} {m : MethodId} {args : Array Value} {below : List Frame} {meth : Method} {c : Code} {A : Nat → Prop} {dC : Nat → ClassId} {dI : Nat → Nat → Nat} {a : Nat → Nat} {k : Nat → ClassId} (C : qa_X p s m args meth c b_M_head 5 (some .int) R_M)  (post : Int32 → QX → Prop)  : ∀ (n : Nat), ∀ (v1 : Int32) (v2 : Int32) (v3 : Int32) (v4 : Int32) (x : QX) (H : Heap) (locs : List Loc) (ls : Array Slot), qw_M_head_H5  post n v1 v2 v3 v4 x → qa_S (dC, dI) classes (qM_t k) (qM_w a k) A s x H locs → lv_has ls 5 [(0, .ref (a 0)), (1, .int v1), (2, .int v2), (3, .int v3), (4, .int v4)] → W p l e qr_M_head s m args below meth c H locs 0 0 (MQ below (va_Qi post (qa_B (dC, dI) classes (qM_t k) (qM_w a k) A) A) args s 0 0 A) (F0 m 5 ls []) := by
  have hx := C.1
  have hb := C.2.1
  intro n
  induction n with
  | zero => intro v1 v2 v3 v4 x H locs ls hw S hl; exact False.elim hw
  | succ n ih =>
    intro v1 v2 v3 v4 x H locs ls hw S hl
    replace hw : qw_M_head_S5  post (qw_M_head_H5  post n) v1 v2 v3 v4 x := hw
    unfold qw_M_head_S5 at hw
    refine lv_iload hx hb d_M_head_5 (lv_at hl 4 rfl) ?_
    refine lv_aload_n hx hb d_M_head_7 rfl (lv_at hl 0 rfl) ?_
    refine qf_M_M_commits C S qh_419 d_M_head_8 ?_
    refine lv_icmp_ge (tgt := 48) hx hb d_M_head_11 rfl (fun hc => ?_) (fun hc => ?_)
    · replace hw := hw.1 hc
      refine lv_iconst (v := -1) hx hb d_M_head_48 (by decide) ?_
      exact qa_reti C S hw d_M_head_49
    replace hw := hw.2 hc
    refine lv_aload_n hx hb d_M_head_14 rfl (lv_at hl 0 rfl) ?_
    refine lv_iload_n hx hb d_M_head_15 rfl (lv_at hl 1 rfl) ?_
    refine qa_calli (qa_runV (As := [.int v1]) (rest := []) C S (qc_M_there l dC dI a k _ _ _ hw H.size) (cwV 1 C.2.2.2.2.1 qo_M_143_M_there rfl rfl rfl qd_M_there ⟨Nat.le_of_ble_eq_true rfl, Nat.le_of_ble_eq_true rfl⟩) (va_recv (q0 := 0) (ci := 4) S.2.2.1 S.1 rfl rfl) rfl hl.1 rfl (Nat.le_of_ble_eq_true rfl) d_M_head_16) S (fun r2 x1 H locs hw S => ?_)
    refine lv_if_eq (tgt := 48) hx hb d_M_head_19 rfl (fun hc => ?_) (fun hc => ?_)
    · replace hw := hw.1 hc
      refine lv_iconst (v := -1) hx hb d_M_head_48 (by decide) ?_
      exact qa_reti C S hw d_M_head_49
    replace hw := hw.2 hc
    refine lv_aload_n hx hb d_M_head_22 rfl (lv_at hl 0 rfl) ?_
    refine lv_iload_n hx hb d_M_head_23 rfl (lv_at hl 1 rfl) ?_
    refine lv_iload hx hb d_M_head_24 (lv_at hl 4 rfl) ?_
    refine qa_calli (qa_runV (As := [.int v1, .int v4]) (rest := []) C S (qc_M_isHead l dC dI a k _ _ _ _ hw H.size) (cwV 2 C.2.2.2.2.1 qo_M_147_M_isHead rfl rfl rfl qd_M_isHead ⟨Nat.le_of_ble_eq_true rfl, Nat.le_of_ble_eq_true rfl⟩) (va_recv (q0 := 0) (ci := 4) S.2.2.1 S.1 rfl rfl) rfl hl.1 rfl (Nat.le_of_ble_eq_true rfl) d_M_head_26) S (fun r4 x3 H locs hw S => ?_)
    refine lv_if_eq (tgt := 42) hx hb d_M_head_29 rfl (fun hc => ?_) (fun hc => ?_)
    · replace hw := hw.1 hc
      refine lv_iinc (k := 4) (v := v4 + 1) (lv' := [(4, .int (v4 + 1)), (0, .ref (a 0)), (1, .int v1), (2, .int v2), (3, .int v3)]) hx hb d_M_head_42 hl rfl rfl (by decide) rfl (fun ls hl => ?_)
      refine lv_goto (tgt := 5) hx hb d_M_head_45 rfl ?_
      exact ih _ _ _ _ _ _ _ _ hw S (lv_sub hl [1, 2, 3, 4, 0] rfl)
    replace hw := hw.2 hc
    refine lv_iload_n hx hb d_M_head_32 rfl (lv_at hl 3 rfl) ?_
    refine lv_if_ne (tgt := 39) hx hb d_M_head_33 rfl (fun hc => ?_) (fun hc => ?_)
    · replace hw := hw.1 hc
      refine lv_iinc (k := 3) (v := v3 + (-1)) (lv' := [(3, .int (v3 + (-1))), (0, .ref (a 0)), (1, .int v1), (2, .int v2), (4, .int v4)]) hx hb d_M_head_39 hl rfl rfl (by decide) rfl (fun ls hl => ?_)
      refine lv_iinc (k := 4) (v := v4 + 1) (lv' := [(4, .int (v4 + 1)), (3, .int (v3 + (-1))), (0, .ref (a 0)), (1, .int v1), (2, .int v2)]) hx hb d_M_head_42 hl rfl rfl (by decide) rfl (fun ls hl => ?_)
      refine lv_goto (tgt := 5) hx hb d_M_head_45 rfl ?_
      exact ih _ _ _ _ _ _ _ _ hw S (lv_sub hl [2, 3, 4, 1, 0] rfl)
    replace hw := hw.2 hc
    refine lv_iload hx hb d_M_head_36 (lv_at hl 4 rfl) ?_
    exact qa_reti C S hw d_M_head_38
set_option maxHeartbeats 4000000 in
set_option maxRecDepth 100000 in
theorem qc_M_head (l : Launch) (dC : Nat → ClassId) (dI : Nat → Nat → Nat) (a : Nat → Nat) (k : Nat → ClassId) (p1 : Int32) (p2 : Int32) (x : QX) (post : Int32 → QX → Prop) (hw : qw_M_head p1 p2 x post) : qa_Ci l y_M_head qv_M_head qr_M_head (dC, dI) classes (qM_t k) (qM_w a k) [.ref (a 0), .int p1, .int p2] x post := by
  refine qa_ofWi (by decide) (Nat.le_of_ble_eq_true rfl) ?_
  intro p e s m args below meth c A H locs ls C S hl
  replace hl : lv_has ls 5 [(0, .ref (a 0)), (1, .int p1), (2, .int p2)] := hl
  have hx := C.1
  have hb := C.2.1
  unfold qw_M_head at hw
  refine lv_iload_n hx hb d_M_head_0 rfl (lv_at hl 2 rfl) ?_
  refine lv_istore_n (lv' := [(3, .int p2), (0, .ref (a 0)), (1, .int p1), (2, .int p2)]) hx hb d_M_head_1 rfl hl (by decide) rfl (fun ls hl => ?_)
  refine lv_iconst (v := 0) hx hb d_M_head_2 (by decide) ?_
  refine lv_istore (lv' := [(4, .int (0 : Int32)), (3, .int p2), (0, .ref (a 0)), (1, .int p1), (2, .int p2)]) hx hb d_M_head_3 hl (by decide) rfl (fun ls hl => ?_)
  exact qk_M_head_H5 C post qFU _ _ _ _ _ _ _ _ hw S (lv_sub hl [2, 3, 4, 1, 0] rfl)
set_option maxHeartbeats 4000000 in
set_option maxRecDepth 100000 in
theorem qc_M_commit (l : Launch) (dC : Nat → ClassId) (dI : Nat → Nat → Nat) (a : Nat → Nat) (k : Nat → ClassId) (p1 : Int32) (p2 : Int32) (x : QX) (post : Int32 → QX → Prop) (hw : qw_M_commit p1 p2 x post) : qa_Ci l y_M_commit qv_M_commit qr_M_commit (dC, dI) classes (qM_t k) (qM_w a k) [.ref (a 0), .int p1, .int p2] x post := by
  refine qa_ofWi (by decide) (Nat.le_of_ble_eq_true rfl) ?_
  intro p e s m args below meth c A H locs ls C S hl
  replace hl : lv_has ls 3 [(0, .ref (a 0)), (1, .int p1), (2, .int p2)] := hl
  have hx := C.1
  have hb := C.2.1
  unfold qw_M_commit at hw
  refine lv_iload_n hx hb d_M_commit_0 rfl (lv_at hl 1 rfl) ?_
  refine lv_if_lt (tgt := 21) hx hb d_M_commit_1 rfl (fun hc => ?_) (fun hc => ?_)
  · replace hw := hw.1 hc
    refine lv_iconst (v := -1) hx hb d_M_commit_21 (by decide) ?_
    refine lv_goto (tgt := 44) hx hb d_M_commit_22 rfl ?_
    exact qa_reti C S hw d_M_commit_44
  replace hw := hw.2 hc
  refine lv_iload_n hx hb d_M_commit_4 rfl (lv_at hl 1 rfl) ?_
  refine lv_aload_n hx hb d_M_commit_5 rfl (lv_at hl 0 rfl) ?_
  refine qf_M_M_commits C S qh_419 d_M_commit_6 ?_
  refine lv_icmp_ge (tgt := 21) hx hb d_M_commit_9 rfl (fun hc => ?_) (fun hc => ?_)
  · replace hw := hw.1 hc
    refine lv_iconst (v := -1) hx hb d_M_commit_21 (by decide) ?_
    refine lv_goto (tgt := 44) hx hb d_M_commit_22 rfl ?_
    exact qa_reti C S hw d_M_commit_44
  replace hw := hw.2 hc
  refine lv_iload_n hx hb d_M_commit_12 rfl (lv_at hl 2 rfl) ?_
  refine lv_if_lt (tgt := 21) hx hb d_M_commit_13 rfl (fun hc => ?_) (fun hc => ?_)
  · replace hw := hw.1 hc
    refine lv_iconst (v := -1) hx hb d_M_commit_21 (by decide) ?_
    refine lv_goto (tgt := 44) hx hb d_M_commit_22 rfl ?_
    exact qa_reti C S hw d_M_commit_44
  replace hw := hw.2 hc
  refine lv_iload_n hx hb d_M_commit_16 rfl (lv_at hl 2 rfl) ?_
  refine lv_iconst (v := 1) hx hb d_M_commit_17 (by decide) ?_
  refine lv_icmp_le (tgt := 25) hx hb d_M_commit_18 rfl (fun hc => ?_) (fun hc => ?_)
  · replace hw := hw.1 hc
    refine lv_iload_n hx hb d_M_commit_25 rfl (lv_at hl 2 rfl) ?_
    refine lv_if_ne (tgt := 38) hx hb d_M_commit_26 rfl (fun hc => ?_) (fun hc => ?_)
    · replace hw := hw.1 hc
      refine lv_aload_n hx hb d_M_commit_38 rfl (lv_at hl 0 rfl) ?_
      refine qf_M_M_change C S qh_421 d_M_commit_39 ?_
      refine lv_iload_n hx hb d_M_commit_42 rfl (lv_at hl 1 rfl) ?_
      obtain ⟨hi, hw⟩ := hw
      refine qe_M_change C S hi d_M_commit_43 ?_
      exact qa_reti C S hw d_M_commit_44
    replace hw := hw.2 hc
    refine lv_aload_n hx hb d_M_commit_29 rfl (lv_at hl 0 rfl) ?_
    refine qf_M_M_parent C S qh_422 d_M_commit_30 ?_
    refine lv_iload_n hx hb d_M_commit_33 rfl (lv_at hl 1 rfl) ?_
    obtain ⟨hi, hw⟩ := hw
    refine qe_M_parent C S hi d_M_commit_34 ?_
    refine lv_goto (tgt := 44) hx hb d_M_commit_35 rfl ?_
    exact qa_reti C S hw d_M_commit_44
  replace hw := hw.2 hc
  refine lv_iconst (v := -1) hx hb d_M_commit_21 (by decide) ?_
  refine lv_goto (tgt := 44) hx hb d_M_commit_22 rfl ?_
  exact qa_reti C S hw d_M_commit_44
set_option maxHeartbeats 4000000 in
set_option maxRecDepth 100000 in
theorem qc_M_count (l : Launch) (dC : Nat → ClassId) (dI : Nat → Nat → Nat) (a : Nat → Nat) (k : Nat → ClassId) (p1 : Int32) (p2 : Int32) (p3 : Int32) (x : QX) (post : Int64 → QX → Prop) (hw : qw_M_count p1 p2 p3 x post) : qa_Cl l y_M_count qv_M_count qr_M_count (dC, dI) classes (qM_t k) (qM_w a k) [.ref (a 0), .int p1, .int p2, .int p3] x post := by
  refine qa_ofWl (by decide) (Nat.le_of_ble_eq_true rfl) ?_
  intro p e s m args below meth c A H locs ls C S hl
  replace hl : lv_has ls 4 [(0, .ref (a 0)), (1, .int p1), (2, .int p2), (3, .int p3)] := hl
  have hx := C.1
  have hb := C.2.1
  unfold qw_M_count at hw
  refine lv_iload_n hx hb d_M_count_0 rfl (lv_at hl 1 rfl) ?_
  refine lv_if_lt (tgt := 31) hx hb d_M_count_1 rfl (fun hc => ?_) (fun hc => ?_)
  · replace hw := hw.1 hc
    refine lv_lconst (v := 0) hx hb d_M_count_31 (by decide) ?_
    refine lv_goto (tgt := 51) hx hb d_M_count_32 rfl ?_
    exact qa_retl C S hw d_M_count_51
  replace hw := hw.2 hc
  refine lv_iload_n hx hb d_M_count_4 rfl (lv_at hl 1 rfl) ?_
  refine lv_aload_n hx hb d_M_count_5 rfl (lv_at hl 0 rfl) ?_
  refine qf_M_M_commits C S qh_419 d_M_count_6 ?_
  refine lv_icmp_ge (tgt := 31) hx hb d_M_count_9 rfl (fun hc => ?_) (fun hc => ?_)
  · replace hw := hw.1 hc
    refine lv_lconst (v := 0) hx hb d_M_count_31 (by decide) ?_
    refine lv_goto (tgt := 51) hx hb d_M_count_32 rfl ?_
    exact qa_retl C S hw d_M_count_51
  replace hw := hw.2 hc
  refine lv_iload_n hx hb d_M_count_12 rfl (lv_at hl 2 rfl) ?_
  refine lv_if_lt (tgt := 31) hx hb d_M_count_13 rfl (fun hc => ?_) (fun hc => ?_)
  · replace hw := hw.1 hc
    refine lv_lconst (v := 0) hx hb d_M_count_31 (by decide) ?_
    refine lv_goto (tgt := 51) hx hb d_M_count_32 rfl ?_
    exact qa_retl C S hw d_M_count_51
  replace hw := hw.2 hc
  refine lv_iload_n hx hb d_M_count_16 rfl (lv_at hl 2 rfl) ?_
  refine lv_iconst (v := 3) hx hb d_M_count_17 (by decide) ?_
  refine lv_icmp_gt (tgt := 31) hx hb d_M_count_18 rfl (fun hc => ?_) (fun hc => ?_)
  · replace hw := hw.1 hc
    refine lv_lconst (v := 0) hx hb d_M_count_31 (by decide) ?_
    refine lv_goto (tgt := 51) hx hb d_M_count_32 rfl ?_
    exact qa_retl C S hw d_M_count_51
  replace hw := hw.2 hc
  refine lv_iload_n hx hb d_M_count_21 rfl (lv_at hl 3 rfl) ?_
  refine lv_if_lt (tgt := 31) hx hb d_M_count_22 rfl (fun hc => ?_) (fun hc => ?_)
  · replace hw := hw.1 hc
    refine lv_lconst (v := 0) hx hb d_M_count_31 (by decide) ?_
    refine lv_goto (tgt := 51) hx hb d_M_count_32 rfl ?_
    exact qa_retl C S hw d_M_count_51
  replace hw := hw.2 hc
  refine lv_iload_n hx hb d_M_count_25 rfl (lv_at hl 3 rfl) ?_
  refine lv_bipush (v := 7) hx hb d_M_count_26 (by decide) ?_
  refine lv_icmp_le (tgt := 35) hx hb d_M_count_28 rfl (fun hc => ?_) (fun hc => ?_)
  · replace hw := hw.1 hc
    refine lv_aload_n hx hb d_M_count_35 rfl (lv_at hl 0 rfl) ?_
    refine qf_M_M_counts C S qh_423 d_M_count_36 ?_
    refine lv_bipush (v := 32) hx hb d_M_count_39 (by decide) ?_
    refine lv_iload_n hx hb d_M_count_41 rfl (lv_at hl 1 rfl) ?_
    refine lv_imul hx hb d_M_count_42 ?_
    refine lv_bipush (v := 8) hx hb d_M_count_43 (by decide) ?_
    refine lv_iload_n hx hb d_M_count_45 rfl (lv_at hl 2 rfl) ?_
    refine lv_imul hx hb d_M_count_46 ?_
    refine lv_iadd hx hb d_M_count_47 ?_
    refine lv_iload_n hx hb d_M_count_48 rfl (lv_at hl 3 rfl) ?_
    refine lv_iadd hx hb d_M_count_49 ?_
    obtain ⟨hi, hw⟩ := hw
    refine qe_M_counts C S hi d_M_count_50 ?_
    exact qa_retl C S hw d_M_count_51
  replace hw := hw.2 hc
  refine lv_lconst (v := 0) hx hb d_M_count_31 (by decide) ?_
  refine lv_goto (tgt := 51) hx hb d_M_count_32 rfl ?_
  exact qa_retl C S hw d_M_count_51
