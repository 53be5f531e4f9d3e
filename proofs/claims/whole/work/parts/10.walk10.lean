set_option maxHeartbeats 4000000 in
set_option maxRecDepth 100000 in
theorem qc_M_mark (l : Launch) (dC : Nat → ClassId) (dI : Nat → Nat → Nat) (a : Nat → Nat) (k : Nat → ClassId) (p1 : Int32) (p2 : Int32) (x : QX) (post : Int32 → QX → Prop) (hw : qw_M_mark p1 p2 x post) : qa_Ci l y_M_mark qv_M_mark qr_M_mark (dC, dI) classes (qM_t k) (qM_w a k) [.ref (a 0), .int p1, .int p2] x post := by
  refine qa_ofWi (by decide) (Nat.le_of_ble_eq_true rfl) ?_
  intro p e s m args below meth c A H locs ls C S hl
  replace hl : lv_has ls 3 [(0, .ref (a 0)), (1, .int p1), (2, .int p2)] := hl
  have hx := C.1
  have hb := C.2.1
  unfold qw_M_mark at hw
  refine lv_iload_n hx hb d_M_mark_0 rfl (lv_at hl 1 rfl) ?_
  refine lv_if_lt (tgt := 26) hx hb d_M_mark_1 rfl (fun hc => ?_) (fun hc => ?_)
  · replace hw := hw.1 hc
    refine lv_iconst (v := -1) hx hb d_M_mark_26 (by decide) ?_
    exact qa_reti C S hw d_M_mark_27
  replace hw := hw.2 hc
  refine lv_iload_n hx hb d_M_mark_4 rfl (lv_at hl 1 rfl) ?_
  refine lv_iconst (v := 2) hx hb d_M_mark_5 (by decide) ?_
  refine lv_icmp_gt (tgt := 26) hx hb d_M_mark_6 rfl (fun hc => ?_) (fun hc => ?_)
  · replace hw := hw.1 hc
    refine lv_iconst (v := -1) hx hb d_M_mark_26 (by decide) ?_
    exact qa_reti C S hw d_M_mark_27
  replace hw := hw.2 hc
  refine lv_iload_n hx hb d_M_mark_9 rfl (lv_at hl 2 rfl) ?_
  refine lv_iconst (v := -1) hx hb d_M_mark_10 (by decide) ?_
  refine lv_icmp_eq (tgt := 28) hx hb d_M_mark_11 rfl (fun hc => ?_) (fun hc => ?_)
  · replace hw := hw.1 hc
    refine lv_aload_n hx hb d_M_mark_28 rfl (lv_at hl 0 rfl) ?_
    refine qf_M_M_marks C S qh_429 d_M_mark_29 ?_
    refine lv_iconst (v := 3) hx hb d_M_mark_32 (by decide) ?_
    refine lv_aload_n hx hb d_M_mark_33 rfl (lv_at hl 0 rfl) ?_
    refine qa_calli (qa_runV (As := []) (rest := [.int (3 : Int32), .ref (a 8)]) C S (qc_M_here l dC dI a k _ _ hw H.size) (cwV 0 C.2.2.2.2.1 qo_M_107_M_here rfl rfl rfl qd_M_here ⟨Nat.le_of_ble_eq_true rfl, Nat.le_of_ble_eq_true rfl⟩) (va_recv (q0 := 0) (ci := 4) S.2.2.1 S.1 rfl rfl) rfl hl.1 rfl (Nat.le_of_ble_eq_true rfl) d_M_mark_34) S (fun r2 x1 H locs hw S => ?_)
    refine lv_imul hx hb d_M_mark_37 ?_
    refine lv_iload_n hx hb d_M_mark_38 rfl (lv_at hl 1 rfl) ?_
    refine lv_iadd hx hb d_M_mark_39 ?_
    obtain ⟨hi, hw⟩ := hw
    refine qe_M_marks C S hi d_M_mark_40 ?_
    refine lv_iload_n hx hb d_M_mark_41 rfl (lv_at hl 2 rfl) ?_
    refine lv_icmp_ne (tgt := 48) hx hb d_M_mark_42 rfl (fun hc => ?_) (fun hc => ?_)
    · replace hw := hw.1 hc
      refine lv_aload_n hx hb d_M_mark_48 rfl (lv_at hl 0 rfl) ?_
      refine lv_aload_n hx hb d_M_mark_49 rfl (lv_at hl 0 rfl) ?_
      refine qa_calli (qa_runV (As := []) (rest := [.ref (a 0)]) C S (qc_M_here l dC dI a k _ _ hw H.size) (cwV 0 C.2.2.2.2.1 qo_M_107_M_here rfl rfl rfl qd_M_here ⟨Nat.le_of_ble_eq_true rfl, Nat.le_of_ble_eq_true rfl⟩) (va_recv (q0 := 0) (ci := 4) S.2.2.1 S.1 rfl rfl) rfl hl.1 rfl (Nat.le_of_ble_eq_true rfl) d_M_mark_50) S (fun r4 x3 H locs hw S => ?_)
      refine qa_callv (qa_runV (As := [.int r4]) (rest := []) C S (qc_M_begin l dC dI a k _ _ _ hw H.size) (cwV 1 C.2.2.2.2.1 qo_M_116_M_begin rfl rfl rfl qd_M_begin ⟨Nat.le_of_ble_eq_true rfl, Nat.le_of_ble_eq_true rfl⟩) (va_recv (q0 := 0) (ci := 4) S.2.2.1 S.1 rfl rfl) rfl hl.1 rfl (Nat.le_of_ble_eq_true rfl) d_M_mark_53) S (fun x5 H locs hw S => ?_)
      refine lv_aload_n hx hb d_M_mark_56 rfl (lv_at hl 0 rfl) ?_
      refine qf_M_M_nowMark C S qh_436 d_M_mark_57 ?_
      refine lv_iload_n hx hb d_M_mark_60 rfl (lv_at hl 1 rfl) ?_
      refine lv_iload_n hx hb d_M_mark_61 rfl (lv_at hl 2 rfl) ?_
      obtain ⟨hi, hw⟩ := hw
      refine qt_M_nowMark C S hi d_M_mark_62 (fun x6 H locs ex6 S => ?_)
      replace hw := hw x6 ex6
      refine lv_aload_n hx hb d_M_mark_63 rfl (lv_at hl 0 rfl) ?_
      refine qa_calli (qa_runV (As := []) (rest := []) C S (qc_M_done l dC dI a k _ _ hw H.size) (cwV 0 C.2.2.2.2.1 qo_M_123_M_done rfl rfl rfl qd_M_done ⟨Nat.le_of_ble_eq_true rfl, Nat.le_of_ble_eq_true rfl⟩) (va_recv (q0 := 0) (ci := 4) S.2.2.1 S.1 rfl rfl) rfl hl.1 rfl (Nat.le_of_ble_eq_true rfl) d_M_mark_64) S (fun r8 x7 H locs hw S => ?_)
      exact qa_reti C S hw d_M_mark_67
    replace hw := hw.2 hc
    refine lv_bipush (v := -2) hx hb d_M_mark_45 (by decide) ?_
    exact qa_reti C S hw d_M_mark_47
  replace hw := hw.2 hc
  refine lv_aload_n hx hb d_M_mark_14 rfl (lv_at hl 0 rfl) ?_
  refine lv_aload_n hx hb d_M_mark_15 rfl (lv_at hl 0 rfl) ?_
  refine qa_calli (qa_runV (As := []) (rest := [.ref (a 0)]) C S (qc_M_here l dC dI a k _ _ hw H.size) (cwV 0 C.2.2.2.2.1 qo_M_107_M_here rfl rfl rfl qd_M_here ⟨Nat.le_of_ble_eq_true rfl, Nat.le_of_ble_eq_true rfl⟩) (va_recv (q0 := 0) (ci := 4) S.2.2.1 S.1 rfl rfl) rfl hl.1 rfl (Nat.le_of_ble_eq_true rfl) d_M_mark_16) S (fun r10 x9 H locs hw S => ?_)
  refine lv_iload_n hx hb d_M_mark_19 rfl (lv_at hl 2 rfl) ?_
  refine qa_calli (qa_runV (As := [.int r10, .int p2]) (rest := []) C S (qc_M_isVisible l dC dI a k _ _ _ _ hw H.size) (cwV 2 C.2.2.2.2.1 qo_M_113_M_isVisible rfl rfl rfl qd_M_isVisible ⟨Nat.le_of_ble_eq_true rfl, Nat.le_of_ble_eq_true rfl⟩) (va_recv (q0 := 0) (ci := 4) S.2.2.1 S.1 rfl rfl) rfl hl.1 rfl (Nat.le_of_ble_eq_true rfl) d_M_mark_20) S (fun r12 x11 H locs hw S => ?_)
  refine lv_if_ne (tgt := 28) hx hb d_M_mark_23 rfl (fun hc => ?_) (fun hc => ?_)
  · replace hw := hw.1 hc
    refine lv_aload_n hx hb d_M_mark_28 rfl (lv_at hl 0 rfl) ?_
    refine qf_M_M_marks C S qh_429 d_M_mark_29 ?_
    refine lv_iconst (v := 3) hx hb d_M_mark_32 (by decide) ?_
    refine lv_aload_n hx hb d_M_mark_33 rfl (lv_at hl 0 rfl) ?_
    refine qa_calli (qa_runV (As := []) (rest := [.int (3 : Int32), .ref (a 8)]) C S (qc_M_here l dC dI a k _ _ hw H.size) (cwV 0 C.2.2.2.2.1 qo_M_107_M_here rfl rfl rfl qd_M_here ⟨Nat.le_of_ble_eq_true rfl, Nat.le_of_ble_eq_true rfl⟩) (va_recv (q0 := 0) (ci := 4) S.2.2.1 S.1 rfl rfl) rfl hl.1 rfl (Nat.le_of_ble_eq_true rfl) d_M_mark_34) S (fun r14 x13 H locs hw S => ?_)
    refine lv_imul hx hb d_M_mark_37 ?_
    refine lv_iload_n hx hb d_M_mark_38 rfl (lv_at hl 1 rfl) ?_
    refine lv_iadd hx hb d_M_mark_39 ?_
    obtain ⟨hi, hw⟩ := hw
    refine qe_M_marks C S hi d_M_mark_40 ?_
    refine lv_iload_n hx hb d_M_mark_41 rfl (lv_at hl 2 rfl) ?_
    refine lv_icmp_ne (tgt := 48) hx hb d_M_mark_42 rfl (fun hc => ?_) (fun hc => ?_)
    · replace hw := hw.1 hc
      refine lv_aload_n hx hb d_M_mark_48 rfl (lv_at hl 0 rfl) ?_
      refine lv_aload_n hx hb d_M_mark_49 rfl (lv_at hl 0 rfl) ?_
      refine qa_calli (qa_runV (As := []) (rest := [.ref (a 0)]) C S (qc_M_here l dC dI a k _ _ hw H.size) (cwV 0 C.2.2.2.2.1 qo_M_107_M_here rfl rfl rfl qd_M_here ⟨Nat.le_of_ble_eq_true rfl, Nat.le_of_ble_eq_true rfl⟩) (va_recv (q0 := 0) (ci := 4) S.2.2.1 S.1 rfl rfl) rfl hl.1 rfl (Nat.le_of_ble_eq_true rfl) d_M_mark_50) S (fun r16 x15 H locs hw S => ?_)
      refine qa_callv (qa_runV (As := [.int r16]) (rest := []) C S (qc_M_begin l dC dI a k _ _ _ hw H.size) (cwV 1 C.2.2.2.2.1 qo_M_116_M_begin rfl rfl rfl qd_M_begin ⟨Nat.le_of_ble_eq_true rfl, Nat.le_of_ble_eq_true rfl⟩) (va_recv (q0 := 0) (ci := 4) S.2.2.1 S.1 rfl rfl) rfl hl.1 rfl (Nat.le_of_ble_eq_true rfl) d_M_mark_53) S (fun x17 H locs hw S => ?_)
      refine lv_aload_n hx hb d_M_mark_56 rfl (lv_at hl 0 rfl) ?_
      refine qf_M_M_nowMark C S qh_436 d_M_mark_57 ?_
      refine lv_iload_n hx hb d_M_mark_60 rfl (lv_at hl 1 rfl) ?_
      refine lv_iload_n hx hb d_M_mark_61 rfl (lv_at hl 2 rfl) ?_
      obtain ⟨hi, hw⟩ := hw
      refine qt_M_nowMark C S hi d_M_mark_62 (fun x18 H locs ex18 S => ?_)
      replace hw := hw x18 ex18
      refine lv_aload_n hx hb d_M_mark_63 rfl (lv_at hl 0 rfl) ?_
      refine qa_calli (qa_runV (As := []) (rest := []) C S (qc_M_done l dC dI a k _ _ hw H.size) (cwV 0 C.2.2.2.2.1 qo_M_123_M_done rfl rfl rfl qd_M_done ⟨Nat.le_of_ble_eq_true rfl, Nat.le_of_ble_eq_true rfl⟩) (va_recv (q0 := 0) (ci := 4) S.2.2.1 S.1 rfl rfl) rfl hl.1 rfl (Nat.le_of_ble_eq_true rfl) d_M_mark_64) S (fun r20 x19 H locs hw S => ?_)
      exact qa_reti C S hw d_M_mark_67
    replace hw := hw.2 hc
    refine lv_bipush (v := -2) hx hb d_M_mark_45 (by decide) ?_
    exact qa_reti C S hw d_M_mark_47
  replace hw := hw.2 hc
  refine lv_iconst (v := -1) hx hb d_M_mark_26 (by decide) ?_
  exact qa_reti C S hw d_M_mark_27
set_option maxHeartbeats 4000000 in
set_option maxRecDepth 100000 in
theorem qc_M_undo (l : Launch) (dC : Nat → ClassId) (dI : Nat → Nat → Nat) (a : Nat → Nat) (k : Nat → ClassId)  (x : QX) (post : Int32 → QX → Prop) (hw : qw_M_undo  x post) : qa_Ci l y_M_undo qv_M_undo qr_M_undo (dC, dI) classes (qM_t k) (qM_w a k) [.ref (a 0)] x post := by
  refine qa_ofWi (by decide) (Nat.le_of_ble_eq_true rfl) ?_
  intro p e s m args below meth c A H locs ls C S hl
  replace hl : lv_has ls 2 [(0, .ref (a 0))] := hl
  have hx := C.1
  have hb := C.2.1
  unfold qw_M_undo at hw
  refine lv_aload_n hx hb d_M_undo_0 rfl (lv_at hl 0 rfl) ?_
  refine qa_calli (qa_runV (As := []) (rest := []) C S (qc_M_here l dC dI a k _ _ hw H.size) (cwV 0 C.2.2.2.2.1 qo_M_107_M_here rfl rfl rfl qd_M_here ⟨Nat.le_of_ble_eq_true rfl, Nat.le_of_ble_eq_true rfl⟩) (va_recv (q0 := 0) (ci := 4) S.2.2.1 S.1 rfl rfl) rfl hl.1 rfl (Nat.le_of_ble_eq_true rfl) d_M_undo_1) S (fun r2 x1 H locs hw S => ?_)
  refine lv_istore_n (lv' := [(1, .int r2), (0, .ref (a 0))]) hx hb d_M_undo_4 rfl hl (by decide) rfl (fun ls hl => ?_)
  refine lv_iload_n hx hb d_M_undo_5 rfl (lv_at hl 0 rfl) ?_
  refine lv_if_eq (tgt := 18) hx hb d_M_undo_6 rfl (fun hc => ?_) (fun hc => ?_)
  · replace hw := hw.1 hc
    refine lv_iconst (v := -1) hx hb d_M_undo_18 (by decide) ?_
    exact qa_reti C S hw d_M_undo_19
  replace hw := hw.2 hc
  refine lv_aload_n hx hb d_M_undo_9 rfl (lv_at hl 1 rfl) ?_
  refine qf_M_M_joined C S qh_427 d_M_undo_10 ?_
  refine lv_iload_n hx hb d_M_undo_13 rfl (lv_at hl 0 rfl) ?_
  obtain ⟨hi, hw⟩ := hw
  refine qe_M_joined C S hi d_M_undo_14 ?_
  refine lv_if_eq (tgt := 20) hx hb d_M_undo_15 rfl (fun hc => ?_) (fun hc => ?_)
  · replace hw := hw.1 hc
    refine lv_aload_n hx hb d_M_undo_20 rfl (lv_at hl 1 rfl) ?_
    refine lv_aload_n hx hb d_M_undo_21 rfl (lv_at hl 1 rfl) ?_
    refine qf_M_M_first C S qh_425 d_M_undo_22 ?_
    refine lv_iload_n hx hb d_M_undo_25 rfl (lv_at hl 0 rfl) ?_
    obtain ⟨hi, hw⟩ := hw
    refine qe_M_first C S hi d_M_undo_26 ?_
    refine qa_callv (qa_runV (As := [.int (gA x1 2 r2.toNatClampNeg)]) (rest := []) C S (qc_M_begin l dC dI a k _ _ _ hw H.size) (cwV 1 C.2.2.2.2.1 qo_M_116_M_begin rfl rfl rfl qd_M_begin ⟨Nat.le_of_ble_eq_true rfl, Nat.le_of_ble_eq_true rfl⟩) (va_recv (q0 := 0) (ci := 4) S.2.2.1 S.1 rfl rfl) rfl hl.1 rfl (Nat.le_of_ble_eq_true rfl) d_M_undo_27) S (fun x3 H locs hw S => ?_)
    refine lv_aload_n hx hb d_M_undo_30 rfl (lv_at hl 1 rfl) ?_
    refine qa_calli (qa_runV (As := []) (rest := []) C S (qc_M_done l dC dI a k _ _ hw H.size) (cwV 0 C.2.2.2.2.1 qo_M_123_M_done rfl rfl rfl qd_M_done ⟨Nat.le_of_ble_eq_true rfl, Nat.le_of_ble_eq_true rfl⟩) (va_recv (q0 := 0) (ci := 4) S.2.2.1 S.1 rfl rfl) rfl hl.1 rfl (Nat.le_of_ble_eq_true rfl) d_M_undo_31) S (fun r5 x4 H locs hw S => ?_)
    exact qa_reti C S hw d_M_undo_34
  replace hw := hw.2 hc
  refine lv_iconst (v := -1) hx hb d_M_undo_18 (by decide) ?_
  exact qa_reti C S hw d_M_undo_19
set_option maxHeartbeats 4000000 in
set_option maxRecDepth 100000 in
theorem qc_M_restore (l : Launch) (dC : Nat → ClassId) (dI : Nat → Nat → Nat) (a : Nat → Nat) (k : Nat → ClassId) (p1 : Int32) (x : QX) (post : Int32 → QX → Prop) (hw : qw_M_restore p1 x post) : qa_Ci l y_M_restore qv_M_restore qr_M_restore (dC, dI) classes (qM_t k) (qM_w a k) [.ref (a 0), .int p1] x post := by
  refine qa_ofWi (by decide) (Nat.le_of_ble_eq_true rfl) ?_
  intro p e s m args below meth c A H locs ls C S hl
  replace hl : lv_has ls 2 [(0, .ref (a 0)), (1, .int p1)] := hl
  have hx := C.1
  have hb := C.2.1
  unfold qw_M_restore at hw
  refine lv_iload_n hx hb d_M_restore_0 rfl (lv_at hl 1 rfl) ?_
  refine lv_if_lt (tgt := 12) hx hb d_M_restore_1 rfl (fun hc => ?_) (fun hc => ?_)
  · replace hw := hw.1 hc
    refine lv_iconst (v := -1) hx hb d_M_restore_12 (by decide) ?_
    exact qa_reti C S hw d_M_restore_13
  replace hw := hw.2 hc
  refine lv_iload_n hx hb d_M_restore_4 rfl (lv_at hl 1 rfl) ?_
  refine lv_aload_n hx hb d_M_restore_5 rfl (lv_at hl 0 rfl) ?_
  refine qf_M_M_operations C S qh_424 d_M_restore_6 ?_
  refine lv_icmp_lt (tgt := 14) hx hb d_M_restore_9 rfl (fun hc => ?_) (fun hc => ?_)
  · replace hw := hw.1 hc
    refine lv_aload_n hx hb d_M_restore_14 rfl (lv_at hl 0 rfl) ?_
    refine lv_iload_n hx hb d_M_restore_15 rfl (lv_at hl 1 rfl) ?_
    refine qa_callv (qa_runV (As := [.int p1]) (rest := []) C S (qc_M_begin l dC dI a k _ _ _ hw H.size) (cwV 1 C.2.2.2.2.1 qo_M_116_M_begin rfl rfl rfl qd_M_begin ⟨Nat.le_of_ble_eq_true rfl, Nat.le_of_ble_eq_true rfl⟩) (va_recv (q0 := 0) (ci := 4) S.2.2.1 S.1 rfl rfl) rfl hl.1 rfl (Nat.le_of_ble_eq_true rfl) d_M_restore_16) S (fun x1 H locs hw S => ?_)
    refine lv_aload_n hx hb d_M_restore_19 rfl (lv_at hl 0 rfl) ?_
    refine qa_calli (qa_runV (As := []) (rest := []) C S (qc_M_done l dC dI a k _ _ hw H.size) (cwV 0 C.2.2.2.2.1 qo_M_123_M_done rfl rfl rfl qd_M_done ⟨Nat.le_of_ble_eq_true rfl, Nat.le_of_ble_eq_true rfl⟩) (va_recv (q0 := 0) (ci := 4) S.2.2.1 S.1 rfl rfl) rfl hl.1 rfl (Nat.le_of_ble_eq_true rfl) d_M_restore_20) S (fun r3 x2 H locs hw S => ?_)
    exact qa_reti C S hw d_M_restore_23
  replace hw := hw.2 hc
  refine lv_iconst (v := -1) hx hb d_M_restore_12 (by decide) ?_
  exact qa_reti C S hw d_M_restore_13
set_option maxHeartbeats 4000000 in
set_option maxRecDepth 100000 in
theorem qc_M_fork (l : Launch) (dC : Nat → ClassId) (dI : Nat → Nat → Nat) (a : Nat → Nat) (k : Nat → ClassId) (p1 : Int32) (x : QX) (post : Int32 → QX → Prop) (hw : qw_M_fork p1 x post) : qa_Ci l y_M_fork qv_M_fork qr_M_fork (dC, dI) classes (qM_t k) (qM_w a k) [.ref (a 0), .int p1] x post := by
  refine qa_ofWi (by decide) (Nat.le_of_ble_eq_true rfl) ?_
  intro p e s m args below meth c A H locs ls C S hl
  replace hl : lv_has ls 2 [(0, .ref (a 0)), (1, .int p1)] := hl
  have hx := C.1
  have hb := C.2.1
  unfold qw_M_fork at hw
  refine lv_aload_n hx hb d_M_fork_0 rfl (lv_at hl 0 rfl) ?_
  refine qf_M_M_two C S qh_432 d_M_fork_1 ?_
  refine lv_if_ne (tgt := 19) hx hb d_M_fork_4 rfl (fun hc => ?_) (fun hc => ?_)
  · replace hw := hw.1 hc
    refine lv_iconst (v := 0) hx hb d_M_fork_19 (by decide) ?_
    exact qa_retz C S ⟨by decide, hw⟩ d_M_fork_20
  replace hw := hw.2 hc
  refine lv_iload_n hx hb d_M_fork_7 rfl (lv_at hl 1 rfl) ?_
  refine lv_if_lt (tgt := 19) hx hb d_M_fork_8 rfl (fun hc => ?_) (fun hc => ?_)
  · replace hw := hw.1 hc
    refine lv_iconst (v := 0) hx hb d_M_fork_19 (by decide) ?_
    exact qa_retz C S ⟨by decide, hw⟩ d_M_fork_20
  replace hw := hw.2 hc
  refine lv_iload_n hx hb d_M_fork_11 rfl (lv_at hl 1 rfl) ?_
  refine lv_aload_n hx hb d_M_fork_12 rfl (lv_at hl 0 rfl) ?_
  refine qf_M_M_operations C S qh_424 d_M_fork_13 ?_
  refine lv_icmp_lt (tgt := 21) hx hb d_M_fork_16 rfl (fun hc => ?_) (fun hc => ?_)
  · replace hw := hw.1 hc
    refine lv_aload_n hx hb d_M_fork_21 rfl (lv_at hl 0 rfl) ?_
    refine lv_iconst (v := 1) hx hb d_M_fork_22 (by decide) ?_
    refine qp_M_M_two (by decide) C S qh_432 d_M_fork_23 (fun x1 H locs ex1 S => ?_)
    replace hw := hw x1 ex1
    refine lv_aload_n hx hb d_M_fork_26 rfl (lv_at hl 0 rfl) ?_
    refine lv_iload_n hx hb d_M_fork_27 rfl (lv_at hl 1 rfl) ?_
    refine qp_M_M_base C S qh_433 d_M_fork_28 (fun x2 H locs ex2 S => ?_)
    replace hw := hw x2 ex2
    refine lv_aload_n hx hb d_M_fork_31 rfl (lv_at hl 0 rfl) ?_
    refine qf_M_M_current C S qh_431 d_M_fork_32 ?_
    refine lv_iconst (v := 1) hx hb d_M_fork_35 (by decide) ?_
    refine lv_iload_n hx hb d_M_fork_36 rfl (lv_at hl 1 rfl) ?_
    obtain ⟨hi, hw⟩ := hw
    refine qt_M_current C S hi d_M_fork_37 (fun x3 H locs ex3 S => ?_)
    replace hw := hw x3 ex3
    refine lv_aload_n hx hb d_M_fork_38 rfl (lv_at hl 0 rfl) ?_
    refine lv_iconst (v := 1) hx hb d_M_fork_39 (by decide) ?_
    refine qp_M_M_chosen C S qh_434 d_M_fork_40 (fun x4 H locs ex4 S => ?_)
    replace hw := hw x4 ex4
    refine lv_iconst (v := 1) hx hb d_M_fork_43 (by decide) ?_
    exact qa_retz C S ⟨by decide, hw⟩ d_M_fork_44
  replace hw := hw.2 hc
  refine lv_iconst (v := 0) hx hb d_M_fork_19 (by decide) ?_
  exact qa_retz C S ⟨by decide, hw⟩ d_M_fork_20
set_option maxHeartbeats 4000000 in
set_option maxRecDepth 100000 in
theorem qc_M_choose (l : Launch) (dC : Nat → ClassId) (dI : Nat → Nat → Nat) (a : Nat → Nat) (k : Nat → ClassId) (p1 : Int32) (x : QX) (post : Int32 → QX → Prop) (hw : qw_M_choose p1 x post) : qa_Ci l y_M_choose qv_M_choose qr_M_choose (dC, dI) classes (qM_t k) (qM_w a k) [.ref (a 0), .int p1] x post := by
  refine qa_ofWi (by decide) (Nat.le_of_ble_eq_true rfl) ?_
  intro p e s m args below meth c A H locs ls C S hl
  replace hl : lv_has ls 2 [(0, .ref (a 0)), (1, .int p1)] := hl
  have hx := C.1
  have hb := C.2.1
  unfold qw_M_choose at hw
  refine lv_iload_n hx hb d_M_choose_0 rfl (lv_at hl 1 rfl) ?_
  refine lv_if_eq (tgt := 18) hx hb d_M_choose_1 rfl (fun hc => ?_) (fun hc => ?_)
  · replace hw := hw.1 hc
    refine lv_aload_n hx hb d_M_choose_18 rfl (lv_at hl 0 rfl) ?_
    refine lv_iload_n hx hb d_M_choose_19 rfl (lv_at hl 1 rfl) ?_
    refine qp_M_M_chosen C S qh_434 d_M_choose_20 (fun x1 H locs ex1 S => ?_)
    replace hw := hw x1 ex1
    refine lv_iconst (v := 1) hx hb d_M_choose_23 (by decide) ?_
    exact qa_retz C S ⟨by decide, hw⟩ d_M_choose_24
  replace hw := hw.2 hc
  refine lv_iload_n hx hb d_M_choose_4 rfl (lv_at hl 1 rfl) ?_
  refine lv_iconst (v := 1) hx hb d_M_choose_5 (by decide) ?_
  refine lv_icmp_ne (tgt := 16) hx hb d_M_choose_6 rfl (fun hc => ?_) (fun hc => ?_)
  · replace hw := hw.1 hc
    refine lv_iconst (v := 0) hx hb d_M_choose_16 (by decide) ?_
    exact qa_retz C S ⟨by decide, hw⟩ d_M_choose_17
  replace hw := hw.2 hc
  refine lv_aload_n hx hb d_M_choose_9 rfl (lv_at hl 0 rfl) ?_
  refine qf_M_M_two C S qh_432 d_M_choose_10 ?_
  refine lv_if_ne (tgt := 18) hx hb d_M_choose_13 rfl (fun hc => ?_) (fun hc => ?_)
  · replace hw := hw.1 hc
    refine lv_aload_n hx hb d_M_choose_18 rfl (lv_at hl 0 rfl) ?_
    refine lv_iload_n hx hb d_M_choose_19 rfl (lv_at hl 1 rfl) ?_
    refine qp_M_M_chosen C S qh_434 d_M_choose_20 (fun x2 H locs ex2 S => ?_)
    replace hw := hw x2 ex2
    refine lv_iconst (v := 1) hx hb d_M_choose_23 (by decide) ?_
    exact qa_retz C S ⟨by decide, hw⟩ d_M_choose_24
  replace hw := hw.2 hc
  refine lv_iconst (v := 0) hx hb d_M_choose_16 (by decide) ?_
  exact qa_retz C S ⟨by decide, hw⟩ d_M_choose_17
set_option maxHeartbeats 4000000 in
set_option maxRecDepth 100000 in
theorem qc_M_merged (l : Launch) (dC : Nat → ClassId) (dI : Nat → Nat → Nat) (a : Nat → Nat) (k : Nat → ClassId) (p1 : Int32) (p2 : Int32) (p3 : Int32) (x : QX) (post : Int32 → QX → Prop) (hw : qw_M_merged p1 p2 p3 x post) : qa_Ci l y_M_merged qv_M_merged qr_M_merged (dC, dI) classes (qM_t k) (qM_w a k) [.int p1, .int p2, .int p3] x post := by
  refine qa_ofWi (by decide) (Nat.le_of_ble_eq_true rfl) ?_
  intro p e s m args below meth c A H locs ls C S hl
  replace hl : lv_has ls 3 [(0, .int p1), (1, .int p2), (2, .int p3)] := hl
  have hx := C.1
  have hb := C.2.1
  unfold qw_M_merged at hw
  refine lv_iload_n hx hb d_M_merged_0 rfl (lv_at hl 1 rfl) ?_
  refine lv_iload_n hx hb d_M_merged_1 rfl (lv_at hl 0 rfl) ?_
  refine lv_icmp_ne (tgt := 9) hx hb d_M_merged_2 rfl (fun hc => ?_) (fun hc => ?_)
  · replace hw := hw.1 hc
    refine lv_iload_n hx hb d_M_merged_9 rfl (lv_at hl 2 rfl) ?_
    refine lv_iload_n hx hb d_M_merged_10 rfl (lv_at hl 0 rfl) ?_
    refine lv_icmp_eq (tgt := 19) hx hb d_M_merged_11 rfl (fun hc => ?_) (fun hc => ?_)
    · replace hw := hw.1 hc
      refine lv_iload_n hx hb d_M_merged_19 rfl (lv_at hl 1 rfl) ?_
      refine lv_goto (tgt := 25) hx hb d_M_merged_20 rfl ?_
      exact qa_reti C S hw d_M_merged_25
    replace hw := hw.2 hc
    refine lv_iload_n hx hb d_M_merged_14 rfl (lv_at hl 2 rfl) ?_
    refine lv_iload_n hx hb d_M_merged_15 rfl (lv_at hl 1 rfl) ?_
    refine lv_icmp_ne (tgt := 23) hx hb d_M_merged_16 rfl (fun hc => ?_) (fun hc => ?_)
    · replace hw := hw.1 hc
      refine lv_bipush (v := -2) hx hb d_M_merged_23 (by decide) ?_
      exact qa_reti C S hw d_M_merged_25
    replace hw := hw.2 hc
    refine lv_iload_n hx hb d_M_merged_19 rfl (lv_at hl 1 rfl) ?_
    refine lv_goto (tgt := 25) hx hb d_M_merged_20 rfl ?_
    exact qa_reti C S hw d_M_merged_25
  replace hw := hw.2 hc
  refine lv_iload_n hx hb d_M_merged_5 rfl (lv_at hl 2 rfl) ?_
  refine lv_goto (tgt := 25) hx hb d_M_merged_6 rfl ?_
  exact qa_reti C S hw d_M_merged_25
set_option maxHeartbeats 4000000 in
set_option maxRecDepth 100000 in
theorem qk_M_join_H122 {p : Program} {l : Launch} {e : Env} {s : State} {m : MethodId} {args : Array Value} {below : List Frame} {meth : Method} {c : Code} {A : Nat → Prop} {dC : Nat → ClassId} {dI : Nat → Nat → Nat} {a : Nat → Nat} {k : Nat → ClassId} (C : qa_X p s m args meth c b_M_join 7 (some .int) R_M)  (post : Int32 → QX → Prop)  : ∀ (n : Nat), ∀ (v1 : Int32) (v2 : Int32) (v3 : Int32) (x : QX) (H : Heap) (locs : List Loc) (ls : Array Slot), qw_M_join_H122  post n v1 v2 v3 x → qa_S (dC, dI) classes (qM_t k) (qM_w a k) A s x H locs → lv_has ls 7 [(0, .ref (a 0)), (1, .int v1), (2, .int v2), (3, .int v3)] → W p l e qr_M_join s m args below meth c H locs 0 0 (MQ below (va_Qi post (qa_B (dC, dI) classes (qM_t k) (qM_w a k) A) A) args s 0 0 A) (F0 m 122 ls []) := by
  have hx := C.1
  have hb := C.2.1
  intro n
  induction n with
  | zero => intro v1 v2 v3 x H locs ls hw S hl; exact False.elim hw
  | succ n ih =>
    intro v1 v2 v3 x H locs ls hw S hl
    replace hw : qw_M_join_S122  post (qw_M_join_H122  post n) v1 v2 v3 x := hw
    unfold qw_M_join_S122 at hw
    refine lv_iload_n hx hb d_M_join_122 rfl (lv_at hl 3 rfl) ?_
    refine lv_iconst (v := 3) hx hb d_M_join_123 (by decide) ?_
    refine lv_icmp_ge (tgt := 175) hx hb d_M_join_124 rfl (fun hc => ?_) (fun hc => ?_)
    · replace hw := hw.1 hc
      refine lv_aload_n hx hb d_M_join_175 rfl (lv_at hl 0 rfl) ?_
      refine lv_aload_n hx hb d_M_join_176 rfl (lv_at hl 0 rfl) ?_
      refine qf_M_M_work C S qh_430 d_M_join_177 ?_
      refine lv_iload_n hx hb d_M_join_180 rfl (lv_at hl 1 rfl) ?_
      obtain ⟨hi, hw⟩ := hw
      refine qe_M_work C S hi d_M_join_181 ?_
      refine lv_aload_n hx hb d_M_join_182 rfl (lv_at hl 0 rfl) ?_
      refine qf_M_M_work C S qh_430 d_M_join_183 ?_
      refine lv_aload_n hx hb d_M_join_186 rfl (lv_at hl 0 rfl) ?_
      refine qf_M_M_base C S qh_433 d_M_join_187 ?_
      obtain ⟨hi, hw⟩ := hw
      refine qe_M_work C S hi d_M_join_190 ?_
      refine lv_icmp_ne (tgt := 203) hx hb d_M_join_191 rfl (fun hc => ?_) (fun hc => ?_)
      · replace hw := hw.1 hc
        refine lv_aload_n hx hb d_M_join_203 rfl (lv_at hl 0 rfl) ?_
        refine qf_M_M_work C S qh_430 d_M_join_204 ?_
        refine lv_iload_n hx hb d_M_join_207 rfl (lv_at hl 1 rfl) ?_
        obtain ⟨hi, hw⟩ := hw
        refine qe_M_work C S hi d_M_join_208 ?_
        refine qp_M_M_nowWork C S qh_437 d_M_join_209 (fun x4 H locs ex4 S => ?_)
        replace hw := hw x4 ex4
        refine lv_aload_n hx hb d_M_join_212 rfl (lv_at hl 0 rfl) ?_
        refine qa_callv (qa_runV (As := []) (rest := []) C S (qc_M_settle l dC dI a k _ _ hw H.size) (cwV 0 C.2.2.2.2.1 qo_M_130_M_settle rfl rfl rfl qd_M_settle ⟨Nat.le_of_ble_eq_true rfl, Nat.le_of_ble_eq_true rfl⟩) (va_recv (q0 := 0) (ci := 4) S.2.2.1 S.1 rfl rfl) rfl hl.1 rfl (Nat.le_of_ble_eq_true rfl) d_M_join_213) S (fun x5 H locs hw S => ?_)
        refine lv_aload_n hx hb d_M_join_216 rfl (lv_at hl 0 rfl) ?_
        refine lv_iload_n hx hb d_M_join_217 rfl (lv_at hl 1 rfl) ?_
        refine lv_iload_n hx hb d_M_join_218 rfl (lv_at hl 2 rfl) ?_
        refine qa_calli (qa_runV (As := [.int v1, .int v2]) (rest := []) C S (qc_M_finish l dC dI a k _ _ _ _ hw H.size) (cwV 2 C.2.2.2.2.1 qo_M_110_M_finish rfl rfl rfl qd_M_finish ⟨Nat.le_of_ble_eq_true rfl, Nat.le_of_ble_eq_true rfl⟩) (va_recv (q0 := 0) (ci := 4) S.2.2.1 S.1 rfl rfl) rfl hl.1 rfl (Nat.le_of_ble_eq_true rfl) d_M_join_219) S (fun r7 x6 H locs hw S => ?_)
        refine lv_istore_n (lv' := [(3, .int r7), (0, .ref (a 0)), (1, .int v1), (2, .int v2)]) hx hb d_M_join_222 rfl hl (by decide) rfl (fun ls hl => ?_)
        refine lv_iload_n hx hb d_M_join_223 rfl (lv_at hl 0 rfl) ?_
        refine lv_if_lt (tgt := 251) hx hb d_M_join_224 rfl (fun hc => ?_) (fun hc => ?_)
        · replace hw := hw.1 hc
          refine lv_iload_n hx hb d_M_join_251 rfl (lv_at hl 0 rfl) ?_
          exact qa_reti C S hw d_M_join_252
        replace hw := hw.2 hc
        refine lv_aload_n hx hb d_M_join_227 rfl (lv_at hl 1 rfl) ?_
        refine qf_M_M_joined C S qh_427 d_M_join_228 ?_
        refine lv_iload_n hx hb d_M_join_231 rfl (lv_at hl 0 rfl) ?_
        refine lv_iconst (v := 1) hx hb d_M_join_232 (by decide) ?_
        obtain ⟨hi, hw⟩ := hw
        refine qt_M_joined C S hi d_M_join_233 (fun x8 H locs ex8 S => ?_)
        replace hw := hw x8 ex8
        refine lv_aload_n hx hb d_M_join_234 rfl (lv_at hl 1 rfl) ?_
        refine qf_M_M_current C S qh_431 d_M_join_235 ?_
        refine lv_iconst (v := 0) hx hb d_M_join_238 (by decide) ?_
        refine lv_iload_n hx hb d_M_join_239 rfl (lv_at hl 0 rfl) ?_
        obtain ⟨hi, hw⟩ := hw
        refine qt_M_current C S hi d_M_join_240 (fun x9 H locs ex9 S => ?_)
        replace hw := hw x9 ex9
        refine lv_aload_n hx hb d_M_join_241 rfl (lv_at hl 1 rfl) ?_
        refine lv_iconst (v := 0) hx hb d_M_join_242 (by decide) ?_
        refine qp_M_M_chosen C S qh_434 d_M_join_243 (fun x10 H locs ex10 S => ?_)
        replace hw := hw x10 ex10
        refine lv_aload_n hx hb d_M_join_246 rfl (lv_at hl 1 rfl) ?_
        refine lv_iconst (v := 0) hx hb d_M_join_247 (by decide) ?_
        refine qp_M_M_two (by decide) C S qh_432 d_M_join_248 (fun x11 H locs ex11 S => ?_)
        replace hw := hw x11 ex11
        refine lv_iload_n hx hb d_M_join_251 rfl (lv_at hl 0 rfl) ?_
        exact qa_reti C S hw d_M_join_252
      replace hw := hw.2 hc
      refine lv_aload_n hx hb d_M_join_194 rfl (lv_at hl 0 rfl) ?_
      refine qf_M_M_work C S qh_430 d_M_join_195 ?_
      refine lv_iload_n hx hb d_M_join_198 rfl (lv_at hl 2 rfl) ?_
      obtain ⟨hi, hw⟩ := hw
      refine qe_M_work C S hi d_M_join_199 ?_
      refine lv_goto (tgt := 209) hx hb d_M_join_200 rfl ?_
      refine qp_M_M_nowWork C S qh_437 d_M_join_209 (fun x12 H locs ex12 S => ?_)
      replace hw := hw x12 ex12
      refine lv_aload_n hx hb d_M_join_212 rfl (lv_at hl 0 rfl) ?_
      refine qa_callv (qa_runV (As := []) (rest := []) C S (qc_M_settle l dC dI a k _ _ hw H.size) (cwV 0 C.2.2.2.2.1 qo_M_130_M_settle rfl rfl rfl qd_M_settle ⟨Nat.le_of_ble_eq_true rfl, Nat.le_of_ble_eq_true rfl⟩) (va_recv (q0 := 0) (ci := 4) S.2.2.1 S.1 rfl rfl) rfl hl.1 rfl (Nat.le_of_ble_eq_true rfl) d_M_join_213) S (fun x13 H locs hw S => ?_)
      refine lv_aload_n hx hb d_M_join_216 rfl (lv_at hl 0 rfl) ?_
      refine lv_iload_n hx hb d_M_join_217 rfl (lv_at hl 1 rfl) ?_
      refine lv_iload_n hx hb d_M_join_218 rfl (lv_at hl 2 rfl) ?_
      refine qa_calli (qa_runV (As := [.int v1, .int v2]) (rest := []) C S (qc_M_finish l dC dI a k _ _ _ _ hw H.size) (cwV 2 C.2.2.2.2.1 qo_M_110_M_finish rfl rfl rfl qd_M_finish ⟨Nat.le_of_ble_eq_true rfl, Nat.le_of_ble_eq_true rfl⟩) (va_recv (q0 := 0) (ci := 4) S.2.2.1 S.1 rfl rfl) rfl hl.1 rfl (Nat.le_of_ble_eq_true rfl) d_M_join_219) S (fun r15 x14 H locs hw S => ?_)
      refine lv_istore_n (lv' := [(3, .int r15), (0, .ref (a 0)), (1, .int v1), (2, .int v2)]) hx hb d_M_join_222 rfl hl (by decide) rfl (fun ls hl => ?_)
      refine lv_iload_n hx hb d_M_join_223 rfl (lv_at hl 0 rfl) ?_
      refine lv_if_lt (tgt := 251) hx hb d_M_join_224 rfl (fun hc => ?_) (fun hc => ?_)
      · replace hw := hw.1 hc
        refine lv_iload_n hx hb d_M_join_251 rfl (lv_at hl 0 rfl) ?_
        exact qa_reti C S hw d_M_join_252
      replace hw := hw.2 hc
      refine lv_aload_n hx hb d_M_join_227 rfl (lv_at hl 1 rfl) ?_
      refine qf_M_M_joined C S qh_427 d_M_join_228 ?_
      refine lv_iload_n hx hb d_M_join_231 rfl (lv_at hl 0 rfl) ?_
      refine lv_iconst (v := 1) hx hb d_M_join_232 (by decide) ?_
      obtain ⟨hi, hw⟩ := hw
      refine qt_M_joined C S hi d_M_join_233 (fun x16 H locs ex16 S => ?_)
      replace hw := hw x16 ex16
      refine lv_aload_n hx hb d_M_join_234 rfl (lv_at hl 1 rfl) ?_
      refine qf_M_M_current C S qh_431 d_M_join_235 ?_
      refine lv_iconst (v := 0) hx hb d_M_join_238 (by decide) ?_
      refine lv_iload_n hx hb d_M_join_239 rfl (lv_at hl 0 rfl) ?_
      obtain ⟨hi, hw⟩ := hw
      refine qt_M_current C S hi d_M_join_240 (fun x17 H locs ex17 S => ?_)
      replace hw := hw x17 ex17
      refine lv_aload_n hx hb d_M_join_241 rfl (lv_at hl 1 rfl) ?_
      refine lv_iconst (v := 0) hx hb d_M_join_242 (by decide) ?_
      refine qp_M_M_chosen C S qh_434 d_M_join_243 (fun x18 H locs ex18 S => ?_)
      replace hw := hw x18 ex18
      refine lv_aload_n hx hb d_M_join_246 rfl (lv_at hl 1 rfl) ?_
      refine lv_iconst (v := 0) hx hb d_M_join_247 (by decide) ?_
      refine qp_M_M_two (by decide) C S qh_432 d_M_join_248 (fun x19 H locs ex19 S => ?_)
      replace hw := hw x19 ex19
      refine lv_iload_n hx hb d_M_join_251 rfl (lv_at hl 0 rfl) ?_
      exact qa_reti C S hw d_M_join_252
    replace hw := hw.2 hc
    refine lv_aload_n hx hb d_M_join_127 rfl (lv_at hl 0 rfl) ?_
    refine qf_M_M_nowMark C S qh_436 d_M_join_128 ?_
    refine lv_iload_n hx hb d_M_join_131 rfl (lv_at hl 3 rfl) ?_
    refine lv_aload_n hx hb d_M_join_132 rfl (lv_at hl 0 rfl) ?_
    refine qf_M_M_marks C S qh_429 d_M_join_133 ?_
    refine lv_iconst (v := 3) hx hb d_M_join_136 (by decide) ?_
    refine lv_aload_n hx hb d_M_join_137 rfl (lv_at hl 0 rfl) ?_
    refine qf_M_M_base C S qh_433 d_M_join_138 ?_
    refine lv_imul hx hb d_M_join_141 ?_
    refine lv_iload_n hx hb d_M_join_142 rfl (lv_at hl 3 rfl) ?_
    refine lv_iadd hx hb d_M_join_143 ?_
    obtain ⟨hi, hw⟩ := hw
    refine qe_M_marks C S hi d_M_join_144 ?_
    refine lv_aload_n hx hb d_M_join_145 rfl (lv_at hl 0 rfl) ?_
    refine qf_M_M_marks C S qh_429 d_M_join_146 ?_
    refine lv_iconst (v := 3) hx hb d_M_join_149 (by decide) ?_
    refine lv_iload_n hx hb d_M_join_150 rfl (lv_at hl 1 rfl) ?_
    refine lv_imul hx hb d_M_join_151 ?_
    refine lv_iload_n hx hb d_M_join_152 rfl (lv_at hl 3 rfl) ?_
    refine lv_iadd hx hb d_M_join_153 ?_
    obtain ⟨hi, hw⟩ := hw
    refine qe_M_marks C S hi d_M_join_154 ?_
    refine lv_aload_n hx hb d_M_join_155 rfl (lv_at hl 0 rfl) ?_
    refine qf_M_M_marks C S qh_429 d_M_join_156 ?_
    refine lv_iconst (v := 3) hx hb d_M_join_159 (by decide) ?_
    refine lv_iload_n hx hb d_M_join_160 rfl (lv_at hl 2 rfl) ?_
    refine lv_imul hx hb d_M_join_161 ?_
    refine lv_iload_n hx hb d_M_join_162 rfl (lv_at hl 3 rfl) ?_
    refine lv_iadd hx hb d_M_join_163 ?_
    obtain ⟨hi, hw⟩ := hw
    refine qe_M_marks C S hi d_M_join_164 ?_
    refine qa_calli (qa_runS (As := [.int (gA x 6 (((3 : Int32) * (gI x 4)) + v3).toNatClampNeg), .int (gA x 6 (((3 : Int32) * v1) + v3).toNatClampNeg), .int (gA x 6 (((3 : Int32) * v2) + v3).toNatClampNeg)]) (rest := [.int v3, .ref (a 12)]) C S (qc_M_merged l dC dI a k _ _ _ _ _ hw H.size) (cwS 3 C.2.2.2.2.1 qo_M_139_M_merged rfl rfl rfl qd_M_merged ⟨Nat.le_of_ble_eq_true rfl, Nat.le_of_ble_eq_true rfl⟩) rfl hl.1 rfl (Nat.le_of_ble_eq_true rfl) d_M_join_165) S (fun r21 x20 H locs hw S => ?_)
    obtain ⟨hi, hw⟩ := hw
    refine qt_M_nowMark C S hi d_M_join_168 (fun x22 H locs ex22 S => ?_)
    replace hw := hw x22 ex22
    refine lv_iinc (k := 3) (v := v3 + 1) (lv' := [(3, .int (v3 + 1)), (0, .ref (a 0)), (1, .int v1), (2, .int v2)]) hx hb d_M_join_169 hl rfl rfl (by decide) rfl (fun ls hl => ?_)
    refine lv_goto (tgt := 122) hx hb d_M_join_172 rfl ?_
    exact ih _ _ _ _ _ _ _ hw S (lv_sub hl [1, 2, 3, 0] rfl)
set_option maxHeartbeats 4000000 in
set_option maxRecDepth 100000 in
theorem qk_M_join_H30 {p : Program} {l : Launch} {e : Env} {s : State} {m : MethodId} {args : Array Value} {below : List Frame} {meth : Method} {c : Code} {A : Nat → Prop} {dC : Nat → ClassId} {dI : Nat → Nat → Nat} {a : Nat → Nat} {k : Nat → ClassId} (C : qa_X p s m args meth c b_M_join 7 (some .int) R_M)  (post : Int32 → QX → Prop)  : ∀ (n : Nat), ∀ (v1 : Int32) (v2 : Int32) (v3 : Int32) (x : QX) (H : Heap) (locs : List Loc) (ls : Array Slot), qw_M_join_H30  post n v1 v2 v3 x → qa_S (dC, dI) classes (qM_t k) (qM_w a k) A s x H locs → lv_has ls 7 [(0, .ref (a 0)), (1, .int v1), (2, .int v2), (3, .int v3)] → W p l e qr_M_join s m args below meth c H locs 0 0 (MQ below (va_Qi post (qa_B (dC, dI) classes (qM_t k) (qM_w a k) A) A) args s 0 0 A) (F0 m 30 ls []) := by
  have hx := C.1
  have hb := C.2.1
  intro n
  induction n with
  | zero => intro v1 v2 v3 x H locs ls hw S hl; exact False.elim hw
  | succ n ih =>
    intro v1 v2 v3 x H locs ls hw S hl
    replace hw : qw_M_join_S30  post (qw_M_join_H30  post n) v1 v2 v3 x := hw
    unfold qw_M_join_S30 at hw
    refine lv_iload_n hx hb d_M_join_30 rfl (lv_at hl 3 rfl) ?_
    refine lv_bipush (v := 60) hx hb d_M_join_31 (by decide) ?_
    refine lv_icmp_ge (tgt := 120) hx hb d_M_join_33 rfl (fun hc => ?_) (fun hc => ?_)
    · replace hw := hw.1 hc
      refine lv_iconst (v := 0) hx hb d_M_join_120 (by decide) ?_
      refine lv_istore_n (lv' := [(3, .int (0 : Int32)), (0, .ref (a 0)), (1, .int v1), (2, .int v2)]) hx hb d_M_join_121 rfl hl (by decide) rfl (fun ls hl => ?_)
      exact qk_M_join_H122 C post qFU _ _ _ _ _ _ _ hw S (lv_sub hl [1, 2, 3, 0] rfl)
    replace hw := hw.2 hc
    refine lv_aload_n hx hb d_M_join_36 rfl (lv_at hl 0 rfl) ?_
    refine qf_M_M_seen C S qh_428 d_M_join_37 ?_
    refine lv_bipush (v := 60) hx hb d_M_join_40 (by decide) ?_
    refine lv_aload_n hx hb d_M_join_42 rfl (lv_at hl 0 rfl) ?_
    refine qf_M_M_base C S qh_433 d_M_join_43 ?_
    refine lv_imul hx hb d_M_join_46 ?_
    refine lv_iload_n hx hb d_M_join_47 rfl (lv_at hl 3 rfl) ?_
    refine lv_iadd hx hb d_M_join_48 ?_
    obtain ⟨hi, hw⟩ := hw
    refine qe_M_seen C S hi d_M_join_49 ?_
    refine lv_topi (fun t23 et23 => ?_)
    replace hw := hw t23 et23
    refine lv_istore (lv' := [(4, .int t23), (0, .ref (a 0)), (1, .int v1), (2, .int v2), (3, .int v3)]) hx hb d_M_join_50 hl (by decide) rfl (fun ls hl => ?_)
    refine lv_aload_n hx hb d_M_join_52 rfl (lv_at hl 1 rfl) ?_
    refine qf_M_M_seen C S qh_428 d_M_join_53 ?_
    refine lv_bipush (v := 60) hx hb d_M_join_56 (by decide) ?_
    refine lv_iload_n hx hb d_M_join_58 rfl (lv_at hl 2 rfl) ?_
    refine lv_imul hx hb d_M_join_59 ?_
    refine lv_iload_n hx hb d_M_join_60 rfl (lv_at hl 4 rfl) ?_
    refine lv_iadd hx hb d_M_join_61 ?_
    obtain ⟨hi, hw⟩ := hw
    refine qe_M_seen C S hi d_M_join_62 ?_
    refine lv_topi (fun t24 et24 => ?_)
    replace hw := hw t24 et24
    refine lv_istore (lv' := [(5, .int t24), (4, .int t23), (0, .ref (a 0)), (1, .int v1), (2, .int v2), (3, .int v3)]) hx hb d_M_join_63 hl (by decide) rfl (fun ls hl => ?_)
    refine lv_aload_n hx hb d_M_join_65 rfl (lv_at hl 2 rfl) ?_
    refine qf_M_M_seen C S qh_428 d_M_join_66 ?_
    refine lv_bipush (v := 60) hx hb d_M_join_69 (by decide) ?_
    refine lv_iload_n hx hb d_M_join_71 rfl (lv_at hl 4 rfl) ?_
    refine lv_imul hx hb d_M_join_72 ?_
    refine lv_iload_n hx hb d_M_join_73 rfl (lv_at hl 5 rfl) ?_
    refine lv_iadd hx hb d_M_join_74 ?_
    obtain ⟨hi, hw⟩ := hw
    refine qe_M_seen C S hi d_M_join_75 ?_
    refine lv_topi (fun t25 et25 => ?_)
    replace hw := hw t25 et25
    refine lv_istore (lv' := [(6, .int t25), (5, .int t24), (4, .int t23), (0, .ref (a 0)), (1, .int v1), (2, .int v2), (3, .int v3)]) hx hb d_M_join_76 hl (by decide) rfl (fun ls hl => ?_)
    refine lv_aload_n hx hb d_M_join_78 rfl (lv_at hl 3 rfl) ?_
    refine qf_M_M_now C S qh_435 d_M_join_79 ?_
    refine lv_iload_n hx hb d_M_join_82 rfl (lv_at hl 6 rfl) ?_
    refine lv_iload hx hb d_M_join_83 (lv_at hl 1 rfl) ?_
    refine lv_if_eq (tgt := 93) hx hb d_M_join_85 rfl (fun hc => ?_) (fun hc => ?_)
    · replace hw := hw.1 hc
      refine lv_iload hx hb d_M_join_93 (lv_at hl 1 rfl) ?_
      refine lv_if_ne (tgt := 103) hx hb d_M_join_95 rfl (fun hc => ?_) (fun hc => ?_)
      · replace hw := hw.1 hc
        refine lv_iload hx hb d_M_join_103 (lv_at hl 2 rfl) ?_
        refine lv_if_ne (tgt := 112) hx hb d_M_join_105 rfl (fun hc => ?_) (fun hc => ?_)
        · replace hw := hw.1 hc
          refine lv_iconst (v := 0) hx hb d_M_join_112 (by decide) ?_
          obtain ⟨hi, hw⟩ := hw
          refine qt_M_now C S hi d_M_join_113 (fun x26 H locs ex26 S => ?_)
          replace hw := hw x26 ex26
          refine lv_iinc (k := 6) (v := v3 + 1) (lv' := [(3, .int (v3 + 1)), (6, .int t25), (5, .int t24), (4, .int t23), (0, .ref (a 0)), (1, .int v1), (2, .int v2)]) hx hb d_M_join_114 hl rfl rfl (by decide) rfl (fun ls hl => ?_)
          refine lv_goto (tgt := 30) hx hb d_M_join_117 rfl ?_
          exact ih _ _ _ _ _ _ _ hw S (lv_sub hl [4, 5, 6, 0] rfl)
        replace hw := hw.2 hc
        refine lv_iconst (v := 1) hx hb d_M_join_108 (by decide) ?_
        refine lv_goto (tgt := 113) hx hb d_M_join_109 rfl ?_
        obtain ⟨hi, hw⟩ := hw
        refine qt_M_now C S hi d_M_join_113 (fun x27 H locs ex27 S => ?_)
        replace hw := hw x27 ex27
        refine lv_iinc (k := 6) (v := v3 + 1) (lv' := [(3, .int (v3 + 1)), (6, .int t25), (5, .int t24), (4, .int t23), (0, .ref (a 0)), (1, .int v1), (2, .int v2)]) hx hb d_M_join_114 hl rfl rfl (by decide) rfl (fun ls hl => ?_)
        refine lv_goto (tgt := 30) hx hb d_M_join_117 rfl ?_
        exact ih _ _ _ _ _ _ _ hw S (lv_sub hl [4, 5, 6, 0] rfl)
      replace hw := hw.2 hc
      refine lv_iload hx hb d_M_join_98 (lv_at hl 0 rfl) ?_
      refine lv_if_eq (tgt := 112) hx hb d_M_join_100 rfl (fun hc => ?_) (fun hc => ?_)
      · replace hw := hw.1 hc
        refine lv_iconst (v := 0) hx hb d_M_join_112 (by decide) ?_
        obtain ⟨hi, hw⟩ := hw
        refine qt_M_now C S hi d_M_join_113 (fun x28 H locs ex28 S => ?_)
        replace hw := hw x28 ex28
        refine lv_iinc (k := 6) (v := v3 + 1) (lv' := [(3, .int (v3 + 1)), (6, .int t25), (5, .int t24), (4, .int t23), (0, .ref (a 0)), (1, .int v1), (2, .int v2)]) hx hb d_M_join_114 hl rfl rfl (by decide) rfl (fun ls hl => ?_)
        refine lv_goto (tgt := 30) hx hb d_M_join_117 rfl ?_
        exact ih _ _ _ _ _ _ _ hw S (lv_sub hl [4, 5, 6, 0] rfl)
      replace hw := hw.2 hc
      refine lv_iload hx hb d_M_join_103 (lv_at hl 2 rfl) ?_
      refine lv_if_ne (tgt := 112) hx hb d_M_join_105 rfl (fun hc => ?_) (fun hc => ?_)
      · replace hw := hw.1 hc
        refine lv_iconst (v := 0) hx hb d_M_join_112 (by decide) ?_
        obtain ⟨hi, hw⟩ := hw
        refine qt_M_now C S hi d_M_join_113 (fun x29 H locs ex29 S => ?_)
        replace hw := hw x29 ex29
        refine lv_iinc (k := 6) (v := v3 + 1) (lv' := [(3, .int (v3 + 1)), (6, .int t25), (5, .int t24), (4, .int t23), (0, .ref (a 0)), (1, .int v1), (2, .int v2)]) hx hb d_M_join_114 hl rfl rfl (by decide) rfl (fun ls hl => ?_)
        refine lv_goto (tgt := 30) hx hb d_M_join_117 rfl ?_
        exact ih _ _ _ _ _ _ _ hw S (lv_sub hl [4, 5, 6, 0] rfl)
      replace hw := hw.2 hc
      refine lv_iconst (v := 1) hx hb d_M_join_108 (by decide) ?_
      refine lv_goto (tgt := 113) hx hb d_M_join_109 rfl ?_
      obtain ⟨hi, hw⟩ := hw
      refine qt_M_now C S hi d_M_join_113 (fun x30 H locs ex30 S => ?_)
      replace hw := hw x30 ex30
      refine lv_iinc (k := 6) (v := v3 + 1) (lv' := [(3, .int (v3 + 1)), (6, .int t25), (5, .int t24), (4, .int t23), (0, .ref (a 0)), (1, .int v1), (2, .int v2)]) hx hb d_M_join_114 hl rfl rfl (by decide) rfl (fun ls hl => ?_)
      refine lv_goto (tgt := 30) hx hb d_M_join_117 rfl ?_
      exact ih _ _ _ _ _ _ _ hw S (lv_sub hl [4, 5, 6, 0] rfl)
    replace hw := hw.2 hc
    refine lv_iload hx hb d_M_join_88 (lv_at hl 0 rfl) ?_
    refine lv_if_ne (tgt := 108) hx hb d_M_join_90 rfl (fun hc => ?_) (fun hc => ?_)
    · replace hw := hw.1 hc
      refine lv_iconst (v := 1) hx hb d_M_join_108 (by decide) ?_
      refine lv_goto (tgt := 113) hx hb d_M_join_109 rfl ?_
      obtain ⟨hi, hw⟩ := hw
      refine qt_M_now C S hi d_M_join_113 (fun x31 H locs ex31 S => ?_)
      replace hw := hw x31 ex31
      refine lv_iinc (k := 6) (v := v3 + 1) (lv' := [(3, .int (v3 + 1)), (6, .int t25), (5, .int t24), (4, .int t23), (0, .ref (a 0)), (1, .int v1), (2, .int v2)]) hx hb d_M_join_114 hl rfl rfl (by decide) rfl (fun ls hl => ?_)
      refine lv_goto (tgt := 30) hx hb d_M_join_117 rfl ?_
      exact ih _ _ _ _ _ _ _ hw S (lv_sub hl [4, 5, 6, 0] rfl)
    replace hw := hw.2 hc
    refine lv_iload hx hb d_M_join_93 (lv_at hl 1 rfl) ?_
    refine lv_if_ne (tgt := 103) hx hb d_M_join_95 rfl (fun hc => ?_) (fun hc => ?_)
    · replace hw := hw.1 hc
      refine lv_iload hx hb d_M_join_103 (lv_at hl 2 rfl) ?_
      refine lv_if_ne (tgt := 112) hx hb d_M_join_105 rfl (fun hc => ?_) (fun hc => ?_)
      · replace hw := hw.1 hc
        refine lv_iconst (v := 0) hx hb d_M_join_112 (by decide) ?_
        obtain ⟨hi, hw⟩ := hw
        refine qt_M_now C S hi d_M_join_113 (fun x32 H locs ex32 S => ?_)
        replace hw := hw x32 ex32
        refine lv_iinc (k := 6) (v := v3 + 1) (lv' := [(3, .int (v3 + 1)), (6, .int t25), (5, .int t24), (4, .int t23), (0, .ref (a 0)), (1, .int v1), (2, .int v2)]) hx hb d_M_join_114 hl rfl rfl (by decide) rfl (fun ls hl => ?_)
        refine lv_goto (tgt := 30) hx hb d_M_join_117 rfl ?_
        exact ih _ _ _ _ _ _ _ hw S (lv_sub hl [4, 5, 6, 0] rfl)
      replace hw := hw.2 hc
      refine lv_iconst (v := 1) hx hb d_M_join_108 (by decide) ?_
      refine lv_goto (tgt := 113) hx hb d_M_join_109 rfl ?_
      obtain ⟨hi, hw⟩ := hw
      refine qt_M_now C S hi d_M_join_113 (fun x33 H locs ex33 S => ?_)
      replace hw := hw x33 ex33
      refine lv_iinc (k := 6) (v := v3 + 1) (lv' := [(3, .int (v3 + 1)), (6, .int t25), (5, .int t24), (4, .int t23), (0, .ref (a 0)), (1, .int v1), (2, .int v2)]) hx hb d_M_join_114 hl rfl rfl (by decide) rfl (fun ls hl => ?_)
      refine lv_goto (tgt := 30) hx hb d_M_join_117 rfl ?_
      exact ih _ _ _ _ _ _ _ hw S (lv_sub hl [4, 5, 6, 0] rfl)
    replace hw := hw.2 hc
    refine lv_iload hx hb d_M_join_98 (lv_at hl 0 rfl) ?_
    refine lv_if_eq (tgt := 112) hx hb d_M_join_100 rfl (fun hc => ?_) (fun hc => ?_)
    · replace hw := hw.1 hc
      refine lv_iconst (v := 0) hx hb d_M_join_112 (by decide) ?_
      obtain ⟨hi, hw⟩ := hw
      refine qt_M_now C S hi d_M_join_113 (fun x34 H locs ex34 S => ?_)
      replace hw := hw x34 ex34
      refine lv_iinc (k := 6) (v := v3 + 1) (lv' := [(3, .int (v3 + 1)), (6, .int t25), (5, .int t24), (4, .int t23), (0, .ref (a 0)), (1, .int v1), (2, .int v2)]) hx hb d_M_join_114 hl rfl rfl (by decide) rfl (fun ls hl => ?_)
      refine lv_goto (tgt := 30) hx hb d_M_join_117 rfl ?_
      exact ih _ _ _ _ _ _ _ hw S (lv_sub hl [4, 5, 6, 0] rfl)
    replace hw := hw.2 hc
    refine lv_iload hx hb d_M_join_103 (lv_at hl 2 rfl) ?_
    refine lv_if_ne (tgt := 112) hx hb d_M_join_105 rfl (fun hc => ?_) (fun hc => ?_)
    · replace hw := hw.1 hc
      refine lv_iconst (v := 0) hx hb d_M_join_112 (by decide) ?_
      obtain ⟨hi, hw⟩ := hw
      refine qt_M_now C S hi d_M_join_113 (fun x35 H locs ex35 S => ?_)
      replace hw := hw x35 ex35
      refine lv_iinc (k := 6) (v := v3 + 1) (lv' := [(3, .int (v3 + 1)), (6, .int t25), (5, .int t24), (4, .int t23), (0, .ref (a 0)), (1, .int v1), (2, .int v2)]) hx hb d_M_join_114 hl rfl rfl (by decide) rfl (fun ls hl => ?_)
      refine lv_goto (tgt := 30) hx hb d_M_join_117 rfl ?_
      exact ih _ _ _ _ _ _ _ hw S (lv_sub hl [4, 5, 6, 0] rfl)
    replace hw := hw.2 hc
    refine lv_iconst (v := 1) hx hb d_M_join_108 (by decide) ?_
    refine lv_goto (tgt := 113) hx hb d_M_join_109 rfl ?_
    obtain ⟨hi, hw⟩ := hw
    refine qt_M_now C S hi d_M_join_113 (fun x36 H locs ex36 S => ?_)
    replace hw := hw x36 ex36
    refine lv_iinc (k := 6) (v := v3 + 1) (lv' := [(3, .int (v3 + 1)), (6, .int t25), (5, .int t24), (4, .int t23), (0, .ref (a 0)), (1, .int v1), (2, .int v2)]) hx hb d_M_join_114 hl rfl rfl (by decide) rfl (fun ls hl => ?_)
    refine lv_goto (tgt := 30) hx hb d_M_join_117 rfl ?_
    exact ih _ _ _ _ _ _ _ hw S (lv_sub hl [4, 5, 6, 0] rfl)
set_option maxHeartbeats 4000000 in
set_option maxRecDepth 100000 in
theorem qc_M_join (l : Launch) (dC : Nat → ClassId) (dI : Nat → Nat → Nat) (a : Nat → Nat) (k : Nat → ClassId)  (x : QX) (post : Int32 → QX → Prop) (hw : qw_M_join  x post) : qa_Ci l y_M_join qv_M_join qr_M_join (dC, dI) classes (qM_t k) (qM_w a k) [.ref (a 0)] x post := by
  refine qa_ofWi (by decide) (Nat.le_of_ble_eq_true rfl) ?_
  intro p e s m args below meth c A H locs ls C S hl
  replace hl : lv_has ls 7 [(0, .ref (a 0))] := hl
  have hx := C.1
  have hb := C.2.1
  unfold qw_M_join at hw
  refine lv_aload_n hx hb d_M_join_0 rfl (lv_at hl 0 rfl) ?_
  refine qf_M_M_two C S qh_432 d_M_join_1 ?_
  refine lv_if_ne (tgt := 9) hx hb d_M_join_4 rfl (fun hc => ?_) (fun hc => ?_)
  · replace hw := hw.1 hc
    refine lv_aload_n hx hb d_M_join_9 rfl (lv_at hl 0 rfl) ?_
    refine qf_M_M_current C S qh_431 d_M_join_10 ?_
    refine lv_iconst (v := 0) hx hb d_M_join_13 (by decide) ?_
    obtain ⟨hi, hw⟩ := hw
    refine qe_M_current C S hi d_M_join_14 ?_
    refine lv_topi (fun t1 et1 => ?_)
    replace hw := hw t1 et1
    refine lv_istore_n (lv' := [(1, .int t1), (0, .ref (a 0))]) hx hb d_M_join_15 rfl hl (by decide) rfl (fun ls hl => ?_)
    refine lv_aload_n hx hb d_M_join_16 rfl (lv_at hl 1 rfl) ?_
    refine qf_M_M_current C S qh_431 d_M_join_17 ?_
    refine lv_iconst (v := 1) hx hb d_M_join_20 (by decide) ?_
    obtain ⟨hi, hw⟩ := hw
    refine qe_M_current C S hi d_M_join_21 ?_
    refine lv_topi (fun t2 et2 => ?_)
    replace hw := hw t2 et2
    refine lv_istore_n (lv' := [(2, .int t2), (1, .int t1), (0, .ref (a 0))]) hx hb d_M_join_22 rfl hl (by decide) rfl (fun ls hl => ?_)
    refine lv_aload_n hx hb d_M_join_23 rfl (lv_at hl 2 rfl) ?_
    refine lv_iload_n hx hb d_M_join_24 rfl (lv_at hl 1 rfl) ?_
    refine qa_callv (qa_runV (As := [.int t1]) (rest := []) C S (qc_M_begin l dC dI a k _ _ _ hw H.size) (cwV 1 C.2.2.2.2.1 qo_M_116_M_begin rfl rfl rfl qd_M_begin ⟨Nat.le_of_ble_eq_true rfl, Nat.le_of_ble_eq_true rfl⟩) (va_recv (q0 := 0) (ci := 4) S.2.2.1 S.1 rfl rfl) rfl hl.1 rfl (Nat.le_of_ble_eq_true rfl) d_M_join_25) S (fun x3 H locs hw S => ?_)
    refine lv_iconst (v := 0) hx hb d_M_join_28 (by decide) ?_
    refine lv_istore_n (lv' := [(3, .int (0 : Int32)), (2, .int t2), (1, .int t1), (0, .ref (a 0))]) hx hb d_M_join_29 rfl hl (by decide) rfl (fun ls hl => ?_)
    exact qk_M_join_H30 C post qFU _ _ _ _ _ _ _ hw S (lv_sub hl [3, 2, 1, 0] rfl)
  replace hw := hw.2 hc
  refine lv_iconst (v := -1) hx hb d_M_join_7 (by decide) ?_
  exact qa_reti C S hw d_M_join_8
