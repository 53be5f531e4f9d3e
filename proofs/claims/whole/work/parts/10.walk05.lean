set_option maxHeartbeats 4000000 in
set_option maxRecDepth 100000 in
theorem qc_S_restore (l : Launch) (dC : Nat → ClassId) (dI : Nat → Nat → Nat) (a : Nat → Nat) (k : Nat → ClassId) (p1 : Int32) (x : QX) (post : Int32 → QX → Prop) (hw : qw_S_restore p1 x post) : qa_Ci l y_S_restore qv_S_restore qr_S_restore (dC, dI) classes (qC_t k) (qC_w a k) [.ref (a 0), .int p1] x post := by
  refine qa_ofWi (by decide) (Nat.le_of_ble_eq_true rfl) ?_
  intro p e s m args below meth c A H locs ls C S hl
  replace hl : lv_has ls 2 [(0, .ref (a 0)), (1, .int p1)] := hl
  have hx := C.1
  have hb := C.2.1
  unfold qw_S_restore at hw
  refine lv_aload_n hx hb d_S_restore_0 rfl (lv_at hl 0 rfl) ?_
  refine qf_C_S_operations C S qh_101 d_S_restore_1 ?_
  refine lv_iload_n hx hb d_S_restore_4 rfl (lv_at hl 1 rfl) ?_
  refine qa_calli (qa_runV (As := [.int p1]) (rest := []) C S (qc_O_has l dC dI a k _ _ _ hw H.size) (cwV 1 C.2.2.2.2.1 qo_S_130_O_has rfl rfl rfl qd_O_has ⟨Nat.le_of_ble_eq_true rfl, Nat.le_of_ble_eq_true rfl⟩) (va_recv (q0 := 2) (ci := 2) S.2.2.1 S.1 rfl rfl) rfl hl.1 rfl (Nat.le_of_ble_eq_true rfl) d_S_restore_5) S (fun r2 x1 H locs hw S => ?_)
  refine lv_if_ne (tgt := 13) hx hb d_S_restore_8 rfl (fun hc => ?_) (fun hc => ?_)
  · replace hw := hw.1 hc
    refine lv_aload_n hx hb d_S_restore_13 rfl (lv_at hl 0 rfl) ?_
    refine qf_C_S_draft C S qh_102 d_S_restore_14 ?_
    refine lv_aload_n hx hb d_S_restore_17 rfl (lv_at hl 0 rfl) ?_
    refine qf_C_S_operations C S qh_101 d_S_restore_18 ?_
    refine lv_iload_n hx hb d_S_restore_21 rfl (lv_at hl 1 rfl) ?_
    refine qa_callv (qa_runV (As := [.ref (a 2), .int p1]) (rest := []) C S (qc_D_open l dC dI a k _ _ _ hw H.size) (cwV 2 C.2.2.2.2.1 qo_S_126_D_open rfl rfl rfl qd_D_open ⟨Nat.le_of_ble_eq_true rfl, Nat.le_of_ble_eq_true rfl⟩) (va_recv (q0 := 3) (ci := 3) S.2.2.1 S.1 rfl rfl) rfl hl.1 rfl (Nat.le_of_ble_eq_true rfl) d_S_restore_22) S (fun x3 H locs hw S => ?_)
    refine lv_aload_n hx hb d_S_restore_25 rfl (lv_at hl 0 rfl) ?_
    refine lv_aload_n hx hb d_S_restore_26 rfl (lv_at hl 0 rfl) ?_
    refine qf_C_S_chosen C S qh_104 d_S_restore_27 ?_
    refine lv_iconst (v := -1) hx hb d_S_restore_30 (by decide) ?_
    refine qa_calli (qa_runV (As := [.int (gI x3 0), .int (-1 : Int32)]) (rest := []) C S (qc_S_keepDraft l dC dI a k _ _ _ _ hw H.size) (cwV 2 C.2.2.2.2.1 qo_S_65_S_keepDraft rfl rfl rfl qd_S_keepDraft ⟨Nat.le_of_ble_eq_true rfl, Nat.le_of_ble_eq_true rfl⟩) (va_recv (q0 := 0) (ci := 0) S.2.2.1 S.1 rfl rfl) rfl hl.1 rfl (Nat.le_of_ble_eq_true rfl) d_S_restore_31) S (fun r5 x4 H locs hw S => ?_)
    exact qa_reti C S hw d_S_restore_34
  replace hw := hw.2 hc
  refine lv_iconst (v := -1) hx hb d_S_restore_11 (by decide) ?_
  exact qa_reti C S hw d_S_restore_12
set_option maxHeartbeats 4000000 in
set_option maxRecDepth 100000 in
theorem qc_S_hasLineOne (l : Launch) (dC : Nat → ClassId) (dI : Nat → Nat → Nat) (a : Nat → Nat) (k : Nat → ClassId)  (x : QX) (post : Int32 → QX → Prop) (hw : qw_S_hasLineOne  x post) : qa_Ci l y_S_hasLineOne qv_S_hasLineOne qr_S_hasLineOne (dC, dI) classes (qC_t k) (qC_w a k) [.ref (a 0)] x post := by
  refine qa_ofWi (by decide) (Nat.le_of_ble_eq_true rfl) ?_
  intro p e s m args below meth c A H locs ls C S hl
  replace hl : lv_has ls 1 [(0, .ref (a 0))] := hl
  have hx := C.1
  have hb := C.2.1
  unfold qw_S_hasLineOne at hw
  refine lv_aload_n hx hb d_S_hasLineOne_0 rfl (lv_at hl 0 rfl) ?_
  refine qf_C_S_currents C S qh_103 d_S_hasLineOne_1 ?_
  refine lv_iconst (v := 1) hx hb d_S_hasLineOne_4 (by decide) ?_
  obtain ⟨hi, hw⟩ := hw
  refine qe_C_currents C S hi d_S_hasLineOne_5 ?_
  refine lv_iconst (v := -1) hx hb d_S_hasLineOne_6 (by decide) ?_
  refine lv_icmp_eq (tgt := 14) hx hb d_S_hasLineOne_7 rfl (fun hc => ?_) (fun hc => ?_)
  · replace hw := hw.1 hc
    refine lv_iconst (v := 0) hx hb d_S_hasLineOne_14 (by decide) ?_
    exact qa_retz C S ⟨by decide, hw⟩ d_S_hasLineOne_15
  replace hw := hw.2 hc
  refine lv_iconst (v := 1) hx hb d_S_hasLineOne_10 (by decide) ?_
  refine lv_goto (tgt := 15) hx hb d_S_hasLineOne_11 rfl ?_
  exact qa_retz C S ⟨by decide, hw⟩ d_S_hasLineOne_15
set_option maxHeartbeats 4000000 in
set_option maxRecDepth 100000 in
theorem qc_S_fork (l : Launch) (dC : Nat → ClassId) (dI : Nat → Nat → Nat) (a : Nat → Nat) (k : Nat → ClassId) (p1 : Int32) (x : QX) (post : Int32 → QX → Prop) (hw : qw_S_fork p1 x post) : qa_Ci l y_S_fork qv_S_fork qr_S_fork (dC, dI) classes (qC_t k) (qC_w a k) [.ref (a 0), .int p1] x post := by
  refine qa_ofWi (by decide) (Nat.le_of_ble_eq_true rfl) ?_
  intro p e s m args below meth c A H locs ls C S hl
  replace hl : lv_has ls 2 [(0, .ref (a 0)), (1, .int p1)] := hl
  have hx := C.1
  have hb := C.2.1
  unfold qw_S_fork at hw
  refine lv_aload_n hx hb d_S_fork_0 rfl (lv_at hl 0 rfl) ?_
  refine qa_calli (qa_runV (As := []) (rest := []) C S (qc_S_hasLineOne l dC dI a k _ _ hw H.size) (cwV 0 C.2.2.2.2.1 qo_S_133_S_hasLineOne rfl rfl rfl qd_S_hasLineOne ⟨Nat.le_of_ble_eq_true rfl, Nat.le_of_ble_eq_true rfl⟩) (va_recv (q0 := 0) (ci := 0) S.2.2.1 S.1 rfl rfl) rfl hl.1 rfl (Nat.le_of_ble_eq_true rfl) d_S_fork_1) S (fun r2 x1 H locs hw S => ?_)
  refine lv_if_ne (tgt := 18) hx hb d_S_fork_4 rfl (fun hc => ?_) (fun hc => ?_)
  · replace hw := hw.1 hc
    refine lv_iconst (v := 0) hx hb d_S_fork_18 (by decide) ?_
    exact qa_retz C S ⟨by decide, hw⟩ d_S_fork_19
  replace hw := hw.2 hc
  refine lv_aload_n hx hb d_S_fork_7 rfl (lv_at hl 0 rfl) ?_
  refine qf_C_S_operations C S qh_101 d_S_fork_8 ?_
  refine lv_iload_n hx hb d_S_fork_11 rfl (lv_at hl 1 rfl) ?_
  refine qa_calli (qa_runV (As := [.int p1]) (rest := []) C S (qc_O_has l dC dI a k _ _ _ hw H.size) (cwV 1 C.2.2.2.2.1 qo_S_130_O_has rfl rfl rfl qd_O_has ⟨Nat.le_of_ble_eq_true rfl, Nat.le_of_ble_eq_true rfl⟩) (va_recv (q0 := 2) (ci := 2) S.2.2.1 S.1 rfl rfl) rfl hl.1 rfl (Nat.le_of_ble_eq_true rfl) d_S_fork_12) S (fun r4 x3 H locs hw S => ?_)
  refine lv_if_ne (tgt := 20) hx hb d_S_fork_15 rfl (fun hc => ?_) (fun hc => ?_)
  · replace hw := hw.1 hc
    refine lv_aload_n hx hb d_S_fork_20 rfl (lv_at hl 0 rfl) ?_
    refine lv_iload_n hx hb d_S_fork_21 rfl (lv_at hl 1 rfl) ?_
    refine qp_C_S_lineOneBegan C S qh_105 d_S_fork_22 (fun x5 H locs ex5 S => ?_)
    replace hw := hw x5 ex5
    refine lv_aload_n hx hb d_S_fork_25 rfl (lv_at hl 0 rfl) ?_
    refine qf_C_S_currents C S qh_103 d_S_fork_26 ?_
    refine lv_iconst (v := 1) hx hb d_S_fork_29 (by decide) ?_
    refine lv_iload_n hx hb d_S_fork_30 rfl (lv_at hl 1 rfl) ?_
    obtain ⟨hi, hw⟩ := hw
    refine qt_C_currents C S hi d_S_fork_31 (fun x6 H locs ex6 S => ?_)
    replace hw := hw x6 ex6
    refine lv_aload_n hx hb d_S_fork_32 rfl (lv_at hl 0 rfl) ?_
    refine lv_iconst (v := 1) hx hb d_S_fork_33 (by decide) ?_
    refine qp_C_S_chosen C S qh_104 d_S_fork_34 (fun x7 H locs ex7 S => ?_)
    replace hw := hw x7 ex7
    refine lv_iconst (v := 1) hx hb d_S_fork_37 (by decide) ?_
    exact qa_retz C S ⟨by decide, hw⟩ d_S_fork_38
  replace hw := hw.2 hc
  refine lv_iconst (v := 0) hx hb d_S_fork_18 (by decide) ?_
  exact qa_retz C S ⟨by decide, hw⟩ d_S_fork_19
set_option maxHeartbeats 4000000 in
set_option maxRecDepth 100000 in
theorem qc_S_choose (l : Launch) (dC : Nat → ClassId) (dI : Nat → Nat → Nat) (a : Nat → Nat) (k : Nat → ClassId) (p1 : Int32) (x : QX) (post : Int32 → QX → Prop) (hw : qw_S_choose p1 x post) : qa_Ci l y_S_choose qv_S_choose qr_S_choose (dC, dI) classes (qC_t k) (qC_w a k) [.ref (a 0), .int p1] x post := by
  refine qa_ofWi (by decide) (Nat.le_of_ble_eq_true rfl) ?_
  intro p e s m args below meth c A H locs ls C S hl
  replace hl : lv_has ls 3 [(0, .ref (a 0)), (1, .int p1)] := hl
  have hx := C.1
  have hb := C.2.1
  unfold qw_S_choose at hw
  refine lv_iload_n hx hb d_S_choose_0 rfl (lv_at hl 1 rfl) ?_
  refine lv_if_eq (tgt := 16) hx hb d_S_choose_1 rfl (fun hc => ?_) (fun hc => ?_)
  · replace hw := hw.1 hc
    refine lv_iconst (v := 1) hx hb d_S_choose_16 (by decide) ?_
    refine lv_goto (tgt := 21) hx hb d_S_choose_17 rfl ?_
    refine lv_istore_n (lv' := [(2, .int (1 : Int32)), (0, .ref (a 0)), (1, .int p1)]) hx hb d_S_choose_21 rfl hl (by decide) rfl (fun ls hl => ?_)
    refine lv_iload_n hx hb d_S_choose_22 rfl (lv_at hl 0 rfl) ?_
    refine lv_if_eq (tgt := 31) hx hb d_S_choose_23 rfl (fun hc => ?_) (fun hc => ?_)
    · replace hw := hw.1 hc
      refine lv_iload_n hx hb d_S_choose_31 rfl (lv_at hl 0 rfl) ?_
      exact qa_retz C S ⟨by decide, hw⟩ d_S_choose_32
    replace hw := hw.2 hc
    refine lv_aload_n hx hb d_S_choose_26 rfl (lv_at hl 1 rfl) ?_
    refine lv_iload_n hx hb d_S_choose_27 rfl (lv_at hl 2 rfl) ?_
    refine qp_C_S_chosen C S qh_104 d_S_choose_28 (fun x1 H locs ex1 S => ?_)
    replace hw := hw x1 ex1
    refine lv_iload_n hx hb d_S_choose_31 rfl (lv_at hl 0 rfl) ?_
    exact qa_retz C S ⟨by decide, hw⟩ d_S_choose_32
  replace hw := hw.2 hc
  refine lv_iload_n hx hb d_S_choose_4 rfl (lv_at hl 1 rfl) ?_
  refine lv_iconst (v := 1) hx hb d_S_choose_5 (by decide) ?_
  refine lv_icmp_ne (tgt := 20) hx hb d_S_choose_6 rfl (fun hc => ?_) (fun hc => ?_)
  · replace hw := hw.1 hc
    refine lv_iconst (v := 0) hx hb d_S_choose_20 (by decide) ?_
    refine lv_istore_n (lv' := [(2, .int (0 : Int32)), (0, .ref (a 0)), (1, .int p1)]) hx hb d_S_choose_21 rfl hl (by decide) rfl (fun ls hl => ?_)
    refine lv_iload_n hx hb d_S_choose_22 rfl (lv_at hl 0 rfl) ?_
    refine lv_if_eq (tgt := 31) hx hb d_S_choose_23 rfl (fun hc => ?_) (fun hc => ?_)
    · replace hw := hw.1 hc
      refine lv_iload_n hx hb d_S_choose_31 rfl (lv_at hl 0 rfl) ?_
      exact qa_retz C S ⟨by decide, hw⟩ d_S_choose_32
    replace hw := hw.2 hc
    refine lv_aload_n hx hb d_S_choose_26 rfl (lv_at hl 1 rfl) ?_
    refine lv_iload_n hx hb d_S_choose_27 rfl (lv_at hl 2 rfl) ?_
    refine qp_C_S_chosen C S qh_104 d_S_choose_28 (fun x2 H locs ex2 S => ?_)
    replace hw := hw x2 ex2
    refine lv_iload_n hx hb d_S_choose_31 rfl (lv_at hl 0 rfl) ?_
    exact qa_retz C S ⟨by decide, hw⟩ d_S_choose_32
  replace hw := hw.2 hc
  refine lv_aload_n hx hb d_S_choose_9 rfl (lv_at hl 0 rfl) ?_
  refine qa_calli (qa_runV (As := []) (rest := []) C S (qc_S_hasLineOne l dC dI a k _ _ hw H.size) (cwV 0 C.2.2.2.2.1 qo_S_133_S_hasLineOne rfl rfl rfl qd_S_hasLineOne ⟨Nat.le_of_ble_eq_true rfl, Nat.le_of_ble_eq_true rfl⟩) (va_recv (q0 := 0) (ci := 0) S.2.2.1 S.1 rfl rfl) rfl hl.1 rfl (Nat.le_of_ble_eq_true rfl) d_S_choose_10) S (fun r4 x3 H locs hw S => ?_)
  refine lv_if_eq (tgt := 20) hx hb d_S_choose_13 rfl (fun hc => ?_) (fun hc => ?_)
  · replace hw := hw.1 hc
    refine lv_iconst (v := 0) hx hb d_S_choose_20 (by decide) ?_
    refine lv_istore_n (lv' := [(2, .int (0 : Int32)), (0, .ref (a 0)), (1, .int p1)]) hx hb d_S_choose_21 rfl hl (by decide) rfl (fun ls hl => ?_)
    refine lv_iload_n hx hb d_S_choose_22 rfl (lv_at hl 0 rfl) ?_
    refine lv_if_eq (tgt := 31) hx hb d_S_choose_23 rfl (fun hc => ?_) (fun hc => ?_)
    · replace hw := hw.1 hc
      refine lv_iload_n hx hb d_S_choose_31 rfl (lv_at hl 0 rfl) ?_
      exact qa_retz C S ⟨by decide, hw⟩ d_S_choose_32
    replace hw := hw.2 hc
    refine lv_aload_n hx hb d_S_choose_26 rfl (lv_at hl 1 rfl) ?_
    refine lv_iload_n hx hb d_S_choose_27 rfl (lv_at hl 2 rfl) ?_
    refine qp_C_S_chosen C S qh_104 d_S_choose_28 (fun x5 H locs ex5 S => ?_)
    replace hw := hw x5 ex5
    refine lv_iload_n hx hb d_S_choose_31 rfl (lv_at hl 0 rfl) ?_
    exact qa_retz C S ⟨by decide, hw⟩ d_S_choose_32
  replace hw := hw.2 hc
  refine lv_iconst (v := 1) hx hb d_S_choose_16 (by decide) ?_
  refine lv_goto (tgt := 21) hx hb d_S_choose_17 rfl ?_
  refine lv_istore_n (lv' := [(2, .int (1 : Int32)), (0, .ref (a 0)), (1, .int p1)]) hx hb d_S_choose_21 rfl hl (by decide) rfl (fun ls hl => ?_)
  refine lv_iload_n hx hb d_S_choose_22 rfl (lv_at hl 0 rfl) ?_
  refine lv_if_eq (tgt := 31) hx hb d_S_choose_23 rfl (fun hc => ?_) (fun hc => ?_)
  · replace hw := hw.1 hc
    refine lv_iload_n hx hb d_S_choose_31 rfl (lv_at hl 0 rfl) ?_
    exact qa_retz C S ⟨by decide, hw⟩ d_S_choose_32
  replace hw := hw.2 hc
  refine lv_aload_n hx hb d_S_choose_26 rfl (lv_at hl 1 rfl) ?_
  refine lv_iload_n hx hb d_S_choose_27 rfl (lv_at hl 2 rfl) ?_
  refine qp_C_S_chosen C S qh_104 d_S_choose_28 (fun x6 H locs ex6 S => ?_)
  replace hw := hw x6 ex6
  refine lv_iload_n hx hb d_S_choose_31 rfl (lv_at hl 0 rfl) ?_
  exact qa_retz C S ⟨by decide, hw⟩ d_S_choose_32
set_option maxHeartbeats 4000000 in
set_option maxRecDepth 100000 in
theorem qc_D_joinedMark (l : Launch) (dC : Nat → ClassId) (dI : Nat → Nat → Nat) (a : Nat → Nat) (k : Nat → ClassId) (p1 : Int32) (p2 : Int32) (p3 : Int32) (x : QX) (post : Int32 → QX → Prop) (hw : qw_D_joinedMark p1 p2 p3 x post) : qa_Ci l y_D_joinedMark qv_D_joinedMark qr_D_joinedMark (dC, dI) classes (qC_t k) (qC_w a k) [.int p1, .int p2, .int p3] x post := by
  refine qa_ofWi (by decide) (Nat.le_of_ble_eq_true rfl) ?_
  intro p e s m args below meth c A H locs ls C S hl
  replace hl : lv_has ls 3 [(0, .int p1), (1, .int p2), (2, .int p3)] := hl
  have hx := C.1
  have hb := C.2.1
  unfold qw_D_joinedMark at hw
  refine lv_iload_n hx hb d_D_joinedMark_0 rfl (lv_at hl 1 rfl) ?_
  refine lv_iload_n hx hb d_D_joinedMark_1 rfl (lv_at hl 0 rfl) ?_
  refine lv_icmp_ne (tgt := 7) hx hb d_D_joinedMark_2 rfl (fun hc => ?_) (fun hc => ?_)
  · replace hw := hw.1 hc
    refine lv_iload_n hx hb d_D_joinedMark_7 rfl (lv_at hl 2 rfl) ?_
    refine lv_iload_n hx hb d_D_joinedMark_8 rfl (lv_at hl 0 rfl) ?_
    refine lv_icmp_eq (tgt := 17) hx hb d_D_joinedMark_9 rfl (fun hc => ?_) (fun hc => ?_)
    · replace hw := hw.1 hc
      refine lv_iload_n hx hb d_D_joinedMark_17 rfl (lv_at hl 1 rfl) ?_
      refine lv_goto (tgt := 23) hx hb d_D_joinedMark_18 rfl ?_
      exact qa_reti C S hw d_D_joinedMark_23
    replace hw := hw.2 hc
    refine lv_iload_n hx hb d_D_joinedMark_12 rfl (lv_at hl 2 rfl) ?_
    refine lv_iload_n hx hb d_D_joinedMark_13 rfl (lv_at hl 1 rfl) ?_
    refine lv_icmp_ne (tgt := 21) hx hb d_D_joinedMark_14 rfl (fun hc => ?_) (fun hc => ?_)
    · replace hw := hw.1 hc
      refine lv_bipush (v := -2) hx hb d_D_joinedMark_21 (by decide) ?_
      exact qa_reti C S hw d_D_joinedMark_23
    replace hw := hw.2 hc
    refine lv_iload_n hx hb d_D_joinedMark_17 rfl (lv_at hl 1 rfl) ?_
    refine lv_goto (tgt := 23) hx hb d_D_joinedMark_18 rfl ?_
    exact qa_reti C S hw d_D_joinedMark_23
  replace hw := hw.2 hc
  refine lv_iload_n hx hb d_D_joinedMark_5 rfl (lv_at hl 2 rfl) ?_
  exact qa_reti C S hw d_D_joinedMark_6
set_option maxHeartbeats 4000000 in
set_option maxRecDepth 100000 in
theorem qk_D_openJoined_H79 {p : Program} {l : Launch} {e : Env} {s : State} {m : MethodId} {args : Array Value} {below : List Frame} {meth : Method} {c : Code} {A : Nat → Prop} {dC : Nat → ClassId} {dI : Nat → Nat → Nat} {a : Nat → Nat} {k : Nat → ClassId} (C : qa_X p s m args meth c b_D_openJoined 11 none R_D)  (post : QX → Prop)  : ∀ (n : Nat), ∀ (v2 : Int32) (v3 : Int32) (v4 : Int32) (v5 : Int64) (v7 : Int64) (v9 : Int32) (v10 : Int32) (x : QX) (H : Heap) (locs : List Loc) (ls : Array Slot), qw_D_openJoined_H79  post n v2 v3 v4 v5 v7 v9 v10 x → qa_S (dC, dI) classes (qC_t k) (qC_w a k) A s x H locs → lv_has ls 11 [(0, .ref (a 3)), (1, .ref (a 2)), (2, .int v2), (3, .int v3), (4, .int v4), (5, .long v5), (7, .long v7), (9, .int v9), (10, .int v10)] → W p l e qr_D_openJoined s m args below meth c H locs 0 0 (MQ below (va_Qv post (qa_B (dC, dI) classes (qC_t k) (qC_w a k) A) A) args s 0 0 A) (F0 m 79 ls []) := by
  have hx := C.1
  have hb := C.2.1
  intro n
  induction n with
  | zero => intro v2 v3 v4 v5 v7 v9 v10 x H locs ls hw S hl; exact False.elim hw
  | succ n ih =>
    intro v2 v3 v4 v5 v7 v9 v10 x H locs ls hw S hl
    replace hw : qw_D_openJoined_S79  post (qw_D_openJoined_H79  post n) v2 v3 v4 v5 v7 v9 v10 x := hw
    unfold qw_D_openJoined_S79 at hw
    refine lv_iload hx hb d_D_openJoined_79 (lv_at hl 8 rfl) ?_
    refine lv_iconst (v := 3) hx hb d_D_openJoined_81 (by decide) ?_
    refine lv_icmp_ge (tgt := 123) hx hb d_D_openJoined_82 rfl (fun hc => ?_) (fun hc => ?_)
    · replace hw := hw.1 hc
      exact qa_retv C S hw d_D_openJoined_123
    replace hw := hw.2 hc
    refine lv_aload_n hx hb d_D_openJoined_85 rfl (lv_at hl 0 rfl) ?_
    refine qf_C_D_marks C S qh_76 d_D_openJoined_86 ?_
    refine lv_iload hx hb d_D_openJoined_89 (lv_at hl 8 rfl) ?_
    refine lv_aload_n hx hb d_D_openJoined_91 rfl (lv_at hl 1 rfl) ?_
    refine lv_iload_n hx hb d_D_openJoined_92 rfl (lv_at hl 2 rfl) ?_
    refine lv_iload hx hb d_D_openJoined_93 (lv_at hl 8 rfl) ?_
    refine qa_calli (qa_runV (As := [.int v2, .int v10]) (rest := [.int v10, .ref (a 13)]) C S (qc_O_markIn l dC dI a k _ _ _ _ hw H.size) (cwV 2 C.2.2.2.2.1 qo_D_43_O_markIn rfl rfl rfl qd_O_markIn ⟨Nat.le_of_ble_eq_true rfl, Nat.le_of_ble_eq_true rfl⟩) (va_recv (q0 := 2) (ci := 2) S.2.2.1 S.1 rfl rfl) rfl hl.1 rfl (Nat.le_of_ble_eq_true rfl) d_D_openJoined_95) S (fun r15 x14 H locs hw S => ?_)
    refine lv_aload_n hx hb d_D_openJoined_98 rfl (lv_at hl 1 rfl) ?_
    refine lv_iload_n hx hb d_D_openJoined_99 rfl (lv_at hl 3 rfl) ?_
    refine lv_iload hx hb d_D_openJoined_100 (lv_at hl 8 rfl) ?_
    refine qa_calli (qa_runV (As := [.int v3, .int v10]) (rest := [.int r15, .int v10, .ref (a 13)]) C S (qc_O_markIn l dC dI a k _ _ _ _ hw H.size) (cwV 2 C.2.2.2.2.1 qo_D_43_O_markIn rfl rfl rfl qd_O_markIn ⟨Nat.le_of_ble_eq_true rfl, Nat.le_of_ble_eq_true rfl⟩) (va_recv (q0 := 2) (ci := 2) S.2.2.1 S.1 rfl rfl) rfl hl.1 rfl (Nat.le_of_ble_eq_true rfl) d_D_openJoined_102) S (fun r17 x16 H locs hw S => ?_)
    refine lv_aload_n hx hb d_D_openJoined_105 rfl (lv_at hl 1 rfl) ?_
    refine lv_iload hx hb d_D_openJoined_106 (lv_at hl 4 rfl) ?_
    refine lv_iload hx hb d_D_openJoined_108 (lv_at hl 8 rfl) ?_
    refine qa_calli (qa_runV (As := [.int v4, .int v10]) (rest := [.int r17, .int r15, .int v10, .ref (a 13)]) C S (qc_O_markIn l dC dI a k _ _ _ _ hw H.size) (cwV 2 C.2.2.2.2.1 qo_D_43_O_markIn rfl rfl rfl qd_O_markIn ⟨Nat.le_of_ble_eq_true rfl, Nat.le_of_ble_eq_true rfl⟩) (va_recv (q0 := 2) (ci := 2) S.2.2.1 S.1 rfl rfl) rfl hl.1 rfl (Nat.le_of_ble_eq_true rfl) d_D_openJoined_110) S (fun r19 x18 H locs hw S => ?_)
    refine qa_calli (qa_runS (As := [.int r15, .int r17, .int r19]) (rest := [.int v10, .ref (a 13)]) C S (qc_D_joinedMark l dC dI a k _ _ _ _ _ hw H.size) (cwS 3 C.2.2.2.2.1 qo_D_49_D_joinedMark rfl rfl rfl qd_D_joinedMark ⟨Nat.le_of_ble_eq_true rfl, Nat.le_of_ble_eq_true rfl⟩) rfl hl.1 rfl (Nat.le_of_ble_eq_true rfl) d_D_openJoined_113) S (fun r21 x20 H locs hw S => ?_)
    obtain ⟨hi, hw⟩ := hw
    refine qt_C_dmarks C S hi d_D_openJoined_116 (fun x22 H locs ex22 S => ?_)
    replace hw := hw x22 ex22
    refine lv_iinc (k := 8) (v := v10 + 1) (lv' := [(10, .int (v10 + 1)), (0, .ref (a 3)), (1, .ref (a 2)), (2, .int v2), (3, .int v3), (4, .int v4), (5, .long v5), (7, .long v7), (9, .int v9)]) hx hb d_D_openJoined_117 hl rfl rfl (by decide) rfl (fun ls hl => ?_)
    refine lv_goto (tgt := 79) hx hb d_D_openJoined_120 rfl ?_
    exact ih _ _ _ _ _ _ _ _ _ _ _ hw S (lv_sub hl [1, 2, 3, 4, 5, 6, 7, 8, 0] rfl)
set_option maxHeartbeats 4000000 in
set_option maxRecDepth 100000 in
theorem qc_D_openJoined (l : Launch) (dC : Nat → ClassId) (dI : Nat → Nat → Nat) (a : Nat → Nat) (k : Nat → ClassId) (p2 : Int32) (p3 : Int32) (p4 : Int32) (x : QX) (post : QX → Prop) (hw : qw_D_openJoined p2 p3 p4 x post) : qa_Cv l y_D_openJoined qv_D_openJoined qr_D_openJoined (dC, dI) classes (qC_t k) (qC_w a k) [.ref (a 3), .ref (a 2), .int p2, .int p3, .int p4] x post := by
  refine qa_ofWv (by decide) (Nat.le_of_ble_eq_true rfl) ?_
  intro p e s m args below meth c A H locs ls C S hl
  replace hl : lv_has ls 11 [(0, .ref (a 3)), (1, .ref (a 2)), (2, .int p2), (3, .int p3), (4, .int p4)] := hl
  have hx := C.1
  have hb := C.2.1
  unfold qw_D_openJoined at hw
  refine lv_aload_n hx hb d_D_openJoined_0 rfl (lv_at hl 0 rfl) ?_
  refine qa_callv (qa_runV (As := []) (rest := []) C S (qc_D_start l dC dI a k _ _ hw H.size) (cwV 0 C.2.2.2.2.1 qo_D_22_D_start rfl rfl rfl qd_D_start ⟨Nat.le_of_ble_eq_true rfl, Nat.le_of_ble_eq_true rfl⟩) (va_recv (q0 := 3) (ci := 3) S.2.2.1 S.1 rfl rfl) rfl hl.1 rfl (Nat.le_of_ble_eq_true rfl) d_D_openJoined_1) S (fun x1 H locs hw S => ?_)
  refine lv_aload_n hx hb d_D_openJoined_4 rfl (lv_at hl 1 rfl) ?_
  refine lv_iload_n hx hb d_D_openJoined_5 rfl (lv_at hl 3 rfl) ?_
  refine qa_calll (qa_runV (As := [.int p3]) (rest := []) C S (qc_O_shownIn l dC dI a k _ _ _ hw H.size) (cwV 1 C.2.2.2.2.1 qo_D_25_O_shownIn rfl rfl rfl qd_O_shownIn ⟨Nat.le_of_ble_eq_true rfl, Nat.le_of_ble_eq_true rfl⟩) (va_recv (q0 := 2) (ci := 2) S.2.2.1 S.1 rfl rfl) rfl hl.1 rfl (Nat.le_of_ble_eq_true rfl) d_D_openJoined_6) S (fun r3 x2 H locs hw S => ?_)
  refine lv_lstore (lv' := [(5, .long r3), (0, .ref (a 3)), (1, .ref (a 2)), (2, .int p2), (3, .int p3), (4, .int p4)]) hx hb d_D_openJoined_9 hl (by decide) rfl (fun ls hl => ?_)
  refine lv_aload_n hx hb d_D_openJoined_11 rfl (lv_at hl 2 rfl) ?_
  refine lv_iload hx hb d_D_openJoined_12 (lv_at hl 5 rfl) ?_
  refine qa_calll (qa_runV (As := [.int p4]) (rest := []) C S (qc_O_shownIn l dC dI a k _ _ _ hw H.size) (cwV 1 C.2.2.2.2.1 qo_D_25_O_shownIn rfl rfl rfl qd_O_shownIn ⟨Nat.le_of_ble_eq_true rfl, Nat.le_of_ble_eq_true rfl⟩) (va_recv (q0 := 2) (ci := 2) S.2.2.1 S.1 rfl rfl) rfl hl.1 rfl (Nat.le_of_ble_eq_true rfl) d_D_openJoined_14) S (fun r5 x4 H locs hw S => ?_)
  refine lv_lstore (lv' := [(7, .long r5), (5, .long r3), (0, .ref (a 3)), (1, .ref (a 2)), (2, .int p2), (3, .int p3), (4, .int p4)]) hx hb d_D_openJoined_17 hl (by decide) rfl (fun ls hl => ?_)
  refine lv_aload_n hx hb d_D_openJoined_19 rfl (lv_at hl 2 rfl) ?_
  refine lv_lload hx hb d_D_openJoined_20 (lv_at hl 1 rfl) ?_
  refine lv_lload hx hb d_D_openJoined_22 (lv_at hl 0 rfl) ?_
  refine lv_land hx hb d_D_openJoined_24 ?_
  refine lv_lload hx hb d_D_openJoined_25 (lv_at hl 1 rfl) ?_
  refine lv_lload hx hb d_D_openJoined_27 (lv_at hl 0 rfl) ?_
  refine lv_lor hx hb d_D_openJoined_29 ?_
  refine lv_aload_n hx hb d_D_openJoined_30 rfl (lv_at hl 3 rfl) ?_
  refine lv_iload_n hx hb d_D_openJoined_31 rfl (lv_at hl 4 rfl) ?_
  refine qa_calll (qa_runV (As := [.int p2]) (rest := [.long (r3 ||| r5), .long (r3 &&& r5), .ref (a 3)]) C S (qc_O_shownIn l dC dI a k _ _ _ hw H.size) (cwV 1 C.2.2.2.2.1 qo_D_25_O_shownIn rfl rfl rfl qd_O_shownIn ⟨Nat.le_of_ble_eq_true rfl, Nat.le_of_ble_eq_true rfl⟩) (va_recv (q0 := 2) (ci := 2) S.2.2.1 S.1 rfl rfl) rfl hl.1 rfl (Nat.le_of_ble_eq_true rfl) d_D_openJoined_32) S (fun r7 x6 H locs hw S => ?_)
  refine lv_ldc2 (v := -1) hx hb C.2.2.2.2.2.1 (C.2.2.2.2.1 _ qh_229) d_D_openJoined_35 ?_
  refine lv_lxor hx hb d_D_openJoined_38 ?_
  refine lv_land hx hb d_D_openJoined_39 ?_
  refine lv_lor hx hb d_D_openJoined_40 ?_
  refine qp_C_D_shown C S qh_80 d_D_openJoined_41 (fun x8 H locs ex8 S => ?_)
  replace hw := hw x8 ex8
  refine lv_aload_n hx hb d_D_openJoined_44 rfl (lv_at hl 3 rfl) ?_
  refine lv_iload_n hx hb d_D_openJoined_45 rfl (lv_at hl 5 rfl) ?_
  refine qa_calli (qa_runV (As := [.int p3]) (rest := []) C S (qc_O_workingIn l dC dI a k _ _ _ hw H.size) (cwV 1 C.2.2.2.2.1 qo_D_35_O_workingIn rfl rfl rfl qd_O_workingIn ⟨Nat.le_of_ble_eq_true rfl, Nat.le_of_ble_eq_true rfl⟩) (va_recv (q0 := 2) (ci := 2) S.2.2.1 S.1 rfl rfl) rfl hl.1 rfl (Nat.le_of_ble_eq_true rfl) d_D_openJoined_46) S (fun r10 x9 H locs hw S => ?_)
  refine lv_istore (lv' := [(9, .int r10), (7, .long r5), (5, .long r3), (0, .ref (a 3)), (1, .ref (a 2)), (2, .int p2), (3, .int p3), (4, .int p4)]) hx hb d_D_openJoined_49 hl (by decide) rfl (fun ls hl => ?_)
  refine lv_aload_n hx hb d_D_openJoined_51 rfl (lv_at hl 3 rfl) ?_
  refine lv_iload hx hb d_D_openJoined_52 (lv_at hl 0 rfl) ?_
  refine lv_aload_n hx hb d_D_openJoined_54 rfl (lv_at hl 4 rfl) ?_
  refine lv_iload_n hx hb d_D_openJoined_55 rfl (lv_at hl 5 rfl) ?_
  refine qa_calli (qa_runV (As := [.int p2]) (rest := [.int r10, .ref (a 3)]) C S (qc_O_workingIn l dC dI a k _ _ _ hw H.size) (cwV 1 C.2.2.2.2.1 qo_D_35_O_workingIn rfl rfl rfl qd_O_workingIn ⟨Nat.le_of_ble_eq_true rfl, Nat.le_of_ble_eq_true rfl⟩) (va_recv (q0 := 2) (ci := 2) S.2.2.1 S.1 rfl rfl) rfl hl.1 rfl (Nat.le_of_ble_eq_true rfl) d_D_openJoined_56) S (fun r12 x11 H locs hw S => ?_)
  refine lv_icmp_ne (tgt := 71) hx hb d_D_openJoined_59 rfl (fun hc => ?_) (fun hc => ?_)
  · replace hw := hw.1 hc
    refine lv_iload hx hb d_D_openJoined_71 (lv_at hl 0 rfl) ?_
    refine qp_C_D_working C S qh_82 d_D_openJoined_73 (fun x13 H locs ex13 S => ?_)
    replace hw := hw x13 ex13
    refine lv_iconst (v := 0) hx hb d_D_openJoined_76 (by decide) ?_
    refine lv_istore (lv' := [(10, .int (0 : Int32)), (9, .int r10), (7, .long r5), (5, .long r3), (0, .ref (a 3)), (1, .ref (a 2)), (2, .int p2), (3, .int p3), (4, .int p4)]) hx hb d_D_openJoined_77 hl (by decide) rfl (fun ls hl => ?_)
    exact qk_D_openJoined_H79 C post qFU _ _ _ _ _ _ _ _ _ _ _ hw S (lv_sub hl [4, 5, 6, 7, 8, 3, 2, 1, 0] rfl)
  replace hw := hw.2 hc
  refine lv_aload_n hx hb d_D_openJoined_62 rfl (lv_at hl 4 rfl) ?_
  refine lv_iload hx hb d_D_openJoined_63 (lv_at hl 7 rfl) ?_
  refine qa_calli (qa_runV (As := [.int p4]) (rest := [.ref (a 3)]) C S (qc_O_workingIn l dC dI a k _ _ _ hw H.size) (cwV 1 C.2.2.2.2.1 qo_D_35_O_workingIn rfl rfl rfl qd_O_workingIn ⟨Nat.le_of_ble_eq_true rfl, Nat.le_of_ble_eq_true rfl⟩) (va_recv (q0 := 2) (ci := 2) S.2.2.1 S.1 rfl rfl) rfl hl.1 rfl (Nat.le_of_ble_eq_true rfl) d_D_openJoined_65) S (fun r24 x23 H locs hw S => ?_)
  refine lv_goto (tgt := 73) hx hb d_D_openJoined_68 rfl ?_
  refine qp_C_D_working C S qh_82 d_D_openJoined_73 (fun x25 H locs ex25 S => ?_)
  replace hw := hw x25 ex25
  refine lv_iconst (v := 0) hx hb d_D_openJoined_76 (by decide) ?_
  refine lv_istore (lv' := [(10, .int (0 : Int32)), (9, .int r10), (7, .long r5), (5, .long r3), (0, .ref (a 3)), (1, .ref (a 2)), (2, .int p2), (3, .int p3), (4, .int p4)]) hx hb d_D_openJoined_77 hl (by decide) rfl (fun ls hl => ?_)
  exact qk_D_openJoined_H79 C post qFU _ _ _ _ _ _ _ _ _ _ _ hw S (lv_sub hl [4, 5, 6, 7, 8, 3, 2, 1, 0] rfl)
set_option maxHeartbeats 4000000 in
set_option maxRecDepth 100000 in
theorem qc_S_join (l : Launch) (dC : Nat → ClassId) (dI : Nat → Nat → Nat) (a : Nat → Nat) (k : Nat → ClassId)  (x : QX) (post : Int32 → QX → Prop) (hw : qw_S_join  x post) : qa_Ci l y_S_join qv_S_join qr_S_join (dC, dI) classes (qC_t k) (qC_w a k) [.ref (a 0)] x post := by
  refine qa_ofWi (by decide) (Nat.le_of_ble_eq_true rfl) ?_
  intro p e s m args below meth c A H locs ls C S hl
  replace hl : lv_has ls 2 [(0, .ref (a 0))] := hl
  have hx := C.1
  have hb := C.2.1
  unfold qw_S_join at hw
  refine lv_aload_n hx hb d_S_join_0 rfl (lv_at hl 0 rfl) ?_
  refine qa_calli (qa_runV (As := []) (rest := []) C S (qc_S_hasLineOne l dC dI a k _ _ hw H.size) (cwV 0 C.2.2.2.2.1 qo_S_133_S_hasLineOne rfl rfl rfl qd_S_hasLineOne ⟨Nat.le_of_ble_eq_true rfl, Nat.le_of_ble_eq_true rfl⟩) (va_recv (q0 := 0) (ci := 0) S.2.2.1 S.1 rfl rfl) rfl hl.1 rfl (Nat.le_of_ble_eq_true rfl) d_S_join_1) S (fun r2 x1 H locs hw S => ?_)
  refine lv_if_ne (tgt := 9) hx hb d_S_join_4 rfl (fun hc => ?_) (fun hc => ?_)
  · replace hw := hw.1 hc
    refine lv_aload_n hx hb d_S_join_9 rfl (lv_at hl 0 rfl) ?_
    refine qf_C_S_draft C S qh_102 d_S_join_10 ?_
    refine lv_aload_n hx hb d_S_join_13 rfl (lv_at hl 0 rfl) ?_
    refine qf_C_S_operations C S qh_101 d_S_join_14 ?_
    refine lv_aload_n hx hb d_S_join_17 rfl (lv_at hl 0 rfl) ?_
    refine qf_C_S_lineOneBegan C S qh_105 d_S_join_18 ?_
    refine lv_aload_n hx hb d_S_join_21 rfl (lv_at hl 0 rfl) ?_
    refine qf_C_S_currents C S qh_103 d_S_join_22 ?_
    refine lv_iconst (v := 0) hx hb d_S_join_25 (by decide) ?_
    obtain ⟨hi, hw⟩ := hw
    refine qe_C_currents C S hi d_S_join_26 ?_
    refine lv_aload_n hx hb d_S_join_27 rfl (lv_at hl 0 rfl) ?_
    refine qf_C_S_currents C S qh_103 d_S_join_28 ?_
    refine lv_iconst (v := 1) hx hb d_S_join_31 (by decide) ?_
    obtain ⟨hi, hw⟩ := hw
    refine qe_C_currents C S hi d_S_join_32 ?_
    refine qa_callv (qa_runV (As := [.ref (a 2), .int (gI x1 1), .int (gA x1 0 (0 : Int32).toNatClampNeg), .int (gA x1 0 (1 : Int32).toNatClampNeg)]) (rest := []) C S (qc_D_openJoined l dC dI a k _ _ _ _ _ hw H.size) (cwV 4 C.2.2.2.2.1 qo_S_136_D_openJoined rfl rfl rfl qd_D_openJoined ⟨Nat.le_of_ble_eq_true rfl, Nat.le_of_ble_eq_true rfl⟩) (va_recv (q0 := 3) (ci := 3) S.2.2.1 S.1 rfl rfl) rfl hl.1 rfl (Nat.le_of_ble_eq_true rfl) d_S_join_33) S (fun x3 H locs hw S => ?_)
    refine lv_aload_n hx hb d_S_join_36 rfl (lv_at hl 0 rfl) ?_
    refine lv_iconst (v := 0) hx hb d_S_join_37 (by decide) ?_
    refine lv_aload_n hx hb d_S_join_38 rfl (lv_at hl 0 rfl) ?_
    refine qf_C_S_currents C S qh_103 d_S_join_39 ?_
    refine lv_iconst (v := 1) hx hb d_S_join_42 (by decide) ?_
    obtain ⟨hi, hw⟩ := hw
    refine qe_C_currents C S hi d_S_join_43 ?_
    refine qa_calli (qa_runV (As := [.int (0 : Int32), .int (gA x3 0 (1 : Int32).toNatClampNeg)]) (rest := []) C S (qc_S_keepDraft l dC dI a k _ _ _ _ hw H.size) (cwV 2 C.2.2.2.2.1 qo_S_65_S_keepDraft rfl rfl rfl qd_S_keepDraft ⟨Nat.le_of_ble_eq_true rfl, Nat.le_of_ble_eq_true rfl⟩) (va_recv (q0 := 0) (ci := 0) S.2.2.1 S.1 rfl rfl) rfl hl.1 rfl (Nat.le_of_ble_eq_true rfl) d_S_join_44) S (fun r5 x4 H locs hw S => ?_)
    refine lv_istore_n (lv' := [(1, .int r5), (0, .ref (a 0))]) hx hb d_S_join_47 rfl hl (by decide) rfl (fun ls hl => ?_)
    refine lv_iload_n hx hb d_S_join_48 rfl (lv_at hl 0 rfl) ?_
    refine lv_bipush (v := -3) hx hb d_S_join_49 (by decide) ?_
    refine lv_icmp_eq (tgt := 71) hx hb d_S_join_51 rfl (fun hc => ?_) (fun hc => ?_)
    · replace hw := hw.1 hc
      refine lv_iload_n hx hb d_S_join_71 rfl (lv_at hl 0 rfl) ?_
      exact qa_reti C S hw d_S_join_72
    replace hw := hw.2 hc
    refine lv_aload_n hx hb d_S_join_54 rfl (lv_at hl 1 rfl) ?_
    refine qf_C_S_currents C S qh_103 d_S_join_55 ?_
    refine lv_iconst (v := 1) hx hb d_S_join_58 (by decide) ?_
    refine lv_iconst (v := -1) hx hb d_S_join_59 (by decide) ?_
    obtain ⟨hi, hw⟩ := hw
    refine qt_C_currents C S hi d_S_join_60 (fun x6 H locs ex6 S => ?_)
    replace hw := hw x6 ex6
    refine lv_aload_n hx hb d_S_join_61 rfl (lv_at hl 1 rfl) ?_
    refine lv_iconst (v := -1) hx hb d_S_join_62 (by decide) ?_
    refine qp_C_S_lineOneBegan C S qh_105 d_S_join_63 (fun x7 H locs ex7 S => ?_)
    replace hw := hw x7 ex7
    refine lv_aload_n hx hb d_S_join_66 rfl (lv_at hl 1 rfl) ?_
    refine lv_iconst (v := 0) hx hb d_S_join_67 (by decide) ?_
    refine qp_C_S_chosen C S qh_104 d_S_join_68 (fun x8 H locs ex8 S => ?_)
    replace hw := hw x8 ex8
    refine lv_iload_n hx hb d_S_join_71 rfl (lv_at hl 0 rfl) ?_
    exact qa_reti C S hw d_S_join_72
  replace hw := hw.2 hc
  refine lv_iconst (v := -1) hx hb d_S_join_7 (by decide) ?_
  exact qa_reti C S hw d_S_join_8
set_option maxHeartbeats 4000000 in
set_option maxRecDepth 100000 in
theorem qc_S_operation (l : Launch) (dC : Nat → ClassId) (dI : Nat → Nat → Nat) (a : Nat → Nat) (k : Nat → ClassId)  (x : QX) (post : Int32 → QX → Prop) (hw : qw_S_operation  x post) : qa_Ci l y_S_operation qv_S_operation qr_S_operation (dC, dI) classes (qC_t k) (qC_w a k) [.ref (a 0)] x post := by
  refine qa_ofWi (by decide) (Nat.le_of_ble_eq_true rfl) ?_
  intro p e s m args below meth c A H locs ls C S hl
  replace hl : lv_has ls 1 [(0, .ref (a 0))] := hl
  have hx := C.1
  have hb := C.2.1
  unfold qw_S_operation at hw
  refine lv_aload_n hx hb d_S_operation_0 rfl (lv_at hl 0 rfl) ?_
  refine qf_C_S_currents C S qh_103 d_S_operation_1 ?_
  refine lv_aload_n hx hb d_S_operation_4 rfl (lv_at hl 0 rfl) ?_
  refine qf_C_S_chosen C S qh_104 d_S_operation_5 ?_
  obtain ⟨hi, hw⟩ := hw
  refine qe_C_currents C S hi d_S_operation_8 ?_
  exact qa_reti C S hw d_S_operation_9
set_option maxHeartbeats 4000000 in
set_option maxRecDepth 100000 in
theorem qc_S_before (l : Launch) (dC : Nat → ClassId) (dI : Nat → Nat → Nat) (a : Nat → Nat) (k : Nat → ClassId) (p1 : Int32) (p2 : Int32) (x : QX) (post : Int32 → QX → Prop) (hw : qw_S_before p1 p2 x post) : qa_Ci l y_S_before qv_S_before qr_S_before (dC, dI) classes (qC_t k) (qC_w a k) [.ref (a 0), .int p1, .int p2] x post := by
  refine qa_ofWi (by decide) (Nat.le_of_ble_eq_true rfl) ?_
  intro p e s m args below meth c A H locs ls C S hl
  replace hl : lv_has ls 3 [(0, .ref (a 0)), (1, .int p1), (2, .int p2)] := hl
  have hx := C.1
  have hb := C.2.1
  unfold qw_S_before at hw
  refine lv_iload_n hx hb d_S_before_0 rfl (lv_at hl 2 rfl) ?_
  refine lv_if_ne (tgt := 13) hx hb d_S_before_1 rfl (fun hc => ?_) (fun hc => ?_)
  · replace hw := hw.1 hc
    refine lv_iload_n hx hb d_S_before_13 rfl (lv_at hl 2 rfl) ?_
    refine lv_iconst (v := 1) hx hb d_S_before_14 (by decide) ?_
    refine lv_icmp_ne (tgt := 29) hx hb d_S_before_15 rfl (fun hc => ?_) (fun hc => ?_)
    · replace hw := hw.1 hc
      refine lv_iconst (v := -1) hx hb d_S_before_29 (by decide) ?_
      exact qa_reti C S hw d_S_before_30
    replace hw := hw.2 hc
    refine lv_aload_n hx hb d_S_before_18 rfl (lv_at hl 0 rfl) ?_
    refine qf_C_S_operations C S qh_101 d_S_before_19 ?_
    refine lv_iload_n hx hb d_S_before_22 rfl (lv_at hl 1 rfl) ?_
    refine qa_calli (qa_runV (As := [.int p1]) (rest := []) C S (qc_O_secondBefore l dC dI a k _ _ _ hw H.size) (cwV 1 C.2.2.2.2.1 qo_S_123_O_secondBefore rfl rfl rfl qd_O_secondBefore ⟨Nat.le_of_ble_eq_true rfl, Nat.le_of_ble_eq_true rfl⟩) (va_recv (q0 := 2) (ci := 2) S.2.2.1 S.1 rfl rfl) rfl hl.1 rfl (Nat.le_of_ble_eq_true rfl) d_S_before_23) S (fun r2 x1 H locs hw S => ?_)
    refine lv_goto (tgt := 30) hx hb d_S_before_26 rfl ?_
    exact qa_reti C S hw d_S_before_30
  replace hw := hw.2 hc
  refine lv_aload_n hx hb d_S_before_4 rfl (lv_at hl 0 rfl) ?_
  refine qf_C_S_operations C S qh_101 d_S_before_5 ?_
  refine lv_iload_n hx hb d_S_before_8 rfl (lv_at hl 1 rfl) ?_
  refine qa_calli (qa_runV (As := [.int p1]) (rest := []) C S (qc_O_firstBefore l dC dI a k _ _ _ hw H.size) (cwV 1 C.2.2.2.2.1 qo_S_120_O_firstBefore rfl rfl rfl qd_O_firstBefore ⟨Nat.le_of_ble_eq_true rfl, Nat.le_of_ble_eq_true rfl⟩) (va_recv (q0 := 2) (ci := 2) S.2.2.1 S.1 rfl rfl) rfl hl.1 rfl (Nat.le_of_ble_eq_true rfl) d_S_before_9) S (fun r4 x3 H locs hw S => ?_)
  exact qa_reti C S hw d_S_before_12
set_option maxHeartbeats 4000000 in
set_option maxRecDepth 100000 in
theorem qc_S_visible (l : Launch) (dC : Nat → ClassId) (dI : Nat → Nat → Nat) (a : Nat → Nat) (k : Nat → ClassId) (p1 : Int32) (p2 : Int32) (x : QX) (post : Int32 → QX → Prop) (hw : qw_S_visible p1 p2 x post) : qa_Ci l y_S_visible qv_S_visible qr_S_visible (dC, dI) classes (qC_t k) (qC_w a k) [.ref (a 0), .int p1, .int p2] x post := by
  refine qa_ofWi (by decide) (Nat.le_of_ble_eq_true rfl) ?_
  intro p e s m args below meth c A H locs ls C S hl
  replace hl : lv_has ls 3 [(0, .ref (a 0)), (1, .int p1), (2, .int p2)] := hl
  have hx := C.1
  have hb := C.2.1
  unfold qw_S_visible at hw
  refine lv_iload_n hx hb d_S_visible_0 rfl (lv_at hl 2 rfl) ?_
  refine lv_aload_n hx hb d_S_visible_1 rfl (lv_at hl 0 rfl) ?_
  refine qf_C_S_operations C S qh_101 d_S_visible_2 ?_
  refine lv_iload_n hx hb d_S_visible_5 rfl (lv_at hl 1 rfl) ?_
  refine qa_calll (qa_runV (As := [.int p1]) (rest := [.int p2]) C S (qc_O_shownIn l dC dI a k _ _ _ hw H.size) (cwV 1 C.2.2.2.2.1 qo_S_140_O_shownIn rfl rfl rfl qd_O_shownIn ⟨Nat.le_of_ble_eq_true rfl, Nat.le_of_ble_eq_true rfl⟩) (va_recv (q0 := 2) (ci := 2) S.2.2.1 S.1 rfl rfl) rfl hl.1 rfl (Nat.le_of_ble_eq_true rfl) d_S_visible_6) S (fun r2 x1 H locs hw S => ?_)
  refine qa_calli (qa_runS (As := [.int p2, .long r2]) (rest := []) C S (qc_S_isIn l dC dI a k _ _ _ _ hw H.size) (cwS 2 C.2.2.2.2.1 qo_S_107_S_isIn rfl rfl rfl qd_S_isIn ⟨Nat.le_of_ble_eq_true rfl, Nat.le_of_ble_eq_true rfl⟩) rfl hl.1 rfl (Nat.le_of_ble_eq_true rfl) d_S_visible_9) S (fun r4 x3 H locs hw S => ?_)
  exact qa_retz C S hw d_S_visible_12
