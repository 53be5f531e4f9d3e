set_option maxHeartbeats 4000000 in
set_option maxRecDepth 100000 in
theorem qc_O_add (l : Launch) (dC : Nat → ClassId) (dI : Nat → Nat → Nat) (a : Nat → Nat) (k : Nat → ClassId) (p2 : Int32) (p3 : Int32) (x : QX) (post : Int32 → QX → Prop) (hw : qw_O_add p2 p3 x post) : qa_Ci l y_O_add qv_O_add qr_O_add (dC, dI) classes (qC_t k) (qC_w a k) [.ref (a 2), .ref (a 3), .int p2, .int p3] x post := by
  refine qa_ofWi (by decide) (Nat.le_of_ble_eq_true rfl) ?_
  intro p e s m args below meth c A H locs ls C S hl
  replace hl : lv_has ls 5 [(0, .ref (a 2)), (1, .ref (a 3)), (2, .int p2), (3, .int p3)] := hl
  have hx := C.1
  have hb := C.2.1
  unfold qw_O_add at hw
  refine lv_aload_n hx hb d_O_add_0 rfl (lv_at hl 0 rfl) ?_
  refine qa_calli (qa_runV (As := []) (rest := []) C S (qc_O_isFull l dC dI a k _ _ hw H.size) (cwV 0 C.2.2.2.2.1 qo_O_43_O_isFull rfl rfl rfl qd_O_isFull ⟨Nat.le_of_ble_eq_true rfl, Nat.le_of_ble_eq_true rfl⟩) (va_recv (q0 := 2) (ci := 2) S.2.2.1 S.1 rfl rfl) rfl hl.1 rfl (Nat.le_of_ble_eq_true rfl) d_O_add_1) S (fun r2 x1 H locs hw S => ?_)
  refine lv_if_eq (tgt := 10) hx hb d_O_add_4 rfl (fun hc => ?_) (fun hc => ?_)
  · replace hw := hw.1 hc
    refine lv_aload_n hx hb d_O_add_10 rfl (lv_at hl 0 rfl) ?_
    refine qf_C_O_size C S qh_55 d_O_add_11 ?_
    refine lv_topi (fun t3 et3 => ?_)
    replace hw := hw t3 et3
    refine lv_istore (lv' := [(4, .int t3), (0, .ref (a 2)), (1, .ref (a 3)), (2, .int p2), (3, .int p3)]) hx hb d_O_add_14 hl (by decide) rfl (fun ls hl => ?_)
    refine lv_aload_n hx hb d_O_add_16 rfl (lv_at hl 1 rfl) ?_
    refine lv_dup hx hb d_O_add_17 rfl ?_
    refine qf_C_O_size C S qh_55 d_O_add_18 ?_
    refine lv_iconst (v := 1) hx hb d_O_add_21 (by decide) ?_
    refine lv_iadd hx hb d_O_add_22 ?_
    refine qp_C_O_size C S qh_55 d_O_add_23 (fun x4 H locs ex4 S => ?_)
    replace hw := hw x4 ex4
    refine lv_aload_n hx hb d_O_add_26 rfl (lv_at hl 1 rfl) ?_
    refine qf_C_O_firsts C S qh_50 d_O_add_27 ?_
    refine lv_iload hx hb d_O_add_30 (lv_at hl 0 rfl) ?_
    refine lv_iload_n hx hb d_O_add_32 rfl (lv_at hl 3 rfl) ?_
    obtain ⟨hi, hw⟩ := hw
    refine qt_C_firsts C S hi d_O_add_33 (fun x5 H locs ex5 S => ?_)
    replace hw := hw x5 ex5
    refine lv_aload_n hx hb d_O_add_34 rfl (lv_at hl 1 rfl) ?_
    refine qf_C_O_seconds C S qh_51 d_O_add_35 ?_
    refine lv_iload hx hb d_O_add_38 (lv_at hl 0 rfl) ?_
    refine lv_iload_n hx hb d_O_add_40 rfl (lv_at hl 4 rfl) ?_
    obtain ⟨hi, hw⟩ := hw
    refine qt_C_seconds C S hi d_O_add_41 (fun x6 H locs ex6 S => ?_)
    replace hw := hw x6 ex6
    refine lv_aload_n hx hb d_O_add_42 rfl (lv_at hl 1 rfl) ?_
    refine qf_C_O_shown C S qh_52 d_O_add_43 ?_
    refine lv_iload hx hb d_O_add_46 (lv_at hl 0 rfl) ?_
    refine lv_aload_n hx hb d_O_add_48 rfl (lv_at hl 2 rfl) ?_
    refine qfN_C_D_shown C S qh_81 d_O_add_49 ?_
    obtain ⟨hi, hw⟩ := hw
    refine qt_C_oshown C S hi d_O_add_52 (fun x7 H locs ex7 S => ?_)
    replace hw := hw x7 ex7
    refine lv_aload_n hx hb d_O_add_53 rfl (lv_at hl 1 rfl) ?_
    refine qf_C_O_workings C S qh_53 d_O_add_54 ?_
    refine lv_iload hx hb d_O_add_57 (lv_at hl 0 rfl) ?_
    refine lv_aload_n hx hb d_O_add_59 rfl (lv_at hl 2 rfl) ?_
    refine qfN_C_D_working C S qh_84 d_O_add_60 ?_
    obtain ⟨hi, hw⟩ := hw
    refine qt_C_workings C S hi d_O_add_63 (fun x8 H locs ex8 S => ?_)
    replace hw := hw x8 ex8
    refine lv_aload_n hx hb d_O_add_64 rfl (lv_at hl 2 rfl) ?_
    refine qfN_C_D_marks C S qh_78 d_O_add_65 ?_
    refine lv_iconst (v := 0) hx hb d_O_add_68 (by decide) ?_
    refine lv_aload_n hx hb d_O_add_69 rfl (lv_at hl 1 rfl) ?_
    refine qf_C_O_marks C S qh_54 d_O_add_70 ?_
    refine lv_iload hx hb d_O_add_73 (lv_at hl 0 rfl) ?_
    refine lv_iconst (v := 3) hx hb d_O_add_75 (by decide) ?_
    refine lv_imul hx hb d_O_add_76 ?_
    refine lv_iconst (v := 3) hx hb d_O_add_77 (by decide) ?_
    obtain ⟨h1, h2, h3, h4, h5, hw⟩ := hw
    refine qy_C_dmarks_omarks C S qh_284 hl.1 h1 h2 h3 h4 h5 (Nat.le_of_ble_eq_true rfl) (Nat.le_of_ble_eq_true rfl) d_O_add_78 (fun x9 H locs ex9 S => ?_)
    replace hw := hw x9 ex9
    refine lv_iload hx hb d_O_add_81 (lv_at hl 0 rfl) ?_
    exact qa_reti C S hw d_O_add_83
  replace hw := hw.2 hc
  refine lv_bipush (v := -3) hx hb d_O_add_7 (by decide) ?_
  exact qa_reti C S hw d_O_add_9
set_option maxHeartbeats 4000000 in
set_option maxRecDepth 100000 in
theorem qc_S_keepDraft (l : Launch) (dC : Nat → ClassId) (dI : Nat → Nat → Nat) (a : Nat → Nat) (k : Nat → ClassId) (p1 : Int32) (p2 : Int32) (x : QX) (post : Int32 → QX → Prop) (hw : qw_S_keepDraft p1 p2 x post) : qa_Ci l y_S_keepDraft qv_S_keepDraft qr_S_keepDraft (dC, dI) classes (qC_t k) (qC_w a k) [.ref (a 0), .int p1, .int p2] x post := by
  refine qa_ofWi (by decide) (Nat.le_of_ble_eq_true rfl) ?_
  intro p e s m args below meth c A H locs ls C S hl
  replace hl : lv_has ls 4 [(0, .ref (a 0)), (1, .int p1), (2, .int p2)] := hl
  have hx := C.1
  have hb := C.2.1
  unfold qw_S_keepDraft at hw
  refine lv_aload_n hx hb d_S_keepDraft_0 rfl (lv_at hl 0 rfl) ?_
  refine qf_C_S_operations C S qh_101 d_S_keepDraft_1 ?_
  refine qa_calli (qa_runV (As := []) (rest := []) C S (qc_O_isFull l dC dI a k _ _ hw H.size) (cwV 0 C.2.2.2.2.1 qo_S_162_O_isFull rfl rfl rfl qd_O_isFull ⟨Nat.le_of_ble_eq_true rfl, Nat.le_of_ble_eq_true rfl⟩) (va_recv (q0 := 2) (ci := 2) S.2.2.1 S.1 rfl rfl) rfl hl.1 rfl (Nat.le_of_ble_eq_true rfl) d_S_keepDraft_4) S (fun r2 x1 H locs hw S => ?_)
  refine lv_if_ne (tgt := 20) hx hb d_S_keepDraft_7 rfl (fun hc => ?_) (fun hc => ?_)
  · replace hw := hw.1 hc
    refine lv_aload_n hx hb d_S_keepDraft_20 rfl (lv_at hl 0 rfl) ?_
    refine qf_C_S_commits C S qh_100 d_S_keepDraft_21 ?_
    refine lv_aload_n hx hb d_S_keepDraft_24 rfl (lv_at hl 0 rfl) ?_
    refine qf_C_S_draft C S qh_102 d_S_keepDraft_25 ?_
    refine qfN_C_D_commitsAtOpening C S qh_86 d_S_keepDraft_28 ?_
    refine qa_callv (qa_runV (As := [.int (gI x1 6)]) (rest := []) C S (qc_C_dropFrom l dC dI a k _ _ _ hw H.size) (cwV 1 C.2.2.2.2.1 qo_S_169_C_dropFrom rfl rfl rfl qd_C_dropFrom ⟨Nat.le_of_ble_eq_true rfl, Nat.le_of_ble_eq_true rfl⟩) (va_recv (q0 := 1) (ci := 1) S.2.2.1 S.1 rfl rfl) rfl hl.1 rfl (Nat.le_of_ble_eq_true rfl) d_S_keepDraft_31) S (fun x3 H locs hw S => ?_)
    refine lv_bipush (v := -3) hx hb d_S_keepDraft_34 (by decide) ?_
    exact qa_reti C S hw d_S_keepDraft_36
  replace hw := hw.2 hc
  refine lv_aload_n hx hb d_S_keepDraft_10 rfl (lv_at hl 0 rfl) ?_
  refine qf_C_S_draft C S qh_102 d_S_keepDraft_11 ?_
  refine qa_calli (qa_runV (As := []) (rest := []) C S (qc_D_settleCommits l dC dI a k _ _ hw H.size) (cwV 0 C.2.2.2.2.1 qo_S_163_D_settleCommits rfl rfl rfl qd_D_settleCommits ⟨Nat.le_of_ble_eq_true rfl, Nat.le_of_ble_eq_true rfl⟩) (va_recv (q0 := 3) (ci := 3) S.2.2.1 S.1 rfl rfl) rfl hl.1 rfl (Nat.le_of_ble_eq_true rfl) d_S_keepDraft_14) S (fun r5 x4 H locs hw S => ?_)
  refine lv_if_ne (tgt := 37) hx hb d_S_keepDraft_17 rfl (fun hc => ?_) (fun hc => ?_)
  · replace hw := hw.1 hc
    refine lv_aload_n hx hb d_S_keepDraft_37 rfl (lv_at hl 0 rfl) ?_
    refine qf_C_S_draft C S qh_102 d_S_keepDraft_38 ?_
    refine qa_callv (qa_runV (As := []) (rest := []) C S (qc_D_settlePointers l dC dI a k _ _ hw H.size) (cwV 0 C.2.2.2.2.1 qo_S_172_D_settlePointers rfl rfl rfl qd_D_settlePointers ⟨Nat.le_of_ble_eq_true rfl, Nat.le_of_ble_eq_true rfl⟩) (va_recv (q0 := 3) (ci := 3) S.2.2.1 S.1 rfl rfl) rfl hl.1 rfl (Nat.le_of_ble_eq_true rfl) d_S_keepDraft_41) S (fun x6 H locs hw S => ?_)
    refine lv_aload_n hx hb d_S_keepDraft_44 rfl (lv_at hl 0 rfl) ?_
    refine qf_C_S_operations C S qh_101 d_S_keepDraft_45 ?_
    refine lv_aload_n hx hb d_S_keepDraft_48 rfl (lv_at hl 0 rfl) ?_
    refine qf_C_S_draft C S qh_102 d_S_keepDraft_49 ?_
    refine lv_aload_n hx hb d_S_keepDraft_52 rfl (lv_at hl 0 rfl) ?_
    refine qf_C_S_currents C S qh_103 d_S_keepDraft_53 ?_
    refine lv_iload_n hx hb d_S_keepDraft_56 rfl (lv_at hl 1 rfl) ?_
    obtain ⟨hi, hw⟩ := hw
    refine qe_C_currents C S hi d_S_keepDraft_57 ?_
    refine lv_iload_n hx hb d_S_keepDraft_58 rfl (lv_at hl 2 rfl) ?_
    refine qa_calli (qa_runV (As := [.ref (a 3), .int (gA x6 0 p1.toNatClampNeg), .int p2]) (rest := []) C S (qc_O_add l dC dI a k _ _ _ _ hw H.size) (cwV 3 C.2.2.2.2.1 qo_S_175_O_add rfl rfl rfl qd_O_add ⟨Nat.le_of_ble_eq_true rfl, Nat.le_of_ble_eq_true rfl⟩) (va_recv (q0 := 2) (ci := 2) S.2.2.1 S.1 rfl rfl) rfl hl.1 rfl (Nat.le_of_ble_eq_true rfl) d_S_keepDraft_59) S (fun r8 x7 H locs hw S => ?_)
    refine lv_istore_n (lv' := [(3, .int r8), (0, .ref (a 0)), (1, .int p1), (2, .int p2)]) hx hb d_S_keepDraft_62 rfl hl (by decide) rfl (fun ls hl => ?_)
    refine lv_aload_n hx hb d_S_keepDraft_63 rfl (lv_at hl 1 rfl) ?_
    refine qf_C_S_currents C S qh_103 d_S_keepDraft_64 ?_
    refine lv_iload_n hx hb d_S_keepDraft_67 rfl (lv_at hl 2 rfl) ?_
    refine lv_iload_n hx hb d_S_keepDraft_68 rfl (lv_at hl 0 rfl) ?_
    obtain ⟨hi, hw⟩ := hw
    refine qt_C_currents C S hi d_S_keepDraft_69 (fun x9 H locs ex9 S => ?_)
    replace hw := hw x9 ex9
    refine lv_iload_n hx hb d_S_keepDraft_70 rfl (lv_at hl 0 rfl) ?_
    exact qa_reti C S hw d_S_keepDraft_71
  replace hw := hw.2 hc
  refine lv_aload_n hx hb d_S_keepDraft_20 rfl (lv_at hl 0 rfl) ?_
  refine qf_C_S_commits C S qh_100 d_S_keepDraft_21 ?_
  refine lv_aload_n hx hb d_S_keepDraft_24 rfl (lv_at hl 0 rfl) ?_
  refine qf_C_S_draft C S qh_102 d_S_keepDraft_25 ?_
  refine qfN_C_D_commitsAtOpening C S qh_86 d_S_keepDraft_28 ?_
  refine qa_callv (qa_runV (As := [.int (gI x4 6)]) (rest := []) C S (qc_C_dropFrom l dC dI a k _ _ _ hw H.size) (cwV 1 C.2.2.2.2.1 qo_S_169_C_dropFrom rfl rfl rfl qd_C_dropFrom ⟨Nat.le_of_ble_eq_true rfl, Nat.le_of_ble_eq_true rfl⟩) (va_recv (q0 := 1) (ci := 1) S.2.2.1 S.1 rfl rfl) rfl hl.1 rfl (Nat.le_of_ble_eq_true rfl) d_S_keepDraft_31) S (fun x10 H locs hw S => ?_)
  refine lv_bipush (v := -3) hx hb d_S_keepDraft_34 (by decide) ?_
  exact qa_reti C S hw d_S_keepDraft_36
set_option maxHeartbeats 4000000 in
set_option maxRecDepth 100000 in
theorem qc_S_create (l : Launch) (dC : Nat → ClassId) (dI : Nat → Nat → Nat) (a : Nat → Nat) (k : Nat → ClassId) (p1 : Int32) (x : QX) (post : Int32 → QX → Prop) (hw : qw_S_create p1 x post) : qa_Ci l y_S_create qv_S_create qr_S_create (dC, dI) classes (qC_t k) (qC_w a k) [.ref (a 0), .int p1] x post := by
  refine qa_ofWi (by decide) (Nat.le_of_ble_eq_true rfl) ?_
  intro p e s m args below meth c A H locs ls C S hl
  replace hl : lv_has ls 3 [(0, .ref (a 0)), (1, .int p1)] := hl
  have hx := C.1
  have hb := C.2.1
  unfold qw_S_create at hw
  refine lv_aload_n hx hb d_S_create_0 rfl (lv_at hl 0 rfl) ?_
  refine qa_callv (qa_runV (As := []) (rest := []) C S (qc_S_openDraft l dC dI a k _ _ hw H.size) (cwV 0 C.2.2.2.2.1 qo_S_43_S_openDraft rfl rfl rfl qd_S_openDraft ⟨Nat.le_of_ble_eq_true rfl, Nat.le_of_ble_eq_true rfl⟩) (va_recv (q0 := 0) (ci := 0) S.2.2.1 S.1 rfl rfl) rfl hl.1 rfl (Nat.le_of_ble_eq_true rfl) d_S_create_1) S (fun x1 H locs hw S => ?_)
  refine lv_aload_n hx hb d_S_create_4 rfl (lv_at hl 0 rfl) ?_
  refine qf_C_S_draft C S qh_102 d_S_create_5 ?_
  refine lv_iload_n hx hb d_S_create_8 rfl (lv_at hl 1 rfl) ?_
  refine qa_calli (qa_runV (As := [.int p1]) (rest := []) C S (qc_D_shows l dC dI a k _ _ _ hw H.size) (cwV 1 C.2.2.2.2.1 qo_S_46_D_shows rfl rfl rfl qd_D_shows ⟨Nat.le_of_ble_eq_true rfl, Nat.le_of_ble_eq_true rfl⟩) (va_recv (q0 := 3) (ci := 3) S.2.2.1 S.1 rfl rfl) rfl hl.1 rfl (Nat.le_of_ble_eq_true rfl) d_S_create_9) S (fun r3 x2 H locs hw S => ?_)
  refine lv_if_ne (tgt := 17) hx hb d_S_create_12 rfl (fun hc => ?_) (fun hc => ?_)
  · replace hw := hw.1 hc
    refine lv_aload_n hx hb d_S_create_17 rfl (lv_at hl 0 rfl) ?_
    refine qa_calli (qa_runV (As := []) (rest := []) C S (qc_S_hasRoomForCommit l dC dI a k _ _ hw H.size) (cwV 0 C.2.2.2.2.1 qo_S_50_S_hasRoomForCommit rfl rfl rfl qd_S_hasRoomForCommit ⟨Nat.le_of_ble_eq_true rfl, Nat.le_of_ble_eq_true rfl⟩) (va_recv (q0 := 0) (ci := 0) S.2.2.1 S.1 rfl rfl) rfl hl.1 rfl (Nat.le_of_ble_eq_true rfl) d_S_create_18) S (fun r5 x4 H locs hw S => ?_)
    refine lv_if_ne (tgt := 27) hx hb d_S_create_21 rfl (fun hc => ?_) (fun hc => ?_)
    · replace hw := hw.1 hc
      refine lv_aload_n hx hb d_S_create_27 rfl (lv_at hl 0 rfl) ?_
      refine qf_C_S_commits C S qh_100 d_S_create_28 ?_
      refine lv_iload_n hx hb d_S_create_31 rfl (lv_at hl 1 rfl) ?_
      refine qa_calli (qa_runV (As := [.int p1]) (rest := []) C S (qc_C_addNewChange l dC dI a k _ _ _ hw H.size) (cwV 1 C.2.2.2.2.1 qo_S_54_C_addNewChange rfl rfl rfl qd_C_addNewChange ⟨Nat.le_of_ble_eq_true rfl, Nat.le_of_ble_eq_true rfl⟩) (va_recv (q0 := 1) (ci := 1) S.2.2.1 S.1 rfl rfl) rfl hl.1 rfl (Nat.le_of_ble_eq_true rfl) d_S_create_32) S (fun r7 x6 H locs hw S => ?_)
      refine lv_istore_n (lv' := [(2, .int r7), (0, .ref (a 0)), (1, .int p1)]) hx hb d_S_create_35 rfl hl (by decide) rfl (fun ls hl => ?_)
      refine lv_aload_n hx hb d_S_create_36 rfl (lv_at hl 1 rfl) ?_
      refine qf_C_S_draft C S qh_102 d_S_create_37 ?_
      refine lv_iload_n hx hb d_S_create_40 rfl (lv_at hl 0 rfl) ?_
      refine qa_callv (qa_runV (As := [.int r7]) (rest := []) C S (qc_D_show l dC dI a k _ _ _ hw H.size) (cwV 1 C.2.2.2.2.1 qo_S_58_D_show rfl rfl rfl qd_D_show ⟨Nat.le_of_ble_eq_true rfl, Nat.le_of_ble_eq_true rfl⟩) (va_recv (q0 := 3) (ci := 3) S.2.2.1 S.1 rfl rfl) rfl hl.1 rfl (Nat.le_of_ble_eq_true rfl) d_S_create_41) S (fun x8 H locs hw S => ?_)
      refine lv_aload_n hx hb d_S_create_44 rfl (lv_at hl 1 rfl) ?_
      refine qf_C_S_draft C S qh_102 d_S_create_45 ?_
      refine lv_iload_n hx hb d_S_create_48 rfl (lv_at hl 0 rfl) ?_
      refine qa_callv (qa_runV (As := [.int r7]) (rest := []) C S (qc_D_workOn l dC dI a k _ _ _ hw H.size) (cwV 1 C.2.2.2.2.1 qo_S_62_D_workOn rfl rfl rfl qd_D_workOn ⟨Nat.le_of_ble_eq_true rfl, Nat.le_of_ble_eq_true rfl⟩) (va_recv (q0 := 3) (ci := 3) S.2.2.1 S.1 rfl rfl) rfl hl.1 rfl (Nat.le_of_ble_eq_true rfl) d_S_create_49) S (fun x9 H locs hw S => ?_)
      refine lv_aload_n hx hb d_S_create_52 rfl (lv_at hl 1 rfl) ?_
      refine lv_aload_n hx hb d_S_create_53 rfl (lv_at hl 1 rfl) ?_
      refine qf_C_S_chosen C S qh_104 d_S_create_54 ?_
      refine lv_iconst (v := -1) hx hb d_S_create_57 (by decide) ?_
      refine qa_calli (qa_runV (As := [.int (gI x9 0), .int (-1 : Int32)]) (rest := []) C S (qc_S_keepDraft l dC dI a k _ _ _ _ hw H.size) (cwV 2 C.2.2.2.2.1 qo_S_65_S_keepDraft rfl rfl rfl qd_S_keepDraft ⟨Nat.le_of_ble_eq_true rfl, Nat.le_of_ble_eq_true rfl⟩) (va_recv (q0 := 0) (ci := 0) S.2.2.1 S.1 rfl rfl) rfl hl.1 rfl (Nat.le_of_ble_eq_true rfl) d_S_create_58) S (fun r11 x10 H locs hw S => ?_)
      exact qa_reti C S hw d_S_create_61
    replace hw := hw.2 hc
    refine lv_bipush (v := -3) hx hb d_S_create_24 (by decide) ?_
    exact qa_reti C S hw d_S_create_26
  replace hw := hw.2 hc
  refine lv_iconst (v := -1) hx hb d_S_create_15 (by decide) ?_
  exact qa_reti C S hw d_S_create_16
set_option maxHeartbeats 4000000 in
set_option maxRecDepth 100000 in
theorem qc_C_countOf (l : Launch) (dC : Nat → ClassId) (dI : Nat → Nat → Nat) (a : Nat → Nat) (k : Nat → ClassId) (p1 : Int32) (p2 : Int32) (p3 : Int32) (x : QX) (post : Int64 → QX → Prop) (hw : qw_C_countOf p1 p2 p3 x post) : qa_Cl l y_C_countOf qv_C_countOf qr_C_countOf (dC, dI) classes (qC_t k) (qC_w a k) [.ref (a 1), .int p1, .int p2, .int p3] x post := by
  refine qa_ofWl (by decide) (Nat.le_of_ble_eq_true rfl) ?_
  intro p e s m args below meth c A H locs ls C S hl
  replace hl : lv_has ls 4 [(0, .ref (a 1)), (1, .int p1), (2, .int p2), (3, .int p3)] := hl
  have hx := C.1
  have hb := C.2.1
  unfold qw_C_countOf at hw
  refine lv_aload_n hx hb d_C_countOf_0 rfl (lv_at hl 0 rfl) ?_
  refine lv_iload_n hx hb d_C_countOf_1 rfl (lv_at hl 1 rfl) ?_
  refine qa_calli (qa_runV (As := [.int p1]) (rest := []) C S (qc_C_has l dC dI a k _ _ _ hw H.size) (cwV 1 C.2.2.2.2.1 qo_C_29_C_has rfl rfl rfl qd_C_has ⟨Nat.le_of_ble_eq_true rfl, Nat.le_of_ble_eq_true rfl⟩) (va_recv (q0 := 1) (ci := 1) S.2.2.1 S.1 rfl rfl) rfl hl.1 rfl (Nat.le_of_ble_eq_true rfl) d_C_countOf_2) S (fun r2 x1 H locs hw S => ?_)
  refine lv_if_eq (tgt := 37) hx hb d_C_countOf_5 rfl (fun hc => ?_) (fun hc => ?_)
  · replace hw := hw.1 hc
    refine lv_lconst (v := 0) hx hb d_C_countOf_37 (by decide) ?_
    exact qa_retl C S hw d_C_countOf_38
  replace hw := hw.2 hc
  refine lv_iload_n hx hb d_C_countOf_8 rfl (lv_at hl 2 rfl) ?_
  refine qa_calli (qa_runSN (As := [.int p2]) (rest := []) C S (qc_S_isPath l dC dI a k _ _ _ hw H.size) ⟨va_cnB 1 C.2.2.2.2.1 qo_S_isPath rfl rfl rfl (S.2.2.2.2.2 _ qh_260) (C.2.2.2.2.1 _ qh_1) qd_S_isPath.2 ⟨Nat.le_of_ble_eq_true rfl, Nat.le_of_ble_eq_true rfl⟩, C.2.2.2.2.1 _ qh_261, trivial⟩ rfl hl.1 rfl (Nat.le_of_ble_eq_true rfl) d_C_countOf_9) S (fun r4 x3 H locs hw S => ?_)
  refine lv_if_eq (tgt := 37) hx hb d_C_countOf_12 rfl (fun hc => ?_) (fun hc => ?_)
  · replace hw := hw.1 hc
    refine lv_lconst (v := 0) hx hb d_C_countOf_37 (by decide) ?_
    exact qa_retl C S hw d_C_countOf_38
  replace hw := hw.2 hc
  refine lv_iload_n hx hb d_C_countOf_15 rfl (lv_at hl 3 rfl) ?_
  refine qa_calli (qa_runSN (As := [.int p3]) (rest := []) C S (qc_S_isValue l dC dI a k _ _ _ hw H.size) ⟨va_cnB 1 C.2.2.2.2.1 qo_S_isValue rfl rfl rfl (S.2.2.2.2.2 _ qh_263) (C.2.2.2.2.1 _ qh_1) qd_S_isValue.2 ⟨Nat.le_of_ble_eq_true rfl, Nat.le_of_ble_eq_true rfl⟩, C.2.2.2.2.1 _ qh_264, trivial⟩ rfl hl.1 rfl (Nat.le_of_ble_eq_true rfl) d_C_countOf_16) S (fun r6 x5 H locs hw S => ?_)
  refine lv_if_eq (tgt := 37) hx hb d_C_countOf_19 rfl (fun hc => ?_) (fun hc => ?_)
  · replace hw := hw.1 hc
    refine lv_lconst (v := 0) hx hb d_C_countOf_37 (by decide) ?_
    exact qa_retl C S hw d_C_countOf_38
  replace hw := hw.2 hc
  refine lv_aload_n hx hb d_C_countOf_22 rfl (lv_at hl 0 rfl) ?_
  refine qf_C_C_counts C S qh_24 d_C_countOf_23 ?_
  refine lv_iload_n hx hb d_C_countOf_26 rfl (lv_at hl 1 rfl) ?_
  refine lv_iload_n hx hb d_C_countOf_27 rfl (lv_at hl 2 rfl) ?_
  refine qa_calli (qa_runS (As := [.int p1, .int p2]) (rest := [.ref (a 7)]) C S (qc_C_start l dC dI a k _ _ _ _ hw H.size) (cwS 2 C.2.2.2.2.1 qo_C_39_C_start rfl rfl rfl qd_C_start ⟨Nat.le_of_ble_eq_true rfl, Nat.le_of_ble_eq_true rfl⟩) rfl hl.1 rfl (Nat.le_of_ble_eq_true rfl) d_C_countOf_28) S (fun r8 x7 H locs hw S => ?_)
  refine lv_iload_n hx hb d_C_countOf_31 rfl (lv_at hl 3 rfl) ?_
  refine lv_iadd hx hb d_C_countOf_32 ?_
  obtain ⟨hi, hw⟩ := hw
  refine qe_C_counts C S hi d_C_countOf_33 ?_
  refine lv_goto (tgt := 38) hx hb d_C_countOf_34 rfl ?_
  exact qa_retl C S hw d_C_countOf_38
set_option maxHeartbeats 4000000 in
set_option maxRecDepth 100000 in
theorem qk_C_isPlain_H3 {p : Program} {l : Launch} {e : Env} {s : State} {m : MethodId} {args : Array Value} {below : List Frame} {meth : Method} {c : Code} {A : Nat → Prop} {dC : Nat → ClassId} {dI : Nat → Nat → Nat} {a : Nat → Nat} {k : Nat → ClassId} (C : qa_X p s m args meth c b_C_isPlain 5 (some .boolean) R_C)  (post : Int32 → QX → Prop)  : ∀ (n : Nat), ∀ (v1 : Int32) (v2 : Int32) (v3 : Int32) (v4 : Int32) (x : QX) (H : Heap) (locs : List Loc) (ls : Array Slot), qw_C_isPlain_H3  post n v1 v2 v3 v4 x → qa_S (dC, dI) classes (qC_t k) (qC_w a k) A s x H locs → lv_has ls 5 [(0, .ref (a 1)), (1, .int v1), (2, .int v2), (3, .int v3), (4, .int v4)] → W p l e qr_C_isPlain s m args below meth c H locs 0 0 (MQ below (va_Qi post (qa_B (dC, dI) classes (qC_t k) (qC_w a k) A) A) args s 0 0 A) (F0 m 3 ls []) := by
  have hx := C.1
  have hb := C.2.1
  intro n
  induction n with
  | zero => intro v1 v2 v3 v4 x H locs ls hw S hl; exact False.elim hw
  | succ n ih =>
    intro v1 v2 v3 v4 x H locs ls hw S hl
    replace hw : qw_C_isPlain_S3  post (qw_C_isPlain_H3  post n) v1 v2 v3 v4 x := hw
    unfold qw_C_isPlain_S3 at hw
    refine lv_iload hx hb d_C_isPlain_3 (lv_at hl 4 rfl) ?_
    refine lv_bipush (v := 8) hx hb d_C_isPlain_5 (by decide) ?_
    refine lv_icmp_ge (tgt := 42) hx hb d_C_isPlain_7 rfl (fun hc => ?_) (fun hc => ?_)
    · replace hw := hw.1 hc
      refine lv_iconst (v := 1) hx hb d_C_isPlain_42 (by decide) ?_
      exact qa_retz C S ⟨by decide, hw⟩ d_C_isPlain_43
    replace hw := hw.2 hc
    refine lv_aload_n hx hb d_C_isPlain_10 rfl (lv_at hl 0 rfl) ?_
    refine lv_iload_n hx hb d_C_isPlain_11 rfl (lv_at hl 1 rfl) ?_
    refine lv_iload_n hx hb d_C_isPlain_12 rfl (lv_at hl 2 rfl) ?_
    refine lv_iload hx hb d_C_isPlain_13 (lv_at hl 4 rfl) ?_
    refine qa_calll (qa_runV (As := [.int v1, .int v2, .int v4]) (rest := []) C S (qc_C_countOf l dC dI a k _ _ _ _ _ hw H.size) (cwV 3 C.2.2.2.2.1 qo_C_43_C_countOf rfl rfl rfl qd_C_countOf ⟨Nat.le_of_ble_eq_true rfl, Nat.le_of_ble_eq_true rfl⟩) (va_recv (q0 := 1) (ci := 1) S.2.2.1 S.1 rfl rfl) rfl hl.1 rfl (Nat.le_of_ble_eq_true rfl) d_C_isPlain_15) S (fun r2 x1 H locs hw S => ?_)
    refine lv_iload hx hb d_C_isPlain_18 (lv_at hl 4 rfl) ?_
    refine lv_iload_n hx hb d_C_isPlain_20 rfl (lv_at hl 3 rfl) ?_
    refine lv_icmp_ne (tgt := 28) hx hb d_C_isPlain_21 rfl (fun hc => ?_) (fun hc => ?_)
    · replace hw := hw.1 hc
      refine lv_iconst (v := 0) hx hb d_C_isPlain_28 (by decide) ?_
      refine lv_i2l hx hb d_C_isPlain_29 rfl ?_
      refine W.lcmp hx hb d_C_isPlain_30 ?_
      refine lv_if_eq (tgt := 36) hx hb d_C_isPlain_31 rfl (fun hc => ?_) (fun hc => ?_)
      · replace hw := hw.1 hc
        refine lv_iinc (k := 4) (v := v4 + 1) (lv' := [(4, .int (v4 + 1)), (0, .ref (a 1)), (1, .int v1), (2, .int v2), (3, .int v3)]) hx hb d_C_isPlain_36 hl rfl rfl (by decide) rfl (fun ls hl => ?_)
        refine lv_goto (tgt := 3) hx hb d_C_isPlain_39 rfl ?_
        exact ih _ _ _ _ _ _ _ _ hw S (lv_sub hl [1, 2, 3, 4, 0] rfl)
      replace hw := hw.2 hc
      refine lv_iconst (v := 0) hx hb d_C_isPlain_34 (by decide) ?_
      exact qa_retz C S ⟨by decide, hw⟩ d_C_isPlain_35
    replace hw := hw.2 hc
    refine lv_iconst (v := 1) hx hb d_C_isPlain_24 (by decide) ?_
    refine lv_goto (tgt := 29) hx hb d_C_isPlain_25 rfl ?_
    refine lv_i2l hx hb d_C_isPlain_29 rfl ?_
    refine W.lcmp hx hb d_C_isPlain_30 ?_
    refine lv_if_eq (tgt := 36) hx hb d_C_isPlain_31 rfl (fun hc => ?_) (fun hc => ?_)
    · replace hw := hw.1 hc
      refine lv_iinc (k := 4) (v := v4 + 1) (lv' := [(4, .int (v4 + 1)), (0, .ref (a 1)), (1, .int v1), (2, .int v2), (3, .int v3)]) hx hb d_C_isPlain_36 hl rfl rfl (by decide) rfl (fun ls hl => ?_)
      refine lv_goto (tgt := 3) hx hb d_C_isPlain_39 rfl ?_
      exact ih _ _ _ _ _ _ _ _ hw S (lv_sub hl [1, 2, 3, 4, 0] rfl)
    replace hw := hw.2 hc
    refine lv_iconst (v := 0) hx hb d_C_isPlain_34 (by decide) ?_
    exact qa_retz C S ⟨by decide, hw⟩ d_C_isPlain_35
set_option maxHeartbeats 4000000 in
set_option maxRecDepth 100000 in
theorem qc_C_isPlain (l : Launch) (dC : Nat → ClassId) (dI : Nat → Nat → Nat) (a : Nat → Nat) (k : Nat → ClassId) (p1 : Int32) (p2 : Int32) (p3 : Int32) (x : QX) (post : Int32 → QX → Prop) (hw : qw_C_isPlain p1 p2 p3 x post) : qa_Ci l y_C_isPlain qv_C_isPlain qr_C_isPlain (dC, dI) classes (qC_t k) (qC_w a k) [.ref (a 1), .int p1, .int p2, .int p3] x post := by
  refine qa_ofWi (by decide) (Nat.le_of_ble_eq_true rfl) ?_
  intro p e s m args below meth c A H locs ls C S hl
  replace hl : lv_has ls 5 [(0, .ref (a 1)), (1, .int p1), (2, .int p2), (3, .int p3)] := hl
  have hx := C.1
  have hb := C.2.1
  unfold qw_C_isPlain at hw
  refine lv_iconst (v := 0) hx hb d_C_isPlain_0 (by decide) ?_
  refine lv_istore (lv' := [(4, .int (0 : Int32)), (0, .ref (a 1)), (1, .int p1), (2, .int p2), (3, .int p3)]) hx hb d_C_isPlain_1 hl (by decide) rfl (fun ls hl => ?_)
  exact qk_C_isPlain_H3 C post qFU _ _ _ _ _ _ _ _ hw S (lv_sub hl [1, 2, 3, 4, 0] rfl)
set_option maxHeartbeats 4000000 in
set_option maxRecDepth 100000 in
theorem qc_S_write (l : Launch) (dC : Nat → ClassId) (dI : Nat → Nat → Nat) (a : Nat → Nat) (k : Nat → ClassId) (p1 : Int32) (p2 : Int32) (x : QX) (post : Int32 → QX → Prop) (hw : qw_S_write p1 p2 x post) : qa_Ci l y_S_write qv_S_write qr_S_write (dC, dI) classes (qC_t k) (qC_w a k) [.ref (a 0), .int p1, .int p2] x post := by
  refine qa_ofWi (by decide) (Nat.le_of_ble_eq_true rfl) ?_
  intro p e s m args below meth c A H locs ls C S hl
  replace hl : lv_has ls 5 [(0, .ref (a 0)), (1, .int p1), (2, .int p2)] := hl
  have hx := C.1
  have hb := C.2.1
  unfold qw_S_write at hw
  refine lv_aload_n hx hb d_S_write_0 rfl (lv_at hl 0 rfl) ?_
  refine qa_callv (qa_runV (As := []) (rest := []) C S (qc_S_openDraft l dC dI a k _ _ hw H.size) (cwV 0 C.2.2.2.2.1 qo_S_43_S_openDraft rfl rfl rfl qd_S_openDraft ⟨Nat.le_of_ble_eq_true rfl, Nat.le_of_ble_eq_true rfl⟩) (va_recv (q0 := 0) (ci := 0) S.2.2.1 S.1 rfl rfl) rfl hl.1 rfl (Nat.le_of_ble_eq_true rfl) d_S_write_1) S (fun x1 H locs hw S => ?_)
  refine lv_aload_n hx hb d_S_write_4 rfl (lv_at hl 0 rfl) ?_
  refine qf_C_S_draft C S qh_102 d_S_write_5 ?_
  refine qfN_C_D_working C S qh_83 d_S_write_8 ?_
  refine lv_topi (fun t2 et2 => ?_)
  replace hw := hw t2 et2
  refine lv_istore_n (lv' := [(3, .int t2), (0, .ref (a 0)), (1, .int p1), (2, .int p2)]) hx hb d_S_write_11 rfl hl (by decide) rfl (fun ls hl => ?_)
  refine lv_iload_n hx hb d_S_write_12 rfl (lv_at hl 0 rfl) ?_
  refine lv_if_eq (tgt := 30) hx hb d_S_write_13 rfl (fun hc => ?_) (fun hc => ?_)
  · replace hw := hw.1 hc
    refine lv_iconst (v := -1) hx hb d_S_write_30 (by decide) ?_
    exact qa_reti C S hw d_S_write_31
  replace hw := hw.2 hc
  refine lv_iload_n hx hb d_S_write_16 rfl (lv_at hl 2 rfl) ?_
  refine qa_calli (qa_runS (As := [.int p1]) (rest := []) C S (qc_S_isPath l dC dI a k _ _ _ hw H.size) (cwS 1 C.2.2.2.2.1 qo_S_72_S_isPath rfl rfl rfl qd_S_isPath ⟨Nat.le_of_ble_eq_true rfl, Nat.le_of_ble_eq_true rfl⟩) rfl hl.1 rfl (Nat.le_of_ble_eq_true rfl) d_S_write_17) S (fun r4 x3 H locs hw S => ?_)
  refine lv_if_eq (tgt := 30) hx hb d_S_write_20 rfl (fun hc => ?_) (fun hc => ?_)
  · replace hw := hw.1 hc
    refine lv_iconst (v := -1) hx hb d_S_write_30 (by decide) ?_
    exact qa_reti C S hw d_S_write_31
  replace hw := hw.2 hc
  refine lv_iload_n hx hb d_S_write_23 rfl (lv_at hl 3 rfl) ?_
  refine qa_calli (qa_runS (As := [.int p2]) (rest := []) C S (qc_S_isValue l dC dI a k _ _ _ hw H.size) (cwS 1 C.2.2.2.2.1 qo_S_75_S_isValue rfl rfl rfl qd_S_isValue ⟨Nat.le_of_ble_eq_true rfl, Nat.le_of_ble_eq_true rfl⟩) rfl hl.1 rfl (Nat.le_of_ble_eq_true rfl) d_S_write_24) S (fun r6 x5 H locs hw S => ?_)
  refine lv_if_ne (tgt := 32) hx hb d_S_write_27 rfl (fun hc => ?_) (fun hc => ?_)
  · replace hw := hw.1 hc
    refine lv_aload_n hx hb d_S_write_32 rfl (lv_at hl 1 rfl) ?_
    refine qf_C_S_commits C S qh_100 d_S_write_33 ?_
    refine lv_iload_n hx hb d_S_write_36 rfl (lv_at hl 0 rfl) ?_
    refine lv_iload_n hx hb d_S_write_37 rfl (lv_at hl 2 rfl) ?_
    refine lv_iload_n hx hb d_S_write_38 rfl (lv_at hl 3 rfl) ?_
    refine qa_calli (qa_runV (As := [.int t2, .int p1, .int p2]) (rest := []) C S (qc_C_isPlain l dC dI a k _ _ _ _ _ hw H.size) (cwV 3 C.2.2.2.2.1 qo_S_78_C_isPlain rfl rfl rfl qd_C_isPlain ⟨Nat.le_of_ble_eq_true rfl, Nat.le_of_ble_eq_true rfl⟩) (va_recv (q0 := 1) (ci := 1) S.2.2.1 S.1 rfl rfl) rfl hl.1 rfl (Nat.le_of_ble_eq_true rfl) d_S_write_39) S (fun r8 x7 H locs hw S => ?_)
    refine lv_if_eq (tgt := 48) hx hb d_S_write_42 rfl (fun hc => ?_) (fun hc => ?_)
    · replace hw := hw.1 hc
      refine lv_aload_n hx hb d_S_write_48 rfl (lv_at hl 1 rfl) ?_
      refine qa_calli (qa_runV (As := []) (rest := []) C S (qc_S_hasRoomForCommit l dC dI a k _ _ hw H.size) (cwV 0 C.2.2.2.2.1 qo_S_50_S_hasRoomForCommit rfl rfl rfl qd_S_hasRoomForCommit ⟨Nat.le_of_ble_eq_true rfl, Nat.le_of_ble_eq_true rfl⟩) (va_recv (q0 := 0) (ci := 0) S.2.2.1 S.1 rfl rfl) rfl hl.1 rfl (Nat.le_of_ble_eq_true rfl) d_S_write_49) S (fun r10 x9 H locs hw S => ?_)
      refine lv_if_ne (tgt := 58) hx hb d_S_write_52 rfl (fun hc => ?_) (fun hc => ?_)
      · replace hw := hw.1 hc
        refine lv_aload_n hx hb d_S_write_58 rfl (lv_at hl 1 rfl) ?_
        refine qf_C_S_commits C S qh_100 d_S_write_59 ?_
        refine lv_aload_n hx hb d_S_write_62 rfl (lv_at hl 1 rfl) ?_
        refine qf_C_S_commits C S qh_100 d_S_write_63 ?_
        refine lv_iload_n hx hb d_S_write_66 rfl (lv_at hl 0 rfl) ?_
        refine qa_calli (qa_runV (As := [.int t2]) (rest := [.ref (a 1)]) C S (qc_C_changeOf l dC dI a k _ _ _ hw H.size) (cwV 1 C.2.2.2.2.1 qo_S_82_C_changeOf rfl rfl rfl qd_C_changeOf ⟨Nat.le_of_ble_eq_true rfl, Nat.le_of_ble_eq_true rfl⟩) (va_recv (q0 := 1) (ci := 1) S.2.2.1 S.1 rfl rfl) rfl hl.1 rfl (Nat.le_of_ble_eq_true rfl) d_S_write_67) S (fun r12 x11 H locs hw S => ?_)
        refine lv_aload_n hx hb d_S_write_70 rfl (lv_at hl 1 rfl) ?_
        refine qf_C_S_commits C S qh_100 d_S_write_71 ?_
        refine lv_iload_n hx hb d_S_write_74 rfl (lv_at hl 0 rfl) ?_
        refine qa_calli (qa_runV (As := [.int t2]) (rest := [.int r12, .ref (a 1)]) C S (qc_C_parentOf l dC dI a k _ _ _ hw H.size) (cwV 1 C.2.2.2.2.1 qo_S_85_C_parentOf rfl rfl rfl qd_C_parentOf ⟨Nat.le_of_ble_eq_true rfl, Nat.le_of_ble_eq_true rfl⟩) (va_recv (q0 := 1) (ci := 1) S.2.2.1 S.1 rfl rfl) rfl hl.1 rfl (Nat.le_of_ble_eq_true rfl) d_S_write_75) S (fun r14 x13 H locs hw S => ?_)
        refine lv_iload_n hx hb d_S_write_78 rfl (lv_at hl 0 rfl) ?_
        refine qa_calli (qa_runV (As := [.int r12, .int r14, .int t2]) (rest := []) C S (qc_C_addCopy l dC dI a k _ _ _ _ _ hw H.size) (cwV 3 C.2.2.2.2.1 qo_S_88_C_addCopy rfl rfl rfl qd_C_addCopy ⟨Nat.le_of_ble_eq_true rfl, Nat.le_of_ble_eq_true rfl⟩) (va_recv (q0 := 1) (ci := 1) S.2.2.1 S.1 rfl rfl) rfl hl.1 rfl (Nat.le_of_ble_eq_true rfl) d_S_write_79) S (fun r16 x15 H locs hw S => ?_)
        refine lv_istore (lv' := [(4, .int r16), (3, .int t2), (0, .ref (a 0)), (1, .int p1), (2, .int p2)]) hx hb d_S_write_82 hl (by decide) rfl (fun ls hl => ?_)
        refine lv_aload_n hx hb d_S_write_84 rfl (lv_at hl 2 rfl) ?_
        refine qf_C_S_commits C S qh_100 d_S_write_85 ?_
        refine lv_iload hx hb d_S_write_88 (lv_at hl 0 rfl) ?_
        refine lv_iload_n hx hb d_S_write_90 rfl (lv_at hl 3 rfl) ?_
        refine lv_iload_n hx hb d_S_write_91 rfl (lv_at hl 4 rfl) ?_
        refine qa_callv (qa_runV (As := [.int r16, .int p1, .int p2]) (rest := []) C S (qc_C_makePlain l dC dI a k _ _ _ _ _ hw H.size) (cwV 3 C.2.2.2.2.1 qo_S_92_C_makePlain rfl rfl rfl qd_C_makePlain ⟨Nat.le_of_ble_eq_true rfl, Nat.le_of_ble_eq_true rfl⟩) (va_recv (q0 := 1) (ci := 1) S.2.2.1 S.1 rfl rfl) rfl hl.1 rfl (Nat.le_of_ble_eq_true rfl) d_S_write_92) S (fun x17 H locs hw S => ?_)
        refine lv_aload_n hx hb d_S_write_95 rfl (lv_at hl 2 rfl) ?_
        refine qf_C_S_draft C S qh_102 d_S_write_96 ?_
        refine lv_iload_n hx hb d_S_write_99 rfl (lv_at hl 1 rfl) ?_
        refine lv_iload hx hb d_S_write_100 (lv_at hl 0 rfl) ?_
        refine qa_callv (qa_runV (As := [.int t2, .int r16]) (rest := []) C S (qc_D_replace l dC dI a k _ _ _ _ hw H.size) (cwV 2 C.2.2.2.2.1 qo_S_96_D_replace rfl rfl rfl qd_D_replace ⟨Nat.le_of_ble_eq_true rfl, Nat.le_of_ble_eq_true rfl⟩) (va_recv (q0 := 3) (ci := 3) S.2.2.1 S.1 rfl rfl) rfl hl.1 rfl (Nat.le_of_ble_eq_true rfl) d_S_write_102) S (fun x18 H locs hw S => ?_)
        refine lv_aload_n hx hb d_S_write_105 rfl (lv_at hl 2 rfl) ?_
        refine lv_aload_n hx hb d_S_write_106 rfl (lv_at hl 2 rfl) ?_
        refine qf_C_S_chosen C S qh_104 d_S_write_107 ?_
        refine lv_iconst (v := -1) hx hb d_S_write_110 (by decide) ?_
        refine qa_calli (qa_runV (As := [.int (gI x18 0), .int (-1 : Int32)]) (rest := []) C S (qc_S_keepDraft l dC dI a k _ _ _ _ hw H.size) (cwV 2 C.2.2.2.2.1 qo_S_65_S_keepDraft rfl rfl rfl qd_S_keepDraft ⟨Nat.le_of_ble_eq_true rfl, Nat.le_of_ble_eq_true rfl⟩) (va_recv (q0 := 0) (ci := 0) S.2.2.1 S.1 rfl rfl) rfl hl.1 rfl (Nat.le_of_ble_eq_true rfl) d_S_write_111) S (fun r20 x19 H locs hw S => ?_)
        exact qa_reti C S hw d_S_write_114
      replace hw := hw.2 hc
      refine lv_bipush (v := -3) hx hb d_S_write_55 (by decide) ?_
      exact qa_reti C S hw d_S_write_57
    replace hw := hw.2 hc
    refine lv_bipush (v := -2) hx hb d_S_write_45 (by decide) ?_
    exact qa_reti C S hw d_S_write_47
  replace hw := hw.2 hc
  refine lv_iconst (v := -1) hx hb d_S_write_30 (by decide) ?_
  exact qa_reti C S hw d_S_write_31
