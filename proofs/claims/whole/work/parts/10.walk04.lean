set_option maxHeartbeats 4000000 in
set_option maxRecDepth 100000 in
theorem qc_S_isReplaceable (l : Launch) (dC : Nat → ClassId) (dI : Nat → Nat → Nat) (a : Nat → Nat) (k : Nat → ClassId) (p1 : Int32) (x : QX) (post : Int32 → QX → Prop) (hw : qw_S_isReplaceable p1 x post) : qa_Ci l y_S_isReplaceable qv_S_isReplaceable qr_S_isReplaceable (dC, dI) classes (qC_t k) (qC_w a k) [.ref (a 0), .int p1] x post := by
  refine qa_ofWi (by decide) (Nat.le_of_ble_eq_true rfl) ?_
  intro p e s m args below meth c A H locs ls C S hl
  replace hl : lv_has ls 2 [(0, .ref (a 0)), (1, .int p1)] := hl
  have hx := C.1
  have hb := C.2.1
  unfold qw_S_isReplaceable at hw
  refine lv_iload_n hx hb d_S_isReplaceable_0 rfl (lv_at hl 1 rfl) ?_
  refine lv_if_eq (tgt := 19) hx hb d_S_isReplaceable_1 rfl (fun hc => ?_) (fun hc => ?_)
  · replace hw := hw.1 hc
    refine lv_iconst (v := 0) hx hb d_S_isReplaceable_19 (by decide) ?_
    exact qa_retz C S ⟨by decide, hw⟩ d_S_isReplaceable_20
  replace hw := hw.2 hc
  refine lv_aload_n hx hb d_S_isReplaceable_4 rfl (lv_at hl 0 rfl) ?_
  refine qf_C_S_draft C S qh_102 d_S_isReplaceable_5 ?_
  refine lv_iload_n hx hb d_S_isReplaceable_8 rfl (lv_at hl 1 rfl) ?_
  refine qa_calli (qa_runV (As := [.int p1]) (rest := []) C S (qc_D_shows l dC dI a k _ _ _ hw H.size) (cwV 1 C.2.2.2.2.1 qo_S_46_D_shows rfl rfl rfl qd_D_shows ⟨Nat.le_of_ble_eq_true rfl, Nat.le_of_ble_eq_true rfl⟩) (va_recv (q0 := 3) (ci := 3) S.2.2.1 S.1 rfl rfl) rfl hl.1 rfl (Nat.le_of_ble_eq_true rfl) d_S_isReplaceable_9) S (fun r2 x1 H locs hw S => ?_)
  refine lv_if_eq (tgt := 19) hx hb d_S_isReplaceable_12 rfl (fun hc => ?_) (fun hc => ?_)
  · replace hw := hw.1 hc
    refine lv_iconst (v := 0) hx hb d_S_isReplaceable_19 (by decide) ?_
    exact qa_retz C S ⟨by decide, hw⟩ d_S_isReplaceable_20
  replace hw := hw.2 hc
  refine lv_iconst (v := 1) hx hb d_S_isReplaceable_15 (by decide) ?_
  refine lv_goto (tgt := 20) hx hb d_S_isReplaceable_16 rfl ?_
  exact qa_retz C S ⟨by decide, hw⟩ d_S_isReplaceable_20
set_option maxHeartbeats 4000000 in
set_option maxRecDepth 100000 in
theorem qc_S_rebase (l : Launch) (dC : Nat → ClassId) (dI : Nat → Nat → Nat) (a : Nat → Nat) (k : Nat → ClassId) (p1 : Int32) (p2 : Int32) (x : QX) (post : Int32 → QX → Prop) (hw : qw_S_rebase p1 p2 x post) : qa_Ci l y_S_rebase qv_S_rebase qr_S_rebase (dC, dI) classes (qC_t k) (qC_w a k) [.ref (a 0), .int p1, .int p2] x post := by
  refine qa_ofWi (by decide) (Nat.le_of_ble_eq_true rfl) ?_
  intro p e s m args below meth c A H locs ls C S hl
  replace hl : lv_has ls 3 [(0, .ref (a 0)), (1, .int p1), (2, .int p2)] := hl
  have hx := C.1
  have hb := C.2.1
  unfold qw_S_rebase at hw
  refine lv_aload_n hx hb d_S_rebase_0 rfl (lv_at hl 0 rfl) ?_
  refine qa_callv (qa_runV (As := []) (rest := []) C S (qc_S_openDraft l dC dI a k _ _ hw H.size) (cwV 0 C.2.2.2.2.1 qo_S_43_S_openDraft rfl rfl rfl qd_S_openDraft ⟨Nat.le_of_ble_eq_true rfl, Nat.le_of_ble_eq_true rfl⟩) (va_recv (q0 := 0) (ci := 0) S.2.2.1 S.1 rfl rfl) rfl hl.1 rfl (Nat.le_of_ble_eq_true rfl) d_S_rebase_1) S (fun x1 H locs hw S => ?_)
  refine lv_aload_n hx hb d_S_rebase_4 rfl (lv_at hl 0 rfl) ?_
  refine lv_iload_n hx hb d_S_rebase_5 rfl (lv_at hl 1 rfl) ?_
  refine qa_calli (qa_runV (As := [.int p1]) (rest := []) C S (qc_S_isReplaceable l dC dI a k _ _ _ hw H.size) (cwV 1 C.2.2.2.2.1 qo_S_100_S_isReplaceable rfl rfl rfl qd_S_isReplaceable ⟨Nat.le_of_ble_eq_true rfl, Nat.le_of_ble_eq_true rfl⟩) (va_recv (q0 := 0) (ci := 0) S.2.2.1 S.1 rfl rfl) rfl hl.1 rfl (Nat.le_of_ble_eq_true rfl) d_S_rebase_6) S (fun r3 x2 H locs hw S => ?_)
  refine lv_if_eq (tgt := 38) hx hb d_S_rebase_9 rfl (fun hc => ?_) (fun hc => ?_)
  · replace hw := hw.1 hc
    refine lv_iconst (v := -1) hx hb d_S_rebase_38 (by decide) ?_
    exact qa_reti C S hw d_S_rebase_39
  replace hw := hw.2 hc
  refine lv_aload_n hx hb d_S_rebase_12 rfl (lv_at hl 0 rfl) ?_
  refine qf_C_S_draft C S qh_102 d_S_rebase_13 ?_
  refine lv_iload_n hx hb d_S_rebase_16 rfl (lv_at hl 2 rfl) ?_
  refine qa_calli (qa_runV (As := [.int p2]) (rest := []) C S (qc_D_shows l dC dI a k _ _ _ hw H.size) (cwV 1 C.2.2.2.2.1 qo_S_46_D_shows rfl rfl rfl qd_D_shows ⟨Nat.le_of_ble_eq_true rfl, Nat.le_of_ble_eq_true rfl⟩) (va_recv (q0 := 3) (ci := 3) S.2.2.1 S.1 rfl rfl) rfl hl.1 rfl (Nat.le_of_ble_eq_true rfl) d_S_rebase_17) S (fun r5 x4 H locs hw S => ?_)
  refine lv_if_eq (tgt := 38) hx hb d_S_rebase_20 rfl (fun hc => ?_) (fun hc => ?_)
  · replace hw := hw.1 hc
    refine lv_iconst (v := -1) hx hb d_S_rebase_38 (by decide) ?_
    exact qa_reti C S hw d_S_rebase_39
  replace hw := hw.2 hc
  refine lv_iload_n hx hb d_S_rebase_23 rfl (lv_at hl 2 rfl) ?_
  refine lv_aload_n hx hb d_S_rebase_24 rfl (lv_at hl 0 rfl) ?_
  refine qf_C_S_commits C S qh_100 d_S_rebase_25 ?_
  refine lv_iload_n hx hb d_S_rebase_28 rfl (lv_at hl 1 rfl) ?_
  refine qa_calll (qa_runV (As := [.int p1]) (rest := [.int p2]) C S (qc_C_withAllThatComesOf l dC dI a k _ _ _ hw H.size) (cwV 1 C.2.2.2.2.1 qo_S_103_C_withAllThatComesOf rfl rfl rfl qd_C_withAllThatComesOf ⟨Nat.le_of_ble_eq_true rfl, Nat.le_of_ble_eq_true rfl⟩) (va_recv (q0 := 1) (ci := 1) S.2.2.1 S.1 rfl rfl) rfl hl.1 rfl (Nat.le_of_ble_eq_true rfl) d_S_rebase_29) S (fun r7 x6 H locs hw S => ?_)
  refine qa_calli (qa_runS (As := [.int p2, .long r7]) (rest := []) C S (qc_S_isIn l dC dI a k _ _ _ _ hw H.size) (cwS 2 C.2.2.2.2.1 qo_S_107_S_isIn rfl rfl rfl qd_S_isIn ⟨Nat.le_of_ble_eq_true rfl, Nat.le_of_ble_eq_true rfl⟩) rfl hl.1 rfl (Nat.le_of_ble_eq_true rfl) d_S_rebase_32) S (fun r9 x8 H locs hw S => ?_)
  refine lv_if_eq (tgt := 40) hx hb d_S_rebase_35 rfl (fun hc => ?_) (fun hc => ?_)
  · replace hw := hw.1 hc
    refine lv_aload_n hx hb d_S_rebase_40 rfl (lv_at hl 0 rfl) ?_
    refine qf_C_S_commits C S qh_100 d_S_rebase_41 ?_
    refine lv_iload_n hx hb d_S_rebase_44 rfl (lv_at hl 1 rfl) ?_
    refine qa_calli (qa_runV (As := [.int p1]) (rest := []) C S (qc_C_parentOf l dC dI a k _ _ _ hw H.size) (cwV 1 C.2.2.2.2.1 qo_S_85_C_parentOf rfl rfl rfl qd_C_parentOf ⟨Nat.le_of_ble_eq_true rfl, Nat.le_of_ble_eq_true rfl⟩) (va_recv (q0 := 1) (ci := 1) S.2.2.1 S.1 rfl rfl) rfl hl.1 rfl (Nat.le_of_ble_eq_true rfl) d_S_rebase_45) S (fun r11 x10 H locs hw S => ?_)
    refine lv_iload_n hx hb d_S_rebase_48 rfl (lv_at hl 2 rfl) ?_
    refine lv_icmp_ne (tgt := 55) hx hb d_S_rebase_49 rfl (fun hc => ?_) (fun hc => ?_)
    · replace hw := hw.1 hc
      refine lv_aload_n hx hb d_S_rebase_55 rfl (lv_at hl 0 rfl) ?_
      refine qa_calli (qa_runV (As := []) (rest := []) C S (qc_S_hasRoomForCommit l dC dI a k _ _ hw H.size) (cwV 0 C.2.2.2.2.1 qo_S_50_S_hasRoomForCommit rfl rfl rfl qd_S_hasRoomForCommit ⟨Nat.le_of_ble_eq_true rfl, Nat.le_of_ble_eq_true rfl⟩) (va_recv (q0 := 0) (ci := 0) S.2.2.1 S.1 rfl rfl) rfl hl.1 rfl (Nat.le_of_ble_eq_true rfl) d_S_rebase_56) S (fun r13 x12 H locs hw S => ?_)
      refine lv_if_ne (tgt := 65) hx hb d_S_rebase_59 rfl (fun hc => ?_) (fun hc => ?_)
      · replace hw := hw.1 hc
        refine lv_aload_n hx hb d_S_rebase_65 rfl (lv_at hl 0 rfl) ?_
        refine qf_C_S_draft C S qh_102 d_S_rebase_66 ?_
        refine lv_iload_n hx hb d_S_rebase_69 rfl (lv_at hl 1 rfl) ?_
        refine lv_aload_n hx hb d_S_rebase_70 rfl (lv_at hl 0 rfl) ?_
        refine qf_C_S_commits C S qh_100 d_S_rebase_71 ?_
        refine lv_iload_n hx hb d_S_rebase_74 rfl (lv_at hl 1 rfl) ?_
        refine lv_iload_n hx hb d_S_rebase_75 rfl (lv_at hl 2 rfl) ?_
        refine qa_calli (qa_runV (As := [.int p1, .int p2]) (rest := [.int p1, .ref (a 3)]) C S (qc_C_addMoved l dC dI a k _ _ _ _ hw H.size) (cwV 2 C.2.2.2.2.1 qo_S_111_C_addMoved rfl rfl rfl qd_C_addMoved ⟨Nat.le_of_ble_eq_true rfl, Nat.le_of_ble_eq_true rfl⟩) (va_recv (q0 := 1) (ci := 1) S.2.2.1 S.1 rfl rfl) rfl hl.1 rfl (Nat.le_of_ble_eq_true rfl) d_S_rebase_76) S (fun r15 x14 H locs hw S => ?_)
        refine qa_callv (qa_runV (As := [.int p1, .int r15]) (rest := []) C S (qc_D_replace l dC dI a k _ _ _ _ hw H.size) (cwV 2 C.2.2.2.2.1 qo_S_96_D_replace rfl rfl rfl qd_D_replace ⟨Nat.le_of_ble_eq_true rfl, Nat.le_of_ble_eq_true rfl⟩) (va_recv (q0 := 3) (ci := 3) S.2.2.1 S.1 rfl rfl) rfl hl.1 rfl (Nat.le_of_ble_eq_true rfl) d_S_rebase_79) S (fun x16 H locs hw S => ?_)
        refine lv_aload_n hx hb d_S_rebase_82 rfl (lv_at hl 0 rfl) ?_
        refine lv_aload_n hx hb d_S_rebase_83 rfl (lv_at hl 0 rfl) ?_
        refine qf_C_S_chosen C S qh_104 d_S_rebase_84 ?_
        refine lv_iconst (v := -1) hx hb d_S_rebase_87 (by decide) ?_
        refine qa_calli (qa_runV (As := [.int (gI x16 0), .int (-1 : Int32)]) (rest := []) C S (qc_S_keepDraft l dC dI a k _ _ _ _ hw H.size) (cwV 2 C.2.2.2.2.1 qo_S_65_S_keepDraft rfl rfl rfl qd_S_keepDraft ⟨Nat.le_of_ble_eq_true rfl, Nat.le_of_ble_eq_true rfl⟩) (va_recv (q0 := 0) (ci := 0) S.2.2.1 S.1 rfl rfl) rfl hl.1 rfl (Nat.le_of_ble_eq_true rfl) d_S_rebase_88) S (fun r18 x17 H locs hw S => ?_)
        exact qa_reti C S hw d_S_rebase_91
      replace hw := hw.2 hc
      refine lv_bipush (v := -3) hx hb d_S_rebase_62 (by decide) ?_
      exact qa_reti C S hw d_S_rebase_64
    replace hw := hw.2 hc
    refine lv_bipush (v := -2) hx hb d_S_rebase_52 (by decide) ?_
    exact qa_reti C S hw d_S_rebase_54
  replace hw := hw.2 hc
  refine lv_iconst (v := -1) hx hb d_S_rebase_38 (by decide) ?_
  exact qa_reti C S hw d_S_rebase_39
set_option maxHeartbeats 4000000 in
set_option maxRecDepth 100000 in
theorem qc_S_abandon (l : Launch) (dC : Nat → ClassId) (dI : Nat → Nat → Nat) (a : Nat → Nat) (k : Nat → ClassId) (p1 : Int32) (x : QX) (post : Int32 → QX → Prop) (hw : qw_S_abandon p1 x post) : qa_Ci l y_S_abandon qv_S_abandon qr_S_abandon (dC, dI) classes (qC_t k) (qC_w a k) [.ref (a 0), .int p1] x post := by
  refine qa_ofWi (by decide) (Nat.le_of_ble_eq_true rfl) ?_
  intro p e s m args below meth c A H locs ls C S hl
  replace hl : lv_has ls 2 [(0, .ref (a 0)), (1, .int p1)] := hl
  have hx := C.1
  have hb := C.2.1
  unfold qw_S_abandon at hw
  refine lv_aload_n hx hb d_S_abandon_0 rfl (lv_at hl 0 rfl) ?_
  refine qa_callv (qa_runV (As := []) (rest := []) C S (qc_S_openDraft l dC dI a k _ _ hw H.size) (cwV 0 C.2.2.2.2.1 qo_S_43_S_openDraft rfl rfl rfl qd_S_openDraft ⟨Nat.le_of_ble_eq_true rfl, Nat.le_of_ble_eq_true rfl⟩) (va_recv (q0 := 0) (ci := 0) S.2.2.1 S.1 rfl rfl) rfl hl.1 rfl (Nat.le_of_ble_eq_true rfl) d_S_abandon_1) S (fun x1 H locs hw S => ?_)
  refine lv_aload_n hx hb d_S_abandon_4 rfl (lv_at hl 0 rfl) ?_
  refine lv_iload_n hx hb d_S_abandon_5 rfl (lv_at hl 1 rfl) ?_
  refine qa_calli (qa_runV (As := [.int p1]) (rest := []) C S (qc_S_isReplaceable l dC dI a k _ _ _ hw H.size) (cwV 1 C.2.2.2.2.1 qo_S_100_S_isReplaceable rfl rfl rfl qd_S_isReplaceable ⟨Nat.le_of_ble_eq_true rfl, Nat.le_of_ble_eq_true rfl⟩) (va_recv (q0 := 0) (ci := 0) S.2.2.1 S.1 rfl rfl) rfl hl.1 rfl (Nat.le_of_ble_eq_true rfl) d_S_abandon_6) S (fun r3 x2 H locs hw S => ?_)
  refine lv_if_ne (tgt := 14) hx hb d_S_abandon_9 rfl (fun hc => ?_) (fun hc => ?_)
  · replace hw := hw.1 hc
    refine lv_aload_n hx hb d_S_abandon_14 rfl (lv_at hl 0 rfl) ?_
    refine qf_C_S_draft C S qh_102 d_S_abandon_15 ?_
    refine lv_iload_n hx hb d_S_abandon_18 rfl (lv_at hl 1 rfl) ?_
    refine lv_aload_n hx hb d_S_abandon_19 rfl (lv_at hl 0 rfl) ?_
    refine qf_C_S_commits C S qh_100 d_S_abandon_20 ?_
    refine lv_iload_n hx hb d_S_abandon_23 rfl (lv_at hl 1 rfl) ?_
    refine qa_calli (qa_runV (As := [.int p1]) (rest := [.int p1, .ref (a 3)]) C S (qc_C_parentOf l dC dI a k _ _ _ hw H.size) (cwV 1 C.2.2.2.2.1 qo_S_85_C_parentOf rfl rfl rfl qd_C_parentOf ⟨Nat.le_of_ble_eq_true rfl, Nat.le_of_ble_eq_true rfl⟩) (va_recv (q0 := 1) (ci := 1) S.2.2.1 S.1 rfl rfl) rfl hl.1 rfl (Nat.le_of_ble_eq_true rfl) d_S_abandon_24) S (fun r5 x4 H locs hw S => ?_)
    refine qa_callv (qa_runV (As := [.int p1, .int r5]) (rest := []) C S (qc_D_replace l dC dI a k _ _ _ _ hw H.size) (cwV 2 C.2.2.2.2.1 qo_S_96_D_replace rfl rfl rfl qd_D_replace ⟨Nat.le_of_ble_eq_true rfl, Nat.le_of_ble_eq_true rfl⟩) (va_recv (q0 := 3) (ci := 3) S.2.2.1 S.1 rfl rfl) rfl hl.1 rfl (Nat.le_of_ble_eq_true rfl) d_S_abandon_27) S (fun x6 H locs hw S => ?_)
    refine lv_aload_n hx hb d_S_abandon_30 rfl (lv_at hl 0 rfl) ?_
    refine lv_aload_n hx hb d_S_abandon_31 rfl (lv_at hl 0 rfl) ?_
    refine qf_C_S_chosen C S qh_104 d_S_abandon_32 ?_
    refine lv_iconst (v := -1) hx hb d_S_abandon_35 (by decide) ?_
    refine qa_calli (qa_runV (As := [.int (gI x6 0), .int (-1 : Int32)]) (rest := []) C S (qc_S_keepDraft l dC dI a k _ _ _ _ hw H.size) (cwV 2 C.2.2.2.2.1 qo_S_65_S_keepDraft rfl rfl rfl qd_S_keepDraft ⟨Nat.le_of_ble_eq_true rfl, Nat.le_of_ble_eq_true rfl⟩) (va_recv (q0 := 0) (ci := 0) S.2.2.1 S.1 rfl rfl) rfl hl.1 rfl (Nat.le_of_ble_eq_true rfl) d_S_abandon_36) S (fun r8 x7 H locs hw S => ?_)
    exact qa_reti C S hw d_S_abandon_39
  replace hw := hw.2 hc
  refine lv_iconst (v := -1) hx hb d_S_abandon_12 (by decide) ?_
  exact qa_reti C S hw d_S_abandon_13
set_option maxHeartbeats 4000000 in
set_option maxRecDepth 100000 in
theorem qc_S_squash (l : Launch) (dC : Nat → ClassId) (dI : Nat → Nat → Nat) (a : Nat → Nat) (k : Nat → ClassId) (p1 : Int32) (x : QX) (post : Int32 → QX → Prop) (hw : qw_S_squash p1 x post) : qa_Ci l y_S_squash qv_S_squash qr_S_squash (dC, dI) classes (qC_t k) (qC_w a k) [.ref (a 0), .int p1] x post := by
  refine qa_ofWi (by decide) (Nat.le_of_ble_eq_true rfl) ?_
  intro p e s m args below meth c A H locs ls C S hl
  replace hl : lv_has ls 4 [(0, .ref (a 0)), (1, .int p1)] := hl
  have hx := C.1
  have hb := C.2.1
  unfold qw_S_squash at hw
  refine lv_aload_n hx hb d_S_squash_0 rfl (lv_at hl 0 rfl) ?_
  refine qa_callv (qa_runV (As := []) (rest := []) C S (qc_S_openDraft l dC dI a k _ _ hw H.size) (cwV 0 C.2.2.2.2.1 qo_S_43_S_openDraft rfl rfl rfl qd_S_openDraft ⟨Nat.le_of_ble_eq_true rfl, Nat.le_of_ble_eq_true rfl⟩) (va_recv (q0 := 0) (ci := 0) S.2.2.1 S.1 rfl rfl) rfl hl.1 rfl (Nat.le_of_ble_eq_true rfl) d_S_squash_1) S (fun x1 H locs hw S => ?_)
  refine lv_aload_n hx hb d_S_squash_4 rfl (lv_at hl 0 rfl) ?_
  refine lv_iload_n hx hb d_S_squash_5 rfl (lv_at hl 1 rfl) ?_
  refine qa_calli (qa_runV (As := [.int p1]) (rest := []) C S (qc_S_isReplaceable l dC dI a k _ _ _ hw H.size) (cwV 1 C.2.2.2.2.1 qo_S_100_S_isReplaceable rfl rfl rfl qd_S_isReplaceable ⟨Nat.le_of_ble_eq_true rfl, Nat.le_of_ble_eq_true rfl⟩) (va_recv (q0 := 0) (ci := 0) S.2.2.1 S.1 rfl rfl) rfl hl.1 rfl (Nat.le_of_ble_eq_true rfl) d_S_squash_6) S (fun r3 x2 H locs hw S => ?_)
  refine lv_if_eq (tgt := 23) hx hb d_S_squash_9 rfl (fun hc => ?_) (fun hc => ?_)
  · replace hw := hw.1 hc
    refine lv_iconst (v := -1) hx hb d_S_squash_23 (by decide) ?_
    exact qa_reti C S hw d_S_squash_24
  replace hw := hw.2 hc
  refine lv_aload_n hx hb d_S_squash_12 rfl (lv_at hl 0 rfl) ?_
  refine qf_C_S_commits C S qh_100 d_S_squash_13 ?_
  refine lv_iload_n hx hb d_S_squash_16 rfl (lv_at hl 1 rfl) ?_
  refine qa_calli (qa_runV (As := [.int p1]) (rest := []) C S (qc_C_parentOf l dC dI a k _ _ _ hw H.size) (cwV 1 C.2.2.2.2.1 qo_S_85_C_parentOf rfl rfl rfl qd_C_parentOf ⟨Nat.le_of_ble_eq_true rfl, Nat.le_of_ble_eq_true rfl⟩) (va_recv (q0 := 1) (ci := 1) S.2.2.1 S.1 rfl rfl) rfl hl.1 rfl (Nat.le_of_ble_eq_true rfl) d_S_squash_17) S (fun r5 x4 H locs hw S => ?_)
  refine lv_if_ne (tgt := 25) hx hb d_S_squash_20 rfl (fun hc => ?_) (fun hc => ?_)
  · replace hw := hw.1 hc
    refine lv_aload_n hx hb d_S_squash_25 rfl (lv_at hl 0 rfl) ?_
    refine qa_calli (qa_runV (As := []) (rest := []) C S (qc_S_hasRoomForCommit l dC dI a k _ _ hw H.size) (cwV 0 C.2.2.2.2.1 qo_S_50_S_hasRoomForCommit rfl rfl rfl qd_S_hasRoomForCommit ⟨Nat.le_of_ble_eq_true rfl, Nat.le_of_ble_eq_true rfl⟩) (va_recv (q0 := 0) (ci := 0) S.2.2.1 S.1 rfl rfl) rfl hl.1 rfl (Nat.le_of_ble_eq_true rfl) d_S_squash_26) S (fun r7 x6 H locs hw S => ?_)
    refine lv_if_ne (tgt := 35) hx hb d_S_squash_29 rfl (fun hc => ?_) (fun hc => ?_)
    · replace hw := hw.1 hc
      refine lv_aload_n hx hb d_S_squash_35 rfl (lv_at hl 0 rfl) ?_
      refine qf_C_S_commits C S qh_100 d_S_squash_36 ?_
      refine lv_iload_n hx hb d_S_squash_39 rfl (lv_at hl 1 rfl) ?_
      refine qa_calli (qa_runV (As := [.int p1]) (rest := []) C S (qc_C_parentOf l dC dI a k _ _ _ hw H.size) (cwV 1 C.2.2.2.2.1 qo_S_85_C_parentOf rfl rfl rfl qd_C_parentOf ⟨Nat.le_of_ble_eq_true rfl, Nat.le_of_ble_eq_true rfl⟩) (va_recv (q0 := 1) (ci := 1) S.2.2.1 S.1 rfl rfl) rfl hl.1 rfl (Nat.le_of_ble_eq_true rfl) d_S_squash_40) S (fun r9 x8 H locs hw S => ?_)
      refine lv_istore_n (lv' := [(2, .int r9), (0, .ref (a 0)), (1, .int p1)]) hx hb d_S_squash_43 rfl hl (by decide) rfl (fun ls hl => ?_)
      refine lv_aload_n hx hb d_S_squash_44 rfl (lv_at hl 1 rfl) ?_
      refine qf_C_S_commits C S qh_100 d_S_squash_45 ?_
      refine lv_aload_n hx hb d_S_squash_48 rfl (lv_at hl 1 rfl) ?_
      refine qf_C_S_commits C S qh_100 d_S_squash_49 ?_
      refine lv_iload_n hx hb d_S_squash_52 rfl (lv_at hl 0 rfl) ?_
      refine qa_calli (qa_runV (As := [.int r9]) (rest := [.ref (a 1)]) C S (qc_C_changeOf l dC dI a k _ _ _ hw H.size) (cwV 1 C.2.2.2.2.1 qo_S_82_C_changeOf rfl rfl rfl qd_C_changeOf ⟨Nat.le_of_ble_eq_true rfl, Nat.le_of_ble_eq_true rfl⟩) (va_recv (q0 := 1) (ci := 1) S.2.2.1 S.1 rfl rfl) rfl hl.1 rfl (Nat.le_of_ble_eq_true rfl) d_S_squash_53) S (fun r11 x10 H locs hw S => ?_)
      refine lv_aload_n hx hb d_S_squash_56 rfl (lv_at hl 1 rfl) ?_
      refine qf_C_S_commits C S qh_100 d_S_squash_57 ?_
      refine lv_iload_n hx hb d_S_squash_60 rfl (lv_at hl 0 rfl) ?_
      refine qa_calli (qa_runV (As := [.int r9]) (rest := [.int r11, .ref (a 1)]) C S (qc_C_parentOf l dC dI a k _ _ _ hw H.size) (cwV 1 C.2.2.2.2.1 qo_S_85_C_parentOf rfl rfl rfl qd_C_parentOf ⟨Nat.le_of_ble_eq_true rfl, Nat.le_of_ble_eq_true rfl⟩) (va_recv (q0 := 1) (ci := 1) S.2.2.1 S.1 rfl rfl) rfl hl.1 rfl (Nat.le_of_ble_eq_true rfl) d_S_squash_61) S (fun r13 x12 H locs hw S => ?_)
      refine lv_iload_n hx hb d_S_squash_64 rfl (lv_at hl 2 rfl) ?_
      refine qa_calli (qa_runV (As := [.int r11, .int r13, .int p1]) (rest := []) C S (qc_C_addCopy l dC dI a k _ _ _ _ _ hw H.size) (cwV 3 C.2.2.2.2.1 qo_S_88_C_addCopy rfl rfl rfl qd_C_addCopy ⟨Nat.le_of_ble_eq_true rfl, Nat.le_of_ble_eq_true rfl⟩) (va_recv (q0 := 1) (ci := 1) S.2.2.1 S.1 rfl rfl) rfl hl.1 rfl (Nat.le_of_ble_eq_true rfl) d_S_squash_65) S (fun r15 x14 H locs hw S => ?_)
      refine lv_istore_n (lv' := [(3, .int r15), (2, .int r9), (0, .ref (a 0)), (1, .int p1)]) hx hb d_S_squash_68 rfl hl (by decide) rfl (fun ls hl => ?_)
      refine lv_aload_n hx hb d_S_squash_69 rfl (lv_at hl 2 rfl) ?_
      refine qf_C_S_draft C S qh_102 d_S_squash_70 ?_
      refine lv_iload_n hx hb d_S_squash_73 rfl (lv_at hl 3 rfl) ?_
      refine lv_iload_n hx hb d_S_squash_74 rfl (lv_at hl 0 rfl) ?_
      refine qa_callv (qa_runV (As := [.int p1, .int r15]) (rest := []) C S (qc_D_replace l dC dI a k _ _ _ _ hw H.size) (cwV 2 C.2.2.2.2.1 qo_S_96_D_replace rfl rfl rfl qd_D_replace ⟨Nat.le_of_ble_eq_true rfl, Nat.le_of_ble_eq_true rfl⟩) (va_recv (q0 := 3) (ci := 3) S.2.2.1 S.1 rfl rfl) rfl hl.1 rfl (Nat.le_of_ble_eq_true rfl) d_S_squash_75) S (fun x16 H locs hw S => ?_)
      refine lv_aload_n hx hb d_S_squash_78 rfl (lv_at hl 2 rfl) ?_
      refine qf_C_S_draft C S qh_102 d_S_squash_79 ?_
      refine lv_iload_n hx hb d_S_squash_82 rfl (lv_at hl 1 rfl) ?_
      refine lv_iload_n hx hb d_S_squash_83 rfl (lv_at hl 0 rfl) ?_
      refine qa_callv (qa_runV (As := [.int r9, .int r15]) (rest := []) C S (qc_D_replace l dC dI a k _ _ _ _ hw H.size) (cwV 2 C.2.2.2.2.1 qo_S_96_D_replace rfl rfl rfl qd_D_replace ⟨Nat.le_of_ble_eq_true rfl, Nat.le_of_ble_eq_true rfl⟩) (va_recv (q0 := 3) (ci := 3) S.2.2.1 S.1 rfl rfl) rfl hl.1 rfl (Nat.le_of_ble_eq_true rfl) d_S_squash_84) S (fun x17 H locs hw S => ?_)
      refine lv_aload_n hx hb d_S_squash_87 rfl (lv_at hl 2 rfl) ?_
      refine lv_aload_n hx hb d_S_squash_88 rfl (lv_at hl 2 rfl) ?_
      refine qf_C_S_chosen C S qh_104 d_S_squash_89 ?_
      refine lv_iconst (v := -1) hx hb d_S_squash_92 (by decide) ?_
      refine qa_calli (qa_runV (As := [.int (gI x17 0), .int (-1 : Int32)]) (rest := []) C S (qc_S_keepDraft l dC dI a k _ _ _ _ hw H.size) (cwV 2 C.2.2.2.2.1 qo_S_65_S_keepDraft rfl rfl rfl qd_S_keepDraft ⟨Nat.le_of_ble_eq_true rfl, Nat.le_of_ble_eq_true rfl⟩) (va_recv (q0 := 0) (ci := 0) S.2.2.1 S.1 rfl rfl) rfl hl.1 rfl (Nat.le_of_ble_eq_true rfl) d_S_squash_93) S (fun r19 x18 H locs hw S => ?_)
      exact qa_reti C S hw d_S_squash_96
    replace hw := hw.2 hc
    refine lv_bipush (v := -3) hx hb d_S_squash_32 (by decide) ?_
    exact qa_reti C S hw d_S_squash_34
  replace hw := hw.2 hc
  refine lv_iconst (v := -1) hx hb d_S_squash_23 (by decide) ?_
  exact qa_reti C S hw d_S_squash_24
set_option maxHeartbeats 4000000 in
set_option maxRecDepth 100000 in
theorem qc_S_edit (l : Launch) (dC : Nat → ClassId) (dI : Nat → Nat → Nat) (a : Nat → Nat) (k : Nat → ClassId) (p1 : Int32) (x : QX) (post : Int32 → QX → Prop) (hw : qw_S_edit p1 x post) : qa_Ci l y_S_edit qv_S_edit qr_S_edit (dC, dI) classes (qC_t k) (qC_w a k) [.ref (a 0), .int p1] x post := by
  refine qa_ofWi (by decide) (Nat.le_of_ble_eq_true rfl) ?_
  intro p e s m args below meth c A H locs ls C S hl
  replace hl : lv_has ls 2 [(0, .ref (a 0)), (1, .int p1)] := hl
  have hx := C.1
  have hb := C.2.1
  unfold qw_S_edit at hw
  refine lv_aload_n hx hb d_S_edit_0 rfl (lv_at hl 0 rfl) ?_
  refine qa_callv (qa_runV (As := []) (rest := []) C S (qc_S_openDraft l dC dI a k _ _ hw H.size) (cwV 0 C.2.2.2.2.1 qo_S_43_S_openDraft rfl rfl rfl qd_S_openDraft ⟨Nat.le_of_ble_eq_true rfl, Nat.le_of_ble_eq_true rfl⟩) (va_recv (q0 := 0) (ci := 0) S.2.2.1 S.1 rfl rfl) rfl hl.1 rfl (Nat.le_of_ble_eq_true rfl) d_S_edit_1) S (fun x1 H locs hw S => ?_)
  refine lv_aload_n hx hb d_S_edit_4 rfl (lv_at hl 0 rfl) ?_
  refine qf_C_S_draft C S qh_102 d_S_edit_5 ?_
  refine lv_iload_n hx hb d_S_edit_8 rfl (lv_at hl 1 rfl) ?_
  refine qa_calli (qa_runV (As := [.int p1]) (rest := []) C S (qc_D_shows l dC dI a k _ _ _ hw H.size) (cwV 1 C.2.2.2.2.1 qo_S_46_D_shows rfl rfl rfl qd_D_shows ⟨Nat.le_of_ble_eq_true rfl, Nat.le_of_ble_eq_true rfl⟩) (va_recv (q0 := 3) (ci := 3) S.2.2.1 S.1 rfl rfl) rfl hl.1 rfl (Nat.le_of_ble_eq_true rfl) d_S_edit_9) S (fun r3 x2 H locs hw S => ?_)
  refine lv_if_ne (tgt := 17) hx hb d_S_edit_12 rfl (fun hc => ?_) (fun hc => ?_)
  · replace hw := hw.1 hc
    refine lv_aload_n hx hb d_S_edit_17 rfl (lv_at hl 0 rfl) ?_
    refine qf_C_S_draft C S qh_102 d_S_edit_18 ?_
    refine qfN_C_D_working C S qh_83 d_S_edit_21 ?_
    refine lv_iload_n hx hb d_S_edit_24 rfl (lv_at hl 1 rfl) ?_
    refine lv_icmp_ne (tgt := 31) hx hb d_S_edit_25 rfl (fun hc => ?_) (fun hc => ?_)
    · replace hw := hw.1 hc
      refine lv_aload_n hx hb d_S_edit_31 rfl (lv_at hl 0 rfl) ?_
      refine qf_C_S_draft C S qh_102 d_S_edit_32 ?_
      refine lv_iload_n hx hb d_S_edit_35 rfl (lv_at hl 1 rfl) ?_
      refine qa_callv (qa_runV (As := [.int p1]) (rest := []) C S (qc_D_workOn l dC dI a k _ _ _ hw H.size) (cwV 1 C.2.2.2.2.1 qo_S_62_D_workOn rfl rfl rfl qd_D_workOn ⟨Nat.le_of_ble_eq_true rfl, Nat.le_of_ble_eq_true rfl⟩) (va_recv (q0 := 3) (ci := 3) S.2.2.1 S.1 rfl rfl) rfl hl.1 rfl (Nat.le_of_ble_eq_true rfl) d_S_edit_36) S (fun x4 H locs hw S => ?_)
      refine lv_aload_n hx hb d_S_edit_39 rfl (lv_at hl 0 rfl) ?_
      refine lv_aload_n hx hb d_S_edit_40 rfl (lv_at hl 0 rfl) ?_
      refine qf_C_S_chosen C S qh_104 d_S_edit_41 ?_
      refine lv_iconst (v := -1) hx hb d_S_edit_44 (by decide) ?_
      refine qa_calli (qa_runV (As := [.int (gI x4 0), .int (-1 : Int32)]) (rest := []) C S (qc_S_keepDraft l dC dI a k _ _ _ _ hw H.size) (cwV 2 C.2.2.2.2.1 qo_S_65_S_keepDraft rfl rfl rfl qd_S_keepDraft ⟨Nat.le_of_ble_eq_true rfl, Nat.le_of_ble_eq_true rfl⟩) (va_recv (q0 := 0) (ci := 0) S.2.2.1 S.1 rfl rfl) rfl hl.1 rfl (Nat.le_of_ble_eq_true rfl) d_S_edit_45) S (fun r6 x5 H locs hw S => ?_)
      exact qa_reti C S hw d_S_edit_48
    replace hw := hw.2 hc
    refine lv_bipush (v := -2) hx hb d_S_edit_28 (by decide) ?_
    exact qa_reti C S hw d_S_edit_30
  replace hw := hw.2 hc
  refine lv_iconst (v := -1) hx hb d_S_edit_15 (by decide) ?_
  exact qa_reti C S hw d_S_edit_16
set_option maxHeartbeats 4000000 in
set_option maxRecDepth 100000 in
theorem qc_S_mark (l : Launch) (dC : Nat → ClassId) (dI : Nat → Nat → Nat) (a : Nat → Nat) (k : Nat → ClassId) (p1 : Int32) (p2 : Int32) (x : QX) (post : Int32 → QX → Prop) (hw : qw_S_mark p1 p2 x post) : qa_Ci l y_S_mark qv_S_mark qr_S_mark (dC, dI) classes (qC_t k) (qC_w a k) [.ref (a 0), .int p1, .int p2] x post := by
  refine qa_ofWi (by decide) (Nat.le_of_ble_eq_true rfl) ?_
  intro p e s m args below meth c A H locs ls C S hl
  replace hl : lv_has ls 3 [(0, .ref (a 0)), (1, .int p1), (2, .int p2)] := hl
  have hx := C.1
  have hb := C.2.1
  unfold qw_S_mark at hw
  refine lv_aload_n hx hb d_S_mark_0 rfl (lv_at hl 0 rfl) ?_
  refine qa_callv (qa_runV (As := []) (rest := []) C S (qc_S_openDraft l dC dI a k _ _ hw H.size) (cwV 0 C.2.2.2.2.1 qo_S_43_S_openDraft rfl rfl rfl qd_S_openDraft ⟨Nat.le_of_ble_eq_true rfl, Nat.le_of_ble_eq_true rfl⟩) (va_recv (q0 := 0) (ci := 0) S.2.2.1 S.1 rfl rfl) rfl hl.1 rfl (Nat.le_of_ble_eq_true rfl) d_S_mark_1) S (fun x1 H locs hw S => ?_)
  refine lv_iload_n hx hb d_S_mark_4 rfl (lv_at hl 1 rfl) ?_
  refine qa_calli (qa_runS (As := [.int p1]) (rest := []) C S (qc_S_isMark l dC dI a k _ _ _ hw H.size) (cwS 1 C.2.2.2.2.1 qo_S_114_S_isMark rfl rfl rfl qd_S_isMark ⟨Nat.le_of_ble_eq_true rfl, Nat.le_of_ble_eq_true rfl⟩) rfl hl.1 rfl (Nat.le_of_ble_eq_true rfl) d_S_mark_5) S (fun r3 x2 H locs hw S => ?_)
  refine lv_if_eq (tgt := 27) hx hb d_S_mark_8 rfl (fun hc => ?_) (fun hc => ?_)
  · replace hw := hw.1 hc
    refine lv_iconst (v := -1) hx hb d_S_mark_27 (by decide) ?_
    exact qa_reti C S hw d_S_mark_28
  replace hw := hw.2 hc
  refine lv_iload_n hx hb d_S_mark_11 rfl (lv_at hl 2 rfl) ?_
  refine lv_iconst (v := -1) hx hb d_S_mark_12 (by decide) ?_
  refine lv_icmp_eq (tgt := 29) hx hb d_S_mark_13 rfl (fun hc => ?_) (fun hc => ?_)
  · replace hw := hw.1 hc
    refine lv_aload_n hx hb d_S_mark_29 rfl (lv_at hl 0 rfl) ?_
    refine qf_C_S_draft C S qh_102 d_S_mark_30 ?_
    refine qfN_C_D_marks C S qh_77 d_S_mark_33 ?_
    refine lv_iload_n hx hb d_S_mark_36 rfl (lv_at hl 1 rfl) ?_
    obtain ⟨hi, hw⟩ := hw
    refine qe_C_dmarks C S hi d_S_mark_37 ?_
    refine lv_iload_n hx hb d_S_mark_38 rfl (lv_at hl 2 rfl) ?_
    refine lv_icmp_ne (tgt := 45) hx hb d_S_mark_39 rfl (fun hc => ?_) (fun hc => ?_)
    · replace hw := hw.1 hc
      refine lv_aload_n hx hb d_S_mark_45 rfl (lv_at hl 0 rfl) ?_
      refine qf_C_S_draft C S qh_102 d_S_mark_46 ?_
      refine qfN_C_D_marks C S qh_77 d_S_mark_49 ?_
      refine lv_iload_n hx hb d_S_mark_52 rfl (lv_at hl 1 rfl) ?_
      refine lv_iload_n hx hb d_S_mark_53 rfl (lv_at hl 2 rfl) ?_
      obtain ⟨hi, hw⟩ := hw
      refine qt_C_dmarks C S hi d_S_mark_54 (fun x4 H locs ex4 S => ?_)
      replace hw := hw x4 ex4
      refine lv_aload_n hx hb d_S_mark_55 rfl (lv_at hl 0 rfl) ?_
      refine lv_aload_n hx hb d_S_mark_56 rfl (lv_at hl 0 rfl) ?_
      refine qf_C_S_chosen C S qh_104 d_S_mark_57 ?_
      refine lv_iconst (v := -1) hx hb d_S_mark_60 (by decide) ?_
      refine qa_calli (qa_runV (As := [.int (gI x4 0), .int (-1 : Int32)]) (rest := []) C S (qc_S_keepDraft l dC dI a k _ _ _ _ hw H.size) (cwV 2 C.2.2.2.2.1 qo_S_65_S_keepDraft rfl rfl rfl qd_S_keepDraft ⟨Nat.le_of_ble_eq_true rfl, Nat.le_of_ble_eq_true rfl⟩) (va_recv (q0 := 0) (ci := 0) S.2.2.1 S.1 rfl rfl) rfl hl.1 rfl (Nat.le_of_ble_eq_true rfl) d_S_mark_61) S (fun r6 x5 H locs hw S => ?_)
      exact qa_reti C S hw d_S_mark_64
    replace hw := hw.2 hc
    refine lv_bipush (v := -2) hx hb d_S_mark_42 (by decide) ?_
    exact qa_reti C S hw d_S_mark_44
  replace hw := hw.2 hc
  refine lv_aload_n hx hb d_S_mark_16 rfl (lv_at hl 0 rfl) ?_
  refine qf_C_S_draft C S qh_102 d_S_mark_17 ?_
  refine lv_iload_n hx hb d_S_mark_20 rfl (lv_at hl 2 rfl) ?_
  refine qa_calli (qa_runV (As := [.int p2]) (rest := []) C S (qc_D_shows l dC dI a k _ _ _ hw H.size) (cwV 1 C.2.2.2.2.1 qo_S_46_D_shows rfl rfl rfl qd_D_shows ⟨Nat.le_of_ble_eq_true rfl, Nat.le_of_ble_eq_true rfl⟩) (va_recv (q0 := 3) (ci := 3) S.2.2.1 S.1 rfl rfl) rfl hl.1 rfl (Nat.le_of_ble_eq_true rfl) d_S_mark_21) S (fun r8 x7 H locs hw S => ?_)
  refine lv_if_ne (tgt := 29) hx hb d_S_mark_24 rfl (fun hc => ?_) (fun hc => ?_)
  · replace hw := hw.1 hc
    refine lv_aload_n hx hb d_S_mark_29 rfl (lv_at hl 0 rfl) ?_
    refine qf_C_S_draft C S qh_102 d_S_mark_30 ?_
    refine qfN_C_D_marks C S qh_77 d_S_mark_33 ?_
    refine lv_iload_n hx hb d_S_mark_36 rfl (lv_at hl 1 rfl) ?_
    obtain ⟨hi, hw⟩ := hw
    refine qe_C_dmarks C S hi d_S_mark_37 ?_
    refine lv_iload_n hx hb d_S_mark_38 rfl (lv_at hl 2 rfl) ?_
    refine lv_icmp_ne (tgt := 45) hx hb d_S_mark_39 rfl (fun hc => ?_) (fun hc => ?_)
    · replace hw := hw.1 hc
      refine lv_aload_n hx hb d_S_mark_45 rfl (lv_at hl 0 rfl) ?_
      refine qf_C_S_draft C S qh_102 d_S_mark_46 ?_
      refine qfN_C_D_marks C S qh_77 d_S_mark_49 ?_
      refine lv_iload_n hx hb d_S_mark_52 rfl (lv_at hl 1 rfl) ?_
      refine lv_iload_n hx hb d_S_mark_53 rfl (lv_at hl 2 rfl) ?_
      obtain ⟨hi, hw⟩ := hw
      refine qt_C_dmarks C S hi d_S_mark_54 (fun x9 H locs ex9 S => ?_)
      replace hw := hw x9 ex9
      refine lv_aload_n hx hb d_S_mark_55 rfl (lv_at hl 0 rfl) ?_
      refine lv_aload_n hx hb d_S_mark_56 rfl (lv_at hl 0 rfl) ?_
      refine qf_C_S_chosen C S qh_104 d_S_mark_57 ?_
      refine lv_iconst (v := -1) hx hb d_S_mark_60 (by decide) ?_
      refine qa_calli (qa_runV (As := [.int (gI x9 0), .int (-1 : Int32)]) (rest := []) C S (qc_S_keepDraft l dC dI a k _ _ _ _ hw H.size) (cwV 2 C.2.2.2.2.1 qo_S_65_S_keepDraft rfl rfl rfl qd_S_keepDraft ⟨Nat.le_of_ble_eq_true rfl, Nat.le_of_ble_eq_true rfl⟩) (va_recv (q0 := 0) (ci := 0) S.2.2.1 S.1 rfl rfl) rfl hl.1 rfl (Nat.le_of_ble_eq_true rfl) d_S_mark_61) S (fun r11 x10 H locs hw S => ?_)
      exact qa_reti C S hw d_S_mark_64
    replace hw := hw.2 hc
    refine lv_bipush (v := -2) hx hb d_S_mark_42 (by decide) ?_
    exact qa_reti C S hw d_S_mark_44
  replace hw := hw.2 hc
  refine lv_iconst (v := -1) hx hb d_S_mark_27 (by decide) ?_
  exact qa_reti C S hw d_S_mark_28
set_option maxHeartbeats 4000000 in
set_option maxRecDepth 100000 in
theorem qc_O_firstBefore (l : Launch) (dC : Nat → ClassId) (dI : Nat → Nat → Nat) (a : Nat → Nat) (k : Nat → ClassId) (p1 : Int32) (x : QX) (post : Int32 → QX → Prop) (hw : qw_O_firstBefore p1 x post) : qa_Ci l y_O_firstBefore qv_O_firstBefore qr_O_firstBefore (dC, dI) classes (qC_t k) (qC_w a k) [.ref (a 2), .int p1] x post := by
  refine qa_ofWi (by decide) (Nat.le_of_ble_eq_true rfl) ?_
  intro p e s m args below meth c A H locs ls C S hl
  replace hl : lv_has ls 2 [(0, .ref (a 2)), (1, .int p1)] := hl
  have hx := C.1
  have hb := C.2.1
  unfold qw_O_firstBefore at hw
  refine lv_aload_n hx hb d_O_firstBefore_0 rfl (lv_at hl 0 rfl) ?_
  refine lv_iload_n hx hb d_O_firstBefore_1 rfl (lv_at hl 1 rfl) ?_
  refine qa_calli (qa_runV (As := [.int p1]) (rest := []) C S (qc_O_has l dC dI a k _ _ _ hw H.size) (cwV 1 C.2.2.2.2.1 qo_O_36_O_has rfl rfl rfl qd_O_has ⟨Nat.le_of_ble_eq_true rfl, Nat.le_of_ble_eq_true rfl⟩) (va_recv (q0 := 2) (ci := 2) S.2.2.1 S.1 rfl rfl) rfl hl.1 rfl (Nat.le_of_ble_eq_true rfl) d_O_firstBefore_2) S (fun r2 x1 H locs hw S => ?_)
  refine lv_if_eq (tgt := 17) hx hb d_O_firstBefore_5 rfl (fun hc => ?_) (fun hc => ?_)
  · replace hw := hw.1 hc
    refine lv_iconst (v := -1) hx hb d_O_firstBefore_17 (by decide) ?_
    exact qa_reti C S hw d_O_firstBefore_18
  replace hw := hw.2 hc
  refine lv_aload_n hx hb d_O_firstBefore_8 rfl (lv_at hl 0 rfl) ?_
  refine qf_C_O_firsts C S qh_50 d_O_firstBefore_9 ?_
  refine lv_iload_n hx hb d_O_firstBefore_12 rfl (lv_at hl 1 rfl) ?_
  obtain ⟨hi, hw⟩ := hw
  refine qe_C_firsts C S hi d_O_firstBefore_13 ?_
  refine lv_goto (tgt := 18) hx hb d_O_firstBefore_14 rfl ?_
  exact qa_reti C S hw d_O_firstBefore_18
set_option maxHeartbeats 4000000 in
set_option maxRecDepth 100000 in
theorem qc_O_secondBefore (l : Launch) (dC : Nat → ClassId) (dI : Nat → Nat → Nat) (a : Nat → Nat) (k : Nat → ClassId) (p1 : Int32) (x : QX) (post : Int32 → QX → Prop) (hw : qw_O_secondBefore p1 x post) : qa_Ci l y_O_secondBefore qv_O_secondBefore qr_O_secondBefore (dC, dI) classes (qC_t k) (qC_w a k) [.ref (a 2), .int p1] x post := by
  refine qa_ofWi (by decide) (Nat.le_of_ble_eq_true rfl) ?_
  intro p e s m args below meth c A H locs ls C S hl
  replace hl : lv_has ls 2 [(0, .ref (a 2)), (1, .int p1)] := hl
  have hx := C.1
  have hb := C.2.1
  unfold qw_O_secondBefore at hw
  refine lv_aload_n hx hb d_O_secondBefore_0 rfl (lv_at hl 0 rfl) ?_
  refine lv_iload_n hx hb d_O_secondBefore_1 rfl (lv_at hl 1 rfl) ?_
  refine qa_calli (qa_runV (As := [.int p1]) (rest := []) C S (qc_O_has l dC dI a k _ _ _ hw H.size) (cwV 1 C.2.2.2.2.1 qo_O_36_O_has rfl rfl rfl qd_O_has ⟨Nat.le_of_ble_eq_true rfl, Nat.le_of_ble_eq_true rfl⟩) (va_recv (q0 := 2) (ci := 2) S.2.2.1 S.1 rfl rfl) rfl hl.1 rfl (Nat.le_of_ble_eq_true rfl) d_O_secondBefore_2) S (fun r2 x1 H locs hw S => ?_)
  refine lv_if_eq (tgt := 17) hx hb d_O_secondBefore_5 rfl (fun hc => ?_) (fun hc => ?_)
  · replace hw := hw.1 hc
    refine lv_iconst (v := -1) hx hb d_O_secondBefore_17 (by decide) ?_
    exact qa_reti C S hw d_O_secondBefore_18
  replace hw := hw.2 hc
  refine lv_aload_n hx hb d_O_secondBefore_8 rfl (lv_at hl 0 rfl) ?_
  refine qf_C_O_seconds C S qh_51 d_O_secondBefore_9 ?_
  refine lv_iload_n hx hb d_O_secondBefore_12 rfl (lv_at hl 1 rfl) ?_
  obtain ⟨hi, hw⟩ := hw
  refine qe_C_seconds C S hi d_O_secondBefore_13 ?_
  refine lv_goto (tgt := 18) hx hb d_O_secondBefore_14 rfl ?_
  exact qa_reti C S hw d_O_secondBefore_18
set_option maxHeartbeats 4000000 in
set_option maxRecDepth 100000 in
theorem qc_S_undo (l : Launch) (dC : Nat → ClassId) (dI : Nat → Nat → Nat) (a : Nat → Nat) (k : Nat → ClassId)  (x : QX) (post : Int32 → QX → Prop) (hw : qw_S_undo  x post) : qa_Ci l y_S_undo qv_S_undo qr_S_undo (dC, dI) classes (qC_t k) (qC_w a k) [.ref (a 0)] x post := by
  refine qa_ofWi (by decide) (Nat.le_of_ble_eq_true rfl) ?_
  intro p e s m args below meth c A H locs ls C S hl
  replace hl : lv_has ls 4 [(0, .ref (a 0))] := hl
  have hx := C.1
  have hb := C.2.1
  unfold qw_S_undo at hw
  refine lv_aload_n hx hb d_S_undo_0 rfl (lv_at hl 0 rfl) ?_
  refine qf_C_S_currents C S qh_103 d_S_undo_1 ?_
  refine lv_aload_n hx hb d_S_undo_4 rfl (lv_at hl 0 rfl) ?_
  refine qf_C_S_chosen C S qh_104 d_S_undo_5 ?_
  obtain ⟨hi, hw⟩ := hw
  refine qe_C_currents C S hi d_S_undo_8 ?_
  refine lv_topi (fun t1 et1 => ?_)
  replace hw := hw t1 et1
  refine lv_istore_n (lv' := [(1, .int t1), (0, .ref (a 0))]) hx hb d_S_undo_9 rfl hl (by decide) rfl (fun ls hl => ?_)
  refine lv_aload_n hx hb d_S_undo_10 rfl (lv_at hl 1 rfl) ?_
  refine qf_C_S_operations C S qh_101 d_S_undo_11 ?_
  refine lv_iload_n hx hb d_S_undo_14 rfl (lv_at hl 0 rfl) ?_
  refine qa_calli (qa_runV (As := [.int t1]) (rest := []) C S (qc_O_firstBefore l dC dI a k _ _ _ hw H.size) (cwV 1 C.2.2.2.2.1 qo_S_120_O_firstBefore rfl rfl rfl qd_O_firstBefore ⟨Nat.le_of_ble_eq_true rfl, Nat.le_of_ble_eq_true rfl⟩) (va_recv (q0 := 2) (ci := 2) S.2.2.1 S.1 rfl rfl) rfl hl.1 rfl (Nat.le_of_ble_eq_true rfl) d_S_undo_15) S (fun r3 x2 H locs hw S => ?_)
  refine lv_istore_n (lv' := [(2, .int r3), (1, .int t1), (0, .ref (a 0))]) hx hb d_S_undo_18 rfl hl (by decide) rfl (fun ls hl => ?_)
  refine lv_aload_n hx hb d_S_undo_19 rfl (lv_at hl 2 rfl) ?_
  refine qf_C_S_operations C S qh_101 d_S_undo_20 ?_
  refine lv_iload_n hx hb d_S_undo_23 rfl (lv_at hl 1 rfl) ?_
  refine qa_calli (qa_runV (As := [.int t1]) (rest := []) C S (qc_O_secondBefore l dC dI a k _ _ _ hw H.size) (cwV 1 C.2.2.2.2.1 qo_S_123_O_secondBefore rfl rfl rfl qd_O_secondBefore ⟨Nat.le_of_ble_eq_true rfl, Nat.le_of_ble_eq_true rfl⟩) (va_recv (q0 := 2) (ci := 2) S.2.2.1 S.1 rfl rfl) rfl hl.1 rfl (Nat.le_of_ble_eq_true rfl) d_S_undo_24) S (fun r5 x4 H locs hw S => ?_)
  refine lv_iconst (v := -1) hx hb d_S_undo_27 (by decide) ?_
  refine lv_icmp_eq (tgt := 35) hx hb d_S_undo_28 rfl (fun hc => ?_) (fun hc => ?_)
  · replace hw := hw.1 hc
    refine lv_iconst (v := 0) hx hb d_S_undo_35 (by decide) ?_
    refine lv_istore_n (lv' := [(3, .int (0 : Int32)), (2, .int r3), (1, .int t1), (0, .ref (a 0))]) hx hb d_S_undo_36 rfl hl (by decide) rfl (fun ls hl => ?_)
    refine lv_iload_n hx hb d_S_undo_37 rfl (lv_at hl 1 rfl) ?_
    refine lv_iconst (v := -1) hx hb d_S_undo_38 (by decide) ?_
    refine lv_icmp_eq (tgt := 46) hx hb d_S_undo_39 rfl (fun hc => ?_) (fun hc => ?_)
    · replace hw := hw.1 hc
      refine lv_iconst (v := -1) hx hb d_S_undo_46 (by decide) ?_
      exact qa_reti C S hw d_S_undo_47
    replace hw := hw.2 hc
    refine lv_iload_n hx hb d_S_undo_42 rfl (lv_at hl 0 rfl) ?_
    refine lv_if_eq (tgt := 48) hx hb d_S_undo_43 rfl (fun hc => ?_) (fun hc => ?_)
    · replace hw := hw.1 hc
      refine lv_aload_n hx hb d_S_undo_48 rfl (lv_at hl 3 rfl) ?_
      refine qf_C_S_draft C S qh_102 d_S_undo_49 ?_
      refine lv_aload_n hx hb d_S_undo_52 rfl (lv_at hl 3 rfl) ?_
      refine qf_C_S_operations C S qh_101 d_S_undo_53 ?_
      refine lv_iload_n hx hb d_S_undo_56 rfl (lv_at hl 1 rfl) ?_
      refine qa_callv (qa_runV (As := [.ref (a 2), .int r3]) (rest := []) C S (qc_D_open l dC dI a k _ _ _ hw H.size) (cwV 2 C.2.2.2.2.1 qo_S_126_D_open rfl rfl rfl qd_D_open ⟨Nat.le_of_ble_eq_true rfl, Nat.le_of_ble_eq_true rfl⟩) (va_recv (q0 := 3) (ci := 3) S.2.2.1 S.1 rfl rfl) rfl hl.1 rfl (Nat.le_of_ble_eq_true rfl) d_S_undo_57) S (fun x6 H locs hw S => ?_)
      refine lv_aload_n hx hb d_S_undo_60 rfl (lv_at hl 3 rfl) ?_
      refine lv_aload_n hx hb d_S_undo_61 rfl (lv_at hl 3 rfl) ?_
      refine qf_C_S_chosen C S qh_104 d_S_undo_62 ?_
      refine lv_iconst (v := -1) hx hb d_S_undo_65 (by decide) ?_
      refine qa_calli (qa_runV (As := [.int (gI x6 0), .int (-1 : Int32)]) (rest := []) C S (qc_S_keepDraft l dC dI a k _ _ _ _ hw H.size) (cwV 2 C.2.2.2.2.1 qo_S_65_S_keepDraft rfl rfl rfl qd_S_keepDraft ⟨Nat.le_of_ble_eq_true rfl, Nat.le_of_ble_eq_true rfl⟩) (va_recv (q0 := 0) (ci := 0) S.2.2.1 S.1 rfl rfl) rfl hl.1 rfl (Nat.le_of_ble_eq_true rfl) d_S_undo_66) S (fun r8 x7 H locs hw S => ?_)
      exact qa_reti C S hw d_S_undo_69
    replace hw := hw.2 hc
    refine lv_iconst (v := -1) hx hb d_S_undo_46 (by decide) ?_
    exact qa_reti C S hw d_S_undo_47
  replace hw := hw.2 hc
  refine lv_iconst (v := 1) hx hb d_S_undo_31 (by decide) ?_
  refine lv_goto (tgt := 36) hx hb d_S_undo_32 rfl ?_
  refine lv_istore_n (lv' := [(3, .int (1 : Int32)), (2, .int r3), (1, .int t1), (0, .ref (a 0))]) hx hb d_S_undo_36 rfl hl (by decide) rfl (fun ls hl => ?_)
  refine lv_iload_n hx hb d_S_undo_37 rfl (lv_at hl 1 rfl) ?_
  refine lv_iconst (v := -1) hx hb d_S_undo_38 (by decide) ?_
  refine lv_icmp_eq (tgt := 46) hx hb d_S_undo_39 rfl (fun hc => ?_) (fun hc => ?_)
  · replace hw := hw.1 hc
    refine lv_iconst (v := -1) hx hb d_S_undo_46 (by decide) ?_
    exact qa_reti C S hw d_S_undo_47
  replace hw := hw.2 hc
  refine lv_iload_n hx hb d_S_undo_42 rfl (lv_at hl 0 rfl) ?_
  refine lv_if_eq (tgt := 48) hx hb d_S_undo_43 rfl (fun hc => ?_) (fun hc => ?_)
  · replace hw := hw.1 hc
    refine lv_aload_n hx hb d_S_undo_48 rfl (lv_at hl 3 rfl) ?_
    refine qf_C_S_draft C S qh_102 d_S_undo_49 ?_
    refine lv_aload_n hx hb d_S_undo_52 rfl (lv_at hl 3 rfl) ?_
    refine qf_C_S_operations C S qh_101 d_S_undo_53 ?_
    refine lv_iload_n hx hb d_S_undo_56 rfl (lv_at hl 1 rfl) ?_
    refine qa_callv (qa_runV (As := [.ref (a 2), .int r3]) (rest := []) C S (qc_D_open l dC dI a k _ _ _ hw H.size) (cwV 2 C.2.2.2.2.1 qo_S_126_D_open rfl rfl rfl qd_D_open ⟨Nat.le_of_ble_eq_true rfl, Nat.le_of_ble_eq_true rfl⟩) (va_recv (q0 := 3) (ci := 3) S.2.2.1 S.1 rfl rfl) rfl hl.1 rfl (Nat.le_of_ble_eq_true rfl) d_S_undo_57) S (fun x9 H locs hw S => ?_)
    refine lv_aload_n hx hb d_S_undo_60 rfl (lv_at hl 3 rfl) ?_
    refine lv_aload_n hx hb d_S_undo_61 rfl (lv_at hl 3 rfl) ?_
    refine qf_C_S_chosen C S qh_104 d_S_undo_62 ?_
    refine lv_iconst (v := -1) hx hb d_S_undo_65 (by decide) ?_
    refine qa_calli (qa_runV (As := [.int (gI x9 0), .int (-1 : Int32)]) (rest := []) C S (qc_S_keepDraft l dC dI a k _ _ _ _ hw H.size) (cwV 2 C.2.2.2.2.1 qo_S_65_S_keepDraft rfl rfl rfl qd_S_keepDraft ⟨Nat.le_of_ble_eq_true rfl, Nat.le_of_ble_eq_true rfl⟩) (va_recv (q0 := 0) (ci := 0) S.2.2.1 S.1 rfl rfl) rfl hl.1 rfl (Nat.le_of_ble_eq_true rfl) d_S_undo_66) S (fun r11 x10 H locs hw S => ?_)
    exact qa_reti C S hw d_S_undo_69
  replace hw := hw.2 hc
  refine lv_iconst (v := -1) hx hb d_S_undo_46 (by decide) ?_
  exact qa_reti C S hw d_S_undo_47
