set_option maxHeartbeats 4000000 in
set_option maxRecDepth 100000 in
theorem qc_M_write (l : Launch) (dC : Nat → ClassId) (dI : Nat → Nat → Nat) (a : Nat → Nat) (k : Nat → ClassId) (p1 : Int32) (p2 : Int32) (x : QX) (post : Int32 → QX → Prop) (hw : qw_M_write p1 p2 x post) : qa_Ci l y_M_write qv_M_write qr_M_write (dC, dI) classes (qM_t k) (qM_w a k) [.ref (a 0), .int p1, .int p2] x post := by
  refine qa_ofWi (by decide) (Nat.le_of_ble_eq_true rfl) ?_
  intro p e s m args below meth c A H locs ls C S hl
  replace hl : lv_has ls 5 [(0, .ref (a 0)), (1, .int p1), (2, .int p2)] := hl
  have hx := C.1
  have hb := C.2.1
  unfold qw_M_write at hw
  refine lv_aload_n hx hb d_M_write_0 rfl (lv_at hl 0 rfl) ?_
  refine qf_M_M_work C S qh_430 d_M_write_1 ?_
  refine lv_aload_n hx hb d_M_write_4 rfl (lv_at hl 0 rfl) ?_
  refine qa_calli (qa_runV (As := []) (rest := [.ref (a 9)]) C S (qc_M_here l dC dI a k _ _ hw H.size) (cwV 0 C.2.2.2.2.1 qo_M_107_M_here rfl rfl rfl qd_M_here ⟨Nat.le_of_ble_eq_true rfl, Nat.le_of_ble_eq_true rfl⟩) (va_recv (q0 := 0) (ci := 4) S.2.2.1 S.1 rfl rfl) rfl hl.1 rfl (Nat.le_of_ble_eq_true rfl) d_M_write_5) S (fun r2 x1 H locs hw S => ?_)
  obtain ⟨hi, hw⟩ := hw
  refine qe_M_work C S hi d_M_write_8 ?_
  refine lv_topi (fun t3 et3 => ?_)
  replace hw := hw t3 et3
  refine lv_istore_n (lv' := [(3, .int t3), (0, .ref (a 0)), (1, .int p1), (2, .int p2)]) hx hb d_M_write_9 rfl hl (by decide) rfl (fun ls hl => ?_)
  refine lv_iload_n hx hb d_M_write_10 rfl (lv_at hl 0 rfl) ?_
  refine lv_if_eq (tgt := 33) hx hb d_M_write_11 rfl (fun hc => ?_) (fun hc => ?_)
  · replace hw := hw.1 hc
    refine lv_iconst (v := -1) hx hb d_M_write_33 (by decide) ?_
    exact qa_reti C S hw d_M_write_34
  replace hw := hw.2 hc
  refine lv_iload_n hx hb d_M_write_14 rfl (lv_at hl 2 rfl) ?_
  refine lv_if_lt (tgt := 33) hx hb d_M_write_15 rfl (fun hc => ?_) (fun hc => ?_)
  · replace hw := hw.1 hc
    refine lv_iconst (v := -1) hx hb d_M_write_33 (by decide) ?_
    exact qa_reti C S hw d_M_write_34
  replace hw := hw.2 hc
  refine lv_iload_n hx hb d_M_write_18 rfl (lv_at hl 2 rfl) ?_
  refine lv_iconst (v := 3) hx hb d_M_write_19 (by decide) ?_
  refine lv_icmp_gt (tgt := 33) hx hb d_M_write_20 rfl (fun hc => ?_) (fun hc => ?_)
  · replace hw := hw.1 hc
    refine lv_iconst (v := -1) hx hb d_M_write_33 (by decide) ?_
    exact qa_reti C S hw d_M_write_34
  replace hw := hw.2 hc
  refine lv_iload_n hx hb d_M_write_23 rfl (lv_at hl 3 rfl) ?_
  refine lv_if_lt (tgt := 33) hx hb d_M_write_24 rfl (fun hc => ?_) (fun hc => ?_)
  · replace hw := hw.1 hc
    refine lv_iconst (v := -1) hx hb d_M_write_33 (by decide) ?_
    exact qa_reti C S hw d_M_write_34
  replace hw := hw.2 hc
  refine lv_iload_n hx hb d_M_write_27 rfl (lv_at hl 3 rfl) ?_
  refine lv_bipush (v := 7) hx hb d_M_write_28 (by decide) ?_
  refine lv_icmp_le (tgt := 35) hx hb d_M_write_30 rfl (fun hc => ?_) (fun hc => ?_)
  · replace hw := hw.1 hc
    refine lv_aload_n hx hb d_M_write_35 rfl (lv_at hl 1 rfl) ?_
    refine lv_iload_n hx hb d_M_write_36 rfl (lv_at hl 0 rfl) ?_
    refine lv_iload_n hx hb d_M_write_37 rfl (lv_at hl 2 rfl) ?_
    refine lv_iload_n hx hb d_M_write_38 rfl (lv_at hl 3 rfl) ?_
    refine qa_calli (qa_runV (As := [.int t3, .int p1, .int p2]) (rest := []) C S (qc_M_plain l dC dI a k _ _ _ _ _ hw H.size) (cwV 3 C.2.2.2.2.1 qo_M_126_M_plain rfl rfl rfl qd_M_plain ⟨Nat.le_of_ble_eq_true rfl, Nat.le_of_ble_eq_true rfl⟩) (va_recv (q0 := 0) (ci := 4) S.2.2.1 S.1 rfl rfl) rfl hl.1 rfl (Nat.le_of_ble_eq_true rfl) d_M_write_39) S (fun r5 x4 H locs hw S => ?_)
    refine lv_if_eq (tgt := 48) hx hb d_M_write_42 rfl (fun hc => ?_) (fun hc => ?_)
    · replace hw := hw.1 hc
      refine lv_aload_n hx hb d_M_write_48 rfl (lv_at hl 1 rfl) ?_
      refine lv_aload_n hx hb d_M_write_49 rfl (lv_at hl 1 rfl) ?_
      refine qa_calli (qa_runV (As := []) (rest := [.ref (a 0)]) C S (qc_M_here l dC dI a k _ _ hw H.size) (cwV 0 C.2.2.2.2.1 qo_M_107_M_here rfl rfl rfl qd_M_here ⟨Nat.le_of_ble_eq_true rfl, Nat.le_of_ble_eq_true rfl⟩) (va_recv (q0 := 0) (ci := 4) S.2.2.1 S.1 rfl rfl) rfl hl.1 rfl (Nat.le_of_ble_eq_true rfl) d_M_write_50) S (fun r7 x6 H locs hw S => ?_)
      refine qa_callv (qa_runV (As := [.int r7]) (rest := []) C S (qc_M_begin l dC dI a k _ _ _ hw H.size) (cwV 1 C.2.2.2.2.1 qo_M_116_M_begin rfl rfl rfl qd_M_begin ⟨Nat.le_of_ble_eq_true rfl, Nat.le_of_ble_eq_true rfl⟩) (va_recv (q0 := 0) (ci := 4) S.2.2.1 S.1 rfl rfl) rfl hl.1 rfl (Nat.le_of_ble_eq_true rfl) d_M_write_53) S (fun x8 H locs hw S => ?_)
      refine lv_aload_n hx hb d_M_write_56 rfl (lv_at hl 1 rfl) ?_
      refine lv_aload_n hx hb d_M_write_57 rfl (lv_at hl 1 rfl) ?_
      refine qf_M_M_change C S qh_421 d_M_write_58 ?_
      refine lv_iload_n hx hb d_M_write_61 rfl (lv_at hl 0 rfl) ?_
      obtain ⟨hi, hw⟩ := hw
      refine qe_M_change C S hi d_M_write_62 ?_
      refine lv_aload_n hx hb d_M_write_63 rfl (lv_at hl 1 rfl) ?_
      refine qf_M_M_parent C S qh_422 d_M_write_64 ?_
      refine lv_iload_n hx hb d_M_write_67 rfl (lv_at hl 0 rfl) ?_
      obtain ⟨hi, hw⟩ := hw
      refine qe_M_parent C S hi d_M_write_68 ?_
      refine qa_calli (qa_runV (As := [.int (gA x8 0 t3.toNatClampNeg), .int (gA x8 1 t3.toNatClampNeg)]) (rest := []) C S (qc_M_fresh l dC dI a k _ _ _ _ hw H.size) (cwV 2 C.2.2.2.2.1 qo_M_96_M_fresh rfl rfl rfl qd_M_fresh ⟨Nat.le_of_ble_eq_true rfl, Nat.le_of_ble_eq_true rfl⟩) (va_recv (q0 := 0) (ci := 4) S.2.2.1 S.1 rfl rfl) rfl hl.1 rfl (Nat.le_of_ble_eq_true rfl) d_M_write_69) S (fun r10 x9 H locs hw S => ?_)
      refine lv_istore (lv' := [(4, .int r10), (3, .int t3), (0, .ref (a 0)), (1, .int p1), (2, .int p2)]) hx hb d_M_write_72 hl (by decide) rfl (fun ls hl => ?_)
      refine lv_iload hx hb d_M_write_74 (lv_at hl 0 rfl) ?_
      refine lv_if_lt (tgt := 105) hx hb d_M_write_76 rfl (fun hc => ?_) (fun hc => ?_)
      · replace hw := hw.1 hc
        refine lv_aload_n hx hb d_M_write_105 rfl (lv_at hl 2 rfl) ?_
        refine qa_calli (qa_runV (As := []) (rest := []) C S (qc_M_done l dC dI a k _ _ hw H.size) (cwV 0 C.2.2.2.2.1 qo_M_123_M_done rfl rfl rfl qd_M_done ⟨Nat.le_of_ble_eq_true rfl, Nat.le_of_ble_eq_true rfl⟩) (va_recv (q0 := 0) (ci := 4) S.2.2.1 S.1 rfl rfl) rfl hl.1 rfl (Nat.le_of_ble_eq_true rfl) d_M_write_106) S (fun r12 x11 H locs hw S => ?_)
        exact qa_reti C S hw d_M_write_109
      replace hw := hw.2 hc
      refine lv_aload_n hx hb d_M_write_79 rfl (lv_at hl 2 rfl) ?_
      refine lv_iload hx hb d_M_write_80 (lv_at hl 0 rfl) ?_
      refine lv_iload_n hx hb d_M_write_82 rfl (lv_at hl 1 rfl) ?_
      refine qa_callv (qa_runV (As := [.int r10, .int t3]) (rest := []) C S (qc_M_copyContents l dC dI a k _ _ _ _ hw H.size) (cwV 2 C.2.2.2.2.1 qo_M_120_M_copyContents rfl rfl rfl qd_M_copyContents ⟨Nat.le_of_ble_eq_true rfl, Nat.le_of_ble_eq_true rfl⟩) (va_recv (q0 := 0) (ci := 4) S.2.2.1 S.1 rfl rfl) rfl hl.1 rfl (Nat.le_of_ble_eq_true rfl) d_M_write_83) S (fun x13 H locs hw S => ?_)
      refine lv_aload_n hx hb d_M_write_86 rfl (lv_at hl 2 rfl) ?_
      refine lv_iload hx hb d_M_write_87 (lv_at hl 0 rfl) ?_
      refine lv_iload_n hx hb d_M_write_89 rfl (lv_at hl 3 rfl) ?_
      refine lv_iload_n hx hb d_M_write_90 rfl (lv_at hl 4 rfl) ?_
      refine qa_callv (qa_runV (As := [.int r10, .int p1, .int p2]) (rest := []) C S (qc_M_setPlain l dC dI a k _ _ _ _ _ hw H.size) (cwV 3 C.2.2.2.2.1 qo_M_61_M_setPlain rfl rfl rfl qd_M_setPlain ⟨Nat.le_of_ble_eq_true rfl, Nat.le_of_ble_eq_true rfl⟩) (va_recv (q0 := 0) (ci := 4) S.2.2.1 S.1 rfl rfl) rfl hl.1 rfl (Nat.le_of_ble_eq_true rfl) d_M_write_91) S (fun x14 H locs hw S => ?_)
      refine lv_aload_n hx hb d_M_write_94 rfl (lv_at hl 2 rfl) ?_
      refine lv_iload_n hx hb d_M_write_95 rfl (lv_at hl 1 rfl) ?_
      refine lv_iload hx hb d_M_write_96 (lv_at hl 0 rfl) ?_
      refine qa_callv (qa_runV (As := [.int t3, .int r10]) (rest := []) C S (qc_M_replace l dC dI a k _ _ _ _ hw H.size) (cwV 2 C.2.2.2.2.1 qo_M_103_M_replace rfl rfl rfl qd_M_replace ⟨Nat.le_of_ble_eq_true rfl, Nat.le_of_ble_eq_true rfl⟩) (va_recv (q0 := 0) (ci := 4) S.2.2.1 S.1 rfl rfl) rfl hl.1 rfl (Nat.le_of_ble_eq_true rfl) d_M_write_98) S (fun x15 H locs hw S => ?_)
      refine lv_aload_n hx hb d_M_write_101 rfl (lv_at hl 2 rfl) ?_
      refine qa_callv (qa_runV (As := []) (rest := []) C S (qc_M_settle l dC dI a k _ _ hw H.size) (cwV 0 C.2.2.2.2.1 qo_M_130_M_settle rfl rfl rfl qd_M_settle ⟨Nat.le_of_ble_eq_true rfl, Nat.le_of_ble_eq_true rfl⟩) (va_recv (q0 := 0) (ci := 4) S.2.2.1 S.1 rfl rfl) rfl hl.1 rfl (Nat.le_of_ble_eq_true rfl) d_M_write_102) S (fun x16 H locs hw S => ?_)
      refine lv_aload_n hx hb d_M_write_105 rfl (lv_at hl 2 rfl) ?_
      refine qa_calli (qa_runV (As := []) (rest := []) C S (qc_M_done l dC dI a k _ _ hw H.size) (cwV 0 C.2.2.2.2.1 qo_M_123_M_done rfl rfl rfl qd_M_done ⟨Nat.le_of_ble_eq_true rfl, Nat.le_of_ble_eq_true rfl⟩) (va_recv (q0 := 0) (ci := 4) S.2.2.1 S.1 rfl rfl) rfl hl.1 rfl (Nat.le_of_ble_eq_true rfl) d_M_write_106) S (fun r18 x17 H locs hw S => ?_)
      exact qa_reti C S hw d_M_write_109
    replace hw := hw.2 hc
    refine lv_bipush (v := -2) hx hb d_M_write_45 (by decide) ?_
    exact qa_reti C S hw d_M_write_47
  replace hw := hw.2 hc
  refine lv_iconst (v := -1) hx hb d_M_write_33 (by decide) ?_
  exact qa_reti C S hw d_M_write_34
set_option maxHeartbeats 4000000 in
set_option maxRecDepth 100000 in
theorem qc_M_rebase (l : Launch) (dC : Nat → ClassId) (dI : Nat → Nat → Nat) (a : Nat → Nat) (k : Nat → ClassId) (p1 : Int32) (p2 : Int32) (x : QX) (post : Int32 → QX → Prop) (hw : qw_M_rebase p1 p2 x post) : qa_Ci l y_M_rebase qv_M_rebase qr_M_rebase (dC, dI) classes (qM_t k) (qM_w a k) [.ref (a 0), .int p1, .int p2] x post := by
  refine qa_ofWi (by decide) (Nat.le_of_ble_eq_true rfl) ?_
  intro p e s m args below meth c A H locs ls C S hl
  replace hl : lv_has ls 4 [(0, .ref (a 0)), (1, .int p1), (2, .int p2)] := hl
  have hx := C.1
  have hb := C.2.1
  unfold qw_M_rebase at hw
  refine lv_iload_n hx hb d_M_rebase_0 rfl (lv_at hl 1 rfl) ?_
  refine lv_if_eq (tgt := 37) hx hb d_M_rebase_1 rfl (fun hc => ?_) (fun hc => ?_)
  · replace hw := hw.1 hc
    refine lv_iconst (v := -1) hx hb d_M_rebase_37 (by decide) ?_
    exact qa_reti C S hw d_M_rebase_38
  replace hw := hw.2 hc
  refine lv_aload_n hx hb d_M_rebase_4 rfl (lv_at hl 0 rfl) ?_
  refine lv_aload_n hx hb d_M_rebase_5 rfl (lv_at hl 0 rfl) ?_
  refine qa_calli (qa_runV (As := []) (rest := [.ref (a 0)]) C S (qc_M_here l dC dI a k _ _ hw H.size) (cwV 0 C.2.2.2.2.1 qo_M_107_M_here rfl rfl rfl qd_M_here ⟨Nat.le_of_ble_eq_true rfl, Nat.le_of_ble_eq_true rfl⟩) (va_recv (q0 := 0) (ci := 4) S.2.2.1 S.1 rfl rfl) rfl hl.1 rfl (Nat.le_of_ble_eq_true rfl) d_M_rebase_6) S (fun r2 x1 H locs hw S => ?_)
  refine lv_iload_n hx hb d_M_rebase_9 rfl (lv_at hl 1 rfl) ?_
  refine qa_calli (qa_runV (As := [.int r2, .int p1]) (rest := []) C S (qc_M_isVisible l dC dI a k _ _ _ _ hw H.size) (cwV 2 C.2.2.2.2.1 qo_M_113_M_isVisible rfl rfl rfl qd_M_isVisible ⟨Nat.le_of_ble_eq_true rfl, Nat.le_of_ble_eq_true rfl⟩) (va_recv (q0 := 0) (ci := 4) S.2.2.1 S.1 rfl rfl) rfl hl.1 rfl (Nat.le_of_ble_eq_true rfl) d_M_rebase_10) S (fun r4 x3 H locs hw S => ?_)
  refine lv_if_eq (tgt := 37) hx hb d_M_rebase_13 rfl (fun hc => ?_) (fun hc => ?_)
  · replace hw := hw.1 hc
    refine lv_iconst (v := -1) hx hb d_M_rebase_37 (by decide) ?_
    exact qa_reti C S hw d_M_rebase_38
  replace hw := hw.2 hc
  refine lv_aload_n hx hb d_M_rebase_16 rfl (lv_at hl 0 rfl) ?_
  refine lv_aload_n hx hb d_M_rebase_17 rfl (lv_at hl 0 rfl) ?_
  refine qa_calli (qa_runV (As := []) (rest := [.ref (a 0)]) C S (qc_M_here l dC dI a k _ _ hw H.size) (cwV 0 C.2.2.2.2.1 qo_M_107_M_here rfl rfl rfl qd_M_here ⟨Nat.le_of_ble_eq_true rfl, Nat.le_of_ble_eq_true rfl⟩) (va_recv (q0 := 0) (ci := 4) S.2.2.1 S.1 rfl rfl) rfl hl.1 rfl (Nat.le_of_ble_eq_true rfl) d_M_rebase_18) S (fun r6 x5 H locs hw S => ?_)
  refine lv_iload_n hx hb d_M_rebase_21 rfl (lv_at hl 2 rfl) ?_
  refine qa_calli (qa_runV (As := [.int r6, .int p2]) (rest := []) C S (qc_M_isVisible l dC dI a k _ _ _ _ hw H.size) (cwV 2 C.2.2.2.2.1 qo_M_113_M_isVisible rfl rfl rfl qd_M_isVisible ⟨Nat.le_of_ble_eq_true rfl, Nat.le_of_ble_eq_true rfl⟩) (va_recv (q0 := 0) (ci := 4) S.2.2.1 S.1 rfl rfl) rfl hl.1 rfl (Nat.le_of_ble_eq_true rfl) d_M_rebase_22) S (fun r8 x7 H locs hw S => ?_)
  refine lv_if_eq (tgt := 37) hx hb d_M_rebase_25 rfl (fun hc => ?_) (fun hc => ?_)
  · replace hw := hw.1 hc
    refine lv_iconst (v := -1) hx hb d_M_rebase_37 (by decide) ?_
    exact qa_reti C S hw d_M_rebase_38
  replace hw := hw.2 hc
  refine lv_aload_n hx hb d_M_rebase_28 rfl (lv_at hl 0 rfl) ?_
  refine lv_iload_n hx hb d_M_rebase_29 rfl (lv_at hl 2 rfl) ?_
  refine lv_iload_n hx hb d_M_rebase_30 rfl (lv_at hl 1 rfl) ?_
  refine qa_calli (qa_runV (As := [.int p2, .int p1]) (rest := []) C S (qc_M_comesOf l dC dI a k _ _ _ _ hw H.size) (cwV 2 C.2.2.2.2.1 qo_M_81_M_comesOf rfl rfl rfl qd_M_comesOf ⟨Nat.le_of_ble_eq_true rfl, Nat.le_of_ble_eq_true rfl⟩) (va_recv (q0 := 0) (ci := 4) S.2.2.1 S.1 rfl rfl) rfl hl.1 rfl (Nat.le_of_ble_eq_true rfl) d_M_rebase_31) S (fun r10 x9 H locs hw S => ?_)
  refine lv_if_eq (tgt := 39) hx hb d_M_rebase_34 rfl (fun hc => ?_) (fun hc => ?_)
  · replace hw := hw.1 hc
    refine lv_aload_n hx hb d_M_rebase_39 rfl (lv_at hl 0 rfl) ?_
    refine qf_M_M_parent C S qh_422 d_M_rebase_40 ?_
    refine lv_iload_n hx hb d_M_rebase_43 rfl (lv_at hl 1 rfl) ?_
    obtain ⟨hi, hw⟩ := hw
    refine qe_M_parent C S hi d_M_rebase_44 ?_
    refine lv_iload_n hx hb d_M_rebase_45 rfl (lv_at hl 2 rfl) ?_
    refine lv_icmp_ne (tgt := 52) hx hb d_M_rebase_46 rfl (fun hc => ?_) (fun hc => ?_)
    · replace hw := hw.1 hc
      refine lv_aload_n hx hb d_M_rebase_52 rfl (lv_at hl 0 rfl) ?_
      refine lv_aload_n hx hb d_M_rebase_53 rfl (lv_at hl 0 rfl) ?_
      refine qa_calli (qa_runV (As := []) (rest := [.ref (a 0)]) C S (qc_M_here l dC dI a k _ _ hw H.size) (cwV 0 C.2.2.2.2.1 qo_M_107_M_here rfl rfl rfl qd_M_here ⟨Nat.le_of_ble_eq_true rfl, Nat.le_of_ble_eq_true rfl⟩) (va_recv (q0 := 0) (ci := 4) S.2.2.1 S.1 rfl rfl) rfl hl.1 rfl (Nat.le_of_ble_eq_true rfl) d_M_rebase_54) S (fun r12 x11 H locs hw S => ?_)
      refine qa_callv (qa_runV (As := [.int r12]) (rest := []) C S (qc_M_begin l dC dI a k _ _ _ hw H.size) (cwV 1 C.2.2.2.2.1 qo_M_116_M_begin rfl rfl rfl qd_M_begin ⟨Nat.le_of_ble_eq_true rfl, Nat.le_of_ble_eq_true rfl⟩) (va_recv (q0 := 0) (ci := 4) S.2.2.1 S.1 rfl rfl) rfl hl.1 rfl (Nat.le_of_ble_eq_true rfl) d_M_rebase_57) S (fun x13 H locs hw S => ?_)
      refine lv_aload_n hx hb d_M_rebase_60 rfl (lv_at hl 0 rfl) ?_
      refine lv_aload_n hx hb d_M_rebase_61 rfl (lv_at hl 0 rfl) ?_
      refine qf_M_M_change C S qh_421 d_M_rebase_62 ?_
      refine lv_iload_n hx hb d_M_rebase_65 rfl (lv_at hl 1 rfl) ?_
      obtain ⟨hi, hw⟩ := hw
      refine qe_M_change C S hi d_M_rebase_66 ?_
      refine lv_iload_n hx hb d_M_rebase_67 rfl (lv_at hl 2 rfl) ?_
      refine qa_calli (qa_runV (As := [.int (gA x13 0 p1.toNatClampNeg), .int p2]) (rest := []) C S (qc_M_fresh l dC dI a k _ _ _ _ hw H.size) (cwV 2 C.2.2.2.2.1 qo_M_96_M_fresh rfl rfl rfl qd_M_fresh ⟨Nat.le_of_ble_eq_true rfl, Nat.le_of_ble_eq_true rfl⟩) (va_recv (q0 := 0) (ci := 4) S.2.2.1 S.1 rfl rfl) rfl hl.1 rfl (Nat.le_of_ble_eq_true rfl) d_M_rebase_68) S (fun r15 x14 H locs hw S => ?_)
      refine lv_istore_n (lv' := [(3, .int r15), (0, .ref (a 0)), (1, .int p1), (2, .int p2)]) hx hb d_M_rebase_71 rfl hl (by decide) rfl (fun ls hl => ?_)
      refine lv_iload_n hx hb d_M_rebase_72 rfl (lv_at hl 0 rfl) ?_
      refine lv_if_lt (tgt := 99) hx hb d_M_rebase_73 rfl (fun hc => ?_) (fun hc => ?_)
      · replace hw := hw.1 hc
        refine lv_aload_n hx hb d_M_rebase_99 rfl (lv_at hl 1 rfl) ?_
        refine qa_calli (qa_runV (As := []) (rest := []) C S (qc_M_done l dC dI a k _ _ hw H.size) (cwV 0 C.2.2.2.2.1 qo_M_123_M_done rfl rfl rfl qd_M_done ⟨Nat.le_of_ble_eq_true rfl, Nat.le_of_ble_eq_true rfl⟩) (va_recv (q0 := 0) (ci := 4) S.2.2.1 S.1 rfl rfl) rfl hl.1 rfl (Nat.le_of_ble_eq_true rfl) d_M_rebase_100) S (fun r17 x16 H locs hw S => ?_)
        exact qa_reti C S hw d_M_rebase_103
      replace hw := hw.2 hc
      refine lv_aload_n hx hb d_M_rebase_76 rfl (lv_at hl 1 rfl) ?_
      refine lv_iload_n hx hb d_M_rebase_77 rfl (lv_at hl 0 rfl) ?_
      refine lv_iload_n hx hb d_M_rebase_78 rfl (lv_at hl 2 rfl) ?_
      refine lv_iload_n hx hb d_M_rebase_79 rfl (lv_at hl 3 rfl) ?_
      refine lv_aload_n hx hb d_M_rebase_80 rfl (lv_at hl 1 rfl) ?_
      refine qf_M_M_parent C S qh_422 d_M_rebase_81 ?_
      refine lv_iload_n hx hb d_M_rebase_84 rfl (lv_at hl 2 rfl) ?_
      obtain ⟨hi, hw⟩ := hw
      refine qe_M_parent C S hi d_M_rebase_85 ?_
      refine qa_callv (qa_runV (As := [.int r15, .int p1, .int p2, .int (gA x14 1 p1.toNatClampNeg)]) (rest := []) C S (qc_M_mix l dC dI a k _ _ _ _ _ _ hw H.size) (cwV 4 C.2.2.2.2.1 qo_M_99_M_mix rfl rfl rfl qd_M_mix ⟨Nat.le_of_ble_eq_true rfl, Nat.le_of_ble_eq_true rfl⟩) (va_recv (q0 := 0) (ci := 4) S.2.2.1 S.1 rfl rfl) rfl hl.1 rfl (Nat.le_of_ble_eq_true rfl) d_M_rebase_86) S (fun x18 H locs hw S => ?_)
      refine lv_aload_n hx hb d_M_rebase_89 rfl (lv_at hl 1 rfl) ?_
      refine lv_iload_n hx hb d_M_rebase_90 rfl (lv_at hl 2 rfl) ?_
      refine lv_iload_n hx hb d_M_rebase_91 rfl (lv_at hl 0 rfl) ?_
      refine qa_callv (qa_runV (As := [.int p1, .int r15]) (rest := []) C S (qc_M_replace l dC dI a k _ _ _ _ hw H.size) (cwV 2 C.2.2.2.2.1 qo_M_103_M_replace rfl rfl rfl qd_M_replace ⟨Nat.le_of_ble_eq_true rfl, Nat.le_of_ble_eq_true rfl⟩) (va_recv (q0 := 0) (ci := 4) S.2.2.1 S.1 rfl rfl) rfl hl.1 rfl (Nat.le_of_ble_eq_true rfl) d_M_rebase_92) S (fun x19 H locs hw S => ?_)
      refine lv_aload_n hx hb d_M_rebase_95 rfl (lv_at hl 1 rfl) ?_
      refine qa_callv (qa_runV (As := []) (rest := []) C S (qc_M_settle l dC dI a k _ _ hw H.size) (cwV 0 C.2.2.2.2.1 qo_M_130_M_settle rfl rfl rfl qd_M_settle ⟨Nat.le_of_ble_eq_true rfl, Nat.le_of_ble_eq_true rfl⟩) (va_recv (q0 := 0) (ci := 4) S.2.2.1 S.1 rfl rfl) rfl hl.1 rfl (Nat.le_of_ble_eq_true rfl) d_M_rebase_96) S (fun x20 H locs hw S => ?_)
      refine lv_aload_n hx hb d_M_rebase_99 rfl (lv_at hl 1 rfl) ?_
      refine qa_calli (qa_runV (As := []) (rest := []) C S (qc_M_done l dC dI a k _ _ hw H.size) (cwV 0 C.2.2.2.2.1 qo_M_123_M_done rfl rfl rfl qd_M_done ⟨Nat.le_of_ble_eq_true rfl, Nat.le_of_ble_eq_true rfl⟩) (va_recv (q0 := 0) (ci := 4) S.2.2.1 S.1 rfl rfl) rfl hl.1 rfl (Nat.le_of_ble_eq_true rfl) d_M_rebase_100) S (fun r22 x21 H locs hw S => ?_)
      exact qa_reti C S hw d_M_rebase_103
    replace hw := hw.2 hc
    refine lv_bipush (v := -2) hx hb d_M_rebase_49 (by decide) ?_
    exact qa_reti C S hw d_M_rebase_51
  replace hw := hw.2 hc
  refine lv_iconst (v := -1) hx hb d_M_rebase_37 (by decide) ?_
  exact qa_reti C S hw d_M_rebase_38
set_option maxHeartbeats 4000000 in
set_option maxRecDepth 100000 in
theorem qc_M_abandon (l : Launch) (dC : Nat → ClassId) (dI : Nat → Nat → Nat) (a : Nat → Nat) (k : Nat → ClassId) (p1 : Int32) (x : QX) (post : Int32 → QX → Prop) (hw : qw_M_abandon p1 x post) : qa_Ci l y_M_abandon qv_M_abandon qr_M_abandon (dC, dI) classes (qM_t k) (qM_w a k) [.ref (a 0), .int p1] x post := by
  refine qa_ofWi (by decide) (Nat.le_of_ble_eq_true rfl) ?_
  intro p e s m args below meth c A H locs ls C S hl
  replace hl : lv_has ls 2 [(0, .ref (a 0)), (1, .int p1)] := hl
  have hx := C.1
  have hb := C.2.1
  unfold qw_M_abandon at hw
  refine lv_iload_n hx hb d_M_abandon_0 rfl (lv_at hl 1 rfl) ?_
  refine lv_if_eq (tgt := 16) hx hb d_M_abandon_1 rfl (fun hc => ?_) (fun hc => ?_)
  · replace hw := hw.1 hc
    refine lv_iconst (v := -1) hx hb d_M_abandon_16 (by decide) ?_
    exact qa_reti C S hw d_M_abandon_17
  replace hw := hw.2 hc
  refine lv_aload_n hx hb d_M_abandon_4 rfl (lv_at hl 0 rfl) ?_
  refine lv_aload_n hx hb d_M_abandon_5 rfl (lv_at hl 0 rfl) ?_
  refine qa_calli (qa_runV (As := []) (rest := [.ref (a 0)]) C S (qc_M_here l dC dI a k _ _ hw H.size) (cwV 0 C.2.2.2.2.1 qo_M_107_M_here rfl rfl rfl qd_M_here ⟨Nat.le_of_ble_eq_true rfl, Nat.le_of_ble_eq_true rfl⟩) (va_recv (q0 := 0) (ci := 4) S.2.2.1 S.1 rfl rfl) rfl hl.1 rfl (Nat.le_of_ble_eq_true rfl) d_M_abandon_6) S (fun r2 x1 H locs hw S => ?_)
  refine lv_iload_n hx hb d_M_abandon_9 rfl (lv_at hl 1 rfl) ?_
  refine qa_calli (qa_runV (As := [.int r2, .int p1]) (rest := []) C S (qc_M_isVisible l dC dI a k _ _ _ _ hw H.size) (cwV 2 C.2.2.2.2.1 qo_M_113_M_isVisible rfl rfl rfl qd_M_isVisible ⟨Nat.le_of_ble_eq_true rfl, Nat.le_of_ble_eq_true rfl⟩) (va_recv (q0 := 0) (ci := 4) S.2.2.1 S.1 rfl rfl) rfl hl.1 rfl (Nat.le_of_ble_eq_true rfl) d_M_abandon_10) S (fun r4 x3 H locs hw S => ?_)
  refine lv_if_ne (tgt := 18) hx hb d_M_abandon_13 rfl (fun hc => ?_) (fun hc => ?_)
  · replace hw := hw.1 hc
    refine lv_aload_n hx hb d_M_abandon_18 rfl (lv_at hl 0 rfl) ?_
    refine lv_aload_n hx hb d_M_abandon_19 rfl (lv_at hl 0 rfl) ?_
    refine qa_calli (qa_runV (As := []) (rest := [.ref (a 0)]) C S (qc_M_here l dC dI a k _ _ hw H.size) (cwV 0 C.2.2.2.2.1 qo_M_107_M_here rfl rfl rfl qd_M_here ⟨Nat.le_of_ble_eq_true rfl, Nat.le_of_ble_eq_true rfl⟩) (va_recv (q0 := 0) (ci := 4) S.2.2.1 S.1 rfl rfl) rfl hl.1 rfl (Nat.le_of_ble_eq_true rfl) d_M_abandon_20) S (fun r6 x5 H locs hw S => ?_)
    refine qa_callv (qa_runV (As := [.int r6]) (rest := []) C S (qc_M_begin l dC dI a k _ _ _ hw H.size) (cwV 1 C.2.2.2.2.1 qo_M_116_M_begin rfl rfl rfl qd_M_begin ⟨Nat.le_of_ble_eq_true rfl, Nat.le_of_ble_eq_true rfl⟩) (va_recv (q0 := 0) (ci := 4) S.2.2.1 S.1 rfl rfl) rfl hl.1 rfl (Nat.le_of_ble_eq_true rfl) d_M_abandon_23) S (fun x7 H locs hw S => ?_)
    refine lv_aload_n hx hb d_M_abandon_26 rfl (lv_at hl 0 rfl) ?_
    refine lv_iload_n hx hb d_M_abandon_27 rfl (lv_at hl 1 rfl) ?_
    refine lv_aload_n hx hb d_M_abandon_28 rfl (lv_at hl 0 rfl) ?_
    refine qf_M_M_parent C S qh_422 d_M_abandon_29 ?_
    refine lv_iload_n hx hb d_M_abandon_32 rfl (lv_at hl 1 rfl) ?_
    obtain ⟨hi, hw⟩ := hw
    refine qe_M_parent C S hi d_M_abandon_33 ?_
    refine qa_callv (qa_runV (As := [.int p1, .int (gA x7 1 p1.toNatClampNeg)]) (rest := []) C S (qc_M_replace l dC dI a k _ _ _ _ hw H.size) (cwV 2 C.2.2.2.2.1 qo_M_103_M_replace rfl rfl rfl qd_M_replace ⟨Nat.le_of_ble_eq_true rfl, Nat.le_of_ble_eq_true rfl⟩) (va_recv (q0 := 0) (ci := 4) S.2.2.1 S.1 rfl rfl) rfl hl.1 rfl (Nat.le_of_ble_eq_true rfl) d_M_abandon_34) S (fun x8 H locs hw S => ?_)
    refine lv_aload_n hx hb d_M_abandon_37 rfl (lv_at hl 0 rfl) ?_
    refine qa_callv (qa_runV (As := []) (rest := []) C S (qc_M_settle l dC dI a k _ _ hw H.size) (cwV 0 C.2.2.2.2.1 qo_M_130_M_settle rfl rfl rfl qd_M_settle ⟨Nat.le_of_ble_eq_true rfl, Nat.le_of_ble_eq_true rfl⟩) (va_recv (q0 := 0) (ci := 4) S.2.2.1 S.1 rfl rfl) rfl hl.1 rfl (Nat.le_of_ble_eq_true rfl) d_M_abandon_38) S (fun x9 H locs hw S => ?_)
    refine lv_aload_n hx hb d_M_abandon_41 rfl (lv_at hl 0 rfl) ?_
    refine qa_calli (qa_runV (As := []) (rest := []) C S (qc_M_done l dC dI a k _ _ hw H.size) (cwV 0 C.2.2.2.2.1 qo_M_123_M_done rfl rfl rfl qd_M_done ⟨Nat.le_of_ble_eq_true rfl, Nat.le_of_ble_eq_true rfl⟩) (va_recv (q0 := 0) (ci := 4) S.2.2.1 S.1 rfl rfl) rfl hl.1 rfl (Nat.le_of_ble_eq_true rfl) d_M_abandon_42) S (fun r11 x10 H locs hw S => ?_)
    exact qa_reti C S hw d_M_abandon_45
  replace hw := hw.2 hc
  refine lv_iconst (v := -1) hx hb d_M_abandon_16 (by decide) ?_
  exact qa_reti C S hw d_M_abandon_17
set_option maxHeartbeats 4000000 in
set_option maxRecDepth 100000 in
theorem qc_M_squash (l : Launch) (dC : Nat → ClassId) (dI : Nat → Nat → Nat) (a : Nat → Nat) (k : Nat → ClassId) (p1 : Int32) (x : QX) (post : Int32 → QX → Prop) (hw : qw_M_squash p1 x post) : qa_Ci l y_M_squash qv_M_squash qr_M_squash (dC, dI) classes (qM_t k) (qM_w a k) [.ref (a 0), .int p1] x post := by
  refine qa_ofWi (by decide) (Nat.le_of_ble_eq_true rfl) ?_
  intro p e s m args below meth c A H locs ls C S hl
  replace hl : lv_has ls 4 [(0, .ref (a 0)), (1, .int p1)] := hl
  have hx := C.1
  have hb := C.2.1
  unfold qw_M_squash at hw
  refine lv_iload_n hx hb d_M_squash_0 rfl (lv_at hl 1 rfl) ?_
  refine lv_if_eq (tgt := 25) hx hb d_M_squash_1 rfl (fun hc => ?_) (fun hc => ?_)
  · replace hw := hw.1 hc
    refine lv_iconst (v := -1) hx hb d_M_squash_25 (by decide) ?_
    exact qa_reti C S hw d_M_squash_26
  replace hw := hw.2 hc
  refine lv_aload_n hx hb d_M_squash_4 rfl (lv_at hl 0 rfl) ?_
  refine lv_aload_n hx hb d_M_squash_5 rfl (lv_at hl 0 rfl) ?_
  refine qa_calli (qa_runV (As := []) (rest := [.ref (a 0)]) C S (qc_M_here l dC dI a k _ _ hw H.size) (cwV 0 C.2.2.2.2.1 qo_M_107_M_here rfl rfl rfl qd_M_here ⟨Nat.le_of_ble_eq_true rfl, Nat.le_of_ble_eq_true rfl⟩) (va_recv (q0 := 0) (ci := 4) S.2.2.1 S.1 rfl rfl) rfl hl.1 rfl (Nat.le_of_ble_eq_true rfl) d_M_squash_6) S (fun r2 x1 H locs hw S => ?_)
  refine lv_iload_n hx hb d_M_squash_9 rfl (lv_at hl 1 rfl) ?_
  refine qa_calli (qa_runV (As := [.int r2, .int p1]) (rest := []) C S (qc_M_isVisible l dC dI a k _ _ _ _ hw H.size) (cwV 2 C.2.2.2.2.1 qo_M_113_M_isVisible rfl rfl rfl qd_M_isVisible ⟨Nat.le_of_ble_eq_true rfl, Nat.le_of_ble_eq_true rfl⟩) (va_recv (q0 := 0) (ci := 4) S.2.2.1 S.1 rfl rfl) rfl hl.1 rfl (Nat.le_of_ble_eq_true rfl) d_M_squash_10) S (fun r4 x3 H locs hw S => ?_)
  refine lv_if_eq (tgt := 25) hx hb d_M_squash_13 rfl (fun hc => ?_) (fun hc => ?_)
  · replace hw := hw.1 hc
    refine lv_iconst (v := -1) hx hb d_M_squash_25 (by decide) ?_
    exact qa_reti C S hw d_M_squash_26
  replace hw := hw.2 hc
  refine lv_aload_n hx hb d_M_squash_16 rfl (lv_at hl 0 rfl) ?_
  refine qf_M_M_parent C S qh_422 d_M_squash_17 ?_
  refine lv_iload_n hx hb d_M_squash_20 rfl (lv_at hl 1 rfl) ?_
  obtain ⟨hi, hw⟩ := hw
  refine qe_M_parent C S hi d_M_squash_21 ?_
  refine lv_if_ne (tgt := 27) hx hb d_M_squash_22 rfl (fun hc => ?_) (fun hc => ?_)
  · replace hw := hw.1 hc
    refine lv_aload_n hx hb d_M_squash_27 rfl (lv_at hl 0 rfl) ?_
    refine qf_M_M_parent C S qh_422 d_M_squash_28 ?_
    refine lv_iload_n hx hb d_M_squash_31 rfl (lv_at hl 1 rfl) ?_
    obtain ⟨hi, hw⟩ := hw
    refine qe_M_parent C S hi d_M_squash_32 ?_
    refine lv_topi (fun t5 et5 => ?_)
    replace hw := hw t5 et5
    refine lv_istore_n (lv' := [(2, .int t5), (0, .ref (a 0)), (1, .int p1)]) hx hb d_M_squash_33 rfl hl (by decide) rfl (fun ls hl => ?_)
    refine lv_aload_n hx hb d_M_squash_34 rfl (lv_at hl 1 rfl) ?_
    refine lv_aload_n hx hb d_M_squash_35 rfl (lv_at hl 1 rfl) ?_
    refine qa_calli (qa_runV (As := []) (rest := [.ref (a 0)]) C S (qc_M_here l dC dI a k _ _ hw H.size) (cwV 0 C.2.2.2.2.1 qo_M_107_M_here rfl rfl rfl qd_M_here ⟨Nat.le_of_ble_eq_true rfl, Nat.le_of_ble_eq_true rfl⟩) (va_recv (q0 := 0) (ci := 4) S.2.2.1 S.1 rfl rfl) rfl hl.1 rfl (Nat.le_of_ble_eq_true rfl) d_M_squash_36) S (fun r7 x6 H locs hw S => ?_)
    refine qa_callv (qa_runV (As := [.int r7]) (rest := []) C S (qc_M_begin l dC dI a k _ _ _ hw H.size) (cwV 1 C.2.2.2.2.1 qo_M_116_M_begin rfl rfl rfl qd_M_begin ⟨Nat.le_of_ble_eq_true rfl, Nat.le_of_ble_eq_true rfl⟩) (va_recv (q0 := 0) (ci := 4) S.2.2.1 S.1 rfl rfl) rfl hl.1 rfl (Nat.le_of_ble_eq_true rfl) d_M_squash_39) S (fun x8 H locs hw S => ?_)
    refine lv_aload_n hx hb d_M_squash_42 rfl (lv_at hl 1 rfl) ?_
    refine lv_aload_n hx hb d_M_squash_43 rfl (lv_at hl 1 rfl) ?_
    refine qf_M_M_change C S qh_421 d_M_squash_44 ?_
    refine lv_iload_n hx hb d_M_squash_47 rfl (lv_at hl 0 rfl) ?_
    obtain ⟨hi, hw⟩ := hw
    refine qe_M_change C S hi d_M_squash_48 ?_
    refine lv_aload_n hx hb d_M_squash_49 rfl (lv_at hl 1 rfl) ?_
    refine qf_M_M_parent C S qh_422 d_M_squash_50 ?_
    refine lv_iload_n hx hb d_M_squash_53 rfl (lv_at hl 0 rfl) ?_
    obtain ⟨hi, hw⟩ := hw
    refine qe_M_parent C S hi d_M_squash_54 ?_
    refine qa_calli (qa_runV (As := [.int (gA x8 0 t5.toNatClampNeg), .int (gA x8 1 t5.toNatClampNeg)]) (rest := []) C S (qc_M_fresh l dC dI a k _ _ _ _ hw H.size) (cwV 2 C.2.2.2.2.1 qo_M_96_M_fresh rfl rfl rfl qd_M_fresh ⟨Nat.le_of_ble_eq_true rfl, Nat.le_of_ble_eq_true rfl⟩) (va_recv (q0 := 0) (ci := 4) S.2.2.1 S.1 rfl rfl) rfl hl.1 rfl (Nat.le_of_ble_eq_true rfl) d_M_squash_55) S (fun r10 x9 H locs hw S => ?_)
    refine lv_istore_n (lv' := [(3, .int r10), (2, .int t5), (0, .ref (a 0)), (1, .int p1)]) hx hb d_M_squash_58 rfl hl (by decide) rfl (fun ls hl => ?_)
    refine lv_iload_n hx hb d_M_squash_59 rfl (lv_at hl 0 rfl) ?_
    refine lv_if_lt (tgt := 85) hx hb d_M_squash_60 rfl (fun hc => ?_) (fun hc => ?_)
    · replace hw := hw.1 hc
      refine lv_aload_n hx hb d_M_squash_85 rfl (lv_at hl 2 rfl) ?_
      refine qa_calli (qa_runV (As := []) (rest := []) C S (qc_M_done l dC dI a k _ _ hw H.size) (cwV 0 C.2.2.2.2.1 qo_M_123_M_done rfl rfl rfl qd_M_done ⟨Nat.le_of_ble_eq_true rfl, Nat.le_of_ble_eq_true rfl⟩) (va_recv (q0 := 0) (ci := 4) S.2.2.1 S.1 rfl rfl) rfl hl.1 rfl (Nat.le_of_ble_eq_true rfl) d_M_squash_86) S (fun r12 x11 H locs hw S => ?_)
      exact qa_reti C S hw d_M_squash_89
    replace hw := hw.2 hc
    refine lv_aload_n hx hb d_M_squash_63 rfl (lv_at hl 2 rfl) ?_
    refine lv_iload_n hx hb d_M_squash_64 rfl (lv_at hl 0 rfl) ?_
    refine lv_iload_n hx hb d_M_squash_65 rfl (lv_at hl 3 rfl) ?_
    refine qa_callv (qa_runV (As := [.int r10, .int p1]) (rest := []) C S (qc_M_copyContents l dC dI a k _ _ _ _ hw H.size) (cwV 2 C.2.2.2.2.1 qo_M_120_M_copyContents rfl rfl rfl qd_M_copyContents ⟨Nat.le_of_ble_eq_true rfl, Nat.le_of_ble_eq_true rfl⟩) (va_recv (q0 := 0) (ci := 4) S.2.2.1 S.1 rfl rfl) rfl hl.1 rfl (Nat.le_of_ble_eq_true rfl) d_M_squash_66) S (fun x13 H locs hw S => ?_)
    refine lv_aload_n hx hb d_M_squash_69 rfl (lv_at hl 2 rfl) ?_
    refine lv_iload_n hx hb d_M_squash_70 rfl (lv_at hl 3 rfl) ?_
    refine lv_iload_n hx hb d_M_squash_71 rfl (lv_at hl 0 rfl) ?_
    refine qa_callv (qa_runV (As := [.int p1, .int r10]) (rest := []) C S (qc_M_replace l dC dI a k _ _ _ _ hw H.size) (cwV 2 C.2.2.2.2.1 qo_M_103_M_replace rfl rfl rfl qd_M_replace ⟨Nat.le_of_ble_eq_true rfl, Nat.le_of_ble_eq_true rfl⟩) (va_recv (q0 := 0) (ci := 4) S.2.2.1 S.1 rfl rfl) rfl hl.1 rfl (Nat.le_of_ble_eq_true rfl) d_M_squash_72) S (fun x14 H locs hw S => ?_)
    refine lv_aload_n hx hb d_M_squash_75 rfl (lv_at hl 2 rfl) ?_
    refine lv_iload_n hx hb d_M_squash_76 rfl (lv_at hl 1 rfl) ?_
    refine lv_iload_n hx hb d_M_squash_77 rfl (lv_at hl 0 rfl) ?_
    refine qa_callv (qa_runV (As := [.int t5, .int r10]) (rest := []) C S (qc_M_replace l dC dI a k _ _ _ _ hw H.size) (cwV 2 C.2.2.2.2.1 qo_M_103_M_replace rfl rfl rfl qd_M_replace ⟨Nat.le_of_ble_eq_true rfl, Nat.le_of_ble_eq_true rfl⟩) (va_recv (q0 := 0) (ci := 4) S.2.2.1 S.1 rfl rfl) rfl hl.1 rfl (Nat.le_of_ble_eq_true rfl) d_M_squash_78) S (fun x15 H locs hw S => ?_)
    refine lv_aload_n hx hb d_M_squash_81 rfl (lv_at hl 2 rfl) ?_
    refine qa_callv (qa_runV (As := []) (rest := []) C S (qc_M_settle l dC dI a k _ _ hw H.size) (cwV 0 C.2.2.2.2.1 qo_M_130_M_settle rfl rfl rfl qd_M_settle ⟨Nat.le_of_ble_eq_true rfl, Nat.le_of_ble_eq_true rfl⟩) (va_recv (q0 := 0) (ci := 4) S.2.2.1 S.1 rfl rfl) rfl hl.1 rfl (Nat.le_of_ble_eq_true rfl) d_M_squash_82) S (fun x16 H locs hw S => ?_)
    refine lv_aload_n hx hb d_M_squash_85 rfl (lv_at hl 2 rfl) ?_
    refine qa_calli (qa_runV (As := []) (rest := []) C S (qc_M_done l dC dI a k _ _ hw H.size) (cwV 0 C.2.2.2.2.1 qo_M_123_M_done rfl rfl rfl qd_M_done ⟨Nat.le_of_ble_eq_true rfl, Nat.le_of_ble_eq_true rfl⟩) (va_recv (q0 := 0) (ci := 4) S.2.2.1 S.1 rfl rfl) rfl hl.1 rfl (Nat.le_of_ble_eq_true rfl) d_M_squash_86) S (fun r18 x17 H locs hw S => ?_)
    exact qa_reti C S hw d_M_squash_89
  replace hw := hw.2 hc
  refine lv_iconst (v := -1) hx hb d_M_squash_25 (by decide) ?_
  exact qa_reti C S hw d_M_squash_26
set_option maxHeartbeats 4000000 in
set_option maxRecDepth 100000 in
theorem qc_M_edit (l : Launch) (dC : Nat → ClassId) (dI : Nat → Nat → Nat) (a : Nat → Nat) (k : Nat → ClassId) (p1 : Int32) (x : QX) (post : Int32 → QX → Prop) (hw : qw_M_edit p1 x post) : qa_Ci l y_M_edit qv_M_edit qr_M_edit (dC, dI) classes (qM_t k) (qM_w a k) [.ref (a 0), .int p1] x post := by
  refine qa_ofWi (by decide) (Nat.le_of_ble_eq_true rfl) ?_
  intro p e s m args below meth c A H locs ls C S hl
  replace hl : lv_has ls 2 [(0, .ref (a 0)), (1, .int p1)] := hl
  have hx := C.1
  have hb := C.2.1
  unfold qw_M_edit at hw
  refine lv_aload_n hx hb d_M_edit_0 rfl (lv_at hl 0 rfl) ?_
  refine lv_aload_n hx hb d_M_edit_1 rfl (lv_at hl 0 rfl) ?_
  refine qa_calli (qa_runV (As := []) (rest := [.ref (a 0)]) C S (qc_M_here l dC dI a k _ _ hw H.size) (cwV 0 C.2.2.2.2.1 qo_M_107_M_here rfl rfl rfl qd_M_here ⟨Nat.le_of_ble_eq_true rfl, Nat.le_of_ble_eq_true rfl⟩) (va_recv (q0 := 0) (ci := 4) S.2.2.1 S.1 rfl rfl) rfl hl.1 rfl (Nat.le_of_ble_eq_true rfl) d_M_edit_2) S (fun r2 x1 H locs hw S => ?_)
  refine lv_iload_n hx hb d_M_edit_5 rfl (lv_at hl 1 rfl) ?_
  refine qa_calli (qa_runV (As := [.int r2, .int p1]) (rest := []) C S (qc_M_isVisible l dC dI a k _ _ _ _ hw H.size) (cwV 2 C.2.2.2.2.1 qo_M_113_M_isVisible rfl rfl rfl qd_M_isVisible ⟨Nat.le_of_ble_eq_true rfl, Nat.le_of_ble_eq_true rfl⟩) (va_recv (q0 := 0) (ci := 4) S.2.2.1 S.1 rfl rfl) rfl hl.1 rfl (Nat.le_of_ble_eq_true rfl) d_M_edit_6) S (fun r4 x3 H locs hw S => ?_)
  refine lv_if_ne (tgt := 14) hx hb d_M_edit_9 rfl (fun hc => ?_) (fun hc => ?_)
  · replace hw := hw.1 hc
    refine lv_aload_n hx hb d_M_edit_14 rfl (lv_at hl 0 rfl) ?_
    refine qf_M_M_work C S qh_430 d_M_edit_15 ?_
    refine lv_aload_n hx hb d_M_edit_18 rfl (lv_at hl 0 rfl) ?_
    refine qa_calli (qa_runV (As := []) (rest := [.ref (a 9)]) C S (qc_M_here l dC dI a k _ _ hw H.size) (cwV 0 C.2.2.2.2.1 qo_M_107_M_here rfl rfl rfl qd_M_here ⟨Nat.le_of_ble_eq_true rfl, Nat.le_of_ble_eq_true rfl⟩) (va_recv (q0 := 0) (ci := 4) S.2.2.1 S.1 rfl rfl) rfl hl.1 rfl (Nat.le_of_ble_eq_true rfl) d_M_edit_19) S (fun r6 x5 H locs hw S => ?_)
    obtain ⟨hi, hw⟩ := hw
    refine qe_M_work C S hi d_M_edit_22 ?_
    refine lv_iload_n hx hb d_M_edit_23 rfl (lv_at hl 1 rfl) ?_
    refine lv_icmp_ne (tgt := 30) hx hb d_M_edit_24 rfl (fun hc => ?_) (fun hc => ?_)
    · replace hw := hw.1 hc
      refine lv_aload_n hx hb d_M_edit_30 rfl (lv_at hl 0 rfl) ?_
      refine lv_aload_n hx hb d_M_edit_31 rfl (lv_at hl 0 rfl) ?_
      refine qa_calli (qa_runV (As := []) (rest := [.ref (a 0)]) C S (qc_M_here l dC dI a k _ _ hw H.size) (cwV 0 C.2.2.2.2.1 qo_M_107_M_here rfl rfl rfl qd_M_here ⟨Nat.le_of_ble_eq_true rfl, Nat.le_of_ble_eq_true rfl⟩) (va_recv (q0 := 0) (ci := 4) S.2.2.1 S.1 rfl rfl) rfl hl.1 rfl (Nat.le_of_ble_eq_true rfl) d_M_edit_32) S (fun r8 x7 H locs hw S => ?_)
      refine qa_callv (qa_runV (As := [.int r8]) (rest := []) C S (qc_M_begin l dC dI a k _ _ _ hw H.size) (cwV 1 C.2.2.2.2.1 qo_M_116_M_begin rfl rfl rfl qd_M_begin ⟨Nat.le_of_ble_eq_true rfl, Nat.le_of_ble_eq_true rfl⟩) (va_recv (q0 := 0) (ci := 4) S.2.2.1 S.1 rfl rfl) rfl hl.1 rfl (Nat.le_of_ble_eq_true rfl) d_M_edit_35) S (fun x9 H locs hw S => ?_)
      refine lv_aload_n hx hb d_M_edit_38 rfl (lv_at hl 0 rfl) ?_
      refine lv_iload_n hx hb d_M_edit_39 rfl (lv_at hl 1 rfl) ?_
      refine qp_M_M_nowWork C S qh_437 d_M_edit_40 (fun x10 H locs ex10 S => ?_)
      replace hw := hw x10 ex10
      refine lv_aload_n hx hb d_M_edit_43 rfl (lv_at hl 0 rfl) ?_
      refine qa_calli (qa_runV (As := []) (rest := []) C S (qc_M_done l dC dI a k _ _ hw H.size) (cwV 0 C.2.2.2.2.1 qo_M_123_M_done rfl rfl rfl qd_M_done ⟨Nat.le_of_ble_eq_true rfl, Nat.le_of_ble_eq_true rfl⟩) (va_recv (q0 := 0) (ci := 4) S.2.2.1 S.1 rfl rfl) rfl hl.1 rfl (Nat.le_of_ble_eq_true rfl) d_M_edit_44) S (fun r12 x11 H locs hw S => ?_)
      exact qa_reti C S hw d_M_edit_47
    replace hw := hw.2 hc
    refine lv_bipush (v := -2) hx hb d_M_edit_27 (by decide) ?_
    exact qa_reti C S hw d_M_edit_29
  replace hw := hw.2 hc
  refine lv_iconst (v := -1) hx hb d_M_edit_12 (by decide) ?_
  exact qa_reti C S hw d_M_edit_13
