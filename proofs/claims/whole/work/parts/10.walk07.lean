set_option maxHeartbeats 4000000 in
set_option maxRecDepth 100000 in
theorem qk_M_finish_H102 {p : Program} {l : Launch} {e : Env} {s : State} {m : MethodId} {args : Array Value} {below : List Frame} {meth : Method} {c : Code} {A : Nat → Prop} {dC : Nat → ClassId} {dI : Nat → Nat → Nat} {a : Nat → Nat} {k : Nat → ClassId} (C : qa_X p s m args meth c b_M_finish 5 (some .int) R_M)  (post : Int32 → QX → Prop)  : ∀ (n : Nat), ∀ (v1 : Int32) (v2 : Int32) (v3 : Int32) (v4 : Int32) (x : QX) (H : Heap) (locs : List Loc) (ls : Array Slot), qw_M_finish_H102  post n v1 v2 v3 v4 x → qa_S (dC, dI) classes (qM_t k) (qM_w a k) A s x H locs → lv_has ls 5 [(0, .ref (a 0)), (1, .int v1), (2, .int v2), (3, .int v3), (4, .int v4)] → W p l e qr_M_finish s m args below meth c H locs 0 0 (MQ below (va_Qi post (qa_B (dC, dI) classes (qM_t k) (qM_w a k) A) A) args s 0 0 A) (F0 m 102 ls []) := by
  have hx := C.1
  have hb := C.2.1
  intro n
  induction n with
  | zero => intro v1 v2 v3 v4 x H locs ls hw S hl; exact False.elim hw
  | succ n ih =>
    intro v1 v2 v3 v4 x H locs ls hw S hl
    replace hw : qw_M_finish_S102  post (qw_M_finish_H102  post n) v1 v2 v3 v4 x := hw
    unfold qw_M_finish_S102 at hw
    refine lv_iload hx hb d_M_finish_102 (lv_at hl 4 rfl) ?_
    refine lv_iconst (v := 3) hx hb d_M_finish_104 (by decide) ?_
    refine lv_icmp_ge (tgt := 132) hx hb d_M_finish_105 rfl (fun hc => ?_) (fun hc => ?_)
    · replace hw := hw.1 hc
      refine lv_aload_n hx hb d_M_finish_132 rfl (lv_at hl 0 rfl) ?_
      refine qf_M_M_work C S qh_430 d_M_finish_133 ?_
      refine lv_iload_n hx hb d_M_finish_136 rfl (lv_at hl 3 rfl) ?_
      refine lv_aload_n hx hb d_M_finish_137 rfl (lv_at hl 0 rfl) ?_
      refine qf_M_M_nowWork C S qh_437 d_M_finish_138 ?_
      obtain ⟨hi, hw⟩ := hw
      refine qt_M_work C S hi d_M_finish_141 (fun x7 H locs ex7 S => ?_)
      replace hw := hw x7 ex7
      refine lv_iload_n hx hb d_M_finish_142 rfl (lv_at hl 3 rfl) ?_
      exact qa_reti C S hw d_M_finish_143
    replace hw := hw.2 hc
    refine lv_aload_n hx hb d_M_finish_108 rfl (lv_at hl 0 rfl) ?_
    refine qf_M_M_marks C S qh_429 d_M_finish_109 ?_
    refine lv_iconst (v := 3) hx hb d_M_finish_112 (by decide) ?_
    refine lv_iload_n hx hb d_M_finish_113 rfl (lv_at hl 3 rfl) ?_
    refine lv_imul hx hb d_M_finish_114 ?_
    refine lv_iload hx hb d_M_finish_115 (lv_at hl 4 rfl) ?_
    refine lv_iadd hx hb d_M_finish_117 ?_
    refine lv_aload_n hx hb d_M_finish_118 rfl (lv_at hl 0 rfl) ?_
    refine qf_M_M_nowMark C S qh_436 d_M_finish_119 ?_
    refine lv_iload hx hb d_M_finish_122 (lv_at hl 4 rfl) ?_
    obtain ⟨hi, hw⟩ := hw
    refine qe_M_nowMark C S hi d_M_finish_124 ?_
    obtain ⟨hi, hw⟩ := hw
    refine qt_M_marks C S hi d_M_finish_125 (fun x8 H locs ex8 S => ?_)
    replace hw := hw x8 ex8
    refine lv_iinc (k := 4) (v := v4 + 1) (lv' := [(4, .int (v4 + 1)), (0, .ref (a 0)), (1, .int v1), (2, .int v2), (3, .int v3)]) hx hb d_M_finish_126 hl rfl rfl (by decide) rfl (fun ls hl => ?_)
    refine lv_goto (tgt := 102) hx hb d_M_finish_129 rfl ?_
    exact ih _ _ _ _ _ _ _ _ hw S (lv_sub hl [1, 2, 3, 4, 0] rfl)
set_option maxHeartbeats 4000000 in
set_option maxRecDepth 100000 in
theorem qk_M_finish_H67 {p : Program} {l : Launch} {e : Env} {s : State} {m : MethodId} {args : Array Value} {below : List Frame} {meth : Method} {c : Code} {A : Nat → Prop} {dC : Nat → ClassId} {dI : Nat → Nat → Nat} {a : Nat → Nat} {k : Nat → ClassId} (C : qa_X p s m args meth c b_M_finish 5 (some .int) R_M)  (post : Int32 → QX → Prop)  : ∀ (n : Nat), ∀ (v1 : Int32) (v2 : Int32) (v3 : Int32) (v4 : Int32) (x : QX) (H : Heap) (locs : List Loc) (ls : Array Slot), qw_M_finish_H67  post n v1 v2 v3 v4 x → qa_S (dC, dI) classes (qM_t k) (qM_w a k) A s x H locs → lv_has ls 5 [(0, .ref (a 0)), (1, .int v1), (2, .int v2), (3, .int v3), (4, .int v4)] → W p l e qr_M_finish s m args below meth c H locs 0 0 (MQ below (va_Qi post (qa_B (dC, dI) classes (qM_t k) (qM_w a k) A) A) args s 0 0 A) (F0 m 67 ls []) := by
  have hx := C.1
  have hb := C.2.1
  intro n
  induction n with
  | zero => intro v1 v2 v3 v4 x H locs ls hw S hl; exact False.elim hw
  | succ n ih =>
    intro v1 v2 v3 v4 x H locs ls hw S hl
    replace hw : qw_M_finish_S67  post (qw_M_finish_H67  post n) v1 v2 v3 v4 x := hw
    unfold qw_M_finish_S67 at hw
    refine lv_iload hx hb d_M_finish_67 (lv_at hl 4 rfl) ?_
    refine lv_bipush (v := 60) hx hb d_M_finish_69 (by decide) ?_
    refine lv_icmp_ge (tgt := 99) hx hb d_M_finish_71 rfl (fun hc => ?_) (fun hc => ?_)
    · replace hw := hw.1 hc
      refine lv_iconst (v := 0) hx hb d_M_finish_99 (by decide) ?_
      refine lv_istore (lv' := [(4, .int (0 : Int32)), (0, .ref (a 0)), (1, .int v1), (2, .int v2), (3, .int v3)]) hx hb d_M_finish_100 hl (by decide) rfl (fun ls hl => ?_)
      exact qk_M_finish_H102 C post qFU _ _ _ _ _ _ _ _ hw S (lv_sub hl [1, 2, 3, 4, 0] rfl)
    replace hw := hw.2 hc
    refine lv_aload_n hx hb d_M_finish_74 rfl (lv_at hl 0 rfl) ?_
    refine qf_M_M_seen C S qh_428 d_M_finish_75 ?_
    refine lv_bipush (v := 60) hx hb d_M_finish_78 (by decide) ?_
    refine lv_iload_n hx hb d_M_finish_80 rfl (lv_at hl 3 rfl) ?_
    refine lv_imul hx hb d_M_finish_81 ?_
    refine lv_iload hx hb d_M_finish_82 (lv_at hl 4 rfl) ?_
    refine lv_iadd hx hb d_M_finish_84 ?_
    refine lv_aload_n hx hb d_M_finish_85 rfl (lv_at hl 0 rfl) ?_
    refine qf_M_M_now C S qh_435 d_M_finish_86 ?_
    refine lv_iload hx hb d_M_finish_89 (lv_at hl 4 rfl) ?_
    obtain ⟨hi, hw⟩ := hw
    refine qe_M_now C S hi d_M_finish_91 ?_
    obtain ⟨hi, hw⟩ := hw
    refine qt_M_seen C S hi d_M_finish_92 (fun x9 H locs ex9 S => ?_)
    replace hw := hw x9 ex9
    refine lv_iinc (k := 4) (v := v4 + 1) (lv' := [(4, .int (v4 + 1)), (0, .ref (a 0)), (1, .int v1), (2, .int v2), (3, .int v3)]) hx hb d_M_finish_93 hl rfl rfl (by decide) rfl (fun ls hl => ?_)
    refine lv_goto (tgt := 67) hx hb d_M_finish_96 rfl ?_
    exact ih _ _ _ _ _ _ _ _ hw S (lv_sub hl [1, 2, 3, 4, 0] rfl)
set_option maxHeartbeats 4000000 in
set_option maxRecDepth 100000 in
theorem qc_M_finish (l : Launch) (dC : Nat → ClassId) (dI : Nat → Nat → Nat) (a : Nat → Nat) (k : Nat → ClassId) (p1 : Int32) (p2 : Int32) (x : QX) (post : Int32 → QX → Prop) (hw : qw_M_finish p1 p2 x post) : qa_Ci l y_M_finish qv_M_finish qr_M_finish (dC, dI) classes (qM_t k) (qM_w a k) [.ref (a 0), .int p1, .int p2] x post := by
  refine qa_ofWi (by decide) (Nat.le_of_ble_eq_true rfl) ?_
  intro p e s m args below meth c A H locs ls C S hl
  replace hl : lv_has ls 5 [(0, .ref (a 0)), (1, .int p1), (2, .int p2)] := hl
  have hx := C.1
  have hb := C.2.1
  unfold qw_M_finish at hw
  refine lv_aload_n hx hb d_M_finish_0 rfl (lv_at hl 0 rfl) ?_
  refine qf_M_M_full C S qh_441 d_M_finish_1 ?_
  refine lv_if_ne (tgt := 16) hx hb d_M_finish_4 rfl (fun hc => ?_) (fun hc => ?_)
  · replace hw := hw.1 hc
    refine lv_aload_n hx hb d_M_finish_16 rfl (lv_at hl 0 rfl) ?_
    refine lv_aload_n hx hb d_M_finish_17 rfl (lv_at hl 0 rfl) ?_
    refine qf_M_M_oldCommits C S qh_439 d_M_finish_18 ?_
    refine qp_M_M_commits C S qh_419 d_M_finish_21 (fun x1 H locs ex1 S => ?_)
    replace hw := hw x1 ex1
    refine lv_aload_n hx hb d_M_finish_24 rfl (lv_at hl 0 rfl) ?_
    refine lv_aload_n hx hb d_M_finish_25 rfl (lv_at hl 0 rfl) ?_
    refine qf_M_M_oldChanges C S qh_440 d_M_finish_26 ?_
    refine qp_M_M_changes C S qh_420 d_M_finish_29 (fun x2 H locs ex2 S => ?_)
    replace hw := hw x2 ex2
    refine lv_bipush (v := -3) hx hb d_M_finish_32 (by decide) ?_
    exact qa_reti C S hw d_M_finish_34
  replace hw := hw.2 hc
  refine lv_aload_n hx hb d_M_finish_7 rfl (lv_at hl 0 rfl) ?_
  refine qf_M_M_operations C S qh_424 d_M_finish_8 ?_
  refine lv_bipush (v := 100) hx hb d_M_finish_11 (by decide) ?_
  refine lv_icmp_ne (tgt := 35) hx hb d_M_finish_13 rfl (fun hc => ?_) (fun hc => ?_)
  · replace hw := hw.1 hc
    refine lv_aload_n hx hb d_M_finish_35 rfl (lv_at hl 0 rfl) ?_
    refine qf_M_M_operations C S qh_424 d_M_finish_36 ?_
    refine lv_topi (fun t3 et3 => ?_)
    replace hw := hw t3 et3
    refine lv_istore_n (lv' := [(3, .int t3), (0, .ref (a 0)), (1, .int p1), (2, .int p2)]) hx hb d_M_finish_39 rfl hl (by decide) rfl (fun ls hl => ?_)
    refine lv_aload_n hx hb d_M_finish_40 rfl (lv_at hl 1 rfl) ?_
    refine lv_dup hx hb d_M_finish_41 rfl ?_
    refine qf_M_M_operations C S qh_424 d_M_finish_42 ?_
    refine lv_iconst (v := 1) hx hb d_M_finish_45 (by decide) ?_
    refine lv_iadd hx hb d_M_finish_46 ?_
    refine qp_M_M_operations C S qh_424 d_M_finish_47 (fun x4 H locs ex4 S => ?_)
    replace hw := hw x4 ex4
    refine lv_aload_n hx hb d_M_finish_50 rfl (lv_at hl 1 rfl) ?_
    refine qf_M_M_first C S qh_425 d_M_finish_51 ?_
    refine lv_iload_n hx hb d_M_finish_54 rfl (lv_at hl 0 rfl) ?_
    refine lv_iload_n hx hb d_M_finish_55 rfl (lv_at hl 2 rfl) ?_
    obtain ⟨hi, hw⟩ := hw
    refine qt_M_first C S hi d_M_finish_56 (fun x5 H locs ex5 S => ?_)
    replace hw := hw x5 ex5
    refine lv_aload_n hx hb d_M_finish_57 rfl (lv_at hl 1 rfl) ?_
    refine qf_M_M_second C S qh_426 d_M_finish_58 ?_
    refine lv_iload_n hx hb d_M_finish_61 rfl (lv_at hl 0 rfl) ?_
    refine lv_iload_n hx hb d_M_finish_62 rfl (lv_at hl 3 rfl) ?_
    obtain ⟨hi, hw⟩ := hw
    refine qt_M_second C S hi d_M_finish_63 (fun x6 H locs ex6 S => ?_)
    replace hw := hw x6 ex6
    refine lv_iconst (v := 0) hx hb d_M_finish_64 (by decide) ?_
    refine lv_istore (lv' := [(4, .int (0 : Int32)), (3, .int t3), (0, .ref (a 0)), (1, .int p1), (2, .int p2)]) hx hb d_M_finish_65 hl (by decide) rfl (fun ls hl => ?_)
    exact qk_M_finish_H67 C post qFU _ _ _ _ _ _ _ _ hw S (lv_sub hl [2, 3, 4, 1, 0] rfl)
  replace hw := hw.2 hc
  refine lv_aload_n hx hb d_M_finish_16 rfl (lv_at hl 0 rfl) ?_
  refine lv_aload_n hx hb d_M_finish_17 rfl (lv_at hl 0 rfl) ?_
  refine qf_M_M_oldCommits C S qh_439 d_M_finish_18 ?_
  refine qp_M_M_commits C S qh_419 d_M_finish_21 (fun x10 H locs ex10 S => ?_)
  replace hw := hw x10 ex10
  refine lv_aload_n hx hb d_M_finish_24 rfl (lv_at hl 0 rfl) ?_
  refine lv_aload_n hx hb d_M_finish_25 rfl (lv_at hl 0 rfl) ?_
  refine qf_M_M_oldChanges C S qh_440 d_M_finish_26 ?_
  refine qp_M_M_changes C S qh_420 d_M_finish_29 (fun x11 H locs ex11 S => ?_)
  replace hw := hw x11 ex11
  refine lv_bipush (v := -3) hx hb d_M_finish_32 (by decide) ?_
  exact qa_reti C S hw d_M_finish_34
set_option maxHeartbeats 4000000 in
set_option maxRecDepth 100000 in
theorem qc_M_done (l : Launch) (dC : Nat → ClassId) (dI : Nat → Nat → Nat) (a : Nat → Nat) (k : Nat → ClassId)  (x : QX) (post : Int32 → QX → Prop) (hw : qw_M_done  x post) : qa_Ci l y_M_done qv_M_done qr_M_done (dC, dI) classes (qM_t k) (qM_w a k) [.ref (a 0)] x post := by
  refine qa_ofWi (by decide) (Nat.le_of_ble_eq_true rfl) ?_
  intro p e s m args below meth c A H locs ls C S hl
  replace hl : lv_has ls 2 [(0, .ref (a 0))] := hl
  have hx := C.1
  have hb := C.2.1
  unfold qw_M_done at hw
  refine lv_aload_n hx hb d_M_done_0 rfl (lv_at hl 0 rfl) ?_
  refine lv_aload_n hx hb d_M_done_1 rfl (lv_at hl 0 rfl) ?_
  refine qa_calli (qa_runV (As := []) (rest := [.ref (a 0)]) C S (qc_M_here l dC dI a k _ _ hw H.size) (cwV 0 C.2.2.2.2.1 qo_M_107_M_here rfl rfl rfl qd_M_here ⟨Nat.le_of_ble_eq_true rfl, Nat.le_of_ble_eq_true rfl⟩) (va_recv (q0 := 0) (ci := 4) S.2.2.1 S.1 rfl rfl) rfl hl.1 rfl (Nat.le_of_ble_eq_true rfl) d_M_done_2) S (fun r2 x1 H locs hw S => ?_)
  refine lv_iconst (v := -1) hx hb d_M_done_5 (by decide) ?_
  refine qa_calli (qa_runV (As := [.int r2, .int (-1 : Int32)]) (rest := []) C S (qc_M_finish l dC dI a k _ _ _ _ hw H.size) (cwV 2 C.2.2.2.2.1 qo_M_110_M_finish rfl rfl rfl qd_M_finish ⟨Nat.le_of_ble_eq_true rfl, Nat.le_of_ble_eq_true rfl⟩) (va_recv (q0 := 0) (ci := 4) S.2.2.1 S.1 rfl rfl) rfl hl.1 rfl (Nat.le_of_ble_eq_true rfl) d_M_done_6) S (fun r4 x3 H locs hw S => ?_)
  refine lv_istore_n (lv' := [(1, .int r4), (0, .ref (a 0))]) hx hb d_M_done_9 rfl hl (by decide) rfl (fun ls hl => ?_)
  refine lv_aload_n hx hb d_M_done_10 rfl (lv_at hl 1 rfl) ?_
  refine qf_M_M_current C S qh_431 d_M_done_11 ?_
  refine lv_aload_n hx hb d_M_done_14 rfl (lv_at hl 1 rfl) ?_
  refine qf_M_M_chosen C S qh_434 d_M_done_15 ?_
  refine lv_iload_n hx hb d_M_done_18 rfl (lv_at hl 0 rfl) ?_
  refine lv_if_lt (tgt := 26) hx hb d_M_done_19 rfl (fun hc => ?_) (fun hc => ?_)
  · replace hw := hw.1 hc
    refine lv_aload_n hx hb d_M_done_26 rfl (lv_at hl 1 rfl) ?_
    refine qa_calli (qa_runV (As := []) (rest := [.int (gI x3 5), .ref (a 10)]) C S (qc_M_here l dC dI a k _ _ hw H.size) (cwV 0 C.2.2.2.2.1 qo_M_107_M_here rfl rfl rfl qd_M_here ⟨Nat.le_of_ble_eq_true rfl, Nat.le_of_ble_eq_true rfl⟩) (va_recv (q0 := 0) (ci := 4) S.2.2.1 S.1 rfl rfl) rfl hl.1 rfl (Nat.le_of_ble_eq_true rfl) d_M_done_27) S (fun r6 x5 H locs hw S => ?_)
    obtain ⟨hi, hw⟩ := hw
    refine qt_M_current C S hi d_M_done_30 (fun x7 H locs ex7 S => ?_)
    replace hw := hw x7 ex7
    refine lv_iload_n hx hb d_M_done_31 rfl (lv_at hl 0 rfl) ?_
    exact qa_reti C S hw d_M_done_32
  replace hw := hw.2 hc
  refine lv_iload_n hx hb d_M_done_22 rfl (lv_at hl 0 rfl) ?_
  refine lv_goto (tgt := 30) hx hb d_M_done_23 rfl ?_
  obtain ⟨hi, hw⟩ := hw
  refine qt_M_current C S hi d_M_done_30 (fun x8 H locs ex8 S => ?_)
  replace hw := hw x8 ex8
  refine lv_iload_n hx hb d_M_done_31 rfl (lv_at hl 0 rfl) ?_
  exact qa_reti C S hw d_M_done_32
set_option maxHeartbeats 4000000 in
set_option maxRecDepth 100000 in
theorem qc_M_create (l : Launch) (dC : Nat → ClassId) (dI : Nat → Nat → Nat) (a : Nat → Nat) (k : Nat → ClassId) (p1 : Int32) (x : QX) (post : Int32 → QX → Prop) (hw : qw_M_create p1 x post) : qa_Ci l y_M_create qv_M_create qr_M_create (dC, dI) classes (qM_t k) (qM_w a k) [.ref (a 0), .int p1] x post := by
  refine qa_ofWi (by decide) (Nat.le_of_ble_eq_true rfl) ?_
  intro p e s m args below meth c A H locs ls C S hl
  replace hl : lv_has ls 3 [(0, .ref (a 0)), (1, .int p1)] := hl
  have hx := C.1
  have hb := C.2.1
  unfold qw_M_create at hw
  refine lv_aload_n hx hb d_M_create_0 rfl (lv_at hl 0 rfl) ?_
  refine lv_aload_n hx hb d_M_create_1 rfl (lv_at hl 0 rfl) ?_
  refine qa_calli (qa_runV (As := []) (rest := [.ref (a 0)]) C S (qc_M_here l dC dI a k _ _ hw H.size) (cwV 0 C.2.2.2.2.1 qo_M_107_M_here rfl rfl rfl qd_M_here ⟨Nat.le_of_ble_eq_true rfl, Nat.le_of_ble_eq_true rfl⟩) (va_recv (q0 := 0) (ci := 4) S.2.2.1 S.1 rfl rfl) rfl hl.1 rfl (Nat.le_of_ble_eq_true rfl) d_M_create_2) S (fun r2 x1 H locs hw S => ?_)
  refine lv_iload_n hx hb d_M_create_5 rfl (lv_at hl 1 rfl) ?_
  refine qa_calli (qa_runV (As := [.int r2, .int p1]) (rest := []) C S (qc_M_isVisible l dC dI a k _ _ _ _ hw H.size) (cwV 2 C.2.2.2.2.1 qo_M_113_M_isVisible rfl rfl rfl qd_M_isVisible ⟨Nat.le_of_ble_eq_true rfl, Nat.le_of_ble_eq_true rfl⟩) (va_recv (q0 := 0) (ci := 4) S.2.2.1 S.1 rfl rfl) rfl hl.1 rfl (Nat.le_of_ble_eq_true rfl) d_M_create_6) S (fun r4 x3 H locs hw S => ?_)
  refine lv_if_ne (tgt := 14) hx hb d_M_create_9 rfl (fun hc => ?_) (fun hc => ?_)
  · replace hw := hw.1 hc
    refine lv_aload_n hx hb d_M_create_14 rfl (lv_at hl 0 rfl) ?_
    refine lv_aload_n hx hb d_M_create_15 rfl (lv_at hl 0 rfl) ?_
    refine qa_calli (qa_runV (As := []) (rest := [.ref (a 0)]) C S (qc_M_here l dC dI a k _ _ hw H.size) (cwV 0 C.2.2.2.2.1 qo_M_107_M_here rfl rfl rfl qd_M_here ⟨Nat.le_of_ble_eq_true rfl, Nat.le_of_ble_eq_true rfl⟩) (va_recv (q0 := 0) (ci := 4) S.2.2.1 S.1 rfl rfl) rfl hl.1 rfl (Nat.le_of_ble_eq_true rfl) d_M_create_16) S (fun r6 x5 H locs hw S => ?_)
    refine qa_callv (qa_runV (As := [.int r6]) (rest := []) C S (qc_M_begin l dC dI a k _ _ _ hw H.size) (cwV 1 C.2.2.2.2.1 qo_M_116_M_begin rfl rfl rfl qd_M_begin ⟨Nat.le_of_ble_eq_true rfl, Nat.le_of_ble_eq_true rfl⟩) (va_recv (q0 := 0) (ci := 4) S.2.2.1 S.1 rfl rfl) rfl hl.1 rfl (Nat.le_of_ble_eq_true rfl) d_M_create_19) S (fun x7 H locs hw S => ?_)
    refine lv_aload_n hx hb d_M_create_22 rfl (lv_at hl 0 rfl) ?_
    refine lv_aload_n hx hb d_M_create_23 rfl (lv_at hl 0 rfl) ?_
    refine qf_M_M_changes C S qh_420 d_M_create_24 ?_
    refine lv_iconst (v := 1) hx hb d_M_create_27 (by decide) ?_
    refine lv_iadd hx hb d_M_create_28 ?_
    refine lv_iload_n hx hb d_M_create_29 rfl (lv_at hl 1 rfl) ?_
    refine qa_calli (qa_runV (As := [.int ((gI x7 1) + (1 : Int32)), .int p1]) (rest := []) C S (qc_M_fresh l dC dI a k _ _ _ _ hw H.size) (cwV 2 C.2.2.2.2.1 qo_M_96_M_fresh rfl rfl rfl qd_M_fresh ⟨Nat.le_of_ble_eq_true rfl, Nat.le_of_ble_eq_true rfl⟩) (va_recv (q0 := 0) (ci := 4) S.2.2.1 S.1 rfl rfl) rfl hl.1 rfl (Nat.le_of_ble_eq_true rfl) d_M_create_30) S (fun r9 x8 H locs hw S => ?_)
    refine lv_istore_n (lv' := [(2, .int r9), (0, .ref (a 0)), (1, .int p1)]) hx hb d_M_create_33 rfl hl (by decide) rfl (fun ls hl => ?_)
    refine lv_iload_n hx hb d_M_create_34 rfl (lv_at hl 0 rfl) ?_
    refine lv_if_lt (tgt := 66) hx hb d_M_create_35 rfl (fun hc => ?_) (fun hc => ?_)
    · replace hw := hw.1 hc
      refine lv_aload_n hx hb d_M_create_66 rfl (lv_at hl 1 rfl) ?_
      refine qa_calli (qa_runV (As := []) (rest := []) C S (qc_M_done l dC dI a k _ _ hw H.size) (cwV 0 C.2.2.2.2.1 qo_M_123_M_done rfl rfl rfl qd_M_done ⟨Nat.le_of_ble_eq_true rfl, Nat.le_of_ble_eq_true rfl⟩) (va_recv (q0 := 0) (ci := 4) S.2.2.1 S.1 rfl rfl) rfl hl.1 rfl (Nat.le_of_ble_eq_true rfl) d_M_create_67) S (fun r11 x10 H locs hw S => ?_)
      exact qa_reti C S hw d_M_create_70
    replace hw := hw.2 hc
    refine lv_aload_n hx hb d_M_create_38 rfl (lv_at hl 1 rfl) ?_
    refine lv_dup hx hb d_M_create_39 rfl ?_
    refine qf_M_M_changes C S qh_420 d_M_create_40 ?_
    refine lv_iconst (v := 1) hx hb d_M_create_43 (by decide) ?_
    refine lv_iadd hx hb d_M_create_44 ?_
    refine qp_M_M_changes C S qh_420 d_M_create_45 (fun x12 H locs ex12 S => ?_)
    replace hw := hw x12 ex12
    refine lv_aload_n hx hb d_M_create_48 rfl (lv_at hl 1 rfl) ?_
    refine lv_iload_n hx hb d_M_create_49 rfl (lv_at hl 0 rfl) ?_
    refine lv_iload_n hx hb d_M_create_50 rfl (lv_at hl 2 rfl) ?_
    refine qa_callv (qa_runV (As := [.int r9, .int p1]) (rest := []) C S (qc_M_copyContents l dC dI a k _ _ _ _ hw H.size) (cwV 2 C.2.2.2.2.1 qo_M_120_M_copyContents rfl rfl rfl qd_M_copyContents ⟨Nat.le_of_ble_eq_true rfl, Nat.le_of_ble_eq_true rfl⟩) (va_recv (q0 := 0) (ci := 4) S.2.2.1 S.1 rfl rfl) rfl hl.1 rfl (Nat.le_of_ble_eq_true rfl) d_M_create_51) S (fun x13 H locs hw S => ?_)
    refine lv_aload_n hx hb d_M_create_54 rfl (lv_at hl 1 rfl) ?_
    refine qf_M_M_now C S qh_435 d_M_create_55 ?_
    refine lv_iload_n hx hb d_M_create_58 rfl (lv_at hl 0 rfl) ?_
    refine lv_iconst (v := 1) hx hb d_M_create_59 (by decide) ?_
    obtain ⟨hi, hw⟩ := hw
    refine qt_M_now C S hi d_M_create_60 (fun x14 H locs ex14 S => ?_)
    replace hw := hw x14 ex14
    refine lv_aload_n hx hb d_M_create_61 rfl (lv_at hl 1 rfl) ?_
    refine lv_iload_n hx hb d_M_create_62 rfl (lv_at hl 0 rfl) ?_
    refine qp_M_M_nowWork C S qh_437 d_M_create_63 (fun x15 H locs ex15 S => ?_)
    replace hw := hw x15 ex15
    refine lv_aload_n hx hb d_M_create_66 rfl (lv_at hl 1 rfl) ?_
    refine qa_calli (qa_runV (As := []) (rest := []) C S (qc_M_done l dC dI a k _ _ hw H.size) (cwV 0 C.2.2.2.2.1 qo_M_123_M_done rfl rfl rfl qd_M_done ⟨Nat.le_of_ble_eq_true rfl, Nat.le_of_ble_eq_true rfl⟩) (va_recv (q0 := 0) (ci := 4) S.2.2.1 S.1 rfl rfl) rfl hl.1 rfl (Nat.le_of_ble_eq_true rfl) d_M_create_67) S (fun r17 x16 H locs hw S => ?_)
    exact qa_reti C S hw d_M_create_70
  replace hw := hw.2 hc
  refine lv_iconst (v := -1) hx hb d_M_create_12 (by decide) ?_
  exact qa_reti C S hw d_M_create_13
set_option maxHeartbeats 4000000 in
set_option maxRecDepth 100000 in
theorem qk_M_plain_H6 {p : Program} {l : Launch} {e : Env} {s : State} {m : MethodId} {args : Array Value} {below : List Frame} {meth : Method} {c : Code} {A : Nat → Prop} {dC : Nat → ClassId} {dI : Nat → Nat → Nat} {a : Nat → Nat} {k : Nat → ClassId} (C : qa_X p s m args meth c b_M_plain 6 (some .boolean) R_M)  (post : Int32 → QX → Prop)  : ∀ (n : Nat), ∀ (v1 : Int32) (v2 : Int32) (v3 : Int32) (v4 : Int32) (v5 : Int32) (x : QX) (H : Heap) (locs : List Loc) (ls : Array Slot), qw_M_plain_H6  post n v1 v2 v3 v4 v5 x → qa_S (dC, dI) classes (qM_t k) (qM_w a k) A s x H locs → lv_has ls 6 [(0, .ref (a 0)), (1, .int v1), (2, .int v2), (3, .int v3), (4, .int v4), (5, .int v5)] → W p l e qr_M_plain s m args below meth c H locs 0 0 (MQ below (va_Qi post (qa_B (dC, dI) classes (qM_t k) (qM_w a k) A) A) args s 0 0 A) (F0 m 6 ls []) := by
  have hx := C.1
  have hb := C.2.1
  intro n
  induction n with
  | zero => intro v1 v2 v3 v4 v5 x H locs ls hw S hl; exact False.elim hw
  | succ n ih =>
    intro v1 v2 v3 v4 v5 x H locs ls hw S hl
    replace hw : qw_M_plain_S6  post (qw_M_plain_H6  post n) v1 v2 v3 v4 v5 x := hw
    unfold qw_M_plain_S6 at hw
    refine lv_iload hx hb d_M_plain_6 (lv_at hl 5 rfl) ?_
    refine lv_bipush (v := 8) hx hb d_M_plain_8 (by decide) ?_
    refine lv_icmp_ge (tgt := 64) hx hb d_M_plain_10 rfl (fun hc => ?_) (fun hc => ?_)
    · replace hw := hw.1 hc
      refine lv_iload hx hb d_M_plain_64 (lv_at hl 4 rfl) ?_
      exact qa_retz C S hw d_M_plain_66
    replace hw := hw.2 hc
    refine lv_iload hx hb d_M_plain_13 (lv_at hl 4 rfl) ?_
    refine lv_if_eq (tgt := 55) hx hb d_M_plain_15 rfl (fun hc => ?_) (fun hc => ?_)
    · replace hw := hw.1 hc
      refine lv_iconst (v := 0) hx hb d_M_plain_55 (by decide) ?_
      refine lv_istore (lv' := [(4, .int (0 : Int32)), (0, .ref (a 0)), (1, .int v1), (2, .int v2), (3, .int v3), (5, .int v5)]) hx hb d_M_plain_56 hl (by decide) rfl (fun ls hl => ?_)
      refine lv_iinc (k := 5) (v := v5 + 1) (lv' := [(5, .int (v5 + 1)), (4, .int (0 : Int32)), (0, .ref (a 0)), (1, .int v1), (2, .int v2), (3, .int v3)]) hx hb d_M_plain_58 hl rfl rfl (by decide) rfl (fun ls hl => ?_)
      refine lv_goto (tgt := 6) hx hb d_M_plain_61 rfl ?_
      exact ih _ _ _ _ _ _ _ _ _ hw S (lv_sub hl [2, 3, 4, 5, 1, 0] rfl)
    replace hw := hw.2 hc
    refine lv_aload_n hx hb d_M_plain_18 rfl (lv_at hl 0 rfl) ?_
    refine qf_M_M_counts C S qh_423 d_M_plain_19 ?_
    refine lv_bipush (v := 32) hx hb d_M_plain_22 (by decide) ?_
    refine lv_iload_n hx hb d_M_plain_24 rfl (lv_at hl 1 rfl) ?_
    refine lv_imul hx hb d_M_plain_25 ?_
    refine lv_bipush (v := 8) hx hb d_M_plain_26 (by decide) ?_
    refine lv_iload_n hx hb d_M_plain_28 rfl (lv_at hl 2 rfl) ?_
    refine lv_imul hx hb d_M_plain_29 ?_
    refine lv_iadd hx hb d_M_plain_30 ?_
    refine lv_iload hx hb d_M_plain_31 (lv_at hl 5 rfl) ?_
    refine lv_iadd hx hb d_M_plain_33 ?_
    obtain ⟨hi, hw⟩ := hw
    refine qe_M_counts C S hi d_M_plain_34 ?_
    refine lv_iload hx hb d_M_plain_35 (lv_at hl 5 rfl) ?_
    refine lv_iload_n hx hb d_M_plain_37 rfl (lv_at hl 3 rfl) ?_
    refine lv_icmp_ne (tgt := 45) hx hb d_M_plain_38 rfl (fun hc => ?_) (fun hc => ?_)
    · replace hw := hw.1 hc
      refine lv_iconst (v := 0) hx hb d_M_plain_45 (by decide) ?_
      refine lv_i2l hx hb d_M_plain_46 rfl ?_
      refine W.lcmp hx hb d_M_plain_47 ?_
      refine lv_if_ne (tgt := 55) hx hb d_M_plain_48 rfl (fun hc => ?_) (fun hc => ?_)
      · replace hw := hw.1 hc
        refine lv_iconst (v := 0) hx hb d_M_plain_55 (by decide) ?_
        refine lv_istore (lv' := [(4, .int (0 : Int32)), (0, .ref (a 0)), (1, .int v1), (2, .int v2), (3, .int v3), (5, .int v5)]) hx hb d_M_plain_56 hl (by decide) rfl (fun ls hl => ?_)
        refine lv_iinc (k := 5) (v := v5 + 1) (lv' := [(5, .int (v5 + 1)), (4, .int (0 : Int32)), (0, .ref (a 0)), (1, .int v1), (2, .int v2), (3, .int v3)]) hx hb d_M_plain_58 hl rfl rfl (by decide) rfl (fun ls hl => ?_)
        refine lv_goto (tgt := 6) hx hb d_M_plain_61 rfl ?_
        exact ih _ _ _ _ _ _ _ _ _ hw S (lv_sub hl [2, 3, 4, 5, 1, 0] rfl)
      replace hw := hw.2 hc
      refine lv_iconst (v := 1) hx hb d_M_plain_51 (by decide) ?_
      refine lv_goto (tgt := 56) hx hb d_M_plain_52 rfl ?_
      refine lv_istore (lv' := [(4, .int (1 : Int32)), (0, .ref (a 0)), (1, .int v1), (2, .int v2), (3, .int v3), (5, .int v5)]) hx hb d_M_plain_56 hl (by decide) rfl (fun ls hl => ?_)
      refine lv_iinc (k := 5) (v := v5 + 1) (lv' := [(5, .int (v5 + 1)), (4, .int (1 : Int32)), (0, .ref (a 0)), (1, .int v1), (2, .int v2), (3, .int v3)]) hx hb d_M_plain_58 hl rfl rfl (by decide) rfl (fun ls hl => ?_)
      refine lv_goto (tgt := 6) hx hb d_M_plain_61 rfl ?_
      exact ih _ _ _ _ _ _ _ _ _ hw S (lv_sub hl [2, 3, 4, 5, 1, 0] rfl)
    replace hw := hw.2 hc
    refine lv_iconst (v := 1) hx hb d_M_plain_41 (by decide) ?_
    refine lv_goto (tgt := 46) hx hb d_M_plain_42 rfl ?_
    refine lv_i2l hx hb d_M_plain_46 rfl ?_
    refine W.lcmp hx hb d_M_plain_47 ?_
    refine lv_if_ne (tgt := 55) hx hb d_M_plain_48 rfl (fun hc => ?_) (fun hc => ?_)
    · replace hw := hw.1 hc
      refine lv_iconst (v := 0) hx hb d_M_plain_55 (by decide) ?_
      refine lv_istore (lv' := [(4, .int (0 : Int32)), (0, .ref (a 0)), (1, .int v1), (2, .int v2), (3, .int v3), (5, .int v5)]) hx hb d_M_plain_56 hl (by decide) rfl (fun ls hl => ?_)
      refine lv_iinc (k := 5) (v := v5 + 1) (lv' := [(5, .int (v5 + 1)), (4, .int (0 : Int32)), (0, .ref (a 0)), (1, .int v1), (2, .int v2), (3, .int v3)]) hx hb d_M_plain_58 hl rfl rfl (by decide) rfl (fun ls hl => ?_)
      refine lv_goto (tgt := 6) hx hb d_M_plain_61 rfl ?_
      exact ih _ _ _ _ _ _ _ _ _ hw S (lv_sub hl [2, 3, 4, 5, 1, 0] rfl)
    replace hw := hw.2 hc
    refine lv_iconst (v := 1) hx hb d_M_plain_51 (by decide) ?_
    refine lv_goto (tgt := 56) hx hb d_M_plain_52 rfl ?_
    refine lv_istore (lv' := [(4, .int (1 : Int32)), (0, .ref (a 0)), (1, .int v1), (2, .int v2), (3, .int v3), (5, .int v5)]) hx hb d_M_plain_56 hl (by decide) rfl (fun ls hl => ?_)
    refine lv_iinc (k := 5) (v := v5 + 1) (lv' := [(5, .int (v5 + 1)), (4, .int (1 : Int32)), (0, .ref (a 0)), (1, .int v1), (2, .int v2), (3, .int v3)]) hx hb d_M_plain_58 hl rfl rfl (by decide) rfl (fun ls hl => ?_)
    refine lv_goto (tgt := 6) hx hb d_M_plain_61 rfl ?_
    exact ih _ _ _ _ _ _ _ _ _ hw S (lv_sub hl [2, 3, 4, 5, 1, 0] rfl)
set_option maxHeartbeats 4000000 in
set_option maxRecDepth 100000 in
theorem qc_M_plain (l : Launch) (dC : Nat → ClassId) (dI : Nat → Nat → Nat) (a : Nat → Nat) (k : Nat → ClassId) (p1 : Int32) (p2 : Int32) (p3 : Int32) (x : QX) (post : Int32 → QX → Prop) (hw : qw_M_plain p1 p2 p3 x post) : qa_Ci l y_M_plain qv_M_plain qr_M_plain (dC, dI) classes (qM_t k) (qM_w a k) [.ref (a 0), .int p1, .int p2, .int p3] x post := by
  refine qa_ofWi (by decide) (Nat.le_of_ble_eq_true rfl) ?_
  intro p e s m args below meth c A H locs ls C S hl
  replace hl : lv_has ls 6 [(0, .ref (a 0)), (1, .int p1), (2, .int p2), (3, .int p3)] := hl
  have hx := C.1
  have hb := C.2.1
  unfold qw_M_plain at hw
  refine lv_iconst (v := 1) hx hb d_M_plain_0 (by decide) ?_
  refine lv_istore (lv' := [(4, .int (1 : Int32)), (0, .ref (a 0)), (1, .int p1), (2, .int p2), (3, .int p3)]) hx hb d_M_plain_1 hl (by decide) rfl (fun ls hl => ?_)
  refine lv_iconst (v := 0) hx hb d_M_plain_3 (by decide) ?_
  refine lv_istore (lv' := [(5, .int (0 : Int32)), (4, .int (1 : Int32)), (0, .ref (a 0)), (1, .int p1), (2, .int p2), (3, .int p3)]) hx hb d_M_plain_4 hl (by decide) rfl (fun ls hl => ?_)
  exact qk_M_plain_H6 C post qFU _ _ _ _ _ _ _ _ _ hw S (lv_sub hl [2, 3, 4, 5, 1, 0] rfl)
set_option maxHeartbeats 4000000 in
set_option maxRecDepth 100000 in
theorem qk_M_setPlain_H3 {p : Program} {l : Launch} {e : Env} {s : State} {m : MethodId} {args : Array Value} {below : List Frame} {meth : Method} {c : Code} {A : Nat → Prop} {dC : Nat → ClassId} {dI : Nat → Nat → Nat} {a : Nat → Nat} {k : Nat → ClassId} (C : qa_X p s m args meth c b_M_setPlain 5 none R_M)  (post : QX → Prop)  : ∀ (n : Nat), ∀ (v1 : Int32) (v2 : Int32) (v3 : Int32) (v4 : Int32) (x : QX) (H : Heap) (locs : List Loc) (ls : Array Slot), qw_M_setPlain_H3  post n v1 v2 v3 v4 x → qa_S (dC, dI) classes (qM_t k) (qM_w a k) A s x H locs → lv_has ls 5 [(0, .ref (a 0)), (1, .int v1), (2, .int v2), (3, .int v3), (4, .int v4)] → W p l e qr_M_setPlain s m args below meth c H locs 0 0 (MQ below (va_Qv post (qa_B (dC, dI) classes (qM_t k) (qM_w a k) A) A) args s 0 0 A) (F0 m 3 ls []) := by
  have hx := C.1
  have hb := C.2.1
  intro n
  induction n with
  | zero => intro v1 v2 v3 v4 x H locs ls hw S hl; exact False.elim hw
  | succ n ih =>
    intro v1 v2 v3 v4 x H locs ls hw S hl
    replace hw : qw_M_setPlain_S3  post (qw_M_setPlain_H3  post n) v1 v2 v3 v4 x := hw
    unfold qw_M_setPlain_S3 at hw
    refine lv_iload hx hb d_M_setPlain_3 (lv_at hl 4 rfl) ?_
    refine lv_bipush (v := 8) hx hb d_M_setPlain_5 (by decide) ?_
    refine lv_icmp_ge (tgt := 44) hx hb d_M_setPlain_7 rfl (fun hc => ?_) (fun hc => ?_)
    · replace hw := hw.1 hc
      exact qa_retv C S hw d_M_setPlain_44
    replace hw := hw.2 hc
    refine lv_aload_n hx hb d_M_setPlain_10 rfl (lv_at hl 0 rfl) ?_
    refine qf_M_M_counts C S qh_423 d_M_setPlain_11 ?_
    refine lv_bipush (v := 32) hx hb d_M_setPlain_14 (by decide) ?_
    refine lv_iload_n hx hb d_M_setPlain_16 rfl (lv_at hl 1 rfl) ?_
    refine lv_imul hx hb d_M_setPlain_17 ?_
    refine lv_bipush (v := 8) hx hb d_M_setPlain_18 (by decide) ?_
    refine lv_iload_n hx hb d_M_setPlain_20 rfl (lv_at hl 2 rfl) ?_
    refine lv_imul hx hb d_M_setPlain_21 ?_
    refine lv_iadd hx hb d_M_setPlain_22 ?_
    refine lv_iload hx hb d_M_setPlain_23 (lv_at hl 4 rfl) ?_
    refine lv_iadd hx hb d_M_setPlain_25 ?_
    refine lv_iload hx hb d_M_setPlain_26 (lv_at hl 4 rfl) ?_
    refine lv_iload_n hx hb d_M_setPlain_28 rfl (lv_at hl 3 rfl) ?_
    refine lv_icmp_ne (tgt := 36) hx hb d_M_setPlain_29 rfl (fun hc => ?_) (fun hc => ?_)
    · replace hw := hw.1 hc
      refine lv_lconst (v := 0) hx hb d_M_setPlain_36 (by decide) ?_
      obtain ⟨hi, hw⟩ := hw
      refine qt_M_counts C S hi d_M_setPlain_37 (fun x1 H locs ex1 S => ?_)
      replace hw := hw x1 ex1
      refine lv_iinc (k := 4) (v := v4 + 1) (lv' := [(4, .int (v4 + 1)), (0, .ref (a 0)), (1, .int v1), (2, .int v2), (3, .int v3)]) hx hb d_M_setPlain_38 hl rfl rfl (by decide) rfl (fun ls hl => ?_)
      refine lv_goto (tgt := 3) hx hb d_M_setPlain_41 rfl ?_
      exact ih _ _ _ _ _ _ _ _ hw S (lv_sub hl [1, 2, 3, 4, 0] rfl)
    replace hw := hw.2 hc
    refine lv_lconst (v := 1) hx hb d_M_setPlain_32 (by decide) ?_
    refine lv_goto (tgt := 37) hx hb d_M_setPlain_33 rfl ?_
    obtain ⟨hi, hw⟩ := hw
    refine qt_M_counts C S hi d_M_setPlain_37 (fun x2 H locs ex2 S => ?_)
    replace hw := hw x2 ex2
    refine lv_iinc (k := 4) (v := v4 + 1) (lv' := [(4, .int (v4 + 1)), (0, .ref (a 0)), (1, .int v1), (2, .int v2), (3, .int v3)]) hx hb d_M_setPlain_38 hl rfl rfl (by decide) rfl (fun ls hl => ?_)
    refine lv_goto (tgt := 3) hx hb d_M_setPlain_41 rfl ?_
    exact ih _ _ _ _ _ _ _ _ hw S (lv_sub hl [1, 2, 3, 4, 0] rfl)
set_option maxHeartbeats 4000000 in
set_option maxRecDepth 100000 in
theorem qc_M_setPlain (l : Launch) (dC : Nat → ClassId) (dI : Nat → Nat → Nat) (a : Nat → Nat) (k : Nat → ClassId) (p1 : Int32) (p2 : Int32) (p3 : Int32) (x : QX) (post : QX → Prop) (hw : qw_M_setPlain p1 p2 p3 x post) : qa_Cv l y_M_setPlain qv_M_setPlain qr_M_setPlain (dC, dI) classes (qM_t k) (qM_w a k) [.ref (a 0), .int p1, .int p2, .int p3] x post := by
  refine qa_ofWv (by decide) (Nat.le_of_ble_eq_true rfl) ?_
  intro p e s m args below meth c A H locs ls C S hl
  replace hl : lv_has ls 5 [(0, .ref (a 0)), (1, .int p1), (2, .int p2), (3, .int p3)] := hl
  have hx := C.1
  have hb := C.2.1
  unfold qw_M_setPlain at hw
  refine lv_iconst (v := 0) hx hb d_M_setPlain_0 (by decide) ?_
  refine lv_istore (lv' := [(4, .int (0 : Int32)), (0, .ref (a 0)), (1, .int p1), (2, .int p2), (3, .int p3)]) hx hb d_M_setPlain_1 hl (by decide) rfl (fun ls hl => ?_)
  exact qk_M_setPlain_H3 C post qFU _ _ _ _ _ _ _ _ hw S (lv_sub hl [1, 2, 3, 4, 0] rfl)
set_option maxHeartbeats 4000000 in
set_option maxRecDepth 100000 in
theorem qc_M_replace (l : Launch) (dC : Nat → ClassId) (dI : Nat → Nat → Nat) (a : Nat → Nat) (k : Nat → ClassId) (p1 : Int32) (p2 : Int32) (x : QX) (post : QX → Prop) (hw : qw_M_replace p1 p2 x post) : qa_Cv l y_M_replace qv_M_replace qr_M_replace (dC, dI) classes (qM_t k) (qM_w a k) [.ref (a 0), .int p1, .int p2] x post := by
  refine qa_ofWv (by decide) (Nat.le_of_ble_eq_true rfl) ?_
  intro p e s m args below meth c A H locs ls C S hl
  replace hl : lv_has ls 3 [(0, .ref (a 0)), (1, .int p1), (2, .int p2)] := hl
  have hx := C.1
  have hb := C.2.1
  unfold qw_M_replace at hw
  refine lv_aload_n hx hb d_M_replace_0 rfl (lv_at hl 0 rfl) ?_
  refine qf_M_M_now C S qh_435 d_M_replace_1 ?_
  refine lv_iload_n hx hb d_M_replace_4 rfl (lv_at hl 1 rfl) ?_
  refine lv_iconst (v := 0) hx hb d_M_replace_5 (by decide) ?_
  obtain ⟨hi, hw⟩ := hw
  refine qt_M_now C S hi d_M_replace_6 (fun x1 H locs ex1 S => ?_)
  replace hw := hw x1 ex1
  refine lv_aload_n hx hb d_M_replace_7 rfl (lv_at hl 0 rfl) ?_
  refine qf_M_M_now C S qh_435 d_M_replace_8 ?_
  refine lv_iload_n hx hb d_M_replace_11 rfl (lv_at hl 2 rfl) ?_
  refine lv_iconst (v := 1) hx hb d_M_replace_12 (by decide) ?_
  obtain ⟨hi, hw⟩ := hw
  refine qt_M_now C S hi d_M_replace_13 (fun x2 H locs ex2 S => ?_)
  replace hw := hw x2 ex2
  refine lv_aload_n hx hb d_M_replace_14 rfl (lv_at hl 0 rfl) ?_
  refine qf_M_M_replaced C S qh_438 d_M_replace_15 ?_
  refine lv_iload_n hx hb d_M_replace_18 rfl (lv_at hl 1 rfl) ?_
  refine lv_iload_n hx hb d_M_replace_19 rfl (lv_at hl 2 rfl) ?_
  obtain ⟨hi, hw⟩ := hw
  refine qt_M_replaced C S hi d_M_replace_20 (fun x3 H locs ex3 S => ?_)
  replace hw := hw x3 ex3
  exact qa_retv C S hw d_M_replace_21
