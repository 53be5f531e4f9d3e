set_option maxHeartbeats 4000000 in
set_option maxRecDepth 100000 in
theorem qk_C_addDifference_H9 {p : Program} {l : Launch} {e : Env} {s : State} {m : MethodId} {args : Array Value} {below : List Frame} {meth : Method} {c : Code} {A : Nat → Prop} {dC : Nat → ClassId} {dI : Nat → Nat → Nat} {a : Nat → Nat} {k : Nat → ClassId} (C : qa_X p s m args meth c b_C_addDifference 9 none R_C)  (post : QX → Prop)  : ∀ (n : Nat), ∀ (v1 : Int32) (v2 : Int32) (v3 : Int32) (v4 : Int32) (v5 : Int32) (v6 : Int32) (v7 : Int32) (x : QX) (H : Heap) (locs : List Loc) (ls : Array Slot), qw_C_addDifference_H9  post n v1 v2 v3 v4 v5 v6 v7 x → qa_S (dC, dI) classes (qC_t k) (qC_w a k) A s x H locs → lv_has ls 9 [(0, .ref (a 1)), (1, .int v1), (2, .int v2), (3, .int v3), (4, .int v4), (5, .int v5), (6, .int v6), (7, .int v7)] → W p l e qr_C_addDifference s m args below meth c H locs 0 0 (MQ below (va_Qv post (qa_B (dC, dI) classes (qC_t k) (qC_w a k) A) A) args s 0 0 A) (F0 m 9 ls []) := by
  have hx := C.1
  have hb := C.2.1
  intro n
  induction n with
  | zero => intro v1 v2 v3 v4 v5 v6 v7 x H locs ls hw S hl; exact False.elim hw
  | succ n ih =>
    intro v1 v2 v3 v4 v5 v6 v7 x H locs ls hw S hl
    replace hw : qw_C_addDifference_S9  post (qw_C_addDifference_H9  post n) v1 v2 v3 v4 v5 v6 v7 x := hw
    unfold qw_C_addDifference_S9 at hw
    refine lv_iload hx hb d_C_addDifference_9 (lv_at hl 7 rfl) ?_
    refine lv_bipush (v := 8) hx hb d_C_addDifference_11 (by decide) ?_
    refine lv_icmp_ge (tgt := 113) hx hb d_C_addDifference_13 rfl (fun hc => ?_) (fun hc => ?_)
    · replace hw := hw.1 hc
      refine lv_iload hx hb d_C_addDifference_113 (lv_at hl 5 rfl) ?_
      refine lv_iconst (v := 2) hx hb d_C_addDifference_115 (by decide) ?_
      refine lv_icmp_ne (tgt := 127) hx hb d_C_addDifference_116 rfl (fun hc => ?_) (fun hc => ?_)
      · replace hw := hw.1 hc
        exact qa_retv C S hw d_C_addDifference_127
      replace hw := hw.2 hc
      refine lv_aload_n hx hb d_C_addDifference_119 rfl (lv_at hl 0 rfl) ?_
      refine lv_iload_n hx hb d_C_addDifference_120 rfl (lv_at hl 1 rfl) ?_
      refine lv_iload_n hx hb d_C_addDifference_121 rfl (lv_at hl 2 rfl) ?_
      refine lv_iload hx hb d_C_addDifference_122 (lv_at hl 6 rfl) ?_
      refine qa_callv (qa_runV (As := [.int v1, .int v2, .int v6]) (rest := []) C S (qc_C_makePlain l dC dI a k _ _ _ _ _ hw H.size) (cwV 3 C.2.2.2.2.1 qo_C_80_C_makePlain rfl rfl rfl qd_C_makePlain ⟨Nat.le_of_ble_eq_true rfl, Nat.le_of_ble_eq_true rfl⟩) (va_recv (q0 := 1) (ci := 1) S.2.2.1 S.1 rfl rfl) rfl hl.1 rfl (Nat.le_of_ble_eq_true rfl) d_C_addDifference_124) S (fun x1 H locs hw S => ?_)
      exact qa_retv C S hw d_C_addDifference_127
    replace hw := hw.2 hc
    refine lv_iload_n hx hb d_C_addDifference_16 rfl (lv_at hl 1 rfl) ?_
    refine lv_iload_n hx hb d_C_addDifference_17 rfl (lv_at hl 2 rfl) ?_
    refine qa_calli (qa_runS (As := [.int v1, .int v2]) (rest := []) C S (qc_C_start l dC dI a k _ _ _ _ hw H.size) (cwS 2 C.2.2.2.2.1 qo_C_39_C_start rfl rfl rfl qd_C_start ⟨Nat.le_of_ble_eq_true rfl, Nat.le_of_ble_eq_true rfl⟩) rfl hl.1 rfl (Nat.le_of_ble_eq_true rfl) d_C_addDifference_18) S (fun r3 x2 H locs hw S => ?_)
    refine lv_iload hx hb d_C_addDifference_21 (lv_at hl 7 rfl) ?_
    refine lv_iadd hx hb d_C_addDifference_23 ?_
    refine lv_topi (fun t4 et4 => ?_)
    replace hw := hw t4 et4
    refine lv_istore (lv' := [(8, .int t4), (0, .ref (a 1)), (1, .int v1), (2, .int v2), (3, .int v3), (4, .int v4), (5, .int v5), (6, .int v6), (7, .int v7)]) hx hb d_C_addDifference_24 hl (by decide) rfl (fun ls hl => ?_)
    refine lv_aload_n hx hb d_C_addDifference_26 rfl (lv_at hl 1 rfl) ?_
    refine qf_C_C_counts C S qh_24 d_C_addDifference_27 ?_
    refine lv_iload hx hb d_C_addDifference_30 (lv_at hl 0 rfl) ?_
    refine lv_dup2_11 hx hb d_C_addDifference_32 rfl rfl ?_
    obtain ⟨hi, hw⟩ := hw
    refine qe_C_counts C S hi d_C_addDifference_33 ?_
    refine lv_aload_n hx hb d_C_addDifference_34 rfl (lv_at hl 1 rfl) ?_
    refine qf_C_C_counts C S qh_24 d_C_addDifference_35 ?_
    refine lv_iload_n hx hb d_C_addDifference_38 rfl (lv_at hl 4 rfl) ?_
    refine lv_iload_n hx hb d_C_addDifference_39 rfl (lv_at hl 3 rfl) ?_
    refine qa_calli (qa_runS (As := [.int v3, .int v2]) (rest := [.ref (a 7), .long (gB x2 0 t4.toNatClampNeg), .int t4, .ref (a 7)]) C S (qc_C_start l dC dI a k _ _ _ _ hw H.size) (cwS 2 C.2.2.2.2.1 qo_C_39_C_start rfl rfl rfl qd_C_start ⟨Nat.le_of_ble_eq_true rfl, Nat.le_of_ble_eq_true rfl⟩) rfl hl.1 rfl (Nat.le_of_ble_eq_true rfl) d_C_addDifference_40) S (fun r6 x5 H locs hw S => ?_)
    refine lv_iload hx hb d_C_addDifference_43 (lv_at hl 8 rfl) ?_
    refine lv_iadd hx hb d_C_addDifference_45 ?_
    obtain ⟨hi, hw⟩ := hw
    refine qe_C_counts C S hi d_C_addDifference_46 ?_
    refine lv_aload_n hx hb d_C_addDifference_47 rfl (lv_at hl 1 rfl) ?_
    refine qf_C_C_counts C S qh_24 d_C_addDifference_48 ?_
    refine lv_iload hx hb d_C_addDifference_51 (lv_at hl 5 rfl) ?_
    refine lv_iload_n hx hb d_C_addDifference_53 rfl (lv_at hl 3 rfl) ?_
    refine qa_calli (qa_runS (As := [.int v4, .int v2]) (rest := [.ref (a 7), .long (gB x5 0 (r6 + v7).toNatClampNeg), .long (gB x2 0 t4.toNatClampNeg), .int t4, .ref (a 7)]) C S (qc_C_start l dC dI a k _ _ _ _ hw H.size) (cwS 2 C.2.2.2.2.1 qo_C_39_C_start rfl rfl rfl qd_C_start ⟨Nat.le_of_ble_eq_true rfl, Nat.le_of_ble_eq_true rfl⟩) rfl hl.1 rfl (Nat.le_of_ble_eq_true rfl) d_C_addDifference_54) S (fun r8 x7 H locs hw S => ?_)
    refine lv_iload hx hb d_C_addDifference_57 (lv_at hl 8 rfl) ?_
    refine lv_iadd hx hb d_C_addDifference_59 ?_
    obtain ⟨hi, hw⟩ := hw
    refine qe_C_counts C S hi d_C_addDifference_60 ?_
    refine lv_lsub hx hb d_C_addDifference_61 ?_
    refine lv_ladd hx hb d_C_addDifference_62 ?_
    obtain ⟨hi, hw⟩ := hw
    refine qt_C_counts C S hi d_C_addDifference_63 (fun x9 H locs ex9 S => ?_)
    replace hw := hw x9 ex9
    refine lv_iload hx hb d_C_addDifference_64 (lv_at hl 6 rfl) ?_
    refine lv_aload_n hx hb d_C_addDifference_66 rfl (lv_at hl 1 rfl) ?_
    refine qf_C_C_counts C S qh_24 d_C_addDifference_67 ?_
    refine lv_iload hx hb d_C_addDifference_70 (lv_at hl 0 rfl) ?_
    obtain ⟨hi, hw⟩ := hw
    refine qe_C_counts C S hi d_C_addDifference_72 ?_
    refine lv_lconst (v := 0) hx hb d_C_addDifference_73 (by decide) ?_
    refine W.lcmp hx hb d_C_addDifference_74 ?_
    refine lv_if_eq (tgt := 82) hx hb d_C_addDifference_75 rfl (fun hc => ?_) (fun hc => ?_)
    · replace hw := hw.1 hc
      refine lv_iconst (v := 0) hx hb d_C_addDifference_82 (by decide) ?_
      refine lv_iadd hx hb d_C_addDifference_83 ?_
      refine lv_topi (fun t10 et10 => ?_)
      replace hw := hw t10 et10
      refine lv_istore (lv' := [(5, .int t10), (8, .int t4), (0, .ref (a 1)), (1, .int v1), (2, .int v2), (3, .int v3), (4, .int v4), (6, .int v6), (7, .int v7)]) hx hb d_C_addDifference_84 hl (by decide) rfl (fun ls hl => ?_)
      refine lv_aload_n hx hb d_C_addDifference_86 rfl (lv_at hl 2 rfl) ?_
      refine qf_C_C_counts C S qh_24 d_C_addDifference_87 ?_
      refine lv_iload hx hb d_C_addDifference_90 (lv_at hl 1 rfl) ?_
      obtain ⟨hi, hw⟩ := hw
      refine qe_C_counts C S hi d_C_addDifference_92 ?_
      refine lv_lconst (v := 0) hx hb d_C_addDifference_93 (by decide) ?_
      refine W.lcmp hx hb d_C_addDifference_94 ?_
      refine lv_if_le (tgt := 103) hx hb d_C_addDifference_95 rfl (fun hc => ?_) (fun hc => ?_)
      · replace hw := hw.1 hc
        refine lv_iload hx hb d_C_addDifference_103 (lv_at hl 7 rfl) ?_
        refine lv_istore (lv' := [(6, .int v6), (5, .int t10), (8, .int t4), (0, .ref (a 1)), (1, .int v1), (2, .int v2), (3, .int v3), (4, .int v4), (7, .int v7)]) hx hb d_C_addDifference_105 hl (by decide) rfl (fun ls hl => ?_)
        refine lv_iinc (k := 8) (v := v7 + 1) (lv' := [(7, .int (v7 + 1)), (6, .int v6), (5, .int t10), (8, .int t4), (0, .ref (a 1)), (1, .int v1), (2, .int v2), (3, .int v3), (4, .int v4)]) hx hb d_C_addDifference_107 hl rfl rfl (by decide) rfl (fun ls hl => ?_)
        refine lv_goto (tgt := 9) hx hb d_C_addDifference_110 rfl ?_
        exact ih _ _ _ _ _ _ _ _ _ _ _ hw S (lv_sub hl [4, 5, 6, 7, 8, 2, 1, 0] rfl)
      replace hw := hw.2 hc
      refine lv_iload hx hb d_C_addDifference_98 (lv_at hl 8 rfl) ?_
      refine lv_goto (tgt := 105) hx hb d_C_addDifference_100 rfl ?_
      refine lv_istore (lv' := [(6, .int v7), (5, .int t10), (8, .int t4), (0, .ref (a 1)), (1, .int v1), (2, .int v2), (3, .int v3), (4, .int v4), (7, .int v7)]) hx hb d_C_addDifference_105 hl (by decide) rfl (fun ls hl => ?_)
      refine lv_iinc (k := 8) (v := v7 + 1) (lv' := [(7, .int (v7 + 1)), (6, .int v7), (5, .int t10), (8, .int t4), (0, .ref (a 1)), (1, .int v1), (2, .int v2), (3, .int v3), (4, .int v4)]) hx hb d_C_addDifference_107 hl rfl rfl (by decide) rfl (fun ls hl => ?_)
      refine lv_goto (tgt := 9) hx hb d_C_addDifference_110 rfl ?_
      exact ih _ _ _ _ _ _ _ _ _ _ _ hw S (lv_sub hl [4, 5, 6, 7, 8, 2, 1, 0] rfl)
    replace hw := hw.2 hc
    refine lv_iconst (v := 1) hx hb d_C_addDifference_78 (by decide) ?_
    refine lv_goto (tgt := 83) hx hb d_C_addDifference_79 rfl ?_
    refine lv_iadd hx hb d_C_addDifference_83 ?_
    refine lv_topi (fun t11 et11 => ?_)
    replace hw := hw t11 et11
    refine lv_istore (lv' := [(5, .int t11), (8, .int t4), (0, .ref (a 1)), (1, .int v1), (2, .int v2), (3, .int v3), (4, .int v4), (6, .int v6), (7, .int v7)]) hx hb d_C_addDifference_84 hl (by decide) rfl (fun ls hl => ?_)
    refine lv_aload_n hx hb d_C_addDifference_86 rfl (lv_at hl 2 rfl) ?_
    refine qf_C_C_counts C S qh_24 d_C_addDifference_87 ?_
    refine lv_iload hx hb d_C_addDifference_90 (lv_at hl 1 rfl) ?_
    obtain ⟨hi, hw⟩ := hw
    refine qe_C_counts C S hi d_C_addDifference_92 ?_
    refine lv_lconst (v := 0) hx hb d_C_addDifference_93 (by decide) ?_
    refine W.lcmp hx hb d_C_addDifference_94 ?_
    refine lv_if_le (tgt := 103) hx hb d_C_addDifference_95 rfl (fun hc => ?_) (fun hc => ?_)
    · replace hw := hw.1 hc
      refine lv_iload hx hb d_C_addDifference_103 (lv_at hl 7 rfl) ?_
      refine lv_istore (lv' := [(6, .int v6), (5, .int t11), (8, .int t4), (0, .ref (a 1)), (1, .int v1), (2, .int v2), (3, .int v3), (4, .int v4), (7, .int v7)]) hx hb d_C_addDifference_105 hl (by decide) rfl (fun ls hl => ?_)
      refine lv_iinc (k := 8) (v := v7 + 1) (lv' := [(7, .int (v7 + 1)), (6, .int v6), (5, .int t11), (8, .int t4), (0, .ref (a 1)), (1, .int v1), (2, .int v2), (3, .int v3), (4, .int v4)]) hx hb d_C_addDifference_107 hl rfl rfl (by decide) rfl (fun ls hl => ?_)
      refine lv_goto (tgt := 9) hx hb d_C_addDifference_110 rfl ?_
      exact ih _ _ _ _ _ _ _ _ _ _ _ hw S (lv_sub hl [4, 5, 6, 7, 8, 2, 1, 0] rfl)
    replace hw := hw.2 hc
    refine lv_iload hx hb d_C_addDifference_98 (lv_at hl 8 rfl) ?_
    refine lv_goto (tgt := 105) hx hb d_C_addDifference_100 rfl ?_
    refine lv_istore (lv' := [(6, .int v7), (5, .int t11), (8, .int t4), (0, .ref (a 1)), (1, .int v1), (2, .int v2), (3, .int v3), (4, .int v4), (7, .int v7)]) hx hb d_C_addDifference_105 hl (by decide) rfl (fun ls hl => ?_)
    refine lv_iinc (k := 8) (v := v7 + 1) (lv' := [(7, .int (v7 + 1)), (6, .int v7), (5, .int t11), (8, .int t4), (0, .ref (a 1)), (1, .int v1), (2, .int v2), (3, .int v3), (4, .int v4)]) hx hb d_C_addDifference_107 hl rfl rfl (by decide) rfl (fun ls hl => ?_)
    refine lv_goto (tgt := 9) hx hb d_C_addDifference_110 rfl ?_
    exact ih _ _ _ _ _ _ _ _ _ _ _ hw S (lv_sub hl [4, 5, 6, 7, 8, 2, 1, 0] rfl)
set_option maxHeartbeats 4000000 in
set_option maxRecDepth 100000 in
theorem qc_C_addDifference (l : Launch) (dC : Nat → ClassId) (dI : Nat → Nat → Nat) (a : Nat → Nat) (k : Nat → ClassId) (p1 : Int32) (p2 : Int32) (p3 : Int32) (p4 : Int32) (x : QX) (post : QX → Prop) (hw : qw_C_addDifference p1 p2 p3 p4 x post) : qa_Cv l y_C_addDifference qv_C_addDifference qr_C_addDifference (dC, dI) classes (qC_t k) (qC_w a k) [.ref (a 1), .int p1, .int p2, .int p3, .int p4] x post := by
  refine qa_ofWv (by decide) (Nat.le_of_ble_eq_true rfl) ?_
  intro p e s m args below meth c A H locs ls C S hl
  replace hl : lv_has ls 9 [(0, .ref (a 1)), (1, .int p1), (2, .int p2), (3, .int p3), (4, .int p4)] := hl
  have hx := C.1
  have hb := C.2.1
  unfold qw_C_addDifference at hw
  refine lv_iconst (v := 0) hx hb d_C_addDifference_0 (by decide) ?_
  refine lv_istore (lv' := [(5, .int (0 : Int32)), (0, .ref (a 1)), (1, .int p1), (2, .int p2), (3, .int p3), (4, .int p4)]) hx hb d_C_addDifference_1 hl (by decide) rfl (fun ls hl => ?_)
  refine lv_iconst (v := 0) hx hb d_C_addDifference_3 (by decide) ?_
  refine lv_istore (lv' := [(6, .int (0 : Int32)), (5, .int (0 : Int32)), (0, .ref (a 1)), (1, .int p1), (2, .int p2), (3, .int p3), (4, .int p4)]) hx hb d_C_addDifference_4 hl (by decide) rfl (fun ls hl => ?_)
  refine lv_iconst (v := 0) hx hb d_C_addDifference_6 (by decide) ?_
  refine lv_istore (lv' := [(7, .int (0 : Int32)), (6, .int (0 : Int32)), (5, .int (0 : Int32)), (0, .ref (a 1)), (1, .int p1), (2, .int p2), (3, .int p3), (4, .int p4)]) hx hb d_C_addDifference_7 hl (by decide) rfl (fun ls hl => ?_)
  exact qk_C_addDifference_H9 C post qFU _ _ _ _ _ _ _ _ _ _ _ hw S (lv_sub hl [3, 4, 5, 6, 7, 2, 1, 0] rfl)
set_option maxHeartbeats 4000000 in
set_option maxRecDepth 100000 in
theorem qk_C_addMoved_H47 {p : Program} {l : Launch} {e : Env} {s : State} {m : MethodId} {args : Array Value} {below : List Frame} {meth : Method} {c : Code} {A : Nat → Prop} {dC : Nat → ClassId} {dI : Nat → Nat → Nat} {a : Nat → Nat} {k : Nat → ClassId} (C : qa_X p s m args meth c b_C_addMoved 6 (some .int) R_C)  (post : Int32 → QX → Prop)  : ∀ (n : Nat), ∀ (v1 : Int32) (v2 : Int32) (v3 : Int32) (v4 : Int32) (v5 : Int32) (x : QX) (H : Heap) (locs : List Loc) (ls : Array Slot), qw_C_addMoved_H47  post n v1 v2 v3 v4 v5 x → qa_S (dC, dI) classes (qC_t k) (qC_w a k) A s x H locs → lv_has ls 6 [(0, .ref (a 1)), (1, .int v1), (2, .int v2), (3, .int v3), (4, .int v4), (5, .int v5)] → W p l e qr_C_addMoved s m args below meth c H locs 0 0 (MQ below (va_Qi post (qa_B (dC, dI) classes (qC_t k) (qC_w a k) A) A) args s 0 0 A) (F0 m 47 ls []) := by
  have hx := C.1
  have hb := C.2.1
  intro n
  induction n with
  | zero => intro v1 v2 v3 v4 v5 x H locs ls hw S hl; exact False.elim hw
  | succ n ih =>
    intro v1 v2 v3 v4 v5 x H locs ls hw S hl
    replace hw : qw_C_addMoved_S47  post (qw_C_addMoved_H47  post n) v1 v2 v3 v4 v5 x := hw
    unfold qw_C_addMoved_S47 at hw
    refine lv_iload hx hb d_C_addMoved_47 (lv_at hl 5 rfl) ?_
    refine lv_iconst (v := 4) hx hb d_C_addMoved_49 (by decide) ?_
    refine lv_icmp_ge (tgt := 69) hx hb d_C_addMoved_50 rfl (fun hc => ?_) (fun hc => ?_)
    · replace hw := hw.1 hc
      refine lv_iload hx hb d_C_addMoved_69 (lv_at hl 4 rfl) ?_
      exact qa_reti C S hw d_C_addMoved_71
    replace hw := hw.2 hc
    refine lv_aload_n hx hb d_C_addMoved_53 rfl (lv_at hl 0 rfl) ?_
    refine lv_iload hx hb d_C_addMoved_54 (lv_at hl 4 rfl) ?_
    refine lv_iload hx hb d_C_addMoved_56 (lv_at hl 5 rfl) ?_
    refine lv_iload_n hx hb d_C_addMoved_58 rfl (lv_at hl 2 rfl) ?_
    refine lv_iload_n hx hb d_C_addMoved_59 rfl (lv_at hl 3 rfl) ?_
    refine qa_callv (qa_runV (As := [.int v4, .int v5, .int v2, .int v3]) (rest := []) C S (qc_C_addDifference l dC dI a k _ _ _ _ _ _ hw H.size) (cwV 4 C.2.2.2.2.1 qo_C_76_C_addDifference rfl rfl rfl qd_C_addDifference ⟨Nat.le_of_ble_eq_true rfl, Nat.le_of_ble_eq_true rfl⟩) (va_recv (q0 := 1) (ci := 1) S.2.2.1 S.1 rfl rfl) rfl hl.1 rfl (Nat.le_of_ble_eq_true rfl) d_C_addMoved_60) S (fun x13 H locs hw S => ?_)
    refine lv_iinc (k := 5) (v := v5 + 1) (lv' := [(5, .int (v5 + 1)), (0, .ref (a 1)), (1, .int v1), (2, .int v2), (3, .int v3), (4, .int v4)]) hx hb d_C_addMoved_63 hl rfl rfl (by decide) rfl (fun ls hl => ?_)
    refine lv_goto (tgt := 47) hx hb d_C_addMoved_66 rfl ?_
    exact ih _ _ _ _ _ _ _ _ _ hw S (lv_sub hl [1, 2, 3, 4, 5, 0] rfl)
set_option maxHeartbeats 4000000 in
set_option maxRecDepth 100000 in
theorem qc_C_addMoved (l : Launch) (dC : Nat → ClassId) (dI : Nat → Nat → Nat) (a : Nat → Nat) (k : Nat → ClassId) (p1 : Int32) (p2 : Int32) (x : QX) (post : Int32 → QX → Prop) (hw : qw_C_addMoved p1 p2 x post) : qa_Ci l y_C_addMoved qv_C_addMoved qr_C_addMoved (dC, dI) classes (qC_t k) (qC_w a k) [.ref (a 1), .int p1, .int p2] x post := by
  refine qa_ofWi (by decide) (Nat.le_of_ble_eq_true rfl) ?_
  intro p e s m args below meth c A H locs ls C S hl
  replace hl : lv_has ls 6 [(0, .ref (a 1)), (1, .int p1), (2, .int p2)] := hl
  have hx := C.1
  have hb := C.2.1
  unfold qw_C_addMoved at hw
  refine lv_aload_n hx hb d_C_addMoved_0 rfl (lv_at hl 0 rfl) ?_
  refine lv_iload_n hx hb d_C_addMoved_1 rfl (lv_at hl 1 rfl) ?_
  refine qa_calli (qa_runV (As := [.int p1]) (rest := []) C S (qc_C_parentOf l dC dI a k _ _ _ hw H.size) (cwV 1 C.2.2.2.2.1 qo_C_51_C_parentOf rfl rfl rfl qd_C_parentOf ⟨Nat.le_of_ble_eq_true rfl, Nat.le_of_ble_eq_true rfl⟩) (va_recv (q0 := 1) (ci := 1) S.2.2.1 S.1 rfl rfl) rfl hl.1 rfl (Nat.le_of_ble_eq_true rfl) d_C_addMoved_2) S (fun r2 x1 H locs hw S => ?_)
  refine lv_istore_n (lv' := [(3, .int r2), (0, .ref (a 1)), (1, .int p1), (2, .int p2)]) hx hb d_C_addMoved_5 rfl hl (by decide) rfl (fun ls hl => ?_)
  refine lv_aload_n hx hb d_C_addMoved_6 rfl (lv_at hl 1 rfl) ?_
  refine qa_calli (qa_runV (As := []) (rest := []) C S (qc_C_isFull l dC dI a k _ _ hw H.size) (cwV 0 C.2.2.2.2.1 qo_C_59_C_isFull rfl rfl rfl qd_C_isFull ⟨Nat.le_of_ble_eq_true rfl, Nat.le_of_ble_eq_true rfl⟩) (va_recv (q0 := 1) (ci := 1) S.2.2.1 S.1 rfl rfl) rfl hl.1 rfl (Nat.le_of_ble_eq_true rfl) d_C_addMoved_7) S (fun r4 x3 H locs hw S => ?_)
  refine lv_if_ne (tgt := 29) hx hb d_C_addMoved_10 rfl (fun hc => ?_) (fun hc => ?_)
  · replace hw := hw.1 hc
    refine lv_iconst (v := -1) hx hb d_C_addMoved_29 (by decide) ?_
    exact qa_reti C S hw d_C_addMoved_30
  replace hw := hw.2 hc
  refine lv_aload_n hx hb d_C_addMoved_13 rfl (lv_at hl 1 rfl) ?_
  refine lv_iload_n hx hb d_C_addMoved_14 rfl (lv_at hl 3 rfl) ?_
  refine qa_calli (qa_runV (As := [.int p2]) (rest := []) C S (qc_C_has l dC dI a k _ _ _ hw H.size) (cwV 1 C.2.2.2.2.1 qo_C_29_C_has rfl rfl rfl qd_C_has ⟨Nat.le_of_ble_eq_true rfl, Nat.le_of_ble_eq_true rfl⟩) (va_recv (q0 := 1) (ci := 1) S.2.2.1 S.1 rfl rfl) rfl hl.1 rfl (Nat.le_of_ble_eq_true rfl) d_C_addMoved_15) S (fun r6 x5 H locs hw S => ?_)
  refine lv_if_eq (tgt := 29) hx hb d_C_addMoved_18 rfl (fun hc => ?_) (fun hc => ?_)
  · replace hw := hw.1 hc
    refine lv_iconst (v := -1) hx hb d_C_addMoved_29 (by decide) ?_
    exact qa_reti C S hw d_C_addMoved_30
  replace hw := hw.2 hc
  refine lv_aload_n hx hb d_C_addMoved_21 rfl (lv_at hl 1 rfl) ?_
  refine lv_iload_n hx hb d_C_addMoved_22 rfl (lv_at hl 0 rfl) ?_
  refine qa_calli (qa_runV (As := [.int r2]) (rest := []) C S (qc_C_has l dC dI a k _ _ _ hw H.size) (cwV 1 C.2.2.2.2.1 qo_C_29_C_has rfl rfl rfl qd_C_has ⟨Nat.le_of_ble_eq_true rfl, Nat.le_of_ble_eq_true rfl⟩) (va_recv (q0 := 1) (ci := 1) S.2.2.1 S.1 rfl rfl) rfl hl.1 rfl (Nat.le_of_ble_eq_true rfl) d_C_addMoved_23) S (fun r8 x7 H locs hw S => ?_)
  refine lv_if_ne (tgt := 31) hx hb d_C_addMoved_26 rfl (fun hc => ?_) (fun hc => ?_)
  · replace hw := hw.1 hc
    refine lv_aload_n hx hb d_C_addMoved_31 rfl (lv_at hl 1 rfl) ?_
    refine lv_aload_n hx hb d_C_addMoved_32 rfl (lv_at hl 1 rfl) ?_
    refine lv_iload_n hx hb d_C_addMoved_33 rfl (lv_at hl 2 rfl) ?_
    refine qa_calli (qa_runV (As := [.int p1]) (rest := [.ref (a 1)]) C S (qc_C_changeOf l dC dI a k _ _ _ hw H.size) (cwV 1 C.2.2.2.2.1 qo_C_73_C_changeOf rfl rfl rfl qd_C_changeOf ⟨Nat.le_of_ble_eq_true rfl, Nat.le_of_ble_eq_true rfl⟩) (va_recv (q0 := 1) (ci := 1) S.2.2.1 S.1 rfl rfl) rfl hl.1 rfl (Nat.le_of_ble_eq_true rfl) d_C_addMoved_34) S (fun r10 x9 H locs hw S => ?_)
    refine lv_iload_n hx hb d_C_addMoved_37 rfl (lv_at hl 3 rfl) ?_
    refine lv_iload_n hx hb d_C_addMoved_38 rfl (lv_at hl 2 rfl) ?_
    refine qa_calli (qa_runV (As := [.int r10, .int p2, .int p1]) (rest := []) C S (qc_C_addCopy l dC dI a k _ _ _ _ _ hw H.size) (cwV 3 C.2.2.2.2.1 qo_C_63_C_addCopy rfl rfl rfl qd_C_addCopy ⟨Nat.le_of_ble_eq_true rfl, Nat.le_of_ble_eq_true rfl⟩) (va_recv (q0 := 1) (ci := 1) S.2.2.1 S.1 rfl rfl) rfl hl.1 rfl (Nat.le_of_ble_eq_true rfl) d_C_addMoved_39) S (fun r12 x11 H locs hw S => ?_)
    refine lv_istore (lv' := [(4, .int r12), (3, .int r2), (0, .ref (a 1)), (1, .int p1), (2, .int p2)]) hx hb d_C_addMoved_42 hl (by decide) rfl (fun ls hl => ?_)
    refine lv_iconst (v := 0) hx hb d_C_addMoved_44 (by decide) ?_
    refine lv_istore (lv' := [(5, .int (0 : Int32)), (4, .int r12), (3, .int r2), (0, .ref (a 1)), (1, .int p1), (2, .int p2)]) hx hb d_C_addMoved_45 hl (by decide) rfl (fun ls hl => ?_)
    exact qk_C_addMoved_H47 C post qFU _ _ _ _ _ _ _ _ _ hw S (lv_sub hl [3, 4, 5, 2, 1, 0] rfl)
  replace hw := hw.2 hc
  refine lv_iconst (v := -1) hx hb d_C_addMoved_29 (by decide) ?_
  exact qa_reti C S hw d_C_addMoved_30
set_option maxHeartbeats 4000000 in
set_option maxRecDepth 100000 in
theorem qc_D_replace (l : Launch) (dC : Nat → ClassId) (dI : Nat → Nat → Nat) (a : Nat → Nat) (k : Nat → ClassId) (p1 : Int32) (p2 : Int32) (x : QX) (post : QX → Prop) (hw : qw_D_replace p1 p2 x post) : qa_Cv l y_D_replace qv_D_replace qr_D_replace (dC, dI) classes (qC_t k) (qC_w a k) [.ref (a 3), .int p1, .int p2] x post := by
  refine qa_ofWv (by decide) (Nat.le_of_ble_eq_true rfl) ?_
  intro p e s m args below meth c A H locs ls C S hl
  replace hl : lv_has ls 3 [(0, .ref (a 3)), (1, .int p1), (2, .int p2)] := hl
  have hx := C.1
  have hb := C.2.1
  unfold qw_D_replace at hw
  refine lv_aload_n hx hb d_D_replace_0 rfl (lv_at hl 0 rfl) ?_
  refine qf_C_D_commits C S qh_75 d_D_replace_1 ?_
  refine lv_iload_n hx hb d_D_replace_4 rfl (lv_at hl 1 rfl) ?_
  refine qa_calli (qa_runV (As := [.int p1]) (rest := []) C S (qc_C_has l dC dI a k _ _ _ hw H.size) (cwV 1 C.2.2.2.2.1 qo_D_74_C_has rfl rfl rfl qd_C_has ⟨Nat.le_of_ble_eq_true rfl, Nat.le_of_ble_eq_true rfl⟩) (va_recv (q0 := 1) (ci := 1) S.2.2.1 S.1 rfl rfl) rfl hl.1 rfl (Nat.le_of_ble_eq_true rfl) d_D_replace_5) S (fun r2 x1 H locs hw S => ?_)
  refine lv_if_eq (tgt := 22) hx hb d_D_replace_8 rfl (fun hc => ?_) (fun hc => ?_)
  · replace hw := hw.1 hc
    exact qa_retv C S hw d_D_replace_22
  replace hw := hw.2 hc
  refine lv_aload_n hx hb d_D_replace_11 rfl (lv_at hl 0 rfl) ?_
  refine qf_C_D_commits C S qh_75 d_D_replace_12 ?_
  refine lv_iload_n hx hb d_D_replace_15 rfl (lv_at hl 2 rfl) ?_
  refine qa_calli (qa_runV (As := [.int p2]) (rest := []) C S (qc_C_has l dC dI a k _ _ _ hw H.size) (cwV 1 C.2.2.2.2.1 qo_D_74_C_has rfl rfl rfl qd_C_has ⟨Nat.le_of_ble_eq_true rfl, Nat.le_of_ble_eq_true rfl⟩) (va_recv (q0 := 1) (ci := 1) S.2.2.1 S.1 rfl rfl) rfl hl.1 rfl (Nat.le_of_ble_eq_true rfl) d_D_replace_16) S (fun r4 x3 H locs hw S => ?_)
  refine lv_if_ne (tgt := 23) hx hb d_D_replace_19 rfl (fun hc => ?_) (fun hc => ?_)
  · replace hw := hw.1 hc
    refine lv_aload_n hx hb d_D_replace_23 rfl (lv_at hl 0 rfl) ?_
    refine lv_dup hx hb d_D_replace_24 rfl ?_
    refine qf_C_D_shown C S qh_80 d_D_replace_25 ?_
    refine lv_iload_n hx hb d_D_replace_28 rfl (lv_at hl 1 rfl) ?_
    refine qa_calll (qa_runSN (As := [.int p1]) (rest := [.long (gL x3 0), .ref (a 3)]) C S (qc_S_bit l dC dI a k _ _ _ hw H.size) ⟨va_cnB 1 C.2.2.2.2.1 qo_S_bit rfl rfl rfl (S.2.2.2.2.2 _ qh_199) (C.2.2.2.2.1 _ qh_1) qd_S_bit.2 ⟨Nat.le_of_ble_eq_true rfl, Nat.le_of_ble_eq_true rfl⟩, C.2.2.2.2.1 _ qh_48, trivial⟩ rfl hl.1 rfl (Nat.le_of_ble_eq_true rfl) d_D_replace_29) S (fun r6 x5 H locs hw S => ?_)
    refine lv_ldc2 (v := -1) hx hb C.2.2.2.2.2.1 (C.2.2.2.2.1 _ qh_229) d_D_replace_32 ?_
    refine lv_lxor hx hb d_D_replace_35 ?_
    refine lv_land hx hb d_D_replace_36 ?_
    refine qp_C_D_shown C S qh_80 d_D_replace_37 (fun x7 H locs ex7 S => ?_)
    replace hw := hw x7 ex7
    refine lv_aload_n hx hb d_D_replace_40 rfl (lv_at hl 0 rfl) ?_
    refine lv_iload_n hx hb d_D_replace_41 rfl (lv_at hl 2 rfl) ?_
    refine qa_callv (qa_runV (As := [.int p2]) (rest := []) C S (qc_D_show l dC dI a k _ _ _ hw H.size) (cwV 1 C.2.2.2.2.1 qo_D_78_D_show rfl rfl rfl qd_D_show ⟨Nat.le_of_ble_eq_true rfl, Nat.le_of_ble_eq_true rfl⟩) (va_recv (q0 := 3) (ci := 3) S.2.2.1 S.1 rfl rfl) rfl hl.1 rfl (Nat.le_of_ble_eq_true rfl) d_D_replace_42) S (fun x8 H locs hw S => ?_)
    refine lv_aload_n hx hb d_D_replace_45 rfl (lv_at hl 0 rfl) ?_
    refine qf_C_D_replacements C S qh_79 d_D_replace_46 ?_
    refine lv_iload_n hx hb d_D_replace_49 rfl (lv_at hl 1 rfl) ?_
    refine lv_iload_n hx hb d_D_replace_50 rfl (lv_at hl 2 rfl) ?_
    obtain ⟨hi, hw⟩ := hw
    refine qt_C_replacements C S hi d_D_replace_51 (fun x9 H locs ex9 S => ?_)
    replace hw := hw x9 ex9
    exact qa_retv C S hw d_D_replace_52
  replace hw := hw.2 hc
  exact qa_retv C S hw d_D_replace_22
set_option maxHeartbeats 4000000 in
set_option maxRecDepth 100000 in
theorem qk_D_settleCommits_H2 {p : Program} {l : Launch} {e : Env} {s : State} {m : MethodId} {args : Array Value} {below : List Frame} {meth : Method} {c : Code} {A : Nat → Prop} {dC : Nat → ClassId} {dI : Nat → Nat → Nat} {a : Nat → Nat} {k : Nat → ClassId} (C : qa_X p s m args meth c b_D_settleCommits 5 (some .boolean) R_D)  (post : Int32 → QX → Prop)  : ∀ (n : Nat), ∀ (v1 : Int32) (x : QX) (H : Heap) (locs : List Loc) (ls : Array Slot), qw_D_settleCommits_H2  post n v1 x → qa_S (dC, dI) classes (qC_t k) (qC_w a k) A s x H locs → lv_has ls 5 [(0, .ref (a 3)), (1, .int v1)] → W p l e qr_D_settleCommits s m args below meth c H locs 0 0 (MQ below (va_Qi post (qa_B (dC, dI) classes (qC_t k) (qC_w a k) A) A) args s 0 0 A) (F0 m 2 ls []) := by
  have hx := C.1
  have hb := C.2.1
  intro n
  induction n with
  | zero => intro v1 x H locs ls hw S hl; exact False.elim hw
  | succ n ih =>
    intro v1 x H locs ls hw S hl
    replace hw : qw_D_settleCommits_S2  post (qw_D_settleCommits_H2  post n) v1 x := hw
    unfold qw_D_settleCommits_S2 at hw
    refine lv_iload_n hx hb d_D_settleCommits_2 rfl (lv_at hl 1 rfl) ?_
    refine lv_bipush (v := 60) hx hb d_D_settleCommits_3 (by decide) ?_
    refine lv_icmp_ge (tgt := 82) hx hb d_D_settleCommits_5 rfl (fun hc => ?_) (fun hc => ?_)
    · replace hw := hw.1 hc
      refine lv_iconst (v := 0) hx hb d_D_settleCommits_82 (by decide) ?_
      exact qa_retz C S ⟨by decide, hw⟩ d_D_settleCommits_83
    replace hw := hw.2 hc
    refine lv_aload_n hx hb d_D_settleCommits_8 rfl (lv_at hl 0 rfl) ?_
    refine qa_calli (qa_runV (As := []) (rest := []) C S (qc_D_lowestOrphan l dC dI a k _ _ hw H.size) (cwV 0 C.2.2.2.2.1 qo_D_82_D_lowestOrphan rfl rfl rfl qd_D_lowestOrphan ⟨Nat.le_of_ble_eq_true rfl, Nat.le_of_ble_eq_true rfl⟩) (va_recv (q0 := 3) (ci := 3) S.2.2.1 S.1 rfl rfl) rfl hl.1 rfl (Nat.le_of_ble_eq_true rfl) d_D_settleCommits_9) S (fun r2 x1 H locs hw S => ?_)
    refine lv_istore_n (lv' := [(2, .int r2), (0, .ref (a 3)), (1, .int v1)]) hx hb d_D_settleCommits_12 rfl hl (by decide) rfl (fun ls hl => ?_)
    refine lv_iload_n hx hb d_D_settleCommits_13 rfl (lv_at hl 0 rfl) ?_
    refine lv_iconst (v := -1) hx hb d_D_settleCommits_14 (by decide) ?_
    refine lv_icmp_ne (tgt := 20) hx hb d_D_settleCommits_15 rfl (fun hc => ?_) (fun hc => ?_)
    · replace hw := hw.1 hc
      refine lv_aload_n hx hb d_D_settleCommits_20 rfl (lv_at hl 1 rfl) ?_
      refine qf_C_D_commits C S qh_75 d_D_settleCommits_21 ?_
      refine qa_calli (qa_runV (As := []) (rest := []) C S (qc_C_isFull l dC dI a k _ _ hw H.size) (cwV 0 C.2.2.2.2.1 qo_D_86_C_isFull rfl rfl rfl qd_C_isFull ⟨Nat.le_of_ble_eq_true rfl, Nat.le_of_ble_eq_true rfl⟩) (va_recv (q0 := 1) (ci := 1) S.2.2.1 S.1 rfl rfl) rfl hl.1 rfl (Nat.le_of_ble_eq_true rfl) d_D_settleCommits_24) S (fun r4 x3 H locs hw S => ?_)
      refine lv_if_eq (tgt := 32) hx hb d_D_settleCommits_27 rfl (fun hc => ?_) (fun hc => ?_)
      · replace hw := hw.1 hc
        refine lv_aload_n hx hb d_D_settleCommits_32 rfl (lv_at hl 1 rfl) ?_
        refine qf_C_D_shown C S qh_80 d_D_settleCommits_33 ?_
        refine lv_aload_n hx hb d_D_settleCommits_36 rfl (lv_at hl 1 rfl) ?_
        refine qf_C_D_commits C S qh_75 d_D_settleCommits_37 ?_
        refine lv_iload_n hx hb d_D_settleCommits_40 rfl (lv_at hl 0 rfl) ?_
        refine qa_calll (qa_runV (As := [.int r2]) (rest := [.long (gL x3 0)]) C S (qc_C_withAllThatComesOf l dC dI a k _ _ _ hw H.size) (cwV 1 C.2.2.2.2.1 qo_D_90_C_withAllThatComesOf rfl rfl rfl qd_C_withAllThatComesOf ⟨Nat.le_of_ble_eq_true rfl, Nat.le_of_ble_eq_true rfl⟩) (va_recv (q0 := 1) (ci := 1) S.2.2.1 S.1 rfl rfl) rfl hl.1 rfl (Nat.le_of_ble_eq_true rfl) d_D_settleCommits_41) S (fun r6 x5 H locs hw S => ?_)
        refine lv_ldc2 (v := -1) hx hb C.2.2.2.2.2.1 (C.2.2.2.2.1 _ qh_229) d_D_settleCommits_44 ?_
        refine lv_lxor hx hb d_D_settleCommits_47 ?_
        refine lv_land hx hb d_D_settleCommits_48 ?_
        refine lv_topl (fun t7 et7 => ?_)
        replace hw := hw t7 et7
        refine lv_lstore_n (lv' := [(3, .long t7), (2, .int r2), (0, .ref (a 3)), (1, .int v1)]) hx hb d_D_settleCommits_49 rfl hl (by decide) rfl (fun ls hl => ?_)
        refine lv_aload_n hx hb d_D_settleCommits_50 rfl (lv_at hl 2 rfl) ?_
        refine lv_iload_n hx hb d_D_settleCommits_51 rfl (lv_at hl 1 rfl) ?_
        refine lv_aload_n hx hb d_D_settleCommits_52 rfl (lv_at hl 2 rfl) ?_
        refine qf_C_D_commits C S qh_75 d_D_settleCommits_53 ?_
        refine lv_iload_n hx hb d_D_settleCommits_56 rfl (lv_at hl 1 rfl) ?_
        refine lv_aload_n hx hb d_D_settleCommits_57 rfl (lv_at hl 2 rfl) ?_
        refine lv_aload_n hx hb d_D_settleCommits_58 rfl (lv_at hl 2 rfl) ?_
        refine qf_C_D_commits C S qh_75 d_D_settleCommits_59 ?_
        refine lv_iload_n hx hb d_D_settleCommits_62 rfl (lv_at hl 1 rfl) ?_
        refine qa_calli (qa_runV (As := [.int r2]) (rest := [.ref (a 3), .int r2, .ref (a 1), .int r2, .ref (a 3)]) C S (qc_C_parentOf l dC dI a k _ _ _ hw H.size) (cwV 1 C.2.2.2.2.1 qo_D_93_C_parentOf rfl rfl rfl qd_C_parentOf ⟨Nat.le_of_ble_eq_true rfl, Nat.le_of_ble_eq_true rfl⟩) (va_recv (q0 := 1) (ci := 1) S.2.2.1 S.1 rfl rfl) rfl hl.1 rfl (Nat.le_of_ble_eq_true rfl) d_D_settleCommits_63) S (fun r9 x8 H locs hw S => ?_)
        refine lv_lload_n hx hb d_D_settleCommits_66 rfl (lv_at hl 0 rfl) ?_
        refine qa_calli (qa_runV (As := [.int r9, .long t7]) (rest := [.int r2, .ref (a 1), .int r2, .ref (a 3)]) C S (qc_D_placeOf l dC dI a k _ _ _ _ hw H.size) (cwV 2 C.2.2.2.2.1 qo_D_96_D_placeOf rfl rfl rfl qd_D_placeOf ⟨Nat.le_of_ble_eq_true rfl, Nat.le_of_ble_eq_true rfl⟩) (va_recv (q0 := 3) (ci := 3) S.2.2.1 S.1 rfl rfl) rfl hl.1 rfl (Nat.le_of_ble_eq_true rfl) d_D_settleCommits_67) S (fun r11 x10 H locs hw S => ?_)
        refine qa_calli (qa_runV (As := [.int r2, .int r11]) (rest := [.int r2, .ref (a 3)]) C S (qc_C_addMoved l dC dI a k _ _ _ _ hw H.size) (cwV 2 C.2.2.2.2.1 qo_D_100_C_addMoved rfl rfl rfl qd_C_addMoved ⟨Nat.le_of_ble_eq_true rfl, Nat.le_of_ble_eq_true rfl⟩) (va_recv (q0 := 1) (ci := 1) S.2.2.1 S.1 rfl rfl) rfl hl.1 rfl (Nat.le_of_ble_eq_true rfl) d_D_settleCommits_70) S (fun r13 x12 H locs hw S => ?_)
        refine qa_callv (qa_runV (As := [.int r2, .int r13]) (rest := []) C S (qc_D_replace l dC dI a k _ _ _ _ hw H.size) (cwV 2 C.2.2.2.2.1 qo_D_103_D_replace rfl rfl rfl qd_D_replace ⟨Nat.le_of_ble_eq_true rfl, Nat.le_of_ble_eq_true rfl⟩) (va_recv (q0 := 3) (ci := 3) S.2.2.1 S.1 rfl rfl) rfl hl.1 rfl (Nat.le_of_ble_eq_true rfl) d_D_settleCommits_73) S (fun x14 H locs hw S => ?_)
        refine lv_iinc (k := 3) (v := v1 + 1) (lv' := [(1, .int (v1 + 1)), (3, .long t7), (2, .int r2), (0, .ref (a 3))]) hx hb d_D_settleCommits_76 hl rfl rfl (by decide) rfl (fun ls hl => ?_)
        refine lv_goto (tgt := 2) hx hb d_D_settleCommits_79 rfl ?_
        exact ih _ _ _ _ _ hw S (lv_sub hl [3, 0] rfl)
      replace hw := hw.2 hc
      refine lv_iconst (v := 0) hx hb d_D_settleCommits_30 (by decide) ?_
      exact qa_retz C S ⟨by decide, hw⟩ d_D_settleCommits_31
    replace hw := hw.2 hc
    refine lv_iconst (v := 1) hx hb d_D_settleCommits_18 (by decide) ?_
    exact qa_retz C S ⟨by decide, hw⟩ d_D_settleCommits_19
set_option maxHeartbeats 4000000 in
set_option maxRecDepth 100000 in
theorem qc_D_settleCommits (l : Launch) (dC : Nat → ClassId) (dI : Nat → Nat → Nat) (a : Nat → Nat) (k : Nat → ClassId)  (x : QX) (post : Int32 → QX → Prop) (hw : qw_D_settleCommits  x post) : qa_Ci l y_D_settleCommits qv_D_settleCommits qr_D_settleCommits (dC, dI) classes (qC_t k) (qC_w a k) [.ref (a 3)] x post := by
  refine qa_ofWi (by decide) (Nat.le_of_ble_eq_true rfl) ?_
  intro p e s m args below meth c A H locs ls C S hl
  replace hl : lv_has ls 5 [(0, .ref (a 3))] := hl
  have hx := C.1
  have hb := C.2.1
  unfold qw_D_settleCommits at hw
  refine lv_iconst (v := 0) hx hb d_D_settleCommits_0 (by decide) ?_
  refine lv_istore_n (lv' := [(1, .int (0 : Int32)), (0, .ref (a 3))]) hx hb d_D_settleCommits_1 rfl hl (by decide) rfl (fun ls hl => ?_)
  exact qk_D_settleCommits_H2 C post qFU _ _ _ _ _ hw S (lv_sub hl [1, 0] rfl)
set_option maxHeartbeats 4000000 in
set_option maxRecDepth 100000 in
theorem qc_C_dropFrom (l : Launch) (dC : Nat → ClassId) (dI : Nat → Nat → Nat) (a : Nat → Nat) (k : Nat → ClassId) (p1 : Int32) (x : QX) (post : QX → Prop) (hw : qw_C_dropFrom p1 x post) : qa_Cv l y_C_dropFrom qv_C_dropFrom qr_C_dropFrom (dC, dI) classes (qC_t k) (qC_w a k) [.ref (a 1), .int p1] x post := by
  refine qa_ofWv (by decide) (Nat.le_of_ble_eq_true rfl) ?_
  intro p e s m args below meth c A H locs ls C S hl
  replace hl : lv_has ls 2 [(0, .ref (a 1)), (1, .int p1)] := hl
  have hx := C.1
  have hb := C.2.1
  unfold qw_C_dropFrom at hw
  refine lv_aload_n hx hb d_C_dropFrom_0 rfl (lv_at hl 0 rfl) ?_
  refine lv_iload_n hx hb d_C_dropFrom_1 rfl (lv_at hl 1 rfl) ?_
  refine qp_C_C_size C S qh_25 d_C_dropFrom_2 (fun x1 H locs ex1 S => ?_)
  replace hw := hw x1 ex1
  exact qa_retv C S hw d_C_dropFrom_5
set_option maxHeartbeats 4000000 in
set_option maxRecDepth 100000 in
theorem qk_D_settlePointers_H18 {p : Program} {l : Launch} {e : Env} {s : State} {m : MethodId} {args : Array Value} {below : List Frame} {meth : Method} {c : Code} {A : Nat → Prop} {dC : Nat → ClassId} {dI : Nat → Nat → Nat} {a : Nat → Nat} {k : Nat → ClassId} (C : qa_X p s m args meth c b_D_settlePointers 2 none R_D)  (post : QX → Prop)  : ∀ (n : Nat), ∀ (v1 : Int32) (x : QX) (H : Heap) (locs : List Loc) (ls : Array Slot), qw_D_settlePointers_H18  post n v1 x → qa_S (dC, dI) classes (qC_t k) (qC_w a k) A s x H locs → lv_has ls 2 [(0, .ref (a 3)), (1, .int v1)] → W p l e qr_D_settlePointers s m args below meth c H locs 0 0 (MQ below (va_Qv post (qa_B (dC, dI) classes (qC_t k) (qC_w a k) A) A) args s 0 0 A) (F0 m 18 ls []) := by
  have hx := C.1
  have hb := C.2.1
  intro n
  induction n with
  | zero => intro v1 x H locs ls hw S hl; exact False.elim hw
  | succ n ih =>
    intro v1 x H locs ls hw S hl
    replace hw : qw_D_settlePointers_S18  post (qw_D_settlePointers_H18  post n) v1 x := hw
    unfold qw_D_settlePointers_S18 at hw
    refine lv_iload_n hx hb d_D_settlePointers_18 rfl (lv_at hl 1 rfl) ?_
    refine lv_iconst (v := 3) hx hb d_D_settlePointers_19 (by decide) ?_
    refine lv_icmp_ge (tgt := 65) hx hb d_D_settlePointers_20 rfl (fun hc => ?_) (fun hc => ?_)
    · replace hw := hw.1 hc
      exact qa_retv C S hw d_D_settlePointers_65
    replace hw := hw.2 hc
    refine lv_aload_n hx hb d_D_settlePointers_23 rfl (lv_at hl 0 rfl) ?_
    refine qf_C_D_commits C S qh_75 d_D_settlePointers_24 ?_
    refine lv_aload_n hx hb d_D_settlePointers_27 rfl (lv_at hl 0 rfl) ?_
    refine qf_C_D_marks C S qh_76 d_D_settlePointers_28 ?_
    refine lv_iload_n hx hb d_D_settlePointers_31 rfl (lv_at hl 1 rfl) ?_
    obtain ⟨hi, hw⟩ := hw
    refine qe_C_dmarks C S hi d_D_settlePointers_32 ?_
    refine qa_calli (qa_runV (As := [.int (gA x 7 v1.toNatClampNeg)]) (rest := []) C S (qc_C_has l dC dI a k _ _ _ hw H.size) (cwV 1 C.2.2.2.2.1 qo_D_74_C_has rfl rfl rfl qd_C_has ⟨Nat.le_of_ble_eq_true rfl, Nat.le_of_ble_eq_true rfl⟩) (va_recv (q0 := 1) (ci := 1) S.2.2.1 S.1 rfl rfl) rfl hl.1 rfl (Nat.le_of_ble_eq_true rfl) d_D_settlePointers_33) S (fun r5 x4 H locs hw S => ?_)
    refine lv_if_eq (tgt := 59) hx hb d_D_settlePointers_36 rfl (fun hc => ?_) (fun hc => ?_)
    · replace hw := hw.1 hc
      refine lv_iinc (k := 1) (v := v1 + 1) (lv' := [(1, .int (v1 + 1)), (0, .ref (a 3))]) hx hb d_D_settlePointers_59 hl rfl rfl (by decide) rfl (fun ls hl => ?_)
      refine lv_goto (tgt := 18) hx hb d_D_settlePointers_62 rfl ?_
      exact ih _ _ _ _ _ hw S (lv_sub hl [1, 0] rfl)
    replace hw := hw.2 hc
    refine lv_aload_n hx hb d_D_settlePointers_39 rfl (lv_at hl 0 rfl) ?_
    refine qf_C_D_marks C S qh_76 d_D_settlePointers_40 ?_
    refine lv_iload_n hx hb d_D_settlePointers_43 rfl (lv_at hl 1 rfl) ?_
    refine lv_aload_n hx hb d_D_settlePointers_44 rfl (lv_at hl 0 rfl) ?_
    refine lv_aload_n hx hb d_D_settlePointers_45 rfl (lv_at hl 0 rfl) ?_
    refine qf_C_D_marks C S qh_76 d_D_settlePointers_46 ?_
    refine lv_iload_n hx hb d_D_settlePointers_49 rfl (lv_at hl 1 rfl) ?_
    obtain ⟨hi, hw⟩ := hw
    refine qe_C_dmarks C S hi d_D_settlePointers_50 ?_
    refine lv_aload_n hx hb d_D_settlePointers_51 rfl (lv_at hl 0 rfl) ?_
    refine qf_C_D_shown C S qh_80 d_D_settlePointers_52 ?_
    refine qa_calli (qa_runV (As := [.int (gA x4 7 v1.toNatClampNeg), .long (gL x4 0)]) (rest := [.int v1, .ref (a 13)]) C S (qc_D_placeOf l dC dI a k _ _ _ _ hw H.size) (cwV 2 C.2.2.2.2.1 qo_D_96_D_placeOf rfl rfl rfl qd_D_placeOf ⟨Nat.le_of_ble_eq_true rfl, Nat.le_of_ble_eq_true rfl⟩) (va_recv (q0 := 3) (ci := 3) S.2.2.1 S.1 rfl rfl) rfl hl.1 rfl (Nat.le_of_ble_eq_true rfl) d_D_settlePointers_55) S (fun r7 x6 H locs hw S => ?_)
    obtain ⟨hi, hw⟩ := hw
    refine qt_C_dmarks C S hi d_D_settlePointers_58 (fun x8 H locs ex8 S => ?_)
    replace hw := hw x8 ex8
    refine lv_iinc (k := 1) (v := v1 + 1) (lv' := [(1, .int (v1 + 1)), (0, .ref (a 3))]) hx hb d_D_settlePointers_59 hl rfl rfl (by decide) rfl (fun ls hl => ?_)
    refine lv_goto (tgt := 18) hx hb d_D_settlePointers_62 rfl ?_
    exact ih _ _ _ _ _ hw S (lv_sub hl [1, 0] rfl)
set_option maxHeartbeats 4000000 in
set_option maxRecDepth 100000 in
theorem qc_D_settlePointers (l : Launch) (dC : Nat → ClassId) (dI : Nat → Nat → Nat) (a : Nat → Nat) (k : Nat → ClassId)  (x : QX) (post : QX → Prop) (hw : qw_D_settlePointers  x post) : qa_Cv l y_D_settlePointers qv_D_settlePointers qr_D_settlePointers (dC, dI) classes (qC_t k) (qC_w a k) [.ref (a 3)] x post := by
  refine qa_ofWv (by decide) (Nat.le_of_ble_eq_true rfl) ?_
  intro p e s m args below meth c A H locs ls C S hl
  replace hl : lv_has ls 2 [(0, .ref (a 3))] := hl
  have hx := C.1
  have hb := C.2.1
  unfold qw_D_settlePointers at hw
  refine lv_aload_n hx hb d_D_settlePointers_0 rfl (lv_at hl 0 rfl) ?_
  refine lv_aload_n hx hb d_D_settlePointers_1 rfl (lv_at hl 0 rfl) ?_
  refine lv_aload_n hx hb d_D_settlePointers_2 rfl (lv_at hl 0 rfl) ?_
  refine qf_C_D_working C S qh_82 d_D_settlePointers_3 ?_
  refine lv_aload_n hx hb d_D_settlePointers_6 rfl (lv_at hl 0 rfl) ?_
  refine qf_C_D_shown C S qh_80 d_D_settlePointers_7 ?_
  refine qa_calli (qa_runV (As := [.int (gI x 5), .long (gL x 0)]) (rest := [.ref (a 3)]) C S (qc_D_placeOf l dC dI a k _ _ _ _ hw H.size) (cwV 2 C.2.2.2.2.1 qo_D_96_D_placeOf rfl rfl rfl qd_D_placeOf ⟨Nat.le_of_ble_eq_true rfl, Nat.le_of_ble_eq_true rfl⟩) (va_recv (q0 := 3) (ci := 3) S.2.2.1 S.1 rfl rfl) rfl hl.1 rfl (Nat.le_of_ble_eq_true rfl) d_D_settlePointers_10) S (fun r2 x1 H locs hw S => ?_)
  refine qp_C_D_working C S qh_82 d_D_settlePointers_13 (fun x3 H locs ex3 S => ?_)
  replace hw := hw x3 ex3
  refine lv_iconst (v := 0) hx hb d_D_settlePointers_16 (by decide) ?_
  refine lv_istore_n (lv' := [(1, .int (0 : Int32)), (0, .ref (a 3))]) hx hb d_D_settlePointers_17 rfl hl (by decide) rfl (fun ls hl => ?_)
  exact qk_D_settlePointers_H18 C post qFU _ _ _ _ _ hw S (lv_sub hl [1, 0] rfl)
