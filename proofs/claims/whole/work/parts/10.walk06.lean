set_option maxHeartbeats 4000000 in
set_option maxRecDepth 100000 in
theorem qc_S_working (l : Launch) (dC : Nat → ClassId) (dI : Nat → Nat → Nat) (a : Nat → Nat) (k : Nat → ClassId) (p1 : Int32) (x : QX) (post : Int32 → QX → Prop) (hw : qw_S_working p1 x post) : qa_Ci l y_S_working qv_S_working qr_S_working (dC, dI) classes (qC_t k) (qC_w a k) [.ref (a 0), .int p1] x post := by
  refine qa_ofWi (by decide) (Nat.le_of_ble_eq_true rfl) ?_
  intro p e s m args below meth c A H locs ls C S hl
  replace hl : lv_has ls 2 [(0, .ref (a 0)), (1, .int p1)] := hl
  have hx := C.1
  have hb := C.2.1
  unfold qw_S_working at hw
  refine lv_aload_n hx hb d_S_working_0 rfl (lv_at hl 0 rfl) ?_
  refine qf_C_S_operations C S qh_101 d_S_working_1 ?_
  refine lv_iload_n hx hb d_S_working_4 rfl (lv_at hl 1 rfl) ?_
  refine qa_calli (qa_runV (As := [.int p1]) (rest := []) C S (qc_O_workingIn l dC dI a k _ _ _ hw H.size) (cwV 1 C.2.2.2.2.1 qo_S_143_O_workingIn rfl rfl rfl qd_O_workingIn ⟨Nat.le_of_ble_eq_true rfl, Nat.le_of_ble_eq_true rfl⟩) (va_recv (q0 := 2) (ci := 2) S.2.2.1 S.1 rfl rfl) rfl hl.1 rfl (Nat.le_of_ble_eq_true rfl) d_S_working_5) S (fun r2 x1 H locs hw S => ?_)
  exact qa_reti C S hw d_S_working_8
set_option maxHeartbeats 4000000 in
set_option maxRecDepth 100000 in
theorem qc_S_marked (l : Launch) (dC : Nat → ClassId) (dI : Nat → Nat → Nat) (a : Nat → Nat) (k : Nat → ClassId) (p1 : Int32) (p2 : Int32) (x : QX) (post : Int32 → QX → Prop) (hw : qw_S_marked p1 p2 x post) : qa_Ci l y_S_marked qv_S_marked qr_S_marked (dC, dI) classes (qC_t k) (qC_w a k) [.ref (a 0), .int p1, .int p2] x post := by
  refine qa_ofWi (by decide) (Nat.le_of_ble_eq_true rfl) ?_
  intro p e s m args below meth c A H locs ls C S hl
  replace hl : lv_has ls 3 [(0, .ref (a 0)), (1, .int p1), (2, .int p2)] := hl
  have hx := C.1
  have hb := C.2.1
  unfold qw_S_marked at hw
  refine lv_aload_n hx hb d_S_marked_0 rfl (lv_at hl 0 rfl) ?_
  refine qf_C_S_operations C S qh_101 d_S_marked_1 ?_
  refine lv_iload_n hx hb d_S_marked_4 rfl (lv_at hl 1 rfl) ?_
  refine lv_iload_n hx hb d_S_marked_5 rfl (lv_at hl 2 rfl) ?_
  refine qa_calli (qa_runV (As := [.int p1, .int p2]) (rest := []) C S (qc_O_markIn l dC dI a k _ _ _ _ hw H.size) (cwV 2 C.2.2.2.2.1 qo_S_146_O_markIn rfl rfl rfl qd_O_markIn ⟨Nat.le_of_ble_eq_true rfl, Nat.le_of_ble_eq_true rfl⟩) (va_recv (q0 := 2) (ci := 2) S.2.2.1 S.1 rfl rfl) rfl hl.1 rfl (Nat.le_of_ble_eq_true rfl) d_S_marked_6) S (fun r2 x1 H locs hw S => ?_)
  exact qa_reti C S hw d_S_marked_9
set_option maxHeartbeats 4000000 in
set_option maxRecDepth 100000 in
theorem qk_C_parentsOf_H5 {p : Program} {l : Launch} {e : Env} {s : State} {m : MethodId} {args : Array Value} {below : List Frame} {meth : Method} {c : Code} {A : Nat → Prop} {dC : Nat → ClassId} {dI : Nat → Nat → Nat} {a : Nat → Nat} {k : Nat → ClassId} (C : qa_X p s m args meth c b_C_parentsOf 6 (some .long) R_C)  (post : Int64 → QX → Prop)  : ∀ (n : Nat), ∀ (v1 : Int64) (v3 : Int64) (v5 : Int32) (x : QX) (H : Heap) (locs : List Loc) (ls : Array Slot), qw_C_parentsOf_H5  post n v1 v3 v5 x → qa_S (dC, dI) classes (qC_t k) (qC_w a k) A s x H locs → lv_has ls 6 [(0, .ref (a 1)), (1, .long v1), (3, .long v3), (5, .int v5)] → W p l e qr_C_parentsOf s m args below meth c H locs 0 0 (MQ below (va_Ql post (qa_B (dC, dI) classes (qC_t k) (qC_w a k) A) A) args s 0 0 A) (F0 m 5 ls []) := by
  have hx := C.1
  have hb := C.2.1
  intro n
  induction n with
  | zero => intro v1 v3 v5 x H locs ls hw S hl; exact False.elim hw
  | succ n ih =>
    intro v1 v3 v5 x H locs ls hw S hl
    replace hw : qw_C_parentsOf_S5  post (qw_C_parentsOf_H5  post n) v1 v3 v5 x := hw
    unfold qw_C_parentsOf_S5 at hw
    refine lv_iload hx hb d_C_parentsOf_5 (lv_at hl 3 rfl) ?_
    refine lv_aload_n hx hb d_C_parentsOf_7 rfl (lv_at hl 0 rfl) ?_
    refine qf_C_C_size C S qh_25 d_C_parentsOf_8 ?_
    refine lv_icmp_ge (tgt := 42) hx hb d_C_parentsOf_11 rfl (fun hc => ?_) (fun hc => ?_)
    · replace hw := hw.1 hc
      refine lv_lload_n hx hb d_C_parentsOf_42 rfl (lv_at hl 2 rfl) ?_
      exact qa_retl C S hw d_C_parentsOf_43
    replace hw := hw.2 hc
    refine lv_iload hx hb d_C_parentsOf_14 (lv_at hl 3 rfl) ?_
    refine lv_lload_n hx hb d_C_parentsOf_16 rfl (lv_at hl 1 rfl) ?_
    refine qa_calli (qa_runSN (As := [.int v5, .long v1]) (rest := []) C S (qc_S_isIn l dC dI a k _ _ _ _ hw H.size) ⟨va_cnB 2 C.2.2.2.2.1 qo_S_isIn rfl rfl rfl (S.2.2.2.2.2 _ qh_228) (C.2.2.2.2.1 _ qh_1) qd_S_isIn.2 ⟨Nat.le_of_ble_eq_true rfl, Nat.le_of_ble_eq_true rfl⟩, C.2.2.2.2.1 _ qh_162, trivial⟩ rfl hl.1 rfl (Nat.le_of_ble_eq_true rfl) d_C_parentsOf_17) S (fun r2 x1 H locs hw S => ?_)
    refine lv_if_eq (tgt := 36) hx hb d_C_parentsOf_20 rfl (fun hc => ?_) (fun hc => ?_)
    · replace hw := hw.1 hc
      refine lv_iinc (k := 3) (v := v5 + 1) (lv' := [(5, .int (v5 + 1)), (0, .ref (a 1)), (1, .long v1), (3, .long v3)]) hx hb d_C_parentsOf_36 hl rfl rfl (by decide) rfl (fun ls hl => ?_)
      refine lv_goto (tgt := 5) hx hb d_C_parentsOf_39 rfl ?_
      exact ih _ _ _ _ _ _ _ hw S (lv_sub hl [1, 2, 3, 0] rfl)
    replace hw := hw.2 hc
    refine lv_lload_n hx hb d_C_parentsOf_23 rfl (lv_at hl 2 rfl) ?_
    refine lv_aload_n hx hb d_C_parentsOf_24 rfl (lv_at hl 0 rfl) ?_
    refine qf_C_C_parents C S qh_22 d_C_parentsOf_25 ?_
    refine lv_iload hx hb d_C_parentsOf_28 (lv_at hl 3 rfl) ?_
    obtain ⟨hi, hw⟩ := hw
    refine qe_C_parents C S hi d_C_parentsOf_30 ?_
    refine qa_calll (qa_runSN (As := [.int (gA x1 1 v5.toNatClampNeg)]) (rest := [.long v3]) C S (qc_S_bit l dC dI a k _ _ _ hw H.size) ⟨va_cnB 1 C.2.2.2.2.1 qo_S_bit rfl rfl rfl (S.2.2.2.2.2 _ qh_226) (C.2.2.2.2.1 _ qh_1) qd_S_bit.2 ⟨Nat.le_of_ble_eq_true rfl, Nat.le_of_ble_eq_true rfl⟩, C.2.2.2.2.1 _ qh_48, trivial⟩ rfl hl.1 rfl (Nat.le_of_ble_eq_true rfl) d_C_parentsOf_31) S (fun r4 x3 H locs hw S => ?_)
    refine lv_lor hx hb d_C_parentsOf_34 ?_
    refine lv_topl (fun t5 et5 => ?_)
    replace hw := hw t5 et5
    refine lv_lstore_n (lv' := [(3, .long t5), (0, .ref (a 1)), (1, .long v1), (5, .int v5)]) hx hb d_C_parentsOf_35 rfl hl (by decide) rfl (fun ls hl => ?_)
    refine lv_iinc (k := 3) (v := v5 + 1) (lv' := [(5, .int (v5 + 1)), (3, .long t5), (0, .ref (a 1)), (1, .long v1)]) hx hb d_C_parentsOf_36 hl rfl rfl (by decide) rfl (fun ls hl => ?_)
    refine lv_goto (tgt := 5) hx hb d_C_parentsOf_39 rfl ?_
    exact ih _ _ _ _ _ _ _ hw S (lv_sub hl [2, 3, 1, 0] rfl)
set_option maxHeartbeats 4000000 in
set_option maxRecDepth 100000 in
theorem qc_C_parentsOf (l : Launch) (dC : Nat → ClassId) (dI : Nat → Nat → Nat) (a : Nat → Nat) (k : Nat → ClassId) (p1 : Int64) (x : QX) (post : Int64 → QX → Prop) (hw : qw_C_parentsOf p1 x post) : qa_Cl l y_C_parentsOf qv_C_parentsOf qr_C_parentsOf (dC, dI) classes (qC_t k) (qC_w a k) [.ref (a 1), .long p1] x post := by
  refine qa_ofWl (by decide) (Nat.le_of_ble_eq_true rfl) ?_
  intro p e s m args below meth c A H locs ls C S hl
  replace hl : lv_has ls 6 [(0, .ref (a 1)), (1, .long p1)] := hl
  have hx := C.1
  have hb := C.2.1
  unfold qw_C_parentsOf at hw
  refine lv_lconst (v := 0) hx hb d_C_parentsOf_0 (by decide) ?_
  refine lv_lstore_n (lv' := [(3, .long (0 : Int64)), (0, .ref (a 1)), (1, .long p1)]) hx hb d_C_parentsOf_1 rfl hl (by decide) rfl (fun ls hl => ?_)
  refine lv_iconst (v := 1) hx hb d_C_parentsOf_2 (by decide) ?_
  refine lv_istore (lv' := [(5, .int (1 : Int32)), (3, .long (0 : Int64)), (0, .ref (a 1)), (1, .long p1)]) hx hb d_C_parentsOf_3 hl (by decide) rfl (fun ls hl => ?_)
  exact qk_C_parentsOf_H5 C post qFU _ _ _ _ _ _ _ hw S (lv_sub hl [2, 3, 1, 0] rfl)
set_option maxHeartbeats 4000000 in
set_option maxRecDepth 100000 in
theorem qk_S_head_H31 {p : Program} {l : Launch} {e : Env} {s : State} {m : MethodId} {args : Array Value} {below : List Frame} {meth : Method} {c : Code} {A : Nat → Prop} {dC : Nat → ClassId} {dI : Nat → Nat → Nat} {a : Nat → Nat} {k : Nat → ClassId} (C : qa_X p s m args meth c b_S_head 9 (some .int) R_S)  (post : Int32 → QX → Prop)  : ∀ (n : Nat), ∀ (v1 : Int32) (v2 : Int32) (v3 : Int64) (v5 : Int64) (v7 : Int32) (v8 : Int32) (x : QX) (H : Heap) (locs : List Loc) (ls : Array Slot), qw_S_head_H31  post n v1 v2 v3 v5 v7 v8 x → qa_S (dC, dI) classes (qC_t k) (qC_w a k) A s x H locs → lv_has ls 9 [(0, .ref (a 0)), (1, .int v1), (2, .int v2), (3, .long v3), (5, .long v5), (7, .int v7), (8, .int v8)] → W p l e qr_S_head s m args below meth c H locs 0 0 (MQ below (va_Qi post (qa_B (dC, dI) classes (qC_t k) (qC_w a k) A) A) args s 0 0 A) (F0 m 31 ls []) := by
  have hx := C.1
  have hb := C.2.1
  intro n
  induction n with
  | zero => intro v1 v2 v3 v5 v7 v8 x H locs ls hw S hl; exact False.elim hw
  | succ n ih =>
    intro v1 v2 v3 v5 v7 v8 x H locs ls hw S hl
    replace hw : qw_S_head_S31  post (qw_S_head_H31  post n) v1 v2 v3 v5 v7 v8 x := hw
    unfold qw_S_head_S31 at hw
    refine lv_iload hx hb d_S_head_31 (lv_at hl 6 rfl) ?_
    refine lv_bipush (v := 60) hx hb d_S_head_33 (by decide) ?_
    refine lv_icmp_ge (tgt := 66) hx hb d_S_head_35 rfl (fun hc => ?_) (fun hc => ?_)
    · replace hw := hw.1 hc
      refine lv_iconst (v := -1) hx hb d_S_head_66 (by decide) ?_
      exact qa_reti C S hw d_S_head_67
    replace hw := hw.2 hc
    refine lv_iload hx hb d_S_head_38 (lv_at hl 6 rfl) ?_
    refine lv_lload hx hb d_S_head_40 (lv_at hl 4 rfl) ?_
    refine qa_calli (qa_runS (As := [.int v8, .long v5]) (rest := []) C S (qc_S_isIn l dC dI a k _ _ _ _ hw H.size) (cwS 2 C.2.2.2.2.1 qo_S_107_S_isIn rfl rfl rfl qd_S_isIn ⟨Nat.le_of_ble_eq_true rfl, Nat.le_of_ble_eq_true rfl⟩) rfl hl.1 rfl (Nat.le_of_ble_eq_true rfl) d_S_head_42) S (fun r7 x6 H locs hw S => ?_)
    refine lv_if_eq (tgt := 60) hx hb d_S_head_45 rfl (fun hc => ?_) (fun hc => ?_)
    · replace hw := hw.1 hc
      refine lv_iinc (k := 6) (v := v8 + 1) (lv' := [(8, .int (v8 + 1)), (0, .ref (a 0)), (1, .int v1), (2, .int v2), (3, .long v3), (5, .long v5), (7, .int v7)]) hx hb d_S_head_60 hl rfl rfl (by decide) rfl (fun ls hl => ?_)
      refine lv_goto (tgt := 31) hx hb d_S_head_63 rfl ?_
      exact ih _ _ _ _ _ _ _ _ _ _ hw S (lv_sub hl [1, 2, 3, 4, 5, 6, 0] rfl)
    replace hw := hw.2 hc
    refine lv_iload hx hb d_S_head_48 (lv_at hl 5 rfl) ?_
    refine lv_iload_n hx hb d_S_head_50 rfl (lv_at hl 2 rfl) ?_
    refine lv_icmp_ne (tgt := 57) hx hb d_S_head_51 rfl (fun hc => ?_) (fun hc => ?_)
    · replace hw := hw.1 hc
      refine lv_iinc (k := 5) (v := v7 + 1) (lv' := [(7, .int (v7 + 1)), (0, .ref (a 0)), (1, .int v1), (2, .int v2), (3, .long v3), (5, .long v5), (8, .int v8)]) hx hb d_S_head_57 hl rfl rfl (by decide) rfl (fun ls hl => ?_)
      refine lv_iinc (k := 6) (v := v8 + 1) (lv' := [(8, .int (v8 + 1)), (7, .int (v7 + 1)), (0, .ref (a 0)), (1, .int v1), (2, .int v2), (3, .long v3), (5, .long v5)]) hx hb d_S_head_60 hl rfl rfl (by decide) rfl (fun ls hl => ?_)
      refine lv_goto (tgt := 31) hx hb d_S_head_63 rfl ?_
      exact ih _ _ _ _ _ _ _ _ _ _ hw S (lv_sub hl [2, 3, 4, 5, 6, 1, 0] rfl)
    replace hw := hw.2 hc
    refine lv_iload hx hb d_S_head_54 (lv_at hl 6 rfl) ?_
    exact qa_reti C S hw d_S_head_56
set_option maxHeartbeats 4000000 in
set_option maxRecDepth 100000 in
theorem qc_S_head (l : Launch) (dC : Nat → ClassId) (dI : Nat → Nat → Nat) (a : Nat → Nat) (k : Nat → ClassId) (p1 : Int32) (p2 : Int32) (x : QX) (post : Int32 → QX → Prop) (hw : qw_S_head p1 p2 x post) : qa_Ci l y_S_head qv_S_head qr_S_head (dC, dI) classes (qC_t k) (qC_w a k) [.ref (a 0), .int p1, .int p2] x post := by
  refine qa_ofWi (by decide) (Nat.le_of_ble_eq_true rfl) ?_
  intro p e s m args below meth c A H locs ls C S hl
  replace hl : lv_has ls 9 [(0, .ref (a 0)), (1, .int p1), (2, .int p2)] := hl
  have hx := C.1
  have hb := C.2.1
  unfold qw_S_head at hw
  refine lv_aload_n hx hb d_S_head_0 rfl (lv_at hl 0 rfl) ?_
  refine qf_C_S_operations C S qh_101 d_S_head_1 ?_
  refine lv_iload_n hx hb d_S_head_4 rfl (lv_at hl 1 rfl) ?_
  refine qa_calll (qa_runV (As := [.int p1]) (rest := []) C S (qc_O_shownIn l dC dI a k _ _ _ hw H.size) (cwV 1 C.2.2.2.2.1 qo_S_140_O_shownIn rfl rfl rfl qd_O_shownIn ⟨Nat.le_of_ble_eq_true rfl, Nat.le_of_ble_eq_true rfl⟩) (va_recv (q0 := 2) (ci := 2) S.2.2.1 S.1 rfl rfl) rfl hl.1 rfl (Nat.le_of_ble_eq_true rfl) d_S_head_5) S (fun r2 x1 H locs hw S => ?_)
  refine lv_lstore_n (lv' := [(3, .long r2), (0, .ref (a 0)), (1, .int p1), (2, .int p2)]) hx hb d_S_head_8 rfl hl (by decide) rfl (fun ls hl => ?_)
  refine lv_lload_n hx hb d_S_head_9 rfl (lv_at hl 0 rfl) ?_
  refine lv_aload_n hx hb d_S_head_10 rfl (lv_at hl 1 rfl) ?_
  refine qf_C_S_commits C S qh_100 d_S_head_11 ?_
  refine lv_lload_n hx hb d_S_head_14 rfl (lv_at hl 0 rfl) ?_
  refine qa_calll (qa_runV (As := [.long r2]) (rest := [.long r2]) C S (qc_C_parentsOf l dC dI a k _ _ _ hw H.size) (cwV 1 C.2.2.2.2.1 qo_S_149_C_parentsOf rfl rfl rfl qd_C_parentsOf ⟨Nat.le_of_ble_eq_true rfl, Nat.le_of_ble_eq_true rfl⟩) (va_recv (q0 := 1) (ci := 1) S.2.2.1 S.1 rfl rfl) rfl hl.1 rfl (Nat.le_of_ble_eq_true rfl) d_S_head_15) S (fun r4 x3 H locs hw S => ?_)
  refine lv_ldc2 (v := -1) hx hb C.2.2.2.2.2.1 (C.2.2.2.2.1 _ qh_403) d_S_head_18 ?_
  refine lv_lxor hx hb d_S_head_21 ?_
  refine lv_land hx hb d_S_head_22 ?_
  refine lv_topl (fun t5 et5 => ?_)
  replace hw := hw t5 et5
  refine lv_lstore (lv' := [(5, .long t5), (3, .long r2), (0, .ref (a 0)), (1, .int p1), (2, .int p2)]) hx hb d_S_head_23 hl (by decide) rfl (fun ls hl => ?_)
  refine lv_iconst (v := 0) hx hb d_S_head_25 (by decide) ?_
  refine lv_istore (lv' := [(7, .int (0 : Int32)), (5, .long t5), (3, .long r2), (0, .ref (a 0)), (1, .int p1), (2, .int p2)]) hx hb d_S_head_26 hl (by decide) rfl (fun ls hl => ?_)
  refine lv_iconst (v := 0) hx hb d_S_head_28 (by decide) ?_
  refine lv_istore (lv' := [(8, .int (0 : Int32)), (7, .int (0 : Int32)), (5, .long t5), (3, .long r2), (0, .ref (a 0)), (1, .int p1), (2, .int p2)]) hx hb d_S_head_29 hl (by decide) rfl (fun ls hl => ?_)
  exact qk_S_head_H31 C post qFU _ _ _ _ _ _ _ _ _ _ hw S (lv_sub hl [4, 5, 6, 3, 2, 1, 0] rfl)
set_option maxHeartbeats 4000000 in
set_option maxRecDepth 100000 in
theorem qc_S_commit (l : Launch) (dC : Nat → ClassId) (dI : Nat → Nat → Nat) (a : Nat → Nat) (k : Nat → ClassId) (p1 : Int32) (p2 : Int32) (x : QX) (post : Int32 → QX → Prop) (hw : qw_S_commit p1 p2 x post) : qa_Ci l y_S_commit qv_S_commit qr_S_commit (dC, dI) classes (qC_t k) (qC_w a k) [.ref (a 0), .int p1, .int p2] x post := by
  refine qa_ofWi (by decide) (Nat.le_of_ble_eq_true rfl) ?_
  intro p e s m args below meth c A H locs ls C S hl
  replace hl : lv_has ls 3 [(0, .ref (a 0)), (1, .int p1), (2, .int p2)] := hl
  have hx := C.1
  have hb := C.2.1
  unfold qw_S_commit at hw
  refine lv_iload_n hx hb d_S_commit_0 rfl (lv_at hl 2 rfl) ?_
  refine lv_if_ne (tgt := 13) hx hb d_S_commit_1 rfl (fun hc => ?_) (fun hc => ?_)
  · replace hw := hw.1 hc
    refine lv_iload_n hx hb d_S_commit_13 rfl (lv_at hl 2 rfl) ?_
    refine lv_iconst (v := 1) hx hb d_S_commit_14 (by decide) ?_
    refine lv_icmp_ne (tgt := 29) hx hb d_S_commit_15 rfl (fun hc => ?_) (fun hc => ?_)
    · replace hw := hw.1 hc
      refine lv_iconst (v := -1) hx hb d_S_commit_29 (by decide) ?_
      exact qa_reti C S hw d_S_commit_30
    replace hw := hw.2 hc
    refine lv_aload_n hx hb d_S_commit_18 rfl (lv_at hl 0 rfl) ?_
    refine qf_C_S_commits C S qh_100 d_S_commit_19 ?_
    refine lv_iload_n hx hb d_S_commit_22 rfl (lv_at hl 1 rfl) ?_
    refine qa_calli (qa_runV (As := [.int p1]) (rest := []) C S (qc_C_changeOf l dC dI a k _ _ _ hw H.size) (cwV 1 C.2.2.2.2.1 qo_S_82_C_changeOf rfl rfl rfl qd_C_changeOf ⟨Nat.le_of_ble_eq_true rfl, Nat.le_of_ble_eq_true rfl⟩) (va_recv (q0 := 1) (ci := 1) S.2.2.1 S.1 rfl rfl) rfl hl.1 rfl (Nat.le_of_ble_eq_true rfl) d_S_commit_23) S (fun r2 x1 H locs hw S => ?_)
    refine lv_goto (tgt := 30) hx hb d_S_commit_26 rfl ?_
    exact qa_reti C S hw d_S_commit_30
  replace hw := hw.2 hc
  refine lv_aload_n hx hb d_S_commit_4 rfl (lv_at hl 0 rfl) ?_
  refine qf_C_S_commits C S qh_100 d_S_commit_5 ?_
  refine lv_iload_n hx hb d_S_commit_8 rfl (lv_at hl 1 rfl) ?_
  refine qa_calli (qa_runV (As := [.int p1]) (rest := []) C S (qc_C_parentOf l dC dI a k _ _ _ hw H.size) (cwV 1 C.2.2.2.2.1 qo_S_85_C_parentOf rfl rfl rfl qd_C_parentOf ⟨Nat.le_of_ble_eq_true rfl, Nat.le_of_ble_eq_true rfl⟩) (va_recv (q0 := 1) (ci := 1) S.2.2.1 S.1 rfl rfl) rfl hl.1 rfl (Nat.le_of_ble_eq_true rfl) d_S_commit_9) S (fun r4 x3 H locs hw S => ?_)
  exact qa_reti C S hw d_S_commit_12
set_option maxHeartbeats 4000000 in
set_option maxRecDepth 100000 in
theorem qc_S_count (l : Launch) (dC : Nat → ClassId) (dI : Nat → Nat → Nat) (a : Nat → Nat) (k : Nat → ClassId) (p1 : Int32) (p2 : Int32) (p3 : Int32) (x : QX) (post : Int64 → QX → Prop) (hw : qw_S_count p1 p2 p3 x post) : qa_Cl l y_S_count qv_S_count qr_S_count (dC, dI) classes (qC_t k) (qC_w a k) [.ref (a 0), .int p1, .int p2, .int p3] x post := by
  refine qa_ofWl (by decide) (Nat.le_of_ble_eq_true rfl) ?_
  intro p e s m args below meth c A H locs ls C S hl
  replace hl : lv_has ls 4 [(0, .ref (a 0)), (1, .int p1), (2, .int p2), (3, .int p3)] := hl
  have hx := C.1
  have hb := C.2.1
  unfold qw_S_count at hw
  refine lv_aload_n hx hb d_S_count_0 rfl (lv_at hl 0 rfl) ?_
  refine qf_C_S_commits C S qh_100 d_S_count_1 ?_
  refine lv_iload_n hx hb d_S_count_4 rfl (lv_at hl 1 rfl) ?_
  refine lv_iload_n hx hb d_S_count_5 rfl (lv_at hl 2 rfl) ?_
  refine lv_iload_n hx hb d_S_count_6 rfl (lv_at hl 3 rfl) ?_
  refine qa_calll (qa_runV (As := [.int p1, .int p2, .int p3]) (rest := []) C S (qc_C_countOf l dC dI a k _ _ _ _ _ hw H.size) (cwV 3 C.2.2.2.2.1 qo_S_155_C_countOf rfl rfl rfl qd_C_countOf ⟨Nat.le_of_ble_eq_true rfl, Nat.le_of_ble_eq_true rfl⟩) (va_recv (q0 := 1) (ci := 1) S.2.2.1 S.1 rfl rfl) rfl hl.1 rfl (Nat.le_of_ble_eq_true rfl) d_S_count_7) S (fun r2 x1 H locs hw S => ?_)
  exact qa_retl C S hw d_S_count_10
set_option maxHeartbeats 4000000 in
set_option maxRecDepth 100000 in
theorem qc_M_here (l : Launch) (dC : Nat → ClassId) (dI : Nat → Nat → Nat) (a : Nat → Nat) (k : Nat → ClassId)  (x : QX) (post : Int32 → QX → Prop) (hw : qw_M_here  x post) : qa_Ci l y_M_here qv_M_here qr_M_here (dC, dI) classes (qM_t k) (qM_w a k) [.ref (a 0)] x post := by
  refine qa_ofWi (by decide) (Nat.le_of_ble_eq_true rfl) ?_
  intro p e s m args below meth c A H locs ls C S hl
  replace hl : lv_has ls 1 [(0, .ref (a 0))] := hl
  have hx := C.1
  have hb := C.2.1
  unfold qw_M_here at hw
  refine lv_aload_n hx hb d_M_here_0 rfl (lv_at hl 0 rfl) ?_
  refine qf_M_M_current C S qh_431 d_M_here_1 ?_
  refine lv_aload_n hx hb d_M_here_4 rfl (lv_at hl 0 rfl) ?_
  refine qf_M_M_chosen C S qh_434 d_M_here_5 ?_
  obtain ⟨hi, hw⟩ := hw
  refine qe_M_current C S hi d_M_here_8 ?_
  exact qa_reti C S hw d_M_here_9
set_option maxHeartbeats 4000000 in
set_option maxRecDepth 100000 in
theorem qc_M_isVisible (l : Launch) (dC : Nat → ClassId) (dI : Nat → Nat → Nat) (a : Nat → Nat) (k : Nat → ClassId) (p1 : Int32) (p2 : Int32) (x : QX) (post : Int32 → QX → Prop) (hw : qw_M_isVisible p1 p2 x post) : qa_Ci l y_M_isVisible qv_M_isVisible qr_M_isVisible (dC, dI) classes (qM_t k) (qM_w a k) [.ref (a 0), .int p1, .int p2] x post := by
  refine qa_ofWi (by decide) (Nat.le_of_ble_eq_true rfl) ?_
  intro p e s m args below meth c A H locs ls C S hl
  replace hl : lv_has ls 3 [(0, .ref (a 0)), (1, .int p1), (2, .int p2)] := hl
  have hx := C.1
  have hb := C.2.1
  unfold qw_M_isVisible at hw
  refine lv_iload_n hx hb d_M_isVisible_0 rfl (lv_at hl 2 rfl) ?_
  refine lv_if_lt (tgt := 30) hx hb d_M_isVisible_1 rfl (fun hc => ?_) (fun hc => ?_)
  · replace hw := hw.1 hc
    refine lv_iconst (v := 0) hx hb d_M_isVisible_30 (by decide) ?_
    exact qa_retz C S ⟨by decide, hw⟩ d_M_isVisible_31
  replace hw := hw.2 hc
  refine lv_iload_n hx hb d_M_isVisible_4 rfl (lv_at hl 2 rfl) ?_
  refine lv_aload_n hx hb d_M_isVisible_5 rfl (lv_at hl 0 rfl) ?_
  refine qf_M_M_commits C S qh_419 d_M_isVisible_6 ?_
  refine lv_icmp_ge (tgt := 30) hx hb d_M_isVisible_9 rfl (fun hc => ?_) (fun hc => ?_)
  · replace hw := hw.1 hc
    refine lv_iconst (v := 0) hx hb d_M_isVisible_30 (by decide) ?_
    exact qa_retz C S ⟨by decide, hw⟩ d_M_isVisible_31
  replace hw := hw.2 hc
  refine lv_aload_n hx hb d_M_isVisible_12 rfl (lv_at hl 0 rfl) ?_
  refine qf_M_M_seen C S qh_428 d_M_isVisible_13 ?_
  refine lv_bipush (v := 60) hx hb d_M_isVisible_16 (by decide) ?_
  refine lv_iload_n hx hb d_M_isVisible_18 rfl (lv_at hl 1 rfl) ?_
  refine lv_imul hx hb d_M_isVisible_19 ?_
  refine lv_iload_n hx hb d_M_isVisible_20 rfl (lv_at hl 2 rfl) ?_
  refine lv_iadd hx hb d_M_isVisible_21 ?_
  obtain ⟨hi, hw⟩ := hw
  refine qe_M_seen C S hi d_M_isVisible_22 ?_
  refine lv_if_eq (tgt := 30) hx hb d_M_isVisible_23 rfl (fun hc => ?_) (fun hc => ?_)
  · replace hw := hw.1 hc
    refine lv_iconst (v := 0) hx hb d_M_isVisible_30 (by decide) ?_
    exact qa_retz C S ⟨by decide, hw⟩ d_M_isVisible_31
  replace hw := hw.2 hc
  refine lv_iconst (v := 1) hx hb d_M_isVisible_26 (by decide) ?_
  refine lv_goto (tgt := 31) hx hb d_M_isVisible_27 rfl ?_
  exact qa_retz C S ⟨by decide, hw⟩ d_M_isVisible_31
set_option maxHeartbeats 4000000 in
set_option maxRecDepth 100000 in
theorem qk_M_begin_H40 {p : Program} {l : Launch} {e : Env} {s : State} {m : MethodId} {args : Array Value} {below : List Frame} {meth : Method} {c : Code} {A : Nat → Prop} {dC : Nat → ClassId} {dI : Nat → Nat → Nat} {a : Nat → Nat} {k : Nat → ClassId} (C : qa_X p s m args meth c b_M_begin 3 none R_M)  (post : QX → Prop)  : ∀ (n : Nat), ∀ (v1 : Int32) (v2 : Int32) (x : QX) (H : Heap) (locs : List Loc) (ls : Array Slot), qw_M_begin_H40  post n v1 v2 x → qa_S (dC, dI) classes (qM_t k) (qM_w a k) A s x H locs → lv_has ls 3 [(0, .ref (a 0)), (1, .int v1), (2, .int v2)] → W p l e qr_M_begin s m args below meth c H locs 0 0 (MQ below (va_Qv post (qa_B (dC, dI) classes (qM_t k) (qM_w a k) A) A) args s 0 0 A) (F0 m 40 ls []) := by
  have hx := C.1
  have hb := C.2.1
  intro n
  induction n with
  | zero => intro v1 v2 x H locs ls hw S hl; exact False.elim hw
  | succ n ih =>
    intro v1 v2 x H locs ls hw S hl
    replace hw : qw_M_begin_S40  post (qw_M_begin_H40  post n) v1 v2 x := hw
    unfold qw_M_begin_S40 at hw
    refine lv_iload_n hx hb d_M_begin_40 rfl (lv_at hl 2 rfl) ?_
    refine lv_iconst (v := 3) hx hb d_M_begin_41 (by decide) ?_
    refine lv_icmp_ge (tgt := 67) hx hb d_M_begin_42 rfl (fun hc => ?_) (fun hc => ?_)
    · replace hw := hw.1 hc
      refine lv_aload_n hx hb d_M_begin_67 rfl (lv_at hl 0 rfl) ?_
      refine lv_aload_n hx hb d_M_begin_68 rfl (lv_at hl 0 rfl) ?_
      refine qf_M_M_work C S qh_430 d_M_begin_69 ?_
      refine lv_iload_n hx hb d_M_begin_72 rfl (lv_at hl 1 rfl) ?_
      obtain ⟨hi, hw⟩ := hw
      refine qe_M_work C S hi d_M_begin_73 ?_
      refine qp_M_M_nowWork C S qh_437 d_M_begin_74 (fun x1 H locs ex1 S => ?_)
      replace hw := hw x1 ex1
      refine lv_aload_n hx hb d_M_begin_77 rfl (lv_at hl 0 rfl) ?_
      refine lv_aload_n hx hb d_M_begin_78 rfl (lv_at hl 0 rfl) ?_
      refine qf_M_M_commits C S qh_419 d_M_begin_79 ?_
      refine qp_M_M_oldCommits C S qh_439 d_M_begin_82 (fun x2 H locs ex2 S => ?_)
      replace hw := hw x2 ex2
      refine lv_aload_n hx hb d_M_begin_85 rfl (lv_at hl 0 rfl) ?_
      refine lv_aload_n hx hb d_M_begin_86 rfl (lv_at hl 0 rfl) ?_
      refine qf_M_M_changes C S qh_420 d_M_begin_87 ?_
      refine qp_M_M_oldChanges C S qh_440 d_M_begin_90 (fun x3 H locs ex3 S => ?_)
      replace hw := hw x3 ex3
      refine lv_aload_n hx hb d_M_begin_93 rfl (lv_at hl 0 rfl) ?_
      refine lv_iconst (v := 0) hx hb d_M_begin_94 (by decide) ?_
      refine qp_M_M_full (by decide) C S qh_441 d_M_begin_95 (fun x4 H locs ex4 S => ?_)
      replace hw := hw x4 ex4
      exact qa_retv C S hw d_M_begin_98
    replace hw := hw.2 hc
    refine lv_aload_n hx hb d_M_begin_45 rfl (lv_at hl 0 rfl) ?_
    refine qf_M_M_nowMark C S qh_436 d_M_begin_46 ?_
    refine lv_iload_n hx hb d_M_begin_49 rfl (lv_at hl 2 rfl) ?_
    refine lv_aload_n hx hb d_M_begin_50 rfl (lv_at hl 0 rfl) ?_
    refine qf_M_M_marks C S qh_429 d_M_begin_51 ?_
    refine lv_iconst (v := 3) hx hb d_M_begin_54 (by decide) ?_
    refine lv_iload_n hx hb d_M_begin_55 rfl (lv_at hl 1 rfl) ?_
    refine lv_imul hx hb d_M_begin_56 ?_
    refine lv_iload_n hx hb d_M_begin_57 rfl (lv_at hl 2 rfl) ?_
    refine lv_iadd hx hb d_M_begin_58 ?_
    obtain ⟨hi, hw⟩ := hw
    refine qe_M_marks C S hi d_M_begin_59 ?_
    obtain ⟨hi, hw⟩ := hw
    refine qt_M_nowMark C S hi d_M_begin_60 (fun x5 H locs ex5 S => ?_)
    replace hw := hw x5 ex5
    refine lv_iinc (k := 2) (v := v2 + 1) (lv' := [(2, .int (v2 + 1)), (0, .ref (a 0)), (1, .int v1)]) hx hb d_M_begin_61 hl rfl rfl (by decide) rfl (fun ls hl => ?_)
    refine lv_goto (tgt := 40) hx hb d_M_begin_64 rfl ?_
    exact ih _ _ _ _ _ _ hw S (lv_sub hl [1, 2, 0] rfl)
set_option maxHeartbeats 4000000 in
set_option maxRecDepth 100000 in
theorem qk_M_begin_H2 {p : Program} {l : Launch} {e : Env} {s : State} {m : MethodId} {args : Array Value} {below : List Frame} {meth : Method} {c : Code} {A : Nat → Prop} {dC : Nat → ClassId} {dI : Nat → Nat → Nat} {a : Nat → Nat} {k : Nat → ClassId} (C : qa_X p s m args meth c b_M_begin 3 none R_M)  (post : QX → Prop)  : ∀ (n : Nat), ∀ (v1 : Int32) (v2 : Int32) (x : QX) (H : Heap) (locs : List Loc) (ls : Array Slot), qw_M_begin_H2  post n v1 v2 x → qa_S (dC, dI) classes (qM_t k) (qM_w a k) A s x H locs → lv_has ls 3 [(0, .ref (a 0)), (1, .int v1), (2, .int v2)] → W p l e qr_M_begin s m args below meth c H locs 0 0 (MQ below (va_Qv post (qa_B (dC, dI) classes (qM_t k) (qM_w a k) A) A) args s 0 0 A) (F0 m 2 ls []) := by
  have hx := C.1
  have hb := C.2.1
  intro n
  induction n with
  | zero => intro v1 v2 x H locs ls hw S hl; exact False.elim hw
  | succ n ih =>
    intro v1 v2 x H locs ls hw S hl
    replace hw : qw_M_begin_S2  post (qw_M_begin_H2  post n) v1 v2 x := hw
    unfold qw_M_begin_S2 at hw
    refine lv_iload_n hx hb d_M_begin_2 rfl (lv_at hl 2 rfl) ?_
    refine lv_bipush (v := 60) hx hb d_M_begin_3 (by decide) ?_
    refine lv_icmp_ge (tgt := 38) hx hb d_M_begin_5 rfl (fun hc => ?_) (fun hc => ?_)
    · replace hw := hw.1 hc
      refine lv_iconst (v := 0) hx hb d_M_begin_38 (by decide) ?_
      refine lv_istore_n (lv' := [(2, .int (0 : Int32)), (0, .ref (a 0)), (1, .int v1)]) hx hb d_M_begin_39 rfl hl (by decide) rfl (fun ls hl => ?_)
      exact qk_M_begin_H40 C post qFU _ _ _ _ _ _ hw S (lv_sub hl [1, 2, 0] rfl)
    replace hw := hw.2 hc
    refine lv_aload_n hx hb d_M_begin_8 rfl (lv_at hl 0 rfl) ?_
    refine qf_M_M_now C S qh_435 d_M_begin_9 ?_
    refine lv_iload_n hx hb d_M_begin_12 rfl (lv_at hl 2 rfl) ?_
    refine lv_aload_n hx hb d_M_begin_13 rfl (lv_at hl 0 rfl) ?_
    refine qf_M_M_seen C S qh_428 d_M_begin_14 ?_
    refine lv_bipush (v := 60) hx hb d_M_begin_17 (by decide) ?_
    refine lv_iload_n hx hb d_M_begin_19 rfl (lv_at hl 1 rfl) ?_
    refine lv_imul hx hb d_M_begin_20 ?_
    refine lv_iload_n hx hb d_M_begin_21 rfl (lv_at hl 2 rfl) ?_
    refine lv_iadd hx hb d_M_begin_22 ?_
    obtain ⟨hi, hw⟩ := hw
    refine qe_M_seen C S hi d_M_begin_23 ?_
    obtain ⟨hi, hw⟩ := hw
    refine qt_M_now C S hi d_M_begin_24 (fun x6 H locs ex6 S => ?_)
    replace hw := hw x6 ex6
    refine lv_aload_n hx hb d_M_begin_25 rfl (lv_at hl 0 rfl) ?_
    refine qf_M_M_replaced C S qh_438 d_M_begin_26 ?_
    refine lv_iload_n hx hb d_M_begin_29 rfl (lv_at hl 2 rfl) ?_
    refine lv_iconst (v := -1) hx hb d_M_begin_30 (by decide) ?_
    obtain ⟨hi, hw⟩ := hw
    refine qt_M_replaced C S hi d_M_begin_31 (fun x7 H locs ex7 S => ?_)
    replace hw := hw x7 ex7
    refine lv_iinc (k := 2) (v := v2 + 1) (lv' := [(2, .int (v2 + 1)), (0, .ref (a 0)), (1, .int v1)]) hx hb d_M_begin_32 hl rfl rfl (by decide) rfl (fun ls hl => ?_)
    refine lv_goto (tgt := 2) hx hb d_M_begin_35 rfl ?_
    exact ih _ _ _ _ _ _ hw S (lv_sub hl [1, 2, 0] rfl)
set_option maxHeartbeats 4000000 in
set_option maxRecDepth 100000 in
theorem qc_M_begin (l : Launch) (dC : Nat → ClassId) (dI : Nat → Nat → Nat) (a : Nat → Nat) (k : Nat → ClassId) (p1 : Int32) (x : QX) (post : QX → Prop) (hw : qw_M_begin p1 x post) : qa_Cv l y_M_begin qv_M_begin qr_M_begin (dC, dI) classes (qM_t k) (qM_w a k) [.ref (a 0), .int p1] x post := by
  refine qa_ofWv (by decide) (Nat.le_of_ble_eq_true rfl) ?_
  intro p e s m args below meth c A H locs ls C S hl
  replace hl : lv_has ls 3 [(0, .ref (a 0)), (1, .int p1)] := hl
  have hx := C.1
  have hb := C.2.1
  unfold qw_M_begin at hw
  refine lv_iconst (v := 0) hx hb d_M_begin_0 (by decide) ?_
  refine lv_istore_n (lv' := [(2, .int (0 : Int32)), (0, .ref (a 0)), (1, .int p1)]) hx hb d_M_begin_1 rfl hl (by decide) rfl (fun ls hl => ?_)
  exact qk_M_begin_H2 C post qFU _ _ _ _ _ _ hw S (lv_sub hl [1, 2, 0] rfl)
set_option maxHeartbeats 4000000 in
set_option maxRecDepth 100000 in
theorem qc_M_fresh (l : Launch) (dC : Nat → ClassId) (dI : Nat → Nat → Nat) (a : Nat → Nat) (k : Nat → ClassId) (p1 : Int32) (p2 : Int32) (x : QX) (post : Int32 → QX → Prop) (hw : qw_M_fresh p1 p2 x post) : qa_Ci l y_M_fresh qv_M_fresh qr_M_fresh (dC, dI) classes (qM_t k) (qM_w a k) [.ref (a 0), .int p1, .int p2] x post := by
  refine qa_ofWi (by decide) (Nat.le_of_ble_eq_true rfl) ?_
  intro p e s m args below meth c A H locs ls C S hl
  replace hl : lv_has ls 3 [(0, .ref (a 0)), (1, .int p1), (2, .int p2)] := hl
  have hx := C.1
  have hb := C.2.1
  unfold qw_M_fresh at hw
  refine lv_aload_n hx hb d_M_fresh_0 rfl (lv_at hl 0 rfl) ?_
  refine qf_M_M_commits C S qh_419 d_M_fresh_1 ?_
  refine lv_bipush (v := 60) hx hb d_M_fresh_4 (by decide) ?_
  refine lv_icmp_ne (tgt := 16) hx hb d_M_fresh_6 rfl (fun hc => ?_) (fun hc => ?_)
  · replace hw := hw.1 hc
    refine lv_aload_n hx hb d_M_fresh_16 rfl (lv_at hl 0 rfl) ?_
    refine qf_M_M_change C S qh_421 d_M_fresh_17 ?_
    refine lv_aload_n hx hb d_M_fresh_20 rfl (lv_at hl 0 rfl) ?_
    refine qf_M_M_commits C S qh_419 d_M_fresh_21 ?_
    refine lv_iload_n hx hb d_M_fresh_24 rfl (lv_at hl 1 rfl) ?_
    obtain ⟨hi, hw⟩ := hw
    refine qt_M_change C S hi d_M_fresh_25 (fun x1 H locs ex1 S => ?_)
    replace hw := hw x1 ex1
    refine lv_aload_n hx hb d_M_fresh_26 rfl (lv_at hl 0 rfl) ?_
    refine qf_M_M_parent C S qh_422 d_M_fresh_27 ?_
    refine lv_aload_n hx hb d_M_fresh_30 rfl (lv_at hl 0 rfl) ?_
    refine qf_M_M_commits C S qh_419 d_M_fresh_31 ?_
    refine lv_iload_n hx hb d_M_fresh_34 rfl (lv_at hl 2 rfl) ?_
    obtain ⟨hi, hw⟩ := hw
    refine qt_M_parent C S hi d_M_fresh_35 (fun x2 H locs ex2 S => ?_)
    replace hw := hw x2 ex2
    refine lv_aload_n hx hb d_M_fresh_36 rfl (lv_at hl 0 rfl) ?_
    refine lv_dup hx hb d_M_fresh_37 rfl ?_
    refine qf_M_M_commits C S qh_419 d_M_fresh_38 ?_
    refine lv_iconst (v := 1) hx hb d_M_fresh_41 (by decide) ?_
    refine lv_iadd hx hb d_M_fresh_42 ?_
    refine qp_M_M_commits C S qh_419 d_M_fresh_43 (fun x3 H locs ex3 S => ?_)
    replace hw := hw x3 ex3
    refine lv_aload_n hx hb d_M_fresh_46 rfl (lv_at hl 0 rfl) ?_
    refine qf_M_M_commits C S qh_419 d_M_fresh_47 ?_
    refine lv_iconst (v := 1) hx hb d_M_fresh_50 (by decide) ?_
    refine lv_isub hx hb d_M_fresh_51 ?_
    exact qa_reti C S hw d_M_fresh_52
  replace hw := hw.2 hc
  refine lv_aload_n hx hb d_M_fresh_9 rfl (lv_at hl 0 rfl) ?_
  refine lv_iconst (v := 1) hx hb d_M_fresh_10 (by decide) ?_
  refine qp_M_M_full (by decide) C S qh_441 d_M_fresh_11 (fun x4 H locs ex4 S => ?_)
  replace hw := hw x4 ex4
  refine lv_iconst (v := -1) hx hb d_M_fresh_14 (by decide) ?_
  exact qa_reti C S hw d_M_fresh_15
set_option maxHeartbeats 4000000 in
set_option maxRecDepth 100000 in
theorem qk_M_copyContents_H2 {p : Program} {l : Launch} {e : Env} {s : State} {m : MethodId} {args : Array Value} {below : List Frame} {meth : Method} {c : Code} {A : Nat → Prop} {dC : Nat → ClassId} {dI : Nat → Nat → Nat} {a : Nat → Nat} {k : Nat → ClassId} (C : qa_X p s m args meth c b_M_copyContents 4 none R_M)  (post : QX → Prop)  : ∀ (n : Nat), ∀ (v1 : Int32) (v2 : Int32) (v3 : Int32) (x : QX) (H : Heap) (locs : List Loc) (ls : Array Slot), qw_M_copyContents_H2  post n v1 v2 v3 x → qa_S (dC, dI) classes (qM_t k) (qM_w a k) A s x H locs → lv_has ls 4 [(0, .ref (a 0)), (1, .int v1), (2, .int v2), (3, .int v3)] → W p l e qr_M_copyContents s m args below meth c H locs 0 0 (MQ below (va_Qv post (qa_B (dC, dI) classes (qM_t k) (qM_w a k) A) A) args s 0 0 A) (F0 m 2 ls []) := by
  have hx := C.1
  have hb := C.2.1
  intro n
  induction n with
  | zero => intro v1 v2 v3 x H locs ls hw S hl; exact False.elim hw
  | succ n ih =>
    intro v1 v2 v3 x H locs ls hw S hl
    replace hw : qw_M_copyContents_S2  post (qw_M_copyContents_H2  post n) v1 v2 v3 x := hw
    unfold qw_M_copyContents_S2 at hw
    refine lv_iload_n hx hb d_M_copyContents_2 rfl (lv_at hl 3 rfl) ?_
    refine lv_bipush (v := 32) hx hb d_M_copyContents_3 (by decide) ?_
    refine lv_icmp_ge (tgt := 36) hx hb d_M_copyContents_5 rfl (fun hc => ?_) (fun hc => ?_)
    · replace hw := hw.1 hc
      exact qa_retv C S hw d_M_copyContents_36
    replace hw := hw.2 hc
    refine lv_aload_n hx hb d_M_copyContents_8 rfl (lv_at hl 0 rfl) ?_
    refine qf_M_M_counts C S qh_423 d_M_copyContents_9 ?_
    refine lv_bipush (v := 32) hx hb d_M_copyContents_12 (by decide) ?_
    refine lv_iload_n hx hb d_M_copyContents_14 rfl (lv_at hl 1 rfl) ?_
    refine lv_imul hx hb d_M_copyContents_15 ?_
    refine lv_iload_n hx hb d_M_copyContents_16 rfl (lv_at hl 3 rfl) ?_
    refine lv_iadd hx hb d_M_copyContents_17 ?_
    refine lv_aload_n hx hb d_M_copyContents_18 rfl (lv_at hl 0 rfl) ?_
    refine qf_M_M_counts C S qh_423 d_M_copyContents_19 ?_
    refine lv_bipush (v := 32) hx hb d_M_copyContents_22 (by decide) ?_
    refine lv_iload_n hx hb d_M_copyContents_24 rfl (lv_at hl 2 rfl) ?_
    refine lv_imul hx hb d_M_copyContents_25 ?_
    refine lv_iload_n hx hb d_M_copyContents_26 rfl (lv_at hl 3 rfl) ?_
    refine lv_iadd hx hb d_M_copyContents_27 ?_
    obtain ⟨hi, hw⟩ := hw
    refine qe_M_counts C S hi d_M_copyContents_28 ?_
    obtain ⟨hi, hw⟩ := hw
    refine qt_M_counts C S hi d_M_copyContents_29 (fun x1 H locs ex1 S => ?_)
    replace hw := hw x1 ex1
    refine lv_iinc (k := 3) (v := v3 + 1) (lv' := [(3, .int (v3 + 1)), (0, .ref (a 0)), (1, .int v1), (2, .int v2)]) hx hb d_M_copyContents_30 hl rfl rfl (by decide) rfl (fun ls hl => ?_)
    refine lv_goto (tgt := 2) hx hb d_M_copyContents_33 rfl ?_
    exact ih _ _ _ _ _ _ _ hw S (lv_sub hl [1, 2, 3, 0] rfl)
set_option maxHeartbeats 4000000 in
set_option maxRecDepth 100000 in
theorem qc_M_copyContents (l : Launch) (dC : Nat → ClassId) (dI : Nat → Nat → Nat) (a : Nat → Nat) (k : Nat → ClassId) (p1 : Int32) (p2 : Int32) (x : QX) (post : QX → Prop) (hw : qw_M_copyContents p1 p2 x post) : qa_Cv l y_M_copyContents qv_M_copyContents qr_M_copyContents (dC, dI) classes (qM_t k) (qM_w a k) [.ref (a 0), .int p1, .int p2] x post := by
  refine qa_ofWv (by decide) (Nat.le_of_ble_eq_true rfl) ?_
  intro p e s m args below meth c A H locs ls C S hl
  replace hl : lv_has ls 4 [(0, .ref (a 0)), (1, .int p1), (2, .int p2)] := hl
  have hx := C.1
  have hb := C.2.1
  unfold qw_M_copyContents at hw
  refine lv_iconst (v := 0) hx hb d_M_copyContents_0 (by decide) ?_
  refine lv_istore_n (lv' := [(3, .int (0 : Int32)), (0, .ref (a 0)), (1, .int p1), (2, .int p2)]) hx hb d_M_copyContents_1 rfl hl (by decide) rfl (fun ls hl => ?_)
  exact qk_M_copyContents_H2 C post qFU _ _ _ _ _ _ _ hw S (lv_sub hl [1, 2, 3, 0] rfl)
