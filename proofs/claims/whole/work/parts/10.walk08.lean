set_option maxHeartbeats 4000000 in
set_option maxRecDepth 100000 in
theorem qk_M_loose_H2 {p : Program} {l : Launch} {e : Env} {s : State} {m : MethodId} {args : Array Value} {below : List Frame} {meth : Method} {c : Code} {A : Nat → Prop} {dC : Nat → ClassId} {dI : Nat → Nat → Nat} {a : Nat → Nat} {k : Nat → ClassId} (C : qa_X p s m args meth c b_M_loose 2 (some .int) R_M)  (post : Int32 → QX → Prop)  : ∀ (n : Nat), ∀ (v1 : Int32) (x : QX) (H : Heap) (locs : List Loc) (ls : Array Slot), qw_M_loose_H2  post n v1 x → qa_S (dC, dI) classes (qM_t k) (qM_w a k) A s x H locs → lv_has ls 2 [(0, .ref (a 0)), (1, .int v1)] → W p l e qr_M_loose s m args below meth c H locs 0 0 (MQ below (va_Qi post (qa_B (dC, dI) classes (qM_t k) (qM_w a k) A) A) args s 0 0 A) (F0 m 2 ls []) := by
  have hx := C.1
  have hb := C.2.1
  intro n
  induction n with
  | zero => intro v1 x H locs ls hw S hl; exact False.elim hw
  | succ n ih =>
    intro v1 x H locs ls hw S hl
    replace hw : qw_M_loose_S2  post (qw_M_loose_H2  post n) v1 x := hw
    unfold qw_M_loose_S2 at hw
    refine lv_iload_n hx hb d_M_loose_2 rfl (lv_at hl 1 rfl) ?_
    refine lv_aload_n hx hb d_M_loose_3 rfl (lv_at hl 0 rfl) ?_
    refine qf_M_M_commits C S qh_419 d_M_loose_4 ?_
    refine lv_icmp_ge (tgt := 41) hx hb d_M_loose_7 rfl (fun hc => ?_) (fun hc => ?_)
    · replace hw := hw.1 hc
      refine lv_iconst (v := -1) hx hb d_M_loose_41 (by decide) ?_
      exact qa_reti C S hw d_M_loose_42
    replace hw := hw.2 hc
    refine lv_aload_n hx hb d_M_loose_10 rfl (lv_at hl 0 rfl) ?_
    refine qf_M_M_now C S qh_435 d_M_loose_11 ?_
    refine lv_iload_n hx hb d_M_loose_14 rfl (lv_at hl 1 rfl) ?_
    obtain ⟨hi, hw⟩ := hw
    refine qe_M_now C S hi d_M_loose_15 ?_
    refine lv_if_eq (tgt := 35) hx hb d_M_loose_16 rfl (fun hc => ?_) (fun hc => ?_)
    · replace hw := hw.1 hc
      refine lv_iinc (k := 1) (v := v1 + 1) (lv' := [(1, .int (v1 + 1)), (0, .ref (a 0))]) hx hb d_M_loose_35 hl rfl rfl (by decide) rfl (fun ls hl => ?_)
      refine lv_goto (tgt := 2) hx hb d_M_loose_38 rfl ?_
      exact ih _ _ _ _ _ hw S (lv_sub hl [1, 0] rfl)
    replace hw := hw.2 hc
    refine lv_aload_n hx hb d_M_loose_19 rfl (lv_at hl 0 rfl) ?_
    refine qf_M_M_now C S qh_435 d_M_loose_20 ?_
    refine lv_aload_n hx hb d_M_loose_23 rfl (lv_at hl 0 rfl) ?_
    refine qf_M_M_parent C S qh_422 d_M_loose_24 ?_
    refine lv_iload_n hx hb d_M_loose_27 rfl (lv_at hl 1 rfl) ?_
    obtain ⟨hi, hw⟩ := hw
    refine qe_M_parent C S hi d_M_loose_28 ?_
    obtain ⟨hi, hw⟩ := hw
    refine qe_M_now C S hi d_M_loose_29 ?_
    refine lv_if_ne (tgt := 35) hx hb d_M_loose_30 rfl (fun hc => ?_) (fun hc => ?_)
    · replace hw := hw.1 hc
      refine lv_iinc (k := 1) (v := v1 + 1) (lv' := [(1, .int (v1 + 1)), (0, .ref (a 0))]) hx hb d_M_loose_35 hl rfl rfl (by decide) rfl (fun ls hl => ?_)
      refine lv_goto (tgt := 2) hx hb d_M_loose_38 rfl ?_
      exact ih _ _ _ _ _ hw S (lv_sub hl [1, 0] rfl)
    replace hw := hw.2 hc
    refine lv_iload_n hx hb d_M_loose_33 rfl (lv_at hl 1 rfl) ?_
    exact qa_reti C S hw d_M_loose_34
set_option maxHeartbeats 4000000 in
set_option maxRecDepth 100000 in
theorem qc_M_loose (l : Launch) (dC : Nat → ClassId) (dI : Nat → Nat → Nat) (a : Nat → Nat) (k : Nat → ClassId)  (x : QX) (post : Int32 → QX → Prop) (hw : qw_M_loose  x post) : qa_Ci l y_M_loose qv_M_loose qr_M_loose (dC, dI) classes (qM_t k) (qM_w a k) [.ref (a 0)] x post := by
  refine qa_ofWi (by decide) (Nat.le_of_ble_eq_true rfl) ?_
  intro p e s m args below meth c A H locs ls C S hl
  replace hl : lv_has ls 2 [(0, .ref (a 0))] := hl
  have hx := C.1
  have hb := C.2.1
  unfold qw_M_loose at hw
  refine lv_iconst (v := 1) hx hb d_M_loose_0 (by decide) ?_
  refine lv_istore_n (lv' := [(1, .int (1 : Int32)), (0, .ref (a 0))]) hx hb d_M_loose_1 rfl hl (by decide) rfl (fun ls hl => ?_)
  exact qk_M_loose_H2 C post qFU _ _ _ _ _ hw S (lv_sub hl [1, 0] rfl)
set_option maxHeartbeats 4000000 in
set_option maxRecDepth 100000 in
theorem qk_M_comesOf_H2 {p : Program} {l : Launch} {e : Env} {s : State} {m : MethodId} {args : Array Value} {below : List Frame} {meth : Method} {c : Code} {A : Nat → Prop} {dC : Nat → ClassId} {dI : Nat → Nat → Nat} {a : Nat → Nat} {k : Nat → ClassId} (C : qa_X p s m args meth c b_M_comesOf 4 (some .boolean) R_M)  (post : Int32 → QX → Prop)  : ∀ (n : Nat), ∀ (v1 : Int32) (v2 : Int32) (v3 : Int32) (x : QX) (H : Heap) (locs : List Loc) (ls : Array Slot), qw_M_comesOf_H2  post n v1 v2 v3 x → qa_S (dC, dI) classes (qM_t k) (qM_w a k) A s x H locs → lv_has ls 4 [(0, .ref (a 0)), (1, .int v1), (2, .int v2), (3, .int v3)] → W p l e qr_M_comesOf s m args below meth c H locs 0 0 (MQ below (va_Qi post (qa_B (dC, dI) classes (qM_t k) (qM_w a k) A) A) args s 0 0 A) (F0 m 2 ls []) := by
  have hx := C.1
  have hb := C.2.1
  intro n
  induction n with
  | zero => intro v1 v2 v3 x H locs ls hw S hl; exact False.elim hw
  | succ n ih =>
    intro v1 v2 v3 x H locs ls hw S hl
    replace hw : qw_M_comesOf_S2  post (qw_M_comesOf_H2  post n) v1 v2 v3 x := hw
    unfold qw_M_comesOf_S2 at hw
    refine lv_iload_n hx hb d_M_comesOf_2 rfl (lv_at hl 3 rfl) ?_
    refine lv_iload_n hx hb d_M_comesOf_3 rfl (lv_at hl 2 rfl) ?_
    refine lv_icmp_le (tgt := 17) hx hb d_M_comesOf_4 rfl (fun hc => ?_) (fun hc => ?_)
    · replace hw := hw.1 hc
      refine lv_iload_n hx hb d_M_comesOf_17 rfl (lv_at hl 3 rfl) ?_
      refine lv_iload_n hx hb d_M_comesOf_18 rfl (lv_at hl 2 rfl) ?_
      refine lv_icmp_ne (tgt := 26) hx hb d_M_comesOf_19 rfl (fun hc => ?_) (fun hc => ?_)
      · replace hw := hw.1 hc
        refine lv_iconst (v := 0) hx hb d_M_comesOf_26 (by decide) ?_
        exact qa_retz C S ⟨by decide, hw⟩ d_M_comesOf_27
      replace hw := hw.2 hc
      refine lv_iconst (v := 1) hx hb d_M_comesOf_22 (by decide) ?_
      refine lv_goto (tgt := 27) hx hb d_M_comesOf_23 rfl ?_
      exact qa_retz C S ⟨by decide, hw⟩ d_M_comesOf_27
    replace hw := hw.2 hc
    refine lv_aload_n hx hb d_M_comesOf_7 rfl (lv_at hl 0 rfl) ?_
    refine qf_M_M_parent C S qh_422 d_M_comesOf_8 ?_
    refine lv_iload_n hx hb d_M_comesOf_11 rfl (lv_at hl 3 rfl) ?_
    obtain ⟨hi, hw⟩ := hw
    refine qe_M_parent C S hi d_M_comesOf_12 ?_
    refine lv_topi (fun t1 et1 => ?_)
    replace hw := hw t1 et1
    refine lv_istore_n (lv' := [(3, .int t1), (0, .ref (a 0)), (1, .int v1), (2, .int v2)]) hx hb d_M_comesOf_13 rfl hl (by decide) rfl (fun ls hl => ?_)
    refine lv_goto (tgt := 2) hx hb d_M_comesOf_14 rfl ?_
    exact ih _ _ _ _ _ _ _ hw S (lv_sub hl [1, 2, 3, 0] rfl)
set_option maxHeartbeats 4000000 in
set_option maxRecDepth 100000 in
theorem qc_M_comesOf (l : Launch) (dC : Nat → ClassId) (dI : Nat → Nat → Nat) (a : Nat → Nat) (k : Nat → ClassId) (p1 : Int32) (p2 : Int32) (x : QX) (post : Int32 → QX → Prop) (hw : qw_M_comesOf p1 p2 x post) : qa_Ci l y_M_comesOf qv_M_comesOf qr_M_comesOf (dC, dI) classes (qM_t k) (qM_w a k) [.ref (a 0), .int p1, .int p2] x post := by
  refine qa_ofWi (by decide) (Nat.le_of_ble_eq_true rfl) ?_
  intro p e s m args below meth c A H locs ls C S hl
  replace hl : lv_has ls 4 [(0, .ref (a 0)), (1, .int p1), (2, .int p2)] := hl
  have hx := C.1
  have hb := C.2.1
  unfold qw_M_comesOf at hw
  refine lv_iload_n hx hb d_M_comesOf_0 rfl (lv_at hl 1 rfl) ?_
  refine lv_istore_n (lv' := [(3, .int p1), (0, .ref (a 0)), (1, .int p1), (2, .int p2)]) hx hb d_M_comesOf_1 rfl hl (by decide) rfl (fun ls hl => ?_)
  exact qk_M_comesOf_H2 C post qFU _ _ _ _ _ _ _ hw S (lv_sub hl [1, 2, 3, 0] rfl)
set_option maxHeartbeats 4000000 in
set_option maxRecDepth 100000 in
theorem qk_M_sameChange_H5 {p : Program} {l : Launch} {e : Env} {s : State} {m : MethodId} {args : Array Value} {below : List Frame} {meth : Method} {c : Code} {A : Nat → Prop} {dC : Nat → ClassId} {dI : Nat → Nat → Nat} {a : Nat → Nat} {k : Nat → ClassId} (C : qa_X p s m args meth c b_M_sameChange 5 (some .int) R_M)  (post : Int32 → QX → Prop)  : ∀ (n : Nat), ∀ (v1 : Int32) (v2 : Int32) (v3 : Int32) (v4 : Int32) (x : QX) (H : Heap) (locs : List Loc) (ls : Array Slot), qw_M_sameChange_H5  post n v1 v2 v3 v4 x → qa_S (dC, dI) classes (qM_t k) (qM_w a k) A s x H locs → lv_has ls 5 [(0, .ref (a 0)), (1, .int v1), (2, .int v2), (3, .int v3), (4, .int v4)] → W p l e qr_M_sameChange s m args below meth c H locs 0 0 (MQ below (va_Qi post (qa_B (dC, dI) classes (qM_t k) (qM_w a k) A) A) args s 0 0 A) (F0 m 5 ls []) := by
  have hx := C.1
  have hb := C.2.1
  intro n
  induction n with
  | zero => intro v1 v2 v3 v4 x H locs ls hw S hl; exact False.elim hw
  | succ n ih =>
    intro v1 v2 v3 v4 x H locs ls hw S hl
    replace hw : qw_M_sameChange_S5  post (qw_M_sameChange_H5  post n) v1 v2 v3 v4 x := hw
    unfold qw_M_sameChange_S5 at hw
    refine lv_iload hx hb d_M_sameChange_5 (lv_at hl 4 rfl) ?_
    refine lv_aload_n hx hb d_M_sameChange_7 rfl (lv_at hl 0 rfl) ?_
    refine qf_M_M_commits C S qh_419 d_M_sameChange_8 ?_
    refine lv_icmp_ge (tgt := 67) hx hb d_M_sameChange_11 rfl (fun hc => ?_) (fun hc => ?_)
    · replace hw := hw.1 hc
      refine lv_iload_n hx hb d_M_sameChange_67 rfl (lv_at hl 3 rfl) ?_
      exact qa_reti C S hw d_M_sameChange_68
    replace hw := hw.2 hc
    refine lv_aload_n hx hb d_M_sameChange_14 rfl (lv_at hl 0 rfl) ?_
    refine qf_M_M_now C S qh_435 d_M_sameChange_15 ?_
    refine lv_iload hx hb d_M_sameChange_18 (lv_at hl 4 rfl) ?_
    obtain ⟨hi, hw⟩ := hw
    refine qe_M_now C S hi d_M_sameChange_20 ?_
    refine lv_if_eq (tgt := 59) hx hb d_M_sameChange_21 rfl (fun hc => ?_) (fun hc => ?_)
    · replace hw := hw.1 hc
      refine lv_iload_n hx hb d_M_sameChange_59 rfl (lv_at hl 3 rfl) ?_
      refine lv_istore_n (lv' := [(3, .int v3), (0, .ref (a 0)), (1, .int v1), (2, .int v2), (4, .int v4)]) hx hb d_M_sameChange_60 rfl hl (by decide) rfl (fun ls hl => ?_)
      refine lv_iinc (k := 4) (v := v4 + 1) (lv' := [(4, .int (v4 + 1)), (3, .int v3), (0, .ref (a 0)), (1, .int v1), (2, .int v2)]) hx hb d_M_sameChange_61 hl rfl rfl (by decide) rfl (fun ls hl => ?_)
      refine lv_goto (tgt := 5) hx hb d_M_sameChange_64 rfl ?_
      exact ih _ _ _ _ _ _ _ _ hw S (lv_sub hl [2, 3, 4, 1, 0] rfl)
    replace hw := hw.2 hc
    refine lv_aload_n hx hb d_M_sameChange_24 rfl (lv_at hl 0 rfl) ?_
    refine qf_M_M_change C S qh_421 d_M_sameChange_25 ?_
    refine lv_iload hx hb d_M_sameChange_28 (lv_at hl 4 rfl) ?_
    obtain ⟨hi, hw⟩ := hw
    refine qe_M_change C S hi d_M_sameChange_30 ?_
    refine lv_aload_n hx hb d_M_sameChange_31 rfl (lv_at hl 0 rfl) ?_
    refine qf_M_M_change C S qh_421 d_M_sameChange_32 ?_
    refine lv_iload_n hx hb d_M_sameChange_35 rfl (lv_at hl 1 rfl) ?_
    obtain ⟨hi, hw⟩ := hw
    refine qe_M_change C S hi d_M_sameChange_36 ?_
    refine lv_icmp_ne (tgt := 59) hx hb d_M_sameChange_37 rfl (fun hc => ?_) (fun hc => ?_)
    · replace hw := hw.1 hc
      refine lv_iload_n hx hb d_M_sameChange_59 rfl (lv_at hl 3 rfl) ?_
      refine lv_istore_n (lv' := [(3, .int v3), (0, .ref (a 0)), (1, .int v1), (2, .int v2), (4, .int v4)]) hx hb d_M_sameChange_60 rfl hl (by decide) rfl (fun ls hl => ?_)
      refine lv_iinc (k := 4) (v := v4 + 1) (lv' := [(4, .int (v4 + 1)), (3, .int v3), (0, .ref (a 0)), (1, .int v1), (2, .int v2)]) hx hb d_M_sameChange_61 hl rfl rfl (by decide) rfl (fun ls hl => ?_)
      refine lv_goto (tgt := 5) hx hb d_M_sameChange_64 rfl ?_
      exact ih _ _ _ _ _ _ _ _ hw S (lv_sub hl [2, 3, 4, 1, 0] rfl)
    replace hw := hw.2 hc
    refine lv_iload_n hx hb d_M_sameChange_40 rfl (lv_at hl 2 rfl) ?_
    refine lv_if_lt (tgt := 54) hx hb d_M_sameChange_41 rfl (fun hc => ?_) (fun hc => ?_)
    · replace hw := hw.1 hc
      refine lv_iload hx hb d_M_sameChange_54 (lv_at hl 4 rfl) ?_
      refine lv_goto (tgt := 60) hx hb d_M_sameChange_56 rfl ?_
      refine lv_istore_n (lv' := [(3, .int v4), (0, .ref (a 0)), (1, .int v1), (2, .int v2), (4, .int v4)]) hx hb d_M_sameChange_60 rfl hl (by decide) rfl (fun ls hl => ?_)
      refine lv_iinc (k := 4) (v := v4 + 1) (lv' := [(4, .int (v4 + 1)), (3, .int v4), (0, .ref (a 0)), (1, .int v1), (2, .int v2)]) hx hb d_M_sameChange_61 hl rfl rfl (by decide) rfl (fun ls hl => ?_)
      refine lv_goto (tgt := 5) hx hb d_M_sameChange_64 rfl ?_
      exact ih _ _ _ _ _ _ _ _ hw S (lv_sub hl [2, 3, 4, 1, 0] rfl)
    replace hw := hw.2 hc
    refine lv_aload_n hx hb d_M_sameChange_44 rfl (lv_at hl 0 rfl) ?_
    refine lv_iload hx hb d_M_sameChange_45 (lv_at hl 4 rfl) ?_
    refine lv_iload_n hx hb d_M_sameChange_47 rfl (lv_at hl 2 rfl) ?_
    refine qa_calli (qa_runV (As := [.int v4, .int v2]) (rest := []) C S (qc_M_comesOf l dC dI a k _ _ _ _ hw H.size) (cwV 2 C.2.2.2.2.1 qo_M_81_M_comesOf rfl rfl rfl qd_M_comesOf ⟨Nat.le_of_ble_eq_true rfl, Nat.le_of_ble_eq_true rfl⟩) (va_recv (q0 := 0) (ci := 4) S.2.2.1 S.1 rfl rfl) rfl hl.1 rfl (Nat.le_of_ble_eq_true rfl) d_M_sameChange_48) S (fun r2 x1 H locs hw S => ?_)
    refine lv_if_ne (tgt := 59) hx hb d_M_sameChange_51 rfl (fun hc => ?_) (fun hc => ?_)
    · replace hw := hw.1 hc
      refine lv_iload_n hx hb d_M_sameChange_59 rfl (lv_at hl 3 rfl) ?_
      refine lv_istore_n (lv' := [(3, .int v3), (0, .ref (a 0)), (1, .int v1), (2, .int v2), (4, .int v4)]) hx hb d_M_sameChange_60 rfl hl (by decide) rfl (fun ls hl => ?_)
      refine lv_iinc (k := 4) (v := v4 + 1) (lv' := [(4, .int (v4 + 1)), (3, .int v3), (0, .ref (a 0)), (1, .int v1), (2, .int v2)]) hx hb d_M_sameChange_61 hl rfl rfl (by decide) rfl (fun ls hl => ?_)
      refine lv_goto (tgt := 5) hx hb d_M_sameChange_64 rfl ?_
      exact ih _ _ _ _ _ _ _ _ hw S (lv_sub hl [2, 3, 4, 1, 0] rfl)
    replace hw := hw.2 hc
    refine lv_iload hx hb d_M_sameChange_54 (lv_at hl 4 rfl) ?_
    refine lv_goto (tgt := 60) hx hb d_M_sameChange_56 rfl ?_
    refine lv_istore_n (lv' := [(3, .int v4), (0, .ref (a 0)), (1, .int v1), (2, .int v2), (4, .int v4)]) hx hb d_M_sameChange_60 rfl hl (by decide) rfl (fun ls hl => ?_)
    refine lv_iinc (k := 4) (v := v4 + 1) (lv' := [(4, .int (v4 + 1)), (3, .int v4), (0, .ref (a 0)), (1, .int v1), (2, .int v2)]) hx hb d_M_sameChange_61 hl rfl rfl (by decide) rfl (fun ls hl => ?_)
    refine lv_goto (tgt := 5) hx hb d_M_sameChange_64 rfl ?_
    exact ih _ _ _ _ _ _ _ _ hw S (lv_sub hl [2, 3, 4, 1, 0] rfl)
set_option maxHeartbeats 4000000 in
set_option maxRecDepth 100000 in
theorem qc_M_sameChange (l : Launch) (dC : Nat → ClassId) (dI : Nat → Nat → Nat) (a : Nat → Nat) (k : Nat → ClassId) (p1 : Int32) (p2 : Int32) (x : QX) (post : Int32 → QX → Prop) (hw : qw_M_sameChange p1 p2 x post) : qa_Ci l y_M_sameChange qv_M_sameChange qr_M_sameChange (dC, dI) classes (qM_t k) (qM_w a k) [.ref (a 0), .int p1, .int p2] x post := by
  refine qa_ofWi (by decide) (Nat.le_of_ble_eq_true rfl) ?_
  intro p e s m args below meth c A H locs ls C S hl
  replace hl : lv_has ls 5 [(0, .ref (a 0)), (1, .int p1), (2, .int p2)] := hl
  have hx := C.1
  have hb := C.2.1
  unfold qw_M_sameChange at hw
  refine lv_iconst (v := -1) hx hb d_M_sameChange_0 (by decide) ?_
  refine lv_istore_n (lv' := [(3, .int (-1 : Int32)), (0, .ref (a 0)), (1, .int p1), (2, .int p2)]) hx hb d_M_sameChange_1 rfl hl (by decide) rfl (fun ls hl => ?_)
  refine lv_iconst (v := 0) hx hb d_M_sameChange_2 (by decide) ?_
  refine lv_istore (lv' := [(4, .int (0 : Int32)), (3, .int (-1 : Int32)), (0, .ref (a 0)), (1, .int p1), (2, .int p2)]) hx hb d_M_sameChange_3 hl (by decide) rfl (fun ls hl => ?_)
  exact qk_M_sameChange_H5 C post qFU _ _ _ _ _ _ _ _ hw S (lv_sub hl [2, 3, 4, 1, 0] rfl)
set_option maxHeartbeats 4000000 in
set_option maxRecDepth 100000 in
theorem qk_M_place_H5 {p : Program} {l : Launch} {e : Env} {s : State} {m : MethodId} {args : Array Value} {below : List Frame} {meth : Method} {c : Code} {A : Nat → Prop} {dC : Nat → ClassId} {dI : Nat → Nat → Nat} {a : Nat → Nat} {k : Nat → ClassId} (C : qa_X p s m args meth c b_M_place 6 (some .int) R_M)  (post : Int32 → QX → Prop)  : ∀ (n : Nat), ∀ (v1 : Int32) (v2 : Int32) (v3 : Int32) (v4 : Int32) (x : QX) (H : Heap) (locs : List Loc) (ls : Array Slot), qw_M_place_H5  post n v1 v2 v3 v4 x → qa_S (dC, dI) classes (qM_t k) (qM_w a k) A s x H locs → lv_has ls 6 [(0, .ref (a 0)), (1, .int v1), (2, .int v2), (3, .int v3), (4, .int v4)] → W p l e qr_M_place s m args below meth c H locs 0 0 (MQ below (va_Qi post (qa_B (dC, dI) classes (qM_t k) (qM_w a k) A) A) args s 0 0 A) (F0 m 5 ls []) := by
  have hx := C.1
  have hb := C.2.1
  intro n
  induction n with
  | zero => intro v1 v2 v3 v4 x H locs ls hw S hl; exact False.elim hw
  | succ n ih =>
    intro v1 v2 v3 v4 x H locs ls hw S hl
    replace hw : qw_M_place_S5  post (qw_M_place_H5  post n) v1 v2 v3 v4 x := hw
    unfold qw_M_place_S5 at hw
    refine lv_iload hx hb d_M_place_5 (lv_at hl 4 rfl) ?_
    refine lv_sipush (v := 400) hx hb d_M_place_7 (by decide) ?_
    refine lv_icmp_ge (tgt := 80) hx hb d_M_place_10 rfl (fun hc => ?_) (fun hc => ?_)
    · replace hw := hw.1 hc
      refine lv_iconst (v := 0) hx hb d_M_place_80 (by decide) ?_
      exact qa_reti C S hw d_M_place_81
    replace hw := hw.2 hc
    refine lv_aload_n hx hb d_M_place_13 rfl (lv_at hl 0 rfl) ?_
    refine qf_M_M_now C S qh_435 d_M_place_14 ?_
    refine lv_iload_n hx hb d_M_place_17 rfl (lv_at hl 3 rfl) ?_
    obtain ⟨hi, hw⟩ := hw
    refine qe_M_now C S hi d_M_place_18 ?_
    refine lv_if_eq (tgt := 24) hx hb d_M_place_19 rfl (fun hc => ?_) (fun hc => ?_)
    · replace hw := hw.1 hc
      refine lv_aload_n hx hb d_M_place_24 rfl (lv_at hl 0 rfl) ?_
      refine lv_iload_n hx hb d_M_place_25 rfl (lv_at hl 3 rfl) ?_
      refine lv_iload_n hx hb d_M_place_26 rfl (lv_at hl 2 rfl) ?_
      refine qa_calli (qa_runV (As := [.int v3, .int v2]) (rest := []) C S (qc_M_sameChange l dC dI a k _ _ _ _ hw H.size) (cwV 2 C.2.2.2.2.1 qo_M_85_M_sameChange rfl rfl rfl qd_M_sameChange ⟨Nat.le_of_ble_eq_true rfl, Nat.le_of_ble_eq_true rfl⟩) (va_recv (q0 := 0) (ci := 4) S.2.2.1 S.1 rfl rfl) rfl hl.1 rfl (Nat.le_of_ble_eq_true rfl) d_M_place_27) S (fun r2 x1 H locs hw S => ?_)
      refine lv_istore (lv' := [(5, .int r2), (0, .ref (a 0)), (1, .int v1), (2, .int v2), (3, .int v3), (4, .int v4)]) hx hb d_M_place_30 hl (by decide) rfl (fun ls hl => ?_)
      refine lv_aload_n hx hb d_M_place_32 rfl (lv_at hl 1 rfl) ?_
      refine qf_M_M_replaced C S qh_438 d_M_place_33 ?_
      refine lv_iload_n hx hb d_M_place_36 rfl (lv_at hl 4 rfl) ?_
      obtain ⟨hi, hw⟩ := hw
      refine qe_M_replaced C S hi d_M_place_37 ?_
      refine lv_if_ge (tgt := 49) hx hb d_M_place_38 rfl (fun hc => ?_) (fun hc => ?_)
      · replace hw := hw.1 hc
        refine lv_aload_n hx hb d_M_place_49 rfl (lv_at hl 1 rfl) ?_
        refine qf_M_M_replaced C S qh_438 d_M_place_50 ?_
        refine lv_iload_n hx hb d_M_place_53 rfl (lv_at hl 4 rfl) ?_
        obtain ⟨hi, hw⟩ := hw
        refine qe_M_replaced C S hi d_M_place_54 ?_
        refine lv_if_lt (tgt := 67) hx hb d_M_place_55 rfl (fun hc => ?_) (fun hc => ?_)
        · replace hw := hw.1 hc
          refine lv_aload_n hx hb d_M_place_67 rfl (lv_at hl 1 rfl) ?_
          refine qf_M_M_parent C S qh_422 d_M_place_68 ?_
          refine lv_iload_n hx hb d_M_place_71 rfl (lv_at hl 4 rfl) ?_
          obtain ⟨hi, hw⟩ := hw
          refine qe_M_parent C S hi d_M_place_72 ?_
          refine lv_topi (fun t3 et3 => ?_)
          replace hw := hw t3 et3
          refine lv_istore_n (lv' := [(3, .int t3), (5, .int r2), (0, .ref (a 0)), (1, .int v1), (2, .int v2), (4, .int v4)]) hx hb d_M_place_73 rfl hl (by decide) rfl (fun ls hl => ?_)
          refine lv_iinc (k := 5) (v := v4 + 1) (lv' := [(4, .int (v4 + 1)), (3, .int t3), (5, .int r2), (0, .ref (a 0)), (1, .int v1), (2, .int v2)]) hx hb d_M_place_74 hl rfl rfl (by decide) rfl (fun ls hl => ?_)
          refine lv_goto (tgt := 5) hx hb d_M_place_77 rfl ?_
          exact ih _ _ _ _ _ _ _ _ hw S (lv_sub hl [3, 4, 5, 1, 0] rfl)
        replace hw := hw.2 hc
        refine lv_aload_n hx hb d_M_place_58 rfl (lv_at hl 1 rfl) ?_
        refine qf_M_M_replaced C S qh_438 d_M_place_59 ?_
        refine lv_iload_n hx hb d_M_place_62 rfl (lv_at hl 4 rfl) ?_
        obtain ⟨hi, hw⟩ := hw
        refine qe_M_replaced C S hi d_M_place_63 ?_
        refine lv_goto (tgt := 73) hx hb d_M_place_64 rfl ?_
        refine lv_topi (fun t4 et4 => ?_)
        replace hw := hw t4 et4
        refine lv_istore_n (lv' := [(3, .int t4), (5, .int r2), (0, .ref (a 0)), (1, .int v1), (2, .int v2), (4, .int v4)]) hx hb d_M_place_73 rfl hl (by decide) rfl (fun ls hl => ?_)
        refine lv_iinc (k := 5) (v := v4 + 1) (lv' := [(4, .int (v4 + 1)), (3, .int t4), (5, .int r2), (0, .ref (a 0)), (1, .int v1), (2, .int v2)]) hx hb d_M_place_74 hl rfl rfl (by decide) rfl (fun ls hl => ?_)
        refine lv_goto (tgt := 5) hx hb d_M_place_77 rfl ?_
        exact ih _ _ _ _ _ _ _ _ hw S (lv_sub hl [3, 4, 5, 1, 0] rfl)
      replace hw := hw.2 hc
      refine lv_iload hx hb d_M_place_41 (lv_at hl 0 rfl) ?_
      refine lv_if_lt (tgt := 49) hx hb d_M_place_43 rfl (fun hc => ?_) (fun hc => ?_)
      · replace hw := hw.1 hc
        refine lv_aload_n hx hb d_M_place_49 rfl (lv_at hl 1 rfl) ?_
        refine qf_M_M_replaced C S qh_438 d_M_place_50 ?_
        refine lv_iload_n hx hb d_M_place_53 rfl (lv_at hl 4 rfl) ?_
        obtain ⟨hi, hw⟩ := hw
        refine qe_M_replaced C S hi d_M_place_54 ?_
        refine lv_if_lt (tgt := 67) hx hb d_M_place_55 rfl (fun hc => ?_) (fun hc => ?_)
        · replace hw := hw.1 hc
          refine lv_aload_n hx hb d_M_place_67 rfl (lv_at hl 1 rfl) ?_
          refine qf_M_M_parent C S qh_422 d_M_place_68 ?_
          refine lv_iload_n hx hb d_M_place_71 rfl (lv_at hl 4 rfl) ?_
          obtain ⟨hi, hw⟩ := hw
          refine qe_M_parent C S hi d_M_place_72 ?_
          refine lv_topi (fun t5 et5 => ?_)
          replace hw := hw t5 et5
          refine lv_istore_n (lv' := [(3, .int t5), (5, .int r2), (0, .ref (a 0)), (1, .int v1), (2, .int v2), (4, .int v4)]) hx hb d_M_place_73 rfl hl (by decide) rfl (fun ls hl => ?_)
          refine lv_iinc (k := 5) (v := v4 + 1) (lv' := [(4, .int (v4 + 1)), (3, .int t5), (5, .int r2), (0, .ref (a 0)), (1, .int v1), (2, .int v2)]) hx hb d_M_place_74 hl rfl rfl (by decide) rfl (fun ls hl => ?_)
          refine lv_goto (tgt := 5) hx hb d_M_place_77 rfl ?_
          exact ih _ _ _ _ _ _ _ _ hw S (lv_sub hl [3, 4, 5, 1, 0] rfl)
        replace hw := hw.2 hc
        refine lv_aload_n hx hb d_M_place_58 rfl (lv_at hl 1 rfl) ?_
        refine qf_M_M_replaced C S qh_438 d_M_place_59 ?_
        refine lv_iload_n hx hb d_M_place_62 rfl (lv_at hl 4 rfl) ?_
        obtain ⟨hi, hw⟩ := hw
        refine qe_M_replaced C S hi d_M_place_63 ?_
        refine lv_goto (tgt := 73) hx hb d_M_place_64 rfl ?_
        refine lv_topi (fun t6 et6 => ?_)
        replace hw := hw t6 et6
        refine lv_istore_n (lv' := [(3, .int t6), (5, .int r2), (0, .ref (a 0)), (1, .int v1), (2, .int v2), (4, .int v4)]) hx hb d_M_place_73 rfl hl (by decide) rfl (fun ls hl => ?_)
        refine lv_iinc (k := 5) (v := v4 + 1) (lv' := [(4, .int (v4 + 1)), (3, .int t6), (5, .int r2), (0, .ref (a 0)), (1, .int v1), (2, .int v2)]) hx hb d_M_place_74 hl rfl rfl (by decide) rfl (fun ls hl => ?_)
        refine lv_goto (tgt := 5) hx hb d_M_place_77 rfl ?_
        exact ih _ _ _ _ _ _ _ _ hw S (lv_sub hl [3, 4, 5, 1, 0] rfl)
      replace hw := hw.2 hc
      refine lv_iload hx hb d_M_place_46 (lv_at hl 0 rfl) ?_
      exact qa_reti C S hw d_M_place_48
    replace hw := hw.2 hc
    refine lv_iload_n hx hb d_M_place_22 rfl (lv_at hl 3 rfl) ?_
    exact qa_reti C S hw d_M_place_23
set_option maxHeartbeats 4000000 in
set_option maxRecDepth 100000 in
theorem qc_M_place (l : Launch) (dC : Nat → ClassId) (dI : Nat → Nat → Nat) (a : Nat → Nat) (k : Nat → ClassId) (p1 : Int32) (p2 : Int32) (x : QX) (post : Int32 → QX → Prop) (hw : qw_M_place p1 p2 x post) : qa_Ci l y_M_place qv_M_place qr_M_place (dC, dI) classes (qM_t k) (qM_w a k) [.ref (a 0), .int p1, .int p2] x post := by
  refine qa_ofWi (by decide) (Nat.le_of_ble_eq_true rfl) ?_
  intro p e s m args below meth c A H locs ls C S hl
  replace hl : lv_has ls 6 [(0, .ref (a 0)), (1, .int p1), (2, .int p2)] := hl
  have hx := C.1
  have hb := C.2.1
  unfold qw_M_place at hw
  refine lv_iload_n hx hb d_M_place_0 rfl (lv_at hl 1 rfl) ?_
  refine lv_istore_n (lv' := [(3, .int p1), (0, .ref (a 0)), (1, .int p1), (2, .int p2)]) hx hb d_M_place_1 rfl hl (by decide) rfl (fun ls hl => ?_)
  refine lv_iconst (v := 0) hx hb d_M_place_2 (by decide) ?_
  refine lv_istore (lv' := [(4, .int (0 : Int32)), (3, .int p1), (0, .ref (a 0)), (1, .int p1), (2, .int p2)]) hx hb d_M_place_3 hl (by decide) rfl (fun ls hl => ?_)
  exact qk_M_place_H5 C post qFU _ _ _ _ _ _ _ _ hw S (lv_sub hl [2, 3, 4, 1, 0] rfl)
set_option maxHeartbeats 4000000 in
set_option maxRecDepth 100000 in
theorem qk_M_mix_H18 {p : Program} {l : Launch} {e : Env} {s : State} {m : MethodId} {args : Array Value} {below : List Frame} {meth : Method} {c : Code} {A : Nat → Prop} {dC : Nat → ClassId} {dI : Nat → Nat → Nat} {a : Nat → Nat} {k : Nat → ClassId} (C : qa_X p s m args meth c b_M_mix 12 none R_M) (K3 : Int32 → Int32 → Int32 → Int32 → Int32 → QX → Prop) (post : QX → Prop) (hK3 : ∀ (v1 : Int32) (v2 : Int32) (v3 : Int32) (v4 : Int32) (v5 : Int32) (x : QX) (H : Heap) (locs : List Loc) (ls : Array Slot), K3 v1 v2 v3 v4 v5 x → qa_S (dC, dI) classes (qM_t k) (qM_w a k) A s x H locs → lv_has ls 12 [(0, .ref (a 0)), (1, .int v1), (2, .int v2), (3, .int v3), (4, .int v4), (5, .int v5)] → W p l e qr_M_mix s m args below meth c H locs 0 0 (MQ below (va_Qv post (qa_B (dC, dI) classes (qM_t k) (qM_w a k) A) A) args s 0 0 A) (F0 m 3 ls [])) : ∀ (n : Nat), ∀ (v1 : Int32) (v2 : Int32) (v3 : Int32) (v4 : Int32) (v5 : Int32) (v6 : Int32) (v7 : Int32) (v8 : Int32) (x : QX) (H : Heap) (locs : List Loc) (ls : Array Slot), qw_M_mix_H18 K3 post n v1 v2 v3 v4 v5 v6 v7 v8 x → qa_S (dC, dI) classes (qM_t k) (qM_w a k) A s x H locs → lv_has ls 12 [(0, .ref (a 0)), (1, .int v1), (2, .int v2), (3, .int v3), (4, .int v4), (5, .int v5), (6, .int v6), (7, .int v7), (8, .int v8)] → W p l e qr_M_mix s m args below meth c H locs 0 0 (MQ below (va_Qv post (qa_B (dC, dI) classes (qM_t k) (qM_w a k) A) A) args s 0 0 A) (F0 m 18 ls []) := by
  have hx := C.1
  have hb := C.2.1
  intro n
  induction n with
  | zero => intro v1 v2 v3 v4 v5 v6 v7 v8 x H locs ls hw S hl; exact False.elim hw
  | succ n ih =>
    intro v1 v2 v3 v4 v5 v6 v7 v8 x H locs ls hw S hl
    replace hw : qw_M_mix_S18 K3 post (qw_M_mix_H18 K3 post n) v1 v2 v3 v4 v5 v6 v7 v8 x := hw
    unfold qw_M_mix_S18 at hw
    refine lv_iload hx hb d_M_mix_18 (lv_at hl 8 rfl) ?_
    refine lv_bipush (v := 8) hx hb d_M_mix_20 (by decide) ?_
    refine lv_icmp_ge (tgt := 129) hx hb d_M_mix_22 rfl (fun hc => ?_) (fun hc => ?_)
    · replace hw := hw.1 hc
      refine lv_iload hx hb d_M_mix_129 (lv_at hl 6 rfl) ?_
      refine lv_iconst (v := 2) hx hb d_M_mix_131 (by decide) ?_
      refine lv_icmp_ne (tgt := 144) hx hb d_M_mix_132 rfl (fun hc => ?_) (fun hc => ?_)
      · replace hw := hw.1 hc
        refine lv_iinc (k := 5) (v := v5 + 1) (lv' := [(5, .int (v5 + 1)), (0, .ref (a 0)), (1, .int v1), (2, .int v2), (3, .int v3), (4, .int v4), (6, .int v6), (7, .int v7), (8, .int v8)]) hx hb d_M_mix_144 hl rfl rfl (by decide) rfl (fun ls hl => ?_)
        refine lv_goto (tgt := 3) hx hb d_M_mix_147 rfl ?_
        exact hK3 _ _ _ _ _ _ _ _ _ hw S (lv_sub hl [1, 2, 3, 4, 5, 0] rfl)
      replace hw := hw.2 hc
      refine lv_aload_n hx hb d_M_mix_135 rfl (lv_at hl 0 rfl) ?_
      refine lv_iload_n hx hb d_M_mix_136 rfl (lv_at hl 1 rfl) ?_
      refine lv_iload hx hb d_M_mix_137 (lv_at hl 5 rfl) ?_
      refine lv_iload hx hb d_M_mix_139 (lv_at hl 7 rfl) ?_
      refine qa_callv (qa_runV (As := [.int v1, .int v5, .int v7]) (rest := []) C S (qc_M_setPlain l dC dI a k _ _ _ _ _ hw H.size) (cwV 3 C.2.2.2.2.1 qo_M_61_M_setPlain rfl rfl rfl qd_M_setPlain ⟨Nat.le_of_ble_eq_true rfl, Nat.le_of_ble_eq_true rfl⟩) (va_recv (q0 := 0) (ci := 4) S.2.2.1 S.1 rfl rfl) rfl hl.1 rfl (Nat.le_of_ble_eq_true rfl) d_M_mix_141) S (fun x1 H locs hw S => ?_)
      refine lv_iinc (k := 5) (v := v5 + 1) (lv' := [(5, .int (v5 + 1)), (0, .ref (a 0)), (1, .int v1), (2, .int v2), (3, .int v3), (4, .int v4), (6, .int v6), (7, .int v7), (8, .int v8)]) hx hb d_M_mix_144 hl rfl rfl (by decide) rfl (fun ls hl => ?_)
      refine lv_goto (tgt := 3) hx hb d_M_mix_147 rfl ?_
      exact hK3 _ _ _ _ _ _ _ _ _ hw S (lv_sub hl [1, 2, 3, 4, 5, 0] rfl)
    replace hw := hw.2 hc
    refine lv_bipush (v := 8) hx hb d_M_mix_25 (by decide) ?_
    refine lv_iload hx hb d_M_mix_27 (lv_at hl 5 rfl) ?_
    refine lv_imul hx hb d_M_mix_29 ?_
    refine lv_iload hx hb d_M_mix_30 (lv_at hl 8 rfl) ?_
    refine lv_iadd hx hb d_M_mix_32 ?_
    refine lv_topi (fun t2 et2 => ?_)
    replace hw := hw t2 et2
    refine lv_istore (lv' := [(9, .int t2), (0, .ref (a 0)), (1, .int v1), (2, .int v2), (3, .int v3), (4, .int v4), (5, .int v5), (6, .int v6), (7, .int v7), (8, .int v8)]) hx hb d_M_mix_33 hl (by decide) rfl (fun ls hl => ?_)
    refine lv_aload_n hx hb d_M_mix_35 rfl (lv_at hl 1 rfl) ?_
    refine qf_M_M_counts C S qh_423 d_M_mix_36 ?_
    refine lv_bipush (v := 32) hx hb d_M_mix_39 (by decide) ?_
    refine lv_iload_n hx hb d_M_mix_41 rfl (lv_at hl 3 rfl) ?_
    refine lv_imul hx hb d_M_mix_42 ?_
    refine lv_iload hx hb d_M_mix_43 (lv_at hl 0 rfl) ?_
    refine lv_iadd hx hb d_M_mix_45 ?_
    obtain ⟨hi, hw⟩ := hw
    refine qe_M_counts C S hi d_M_mix_46 ?_
    refine lv_aload_n hx hb d_M_mix_47 rfl (lv_at hl 1 rfl) ?_
    refine qf_M_M_counts C S qh_423 d_M_mix_48 ?_
    refine lv_bipush (v := 32) hx hb d_M_mix_51 (by decide) ?_
    refine lv_iload_n hx hb d_M_mix_53 rfl (lv_at hl 4 rfl) ?_
    refine lv_imul hx hb d_M_mix_54 ?_
    refine lv_iload hx hb d_M_mix_55 (lv_at hl 0 rfl) ?_
    refine lv_iadd hx hb d_M_mix_57 ?_
    obtain ⟨hi, hw⟩ := hw
    refine qe_M_counts C S hi d_M_mix_58 ?_
    refine lv_ladd hx hb d_M_mix_59 ?_
    refine lv_aload_n hx hb d_M_mix_60 rfl (lv_at hl 1 rfl) ?_
    refine qf_M_M_counts C S qh_423 d_M_mix_61 ?_
    refine lv_bipush (v := 32) hx hb d_M_mix_64 (by decide) ?_
    refine lv_iload hx hb d_M_mix_66 (lv_at hl 5 rfl) ?_
    refine lv_imul hx hb d_M_mix_68 ?_
    refine lv_iload hx hb d_M_mix_69 (lv_at hl 0 rfl) ?_
    refine lv_iadd hx hb d_M_mix_71 ?_
    obtain ⟨hi, hw⟩ := hw
    refine qe_M_counts C S hi d_M_mix_72 ?_
    refine lv_lsub hx hb d_M_mix_73 ?_
    refine lv_topl (fun t3 et3 => ?_)
    replace hw := hw t3 et3
    refine lv_lstore (lv' := [(10, .long t3), (9, .int t2), (0, .ref (a 0)), (1, .int v1), (2, .int v2), (3, .int v3), (4, .int v4), (5, .int v5), (6, .int v6), (7, .int v7), (8, .int v8)]) hx hb d_M_mix_74 hl (by decide) rfl (fun ls hl => ?_)
    refine lv_aload_n hx hb d_M_mix_76 rfl (lv_at hl 2 rfl) ?_
    refine qf_M_M_counts C S qh_423 d_M_mix_77 ?_
    refine lv_bipush (v := 32) hx hb d_M_mix_80 (by decide) ?_
    refine lv_iload_n hx hb d_M_mix_82 rfl (lv_at hl 3 rfl) ?_
    refine lv_imul hx hb d_M_mix_83 ?_
    refine lv_iload hx hb d_M_mix_84 (lv_at hl 1 rfl) ?_
    refine lv_iadd hx hb d_M_mix_86 ?_
    refine lv_lload hx hb d_M_mix_87 (lv_at hl 0 rfl) ?_
    obtain ⟨hi, hw⟩ := hw
    refine qt_M_counts C S hi d_M_mix_89 (fun x4 H locs ex4 S => ?_)
    replace hw := hw x4 ex4
    refine lv_iload hx hb d_M_mix_90 (lv_at hl 8 rfl) ?_
    refine lv_lload hx hb d_M_mix_92 (lv_at hl 0 rfl) ?_
    refine lv_lconst (v := 0) hx hb d_M_mix_94 (by decide) ?_
    refine W.lcmp hx hb d_M_mix_95 ?_
    refine lv_if_eq (tgt := 103) hx hb d_M_mix_96 rfl (fun hc => ?_) (fun hc => ?_)
    · replace hw := hw.1 hc
      refine lv_iconst (v := 0) hx hb d_M_mix_103 (by decide) ?_
      refine lv_iadd hx hb d_M_mix_104 ?_
      refine lv_topi (fun t5 et5 => ?_)
      replace hw := hw t5 et5
      refine lv_istore (lv' := [(6, .int t5), (10, .long t3), (9, .int t2), (0, .ref (a 0)), (1, .int v1), (2, .int v2), (3, .int v3), (4, .int v4), (5, .int v5), (7, .int v7), (8, .int v8)]) hx hb d_M_mix_105 hl (by decide) rfl (fun ls hl => ?_)
      refine lv_lload hx hb d_M_mix_107 (lv_at hl 1 rfl) ?_
      refine lv_lconst (v := 0) hx hb d_M_mix_109 (by decide) ?_
      refine W.lcmp hx hb d_M_mix_110 ?_
      refine lv_if_le (tgt := 119) hx hb d_M_mix_111 rfl (fun hc => ?_) (fun hc => ?_)
      · replace hw := hw.1 hc
        refine lv_iload hx hb d_M_mix_119 (lv_at hl 9 rfl) ?_
        refine lv_istore (lv' := [(7, .int v7), (6, .int t5), (10, .long t3), (9, .int t2), (0, .ref (a 0)), (1, .int v1), (2, .int v2), (3, .int v3), (4, .int v4), (5, .int v5), (8, .int v8)]) hx hb d_M_mix_121 hl (by decide) rfl (fun ls hl => ?_)
        refine lv_iinc (k := 10) (v := v8 + 1) (lv' := [(8, .int (v8 + 1)), (7, .int v7), (6, .int t5), (10, .long t3), (9, .int t2), (0, .ref (a 0)), (1, .int v1), (2, .int v2), (3, .int v3), (4, .int v4), (5, .int v5)]) hx hb d_M_mix_123 hl rfl rfl (by decide) rfl (fun ls hl => ?_)
        refine lv_goto (tgt := 18) hx hb d_M_mix_126 rfl ?_
        exact ih _ _ _ _ _ _ _ _ _ _ _ _ hw S (lv_sub hl [5, 6, 7, 8, 9, 10, 2, 1, 0] rfl)
      replace hw := hw.2 hc
      refine lv_iload hx hb d_M_mix_114 (lv_at hl 10 rfl) ?_
      refine lv_goto (tgt := 121) hx hb d_M_mix_116 rfl ?_
      refine lv_istore (lv' := [(7, .int v8), (6, .int t5), (10, .long t3), (9, .int t2), (0, .ref (a 0)), (1, .int v1), (2, .int v2), (3, .int v3), (4, .int v4), (5, .int v5), (8, .int v8)]) hx hb d_M_mix_121 hl (by decide) rfl (fun ls hl => ?_)
      refine lv_iinc (k := 10) (v := v8 + 1) (lv' := [(8, .int (v8 + 1)), (7, .int v8), (6, .int t5), (10, .long t3), (9, .int t2), (0, .ref (a 0)), (1, .int v1), (2, .int v2), (3, .int v3), (4, .int v4), (5, .int v5)]) hx hb d_M_mix_123 hl rfl rfl (by decide) rfl (fun ls hl => ?_)
      refine lv_goto (tgt := 18) hx hb d_M_mix_126 rfl ?_
      exact ih _ _ _ _ _ _ _ _ _ _ _ _ hw S (lv_sub hl [5, 6, 7, 8, 9, 10, 2, 1, 0] rfl)
    replace hw := hw.2 hc
    refine lv_iconst (v := 1) hx hb d_M_mix_99 (by decide) ?_
    refine lv_goto (tgt := 104) hx hb d_M_mix_100 rfl ?_
    refine lv_iadd hx hb d_M_mix_104 ?_
    refine lv_topi (fun t6 et6 => ?_)
    replace hw := hw t6 et6
    refine lv_istore (lv' := [(6, .int t6), (10, .long t3), (9, .int t2), (0, .ref (a 0)), (1, .int v1), (2, .int v2), (3, .int v3), (4, .int v4), (5, .int v5), (7, .int v7), (8, .int v8)]) hx hb d_M_mix_105 hl (by decide) rfl (fun ls hl => ?_)
    refine lv_lload hx hb d_M_mix_107 (lv_at hl 1 rfl) ?_
    refine lv_lconst (v := 0) hx hb d_M_mix_109 (by decide) ?_
    refine W.lcmp hx hb d_M_mix_110 ?_
    refine lv_if_le (tgt := 119) hx hb d_M_mix_111 rfl (fun hc => ?_) (fun hc => ?_)
    · replace hw := hw.1 hc
      refine lv_iload hx hb d_M_mix_119 (lv_at hl 9 rfl) ?_
      refine lv_istore (lv' := [(7, .int v7), (6, .int t6), (10, .long t3), (9, .int t2), (0, .ref (a 0)), (1, .int v1), (2, .int v2), (3, .int v3), (4, .int v4), (5, .int v5), (8, .int v8)]) hx hb d_M_mix_121 hl (by decide) rfl (fun ls hl => ?_)
      refine lv_iinc (k := 10) (v := v8 + 1) (lv' := [(8, .int (v8 + 1)), (7, .int v7), (6, .int t6), (10, .long t3), (9, .int t2), (0, .ref (a 0)), (1, .int v1), (2, .int v2), (3, .int v3), (4, .int v4), (5, .int v5)]) hx hb d_M_mix_123 hl rfl rfl (by decide) rfl (fun ls hl => ?_)
      refine lv_goto (tgt := 18) hx hb d_M_mix_126 rfl ?_
      exact ih _ _ _ _ _ _ _ _ _ _ _ _ hw S (lv_sub hl [5, 6, 7, 8, 9, 10, 2, 1, 0] rfl)
    replace hw := hw.2 hc
    refine lv_iload hx hb d_M_mix_114 (lv_at hl 10 rfl) ?_
    refine lv_goto (tgt := 121) hx hb d_M_mix_116 rfl ?_
    refine lv_istore (lv' := [(7, .int v8), (6, .int t6), (10, .long t3), (9, .int t2), (0, .ref (a 0)), (1, .int v1), (2, .int v2), (3, .int v3), (4, .int v4), (5, .int v5), (8, .int v8)]) hx hb d_M_mix_121 hl (by decide) rfl (fun ls hl => ?_)
    refine lv_iinc (k := 10) (v := v8 + 1) (lv' := [(8, .int (v8 + 1)), (7, .int v8), (6, .int t6), (10, .long t3), (9, .int t2), (0, .ref (a 0)), (1, .int v1), (2, .int v2), (3, .int v3), (4, .int v4), (5, .int v5)]) hx hb d_M_mix_123 hl rfl rfl (by decide) rfl (fun ls hl => ?_)
    refine lv_goto (tgt := 18) hx hb d_M_mix_126 rfl ?_
    exact ih _ _ _ _ _ _ _ _ _ _ _ _ hw S (lv_sub hl [5, 6, 7, 8, 9, 10, 2, 1, 0] rfl)
set_option maxHeartbeats 4000000 in
set_option maxRecDepth 100000 in
theorem qk_M_mix_H3 {p : Program} {l : Launch} {e : Env} {s : State} {m : MethodId} {args : Array Value} {below : List Frame} {meth : Method} {c : Code} {A : Nat → Prop} {dC : Nat → ClassId} {dI : Nat → Nat → Nat} {a : Nat → Nat} {k : Nat → ClassId} (C : qa_X p s m args meth c b_M_mix 12 none R_M)  (post : QX → Prop)  : ∀ (n : Nat), ∀ (v1 : Int32) (v2 : Int32) (v3 : Int32) (v4 : Int32) (v5 : Int32) (x : QX) (H : Heap) (locs : List Loc) (ls : Array Slot), qw_M_mix_H3  post n v1 v2 v3 v4 v5 x → qa_S (dC, dI) classes (qM_t k) (qM_w a k) A s x H locs → lv_has ls 12 [(0, .ref (a 0)), (1, .int v1), (2, .int v2), (3, .int v3), (4, .int v4), (5, .int v5)] → W p l e qr_M_mix s m args below meth c H locs 0 0 (MQ below (va_Qv post (qa_B (dC, dI) classes (qM_t k) (qM_w a k) A) A) args s 0 0 A) (F0 m 3 ls []) := by
  have hx := C.1
  have hb := C.2.1
  intro n
  induction n with
  | zero => intro v1 v2 v3 v4 v5 x H locs ls hw S hl; exact False.elim hw
  | succ n ih =>
    intro v1 v2 v3 v4 v5 x H locs ls hw S hl
    replace hw : qw_M_mix_S3  post (qw_M_mix_H3  post n) v1 v2 v3 v4 v5 x := hw
    unfold qw_M_mix_S3 at hw
    refine lv_iload hx hb d_M_mix_3 (lv_at hl 5 rfl) ?_
    refine lv_iconst (v := 4) hx hb d_M_mix_5 (by decide) ?_
    refine lv_icmp_ge (tgt := 150) hx hb d_M_mix_6 rfl (fun hc => ?_) (fun hc => ?_)
    · replace hw := hw.1 hc
      exact qa_retv C S hw d_M_mix_150
    replace hw := hw.2 hc
    refine lv_iconst (v := 0) hx hb d_M_mix_9 (by decide) ?_
    refine lv_istore (lv' := [(6, .int (0 : Int32)), (0, .ref (a 0)), (1, .int v1), (2, .int v2), (3, .int v3), (4, .int v4), (5, .int v5)]) hx hb d_M_mix_10 hl (by decide) rfl (fun ls hl => ?_)
    refine lv_iconst (v := 0) hx hb d_M_mix_12 (by decide) ?_
    refine lv_istore (lv' := [(7, .int (0 : Int32)), (6, .int (0 : Int32)), (0, .ref (a 0)), (1, .int v1), (2, .int v2), (3, .int v3), (4, .int v4), (5, .int v5)]) hx hb d_M_mix_13 hl (by decide) rfl (fun ls hl => ?_)
    refine lv_iconst (v := 0) hx hb d_M_mix_15 (by decide) ?_
    refine lv_istore (lv' := [(8, .int (0 : Int32)), (7, .int (0 : Int32)), (6, .int (0 : Int32)), (0, .ref (a 0)), (1, .int v1), (2, .int v2), (3, .int v3), (4, .int v4), (5, .int v5)]) hx hb d_M_mix_16 hl (by decide) rfl (fun ls hl => ?_)
    exact qk_M_mix_H18 C _ post (fun _ _ _ _ _ _ _ _ _ hw S hl => ih _ _ _ _ _ _ _ _ _ hw S hl) qFU _ _ _ _ _ _ _ _ _ _ _ _ hw S (lv_sub hl [3, 4, 5, 6, 7, 8, 2, 1, 0] rfl)
set_option maxHeartbeats 4000000 in
set_option maxRecDepth 100000 in
theorem qc_M_mix (l : Launch) (dC : Nat → ClassId) (dI : Nat → Nat → Nat) (a : Nat → Nat) (k : Nat → ClassId) (p1 : Int32) (p2 : Int32) (p3 : Int32) (p4 : Int32) (x : QX) (post : QX → Prop) (hw : qw_M_mix p1 p2 p3 p4 x post) : qa_Cv l y_M_mix qv_M_mix qr_M_mix (dC, dI) classes (qM_t k) (qM_w a k) [.ref (a 0), .int p1, .int p2, .int p3, .int p4] x post := by
  refine qa_ofWv (by decide) (Nat.le_of_ble_eq_true rfl) ?_
  intro p e s m args below meth c A H locs ls C S hl
  replace hl : lv_has ls 12 [(0, .ref (a 0)), (1, .int p1), (2, .int p2), (3, .int p3), (4, .int p4)] := hl
  have hx := C.1
  have hb := C.2.1
  unfold qw_M_mix at hw
  refine lv_iconst (v := 0) hx hb d_M_mix_0 (by decide) ?_
  refine lv_istore (lv' := [(5, .int (0 : Int32)), (0, .ref (a 0)), (1, .int p1), (2, .int p2), (3, .int p3), (4, .int p4)]) hx hb d_M_mix_1 hl (by decide) rfl (fun ls hl => ?_)
  exact qk_M_mix_H3 C post qFU _ _ _ _ _ _ _ _ _ hw S (lv_sub hl [1, 2, 3, 4, 5, 0] rfl)
set_option maxHeartbeats 4000000 in
set_option maxRecDepth 100000 in
theorem qk_M_settle_H73 {p : Program} {l : Launch} {e : Env} {s : State} {m : MethodId} {args : Array Value} {below : List Frame} {meth : Method} {c : Code} {A : Nat → Prop} {dC : Nat → ClassId} {dI : Nat → Nat → Nat} {a : Nat → Nat} {k : Nat → ClassId} (C : qa_X p s m args meth c b_M_settle 4 none R_M)  (post : QX → Prop)  : ∀ (n : Nat), ∀ (v1 : Int32) (v2 : Int32) (x : QX) (H : Heap) (locs : List Loc) (ls : Array Slot), qw_M_settle_H73  post n v1 v2 x → qa_S (dC, dI) classes (qM_t k) (qM_w a k) A s x H locs → lv_has ls 4 [(0, .ref (a 0)), (1, .int v1), (2, .int v2)] → W p l e qr_M_settle s m args below meth c H locs 0 0 (MQ below (va_Qv post (qa_B (dC, dI) classes (qM_t k) (qM_w a k) A) A) args s 0 0 A) (F0 m 73 ls []) := by
  have hx := C.1
  have hb := C.2.1
  intro n
  induction n with
  | zero => intro v1 v2 x H locs ls hw S hl; exact False.elim hw
  | succ n ih =>
    intro v1 v2 x H locs ls hw S hl
    replace hw : qw_M_settle_S73  post (qw_M_settle_H73  post n) v1 v2 x := hw
    unfold qw_M_settle_S73 at hw
    refine lv_iload_n hx hb d_M_settle_73 rfl (lv_at hl 2 rfl) ?_
    refine lv_iconst (v := 3) hx hb d_M_settle_74 (by decide) ?_
    refine lv_icmp_ge (tgt := 140) hx hb d_M_settle_75 rfl (fun hc => ?_) (fun hc => ?_)
    · replace hw := hw.1 hc
      refine lv_aload_n hx hb d_M_settle_140 rfl (lv_at hl 0 rfl) ?_
      refine lv_aload_n hx hb d_M_settle_141 rfl (lv_at hl 0 rfl) ?_
      refine qf_M_M_full C S qh_441 d_M_settle_142 ?_
      refine lv_if_ne (tgt := 172) hx hb d_M_settle_145 rfl (fun hc => ?_) (fun hc => ?_)
      · replace hw := hw.1 hc
        refine lv_aload_n hx hb d_M_settle_172 rfl (lv_at hl 0 rfl) ?_
        refine qf_M_M_nowWork C S qh_437 d_M_settle_173 ?_
        refine qp_M_M_nowWork C S qh_437 d_M_settle_176 (fun x3 H locs ex3 S => ?_)
        replace hw := hw x3 ex3
        exact qa_retv C S hw d_M_settle_179
      replace hw := hw.2 hc
      refine lv_aload_n hx hb d_M_settle_148 rfl (lv_at hl 0 rfl) ?_
      refine qf_M_M_now C S qh_435 d_M_settle_149 ?_
      refine lv_aload_n hx hb d_M_settle_152 rfl (lv_at hl 0 rfl) ?_
      refine qf_M_M_nowWork C S qh_437 d_M_settle_153 ?_
      obtain ⟨hi, hw⟩ := hw
      refine qe_M_now C S hi d_M_settle_156 ?_
      refine lv_if_ne (tgt := 172) hx hb d_M_settle_157 rfl (fun hc => ?_) (fun hc => ?_)
      · replace hw := hw.1 hc
        refine lv_aload_n hx hb d_M_settle_172 rfl (lv_at hl 0 rfl) ?_
        refine qf_M_M_nowWork C S qh_437 d_M_settle_173 ?_
        refine qp_M_M_nowWork C S qh_437 d_M_settle_176 (fun x4 H locs ex4 S => ?_)
        replace hw := hw x4 ex4
        exact qa_retv C S hw d_M_settle_179
      replace hw := hw.2 hc
      refine lv_aload_n hx hb d_M_settle_160 rfl (lv_at hl 0 rfl) ?_
      refine lv_aload_n hx hb d_M_settle_161 rfl (lv_at hl 0 rfl) ?_
      refine qf_M_M_nowWork C S qh_437 d_M_settle_162 ?_
      refine lv_iconst (v := -1) hx hb d_M_settle_165 (by decide) ?_
      refine qa_calli (qa_runV (As := [.int (gI x 6), .int (-1 : Int32)]) (rest := [.ref (a 0)]) C S (qc_M_place l dC dI a k _ _ _ _ hw H.size) (cwV 2 C.2.2.2.2.1 qo_M_93_M_place rfl rfl rfl qd_M_place ⟨Nat.le_of_ble_eq_true rfl, Nat.le_of_ble_eq_true rfl⟩) (va_recv (q0 := 0) (ci := 4) S.2.2.1 S.1 rfl rfl) rfl hl.1 rfl (Nat.le_of_ble_eq_true rfl) d_M_settle_166) S (fun r6 x5 H locs hw S => ?_)
      refine lv_goto (tgt := 176) hx hb d_M_settle_169 rfl ?_
      refine qp_M_M_nowWork C S qh_437 d_M_settle_176 (fun x7 H locs ex7 S => ?_)
      replace hw := hw x7 ex7
      exact qa_retv C S hw d_M_settle_179
    replace hw := hw.2 hc
    refine lv_aload_n hx hb d_M_settle_78 rfl (lv_at hl 0 rfl) ?_
    refine qf_M_M_full C S qh_441 d_M_settle_79 ?_
    refine lv_if_ne (tgt := 140) hx hb d_M_settle_82 rfl (fun hc => ?_) (fun hc => ?_)
    · replace hw := hw.1 hc
      refine lv_aload_n hx hb d_M_settle_140 rfl (lv_at hl 0 rfl) ?_
      refine lv_aload_n hx hb d_M_settle_141 rfl (lv_at hl 0 rfl) ?_
      refine qf_M_M_full C S qh_441 d_M_settle_142 ?_
      refine lv_if_ne (tgt := 172) hx hb d_M_settle_145 rfl (fun hc => ?_) (fun hc => ?_)
      · replace hw := hw.1 hc
        refine lv_aload_n hx hb d_M_settle_172 rfl (lv_at hl 0 rfl) ?_
        refine qf_M_M_nowWork C S qh_437 d_M_settle_173 ?_
        refine qp_M_M_nowWork C S qh_437 d_M_settle_176 (fun x8 H locs ex8 S => ?_)
        replace hw := hw x8 ex8
        exact qa_retv C S hw d_M_settle_179
      replace hw := hw.2 hc
      refine lv_aload_n hx hb d_M_settle_148 rfl (lv_at hl 0 rfl) ?_
      refine qf_M_M_now C S qh_435 d_M_settle_149 ?_
      refine lv_aload_n hx hb d_M_settle_152 rfl (lv_at hl 0 rfl) ?_
      refine qf_M_M_nowWork C S qh_437 d_M_settle_153 ?_
      obtain ⟨hi, hw⟩ := hw
      refine qe_M_now C S hi d_M_settle_156 ?_
      refine lv_if_ne (tgt := 172) hx hb d_M_settle_157 rfl (fun hc => ?_) (fun hc => ?_)
      · replace hw := hw.1 hc
        refine lv_aload_n hx hb d_M_settle_172 rfl (lv_at hl 0 rfl) ?_
        refine qf_M_M_nowWork C S qh_437 d_M_settle_173 ?_
        refine qp_M_M_nowWork C S qh_437 d_M_settle_176 (fun x9 H locs ex9 S => ?_)
        replace hw := hw x9 ex9
        exact qa_retv C S hw d_M_settle_179
      replace hw := hw.2 hc
      refine lv_aload_n hx hb d_M_settle_160 rfl (lv_at hl 0 rfl) ?_
      refine lv_aload_n hx hb d_M_settle_161 rfl (lv_at hl 0 rfl) ?_
      refine qf_M_M_nowWork C S qh_437 d_M_settle_162 ?_
      refine lv_iconst (v := -1) hx hb d_M_settle_165 (by decide) ?_
      refine qa_calli (qa_runV (As := [.int (gI x 6), .int (-1 : Int32)]) (rest := [.ref (a 0)]) C S (qc_M_place l dC dI a k _ _ _ _ hw H.size) (cwV 2 C.2.2.2.2.1 qo_M_93_M_place rfl rfl rfl qd_M_place ⟨Nat.le_of_ble_eq_true rfl, Nat.le_of_ble_eq_true rfl⟩) (va_recv (q0 := 0) (ci := 4) S.2.2.1 S.1 rfl rfl) rfl hl.1 rfl (Nat.le_of_ble_eq_true rfl) d_M_settle_166) S (fun r11 x10 H locs hw S => ?_)
      refine lv_goto (tgt := 176) hx hb d_M_settle_169 rfl ?_
      refine qp_M_M_nowWork C S qh_437 d_M_settle_176 (fun x12 H locs ex12 S => ?_)
      replace hw := hw x12 ex12
      exact qa_retv C S hw d_M_settle_179
    replace hw := hw.2 hc
    refine lv_aload_n hx hb d_M_settle_85 rfl (lv_at hl 0 rfl) ?_
    refine qf_M_M_nowMark C S qh_436 d_M_settle_86 ?_
    refine lv_iload_n hx hb d_M_settle_89 rfl (lv_at hl 2 rfl) ?_
    refine lv_aload_n hx hb d_M_settle_90 rfl (lv_at hl 0 rfl) ?_
    refine qf_M_M_nowMark C S qh_436 d_M_settle_91 ?_
    refine lv_iload_n hx hb d_M_settle_94 rfl (lv_at hl 2 rfl) ?_
    obtain ⟨hi, hw⟩ := hw
    refine qe_M_nowMark C S hi d_M_settle_95 ?_
    refine lv_if_lt (tgt := 127) hx hb d_M_settle_96 rfl (fun hc => ?_) (fun hc => ?_)
    · replace hw := hw.1 hc
      refine lv_aload_n hx hb d_M_settle_127 rfl (lv_at hl 0 rfl) ?_
      refine qf_M_M_nowMark C S qh_436 d_M_settle_128 ?_
      refine lv_iload_n hx hb d_M_settle_131 rfl (lv_at hl 2 rfl) ?_
      obtain ⟨hi, hw⟩ := hw
      refine qe_M_nowMark C S hi d_M_settle_132 ?_
      obtain ⟨hi, hw⟩ := hw
      refine qt_M_nowMark C S hi d_M_settle_133 (fun x13 H locs ex13 S => ?_)
      replace hw := hw x13 ex13
      refine lv_iinc (k := 2) (v := v2 + 1) (lv' := [(2, .int (v2 + 1)), (0, .ref (a 0)), (1, .int v1)]) hx hb d_M_settle_134 hl rfl rfl (by decide) rfl (fun ls hl => ?_)
      refine lv_goto (tgt := 73) hx hb d_M_settle_137 rfl ?_
      exact ih _ _ _ _ _ _ hw S (lv_sub hl [1, 2, 0] rfl)
    replace hw := hw.2 hc
    refine lv_aload_n hx hb d_M_settle_99 rfl (lv_at hl 0 rfl) ?_
    refine qf_M_M_now C S qh_435 d_M_settle_100 ?_
    refine lv_aload_n hx hb d_M_settle_103 rfl (lv_at hl 0 rfl) ?_
    refine qf_M_M_nowMark C S qh_436 d_M_settle_104 ?_
    refine lv_iload_n hx hb d_M_settle_107 rfl (lv_at hl 2 rfl) ?_
    obtain ⟨hi, hw⟩ := hw
    refine qe_M_nowMark C S hi d_M_settle_108 ?_
    obtain ⟨hi, hw⟩ := hw
    refine qe_M_now C S hi d_M_settle_109 ?_
    refine lv_if_ne (tgt := 127) hx hb d_M_settle_110 rfl (fun hc => ?_) (fun hc => ?_)
    · replace hw := hw.1 hc
      refine lv_aload_n hx hb d_M_settle_127 rfl (lv_at hl 0 rfl) ?_
      refine qf_M_M_nowMark C S qh_436 d_M_settle_128 ?_
      refine lv_iload_n hx hb d_M_settle_131 rfl (lv_at hl 2 rfl) ?_
      obtain ⟨hi, hw⟩ := hw
      refine qe_M_nowMark C S hi d_M_settle_132 ?_
      obtain ⟨hi, hw⟩ := hw
      refine qt_M_nowMark C S hi d_M_settle_133 (fun x14 H locs ex14 S => ?_)
      replace hw := hw x14 ex14
      refine lv_iinc (k := 2) (v := v2 + 1) (lv' := [(2, .int (v2 + 1)), (0, .ref (a 0)), (1, .int v1)]) hx hb d_M_settle_134 hl rfl rfl (by decide) rfl (fun ls hl => ?_)
      refine lv_goto (tgt := 73) hx hb d_M_settle_137 rfl ?_
      exact ih _ _ _ _ _ _ hw S (lv_sub hl [1, 2, 0] rfl)
    replace hw := hw.2 hc
    refine lv_aload_n hx hb d_M_settle_113 rfl (lv_at hl 0 rfl) ?_
    refine lv_aload_n hx hb d_M_settle_114 rfl (lv_at hl 0 rfl) ?_
    refine qf_M_M_nowMark C S qh_436 d_M_settle_115 ?_
    refine lv_iload_n hx hb d_M_settle_118 rfl (lv_at hl 2 rfl) ?_
    obtain ⟨hi, hw⟩ := hw
    refine qe_M_nowMark C S hi d_M_settle_119 ?_
    refine lv_iconst (v := -1) hx hb d_M_settle_120 (by decide) ?_
    refine qa_calli (qa_runV (As := [.int (gA x 10 v2.toNatClampNeg), .int (-1 : Int32)]) (rest := [.int v2, .ref (a 12)]) C S (qc_M_place l dC dI a k _ _ _ _ hw H.size) (cwV 2 C.2.2.2.2.1 qo_M_93_M_place rfl rfl rfl qd_M_place ⟨Nat.le_of_ble_eq_true rfl, Nat.le_of_ble_eq_true rfl⟩) (va_recv (q0 := 0) (ci := 4) S.2.2.1 S.1 rfl rfl) rfl hl.1 rfl (Nat.le_of_ble_eq_true rfl) d_M_settle_121) S (fun r16 x15 H locs hw S => ?_)
    refine lv_goto (tgt := 133) hx hb d_M_settle_124 rfl ?_
    obtain ⟨hi, hw⟩ := hw
    refine qt_M_nowMark C S hi d_M_settle_133 (fun x17 H locs ex17 S => ?_)
    replace hw := hw x17 ex17
    refine lv_iinc (k := 2) (v := v2 + 1) (lv' := [(2, .int (v2 + 1)), (0, .ref (a 0)), (1, .int v1)]) hx hb d_M_settle_134 hl rfl rfl (by decide) rfl (fun ls hl => ?_)
    refine lv_goto (tgt := 73) hx hb d_M_settle_137 rfl ?_
    exact ih _ _ _ _ _ _ hw S (lv_sub hl [1, 2, 0] rfl)
set_option maxHeartbeats 4000000 in
set_option maxRecDepth 100000 in
theorem qk_M_settle_H5 {p : Program} {l : Launch} {e : Env} {s : State} {m : MethodId} {args : Array Value} {below : List Frame} {meth : Method} {c : Code} {A : Nat → Prop} {dC : Nat → ClassId} {dI : Nat → Nat → Nat} {a : Nat → Nat} {k : Nat → ClassId} (C : qa_X p s m args meth c b_M_settle 4 none R_M)  (post : QX → Prop)  : ∀ (n : Nat), ∀ (v1 : Int32) (x : QX) (H : Heap) (locs : List Loc) (ls : Array Slot), qw_M_settle_H5  post n v1 x → qa_S (dC, dI) classes (qM_t k) (qM_w a k) A s x H locs → lv_has ls 4 [(0, .ref (a 0)), (1, .int v1)] → W p l e qr_M_settle s m args below meth c H locs 0 0 (MQ below (va_Qv post (qa_B (dC, dI) classes (qM_t k) (qM_w a k) A) A) args s 0 0 A) (F0 m 5 ls []) := by
  have hx := C.1
  have hb := C.2.1
  intro n
  induction n with
  | zero => intro v1 x H locs ls hw S hl; exact False.elim hw
  | succ n ih =>
    intro v1 x H locs ls hw S hl
    replace hw : qw_M_settle_S5  post (qw_M_settle_H5  post n) v1 x := hw
    unfold qw_M_settle_S5 at hw
    refine lv_iload_n hx hb d_M_settle_5 rfl (lv_at hl 1 rfl) ?_
    refine lv_if_lt (tgt := 71) hx hb d_M_settle_6 rfl (fun hc => ?_) (fun hc => ?_)
    · replace hw := hw.1 hc
      refine lv_iconst (v := 0) hx hb d_M_settle_71 (by decide) ?_
      refine lv_istore_n (lv' := [(2, .int (0 : Int32)), (0, .ref (a 0)), (1, .int v1)]) hx hb d_M_settle_72 rfl hl (by decide) rfl (fun ls hl => ?_)
      exact qk_M_settle_H73 C post qFU _ _ _ _ _ _ hw S (lv_sub hl [1, 2, 0] rfl)
    replace hw := hw.2 hc
    refine lv_aload_n hx hb d_M_settle_9 rfl (lv_at hl 0 rfl) ?_
    refine qf_M_M_full C S qh_441 d_M_settle_10 ?_
    refine lv_if_ne (tgt := 71) hx hb d_M_settle_13 rfl (fun hc => ?_) (fun hc => ?_)
    · replace hw := hw.1 hc
      refine lv_iconst (v := 0) hx hb d_M_settle_71 (by decide) ?_
      refine lv_istore_n (lv' := [(2, .int (0 : Int32)), (0, .ref (a 0)), (1, .int v1)]) hx hb d_M_settle_72 rfl hl (by decide) rfl (fun ls hl => ?_)
      exact qk_M_settle_H73 C post qFU _ _ _ _ _ _ hw S (lv_sub hl [1, 2, 0] rfl)
    replace hw := hw.2 hc
    refine lv_aload_n hx hb d_M_settle_16 rfl (lv_at hl 0 rfl) ?_
    refine lv_aload_n hx hb d_M_settle_17 rfl (lv_at hl 0 rfl) ?_
    refine qf_M_M_parent C S qh_422 d_M_settle_18 ?_
    refine lv_iload_n hx hb d_M_settle_21 rfl (lv_at hl 1 rfl) ?_
    obtain ⟨hi, hw⟩ := hw
    refine qe_M_parent C S hi d_M_settle_22 ?_
    refine lv_iload_n hx hb d_M_settle_23 rfl (lv_at hl 1 rfl) ?_
    refine qa_calli (qa_runV (As := [.int (gA x 1 v1.toNatClampNeg), .int v1]) (rest := []) C S (qc_M_place l dC dI a k _ _ _ _ hw H.size) (cwV 2 C.2.2.2.2.1 qo_M_93_M_place rfl rfl rfl qd_M_place ⟨Nat.le_of_ble_eq_true rfl, Nat.le_of_ble_eq_true rfl⟩) (va_recv (q0 := 0) (ci := 4) S.2.2.1 S.1 rfl rfl) rfl hl.1 rfl (Nat.le_of_ble_eq_true rfl) d_M_settle_24) S (fun r19 x18 H locs hw S => ?_)
    refine lv_istore_n (lv' := [(2, .int r19), (0, .ref (a 0)), (1, .int v1)]) hx hb d_M_settle_27 rfl hl (by decide) rfl (fun ls hl => ?_)
    refine lv_aload_n hx hb d_M_settle_28 rfl (lv_at hl 1 rfl) ?_
    refine lv_aload_n hx hb d_M_settle_29 rfl (lv_at hl 1 rfl) ?_
    refine qf_M_M_change C S qh_421 d_M_settle_30 ?_
    refine lv_iload_n hx hb d_M_settle_33 rfl (lv_at hl 2 rfl) ?_
    obtain ⟨hi, hw⟩ := hw
    refine qe_M_change C S hi d_M_settle_34 ?_
    refine lv_iload_n hx hb d_M_settle_35 rfl (lv_at hl 0 rfl) ?_
    refine qa_calli (qa_runV (As := [.int (gA x18 0 v1.toNatClampNeg), .int r19]) (rest := []) C S (qc_M_fresh l dC dI a k _ _ _ _ hw H.size) (cwV 2 C.2.2.2.2.1 qo_M_96_M_fresh rfl rfl rfl qd_M_fresh ⟨Nat.le_of_ble_eq_true rfl, Nat.le_of_ble_eq_true rfl⟩) (va_recv (q0 := 0) (ci := 4) S.2.2.1 S.1 rfl rfl) rfl hl.1 rfl (Nat.le_of_ble_eq_true rfl) d_M_settle_36) S (fun r21 x20 H locs hw S => ?_)
    refine lv_istore_n (lv' := [(3, .int r21), (2, .int r19), (0, .ref (a 0)), (1, .int v1)]) hx hb d_M_settle_39 rfl hl (by decide) rfl (fun ls hl => ?_)
    refine lv_iload_n hx hb d_M_settle_40 rfl (lv_at hl 0 rfl) ?_
    refine lv_if_lt (tgt := 68) hx hb d_M_settle_41 rfl (fun hc => ?_) (fun hc => ?_)
    · replace hw := hw.1 hc
      refine lv_goto (tgt := 5) hx hb d_M_settle_68 rfl ?_
      exact ih _ _ _ _ _ hw S (lv_sub hl [2, 3] rfl)
    replace hw := hw.2 hc
    refine lv_aload_n hx hb d_M_settle_44 rfl (lv_at hl 2 rfl) ?_
    refine lv_iload_n hx hb d_M_settle_45 rfl (lv_at hl 0 rfl) ?_
    refine lv_iload_n hx hb d_M_settle_46 rfl (lv_at hl 3 rfl) ?_
    refine lv_iload_n hx hb d_M_settle_47 rfl (lv_at hl 1 rfl) ?_
    refine lv_aload_n hx hb d_M_settle_48 rfl (lv_at hl 2 rfl) ?_
    refine qf_M_M_parent C S qh_422 d_M_settle_49 ?_
    refine lv_iload_n hx hb d_M_settle_52 rfl (lv_at hl 3 rfl) ?_
    obtain ⟨hi, hw⟩ := hw
    refine qe_M_parent C S hi d_M_settle_53 ?_
    refine qa_callv (qa_runV (As := [.int r21, .int v1, .int r19, .int (gA x20 1 v1.toNatClampNeg)]) (rest := []) C S (qc_M_mix l dC dI a k _ _ _ _ _ _ hw H.size) (cwV 4 C.2.2.2.2.1 qo_M_99_M_mix rfl rfl rfl qd_M_mix ⟨Nat.le_of_ble_eq_true rfl, Nat.le_of_ble_eq_true rfl⟩) (va_recv (q0 := 0) (ci := 4) S.2.2.1 S.1 rfl rfl) rfl hl.1 rfl (Nat.le_of_ble_eq_true rfl) d_M_settle_54) S (fun x22 H locs hw S => ?_)
    refine lv_aload_n hx hb d_M_settle_57 rfl (lv_at hl 2 rfl) ?_
    refine lv_iload_n hx hb d_M_settle_58 rfl (lv_at hl 3 rfl) ?_
    refine lv_iload_n hx hb d_M_settle_59 rfl (lv_at hl 0 rfl) ?_
    refine qa_callv (qa_runV (As := [.int v1, .int r21]) (rest := []) C S (qc_M_replace l dC dI a k _ _ _ _ hw H.size) (cwV 2 C.2.2.2.2.1 qo_M_103_M_replace rfl rfl rfl qd_M_replace ⟨Nat.le_of_ble_eq_true rfl, Nat.le_of_ble_eq_true rfl⟩) (va_recv (q0 := 0) (ci := 4) S.2.2.1 S.1 rfl rfl) rfl hl.1 rfl (Nat.le_of_ble_eq_true rfl) d_M_settle_60) S (fun x23 H locs hw S => ?_)
    refine lv_aload_n hx hb d_M_settle_63 rfl (lv_at hl 2 rfl) ?_
    refine qa_calli (qa_runV (As := []) (rest := []) C S (qc_M_loose l dC dI a k _ _ hw H.size) (cwV 0 C.2.2.2.2.1 qo_M_89_M_loose rfl rfl rfl qd_M_loose ⟨Nat.le_of_ble_eq_true rfl, Nat.le_of_ble_eq_true rfl⟩) (va_recv (q0 := 0) (ci := 4) S.2.2.1 S.1 rfl rfl) rfl hl.1 rfl (Nat.le_of_ble_eq_true rfl) d_M_settle_64) S (fun r25 x24 H locs hw S => ?_)
    refine lv_istore_n (lv' := [(1, .int r25), (3, .int r21), (2, .int r19), (0, .ref (a 0))]) hx hb d_M_settle_67 rfl hl (by decide) rfl (fun ls hl => ?_)
    refine lv_goto (tgt := 5) hx hb d_M_settle_68 rfl ?_
    exact ih _ _ _ _ _ hw S (lv_sub hl [3, 0] rfl)
set_option maxHeartbeats 4000000 in
set_option maxRecDepth 100000 in
theorem qc_M_settle (l : Launch) (dC : Nat → ClassId) (dI : Nat → Nat → Nat) (a : Nat → Nat) (k : Nat → ClassId)  (x : QX) (post : QX → Prop) (hw : qw_M_settle  x post) : qa_Cv l y_M_settle qv_M_settle qr_M_settle (dC, dI) classes (qM_t k) (qM_w a k) [.ref (a 0)] x post := by
  refine qa_ofWv (by decide) (Nat.le_of_ble_eq_true rfl) ?_
  intro p e s m args below meth c A H locs ls C S hl
  replace hl : lv_has ls 4 [(0, .ref (a 0))] := hl
  have hx := C.1
  have hb := C.2.1
  unfold qw_M_settle at hw
  refine lv_aload_n hx hb d_M_settle_0 rfl (lv_at hl 0 rfl) ?_
  refine qa_calli (qa_runV (As := []) (rest := []) C S (qc_M_loose l dC dI a k _ _ hw H.size) (cwV 0 C.2.2.2.2.1 qo_M_89_M_loose rfl rfl rfl qd_M_loose ⟨Nat.le_of_ble_eq_true rfl, Nat.le_of_ble_eq_true rfl⟩) (va_recv (q0 := 0) (ci := 4) S.2.2.1 S.1 rfl rfl) rfl hl.1 rfl (Nat.le_of_ble_eq_true rfl) d_M_settle_1) S (fun r2 x1 H locs hw S => ?_)
  refine lv_istore_n (lv' := [(1, .int r2), (0, .ref (a 0))]) hx hb d_M_settle_4 rfl hl (by decide) rfl (fun ls hl => ?_)
  exact qk_M_settle_H5 C post qFU _ _ _ _ _ hw S (lv_sub hl [1, 0] rfl)
