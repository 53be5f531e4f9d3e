set_option maxHeartbeats 4000000 in
set_option maxRecDepth 100000 in
theorem qc_C_addNewChange (l : Launch) (dC : Nat → ClassId) (dI : Nat → Nat → Nat) (a : Nat → Nat) (k : Nat → ClassId) (p1 : Int32) (x : QX) (post : Int32 → QX → Prop) (hw : qw_C_addNewChange p1 x post) : qa_Ci l y_C_addNewChange qv_C_addNewChange qr_C_addNewChange (dC, dI) classes (qC_t k) (qC_w a k) [.ref (a 1), .int p1] x post := by
  refine qa_ofWi (by decide) (Nat.le_of_ble_eq_true rfl) ?_
  intro p e s m args below meth c A H locs ls C S hl
  replace hl : lv_has ls 2 [(0, .ref (a 1)), (1, .int p1)] := hl
  have hx := C.1
  have hb := C.2.1
  unfold qw_C_addNewChange at hw
  refine lv_aload_n hx hb d_C_addNewChange_0 rfl (lv_at hl 0 rfl) ?_
  refine qa_calli (qa_runV (As := []) (rest := []) C S (qc_C_isFull l dC dI a k _ _ hw H.size) (cwV 0 C.2.2.2.2.1 qo_C_59_C_isFull rfl rfl rfl qd_C_isFull ⟨Nat.le_of_ble_eq_true rfl, Nat.le_of_ble_eq_true rfl⟩) (va_recv (q0 := 1) (ci := 1) S.2.2.1 S.1 rfl rfl) rfl hl.1 rfl (Nat.le_of_ble_eq_true rfl) d_C_addNewChange_1) S (fun r2 x1 H locs hw S => ?_)
  refine lv_if_eq (tgt := 9) hx hb d_C_addNewChange_4 rfl (fun hc => ?_) (fun hc => ?_)
  · replace hw := hw.1 hc
    refine lv_aload_n hx hb d_C_addNewChange_9 rfl (lv_at hl 0 rfl) ?_
    refine lv_dup hx hb d_C_addNewChange_10 rfl ?_
    refine qf_C_C_lastChange C S qh_27 d_C_addNewChange_11 ?_
    refine lv_iconst (v := 1) hx hb d_C_addNewChange_14 (by decide) ?_
    refine lv_iadd hx hb d_C_addNewChange_15 ?_
    refine qp_C_C_lastChange C S qh_27 d_C_addNewChange_16 (fun x3 H locs ex3 S => ?_)
    replace hw := hw x3 ex3
    refine lv_aload_n hx hb d_C_addNewChange_19 rfl (lv_at hl 0 rfl) ?_
    refine lv_aload_n hx hb d_C_addNewChange_20 rfl (lv_at hl 0 rfl) ?_
    refine qf_C_C_lastChange C S qh_27 d_C_addNewChange_21 ?_
    refine lv_iload_n hx hb d_C_addNewChange_24 rfl (lv_at hl 1 rfl) ?_
    refine lv_iload_n hx hb d_C_addNewChange_25 rfl (lv_at hl 1 rfl) ?_
    refine qa_calli (qa_runV (As := [.int (gI x3 3), .int p1, .int p1]) (rest := []) C S (qc_C_addCopy l dC dI a k _ _ _ _ _ hw H.size) (cwV 3 C.2.2.2.2.1 qo_C_63_C_addCopy rfl rfl rfl qd_C_addCopy ⟨Nat.le_of_ble_eq_true rfl, Nat.le_of_ble_eq_true rfl⟩) (va_recv (q0 := 1) (ci := 1) S.2.2.1 S.1 rfl rfl) rfl hl.1 rfl (Nat.le_of_ble_eq_true rfl) d_C_addNewChange_26) S (fun r5 x4 H locs hw S => ?_)
    exact qa_reti C S hw d_C_addNewChange_29
  replace hw := hw.2 hc
  refine lv_iconst (v := -1) hx hb d_C_addNewChange_7 (by decide) ?_
  exact qa_reti C S hw d_C_addNewChange_8
set_option maxHeartbeats 4000000 in
set_option maxRecDepth 100000 in
theorem qc_D_show (l : Launch) (dC : Nat → ClassId) (dI : Nat → Nat → Nat) (a : Nat → Nat) (k : Nat → ClassId) (p1 : Int32) (x : QX) (post : QX → Prop) (hw : qw_D_show p1 x post) : qa_Cv l y_D_show qv_D_show qr_D_show (dC, dI) classes (qC_t k) (qC_w a k) [.ref (a 3), .int p1] x post := by
  refine qa_ofWv (by decide) (Nat.le_of_ble_eq_true rfl) ?_
  intro p e s m args below meth c A H locs ls C S hl
  replace hl : lv_has ls 2 [(0, .ref (a 3)), (1, .int p1)] := hl
  have hx := C.1
  have hb := C.2.1
  unfold qw_D_show at hw
  refine lv_aload_n hx hb d_D_show_0 rfl (lv_at hl 0 rfl) ?_
  refine lv_dup hx hb d_D_show_1 rfl ?_
  refine qf_C_D_shown C S qh_80 d_D_show_2 ?_
  refine lv_iload_n hx hb d_D_show_5 rfl (lv_at hl 1 rfl) ?_
  refine qa_calll (qa_runSN (As := [.int p1]) (rest := [.long (gL x 0), .ref (a 3)]) C S (qc_S_bit l dC dI a k _ _ _ hw H.size) ⟨va_cnB 1 C.2.2.2.2.1 qo_S_bit rfl rfl rfl (S.2.2.2.2.2 _ qh_199) (C.2.2.2.2.1 _ qh_1) qd_S_bit.2 ⟨Nat.le_of_ble_eq_true rfl, Nat.le_of_ble_eq_true rfl⟩, C.2.2.2.2.1 _ qh_48, trivial⟩ rfl hl.1 rfl (Nat.le_of_ble_eq_true rfl) d_D_show_6) S (fun r2 x1 H locs hw S => ?_)
  refine lv_lor hx hb d_D_show_9 ?_
  refine qp_C_D_shown C S qh_80 d_D_show_10 (fun x3 H locs ex3 S => ?_)
  replace hw := hw x3 ex3
  exact qa_retv C S hw d_D_show_13
set_option maxHeartbeats 4000000 in
set_option maxRecDepth 100000 in
theorem qc_D_workOn (l : Launch) (dC : Nat → ClassId) (dI : Nat → Nat → Nat) (a : Nat → Nat) (k : Nat → ClassId) (p1 : Int32) (x : QX) (post : QX → Prop) (hw : qw_D_workOn p1 x post) : qa_Cv l y_D_workOn qv_D_workOn qr_D_workOn (dC, dI) classes (qC_t k) (qC_w a k) [.ref (a 3), .int p1] x post := by
  refine qa_ofWv (by decide) (Nat.le_of_ble_eq_true rfl) ?_
  intro p e s m args below meth c A H locs ls C S hl
  replace hl : lv_has ls 2 [(0, .ref (a 3)), (1, .int p1)] := hl
  have hx := C.1
  have hb := C.2.1
  unfold qw_D_workOn at hw
  refine lv_aload_n hx hb d_D_workOn_0 rfl (lv_at hl 0 rfl) ?_
  refine lv_iload_n hx hb d_D_workOn_1 rfl (lv_at hl 1 rfl) ?_
  refine qp_C_D_working C S qh_82 d_D_workOn_2 (fun x1 H locs ex1 S => ?_)
  replace hw := hw x1 ex1
  exact qa_retv C S hw d_D_workOn_5
set_option maxHeartbeats 4000000 in
set_option maxRecDepth 100000 in
theorem qc_C_parentOf (l : Launch) (dC : Nat → ClassId) (dI : Nat → Nat → Nat) (a : Nat → Nat) (k : Nat → ClassId) (p1 : Int32) (x : QX) (post : Int32 → QX → Prop) (hw : qw_C_parentOf p1 x post) : qa_Ci l y_C_parentOf qv_C_parentOf qr_C_parentOf (dC, dI) classes (qC_t k) (qC_w a k) [.ref (a 1), .int p1] x post := by
  refine qa_ofWi (by decide) (Nat.le_of_ble_eq_true rfl) ?_
  intro p e s m args below meth c A H locs ls C S hl
  replace hl : lv_has ls 2 [(0, .ref (a 1)), (1, .int p1)] := hl
  have hx := C.1
  have hb := C.2.1
  unfold qw_C_parentOf at hw
  refine lv_aload_n hx hb d_C_parentOf_0 rfl (lv_at hl 0 rfl) ?_
  refine lv_iload_n hx hb d_C_parentOf_1 rfl (lv_at hl 1 rfl) ?_
  refine qa_calli (qa_runV (As := [.int p1]) (rest := []) C S (qc_C_has l dC dI a k _ _ _ hw H.size) (cwV 1 C.2.2.2.2.1 qo_C_29_C_has rfl rfl rfl qd_C_has ⟨Nat.le_of_ble_eq_true rfl, Nat.le_of_ble_eq_true rfl⟩) (va_recv (q0 := 1) (ci := 1) S.2.2.1 S.1 rfl rfl) rfl hl.1 rfl (Nat.le_of_ble_eq_true rfl) d_C_parentOf_2) S (fun r2 x1 H locs hw S => ?_)
  refine lv_if_eq (tgt := 17) hx hb d_C_parentOf_5 rfl (fun hc => ?_) (fun hc => ?_)
  · replace hw := hw.1 hc
    refine lv_iconst (v := -1) hx hb d_C_parentOf_17 (by decide) ?_
    exact qa_reti C S hw d_C_parentOf_18
  replace hw := hw.2 hc
  refine lv_aload_n hx hb d_C_parentOf_8 rfl (lv_at hl 0 rfl) ?_
  refine qf_C_C_parents C S qh_22 d_C_parentOf_9 ?_
  refine lv_iload_n hx hb d_C_parentOf_12 rfl (lv_at hl 1 rfl) ?_
  obtain ⟨hi, hw⟩ := hw
  refine qe_C_parents C S hi d_C_parentOf_13 ?_
  refine lv_goto (tgt := 18) hx hb d_C_parentOf_14 rfl ?_
  exact qa_reti C S hw d_C_parentOf_18
set_option maxHeartbeats 4000000 in
set_option maxRecDepth 100000 in
theorem qk_D_lowestOrphan_H2 {p : Program} {l : Launch} {e : Env} {s : State} {m : MethodId} {args : Array Value} {below : List Frame} {meth : Method} {c : Code} {A : Nat → Prop} {dC : Nat → ClassId} {dI : Nat → Nat → Nat} {a : Nat → Nat} {k : Nat → ClassId} (C : qa_X p s m args meth c b_D_lowestOrphan 2 (some .int) R_D)  (post : Int32 → QX → Prop)  : ∀ (n : Nat), ∀ (v1 : Int32) (x : QX) (H : Heap) (locs : List Loc) (ls : Array Slot), qw_D_lowestOrphan_H2  post n v1 x → qa_S (dC, dI) classes (qC_t k) (qC_w a k) A s x H locs → lv_has ls 2 [(0, .ref (a 3)), (1, .int v1)] → W p l e qr_D_lowestOrphan s m args below meth c H locs 0 0 (MQ below (va_Qi post (qa_B (dC, dI) classes (qC_t k) (qC_w a k) A) A) args s 0 0 A) (F0 m 2 ls []) := by
  have hx := C.1
  have hb := C.2.1
  intro n
  induction n with
  | zero => intro v1 x H locs ls hw S hl; exact False.elim hw
  | succ n ih =>
    intro v1 x H locs ls hw S hl
    replace hw : qw_D_lowestOrphan_S2  post (qw_D_lowestOrphan_H2  post n) v1 x := hw
    unfold qw_D_lowestOrphan_S2 at hw
    refine lv_iload_n hx hb d_D_lowestOrphan_2 rfl (lv_at hl 1 rfl) ?_
    refine lv_aload_n hx hb d_D_lowestOrphan_3 rfl (lv_at hl 0 rfl) ?_
    refine qf_C_D_commits C S qh_75 d_D_lowestOrphan_4 ?_
    refine qfN_C_C_size C S qh_26 d_D_lowestOrphan_7 ?_
    refine lv_icmp_ge (tgt := 44) hx hb d_D_lowestOrphan_10 rfl (fun hc => ?_) (fun hc => ?_)
    · replace hw := hw.1 hc
      refine lv_iconst (v := -1) hx hb d_D_lowestOrphan_44 (by decide) ?_
      exact qa_reti C S hw d_D_lowestOrphan_45
    replace hw := hw.2 hc
    refine lv_aload_n hx hb d_D_lowestOrphan_13 rfl (lv_at hl 0 rfl) ?_
    refine lv_iload_n hx hb d_D_lowestOrphan_14 rfl (lv_at hl 1 rfl) ?_
    refine qa_calli (qa_runV (As := [.int v1]) (rest := []) C S (qc_D_shows l dC dI a k _ _ _ hw H.size) (cwV 1 C.2.2.2.2.1 qo_D_107_D_shows rfl rfl rfl qd_D_shows ⟨Nat.le_of_ble_eq_true rfl, Nat.le_of_ble_eq_true rfl⟩) (va_recv (q0 := 3) (ci := 3) S.2.2.1 S.1 rfl rfl) rfl hl.1 rfl (Nat.le_of_ble_eq_true rfl) d_D_lowestOrphan_15) S (fun r2 x1 H locs hw S => ?_)
    refine lv_if_eq (tgt := 38) hx hb d_D_lowestOrphan_18 rfl (fun hc => ?_) (fun hc => ?_)
    · replace hw := hw.1 hc
      refine lv_iinc (k := 1) (v := v1 + 1) (lv' := [(1, .int (v1 + 1)), (0, .ref (a 3))]) hx hb d_D_lowestOrphan_38 hl rfl rfl (by decide) rfl (fun ls hl => ?_)
      refine lv_goto (tgt := 2) hx hb d_D_lowestOrphan_41 rfl ?_
      exact ih _ _ _ _ _ hw S (lv_sub hl [1, 0] rfl)
    replace hw := hw.2 hc
    refine lv_aload_n hx hb d_D_lowestOrphan_21 rfl (lv_at hl 0 rfl) ?_
    refine lv_aload_n hx hb d_D_lowestOrphan_22 rfl (lv_at hl 0 rfl) ?_
    refine qf_C_D_commits C S qh_75 d_D_lowestOrphan_23 ?_
    refine lv_iload_n hx hb d_D_lowestOrphan_26 rfl (lv_at hl 1 rfl) ?_
    refine qa_calli (qa_runV (As := [.int v1]) (rest := [.ref (a 3)]) C S (qc_C_parentOf l dC dI a k _ _ _ hw H.size) (cwV 1 C.2.2.2.2.1 qo_D_93_C_parentOf rfl rfl rfl qd_C_parentOf ⟨Nat.le_of_ble_eq_true rfl, Nat.le_of_ble_eq_true rfl⟩) (va_recv (q0 := 1) (ci := 1) S.2.2.1 S.1 rfl rfl) rfl hl.1 rfl (Nat.le_of_ble_eq_true rfl) d_D_lowestOrphan_27) S (fun r4 x3 H locs hw S => ?_)
    refine qa_calli (qa_runV (As := [.int r4]) (rest := []) C S (qc_D_shows l dC dI a k _ _ _ hw H.size) (cwV 1 C.2.2.2.2.1 qo_D_107_D_shows rfl rfl rfl qd_D_shows ⟨Nat.le_of_ble_eq_true rfl, Nat.le_of_ble_eq_true rfl⟩) (va_recv (q0 := 3) (ci := 3) S.2.2.1 S.1 rfl rfl) rfl hl.1 rfl (Nat.le_of_ble_eq_true rfl) d_D_lowestOrphan_30) S (fun r6 x5 H locs hw S => ?_)
    refine lv_if_ne (tgt := 38) hx hb d_D_lowestOrphan_33 rfl (fun hc => ?_) (fun hc => ?_)
    · replace hw := hw.1 hc
      refine lv_iinc (k := 1) (v := v1 + 1) (lv' := [(1, .int (v1 + 1)), (0, .ref (a 3))]) hx hb d_D_lowestOrphan_38 hl rfl rfl (by decide) rfl (fun ls hl => ?_)
      refine lv_goto (tgt := 2) hx hb d_D_lowestOrphan_41 rfl ?_
      exact ih _ _ _ _ _ hw S (lv_sub hl [1, 0] rfl)
    replace hw := hw.2 hc
    refine lv_iload_n hx hb d_D_lowestOrphan_36 rfl (lv_at hl 1 rfl) ?_
    exact qa_reti C S hw d_D_lowestOrphan_37
set_option maxHeartbeats 4000000 in
set_option maxRecDepth 100000 in
theorem qc_D_lowestOrphan (l : Launch) (dC : Nat → ClassId) (dI : Nat → Nat → Nat) (a : Nat → Nat) (k : Nat → ClassId)  (x : QX) (post : Int32 → QX → Prop) (hw : qw_D_lowestOrphan  x post) : qa_Ci l y_D_lowestOrphan qv_D_lowestOrphan qr_D_lowestOrphan (dC, dI) classes (qC_t k) (qC_w a k) [.ref (a 3)] x post := by
  refine qa_ofWi (by decide) (Nat.le_of_ble_eq_true rfl) ?_
  intro p e s m args below meth c A H locs ls C S hl
  replace hl : lv_has ls 2 [(0, .ref (a 3))] := hl
  have hx := C.1
  have hb := C.2.1
  unfold qw_D_lowestOrphan at hw
  refine lv_iconst (v := 1) hx hb d_D_lowestOrphan_0 (by decide) ?_
  refine lv_istore_n (lv' := [(1, .int (1 : Int32)), (0, .ref (a 3))]) hx hb d_D_lowestOrphan_1 rfl hl (by decide) rfl (fun ls hl => ?_)
  exact qk_D_lowestOrphan_H2 C post qFU _ _ _ _ _ hw S (lv_sub hl [1, 0] rfl)
set_option maxHeartbeats 4000000 in
set_option maxRecDepth 100000 in
theorem qk_C_withAllThatComesOf_H10 {p : Program} {l : Launch} {e : Env} {s : State} {m : MethodId} {args : Array Value} {below : List Frame} {meth : Method} {c : Code} {A : Nat → Prop} {dC : Nat → ClassId} {dI : Nat → Nat → Nat} {a : Nat → Nat} {k : Nat → ClassId} (C : qa_X p s m args meth c b_C_withAllThatComesOf 5 (some .long) R_C)  (post : Int64 → QX → Prop)  : ∀ (n : Nat), ∀ (v1 : Int32) (v2 : Int64) (v4 : Int32) (x : QX) (H : Heap) (locs : List Loc) (ls : Array Slot), qw_C_withAllThatComesOf_H10  post n v1 v2 v4 x → qa_S (dC, dI) classes (qC_t k) (qC_w a k) A s x H locs → lv_has ls 5 [(0, .ref (a 1)), (1, .int v1), (2, .long v2), (4, .int v4)] → W p l e qr_C_withAllThatComesOf s m args below meth c H locs 0 0 (MQ below (va_Ql post (qa_B (dC, dI) classes (qC_t k) (qC_w a k) A) A) args s 0 0 A) (F0 m 10 ls []) := by
  have hx := C.1
  have hb := C.2.1
  intro n
  induction n with
  | zero => intro v1 v2 v4 x H locs ls hw S hl; exact False.elim hw
  | succ n ih =>
    intro v1 v2 v4 x H locs ls hw S hl
    replace hw : qw_C_withAllThatComesOf_S10  post (qw_C_withAllThatComesOf_H10  post n) v1 v2 v4 x := hw
    unfold qw_C_withAllThatComesOf_S10 at hw
    refine lv_iload hx hb d_C_withAllThatComesOf_10 (lv_at hl 3 rfl) ?_
    refine lv_aload_n hx hb d_C_withAllThatComesOf_12 rfl (lv_at hl 0 rfl) ?_
    refine qf_C_C_size C S qh_25 d_C_withAllThatComesOf_13 ?_
    refine lv_icmp_ge (tgt := 46) hx hb d_C_withAllThatComesOf_16 rfl (fun hc => ?_) (fun hc => ?_)
    · replace hw := hw.1 hc
      refine lv_lload_n hx hb d_C_withAllThatComesOf_46 rfl (lv_at hl 2 rfl) ?_
      exact qa_retl C S hw d_C_withAllThatComesOf_47
    replace hw := hw.2 hc
    refine lv_aload_n hx hb d_C_withAllThatComesOf_19 rfl (lv_at hl 0 rfl) ?_
    refine lv_iload hx hb d_C_withAllThatComesOf_20 (lv_at hl 3 rfl) ?_
    refine qa_calli (qa_runV (As := [.int v4]) (rest := []) C S (qc_C_parentOf l dC dI a k _ _ _ hw H.size) (cwV 1 C.2.2.2.2.1 qo_C_51_C_parentOf rfl rfl rfl qd_C_parentOf ⟨Nat.le_of_ble_eq_true rfl, Nat.le_of_ble_eq_true rfl⟩) (va_recv (q0 := 1) (ci := 1) S.2.2.1 S.1 rfl rfl) rfl hl.1 rfl (Nat.le_of_ble_eq_true rfl) d_C_withAllThatComesOf_22) S (fun r5 x4 H locs hw S => ?_)
    refine lv_lload_n hx hb d_C_withAllThatComesOf_25 rfl (lv_at hl 2 rfl) ?_
    refine qa_calli (qa_runSN (As := [.int r5, .long v2]) (rest := []) C S (qc_S_isIn l dC dI a k _ _ _ _ hw H.size) ⟨va_cnB 2 C.2.2.2.2.1 qo_S_isIn rfl rfl rfl (S.2.2.2.2.2 _ qh_228) (C.2.2.2.2.1 _ qh_1) qd_S_isIn.2 ⟨Nat.le_of_ble_eq_true rfl, Nat.le_of_ble_eq_true rfl⟩, C.2.2.2.2.1 _ qh_162, trivial⟩ rfl hl.1 rfl (Nat.le_of_ble_eq_true rfl) d_C_withAllThatComesOf_26) S (fun r7 x6 H locs hw S => ?_)
    refine lv_if_eq (tgt := 40) hx hb d_C_withAllThatComesOf_29 rfl (fun hc => ?_) (fun hc => ?_)
    · replace hw := hw.1 hc
      refine lv_iinc (k := 3) (v := v4 + 1) (lv' := [(4, .int (v4 + 1)), (0, .ref (a 1)), (1, .int v1), (2, .long v2)]) hx hb d_C_withAllThatComesOf_40 hl rfl rfl (by decide) rfl (fun ls hl => ?_)
      refine lv_goto (tgt := 10) hx hb d_C_withAllThatComesOf_43 rfl ?_
      exact ih _ _ _ _ _ _ _ hw S (lv_sub hl [1, 2, 3, 0] rfl)
    replace hw := hw.2 hc
    refine lv_lload_n hx hb d_C_withAllThatComesOf_32 rfl (lv_at hl 2 rfl) ?_
    refine lv_iload hx hb d_C_withAllThatComesOf_33 (lv_at hl 3 rfl) ?_
    refine qa_calll (qa_runSN (As := [.int v4]) (rest := [.long v2]) C S (qc_S_bit l dC dI a k _ _ _ hw H.size) ⟨va_cnB 1 C.2.2.2.2.1 qo_S_bit rfl rfl rfl (S.2.2.2.2.2 _ qh_226) (C.2.2.2.2.1 _ qh_1) qd_S_bit.2 ⟨Nat.le_of_ble_eq_true rfl, Nat.le_of_ble_eq_true rfl⟩, C.2.2.2.2.1 _ qh_48, trivial⟩ rfl hl.1 rfl (Nat.le_of_ble_eq_true rfl) d_C_withAllThatComesOf_35) S (fun r9 x8 H locs hw S => ?_)
    refine lv_lor hx hb d_C_withAllThatComesOf_38 ?_
    refine lv_topl (fun t10 et10 => ?_)
    replace hw := hw t10 et10
    refine lv_lstore_n (lv' := [(2, .long t10), (0, .ref (a 1)), (1, .int v1), (4, .int v4)]) hx hb d_C_withAllThatComesOf_39 rfl hl (by decide) rfl (fun ls hl => ?_)
    refine lv_iinc (k := 3) (v := v4 + 1) (lv' := [(4, .int (v4 + 1)), (2, .long t10), (0, .ref (a 1)), (1, .int v1)]) hx hb d_C_withAllThatComesOf_40 hl rfl rfl (by decide) rfl (fun ls hl => ?_)
    refine lv_goto (tgt := 10) hx hb d_C_withAllThatComesOf_43 rfl ?_
    exact ih _ _ _ _ _ _ _ hw S (lv_sub hl [2, 3, 1, 0] rfl)
set_option maxHeartbeats 4000000 in
set_option maxRecDepth 100000 in
theorem qc_C_withAllThatComesOf (l : Launch) (dC : Nat → ClassId) (dI : Nat → Nat → Nat) (a : Nat → Nat) (k : Nat → ClassId) (p1 : Int32) (x : QX) (post : Int64 → QX → Prop) (hw : qw_C_withAllThatComesOf p1 x post) : qa_Cl l y_C_withAllThatComesOf qv_C_withAllThatComesOf qr_C_withAllThatComesOf (dC, dI) classes (qC_t k) (qC_w a k) [.ref (a 1), .int p1] x post := by
  refine qa_ofWl (by decide) (Nat.le_of_ble_eq_true rfl) ?_
  intro p e s m args below meth c A H locs ls C S hl
  replace hl : lv_has ls 5 [(0, .ref (a 1)), (1, .int p1)] := hl
  have hx := C.1
  have hb := C.2.1
  unfold qw_C_withAllThatComesOf at hw
  refine lv_iload_n hx hb d_C_withAllThatComesOf_0 rfl (lv_at hl 1 rfl) ?_
  refine qa_calll (qa_runSN (As := [.int p1]) (rest := []) C S (qc_S_bit l dC dI a k _ _ _ hw H.size) ⟨va_cnB 1 C.2.2.2.2.1 qo_S_bit rfl rfl rfl (S.2.2.2.2.2 _ qh_226) (C.2.2.2.2.1 _ qh_1) qd_S_bit.2 ⟨Nat.le_of_ble_eq_true rfl, Nat.le_of_ble_eq_true rfl⟩, C.2.2.2.2.1 _ qh_48, trivial⟩ rfl hl.1 rfl (Nat.le_of_ble_eq_true rfl) d_C_withAllThatComesOf_1) S (fun r2 x1 H locs hw S => ?_)
  refine lv_lstore_n (lv' := [(2, .long r2), (0, .ref (a 1)), (1, .int p1)]) hx hb d_C_withAllThatComesOf_4 rfl hl (by decide) rfl (fun ls hl => ?_)
  refine lv_iload_n hx hb d_C_withAllThatComesOf_5 rfl (lv_at hl 2 rfl) ?_
  refine lv_iconst (v := 1) hx hb d_C_withAllThatComesOf_6 (by decide) ?_
  refine lv_iadd hx hb d_C_withAllThatComesOf_7 ?_
  refine lv_topi (fun t3 et3 => ?_)
  replace hw := hw t3 et3
  refine lv_istore (lv' := [(4, .int t3), (2, .long r2), (0, .ref (a 1)), (1, .int p1)]) hx hb d_C_withAllThatComesOf_8 hl (by decide) rfl (fun ls hl => ?_)
  exact qk_C_withAllThatComesOf_H10 C post qFU _ _ _ _ _ _ _ hw S (lv_sub hl [2, 3, 1, 0] rfl)
set_option maxHeartbeats 4000000 in
set_option maxRecDepth 100000 in
theorem qc_C_changeOf (l : Launch) (dC : Nat → ClassId) (dI : Nat → Nat → Nat) (a : Nat → Nat) (k : Nat → ClassId) (p1 : Int32) (x : QX) (post : Int32 → QX → Prop) (hw : qw_C_changeOf p1 x post) : qa_Ci l y_C_changeOf qv_C_changeOf qr_C_changeOf (dC, dI) classes (qC_t k) (qC_w a k) [.ref (a 1), .int p1] x post := by
  refine qa_ofWi (by decide) (Nat.le_of_ble_eq_true rfl) ?_
  intro p e s m args below meth c A H locs ls C S hl
  replace hl : lv_has ls 2 [(0, .ref (a 1)), (1, .int p1)] := hl
  have hx := C.1
  have hb := C.2.1
  unfold qw_C_changeOf at hw
  refine lv_aload_n hx hb d_C_changeOf_0 rfl (lv_at hl 0 rfl) ?_
  refine lv_iload_n hx hb d_C_changeOf_1 rfl (lv_at hl 1 rfl) ?_
  refine qa_calli (qa_runV (As := [.int p1]) (rest := []) C S (qc_C_has l dC dI a k _ _ _ hw H.size) (cwV 1 C.2.2.2.2.1 qo_C_29_C_has rfl rfl rfl qd_C_has ⟨Nat.le_of_ble_eq_true rfl, Nat.le_of_ble_eq_true rfl⟩) (va_recv (q0 := 1) (ci := 1) S.2.2.1 S.1 rfl rfl) rfl hl.1 rfl (Nat.le_of_ble_eq_true rfl) d_C_changeOf_2) S (fun r2 x1 H locs hw S => ?_)
  refine lv_if_eq (tgt := 17) hx hb d_C_changeOf_5 rfl (fun hc => ?_) (fun hc => ?_)
  · replace hw := hw.1 hc
    refine lv_iconst (v := -1) hx hb d_C_changeOf_17 (by decide) ?_
    exact qa_reti C S hw d_C_changeOf_18
  replace hw := hw.2 hc
  refine lv_aload_n hx hb d_C_changeOf_8 rfl (lv_at hl 0 rfl) ?_
  refine qf_C_C_changes C S qh_23 d_C_changeOf_9 ?_
  refine lv_iload_n hx hb d_C_changeOf_12 rfl (lv_at hl 1 rfl) ?_
  obtain ⟨hi, hw⟩ := hw
  refine qe_C_changes C S hi d_C_changeOf_13 ?_
  refine lv_goto (tgt := 18) hx hb d_C_changeOf_14 rfl ?_
  exact qa_reti C S hw d_C_changeOf_18
set_option maxHeartbeats 4000000 in
set_option maxRecDepth 100000 in
theorem qk_C_latestOfChange_H8 {p : Program} {l : Launch} {e : Env} {s : State} {m : MethodId} {args : Array Value} {below : List Frame} {meth : Method} {c : Code} {A : Nat → Prop} {dC : Nat → ClassId} {dI : Nat → Nat → Nat} {a : Nat → Nat} {k : Nat → ClassId} (C : qa_X p s m args meth c b_C_latestOfChange 5 (some .int) R_C)  (post : Int32 → QX → Prop)  : ∀ (n : Nat), ∀ (v1 : Int32) (v2 : Int64) (v4 : Int32) (x : QX) (H : Heap) (locs : List Loc) (ls : Array Slot), qw_C_latestOfChange_H8  post n v1 v2 v4 x → qa_S (dC, dI) classes (qC_t k) (qC_w a k) A s x H locs → lv_has ls 5 [(0, .ref (a 1)), (1, .int v1), (2, .long v2), (4, .int v4)] → W p l e qr_C_latestOfChange s m args below meth c H locs 0 0 (MQ below (va_Qi post (qa_B (dC, dI) classes (qC_t k) (qC_w a k) A) A) args s 0 0 A) (F0 m 8 ls []) := by
  have hx := C.1
  have hb := C.2.1
  intro n
  induction n with
  | zero => intro v1 v2 v4 x H locs ls hw S hl; exact False.elim hw
  | succ n ih =>
    intro v1 v2 v4 x H locs ls hw S hl
    replace hw : qw_C_latestOfChange_S8  post (qw_C_latestOfChange_H8  post n) v1 v2 v4 x := hw
    unfold qw_C_latestOfChange_S8 at hw
    refine lv_iload hx hb d_C_latestOfChange_8 (lv_at hl 3 rfl) ?_
    refine lv_if_lt (tgt := 42) hx hb d_C_latestOfChange_10 rfl (fun hc => ?_) (fun hc => ?_)
    · replace hw := hw.1 hc
      refine lv_iconst (v := -1) hx hb d_C_latestOfChange_42 (by decide) ?_
      exact qa_reti C S hw d_C_latestOfChange_43
    replace hw := hw.2 hc
    refine lv_aload_n hx hb d_C_latestOfChange_13 rfl (lv_at hl 0 rfl) ?_
    refine qf_C_C_changes C S qh_23 d_C_latestOfChange_14 ?_
    refine lv_iload hx hb d_C_latestOfChange_17 (lv_at hl 3 rfl) ?_
    obtain ⟨hi, hw⟩ := hw
    refine qe_C_changes C S hi d_C_latestOfChange_19 ?_
    refine lv_iload_n hx hb d_C_latestOfChange_20 rfl (lv_at hl 1 rfl) ?_
    refine lv_icmp_ne (tgt := 36) hx hb d_C_latestOfChange_21 rfl (fun hc => ?_) (fun hc => ?_)
    · replace hw := hw.1 hc
      refine lv_iinc (k := 3) (v := v4 + (-1)) (lv' := [(4, .int (v4 + (-1))), (0, .ref (a 1)), (1, .int v1), (2, .long v2)]) hx hb d_C_latestOfChange_36 hl rfl rfl (by decide) rfl (fun ls hl => ?_)
      refine lv_goto (tgt := 8) hx hb d_C_latestOfChange_39 rfl ?_
      exact ih _ _ _ _ _ _ _ hw S (lv_sub hl [1, 2, 3, 0] rfl)
    replace hw := hw.2 hc
    refine lv_iload hx hb d_C_latestOfChange_24 (lv_at hl 3 rfl) ?_
    refine lv_lload_n hx hb d_C_latestOfChange_26 rfl (lv_at hl 2 rfl) ?_
    refine qa_calli (qa_runSN (As := [.int v4, .long v2]) (rest := []) C S (qc_S_isIn l dC dI a k _ _ _ _ hw H.size) ⟨va_cnB 2 C.2.2.2.2.1 qo_S_isIn rfl rfl rfl (S.2.2.2.2.2 _ qh_228) (C.2.2.2.2.1 _ qh_1) qd_S_isIn.2 ⟨Nat.le_of_ble_eq_true rfl, Nat.le_of_ble_eq_true rfl⟩, C.2.2.2.2.1 _ qh_162, trivial⟩ rfl hl.1 rfl (Nat.le_of_ble_eq_true rfl) d_C_latestOfChange_27) S (fun r3 x2 H locs hw S => ?_)
    refine lv_if_eq (tgt := 36) hx hb d_C_latestOfChange_30 rfl (fun hc => ?_) (fun hc => ?_)
    · replace hw := hw.1 hc
      refine lv_iinc (k := 3) (v := v4 + (-1)) (lv' := [(4, .int (v4 + (-1))), (0, .ref (a 1)), (1, .int v1), (2, .long v2)]) hx hb d_C_latestOfChange_36 hl rfl rfl (by decide) rfl (fun ls hl => ?_)
      refine lv_goto (tgt := 8) hx hb d_C_latestOfChange_39 rfl ?_
      exact ih _ _ _ _ _ _ _ hw S (lv_sub hl [1, 2, 3, 0] rfl)
    replace hw := hw.2 hc
    refine lv_iload hx hb d_C_latestOfChange_33 (lv_at hl 3 rfl) ?_
    exact qa_reti C S hw d_C_latestOfChange_35
set_option maxHeartbeats 4000000 in
set_option maxRecDepth 100000 in
theorem qc_C_latestOfChange (l : Launch) (dC : Nat → ClassId) (dI : Nat → Nat → Nat) (a : Nat → Nat) (k : Nat → ClassId) (p1 : Int32) (p2 : Int64) (x : QX) (post : Int32 → QX → Prop) (hw : qw_C_latestOfChange p1 p2 x post) : qa_Ci l y_C_latestOfChange qv_C_latestOfChange qr_C_latestOfChange (dC, dI) classes (qC_t k) (qC_w a k) [.ref (a 1), .int p1, .long p2] x post := by
  refine qa_ofWi (by decide) (Nat.le_of_ble_eq_true rfl) ?_
  intro p e s m args below meth c A H locs ls C S hl
  replace hl : lv_has ls 5 [(0, .ref (a 1)), (1, .int p1), (2, .long p2)] := hl
  have hx := C.1
  have hb := C.2.1
  unfold qw_C_latestOfChange at hw
  refine lv_aload_n hx hb d_C_latestOfChange_0 rfl (lv_at hl 0 rfl) ?_
  refine qf_C_C_size C S qh_25 d_C_latestOfChange_1 ?_
  refine lv_iconst (v := 1) hx hb d_C_latestOfChange_4 (by decide) ?_
  refine lv_isub hx hb d_C_latestOfChange_5 ?_
  refine lv_topi (fun t1 et1 => ?_)
  replace hw := hw t1 et1
  refine lv_istore (lv' := [(4, .int t1), (0, .ref (a 1)), (1, .int p1), (2, .long p2)]) hx hb d_C_latestOfChange_6 hl (by decide) rfl (fun ls hl => ?_)
  exact qk_C_latestOfChange_H8 C post qFU _ _ _ _ _ _ _ hw S (lv_sub hl [1, 2, 3, 0] rfl)
set_option maxHeartbeats 4000000 in
set_option maxRecDepth 100000 in
theorem qc_D_nextTowardsPlace (l : Launch) (dC : Nat → ClassId) (dI : Nat → Nat → Nat) (a : Nat → Nat) (k : Nat → ClassId) (p1 : Int32) (p2 : Int64) (x : QX) (post : Int32 → QX → Prop) (hw : qw_D_nextTowardsPlace p1 p2 x post) : qa_Ci l y_D_nextTowardsPlace qv_D_nextTowardsPlace qr_D_nextTowardsPlace (dC, dI) classes (qC_t k) (qC_w a k) [.ref (a 3), .int p1, .long p2] x post := by
  refine qa_ofWi (by decide) (Nat.le_of_ble_eq_true rfl) ?_
  intro p e s m args below meth c A H locs ls C S hl
  replace hl : lv_has ls 5 [(0, .ref (a 3)), (1, .int p1), (2, .long p2)] := hl
  have hx := C.1
  have hb := C.2.1
  unfold qw_D_nextTowardsPlace at hw
  refine lv_aload_n hx hb d_D_nextTowardsPlace_0 rfl (lv_at hl 0 rfl) ?_
  refine qf_C_D_commits C S qh_75 d_D_nextTowardsPlace_1 ?_
  refine lv_iload_n hx hb d_D_nextTowardsPlace_4 rfl (lv_at hl 1 rfl) ?_
  refine qa_calli (qa_runV (As := [.int p1]) (rest := []) C S (qc_C_has l dC dI a k _ _ _ hw H.size) (cwV 1 C.2.2.2.2.1 qo_D_74_C_has rfl rfl rfl qd_C_has ⟨Nat.le_of_ble_eq_true rfl, Nat.le_of_ble_eq_true rfl⟩) (va_recv (q0 := 1) (ci := 1) S.2.2.1 S.1 rfl rfl) rfl hl.1 rfl (Nat.le_of_ble_eq_true rfl) d_D_nextTowardsPlace_5) S (fun r2 x1 H locs hw S => ?_)
  refine lv_if_ne (tgt := 13) hx hb d_D_nextTowardsPlace_8 rfl (fun hc => ?_) (fun hc => ?_)
  · replace hw := hw.1 hc
    refine lv_aload_n hx hb d_D_nextTowardsPlace_13 rfl (lv_at hl 0 rfl) ?_
    refine qf_C_D_replacements C S qh_79 d_D_nextTowardsPlace_14 ?_
    refine lv_iload_n hx hb d_D_nextTowardsPlace_17 rfl (lv_at hl 1 rfl) ?_
    obtain ⟨hi, hw⟩ := hw
    refine qe_C_replacements C S hi d_D_nextTowardsPlace_18 ?_
    refine lv_iconst (v := -1) hx hb d_D_nextTowardsPlace_19 (by decide) ?_
    refine lv_icmp_eq (tgt := 30) hx hb d_D_nextTowardsPlace_20 rfl (fun hc => ?_) (fun hc => ?_)
    · replace hw := hw.1 hc
      refine lv_aload_n hx hb d_D_nextTowardsPlace_30 rfl (lv_at hl 0 rfl) ?_
      refine qf_C_D_commits C S qh_75 d_D_nextTowardsPlace_31 ?_
      refine lv_aload_n hx hb d_D_nextTowardsPlace_34 rfl (lv_at hl 0 rfl) ?_
      refine qf_C_D_commits C S qh_75 d_D_nextTowardsPlace_35 ?_
      refine lv_iload_n hx hb d_D_nextTowardsPlace_38 rfl (lv_at hl 1 rfl) ?_
      refine qa_calli (qa_runV (As := [.int p1]) (rest := [.ref (a 1)]) C S (qc_C_changeOf l dC dI a k _ _ _ hw H.size) (cwV 1 C.2.2.2.2.1 qo_D_113_C_changeOf rfl rfl rfl qd_C_changeOf ⟨Nat.le_of_ble_eq_true rfl, Nat.le_of_ble_eq_true rfl⟩) (va_recv (q0 := 1) (ci := 1) S.2.2.1 S.1 rfl rfl) rfl hl.1 rfl (Nat.le_of_ble_eq_true rfl) d_D_nextTowardsPlace_39) S (fun r4 x3 H locs hw S => ?_)
      refine lv_lload_n hx hb d_D_nextTowardsPlace_42 rfl (lv_at hl 2 rfl) ?_
      refine qa_calli (qa_runV (As := [.int r4, .long p2]) (rest := []) C S (qc_C_latestOfChange l dC dI a k _ _ _ _ hw H.size) (cwV 2 C.2.2.2.2.1 qo_D_116_C_latestOfChange rfl rfl rfl qd_C_latestOfChange ⟨Nat.le_of_ble_eq_true rfl, Nat.le_of_ble_eq_true rfl⟩) (va_recv (q0 := 1) (ci := 1) S.2.2.1 S.1 rfl rfl) rfl hl.1 rfl (Nat.le_of_ble_eq_true rfl) d_D_nextTowardsPlace_43) S (fun r6 x5 H locs hw S => ?_)
      refine lv_istore (lv' := [(4, .int r6), (0, .ref (a 3)), (1, .int p1), (2, .long p2)]) hx hb d_D_nextTowardsPlace_46 hl (by decide) rfl (fun ls hl => ?_)
      refine lv_iload hx hb d_D_nextTowardsPlace_48 (lv_at hl 0 rfl) ?_
      refine lv_iconst (v := -1) hx hb d_D_nextTowardsPlace_50 (by decide) ?_
      refine lv_icmp_eq (tgt := 59) hx hb d_D_nextTowardsPlace_51 rfl (fun hc => ?_) (fun hc => ?_)
      · replace hw := hw.1 hc
        refine lv_aload_n hx hb d_D_nextTowardsPlace_59 rfl (lv_at hl 1 rfl) ?_
        refine qf_C_D_commits C S qh_75 d_D_nextTowardsPlace_60 ?_
        refine lv_iload_n hx hb d_D_nextTowardsPlace_63 rfl (lv_at hl 2 rfl) ?_
        refine qa_calli (qa_runV (As := [.int p1]) (rest := []) C S (qc_C_parentOf l dC dI a k _ _ _ hw H.size) (cwV 1 C.2.2.2.2.1 qo_D_93_C_parentOf rfl rfl rfl qd_C_parentOf ⟨Nat.le_of_ble_eq_true rfl, Nat.le_of_ble_eq_true rfl⟩) (va_recv (q0 := 1) (ci := 1) S.2.2.1 S.1 rfl rfl) rfl hl.1 rfl (Nat.le_of_ble_eq_true rfl) d_D_nextTowardsPlace_64) S (fun r8 x7 H locs hw S => ?_)
        exact qa_reti C S hw d_D_nextTowardsPlace_67
      replace hw := hw.2 hc
      refine lv_iload hx hb d_D_nextTowardsPlace_54 (lv_at hl 0 rfl) ?_
      refine lv_goto (tgt := 67) hx hb d_D_nextTowardsPlace_56 rfl ?_
      exact qa_reti C S hw d_D_nextTowardsPlace_67
    replace hw := hw.2 hc
    refine lv_aload_n hx hb d_D_nextTowardsPlace_23 rfl (lv_at hl 0 rfl) ?_
    refine qf_C_D_replacements C S qh_79 d_D_nextTowardsPlace_24 ?_
    refine lv_iload_n hx hb d_D_nextTowardsPlace_27 rfl (lv_at hl 1 rfl) ?_
    obtain ⟨hi, hw⟩ := hw
    refine qe_C_replacements C S hi d_D_nextTowardsPlace_28 ?_
    exact qa_reti C S hw d_D_nextTowardsPlace_29
  replace hw := hw.2 hc
  refine lv_iconst (v := 0) hx hb d_D_nextTowardsPlace_11 (by decide) ?_
  exact qa_reti C S hw d_D_nextTowardsPlace_12
set_option maxHeartbeats 4000000 in
set_option maxRecDepth 100000 in
theorem qk_D_placeOf_H6 {p : Program} {l : Launch} {e : Env} {s : State} {m : MethodId} {args : Array Value} {below : List Frame} {meth : Method} {c : Code} {A : Nat → Prop} {dC : Nat → ClassId} {dI : Nat → Nat → Nat} {a : Nat → Nat} {k : Nat → ClassId} (C : qa_X p s m args meth c b_D_placeOf 6 (some .int) R_D)  (post : Int32 → QX → Prop)  : ∀ (n : Nat), ∀ (v1 : Int32) (v2 : Int64) (v4 : Int32) (v5 : Int32) (x : QX) (H : Heap) (locs : List Loc) (ls : Array Slot), qw_D_placeOf_H6  post n v1 v2 v4 v5 x → qa_S (dC, dI) classes (qC_t k) (qC_w a k) A s x H locs → lv_has ls 6 [(0, .ref (a 3)), (1, .int v1), (2, .long v2), (4, .int v4), (5, .int v5)] → W p l e qr_D_placeOf s m args below meth c H locs 0 0 (MQ below (va_Qi post (qa_B (dC, dI) classes (qC_t k) (qC_w a k) A) A) args s 0 0 A) (F0 m 6 ls []) := by
  have hx := C.1
  have hb := C.2.1
  intro n
  induction n with
  | zero => intro v1 v2 v4 v5 x H locs ls hw S hl; exact False.elim hw
  | succ n ih =>
    intro v1 v2 v4 v5 x H locs ls hw S hl
    replace hw : qw_D_placeOf_S6  post (qw_D_placeOf_H6  post n) v1 v2 v4 v5 x := hw
    unfold qw_D_placeOf_S6 at hw
    refine lv_iload hx hb d_D_placeOf_6 (lv_at hl 4 rfl) ?_
    refine lv_bipush (v := 120) hx hb d_D_placeOf_8 (by decide) ?_
    refine lv_icmp_ge (tgt := 37) hx hb d_D_placeOf_10 rfl (fun hc => ?_) (fun hc => ?_)
    · replace hw := hw.1 hc
      refine lv_aload_n hx hb d_D_placeOf_37 rfl (lv_at hl 0 rfl) ?_
      refine lv_iload hx hb d_D_placeOf_38 (lv_at hl 3 rfl) ?_
      refine qa_calli (qa_runV (As := [.int v4]) (rest := []) C S (qc_D_shows l dC dI a k _ _ _ hw H.size) (cwV 1 C.2.2.2.2.1 qo_D_107_D_shows rfl rfl rfl qd_D_shows ⟨Nat.le_of_ble_eq_true rfl, Nat.le_of_ble_eq_true rfl⟩) (va_recv (q0 := 3) (ci := 3) S.2.2.1 S.1 rfl rfl) rfl hl.1 rfl (Nat.le_of_ble_eq_true rfl) d_D_placeOf_40) S (fun r2 x1 H locs hw S => ?_)
      refine lv_if_eq (tgt := 51) hx hb d_D_placeOf_43 rfl (fun hc => ?_) (fun hc => ?_)
      · replace hw := hw.1 hc
        refine lv_iconst (v := 0) hx hb d_D_placeOf_51 (by decide) ?_
        exact qa_reti C S hw d_D_placeOf_52
      replace hw := hw.2 hc
      refine lv_iload hx hb d_D_placeOf_46 (lv_at hl 3 rfl) ?_
      refine lv_goto (tgt := 52) hx hb d_D_placeOf_48 rfl ?_
      exact qa_reti C S hw d_D_placeOf_52
    replace hw := hw.2 hc
    refine lv_aload_n hx hb d_D_placeOf_13 rfl (lv_at hl 0 rfl) ?_
    refine lv_iload hx hb d_D_placeOf_14 (lv_at hl 3 rfl) ?_
    refine qa_calli (qa_runV (As := [.int v4]) (rest := []) C S (qc_D_shows l dC dI a k _ _ _ hw H.size) (cwV 1 C.2.2.2.2.1 qo_D_107_D_shows rfl rfl rfl qd_D_shows ⟨Nat.le_of_ble_eq_true rfl, Nat.le_of_ble_eq_true rfl⟩) (va_recv (q0 := 3) (ci := 3) S.2.2.1 S.1 rfl rfl) rfl hl.1 rfl (Nat.le_of_ble_eq_true rfl) d_D_placeOf_16) S (fun r4 x3 H locs hw S => ?_)
    refine lv_if_ne (tgt := 37) hx hb d_D_placeOf_19 rfl (fun hc => ?_) (fun hc => ?_)
    · replace hw := hw.1 hc
      refine lv_aload_n hx hb d_D_placeOf_37 rfl (lv_at hl 0 rfl) ?_
      refine lv_iload hx hb d_D_placeOf_38 (lv_at hl 3 rfl) ?_
      refine qa_calli (qa_runV (As := [.int v4]) (rest := []) C S (qc_D_shows l dC dI a k _ _ _ hw H.size) (cwV 1 C.2.2.2.2.1 qo_D_107_D_shows rfl rfl rfl qd_D_shows ⟨Nat.le_of_ble_eq_true rfl, Nat.le_of_ble_eq_true rfl⟩) (va_recv (q0 := 3) (ci := 3) S.2.2.1 S.1 rfl rfl) rfl hl.1 rfl (Nat.le_of_ble_eq_true rfl) d_D_placeOf_40) S (fun r6 x5 H locs hw S => ?_)
      refine lv_if_eq (tgt := 51) hx hb d_D_placeOf_43 rfl (fun hc => ?_) (fun hc => ?_)
      · replace hw := hw.1 hc
        refine lv_iconst (v := 0) hx hb d_D_placeOf_51 (by decide) ?_
        exact qa_reti C S hw d_D_placeOf_52
      replace hw := hw.2 hc
      refine lv_iload hx hb d_D_placeOf_46 (lv_at hl 3 rfl) ?_
      refine lv_goto (tgt := 52) hx hb d_D_placeOf_48 rfl ?_
      exact qa_reti C S hw d_D_placeOf_52
    replace hw := hw.2 hc
    refine lv_aload_n hx hb d_D_placeOf_22 rfl (lv_at hl 0 rfl) ?_
    refine lv_iload hx hb d_D_placeOf_23 (lv_at hl 3 rfl) ?_
    refine lv_lload_n hx hb d_D_placeOf_25 rfl (lv_at hl 2 rfl) ?_
    refine qa_calli (qa_runV (As := [.int v4, .long v2]) (rest := []) C S (qc_D_nextTowardsPlace l dC dI a k _ _ _ _ hw H.size) (cwV 2 C.2.2.2.2.1 qo_D_110_D_nextTowardsPlace rfl rfl rfl qd_D_nextTowardsPlace ⟨Nat.le_of_ble_eq_true rfl, Nat.le_of_ble_eq_true rfl⟩) (va_recv (q0 := 3) (ci := 3) S.2.2.1 S.1 rfl rfl) rfl hl.1 rfl (Nat.le_of_ble_eq_true rfl) d_D_placeOf_26) S (fun r8 x7 H locs hw S => ?_)
    refine lv_istore (lv' := [(4, .int r8), (0, .ref (a 3)), (1, .int v1), (2, .long v2), (5, .int v5)]) hx hb d_D_placeOf_29 hl (by decide) rfl (fun ls hl => ?_)
    refine lv_iinc (k := 4) (v := v5 + 1) (lv' := [(5, .int (v5 + 1)), (4, .int r8), (0, .ref (a 3)), (1, .int v1), (2, .long v2)]) hx hb d_D_placeOf_31 hl rfl rfl (by decide) rfl (fun ls hl => ?_)
    refine lv_goto (tgt := 6) hx hb d_D_placeOf_34 rfl ?_
    exact ih _ _ _ _ _ _ _ _ hw S (lv_sub hl [2, 3, 4, 1, 0] rfl)
set_option maxHeartbeats 4000000 in
set_option maxRecDepth 100000 in
theorem qc_D_placeOf (l : Launch) (dC : Nat → ClassId) (dI : Nat → Nat → Nat) (a : Nat → Nat) (k : Nat → ClassId) (p1 : Int32) (p2 : Int64) (x : QX) (post : Int32 → QX → Prop) (hw : qw_D_placeOf p1 p2 x post) : qa_Ci l y_D_placeOf qv_D_placeOf qr_D_placeOf (dC, dI) classes (qC_t k) (qC_w a k) [.ref (a 3), .int p1, .long p2] x post := by
  refine qa_ofWi (by decide) (Nat.le_of_ble_eq_true rfl) ?_
  intro p e s m args below meth c A H locs ls C S hl
  replace hl : lv_has ls 6 [(0, .ref (a 3)), (1, .int p1), (2, .long p2)] := hl
  have hx := C.1
  have hb := C.2.1
  unfold qw_D_placeOf at hw
  refine lv_iload_n hx hb d_D_placeOf_0 rfl (lv_at hl 1 rfl) ?_
  refine lv_istore (lv' := [(4, .int p1), (0, .ref (a 3)), (1, .int p1), (2, .long p2)]) hx hb d_D_placeOf_1 hl (by decide) rfl (fun ls hl => ?_)
  refine lv_iconst (v := 0) hx hb d_D_placeOf_3 (by decide) ?_
  refine lv_istore (lv' := [(5, .int (0 : Int32)), (4, .int p1), (0, .ref (a 3)), (1, .int p1), (2, .long p2)]) hx hb d_D_placeOf_4 hl (by decide) rfl (fun ls hl => ?_)
  exact qk_D_placeOf_H6 C post qFU _ _ _ _ _ _ _ _ hw S (lv_sub hl [2, 3, 4, 1, 0] rfl)
set_option maxHeartbeats 4000000 in
set_option maxRecDepth 100000 in
theorem qc_S_isPath (l : Launch) (dC : Nat → ClassId) (dI : Nat → Nat → Nat) (a : Nat → Nat) (k : Nat → ClassId) (p1 : Int32) (x : QX) (post : Int32 → QX → Prop) (hw : qw_S_isPath p1 x post) : qa_Ci l y_S_isPath qv_S_isPath qr_S_isPath (dC, dI) classes (qC_t k) (qC_w a k) [.int p1] x post := by
  refine qa_ofWi (by decide) (Nat.le_of_ble_eq_true rfl) ?_
  intro p e s m args below meth c A H locs ls C S hl
  replace hl : lv_has ls 1 [(0, .int p1)] := hl
  have hx := C.1
  have hb := C.2.1
  unfold qw_S_isPath at hw
  refine lv_iload_n hx hb d_S_isPath_0 rfl (lv_at hl 0 rfl) ?_
  refine lv_if_lt (tgt := 13) hx hb d_S_isPath_1 rfl (fun hc => ?_) (fun hc => ?_)
  · replace hw := hw.1 hc
    refine lv_iconst (v := 0) hx hb d_S_isPath_13 (by decide) ?_
    exact qa_retz C S ⟨by decide, hw⟩ d_S_isPath_14
  replace hw := hw.2 hc
  refine lv_iload_n hx hb d_S_isPath_4 rfl (lv_at hl 0 rfl) ?_
  refine lv_iconst (v := 4) hx hb d_S_isPath_5 (by decide) ?_
  refine lv_icmp_ge (tgt := 13) hx hb d_S_isPath_6 rfl (fun hc => ?_) (fun hc => ?_)
  · replace hw := hw.1 hc
    refine lv_iconst (v := 0) hx hb d_S_isPath_13 (by decide) ?_
    exact qa_retz C S ⟨by decide, hw⟩ d_S_isPath_14
  replace hw := hw.2 hc
  refine lv_iconst (v := 1) hx hb d_S_isPath_9 (by decide) ?_
  refine lv_goto (tgt := 14) hx hb d_S_isPath_10 rfl ?_
  exact qa_retz C S ⟨by decide, hw⟩ d_S_isPath_14
set_option maxHeartbeats 4000000 in
set_option maxRecDepth 100000 in
theorem qc_S_isValue (l : Launch) (dC : Nat → ClassId) (dI : Nat → Nat → Nat) (a : Nat → Nat) (k : Nat → ClassId) (p1 : Int32) (x : QX) (post : Int32 → QX → Prop) (hw : qw_S_isValue p1 x post) : qa_Ci l y_S_isValue qv_S_isValue qr_S_isValue (dC, dI) classes (qC_t k) (qC_w a k) [.int p1] x post := by
  refine qa_ofWi (by decide) (Nat.le_of_ble_eq_true rfl) ?_
  intro p e s m args below meth c A H locs ls C S hl
  replace hl : lv_has ls 1 [(0, .int p1)] := hl
  have hx := C.1
  have hb := C.2.1
  unfold qw_S_isValue at hw
  refine lv_iload_n hx hb d_S_isValue_0 rfl (lv_at hl 0 rfl) ?_
  refine lv_if_lt (tgt := 14) hx hb d_S_isValue_1 rfl (fun hc => ?_) (fun hc => ?_)
  · replace hw := hw.1 hc
    refine lv_iconst (v := 0) hx hb d_S_isValue_14 (by decide) ?_
    exact qa_retz C S ⟨by decide, hw⟩ d_S_isValue_15
  replace hw := hw.2 hc
  refine lv_iload_n hx hb d_S_isValue_4 rfl (lv_at hl 0 rfl) ?_
  refine lv_bipush (v := 8) hx hb d_S_isValue_5 (by decide) ?_
  refine lv_icmp_ge (tgt := 14) hx hb d_S_isValue_7 rfl (fun hc => ?_) (fun hc => ?_)
  · replace hw := hw.1 hc
    refine lv_iconst (v := 0) hx hb d_S_isValue_14 (by decide) ?_
    exact qa_retz C S ⟨by decide, hw⟩ d_S_isValue_15
  replace hw := hw.2 hc
  refine lv_iconst (v := 1) hx hb d_S_isValue_10 (by decide) ?_
  refine lv_goto (tgt := 15) hx hb d_S_isValue_11 rfl ?_
  exact qa_retz C S ⟨by decide, hw⟩ d_S_isValue_15
set_option maxHeartbeats 4000000 in
set_option maxRecDepth 100000 in
theorem qk_C_makePlain_H26 {p : Program} {l : Launch} {e : Env} {s : State} {m : MethodId} {args : Array Value} {below : List Frame} {meth : Method} {c : Code} {A : Nat → Prop} {dC : Nat → ClassId} {dI : Nat → Nat → Nat} {a : Nat → Nat} {k : Nat → ClassId} (C : qa_X p s m args meth c b_C_makePlain 5 none R_C)  (post : QX → Prop)  : ∀ (n : Nat), ∀ (v1 : Int32) (v2 : Int32) (v3 : Int32) (v4 : Int32) (x : QX) (H : Heap) (locs : List Loc) (ls : Array Slot), qw_C_makePlain_H26  post n v1 v2 v3 v4 x → qa_S (dC, dI) classes (qC_t k) (qC_w a k) A s x H locs → lv_has ls 5 [(0, .ref (a 1)), (1, .int v1), (2, .int v2), (3, .int v3), (4, .int v4)] → W p l e qr_C_makePlain s m args below meth c H locs 0 0 (MQ below (va_Qv post (qa_B (dC, dI) classes (qC_t k) (qC_w a k) A) A) args s 0 0 A) (F0 m 26 ls []) := by
  have hx := C.1
  have hb := C.2.1
  intro n
  induction n with
  | zero => intro v1 v2 v3 v4 x H locs ls hw S hl; exact False.elim hw
  | succ n ih =>
    intro v1 v2 v3 v4 x H locs ls hw S hl
    replace hw : qw_C_makePlain_S26  post (qw_C_makePlain_H26  post n) v1 v2 v3 v4 x := hw
    unfold qw_C_makePlain_S26 at hw
    refine lv_iload hx hb d_C_makePlain_26 (lv_at hl 4 rfl) ?_
    refine lv_bipush (v := 8) hx hb d_C_makePlain_28 (by decide) ?_
    refine lv_icmp_ge (tgt := 63) hx hb d_C_makePlain_30 rfl (fun hc => ?_) (fun hc => ?_)
    · replace hw := hw.1 hc
      exact qa_retv C S hw d_C_makePlain_63
    replace hw := hw.2 hc
    refine lv_aload_n hx hb d_C_makePlain_33 rfl (lv_at hl 0 rfl) ?_
    refine qf_C_C_counts C S qh_24 d_C_makePlain_34 ?_
    refine lv_iload_n hx hb d_C_makePlain_37 rfl (lv_at hl 1 rfl) ?_
    refine lv_iload_n hx hb d_C_makePlain_38 rfl (lv_at hl 2 rfl) ?_
    refine qa_calli (qa_runS (As := [.int v1, .int v2]) (rest := [.ref (a 7)]) C S (qc_C_start l dC dI a k _ _ _ _ hw H.size) (cwS 2 C.2.2.2.2.1 qo_C_39_C_start rfl rfl rfl qd_C_start ⟨Nat.le_of_ble_eq_true rfl, Nat.le_of_ble_eq_true rfl⟩) rfl hl.1 rfl (Nat.le_of_ble_eq_true rfl) d_C_makePlain_39) S (fun r8 x7 H locs hw S => ?_)
    refine lv_iload hx hb d_C_makePlain_42 (lv_at hl 4 rfl) ?_
    refine lv_iadd hx hb d_C_makePlain_44 ?_
    refine lv_iload hx hb d_C_makePlain_45 (lv_at hl 4 rfl) ?_
    refine lv_iload_n hx hb d_C_makePlain_47 rfl (lv_at hl 3 rfl) ?_
    refine lv_icmp_ne (tgt := 55) hx hb d_C_makePlain_48 rfl (fun hc => ?_) (fun hc => ?_)
    · replace hw := hw.1 hc
      refine lv_lconst (v := 0) hx hb d_C_makePlain_55 (by decide) ?_
      obtain ⟨hi, hw⟩ := hw
      refine qt_C_counts C S hi d_C_makePlain_56 (fun x9 H locs ex9 S => ?_)
      replace hw := hw x9 ex9
      refine lv_iinc (k := 4) (v := v4 + 1) (lv' := [(4, .int (v4 + 1)), (0, .ref (a 1)), (1, .int v1), (2, .int v2), (3, .int v3)]) hx hb d_C_makePlain_57 hl rfl rfl (by decide) rfl (fun ls hl => ?_)
      refine lv_goto (tgt := 26) hx hb d_C_makePlain_60 rfl ?_
      exact ih _ _ _ _ _ _ _ _ hw S (lv_sub hl [1, 2, 3, 4, 0] rfl)
    replace hw := hw.2 hc
    refine lv_lconst (v := 1) hx hb d_C_makePlain_51 (by decide) ?_
    refine lv_goto (tgt := 56) hx hb d_C_makePlain_52 rfl ?_
    obtain ⟨hi, hw⟩ := hw
    refine qt_C_counts C S hi d_C_makePlain_56 (fun x10 H locs ex10 S => ?_)
    replace hw := hw x10 ex10
    refine lv_iinc (k := 4) (v := v4 + 1) (lv' := [(4, .int (v4 + 1)), (0, .ref (a 1)), (1, .int v1), (2, .int v2), (3, .int v3)]) hx hb d_C_makePlain_57 hl rfl rfl (by decide) rfl (fun ls hl => ?_)
    refine lv_goto (tgt := 26) hx hb d_C_makePlain_60 rfl ?_
    exact ih _ _ _ _ _ _ _ _ hw S (lv_sub hl [1, 2, 3, 4, 0] rfl)
set_option maxHeartbeats 4000000 in
set_option maxRecDepth 100000 in
theorem qc_C_makePlain (l : Launch) (dC : Nat → ClassId) (dI : Nat → Nat → Nat) (a : Nat → Nat) (k : Nat → ClassId) (p1 : Int32) (p2 : Int32) (p3 : Int32) (x : QX) (post : QX → Prop) (hw : qw_C_makePlain p1 p2 p3 x post) : qa_Cv l y_C_makePlain qv_C_makePlain qr_C_makePlain (dC, dI) classes (qC_t k) (qC_w a k) [.ref (a 1), .int p1, .int p2, .int p3] x post := by
  refine qa_ofWv (by decide) (Nat.le_of_ble_eq_true rfl) ?_
  intro p e s m args below meth c A H locs ls C S hl
  replace hl : lv_has ls 5 [(0, .ref (a 1)), (1, .int p1), (2, .int p2), (3, .int p3)] := hl
  have hx := C.1
  have hb := C.2.1
  unfold qw_C_makePlain at hw
  refine lv_aload_n hx hb d_C_makePlain_0 rfl (lv_at hl 0 rfl) ?_
  refine lv_iload_n hx hb d_C_makePlain_1 rfl (lv_at hl 1 rfl) ?_
  refine qa_calli (qa_runV (As := [.int p1]) (rest := []) C S (qc_C_has l dC dI a k _ _ _ hw H.size) (cwV 1 C.2.2.2.2.1 qo_C_29_C_has rfl rfl rfl qd_C_has ⟨Nat.le_of_ble_eq_true rfl, Nat.le_of_ble_eq_true rfl⟩) (va_recv (q0 := 1) (ci := 1) S.2.2.1 S.1 rfl rfl) rfl hl.1 rfl (Nat.le_of_ble_eq_true rfl) d_C_makePlain_2) S (fun r2 x1 H locs hw S => ?_)
  refine lv_if_eq (tgt := 22) hx hb d_C_makePlain_5 rfl (fun hc => ?_) (fun hc => ?_)
  · replace hw := hw.1 hc
    exact qa_retv C S hw d_C_makePlain_22
  replace hw := hw.2 hc
  refine lv_iload_n hx hb d_C_makePlain_8 rfl (lv_at hl 2 rfl) ?_
  refine qa_calli (qa_runSN (As := [.int p2]) (rest := []) C S (qc_S_isPath l dC dI a k _ _ _ hw H.size) ⟨va_cnB 1 C.2.2.2.2.1 qo_S_isPath rfl rfl rfl (S.2.2.2.2.2 _ qh_260) (C.2.2.2.2.1 _ qh_1) qd_S_isPath.2 ⟨Nat.le_of_ble_eq_true rfl, Nat.le_of_ble_eq_true rfl⟩, C.2.2.2.2.1 _ qh_261, trivial⟩ rfl hl.1 rfl (Nat.le_of_ble_eq_true rfl) d_C_makePlain_9) S (fun r4 x3 H locs hw S => ?_)
  refine lv_if_eq (tgt := 22) hx hb d_C_makePlain_12 rfl (fun hc => ?_) (fun hc => ?_)
  · replace hw := hw.1 hc
    exact qa_retv C S hw d_C_makePlain_22
  replace hw := hw.2 hc
  refine lv_iload_n hx hb d_C_makePlain_15 rfl (lv_at hl 3 rfl) ?_
  refine qa_calli (qa_runSN (As := [.int p3]) (rest := []) C S (qc_S_isValue l dC dI a k _ _ _ hw H.size) ⟨va_cnB 1 C.2.2.2.2.1 qo_S_isValue rfl rfl rfl (S.2.2.2.2.2 _ qh_263) (C.2.2.2.2.1 _ qh_1) qd_S_isValue.2 ⟨Nat.le_of_ble_eq_true rfl, Nat.le_of_ble_eq_true rfl⟩, C.2.2.2.2.1 _ qh_264, trivial⟩ rfl hl.1 rfl (Nat.le_of_ble_eq_true rfl) d_C_makePlain_16) S (fun r6 x5 H locs hw S => ?_)
  refine lv_if_ne (tgt := 23) hx hb d_C_makePlain_19 rfl (fun hc => ?_) (fun hc => ?_)
  · replace hw := hw.1 hc
    refine lv_iconst (v := 0) hx hb d_C_makePlain_23 (by decide) ?_
    refine lv_istore (lv' := [(4, .int (0 : Int32)), (0, .ref (a 1)), (1, .int p1), (2, .int p2), (3, .int p3)]) hx hb d_C_makePlain_24 hl (by decide) rfl (fun ls hl => ?_)
    exact qk_C_makePlain_H26 C post qFU _ _ _ _ _ _ _ _ hw S (lv_sub hl [1, 2, 3, 4, 0] rfl)
  replace hw := hw.2 hc
  exact qa_retv C S hw d_C_makePlain_22
