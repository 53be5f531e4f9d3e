set_option maxHeartbeats 8000000 in
set_option maxRecDepth 100000 in
theorem whole_start {p : Program} {e : Env} {s : State} {m : MethodId} {below : List Frame} {meth : Method} {c : Code} (l : Launch) {b L : Nat} {xs : Nat → Int32} (hL : L ≤ 2048) (C0 : lw_At p s m meth c b L xs) : W p l e room_1 s m #[Value.ref b] below meth c s.heap [] 0 0 (lw_Z below #[Value.ref b] s) (entryFrame m ([Value.ref b] : List Value).toArray 4) := by
  obtain ⟨hx, hb, hr, hml, hown, hts0, hX, hbl, hlocks, hgv⟩ := id C0
  have hts : ∀ w ∈ qa_WG, w.before #[Value.ref b] s = true := fun w hw => hts0 w (List.mem_filter.mp hw).1
  have hN : qa_N s := by
    intro w hw
    have h1 := (List.mem_filter.mp hw).2
    have h2 := hts0 w (List.mem_filter.mp hw).1
    cases w <;> first | (simp [qa_nest] at h1; done) | exact va_Nw.of rfl h2
  obtain ⟨n0, i0, k0⟩ := u_known (C := R_S) (T := F_S) (N := 6) hts hin_S (hts _ qh_9)
  obtain ⟨n1, i1, k1⟩ := u_known (C := R_C) (T := F_C) (N := 5) hts hin_C (hts _ qh_17)
  obtain ⟨n2, i2, k2⟩ := u_known (C := R_O) (T := F_O) (N := 6) hts hin_O (hts _ qh_42)
  obtain ⟨n3, i3, k3⟩ := u_known (C := R_D) (T := F_D) (N := 6) hts hin_D (hts _ qh_70)
  obtain ⟨n4, i4, k4⟩ := u_known (C := R_M) (T := F_M) (N := 23) hts hin_M (hts _ qh_414)
  obtain ⟨dC, hdC⟩ : ∃ dC : Nat → ClassId, dC = fun i => match i with | 0 => n0 | 1 => n1 | 2 => n2 | 3 => n3 | _ => n4 := ⟨_, rfl⟩
  obtain ⟨dI, hdI⟩ : ∃ dI : Nat → Nat → Nat, dI = fun i => match i with | 0 => i0 | 1 => i1 | 2 => i2 | 3 => i3 | _ => i4 := ⟨_, rfl⟩
  have hK : va_K (dC, dI) classes [] s := by
    refine ⟨fun c q hq => ?_, fun k q h => by simp at h⟩
    rw [hdC, hdI]
    match c, hq with
    | 0, hq => cases hq; exact k0
    | 1, hq => cases hq; exact k1
    | 2, hq => cases hq; exact k2
    | 3, hq => cases hq; exact k3
    | 4, hq => cases hq; exact k4
    | n + 5, hq => simp [classes] at hq
  obtain ⟨A, hAe⟩ : ∃ A : Nat → Prop, A = fun q : Nat => s.heap.size ≤ q := ⟨_, rfl⟩
  have hA : ∀ q : Nat, s.heap.size ≤ q → A q := fun q h => by rw [hAe]; exact h
  have hP : va_P (dC, dI) classes [] s.heap := fun k q h => by simp at h
  have hD : va_D A [] := ⟨fun i j p q h => by simp at h, fun k q h => by simp at h⟩
  have hS : va_S A s.heap s.heap [] := va_S.rf
  have hl := lv_entry ([.ref b]) (n := 4) (Nat.le_of_ble_eq_true rfl)
  rw [lg_entry_eq]
  generalize (lg_sl ([Value.ref b]) ++ List.replicate (4 - (lg_sl ([Value.ref b])).length) Slot.unset).toArray = ls at hl ⊢
  have hl : lv_has ls 4 [(0, .ref b)] := hl
  refine va_new (ci := 0) (fs := [.null, .null, .null, .null, .int 0, .int 0]) (C := R_S) (T := F_S) (N := 6) hx hb hts hin_S t_S t_S_ok hown (hts _ qh_8) (hts _ qh_9) (hts _ qh_1) hK hP hD hS hA rfl (fun j hj => by rcases (show j = 0 ∨ j = 1 ∨ j = 2 ∨ j = 3 ∨ j = 4 ∨ j = 5 by omega) with rfl | rfl | rfl | rfl | rfl | rfl <;> rfl) (Nat.le_of_ble_eq_true rfl) (Nat.le_of_ble_eq_true rfl) d_L_0 (fun q0 H hP hD hS => ?_)
  have hP : va_P (dC, dI) classes [(q0, .inr (0, [.null, .null, .null, .null, .int 0, .int 0]))] H := hP
  have hD : va_D A [(q0, .inr (0, [.null, .null, .null, .null, .int 0, .int 0]))] := hD
  refine W.widen (k := 1) (n := 6) (Nat.le_of_ble_eq_true rfl) (Nat.le_of_ble_eq_true rfl) ?_
  refine lv_dup hx hb d_L_3 rfl ?_
  have S0 : qa_S (dC, dI) classes [] (fun _ : Unit => [(q0, .inr (0, [.null, .null, .null, .null, .int 0, .int 0]))]) A s () H _ := ⟨hP.sub [0] rfl, hD.sub [0] (by decide) rfl, hK.sub (tys' := []) [] rfl, hS, hA, hN⟩
  have hFc := va_free (wc := [(q0, .inr (0, [.null, .null, .null, .null, .int 0, .int 0]))]) hD hS hA [0] rfl
  refine va_callv (va_runI (As := []) (rest := [.ref q0]) ⟨hx, hb, hml, hown, hts⟩ (qi_S l dC dI q0 H.size) (cwI 0 hts qo_S_init rfl rfl rfl (hts _ qh_1) (hts _ qh_10) (hts _ qh_11) rfl (by decide +kernel) ⟨Nat.le_of_ble_eq_true rfl, Nat.le_of_ble_eq_true rfl⟩) ⟨qa_blind, fun U hU hW => qa_pre S0 U hU hW⟩ rfl rfl hl.1 rfl (lv_room (Nat.le_of_ble_eq_true rfl)) d_L_4 ⟨Nat.le_of_ble_eq_true rfl, Nat.le_of_ble_eq_true rfl⟩) hS (fun q _ h => hFc q h) hFc (fun u t H1 locs ht hvm hw hB hz1 hk1 hS => ?_)
  obtain ⟨hP1, hK1, hD1⟩ := hB
  rw [ht] at hP1
  have hK1 := va_K.moved hvm.symm hK1
  obtain ⟨hP, hD⟩ := va_join (wr := []) (w1 := qC_w u.1 u.2 q_x0) hP hD [0] [] rfl rfl (by decide) (by decide) hk1 hFc hP1 hD1
  generalize H1 = H at hP hS ⊢
  have hP : va_P (dC, dI) classes (qC_w u.1 u.2 q_x0) H := hP
  have hD : va_D A (qC_w u.1 u.2 q_x0) := hD
  have hPn := hP
  have hDn := hD
  subst hw
  have hP := hPn
  have hD := hDn
  refine W.widen (k := 15) (n := 2828) (Nat.le_of_ble_eq_true rfl) (Nat.le_of_ble_eq_true rfl) ?_
  refine lv_astore_n (lv' := [(1, .ref (u.1 0)), (0, .ref b)]) hx hb d_L_7 rfl hl (by decide) rfl (fun ls hl => ?_)
  refine va_new (ci := 4) (fs := [.int 0, .int 0, .null, .null, .null, .int 0, .null, .null, .null, .null, .null, .null, .null, .int 0, .int 0, .int 0, .null, .null, .int 0, .null, .int 0, .int 0, .int 0]) (C := R_M) (T := F_M) (N := 23) hx hb hts hin_M t_M t_M_ok hown (hts _ qh_413) (hts _ qh_414) (hts _ qh_5) hK1 hP hD hS hA rfl (fun j hj => by rcases (show j = 0 ∨ j = 1 ∨ j = 2 ∨ j = 3 ∨ j = 4 ∨ j = 5 ∨ j = 6 ∨ j = 7 ∨ j = 8 ∨ j = 9 ∨ j = 10 ∨ j = 11 ∨ j = 12 ∨ j = 13 ∨ j = 14 ∨ j = 15 ∨ j = 16 ∨ j = 17 ∨ j = 18 ∨ j = 19 ∨ j = 20 ∨ j = 21 ∨ j = 22 by omega) with rfl | rfl | rfl | rfl | rfl | rfl | rfl | rfl | rfl | rfl | rfl | rfl | rfl | rfl | rfl | rfl | rfl | rfl | rfl | rfl | rfl | rfl | rfl <;> rfl) (Nat.le_of_ble_eq_true rfl) (Nat.le_of_ble_eq_true rfl) d_L_8 (fun q8 H hP hD hS => ?_)
  refine W.widen (k := 16) (n := 2851) (Nat.le_of_ble_eq_true rfl) (Nat.le_of_ble_eq_true rfl) ?_
  refine lv_dup hx hb d_L_11 rfl ?_
  have S1 : qa_S (dC, dI) classes [] (fun _ : Unit => [(q8, .inr (4, [.int 0, .int 0, .null, .null, .null, .int 0, .null, .null, .null, .null, .null, .null, .null, .int 0, .int 0, .int 0, .null, .null, .int 0, .null, .int 0, .int 0, .int 0]))]) A s () H _ := ⟨hP.sub [15] rfl, hD.sub [15] (by decide) rfl, hK.sub (tys' := []) [] rfl, hS, hA, hN⟩
  have hFc := va_free (wc := [(q8, .inr (4, [.int 0, .int 0, .null, .null, .null, .int 0, .null, .null, .null, .null, .null, .null, .null, .int 0, .int 0, .int 0, .null, .null, .int 0, .null, .int 0, .int 0, .int 0]))]) hD hS hA [15] rfl
  refine va_callv (va_runI (As := []) (rest := [.ref q8]) ⟨hx, hb, hml, hown, hts⟩ (qi_M l dC dI q8 H.size) (cwI 0 hts qo_M_init rfl rfl rfl (hts _ qh_5) (hts _ qh_415) (hts _ qh_416) rfl (by decide +kernel) ⟨Nat.le_of_ble_eq_true rfl, Nat.le_of_ble_eq_true rfl⟩) ⟨qa_blind, fun U hU hW => qa_pre S1 U hU hW⟩ rfl rfl hl.1 rfl (lv_room (Nat.le_of_ble_eq_true rfl)) d_L_12 ⟨Nat.le_of_ble_eq_true rfl, Nat.le_of_ble_eq_true rfl⟩) hS (fun q _ h => hFc q h) hFc (fun u2 t2 H1 locs ht2 hvm2 hw hB hz1 hk1 hS => ?_)
  obtain ⟨hP2, hK2, hD2⟩ := hB
  rw [ht2] at hP2
  have hK2 := va_K.moved hvm2.symm hK2
  obtain ⟨hP, hD⟩ := va_join (wr := qC_w u.1 u.2 q_x0) (w1 := qM_w u2.1 u2.2 q_y0) hP hD [15] [0, 1, 2, 3, 4, 5, 6, 7, 8, 9, 10, 11, 12, 13, 14] rfl rfl (by decide) (by decide) hk1 hFc hP2 hD2
  have hK := hK1.app hK2
  have hPn2 := hP
  have hDn2 := hD
  subst hw
  have hP := hPn2
  have hD := hDn2
  refine W.widen (k := 29) (n := 11716) (Nat.le_of_ble_eq_true rfl) (Nat.le_of_ble_eq_true rfl) ?_
  refine lv_astore_n (lv' := [(2, .ref (u2.1 0)), (1, .ref (u.1 0)), (0, .ref b)]) hx hb d_L_15 rfl hl (by decide) rfl (fun ls hl => ?_)
  refine lv_iconst (v := 0) hx hb d_L_16 (by decide) ?_
  refine lv_istore_n (lv' := [(3, .int (nI 0)), (2, .ref (u2.1 0)), (1, .ref (u.1 0)), (0, .ref b)]) hx hb d_L_17 rfl hl (by decide) rfl (fun ls hl => ?_)
  exact lw_loop (dC := dC) (dI := dI) (a := u.1) (a' := u2.1) (k := u.2) (k' := u2.2) C0 hL hAe (L + 1) 0 q_x0 q_y0 H1 locs ls (by omega) (by omega) q_start ⟨hP, hD, hK, hS, hA, hN⟩ (lv_sub hl [3, 2, 1, 0] rfl)
