set_option maxHeartbeats 4000000 in
set_option maxRecDepth 100000 in
theorem lw_loop {p : Program} {l : Launch} {e : Env} {s : State} {m : MethodId} {below : List Frame} {meth : Method} {c : Code} {b : Nat} {A : Nat → Prop} {dC : Nat → ClassId} {dI : Nat → Nat → Nat} {a a' : Nat → Nat} {k k' : Nat → ClassId} {L : Nat} {xs : Nat → Int32} (C0 : lw_At p s m meth c b L xs) (hL : L ≤ 2048) (hAe : A = fun q : Nat => s.heap.size ≤ q) :
    ∀ (f j : Nat) (x y : QX) (H : Heap) (locs : List Loc) (ls : Array Slot), j ≤ 2048 → L - j < f → INV x y → q_LS dC dI a a' k k' A s x y H locs → lv_has ls 4 [(0, .ref b), (1, .ref (a 0)), (2, .ref (a' 0)), (3, .int (nI j))] → W p l e room_1 s m #[Value.ref b] below meth c H locs 29 11716 (lw_Z below #[Value.ref b] s) (F0 m 18 ls []) := by
  obtain ⟨hx, hb, hr, hml, hown, hts0, hX, hbl, hlocks, hgv⟩ := id C0
  have hbA : ¬ A b := by rw [hAe]; exact Nat.not_le.mpr hbl
  intro f
  induction f with
  | zero => intro j x y H locs ls _ h; omega
  | succ f ih =>
    intro j x y H locs ls hj hf hI S hl
    refine lv_iload_n hx hb d_L_18 rfl (lv_at hl 3 rfl) ?_
    refine lv_aload_n hx hb d_L_19 rfl (lv_at hl 0 rfl) ?_
    refine va_slen hx hb hX hbl hbA S.2.2.2.1 d_L_20 ?_
    refine lv_iconst (v := 4) hx hb d_L_21 (by decide) ?_
    refine lv_isub hx hb d_L_22 ?_
    have hti : (nI L - (4 : Int32)).toInt = (L : Int) - 4 := by
      rw [q_l4, pk_sub_toInt (by omega) (by decide)]; rfl
    refine lv_icmp_gt (tgt := 665) hx hb d_L_23 rfl (fun hc => ?_) (fun hc => ?_)
    · refine lv_iconst (v := 1) hx hb d_L_665 (by decide) ?_
      refine va_forget (fun q hq => ?_) ?_
      · have := S.2.2.2.1.2.2 q hq
        rw [hAe] at this; exact this
      · exact lw_ret hx hb hr hlocks d_L_666
    · have hj4 : j + 4 ≤ L := by
        rcases Nat.lt_or_ge L (j + 4) with z | z
        · exfalso
          refine hc (Int32.lt_iff_toInt_lt.mpr ?_)
          show (nI L - (4 : Int32)).toInt < (nI j).toInt
          rw [hti, nI_toInt (by omega)]
          omega
        · exact z
      have hrec : ∀ (x y : QX) (H : Heap) (locs : List Loc) (ls : Array Slot), INV x y → q_LS dC dI a a' k k' A s x y H locs → lv_has ls 4 [(0, .ref b), (1, .ref (a 0)), (2, .ref (a' 0)), (3, .int (nI j))] → W p l e room_1 s m #[Value.ref b] below meth c H locs 29 11716 (lw_Z below #[Value.ref b] s) (F0 m 659 ls []) := by
        intro x y H locs ls hI S hl
        refine lv_iinc (k := 3) (v := nI (j + 4)) (lv' := [(3, .int (nI (j + 4))), (0, .ref b), (1, .ref (a 0)), (2, .ref (a' 0))]) hx hb d_L_659 hl rfl (by show nI j + (4 : Int32) = nI (j + 4); rw [q_l4, nI_add]) (by decide) rfl (fun ls hl => ?_)
        refine lv_goto (tgt := 18) hx hb d_L_662 rfl ?_
        exact ih (j + 4) x y H locs ls (by omega) (by omega) hI S (lv_sub hl [1, 2, 3, 0] rfl)
      refine lv_aload_n hx hb d_L_26 rfl (lv_at hl 0 rfl) ?_
      refine lv_iload_n hx hb d_L_27 rfl (lv_at hl 3 rfl) ?_
      refine va_sld hx hb hX hbl hbA S.2.2.2.1 (vp_in_nI (by omega) (by omega)) d_L_28 ?_
      refine lv_bipush (v := 31) hx hb d_L_29 (by decide) ?_
      refine lv_iand hx hb d_L_31 ?_
      obtain ⟨w, hw32, hw⟩ := pk_andE (xs (nI j).toNatClampNeg) (m := 31) 5 (by decide)
      rw [hw]
      have hti2 : (nI w).toInt = (w : Int) := nI_toInt (by omega)
      by_cases h20 : 20 ≤ w
      · refine lv_tableOut (tgt := 659) hx hb d_L_32 (Or.inr (by rw [hti2]; omega)) rfl ?_
        exact hrec x y H locs ls hI S hl
      · rcases (show w = 0 ∨ w = 1 ∨ w = 2 ∨ w = 3 ∨ w = 4 ∨ w = 5 ∨ w = 6 ∨ w = 7 ∨ w = 8 ∨ w = 9 ∨ w = 10 ∨ w = 11 ∨ w = 12 ∨ w = 13 ∨ w = 14 ∨ w = 15 ∨ w = 16 ∨ w = 17 ∨ w = 18 ∨ w = 19 by omega) with rfl | rfl | rfl | rfl | rfl | rfl | rfl | rfl | rfl | rfl | rfl | rfl | rfl | rfl | rfl | rfl | rfl | rfl | rfl | rfl
        · exact lv_tableIn (off := 96) (tgt := 128) hx hb d_L_32 (by decide) (by decide) (by decide) rfl (lw_case0 C0 hL hj4 hbA hI S hl hrec)
        · exact lv_tableIn (off := 119) (tgt := 151) hx hb d_L_32 (by decide) (by decide) (by decide) rfl (lw_case1 C0 hL hj4 hbA hI S hl hrec)
        · exact lv_tableIn (off := 152) (tgt := 184) hx hb d_L_32 (by decide) (by decide) (by decide) rfl (lw_case2 C0 hL hj4 hbA hI S hl hrec)
        · exact lv_tableIn (off := 185) (tgt := 217) hx hb d_L_32 (by decide) (by decide) (by decide) rfl (lw_case3 C0 hL hj4 hbA hI S hl hrec)
        · exact lv_tableIn (off := 208) (tgt := 240) hx hb d_L_32 (by decide) (by decide) (by decide) rfl (lw_case4 C0 hL hj4 hbA hI S hl hrec)
        · exact lv_tableIn (off := 231) (tgt := 263) hx hb d_L_32 (by decide) (by decide) (by decide) rfl (lw_case5 C0 hL hj4 hbA hI S hl hrec)
        · exact lv_tableIn (off := 254) (tgt := 286) hx hb d_L_32 (by decide) (by decide) (by decide) rfl (lw_case6 C0 hL hj4 hbA hI S hl hrec)
        · exact lv_tableIn (off := 287) (tgt := 319) hx hb d_L_32 (by decide) (by decide) (by decide) rfl (lw_case7 C0 hL hj4 hbA hI S hl hrec)
        · exact lv_tableIn (off := 300) (tgt := 332) hx hb d_L_32 (by decide) (by decide) (by decide) rfl (lw_case8 C0 hL hj4 hbA hI S hl hrec)
        · exact lv_tableIn (off := 323) (tgt := 355) hx hb d_L_32 (by decide) (by decide) (by decide) rfl (lw_case9 C0 hL hj4 hbA hI S hl hrec)
        · exact lv_tableIn (off := 346) (tgt := 378) hx hb d_L_32 (by decide) (by decide) (by decide) rfl (lw_case10 C0 hL hj4 hbA hI S hl hrec)
        · exact lv_tableIn (off := 369) (tgt := 401) hx hb d_L_32 (by decide) (by decide) (by decide) rfl (lw_case11 C0 hL hj4 hbA hI S hl hrec)
        · exact lv_tableIn (off := 382) (tgt := 414) hx hb d_L_32 (by decide) (by decide) (by decide) rfl (lw_case12 C0 hL hj4 hbA hI S hl hrec)
        · exact lv_tableIn (off := 395) (tgt := 427) hx hb d_L_32 (by decide) (by decide) (by decide) rfl (lw_case13 C0 hL hj4 hbA hI S hl hrec)
        · exact lv_tableIn (off := 428) (tgt := 460) hx hb d_L_32 (by decide) (by decide) (by decide) rfl (lw_case14 C0 hL hj4 hbA hI S hl hrec)
        · exact lv_tableIn (off := 461) (tgt := 493) hx hb d_L_32 (by decide) (by decide) (by decide) rfl (lw_case15 C0 hL hj4 hbA hI S hl hrec)
        · exact lv_tableIn (off := 484) (tgt := 516) hx hb d_L_32 (by decide) (by decide) (by decide) rfl (lw_case16 C0 hL hj4 hbA hI S hl hrec)
        · exact lv_tableIn (off := 517) (tgt := 549) hx hb d_L_32 (by decide) (by decide) (by decide) rfl (lw_case17 C0 hL hj4 hbA hI S hl hrec)
        · exact lv_tableIn (off := 550) (tgt := 582) hx hb d_L_32 (by decide) (by decide) (by decide) rfl (lw_case18 C0 hL hj4 hbA hI S hl hrec)
        · exact lv_tableIn (off := 583) (tgt := 615) hx hb d_L_32 (by decide) (by decide) (by decide) rfl (lw_case19 C0 hL hj4 hbA hI S hl hrec)
