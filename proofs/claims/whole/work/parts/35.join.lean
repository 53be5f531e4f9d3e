/-! join. -/
theorem join_tree (a b o : Bool) (P0 P1 : Prop) (h0 : (a && b || (a || b) && !o) = false → P0) (h1 : (a && b || (a || b) && !o) = true → P1) :
    ((qz a = 0) → ((¬ qz a = 0) → ((¬ qz o = 0) → P0) ∧ ((qz o = 0) → P1)) ∧ ((qz a = 0) → ((qz b = 0) → P0) ∧ (¬ (qz b = 0) → ((¬ qz o = 0) → P0) ∧ ((qz o = 0) → P1)))) ∧ (¬ (qz a = 0) → ((¬ qz b = 0) → P1) ∧ ((qz b = 0) → ((¬ qz a = 0) → ((¬ qz o = 0) → P0) ∧ ((qz o = 0) → P1)) ∧ ((qz a = 0) → ((qz b = 0) → P0) ∧ (¬ (qz b = 0) → ((¬ qz o = 0) → P0) ∧ ((qz o = 0) → P1))))) := by
  simp only [qz_0]
  cases a <;> cases b <;> cases o <;> simp_all
theorem m_merged {z : QX} {o a b : Int32} {post : Int32 → QX → Prop} (h : post (q_jm o a b) z) : qw_M_merged o a b z post := by
  unfold q_jm at h
  refine ⟨fun e => ⟨fun e2 => ?_, fun e2 => ⟨fun e3 => ?_, fun e3 => ?_⟩⟩, fun e => ?_⟩
  · rw [if_neg e, if_pos e2] at h; exact h
  · rw [if_neg e, if_neg e2, if_neg e3] at h; exact h
  · rw [if_neg e, if_neg e2, if_pos e3] at h; exact h
  · rw [if_pos e] at h; exact h
/-- what follows the reference's settling in a join -/
def q_jend (a b : Int32) (post : Int32 → QX → Prop) (x5 : QX) : Prop :=
  qw_M_finish a b x5 (fun r7 x6 => ((r7 < 0) → post r7 x6) ∧ (¬ (r7 < 0) → vp_in r7 100 ∧ ∀ x8 : QX, x8 = sA x6 4 (upd (gA x6 4) r7.toNatClampNeg (vp_nar .boolean (1 : Int32))) → vp_in (0 : Int32) 2 ∧ ∀ x9 : QX, x9 = sA x8 8 (upd (gA x8 8) (0 : Int32).toNatClampNeg r7) → ∀ x10 : QX, x10 = sI x9 5 (0 : Int32) → ∀ x11 : QX, x11 = sI x10 3 (0 : Int32) → post r7 x11))
theorem m_joinm {post : Int32 → QX → Prop} {z : QX} {o a b : Nat} (h4 : gI z 4 = nI o) (ho : o < 100) (ha : a < 100) (hb : b < 100) (h : ∀ f : Nat → Int32, (∀ m, m < 3 → f m = q_jm (gA z 6 (3 * o + m)) (gA z 6 (3 * a + m)) (gA z 6 (3 * b + m))) → qw_M_settle (sI (sA z 10 f) 6 (if gA z 7 a = gA z 7 o then gA z 7 b else gA z 7 a)) (q_jend (nI a) (nI b) post)) : ∀ (fu k : Nat) (f : Nat → Int32), k ≤ 3 → 3 - k < fu → (∀ j, j < k → f j = q_jm (gA z 6 (3 * o + j)) (gA z 6 (3 * a + j)) (gA z 6 (3 * b + j))) → qw_M_join_H122 post fu (nI a) (nI b) (nI k) (sA z 10 f) := by
  intro fu
  induction fu with
  | zero => intro k f _ h2; omega
  | succ fu ih =>
    intro k f h2 h3 hf
    have h4f : gI (sA z 10 f) 4 = nI o := h4
    refine ⟨fun e => ?_, fun e => ?_⟩
    · have e1 := (nI_leI (by decide) (by omega)).mp (show nI 3 ≤ nI k from e)
      have hs := h f (fun m hm => hf m (by omega))
      rw [h4f, nI_clamp (by omega), nI_clamp (by omega), nI_clamp (by omega)]
      refine ⟨vp_in_nI ha (by decide), vp_in_nI ho (by decide), fun ne => ⟨vp_in_nI ha (by decide), fun x4 e4 => ?_⟩, fun eq => ⟨vp_in_nI hb (by decide), fun x4 e4 => ?_⟩⟩
      · rw [if_neg (show ¬ gA z 7 a = gA z 7 o from ne)] at hs
        rw [e4]; exact hs
      · rw [if_pos (show gA z 7 a = gA z 7 o from eq)] at hs
        rw [e4]; exact hs
    · have e1 : ¬ 3 ≤ k := fun q => e ((nI_leI (by decide) (by omega)).mpr q)
      rw [h4f, q_o3, q_o3, q_o3]
      refine ⟨vp_in_nI (by omega) (by decide), vp_in_nI (by omega) (by decide), vp_in_nI (by omega) (by decide), ?_⟩
      rw [nI_clamp (by omega), nI_clamp (by omega), nI_clamp (by omega)]
      refine m_merged ⟨vp_in_nI (by omega) (by decide), fun x1 ex => ?_⟩
      rw [ex, gA_sA, if_pos rfl, sA_sA, nI_clamp (by omega)]
      show qw_M_join_H122 post fu (nI a) (nI b) (nI k + 1) _
      rw [nI_1]
      refine ih (k + 1) _ (by omega) (by omega) (fun j hj => ?_)
      rw [upd_at]
      by_cases q : j = k
      · rw [if_pos q, q]; rfl
      · rw [if_neg q]; exact hf j (by omega)
theorem m_joinv {post : Int32 → QX → Prop} {z : QX} {o a b : Nat} {O A B : Nat → Bool} (h4 : gI z 4 = nI o) (ho : o < 100) (ha : a < 100) (hb : b < 100) (hO : ∀ c, c < 60 → gA z 5 (60 * o + c) = qz (O c)) (hA : ∀ c, c < 60 → gA z 5 (60 * a + c) = qz (A c)) (hB : ∀ c, c < 60 → gA z 5 (60 * b + c) = qz (B c)) (h : ∀ f : Nat → Int32, (∀ c, c < 60 → f c = qz (A c && B c || (A c || B c) && !O c)) → qw_M_join_H122 post qFU (nI a) (nI b) (nI 0) (sA z 9 f)) : ∀ (fu k : Nat) (f : Nat → Int32), k ≤ 60 → 60 - k < fu → (∀ j, j < k → f j = qz (A j && B j || (A j || B j) && !O j)) → qw_M_join_H30 post fu (nI a) (nI b) (nI k) (sA z 9 f) := by
  intro fu
  induction fu with
  | zero => intro k f _ h2; omega
  | succ fu ih =>
    intro k f h2 h3 hf
    have h4f : gI (sA z 9 f) 4 = nI o := h4
    refine ⟨fun e => ?_, fun e => ?_⟩
    · have e1 := (nI_leI (by decide) (by omega)).mp (show nI 60 ≤ nI k from e)
      exact h f (fun m hm => hf m (by omega))
    · have e1 : ¬ 60 ≤ k := fun q => e ((nI_leI (by decide) (by omega)).mpr q)
      rw [h4f, q_60o, q_60o, q_60o]
      have eO : gA (sA z 9 f) 5 (nI (60 * o + k)).toNatClampNeg = qz (O k) := by rw [nI_clamp (by omega)]; exact hO k (by omega)
      have eA : gA (sA z 9 f) 5 (nI (60 * a + k)).toNatClampNeg = qz (A k) := by rw [nI_clamp (by omega)]; exact hA k (by omega)
      have eB : gA (sA z 9 f) 5 (nI (60 * b + k)).toNatClampNeg = qz (B k) := by rw [nI_clamp (by omega)]; exact hB k (by omega)
      rw [eO, eA, eB]
      refine ⟨vp_in_nI (by omega) (by decide), fun t1 f1 => ⟨vp_in_nI (by omega) (by decide), fun t2 f2 => ⟨vp_in_nI (by omega) (by decide), fun t3 f3 => ?_⟩⟩⟩
      rw [f1, f2, f3]
      have leaf : ∀ (u : Bool), (A k && B k || (A k || B k) && !O k) = u → vp_in (nI k) 60 ∧ ∀ x26 : QX, x26 = sA (sA z 9 f) 9 (upd (gA (sA z 9 f) 9) (nI k).toNatClampNeg (vp_nar .boolean (qz u))) → qw_M_join_H30 post fu (nI a) (nI b) (nI k + 1) x26 := fun u eu => by
        refine ⟨vp_in_nI (by omega) (by decide), fun x26 e26 => ?_⟩
        rw [e26, qz_nar, gA_sA, if_pos rfl, sA_sA, nI_clamp (by omega), nI_1]
        refine ih (k + 1) _ (by omega) (by omega) (fun j hj => ?_)
        rw [upd_at]
        by_cases q : j = k
        · rw [if_pos q, q, eu]
        · rw [if_neg q]; exact hf j (by omega)
      exact join_tree (A k) (B k) (O k) _ _ (fun z => leaf false z) (fun z => leaf true z)
theorem q_N3 {N : Nat} (h : N < 2 ^ 31) : ¬ nI N = -3 := fun e => by
  have h2 := nI_toInt h
  rw [e] at h2
  have h3 : (-3 : Int32).toInt = -3 := by decide
  omega
theorem t_join {x y : QX} (h : INV x y) : qw_S_join x (fun r x' => qw_M_join y (fun r' y' => r = r' ∧ INV x' y')) := by
  obtain ⟨n, N, par, hC, hO, hL⟩ := id h
  obtain ⟨⟨a, ha, ha1, ha2⟩, hch, hl⟩ := id hL
  have h100 := hO.2.1
  have o2 := hC.2.1
  refine r_hasLine (fun e => ⟨fun z => absurd rfl z, fun _ => ?_⟩) (fun e => ⟨fun _ => ?_, fun z => absurd z (by decide)⟩)
  · have h3 : gI y 3 = 0 := by
      rcases hl with ⟨q, -, -⟩ | ⟨-, ⟨b, hb, q, -⟩, -⟩
      · exact q
      · rw [q] at e; exact absurd e (qm_nI_ne b (by omega))
    exact ⟨fun z => absurd h3 z, fun _ => ⟨rfl, h⟩⟩
  · obtain ⟨h3, ⟨b, hb, hb1, hb2⟩, ⟨o, ho, ho1, ho2⟩, hchs⟩ : gI y 3 = 1 ∧ (∃ b, b < N ∧ gA x 0 1 = nI b ∧ gA y 8 1 = nI b) ∧ (∃ o, o < N ∧ gI x 1 = nI o ∧ gI y 4 = nI o) ∧ (gI x 0 = 0 ∨ gI x 0 = 1) := by
      rcases hl with ⟨-, q, -⟩ | q
      · exact absurd q e
      · exact q
    obtain ⟨a1, a2, a3, a4, a5, a6, avv, -, -⟩ := hO.2.2.2.2.1 a ha
    obtain ⟨b1, b2, b3, b4, b5, b6, bvv, -, -⟩ := hO.2.2.2.2.1 b hb
    obtain ⟨c1, c2, c3, c4, c5, c6, cvv, -, -⟩ := hO.2.2.2.2.1 o ho
    refine ⟨q_in0, q_in1, ?_⟩
    have e0 : (0 : Int32).toNatClampNeg = 0 := by decide
    have e1 : (1 : Int32).toNatClampNeg = 1 := by decide
    rw [e0, e1, ho1, ha1, hb1]
    refine r_openj hO.2.2.1 h100 ho ha hb (fun x3 hop => ⟨q_in1, ?_⟩)
    have hof := qC_of_op hop
    -- the joined view
    obtain ⟨L, hLd⟩ : ∃ L, L = (gB x 1 a &&& gB x 1 b) ||| ((gB x 1 a ||| gB x 1 b) &&& (gB x 1 o ^^^ (-1))) := ⟨_, rfl⟩
    obtain ⟨w, hwd⟩ : ∃ w, w = (if gA x 5 a = gA x 5 o then gA x 5 b else gA x 5 a) := ⟨_, rfl⟩
    obtain ⟨mk, hmd⟩ : ∃ mk : Nat → Int32, mk = fun m => q_jm (gA x 6 (3 * o + m)) (gA x 6 (3 * a + m)) (gA x 6 (3 * b + m)) := ⟨_, rfl⟩
    rw [← hLd, ← hwd, ← hmd] at hop
    have hv : ∀ c, c < 60 → q_v L c = (q_v (gB x 1 a) c && q_v (gB x 1 b) c || (q_v (gB x 1 a) c || q_v (gB x 1 b) c) && !q_v (gB x 1 o) c) := fun c hc => by
      rw [q_v_lt hc, q_v_lt hc, q_v_lt hc, q_v_lt hc, hLd, qb_or, qb_and, qb_and, qb_or, qb_not _ (by omega)]
    have hvn : ∀ c, q_v L c = true → c < n := fun c hc => by
      have h60 : c < 60 := by
        unfold q_v at hc
        simp only [Bool.and_eq_true, decide_eq_true_eq] at hc
        exact hc.1
      rw [hv c h60] at hc
      cases ea : q_v (gB x 1 a) c with
      | true => exact avv.2.1 c ea
      | false =>
        cases eb : q_v (gB x 1 b) c with
        | true => exact bvv.2.1 c eb
        | false => rw [ea, eb] at hc; cases hc
    have hv0 : q_v L 0 = true := by rw [hv 0 (by omega), avv.1, bvv.1]; rfl
    obtain ⟨k, hk, hwk⟩ : ∃ k, k < n ∧ w = nI k := by
      obtain ⟨ka, hka, hwa, -⟩ := avv.2.2.2.1
      obtain ⟨kb, hkb, hwb, -⟩ := bvv.2.2.2.1
      rw [hwd]
      by_cases q : gA x 5 a = gA x 5 o
      · rw [if_pos q]; exact ⟨kb, hkb, hwb⟩
      · rw [if_neg q]; exact ⟨ka, hka, hwa⟩
    have hmk : ∀ m, m < 3 → q_mark n (mk m) := fun m hm => by
      have ma := VV_marks avv m hm
      have mb := VV_marks bvv m hm
      rw [hmd]
      show q_mark n (q_jm _ _ _)
      unfold q_jm
      by_cases q1 : gA x 6 (3 * a + m) = gA x 6 (3 * o + m)
      · rw [if_pos q1]; exact mb
      · rw [if_neg q1]
        by_cases q2 : gA x 6 (3 * b + m) = gA x 6 (3 * o + m)
        · rw [if_pos q2]; exact ma
        · rw [if_neg q2]
          by_cases q3 : gA x 6 (3 * b + m) = gA x 6 (3 * a + m)
          · rw [if_pos q3]; exact ma
          · rw [if_neg q3]; exact Or.inr (Or.inl rfl)
    have hd := q_d0_C hC hop
    have ok := q_d0_ok (x := x) hC hv0 hvn
    obtain ⟨d, hdd⟩ : ∃ d, d = q_d0 x n par (q_v L) := ⟨_, rfl⟩
    have hb0 : q_base x n par d := by rw [hdd]; exact q_base_d0 x n par (q_v L)
    rw [← hdd] at hd ok
    have hnd : qD_n d = n := by rw [hdd]; rfl
    obtain ⟨sok, sext, sor⟩ := qm_settle_ok 60 ok
    -- the reference's join, once the class's end is known
    have mj : ∀ (r : Int32) (x4 x8 : QX), OUT x n N d k mk 0 (nI b) (gI x 3) r x4 → (r = -3 → x8 = x4) → (¬ r = -3 → x8 = sI (sI (sA x4 0 (upd (gA x4 0) 1 (-1))) 1 (-1)) 0 0) → qw_M_join y (fun r' y' => r = r' ∧ INV x8 y') := by
      intro r x4 x8 out hx8a hx8b
      refine ⟨fun _ => ?_, fun z => by rw [h3] at z; exact absurd z (by decide)⟩
      rw [e0, e1, ha2, hb2]
      refine ⟨q_in0, fun t1 f1 => ⟨q_in1, fun t2 f2 => ?_⟩⟩
      rw [f1, f2]
      refine m_begin (by omega) a5 (fun y1 hopM => ?_)
      have hofM := qM_of_op hopM
      have g5 : gA y1 5 = gA y 5 := hofM.2.2.2.2.1
      have g6 : gA y1 6 = gA y 6 := hofM.2.2.2.2.2.1
      have g7 : gA y1 7 = gA y 7 := hofM.2.2.2.2.2.2.1
      have g4 : gI y1 4 = nI o := by rw [hofM.1.2.2.1]; exact ho2
      have kv := m_joinv (z := y1) (post := fun r' y' => r = r' ∧ INV x8 y') (O := q_v (gB x 1 o)) (A := q_v (gB x 1 a)) (B := q_v (gB x 1 b)) g4 (by omega) (by omega : a < 100) (by omega : b < 100) (by rw [g5]; exact c5) (by rw [g5]; exact a5) (by rw [g5]; exact b5) (fun f hf => by
        have km := m_joinm (z := sA y1 9 f) (post := fun r' y' => r = r' ∧ INV x8 y') (o := o) (a := a) (b := b) g4 (by omega) (by omega) (by omega) (fun f3 hf3 => ?_) qFU 0 (gA (sA y1 9 f) 10) (by omega) (by unfold qFU; omega) (fun j hj => by omega)
        · rw [sA_id] at km
          exact km
        · -- the draft stands
          have ew : (if gA (sA y1 9 f) 7 a = gA (sA y1 9 f) 7 o then gA (sA y1 9 f) 7 b else gA (sA y1 9 f) 7 a) = nI k := by
            show (if gA y1 7 a = gA y1 7 o then gA y1 7 b else gA y1 7 a) = nI k
            rw [g7, a3, b3, c3, ← hwd]; exact hwk
          rw [ew]
          have hop4 : qM_op y (sI (sA (sA y1 9 f) 10 f3) 6 (nI k)) (q_v L) (nI k) mk := by
            obtain ⟨p1, p2, p3, p4, p5, p6, p7, p8, p9, p10⟩ := hopM
            refine ⟨fun c hc => ?_, p2, fun m hm => ?_, rfl, p5, p6, p7, fun q r1 r2 r3 r4 => ?_, fun q r1 r2 r3 => ?_, p10⟩
            · show f c = _
              rw [hf c hc, hv c hc]
            · show f3 m = _
              rw [hf3 m hm, hmd]
              show q_jm (gA y1 6 (3 * o + m)) (gA y1 6 (3 * a + m)) (gA y1 6 (3 * b + m)) = _
              rw [g6, c4 m hm, a4 m hm, b4 m hm]
            · show (if q = 6 then _ else gI y1 q) = _
              rw [if_neg r1]; exact p8 q r1 r2 r3 r4
            · show (if q = 10 then _ else if q = 9 then _ else gA y1 q) = _
              rw [if_neg r2, if_neg r1]; exact p9 q r1 r2 r3
          have hdM := q_d0_M (x := x) hC hop4
          rw [← hdd] at hdM
          have hofM4 := qM_of_op hop4
          have h17 : gI (sI (sA (sA y1 9 f) 10 f3) 6 (nI k)) 7 = nI n := by rw [hop4.2.2.2.2.1]; exact hC.2.2.2.1
          have h18 : gI (sI (sA (sA y1 9 f) 10 f3) 6 (nI k)) 8 = gI y 1 := hop4.2.2.2.2.2.1
          have h11 : gI (sI (sA (sA y1 9 f) 10 f3) 6 (nI k)) 1 = gI y 1 := hop4.2.2.2.2.2.2.2.1 1 (by decide) (by decide) (by decide) (by decide)
          -- a join that fails
          have hfail : ∀ (y5 : QX) (d5 : QD), r = -3 → qC_back x x4 n → q_base x n par d5 → qM_d y5 d5 → qM_of y y5 → (gI y5 9 = 0 ∨ gI y5 9 = 1) → (N = 100 ∨ gI y5 9 = 1) → gI y5 7 = nI n → gI y5 8 = gI y 1 → q_jend (nI a) (nI b) (fun r' y' => r = r' ∧ INV x8 y') y5 := fun y5 d5 hr hbk hb5 hd5 hof5 h95 hF5 h75 h85 => by
            refine m_finish_full (N := N) (by rw [hof5.1.1]; exact hO.2.2.2.1) h100 h95 hF5 ⟨fun _ => ⟨hr, ?_⟩, fun z => absurd (by decide) z⟩
            rw [hx8a hr]
            exact inv_back hC hO hL hbk (q_backM hC hb5 hd5 hof5 h75 h85 rfl)
          refine m_settle hdM ok hop4.2.2.2.2.2.2.1 rfl (by rw [hnd]; exact hk) (fun m hm => by rw [hop4.2.2.1 m hm, hnd]; exact hmk m hm) (fun hs y2 hd2 hfr h92 => ?_) (fun hs y2 hd2 hfr h92 h62 h102 => ?_)
          · rcases out with ⟨-, hr, hback⟩ | ⟨-, q, -⟩
            · exact hfail y2 _ hr hback (q_base_ext hb0 sext) hd2 (qM_of_tr hofM4 (qM_of_fr hfr)) (Or.inr h92) (Or.inr h92) (by rw [hfr.1 7 (by decide) (by decide) (by decide)]; exact h17) (by rw [hfr.1 8 (by decide) (by decide) (by decide)]; exact h18)
            · rw [hs] at q; cases q
          · rcases out with ⟨hf2, hr, hback⟩ | ⟨hlt, -, hr, hac, x40, i0, i1, i3⟩
            · have hN : N = 100 := by
                rcases hf2 with hf2 | hf2
                · exact hf2
                · rw [hs] at hf2; cases hf2
              exact hfail y2 _ hr hback (q_base_ext hb0 sext) hd2 (qM_of_tr hofM4 (qM_of_fr hfr)) (Or.inl h92) (Or.inl hN) (by rw [hfr.1 7 (by decide) (by decide) (by decide)]; exact h17) (by rw [hfr.1 8 (by decide) (by decide) (by decide)]; exact h18)
            · have hr3 : ¬ r = -3 := by rw [hr]; exact q_N3 (by omega)
              have hx8 := hx8b hr3
              have hof2 := qM_of_tr hofM4 (qM_of_fr hfr)
              refine m_finish (N := N) (v := qD_v (qm_settle 60 d).2) (by rw [hof2.1.1]; exact hO.2.2.2.1) hlt h92 hd2.2.2.2.2.2.1 (fun y6 hfin => ⟨fun z => absurd z (nI_pos (by omega)), fun _ => ⟨vp_in_nI (by omega) (by decide), fun y8 f8 => ⟨q_in0, fun y9 f9 y10 f10 y11 f11 => ⟨hr, ?_⟩⟩⟩⟩)
              rw [nI_clamp (by omega)] at f8
              rw [e0] at f9
              have ham9 := AM_fin (w := nI (qm_pl (qm_settle 60 d).2 k)) (mk := fun m => qm_mk (qm_settle 60 d).2 (mk m)) hd2 hof2 hfin h62 (fun m hm => by rw [h102 m hm, hop4.2.2.1 m hm]) hO.2.2.2.2.2 y9 (by rw [f9, f8]; rfl) (fun q r1 r2 => by rw [f9, f8, gA_sA, if_neg r2, gA_sA, if_neg r1]) (by rw [f9, f8]; rfl) (fun q => by
                have e94 : gA y9 4 = upd (gA y6 4) N (vp_nar .boolean (1 : Int32)) := by rw [f9, f8]; rfl
                rw [e94, upd_at]
                by_cases z : q = N
                · rw [if_pos z, if_pos z, decide_eq_true (qm_nI_ne b (by omega))]; rfl
                · rw [if_neg z, if_neg z])
              have ham : AM y y11 N (qm_settle 60 d).2 (nI a) (nI b) (nI (qm_pl (qm_settle 60 d).2 k)) (fun m => qm_mk (qm_settle 60 d).2 (mk m)) := by rw [f11, f10]; exact ham9
              rw [ha1] at hac
              have hac8 : AC x x8 N (qm_settle 60 d).2 (nI a) (nI b) (nI (qm_pl (qm_settle 60 d).2 k)) (fun m => qm_mk (qm_settle 60 d).2 (mk m)) := by rw [hx8]; exact hac
              have hgI : ∀ q, q ≠ 2 → gI y6 q = gI y2 q := hfin.2.2.2.2.2.2.2.2.1
              have happ := inv_app hC hO hlt sok (q_base_ext hb0 sext) hac8 ham (vv_settled sok (sor hs) (fun m hm => q_mark_up (hmk m hm) o2)) ⟨a, ha, rfl⟩ (by
                rw [hx8, f11, f10, f9, f8]
                show gI x4 3 = gI y6 1
                rw [i3, hgI 1 (by decide), hfr.1 1 (by decide) (by decide) (by decide), h11]
                exact hC.2.2.2.2.1)
              refine ⟨_, _, _, happ.1, happ.2, ?_⟩
              have x80 : gA x8 0 = upd (upd (gA x 0) 0 (nI N)) 1 (-1) := by rw [hx8, ← x40]; rfl
              have y88 : gA y11 8 = upd (gA y6 8) 0 (nI N) := by rw [f11, f10, f9, f8]; rfl
              refine ⟨⟨N, by omega, by rw [x80, upd_at, if_neg (by decide), upd_at, if_pos rfl], by rw [y88, upd_at, if_pos rfl]⟩, by rw [hx8, f11, f10]; rfl, Or.inl ⟨by rw [f11]; rfl, by rw [x80, upd_at, if_pos rfl], by rw [hx8]; rfl⟩⟩) qFU 0 (gA y1 9) (by omega) (by unfold qFU; omega) (fun j hj => by omega)
      rw [sA_id] at kv
      exact kv
    have hx31 : gA x3 0 1 = nI b := by rw [hof.2.1.1]; exact hb1
    rw [hx31]
    refine c_keep (x := x) (y := y) (w := k) (mk := mk) (ln := 0) (lc := gI x 3) hC hO hd ok hb0 hof ?_ (by rw [hop.2.1]; exact hwk) (by rw [hnd]; exact hk) hop.2.2.2.2.1 (fun m hm => by rw [hnd]; exact hmk m hm) (by decide) ?_ (Or.inl rfl) (fun r x4 out => ⟨fun hr => ?_, fun hr => ⟨q_in1, fun x6 f6 x7 f7 x8 f8 => ?_⟩⟩)
    · rw [hop.2.2.1]; exact hC.2.2.1
    · exact hop.2.2.2.2.2.1 3 (by decide) (by decide)
    · exact mj r x4 x4 out (fun _ => rfl) (fun z => absurd hr z)
    · exact mj r x4 x8 out (fun z => absurd z hr) (fun _ => by rw [f8, f7, f6])
