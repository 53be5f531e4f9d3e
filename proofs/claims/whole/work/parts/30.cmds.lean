/-! Commands that settle nothing: create, edit, mark, undo, restore, fork, choose. -/
def ST (x y : QX) (n N ch o : Nat) (par : Nat → Nat) : Prop := RC x y n par ∧ RO x y n N par ∧ RL x y N ∧ ch < 2 ∧ o < N ∧ gI x 0 = nI ch ∧ gI y 5 = nI ch ∧ gA x 0 ch = nI o ∧ gA y 8 ch = nI o
theorem INV_st {x y : QX} (h : INV x y) : ∃ (n N ch o : Nat) (par : Nat → Nat), ST x y n N ch o par := by
  obtain ⟨n, N, par, hC, hO, hL⟩ := h
  obtain ⟨ch, o, h1, h2, h3, h4, h5, h6⟩ := RL_ch hL
  exact ⟨n, N, ch, o, par, hC, hO, hL, h1, h2, h3, h4, h5, h6⟩
/-- p is no visible commit -/
def q_nov (p : Int32) (v : Nat → Bool) : Prop := q_out p 60 ∨ ∃ c, c < 60 ∧ p = nI c ∧ v c = false
theorem q_vis (p : Int32) {v : Nat → Bool} {n : Nat} (hv : ∀ c, v c = true → c < n) : (∃ c, c < n ∧ p = nI c ∧ v c = true) ∨ q_nov p v := by
  rcases q_has (p := p) (n := 60) (by decide) with h | ⟨c, hc, rfl⟩
  · exact Or.inr (Or.inl h)
  · cases e : v c with
    | true => exact Or.inl ⟨c, hv c e, rfl, e⟩
    | false => exact Or.inr (Or.inr ⟨c, hc, rfl, e⟩)
theorem r_shows_no {x : QX} {L : Int64} {p : Int32} {post : Int32 → QX → Prop} (hL : gL x 0 = L) (hp : q_nov p (q_v L)) (h : post 0 x) : qw_D_shows p x post := by
  rcases hp with hp | ⟨c, hc, rfl, e⟩
  · exact r_D_shows_out hp h
  · refine r_D_shows hc ?_
    rw [hL, ← q_v_lt hc, e]; exact h
theorem r_shows_yes {x : QX} {L : Int64} {c : Nat} {post : Int32 → QX → Prop} (hL : gL x 0 = L) (hc : c < 60) (e : q_v L c = true) (h : post 1 x) : qw_D_shows (nI c) x post := by
  refine r_D_shows hc ?_
  rw [hL, ← q_v_lt hc, e]; exact h
theorem m_vis_no {y : QX} {n o : Nat} {v : Nat → Bool} {p : Int32} {post : Int32 → QX → Prop} (hn : gI y 0 = nI n) (hn2 : n ≤ 60) (ho : o < 100) (hv : ∀ c, c < 60 → gA y 5 (60 * o + c) = qz (v c)) (hp : q_nov p v) (h : post 0 y) : qw_M_isVisible (nI o) p y post := by
  refine ⟨fun _ => h, fun h0 => ⟨fun _ => h, fun h1 => ?_⟩⟩
  rw [hn] at h1
  rcases hp with hp | ⟨c, hc, rfl, e⟩
  · rcases hp with hp | hp
    · exact absurd hp h0
    · exfalso
      rcases q_has (p := p) (n := n) (by omega) with z | ⟨c, hc, rfl⟩
      · rcases z with z | z
        · exact h0 z
        · exact h1 z
      · have := (nI_leI (by decide) (by omega)).mp hp; omega
  · rw [q_60o, nI_clamp (by omega), hv c hc, e]
    exact ⟨vp_in_nI (by omega) (by decide), fun _ => h, fun z => absurd rfl z⟩
theorem m_vis_yes {y : QX} {n o : Nat} {v : Nat → Bool} {c : Nat} {post : Int32 → QX → Prop} (hn : gI y 0 = nI n) (hn2 : n ≤ 60) (ho : o < 100) (hv : ∀ c, c < 60 → gA y 5 (60 * o + c) = qz (v c)) (hc : c < n) (e : v c = true) (h : post 1 y) : qw_M_isVisible (nI o) (nI c) y post := by
  refine ⟨fun h0 => absurd h0 (nI_pos (by omega)), fun _ => ⟨fun h1 => ?_, fun _ => ?_⟩⟩
  · rw [hn] at h1; exact absurd h1 (nI_ge hc (by omega))
  · rw [q_60o, nI_clamp (by omega), hv c (by omega), e]
    exact ⟨vp_in_nI (by omega) (by decide), fun z => absurd z (by decide), fun _ => h⟩
theorem r_room {x : QX} {n N : Nat} {post : Int32 → QX → Prop} (hn : gI x 2 = nI n) (h60 : n ≤ 60) (hN : gI x 4 = nI N) (h100 : N ≤ 100) (h : post (qz (decide (n < 60 ∧ N < 100))) x) : qw_S_hasRoomForCommit x post := by
  refine r_C_isFull hn h60 (qz_d (fun e => ?_) (fun e => r_O_isFull hN h100 (qz_d (fun e2 => ?_) (fun e2 => ?_))))
  · have e : n = 60 := by simpa using e
    rw [decide_eq_false (by omega)] at h; exact h
  · have e2 : N = 100 := by simpa using e2
    rw [decide_eq_false (by omega)] at h; exact h
  · have e : ¬ n = 60 := by simpa using e
    have e2 : ¬ N = 100 := by simpa using e2
    rw [decide_eq_true (by omega)] at h; exact h
theorem r_openDraft {x : QX} {N ch o : Nat} {post : QX → Prop} (hx : gI x 0 = nI ch) (hc : ch < 2) (hcur : gA x 0 ch = nI o) (hN : gI x 4 = nI N) (h1 : N ≤ 100) (ho : o < N) (h : ∀ x', qC_op x x' (gB x 1 o) (gA x 5 o) (fun m => gA x 6 (3 * o + m)) → post x') : qw_S_openDraft x post := by
  unfold qw_S_openDraft
  rw [hx, nI_clamp (by omega), hcur]
  exact ⟨vp_in_nI hc (by decide), r_open hN h1 ho h⟩
theorem orph_no {x : QX} {n : Nat} {par : Nat → Nat} {v : Nat → Bool} (hv : ∀ c, 0 < c → c < n → v c = true → v (par c) = true) : qm_orph (q_d0 x n par v) = none := by
  refine qm_first_no (fun c h1 h2 => ?_)
  have h2 : c < 1 + (n - 1) := h2
  show (v c && !v (par c)) = false
  cases e : v c with
  | false => rfl
  | true => rw [hv c (by omega) (by omega) e]; rfl
theorem VV_marks {n : Nat} {par : Nat → Nat} {v : Nat → Bool} {w : Int32} {mk : Nat → Int32} (h : VV n par v w mk) : ∀ m, m < 3 → q_mark n (mk m) := by
  intro m hm
  rcases h.2.2.2.2 m hm with q | q | ⟨c, hc, q, -⟩
  · exact Or.inl q
  · exact Or.inr (Or.inl q)
  · exact Or.inr (Or.inr ⟨c, hc, q⟩)
theorem VV_marks2 {n : Nat} {par : Nat → Nat} {v : Nat → Bool} {w : Int32} {mk : Nat → Int32} (h : VV n par v w mk) (hn : n ≤ 60) : ∀ m, m < 3 → mk m = -1 ∨ mk m = -2 ∨ ∃ c, c < 60 ∧ mk m = nI c ∧ v c = true := by
  intro m hm
  rcases h.2.2.2.2 m hm with q | q | ⟨c, hc, q, z⟩
  · exact Or.inl q
  · exact Or.inr (Or.inl q)
  · exact Or.inr (Or.inr ⟨c, by omega, q, z⟩)
/-- an opened view is kept as it is, but for its pointers -/
theorem t_same {x y x1 : QX} {n N ch oc : Nat} {par : Nat → Nat} {L : Int64} {w : Nat} {w0 : Int32} {mk mk0 : Nat → Int32} (st : ST x y n N ch oc par) (hop : qC_op x x1 L w0 mk0) {x2 : QX} {f : Nat → Int32} (e2 : x2 = sA (sI x1 5 (nI w)) 7 f) (h7 : ∀ m, m < 3 → f m = mk m) (hvv : VV n par (q_v L) (nI w) mk)
    {M : Int32 → QX → Prop} (hM : ∀ r x', (∀ (y1 y2 : QX) (w1 : Int32) (mk1 g : Nat → Int32), qM_op y y1 (q_v L) w1 mk1 → y2 = sA (sI y1 6 (nI w)) 10 g → (∀ m, m < 3 → g m = mk m) → qw_M_done y2 (fun r' y' => r = r' ∧ INV x' y')) → M r x') : qw_S_keepDraft (gI x2 0) (-1) x2 M := by
  obtain ⟨hC, hO, hL, hc, ho, hx0, hy5, hx, hy⟩ := st
  have hd1 := q_d0_C hC hop
  have o2 := hC.2.1
  have ok := q_d0_ok (x := x) hC hvv.1 hvv.2.1
  have hor := orph_no (x := x) (n := n) (par := par) hvv.2.2.1
  have hof1 := qC_of_op hop
  obtain ⟨k, hk, hwk, hvk⟩ := hvv.2.2.2.1
  have hd2 : qC_d x2 (q_d0 x n par (q_v L)) := by rw [e2]; exact hd1
  have hof2 : qC_of x x2 := by rw [e2]; exact hof1
  have hx20 : gI x2 0 = nI ch := by rw [hof2.1.1]; exact hx0
  rw [hx20]
  have h5 : gI x2 5 = nI k := by rw [e2]; exact hwk
  refine c_keep (n := n) (N := N) (par := par) (x := x) (y := y) (d := q_d0 x n par (q_v L)) (w := k) (mk := mk) hC hO hd2 ok (q_base_d0 _ _ _ _) hof2 ?_ h5 hk (by rw [e2]; exact h7) (VV_marks hvv) hc (lc := gI x 3) ?_ (Or.inl rfl) (fun r x' out => hM r x' (fun y1 y2 w1 mk1 g hopM ey2 h10 => ?_))
  · rw [e2]; show gI x1 6 = nI n; rw [hop.2.2.1]; exact hC.2.2.1
  · rw [e2]; show gI x1 3 = gI x 3; exact hop.2.2.2.2.2.1 3 (by decide) (by decide)
  · have hdM := q_d0_M (x := x) hC hopM
    have hofM := qM_of_op hopM
    refine m_end0 hC hO hL hx0 hc (by rw [hx, hy]) ⟨oc, ho, hx⟩ ok (q_base_d0 _ _ _ _) hor hvk (VV_marks2 hvv o2) out (y1 := y2) ?_ ?_ ?_ ?_ (by rw [ey2]; exact h10) ?_ ?_ ?_
    · rw [ey2]; exact hdM
    · rw [ey2]; exact hofM
    · rw [ey2]; exact hopM.2.2.2.2.2.2.1
    · rw [ey2]; exact hwk
    · rw [ey2]; show gI y1 7 = nI n; rw [hopM.2.2.2.2.1]; exact hC.2.2.2.1
    · rw [ey2]; show gI y1 8 = gI y 1; exact hopM.2.2.2.2.2.1
    · rw [ey2]; show gI y1 1 = gI x 3; rw [hopM.2.2.2.2.2.2.2.1 1 (by decide) (by decide) (by decide) (by decide)]; exact hC.2.2.2.2.1.symm
theorem t_edit {x y : QX} (h : INV x y) (p : Int32) : qw_S_edit p x (fun r x' => qw_M_edit p y (fun r' y' => r = r' ∧ INV x' y')) := by
  obtain ⟨n, N, ch, o, par, st⟩ := INV_st h
  obtain ⟨hC, hO, hL, hc, ho, hx0, hy5, hx, hy⟩ := id st
  obtain ⟨v1, v2, v3, v4, v5, v6, hvv, -, -⟩ := hO.2.2.2.2.1 o ho
  have hN := hO.2.2.1
  have h100 := hO.2.1
  have o2 := hC.2.1
  have hn0 := hC.2.2.2.1
  refine r_openDraft hx0 hc hx hN h100 ho (fun x1 hop => ?_)
  have hL0 : gL x1 0 = gB x 1 o := hop.1
  rcases q_vis p hvv.2.1 with ⟨c, hcn, rfl, hvc⟩ | hno
  · refine r_shows_yes hL0 (by omega) hvc ⟨fun _ => ⟨fun ne => ?_, fun eq => ?_⟩, fun e => absurd e (by decide)⟩
    · intro x2 e2
      have hne : ¬ gA y 7 o = nI c := by rw [v3]; rw [hop.2.1] at ne; exact ne
      refine t_same (w := c) (f := gA x1 7) (mk := fun m => gA x 6 (3 * o + m)) st hop (by rw [e2]; exact (sA_id (sI x1 5 (nI c)) 7).symm) hop.2.2.2.2.1 ⟨hvv.1, hvv.2.1, hvv.2.2.1, ⟨c, hcn, rfl, hvc⟩, hvv.2.2.2.2⟩ (fun r x' hM => ?_)
      refine m_here hy5 hc ?_
      rw [hy]
      refine m_vis_yes hn0 o2 (by omega) v5 hcn hvc ⟨fun _ => m_here hy5 hc ?_, fun e => absurd e (by decide)⟩
      rw [hy, nI_clamp (by omega)]
      refine ⟨vp_in_nI (by omega) (by decide), ⟨fun _ => m_here hy5 hc ?_, fun e => absurd e hne⟩⟩
      rw [hy]
      refine m_begin (by omega) v5 (fun y1 hopM y2 ey2 => hM y1 y2 _ _ (gA y1 10) hopM (by rw [ey2]; exact (sA_id (sI y1 6 (nI c)) 10).symm) (fun m hm => ?_))
      rw [hopM.2.2.1 m hm]; exact v4 m hm
    · refine m_here hy5 hc ?_
      rw [hy]
      refine m_vis_yes hn0 o2 (by omega) v5 hcn hvc ⟨fun _ => m_here hy5 hc ?_, fun e => absurd e (by decide)⟩
      rw [hy, nI_clamp (by omega)]
      refine ⟨vp_in_nI (by omega) (by decide), ⟨fun e => absurd ?_ e, fun _ => ⟨rfl, inv_back hC hO hL (qC_back_op hC hop) (qM_back_rf hC)⟩⟩⟩
      rw [v3]; rw [hop.2.1] at eq; exact eq
  · refine r_shows_no hL0 hno ⟨fun e => absurd rfl e, fun _ => ?_⟩
    refine m_here hy5 hc ?_
    rw [hy]
    exact m_vis_no hn0 o2 (by omega) v5 hno ⟨fun e => absurd rfl e, fun _ => ⟨rfl, inv_back hC hO hL (qC_back_op hC hop) (qM_back_rf hC)⟩⟩
theorem q_m2 {p : Int32} : q_out p 3 → (p < 0 ∨ (2 : Int32) < p) := by
  intro h
  rcases h with h | h
  · exact Or.inl h
  · refine Or.inr ?_
    have h3 : (3 : Int32).toInt ≤ p.toInt := Int32.le_iff_toInt_le.mp h
    have e3 : (3 : Int32).toInt = 3 := by decide
    have e2 : (2 : Int32).toInt = 2 := by decide
    exact Int32.lt_iff_toInt_lt.mpr (by omega)
theorem q_m2n {m : Nat} (h : m < 3) : ¬ (2 : Int32) < nI m := fun e => by
  have := (nI_ltI (by decide) (by omega)).mp (show nI 2 < nI m from e)
  omega
theorem t_mark {x y : QX} (h : INV x y) (p q : Int32) : qw_S_mark p q x (fun r x' => qw_M_mark p q y (fun r' y' => r = r' ∧ INV x' y')) := by
  obtain ⟨n, N, ch, o, par, st⟩ := INV_st h
  obtain ⟨hC, hO, hL, hc, ho, hx0, hy5, hx, hy⟩ := id st
  obtain ⟨v1, v2, v3, v4, v5, v6, hvv, -, -⟩ := hO.2.2.2.2.1 o ho
  have hN := hO.2.2.1
  have h100 := hO.2.1
  have o2 := hC.2.1
  have hn0 := hC.2.2.2.1
  refine r_openDraft hx0 hc hx hN h100 ho (fun x1 hop => ?_)
  have hL0 : gL x1 0 = gB x 1 o := hop.1
  have hbk := inv_back hC hO hL (qC_back_op hC hop) (qM_back_rf hC)
  rcases q_has (p := p) (n := 3) (by decide) with hp | ⟨m, hm, rfl⟩
  · refine r_S_isMark_out hp ⟨fun _ => ?_, fun e => absurd rfl e⟩
    refine ⟨fun _ => ⟨rfl, hbk⟩, fun e => ⟨fun _ => ⟨rfl, hbk⟩, fun e2 => ?_⟩⟩
    rcases q_m2 hp with z | z
    · exact absurd z e
    · exact absurd z e2
  · have cl : (nI m).toNatClampNeg = m := nI_clamp (by omega)
    have hin : vp_in (nI m) 3 := vp_in_nI hm (by decide)
    obtain ⟨k, hk, hwk, hvk⟩ := hvv.2.2.2.1
    have h71 : gA x1 7 m = gA x 6 (3 * o + m) := hop.2.2.2.2.1 m hm
    have h6y : gA y 6 (3 * o + m) = gA x 6 (3 * o + m) := v4 m hm
    -- the mark is set
    have set : (q = -1 ∨ ∃ c, c < n ∧ q = nI c ∧ q_v (gB x 1 o) c = true) → ∀ (M : Int32 → QX → Prop) (x4 : QX), x4 = sA x1 7 (upd (gA x1 7) m q) → (∀ r x', (qw_M_begin (nI o) y (fun x5 => vp_in (nI m) 3 ∧ ∀ x6 : QX, x6 = sA x5 10 (upd (gA x5 10) m q) → qw_M_done x6 (fun r' y' => r = r' ∧ INV x' y'))) → M r x') → qw_S_keepDraft (gI x4 0) (-1) x4 M := by
      intro hq M x4 e4 hM
      refine t_same (w := k) (f := upd (gA x1 7) m q) (mk := fun j => if j = m then q else gA x 6 (3 * o + j)) st hop ?_ (fun j hj => ?_) ⟨hvv.1, hvv.2.1, hvv.2.2.1, ⟨k, hk, rfl, hvk⟩, fun j hj => ?_⟩ (fun r x' hD => hM r x' ?_)
      · have e5 : sI x1 5 (nI k) = x1 := by
          have : gI x1 5 = nI k := by rw [hop.2.1]; exact hwk
          rw [← this]; exact sI_id x1 5
        rw [e5]; exact e4
      · rw [upd_at]
        by_cases z : j = m
        · rw [if_pos z, if_pos z]
        · rw [if_neg z, if_neg z]; exact hop.2.2.2.2.1 j hj
      · dsimp only
        by_cases z : j = m
        · rw [if_pos z]
          rcases hq with hq | ⟨c, a, b, d⟩
          · exact Or.inl hq
          · exact Or.inr (Or.inr ⟨c, a, b, d⟩)
        · rw [if_neg z]; exact hvv.2.2.2.2 j hj
      · refine m_begin (by omega) v5 (fun y1 hopM => ⟨hin, fun y2 ey2 => hD y1 y2 _ _ (upd (gA y1 10) m q) hopM ?_ (fun j hj => ?_)⟩)
        · have e5 : sI y1 6 (nI k) = y1 := by
            have : gI y1 6 = nI k := by rw [hopM.2.2.2.1, v3]; exact hwk
            rw [← this]; exact sI_id y1 6
          rw [e5]; exact ey2
        · rw [upd_at]
          by_cases z : j = m
          · rw [if_pos z, if_pos z]
          · rw [if_neg z, if_neg z, hopM.2.2.1 j hj]; exact v4 j hj
    refine r_S_isMark_in hm ⟨fun e => absurd e (by decide), fun _ => ⟨fun hq => ⟨hin, ?_⟩, fun hq => ?_⟩⟩
    · rw [cl]
      refine ⟨fun ne => ⟨hin, fun x4 e4 => ?_⟩, fun eq => ?_⟩
      · refine set (Or.inl hq) _ x4 e4 (fun r x' hD => ?_)
        refine ⟨fun e => absurd e (nI_pos (by omega)), fun _ => ⟨fun e => absurd e (q_m2n hm), fun _ => ⟨fun _ => ?_, fun e => absurd hq e⟩⟩⟩
        refine m_here hy5 hc ?_
        rw [hy, q_o3, nI_clamp (by omega), cl]
        refine ⟨vp_in_nI (by omega) (by decide), ⟨fun _ => m_here hy5 hc ?_, fun e => absurd ?_ ne⟩⟩
        · rw [hy]; exact hD
        · rw [h71, ← h6y]; exact e
      · refine ⟨fun e => absurd e (nI_pos (by omega)), fun _ => ⟨fun e => absurd e (q_m2n hm), fun _ => ⟨fun _ => ?_, fun e => absurd hq e⟩⟩⟩
        refine m_here hy5 hc ?_
        rw [hy, q_o3, nI_clamp (by omega)]
        refine ⟨vp_in_nI (by omega) (by decide), ⟨fun e => absurd ?_ e, fun _ => ⟨rfl, hbk⟩⟩⟩
        rw [h6y, ← h71]; exact eq
    · rcases q_vis q hvv.2.1 with ⟨c, hcn, hqc, hvc⟩ | hno
      · rw [hqc]
        refine r_shows_yes hL0 (by omega) hvc ⟨fun _ => ⟨hin, ?_⟩, fun e => absurd e (by decide)⟩
        rw [cl, ← hqc]
        refine ⟨fun ne => ⟨hin, fun x4 e4 => ?_⟩, fun eq => ?_⟩
        · refine set (Or.inr ⟨c, hcn, hqc, hvc⟩) _ x4 e4 (fun r x' hD => ?_)
          refine ⟨fun e => absurd e (nI_pos (by omega)), fun _ => ⟨fun e => absurd e (q_m2n hm), fun _ => ⟨fun e => absurd e hq, fun _ => ?_⟩⟩⟩
          refine m_here hy5 hc ?_
          rw [hy]
          have hD2 := hD
          rw [hqc] at hD2 ⊢
          refine m_vis_yes hn0 o2 (by omega) v5 hcn hvc ⟨fun _ => m_here hy5 hc ?_, fun e => absurd e (by decide)⟩
          rw [hy, q_o3, nI_clamp (by omega), cl]
          refine ⟨vp_in_nI (by omega) (by decide), ⟨fun _ => m_here hy5 hc ?_, fun e => absurd ?_ ne⟩⟩
          · rw [hy]; exact hD2
          · rw [h71, ← h6y, hqc]; exact e
        · refine ⟨fun e => absurd e (nI_pos (by omega)), fun _ => ⟨fun e => absurd e (q_m2n hm), fun _ => ⟨fun e => absurd e hq, fun _ => ?_⟩⟩⟩
          refine m_here hy5 hc ?_
          rw [hy]
          rw [hqc] at eq ⊢
          refine m_vis_yes hn0 o2 (by omega) v5 hcn hvc ⟨fun _ => m_here hy5 hc ?_, fun e => absurd e (by decide)⟩
          rw [hy, q_o3, nI_clamp (by omega)]
          refine ⟨vp_in_nI (by omega) (by decide), ⟨fun e => absurd ?_ e, fun _ => ⟨rfl, hbk⟩⟩⟩
          rw [h6y, ← h71]; exact eq
      · refine r_shows_no hL0 hno ⟨fun e => absurd rfl e, fun _ => ?_⟩
        refine ⟨fun e => absurd e (nI_pos (by omega)), fun _ => ⟨fun e => absurd e (q_m2n hm), fun _ => ⟨fun e => absurd e hq, fun _ => ?_⟩⟩⟩
        refine m_here hy5 hc ?_
        rw [hy]
        exact m_vis_no hn0 o2 (by omega) v5 hno ⟨fun e => absurd rfl e, fun _ => ⟨rfl, hbk⟩⟩
/-- the view of an operation comes again -/
theorem t_again {x y : QX} {n N ch oc : Nat} {par : Nat → Nat} (st : ST x y n N ch oc par) {o : Nat} (ho : o < N) {M : Int32 → QX → Prop} (hM : ∀ r x', qw_M_begin (nI o) y (fun x1 => qw_M_done x1 (fun r' y' => r = r' ∧ INV x' y')) → M r x') : qw_D_open (nI o) x (fun x6 => qw_S_keepDraft (gI x6 0) (-1) x6 M) := by
  obtain ⟨hC, hO, hL, hc, -, hx0, hy5, hx, hy⟩ := id st
  obtain ⟨v1, v2, v3, v4, v5, v6, hvv, -, -⟩ := hO.2.2.2.2.1 o ho
  have h100 := hO.2.1
  refine r_open hO.2.2.1 h100 ho (fun x1 hop => ?_)
  obtain ⟨k, hk, hwk, hvk⟩ := id hvv.2.2.2.1
  have e5 : sI x1 5 (nI k) = x1 := by
    have : gI x1 5 = nI k := by rw [hop.2.1]; exact hwk
    rw [← this]; exact sI_id x1 5
  refine t_same (w := k) (f := gA x1 7) (mk := fun m => gA x 6 (3 * o + m)) st hop (by rw [e5]; exact (sA_id x1 7).symm) hop.2.2.2.2.1 (by rw [← hwk]; exact hvv) (fun r x' hD => hM r x' ?_)
  refine m_begin (by omega) v5 (fun y1 hopM => hD y1 y1 _ _ (gA y1 10) hopM ?_ (fun m hm => by rw [hopM.2.2.1 m hm]; exact v4 m hm))
  have e6 : sI y1 6 (nI k) = y1 := by
    have : gI y1 6 = nI k := by rw [hopM.2.2.2.1, v3]; exact hwk
    rw [← this]; exact sI_id y1 6
  rw [e6]; exact (sA_id y1 10).symm
theorem t_restore {x y : QX} (h : INV x y) (p : Int32) : qw_S_restore p x (fun r x' => qw_M_restore p y (fun r' y' => r = r' ∧ INV x' y')) := by
  obtain ⟨n, N, ch, oc, par, st⟩ := INV_st h
  obtain ⟨hC, hO, hL, hc, hoc, hx0, hy5, hx, hy⟩ := id st
  have h100 := hO.2.1
  have hN2 := hO.2.2.2.1
  rcases q_has (p := p) (n := N) (by omega) with hp | ⟨o, ho, rfl⟩
  · refine r_O_has_out hO.2.2.1 hp ⟨fun e => absurd rfl e, fun _ => ?_⟩
    refine ⟨fun _ => ⟨rfl, h⟩, fun e => ⟨fun e2 => ?_, fun _ => ⟨rfl, h⟩⟩⟩
    rw [hN2] at e2
    rcases hp with hp | hp
    · exact absurd hp e
    · exact absurd e2 (Int32.not_lt.mpr hp)
  · refine r_O_has_in hO.2.2.1 h100 ho ⟨fun _ => t_again st ho (fun r x' hD => ?_), fun e => absurd e (by decide)⟩
    refine ⟨fun e => absurd e (nI_pos (by omega)), fun _ => ⟨fun _ => hD, fun e => ?_⟩⟩
    rw [hN2] at e; exact absurd (nI_lt ho (by omega)) e
theorem t_undo {x y : QX} (h : INV x y) : qw_S_undo x (fun r x' => qw_M_undo y (fun r' y' => r = r' ∧ INV x' y')) := by
  obtain ⟨n, N, ch, o, par, st⟩ := INV_st h
  obtain ⟨hC, hO, hL, hc, ho, hx0, hy5, hx, hy⟩ := id st
  have h100 := hO.2.1
  obtain ⟨v1, v2, v3, v4, v5, v6, hvv, v8, v9⟩ := hO.2.2.2.2.1 o ho
  unfold qw_S_undo
  rw [hx0, nI_clamp (by omega), hx]
  refine ⟨vp_in_nI hc (by decide), fun t et => ?_⟩
  subst et
  refine r_O_first hO.2.2.1 h100 ho (r_O_second hO.2.2.1 h100 ho ?_)
  have hin : vp_in (nI o) 100 := vp_in_nI (by omega) (by decide)
  refine ⟨fun e2 => ⟨fun e1 => ?_, fun e1 => ⟨fun _ => ?_, fun z => absurd rfl z⟩⟩, fun e2 => ⟨fun e1 => ?_, fun e1 => ⟨fun z => absurd z (by decide), fun _ => ?_⟩⟩⟩
  · refine m_here hy5 hc ?_
    rw [hy]
    refine ⟨fun _ => ⟨rfl, h⟩, fun e => ?_⟩
    have h0 : 0 < o := by
      rcases Nat.eq_zero_or_pos o with z | z
      · subst z; exact absurd rfl e
      · exact z
    obtain ⟨o', ho', he⟩ := v9 h0
    rw [he] at e1; exact absurd e1 (qm_nI_ne o' (by omega))
  · have h0 : 0 < o := by
      rcases Nat.eq_zero_or_pos o with z | z
      · exact absurd (v8 z) e1
      · exact z
    obtain ⟨o', ho', he⟩ := v9 h0
    rw [he]
    refine t_again st ho' (fun r x' hD => ?_)
    refine m_here hy5 hc ?_
    rw [hy, nI_clamp (by omega), v6, v1, he]
    refine ⟨fun e => absurd e (nI_ne0 h0 (by omega)), fun _ => ⟨hin, ⟨fun _ => ⟨hin, hD⟩, fun z => absurd ?_ z⟩⟩⟩
    rw [e2]; rfl
  · refine m_here hy5 hc ?_
    rw [hy, nI_clamp (by omega), v6]
    refine ⟨fun _ => ⟨rfl, h⟩, fun e => ⟨hin, ⟨fun z => ?_, fun _ => ⟨rfl, h⟩⟩⟩⟩
    rw [decide_eq_true e2] at z; exact absurd z (by decide)
  · refine m_here hy5 hc ?_
    rw [hy, nI_clamp (by omega), v6]
    refine ⟨fun _ => ⟨rfl, h⟩, fun e => ⟨hin, ⟨fun z => ?_, fun _ => ⟨rfl, h⟩⟩⟩⟩
    rw [decide_eq_true e2] at z; exact absurd z (by decide)
