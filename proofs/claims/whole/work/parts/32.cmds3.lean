/-! create, write, squash, fork, choose. -/
theorem qC_show {x : QX} {d : QD} (hd : qC_d x d) {t : Nat} (ht : t < 60) : qC_d (sL x 0 (gL x 0 ||| q_bit t)) (qD_show d t) := by
  obtain ⟨h1, h2, h3, h4, h5, h6, h7⟩ := hd
  refine ⟨h1, h2, h3, h4, h5, fun e he => ?_, h7⟩
  show qb_t (gL x 0 ||| q_bit t) e = (if e = t then true else qD_v d e)
  rw [qb_or, q_bit_at (by omega) (by omega), h6 e he]
  by_cases z : e = t
  · simp [z]
  · simp [z]
theorem qM_show {x : QX} {d : QD} (hd : qM_d x d) {t : Nat} : qM_d (sA x 9 (upd (gA x 9) t 1)) (qD_show d t) := by
  obtain ⟨h1, h2, h3, h4, h5, h6, h7⟩ := hd
  refine ⟨h1, h2, h3, h4, h5, fun e he => ?_, h7⟩
  show upd (gA x 9) t 1 e = qz (if e = t then true else qD_v d e)
  rw [upd_at]
  by_cases z : e = t
  · rw [if_pos z, if_pos z]; rfl
  · rw [if_neg z, if_neg z]; exact h6 e he
theorem t_create {x y : QX} (h : INV x y) (p : Int32) : qw_S_create p x (fun r x' => qw_M_create p y (fun r' y' => r = r' ∧ INV x' y')) := by
  obtain ⟨n, N, ch, o, par, st⟩ := INV_st h
  obtain ⟨hC, hO, hL, hc, ho, hx0, hy5, hx, hy⟩ := id st
  obtain ⟨v1, v2, v3, v4, v5, v6, hvv, -, -⟩ := hO.2.2.2.2.1 o ho
  have h100 := hO.2.1
  have o1 := hC.1
  have o2 := hC.2.1
  have hn0 := hC.2.2.2.1
  refine r_openDraft hx0 hc hx hO.2.2.1 h100 ho (fun x1 hop => ?_)
  have hL0 : gL x1 0 = gB x 1 o := hop.1
  have hbk0 := qC_back_op hC hop
  have hbk := inv_back hC hO hL hbk0 (qM_back_rf hC)
  have hd := q_d0_C hC hop
  have ok := q_d0_ok (x := x) hC hvv.1 hvv.2.1
  have h31 : gI x1 3 = gI x 3 := hop.2.2.2.2.2.1 3 (by decide) (by decide)
  rcases q_vis p hvv.2.1 with ⟨c, hcn, rfl, hvc⟩ | hno
  · obtain ⟨d, hdd⟩ : ∃ d, d = qD_show (qD_put (q_d0 x n par (q_v (gB x 1 o))) c (gI x 3 + 1) (va_cpy (gB x 0) (gB x 0) (32 * c) (32 * n) 32)) n := ⟨_, rfl⟩
    have hnd : qD_n d = n + 1 := by rw [hdd]; rfl
    have hor : qm_orph d = none := by
      refine qm_first_no (fun e h1 h2 => ?_)
      rw [hnd] at h2
      rw [hdd]
      show ((if e = n then true else q_v (gB x 1 o) e) && !(if (if e = n then c else par e) = n then true else q_v (gB x 1 o) (if e = n then c else par e))) = false
      by_cases z : e = n
      · rw [if_pos z, if_pos z, if_neg (by omega), hvc]; rfl
      · rw [if_neg z, if_neg z]
        cases ev : q_v (gB x 1 o) e with
        | false => rfl
        | true =>
          have := (hC.2.2.2.2.2.2.2.1 e (by omega) (by omega)).1
          rw [if_neg (by omega), hvv.2.2.1 e (by omega) (by omega) ev]; rfl
    have okd : n < 60 → qD_ok d := fun hlt => by
      rw [hdd]
      exact qD_show_ok (qD_put_ok ok (show c < n from hcn) (show n < 60 from hlt) _ _) (show n < n + 1 by omega)
    have hb : q_base x n par d := by
      rw [hdd]
      exact q_base_put (d := q_d0 x n par (q_v (gB x 1 o))) (q_base_d0 _ _ _ _) (fun i hi => cpy_low _ hi)
    have hwv : qD_v d n = true := by rw [hdd]; show (if n = n then true else _) = true; rw [if_pos rfl]
    have hmv : ∀ m, m < 3 → gA x 6 (3 * o + m) = -1 ∨ gA x 6 (3 * o + m) = -2 ∨ ∃ e, e < 60 ∧ gA x 6 (3 * o + m) = nI e ∧ qD_v d e = true := fun m hm => by
      rcases hvv.2.2.2.2 m hm with q | q | ⟨e, he, q, z⟩
      · exact Or.inl q
      · exact Or.inr (Or.inl q)
      · refine Or.inr (Or.inr ⟨e, by omega, q, ?_⟩)
        rw [hdd]
        show (if e = n then true else q_v (gB x 1 o) e) = true
        rw [if_neg (by omega)]; exact z
    have m3 : ∀ (r : Int32) (x' : QX), (n < 60 → OUT x n N d n (fun m => gA x 6 (3 * o + m)) ch (-1) (gI x 3 + 1) r x') → (n = 60 → r = -3 ∧ qC_back x x' n) → qw_M_create (nI c) y (fun r' y' => r = r' ∧ INV x' y') := fun r x' hout hfull => by
      refine m_here hy5 hc ?_
      rw [hy]
      refine m_vis_yes hn0 o2 (by omega) v5 hcn hvc ⟨fun _ => m_here hy5 hc ?_, fun z => absurd z (by decide)⟩
      rw [hy]
      refine m_begin (by omega) v5 (fun y1 hopM => ?_)
      have hdM := q_d0_M (x := x) hC hopM
      by_cases h60 : n = 60
      · obtain ⟨hr, hb⟩ := hfull h60
        refine m_fresh_full (by rw [hdM.1]; show nI n = nI 60; rw [h60]) ⟨fun _ => ?_, fun z => absurd (by decide) z⟩
        rw [hr]
        exact m_noroom st hopM hb
      · refine m_fresh (n := n) hdM.1 (by omega) ⟨fun z => absurd z (nI_pos (by omega)), fun _ => ?_⟩
        intro y12 e12
        refine m_copy (by omega) (by omega) (by omega) ?_
        refine ⟨vp_in_nI (by omega) (by decide), fun y14 e14 y15 e15 => ?_⟩
        have h11 : gI y1 1 = gI y 1 := hopM.2.2.2.2.2.2.2.1 1 (by decide) (by decide) (by decide) (by decide)
        have hlc : gI y1 1 + 1 = gI x 3 + 1 := by rw [h11, hC.2.2.2.2.1]
        have hy15 : y15 = sI (sA (sB (sI (q_addM y1 n (gI x 3 + 1) (nI c)) 1 (gI x 3 + 1)) 0 (va_cpy (gB y1 0) (gB y1 0) (32 * c) (32 * n) 32)) 9 (upd (gA y1 9) n 1)) 6 (nI n) := by
          rw [e15, e14, e12, nI_clamp (by omega), qm_part_cpy, hlc]
          show sI (sA (sB (sI (q_addM y1 n (gI x 3 + 1) (nI c)) 1 (gI y1 1 + 1)) 0 _) 9 _) 6 (nI n) = _
          rw [hlc]
          rfl
        have hput := qM_put (pa := c) (ch := gI x 3 + 1) hdM ok (g := va_cpy (gB y1 0) (gB y1 0) (32 * c) (32 * n) 32) (k := va_cpy (gB x 0) (gB x 0) (32 * c) (32 * n) 32) (cpy_congr hcn hdM.2.2.2.2.1)
        have hput2 : qM_d (sB (sI (q_addM y1 n (gI x 3 + 1) (nI c)) 1 (gI x 3 + 1)) 0 (va_cpy (gB y1 0) (gB y1 0) (32 * c) (32 * n) 32)) (qD_put (q_d0 x n par (q_v (gB x 1 o))) c (gI x 3 + 1) (va_cpy (gB x 0) (gB x 0) (32 * c) (32 * n) 32)) := hput
        have hsh := qM_show (t := n) hput2
        have hofM := qM_of_op hopM
        have hof2 : qM_of y1 y15 := by rw [hy15]; exact ⟨⟨rfl, rfl, rfl, rfl⟩, ⟨rfl, rfl, rfl, rfl, rfl, rfl, rfl⟩⟩
        refine m_end0 hC hO hL hx0 hc (by rw [hx, hy]) ⟨o, ho, hx⟩ (okd (by omega)) hb hor hwv hmv (hout (by omega)) (y1 := y15) ?_ (qM_of_tr hofM hof2) ?_ ?_ (fun m hm => ?_) ?_ ?_ ?_
        · rw [hy15, hdd]; exact hsh
        · rw [hy15]; exact hopM.2.2.2.2.2.2.1
        · rw [hy15]; rfl
        · rw [hy15]; show gA y1 10 m = _; rw [hopM.2.2.1 m hm]; exact v4 m hm
        · rw [hy15]; show gI y1 7 = nI n; rw [hopM.2.2.2.2.1]; exact hn0
        · rw [hy15]; exact hopM.2.2.2.2.2.1
        · rw [hy15]; rfl
    refine r_shows_yes hL0 (by omega) hvc ⟨fun _ => ?_, fun z => absurd z (by decide)⟩
    refine r_room (n := n) (N := N) hd.1 o2 (by rw [hop.2.2.2.2.2.1 4 (by decide) (by decide)]; exact hO.2.2.1) h100 (qz_d (fun z => ?_) (fun z => ?_))
    · have hr : n < 60 ∧ N < 100 := by simpa using z
      refine r_C_isFull (n := n) hd.1 o2 (qz_c (fun _ => ?_) (fun z2 => by simp at z2; omega))
      intro x3 e3
      have e33 : gI x3 3 = gI x 3 + 1 := by rw [e3, gI_sI, if_pos rfl, h31]
      rw [e33]
      have hd3 : qC_d x3 (q_d0 x n par (q_v (gB x 1 o))) := by rw [e3]; exact hd
      refine r_copy (n := n) hd3.1 hr.1 hcn ?_
      intro x8 e8
      intro x9 e9
      have hput := qC_put (pa := c) (ch := gI x 3 + 1) hd3 ok (g := va_cpy (gB x3 0) (gB x3 0) (32 * c) (32 * n) 32) (k := va_cpy (gB x 0) (gB x 0) (32 * c) (32 * n) 32) (cpy_congr hcn hd3.2.2.2.2.1)
      have hsh := qC_show (t := n) hput (by omega)
      have hd9 : qC_d x9 d := by rw [e9, e8, hdd]; exact hsh
      have hof9 : qC_of x x9 := by
        refine qC_of_tr (qC_of_op hop) ?_
        rw [e9, e8, e3]
        exact ⟨⟨rfl, rfl, rfl⟩, ⟨rfl, rfl, rfl, rfl, rfl⟩, rfl⟩
      have hx90 : gI x9 0 = nI ch := by rw [hof9.1.1]; exact hx0
      rw [hx90]
      refine c_keep (x := x) (y := y) (w := n) (mk := fun m => gA x 6 (3 * o + m)) (lc := gI x 3 + 1) hC hO hd9 (okd hr.1) hb hof9 ?_ ?_ (by rw [hnd]; omega) (fun m hm => ?_) (fun m hm => q_mark_up (VV_marks hvv m hm) (by rw [hnd]; omega)) hc ?_ (Or.inr ⟨hr.2, by rw [qm_settle_no hor]⟩) (fun r x' out => m3 r x' (fun _ => out) (fun z => by omega))
      · rw [e9, e8, e3]; show gI x1 6 = nI n; rw [hop.2.2.1]; exact hC.2.2.1
      · rw [e9]; rfl
      · rw [e9, e8, e3]; show gA x1 7 m = _; exact hop.2.2.2.2.1 m hm
      · rw [e9, e8]; show gI x3 3 = _; exact e33
    · have hr : ¬ (n < 60 ∧ N < 100) := by simpa using z
      exact m3 _ _ (fun hlt => Or.inl ⟨Or.inl (by omega), rfl, hbk0⟩) (fun _ => ⟨rfl, hbk0⟩)
  · refine r_shows_no hL0 hno ⟨fun z => absurd rfl z, fun _ => m_here hy5 hc ?_⟩
    rw [hy]
    exact m_vis_no hn0 o2 (by omega) v5 hno ⟨fun z => absurd rfl z, fun _ => ⟨rfl, hbk⟩⟩
/-- which makes and replaces in one: the new commit n takes c's place -/
theorem t_squash {x y : QX} (h : INV x y) (p : Int32) : qw_S_squash p x (fun r x' => qw_M_squash p y (fun r' y' => r = r' ∧ INV x' y')) := by
  obtain ⟨n, N, ch, o, par, st⟩ := INV_st h
  obtain ⟨hC, hO, hL, hc, ho, hx0, hy5, hx, hy⟩ := id st
  obtain ⟨v1, v2, v3, v4, v5, v6, hvv, -, -⟩ := hO.2.2.2.2.1 o ho
  have h100 := hO.2.1
  have o2 := hC.2.1
  have hn0 := hC.2.2.2.1
  refine r_openDraft hx0 hc hx hO.2.2.1 h100 ho (fun x1 hop => ?_)
  have hL0 : gL x1 0 = gB x 1 o := hop.1
  have hbk0 := qC_back_op hC hop
  have hbk := inv_back hC hO hL hbk0 (qM_back_rf hC)
  have hd := q_d0_C hC hop
  have ok := q_d0_ok (x := x) hC hvv.1 hvv.2.1
  refine ⟨fun e => ?_, fun ne => ?_⟩
  · exact ⟨fun _ => ⟨fun _ => ⟨rfl, hbk⟩, fun z => absurd e z⟩, fun z => absurd rfl z⟩
  · rcases q_vis p hvv.2.1 with ⟨c, hcn, rfl, hvc⟩ | hno
    · have hc0 : 0 < c := by
        rcases Nat.eq_zero_or_pos c with z | z
        · subst z; exact absurd rfl ne
        · exact z
      obtain ⟨q1, q2, q3⟩ := hC.2.2.2.2.2.2.2.1 c hc0 hcn
      obtain ⟨k, hk, hwk, hvk⟩ := id hvv.2.2.2.1
      have e1 : gA y 1 (nI c).toNatClampNeg = nI (par c) := by rw [nI_clamp (by omega)]; exact q3
      have hin : vp_in (nI c) 60 := vp_in_nI (by omega) (by decide)
      refine r_shows_yes hL0 (by omega) hvc ⟨fun z => absurd z (by decide), fun _ => ⟨fun z => absurd z (by decide), fun _ => ?_⟩⟩
      refine r_C_parentOf hd.1 ok.2.1 hcn ?_
      rw [hd.2.2.1 c hc0 hcn]
      refine ⟨fun hp0 => ?_, fun hp0 => ?_⟩
      · have hp1 : 0 < par c := by
          rcases Nat.eq_zero_or_pos (par c) with z | z
          · exact absurd (by show nI (par c) = 0; rw [z]; rfl) hp0
          · exact z
        obtain ⟨s1, s2, s3⟩ := hC.2.2.2.2.2.2.2.1 (par c) hp1 (by omega)
        obtain ⟨d, hdd⟩ : ∃ d, d = qD_rep (qD_rep (qD_put (q_d0 x n par (q_v (gB x 1 o))) (par (par c)) (gA x 2 (par c)) (va_cpy (gB x 0) (gB x 0) (32 * c) (32 * n) 32)) c n) (par c) n := ⟨_, rfl⟩
        have hnd : qD_n d = n + 1 := by rw [hdd]; rfl
        have okd : n < 60 → qD_ok d := fun hlt => by
          rw [hdd]
          exact qD_rep_ok (qD_rep_ok (qD_put_ok ok (show par (par c) < n by omega) (show n < 60 from hlt) _ _) hc0 (show n < n + 1 by omega)) hp1 (show n < n + 1 by omega)
        have hb : q_base x n par d := by
          rw [hdd]
          exact q_base_put (d := q_d0 x n par (q_v (gB x 1 o))) (q_base_d0 _ _ _ _) (fun i hi => cpy_low _ hi)
        have m3 : ∀ (r : Int32) (x' : QX), (n < 60 → MS y n d k (fun m => gA x 6 (3 * o + m)) r x') → (n = 60 → r = -3 ∧ qC_back x x' n) → qw_M_squash (nI c) y (fun r' y' => r = r' ∧ INV x' y') := fun r x' hMS hfull => by
          refine ⟨fun z => absurd z ne, fun _ => m_here hy5 hc ?_⟩
          rw [hy]
          refine m_vis_yes hn0 o2 (by omega) v5 hcn hvc ⟨fun z => absurd z (by decide), fun _ => ⟨hin, ?_⟩⟩
          rw [e1]
          refine ⟨fun _ => ⟨hin, fun t et => m_here hy5 hc ?_⟩, fun z => absurd z hp0⟩
          subst et
          rw [hy]
          refine m_begin (by omega) v5 (fun y1 hopM => ⟨vp_in_nI (by omega) (by decide), vp_in_nI (by omega) (by decide), ?_⟩)
          have hdM := q_d0_M (x := x) hC hopM
          rw [nI_clamp (by omega), hdM.2.2.1 (par c) hp1 (show par c < n by omega), hdM.2.2.2.1 (par c) (show par c < n by omega)]
          by_cases h60 : n = 60
          · obtain ⟨hr, hb⟩ := hfull h60
            refine m_fresh_full (by rw [hdM.1]; show nI n = nI 60; rw [h60]) ⟨fun _ => ?_, fun z => absurd (by decide) z⟩
            rw [hr]
            exact m_noroom st hopM hb
          · refine m_fresh (n := n) hdM.1 (by omega) ⟨fun z => absurd z (nI_pos (by omega)), fun _ => ?_⟩
            refine m_copy (by omega) (by omega) (by omega) (m_replace (by omega) (by omega) (m_replace (by omega) (by omega) ?_))
            rw [qm_part_cpy]
            have hput := qM_put (pa := par (par c)) (ch := gA x 2 (par c)) hdM ok (g := va_cpy (gB y1 0) (gB y1 0) (32 * c) (32 * n) 32) (k := va_cpy (gB x 0) (gB x 0) (32 * c) (32 * n) 32) (cpy_congr hcn hdM.2.2.2.2.1)
            have hd2 := qM_rep (c := par c) (t := n) (qM_rep (c := c) (t := n) hput)
            rw [hdd] at hMS
            refine hMS (by omega) _ hd2 (qM_of_tr (qM_of_op hopM) ⟨⟨rfl, rfl, rfl, rfl⟩, ⟨rfl, rfl, rfl, rfl, rfl, rfl, rfl⟩⟩) ?_ ?_ (fun m hm => ?_) ?_ ?_ ?_
            · exact hopM.2.2.2.2.2.2.1
            · show gI y1 6 = nI k; rw [hopM.2.2.2.1, v3]; exact hwk
            · show gA y1 10 m = _; rw [hopM.2.2.1 m hm]; exact v4 m hm
            · show gI y1 7 = nI n; rw [hopM.2.2.2.2.1]; exact hn0
            · exact hopM.2.2.2.2.2.1
            · show gI y1 1 = gI y 1; exact hopM.2.2.2.2.2.2.2.1 1 (by decide) (by decide) (by decide) (by decide)
        refine r_room (n := n) (N := N) hd.1 o2 (by rw [hop.2.2.2.2.2.1 4 (by decide) (by decide)]; exact hO.2.2.1) h100 (qz_d (fun z => ?_) (fun z => ?_))
        · have hr : n < 60 ∧ N < 100 := by simpa using z
          refine r_C_parentOf hd.1 ok.2.1 hcn ?_
          rw [hd.2.2.1 c hc0 hcn]
          refine r_C_changeOf hd.1 ok.2.1 (show par c < n by omega) (r_C_parentOf hd.1 ok.2.1 (show par c < n by omega) ?_)
          rw [show qD_p (q_d0 x n par (q_v (gB x 1 o))) c = par c from rfl, hd.2.2.1 (par c) hp1 (show par c < n by omega), hd.2.2.2.1 (par c) (show par c < n by omega)]
          refine r_copy (n := n) hd.1 hr.1 hcn ?_
          refine r_replace (n := n + 1) rfl (by omega) (by omega) (by omega) (r_replace (n := n + 1) rfl (by omega) (show par c < n + 1 by omega) (by omega) ?_)
          have hput := qC_put (pa := par (par c)) (ch := gA x 2 (par c)) hd ok (g := va_cpy (gB x1 0) (gB x1 0) (32 * c) (32 * n) 32) (k := va_cpy (gB x 0) (gB x 0) (32 * c) (32 * n) 32) (cpy_congr hcn hd.2.2.2.2.1)
          have hd2 := qC_rep (c := par c) (t := n) (qC_rep (c := c) (t := n) hput (by omega) (by omega)) (by omega) (by omega)
          rw [hdd] at m3 okd hb hnd
          refine k_settle (w := k) (mk := fun m => gA x 6 (3 * o + m)) st hd2 (okd hr.1) hb (qC_of_tr (qC_of_op hop) (qC_of_tr (qC_of_fr (qC_fr_add _ _ _ _ _)) (qC_of_tr (qC_of_rep _ _ _) (qC_of_rep _ _ _)))) ?_ ?_ (show k < n + 1 by omega) hop.2.2.2.2.1 (fun m hm => q_mark_up (VV_marks hvv m hm) (show n ≤ n + 1 by omega)) ?_ (fun r x' hMS => m3 r x' (fun _ => hMS) (fun z => by omega))
          · show gI x1 6 = nI n; rw [hop.2.2.1]; exact hC.2.2.1
          · show gI x1 5 = nI k; rw [hop.2.1]; exact hwk
          · show gI x1 3 = gI x 3; exact hop.2.2.2.2.2.1 3 (by decide) (by decide)
        · have hr : ¬ (n < 60 ∧ N < 100) := by simpa using z
          refine m3 _ _ (fun hlt => ms_full st (okd hlt) hb (by rw [hnd]; omega) (fun m hm => q_mark_up (VV_marks hvv m hm) (by rw [hnd]; omega)) (by omega) hbk0) (fun _ => ⟨rfl, hbk0⟩)
      · refine ⟨fun z => absurd z ne, fun _ => m_here hy5 hc ?_⟩
        rw [hy]
        refine m_vis_yes hn0 o2 (by omega) v5 hcn hvc ⟨fun z => absurd z (by decide), fun _ => ⟨hin, ?_⟩⟩
        rw [e1]
        exact ⟨fun z => absurd hp0 z, fun _ => ⟨rfl, hbk⟩⟩
    · refine r_shows_no hL0 hno ⟨fun _ => ⟨fun _ => ⟨fun z => absurd z ne, fun _ => m_here hy5 hc ?_⟩, fun z => absurd rfl z⟩, fun z => absurd rfl z⟩
      rw [hy]
      exact m_vis_no hn0 o2 (by omega) v5 hno ⟨fun _ => ⟨rfl, hbk⟩, fun z => absurd rfl z⟩
