/-! Commands that make or replace commits: create, abandon, rebase, write, squash; fork and choose. -/
/-- the reference's rest of a command, from a draft on -/
def MS (y : QX) (n : Nat) (d : QD) (w : Nat) (mk : Nat → Int32) (r : Int32) (x' : QX) : Prop :=
  ∀ y2, qM_d y2 d → qM_of y y2 → gI y2 9 = 0 → gI y2 6 = nI w → (∀ m, m < 3 → gA y2 10 m = mk m) → gI y2 7 = nI n → gI y2 8 = gI y 1 → gI y2 1 = gI y 1 → qw_M_settle y2 (fun y3 => qw_M_done y3 (fun r' y' => r = r' ∧ INV x' y'))
theorem ms_of {x y x' : QX} {n N ch oc : Nat} {par : Nat → Nat} {d : QD} {w : Nat} {mk : Nat → Int32} {r : Int32} (st : ST x y n N ch oc par) (ok : qD_ok d) (hb : q_base x n par d) (hw : w < qD_n d) (hm : ∀ m, m < 3 → q_mark (qD_n d) (mk m)) (out : OUT x n N d w mk ch (-1) (gI x 3) r x') : MS y n d w mk r x' := by
  obtain ⟨hC, hO, hL, hc, ho, hx0, hy5, hx, hy⟩ := st
  intro y2 hd hof h9 h6 h10 h7 h8 h1
  exact m_end hC hO hL hx0 hc (by rw [hx, hy]) ⟨oc, ho, hx⟩ ok hb out hd hof h9 h6 hw h10 hm h7 h8 (by rw [h1]; exact hC.2.2.2.2.1.symm)
theorem ms_full {x y x' : QX} {n N ch oc : Nat} {par : Nat → Nat} {d : QD} {w : Nat} {mk : Nat → Int32} (st : ST x y n N ch oc par) (ok : qD_ok d) (hb : q_base x n par d) (hw : w < qD_n d) (hm : ∀ m, m < 3 → q_mark (qD_n d) (mk m)) (hN : N = 100) (hback : qC_back x x' n) : MS y n d w mk (-3) x' :=
  ms_of st ok hb hw hm (Or.inl ⟨Or.inl hN, rfl, hback⟩)
theorem k_settle {x y x2 : QX} {n N ch oc : Nat} {par : Nat → Nat} {d : QD} {w : Nat} {mk : Nat → Int32} (st : ST x y n N ch oc par) (hd : qC_d x2 d) (ok : qD_ok d) (hb : q_base x n par d) (hof : qC_of x x2) (h6 : gI x2 6 = nI n) (h5 : gI x2 5 = nI w) (hw : w < qD_n d) (h7 : ∀ m, m < 3 → gA x2 7 m = mk m) (hm : ∀ m, m < 3 → q_mark (qD_n d) (mk m)) (h3 : gI x2 3 = gI x 3) {M : Int32 → QX → Prop} (hM : ∀ r x', MS y n d w mk r x' → M r x') : qw_S_keepDraft (gI x2 0) (-1) x2 M := by
  obtain ⟨hC, hO, hL, hc, ho, hx0, hy5, hx, hy⟩ := id st
  have hx20 : gI x2 0 = nI ch := by rw [hof.1.1]; exact hx0
  rw [hx20]
  exact c_keep (x := x) (y := y) hC hO hd ok hb hof h6 h5 hw h7 hm hc h3 (Or.inl rfl) (fun r x' out => hM r x' (ms_of st ok hb hw hm out))
/-- no room for a commit in the reference -/
theorem m_noroom {x y y1 x' : QX} {n N ch oc : Nat} {par : Nat → Nat} {v : Nat → Bool} {w1 : Int32} {mk1 : Nat → Int32} (st : ST x y n N ch oc par) (hop : qM_op y y1 v w1 mk1) (hback : qC_back x x' n) : qw_M_done (sI y1 9 1) (fun r' y' => (-3 : Int32) = r' ∧ INV x' y') := by
  obtain ⟨hC, hO, hL, hc, ho, hx0, hy5, hx, hy⟩ := st
  have h0 := q_d0_M (x := x) hC hop
  have hdM : qM_d (sI y1 9 1) (q_d0 x n par v) := h0
  have h1 := qM_of_op hop
  have hofM : qM_of y (sI y1 9 1) := h1
  refine m_done_F (y2 := sI y1 9 1) hC (q_base_d0 x n par v) hdM hofM hO.2.2.2.1 hO.2.1 (Or.inr rfl) (Or.inr rfl) ?_ ?_ hy5 hc (fun y' hy' => ⟨rfl, inv_back hC hO hL hback hy'⟩)
  · show gI y1 7 = nI n; rw [hop.2.2.2.2.1]; exact hC.2.2.2.1
  · show gI y1 8 = gI y 1; exact hop.2.2.2.2.2.1
theorem qC_of_rep (x : QX) (c t : Nat) : qC_of x (q_repC x c t) := qC_of_fr (qC_fr_rep x c t)
theorem qM_of_rep (x : QX) (c t : Nat) : qM_of x (q_repM x c t) := ⟨⟨rfl, rfl, rfl, rfl⟩, ⟨rfl, rfl, rfl, rfl, rfl, rfl, rfl⟩⟩
theorem qM_of_add (x : QX) (n : Nat) (ch pa : Int32) (g : Nat → Int64) : qM_of x (sB (q_addM x n ch pa) 0 g) := ⟨⟨rfl, rfl, rfl, rfl⟩, ⟨rfl, rfl, rfl, rfl, rfl, rfl, rfl⟩⟩
theorem t_abandon {x y : QX} (h : INV x y) (p : Int32) : qw_S_abandon p x (fun r x' => qw_M_abandon p y (fun r' y' => r = r' ∧ INV x' y')) := by
  obtain ⟨n, N, ch, o, par, st⟩ := INV_st h
  obtain ⟨hC, hO, hL, hc, ho, hx0, hy5, hx, hy⟩ := id st
  obtain ⟨v1, v2, v3, v4, v5, v6, hvv, -, -⟩ := hO.2.2.2.2.1 o ho
  have h100 := hO.2.1
  have o2 := hC.2.1
  have hn0 := hC.2.2.2.1
  refine r_openDraft hx0 hc hx hO.2.2.1 h100 ho (fun x1 hop => ?_)
  have hL0 : gL x1 0 = gB x 1 o := hop.1
  have hbk := inv_back hC hO hL (qC_back_op hC hop) (qM_back_rf hC)
  have hd := q_d0_C hC hop
  have ok := q_d0_ok (x := x) hC hvv.1 hvv.2.1
  refine ⟨fun e => ?_, fun ne => ?_⟩
  · exact ⟨fun z => absurd rfl z, fun _ => ⟨fun _ => ⟨rfl, hbk⟩, fun z => absurd e z⟩⟩
  · rcases q_vis p hvv.2.1 with ⟨c, hcn, rfl, hvc⟩ | hno
    · have hc0 : 0 < c := by
        rcases Nat.eq_zero_or_pos c with z | z
        · subst z; exact absurd rfl ne
        · exact z
      obtain ⟨q1, q2, q3⟩ := hC.2.2.2.2.2.2.2.1 c hc0 hcn
      obtain ⟨k, hk, hwk, hvk⟩ := id hvv.2.2.2.1
      refine r_shows_yes hL0 (by omega) hvc ⟨fun z => absurd z (by decide), fun _ => ⟨fun _ => ?_, fun z => absurd z (by decide)⟩⟩
      refine r_C_parentOf hd.1 ok.2.1 hcn ?_
      rw [hd.2.2.1 c hc0 hcn]
      refine r_replace hd.1 ok.2.1 hcn (show par c < n by omega) ?_
      refine k_settle (w := k) (mk := fun m => gA x 6 (3 * o + m)) (d := qD_rep (q_d0 x n par (q_v (gB x 1 o))) c (par c)) st (qC_rep hd (by omega) (by show par c < 60; omega)) (qD_rep_ok ok hc0 (show par c < n by omega)) (q_base_d0 x n par (q_v (gB x 1 o))) (qC_of_tr (qC_of_op hop) (qC_of_rep _ _ _)) ?_ ?_ hk hop.2.2.2.2.1 (VV_marks hvv) ?_ (fun r x' hMS => ?_)
      · show gI x1 6 = nI n; rw [hop.2.2.1]; exact hC.2.2.1
      · show gI x1 5 = nI k; rw [hop.2.1]; exact hwk
      · show gI x1 3 = gI x 3; exact hop.2.2.2.2.2.1 3 (by decide) (by decide)
      · refine ⟨fun z => absurd z ne, fun _ => m_here hy5 hc ?_⟩
        rw [hy]
        refine m_vis_yes hn0 o2 (by omega) v5 hcn hvc ⟨fun _ => m_here hy5 hc ?_, fun z => absurd z (by decide)⟩
        rw [hy]
        refine m_begin (by omega) v5 (fun y1 hopM => ⟨vp_in_nI (by omega) (by decide), ?_⟩)
        have hdM := q_d0_M (x := x) hC hopM
        rw [nI_clamp (by omega), hdM.2.2.1 c hc0 hcn]
        refine m_replace (by omega) (show par c < 60 by omega) ?_
        refine hMS _ (qM_rep hdM) (qM_of_tr (qM_of_op hopM) (qM_of_rep _ _ _)) hopM.2.2.2.2.2.2.1 ?_ (fun m hm => ?_) ?_ hopM.2.2.2.2.2.1 ?_
        · show gI y1 6 = nI k; rw [hopM.2.2.2.1, v3]; exact hwk
        · show gA y1 10 m = _; rw [hopM.2.2.1 m hm]; exact v4 m hm
        · show gI y1 7 = nI n; rw [hopM.2.2.2.2.1]; exact hn0
        · show gI y1 1 = gI y 1; exact hopM.2.2.2.2.2.2.2.1 1 (by decide) (by decide) (by decide) (by decide)
    · refine r_shows_no hL0 hno ⟨fun _ => ⟨fun z => absurd rfl z, fun _ => ⟨fun z => absurd z ne, fun _ => m_here hy5 hc ?_⟩⟩, fun z => absurd rfl z⟩
      rw [hy]
      exact m_vis_no hn0 o2 (by omega) v5 hno ⟨fun z => absurd rfl z, fun _ => ⟨rfl, hbk⟩⟩
theorem m_com2_loop {y : QX} {n : Nat} {par : Nat → Nat} {post : Int32 → QX → Prop} (hp : ∀ c, 0 < c → c < n → par c < c ∧ gA y 1 c = nI (par c)) (o2 : n ≤ 60) {c : Nat} (hc : c < 60) {p : Int32} : ∀ (f e : Nat), e < n → e < f → post (qz (qm_com par c e)) y → qw_M_comesOf_H2 post f p (nI c) (nI e) y := by
  have hp1 : ∀ z, 0 < z → z < n → par z < z := fun z a b => (hp z a b).1
  intro f
  induction f with
  | zero => intro e _ h; omega
  | succ f ih =>
    intro e h1 h2 h
    rw [qm_com_step hp1 h1] at h
    refine ⟨fun q => ?_, fun q => ?_⟩
    · have q1 := (nI_leI (by omega) (by omega)).mp q
      rw [if_neg (by omega)] at h
      refine ⟨fun q2 => ?_, fun q2 => ?_⟩
      · rw [decide_eq_false (fun z => q2 (by rw [z]))] at h; exact h
      · rw [decide_eq_true ((nI_eq (by omega) (by omega)).mp q2)] at h; exact h
    · have q1 : ¬ e ≤ c := fun z => q ((nI_leI (by omega) (by omega)).mpr z)
      rw [if_pos (by omega)] at h
      refine ⟨vp_in_nI (by omega) (by decide), fun t et => ?_⟩
      rw [nI_clamp (by omega), (hp e (by omega) h1).2] at et
      subst et
      have hpe := hp1 e (by omega) h1
      exact ih _ (by omega) (by omega) h
theorem m_com2 {y : QX} {n : Nat} {par : Nat → Nat} {post : Int32 → QX → Prop} (hp : ∀ c, 0 < c → c < n → par c < c ∧ gA y 1 c = nI (par c)) (o2 : n ≤ 60) {c e : Nat} (hc : c < 60) (he : e < n) (h : post (qz (qm_com par c e)) y) : qw_M_comesOf (nI e) (nI c) y post :=
  m_com2_loop hp o2 hc qFU e he (by unfold qFU; omega) h
theorem t_rebase {x y : QX} (h : INV x y) (p q : Int32) : qw_S_rebase p q x (fun r x' => qw_M_rebase p q y (fun r' y' => r = r' ∧ INV x' y')) := by
  obtain ⟨n, N, ch, o, par, st⟩ := INV_st h
  obtain ⟨hC, hO, hL, hc, ho, hx0, hy5, hx, hy⟩ := id st
  obtain ⟨v1, v2, v3, v4, v5, v6, hvv, -, -⟩ := hO.2.2.2.2.1 o ho
  have h100 := hO.2.1
  have o2 := hC.2.1
  have hn0 := hC.2.2.2.1
  refine r_openDraft hx0 hc hx hO.2.2.1 h100 ho (fun x1 hop => ?_)
  have hL0 : gL x1 0 = gB x 1 o := hop.1
  have hbk0 := qC_back_op hC hop
  have hbk := inv_back hC hO hL hbk0 (qM_back_rf hC)
  have hd := q_d0_C hC hop
  have ok := q_d0_ok (x := x) hC hvv.1 hvv.2.1
  refine ⟨fun e => ?_, fun ne => ?_⟩
  · exact ⟨fun _ => ⟨fun _ => ⟨rfl, hbk⟩, fun z => absurd e z⟩, fun z => absurd rfl z⟩
  · rcases q_vis p hvv.2.1 with ⟨c, hcn, rfl, hvc⟩ | hno
    · have hc0 : 0 < c := by
        rcases Nat.eq_zero_or_pos c with z | z
        · subst z; exact absurd rfl ne
        · exact z
      obtain ⟨q1, q2, q3⟩ := hC.2.2.2.2.2.2.2.1 c hc0 hcn
      obtain ⟨k, hk, hwk, hvk⟩ := id hvv.2.2.2.1
      -- the reference's first checks
      have m1 : ∀ M : Int32 → QX → Prop, (qw_M_here y (fun r6 x5 => qw_M_isVisible r6 q x5 (fun r8 x7 => ((r8 = 0) → M (-1) x7) ∧ (¬ (r8 = 0) → qw_M_comesOf q (nI c) x7 (fun r10 x9 => ((r10 = 0) → vp_in (nI c) 60 ∧ (((¬ (gA x9 1 (nI c).toNatClampNeg) = q) → qw_M_here x9 (fun r12 x11 => qw_M_begin r12 x11 (fun x13 => vp_in (nI c) 60 ∧ (qw_M_fresh (gA x13 0 (nI c).toNatClampNeg) q x13 (fun r15 x14 => ((r15 < 0) → qw_M_done x14 (fun r17 x16 => M r17 x16)) ∧ (¬ (r15 < 0) → vp_in (nI c) 60 ∧ (qw_M_mix r15 (nI c) q (gA x14 1 (nI c).toNatClampNeg) x14 (fun x18 => qw_M_replace (nI c) r15 x18 (fun x19 => qw_M_settle x19 (fun x20 => qw_M_done x20 (fun r22 x21 => M r22 x21))))))))))) ∧ (((gA x9 1 (nI c).toNatClampNeg) = q) → M (-2) x9))) ∧ (¬ (r10 = 0) → M (-1) x9)))))) → qw_M_rebase (nI c) q y M := fun M hM => by
        refine ⟨fun z => absurd z ne, fun _ => m_here hy5 hc ?_⟩
        rw [hy]
        exact m_vis_yes hn0 o2 (by omega) v5 hcn hvc ⟨fun z => absurd z (by decide), fun _ => hM⟩
      refine r_shows_yes hL0 (by omega) hvc ⟨fun z => absurd z (by decide), fun _ => ⟨fun z => absurd z (by decide), fun _ => ?_⟩⟩
      rcases q_vis q hvv.2.1 with ⟨e, hen, rfl, hve⟩ | hno
      · refine r_shows_yes hL0 (by omega) hve ⟨fun z => absurd z (by decide), fun _ => ?_⟩
        refine r_wac hd ok hcn (fun w hw => ?_)
        refine r_S_isIn (by omega) ?_
        rw [hw e (by omega)]
        have ecom : (decide (e < qD_n (q_d0 x n par (q_v (gB x 1 o)))) && qm_com (qD_p (q_d0 x n par (q_v (gB x 1 o)))) c e) = qm_com par c e := by
          rw [decide_eq_true (show e < qD_n (q_d0 x n par (q_v (gB x 1 o))) from hen)]; rfl
        rw [ecom]
        have m2 : ∀ M : Int32 → QX → Prop, (qm_com par c e = true → M (-1) y) → (qm_com par c e = false → par c = e → M (-2) y) → (qm_com par c e = false → ¬ par c = e → qw_M_begin (nI o) y (fun x13 => vp_in (nI c) 60 ∧ (qw_M_fresh (gA x13 0 (nI c).toNatClampNeg) (nI e) x13 (fun r15 x14 => ((r15 < 0) → qw_M_done x14 (fun r17 x16 => M r17 x16)) ∧ (¬ (r15 < 0) → vp_in (nI c) 60 ∧ (qw_M_mix r15 (nI c) (nI e) (gA x14 1 (nI c).toNatClampNeg) x14 (fun x18 => qw_M_replace (nI c) r15 x18 (fun x19 => qw_M_settle x19 (fun x20 => qw_M_done x20 (fun r22 x21 => M r22 x21)))))))))) → qw_M_rebase (nI c) (nI e) y M := fun M ha hb hcM => by
          refine m1 M (m_here hy5 hc ?_)
          rw [hy]
          refine m_vis_yes hn0 o2 (by omega) v5 hen hve ⟨fun z => absurd z (by decide), fun _ => ?_⟩
          refine m_com2 (fun z a b => ⟨(hC.2.2.2.2.2.2.2.1 z a b).1, (hC.2.2.2.2.2.2.2.1 z a b).2.2⟩) o2 (by omega) hen (qz_c (fun z => ⟨vp_in_nI (by omega) (by decide), ?_⟩) (fun z => ha z))
          have e1 : gA y 1 (nI c).toNatClampNeg = nI (par c) := by rw [nI_clamp (by omega)]; exact q3
          rw [e1]
          refine ⟨fun z2 => m_here hy5 hc ?_, fun z2 => hb z ((nI_eq (by omega) (by omega)).mp z2)⟩
          rw [hy]
          exact hcM z (fun z3 => z2 (by rw [z3]))
        refine qz_c (fun hcom => ?_) (fun hcom => ?_)
        · refine r_C_parentOf hd.1 ok.2.1 hcn ?_
          rw [hd.2.2.1 c hc0 hcn]
          refine ⟨fun z => ?_, fun z => ?_⟩
          · have hne : ¬ par c = e := fun z3 => z (by show nI (par c) = nI e; rw [z3])
            -- the reference's rest
            have m3 : ∀ (r : Int32) (x' : QX), (n < 60 → MS y n (qD_add (q_d0 x n par (q_v (gB x 1 o))) c e) k (fun m => gA x 6 (3 * o + m)) r x') → (n = 60 → r = -3 ∧ qC_back x x' n) → qw_M_rebase (nI c) (nI e) y (fun r' y' => r = r' ∧ INV x' y') := fun r x' hMS hfull => by
              refine m2 _ (fun z4 => by rw [hcom] at z4; cases z4) (fun _ z4 => absurd z4 hne) (fun _ _ => ?_)
              refine m_begin (by omega) v5 (fun y1 hopM => ⟨vp_in_nI (by omega) (by decide), ?_⟩)
              have hdM := q_d0_M (x := x) hC hopM
              have hin : vp_in (nI c) 60 := vp_in_nI (by omega) (by decide)
              by_cases h60 : n = 60
              · obtain ⟨hr, hb⟩ := hfull h60
                refine m_fresh_full (by rw [hdM.1]; show nI n = nI 60; rw [h60]) ⟨fun _ => ?_, fun z => absurd (by decide) z⟩
                rw [hr]
                exact m_noroom st hopM hb
              · refine m_fresh (n := n) hdM.1 (by omega) ⟨fun z => absurd z (nI_pos (by omega)), fun _ => ⟨hin, ?_⟩⟩
                have e1 : gA (q_addM y1 n (gA y1 0 (nI c).toNatClampNeg) (nI e)) 1 (nI c).toNatClampNeg = nI (par c) := by
                  rw [nI_clamp (by omega)]
                  show upd (gA y1 1) n _ c = _
                  rw [upd_at, if_neg (by omega)]
                  exact hdM.2.2.1 c hc0 hcn
                rw [e1]
                refine m_mix (by omega) hcn hen (by omega) (m_replace (by omega) (by omega) ?_)
                have hd2 := qM_add hdM ok hc0 hcn (show e < n from hen) (show n < 60 by omega)
                rw [nI_clamp (by omega)]
                refine hMS (by omega) _ hd2 (qM_of_tr (qM_of_op hopM) (qM_of_fr (qM_fr_step _ _ _ _ _ _ _))) ?_ ?_ (fun m hm => ?_) ?_ ?_ ?_
                · exact hopM.2.2.2.2.2.2.1
                · show gI y1 6 = nI k; rw [hopM.2.2.2.1, v3]; exact hwk
                · show gA y1 10 m = _; rw [hopM.2.2.1 m hm]; exact v4 m hm
                · show gI y1 7 = nI n; rw [hopM.2.2.2.2.1]; exact hn0
                · exact hopM.2.2.2.2.2.1
                · show gI y1 1 = gI y 1; exact hopM.2.2.2.2.2.2.2.1 1 (by decide) (by decide) (by decide) (by decide)
            have hb2 : q_base x n par (qD_add (q_d0 x n par (q_v (gB x 1 o))) c e) := q_base_ext (q_base_d0 _ _ _ _) (qD_add_ext _ _ _)
            refine r_room (n := n) (N := N) hd.1 o2 (by rw [hop.2.2.2.2.2.1 4 (by decide) (by decide)]; exact hO.2.2.1) h100 (qz_d (fun z => ?_) (fun z => ?_))
            · have hr : n < 60 ∧ N < 100 := by simpa using z
              refine r_moved (n := n) hd.1 hr.1 hcn hen (show par c < n by omega) (hd.2.2.1 c hc0 hcn) ?_
              refine r_replace (n := n + 1) rfl (by omega) (by omega) (by omega) ?_
              refine k_settle (w := k) (mk := fun m => gA x 6 (3 * o + m)) (d := qD_add (q_d0 x n par (q_v (gB x 1 o))) c e) st (qC_add hd ok hc0 hcn hen hr.1) (qD_add_ok ok hc0 hen hr.1) hb2 (qC_of_tr (qC_of_op hop) (qC_of_tr (qC_of_fr (qC_fr_add _ _ _ _ _)) (qC_of_rep _ _ _))) ?_ ?_ (show k < n + 1 by omega) hop.2.2.2.2.1 (fun m hm => q_mark_up (VV_marks hvv m hm) (show n ≤ n + 1 by omega)) ?_ (fun r x' hMS => m3 r x' (fun _ => hMS) (fun z => by omega))
              · show gI x1 6 = nI n; rw [hop.2.2.1]; exact hC.2.2.1
              · show gI x1 5 = nI k; rw [hop.2.1]; exact hwk
              · show gI x1 3 = gI x 3; exact hop.2.2.2.2.2.1 3 (by decide) (by decide)
            · have hr : ¬ (n < 60 ∧ N < 100) := by simpa using z
              refine m3 _ _ (fun hlt => ms_full st (qD_add_ok ok hc0 hen hlt) hb2 (show k < n + 1 by omega) (fun m hm => q_mark_up (VV_marks hvv m hm) (show n ≤ n + 1 by omega)) (by omega) hbk0) (fun _ => ⟨rfl, hbk0⟩)
          · have heq : par c = e := (nI_eq (by omega) (by omega)).mp z
            exact m2 _ (fun z4 => by rw [hcom] at z4; cases z4) (fun _ _ => ⟨rfl, hbk⟩) (fun _ z4 => absurd heq z4)
        · exact m2 _ (fun _ => ⟨rfl, hbk⟩) (fun z4 => by rw [hcom] at z4; cases z4) (fun z4 => by rw [hcom] at z4; cases z4)
      · refine r_shows_no hL0 hno ⟨fun _ => m1 _ (m_here hy5 hc ?_), fun z => absurd rfl z⟩
        rw [hy]
        exact m_vis_no hn0 o2 (by omega) v5 hno ⟨fun _ => ⟨rfl, hbk⟩, fun z => absurd rfl z⟩
    · refine r_shows_no hL0 hno ⟨fun _ => ⟨fun _ => ⟨fun z => absurd z ne, fun _ => m_here hy5 hc ?_⟩, fun z => absurd rfl z⟩, fun z => absurd rfl z⟩
      rw [hy]
      exact m_vis_no hn0 o2 (by omega) v5 hno ⟨fun _ => ⟨rfl, hbk⟩, fun z => absurd rfl z⟩
