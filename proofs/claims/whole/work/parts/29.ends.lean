/-! How a command ends, on both sides. -/
/-- a commit is added, nowhere visible -/
def qD_put (d : QD) (pa : Nat) (ch : Int32) (k : Nat → Int64) : QD :=
  (qD_n d + 1, (fun c => if c = qD_n d then pa else qD_p d c), (fun c => if c = qD_n d then ch else qD_c d c), k, qD_v d, qD_r d)
/-- t stands in c's stead -/
def qD_rep (d : QD) (c t : Nat) : QD :=
  (qD_n d, qD_p d, qD_c d, qD_k d, (fun e => if e = t then true else if e = c then false else qD_v d e), (fun e => if e = c then some t else qD_r d e))
/-- t is visible -/
def qD_show (d : QD) (t : Nat) : QD := (qD_n d, qD_p d, qD_c d, qD_k d, (fun e => if e = t then true else qD_v d e), qD_r d)
theorem qD_add_eq (d : QD) (y q : Nat) : qD_add d y q = qD_rep (qD_put d q (qD_c d y) (qm_mix (qD_k d) (qD_n d) y q (qD_p d y))) y (qD_n d) := rfl
theorem qD_put_ok {d : QD} (ok : qD_ok d) {pa : Nat} (hp : pa < qD_n d) (hn : qD_n d < 60) (ch : Int32) (k : Nat → Int64) : qD_ok (qD_put d pa ch k) := by
  obtain ⟨o1, o2, o3, o4, o5, o6⟩ := ok
  refine ⟨by show 1 ≤ qD_n d + 1; omega, by show qD_n d + 1 ≤ 60; omega, fun c h1 h2 => ?_, o4, fun c h => ?_, fun c r h => ?_⟩
  · show (if c = qD_n d then pa else qD_p d c) < c
    have h3 : c < qD_n d + 1 := h2
    by_cases e : c = qD_n d
    · rw [if_pos e]; omega
    · rw [if_neg e]; exact o3 c h1 (by omega)
  · have := o5 c h; show c < qD_n d + 1; omega
  · have := o6 c r h; show r < qD_n d + 1; omega
theorem qD_rep_ok {d : QD} (ok : qD_ok d) {c t : Nat} (hc : 0 < c) (ht : t < qD_n d) : qD_ok (qD_rep d c t) := by
  obtain ⟨o1, o2, o3, o4, o5, o6⟩ := ok
  refine ⟨o1, o2, o3, ?_, fun e h => ?_, fun e r h => ?_⟩
  · show (if 0 = t then true else if 0 = c then false else qD_v d 0) = true
    by_cases z : 0 = t
    · rw [if_pos z]
    · rw [if_neg z, if_neg (by omega)]; exact o4
  · show e < qD_n d
    have h : (if e = t then true else if e = c then false else qD_v d e) = true := h
    by_cases z : e = t
    · omega
    · rw [if_neg z] at h
      by_cases z2 : e = c
      · rw [if_pos z2] at h; cases h
      · rw [if_neg z2] at h; exact o5 e h
  · show r < qD_n d
    have h : (if e = c then some t else qD_r d e) = some r := h
    by_cases z : e = c
    · rw [if_pos z] at h; cases h; exact ht
    · rw [if_neg z] at h; exact o6 e r h
theorem qD_show_ok {d : QD} (ok : qD_ok d) {t : Nat} (ht : t < qD_n d) : qD_ok (qD_show d t) := by
  obtain ⟨o1, o2, o3, o4, o5, o6⟩ := ok
  refine ⟨o1, o2, o3, ?_, fun e h => ?_, o6⟩
  · show (if 0 = t then true else qD_v d 0) = true
    by_cases z : 0 = t
    · rw [if_pos z]
    · rw [if_neg z]; exact o4
  · show e < qD_n d
    have h : (if e = t then true else qD_v d e) = true := h
    by_cases z : e = t
    · omega
    · rw [if_neg z] at h; exact o5 e h
theorem q_base_put {x : QX} {n : Nat} {par : Nat → Nat} {d : QD} {pa : Nat} {ch : Int32} {k : Nat → Int64} (h : q_base x n par d) (hk : ∀ i, i < 32 * qD_n d → k i = qD_k d i) : q_base x n par (qD_put d pa ch k) := by
  obtain ⟨b1, b2, b3, b4⟩ := h
  refine ⟨by show n ≤ qD_n d + 1; omega, fun c h1 h2 => ?_, fun c hc => ?_, fun i hi => ?_⟩
  · show (if c = qD_n d then pa else qD_p d c) = _
    rw [if_neg (by omega)]; exact b2 c h1 h2
  · show (if c = qD_n d then ch else qD_c d c) = _
    rw [if_neg (by omega)]; exact b3 c hc
  · show k i = _
    rw [hk i (by omega)]; exact b4 i hi
theorem qC_put {x : QX} {d : QD} (hd : qC_d x d) (ok : qD_ok d) {pa : Nat} {ch : Int32} {g k : Nat → Int64} (hg : ∀ i, i < 32 * (qD_n d + 1) → g i = k i) : qC_d (q_addC x (qD_n d) ch (nI pa) g) (qD_put d pa ch k) := by
  obtain ⟨h1, h2, h3, h4, h5, h6, h7⟩ := hd
  have o1 := ok.1
  refine ⟨rfl, ?_, ?_, ?_, hg, h6, h7⟩
  · show upd (gA x 1) (qD_n d) (nI pa) 0 = -1
    rw [upd_at, if_neg (by omega)]; exact h2
  · intro c hc hcn
    have hcn : c < qD_n d + 1 := hcn
    show upd (gA x 1) (qD_n d) (nI pa) c = nI (if c = qD_n d then pa else qD_p d c)
    rw [upd_at]
    by_cases e : c = qD_n d
    · rw [if_pos e, if_pos e]
    · rw [if_neg e, if_neg e]; exact h3 c hc (by omega)
  · intro c hcn
    have hcn : c < qD_n d + 1 := hcn
    show upd (gA x 2) (qD_n d) ch c = (if c = qD_n d then ch else qD_c d c)
    rw [upd_at]
    by_cases e : c = qD_n d
    · rw [if_pos e, if_pos e]
    · rw [if_neg e, if_neg e]; exact h4 c (by omega)
theorem qC_rep {x : QX} {d : QD} (hd : qC_d x d) {c t : Nat} (hc : c < 60) (ht : t < 60) : qC_d (q_repC x c t) (qD_rep d c t) := by
  obtain ⟨h1, h2, h3, h4, h5, h6, h7⟩ := hd
  refine ⟨h1, h2, h3, h4, h5, fun e he => ?_, fun e he => ?_⟩
  · show qb_t ((gL x 0 &&& (q_bit c ^^^ (-1))) ||| q_bit t) e = (if e = t then true else if e = c then false else qD_v d e)
    rw [qb_rep _ hc ht he, h6 e he]
  · show upd (gA x 8) c (nI t) e = qm_o (if e = c then some t else qD_r d e)
    rw [upd_at]
    by_cases z : e = c
    · rw [if_pos z, if_pos z]; rfl
    · rw [if_neg z, if_neg z]; exact h7 e he
theorem qM_put {x : QX} {d : QD} (hd : qM_d x d) (ok : qD_ok d) {pa : Nat} {ch : Int32} {g k : Nat → Int64} (hg : ∀ i, i < 32 * (qD_n d + 1) → g i = k i) : qM_d (sB (q_addM x (qD_n d) ch (nI pa)) 0 g) (qD_put d pa ch k) := by
  obtain ⟨h1, h2, h3, h4, h5, h6, h7⟩ := hd
  have o1 := ok.1
  refine ⟨rfl, ?_, ?_, ?_, hg, h6, h7⟩
  · show upd (gA x 1) (qD_n d) (nI pa) 0 = -1
    rw [upd_at, if_neg (by omega)]; exact h2
  · intro c hc hcn
    have hcn : c < qD_n d + 1 := hcn
    show upd (gA x 1) (qD_n d) (nI pa) c = nI (if c = qD_n d then pa else qD_p d c)
    rw [upd_at]
    by_cases e : c = qD_n d
    · rw [if_pos e, if_pos e]
    · rw [if_neg e, if_neg e]; exact h3 c hc (by omega)
  · intro c hcn
    have hcn : c < qD_n d + 1 := hcn
    show upd (gA x 0) (qD_n d) ch c = (if c = qD_n d then ch else qD_c d c)
    rw [upd_at]
    by_cases e : c = qD_n d
    · rw [if_pos e, if_pos e]
    · rw [if_neg e, if_neg e]; exact h4 c (by omega)
theorem qM_rep {x : QX} {d : QD} (hd : qM_d x d) {c t : Nat} : qM_d (q_repM x c t) (qD_rep d c t) := by
  obtain ⟨h1, h2, h3, h4, h5, h6, h7⟩ := hd
  refine ⟨h1, h2, h3, h4, h5, fun e he => ?_, fun e he => ?_⟩
  · show upd (upd (gA x 9) c 0) t 1 e = qz (if e = t then true else if e = c then false else qD_v d e)
    rw [upd_rep]
    by_cases z : e = t
    · rw [if_pos z, if_pos z]; rfl
    · rw [if_neg z, if_neg z]
      by_cases z2 : e = c
      · rw [if_pos z2, if_pos z2]; rfl
      · rw [if_neg z2, if_neg z2]; exact h6 e he
  · show upd (gA x 11) c (nI t) e = qm_o (if e = c then some t else qD_r d e)
    rw [upd_at]
    by_cases z : e = c
    · rw [if_pos z, if_pos z]; rfl
    · rw [if_neg z, if_neg z]; exact h7 e he
theorem cpy_congr {g h : Nat → Int64} {n c : Nat} (hc : c < n) (e : ∀ i, i < 32 * n → g i = h i) : ∀ i, i < 32 * (n + 1) → va_cpy g g (32 * c) (32 * n) 32 i = va_cpy h h (32 * c) (32 * n) 32 i := by
  intro i hi
  unfold va_cpy
  by_cases z : 32 * n ≤ i ∧ i < 32 * n + 32
  · rw [if_pos z, if_pos z]; exact e _ (by omega)
  · rw [if_neg z, if_neg z]; exact e i (by omega)
theorem cpy_low (g : Nat → Int64) {n c i : Nat} (hi : i < 32 * n) : va_cpy g g (32 * c) (32 * n) 32 i = g i := pk_cpy_out (Or.inl hi)
/-- the chosen line -/
theorem RL_ch {x y : QX} {N : Nat} (h : RL x y N) : ∃ ch o, ch < 2 ∧ o < N ∧ gI x 0 = nI ch ∧ gI y 5 = nI ch ∧ gA x 0 ch = nI o ∧ gA y 8 ch = nI o := by
  obtain ⟨⟨a, ha, h1, h2⟩, h3, h4⟩ := h
  rcases h4 with ⟨-, -, q⟩ | ⟨-, ⟨b, hb, k1, k2⟩, -, q | q⟩
  · exact ⟨0, a, by omega, ha, q, by rw [h3]; exact q, h1, h2⟩
  · exact ⟨0, a, by omega, ha, q, by rw [h3]; exact q, h1, h2⟩
  · exact ⟨1, b, by omega, hb, q, by rw [h3]; exact q, k1, k2⟩
theorem RL_app {x y x' y' : QX} {N ch : Nat} (h : RL x y N) (hc : ch < 2) (hx : gI x 0 = nI ch) (e1 : gA x' 0 = upd (gA x 0) ch (nI N)) (e2 : gA y' 8 = upd (gA y 8) ch (nI N)) (i0 : gI x' 0 = gI x 0) (i1 : gI x' 1 = gI x 1) (j3 : gI y' 3 = gI y 3) (j4 : gI y' 4 = gI y 4) (j5 : gI y' 5 = gI y 5) : RL x' y' (N + 1) := by
  obtain ⟨⟨a, ha, h1, h2⟩, h3, h4⟩ := h
  refine ⟨?_, by rw [j5, i0]; exact h3, ?_⟩
  · by_cases z : 0 = ch
    · exact ⟨N, by omega, by rw [e1, upd_at, if_pos z], by rw [e2, upd_at, if_pos z]⟩
    · exact ⟨a, by omega, by rw [e1, upd_at, if_neg z]; exact h1, by rw [e2, upd_at, if_neg z]; exact h2⟩
  · rw [j3, j4, i0, i1, e1, e2]
    rcases h4 with ⟨p, q, r⟩ | ⟨p, ⟨b, hb, k1, k2⟩, ⟨o, ho, k3, k4⟩, r⟩
    · have hz : ch = 0 := (nI_eq (by omega) (by decide)).mp (show nI ch = nI 0 by rw [← hx]; exact r)
      exact Or.inl ⟨p, by rw [upd_at, if_neg (by omega)]; exact q, r⟩
    · refine Or.inr ⟨p, ?_, ⟨o, by omega, k3, k4⟩, r⟩
      by_cases z : 1 = ch
      · exact ⟨N, by omega, by rw [upd_at, if_pos z], by rw [upd_at, if_pos z]⟩
      · exact ⟨b, by omega, by rw [upd_at, if_neg z]; exact k1, by rw [upd_at, if_neg z]; exact k2⟩
/-- a settled draft with its pointers placed may be kept -/
theorem vv_settled {d : QD} (ok : qD_ok d) (hor : qm_orph d = none) {w : Nat} {mk : Nat → Int32} (hm : ∀ m, m < 3 → q_mark 60 (mk m)) : VV (qD_n d) (qD_p d) (qD_v d) (nI (qm_pl d w)) (fun m => qm_mk d (mk m)) := by
  obtain ⟨o1, o2, o3, o4, o5, o6⟩ := id ok
  refine ⟨o4, o5, fun c h1 h2 hv => ?_, ⟨qm_pl d w, o5 _ (qm_pl_v ok w), rfl, qm_pl_v ok w⟩, fun m h => ?_⟩
  · have := qm_first_none hor c h1 (by omega)
    cases e : qD_v d (qD_p d c) with
    | true => rfl
    | false => rw [hv, e] at this; cases this
  · rcases hm m h with q | q | ⟨c, hc, q⟩
    · exact Or.inl (by show qm_mk d (mk m) = -1; rw [q]; rfl)
    · exact Or.inr (Or.inl (by show qm_mk d (mk m) = -2; rw [q]; rfl))
    · exact Or.inr (Or.inr ⟨qm_pl d c, o5 _ (qm_pl_v ok c), by show qm_mk d (mk m) = _; rw [q, qm_mk_c (by omega)], qm_pl_v ok c⟩)
/-- how the class's command came out -/
def OUT (x : QX) (n N : Nat) (d : QD) (w : Nat) (mk : Nat → Int32) (ln : Nat) (se lc : Int32) (r : Int32) (x' : QX) : Prop :=
  ((N = 100 ∨ (qm_settle 60 d).1 = false) ∧ r = -3 ∧ qC_back x x' n) ∨
  (N < 100 ∧ (qm_settle 60 d).1 = true ∧ r = nI N ∧ AC x x' N (qm_settle 60 d).2 (gA x 0 ln) se (nI (qm_pl (qm_settle 60 d).2 w)) (fun m => qm_mk (qm_settle 60 d).2 (mk m)) ∧ gA x' 0 = upd (gA x 0) ln (nI N) ∧ gI x' 0 = gI x 0 ∧ gI x' 1 = gI x 1 ∧ gI x' 3 = lc)
theorem q_mark_up {n n' : Nat} {v : Int32} (h : q_mark n v) (hn : n ≤ n') : q_mark n' v := by
  rcases h with q | q | ⟨c, hc, q⟩
  · exact Or.inl q
  · exact Or.inr (Or.inl q)
  · exact Or.inr (Or.inr ⟨c, by omega, q⟩)
theorem c_keep {post : Int32 → QX → Prop} {x y x1 : QX} {n N : Nat} {par : Nat → Nat} {d : QD} {w ln : Nat} {mk : Nat → Int32} {se : Int32} (hC : RC x y n par) (hO : RO x y n N par) (hd : qC_d x1 d) (ok : qD_ok d) (hb : q_base x n par d) (hof : qC_of x x1) (h6 : gI x1 6 = nI n) (h5 : gI x1 5 = nI w) (hw : w < qD_n d) (h7 : ∀ m, m < 3 → gA x1 7 m = mk m) (hm : ∀ m, m < 3 → q_mark (qD_n d) (mk m)) (hl : ln < 2) {lc : Int32} (h3 : gI x1 3 = lc) (h3' : lc = gI x 3 ∨ (N < 100 ∧ (qm_settle 60 d).1 = true))
    (h : ∀ r x', OUT x n N d w mk ln se lc r x' → post r x') : qw_S_keepDraft (nI ln) se x1 post := by
  have hN4 : gI x1 4 = nI N := by rw [hof.1.2.2]; exact hO.2.2.1
  refine r_keep hd ok hN4 hO.2.1 hw h5 (fun m hm2 => by rw [h7 m hm2]; exact hm m hm2) hl (fun hf z d2 he hz hfr => ?_) (fun hlt hs z f hz hfr hff => ?_)
  · refine h _ _ (Or.inl ⟨hf, rfl, ?_⟩)
    rcases h3' with q | ⟨q1, q2⟩
    · refine q_backC hC (q_base_ext hb he) hz (qC_of_tr hof (qC_of_fr hfr)) ?_ (by rw [h6])
      rw [hfr.1 3 (by decide), h3, q]
    · rcases hf with hf | hf
      · omega
      · rw [q2] at hf; cases hf
  · have hof2 := qC_of_tr hof (qC_of_fr hfr)
    refine h _ _ (Or.inr ⟨hlt, hs, rfl, AC_kept hz hof2 (fun m hm2 => by rw [hff m hm2, h7 m hm2]), ?_, hof2.1.1, hof2.1.2.1, ?_⟩)
    · show upd (gA z 0) ln (nI N) = _
      rw [hof2.2.1.1]
    · show gI z 3 = _
      rw [hfr.1 3 (by decide), h3]
theorem m_done_T {post : Int32 → QX → Prop} {y y2 : QX} {N ch : Nat} {d : QD} {w : Int32} {mk : Nat → Int32} (hd : qM_d y2 d) (hof : qM_of y y2) (hN : gI y 2 = nI N) (hlt : N < 100) (h9 : gI y2 9 = 0) (h6 : gI y2 6 = w) (hm : ∀ m, m < 3 → gA y2 10 m = mk m) (hch : gI y 5 = nI ch) (hc : ch < 2) (hj : ∀ o, N ≤ o → o < 100 → gA y 4 o = 0)
    (h : ∀ y', AM y y' N d (gA y 8 ch) (-1) w mk → gA y' 8 = upd (gA y 8) ch (nI N) → gI y' 3 = gI y 3 → gI y' 4 = gI y 4 → gI y' 5 = gI y 5 → gI y' 1 = gI y2 1 → post (nI N) y') : qw_M_done y2 post := by
  have h5 : gI y2 5 = nI ch := by rw [hof.1.2.2.2]; exact hch
  have h8 : gA y2 8 = gA y 8 := hof.2.2.2.2.2.2.2
  refine m_here h5 hc ?_
  refine m_finish (N := N) (v := qD_v d) (by rw [hof.1.1]; exact hN) hlt h9 hd.2.2.2.2.2.1 (fun y3 hf => ⟨fun e => absurd e (nI_pos (by omega)), fun _ => ?_⟩)
  have h53 : gI y3 5 = nI ch := by rw [hf.2.2.2.2.2.2.2.2.1 5 (by decide)]; exact h5
  have h83 : gA y3 8 = gA y 8 := by rw [hf.2.2.2.2.2.2.2.2.2.1 8 (by decide) (by decide) (by decide) (by decide) (by decide)]; exact h8
  rw [h53]
  refine ⟨vp_in_nI hc (by decide), fun y4 e4 => ?_⟩
  rw [nI_clamp (by omega), h83] at e4
  rw [h8] at hf
  have g4 : gA y3 4 = gA y 4 := by rw [hf.2.2.2.2.2.2.2.2.2.1 4 (by decide) (by decide) (by decide) (by decide) (by decide)]; exact hof.2.2.2.1
  refine h y4 (AM_fin hd hof hf h6 hm hj y4 (by rw [e4]; rfl) (fun k a b => by rw [e4, gA_sA, if_neg b]) (by rw [e4]; rfl) (fun o => ?_)) (by rw [e4, gA_sA, if_pos rfl]) ?_ ?_ ?_ ?_
  · have e5 : gA y4 4 = gA y3 4 := by rw [e4]; rfl
    rw [e5]
    by_cases z : o = N
    · rw [if_pos z, g4, z, hj N (Nat.le_refl _) hlt]; rfl
    · rw [if_neg z]
  · rw [e4, gI_sA, hf.2.2.2.2.2.2.2.2.1 3 (by decide)]; exact hof.1.2.1
  · rw [e4, gI_sA, hf.2.2.2.2.2.2.2.2.1 4 (by decide)]; exact hof.1.2.2.1
  · rw [e4, gI_sA, hf.2.2.2.2.2.2.2.2.1 5 (by decide)]; exact hof.1.2.2.2
  · rw [e4, gI_sA, hf.2.2.2.2.2.2.2.2.1 1 (by decide)]
theorem m_done_F {post : Int32 → QX → Prop} {x y y2 : QX} {n N ch : Nat} {par : Nat → Nat} {d : QD} (hC : RC x y n par) (hb : q_base x n par d) (hd : qM_d y2 d) (hof : qM_of y y2) (hN : gI y 2 = nI N) (hle : N ≤ 100) (h9 : gI y2 9 = 0 ∨ gI y2 9 = 1) (hF : N = 100 ∨ gI y2 9 = 1) (h7 : gI y2 7 = nI n) (h8 : gI y2 8 = gI y 1) (hch : gI y 5 = nI ch) (hc : ch < 2) (h : ∀ y', qM_back y y' n → post (-3) y') : qw_M_done y2 post := by
  have h5 : gI y2 5 = nI ch := by rw [hof.1.2.2.2]; exact hch
  refine m_here h5 hc ?_
  refine m_finish_full (N := N) (by rw [hof.1.1]; exact hN) hle h9 hF ⟨fun _ => ?_, fun e => absurd (by decide) e⟩
  refine m_here (ch := ch) h5 hc ?_
  have h53 : gI (sI (sI y2 0 (gI y2 7)) 1 (gI y2 8)) 5 = nI ch := h5
  rw [h53]
  refine ⟨vp_in_nI hc (by decide), fun y4 e4 => ?_⟩
  rw [nI_clamp (by omega), upd_id, sA_id] at e4
  exact h y4 (q_backM hC hb hd hof h7 h8 e4)
/-- the reference's end, with settling -/
theorem m_end {x y x' y1 : QX} {n N ch : Nat} {par : Nat → Nat} {d : QD} {w : Nat} {mk : Nat → Int32} {lc r : Int32} (hC : RC x y n par) (hO : RO x y n N par) (hL : RL x y N) (hch : gI x 0 = nI ch) (hc : ch < 2) (hof8 : gA y 8 ch = gA x 0 ch) (hfi : ∃ o, o < N ∧ gA x 0 ch = nI o) (ok : qD_ok d) (hb : q_base x n par d) (out : OUT x n N d w mk ch (-1) lc r x') (hd : qM_d y1 d) (hof : qM_of y y1) (h9 : gI y1 9 = 0) (h6 : gI y1 6 = nI w) (hw : w < qD_n d) (h10 : ∀ m, m < 3 → gA y1 10 m = mk m) (hm : ∀ m, m < 3 → q_mark (qD_n d) (mk m)) (h7 : gI y1 7 = nI n) (h8 : gI y1 8 = gI y 1) (h1 : gI y1 1 = lc) :
    qw_M_settle y1 (fun y2 => qw_M_done y2 (fun r' y' => r = r' ∧ INV x' y')) := by
  have hch5 : gI y 5 = nI ch := by rw [hL.2.1]; exact hch
  obtain ⟨sok, sext, sor⟩ := qm_settle_ok 60 ok
  have o2 := ok.2.1
  refine m_settle hd ok h9 h6 hw (fun m hm2 => by rw [h10 m hm2]; exact hm m hm2) (fun hs y2 hd2 hfr h92 => ?_) (fun hs y2 hd2 hfr h92 h62 h102 => ?_)
  · rcases out with ⟨-, hr, hback⟩ | ⟨-, q, -⟩
    · refine m_done_F hC (q_base_ext hb sext) hd2 (qM_of_tr hof (qM_of_fr hfr)) hO.2.2.2.1 hO.2.1 (Or.inr h92) (Or.inr h92) (by rw [hfr.1 7 (by decide) (by decide) (by decide)]; exact h7) (by rw [hfr.1 8 (by decide) (by decide) (by decide)]; exact h8) hch5 hc (fun y' hy' => ⟨hr, inv_back hC hO hL hback hy'⟩)
    · rw [hs] at q; cases q
  · rcases out with ⟨hf, hr, hback⟩ | ⟨hlt, -, hr, hac, e0, i0, i1, i3⟩
    · have hN : N = 100 := by
        rcases hf with hf | hf
        · exact hf
        · rw [hs] at hf; cases hf
      exact m_done_F hC (q_base_ext hb sext) hd2 (qM_of_tr hof (qM_of_fr hfr)) hO.2.2.2.1 hO.2.1 (Or.inl h92) (Or.inl hN) (by rw [hfr.1 7 (by decide) (by decide) (by decide)]; exact h7) (by rw [hfr.1 8 (by decide) (by decide) (by decide)]; exact h8) hch5 hc (fun y' hy' => ⟨hr, inv_back hC hO hL hback hy'⟩)
    · refine m_done_T hd2 (qM_of_tr hof (qM_of_fr hfr)) hO.2.2.2.1 hlt h92 h62 (mk := fun m => qm_mk (qm_settle 60 d).2 (mk m)) (fun m hm2 => by rw [h102 m hm2, h10 m hm2]) hch5 hc hO.2.2.2.2.2 (fun y' ham e8 j3 j4 j5 j1 => ⟨hr, ?_⟩)
      rw [hof8] at ham
      have happ := inv_app hC hO hlt sok (q_base_ext hb sext) hac ham (vv_settled sok (sor hs) (fun m hm2 => q_mark_up (hm m hm2) o2)) hfi (by rw [i3, j1, hfr.1 1 (by decide) (by decide) (by decide), h1])
      exact ⟨_, _, _, happ.1, happ.2, RL_app hL hc hch e0 e8 i0 i1 j3 j4 j5⟩
/-- nothing is left to settle -/
theorem qm_settle_no {d : QD} (hor : qm_orph d = none) : qm_settle 60 d = (true, d) := by
  show (match qm_orph d with
    | none => (true, d)
    | some y => _) = _
  rw [hor]
/-- the reference's end without settling, where nothing is to be settled -/
theorem m_end0 {x y x' y1 : QX} {n N ch : Nat} {par : Nat → Nat} {d : QD} {w : Nat} {mk : Nat → Int32} {lc r : Int32} (hC : RC x y n par) (hO : RO x y n N par) (hL : RL x y N) (hch : gI x 0 = nI ch) (hc : ch < 2) (hof8 : gA y 8 ch = gA x 0 ch) (hfi : ∃ o, o < N ∧ gA x 0 ch = nI o) (ok : qD_ok d) (hb : q_base x n par d) (hor : qm_orph d = none) (hwv : qD_v d w = true) (hmv : ∀ m, m < 3 → mk m = -1 ∨ mk m = -2 ∨ ∃ c, c < 60 ∧ mk m = nI c ∧ qD_v d c = true) (out : OUT x n N d w mk ch (-1) lc r x') (hd : qM_d y1 d) (hof : qM_of y y1) (h9 : gI y1 9 = 0) (h6 : gI y1 6 = nI w) (h10 : ∀ m, m < 3 → gA y1 10 m = mk m) (h7 : gI y1 7 = nI n) (h8 : gI y1 8 = gI y 1) (h1 : gI y1 1 = lc) :
    qw_M_done y1 (fun r' y' => r = r' ∧ INV x' y') := by
  have hch5 : gI y 5 = nI ch := by rw [hL.2.1]; exact hch
  unfold OUT at out
  rw [qm_settle_no hor] at out
  dsimp only at out
  have hpl : qm_pl d w = w := qm_pl_vis hwv
  have hmk : ∀ m, m < 3 → qm_mk d (mk m) = mk m := fun m hm => by
    rcases hmv m hm with q | q | ⟨c, hc, q, hv⟩
    · rw [q]; rfl
    · rw [q]; rfl
    · rw [q, qm_mk_c hc, qm_pl_vis hv]
  rcases out with ⟨hf, hr, hback⟩ | ⟨hlt, -, hr, hac, e0, i0, i1, i3⟩
  · have hN : N = 100 := by
      rcases hf with hf | hf
      · exact hf
      · cases hf
    exact m_done_F hC hb hd hof hO.2.2.2.1 hO.2.1 (Or.inl h9) (Or.inl hN) h7 h8 hch5 hc (fun y' hy' => ⟨hr, inv_back hC hO hL hback hy'⟩)
  · refine m_done_T hd hof hO.2.2.2.1 hlt h9 (w := nI (qm_pl d w)) (by rw [hpl]; exact h6) (mk := fun m => qm_mk d (mk m)) (fun m hm2 => by rw [hmk m hm2]; exact h10 m hm2) hch5 hc hO.2.2.2.2.2 (fun y' ham e8 j3 j4 j5 j1 => ⟨hr, ?_⟩)
    rw [hof8] at ham
    have happ := inv_app hC hO hlt ok hb hac ham (vv_settled ok hor (fun m hm2 => by
      rcases hmv m hm2 with q | q | ⟨c, hc, q, -⟩
      · exact Or.inl q
      · exact Or.inr (Or.inl q)
      · exact Or.inr (Or.inr ⟨c, hc, q⟩))) hfi (by rw [i3, j1, h1])
    exact ⟨_, _, _, happ.1, happ.2, RL_app hL hc hch e0 e8 i0 i1 j3 j4 j5⟩
