/-! Opening and keeping, both sides. -/
section CO
variable {x : QX} {N : Nat}
theorem r_O_shownIn {post : Int64 → QX → Prop} (hN : gI x 4 = nI N) (h1 : N ≤ 100) {o : Nat} (ho : o < N) (h : post (gB x 1 o) x) : qw_O_shownIn (nI o) x post := by
  refine r_O_has_in hN h1 ho ⟨fun e => absurd e (by decide), fun _ => ⟨vp_in_nI (by omega) (by decide), ?_⟩⟩
  rw [nI_clamp (by omega)]; exact h
theorem r_O_shownIn_out {post : Int64 → QX → Prop} (hN : gI x 4 = nI N) {p : Int32} (hp : q_out p N) (h : post 0 x) : qw_O_shownIn p x post :=
  r_O_has_out hN hp ⟨fun _ => h, fun e => absurd rfl e⟩
theorem r_O_workingIn {post : Int32 → QX → Prop} (hN : gI x 4 = nI N) (h1 : N ≤ 100) {o : Nat} (ho : o < N) (h : post (gA x 5 o) x) : qw_O_workingIn (nI o) x post := by
  refine r_O_has_in hN h1 ho ⟨fun e => absurd e (by decide), fun _ => ⟨vp_in_nI (by omega) (by decide), ?_⟩⟩
  rw [nI_clamp (by omega)]; exact h
theorem r_O_workingIn_out {post : Int32 → QX → Prop} (hN : gI x 4 = nI N) {p : Int32} (hp : q_out p N) (h : post (-1) x) : qw_O_workingIn p x post :=
  r_O_has_out hN hp ⟨fun _ => h, fun e => absurd rfl e⟩
theorem r_O_first {post : Int32 → QX → Prop} (hN : gI x 4 = nI N) (h1 : N ≤ 100) {o : Nat} (ho : o < N) (h : post (gA x 3 o) x) : qw_O_firstBefore (nI o) x post := by
  refine r_O_has_in hN h1 ho ⟨fun e => absurd e (by decide), fun _ => ⟨vp_in_nI (by omega) (by decide), ?_⟩⟩
  rw [nI_clamp (by omega)]; exact h
theorem r_O_first_out {post : Int32 → QX → Prop} (hN : gI x 4 = nI N) {p : Int32} (hp : q_out p N) (h : post (-1) x) : qw_O_firstBefore p x post :=
  r_O_has_out hN hp ⟨fun _ => h, fun e => absurd rfl e⟩
theorem r_O_second {post : Int32 → QX → Prop} (hN : gI x 4 = nI N) (h1 : N ≤ 100) {o : Nat} (ho : o < N) (h : post (gA x 4 o) x) : qw_O_secondBefore (nI o) x post := by
  refine r_O_has_in hN h1 ho ⟨fun e => absurd e (by decide), fun _ => ⟨vp_in_nI (by omega) (by decide), ?_⟩⟩
  rw [nI_clamp (by omega)]; exact h
theorem r_O_second_out {post : Int32 → QX → Prop} (hN : gI x 4 = nI N) {p : Int32} (hp : q_out p N) (h : post (-1) x) : qw_O_secondBefore p x post :=
  r_O_has_out hN hp ⟨fun _ => h, fun e => absurd rfl e⟩
theorem q_3o (o m : Nat) : nI o * (3 : Int32) + nI m = nI (3 * o + m) := by
  rw [q_l3, pk_mul, nI_add]
  congr 1
  omega
theorem q_o3 (o m : Nat) : (3 : Int32) * nI o + nI m = nI (3 * o + m) := by
  rw [q_l3, pk_mul, nI_add]
theorem q_60o (o m : Nat) : (60 : Int32) * nI o + nI m = nI (60 * o + m) := by
  rw [q_l60, pk_mul, nI_add]
theorem r_O_markIn {post : Int32 → QX → Prop} (hN : gI x 4 = nI N) (h1 : N ≤ 100) {o m : Nat} (ho : o < N) (hm : m < 3) (h : post (gA x 6 (3 * o + m)) x) : qw_O_markIn (nI o) (nI m) x post := by
  refine r_O_has_in hN h1 ho ⟨fun e => absurd e (by decide), fun _ => r_S_isMark_in hm ⟨fun e => absurd e (by decide), fun _ => ?_⟩⟩
  rw [q_3o]
  refine ⟨vp_in_nI (by omega) (by decide), ?_⟩
  rw [nI_clamp (by omega)]; exact h
theorem r_O_markIn_out {post : Int32 → QX → Prop} (hN : gI x 4 = nI N) (h1 : N ≤ 100) {p q : Int32} (hp : q_out p N ∨ q_out q 3) (h : post (-1) x) : qw_O_markIn p q x post := by
  rcases q_has (p := p) (n := N) (by omega) with z | ⟨j, hj, rfl⟩
  · exact r_O_has_out hN z ⟨fun _ => h, fun e => absurd rfl e⟩
  · rcases hp with hp | hp
    · rcases hp with hp | hp
      · exact absurd hp (nI_pos (by omega))
      · exact absurd hp (nI_ge hj (by omega))
    · exact r_O_has_in hN h1 hj ⟨fun e => absurd e (by decide), fun _ => r_S_isMark_out hp ⟨fun _ => h, fun e => absurd rfl e⟩⟩
theorem r_fill_loop {post : QX → Prop} {v3 : Int32} (h3 : v3 = 60) (h : ∀ f : Nat → Int32, (∀ c, c < 60 → f c = -1) → post (sA x 8 f)) : ∀ (fu k : Nat) (f : Nat → Int32), k ≤ 60 → 60 - k < fu → (∀ j, j < k → f j = -1) → qw_A_fill_H5 post fu (-1) (nI k) v3 (sA x 8 f) := by
  subst h3
  intro fu
  induction fu with
  | zero => intro k f _ h1; omega
  | succ fu ih =>
    intro k f h1 h2 hf
    refine ⟨fun e => ?_, fun e => ?_⟩
    · have e1 := (nI_leI (by decide) (by omega)).mp (show nI 60 ≤ nI k from e)
      exact h f (fun c hc => hf c (by omega))
    · have e1 : ¬ 60 ≤ k := fun q => e ((nI_leI (by decide) (by omega)).mpr q)
      refine ⟨vp_in_nI (by omega) (by decide), fun x1 ex => ?_⟩
      rw [ex, gA_sA, if_pos rfl, sA_sA, nI_clamp (by omega)]
      show qw_A_fill_H5 post fu (-1) (nI k + 1) _ _
      rw [nI_1]
      refine ih (k + 1) _ (by omega) (by omega) (fun j hj => ?_)
      rw [upd_at]
      by_cases z : j = k
      · rw [if_pos z]
      · rw [if_neg z]; exact hf j (by omega)
theorem r_start {post : QX → Prop} (h : ∀ f : Nat → Int32, (∀ c, c < 60 → f c = -1) → post (sI (sA x 8 f) 6 (gI x 2))) : qw_D_start x post := by
  have k := r_fill_loop (x := x) (post := fun x1 => ∀ x2 : QX, x2 = sI x1 6 (gI x1 2) → post x2) rfl (fun f hf x2 e2 => by rw [e2]; exact h f hf) qFU 0 (gA x 8) (by omega) (by unfold qFU; omega) (fun j hj => by omega)
  rw [sA_id] at k
  exact k
/-- the draft is opened: view L, working w, marks mk -/
def qC_op (x x' : QX) (L : Int64) (w : Int32) (mk : Nat → Int32) : Prop :=
  gL x' 0 = L ∧ gI x' 5 = w ∧ gI x' 6 = gI x 2 ∧ (∀ c, c < 60 → gA x' 8 c = -1) ∧ (∀ m, m < 3 → gA x' 7 m = mk m) ∧ (∀ k, k ≠ 5 → k ≠ 6 → gI x' k = gI x k) ∧ (∀ k, k ≠ 7 → k ≠ 8 → gA x' k = gA x k) ∧ (∀ k, gB x' k = gB x k)
theorem q_opened {f8 f7 : Nat → Int32} {L : Int64} {w : Int32} {mk : Nat → Int32} (h8 : ∀ c, c < 60 → f8 c = -1) (h7 : ∀ m, m < 3 → f7 m = mk m) : qC_op x (sA (sI (sL (sI (sA x 8 f8) 6 (gI x 2)) 0 L) 5 w) 7 f7) L w mk := by
  refine ⟨rfl, rfl, rfl, h8, h7, fun k a b => ?_, fun k a b => ?_, fun k => rfl⟩
  · show (if k = 5 then _ else if k = 6 then _ else gI x k) = _
    rw [if_neg a, if_neg b]
  · show (if k = 7 then _ else if k = 8 then _ else gA x k) = _
    rw [if_neg a, if_neg b]
theorem r_openm_loop {post : QX → Prop} {z : QX} (hN : gI z 4 = nI N) (h1 : N ≤ 100) {o : Nat} (ho : o < N) (h : ∀ f : Nat → Int32, (∀ m, m < 3 → f m = gA z 6 (3 * o + m)) → post (sA z 7 f)) : ∀ (fu k : Nat) (f : Nat → Int32), k ≤ 3 → 3 - k < fu → (∀ j, j < k → f j = gA z 6 (3 * o + j)) → qw_D_open_H24 post fu (nI o) (nI k) (sA z 7 f) := by
  intro fu
  induction fu with
  | zero => intro k f _ h2; omega
  | succ fu ih =>
    intro k f h2 h3 hf
    refine ⟨fun e => ?_, fun e => ?_⟩
    · have e1 := (nI_leI (by decide) (by omega)).mp (show nI 3 ≤ nI k from e)
      exact h f (fun c hc => hf c (by omega))
    · have e1 : ¬ 3 ≤ k := fun q => e ((nI_leI (by decide) (by omega)).mpr q)
      refine r_O_markIn (N := N) (by exact hN) h1 ho (by omega) ⟨vp_in_nI (by omega) (by decide), fun x1 ex => ?_⟩
      rw [ex, gA_sA, if_pos rfl, sA_sA, nI_clamp (by omega)]
      show qw_D_open_H24 post fu (nI o) (nI k + 1) _
      rw [nI_1]
      refine ih (k + 1) _ (by omega) (by omega) (fun j hj => ?_)
      rw [upd_at]
      by_cases q : j = k
      · rw [if_pos q, q]; rfl
      · rw [if_neg q]; exact hf j (by omega)
theorem r_open {post : QX → Prop} (hN : gI x 4 = nI N) (h1 : N ≤ 100) {o : Nat} (ho : o < N) (h : ∀ x', qC_op x x' (gB x 1 o) (gA x 5 o) (fun m => gA x 6 (3 * o + m)) → post x') : qw_D_open (nI o) x post := by
  refine r_start (fun f8 h8 => ?_)
  refine r_O_shownIn (N := N) (by exact hN) h1 ho ?_
  intro x4 e4
  refine r_O_workingIn (N := N) (by rw [e4]; exact hN) h1 ho ?_
  intro x7 e7
  have hx7 : x7 = sI (sL (sI (sA x 8 f8) 6 (gI x 2)) 0 (gB x 1 o)) 5 (gA x 5 o) := by rw [e7, e4]; rfl
  have k := r_openm_loop (z := x7) (N := N) (by rw [hx7]; exact hN) h1 ho (post := post) (fun f7 h7 => by
    rw [hx7]
    refine h _ (q_opened h8 (fun m hm => ?_))
    rw [h7 m hm, hx7]; rfl) qFU 0 (gA x7 7) (by omega) (by unfold qFU; omega) (fun j hj => by omega)
  rw [sA_id] at k
  exact k
def q_jm (o a b : Int32) : Int32 := if a = o then b else if b = o then a else if b = a then a else -2
theorem r_jm {post : Int32 → QX → Prop} {z : QX} {o a b : Int32} (h : post (q_jm o a b) z) : qw_D_joinedMark o a b z post := by
  unfold q_jm at h
  refine ⟨fun e => ⟨fun e2 => ?_, fun e2 => ⟨fun e3 => ?_, fun e3 => ?_⟩⟩, fun e => ?_⟩
  · rw [if_neg e, if_pos e2] at h; exact h
  · rw [if_neg e, if_neg e2, if_neg e3] at h; exact h
  · rw [if_neg e, if_neg e2, if_pos e3] at h; exact h
  · rw [if_pos e] at h; exact h
theorem r_openj_loop {post : QX → Prop} {z : QX} (hN : gI z 4 = nI N) (h1 : N ≤ 100) {o a b : Nat} (ho : o < N) (ha : a < N) (hb : b < N) {v5 v7 : Int64} {v9 : Int32} (h : ∀ f : Nat → Int32, (∀ m, m < 3 → f m = q_jm (gA z 6 (3 * o + m)) (gA z 6 (3 * a + m)) (gA z 6 (3 * b + m))) → post (sA z 7 f)) : ∀ (fu k : Nat) (f : Nat → Int32), k ≤ 3 → 3 - k < fu → (∀ j, j < k → f j = q_jm (gA z 6 (3 * o + j)) (gA z 6 (3 * a + j)) (gA z 6 (3 * b + j))) → qw_D_openJoined_H79 post fu (nI o) (nI a) (nI b) v5 v7 v9 (nI k) (sA z 7 f) := by
  intro fu
  induction fu with
  | zero => intro k f _ h2; omega
  | succ fu ih =>
    intro k f h2 h3 hf
    refine ⟨fun e => ?_, fun e => ?_⟩
    · have e1 := (nI_leI (by decide) (by omega)).mp (show nI 3 ≤ nI k from e)
      exact h f (fun c hc => hf c (by omega))
    · have e1 : ¬ 3 ≤ k := fun q => e ((nI_leI (by decide) (by omega)).mpr q)
      refine r_O_markIn (N := N) (by exact hN) h1 ho (by omega) (r_O_markIn (N := N) (by exact hN) h1 ha (by omega) (r_O_markIn (N := N) (by exact hN) h1 hb (by omega) (r_jm ⟨vp_in_nI (by omega) (by decide), fun x1 ex => ?_⟩)))
      rw [ex, gA_sA, if_pos rfl, sA_sA, nI_clamp (by omega)]
      show qw_D_openJoined_H79 post fu (nI o) (nI a) (nI b) v5 v7 v9 (nI k + 1) _
      rw [nI_1]
      refine ih (k + 1) _ (by omega) (by omega) (fun j hj => ?_)
      rw [upd_at]
      by_cases q : j = k
      · rw [if_pos q, q]; rfl
      · rw [if_neg q]; exact hf j (by omega)
theorem r_openj {post : QX → Prop} (hN : gI x 4 = nI N) (h1 : N ≤ 100) {o a b : Nat} (ho : o < N) (ha : a < N) (hb : b < N) (h : ∀ x', qC_op x x' ((gB x 1 a &&& gB x 1 b) ||| ((gB x 1 a ||| gB x 1 b) &&& (gB x 1 o ^^^ (-1)))) (if gA x 5 a = gA x 5 o then gA x 5 b else gA x 5 a) (fun m => q_jm (gA x 6 (3 * o + m)) (gA x 6 (3 * a + m)) (gA x 6 (3 * b + m))) → post x') : qw_D_openJoined (nI o) (nI a) (nI b) x post := by
  refine r_start (fun f8 h8 => ?_)
  refine r_O_shownIn (N := N) (by exact hN) h1 ha (r_O_shownIn (N := N) (by exact hN) h1 hb (r_O_shownIn (N := N) (by exact hN) h1 ho ?_))
  intro x4 e4
  have hN4 : gI x4 4 = nI N := by rw [e4]; exact hN
  refine r_O_workingIn (N := N) hN4 h1 ha (r_O_workingIn (N := N) hN4 h1 ho ?_)
  have h5 : gA x4 5 = gA x 5 := by rw [e4]; rfl
  rw [h5]
  have fin : ∀ (w : Int32) (x7 : QX), x7 = sI x4 5 w → w = (if gA x 5 a = gA x 5 o then gA x 5 b else gA x 5 a) → qw_D_openJoined_H79 post qFU (nI o) (nI a) (nI b) (gB (sI (sA x 8 f8) 6 (gI x 2)) 1 a) (gB (sI (sA x 8 f8) 6 (gI x 2)) 1 b) (gA x 5 a) (0 : Int32) x7 := fun w x7 e7 ew => by
    have hx7 : x7 = sI (sL (sI (sA x 8 f8) 6 (gI x 2)) 0 ((gB x 1 a &&& gB x 1 b) ||| ((gB x 1 a ||| gB x 1 b) &&& (gB x 1 o ^^^ (-1))))) 5 w := by rw [e7, e4]; rfl
    have k := r_openj_loop (z := x7) (N := N) (by rw [hx7]; exact hN) h1 ho ha hb (v5 := gB (sI (sA x 8 f8) 6 (gI x 2)) 1 a) (v7 := gB (sI (sA x 8 f8) 6 (gI x 2)) 1 b) (v9 := gA x 5 a) (post := post) (fun f7 h7 => by
      rw [hx7]
      rw [← ew] at h
      refine h _ (q_opened h8 (fun m hm => ?_))
      rw [h7 m hm, hx7]; rfl) qFU 0 (gA x7 7) (by omega) (by unfold qFU; omega) (fun j hj => by omega)
    rw [sA_id] at k
    exact k
  refine ⟨fun q => ?_, fun q => ?_⟩
  · intro x7 e7
    exact fin _ x7 e7 (by rw [if_neg q])
  · refine r_O_workingIn (N := N) hN4 h1 hb ?_
    intro x7 e7
    rw [h5] at e7
    exact fin _ x7 e7 (by rw [if_pos q])
/-- an operation is added -/
def q_opC (x : QX) (N : Nat) (fi se : Int32) : QX := sA (sA (sB (sA (sA (sI x 4 (nI (N + 1))) 3 (upd (gA x 3) N fi)) 4 (upd (gA x 4) N se)) 1 (vp_updL (gB x 1) N (gL x 0))) 5 (upd (gA x 5) N (gI x 5))) 6 (va_cpy (gA x 7) (gA x 6) 0 (3 * N) 3)
theorem r_add {post : Int32 → QX → Prop} {fi se : Int32} (hN : gI x 4 = nI N) (h1 : N < 100) (h : post (nI N) (q_opC x N fi se)) : qw_O_add fi se x post := by
  refine r_O_isFull hN (by omega) (qz_c (fun _ => ?_) (fun e => ?_))
  · intro t et
    rw [hN] at et
    subst et
    intro x1 e1
    have hin : vp_in (nI N) 100 := vp_in_nI h1 (by decide)
    refine ⟨hin, fun x2 e2 => ⟨hin, fun x3 e3 => ⟨hin, fun x4 e4 => ⟨hin, fun x5 e5 => ?_⟩⟩⟩⟩
    have e3N : nI N * (3 : Int32) = nI (3 * N) := by rw [q_l3, pk_mul, Nat.mul_comm]
    rw [e3N]
    refine ⟨by decide, nI_pos (by omega), by decide, by decide, ?_, fun x6 e6 => ?_⟩
    · rw [nI_clamp (by omega)]; show 3 * N + 3 ≤ 300; omega
    · have : x6 = q_opC x N fi se := by
        rw [e6, e5, e4, e3, e2, e1, hN, q_l1, nI_add, nI_clamp (by omega), nI_clamp (by omega)]
        rfl
      rw [this]
      exact h
  · simp at e; omega
theorem qC_d_of {z z' : QX} {d : QD} (hd : qC_d z d) (h2 : gI z' 2 = gI z 2) (a1 : gA z' 1 = gA z 1) (a2 : gA z' 2 = gA z 2) (a8 : gA z' 8 = gA z 8) (b0 : gB z' 0 = gB z 0) (l0 : gL z' 0 = gL z 0) : qC_d z' d := by
  unfold qC_d at hd ⊢
  rw [h2, a1, a2, a8, b0, l0]; exact hd
/-- what a kept draft leaves -/
def q_keptC (z : QX) (d : QD) (w : Nat) (f : Nat → Int32) (N ln : Nat) (se : Int32) : QX :=
  sA (q_opC (sA (sI z 5 (nI (qm_pl d w))) 7 f) N (gA z 0 ln) se) 0 (upd (gA z 0) ln (nI N))
theorem r_keep {post : Int32 → QX → Prop} {d : QD} {w ln : Nat} {se : Int32} (hd : qC_d x d) (ok : qD_ok d) (hN : gI x 4 = nI N) (h1 : N ≤ 100) (hw : w < qD_n d) (h5 : gI x 5 = nI w) (hg : ∀ m, m < 3 → q_mark (qD_n d) (gA x 7 m)) (hl : ln < 2)
    (hF : (N = 100 ∨ (qm_settle 60 d).1 = false) → ∀ z d2, qD_ext d d2 → qC_d z d2 → qC_fr x z → post (-3) (sI z 2 (gI x 6)))
    (hT : N < 100 → (qm_settle 60 d).1 = true → ∀ z f, qC_d z (qm_settle 60 d).2 → qC_fr x z → (∀ m, m < 3 → f m = qm_mk (qm_settle 60 d).2 (gA x 7 m)) → post (nI N) (q_keptC z (qm_settle 60 d).2 w f N ln se)) : qw_S_keepDraft (nI ln) se x post := by
  obtain ⟨sok, sext, -⟩ := qm_settle_ok 60 ok
  refine r_O_isFull hN h1 (qz_d (fun e => ?_) (fun e => ?_))
  · intro x3 e3
    rw [e3]
    exact hF (Or.inl (by simpa using e)) x d (qD_ext_rf d) hd (qC_fr_rf x)
  · have hlt : N < 100 := by have : ¬ N = 100 := by simpa using e
                             omega
    refine r_settle hd ok (fun z hz hfr => qz_d (fun e2 => ?_) (fun e2 => ?_))
    · have h5z : gI z 5 = nI w := by rw [hfr.1 5 (by decide)]; exact h5
      have h7z : gA z 7 = gA x 7 := hfr.2.1 7 (by decide) (by decide) (by decide)
      refine r_ptr hz sok (Nat.lt_of_lt_of_le hw sext.1) h5z (fun m hm => ?_) (fun f hf => ?_)
      · rw [h7z]
        rcases hg m hm with q | q | ⟨c, hc, q⟩
        · exact Or.inl q
        · exact Or.inr (Or.inl q)
        · exact Or.inr (Or.inr ⟨c, Nat.lt_of_lt_of_le hc sext.1, q⟩)
      · have hin : vp_in (nI ln) 2 := vp_in_nI hl (by decide)
        refine ⟨hin, ?_⟩
        rw [nI_clamp (by omega)]
        refine r_add (N := N) (by show gI z 4 = _; rw [hfr.1 4 (by decide)]; exact hN) hlt ⟨hin, fun x9 e9 => ?_⟩
        rw [e9]
        exact hT hlt e2 z f hz hfr (fun m hm => by rw [hf m hm, h7z])
    · intro x3 e3
      rw [e3, hfr.1 6 (by decide)]
      exact hF (Or.inr e2) z _ sext hz hfr
end CO
section MO
variable {y : QX} {N : Nat}
theorem m_here {post : Int32 → QX → Prop} {ch : Nat} (h5 : gI y 5 = nI ch) (hc : ch < 2) (h : post (gA y 8 ch) y) : qw_M_here y post := by
  unfold qw_M_here
  rw [h5, nI_clamp (by omega)]
  exact ⟨vp_in_nI hc (by decide), h⟩
def qM_op (y y' : QX) (v : Nat → Bool) (w : Int32) (mk : Nat → Int32) : Prop :=
  (∀ c, c < 60 → gA y' 9 c = qz (v c)) ∧ (∀ c, c < 60 → gA y' 11 c = -1) ∧ (∀ m, m < 3 → gA y' 10 m = mk m) ∧ gI y' 6 = w ∧ gI y' 7 = gI y 0 ∧ gI y' 8 = gI y 1 ∧ gI y' 9 = 0 ∧ (∀ k, k ≠ 6 → k ≠ 7 → k ≠ 8 → k ≠ 9 → gI y' k = gI y k) ∧ (∀ k, k ≠ 9 → k ≠ 10 → k ≠ 11 → gA y' k = gA y k) ∧ (∀ k, gB y' k = gB y k)
theorem m_begin2 {post : QX → Prop} {z : QX} {o : Nat} (ho : o < 100) (h : ∀ f : Nat → Int32, (∀ m, m < 3 → f m = gA z 6 (3 * o + m)) → post (sI (sI (sI (sI (sA z 10 f) 6 (gA z 7 o)) 7 (gI z 0)) 8 (gI z 1)) 9 0)) : ∀ (fu k : Nat) (f : Nat → Int32), k ≤ 3 → 3 - k < fu → (∀ j, j < k → f j = gA z 6 (3 * o + j)) → qw_M_begin_H40 post fu (nI o) (nI k) (sA z 10 f) := by
  intro fu
  induction fu with
  | zero => intro k f _ h2; omega
  | succ fu ih =>
    intro k f h2 h3 hf
    refine ⟨fun e => ?_, fun e => ?_⟩
    · have e1 := (nI_leI (by decide) (by omega)).mp (show nI 3 ≤ nI k from e)
      refine ⟨vp_in_nI ho (by decide), fun x1 e1 x2 e2 x3 e3 x4 e4 => ?_⟩
      rw [e4, e3, e2, e1, nI_clamp (by omega)]
      exact h f (fun c hc => hf c (by omega))
    · have e1 : ¬ 3 ≤ k := fun q => e ((nI_leI (by decide) (by omega)).mpr q)
      rw [q_o3]
      refine ⟨vp_in_nI (by omega) (by decide), vp_in_nI (by omega) (by decide), fun x1 ex => ?_⟩
      rw [ex, gA_sA, if_pos rfl, sA_sA, nI_clamp (by omega), nI_clamp (by omega)]
      show qw_M_begin_H40 post fu (nI o) (nI k + 1) _
      rw [nI_1]
      refine ih (k + 1) _ (by omega) (by omega) (fun j hj => ?_)
      rw [upd_at]
      by_cases q : j = k
      · rw [if_pos q, q]; rfl
      · rw [if_neg q]; exact hf j (by omega)
theorem m_begin1 {post : QX → Prop} {z : QX} {o : Nat} {v : Nat → Bool} (ho : o < 100) (hv : ∀ c, c < 60 → gA z 5 (60 * o + c) = qz (v c)) (h : ∀ f g : Nat → Int32, (∀ c, c < 60 → f c = qz (v c)) → (∀ c, c < 60 → g c = -1) → qw_M_begin_H40 post qFU (nI o) (nI 0) (sA (sA z 9 f) 11 g)) : ∀ (fu k : Nat) (f g : Nat → Int32), k ≤ 60 → 60 - k < fu → (∀ j, j < k → f j = qz (v j)) → (∀ j, j < k → g j = -1) → qw_M_begin_H2 post fu (nI o) (nI k) (sA (sA z 9 f) 11 g) := by
  intro fu
  induction fu with
  | zero => intro k f g _ h2; omega
  | succ fu ih =>
    intro k f g h2 h3 hf hg
    refine ⟨fun e => ?_, fun e => ?_⟩
    · have e1 := (nI_leI (by decide) (by omega)).mp (show nI 60 ≤ nI k from e)
      exact h f g (fun c hc => hf c (by omega)) (fun c hc => hg c (by omega))
    · have e1 : ¬ 60 ≤ k := fun q => e ((nI_leI (by decide) (by omega)).mpr q)
      rw [q_60o]
      refine ⟨vp_in_nI (by omega) (by decide), vp_in_nI (by omega) (by decide), fun x1 ex => ⟨vp_in_nI (by omega) (by decide), fun x2 e2 => ?_⟩⟩
      have hval : gA (sA (sA z 9 f) 11 g) 5 (nI (60 * o + k)).toNatClampNeg = qz (v k) := by
        rw [nI_clamp (by omega)]; exact hv k (by omega)
      rw [hval, qz_nar, nI_clamp (by omega)] at ex
      have hx2 : x2 = sA (sA z 9 (upd f k (qz (v k)))) 11 (upd g k (-1)) := by
        have hA : ∀ (u : QX) (f1 f2 g1 g2 : Nat → Int32), sA (sA (sA (sA u 9 f1) 11 g1) 9 f2) 11 g2 = sA (sA u 9 f2) 11 g2 := by
          intro u f1 f2 g1 g2
          unfold sA
          congr 1
          congr 1
          congr 1
          funext j
          unfold va_up
          by_cases a : j = 11
          · simp [a]
          · by_cases b : j = 9
            · simp [a, b]
            · simp [a, b]
        rw [e2, ex, nI_clamp (by omega)]
        exact hA z f (upd f k (qz (v k))) g (upd g k (-1))
      rw [hx2]
      show qw_M_begin_H2 post fu (nI o) (nI k + 1) _
      rw [nI_1]
      refine ih (k + 1) _ _ (by omega) (by omega) (fun j hj => ?_) (fun j hj => ?_)
      · rw [upd_at]
        by_cases q : j = k
        · rw [if_pos q, q]
        · rw [if_neg q]; exact hf j (by omega)
      · rw [upd_at]
        by_cases q : j = k
        · rw [if_pos q]
        · rw [if_neg q]; exact hg j (by omega)
theorem m_begin {post : QX → Prop} {o : Nat} {v : Nat → Bool} (ho : o < 100) (hv : ∀ c, c < 60 → gA y 5 (60 * o + c) = qz (v c)) (h : ∀ y', qM_op y y' v (gA y 7 o) (fun m => gA y 6 (3 * o + m)) → post y') : qw_M_begin (nI o) y post := by
  have k := m_begin1 (z := y) (post := post) ho hv (fun f g hf hg => by
    have k2 := m_begin2 (z := sA (sA y 9 f) 11 g) (post := post) ho (fun f3 h3 => h _ (by
      refine ⟨hf, hg, h3, rfl, rfl, rfl, rfl, fun k a b c d => ?_, fun k a b c => ?_, fun k => rfl⟩
      · show (if k = 9 then _ else if k = 8 then _ else if k = 7 then _ else if k = 6 then _ else gI y k) = _
        rw [if_neg d, if_neg c, if_neg b, if_neg a]
      · show (if k = 10 then _ else if k = 11 then _ else if k = 9 then _ else gA y k) = _
        rw [if_neg b, if_neg c, if_neg a])) qFU 0 (gA (sA (sA y 9 f) 11 g) 10) (by omega) (by unfold qFU; omega) (fun j hj => by omega)
    rw [sA_id] at k2
    exact k2) qFU 0 (gA y 9) (gA y 11) (by omega) (by unfold qFU; omega) (fun j hj => by omega) (fun j hj => by omega)
  have e : sA (sA y 9 (gA y 9)) 11 (gA y 11) = y := by rw [sA_id y 9, sA_id y 11]
  rw [e] at k
  exact k
/-- what finish leaves -/
def qM_fin (y y' : QX) (N : Nat) (fi se : Int32) (v : Nat → Bool) : Prop :=
  gI y' 2 = nI (N + 1) ∧ gA y' 2 = upd (gA y 2) N fi ∧ gA y' 3 = upd (gA y 3) N se ∧ (∀ i, i < 60 * N → gA y' 5 i = gA y 5 i) ∧ (∀ c, c < 60 → gA y' 5 (60 * N + c) = qz (v c)) ∧ (∀ i, i < 3 * N → gA y' 6 i = gA y 6 i) ∧ (∀ m, m < 3 → gA y' 6 (3 * N + m) = gA y 10 m) ∧ gA y' 7 = upd (gA y 7) N (gI y 6) ∧ (∀ k, k ≠ 2 → gI y' k = gI y k) ∧ (∀ k, k ≠ 2 → k ≠ 3 → k ≠ 5 → k ≠ 6 → k ≠ 7 → gA y' k = gA y k) ∧ (∀ k, gB y' k = gB y k)
theorem m_fin2 {post : Int32 → QX → Prop} {z : QX} {p1 p2 : Int32} (hN : N < 100) (h : ∀ f : Nat → Int32, (∀ i, i < 3 * N → f i = gA z 6 i) → (∀ m, m < 3 → f (3 * N + m) = gA z 10 m) → post (nI N) (sA (sA z 6 f) 7 (upd (gA z 7) N (gI z 6)))) : ∀ (fu k : Nat) (f : Nat → Int32), k ≤ 3 → 3 - k < fu → (∀ i, i < 3 * N → f i = gA z 6 i) → (∀ m, m < k → f (3 * N + m) = gA z 10 m) → qw_M_finish_H102 post fu p1 p2 (nI N) (nI k) (sA z 6 f) := by
  intro fu
  induction fu with
  | zero => intro k f _ h2; omega
  | succ fu ih =>
    intro k f h2 h3 hf hg
    refine ⟨fun e => ?_, fun e => ?_⟩
    · have e1 := (nI_leI (by decide) (by omega)).mp (show nI 3 ≤ nI k from e)
      refine ⟨vp_in_nI hN (by decide), fun x1 ex => ?_⟩
      rw [ex, nI_clamp (by omega)]
      exact h f hf (fun m hm => hg m (by omega))
    · have e1 : ¬ 3 ≤ k := fun q => e ((nI_leI (by decide) (by omega)).mpr q)
      rw [q_o3]
      refine ⟨vp_in_nI (by omega) (by decide), vp_in_nI (by omega) (by decide), fun x1 ex => ?_⟩
      rw [ex, gA_sA, if_pos rfl, sA_sA, nI_clamp (by omega), nI_clamp (by omega)]
      show qw_M_finish_H102 post fu p1 p2 (nI N) (nI k + 1) _
      rw [nI_1]
      refine ih (k + 1) _ (by omega) (by omega) (fun i hi => ?_) (fun m hm => ?_)
      · rw [upd_at, if_neg (by omega)]; exact hf i hi
      · rw [upd_at]
        by_cases q : m = k
        · rw [q, if_pos rfl]; rfl
        · rw [if_neg (by omega)]; exact hg m (by omega)
theorem m_fin1 {post : Int32 → QX → Prop} {z : QX} {p1 p2 : Int32} {v : Nat → Bool} (hN : N < 100) (hv : ∀ c, c < 60 → gA z 9 c = qz (v c)) (h : ∀ f : Nat → Int32, (∀ i, i < 60 * N → f i = gA z 5 i) → (∀ c, c < 60 → f (60 * N + c) = qz (v c)) → qw_M_finish_H102 post qFU p1 p2 (nI N) (nI 0) (sA z 5 f)) : ∀ (fu k : Nat) (f : Nat → Int32), k ≤ 60 → 60 - k < fu → (∀ i, i < 60 * N → f i = gA z 5 i) → (∀ c, c < k → f (60 * N + c) = qz (v c)) → qw_M_finish_H67 post fu p1 p2 (nI N) (nI k) (sA z 5 f) := by
  intro fu
  induction fu with
  | zero => intro k f _ h2; omega
  | succ fu ih =>
    intro k f h2 h3 hf hg
    refine ⟨fun e => ?_, fun e => ?_⟩
    · have e1 := (nI_leI (by decide) (by omega)).mp (show nI 60 ≤ nI k from e)
      exact h f hf (fun m hm => hg m (by omega))
    · have e1 : ¬ 60 ≤ k := fun q => e ((nI_leI (by decide) (by omega)).mpr q)
      rw [q_60o]
      refine ⟨vp_in_nI (by omega) (by decide), vp_in_nI (by omega) (by decide), fun x1 ex => ?_⟩
      have hval : gA (sA z 5 f) 9 (nI k).toNatClampNeg = qz (v k) := by
        rw [nI_clamp (by omega)]; exact hv k (by omega)
      rw [hval, qz_nar, gA_sA, if_pos rfl, sA_sA, nI_clamp (by omega)] at ex
      rw [ex]
      show qw_M_finish_H67 post fu p1 p2 (nI N) (nI k + 1) _
      rw [nI_1]
      refine ih (k + 1) _ (by omega) (by omega) (fun i hi => ?_) (fun m hm => ?_)
      · rw [upd_at, if_neg (by omega)]; exact hf i hi
      · rw [upd_at]
        by_cases q : m = k
        · rw [q, if_pos rfl]
        · rw [if_neg (by omega)]; exact hg m (by omega)
theorem m_finish {post : Int32 → QX → Prop} {fi se : Int32} {v : Nat → Bool} (hN : gI y 2 = nI N) (h1 : N < 100) (h9 : gI y 9 = 0) (hv : ∀ c, c < 60 → gA y 9 c = qz (v c)) (h : ∀ y', qM_fin y y' N fi se v → post (nI N) y') : qw_M_finish fi se y post := by
  refine ⟨fun e => absurd h9 e, fun _ => ⟨fun _ => ?_, fun e => ?_⟩⟩
  · intro t et
    rw [hN] at et
    subst et
    intro x1 e1
    refine ⟨vp_in_nI h1 (by decide), fun x2 e2 => ⟨vp_in_nI h1 (by decide), fun x3 e3 => ?_⟩⟩
    have hx3 : x3 = sA (sA (sI y 2 (nI (N + 1))) 2 (upd (gA y 2) N fi)) 3 (upd (gA y 3) N se) := by
      rw [e3, e2, e1, hN, q_l1, nI_add, nI_clamp (by omega)]
      rfl
    have k := m_fin1 (z := x3) (post := post) (p1 := fi) (p2 := se) (v := v) h1 (by rw [hx3]; exact hv) (fun f hf hg => by
      have k2 := m_fin2 (z := sA x3 5 f) (post := post) (p1 := fi) (p2 := se) h1 (fun f6 k1 k2 => h _ (by
        rw [hx3] at hf k1 k2 ⊢
        refine ⟨rfl, rfl, rfl, hf, hg, k1, k2, rfl, fun k a => ?_, fun k a b c d e => ?_, fun k => rfl⟩
        · show (if k = 2 then _ else gI y k) = _
          rw [if_neg a]
        · show (if k = 7 then _ else if k = 6 then _ else if k = 5 then _ else if k = 3 then _ else if k = 2 then _ else gA y k) = _
          rw [if_neg e, if_neg d, if_neg c, if_neg b, if_neg a])) qFU 0 (gA (sA x3 5 f) 6) (by omega) (by unfold qFU; omega) (fun i _ => rfl) (fun m hm => by omega)
      rw [sA_id] at k2
      exact k2) qFU 0 (gA x3 5) (by omega) (by unfold qFU; omega) (fun i _ => rfl) (fun c hc => by omega)
    rw [sA_id] at k
    exact k
  · rw [hN] at e
    exact absurd ((nI_eq (by omega) (by decide)).mp (show nI N = nI 100 from e)) (by omega)
theorem m_finish_full {post : Int32 → QX → Prop} {fi se : Int32} (hN : gI y 2 = nI N) (h1 : N ≤ 100) (h9 : gI y 9 = 0 ∨ gI y 9 = 1) (hf : N = 100 ∨ gI y 9 = 1) (h : post (-3) (sI (sI y 0 (gI y 7)) 1 (gI y 8))) : qw_M_finish fi se y post := by
  refine ⟨fun _ x1 e1 x2 e2 => ?_, fun e => ⟨fun e2 => ?_, fun _ x1 e1 x2 e2 => ?_⟩⟩
  · rw [e2, e1]; exact h
  · rcases hf with hf | hf
    · rw [hN, hf] at e2; exact absurd rfl e2
    · rw [hf] at e; exact absurd e (by decide)
  · rw [e2, e1]; exact h
end MO
