/-! Settling, as a function of the draft; the class computes it. -/
theorem sL_sL (x : QX) (k : Nat) (f g : Int64) : sL (sL x k f) k g = sL x k g := by
  unfold sL
  rw [bx_uu]
def q_bit (c : Nat) : Int64 := (1 : Int64) <<< ((nI c).toInt64 &&& 63)
def q_repC (x : QX) (c t : Nat) : QX := sA (sL x 0 ((gL x 0 &&& (q_bit c ^^^ (-1))) ||| q_bit t)) 8 (upd (gA x 8) c (nI t))
theorem r_replace {x : QX} {n : Nat} {post : QX → Prop} (hn : gI x 2 = nI n) (o2 : n ≤ 60) {c t : Nat} (hc : c < n) (ht : t < n) (h : post (q_repC x c t)) : qw_D_replace (nI c) (nI t) x post := by
  refine r_C_has_in hn o2 hc ⟨fun e => absurd e (by decide), fun _ => r_C_has_in hn o2 ht ⟨fun _ => ?_, fun e => absurd e (by decide)⟩⟩
  intro x1 e1
  intro x2 e2
  refine ⟨vp_in_nI (by omega) (by decide), fun x3 e3 => ?_⟩
  have : x3 = q_repC x c t := by
    rw [e3, e2, e1, sL_sL, nI_clamp (by omega)]
    rfl
  rw [this]
  exact h
/-- y is rebased onto q: a new commit, in y's stead -/
def qD_add (d : QD) (y q : Nat) : QD :=
  (qD_n d + 1, (fun c => if c = qD_n d then q else qD_p d c), (fun c => if c = qD_n d then qD_c d y else qD_c d c), qm_mix (qD_k d) (qD_n d) y q (qD_p d y),
    (fun c => if c = qD_n d then true else if c = y then false else qD_v d c), (fun c => if c = y then some (qD_n d) else qD_r d c))
def qm_tw (d : QD) (y : Nat) : Nat → Bool := fun c => qD_v d c && !qm_com (qD_p d) y c
def qm_settle : Nat → QD → Bool × QD
  | 0, d => (false, d)
  | k + 1, d => match qm_orph d with
    | none => (true, d)
    | some y => if qD_n d = 60 then (false, d) else qm_settle k (qD_add d y (qm_place (qD_v d) (qm_nx d (qm_tw d y)) 120 (qD_p d y)))
theorem qm_place_or {v : Nat → Bool} {g : Nat → Nat} : ∀ (k x : Nat), v (qm_place v g k x) = true ∨ qm_place v g k x = 0 := by
  intro k
  induction k with
  | zero =>
    intro x
    unfold qm_place
    by_cases h : v x = true
    · rw [if_pos h]; exact Or.inl h
    · rw [if_neg h]; exact Or.inr rfl
  | succ k ih =>
    intro x
    unfold qm_place
    by_cases h : v x = true
    · rw [if_pos h]; exact Or.inl h
    · rw [if_neg h]; exact ih (g x)
theorem qm_place_v {d : QD} (ok : qD_ok d) {g : Nat → Nat} (k x : Nat) : qD_v d (qm_place (qD_v d) g k x) = true := by
  rcases qm_place_or (v := qD_v d) (g := g) k x with h | h
  · exact h
  · rw [h]; exact ok.2.2.2.1
theorem qm_place_lt {d : QD} (ok : qD_ok d) {g : Nat → Nat} (k x : Nat) : qm_place (qD_v d) g k x < qD_n d := ok.2.2.2.2.1 _ (qm_place_v ok k x)
theorem qm_orph_some {d : QD} {y : Nat} (h : qm_orph d = some y) : 1 ≤ y ∧ y < qD_n d ∧ qD_v d y = true ∧ qD_v d (qD_p d y) = false := by
  obtain ⟨h1, h2, h3⟩ := qm_first_some h
  simp only [Bool.and_eq_true, Bool.not_eq_true'] at h3
  exact ⟨h1, by omega, h3.1, h3.2⟩
theorem qD_add_ok {d : QD} (ok : qD_ok d) {y q : Nat} (hy : 1 ≤ y) (hq : q < qD_n d) (hn : qD_n d < 60) : qD_ok (qD_add d y q) := by
  obtain ⟨o1, o2, o3, o4, o5, o6⟩ := ok
  refine ⟨by show 1 ≤ qD_n d + 1; omega, by show qD_n d + 1 ≤ 60; omega, ?_, ?_, ?_, ?_⟩
  · intro c h1 h2
    show (if c = qD_n d then q else qD_p d c) < c
    by_cases e : c = qD_n d
    · rw [if_pos e]; omega
    · rw [if_neg e]
      have h3 : c < qD_n d + 1 := h2
      exact o3 c h1 (by omega)
  · show (if 0 = qD_n d then true else if 0 = y then false else qD_v d 0) = true
    rw [if_neg (by omega), if_neg (by omega)]; exact o4
  · intro c h
    show c < qD_n d + 1
    have h : (if c = qD_n d then true else if c = y then false else qD_v d c) = true := h
    by_cases e : c = qD_n d
    · omega
    · rw [if_neg e] at h
      by_cases e2 : c = y
      · rw [if_pos e2] at h; cases h
      · rw [if_neg e2] at h
        have := o5 c h
        omega
  · intro c r h
    show r < qD_n d + 1
    have h : (if c = y then some (qD_n d) else qD_r d c) = some r := h
    by_cases e : c = y
    · rw [if_pos e] at h; cases h; omega
    · rw [if_neg e] at h
      have := o6 c r h
      omega
/-- what was there stays -/
def qD_ext (d d' : QD) : Prop := qD_n d ≤ qD_n d' ∧ (∀ c, c < qD_n d → qD_p d' c = qD_p d c ∧ qD_c d' c = qD_c d c) ∧ (∀ i, i < 32 * qD_n d → qD_k d' i = qD_k d i)
theorem qD_ext_rf (d : QD) : qD_ext d d := ⟨Nat.le_refl _, fun _ _ => ⟨rfl, rfl⟩, fun _ _ => rfl⟩
theorem qD_ext_tr {a b c : QD} (h1 : qD_ext a b) (h2 : qD_ext b c) : qD_ext a c :=
  ⟨Nat.le_trans h1.1 h2.1, fun z hz => ⟨(h2.2.1 z (Nat.lt_of_lt_of_le hz h1.1)).1.trans (h1.2.1 z hz).1, (h2.2.1 z (Nat.lt_of_lt_of_le hz h1.1)).2.trans (h1.2.1 z hz).2⟩, fun i hi => (h2.2.2 i (by have := h1.1; omega)).trans (h1.2.2 i hi)⟩
theorem qD_add_ext (d : QD) (y q : Nat) : qD_ext d (qD_add d y q) := by
  refine ⟨by show qD_n d ≤ qD_n d + 1; omega, fun c hc => ⟨?_, ?_⟩, fun i hi => ?_⟩
  · show (if c = qD_n d then q else qD_p d c) = _
    rw [if_neg (by omega)]
  · show (if c = qD_n d then qD_c d y else qD_c d c) = _
    rw [if_neg (by omega)]
  · show qm_mix (qD_k d) (qD_n d) y q (qD_p d y) i = _
    unfold qm_mix
    rw [if_neg (by omega)]
theorem qm_settle_ok : ∀ (k : Nat) {d : QD}, qD_ok d → qD_ok (qm_settle k d).2 ∧ qD_ext d (qm_settle k d).2 ∧ ((qm_settle k d).1 = true → qm_orph (qm_settle k d).2 = none) := by
  intro k
  induction k with
  | zero => intro d ok; exact ⟨ok, qD_ext_rf d, fun h => by cases h⟩
  | succ k ih =>
    intro d ok
    unfold qm_settle
    cases e : qm_orph d with
    | none => exact ⟨ok, qD_ext_rf d, fun _ => e⟩
    | some y =>
      dsimp only
      obtain ⟨h1, h2, -, -⟩ := qm_orph_some e
      by_cases h : qD_n d = 60
      · rw [if_pos h]; exact ⟨ok, qD_ext_rf d, fun h => by cases h⟩
      · rw [if_neg h]
        have o2 := ok.2.1
        obtain ⟨a, b, c⟩ := ih (qD_add_ok ok h1 (qm_place_lt ok 120 (qD_p d y) (g := qm_nx d (qm_tw d y))) (by omega))
        exact ⟨a, qD_ext_tr (qD_add_ext _ _ _) b, c⟩
/-- of the class's cells nothing but the commits and the draft's view changes -/
def qC_fr (x x' : QX) : Prop := (∀ k, k ≠ 2 → gI x' k = gI x k) ∧ (∀ k, k ≠ 1 → k ≠ 2 → k ≠ 8 → gA x' k = gA x k) ∧ (∀ k, k ≠ 0 → gB x' k = gB x k)
theorem qC_fr_rf (x : QX) : qC_fr x x := ⟨fun _ _ => rfl, fun _ _ _ _ => rfl, fun _ _ => rfl⟩
theorem qC_fr_tr {a b c : QX} (h1 : qC_fr a b) (h2 : qC_fr b c) : qC_fr a c :=
  ⟨fun k h => (h2.1 k h).trans (h1.1 k h), fun k p q r => (h2.2.1 k p q r).trans (h1.2.1 k p q r), fun k h => (h2.2.2 k h).trans (h1.2.2 k h)⟩
theorem qC_fr_add (x : QX) (n : Nat) (ch pa : Int32) (g : Nat → Int64) : qC_fr x (q_addC x n ch pa g) := by
  refine ⟨fun k h => ?_, fun k h1 h2 h3 => ?_, fun k h => ?_⟩
  · show (if k = 2 then _ else gI x k) = _
    rw [if_neg h]
  · show (if k = 1 then _ else if k = 2 then _ else gA x k) = _
    rw [if_neg h1, if_neg h2]
  · show (if k = 0 then _ else gB x k) = _
    rw [if_neg h]
theorem qC_fr_rep (x : QX) (c t : Nat) : qC_fr x (q_repC x c t) := by
  refine ⟨fun k h => rfl, fun k h1 h2 h3 => ?_, fun k h => rfl⟩
  show (if k = 8 then _ else gA x k) = _
  rw [if_neg h3]
theorem q_bit_at {c i : Nat} (hc : c < 64) (hi : i < 64) : qb_t (q_bit c) i = decide (i = c) := qb_bit hc hi
theorem qb_rep (w : Int64) {c t i : Nat} (hc : c < 60) (ht : t < 60) (hi : i < 60) : qb_t ((w &&& (q_bit c ^^^ (-1))) ||| q_bit t) i = (if i = t then true else if i = c then false else qb_t w i) := by
  rw [qb_or, qb_and, qb_not _ (by omega), q_bit_at (by omega) (by omega), q_bit_at (by omega) (by omega)]
  by_cases h1 : i = t
  · simp [h1]
  · by_cases h2 : i = c
    · simp [h1, h2]
    · simp [h1, h2]
theorem qC_add {x : QX} {d : QD} (hd : qC_d x d) (ok : qD_ok d) {y q : Nat} (hy : 1 ≤ y) (hyn : y < qD_n d) (hq : q < qD_n d) (hn : qD_n d < 60) :
    qC_d (q_repC (q_addC x (qD_n d) (gA x 2 y) (nI q) (qm_mix (gB x 0) (qD_n d) y q (qD_p d y))) y (qD_n d)) (qD_add d y q) := by
  obtain ⟨h1, h2, h3, h4, h5, h6, h7⟩ := hd
  obtain ⟨o1, o2, o3, o4, o5, o6⟩ := ok
  have hp := o3 y hy hyn
  refine ⟨rfl, ?_, ?_, ?_, ?_, ?_, ?_⟩
  · show upd (gA x 1) (qD_n d) (nI q) 0 = -1
    rw [upd_at, if_neg (by omega)]; exact h2
  · intro c hc hcn
    have hcn : c < qD_n d + 1 := hcn
    show upd (gA x 1) (qD_n d) (nI q) c = nI (if c = qD_n d then q else qD_p d c)
    rw [upd_at]
    by_cases e : c = qD_n d
    · rw [if_pos e, if_pos e]
    · rw [if_neg e, if_neg e]; exact h3 c hc (by omega)
  · intro c hcn
    have hcn : c < qD_n d + 1 := hcn
    show upd (gA x 2) (qD_n d) (gA x 2 y) c = (if c = qD_n d then qD_c d y else qD_c d c)
    rw [upd_at]
    by_cases e : c = qD_n d
    · rw [if_pos e, if_pos e]; exact h4 y hyn
    · rw [if_neg e, if_neg e]; exact h4 c (by omega)
  · intro i hi
    exact qm_mix_congr hyn hq (by omega) h5 i hi
  · intro c hc
    show qb_t ((gL x 0 &&& (q_bit y ^^^ (-1))) ||| q_bit (qD_n d)) c = (if c = qD_n d then true else if c = y then false else qD_v d c)
    rw [qb_rep _ (by omega) (by omega) hc, h6 c hc]
  · intro c hc
    show upd (gA x 8) y (nI (qD_n d)) c = qm_o (if c = y then some (qD_n d) else qD_r d c)
    rw [upd_at]
    by_cases e : c = y
    · rw [if_pos e, if_pos e]; rfl
    · rw [if_neg e, if_neg e]; exact h7 c hc
theorem r_settle_loop {post : Int32 → QX → Prop} {x0 : QX} : ∀ (f r : Nat) (d : QD) (x : QX), qC_d x d → qD_ok d → qC_fr x0 x → r ≤ 60 → 60 - r < f → (∀ x', qC_d x' (qm_settle (60 - r) d).2 → qC_fr x0 x' → post (qz (qm_settle (60 - r) d).1) x') → qw_D_settleCommits_H2 post f (nI r) x := by
  intro f
  induction f with
  | zero => intro r d x _ _ _ _ h; omega
  | succ f ih =>
    intro r d x hd ok hfr h1 h2 h
    have hn := hd.1
    have o2 := ok.2.1
    refine ⟨fun e => ?_, fun e => ?_⟩
    · have e1 := (nI_leI (by decide) (by omega)).mp (show nI 60 ≤ nI r from e)
      rw [show 60 - r = 0 by omega] at h
      exact h x hd hfr
    · have e1 : ¬ 60 ≤ r := fun q => e ((nI_leI (by decide) (by omega)).mpr q)
      obtain ⟨m, hm⟩ : ∃ m, 60 - r = m + 1 := ⟨59 - r, by omega⟩
      rw [hm] at h
      unfold qm_settle at h
      refine r_orph hd ok ?_
      cases eo : qm_orph d with
      | none =>
        rw [eo] at h
        exact ⟨fun q => absurd rfl q, fun _ => h x hd hfr⟩
      | some y =>
        rw [eo] at h
        dsimp only at h
        obtain ⟨hy1, hy2, hy3, hy4⟩ := qm_orph_some eo
        have hp := ok.2.2.1 y hy1 hy2
        refine ⟨fun _ => r_C_isFull hn o2 (qz_c (fun q => ?_) (fun q => ?_)), fun q => absurd q (qm_nI_ne y (by omega))⟩
        · have hlt : ¬ qD_n d = 60 := by simpa using q
          rw [if_neg hlt] at h
          refine r_wac hd ok hy2 (fun w hw => ?_)
          intro t et
          have htw : ∀ c, c < 60 → qb_t t c = qm_tw d y c := fun c hc => by
            rw [et, qb_and, qb_not _ (by omega), hw c hc, hd.2.2.2.2.2.1 c hc]
            unfold qm_tw
            cases ev : qD_v d c with
            | false => rfl
            | true => rw [decide_eq_true (ok.2.2.2.2.1 c ev)]; rfl
          refine r_C_parentOf hn o2 hy2 ?_
          rw [hd.2.2.1 y hy1 hy2]
          refine r_place hd ok htw (by omega) ?_
          have hq := qm_place_lt ok 120 (qD_p d y) (g := qm_nx d (qm_tw d y))
          refine r_moved hn (by omega) hy2 hq (by omega) (hd.2.2.1 y hy1 hy2) ?_
          refine r_replace (n := qD_n d + 1) (q_addC_n _ _ _ _ _) (by omega) (by omega) (by omega) ?_
          show qw_D_settleCommits_H2 post f (nI r + 1) _
          rw [nI_1]
          refine ih (r + 1) _ _ (qC_add hd ok hy1 hy2 hq (by omega)) (qD_add_ok ok hy1 hq (by omega)) (qC_fr_tr hfr (qC_fr_tr (qC_fr_add _ _ _ _ _) (qC_fr_rep _ _ _))) (by omega) (by omega) ?_
          rw [show 60 - (r + 1) = m by omega]
          exact h
        · have hlt : qD_n d = 60 := by simpa using q
          rw [if_pos hlt] at h
          exact h x hd hfr
theorem r_settle {post : Int32 → QX → Prop} {x : QX} {d : QD} (hd : qC_d x d) (ok : qD_ok d) (h : ∀ x', qC_d x' (qm_settle 60 d).2 → qC_fr x x' → post (qz (qm_settle 60 d).1) x') : qw_D_settleCommits x post :=
  r_settle_loop qFU 0 d x hd ok (qC_fr_rf x) (by omega) (by unfold qFU; omega) h
