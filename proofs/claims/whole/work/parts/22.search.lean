/-! The draft as a value; the class's searches over it. -/
/-- n commits: parents, changes, counts; what is visible, what was replaced by what -/
abbrev QD : Type := Nat × (Nat → Nat) × (Nat → Int32) × (Nat → Int64) × (Nat → Bool) × (Nat → Option Nat)
def qD_n (d : QD) : Nat := d.1
def qD_p (d : QD) : Nat → Nat := d.2.1
def qD_c (d : QD) : Nat → Int32 := d.2.2.1
def qD_k (d : QD) : Nat → Int64 := d.2.2.2.1
def qD_v (d : QD) : Nat → Bool := d.2.2.2.2.1
def qD_r (d : QD) : Nat → Option Nat := d.2.2.2.2.2
/-- the class's cells hold d -/
def qC_d (x : QX) (d : QD) : Prop :=
  gI x 2 = nI (qD_n d) ∧ gA x 1 0 = -1 ∧ (∀ c, 0 < c → c < qD_n d → gA x 1 c = nI (qD_p d c)) ∧ (∀ c, c < qD_n d → gA x 2 c = qD_c d c) ∧ (∀ i, i < 32 * qD_n d → gB x 0 i = qD_k d i) ∧ (∀ c, c < 60 → qb_t (gL x 0) c = qD_v d c) ∧ (∀ c, c < 60 → gA x 8 c = qm_o (qD_r d c))
/-- d is a draft that may come about -/
def qD_ok (d : QD) : Prop :=
  1 ≤ qD_n d ∧ qD_n d ≤ 60 ∧ (∀ c, 0 < c → c < qD_n d → qD_p d c < c) ∧ qD_v d 0 = true ∧ (∀ c, qD_v d c = true → c < qD_n d) ∧ (∀ c r, qD_r d c = some r → r < qD_n d)
/-- x comes of c, or is c -/
def qm_cf (par : Nat → Nat) (c : Nat) : Nat → Nat → Bool
  | 0, x => decide (x = c)
  | f + 1, x => if c < x then qm_cf par c f (par x) else decide (x = c)
def qm_com (par : Nat → Nat) (c x : Nat) : Bool := qm_cf par c x x
theorem qm_cf_any {par : Nat → Nat} {c N : Nat} (hp : ∀ z, 0 < z → z < N → par z < z) : ∀ (f g x : Nat), x ≤ f → x ≤ g → x < N → qm_cf par c f x = qm_cf par c g x := by
  intro f
  induction f with
  | zero =>
    intro g x h1 h2 h3
    have h0 : x = 0 := by omega
    subst h0
    cases g with
    | zero => rfl
    | succ g => unfold qm_cf; rw [if_neg (by omega)]
  | succ f ih =>
    intro g x h1 h2 h3
    cases g with
    | zero =>
      have h0 : x = 0 := by omega
      subst h0
      unfold qm_cf; rw [if_neg (by omega)]
    | succ g =>
      unfold qm_cf
      by_cases hc : c < x
      · rw [if_pos hc, if_pos hc]
        have := hp x (by omega) h3
        exact ih g (par x) (by omega) (by omega) (by omega)
      · rw [if_neg hc, if_neg hc]
theorem qm_com_step {par : Nat → Nat} {c N : Nat} (hp : ∀ z, 0 < z → z < N → par z < z) {x : Nat} (hx : x < N) : qm_com par c x = if c < x then qm_com par c (par x) else decide (x = c) := by
  by_cases hc : c < x
  · rw [if_pos hc]
    unfold qm_com
    have h1 := hp x (by omega) hx
    rw [qm_cf_any hp x (x - 1 + 1) x (Nat.le_refl _) (by omega) hx]
    show (if c < x then qm_cf par c (x - 1) (par x) else decide (x = c)) = _
    rw [if_pos hc]
    exact qm_cf_any hp _ _ _ (by omega) (Nat.le_refl _) (by omega)
  · rw [if_neg hc]
    unfold qm_com
    cases x with
    | zero => rfl
    | succ x => unfold qm_cf; rw [if_neg hc]
section CS
variable {x : QX} {d : QD}
theorem r_wac_loop {post : Int64 → QX → Prop} (hd : qC_d x d) (ok : qD_ok d) {y : Nat} (hy : y < qD_n d) (h : ∀ w : Int64, (∀ i, i < 60 → qb_t w i = (decide (i < qD_n d) && qm_com (qD_p d) y i)) → post w x) :
    ∀ (f j : Nat) (w : Int64), y < j → j ≤ qD_n d → qD_n d - j < f → (∀ i, i < 60 → qb_t w i = (decide (i < j) && qm_com (qD_p d) y i)) → qw_C_withAllThatComesOf_H10 post f (nI y) w (nI j) x := by
  obtain ⟨hn, h0, hp, hc, hk, hv, hr⟩ := hd
  obtain ⟨o1, o2, o3, o4, o5, o6⟩ := ok
  intro f
  induction f with
  | zero => intro j w _ _ h1; omega
  | succ f ih =>
    intro j w h1 h2 h3 hw
    refine ⟨fun e => ?_, fun e => ?_⟩
    · rw [hn] at e
      have e1 := (nI_leI (by omega) (by omega)).mp e
      have e2 : j = qD_n d := by omega
      subst e2
      exact h w hw
    · rw [hn] at e
      have e1 : ¬ qD_n d ≤ j := fun q => e ((nI_leI (by omega) (by omega)).mpr q)
      refine r_C_parentOf hn o2 (by omega) ?_
      rw [hp j (by omega) (by omega)]
      have hpj := o3 j (by omega) (by omega)
      refine r_S_isIn (by omega) ?_
      have hq : qb_t w (qD_p d j) = qm_com (qD_p d) y j := by
        rw [hw _ (by omega), qm_com_step o3 (x := j) (by omega), if_pos h1, decide_eq_true hpj]
        rfl
      rw [hq]
      refine qz_c (fun e2 => ?_) (fun e2 => ?_)
      · show qw_C_withAllThatComesOf_H10 post f (nI y) w (nI j + 1) x
        rw [nI_1]
        refine ih (j + 1) w (by omega) (by omega) (by omega) (fun i hi => ?_)
        rw [hw i hi]
        by_cases q : i = j
        · subst q; rw [e2]; simp
        · by_cases q2 : i < j
          · simp [q2, Nat.lt_succ_of_lt q2]
          · simp [q2, show ¬ i < j + 1 by omega]
      · intro t et
        subst et
        show qw_C_withAllThatComesOf_H10 post f (nI y) _ (nI j + 1) x
        rw [nI_1]
        refine ih (j + 1) _ (by omega) (by omega) (by omega) (fun i hi => ?_)
        rw [qb_or, hw i hi, qb_bit (by omega) (by omega)]
        by_cases q : i = j
        · subst q; rw [e2]; simp
        · by_cases q2 : i < j
          · simp [q, q2, Nat.lt_succ_of_lt q2]
          · simp [q, q2, show ¬ i < j + 1 by omega]
theorem r_wac {post : Int64 → QX → Prop} (hd : qC_d x d) (ok : qD_ok d) {y : Nat} (hy : y < qD_n d) (h : ∀ w : Int64, (∀ i, i < 60 → qb_t w i = (decide (i < qD_n d) && qm_com (qD_p d) y i)) → post w x) : qw_C_withAllThatComesOf (nI y) x post := by
  intro t et
  rw [q_l1, nI_add] at et
  subst et
  have o2 := ok.2.1
  refine r_wac_loop hd ok hy h qFU (y + 1) _ (by omega) (by omega) (by unfold qFU; omega) (fun i hi => ?_)
  rw [qb_bit (by omega) (by omega)]
  have e : ∀ z, z < qD_n d → qm_com (qD_p d) y z = if y < z then qm_com (qD_p d) y (qD_p d z) else decide (z = y) := fun z hz => qm_com_step ok.2.2.1 hz
  by_cases q : i = y
  · subst q
    rw [e i hy, if_neg (by omega)]
    simp
  · by_cases q2 : i < y + 1
    · rw [e i (by omega), if_neg (by omega)]
      simp [q]
    · simp [q, q2]
theorem r_latest_loop {post : Int32 → QX → Prop} {g : Int32} {w : Int64} : ∀ (f k : Nat), k ≤ 60 → k < f → post (qm_o (qm_last (fun c => decide (gA x 2 c = g) && qb_t w c) k)) x → qw_C_latestOfChange_H8 post f g w (nI k + (-1)) x := by
  intro f
  induction f with
  | zero => intro k _ h; omega
  | succ f ih =>
    intro k h1 h2 h
    cases k with
    | zero => exact ⟨fun _ => h, fun e => absurd (by decide) e⟩
    | succ k =>
      rw [pk_m1]
      unfold qm_last at h
      refine ⟨fun e => absurd e (nI_pos (by omega)), fun _ => ⟨vp_in_nI (by omega) (by decide), ⟨fun e => ?_, fun e => ?_⟩⟩⟩
      · rw [nI_clamp (by omega)] at e
        rw [if_neg (by simp [e])] at h
        exact ih k (by omega) (by omega) h
      · rw [nI_clamp (by omega)] at e
        refine r_S_isIn (by omega) (qz_c (fun e2 => ?_) (fun e2 => ?_))
        · rw [if_neg (by simp [e2])] at h
          exact ih k (by omega) (by omega) h
        · rw [if_pos (by simp [e, e2])] at h
          exact h
theorem r_latest {post : Int32 → QX → Prop} {g : Int32} {w : Int64} {n : Nat} (hn : gI x 2 = nI n) (o2 : n ≤ 60) (h : post (qm_o (qm_last (fun c => decide (gA x 2 c = g) && qb_t w c) n)) x) : qw_C_latestOfChange g w x post := by
  intro t et
  rw [hn, Int32.sub_eq_add_neg] at et
  subst et
  exact r_latest_loop qFU n o2 (by unfold qFU; omega) h
/-- one step towards a place; tw: who may stand in -/
def qm_nx (d : QD) (tw : Nat → Bool) (c : Nat) : Nat :=
  match qD_r d c with
  | some r => r
  | none => match qm_last (fun e => decide (qD_c d e = qD_c d c) && tw e) (qD_n d) with
    | some t => t
    | none => qD_p d c
theorem qm_nx_lt (ok : qD_ok d) {tw : Nat → Bool} {c : Nat} (hc : 0 < c) (hn : c < qD_n d) : qm_nx d tw c < qD_n d := by
  unfold qm_nx
  cases e : qD_r d c with
  | some r => exact ok.2.2.2.2.2 c r e
  | none =>
    dsimp only
    cases e2 : qm_last (fun e => decide (qD_c d e = qD_c d c) && tw e) (qD_n d) with
    | some t => exact (qm_last_some e2).1
    | none => have := ok.2.2.1 c hc hn; dsimp only; omega
theorem r_next {post : Int32 → QX → Prop} {w : Int64} {tw : Nat → Bool} (hd : qC_d x d) (ok : qD_ok d) (hw : ∀ c, c < 60 → qb_t w c = tw c) {c : Nat} (hc : 0 < c) (hlt : c < qD_n d) (h : post (nI (qm_nx d tw c)) x) : qw_D_nextTowardsPlace (nI c) w x post := by
  obtain ⟨hn, h0, hp, hcc, hk, hv, hr⟩ := hd
  have o2 := ok.2.1
  have o6 := ok.2.2.2.2.2
  have hlast : qm_last (fun e => decide (gA x 2 e = qD_c d c) && qb_t w e) (qD_n d) = qm_last (fun e => decide (qD_c d e = qD_c d c) && tw e) (qD_n d) := by
    apply qm_last_congr
    intro e he
    rw [hcc e he, hw e (by omega)]
  refine r_C_has_in hn o2 hlt ⟨fun _ => ⟨vp_in_nI (by omega) (by decide), ?_, ?_⟩, fun e => absurd e (by decide)⟩
  · intro e
    rw [nI_clamp (by omega), hr c (by omega)] at e
    have e1 : qD_r d c = none := (qm_o_none (fun r hr => by have := o6 c r hr; omega)).mp e
    refine r_C_changeOf hn o2 hlt ?_
    rw [hcc c hlt]
    refine r_latest hn o2 ?_
    rw [hlast]
    unfold qm_nx at h
    rw [e1] at h
    dsimp only at h
    cases e2 : qm_last (fun e => decide (qD_c d e = qD_c d c) && tw e) (qD_n d) with
    | none =>
      rw [e2] at h
      refine ⟨fun _ => r_C_parentOf hn o2 hlt ?_, fun q => absurd rfl q⟩
      rw [hp c hc hlt]
      exact h
    | some t =>
      rw [e2] at h
      have := (qm_last_some e2).1
      exact ⟨fun q => absurd q (qm_nI_ne t (by omega)), fun _ => h⟩
  · intro e
    refine ⟨vp_in_nI (by omega) (by decide), ?_⟩
    rw [nI_clamp (by omega), hr c (by omega)] at e ⊢
    cases e1 : qD_r d c with
    | none => rw [e1] at e; exact absurd rfl e
    | some r =>
      unfold qm_nx at h
      rw [e1] at h
      exact h
theorem r_place_loop {post : Int32 → QX → Prop} {w : Int64} {tw : Nat → Bool} (hd : qC_d x d) (ok : qD_ok d) (hw : ∀ c, c < 60 → qb_t w c = tw c) {p : Int32} : ∀ (f k c : Nat), c < qD_n d → k ≤ 120 → 120 - k < f → post (nI (qm_place (qD_v d) (qm_nx d tw) (120 - k) c)) x → qw_D_placeOf_H6 post f p w (nI c) (nI k) x := by
  have hv := hd.2.2.2.2.2.1
  have o2 := ok.2.1
  intro f
  induction f with
  | zero => intro k c _ _ h; omega
  | succ f ih =>
    intro k c h1 h2 h3 h
    refine ⟨fun e => ?_, fun e => ?_⟩
    · have e1 := (nI_leI (by decide) (by omega)).mp (show nI 120 ≤ nI k from e)
      have e2 : 120 - k = 0 := by omega
      rw [e2] at h
      unfold qm_place at h
      refine r_D_shows (by omega) ?_
      rw [hv c (by omega)]
      refine qz_c (fun q => ?_) (fun q => ?_)
      · rw [if_neg (by rw [q]; decide)] at h; exact h
      · rw [if_pos q] at h; exact h
    · have e1 : ¬ 120 ≤ k := fun q => e ((nI_leI (by decide) (by omega)).mpr q)
      obtain ⟨m, hm⟩ : ∃ m, 120 - k = m + 1 := ⟨119 - k, by omega⟩
      rw [hm] at h
      unfold qm_place at h
      refine r_D_shows (by omega) ?_
      rw [hv c (by omega)]
      refine qz_d (fun q => ?_) (fun q => ?_)
      · refine r_D_shows (by omega) ?_
        rw [hv c (by omega)]
        refine qz_c (fun q2 => ?_) (fun _ => ?_)
        · rw [q] at q2; cases q2
        · rw [if_pos q] at h; exact h
      · rw [if_neg (by rw [q]; decide)] at h
        have hc0 : 0 < c := by
          rcases Nat.eq_zero_or_pos c with z | z
          · subst z; rw [ok.2.2.2.1] at q; cases q
          · exact z
        refine r_next hd ok hw hc0 h1 ?_
        show qw_D_placeOf_H6 post f p w _ (nI k + 1) x
        rw [nI_1]
        refine ih (k + 1) _ (qm_nx_lt ok hc0 h1) (by omega) (by omega) ?_
        rw [show 120 - (k + 1) = m by omega]
        exact h
theorem r_place {post : Int32 → QX → Prop} {w : Int64} {tw : Nat → Bool} (hd : qC_d x d) (ok : qD_ok d) (hw : ∀ c, c < 60 → qb_t w c = tw c) {c : Nat} (hc : c < qD_n d) (h : post (nI (qm_place (qD_v d) (qm_nx d tw) 120 c)) x) : qw_D_placeOf (nI c) w x post :=
  r_place_loop hd ok hw qFU 0 c hc (by omega) (by unfold qFU; omega) h
def qm_orph (d : QD) : Option Nat := qm_first (fun c => qD_v d c && !qD_v d (qD_p d c)) (qD_n d - 1) 1
theorem r_orph_loop {post : Int32 → QX → Prop} (hd : qC_d x d) (ok : qD_ok d) : ∀ (f j : Nat), 1 ≤ j → j ≤ qD_n d → qD_n d - j < f → post (qm_o (qm_first (fun c => qD_v d c && !qD_v d (qD_p d c)) (qD_n d - j) j)) x → qw_D_lowestOrphan_H2 post f (nI j) x := by
  obtain ⟨hn, h0, hp, hcc, hk, hv, hr⟩ := hd
  obtain ⟨o1, o2, o3, o4, o5, o6⟩ := ok
  intro f
  induction f with
  | zero => intro j _ _ h; omega
  | succ f ih =>
    intro j h1 h2 h3 h
    refine ⟨fun e => ?_, fun e => ?_⟩
    · rw [hn] at e
      have e1 := (nI_leI (by omega) (by omega)).mp e
      rw [show qD_n d - j = 0 by omega] at h
      exact h
    · rw [hn] at e
      have e1 : ¬ qD_n d ≤ j := fun q => e ((nI_leI (by omega) (by omega)).mpr q)
      obtain ⟨m, hm⟩ : ∃ m, qD_n d - j = m + 1 := ⟨qD_n d - j - 1, by omega⟩
      rw [hm] at h
      unfold qm_first at h
      have hrec : post (qm_o (qm_first (fun c => qD_v d c && !qD_v d (qD_p d c)) m (j + 1))) x → qw_D_lowestOrphan_H2 post f (nI j + 1) x := fun q => by
        rw [nI_1]
        refine ih (j + 1) (by omega) (by omega) (by omega) ?_
        rw [show qD_n d - (j + 1) = m by omega]
        exact q
      refine r_D_shows (by omega) ?_
      rw [hv j (by omega)]
      refine qz_c (fun q => ?_) (fun q => ?_)
      · rw [if_neg (by simp [q])] at h
        exact hrec h
      · refine r_C_parentOf hn o2 (by omega) ?_
        rw [hp j (by omega) (by omega)]
        have hpj := o3 j (by omega) (by omega)
        refine r_D_shows (by omega) ?_
        rw [hv _ (by omega)]
        refine qz_d (fun q2 => ?_) (fun q2 => ?_)
        · rw [if_neg (by simp [q2])] at h
          exact hrec h
        · rw [if_pos (by simp [q, q2])] at h
          exact h
theorem r_orph {post : Int32 → QX → Prop} (hd : qC_d x d) (ok : qD_ok d) (h : post (qm_o (qm_orph d)) x) : qw_D_lowestOrphan x post :=
  r_orph_loop hd ok qFU 1 (by omega) ok.1 (by have := ok.2.1; unfold qFU; omega) h
end CS
