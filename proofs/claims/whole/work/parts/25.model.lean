/-! The reference's searches, its mixing. -/
/-- the reference's cells hold d -/
def qM_d (y : QX) (d : QD) : Prop :=
  gI y 0 = nI (qD_n d) ∧ gA y 1 0 = -1 ∧ (∀ c, 0 < c → c < qD_n d → gA y 1 c = nI (qD_p d c)) ∧ (∀ c, c < qD_n d → gA y 0 c = qD_c d c) ∧ (∀ i, i < 32 * qD_n d → gB y 0 i = qD_k d i) ∧ (∀ c, c < 60 → gA y 9 c = qz (qD_v d c)) ∧ (∀ c, c < 60 → gA y 11 c = qm_o (qD_r d c))
section MS
variable {x : QX} {d : QD}
theorem m_com_loop {post : Int32 → QX → Prop} (hd : qM_d x d) (ok : qD_ok d) {c : Nat} (hc : c < 60) {p : Int32} : ∀ (f e : Nat), e < qD_n d → e < f → post (qz (qm_com (qD_p d) c e)) x → qw_M_comesOf_H2 post f p (nI c) (nI e) x := by
  have o2 := ok.2.1
  intro f
  induction f with
  | zero => intro e _ h; omega
  | succ f ih =>
    intro e h1 h2 h
    rw [qm_com_step ok.2.2.1 h1] at h
    refine ⟨fun q => ?_, fun q => ?_⟩
    · have q1 := (nI_leI (by omega) (by omega)).mp q
      rw [if_neg (by omega)] at h
      refine ⟨fun q2 => ?_, fun q2 => ?_⟩
      · rw [decide_eq_false (fun z => q2 (by rw [z]))] at h; exact h
      · rw [decide_eq_true ((nI_eq (by omega) (by omega)).mp q2)] at h; exact h
    · have q1 : ¬ e ≤ c := fun z => q ((nI_leI (by omega) (by omega)).mpr z)
      rw [if_pos (by omega)] at h
      refine ⟨vp_in_nI (by omega) (by decide), fun t et => ?_⟩
      rw [nI_clamp (by omega), hd.2.2.1 e (by omega) h1] at et
      subst et
      have hp := ok.2.2.1 e (by omega) h1
      exact ih _ (by omega) (by omega) h
theorem m_com {post : Int32 → QX → Prop} (hd : qM_d x d) (ok : qD_ok d) {c e : Nat} (hc : c < 60) (he : e < qD_n d) (h : post (qz (qm_com (qD_p d) c e)) x) : qw_M_comesOf (nI e) (nI c) x post :=
  m_com_loop hd ok hc qFU e he (by have := ok.2.1; unfold qFU; omega) h
/-- who may stand in: all that is visible, or of that what does not come of y -/
def q_twin (d : QD) (v2 : Int32) (tw : Nat → Bool) : Prop := (v2 = -1 ∧ tw = qD_v d) ∨ (∃ y, y < qD_n d ∧ v2 = nI y ∧ tw = qm_tw d y)
theorem q_twin_v {v2 : Int32} {tw : Nat → Bool} (h : q_twin d v2 tw) {c : Nat} (ht : tw c = true) : qD_v d c = true := by
  rcases h with ⟨-, rfl⟩ | ⟨y, -, -, rfl⟩
  · exact ht
  · unfold qm_tw at ht
    simp only [Bool.and_eq_true] at ht
    exact ht.1
theorem m_same_loop {post : Int32 → QX → Prop} (hd : qM_d x d) (ok : qD_ok d) {v2 : Int32} {tw : Nat → Bool} (hv2 : q_twin d v2 tw) {c : Nat} (hc : c < qD_n d) : ∀ (f k : Nat), k ≤ qD_n d → qD_n d - k < f → post (qm_o (qm_last (fun e => decide (qD_c d e = qD_c d c) && tw e) (qD_n d))) x → qw_M_sameChange_H5 post f (nI c) v2 (qm_o (qm_last (fun e => decide (qD_c d e = qD_c d c) && tw e) k)) (nI k) x := by
  obtain ⟨hn, h0, hp, hcc, hk, hv, hr⟩ := id hd
  have o2 := ok.2.1
  intro f
  induction f with
  | zero => intro k _ h; omega
  | succ f ih =>
    intro k h1 h2 h
    refine ⟨fun q => ?_, fun q => ?_⟩
    · rw [hn] at q
      have q1 := (nI_leI (by omega) (by omega)).mp q
      rw [show k = qD_n d by omega]; exact h
    · rw [hn] at q
      have q1 : ¬ qD_n d ≤ k := fun z => q ((nI_leI (by omega) (by omega)).mpr z)
      have go := ih (k + 1) (by omega) (by omega) h
      unfold qm_last at go
      rw [← nI_1] at go
      have no : (¬ (decide (qD_c d k = qD_c d c) && tw k) = true) → qw_M_sameChange_H5 post f (nI c) v2 (qm_o (qm_last (fun e => decide (qD_c d e = qD_c d c) && tw e) k)) (nI k + 1) x := fun z => by
        rw [if_neg z] at go; exact go
      have yes : (decide (qD_c d k = qD_c d c) && tw k) = true → qw_M_sameChange_H5 post f (nI c) v2 (nI k) (nI k + 1) x := fun z => by
        rw [if_pos z] at go; exact go
      have hin : vp_in (nI k) 60 := vp_in_nI (by omega) (by decide)
      refine ⟨hin, ?_⟩
      rw [nI_clamp (by omega), nI_clamp (by omega), hv k (by omega), hcc k (by omega), hcc c hc]
      refine qz_c (fun q2 => no (fun z => ?_)) (fun q2 => ⟨hin, vp_in_nI (by omega) (by decide), ⟨fun q3 => no (by simp [q3]), fun q3 => ⟨fun q4 => ?_, fun q4 => ?_⟩⟩⟩)
      · simp only [Bool.and_eq_true] at z
        rw [q_twin_v hv2 z.2] at q2; cases q2
      · rcases hv2 with ⟨-, e⟩ | ⟨y, hy, e, -⟩
        · exact yes (by rw [e]; simp [q2, q3])
        · rw [e] at q4; exact absurd q4 (nI_pos (by omega))
      · rcases hv2 with ⟨e, -⟩ | ⟨y, hy, e, e2⟩
        · rw [e] at q4; exact absurd (by decide) q4
        · rw [e] at no yes ⊢
          refine m_com hd ok (by omega) (by omega) (qz_d (fun q5 => no ?_) (fun q5 => yes ?_))
          · rw [e2]; unfold qm_tw; simp [q5]
          · rw [e2]; unfold qm_tw; simp [q5, q2, q3]
theorem m_same {post : Int32 → QX → Prop} (hd : qM_d x d) (ok : qD_ok d) {v2 : Int32} {tw : Nat → Bool} (hv2 : q_twin d v2 tw) {c : Nat} (hc : c < qD_n d) (h : post (qm_o (qm_last (fun e => decide (qD_c d e = qD_c d c) && tw e) (qD_n d))) x) : qw_M_sameChange (nI c) v2 x post :=
  m_same_loop hd ok hv2 hc qFU 0 (Nat.zero_le _) (by have := ok.2.1; unfold qFU; omega) h
theorem m_place_loop {post : Int32 → QX → Prop} (hd : qM_d x d) (ok : qD_ok d) {v2 : Int32} {tw : Nat → Bool} (hv2 : q_twin d v2 tw) {p : Int32} : ∀ (f t e : Nat), e < qD_n d → t ≤ 400 → 400 - t < f →
    ((∃ j, t + j < 400 ∧ qD_v d (qm_it (qm_nx d tw) j e) = true ∧ (∀ i, i < j → qD_v d (qm_it (qm_nx d tw) i e) = false) ∧ post (nI (qm_it (qm_nx d tw) j e)) x) ∨ ((∀ i, qD_v d (qm_it (qm_nx d tw) i e) = false) ∧ post 0 x)) → qw_M_place_H5 post f p v2 (nI e) (nI t) x := by
  obtain ⟨hn, h0, hp, hcc, hk, hv, hr⟩ := id hd
  have o2 := ok.2.1
  intro f
  induction f with
  | zero => intro t e _ _ h; omega
  | succ f ih =>
    intro t e he h1 h2 h
    refine ⟨fun q => ?_, fun q => ?_⟩
    · have q1 := (nI_leI (by decide) (by omega)).mp (show nI 400 ≤ nI t from q)
      rcases h with ⟨j, hj, -⟩ | ⟨-, h⟩
      · omega
      · exact h
    · have q1 : ¬ 400 ≤ t := fun z => q ((nI_leI (by decide) (by omega)).mpr z)
      have hin : vp_in (nI e) 60 := vp_in_nI (by omega) (by decide)
      refine ⟨hin, ?_⟩
      rw [nI_clamp (by omega), hv e (by omega)]
      refine qz_c (fun q2 => ?_) (fun q2 => ?_)
      · have he0 : 0 < e := by
          rcases Nat.eq_zero_or_pos e with z | z
          · subst z; rw [ok.2.2.2.1] at q2; cases q2
          · exact z
        -- what the next step gives
        have hnx : ((∃ j, t + 1 + j < 400 ∧ qD_v d (qm_it (qm_nx d tw) j (qm_nx d tw e)) = true ∧ (∀ i, i < j → qD_v d (qm_it (qm_nx d tw) i (qm_nx d tw e)) = false) ∧ post (nI (qm_it (qm_nx d tw) j (qm_nx d tw e))) x) ∨ ((∀ i, qD_v d (qm_it (qm_nx d tw) i (qm_nx d tw e)) = false) ∧ post 0 x)) := by
          rcases h with ⟨j, hj, k1, k2, k3⟩ | ⟨k1, k2⟩
          · cases j with
            | zero => rw [show qD_v d e = true from k1] at q2; cases q2
            | succ j => exact Or.inl ⟨j, by omega, k1, fun i hi => k2 (i + 1) (by omega), k3⟩
          · exact Or.inr ⟨fun i => k1 (i + 1), k2⟩
        have go : qw_M_place_H5 post f p v2 (nI (qm_nx d tw e)) (nI t + 1) x := by
          rw [nI_1]
          exact ih (t + 1) _ (qm_nx_lt ok he0 he) (by clear h hnx; omega) (by clear h hnx; omega) hnx
        refine m_same hd ok hv2 he ?_
        refine ⟨hin, ?_⟩
        rw [hr e (by omega)]
        cases er : qD_r d e with
        | some r =>
          have hrn := ok.2.2.2.2.2 e r er
          have e1 : qm_nx d tw e = r := by unfold qm_nx; rw [er]
          rw [e1] at go
          refine ⟨fun _ => ⟨hin, ⟨fun z => absurd z (nI_pos (by omega)), fun _ => ⟨hin, fun s es => ?_⟩⟩⟩, fun z => absurd (nI_pos' (by omega)) z⟩
          rw [es]; exact go
        | none =>
          refine ⟨fun z => absurd z (by decide), fun _ => ?_⟩
          cases el : qm_last (fun z => decide (qD_c d z = qD_c d e) && tw z) (qD_n d) with
          | none =>
            have e1 : qm_nx d tw e = qD_p d e := by unfold qm_nx; rw [er]; dsimp only; rw [el]
            rw [e1] at go
            refine ⟨fun _ => ⟨hin, ⟨fun _ => ⟨hin, fun s es => ?_⟩, fun z => absurd (by decide) z⟩⟩, fun z => absurd (by decide) z⟩
            rw [es, hp e he0 he]; exact go
          | some w =>
            have e1 : qm_nx d tw e = w := by unfold qm_nx; rw [er]; dsimp only; rw [el]
            obtain ⟨hw, hf⟩ := qm_last_some el
            simp only [Bool.and_eq_true] at hf
            have hvw := q_twin_v hv2 hf.2
            refine ⟨fun z => absurd z (nI_pos (by omega)), fun _ => ?_⟩
            rw [e1] at hnx
            rcases hnx with ⟨j, -, k1, k2, k3⟩ | ⟨k1, -⟩
            · cases j with
              | zero => exact k3
              | succ j => have := k2 0 (by omega); rw [show qD_v d w = false from this] at hvw; cases hvw
            · have := k1 0; rw [show qD_v d w = false from this] at hvw; cases hvw
      · rcases h with ⟨j, hj, k1, k2, k3⟩ | ⟨k1, k2⟩
        · cases j with
          | zero => exact k3
          | succ j => have := k2 0 (by omega); rw [show qD_v d e = false from this] at q2; cases q2
        · have := k1 0; rw [show qD_v d e = false from this] at q2; cases q2
/-- from a commit on, all that is met is below n: 0 is visible and has no step -/
theorem q_it_lt (ok : qD_ok d) {tw : Nat → Bool} : ∀ (j e : Nat), e < qD_n d → (∀ i, i < j → qD_v d (qm_it (qm_nx d tw) i e) = false) → qm_it (qm_nx d tw) j e < qD_n d := by
  intro j
  induction j with
  | zero => intro e he _; exact he
  | succ j ih =>
    intro e he h
    have h0 : qD_v d e = false := h 0 (by omega)
    have he0 : 0 < e := by
      rcases Nat.eq_zero_or_pos e with z | z
      · subst z; rw [ok.2.2.2.1] at h0; cases h0
      · exact z
    exact ih _ (qm_nx_lt ok he0 he) (fun i hi => h (i + 1) (by omega))
theorem q_soon (ok : qD_ok d) {tw : Nat → Bool} {e : Nat} (he : e < qD_n d) {k : Nat} (hk : qD_v d (qm_it (qm_nx d tw) k e) = true) : ∃ j, j < qD_n d ∧ qD_v d (qm_it (qm_nx d tw) j e) = true ∧ ∀ i, i < j → qD_v d (qm_it (qm_nx d tw) i e) = false := by
  obtain ⟨j, hj, hmin⟩ := pk_least (fun j => qD_v d (qm_it (qm_nx d tw) j e) = true) ⟨k, hk⟩
  have hm : ∀ i, i < j → qD_v d (qm_it (qm_nx d tw) i e) = false := fun i hi => by simpa using hmin i hi
  refine ⟨j, ?_, hj, hm⟩
  by_cases hlt : j < qD_n d
  · exact hlt
  · obtain ⟨a, b, h1, h2, h3⟩ := qm_pig (qD_n d) (fun i => qm_it (qm_nx d tw) i e) (fun i hi => q_it_lt ok i e he (fun q hq => hm q (by omega)))
    have eq : qm_it (qm_nx d tw) (a + (j - b)) e = qm_it (qm_nx d tw) j e := by
      have hb : j = b + (j - b) := by omega
      rw [qm_it_add]
      conv => rhs; rw [hb, qm_it_add]
      rw [show qm_it (qm_nx d tw) a e = qm_it (qm_nx d tw) b e from h3]
    exact absurd (by rw [eq]; exact hj) (hmin (a + (j - b)) (by omega))
theorem m_place {post : Int32 → QX → Prop} (hd : qM_d x d) (ok : qD_ok d) {v2 : Int32} {tw : Nat → Bool} (hv2 : q_twin d v2 tw) {c : Nat} (hc : c < qD_n d) (h : post (nI (qm_place (qD_v d) (qm_nx d tw) 120 c)) x) : qw_M_place (nI c) v2 x post := by
  have o2 := ok.2.1
  refine m_place_loop hd ok hv2 qFU 0 c hc (by omega) (by unfold qFU; omega) ?_
  by_cases hh : ∃ k, qD_v d (qm_it (qm_nx d tw) k c) = true
  · obtain ⟨k, hk⟩ := hh
    obtain ⟨j, h1, h2, h3⟩ := q_soon ok hc hk
    rw [qm_place_hit (by omega) h2 h3] at h
    exact Or.inl ⟨j, by omega, h2, h3, h⟩
  · have hn : ∀ i, qD_v d (qm_it (qm_nx d tw) i c) = false := fun i => by
      have : ¬ qD_v d (qm_it (qm_nx d tw) i c) = true := fun e => hh ⟨i, e⟩
      simpa using this
    rw [qm_place_miss (fun i _ => hn i)] at h
    exact Or.inr ⟨hn, h⟩
theorem m_orph_loop {post : Int32 → QX → Prop} (hd : qM_d x d) (ok : qD_ok d) : ∀ (f j : Nat), 1 ≤ j → j ≤ qD_n d → qD_n d - j < f → post (qm_o (qm_first (fun c => qD_v d c && !qD_v d (qD_p d c)) (qD_n d - j) j)) x → qw_M_loose_H2 post f (nI j) x := by
  obtain ⟨hn, h0, hp, hcc, hk, hv, hr⟩ := hd
  obtain ⟨o1, o2, o3, o4, o5, o6⟩ := ok
  intro f
  induction f with
  | zero => intro j _ _ h; omega
  | succ f ih =>
    intro j h1 h2 h3 h
    refine ⟨fun e => ?_, fun e => ?_⟩
    · rw [hn] at e
      have e1 := (nI_leI (by omega) (by omega)).mp e
      rw [show qD_n d - j = 0 by omega] at h
      exact h
    · rw [hn] at e
      have e1 : ¬ qD_n d ≤ j := fun q => e ((nI_leI (by omega) (by omega)).mpr q)
      obtain ⟨m, hm⟩ : ∃ m, qD_n d - j = m + 1 := ⟨qD_n d - j - 1, by omega⟩
      rw [hm] at h
      unfold qm_first at h
      have hrec : post (qm_o (qm_first (fun c => qD_v d c && !qD_v d (qD_p d c)) m (j + 1))) x → qw_M_loose_H2 post f (nI j + 1) x := fun q => by
        rw [nI_1]
        refine ih (j + 1) (by omega) (by omega) (by omega) ?_
        rw [show qD_n d - (j + 1) = m by omega]
        exact q
      have hin : vp_in (nI j) 60 := vp_in_nI (by omega) (by decide)
      have hpj := o3 j (by omega) (by omega)
      refine ⟨hin, ?_⟩
      rw [nI_clamp (by omega), hv j (by omega), hp j (by omega) (by omega), nI_clamp (by omega), hv _ (by omega)]
      refine qz_c (fun q => ?_) (fun q => ⟨hin, vp_in_nI (by omega) (by decide), qz_d (fun q2 => ?_) (fun q2 => ?_)⟩)
      · rw [if_neg (by simp [q])] at h
        exact hrec h
      · rw [if_neg (by simp [q2])] at h
        exact hrec h
      · rw [if_pos (by simp [q, q2])] at h
        exact h
theorem m_orph {post : Int32 → QX → Prop} (hd : qM_d x d) (ok : qD_ok d) (h : post (qm_o (qm_orph d)) x) : qw_M_loose x post :=
  m_orph_loop hd ok qFU 1 (by omega) ok.1 (by have := ok.2.1; unfold qFU; omega) h
end MS
theorem q_bt (a p k : Nat) : (((32 : Int32) * nI a) + ((8 : Int32) * nI p)) + nI k = nI (32 * a + 8 * p + k) := by
  rw [q_l32, pk_mul, q_l8, pk_mul, nI_add, nI_add]
theorem q_ct (a p k : Nat) : ((32 : Int32) * nI a) + (((8 : Int32) * nI p) + nI k) = nI (32 * a + 8 * p + k) := by
  rw [q_l32, pk_mul, q_l8, pk_mul, nI_add, nI_add]
  congr 1
  omega
theorem q_dt (a k : Nat) : ((32 : Int32) * nI a) + nI k = nI (32 * a + k) := by
  rw [q_l32, pk_mul, nI_add]
section MC
variable {x : QX}
theorem m_plain_loop {post : QX → Prop} {c p v : Nat} (hc : c < 60) (hp : p < 4) (hv : v < 8) {g : Nat → Int64} (h : post (sB x 0 (qm_part g (qm_one v) (32 * c + 8 * p) 8))) :
    ∀ (f k : Nat), k ≤ 8 → 8 - k < f → qw_M_setPlain_H3 post f (nI c) (nI p) (nI v) (nI k) (sB x 0 (qm_part g (qm_one v) (32 * c + 8 * p) k)) := by
  intro f
  induction f with
  | zero => intro k _ h1; omega
  | succ f ih =>
    intro k h1 h2
    refine ⟨fun e => ?_, fun e => ?_⟩
    · have e1 := (nI_leI (by decide) (by omega)).mp (show nI 8 ≤ nI k from e)
      rw [show k = 8 by omega]; exact h
    · have e1 : ¬ 8 ≤ k := fun q => e ((nI_leI (by decide) (by omega)).mpr q)
      have hin : vp_in (nI (32 * c + 8 * p + k)) 1920 := vp_in_nI (by omega) (by decide)
      have hrec : ∀ y : QX, y = sB (sB x 0 (qm_part g (qm_one v) (32 * c + 8 * p) k)) 0 (vp_updL (qm_part g (qm_one v) (32 * c + 8 * p) k) (32 * c + 8 * p + k) (qm_one v k)) → qw_M_setPlain_H3 post f (nI c) (nI p) (nI v) (nI k + 1) y := fun y ey => by
        rw [ey, sB_sB, qm_part_succ, nI_1]
        exact ih (k + 1) (by omega) (by omega)
      refine ⟨fun q => ?_, fun q => ?_⟩
      · rw [q_bt]
        refine ⟨hin, fun y ey => hrec y ?_⟩
        rw [nI_clamp (by omega)] at ey
        have : ¬ k = v := fun z => q (by rw [z])
        rw [ey]
        unfold qm_one
        rw [if_neg this]
        rfl
      · rw [q_bt]
        refine ⟨hin, fun y ey => hrec y ?_⟩
        rw [nI_clamp (by omega)] at ey
        have : k = v := (nI_eq (by omega) (by omega)).mp q
        rw [ey]
        unfold qm_one
        rw [if_pos this]
        rfl
theorem m_plain {post : QX → Prop} {c p v : Nat} (hc : c < 60) (hp : p < 4) (hv : v < 8) (h : post (sB x 0 (qm_part (gB x 0) (qm_one v) (32 * c + 8 * p) 8))) : qw_M_setPlain (nI c) (nI p) (nI v) x post := by
  have k := m_plain_loop (x := x) (post := post) (g := gB x 0) hc hp hv h qFU 0 (by omega) (by unfold qFU; omega)
  rw [qm_part_0, sB_id] at k
  exact k
theorem m_copy_loop {post : QX → Prop} {t c : Nat} (ht : t < 60) (hc : c < 60) (ne : t ≠ c) {g : Nat → Int64} (h : post (sB x 0 (qm_part g (fun k => g (32 * c + k)) (32 * t) 32))) :
    ∀ (f k : Nat), k ≤ 32 → 32 - k < f → qw_M_copyContents_H2 post f (nI t) (nI c) (nI k) (sB x 0 (qm_part g (fun k => g (32 * c + k)) (32 * t) k)) := by
  intro f
  induction f with
  | zero => intro k _ h1; omega
  | succ f ih =>
    intro k h1 h2
    refine ⟨fun e => ?_, fun e => ?_⟩
    · have e1 := (nI_leI (by decide) (by omega)).mp (show nI 32 ≤ nI k from e)
      rw [show k = 32 by omega]; exact h
    · have e1 : ¬ 32 ≤ k := fun q => e ((nI_leI (by decide) (by omega)).mpr q)
      rw [q_dt, q_dt]
      refine ⟨vp_in_nI (by omega) (by decide), vp_in_nI (by omega) (by decide), fun y ey => ?_⟩
      rw [nI_clamp (by omega), nI_clamp (by omega), gB_sB, if_pos rfl, sB_sB, qm_part_out (i := 32 * c + k) (by omega)] at ey
      rw [ey, qm_part_succ g (fun k => g (32 * c + k)) (32 * t) k]
      show qw_M_copyContents_H2 post f (nI t) (nI c) (nI k + 1) _
      rw [nI_1]
      exact ih (k + 1) (by omega) (by omega)
theorem m_copy {post : QX → Prop} {t c : Nat} (ht : t < 60) (hc : c < 60) (ne : t ≠ c) (h : post (sB x 0 (qm_part (gB x 0) (fun k => gB x 0 (32 * c + k)) (32 * t) 32))) : qw_M_copyContents (nI t) (nI c) x post := by
  have k := m_copy_loop (x := x) (post := post) (g := gB x 0) ht hc ne h qFU 0 (by omega) (by unfold qFU; omega)
  rw [qm_part_0, sB_id] at k
  exact k
theorem qm_part_cpy (g : Nat → Int64) (t c : Nat) : qm_part g (fun k => g (32 * c + k)) (32 * t) 32 = va_cpy g g (32 * c) (32 * t) 32 := by
  funext i
  unfold qm_part va_cpy
  rfl
theorem m_mixi_loop {K : Int32 → Int32 → Int32 → Int32 → Int32 → QX → Prop} {post : QX → Prop} {t a b z p : Nat} (ht : t < 60) (ha : a < 60) (hb : b < 60) (hz : z < 60) (hp : p < 4) (na : t ≠ a) (nb : t ≠ b) (nz : t ≠ z) {G R : Nat → Int64}
    (hR : ∀ v, v < 8 → G (32 * a + 8 * p + v) + G (32 * b + 8 * p + v) - G (32 * z + 8 * p + v) = R v) (h : K (nI t) (nI a) (nI b) (nI z) (nI (p + 1)) (sB x 0 (qm_part G (qm_cell R) (32 * t + 8 * p) 8))) :
    ∀ (f k : Nat), k ≤ 8 → 8 - k < f → qw_M_mix_H18 K post f (nI t) (nI a) (nI b) (nI z) (nI p) (nI (qm_nz R k)) (nI (qm_top R k)) (nI k) (sB x 0 (qm_part G R (32 * t + 8 * p) k)) := by
  intro f
  induction f with
  | zero => intro k _ h1; omega
  | succ f ih =>
    intro k h1 h2
    have hnz := qm_nz_le R k
    refine ⟨fun e => ?_, fun e => ?_⟩
    · have e1 := (nI_leI (by decide) (by omega)).mp (show nI 8 ≤ nI k from e)
      have e2 : k = 8 := by omega
      subst e2
      have htp : qm_top R 8 < 8 := by have := qm_top_lt R 8; omega
      refine ⟨fun q => ?_, fun q => ?_⟩
      · have q1 : ¬ qm_nz R 8 = 2 := fun z => q (by rw [z]; rfl)
        unfold qm_cell at h
        rw [if_neg q1] at h
        show K _ _ _ _ (nI p + 1) _
        rw [nI_1]; exact h
      · have q1 : qm_nz R 8 = 2 := (nI_eq (by omega) (by decide)).mp (show nI (qm_nz R 8) = nI 2 from q)
        unfold qm_cell at h
        rw [if_pos q1] at h
        refine m_plain ht hp htp ?_
        rw [gB_sB, if_pos rfl, sB_sB]
        have hpp : qm_part (qm_part G R (32 * t + 8 * p) 8) (qm_one (qm_top R 8)) (32 * t + 8 * p) 8 = qm_part G (qm_one (qm_top R 8)) (32 * t + 8 * p) 8 := by
          funext i
          by_cases hi : i < 32 * t + 8 * p ∨ 32 * t + 8 * p + 8 ≤ i
          · rw [qm_part_out hi, qm_part_out hi, qm_part_out hi]
          · obtain ⟨j, hj, rfl⟩ : ∃ j, j < 8 ∧ i = 32 * t + 8 * p + j := ⟨i - (32 * t + 8 * p), by omega, by omega⟩
            rw [qm_part_in hj, qm_part_in hj]
        rw [hpp]
        show K _ _ _ _ (nI p + 1) _
        rw [nI_1]; exact h
    · have e1 : ¬ 8 ≤ k := fun q => e ((nI_leI (by decide) (by omega)).mpr q)
      intro s es
      rw [es, q_ct, q_ct, q_ct, q_ct]
      refine ⟨vp_in_nI (by omega) (by decide), vp_in_nI (by omega) (by decide), vp_in_nI (by omega) (by decide), fun u eu => ⟨vp_in_nI (by omega) (by decide), fun y ey => ?_⟩⟩
      rw [nI_clamp (by omega), nI_clamp (by omega), nI_clamp (by omega), gB_sB, if_pos rfl, qm_part_out (i := 32 * a + 8 * p + k) (by omega), qm_part_out (i := 32 * b + 8 * p + k) (by omega), qm_part_out (i := 32 * z + 8 * p + k) (by omega), hR k (by omega)] at eu
      rw [nI_clamp (by omega), gB_sB, if_pos rfl, sB_sB, eu, qm_part_succ] at ey
      have go := ih (k + 1) (by omega) (by omega)
      rw [← ey] at go
      unfold qm_nz qm_top at go
      rw [← nI_1 k] at go
      rw [eu]
      refine ⟨fun q => ?_, fun q => ?_⟩
      · intro w ew
        rw [if_pos ((lg_0 _).mp q)] at go
        refine ⟨fun q2 => ?_, fun q2 => ?_⟩
        · rw [if_pos ((lg_cmp_le _ _).mp q2)] at go
          rw [ew, q_l0, nI_add]
          exact go
        · rw [if_neg (fun z => q2 ((lg_cmp_le _ _).mpr z))] at go
          rw [ew, q_l0, nI_add]
          exact go
      · intro w ew
        rw [if_neg (fun z => q ((lg_0 _).mpr z))] at go
        refine ⟨fun q2 => ?_, fun q2 => ?_⟩
        · rw [if_pos ((lg_cmp_le _ _).mp q2)] at go
          rw [ew, show (1 : Int32) = nI 1 from q_l1, nI_add]
          exact go
        · rw [if_neg (fun z => q2 ((lg_cmp_le _ _).mpr z))] at go
          rw [ew, show (1 : Int32) = nI 1 from q_l1, nI_add]
          exact go
def qm_GM (g : Nat → Int64) (n a b z p : Nat) : Nat → Int64 := fun i => if 32 * n ≤ i ∧ i < 32 * n + 8 * p then qm_cell (qm_raw g a b z ((i - 32 * n) / 8)) ((i - 32 * n) % 8) else g i
theorem qm_GM_0 (g : Nat → Int64) (n a b z : Nat) : qm_GM g n a b z 0 = g := by
  funext i
  unfold qm_GM
  rw [if_neg (by omega)]
theorem qm_GM_succ (g : Nat → Int64) (n a b z p : Nat) : qm_part (qm_GM g n a b z p) (qm_cell (qm_raw g a b z p)) (32 * n + 8 * p) 8 = qm_GM g n a b z (p + 1) := by
  funext i
  by_cases hi : i < 32 * n + 8 * p ∨ 32 * n + 8 * p + 8 ≤ i
  · rw [qm_part_out hi]
    unfold qm_GM
    by_cases h : 32 * n ≤ i ∧ i < 32 * n + 8 * p
    · rw [if_pos h, if_pos (by omega)]
    · rw [if_neg h, if_neg (by omega)]
  · obtain ⟨j, hj, rfl⟩ : ∃ j, j < 8 ∧ i = 32 * n + 8 * p + j := ⟨i - (32 * n + 8 * p), by omega, by omega⟩
    rw [qm_part_in hj]
    unfold qm_GM
    rw [if_pos (by omega)]
    rw [show (32 * n + 8 * p + j - 32 * n) / 8 = p by omega, show (32 * n + 8 * p + j - 32 * n) % 8 = j by omega]
theorem m_mix_loop {post : QX → Prop} {t a b z : Nat} (ht : t < 60) (ha : a < t) (hb : b < t) (hz : z < t) {g : Nat → Int64} (h : post (sB x 0 (qm_mix g t a b z))) :
    ∀ (f p : Nat), p ≤ 4 → 4 - p < f → qw_M_mix_H3 post f (nI t) (nI a) (nI b) (nI z) (nI p) (sB x 0 (qm_GM g t a b z p)) := by
  intro f
  induction f with
  | zero => intro p _ h1; omega
  | succ f ih =>
    intro p h1 h2
    refine ⟨fun e => ?_, fun e => ?_⟩
    · have e1 := (nI_leI (by decide) (by omega)).mp (show nI 4 ≤ nI p from e)
      rw [show p = 4 by omega]; exact h
    · have e1 : ¬ 4 ≤ p := fun q => e ((nI_leI (by decide) (by omega)).mpr q)
      have go := ih (p + 1) (by omega) (by omega)
      rw [← qm_GM_succ] at go
      have k := m_mixi_loop (x := x) (K := qw_M_mix_H3 post f) (post := post) (t := t) (a := a) (b := b) (z := z) (p := p) (by omega) (by omega) (by omega) (by omega) (by omega) (by omega) (by omega) (by omega) (G := qm_GM g t a b z p) (R := qm_raw g a b z p) (fun v hv => by
        unfold qm_GM qm_raw
        rw [if_neg (by omega), if_neg (by omega), if_neg (by omega)]) go qFU 0 (by omega) (by unfold qFU; omega)
      rw [qm_part_0] at k
      exact k
theorem m_mix {post : QX → Prop} {t a b z : Nat} (ht : t < 60) (ha : a < t) (hb : b < t) (hz : z < t) (h : post (sB x 0 (qm_mix (gB x 0) t a b z))) : qw_M_mix (nI t) (nI a) (nI b) (nI z) x post := by
  have k := m_mix_loop (x := x) (post := post) ht ha hb hz h qFU 0 (by omega) (by unfold qFU; omega)
  rw [qm_GM_0, sB_id] at k
  exact k
end MC
