/-! Pointers are placed; the reference's settling. -/
def qm_pl (d : QD) (c : Nat) : Nat := qm_place (qD_v d) (qm_nx d (qD_v d)) 120 c
def qm_mk (d : QD) (v : Int32) : Int32 := if v < 0 then v else nI (qm_pl d v.toNatClampNeg)
/-- a mark: none, disputed, or a commit below n -/
def q_mark (n : Nat) (v : Int32) : Prop := v = -1 ∨ v = -2 ∨ ∃ c, c < n ∧ v = nI c
theorem qm_pl_vis {d : QD} {c : Nat} (h : qD_v d c = true) : qm_pl d c = c := by
  unfold qm_pl
  show (if qD_v d c = true then c else _) = c
  rw [if_pos h]
theorem qm_pl_v {d : QD} (ok : qD_ok d) (c : Nat) : qD_v d (qm_pl d c) = true := qm_place_v ok _ _
theorem qm_mk_c {d : QD} {c : Nat} (hc : c < 60) : qm_mk d (nI c) = nI (qm_pl d c) := by
  unfold qm_mk
  rw [if_neg (nI_pos (by omega)), nI_clamp (by omega)]
theorem r_ptr_loop {post : QX → Prop} {x : QX} {d : QD} (hd : qC_d x d) (ok : qD_ok d) {g : Nat → Int32} (hg : ∀ m, m < 3 → q_mark (qD_n d) (g m)) (h : ∀ f : Nat → Int32, (∀ m, m < 3 → f m = qm_mk d (g m)) → post (sA x 7 f)) :
    ∀ (fu m : Nat) (f : Nat → Int32), m ≤ 3 → 3 - m < fu → (∀ j, j < m → f j = qm_mk d (g j)) → (∀ j, m ≤ j → f j = g j) → qw_D_settlePointers_H18 post fu (nI m) (sA x 7 f) := by
  have o2 := ok.2.1
  intro fu
  induction fu with
  | zero => intro m f _ h1; omega
  | succ fu ih =>
    intro m f h1 h2 hlo hhi
    refine ⟨fun e => ?_, fun e => ?_⟩
    · have e1 := (nI_leI (by decide) (by omega)).mp (show nI 3 ≤ nI m from e)
      exact h f (fun j hj => hlo j (by omega))
    · have e1 : ¬ 3 ≤ m := fun q => e ((nI_leI (by decide) (by omega)).mpr q)
      have hin : vp_in (nI m) 3 := vp_in_nI (by omega) (by decide)
      have cl : (nI m).toNatClampNeg = m := nI_clamp (by omega)
      have hd7 : ∀ f' : Nat → Int32, qC_d (sA x 7 f') d := fun f' => hd
      have hnd : gI (sA x 7 f) 2 = nI (qD_n d) := hd.1
      refine ⟨hin, ?_⟩
      rw [cl]
      show qw_C_has (f m) (sA x 7 f) _
      rw [hhi m (Nat.le_refl _)]
      have skip : qm_mk d (g m) = g m → qw_D_settlePointers_H18 post fu (nI m + 1) (sA x 7 f) := fun q => by
        rw [nI_1]
        refine ih (m + 1) f (by omega) (by omega) (fun j hj => ?_) (fun j hj => hhi j (by omega))
        by_cases z : j = m
        · rw [z, hhi m (Nat.le_refl _), q]
        · exact hlo j (by omega)
      rcases hg m (by omega) with q | q | ⟨c, hc, q⟩
      · rw [q] at skip ⊢
        exact r_C_has_out hnd (q_out_m1 _) ⟨fun _ => skip rfl, fun z => absurd rfl z⟩
      · rw [q] at skip ⊢
        exact r_C_has_out hnd (Or.inl (by decide)) ⟨fun _ => skip rfl, fun z => absurd rfl z⟩
      · rw [q]
        refine r_C_has_in hnd o2 hc ⟨fun z => absurd z (by decide), fun _ => ⟨hin, ?_⟩⟩
        show qw_D_placeOf (f m) (gL x 0) (sA x 7 f) _
        rw [hhi m (Nat.le_refl _), q]
        refine r_place (hd7 f) ok (tw := qD_v d) (fun c hc => hd.2.2.2.2.2.1 c hc) hc ⟨hin, fun x2 e2 => ?_⟩
        rw [e2, gA_sA, if_pos rfl, sA_sA]
        show qw_D_settlePointers_H18 post fu (nI m + 1) _
        rw [nI_1]
        refine ih (m + 1) _ (by omega) (by omega) (fun j hj => ?_) (fun j hj => ?_)
        · rw [upd_at]
          by_cases z : j = m
          · rw [if_pos z, z, q, qm_mk_c (by omega)]; rfl
          · rw [if_neg z]; exact hlo j (by omega)
        · rw [upd_at, if_neg (by omega)]; exact hhi j (by omega)
theorem r_ptr {post : QX → Prop} {x : QX} {d : QD} (hd : qC_d x d) (ok : qD_ok d) {w : Nat} (hw : w < qD_n d) (hx : gI x 5 = nI w) (hg : ∀ m, m < 3 → q_mark (qD_n d) (gA x 7 m)) (h : ∀ f : Nat → Int32, (∀ m, m < 3 → f m = qm_mk d (gA x 7 m)) → post (sA (sI x 5 (nI (qm_pl d w))) 7 f)) : qw_D_settlePointers x post := by
  unfold qw_D_settlePointers
  rw [hx]
  refine r_place hd ok (tw := qD_v d) (fun c hc => hd.2.2.2.2.2.1 c hc) hw ?_
  intro x2 e2
  have k := r_ptr_loop (post := post) (x := sI x 5 (nI (qm_pl d w))) (d := d) hd ok (g := gA x 7) hg h qFU 0 (gA x 7) (by omega) (by unfold qFU; omega) (fun j hj => by omega) (fun j _ => rfl)
  have e3 : sA (sI x 5 (nI (qm_pl d w))) 7 (gA x 7) = x2 := by
    rw [e2]
    exact sA_id (sI x 5 (nI (qm_pl d w))) 7
  rw [e3] at k
  exact k
/-- of the reference's cells nothing but commits, view, pointers and 'full' changes -/
def qM_fr (y y' : QX) : Prop := (∀ k, k ≠ 0 → k ≠ 6 → k ≠ 9 → gI y' k = gI y k) ∧ (∀ k, k ≠ 0 → k ≠ 1 → k ≠ 9 → k ≠ 10 → k ≠ 11 → gA y' k = gA y k) ∧ (∀ k, k ≠ 0 → gB y' k = gB y k)
theorem qM_fr_rf (x : QX) : qM_fr x x := ⟨fun _ _ _ _ => rfl, fun _ _ _ _ _ _ => rfl, fun _ _ => rfl⟩
theorem qM_fr_tr {a b c : QX} (h1 : qM_fr a b) (h2 : qM_fr b c) : qM_fr a c :=
  ⟨fun k p q r => (h2.1 k p q r).trans (h1.1 k p q r), fun k p q r s t => (h2.2.1 k p q r s t).trans (h1.2.1 k p q r s t), fun k h => (h2.2.2 k h).trans (h1.2.2 k h)⟩
def q_addM (y : QX) (n : Nat) (ch pa : Int32) : QX := sI (sA (sA y 0 (upd (gA y 0) n ch)) 1 (upd (gA y 1) n pa)) 0 (nI (n + 1))
theorem m_fresh {post : Int32 → QX → Prop} {y : QX} {n : Nat} {ch pa : Int32} (hn : gI y 0 = nI n) (o2 : n < 60) (h : post (nI n) (q_addM y n ch pa)) : qw_M_fresh ch pa y post := by
  unfold qw_M_fresh
  rw [hn]
  refine ⟨fun _ => ⟨vp_in_nI o2 (by decide), fun y1 e1 => ?_⟩, fun e => absurd ((nI_eq (by omega) (by decide)).mp (show nI n = nI 60 from e)) (by omega)⟩
  have h1 : gI y1 0 = nI n := by rw [e1]; exact hn
  rw [h1]
  refine ⟨vp_in_nI o2 (by decide), fun y2 e2 y3 e3 => ?_⟩
  have h2 : gI y2 0 = nI n := by rw [e2]; exact h1
  have h3 : y3 = q_addM y n ch pa := by
    rw [e3, h2, q_l1, nI_add, e2, e1, nI_clamp (by omega)]
    rfl
  have h4 : gI y3 0 - 1 = nI n := by
    rw [h3]
    exact nI_pred n
  rw [h4, h3]
  exact h
theorem m_fresh_full {post : Int32 → QX → Prop} {y : QX} {ch pa : Int32} (hn : gI y 0 = nI 60) (h : post (-1) (sI y 9 1)) : qw_M_fresh ch pa y post := by
  unfold qw_M_fresh
  rw [hn]
  exact ⟨fun e => absurd rfl e, fun _ y1 e1 => by rw [e1]; exact h⟩
def q_repM (y : QX) (c t : Nat) : QX := sA (sA y 9 (upd (upd (gA y 9) c 0) t 1)) 11 (upd (gA y 11) c (nI t))
theorem m_replace {post : QX → Prop} {y : QX} {c t : Nat} (hc : c < 60) (ht : t < 60) (h : post (q_repM y c t)) : qw_M_replace (nI c) (nI t) y post := by
  refine ⟨vp_in_nI hc (by decide), fun y1 e1 => ⟨vp_in_nI ht (by decide), fun y2 e2 => ⟨vp_in_nI hc (by decide), fun y3 e3 => ?_⟩⟩⟩
  have : y3 = q_repM y c t := by
    rw [e3, e2, e1, nI_clamp (by omega), nI_clamp (by omega), sA_sA]
    rfl
  rw [this]
  exact h
theorem upd_rep (f : Nat → Int32) (c t i : Nat) : upd (upd f c 0) t 1 i = if i = t then 1 else if i = c then 0 else f i := by
  rw [upd_at, upd_at]
theorem qM_add {x : QX} {d : QD} (hd : qM_d x d) (ok : qD_ok d) {y q : Nat} (hy : 1 ≤ y) (hyn : y < qD_n d) (hq : q < qD_n d) (hn : qD_n d < 60) :
    qM_d (q_repM (sB (q_addM x (qD_n d) (gA x 0 y) (nI q)) 0 (qm_mix (gB x 0) (qD_n d) y q (qD_p d y))) y (qD_n d)) (qD_add d y q) := by
  obtain ⟨h1, h2, h3, h4, h5, h6, h7⟩ := hd
  obtain ⟨o1, o2, o3, o4, o5, o6⟩ := ok
  have hp := o3 y hy hyn
  refine ⟨rfl, ?_, ?_, ?_, ?_, ?_, ?_⟩
  · show upd (gA x 1) (qD_n d) (nI q) 0 = -1
    rw [upd_at, if_neg (by omega)]; exact h2
  · intro c hc hcn
    have hcn : c < qD_n d + 1 := hcn
    show upd (gA x 1) (qD_n d) (nI q) c = nI (if c = qD_n d then q else qD_p d c)
    rw [upd_at]
    by_cases e : c = qD_n d
    · rw [if_pos e, if_pos e]
    · rw [if_neg e, if_neg e]; exact h3 c hc (by omega)
  · intro c hcn
    have hcn : c < qD_n d + 1 := hcn
    show upd (gA x 0) (qD_n d) (gA x 0 y) c = (if c = qD_n d then qD_c d y else qD_c d c)
    rw [upd_at]
    by_cases e : c = qD_n d
    · rw [if_pos e, if_pos e]; exact h4 y hyn
    · rw [if_neg e, if_neg e]; exact h4 c (by omega)
  · intro i hi
    exact qm_mix_congr hyn hq (by omega) h5 i hi
  · intro c hc
    show upd (upd (gA x 9) y 0) (qD_n d) 1 c = qz (if c = qD_n d then true else if c = y then false else qD_v d c)
    rw [upd_rep]
    by_cases e : c = qD_n d
    · rw [if_pos e, if_pos e]; rfl
    · rw [if_neg e, if_neg e]
      by_cases e2 : c = y
      · rw [if_pos e2, if_pos e2]; rfl
      · rw [if_neg e2, if_neg e2]; exact h6 c hc
  · intro c hc
    show upd (gA x 11) y (nI (qD_n d)) c = qm_o (if c = y then some (qD_n d) else qD_r d c)
    rw [upd_at]
    by_cases e : c = y
    · rw [if_pos e, if_pos e]; rfl
    · rw [if_neg e, if_neg e]; exact h7 c hc
theorem qM_fr_step (x : QX) (n : Nat) (ch pa : Int32) (g : Nat → Int64) (c t : Nat) : qM_fr x (q_repM (sB (q_addM x n ch pa) 0 g) c t) := by
  refine ⟨fun k p q r => ?_, fun k p q r s t => ?_, fun k h => ?_⟩
  · show (if k = 0 then _ else gI x k) = _
    rw [if_neg p]
  · show (if k = 11 then _ else if k = 9 then _ else if k = 1 then _ else if k = 0 then _ else gA x k) = _
    rw [if_neg t, if_neg r, if_neg q, if_neg p]
  · show (if k = 0 then _ else gB x k) = _
    rw [if_neg h]
theorem qM_step_9 (x : QX) (n : Nat) (ch pa : Int32) (g : Nat → Int64) (c t : Nat) : gI (q_repM (sB (q_addM x n ch pa) 0 g) c t) 9 = gI x 9 := rfl
theorem qM_step_6 (x : QX) (n : Nat) (ch pa : Int32) (g : Nat → Int64) (c t : Nat) : gI (q_repM (sB (q_addM x n ch pa) 0 g) c t) 6 = gI x 6 := rfl
theorem qM_step_10 (x : QX) (n : Nat) (ch pa : Int32) (g : Nat → Int64) (c t : Nat) : gA (q_repM (sB (q_addM x n ch pa) 0 g) c t) 10 = gA x 10 := rfl
theorem sI_id (x : QX) (k : Nat) : sI x k (gI x k) = x := by
  unfold sI gI
  have h : va_up x.1 k (x.1 k) = x.1 := by
    funext j
    unfold va_up
    by_cases e : j = k
    · rw [if_pos e, e]
    · rw [if_neg e]
  rw [h]
theorem upd_id (f : Nat → Int32) (k : Nat) : upd f k (f k) = f := by
  funext j
  rw [upd_at]
  by_cases e : j = k
  · rw [if_pos e, e]
  · rw [if_neg e]
/-- nowWork is placed -/
theorem m_work {post : QX → Prop} {y : QX} {d : QD} (hd : qM_d y d) (ok : qD_ok d) {w : Nat} (hw : w < qD_n d) (hy : gI y 6 = nI w) (hf : gI y 9 = 0) (h : post (sI y 6 (nI (qm_pl d w)))) :
    ((¬ (gI y 9) = 0) → ∀ x3 : QX, x3 = sI y 6 (gI y 6) → post x3) ∧ (((gI y 9) = 0) → vp_in (gI y 6) 60 ∧ (((¬ (gA y 9 (gI y 6).toNatClampNeg) = 0) → ∀ x4 : QX, x4 = sI y 6 (gI y 6) → post x4) ∧ (((gA y 9 (gI y 6).toNatClampNeg) = 0) → qw_M_place (gI y 6) (-1 : Int32) y (fun r6 x5 => ∀ x7 : QX, x7 = sI x5 6 r6 → post x7)))) := by
  have o2 := ok.2.1
  refine ⟨fun e => absurd hf e, fun _ => ?_⟩
  rw [hy, nI_clamp (by omega), hd.2.2.2.2.2.1 w (by omega)]
  refine ⟨vp_in_nI (by omega) (by decide), qz_d (fun q x4 e4 => ?_) (fun q => ?_)⟩
  · rw [e4]
    rw [qm_pl_vis q] at h
    exact h
  · refine m_place hd ok (Or.inl ⟨rfl, rfl⟩) hw ?_
    intro x7 e7
    rw [e7]; exact h
theorem m_ptr_loop {post : QX → Prop} {y : QX} {d : QD} (hd : qM_d y d) (ok : qD_ok d) {w : Nat} (hw : w < qD_n d) (hy : gI y 6 = nI w) (hf : gI y 9 = 0) {p : Int32} {g : Nat → Int32} (hg : ∀ m, m < 3 → q_mark (qD_n d) (g m)) (h : ∀ f : Nat → Int32, (∀ m, m < 3 → f m = qm_mk d (g m)) → post (sI (sA y 10 f) 6 (nI (qm_pl d w)))) :
    ∀ (fu m : Nat) (f : Nat → Int32), m ≤ 3 → 3 - m < fu → (∀ j, j < m → f j = qm_mk d (g j)) → (∀ j, m ≤ j → f j = g j) → qw_M_settle_H73 post fu p (nI m) (sA y 10 f) := by
  have o2 := ok.2.1
  intro fu
  induction fu with
  | zero => intro m f _ h1; omega
  | succ fu ih =>
    intro m f h1 h2 hlo hhi
    have hd7 : ∀ f' : Nat → Int32, qM_d (sA y 10 f') d := fun f' => hd
    refine ⟨fun e => ?_, fun e => ?_⟩
    · have e1 := (nI_leI (by decide) (by omega)).mp (show nI 3 ≤ nI m from e)
      exact m_work (hd7 f) ok hw hy hf (h f (fun j hj => hlo j (by omega)))
    · have e1 : ¬ 3 ≤ m := fun q => e ((nI_leI (by decide) (by omega)).mpr q)
      have hin : vp_in (nI m) 3 := vp_in_nI (by omega) (by decide)
      have cl : (nI m).toNatClampNeg = m := nI_clamp (by omega)
      refine ⟨fun q => absurd hf q, fun _ => ⟨hin, ?_⟩⟩
      rw [cl]
      have hfm : gA (sA y 10 f) 10 = f := rfl
      have skip : qm_mk d (g m) = g m → ∀ x13 : QX, x13 = sA (sA y 10 f) 10 (upd (gA (sA y 10 f) 10) m (gA (sA y 10 f) 10 m)) → qw_M_settle_H73 post fu p (nI m + 1) x13 := fun q x13 e13 => by
        rw [e13, hfm, upd_id, sA_sA, nI_1]
        refine ih (m + 1) f (by omega) (by omega) (fun j hj => ?_) (fun j hj => hhi j (by omega))
        by_cases z : j = m
        · rw [z, hhi m (Nat.le_refl _), q]
        · exact hlo j (by omega)
      have hv : gA (sA y 10 f) 10 m = g m := hhi m (Nat.le_refl _)
      rcases hg m (by omega) with q | q | ⟨c, hc, q⟩
      · refine ⟨fun _ => ⟨hin, hin, skip (by rw [q]; rfl)⟩, fun z => absurd (by rw [hv, q]; decide) z⟩
      · refine ⟨fun _ => ⟨hin, hin, skip (by rw [q]; rfl)⟩, fun z => absurd (by rw [hv, q]; decide) z⟩
      · refine ⟨fun z => absurd z (by rw [hv, q]; exact nI_pos (by omega)), fun _ => ⟨hin, ?_⟩⟩
        have hc9 : gA (sA y 10 f) 9 (gA (sA y 10 f) 10 m).toNatClampNeg = qz (qD_v d c) := by
          rw [hv, q, nI_clamp (by omega)]
          exact hd.2.2.2.2.2.1 c (by omega)
        refine ⟨by rw [hv, q]; exact vp_in_nI (by omega) (by decide), ?_⟩
        rw [hc9]
        refine qz_d (fun z => ⟨hin, hin, skip (by rw [q, qm_mk_c (by omega), qm_pl_vis z])⟩) (fun z => ⟨hin, ?_⟩)
        rw [hv, q]
        refine m_place (hd7 f) ok (Or.inl ⟨rfl, rfl⟩) hc ⟨hin, fun x17 e17 => ?_⟩
        rw [e17, hfm, sA_sA]
        show qw_M_settle_H73 post fu p (nI m + 1) _
        rw [nI_1]
        refine ih (m + 1) _ (by omega) (by omega) (fun j hj => ?_) (fun j hj => ?_)
        · rw [upd_at]
          by_cases z : j = m
          · rw [if_pos z, z, q, qm_mk_c (by omega)]; rfl
          · rw [if_neg z]; exact hlo j (by omega)
        · rw [upd_at, if_neg (by omega)]; exact hhi j (by omega)
theorem m_settle_loop {post : QX → Prop} {y0 : QX} {w : Nat} {g : Nat → Int32} : ∀ (fu r : Nat) (d : QD) (y : QX), qM_d y d → qD_ok d → qM_fr y0 y → gI y 9 = 0 → gI y 6 = nI w → w < qD_n d → gA y 10 = g → (∀ m, m < 3 → q_mark (qD_n d) (g m)) → r + 1 ≤ qD_n d → 62 - r < fu →
    ((qm_settle (60 - r) d).1 = false → ∀ y', qM_d y' (qm_settle (60 - r) d).2 → qM_fr y0 y' → gI y' 9 = 1 → post y') →
    ((qm_settle (60 - r) d).1 = true → ∀ y', qM_d y' (qm_settle (60 - r) d).2 → qM_fr y0 y' → gI y' 9 = 0 → gI y' 6 = nI (qm_pl (qm_settle (60 - r) d).2 w) → (∀ m, m < 3 → gA y' 10 m = qm_mk (qm_settle (60 - r) d).2 (g m)) → post y') →
    qw_M_settle_H5 post fu (qm_o (qm_orph d)) y := by
  intro fu
  induction fu with
  | zero => intro r d y _ _ _ _ _ _ _ _ _ h; omega
  | succ fu ih =>
    intro r d y hd ok hfr hf h6 hw h10 hg hr h2 hF hT
    have hn := hd.1
    have o2 := ok.2.1
    obtain ⟨m, hm⟩ : ∃ m, 60 - r = m + 1 := ⟨59 - r, by omega⟩
    rw [hm] at hF hT
    unfold qm_settle at hF hT
    cases eo : qm_orph d with
    | none =>
      rw [eo] at hF hT
      refine ⟨fun _ => ?_, fun e => absurd (by decide) e⟩
      have k := m_ptr_loop (post := post) hd ok hw h6 hf (p := qm_o none) (g := g) hg (fun f hfm => by
        refine hT rfl _ hd (qM_fr_tr hfr ⟨fun k p q r => ?_, fun k p q r s t => ?_, fun k h => rfl⟩) hf rfl hfm
        · show (if k = 6 then _ else gI y k) = _
          rw [if_neg q]
        · show (if k = 10 then _ else gA y k) = _
          rw [if_neg s]) qFU 0 (gA y 10) (by omega) (by unfold qFU; omega) (fun j hj => by omega) (fun j _ => by rw [h10])
      rw [sA_id] at k
      exact k
    | some c =>
      rw [eo] at hF hT
      dsimp only at hF hT
      obtain ⟨hy1, hy2, hy3, hy4⟩ := qm_orph_some eo
      have hp := ok.2.2.1 c hy1 hy2
      have cl : (nI c).toNatClampNeg = c := nI_clamp (by omega)
      have hin : vp_in (nI c) 60 := vp_in_nI (by omega) (by decide)
      show qw_M_settle_H5 post (fu + 1) (nI c) y
      refine ⟨fun e => absurd e (nI_pos (by omega)), fun _ => ⟨fun e => absurd hf e, fun _ => ⟨hin, ?_⟩⟩⟩
      show qw_M_place (gA y 1 (nI c).toNatClampNeg) (nI c) y _
      rw [cl, hd.2.2.1 c hy1 hy2]
      refine m_place hd ok (Or.inr ⟨c, hy2, rfl, rfl⟩) (by omega) ⟨hin, ?_⟩
      have hq := qm_place_lt ok 120 (qD_p d c) (g := qm_nx d (qm_tw d c))
      by_cases h60 : qD_n d = 60
      · rw [if_pos h60] at hF hT
        refine m_fresh_full (by rw [hn, h60]) ⟨fun _ => ?_, fun e => absurd (by decide) e⟩
        -- once more round: full
        obtain ⟨fu2, rfl⟩ : ∃ z, fu = z + 1 := ⟨fu - 1, by omega⟩
        have h9 : ¬ gI (sI y 9 1) 9 = 0 := by show ¬ (1 : Int32) = 0; decide
        refine ⟨fun e => absurd e (nI_pos (by omega)), fun _ => ⟨fun _ => ?_, fun e => absurd e h9⟩⟩
        refine ⟨fun e => absurd e (by decide), fun _ => ⟨fun _ => ⟨fun _ x8 e8 => ?_, fun e => absurd e h9⟩, fun e => absurd e h9⟩⟩
        rw [e8, sI_id]
        refine hF rfl _ hd (qM_fr_tr hfr ⟨fun k p q r => ?_, fun k p q r s t => rfl, fun k h => rfl⟩) rfl
        show (if k = 9 then _ else gI y k) = _
        rw [if_neg r]
      · rw [if_neg h60] at hF hT
        refine m_fresh hn (by omega) ⟨fun e => absurd e (nI_pos (by omega)), fun _ => ⟨hin, ?_⟩⟩
        have e1 : gA (q_addM y (qD_n d) (gA y 0 c) (nI (qm_place (qD_v d) (qm_nx d (qm_tw d c)) 120 (qD_p d c)))) 1 c = nI (qD_p d c) := by
          show upd (gA y 1) (qD_n d) _ c = _
          rw [upd_at, if_neg (by omega)]
          exact hd.2.2.1 c hy1 hy2
        rw [e1]
        refine m_mix (by omega) hy2 hq (by omega) ?_
        refine m_replace (by omega) (by omega) ?_
        have hd2 := qM_add hd ok hy1 hy2 hq (by omega)
        have ok2 := qD_add_ok ok hy1 hq (by omega)
        refine m_orph hd2 ok2 ?_
        have hnn : qD_n (qD_add d c (qm_place (qD_v d) (qm_nx d (qm_tw d c)) 120 (qD_p d c))) = qD_n d + 1 := rfl
        refine ih (r + 1) _ _ hd2 ok2 (qM_fr_tr hfr (qM_fr_step _ _ _ _ _ _ _)) (by rw [qM_step_9]; exact hf) (by rw [qM_step_6]; exact h6) (by rw [hnn]; omega) (by rw [qM_step_10]; exact h10) (fun m hm => ?_) (by rw [hnn]; omega) (by omega) ?_ ?_
        · rcases hg m hm with z | z | ⟨e, he, z⟩
          · exact Or.inl z
          · exact Or.inr (Or.inl z)
          · exact Or.inr (Or.inr ⟨e, by rw [hnn]; omega, z⟩)
        · rw [show 60 - (r + 1) = m by omega]; exact hF
        · rw [show 60 - (r + 1) = m by omega]; exact hT
theorem m_settle {post : QX → Prop} {y : QX} {d : QD} {w : Nat} (hd : qM_d y d) (ok : qD_ok d) (hf : gI y 9 = 0) (h6 : gI y 6 = nI w) (hw : w < qD_n d) (hg : ∀ m, m < 3 → q_mark (qD_n d) (gA y 10 m))
    (hF : (qm_settle 60 d).1 = false → ∀ y', qM_d y' (qm_settle 60 d).2 → qM_fr y y' → gI y' 9 = 1 → post y')
    (hT : (qm_settle 60 d).1 = true → ∀ y', qM_d y' (qm_settle 60 d).2 → qM_fr y y' → gI y' 9 = 0 → gI y' 6 = nI (qm_pl (qm_settle 60 d).2 w) → (∀ m, m < 3 → gA y' 10 m = qm_mk (qm_settle 60 d).2 (gA y 10 m)) → post y') : qw_M_settle y post :=
  m_orph hd ok (m_settle_loop qFU 0 d y hd ok (qM_fr_rf y) hf h6 hw rfl hg ok.1 (by unfold qFU; omega) hF hT)
