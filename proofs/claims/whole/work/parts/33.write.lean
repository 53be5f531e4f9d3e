/-! write, fork, choose. -/
theorem q_l2i0 : (0 : Int32).toInt64 = (0 : Int64) := by decide
theorem q_l2i1 : (1 : Int32).toInt64 = (1 : Int64) := by decide
theorem q_gt {p : Int32} {n : Nat} {m : Int32} (hm : m.toInt = (n : Int)) (hn : n < 2 ^ 30) : q_out p (n + 1) → p < 0 ∨ m < p := by
  intro h
  rcases h with h | h
  · exact Or.inl h
  · refine Or.inr (Int32.lt_iff_toInt_lt.mpr ?_)
    have h3 := Int32.le_iff_toInt_le.mp h
    rw [nI_toInt (by omega)] at h3
    omega
theorem q_ngt {j n : Nat} {m : Int32} (hm : m.toInt = (n : Int)) (hj : j < n + 1) (hn : n < 2 ^ 30) : ¬ m < nI j := fun e => by
  have := Int32.lt_iff_toInt_lt.mp e
  rw [nI_toInt (by omega)] at this
  omega
theorem q_nle {p : Int32} {n : Nat} {m : Int32} (hm : m.toInt = (n : Int)) (hn : n < 2 ^ 30) : q_out p (n + 1) → p < 0 ∨ ¬ p ≤ m := by
  intro h
  rcases q_gt hm hn h with z | z
  · exact Or.inl z
  · exact Or.inr (Int32.not_le.mpr z)
theorem q_le {j n : Nat} {m : Int32} (hm : m.toInt = (n : Int)) (hj : j < n + 1) (hn : n < 2 ^ 30) : nI j ≤ m := Int32.le_iff_toInt_le.mpr (by rw [nI_toInt (by omega)]; omega)
section PL
variable {x : QX} {n : Nat}
theorem r_countOf {post : Int64 → QX → Prop} (hn : gI x 2 = nI n) (o2 : n ≤ 60) {c p k : Nat} (hc : c < n) (hp : p < 4) (hk : k < 8) (h : post (gB x 0 (32 * c + 8 * p + k)) x) : qw_C_countOf (nI c) (nI p) (nI k) x post := by
  refine r_C_has_in hn o2 hc ⟨fun e => absurd e (by decide), fun _ => r_S_isPath_in hp ⟨fun e => absurd e (by decide), fun _ => r_S_isValue_in hk ⟨fun e => absurd e (by decide), fun _ => ?_⟩⟩⟩
  show vp_in (((nI c * (4 : Int32)) + nI p) * (8 : Int32) + nI k) 1920 ∧ _
  rw [q_at]
  refine ⟨vp_in_nI (by omega) (by decide), ?_⟩
  rw [nI_clamp (by omega)]; exact h
theorem r_countOf_out {post : Int64 → QX → Prop} (hn : gI x 2 = nI n) (o2 : n ≤ 60) {c p k : Int32} (ho : q_out c n ∨ q_out p 4 ∨ q_out k 8) (h : post 0 x) : qw_C_countOf c p k x post := by
  rcases q_has (p := c) (n := n) (by omega) with z | ⟨j, hj, rfl⟩
  · exact r_C_has_out hn z ⟨fun _ => h, fun e => absurd rfl e⟩
  · refine r_C_has_in hn o2 hj ⟨fun e => absurd e (by decide), fun _ => ?_⟩
    rcases q_has (p := p) (n := 4) (by decide) with z | ⟨i, hi, rfl⟩
    · exact r_S_isPath_out z ⟨fun _ => h, fun e => absurd rfl e⟩
    · refine r_S_isPath_in hi ⟨fun e => absurd e (by decide), fun _ => ?_⟩
      rcases ho with z | z | z
      · rcases z with z | z
        · exact absurd z (nI_pos (by omega))
        · exact absurd z (nI_ge hj (by omega))
      · rcases z with z | z
        · exact absurd z (nI_pos (by omega))
        · exact absurd z (nI_ge hi (by omega))
      · exact r_S_isValue_out z ⟨fun _ => h, fun e => absurd rfl e⟩
theorem r_isPlain_loop {post : Int32 → QX → Prop} (hn : gI x 2 = nI n) (o2 : n ≤ 60) {c p v : Nat} (hc : c < n) (hp : p < 4) (hv : v < 8) (h1 : (∀ j, j < 8 → gB x 0 (32 * c + 8 * p + j) = qm_one v j) → post 1 x) (h0 : (¬ ∀ j, j < 8 → gB x 0 (32 * c + 8 * p + j) = qm_one v j) → post 0 x) :
    ∀ (f k : Nat), k ≤ 8 → 8 - k < f → (∀ j, j < k → gB x 0 (32 * c + 8 * p + j) = qm_one v j) → qw_C_isPlain_H3 post f (nI c) (nI p) (nI v) (nI k) x := by
  intro f
  induction f with
  | zero => intro k _ h2; omega
  | succ f ih =>
    intro k h2 h3 hk
    refine ⟨fun e => ?_, fun e => ?_⟩
    · have e1 := (nI_leI (by decide) (by omega)).mp (show nI 8 ≤ nI k from e)
      exact h1 (fun j hj => hk j (by omega))
    · have e1 : ¬ 8 ≤ k := fun q => e ((nI_leI (by decide) (by omega)).mpr q)
      refine r_countOf hn o2 hc hp (by omega) ?_
      rw [q_l2i0, q_l2i1]
      have go : gB x 0 (32 * c + 8 * p + k) = qm_one v k → qw_C_isPlain_H3 post f (nI c) (nI p) (nI v) (nI k + 1) x := fun z => by
        rw [nI_1]
        refine ih (k + 1) (by omega) (by omega) (fun j hj => ?_)
        by_cases q : j = k
        · rw [q]; exact z
        · exact hk j (by omega)
      have no : ¬ gB x 0 (32 * c + 8 * p + k) = qm_one v k → post 0 x := fun z => h0 (fun q => z (q k (by omega)))
      refine ⟨fun q => ?_, fun q => ?_⟩
      · have hne : ¬ k = v := fun z => q (by rw [z])
        have eo : qm_one v k = 0 := by unfold qm_one; rw [if_neg hne]
        rw [eo] at go no
        exact ⟨fun z => go ((lg_eq _ _).mp z), fun z => no (fun z2 => z ((lg_eq _ _).mpr z2))⟩
      · have heq : k = v := (nI_eq (by omega) (by omega)).mp q
        have eo : qm_one v k = 1 := by unfold qm_one; rw [if_pos heq]
        rw [eo] at go no
        exact ⟨fun z => go ((lg_eq _ _).mp z), fun z => no (fun z2 => z ((lg_eq _ _).mpr z2))⟩
theorem m_isPlain_loop {y : QX} {post : Int32 → QX → Prop} {c p v : Nat} (hc : c < 60) (hp : p < 4) (hv : v < 8) (h1 : (∀ j, j < 8 → gB y 0 (32 * c + 8 * p + j) = qm_one v j) → post 1 y) (h0 : (¬ ∀ j, j < 8 → gB y 0 (32 * c + 8 * p + j) = qm_one v j) → post 0 y) :
    ∀ (f k : Nat) (b : Bool), k ≤ 8 → 8 - k < f → (b = true ↔ ∀ j, j < k → gB y 0 (32 * c + 8 * p + j) = qm_one v j) → qw_M_plain_H6 post f (nI c) (nI p) (nI v) (qz b) (nI k) y := by
  intro f
  induction f with
  | zero => intro k b _ h2; omega
  | succ f ih =>
    intro k b h2 h3 hk
    refine ⟨fun e => ?_, fun e => ?_⟩
    · have e1 := (nI_leI (by decide) (by omega)).mp (show nI 8 ≤ nI k from e)
      refine ⟨qz_nar b, ?_⟩
      cases b with
      | true => exact h1 (fun j hj => hk.mp rfl j (by omega))
      | false => exact h0 (fun q => by have := hk.mpr (fun j hj => q j (by omega)); cases this)
    · have e1 : ¬ 8 ≤ k := fun q => e ((nI_leI (by decide) (by omega)).mpr q)
      rw [q_l2i0, q_l2i1, q_bt, nI_clamp (by omega)]
      have stp : ∀ b' : Bool, (b' = true ↔ (∀ j, j < k → gB y 0 (32 * c + 8 * p + j) = qm_one v j) ∧ gB y 0 (32 * c + 8 * p + k) = qm_one v k) → qw_M_plain_H6 post f (nI c) (nI p) (nI v) (qz b') (nI k + 1) y := fun b' hb' => by
        rw [nI_1]
        refine ih (k + 1) b' (by omega) (by omega) ⟨fun z j hj => ?_, fun z => hb'.mpr ⟨fun j hj => z j (by omega), z k (by omega)⟩⟩
        by_cases q : j = k
        · rw [q]; exact (hb'.mp z).2
        · exact (hb'.mp z).1 j (by omega)
      refine qz_c (fun hb => stp false ⟨fun z => (by cases z), fun z => ?_⟩) (fun hb => ⟨vp_in_nI (by omega) (by decide), ?_⟩)
      · rw [hb] at hk; exact hk.mpr z.1
      · have all := hk.mp hb
        have yes : gB y 0 (32 * c + 8 * p + k) = qm_one v k → qw_M_plain_H6 post f (nI c) (nI p) (nI v) (1 : Int32) (nI k + 1) y := fun z => stp true ⟨fun _ => ⟨all, z⟩, fun _ => rfl⟩
        have no : ¬ gB y 0 (32 * c + 8 * p + k) = qm_one v k → qw_M_plain_H6 post f (nI c) (nI p) (nI v) (0 : Int32) (nI k + 1) y := fun z => stp false ⟨fun q => (by cases q), fun q => absurd q.2 z⟩
        refine ⟨fun q => ?_, fun q => ?_⟩
        · have hne : ¬ k = v := fun z => q (by rw [z])
          have eo : qm_one v k = 0 := by unfold qm_one; rw [if_neg hne]
          rw [eo] at yes no
          exact ⟨fun z => no (fun z2 => z ((lg_eq _ _).mpr z2)), fun z => yes ((lg_eq _ _).mp z)⟩
        · have heq : k = v := (nI_eq (by omega) (by omega)).mp q
          have eo : qm_one v k = 1 := by unfold qm_one; rw [if_pos heq]
          rw [eo] at yes no
          exact ⟨fun z => no (fun z2 => z ((lg_eq _ _).mpr z2)), fun z => yes ((lg_eq _ _).mp z)⟩
end PL
theorem part_congr {g h : Nat → Int64} {f : Nat → Int64} {b k m : Nat} (e : ∀ i, i < m → g i = h i) : ∀ i, i < m → qm_part g f b k i = qm_part h f b k i := by
  intro i hi
  unfold qm_part
  by_cases z : b ≤ i ∧ i < b + k
  · rw [if_pos z, if_pos z]
  · rw [if_neg z, if_neg z]; exact e i hi
theorem t_write {x y : QX} (h : INV x y) (p q : Int32) : qw_S_write p q x (fun r x' => qw_M_write p q y (fun r' y' => r = r' ∧ INV x' y')) := by
  obtain ⟨n, N, ch, o, par, st⟩ := INV_st h
  obtain ⟨hC, hO, hL, hc, ho, hx0, hy5, hx, hy⟩ := id st
  obtain ⟨v1, v2, v3, v4, v5, v6, hvv, -, -⟩ := hO.2.2.2.2.1 o ho
  have h100 := hO.2.1
  have o2 := hC.2.1
  have hn0 := hC.2.2.2.1
  refine r_openDraft hx0 hc hx hO.2.2.1 h100 ho (fun x1 hop => ?_)
  have hbk0 := qC_back_op hC hop
  have hbk := inv_back hC hO hL hbk0 (qM_back_rf hC)
  have hd := q_d0_C hC hop
  have ok := q_d0_ok (x := x) hC hvv.1 hvv.2.1
  obtain ⟨c, hcn, hwk, hvc⟩ := id hvv.2.2.2.1
  intro t et
  rw [hop.2.1, hwk] at et
  subst et
  have hin100 : vp_in (nI o) 100 := vp_in_nI (by omega) (by decide)
  have hy7 : gA y 7 (nI o).toNatClampNeg = nI c := by rw [nI_clamp (by omega), v3]; exact hwk
  -- the reference up to its working commit
  have m0 : ∀ M : Int32 → QX → Prop, (((nI c = 0) → M (-1) y) ∧ (¬ (nI c = 0) → ((p < 0) → M (-1) y) ∧ (¬ (p < 0) → (((3 : Int32) < p) → M (-1) y) ∧ (¬ ((3 : Int32) < p) → ((q < 0) → M (-1) y) ∧ (¬ (q < 0) → ((q ≤ (7 : Int32)) → qw_M_plain (nI c) p q y (fun r5 x4 => ((r5 = 0) → qw_M_here x4 (fun r7 x6 => qw_M_begin r7 x6 (fun x8 => vp_in (nI c) 60 ∧ (vp_in (nI c) 60 ∧ (qw_M_fresh (gA x8 0 (nI c).toNatClampNeg) (gA x8 1 (nI c).toNatClampNeg) x8 (fun r10 x9 => ((r10 < 0) → qw_M_done x9 (fun r12 x11 => M r12 x11)) ∧ (¬ (r10 < 0) → qw_M_copyContents r10 (nI c) x9 (fun x13 => qw_M_setPlain r10 p q x13 (fun x14 => qw_M_replace (nI c) r10 x14 (fun x15 => qw_M_settle x15 (fun x16 => qw_M_done x16 (fun r18 x17 => M r18 x17)))))))))))) ∧ (¬ (r5 = 0) → M (-2) x4))) ∧ (¬ (q ≤ (7 : Int32)) → M (-1) y)))))) → qw_M_write p q y M := fun M hM => by
    refine m_here hy5 hc ?_
    rw [hy]
    refine ⟨hin100, fun t et => ?_⟩
    rw [hy7] at et
    subst et
    exact hM
  refine ⟨fun e => m0 _ ⟨fun _ => ⟨rfl, hbk⟩, fun z => absurd e z⟩, fun ne => ?_⟩
  have hc0 : 0 < c := by
    rcases Nat.eq_zero_or_pos c with z | z
    · subst z; exact absurd rfl ne
    · exact z
  obtain ⟨q1, q2, q3⟩ := hC.2.2.2.2.2.2.2.1 c hc0 hcn
  rcases q_has (p := p) (n := 4) (by decide) with hp | ⟨pp, hpp, rfl⟩
  · refine r_S_isPath_out hp ⟨fun _ => m0 _ ⟨fun _ => ⟨rfl, hbk⟩, fun _ => ⟨fun _ => ⟨rfl, hbk⟩, fun z => ⟨fun _ => ⟨rfl, hbk⟩, fun z2 => ?_⟩⟩⟩, fun e => absurd rfl e⟩
    rcases q_gt (n := 3) (m := 3) (by decide) (by decide) hp with w | w
    · exact absurd w z
    · exact absurd w z2
  · have np : ¬ nI pp < 0 := nI_pos (by omega)
    have np3 : ¬ (3 : Int32) < nI pp := q_ngt (n := 3) (by decide) hpp (by decide)
    refine r_S_isPath_in hpp ⟨fun e => absurd e (by decide), fun _ => ?_⟩
    rcases q_has (p := q) (n := 8) (by decide) with hq | ⟨v, hv8, rfl⟩
    · refine r_S_isValue_out hq ⟨fun e => absurd rfl e, fun _ => m0 _ ⟨fun _ => ⟨rfl, hbk⟩, fun _ => ⟨fun _ => ⟨rfl, hbk⟩, fun _ => ⟨fun _ => ⟨rfl, hbk⟩, fun _ => ⟨fun _ => ⟨rfl, hbk⟩, fun z => ⟨fun z2 => ?_, fun _ => ⟨rfl, hbk⟩⟩⟩⟩⟩⟩⟩
      rcases q_nle (n := 7) (m := 7) (by decide) (by decide) hq with w | w
      · exact absurd w z
      · exact absurd z2 w
    · have hgB : ∀ j, j < 8 → gB x1 0 (32 * c + 8 * pp + j) = gB y 0 (32 * c + 8 * pp + j) := fun j hj => by
        rw [hop.2.2.2.2.2.2.2 0, hC.2.2.2.2.2.2.2.2.2 _ (by omega)]
      have m1 : ∀ M : Int32 → QX → Prop, ((∀ j, j < 8 → gB x1 0 (32 * c + 8 * pp + j) = qm_one v j) → M (-2) y) → ((¬ ∀ j, j < 8 → gB x1 0 (32 * c + 8 * pp + j) = qm_one v j) → qw_M_begin (nI o) y (fun x8 => vp_in (nI c) 60 ∧ (vp_in (nI c) 60 ∧ (qw_M_fresh (gA x8 0 (nI c).toNatClampNeg) (gA x8 1 (nI c).toNatClampNeg) x8 (fun r10 x9 => ((r10 < 0) → qw_M_done x9 (fun r12 x11 => M r12 x11)) ∧ (¬ (r10 < 0) → qw_M_copyContents r10 (nI c) x9 (fun x13 => qw_M_setPlain r10 (nI pp) (nI v) x13 (fun x14 => qw_M_replace (nI c) r10 x14 (fun x15 => qw_M_settle x15 (fun x16 => qw_M_done x16 (fun r18 x17 => M r18 x17))))))))))) → qw_M_write (nI pp) (nI v) y M := fun M ha hb => by
        refine m0 M ⟨fun z => absurd z ne, fun _ => ⟨fun z => absurd z np, fun _ => ⟨fun z => absurd z np3, fun _ => ⟨fun z => absurd z (nI_pos (by omega)), fun _ => ⟨fun _ => ?_, fun z => absurd (q_le (n := 7) (by decide) hv8 (by decide)) z⟩⟩⟩⟩⟩
        refine m_isPlain_loop (by omega) hpp hv8 (fun z => ⟨fun w => absurd w (by decide), fun _ => ha (fun j hj => by rw [hgB j hj]; exact z j hj)⟩) (fun z => ⟨fun _ => m_here hy5 hc ?_, fun w => absurd rfl w⟩) qFU 0 true (by omega) (by unfold qFU; omega) ⟨fun _ j hj => by omega, fun _ => rfl⟩
        rw [hy]
        exact hb (fun w => z (fun j hj => by rw [← hgB j hj]; exact w j hj))
      refine r_S_isValue_in hv8 ⟨fun _ => ?_, fun e => absurd e (by decide)⟩
      refine r_isPlain_loop hd.1 ok.2.1 hcn hpp hv8 (fun hpl => ⟨fun e => absurd e (by decide), fun _ => m1 _ (fun _ => ⟨rfl, hbk⟩) (fun z => absurd hpl z)⟩) (fun hpl => ⟨fun _ => ?_, fun e => absurd rfl e⟩) qFU 0 (by omega) (by unfold qFU; omega) (fun j hj => by omega)
      obtain ⟨d, hdd⟩ : ∃ d, d = qD_rep (qD_put (q_d0 x n par (q_v (gB x 1 o))) (par c) (gA x 2 c) (qm_part (va_cpy (gB x 0) (gB x 0) (32 * c) (32 * n) 32) (qm_one v) (32 * n + 8 * pp) 8)) c n := ⟨_, rfl⟩
      have hnd : qD_n d = n + 1 := by rw [hdd]; rfl
      have okd : n < 60 → qD_ok d := fun hlt => by
        rw [hdd]
        exact qD_rep_ok (qD_put_ok ok (show par c < n by omega) (show n < 60 from hlt) _ _) hc0 (show n < n + 1 by omega)
      have hb : q_base x n par d := by
        rw [hdd]
        refine q_base_put (d := q_d0 x n par (q_v (gB x 1 o))) (q_base_d0 _ _ _ _) (fun i hi => ?_)
        have hi : i < 32 * n := hi
        show qm_part (va_cpy (gB x 0) (gB x 0) (32 * c) (32 * n) 32) (qm_one v) (32 * n + 8 * pp) 8 i = gB x 0 i
        rw [qm_part_out (by omega)]; exact cpy_low _ hi
      have m3 : ∀ (r : Int32) (x' : QX), (n < 60 → MS y n d c (fun m => gA x 6 (3 * o + m)) r x') → (n = 60 → r = -3 ∧ qC_back x x' n) → qw_M_write (nI pp) (nI v) y (fun r' y' => r = r' ∧ INV x' y') := fun r x' hMS hfull => by
        refine m1 _ (fun z => absurd z hpl) (fun _ => ?_)
        refine m_begin (by omega) v5 (fun y1 hopM => ⟨vp_in_nI (by omega) (by decide), vp_in_nI (by omega) (by decide), ?_⟩)
        have hdM := q_d0_M (x := x) hC hopM
        rw [nI_clamp (by omega), hdM.2.2.1 c hc0 hcn, hdM.2.2.2.1 c hcn]
        by_cases h60 : n = 60
        · obtain ⟨hr, hb⟩ := hfull h60
          refine m_fresh_full (by rw [hdM.1]; show nI n = nI 60; rw [h60]) ⟨fun _ => ?_, fun z => absurd (by decide) z⟩
          rw [hr]
          exact m_noroom st hopM hb
        · refine m_fresh (n := n) hdM.1 (by omega) ⟨fun z => absurd z (nI_pos (by omega)), fun _ => ?_⟩
          refine m_copy (by omega) (by omega) (by omega) (m_plain (by omega) hpp hv8 (m_replace (by omega) (by omega) ?_))
          rw [qm_part_cpy, gB_sB, if_pos rfl, sB_sB]
          have hput := qM_put (pa := par c) (ch := gA x 2 c) hdM ok (g := qm_part (va_cpy (gB y1 0) (gB y1 0) (32 * c) (32 * n) 32) (qm_one v) (32 * n + 8 * pp) 8) (k := qm_part (va_cpy (gB x 0) (gB x 0) (32 * c) (32 * n) 32) (qm_one v) (32 * n + 8 * pp) 8) (part_congr (cpy_congr hcn hdM.2.2.2.2.1))
          have hd2 := qM_rep (c := c) (t := n) hput
          rw [hdd] at hMS
          refine hMS (by omega) _ hd2 (qM_of_tr (qM_of_op hopM) ⟨⟨rfl, rfl, rfl, rfl⟩, ⟨rfl, rfl, rfl, rfl, rfl, rfl, rfl⟩⟩) ?_ ?_ (fun m hm => ?_) ?_ ?_ ?_
          · exact hopM.2.2.2.2.2.2.1
          · show gI y1 6 = nI c; rw [hopM.2.2.2.1, v3]; exact hwk
          · show gA y1 10 m = _; rw [hopM.2.2.1 m hm]; exact v4 m hm
          · show gI y1 7 = nI n; rw [hopM.2.2.2.2.1]; exact hn0
          · exact hopM.2.2.2.2.2.1
          · show gI y1 1 = gI y 1; exact hopM.2.2.2.2.2.2.2.1 1 (by decide) (by decide) (by decide) (by decide)
      refine r_room (n := n) (N := N) hd.1 o2 (by rw [hop.2.2.2.2.2.1 4 (by decide) (by decide)]; exact hO.2.2.1) h100 (qz_d (fun z => ?_) (fun z => ?_))
      · have hr : n < 60 ∧ N < 100 := by simpa using z
        refine r_C_changeOf hd.1 ok.2.1 hcn (r_C_parentOf hd.1 ok.2.1 hcn ?_)
        rw [hd.2.2.1 c hc0 hcn, hd.2.2.2.1 c hcn]
        refine r_copy (n := n) hd.1 hr.1 hcn ?_
        refine r_plain (n := n + 1) rfl (by omega) (by omega) hpp hv8 ?_
        rw [q_addC_B, q_addC_g]
        refine r_replace (n := n + 1) rfl (by omega) (by omega) (by omega) ?_
        have hput := qC_put (pa := par c) (ch := gA x 2 c) hd ok (g := qm_part (va_cpy (gB x1 0) (gB x1 0) (32 * c) (32 * n) 32) (qm_one v) (32 * n + 8 * pp) 8) (k := qm_part (va_cpy (gB x 0) (gB x 0) (32 * c) (32 * n) 32) (qm_one v) (32 * n + 8 * pp) 8) (part_congr (cpy_congr hcn hd.2.2.2.2.1))
        have hd2 := qC_rep (c := c) (t := n) hput (by omega) (by omega)
        rw [hdd] at m3 okd hb hnd
        refine k_settle (w := c) (mk := fun m => gA x 6 (3 * o + m)) st hd2 (okd hr.1) hb (qC_of_tr (qC_of_op hop) (qC_of_tr (qC_of_fr (qC_fr_add _ _ _ _ _)) (qC_of_rep _ _ _))) ?_ ?_ (show c < n + 1 by omega) hop.2.2.2.2.1 (fun m hm => q_mark_up (VV_marks hvv m hm) (show n ≤ n + 1 by omega)) ?_ (fun r x' hMS => m3 r x' (fun _ => hMS) (fun z => by omega))
        · show gI x1 6 = nI n; rw [hop.2.2.1]; exact hC.2.2.1
        · show gI x1 5 = nI c; rw [hop.2.1]; exact hwk
        · show gI x1 3 = gI x 3; exact hop.2.2.2.2.2.1 3 (by decide) (by decide)
      · have hr : ¬ (n < 60 ∧ N < 100) := by simpa using z
        refine m3 _ _ (fun hlt => ms_full st (okd hlt) hb (by rw [hnd]; omega) (fun m hm => q_mark_up (VV_marks hvv m hm) (by rw [hnd]; omega)) (by omega) hbk0) (fun _ => ⟨rfl, hbk0⟩)
theorem q_in1 : vp_in (1 : Int32) 2 := by
  rw [q_l1]; exact vp_in_nI (by decide) (by decide)
theorem q_in0 : vp_in (0 : Int32) 2 := by
  rw [q_l0]; exact vp_in_nI (by decide) (by decide)
theorem r_hasLine {x : QX} {post : Int32 → QX → Prop} (h1 : gA x 0 1 = -1 → post 0 x) (h2 : ¬ gA x 0 1 = -1 → post 1 x) : qw_S_hasLineOne x post :=
  ⟨q_in1, fun e => h1 e, fun e => h2 e⟩
theorem t_fork {x y : QX} (h : INV x y) (p : Int32) : qw_S_fork p x (fun r x' => qw_M_fork p y (fun r' y' => r = r' ∧ INV x' y')) := by
  obtain ⟨n, N, par, hC, hO, hL⟩ := id h
  have h100 := hO.2.1
  have hN2 := hO.2.2.2.1
  obtain ⟨⟨a, ha, ha1, ha2⟩, hch, hl⟩ := id hL
  refine r_hasLine (fun e => ⟨fun z => absurd rfl z, fun _ => ?_⟩) (fun e => ⟨fun _ => ?_, fun z => absurd z (by decide)⟩)
  · have h3 : gI y 3 = 0 := by
      rcases hl with ⟨q, -, -⟩ | ⟨-, ⟨b, hb, q, -⟩, -⟩
      · exact q
      · rw [q] at e; exact absurd e (qm_nI_ne b (by omega))
    rcases q_has (p := p) (n := N) (by omega) with hp | ⟨o, ho, rfl⟩
    · refine r_O_has_out hO.2.2.1 hp ⟨fun z => absurd rfl z, fun _ => ⟨fun z => absurd h3 z, fun _ => ⟨fun _ => ⟨rfl, h⟩, fun z => ⟨fun z2 => ?_, fun _ => ⟨rfl, h⟩⟩⟩⟩⟩
      rw [hN2] at z2
      rcases hp with hp | hp
      · exact absurd hp z
      · exact absurd z2 (Int32.not_lt.mpr hp)
    · refine r_O_has_in hO.2.2.1 h100 ho ⟨fun _ => ?_, fun z => absurd z (by decide)⟩
      intro x5 e5
      refine ⟨q_in1, fun x6 e6 x7 e7 => ?_⟩
      refine ⟨fun z => absurd h3 z, fun _ => ⟨fun z => absurd z (nI_pos (by omega)), fun _ => ⟨fun _ => ?_, fun z => ?_⟩⟩⟩
      · intro y1 f1 y2 f2
        refine ⟨q_in1, fun y3 f3 y4 f4 => ⟨rfl, n, N, par, ?_, ?_, ?_⟩⟩
        · rw [e7, e6, e5, f4, f3, f2, f1]; exact hC
        · rw [e7, e6, e5, f4, f3, f2, f1]; exact hO
        · have x0 : gA x7 0 = upd (gA x 0) 1 (nI o) := by rw [e7, e6, e5]; rfl
          have y8 : gA y4 8 = upd (gA y 8) 1 (nI o) := by rw [f4, f3, f2, f1]; rfl
          have i0 : gI x7 0 = 1 := by rw [e7]; rfl
          have i1 : gI x7 1 = nI o := by rw [e7, e6, e5]; rfl
          have j3 : gI y4 3 = 1 := by rw [f4, f3, f2, f1]; rfl
          have j4 : gI y4 4 = nI o := by rw [f4, f3, f2]; rfl
          have j5 : gI y4 5 = 1 := by rw [f4]; rfl
          refine ⟨⟨a, ha, by rw [x0, upd_at, if_neg (by decide)]; exact ha1, by rw [y8, upd_at, if_neg (by decide)]; exact ha2⟩, by rw [i0, j5], Or.inr ⟨j3, ⟨o, ho, by rw [x0, upd_at, if_pos rfl], by rw [y8, upd_at, if_pos rfl]⟩, ⟨o, ho, i1, j4⟩, Or.inr i0⟩⟩
      · rw [hN2] at z; exact absurd (nI_lt ho (by omega)) z
  · have h3 : ¬ gI y 3 = 0 := by
      rcases hl with ⟨-, q, -⟩ | ⟨q, -⟩
      · exact absurd q e
      · rw [q]; decide
    exact ⟨fun _ => ⟨rfl, h⟩, fun z => absurd z h3⟩
theorem t_choose {x y : QX} (h : INV x y) (p : Int32) : qw_S_choose p x (fun r x' => qw_M_choose p y (fun r' y' => r = r' ∧ INV x' y')) := by
  obtain ⟨n, N, par, hC, hO, hL⟩ := id h
  obtain ⟨⟨a, ha, ha1, ha2⟩, hch, hl⟩ := id hL
  refine ⟨fun e => ⟨fun z => absurd z (by decide), fun _ => ?_⟩, fun ne => ⟨fun n1 => ⟨fun _ => ?_, fun z => absurd rfl z⟩, fun e1 => ?_⟩⟩
  · intro x1 e1
    refine ⟨fun _ y1 f1 => ⟨rfl, n, N, par, ?_, ?_, ?_⟩, fun z => absurd e z⟩
    · rw [e1, f1]; exact hC
    · rw [e1, f1]; exact hO
    · rw [e1, f1, e]
      refine ⟨⟨a, ha, ha1, ha2⟩, rfl, ?_⟩
      rcases hl with ⟨q1, q2, -⟩ | ⟨q1, q2, q3, -⟩
      · exact Or.inl ⟨q1, q2, rfl⟩
      · exact Or.inr ⟨q1, q2, q3, Or.inl rfl⟩
  · exact ⟨fun z => absurd z ne, fun _ => ⟨fun _ => ⟨rfl, h⟩, fun z => absurd z n1⟩⟩
  · refine r_hasLine (fun e => ⟨fun _ => ⟨fun _ => ?_, fun z => absurd rfl z⟩, fun z => absurd rfl z⟩) (fun e => ⟨fun z => absurd z (by decide), fun _ => ⟨fun z => absurd z (by decide), fun _ => ?_⟩⟩)
    · have h3 : gI y 3 = 0 := by
        rcases hl with ⟨q, -, -⟩ | ⟨-, ⟨b, hb, q, -⟩, -⟩
        · exact q
        · rw [q] at e; exact absurd e (qm_nI_ne b (by have := hO.2.1; omega))
      exact ⟨fun z => absurd z ne, fun _ => ⟨fun z => absurd e1 z, fun _ => ⟨fun z => absurd h3 z, fun _ => ⟨rfl, h⟩⟩⟩⟩
    · intro x1 ex
      rcases hl with ⟨-, q, -⟩ | ⟨q1, q2, q3, -⟩
      · exact absurd q e
      · have h3 : ¬ gI y 3 = 0 := by rw [q1]; decide
        refine ⟨fun z => absurd z ne, fun _ => ⟨fun z => absurd e1 z, fun _ => ⟨fun _ y1 f1 => ⟨rfl, n, N, par, ?_, ?_, ?_⟩, fun z => absurd z h3⟩⟩⟩
        · rw [ex, f1]; exact hC
        · rw [ex, f1]; exact hO
        · rw [ex, f1, e1]
          exact ⟨⟨a, ha, ha1, ha2⟩, rfl, Or.inr ⟨q1, q2, q3, Or.inr rfl⟩⟩
