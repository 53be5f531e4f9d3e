/-! Queries. -/
theorem m_there_in {y : QX} {N o : Nat} {post : Int32 → QX → Prop} (hN : gI y 2 = nI N) (h1 : N ≤ 100) (ho : o < N) (h : post 1 y) : qw_M_there (nI o) y post := q_range_in ho (by omega) hN h
theorem m_there_out {y : QX} {N : Nat} {p : Int32} {post : Int32 → QX → Prop} (hN : gI y 2 = nI N) (hp : q_out p N) (h : post 0 y) : qw_M_there p y post := q_range_out hp hN h
theorem q_01 (p : Int32) : p = 0 ∨ p = 1 ∨ (¬ p = 0 ∧ ¬ p = 1 ∧ (p < 0 ∨ ¬ p ≤ 1)) := by
  rcases q_has (p := p) (n := 2) (by decide) with h | ⟨j, hj, rfl⟩
  · refine Or.inr (Or.inr ⟨fun e => ?_, fun e => ?_, q_nle (n := 1) (m := 1) (by decide) (by decide) h⟩)
    · subst e; exact absurd h (by unfold q_out; decide)
    · subst e; exact absurd h (by unfold q_out; decide)
  · have : j = 0 ∨ j = 1 := by omega
    rcases this with rfl | rfl
    · exact Or.inl rfl
    · exact Or.inr (Or.inl rfl)
theorem t_operation {x y : QX} (h : INV x y) : qw_S_operation x (fun r x' => qw_M_operation y (fun r' y' => r = r' ∧ INV x' y')) := by
  obtain ⟨n, N, ch, o, par, hC, hO, hL, hc, ho, hx0, hy5, hx, hy⟩ := INV_st h
  unfold qw_S_operation
  rw [hx0, nI_clamp (by omega), hx]
  refine ⟨vp_in_nI hc (by decide), m_here hy5 hc ?_⟩
  rw [hy]
  exact ⟨rfl, h⟩
theorem t_before {x y : QX} (h : INV x y) (p q : Int32) : qw_S_before p q x (fun r x' => qw_M_before p q y (fun r' y' => r = r' ∧ INV x' y')) := by
  obtain ⟨n, N, par, hC, hO, hL⟩ := id h
  have h100 := hO.2.1
  have hN2 := hO.2.2.2.1
  rcases q_has (p := p) (n := N) (by omega) with hp | ⟨o, ho, rfl⟩
  · have m : qw_M_before p q y (fun r' y' => (-1 : Int32) = r' ∧ INV x y') := m_there_out hN2 hp ⟨fun _ => ⟨rfl, h⟩, fun z => absurd rfl z⟩
    exact ⟨fun _ => ⟨fun _ => m, fun _ => r_O_second_out hO.2.2.1 hp m⟩, fun _ => r_O_first_out hO.2.2.1 hp m⟩
  · obtain ⟨v1, v2, -⟩ := hO.2.2.2.2.1 o ho
    have hin : vp_in (nI o) 100 := vp_in_nI (by omega) (by decide)
    have cl : (nI o).toNatClampNeg = o := nI_clamp (by omega)
    rcases q_01 q with rfl | rfl | ⟨n0, n1, hq⟩
    · refine ⟨fun z => absurd rfl z, fun _ => r_O_first hO.2.2.1 h100 ho (m_there_in hN2 h100 ho ⟨fun z => absurd z (by decide), fun _ => ⟨fun z => absurd z (by decide), fun _ => ⟨fun _ => ⟨fun z => absurd rfl z, fun _ => ⟨hin, ?_⟩⟩, fun z => absurd (by decide) z⟩⟩⟩)⟩
      rw [cl, v1]; exact ⟨rfl, h⟩
    · refine ⟨fun _ => ⟨fun z => absurd rfl z, fun _ => r_O_second hO.2.2.1 h100 ho (m_there_in hN2 h100 ho ⟨fun z => absurd z (by decide), fun _ => ⟨fun z => absurd z (by decide), fun _ => ⟨fun _ => ⟨fun _ => ⟨hin, ?_⟩, fun z => absurd z (by decide)⟩, fun z => absurd (by decide) z⟩⟩⟩)⟩, fun z => absurd z (by decide)⟩
      rw [cl, v2]; exact ⟨rfl, h⟩
    · refine ⟨fun _ => ⟨fun _ => m_there_in hN2 h100 ho ⟨fun z => absurd z (by decide), fun _ => ⟨fun _ => ⟨rfl, h⟩, fun z => ⟨fun z2 => ?_, fun _ => ⟨rfl, h⟩⟩⟩⟩, fun z => absurd z n1⟩, fun z => absurd z n0⟩
      rcases hq with w | w
      · exact absurd w z
      · exact absurd z2 w
theorem t_working {x y : QX} (h : INV x y) (p : Int32) : qw_S_working p x (fun r x' => qw_M_working p y (fun r' y' => r = r' ∧ INV x' y')) := by
  obtain ⟨n, N, par, hC, hO, hL⟩ := id h
  have h100 := hO.2.1
  have hN2 := hO.2.2.2.1
  rcases q_has (p := p) (n := N) (by omega) with hp | ⟨o, ho, rfl⟩
  · exact r_O_workingIn_out hO.2.2.1 hp (m_there_out hN2 hp ⟨fun _ => ⟨rfl, h⟩, fun z => absurd rfl z⟩)
  · obtain ⟨v1, v2, v3, -⟩ := hO.2.2.2.2.1 o ho
    refine r_O_workingIn hO.2.2.1 h100 ho (m_there_in hN2 h100 ho ⟨fun z => absurd z (by decide), fun _ => ⟨vp_in_nI (by omega) (by decide), ?_⟩⟩)
    rw [nI_clamp (by omega), v3]; exact ⟨rfl, h⟩
theorem t_marked {x y : QX} (h : INV x y) (p q : Int32) : qw_S_marked p q x (fun r x' => qw_M_marked p q y (fun r' y' => r = r' ∧ INV x' y')) := by
  obtain ⟨n, N, par, hC, hO, hL⟩ := id h
  have h100 := hO.2.1
  have hN2 := hO.2.2.2.1
  rcases q_has (p := p) (n := N) (by omega) with hp | ⟨o, ho, rfl⟩
  · exact r_O_markIn_out hO.2.2.1 h100 (Or.inl hp) (m_there_out hN2 hp ⟨fun _ => ⟨rfl, h⟩, fun z => absurd rfl z⟩)
  · obtain ⟨v1, v2, v3, v4, -⟩ := hO.2.2.2.2.1 o ho
    rcases q_has (p := q) (n := 3) (by decide) with hq | ⟨m, hm, rfl⟩
    · refine r_O_markIn_out hO.2.2.1 h100 (Or.inr hq) (m_there_in hN2 h100 ho ⟨fun z => absurd z (by decide), fun _ => ⟨fun _ => ⟨rfl, h⟩, fun z => ⟨fun _ => ⟨rfl, h⟩, fun z2 => ?_⟩⟩⟩)
      rcases q_m2 hq with w | w
      · exact absurd w z
      · exact absurd w z2
    · refine r_O_markIn hO.2.2.1 h100 ho hm (m_there_in hN2 h100 ho ⟨fun z => absurd z (by decide), fun _ => ⟨fun z => absurd z (nI_pos (by omega)), fun _ => ⟨fun z => absurd z (q_m2n hm), fun _ => ?_⟩⟩⟩)
      rw [q_o3, nI_clamp (by omega), v4 m hm]
      exact ⟨vp_in_nI (by omega) (by decide), rfl, h⟩
theorem t_visible {x y : QX} (h : INV x y) (p q : Int32) : qw_S_visible p q x (fun r x' => qw_M_visible p q y (fun r' y' => r = r' ∧ INV x' y')) := by
  obtain ⟨n, N, par, hC, hO, hL⟩ := id h
  have h100 := hO.2.1
  have hN2 := hO.2.2.2.1
  have o2 := hC.2.1
  rcases q_has (p := p) (n := N) (by omega) with hp | ⟨o, ho, rfl⟩
  · refine r_O_shownIn_out hO.2.2.1 hp ?_
    have m : qw_M_visible p q y (fun r' y' => (0 : Int32) = r' ∧ INV x y') := m_there_out hN2 hp ⟨fun _ => ⟨rfl, h⟩, fun z => absurd rfl z⟩
    rcases q_has (p := q) (n := 60) (by decide) with hq | ⟨c, hc, rfl⟩
    · exact r_S_isIn_out hq ⟨by decide, m⟩
    · refine r_S_isIn hc ?_
      rw [qb_0]
      exact ⟨by decide, m⟩
  · obtain ⟨v1, v2, v3, v4, v5, v6, hvv, -⟩ := hO.2.2.2.2.1 o ho
    refine r_O_shownIn hO.2.2.1 h100 ho ?_
    rcases q_vis q hvv.2.1 with ⟨c, hcn, rfl, hvc⟩ | hno
    · refine r_S_isIn (by omega) ?_
      rw [← q_v_lt (by omega), hvc]
      exact ⟨by decide, m_there_in hN2 h100 ho ⟨fun z => absurd z (by decide), fun _ => m_vis_yes hC.2.2.2.1 o2 (by omega) v5 hcn hvc ⟨fun z => absurd z (by decide), fun _ => ⟨rfl, h⟩⟩⟩⟩
    · have m : qw_M_visible (nI o) q y (fun r' y' => (0 : Int32) = r' ∧ INV x y') := m_there_in hN2 h100 ho ⟨fun z => absurd z (by decide), fun _ => m_vis_no hC.2.2.2.1 o2 (by omega) v5 hno ⟨fun _ => ⟨rfl, h⟩, fun z => absurd rfl z⟩⟩
      rcases hno with hq | ⟨c, hc, rfl, e⟩
      · exact r_S_isIn_out hq ⟨by decide, m⟩
      · refine r_S_isIn hc ?_
        rw [← q_v_lt hc, e]
        exact ⟨by decide, m⟩
theorem t_commit {x y : QX} (h : INV x y) (p q : Int32) : qw_S_commit p q x (fun r x' => qw_M_commit p q y (fun r' y' => r = r' ∧ INV x' y')) := by
  obtain ⟨n, N, par, hC, hO, hL⟩ := id h
  have o2 := hC.2.1
  have hn := hC.2.2.1
  have hn0 := hC.2.2.2.1
  rcases q_has (p := p) (n := n) (by omega) with hp | ⟨c, hc, rfl⟩
  · have m : qw_M_commit p q y (fun r' y' => (-1 : Int32) = r' ∧ INV x y') := by
      refine ⟨fun _ => ⟨rfl, h⟩, fun z => ⟨fun _ => ⟨rfl, h⟩, fun z2 => ?_⟩⟩
      rw [hn0] at z2
      rcases hp with w | w
      · exact absurd w z
      · exact absurd w z2
    exact ⟨fun _ => ⟨fun _ => m, fun _ => r_C_changeOf_out hn hp m⟩, fun _ => r_C_parentOf_out hn hp m⟩
  · have hin : vp_in (nI c) 60 := vp_in_nI (by omega) (by decide)
    have cl : (nI c).toNatClampNeg = c := nI_clamp (by omega)
    have e1 : gA y 1 c = gA x 1 c := by
      rcases Nat.eq_zero_or_pos c with z | z
      · rw [z, hC.2.2.2.2.2.1, hC.2.2.2.2.2.2.1]
      · obtain ⟨-, a, b⟩ := hC.2.2.2.2.2.2.2.1 c z hc
        rw [a, b]
    have e0 : gA y 0 c = gA x 2 c := hC.2.2.2.2.2.2.2.2.1 c hc
    have m0 : ∀ M : Int32 → QX → Prop, (((q < 0) → M (-1) y) ∧ (¬ (q < 0) → ((q ≤ (1 : Int32)) → ((¬ q = 0) → M (gA x 2 c) y) ∧ ((q = 0) → M (gA x 1 c) y)) ∧ (¬ (q ≤ (1 : Int32)) → M (-1) y))) → qw_M_commit (nI c) q y M := fun M hM => by
      refine q_range_in hc (by omega) hn0 ?_
      rw [cl, e1, e0]
      exact ⟨hM.1, fun z => ⟨fun z2 => ⟨fun z3 => ⟨hin, (hM.2 z).1 z2 |>.1 z3⟩, fun z3 => ⟨hin, (hM.2 z).1 z2 |>.2 z3⟩⟩, (hM.2 z).2⟩⟩
    rcases q_01 q with rfl | rfl | ⟨n0, n1, hq⟩
    · exact ⟨fun z => absurd rfl z, fun _ => r_C_parentOf hn o2 hc (m0 _ ⟨fun z => absurd z (by decide), fun _ => ⟨fun _ => ⟨fun z => absurd rfl z, fun _ => ⟨rfl, h⟩⟩, fun z => absurd (by decide) z⟩⟩)⟩
    · exact ⟨fun _ => ⟨fun z => absurd rfl z, fun _ => r_C_changeOf hn o2 hc (m0 _ ⟨fun z => absurd z (by decide), fun _ => ⟨fun _ => ⟨fun _ => ⟨rfl, h⟩, fun z => absurd z (by decide)⟩, fun z => absurd (by decide) z⟩⟩)⟩, fun z => absurd z (by decide)⟩
    · refine ⟨fun _ => ⟨fun _ => m0 _ ⟨fun _ => ⟨rfl, h⟩, fun z => ⟨fun z2 => ?_, fun _ => ⟨rfl, h⟩⟩⟩, fun z => absurd z n1⟩, fun z => absurd z n0⟩
      rcases hq with w | w
      · exact absurd w z
      · exact absurd z2 w
theorem t_count {x y : QX} (h : INV x y) (p q r : Int32) : qw_S_count p q r x (fun a x' => qw_M_count p q r y (fun b y' => a = b ∧ INV x' y')) := by
  obtain ⟨n, N, par, hC, hO, hL⟩ := id h
  have o2 := hC.2.1
  have hn := hC.2.2.1
  have hn0 := hC.2.2.2.1
  rcases q_has (p := p) (n := n) (by omega) with hp | ⟨c, hc, rfl⟩
  · refine r_countOf_out hn o2 (Or.inl hp) ⟨fun _ => ⟨rfl, h⟩, fun z => ⟨fun _ => ⟨rfl, h⟩, fun z2 => ?_⟩⟩
    rw [hn0] at z2
    rcases hp with w | w
    · exact absurd w z
    · exact absurd w z2
  · rcases q_has (p := q) (n := 4) (by decide) with hq | ⟨k, hk, rfl⟩
    · refine r_countOf_out hn o2 (Or.inr (Or.inl hq)) (q_range_in hc (by omega) hn0 ⟨fun _ => ⟨rfl, h⟩, fun z => ⟨fun _ => ⟨rfl, h⟩, fun z2 => ?_⟩⟩)
      rcases q_gt (n := 3) (m := 3) (by decide) (by decide) hq with w | w
      · exact absurd w z
      · exact absurd w z2
    · have nk : ¬ (3 : Int32) < nI k := q_ngt (n := 3) (by decide) hk (by decide)
      rcases q_has (p := r) (n := 8) (by decide) with hr | ⟨v, hv, rfl⟩
      · refine r_countOf_out hn o2 (Or.inr (Or.inr hr)) (q_range_in hc (by omega) hn0 ⟨fun z => absurd z (nI_pos (by omega)), fun _ => ⟨fun z => absurd z nk, fun _ => ⟨fun _ => ⟨rfl, h⟩, fun z => ⟨fun z2 => ?_, fun _ => ⟨rfl, h⟩⟩⟩⟩⟩)
        rcases q_nle (n := 7) (m := 7) (by decide) (by decide) hr with w | w
        · exact absurd w z
        · exact absurd z2 w
      · refine r_countOf hn o2 hc hk hv (q_range_in hc (by omega) hn0 ⟨fun z => absurd z (nI_pos (by omega)), fun _ => ⟨fun z => absurd z nk, fun _ => ⟨fun z => absurd z (nI_pos (by omega)), fun _ => ⟨fun _ => ?_, fun z => absurd (q_le (n := 7) (by decide) hv (by decide)) z⟩⟩⟩⟩)
        rw [q_bt, nI_clamp (by omega), hC.2.2.2.2.2.2.2.2.2 _ (by omega)]
        exact ⟨vp_in_nI (by omega) (by decide), rfl, h⟩
/-- the i-th c with h, from c on, k of them to look at -/
def qm_nth (h : Nat → Bool) : Nat → Nat → Int32 → Option Nat
  | 0, _, _ => none
  | k + 1, c, l => if h c = true then (if l = 0 then some c else qm_nth h k (c + 1) (l + (-1))) else qm_nth h k (c + 1) l
theorem qm_nth_none {h : Nat → Bool} : ∀ (m c : Nat) (l : Int32), (∀ e, c ≤ e → h e = false) → qm_nth h m c l = none := by
  intro m
  induction m with
  | zero => intro c l _; rfl
  | succ m ih =>
    intro c l hf
    unfold qm_nth
    rw [if_neg (by rw [hf c (Nat.le_refl _)]; decide)]
    exact ih (c + 1) l (fun e he => hf e (by omega))
theorem qm_nth_ext {h : Nat → Bool} : ∀ (k m c : Nat) (l : Int32), (∀ e, c + k ≤ e → h e = false) → qm_nth h (k + m) c l = qm_nth h k c l := by
  intro k
  induction k with
  | zero => intro m c l hf; rw [Nat.zero_add, qm_nth_none m c l (fun e he => hf e (by omega))]; rfl
  | succ k ih =>
    intro m c l hf
    rw [Nat.succ_add]
    unfold qm_nth
    rw [ih m (c + 1) _ (fun e he => hf e (by omega)), ih m (c + 1) _ (fun e he => hf e (by omega))]
theorem qm_nth_congr {h g : Nat → Bool} : ∀ (k c : Nat) (l : Int32), (∀ e, c ≤ e → e < c + k → h e = g e) → qm_nth h k c l = qm_nth g k c l := by
  intro k
  induction k with
  | zero => intro c l _; rfl
  | succ k ih =>
    intro c l hf
    unfold qm_nth
    rw [hf c (Nat.le_refl _) (by omega), ih (c + 1) _ (fun e h1 h2 => hf e (by omega) (by omega)), ih (c + 1) _ (fun e h1 h2 => hf e (by omega) (by omega))]
theorem q_sub0 (a b : Int32) : a + -b = 0 ↔ b = a := by
  constructor
  · intro h
    have h1 : a + -b + b = 0 + b := by rw [h]
    rw [Int32.add_assoc, Int32.add_left_neg, Int32.add_zero, Int32.zero_add] at h1
    exact h1.symm
  · intro h
    subst h
    rw [Int32.add_comm, Int32.add_left_neg]
theorem q_sub1 (a b : Int32) : a + -b + (-1) = a + -(b + 1) := by
  rw [Int32.neg_add, Int32.sub_eq_add_neg, Int32.add_assoc]
theorem r_parents_loop {x : QX} {n : Nat} {par : Nat → Nat} {S : Int64} {v : Nat → Bool} {post : Int64 → QX → Prop} (hn : gI x 2 = nI n) (o2 : n ≤ 60) (hp : ∀ c, 0 < c → c < n → par c < c ∧ gA x 1 c = nI (par c)) (hS : ∀ c, c < 60 → qb_t S c = v c) (h : ∀ w : Int64, (∀ i, i < 60 → (qb_t w i = true ↔ ∃ k, 1 ≤ k ∧ k < n ∧ v k = true ∧ par k = i)) → post w x) :
    ∀ (f j : Nat) (w : Int64), 1 ≤ j → j ≤ n → n - j < f → (∀ i, i < 60 → (qb_t w i = true ↔ ∃ k, 1 ≤ k ∧ k < j ∧ v k = true ∧ par k = i)) → qw_C_parentsOf_H5 post f S w (nI j) x := by
  intro f
  induction f with
  | zero => intro j w _ _ h1; omega
  | succ f ih =>
    intro j w h1 h2 h3 hw
    refine ⟨fun e => ?_, fun e => ?_⟩
    · rw [hn] at e
      have e1 := (nI_leI (by omega) (by omega)).mp e
      have e2 : j = n := by omega
      subst e2
      exact h w hw
    · rw [hn] at e
      have e1 : ¬ n ≤ j := fun q => e ((nI_leI (by omega) (by omega)).mpr q)
      have hpj := hp j (by omega) (by omega)
      refine r_S_isIn (by omega) ?_
      rw [hS j (by omega)]
      refine qz_c (fun q => ?_) (fun q => ⟨vp_in_nI (by omega) (by decide), ?_⟩)
      · show qw_C_parentsOf_H5 post f S w (nI j + 1) x
        rw [nI_1]
        refine ih (j + 1) w (by omega) (by omega) (by omega) (fun i hi => (hw i hi).trans ⟨fun ⟨k, a, b, c, d⟩ => ⟨k, a, by omega, c, d⟩, fun ⟨k, a, b, c, d⟩ => ⟨k, a, ?_, c, d⟩⟩)
        rcases Nat.lt_or_ge k j with z | z
        · exact z
        · have : k = j := by omega
          subst this; rw [q] at c; cases c
      · rw [nI_clamp (by omega), hpj.2]
        intro t et
        subst et
        show qw_C_parentsOf_H5 post f S _ (nI j + 1) x
        rw [nI_1]
        refine ih (j + 1) _ (by omega) (by omega) (by omega) (fun i hi => ?_)
        rw [qb_or, qb_bit (by omega) (by omega)]
        constructor
        · intro z
          simp only [Bool.or_eq_true, decide_eq_true_eq] at z
          rcases z with z | z
          · obtain ⟨k, a, b, c, d⟩ := (hw i hi).mp z
            exact ⟨k, a, by omega, c, d⟩
          · exact ⟨j, h1, by omega, q, z.symm⟩
        · intro ⟨k, a, b, c, d⟩
          simp only [Bool.or_eq_true, decide_eq_true_eq]
          rcases Nat.lt_or_ge k j with z | z
          · exact Or.inl ((hw i hi).mpr ⟨k, a, z, c, d⟩)
          · have : k = j := by omega
            subst this; exact Or.inr d.symm
theorem r_head_loop {x : QX} {p i : Int32} {S T : Int64} {hB : Nat → Bool} {post : Int32 → QX → Prop} (hT : ∀ c, c < 60 → qb_t T c = hB c) :
    ∀ (f c : Nat) (a : Int32), c ≤ 60 → 60 - c < f → post (qm_o (qm_nth hB (60 - c) c (i + -a))) x → qw_S_head_H31 post f p i S T a (nI c) x := by
  intro f
  induction f with
  | zero => intro c a _ h1; omega
  | succ f ih =>
    intro c a h1 h2 h
    refine ⟨fun e => ?_, fun e => ?_⟩
    · have e1 := (nI_leI (by decide) (by omega)).mp (show nI 60 ≤ nI c from e)
      rw [show 60 - c = 0 by omega] at h
      exact h
    · have e1 : ¬ 60 ≤ c := fun q => e ((nI_leI (by decide) (by omega)).mpr q)
      obtain ⟨m, hm⟩ : ∃ m, 60 - c = m + 1 := ⟨59 - c, by omega⟩
      rw [hm] at h
      unfold qm_nth at h
      have hm2 : 60 - (c + 1) = m := by omega
      refine r_S_isIn (by omega) ?_
      rw [hT c (by omega)]
      refine qz_c (fun q => ?_) (fun q => ⟨fun z => ?_, fun z => ?_⟩)
      · rw [if_neg (by rw [q]; decide)] at h
        show qw_S_head_H31 post f p i S T a (nI c + 1) x
        rw [nI_1]
        exact ih (c + 1) a (by omega) (by omega) (by rw [hm2]; exact h)
      · rw [if_pos q, if_neg (fun w => z ((q_sub0 i a).mp w)), q_sub1] at h
        show qw_S_head_H31 post f p i S T (a + 1) (nI c + 1) x
        rw [nI_1]
        exact ih (c + 1) _ (by omega) (by omega) (by rw [hm2]; exact h)
      · rw [if_pos q, if_pos ((q_sub0 i a).mpr z)] at h
        exact h
theorem m_isHead_loop {y : QX} {n o : Nat} {par : Nat → Nat} {v : Nat → Bool} {post : Int32 → QX → Prop} (hn : gI y 0 = nI n) (o2 : n ≤ 60) (ho : o < 100) (hv : ∀ c, c < 60 → gA y 5 (60 * o + c) = qz (v c)) (hp : ∀ c, 0 < c → c < n → par c < c ∧ gA y 1 c = nI (par c)) {c : Nat} (hc : c < n) (h : ∀ b : Bool, (b = true ↔ v c = true ∧ ∀ k, c < k → k < n → v k = true → par k ≠ c) → post (qz b) y) :
    ∀ (f j : Nat) (b : Bool), c < j → j ≤ n → n - j < f → (b = true ↔ v c = true ∧ ∀ k, c < k → k < j → v k = true → par k ≠ c) → qw_M_isHead_H12 post f (nI o) (nI c) (qz b) (nI j) y := by
  intro f
  induction f with
  | zero => intro j b _ _ h1; omega
  | succ f ih =>
    intro j b h1 h2 h3 hb
    refine ⟨fun e => ?_, fun e => ?_⟩
    · rw [hn] at e
      have e1 := (nI_leI (by omega) (by omega)).mp e
      have e2 : j = n := by omega
      subst e2
      exact ⟨qz_nar b, h b hb⟩
    · rw [hn] at e
      have e1 : ¬ n ≤ j := fun q => e ((nI_leI (by omega) (by omega)).mpr q)
      have hpj := hp j (by omega) (by omega)
      refine qz_c (fun q => ⟨qz_nar b, h b ⟨fun z => ?_, fun z => ?_⟩⟩) (fun q => ?_)
      · rw [q] at z; cases z
      · exact hb.mpr ⟨z.1, fun k a b c => z.2 k a (by omega) c⟩
      · have hb1 := hb.mp q
        have stp : ∀ b' : Bool, (b' = true ↔ (v j = true → par j ≠ c)) → qw_M_isHead_H12 post f (nI o) (nI c) (qz b') (nI j + 1) y := fun b' hb' => by
          rw [nI_1]
          refine ih (j + 1) b' (by omega) (by omega) (by omega) ⟨fun z => ⟨hb1.1, fun k a b d => ?_⟩, fun z => hb'.mpr (fun d => z.2 j h1 (by omega) d)⟩
          rcases Nat.lt_or_ge k j with w | w
          · exact hb1.2 k a w d
          · have : k = j := by omega
            subst this; exact hb'.mp z d
        cases ev : v j with
        | false =>
          refine m_vis_no hn o2 ho hv (Or.inr ⟨j, by omega, rfl, ev⟩) ⟨fun _ => ?_, fun z => absurd rfl z⟩
          exact stp true ⟨fun _ z => (by rw [ev] at z; cases z), fun _ => rfl⟩
        | true =>
          refine m_vis_yes hn o2 ho hv (by omega) ev ⟨fun z => absurd z (by decide), fun _ => ⟨vp_in_nI (by omega) (by decide), ?_⟩⟩
          rw [nI_clamp (by omega), hpj.2]
          refine ⟨fun z => ?_, fun z => ?_⟩
          · have : par j = c := (nI_eq (by omega) (by omega)).mp z
            exact stp false ⟨fun w => (by cases w), fun w => absurd this (w ev)⟩
          · exact stp true ⟨fun _ _ w => z (by rw [w]), fun _ => rfl⟩
theorem m_isHead {y : QX} {n o : Nat} {par : Nat → Nat} {v : Nat → Bool} {post : Int32 → QX → Prop} (hn : gI y 0 = nI n) (o2 : n ≤ 60) (ho : o < 100) (hv : ∀ c, c < 60 → gA y 5 (60 * o + c) = qz (v c)) (hp : ∀ c, 0 < c → c < n → par c < c ∧ gA y 1 c = nI (par c)) {c : Nat} (hc : c < n) (h : ∀ b : Bool, (b = true ↔ v c = true ∧ ∀ k, c < k → k < n → v k = true → par k ≠ c) → post (qz b) y) : qw_M_isHead (nI o) (nI c) y post := by
  have go : ∀ b : Bool, b = v c → ∀ t3 : Int32, t3 = nI c + (1 : Int32) → qw_M_isHead_H12 post qFU (nI o) (nI c) (qz b) t3 y := fun b eb t3 e3 => by
    rw [e3, q_l1, nI_add]
    exact m_isHead_loop hn o2 ho hv hp hc h qFU (c + 1) b (by omega) (by omega) (by unfold qFU; omega) ⟨fun z => ⟨by rw [← eb]; exact z, fun k a b => by omega⟩, fun z => by rw [eb]; exact z.1⟩
  cases ev : v c with
  | true => exact m_vis_yes hn o2 ho hv hc ev (go true ev.symm)
  | false => exact m_vis_no hn o2 ho hv (Or.inr ⟨c, by omega, rfl, ev⟩) (go false ev.symm)
theorem m_head_loop {y : QX} {n N o : Nat} {par : Nat → Nat} {v hB : Nat → Bool} {p2 : Int32} {post : Int32 → QX → Prop} (hn : gI y 0 = nI n) (o2 : n ≤ 60) (hN : gI y 2 = nI N) (h100 : N ≤ 100) (ho : o < N) (hv : ∀ c, c < 60 → gA y 5 (60 * o + c) = qz (v c)) (hp : ∀ c, 0 < c → c < n → par c < c ∧ gA y 1 c = nI (par c)) (hh : ∀ c, c < n → (hB c = true ↔ v c = true ∧ ∀ k, c < k → k < n → v k = true → par k ≠ c)) :
    ∀ (f c : Nat) (l : Int32), c ≤ n → n - c < f → post (qm_o (qm_nth hB (n - c) c l)) y → qw_M_head_H5 post f (nI o) p2 l (nI c) y := by
  intro f
  induction f with
  | zero => intro c l _ h1; omega
  | succ f ih =>
    intro c l h1 h2 h
    refine ⟨fun e => ?_, fun e => ?_⟩
    · rw [hn] at e
      have e1 := (nI_leI (by omega) (by omega)).mp e
      rw [show n - c = 0 by omega] at h
      exact h
    · rw [hn] at e
      have e1 : ¬ n ≤ c := fun q => e ((nI_leI (by omega) (by omega)).mpr q)
      obtain ⟨m, hm⟩ : ∃ m, n - c = m + 1 := ⟨n - c - 1, by omega⟩
      rw [hm] at h
      unfold qm_nth at h
      have hm2 : n - (c + 1) = m := by omega
      refine m_there_in hN h100 ho ⟨fun z => absurd z (by decide), fun _ => m_isHead hn o2 (by omega) hv hp (by omega) (fun b hb => ?_)⟩
      have ebb : b = hB c := by
        have := hh c (by omega)
        cases b with
        | true => exact (this.mpr (hb.mp rfl)).symm
        | false =>
          cases e3 : hB c with
          | false => rfl
          | true => have := hb.mpr (this.mp e3); cases this
      rw [ebb]
      refine qz_c (fun q => ?_) (fun q => ⟨fun z => ?_, fun z => ?_⟩)
      · rw [if_neg (by rw [q]; decide)] at h
        show qw_M_head_H5 post f (nI o) p2 l (nI c + 1) y
        rw [nI_1]
        exact ih (c + 1) l (by omega) (by omega) (by rw [hm2]; exact h)
      · rw [if_pos q, if_neg z] at h
        show qw_M_head_H5 post f (nI o) p2 (l + (-1)) (nI c + 1) y
        rw [nI_1]
        exact ih (c + 1) _ (by omega) (by omega) (by rw [hm2]; exact h)
      · rw [if_pos q, if_pos z] at h
        exact h
theorem t_heads {x y : QX} (h : INV x y) (p i : Int32) : qw_S_head p i x (fun r x' => qw_M_head p i y (fun r' y' => r = r' ∧ INV x' y')) := by
  obtain ⟨n, N, par, hC, hO, hL⟩ := id h
  have h100 := hO.2.1
  have hN2 := hO.2.2.2.1
  have o1 := hC.1
  have o2 := hC.2.1
  have hn := hC.2.2.1
  have hn0 := hC.2.2.2.1
  have hpx : ∀ c, 0 < c → c < n → par c < c ∧ gA x 1 c = nI (par c) := fun c a b => ⟨(hC.2.2.2.2.2.2.2.1 c a b).1, (hC.2.2.2.2.2.2.2.1 c a b).2.1⟩
  have hpy : ∀ c, 0 < c → c < n → par c < c ∧ gA y 1 c = nI (par c) := fun c a b => ⟨(hC.2.2.2.2.2.2.2.1 c a b).1, (hC.2.2.2.2.2.2.2.1 c a b).2.2⟩
  have e0 : i + -0 = i := by
    have : (-0 : Int32) = 0 := by decide
    rw [this, Int32.add_zero]
  rcases q_has (p := p) (n := N) (by omega) with hp | ⟨o, ho, rfl⟩
  · refine r_O_shownIn_out hO.2.2.1 hp ?_
    refine r_parents_loop (v := fun _ => false) hn o2 hpx (fun c _ => qb_0 c) (fun w hw => ?_) qFU 1 0 (by omega) o1 (by unfold qFU; omega) (fun i hi => ⟨fun z => (by rw [qb_0] at z; cases z), fun ⟨k, _, _, z, _⟩ => by cases z⟩)
    intro t et
    refine r_head_loop (hB := fun _ => false) (fun c hc => by rw [et, qb_and, qb_0]; rfl) qFU 0 0 (by omega) (by unfold qFU; omega) ?_
    rw [qm_nth_none _ _ _ (fun _ _ => rfl)]
    refine ⟨fun e => ?_, fun _ => m_there_out hN2 hp ⟨fun _ => ⟨rfl, h⟩, fun z => absurd rfl z⟩⟩
    rw [hn0] at e
    have := (nI_leI (by omega) (by decide)).mp (show nI n ≤ nI 0 from e)
    omega
  · obtain ⟨v1, v2, v3, v4, v5, v6, hvv, -⟩ := hO.2.2.2.2.1 o ho
    refine r_O_shownIn hO.2.2.1 h100 ho ?_
    refine r_parents_loop (v := q_v (gB x 1 o)) hn o2 hpx (fun c hc => (q_v_lt hc).symm) (fun w hw => ?_) qFU 1 0 (by omega) o1 (by unfold qFU; omega) (fun i hi => ⟨fun z => (by rw [qb_0] at z; cases z), fun ⟨k, a, b, _, _⟩ => by omega⟩)
    intro t et
    obtain ⟨hB, hhB⟩ : ∃ hB : Nat → Bool, hB = fun c => q_v (gB x 1 o) c && !qb_t w c := ⟨_, rfl⟩
    have hiff : ∀ c, c < n → (hB c = true ↔ q_v (gB x 1 o) c = true ∧ ∀ k, c < k → k < n → q_v (gB x 1 o) k = true → par k ≠ c) := fun c hc => by
      rw [hhB]
      simp only [Bool.and_eq_true, Bool.not_eq_true']
      constructor
      · intro ⟨a, b⟩
        refine ⟨a, fun k k1 k2 k3 k4 => ?_⟩
        have := (hw c (by omega)).mpr ⟨k, by omega, k2, k3, k4⟩
        rw [b] at this; cases this
      · intro ⟨a, b⟩
        refine ⟨a, ?_⟩
        cases eb : qb_t w c with
        | false => rfl
        | true =>
          obtain ⟨k, k1, k2, k3, k4⟩ := (hw c (by omega)).mp eb
          have := (hpx k (by omega) k2).1
          exact absurd k4 (b k (by omega) k2 k3)
    refine r_head_loop (hB := hB) (fun c hc => by rw [et, qb_and, qb_not _ (by omega), hhB]; dsimp only; rw [q_v_lt hc]) qFU 0 0 (by omega) (by unfold qFU; omega) ?_
    rw [e0]
    have hlen : qm_nth hB 60 0 i = qm_nth hB n 0 i := by
      have := qm_nth_ext (h := hB) n (60 - n) 0 i (fun e he => by
        rw [hhB]
        show (q_v (gB x 1 o) e && !qb_t w e) = false
        cases ev : q_v (gB x 1 o) e with
        | false => rfl
        | true => have := hvv.2.1 e ev; omega)
      rw [show n + (60 - n) = 60 by omega] at this
      exact this
    show qw_M_head (nI o) i y _
    refine m_head_loop (hB := hB) hn0 o2 hN2 h100 ho v5 hpy hiff qFU 0 i (by omega) (by unfold qFU; omega) ?_
    refine ⟨?_, h⟩
    show qm_o (qm_nth hB 60 0 i) = qm_o (qm_nth hB n 0 i)
    rw [hlen]
