/-! What ties the class's state to the reference's between calls. -/
/-- the view that a long pictures -/
def q_v (L : Int64) : Nat → Bool := fun c => decide (c < 60) && qb_t L c
theorem q_v_lt {L : Int64} {c : Nat} (h : c < 60) : q_v L c = qb_t L c := by unfold q_v; simp [h]
/-- a view that may be kept -/
def VV (n : Nat) (par : Nat → Nat) (v : Nat → Bool) (w : Int32) (mk : Nat → Int32) : Prop :=
  v 0 = true ∧ (∀ c, v c = true → c < n) ∧ (∀ c, 0 < c → c < n → v c = true → v (par c) = true) ∧ (∃ k, k < n ∧ w = nI k ∧ v k = true) ∧ (∀ m, m < 3 → mk m = -1 ∨ mk m = -2 ∨ ∃ c, c < n ∧ mk m = nI c ∧ v c = true)
def RV (x y : QX) (n N : Nat) (par : Nat → Nat) (o : Nat) : Prop :=
  gA y 2 o = gA x 3 o ∧ gA y 3 o = gA x 4 o ∧ gA y 7 o = gA x 5 o ∧ (∀ m, m < 3 → gA y 6 (3 * o + m) = gA x 6 (3 * o + m)) ∧ (∀ c, c < 60 → gA y 5 (60 * o + c) = qz (q_v (gB x 1 o) c)) ∧ gA y 4 o = qz (decide (gA x 4 o ≠ -1)) ∧ VV n par (q_v (gB x 1 o)) (gA x 5 o) (fun m => gA x 6 (3 * o + m)) ∧ (o = 0 → gA x 3 o = -1) ∧ (0 < o → ∃ o', o' < N ∧ gA x 3 o = nI o')
def RC (x y : QX) (n : Nat) (par : Nat → Nat) : Prop :=
  1 ≤ n ∧ n ≤ 60 ∧ gI x 2 = nI n ∧ gI y 0 = nI n ∧ gI x 3 = gI y 1 ∧ gA x 1 0 = -1 ∧ gA y 1 0 = -1 ∧ (∀ c, 0 < c → c < n → par c < c ∧ gA x 1 c = nI (par c) ∧ gA y 1 c = nI (par c)) ∧ (∀ c, c < n → gA y 0 c = gA x 2 c) ∧ (∀ i, i < 32 * n → gB y 0 i = gB x 0 i)
def RO (x y : QX) (n N : Nat) (par : Nat → Nat) : Prop :=
  1 ≤ N ∧ N ≤ 100 ∧ gI x 4 = nI N ∧ gI y 2 = nI N ∧ (∀ o, o < N → RV x y n N par o) ∧ (∀ o, N ≤ o → o < 100 → gA y 4 o = 0)
def RL (x y : QX) (N : Nat) : Prop :=
  (∃ a, a < N ∧ gA x 0 0 = nI a ∧ gA y 8 0 = nI a) ∧ gI y 5 = gI x 0 ∧
  ((gI y 3 = 0 ∧ gA x 0 1 = -1 ∧ gI x 0 = 0) ∨ (gI y 3 = 1 ∧ (∃ b, b < N ∧ gA x 0 1 = nI b ∧ gA y 8 1 = nI b) ∧ (∃ o, o < N ∧ gI x 1 = nI o ∧ gI y 4 = nI o) ∧ (gI x 0 = 0 ∨ gI x 0 = 1)))
def INV (x y : QX) : Prop := ∃ (n N : Nat) (par : Nat → Nat), RC x y n par ∧ RO x y n N par ∧ RL x y N
/-- operations and lines are as they were -/
def qC_of (x z : QX) : Prop := (gI z 0 = gI x 0 ∧ gI z 1 = gI x 1 ∧ gI z 4 = gI x 4) ∧ (gA z 0 = gA x 0 ∧ gA z 3 = gA x 3 ∧ gA z 4 = gA x 4 ∧ gA z 5 = gA x 5 ∧ gA z 6 = gA x 6) ∧ gB z 1 = gB x 1
def qM_of (y z : QX) : Prop := (gI z 2 = gI y 2 ∧ gI z 3 = gI y 3 ∧ gI z 4 = gI y 4 ∧ gI z 5 = gI y 5) ∧ (gA z 2 = gA y 2 ∧ gA z 3 = gA y 3 ∧ gA z 4 = gA y 4 ∧ gA z 5 = gA y 5 ∧ gA z 6 = gA y 6 ∧ gA z 7 = gA y 7 ∧ gA z 8 = gA y 8)
theorem qC_of_rf (x : QX) : qC_of x x := ⟨⟨rfl, rfl, rfl⟩, ⟨rfl, rfl, rfl, rfl, rfl⟩, rfl⟩
theorem qM_of_rf (x : QX) : qM_of x x := ⟨⟨rfl, rfl, rfl, rfl⟩, ⟨rfl, rfl, rfl, rfl, rfl, rfl, rfl⟩⟩
theorem qC_of_tr {a b c : QX} (h1 : qC_of a b) (h2 : qC_of b c) : qC_of a c := by
  obtain ⟨⟨p1, p2, p3⟩, ⟨q1, q2, q3, q4, q5⟩, r⟩ := h1
  obtain ⟨⟨p1', p2', p3'⟩, ⟨q1', q2', q3', q4', q5'⟩, r'⟩ := h2
  exact ⟨⟨p1'.trans p1, p2'.trans p2, p3'.trans p3⟩, ⟨q1'.trans q1, q2'.trans q2, q3'.trans q3, q4'.trans q4, q5'.trans q5⟩, r'.trans r⟩
theorem qM_of_tr {a b c : QX} (h1 : qM_of a b) (h2 : qM_of b c) : qM_of a c := by
  obtain ⟨⟨p1, p2, p3, p4⟩, ⟨q1, q2, q3, q4, q5, q6, q7⟩⟩ := h1
  obtain ⟨⟨p1', p2', p3', p4'⟩, ⟨q1', q2', q3', q4', q5', q6', q7'⟩⟩ := h2
  exact ⟨⟨p1'.trans p1, p2'.trans p2, p3'.trans p3, p4'.trans p4⟩, ⟨q1'.trans q1, q2'.trans q2, q3'.trans q3, q4'.trans q4, q5'.trans q5, q6'.trans q6, q7'.trans q7⟩⟩
theorem qC_of_fr {x z : QX} (h : qC_fr x z) : qC_of x z :=
  ⟨⟨h.1 0 (by decide), h.1 1 (by decide), h.1 4 (by decide)⟩, ⟨h.2.1 0 (by decide) (by decide) (by decide), h.2.1 3 (by decide) (by decide) (by decide), h.2.1 4 (by decide) (by decide) (by decide), h.2.1 5 (by decide) (by decide) (by decide), h.2.1 6 (by decide) (by decide) (by decide)⟩, h.2.2 1 (by decide)⟩
theorem qM_of_fr {x z : QX} (h : qM_fr x z) : qM_of x z :=
  ⟨⟨h.1 2 (by decide) (by decide) (by decide), h.1 3 (by decide) (by decide) (by decide), h.1 4 (by decide) (by decide) (by decide), h.1 5 (by decide) (by decide) (by decide)⟩, ⟨h.2.1 2 (by decide) (by decide) (by decide) (by decide) (by decide), h.2.1 3 (by decide) (by decide) (by decide) (by decide) (by decide), h.2.1 4 (by decide) (by decide) (by decide) (by decide) (by decide), h.2.1 5 (by decide) (by decide) (by decide) (by decide) (by decide), h.2.1 6 (by decide) (by decide) (by decide) (by decide) (by decide), h.2.1 7 (by decide) (by decide) (by decide) (by decide) (by decide), h.2.1 8 (by decide) (by decide) (by decide) (by decide) (by decide)⟩⟩
theorem qC_of_op {x z : QX} {L : Int64} {w : Int32} {mk : Nat → Int32} (h : qC_op x z L w mk) : qC_of x z := by
  obtain ⟨-, -, -, -, -, hI, hA, hB⟩ := h
  exact ⟨⟨hI 0 (by decide) (by decide), hI 1 (by decide) (by decide), hI 4 (by decide) (by decide)⟩, ⟨hA 0 (by decide) (by decide), hA 3 (by decide) (by decide), hA 4 (by decide) (by decide), hA 5 (by decide) (by decide), hA 6 (by decide) (by decide)⟩, hB 1⟩
theorem qM_of_op {x z : QX} {v : Nat → Bool} {w : Int32} {mk : Nat → Int32} (h : qM_op x z v w mk) : qM_of x z := by
  obtain ⟨-, -, -, -, -, -, -, hI, hA, hB⟩ := h
  exact ⟨⟨hI 2 (by decide) (by decide) (by decide) (by decide), hI 3 (by decide) (by decide) (by decide) (by decide), hI 4 (by decide) (by decide) (by decide) (by decide), hI 5 (by decide) (by decide) (by decide) (by decide)⟩, ⟨hA 2 (by decide) (by decide) (by decide), hA 3 (by decide) (by decide) (by decide), hA 4 (by decide) (by decide) (by decide), hA 5 (by decide) (by decide) (by decide), hA 6 (by decide) (by decide) (by decide), hA 7 (by decide) (by decide) (by decide), hA 8 (by decide) (by decide) (by decide)⟩⟩
/-- as it was, as far as a caller can see -/
def qC_back (x x' : QX) (n : Nat) : Prop := gI x' 2 = nI n ∧ gI x' 3 = gI x 3 ∧ (∀ c, c < n → gA x' 1 c = gA x 1 c ∧ gA x' 2 c = gA x 2 c) ∧ (∀ i, i < 32 * n → gB x' 0 i = gB x 0 i) ∧ qC_of x x'
def qM_back (y y' : QX) (n : Nat) : Prop := gI y' 0 = nI n ∧ gI y' 1 = gI y 1 ∧ (∀ c, c < n → gA y' 1 c = gA y 1 c ∧ gA y' 0 c = gA y 0 c) ∧ (∀ i, i < 32 * n → gB y' 0 i = gB y 0 i) ∧ qM_of y y'
theorem qC_back_rf {x y : QX} {n : Nat} {par : Nat → Nat} (h : RC x y n par) : qC_back x x n := ⟨h.2.2.1, rfl, fun _ _ => ⟨rfl, rfl⟩, fun _ _ => rfl, qC_of_rf x⟩
theorem qM_back_rf {x y : QX} {n : Nat} {par : Nat → Nat} (h : RC x y n par) : qM_back y y n := ⟨h.2.2.2.1, rfl, fun _ _ => ⟨rfl, rfl⟩, fun _ _ => rfl, qM_of_rf y⟩
theorem qC_back_op {x y x' : QX} {n : Nat} {par : Nat → Nat} {L : Int64} {w : Int32} {mk : Nat → Int32} (h : RC x y n par) (ho : qC_op x x' L w mk) : qC_back x x' n := by
  have hof := qC_of_op ho
  obtain ⟨-, -, -, -, -, hI, hA, hB⟩ := ho
  exact ⟨by rw [hI 2 (by decide) (by decide)]; exact h.2.2.1, hI 3 (by decide) (by decide), fun c _ => ⟨by rw [hA 1 (by decide) (by decide)], by rw [hA 2 (by decide) (by decide)]⟩, fun i _ => by rw [hB 0], hof⟩
theorem inv_back {x y x' y' : QX} {n N : Nat} {par : Nat → Nat} (hC : RC x y n par) (hO : RO x y n N par) (hL : RL x y N) (bC : qC_back x x' n) (bM : qM_back y y' n) : INV x' y' := by
  obtain ⟨c1, c2, c3, c4, c5, c6, c7, c8, c9, c10⟩ := hC
  obtain ⟨p1, p2, p3, p4, ⟨⟨i0, i1, i4⟩, ⟨a0, a3, a4, a5, a6⟩, b1⟩⟩ := bC
  obtain ⟨q1, q2, q3, q4, ⟨⟨j2, j3, j4, j5⟩, ⟨e2, e3, e4, e5, e6, e7, e8⟩⟩⟩ := bM
  refine ⟨n, N, par, ⟨c1, c2, p1, q1, by rw [p2, q2]; exact c5, ?_, ?_, fun c h1 h2 => ⟨(c8 c h1 h2).1, ?_, ?_⟩, fun c hc => ?_, fun i hi => ?_⟩, ?_, ?_⟩
  · rw [(p3 0 (by omega)).1]; exact c6
  · rw [(q3 0 (by omega)).1]; exact c7
  · rw [(p3 c h2).1]; exact (c8 c h1 h2).2.1
  · rw [(q3 c h2).1]; exact (c8 c h1 h2).2.2
  · rw [(q3 c hc).2, (p3 c hc).2]; exact c9 c hc
  · rw [q4 i hi, p4 i hi]; exact c10 i hi
  · unfold RO RV at hO ⊢
    rw [i4, j2, a3, a4, a5, a6, b1, e2, e3, e4, e5, e6, e7]
    exact hO
  · unfold RL at hL ⊢
    rw [i0, i1, a0, j3, j4, j5, e8]
    exact hL
/-- the draft that an opened view is -/
def q_d0 (x : QX) (n : Nat) (par : Nat → Nat) (v : Nat → Bool) : QD := (n, par, gA x 2, gB x 0, v, fun _ => none)
theorem q_d0_C {x y x' : QX} {n : Nat} {par : Nat → Nat} {L : Int64} {w : Int32} {mk : Nat → Int32} (h : RC x y n par) (ho : qC_op x x' L w mk) : qC_d x' (q_d0 x n par (q_v L)) := by
  obtain ⟨c1, c2, c3, c4, c5, c6, c7, c8, c9, c10⟩ := h
  obtain ⟨l0, -, -, h8, -, hI, hA, hB⟩ := ho
  refine ⟨by rw [hI 2 (by decide) (by decide)]; exact c3, by rw [hA 1 (by decide) (by decide)]; exact c6, fun c h1 h2 => by rw [hA 1 (by decide) (by decide)]; exact (c8 c h1 h2).2.1, fun c _ => by rw [hA 2 (by decide) (by decide)]; rfl, fun i _ => by rw [hB 0]; rfl, fun c hc => by rw [l0]; exact (q_v_lt hc).symm, fun c hc => h8 c hc⟩
theorem q_d0_M {x y y' : QX} {n : Nat} {par : Nat → Nat} {v : Nat → Bool} {w : Int32} {mk : Nat → Int32} (h : RC x y n par) (ho : qM_op y y' v w mk) : qM_d y' (q_d0 x n par v) := by
  obtain ⟨c1, c2, c3, c4, c5, c6, c7, c8, c9, c10⟩ := h
  obtain ⟨h9, h11, -, -, -, -, -, hI, hA, hB⟩ := ho
  refine ⟨by rw [hI 0 (by decide) (by decide) (by decide) (by decide)]; exact c4, by rw [hA 1 (by decide) (by decide) (by decide)]; exact c7, fun c h1 h2 => by rw [hA 1 (by decide) (by decide) (by decide)]; exact (c8 c h1 h2).2.2, fun c hc => by rw [hA 0 (by decide) (by decide) (by decide)]; exact c9 c hc, fun i hi => by rw [hB 0]; exact c10 i hi, h9, h11⟩
theorem q_d0_ok {x y : QX} {n : Nat} {par : Nat → Nat} {v : Nat → Bool} (h : RC x y n par) (h0 : v 0 = true) (hv : ∀ c, v c = true → c < n) : qD_ok (q_d0 x n par v) :=
  ⟨h.1, h.2.1, fun c h1 h2 => (h.2.2.2.2.2.2.2.1 c h1 h2).1, h0, hv, fun c r e => by cases e⟩
/-- d has all that was there -/
def q_base (x : QX) (n : Nat) (par : Nat → Nat) (d : QD) : Prop := n ≤ qD_n d ∧ (∀ c, 0 < c → c < n → qD_p d c = par c) ∧ (∀ c, c < n → qD_c d c = gA x 2 c) ∧ (∀ i, i < 32 * n → qD_k d i = gB x 0 i)
theorem q_base_d0 (x : QX) (n : Nat) (par : Nat → Nat) (v : Nat → Bool) : q_base x n par (q_d0 x n par v) := ⟨Nat.le_refl _, fun _ _ _ => rfl, fun _ _ => rfl, fun _ _ => rfl⟩
theorem q_base_ext {x : QX} {n : Nat} {par : Nat → Nat} {d d' : QD} (h : q_base x n par d) (e : qD_ext d d') : q_base x n par d' :=
  ⟨Nat.le_trans h.1 e.1, fun c h1 h2 => by rw [(e.2.1 c (Nat.lt_of_lt_of_le h2 h.1)).1]; exact h.2.1 c h1 h2, fun c hc => by rw [(e.2.1 c (Nat.lt_of_lt_of_le hc h.1)).2]; exact h.2.2.1 c hc, fun i hi => by rw [e.2.2 i (by have := h.1; omega)]; exact h.2.2.2 i hi⟩
theorem q_backC {x y z x' : QX} {n : Nat} {par : Nat → Nat} {d : QD} (h : RC x y n par) (hb : q_base x n par d) (hd : qC_d z d) (hof : qC_of x z) (h3 : gI z 3 = gI x 3) (e : x' = sI z 2 (nI n)) : qC_back x x' n := by
  obtain ⟨c1, c2, c3, c4, c5, c6, c7, c8, c9, c10⟩ := h
  obtain ⟨d1, d2, d3, d4, d5, -, -⟩ := hd
  obtain ⟨b1, b2, b3, b4⟩ := hb
  rw [e]
  refine ⟨rfl, h3, fun c hc => ⟨?_, ?_⟩, fun i hi => ?_, hof⟩
  · show gA z 1 c = gA x 1 c
    rcases Nat.eq_zero_or_pos c with q | q
    · rw [q, d2, c6]
    · rw [d3 c q (by omega), b2 c q hc, (c8 c q hc).2.1]
  · show gA z 2 c = gA x 2 c
    rw [d4 c (by omega), b3 c hc]
  · show gB z 0 i = gB x 0 i
    rw [d5 i (by omega), b4 i hi]
theorem q_backM {x y z y' : QX} {n : Nat} {par : Nat → Nat} {d : QD} (h : RC x y n par) (hb : q_base x n par d) (hd : qM_d z d) (hof : qM_of y z) (h7 : gI z 7 = nI n) (h8 : gI z 8 = gI y 1) (e : y' = sI (sI z 0 (gI z 7)) 1 (gI z 8)) : qM_back y y' n := by
  obtain ⟨c1, c2, c3, c4, c5, c6, c7, c8, c9, c10⟩ := h
  obtain ⟨d1, d2, d3, d4, d5, -, -⟩ := hd
  obtain ⟨b1, b2, b3, b4⟩ := hb
  rw [e]
  refine ⟨h7, h8, fun c hc => ⟨?_, ?_⟩, fun i hi => ?_, hof⟩
  · show gA z 1 c = gA y 1 c
    rcases Nat.eq_zero_or_pos c with q | q
    · rw [q, d2, c7]
    · rw [d3 c q (by omega), b2 c q hc, (c8 c q hc).2.2]
  · show gA z 0 c = gA y 0 c
    rw [d4 c (by omega), b3 c hc, c9 c hc]
  · show gB z 0 i = gB y 0 i
    rw [d5 i (by omega), b4 i hi, c10 i hi]
/-- an operation came: the class's side -/
def AC (x x' : QX) (N : Nat) (d : QD) (fi se w : Int32) (mk : Nat → Int32) : Prop :=
  gI x' 2 = nI (qD_n d) ∧ gA x' 1 0 = -1 ∧ (∀ c, 0 < c → c < qD_n d → gA x' 1 c = nI (qD_p d c)) ∧ (∀ c, c < qD_n d → gA x' 2 c = qD_c d c) ∧ (∀ i, i < 32 * qD_n d → gB x' 0 i = qD_k d i) ∧
  gI x' 4 = nI (N + 1) ∧ (∀ o, o < N → gA x' 3 o = gA x 3 o ∧ gA x' 4 o = gA x 4 o ∧ gB x' 1 o = gB x 1 o ∧ gA x' 5 o = gA x 5 o) ∧ (∀ i, i < 3 * N → gA x' 6 i = gA x 6 i) ∧
  gA x' 3 N = fi ∧ gA x' 4 N = se ∧ (∀ c, c < 60 → qb_t (gB x' 1 N) c = qD_v d c) ∧ gA x' 5 N = w ∧ (∀ m, m < 3 → gA x' 6 (3 * N + m) = mk m)
/-- the same, the reference's -/
def AM (y y' : QX) (N : Nat) (d : QD) (fi se w : Int32) (mk : Nat → Int32) : Prop :=
  gI y' 0 = nI (qD_n d) ∧ gA y' 1 0 = -1 ∧ (∀ c, 0 < c → c < qD_n d → gA y' 1 c = nI (qD_p d c)) ∧ (∀ c, c < qD_n d → gA y' 0 c = qD_c d c) ∧ (∀ i, i < 32 * qD_n d → gB y' 0 i = qD_k d i) ∧
  gI y' 2 = nI (N + 1) ∧ (∀ o, o < N → gA y' 2 o = gA y 2 o ∧ gA y' 3 o = gA y 3 o ∧ gA y' 7 o = gA y 7 o ∧ gA y' 4 o = gA y 4 o) ∧ (∀ i, i < 60 * N → gA y' 5 i = gA y 5 i) ∧ (∀ i, i < 3 * N → gA y' 6 i = gA y 6 i) ∧
  gA y' 2 N = fi ∧ gA y' 3 N = se ∧ (∀ c, c < 60 → gA y' 5 (60 * N + c) = qz (qD_v d c)) ∧ gA y' 7 N = w ∧ (∀ m, m < 3 → gA y' 6 (3 * N + m) = mk m) ∧ gA y' 4 N = qz (decide (se ≠ -1)) ∧ (∀ o, N + 1 ≤ o → o < 100 → gA y' 4 o = 0)
theorem VV_mono {n n' : Nat} {par par' : Nat → Nat} {v : Nat → Bool} {w : Int32} {mk : Nat → Int32} (h : VV n par v w mk) (hn : n ≤ n') (hp : ∀ c, 0 < c → c < n → par' c = par c) : VV n' par' v w mk := by
  obtain ⟨h1, h2, h3, ⟨k, hk, hw, hv⟩, h5⟩ := h
  refine ⟨h1, fun c hc => Nat.lt_of_lt_of_le (h2 c hc) hn, fun c a b hc => ?_, ⟨k, Nat.lt_of_lt_of_le hk hn, hw, hv⟩, fun m hm => ?_⟩
  · have hcn := h2 c hc
    rw [hp c a hcn]
    exact h3 c a hcn hc
  · rcases h5 m hm with q | q | ⟨c, hc, q, z⟩
    · exact Or.inl q
    · exact Or.inr (Or.inl q)
    · exact Or.inr (Or.inr ⟨c, Nat.lt_of_lt_of_le hc hn, q, z⟩)
theorem inv_app {x y x' y' : QX} {n N : Nat} {par : Nat → Nat} {d : QD} {fi se w : Int32} {mk : Nat → Int32} (hC : RC x y n par) (hO : RO x y n N par) (hN : N < 100) (ok : qD_ok d) (hb : q_base x n par d) (aC : AC x x' N d fi se w mk) (aM : AM y y' N d fi se w mk) (hvv : VV (qD_n d) (qD_p d) (qD_v d) w mk) (hfi : ∃ o, o < N ∧ fi = nI o) (h3 : gI x' 3 = gI y' 1) :
    RC x' y' (qD_n d) (qD_p d) ∧ RO x' y' (qD_n d) (N + 1) (qD_p d) := by
  obtain ⟨a1, a2, a3, a4, a5, a6, a7, a8, a9, a10, a11, a12, a13⟩ := aC
  obtain ⟨m1, m2, m3, m4, m5, m6, m7, m8, m9, m10, m11, m12, m13, m14, m15, m16⟩ := aM
  obtain ⟨o1, o2, o3, o4, o5, o6⟩ := ok
  obtain ⟨b1, b2, b3, b4⟩ := hb
  obtain ⟨r1, r2, r3, r4, r5, r6⟩ := hO
  refine ⟨⟨o1, o2, a1, m1, h3, a2, m2, fun c p q => ⟨o3 c p q, a3 c p q, m3 c p q⟩, fun c hc => by rw [m4 c hc, a4 c hc], fun i hi => by rw [m5 i hi, a5 i hi]⟩, by omega, by omega, a6, m6, fun o ho => ?_, m16⟩
  by_cases e : o = N
  · subst e
    have hqv : q_v (gB x' 1 o) = qD_v d := by
      funext c
      unfold q_v
      by_cases hc : c < 60
      · rw [a11 c hc]; simp [hc]
      · cases ev : qD_v d c with
        | false => simp [hc]
        | true => have := o5 c ev; omega
    refine ⟨by rw [m10, a9], by rw [m11, a10], by rw [m13, a12], fun m hm => by rw [m14 m hm, a13 m hm], fun c hc => by rw [m12 c hc, hqv], by rw [m15, a10], ?_, fun z => by omega, fun _ => ?_⟩
    · rw [hqv, a12]
      obtain ⟨v1, v2, v3, v4, v5⟩ := hvv
      exact ⟨v1, v2, v3, v4, fun m hm => by dsimp only; rw [a13 m hm]; exact v5 m hm⟩
    · obtain ⟨o', ho', hf⟩ := hfi
      exact ⟨o', by omega, by rw [a9]; exact hf⟩
  · have hoN : o < N := by omega
    obtain ⟨s1, s2, s3, s4, s5, s6, s7, s8, s9⟩ := r5 o hoN
    obtain ⟨t1, t2, t3, t4⟩ := a7 o hoN
    obtain ⟨u1, u2, u3, u4⟩ := m7 o hoN
    refine ⟨by rw [u1, t1]; exact s1, by rw [u2, t2]; exact s2, by rw [u3, t4]; exact s3, fun m hm => by rw [m9 _ (by omega), a8 _ (by omega)]; exact s4 m hm, fun c hc => by rw [m8 _ (by omega), t3]; exact s5 c hc, by rw [u4, t2]; exact s6, ?_, fun z => by rw [t1]; exact s8 z, fun z => ?_⟩
    · rw [t3, t4]
      obtain ⟨v1, v2, v3, v4, v5⟩ := VV_mono s7 b1 b2
      exact ⟨v1, v2, v3, v4, fun m hm => by dsimp only; rw [a8 _ (by omega)]; exact v5 m hm⟩
    · obtain ⟨o', ho', hf⟩ := s9 z
      exact ⟨o', by omega, by rw [t1]; exact hf⟩
theorem AC_kept {x z : QX} {N ln w : Nat} {d : QD} {f mk : Nat → Int32} {se : Int32} (hd : qC_d z d) (hof : qC_of x z) (hf : ∀ m, m < 3 → f m = mk m) : AC x (q_keptC z d w f N ln se) N d (gA x 0 ln) se (nI (qm_pl d w)) mk := by
  obtain ⟨d1, d2, d3, d4, d5, d6, d7⟩ := hd
  obtain ⟨⟨i0, i1, i4⟩, ⟨e0, e3, e4, e5, e6⟩, b1⟩ := hof
  refine ⟨d1, d2, d3, d4, d5, rfl, fun o ho => ⟨?_, ?_, ?_, ?_⟩, fun i hi => ?_, ?_, ?_, fun c hc => ?_, ?_, fun m hm => ?_⟩
  · show upd (gA z 3) N (gA z 0 ln) o = _
    rw [upd_at, if_neg (by omega), e3]
  · show upd (gA z 4) N se o = _
    rw [upd_at, if_neg (by omega), e4]
  · show vp_updL (gB z 1) N (gL z 0) o = _
    rw [updL_at, if_neg (by omega), b1]
  · show upd (gA z 5) N _ o = _
    rw [upd_at, if_neg (by omega), e5]
  · show va_cpy f (gA z 6) 0 (3 * N) 3 i = _
    rw [pk_cpy_out (by omega), e6]
  · show upd (gA z 3) N (gA z 0 ln) N = _
    rw [upd_at, if_pos rfl, e0]
  · show upd (gA z 4) N se N = _
    rw [upd_at, if_pos rfl]
  · show qb_t (vp_updL (gB z 1) N (gL z 0) N) c = _
    rw [updL_at, if_pos rfl]; exact d6 c hc
  · show upd (gA z 5) N (nI (qm_pl d w)) N = _
    rw [upd_at, if_pos rfl]
  · show va_cpy f (gA z 6) 0 (3 * N) 3 (3 * N + m) = _
    rw [pk_cpy_in (by omega) (by omega), show 0 + (3 * N + m - 3 * N) = m by omega]
    exact hf m hm
theorem AM_fin {y z y' : QX} {N : Nat} {d : QD} {fi se w : Int32} {mk : Nat → Int32} (hd : qM_d z d) (hof : qM_of y z) (hf : qM_fin z y' N fi se (qD_v d)) (h6 : gI z 6 = w) (hm : ∀ m, m < 3 → gA z 10 m = mk m) (hj : ∀ o, N ≤ o → o < 100 → gA y 4 o = 0) (j' : QX) (e1 : gI j' = gI y') (e2 : ∀ k, k ≠ 4 → k ≠ 8 → gA j' k = gA y' k) (e3 : gB j' = gB y') (e4 : ∀ o, gA j' 4 o = if o = N then qz (decide (se ≠ -1)) else gA y' 4 o) : AM y j' N d fi se w mk := by
  obtain ⟨d1, d2, d3, d4, d5, d6, d7⟩ := hd
  obtain ⟨⟨i2, i3, i4, i5⟩, ⟨p2, p3, p4, p5, p6, p7, p8⟩⟩ := hof
  obtain ⟨f1, f2, f3, f4, f5, f6, f7, f8, f9, f10, f11⟩ := hf
  have g4 : gA y' 4 = gA y 4 := by rw [f10 4 (by decide) (by decide) (by decide) (by decide) (by decide), p4]
  refine ⟨?_, ?_, ?_, ?_, ?_, ?_, fun o ho => ⟨?_, ?_, ?_, ?_⟩, fun i hi => ?_, fun i hi => ?_, ?_, ?_, fun c hc => ?_, ?_, fun m hm2 => ?_, ?_, fun o h1 h2 => ?_⟩
  · rw [e1, f9 0 (by decide)]; exact d1
  · rw [e2 1 (by decide) (by decide), f10 1 (by decide) (by decide) (by decide) (by decide) (by decide)]; exact d2
  · rw [e2 1 (by decide) (by decide), f10 1 (by decide) (by decide) (by decide) (by decide) (by decide)]; exact d3
  · rw [e2 0 (by decide) (by decide), f10 0 (by decide) (by decide) (by decide) (by decide) (by decide)]; exact d4
  · rw [e3, f11 0]; exact d5
  · rw [e1]; exact f1
  · rw [e2 2 (by decide) (by decide), f2, upd_at, if_neg (by omega), p2]
  · rw [e2 3 (by decide) (by decide), f3, upd_at, if_neg (by omega), p3]
  · rw [e2 7 (by decide) (by decide), f8, upd_at, if_neg (by omega), p7]
  · rw [e4, if_neg (by omega), g4]
  · rw [e2 5 (by decide) (by decide), f4 i hi, p5]
  · rw [e2 6 (by decide) (by decide), f6 i hi, p6]
  · rw [e2 2 (by decide) (by decide), f2, upd_at, if_pos rfl]
  · rw [e2 3 (by decide) (by decide), f3, upd_at, if_pos rfl]
  · rw [e2 5 (by decide) (by decide), f5 c hc]
  · rw [e2 7 (by decide) (by decide), f8, upd_at, if_pos rfl, h6]
  · rw [e2 6 (by decide) (by decide), f7 m hm2, hm m hm2]
  · rw [e4, if_pos rfl]
  · rw [e4, if_neg (by omega), g4]; exact hj o (by omega) h2
