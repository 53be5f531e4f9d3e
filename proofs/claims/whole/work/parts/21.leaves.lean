/-! Reading behind writing; leaves of the class, as rules on their wps. -/
theorem gI_sI (x : QX) (k j : Nat) (v : Int32) : gI (sI x k v) j = if j = k then v else gI x j := rfl
theorem gI_sL (x : QX) (k j : Nat) (v : Int64) : gI (sL x k v) j = gI x j := rfl
theorem gI_sA (x : QX) (k j : Nat) (v : Nat → Int32) : gI (sA x k v) j = gI x j := rfl
theorem gI_sB (x : QX) (k j : Nat) (v : Nat → Int64) : gI (sB x k v) j = gI x j := rfl
theorem gL_sI (x : QX) (k j : Nat) (v : Int32) : gL (sI x k v) j = gL x j := rfl
theorem gL_sL (x : QX) (k j : Nat) (v : Int64) : gL (sL x k v) j = if j = k then v else gL x j := rfl
theorem gL_sA (x : QX) (k j : Nat) (v : Nat → Int32) : gL (sA x k v) j = gL x j := rfl
theorem gL_sB (x : QX) (k j : Nat) (v : Nat → Int64) : gL (sB x k v) j = gL x j := rfl
theorem gA_sI (x : QX) (k j : Nat) (v : Int32) : gA (sI x k v) j = gA x j := rfl
theorem gA_sL (x : QX) (k j : Nat) (v : Int64) : gA (sL x k v) j = gA x j := rfl
theorem gA_sA (x : QX) (k j : Nat) (v : Nat → Int32) : gA (sA x k v) j = if j = k then v else gA x j := rfl
theorem gA_sB (x : QX) (k j : Nat) (v : Nat → Int64) : gA (sB x k v) j = gA x j := rfl
theorem gB_sI (x : QX) (k j : Nat) (v : Int32) : gB (sI x k v) j = gB x j := rfl
theorem gB_sL (x : QX) (k j : Nat) (v : Int64) : gB (sL x k v) j = gB x j := rfl
theorem gB_sA (x : QX) (k j : Nat) (v : Nat → Int32) : gB (sA x k v) j = gB x j := rfl
theorem gB_sB (x : QX) (k j : Nat) (v : Nat → Int64) : gB (sB x k v) j = if j = k then v else gB x j := rfl
theorem sB_sB (x : QX) (k : Nat) (f g : Nat → Int64) : sB (sB x k f) k g = sB x k g := by
  unfold sB
  rw [bx_uu]
theorem sA_sA (x : QX) (k : Nat) (f g : Nat → Int32) : sA (sA x k f) k g = sA x k g := by
  unfold sA
  rw [bx_uu]
theorem sB_id (x : QX) (k : Nat) : sB x k (gB x k) = x := by
  unfold sB gB
  have h : va_up x.2.2.2 k (x.2.2.2 k) = x.2.2.2 := by
    funext j
    unfold va_up
    by_cases e : j = k
    · rw [if_pos e, e]
    · rw [if_neg e]
  rw [h]
theorem sA_id (x : QX) (k : Nat) : sA x k (gA x k) = x := by
  unfold sA gA
  have h : va_up x.2.2.1 k (x.2.2.1 k) = x.2.2.1 := by
    funext j
    unfold va_up
    by_cases e : j = k
    · rw [if_pos e, e]
    · rw [if_neg e]
  rw [h]
def qz (b : Bool) : Int32 := if b = true then 1 else 0
theorem qz_nar (b : Bool) : vp_nar .boolean (qz b) = qz b := by cases b <;> decide
theorem qz_0 (b : Bool) : qz b = 0 ↔ b = false := by cases b <;> decide
theorem qz_1 (b : Bool) : qz b = 1 ↔ b = true := by cases b <;> decide
theorem qz_t : qz true = 1 := rfl
theorem qz_f : qz false = 0 := rfl
theorem qz_inj {a b : Bool} : qz a = qz b ↔ a = b := by cases a <;> cases b <;> decide
/-- a boolean answer, split -/
theorem qz_c {b : Bool} {A B : Prop} (h1 : b = false → A) (h2 : b = true → B) : (qz b = 0 → A) ∧ (¬ qz b = 0 → B) :=
  ⟨fun h => h1 ((qz_0 b).mp h), fun h => h2 (by cases b with | false => exact absurd rfl h | true => rfl)⟩
theorem qz_d {b : Bool} {A B : Prop} (h1 : b = true → A) (h2 : b = false → B) : (¬ qz b = 0 → A) ∧ (qz b = 0 → B) :=
  ⟨fun h => h1 (by cases b with | false => exact absurd rfl h | true => rfl), fun h => h2 ((qz_0 b).mp h)⟩
theorem q_l0 : (0 : Int32) = nI 0 := by decide
theorem q_l1 : (1 : Int32) = nI 1 := by decide
theorem q_l2 : (2 : Int32) = nI 2 := by decide
theorem q_l3 : (3 : Int32) = nI 3 := by decide
theorem q_l4 : (4 : Int32) = nI 4 := by decide
theorem q_l8 : (8 : Int32) = nI 8 := by decide
theorem q_l32 : (32 : Int32) = nI 32 := by decide
theorem q_l60 : (60 : Int32) = nI 60 := by decide
theorem q_l100 : (100 : Int32) = nI 100 := by decide
theorem q_l120 : (120 : Int32) = nI 120 := by decide
theorem q_l400 : (400 : Int32) = nI 400 := by decide
/-- an index is out, or a number below -/
def q_out (p : Int32) (n : Nat) : Prop := p < 0 ∨ nI n ≤ p
theorem q_has {p : Int32} {n : Nat} (hn : n < 2 ^ 31) : q_out p n ∨ ∃ j : Nat, j < n ∧ p = nI j := by
  rcases pk_ix p hn with h | h | h
  · exact Or.inl (Or.inl h)
  · exact Or.inl (Or.inr h)
  · exact Or.inr h
theorem q_range_in {A B : Prop} {j n : Nat} {m : Int32} (hj : j < n) (hn : n < 2 ^ 31) (hm : m = nI n) (h : B) : (nI j < 0 → A) ∧ (¬ nI j < 0 → (m ≤ nI j → A) ∧ (¬ m ≤ nI j → B)) :=
  ⟨fun h0 => absurd h0 (nI_pos (by omega)), fun _ => ⟨fun h1 => by rw [hm] at h1; exact absurd h1 (nI_ge hj hn), fun _ => h⟩⟩
theorem q_range_out {A B : Prop} {p : Int32} {n : Nat} {m : Int32} (hp : q_out p n) (hm : m = nI n) (h : A) : (p < 0 → A) ∧ (¬ p < 0 → (m ≤ p → A) ∧ (¬ m ≤ p → B)) :=
  ⟨fun _ => h, fun h0 => ⟨fun _ => h, fun h1 => by
    rcases hp with hp | hp
    · exact absurd hp h0
    · rw [hm] at h1; exact absurd hp h1⟩⟩
theorem q_out_m1 (n : Nat) : q_out (-1) n := Or.inl (by decide)
theorem q_out_big {j n : Nat} (h : n ≤ j) (hj : j < 2 ^ 31) : q_out (nI j) n := Or.inr (nI_le h hj)
section CL
variable {x : QX} {n : Nat}
theorem r_C_has_in {c : Nat} {post : Int32 → QX → Prop} (hn : gI x 2 = nI n) (h60 : n ≤ 60) (hc : c < n) (h : post 1 x) : qw_C_has (nI c) x post := q_range_in hc (by omega) hn h
theorem r_C_has_out {p : Int32} {post : Int32 → QX → Prop} (hn : gI x 2 = nI n) (hp : q_out p n) (h : post 0 x) : qw_C_has p x post := q_range_out hp hn h
theorem r_O_has_in {c : Nat} {post : Int32 → QX → Prop} (hn : gI x 4 = nI n) (h1 : n ≤ 100) (hc : c < n) (h : post 1 x) : qw_O_has (nI c) x post := q_range_in hc (by omega) hn h
theorem r_O_has_out {p : Int32} {post : Int32 → QX → Prop} (hn : gI x 4 = nI n) (hp : q_out p n) (h : post 0 x) : qw_O_has p x post := q_range_out hp hn h
theorem r_S_isPath_in {c : Nat} {post : Int32 → QX → Prop} (hc : c < 4) (h : post 1 x) : qw_S_isPath (nI c) x post := q_range_in hc (by decide) rfl h
theorem r_S_isPath_out {p : Int32} {post : Int32 → QX → Prop} (hp : q_out p 4) (h : post 0 x) : qw_S_isPath p x post := q_range_out hp rfl h
theorem r_S_isValue_in {c : Nat} {post : Int32 → QX → Prop} (hc : c < 8) (h : post 1 x) : qw_S_isValue (nI c) x post := q_range_in hc (by decide) rfl h
theorem r_S_isValue_out {p : Int32} {post : Int32 → QX → Prop} (hp : q_out p 8) (h : post 0 x) : qw_S_isValue p x post := q_range_out hp rfl h
theorem r_S_isMark_in {c : Nat} {post : Int32 → QX → Prop} (hc : c < 3) (h : post 1 x) : qw_S_isMark (nI c) x post := q_range_in hc (by decide) rfl h
theorem r_S_isMark_out {p : Int32} {post : Int32 → QX → Prop} (hp : q_out p 3) (h : post 0 x) : qw_S_isMark p x post := q_range_out hp rfl h
theorem r_C_parentOf {c : Nat} {post : Int32 → QX → Prop} (hn : gI x 2 = nI n) (h60 : n ≤ 60) (hc : c < n) (h : post (gA x 1 c) x) : qw_C_parentOf (nI c) x post := by
  refine r_C_has_in hn h60 hc ⟨fun h0 => absurd h0 (by decide), fun _ => ⟨vp_in_nI (by omega) (by decide), ?_⟩⟩
  rw [nI_clamp (by omega)]; exact h
theorem r_C_parentOf_out {p : Int32} {post : Int32 → QX → Prop} (hn : gI x 2 = nI n) (hp : q_out p n) (h : post (-1) x) : qw_C_parentOf p x post :=
  r_C_has_out hn hp ⟨fun _ => h, fun h0 => absurd rfl h0⟩
theorem r_C_changeOf {c : Nat} {post : Int32 → QX → Prop} (hn : gI x 2 = nI n) (h60 : n ≤ 60) (hc : c < n) (h : post (gA x 2 c) x) : qw_C_changeOf (nI c) x post := by
  refine r_C_has_in hn h60 hc ⟨fun h0 => absurd h0 (by decide), fun _ => ⟨vp_in_nI (by omega) (by decide), ?_⟩⟩
  rw [nI_clamp (by omega)]; exact h
theorem r_C_changeOf_out {p : Int32} {post : Int32 → QX → Prop} (hn : gI x 2 = nI n) (hp : q_out p n) (h : post (-1) x) : qw_C_changeOf p x post :=
  r_C_has_out hn hp ⟨fun _ => h, fun h0 => absurd rfl h0⟩
theorem r_C_isFull {post : Int32 → QX → Prop} (hn : gI x 2 = nI n) (h60 : n ≤ 60) (h : post (qz (decide (n = 60))) x) : qw_C_isFull x post := by
  unfold qw_C_isFull
  rw [hn, q_l60]
  refine ⟨fun h1 => ?_, fun h1 => ?_⟩
  · have := (nI_ltI (by omega) (by decide)).mp h1
    rw [decide_eq_false (by omega)] at h; exact h
  · have : ¬ n < 60 := fun e => h1 ((nI_ltI (by omega) (by decide)).mpr e)
    rw [decide_eq_true (by omega)] at h; exact h
theorem r_O_isFull {post : Int32 → QX → Prop} (hn : gI x 4 = nI n) (h60 : n ≤ 100) (h : post (qz (decide (n = 100))) x) : qw_O_isFull x post := by
  unfold qw_O_isFull
  rw [hn, q_l100]
  refine ⟨fun h1 => ?_, fun h1 => ?_⟩
  · have := (nI_ltI (by omega) (by decide)).mp h1
    rw [decide_eq_false (by omega)] at h; exact h
  · have : ¬ n < 100 := fun e => h1 ((nI_ltI (by omega) (by decide)).mpr e)
    rw [decide_eq_true (by omega)] at h; exact h
theorem lg_0 (w : Int64) : lg_cmp w 0 = 0 ↔ w = 0 := by
  unfold lg_cmp
  by_cases h : w = 0
  · subst h; simp
  · by_cases h2 : w > 0
    · simp [h, h2]
    · simp [h, h2]
theorem lg_eq (w v : Int64) : lg_cmp w v = 0 ↔ w = v := by
  unfold lg_cmp
  by_cases h : w = v
  · subst h; simp
  · by_cases h2 : w > v
    · simp [h, h2]
    · simp [h, h2]
theorem r_S_isIn {w : Int64} {c : Nat} {post : Int32 → QX → Prop} (hc : c < 60) (h : post (qz (qb_t w c)) x) : qw_S_isIn (nI c) w x post := by
  refine ⟨fun h0 => absurd h0 (nI_pos (by omega)), fun _ => ⟨fun h1 => absurd h1 (nI_ge hc (by decide)), fun _ => ⟨fun h2 => ?_, fun h2 => ?_⟩⟩⟩
  · rw [(qb_in w (by omega)).mp ((lg_0 _).mp h2)] at h; exact h
  · have h3 : qb_t w c = true := by
      cases hb : qb_t w c with
      | true => rfl
      | false => exact absurd ((lg_0 _).mpr ((qb_in w (by omega)).mpr hb)) h2
    rw [h3] at h; exact h
theorem r_S_isIn_out {w : Int64} {p : Int32} {post : Int32 → QX → Prop} (hp : q_out p 60) (h : post 0 x) : qw_S_isIn p w x post :=
  ⟨fun _ => h, fun h0 => ⟨fun _ => h, fun h1 => by
    rcases hp with hp | hp
    · exact absurd hp h0
    · exact absurd hp h1⟩⟩
theorem r_D_shows {c : Nat} {post : Int32 → QX → Prop} (hc : c < 60) (h : post (qz (qb_t (gL x 0) c)) x) : qw_D_shows (nI c) x post := r_S_isIn hc ⟨qz_nar _, h⟩
theorem r_D_shows_out {p : Int32} {post : Int32 → QX → Prop} (hp : q_out p 60) (h : post 0 x) : qw_D_shows p x post := r_S_isIn_out hp ⟨by decide, h⟩
end CL
