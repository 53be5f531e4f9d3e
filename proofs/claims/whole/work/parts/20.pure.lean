/-! Pure rows: bits of a long, searches, the way to a place. No machine in them. -/
def qb_t (w : Int64) (i : Nat) : Bool := w.toBitVec.getLsbD i
theorem qb_or (a b : Int64) (i : Nat) : qb_t (a ||| b) i = (qb_t a i || qb_t b i) := by simp [qb_t]
theorem qb_and (a b : Int64) (i : Nat) : qb_t (a &&& b) i = (qb_t a i && qb_t b i) := by simp [qb_t]
theorem qb_m1 : ∀ i, i < 64 → qb_t (-1) i = true := by decide +kernel
theorem qb_not (a : Int64) {i : Nat} (h : i < 64) : qb_t (a ^^^ (-1)) i = !qb_t a i := by
  have h1 := qb_m1 i h
  unfold qb_t at h1 ⊢
  rw [Int64.toBitVec_xor, BitVec.getLsbD_xor, h1]
  simp
theorem qb_0 (i : Nat) : qb_t 0 i = false := by simp [qb_t]
theorem qb_one : ∀ c, c < 64 → ((1 : Int64) <<< ((nI c).toInt64 &&& 63)).toBitVec = BitVec.twoPow 64 c := by decide +kernel
theorem qb_bit {c : Nat} (hc : c < 64) {i : Nat} (hi : i < 64) : qb_t ((1 : Int64) <<< ((nI c).toInt64 &&& 63)) i = decide (i = c) := by
  unfold qb_t
  rw [qb_one c hc, BitVec.getLsbD_twoPow]
  by_cases h : i = c
  · simp [h, hc]
  · simp [h, Ne.symm h]
theorem qb_sm : ∀ c, c < 64 → (((nI c).toInt64 &&& 63).toBitVec.smod 64).toNat = c := by decide +kernel
theorem qb_low (x : BitVec 64) : x &&& 1#64 = 0#64 ↔ x.getLsbD 0 = false := by
  constructor
  · intro h
    have h1 := congrArg (fun z => z.getLsbD 0) h
    simpa using h1
  · intro h
    apply BitVec.eq_of_getLsbD_eq
    intro i hi
    by_cases h0 : i = 0
    · subst h0; rw [BitVec.getLsbD_and, h]; simp
    · simp [BitVec.getLsbD_one, h0]
theorem qb_in (w : Int64) {c : Nat} (hc : c < 64) : ((w >>> ((nI c).toInt64 &&& 63)) &&& 1) = 0 ↔ qb_t w c = false := by
  have e : ((w >>> ((nI c).toInt64 &&& 63)) &&& 1) = 0 ↔ (w.toBitVec.sshiftRight c) &&& 1#64 = 0#64 := by
    rw [← Int64.toBitVec_inj, Int64.toBitVec_and, Int64.toBitVec_shiftRight, BitVec.sshiftRight', qb_sm c hc]
    exact Iff.rfl
  rw [e, qb_low]
  unfold qb_t
  rw [BitVec.getLsbD_sshiftRight]
  simp [hc]
/-- greatest c below n with f -/
def qm_last (f : Nat → Bool) : Nat → Option Nat
  | 0 => none
  | n + 1 => if f n = true then some n else qm_last f n
/-- least c with i ≤ c < i + k and f -/
def qm_first (f : Nat → Bool) : Nat → Nat → Option Nat
  | 0, _ => none
  | k + 1, i => if f i = true then some i else qm_first f k (i + 1)
def qm_o : Option Nat → Int32
  | none => -1
  | some c => nI c
theorem qm_last_some {f : Nat → Bool} : ∀ {n c : Nat}, qm_last f n = some c → c < n ∧ f c = true := by
  intro n
  induction n with
  | zero => intro c h; simp [qm_last] at h
  | succ n ih =>
    intro c h
    unfold qm_last at h
    by_cases hf : f n = true
    · rw [if_pos hf] at h; cases h; exact ⟨Nat.lt_succ_self _, hf⟩
    · rw [if_neg hf] at h; exact ⟨Nat.lt_succ_of_lt (ih h).1, (ih h).2⟩
theorem qm_last_congr {f g : Nat → Bool} : ∀ {n : Nat}, (∀ c, c < n → f c = g c) → qm_last f n = qm_last g n := by
  intro n
  induction n with
  | zero => intro _; rfl
  | succ n ih =>
    intro h
    unfold qm_last
    rw [h n (Nat.lt_succ_self _), ih (fun c hc => h c (Nat.lt_succ_of_lt hc))]
theorem qm_first_some {f : Nat → Bool} : ∀ {k i c : Nat}, qm_first f k i = some c → i ≤ c ∧ c < i + k ∧ f c = true := by
  intro k
  induction k with
  | zero => intro i c h; simp [qm_first] at h
  | succ k ih =>
    intro i c h
    unfold qm_first at h
    by_cases hf : f i = true
    · rw [if_pos hf] at h; cases h; exact ⟨Nat.le_refl _, by omega, hf⟩
    · rw [if_neg hf] at h
      obtain ⟨h1, h2, h3⟩ := ih h
      exact ⟨by omega, by omega, h3⟩
theorem qm_first_none {f : Nat → Bool} : ∀ {k i : Nat}, qm_first f k i = none → ∀ c, i ≤ c → c < i + k → f c = false := by
  intro k
  induction k with
  | zero => intro i _ c h1 h2; omega
  | succ k ih =>
    intro i h c h1 h2
    unfold qm_first at h
    by_cases hf : f i = true
    · rw [if_pos hf] at h; cases h
    · rw [if_neg hf] at h
      by_cases e : c = i
      · subst e; simpa using hf
      · exact ih h c (by omega) (by omega)
theorem qm_first_no {f : Nat → Bool} : ∀ {k i : Nat}, (∀ c, i ≤ c → c < i + k → f c = false) → qm_first f k i = none := by
  intro k
  induction k with
  | zero => intro i _; rfl
  | succ k ih =>
    intro i h
    unfold qm_first
    rw [if_neg (by rw [h i (Nat.le_refl _) (by omega)]; decide)]
    exact ih (fun c h1 h2 => h c (by omega) (by omega))
theorem qm_first_congr {f g : Nat → Bool} : ∀ {k i : Nat}, (∀ c, i ≤ c → c < i + k → f c = g c) → qm_first f k i = qm_first g k i := by
  intro k
  induction k with
  | zero => intro i _; rfl
  | succ k ih =>
    intro i h
    unfold qm_first
    rw [h i (Nat.le_refl _) (by omega), ih (fun c h1 h2 => h c (by omega) (by omega))]
theorem qm_o_eq {a b : Option Nat} (ha : ∀ c, a = some c → c < 2 ^ 31) (hb : ∀ c, b = some c → c < 2 ^ 31) (h : qm_o a = qm_o b) : a = b := by
  have n1 : ∀ c : Nat, c < 2 ^ 31 → nI c ≠ -1 := fun c hc e => by
    have h2 := nI_toInt hc
    rw [e] at h2
    have h3 : (-1 : Int32).toInt = -1 := by decide
    omega
  cases a with
  | none =>
    cases b with
    | none => rfl
    | some d => exact absurd h.symm (n1 d (hb d rfl))
  | some c =>
    cases b with
    | none => exact absurd h (n1 c (ha c rfl))
    | some d => rw [(nI_eq (ha c rfl) (hb d rfl)).mp h]
theorem qm_nI_ne (c : Nat) (hc : c < 2 ^ 31) : nI c ≠ -1 := fun e => by
  have h2 := nI_toInt hc
  rw [e] at h2
  have h3 : (-1 : Int32).toInt = -1 := by decide
  omega
theorem qm_o_none {a : Option Nat} (ha : ∀ c, a = some c → c < 2 ^ 31) : qm_o a = -1 ↔ a = none := by
  cases a with
  | none => simp [qm_o]
  | some c =>
    constructor
    · intro h; exact absurd h (qm_nI_ne c (ha c rfl))
    · intro h; cases h
/-- pigeons -/
theorem qm_pig : ∀ (n : Nat) (f : Nat → Nat), (∀ i, i ≤ n → f i < n) → ∃ i j, i < j ∧ j ≤ n ∧ f i = f j := by
  intro n
  induction n with
  | zero => intro f h; exact absurd (h 0 (Nat.le_refl _)) (Nat.not_lt_zero _)
  | succ n ih =>
    intro f h
    by_cases hd : ∃ i, i < n + 1 ∧ f i = f (n + 1)
    · obtain ⟨i, h1, h2⟩ := hd
      exact ⟨i, n + 1, h1, Nat.le_refl _, h2⟩
    · -- swap the value n with that of the last
      have hne : ∀ i, i < n + 1 → f i ≠ f (n + 1) := fun i hi e => hd ⟨i, hi, e⟩
      obtain ⟨i, j, h1, h2, h3⟩ := ih (fun i => if f i = n then f (n + 1) else f i) (fun i hi => by
        have hlt := h i (by omega)
        have hl := h (n + 1) (Nat.le_refl _)
        have hn := hne i (by omega)
        by_cases e : f i = n
        · simp only [e, if_true]; omega
        · simp only [e, if_false]; omega)
      refine ⟨i, j, h1, by omega, ?_⟩
      have hi := hne i (by omega)
      have hj := hne j (by omega)
      by_cases e1 : f i = n
      · by_cases e2 : f j = n
        · rw [e1, e2]
        · simp only [e1, e2, if_true, if_false] at h3
          exact absurd h3.symm hj
      · by_cases e2 : f j = n
        · simp only [e1, e2, if_true, if_false] at h3
          exact absurd h3 hi
        · simp only [e1, e2, if_false] at h3
          exact h3
def qm_it (g : Nat → Nat) : Nat → Nat → Nat
  | 0, x => x
  | k + 1, x => qm_it g k (g x)
theorem qm_it_add (g : Nat → Nat) : ∀ (a b x : Nat), qm_it g (a + b) x = qm_it g b (qm_it g a x) := by
  intro a
  induction a with
  | zero => intro b x; rw [Nat.zero_add]; rfl
  | succ a ih => intro b x; rw [Nat.succ_add]; exact ih b (g x)
theorem qm_it_succ (g : Nat → Nat) (k x : Nat) : qm_it g (k + 1) x = g (qm_it g k x) := by rw [qm_it_add g k 1 x]; rfl
theorem qm_it_lt {g : Nat → Nat} {n : Nat} (hg : ∀ c, c < n → g c < n) : ∀ (k x : Nat), x < n → qm_it g k x < n := by
  intro k
  induction k with
  | zero => intro x h; exact h
  | succ k ih => intro x h; exact ih (g x) (hg x h)
/-- what is reached at all is reached within n - 1 steps -/
theorem qm_soon {g : Nat → Nat} {n : Nat} (hg : ∀ c, c < n → g c < n) (v : Nat → Bool) {x : Nat} (hx : x < n) {k : Nat} (hv : v (qm_it g k x) = true) : ∃ j, j < n ∧ j ≤ k ∧ v (qm_it g j x) = true ∧ ∀ i, i < j → v (qm_it g i x) = false := by
  obtain ⟨j, hj, hmin⟩ := pk_least (fun j => v (qm_it g j x) = true) ⟨k, hv⟩
  refine ⟨j, ?_, ?_, hj, fun i hi => by simpa using hmin i hi⟩
  · by_cases hlt : j < n
    · exact hlt
    · obtain ⟨a, b, h1, h2, h3⟩ := qm_pig n (fun i => qm_it g i x) (fun i _ => qm_it_lt hg i x hx)
      have e : qm_it g (a + (j - b)) x = qm_it g j x := by
        have hb : j = b + (j - b) := by omega
        rw [qm_it_add]
        conv => rhs; rw [hb, qm_it_add]
        rw [show qm_it g a x = qm_it g b x from h3]
      exact absurd (by rw [e]; exact hj) (hmin (a + (j - b)) (by omega))
  · by_cases hle : j ≤ k
    · exact hle
    · exact absurd hv (hmin k (by omega))
/-- the class's way: at most k steps, then 0 -/
def qm_place (v : Nat → Bool) (g : Nat → Nat) : Nat → Nat → Nat
  | 0, x => if v x = true then x else 0
  | k + 1, x => if v x = true then x else qm_place v g k (g x)
theorem qm_place_hit {v : Nat → Bool} {g : Nat → Nat} : ∀ {k j x : Nat}, j ≤ k → v (qm_it g j x) = true → (∀ i, i < j → v (qm_it g i x) = false) → qm_place v g k x = qm_it g j x := by
  intro k
  induction k with
  | zero =>
    intro j x hj hv _
    have : j = 0 := by omega
    subst this
    exact if_pos hv
  | succ k ih =>
    intro j x hj hv hn
    cases j with
    | zero => exact if_pos hv
    | succ j =>
      have h0 := hn 0 (by omega)
      have h0 : v x = false := h0
      unfold qm_place
      rw [if_neg (by rw [h0]; decide)]
      exact ih (by omega) hv (fun i hi => hn (i + 1) (by omega))
theorem qm_place_miss {v : Nat → Bool} {g : Nat → Nat} : ∀ {k x : Nat}, (∀ i, i ≤ k → v (qm_it g i x) = false) → qm_place v g k x = 0 := by
  intro k
  induction k with
  | zero => intro x h; exact if_neg (by rw [show v x = false from h 0 (Nat.le_refl _)]; decide)
  | succ k ih =>
    intro x h
    unfold qm_place
    rw [if_neg (by rw [show v x = false from h 0 (by omega)]; decide)]
    exact ih (fun i hi => h (i + 1) (by omega))
/-- the number of steps does not matter from n - 1 on -/
theorem qm_place_any {v : Nat → Bool} {g : Nat → Nat} {n : Nat} (hg : ∀ c, c < n → g c < n) {x k k' : Nat} (hx : x < n) (hk : n ≤ k + 1) (hk' : n ≤ k' + 1) : qm_place v g k x = qm_place v g k' x := by
  by_cases h : ∃ j, v (qm_it g j x) = true
  · obtain ⟨i, hi⟩ := h
    obtain ⟨j, h1, -, h3, h4⟩ := qm_soon hg v hx hi
    rw [qm_place_hit (by omega) h3 h4, qm_place_hit (by omega) h3 h4]
  · have hn : ∀ i, v (qm_it g i x) = false := fun i => by
      have := fun e => h ⟨i, e⟩
      simpa using this
    rw [qm_place_miss (fun i _ => hn i), qm_place_miss (fun i _ => hn i)]
