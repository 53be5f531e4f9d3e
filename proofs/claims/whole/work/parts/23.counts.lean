/-! Counts: the class's copying, mixing and making plain. -/
theorem upd_at (f : Nat → Int32) (k : Nat) (v : Int32) (j : Nat) : upd f k v j = if j = k then v else f j := by
  by_cases h : j = k
  · subst h; rw [pk_us, if_pos rfl]
  · rw [pk_un h, if_neg h]
theorem updL_at (f : Nat → Int64) (k : Nat) (v : Int64) (j : Nat) : vp_updL f k v j = if j = k then v else f j := rfl
def qm_part (g f : Nat → Int64) (b k : Nat) : Nat → Int64 := fun i => if b ≤ i ∧ i < b + k then f (i - b) else g i
theorem qm_part_0 (g f : Nat → Int64) (b : Nat) : qm_part g f b 0 = g := by
  funext i
  unfold qm_part
  rw [if_neg (by omega)]
theorem qm_part_succ (g f : Nat → Int64) (b k : Nat) : vp_updL (qm_part g f b k) (b + k) (f k) = qm_part g f b (k + 1) := by
  funext i
  rw [updL_at]
  unfold qm_part
  by_cases h : i = b + k
  · subst h
    rw [if_pos rfl, if_pos (by omega), Nat.add_sub_cancel_left]
  · rw [if_neg h]
    by_cases h2 : b ≤ i ∧ i < b + k
    · rw [if_pos h2, if_pos (by omega)]
    · rw [if_neg h2, if_neg (by omega)]
theorem qm_part_out {g f : Nat → Int64} {b k i : Nat} (h : i < b ∨ b + k ≤ i) : qm_part g f b k i = g i := by
  unfold qm_part
  rw [if_neg (by omega)]
theorem qm_part_in {g f : Nat → Int64} {b k i : Nat} (h : i < k) : qm_part g f b k (b + i) = f i := by
  unfold qm_part
  rw [if_pos (by omega), Nat.add_sub_cancel_left]
def qm_one (v : Nat) : Nat → Int64 := fun j => if j = v then 1 else 0
/-- how many of the first k are not 0; the last above 0 -/
def qm_nz (f : Nat → Int64) : Nat → Nat
  | 0 => 0
  | k + 1 => qm_nz f k + (if f k = 0 then 0 else 1)
def qm_top (f : Nat → Int64) : Nat → Nat
  | 0 => 0
  | k + 1 => if f k ≤ 0 then qm_top f k else k
theorem qm_nz_le (f : Nat → Int64) : ∀ k, qm_nz f k ≤ k := by
  intro k
  induction k with
  | zero => exact Nat.le_refl _
  | succ k ih =>
    unfold qm_nz
    by_cases h : f k = 0
    · rw [if_pos h]; omega
    · rw [if_neg h]; omega
theorem qm_top_lt (f : Nat → Int64) : ∀ k, qm_top f k < k ∨ qm_top f k = 0 := by
  intro k
  induction k with
  | zero => exact Or.inr rfl
  | succ k ih =>
    unfold qm_top
    by_cases h : f k ≤ 0
    · rw [if_pos h]; omega
    · rw [if_neg h]; omega
def qm_cell (f : Nat → Int64) : Nat → Int64 := if qm_nz f 8 = 2 then qm_one (qm_top f 8) else f
theorem qm_nz_congr {f g : Nat → Int64} : ∀ {k : Nat}, (∀ j, j < k → f j = g j) → qm_nz f k = qm_nz g k := by
  intro k
  induction k with
  | zero => intro _; rfl
  | succ k ih => intro h; unfold qm_nz; rw [h k (by omega), ih (fun j hj => h j (by omega))]
theorem qm_top_congr {f g : Nat → Int64} : ∀ {k : Nat}, (∀ j, j < k → f j = g j) → qm_top f k = qm_top g k := by
  intro k
  induction k with
  | zero => intro _; rfl
  | succ k ih => intro h; unfold qm_top; rw [h k (by omega), ih (fun j hj => h j (by omega))]
theorem qm_cell_congr {f g : Nat → Int64} (h : ∀ j, j < 8 → f j = g j) {v : Nat} (hv : v < 8) : qm_cell f v = qm_cell g v := by
  unfold qm_cell
  rw [qm_nz_congr h, qm_top_congr h]
  by_cases e : qm_nz g 8 = 2
  · rw [if_pos e, if_pos e]
  · rw [if_neg e, if_neg e]; exact h v hv
def qm_raw (g : Nat → Int64) (a b z p : Nat) : Nat → Int64 := fun v => g (32 * a + 8 * p + v) + g (32 * b + 8 * p + v) - g (32 * z + 8 * p + v)
/-- row 'to' is the mix of rows a and b less z -/
def qm_mix (g : Nat → Int64) (to a b z : Nat) : Nat → Int64 := fun i => if 32 * to ≤ i ∧ i < 32 * to + 32 then qm_cell (qm_raw g a b z ((i - 32 * to) / 8)) ((i - 32 * to) % 8) else g i
theorem qm_mix_congr {g h : Nat → Int64} {n a b z : Nat} (ha : a < n) (hb : b < n) (hz : z < n) (e : ∀ i, i < 32 * n → g i = h i) : ∀ i, i < 32 * (n + 1) → qm_mix g n a b z i = qm_mix h n a b z i := by
  intro i hi
  unfold qm_mix
  by_cases hc : 32 * n ≤ i ∧ i < 32 * n + 32
  · rw [if_pos hc, if_pos hc]
    refine qm_cell_congr (fun j hj => ?_) (Nat.mod_lt _ (by decide))
    unfold qm_raw
    have h3 : (i - 32 * n) / 8 < 4 := by omega
    rw [e (32 * a + 8 * ((i - 32 * n) / 8) + j) (by omega), e (32 * b + 8 * ((i - 32 * n) / 8) + j) (by omega), e (32 * z + 8 * ((i - 32 * n) / 8) + j) (by omega)]
  · rw [if_neg hc, if_neg hc, e i (by omega)]
theorem q_at (c p k : Nat) : ((nI c * (4 : Int32)) + nI p) * (8 : Int32) + nI k = nI (32 * c + 8 * p + k) := by
  rw [q_l4, pk_mul, nI_add, q_l8, pk_mul, nI_add]
  congr 1
  omega
theorem q_at0 (c p : Nat) : ((nI c * (4 : Int32)) + nI p) * (8 : Int32) = nI (32 * c + 8 * p) := by
  rw [q_l4, pk_mul, nI_add, q_l8, pk_mul]
  congr 1
  omega
section CC
variable {x : QX} {n : Nat}
theorem r_plain_loop {post : QX → Prop} {c p v : Nat} (hc : c < 60) (hp : p < 4) (hv : v < 8) {g : Nat → Int64} (h : post (sB x 0 (qm_part g (qm_one v) (32 * c + 8 * p) 8))) :
    ∀ (f k : Nat), k ≤ 8 → 8 - k < f → qw_C_makePlain_H26 post f (nI c) (nI p) (nI v) (nI k) (sB x 0 (qm_part g (qm_one v) (32 * c + 8 * p) k)) := by
  intro f
  induction f with
  | zero => intro k _ h1; omega
  | succ f ih =>
    intro k h1 h2
    refine ⟨fun e => ?_, fun e => ?_⟩
    · have e1 := (nI_leI (by decide) (by omega)).mp (show nI 8 ≤ nI k from e)
      rw [show k = 8 by omega]; exact h
    · have e1 : ¬ 8 ≤ k := fun q => e ((nI_leI (by decide) (by omega)).mpr q)
      have hin : vp_in (nI (32 * c + 8 * p + k)) 1920 := vp_in_nI (by omega) (by decide)
      have hrec : ∀ y : QX, y = sB (sB x 0 (qm_part g (qm_one v) (32 * c + 8 * p) k)) 0 (vp_updL (qm_part g (qm_one v) (32 * c + 8 * p) k) (32 * c + 8 * p + k) (qm_one v k)) → qw_C_makePlain_H26 post f (nI c) (nI p) (nI v) (nI k + 1) y := fun y ey => by
        rw [ey, sB_sB, qm_part_succ, nI_1]
        exact ih (k + 1) (by omega) (by omega)
      refine ⟨fun q => ?_, fun q => ?_⟩
      · rw [q_at]
        refine ⟨hin, fun y ey => hrec y ?_⟩
        rw [nI_clamp (by omega)] at ey
        have : ¬ k = v := fun z => q (by rw [z])
        rw [ey]
        unfold qm_one
        rw [if_neg this]
        rfl
      · rw [q_at]
        refine ⟨hin, fun y ey => hrec y ?_⟩
        rw [nI_clamp (by omega)] at ey
        have : k = v := (nI_eq (by omega) (by omega)).mp q
        rw [ey]
        unfold qm_one
        rw [if_pos this]
        rfl
theorem r_plain {post : QX → Prop} (hn : gI x 2 = nI n) (o2 : n ≤ 60) {c p v : Nat} (hc : c < n) (hp : p < 4) (hv : v < 8) (h : post (sB x 0 (qm_part (gB x 0) (qm_one v) (32 * c + 8 * p) 8))) : qw_C_makePlain (nI c) (nI p) (nI v) x post := by
  refine r_C_has_in hn o2 hc ⟨fun e => absurd e (by decide), fun _ => r_S_isPath_in hp ⟨fun e => absurd e (by decide), fun _ => r_S_isValue_in hv ⟨fun _ => ?_, fun e => absurd e (by decide)⟩⟩⟩
  have k := r_plain_loop (x := x) (post := post) (g := gB x 0) (by omega) hp hv h qFU 0 (by omega) (by unfold qFU; omega)
  rw [qm_part_0, sB_id] at k
  exact k
theorem r_diff_loop {post : QX → Prop} (hn : gI x 2 = nI n) (o2 : n ≤ 60) {mk p ont frm : Nat} (hm : mk < n) (hp : p < 4) (ho : ont < 60) (hf : frm < 60) (ne1 : mk ≠ ont) (ne2 : mk ≠ frm) {g R : Nat → Int64} (hg : gB x 0 = g) (hR : R = fun v => g (32 * mk + 8 * p + v) + (g (32 * ont + 8 * p + v) - g (32 * frm + 8 * p + v)))
    (h : post (sB x 0 (qm_part g (qm_cell R) (32 * mk + 8 * p) 8))) :
    ∀ (f k : Nat), k ≤ 8 → 8 - k < f → qw_C_addDifference_H9 post f (nI mk) (nI p) (nI ont) (nI frm) (nI (qm_nz R k)) (nI (qm_top R k)) (nI k) (sB x 0 (qm_part g R (32 * mk + 8 * p) k)) := by
  intro f
  induction f with
  | zero => intro k _ h1; omega
  | succ f ih =>
    intro k h1 h2
    have hz := qm_nz_le R k
    refine ⟨fun e => ?_, fun e => ?_⟩
    · have e1 := (nI_leI (by decide) (by omega)).mp (show nI 8 ≤ nI k from e)
      have e2 : k = 8 := by omega
      subst e2
      have ht : qm_top R 8 < 8 := by have := qm_top_lt R 8; omega
      refine ⟨fun q => ?_, fun q => ?_⟩
      · have q1 : ¬ qm_nz R 8 = 2 := fun z => q (by rw [z]; rfl)
        unfold qm_cell at h
        rw [if_neg q1] at h
        exact h
      · have q1 : qm_nz R 8 = 2 := (nI_eq (by omega) (by decide)).mp (show nI (qm_nz R 8) = nI 2 from q)
        unfold qm_cell at h
        rw [if_pos q1] at h
        refine r_plain (n := n) (by rw [gI_sB]; exact hn) o2 hm hp ht ?_
        rw [gB_sB, if_pos rfl, sB_sB]
        have hpp : qm_part (qm_part g R (32 * mk + 8 * p) 8) (qm_one (qm_top R 8)) (32 * mk + 8 * p) 8 = qm_part g (qm_one (qm_top R 8)) (32 * mk + 8 * p) 8 := by
          funext i
          by_cases hi : i < 32 * mk + 8 * p ∨ 32 * mk + 8 * p + 8 ≤ i
          · rw [qm_part_out hi, qm_part_out hi, qm_part_out hi]
          · obtain ⟨j, hj, rfl⟩ : ∃ j, j < 8 ∧ i = 32 * mk + 8 * p + j := ⟨i - (32 * mk + 8 * p), by omega, by omega⟩
            rw [qm_part_in hj, qm_part_in hj]
        rw [hpp]
        exact h
    · have e1 : ¬ 8 ≤ k := fun q => e ((nI_leI (by decide) (by omega)).mpr q)
      intro t et
      rw [q_at] at et
      subst et
      have hin : vp_in (nI (32 * mk + 8 * p + k)) 1920 := vp_in_nI (by omega) (by decide)
      have c1 : (nI (32 * mk + 8 * p + k)).toNatClampNeg = 32 * mk + 8 * p + k := nI_clamp (by omega)
      refine ⟨hin, ?_⟩
      show vp_in (((nI ont * (4 : Int32)) + nI p) * (8 : Int32) + nI k) 1920 ∧ _
      refine ⟨by rw [q_at]; exact vp_in_nI (by omega) (by decide), ?_⟩
      show vp_in (((nI frm * (4 : Int32)) + nI p) * (8 : Int32) + nI k) 1920 ∧ _
      refine ⟨by rw [q_at]; exact vp_in_nI (by omega) (by decide), hin, ?_⟩
      intro y ey
      rw [q_at, q_at, c1, nI_clamp (by omega), nI_clamp (by omega), gB_sB, if_pos rfl, sB_sB, qm_part_out (Or.inr (Nat.le_refl _)), qm_part_out (by omega), qm_part_out (by omega)] at ey
      have ey2 : y = sB x 0 (qm_part g R (32 * mk + 8 * p) (k + 1)) := by
        rw [ey, ← qm_part_succ, hR]
      have hv : gB y 0 (nI (32 * mk + 8 * p + k)).toNatClampNeg = R k := by
        rw [ey2, c1, gB_sB, if_pos rfl, qm_part_in (by omega)]
      rw [hv]
      have go := ih (k + 1) (by omega) (by omega)
      rw [← ey2] at go
      unfold qm_nz qm_top at go
      refine ⟨hin, ⟨fun q => ?_, fun q => ?_⟩⟩
      · intro t et
        have q1 := (lg_0 _).mp q
        rw [if_pos q1] at go
        refine ⟨hin, ⟨fun q2 => ?_, fun q2 => ?_⟩⟩
        · rw [if_pos ((lg_cmp_le _ _).mp q2)] at go
          rw [et, q_l0, nI_add]
          show qw_C_addDifference_H9 post f _ _ _ _ _ _ (nI k + 1) y
          rw [nI_1]
          exact go
        · rw [if_neg (fun z => q2 ((lg_cmp_le _ _).mpr z))] at go
          rw [et, q_l0, nI_add]
          show qw_C_addDifference_H9 post f _ _ _ _ _ _ (nI k + 1) y
          rw [nI_1]
          exact go
      · intro t et
        have q1 : ¬ R k = 0 := fun z => q ((lg_0 _).mpr z)
        rw [if_neg q1] at go
        refine ⟨hin, ⟨fun q2 => ?_, fun q2 => ?_⟩⟩
        · rw [if_pos ((lg_cmp_le _ _).mp q2)] at go
          rw [et, q_l1, nI_add]
          show qw_C_addDifference_H9 post f _ _ _ _ _ _ (nI k + 1) y
          rw [nI_1]
          exact go
        · rw [if_neg (fun z => q2 ((lg_cmp_le _ _).mpr z))] at go
          rw [et, q_l1, nI_add]
          show qw_C_addDifference_H9 post f _ _ _ _ _ _ (nI k + 1) y
          rw [nI_1]
          exact go
theorem r_diff {post : QX → Prop} (hn : gI x 2 = nI n) (o2 : n ≤ 60) {mk p ont frm : Nat} (hm : mk < n) (hp : p < 4) (ho : ont < 60) (hf : frm < 60) (ne1 : mk ≠ ont) (ne2 : mk ≠ frm)
    (h : post (sB x 0 (qm_part (gB x 0) (qm_cell (fun v => gB x 0 (32 * mk + 8 * p + v) + (gB x 0 (32 * ont + 8 * p + v) - gB x 0 (32 * frm + 8 * p + v)))) (32 * mk + 8 * p) 8))) : qw_C_addDifference (nI mk) (nI p) (nI ont) (nI frm) x post := by
  have k := r_diff_loop hn o2 hm hp ho hf ne1 ne2 rfl rfl h qFU 0 (by omega) (by unfold qFU; omega)
  rw [qm_part_0, sB_id] at k
  exact k
/-- a commit is added: change, parent; counts as they then are -/
def q_addC (x : QX) (n : Nat) (ch : Int32) (pa : Int32) (g : Nat → Int64) : QX := sB (sA (sA (sI x 2 (nI (n + 1))) 2 (upd (gA x 2) n ch)) 1 (upd (gA x 1) n pa)) 0 g
theorem r_copy {post : Int32 → QX → Prop} {ch pa : Int32} (hn : gI x 2 = nI n) (o2 : n < 60) {c : Nat} (hc : c < n) (h : post (nI n) (q_addC x n ch pa (va_cpy (gB x 0) (gB x 0) (32 * c) (32 * n) 32))) : qw_C_addCopy ch pa (nI c) x post := by
  refine r_C_isFull hn (by omega) (qz_d (fun e => ?_) (fun _ => ?_))
  · simp at e; omega
  refine r_C_has_in hn (by omega) hc ⟨fun _ => ?_, fun e => absurd e (by decide)⟩
  intro t et
  rw [hn] at et
  subst et
  intro x1 e1
  have hin : vp_in (nI n) 60 := vp_in_nI o2 (by decide)
  refine ⟨hin, fun x2 e2 => ⟨hin, fun x3 e3 => ?_⟩⟩
  show (¬ ((nI c * (4 : Int32)) + (0 : Int32)) * (8 : Int32) < 0) ∧ (¬ ((nI n * (4 : Int32)) + (0 : Int32)) * (8 : Int32) < 0) ∧ _
  rw [q_l0, q_at0, q_at0]
  refine ⟨nI_pos (by omega), nI_pos (by omega), by decide, ?_, ?_, ?_⟩
  · rw [nI_clamp (by omega)]; show 32 * c + 8 * 0 + 32 ≤ 1920; omega
  · rw [nI_clamp (by omega)]; show 32 * n + 8 * 0 + 32 ≤ 1920; omega
  · intro x4 e4
    rw [nI_clamp (by omega), nI_clamp (by omega)] at e4
    have : x4 = q_addC x n ch pa (va_cpy (gB x 0) (gB x 0) (32 * c) (32 * n) 32) := by
      rw [e4, e3, e2, e1, nI_clamp (by omega), hn, q_l1, nI_add]
      rfl
    rw [this]
    exact h
theorem q_addC_g (x : QX) (n : Nat) (ch pa : Int32) (g g' : Nat → Int64) : sB (q_addC x n ch pa g) 0 g' = q_addC x n ch pa g' := sB_sB _ _ _ _
theorem q_addC_n (x : QX) (n : Nat) (ch pa : Int32) (g : Nat → Int64) : gI (q_addC x n ch pa g) 2 = nI (n + 1) := rfl
theorem q_addC_B (x : QX) (n : Nat) (ch pa : Int32) (g : Nat → Int64) : gB (q_addC x n ch pa g) 0 = g := rfl
def qm_G (g : Nat → Int64) (n c o z p : Nat) : Nat → Int64 := fun i => if 32 * n ≤ i ∧ i < 32 * n + 8 * p then qm_cell (qm_raw g c o z ((i - 32 * n) / 8)) ((i - 32 * n) % 8) else va_cpy g g (32 * c) (32 * n) 32 i
theorem qm_G_0 (g : Nat → Int64) (n c o z : Nat) : qm_G g n c o z 0 = va_cpy g g (32 * c) (32 * n) 32 := by
  funext i
  unfold qm_G
  rw [if_neg (by omega)]
theorem qm_G_4 (g : Nat → Int64) (n c o z : Nat) : qm_G g n c o z 4 = qm_mix g n c o z := by
  funext i
  unfold qm_G qm_mix
  by_cases h : 32 * n ≤ i ∧ i < 32 * n + 32
  · rw [if_pos (by omega), if_pos h]
  · rw [if_neg (by omega), if_neg h, pk_cpy_out (by omega)]
theorem q_asub (a b c : Int64) : a + (b - c) = a + b - c := by
  rw [Int64.sub_eq_add_neg, Int64.sub_eq_add_neg, Int64.add_assoc]
theorem qm_G_succ (g : Nat → Int64) {n c o z p : Nat} (hc : c < n) (ho : o < n) (hz : z < n) (hp : p < 4) : qm_part (qm_G g n c o z p) (qm_cell (fun v => qm_G g n c o z p (32 * n + 8 * p + v) + (qm_G g n c o z p (32 * o + 8 * p + v) - qm_G g n c o z p (32 * z + 8 * p + v)))) (32 * n + 8 * p) 8 = qm_G g n c o z (p + 1) := by
  have hr : ∀ v, v < 8 → qm_G g n c o z p (32 * n + 8 * p + v) + (qm_G g n c o z p (32 * o + 8 * p + v) - qm_G g n c o z p (32 * z + 8 * p + v)) = qm_raw g c o z p v := by
    intro v hv
    unfold qm_G qm_raw
    rw [if_neg (by omega), if_neg (by omega), if_neg (by omega), pk_cpy_in (by omega) (by omega), pk_cpy_out (by omega), pk_cpy_out (by omega), q_asub]
    rw [show 32 * c + (32 * n + 8 * p + v - 32 * n) = 32 * c + 8 * p + v by omega]
  funext i
  by_cases hi : i < 32 * n + 8 * p ∨ 32 * n + 8 * p + 8 ≤ i
  · rw [qm_part_out hi]
    unfold qm_G
    by_cases h : 32 * n ≤ i ∧ i < 32 * n + 8 * p
    · rw [if_pos h, if_pos (by omega)]
    · rw [if_neg h, if_neg (by omega)]
  · obtain ⟨j, hj, rfl⟩ : ∃ j, j < 8 ∧ i = 32 * n + 8 * p + j := ⟨i - (32 * n + 8 * p), by omega, by omega⟩
    rw [qm_part_in hj, qm_cell_congr hr hj]
    unfold qm_G
    rw [if_pos (by omega)]
    rw [show (32 * n + 8 * p + j - 32 * n) / 8 = p by omega, show (32 * n + 8 * p + j - 32 * n) % 8 = j by omega]
theorem r_moved_loop {post : Int32 → QX → Prop} {ch pa : Int32} (o2 : n < 60) {c o z : Nat} (hc : c < n) (ho : o < n) (hz : z < n) {g : Nat → Int64} (h : post (nI n) (q_addC x n ch pa (qm_mix g n c o z))) :
    ∀ (f p : Nat), p ≤ 4 → 4 - p < f → qw_C_addMoved_H47 post f (nI c) (nI o) (nI z) (nI n) (nI p) (q_addC x n ch pa (qm_G g n c o z p)) := by
  intro f
  induction f with
  | zero => intro p _ h1; omega
  | succ f ih =>
    intro p h1 h2
    refine ⟨fun e => ?_, fun e => ?_⟩
    · have e1 := (nI_leI (by decide) (by omega)).mp (show nI 4 ≤ nI p from e)
      have e2 : p = 4 := by omega
      subst e2
      rw [qm_G_4]; exact h
    · have e1 : ¬ 4 ≤ p := fun q => e ((nI_leI (by decide) (by omega)).mpr q)
      refine r_diff (n := n + 1) (q_addC_n _ _ _ _ _) (by omega) (by omega) (by omega) (by omega) (by omega) (by omega) (by omega) ?_
      rw [q_addC_B, q_addC_g, qm_G_succ g hc ho hz (by omega)]
      show qw_C_addMoved_H47 post f _ _ _ _ (nI p + 1) _
      rw [nI_1]
      exact ih (p + 1) (by omega) (by omega)
theorem r_moved {post : Int32 → QX → Prop} (hn : gI x 2 = nI n) (o2 : n < 60) {c o z : Nat} (hc : c < n) (ho : o < n) (hz : z < n) (hpar : gA x 1 c = nI z) (h : post (nI n) (q_addC x n (gA x 2 c) (nI o) (qm_mix (gB x 0) n c o z))) : qw_C_addMoved (nI c) (nI o) x post := by
  refine r_C_parentOf hn (by omega) hc ?_
  rw [hpar]
  refine r_C_isFull hn (by omega) (qz_d (fun e => ?_) (fun _ => ?_))
  · simp at e; omega
  refine r_C_has_in hn (by omega) ho ⟨fun e => absurd e (by decide), fun _ => r_C_has_in hn (by omega) hz ⟨fun _ => ?_, fun e => absurd e (by decide)⟩⟩
  refine r_C_changeOf hn (by omega) hc ?_
  refine r_copy hn o2 hc ?_
  rw [← qm_G_0 (gB x 0) n c o z]
  exact r_moved_loop o2 hc ho hz h qFU 0 (by omega) (by unfold qFU; omega)
end CC
