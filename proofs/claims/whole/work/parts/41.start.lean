/-! Fresh objects agree. -/
theorem q_start : INV q_x0 q_y0 := by
  have hb : ∀ c, c < 60 → q_v (gB q_x0 1 0) c = decide (c = 0) := fun c hc => by
    rw [q_v_lt hc]
    exact qb_bit (c := 0) (by decide) (by omega)
  refine ⟨1, 1, fun _ => 0, ⟨by decide, by decide, rfl, rfl, rfl, rfl, rfl, fun c h1 h2 => by omega, fun c hc => ?_, fun i hi => rfl⟩, ⟨by decide, by decide, rfl, rfl, fun o ho => ?_, fun o h1 h2 => rfl⟩, ⟨⟨0, by decide, rfl, rfl⟩, rfl, Or.inl ⟨rfl, rfl, rfl⟩⟩⟩
  · rfl
  · have h0 : o = 0 := by omega
    subst h0
    have v0 : q_v (gB q_x0 1 0) 0 = true := by rw [hb 0 (by decide)]; rfl
    refine ⟨rfl, rfl, rfl, fun m hm => rfl, fun c hc => ?_, rfl, ⟨v0, fun c hc => ?_, fun c h1 h2 => by omega, ⟨0, by decide, rfl, v0⟩, fun m hm => Or.inl ?_⟩, fun _ => rfl, fun h => by omega⟩
    · rw [hb c hc]
      show upd (fun _ => 0) 0 (vp_nar .boolean (1 : Int32)) (60 * 0 + c) = _
      rw [upd_at]
      by_cases z : c = 0
      · subst z; rfl
      · rw [if_neg (by omega), decide_eq_false z]; rfl
    · have h60 : c < 60 := by
        unfold q_v at hc
        simp only [Bool.and_eq_true, decide_eq_true_eq] at hc
        exact hc.1
      rw [hb c h60] at hc
      have : c = 0 := by simpa using hc
      omega
    · have : m = 0 ∨ m = 1 ∨ m = 2 := by omega
      rcases this with rfl | rfl | rfl <;> rfl
