
/-! all public calls, and the start -/
theorem sims_RR : Sims RR := fun k Vc Vm hk h =>
  ⟨fun a1 a2 => sim_draft h a1 a2, fun a1 a2 a3 => sim_get h a1 a2 a3, fun a1 a2 a3 a4 => sim_query h a1 a2 a3 a4, fun a1 a2 a3 => sim_changes h a1 a2 a3, fun a1 a2 => sim_make h a1 a2, fun a1 a2 a3 a4 a5 => sim_change h a1 a2 a3 a4 a5, fun a1 a2 a3 => sim_destroy h a1 a2 a3, fun a1 => sim_crash h a1, sim_run hk h, sim_drop h, fun a1 => sim_status h a1, fun a1 a2 => sim_many h a1 a2, fun a1 a2 a3 => sim_given h a1 a2 a3, fun a1 => sim_state h a1, fun a1 => sim_told h a1, fun a1 a2 => sim_box h a1 a2, fun a1 a2 => sim_mail h a1 a2, fun a1 a2 => sim_thread h a1 a2, fun a1 a2 => sim_entry h a1 a2, fun a1 a2 a3 => sim_filter h a1 a2 a3, fun a1 a2 => sim_fits h a1 a2, RR_mono h⟩
theorem c0_k {c j : Nat} (h : c ≠ 1 ∧ (c = 4 → j ≠ 3) ∧ (c = 28 → j ≠ 3) ∧ (c = 52 → j ≠ 3)) : V0C c j = 0 := by
  obtain ⟨h1, h4, h28, h52⟩ := h
  unfold V0C
  rw [wr_ne h1, wr_ne h1, wr_ne h1]
  by_cases a : c = 52
  · subst a; rw [wr_in (h52 rfl), wr_ne (by omega), wr_ne (by omega)]
  · rw [wr_ne a]
    by_cases b : c = 28
    · subst b; rw [wr_in (h28 rfl), wr_ne (by omega)]
    · rw [wr_ne b]
      by_cases d : c = 4
      · subst d; rw [wr_in (h4 rfl)]
      · rw [wr_ne d]
theorem m0_k {c j : Nat} (h : c ≠ 4 ∧ c ≠ 15 ∧ (c = 0 → j ≠ 8)) : V0M c j = 0 := by
  obtain ⟨h1, h2, h3⟩ := h
  unfold V0M
  simp (disch := omega) only [wr_ne]
  by_cases a : c = 0
  · subst a; rw [wr_in (h3 rfl)]; simp (disch := omega) only [wr_ne]
  · simp (disch := omega) only [wr_ne]
theorem RR0 : RR 0 V0C V0M := by
  refine ⟨fun j hj => ?_, ⟨0, by omega, c0_k (by omega), m0_k (by omega), fun q hq => absurd hq (by omega)⟩, ⟨0, by omega, c0_k (by omega), m0_k (by omega), fun q hq => absurd hq (by omega)⟩, Or.inl ⟨c0_k (by omega), ?_⟩, ⟨0, by omega, c0_k (by omega), m0_k (by omega), fun i hi => absurd hi (by omega)⟩, ⟨0, 0, by omega, by omega, c0_k (by omega), m0_k (by omega), c0_k (by omega), fun i hi => absurd hi (by omega), fun k hk => ?_⟩, ⟨0, 0, 0, ?_, ?_⟩, ?_, ?_⟩
  · have : j = 0 ∨ j = 1 ∨ j = 2 ∨ j = 3 ∨ j = 4 ∨ j = 5 ∨ j = 6 ∨ j = 7 ∨ j = 8 ∨ j = 9 := by omega
    rcases this with rfl | rfl | rfl | rfl | rfl | rfl | rfl | rfl | rfl | rfl <;> rfl
  · rfl
  · have : k = 0 ∨ k = 1 ∨ k = 2 := by omega
    rcases this with rfl | rfl | rfl <;> rfl
  · refine ⟨⟨by omega, by omega, by omega⟩, ⟨m0_k (by omega), m0_k (by omega), m0_k (by omega)⟩, ⟨c0_k (by omega), c0_k (by omega), c0_k (by omega)⟩, ⟨rfl, rfl, rfl⟩, ⟨?_, ?_, ?_⟩, fun b hb => absurd hb (by omega), fun b _ _ => c0_k (by omega), fun m hm => absurd hm (by omega), fun m _ _ => c0_k (by omega), fun t ht => absurd ht (by omega), fun t _ _ => ⟨c0_k (by omega), c0_k (by omega)⟩⟩
    · rw [c0_k (by omega), m0_k (by omega)]
    · rw [c0_k (by omega), m0_k (by omega)]
    · rw [c0_k (by omega), m0_k (by omega)]
  · exact ⟨fun b hb => absurd hb (by omega), fun b hb => absurd hb (by omega), ⟨fun _ => 0, fun b hb => absurd hb (by omega)⟩, fun b c hb => absurd hb (by omega), fun m hm => absurd hm (by omega), fun m hm => absurd hm (by omega), fun m hm => absurd hm (by omega)⟩
  · exact ⟨⟨c0_k (by omega), c0_k (by omega), c0_k (by omega)⟩, fun j hj => ⟨c0_k (by omega), c0_k (by omega), c0_k (by omega)⟩⟩
  · refine ⟨0, fun _ => 0, fun _ => 0, fun _ => 0, fun _ => 0, fun _ => 0, fun _ => 0, by omega, m0_k (by omega), fun κ hκ => ⟨m0_k (by omega), Nat.zero_le _, ?_, Nat.zero_le _⟩, fun i hi => absurd hi (by omega), fun i j _ hj => absurd hj (by omega), fun i j l _ _ hl => absurd hl (by omega), fun κ t hκ h1 h2 => absurd (Nat.lt_of_lt_of_le h1 h2) (Nat.lt_irrefl _)⟩
    have : κ = 0 ∨ κ = 1 ∨ κ = 2 := by omega
    rcases this with rfl | rfl | rfl <;> rfl
