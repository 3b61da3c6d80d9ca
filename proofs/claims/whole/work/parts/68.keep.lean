
/-! what a call keeps, and brings back -/
theorem keep_bb {o : Nat} {V0 : Mm} : ∀ d f c (V : Mm), c + d = 10 → d < f → (∀ k, (k < o + 13 ∨ o + 22 < k) → V k = V0 k) → (∀ x i, x < c → i < 50 → V (o + 13 + x) i = V0 (o + 2 + x) i) →
    ∃ W : Mm, eX2_keep_b2 f o (nI c) V = some W ∧ (∀ k, (k < o + 13 ∨ o + 22 < k) → k ≠ o → W k = V0 k) ∧ (∀ j, j ≠ 5 → W o j = V0 o j) ∧ W o 5 = V0 o 4 ∧ (∀ x i, x < 10 → i < 50 → W (o + 13 + x) i = V0 (o + 2 + x) i) := by
  intro d
  induction d with
  | zero =>
    intro f c V hc hf h1 h2
    obtain ⟨f, rfl⟩ : ∃ f', f = f' + 1 := ⟨f - 1, by omega⟩
    have : c = 10 := by omega
    subst this
    refine ⟨wr V o 5 (V o 4), ?_, fun k hk h0 => by rw [wr_ne h0, h1 k hk], fun j hj => by rw [wr_in hj, h1 o (by omega)], by rw [wr_at, h1 o (by omega)], fun x i hx hi => by rw [wr_ne (by omega)]; exact h2 x i hx hi⟩
    rw [eX2_keep_b2]
    simp (disch := omega) only [q0a, q0b, q0c, q0d, q0e, q0f, p0_l, p0_r, p0_s, q1a, q1b, q1c, q1d, q1e, q1f, p1_l, p1_r, p1_s, q2a, q2b, q2c, q2d, q2e, q2f, p2_l, p2_r, p2_s, q3a, q3b, q3c, q3d, q3e, q3f, p3_l, p3_r, p3_s, q4a, q4b, q4c, q4d, q4e, q4f, p4_l, p4_r, p4_s, p4_m, q5a, q5b, q5c, q5d, q5e, q5f, p5_l, p5_r, p5_s, p5_m, q6a, q6b, q6c, q6d, q6e, q6f, p6_l, p6_r, p6_s, q7a, q7b, q7c, q7d, q7e, q7f, p7_l, p7_r, p7_s, q8a, q8b, q8c, q8d, q8e, q8f, p8_l, p8_r, p8_s, q9a, q9b, q9c, q9d, q9e, q9f, p9_l, p9_r, p9_s, q10a, q10b, q10c, q10d, q10e, q10f, p10_l, p10_r, p10_s, p10_m, q11a, q11b, q11c, q11d, q11e, q11f, p11_l, p11_r, p11_s, q12a, q12b, q12c, q12d, q12e, q12f, p12_l, p12_r, p12_s, q15a, q15b, q15c, q15d, q15e, q15f, p15_l, p15_r, p15_s, q19a, q19b, q19c, q19d, q19e, q19f, p19_l, p19_r, p19_s, q20a, q20b, q20c, q20d, q20e, q20f, p20_l, p20_r, p20_s, q31a, q31b, q31c, q31d, q31e, q31f, p31_l, p31_r, p31_s, q40a, q40b, q40c, q40d, q40e, q40f, p40_l, p40_r, p40_s, q48a, q48b, q48c, q48d, q48e, q48f, p48_l, p48_r, p48_s, q50a, q50b, q50c, q50d, q50e, q50f, p50_l, p50_r, p50_s, p50_m, q52a, q52b, q52c, q52d, q52e, q52f, p52_l, p52_r, p52_s, q60a, q60b, q60c, q60d, q60e, q60f, p60_l, p60_r, p60_s, q63a, q63b, q63c, q63d, q63e, q63f, p63_l, p63_r, p63_s, q80a, q80b, q80c, q80d, q80e, q80f, p80_l, p80_r, p80_s, q99a, q99b, q99c, q99d, q99e, q99f, p99_l, p99_r, p99_s, q100a, q100b, q100c, q100d, q100e, q100f, p100_l, p100_r, p100_s, q120a, q120b, q120c, q120d, q120e, q120f, p120_l, p120_r, p120_s, q240a, q240b, q240c, q240d, q240e, q240f, p240_l, p240_r, p240_s, q243a, q243b, q243c, q243d, q243e, q243f, p243_l, p243_r, p243_s, q244a, q244b, q244c, q244d, q244e, q244f, p244_l, p244_r, p244_s, q580a, q580b, q580c, q580d, q580e, q580f, p580_l, p580_r, p580_s, q581a, q581b, q581c, q581d, q581e, q581f, p581_l, p581_r, p581_s, q582a, q582b, q582c, q582d, q582e, q582f, p582_l, p582_r, p582_s, q583a, q583b, q583c, q583d, q583e, q583f, p583_l, p583_r, p583_s, q584a, q584b, q584c, q584d, q584e, q584f, p584_l, p584_r, p584_s, q585a, q585b, q585c, q585d, q585e, q585f, p585_l, p585_r, p585_s, q586a, q586b, q586c, q586d, q586e, q586f, p586_l, p586_r, p586_s, q999a, q999b, q999c, q999d, q999e, q999f, p999_l, p999_r, p999_s, q1000a, q1000b, q1000c, q1000d, q1000e, q1000f, p1000_l, p1000_r, p1000_s, q2400a, q2400b, q2400c, q2400d, q2400e, q2400f, p2400_l, p2400_r, p2400_s, q9999a, q9999b, q9999c, q9999d, q9999e, q9999f, p9999_l, p9999_r, p9999_s, I00, I01, I10, I11, n_le, n_lt, n_eq, n_cl, n_add, n_ne9, n_ne1, if_true, if_false, Option.bind_some, if_pos, if_neg]
  | succ d ih =>
    intro f c V hc hf h1 h2
    obtain ⟨f, rfl⟩ : ∃ f', f = f' + 1 := ⟨f - 1, by omega⟩
    obtain ⟨W, e1, e2⟩ := ih f (c + 1) (wcp V (o + 2 + c) (o + 13 + c) 0 0 50) (by omega) (by omega) (fun k hk => by rw [wcp_ne (by omega), h1 k hk]) (fun x i hx hi => by
      by_cases e : x = c
      · subst e; rw [wcp_at hi, h1 _ (by omega)]
      · rw [wcp_ne (by omega)]; exact h2 x i (by omega) hi)
    refine ⟨W, ?_, e2⟩
    rw [← e1, eX2_keep_b2]
    simp (disch := omega) only [q0a, q0b, q0c, q0d, q0e, q0f, p0_l, p0_r, p0_s, q1a, q1b, q1c, q1d, q1e, q1f, p1_l, p1_r, p1_s, q2a, q2b, q2c, q2d, q2e, q2f, p2_l, p2_r, p2_s, q3a, q3b, q3c, q3d, q3e, q3f, p3_l, p3_r, p3_s, q4a, q4b, q4c, q4d, q4e, q4f, p4_l, p4_r, p4_s, p4_m, q5a, q5b, q5c, q5d, q5e, q5f, p5_l, p5_r, p5_s, p5_m, q6a, q6b, q6c, q6d, q6e, q6f, p6_l, p6_r, p6_s, q7a, q7b, q7c, q7d, q7e, q7f, p7_l, p7_r, p7_s, q8a, q8b, q8c, q8d, q8e, q8f, p8_l, p8_r, p8_s, q9a, q9b, q9c, q9d, q9e, q9f, p9_l, p9_r, p9_s, q10a, q10b, q10c, q10d, q10e, q10f, p10_l, p10_r, p10_s, p10_m, q11a, q11b, q11c, q11d, q11e, q11f, p11_l, p11_r, p11_s, q12a, q12b, q12c, q12d, q12e, q12f, p12_l, p12_r, p12_s, q15a, q15b, q15c, q15d, q15e, q15f, p15_l, p15_r, p15_s, q19a, q19b, q19c, q19d, q19e, q19f, p19_l, p19_r, p19_s, q20a, q20b, q20c, q20d, q20e, q20f, p20_l, p20_r, p20_s, q31a, q31b, q31c, q31d, q31e, q31f, p31_l, p31_r, p31_s, q40a, q40b, q40c, q40d, q40e, q40f, p40_l, p40_r, p40_s, q48a, q48b, q48c, q48d, q48e, q48f, p48_l, p48_r, p48_s, q50a, q50b, q50c, q50d, q50e, q50f, p50_l, p50_r, p50_s, p50_m, q52a, q52b, q52c, q52d, q52e, q52f, p52_l, p52_r, p52_s, q60a, q60b, q60c, q60d, q60e, q60f, p60_l, p60_r, p60_s, q63a, q63b, q63c, q63d, q63e, q63f, p63_l, p63_r, p63_s, q80a, q80b, q80c, q80d, q80e, q80f, p80_l, p80_r, p80_s, q99a, q99b, q99c, q99d, q99e, q99f, p99_l, p99_r, p99_s, q100a, q100b, q100c, q100d, q100e, q100f, p100_l, p100_r, p100_s, q120a, q120b, q120c, q120d, q120e, q120f, p120_l, p120_r, p120_s, q240a, q240b, q240c, q240d, q240e, q240f, p240_l, p240_r, p240_s, q243a, q243b, q243c, q243d, q243e, q243f, p243_l, p243_r, p243_s, q244a, q244b, q244c, q244d, q244e, q244f, p244_l, p244_r, p244_s, q580a, q580b, q580c, q580d, q580e, q580f, p580_l, p580_r, p580_s, q581a, q581b, q581c, q581d, q581e, q581f, p581_l, p581_r, p581_s, q582a, q582b, q582c, q582d, q582e, q582f, p582_l, p582_r, p582_s, q583a, q583b, q583c, q583d, q583e, q583f, p583_l, p583_r, p583_s, q584a, q584b, q584c, q584d, q584e, q584f, p584_l, p584_r, p584_s, q585a, q585b, q585c, q585d, q585e, q585f, p585_l, p585_r, p585_s, q586a, q586b, q586c, q586d, q586e, q586f, p586_l, p586_r, p586_s, q999a, q999b, q999c, q999d, q999e, q999f, p999_l, p999_r, p999_s, q1000a, q1000b, q1000c, q1000d, q1000e, q1000f, p1000_l, p1000_r, p1000_s, q2400a, q2400b, q2400c, q2400d, q2400e, q2400f, p2400_l, p2400_r, p2400_s, q9999a, q9999b, q9999c, q9999d, q9999e, q9999f, p9999_l, p9999_r, p9999_s, I00, I01, I10, I11, n_le, n_lt, n_eq, n_cl, n_add, n_ne9, n_ne1, if_true, if_false, Option.bind_some, if_pos, if_neg]
theorem keep_K {o : Nat} {V0 : Mm} : ∃ W : Mm, eX2_keep o V0 = some W ∧ (∀ k, (k < o + 13 ∨ o + 22 < k) → k ≠ o → W k = V0 k) ∧ (∀ j, j ≠ 5 → W o j = V0 o j) ∧ W o 5 = V0 o 4 ∧ (∀ x i, x < 10 → i < 50 → W (o + 13 + x) i = V0 (o + 2 + x) i) :=
  keep_bb 10 fu 0 V0 (by omega) (by unfold fu; omega) (fun _ _ => rfl) (fun x i hx _ => absurd hx (by omega))
theorem forget_bb {o : Nat} {V0 : Mm} : ∀ d f c (V : Mm), c + d = 50 → d < f → (∀ k, k ≠ o + 23 → V k = V0 k) → (∀ i, i < c → V (o + 23) i = 0) →
    ∃ W : Mm, eX2_forgetTouched_b2 f o (nI c) V = some W ∧ (∀ k, k ≠ o + 23 → k ≠ o → W k = V0 k) ∧ (∀ j, j ≠ 7 → W o j = V0 o j) ∧ W o 7 = 0 ∧ (∀ i, i < 50 → W (o + 23) i = 0) := by
  intro d
  induction d with
  | zero =>
    intro f c V hc hf h1 h2
    obtain ⟨f, rfl⟩ : ∃ f', f = f' + 1 := ⟨f - 1, by omega⟩
    have : c = 50 := by omega
    subst this
    refine ⟨wr V o 7 0, ?_, fun k hk h0 => by rw [wr_ne h0, h1 k hk], fun j hj => by rw [wr_in hj, h1 o (by omega)], by rw [wr_at], fun i hi => by rw [wr_ne (by omega)]; exact h2 i hi⟩
    rw [eX2_forgetTouched_b2]
    simp (disch := omega) only [q0a, q0b, q0c, q0d, q0e, q0f, p0_l, p0_r, p0_s, q1a, q1b, q1c, q1d, q1e, q1f, p1_l, p1_r, p1_s, q2a, q2b, q2c, q2d, q2e, q2f, p2_l, p2_r, p2_s, q3a, q3b, q3c, q3d, q3e, q3f, p3_l, p3_r, p3_s, q4a, q4b, q4c, q4d, q4e, q4f, p4_l, p4_r, p4_s, p4_m, q5a, q5b, q5c, q5d, q5e, q5f, p5_l, p5_r, p5_s, p5_m, q6a, q6b, q6c, q6d, q6e, q6f, p6_l, p6_r, p6_s, q7a, q7b, q7c, q7d, q7e, q7f, p7_l, p7_r, p7_s, q8a, q8b, q8c, q8d, q8e, q8f, p8_l, p8_r, p8_s, q9a, q9b, q9c, q9d, q9e, q9f, p9_l, p9_r, p9_s, q10a, q10b, q10c, q10d, q10e, q10f, p10_l, p10_r, p10_s, p10_m, q11a, q11b, q11c, q11d, q11e, q11f, p11_l, p11_r, p11_s, q12a, q12b, q12c, q12d, q12e, q12f, p12_l, p12_r, p12_s, q15a, q15b, q15c, q15d, q15e, q15f, p15_l, p15_r, p15_s, q19a, q19b, q19c, q19d, q19e, q19f, p19_l, p19_r, p19_s, q20a, q20b, q20c, q20d, q20e, q20f, p20_l, p20_r, p20_s, q31a, q31b, q31c, q31d, q31e, q31f, p31_l, p31_r, p31_s, q40a, q40b, q40c, q40d, q40e, q40f, p40_l, p40_r, p40_s, q48a, q48b, q48c, q48d, q48e, q48f, p48_l, p48_r, p48_s, q50a, q50b, q50c, q50d, q50e, q50f, p50_l, p50_r, p50_s, p50_m, q52a, q52b, q52c, q52d, q52e, q52f, p52_l, p52_r, p52_s, q60a, q60b, q60c, q60d, q60e, q60f, p60_l, p60_r, p60_s, q63a, q63b, q63c, q63d, q63e, q63f, p63_l, p63_r, p63_s, q80a, q80b, q80c, q80d, q80e, q80f, p80_l, p80_r, p80_s, q99a, q99b, q99c, q99d, q99e, q99f, p99_l, p99_r, p99_s, q100a, q100b, q100c, q100d, q100e, q100f, p100_l, p100_r, p100_s, q120a, q120b, q120c, q120d, q120e, q120f, p120_l, p120_r, p120_s, q240a, q240b, q240c, q240d, q240e, q240f, p240_l, p240_r, p240_s, q243a, q243b, q243c, q243d, q243e, q243f, p243_l, p243_r, p243_s, q244a, q244b, q244c, q244d, q244e, q244f, p244_l, p244_r, p244_s, q580a, q580b, q580c, q580d, q580e, q580f, p580_l, p580_r, p580_s, q581a, q581b, q581c, q581d, q581e, q581f, p581_l, p581_r, p581_s, q582a, q582b, q582c, q582d, q582e, q582f, p582_l, p582_r, p582_s, q583a, q583b, q583c, q583d, q583e, q583f, p583_l, p583_r, p583_s, q584a, q584b, q584c, q584d, q584e, q584f, p584_l, p584_r, p584_s, q585a, q585b, q585c, q585d, q585e, q585f, p585_l, p585_r, p585_s, q586a, q586b, q586c, q586d, q586e, q586f, p586_l, p586_r, p586_s, q999a, q999b, q999c, q999d, q999e, q999f, p999_l, p999_r, p999_s, q1000a, q1000b, q1000c, q1000d, q1000e, q1000f, p1000_l, p1000_r, p1000_s, q2400a, q2400b, q2400c, q2400d, q2400e, q2400f, p2400_l, p2400_r, p2400_s, q9999a, q9999b, q9999c, q9999d, q9999e, q9999f, p9999_l, p9999_r, p9999_s, I00, I01, I10, I11, n_le, n_lt, n_eq, n_cl, n_add, n_ne9, n_ne1, if_true, if_false, Option.bind_some, if_pos, if_neg]
  | succ d ih =>
    intro f c V hc hf h1 h2
    obtain ⟨f, rfl⟩ : ∃ f', f = f' + 1 := ⟨f - 1, by omega⟩
    obtain ⟨W, e1, e2⟩ := ih f (c + 1) (wr V (o + 23) c 0) (by omega) (by omega) (fun k hk => by rw [wr_ne hk, h1 k hk]) (fun i hi => by
      by_cases e : i = c
      · subst e; rw [wr_at]
      · rw [wr_in e]; exact h2 i (by omega))
    refine ⟨W, ?_, e2⟩
    rw [← e1, eX2_forgetTouched_b2]
    simp (disch := omega) only [q0a, q0b, q0c, q0d, q0e, q0f, p0_l, p0_r, p0_s, q1a, q1b, q1c, q1d, q1e, q1f, p1_l, p1_r, p1_s, q2a, q2b, q2c, q2d, q2e, q2f, p2_l, p2_r, p2_s, q3a, q3b, q3c, q3d, q3e, q3f, p3_l, p3_r, p3_s, q4a, q4b, q4c, q4d, q4e, q4f, p4_l, p4_r, p4_s, p4_m, q5a, q5b, q5c, q5d, q5e, q5f, p5_l, p5_r, p5_s, p5_m, q6a, q6b, q6c, q6d, q6e, q6f, p6_l, p6_r, p6_s, q7a, q7b, q7c, q7d, q7e, q7f, p7_l, p7_r, p7_s, q8a, q8b, q8c, q8d, q8e, q8f, p8_l, p8_r, p8_s, q9a, q9b, q9c, q9d, q9e, q9f, p9_l, p9_r, p9_s, q10a, q10b, q10c, q10d, q10e, q10f, p10_l, p10_r, p10_s, p10_m, q11a, q11b, q11c, q11d, q11e, q11f, p11_l, p11_r, p11_s, q12a, q12b, q12c, q12d, q12e, q12f, p12_l, p12_r, p12_s, q15a, q15b, q15c, q15d, q15e, q15f, p15_l, p15_r, p15_s, q19a, q19b, q19c, q19d, q19e, q19f, p19_l, p19_r, p19_s, q20a, q20b, q20c, q20d, q20e, q20f, p20_l, p20_r, p20_s, q31a, q31b, q31c, q31d, q31e, q31f, p31_l, p31_r, p31_s, q40a, q40b, q40c, q40d, q40e, q40f, p40_l, p40_r, p40_s, q48a, q48b, q48c, q48d, q48e, q48f, p48_l, p48_r, p48_s, q50a, q50b, q50c, q50d, q50e, q50f, p50_l, p50_r, p50_s, p50_m, q52a, q52b, q52c, q52d, q52e, q52f, p52_l, p52_r, p52_s, q60a, q60b, q60c, q60d, q60e, q60f, p60_l, p60_r, p60_s, q63a, q63b, q63c, q63d, q63e, q63f, p63_l, p63_r, p63_s, q80a, q80b, q80c, q80d, q80e, q80f, p80_l, p80_r, p80_s, q99a, q99b, q99c, q99d, q99e, q99f, p99_l, p99_r, p99_s, q100a, q100b, q100c, q100d, q100e, q100f, p100_l, p100_r, p100_s, q120a, q120b, q120c, q120d, q120e, q120f, p120_l, p120_r, p120_s, q240a, q240b, q240c, q240d, q240e, q240f, p240_l, p240_r, p240_s, q243a, q243b, q243c, q243d, q243e, q243f, p243_l, p243_r, p243_s, q244a, q244b, q244c, q244d, q244e, q244f, p244_l, p244_r, p244_s, q580a, q580b, q580c, q580d, q580e, q580f, p580_l, p580_r, p580_s, q581a, q581b, q581c, q581d, q581e, q581f, p581_l, p581_r, p581_s, q582a, q582b, q582c, q582d, q582e, q582f, p582_l, p582_r, p582_s, q583a, q583b, q583c, q583d, q583e, q583f, p583_l, p583_r, p583_s, q584a, q584b, q584c, q584d, q584e, q584f, p584_l, p584_r, p584_s, q585a, q585b, q585c, q585d, q585e, q585f, p585_l, p585_r, p585_s, q586a, q586b, q586c, q586d, q586e, q586f, p586_l, p586_r, p586_s, q999a, q999b, q999c, q999d, q999e, q999f, p999_l, p999_r, p999_s, q1000a, q1000b, q1000c, q1000d, q1000e, q1000f, p1000_l, p1000_r, p1000_s, q2400a, q2400b, q2400c, q2400d, q2400e, q2400f, p2400_l, p2400_r, p2400_s, q9999a, q9999b, q9999c, q9999d, q9999e, q9999f, p9999_l, p9999_r, p9999_s, I00, I01, I10, I11, n_le, n_lt, n_eq, n_cl, n_add, n_ne9, n_ne1, if_true, if_false, Option.bind_some, if_pos, if_neg]
theorem forget_K {o : Nat} {V0 : Mm} : ∃ W : Mm, eX2_forgetTouched o V0 = some W ∧ (∀ k, k ≠ o + 23 → k ≠ o → W k = V0 k) ∧ (∀ j, j ≠ 7 → W o j = V0 o j) ∧ W o 7 = 0 ∧ (∀ i, i < 50 → W (o + 23) i = 0) :=
  forget_bb 50 fu 0 V0 (by omega) (by unfold fu; omega) (fun _ _ => rfl) (fun i hi => absurd hi (by omega))
theorem bring_bb {o : Nat} {V0 : Mm} : ∀ d f c (V : Mm), c + d = 10 → d < f → (∀ k, (k < o + 2 ∨ o + 11 < k) → V k = V0 k) → (∀ x i, x < c → i < 50 → V (o + 2 + x) i = V0 (o + 13 + x) i) →
    ∃ W : Mm, eX2_bringBack_b2 f o (nI c) V = some W ∧ (∀ k, (k < o + 2 ∨ o + 11 < k) → k ≠ o → k ≠ o + 23 → W k = V0 k) ∧ (∀ j, j ≠ 4 → j ≠ 7 → W o j = V0 o j) ∧ W o 4 = V0 o 5 ∧ W o 7 = 0 ∧ (∀ x i, x < 10 → i < 50 → W (o + 2 + x) i = V0 (o + 13 + x) i) ∧ (∀ i, i < 50 → W (o + 23) i = 0) := by
  intro d
  induction d with
  | zero =>
    intro f c V hc hf h1 h2
    obtain ⟨f, rfl⟩ : ∃ f', f = f' + 1 := ⟨f - 1, by omega⟩
    have : c = 10 := by omega
    subst this
    obtain ⟨W, e1, e2, e3, e4, e5⟩ := forget_K (o := o) (V0 := wr V o 4 (V o 5))
    refine ⟨W, ?_, fun k hk h0 h23 => by rw [e2 k h23 h0, wr_ne h0, h1 k hk], fun j hj hj2 => by rw [e3 j hj2, wr_in hj, h1 o (by omega)], by rw [e3 4 (by omega), wr_at, h1 o (by omega)], e4, fun x i hx hi => by rw [e2 _ (by omega) (by omega), wr_ne (by omega)]; exact h2 x i hx hi, e5⟩
    rw [eX2_bringBack_b2]
    simp (disch := omega) only [q0a, q0b, q0c, q0d, q0e, q0f, p0_l, p0_r, p0_s, q1a, q1b, q1c, q1d, q1e, q1f, p1_l, p1_r, p1_s, q2a, q2b, q2c, q2d, q2e, q2f, p2_l, p2_r, p2_s, q3a, q3b, q3c, q3d, q3e, q3f, p3_l, p3_r, p3_s, q4a, q4b, q4c, q4d, q4e, q4f, p4_l, p4_r, p4_s, p4_m, q5a, q5b, q5c, q5d, q5e, q5f, p5_l, p5_r, p5_s, p5_m, q6a, q6b, q6c, q6d, q6e, q6f, p6_l, p6_r, p6_s, q7a, q7b, q7c, q7d, q7e, q7f, p7_l, p7_r, p7_s, q8a, q8b, q8c, q8d, q8e, q8f, p8_l, p8_r, p8_s, q9a, q9b, q9c, q9d, q9e, q9f, p9_l, p9_r, p9_s, q10a, q10b, q10c, q10d, q10e, q10f, p10_l, p10_r, p10_s, p10_m, q11a, q11b, q11c, q11d, q11e, q11f, p11_l, p11_r, p11_s, q12a, q12b, q12c, q12d, q12e, q12f, p12_l, p12_r, p12_s, q15a, q15b, q15c, q15d, q15e, q15f, p15_l, p15_r, p15_s, q19a, q19b, q19c, q19d, q19e, q19f, p19_l, p19_r, p19_s, q20a, q20b, q20c, q20d, q20e, q20f, p20_l, p20_r, p20_s, q31a, q31b, q31c, q31d, q31e, q31f, p31_l, p31_r, p31_s, q40a, q40b, q40c, q40d, q40e, q40f, p40_l, p40_r, p40_s, q48a, q48b, q48c, q48d, q48e, q48f, p48_l, p48_r, p48_s, q50a, q50b, q50c, q50d, q50e, q50f, p50_l, p50_r, p50_s, p50_m, q52a, q52b, q52c, q52d, q52e, q52f, p52_l, p52_r, p52_s, q60a, q60b, q60c, q60d, q60e, q60f, p60_l, p60_r, p60_s, q63a, q63b, q63c, q63d, q63e, q63f, p63_l, p63_r, p63_s, q80a, q80b, q80c, q80d, q80e, q80f, p80_l, p80_r, p80_s, q99a, q99b, q99c, q99d, q99e, q99f, p99_l, p99_r, p99_s, q100a, q100b, q100c, q100d, q100e, q100f, p100_l, p100_r, p100_s, q120a, q120b, q120c, q120d, q120e, q120f, p120_l, p120_r, p120_s, q240a, q240b, q240c, q240d, q240e, q240f, p240_l, p240_r, p240_s, q243a, q243b, q243c, q243d, q243e, q243f, p243_l, p243_r, p243_s, q244a, q244b, q244c, q244d, q244e, q244f, p244_l, p244_r, p244_s, q580a, q580b, q580c, q580d, q580e, q580f, p580_l, p580_r, p580_s, q581a, q581b, q581c, q581d, q581e, q581f, p581_l, p581_r, p581_s, q582a, q582b, q582c, q582d, q582e, q582f, p582_l, p582_r, p582_s, q583a, q583b, q583c, q583d, q583e, q583f, p583_l, p583_r, p583_s, q584a, q584b, q584c, q584d, q584e, q584f, p584_l, p584_r, p584_s, q585a, q585b, q585c, q585d, q585e, q585f, p585_l, p585_r, p585_s, q586a, q586b, q586c, q586d, q586e, q586f, p586_l, p586_r, p586_s, q999a, q999b, q999c, q999d, q999e, q999f, p999_l, p999_r, p999_s, q1000a, q1000b, q1000c, q1000d, q1000e, q1000f, p1000_l, p1000_r, p1000_s, q2400a, q2400b, q2400c, q2400d, q2400e, q2400f, p2400_l, p2400_r, p2400_s, q9999a, q9999b, q9999c, q9999d, q9999e, q9999f, p9999_l, p9999_r, p9999_s, I00, I01, I10, I11, n_le, n_lt, n_eq, n_cl, n_add, n_ne9, n_ne1, if_true, if_false, Option.bind_some, if_pos, if_neg, e1]
  | succ d ih =>
    intro f c V hc hf h1 h2
    obtain ⟨f, rfl⟩ : ∃ f', f = f' + 1 := ⟨f - 1, by omega⟩
    obtain ⟨W, e1, e2⟩ := ih f (c + 1) (wcp V (o + 13 + c) (o + 2 + c) 0 0 50) (by omega) (by omega) (fun k hk => by rw [wcp_ne (by omega), h1 k hk]) (fun x i hx hi => by
      by_cases e : x = c
      · subst e; rw [wcp_at hi, h1 _ (by omega)]
      · rw [wcp_ne (by omega)]; exact h2 x i (by omega) hi)
    refine ⟨W, ?_, e2⟩
    rw [← e1, eX2_bringBack_b2]
    simp (disch := omega) only [q0a, q0b, q0c, q0d, q0e, q0f, p0_l, p0_r, p0_s, q1a, q1b, q1c, q1d, q1e, q1f, p1_l, p1_r, p1_s, q2a, q2b, q2c, q2d, q2e, q2f, p2_l, p2_r, p2_s, q3a, q3b, q3c, q3d, q3e, q3f, p3_l, p3_r, p3_s, q4a, q4b, q4c, q4d, q4e, q4f, p4_l, p4_r, p4_s, p4_m, q5a, q5b, q5c, q5d, q5e, q5f, p5_l, p5_r, p5_s, p5_m, q6a, q6b, q6c, q6d, q6e, q6f, p6_l, p6_r, p6_s, q7a, q7b, q7c, q7d, q7e, q7f, p7_l, p7_r, p7_s, q8a, q8b, q8c, q8d, q8e, q8f, p8_l, p8_r, p8_s, q9a, q9b, q9c, q9d, q9e, q9f, p9_l, p9_r, p9_s, q10a, q10b, q10c, q10d, q10e, q10f, p10_l, p10_r, p10_s, p10_m, q11a, q11b, q11c, q11d, q11e, q11f, p11_l, p11_r, p11_s, q12a, q12b, q12c, q12d, q12e, q12f, p12_l, p12_r, p12_s, q15a, q15b, q15c, q15d, q15e, q15f, p15_l, p15_r, p15_s, q19a, q19b, q19c, q19d, q19e, q19f, p19_l, p19_r, p19_s, q20a, q20b, q20c, q20d, q20e, q20f, p20_l, p20_r, p20_s, q31a, q31b, q31c, q31d, q31e, q31f, p31_l, p31_r, p31_s, q40a, q40b, q40c, q40d, q40e, q40f, p40_l, p40_r, p40_s, q48a, q48b, q48c, q48d, q48e, q48f, p48_l, p48_r, p48_s, q50a, q50b, q50c, q50d, q50e, q50f, p50_l, p50_r, p50_s, p50_m, q52a, q52b, q52c, q52d, q52e, q52f, p52_l, p52_r, p52_s, q60a, q60b, q60c, q60d, q60e, q60f, p60_l, p60_r, p60_s, q63a, q63b, q63c, q63d, q63e, q63f, p63_l, p63_r, p63_s, q80a, q80b, q80c, q80d, q80e, q80f, p80_l, p80_r, p80_s, q99a, q99b, q99c, q99d, q99e, q99f, p99_l, p99_r, p99_s, q100a, q100b, q100c, q100d, q100e, q100f, p100_l, p100_r, p100_s, q120a, q120b, q120c, q120d, q120e, q120f, p120_l, p120_r, p120_s, q240a, q240b, q240c, q240d, q240e, q240f, p240_l, p240_r, p240_s, q243a, q243b, q243c, q243d, q243e, q243f, p243_l, p243_r, p243_s, q244a, q244b, q244c, q244d, q244e, q244f, p244_l, p244_r, p244_s, q580a, q580b, q580c, q580d, q580e, q580f, p580_l, p580_r, p580_s, q581a, q581b, q581c, q581d, q581e, q581f, p581_l, p581_r, p581_s, q582a, q582b, q582c, q582d, q582e, q582f, p582_l, p582_r, p582_s, q583a, q583b, q583c, q583d, q583e, q583f, p583_l, p583_r, p583_s, q584a, q584b, q584c, q584d, q584e, q584f, p584_l, p584_r, p584_s, q585a, q585b, q585c, q585d, q585e, q585f, p585_l, p585_r, p585_s, q586a, q586b, q586c, q586d, q586e, q586f, p586_l, p586_r, p586_s, q999a, q999b, q999c, q999d, q999e, q999f, p999_l, p999_r, p999_s, q1000a, q1000b, q1000c, q1000d, q1000e, q1000f, p1000_l, p1000_r, p1000_s, q2400a, q2400b, q2400c, q2400d, q2400e, q2400f, p2400_l, p2400_r, p2400_s, q9999a, q9999b, q9999c, q9999d, q9999e, q9999f, p9999_l, p9999_r, p9999_s, I00, I01, I10, I11, n_le, n_lt, n_eq, n_cl, n_add, n_ne9, n_ne1, if_true, if_false, Option.bind_some, if_pos, if_neg]
theorem bring_K {o : Nat} {V0 : Mm} : ∃ W : Mm, eX2_bringBack o V0 = some W ∧ (∀ k, (k < o + 2 ∨ o + 11 < k) → k ≠ o → k ≠ o + 23 → W k = V0 k) ∧ (∀ j, j ≠ 4 → j ≠ 7 → W o j = V0 o j) ∧ W o 4 = V0 o 5 ∧ W o 7 = 0 ∧ (∀ x i, x < 10 → i < 50 → W (o + 2 + x) i = V0 (o + 13 + x) i) ∧ (∀ i, i < 50 → W (o + 23) i = 0) :=
  bring_bb 10 fu 0 V0 (by omega) (by unfold fu; omega) (fun _ _ => rfl) (fun x i hx _ => absurd hx (by omega))
/-- W keeps the world of V -/
def keptOf (V W : Mm) : Prop := ∀ κ, κ < 3 → W (oK κ) 5 = V (oK κ) 4 ∧ W (oK κ) 3 = V (oK κ) 3 ∧ W (oK κ) 6 = V (oK κ) 6 ∧ ∀ c i, c < 10 → i < 50 → W (oK κ + 13 + c) i = V (oK κ + 2 + c) i
theorem WRel_pt {V W : Mm} {w : Nat → Int32} {nb nm nt : Nat} (h : WRel V w nb nm nt) (hf : ∀ κ, κ < 3 → W (oK κ) 3 = V (oK κ) 3 ∧ W (oK κ) 4 = V (oK κ) 4 ∧ W (oK κ) 6 = V (oK κ) 6) (hc : ∀ κ c i, κ < 3 → c < 10 → i < 50 → W (oK κ + 2 + c) i = V (oK κ + 2 + c) i) : WRel W w nb nm nt := by
  have hwn := WRel_WN h
  have q1 := hwn.b20
  have q2 := hwn.m50
  have q3 := hwn.tm
  obtain ⟨a1, a2, ⟨b1, b2, b3⟩, ⟨d1, d2, d3⟩, ⟨f1, f2, f3⟩, a6, a7, a8, a9, a10, a11⟩ := h
  obtain ⟨x1, x2, x3⟩ := hf 0 (by omega)
  obtain ⟨y1, y2, y3⟩ := hf 1 (by omega)
  obtain ⟨z1, z2, z3⟩ := hf 2 (by omega)
  refine ⟨a1, a2, ⟨x2.trans b1, y2.trans b2, z2.trans b3⟩, ⟨x1.trans d1, y1.trans d2, z1.trans d3⟩, ⟨x3.trans f1, y3.trans f2, z3.trans f3⟩, fun b hb => ?_, fun b hb hb2 => ?_, fun m hm => ⟨?_, fun c hc2 => ?_⟩, fun m hm hm2 => ?_, fun t ht => ?_, fun t ht ht2 => ?_⟩
  · obtain ⟨p1, p2, p3, p4⟩ := a6 b hb
    exact ⟨(hc 0 9 b (by omega) (by omega) (by omega)).trans p1, (hc 0 0 b (by omega) (by omega) (by omega)).trans p2, (hc 0 1 b (by omega) (by omega) (by omega)).trans p3, (hc 0 2 b (by omega) (by omega) (by omega)).trans p4⟩
  · exact (hc 0 9 b (by omega) (by omega) hb2).trans (a7 b hb hb2)
  · exact (hc 1 9 m (by omega) (by omega) (by omega)).trans (a8 m hm).1
  · exact (hc 1 c m (by omega) (by omega) (by omega)).trans ((a8 m hm).2 c hc2)
  · exact (hc 1 9 m (by omega) (by omega) hm2).trans (a9 m hm hm2)
  · exact ⟨(hc 2 0 t (by omega) (by omega) (by omega)).trans (a10 t ht).1, (hc 2 9 t (by omega) (by omega) (by omega)).trans (a10 t ht).2⟩
  · exact ⟨(hc 2 9 t (by omega) (by omega) ht2).trans (a11 t ht ht2).1, (hc 2 0 t (by omega) (by omega) ht2).trans (a11 t ht ht2).2⟩
theorem keepAll_n {V0 : Mm} : ∃ W : Mm, eX5_keepAll V0 = some W ∧ keptOf V0 W ∧ (∀ k, (k < 4 ∨ 75 < k) → W k = V0 k) ∧ (∀ κ j, κ < 3 → j ≠ 5 → W (oK κ) j = V0 (oK κ) j) ∧ (∀ κ c, κ < 3 → c < 10 → W (oK κ + 2 + c) = V0 (oK κ + 2 + c)) ∧ ∀ κ, κ < 3 → W (oK κ + 23) = V0 (oK κ + 23) := by
  obtain ⟨A, a1, a2, a3, a4, a5⟩ := keep_K (o := 4) (V0 := V0)
  obtain ⟨B, b1, b2, b3, b4, b5⟩ := keep_K (o := 28) (V0 := A)
  obtain ⟨C, c1, c2, c3, c4, c5⟩ := keep_K (o := 52) (V0 := B)
  refine ⟨C, ?_, fun κ hκ => ?_, fun k hk => ?_, fun κ j hκ hj => ?_, fun κ c hκ hc => ?_, fun κ hκ => ?_⟩
  · unfold eX5_keepAll
    rw [a1, Option.bind_some, b1, Option.bind_some, c1, Option.bind_some]
  · have : κ = 0 ∨ κ = 1 ∨ κ = 2 := by omega
    rcases this with rfl | rfl | rfl
    · refine ⟨?_, ?_, ?_, fun c i hc hi => ?_⟩
      · show C 4 5 = V0 4 4
        rw [c2 4 (by omega) (by omega), b2 4 (by omega) (by omega)]; exact a4
      · show C 4 3 = V0 4 3
        rw [c2 4 (by omega) (by omega), b2 4 (by omega) (by omega)]; exact a3 3 (by omega)
      · show C 4 6 = V0 4 6
        rw [c2 4 (by omega) (by omega), b2 4 (by omega) (by omega)]; exact a3 6 (by omega)
      · show C (4 + 13 + c) i = V0 (4 + 2 + c) i
        rw [c2 _ (by omega) (by omega), b2 _ (by omega) (by omega)]; exact a5 c i hc hi
    · refine ⟨?_, ?_, ?_, fun c i hc hi => ?_⟩
      · show C 28 5 = V0 28 4
        rw [c2 28 (by omega) (by omega), b4, a2 28 (by omega) (by omega)]
      · show C 28 3 = V0 28 3
        rw [c2 28 (by omega) (by omega), b3 3 (by omega), a2 28 (by omega) (by omega)]
      · show C 28 6 = V0 28 6
        rw [c2 28 (by omega) (by omega), b3 6 (by omega), a2 28 (by omega) (by omega)]
      · show C (28 + 13 + c) i = V0 (28 + 2 + c) i
        rw [c2 _ (by omega) (by omega), b5 c i hc hi, a2 _ (by omega) (by omega)]
    · refine ⟨?_, ?_, ?_, fun c i hc hi => ?_⟩
      · show C 52 5 = V0 52 4
        rw [c4, b2 52 (by omega) (by omega), a2 52 (by omega) (by omega)]
      · show C 52 3 = V0 52 3
        rw [c3 3 (by omega), b2 52 (by omega) (by omega), a2 52 (by omega) (by omega)]
      · show C 52 6 = V0 52 6
        rw [c3 6 (by omega), b2 52 (by omega) (by omega), a2 52 (by omega) (by omega)]
      · show C (52 + 13 + c) i = V0 (52 + 2 + c) i
        rw [c5 c i hc hi, b2 _ (by omega) (by omega), a2 _ (by omega) (by omega)]
  · rw [c2 k (by omega) (by omega), b2 k (by omega) (by omega), a2 k (by omega) (by omega)]
  · have : κ = 0 ∨ κ = 1 ∨ κ = 2 := by omega
    rcases this with rfl | rfl | rfl
    · show C 4 j = V0 4 j
      rw [c2 4 (by omega) (by omega), b2 4 (by omega) (by omega)]; exact a3 j hj
    · show C 28 j = V0 28 j
      rw [c2 28 (by omega) (by omega), b3 j hj, a2 28 (by omega) (by omega)]
    · show C 52 j = V0 52 j
      rw [c3 j hj, b2 52 (by omega) (by omega), a2 52 (by omega) (by omega)]
  · have : κ = 0 ∨ κ = 1 ∨ κ = 2 := by omega
    rcases this with rfl | rfl | rfl
    · show C (4 + 2 + c) = V0 (4 + 2 + c)
      rw [c2 _ (by omega) (by omega), b2 _ (by omega) (by omega), a2 _ (by omega) (by omega)]
    · show C (28 + 2 + c) = V0 (28 + 2 + c)
      rw [c2 _ (by omega) (by omega), b2 _ (by omega) (by omega), a2 _ (by omega) (by omega)]
    · show C (52 + 2 + c) = V0 (52 + 2 + c)
      rw [c2 _ (by omega) (by omega), b2 _ (by omega) (by omega), a2 _ (by omega) (by omega)]
  · have : κ = 0 ∨ κ = 1 ∨ κ = 2 := by omega
    rcases this with rfl | rfl | rfl
    · show C 27 = V0 27
      rw [c2 _ (by omega) (by omega), b2 _ (by omega) (by omega), a2 _ (by omega) (by omega)]
    · show C 51 = V0 51
      rw [c2 _ (by omega) (by omega), b2 _ (by omega) (by omega), a2 _ (by omega) (by omega)]
    · show C 75 = V0 75
      rw [c2 _ (by omega) (by omega), b2 _ (by omega) (by omega), a2 _ (by omega) (by omega)]
theorem bringAll_n {V0 V : Mm} {w : Nat → Int32} {nb nm nt : Nat} (hW : WRel V0 w nb nm nt) (hK : keptOf V0 V) : ∃ W : Mm, eX5_bringAllBack V = some W ∧ WRel W w nb nm nt ∧ rClean W ∧ (∀ k, (k < 4 ∨ 75 < k) → W k = V k) := by
  obtain ⟨A, a1, a2, a3, a4, a5, a6, a7⟩ := bring_K (o := 4) (V0 := V)
  obtain ⟨B, b1, b2, b3, b4, b5, b6, b7⟩ := bring_K (o := 28) (V0 := A)
  obtain ⟨C, c1, c2, c3, c4, c5, c6, c7⟩ := bring_K (o := 52) (V0 := B)
  refine ⟨C, ?_, WRel_pt hW (fun κ hκ => ?_) (fun κ c i hκ hc hi => ?_), ⟨⟨?_, ?_, ?_⟩, fun i hi => ⟨?_, ?_, ?_⟩⟩, fun k hk => ?_⟩
  · unfold eX5_bringAllBack
    rw [a1, Option.bind_some, b1, Option.bind_some, c1, Option.bind_some]
  · obtain ⟨k1, k2, k3, k4⟩ := hK κ hκ
    have : κ = 0 ∨ κ = 1 ∨ κ = 2 := by omega
    rcases this with rfl | rfl | rfl
    · refine ⟨Eq.trans ?_ k2, Eq.trans ?_ k1, Eq.trans ?_ k3⟩
      · show C 4 3 = V 4 3
        rw [c2 4 (by omega) (by omega) (by omega), b2 4 (by omega) (by omega) (by omega)]; exact a3 3 (by omega) (by omega)
      · show C 4 4 = V 4 5
        rw [c2 4 (by omega) (by omega) (by omega), b2 4 (by omega) (by omega) (by omega)]; exact a4
      · show C 4 6 = V 4 6
        rw [c2 4 (by omega) (by omega) (by omega), b2 4 (by omega) (by omega) (by omega)]; exact a3 6 (by omega) (by omega)
    · refine ⟨Eq.trans ?_ k2, Eq.trans ?_ k1, Eq.trans ?_ k3⟩
      · show C 28 3 = V 28 3
        rw [c2 28 (by omega) (by omega) (by omega), b3 3 (by omega) (by omega), a2 28 (by omega) (by omega) (by omega)]
      · show C 28 4 = V 28 5
        rw [c2 28 (by omega) (by omega) (by omega), b4, a2 28 (by omega) (by omega) (by omega)]
      · show C 28 6 = V 28 6
        rw [c2 28 (by omega) (by omega) (by omega), b3 6 (by omega) (by omega), a2 28 (by omega) (by omega) (by omega)]
    · refine ⟨Eq.trans ?_ k2, Eq.trans ?_ k1, Eq.trans ?_ k3⟩
      · show C 52 3 = V 52 3
        rw [c3 3 (by omega) (by omega), b2 52 (by omega) (by omega) (by omega), a2 52 (by omega) (by omega) (by omega)]
      · show C 52 4 = V 52 5
        rw [c4, b2 52 (by omega) (by omega) (by omega), a2 52 (by omega) (by omega) (by omega)]
      · show C 52 6 = V 52 6
        rw [c3 6 (by omega) (by omega), b2 52 (by omega) (by omega) (by omega), a2 52 (by omega) (by omega) (by omega)]
  · obtain ⟨k1, k2, k3, k4⟩ := hK κ hκ
    rw [← k4 c i hc hi]
    have : κ = 0 ∨ κ = 1 ∨ κ = 2 := by omega
    rcases this with rfl | rfl | rfl
    · show C (4 + 2 + c) i = V (4 + 13 + c) i
      rw [c2 _ (by omega) (by omega) (by omega), b2 _ (by omega) (by omega) (by omega)]; exact a6 c i hc hi
    · show C (28 + 2 + c) i = V (28 + 13 + c) i
      rw [c2 _ (by omega) (by omega) (by omega), b6 c i hc hi, a2 _ (by omega) (by omega) (by omega)]
    · show C (52 + 2 + c) i = V (52 + 13 + c) i
      rw [c6 c i hc hi, b2 _ (by omega) (by omega) (by omega), a2 _ (by omega) (by omega) (by omega)]
  · rw [c2 4 (by omega) (by omega) (by omega), b2 4 (by omega) (by omega) (by omega)]; exact a5
  · rw [c2 28 (by omega) (by omega) (by omega)]; exact b5
  · exact c5
  · rw [c2 27 (by omega) (by omega) (by omega), b2 27 (by omega) (by omega) (by omega)]; exact a7 i hi
  · rw [c2 51 (by omega) (by omega) (by omega)]; exact b7 i hi
  · exact c7 i hi
  · rw [c2 k (by omega) (by omega) (by omega), b2 k (by omega) (by omega) (by omega), a2 k (by omega) (by omega) (by omega)]
