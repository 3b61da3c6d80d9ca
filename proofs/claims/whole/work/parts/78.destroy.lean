
/-! DESTROY: the call -/
def dfC (κ : Nat) (x : Int32) (V : Mm) : Option (Int32 × Mm) := if κ = 0 then eX5_destroyBox x V else eX5_destroyMail x V
theorem b11_u {f a1 a2 κ j : Nat} {V : Mm} {c x : Nat} (hκ : κ < 2) (hc : V 0 9 = nI c) (hj : j < c) (h50 : c ≤ 50) (h2 : V a1 2 = nI κ) (hx : V 88 j = nI x) :
    eX5_destroyIds_b11 (f + 1) a1 a2 (nI j) V = (dfC κ (nI x) V).bind fun r => if r.1 = 0 then (eX4_add a2 3 (r.2 88 j) r.2).bind fun r21 => eX5_destroyIds_b11 f a1 a2 (nI (j + 1)) r21 else (eX5_bringAllBack r.2).bind fun r23 => some (r.1, r23) := by
  have hcs : κ = 0 ∨ κ = 1 := by omega
  rw [eX5_destroyIds_b11, hc]
  rcases hcs with rfl | rfl
  · simp (disch := omega) only [q0a, q0b, q0c, q0d, q0e, q0f, p0_l, p0_r, p0_s, q1a, q1b, q1c, q1d, q1e, q1f, p1_l, p1_r, p1_s, q2a, q2b, q2c, q2d, q2e, q2f, p2_l, p2_r, p2_s, q3a, q3b, q3c, q3d, q3e, q3f, p3_l, p3_r, p3_s, q4a, q4b, q4c, q4d, q4e, q4f, p4_l, p4_r, p4_s, p4_m, q5a, q5b, q5c, q5d, q5e, q5f, p5_l, p5_r, p5_s, p5_m, q6a, q6b, q6c, q6d, q6e, q6f, p6_l, p6_r, p6_s, q7a, q7b, q7c, q7d, q7e, q7f, p7_l, p7_r, p7_s, q8a, q8b, q8c, q8d, q8e, q8f, p8_l, p8_r, p8_s, q9a, q9b, q9c, q9d, q9e, q9f, p9_l, p9_r, p9_s, q10a, q10b, q10c, q10d, q10e, q10f, p10_l, p10_r, p10_s, p10_m, q11a, q11b, q11c, q11d, q11e, q11f, p11_l, p11_r, p11_s, q12a, q12b, q12c, q12d, q12e, q12f, p12_l, p12_r, p12_s, q15a, q15b, q15c, q15d, q15e, q15f, p15_l, p15_r, p15_s, q19a, q19b, q19c, q19d, q19e, q19f, p19_l, p19_r, p19_s, q20a, q20b, q20c, q20d, q20e, q20f, p20_l, p20_r, p20_s, q31a, q31b, q31c, q31d, q31e, q31f, p31_l, p31_r, p31_s, q40a, q40b, q40c, q40d, q40e, q40f, p40_l, p40_r, p40_s, q48a, q48b, q48c, q48d, q48e, q48f, p48_l, p48_r, p48_s, q50a, q50b, q50c, q50d, q50e, q50f, p50_l, p50_r, p50_s, p50_m, q52a, q52b, q52c, q52d, q52e, q52f, p52_l, p52_r, p52_s, q60a, q60b, q60c, q60d, q60e, q60f, p60_l, p60_r, p60_s, q63a, q63b, q63c, q63d, q63e, q63f, p63_l, p63_r, p63_s, q80a, q80b, q80c, q80d, q80e, q80f, p80_l, p80_r, p80_s, q99a, q99b, q99c, q99d, q99e, q99f, p99_l, p99_r, p99_s, q100a, q100b, q100c, q100d, q100e, q100f, p100_l, p100_r, p100_s, q120a, q120b, q120c, q120d, q120e, q120f, p120_l, p120_r, p120_s, q240a, q240b, q240c, q240d, q240e, q240f, p240_l, p240_r, p240_s, q243a, q243b, q243c, q243d, q243e, q243f, p243_l, p243_r, p243_s, q244a, q244b, q244c, q244d, q244e, q244f, p244_l, p244_r, p244_s, q580a, q580b, q580c, q580d, q580e, q580f, p580_l, p580_r, p580_s, q581a, q581b, q581c, q581d, q581e, q581f, p581_l, p581_r, p581_s, q582a, q582b, q582c, q582d, q582e, q582f, p582_l, p582_r, p582_s, q583a, q583b, q583c, q583d, q583e, q583f, p583_l, p583_r, p583_s, q584a, q584b, q584c, q584d, q584e, q584f, p584_l, p584_r, p584_s, q585a, q585b, q585c, q585d, q585e, q585f, p585_l, p585_r, p585_s, q586a, q586b, q586c, q586d, q586e, q586f, p586_l, p586_r, p586_s, q999a, q999b, q999c, q999d, q999e, q999f, p999_l, p999_r, p999_s, q1000a, q1000b, q1000c, q1000d, q1000e, q1000f, p1000_l, p1000_r, p1000_s, q2400a, q2400b, q2400c, q2400d, q2400e, q2400f, p2400_l, p2400_r, p2400_s, q9999a, q9999b, q9999c, q9999d, q9999e, q9999f, p9999_l, p9999_r, p9999_s, I00, I01, I10, I11, n_le, n_lt, n_eq, n_cl, n_add, n_ne9, n_ne1, if_true, if_false, Option.bind_some, if_pos, if_neg, h2, hx]
    unfold dfC
    rw [if_pos rfl]
  · simp (disch := omega) only [q0a, q0b, q0c, q0d, q0e, q0f, p0_l, p0_r, p0_s, q1a, q1b, q1c, q1d, q1e, q1f, p1_l, p1_r, p1_s, q2a, q2b, q2c, q2d, q2e, q2f, p2_l, p2_r, p2_s, q3a, q3b, q3c, q3d, q3e, q3f, p3_l, p3_r, p3_s, q4a, q4b, q4c, q4d, q4e, q4f, p4_l, p4_r, p4_s, p4_m, q5a, q5b, q5c, q5d, q5e, q5f, p5_l, p5_r, p5_s, p5_m, q6a, q6b, q6c, q6d, q6e, q6f, p6_l, p6_r, p6_s, q7a, q7b, q7c, q7d, q7e, q7f, p7_l, p7_r, p7_s, q8a, q8b, q8c, q8d, q8e, q8f, p8_l, p8_r, p8_s, q9a, q9b, q9c, q9d, q9e, q9f, p9_l, p9_r, p9_s, q10a, q10b, q10c, q10d, q10e, q10f, p10_l, p10_r, p10_s, p10_m, q11a, q11b, q11c, q11d, q11e, q11f, p11_l, p11_r, p11_s, q12a, q12b, q12c, q12d, q12e, q12f, p12_l, p12_r, p12_s, q15a, q15b, q15c, q15d, q15e, q15f, p15_l, p15_r, p15_s, q19a, q19b, q19c, q19d, q19e, q19f, p19_l, p19_r, p19_s, q20a, q20b, q20c, q20d, q20e, q20f, p20_l, p20_r, p20_s, q31a, q31b, q31c, q31d, q31e, q31f, p31_l, p31_r, p31_s, q40a, q40b, q40c, q40d, q40e, q40f, p40_l, p40_r, p40_s, q48a, q48b, q48c, q48d, q48e, q48f, p48_l, p48_r, p48_s, q50a, q50b, q50c, q50d, q50e, q50f, p50_l, p50_r, p50_s, p50_m, q52a, q52b, q52c, q52d, q52e, q52f, p52_l, p52_r, p52_s, q60a, q60b, q60c, q60d, q60e, q60f, p60_l, p60_r, p60_s, q63a, q63b, q63c, q63d, q63e, q63f, p63_l, p63_r, p63_s, q80a, q80b, q80c, q80d, q80e, q80f, p80_l, p80_r, p80_s, q99a, q99b, q99c, q99d, q99e, q99f, p99_l, p99_r, p99_s, q100a, q100b, q100c, q100d, q100e, q100f, p100_l, p100_r, p100_s, q120a, q120b, q120c, q120d, q120e, q120f, p120_l, p120_r, p120_s, q240a, q240b, q240c, q240d, q240e, q240f, p240_l, p240_r, p240_s, q243a, q243b, q243c, q243d, q243e, q243f, p243_l, p243_r, p243_s, q244a, q244b, q244c, q244d, q244e, q244f, p244_l, p244_r, p244_s, q580a, q580b, q580c, q580d, q580e, q580f, p580_l, p580_r, p580_s, q581a, q581b, q581c, q581d, q581e, q581f, p581_l, p581_r, p581_s, q582a, q582b, q582c, q582d, q582e, q582f, p582_l, p582_r, p582_s, q583a, q583b, q583c, q583d, q583e, q583f, p583_l, p583_r, p583_s, q584a, q584b, q584c, q584d, q584e, q584f, p584_l, p584_r, p584_s, q585a, q585b, q585c, q585d, q585e, q585f, p585_l, p585_r, p585_s, q586a, q586b, q586c, q586d, q586e, q586f, p586_l, p586_r, p586_s, q999a, q999b, q999c, q999d, q999e, q999f, p999_l, p999_r, p999_s, q1000a, q1000b, q1000c, q1000d, q1000e, q1000f, p1000_l, p1000_r, p1000_s, q2400a, q2400b, q2400c, q2400d, q2400e, q2400f, p2400_l, p2400_r, p2400_s, q9999a, q9999b, q9999c, q9999d, q9999e, q9999f, p9999_l, p9999_r, p9999_s, I00, I01, I10, I11, n_le, n_lt, n_eq, n_cl, n_add, n_ne9, n_ne1, if_true, if_false, Option.bind_some, if_pos, if_neg, h2, hx]
    unfold dfC
    rw [if_neg (by omega)]
theorem b70_u {g κ j : Nat} {W : Mm} {c x : Nat} (hc : W 0 20 = nI c) (hj : j < c) (h50 : c ≤ 50) (hx : W 16 j = nI x) :
    eX6_doDestroy_b70 (g + 1) (nI κ) (nI j) W = (eX6_destroyOne (nI κ) (nI x) W).bind fun r => if r.1 = 0 then eX6_doDestroy_b70 g (nI κ) (nI (j + 1)) r.2 else some (r.1, r.2) := by
  rw [eX6_doDestroy_b70, hc]
  simp (disch := omega) only [q0a, q0b, q0c, q0d, q0e, q0f, p0_l, p0_r, p0_s, q1a, q1b, q1c, q1d, q1e, q1f, p1_l, p1_r, p1_s, q2a, q2b, q2c, q2d, q2e, q2f, p2_l, p2_r, p2_s, q3a, q3b, q3c, q3d, q3e, q3f, p3_l, p3_r, p3_s, q4a, q4b, q4c, q4d, q4e, q4f, p4_l, p4_r, p4_s, p4_m, q5a, q5b, q5c, q5d, q5e, q5f, p5_l, p5_r, p5_s, p5_m, q6a, q6b, q6c, q6d, q6e, q6f, p6_l, p6_r, p6_s, q7a, q7b, q7c, q7d, q7e, q7f, p7_l, p7_r, p7_s, q8a, q8b, q8c, q8d, q8e, q8f, p8_l, p8_r, p8_s, q9a, q9b, q9c, q9d, q9e, q9f, p9_l, p9_r, p9_s, q10a, q10b, q10c, q10d, q10e, q10f, p10_l, p10_r, p10_s, p10_m, q11a, q11b, q11c, q11d, q11e, q11f, p11_l, p11_r, p11_s, q12a, q12b, q12c, q12d, q12e, q12f, p12_l, p12_r, p12_s, q15a, q15b, q15c, q15d, q15e, q15f, p15_l, p15_r, p15_s, q19a, q19b, q19c, q19d, q19e, q19f, p19_l, p19_r, p19_s, q20a, q20b, q20c, q20d, q20e, q20f, p20_l, p20_r, p20_s, q31a, q31b, q31c, q31d, q31e, q31f, p31_l, p31_r, p31_s, q40a, q40b, q40c, q40d, q40e, q40f, p40_l, p40_r, p40_s, q48a, q48b, q48c, q48d, q48e, q48f, p48_l, p48_r, p48_s, q50a, q50b, q50c, q50d, q50e, q50f, p50_l, p50_r, p50_s, p50_m, q52a, q52b, q52c, q52d, q52e, q52f, p52_l, p52_r, p52_s, q60a, q60b, q60c, q60d, q60e, q60f, p60_l, p60_r, p60_s, q63a, q63b, q63c, q63d, q63e, q63f, p63_l, p63_r, p63_s, q80a, q80b, q80c, q80d, q80e, q80f, p80_l, p80_r, p80_s, q99a, q99b, q99c, q99d, q99e, q99f, p99_l, p99_r, p99_s, q100a, q100b, q100c, q100d, q100e, q100f, p100_l, p100_r, p100_s, q120a, q120b, q120c, q120d, q120e, q120f, p120_l, p120_r, p120_s, q240a, q240b, q240c, q240d, q240e, q240f, p240_l, p240_r, p240_s, q243a, q243b, q243c, q243d, q243e, q243f, p243_l, p243_r, p243_s, q244a, q244b, q244c, q244d, q244e, q244f, p244_l, p244_r, p244_s, q580a, q580b, q580c, q580d, q580e, q580f, p580_l, p580_r, p580_s, q581a, q581b, q581c, q581d, q581e, q581f, p581_l, p581_r, p581_s, q582a, q582b, q582c, q582d, q582e, q582f, p582_l, p582_r, p582_s, q583a, q583b, q583c, q583d, q583e, q583f, p583_l, p583_r, p583_s, q584a, q584b, q584c, q584d, q584e, q584f, p584_l, p584_r, p584_s, q585a, q585b, q585c, q585d, q585e, q585f, p585_l, p585_r, p585_s, q586a, q586b, q586c, q586d, q586e, q586f, p586_l, p586_r, p586_s, q999a, q999b, q999c, q999d, q999e, q999f, p999_l, p999_r, p999_s, q1000a, q1000b, q1000c, q1000d, q1000e, q1000f, p1000_l, p1000_r, p1000_s, q2400a, q2400b, q2400c, q2400d, q2400e, q2400f, p2400_l, p2400_r, p2400_s, q9999a, q9999b, q9999c, q9999d, q9999e, q9999f, p9999_l, p9999_r, p9999_s, I00, I01, I10, I11, n_le, n_lt, n_eq, n_cl, n_add, n_ne9, n_ne1, if_true, if_false, Option.bind_some, if_pos, if_neg, hx]
def allT (_ : Nat) : Bool := true
def dsI (q : Nat) (Vk V0 W0 V W : Mm) (nb nm nt : Nat) (ids : Nat → Nat) (j : Nat) : Prop := dI Vk (W0 2) nb nm nt V W ∧ (∀ k, (k < 4 ∨ 75 < k) → (k < 93 + 9 * q ∨ 97 + 9 * q < k) → V k = V0 k) ∧ (∀ k, k ≠ 1 → W k = W0 k) ∧ clRow q 3 V allT ids j ∧ (∀ r, r < 4 → r ≠ 3 → V (91 + 9 * q + 6) r = 0)
theorem keptOf_stay {Vk V V' : Mm} (h : keptOf Vk V) (hs : ∀ k, 4 ≤ k → k ≤ 75 → V' k = V k) : keptOf Vk V' :=
  keptOf_fr h (fun κ j hκ _ => by have := oK_b hκ; rw [hs (oK κ) (by omega) (by omega)]) (fun κ c hκ hc => by have := oK_b hκ; rw [hs _ (by omega) (by unfold oK; omega)])
theorem ds_loop {κ q nb nm nt c : Nat} {ids : Nat → Nat} {Vk V0 W0 : Mm} {wk : Nat → Int32} (hκ : κ < 2) (hids : idsRel V0 W0 c ids) (hk : WRel Vk wk nb nm nt) (h2 : V0 (89 + 9 * q) 2 = nI κ) :
    ∀ d f g j (V W : Mm), j + d = c → d < f → d < g → dsI q Vk V0 W0 V W nb nm nt ids j →
    (∃ (code : Int32) (V' W' : Mm), code ≠ 0 ∧ eX5_destroyIds_b11 f (89 + 9 * q) (91 + 9 * q) (nI j) V = some (code, V') ∧ eX6_doDestroy_b70 g (nI κ) (nI j) W = some (code, W') ∧ WRel V' wk nb nm nt ∧ rClean V' ∧ (∀ k, (k < 4 ∨ 75 < k) → (k < 93 + 9 * q ∨ 97 + 9 * q < k) → V' k = V0 k) ∧ (∀ k, k ≠ 1 → W' k = W0 k)) ∨
    (∃ (V' W' : Mm), eX5_destroyIds_b11 f (89 + 9 * q) (91 + 9 * q) (nI j) V = some (0, V') ∧ eX6_doDestroy_b70 g (nI κ) (nI j) W = eX6_doDestroy_b104 fu 0 W' ∧ dsI q Vk V0 W0 V' W' nb nm nt ids c) := by
  obtain ⟨c50, hi1, hi2, hi3, hi4⟩ := hids
  intro d
  induction d with
  | zero =>
    intro f g j V W hj hf hg hI
    obtain ⟨f, rfl⟩ : ∃ f', f = f' + 1 := ⟨f - 1, by omega⟩
    obtain ⟨g, rfl⟩ : ∃ g', g = g' + 1 := ⟨g - 1, by omega⟩
    have : j = c := by omega
    subst this
    right
    refine ⟨V, W, ?_, ?_, hI⟩
    · rw [eX5_destroyIds_b11, hI.2.1 0 (by omega) (by omega), hi1]
      simp (disch := omega) only [q0a, q0b, q0c, q0d, q0e, q0f, p0_l, p0_r, p0_s, q1a, q1b, q1c, q1d, q1e, q1f, p1_l, p1_r, p1_s, q2a, q2b, q2c, q2d, q2e, q2f, p2_l, p2_r, p2_s, q3a, q3b, q3c, q3d, q3e, q3f, p3_l, p3_r, p3_s, q4a, q4b, q4c, q4d, q4e, q4f, p4_l, p4_r, p4_s, p4_m, q5a, q5b, q5c, q5d, q5e, q5f, p5_l, p5_r, p5_s, p5_m, q6a, q6b, q6c, q6d, q6e, q6f, p6_l, p6_r, p6_s, q7a, q7b, q7c, q7d, q7e, q7f, p7_l, p7_r, p7_s, q8a, q8b, q8c, q8d, q8e, q8f, p8_l, p8_r, p8_s, q9a, q9b, q9c, q9d, q9e, q9f, p9_l, p9_r, p9_s, q10a, q10b, q10c, q10d, q10e, q10f, p10_l, p10_r, p10_s, p10_m, q11a, q11b, q11c, q11d, q11e, q11f, p11_l, p11_r, p11_s, q12a, q12b, q12c, q12d, q12e, q12f, p12_l, p12_r, p12_s, q15a, q15b, q15c, q15d, q15e, q15f, p15_l, p15_r, p15_s, q19a, q19b, q19c, q19d, q19e, q19f, p19_l, p19_r, p19_s, q20a, q20b, q20c, q20d, q20e, q20f, p20_l, p20_r, p20_s, q31a, q31b, q31c, q31d, q31e, q31f, p31_l, p31_r, p31_s, q40a, q40b, q40c, q40d, q40e, q40f, p40_l, p40_r, p40_s, q48a, q48b, q48c, q48d, q48e, q48f, p48_l, p48_r, p48_s, q50a, q50b, q50c, q50d, q50e, q50f, p50_l, p50_r, p50_s, p50_m, q52a, q52b, q52c, q52d, q52e, q52f, p52_l, p52_r, p52_s, q60a, q60b, q60c, q60d, q60e, q60f, p60_l, p60_r, p60_s, q63a, q63b, q63c, q63d, q63e, q63f, p63_l, p63_r, p63_s, q80a, q80b, q80c, q80d, q80e, q80f, p80_l, p80_r, p80_s, q99a, q99b, q99c, q99d, q99e, q99f, p99_l, p99_r, p99_s, q100a, q100b, q100c, q100d, q100e, q100f, p100_l, p100_r, p100_s, q120a, q120b, q120c, q120d, q120e, q120f, p120_l, p120_r, p120_s, q240a, q240b, q240c, q240d, q240e, q240f, p240_l, p240_r, p240_s, q243a, q243b, q243c, q243d, q243e, q243f, p243_l, p243_r, p243_s, q244a, q244b, q244c, q244d, q244e, q244f, p244_l, p244_r, p244_s, q580a, q580b, q580c, q580d, q580e, q580f, p580_l, p580_r, p580_s, q581a, q581b, q581c, q581d, q581e, q581f, p581_l, p581_r, p581_s, q582a, q582b, q582c, q582d, q582e, q582f, p582_l, p582_r, p582_s, q583a, q583b, q583c, q583d, q583e, q583f, p583_l, p583_r, p583_s, q584a, q584b, q584c, q584d, q584e, q584f, p584_l, p584_r, p584_s, q585a, q585b, q585c, q585d, q585e, q585f, p585_l, p585_r, p585_s, q586a, q586b, q586c, q586d, q586e, q586f, p586_l, p586_r, p586_s, q999a, q999b, q999c, q999d, q999e, q999f, p999_l, p999_r, p999_s, q1000a, q1000b, q1000c, q1000d, q1000e, q1000f, p1000_l, p1000_r, p1000_s, q2400a, q2400b, q2400c, q2400d, q2400e, q2400f, p2400_l, p2400_r, p2400_s, q9999a, q9999b, q9999c, q9999d, q9999e, q9999f, p9999_l, p9999_r, p9999_s, I00, I01, I10, I11, n_le, n_lt, n_eq, n_cl, n_add, n_ne9, n_ne1, if_true, if_false, Option.bind_some, if_pos, if_neg]
    · rw [eX6_doDestroy_b70, hI.2.2.1 0 (by omega), hi2]
      simp (disch := omega) only [q0a, q0b, q0c, q0d, q0e, q0f, p0_l, p0_r, p0_s, q1a, q1b, q1c, q1d, q1e, q1f, p1_l, p1_r, p1_s, q2a, q2b, q2c, q2d, q2e, q2f, p2_l, p2_r, p2_s, q3a, q3b, q3c, q3d, q3e, q3f, p3_l, p3_r, p3_s, q4a, q4b, q4c, q4d, q4e, q4f, p4_l, p4_r, p4_s, p4_m, q5a, q5b, q5c, q5d, q5e, q5f, p5_l, p5_r, p5_s, p5_m, q6a, q6b, q6c, q6d, q6e, q6f, p6_l, p6_r, p6_s, q7a, q7b, q7c, q7d, q7e, q7f, p7_l, p7_r, p7_s, q8a, q8b, q8c, q8d, q8e, q8f, p8_l, p8_r, p8_s, q9a, q9b, q9c, q9d, q9e, q9f, p9_l, p9_r, p9_s, q10a, q10b, q10c, q10d, q10e, q10f, p10_l, p10_r, p10_s, p10_m, q11a, q11b, q11c, q11d, q11e, q11f, p11_l, p11_r, p11_s, q12a, q12b, q12c, q12d, q12e, q12f, p12_l, p12_r, p12_s, q15a, q15b, q15c, q15d, q15e, q15f, p15_l, p15_r, p15_s, q19a, q19b, q19c, q19d, q19e, q19f, p19_l, p19_r, p19_s, q20a, q20b, q20c, q20d, q20e, q20f, p20_l, p20_r, p20_s, q31a, q31b, q31c, q31d, q31e, q31f, p31_l, p31_r, p31_s, q40a, q40b, q40c, q40d, q40e, q40f, p40_l, p40_r, p40_s, q48a, q48b, q48c, q48d, q48e, q48f, p48_l, p48_r, p48_s, q50a, q50b, q50c, q50d, q50e, q50f, p50_l, p50_r, p50_s, p50_m, q52a, q52b, q52c, q52d, q52e, q52f, p52_l, p52_r, p52_s, q60a, q60b, q60c, q60d, q60e, q60f, p60_l, p60_r, p60_s, q63a, q63b, q63c, q63d, q63e, q63f, p63_l, p63_r, p63_s, q80a, q80b, q80c, q80d, q80e, q80f, p80_l, p80_r, p80_s, q99a, q99b, q99c, q99d, q99e, q99f, p99_l, p99_r, p99_s, q100a, q100b, q100c, q100d, q100e, q100f, p100_l, p100_r, p100_s, q120a, q120b, q120c, q120d, q120e, q120f, p120_l, p120_r, p120_s, q240a, q240b, q240c, q240d, q240e, q240f, p240_l, p240_r, p240_s, q243a, q243b, q243c, q243d, q243e, q243f, p243_l, p243_r, p243_s, q244a, q244b, q244c, q244d, q244e, q244f, p244_l, p244_r, p244_s, q580a, q580b, q580c, q580d, q580e, q580f, p580_l, p580_r, p580_s, q581a, q581b, q581c, q581d, q581e, q581f, p581_l, p581_r, p581_s, q582a, q582b, q582c, q582d, q582e, q582f, p582_l, p582_r, p582_s, q583a, q583b, q583c, q583d, q583e, q583f, p583_l, p583_r, p583_s, q584a, q584b, q584c, q584d, q584e, q584f, p584_l, p584_r, p584_s, q585a, q585b, q585c, q585d, q585e, q585f, p585_l, p585_r, p585_s, q586a, q586b, q586c, q586d, q586e, q586f, p586_l, p586_r, p586_s, q999a, q999b, q999c, q999d, q999e, q999f, p999_l, p999_r, p999_s, q1000a, q1000b, q1000c, q1000d, q1000e, q1000f, p1000_l, p1000_r, p1000_s, q2400a, q2400b, q2400c, q2400d, q2400e, q2400f, p2400_l, p2400_r, p2400_s, q9999a, q9999b, q9999c, q9999d, q9999e, q9999f, p9999_l, p9999_r, p9999_s, I00, I01, I10, I11, n_le, n_lt, n_eq, n_cl, n_add, n_ne9, n_ne1, if_true, if_false, Option.bind_some, if_pos, if_neg]
  | succ d ih =>
    intro f g j V W hj hf hg hI
    obtain ⟨f, rfl⟩ : ∃ f', f = f' + 1 := ⟨f - 1, by omega⟩
    obtain ⟨g, rfl⟩ : ∃ g', g = g' + 1 := ⟨g - 1, by omega⟩
    obtain ⟨I1, I2, I3, I4, I5⟩ := id hI
    obtain ⟨x1, x2, x3⟩ := hi3 j (by omega)
    rw [b11_u (x := ids j) hκ (by rw [I2 0 (by omega) (by omega)]; exact hi1) (show j < c by omega) c50 (by rw [I2 (89 + 9 * q) (by omega) (by omega)]; exact h2) (by rw [I2 88 (by omega) (by omega)]; exact x2),
      b70_u (x := ids j) (by rw [I3 0 (by omega)]; exact hi2) (show j < c by omega) c50 (by rw [I3 16 (by omega)]; exact x3)]
    have hst : dsR Vk (W0 2) (dfC κ (nI (ids j)) V) (eX6_destroyOne (nI κ) (nI (ids j)) W) V W nb nm nt := by
      have hc : κ = 0 ∨ κ = 1 := by omega
      rcases hc with rfl | rfl
      · exact dsB I1 x1
      · exact dsM I1 x1
    rcases hst with ⟨code, c0, hF, hM⟩ | ⟨V1, W1, hF, hM, hd, hv, hw⟩
    · left
      obtain ⟨V2, b1, b2, b3, b4⟩ := bringAll_n hk I1.2.2.1
      refine ⟨code, V2, W, c0, ?_, ?_, b2, b3, fun k a b => by rw [b4 k a]; exact I2 k a b, I3⟩
      · rw [hF, Option.bind_some]
        dsimp only
        rw [if_neg c0, b1]
        rfl
      · rw [hM, Option.bind_some]
        dsimp only
        rw [if_neg c0]
    · rw [hF, hM, Option.bind_some, Option.bind_some]
      dsimp only
      rw [if_pos rfl, if_pos rfl]
      have hrow : clRow q 3 V1 allT ids j := by
        unfold clRow at I4 ⊢
        rw [hv _ (by omega), hv _ (by omega)]
        exact I4
      obtain ⟨V2, a1, a2, a3, a4⟩ := clRow_T hrow rfl (by omega) (by omega)
      have e88 : V1 88 j = nI (ids j) := by rw [hv 88 (by omega), I2 88 (by omega) (by omega)]; exact x2
      rw [e88, show eX4_add (91 + 9 * q) 3 (nI (ids j)) V1 = _ from a1, Option.bind_some]
      have hs : ∀ k, 4 ≤ k → k ≤ 75 → V2 k = V1 k := fun k a b => a3 k (by omega)
      obtain ⟨d1, d2, d3, d4, d5⟩ := hd
      refine ih f g (j + 1) V2 W1 (by omega) (by omega) (by omega) ⟨⟨WRel_stay d1 hs, d2, keptOf_stay d3 hs, TT_stay d4 hs, d5⟩, fun k a b => by rw [a3 k (by omega), hv k a]; exact I2 k a b, fun k a => by rw [hw k a]; exact I3 k a, a2, fun r hr hr2 => ?_⟩
      rw [a4 r hr2, hv _ (by omega)]
      exact I5 r hr hr2
theorem ds_loop2 {q c : Nat} {ids : Nat → Nat} {W1 : Mm} (hq : q < 12) (h21 : W1 0 21 = nI q) (h20 : W1 0 20 = nI c) (c50 : c ≤ 50) (h16 : ∀ i, i < c → ids i < 2147483648 ∧ W1 16 i = nI (ids i)) (hd : ∀ i j, i < j → j < c → ids i ≠ ids j) :
    ∀ d f j (W : Mm), j + d = c → d < f → mdRow q 3 W allT ids j → outM q W1 W → (∀ s, s < 4 → s ≠ 3 → W 9 (4 * q + s) = W1 9 (4 * q + s)) →
    ∃ W2 : Mm, eX6_doDestroy_b104 f (nI j) W = some (0, W2) ∧ mdRow q 3 W2 allT ids c ∧ outM q W1 W2 ∧ ∀ s, s < 4 → s ≠ 3 → W2 9 (4 * q + s) = W1 9 (4 * q + s) := by
  intro d
  induction d with
  | zero =>
    intro f j W hj hf h1 h2 h3
    obtain ⟨f, rfl⟩ : ∃ f', f = f' + 1 := ⟨f - 1, by omega⟩
    have : j = c := by omega
    subst this
    refine ⟨W, ?_, h1, h2, h3⟩
    rw [eX6_doDestroy_b104, h2.1 0 (by omega) (by omega), h20]
    simp (disch := omega) only [q0a, q0b, q0c, q0d, q0e, q0f, p0_l, p0_r, p0_s, q1a, q1b, q1c, q1d, q1e, q1f, p1_l, p1_r, p1_s, q2a, q2b, q2c, q2d, q2e, q2f, p2_l, p2_r, p2_s, q3a, q3b, q3c, q3d, q3e, q3f, p3_l, p3_r, p3_s, q4a, q4b, q4c, q4d, q4e, q4f, p4_l, p4_r, p4_s, p4_m, q5a, q5b, q5c, q5d, q5e, q5f, p5_l, p5_r, p5_s, p5_m, q6a, q6b, q6c, q6d, q6e, q6f, p6_l, p6_r, p6_s, q7a, q7b, q7c, q7d, q7e, q7f, p7_l, p7_r, p7_s, q8a, q8b, q8c, q8d, q8e, q8f, p8_l, p8_r, p8_s, q9a, q9b, q9c, q9d, q9e, q9f, p9_l, p9_r, p9_s, q10a, q10b, q10c, q10d, q10e, q10f, p10_l, p10_r, p10_s, p10_m, q11a, q11b, q11c, q11d, q11e, q11f, p11_l, p11_r, p11_s, q12a, q12b, q12c, q12d, q12e, q12f, p12_l, p12_r, p12_s, q15a, q15b, q15c, q15d, q15e, q15f, p15_l, p15_r, p15_s, q19a, q19b, q19c, q19d, q19e, q19f, p19_l, p19_r, p19_s, q20a, q20b, q20c, q20d, q20e, q20f, p20_l, p20_r, p20_s, q31a, q31b, q31c, q31d, q31e, q31f, p31_l, p31_r, p31_s, q40a, q40b, q40c, q40d, q40e, q40f, p40_l, p40_r, p40_s, q48a, q48b, q48c, q48d, q48e, q48f, p48_l, p48_r, p48_s, q50a, q50b, q50c, q50d, q50e, q50f, p50_l, p50_r, p50_s, p50_m, q52a, q52b, q52c, q52d, q52e, q52f, p52_l, p52_r, p52_s, q60a, q60b, q60c, q60d, q60e, q60f, p60_l, p60_r, p60_s, q63a, q63b, q63c, q63d, q63e, q63f, p63_l, p63_r, p63_s, q80a, q80b, q80c, q80d, q80e, q80f, p80_l, p80_r, p80_s, q99a, q99b, q99c, q99d, q99e, q99f, p99_l, p99_r, p99_s, q100a, q100b, q100c, q100d, q100e, q100f, p100_l, p100_r, p100_s, q120a, q120b, q120c, q120d, q120e, q120f, p120_l, p120_r, p120_s, q240a, q240b, q240c, q240d, q240e, q240f, p240_l, p240_r, p240_s, q243a, q243b, q243c, q243d, q243e, q243f, p243_l, p243_r, p243_s, q244a, q244b, q244c, q244d, q244e, q244f, p244_l, p244_r, p244_s, q580a, q580b, q580c, q580d, q580e, q580f, p580_l, p580_r, p580_s, q581a, q581b, q581c, q581d, q581e, q581f, p581_l, p581_r, p581_s, q582a, q582b, q582c, q582d, q582e, q582f, p582_l, p582_r, p582_s, q583a, q583b, q583c, q583d, q583e, q583f, p583_l, p583_r, p583_s, q584a, q584b, q584c, q584d, q584e, q584f, p584_l, p584_r, p584_s, q585a, q585b, q585c, q585d, q585e, q585f, p585_l, p585_r, p585_s, q586a, q586b, q586c, q586d, q586e, q586f, p586_l, p586_r, p586_s, q999a, q999b, q999c, q999d, q999e, q999f, p999_l, p999_r, p999_s, q1000a, q1000b, q1000c, q1000d, q1000e, q1000f, p1000_l, p1000_r, p1000_s, q2400a, q2400b, q2400c, q2400d, q2400e, q2400f, p2400_l, p2400_r, p2400_s, q9999a, q9999b, q9999c, q9999d, q9999e, q9999f, p9999_l, p9999_r, p9999_s, I00, I01, I10, I11, n_le, n_lt, n_eq, n_cl, n_add, n_ne9, n_ne1, if_true, if_false, Option.bind_some, if_pos, if_neg]
  | succ d ih =>
    intro f j W hj hf h1 h2' h3
    obtain ⟨f, rfl⟩ : ∃ f', f = f' + 1 := ⟨f - 1, by omega⟩
    have e16 : W 16 j = nI (ids j) := by rw [h2'.1 16 (by omega) (by omega)]; exact (h16 j (by omega)).2
    have e20 : W 0 20 = nI c := by rw [h2'.1 0 (by omega) (by omega)]; exact h20
    have e21 : W 0 21 = nI q := by rw [h2'.1 0 (by omega) (by omega)]; exact h21
    rw [eX6_doDestroy_b104, e20]
    obtain ⟨a1, W2, a2, a3, a4, a5⟩ := mdRow_T h1 hq (show allT j = true from rfl) (r := 3) (by omega) (by omega) (fun i hi => (h16 i (by omega)).1) (fun i hi => hd i j hi (by omega))
    obtain ⟨W3, b1, b2, b3, b4⟩ := ih f (j + 1) W2 (by omega) (by omega) a3 (outM_tr h2' a4) (fun s hs hs2 => by rw [a5 s hs hs2]; exact h3 s hs hs2)
    refine ⟨W3, ?_, b2, b3, b4⟩
    simp (disch := omega) only [q0a, q0b, q0c, q0d, q0e, q0f, p0_l, p0_r, p0_s, q1a, q1b, q1c, q1d, q1e, q1f, p1_l, p1_r, p1_s, q2a, q2b, q2c, q2d, q2e, q2f, p2_l, p2_r, p2_s, q3a, q3b, q3c, q3d, q3e, q3f, p3_l, p3_r, p3_s, q4a, q4b, q4c, q4d, q4e, q4f, p4_l, p4_r, p4_s, p4_m, q5a, q5b, q5c, q5d, q5e, q5f, p5_l, p5_r, p5_s, p5_m, q6a, q6b, q6c, q6d, q6e, q6f, p6_l, p6_r, p6_s, q7a, q7b, q7c, q7d, q7e, q7f, p7_l, p7_r, p7_s, q8a, q8b, q8c, q8d, q8e, q8f, p8_l, p8_r, p8_s, q9a, q9b, q9c, q9d, q9e, q9f, p9_l, p9_r, p9_s, q10a, q10b, q10c, q10d, q10e, q10f, p10_l, p10_r, p10_s, p10_m, q11a, q11b, q11c, q11d, q11e, q11f, p11_l, p11_r, p11_s, q12a, q12b, q12c, q12d, q12e, q12f, p12_l, p12_r, p12_s, q15a, q15b, q15c, q15d, q15e, q15f, p15_l, p15_r, p15_s, q19a, q19b, q19c, q19d, q19e, q19f, p19_l, p19_r, p19_s, q20a, q20b, q20c, q20d, q20e, q20f, p20_l, p20_r, p20_s, q31a, q31b, q31c, q31d, q31e, q31f, p31_l, p31_r, p31_s, q40a, q40b, q40c, q40d, q40e, q40f, p40_l, p40_r, p40_s, q48a, q48b, q48c, q48d, q48e, q48f, p48_l, p48_r, p48_s, q50a, q50b, q50c, q50d, q50e, q50f, p50_l, p50_r, p50_s, p50_m, q52a, q52b, q52c, q52d, q52e, q52f, p52_l, p52_r, p52_s, q60a, q60b, q60c, q60d, q60e, q60f, p60_l, p60_r, p60_s, q63a, q63b, q63c, q63d, q63e, q63f, p63_l, p63_r, p63_s, q80a, q80b, q80c, q80d, q80e, q80f, p80_l, p80_r, p80_s, q99a, q99b, q99c, q99d, q99e, q99f, p99_l, p99_r, p99_s, q100a, q100b, q100c, q100d, q100e, q100f, p100_l, p100_r, p100_s, q120a, q120b, q120c, q120d, q120e, q120f, p120_l, p120_r, p120_s, q240a, q240b, q240c, q240d, q240e, q240f, p240_l, p240_r, p240_s, q243a, q243b, q243c, q243d, q243e, q243f, p243_l, p243_r, p243_s, q244a, q244b, q244c, q244d, q244e, q244f, p244_l, p244_r, p244_s, q580a, q580b, q580c, q580d, q580e, q580f, p580_l, p580_r, p580_s, q581a, q581b, q581c, q581d, q581e, q581f, p581_l, p581_r, p581_s, q582a, q582b, q582c, q582d, q582e, q582f, p582_l, p582_r, p582_s, q583a, q583b, q583c, q583d, q583e, q583f, p583_l, p583_r, p583_s, q584a, q584b, q584c, q584d, q584e, q584f, p584_l, p584_r, p584_s, q585a, q585b, q585c, q585d, q585e, q585f, p585_l, p585_r, p585_s, q586a, q586b, q586c, q586d, q586e, q586f, p586_l, p586_r, p586_s, q999a, q999b, q999c, q999d, q999e, q999f, p999_l, p999_r, p999_s, q1000a, q1000b, q1000c, q1000d, q1000e, q1000f, p1000_l, p1000_r, p1000_s, q2400a, q2400b, q2400c, q2400d, q2400e, q2400f, p2400_l, p2400_r, p2400_s, q9999a, q9999b, q9999c, q9999d, q9999e, q9999f, p9999_l, p9999_r, p9999_s, I00, I01, I10, I11, n_le, n_lt, n_eq, n_cl, n_add, n_ne9, n_ne1, if_true, if_false, Option.bind_some, if_pos, if_neg, e16, e21, show eX6_give (nI q) 3 (nI (ids j)) W = _ from a2]
    exact b1
theorem act_ds {q : Nat} {Vc : Mm} (h1 : Vc (89 + 9 * q) 1 = 5) : eX5_act (89 + 9 * q) (91 + 9 * q) Vc = eX5_destroyIds (89 + 9 * q) (91 + 9 * q) Vc := by
  unfold eX5_act
  rw [h1, if_neg (by decide), if_neg (by decide), if_neg (by decide), if_neg (by decide), if_neg (by decide), some_pr]
theorem do_ds {q : Nat} {Vm : Mm} (hq : q < 12) (h21 : Vm 0 21 = nI q) (ht : Vm 5 q = 5) : eX6_doCall Vm = eX6_doDestroy Vm := by
  unfold eX6_doCall
  rw [h21]
  simp (disch := omega) only [q0a, q0b, q0c, q0d, q0e, q0f, p0_l, p0_r, p0_s, q1a, q1b, q1c, q1d, q1e, q1f, p1_l, p1_r, p1_s, q2a, q2b, q2c, q2d, q2e, q2f, p2_l, p2_r, p2_s, q3a, q3b, q3c, q3d, q3e, q3f, p3_l, p3_r, p3_s, q4a, q4b, q4c, q4d, q4e, q4f, p4_l, p4_r, p4_s, p4_m, q5a, q5b, q5c, q5d, q5e, q5f, p5_l, p5_r, p5_s, p5_m, q6a, q6b, q6c, q6d, q6e, q6f, p6_l, p6_r, p6_s, q7a, q7b, q7c, q7d, q7e, q7f, p7_l, p7_r, p7_s, q8a, q8b, q8c, q8d, q8e, q8f, p8_l, p8_r, p8_s, q9a, q9b, q9c, q9d, q9e, q9f, p9_l, p9_r, p9_s, q10a, q10b, q10c, q10d, q10e, q10f, p10_l, p10_r, p10_s, p10_m, q11a, q11b, q11c, q11d, q11e, q11f, p11_l, p11_r, p11_s, q12a, q12b, q12c, q12d, q12e, q12f, p12_l, p12_r, p12_s, q15a, q15b, q15c, q15d, q15e, q15f, p15_l, p15_r, p15_s, q19a, q19b, q19c, q19d, q19e, q19f, p19_l, p19_r, p19_s, q20a, q20b, q20c, q20d, q20e, q20f, p20_l, p20_r, p20_s, q31a, q31b, q31c, q31d, q31e, q31f, p31_l, p31_r, p31_s, q40a, q40b, q40c, q40d, q40e, q40f, p40_l, p40_r, p40_s, q48a, q48b, q48c, q48d, q48e, q48f, p48_l, p48_r, p48_s, q50a, q50b, q50c, q50d, q50e, q50f, p50_l, p50_r, p50_s, p50_m, q52a, q52b, q52c, q52d, q52e, q52f, p52_l, p52_r, p52_s, q60a, q60b, q60c, q60d, q60e, q60f, p60_l, p60_r, p60_s, q63a, q63b, q63c, q63d, q63e, q63f, p63_l, p63_r, p63_s, q80a, q80b, q80c, q80d, q80e, q80f, p80_l, p80_r, p80_s, q99a, q99b, q99c, q99d, q99e, q99f, p99_l, p99_r, p99_s, q100a, q100b, q100c, q100d, q100e, q100f, p100_l, p100_r, p100_s, q120a, q120b, q120c, q120d, q120e, q120f, p120_l, p120_r, p120_s, q240a, q240b, q240c, q240d, q240e, q240f, p240_l, p240_r, p240_s, q243a, q243b, q243c, q243d, q243e, q243f, p243_l, p243_r, p243_s, q244a, q244b, q244c, q244d, q244e, q244f, p244_l, p244_r, p244_s, q580a, q580b, q580c, q580d, q580e, q580f, p580_l, p580_r, p580_s, q581a, q581b, q581c, q581d, q581e, q581f, p581_l, p581_r, p581_s, q582a, q582b, q582c, q582d, q582e, q582f, p582_l, p582_r, p582_s, q583a, q583b, q583c, q583d, q583e, q583f, p583_l, p583_r, p583_s, q584a, q584b, q584c, q584d, q584e, q584f, p584_l, p584_r, p584_s, q585a, q585b, q585c, q585d, q585e, q585f, p585_l, p585_r, p585_s, q586a, q586b, q586c, q586d, q586e, q586f, p586_l, p586_r, p586_s, q999a, q999b, q999c, q999d, q999e, q999f, p999_l, p999_r, p999_s, q1000a, q1000b, q1000c, q1000d, q1000e, q1000f, p1000_l, p1000_r, p1000_s, q2400a, q2400b, q2400c, q2400d, q2400e, q2400f, p2400_l, p2400_r, p2400_s, q9999a, q9999b, q9999c, q9999d, q9999e, q9999f, p9999_l, p9999_r, p9999_s, I00, I01, I10, I11, n_le, n_lt, n_eq, n_cl, n_add, n_ne9, n_ne1, if_true, if_false, Option.bind_some, if_pos, if_neg, ht]
  exact some_pr
theorem ds_check {q : Nat} {Vc Vm : Mm} (h : Ahead q Vc Vm) (hc : callRel Vc Vm q) (ht : Vm 5 q = 5) :
    (∃ r : Int32, r ≠ 0 ∧ eX5_refusalOf (89 + 9 * q) (nI q) Vc = some r ∧ eX6_doDestroy Vm = some (r, Vm)) ∨
    (eX5_refusalOf (89 + 9 * q) (nI q) Vc = some 0 ∧ Named q Vc Vm (Vc (89 + 9 * q) 3) (Vc (89 + 9 * q) 4) ∧ ∃ κ, κ < 2 ∧ Vc (89 + 9 * q) 2 = nI κ ∧ eX6_doDestroy Vm = (eX6_takeIds (Vc (89 + 9 * q) 3) (Vc (89 + 9 * q) 4) Vm).bind fun r24 => eX6_doDestroy_b70 fu (nI κ) 0 r24) := by
  obtain ⟨g1, g2, g3⟩ := id h
  obtain ⟨t, t6, tc, tm, c0, -⟩ := hc
  have t5 : t = 5 := by
    rw [ht] at tm
    exact ((nI_eq (a := 5) (b := t) (by omega) (by omega)).mp tm).symm
  subst t5
  obtain ⟨f2, f3, f4⟩ := c0 (Or.inr (Or.inr rfl))
  have n0 : eX6_number 0 Vm = some (Vc (89 + 9 * q) 2) := by rw [f2]; exact num_n (k := 0) g1 g2 (by omega)
  have n1 : eX6_number 1 Vm = some (Vc (89 + 9 * q) 3) := by rw [f3]; exact num_n (k := 1) g1 g2 (by omega)
  have n2 : eX6_number 2 Vm = some (Vc (89 + 9 * q) 4) := by rw [f4]; exact num_n (k := 2) g1 g2 (by omega)
  have tc5 : Vc (89 + 9 * q) 1 = 5 := tc
  have hat : eX5_isAsTold (89 + 9 * q) Vc = (eX5_isWithin (Vc (89 + 9 * q) 2) 0 1 Vc).bind fun r1 => if r1 = 0 then some 0 else (eX5_areIdsAsTold (89 + 9 * q) Vc).bind fun r4 => if r4 = 0 then some 0 else some 1 := by
    unfold eX5_isAsTold
    rw [tc5, if_neg (by decide), if_neg (by decide), if_neg (by decide), if_neg (by decide), if_neg (by decide)]
  have ob : eX5_oneBeside (89 + 9 * q) Vc = some 0 := by
    unfold eX5_oneBeside
    rw [tc5, if_neg (by decide), if_neg (by decide)]
  unfold eX5_refusalOf eX6_doDestroy
  rw [hat]
  simp only [n0, n1, n2, Option.bind_some]
  rw [within_x _ _ _ Vc Vm]
  rcases within_c (Vc (89 + 9 * q) 2) 0 1 Vm with ⟨w, -⟩ | ⟨w, w2, w3⟩
  · left
    exact ⟨-2, by decide, by rw [w]; rfl, by rw [w]; rfl⟩
  · obtain ⟨κ, hκ, eκ⟩ := btw (k := 1) (by omega) w2 w3
    rcases ids_check h (89 + 9 * q) with ⟨i1, i2⟩ | ⟨i1, i2, ⟨i3, i4⟩ | ⟨i3, i4, i5⟩⟩
    · left
      exact ⟨-2, by decide, by rw [w, i1]; rfl, by rw [w, i2]; rfl⟩
    · left
      refine ⟨-5, by decide, ?_, ?_⟩
      · rw [w, i1, dnh, i3]; rfl
      · rw [w, i2, i4]; rfl
    · right
      refine ⟨?_, i5, κ, by omega, eκ, ?_⟩
      · rw [w, i1, dnh, i3, ob]
        simp only [Option.bind_some, hold0, I10, I11, I00, false_or, true_or, or_true, if_true, if_false]
      · rw [w, i2, i4]
        simp only [Option.bind_some, I10, if_false]
        rw [eκ]
theorem destroy_call {q nb nm nt : Nat} {Vc Vm : Mm} (h : CS q Vc Vm nb nm nt) (ht : Vm 5 q = 5) : loud q Vc Vm nb nm nt := by
  obtain ⟨hA, hC, hW, hF, hfil, hlog, hinv, hcl, hrow, h2⟩ := id h
  obtain ⟨g1, g2, g3⟩ := id hA
  have hwn := WRel_WN hW
  have b20 := hwn.b20
  have b50 := hwn.m50
  have hrow0 := rowsIn_0 hrow
  have hty : Vc (89 + 9 * q) 1 = 5 := type_n (t := 5) hC ht (by omega)
  have hwn2 : WN (Vm 2) nb nm nt := ⟨hwn.b20, hwn.m50, hwn.tm, by rw [h2 580 (by omega)]; exact hwn.eb, by rw [h2 581 (by omega)]; exact hwn.em, by rw [h2 582 (by omega)]; exact hwn.et⟩
  unfold loud
  rw [do_ds g1 g2 ht]
  rcases ds_check hA hC ht with ⟨r, r0, r1, r2⟩ | ⟨r1, hN, κ, hκ, eκ, hmm⟩
  · exact ⟨r, Vc, Vm, callC_r r1 r0, r2, frC_rfl, frM_rfl, Or.inr ⟨r0, hW, hcl⟩⟩
  · obtain ⟨c, ids, V1, W1, t1, t2, t3, t4, t5⟩ := take_n hA (a1 := 89 + 9 * q) ⟨by omega, by omega⟩ hN
    have hfield : ∀ k, V1 (89 + 9 * q) k = Vc (89 + 9 * q) k := fun k => by rw [t4.1 (89 + 9 * q) (by omega) (by omega)]
    obtain ⟨V2, k1, k2, k3, k4, k5, k6⟩ := keepAll_n (V0 := V1)
    rw [callC_0 r1, act_ds hty, hmm, t2, Option.bind_some]
    have hcls : eX5_destroyIds (89 + 9 * q) (91 + 9 * q) Vc = eX5_destroyIds_b11 fu (89 + 9 * q) (91 + 9 * q) 0 V2 := by
      unfold eX5_destroyIds
      rw [t1, Option.bind_some, k1, Option.bind_some]
    rw [hcls]
    have hW11 : W1 1 = Vm 1 := t5.1 1 (by omega) (by omega)
    have hW12 : W1 2 = Vm 2 := t5.1 2 (by omega) (by omega)
    have hWk : WRel V1 (Vm 1) nb nm nt := WRel_stay hW (fun k a b => t4.1 k (by omega) (by omega))
    have hV2 : WRel V2 (Vm 1) nb nm nt := WRel_pt hWk (fun κ' hκ' => ⟨k4 κ' 3 hκ' (by omega), k4 κ' 4 hκ' (by omega), k4 κ' 6 hκ' (by omega)⟩) (fun κ' x i hκ' hx _ => by rw [k5 κ' x hκ' hx])
    have hids2 : idsRel V2 W1 c ids := by
      obtain ⟨a, b, d, e, f⟩ := t3
      exact ⟨a, by rw [k3 0 (by omega)]; exact b, d, fun i hi => ⟨(e i hi).1, by rw [k3 88 (by omega)]; exact (e i hi).2.1, (e i hi).2.2⟩, f⟩
    have hTT : TT V2 (whatK (W1 2) (W1 1) nb nm nt nb nm nt) := by
      have z := TT_clean hcl
      refine TT_congr (τ := fun _ _ => 0) ?_ (fun κ' i hκ' hi => by rw [hW11, hW12, whatK_c0 (v0 := Vm 1) h2 hwn2 hwn hκ', whatK_self])
      intro κ' hκ'
      have := oK_b hκ'
      have h23 : oK κ' + 23 < 88 := by unfold oK; omega
      rw [k6 κ' hκ', k4 κ' 7 hκ' (by omega), t4.1 (oK κ' + 23) (by omega) (by omega), t4.1 (oK κ') (by omega) (by omega)]
      exact z κ' hκ'
    have hdI : dsI q V1 V2 W1 V2 W1 nb nm nt ids 0 := by
      refine ⟨⟨by rw [hW11]; exact hV2, by rw [hW11]; exact hF, k2, hTT, fun κ' i hκ' z => ?_, fun m hm => ?_, fun κ' hκ' => ?_⟩, fun _ _ _ => rfl, fun _ _ => rfl, ⟨?_, fun l hl => absurd hl (by omega)⟩, fun r hr _ => ?_⟩
      · rw [hW11] at z
        show isThb _ _ _ _ _ _ = true
        rw [hW12, isThb_c0 h2 hwn2 hκ']; exact z
      · rw [hW11, hW12]; exact (h2 _ (by omega)).symm
      · rw [hW11, hW12]; exact (h2 _ (by omega)).symm
      · rw [k3 _ (by omega), t4.1 _ (by omega) (by omega)]; exact (hrow0 3 (by omega)).1
      · rw [k3 _ (by omega), t4.1 _ (by omega) (by omega)]; exact (hrow0 r hr).1
    have hfr2 : frC q Vc V2 := frC_tr (own_frC t4) ⟨fun k _ b _ _ _ => k3 k b, fun x _ => by rw [k3 0 (by omega)]⟩
    rcases ds_loop hκ hids2 hWk (by rw [k3 _ (by omega), hfield 2]; exact eκ) c fu fu 0 V2 W1 (by omega) (by have := t3.1; unfold fu; omega) (by have := t3.1; unfold fu; omega) hdI with ⟨code, V', W', c0, e1, e2, e3, e4, e5, e6⟩ | ⟨V', W', e1, e2, e3⟩
    · refine ⟨code, V', W', e1, e2, frC_tr hfr2 ⟨fun k _ b _ _ e => e5 k b e, fun x _ => by rw [e5 0 (by omega) (by omega)]⟩, frM_tr (own_frM t5) ⟨fun k _ b _ _ _ _ _ => e6 k b, fun x _ => by rw [e6 0 (by omega)], fun i _ => by rw [e6 9 (by omega)], fun i _ => by rw [e6 10 (by omega)]⟩, Or.inr ⟨c0, e3, e4⟩⟩
    · obtain ⟨⟨I1, I2, I3, I4, I5, I6, I7⟩, I8, I9, I10, I11⟩ := id e3
      have hm0 : ∀ r, r < 4 → W' 9 (4 * q + r) = 0 := fun r hr => by rw [I9 9 (by omega), t5.1 9 (by omega) (by omega)]; exact (hrow0 r hr).2
      obtain ⟨W2, l1, l2, l3, l4⟩ := ds_loop2 (W1 := W') (c := c) (ids := ids) g1 (by rw [I9 0 (by omega), t5.2 21 (by omega)]; exact g2) (by rw [I9 0 (by omega)]; exact hids2.2.2.1) t3.1 (fun i hi => ⟨(hids2.2.2.2.1 i hi).1, by rw [I9 16 (by omega)]; exact (hids2.2.2.2.1 i hi).2.2⟩) hids2.2.2.2.2
        c fu 0 W' (by omega) (by have := t3.1; unfold fu; omega) ⟨hm0 3 (by omega), fun l hl => absurd hl (by omega)⟩ outM_rfl (fun _ _ _ => rfl)
      have eW : W2 1 = W' 1 := l3.1 1 (by omega) (by omega)
      refine ⟨0, V', W2, e1, by rw [show eX6_doDestroy_b70 fu (nI κ) 0 W1 = _ from e2]; exact l1, frC_tr hfr2 ⟨fun k _ b _ _ e => I8 k b e, fun x _ => by rw [I8 0 (by omega) (by omega)]⟩, frM_tr (frM_tr (own_frM t5) ⟨fun k _ b _ _ _ _ _ => I9 k b, fun x _ => by rw [I9 0 (by omega)], fun i _ => by rw [I9 9 (by omega)], fun i _ => by rw [I9 10 (by omega)]⟩) (out_frM l3), Or.inl ⟨rfl, fun r hr => ?_, nb, nm, nt, by rw [eW]; exact I1, by rw [eW]; exact I2, ⟨Nat.le_refl _, Nat.le_refl _, Nat.le_refl _, fun κ' i hκ' _ hth => ?_, fun κ' hκ' => by rw [eW, I7 κ' hκ', hW12]; exact h2 _ (by omega)⟩, ?_⟩⟩
      · by_cases er : r = 3
        · subst er
          exact rowFin I10 l2 t3.1 (fun i hi => (hids2.2.2.2.1 i hi).1) hids2.2.2.2.2
        · exact row0 (I11 r hr er) (by rw [l4 r hr er]; exact hm0 r hr)
      · rw [eW] at hth
        have z := I5 κ' i hκ' hth
        show isThb _ _ _ _ _ _ = true
        rw [← isThb_c0 h2 hwn2 hκ', ← hW12]
        exact z
      · rw [eW]
        exact TT_congr I4 (fun κ' i hκ' hi => by rw [hW12, whatK_c0 (v0 := Vm 1) h2 hwn2 (WRel_WN I1) hκ'])
theorem any_call {q nb nm nt : Nat} {Vc Vm : Mm} (h : CS q Vc Vm nb nm nt) : loud q Vc Vm nb nm nt := by
  obtain ⟨t, t6, tc, tm, -⟩ := h.2.1
  have hc : t = 0 ∨ t = 1 ∨ t = 2 ∨ t = 3 ∨ t = 4 ∨ t = 5 := by omega
  rcases hc with rfl | rfl | rfl | rfl | rfl | rfl
  · exact quiet_loud h (get_call h tm)
  · exact quiet_loud h (query_call h tm)
  · exact quiet_loud h (changes_call h tm)
  · exact make_call h tm
  · exact change_call h tm
  · exact destroy_call h tm
