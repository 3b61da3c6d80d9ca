
/-! DESTROY: one box, one mail -/
def dI (Vk : Mm) (w0 : Nat → Int32) (nb nm nt : Nat) (V W : Mm) : Prop := WRel V (W 1) nb nm nt ∧ WF (W 1) nb nm nt ∧ keptOf Vk V ∧ TT V (whatK w0 (W 1) nb nm nt nb nm nt) ∧ (∀ κ i, κ < 3 → isTh (W 1) nb nm nt κ i → isTh w0 nb nm nt κ i) ∧ (∀ m, m < nm → W 1 (80 + 10 * m + 8) = w0 (80 + 10 * m + 8)) ∧ (∀ κ, κ < 3 → W 1 (583 + κ) = w0 (583 + κ))
theorem cnt_rm {p r : Nat → Bool} {x : Nat} (hp : p x = true) (hr : r x = false) (h : ∀ i, i ≠ x → p i = r i) : ∀ n, x < n → cnt p n = cnt r n + 1 := by
  intro n
  induction n with
  | zero => intro hx; omega
  | succ n ih =>
    intro hx
    by_cases e : x = n
    · subst e
      have : cnt p x = cnt r x := cnt_congr (fun i hi => h i (by omega))
      rw [cntN_T hp, cntN_F hr, this]
    · have e1 := ih (by omega)
      unfold cnt at e1 ⊢
      rw [cnt_succ, cnt_succ, e1, h n (fun z => e z.symm)]
      omega
theorem kids_b {V : Mm} {nb nm nt x : Nat} (hw : WN (V 1) nb nm nt) (hx : x < 20) :
    ∀ d f j, j + d = nb → d < f → (∀ y, y < j → kidB (V 1) x y = false) → (0 < cnt (kidB (V 1) x) nb → eX6_destroyOne_b37 f (nI x) (nI j) V = some (-3, V)) ∧ (¬ 0 < cnt (kidB (V 1) x) nb → eX6_destroyOne_b37 f (nI x) (nI j) V = eX6_destroyOne_b86 fu (nI x) 0 V) := by
  have h20 := hw.b20
  intro d
  induction d with
  | zero =>
    intro f j hj hf hn
    obtain ⟨f, rfl⟩ : ∃ f', f = f' + 1 := ⟨f - 1, by omega⟩
    have : j = nb := by omega
    subst this
    constructor
    · intro z
      obtain ⟨l, l1, l2, -⟩ := cnt_surj j 0 z
      rw [hn l l1] at l2; cases l2
    · intro _
      rw [eX6_destroyOne_b37, hw.eb]
      simp (disch := omega) only [q0a, q0b, q0c, q0d, q0e, q0f, p0_l, p0_r, p0_s, q1a, q1b, q1c, q1d, q1e, q1f, p1_l, p1_r, p1_s, q2a, q2b, q2c, q2d, q2e, q2f, p2_l, p2_r, p2_s, q3a, q3b, q3c, q3d, q3e, q3f, p3_l, p3_r, p3_s, q4a, q4b, q4c, q4d, q4e, q4f, p4_l, p4_r, p4_s, p4_m, q5a, q5b, q5c, q5d, q5e, q5f, p5_l, p5_r, p5_s, p5_m, q6a, q6b, q6c, q6d, q6e, q6f, p6_l, p6_r, p6_s, q7a, q7b, q7c, q7d, q7e, q7f, p7_l, p7_r, p7_s, q8a, q8b, q8c, q8d, q8e, q8f, p8_l, p8_r, p8_s, q9a, q9b, q9c, q9d, q9e, q9f, p9_l, p9_r, p9_s, q10a, q10b, q10c, q10d, q10e, q10f, p10_l, p10_r, p10_s, p10_m, q11a, q11b, q11c, q11d, q11e, q11f, p11_l, p11_r, p11_s, q12a, q12b, q12c, q12d, q12e, q12f, p12_l, p12_r, p12_s, q15a, q15b, q15c, q15d, q15e, q15f, p15_l, p15_r, p15_s, q19a, q19b, q19c, q19d, q19e, q19f, p19_l, p19_r, p19_s, q20a, q20b, q20c, q20d, q20e, q20f, p20_l, p20_r, p20_s, q31a, q31b, q31c, q31d, q31e, q31f, p31_l, p31_r, p31_s, q40a, q40b, q40c, q40d, q40e, q40f, p40_l, p40_r, p40_s, q48a, q48b, q48c, q48d, q48e, q48f, p48_l, p48_r, p48_s, q50a, q50b, q50c, q50d, q50e, q50f, p50_l, p50_r, p50_s, p50_m, q52a, q52b, q52c, q52d, q52e, q52f, p52_l, p52_r, p52_s, q60a, q60b, q60c, q60d, q60e, q60f, p60_l, p60_r, p60_s, q63a, q63b, q63c, q63d, q63e, q63f, p63_l, p63_r, p63_s, q80a, q80b, q80c, q80d, q80e, q80f, p80_l, p80_r, p80_s, q99a, q99b, q99c, q99d, q99e, q99f, p99_l, p99_r, p99_s, q100a, q100b, q100c, q100d, q100e, q100f, p100_l, p100_r, p100_s, q120a, q120b, q120c, q120d, q120e, q120f, p120_l, p120_r, p120_s, q240a, q240b, q240c, q240d, q240e, q240f, p240_l, p240_r, p240_s, q243a, q243b, q243c, q243d, q243e, q243f, p243_l, p243_r, p243_s, q244a, q244b, q244c, q244d, q244e, q244f, p244_l, p244_r, p244_s, q580a, q580b, q580c, q580d, q580e, q580f, p580_l, p580_r, p580_s, q581a, q581b, q581c, q581d, q581e, q581f, p581_l, p581_r, p581_s, q582a, q582b, q582c, q582d, q582e, q582f, p582_l, p582_r, p582_s, q583a, q583b, q583c, q583d, q583e, q583f, p583_l, p583_r, p583_s, q584a, q584b, q584c, q584d, q584e, q584f, p584_l, p584_r, p584_s, q585a, q585b, q585c, q585d, q585e, q585f, p585_l, p585_r, p585_s, q586a, q586b, q586c, q586d, q586e, q586f, p586_l, p586_r, p586_s, q999a, q999b, q999c, q999d, q999e, q999f, p999_l, p999_r, p999_s, q1000a, q1000b, q1000c, q1000d, q1000e, q1000f, p1000_l, p1000_r, p1000_s, q2400a, q2400b, q2400c, q2400d, q2400e, q2400f, p2400_l, p2400_r, p2400_s, q9999a, q9999b, q9999c, q9999d, q9999e, q9999f, p9999_l, p9999_r, p9999_s, I00, I01, I10, I11, n_le, n_lt, n_eq, n_cl, n_add, n_ne9, n_ne1, if_true, if_false, Option.bind_some, if_pos, if_neg]
  | succ d ih =>
    intro f j hj hf hn
    obtain ⟨f, rfl⟩ : ∃ f', f = f' + 1 := ⟨f - 1, by omega⟩
    have p2 : eX6_boxPart 1 (nI j) 2 V = some (V 1 (4 * j + 2)) := boxPart_n (c := 2) (by omega) (by omega)
    rw [eX6_destroyOne_b37, hw.eb]
    by_cases h1 : V 1 (4 * j) = 1
    · simp (disch := omega) only [q0a, q0b, q0c, q0d, q0e, q0f, p0_l, p0_r, p0_s, q1a, q1b, q1c, q1d, q1e, q1f, p1_l, p1_r, p1_s, q2a, q2b, q2c, q2d, q2e, q2f, p2_l, p2_r, p2_s, q3a, q3b, q3c, q3d, q3e, q3f, p3_l, p3_r, p3_s, q4a, q4b, q4c, q4d, q4e, q4f, p4_l, p4_r, p4_s, p4_m, q5a, q5b, q5c, q5d, q5e, q5f, p5_l, p5_r, p5_s, p5_m, q6a, q6b, q6c, q6d, q6e, q6f, p6_l, p6_r, p6_s, q7a, q7b, q7c, q7d, q7e, q7f, p7_l, p7_r, p7_s, q8a, q8b, q8c, q8d, q8e, q8f, p8_l, p8_r, p8_s, q9a, q9b, q9c, q9d, q9e, q9f, p9_l, p9_r, p9_s, q10a, q10b, q10c, q10d, q10e, q10f, p10_l, p10_r, p10_s, p10_m, q11a, q11b, q11c, q11d, q11e, q11f, p11_l, p11_r, p11_s, q12a, q12b, q12c, q12d, q12e, q12f, p12_l, p12_r, p12_s, q15a, q15b, q15c, q15d, q15e, q15f, p15_l, p15_r, p15_s, q19a, q19b, q19c, q19d, q19e, q19f, p19_l, p19_r, p19_s, q20a, q20b, q20c, q20d, q20e, q20f, p20_l, p20_r, p20_s, q31a, q31b, q31c, q31d, q31e, q31f, p31_l, p31_r, p31_s, q40a, q40b, q40c, q40d, q40e, q40f, p40_l, p40_r, p40_s, q48a, q48b, q48c, q48d, q48e, q48f, p48_l, p48_r, p48_s, q50a, q50b, q50c, q50d, q50e, q50f, p50_l, p50_r, p50_s, p50_m, q52a, q52b, q52c, q52d, q52e, q52f, p52_l, p52_r, p52_s, q60a, q60b, q60c, q60d, q60e, q60f, p60_l, p60_r, p60_s, q63a, q63b, q63c, q63d, q63e, q63f, p63_l, p63_r, p63_s, q80a, q80b, q80c, q80d, q80e, q80f, p80_l, p80_r, p80_s, q99a, q99b, q99c, q99d, q99e, q99f, p99_l, p99_r, p99_s, q100a, q100b, q100c, q100d, q100e, q100f, p100_l, p100_r, p100_s, q120a, q120b, q120c, q120d, q120e, q120f, p120_l, p120_r, p120_s, q240a, q240b, q240c, q240d, q240e, q240f, p240_l, p240_r, p240_s, q243a, q243b, q243c, q243d, q243e, q243f, p243_l, p243_r, p243_s, q244a, q244b, q244c, q244d, q244e, q244f, p244_l, p244_r, p244_s, q580a, q580b, q580c, q580d, q580e, q580f, p580_l, p580_r, p580_s, q581a, q581b, q581c, q581d, q581e, q581f, p581_l, p581_r, p581_s, q582a, q582b, q582c, q582d, q582e, q582f, p582_l, p582_r, p582_s, q583a, q583b, q583c, q583d, q583e, q583f, p583_l, p583_r, p583_s, q584a, q584b, q584c, q584d, q584e, q584f, p584_l, p584_r, p584_s, q585a, q585b, q585c, q585d, q585e, q585f, p585_l, p585_r, p585_s, q586a, q586b, q586c, q586d, q586e, q586f, p586_l, p586_r, p586_s, q999a, q999b, q999c, q999d, q999e, q999f, p999_l, p999_r, p999_s, q1000a, q1000b, q1000c, q1000d, q1000e, q1000f, p1000_l, p1000_r, p1000_s, q2400a, q2400b, q2400c, q2400d, q2400e, q2400f, p2400_l, p2400_r, p2400_s, q9999a, q9999b, q9999c, q9999d, q9999e, q9999f, p9999_l, p9999_r, p9999_s, I00, I01, I10, I11, n_le, n_lt, n_eq, n_cl, n_add, n_ne9, n_ne1, if_true, if_false, Option.bind_some, if_pos, if_neg, mBox_n hw, b2i_T (show j < nb ∧ V 1 (4 * j) = 1 from ⟨by omega, h1⟩), p2]
      by_cases h2 : V 1 (4 * j + 2) = nI x
      · rw [if_pos h2]
        have hk : kidB (V 1) x j = true := decide_eq_true ⟨h1, h2⟩
        exact ⟨fun _ => rfl, fun z => absurd (Nat.lt_of_le_of_lt (Nat.zero_le _) (cntN_mono (show j < nb by omega) hk)) z⟩
      · rw [if_neg h2]
        exact ih f (j + 1) (by omega) (by omega) (fun y hy => by
          by_cases e : y = j
          · subst e; exact decide_eq_false (fun z => h2 z.2)
          · exact hn y (by omega))
    · simp (disch := omega) only [q0a, q0b, q0c, q0d, q0e, q0f, p0_l, p0_r, p0_s, q1a, q1b, q1c, q1d, q1e, q1f, p1_l, p1_r, p1_s, q2a, q2b, q2c, q2d, q2e, q2f, p2_l, p2_r, p2_s, q3a, q3b, q3c, q3d, q3e, q3f, p3_l, p3_r, p3_s, q4a, q4b, q4c, q4d, q4e, q4f, p4_l, p4_r, p4_s, p4_m, q5a, q5b, q5c, q5d, q5e, q5f, p5_l, p5_r, p5_s, p5_m, q6a, q6b, q6c, q6d, q6e, q6f, p6_l, p6_r, p6_s, q7a, q7b, q7c, q7d, q7e, q7f, p7_l, p7_r, p7_s, q8a, q8b, q8c, q8d, q8e, q8f, p8_l, p8_r, p8_s, q9a, q9b, q9c, q9d, q9e, q9f, p9_l, p9_r, p9_s, q10a, q10b, q10c, q10d, q10e, q10f, p10_l, p10_r, p10_s, p10_m, q11a, q11b, q11c, q11d, q11e, q11f, p11_l, p11_r, p11_s, q12a, q12b, q12c, q12d, q12e, q12f, p12_l, p12_r, p12_s, q15a, q15b, q15c, q15d, q15e, q15f, p15_l, p15_r, p15_s, q19a, q19b, q19c, q19d, q19e, q19f, p19_l, p19_r, p19_s, q20a, q20b, q20c, q20d, q20e, q20f, p20_l, p20_r, p20_s, q31a, q31b, q31c, q31d, q31e, q31f, p31_l, p31_r, p31_s, q40a, q40b, q40c, q40d, q40e, q40f, p40_l, p40_r, p40_s, q48a, q48b, q48c, q48d, q48e, q48f, p48_l, p48_r, p48_s, q50a, q50b, q50c, q50d, q50e, q50f, p50_l, p50_r, p50_s, p50_m, q52a, q52b, q52c, q52d, q52e, q52f, p52_l, p52_r, p52_s, q60a, q60b, q60c, q60d, q60e, q60f, p60_l, p60_r, p60_s, q63a, q63b, q63c, q63d, q63e, q63f, p63_l, p63_r, p63_s, q80a, q80b, q80c, q80d, q80e, q80f, p80_l, p80_r, p80_s, q99a, q99b, q99c, q99d, q99e, q99f, p99_l, p99_r, p99_s, q100a, q100b, q100c, q100d, q100e, q100f, p100_l, p100_r, p100_s, q120a, q120b, q120c, q120d, q120e, q120f, p120_l, p120_r, p120_s, q240a, q240b, q240c, q240d, q240e, q240f, p240_l, p240_r, p240_s, q243a, q243b, q243c, q243d, q243e, q243f, p243_l, p243_r, p243_s, q244a, q244b, q244c, q244d, q244e, q244f, p244_l, p244_r, p244_s, q580a, q580b, q580c, q580d, q580e, q580f, p580_l, p580_r, p580_s, q581a, q581b, q581c, q581d, q581e, q581f, p581_l, p581_r, p581_s, q582a, q582b, q582c, q582d, q582e, q582f, p582_l, p582_r, p582_s, q583a, q583b, q583c, q583d, q583e, q583f, p583_l, p583_r, p583_s, q584a, q584b, q584c, q584d, q584e, q584f, p584_l, p584_r, p584_s, q585a, q585b, q585c, q585d, q585e, q585f, p585_l, p585_r, p585_s, q586a, q586b, q586c, q586d, q586e, q586f, p586_l, p586_r, p586_s, q999a, q999b, q999c, q999d, q999e, q999f, p999_l, p999_r, p999_s, q1000a, q1000b, q1000c, q1000d, q1000e, q1000f, p1000_l, p1000_r, p1000_s, q2400a, q2400b, q2400c, q2400d, q2400e, q2400f, p2400_l, p2400_r, p2400_s, q9999a, q9999b, q9999c, q9999d, q9999e, q9999f, p9999_l, p9999_r, p9999_s, I00, I01, I10, I11, n_le, n_lt, n_eq, n_cl, n_add, n_ne9, n_ne1, if_true, if_false, Option.bind_some, if_pos, if_neg, mBox_n hw, b2i_F (show ¬ (j < nb ∧ V 1 (4 * j) = 1) from fun z => h1 z.2)]
      exact ih f (j + 1) (by omega) (by omega) (fun y hy => by
          by_cases e : y = j
          · subst e; exact decide_eq_false (fun z => h1 z.1)
          · exact hn y (by omega))
theorem mails_b {V : Mm} {nb nm nt x : Nat} (hw : WN (V 1) nb nm nt) (hF : WF (V 1) nb nm nt) (hx : x < 20) :
    ∀ d f j, j + d = nm → d < f → (∀ y, y < j → inB (V 1) x y = false) → (0 < cnt (inB (V 1) x) nm → eX6_destroyOne_b86 f (nI x) (nI j) V = some (-3, V)) ∧ (¬ 0 < cnt (inB (V 1) x) nm → eX6_destroyOne_b86 f (nI x) (nI j) V = some (0, wr V 1 (4 * x) 0)) := by
  have h50 := hw.m50
  intro d
  induction d with
  | zero =>
    intro f j hj hf hn
    obtain ⟨f, rfl⟩ : ∃ f', f = f' + 1 := ⟨f - 1, by omega⟩
    have : j = nm := by omega
    subst this
    constructor
    · intro z
      obtain ⟨l, l1, l2, -⟩ := cnt_surj j 0 z
      rw [hn l l1] at l2; cases l2
    · intro _
      rw [eX6_destroyOne_b86, hw.em]
      simp (disch := omega) only [q0a, q0b, q0c, q0d, q0e, q0f, p0_l, p0_r, p0_s, q1a, q1b, q1c, q1d, q1e, q1f, p1_l, p1_r, p1_s, q2a, q2b, q2c, q2d, q2e, q2f, p2_l, p2_r, p2_s, q3a, q3b, q3c, q3d, q3e, q3f, p3_l, p3_r, p3_s, q4a, q4b, q4c, q4d, q4e, q4f, p4_l, p4_r, p4_s, p4_m, q5a, q5b, q5c, q5d, q5e, q5f, p5_l, p5_r, p5_s, p5_m, q6a, q6b, q6c, q6d, q6e, q6f, p6_l, p6_r, p6_s, q7a, q7b, q7c, q7d, q7e, q7f, p7_l, p7_r, p7_s, q8a, q8b, q8c, q8d, q8e, q8f, p8_l, p8_r, p8_s, q9a, q9b, q9c, q9d, q9e, q9f, p9_l, p9_r, p9_s, q10a, q10b, q10c, q10d, q10e, q10f, p10_l, p10_r, p10_s, p10_m, q11a, q11b, q11c, q11d, q11e, q11f, p11_l, p11_r, p11_s, q12a, q12b, q12c, q12d, q12e, q12f, p12_l, p12_r, p12_s, q15a, q15b, q15c, q15d, q15e, q15f, p15_l, p15_r, p15_s, q19a, q19b, q19c, q19d, q19e, q19f, p19_l, p19_r, p19_s, q20a, q20b, q20c, q20d, q20e, q20f, p20_l, p20_r, p20_s, q31a, q31b, q31c, q31d, q31e, q31f, p31_l, p31_r, p31_s, q40a, q40b, q40c, q40d, q40e, q40f, p40_l, p40_r, p40_s, q48a, q48b, q48c, q48d, q48e, q48f, p48_l, p48_r, p48_s, q50a, q50b, q50c, q50d, q50e, q50f, p50_l, p50_r, p50_s, p50_m, q52a, q52b, q52c, q52d, q52e, q52f, p52_l, p52_r, p52_s, q60a, q60b, q60c, q60d, q60e, q60f, p60_l, p60_r, p60_s, q63a, q63b, q63c, q63d, q63e, q63f, p63_l, p63_r, p63_s, q80a, q80b, q80c, q80d, q80e, q80f, p80_l, p80_r, p80_s, q99a, q99b, q99c, q99d, q99e, q99f, p99_l, p99_r, p99_s, q100a, q100b, q100c, q100d, q100e, q100f, p100_l, p100_r, p100_s, q120a, q120b, q120c, q120d, q120e, q120f, p120_l, p120_r, p120_s, q240a, q240b, q240c, q240d, q240e, q240f, p240_l, p240_r, p240_s, q243a, q243b, q243c, q243d, q243e, q243f, p243_l, p243_r, p243_s, q244a, q244b, q244c, q244d, q244e, q244f, p244_l, p244_r, p244_s, q580a, q580b, q580c, q580d, q580e, q580f, p580_l, p580_r, p580_s, q581a, q581b, q581c, q581d, q581e, q581f, p581_l, p581_r, p581_s, q582a, q582b, q582c, q582d, q582e, q582f, p582_l, p582_r, p582_s, q583a, q583b, q583c, q583d, q583e, q583f, p583_l, p583_r, p583_s, q584a, q584b, q584c, q584d, q584e, q584f, p584_l, p584_r, p584_s, q585a, q585b, q585c, q585d, q585e, q585f, p585_l, p585_r, p585_s, q586a, q586b, q586c, q586d, q586e, q586f, p586_l, p586_r, p586_s, q999a, q999b, q999c, q999d, q999e, q999f, p999_l, p999_r, p999_s, q1000a, q1000b, q1000c, q1000d, q1000e, q1000f, p1000_l, p1000_r, p1000_s, q2400a, q2400b, q2400c, q2400d, q2400e, q2400f, p2400_l, p2400_r, p2400_s, q9999a, q9999b, q9999c, q9999d, q9999e, q9999f, p9999_l, p9999_r, p9999_s, I00, I01, I10, I11, n_le, n_lt, n_eq, n_cl, n_add, n_ne9, n_ne1, if_true, if_false, Option.bind_some, if_pos, if_neg]
  | succ d ih =>
    intro f j hj hf hn
    obtain ⟨f, rfl⟩ : ∃ f', f = f' + 1 := ⟨f - 1, by omega⟩
    obtain ⟨B1, B2⟩ := WF_bits hF (show j < nm by omega)
    have p9 : eX6_mailPart 1 (nI j) 9 V = some (nI (bitsOf (V 1) j)) := by rw [← B2]; exact mailPart_n (c := 9) (by omega) (by omega)
    rw [eX6_destroyOne_b86, hw.em]
    by_cases h1 : V 1 (80 + 10 * j) = 1
    · simp (disch := omega) only [q0a, q0b, q0c, q0d, q0e, q0f, p0_l, p0_r, p0_s, q1a, q1b, q1c, q1d, q1e, q1f, p1_l, p1_r, p1_s, q2a, q2b, q2c, q2d, q2e, q2f, p2_l, p2_r, p2_s, q3a, q3b, q3c, q3d, q3e, q3f, p3_l, p3_r, p3_s, q4a, q4b, q4c, q4d, q4e, q4f, p4_l, p4_r, p4_s, p4_m, q5a, q5b, q5c, q5d, q5e, q5f, p5_l, p5_r, p5_s, p5_m, q6a, q6b, q6c, q6d, q6e, q6f, p6_l, p6_r, p6_s, q7a, q7b, q7c, q7d, q7e, q7f, p7_l, p7_r, p7_s, q8a, q8b, q8c, q8d, q8e, q8f, p8_l, p8_r, p8_s, q9a, q9b, q9c, q9d, q9e, q9f, p9_l, p9_r, p9_s, q10a, q10b, q10c, q10d, q10e, q10f, p10_l, p10_r, p10_s, p10_m, q11a, q11b, q11c, q11d, q11e, q11f, p11_l, p11_r, p11_s, q12a, q12b, q12c, q12d, q12e, q12f, p12_l, p12_r, p12_s, q15a, q15b, q15c, q15d, q15e, q15f, p15_l, p15_r, p15_s, q19a, q19b, q19c, q19d, q19e, q19f, p19_l, p19_r, p19_s, q20a, q20b, q20c, q20d, q20e, q20f, p20_l, p20_r, p20_s, q31a, q31b, q31c, q31d, q31e, q31f, p31_l, p31_r, p31_s, q40a, q40b, q40c, q40d, q40e, q40f, p40_l, p40_r, p40_s, q48a, q48b, q48c, q48d, q48e, q48f, p48_l, p48_r, p48_s, q50a, q50b, q50c, q50d, q50e, q50f, p50_l, p50_r, p50_s, p50_m, q52a, q52b, q52c, q52d, q52e, q52f, p52_l, p52_r, p52_s, q60a, q60b, q60c, q60d, q60e, q60f, p60_l, p60_r, p60_s, q63a, q63b, q63c, q63d, q63e, q63f, p63_l, p63_r, p63_s, q80a, q80b, q80c, q80d, q80e, q80f, p80_l, p80_r, p80_s, q99a, q99b, q99c, q99d, q99e, q99f, p99_l, p99_r, p99_s, q100a, q100b, q100c, q100d, q100e, q100f, p100_l, p100_r, p100_s, q120a, q120b, q120c, q120d, q120e, q120f, p120_l, p120_r, p120_s, q240a, q240b, q240c, q240d, q240e, q240f, p240_l, p240_r, p240_s, q243a, q243b, q243c, q243d, q243e, q243f, p243_l, p243_r, p243_s, q244a, q244b, q244c, q244d, q244e, q244f, p244_l, p244_r, p244_s, q580a, q580b, q580c, q580d, q580e, q580f, p580_l, p580_r, p580_s, q581a, q581b, q581c, q581d, q581e, q581f, p581_l, p581_r, p581_s, q582a, q582b, q582c, q582d, q582e, q582f, p582_l, p582_r, p582_s, q583a, q583b, q583c, q583d, q583e, q583f, p583_l, p583_r, p583_s, q584a, q584b, q584c, q584d, q584e, q584f, p584_l, p584_r, p584_s, q585a, q585b, q585c, q585d, q585e, q585f, p585_l, p585_r, p585_s, q586a, q586b, q586c, q586d, q586e, q586f, p586_l, p586_r, p586_s, q999a, q999b, q999c, q999d, q999e, q999f, p999_l, p999_r, p999_s, q1000a, q1000b, q1000c, q1000d, q1000e, q1000f, p1000_l, p1000_r, p1000_s, q2400a, q2400b, q2400c, q2400d, q2400e, q2400f, p2400_l, p2400_r, p2400_s, q9999a, q9999b, q9999c, q9999d, q9999e, q9999f, p9999_l, p9999_r, p9999_s, I00, I01, I10, I11, n_le, n_lt, n_eq, n_cl, n_add, n_ne9, n_ne1, if_true, if_false, Option.bind_some, if_pos, if_neg, mMail_n hw, b2i_T (show j < nm ∧ V 1 (80 + 10 * j) = 1 from ⟨by omega, h1⟩), p9, bit_dn, b2i_1]
      by_cases h2 : (bitsOf (V 1) j).testBit x = true
      · rw [if_pos h2]
        have hk : inB (V 1) x j = true := decide_eq_true ⟨h1, h2⟩
        exact ⟨fun _ => rfl, fun z => absurd (Nat.lt_of_le_of_lt (Nat.zero_le _) (cntN_mono (show j < nm by omega) hk)) z⟩
      · rw [if_neg h2]
        exact ih f (j + 1) (by omega) (by omega) (fun y hy => by
          by_cases e : y = j
          · subst e; exact decide_eq_false (fun z => h2 z.2)
          · exact hn y (by omega))
    · simp (disch := omega) only [q0a, q0b, q0c, q0d, q0e, q0f, p0_l, p0_r, p0_s, q1a, q1b, q1c, q1d, q1e, q1f, p1_l, p1_r, p1_s, q2a, q2b, q2c, q2d, q2e, q2f, p2_l, p2_r, p2_s, q3a, q3b, q3c, q3d, q3e, q3f, p3_l, p3_r, p3_s, q4a, q4b, q4c, q4d, q4e, q4f, p4_l, p4_r, p4_s, p4_m, q5a, q5b, q5c, q5d, q5e, q5f, p5_l, p5_r, p5_s, p5_m, q6a, q6b, q6c, q6d, q6e, q6f, p6_l, p6_r, p6_s, q7a, q7b, q7c, q7d, q7e, q7f, p7_l, p7_r, p7_s, q8a, q8b, q8c, q8d, q8e, q8f, p8_l, p8_r, p8_s, q9a, q9b, q9c, q9d, q9e, q9f, p9_l, p9_r, p9_s, q10a, q10b, q10c, q10d, q10e, q10f, p10_l, p10_r, p10_s, p10_m, q11a, q11b, q11c, q11d, q11e, q11f, p11_l, p11_r, p11_s, q12a, q12b, q12c, q12d, q12e, q12f, p12_l, p12_r, p12_s, q15a, q15b, q15c, q15d, q15e, q15f, p15_l, p15_r, p15_s, q19a, q19b, q19c, q19d, q19e, q19f, p19_l, p19_r, p19_s, q20a, q20b, q20c, q20d, q20e, q20f, p20_l, p20_r, p20_s, q31a, q31b, q31c, q31d, q31e, q31f, p31_l, p31_r, p31_s, q40a, q40b, q40c, q40d, q40e, q40f, p40_l, p40_r, p40_s, q48a, q48b, q48c, q48d, q48e, q48f, p48_l, p48_r, p48_s, q50a, q50b, q50c, q50d, q50e, q50f, p50_l, p50_r, p50_s, p50_m, q52a, q52b, q52c, q52d, q52e, q52f, p52_l, p52_r, p52_s, q60a, q60b, q60c, q60d, q60e, q60f, p60_l, p60_r, p60_s, q63a, q63b, q63c, q63d, q63e, q63f, p63_l, p63_r, p63_s, q80a, q80b, q80c, q80d, q80e, q80f, p80_l, p80_r, p80_s, q99a, q99b, q99c, q99d, q99e, q99f, p99_l, p99_r, p99_s, q100a, q100b, q100c, q100d, q100e, q100f, p100_l, p100_r, p100_s, q120a, q120b, q120c, q120d, q120e, q120f, p120_l, p120_r, p120_s, q240a, q240b, q240c, q240d, q240e, q240f, p240_l, p240_r, p240_s, q243a, q243b, q243c, q243d, q243e, q243f, p243_l, p243_r, p243_s, q244a, q244b, q244c, q244d, q244e, q244f, p244_l, p244_r, p244_s, q580a, q580b, q580c, q580d, q580e, q580f, p580_l, p580_r, p580_s, q581a, q581b, q581c, q581d, q581e, q581f, p581_l, p581_r, p581_s, q582a, q582b, q582c, q582d, q582e, q582f, p582_l, p582_r, p582_s, q583a, q583b, q583c, q583d, q583e, q583f, p583_l, p583_r, p583_s, q584a, q584b, q584c, q584d, q584e, q584f, p584_l, p584_r, p584_s, q585a, q585b, q585c, q585d, q585e, q585f, p585_l, p585_r, p585_s, q586a, q586b, q586c, q586d, q586e, q586f, p586_l, p586_r, p586_s, q999a, q999b, q999c, q999d, q999e, q999f, p999_l, p999_r, p999_s, q1000a, q1000b, q1000c, q1000d, q1000e, q1000f, p1000_l, p1000_r, p1000_s, q2400a, q2400b, q2400c, q2400d, q2400e, q2400f, p2400_l, p2400_r, p2400_s, q9999a, q9999b, q9999c, q9999d, q9999e, q9999f, p9999_l, p9999_r, p9999_s, I00, I01, I10, I11, n_le, n_lt, n_eq, n_cl, n_add, n_ne9, n_ne1, if_true, if_false, Option.bind_some, if_pos, if_neg, mMail_n hw, b2i_F (show ¬ (j < nm ∧ V 1 (80 + 10 * j) = 1) from fun z => h1 z.2)]
      exact ih f (j + 1) (by omega) (by omega) (fun y hy => by
          by_cases e : y = j
          · subst e; exact decide_eq_false (fun z => h1 z.1)
          · exact hn y (by omega))
theorem remove_n {o j : Nat} {V : Mm} (hj : j < 50) : eX2_remove o (nI j) V = some (wr (wr (wr V (o + 11) j 0) (o + 23) j 3) o 7 1) := by
  unfold eX2_remove
  rw [set_9 hj, Option.bind_some, touch_n hj, Option.bind_some]
theorem keptOf_fr {Vk V V' : Mm} (h : keptOf Vk V) (hf : ∀ κ j, κ < 3 → j ≠ 7 → V' (oK κ) j = V (oK κ) j) (hk : ∀ κ c, κ < 3 → c < 10 → V' (oK κ + 13 + c) = V (oK κ + 13 + c)) : keptOf Vk V' := by
  intro κ hκ
  obtain ⟨a, b, c, d⟩ := h κ hκ
  exact ⟨by rw [hf κ 5 hκ (by omega)]; exact a, by rw [hf κ 3 hκ (by omega)]; exact b, by rw [hf κ 6 hκ (by omega)]; exact c, fun e i he hi => by rw [hk κ e hκ he]; exact d e i he hi⟩
theorem TT_set {V V' : Mm} {τ σ : Nat → Nat → Nat} {κ x s : Nat} (h : TT V τ) (hκ : κ < 3) (hx : x < 50) (hs : s ≠ 0) (v1 : V' (oK κ + 23) x = nI s) (v2 : ∀ i, i ≠ x → V' (oK κ + 23) i = V (oK κ + 23) i) (v3 : V' (oK κ) 7 = 1) (vo : ∀ κ', κ' < 3 → κ' ≠ κ → V' (oK κ' + 23) = V (oK κ' + 23) ∧ V' (oK κ') 7 = V (oK κ') 7) (e1 : σ κ x = s) (e2 : ∀ κ' i, κ' < 3 → i < 50 → (κ' ≠ κ ∨ i ≠ x) → σ κ' i = τ κ' i) : TT V' σ := by
  intro κ' hκ'
  obtain ⟨a, b⟩ := h κ' hκ'
  by_cases e : κ' = κ
  · subst e
    refine ⟨fun i hi => ?_, Or.inl ⟨v3, x, hx, by rw [e1]; exact hs⟩⟩
    by_cases ei : i = x
    · subst ei; rw [v1, e1]
    · rw [v2 i ei, e2 κ' i hκ' hi (Or.inr ei)]; exact a i hi
  · obtain ⟨c1, c2⟩ := vo κ' hκ' e
    rw [c1, c2]
    refine ⟨fun i hi => by rw [e2 κ' i hκ' hi (Or.inl e)]; exact a i hi, ?_⟩
    rcases b with ⟨b1, i, hi, b2⟩ | ⟨b1, b2⟩
    · exact Or.inl ⟨b1, i, hi, by rw [e2 κ' i hκ' hi (Or.inl e)]; exact b2⟩
    · exact Or.inr ⟨b1, fun i hi => by rw [e2 κ' i hκ' hi (Or.inl e)]; exact b2 i hi⟩
def dsR (Vk : Mm) (w0 : Nat → Int32) (Fc Fm : Option (Int32 × Mm)) (V W : Mm) (nb nm nt : Nat) : Prop :=
  (∃ code : Int32, code ≠ 0 ∧ Fc = some (code, V) ∧ Fm = some (code, W)) ∨
  (∃ V' W' : Mm, Fc = some (0, V') ∧ Fm = some (0, W') ∧ dI Vk w0 nb nm nt V' W' ∧ (∀ k, (k < 4 ∨ 75 < k) → V' k = V k) ∧ ∀ k, k ≠ 1 → W' k = W k)
theorem dsB {Vk V W : Mm} {w0 : Nat → Int32} {nb nm nt x : Nat} (hI : dI Vk w0 nb nm nt V W) (hx : x < 2147483648) : dsR Vk w0 (eX5_destroyBox (nI x) V) (eX6_destroyOne 0 (nI x) W) V W nb nm nt := by
  obtain ⟨hW, hF, hK, hT, hG, h8, hS⟩ := hI
  have hwn := WRel_WN hW
  have b20 := hwn.b20
  have b50 := hwn.m50
  unfold eX5_destroyBox eX6_destroyOne
  rw [show eX2_isThere 4 (nI x) V = _ from isThere_K (κ := 0) hW (by omega) hx, show eX6_isThere 1 0 (nI x) W = _ from mThere_n (κ := 0) hwn (by omega) hx]
  by_cases hth : isTh (W 1) nb nm nt 0 x
  · obtain ⟨hx1, hx2⟩ := isTh_0.mp hth
    rw [b2i_T hth, Option.bind_some, Option.bind_some, if_neg (show ¬ (1 : Int32) = 0 by decide), if_neg (show ¬ (1 : Int32) = 0 by decide), if_neg (show ¬ (0 : Int32) = 1 by decide)]
    have ekid : eX2_howManyWith 4 1 (nI x) V = some (nI (cnt (kidB (W 1) x) nb)) := by
      have e := manyWith_n (o := 4) (n := nb) (c := 1) (x := nI x) (V := V) hW.2.2.1.1 (by omega) (by omega)
      rw [show eX2_howManyWith 4 1 (nI x) V = _ from e]
      congr 2
      apply cnt_congr
      intro j hj
      obtain ⟨q0, q1, q2, q3⟩ := hW.2.2.2.2.2.1 j hj
      unfold kidB
      rw [show V (4 + 11) j = W 1 (4 * j) from q0, show V (4 + 2 + 1) j = W 1 (4 * j + 2) from q2]
    have hkl := cntN_le (p := kidB (W 1) x) (n := nb)
    have hml := cntN_le (p := inB (W 1) x) (n := nm)
    obtain ⟨k1, k2⟩ := kids_b (x := x) hwn (by omega) nb fu 0 (by omega) (by unfold fu; omega) (fun y hy => absurd hy (by omega))
    obtain ⟨m1, m2⟩ := mails_b (x := x) hwn hF (by omega) nm fu 0 (by omega) (by unfold fu; omega) (fun y hy => absurd hy (by omega))
    rw [ekid, Option.bind_some]
    by_cases hk : 0 < cnt (kidB (W 1) x) nb
    · left
      refine ⟨-3, by decide, ?_, k1 hk⟩
      rw [if_pos (by rw [show (0 : Int32) = nI 0 from rfl, n_lt (by omega) (by omega)]; exact hk)]
    · rw [if_neg (by rw [show (0 : Int32) = nI 0 from rfl, n_lt (by omega) (by omega)]; exact hk), show eX6_destroyOne_b37 fu (nI x) 0 W = _ from k2 hk]
      rw [show eX5_mailsIn (nI x) V = some (nI (cnt (inB (W 1) x) nm)) from mailsIn_n hW hF (by omega), Option.bind_some]
      by_cases hm : 0 < cnt (inB (W 1) x) nm
      · left
        refine ⟨-3, by decide, ?_, m1 hm⟩
        rw [if_neg (by rw [show (0 : Int32) = nI 0 from rfl, n_le (by omega) (by omega)]; omega)]
      · rw [if_pos (by rw [show (0 : Int32) = nI 0 from rfl, n_le (by omega) (by omega)]; omega), show eX6_destroyOne_b86 fu (nI x) 0 W = _ from m2 hm, remove_n (by omega), Option.bind_some]
        right
        have nokid : ∀ b, b < nb → W 1 (4 * b) = 1 → W 1 (4 * b + 2) ≠ nI x := fun b hb e z => hk (Nat.lt_of_le_of_lt (Nat.zero_le _) (cntN_mono hb (decide_eq_true ⟨e, z⟩)))
        have nomail : ∀ m, m < nm → W 1 (80 + 10 * m) = 1 → ¬ (bitsOf (W 1) m).testBit x = true := fun m hm2 e z => hm (Nat.lt_of_le_of_lt (Nat.zero_le _) (cntN_mono hm2 (decide_eq_true ⟨e, z⟩)))
        have o0 : ∀ b, b ≠ x → wr W 1 (4 * x) 0 1 (4 * b) = W 1 (4 * b) := fun b hb => by rw [wr_in (by omega)]
        have ox : wr W 1 (4 * x) 0 1 (4 * x) = 0 := wr_at
        have oc : ∀ b c, 1 ≤ c → c < 4 → wr W 1 (4 * x) 0 1 (4 * b + c) = W 1 (4 * b + c) := fun b c h1 h2 => by rw [wr_in (by omega)]
        have oth : ∀ b, wr W 1 (4 * x) 0 1 (4 * b) = 1 → b ≠ x ∧ W 1 (4 * b) = 1 := fun b e => by
          by_cases eb : b = x
          · subst eb; rw [ox] at e; exact absurd e (by decide)
          · exact ⟨eb, by rw [← o0 b eb]; exact e⟩
        have hW' : WRel (wr (wr (wr V 15 x 0) 27 x 3) 4 7 1) (wr W 1 (4 * x) 0 1) nb nm nt := by
          refine WRel_box hW (fun k a b c => by rw [wr_in (by omega)]) (by rw [wr_in (by omega)]; exact hwn.eb) b20 (fun k a b => by rw [wr_ne (by omega), wr_ne (by omega), wr_ne (by omega)]) (by rw [wr_in (by omega), wr_ne (by omega), wr_ne (by omega)]) (by rw [wr_in (by omega), wr_ne (by omega), wr_ne (by omega)]; exact hW.2.2.1.1) (by rw [wr_in (by omega), wr_ne (by omega), wr_ne (by omega)]) (fun b hb => ?_) (fun b hb hb2 => ?_)
          · obtain ⟨q0, q1, q2, q3⟩ := hW.2.2.2.2.2.1 b hb
            rw [oc b 1 (by omega) (by omega), oc b 2 (by omega) (by omega), oc b 3 (by omega) (by omega)]
            simp (disch := omega) only [wr_ne]
            refine ⟨?_, q1, q2, q3⟩
            by_cases eb : b = x
            · subst eb; rw [wr_at, ox]
            · rw [wr_in eb, o0 b eb]; exact q0
          · simp (disch := omega) only [wr_ne]
            rw [wr_in (by omega)]
            exact hW.2.2.2.2.2.2.1 b hb hb2
        obtain ⟨d, hd⟩ := hF.2.2.1
        have hF' : WF (wr W 1 (4 * x) 0 1) nb nm nt := by
          refine WF_box hF b50 (fun k a b => by rw [wr_in (by omega)]) (fun b hb => ?_) (fun b hb e => ?_) ⟨d, fun b hb e => ?_⟩ (fun b c hb hc hbc e1 e2 e3 => ?_) (fun b m hb e1 hm2 e2 e3 => ?_)
          · by_cases eb : b = x
            · subst eb; exact Or.inl ox
            · rw [o0 b eb]; exact hF.1 b hb
          · obtain ⟨eb, e1⟩ := oth b e
            rw [oc b 2 (by omega) (by omega)]
            rcases hF.2.1 b hb e1 with z | ⟨q, q1, q2, q3⟩
            · exact Or.inl z
            · have : q ≠ x := fun z => nokid b hb e1 (by rw [q2, z])
              exact Or.inr ⟨q, q1, q2, by rw [o0 q this]; exact q3⟩
          · obtain ⟨eb, e1⟩ := oth b e
            rw [oc b 2 (by omega) (by omega)]
            exact hd b hb e1
          · obtain ⟨eb, f1⟩ := oth b e1
            obtain ⟨ec, f2⟩ := oth c e2
            rw [oc b 2 (by omega) (by omega), oc c 2 (by omega) (by omega)] at e3
            rw [oc b 1 (by omega) (by omega), oc c 1 (by omega) (by omega)]
            exact hF.2.2.2.1 b c hb hc hbc f1 f2 e3
          · have : b ≠ x := fun z => nomail m hm2 e2 (by rw [← z]; exact e3)
            exact ⟨hb, by rw [o0 b this]; exact e1⟩
        have hth0 : ∀ κ i, κ < 3 → (κ ≠ 0 ∨ i ≠ x) → isThb (wr W 1 (4 * x) 0 1) nb nm nt κ i = isThb (W 1) nb nm nt κ i := fun κ i hκ hne => by
          have hc : κ = 0 ∨ κ = 1 ∨ κ = 2 := by omega
          rcases hc with rfl | rfl | rfl
          · have hi : i ≠ x := by
              rcases hne with z | z
              · exact absurd rfl z
              · exact z
            show decide (i < nb ∧ wr W 1 (4 * x) 0 1 (4 * i) = 1) = decide (i < nb ∧ W 1 (4 * i) = 1)
            rw [o0 i hi]
          · show decide (i < nm ∧ wr W 1 (4 * x) 0 1 (80 + 10 * i) = 1) = decide (i < nm ∧ W 1 (80 + 10 * i) = 1)
            rw [wr_in (by omega)]
          · show decide (i < nt ∧ 0 < cntT (wr W 1 (4 * x) 0 1) nm i) = decide (i < nt ∧ 0 < cntT (W 1) nm i)
            rw [cntT_congr (w := W 1) (v := wr W 1 (4 * x) 0 1) (fun m hm => ⟨by rw [wr_in (by omega)], by rw [wr_in (by omega)]⟩)]
        have hgone : ¬ isTh (wr W 1 (4 * x) 0 1) nb nm nt 0 x := fun z => by
          have := (isTh_0.mp z).2
          rw [ox] at this
          exact absurd this (by decide)
        refine ⟨_, _, rfl, rfl, ⟨hW', hF', keptOf_fr hK (fun κ j hκ hj => ?_) (fun κ c hκ hc => ?_), TT_set (κ := 0) (x := x) (s := 3) hT (by omega) (by omega) (by omega) ?_ (fun i hi => ?_) ?_ (fun κ' hκ' hne => ?_) (whatK_gone (hG 0 x (by omega) hth) hgone) (fun κ' i hκ' hi hne => ?_), fun κ i hκ z => ?_, fun m hm2 => ?_, fun κ hκ => ?_⟩, fun k hk => ?_, fun k hk => by rw [wr_ne hk]⟩
        · have h3 := oK_3 hκ
          by_cases e : oK κ = 4
          · rw [e, wr_in hj, wr_ne (by omega), wr_ne (by omega)]
          · rw [wr_ne (by omega), wr_ne (by omega), wr_ne (by omega)]
        · have h3 := oK_3 hκ
          rw [wr_ne (by omega), wr_ne (by omega), wr_ne (by omega)]
        · show wr (wr (wr V (4 + 11) x 0) (4 + 23) x 3) 4 7 1 27 x = nI 3
          rw [wr_ne (by omega), wr_at]; rfl
        · show wr (wr (wr V (4 + 11) x 0) (4 + 23) x 3) 4 7 1 27 i = V 27 i
          rw [wr_ne (by omega), wr_in hi, wr_ne (by omega)]
        · show wr (wr (wr V (4 + 11) x 0) (4 + 23) x 3) 4 7 1 4 7 = 1
          rw [wr_at]
        · have h3 : oK κ' = 28 ∨ oK κ' = 52 := by unfold oK; omega
          constructor
          · rw [wr_ne (by omega), wr_ne (by omega), wr_ne (by omega)]
          · rw [wr_ne (by omega), wr_ne (by omega), wr_ne (by omega)]
        · refine whatK_cg (hth0 κ' i hκ' hne) (fun hth2 => ?_)
          have hc : κ' = 0 ∨ κ' = 1 ∨ κ' = 2 := by omega
          rcases hc with rfl | rfl | rfl
          · have hi : i ≠ x := by
              rcases hne with z | z
              · exact absurd rfl z
              · exact z
            exact othB_cg (by omega) (fun k hk => by
              have hk' : k < 4 := hk
              rw [show recI 0 i k = 4 * i + k from rfl, wr_in (by omega)])
          · exact othB_cg (by omega) (fun k hk => by rw [show recI 1 i k = 80 + 10 * i + k from rfl, wr_in (by omega)])
          · have key : ∀ m, m < othN nm 2 → othp w0 (wr W 1 (4 * x) 0 1) nm nm 2 i m = othp w0 (W 1) nm nm 2 i m := fun m hm => by
              have hm' : m < nm := hm
              show (thIn (wr W 1 (4 * x) 0 1) nm i m != thIn w0 nm i m) = (thIn (W 1) nm i m != thIn w0 nm i m)
              unfold thIn thM
              rw [wr_in (by omega), wr_in (by omega)]
            rw [Bool.eq_iff_iff]
            unfold othB
            rw [anyB_iff, anyB_iff]
            constructor
            · rintro ⟨k, hk, z⟩
              exact ⟨k, hk, by rw [← key k hk]; exact z⟩
            · rintro ⟨k, hk, z⟩
              exact ⟨k, hk, by rw [key k hk]; exact z⟩
        · by_cases e : κ = 0 ∧ i = x
          · obtain ⟨rfl, rfl⟩ := e
            exact absurd z hgone
          · refine hG κ i hκ ?_
            show isThb _ _ _ _ _ _ = true
            rw [← hth0 κ i hκ (by omega)]; exact z
        · rw [wr_in (by omega)]; exact h8 m hm2
        · rw [wr_in (by omega)]; exact hS κ hκ
        · rw [wr_ne (by omega), wr_ne (by omega), wr_ne (by omega)]
  · rw [b2i_F hth]
    exact Or.inl ⟨-1, by decide, rfl, rfl⟩
