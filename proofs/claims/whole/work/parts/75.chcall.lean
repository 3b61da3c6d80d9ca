
/-! CHANGE: the call -/
theorem isThb_c0 {w v : Nat → Int32} {nb nm nt κ i : Nat} (h : ∀ j, j < 586 → w j = v j) (hw : WN w nb nm nt) (hκ : κ < 3) : isThb w nb nm nt κ i = isThb v nb nm nt κ i := by
  have b20 := hw.b20
  have b50 := hw.m50
  have hc : κ = 0 ∨ κ = 1 ∨ κ = 2 := by omega
  rcases hc with rfl | rfl | rfl
  · show decide (i < nb ∧ w (4 * i) = 1) = decide (i < nb ∧ v (4 * i) = 1)
    by_cases e : i < nb
    · rw [h _ (by omega)]
    · simp [e]
  · show decide (i < nm ∧ w (80 + 10 * i) = 1) = decide (i < nm ∧ v (80 + 10 * i) = 1)
    by_cases e : i < nm
    · rw [h _ (by omega)]
    · simp [e]
  · show decide (i < nt ∧ 0 < cntT w nm i) = decide (i < nt ∧ 0 < cntT v nm i)
    rw [cntT_congr (w := v) (v := w) (fun m hm => ⟨h _ (by omega), h _ (by omega)⟩)]
theorem whatK_c0 {w0 v0 w : Nat → Int32} {nb0 nm0 nt0 nb nm nt κ i : Nat} (h : ∀ j, j < 586 → w0 j = v0 j) (hw0 : WN w0 nb0 nm0 nt0) (hw : WN w nb nm nt) (hκ : κ < 3) : whatK w0 w nb0 nm0 nt0 nb nm nt κ i = whatK v0 w nb0 nm0 nt0 nb nm nt κ i := by
  unfold whatK
  rw [isThb_c0 h hw0 hκ]
  cases e : isThb w nb nm nt κ i
  · rfl
  · have b20 := hw.b20
    have b50 := hw.m50
    have c50 := hw0.m50
    have : othB w0 w nm0 nm κ i = othB v0 w nm0 nm κ i := by
      have key : ∀ k, k < othN nm κ → othp w0 w nm0 nm κ i k = othp v0 w nm0 nm κ i k := by
        intro k hk
        have hc : κ = 0 ∨ κ = 1 ∨ κ = 2 := by omega
        rcases hc with rfl | rfl | rfl
        · have hi := (isTh_0.mp e).1
          have hk' : k < 4 := hk
          show decide (1 ≤ k ∧ w (4 * i + k) ≠ w0 (4 * i + k)) = decide (1 ≤ k ∧ w (4 * i + k) ≠ v0 (4 * i + k))
          rw [h _ (by omega)]
        · have hi := (isTh_1.mp e).1
          have hk' : k < 10 := hk
          show decide (1 ≤ k ∧ w (80 + 10 * i + k) ≠ w0 (80 + 10 * i + k)) = decide (1 ≤ k ∧ w (80 + 10 * i + k) ≠ v0 (80 + 10 * i + k))
          rw [h _ (by omega)]
        · have hk' : k < nm := hk
          show (thIn w nm i k != thIn w0 nm0 i k) = (thIn w nm i k != thIn v0 nm0 i k)
          unfold thIn thM
          rw [h (80 + 10 * k) (by omega), h (80 + 10 * k + 8) (by omega)]
      rw [Bool.eq_iff_iff]
      unfold othB
      rw [anyB_iff, anyB_iff]
      constructor
      · rintro ⟨k, hk, z⟩
        exact ⟨k, hk, by rw [← key k hk]; exact z⟩
      · rintro ⟨k, hk, z⟩
        exact ⟨k, hk, by rw [key k hk]; exact z⟩
    rw [this]
theorem idOf_fr2 {x : Int32} {V W : Mm} (h : ∀ k, k ≠ 0 → k ≠ 88 → W k = V k) : eX5_idOf x W = eX5_idOf x V := by
  unfold eX5_idOf eX4_at eX4_count
  by_cases a : (-1 : Int32) - x < 0
  · rw [if_pos a, if_pos a]
  · rcases n_cases ((-1 : Int32) - x) with hp | ⟨p, hp, ep⟩
    · exact absurd hp a
    · rw [ep]
      by_cases hp12 : p < 12
      · simp (disch := omega) only [q0a, q0b, q0c, q0d, q0e, q0f, p0_l, p0_r, p0_s, q1a, q1b, q1c, q1d, q1e, q1f, p1_l, p1_r, p1_s, q2a, q2b, q2c, q2d, q2e, q2f, p2_l, p2_r, p2_s, q3a, q3b, q3c, q3d, q3e, q3f, p3_l, p3_r, p3_s, q4a, q4b, q4c, q4d, q4e, q4f, p4_l, p4_r, p4_s, p4_m, q5a, q5b, q5c, q5d, q5e, q5f, p5_l, p5_r, p5_s, p5_m, q6a, q6b, q6c, q6d, q6e, q6f, p6_l, p6_r, p6_s, q7a, q7b, q7c, q7d, q7e, q7f, p7_l, p7_r, p7_s, q8a, q8b, q8c, q8d, q8e, q8f, p8_l, p8_r, p8_s, q9a, q9b, q9c, q9d, q9e, q9f, p9_l, p9_r, p9_s, q10a, q10b, q10c, q10d, q10e, q10f, p10_l, p10_r, p10_s, p10_m, q11a, q11b, q11c, q11d, q11e, q11f, p11_l, p11_r, p11_s, q12a, q12b, q12c, q12d, q12e, q12f, p12_l, p12_r, p12_s, q15a, q15b, q15c, q15d, q15e, q15f, p15_l, p15_r, p15_s, q19a, q19b, q19c, q19d, q19e, q19f, p19_l, p19_r, p19_s, q20a, q20b, q20c, q20d, q20e, q20f, p20_l, p20_r, p20_s, q31a, q31b, q31c, q31d, q31e, q31f, p31_l, p31_r, p31_s, q40a, q40b, q40c, q40d, q40e, q40f, p40_l, p40_r, p40_s, q48a, q48b, q48c, q48d, q48e, q48f, p48_l, p48_r, p48_s, q50a, q50b, q50c, q50d, q50e, q50f, p50_l, p50_r, p50_s, p50_m, q52a, q52b, q52c, q52d, q52e, q52f, p52_l, p52_r, p52_s, q60a, q60b, q60c, q60d, q60e, q60f, p60_l, p60_r, p60_s, q63a, q63b, q63c, q63d, q63e, q63f, p63_l, p63_r, p63_s, q80a, q80b, q80c, q80d, q80e, q80f, p80_l, p80_r, p80_s, q99a, q99b, q99c, q99d, q99e, q99f, p99_l, p99_r, p99_s, q100a, q100b, q100c, q100d, q100e, q100f, p100_l, p100_r, p100_s, q120a, q120b, q120c, q120d, q120e, q120f, p120_l, p120_r, p120_s, q240a, q240b, q240c, q240d, q240e, q240f, p240_l, p240_r, p240_s, q243a, q243b, q243c, q243d, q243e, q243f, p243_l, p243_r, p243_s, q244a, q244b, q244c, q244d, q244e, q244f, p244_l, p244_r, p244_s, q580a, q580b, q580c, q580d, q580e, q580f, p580_l, p580_r, p580_s, q581a, q581b, q581c, q581d, q581e, q581f, p581_l, p581_r, p581_s, q582a, q582b, q582c, q582d, q582e, q582f, p582_l, p582_r, p582_s, q583a, q583b, q583c, q583d, q583e, q583f, p583_l, p583_r, p583_s, q584a, q584b, q584c, q584d, q584e, q584f, p584_l, p584_r, p584_s, q585a, q585b, q585c, q585d, q585e, q585f, p585_l, p585_r, p585_s, q586a, q586b, q586c, q586d, q586e, q586f, p586_l, p586_r, p586_s, q999a, q999b, q999c, q999d, q999e, q999f, p999_l, p999_r, p999_s, q1000a, q1000b, q1000c, q1000d, q1000e, q1000f, p1000_l, p1000_r, p1000_s, q2400a, q2400b, q2400c, q2400d, q2400e, q2400f, p2400_l, p2400_r, p2400_s, q9999a, q9999b, q9999c, q9999d, q9999e, q9999f, p9999_l, p9999_r, p9999_s, I00, I01, I10, I11, n_le, n_lt, n_eq, n_cl, n_add, n_ne9, n_ne1, if_true, if_false, Option.bind_some, if_pos, if_neg, h]
      · simp (disch := omega) only [q0a, q0b, q0c, q0d, q0e, q0f, p0_l, p0_r, p0_s, q1a, q1b, q1c, q1d, q1e, q1f, p1_l, p1_r, p1_s, q2a, q2b, q2c, q2d, q2e, q2f, p2_l, p2_r, p2_s, q3a, q3b, q3c, q3d, q3e, q3f, p3_l, p3_r, p3_s, q4a, q4b, q4c, q4d, q4e, q4f, p4_l, p4_r, p4_s, p4_m, q5a, q5b, q5c, q5d, q5e, q5f, p5_l, p5_r, p5_s, p5_m, q6a, q6b, q6c, q6d, q6e, q6f, p6_l, p6_r, p6_s, q7a, q7b, q7c, q7d, q7e, q7f, p7_l, p7_r, p7_s, q8a, q8b, q8c, q8d, q8e, q8f, p8_l, p8_r, p8_s, q9a, q9b, q9c, q9d, q9e, q9f, p9_l, p9_r, p9_s, q10a, q10b, q10c, q10d, q10e, q10f, p10_l, p10_r, p10_s, p10_m, q11a, q11b, q11c, q11d, q11e, q11f, p11_l, p11_r, p11_s, q12a, q12b, q12c, q12d, q12e, q12f, p12_l, p12_r, p12_s, q15a, q15b, q15c, q15d, q15e, q15f, p15_l, p15_r, p15_s, q19a, q19b, q19c, q19d, q19e, q19f, p19_l, p19_r, p19_s, q20a, q20b, q20c, q20d, q20e, q20f, p20_l, p20_r, p20_s, q31a, q31b, q31c, q31d, q31e, q31f, p31_l, p31_r, p31_s, q40a, q40b, q40c, q40d, q40e, q40f, p40_l, p40_r, p40_s, q48a, q48b, q48c, q48d, q48e, q48f, p48_l, p48_r, p48_s, q50a, q50b, q50c, q50d, q50e, q50f, p50_l, p50_r, p50_s, p50_m, q52a, q52b, q52c, q52d, q52e, q52f, p52_l, p52_r, p52_s, q60a, q60b, q60c, q60d, q60e, q60f, p60_l, p60_r, p60_s, q63a, q63b, q63c, q63d, q63e, q63f, p63_l, p63_r, p63_s, q80a, q80b, q80c, q80d, q80e, q80f, p80_l, p80_r, p80_s, q99a, q99b, q99c, q99d, q99e, q99f, p99_l, p99_r, p99_s, q100a, q100b, q100c, q100d, q100e, q100f, p100_l, p100_r, p100_s, q120a, q120b, q120c, q120d, q120e, q120f, p120_l, p120_r, p120_s, q240a, q240b, q240c, q240d, q240e, q240f, p240_l, p240_r, p240_s, q243a, q243b, q243c, q243d, q243e, q243f, p243_l, p243_r, p243_s, q244a, q244b, q244c, q244d, q244e, q244f, p244_l, p244_r, p244_s, q580a, q580b, q580c, q580d, q580e, q580f, p580_l, p580_r, p580_s, q581a, q581b, q581c, q581d, q581e, q581f, p581_l, p581_r, p581_s, q582a, q582b, q582c, q582d, q582e, q582f, p582_l, p582_r, p582_s, q583a, q583b, q583c, q583d, q583e, q583f, p583_l, p583_r, p583_s, q584a, q584b, q584c, q584d, q584e, q584f, p584_l, p584_r, p584_s, q585a, q585b, q585c, q585d, q585e, q585f, p585_l, p585_r, p585_s, q586a, q586b, q586c, q586d, q586e, q586f, p586_l, p586_r, p586_s, q999a, q999b, q999c, q999d, q999e, q999f, p999_l, p999_r, p999_s, q1000a, q1000b, q1000c, q1000d, q1000e, q1000f, p1000_l, p1000_r, p1000_s, q2400a, q2400b, q2400c, q2400d, q2400e, q2400f, p2400_l, p2400_r, p2400_s, q9999a, q9999b, q9999c, q9999d, q9999e, q9999f, p9999_l, p9999_r, p9999_s, I00, I01, I10, I11, n_le, n_lt, n_eq, n_cl, n_add, n_ne9, n_ne1, if_true, if_false, Option.bind_some, if_pos, if_neg]
theorem act_ch {q : Nat} {Vc : Mm} (h1 : Vc (89 + 9 * q) 1 = 4) : eX5_act (89 + 9 * q) (91 + 9 * q) Vc = eX5_changeIds (89 + 9 * q) (91 + 9 * q) Vc := by
  unfold eX5_act
  rw [h1, if_neg (by decide), if_neg (by decide), if_neg (by decide), if_neg (by decide), if_pos rfl, some_pr]
theorem do_ch {q : Nat} {Vm : Mm} (hq : q < 12) (h21 : Vm 0 21 = nI q) (ht : Vm 5 q = 4) : eX6_doCall Vm = eX6_doChange Vm := by
  unfold eX6_doCall
  rw [h21]
  simp (disch := omega) only [q0a, q0b, q0c, q0d, q0e, q0f, p0_l, p0_r, p0_s, q1a, q1b, q1c, q1d, q1e, q1f, p1_l, p1_r, p1_s, q2a, q2b, q2c, q2d, q2e, q2f, p2_l, p2_r, p2_s, q3a, q3b, q3c, q3d, q3e, q3f, p3_l, p3_r, p3_s, q4a, q4b, q4c, q4d, q4e, q4f, p4_l, p4_r, p4_s, p4_m, q5a, q5b, q5c, q5d, q5e, q5f, p5_l, p5_r, p5_s, p5_m, q6a, q6b, q6c, q6d, q6e, q6f, p6_l, p6_r, p6_s, q7a, q7b, q7c, q7d, q7e, q7f, p7_l, p7_r, p7_s, q8a, q8b, q8c, q8d, q8e, q8f, p8_l, p8_r, p8_s, q9a, q9b, q9c, q9d, q9e, q9f, p9_l, p9_r, p9_s, q10a, q10b, q10c, q10d, q10e, q10f, p10_l, p10_r, p10_s, p10_m, q11a, q11b, q11c, q11d, q11e, q11f, p11_l, p11_r, p11_s, q12a, q12b, q12c, q12d, q12e, q12f, p12_l, p12_r, p12_s, q15a, q15b, q15c, q15d, q15e, q15f, p15_l, p15_r, p15_s, q19a, q19b, q19c, q19d, q19e, q19f, p19_l, p19_r, p19_s, q20a, q20b, q20c, q20d, q20e, q20f, p20_l, p20_r, p20_s, q31a, q31b, q31c, q31d, q31e, q31f, p31_l, p31_r, p31_s, q40a, q40b, q40c, q40d, q40e, q40f, p40_l, p40_r, p40_s, q48a, q48b, q48c, q48d, q48e, q48f, p48_l, p48_r, p48_s, q50a, q50b, q50c, q50d, q50e, q50f, p50_l, p50_r, p50_s, p50_m, q52a, q52b, q52c, q52d, q52e, q52f, p52_l, p52_r, p52_s, q60a, q60b, q60c, q60d, q60e, q60f, p60_l, p60_r, p60_s, q63a, q63b, q63c, q63d, q63e, q63f, p63_l, p63_r, p63_s, q80a, q80b, q80c, q80d, q80e, q80f, p80_l, p80_r, p80_s, q99a, q99b, q99c, q99d, q99e, q99f, p99_l, p99_r, p99_s, q100a, q100b, q100c, q100d, q100e, q100f, p100_l, p100_r, p100_s, q120a, q120b, q120c, q120d, q120e, q120f, p120_l, p120_r, p120_s, q240a, q240b, q240c, q240d, q240e, q240f, p240_l, p240_r, p240_s, q243a, q243b, q243c, q243d, q243e, q243f, p243_l, p243_r, p243_s, q244a, q244b, q244c, q244d, q244e, q244f, p244_l, p244_r, p244_s, q580a, q580b, q580c, q580d, q580e, q580f, p580_l, p580_r, p580_s, q581a, q581b, q581c, q581d, q581e, q581f, p581_l, p581_r, p581_s, q582a, q582b, q582c, q582d, q582e, q582f, p582_l, p582_r, p582_s, q583a, q583b, q583c, q583d, q583e, q583f, p583_l, p583_r, p583_s, q584a, q584b, q584c, q584d, q584e, q584f, p584_l, p584_r, p584_s, q585a, q585b, q585c, q585d, q585e, q585f, p585_l, p585_r, p585_s, q586a, q586b, q586c, q586d, q586e, q586f, p586_l, p586_r, p586_s, q999a, q999b, q999c, q999d, q999e, q999f, p999_l, p999_r, p999_s, q1000a, q1000b, q1000c, q1000d, q1000e, q1000f, p1000_l, p1000_r, p1000_s, q2400a, q2400b, q2400c, q2400d, q2400e, q2400f, p2400_l, p2400_r, p2400_s, q9999a, q9999b, q9999c, q9999d, q9999e, q9999f, p9999_l, p9999_r, p9999_s, I00, I01, I10, I11, n_le, n_lt, n_eq, n_cl, n_add, n_ne9, n_ne1, if_true, if_false, Option.bind_some, if_pos, if_neg, ht]
  exact some_pr
theorem ch_loop2 {κ q nb nm nt c : Nat} {ids : Nat → Nat} {W0 W1 : Mm} (hκ : κ < 2) (hq : q < 12) (h21 : W1 0 21 = nI q) (h20 : W1 0 20 = nI c) (c50 : c ≤ 50) (h16 : ∀ i, i < c → ids i < 2147483648 ∧ W1 16 i = nI (ids i)) (hd : ∀ i j, i < j → j < c → ids i ≠ ids j) (hw : WN (W1 1) nb nm nt) (hw0 : WN (W0 2) nb nm nt) (h2 : W1 2 = W0 2) (hev : ∀ l, l < c → ids l < evK nb nm nt κ) :
    ∀ d f j (W : Mm), j + d = c → d < f → mdRow q 2 W (chP W0 W1 nm κ ids) ids j → outM q W1 W → (∀ s, s < 4 → s ≠ 2 → W 9 (4 * q + s) = W1 9 (4 * q + s)) →
    ∃ W2 : Mm, eX6_doChange_b298 f (nI κ) (nI j) W = some (0, W2) ∧ mdRow q 2 W2 (chP W0 W1 nm κ ids) ids c ∧ outM q W1 W2 ∧ ∀ s, s < 4 → s ≠ 2 → W2 9 (4 * q + s) = W1 9 (4 * q + s) := by
  intro d
  induction d with
  | zero =>
    intro f j W hj hf h1 h2 h3
    obtain ⟨f, rfl⟩ : ∃ f', f = f' + 1 := ⟨f - 1, by omega⟩
    have : j = c := by omega
    subst this
    refine ⟨W, ?_, h1, h2, h3⟩
    rw [eX6_doChange_b298, h2.1 0 (by omega) (by omega), h20]
    simp (disch := omega) only [q0a, q0b, q0c, q0d, q0e, q0f, p0_l, p0_r, p0_s, q1a, q1b, q1c, q1d, q1e, q1f, p1_l, p1_r, p1_s, q2a, q2b, q2c, q2d, q2e, q2f, p2_l, p2_r, p2_s, q3a, q3b, q3c, q3d, q3e, q3f, p3_l, p3_r, p3_s, q4a, q4b, q4c, q4d, q4e, q4f, p4_l, p4_r, p4_s, p4_m, q5a, q5b, q5c, q5d, q5e, q5f, p5_l, p5_r, p5_s, p5_m, q6a, q6b, q6c, q6d, q6e, q6f, p6_l, p6_r, p6_s, q7a, q7b, q7c, q7d, q7e, q7f, p7_l, p7_r, p7_s, q8a, q8b, q8c, q8d, q8e, q8f, p8_l, p8_r, p8_s, q9a, q9b, q9c, q9d, q9e, q9f, p9_l, p9_r, p9_s, q10a, q10b, q10c, q10d, q10e, q10f, p10_l, p10_r, p10_s, p10_m, q11a, q11b, q11c, q11d, q11e, q11f, p11_l, p11_r, p11_s, q12a, q12b, q12c, q12d, q12e, q12f, p12_l, p12_r, p12_s, q15a, q15b, q15c, q15d, q15e, q15f, p15_l, p15_r, p15_s, q19a, q19b, q19c, q19d, q19e, q19f, p19_l, p19_r, p19_s, q20a, q20b, q20c, q20d, q20e, q20f, p20_l, p20_r, p20_s, q31a, q31b, q31c, q31d, q31e, q31f, p31_l, p31_r, p31_s, q40a, q40b, q40c, q40d, q40e, q40f, p40_l, p40_r, p40_s, q48a, q48b, q48c, q48d, q48e, q48f, p48_l, p48_r, p48_s, q50a, q50b, q50c, q50d, q50e, q50f, p50_l, p50_r, p50_s, p50_m, q52a, q52b, q52c, q52d, q52e, q52f, p52_l, p52_r, p52_s, q60a, q60b, q60c, q60d, q60e, q60f, p60_l, p60_r, p60_s, q63a, q63b, q63c, q63d, q63e, q63f, p63_l, p63_r, p63_s, q80a, q80b, q80c, q80d, q80e, q80f, p80_l, p80_r, p80_s, q99a, q99b, q99c, q99d, q99e, q99f, p99_l, p99_r, p99_s, q100a, q100b, q100c, q100d, q100e, q100f, p100_l, p100_r, p100_s, q120a, q120b, q120c, q120d, q120e, q120f, p120_l, p120_r, p120_s, q240a, q240b, q240c, q240d, q240e, q240f, p240_l, p240_r, p240_s, q243a, q243b, q243c, q243d, q243e, q243f, p243_l, p243_r, p243_s, q244a, q244b, q244c, q244d, q244e, q244f, p244_l, p244_r, p244_s, q580a, q580b, q580c, q580d, q580e, q580f, p580_l, p580_r, p580_s, q581a, q581b, q581c, q581d, q581e, q581f, p581_l, p581_r, p581_s, q582a, q582b, q582c, q582d, q582e, q582f, p582_l, p582_r, p582_s, q583a, q583b, q583c, q583d, q583e, q583f, p583_l, p583_r, p583_s, q584a, q584b, q584c, q584d, q584e, q584f, p584_l, p584_r, p584_s, q585a, q585b, q585c, q585d, q585e, q585f, p585_l, p585_r, p585_s, q586a, q586b, q586c, q586d, q586e, q586f, p586_l, p586_r, p586_s, q999a, q999b, q999c, q999d, q999e, q999f, p999_l, p999_r, p999_s, q1000a, q1000b, q1000c, q1000d, q1000e, q1000f, p1000_l, p1000_r, p1000_s, q2400a, q2400b, q2400c, q2400d, q2400e, q2400f, p2400_l, p2400_r, p2400_s, q9999a, q9999b, q9999c, q9999d, q9999e, q9999f, p9999_l, p9999_r, p9999_s, I00, I01, I10, I11, n_le, n_lt, n_eq, n_cl, n_add, n_ne9, n_ne1, if_true, if_false, Option.bind_some, if_pos, if_neg]
  | succ d ih =>
    intro f j W hj hf h1 h2' h3
    obtain ⟨f, rfl⟩ : ∃ f', f = f' + 1 := ⟨f - 1, by omega⟩
    have e16 : W 16 j = nI (ids j) := by rw [h2'.1 16 (by omega) (by omega)]; exact (h16 j (by omega)).2
    have e20 : W 0 20 = nI c := by rw [h2'.1 0 (by omega) (by omega)]; exact h20
    have e21 : W 0 21 = nI q := by rw [h2'.1 0 (by omega) (by omega)]; exact h21
    have eo : eX6_isOther (nI κ) (nI (ids j)) W = some (b2i (chP W0 W1 nm κ ids j = true)) := other_n (h2'.1 1 (by omega) (by omega)) ((h2'.1 2 (by omega) (by omega)).trans h2) hw hw0 (by omega) (hev j (by omega))
    rw [eX6_doChange_b298, e20]
    by_cases hp : chP W0 W1 nm κ ids j = true
    · obtain ⟨a1, W2, a2, a3, a4, a5⟩ := mdRow_T h1 hq hp (r := 2) (by omega) (by omega) (fun i hi => (h16 i (by omega)).1) (fun i hi => hd i j hi (by omega))
      obtain ⟨W3, b1, b2, b3, b4⟩ := ih f (j + 1) W2 (by omega) (by omega) a3 (outM_tr h2' a4) (fun s hs hs2 => by rw [a5 s hs hs2]; exact h3 s hs hs2)
      refine ⟨W3, ?_, b2, b3, b4⟩
      simp (disch := omega) only [q0a, q0b, q0c, q0d, q0e, q0f, p0_l, p0_r, p0_s, q1a, q1b, q1c, q1d, q1e, q1f, p1_l, p1_r, p1_s, q2a, q2b, q2c, q2d, q2e, q2f, p2_l, p2_r, p2_s, q3a, q3b, q3c, q3d, q3e, q3f, p3_l, p3_r, p3_s, q4a, q4b, q4c, q4d, q4e, q4f, p4_l, p4_r, p4_s, p4_m, q5a, q5b, q5c, q5d, q5e, q5f, p5_l, p5_r, p5_s, p5_m, q6a, q6b, q6c, q6d, q6e, q6f, p6_l, p6_r, p6_s, q7a, q7b, q7c, q7d, q7e, q7f, p7_l, p7_r, p7_s, q8a, q8b, q8c, q8d, q8e, q8f, p8_l, p8_r, p8_s, q9a, q9b, q9c, q9d, q9e, q9f, p9_l, p9_r, p9_s, q10a, q10b, q10c, q10d, q10e, q10f, p10_l, p10_r, p10_s, p10_m, q11a, q11b, q11c, q11d, q11e, q11f, p11_l, p11_r, p11_s, q12a, q12b, q12c, q12d, q12e, q12f, p12_l, p12_r, p12_s, q15a, q15b, q15c, q15d, q15e, q15f, p15_l, p15_r, p15_s, q19a, q19b, q19c, q19d, q19e, q19f, p19_l, p19_r, p19_s, q20a, q20b, q20c, q20d, q20e, q20f, p20_l, p20_r, p20_s, q31a, q31b, q31c, q31d, q31e, q31f, p31_l, p31_r, p31_s, q40a, q40b, q40c, q40d, q40e, q40f, p40_l, p40_r, p40_s, q48a, q48b, q48c, q48d, q48e, q48f, p48_l, p48_r, p48_s, q50a, q50b, q50c, q50d, q50e, q50f, p50_l, p50_r, p50_s, p50_m, q52a, q52b, q52c, q52d, q52e, q52f, p52_l, p52_r, p52_s, q60a, q60b, q60c, q60d, q60e, q60f, p60_l, p60_r, p60_s, q63a, q63b, q63c, q63d, q63e, q63f, p63_l, p63_r, p63_s, q80a, q80b, q80c, q80d, q80e, q80f, p80_l, p80_r, p80_s, q99a, q99b, q99c, q99d, q99e, q99f, p99_l, p99_r, p99_s, q100a, q100b, q100c, q100d, q100e, q100f, p100_l, p100_r, p100_s, q120a, q120b, q120c, q120d, q120e, q120f, p120_l, p120_r, p120_s, q240a, q240b, q240c, q240d, q240e, q240f, p240_l, p240_r, p240_s, q243a, q243b, q243c, q243d, q243e, q243f, p243_l, p243_r, p243_s, q244a, q244b, q244c, q244d, q244e, q244f, p244_l, p244_r, p244_s, q580a, q580b, q580c, q580d, q580e, q580f, p580_l, p580_r, p580_s, q581a, q581b, q581c, q581d, q581e, q581f, p581_l, p581_r, p581_s, q582a, q582b, q582c, q582d, q582e, q582f, p582_l, p582_r, p582_s, q583a, q583b, q583c, q583d, q583e, q583f, p583_l, p583_r, p583_s, q584a, q584b, q584c, q584d, q584e, q584f, p584_l, p584_r, p584_s, q585a, q585b, q585c, q585d, q585e, q585f, p585_l, p585_r, p585_s, q586a, q586b, q586c, q586d, q586e, q586f, p586_l, p586_r, p586_s, q999a, q999b, q999c, q999d, q999e, q999f, p999_l, p999_r, p999_s, q1000a, q1000b, q1000c, q1000d, q1000e, q1000f, p1000_l, p1000_r, p1000_s, q2400a, q2400b, q2400c, q2400d, q2400e, q2400f, p2400_l, p2400_r, p2400_s, q9999a, q9999b, q9999c, q9999d, q9999e, q9999f, p9999_l, p9999_r, p9999_s, I00, I01, I10, I11, n_le, n_lt, n_eq, n_cl, n_add, n_ne9, n_ne1, if_true, if_false, Option.bind_some, if_pos, if_neg, e16, eo, b2i_T hp, e21, show eX6_isGiven (nI q) 2 (nI (ids j)) W = _ from a1, show eX6_give (nI q) 2 (nI (ids j)) W = _ from a2]
      exact b1
    · obtain ⟨W3, b1, b2, b3, b4⟩ := ih f (j + 1) W (by omega) (by omega) (mdRow_F h1 (by simpa using hp)) h2' h3
      refine ⟨W3, ?_, b2, b3, b4⟩
      simp (disch := omega) only [q0a, q0b, q0c, q0d, q0e, q0f, p0_l, p0_r, p0_s, q1a, q1b, q1c, q1d, q1e, q1f, p1_l, p1_r, p1_s, q2a, q2b, q2c, q2d, q2e, q2f, p2_l, p2_r, p2_s, q3a, q3b, q3c, q3d, q3e, q3f, p3_l, p3_r, p3_s, q4a, q4b, q4c, q4d, q4e, q4f, p4_l, p4_r, p4_s, p4_m, q5a, q5b, q5c, q5d, q5e, q5f, p5_l, p5_r, p5_s, p5_m, q6a, q6b, q6c, q6d, q6e, q6f, p6_l, p6_r, p6_s, q7a, q7b, q7c, q7d, q7e, q7f, p7_l, p7_r, p7_s, q8a, q8b, q8c, q8d, q8e, q8f, p8_l, p8_r, p8_s, q9a, q9b, q9c, q9d, q9e, q9f, p9_l, p9_r, p9_s, q10a, q10b, q10c, q10d, q10e, q10f, p10_l, p10_r, p10_s, p10_m, q11a, q11b, q11c, q11d, q11e, q11f, p11_l, p11_r, p11_s, q12a, q12b, q12c, q12d, q12e, q12f, p12_l, p12_r, p12_s, q15a, q15b, q15c, q15d, q15e, q15f, p15_l, p15_r, p15_s, q19a, q19b, q19c, q19d, q19e, q19f, p19_l, p19_r, p19_s, q20a, q20b, q20c, q20d, q20e, q20f, p20_l, p20_r, p20_s, q31a, q31b, q31c, q31d, q31e, q31f, p31_l, p31_r, p31_s, q40a, q40b, q40c, q40d, q40e, q40f, p40_l, p40_r, p40_s, q48a, q48b, q48c, q48d, q48e, q48f, p48_l, p48_r, p48_s, q50a, q50b, q50c, q50d, q50e, q50f, p50_l, p50_r, p50_s, p50_m, q52a, q52b, q52c, q52d, q52e, q52f, p52_l, p52_r, p52_s, q60a, q60b, q60c, q60d, q60e, q60f, p60_l, p60_r, p60_s, q63a, q63b, q63c, q63d, q63e, q63f, p63_l, p63_r, p63_s, q80a, q80b, q80c, q80d, q80e, q80f, p80_l, p80_r, p80_s, q99a, q99b, q99c, q99d, q99e, q99f, p99_l, p99_r, p99_s, q100a, q100b, q100c, q100d, q100e, q100f, p100_l, p100_r, p100_s, q120a, q120b, q120c, q120d, q120e, q120f, p120_l, p120_r, p120_s, q240a, q240b, q240c, q240d, q240e, q240f, p240_l, p240_r, p240_s, q243a, q243b, q243c, q243d, q243e, q243f, p243_l, p243_r, p243_s, q244a, q244b, q244c, q244d, q244e, q244f, p244_l, p244_r, p244_s, q580a, q580b, q580c, q580d, q580e, q580f, p580_l, p580_r, p580_s, q581a, q581b, q581c, q581d, q581e, q581f, p581_l, p581_r, p581_s, q582a, q582b, q582c, q582d, q582e, q582f, p582_l, p582_r, p582_s, q583a, q583b, q583c, q583d, q583e, q583f, p583_l, p583_r, p583_s, q584a, q584b, q584c, q584d, q584e, q584f, p584_l, p584_r, p584_s, q585a, q585b, q585c, q585d, q585e, q585f, p585_l, p585_r, p585_s, q586a, q586b, q586c, q586d, q586e, q586f, p586_l, p586_r, p586_s, q999a, q999b, q999c, q999d, q999e, q999f, p999_l, p999_r, p999_s, q1000a, q1000b, q1000c, q1000d, q1000e, q1000f, p1000_l, p1000_r, p1000_s, q2400a, q2400b, q2400c, q2400d, q2400e, q2400f, p2400_l, p2400_r, p2400_s, q9999a, q9999b, q9999c, q9999d, q9999e, q9999f, p9999_l, p9999_r, p9999_s, I00, I01, I10, I11, n_le, n_lt, n_eq, n_cl, n_add, n_ne9, n_ne1, if_true, if_false, Option.bind_some, if_pos, if_neg, e16, eo, b2i_F hp]
      exact b1
theorem row0 {q r : Nat} {V W : Mm} (h1 : V (91 + 9 * q + 6) r = 0) (h2 : W 9 (4 * q + r) = 0) : rowRel V W q r :=
  ⟨0, by omega, h1, h2, fun i hi => absurd hi (by omega), fun i j _ hj => absurd hj (by omega), fun i hi => absurd hi (by omega)⟩
theorem rowsIn_0 {q : Nat} {V W : Mm} (h : rowsIn V W q (fun _ => 0) (fun _ _ => False)) : ∀ r, r < 4 → V (91 + 9 * q + 6) r = 0 ∧ W 9 (4 * q + r) = 0 := by
  intro r hr
  obtain ⟨c, c1, c2, c3, -⟩ := h r hr
  have : c = 0 := Nat.le_zero.mp c1
  subst this
  exact ⟨c2, c3⟩
theorem recI_lt {w : Nat → Int32} {nb nm nt κ x k : Nat} (hw : WN w nb nm nt) (hκ : κ < 2) (hx : x < evK nb nm nt κ) (hk : k < recN κ) : recI κ x k < 580 := by
  have b20 := hw.b20
  have b50 := hw.m50
  have hc : κ = 0 ∨ κ = 1 := by omega
  rcases hc with rfl | rfl
  · have hx' : x < nb := hx
    have hk' : k < 4 := hk
    show 4 * x + k < 580; omega
  · have hx' : x < nm := hx
    have hk' : k < 10 := hk
    show 80 + 10 * x + k < 580; omega
theorem change_call {q nb nm nt : Nat} {Vc Vm : Mm} (h : CS q Vc Vm nb nm nt) (ht : Vm 5 q = 4) : loud q Vc Vm nb nm nt := by
  obtain ⟨hA, hC, hW, hF, hfil, hlog, hinv, hcl, hrow, h2⟩ := id h
  obtain ⟨g1, g2, g3⟩ := id hA
  have hwn := WRel_WN hW
  have b20 := hwn.b20
  have b50 := hwn.m50
  have hM := chF_n hC ht
  have hrow0 := rowsIn_0 hrow
  have hwn2 : WN (Vm 2) nb nm nt := ⟨hwn.b20, hwn.m50, hwn.tm, by rw [h2 580 (by omega)]; exact hwn.eb, by rw [h2 581 (by omega)]; exact hwn.em, by rw [h2 582 (by omega)]; exact hwn.et⟩
  unfold loud
  rw [do_ch g1 g2 ht]
  rcases ch_check hA hM with ⟨r, r0, r1, r2⟩ | ⟨r1, hN, κ, u, v, hκ, hu, eκ, eu, hv, hvi, hmm⟩
  · exact ⟨r, Vc, Vm, callC_r r1 r0, r2, frC_rfl, frM_rfl, Or.inr ⟨r0, hW, hcl⟩⟩
  · obtain ⟨c, ids, V1, W1, t1, t2, t3, t4, t5⟩ := take_n hA (a1 := 89 + 9 * q) ⟨by omega, by omega⟩ hN
    have hfield : ∀ k, V1 (89 + 9 * q) k = Vc (89 + 9 * q) k := fun k => by rw [t4.1 (89 + 9 * q) (by omega) (by omega)]
    obtain ⟨V2, k1, k2, k3, k4, k5, k6⟩ := keepAll_n (V0 := V1)
    rw [callC_0 r1, act_ch hM.1, hmm W1 t2 (t5.1 10 (by omega) (by omega))]
    have hcls : eX5_changeIds (89 + 9 * q) (91 + 9 * q) Vc = eX5_changeIds_b67 fu (89 + 9 * q) (91 + 9 * q) (oK κ) v 0 V2 := by
      unfold eX5_changeIds
      rw [t1, Option.bind_some, hfield 2, eκ, kindOf_n (by omega), Option.bind_some]
      by_cases htl : tl κ u
      · rw [tell_T hκ hu (by rw [hfield 2]; exact eκ) (by rw [hfield 5]; exact eu) htl, Option.bind_some, if_neg (by decide), hfield 6]
        have hc : κ = 0 ∨ κ = 1 := by omega
        rcases hc with rfl | rfl
        · have hpv := hvi.2.1 htl rfl
          have : eX5_parentOf (Vc (89 + 9 * q) 6) V1 = some v := by
            rw [← hpv]
            unfold eX5_parentOf
            rw [idOf_fr2 (V := Vc) (W := V1) t4.1]
          rw [if_pos (show nI 0 = 0 from rfl), this, Option.bind_some, k1, Option.bind_some]
        · have hpv := hvi.2.2 htl rfl
          have : eX5_idOf (Vc (89 + 9 * q) 6) V1 = some v := by
            rw [← hpv]
            exact idOf_fr2 (V := Vc) (W := V1) t4.1
          rw [if_neg (show ¬ nI 1 = 0 by decide), this, Option.bind_some, k1, Option.bind_some]
      · rw [tell_F hκ hu (by rw [hfield 2]; exact eκ) (by rw [hfield 5]; exact eu) htl, Option.bind_some, if_pos rfl, k1, Option.bind_some, hfield 6, ← hvi.1 htl]
    rw [hcls]
    have hW11 : W1 1 = Vm 1 := t5.1 1 (by omega) (by omega)
    have hW12 : W1 2 = Vm 2 := t5.1 2 (by omega) (by omega)
    have hWk : WRel V1 (Vm 1) nb nm nt := WRel_stay hW (fun k a b => t4.1 k (by omega) (by omega))
    have hV2 : WRel V2 (Vm 1) nb nm nt := WRel_pt hWk (fun κ' hκ' => ⟨k4 κ' 3 hκ' (by omega), k4 κ' 4 hκ' (by omega), k4 κ' 6 hκ' (by omega)⟩) (fun κ' x i hκ' hx _ => by rw [k5 κ' x hκ' hx])
    have hids2 : idsRel V2 W1 c ids := by
      obtain ⟨a, b, d, e, f⟩ := t3
      exact ⟨a, by rw [k3 0 (by omega)]; exact b, d, fun i hi => ⟨(e i hi).1, by rw [k3 88 (by omega)]; exact (e i hi).2.1, (e i hi).2.2⟩, f⟩
    have hTT : TT V2 (whatK (W1 2) (W1 1) nb nm nt nb nm nt) := by
      have z := TT_clean hcl
      refine TT_congr (τ := fun _ _ => 0) ?_ (fun κ' i hκ' hi => by rw [hW11, hW12, whatK_c0 (v0 := Vm 1) h2 hwn2 hwn hκ', whatK_self])
      intro κ' hκ'
      have := oK_b hκ'
      have h23 : oK κ' + 23 < 88 := by unfold oK; omega
      rw [k6 κ' hκ', k4 κ' 7 hκ' (by omega), t4.1 (oK κ' + 23) (by omega) (by omega), t4.1 (oK κ') (by omega) (by omega)]
      exact z κ' hκ'
    have hcI : chI κ q V1 V2 W1 V2 W1 nb nm nt ids 0 := by
      refine ⟨by rw [hW11]; exact hV2, by rw [hW11]; exact hF, k2, hTT, fun κ' i hκ' => by rw [hW11, hW12]; exact (isThb_c0 h2 hwn2 hκ').symm, fun _ _ => rfl, fun x hx _ k hk => ?_, fun _ _ _ => rfl, fun _ _ => rfl, ⟨?_, fun l hl => absurd hl (by omega)⟩, fun r hr _ => ?_, fun l hl => absurd hl (by omega)⟩
      · have := recI_lt hwn hκ hx hk
        rw [hW11, hW12]; exact (h2 _ (by omega)).symm
      · rw [k3 _ (by omega), t4.1 _ (by omega) (by omega)]; exact (hrow0 2 (by omega)).1
      · rw [k3 _ (by omega), t4.1 _ (by omega) (by omega)]; exact (hrow0 r hr).1
    have hstep : ∀ (V W : Mm) (x : Nat), WRel V (W 1) nb nm nt → WF (W 1) nb nm nt → x < 2147483648 → (∀ k, (k < 4 ∨ 75 < k) → (k < 93 + 9 * q ∨ 97 + 9 * q < k) → V k = V2 k) → (∀ k, k ≠ 1 → W k = W1 k) → chStep κ (cfC κ (nI x) (nI u) v V) (cfM κ (nI x) (nI u) v W) V W x nb nm nt := by
      intro V W x a b d _ _
      have hc : κ = 0 ∨ κ = 1 := by omega
      rcases hc with rfl | rfl
      · exact chB_step a b d hu (hv.1 rfl)
      · obtain ⟨y, y1, y2, y3⟩ := hv.2 rfl
        rw [y2]
        exact chM_step a b d hu y1 y3
    have hfr2 : frC q Vc V2 := frC_tr (own_frC t4) ⟨fun k _ b _ _ _ => k3 k b, fun x _ => by rw [k3 0 (by omega)]⟩
    rcases ch_loop (u := nI u) hκ hids2 hWk (by rw [k3 _ (by omega), hfield 2]; exact eκ) (by rw [k3 _ (by omega), hfield 5]; exact eu) hstep c fu fu 0 V2 W1 (by omega) (by have := t3.1; unfold fu; omega) (by have := t3.1; unfold fu; omega) hcI with ⟨code, V', W', c0, e1, e2, e3, e4, e5, e6⟩ | ⟨V', W', e1, e2, e3⟩
    · refine ⟨code, V', W', e1, e2, frC_tr hfr2 ⟨fun k _ b _ _ e => e5 k b e, fun x _ => by rw [e5 0 (by omega) (by omega)]⟩, frM_tr (own_frM t5) ⟨fun k _ b _ _ _ _ _ => e6 k b, fun x _ => by rw [e6 0 (by omega)], fun i _ => by rw [e6 9 (by omega)], fun i _ => by rw [e6 10 (by omega)]⟩, Or.inr ⟨c0, e3, e4⟩⟩
    · obtain ⟨I1, I2, I3, I4, I5, I6, I7, I8, I9, I10, I11, I12⟩ := id e3
      have hw0 : WN (W1 2) nb nm nt := by rw [hW12]; exact hwn2
      have hm0 : ∀ r, r < 4 → W' 9 (4 * q + r) = 0 := fun r hr => by rw [I9 9 (by omega), t5.1 9 (by omega) (by omega)]; exact (hrow0 r hr).2
      obtain ⟨W2, l1, l2, l3, l4⟩ := ch_loop2 (W0 := W1) (W1 := W') hκ g1 (by rw [I9 0 (by omega), t5.2 21 (by omega)]; exact g2) (by rw [I9 0 (by omega)]; exact hids2.2.2.1) t3.1 (fun i hi => ⟨(hids2.2.2.2.1 i hi).1, by rw [I9 16 (by omega)]; exact (hids2.2.2.2.1 i hi).2.2⟩) hids2.2.2.2.2 (WRel_WN I1) hw0 (I9 2 (by omega)) (fun l hl => (I12 l hl).1)
        c fu 0 W' (by omega) (by have := t3.1; unfold fu; omega) ⟨hm0 2 (by omega), fun l hl => absurd hl (by omega)⟩ outM_rfl (fun _ _ _ => rfl)
      have eW : W2 1 = W' 1 := l3.1 1 (by omega) (by omega)
      refine ⟨0, V', W2, e1, by rw [show eX6_doChange_b235 fu (nI κ) (nI u) v 0 W1 = _ from e2]; exact l1, frC_tr hfr2 ⟨fun k _ b _ _ e => I8 k b e, fun x _ => by rw [I8 0 (by omega) (by omega)]⟩, frM_tr (frM_tr (own_frM t5) ⟨fun k _ b _ _ _ _ _ => I9 k b, fun x _ => by rw [I9 0 (by omega)], fun i _ => by rw [I9 9 (by omega)], fun i _ => by rw [I9 10 (by omega)]⟩) (out_frM l3), Or.inl ⟨rfl, fun r hr => ?_, nb, nm, nt, by rw [eW]; exact I1, by rw [eW]; exact I2, ⟨Nat.le_refl _, Nat.le_refl _, Nat.le_refl _, fun κ' i hκ' _ hth => ?_, fun κ' hκ' => by rw [eW, I6 κ' hκ', hW11]⟩, ?_⟩⟩
      · by_cases er : r = 2
        · subst er
          exact rowFin I10 l2 t3.1 (fun i hi => (hids2.2.2.2.1 i hi).1) hids2.2.2.2.2
        · exact row0 (I11 r hr er) (by rw [l4 r hr er]; exact hm0 r hr)
      · rw [eW] at hth
        show isThb _ _ _ _ _ _ = true
        rw [← isThb_c0 h2 hwn2 hκ', ← hW12, ← I5 κ' i hκ']
        exact hth
      · rw [eW]
        exact TT_congr I4 (fun κ' i hκ' hi => by rw [hW12, whatK_c0 (v0 := Vm 1) h2 hwn2 (WRel_WN I1) hκ'])
