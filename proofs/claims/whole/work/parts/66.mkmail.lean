
/-! MAKE of a mail: done -/
theorem dr_wr {k : Int32} {W : Mm} {j : Nat} {y : Int32} : eX6_drafted k (wr W 1 j y) = eX6_drafted k W := by
  unfold eX6_drafted
  simp (disch := omega) only [wr_ne]
def mkM (U : Mm) (nm : Nat) (D : Nat → Int32) (x y : Int32) : Mm := wr (wr (wr (wr (wr (wr (wr (wr (wr (wr (wr U 1 581 (nI (nm + 1))) 1 (80 + 10 * nm) 1) 1 (80 + 10 * nm + 1) (D 3)) 1 (80 + 10 * nm + 2) (D 4)) 1 (80 + 10 * nm + 3) (nm9 (D 5))) 1 (80 + 10 * nm + 4) (nm9 (D 6))) 1 (80 + 10 * nm + 5) (D 7)) 1 (80 + 10 * nm + 6) (D 8)) 1 (80 + 10 * nm + 7) (D 9)) 1 (80 + 10 * nm + 8) x) 1 (80 + 10 * nm + 9) y
theorem b369_n {q nm : Nat} {U : Mm} {D : Nat → Int32} {i x : Int32} {s : Int32} (h50 : nm < 50) (hD : ∀ k : Nat, k < 10 → eX6_drafted (nI k) U = some (D k)) (h21 : U 0 21 = nI q) :
    eX6_makeMail_b369 i x (nI nm) (nI (80 + 10 * nm)) (nI (80 + 10 * nm + 4)) s U = (eX6_give (nI q) 1 (nI nm) (wr (wr (wr (wr (wr (wr U 1 (80 + 10 * nm + 4) s) 1 (80 + 10 * nm + 5) (D 7)) 1 (80 + 10 * nm + 6) (D 8)) 1 (80 + 10 * nm + 7) (D 9)) 1 (80 + 10 * nm + 8) x) 1 (80 + 10 * nm + 9) ((1 : Int32) <<< (i &&& 31)))).bind fun r => some (0, r) := by
  have D7 : eX6_drafted 7 U = some (D 7) := hD 7 (by omega)
  have D8 : eX6_drafted 8 U = some (D 8) := hD 8 (by omega)
  have D9 : eX6_drafted 9 U = some (D 9) := hD 9 (by omega)
  unfold eX6_makeMail_b369
  rw [h21]
  simp (disch := omega) only [q0a, q0b, q0c, q0d, q0e, q0f, p0_l, p0_r, p0_s, q1a, q1b, q1c, q1d, q1e, q1f, p1_l, p1_r, p1_s, q2a, q2b, q2c, q2d, q2e, q2f, p2_l, p2_r, p2_s, q3a, q3b, q3c, q3d, q3e, q3f, p3_l, p3_r, p3_s, q4a, q4b, q4c, q4d, q4e, q4f, p4_l, p4_r, p4_s, p4_m, q5a, q5b, q5c, q5d, q5e, q5f, p5_l, p5_r, p5_s, p5_m, q6a, q6b, q6c, q6d, q6e, q6f, p6_l, p6_r, p6_s, q7a, q7b, q7c, q7d, q7e, q7f, p7_l, p7_r, p7_s, q8a, q8b, q8c, q8d, q8e, q8f, p8_l, p8_r, p8_s, q9a, q9b, q9c, q9d, q9e, q9f, p9_l, p9_r, p9_s, q10a, q10b, q10c, q10d, q10e, q10f, p10_l, p10_r, p10_s, p10_m, q11a, q11b, q11c, q11d, q11e, q11f, p11_l, p11_r, p11_s, q12a, q12b, q12c, q12d, q12e, q12f, p12_l, p12_r, p12_s, q15a, q15b, q15c, q15d, q15e, q15f, p15_l, p15_r, p15_s, q19a, q19b, q19c, q19d, q19e, q19f, p19_l, p19_r, p19_s, q20a, q20b, q20c, q20d, q20e, q20f, p20_l, p20_r, p20_s, q31a, q31b, q31c, q31d, q31e, q31f, p31_l, p31_r, p31_s, q40a, q40b, q40c, q40d, q40e, q40f, p40_l, p40_r, p40_s, q48a, q48b, q48c, q48d, q48e, q48f, p48_l, p48_r, p48_s, q50a, q50b, q50c, q50d, q50e, q50f, p50_l, p50_r, p50_s, p50_m, q52a, q52b, q52c, q52d, q52e, q52f, p52_l, p52_r, p52_s, q60a, q60b, q60c, q60d, q60e, q60f, p60_l, p60_r, p60_s, q63a, q63b, q63c, q63d, q63e, q63f, p63_l, p63_r, p63_s, q80a, q80b, q80c, q80d, q80e, q80f, p80_l, p80_r, p80_s, q99a, q99b, q99c, q99d, q99e, q99f, p99_l, p99_r, p99_s, q100a, q100b, q100c, q100d, q100e, q100f, p100_l, p100_r, p100_s, q120a, q120b, q120c, q120d, q120e, q120f, p120_l, p120_r, p120_s, q240a, q240b, q240c, q240d, q240e, q240f, p240_l, p240_r, p240_s, q243a, q243b, q243c, q243d, q243e, q243f, p243_l, p243_r, p243_s, q244a, q244b, q244c, q244d, q244e, q244f, p244_l, p244_r, p244_s, q580a, q580b, q580c, q580d, q580e, q580f, p580_l, p580_r, p580_s, q581a, q581b, q581c, q581d, q581e, q581f, p581_l, p581_r, p581_s, q582a, q582b, q582c, q582d, q582e, q582f, p582_l, p582_r, p582_s, q583a, q583b, q583c, q583d, q583e, q583f, p583_l, p583_r, p583_s, q584a, q584b, q584c, q584d, q584e, q584f, p584_l, p584_r, p584_s, q585a, q585b, q585c, q585d, q585e, q585f, p585_l, p585_r, p585_s, q586a, q586b, q586c, q586d, q586e, q586f, p586_l, p586_r, p586_s, q999a, q999b, q999c, q999d, q999e, q999f, p999_l, p999_r, p999_s, q1000a, q1000b, q1000c, q1000d, q1000e, q1000f, p1000_l, p1000_r, p1000_s, q2400a, q2400b, q2400c, q2400d, q2400e, q2400f, p2400_l, p2400_r, p2400_s, q9999a, q9999b, q9999c, q9999d, q9999e, q9999f, p9999_l, p9999_r, p9999_s, I00, I01, I10, I11, n_le, n_lt, n_eq, n_cl, n_add, n_ne9, n_ne1, if_true, if_false, Option.bind_some, if_pos, if_neg, dr_wr, D7, D8, D9]
theorem b240_n {q nm : Nat} {U : Mm} {D : Nat → Int32} {i x : Int32} (h50 : nm < 50) (hD : ∀ k : Nat, k < 10 → eX6_drafted (nI k) U = some (D k)) (h21 : U 0 21 = nI q) (hU : U 1 581 = nI nm) :
    eX6_makeMail_b240 i x U = (eX6_give (nI q) 1 (nI nm) (mkM U nm D x ((1 : Int32) <<< (i &&& 31)))).bind fun r => some (0, r) := by
  have D3 : eX6_drafted 3 U = some (D 3) := hD 3 (by omega)
  have D4 : eX6_drafted 4 U = some (D 4) := hD 4 (by omega)
  have D5 : eX6_drafted 5 U = some (D 5) := hD 5 (by omega)
  have D6 : eX6_drafted 6 U = some (D 6) := hD 6 (by omega)
  have fin : ∀ (W : Mm) (s : Int32), (∀ k : Nat, eX6_drafted (nI k) W = eX6_drafted (nI k) U) → W 0 = U 0 → eX6_makeMail_b369 i x (nI nm) (nI (80 + 10 * nm)) (nI (80 + 10 * nm + 4)) s W = (eX6_give (nI q) 1 (nI nm) (wr (wr (wr (wr (wr (wr W 1 (80 + 10 * nm + 4) s) 1 (80 + 10 * nm + 5) (D 7)) 1 (80 + 10 * nm + 6) (D 8)) 1 (80 + 10 * nm + 7) (D 9)) 1 (80 + 10 * nm + 8) x) 1 (80 + 10 * nm + 9) ((1 : Int32) <<< (i &&& 31)))).bind fun r => some (0, r) :=
    fun W s h1 h2 => b369_n h50 (fun k hk => by rw [h1 k]; exact hD k hk) (by rw [h2]; exact h21)
  unfold eX6_makeMail_b240 mkM nm9
  rw [hU]
  by_cases c5 : D 5 = 1000
  · by_cases c6 : D 6 = 1000
    · simp (disch := omega) only [q0a, q0b, q0c, q0d, q0e, q0f, p0_l, p0_r, p0_s, q1a, q1b, q1c, q1d, q1e, q1f, p1_l, p1_r, p1_s, q2a, q2b, q2c, q2d, q2e, q2f, p2_l, p2_r, p2_s, q3a, q3b, q3c, q3d, q3e, q3f, p3_l, p3_r, p3_s, q4a, q4b, q4c, q4d, q4e, q4f, p4_l, p4_r, p4_s, p4_m, q5a, q5b, q5c, q5d, q5e, q5f, p5_l, p5_r, p5_s, p5_m, q6a, q6b, q6c, q6d, q6e, q6f, p6_l, p6_r, p6_s, q7a, q7b, q7c, q7d, q7e, q7f, p7_l, p7_r, p7_s, q8a, q8b, q8c, q8d, q8e, q8f, p8_l, p8_r, p8_s, q9a, q9b, q9c, q9d, q9e, q9f, p9_l, p9_r, p9_s, q10a, q10b, q10c, q10d, q10e, q10f, p10_l, p10_r, p10_s, p10_m, q11a, q11b, q11c, q11d, q11e, q11f, p11_l, p11_r, p11_s, q12a, q12b, q12c, q12d, q12e, q12f, p12_l, p12_r, p12_s, q15a, q15b, q15c, q15d, q15e, q15f, p15_l, p15_r, p15_s, q19a, q19b, q19c, q19d, q19e, q19f, p19_l, p19_r, p19_s, q20a, q20b, q20c, q20d, q20e, q20f, p20_l, p20_r, p20_s, q31a, q31b, q31c, q31d, q31e, q31f, p31_l, p31_r, p31_s, q40a, q40b, q40c, q40d, q40e, q40f, p40_l, p40_r, p40_s, q48a, q48b, q48c, q48d, q48e, q48f, p48_l, p48_r, p48_s, q50a, q50b, q50c, q50d, q50e, q50f, p50_l, p50_r, p50_s, p50_m, q52a, q52b, q52c, q52d, q52e, q52f, p52_l, p52_r, p52_s, q60a, q60b, q60c, q60d, q60e, q60f, p60_l, p60_r, p60_s, q63a, q63b, q63c, q63d, q63e, q63f, p63_l, p63_r, p63_s, q80a, q80b, q80c, q80d, q80e, q80f, p80_l, p80_r, p80_s, q99a, q99b, q99c, q99d, q99e, q99f, p99_l, p99_r, p99_s, q100a, q100b, q100c, q100d, q100e, q100f, p100_l, p100_r, p100_s, q120a, q120b, q120c, q120d, q120e, q120f, p120_l, p120_r, p120_s, q240a, q240b, q240c, q240d, q240e, q240f, p240_l, p240_r, p240_s, q243a, q243b, q243c, q243d, q243e, q243f, p243_l, p243_r, p243_s, q244a, q244b, q244c, q244d, q244e, q244f, p244_l, p244_r, p244_s, q580a, q580b, q580c, q580d, q580e, q580f, p580_l, p580_r, p580_s, q581a, q581b, q581c, q581d, q581e, q581f, p581_l, p581_r, p581_s, q582a, q582b, q582c, q582d, q582e, q582f, p582_l, p582_r, p582_s, q583a, q583b, q583c, q583d, q583e, q583f, p583_l, p583_r, p583_s, q584a, q584b, q584c, q584d, q584e, q584f, p584_l, p584_r, p584_s, q585a, q585b, q585c, q585d, q585e, q585f, p585_l, p585_r, p585_s, q586a, q586b, q586c, q586d, q586e, q586f, p586_l, p586_r, p586_s, q999a, q999b, q999c, q999d, q999e, q999f, p999_l, p999_r, p999_s, q1000a, q1000b, q1000c, q1000d, q1000e, q1000f, p1000_l, p1000_r, p1000_s, q2400a, q2400b, q2400c, q2400d, q2400e, q2400f, p2400_l, p2400_r, p2400_s, q9999a, q9999b, q9999c, q9999d, q9999e, q9999f, p9999_l, p9999_r, p9999_s, I00, I01, I10, I11, n_le, n_lt, n_eq, n_cl, n_add, n_ne9, n_ne1, if_true, if_false, Option.bind_some, if_pos, if_neg, dr_wr, D3, D4, D5, D6, if_pos c5, if_pos c6]
      exact fin _ _ (fun k => by simp only [dr_wr]) (by simp (disch := omega) only [wr_ne])
    · simp (disch := omega) only [q0a, q0b, q0c, q0d, q0e, q0f, p0_l, p0_r, p0_s, q1a, q1b, q1c, q1d, q1e, q1f, p1_l, p1_r, p1_s, q2a, q2b, q2c, q2d, q2e, q2f, p2_l, p2_r, p2_s, q3a, q3b, q3c, q3d, q3e, q3f, p3_l, p3_r, p3_s, q4a, q4b, q4c, q4d, q4e, q4f, p4_l, p4_r, p4_s, p4_m, q5a, q5b, q5c, q5d, q5e, q5f, p5_l, p5_r, p5_s, p5_m, q6a, q6b, q6c, q6d, q6e, q6f, p6_l, p6_r, p6_s, q7a, q7b, q7c, q7d, q7e, q7f, p7_l, p7_r, p7_s, q8a, q8b, q8c, q8d, q8e, q8f, p8_l, p8_r, p8_s, q9a, q9b, q9c, q9d, q9e, q9f, p9_l, p9_r, p9_s, q10a, q10b, q10c, q10d, q10e, q10f, p10_l, p10_r, p10_s, p10_m, q11a, q11b, q11c, q11d, q11e, q11f, p11_l, p11_r, p11_s, q12a, q12b, q12c, q12d, q12e, q12f, p12_l, p12_r, p12_s, q15a, q15b, q15c, q15d, q15e, q15f, p15_l, p15_r, p15_s, q19a, q19b, q19c, q19d, q19e, q19f, p19_l, p19_r, p19_s, q20a, q20b, q20c, q20d, q20e, q20f, p20_l, p20_r, p20_s, q31a, q31b, q31c, q31d, q31e, q31f, p31_l, p31_r, p31_s, q40a, q40b, q40c, q40d, q40e, q40f, p40_l, p40_r, p40_s, q48a, q48b, q48c, q48d, q48e, q48f, p48_l, p48_r, p48_s, q50a, q50b, q50c, q50d, q50e, q50f, p50_l, p50_r, p50_s, p50_m, q52a, q52b, q52c, q52d, q52e, q52f, p52_l, p52_r, p52_s, q60a, q60b, q60c, q60d, q60e, q60f, p60_l, p60_r, p60_s, q63a, q63b, q63c, q63d, q63e, q63f, p63_l, p63_r, p63_s, q80a, q80b, q80c, q80d, q80e, q80f, p80_l, p80_r, p80_s, q99a, q99b, q99c, q99d, q99e, q99f, p99_l, p99_r, p99_s, q100a, q100b, q100c, q100d, q100e, q100f, p100_l, p100_r, p100_s, q120a, q120b, q120c, q120d, q120e, q120f, p120_l, p120_r, p120_s, q240a, q240b, q240c, q240d, q240e, q240f, p240_l, p240_r, p240_s, q243a, q243b, q243c, q243d, q243e, q243f, p243_l, p243_r, p243_s, q244a, q244b, q244c, q244d, q244e, q244f, p244_l, p244_r, p244_s, q580a, q580b, q580c, q580d, q580e, q580f, p580_l, p580_r, p580_s, q581a, q581b, q581c, q581d, q581e, q581f, p581_l, p581_r, p581_s, q582a, q582b, q582c, q582d, q582e, q582f, p582_l, p582_r, p582_s, q583a, q583b, q583c, q583d, q583e, q583f, p583_l, p583_r, p583_s, q584a, q584b, q584c, q584d, q584e, q584f, p584_l, p584_r, p584_s, q585a, q585b, q585c, q585d, q585e, q585f, p585_l, p585_r, p585_s, q586a, q586b, q586c, q586d, q586e, q586f, p586_l, p586_r, p586_s, q999a, q999b, q999c, q999d, q999e, q999f, p999_l, p999_r, p999_s, q1000a, q1000b, q1000c, q1000d, q1000e, q1000f, p1000_l, p1000_r, p1000_s, q2400a, q2400b, q2400c, q2400d, q2400e, q2400f, p2400_l, p2400_r, p2400_s, q9999a, q9999b, q9999c, q9999d, q9999e, q9999f, p9999_l, p9999_r, p9999_s, I00, I01, I10, I11, n_le, n_lt, n_eq, n_cl, n_add, n_ne9, n_ne1, if_true, if_false, Option.bind_some, if_pos, if_neg, dr_wr, D3, D4, D5, D6, if_pos c5, if_neg c6]
      exact fin _ _ (fun k => by simp only [dr_wr]) (by simp (disch := omega) only [wr_ne])
  · by_cases c6 : D 6 = 1000
    · simp (disch := omega) only [q0a, q0b, q0c, q0d, q0e, q0f, p0_l, p0_r, p0_s, q1a, q1b, q1c, q1d, q1e, q1f, p1_l, p1_r, p1_s, q2a, q2b, q2c, q2d, q2e, q2f, p2_l, p2_r, p2_s, q3a, q3b, q3c, q3d, q3e, q3f, p3_l, p3_r, p3_s, q4a, q4b, q4c, q4d, q4e, q4f, p4_l, p4_r, p4_s, p4_m, q5a, q5b, q5c, q5d, q5e, q5f, p5_l, p5_r, p5_s, p5_m, q6a, q6b, q6c, q6d, q6e, q6f, p6_l, p6_r, p6_s, q7a, q7b, q7c, q7d, q7e, q7f, p7_l, p7_r, p7_s, q8a, q8b, q8c, q8d, q8e, q8f, p8_l, p8_r, p8_s, q9a, q9b, q9c, q9d, q9e, q9f, p9_l, p9_r, p9_s, q10a, q10b, q10c, q10d, q10e, q10f, p10_l, p10_r, p10_s, p10_m, q11a, q11b, q11c, q11d, q11e, q11f, p11_l, p11_r, p11_s, q12a, q12b, q12c, q12d, q12e, q12f, p12_l, p12_r, p12_s, q15a, q15b, q15c, q15d, q15e, q15f, p15_l, p15_r, p15_s, q19a, q19b, q19c, q19d, q19e, q19f, p19_l, p19_r, p19_s, q20a, q20b, q20c, q20d, q20e, q20f, p20_l, p20_r, p20_s, q31a, q31b, q31c, q31d, q31e, q31f, p31_l, p31_r, p31_s, q40a, q40b, q40c, q40d, q40e, q40f, p40_l, p40_r, p40_s, q48a, q48b, q48c, q48d, q48e, q48f, p48_l, p48_r, p48_s, q50a, q50b, q50c, q50d, q50e, q50f, p50_l, p50_r, p50_s, p50_m, q52a, q52b, q52c, q52d, q52e, q52f, p52_l, p52_r, p52_s, q60a, q60b, q60c, q60d, q60e, q60f, p60_l, p60_r, p60_s, q63a, q63b, q63c, q63d, q63e, q63f, p63_l, p63_r, p63_s, q80a, q80b, q80c, q80d, q80e, q80f, p80_l, p80_r, p80_s, q99a, q99b, q99c, q99d, q99e, q99f, p99_l, p99_r, p99_s, q100a, q100b, q100c, q100d, q100e, q100f, p100_l, p100_r, p100_s, q120a, q120b, q120c, q120d, q120e, q120f, p120_l, p120_r, p120_s, q240a, q240b, q240c, q240d, q240e, q240f, p240_l, p240_r, p240_s, q243a, q243b, q243c, q243d, q243e, q243f, p243_l, p243_r, p243_s, q244a, q244b, q244c, q244d, q244e, q244f, p244_l, p244_r, p244_s, q580a, q580b, q580c, q580d, q580e, q580f, p580_l, p580_r, p580_s, q581a, q581b, q581c, q581d, q581e, q581f, p581_l, p581_r, p581_s, q582a, q582b, q582c, q582d, q582e, q582f, p582_l, p582_r, p582_s, q583a, q583b, q583c, q583d, q583e, q583f, p583_l, p583_r, p583_s, q584a, q584b, q584c, q584d, q584e, q584f, p584_l, p584_r, p584_s, q585a, q585b, q585c, q585d, q585e, q585f, p585_l, p585_r, p585_s, q586a, q586b, q586c, q586d, q586e, q586f, p586_l, p586_r, p586_s, q999a, q999b, q999c, q999d, q999e, q999f, p999_l, p999_r, p999_s, q1000a, q1000b, q1000c, q1000d, q1000e, q1000f, p1000_l, p1000_r, p1000_s, q2400a, q2400b, q2400c, q2400d, q2400e, q2400f, p2400_l, p2400_r, p2400_s, q9999a, q9999b, q9999c, q9999d, q9999e, q9999f, p9999_l, p9999_r, p9999_s, I00, I01, I10, I11, n_le, n_lt, n_eq, n_cl, n_add, n_ne9, n_ne1, if_true, if_false, Option.bind_some, if_pos, if_neg, dr_wr, D3, D4, D5, D6, if_neg c5, if_pos c6]
      exact fin _ _ (fun k => by simp only [dr_wr]) (by simp (disch := omega) only [wr_ne])
    · simp (disch := omega) only [q0a, q0b, q0c, q0d, q0e, q0f, p0_l, p0_r, p0_s, q1a, q1b, q1c, q1d, q1e, q1f, p1_l, p1_r, p1_s, q2a, q2b, q2c, q2d, q2e, q2f, p2_l, p2_r, p2_s, q3a, q3b, q3c, q3d, q3e, q3f, p3_l, p3_r, p3_s, q4a, q4b, q4c, q4d, q4e, q4f, p4_l, p4_r, p4_s, p4_m, q5a, q5b, q5c, q5d, q5e, q5f, p5_l, p5_r, p5_s, p5_m, q6a, q6b, q6c, q6d, q6e, q6f, p6_l, p6_r, p6_s, q7a, q7b, q7c, q7d, q7e, q7f, p7_l, p7_r, p7_s, q8a, q8b, q8c, q8d, q8e, q8f, p8_l, p8_r, p8_s, q9a, q9b, q9c, q9d, q9e, q9f, p9_l, p9_r, p9_s, q10a, q10b, q10c, q10d, q10e, q10f, p10_l, p10_r, p10_s, p10_m, q11a, q11b, q11c, q11d, q11e, q11f, p11_l, p11_r, p11_s, q12a, q12b, q12c, q12d, q12e, q12f, p12_l, p12_r, p12_s, q15a, q15b, q15c, q15d, q15e, q15f, p15_l, p15_r, p15_s, q19a, q19b, q19c, q19d, q19e, q19f, p19_l, p19_r, p19_s, q20a, q20b, q20c, q20d, q20e, q20f, p20_l, p20_r, p20_s, q31a, q31b, q31c, q31d, q31e, q31f, p31_l, p31_r, p31_s, q40a, q40b, q40c, q40d, q40e, q40f, p40_l, p40_r, p40_s, q48a, q48b, q48c, q48d, q48e, q48f, p48_l, p48_r, p48_s, q50a, q50b, q50c, q50d, q50e, q50f, p50_l, p50_r, p50_s, p50_m, q52a, q52b, q52c, q52d, q52e, q52f, p52_l, p52_r, p52_s, q60a, q60b, q60c, q60d, q60e, q60f, p60_l, p60_r, p60_s, q63a, q63b, q63c, q63d, q63e, q63f, p63_l, p63_r, p63_s, q80a, q80b, q80c, q80d, q80e, q80f, p80_l, p80_r, p80_s, q99a, q99b, q99c, q99d, q99e, q99f, p99_l, p99_r, p99_s, q100a, q100b, q100c, q100d, q100e, q100f, p100_l, p100_r, p100_s, q120a, q120b, q120c, q120d, q120e, q120f, p120_l, p120_r, p120_s, q240a, q240b, q240c, q240d, q240e, q240f, p240_l, p240_r, p240_s, q243a, q243b, q243c, q243d, q243e, q243f, p243_l, p243_r, p243_s, q244a, q244b, q244c, q244d, q244e, q244f, p244_l, p244_r, p244_s, q580a, q580b, q580c, q580d, q580e, q580f, p580_l, p580_r, p580_s, q581a, q581b, q581c, q581d, q581e, q581f, p581_l, p581_r, p581_s, q582a, q582b, q582c, q582d, q582e, q582f, p582_l, p582_r, p582_s, q583a, q583b, q583c, q583d, q583e, q583f, p583_l, p583_r, p583_s, q584a, q584b, q584c, q584d, q584e, q584f, p584_l, p584_r, p584_s, q585a, q585b, q585c, q585d, q585e, q585f, p585_l, p585_r, p585_s, q586a, q586b, q586c, q586d, q586e, q586f, p586_l, p586_r, p586_s, q999a, q999b, q999c, q999d, q999e, q999f, p999_l, p999_r, p999_s, q1000a, q1000b, q1000c, q1000d, q1000e, q1000f, p1000_l, p1000_r, p1000_s, q2400a, q2400b, q2400c, q2400d, q2400e, q2400f, p2400_l, p2400_r, p2400_s, q9999a, q9999b, q9999c, q9999d, q9999e, q9999f, p9999_l, p9999_r, p9999_s, I00, I01, I10, I11, n_le, n_lt, n_eq, n_cl, n_add, n_ne9, n_ne1, if_true, if_false, Option.bind_some, if_pos, if_neg, dr_wr, D3, D4, D5, D6, if_neg c5, if_neg c6]
      exact fin _ _ (fun k => by simp only [dr_wr]) (by simp (disch := omega) only [wr_ne])
theorem mkM_1 {U : Mm} {nm : Nat} {D : Nat → Int32} {x y : Int32} {k : Nat} (h : k ≠ 1) : mkM U nm D x y k = U k := by
  unfold mkM
  simp (disch := omega) only [wr_ne]
theorem mkM_o {U : Mm} {nm : Nat} {D : Nat → Int32} {x y : Int32} {k : Nat} (h : k ≠ 581) (h2 : k < 80 + 10 * nm ∨ 90 + 10 * nm ≤ k) : mkM U nm D x y 1 k = U 1 k := by
  unfold mkM
  simp (disch := omega) only [wr_in]
theorem mkM_e {U : Mm} {nm : Nat} {D : Nat → Int32} {x y : Int32} (h : nm < 50) : mkM U nm D x y 1 581 = nI (nm + 1) ∧ mkM U nm D x y 1 (80 + 10 * nm) = 1 ∧ mkM U nm D x y 1 (80 + 10 * nm + 8) = x ∧ mkM U nm D x y 1 (80 + 10 * nm + 9) = y := by
  unfold mkM
  refine ⟨?_, ?_, ?_, ?_⟩
  · simp (disch := omega) only [wr_in, wr_at]
  · simp (disch := omega) only [wr_in, wr_at]
  · simp (disch := omega) only [wr_in, wr_at]
  · simp (disch := omega) only [wr_at]
theorem mkM_c {U : Mm} {nm : Nat} {D : Nat → Int32} {x y : Int32} {c : Nat} (h : c < 7) : mkM U nm D x y 1 (80 + 10 * nm + 1 + c) = mCol D c := by
  unfold mkM mCol
  have : c = 0 ∨ c = 1 ∨ c = 2 ∨ c = 3 ∨ c = 4 ∨ c = 5 ∨ c = 6 := by omega
  rcases this with rfl | rfl | rfl | rfl | rfl | rfl | rfl
  · rw [if_neg (by omega)]; simp (disch := omega) only [wr_in, wr_at, Nat.add_zero]
  · rw [if_neg (by omega)]; simp (disch := omega) only [wr_in, wr_at, Nat.add_assoc, Nat.reduceAdd]
  · rw [if_pos (by omega)]; simp (disch := omega) only [wr_in, wr_at, Nat.add_assoc, Nat.reduceAdd]
  · rw [if_pos (by omega)]; simp (disch := omega) only [wr_in, wr_at, Nat.add_assoc, Nat.reduceAdd]
  · rw [if_neg (by omega)]; simp (disch := omega) only [wr_in, wr_at, Nat.add_assoc, Nat.reduceAdd]
  · rw [if_neg (by omega)]; simp (disch := omega) only [wr_in, wr_at, Nat.add_assoc, Nat.reduceAdd]
  · rw [if_neg (by omega)]; simp (disch := omega) only [wr_in, wr_at, Nat.add_assoc, Nat.reduceAdd]
def mFin (a2 : Nat) (bi : Int32) (nm : Nat) (W : Mm) : Option (Int32 × Mm) := (eX5_bitOf bi W).bind fun r12 => (eX2_set 28 (nI nm) 8 r12 W).bind fun r14 => (eX5_comeToThread (nI nm) r14).bind fun r16 => (eX4_add a2 1 (nI nm) r16).bind fun r18 => some (0, r18)
theorem cols_b {a1 a2 nm : Nat} {bi : Int32} {D : Nat → Int32} {V0 : Mm} (h50 : nm < 50) (ha : 40 < a1) (hD : ∀ j, j < 10 → V0 (a1 + 1) j = D j) :
    ∀ d f c (V : Mm), c + d = 7 → d < f → (∀ k, (k < 30 ∨ 36 < k) → V k = V0 k) → (∀ x m, m ≠ nm → V x m = V0 x m) → (∀ x, x < c → V (30 + x) nm = mCol D x) →
    ∃ W : Mm, eX5_makeMail_b47 f a1 a2 bi (nI nm) (nI c) V = mFin a2 bi nm W ∧ (∀ k, (k < 30 ∨ 36 < k) → W k = V0 k) ∧ (∀ x m, m ≠ nm → W x m = V0 x m) ∧ (∀ x, x < 7 → W (30 + x) nm = mCol D x) := by
  intro d
  induction d with
  | zero =>
    intro f c V hc hf h1 h2 h3
    obtain ⟨f, rfl⟩ : ∃ f', f = f' + 1 := ⟨f - 1, by omega⟩
    have : c = 7 := by omega
    subst this
    refine ⟨V, ?_, h1, h2, h3⟩
    have : (6 : Int32) < nI 7 := by decide
    rw [eX5_makeMail_b47, if_pos this]
    rfl
  | succ d ih =>
    intro f c V hc hf h1 h2 h3
    obtain ⟨f, rfl⟩ : ∃ f', f = f' + 1 := ⟨f - 1, by omega⟩
    obtain ⟨W, e1, e2⟩ := ih f (c + 1) (wr V (30 + c) nm (mCol D c)) (by omega) (by omega) (fun k hk => by rw [wr_ne (by omega), h1 k hk]) (fun x m hm => by
        by_cases e : x = 30 + c
        · subst e; rw [wr_in hm, h2 _ m hm]
        · rw [wr_ne e, h2 x m hm])
      (fun x hx => by
        by_cases e : x = c
        · subst e; rw [wr_at]
        · rw [wr_ne (by omega)]; exact h3 x (by omega))
    refine ⟨W, ?_, e2⟩
    rw [← e1]
    have hr : V (a1 + 1) (3 + c) = D (3 + c) := by rw [h1 (a1 + 1) (by omega)]; exact hD _ (by omega)
    have h6 : ¬ (6 : Int32) < nI c := by
      rw [show (6 : Int32) = nI 6 from rfl, n_lt (by omega) (by omega)]; omega
    have s9 : ∀ y : Int32, eX2_set 28 (nI nm) (nI c) y V = some (wr V (30 + c) nm y) := fun y => by rw [set_n h50 (by omega)]
    rw [eX5_makeMail_b47, if_neg h6]
    simp (disch := omega) only [q0a, q0b, q0c, q0d, q0e, q0f, p0_l, p0_r, p0_s, q1a, q1b, q1c, q1d, q1e, q1f, p1_l, p1_r, p1_s, q2a, q2b, q2c, q2d, q2e, q2f, p2_l, p2_r, p2_s, q3a, q3b, q3c, q3d, q3e, q3f, p3_l, p3_r, p3_s, q4a, q4b, q4c, q4d, q4e, q4f, p4_l, p4_r, p4_s, p4_m, q5a, q5b, q5c, q5d, q5e, q5f, p5_l, p5_r, p5_s, p5_m, q6a, q6b, q6c, q6d, q6e, q6f, p6_l, p6_r, p6_s, q7a, q7b, q7c, q7d, q7e, q7f, p7_l, p7_r, p7_s, q8a, q8b, q8c, q8d, q8e, q8f, p8_l, p8_r, p8_s, q9a, q9b, q9c, q9d, q9e, q9f, p9_l, p9_r, p9_s, q10a, q10b, q10c, q10d, q10e, q10f, p10_l, p10_r, p10_s, p10_m, q11a, q11b, q11c, q11d, q11e, q11f, p11_l, p11_r, p11_s, q12a, q12b, q12c, q12d, q12e, q12f, p12_l, p12_r, p12_s, q15a, q15b, q15c, q15d, q15e, q15f, p15_l, p15_r, p15_s, q19a, q19b, q19c, q19d, q19e, q19f, p19_l, p19_r, p19_s, q20a, q20b, q20c, q20d, q20e, q20f, p20_l, p20_r, p20_s, q31a, q31b, q31c, q31d, q31e, q31f, p31_l, p31_r, p31_s, q40a, q40b, q40c, q40d, q40e, q40f, p40_l, p40_r, p40_s, q48a, q48b, q48c, q48d, q48e, q48f, p48_l, p48_r, p48_s, q50a, q50b, q50c, q50d, q50e, q50f, p50_l, p50_r, p50_s, p50_m, q52a, q52b, q52c, q52d, q52e, q52f, p52_l, p52_r, p52_s, q60a, q60b, q60c, q60d, q60e, q60f, p60_l, p60_r, p60_s, q63a, q63b, q63c, q63d, q63e, q63f, p63_l, p63_r, p63_s, q80a, q80b, q80c, q80d, q80e, q80f, p80_l, p80_r, p80_s, q99a, q99b, q99c, q99d, q99e, q99f, p99_l, p99_r, p99_s, q100a, q100b, q100c, q100d, q100e, q100f, p100_l, p100_r, p100_s, q120a, q120b, q120c, q120d, q120e, q120f, p120_l, p120_r, p120_s, q240a, q240b, q240c, q240d, q240e, q240f, p240_l, p240_r, p240_s, q243a, q243b, q243c, q243d, q243e, q243f, p243_l, p243_r, p243_s, q244a, q244b, q244c, q244d, q244e, q244f, p244_l, p244_r, p244_s, q580a, q580b, q580c, q580d, q580e, q580f, p580_l, p580_r, p580_s, q581a, q581b, q581c, q581d, q581e, q581f, p581_l, p581_r, p581_s, q582a, q582b, q582c, q582d, q582e, q582f, p582_l, p582_r, p582_s, q583a, q583b, q583c, q583d, q583e, q583f, p583_l, p583_r, p583_s, q584a, q584b, q584c, q584d, q584e, q584f, p584_l, p584_r, p584_s, q585a, q585b, q585c, q585d, q585e, q585f, p585_l, p585_r, p585_s, q586a, q586b, q586c, q586d, q586e, q586f, p586_l, p586_r, p586_s, q999a, q999b, q999c, q999d, q999e, q999f, p999_l, p999_r, p999_s, q1000a, q1000b, q1000c, q1000d, q1000e, q1000f, p1000_l, p1000_r, p1000_s, q2400a, q2400b, q2400c, q2400d, q2400e, q2400f, p2400_l, p2400_r, p2400_s, q9999a, q9999b, q9999c, q9999d, q9999e, q9999f, p9999_l, p9999_r, p9999_s, I00, I01, I10, I11, n_le, n_lt, n_eq, n_cl, n_add, n_ne9, n_ne1, if_true, if_false, Option.bind_some, if_pos, if_neg, hr, s9]
    by_cases c1 : D (3 + c) = 1000
    · by_cases c2 : c = 2
      · rw [if_pos c1, if_pos c2, show mCol D c = -9 by unfold mCol nm9; rw [if_pos (Or.inl c2), if_pos c1]]
      · by_cases c3 : c = 3
        · rw [if_pos c1, if_neg c2, if_pos c3, show mCol D c = -9 by unfold mCol nm9; rw [if_pos (Or.inr c3), if_pos c1]]
        · rw [if_pos c1, if_neg c2, if_neg c3, show mCol D c = D (3 + c) by unfold mCol; rw [if_neg (by omega)]]
    · rw [if_neg c1, show mCol D c = D (3 + c) by unfold mCol nm9; rw [if_neg c1]; split <;> rfl]
theorem upT_cases {p : Nat → Bool} {v : Nat → Int32} : ∀ d j, (upT p v d j = -9 ∨ ∃ i, j ≤ i ∧ i < j + d ∧ p i = true ∧ upT p v d j = v i) := by
  intro d
  induction d with
  | zero => intro j; exact Or.inl rfl
  | succ d ih =>
    intro j
    by_cases h : p j = true
    · exact Or.inr ⟨j, by omega, by omega, h, upT_T h⟩
    · rw [upT_F h]
      rcases ih (j + 1) with e | ⟨i, a, b, c, e⟩
      · exact Or.inl e
      · exact Or.inr ⟨i, by omega, by omega, c, e⟩
theorem cntT_pos {w : Nat → Int32} {nm t j : Nat} (hj : j < nm) (h1 : w (80 + 10 * j) = 1) (h8 : w (80 + 10 * j + 8) = nI t) : 0 < cntT w nm t := by
  unfold cntT
  rw [List.countP_pos_iff]
  exact ⟨j, List.mem_range.mpr hj, decide_eq_true ⟨h1, h8⟩⟩
theorem cntT_none {w : Nat → Int32} {nb nm nt : Nat} (hF : WF w nb nm nt) (h50 : nm ≤ 50) (h3 : nt ≤ nm) : cntT w nm nt = 0 := by
  unfold cntT
  rw [List.countP_eq_zero]
  intro m hm z
  have hm' := List.mem_range.mp hm
  obtain ⟨-, e⟩ := of_decide_eq_true z
  obtain ⟨y, y1, y2⟩ := (hF.2.2.2.2.2.1 m hm').2.2.2.2.1
  rw [y2] at e
  have := (nI_eq (by omega) (by omega)).mp e
  omega
