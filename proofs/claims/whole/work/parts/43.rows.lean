
/-! the rows of an outcome -/
def rowsIn (Vc Vm : Mm) (q : Nat) (C : Nat → Nat) (P : Nat → Nat → Prop) : Prop := ∀ r, r < 4 → ∃ c, c ≤ C r ∧ Vc (91 + 9 * q + 6) r = nI c ∧ Vm 9 (4 * q + r) = nI c ∧
  (∀ i, i < c → ∃ x, x < 2147483648 ∧ P r x ∧ Vc (91 + 9 * q + 2 + r) i = nI x ∧ Vm 10 (50 * (4 * q + r) + i) = nI x) ∧ ∀ i j, i < j → j < c → Vm 10 (50 * (4 * q + r) + i) ≠ Vm 10 (50 * (4 * q + r) + j)
theorem rowsIn_mono {Vc Vm : Mm} {q : Nat} {C D : Nat → Nat} {P Q : Nat → Nat → Prop} (h : rowsIn Vc Vm q C P) (hC : ∀ r, r < 4 → C r ≤ D r) (hP : ∀ r x, r < 4 → P r x → Q r x) : rowsIn Vc Vm q D Q := by
  intro r hr
  obtain ⟨c, c1, c2, c3, c4, c5⟩ := h r hr
  exact ⟨c, Nat.le_trans c1 (hC r hr), c2, c3, fun i hi => by
    obtain ⟨x, x1, x2, x3, x4⟩ := c4 i hi
    exact ⟨x, x1, hP r x hr x2, x3, x4⟩, c5⟩
theorem rowsIn_rel {Vc Vm : Mm} {q : Nat} {C : Nat → Nat} {P : Nat → Nat → Prop} (h : rowsIn Vc Vm q C P) (hC : ∀ r, r < 4 → C r ≤ 50) : ∀ r, r < 4 → rowRel Vc Vm q r := by
  intro r hr
  obtain ⟨c, c1, c2, c3, c4, c5⟩ := h r hr
  refine ⟨c, Nat.le_trans c1 (hC r hr), c2, c3, fun i hi => ?_, c5, fun i hi => ?_⟩
  · obtain ⟨x, x1, x2, x3, x4⟩ := c4 i hi
    rw [x3, x4]
  · obtain ⟨x, x1, x2, x3, x4⟩ := c4 i hi
    exact ⟨x, x1, x4⟩
/-- only the outcome q changes -/
def outC (q : Nat) (V W : Mm) : Prop := ∀ k, (k < 93 + 9 * q ∨ 97 + 9 * q < k) → W k = V k
def outM (q : Nat) (V W : Mm) : Prop := (∀ k, k ≠ 9 → k ≠ 10 → W k = V k) ∧ (∀ i, i < 4 * q → W 9 i = V 9 i) ∧ ∀ i, i < 50 * (4 * q) → W 10 i = V 10 i
theorem outC_rfl {q : Nat} {V : Mm} : outC q V V := fun _ _ => rfl
theorem outM_rfl {q : Nat} {V : Mm} : outM q V V := ⟨fun _ _ _ => rfl, fun _ _ => rfl, fun _ _ => rfl⟩
theorem outC_tr {q : Nat} {U V W : Mm} (h : outC q U V) (g : outC q V W) : outC q U W := fun k hk => (g k hk).trans (h k hk)
theorem outM_tr {q : Nat} {U V W : Mm} (h : outM q U V) (g : outM q V W) : outM q U W :=
  ⟨fun k a b => (g.1 k a b).trans (h.1 k a b), fun i hi => (g.2.1 i hi).trans (h.2.1 i hi), fun i hi => (g.2.2 i hi).trans (h.2.2 i hi)⟩
theorem rowsIn_fr {Vc Vm Vc' Vm' : Mm} {q : Nat} {C : Nat → Nat} {P : Nat → Nat → Prop} (h : rowsIn Vc Vm q C P) (h1 : ∀ k, 93 + 9 * q ≤ k → k ≤ 97 + 9 * q → Vc' k = Vc k) (h9 : Vm' 9 = Vm 9) (h10 : Vm' 10 = Vm 10) : rowsIn Vc' Vm' q C P := by
  intro r hr
  obtain ⟨c, c1, c2, c3, c4, c5⟩ := h r hr
  rw [h9, h10, h1 (91 + 9 * q + 6) (by omega) (by omega), h1 (91 + 9 * q + 2 + r) (by omega) (by omega)]
  exact ⟨c, c1, c2, c3, c4, c5⟩
theorem add_n {o r c : Nat} {V : Mm} {x : Int32} (hr : r < 4) (hc : V (o + 6) r = nI c) (h50 : c < 50) : eX4_add o (nI r) x V = some (wr (wr V (o + 2 + r) c x) (o + 6) r (nI (c + 1))) := by
  unfold eX4_add
  simp (disch := omega) only [q0a, q0b, q0c, q0d, q0e, q0f, p0_l, p0_r, p0_s, q1a, q1b, q1c, q1d, q1e, q1f, p1_l, p1_r, p1_s, q2a, q2b, q2c, q2d, q2e, q2f, p2_l, p2_r, p2_s, q3a, q3b, q3c, q3d, q3e, q3f, p3_l, p3_r, p3_s, q4a, q4b, q4c, q4d, q4e, q4f, p4_l, p4_r, p4_s, p4_m, q5a, q5b, q5c, q5d, q5e, q5f, p5_l, p5_r, p5_s, p5_m, q6a, q6b, q6c, q6d, q6e, q6f, p6_l, p6_r, p6_s, q7a, q7b, q7c, q7d, q7e, q7f, p7_l, p7_r, p7_s, q8a, q8b, q8c, q8d, q8e, q8f, p8_l, p8_r, p8_s, q9a, q9b, q9c, q9d, q9e, q9f, p9_l, p9_r, p9_s, q10a, q10b, q10c, q10d, q10e, q10f, p10_l, p10_r, p10_s, p10_m, q11a, q11b, q11c, q11d, q11e, q11f, p11_l, p11_r, p11_s, q12a, q12b, q12c, q12d, q12e, q12f, p12_l, p12_r, p12_s, q15a, q15b, q15c, q15d, q15e, q15f, p15_l, p15_r, p15_s, q19a, q19b, q19c, q19d, q19e, q19f, p19_l, p19_r, p19_s, q20a, q20b, q20c, q20d, q20e, q20f, p20_l, p20_r, p20_s, q31a, q31b, q31c, q31d, q31e, q31f, p31_l, p31_r, p31_s, q40a, q40b, q40c, q40d, q40e, q40f, p40_l, p40_r, p40_s, q48a, q48b, q48c, q48d, q48e, q48f, p48_l, p48_r, p48_s, q50a, q50b, q50c, q50d, q50e, q50f, p50_l, p50_r, p50_s, p50_m, q52a, q52b, q52c, q52d, q52e, q52f, p52_l, p52_r, p52_s, q60a, q60b, q60c, q60d, q60e, q60f, p60_l, p60_r, p60_s, q63a, q63b, q63c, q63d, q63e, q63f, p63_l, p63_r, p63_s, q80a, q80b, q80c, q80d, q80e, q80f, p80_l, p80_r, p80_s, q99a, q99b, q99c, q99d, q99e, q99f, p99_l, p99_r, p99_s, q100a, q100b, q100c, q100d, q100e, q100f, p100_l, p100_r, p100_s, q120a, q120b, q120c, q120d, q120e, q120f, p120_l, p120_r, p120_s, q240a, q240b, q240c, q240d, q240e, q240f, p240_l, p240_r, p240_s, q243a, q243b, q243c, q243d, q243e, q243f, p243_l, p243_r, p243_s, q244a, q244b, q244c, q244d, q244e, q244f, p244_l, p244_r, p244_s, q580a, q580b, q580c, q580d, q580e, q580f, p580_l, p580_r, p580_s, q581a, q581b, q581c, q581d, q581e, q581f, p581_l, p581_r, p581_s, q582a, q582b, q582c, q582d, q582e, q582f, p582_l, p582_r, p582_s, q583a, q583b, q583c, q583d, q583e, q583f, p583_l, p583_r, p583_s, q584a, q584b, q584c, q584d, q584e, q584f, p584_l, p584_r, p584_s, q585a, q585b, q585c, q585d, q585e, q585f, p585_l, p585_r, p585_s, q586a, q586b, q586c, q586d, q586e, q586f, p586_l, p586_r, p586_s, q999a, q999b, q999c, q999d, q999e, q999f, p999_l, p999_r, p999_s, q1000a, q1000b, q1000c, q1000d, q1000e, q1000f, p1000_l, p1000_r, p1000_s, q2400a, q2400b, q2400c, q2400d, q2400e, q2400f, p2400_l, p2400_r, p2400_s, q9999a, q9999b, q9999c, q9999d, q9999e, q9999f, p9999_l, p9999_r, p9999_s, I00, I01, I10, I11, n_le, n_lt, n_eq, n_cl, n_add, n_ne9, n_ne1, if_true, if_false, Option.bind_some, if_pos, if_neg, hc, wr_ne]
theorem give_m {q r c : Nat} {V : Mm} {x : Int32} (hq : q < 12) (hr : r < 4) (hc : V 9 (4 * q + r) = nI c) (h50 : c < 50) : eX6_give (nI q) (nI r) x V = some (wr (wr V 10 (50 * (4 * q + r) + c) x) 9 (4 * q + r) (nI (c + 1))) := by
  unfold eX6_give
  simp (disch := omega) only [q0a, q0b, q0c, q0d, q0e, q0f, p0_l, p0_r, p0_s, q1a, q1b, q1c, q1d, q1e, q1f, p1_l, p1_r, p1_s, q2a, q2b, q2c, q2d, q2e, q2f, p2_l, p2_r, p2_s, q3a, q3b, q3c, q3d, q3e, q3f, p3_l, p3_r, p3_s, q4a, q4b, q4c, q4d, q4e, q4f, p4_l, p4_r, p4_s, p4_m, q5a, q5b, q5c, q5d, q5e, q5f, p5_l, p5_r, p5_s, p5_m, q6a, q6b, q6c, q6d, q6e, q6f, p6_l, p6_r, p6_s, q7a, q7b, q7c, q7d, q7e, q7f, p7_l, p7_r, p7_s, q8a, q8b, q8c, q8d, q8e, q8f, p8_l, p8_r, p8_s, q9a, q9b, q9c, q9d, q9e, q9f, p9_l, p9_r, p9_s, q10a, q10b, q10c, q10d, q10e, q10f, p10_l, p10_r, p10_s, p10_m, q11a, q11b, q11c, q11d, q11e, q11f, p11_l, p11_r, p11_s, q12a, q12b, q12c, q12d, q12e, q12f, p12_l, p12_r, p12_s, q15a, q15b, q15c, q15d, q15e, q15f, p15_l, p15_r, p15_s, q19a, q19b, q19c, q19d, q19e, q19f, p19_l, p19_r, p19_s, q20a, q20b, q20c, q20d, q20e, q20f, p20_l, p20_r, p20_s, q31a, q31b, q31c, q31d, q31e, q31f, p31_l, p31_r, p31_s, q40a, q40b, q40c, q40d, q40e, q40f, p40_l, p40_r, p40_s, q48a, q48b, q48c, q48d, q48e, q48f, p48_l, p48_r, p48_s, q50a, q50b, q50c, q50d, q50e, q50f, p50_l, p50_r, p50_s, p50_m, q52a, q52b, q52c, q52d, q52e, q52f, p52_l, p52_r, p52_s, q60a, q60b, q60c, q60d, q60e, q60f, p60_l, p60_r, p60_s, q63a, q63b, q63c, q63d, q63e, q63f, p63_l, p63_r, p63_s, q80a, q80b, q80c, q80d, q80e, q80f, p80_l, p80_r, p80_s, q99a, q99b, q99c, q99d, q99e, q99f, p99_l, p99_r, p99_s, q100a, q100b, q100c, q100d, q100e, q100f, p100_l, p100_r, p100_s, q120a, q120b, q120c, q120d, q120e, q120f, p120_l, p120_r, p120_s, q240a, q240b, q240c, q240d, q240e, q240f, p240_l, p240_r, p240_s, q243a, q243b, q243c, q243d, q243e, q243f, p243_l, p243_r, p243_s, q244a, q244b, q244c, q244d, q244e, q244f, p244_l, p244_r, p244_s, q580a, q580b, q580c, q580d, q580e, q580f, p580_l, p580_r, p580_s, q581a, q581b, q581c, q581d, q581e, q581f, p581_l, p581_r, p581_s, q582a, q582b, q582c, q582d, q582e, q582f, p582_l, p582_r, p582_s, q583a, q583b, q583c, q583d, q583e, q583f, p583_l, p583_r, p583_s, q584a, q584b, q584c, q584d, q584e, q584f, p584_l, p584_r, p584_s, q585a, q585b, q585c, q585d, q585e, q585f, p585_l, p585_r, p585_s, q586a, q586b, q586c, q586d, q586e, q586f, p586_l, p586_r, p586_s, q999a, q999b, q999c, q999d, q999e, q999f, p999_l, p999_r, p999_s, q1000a, q1000b, q1000c, q1000d, q1000e, q1000f, p1000_l, p1000_r, p1000_s, q2400a, q2400b, q2400c, q2400d, q2400e, q2400f, p2400_l, p2400_r, p2400_s, q9999a, q9999b, q9999c, q9999d, q9999e, q9999f, p9999_l, p9999_r, p9999_s, I00, I01, I10, I11, n_le, n_lt, n_eq, n_cl, n_add, n_ne9, n_ne1, if_true, if_false, Option.bind_some, if_pos, if_neg, hc]
theorem isGiven_b {q r c : Nat} {V : Mm} {x : Int32} (hq : q < 12) (hr : r < 4) (hc : V 9 (4 * q + r) = nI c) (h50 : c ≤ 50) (hx : ∀ i, i < c → V 10 (50 * (4 * q + r) + i) ≠ x) :
    ∀ d f j, j + d = c → d < f → eX6_isGiven_b6 f (nI q) (nI r) x 0 (nI j) V = some 0 := by
  intro d
  induction d with
  | zero =>
    intro f j hj hf
    obtain ⟨f, rfl⟩ : ∃ f', f = f' + 1 := ⟨f - 1, by omega⟩
    have : j = c := by omega
    subst this
    rw [eX6_isGiven_b6]
    simp (disch := omega) only [q0a, q0b, q0c, q0d, q0e, q0f, p0_l, p0_r, p0_s, q1a, q1b, q1c, q1d, q1e, q1f, p1_l, p1_r, p1_s, q2a, q2b, q2c, q2d, q2e, q2f, p2_l, p2_r, p2_s, q3a, q3b, q3c, q3d, q3e, q3f, p3_l, p3_r, p3_s, q4a, q4b, q4c, q4d, q4e, q4f, p4_l, p4_r, p4_s, p4_m, q5a, q5b, q5c, q5d, q5e, q5f, p5_l, p5_r, p5_s, p5_m, q6a, q6b, q6c, q6d, q6e, q6f, p6_l, p6_r, p6_s, q7a, q7b, q7c, q7d, q7e, q7f, p7_l, p7_r, p7_s, q8a, q8b, q8c, q8d, q8e, q8f, p8_l, p8_r, p8_s, q9a, q9b, q9c, q9d, q9e, q9f, p9_l, p9_r, p9_s, q10a, q10b, q10c, q10d, q10e, q10f, p10_l, p10_r, p10_s, p10_m, q11a, q11b, q11c, q11d, q11e, q11f, p11_l, p11_r, p11_s, q12a, q12b, q12c, q12d, q12e, q12f, p12_l, p12_r, p12_s, q15a, q15b, q15c, q15d, q15e, q15f, p15_l, p15_r, p15_s, q19a, q19b, q19c, q19d, q19e, q19f, p19_l, p19_r, p19_s, q20a, q20b, q20c, q20d, q20e, q20f, p20_l, p20_r, p20_s, q31a, q31b, q31c, q31d, q31e, q31f, p31_l, p31_r, p31_s, q40a, q40b, q40c, q40d, q40e, q40f, p40_l, p40_r, p40_s, q48a, q48b, q48c, q48d, q48e, q48f, p48_l, p48_r, p48_s, q50a, q50b, q50c, q50d, q50e, q50f, p50_l, p50_r, p50_s, p50_m, q52a, q52b, q52c, q52d, q52e, q52f, p52_l, p52_r, p52_s, q60a, q60b, q60c, q60d, q60e, q60f, p60_l, p60_r, p60_s, q63a, q63b, q63c, q63d, q63e, q63f, p63_l, p63_r, p63_s, q80a, q80b, q80c, q80d, q80e, q80f, p80_l, p80_r, p80_s, q99a, q99b, q99c, q99d, q99e, q99f, p99_l, p99_r, p99_s, q100a, q100b, q100c, q100d, q100e, q100f, p100_l, p100_r, p100_s, q120a, q120b, q120c, q120d, q120e, q120f, p120_l, p120_r, p120_s, q240a, q240b, q240c, q240d, q240e, q240f, p240_l, p240_r, p240_s, q243a, q243b, q243c, q243d, q243e, q243f, p243_l, p243_r, p243_s, q244a, q244b, q244c, q244d, q244e, q244f, p244_l, p244_r, p244_s, q580a, q580b, q580c, q580d, q580e, q580f, p580_l, p580_r, p580_s, q581a, q581b, q581c, q581d, q581e, q581f, p581_l, p581_r, p581_s, q582a, q582b, q582c, q582d, q582e, q582f, p582_l, p582_r, p582_s, q583a, q583b, q583c, q583d, q583e, q583f, p583_l, p583_r, p583_s, q584a, q584b, q584c, q584d, q584e, q584f, p584_l, p584_r, p584_s, q585a, q585b, q585c, q585d, q585e, q585f, p585_l, p585_r, p585_s, q586a, q586b, q586c, q586d, q586e, q586f, p586_l, p586_r, p586_s, q999a, q999b, q999c, q999d, q999e, q999f, p999_l, p999_r, p999_s, q1000a, q1000b, q1000c, q1000d, q1000e, q1000f, p1000_l, p1000_r, p1000_s, q2400a, q2400b, q2400c, q2400d, q2400e, q2400f, p2400_l, p2400_r, p2400_s, q9999a, q9999b, q9999c, q9999d, q9999e, q9999f, p9999_l, p9999_r, p9999_s, I00, I01, I10, I11, n_le, n_lt, n_eq, n_cl, n_add, n_ne9, n_ne1, if_true, if_false, Option.bind_some, if_pos, if_neg, hc, true_or]
  | succ d ih =>
    intro f j hj hf
    obtain ⟨f, rfl⟩ : ∃ f', f = f' + 1 := ⟨f - 1, by omega⟩
    have e1 := ih f (j + 1) (by omega) (by omega)
    have e2 := hx j (by omega)
    rw [eX6_isGiven_b6]
    simp (disch := omega) only [q0a, q0b, q0c, q0d, q0e, q0f, p0_l, p0_r, p0_s, q1a, q1b, q1c, q1d, q1e, q1f, p1_l, p1_r, p1_s, q2a, q2b, q2c, q2d, q2e, q2f, p2_l, p2_r, p2_s, q3a, q3b, q3c, q3d, q3e, q3f, p3_l, p3_r, p3_s, q4a, q4b, q4c, q4d, q4e, q4f, p4_l, p4_r, p4_s, p4_m, q5a, q5b, q5c, q5d, q5e, q5f, p5_l, p5_r, p5_s, p5_m, q6a, q6b, q6c, q6d, q6e, q6f, p6_l, p6_r, p6_s, q7a, q7b, q7c, q7d, q7e, q7f, p7_l, p7_r, p7_s, q8a, q8b, q8c, q8d, q8e, q8f, p8_l, p8_r, p8_s, q9a, q9b, q9c, q9d, q9e, q9f, p9_l, p9_r, p9_s, q10a, q10b, q10c, q10d, q10e, q10f, p10_l, p10_r, p10_s, p10_m, q11a, q11b, q11c, q11d, q11e, q11f, p11_l, p11_r, p11_s, q12a, q12b, q12c, q12d, q12e, q12f, p12_l, p12_r, p12_s, q15a, q15b, q15c, q15d, q15e, q15f, p15_l, p15_r, p15_s, q19a, q19b, q19c, q19d, q19e, q19f, p19_l, p19_r, p19_s, q20a, q20b, q20c, q20d, q20e, q20f, p20_l, p20_r, p20_s, q31a, q31b, q31c, q31d, q31e, q31f, p31_l, p31_r, p31_s, q40a, q40b, q40c, q40d, q40e, q40f, p40_l, p40_r, p40_s, q48a, q48b, q48c, q48d, q48e, q48f, p48_l, p48_r, p48_s, q50a, q50b, q50c, q50d, q50e, q50f, p50_l, p50_r, p50_s, p50_m, q52a, q52b, q52c, q52d, q52e, q52f, p52_l, p52_r, p52_s, q60a, q60b, q60c, q60d, q60e, q60f, p60_l, p60_r, p60_s, q63a, q63b, q63c, q63d, q63e, q63f, p63_l, p63_r, p63_s, q80a, q80b, q80c, q80d, q80e, q80f, p80_l, p80_r, p80_s, q99a, q99b, q99c, q99d, q99e, q99f, p99_l, p99_r, p99_s, q100a, q100b, q100c, q100d, q100e, q100f, p100_l, p100_r, p100_s, q120a, q120b, q120c, q120d, q120e, q120f, p120_l, p120_r, p120_s, q240a, q240b, q240c, q240d, q240e, q240f, p240_l, p240_r, p240_s, q243a, q243b, q243c, q243d, q243e, q243f, p243_l, p243_r, p243_s, q244a, q244b, q244c, q244d, q244e, q244f, p244_l, p244_r, p244_s, q580a, q580b, q580c, q580d, q580e, q580f, p580_l, p580_r, p580_s, q581a, q581b, q581c, q581d, q581e, q581f, p581_l, p581_r, p581_s, q582a, q582b, q582c, q582d, q582e, q582f, p582_l, p582_r, p582_s, q583a, q583b, q583c, q583d, q583e, q583f, p583_l, p583_r, p583_s, q584a, q584b, q584c, q584d, q584e, q584f, p584_l, p584_r, p584_s, q585a, q585b, q585c, q585d, q585e, q585f, p585_l, p585_r, p585_s, q586a, q586b, q586c, q586d, q586e, q586f, p586_l, p586_r, p586_s, q999a, q999b, q999c, q999d, q999e, q999f, p999_l, p999_r, p999_s, q1000a, q1000b, q1000c, q1000d, q1000e, q1000f, p1000_l, p1000_r, p1000_s, q2400a, q2400b, q2400c, q2400d, q2400e, q2400f, p2400_l, p2400_r, p2400_s, q9999a, q9999b, q9999c, q9999d, q9999e, q9999f, p9999_l, p9999_r, p9999_s, I00, I01, I10, I11, n_le, n_lt, n_eq, n_cl, n_add, n_ne9, n_ne1, if_true, if_false, Option.bind_some, if_pos, if_neg, hc, if_neg e2, show ((0 : Int32) ||| 0) = 0 by decide]
    exact e1
theorem give_n {Vc Vm : Mm} {q : Nat} {C : Nat → Nat} {P : Nat → Nat → Prop} (h : rowsIn Vc Vm q C P) (hq : q < 12) {r x : Nat} (hr : r < 4) (hC : C r < 50) (hA : ∀ s, s < 4 → C s ≤ 50) (hx : x < 2147483648) (hP : ¬ P r x) :
    ∃ Vc' Vm', eX4_add (91 + 9 * q) (nI r) (nI x) Vc = some Vc' ∧ eX6_give (nI q) (nI r) (nI x) Vm = some Vm' ∧ eX6_isGiven (nI q) (nI r) (nI x) Vm = some 0 ∧
      rowsIn Vc' Vm' q (fun s => if s = r then C r + 1 else C s) (fun s y => P s y ∨ (s = r ∧ y = x)) ∧ outC q Vc Vc' ∧ outM q Vm Vm' := by
  obtain ⟨c, c1, c2, c3, c4, c5⟩ := h r hr
  refine ⟨wr (wr Vc (91 + 9 * q + 2 + r) c (nI x)) (91 + 9 * q + 6) r (nI (c + 1)), wr (wr Vm 10 (50 * (4 * q + r) + c) (nI x)) 9 (4 * q + r) (nI (c + 1)), ?_, ?_, ?_, ?_, ?_, ?_⟩
  · exact add_n hr c2 (by omega)
  · exact give_m hq hr c3 (by omega)
  · refine isGiven_b hq hr c3 (by omega) (fun i hi => ?_) c fu 0 (by omega) (by unfold fu; omega)
    obtain ⟨y, y1, y2, y3, y4⟩ := c4 i hi
    rw [y4]
    intro e
    have := (nI_eq (by omega) (by omega)).mp e
    subst this
    exact hP y2
  · intro s hs
    by_cases e : s = r
    · subst e
      have cold : ∀ i, i < c → ∃ y, y < 2147483648 ∧ P s y ∧ Vm 10 (50 * (4 * q + s) + i) = nI y := fun i hi => by
        obtain ⟨y, y1, y2, y3, y4⟩ := c4 i hi
        exact ⟨y, y1, y2, y4⟩
      refine ⟨c + 1, by dsimp only; rw [if_pos rfl]; omega, by rw [wr_at], by rw [wr_at], fun i hi => ?_, fun i j hij hj => ?_⟩
      · by_cases ei : i = c
        · subst ei
          refine ⟨x, hx, Or.inr ⟨rfl, rfl⟩, ?_, ?_⟩
          · rw [wr_ne (by omega), wr_at]
          · rw [wr_ne (by omega), wr_at]
        · obtain ⟨y, y1, y2, y3, y4⟩ := c4 i (by omega)
          refine ⟨y, y1, Or.inl y2, ?_, ?_⟩
          · rw [wr_ne (by omega), wr_in ei, y3]
          · rw [wr_ne (by omega), wr_in (by omega), y4]
      · rw [wr_ne (by omega)]
        by_cases ej : j = c
        · subst ej
          rw [wr_at, wr_in (by omega)]
          obtain ⟨y, y1, y2, y4⟩ := cold i (by omega)
          rw [y4]
          intro e
          have := (nI_eq (by omega) (by omega)).mp e
          subst this
          exact hP y2
        · rw [wr_in (by omega), wr_in (by omega)]
          exact c5 i j hij (by omega)
    · obtain ⟨d, d1, d2, d3, d4, d5⟩ := h s hs
      have hd50 : d ≤ 50 := Nat.le_trans d1 (hA s hs)
      refine ⟨d, by dsimp only; rw [if_neg e]; exact d1, by rw [wr_in e, wr_ne (by omega)]; exact d2, by rw [wr_in (by omega), wr_ne (by omega)]; exact d3, fun i hi => ?_, fun i j hij hj => ?_⟩
      · obtain ⟨y, y1, y2, y3, y4⟩ := d4 i hi
        refine ⟨y, y1, Or.inl y2, ?_, ?_⟩
        · rw [wr_ne (by omega), wr_ne (by omega), y3]
        · rw [wr_ne (by omega)]
          rw [wr_in (by omega), y4]
      · rw [wr_ne (by omega), wr_in (by omega), wr_in (by omega)]
        exact d5 i j hij hj
  · intro k hk
    rw [wr_ne (by omega), wr_ne (by omega)]
  · refine ⟨fun k a b => by rw [wr_ne a, wr_ne b], fun i hi => ?_, fun i hi => ?_⟩
    · rw [wr_in (by omega), wr_ne (by omega)]
    · rw [wr_ne (by omega), wr_in (by omega)]
