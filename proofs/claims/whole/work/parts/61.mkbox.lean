
/-! MAKE of a box: done -/
theorem add_K {o n : Nat} {V : Mm} (hn : V o 4 = nI n) (h50 : n < 50) : eX2_add o V = some (nI n, wr (wr (wr (wr V o 4 (nI (n + 1))) (o + 11) n 1) (o + 23) n 1) o 7 1) := by
  unfold eX2_add
  rw [hn]
  simp (disch := omega) only [q0a, q0b, q0c, q0d, q0e, q0f, p0_l, p0_r, p0_s, q1a, q1b, q1c, q1d, q1e, q1f, p1_l, p1_r, p1_s, q2a, q2b, q2c, q2d, q2e, q2f, p2_l, p2_r, p2_s, q3a, q3b, q3c, q3d, q3e, q3f, p3_l, p3_r, p3_s, q4a, q4b, q4c, q4d, q4e, q4f, p4_l, p4_r, p4_s, p4_m, q5a, q5b, q5c, q5d, q5e, q5f, p5_l, p5_r, p5_s, p5_m, q6a, q6b, q6c, q6d, q6e, q6f, p6_l, p6_r, p6_s, q7a, q7b, q7c, q7d, q7e, q7f, p7_l, p7_r, p7_s, q8a, q8b, q8c, q8d, q8e, q8f, p8_l, p8_r, p8_s, q9a, q9b, q9c, q9d, q9e, q9f, p9_l, p9_r, p9_s, q10a, q10b, q10c, q10d, q10e, q10f, p10_l, p10_r, p10_s, p10_m, q11a, q11b, q11c, q11d, q11e, q11f, p11_l, p11_r, p11_s, q12a, q12b, q12c, q12d, q12e, q12f, p12_l, p12_r, p12_s, q15a, q15b, q15c, q15d, q15e, q15f, p15_l, p15_r, p15_s, q19a, q19b, q19c, q19d, q19e, q19f, p19_l, p19_r, p19_s, q20a, q20b, q20c, q20d, q20e, q20f, p20_l, p20_r, p20_s, q31a, q31b, q31c, q31d, q31e, q31f, p31_l, p31_r, p31_s, q40a, q40b, q40c, q40d, q40e, q40f, p40_l, p40_r, p40_s, q48a, q48b, q48c, q48d, q48e, q48f, p48_l, p48_r, p48_s, q50a, q50b, q50c, q50d, q50e, q50f, p50_l, p50_r, p50_s, p50_m, q52a, q52b, q52c, q52d, q52e, q52f, p52_l, p52_r, p52_s, q60a, q60b, q60c, q60d, q60e, q60f, p60_l, p60_r, p60_s, q63a, q63b, q63c, q63d, q63e, q63f, p63_l, p63_r, p63_s, q80a, q80b, q80c, q80d, q80e, q80f, p80_l, p80_r, p80_s, q99a, q99b, q99c, q99d, q99e, q99f, p99_l, p99_r, p99_s, q100a, q100b, q100c, q100d, q100e, q100f, p100_l, p100_r, p100_s, q120a, q120b, q120c, q120d, q120e, q120f, p120_l, p120_r, p120_s, q240a, q240b, q240c, q240d, q240e, q240f, p240_l, p240_r, p240_s, q243a, q243b, q243c, q243d, q243e, q243f, p243_l, p243_r, p243_s, q244a, q244b, q244c, q244d, q244e, q244f, p244_l, p244_r, p244_s, q580a, q580b, q580c, q580d, q580e, q580f, p580_l, p580_r, p580_s, q581a, q581b, q581c, q581d, q581e, q581f, p581_l, p581_r, p581_s, q582a, q582b, q582c, q582d, q582e, q582f, p582_l, p582_r, p582_s, q583a, q583b, q583c, q583d, q583e, q583f, p583_l, p583_r, p583_s, q584a, q584b, q584c, q584d, q584e, q584f, p584_l, p584_r, p584_s, q585a, q585b, q585c, q585d, q585e, q585f, p585_l, p585_r, p585_s, q586a, q586b, q586c, q586d, q586e, q586f, p586_l, p586_r, p586_s, q999a, q999b, q999c, q999d, q999e, q999f, p999_l, p999_r, p999_s, q1000a, q1000b, q1000c, q1000d, q1000e, q1000f, p1000_l, p1000_r, p1000_s, q2400a, q2400b, q2400c, q2400d, q2400e, q2400f, p2400_l, p2400_r, p2400_s, q9999a, q9999b, q9999c, q9999d, q9999e, q9999f, p9999_l, p9999_r, p9999_s, I00, I01, I10, I11, n_le, n_lt, n_eq, n_cl, n_add, n_ne9, n_ne1, if_true, if_false, Option.bind_some, if_pos, if_neg, set_9, touch_n]
theorem whatK_same {w0 w : Nat → Int32} {nb0 nm0 nt0 nb nm nt κ i : Nat} (h : isThb w0 nb0 nm0 nt0 κ i = isThb w nb nm nt κ i) (ho : isThb w nb nm nt κ i = true → ∀ k, k < othN nm κ → othp w0 w nm0 nm κ i k = false) : whatK w0 w nb0 nm0 nt0 nb nm nt κ i = 0 := by
  unfold whatK
  rw [if_pos h]
  by_cases e : isThb w nb nm nt κ i = true
  · rw [if_pos e]
    have : ¬ othB w0 w nm0 nm κ i = true := by
      intro z
      obtain ⟨k, hk, ek⟩ := anyB_iff.mp z
      rw [ho e k hk] at ek
      cases ek
    rw [if_neg this]
  · rw [if_neg e]
theorem whatK_new {w0 w : Nat → Int32} {nb0 nm0 nt0 nb nm nt κ i : Nat} (h : ¬ isTh w0 nb0 nm0 nt0 κ i) (h2 : isTh w nb nm nt κ i) : whatK w0 w nb0 nm0 nt0 nb nm nt κ i = 1 := by
  unfold whatK
  rw [if_neg (fun z => h (z.trans h2)), if_pos h2]
theorem whatK_gone {w0 w : Nat → Int32} {nb0 nm0 nt0 nb nm nt κ i : Nat} (h : isTh w0 nb0 nm0 nt0 κ i) (h2 : ¬ isTh w nb nm nt κ i) : whatK w0 w nb0 nm0 nt0 nb nm nt κ i = 3 := by
  unfold whatK
  rw [if_neg (fun z => h2 (z.symm.trans h)), if_neg h2]
theorem whatK_oth {w0 w : Nat → Int32} {nb0 nm0 nt0 nb nm nt κ i k : Nat} (h : isTh w0 nb0 nm0 nt0 κ i) (h2 : isTh w nb nm nt κ i) (hk : k < othN nm κ) (e : othp w0 w nm0 nm κ i k = true) : whatK w0 w nb0 nm0 nt0 nb nm nt κ i = 2 := by
  unfold whatK
  have ho : othB w0 w nm0 nm κ i = true := anyB_iff.mpr ⟨k, hk, e⟩
  rw [if_pos (h.trans h2.symm), if_pos h2, if_pos ho]
/-- mails and threads are the same -/
theorem whatK_mt {w w' : Nat → Int32} {nb nm nt nb' κ i : Nat} (hm : ∀ k, 80 ≤ k → k < 580 → w' k = w k) (h50 : nm ≤ 50) (hκ : κ < 3) (h0 : κ ≠ 0) (hi : i < 50) : whatK w w' nb nm nt nb' nm nt κ i = 0 := by
  have hth : ∀ m t, m < nm → thM w' t m = thM w t m := fun m t h => by
    unfold thM
    rw [hm (80 + 10 * m) (by omega) (by omega), hm (80 + 10 * m + 8) (by omega) (by omega)]
  have : κ = 1 ∨ κ = 2 := by omega
  rcases this with rfl | rfl
  · refine whatK_same ?_ (fun _ k hk => ?_)
    · show decide (i < nm ∧ w (80 + 10 * i) = 1) = decide (i < nm ∧ w' (80 + 10 * i) = 1)
      rw [hm (80 + 10 * i) (by omega) (by omega)]
    · have hk' : k < 10 := hk
      refine decide_eq_false (fun z => z.2 ?_)
      exact hm (80 + 10 * i + k) (by omega) (by omega)
  · refine whatK_same ?_ (fun _ k hk => ?_)
    · show decide (i < nt ∧ 0 < cntT w nm i) = decide (i < nt ∧ 0 < cntT w' nm i)
      rw [cntT_congr (w := w) (v := w') (fun m h => ⟨hm _ (by omega) (by omega), hm _ (by omega) (by omega)⟩)]
    · have hk' : k < nm := hk
      show (thIn w' nm i k != thIn w nm i k) = false
      unfold thIn
      rw [hth k i hk']
      simp
theorem TT_box {V V' : Mm} {τ0 : Nat → Nat} (hcl : rClean V) (hk : ∀ k, 28 ≤ k → k ≤ 75 → V' k = V k) (h27 : ∀ i, i < 50 → V' 27 i = nI (τ0 i)) (h7 : (V' 4 7 = 1 ∧ ∃ i, i < 50 ∧ τ0 i ≠ 0) ∨ (V' 4 7 = 0 ∧ ∀ i, i < 50 → τ0 i = 0)) : TT V' (fun κ i => if κ = 0 then τ0 i else 0) := by
  intro κ hκ
  have hc := TT_clean hcl κ hκ
  have : κ = 0 ∨ κ = 1 ∨ κ = 2 := by omega
  rcases this with rfl | rfl | rfl
  · exact ⟨h27, h7⟩
  · rw [hk (oK 1) (by decide) (by decide), hk (oK 1 + 23) (by decide) (by decide)]
    exact hc
  · rw [hk (oK 2) (by decide) (by decide), hk (oK 2 + 23) (by decide) (by decide)]
    exact hc
theorem full_0 {Vc : Mm} {w : Nat → Int32} {nb nm nt : Nat} (h : WRel Vc w nb nm nt) : eX2_isFull 4 Vc = some (b2i (nb = 20)) := by
  have h20 := (WRel_WN h).b20
  have h3 : Vc 4 3 = nI 20 := h.2.2.2.1.1
  have h4 : Vc 4 4 = nI nb := h.2.2.1.1
  unfold eX2_isFull
  rw [h3, h4]
  by_cases e : nb = 20
  · subst e; rw [b2i_T rfl]; simp (disch := omega) only [q0a, q0b, q0c, q0d, q0e, q0f, p0_l, p0_r, p0_s, q1a, q1b, q1c, q1d, q1e, q1f, p1_l, p1_r, p1_s, q2a, q2b, q2c, q2d, q2e, q2f, p2_l, p2_r, p2_s, q3a, q3b, q3c, q3d, q3e, q3f, p3_l, p3_r, p3_s, q4a, q4b, q4c, q4d, q4e, q4f, p4_l, p4_r, p4_s, p4_m, q5a, q5b, q5c, q5d, q5e, q5f, p5_l, p5_r, p5_s, p5_m, q6a, q6b, q6c, q6d, q6e, q6f, p6_l, p6_r, p6_s, q7a, q7b, q7c, q7d, q7e, q7f, p7_l, p7_r, p7_s, q8a, q8b, q8c, q8d, q8e, q8f, p8_l, p8_r, p8_s, q9a, q9b, q9c, q9d, q9e, q9f, p9_l, p9_r, p9_s, q10a, q10b, q10c, q10d, q10e, q10f, p10_l, p10_r, p10_s, p10_m, q11a, q11b, q11c, q11d, q11e, q11f, p11_l, p11_r, p11_s, q12a, q12b, q12c, q12d, q12e, q12f, p12_l, p12_r, p12_s, q15a, q15b, q15c, q15d, q15e, q15f, p15_l, p15_r, p15_s, q19a, q19b, q19c, q19d, q19e, q19f, p19_l, p19_r, p19_s, q20a, q20b, q20c, q20d, q20e, q20f, p20_l, p20_r, p20_s, q31a, q31b, q31c, q31d, q31e, q31f, p31_l, p31_r, p31_s, q40a, q40b, q40c, q40d, q40e, q40f, p40_l, p40_r, p40_s, q48a, q48b, q48c, q48d, q48e, q48f, p48_l, p48_r, p48_s, q50a, q50b, q50c, q50d, q50e, q50f, p50_l, p50_r, p50_s, p50_m, q52a, q52b, q52c, q52d, q52e, q52f, p52_l, p52_r, p52_s, q60a, q60b, q60c, q60d, q60e, q60f, p60_l, p60_r, p60_s, q63a, q63b, q63c, q63d, q63e, q63f, p63_l, p63_r, p63_s, q80a, q80b, q80c, q80d, q80e, q80f, p80_l, p80_r, p80_s, q99a, q99b, q99c, q99d, q99e, q99f, p99_l, p99_r, p99_s, q100a, q100b, q100c, q100d, q100e, q100f, p100_l, p100_r, p100_s, q120a, q120b, q120c, q120d, q120e, q120f, p120_l, p120_r, p120_s, q240a, q240b, q240c, q240d, q240e, q240f, p240_l, p240_r, p240_s, q243a, q243b, q243c, q243d, q243e, q243f, p243_l, p243_r, p243_s, q244a, q244b, q244c, q244d, q244e, q244f, p244_l, p244_r, p244_s, q580a, q580b, q580c, q580d, q580e, q580f, p580_l, p580_r, p580_s, q581a, q581b, q581c, q581d, q581e, q581f, p581_l, p581_r, p581_s, q582a, q582b, q582c, q582d, q582e, q582f, p582_l, p582_r, p582_s, q583a, q583b, q583c, q583d, q583e, q583f, p583_l, p583_r, p583_s, q584a, q584b, q584c, q584d, q584e, q584f, p584_l, p584_r, p584_s, q585a, q585b, q585c, q585d, q585e, q585f, p585_l, p585_r, p585_s, q586a, q586b, q586c, q586d, q586e, q586f, p586_l, p586_r, p586_s, q999a, q999b, q999c, q999d, q999e, q999f, p999_l, p999_r, p999_s, q1000a, q1000b, q1000c, q1000d, q1000e, q1000f, p1000_l, p1000_r, p1000_s, q2400a, q2400b, q2400c, q2400d, q2400e, q2400f, p2400_l, p2400_r, p2400_s, q9999a, q9999b, q9999c, q9999d, q9999e, q9999f, p9999_l, p9999_r, p9999_s, I00, I01, I10, I11, n_le, n_lt, n_eq, n_cl, n_add, n_ne9, n_ne1, if_true, if_false, Option.bind_some, if_pos, if_neg]
  · rw [b2i_F e]
    simp (disch := omega) only [q0a, q0b, q0c, q0d, q0e, q0f, p0_l, p0_r, p0_s, q1a, q1b, q1c, q1d, q1e, q1f, p1_l, p1_r, p1_s, q2a, q2b, q2c, q2d, q2e, q2f, p2_l, p2_r, p2_s, q3a, q3b, q3c, q3d, q3e, q3f, p3_l, p3_r, p3_s, q4a, q4b, q4c, q4d, q4e, q4f, p4_l, p4_r, p4_s, p4_m, q5a, q5b, q5c, q5d, q5e, q5f, p5_l, p5_r, p5_s, p5_m, q6a, q6b, q6c, q6d, q6e, q6f, p6_l, p6_r, p6_s, q7a, q7b, q7c, q7d, q7e, q7f, p7_l, p7_r, p7_s, q8a, q8b, q8c, q8d, q8e, q8f, p8_l, p8_r, p8_s, q9a, q9b, q9c, q9d, q9e, q9f, p9_l, p9_r, p9_s, q10a, q10b, q10c, q10d, q10e, q10f, p10_l, p10_r, p10_s, p10_m, q11a, q11b, q11c, q11d, q11e, q11f, p11_l, p11_r, p11_s, q12a, q12b, q12c, q12d, q12e, q12f, p12_l, p12_r, p12_s, q15a, q15b, q15c, q15d, q15e, q15f, p15_l, p15_r, p15_s, q19a, q19b, q19c, q19d, q19e, q19f, p19_l, p19_r, p19_s, q20a, q20b, q20c, q20d, q20e, q20f, p20_l, p20_r, p20_s, q31a, q31b, q31c, q31d, q31e, q31f, p31_l, p31_r, p31_s, q40a, q40b, q40c, q40d, q40e, q40f, p40_l, p40_r, p40_s, q48a, q48b, q48c, q48d, q48e, q48f, p48_l, p48_r, p48_s, q50a, q50b, q50c, q50d, q50e, q50f, p50_l, p50_r, p50_s, p50_m, q52a, q52b, q52c, q52d, q52e, q52f, p52_l, p52_r, p52_s, q60a, q60b, q60c, q60d, q60e, q60f, p60_l, p60_r, p60_s, q63a, q63b, q63c, q63d, q63e, q63f, p63_l, p63_r, p63_s, q80a, q80b, q80c, q80d, q80e, q80f, p80_l, p80_r, p80_s, q99a, q99b, q99c, q99d, q99e, q99f, p99_l, p99_r, p99_s, q100a, q100b, q100c, q100d, q100e, q100f, p100_l, p100_r, p100_s, q120a, q120b, q120c, q120d, q120e, q120f, p120_l, p120_r, p120_s, q240a, q240b, q240c, q240d, q240e, q240f, p240_l, p240_r, p240_s, q243a, q243b, q243c, q243d, q243e, q243f, p243_l, p243_r, p243_s, q244a, q244b, q244c, q244d, q244e, q244f, p244_l, p244_r, p244_s, q580a, q580b, q580c, q580d, q580e, q580f, p580_l, p580_r, p580_s, q581a, q581b, q581c, q581d, q581e, q581f, p581_l, p581_r, p581_s, q582a, q582b, q582c, q582d, q582e, q582f, p582_l, p582_r, p582_s, q583a, q583b, q583c, q583d, q583e, q583f, p583_l, p583_r, p583_s, q584a, q584b, q584c, q584d, q584e, q584f, p584_l, p584_r, p584_s, q585a, q585b, q585c, q585d, q585e, q585f, p585_l, p585_r, p585_s, q586a, q586b, q586c, q586d, q586e, q586f, p586_l, p586_r, p586_s, q999a, q999b, q999c, q999d, q999e, q999f, p999_l, p999_r, p999_s, q1000a, q1000b, q1000c, q1000d, q1000e, q1000f, p1000_l, p1000_r, p1000_s, q2400a, q2400b, q2400c, q2400d, q2400e, q2400f, p2400_l, p2400_r, p2400_s, q9999a, q9999b, q9999c, q9999d, q9999e, q9999f, p9999_l, p9999_r, p9999_s, I00, I01, I10, I11, n_le, n_lt, n_eq, n_cl, n_add, n_ne9, n_ne1, if_true, if_false, Option.bind_some, if_pos, if_neg]
theorem mb_fin {q nb nm nt : Nat} {Vc Vm : Mm} {par : Int32} {d : Nat → Nat} {dp : Nat} (h : CS q Vc Vm nb nm nt) (hM : mkF q Vc Vm 0) (hd : dpt (Vm 1) nb d)
    (hpar : (par = -9 ∧ dp = 0) ∨ ∃ p, p < nb ∧ par = nI p ∧ Vm 1 (4 * p) = 1 ∧ dp = d p) :
    ∃ (code : Int32) (Vc' Vm' : Mm), eX5_makeBox_b30 (89 + 9 * q) (91 + 9 * q) par Vc = some (code, Vc') ∧ (if dp = 4 then some ((-3), Vm) else eX6_makeBox_b115 par Vm) = some (code, Vm') ∧ loudR q Vc Vm nb nm nt code Vc' Vm' := by
  obtain ⟨hA, hC, hW, hF, hfil, hlog, hinv, hcl, hrow, h2⟩ := h
  obtain ⟨g1, g2, g3⟩ := id hA
  have hw := WRel_WN hW
  have h20 := hw.b20
  obtain ⟨f1, f2, -, f3, f4, f6, f7⟩ := hM
  have hp := hF.2.1
  have ed : eX5_depthOf par Vc = some (nI dp) := by
    rcases hpar with ⟨p1, p2⟩ | ⟨p, p1, p2, p3, p4⟩
    · rw [p1, p2]; exact depth_c9
    · rw [p2, p4]; exact depth_cn hW hp hd p1 p3
  have hdp4 : dp ≤ 4 := by
    rcases hpar with ⟨p1, p2⟩ | ⟨p, p1, p2, p3, p4⟩
    · omega
    · rw [p4]; exact (hd p p1 p3).2.1
  have hno : ∀ code : Int32, code ≠ 0 → loudR q Vc Vm nb nm nt code Vc Vm := fun code h0 => ⟨frC_rfl, frM_rfl, Or.inr ⟨h0, hW, hcl⟩⟩
  have en : eX5_isNameTaken (Vc (89 + 9 * q + 1) 0) par (-9) Vc = some (b2i (nmdB (Vm 1) nb (-9) (Vm 7 (10 * q + 0)) par = true)) := by
    rw [f7 0 (by omega)]; exact name_n hW
  have em : eX6_isNamed 1 (-9) par (Vm 7 (10 * q + 0)) Vm = some (b2i (nmdB (Vm 1) nb (-9) (Vm 7 (10 * q + 0)) par = true)) := mnamed_n hw
  have d0 : ∀ W : Mm, W 0 = Vm 0 → W 7 = Vm 7 → eX6_drafted 0 W = some (Vm 7 (10 * q + 0)) := fun W e0 e7 => by
    rw [← e7]; exact drafted_n (k := 0) g1 (by rw [e0]; exact g2) (by omega)
  have d2 : ∀ W : Mm, W 0 = Vm 0 → W 7 = Vm 7 → eX6_drafted 2 W = some (Vm 7 (10 * q + 2)) := fun W e0 e7 => by
    rw [← e7]; exact drafted_n (k := 2) g1 (by rw [e0]; exact g2) (by omega)
  unfold eX5_makeBox_b30 eX6_makeBox_b115
  rw [en, d0 Vm rfl rfl, Option.bind_some, Option.bind_some, em, Option.bind_some]
  by_cases hn : nmdB (Vm 1) nb (-9) (Vm 7 (10 * q + 0)) par = true
  · refine ⟨-3, Vc, Vm, ?_, ?_, hno _ (by decide)⟩
    · rw [b2i_T hn, if_neg (show ¬ (1 : Int32) = 0 by decide)]
    · rw [b2i_T hn, if_neg (show ¬ (1 : Int32) = 0 by decide)]
      split <;> rfl
  · rw [b2i_F hn, if_pos (show (0 : Int32) = 0 from rfl), if_pos (show (0 : Int32) = 0 from rfl), ed, Option.bind_some]
    by_cases hd4 : dp = 4
    · refine ⟨-3, Vc, Vm, ?_, ?_, hno _ (by decide)⟩
      · simp (disch := omega) only [q0a, q0b, q0c, q0d, q0e, q0f, p0_l, p0_r, p0_s, q1a, q1b, q1c, q1d, q1e, q1f, p1_l, p1_r, p1_s, q2a, q2b, q2c, q2d, q2e, q2f, p2_l, p2_r, p2_s, q3a, q3b, q3c, q3d, q3e, q3f, p3_l, p3_r, p3_s, q4a, q4b, q4c, q4d, q4e, q4f, p4_l, p4_r, p4_s, p4_m, q5a, q5b, q5c, q5d, q5e, q5f, p5_l, p5_r, p5_s, p5_m, q6a, q6b, q6c, q6d, q6e, q6f, p6_l, p6_r, p6_s, q7a, q7b, q7c, q7d, q7e, q7f, p7_l, p7_r, p7_s, q8a, q8b, q8c, q8d, q8e, q8f, p8_l, p8_r, p8_s, q9a, q9b, q9c, q9d, q9e, q9f, p9_l, p9_r, p9_s, q10a, q10b, q10c, q10d, q10e, q10f, p10_l, p10_r, p10_s, p10_m, q11a, q11b, q11c, q11d, q11e, q11f, p11_l, p11_r, p11_s, q12a, q12b, q12c, q12d, q12e, q12f, p12_l, p12_r, p12_s, q15a, q15b, q15c, q15d, q15e, q15f, p15_l, p15_r, p15_s, q19a, q19b, q19c, q19d, q19e, q19f, p19_l, p19_r, p19_s, q20a, q20b, q20c, q20d, q20e, q20f, p20_l, p20_r, p20_s, q31a, q31b, q31c, q31d, q31e, q31f, p31_l, p31_r, p31_s, q40a, q40b, q40c, q40d, q40e, q40f, p40_l, p40_r, p40_s, q48a, q48b, q48c, q48d, q48e, q48f, p48_l, p48_r, p48_s, q50a, q50b, q50c, q50d, q50e, q50f, p50_l, p50_r, p50_s, p50_m, q52a, q52b, q52c, q52d, q52e, q52f, p52_l, p52_r, p52_s, q60a, q60b, q60c, q60d, q60e, q60f, p60_l, p60_r, p60_s, q63a, q63b, q63c, q63d, q63e, q63f, p63_l, p63_r, p63_s, q80a, q80b, q80c, q80d, q80e, q80f, p80_l, p80_r, p80_s, q99a, q99b, q99c, q99d, q99e, q99f, p99_l, p99_r, p99_s, q100a, q100b, q100c, q100d, q100e, q100f, p100_l, p100_r, p100_s, q120a, q120b, q120c, q120d, q120e, q120f, p120_l, p120_r, p120_s, q240a, q240b, q240c, q240d, q240e, q240f, p240_l, p240_r, p240_s, q243a, q243b, q243c, q243d, q243e, q243f, p243_l, p243_r, p243_s, q244a, q244b, q244c, q244d, q244e, q244f, p244_l, p244_r, p244_s, q580a, q580b, q580c, q580d, q580e, q580f, p580_l, p580_r, p580_s, q581a, q581b, q581c, q581d, q581e, q581f, p581_l, p581_r, p581_s, q582a, q582b, q582c, q582d, q582e, q582f, p582_l, p582_r, p582_s, q583a, q583b, q583c, q583d, q583e, q583f, p583_l, p583_r, p583_s, q584a, q584b, q584c, q584d, q584e, q584f, p584_l, p584_r, p584_s, q585a, q585b, q585c, q585d, q585e, q585f, p585_l, p585_r, p585_s, q586a, q586b, q586c, q586d, q586e, q586f, p586_l, p586_r, p586_s, q999a, q999b, q999c, q999d, q999e, q999f, p999_l, p999_r, p999_s, q1000a, q1000b, q1000c, q1000d, q1000e, q1000f, p1000_l, p1000_r, p1000_s, q2400a, q2400b, q2400c, q2400d, q2400e, q2400f, p2400_l, p2400_r, p2400_s, q9999a, q9999b, q9999c, q9999d, q9999e, q9999f, p9999_l, p9999_r, p9999_s, I00, I01, I10, I11, n_le, n_lt, n_eq, n_cl, n_add, n_ne9, n_ne1, if_true, if_false, Option.bind_some, if_pos, if_neg]
      · rw [if_pos hd4]
    · rw [if_neg hd4]
      simp (disch := omega) only [q0a, q0b, q0c, q0d, q0e, q0f, p0_l, p0_r, p0_s, q1a, q1b, q1c, q1d, q1e, q1f, p1_l, p1_r, p1_s, q2a, q2b, q2c, q2d, q2e, q2f, p2_l, p2_r, p2_s, q3a, q3b, q3c, q3d, q3e, q3f, p3_l, p3_r, p3_s, q4a, q4b, q4c, q4d, q4e, q4f, p4_l, p4_r, p4_s, p4_m, q5a, q5b, q5c, q5d, q5e, q5f, p5_l, p5_r, p5_s, p5_m, q6a, q6b, q6c, q6d, q6e, q6f, p6_l, p6_r, p6_s, q7a, q7b, q7c, q7d, q7e, q7f, p7_l, p7_r, p7_s, q8a, q8b, q8c, q8d, q8e, q8f, p8_l, p8_r, p8_s, q9a, q9b, q9c, q9d, q9e, q9f, p9_l, p9_r, p9_s, q10a, q10b, q10c, q10d, q10e, q10f, p10_l, p10_r, p10_s, p10_m, q11a, q11b, q11c, q11d, q11e, q11f, p11_l, p11_r, p11_s, q12a, q12b, q12c, q12d, q12e, q12f, p12_l, p12_r, p12_s, q15a, q15b, q15c, q15d, q15e, q15f, p15_l, p15_r, p15_s, q19a, q19b, q19c, q19d, q19e, q19f, p19_l, p19_r, p19_s, q20a, q20b, q20c, q20d, q20e, q20f, p20_l, p20_r, p20_s, q31a, q31b, q31c, q31d, q31e, q31f, p31_l, p31_r, p31_s, q40a, q40b, q40c, q40d, q40e, q40f, p40_l, p40_r, p40_s, q48a, q48b, q48c, q48d, q48e, q48f, p48_l, p48_r, p48_s, q50a, q50b, q50c, q50d, q50e, q50f, p50_l, p50_r, p50_s, p50_m, q52a, q52b, q52c, q52d, q52e, q52f, p52_l, p52_r, p52_s, q60a, q60b, q60c, q60d, q60e, q60f, p60_l, p60_r, p60_s, q63a, q63b, q63c, q63d, q63e, q63f, p63_l, p63_r, p63_s, q80a, q80b, q80c, q80d, q80e, q80f, p80_l, p80_r, p80_s, q99a, q99b, q99c, q99d, q99e, q99f, p99_l, p99_r, p99_s, q100a, q100b, q100c, q100d, q100e, q100f, p100_l, p100_r, p100_s, q120a, q120b, q120c, q120d, q120e, q120f, p120_l, p120_r, p120_s, q240a, q240b, q240c, q240d, q240e, q240f, p240_l, p240_r, p240_s, q243a, q243b, q243c, q243d, q243e, q243f, p243_l, p243_r, p243_s, q244a, q244b, q244c, q244d, q244e, q244f, p244_l, p244_r, p244_s, q580a, q580b, q580c, q580d, q580e, q580f, p580_l, p580_r, p580_s, q581a, q581b, q581c, q581d, q581e, q581f, p581_l, p581_r, p581_s, q582a, q582b, q582c, q582d, q582e, q582f, p582_l, p582_r, p582_s, q583a, q583b, q583c, q583d, q583e, q583f, p583_l, p583_r, p583_s, q584a, q584b, q584c, q584d, q584e, q584f, p584_l, p584_r, p584_s, q585a, q585b, q585c, q585d, q585e, q585f, p585_l, p585_r, p585_s, q586a, q586b, q586c, q586d, q586e, q586f, p586_l, p586_r, p586_s, q999a, q999b, q999c, q999d, q999e, q999f, p999_l, p999_r, p999_s, q1000a, q1000b, q1000c, q1000d, q1000e, q1000f, p1000_l, p1000_r, p1000_s, q2400a, q2400b, q2400c, q2400d, q2400e, q2400f, p2400_l, p2400_r, p2400_s, q9999a, q9999b, q9999c, q9999d, q9999e, q9999f, p9999_l, p9999_r, p9999_s, I00, I01, I10, I11, n_le, n_lt, n_eq, n_cl, n_add, n_ne9, n_ne1, if_true, if_false, Option.bind_some, if_pos, if_neg, full_0 hW, hw.eb]
      by_cases hb : nb = 20
      · refine ⟨-4, Vc, Vm, ?_, ?_, hno _ (by decide)⟩
        · rw [b2i_T hb]
          simp (disch := omega) only [q0a, q0b, q0c, q0d, q0e, q0f, p0_l, p0_r, p0_s, q1a, q1b, q1c, q1d, q1e, q1f, p1_l, p1_r, p1_s, q2a, q2b, q2c, q2d, q2e, q2f, p2_l, p2_r, p2_s, q3a, q3b, q3c, q3d, q3e, q3f, p3_l, p3_r, p3_s, q4a, q4b, q4c, q4d, q4e, q4f, p4_l, p4_r, p4_s, p4_m, q5a, q5b, q5c, q5d, q5e, q5f, p5_l, p5_r, p5_s, p5_m, q6a, q6b, q6c, q6d, q6e, q6f, p6_l, p6_r, p6_s, q7a, q7b, q7c, q7d, q7e, q7f, p7_l, p7_r, p7_s, q8a, q8b, q8c, q8d, q8e, q8f, p8_l, p8_r, p8_s, q9a, q9b, q9c, q9d, q9e, q9f, p9_l, p9_r, p9_s, q10a, q10b, q10c, q10d, q10e, q10f, p10_l, p10_r, p10_s, p10_m, q11a, q11b, q11c, q11d, q11e, q11f, p11_l, p11_r, p11_s, q12a, q12b, q12c, q12d, q12e, q12f, p12_l, p12_r, p12_s, q15a, q15b, q15c, q15d, q15e, q15f, p15_l, p15_r, p15_s, q19a, q19b, q19c, q19d, q19e, q19f, p19_l, p19_r, p19_s, q20a, q20b, q20c, q20d, q20e, q20f, p20_l, p20_r, p20_s, q31a, q31b, q31c, q31d, q31e, q31f, p31_l, p31_r, p31_s, q40a, q40b, q40c, q40d, q40e, q40f, p40_l, p40_r, p40_s, q48a, q48b, q48c, q48d, q48e, q48f, p48_l, p48_r, p48_s, q50a, q50b, q50c, q50d, q50e, q50f, p50_l, p50_r, p50_s, p50_m, q52a, q52b, q52c, q52d, q52e, q52f, p52_l, p52_r, p52_s, q60a, q60b, q60c, q60d, q60e, q60f, p60_l, p60_r, p60_s, q63a, q63b, q63c, q63d, q63e, q63f, p63_l, p63_r, p63_s, q80a, q80b, q80c, q80d, q80e, q80f, p80_l, p80_r, p80_s, q99a, q99b, q99c, q99d, q99e, q99f, p99_l, p99_r, p99_s, q100a, q100b, q100c, q100d, q100e, q100f, p100_l, p100_r, p100_s, q120a, q120b, q120c, q120d, q120e, q120f, p120_l, p120_r, p120_s, q240a, q240b, q240c, q240d, q240e, q240f, p240_l, p240_r, p240_s, q243a, q243b, q243c, q243d, q243e, q243f, p243_l, p243_r, p243_s, q244a, q244b, q244c, q244d, q244e, q244f, p244_l, p244_r, p244_s, q580a, q580b, q580c, q580d, q580e, q580f, p580_l, p580_r, p580_s, q581a, q581b, q581c, q581d, q581e, q581f, p581_l, p581_r, p581_s, q582a, q582b, q582c, q582d, q582e, q582f, p582_l, p582_r, p582_s, q583a, q583b, q583c, q583d, q583e, q583f, p583_l, p583_r, p583_s, q584a, q584b, q584c, q584d, q584e, q584f, p584_l, p584_r, p584_s, q585a, q585b, q585c, q585d, q585e, q585f, p585_l, p585_r, p585_s, q586a, q586b, q586c, q586d, q586e, q586f, p586_l, p586_r, p586_s, q999a, q999b, q999c, q999d, q999e, q999f, p999_l, p999_r, p999_s, q1000a, q1000b, q1000c, q1000d, q1000e, q1000f, p1000_l, p1000_r, p1000_s, q2400a, q2400b, q2400c, q2400d, q2400e, q2400f, p2400_l, p2400_r, p2400_s, q9999a, q9999b, q9999c, q9999d, q9999e, q9999f, p9999_l, p9999_r, p9999_s, I00, I01, I10, I11, n_le, n_lt, n_eq, n_cl, n_add, n_ne9, n_ne1, if_true, if_false, Option.bind_some, if_pos, if_neg]
        · rw [if_pos hb]
      · have q0 : eX6_drafted 0 (wr (wr Vm 1 580 (nI (nb + 1))) 1 (4 * nb) 1) = some (Vm 7 (10 * q + 0)) := d0 _ (by simp (disch := omega) only [wr_ne]) (by simp (disch := omega) only [wr_ne])
        have q2 : eX6_drafted 2 (wr (wr (wr (wr Vm 1 580 (nI (nb + 1))) 1 (4 * nb) 1) 1 (4 * nb + 1) (Vm 7 (10 * q + 0))) 1 (4 * nb + 2) par) = some (Vm 7 (10 * q + 2)) := d2 _ (by simp (disch := omega) only [wr_ne]) (by simp (disch := omega) only [wr_ne])
        simp (disch := omega) only [q0a, q0b, q0c, q0d, q0e, q0f, p0_l, p0_r, p0_s, q1a, q1b, q1c, q1d, q1e, q1f, p1_l, p1_r, p1_s, q2a, q2b, q2c, q2d, q2e, q2f, p2_l, p2_r, p2_s, q3a, q3b, q3c, q3d, q3e, q3f, p3_l, p3_r, p3_s, q4a, q4b, q4c, q4d, q4e, q4f, p4_l, p4_r, p4_s, p4_m, q5a, q5b, q5c, q5d, q5e, q5f, p5_l, p5_r, p5_s, p5_m, q6a, q6b, q6c, q6d, q6e, q6f, p6_l, p6_r, p6_s, q7a, q7b, q7c, q7d, q7e, q7f, p7_l, p7_r, p7_s, q8a, q8b, q8c, q8d, q8e, q8f, p8_l, p8_r, p8_s, q9a, q9b, q9c, q9d, q9e, q9f, p9_l, p9_r, p9_s, q10a, q10b, q10c, q10d, q10e, q10f, p10_l, p10_r, p10_s, p10_m, q11a, q11b, q11c, q11d, q11e, q11f, p11_l, p11_r, p11_s, q12a, q12b, q12c, q12d, q12e, q12f, p12_l, p12_r, p12_s, q15a, q15b, q15c, q15d, q15e, q15f, p15_l, p15_r, p15_s, q19a, q19b, q19c, q19d, q19e, q19f, p19_l, p19_r, p19_s, q20a, q20b, q20c, q20d, q20e, q20f, p20_l, p20_r, p20_s, q31a, q31b, q31c, q31d, q31e, q31f, p31_l, p31_r, p31_s, q40a, q40b, q40c, q40d, q40e, q40f, p40_l, p40_r, p40_s, q48a, q48b, q48c, q48d, q48e, q48f, p48_l, p48_r, p48_s, q50a, q50b, q50c, q50d, q50e, q50f, p50_l, p50_r, p50_s, p50_m, q52a, q52b, q52c, q52d, q52e, q52f, p52_l, p52_r, p52_s, q60a, q60b, q60c, q60d, q60e, q60f, p60_l, p60_r, p60_s, q63a, q63b, q63c, q63d, q63e, q63f, p63_l, p63_r, p63_s, q80a, q80b, q80c, q80d, q80e, q80f, p80_l, p80_r, p80_s, q99a, q99b, q99c, q99d, q99e, q99f, p99_l, p99_r, p99_s, q100a, q100b, q100c, q100d, q100e, q100f, p100_l, p100_r, p100_s, q120a, q120b, q120c, q120d, q120e, q120f, p120_l, p120_r, p120_s, q240a, q240b, q240c, q240d, q240e, q240f, p240_l, p240_r, p240_s, q243a, q243b, q243c, q243d, q243e, q243f, p243_l, p243_r, p243_s, q244a, q244b, q244c, q244d, q244e, q244f, p244_l, p244_r, p244_s, q580a, q580b, q580c, q580d, q580e, q580f, p580_l, p580_r, p580_s, q581a, q581b, q581c, q581d, q581e, q581f, p581_l, p581_r, p581_s, q582a, q582b, q582c, q582d, q582e, q582f, p582_l, p582_r, p582_s, q583a, q583b, q583c, q583d, q583e, q583f, p583_l, p583_r, p583_s, q584a, q584b, q584c, q584d, q584e, q584f, p584_l, p584_r, p584_s, q585a, q585b, q585c, q585d, q585e, q585f, p585_l, p585_r, p585_s, q586a, q586b, q586c, q586d, q586e, q586f, p586_l, p586_r, p586_s, q999a, q999b, q999c, q999d, q999e, q999f, p999_l, p999_r, p999_s, q1000a, q1000b, q1000c, q1000d, q1000e, q1000f, p1000_l, p1000_r, p1000_s, q2400a, q2400b, q2400c, q2400d, q2400e, q2400f, p2400_l, p2400_r, p2400_s, q9999a, q9999b, q9999c, q9999d, q9999e, q9999f, p9999_l, p9999_r, p9999_s, I00, I01, I10, I11, n_le, n_lt, n_eq, n_cl, n_add, n_ne9, n_ne1, if_true, if_false, Option.bind_some, if_pos, if_neg, b2i_F hb, add_K (show Vc 4 4 = nI nb from hW.2.2.1.1) (show nb < 50 by omega), set_0, set_1, set_2, wr_ne, f7, wr_at, q0, q2, Nat.reduceAdd]
        have hkC : ∀ k, k ≠ 4 → k ≠ 15 → k ≠ 27 → k ≠ 6 → k ≠ 7 → k ≠ 8 → (wr (wr (wr (wr (wr (wr (wr Vc 4 4 (nI (nb + 1))) 15 nb 1) 27 nb 1) 4 7 1) 6 nb (Vm 7 (10 * q + 0))) 7 nb par) 8 nb (Vm 7 (10 * q + 2))) k = Vc k := fun k k1 k2 k3 k4 k5 k6 => by
          rw [wr_ne k6, wr_ne k5, wr_ne k4, wr_ne k1, wr_ne k3, wr_ne k2, wr_ne k1]
        have hkM : ∀ k, k ≠ 1 → (wr (wr (wr (wr (wr Vm 1 580 (nI (nb + 1))) 1 (4 * nb) 1) 1 (4 * nb + 1) (Vm 7 (10 * q + 0))) 1 (4 * nb + 2) par) 1 (4 * nb + 3) (Vm 7 (10 * q + 2))) k = Vm k := fun k k1 => by
          rw [wr_ne k1, wr_ne k1, wr_ne k1, wr_ne k1, wr_ne k1]
        have hw' : ∀ k, k < 586 → k ≠ 580 → (k < 4 * nb ∨ 4 * nb + 4 ≤ k) → (wr (wr (wr (wr (wr Vm 1 580 (nI (nb + 1))) 1 (4 * nb) 1) 1 (4 * nb + 1) (Vm 7 (10 * q + 0))) 1 (4 * nb + 2) par) 1 (4 * nb + 3) (Vm 7 (10 * q + 2))) 1 k = Vm 1 k := fun k _ k2 k3 => by
          rw [wr_in (by omega), wr_in (by omega), wr_in (by omega), wr_in (by omega), wr_in k2]
        have w580 : (wr (wr (wr (wr (wr Vm 1 580 (nI (nb + 1))) 1 (4 * nb) 1) 1 (4 * nb + 1) (Vm 7 (10 * q + 0))) 1 (4 * nb + 2) par) 1 (4 * nb + 3) (Vm 7 (10 * q + 2))) 1 580 = nI (nb + 1) := by
          rw [wr_in (by omega), wr_in (by omega), wr_in (by omega), wr_in (by omega), wr_at]
        obtain ⟨n1, n2⟩ := newBox (w' := (wr (wr (wr (wr (wr Vm 1 580 (nI (nb + 1))) 1 (4 * nb) 1) 1 (4 * nb + 1) (Vm 7 (10 * q + 0))) 1 (4 * nb + 2) par) 1 (4 * nb + 3) (Vm 7 (10 * q + 2))) 1)
          (V' := wr (wr (wr (wr (wr (wr (wr Vc 4 4 (nI (nb + 1))) 15 nb 1) 27 nb 1) 4 7 1) 6 nb (Vm 7 (10 * q + 0))) 7 nb par) 8 nb (Vm 7 (10 * q + 2))) hW hF (by omega) hd hpar (by omega) hn hw' w580
          (by rw [wr_in (by omega), wr_in (by omega), wr_in (by omega), wr_at]) (by rw [wr_in (by omega), wr_in (by omega), wr_at]) (by rw [wr_in (by omega), wr_at]) (by rw [wr_at])
          (fun k a b => hkC k (by omega) (by omega) (by omega) (by omega) (by omega) (by omega)) (by simp (disch := omega) only [wr_ne, wr_in]) (by simp (disch := omega) only [wr_ne, wr_in, wr_at]) (by simp (disch := omega) only [wr_ne, wr_in])
          (fun c hc b hb2 => by rcases hc with rfl | rfl | rfl | rfl <;> simp (disch := omega) only [wr_ne, wr_in]) (by simp (disch := omega) only [wr_ne, wr_at]) (by simp (disch := omega) only [wr_ne, wr_at]) (by simp (disch := omega) only [wr_ne, wr_at]) (by rw [wr_at])
        have hT : TT (wr (wr (wr (wr (wr (wr (wr Vc 4 4 (nI (nb + 1))) 15 nb 1) 27 nb 1) 4 7 1) 6 nb (Vm 7 (10 * q + 0))) 7 nb par) 8 nb (Vm 7 (10 * q + 2))) (fun κ i => if κ = 0 then (if i = nb then 1 else 0) else 0) := by
          refine TT_box (τ0 := fun i => if i = nb then 1 else 0) hcl (fun k a b => hkC k (by omega) (by omega) (by omega) (by omega) (by omega) (by omega)) (fun i hi => ?_) (Or.inl ⟨?_, nb, by omega, by simp⟩)
          · by_cases e : i = nb
            · subst e
              rw [if_pos rfl]
              simp (disch := omega) only [wr_ne, wr_at]
              rfl
            · rw [if_neg e]
              simp (disch := omega) only [wr_ne, wr_in]
              exact (hcl.2 i hi).1
          · simp (disch := omega) only [wr_ne, wr_at]
        generalize hVc1 : wr (wr (wr (wr (wr (wr (wr Vc 4 4 (nI (nb + 1))) 15 nb 1) 27 nb 1) 4 7 1) 6 nb (Vm 7 (10 * q + 0))) 7 nb par) 8 nb (Vm 7 (10 * q + 2)) = Vc1 at *
        generalize hVm1 : wr (wr (wr (wr (wr Vm 1 580 (nI (nb + 1))) 1 (4 * nb) 1) 1 (4 * nb + 1) (Vm 7 (10 * q + 0))) 1 (4 * nb + 2) par) 1 (4 * nb + 3) (Vm 7 (10 * q + 2)) = Vm1 at *
        obtain ⟨Vc2, Vm2, a1, a2, a3, a4, a5, a6⟩ := give_n (rowsIn_fr hrow (fun k a b => hkC k (by omega) (by omega) (by omega) (by omega) (by omega) (by omega)) (hkM 9 (by omega)) (hkM 10 (by omega))) g1 (r := 1) (x := nb) (by omega) (by omega) (fun _ _ => by omega) (by omega) (fun z => z)
        have e1 : Vm2 1 = Vm1 1 := a6.1 1 (by omega) (by omega)
        refine ⟨0, Vc2, Vm2, ?_, ?_, ?_, ?_, Or.inl ⟨rfl, rowsIn_rel a4 (fun r _ => by split <;> omega), nb + 1, nm, nt, ?_, ?_, ⟨by omega, Nat.le_refl _, Nat.le_refl _, ?_, ?_⟩, ?_⟩⟩
        · rw [show eX4_add (91 + 9 * q) 1 (nI nb) Vc1 = _ from a1]; rfl
        · rw [g2, show eX6_give (nI q) 1 (nI nb) Vm1 = _ from a2]; rfl
        · refine frC_tr ⟨fun k b1 b2 b3 b4 b5 => hkC k (by omega) (by omega) (by omega) (by omega) (by omega) (by omega), fun x _ => ?_⟩ (out_frC a5)
          rw [hkC 0 (by omega) (by omega) (by omega) (by omega) (by omega) (by omega)]
        · refine frM_tr ⟨fun k _ b2 _ _ _ _ _ => hkM k b2, fun x _ => by rw [hkM 0 (by omega)], fun i _ => by rw [hkM 9 (by omega)], fun i _ => by rw [hkM 10 (by omega)]⟩ (out_frM a6)
        · rw [e1]; exact WRel_stay n1 (fun k b1 b2 => a5 k (by omega))
        · rw [e1]; exact n2
        · intro κ i hκ hi hth
          rw [e1] at hth
          have hcs : κ = 0 ∨ κ = 1 ∨ κ = 2 := by omega
          rcases hcs with rfl | rfl | rfl
          · have hi' : i < nb := hi
            obtain ⟨t1, t2⟩ := isTh_0.mp hth
            rw [hw' _ (by omega) (by omega) (by omega)] at t2
            exact isTh_0.mpr ⟨hi', t2⟩
          · obtain ⟨t1, t2⟩ := isTh_1.mp hth
            have := hw.m50
            rw [hw' _ (by omega) (by omega) (by omega)] at t2
            exact isTh_1.mpr ⟨t1, t2⟩
          · obtain ⟨t1, t2⟩ := isTh_2.mp hth
            have := hw.m50
            rw [cntT_congr (w := Vm 1) (v := Vm1 1) (fun m hm => ⟨hw' _ (by omega) (by omega) (by omega), hw' _ (by omega) (by omega) (by omega)⟩)] at t2
            exact isTh_2.mpr ⟨t1, t2⟩
        · intro κ hκ
          rw [e1]; exact hw' _ (by omega) (by omega) (by omega)
        · rw [e1]
          refine TT_congr (TT_stay hT (fun k b1 b2 => a5 k (by omega))) (fun κ i hκ hi => ?_)
          by_cases h0 : κ = 0
          · subst h0
            rw [if_pos rfl]
            by_cases e : i = nb
            · subst e
              rw [if_pos rfl]
              refine whatK_new (fun z => ?_) (isTh_0.mpr ⟨by omega, ?_⟩)
              · have := (isTh_0.mp z).1; omega
              · rw [← hVm1, wr_in (by omega), wr_in (by omega), wr_in (by omega), wr_at]
            · rw [if_neg e]
              refine whatK_same ?_ (fun z k hk => ?_)
              · show decide (i < nb ∧ Vm 1 (4 * i) = 1) = decide (i < nb + 1 ∧ Vm1 1 (4 * i) = 1)
                by_cases hib : i < nb
                · rw [hw' _ (by omega) (by omega) (by omega)]
                  simp [hib, show i < nb + 1 by omega]
                · simp [hib, show ¬ i < nb + 1 by omega]
              · have hk' : k < 4 := hk
                have hib := (isTh_0.mp z).1
                exact decide_eq_false (fun z => z.2 (hw' _ (by omega) (by omega) (by omega)))
          · rw [if_neg h0]
            exact whatK_mt (fun k b1 b2 => hw' k (by omega) (by omega) (by omega)) hw.m50 hκ h0 hi
theorem makeBox_call {q nb nm nt : Nat} {Vc Vm : Mm} (h : CS q Vc Vm nb nm nt) (ht : Vm 5 q = 3) (hk : Vm 6 (5 * q) = 0) : loud q Vc Vm nb nm nt := by
  obtain ⟨hA, hC, hW, hF, hfil, hlog, hinv, hcl, hrow, h2⟩ := id h
  obtain ⟨g1, g2, g3⟩ := id hA
  have hw := WRel_WN hW
  have hM : mkF q Vc Vm 0 := by rw [← hk]; exact mkF_n hC ht
  have hdo : eX6_doCall Vm = eX6_makeBox Vm := by rw [doMake_n g1 g2 ht, some_pr, dm_box (Vc := Vc) g1 g2 hk]
  have hac := act_box hM.1 hM.2.1
  obtain ⟨d, hd⟩ := hF.2.2.1
  rcases mb_check hA hM with ⟨r, r0, r1, r2⟩ | ⟨r1, par, hpar, hpc, hmm⟩
  · exact ⟨r, Vc, Vm, callC_r r1 r0, by rw [hdo, r2], frC_rfl, frM_rfl, Or.inr ⟨r0, hW, hcl⟩⟩
  · unfold loud
    rw [callC_0 r1, hac, hdo, hmm]
    unfold eX5_makeBox eX6_makeBox_b79
    rw [hpc, Option.bind_some]
    rcases hpar with ⟨p1, p2⟩ | ⟨p1, -, -, -, i, hi, p2⟩
    · rw [p2, if_pos p1, if_pos rfl, if_pos rfl, if_pos rfl]
      obtain ⟨code, Vc', Vm', e1, e2, e3⟩ := mb_fin h hM hd (dp := 0) (Or.inl ⟨p2, rfl⟩)
      rw [p2] at e1 e2
      exact ⟨code, Vc', Vm', e1, by rw [← e2, if_neg (by omega)], e3⟩
    · rw [p2, if_neg p1, if_neg (show ¬ (1 : Int32) = 0 by decide), if_neg (show ¬ nI i = -9 by rw [n_ne9 hi]; exact id), show eX2_isThere 4 (nI i) Vc = _ from isThere_K (κ := 0) hW (by omega) hi, mBox_n hw hi]
      by_cases hth : i < nb ∧ Vm 1 (4 * i) = 1
      · rw [b2i_T (isTh_0.mpr hth), b2i_T hth]
        simp only [Option.bind_some, I10, if_false]
        rw [depth_mn hw hF.2.1 hd hth.1 hth.2, Option.bind_some]
        have h4 := (hd i hth.1 hth.2).2.1
        obtain ⟨code, Vc', Vm', e1, e2, e3⟩ := mb_fin h hM hd (dp := d i) (Or.inr ⟨i, hth.1, rfl, hth.2, rfl⟩)
        refine ⟨code, Vc', Vm', e1, ?_, e3⟩
        rw [← e2]
        simp (disch := omega) only [q0a, q0b, q0c, q0d, q0e, q0f, p0_l, p0_r, p0_s, q1a, q1b, q1c, q1d, q1e, q1f, p1_l, p1_r, p1_s, q2a, q2b, q2c, q2d, q2e, q2f, p2_l, p2_r, p2_s, q3a, q3b, q3c, q3d, q3e, q3f, p3_l, p3_r, p3_s, q4a, q4b, q4c, q4d, q4e, q4f, p4_l, p4_r, p4_s, p4_m, q5a, q5b, q5c, q5d, q5e, q5f, p5_l, p5_r, p5_s, p5_m, q6a, q6b, q6c, q6d, q6e, q6f, p6_l, p6_r, p6_s, q7a, q7b, q7c, q7d, q7e, q7f, p7_l, p7_r, p7_s, q8a, q8b, q8c, q8d, q8e, q8f, p8_l, p8_r, p8_s, q9a, q9b, q9c, q9d, q9e, q9f, p9_l, p9_r, p9_s, q10a, q10b, q10c, q10d, q10e, q10f, p10_l, p10_r, p10_s, p10_m, q11a, q11b, q11c, q11d, q11e, q11f, p11_l, p11_r, p11_s, q12a, q12b, q12c, q12d, q12e, q12f, p12_l, p12_r, p12_s, q15a, q15b, q15c, q15d, q15e, q15f, p15_l, p15_r, p15_s, q19a, q19b, q19c, q19d, q19e, q19f, p19_l, p19_r, p19_s, q20a, q20b, q20c, q20d, q20e, q20f, p20_l, p20_r, p20_s, q31a, q31b, q31c, q31d, q31e, q31f, p31_l, p31_r, p31_s, q40a, q40b, q40c, q40d, q40e, q40f, p40_l, p40_r, p40_s, q48a, q48b, q48c, q48d, q48e, q48f, p48_l, p48_r, p48_s, q50a, q50b, q50c, q50d, q50e, q50f, p50_l, p50_r, p50_s, p50_m, q52a, q52b, q52c, q52d, q52e, q52f, p52_l, p52_r, p52_s, q60a, q60b, q60c, q60d, q60e, q60f, p60_l, p60_r, p60_s, q63a, q63b, q63c, q63d, q63e, q63f, p63_l, p63_r, p63_s, q80a, q80b, q80c, q80d, q80e, q80f, p80_l, p80_r, p80_s, q99a, q99b, q99c, q99d, q99e, q99f, p99_l, p99_r, p99_s, q100a, q100b, q100c, q100d, q100e, q100f, p100_l, p100_r, p100_s, q120a, q120b, q120c, q120d, q120e, q120f, p120_l, p120_r, p120_s, q240a, q240b, q240c, q240d, q240e, q240f, p240_l, p240_r, p240_s, q243a, q243b, q243c, q243d, q243e, q243f, p243_l, p243_r, p243_s, q244a, q244b, q244c, q244d, q244e, q244f, p244_l, p244_r, p244_s, q580a, q580b, q580c, q580d, q580e, q580f, p580_l, p580_r, p580_s, q581a, q581b, q581c, q581d, q581e, q581f, p581_l, p581_r, p581_s, q582a, q582b, q582c, q582d, q582e, q582f, p582_l, p582_r, p582_s, q583a, q583b, q583c, q583d, q583e, q583f, p583_l, p583_r, p583_s, q584a, q584b, q584c, q584d, q584e, q584f, p584_l, p584_r, p584_s, q585a, q585b, q585c, q585d, q585e, q585f, p585_l, p585_r, p585_s, q586a, q586b, q586c, q586d, q586e, q586f, p586_l, p586_r, p586_s, q999a, q999b, q999c, q999d, q999e, q999f, p999_l, p999_r, p999_s, q1000a, q1000b, q1000c, q1000d, q1000e, q1000f, p1000_l, p1000_r, p1000_s, q2400a, q2400b, q2400c, q2400d, q2400e, q2400f, p2400_l, p2400_r, p2400_s, q9999a, q9999b, q9999c, q9999d, q9999e, q9999f, p9999_l, p9999_r, p9999_s, I00, I01, I10, I11, n_le, n_lt, n_eq, n_cl, n_add, n_ne9, n_ne1, if_true, if_false, Option.bind_some, if_pos, if_neg]
      · rw [b2i_F (fun z => hth (isTh_0.mp z)), b2i_F hth]
        exact ⟨-1, Vc, Vm, rfl, rfl, frC_rfl, frM_rfl, Or.inr ⟨by decide, hW, hcl⟩⟩
