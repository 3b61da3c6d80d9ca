
/-! the log, as the two worlds have it -/
def rgLog (V : Mm) (n f : Nat) (d K St Id Wh : Nat → Nat) : Prop := V 76 4 = nI n ∧ V 76 3 = nI f ∧ f < 60 ∧ (∀ i, i < n → V 78 ((f + i) % 60) = nI (K i) ∧ V 79 ((f + i) % 60) = nI (St i) ∧ V 80 ((f + i) % 60) = nI (Id i) ∧ V 81 ((f + i) % 60) = nI (Wh i)) ∧ ∀ k, k < 3 → V 82 k = nI (d k)
def mLog (W : Mm) (n : Nat) (d K St Id Wh : Nat → Nat) : Prop := W 0 13 = nI n ∧ (∀ i, i < n → W 11 i = nI (K i) ∧ W 12 i = nI (St i) ∧ W 13 i = nI (Id i) ∧ W 14 i = nI (Wh i)) ∧ ∀ k, k < 3 → W 15 k = nI (d k)
theorem mod60F : ∀ a : Fin 120, nI a.val - nI a.val / 60 * 60 = nI (a.val % 60) := by decide
theorem mod60 {a : Nat} (h : a < 120) : nI a - nI a / 60 * 60 = nI (a % 60) := mod60F ⟨a, h⟩
theorem add_c {V : Mm} {n f κ S i x : Nat} {d K St Id Wh : Nat → Nat} (h : rgLog V n f d K St Id Wh) (hn : n < 60) :
    ∃ V', eX3_add_b13 (nI κ) (nI S) (nI i) (nI x) V = some V' ∧ rgLog V' (n + 1) f d (psh n 0 κ K) (psh n 0 S St) (psh n 0 i Id) (psh n 0 x Wh) ∧ (∀ k, k < 76 ∨ 82 < k → V' k = V k) := by
  obtain ⟨h1, h2, h3, h4, h5⟩ := h
  have hp : (f + n) % 60 < 60 := Nat.mod_lt _ (by omega)
  refine ⟨wr (wr (wr (wr (wr V 78 ((f + n) % 60) (nI κ)) 79 ((f + n) % 60) (nI S)) 80 ((f + n) % 60) (nI i)) 81 ((f + n) % 60) (nI x)) 76 4 (nI (n + 1)), ?_, ⟨by rw [wr_at], by rw [wr_in (by omega)]; simp (disch := omega) only [wr_ne]; exact h2, h3, fun j hj => ?_, fun k hk => ?_⟩, fun k hk => ?_⟩
  · unfold eX3_add_b13
    rw [h1, h2, n_add, mod60 (by omega)]
    simp (disch := omega) only [q0a, q0b, q0c, q0d, q0e, q0f, p0_l, p0_r, p0_s, q1a, q1b, q1c, q1d, q1e, q1f, p1_l, p1_r, p1_s, q2a, q2b, q2c, q2d, q2e, q2f, p2_l, p2_r, p2_s, q3a, q3b, q3c, q3d, q3e, q3f, p3_l, p3_r, p3_s, q4a, q4b, q4c, q4d, q4e, q4f, p4_l, p4_r, p4_s, p4_m, q5a, q5b, q5c, q5d, q5e, q5f, p5_l, p5_r, p5_s, p5_m, q6a, q6b, q6c, q6d, q6e, q6f, p6_l, p6_r, p6_s, q7a, q7b, q7c, q7d, q7e, q7f, p7_l, p7_r, p7_s, q8a, q8b, q8c, q8d, q8e, q8f, p8_l, p8_r, p8_s, q9a, q9b, q9c, q9d, q9e, q9f, p9_l, p9_r, p9_s, q10a, q10b, q10c, q10d, q10e, q10f, p10_l, p10_r, p10_s, p10_m, q11a, q11b, q11c, q11d, q11e, q11f, p11_l, p11_r, p11_s, q12a, q12b, q12c, q12d, q12e, q12f, p12_l, p12_r, p12_s, q15a, q15b, q15c, q15d, q15e, q15f, p15_l, p15_r, p15_s, q19a, q19b, q19c, q19d, q19e, q19f, p19_l, p19_r, p19_s, q20a, q20b, q20c, q20d, q20e, q20f, p20_l, p20_r, p20_s, q31a, q31b, q31c, q31d, q31e, q31f, p31_l, p31_r, p31_s, q40a, q40b, q40c, q40d, q40e, q40f, p40_l, p40_r, p40_s, q48a, q48b, q48c, q48d, q48e, q48f, p48_l, p48_r, p48_s, q50a, q50b, q50c, q50d, q50e, q50f, p50_l, p50_r, p50_s, p50_m, q52a, q52b, q52c, q52d, q52e, q52f, p52_l, p52_r, p52_s, q60a, q60b, q60c, q60d, q60e, q60f, p60_l, p60_r, p60_s, q63a, q63b, q63c, q63d, q63e, q63f, p63_l, p63_r, p63_s, q80a, q80b, q80c, q80d, q80e, q80f, p80_l, p80_r, p80_s, q99a, q99b, q99c, q99d, q99e, q99f, p99_l, p99_r, p99_s, q100a, q100b, q100c, q100d, q100e, q100f, p100_l, p100_r, p100_s, q120a, q120b, q120c, q120d, q120e, q120f, p120_l, p120_r, p120_s, q240a, q240b, q240c, q240d, q240e, q240f, p240_l, p240_r, p240_s, q243a, q243b, q243c, q243d, q243e, q243f, p243_l, p243_r, p243_s, q244a, q244b, q244c, q244d, q244e, q244f, p244_l, p244_r, p244_s, q580a, q580b, q580c, q580d, q580e, q580f, p580_l, p580_r, p580_s, q581a, q581b, q581c, q581d, q581e, q581f, p581_l, p581_r, p581_s, q582a, q582b, q582c, q582d, q582e, q582f, p582_l, p582_r, p582_s, q583a, q583b, q583c, q583d, q583e, q583f, p583_l, p583_r, p583_s, q584a, q584b, q584c, q584d, q584e, q584f, p584_l, p584_r, p584_s, q585a, q585b, q585c, q585d, q585e, q585f, p585_l, p585_r, p585_s, q586a, q586b, q586c, q586d, q586e, q586f, p586_l, p586_r, p586_s, q999a, q999b, q999c, q999d, q999e, q999f, p999_l, p999_r, p999_s, q1000a, q1000b, q1000c, q1000d, q1000e, q1000f, p1000_l, p1000_r, p1000_s, q2400a, q2400b, q2400c, q2400d, q2400e, q2400f, p2400_l, p2400_r, p2400_s, q9999a, q9999b, q9999c, q9999d, q9999e, q9999f, p9999_l, p9999_r, p9999_s, I00, I01, I10, I11, n_le, n_lt, n_eq, n_cl, n_add, n_ne9, n_ne1, if_true, if_false, Option.bind_some, if_pos, if_neg]
  · by_cases e : j < n
    · have hne : (f + j) % 60 ≠ (f + n) % 60 := by omega
      rw [psh_lt e, psh_lt e, psh_lt e, psh_lt e]
      simp (disch := omega) only [wr_ne, wr_in]
      exact h4 j e
    · have : j = n := by omega
      subst this
      rw [psh_m, psh_m, psh_m, psh_m]
      simp (disch := omega) only [wr_ne, wr_at, and_self]
  · simp (disch := omega) only [wr_ne]
    exact h5 k hk
  · simp (disch := omega) only [wr_ne]
theorem drive_c {V : Mm} {f : Nat} {d K St Id Wh : Nat → Nat} (h : rgLog V 60 f d K St Id Wh) (hK : K 0 < 3) :
    ∃ V', eX3_driveOut V = some V' ∧ rgLog V' 59 ((f + 1) % 60) (drv 60 d K St) (fun j => K (j + 1)) (fun j => St (j + 1)) (fun j => Id (j + 1)) (fun j => Wh (j + 1)) ∧ (∀ k, k < 76 ∨ 82 < k → V' k = V k) := by
  obtain ⟨h1, h2, h3, h4, h5⟩ := h
  obtain ⟨p1, p2, p3, p4⟩ := h4 0 (by omega)
  have a0 : eX3_at 0 0 V = some (nI (K 0)) := by rw [show eX3_at 0 0 V = _ from logat_n (i := 0) (q := 0) h2 h3 (by omega) (by omega)]; exact congrArg some p1
  have a1 : eX3_at 0 1 V = some (nI (St 0)) := by rw [show eX3_at 0 1 V = _ from logat_n (i := 0) (q := 1) h2 h3 (by omega) (by omega)]; exact congrArg some p2
  have hk : eX5_isKind (nI (K 0)) V = some 1 := by
    have : K 0 = 0 ∨ K 0 = 1 ∨ K 0 = 2 := by omega
    rcases this with e | e | e <;> rw [e] <;> rfl
  refine ⟨wr (wr (wr V 82 (K 0) (nI (St 0))) 76 3 (nI ((f + 1) % 60))) 76 4 (nI 59), ?_, ⟨by rw [wr_at], by rw [wr_in (by omega), wr_at], Nat.mod_lt _ (by omega), fun j hj => ?_, fun k hk2 => ?_⟩, fun k hk2 => ?_⟩
  · unfold eX3_driveOut
    rw [a0, Option.bind_some, hk, Option.bind_some, if_neg (by decide), a1, Option.bind_some, h1, h2]
    rw [show nI f + 1 = nI (f + 1) from n_add f 1, mod60 (by omega)]
    simp (disch := omega) only [q0a, q0b, q0c, q0d, q0e, q0f, p0_l, p0_r, p0_s, q1a, q1b, q1c, q1d, q1e, q1f, p1_l, p1_r, p1_s, q2a, q2b, q2c, q2d, q2e, q2f, p2_l, p2_r, p2_s, q3a, q3b, q3c, q3d, q3e, q3f, p3_l, p3_r, p3_s, q4a, q4b, q4c, q4d, q4e, q4f, p4_l, p4_r, p4_s, p4_m, q5a, q5b, q5c, q5d, q5e, q5f, p5_l, p5_r, p5_s, p5_m, q6a, q6b, q6c, q6d, q6e, q6f, p6_l, p6_r, p6_s, q7a, q7b, q7c, q7d, q7e, q7f, p7_l, p7_r, p7_s, q8a, q8b, q8c, q8d, q8e, q8f, p8_l, p8_r, p8_s, q9a, q9b, q9c, q9d, q9e, q9f, p9_l, p9_r, p9_s, q10a, q10b, q10c, q10d, q10e, q10f, p10_l, p10_r, p10_s, p10_m, q11a, q11b, q11c, q11d, q11e, q11f, p11_l, p11_r, p11_s, q12a, q12b, q12c, q12d, q12e, q12f, p12_l, p12_r, p12_s, q15a, q15b, q15c, q15d, q15e, q15f, p15_l, p15_r, p15_s, q19a, q19b, q19c, q19d, q19e, q19f, p19_l, p19_r, p19_s, q20a, q20b, q20c, q20d, q20e, q20f, p20_l, p20_r, p20_s, q31a, q31b, q31c, q31d, q31e, q31f, p31_l, p31_r, p31_s, q40a, q40b, q40c, q40d, q40e, q40f, p40_l, p40_r, p40_s, q48a, q48b, q48c, q48d, q48e, q48f, p48_l, p48_r, p48_s, q50a, q50b, q50c, q50d, q50e, q50f, p50_l, p50_r, p50_s, p50_m, q52a, q52b, q52c, q52d, q52e, q52f, p52_l, p52_r, p52_s, q60a, q60b, q60c, q60d, q60e, q60f, p60_l, p60_r, p60_s, q63a, q63b, q63c, q63d, q63e, q63f, p63_l, p63_r, p63_s, q80a, q80b, q80c, q80d, q80e, q80f, p80_l, p80_r, p80_s, q99a, q99b, q99c, q99d, q99e, q99f, p99_l, p99_r, p99_s, q100a, q100b, q100c, q100d, q100e, q100f, p100_l, p100_r, p100_s, q120a, q120b, q120c, q120d, q120e, q120f, p120_l, p120_r, p120_s, q240a, q240b, q240c, q240d, q240e, q240f, p240_l, p240_r, p240_s, q243a, q243b, q243c, q243d, q243e, q243f, p243_l, p243_r, p243_s, q244a, q244b, q244c, q244d, q244e, q244f, p244_l, p244_r, p244_s, q580a, q580b, q580c, q580d, q580e, q580f, p580_l, p580_r, p580_s, q581a, q581b, q581c, q581d, q581e, q581f, p581_l, p581_r, p581_s, q582a, q582b, q582c, q582d, q582e, q582f, p582_l, p582_r, p582_s, q583a, q583b, q583c, q583d, q583e, q583f, p583_l, p583_r, p583_s, q584a, q584b, q584c, q584d, q584e, q584f, p584_l, p584_r, p584_s, q585a, q585b, q585c, q585d, q585e, q585f, p585_l, p585_r, p585_s, q586a, q586b, q586c, q586d, q586e, q586f, p586_l, p586_r, p586_s, q999a, q999b, q999c, q999d, q999e, q999f, p999_l, p999_r, p999_s, q1000a, q1000b, q1000c, q1000d, q1000e, q1000f, p1000_l, p1000_r, p1000_s, q2400a, q2400b, q2400c, q2400d, q2400e, q2400f, p2400_l, p2400_r, p2400_s, q9999a, q9999b, q9999c, q9999d, q9999e, q9999f, p9999_l, p9999_r, p9999_s, I00, I01, I10, I11, n_le, n_lt, n_eq, n_cl, n_add, n_ne9, n_ne1, if_true, if_false, Option.bind_some, if_pos, if_neg]
  · rw [show ((f + 1) % 60 + j) % 60 = (f + (j + 1)) % 60 by omega]
    simp (disch := omega) only [wr_ne]
    exact h4 (j + 1) (by omega)
  · rw [wr_ne (by omega), wr_ne (by omega)]
    unfold drv
    by_cases e : k = K 0
    · subst e; rw [wr_at, if_pos ⟨rfl, rfl⟩]
    · rw [wr_in e, if_neg (fun z => e z.2)]; exact h5 k hk2
  · rw [wr_ne (by omega), wr_ne (by omega), wr_ne (by omega)]
theorem rgLog_add {V : Mm} {n f κ S i x : Nat} {d K St Id Wh : Nat → Nat} (h : rgLog V n f d K St Id Wh) (hn : n ≤ 60) (hK : n = 60 → K 0 < 3) :
    ∃ V' f', eX3_add (nI κ) (nI S) (nI i) (nI x) V = some V' ∧ rgLog V' (n - dro n + 1) f' (drv n d K St) (psh (n - dro n) (dro n) κ K) (psh (n - dro n) (dro n) S St) (psh (n - dro n) (dro n) i Id) (psh (n - dro n) (dro n) x Wh) ∧ (∀ k, k < 76 ∨ 82 < k → V' k = V k) := by
  unfold eX3_add
  rw [h.1]
  by_cases e : n = 60
  · subst e
    obtain ⟨V1, a1, a2, a3⟩ := drive_c h (hK rfl)
    obtain ⟨V2, b1, b2, b3⟩ := add_c (κ := κ) (S := S) (i := i) (x := x) a2 (by omega)
    refine ⟨V2, _, ?_, b2, fun k hk => by rw [b3 k hk, a3 k hk]⟩
    rw [if_pos (show nI 60 = 60 from rfl), a1, Option.bind_some, b1]
  · obtain ⟨V2, b1, b2, b3⟩ := add_c (κ := κ) (S := S) (i := i) (x := x) h (show n < 60 by omega)
    have hd : dro n = 0 := if_neg e
    have hdv : drv n d K St = d := by
      funext k
      exact if_neg (fun z => e z.1)
    refine ⟨V2, f, ?_, by rw [hd, hdv]; exact b2, b3⟩
    rw [if_neg (show ¬ nI n = 60 from fun z => e ((nI_eq (a := n) (b := 60) (by omega) (by omega)).mp z))]
    exact b1
theorem note_148 {W : Mm} {n κ S i x : Nat} {d K St Id Wh : Nat → Nat} (h : mLog W n d K St Id Wh) (hn : n < 60) :
    ∃ W', eX6_note_b148 (nI κ) (nI S) (nI i) (nI x) W = some W' ∧ mLog W' (n + 1) d (psh n 0 κ K) (psh n 0 S St) (psh n 0 i Id) (psh n 0 x Wh) ∧ (∀ k, k ≠ 0 → k ≠ 11 → k ≠ 12 → k ≠ 13 → k ≠ 14 → W' k = W k) ∧ (∀ j, j ≠ 13 → W' 0 j = W 0 j) := by
  obtain ⟨h1, h4, h5⟩ := h
  refine ⟨wr (wr (wr (wr (wr W 11 n (nI κ)) 12 n (nI S)) 13 n (nI i)) 14 n (nI x)) 0 13 (nI (n + 1)), ?_, ⟨by rw [wr_at], fun j hj => ?_, fun k hk => ?_⟩, fun k a b c e f => ?_, fun j hj => ?_⟩
  · unfold eX6_note_b148
    rw [h1]
    simp (disch := omega) only [q0a, q0b, q0c, q0d, q0e, q0f, p0_l, p0_r, p0_s, q1a, q1b, q1c, q1d, q1e, q1f, p1_l, p1_r, p1_s, q2a, q2b, q2c, q2d, q2e, q2f, p2_l, p2_r, p2_s, q3a, q3b, q3c, q3d, q3e, q3f, p3_l, p3_r, p3_s, q4a, q4b, q4c, q4d, q4e, q4f, p4_l, p4_r, p4_s, p4_m, q5a, q5b, q5c, q5d, q5e, q5f, p5_l, p5_r, p5_s, p5_m, q6a, q6b, q6c, q6d, q6e, q6f, p6_l, p6_r, p6_s, q7a, q7b, q7c, q7d, q7e, q7f, p7_l, p7_r, p7_s, q8a, q8b, q8c, q8d, q8e, q8f, p8_l, p8_r, p8_s, q9a, q9b, q9c, q9d, q9e, q9f, p9_l, p9_r, p9_s, q10a, q10b, q10c, q10d, q10e, q10f, p10_l, p10_r, p10_s, p10_m, q11a, q11b, q11c, q11d, q11e, q11f, p11_l, p11_r, p11_s, q12a, q12b, q12c, q12d, q12e, q12f, p12_l, p12_r, p12_s, q15a, q15b, q15c, q15d, q15e, q15f, p15_l, p15_r, p15_s, q19a, q19b, q19c, q19d, q19e, q19f, p19_l, p19_r, p19_s, q20a, q20b, q20c, q20d, q20e, q20f, p20_l, p20_r, p20_s, q31a, q31b, q31c, q31d, q31e, q31f, p31_l, p31_r, p31_s, q40a, q40b, q40c, q40d, q40e, q40f, p40_l, p40_r, p40_s, q48a, q48b, q48c, q48d, q48e, q48f, p48_l, p48_r, p48_s, q50a, q50b, q50c, q50d, q50e, q50f, p50_l, p50_r, p50_s, p50_m, q52a, q52b, q52c, q52d, q52e, q52f, p52_l, p52_r, p52_s, q60a, q60b, q60c, q60d, q60e, q60f, p60_l, p60_r, p60_s, q63a, q63b, q63c, q63d, q63e, q63f, p63_l, p63_r, p63_s, q80a, q80b, q80c, q80d, q80e, q80f, p80_l, p80_r, p80_s, q99a, q99b, q99c, q99d, q99e, q99f, p99_l, p99_r, p99_s, q100a, q100b, q100c, q100d, q100e, q100f, p100_l, p100_r, p100_s, q120a, q120b, q120c, q120d, q120e, q120f, p120_l, p120_r, p120_s, q240a, q240b, q240c, q240d, q240e, q240f, p240_l, p240_r, p240_s, q243a, q243b, q243c, q243d, q243e, q243f, p243_l, p243_r, p243_s, q244a, q244b, q244c, q244d, q244e, q244f, p244_l, p244_r, p244_s, q580a, q580b, q580c, q580d, q580e, q580f, p580_l, p580_r, p580_s, q581a, q581b, q581c, q581d, q581e, q581f, p581_l, p581_r, p581_s, q582a, q582b, q582c, q582d, q582e, q582f, p582_l, p582_r, p582_s, q583a, q583b, q583c, q583d, q583e, q583f, p583_l, p583_r, p583_s, q584a, q584b, q584c, q584d, q584e, q584f, p584_l, p584_r, p584_s, q585a, q585b, q585c, q585d, q585e, q585f, p585_l, p585_r, p585_s, q586a, q586b, q586c, q586d, q586e, q586f, p586_l, p586_r, p586_s, q999a, q999b, q999c, q999d, q999e, q999f, p999_l, p999_r, p999_s, q1000a, q1000b, q1000c, q1000d, q1000e, q1000f, p1000_l, p1000_r, p1000_s, q2400a, q2400b, q2400c, q2400d, q2400e, q2400f, p2400_l, p2400_r, p2400_s, q9999a, q9999b, q9999c, q9999d, q9999e, q9999f, p9999_l, p9999_r, p9999_s, I00, I01, I10, I11, n_le, n_lt, n_eq, n_cl, n_add, n_ne9, n_ne1, if_true, if_false, Option.bind_some, if_pos, if_neg]
  · by_cases e : j < n
    · rw [psh_lt e, psh_lt e, psh_lt e, psh_lt e]
      simp (disch := omega) only [wr_ne, wr_in]
      exact h4 j e
    · have : j = n := by omega
      subst this
      rw [psh_m, psh_m, psh_m, psh_m]
      simp (disch := omega) only [wr_ne, wr_at, and_self]
  · simp (disch := omega) only [wr_ne]
    exact h5 k hk
  · simp (disch := omega) only [wr_ne]
  · rw [wr_in hj]
    simp (disch := omega) only [wr_ne]
theorem note_59 {W0 : Mm} {κ S i x : Int32} : ∀ d f j (W : Mm), j + d = 59 → d < f → (∀ c a, 11 ≤ c → c ≤ 14 → a < j → W c a = W0 c (a + 1)) → (∀ c a, 11 ≤ c → c ≤ 14 → j ≤ a → W c a = W0 c a) → (∀ k, (k < 11 ∨ 14 < k) → W k = W0 k) →
    ∃ W' : Mm, eX6_note_b59 f κ S i x (nI j) W = eX6_note_b148 κ S i x (wr W' 0 13 (W' 0 13 - 1)) ∧ (∀ c a, 11 ≤ c → c ≤ 14 → a < 59 → W' c a = W0 c (a + 1)) ∧ (∀ k, (k < 11 ∨ 14 < k) → W' k = W0 k) := by
  intro d
  induction d with
  | zero =>
    intro f j W hj hf h1 h2 h3
    obtain ⟨f, rfl⟩ : ∃ f', f = f' + 1 := ⟨f - 1, by omega⟩
    have : j = 59 := by omega
    subst this
    refine ⟨W, ?_, h1, h3⟩
    rw [eX6_note_b59]
    simp (disch := omega) only [q0a, q0b, q0c, q0d, q0e, q0f, p0_l, p0_r, p0_s, q1a, q1b, q1c, q1d, q1e, q1f, p1_l, p1_r, p1_s, q2a, q2b, q2c, q2d, q2e, q2f, p2_l, p2_r, p2_s, q3a, q3b, q3c, q3d, q3e, q3f, p3_l, p3_r, p3_s, q4a, q4b, q4c, q4d, q4e, q4f, p4_l, p4_r, p4_s, p4_m, q5a, q5b, q5c, q5d, q5e, q5f, p5_l, p5_r, p5_s, p5_m, q6a, q6b, q6c, q6d, q6e, q6f, p6_l, p6_r, p6_s, q7a, q7b, q7c, q7d, q7e, q7f, p7_l, p7_r, p7_s, q8a, q8b, q8c, q8d, q8e, q8f, p8_l, p8_r, p8_s, q9a, q9b, q9c, q9d, q9e, q9f, p9_l, p9_r, p9_s, q10a, q10b, q10c, q10d, q10e, q10f, p10_l, p10_r, p10_s, p10_m, q11a, q11b, q11c, q11d, q11e, q11f, p11_l, p11_r, p11_s, q12a, q12b, q12c, q12d, q12e, q12f, p12_l, p12_r, p12_s, q15a, q15b, q15c, q15d, q15e, q15f, p15_l, p15_r, p15_s, q19a, q19b, q19c, q19d, q19e, q19f, p19_l, p19_r, p19_s, q20a, q20b, q20c, q20d, q20e, q20f, p20_l, p20_r, p20_s, q31a, q31b, q31c, q31d, q31e, q31f, p31_l, p31_r, p31_s, q40a, q40b, q40c, q40d, q40e, q40f, p40_l, p40_r, p40_s, q48a, q48b, q48c, q48d, q48e, q48f, p48_l, p48_r, p48_s, q50a, q50b, q50c, q50d, q50e, q50f, p50_l, p50_r, p50_s, p50_m, q52a, q52b, q52c, q52d, q52e, q52f, p52_l, p52_r, p52_s, q60a, q60b, q60c, q60d, q60e, q60f, p60_l, p60_r, p60_s, q63a, q63b, q63c, q63d, q63e, q63f, p63_l, p63_r, p63_s, q80a, q80b, q80c, q80d, q80e, q80f, p80_l, p80_r, p80_s, q99a, q99b, q99c, q99d, q99e, q99f, p99_l, p99_r, p99_s, q100a, q100b, q100c, q100d, q100e, q100f, p100_l, p100_r, p100_s, q120a, q120b, q120c, q120d, q120e, q120f, p120_l, p120_r, p120_s, q240a, q240b, q240c, q240d, q240e, q240f, p240_l, p240_r, p240_s, q243a, q243b, q243c, q243d, q243e, q243f, p243_l, p243_r, p243_s, q244a, q244b, q244c, q244d, q244e, q244f, p244_l, p244_r, p244_s, q580a, q580b, q580c, q580d, q580e, q580f, p580_l, p580_r, p580_s, q581a, q581b, q581c, q581d, q581e, q581f, p581_l, p581_r, p581_s, q582a, q582b, q582c, q582d, q582e, q582f, p582_l, p582_r, p582_s, q583a, q583b, q583c, q583d, q583e, q583f, p583_l, p583_r, p583_s, q584a, q584b, q584c, q584d, q584e, q584f, p584_l, p584_r, p584_s, q585a, q585b, q585c, q585d, q585e, q585f, p585_l, p585_r, p585_s, q586a, q586b, q586c, q586d, q586e, q586f, p586_l, p586_r, p586_s, q999a, q999b, q999c, q999d, q999e, q999f, p999_l, p999_r, p999_s, q1000a, q1000b, q1000c, q1000d, q1000e, q1000f, p1000_l, p1000_r, p1000_s, q2400a, q2400b, q2400c, q2400d, q2400e, q2400f, p2400_l, p2400_r, p2400_s, q9999a, q9999b, q9999c, q9999d, q9999e, q9999f, p9999_l, p9999_r, p9999_s, I00, I01, I10, I11, n_le, n_lt, n_eq, n_cl, n_add, n_ne9, n_ne1, if_true, if_false, Option.bind_some, if_pos, if_neg]
  | succ d ih =>
    intro f j W hj hf h1 h2 h3
    obtain ⟨f, rfl⟩ : ∃ f', f = f' + 1 := ⟨f - 1, by omega⟩
    obtain ⟨W', e1, e2⟩ := ih f (j + 1) (wr (wr (wr (wr W 11 j (W 11 (j + 1))) 12 j (W 12 (j + 1))) 13 j (W 13 (j + 1))) 14 j (W 14 (j + 1))) (by omega) (by omega)
      (fun c a hc hc2 ha => by
        have hcs : c = 11 ∨ c = 12 ∨ c = 13 ∨ c = 14 := by omega
        by_cases e : a = j
        · subst e
          rcases hcs with rfl | rfl | rfl | rfl <;> simp (disch := omega) only [wr_ne, wr_at] <;> exact h2 _ _ (by omega) (by omega) (by omega)
        · rcases hcs with rfl | rfl | rfl | rfl <;> simp (disch := omega) only [wr_ne, wr_in] <;> exact h1 _ _ (by omega) (by omega) (by omega))
      (fun c a hc hc2 ha => by
        have hcs : c = 11 ∨ c = 12 ∨ c = 13 ∨ c = 14 := by omega
        rcases hcs with rfl | rfl | rfl | rfl <;> simp (disch := omega) only [wr_ne, wr_in] <;> exact h2 _ _ (by omega) (by omega) (by omega))
      (fun k hk => by rw [wr_ne (by omega), wr_ne (by omega), wr_ne (by omega), wr_ne (by omega)]; exact h3 k hk)
    refine ⟨W', ?_, e2⟩
    rw [← e1, eX6_note_b59]
    simp (disch := omega) only [q0a, q0b, q0c, q0d, q0e, q0f, p0_l, p0_r, p0_s, q1a, q1b, q1c, q1d, q1e, q1f, p1_l, p1_r, p1_s, q2a, q2b, q2c, q2d, q2e, q2f, p2_l, p2_r, p2_s, q3a, q3b, q3c, q3d, q3e, q3f, p3_l, p3_r, p3_s, q4a, q4b, q4c, q4d, q4e, q4f, p4_l, p4_r, p4_s, p4_m, q5a, q5b, q5c, q5d, q5e, q5f, p5_l, p5_r, p5_s, p5_m, q6a, q6b, q6c, q6d, q6e, q6f, p6_l, p6_r, p6_s, q7a, q7b, q7c, q7d, q7e, q7f, p7_l, p7_r, p7_s, q8a, q8b, q8c, q8d, q8e, q8f, p8_l, p8_r, p8_s, q9a, q9b, q9c, q9d, q9e, q9f, p9_l, p9_r, p9_s, q10a, q10b, q10c, q10d, q10e, q10f, p10_l, p10_r, p10_s, p10_m, q11a, q11b, q11c, q11d, q11e, q11f, p11_l, p11_r, p11_s, q12a, q12b, q12c, q12d, q12e, q12f, p12_l, p12_r, p12_s, q15a, q15b, q15c, q15d, q15e, q15f, p15_l, p15_r, p15_s, q19a, q19b, q19c, q19d, q19e, q19f, p19_l, p19_r, p19_s, q20a, q20b, q20c, q20d, q20e, q20f, p20_l, p20_r, p20_s, q31a, q31b, q31c, q31d, q31e, q31f, p31_l, p31_r, p31_s, q40a, q40b, q40c, q40d, q40e, q40f, p40_l, p40_r, p40_s, q48a, q48b, q48c, q48d, q48e, q48f, p48_l, p48_r, p48_s, q50a, q50b, q50c, q50d, q50e, q50f, p50_l, p50_r, p50_s, p50_m, q52a, q52b, q52c, q52d, q52e, q52f, p52_l, p52_r, p52_s, q60a, q60b, q60c, q60d, q60e, q60f, p60_l, p60_r, p60_s, q63a, q63b, q63c, q63d, q63e, q63f, p63_l, p63_r, p63_s, q80a, q80b, q80c, q80d, q80e, q80f, p80_l, p80_r, p80_s, q99a, q99b, q99c, q99d, q99e, q99f, p99_l, p99_r, p99_s, q100a, q100b, q100c, q100d, q100e, q100f, p100_l, p100_r, p100_s, q120a, q120b, q120c, q120d, q120e, q120f, p120_l, p120_r, p120_s, q240a, q240b, q240c, q240d, q240e, q240f, p240_l, p240_r, p240_s, q243a, q243b, q243c, q243d, q243e, q243f, p243_l, p243_r, p243_s, q244a, q244b, q244c, q244d, q244e, q244f, p244_l, p244_r, p244_s, q580a, q580b, q580c, q580d, q580e, q580f, p580_l, p580_r, p580_s, q581a, q581b, q581c, q581d, q581e, q581f, p581_l, p581_r, p581_s, q582a, q582b, q582c, q582d, q582e, q582f, p582_l, p582_r, p582_s, q583a, q583b, q583c, q583d, q583e, q583f, p583_l, p583_r, p583_s, q584a, q584b, q584c, q584d, q584e, q584f, p584_l, p584_r, p584_s, q585a, q585b, q585c, q585d, q585e, q585f, p585_l, p585_r, p585_s, q586a, q586b, q586c, q586d, q586e, q586f, p586_l, p586_r, p586_s, q999a, q999b, q999c, q999d, q999e, q999f, p999_l, p999_r, p999_s, q1000a, q1000b, q1000c, q1000d, q1000e, q1000f, p1000_l, p1000_r, p1000_s, q2400a, q2400b, q2400c, q2400d, q2400e, q2400f, p2400_l, p2400_r, p2400_s, q9999a, q9999b, q9999c, q9999d, q9999e, q9999f, p9999_l, p9999_r, p9999_s, I00, I01, I10, I11, n_le, n_lt, n_eq, n_cl, n_add, n_ne9, n_ne1, if_true, if_false, Option.bind_some, if_pos, if_neg, wr_ne]
theorem mLog_note {W : Mm} {n κ S i x : Nat} {d K St Id Wh : Nat → Nat} (h : mLog W n d K St Id Wh) (hn : n ≤ 60) (hK : n = 60 → K 0 < 3 ∧ d (K 0) ≤ St 0 ∧ St 0 < 2147483648) :
    ∃ W', eX6_note (nI κ) (nI S) (nI i) (nI x) W = some W' ∧ mLog W' (n - dro n + 1) (drv n d K St) (psh (n - dro n) (dro n) κ K) (psh (n - dro n) (dro n) S St) (psh (n - dro n) (dro n) i Id) (psh (n - dro n) (dro n) x Wh) ∧ (∀ k, k ≠ 0 → (k < 11 ∨ 15 < k) → W' k = W k) ∧ (∀ j, j ≠ 13 → W' 0 j = W 0 j) := by
  unfold eX6_note
  rw [h.1]
  by_cases e : n = 60
  · subst e
    obtain ⟨k1, k2, k3⟩ := hK rfl
    obtain ⟨h1, h4, h5⟩ := h
    obtain ⟨p1, p2, p3, p4⟩ := h4 0 (by omega)
    have hd := h5 (K 0) k1
    have hw : ∃ W1 : Mm, (∀ k, k ≠ 15 → W1 k = W k) ∧ (∀ k, k < 3 → W1 15 k = nI (drv 60 d K St k)) ∧ (if (W 12 0) ≤ (W 15 ((W 11 0).toNatClampNeg)) then (if W 11 0 < 0 ∨ 3 ≤ (W 11 0).toNatClampNeg then none else if W 11 0 < 0 ∨ 3 ≤ (W 11 0).toNatClampNeg then none else eX6_note_b59 fu (nI κ) (nI S) (nI i) (nI x) 0 (wr W 15 ((W 11 0).toNatClampNeg) (W 15 ((W 11 0).toNatClampNeg)))) else (if W 11 0 < 0 ∨ 3 ≤ (W 11 0).toNatClampNeg then none else eX6_note_b59 fu (nI κ) (nI S) (nI i) (nI x) 0 (wr W 15 ((W 11 0).toNatClampNeg) (W 12 0)))) = eX6_note_b59 fu (nI κ) (nI S) (nI i) (nI x) 0 W1 := by
      refine ⟨wr W 15 (K 0) (nI (St 0)), fun k hk => wr_ne hk, fun k hk => ?_, ?_⟩
      · unfold drv
        by_cases e : k = K 0
        · subst e; rw [wr_at, if_pos ⟨rfl, rfl⟩]
        · rw [wr_in e, if_neg (fun z => e z.2)]; exact h5 k hk
      · rw [p1, p2]
        simp (disch := omega) only [q0a, q0b, q0c, q0d, q0e, q0f, p0_l, p0_r, p0_s, q1a, q1b, q1c, q1d, q1e, q1f, p1_l, p1_r, p1_s, q2a, q2b, q2c, q2d, q2e, q2f, p2_l, p2_r, p2_s, q3a, q3b, q3c, q3d, q3e, q3f, p3_l, p3_r, p3_s, q4a, q4b, q4c, q4d, q4e, q4f, p4_l, p4_r, p4_s, p4_m, q5a, q5b, q5c, q5d, q5e, q5f, p5_l, p5_r, p5_s, p5_m, q6a, q6b, q6c, q6d, q6e, q6f, p6_l, p6_r, p6_s, q7a, q7b, q7c, q7d, q7e, q7f, p7_l, p7_r, p7_s, q8a, q8b, q8c, q8d, q8e, q8f, p8_l, p8_r, p8_s, q9a, q9b, q9c, q9d, q9e, q9f, p9_l, p9_r, p9_s, q10a, q10b, q10c, q10d, q10e, q10f, p10_l, p10_r, p10_s, p10_m, q11a, q11b, q11c, q11d, q11e, q11f, p11_l, p11_r, p11_s, q12a, q12b, q12c, q12d, q12e, q12f, p12_l, p12_r, p12_s, q15a, q15b, q15c, q15d, q15e, q15f, p15_l, p15_r, p15_s, q19a, q19b, q19c, q19d, q19e, q19f, p19_l, p19_r, p19_s, q20a, q20b, q20c, q20d, q20e, q20f, p20_l, p20_r, p20_s, q31a, q31b, q31c, q31d, q31e, q31f, p31_l, p31_r, p31_s, q40a, q40b, q40c, q40d, q40e, q40f, p40_l, p40_r, p40_s, q48a, q48b, q48c, q48d, q48e, q48f, p48_l, p48_r, p48_s, q50a, q50b, q50c, q50d, q50e, q50f, p50_l, p50_r, p50_s, p50_m, q52a, q52b, q52c, q52d, q52e, q52f, p52_l, p52_r, p52_s, q60a, q60b, q60c, q60d, q60e, q60f, p60_l, p60_r, p60_s, q63a, q63b, q63c, q63d, q63e, q63f, p63_l, p63_r, p63_s, q80a, q80b, q80c, q80d, q80e, q80f, p80_l, p80_r, p80_s, q99a, q99b, q99c, q99d, q99e, q99f, p99_l, p99_r, p99_s, q100a, q100b, q100c, q100d, q100e, q100f, p100_l, p100_r, p100_s, q120a, q120b, q120c, q120d, q120e, q120f, p120_l, p120_r, p120_s, q240a, q240b, q240c, q240d, q240e, q240f, p240_l, p240_r, p240_s, q243a, q243b, q243c, q243d, q243e, q243f, p243_l, p243_r, p243_s, q244a, q244b, q244c, q244d, q244e, q244f, p244_l, p244_r, p244_s, q580a, q580b, q580c, q580d, q580e, q580f, p580_l, p580_r, p580_s, q581a, q581b, q581c, q581d, q581e, q581f, p581_l, p581_r, p581_s, q582a, q582b, q582c, q582d, q582e, q582f, p582_l, p582_r, p582_s, q583a, q583b, q583c, q583d, q583e, q583f, p583_l, p583_r, p583_s, q584a, q584b, q584c, q584d, q584e, q584f, p584_l, p584_r, p584_s, q585a, q585b, q585c, q585d, q585e, q585f, p585_l, p585_r, p585_s, q586a, q586b, q586c, q586d, q586e, q586f, p586_l, p586_r, p586_s, q999a, q999b, q999c, q999d, q999e, q999f, p999_l, p999_r, p999_s, q1000a, q1000b, q1000c, q1000d, q1000e, q1000f, p1000_l, p1000_r, p1000_s, q2400a, q2400b, q2400c, q2400d, q2400e, q2400f, p2400_l, p2400_r, p2400_s, q9999a, q9999b, q9999c, q9999d, q9999e, q9999f, p9999_l, p9999_r, p9999_s, I00, I01, I10, I11, n_le, n_lt, n_eq, n_cl, n_add, n_ne9, n_ne1, if_true, if_false, Option.bind_some, if_pos, if_neg, hd]
        by_cases g : St 0 ≤ d (K 0)
        · rw [if_pos g, show d (K 0) = St 0 by omega]
        · rw [if_neg g]
    obtain ⟨W1, w1, w2, w3⟩ := hw
    obtain ⟨W2, a1, a2, a3⟩ := note_59 (W0 := W1) (κ := nI κ) (S := nI S) (i := nI i) (x := nI x) 59 fu 0 W1 (by omega) (by unfold fu; omega) (fun c a _ _ ha => absurd ha (by omega)) (fun _ _ _ _ _ => rfl) (fun _ _ => rfl)
    have hml : mLog (wr W2 0 13 (W2 0 13 - 1)) 59 (drv 60 d K St) (fun j => K (j + 1)) (fun j => St (j + 1)) (fun j => Id (j + 1)) (fun j => Wh (j + 1)) := by
      refine ⟨?_, fun j hj => ?_, fun k hk => ?_⟩
      · rw [wr_at, a3 0 (by omega), w1 0 (by omega), h1]; rfl
      · rw [wr_ne (by omega), wr_ne (by omega), wr_ne (by omega), wr_ne (by omega), a2 11 j (by omega) (by omega) (by omega), a2 12 j (by omega) (by omega) (by omega), a2 13 j (by omega) (by omega) (by omega), a2 14 j (by omega) (by omega) (by omega), w1 11 (by omega), w1 12 (by omega), w1 13 (by omega), w1 14 (by omega)]
        exact h4 (j + 1) (by omega)
      · rw [wr_ne (by omega), a3 15 (by omega)]; exact w2 k hk
    obtain ⟨W3, b1, b2, b3, b4⟩ := note_148 (κ := κ) (S := S) (i := i) (x := x) hml (by omega)
    refine ⟨W3, ?_, b2, fun k k0 hk => ?_, fun j hj => ?_⟩
    · have hng : ¬ (W 11 0 < 0 ∨ 3 ≤ (W 11 0).toNatClampNeg) := by
        rw [p1, n_cl (by omega), show (0 : Int32) = nI 0 from rfl, n_lt (by omega) (by omega)]
        omega
      rw [if_pos (show nI 60 = 60 from rfl), if_neg hng, w3, show eX6_note_b59 fu (nI κ) (nI S) (nI i) (nI x) 0 W1 = _ from a1, b1]
    · rw [b3 k k0 (by omega) (by omega) (by omega) (by omega), wr_ne k0, a3 k (by omega), w1 k (by omega)]
    · rw [b4 j hj, wr_in hj, a3 0 (by omega), w1 0 (by omega)]
  · obtain ⟨V2, b1, b2, b3, b4⟩ := note_148 (κ := κ) (S := S) (i := i) (x := x) h (show n < 60 by omega)
    have hd : dro n = 0 := if_neg e
    have hdv : drv n d K St = d := by
      funext k
      exact if_neg (fun z => e z.1)
    refine ⟨V2, ?_, by rw [hd, hdv]; exact b2, fun k k0 hk => b3 k k0 (by omega) (by omega) (by omega) (by omega), b4⟩
    rw [if_neg (show ¬ nI n = 60 from fun z => e ((nI_eq (a := n) (b := 60) (by omega) (by omega)).mp z))]
    exact b1
