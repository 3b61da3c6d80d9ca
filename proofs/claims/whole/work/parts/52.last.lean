
/-! CHANGES: the last state that can be told -/
def cntF (g : Nat → Nat) (m : Nat) : Nat := (List.range m).countP (fun j => decide (g j ≠ 0))
def one0 (v : Nat) : Nat := if v = 0 then 0 else 1
theorem cntF_s (g : Nat → Nat) (m : Nat) : cntF g (m + 1) = cntF g m + one0 (g m) := by
  unfold cntF one0
  rw [cnt_succ]
  by_cases h : g m = 0
  · simp [h]
  · simp [h]
theorem cntF_cg {g h : Nat → Nat} {m : Nat} (e : ∀ j, j < m → g j = h j) : cntF g m = cntF h m := by
  unfold cntF
  apply cnt_congr
  intro j hj
  rw [e j hj]
theorem cntF_le (g : Nat → Nat) (m : Nat) : cntF g m ≤ m := cnt_le _ _
theorem cntF_up {g h : Nat → Nat} {a : Nat} (e : ∀ j, j ≠ a → h j = g j) : ∀ m, a < m → cntF h m + one0 (g a) = cntF g m + one0 (h a) := by
  intro m
  induction m with
  | zero => intro h0; omega
  | succ m ih =>
    intro hm
    rw [cntF_s, cntF_s]
    by_cases ha : a = m
    · subst ha
      rw [cntF_cg (m := a) (fun j hj => e j (by omega))]
      omega
    · have := ih (by omega)
      rw [e m (by omega)]
      omega
def lastOf (n : Nat) (K St : Nat → Nat) (i : Nat) : Bool := decide (i + 1 = n ∨ K (i + 1) ≠ K i ∨ St (i + 1) ≠ St i)
theorem isLast_n {V : Mm} {n i : Nat} {K St Id Wh : Nat → Nat} {W0 : Mm} (hL : LG W0 n K St Id Wh) (h : cLG V n K St Id Wh) (hi : i < n) : eX3_isLastOfState (nI i) V = some (b2i (lastOf n K St i = true)) := by
  have h60 := hL.1
  unfold eX3_isLastOfState
  rw [h.1]
  by_cases h1 : i + 1 = n
  · rw [b2i_T (show lastOf n K St i = true from decide_eq_true (Or.inl h1))]
    simp (disch := omega) only [q0a, q0b, q0c, q0d, q0e, q0f, p0_l, p0_r, p0_s, q1a, q1b, q1c, q1d, q1e, q1f, p1_l, p1_r, p1_s, q2a, q2b, q2c, q2d, q2e, q2f, p2_l, p2_r, p2_s, q3a, q3b, q3c, q3d, q3e, q3f, p3_l, p3_r, p3_s, q4a, q4b, q4c, q4d, q4e, q4f, p4_l, p4_r, p4_s, p4_m, q5a, q5b, q5c, q5d, q5e, q5f, p5_l, p5_r, p5_s, p5_m, q6a, q6b, q6c, q6d, q6e, q6f, p6_l, p6_r, p6_s, q7a, q7b, q7c, q7d, q7e, q7f, p7_l, p7_r, p7_s, q8a, q8b, q8c, q8d, q8e, q8f, p8_l, p8_r, p8_s, q9a, q9b, q9c, q9d, q9e, q9f, p9_l, p9_r, p9_s, q10a, q10b, q10c, q10d, q10e, q10f, p10_l, p10_r, p10_s, p10_m, q11a, q11b, q11c, q11d, q11e, q11f, p11_l, p11_r, p11_s, q12a, q12b, q12c, q12d, q12e, q12f, p12_l, p12_r, p12_s, q15a, q15b, q15c, q15d, q15e, q15f, p15_l, p15_r, p15_s, q19a, q19b, q19c, q19d, q19e, q19f, p19_l, p19_r, p19_s, q20a, q20b, q20c, q20d, q20e, q20f, p20_l, p20_r, p20_s, q31a, q31b, q31c, q31d, q31e, q31f, p31_l, p31_r, p31_s, q40a, q40b, q40c, q40d, q40e, q40f, p40_l, p40_r, p40_s, q48a, q48b, q48c, q48d, q48e, q48f, p48_l, p48_r, p48_s, q50a, q50b, q50c, q50d, q50e, q50f, p50_l, p50_r, p50_s, p50_m, q52a, q52b, q52c, q52d, q52e, q52f, p52_l, p52_r, p52_s, q60a, q60b, q60c, q60d, q60e, q60f, p60_l, p60_r, p60_s, q63a, q63b, q63c, q63d, q63e, q63f, p63_l, p63_r, p63_s, q80a, q80b, q80c, q80d, q80e, q80f, p80_l, p80_r, p80_s, q99a, q99b, q99c, q99d, q99e, q99f, p99_l, p99_r, p99_s, q100a, q100b, q100c, q100d, q100e, q100f, p100_l, p100_r, p100_s, q120a, q120b, q120c, q120d, q120e, q120f, p120_l, p120_r, p120_s, q240a, q240b, q240c, q240d, q240e, q240f, p240_l, p240_r, p240_s, q243a, q243b, q243c, q243d, q243e, q243f, p243_l, p243_r, p243_s, q244a, q244b, q244c, q244d, q244e, q244f, p244_l, p244_r, p244_s, q580a, q580b, q580c, q580d, q580e, q580f, p580_l, p580_r, p580_s, q581a, q581b, q581c, q581d, q581e, q581f, p581_l, p581_r, p581_s, q582a, q582b, q582c, q582d, q582e, q582f, p582_l, p582_r, p582_s, q583a, q583b, q583c, q583d, q583e, q583f, p583_l, p583_r, p583_s, q584a, q584b, q584c, q584d, q584e, q584f, p584_l, p584_r, p584_s, q585a, q585b, q585c, q585d, q585e, q585f, p585_l, p585_r, p585_s, q586a, q586b, q586c, q586d, q586e, q586f, p586_l, p586_r, p586_s, q999a, q999b, q999c, q999d, q999e, q999f, p999_l, p999_r, p999_s, q1000a, q1000b, q1000c, q1000d, q1000e, q1000f, p1000_l, p1000_r, p1000_s, q2400a, q2400b, q2400c, q2400d, q2400e, q2400f, p2400_l, p2400_r, p2400_s, q9999a, q9999b, q9999c, q9999d, q9999e, q9999f, p9999_l, p9999_r, p9999_s, I00, I01, I10, I11, n_le, n_lt, n_eq, n_cl, n_add, n_ne9, n_ne1, if_true, if_false, Option.bind_some, if_pos, if_neg]
  · obtain ⟨a0, a1, -, -⟩ := h.2 i hi
    obtain ⟨b0, b1, -, -⟩ := h.2 (i + 1) (by omega)
    obtain ⟨-, -, -, -, k5, k6, -⟩ := hL.2.2.1 i hi
    obtain ⟨-, -, -, -, m5, m6, -⟩ := hL.2.2.1 (i + 1) (by omega)
    simp (disch := omega) only [q0a, q0b, q0c, q0d, q0e, q0f, p0_l, p0_r, p0_s, q1a, q1b, q1c, q1d, q1e, q1f, p1_l, p1_r, p1_s, q2a, q2b, q2c, q2d, q2e, q2f, p2_l, p2_r, p2_s, q3a, q3b, q3c, q3d, q3e, q3f, p3_l, p3_r, p3_s, q4a, q4b, q4c, q4d, q4e, q4f, p4_l, p4_r, p4_s, p4_m, q5a, q5b, q5c, q5d, q5e, q5f, p5_l, p5_r, p5_s, p5_m, q6a, q6b, q6c, q6d, q6e, q6f, p6_l, p6_r, p6_s, q7a, q7b, q7c, q7d, q7e, q7f, p7_l, p7_r, p7_s, q8a, q8b, q8c, q8d, q8e, q8f, p8_l, p8_r, p8_s, q9a, q9b, q9c, q9d, q9e, q9f, p9_l, p9_r, p9_s, q10a, q10b, q10c, q10d, q10e, q10f, p10_l, p10_r, p10_s, p10_m, q11a, q11b, q11c, q11d, q11e, q11f, p11_l, p11_r, p11_s, q12a, q12b, q12c, q12d, q12e, q12f, p12_l, p12_r, p12_s, q15a, q15b, q15c, q15d, q15e, q15f, p15_l, p15_r, p15_s, q19a, q19b, q19c, q19d, q19e, q19f, p19_l, p19_r, p19_s, q20a, q20b, q20c, q20d, q20e, q20f, p20_l, p20_r, p20_s, q31a, q31b, q31c, q31d, q31e, q31f, p31_l, p31_r, p31_s, q40a, q40b, q40c, q40d, q40e, q40f, p40_l, p40_r, p40_s, q48a, q48b, q48c, q48d, q48e, q48f, p48_l, p48_r, p48_s, q50a, q50b, q50c, q50d, q50e, q50f, p50_l, p50_r, p50_s, p50_m, q52a, q52b, q52c, q52d, q52e, q52f, p52_l, p52_r, p52_s, q60a, q60b, q60c, q60d, q60e, q60f, p60_l, p60_r, p60_s, q63a, q63b, q63c, q63d, q63e, q63f, p63_l, p63_r, p63_s, q80a, q80b, q80c, q80d, q80e, q80f, p80_l, p80_r, p80_s, q99a, q99b, q99c, q99d, q99e, q99f, p99_l, p99_r, p99_s, q100a, q100b, q100c, q100d, q100e, q100f, p100_l, p100_r, p100_s, q120a, q120b, q120c, q120d, q120e, q120f, p120_l, p120_r, p120_s, q240a, q240b, q240c, q240d, q240e, q240f, p240_l, p240_r, p240_s, q243a, q243b, q243c, q243d, q243e, q243f, p243_l, p243_r, p243_s, q244a, q244b, q244c, q244d, q244e, q244f, p244_l, p244_r, p244_s, q580a, q580b, q580c, q580d, q580e, q580f, p580_l, p580_r, p580_s, q581a, q581b, q581c, q581d, q581e, q581f, p581_l, p581_r, p581_s, q582a, q582b, q582c, q582d, q582e, q582f, p582_l, p582_r, p582_s, q583a, q583b, q583c, q583d, q583e, q583f, p583_l, p583_r, p583_s, q584a, q584b, q584c, q584d, q584e, q584f, p584_l, p584_r, p584_s, q585a, q585b, q585c, q585d, q585e, q585f, p585_l, p585_r, p585_s, q586a, q586b, q586c, q586d, q586e, q586f, p586_l, p586_r, p586_s, q999a, q999b, q999c, q999d, q999e, q999f, p999_l, p999_r, p999_s, q1000a, q1000b, q1000c, q1000d, q1000e, q1000f, p1000_l, p1000_r, p1000_s, q2400a, q2400b, q2400c, q2400d, q2400e, q2400f, p2400_l, p2400_r, p2400_s, q9999a, q9999b, q9999c, q9999d, q9999e, q9999f, p9999_l, p9999_r, p9999_s, I00, I01, I10, I11, n_le, n_lt, n_eq, n_cl, n_add, n_ne9, n_ne1, if_true, if_false, Option.bind_some, if_pos, if_neg, a0, a1, b0, b1]
    by_cases h2 : K (i + 1) = K i
    · by_cases h3 : St (i + 1) = St i
      · rw [if_pos h2, if_pos h3, b2i_F (fun z => by rcases of_decide_eq_true z with z | z | z; exact h1 z; exact z h2; exact z h3)]
      · rw [if_pos h2, if_neg h3, b2i_T (show lastOf n K St i = true from decide_eq_true (Or.inr (Or.inr h3)))]
    · rw [if_neg h2, b2i_T (show lastOf n K St i = true from decide_eq_true (Or.inr (Or.inl h2)))]
def cntB (K St Id Wh : Nat → Nat) (κ s T i : Nat) : Nat := cntF (fun j => bec K St Id Wh κ s T j i) 50
def bestF (n : Nat) (K St Id Wh : Nat → Nat) (κ s T mx : Nat) : Nat → Int32
  | 0 => -9
  | i + 1 => if K i = κ ∧ s < St i ∧ lastOf n K St i = true ∧ cntB K St Id Wh κ s T (i + 1) ≤ mx then nI (St i) else bestF n K St Id Wh κ s T mx i
theorem bestF_T {n : Nat} {K St Id Wh : Nat → Nat} {κ s T mx i : Nat} (h : K i = κ ∧ s < St i ∧ lastOf n K St i = true ∧ cntB K St Id Wh κ s T (i + 1) ≤ mx) : bestF n K St Id Wh κ s T mx (i + 1) = nI (St i) := if_pos h
theorem bestF_F {n : Nat} {K St Id Wh : Nat → Nat} {κ s T mx i : Nat} (h : ¬ (K i = κ ∧ s < St i ∧ lastOf n K St i = true ∧ cntB K St Id Wh κ s T (i + 1) ≤ mx)) : bestF n K St Id Wh κ s T mx (i + 1) = bestF n K St Id Wh κ s T mx i := if_neg h
theorem delta (c c' b b' : Nat) (hc : c ≤ 50) (hc' : c' ≤ 50) (h : c' + one0 b = c + one0 b') : nI c + (if b' = 0 then (if b = 0 then (0 : Int32) - 0 else 0 - 1) else (if b = 0 then 1 - 0 else 1 - 1)) = nI c' := by
  unfold one0 at h
  by_cases h1 : b' = 0
  · by_cases h2 : b = 0
    · rw [if_pos h1, if_pos h2]
      rw [if_pos h1, if_pos h2] at h
      have : c' = c := by omega
      rw [this]
      show nI c + nI 0 = _
      rw [n_add]; rfl
    · rw [if_pos h1, if_neg h2]
      rw [if_pos h1, if_neg h2] at h
      have : (0 : Int32) - 1 = - nI 1 := by decide
      rw [this, ← Int32.sub_eq_add_neg, n_sub (by omega)]
      congr 1
      omega
  · by_cases h2 : b = 0
    · rw [if_neg h1, if_pos h2]
      rw [if_neg h1, if_pos h2] at h
      show nI c + nI 1 = _
      rw [n_add]
      congr 1
      omega
    · rw [if_neg h1, if_neg h2]
      rw [if_neg h1, if_neg h2] at h
      have : c' = c := by omega
      rw [this]
      show nI c + nI 0 = _
      rw [n_add]; rfl
theorem last_b {n κ s T mx : Nat} {K St Id Wh : Nat → Nat} {V0 W0 : Mm} (hL : LG W0 n K St Id Wh) (hV0 : cLG V0 n K St Id Wh) (hκ : κ < 3) (hs : s < 100000) (hmx : mx ≤ 99) (hT : ∀ i, i < n → K i = κ → St i ≤ T) :
    ∀ d f i (V : Mm), i + d = n → d < f → only83 V0 V → (∀ j, j < 50 → V 83 j = nI (bec K St Id Wh κ s T j i)) →
    ∃ V2, eX3_lastTellable_b14 f (nI κ) (nI s) (nI mx) (bestF n K St Id Wh κ s T mx i) (nI (cntB K St Id Wh κ s T i)) (nI i) V = some (bestF n K St Id Wh κ s T mx n, V2) ∧ only83 V0 V2 := by
  intro d
  induction d with
  | zero =>
    intro f i V hi hf hV hb
    obtain ⟨f, rfl⟩ : ∃ f', f = f' + 1 := ⟨f - 1, by omega⟩
    have h60 := hL.1
    have : i = n := by omega
    subst this
    refine ⟨V, ?_, hV⟩
    rw [eX3_lastTellable_b14, hV 76 (by omega), hV0.1]
    simp (disch := omega) only [q0a, q0b, q0c, q0d, q0e, q0f, p0_l, p0_r, p0_s, q1a, q1b, q1c, q1d, q1e, q1f, p1_l, p1_r, p1_s, q2a, q2b, q2c, q2d, q2e, q2f, p2_l, p2_r, p2_s, q3a, q3b, q3c, q3d, q3e, q3f, p3_l, p3_r, p3_s, q4a, q4b, q4c, q4d, q4e, q4f, p4_l, p4_r, p4_s, p4_m, q5a, q5b, q5c, q5d, q5e, q5f, p5_l, p5_r, p5_s, p5_m, q6a, q6b, q6c, q6d, q6e, q6f, p6_l, p6_r, p6_s, q7a, q7b, q7c, q7d, q7e, q7f, p7_l, p7_r, p7_s, q8a, q8b, q8c, q8d, q8e, q8f, p8_l, p8_r, p8_s, q9a, q9b, q9c, q9d, q9e, q9f, p9_l, p9_r, p9_s, q10a, q10b, q10c, q10d, q10e, q10f, p10_l, p10_r, p10_s, p10_m, q11a, q11b, q11c, q11d, q11e, q11f, p11_l, p11_r, p11_s, q12a, q12b, q12c, q12d, q12e, q12f, p12_l, p12_r, p12_s, q15a, q15b, q15c, q15d, q15e, q15f, p15_l, p15_r, p15_s, q19a, q19b, q19c, q19d, q19e, q19f, p19_l, p19_r, p19_s, q20a, q20b, q20c, q20d, q20e, q20f, p20_l, p20_r, p20_s, q31a, q31b, q31c, q31d, q31e, q31f, p31_l, p31_r, p31_s, q40a, q40b, q40c, q40d, q40e, q40f, p40_l, p40_r, p40_s, q48a, q48b, q48c, q48d, q48e, q48f, p48_l, p48_r, p48_s, q50a, q50b, q50c, q50d, q50e, q50f, p50_l, p50_r, p50_s, p50_m, q52a, q52b, q52c, q52d, q52e, q52f, p52_l, p52_r, p52_s, q60a, q60b, q60c, q60d, q60e, q60f, p60_l, p60_r, p60_s, q63a, q63b, q63c, q63d, q63e, q63f, p63_l, p63_r, p63_s, q80a, q80b, q80c, q80d, q80e, q80f, p80_l, p80_r, p80_s, q99a, q99b, q99c, q99d, q99e, q99f, p99_l, p99_r, p99_s, q100a, q100b, q100c, q100d, q100e, q100f, p100_l, p100_r, p100_s, q120a, q120b, q120c, q120d, q120e, q120f, p120_l, p120_r, p120_s, q240a, q240b, q240c, q240d, q240e, q240f, p240_l, p240_r, p240_s, q243a, q243b, q243c, q243d, q243e, q243f, p243_l, p243_r, p243_s, q244a, q244b, q244c, q244d, q244e, q244f, p244_l, p244_r, p244_s, q580a, q580b, q580c, q580d, q580e, q580f, p580_l, p580_r, p580_s, q581a, q581b, q581c, q581d, q581e, q581f, p581_l, p581_r, p581_s, q582a, q582b, q582c, q582d, q582e, q582f, p582_l, p582_r, p582_s, q583a, q583b, q583c, q583d, q583e, q583f, p583_l, p583_r, p583_s, q584a, q584b, q584c, q584d, q584e, q584f, p584_l, p584_r, p584_s, q585a, q585b, q585c, q585d, q585e, q585f, p585_l, p585_r, p585_s, q586a, q586b, q586c, q586d, q586e, q586f, p586_l, p586_r, p586_s, q999a, q999b, q999c, q999d, q999e, q999f, p999_l, p999_r, p999_s, q1000a, q1000b, q1000c, q1000d, q1000e, q1000f, p1000_l, p1000_r, p1000_s, q2400a, q2400b, q2400c, q2400d, q2400e, q2400f, p2400_l, p2400_r, p2400_s, q9999a, q9999b, q9999c, q9999d, q9999e, q9999f, p9999_l, p9999_r, p9999_s, I00, I01, I10, I11, n_le, n_lt, n_eq, n_cl, n_add, n_ne9, n_ne1, if_true, if_false, Option.bind_some, if_pos, if_neg]
  | succ d ih =>
    intro f i V hi hf hV hb
    obtain ⟨f, rfl⟩ : ∃ f', f = f' + 1 := ⟨f - 1, by omega⟩
    have h60 := hL.1
    obtain ⟨-, -, -, -, k5, k6, k7, k8, k9⟩ := hL.2.2.1 i (by omega)
    have hVL := cLG_fr hV0 hV
    obtain ⟨-, a1', a2', a3'⟩ := hVL.2 i (by omega)
    have eo := isOf_n hVL (show i < n by omega) k5 k6 hκ hs
    rw [eX3_lastTellable_b14, hVL.1]
    by_cases h : K i = κ ∧ s < St i
    · have hin : inR K St Id κ (Id i) s T i = true := decide_eq_true ⟨h.1, rfl, h.2, hT i (by omega) h.1⟩
      have hb0 := bec_le (κ := κ) (s := s) (t := T) (id := Id i) hL (show i ≤ n by omega)
      have em := meet_n (V := V) k7 hb0 k9 (hb (Id i) k7)
      have hV2 : only83 V0 (wr V 83 (Id i) (nI (meetN (bec K St Id Wh κ s T (Id i) i) (Wh i)))) := fun k hk => by rw [wr_ne hk]; exact hV k hk
      have hb2 : ∀ j, j < 50 → (wr V 83 (Id i) (nI (meetN (bec K St Id Wh κ s T (Id i) i) (Wh i)))) 83 j = nI (bec K St Id Wh κ s T j (i + 1)) := fun j hj => by
        by_cases e : j = Id i
        · subst e
          rw [wr_at, bec_T hin]
        · rw [wr_in e, bec_F (fun z => e (of_decide_eq_true z).2.1.symm)]; exact hb j hj
      obtain ⟨V2, e1, e2⟩ := ih f (i + 1) _ (by omega) (by omega) hV2 hb2
      have hVL2 := cLG_fr hV0 hV2
      have el := isLast_n hL hVL2 (show i < n by omega)
      have ea1 := (hVL2.2 i (by omega)).2.1
      have ed : nI (cntB K St Id Wh κ s T i) + (if meetN (bec K St Id Wh κ s T (Id i) i) (Wh i) = 0 then (if bec K St Id Wh κ s T (Id i) i = 0 then (0 : Int32) - 0 else 0 - 1) else (if bec K St Id Wh κ s T (Id i) i = 0 then 1 - 0 else 1 - 1)) = nI (cntB K St Id Wh κ s T (i + 1)) := by
        apply delta _ _ _ _ (cntF_le _ _) (cntF_le _ _)
        have := cntF_up (g := fun j => bec K St Id Wh κ s T j i) (h := fun j => bec K St Id Wh κ s T j (i + 1)) (a := Id i) (fun j hj => bec_F (fun z => hj (of_decide_eq_true z).2.1.symm)) 50 k7
        rw [bec_T hin] at this
        exact this
      have hc50 : cntB K St Id Wh κ s T (i + 1) ≤ 50 := cntF_le _ _
      refine ⟨V2, ?_, e2⟩
      simp (disch := omega) only [q0a, q0b, q0c, q0d, q0e, q0f, p0_l, p0_r, p0_s, q1a, q1b, q1c, q1d, q1e, q1f, p1_l, p1_r, p1_s, q2a, q2b, q2c, q2d, q2e, q2f, p2_l, p2_r, p2_s, q3a, q3b, q3c, q3d, q3e, q3f, p3_l, p3_r, p3_s, q4a, q4b, q4c, q4d, q4e, q4f, p4_l, p4_r, p4_s, p4_m, q5a, q5b, q5c, q5d, q5e, q5f, p5_l, p5_r, p5_s, p5_m, q6a, q6b, q6c, q6d, q6e, q6f, p6_l, p6_r, p6_s, q7a, q7b, q7c, q7d, q7e, q7f, p7_l, p7_r, p7_s, q8a, q8b, q8c, q8d, q8e, q8f, p8_l, p8_r, p8_s, q9a, q9b, q9c, q9d, q9e, q9f, p9_l, p9_r, p9_s, q10a, q10b, q10c, q10d, q10e, q10f, p10_l, p10_r, p10_s, p10_m, q11a, q11b, q11c, q11d, q11e, q11f, p11_l, p11_r, p11_s, q12a, q12b, q12c, q12d, q12e, q12f, p12_l, p12_r, p12_s, q15a, q15b, q15c, q15d, q15e, q15f, p15_l, p15_r, p15_s, q19a, q19b, q19c, q19d, q19e, q19f, p19_l, p19_r, p19_s, q20a, q20b, q20c, q20d, q20e, q20f, p20_l, p20_r, p20_s, q31a, q31b, q31c, q31d, q31e, q31f, p31_l, p31_r, p31_s, q40a, q40b, q40c, q40d, q40e, q40f, p40_l, p40_r, p40_s, q48a, q48b, q48c, q48d, q48e, q48f, p48_l, p48_r, p48_s, q50a, q50b, q50c, q50d, q50e, q50f, p50_l, p50_r, p50_s, p50_m, q52a, q52b, q52c, q52d, q52e, q52f, p52_l, p52_r, p52_s, q60a, q60b, q60c, q60d, q60e, q60f, p60_l, p60_r, p60_s, q63a, q63b, q63c, q63d, q63e, q63f, p63_l, p63_r, p63_s, q80a, q80b, q80c, q80d, q80e, q80f, p80_l, p80_r, p80_s, q99a, q99b, q99c, q99d, q99e, q99f, p99_l, p99_r, p99_s, q100a, q100b, q100c, q100d, q100e, q100f, p100_l, p100_r, p100_s, q120a, q120b, q120c, q120d, q120e, q120f, p120_l, p120_r, p120_s, q240a, q240b, q240c, q240d, q240e, q240f, p240_l, p240_r, p240_s, q243a, q243b, q243c, q243d, q243e, q243f, p243_l, p243_r, p243_s, q244a, q244b, q244c, q244d, q244e, q244f, p244_l, p244_r, p244_s, q580a, q580b, q580c, q580d, q580e, q580f, p580_l, p580_r, p580_s, q581a, q581b, q581c, q581d, q581e, q581f, p581_l, p581_r, p581_s, q582a, q582b, q582c, q582d, q582e, q582f, p582_l, p582_r, p582_s, q583a, q583b, q583c, q583d, q583e, q583f, p583_l, p583_r, p583_s, q584a, q584b, q584c, q584d, q584e, q584f, p584_l, p584_r, p584_s, q585a, q585b, q585c, q585d, q585e, q585f, p585_l, p585_r, p585_s, q586a, q586b, q586c, q586d, q586e, q586f, p586_l, p586_r, p586_s, q999a, q999b, q999c, q999d, q999e, q999f, p999_l, p999_r, p999_s, q1000a, q1000b, q1000c, q1000d, q1000e, q1000f, p1000_l, p1000_r, p1000_s, q2400a, q2400b, q2400c, q2400d, q2400e, q2400f, p2400_l, p2400_r, p2400_s, q9999a, q9999b, q9999c, q9999d, q9999e, q9999f, p9999_l, p9999_r, p9999_s, I00, I01, I10, I11, n_le, n_lt, n_eq, n_cl, n_add, n_ne9, n_ne1, if_true, if_false, Option.bind_some, if_pos, if_neg, eo, b2i_T h, a2', a3', em]
      simp only [ed, el, Option.bind_some]
      by_cases hlast : lastOf n K St i = true
      · rw [b2i_T hlast]
        simp (disch := omega) only [q0a, q0b, q0c, q0d, q0e, q0f, p0_l, p0_r, p0_s, q1a, q1b, q1c, q1d, q1e, q1f, p1_l, p1_r, p1_s, q2a, q2b, q2c, q2d, q2e, q2f, p2_l, p2_r, p2_s, q3a, q3b, q3c, q3d, q3e, q3f, p3_l, p3_r, p3_s, q4a, q4b, q4c, q4d, q4e, q4f, p4_l, p4_r, p4_s, p4_m, q5a, q5b, q5c, q5d, q5e, q5f, p5_l, p5_r, p5_s, p5_m, q6a, q6b, q6c, q6d, q6e, q6f, p6_l, p6_r, p6_s, q7a, q7b, q7c, q7d, q7e, q7f, p7_l, p7_r, p7_s, q8a, q8b, q8c, q8d, q8e, q8f, p8_l, p8_r, p8_s, q9a, q9b, q9c, q9d, q9e, q9f, p9_l, p9_r, p9_s, q10a, q10b, q10c, q10d, q10e, q10f, p10_l, p10_r, p10_s, p10_m, q11a, q11b, q11c, q11d, q11e, q11f, p11_l, p11_r, p11_s, q12a, q12b, q12c, q12d, q12e, q12f, p12_l, p12_r, p12_s, q15a, q15b, q15c, q15d, q15e, q15f, p15_l, p15_r, p15_s, q19a, q19b, q19c, q19d, q19e, q19f, p19_l, p19_r, p19_s, q20a, q20b, q20c, q20d, q20e, q20f, p20_l, p20_r, p20_s, q31a, q31b, q31c, q31d, q31e, q31f, p31_l, p31_r, p31_s, q40a, q40b, q40c, q40d, q40e, q40f, p40_l, p40_r, p40_s, q48a, q48b, q48c, q48d, q48e, q48f, p48_l, p48_r, p48_s, q50a, q50b, q50c, q50d, q50e, q50f, p50_l, p50_r, p50_s, p50_m, q52a, q52b, q52c, q52d, q52e, q52f, p52_l, p52_r, p52_s, q60a, q60b, q60c, q60d, q60e, q60f, p60_l, p60_r, p60_s, q63a, q63b, q63c, q63d, q63e, q63f, p63_l, p63_r, p63_s, q80a, q80b, q80c, q80d, q80e, q80f, p80_l, p80_r, p80_s, q99a, q99b, q99c, q99d, q99e, q99f, p99_l, p99_r, p99_s, q100a, q100b, q100c, q100d, q100e, q100f, p100_l, p100_r, p100_s, q120a, q120b, q120c, q120d, q120e, q120f, p120_l, p120_r, p120_s, q240a, q240b, q240c, q240d, q240e, q240f, p240_l, p240_r, p240_s, q243a, q243b, q243c, q243d, q243e, q243f, p243_l, p243_r, p243_s, q244a, q244b, q244c, q244d, q244e, q244f, p244_l, p244_r, p244_s, q580a, q580b, q580c, q580d, q580e, q580f, p580_l, p580_r, p580_s, q581a, q581b, q581c, q581d, q581e, q581f, p581_l, p581_r, p581_s, q582a, q582b, q582c, q582d, q582e, q582f, p582_l, p582_r, p582_s, q583a, q583b, q583c, q583d, q583e, q583f, p583_l, p583_r, p583_s, q584a, q584b, q584c, q584d, q584e, q584f, p584_l, p584_r, p584_s, q585a, q585b, q585c, q585d, q585e, q585f, p585_l, p585_r, p585_s, q586a, q586b, q586c, q586d, q586e, q586f, p586_l, p586_r, p586_s, q999a, q999b, q999c, q999d, q999e, q999f, p999_l, p999_r, p999_s, q1000a, q1000b, q1000c, q1000d, q1000e, q1000f, p1000_l, p1000_r, p1000_s, q2400a, q2400b, q2400c, q2400d, q2400e, q2400f, p2400_l, p2400_r, p2400_s, q9999a, q9999b, q9999c, q9999d, q9999e, q9999f, p9999_l, p9999_r, p9999_s, I00, I01, I10, I11, n_le, n_lt, n_eq, n_cl, n_add, n_ne9, n_ne1, if_true, if_false, Option.bind_some, if_pos, if_neg, ea1]
        by_cases hm : mx < cntB K St Id Wh κ s T (i + 1)
        · rw [if_pos hm]
          rw [bestF_F (fun z => by have := z.2.2.2; omega)] at e1
          exact e1
        · rw [if_neg hm]
          rw [bestF_T ⟨h.1, h.2, hlast, by omega⟩] at e1
          exact e1
      · rw [b2i_F hlast]
        rw [bestF_F (fun z => hlast z.2.2.1)] at e1
        simp only [if_true]
        exact e1
    · have hno : ∀ j, ¬ inR K St Id κ j s T i = true := fun j z => h ⟨(of_decide_eq_true z).1, (of_decide_eq_true z).2.2.1⟩
      obtain ⟨V2, e1, e2⟩ := ih f (i + 1) V (by omega) (by omega) hV (fun j hj => by rw [bec_F (hno j)]; exact hb j hj)
      refine ⟨V2, ?_, e2⟩
      have ec : cntB K St Id Wh κ s T (i + 1) = cntB K St Id Wh κ s T i := cntF_cg (fun j _ => bec_F (hno j))
      rw [ec, bestF_F (fun z => h ⟨z.1, z.2.1⟩)] at e1
      simp (disch := omega) only [q0a, q0b, q0c, q0d, q0e, q0f, p0_l, p0_r, p0_s, q1a, q1b, q1c, q1d, q1e, q1f, p1_l, p1_r, p1_s, q2a, q2b, q2c, q2d, q2e, q2f, p2_l, p2_r, p2_s, q3a, q3b, q3c, q3d, q3e, q3f, p3_l, p3_r, p3_s, q4a, q4b, q4c, q4d, q4e, q4f, p4_l, p4_r, p4_s, p4_m, q5a, q5b, q5c, q5d, q5e, q5f, p5_l, p5_r, p5_s, p5_m, q6a, q6b, q6c, q6d, q6e, q6f, p6_l, p6_r, p6_s, q7a, q7b, q7c, q7d, q7e, q7f, p7_l, p7_r, p7_s, q8a, q8b, q8c, q8d, q8e, q8f, p8_l, p8_r, p8_s, q9a, q9b, q9c, q9d, q9e, q9f, p9_l, p9_r, p9_s, q10a, q10b, q10c, q10d, q10e, q10f, p10_l, p10_r, p10_s, p10_m, q11a, q11b, q11c, q11d, q11e, q11f, p11_l, p11_r, p11_s, q12a, q12b, q12c, q12d, q12e, q12f, p12_l, p12_r, p12_s, q15a, q15b, q15c, q15d, q15e, q15f, p15_l, p15_r, p15_s, q19a, q19b, q19c, q19d, q19e, q19f, p19_l, p19_r, p19_s, q20a, q20b, q20c, q20d, q20e, q20f, p20_l, p20_r, p20_s, q31a, q31b, q31c, q31d, q31e, q31f, p31_l, p31_r, p31_s, q40a, q40b, q40c, q40d, q40e, q40f, p40_l, p40_r, p40_s, q48a, q48b, q48c, q48d, q48e, q48f, p48_l, p48_r, p48_s, q50a, q50b, q50c, q50d, q50e, q50f, p50_l, p50_r, p50_s, p50_m, q52a, q52b, q52c, q52d, q52e, q52f, p52_l, p52_r, p52_s, q60a, q60b, q60c, q60d, q60e, q60f, p60_l, p60_r, p60_s, q63a, q63b, q63c, q63d, q63e, q63f, p63_l, p63_r, p63_s, q80a, q80b, q80c, q80d, q80e, q80f, p80_l, p80_r, p80_s, q99a, q99b, q99c, q99d, q99e, q99f, p99_l, p99_r, p99_s, q100a, q100b, q100c, q100d, q100e, q100f, p100_l, p100_r, p100_s, q120a, q120b, q120c, q120d, q120e, q120f, p120_l, p120_r, p120_s, q240a, q240b, q240c, q240d, q240e, q240f, p240_l, p240_r, p240_s, q243a, q243b, q243c, q243d, q243e, q243f, p243_l, p243_r, p243_s, q244a, q244b, q244c, q244d, q244e, q244f, p244_l, p244_r, p244_s, q580a, q580b, q580c, q580d, q580e, q580f, p580_l, p580_r, p580_s, q581a, q581b, q581c, q581d, q581e, q581f, p581_l, p581_r, p581_s, q582a, q582b, q582c, q582d, q582e, q582f, p582_l, p582_r, p582_s, q583a, q583b, q583c, q583d, q583e, q583f, p583_l, p583_r, p583_s, q584a, q584b, q584c, q584d, q584e, q584f, p584_l, p584_r, p584_s, q585a, q585b, q585c, q585d, q585e, q585f, p585_l, p585_r, p585_s, q586a, q586b, q586c, q586d, q586e, q586f, p586_l, p586_r, p586_s, q999a, q999b, q999c, q999d, q999e, q999f, p999_l, p999_r, p999_s, q1000a, q1000b, q1000c, q1000d, q1000e, q1000f, p1000_l, p1000_r, p1000_s, q2400a, q2400b, q2400c, q2400d, q2400e, q2400f, p2400_l, p2400_r, p2400_s, q9999a, q9999b, q9999c, q9999d, q9999e, q9999f, p9999_l, p9999_r, p9999_s, I00, I01, I10, I11, n_le, n_lt, n_eq, n_cl, n_add, n_ne9, n_ne1, if_true, if_false, Option.bind_some, if_pos, if_neg, eo, b2i_F h]
      exact e1
