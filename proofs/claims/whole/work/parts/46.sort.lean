
/-! QUERY: sorting -/
def up1 (A : Nat → Nat) (i v : Nat) : Nat → Nat := fun j => if j = i then v else A j
def insA (beh : Nat → Nat → Bool) (x : Nat) : Nat → (Nat → Nat) → Nat → Nat
  | 0, A => up1 A 0 x
  | p + 1, A => if beh (A p) x then insA beh x p (up1 A (p + 1) (A p)) else up1 A (p + 1) x
theorem insA_form (beh : Nat → Nat → Bool) (x : Nat) : ∀ (p : Nat) (A : Nat → Nat), ∃ z, z ≤ p ∧ ∀ i, insA beh x p A i = if i < z then A i else if i = z then x else if i ≤ p then A (i - 1) else A i := by
  intro p
  induction p with
  | zero =>
    intro A
    refine ⟨0, Nat.le_refl _, fun i => ?_⟩
    show up1 A 0 x i = _
    unfold up1
    by_cases h : i = 0
    · rw [if_pos h, if_neg (by omega), if_pos h]
    · rw [if_neg h, if_neg (by omega), if_neg h, if_neg (by omega)]
  | succ p ih =>
    intro A
    cases hb : beh (A p) x
    · refine ⟨p + 1, Nat.le_refl _, fun i => ?_⟩
      have : insA beh x (p + 1) A = up1 A (p + 1) x := by
        show (if beh (A p) x = true then insA beh x p (up1 A (p + 1) (A p)) else up1 A (p + 1) x) = _
        rw [hb]; rfl
      rw [this]
      unfold up1
      by_cases h : i = p + 1
      · rw [if_pos h, if_neg (by omega), if_pos h]
      · by_cases h2 : i < p + 1
        · rw [if_neg h, if_pos h2]
        · rw [if_neg h, if_neg h2, if_neg h, if_neg (by omega)]
    · obtain ⟨z, hz, e⟩ := ih (up1 A (p + 1) (A p))
      refine ⟨z, by omega, fun i => ?_⟩
      have : insA beh x (p + 1) A = insA beh x p (up1 A (p + 1) (A p)) := by
        show (if beh (A p) x = true then insA beh x p (up1 A (p + 1) (A p)) else up1 A (p + 1) x) = _
        rw [hb]; rfl
      rw [this, e i]
      unfold up1
      by_cases h1 : i < z
      · rw [if_pos h1, if_pos h1, if_neg (by omega)]
      · by_cases h2 : i = z
        · rw [if_neg h1, if_pos h2, if_neg h1, if_pos h2]
        · by_cases h3 : i ≤ p
          · rw [if_neg h1, if_neg h2, if_pos h3, if_neg (by omega), if_neg h1, if_neg h2, if_pos (by omega)]
          · by_cases h4 : i = p + 1
            · subst h4
              rw [if_neg h1, if_neg h2, if_neg h3, if_pos rfl, if_neg h1, if_neg h2, if_pos (Nat.le_refl _)]
              rfl
            · rw [if_neg h1, if_neg h2, if_neg h3, if_neg h4, if_neg h1, if_neg h2, if_neg (by omega)]
theorem insA_hi {beh : Nat → Nat → Bool} {x p i : Nat} {A : Nat → Nat} (h : p < i) : insA beh x p A i = A i := by
  obtain ⟨z, hz, e⟩ := insA_form beh x p A
  rw [e i, if_neg (by omega), if_neg (by omega), if_neg (by omega)]
theorem insA_cg {beh : Nat → Nat → Bool} {x : Nat} : ∀ (p : Nat) (A B : Nat → Nat), (∀ i, i < p → A i = B i) → ∀ i, i ≤ p → insA beh x p A i = insA beh x p B i := by
  intro p
  induction p with
  | zero =>
    intro A B h i hi
    have : i = 0 := by omega
    subst this
    rfl
  | succ p ih =>
    intro A B h i hi
    show (if beh (A p) x = true then insA beh x p (up1 A (p + 1) (A p)) else up1 A (p + 1) x) i = (if beh (B p) x = true then insA beh x p (up1 B (p + 1) (B p)) else up1 B (p + 1) x) i
    rw [← h p (by omega)]
    split
    · by_cases e : i = p + 1
      · subst e
        rw [insA_hi (by omega), insA_hi (by omega)]
        unfold up1
        rw [if_pos rfl, if_pos rfl]
      · exact ih _ _ (fun j hj => by
          unfold up1
          rw [if_neg (by omega), if_neg (by omega), h j (by omega)]) i (by omega)
    · unfold up1
      by_cases e : i = p + 1
      · rw [if_pos e, if_pos e]
      · rw [if_neg e, if_neg e, h i (by omega)]
theorem insA_inj {beh : Nat → Nat → Bool} {x p : Nat} {A : Nat → Nat} (h : ∀ i j, i < j → j < p → A i ≠ A j) (hx : ∀ i, i < p → A i ≠ x) : ∀ i j, i < j → j < p + 1 → insA beh x p A i ≠ insA beh x p A j := by
  obtain ⟨z, hz, e⟩ := insA_form beh x p A
  intro i j hij hj
  rw [e i, e j]
  by_cases i1 : i < z
  · rw [if_pos i1]
    by_cases j1 : j < z
    · rw [if_pos j1]; exact h i j hij (by omega)
    · rw [if_neg j1]
      by_cases j2 : j = z
      · rw [if_pos j2]; exact hx i (by omega)
      · rw [if_neg j2, if_pos (by omega)]; exact h i (j - 1) (by omega) (by omega)
  · rw [if_neg i1, if_neg (show ¬ j < z by omega), if_neg (show ¬ j = z by omega), if_pos (show j ≤ p by omega)]
    by_cases i2 : i = z
    · rw [if_pos i2]; exact fun z2 => hx (j - 1) (by omega) z2.symm
    · rw [if_neg i2, if_pos (by omega)]; exact h (i - 1) (j - 1) (by omega) (by omega)
theorem insA_all {beh : Nat → Nat → Bool} {x p : Nat} {A : Nat → Nat} {Q : Nat → Prop} (h : ∀ i, i < p → Q (A i)) (hx : Q x) : ∀ i, i < p + 1 → Q (insA beh x p A i) := by
  obtain ⟨z, hz, e⟩ := insA_form beh x p A
  intro i hi
  rw [e i]
  by_cases i1 : i < z
  · rw [if_pos i1]; exact h i (by omega)
  · rw [if_neg i1]
    by_cases i2 : i = z
    · rw [if_pos i2]; exact hx
    · rw [if_neg i2, if_pos (by omega)]; exact h (i - 1) (by omega)
/-- sorted, one after another -/
def srt (beh : Nat → Nat → Bool) (s : Nat → Nat) : Nat → Nat → Nat
  | 0 => s
  | k + 1 => insA beh (s k) k (srt beh s k)
theorem srt_cg {beh : Nat → Nat → Bool} {s u : Nat → Nat} : ∀ k, (∀ i, i < k → s i = u i) → ∀ i, i < k → srt beh s k i = srt beh u k i := by
  intro k
  induction k with
  | zero => intro _ i hi; omega
  | succ k ih =>
    intro h i hi
    show insA beh (s k) k (srt beh s k) i = insA beh (u k) k (srt beh u k) i
    rw [h k (by omega)]
    exact insA_cg k _ _ (fun j hj => ih (fun l hl => h l (by omega)) j hj) i (by omega)
/-! the weights -/
def keyN (w : Nat → Int32) (s m : Nat) : Nat := if s = 0 then (w (80 + 10 * m + 6)).toNatClampNeg else if s = 1 then (w (80 + 10 * m + 5)).toNatClampNeg else if s = 2 then (w (80 + 10 * m + 1)).toNatClampNeg else m
def behN (w : Nat → Int32) (s a b : Nat) : Bool := if s < 4 then decide (keyN w s b < keyN w s a) else decide (keyN w (s - 4) a < keyN w (s - 4) b)
theorem keyN_le {w : Nat → Int32} {nb nm nt s m : Nat} (hw : WN w nb nm nt) (hF : WF w nb nm nt) (hm : m < nm) : keyN w s m ≤ 9999 := by
  have h50 := hw.m50
  obtain ⟨⟨a, ha, ea⟩, ⟨b, hb, eb⟩, ⟨c, hc, ec⟩, -⟩ := hF.2.2.2.2.2.1 m hm
  unfold keyN
  rw [ea, eb, ec, n_cl (by omega), n_cl (by omega), n_cl (by omega)]
  split
  · exact hc
  · split
    · exact hb
    · split <;> omega
theorem mod4 : ∀ s : Fin 8, nI s.val - nI s.val / 4 * 4 = nI (s.val % 4) := by decide
theorem keyOf_n {V : Mm} {nb nm nt s m : Nat} (hw : WN (V 1) nb nm nt) (hF : WF (V 1) nb nm nt) (hm : m < nm) (hs : s < 4) : eX6_keyOf (nI m) (nI s) V = some (nI (keyN (V 1) s m)) := by
  have h50 := hw.m50
  obtain ⟨⟨a, ha, ea⟩, ⟨b, hb, eb⟩, ⟨c, hc, ec⟩, -⟩ := hF.2.2.2.2.2.1 m hm
  have v1 : eX6_mailPart 1 (nI m) 1 V = some (V 1 (80 + 10 * m + 1)) := mailPart_n (c := 1) (by omega) (by omega)
  have v5 : eX6_mailPart 1 (nI m) 5 V = some (V 1 (80 + 10 * m + 5)) := mailPart_n (c := 5) (by omega) (by omega)
  have v6 : eX6_mailPart 1 (nI m) 6 V = some (V 1 (80 + 10 * m + 6)) := mailPart_n (c := 6) (by omega) (by omega)
  unfold eX6_keyOf keyN
  rw [v1, v5, v6, ea, eb, ec, n_cl (by omega), n_cl (by omega), n_cl (by omega)]
  have : s = 0 ∨ s = 1 ∨ s = 2 ∨ s = 3 := by omega
  rcases this with rfl | rfl | rfl | rfl
  · rfl
  · rfl
  · rfl
  · rfl
theorem isBehind_n {V : Mm} {nb nm nt s a b : Nat} (hw : WN (V 1) nb nm nt) (hF : WF (V 1) nb nm nt) (ha : a < nm) (hb : b < nm) (hs : s < 8) : eX6_isBehind (nI a) (nI b) (nI s) V = some (b2i (behN (V 1) s a b = true)) := by
  have k1 := keyN_le (s := s % 4) hw hF ha
  have k2 := keyN_le (s := s % 4) hw hF hb
  unfold eX6_isBehind behN
  rw [mod4 ⟨s, hs⟩]
  dsimp only
  rw [keyOf_n hw hF ha (by omega), keyOf_n hw hF hb (by omega)]
  by_cases h4 : s < 4
  · have e : s % 4 = s := by omega
    rw [e] at k1 k2 ⊢
    simp (disch := omega) only [q0a, q0b, q0c, q0d, q0e, q0f, p0_l, p0_r, p0_s, q1a, q1b, q1c, q1d, q1e, q1f, p1_l, p1_r, p1_s, q2a, q2b, q2c, q2d, q2e, q2f, p2_l, p2_r, p2_s, q3a, q3b, q3c, q3d, q3e, q3f, p3_l, p3_r, p3_s, q4a, q4b, q4c, q4d, q4e, q4f, p4_l, p4_r, p4_s, p4_m, q5a, q5b, q5c, q5d, q5e, q5f, p5_l, p5_r, p5_s, p5_m, q6a, q6b, q6c, q6d, q6e, q6f, p6_l, p6_r, p6_s, q7a, q7b, q7c, q7d, q7e, q7f, p7_l, p7_r, p7_s, q8a, q8b, q8c, q8d, q8e, q8f, p8_l, p8_r, p8_s, q9a, q9b, q9c, q9d, q9e, q9f, p9_l, p9_r, p9_s, q10a, q10b, q10c, q10d, q10e, q10f, p10_l, p10_r, p10_s, p10_m, q11a, q11b, q11c, q11d, q11e, q11f, p11_l, p11_r, p11_s, q12a, q12b, q12c, q12d, q12e, q12f, p12_l, p12_r, p12_s, q15a, q15b, q15c, q15d, q15e, q15f, p15_l, p15_r, p15_s, q19a, q19b, q19c, q19d, q19e, q19f, p19_l, p19_r, p19_s, q20a, q20b, q20c, q20d, q20e, q20f, p20_l, p20_r, p20_s, q31a, q31b, q31c, q31d, q31e, q31f, p31_l, p31_r, p31_s, q40a, q40b, q40c, q40d, q40e, q40f, p40_l, p40_r, p40_s, q48a, q48b, q48c, q48d, q48e, q48f, p48_l, p48_r, p48_s, q50a, q50b, q50c, q50d, q50e, q50f, p50_l, p50_r, p50_s, p50_m, q52a, q52b, q52c, q52d, q52e, q52f, p52_l, p52_r, p52_s, q60a, q60b, q60c, q60d, q60e, q60f, p60_l, p60_r, p60_s, q63a, q63b, q63c, q63d, q63e, q63f, p63_l, p63_r, p63_s, q80a, q80b, q80c, q80d, q80e, q80f, p80_l, p80_r, p80_s, q99a, q99b, q99c, q99d, q99e, q99f, p99_l, p99_r, p99_s, q100a, q100b, q100c, q100d, q100e, q100f, p100_l, p100_r, p100_s, q120a, q120b, q120c, q120d, q120e, q120f, p120_l, p120_r, p120_s, q240a, q240b, q240c, q240d, q240e, q240f, p240_l, p240_r, p240_s, q243a, q243b, q243c, q243d, q243e, q243f, p243_l, p243_r, p243_s, q244a, q244b, q244c, q244d, q244e, q244f, p244_l, p244_r, p244_s, q580a, q580b, q580c, q580d, q580e, q580f, p580_l, p580_r, p580_s, q581a, q581b, q581c, q581d, q581e, q581f, p581_l, p581_r, p581_s, q582a, q582b, q582c, q582d, q582e, q582f, p582_l, p582_r, p582_s, q583a, q583b, q583c, q583d, q583e, q583f, p583_l, p583_r, p583_s, q584a, q584b, q584c, q584d, q584e, q584f, p584_l, p584_r, p584_s, q585a, q585b, q585c, q585d, q585e, q585f, p585_l, p585_r, p585_s, q586a, q586b, q586c, q586d, q586e, q586f, p586_l, p586_r, p586_s, q999a, q999b, q999c, q999d, q999e, q999f, p999_l, p999_r, p999_s, q1000a, q1000b, q1000c, q1000d, q1000e, q1000f, p1000_l, p1000_r, p1000_s, q2400a, q2400b, q2400c, q2400d, q2400e, q2400f, p2400_l, p2400_r, p2400_s, q9999a, q9999b, q9999c, q9999d, q9999e, q9999f, p9999_l, p9999_r, p9999_s, I00, I01, I10, I11, n_le, n_lt, n_eq, n_cl, n_add, n_ne9, n_ne1, if_true, if_false, Option.bind_some, if_pos, if_neg]
    by_cases hc : keyN (V 1) s a ≤ keyN (V 1) s b
    · rw [if_pos hc]
      exact congrArg some (b2i_F (by simp; omega)).symm
    · rw [if_neg hc]
      exact congrArg some (b2i_T (by simp; omega)).symm
  · have e : s % 4 = s - 4 := by omega
    rw [e] at k1 k2 ⊢
    simp (disch := omega) only [q0a, q0b, q0c, q0d, q0e, q0f, p0_l, p0_r, p0_s, q1a, q1b, q1c, q1d, q1e, q1f, p1_l, p1_r, p1_s, q2a, q2b, q2c, q2d, q2e, q2f, p2_l, p2_r, p2_s, q3a, q3b, q3c, q3d, q3e, q3f, p3_l, p3_r, p3_s, q4a, q4b, q4c, q4d, q4e, q4f, p4_l, p4_r, p4_s, p4_m, q5a, q5b, q5c, q5d, q5e, q5f, p5_l, p5_r, p5_s, p5_m, q6a, q6b, q6c, q6d, q6e, q6f, p6_l, p6_r, p6_s, q7a, q7b, q7c, q7d, q7e, q7f, p7_l, p7_r, p7_s, q8a, q8b, q8c, q8d, q8e, q8f, p8_l, p8_r, p8_s, q9a, q9b, q9c, q9d, q9e, q9f, p9_l, p9_r, p9_s, q10a, q10b, q10c, q10d, q10e, q10f, p10_l, p10_r, p10_s, p10_m, q11a, q11b, q11c, q11d, q11e, q11f, p11_l, p11_r, p11_s, q12a, q12b, q12c, q12d, q12e, q12f, p12_l, p12_r, p12_s, q15a, q15b, q15c, q15d, q15e, q15f, p15_l, p15_r, p15_s, q19a, q19b, q19c, q19d, q19e, q19f, p19_l, p19_r, p19_s, q20a, q20b, q20c, q20d, q20e, q20f, p20_l, p20_r, p20_s, q31a, q31b, q31c, q31d, q31e, q31f, p31_l, p31_r, p31_s, q40a, q40b, q40c, q40d, q40e, q40f, p40_l, p40_r, p40_s, q48a, q48b, q48c, q48d, q48e, q48f, p48_l, p48_r, p48_s, q50a, q50b, q50c, q50d, q50e, q50f, p50_l, p50_r, p50_s, p50_m, q52a, q52b, q52c, q52d, q52e, q52f, p52_l, p52_r, p52_s, q60a, q60b, q60c, q60d, q60e, q60f, p60_l, p60_r, p60_s, q63a, q63b, q63c, q63d, q63e, q63f, p63_l, p63_r, p63_s, q80a, q80b, q80c, q80d, q80e, q80f, p80_l, p80_r, p80_s, q99a, q99b, q99c, q99d, q99e, q99f, p99_l, p99_r, p99_s, q100a, q100b, q100c, q100d, q100e, q100f, p100_l, p100_r, p100_s, q120a, q120b, q120c, q120d, q120e, q120f, p120_l, p120_r, p120_s, q240a, q240b, q240c, q240d, q240e, q240f, p240_l, p240_r, p240_s, q243a, q243b, q243c, q243d, q243e, q243f, p243_l, p243_r, p243_s, q244a, q244b, q244c, q244d, q244e, q244f, p244_l, p244_r, p244_s, q580a, q580b, q580c, q580d, q580e, q580f, p580_l, p580_r, p580_s, q581a, q581b, q581c, q581d, q581e, q581f, p581_l, p581_r, p581_s, q582a, q582b, q582c, q582d, q582e, q582f, p582_l, p582_r, p582_s, q583a, q583b, q583c, q583d, q583e, q583f, p583_l, p583_r, p583_s, q584a, q584b, q584c, q584d, q584e, q584f, p584_l, p584_r, p584_s, q585a, q585b, q585c, q585d, q585e, q585f, p585_l, p585_r, p585_s, q586a, q586b, q586c, q586d, q586e, q586f, p586_l, p586_r, p586_s, q999a, q999b, q999c, q999d, q999e, q999f, p999_l, p999_r, p999_s, q1000a, q1000b, q1000c, q1000d, q1000e, q1000f, p1000_l, p1000_r, p1000_s, q2400a, q2400b, q2400c, q2400d, q2400e, q2400f, p2400_l, p2400_r, p2400_s, q9999a, q9999b, q9999c, q9999d, q9999e, q9999f, p9999_l, p9999_r, p9999_s, I00, I01, I10, I11, n_le, n_lt, n_eq, n_cl, n_add, n_ne9, n_ne1, if_true, if_false, Option.bind_some, if_pos, if_neg]
    by_cases hc : keyN (V 1) (s - 4) b ≤ keyN (V 1) (s - 4) a
    · rw [if_pos hc]
      exact congrArg some (b2i_F (by simp; omega)).symm
    · rw [if_neg hc]
      exact congrArg some (b2i_T (by simp; omega)).symm
def wgtN (w : Nat → Int32) (s m : Nat) : Int32 := if s < 4 then nI (keyN w s m) else - nI (keyN w (s - 4) m)
theorem weight_n {Vc : Mm} {w : Nat → Int32} {nb nm nt s m : Nat} (hW : WRel Vc w nb nm nt) (hF : WF w nb nm nt) (hm : m < nm) (hs : s < 8) : eX5_weightOf (nI m) (nI s) Vc = some (wgtN w s m) := by
  have h50 := (WRel_WN hW).m50
  obtain ⟨⟨a, ha, ea⟩, ⟨b, hb, eb⟩, ⟨c, hc, ec⟩, -⟩ := hF.2.2.2.2.2.1 m hm
  have v0 : eX2_value 28 (nI m) 0 Vc = some (nI a) := by rw [value_0 (by omega), ← ea]; exact congrArg some (mailCol hW hm (c := 0) (by omega))
  have v4 : eX2_value 28 (nI m) 4 Vc = some (nI b) := by rw [value_4 (by omega), ← eb]; exact congrArg some (mailCol hW hm (c := 4) (by omega))
  have v5 : eX2_value 28 (nI m) 5 Vc = some (nI c) := by rw [value_5 (by omega), ← ec]; exact congrArg some (mailCol hW hm (c := 5) (by omega))
  unfold eX5_weightOf wgtN keyN eX5_weightOf_b12 eX5_weightOf_b64
  rw [ea, eb, ec, n_cl (by omega), n_cl (by omega), n_cl (by omega), v0, v4, v5]
  have : s = 0 ∨ s = 1 ∨ s = 2 ∨ s = 3 ∨ s = 4 ∨ s = 5 ∨ s = 6 ∨ s = 7 := by omega
  rcases this with rfl | rfl | rfl | rfl | rfl | rfl | rfl | rfl
  · rfl
  · rfl
  · rfl
  · rfl
  · rfl
  · rfl
  · rfl
  · rfl
theorem ng_ti {a : Nat} (ha : a < 2147483648) : (- nI a).toInt = -(a : Int) := by
  rw [Int32.toInt_neg, n_ti ha]
  apply Int.bmod_eq_of_le <;> omega
theorem wgt_le {w : Nat → Int32} {nb nm nt s a b : Nat} (hw : WN w nb nm nt) (hF : WF w nb nm nt) (ha : a < nm) (hb : b < nm) : (wgtN w s a ≤ wgtN w s b) = (behN w s a b = false) := by
  have k1 := keyN_le (s := s) hw hF ha
  have k2 := keyN_le (s := s) hw hF hb
  have k3 := keyN_le (s := s - 4) hw hF ha
  have k4 := keyN_le (s := s - 4) hw hF hb
  unfold wgtN behN
  by_cases h4 : s < 4
  · rw [if_pos h4, if_pos h4, if_pos h4, n_le (by omega) (by omega)]
    simp
  · rw [if_neg h4, if_neg h4, if_neg h4, i_le, ng_ti (by omega), ng_ti (by omega)]
    simp
